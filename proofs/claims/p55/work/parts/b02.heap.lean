/-! ===== fields and arrays ===== -/
/-- pool entry index of class own is field k of class ci -/
def FL (own : String) (index ci k : Nat) : Prop := ∃ (C : String) (T : u_T) (N : Nat), vwCl[ci]? = some (C, T, N) ∧ (∀ w ∈ u_ws C T N, w ∈ T0) ∧ k < N ∧ ∃ ref : String, Cond.fieldLink own index ref (T k).2.1 (T k).2.2.1 ∈ T0 ∧ ref = (T k).1
/-- the same of a nest mate's private field -/
def FN (own : String) (index ci k : Nat) : Prop := ∃ (C : String) (T : u_T) (N : Nat), vwCl[ci]? = some (C, T, N) ∧ (∀ w ∈ u_ws C T N, w ∈ T0) ∧ k < N ∧ ∃ ref host : String, Cond.fieldLinkNest own index ref (T k).2.1 (T k).2.2.1 host ∈ N0 ∧ ref = (T k).1
/-- field k of class ci may be written: its type ty, final or not -/
def FW (ci k : Nat) (fin : Bool) (ty : FieldType) : Prop := ∃ (C : String) (T : u_T) (N : Nat), vwCl[ci]? = some (C, T, N) ∧ ∃ ty0 : Nat → FieldType, (∀ k, k < N → parseFieldDescriptor (T k).2.2.1 = some (ty0 k)) ∧ (∀ a, a < N → ∀ b, b < N → a ≠ b → (T a).2.1 ≠ (T b).2.1) ∧ (T k).2.2.2 = fin ∧ parseFieldDescriptor (T k).2.2.1 = some ty
/-- class C is number ci, with its default fields fs -/
def CL (own : String) (index ci N : Nat) (fs : List Value) : Prop := ∃ (C : String) (T : u_T), vwCl[ci]? = some (C, T, N) ∧ (∀ w ∈ u_ws C T N, w ∈ T0) ∧ (∃ ty : Nat → FieldType, (∀ k, k < N → parseFieldDescriptor (T k).2.2.1 = some (ty k)) ∧ ∀ j, j < N → defaultValue (ty j) = vp_V fs j) ∧ Cond.classLink own index C ∈ T0 ∧ Cond.instantiable C N ∈ T0 ∧ Cond.initialized C ∈ T0
/-- one place of a function -/
def up1 {α : Type} (f : Nat → α) (i : Nat) (x : α) : Nat → α := fun j => if j = i then x else f j
/-- one place of one row -/
def up2 {α : Type} (v : Nat → Nat → α) (b i : Nat) (x : α) : Nat → Nat → α := fun b' => if b' = b then up1 (v b) i x else v b'
/-- the content of an int array, of numbers -/
abbrev aN (n : Nat) (g : Nat → Nat) : vp_A := (n, .inl (fun j => nI (g j)))
/-- of ints -/
abbrev aI (n : Nat) (f : Nat → Int32) : vp_A := (n, .inl f)
/-- of references -/
abbrev aR (n : Nat) (f : Nat → Option Nat) : vp_A := (n, .inr (.inr (.inr (.inr f))))
theorem arr_ext {c : ClassId} {n : Nat} {f g : Nat → Value} (h : ∀ j, j < n → f j = g j) : arrV c n f = arrV c n g := by
  unfold arrV
  congr 1
  apply Array.ext
  · simp
  · intro i h1 h2
    simp only [Array.size_ofFn, Array.size_map, Array.size_range] at h1
    simp [h i (by first | simpa using h1 | omega)]
theorem cell_R {c : ClassId} {n : Nat} {f g : Nat → Option Nat} (h : ∀ j, j < n → f j = g j) : vp_cell c (aR n f) = vp_cell c (aR n g) := arr_ext (f := fun j => va_rf (f j)) (g := fun j => va_rf (g j)) (fun j hj => by rw [h j hj])
theorem cell_I {c : ClassId} {n : Nat} {f g : Nat → Int32} (h : ∀ j, j < n → f j = g j) : vp_cell c (aI n f) = vp_cell c (aI n g) := arr_ext (f := fun j => .int (f j)) (g := fun j => .int (g j)) (fun j hj => by rw [h j hj])
theorem upd_nI {g : Nat → Nat} {i x : Nat} : upd (fun j => nI (g j)) i (nI x) = fun j => nI (up1 g i x j) := by
  funext j
  unfold upd up1
  split <;> rfl
/-- the array classes -/
def c0_cy (X : xC) : Nat → ClassId := X.2.2.2.2.2.2.2.2.2.2.2.1.2.1
/-- the name of the method that runs -/
def c0_name (X : xC) : String := X.2.2.2.2.2.2.2.2.1.name
section VHEAP
variable {SF : (Nat → Nat) → (Nat → Prop) → State → Heap → Prop} {X : xC} {cc : ByteArray} {own : String} {d mc ms : Nat} {k n : Nat} {ws : va_W} {L : List (Option Value)} {st : List Value} {pc pc' : Nat}

theorem r_getM {index ci kf a : Nat} {fs : List Value} {v : Value} (hX : Ok SF X cc own d mc ms) (hd : decode cc pc = .ok (.getfield index, 3)) (hf : FL own index ci kf) (he : (a, Sum.inr (ci, fs)) ∈ ws) (hv : fs[kf]? = some v) (hp : pc + 3 = pc') (h : V X k n ws L (v :: st) pc') : V X k n ws L (.ref a :: st) pc := by
  obtain ⟨p, l, e, R, s, m, args, below, meth, c, nL, G, A, Q⟩ := X
  obtain ⟨hx, hb, hown, hts, hK, hA, hlk, hml, hR, hsf, hNw⟩ := hX
  obtain ⟨C, T, N, h1, h2, h3, ref, h4, h5⟩ := hf
  subst hp h5
  intro H locs ls hP hD hS hl
  obtain ⟨q0, hq⟩ := List.getElem?_of_mem he
  exact va_get (D := G.1) (C := C) (T := T) (N := N) hx hb hts h2 hown hK hP q0 hq h1 kf h3 (hts _ h4) (fun _ h9 => h9) hv hd (h H locs ls hP hD hS hl)
theorem r_get {index ci kf a : Nat} {fs : List Value} {v : Value} (hX : Ok SF X cc own d mc ms) (hd : decode cc pc = .ok (.getfield index, 3)) (hf : FL own index ci kf) (q0 : Nat) (he : ws[q0]? = some (a, Sum.inr (ci, fs))) (hv : fs[kf]? = some v) (hp : pc + 3 = pc') (h : V X k n ws L (v :: st) pc') : V X k n ws L (.ref a :: st) pc := r_getM hX hd hf (List.mem_of_getElem? he) hv hp h
theorem r_getNM {index ci kf a : Nat} {fs : List Value} {v : Value} (hX : Ok SF X cc own d mc ms) (hd : decode cc pc = .ok (.getfield index, 3)) (hf : FN own index ci kf) (he : (a, Sum.inr (ci, fs)) ∈ ws) (hv : fs[kf]? = some v) (hp : pc + 3 = pc') (h : V X k n ws L (v :: st) pc') : V X k n ws L (.ref a :: st) pc := by
  obtain ⟨p, l, e, R, s, m, args, below, meth, c, nL, G, A, Q⟩ := X
  obtain ⟨hx, hb, hown, hts, hK, hA, hlk, hml, hR, hsf, hNw⟩ := hX
  obtain ⟨C, T, N, h1, h2, h3, ref, host, h4, h5⟩ := hf
  subst hp h5
  intro H locs ls hP hD hS hl
  obtain ⟨q0, hq⟩ := List.getElem?_of_mem he
  exact va_getN (D := G.1) (C := C) (T := T) (N := N) hx hb hts h2 hown hK hP q0 hq h1 kf h3 (va_Nw.use rfl (hNw _ h4)) (fun _ h9 => h9) hv hd (h H locs ls hP hD hS hl)
theorem r_getN {index ci kf a : Nat} {fs : List Value} {v : Value} (hX : Ok SF X cc own d mc ms) (hd : decode cc pc = .ok (.getfield index, 3)) (hf : FN own index ci kf) (q0 : Nat) (he : ws[q0]? = some (a, Sum.inr (ci, fs))) (hv : fs[kf]? = some v) (hp : pc + 3 = pc') (h : V X k n ws L (v :: st) pc') : V X k n ws L (.ref a :: st) pc := r_getNM hX hd hf (List.mem_of_getElem? he) hv hp h
theorem r_put {index ci kf a : Nat} {fs : List Value} {v : Value} {ty : FieldType} {ws' : va_W} (hX : Ok SF X cc own d mc ms) (hd : decode cc pc = .ok (.putfield index, 3)) (hf : FL own index ci kf) (hw : FW ci kf false ty) (q0 : Nat) (he : ws[q0]? = some (a, Sum.inr (ci, fs))) (hn : narrow ty v = v) (hfit : fits ty v = true) (hl0 : kf < fs.length) (hws : ws.set q0 (a, Sum.inr (ci, fs.set kf v)) = ws') (hp : pc + 3 = pc') (h : V X k n ws' L st pc') : V X k n ws L (v :: .ref a :: st) pc := by
  obtain ⟨p, l, e, R, s, m, args, below, meth, c, nL, G, A, Q⟩ := X
  obtain ⟨hx, hb, hown, hts, hK, hA, hlk, hml, hR, hsf, hNw⟩ := hX
  obtain ⟨C, T, N, h1, h2, h3, ref, h4, h5⟩ := hf
  obtain ⟨C', T', N', g1, ty0, g2, g3, g4, g5⟩ := hw
  cases h1.symm.trans g1
  subst hp h5 hws
  intro H locs ls hP hD hS hl
  exact va_put (D := G.1) (C := C) (T := T) (N := N) hx hb hts h2 ty0 g2 g3 hown hK hP hD hS q0 he h1 kf h3 (hts _ h4) (fun _ h9 => h9) g4 g5 hn hfit hl0 hd (fun H1 locs1 hP hD hS => h H1 locs1 ls hP hD hS hl)
theorem r_putN {index ci kf a : Nat} {fs : List Value} {v : Value} {ty : FieldType} {ws' : va_W} (hX : Ok SF X cc own d mc ms) (hd : decode cc pc = .ok (.putfield index, 3)) (hf : FN own index ci kf) (hw : FW ci kf false ty) (q0 : Nat) (he : ws[q0]? = some (a, Sum.inr (ci, fs))) (hn : narrow ty v = v) (hfit : fits ty v = true) (hl0 : kf < fs.length) (hws : ws.set q0 (a, Sum.inr (ci, fs.set kf v)) = ws') (hp : pc + 3 = pc') (h : V X k n ws' L st pc') : V X k n ws L (v :: .ref a :: st) pc := by
  obtain ⟨p, l, e, R, s, m, args, below, meth, c, nL, G, A, Q⟩ := X
  obtain ⟨hx, hb, hown, hts, hK, hA, hlk, hml, hR, hsf, hNw⟩ := hX
  obtain ⟨C, T, N, h1, h2, h3, ref, host, h4, h5⟩ := hf
  obtain ⟨C', T', N', g1, ty0, g2, g3, g4, g5⟩ := hw
  cases h1.symm.trans g1
  subst hp h5 hws
  intro H locs ls hP hD hS hl
  exact va_putN (D := G.1) (C := C) (T := T) (N := N) hx hb hts h2 ty0 g2 g3 hown hK hP hD hS q0 he h1 kf h3 (va_Nw.use rfl (hNw _ h4)) (fun _ h9 => h9) g4 g5 hn hfit hl0 hd (fun H1 locs1 hP hD hS => h H1 locs1 ls hP hD hS hl)
theorem r_putF {index ci kf a : Nat} {fs : List Value} {v : Value} {ty : FieldType} {ws' : va_W} (hX : Ok SF X cc own d mc ms) (hd : decode cc pc = .ok (.putfield index, 3)) (hf : FL own index ci kf) (hw : FW ci kf true ty) (hin : c0_name X = "<init>") (hcl : ∀ (C : String) (T : u_T) (N : Nat), vwCl[ci]? = some (C, T, N) → (T kf).1 = own) (q0 : Nat) (he : ws[q0]? = some (a, Sum.inr (ci, fs))) (hn : narrow ty v = v) (hfit : fits ty v = true) (hl0 : kf < fs.length) (hws : ws.set q0 (a, Sum.inr (ci, fs.set kf v)) = ws') (hp : pc + 3 = pc') (h : V X k n ws' L st pc') : V X k n ws L (v :: .ref a :: st) pc := by
  obtain ⟨p, l, e, R, s, m, args, below, meth, c, nL, G, A, Q⟩ := X
  obtain ⟨hx, hb, hown, hts, hK, hA, hlk, hml, hR, hsf, hNw⟩ := hX
  obtain ⟨C, T, N, h1, h2, h3, ref, h4, h5⟩ := hf
  obtain ⟨C', T', N', g1, ty0, g2, g3, g4, g5⟩ := hw
  cases h1.symm.trans g1
  subst hp h5 hws
  intro H locs ls hP hD hS hl
  exact va_putF (D := G.1) (C := C) (T := T) (N := N) hx hb hts h2 ty0 g2 g3 hown hK hP hD hS q0 he h1 kf h3 (hts _ h4) (fun _ h9 => h9) g4 hin (hcl _ _ _ h1) g5 hn hfit hl0 hd (fun H1 locs1 hP hD hS => h H1 locs1 ls hP hD hS hl)
theorem tys_at {cy : Nat → ClassId} {t : Nat} {q : ClassId × FieldType} (h : (tysG cy)[t]? = some q) : (tysG cy)[t]? = some q := h
theorem r_iald {a i n0 : Nat} {f : Nat → Int32} {x : Int32} {cA : ClassId} (hX : Ok SF X cc own d mc ms) (hd : decode cc pc = .ok (.iaload, 1)) (hc : c0_cy X 0 = cA) (he : (a, Sum.inl (cA, aI n0 f)) ∈ ws) (hi : i < n0) (hn : n0 < 2147483648) (hxv : f i = x) (hp : pc + 1 = pc') (h : V X k n ws L (.int x :: st) pc') : V X k n ws L (.int (nI i) :: .ref a :: st) pc := by
  obtain ⟨p, l, e, R, s, m, args, below, meth, c, nL, G, A, Q⟩ := X
  obtain ⟨hx, hb, hown, hts, hK, hA, hlk, hml, hR, hsf, hNw⟩ := hX
  subst hp hxv hc
  intro H locs ls hP hD hS hl
  obtain ⟨q0, hq⟩ := List.getElem?_of_mem he
  have hcl : (nI i).toNatClampNeg = i := nI_clamp (by omega)
  exact va_iald (D := G.1) hx hb hK hP q0 0 hq rfl (vp_in_nI hi hn) hd (by rw [hcl]; exact h H locs ls hP hD hS hl)
theorem r_iald_N {a i n0 : Nat} {g : Nat → Nat} {cA : ClassId} (hX : Ok SF X cc own d mc ms) (hd : decode cc pc = .ok (.iaload, 1)) (hc : c0_cy X 0 = cA) (q0 : Nat) (he : ws[q0]? = some (a, Sum.inl (cA, aN n0 g))) (hi : i < n0) (hn : n0 < 2147483648) (hp : pc + 1 = pc') (h : V X k n ws L (.int (nI (g i)) :: st) pc') : V X k n ws L (.int (nI i) :: .ref a :: st) pc := r_iald hX hd hc (List.mem_of_getElem? he) hi hn rfl hp h
theorem r_iald_M {a i n0 : Nat} {g : Nat → Nat} {cA : ClassId} (hX : Ok SF X cc own d mc ms) (hd : decode cc pc = .ok (.iaload, 1)) (hc : c0_cy X 0 = cA) (he : (a, Sum.inl (cA, aN n0 g)) ∈ ws) (hi : i < n0) (hn : n0 < 2147483648) (hp : pc + 1 = pc') (h : V X k n ws L (.int (nI (g i)) :: st) pc') : V X k n ws L (.int (nI i) :: .ref a :: st) pc := r_iald hX hd hc he hi hn rfl hp h
theorem r_iast {a i n0 : Nat} {f : Nat → Int32} {x : Int32} {cA : ClassId} {ws' : va_W} (hX : Ok SF X cc own d mc ms) (hd : decode cc pc = .ok (.iastore, 1)) (hc : c0_cy X 0 = cA) (q0 : Nat) (he : ws[q0]? = some (a, Sum.inl (cA, aI n0 f))) (hi : i < n0) (hn : n0 < 2147483648) (hws : ws.set q0 (a, Sum.inl (cA, aI n0 (upd f i x))) = ws') (hp : pc + 1 = pc') (h : V X k n ws' L st pc') : V X k n ws L (.int x :: .int (nI i) :: .ref a :: st) pc := by
  obtain ⟨p, l, e, R, s, m, args, below, meth, c, nL, G, A, Q⟩ := X
  obtain ⟨hx, hb, hown, hts, hK, hA, hlk, hml, hR, hsf, hNw⟩ := hX
  subst hp hc hws
  intro H locs ls hP hD hS hl
  have hcl : (nI i).toNatClampNeg = i := nI_clamp (by omega)
  have hi9 := vp_in_nI hi hn
  refine va_iast (D := G.1) hx hb hK hP hD hS q0 0 he rfl hi9 hd (fun H1 locs1 hP hD hS => ?_)
  rw [hcl] at hP hD
  exact h H1 locs1 ls hP hD hS hl
theorem r_iast_N {a i n0 y : Nat} {g : Nat → Nat} {cA : ClassId} {ws' : va_W} (hX : Ok SF X cc own d mc ms) (hd : decode cc pc = .ok (.iastore, 1)) (hc : c0_cy X 0 = cA) (q0 : Nat) (he : ws[q0]? = some (a, Sum.inl (cA, aN n0 g))) (hi : i < n0) (hn : n0 < 2147483648) (hws : ws.set q0 (a, Sum.inl (cA, aN n0 (up1 g i y))) = ws') (hp : pc + 1 = pc') (h : V X k n ws' L st pc') : V X k n ws L (.int (nI y) :: .int (nI i) :: .ref a :: st) pc :=
  r_iast hX hd hc q0 he hi hn (by rw [upd_nI]; exact hws) hp h
theorem r_aald {a i n0 y : Nat} {f : Nat → Option Nat} {cA : ClassId} {ty : FieldType} (hX : Ok SF X cc own d mc ms) (hd : decode cc pc = .ok (.aaload, 1)) (t0 : Nat) (ht : (tysG (c0_cy X))[t0]? = some (cA, ty)) (hty : ty.isReference = true) (he : (a, Sum.inl (cA, aR n0 f)) ∈ ws) (hi : i < n0) (hn : n0 < 2147483648) (hf : f i = some y) (hp : pc + 1 = pc') (h : V X k n ws L (.ref y :: st) pc') : V X k n ws L (.int (nI i) :: .ref a :: st) pc := by
  obtain ⟨p, l, e, R, s, m, args, below, meth, c, nL, G, A, Q⟩ := X
  obtain ⟨hx, hb, hown, hts, hK, hA, hlk, hml, hR, hsf, hNw⟩ := hX
  subst hp
  intro H locs ls hP hD hS hl
  obtain ⟨q0, hq⟩ := List.getElem?_of_mem he
  have hcl : (nI i).toNatClampNeg = i := nI_clamp (by omega)
  refine W.aald (v := .ref y) (ty := ty) hx hb (hP q0 _ hq) ((hK.2 t0 _ ht).1 n0 (fun j => va_rf (f j))) hty (fun q => by cases q) ?_ ?_ rfl rfl hd (h H locs ls hP hD hS hl)
  · show ¬ (nI i < 0 ∨ (arrV _ _ _).slots.size ≤ _)
    rw [arrV_size]
    exact vp_in_nI hi hn
  · show (arrV _ _ _).slots[_]? = _
    rw [hcl, arrV_read _ _ hi, hf]
    rfl
theorem r_alen {a n0 : Nat} {cA : ClassId} {x : vp_A} {ty : FieldType} (hX : Ok SF X cc own d mc ms) (hd : decode cc pc = .ok (.arraylength, 1)) (t0 : Nat) (ht : (tysG (c0_cy X))[t0]? = some (cA, ty)) (he : (a, Sum.inl (cA, x)) ∈ ws) (hv : x.1 = n0) (hp : pc + 1 = pc') (h : V X k n ws L (.int (nI n0) :: st) pc') : V X k n ws L (.ref a :: st) pc := by
  obtain ⟨p, l, e, R, s, m, args, below, meth, c, nL, G, A, Q⟩ := X
  obtain ⟨hx, hb, hown, hts, hK, hA, hlk, hml, hR, hsf, hNw⟩ := hX
  subst hp hv
  intro H locs ls hP hD hS hl
  obtain ⟨q0, hq⟩ := List.getElem?_of_mem he
  exact va_alen (D := G.1) hx hb hK hP q0 t0 hq ht rfl hd (h H locs ls hP hD hS hl)
theorem r_aast {a i n0 y ci : Nat} {f : Nat → Option Nat} {cA : ClassId} {r : vw_C} {vs : List Value} {ws' : va_W} (hX : Ok SF X cc own d mc ms) (hd : decode cc pc = .ok (.aastore, 1)) (t0 : Nat) (ht : (tysG (c0_cy X))[t0]? = some (cA, .object r.1)) (q0 : Nat) (he : ws[q0]? = some (a, Sum.inl (cA, aR n0 f))) (hy : (y, Sum.inr (ci, vs)) ∈ ws) (hcl : vwCl[ci]? = some r) (hi : i < n0) (hn : n0 < 2147483648) (hws : ws.set q0 (a, Sum.inl (cA, aR n0 (va_up f i (some y)))) = ws') (hp : pc + 1 = pc') (h : V X k n ws' L st pc') : V X k n ws L (.ref y :: .int (nI i) :: .ref a :: st) pc := by
  obtain ⟨p, l, e, R, s, m, args, below, meth, c, nL, G, A, Q⟩ := X
  obtain ⟨hx, hb, hown, hts, hK, hA, hlk, hml, hR, hsf, hNw⟩ := hX
  subst hp hws
  intro H locs ls hP hD hS hl
  obtain ⟨q1, hq⟩ := List.getElem?_of_mem hy
  have hi9 := vp_in_nI hi hn
  have hc9 : (nI i).toNatClampNeg = i := nI_clamp (by omega)
  refine va_astq (D := G.1) hx hb hK hP hD hS q0 t0 q1 ci he ht hq hcl hi9 hd (fun H1 locs1 hP hD hS => ?_)
  rw [hc9] at hP hD
  exact h H1 locs1 ls hP hD hS hl
theorem r_new {index ci N k' n' : Nat} {fs : List Value} (hX : Ok SF X cc own d mc ms) (hd : decode cc pc = .ok (.new index, 3)) (hc : CL own index ci N fs) (hk : k + 1 = k') (hn : n + N = n') (hk2 : k' ≤ mc) (hn2 : n' ≤ ms) (hp : pc + 3 = pc') (h : ∀ q : Nat, V X k' n' (ws ++ [(q, Sum.inr (ci, fs))]) L (.ref q :: st) pc') : V X k n ws L st pc := by
  obtain ⟨p, l, e, R, s, m, args, below, meth, c, nL, G, A, Q⟩ := X
  obtain ⟨hx, hb, hown, hts, hK, hA, hlk, hml, hR, hsf, hNw⟩ := hX
  obtain ⟨C, T, h1, h2, ⟨ty, h3, h4⟩, h5, h6, h7⟩ := hc
  subst hp hk hn
  intro H locs ls hP hD hS hl
  exact va_new (D := G.1) (C := C) (T := T) (N := N) hx hb hts h2 ty h3 hown (hts _ h5) (hts _ h6) (hts _ h7) hK hP hD hS hA h1 h4 (Nat.le_trans hk2 hR.2.2.1) (Nat.le_trans hn2 hR.2.2.2) hd (fun q H1 hP hD hS => h q H1 locs ls hP hD hS hl)
/-- a new array of ints, chars, bytes, longs, doubles -/
theorem r_newa {atype : ArrayType} {ty : FieldType} {N k' n' t0 : Nat} {a0 : vp_A} {cA : ClassId} (hX : Ok SF X cc own d mc ms) (hd : decode cc pc = .ok (.newarray atype, 2)) (harr : Cond.arrayClass (newarray.typeOf atype) ∈ T0) (hty : newarray.typeOf atype = ty) (t0 : Nat) (ht : (tysG (c0_cy X))[t0]? = some (cA, ty)) (hre : ∀ (U : State) (cA : ClassId), va_RA U cA ty → U.vm.findClass ("[" ++ ty.toString) = some cA) (ha : ∀ cA : ClassId, vp_cell cA a0 = arrV cA N (fun _ => defaultValue ty)) (hN : N < 67108864) (hby : componentBytes ty ≤ 8) (hk : k + 1 = k') (hn : n + N = n') (hk2 : k' ≤ mc) (hn2 : n' ≤ ms) (hp : pc + 2 = pc') (h : ∀ q : Nat, V X k' n' (ws ++ [(q, Sum.inl (cA, a0))]) L (.ref q :: st) pc') : V X k n ws L (.int (nI N) :: st) pc := by
  obtain ⟨p, l, e, R, s, m, args, below, meth, c, nL, G, A, Q⟩ := X
  obtain ⟨hx, hb, hown, hts, hK, hA, hlk, hml, hR, hsf, hNw⟩ := hX
  subst hp hk hn
  intro H locs ls hP hD hS hl
  have hNb : N * componentBytes ty ≤ 536870912 := Nat.le_trans (Nat.mul_le_mul_left N hby) (by omega)
  refine va_newa (D := G.1) (ty := ty) (a0 := a0) (N' := N) hx hb (hts _ harr) hty hK hP hD hS hA ha (nI_pos (by omega)) (nI_clamp (by omega)) hNb (Nat.le_trans hk2 hR.2.2.1) (Nat.le_trans hn2 hR.2.2.2) hd (fun q cB H1 hK1 hP hD hS => ?_)
  have e1 := hre s cA (hK.2 t0 _ ht).2
  have e2 := hre s cB (hK1.2 _ (cB, ty) (by rw [List.getElem?_append_right (Nat.le_refl _)]; simp)).2
  cases Option.some.inj (e2.symm.trans e1)
  exact h q H1 locs ls hP hD hS hl
/-- a new array of references to objects -/
theorem r_newq {index N k' n' : Nat} {C : String} {cA : ClassId} (hX : Ok SF X cc own d mc ms) (hd : decode cc pc = .ok (.anewarray index, 3)) (hcl : Cond.classLink own index C ∈ T0) (hov : Cond.arrayOver (.object C) ∈ N0) (t0 : Nat) (ht : (tysG (c0_cy X))[t0]? = some (cA, .object C)) (hN : N < 67108864) (hk : k + 1 = k') (hn : n + N = n') (hk2 : k' ≤ mc) (hn2 : n' ≤ ms) (hp : pc + 3 = pc') (h : ∀ q : Nat, V X k' n' (ws ++ [(q, Sum.inl (cA, aR N (fun _ => none)))]) L (.ref q :: st) pc') : V X k n ws L (.int (nI N) :: st) pc := by
  obtain ⟨p, l, e, R, s, m, args, below, meth, c, nL, G, A, Q⟩ := X
  obtain ⟨hx, hb, hown, hts, hK, hA, hlk, hml, hR, hsf, hNw⟩ := hX
  subst hp hk hn
  intro H locs ls hP hD hS hl
  refine va_newq (D := G.1) (N' := N) hx hb hown (hts _ hcl) (hNw _ hov) hK hP hD hS hA (nI_pos (by omega)) (nI_clamp (by omega)) (by omega) (Nat.le_trans hk2 hR.2.2.1) (Nat.le_trans hn2 hR.2.2.2) hd (fun q cB H1 hK1 hP hD hS => ?_)
  obtain ⟨-, -, -, -, -, e1⟩ := (hK.2 t0 _ ht).2
  obtain ⟨-, -, -, -, -, e2⟩ := (hK1.2 _ (cB, FieldType.object C) (by rw [List.getElem?_append_right (Nat.le_refl _)]; simp)).2
  cases Option.some.inj (e2.symm.trans e1)
  exact h q H1 locs ls hP hD hS hl
end VHEAP
