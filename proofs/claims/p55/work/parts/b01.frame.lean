/-! ===== the judgement V: all that is fixed for one run of a method stands in X; what moves is the world, the locals by place, the stack, the pc ===== -/
abbrev xG : Type := va_G × (Nat → ClassId) × (Nat → Nat)
abbrev xC : Type := Program × Launch × Env × Room × State × MethodId × Array Value × List Frame × Method × Code × Nat × xG × (Nat → Prop) × (State → Prop)
/-- the array classes: int[] (int[]) byte[] int[][] Batch[] State[] -/
def tysG (cy : Nat → ClassId) : List (ClassId × FieldType) := [(cy 0, .int), (cy 0, .int), (cy 2, .byte), (cy 3, .array .int), (cy 4, .object "BowFoundry$Batch"), (cy 5, .object "BowFoundry$State")]
/-- locals by place -/
def lo_has (ls : Array Slot) (nL : Nat) (L : List (Option Value)) : Prop := ls.size = nL ∧ lv_wf ls ∧ ∀ (i : Nat) (v : Value), L[i]? = some (some v) → ls[i]? = some (Slot.val v)
def lo_at (L : List (Option Value)) : List (Nat × Value) := (List.range L.length).filterMap (fun j => match L[j]? with | some (some v) => some (j, v) | _ => none)
theorem lo_mem {L : List (Option Value)} {j : Nat} {v : Value} : (j, v) ∈ lo_at L ↔ L[j]? = some (some v) := by
  unfold lo_at
  rw [List.mem_filterMap]
  constructor
  · rintro ⟨k, hk, h⟩
    split at h
    · rename_i x hx
      cases h
      exact hx
    · cases h
  · intro h
    refine ⟨j, List.mem_range.mpr (List.getElem?_eq_some_iff.mp h).1, ?_⟩
    rw [h]
theorem lo_lv {ls : Array Slot} {nL : Nat} {L : List (Option Value)} (h : lo_has ls nL L) : lv_has ls nL (lo_at L) :=
  ⟨h.1, h.2.1, fun q hq => h.2.2 q.1 q.2 (lo_mem.mp hq)⟩
/-- no wide value stands just ahead of place i -/
def lo_ok (L : List (Option Value)) : Nat → Bool
  | 0 => true
  | i + 1 => match L[i]? with
    | some (some v) => !(v.category == 2)
    | _ => true
theorem lo_set1 {ls' : Array Slot} {nL : Nat} {L : List (Option Value)} {i : Nat} {v : Value} (h : lv_has ls' nL ((i, v) :: (lo_at L).filter (fun q => !(q.1 == i) && !(q.1 + 1 == i && q.2.category == 2)))) (ho : lo_ok L i = true) : lo_has ls' nL (L.set i (some v)) := by
  refine ⟨h.1, h.2.1, fun j u hj => ?_⟩
  by_cases e : j = i
  · subst e
    rw [List.getElem?_set] at hj
    split at hj
    · split at hj
      · cases hj
        exact h.2.2 _ List.mem_cons_self
      · cases hj
    · rename_i q
      exact absurd rfl q
  · rw [List.getElem?_set_ne (fun q => e q.symm)] at hj
    refine h.2.2 (j, u) (List.mem_cons_of_mem _ (List.mem_filter.mpr ⟨lo_mem.mpr hj, ?_⟩))
    have h1 : (j == i) = false := by simpa using e
    simp only [h1, Bool.not_false, Bool.true_and]
    by_cases e2 : j + 1 = i
    · subst e2
      simp only [lo_ok, hj] at ho
      simp only [beq_self_eq_true, Bool.true_and]
      exact ho
    · have h2 : (j + 1 == i) = false := by simpa using e2
      simp [h2]
theorem lo_set2 {ls' : Array Slot} {nL : Nat} {L : List (Option Value)} {i : Nat} {v : Value} (h : lv_has ls' nL ((i, v) :: (lo_at L).filter (fun q => !(q.1 == i) && (!(q.1 == i + 1) && !(q.1 + 1 == i && q.2.category == 2))))) (ho : lo_ok L i = true) : lo_has ls' nL ((L.set i (some v)).set (i + 1) none) := by
  refine ⟨h.1, h.2.1, fun j u hj => ?_⟩
  by_cases e3 : j = i + 1
  · subst e3
    rw [List.getElem?_set] at hj
    split at hj
    · split at hj <;> cases hj
    · rename_i q
      exact absurd rfl q
  rw [List.getElem?_set_ne (fun q => e3 q.symm)] at hj
  by_cases e : j = i
  · subst e
    rw [List.getElem?_set] at hj
    split at hj
    · split at hj
      · cases hj
        exact h.2.2 _ List.mem_cons_self
      · cases hj
    · rename_i q
      exact absurd rfl q
  · rw [List.getElem?_set_ne (fun q => e q.symm)] at hj
    refine h.2.2 (j, u) (List.mem_cons_of_mem _ (List.mem_filter.mpr ⟨lo_mem.mpr hj, ?_⟩))
    have h1 : (j == i) = false := by simpa using e
    have h3 : (j == i + 1) = false := by simpa using e3
    simp only [h1, h3, Bool.not_false, Bool.true_and]
    by_cases e2 : j + 1 = i
    · subst e2
      simp only [lo_ok, hj] at ho
      simp only [beq_self_eq_true, Bool.true_and]
      exact ho
    · have h2 : (j + 1 == i) = false := by simpa using e2
      simp [h2]
theorem lo_none {ls : Array Slot} {nL : Nat} {L : List (Option Value)} (h : lo_has ls nL L) {L' : List (Option Value)} (h2 : ∀ (i : Nat) (v : Value), L'[i]? = some (some v) → L[i]? = some (some v)) : lo_has ls nL L' := ⟨h.1, h.2.1, fun i v hi => h.2.2 i v (h2 i v hi)⟩
def V (X : xC) (k n : Nat) (ws : va_W) (L : List (Option Value)) (st : List Value) (pc : Nat) : Prop := match X with
  | (p, l, e, R, s, m, args, below, meth, c, nL, G, A, Q) => ∀ (H : Heap) (locs : List Loc) (ls : Array Slot), va_P G.1 vwCl ws H → va_D A ws → va_S A s.heap H locs → lo_has ls nL L → W p l e R s m args below meth c H locs k n Q (F0 m pc ls st)
/-- the fixed facts of a run of the method with bytes cc, in class own; SF: the statics' facts; d mc ms: the room -/
def Ok (SF : (Nat → Nat) → (Nat → Prop) → State → Heap → Prop) (X : xC) (cc : ByteArray) (own : String) (d mc ms : Nat) : Prop := match X with
  | (p, _, _, R, s, m, args, _, meth, c, nL, G, A, _) => p.tables.exec = Jvm.exec ∧ c.code = cc ∧ s.vm.findClass own = some m.cls ∧ (∀ w ∈ T0, w.before args s = true) ∧ va_K G.1 vwCl (tysG G.2.1) s ∧ (∀ q, s.heap.size ≤ q → A q) ∧ meth.locks = false ∧ c.maxLocals = nL ∧ (d ≤ R.frames ∧ 40 * d ≤ R.locals ∧ mc ≤ R.cells ∧ ms ≤ R.slots) ∧ SF G.2.2 A s s.heap ∧ ∀ w ∈ N0, va_Nw w s
/-- the number of locals -/
def c0_nL (X : xC) : Nat := X.2.2.2.2.2.2.2.2.2.2.1
section VROWS
variable {SF : (Nat → Nat) → (Nat → Prop) → State → Heap → Prop} {X : xC} {cc : ByteArray} {own : String} {d mc ms : Nat} {k n : Nat} {ws : va_W} {L : List (Option Value)} {st : List Value} {pc pc' : Nat}
theorem V_perm {ws2 : va_W} (hp : ws.Perm ws2) (h : V X k n ws2 L st pc) : V X k n ws L st pc := by
  obtain ⟨p, l, e, R, s, m, args, below, meth, c, nL, G, A, Q⟩ := X
  intro H locs ls hP hD hS hl
  have hm : ∀ {D : va_G}, va_P D vwCl ws H → va_P D vwCl ws2 H := fun hP k q hq => by
    obtain ⟨i, hi⟩ := List.getElem?_of_mem (hp.mem_iff.mpr (List.mem_of_getElem? hq))
    exact hP i q hi
  have hn : (ws.map Prod.fst).Nodup := by
    rw [List.nodup_iff_pairwise_ne, List.pairwise_iff_getElem]
    intro i j hi hj hij e
    simp only [List.length_map] at hi hj
    rw [List.getElem_map, List.getElem_map] at e
    have := hD.1 i j ws[i] ws[j] (List.getElem?_eq_getElem hi) (List.getElem?_eq_getElem hj) e
    omega
  have hn2 : (ws2.map Prod.fst).Nodup := (hp.map Prod.fst).nodup_iff.mp hn
  refine h H locs ls (hm hP) ⟨fun i j x y hx hy e => ?_, fun i q hq => ?_⟩ hS hl
  · obtain ⟨hi, rfl⟩ := List.getElem?_eq_some_iff.mp hx
    obtain ⟨hj, rfl⟩ := List.getElem?_eq_some_iff.mp hy
    rw [List.nodup_iff_pairwise_ne, List.pairwise_iff_getElem] at hn2
    rcases Nat.lt_trichotomy i j with q | q | q
    · exact absurd (by rw [List.getElem_map, List.getElem_map]; exact e) (hn2 i j (by simpa using hi) (by simpa using hj) q)
    · exact q
    · exact absurd (by rw [List.getElem_map, List.getElem_map]; exact e.symm) (hn2 j i (by simpa using hj) (by simpa using hi) q)
  · obtain ⟨i', hi'⟩ := List.getElem?_of_mem (hp.mem_iff.mpr (List.mem_of_getElem? hq))
    exact hD.2 i' q hi'
theorem V_eq {ws2 : va_W} (hp : ws = ws2) (h : V X k n ws2 L st pc) : V X k n ws L st pc := hp ▸ h
theorem V_widen {k' n' : Nat} (hk : k ≤ k') (hn : n ≤ n') (h : V X k' n' ws L st pc) : V X k n ws L st pc := by
  obtain ⟨p, l, e, R, s, m, args, below, meth, c, nL, G, A, Q⟩ := X
  intro H locs ls hP hD hS hl
  exact W.widen hk hn (h H locs ls hP hD hS hl)
theorem V_loc {L' : List (Option Value)} (h2 : ∀ (i : Nat) (v : Value), L'[i]? = some (some v) → L[i]? = some (some v)) (h : V X k n ws L' st pc) : V X k n ws L st pc := by
  obtain ⟨p, l, e, R, s, m, args, below, meth, c, nL, G, A, Q⟩ := X
  intro H locs ls hP hD hS hl
  exact h H locs ls hP hD hS (lo_none hl h2)

theorem r_iconst {i : Int} {v : Int32} (hX : Ok SF X cc own d mc ms) (hd : decode cc pc = .ok (.iconst i, 1)) (hv : Int32.ofInt i = v) (hp : pc + 1 = pc') (h : V X k n ws L (.int v :: st) pc') : V X k n ws L (st) pc := by
  obtain ⟨p, l, e, R, s, m, args, below, meth, c, nL, G, A, Q⟩ := X
  obtain ⟨hx, hb, hown, hts, hK, hA, hlk, hml, hR, hsf, hNw⟩ := hX
  subst hp
  intro H locs ls hP hD hS hl
  exact lv_iconst hx hb hd hv (h H locs ls hP hD hS hl)
theorem r_bipush {i : Int} {v : Int32} (hX : Ok SF X cc own d mc ms) (hd : decode cc pc = .ok (.bipush i, 2)) (hv : (Int8.ofInt i).toInt32 = v) (hp : pc + 2 = pc') (h : V X k n ws L (.int v :: st) pc') : V X k n ws L (st) pc := by
  obtain ⟨p, l, e, R, s, m, args, below, meth, c, nL, G, A, Q⟩ := X
  obtain ⟨hx, hb, hown, hts, hK, hA, hlk, hml, hR, hsf, hNw⟩ := hX
  subst hp
  intro H locs ls hP hD hS hl
  exact lv_bipush hx hb hd hv (h H locs ls hP hD hS hl)
theorem r_sipush {i : Int} {v : Int32} (hX : Ok SF X cc own d mc ms) (hd : decode cc pc = .ok (.sipush i, 3)) (hv : (Int16.ofInt i).toInt32 = v) (hp : pc + 3 = pc') (h : V X k n ws L (.int v :: st) pc') : V X k n ws L (st) pc := by
  obtain ⟨p, l, e, R, s, m, args, below, meth, c, nL, G, A, Q⟩ := X
  obtain ⟨hx, hb, hown, hts, hK, hA, hlk, hml, hR, hsf, hNw⟩ := hX
  subst hp
  intro H locs ls hP hD hS hl
  exact lv_sipush hx hb hd hv (h H locs ls hP hD hS hl)
theorem r_lconst {i : Fin 2} {v : Int64} (hX : Ok SF X cc own d mc ms) (hd : decode cc pc = .ok (.lconst i, 1)) (hv : Int64.ofNat (i : Nat) = v) (hp : pc + 1 = pc') (h : V X k n ws L (.long v :: st) pc') : V X k n ws L (st) pc := by
  obtain ⟨p, l, e, R, s, m, args, below, meth, c, nL, G, A, Q⟩ := X
  obtain ⟨hx, hb, hown, hts, hK, hA, hlk, hml, hR, hsf, hNw⟩ := hX
  subst hp
  intro H locs ls hP hD hS hl
  exact lv_lconst hx hb hd hv (h H locs ls hP hD hS hl)
theorem r_iload_n {i : Fin 4} {x : Int32} (hX : Ok SF X cc own d mc ms) (hd : decode cc pc = .ok (.iload_n i, 1)) (hl0 : L[(i : Nat)]? = some (some (.int x))) (hp : pc + 1 = pc') (h : V X k n ws L (.int x :: st) pc') : V X k n ws L (st) pc := by
  obtain ⟨p, l, e, R, s, m, args, below, meth, c, nL, G, A, Q⟩ := X
  obtain ⟨hx, hb, hown, hts, hK, hA, hlk, hml, hR, hsf, hNw⟩ := hX
  subst hp
  intro H locs ls hP hD hS hl
  exact lv_iload_n hx hb hd rfl (hl.2.2 _ _ hl0) (h H locs ls hP hD hS hl)
theorem r_iload {i : Nat} {x : Int32} (hX : Ok SF X cc own d mc ms) (hd : decode cc pc = .ok (.iload i, 2)) (hl0 : L[i]? = some (some (.int x))) (hp : pc + 2 = pc') (h : V X k n ws L (.int x :: st) pc') : V X k n ws L (st) pc := by
  obtain ⟨p, l, e, R, s, m, args, below, meth, c, nL, G, A, Q⟩ := X
  obtain ⟨hx, hb, hown, hts, hK, hA, hlk, hml, hR, hsf, hNw⟩ := hX
  subst hp
  intro H locs ls hP hD hS hl
  exact lv_iload hx hb hd (hl.2.2 _ _ hl0) (h H locs ls hP hD hS hl)
theorem r_istore_n {i : Fin 4} {x : Int32} {L' : List (Option Value)} (hX : Ok SF X cc own d mc ms) (hd : decode cc pc = .ok (.istore_n i, 1)) (hn : ∀ nL : Nat, c0_nL X = nL → i < nL) (ho : lo_ok L i = true) (hL : L.set i (some (.int x)) = L') (hp : pc + 1 = pc') (h : V X k n ws L' st pc') : V X k n ws L (.int x :: st) pc := by
  obtain ⟨p, l, e, R, s, m, args, below, meth, c, nL, G, A, Q⟩ := X
  obtain ⟨hx, hb, hown, hts, hK, hA, hlk, hml, hR, hsf, hNw⟩ := hX
  subst hp
  subst hL
  intro H locs ls hP hD hS hl
  exact lv_istore_n hx hb hd rfl (lo_lv hl) (hn _ rfl) rfl (fun ls' h' => h H locs ls' hP hD hS (lo_set1 h' ho))
theorem r_istore {i : Nat} {x : Int32} {L' : List (Option Value)} (hX : Ok SF X cc own d mc ms) (hd : decode cc pc = .ok (.istore i, 2)) (hn : ∀ nL : Nat, c0_nL X = nL → i < nL) (ho : lo_ok L i = true) (hL : L.set i (some (.int x)) = L') (hp : pc + 2 = pc') (h : V X k n ws L' st pc') : V X k n ws L (.int x :: st) pc := by
  obtain ⟨p, l, e, R, s, m, args, below, meth, c, nL, G, A, Q⟩ := X
  obtain ⟨hx, hb, hown, hts, hK, hA, hlk, hml, hR, hsf, hNw⟩ := hX
  subst hp
  subst hL
  intro H locs ls hP hD hS hl
  exact lv_istore hx hb hd (lo_lv hl) (hn _ rfl) rfl (fun ls' h' => h H locs ls' hP hD hS (lo_set1 h' ho))
theorem r_aload_n {i : Fin 4} {x : Nat} (hX : Ok SF X cc own d mc ms) (hd : decode cc pc = .ok (.aload_n i, 1)) (hl0 : L[(i : Nat)]? = some (some (.ref x))) (hp : pc + 1 = pc') (h : V X k n ws L (.ref x :: st) pc') : V X k n ws L (st) pc := by
  obtain ⟨p, l, e, R, s, m, args, below, meth, c, nL, G, A, Q⟩ := X
  obtain ⟨hx, hb, hown, hts, hK, hA, hlk, hml, hR, hsf, hNw⟩ := hX
  subst hp
  intro H locs ls hP hD hS hl
  exact lv_aload_n hx hb hd rfl (hl.2.2 _ _ hl0) (h H locs ls hP hD hS hl)
theorem r_aload {i : Nat} {x : Nat} (hX : Ok SF X cc own d mc ms) (hd : decode cc pc = .ok (.aload i, 2)) (hl0 : L[i]? = some (some (.ref x))) (hp : pc + 2 = pc') (h : V X k n ws L (.ref x :: st) pc') : V X k n ws L (st) pc := by
  obtain ⟨p, l, e, R, s, m, args, below, meth, c, nL, G, A, Q⟩ := X
  obtain ⟨hx, hb, hown, hts, hK, hA, hlk, hml, hR, hsf, hNw⟩ := hX
  subst hp
  intro H locs ls hP hD hS hl
  exact lv_aload hx hb hd (hl.2.2 _ _ hl0) (h H locs ls hP hD hS hl)
theorem r_astore_n {i : Fin 4} {x : Nat} {L' : List (Option Value)} (hX : Ok SF X cc own d mc ms) (hd : decode cc pc = .ok (.astore_n i, 1)) (hn : ∀ nL : Nat, c0_nL X = nL → i < nL) (ho : lo_ok L i = true) (hL : L.set i (some (.ref x)) = L') (hp : pc + 1 = pc') (h : V X k n ws L' st pc') : V X k n ws L (.ref x :: st) pc := by
  obtain ⟨p, l, e, R, s, m, args, below, meth, c, nL, G, A, Q⟩ := X
  obtain ⟨hx, hb, hown, hts, hK, hA, hlk, hml, hR, hsf, hNw⟩ := hX
  subst hp
  subst hL
  intro H locs ls hP hD hS hl
  exact lv_astore_n hx hb hd rfl (lo_lv hl) (hn _ rfl) rfl (fun ls' h' => h H locs ls' hP hD hS (lo_set1 h' ho))
theorem r_astore {i : Nat} {x : Nat} {L' : List (Option Value)} (hX : Ok SF X cc own d mc ms) (hd : decode cc pc = .ok (.astore i, 2)) (hn : ∀ nL : Nat, c0_nL X = nL → i < nL) (ho : lo_ok L i = true) (hL : L.set i (some (.ref x)) = L') (hp : pc + 2 = pc') (h : V X k n ws L' st pc') : V X k n ws L (.ref x :: st) pc := by
  obtain ⟨p, l, e, R, s, m, args, below, meth, c, nL, G, A, Q⟩ := X
  obtain ⟨hx, hb, hown, hts, hK, hA, hlk, hml, hR, hsf, hNw⟩ := hX
  subst hp
  subst hL
  intro H locs ls hP hD hS hl
  exact lv_astore hx hb hd (lo_lv hl) (hn _ rfl) rfl (fun ls' h' => h H locs ls' hP hD hS (lo_set1 h' ho))
theorem r_lload_n {i : Fin 4} {x : Int64} (hX : Ok SF X cc own d mc ms) (hd : decode cc pc = .ok (.lload_n i, 1)) (hl0 : L[(i : Nat)]? = some (some (.long x))) (hp : pc + 1 = pc') (h : V X k n ws L (.long x :: st) pc') : V X k n ws L (st) pc := by
  obtain ⟨p, l, e, R, s, m, args, below, meth, c, nL, G, A, Q⟩ := X
  obtain ⟨hx, hb, hown, hts, hK, hA, hlk, hml, hR, hsf, hNw⟩ := hX
  subst hp
  intro H locs ls hP hD hS hl
  exact lv_lload_n hx hb hd rfl (hl.2.2 _ _ hl0) (h H locs ls hP hD hS hl)
theorem r_lload {i : Nat} {x : Int64} (hX : Ok SF X cc own d mc ms) (hd : decode cc pc = .ok (.lload i, 2)) (hl0 : L[i]? = some (some (.long x))) (hp : pc + 2 = pc') (h : V X k n ws L (.long x :: st) pc') : V X k n ws L (st) pc := by
  obtain ⟨p, l, e, R, s, m, args, below, meth, c, nL, G, A, Q⟩ := X
  obtain ⟨hx, hb, hown, hts, hK, hA, hlk, hml, hR, hsf, hNw⟩ := hX
  subst hp
  intro H locs ls hP hD hS hl
  exact lv_lload hx hb hd (hl.2.2 _ _ hl0) (h H locs ls hP hD hS hl)
theorem r_lstore_n {i : Fin 4} {x : Int64} {L' : List (Option Value)} (hX : Ok SF X cc own d mc ms) (hd : decode cc pc = .ok (.lstore_n i, 1)) (hn : ∀ nL : Nat, c0_nL X = nL → i + 1 < nL) (ho : lo_ok L i = true) (hL : (L.set i (some (.long x))).set (i + 1) none = L') (hp : pc + 1 = pc') (h : V X k n ws L' st pc') : V X k n ws L (.long x :: st) pc := by
  obtain ⟨p, l, e, R, s, m, args, below, meth, c, nL, G, A, Q⟩ := X
  obtain ⟨hx, hb, hown, hts, hK, hA, hlk, hml, hR, hsf, hNw⟩ := hX
  subst hp
  subst hL
  intro H locs ls hP hD hS hl
  exact lv_lstore_n hx hb hd rfl (lo_lv hl) (hn _ rfl) rfl (fun ls' h' => h H locs ls' hP hD hS (lo_set2 h' ho))
theorem r_lstore {i : Nat} {x : Int64} {L' : List (Option Value)} (hX : Ok SF X cc own d mc ms) (hd : decode cc pc = .ok (.lstore i, 2)) (hn : ∀ nL : Nat, c0_nL X = nL → i + 1 < nL) (ho : lo_ok L i = true) (hL : (L.set i (some (.long x))).set (i + 1) none = L') (hp : pc + 2 = pc') (h : V X k n ws L' st pc') : V X k n ws L (.long x :: st) pc := by
  obtain ⟨p, l, e, R, s, m, args, below, meth, c, nL, G, A, Q⟩ := X
  obtain ⟨hx, hb, hown, hts, hK, hA, hlk, hml, hR, hsf, hNw⟩ := hX
  subst hp
  subst hL
  intro H locs ls hP hD hS hl
  exact lv_lstore hx hb hd (lo_lv hl) (hn _ rfl) rfl (fun ls' h' => h H locs ls' hP hD hS (lo_set2 h' ho))
theorem r_dload_n {i : Fin 4} {x : UInt64} (hX : Ok SF X cc own d mc ms) (hd : decode cc pc = .ok (.dload_n i, 1)) (hl0 : L[(i : Nat)]? = some (some (.double x))) (hp : pc + 1 = pc') (h : V X k n ws L (.double x :: st) pc') : V X k n ws L (st) pc := by
  obtain ⟨p, l, e, R, s, m, args, below, meth, c, nL, G, A, Q⟩ := X
  obtain ⟨hx, hb, hown, hts, hK, hA, hlk, hml, hR, hsf, hNw⟩ := hX
  subst hp
  intro H locs ls hP hD hS hl
  exact lv_dload_n hx hb hd rfl (hl.2.2 _ _ hl0) (h H locs ls hP hD hS hl)
theorem r_dload {i : Nat} {x : UInt64} (hX : Ok SF X cc own d mc ms) (hd : decode cc pc = .ok (.dload i, 2)) (hl0 : L[i]? = some (some (.double x))) (hp : pc + 2 = pc') (h : V X k n ws L (.double x :: st) pc') : V X k n ws L (st) pc := by
  obtain ⟨p, l, e, R, s, m, args, below, meth, c, nL, G, A, Q⟩ := X
  obtain ⟨hx, hb, hown, hts, hK, hA, hlk, hml, hR, hsf, hNw⟩ := hX
  subst hp
  intro H locs ls hP hD hS hl
  exact lv_dload hx hb hd (hl.2.2 _ _ hl0) (h H locs ls hP hD hS hl)
theorem r_dstore_n {i : Fin 4} {x : UInt64} {L' : List (Option Value)} (hX : Ok SF X cc own d mc ms) (hd : decode cc pc = .ok (.dstore_n i, 1)) (hn : ∀ nL : Nat, c0_nL X = nL → i + 1 < nL) (ho : lo_ok L i = true) (hL : (L.set i (some (.double x))).set (i + 1) none = L') (hp : pc + 1 = pc') (h : V X k n ws L' st pc') : V X k n ws L (.double x :: st) pc := by
  obtain ⟨p, l, e, R, s, m, args, below, meth, c, nL, G, A, Q⟩ := X
  obtain ⟨hx, hb, hown, hts, hK, hA, hlk, hml, hR, hsf, hNw⟩ := hX
  subst hp
  subst hL
  intro H locs ls hP hD hS hl
  exact lv_dstore_n hx hb hd rfl (lo_lv hl) (hn _ rfl) rfl (fun ls' h' => h H locs ls' hP hD hS (lo_set2 h' ho))
theorem r_dstore {i : Nat} {x : UInt64} {L' : List (Option Value)} (hX : Ok SF X cc own d mc ms) (hd : decode cc pc = .ok (.dstore i, 2)) (hn : ∀ nL : Nat, c0_nL X = nL → i + 1 < nL) (ho : lo_ok L i = true) (hL : (L.set i (some (.double x))).set (i + 1) none = L') (hp : pc + 2 = pc') (h : V X k n ws L' st pc') : V X k n ws L (.double x :: st) pc := by
  obtain ⟨p, l, e, R, s, m, args, below, meth, c, nL, G, A, Q⟩ := X
  obtain ⟨hx, hb, hown, hts, hK, hA, hlk, hml, hR, hsf, hNw⟩ := hX
  subst hp
  subst hL
  intro H locs ls hP hD hS hl
  exact lv_dstore hx hb hd (lo_lv hl) (hn _ rfl) rfl (fun ls' h' => h H locs ls' hP hD hS (lo_set2 h' ho))
theorem r_fload_n {i : Fin 4} {x : UInt32} (hX : Ok SF X cc own d mc ms) (hd : decode cc pc = .ok (.fload_n i, 1)) (hl0 : L[(i : Nat)]? = some (some (.float x))) (hp : pc + 1 = pc') (h : V X k n ws L (.float x :: st) pc') : V X k n ws L (st) pc := by
  obtain ⟨p, l, e, R, s, m, args, below, meth, c, nL, G, A, Q⟩ := X
  obtain ⟨hx, hb, hown, hts, hK, hA, hlk, hml, hR, hsf, hNw⟩ := hX
  subst hp
  intro H locs ls hP hD hS hl
  exact lv_fload_n hx hb hd rfl (hl.2.2 _ _ hl0) (h H locs ls hP hD hS hl)
theorem r_fload {i : Nat} {x : UInt32} (hX : Ok SF X cc own d mc ms) (hd : decode cc pc = .ok (.fload i, 2)) (hl0 : L[i]? = some (some (.float x))) (hp : pc + 2 = pc') (h : V X k n ws L (.float x :: st) pc') : V X k n ws L (st) pc := by
  obtain ⟨p, l, e, R, s, m, args, below, meth, c, nL, G, A, Q⟩ := X
  obtain ⟨hx, hb, hown, hts, hK, hA, hlk, hml, hR, hsf, hNw⟩ := hX
  subst hp
  intro H locs ls hP hD hS hl
  exact lv_fload hx hb hd (hl.2.2 _ _ hl0) (h H locs ls hP hD hS hl)
theorem r_fstore_n {i : Fin 4} {x : UInt32} {L' : List (Option Value)} (hX : Ok SF X cc own d mc ms) (hd : decode cc pc = .ok (.fstore_n i, 1)) (hn : ∀ nL : Nat, c0_nL X = nL → i < nL) (ho : lo_ok L i = true) (hL : L.set i (some (.float x)) = L') (hp : pc + 1 = pc') (h : V X k n ws L' st pc') : V X k n ws L (.float x :: st) pc := by
  obtain ⟨p, l, e, R, s, m, args, below, meth, c, nL, G, A, Q⟩ := X
  obtain ⟨hx, hb, hown, hts, hK, hA, hlk, hml, hR, hsf, hNw⟩ := hX
  subst hp
  subst hL
  intro H locs ls hP hD hS hl
  exact lv_fstore_n hx hb hd rfl (lo_lv hl) (hn _ rfl) rfl (fun ls' h' => h H locs ls' hP hD hS (lo_set1 h' ho))
theorem r_fstore {i : Nat} {x : UInt32} {L' : List (Option Value)} (hX : Ok SF X cc own d mc ms) (hd : decode cc pc = .ok (.fstore i, 2)) (hn : ∀ nL : Nat, c0_nL X = nL → i < nL) (ho : lo_ok L i = true) (hL : L.set i (some (.float x)) = L') (hp : pc + 2 = pc') (h : V X k n ws L' st pc') : V X k n ws L (.float x :: st) pc := by
  obtain ⟨p, l, e, R, s, m, args, below, meth, c, nL, G, A, Q⟩ := X
  obtain ⟨hx, hb, hown, hts, hK, hA, hlk, hml, hR, hsf, hNw⟩ := hX
  subst hp
  subst hL
  intro H locs ls hP hD hS hl
  exact lv_fstore hx hb hd (lo_lv hl) (hn _ rfl) rfl (fun ls' h' => h H locs ls' hP hD hS (lo_set1 h' ho))
theorem r_iinc {i : Nat} {z : Int} {x v : Int32} {L' : List (Option Value)} (hX : Ok SF X cc own d mc ms) (hd : decode cc pc = .ok (.iinc i z, 3)) (hl0 : L[i]? = some (some (.int x))) (hv : x + Int32.ofInt z = v) (hn : ∀ nL : Nat, c0_nL X = nL → i < nL) (ho : lo_ok L i = true) (hL : L.set i (some (.int v)) = L') (hp : pc + 3 = pc') (h : V X k n ws L' st pc') : V X k n ws L st pc := by
  obtain ⟨p, l, e, R, s, m, args, below, meth, c, nL, G, A, Q⟩ := X
  obtain ⟨hx, hb, hown, hts, hK, hA, hlk, hml, hR, hsf, hNw⟩ := hX
  subst hp
  subst hL
  intro H locs ls hP hD hS hl
  obtain ⟨k9, hk9⟩ := List.getElem?_of_mem (lo_mem.mpr hl0)
  exact lv_iinc hx hb hd (lo_lv hl) hk9 hv (hn _ rfl) rfl (fun ls' h' => h H locs ls' hP hD hS (lo_set1 h' ho))
theorem r_iadd {x y : Int32} (hX : Ok SF X cc own d mc ms) (hd : decode cc pc = .ok (.iadd, 1)) (hp : pc + 1 = pc') (h : V X k n ws L (.int (x + y) :: st) pc') : V X k n ws L (.int y :: .int x :: st) pc := by
  obtain ⟨p, l, e, R, s, m, args, below, meth, c, nL, G, A, Q⟩ := X
  obtain ⟨hx, hb, hown, hts, hK, hA, hlk, hml, hR, hsf, hNw⟩ := hX
  subst hp
  intro H locs ls hP hD hS hl
  exact lv_iadd hx hb hd (h H locs ls hP hD hS hl)
theorem r_isub {x y : Int32} (hX : Ok SF X cc own d mc ms) (hd : decode cc pc = .ok (.isub, 1)) (hp : pc + 1 = pc') (h : V X k n ws L (.int (x - y) :: st) pc') : V X k n ws L (.int y :: .int x :: st) pc := by
  obtain ⟨p, l, e, R, s, m, args, below, meth, c, nL, G, A, Q⟩ := X
  obtain ⟨hx, hb, hown, hts, hK, hA, hlk, hml, hR, hsf, hNw⟩ := hX
  subst hp
  intro H locs ls hP hD hS hl
  exact lv_isub hx hb hd (h H locs ls hP hD hS hl)
theorem r_imul {x y : Int32} (hX : Ok SF X cc own d mc ms) (hd : decode cc pc = .ok (.imul, 1)) (hp : pc + 1 = pc') (h : V X k n ws L (.int (x * y) :: st) pc') : V X k n ws L (.int y :: .int x :: st) pc := by
  obtain ⟨p, l, e, R, s, m, args, below, meth, c, nL, G, A, Q⟩ := X
  obtain ⟨hx, hb, hown, hts, hK, hA, hlk, hml, hR, hsf, hNw⟩ := hX
  subst hp
  intro H locs ls hP hD hS hl
  exact lv_imul hx hb hd (h H locs ls hP hD hS hl)
theorem r_iand {x y : Int32} (hX : Ok SF X cc own d mc ms) (hd : decode cc pc = .ok (.iand, 1)) (hp : pc + 1 = pc') (h : V X k n ws L (.int (x &&& y) :: st) pc') : V X k n ws L (.int y :: .int x :: st) pc := by
  obtain ⟨p, l, e, R, s, m, args, below, meth, c, nL, G, A, Q⟩ := X
  obtain ⟨hx, hb, hown, hts, hK, hA, hlk, hml, hR, hsf, hNw⟩ := hX
  subst hp
  intro H locs ls hP hD hS hl
  exact lv_iand hx hb hd (h H locs ls hP hD hS hl)
theorem r_ior {x y : Int32} (hX : Ok SF X cc own d mc ms) (hd : decode cc pc = .ok (.ior, 1)) (hp : pc + 1 = pc') (h : V X k n ws L (.int (x ||| y) :: st) pc') : V X k n ws L (.int y :: .int x :: st) pc := by
  obtain ⟨p, l, e, R, s, m, args, below, meth, c, nL, G, A, Q⟩ := X
  obtain ⟨hx, hb, hown, hts, hK, hA, hlk, hml, hR, hsf, hNw⟩ := hX
  subst hp
  intro H locs ls hP hD hS hl
  exact lv_ior hx hb hd (h H locs ls hP hD hS hl)
theorem r_idiv {x y : Int32} (hX : Ok SF X cc own d mc ms) (hd : decode cc pc = .ok (.idiv, 1)) (hne : ¬ y = 0) (hp : pc + 1 = pc') (h : V X k n ws L (.int (x / y) :: st) pc') : V X k n ws L (.int y :: .int x :: st) pc := by
  obtain ⟨p, l, e, R, s, m, args, below, meth, c, nL, G, A, Q⟩ := X
  obtain ⟨hx, hb, hown, hts, hK, hA, hlk, hml, hR, hsf, hNw⟩ := hX
  subst hp
  intro H locs ls hP hD hS hl
  exact lv_idiv hx hb hd hne (h H locs ls hP hD hS hl)
theorem r_irem {x y : Int32} (hX : Ok SF X cc own d mc ms) (hd : decode cc pc = .ok (.irem, 1)) (hne : ¬ y = 0) (hp : pc + 1 = pc') (h : V X k n ws L (.int (x - x / y * y) :: st) pc') : V X k n ws L (.int y :: .int x :: st) pc := by
  obtain ⟨p, l, e, R, s, m, args, below, meth, c, nL, G, A, Q⟩ := X
  obtain ⟨hx, hb, hown, hts, hK, hA, hlk, hml, hR, hsf, hNw⟩ := hX
  subst hp
  intro H locs ls hP hD hS hl
  exact lv_irem hx hb hd hne (h H locs ls hP hD hS hl)
theorem r_ineg {x : Int32} (hX : Ok SF X cc own d mc ms) (hd : decode cc pc = .ok (.ineg, 1)) (hp : pc + 1 = pc') (h : V X k n ws L (.int (-x) :: st) pc') : V X k n ws L (.int x :: st) pc := by
  obtain ⟨p, l, e, R, s, m, args, below, meth, c, nL, G, A, Q⟩ := X
  obtain ⟨hx, hb, hown, hts, hK, hA, hlk, hml, hR, hsf, hNw⟩ := hX
  subst hp
  intro H locs ls hP hD hS hl
  exact lv_ineg hx hb hd (h H locs ls hP hD hS hl)
theorem r_i2l {x : Int32} {v : Int64} (hX : Ok SF X cc own d mc ms) (hd : decode cc pc = .ok (.i2l, 1)) (hv : x.toInt64 = v) (hp : pc + 1 = pc') (h : V X k n ws L (.long v :: st) pc') : V X k n ws L (.int x :: st) pc := by
  obtain ⟨p, l, e, R, s, m, args, below, meth, c, nL, G, A, Q⟩ := X
  obtain ⟨hx, hb, hown, hts, hK, hA, hlk, hml, hR, hsf, hNw⟩ := hX
  subst hp
  intro H locs ls hP hD hS hl
  exact lv_i2l hx hb hd hv (h H locs ls hP hD hS hl)
theorem r_dup {v : Value} (hX : Ok SF X cc own d mc ms) (hd : decode cc pc = .ok (.dup, 1)) (hv : v.category = 1) (hp : pc + 1 = pc') (h : V X k n ws L (v :: v :: st) pc') : V X k n ws L (v :: st) pc := by
  obtain ⟨p, l, e, R, s, m, args, below, meth, c, nL, G, A, Q⟩ := X
  obtain ⟨hx, hb, hown, hts, hK, hA, hlk, hml, hR, hsf, hNw⟩ := hX
  subst hp
  intro H locs ls hP hD hS hl
  exact lv_dup hx hb hd hv (h H locs ls hP hD hS hl)
theorem r_pop {v : Value} (hX : Ok SF X cc own d mc ms) (hd : decode cc pc = .ok (.pop, 1)) (hv : v.category = 1) (hp : pc + 1 = pc') (h : V X k n ws L (st) pc') : V X k n ws L (v :: st) pc := by
  obtain ⟨p, l, e, R, s, m, args, below, meth, c, nL, G, A, Q⟩ := X
  obtain ⟨hx, hb, hown, hts, hK, hA, hlk, hml, hR, hsf, hNw⟩ := hX
  subst hp
  intro H locs ls hP hD hS hl
  exact lv_pop hx hb hd hv (h H locs ls hP hD hS hl)
theorem r_dup_x1 {u v : Value} (hX : Ok SF X cc own d mc ms) (hd : decode cc pc = .ok (.dup_x1, 1)) (hv : v.category = 1) (hu : u.category = 1) (hp : pc + 1 = pc') (h : V X k n ws L (v :: u :: v :: st) pc') : V X k n ws L (v :: u :: st) pc := by
  obtain ⟨p, l, e, R, s, m, args, below, meth, c, nL, G, A, Q⟩ := X
  obtain ⟨hx, hb, hown, hts, hK, hA, hlk, hml, hR, hsf, hNw⟩ := hX
  subst hp
  intro H locs ls hP hD hS hl
  exact lv_dup_x1 hx hb hd hv hu (h H locs ls hP hD hS hl)
theorem r_dup2 {u v : Value} (hX : Ok SF X cc own d mc ms) (hd : decode cc pc = .ok (.dup2, 1)) (hv : v.category = 1) (hu : u.category = 1) (hp : pc + 1 = pc') (h : V X k n ws L (v :: u :: v :: u :: st) pc') : V X k n ws L (v :: u :: st) pc := by
  obtain ⟨p, l, e, R, s, m, args, below, meth, c, nL, G, A, Q⟩ := X
  obtain ⟨hx, hb, hown, hts, hK, hA, hlk, hml, hR, hsf, hNw⟩ := hX
  subst hp
  intro H locs ls hP hD hS hl
  exact lv_dup2_11 hx hb hd hv hu (h H locs ls hP hD hS hl)
theorem r_aconst_null  (hX : Ok SF X cc own d mc ms) (hd : decode cc pc = .ok (.aconst_null, 1)) (hp : pc + 1 = pc') (h : V X k n ws L (.null :: st) pc') : V X k n ws L (st) pc := by
  obtain ⟨p, l, e, R, s, m, args, below, meth, c, nL, G, A, Q⟩ := X
  obtain ⟨hx, hb, hown, hts, hK, hA, hlk, hml, hR, hsf, hNw⟩ := hX
  subst hp
  intro H locs ls hP hD hS hl
  exact lv_null hx hb hd (h H locs ls hP hD hS hl)
theorem r_icmp_eq {x y : Int32} {off : Int} {tgt : Nat} (hX : Ok SF X cc own d mc ms) (hd : decode cc pc = .ok (.if_icmp .eq off, 3)) (ht : (pc : Int) + off = (tgt : Int)) (hp : pc + 3 = pc') (kt : x = y → V X k n ws L st tgt) (kf : ¬ x = y → V X k n ws L st pc') : V X k n ws L (.int y :: .int x :: st) pc := by
  obtain ⟨p, l, e, R, s, m, args, below, meth, c, nL, G, A, Q⟩ := X
  obtain ⟨hx, hb, hown, hts, hK, hA, hlk, hml, hR, hsf, hNw⟩ := hX
  subst hp
  intro H locs ls hP hD hS hl
  exact lv_icmp_eq hx hb hd ht (fun c9 => kt c9 H locs ls hP hD hS hl) (fun c9 => kf c9 H locs ls hP hD hS hl)
theorem r_if_eq {x : Int32} {off : Int} {tgt : Nat} (hX : Ok SF X cc own d mc ms) (hd : decode cc pc = .ok (.ifCond .eq off, 3)) (ht : (pc : Int) + off = (tgt : Int)) (hp : pc + 3 = pc') (kt : x = 0 → V X k n ws L st tgt) (kf : ¬ x = 0 → V X k n ws L st pc') : V X k n ws L (.int x :: st) pc := by
  obtain ⟨p, l, e, R, s, m, args, below, meth, c, nL, G, A, Q⟩ := X
  obtain ⟨hx, hb, hown, hts, hK, hA, hlk, hml, hR, hsf, hNw⟩ := hX
  subst hp
  intro H locs ls hP hD hS hl
  exact lv_if_eq hx hb hd ht (fun c9 => kt c9 H locs ls hP hD hS hl) (fun c9 => kf c9 H locs ls hP hD hS hl)
theorem r_icmp_ne {x y : Int32} {off : Int} {tgt : Nat} (hX : Ok SF X cc own d mc ms) (hd : decode cc pc = .ok (.if_icmp .ne off, 3)) (ht : (pc : Int) + off = (tgt : Int)) (hp : pc + 3 = pc') (kt : ¬ x = y → V X k n ws L st tgt) (kf : x = y → V X k n ws L st pc') : V X k n ws L (.int y :: .int x :: st) pc := by
  obtain ⟨p, l, e, R, s, m, args, below, meth, c, nL, G, A, Q⟩ := X
  obtain ⟨hx, hb, hown, hts, hK, hA, hlk, hml, hR, hsf, hNw⟩ := hX
  subst hp
  intro H locs ls hP hD hS hl
  exact lv_icmp_ne hx hb hd ht (fun c9 => kt c9 H locs ls hP hD hS hl) (fun c9 => kf c9 H locs ls hP hD hS hl)
theorem r_if_ne {x : Int32} {off : Int} {tgt : Nat} (hX : Ok SF X cc own d mc ms) (hd : decode cc pc = .ok (.ifCond .ne off, 3)) (ht : (pc : Int) + off = (tgt : Int)) (hp : pc + 3 = pc') (kt : ¬ x = 0 → V X k n ws L st tgt) (kf : x = 0 → V X k n ws L st pc') : V X k n ws L (.int x :: st) pc := by
  obtain ⟨p, l, e, R, s, m, args, below, meth, c, nL, G, A, Q⟩ := X
  obtain ⟨hx, hb, hown, hts, hK, hA, hlk, hml, hR, hsf, hNw⟩ := hX
  subst hp
  intro H locs ls hP hD hS hl
  exact lv_if_ne hx hb hd ht (fun c9 => kt c9 H locs ls hP hD hS hl) (fun c9 => kf c9 H locs ls hP hD hS hl)
theorem r_icmp_lt {x y : Int32} {off : Int} {tgt : Nat} (hX : Ok SF X cc own d mc ms) (hd : decode cc pc = .ok (.if_icmp .lt off, 3)) (ht : (pc : Int) + off = (tgt : Int)) (hp : pc + 3 = pc') (kt : x < y → V X k n ws L st tgt) (kf : ¬ x < y → V X k n ws L st pc') : V X k n ws L (.int y :: .int x :: st) pc := by
  obtain ⟨p, l, e, R, s, m, args, below, meth, c, nL, G, A, Q⟩ := X
  obtain ⟨hx, hb, hown, hts, hK, hA, hlk, hml, hR, hsf, hNw⟩ := hX
  subst hp
  intro H locs ls hP hD hS hl
  exact lv_icmp_lt hx hb hd ht (fun c9 => kt c9 H locs ls hP hD hS hl) (fun c9 => kf c9 H locs ls hP hD hS hl)
theorem r_if_lt {x : Int32} {off : Int} {tgt : Nat} (hX : Ok SF X cc own d mc ms) (hd : decode cc pc = .ok (.ifCond .lt off, 3)) (ht : (pc : Int) + off = (tgt : Int)) (hp : pc + 3 = pc') (kt : x < 0 → V X k n ws L st tgt) (kf : ¬ x < 0 → V X k n ws L st pc') : V X k n ws L (.int x :: st) pc := by
  obtain ⟨p, l, e, R, s, m, args, below, meth, c, nL, G, A, Q⟩ := X
  obtain ⟨hx, hb, hown, hts, hK, hA, hlk, hml, hR, hsf, hNw⟩ := hX
  subst hp
  intro H locs ls hP hD hS hl
  exact lv_if_lt hx hb hd ht (fun c9 => kt c9 H locs ls hP hD hS hl) (fun c9 => kf c9 H locs ls hP hD hS hl)
theorem r_icmp_ge {x y : Int32} {off : Int} {tgt : Nat} (hX : Ok SF X cc own d mc ms) (hd : decode cc pc = .ok (.if_icmp .ge off, 3)) (ht : (pc : Int) + off = (tgt : Int)) (hp : pc + 3 = pc') (kt : y ≤ x → V X k n ws L st tgt) (kf : ¬ y ≤ x → V X k n ws L st pc') : V X k n ws L (.int y :: .int x :: st) pc := by
  obtain ⟨p, l, e, R, s, m, args, below, meth, c, nL, G, A, Q⟩ := X
  obtain ⟨hx, hb, hown, hts, hK, hA, hlk, hml, hR, hsf, hNw⟩ := hX
  subst hp
  intro H locs ls hP hD hS hl
  exact lv_icmp_ge hx hb hd ht (fun c9 => kt c9 H locs ls hP hD hS hl) (fun c9 => kf c9 H locs ls hP hD hS hl)
theorem r_if_ge {x : Int32} {off : Int} {tgt : Nat} (hX : Ok SF X cc own d mc ms) (hd : decode cc pc = .ok (.ifCond .ge off, 3)) (ht : (pc : Int) + off = (tgt : Int)) (hp : pc + 3 = pc') (kt : 0 ≤ x → V X k n ws L st tgt) (kf : ¬ 0 ≤ x → V X k n ws L st pc') : V X k n ws L (.int x :: st) pc := by
  obtain ⟨p, l, e, R, s, m, args, below, meth, c, nL, G, A, Q⟩ := X
  obtain ⟨hx, hb, hown, hts, hK, hA, hlk, hml, hR, hsf, hNw⟩ := hX
  subst hp
  intro H locs ls hP hD hS hl
  exact lv_if_ge hx hb hd ht (fun c9 => kt c9 H locs ls hP hD hS hl) (fun c9 => kf c9 H locs ls hP hD hS hl)
theorem r_icmp_gt {x y : Int32} {off : Int} {tgt : Nat} (hX : Ok SF X cc own d mc ms) (hd : decode cc pc = .ok (.if_icmp .gt off, 3)) (ht : (pc : Int) + off = (tgt : Int)) (hp : pc + 3 = pc') (kt : y < x → V X k n ws L st tgt) (kf : ¬ y < x → V X k n ws L st pc') : V X k n ws L (.int y :: .int x :: st) pc := by
  obtain ⟨p, l, e, R, s, m, args, below, meth, c, nL, G, A, Q⟩ := X
  obtain ⟨hx, hb, hown, hts, hK, hA, hlk, hml, hR, hsf, hNw⟩ := hX
  subst hp
  intro H locs ls hP hD hS hl
  exact lv_icmp_gt hx hb hd ht (fun c9 => kt c9 H locs ls hP hD hS hl) (fun c9 => kf c9 H locs ls hP hD hS hl)
theorem r_if_gt {x : Int32} {off : Int} {tgt : Nat} (hX : Ok SF X cc own d mc ms) (hd : decode cc pc = .ok (.ifCond .gt off, 3)) (ht : (pc : Int) + off = (tgt : Int)) (hp : pc + 3 = pc') (kt : 0 < x → V X k n ws L st tgt) (kf : ¬ 0 < x → V X k n ws L st pc') : V X k n ws L (.int x :: st) pc := by
  obtain ⟨p, l, e, R, s, m, args, below, meth, c, nL, G, A, Q⟩ := X
  obtain ⟨hx, hb, hown, hts, hK, hA, hlk, hml, hR, hsf, hNw⟩ := hX
  subst hp
  intro H locs ls hP hD hS hl
  exact lv_if_gt hx hb hd ht (fun c9 => kt c9 H locs ls hP hD hS hl) (fun c9 => kf c9 H locs ls hP hD hS hl)
theorem r_icmp_le {x y : Int32} {off : Int} {tgt : Nat} (hX : Ok SF X cc own d mc ms) (hd : decode cc pc = .ok (.if_icmp .le off, 3)) (ht : (pc : Int) + off = (tgt : Int)) (hp : pc + 3 = pc') (kt : x ≤ y → V X k n ws L st tgt) (kf : ¬ x ≤ y → V X k n ws L st pc') : V X k n ws L (.int y :: .int x :: st) pc := by
  obtain ⟨p, l, e, R, s, m, args, below, meth, c, nL, G, A, Q⟩ := X
  obtain ⟨hx, hb, hown, hts, hK, hA, hlk, hml, hR, hsf, hNw⟩ := hX
  subst hp
  intro H locs ls hP hD hS hl
  exact lv_icmp_le hx hb hd ht (fun c9 => kt c9 H locs ls hP hD hS hl) (fun c9 => kf c9 H locs ls hP hD hS hl)
theorem r_if_le {x : Int32} {off : Int} {tgt : Nat} (hX : Ok SF X cc own d mc ms) (hd : decode cc pc = .ok (.ifCond .le off, 3)) (ht : (pc : Int) + off = (tgt : Int)) (hp : pc + 3 = pc') (kt : x ≤ 0 → V X k n ws L st tgt) (kf : ¬ x ≤ 0 → V X k n ws L st pc') : V X k n ws L (.int x :: st) pc := by
  obtain ⟨p, l, e, R, s, m, args, below, meth, c, nL, G, A, Q⟩ := X
  obtain ⟨hx, hb, hown, hts, hK, hA, hlk, hml, hR, hsf, hNw⟩ := hX
  subst hp
  intro H locs ls hP hD hS hl
  exact lv_if_le hx hb hd ht (fun c9 => kt c9 H locs ls hP hD hS hl) (fun c9 => kf c9 H locs ls hP hD hS hl)
theorem r_goto {off : Int} {tgt : Nat} (hX : Ok SF X cc own d mc ms) (hd : decode cc pc = .ok (.goto off, 3)) (ht : (pc : Int) + off = (tgt : Int)) (h : V X k n ws L st tgt) : V X k n ws L st pc := by
  obtain ⟨p, l, e, R, s, m, args, below, meth, c, nL, G, A, Q⟩ := X
  obtain ⟨hx, hb, hown, hts, hK, hA, hlk, hml, hR, hsf, hNw⟩ := hX
  intro H locs ls hP hD hS hl
  exact lv_goto hx hb hd ht (h H locs ls hP hD hS hl)
theorem r_icmp_eq_I {x y : Int32} {a b : Int} {off : Int} {tgt : Nat} (hX : Ok SF X cc own d mc ms) (hd : decode cc pc = .ok (.if_icmp .eq off, 3)) (ht : (pc : Int) + off = (tgt : Int)) (hp : pc + 3 = pc') (ha : x.toInt = a) (hb : y.toInt = b) (kt : a = b → V X k n ws L st tgt) (kf : a ≠ b → V X k n ws L st pc') : V X k n ws L (.int y :: .int x :: st) pc := by
  subst ha hb
  exact r_icmp_eq hX hd ht hp (fun c9 => kt (by have := Int32.toInt_inj.symm.mp c9; omega)) (fun c9 => kf (by have := mt Int32.toInt_inj.symm.mpr c9; omega))
theorem r_if_eq_I {x : Int32} {a : Int} {off : Int} {tgt : Nat} (hX : Ok SF X cc own d mc ms) (hd : decode cc pc = .ok (.ifCond .eq off, 3)) (ht : (pc : Int) + off = (tgt : Int)) (hp : pc + 3 = pc') (ha : x.toInt = a) (kt : a = 0 → V X k n ws L st tgt) (kf : a ≠ 0 → V X k n ws L st pc') : V X k n ws L (.int x :: st) pc := by
  subst ha
  have h0 : (0 : Int32).toInt = 0 := rfl
  exact r_if_eq hX hd ht hp (fun c9 => kt (by have := Int32.toInt_inj.symm.mp c9; omega)) (fun c9 => kf (by have := mt Int32.toInt_inj.symm.mpr c9; omega))
theorem r_icmp_eq_N {a b : Nat} {off : Int} {tgt : Nat} (hX : Ok SF X cc own d mc ms) (hd : decode cc pc = .ok (.if_icmp .eq off, 3)) (ht : (pc : Int) + off = (tgt : Int)) (hp : pc + 3 = pc') (ha : a < 2147483648) (hb : b < 2147483648) (kt : a = b → V X k n ws L st tgt) (kf : a ≠ b → V X k n ws L st pc') : V X k n ws L (.int (nI b) :: .int (nI a) :: st) pc :=
  r_icmp_eq_I hX hd ht hp (nI_toInt ha) (nI_toInt hb) (fun c9 => kt (by omega)) (fun c9 => kf (by omega))
theorem r_if_eq_N {a : Nat} {off : Int} {tgt : Nat} (hX : Ok SF X cc own d mc ms) (hd : decode cc pc = .ok (.ifCond .eq off, 3)) (ht : (pc : Int) + off = (tgt : Int)) (hp : pc + 3 = pc') (ha : a < 2147483648) (kt : a = 0 → V X k n ws L st tgt) (kf : a ≠ 0 → V X k n ws L st pc') : V X k n ws L (.int (nI a) :: st) pc :=
  r_if_eq_I hX hd ht hp (nI_toInt ha) (fun c9 => kt (by omega)) (fun c9 => kf (by omega))
theorem r_icmp_ne_I {x y : Int32} {a b : Int} {off : Int} {tgt : Nat} (hX : Ok SF X cc own d mc ms) (hd : decode cc pc = .ok (.if_icmp .ne off, 3)) (ht : (pc : Int) + off = (tgt : Int)) (hp : pc + 3 = pc') (ha : x.toInt = a) (hb : y.toInt = b) (kt : a ≠ b → V X k n ws L st tgt) (kf : a = b → V X k n ws L st pc') : V X k n ws L (.int y :: .int x :: st) pc := by
  subst ha hb
  exact r_icmp_ne hX hd ht hp (fun c9 => kt (by have := (not_congr Int32.toInt_inj.symm).mp c9; omega)) (fun c9 => kf (by rw [c9]))
theorem r_if_ne_I {x : Int32} {a : Int} {off : Int} {tgt : Nat} (hX : Ok SF X cc own d mc ms) (hd : decode cc pc = .ok (.ifCond .ne off, 3)) (ht : (pc : Int) + off = (tgt : Int)) (hp : pc + 3 = pc') (ha : x.toInt = a) (kt : a ≠ 0 → V X k n ws L st tgt) (kf : a = 0 → V X k n ws L st pc') : V X k n ws L (.int x :: st) pc := by
  subst ha
  have h0 : (0 : Int32).toInt = 0 := rfl
  exact r_if_ne hX hd ht hp (fun c9 => kt (by have := (not_congr Int32.toInt_inj.symm).mp c9; omega)) (fun c9 => kf (by rw [c9]; rfl))
theorem r_icmp_ne_N {a b : Nat} {off : Int} {tgt : Nat} (hX : Ok SF X cc own d mc ms) (hd : decode cc pc = .ok (.if_icmp .ne off, 3)) (ht : (pc : Int) + off = (tgt : Int)) (hp : pc + 3 = pc') (ha : a < 2147483648) (hb : b < 2147483648) (kt : a ≠ b → V X k n ws L st tgt) (kf : a = b → V X k n ws L st pc') : V X k n ws L (.int (nI b) :: .int (nI a) :: st) pc :=
  r_icmp_ne_I hX hd ht hp (nI_toInt ha) (nI_toInt hb) (fun c9 => kt (by omega)) (fun c9 => kf (by omega))
theorem r_if_ne_N {a : Nat} {off : Int} {tgt : Nat} (hX : Ok SF X cc own d mc ms) (hd : decode cc pc = .ok (.ifCond .ne off, 3)) (ht : (pc : Int) + off = (tgt : Int)) (hp : pc + 3 = pc') (ha : a < 2147483648) (kt : a ≠ 0 → V X k n ws L st tgt) (kf : a = 0 → V X k n ws L st pc') : V X k n ws L (.int (nI a) :: st) pc :=
  r_if_ne_I hX hd ht hp (nI_toInt ha) (fun c9 => kt (by omega)) (fun c9 => kf (by omega))
theorem r_icmp_lt_I {x y : Int32} {a b : Int} {off : Int} {tgt : Nat} (hX : Ok SF X cc own d mc ms) (hd : decode cc pc = .ok (.if_icmp .lt off, 3)) (ht : (pc : Int) + off = (tgt : Int)) (hp : pc + 3 = pc') (ha : x.toInt = a) (hb : y.toInt = b) (kt : a < b → V X k n ws L st tgt) (kf : b ≤ a → V X k n ws L st pc') : V X k n ws L (.int y :: .int x :: st) pc := by
  subst ha hb
  exact r_icmp_lt hX hd ht hp (fun c9 => kt (by have := Int32.lt_iff_toInt_lt.mp c9; omega)) (fun c9 => kf (by have := mt Int32.lt_iff_toInt_lt.mpr c9; omega))
theorem r_if_lt_I {x : Int32} {a : Int} {off : Int} {tgt : Nat} (hX : Ok SF X cc own d mc ms) (hd : decode cc pc = .ok (.ifCond .lt off, 3)) (ht : (pc : Int) + off = (tgt : Int)) (hp : pc + 3 = pc') (ha : x.toInt = a) (kt : a < 0 → V X k n ws L st tgt) (kf : 0 ≤ a → V X k n ws L st pc') : V X k n ws L (.int x :: st) pc := by
  subst ha
  have h0 : (0 : Int32).toInt = 0 := rfl
  exact r_if_lt hX hd ht hp (fun c9 => kt (by have := Int32.lt_iff_toInt_lt.mp c9; omega)) (fun c9 => kf (by have := mt Int32.lt_iff_toInt_lt.mpr c9; omega))
theorem r_icmp_lt_N {a b : Nat} {off : Int} {tgt : Nat} (hX : Ok SF X cc own d mc ms) (hd : decode cc pc = .ok (.if_icmp .lt off, 3)) (ht : (pc : Int) + off = (tgt : Int)) (hp : pc + 3 = pc') (ha : a < 2147483648) (hb : b < 2147483648) (kt : a < b → V X k n ws L st tgt) (kf : b ≤ a → V X k n ws L st pc') : V X k n ws L (.int (nI b) :: .int (nI a) :: st) pc :=
  r_icmp_lt_I hX hd ht hp (nI_toInt ha) (nI_toInt hb) (fun c9 => kt (by omega)) (fun c9 => kf (by omega))
theorem r_if_lt_N {a : Nat} {off : Int} {tgt : Nat} (hX : Ok SF X cc own d mc ms) (hd : decode cc pc = .ok (.ifCond .lt off, 3)) (ht : (pc : Int) + off = (tgt : Int)) (hp : pc + 3 = pc') (ha : a < 2147483648) (kt : a < 0 → V X k n ws L st tgt) (kf : 0 ≤ a → V X k n ws L st pc') : V X k n ws L (.int (nI a) :: st) pc :=
  r_if_lt_I hX hd ht hp (nI_toInt ha) (fun c9 => kt (by omega)) (fun c9 => kf (by omega))
theorem r_icmp_ge_I {x y : Int32} {a b : Int} {off : Int} {tgt : Nat} (hX : Ok SF X cc own d mc ms) (hd : decode cc pc = .ok (.if_icmp .ge off, 3)) (ht : (pc : Int) + off = (tgt : Int)) (hp : pc + 3 = pc') (ha : x.toInt = a) (hb : y.toInt = b) (kt : b ≤ a → V X k n ws L st tgt) (kf : a < b → V X k n ws L st pc') : V X k n ws L (.int y :: .int x :: st) pc := by
  subst ha hb
  exact r_icmp_ge hX hd ht hp (fun c9 => kt (by have := Int32.le_iff_toInt_le.mp c9; omega)) (fun c9 => kf (by have := mt Int32.le_iff_toInt_le.mpr c9; omega))
theorem r_if_ge_I {x : Int32} {a : Int} {off : Int} {tgt : Nat} (hX : Ok SF X cc own d mc ms) (hd : decode cc pc = .ok (.ifCond .ge off, 3)) (ht : (pc : Int) + off = (tgt : Int)) (hp : pc + 3 = pc') (ha : x.toInt = a) (kt : 0 ≤ a → V X k n ws L st tgt) (kf : a < 0 → V X k n ws L st pc') : V X k n ws L (.int x :: st) pc := by
  subst ha
  have h0 : (0 : Int32).toInt = 0 := rfl
  exact r_if_ge hX hd ht hp (fun c9 => kt (by have := Int32.le_iff_toInt_le.mp c9; omega)) (fun c9 => kf (by have := mt Int32.le_iff_toInt_le.mpr c9; omega))
theorem r_icmp_ge_N {a b : Nat} {off : Int} {tgt : Nat} (hX : Ok SF X cc own d mc ms) (hd : decode cc pc = .ok (.if_icmp .ge off, 3)) (ht : (pc : Int) + off = (tgt : Int)) (hp : pc + 3 = pc') (ha : a < 2147483648) (hb : b < 2147483648) (kt : b ≤ a → V X k n ws L st tgt) (kf : a < b → V X k n ws L st pc') : V X k n ws L (.int (nI b) :: .int (nI a) :: st) pc :=
  r_icmp_ge_I hX hd ht hp (nI_toInt ha) (nI_toInt hb) (fun c9 => kt (by omega)) (fun c9 => kf (by omega))
theorem r_if_ge_N {a : Nat} {off : Int} {tgt : Nat} (hX : Ok SF X cc own d mc ms) (hd : decode cc pc = .ok (.ifCond .ge off, 3)) (ht : (pc : Int) + off = (tgt : Int)) (hp : pc + 3 = pc') (ha : a < 2147483648) (kt : 0 ≤ a → V X k n ws L st tgt) (kf : a < 0 → V X k n ws L st pc') : V X k n ws L (.int (nI a) :: st) pc :=
  r_if_ge_I hX hd ht hp (nI_toInt ha) (fun c9 => kt (by omega)) (fun c9 => kf (by omega))
theorem r_icmp_gt_I {x y : Int32} {a b : Int} {off : Int} {tgt : Nat} (hX : Ok SF X cc own d mc ms) (hd : decode cc pc = .ok (.if_icmp .gt off, 3)) (ht : (pc : Int) + off = (tgt : Int)) (hp : pc + 3 = pc') (ha : x.toInt = a) (hb : y.toInt = b) (kt : b < a → V X k n ws L st tgt) (kf : a ≤ b → V X k n ws L st pc') : V X k n ws L (.int y :: .int x :: st) pc := by
  subst ha hb
  exact r_icmp_gt hX hd ht hp (fun c9 => kt (by have := Int32.lt_iff_toInt_lt.mp c9; omega)) (fun c9 => kf (by have := mt Int32.lt_iff_toInt_lt.mpr c9; omega))
theorem r_if_gt_I {x : Int32} {a : Int} {off : Int} {tgt : Nat} (hX : Ok SF X cc own d mc ms) (hd : decode cc pc = .ok (.ifCond .gt off, 3)) (ht : (pc : Int) + off = (tgt : Int)) (hp : pc + 3 = pc') (ha : x.toInt = a) (kt : 0 < a → V X k n ws L st tgt) (kf : a ≤ 0 → V X k n ws L st pc') : V X k n ws L (.int x :: st) pc := by
  subst ha
  have h0 : (0 : Int32).toInt = 0 := rfl
  exact r_if_gt hX hd ht hp (fun c9 => kt (by have := Int32.lt_iff_toInt_lt.mp c9; omega)) (fun c9 => kf (by have := mt Int32.lt_iff_toInt_lt.mpr c9; omega))
theorem r_icmp_gt_N {a b : Nat} {off : Int} {tgt : Nat} (hX : Ok SF X cc own d mc ms) (hd : decode cc pc = .ok (.if_icmp .gt off, 3)) (ht : (pc : Int) + off = (tgt : Int)) (hp : pc + 3 = pc') (ha : a < 2147483648) (hb : b < 2147483648) (kt : b < a → V X k n ws L st tgt) (kf : a ≤ b → V X k n ws L st pc') : V X k n ws L (.int (nI b) :: .int (nI a) :: st) pc :=
  r_icmp_gt_I hX hd ht hp (nI_toInt ha) (nI_toInt hb) (fun c9 => kt (by omega)) (fun c9 => kf (by omega))
theorem r_if_gt_N {a : Nat} {off : Int} {tgt : Nat} (hX : Ok SF X cc own d mc ms) (hd : decode cc pc = .ok (.ifCond .gt off, 3)) (ht : (pc : Int) + off = (tgt : Int)) (hp : pc + 3 = pc') (ha : a < 2147483648) (kt : 0 < a → V X k n ws L st tgt) (kf : a ≤ 0 → V X k n ws L st pc') : V X k n ws L (.int (nI a) :: st) pc :=
  r_if_gt_I hX hd ht hp (nI_toInt ha) (fun c9 => kt (by omega)) (fun c9 => kf (by omega))
theorem r_icmp_le_I {x y : Int32} {a b : Int} {off : Int} {tgt : Nat} (hX : Ok SF X cc own d mc ms) (hd : decode cc pc = .ok (.if_icmp .le off, 3)) (ht : (pc : Int) + off = (tgt : Int)) (hp : pc + 3 = pc') (ha : x.toInt = a) (hb : y.toInt = b) (kt : a ≤ b → V X k n ws L st tgt) (kf : b < a → V X k n ws L st pc') : V X k n ws L (.int y :: .int x :: st) pc := by
  subst ha hb
  exact r_icmp_le hX hd ht hp (fun c9 => kt (by have := Int32.le_iff_toInt_le.mp c9; omega)) (fun c9 => kf (by have := mt Int32.le_iff_toInt_le.mpr c9; omega))
theorem r_if_le_I {x : Int32} {a : Int} {off : Int} {tgt : Nat} (hX : Ok SF X cc own d mc ms) (hd : decode cc pc = .ok (.ifCond .le off, 3)) (ht : (pc : Int) + off = (tgt : Int)) (hp : pc + 3 = pc') (ha : x.toInt = a) (kt : a ≤ 0 → V X k n ws L st tgt) (kf : 0 < a → V X k n ws L st pc') : V X k n ws L (.int x :: st) pc := by
  subst ha
  have h0 : (0 : Int32).toInt = 0 := rfl
  exact r_if_le hX hd ht hp (fun c9 => kt (by have := Int32.le_iff_toInt_le.mp c9; omega)) (fun c9 => kf (by have := mt Int32.le_iff_toInt_le.mpr c9; omega))
theorem r_icmp_le_N {a b : Nat} {off : Int} {tgt : Nat} (hX : Ok SF X cc own d mc ms) (hd : decode cc pc = .ok (.if_icmp .le off, 3)) (ht : (pc : Int) + off = (tgt : Int)) (hp : pc + 3 = pc') (ha : a < 2147483648) (hb : b < 2147483648) (kt : a ≤ b → V X k n ws L st tgt) (kf : b < a → V X k n ws L st pc') : V X k n ws L (.int (nI b) :: .int (nI a) :: st) pc :=
  r_icmp_le_I hX hd ht hp (nI_toInt ha) (nI_toInt hb) (fun c9 => kt (by omega)) (fun c9 => kf (by omega))
theorem r_if_le_N {a : Nat} {off : Int} {tgt : Nat} (hX : Ok SF X cc own d mc ms) (hd : decode cc pc = .ok (.ifCond .le off, 3)) (ht : (pc : Int) + off = (tgt : Int)) (hp : pc + 3 = pc') (ha : a < 2147483648) (kt : a ≤ 0 → V X k n ws L st tgt) (kf : 0 < a → V X k n ws L st pc') : V X k n ws L (.int (nI a) :: st) pc :=
  r_if_le_I hX hd ht hp (nI_toInt ha) (fun c9 => kt (by omega)) (fun c9 => kf (by omega))
/-- a truth value as the machine holds it -/
def bI (c : Prop) [Decidable c] : Int32 := if c then 1 else 0
theorem bI_t {c : Prop} [Decidable c] (h : c) : bI c = 1 := if_pos h
theorem bI_f {c : Prop} [Decidable c] (h : ¬ c) : bI c = 0 := if_neg h
theorem bI_eq0 {c : Prop} [Decidable c] : bI c = 0 ↔ ¬ c := by
  unfold bI
  split
  · rename_i h
    exact ⟨fun q => absurd q (by decide), fun q => absurd h q⟩
  · rename_i h
    exact ⟨fun _ => h, fun _ => rfl⟩
theorem r_if_eq_B {c : Prop} [Decidable c] {off : Int} {tgt : Nat} (hX : Ok SF X cc own d mc ms) (hd : decode cc pc = .ok (.ifCond .eq off, 3)) (ht : (pc : Int) + off = (tgt : Int)) (hp : pc + 3 = pc') (kt : ¬ c → V X k n ws L st tgt) (kf : c → V X k n ws L st pc') : V X k n ws L (.int (bI c) :: st) pc :=
  r_if_eq hX hd ht hp (fun c9 => kt (bI_eq0.mp c9)) (fun c9 => kf (Classical.byContradiction fun q => c9 (bI_eq0.mpr q)))
theorem r_if_ne_B {c : Prop} [Decidable c] {off : Int} {tgt : Nat} (hX : Ok SF X cc own d mc ms) (hd : decode cc pc = .ok (.ifCond .ne off, 3)) (ht : (pc : Int) + off = (tgt : Int)) (hp : pc + 3 = pc') (kt : c → V X k n ws L st tgt) (kf : ¬ c → V X k n ws L st pc') : V X k n ws L (.int (bI c) :: st) pc :=
  r_if_ne hX hd ht hp (fun c9 => kt (Classical.byContradiction fun q => c9 (bI_eq0.mpr q))) (fun c9 => kf (bI_eq0.mp c9))
theorem r_iadd_N {a b : Nat} (hX : Ok SF X cc own d mc ms) (hd : decode cc pc = .ok (.iadd, 1)) (hp : pc + 1 = pc') (h : V X k n ws L (.int (nI (a + b)) :: st) pc') : V X k n ws L (.int (nI b) :: .int (nI a) :: st) pc :=
  r_iadd hX hd hp (by rw [nI_add _ _]; exact h)
theorem r_imul_N {a b : Nat} (hX : Ok SF X cc own d mc ms) (hd : decode cc pc = .ok (.imul, 1)) (hp : pc + 1 = pc') (h : V X k n ws L (.int (nI (a * b)) :: st) pc') : V X k n ws L (.int (nI b) :: .int (nI a) :: st) pc :=
  r_imul hX hd hp (by rw [pk_mul _ _]; exact h)
theorem r_isub_N {a b : Nat} (hX : Ok SF X cc own d mc ms) (hd : decode cc pc = .ok (.isub, 1)) (hab : b ≤ a) (hp : pc + 1 = pc') (h : V X k n ws L (.int (nI (a - b)) :: st) pc') : V X k n ws L (.int (nI b) :: .int (nI a) :: st) pc :=
  r_isub hX hd hp (by rw [pk_sub hab]; exact h)
theorem r_idiv_N {a b : Nat} (hX : Ok SF X cc own d mc ms) (hd : decode cc pc = .ok (.idiv, 1)) (ha : a < 2147483648) (h0 : 0 < b) (hb : b < 2147483648) (hp : pc + 1 = pc') (h : V X k n ws L (.int (nI (a / b)) :: st) pc') : V X k n ws L (.int (nI b) :: .int (nI a) :: st) pc :=
  r_idiv hX hd (nI_ne0 h0 hb) hp (by rw [pk_div ha h0 hb]; exact h)
theorem r_irem_N {a b : Nat} (hX : Ok SF X cc own d mc ms) (hd : decode cc pc = .ok (.irem, 1)) (ha : a < 2147483648) (h0 : 0 < b) (hb : b < 2147483648) (hp : pc + 1 = pc') (h : V X k n ws L (.int (nI (a % b)) :: st) pc') : V X k n ws L (.int (nI b) :: .int (nI a) :: st) pc :=
  r_irem hX hd (nI_ne0 h0 hb) hp (by rw [pk_rem ha h0 hb]; exact h)
theorem r_iinc_N {i a b : Nat} {L' : List (Option Value)} (hX : Ok SF X cc own d mc ms) (hd : decode cc pc = .ok (.iinc i (b : Int), 3)) (hl0 : L[i]? = some (some (.int (nI a)))) (hn : ∀ nL : Nat, c0_nL X = nL → i < nL) (ho : lo_ok L i = true) (hL : L.set i (some (.int (nI (a + b)))) = L') (hp : pc + 3 = pc') (h : V X k n ws L' st pc') : V X k n ws L st pc :=
  r_iinc hX hd hl0 (by rw [← nI_add]; rfl) hn ho hL hp h
end VROWS
