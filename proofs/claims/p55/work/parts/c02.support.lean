/-! ===== helpers of the laid proofs ===== -/
theorem cat1 {av : List Value} (h : (av.all fun v => v.category == 1) = true) : ∀ v ∈ av, v.category = 1 := fun v hv => by simpa using List.all_eq_true.mp h v hv
theorem lo_of {av : List Value} (z : Nat) : ∀ (i : Nat) (v : Value), (av.map some ++ List.replicate z none)[i]? = some (some v) → av[i]? = some v := by
  intro i v h
  by_cases q : i < av.length
  · rw [List.getElem?_append_left (by simpa using q), List.getElem?_map] at h
    cases e : av[i]? with
    | none => rw [e] at h; cases h
    | some x => rw [e] at h; cases h; rfl
  · rw [List.getElem?_append_right (by simpa using Nat.not_lt.mp q), List.getElem?_replicate] at h
    split at h <;> cases h
theorem MG_by {l : Launch} {y : MethodName} {cc : ByteArray} {maxL : Nat} {ret : Option FieldType} {d mc ms : Nat} {D : va_G} {cy : Nat → ClassId} {sa : Nat → Nat} {av : List Value} {ws : va_W} {P : Option Value → va_W → Prop} {own : String} {L : List (Option Value)} (hpl : plainName y.cls = true) (ho : y.cls = own) (hc : (av.all fun v => v.category == 1) = true) (hn : av.length ≤ maxL) (z : Nat) (hL : av.map some ++ List.replicate z none = L)
    (body : ∀ X : xC, Ok SF X cc own d mc ms → Ends X ret mc ms ws P → c0_nL X = maxL → c0_G X = (D, cy, sa) → c0_cy X = cy → c0_name X = y.name → V X 0 0 ws L [] 0) : MG l y cc maxL ret d mc ms (D, cy, sa) av ws P := by
  subst hL
  exact MG_of hpl ho (cat1 hc) hn (lo_of z) (fun X h1 h2 h3 h4 h5 => body X h1 h2 h3 h4 (congrArg (fun g : xG => g.2.1) h4) h5)
theorem MX_by {l : Launch} {y : MethodName} {cc : ByteArray} {maxL : Nat} {ret : Option FieldType} {d mc ms : Nat} {D : va_G} {cy : Nat → ClassId} {sa : Nat → Nat} {av : List Value} {ws : va_W} {P : Option Value → va_W → Prop} {PX : String → va_W → Prop} {own : String} {L : List (Option Value)} (hst : l.stackTraces = false) (hpl : plainName y.cls = true) (ho : y.cls = own) (hc : (av.all fun v => v.category == 1) = true) (hn : av.length ≤ maxL) (z : Nat) (hL : av.map some ++ List.replicate z none = L)
    (body : ∀ X : xC, Ok SF X cc own d mc ms → Ends X ret mc ms ws P → Outs X mc ms ws PX → c0_nL X = maxL → c0_G X = (D, cy, sa) → c0_cy X = cy → c0_name X = y.name → V X 0 0 ws L [] 0) : MX l y cc maxL ret d mc ms (D, cy, sa) av ws P PX := by
  subst hL
  exact MX_of hst hpl ho (cat1 hc) hn (lo_of z) (fun X h1 h2 h3 h4 h5 h6 => body X h1 h2 h3 h4 h5 (congrArg (fun g : xG => g.2.1) h5) h6)
section VSUP
variable {X : xC} {cc : ByteArray} {own : String} {d mc ms : Nat} {k n : Nat} {ws : va_W} {L : List (Option Value)} {st0 rest : List Value} {pc pc' : Nat} {P : Option Value → va_W → Prop} {PX : String → va_W → Prop}
/-- a call over the whole world -/
theorem V_call0 {mc' ms' k' n' : Nat} {av : List Value} (hX : Ok SF X cc own d mc ms) (hr : Run1 X mc' ms' (c0_G X) ws av P st0 rest L k n pc) (hk : k + mc' = k') (hn : n + ms' = n') (hp : pc + 3 = pc')
    (cont : ∀ v u, P v u → V X k' n' u L (v.toList ++ rest) pc') : V X k n ws L st0 pc :=
  V_call (wr := []) hX hr (by rw [List.append_nil]) hk hn hp (fun v u h => by rw [List.append_nil]; exact cont v u h)
/-- a call that touches no cell -/
theorem V_calln {mc' ms' k' n' : Nat} {av : List Value} {Q : Option Value → Prop} (hX : Ok SF X cc own d mc ms) (hr : Run1 X mc' ms' (c0_G X) [] av (fun v u => Q v ∧ u = []) st0 rest L k n pc) (hk : k + mc' = k') (hn : n + ms' = n') (hp : pc + 3 = pc')
    (cont : ∀ v, Q v → V X k' n' ws L (v.toList ++ rest) pc') : V X k n ws L st0 pc :=
  V_call (wr := ws) hX hr (List.Perm.refl _) hk hn hp (fun v u h => by rw [h.2]; exact cont v h.1)
theorem V_call0X {mc' ms' k' n' : Nat} {av : List Value} (hX : Ok SF X cc own d mc ms) (hr : Run1X X mc' ms' (c0_G X) ws av P PX st0 rest L k n pc) (hk : k + mc' = k') (hn : n + ms' = n') (hp : pc + 3 = pc')
    (cont : ∀ v u, P v u → V X k' n' u L (v.toList ++ rest) pc') (contX : ∀ E u, PX E u → VX X k' n' u L rest pc E) : V X k n ws L st0 pc :=
  V_callX (wr := []) hX hr (by rw [List.append_nil]) hk hn hp (fun v u h => by rw [List.append_nil]; exact cont v u h) (fun E u h => by rw [List.append_nil]; exact contX E u h)
theorem V_callnX {mc' ms' k' n' : Nat} {av : List Value} {Q : Option Value → Prop} {QX : String → Prop} (hX : Ok SF X cc own d mc ms) (hr : Run1X X mc' ms' (c0_G X) [] av (fun v u => Q v ∧ u = []) (fun E u => QX E ∧ u = []) st0 rest L k n pc) (hk : k + mc' = k') (hn : n + ms' = n') (hp : pc + 3 = pc')
    (cont : ∀ v, Q v → V X k' n' ws L (v.toList ++ rest) pc') (contX : ∀ E, QX E → VX X k' n' ws L rest pc E) : V X k n ws L st0 pc :=
  V_callX (wr := ws) hX hr (List.Perm.refl _) hk hn hp (fun v u h => by rw [h.2]; exact cont v h.1) (fun E u h => by rw [h.2]; exact contX E h.1)
def lo_sb : List (Option Value) → List (Option Value) → Prop
  | [], _ => True
  | a :: l, b :: m => (a = none ∨ a = b) ∧ lo_sb l m
  | _ :: _, [] => False
theorem lo_w : ∀ {L' L : List (Option Value)}, lo_sb L' L → ∀ (i : Nat) (v : Value), L'[i]? = some (some v) → L[i]? = some (some v)
  | [], _, _, _, _, h => by cases h
  | a :: l, b :: m, ⟨h1, h2⟩, i, v, h => by
    cases i with
    | zero =>
      rw [List.getElem?_cons_zero] at h ⊢
      rcases h1 with h1 | h1
      · rw [h1] at h
        cases h
      · rw [← h1]
        exact h
    | succ i =>
      rw [List.getElem?_cons_succ] at h ⊢
      exact lo_w h2 i v h
theorem r_mmin {index : Nat} {a b : Nat} (hX : Ok SF X cc own d mc ms) (hd : decode cc pc = .ok (.invokestatic index, 3)) (hKk : KS own index yJ9_min_7cf53 cJ9_min_7cf53 2 (some .int) 2) (ha : a < 2147483648) (hb9 : b < 2147483648) (hp : pc + 3 = pc') (hst : (rest.map fun v => v.category).sum ≤ 8) (hd9 : 1 ≤ d) (hk : k ≤ mc) (hn : n ≤ ms) (h : V X k n ws L (.int (nI (min a b)) :: rest) pc') : V X k n ws L (.int (nI b) :: .int (nI a) :: rest) pc := by
  obtain ⟨p, l, e, R, s, m, args, below, meth, c, nL, G, A, Q⟩ := X
  obtain ⟨hx, hb, hown, hts, hK, hA, hlk, hml, hR, hsf, hNw⟩ := hX
  subst hp
  intro H locs ls hP hD hS hl
  have hG := hKk.1
  have e9 : (if nI b < nI a then nI b else nI a) = nI (min a b) := by
    by_cases q : b < a
    · rw [if_pos (nI_lt q (by omega)), Nat.min_eq_right (by omega)]
    · rw [if_neg (nI_nlt (by omega) (by omega)), Nat.min_eq_left (by omega)]
  refine va_mmin hx hb (hml.trans hl.1.symm) hown (hts _ (hG _ (List.mem_cons_self)).1) (hts _ (hG _ (List.mem_cons_of_mem _ List.mem_cons_self)).1) (hts _ (hG _ (List.mem_cons_of_mem _ (List.mem_cons_of_mem _ List.mem_cons_self))).1) (hts _ (hG _ (List.mem_cons_of_mem _ (List.mem_cons_of_mem _ (List.mem_cons_of_mem _ List.mem_cons_self)))).1) (Nat.le_trans hd9 hR.1) (by omega) (Nat.le_trans hk hR.2.2.1) (Nat.le_trans hn hR.2.2.2) hd ?_
  rw [e9]
  exact h H locs ls hP hD hS hl
theorem r_ldc {index : Nat} {v : Int32} (hX : Ok SF X cc own d mc ms) (hd : decode cc pc = .ok (.ldc index, 2)) (hc : Cond.constant own index v ∈ T0) (hp : pc + 2 = pc') (h : V X k n ws L (.int v :: st0) pc') : V X k n ws L st0 pc := by
  obtain ⟨p, l, e, R, s, m, args, below, meth, c, nL, G, A, Q⟩ := X
  obtain ⟨hx, hb, hown, hts, hK, hA, hlk, hml, hR, hsf, hNw⟩ := hX
  subst hp
  intro H locs ls hP hD hS hl
  exact lv_ldc hx hb hown (hts _ hc) hd (h H locs ls hP hD hS hl)
end VSUP
/-- an int within bounds is a number -/
theorem fb0_rng (x : Int32) : -2147483648 ≤ x.toInt ∧ x.toInt < 2147483648 := ⟨Int32.le_toInt x, Int32.toInt_lt x⟩
theorem nat_of {x : Int32} {n : Nat} (h : 0 ≤ x.toInt ∧ x.toInt < (n : Int)) : ∃ j : Nat, j < n ∧ x = nI j := by
  obtain ⟨j, hx, hj⟩ := nI_of (x := x) (by rw [Int32.lt_iff_toInt_lt]; show ¬ x.toInt < 0; omega)
  refine ⟨j, ?_, hj⟩
  rw [hj, nI_toInt hx] at h
  omega
theorem nI_I {a : Nat} (h : a < 2147483648) : (nI a).toInt = (a : Int) := nI_toInt h
theorem bI_congr {p q : Prop} [Decidable p] [Decidable q] (h : p ↔ q) : bI p = bI q := by
  unfold bI
  by_cases c : p
  · rw [if_pos c, if_pos (h.mp c)]
  · rw [if_neg c, if_neg (fun z => c (h.mpr z))]
theorem bI_1 {p : Prop} [Decidable p] (h : p) : (nI 1) = bI p := (if_pos h).symm
theorem bI_0 {p : Prop} [Decidable p] (h : ¬ p) : (nI 0) = bI p := (if_neg h).symm
