/-! ===== the worlds of the objects ===== -/
/-- a Batch and its squeaks -/
def wBat (cy : Nat → ClassId) (a q : Nat) (b sq : Nat → Nat) : va_W := [(a, .inr (4, [.int (nI (b 0)), .int (nI (b 1)), .int (nI (b 2)), .int (nI (b 3)), .int (nI (b 4)), .ref q])), (q, .inl (cy 0, aN 9 sq))]
/-- a State but for its batches; v 0: alloys moulds tolerance step batches nextBatch castBows soldBows meltedBows; v 1 ..: lengths uses stocks bought sold lost, six recipes, eight batches, eight rows of squeaks -/
def wSt0 (cy : Nat → ClassId) (ad : Nat → Nat) (v : Nat → Nat → Nat) : va_W := [(ad 0, .inr (6, [.int (nI (v 0 0)), .ref (ad 1), .int (nI (v 0 1)), .ref (ad 8), .ref (ad 9), .ref (ad 10), .ref (ad 11), .ref (ad 12), .ref (ad 13), .int (nI (v 0 2)), .int (nI (v 0 3)), .int (nI (v 0 4)), .ref (ad 14), .int (nI (v 0 5)), .int (nI (v 0 6)), .int (nI (v 0 7)), .int (nI (v 0 8))])),
  (ad 1, .inl (cy 3, aR 6 (fun i => if i < 6 then some (ad (2 + i)) else none))),
  (ad 2, .inl (cy 0, aN 3 (v 7))), (ad 3, .inl (cy 0, aN 3 (v 8))), (ad 4, .inl (cy 0, aN 3 (v 9))), (ad 5, .inl (cy 0, aN 3 (v 10))), (ad 6, .inl (cy 0, aN 3 (v 11))), (ad 7, .inl (cy 0, aN 3 (v 12))),
  (ad 8, .inl (cy 0, aN 4 (v 1))), (ad 9, .inl (cy 0, aN 4 (v 2))), (ad 10, .inl (cy 0, aN 3 (v 3))), (ad 11, .inl (cy 0, aN 3 (v 4))), (ad 12, .inl (cy 0, aN 3 (v 5))), (ad 13, .inl (cy 0, aN 3 (v 6))),
  (ad 14, .inl (cy 4, aR 8 (fun i => if i < 8 then some (ad (15 + i)) else none)))]
def wStB (cy : Nat → ClassId) (ad : Nat → Nat) (v : Nat → Nat → Nat) (i : Nat) : va_W := wBat cy (ad (15 + i)) (ad (23 + i)) (v (13 + i)) (v (21 + i))
def wSt (cy : Nat → ClassId) (ad : Nat → Nat) (v : Nat → Nat → Nat) : va_W := wSt0 cy ad v ++ (List.range 8).flatMap (wStB cy ad v)
/-- a row of worlds but the i-th -/
def wRest (n i : Nat) (f : Nat → va_W) : va_W := ((List.range n).filter (fun j => j != i)).flatMap f
theorem range_split : ∀ {n i : Nat}, i < n → (List.range n).Perm (i :: (List.range n).filter (fun j => j != i))
  | 0, _, h => absurd h (Nat.not_lt_zero _)
  | n + 1, i, h => by
    rw [List.range_succ, List.filter_append]
    by_cases e : i = n
    · subst e
      have h1 : (List.range i).filter (fun j => j != i) = List.range i := by
        rw [List.filter_eq_self]
        intro a ha
        have := List.mem_range.mp ha
        simp only [bne_iff_ne, ne_eq]
        omega
      rw [h1, show (List.filter (fun j => j != i) [i]) = [] by simp, List.append_nil]
      exact List.perm_append_comm (l₁ := List.range i) (l₂ := [i])
    · have h2 := range_split (n := n) (i := i) (by omega)
      have h3 : (List.filter (fun j => j != i) [n]) = [n] := by
        simp only [List.filter_cons, List.filter_nil]
        rw [if_pos (by simp only [bne_iff_ne, ne_eq]; omega)]
      rw [h3]
      exact (h2.append_right [n])
theorem flat_split {n i : Nat} (h : i < n) (f : Nat → va_W) : ((List.range n).flatMap f).Perm (f i ++ wRest n i f) := by
  have := (range_split h).flatMap_right f
  rwa [List.flatMap_cons] at this
theorem wRest_congr {n i : Nat} {f g : Nat → va_W} (h : ∀ j, j < n → j ≠ i → f j = g j) : wRest n i f = wRest n i g := by
  unfold wRest
  have : ∀ (l : List Nat), (∀ j ∈ l, f j = g j) → l.flatMap f = l.flatMap g := by
    intro l
    induction l with
    | nil => intro _; rfl
    | cons a t ih => intro hl; rw [List.flatMap_cons, List.flatMap_cons, hl a List.mem_cons_self, ih (fun j hj => hl j (List.mem_cons_of_mem _ hj))]
  refine this _ (fun j hj => ?_)
  have h1 := List.mem_filter.mp hj
  exact h j (List.mem_range.mp h1.1) (by simpa using h1.2)
theorem perm_mid {a b c d : va_W} (h : b.Perm (c ++ d)) : (a ++ b).Perm (c ++ (a ++ d)) := by
  refine (List.Perm.append_left a h).trans ?_
  rw [← List.append_assoc, ← List.append_assoc]
  exact List.Perm.append_right d List.perm_append_comm
/-- batch i taken out of its State -/
theorem wSt_split {cy : Nat → ClassId} {ad : Nat → Nat} {v : Nat → Nat → Nat} {i : Nat} (h : i < 8) : (wSt cy ad v).Perm (wStB cy ad v i ++ (wSt0 cy ad v ++ wRest 8 i (wStB cy ad v))) := perm_mid (flat_split h _)
theorem wStB_mem {cy : Nat → ClassId} {ad : Nat → Nat} {v : Nat → Nat → Nat} {i : Nat} (h : i < 8) {q : Nat × va_E} (hq : q ∈ wStB cy ad v i) : q ∈ wSt cy ad v := List.mem_append_right _ (List.mem_flatMap.mpr ⟨i, List.mem_range.mpr h, hq⟩)
theorem up2_ne {α : Type} {v : Nat → Nat → α} {b i b' : Nat} {x : α} (h : b' ≠ b) : up2 v b i x b' = v b' := if_neg h
theorem up2_eq {α : Type} {v : Nat → Nat → α} {b i : Nat} {x : α} : up2 v b i x b = up1 (v b) i x := if_pos rfl
theorem wSt0_up {cy : Nat → ClassId} {ad : Nat → Nat} {v : Nat → Nat → Nat} {b k x : Nat} (h : 13 ≤ b) : wSt0 cy ad (up2 v b k x) = wSt0 cy ad v := by
  unfold wSt0
  simp only [up2_ne (show (0 : Nat) ≠ b by omega), up2_ne (show (1 : Nat) ≠ b by omega), up2_ne (show (2 : Nat) ≠ b by omega), up2_ne (show (3 : Nat) ≠ b by omega), up2_ne (show (4 : Nat) ≠ b by omega), up2_ne (show (5 : Nat) ≠ b by omega), up2_ne (show (6 : Nat) ≠ b by omega), up2_ne (show (7 : Nat) ≠ b by omega), up2_ne (show (8 : Nat) ≠ b by omega), up2_ne (show (9 : Nat) ≠ b by omega), up2_ne (show (10 : Nat) ≠ b by omega), up2_ne (show (11 : Nat) ≠ b by omega), up2_ne (show (12 : Nat) ≠ b by omega)]
theorem wStB_up {cy : Nat → ClassId} {ad : Nat → Nat} {v : Nat → Nat → Nat} {b k x j : Nat} (h1 : 13 + j ≠ b) (h2 : 21 + j ≠ b) : wStB cy ad (up2 v b k x) j = wStB cy ad v j := by
  unfold wStB
  rw [up2_ne h1, up2_ne h2]
section VBAT
variable {SF : (Nat → Nat) → (Nat → Prop) → State → Heap → Prop} {X : xC} {cc : ByteArray} {own : String} {d mc ms : Nat} {k n : Nat} {L : List (Option Value)} {st : List Value} {pc pc' : Nat} {cy : Nat → ClassId} {ad : Nat → Nat} {v : Nat → Nat → Nat} {i : Nat}
/-- fields of batch i of a State, from a nest mate -/
theorem r_getB {index kf : Nat} {x : Value} (hX : Ok SF X cc own d mc ms) (hd : decode cc pc = .ok (.getfield index, 3)) (hf : FN own index 4 kf) (hi : i < 8) (hx : ([.int (nI (v (13 + i) 0)), .int (nI (v (13 + i) 1)), .int (nI (v (13 + i) 2)), .int (nI (v (13 + i) 3)), .int (nI (v (13 + i) 4)), .ref (ad (23 + i))] : List Value)[kf]? = some x) (hp : pc + 3 = pc') (h : V X k n (wSt cy ad v) L (x :: st) pc') : V X k n (wSt cy ad v) L (.ref (ad (15 + i)) :: st) pc :=
  r_getNM hX hd hf (wStB_mem hi (List.mem_cons_self)) hx hp h
theorem r_putB {index kf x : Nat} {ty : FieldType} (hX : Ok SF X cc own d mc ms) (hd : decode cc pc = .ok (.putfield index, 3)) (hf : FN own index 4 kf) (hw : FW 4 kf false ty) (hi : i < 8) (hk : kf < 5) (hn : narrow ty (.int (nI x)) = .int (nI x)) (hfit : fits ty (.int (nI x)) = true) (hp : pc + 3 = pc') (h : V X k n (wSt cy ad (up2 v (13 + i) kf x)) L st pc') : V X k n (wSt cy ad v) L (.int (nI x) :: .ref (ad (15 + i)) :: st) pc := by
  refine V_perm (wSt_split hi) ?_
  refine r_putN (ws' := wStB cy ad (up2 v (13 + i) kf x) i ++ (wSt0 cy ad v ++ wRest 8 i (wStB cy ad v))) hX hd hf hw 0 rfl hn hfit (by show kf < 6; omega) ?_ hp ?_
  · unfold wStB
    rw [up2_eq, up2_ne (show 21 + i ≠ 13 + i by omega)]
    match kf, hk with
    | 0, _ => rfl
    | 1, _ => rfl
    | 2, _ => rfl
    | 3, _ => rfl
    | 4, _ => rfl
    | j + 5, h => exact absurd h (by omega)
  · refine V_perm ?_ h
    refine List.Perm.trans ?_ (wSt_split (v := up2 v (13 + i) kf x) hi).symm
    rw [wSt0_up (by omega), wRest_congr (g := wStB cy ad v) (fun j h1 h2 => wStB_up (by omega) (by omega))]
theorem r_ialdB {j : Nat} (hX : Ok SF X cc own d mc ms) (hd : decode cc pc = .ok (.iaload, 1)) (hc : c0_cy X 0 = cy 0) (hi : i < 8) (hj : j < 9) (hp : pc + 1 = pc') (h : V X k n (wSt cy ad v) L (.int (nI (v (21 + i) j)) :: st) pc') : V X k n (wSt cy ad v) L (.int (nI j) :: .ref (ad (23 + i)) :: st) pc :=
  r_iald_M hX hd hc (wStB_mem hi (List.mem_cons_of_mem _ List.mem_cons_self)) hj (by decide) hp h
theorem r_iastB {j x : Nat} (hX : Ok SF X cc own d mc ms) (hd : decode cc pc = .ok (.iastore, 1)) (hc : c0_cy X 0 = cy 0) (hi : i < 8) (hj : j < 9) (hp : pc + 1 = pc') (h : V X k n (wSt cy ad (up2 v (21 + i) j x)) L st pc') : V X k n (wSt cy ad v) L (.int (nI x) :: .int (nI j) :: .ref (ad (23 + i)) :: st) pc := by
  refine V_perm (wSt_split hi) ?_
  refine r_iast_N (ws' := wStB cy ad (up2 v (21 + i) j x) i ++ (wSt0 cy ad v ++ wRest 8 i (wStB cy ad v))) hX hd hc 1 rfl hj (by decide) ?_ hp ?_
  · unfold wStB
    rw [up2_eq, up2_ne (show 13 + i ≠ 21 + i by omega)]
    rfl
  · refine V_perm ?_ h
    refine List.Perm.trans ?_ (wSt_split (v := up2 v (21 + i) j x) hi).symm
    rw [wSt0_up (by omega), wRest_congr (g := wStB cy ad v) (fun j h1 h2 => wStB_up (by omega) (by omega))]
/-- recipes: row i of the grid -/
theorem r_aaldR (hX : Ok SF X cc own d mc ms) (hd : decode cc pc = .ok (.aaload, 1)) (hcy : c0_cy X = cy) (hi : i < 6) (hp : pc + 1 = pc') (h : V X k n (wSt cy ad v) L (.ref (ad (2 + i)) :: st) pc') : V X k n (wSt cy ad v) L (.int (nI i) :: .ref (ad 1) :: st) pc :=
  r_aald hX hd 3 (by rw [hcy]; rfl) rfl (List.mem_append_left _ (List.mem_cons_of_mem _ List.mem_cons_self)) hi (by decide) (if_pos hi) hp h
theorem r_aaldB (hX : Ok SF X cc own d mc ms) (hd : decode cc pc = .ok (.aaload, 1)) (hcy : c0_cy X = cy) (hi : i < 8) (hp : pc + 1 = pc') (h : V X k n (wSt cy ad v) L (.ref (ad (15 + i)) :: st) pc') : V X k n (wSt cy ad v) L (.int (nI i) :: .ref (ad 14) :: st) pc :=
  r_aald hX hd 4 (by rw [hcy]; rfl) rfl (List.mem_append_left _ (List.mem_of_getElem? (i := 14) rfl)) hi (by decide) (if_pos hi) hp h
theorem six_of {P : Nat → Prop} (h0 : P 0) (h1 : P 1) (h2 : P 2) (h3 : P 3) (h4 : P 4) (h5 : P 5) {i : Nat} (hi : i < 6) : P i := by
  match i, hi with
  | 0, _ => exact h0
  | 1, _ => exact h1
  | 2, _ => exact h2
  | 3, _ => exact h3
  | 4, _ => exact h4
  | 5, _ => exact h5
  | j + 6, h => exact absurd h (by omega)
theorem wSt_row {i : Nat} (hi : i < 6) : (wSt cy ad v)[2 + i]? = some (ad (2 + i), .inl (cy 0, aN 3 (v (7 + i)))) := six_of (P := fun i => (wSt cy ad v)[2 + i]? = some (ad (2 + i), .inl (cy 0, aN 3 (v (7 + i))))) rfl rfl rfl rfl rfl rfl hi
theorem r_ialdR {j : Nat} (hX : Ok SF X cc own d mc ms) (hd : decode cc pc = .ok (.iaload, 1)) (hc : c0_cy X 0 = cy 0) (hi : i < 6) (hj : j < 3) (hp : pc + 1 = pc') (h : V X k n (wSt cy ad v) L (.int (nI (v (7 + i) j)) :: st) pc') : V X k n (wSt cy ad v) L (.int (nI j) :: .ref (ad (2 + i)) :: st) pc :=
  r_iald_N hX hd hc (2 + i) (wSt_row hi) hj (by decide) hp h
theorem wSt_rowset {i j x : Nat} (hi : i < 6) : (wSt cy ad v).set (2 + i) (ad (2 + i), .inl (cy 0, aN 3 (up1 (v (7 + i)) j x))) = wSt cy ad (up2 v (7 + i) j x) := six_of (P := fun i => (wSt cy ad v).set (2 + i) (ad (2 + i), .inl (cy 0, aN 3 (up1 (v (7 + i)) j x))) = wSt cy ad (up2 v (7 + i) j x)) rfl rfl rfl rfl rfl rfl hi
theorem r_iastR {j x : Nat} (hX : Ok SF X cc own d mc ms) (hd : decode cc pc = .ok (.iastore, 1)) (hc : c0_cy X 0 = cy 0) (hi : i < 6) (hj : j < 3) (hp : pc + 1 = pc') (h : V X k n (wSt cy ad (up2 v (7 + i) j x)) L st pc') : V X k n (wSt cy ad v) L (.int (nI x) :: .int (nI j) :: .ref (ad (2 + i)) :: st) pc :=
  r_iast_N hX hd hc (2 + i) (wSt_row hi) hj (by decide) (wSt_rowset hi) hp h
end VBAT
/-- the model: r: changes hasSaved typed outputLength thrown spot isWrong; e: errorAt failedAt; its arrays g before history savedState buffer letters parsed -/
def wM (cy : Nat → ClassId) (ma : Nat → Nat) (r : Nat → Nat) (e : Nat → Int32) (g bf hi sv bu le : Nat → Nat) (pa : Nat → Int32) : va_W := [(ma 0, .inr (8, [.ref (ma 1), .ref (ma 2), .ref (ma 3), .int (nI (r 0)), .ref (ma 4), .int (nI (r 1)), .ref (ma 5), .int (nI (r 2)), .int (e 0), .int (e 1), .ref (ma 6), .int (nI (r 3)), .int (nI (r 4)), .int (nI (r 5)), .int (nI (r 6)), .ref (ma 7)])),
  (ma 1, .inl (cy 0, aN 159 g)), (ma 2, .inl (cy 0, aN 159 bf)), (ma 3, .inl (cy 0, aN 1272 hi)), (ma 4, .inl (cy 0, aN 159 sv)), (ma 5, .inl (cy 1, aN 60 bu)), (ma 6, .inl (cy 1, aN 60 le)), (ma 7, .inl (cy 0, aI 240 pa))]
