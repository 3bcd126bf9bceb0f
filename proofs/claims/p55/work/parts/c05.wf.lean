/-! ===== what keeps a State well formed ===== -/
theorem up1_le {f : Nat → Nat} {i x c : Nat} (hx : x ≤ c) (j : Nat) (hf : f j ≤ c) : up1 f i x j ≤ c := by
  unfold up1
  split <;> assumption
theorem Wf.up {v : SV} {b k x : Nat} (h : Wf v) (hb : b ≠ 0) (h1 : b = 1 → x ≤ 50) (h2 : b = 2 → x ≤ 20) (h3 : b = 3 → x ≤ 3000) (h7 : b < 7 ∨ 13 ≤ b) (hB : ∀ i, i < v 0 4 → b ≠ 13 + i ∧ b ≠ 21 + i) : Wf (up2 v b k x) := by
  obtain ⟨wa, wm, wb, ws, wt, wc, wB, wR, wL, wK, wP⟩ := h
  have e0 : up2 v b k x 0 = v 0 := up2_ne (fun q => hb q.symm)
  have e7 : ∀ i, i < 6 → up2 v b k x (7 + i) = v (7 + i) := fun i hi => up2_ne (by omega)
  refine ⟨by rw [e0]; exact wa, by rw [e0]; exact wm, by rw [e0]; exact wb, by rw [e0]; exact ws, by rw [e0]; exact wt, by rw [e0]; exact wc, ?_, ?_, ?_, ?_, ?_⟩
  · rw [e0]
    intro i hi
    rw [up2_ne (fun q => (hB i hi).1 q.symm), up2_ne (fun q => (hB i hi).2 q.symm)]
    exact wB i hi
  · intro i j hi hj
    rw [e7 i hi]
    exact wR i j hi hj
  · intro i hi
    obtain ⟨l1, l2⟩ := wL i hi
    constructor
    · by_cases e : b = 1
      · subst e
        rw [up2_eq]
        exact up1_le (h1 rfl) _ l1
      · rw [up2_ne (fun q => e q.symm)]
        exact l1
    · by_cases e : b = 2
      · subst e
        rw [up2_eq]
        exact up1_le (h2 rfl) _ l2
      · rw [up2_ne (fun q => e q.symm)]
        exact l2
  · intro j hj
    by_cases e : b = 3
    · subst e
      rw [up2_eq]
      exact up1_le (h3 rfl) _ (wK j hj)
    · rw [up2_ne (fun q => e q.symm)]
      exact wK j hj
  · rw [e0]
    intro a ha
    rw [e7 a (by omega)]
    exact wP a ha
/-- a batch that isn't counted may be written -/
theorem Wf.bat {v : SV} {i k x : Nat} (h : Wf v) (hi : v 0 4 ≤ i) (h8 : i < 8) : Wf (up2 v (13 + i) k x) := h.up (by omega) (by omega) (by omega) (by omega) (by omega) (fun j hj => by have := h.2.2.1; omega)
theorem Wf.sqr {v : SV} {i k x : Nat} (h : Wf v) (hi : v 0 4 ≤ i) (h8 : i < 8) : Wf (up2 v (21 + i) k x) := h.up (by omega) (by omega) (by omega) (by omega) (by omega) (fun j hj => by have := h.2.2.1; omega)
theorem Wf.low {v : SV} {b k x : Nat} (h : Wf v) (hb : 3 < b ∧ b < 7) : Wf (up2 v b k x) := h.up (by omega) (by omega) (by omega) (by omega) (by omega) (fun j hj => by omega)
theorem Wf.stk {v : SV} {k x : Nat} (h : Wf v) (hx : x ≤ 3000) : Wf (up2 v 3 k x) := h.up (by omega) (by omega) (by omega) (fun _ => hx) (by omega) (fun j hj => by omega)
theorem Wf.use {v : SV} {k x : Nat} (h : Wf v) (hx : x ≤ 20) : Wf (up2 v 2 k x) := h.up (by omega) (by omega) (fun _ => hx) (by omega) (by omega) (fun j hj => by omega)
theorem Wf.filB {v : SV} {i a n : Nat} (h : Wf v) (hi : v 0 4 ≤ i) (h8 : i < 8) : Wf (filB v i a n) := by
  have e : ∀ (w : SV) (k x : Nat), up2 w (13 + i) k x 0 4 = w 0 4 := fun w k x => congrFun (up2_ne (by omega)) 4
  show Wf (up2 (up2 (up2 (up2 (up2 v (13 + i) 0 (v 0 5)) (13 + i) 1 (v 0 6)) (13 + i) 2 n) (13 + i) 3 a) (13 + i) 4 0)
  exact ((((h.bat hi h8).bat (by rw [e]; exact hi) h8).bat (by rw [e, e]; exact hi) h8).bat (by rw [e, e, e]; exact hi) h8).bat (by rw [e, e, e, e]; exact hi) h8
theorem filB_0 {v : SV} {i a n b : Nat} (hb : b < 13 ∨ 21 ≤ b) (hi : i < 8) : filB v i a n b = v b := by
  unfold filB
  rw [up2_ne (by omega), up2_ne (by omega), up2_ne (by omega), up2_ne (by omega), up2_ne (by omega)]
theorem filL_b {v : SV} {i a m b : Nat} (hb : b ≠ 2) (h2 : b ≠ 21 + i) : ∀ k, filL v i a m k b = v b
  | 0 => rfl
  | k + 1 => by
    rw [filL, up2_ne hb, up2_ne h2]
    exact filL_b hb h2 k
theorem fil_0 {v : SV} {i a m n : Nat} (hi : i < 8) : fil v i a m n 0 = v 0 := by
  unfold fil
  rw [filL_b (by decide) (by omega), filB_0 (by omega) hi]
theorem bst_le {v : SV} {a n : Nat} : ∀ {k m : Nat}, n ≤ bst v a k → m < k → n * v (7 + a) m ≤ v 3 m
  | 0, _, _, h => absurd h (Nat.not_lt_zero _)
  | k + 1, m, h, hm => by
    rw [bst] at h
    by_cases e : m = k
    · subst e
      split at h
      · rename_i q
        have h1 : n ≤ v 3 m / v (7 + a) m := by omega
        exact (Nat.le_div_iff_mul_le q).mp h1
      · rename_i q
        rw [show v (7 + a) m = 0 by omega, Nat.mul_zero]
        exact Nat.zero_le _
    · refine bst_le (k := k) ?_ (by omega)
      split at h <;> omega
theorem dStk_b {v : SV} {a n b : Nat} (hb : b ≠ 3) : ∀ k, dStk v a n k b = v b
  | 0 => rfl
  | k + 1 => by
    rw [dStk, up2_ne hb]
    exact dStk_b hb k
theorem dStk_3 {v : SV} {a n m : Nat} : ∀ {k : Nat}, k ≤ m → dStk v a n k 3 m = v 3 m
  | 0, _ => rfl
  | k + 1, h => by
    rw [dStk, up2_at (by omega)]
    exact dStk_3 (by omega)
theorem exS_b {v : SV} {p b : Nat} (hb : b ≠ 5) : ∀ k, exS v p k b = v b
  | 0 => rfl
  | k + 1 => by
    rw [exS, up2_ne hb]
    exact exS_b hb k
theorem meL_b {v : SV} {p b : Nat} (h3 : b ≠ 3) (h6 : b ≠ 6) : ∀ k, meL v p k b = v b
  | 0 => rfl
  | k + 1 => by
    rw [meL, up2_ne h6, up2_ne h3]
    exact meL_b h3 h6 k
/-! a State whose row of batches holds f -/
def wStF (cy : Nat → ClassId) (ad : Nat → Nat) (v : SV) (f : Nat → Option Nat) : va_W := (wSt cy ad v).set 14 (ad 14, .inl (cy 4, aR 8 f))
def fA (ad : Nat → Nat) (p i : Nat) : Nat → Option Nat := fun k => if k < 8 then (if p ≤ k ∧ k < i then some (ad (15 + (k + 1))) else some (ad (15 + k))) else none
theorem wStF_0 {cy : Nat → ClassId} {ad : Nat → Nat} {v : SV} {p : Nat} : wSt cy ad v = wStF cy ad v (fA ad p p) := by
  have e : fA ad p p = fun i => if i < 8 then some (ad (15 + i)) else none := by
    funext k
    unfold fA
    rw [if_neg (show ¬ (p ≤ k ∧ k < p) by omega)]
  rw [e]
  rfl
theorem rot_lt {n p i : Nat} (hn : n ≤ 8) (hp : p < n) (hi : i < 8) : rot n p i < 8 := by
  unfold rot
  split
  · exact hi
  · split
    · omega
    · split <;> omega
theorem rot_perm : ∀ n, n ≤ 8 → ∀ p, p < n → ((List.range 8).map (rot n p)).Perm (List.range 8) := by decide +kernel
/-- the addresses behind a removal -/
def adR (ad : Nat → Nat) (n p : Nat) : Nat → Nat := fun k => if 15 ≤ k ∧ k < 23 then ad (15 + rot n p (k - 15)) else if 23 ≤ k ∧ k < 31 then ad (23 + rot n p (k - 23)) else ad k
theorem fA_end {ad : Nat → Nat} {n p : Nat} (hn : n ≤ 8) (hp : p < n) : va_up (fA ad p (n - 1)) (n - 1) (some (ad (15 + p))) = fun j => if j < 8 then some (adR ad n p (15 + j)) else none := by
  funext j
  unfold va_up fA adR rot
  by_cases hj : j < 8
  · rw [if_pos hj, if_pos hj, if_pos (show 15 ≤ 15 + j ∧ 15 + j < 23 by omega), show 15 + j - 15 = j by omega]
    by_cases e : j = n - 1
    · rw [if_pos e, if_neg (by omega), if_neg (by omega), if_pos (by omega)]
    · rw [if_neg e]
      by_cases q : p ≤ j ∧ j < n - 1
      · rw [if_pos q, if_neg (by omega), if_pos (by omega)]
      · rw [if_neg q]
        by_cases z : j < p
        · rw [if_pos z]
        · rw [if_neg z, if_neg (by omega), if_neg (by omega)]
  · rw [if_neg (show ¬ j = n - 1 by omega), if_neg hj, if_neg hj]
theorem fA_step {ad : Nat → Nat} {p i : Nat} (hp : p ≤ i) (hi : i + 1 < 8) : va_up (fA ad p i) i (some (ad (15 + (i + 1)))) = fA ad p (i + 1) := by
  funext j
  unfold va_up fA
  by_cases e : j = i
  · subst e
    rw [if_pos rfl, if_pos (by omega), if_pos (by omega)]
  · rw [if_neg e]
    by_cases h8 : j < 8
    · rw [if_pos h8, if_pos h8]
      by_cases q : p ≤ j ∧ j < i
      · rw [if_pos q, if_pos (by omega)]
      · rw [if_neg q, if_neg (by omega)]
    · rw [if_neg h8, if_neg h8]
theorem fA_at {ad : Nat → Nat} {p i : Nat} (hi : i + 1 < 8) : fA ad p i (i + 1) = some (ad (15 + (i + 1))) := by
  unfold fA
  rw [if_pos hi, if_neg (by omega)]
theorem wStB_rot {cy : Nat → ClassId} {ad : Nat → Nat} {v : SV} {p i : Nat} (hi : i < 8) : wStB cy (adR ad (v 0 4) p) (rmv v p) i = wStB cy ad v (rot (v 0 4) p i) := by
  unfold wStB adR rmv
  rw [if_pos (show 15 ≤ 15 + i ∧ 15 + i < 23 by omega), if_neg (show ¬ (15 ≤ 23 + i ∧ 23 + i < 23) by omega), if_pos (show 23 ≤ 23 + i ∧ 23 + i < 31 by omega), if_pos (show 13 ≤ 13 + i ∧ 13 + i < 21 by omega), if_neg (show ¬ (13 ≤ 21 + i ∧ 21 + i < 21) by omega), if_pos (show 21 ≤ 21 + i ∧ 21 + i < 29 by omega),
    show 15 + i - 15 = i by omega, show 23 + i - 23 = i by omega, show 13 + i - 13 = i by omega, show 21 + i - 21 = i by omega]
theorem flat_congr {f g : Nat → va_W} : ∀ (l : List Nat), (∀ i ∈ l, f i = g i) → l.flatMap f = l.flatMap g
  | [], _ => rfl
  | a :: l, h => by rw [List.flatMap_cons, List.flatMap_cons, h a List.mem_cons_self, flat_congr l (fun i hi => h i (List.mem_cons_of_mem _ hi))]
theorem adR_lo {ad : Nat → Nat} {n p k : Nat} (h : k < 15) : adR ad n p k = ad k := by
  unfold adR
  rw [if_neg (by omega), if_neg (by omega)]
theorem rmv_lo {v : SV} {p b : Nat} (h : b < 13) : rmv v p b = up2 v 0 4 (v 0 4 - 1) b := by
  unfold rmv
  rw [if_neg (by omega), if_neg (by omega)]
theorem wSt0_rot {cy : Nat → ClassId} {ad : Nat → Nat} {v : SV} {p : Nat} : wSt0 cy (adR ad (v 0 4) p) (rmv v p) = (wSt0 cy ad (up2 v 0 4 (v 0 4 - 1))).set 14 (ad 14, .inl (cy 4, aR 8 (fun i => if i < 8 then some (adR ad (v 0 4) p (15 + i)) else none))) := by
  have e2 : (fun i => if i < 6 then some (adR ad (v 0 4) p (2 + i)) else none) = fun i => if i < 6 then some (ad (2 + i)) else none := by
    funext i
    by_cases hi : i < 6
    · rw [if_pos hi, if_pos hi, adR_lo (by omega)]
    · rw [if_neg hi, if_neg hi]
  unfold wSt0
  rw [e2]
  simp only [adR_lo (show (0 : Nat) < 15 by decide), adR_lo (show (1 : Nat) < 15 by decide), adR_lo (show (2 : Nat) < 15 by decide), adR_lo (show (3 : Nat) < 15 by decide), adR_lo (show (4 : Nat) < 15 by decide), adR_lo (show (5 : Nat) < 15 by decide), adR_lo (show (6 : Nat) < 15 by decide), adR_lo (show (7 : Nat) < 15 by decide), adR_lo (show (8 : Nat) < 15 by decide), adR_lo (show (9 : Nat) < 15 by decide), adR_lo (show (10 : Nat) < 15 by decide), adR_lo (show (11 : Nat) < 15 by decide), adR_lo (show (12 : Nat) < 15 by decide), adR_lo (show (13 : Nat) < 15 by decide), adR_lo (show (14 : Nat) < 15 by decide), rmv_lo (show (0 : Nat) < 13 by decide), rmv_lo (show (1 : Nat) < 13 by decide), rmv_lo (show (2 : Nat) < 13 by decide), rmv_lo (show (3 : Nat) < 13 by decide), rmv_lo (show (4 : Nat) < 13 by decide), rmv_lo (show (5 : Nat) < 13 by decide), rmv_lo (show (6 : Nat) < 13 by decide), rmv_lo (show (7 : Nat) < 13 by decide), rmv_lo (show (8 : Nat) < 13 by decide), rmv_lo (show (9 : Nat) < 13 by decide), rmv_lo (show (10 : Nat) < 13 by decide), rmv_lo (show (11 : Nat) < 13 by decide), rmv_lo (show (12 : Nat) < 13 by decide)]
  rfl
theorem remove_perm {cy : Nat → ClassId} {ad : Nat → Nat} {v : SV} {p : Nat} (hn : v 0 4 ≤ 8) (hp : p < v 0 4) : (wStF cy ad (up2 v 0 4 (v 0 4 - 1)) (fun i => if i < 8 then some (adR ad (v 0 4) p (15 + i)) else none)).Perm (wSt cy (adR ad (v 0 4) p) (rmv v p)) := by
  have e1 : wStF cy ad (up2 v 0 4 (v 0 4 - 1)) (fun i => if i < 8 then some (adR ad (v 0 4) p (15 + i)) else none) = wSt0 cy (adR ad (v 0 4) p) (rmv v p) ++ (List.range 8).flatMap (wStB cy ad v) := by
    rw [wSt0_rot]
    have : (List.range 8).flatMap (wStB cy ad (up2 v 0 4 (v 0 4 - 1))) = (List.range 8).flatMap (wStB cy ad v) := flat_congr _ (fun i _ => wStB_up (by omega) (by omega))
    unfold wStF wSt
    rw [this]
    rfl
  rw [e1]
  unfold wSt
  refine List.Perm.append_left _ ?_
  have e2 : (List.range 8).flatMap (wStB cy (adR ad (v 0 4) p) (rmv v p)) = ((List.range 8).map (rot (v 0 4) p)).flatMap (wStB cy ad v) := by
    rw [List.flatMap_map]
    exact flat_congr _ (fun i hi => wStB_rot (List.mem_range.mp hi))
  rw [e2]
  exact ((rot_perm _ hn _ hp).flatMap_right _).symm
theorem wStF_bat {cy : Nat → ClassId} {ad : Nat → Nat} {v : SV} {f : Nat → Option Nat} {i : Nat} (hi : i < 8) : (ad (15 + i), Sum.inr (4, [.int (nI (v (13 + i) 0)), .int (nI (v (13 + i) 1)), .int (nI (v (13 + i) 2)), .int (nI (v (13 + i) 3)), .int (nI (v (13 + i) 4)), .ref (ad (23 + i))])) ∈ wStF cy ad v f := by
  have h : wStF cy ad v f = (wSt0 cy ad v).set 14 (ad 14, .inl (cy 4, aR 8 f)) ++ (List.range 8).flatMap (wStB cy ad v) := rfl
  rw [h]
  exact List.mem_append_right _ (List.mem_flatMap.mpr ⟨i, List.mem_range.mpr hi, List.mem_cons_self⟩)
theorem bst_lt (v : SV) (a : Nat) : ∀ k, bst v a k < 2147483648
  | 0 => Nat.lt_of_lt_of_le (show 2147483647 < 2147483648 by decide) (Nat.le_refl _)
  | k + 1 => by
    have := bst_lt v a k
    rw [bst]
    split <;> omega
section VSIM
variable {X : xC} {cc : ByteArray} {own : String} {d mc ms : Nat} {k n : Nat} {ws : va_W} {L : List (Option Value)} {st0 rest : List Value} {pc pc' : Nat}
/-- an array's content is what its cell holds -/
theorem V_cell {a q0 : Nat} {c : ClassId} {x y : vp_A} (he : ws[q0]? = some (a, Sum.inl (c, x))) (hxy : vp_cell c x = vp_cell c y) (h : V X k n (ws.set q0 (a, Sum.inl (c, y))) L st0 pc) : V X k n ws L st0 pc := by
  obtain ⟨p, l, e, R, s, m, args, below, meth, cd, nL, G, A, Q⟩ := X
  intro H locs ls hP hD hS hl
  refine h H locs ls ?_ (hD.set he) hS hl
  refine hP.set hD he ?_ (fun _ _ => rfl)
  have := hP q0 _ he
  show H[a]? = some (vp_cell c y)
  rw [← hxy]
  exact this
theorem r_mmaxP {index : Nat} {a : Nat} (hX : Ok SF X cc own d mc ms) (hd : decode cc pc = .ok (.invokestatic index, 3)) (hKk : KS own index yJ9_max_7cf53 cJ9_max_7cf53 2 (some .int) 2) (ha : a < 1000000) (hp : pc + 3 = pc') (hst : (rest.map fun v => v.category).sum ≤ 8) (hd9 : 1 ≤ d) (hk : k ≤ mc) (hn : n ≤ ms) (h : V X k n ws L (.int (nI (a - 1)) :: rest) pc') : V X k n ws L (.int (nI 0) :: .int (nI a - nI 1) :: rest) pc := by
  obtain ⟨p, l, e, R, s, m, args, below, meth, c, nL, G, A, Q⟩ := X
  obtain ⟨hx, hb, hown, hts, hK, hA, hlk, hml, hR, hsf, hNw⟩ := hX
  subst hp
  intro H locs ls hP hD hS hl
  have hG := hKk.1
  have e9 : (if nI a - nI 1 < nI 0 then nI 0 else nI a - nI 1) = nI (a - 1) := by
    by_cases q : a = 0
    · subst q
      rfl
    · rw [pk_sub (by omega), if_neg (nI_nlt (by omega) (by omega))]
  refine va_mmax hx hb (hml.trans hl.1.symm) hown (hts _ (hG _ (List.mem_cons_self)).1) (hts _ (hG _ (List.mem_cons_of_mem _ List.mem_cons_self)).1) (hts _ (hG _ (List.mem_cons_of_mem _ (List.mem_cons_of_mem _ List.mem_cons_self))).1) (hts _ (hG _ (List.mem_cons_of_mem _ (List.mem_cons_of_mem _ (List.mem_cons_of_mem _ List.mem_cons_self)))).1) (Nat.le_trans hd9 hR.1) (by omega) (Nat.le_trans hk hR.2.2.1) (Nat.le_trans hn hR.2.2.2) hd ?_
  rw [e9]
  exact h H locs ls hP hD hS hl
end VSIM
