/-! ===== what every change keeps ===== -/
theorem sumT_congr {f g : Nat → Nat} : ∀ {n : Nat}, (∀ i, i < n → f i = g i) → sumT f n = sumT g n
  | 0, _ => rfl
  | n + 1, h => by rw [sumT, sumT, sumT_congr (n := n) (fun i hi => h i (by omega)), h n (by omega)]
/-- one place left out -/
theorem sumT_rm {f : Nat → Nat} {p : Nat} : ∀ {n : Nat}, p < n → sumT (fun i => f (if i < p then i else i + 1)) (n - 1) + f p = sumT f n
  | 0, h => absurd h (Nat.not_lt_zero _)
  | n + 1, h => by
    rw [Nat.add_sub_cancel, sumT]
    by_cases e : p = n
    · subst e
      rw [sumT_congr (g := f) (fun i hi => by rw [if_pos hi])]
    · have ih := sumT_rm (f := f) (p := p) (n := n) (by omega)
      obtain ⟨k, rfl⟩ : ∃ k, n = k + 1 := ⟨n - 1, by omega⟩
      rw [Nat.add_sub_cancel] at ih
      rw [sumT, if_neg (by omega)]
      omega
/-- the metal m of batch i -/
def mtB (v : SV) (m i : Nat) : Nat := v (13 + i) 2 * v (7 + v (13 + i) 3) m
theorem mib_sum {v : SV} {m : Nat} : ∀ n, mib v m n = sumT (mtB v m) n
  | 0 => rfl
  | n + 1 => by rw [mib, sumT, mib_sum n]; rfl
theorem mtB_le {v : SV} (hv : Wf v) {i m : Nat} (hi : i < v 0 4) (hm : m < 3) : mtB v m i ≤ 81 := by
  obtain ⟨wa, wm, wb, ws, wt, wc, wB, wR, wL, wK, wP⟩ := hv
  obtain ⟨bz, ba, -, -, -, -⟩ := wB i hi
  exact Nat.mul_le_mul bz.2 (wR _ m (by omega) hm)
theorem mib_le {v : SV} (hv : Wf v) {m : Nat} (hm : m < 3) : ∀ {n : Nat}, n ≤ v 0 4 → mib v m n ≤ n * 81
  | 0, _ => by rw [mib]; omega
  | n + 1, h => by
    have := mib_le hv hm (n := n) (by omega)
    have q := mtB_le hv (i := n) (m := m) (by omega) hm
    unfold mtB at q
    rw [mib]
    omega
/-- the metals' books -/
def Bks (K : Nat) (v : SV) (m : Nat) : Prop := v 3 m + mib v m (v 0 4) ≤ 1647 ∧ v 4 m = v 3 m + v 5 m + v 6 m + mib v m (v 0 4) ∧ v 4 m ≤ 99 * K
def Inv (K : Nat) (v : SV) : Prop := Wf v ∧ (∀ i, v 0 1 ≤ i → i < 4 → v 2 i = 0) ∧ (∀ m, m < 3 → Bks K v m) ∧
  v 0 6 = v 0 7 + v 0 8 + sumT (fun i => v (13 + i) 2) (v 0 4) ∧ v 0 5 ≤ K ∧ v 0 6 ≤ 9 * K ∧ ∀ i, i < v 0 4 → v (13 + i) 0 < v 0 5 ∧ v (13 + i) 1 + v (13 + i) 2 ≤ v 0 6
theorem Inv.mono {K J : Nat} {v : SV} (h : Inv K v) (hj : K ≤ J) : Inv J v := by
  obtain ⟨h1, h2, h3, h4, h5, h6, h7⟩ := h
  refine ⟨h1, h2, fun m hm => ?_, h4, by omega, by omega, h7⟩
  obtain ⟨b1, b2, b3⟩ := h3 m hm
  exact ⟨b1, b2, by omega⟩
theorem Inv.keep {K : Nat} {v w : SV} (h : Inv K v) (hw : Wf w) (hz : ∀ i, w 0 1 ≤ i → i < 4 → w 2 i = 0) (h0 : ∀ k, 4 ≤ k → k < 9 → w 0 k = v 0 k) (hB : ∀ i k, i < v 0 4 → k < 4 → w (13 + i) k = v (13 + i) k)
    (hR : ∀ a, a < v 0 0 → w (7 + a) = v (7 + a)) (hM : ∀ b m, 3 ≤ b → b < 7 → m < 3 → w b m = v b m) : Inv K w := by
  obtain ⟨h1, h2, h3, h4, h5, h6, h7⟩ := h
  have e4 := h0 4 (by decide) (by decide)
  have e5 := h0 5 (by decide) (by decide)
  have e6 := h0 6 (by decide) (by decide)
  have e7 := h0 7 (by decide) (by decide)
  have e8 := h0 8 (by decide) (by decide)
  have em : ∀ m, mib w m (v 0 4) = mib v m (v 0 4) := fun m => by
    rw [mib_sum, mib_sum]
    refine sumT_congr (fun i hi => ?_)
    unfold mtB
    rw [hB i 2 hi (by decide), hB i 3 hi (by decide), hR _ (h1.2.2.2.2.2.2.1 i hi).2.1]
  have es : sumT (fun i => w (13 + i) 2) (v 0 4) = sumT (fun i => v (13 + i) 2) (v 0 4) := sumT_congr (fun i hi => hB i 2 hi (by decide))
  refine ⟨hw, hz, fun m hm => ?_, by rw [e4, e6, e7, e8, es]; exact h4, by rw [e5]; exact h5, by rw [e6]; exact h6, ?_⟩
  · unfold Bks
    rw [e4, em, hM 3 m (by decide) (by decide) hm, hM 4 m (by decide) (by decide) hm, hM 5 m (by decide) (by decide) hm, hM 6 m (by decide) (by decide) hm]
    exact h3 m hm
  · rw [e4, e5, e6]
    intro i hi
    rw [hB i 0 hi (by decide), hB i 1 hi (by decide), hB i 2 hi (by decide)]
    exact h7 i hi
/-- one of the first three numbers, or the tolerance or the step -/
theorem Wf.up0 {v : SV} {k x : Nat} (h : Wf v) (hk : (k = 2 ∧ x ≤ 99) ∨ (k = 3 ∧ 1 ≤ x ∧ x ≤ 5) ∨ (k = 1 ∧ x ≤ 4)) : Wf (up2 v 0 k x) := by
  obtain ⟨wa, wm, wb, ws, wt, wc, wB, wR, wL, wK, wP⟩ := h
  have e : ∀ b, b ≠ 0 → up2 v 0 k x b = v b := fun b hb => up2_ne hb
  have e0 : ∀ j, j ≠ k → up2 v 0 k x 0 j = v 0 j := fun j hj => up2_at hj
  have ek : up2 v 0 k x 0 k = x := up2_s
  refine ⟨by rw [e0 0 (by omega)]; exact wa, ?_, by rw [e0 4 (by omega)]; exact wb, ?_, ?_, by rw [e0 5 (by omega), e0 6 (by omega), e0 7 (by omega), e0 8 (by omega)]; exact wc, ?_, ?_, ?_, ?_, ?_⟩
  · by_cases q : k = 1
    · subst q; rw [ek]; omega
    · rw [e0 1 (by omega)]; exact wm
  · by_cases q : k = 3
    · subst q; rw [ek]; omega
    · rw [e0 3 (by omega)]; exact ws
  · by_cases q : k = 2
    · subst q; rw [ek]; omega
    · rw [e0 2 (by omega)]; exact wt
  · rw [e0 4 (by omega), e0 0 (by omega)]
    intro i hi
    rw [e _ (by omega), e _ (by omega)]
    exact wB i hi
  · intro i j hi hj
    rw [e _ (by omega)]
    exact wR i j hi hj
  · intro i hi
    rw [e _ (by omega), e _ (by omega)]
    exact wL i hi
  · intro j hj
    rw [e _ (by omega)]
    exact wK j hj
  · rw [e0 0 (by omega)]
    intro a ha
    rw [e _ (by omega)]
    exact wP a ha
section INV
variable {K : Nat} {v : SV}
theorem Inv.tol (h : Inv K v) {k x : Nat} (hk : (k = 2 ∧ x ≤ 99) ∨ (k = 3 ∧ 1 ≤ x ∧ x ≤ 5)) : Inv K (up2 v 0 k x) := by
  refine h.keep (h.1.up0 (by omega)) ?_ (fun j h1 h2 => up2_at (by omega)) (fun i j hi hj => congrFun (up2_ne (by omega)) j) (fun a ha => up2_ne (by omega)) (fun b m h1 h2 h3 => congrFun (up2_ne (by omega)) m)
  rw [up2_at (show 1 ≠ k by omega), up2_ne (show 2 ≠ 0 by decide)]
  exact h.2.1
theorem Inv.use (h : Inv K v) {j : Nat} : Inv K (up2 v 2 j 0) := by
  refine h.keep (h.1.use (by omega)) ?_ (fun k h1 h2 => congrFun (up2_ne (by decide)) k) (fun i k hi hk => congrFun (up2_ne (by omega)) k) (fun a ha => up2_ne (by omega)) (fun b m h1 h2 h3 => congrFun (up2_ne (by omega)) m)
  rw [up2_ne (show 0 ≠ 2 by decide)]
  intro i h1 h2
  by_cases e : i = j
  · rw [e, up2_s]
  · rw [up2_at e]
    exact h.2.1 i h1 h2
theorem Inv.mould (h : Inv K v) {x : Nat} (hx : x ≤ 50) (h4 : v 0 1 < 4) : Inv K (up2 (up2 (up2 v 1 (v 0 1) x) 2 (v 0 1) 0) 0 1 (v 0 1 + 1)) := by
  have w1 : Wf (up2 v 1 (v 0 1) x) := h.1.up (by omega) (fun _ => hx) (by omega) (by omega) (by omega) (fun i hi => by omega)
  refine h.keep ((w1.use (by omega)).up0 (by omega)) ?_ (fun k h1 h2 => by rw [up2_at (by omega), up2_ne (by decide), up2_ne (by decide)]) (fun i k hi hk => by rw [up2_ne (by omega), up2_ne (by omega), up2_ne (by omega)]) (fun a ha => by rw [up2_ne (by omega), up2_ne (by omega), up2_ne (by omega)]) (fun b m h1 h2 h3 => by rw [up2_ne (by omega), up2_ne (by omega), up2_ne (by omega)])
  rw [up2_s, up2_ne (show 2 ≠ 0 by decide)]
  intro i h1 h2
  rw [up2_at (by omega), up2_ne (by decide)]
  exact h.2.1 i (by omega) h2
theorem Inv.mix (h : Inv K v) {a b c : Nat} (ha : a ≤ 9) (hb : b ≤ 9) (hc : c ≤ 9) (h0 : 1 ≤ a + b + c) (h6 : v 0 0 < 6) : Inv K (up2 (up2 (up2 (up2 v (7 + v 0 0) 0 a) (7 + v 0 0) 1 b) (7 + v 0 0) 2 c) 0 0 (v 0 0 + 1)) := by
  obtain ⟨w, hw⟩ : ∃ w, w = up2 (up2 (up2 (up2 v (7 + v 0 0) 0 a) (7 + v 0 0) 1 b) (7 + v 0 0) 2 c) 0 0 (v 0 0 + 1) := ⟨_, rfl⟩
  rw [← hw]
  have e : ∀ b', b' ≠ 0 → b' ≠ 7 + v 0 0 → w b' = v b' := fun b' q1 q2 => by rw [hw, up2_ne q1, up2_ne q2, up2_ne q2, up2_ne q2]
  have e0 : ∀ k, k ≠ 0 → w 0 k = v 0 k := fun k hk => by rw [hw, up2_at hk, up2_ne (by omega), up2_ne (by omega), up2_ne (by omega)]
  have e00 : w 0 0 = v 0 0 + 1 := by rw [hw, up2_s]
  have r0 : w (7 + v 0 0) 0 = a := by rw [hw, up2_ne (by omega), up2_at (by decide), up2_at (by decide), up2_s]
  have r1 : w (7 + v 0 0) 1 = b := by rw [hw, up2_ne (by omega), up2_at (by decide), up2_s]
  have r2 : w (7 + v 0 0) 2 = c := by rw [hw, up2_ne (by omega), up2_s]
  obtain ⟨wa, wm, wb, ws, wt, wc, wB, wR, wL, wK, wP⟩ := h.1
  have hW : Wf w := by
    refine ⟨by omega, by rw [e0 1 (by decide)]; exact wm, by rw [e0 4 (by decide)]; exact wb, by rw [e0 3 (by decide)]; exact ws, by rw [e0 2 (by decide)]; exact wt, by rw [e0 5 (by decide), e0 6 (by decide), e0 7 (by decide), e0 8 (by decide)]; exact wc, ?_, ?_, ?_, ?_, ?_⟩
    · rw [e0 4 (by decide), e00]
      intro i hi
      rw [e _ (by omega) (by omega), e _ (by omega) (by omega)]
      obtain ⟨b1, b2, b3⟩ := wB i hi
      exact ⟨b1, by omega, b3⟩
    · intro i j hi hj
      by_cases q : i = v 0 0
      · subst q
        match j, hj with
        | 0, _ => rw [r0]; exact ha
        | 1, _ => rw [r1]; exact hb
        | 2, _ => rw [r2]; exact hc
        | j + 3, hj => exact absurd hj (by omega)
      · rw [e _ (by omega) (by omega)]
        exact wR i j hi hj
    · intro i hi
      rw [e _ (by omega) (by omega), e _ (by omega) (by omega)]
      exact wL i hi
    · intro j hj
      rw [e _ (by omega) (by omega)]
      exact wK j hj
    · rw [e00]
      intro i hi
      by_cases q : i = v 0 0
      · rw [q, r0, r1, r2]; exact h0
      · rw [e _ (by omega) (by omega)]
        exact wP i (by omega)
  refine h.keep hW ?_ (fun k h1 h2 => e0 k (by omega)) (fun i k hi hk => congrFun (e _ (by omega) (by omega)) k) (fun i hi => e _ (by omega) (by omega)) (fun b' m h1 h2 h3 => congrFun (e _ (by omega) (by omega)) m)
  rw [e0 1 (by decide), e 2 (by decide) (by omega)]
  exact h.2.1
theorem Inv.fail (h : Inv K v) {p : Nat} (hp : p < v 0 4) : Inv K (up2 v (13 + p) 4 1) := by
  obtain ⟨wa, wm, wb, ws, wt, wc, wB, wR, wL, wK, wP⟩ := h.1
  have e : ∀ b, b ≠ 13 + p → up2 v (13 + p) 4 1 b = v b := fun b hb => up2_ne hb
  have ei : ∀ i k, k ≠ 4 → up2 v (13 + p) 4 1 (13 + i) k = v (13 + i) k := fun i k hk => up2_at2 (by omega)
  have hW : Wf (up2 v (13 + p) 4 1) := by
    refine ⟨by rw [e 0 (by omega)]; exact wa, by rw [e 0 (by omega)]; exact wm, by rw [e 0 (by omega)]; exact wb, by rw [e 0 (by omega)]; exact ws, by rw [e 0 (by omega)]; exact wt, by rw [e 0 (by omega)]; exact wc, ?_, ?_, ?_, ?_, ?_⟩
    · rw [e 0 (by omega)]
      intro i hi
      obtain ⟨b1, b2, b3, b4, b5, b6⟩ := wB i hi
      rw [ei i 0 (by decide), ei i 1 (by decide), ei i 2 (by decide), ei i 3 (by decide), e (21 + i) (by omega)]
      refine ⟨b1, b2, ?_, b4, b5, b6⟩
      by_cases q : i = p
      · rw [q, up2_s]; exact Nat.le_refl _
      · rw [e _ (by omega)]; exact b3
    · intro i j hi hj
      rw [e _ (by omega)]
      exact wR i j hi hj
    · intro i hi
      rw [e _ (by omega), e _ (by omega)]
      exact wL i hi
    · intro j hj
      rw [e _ (by omega)]
      exact wK j hj
    · rw [e 0 (by omega)]
      intro a ha
      rw [e _ (by omega)]
      exact wP a ha
  refine h.keep hW ?_ (fun k h1 h2 => congrFun (e 0 (by omega)) k) (fun i k hi hk => ei i k (by omega)) (fun a ha => e _ (by omega)) (fun b m h1 h2 h3 => congrFun (e _ (by omega)) m)
  rw [e 0 (by omega), e 2 (by omega)]
  exact h.2.1
theorem Inv.buy (h : Inv K v) {m x : Nat} (hm : m < 3) (hx : x ≤ 99) (h9 : v 3 m + x ≤ 999) : Inv (K + 1) (up2 (up2 v 3 m (v 3 m + x)) 4 m (v 4 m + x)) := by
  have e : ∀ b, b ≠ 3 → b ≠ 4 → up2 (up2 v 3 m (v 3 m + x)) 4 m (v 4 m + x) b = v b := fun b q1 q2 => by rw [up2_ne q2, up2_ne q1]
  have hW : Wf (up2 (up2 v 3 m (v 3 m + x)) 4 m (v 4 m + x)) := (h.1.stk (by omega)).low (by omega)
  have hml := mib_le h.1 hm (n := v 0 4) (Nat.le_refl _)
  have hb8 := h.1.2.2.1
  obtain ⟨h1, h2, h3, h4, h5, h6, h7⟩ := h
  have em : ∀ m' n, mib (up2 (up2 v 3 m (v 3 m + x)) 4 m (v 4 m + x)) m' n = mib v m' n := fun m' n => by
    rw [mib_sum, mib_sum]
    refine sumT_congr (fun i hi => ?_)
    unfold mtB
    rw [e _ (by omega) (by omega), e _ (by omega) (by omega)]
  refine ⟨hW, by rw [e 0 (by decide) (by decide), e 2 (by decide) (by decide)]; exact h2, ?_, ?_, by rw [e 0 (by decide) (by decide)]; omega, by rw [e 0 (by decide) (by decide)]; omega, ?_⟩
  · intro m' hm'
    obtain ⟨b1, b2, b3⟩ := h3 m' hm'
    unfold Bks
    rw [e 0 (by decide) (by decide), em, e 5 (by decide) (by decide), e 6 (by decide) (by decide)]
    by_cases q : m' = m
    · subst q
      rw [up2_s, up2_ne (show 3 ≠ 4 by decide), up2_s]
      omega
    · rw [up2_at q, up2_ne (show 4 ≠ 3 by decide), up2_ne (show 3 ≠ 4 by decide), up2_at q]
      omega
  · rw [e 0 (by decide) (by decide), h4]
    congr 1
    exact sumT_congr (fun i hi => by rw [e _ (by omega) (by omega)])
  · rw [e 0 (by decide) (by decide)]
    intro i hi
    rw [e _ (by omega) (by omega)]
    exact h7 i hi
theorem Inv.pour (h : Inv K v) {a m n : Nat} (ha : a < v 0 0) (hm : m < v 0 1) (hn : 1 ≤ n ∧ n ≤ 9) (h8 : v 0 4 < 8) (hu : v 2 m + n ≤ 20) (hs : hasN v a n 3) (hK : K < 100000) : Inv (K + 1) (pouW v a m n) := by
  obtain ⟨h1, h2, h3, h4, h5, h6, h7⟩ := h
  have h1' := h1
  obtain ⟨wa, wm, wb, ws, wt, wc, wB, wR, wL, wK, wP⟩ := h1
  have e0 : ∀ k, k ≠ 4 → k ≠ 5 → k ≠ 6 → pouW v a m n 0 k = v 0 k := fun k q1 q2 q3 => pou_0 h8 q1 q2 q3
  have e4 := pou_04 (a := a) (m := m) (n := n) h8
  have e5 := pou_05 (a := a) (m := m) (n := n) h8
  have e6 := pou_06 (a := a) (m := m) (n := n) h8
  have eb : ∀ i, i ≠ v 0 4 → i < 8 → pouW v a m n (13 + i) = v (13 + i) := fun i q1 q2 => pou_b (by omega) (by omega) (by omega) (by omega) (by omega)
  have eq : ∀ i, i ≠ v 0 4 → i < 8 → pouW v a m n (21 + i) = v (21 + i) := fun i q1 q2 => pou_b (by omega) (by omega) (by omega) (by omega) (by omega)
  have er : ∀ i, i < 6 → pouW v a m n (7 + i) = v (7 + i) := fun i q => pou_b (by omega) (by omega) (by omega) (by omega) (by omega)
  have n0 : pouW v a m n (13 + v 0 4) 0 = v 0 5 := pou_bt (by decide)
  have n1 : pouW v a m n (13 + v 0 4) 1 = v 0 6 := pou_bt (by decide)
  have n2 : pouW v a m n (13 + v 0 4) 2 = n := pou_bt (by decide)
  have n3 : pouW v a m n (13 + v 0 4) 3 = a := pou_bt (by decide)
  have n4 : pouW v a m n (13 + v 0 4) 4 = 0 := pou_bt (by decide)
  have em : ∀ m', mib (pouW v a m n) m' (v 0 4 + 1) = mib v m' (v 0 4) + n * v (7 + a) m' := fun m' => by
    rw [mib, n2, n3, er a (by omega), mib_sum, mib_sum]
    congr 1
    refine sumT_congr (fun i hi => ?_)
    unfold mtB
    rw [eb i (by omega) (by omega), er _ (by have := (wB i hi).2.1; omega)]
  have es : sumT (fun i => pouW v a m n (13 + i) 2) (v 0 4 + 1) = sumT (fun i => v (13 + i) 2) (v 0 4) + n := by
    rw [sumT, n2]
    congr 1
    exact sumT_congr (fun i hi => by rw [eb i (by omega) (by omega)])
  have e5b : ∀ b, b ≠ 0 → b ≠ 2 → b ≠ 3 → b < 13 → pouW v a m n b = v b := fun b q1 q2 q3 q4 => pou_b q1 q2 q3 (by omega) (by omega)
  refine ⟨⟨by rw [e0 0 (by decide) (by decide) (by decide)]; exact wa, by rw [e0 1 (by decide) (by decide) (by decide)]; exact wm, by rw [e4]; omega, by rw [e0 3 (by decide) (by decide) (by decide)]; exact ws, by rw [e0 2 (by decide) (by decide) (by decide)]; exact wt, ?_, ?_, ?_, ?_, ?_, ?_⟩, ?_, ?_, ?_, by rw [e5]; omega, by rw [e6]; omega, ?_⟩
  · rw [e5, e6, e0 7 (by decide) (by decide) (by decide), e0 8 (by decide) (by decide) (by decide)]
    omega
  · rw [e4, e0 0 (by decide) (by decide) (by decide)]
    intro i hi
    by_cases q : i = v 0 4
    · subst q
      rw [n0, n1, n2, n3, n4]
      refine ⟨hn, ha, by omega, by omega, by omega, fun k hk => ?_⟩
      rw [pou_sq h8 (by omega) hk]
      exact Nat.le_of_lt_succ (Nat.mod_lt _ (by decide))
    · rw [eb i q (by omega), eq i q (by omega)]
      exact wB i (by omega)
  · intro i j hi hj
    rw [er i hi]
    exact wR i j hi hj
  · intro i hi
    rw [e5b 1 (by decide) (by decide) (by decide) (by decide)]
    refine ⟨(wL i hi).1, ?_⟩
    by_cases q : i = m
    · subst q
      rw [pou_2 h8]; exact hu
    · rw [pou_2n h8 q]; exact (wL i hi).2
  · intro j hj
    rw [pou_3 h8 hj]
    have := wK j hj
    omega
  · rw [e0 0 (by decide) (by decide) (by decide)]
    intro i hi
    rw [er i (by omega)]
    exact wP i hi
  · rw [e0 1 (by decide) (by decide) (by decide)]
    intro i q1 q2
    rw [pou_2n h8 (by omega)]
    exact h2 i q1 q2
  · intro m' hm'
    obtain ⟨b1, b2, b3⟩ := h3 m' hm'
    have hs9 := hs m' hm'
    unfold Bks
    rw [e4, em, pou_3 h8 hm', e5b 4 (by decide) (by decide) (by decide) (by decide), e5b 5 (by decide) (by decide) (by decide) (by decide), e5b 6 (by decide) (by decide) (by decide) (by decide)]
    omega
  · rw [e4, es, e6, e0 7 (by decide) (by decide) (by decide), e0 8 (by decide) (by decide) (by decide)]
    omega
  · rw [e4, e5, e6]
    intro i hi
    by_cases q : i = v 0 4
    · subst q
      rw [n0, n1, n2]; omega
    · rw [eb i q (by omega)]
      have := h7 i (by omega)
      omega
/-- a State from which batch p has gone -/
theorem Wf.drp {p : Nat} (h : Wf v) (hp : p < v 0 4) : Wf (rmv v p) := by
  obtain ⟨wa, wm, wb, ws, wt, wc, wB, wR, wL, wK, wP⟩ := h
  have e0 : ∀ k, k ≠ 4 → rmv v p 0 k = v 0 k := fun k hk => by rw [rmv_lo (by decide), up2_at hk]
  have e : ∀ b, b ≠ 0 → b < 13 → rmv v p b = v b := fun b q1 q2 => by rw [rmv_lo q2, up2_ne q1]
  refine ⟨by rw [e0 0 (by decide)]; exact wa, by rw [e0 1 (by decide)]; exact wm, by rw [rmv_0]; omega, by rw [e0 3 (by decide)]; exact ws, by rw [e0 2 (by decide)]; exact wt, by rw [e0 5 (by decide), e0 6 (by decide), e0 7 (by decide), e0 8 (by decide)]; exact wc, ?_, ?_, ?_, ?_, ?_⟩
  · rw [rmv_0, e0 0 (by decide)]
    intro i hi
    rw [rmv_bt (by omega), rmv_sq (by omega), rot_i (by omega)]
    exact wB _ (by split <;> omega)
  · intro i j hi hj
    rw [e _ (by omega) (by omega)]
    exact wR i j hi hj
  · intro i hi
    rw [e _ (by omega) (by omega), e _ (by omega) (by omega)]
    exact wL i hi
  · intro j hj
    rw [e _ (by omega) (by omega)]
    exact wK j hj
  · rw [e0 0 (by decide)]
    intro a ha
    rw [e _ (by omega) (by omega)]
    exact wP a ha
/-- batch p gone, its metal booked: w is v but for the books, that hold what is gone -/
theorem Inv.gone (h : Inv K v) {w : SV} {p : Nat} (hp : p < v 0 4) (hK : K ≤ 100000) (e : ∀ b, b ≠ 0 → b ≠ 3 → b ≠ 5 → b ≠ 6 → w b = v b) (e0 : ∀ k, k ≠ 7 → k ≠ 8 → w 0 k = v 0 k) (e7 : w 0 7 + w 0 8 = v 0 7 + v 0 8 + v (13 + p) 2)
    (e3 : ∀ m, m < 3 → v 3 m ≤ w 3 m ∧ w 3 m + w 5 m + w 6 m = v 3 m + v 5 m + v 6 m + mtB v m p ∧ w 3 m ≤ v 3 m + mtB v m p) : Inv K (rmv w p) := by
  obtain ⟨h1, h2, h3, h4, h5, h6, h7⟩ := h
  have h1' := h1
  obtain ⟨wa, wm, wb, ws, wt, wc, wB, wR, wL, wK, wP⟩ := h1
  have e4 := e0 4 (by decide) (by decide)
  have f0 : ∀ k, k ≠ 4 → rmv w p 0 k = w 0 k := fun k hk => by rw [rmv_lo (by decide), up2_at hk]
  have f : ∀ b, b ≠ 0 → b < 13 → rmv w p b = w b := fun b q1 q2 => by rw [rmv_lo q2, up2_ne q1]
  have f4 : rmv w p 0 4 = v 0 4 - 1 := by rw [rmv_0, e4]
  have g : ∀ i, i < v 0 4 - 1 → rmv w p (13 + i) = v (13 + if i < p then i else i + 1) := fun i hi => by
    rw [rmv_bt (by omega), rot_i (by omega)]
    exact e _ (by omega) (by omega) (by omega) (by omega)
  have es : sumT (fun i => rmv w p (13 + i) 2) (v 0 4 - 1) + v (13 + p) 2 = sumT (fun i => v (13 + i) 2) (v 0 4) := by
    rw [← sumT_rm (f := fun i => v (13 + i) 2) hp]
    congr 1
    exact sumT_congr (fun i hi => by rw [g i hi])
  have em : ∀ m, mib (rmv w p) m (v 0 4 - 1) + mtB v m p = mib v m (v 0 4) := fun m => by
    rw [mib_sum, mib_sum, ← sumT_rm (f := mtB v m) hp]
    congr 1
    refine sumT_congr (fun i hi => ?_)
    have q9 := (wB (if i < p then i else i + 1) (by split <;> omega)).2.1
    unfold mtB
    rw [g i hi, f _ (by omega) (by omega), e _ (by omega) (by omega) (by omega) (by omega)]
  have hW : Wf w := by
    refine ⟨by rw [e0 0 (by decide) (by decide)]; exact wa, by rw [e0 1 (by decide) (by decide)]; exact wm, by rw [e4]; exact wb, by rw [e0 3 (by decide) (by decide)]; exact ws, by rw [e0 2 (by decide) (by decide)]; exact wt, ?_, ?_, ?_, ?_, ?_, ?_⟩
    · rw [e0 5 (by decide) (by decide), e0 6 (by decide) (by decide)]
      have q9 : v (13 + p) 2 ≤ sumT (fun i => v (13 + i) 2) (v 0 4) := by omega
      omega
    · rw [e4, e0 0 (by decide) (by decide)]
      intro i hi
      rw [e _ (by omega) (by omega) (by omega) (by omega), e _ (by omega) (by omega) (by omega) (by omega)]
      exact wB i hi
    · intro i j hi hj
      rw [e _ (by omega) (by omega) (by omega) (by omega)]
      exact wR i j hi hj
    · intro i hi
      rw [e _ (by omega) (by omega) (by omega) (by omega), e _ (by omega) (by omega) (by omega) (by omega)]
      exact wL i hi
    · intro j hj
      obtain ⟨b1, b2, b3⟩ := h3 j hj
      obtain ⟨c1, c2, c3⟩ := e3 j hj
      have := em j
      omega
    · rw [e0 0 (by decide) (by decide)]
      intro a ha
      rw [e _ (by omega) (by omega) (by omega) (by omega)]
      exact wP a ha
  refine ⟨hW.drp (by rw [e4]; exact hp), ?_, ?_, ?_, ?_, ?_, ?_⟩
  · rw [f0 1 (by decide), e0 1 (by decide) (by decide), f 2 (by decide) (by decide), e 2 (by decide) (by decide) (by decide) (by decide)]
    exact h2
  · intro m hm
    obtain ⟨b1, b2, b3⟩ := h3 m hm
    obtain ⟨c1, c2, c3⟩ := e3 m hm
    have em9 := em m
    unfold Bks
    rw [f4, f 3 (by decide) (by decide), f 4 (by decide) (by decide), f 5 (by decide) (by decide), f 6 (by decide) (by decide), e 4 (by decide) (by decide) (by decide) (by decide)]
    omega
  · rw [f4, f0 6 (by decide), f0 7 (by decide), f0 8 (by decide), e0 6 (by decide) (by decide)]
    omega
  · rw [f0 5 (by decide), e0 5 (by decide) (by decide)]; exact h5
  · rw [f0 6 (by decide), e0 6 (by decide) (by decide)]; exact h6
  · rw [f4, f0 5 (by decide), e0 5 (by decide) (by decide), f0 6 (by decide), e0 6 (by decide) (by decide)]
    intro i hi
    rw [g i hi]
    exact h7 _ (by split <;> omega)
theorem exS_5 {p m : Nat} : ∀ k, (m < k → exS v p k 5 m = v 5 m + mtB v m p) ∧ (k ≤ m → exS v p k 5 m = v 5 m)
  | 0 => ⟨fun h => absurd h (Nat.not_lt_zero _), fun _ => rfl⟩
  | k + 1 => by
    have ih := exS_5 (p := p) (m := m) k
    have eB : exS v p k (13 + p) = v (13 + p) := exS_b (by omega) k
    have eR : exS v p k (7 + v (13 + p) 3) = v (7 + v (13 + p) 3) := exS_b (by omega) k
    rw [exS, eB, eR]
    constructor
    · intro h
      by_cases q : m = k
      · subst q
        rw [up2_s, ih.2 (Nat.le_refl _)]; rfl
      · rw [up2_at q]; exact ih.1 (by omega)
    · intro h
      rw [up2_at (by omega)]; exact ih.2 (by omega)
theorem Inv.sell (h : Inv K v) {p : Nat} (hp : p < v 0 4) (hK : K ≤ 100000) : Inv K (rmv (exT (exS v p 3) p) p) := by
  have eB : exS v p 3 (13 + p) = v (13 + p) := exS_b (by omega) 3
  have x0 : exS v p 3 0 = v 0 := exS_b (by decide) 3
  refine h.gone hp hK (fun b q1 q2 q3 q4 => ?_) (fun k q1 q2 => ?_) ?_ (fun m hm => ?_)
  · unfold exT
    rw [up2_ne q1]
    exact exS_b q3 3
  · unfold exT
    rw [up2_at q1, x0]
  · unfold exT
    rw [up2_s, up2_at (by decide), x0, eB]
    omega
  · have h5 := (exS_5 (v := v) (p := p) (m := m) 3).1 hm
    unfold exT
    rw [up2_ne (by decide), up2_ne (by decide), up2_ne (by decide), h5, exS_b (by decide) 3, exS_b (by decide) 3]
    omega
theorem meL_36 {p m : Nat} : ∀ k, (m < k → meL v p k 3 m = v 3 m + meB v p m ∧ meL v p k 6 m = v 6 m + (mtB v m p - meB v p m)) ∧ (k ≤ m → meL v p k 3 m = v 3 m ∧ meL v p k 6 m = v 6 m)
  | 0 => ⟨fun h => absurd h (Nat.not_lt_zero _), fun _ => ⟨rfl, rfl⟩⟩
  | k + 1 => by
    have ih := meL_36 (p := p) (m := m) k
    have eB : meL v p k (13 + p) = v (13 + p) := meL_b (by omega) (by omega) k
    have eR : meL v p k (7 + v (13 + p) 3) = v (7 + v (13 + p) 3) := meL_b (by omega) (by omega) k
    have eM : meB (meL v p k) p k = meB v p k := by unfold meB; rw [eB, eR]
    rw [meL, eM, eB, eR]
    constructor
    · intro h
      by_cases q : m = k
      · subst q
        rw [up2_s, up2_ne (by decide), up2_s, (ih.2 (Nat.le_refl _)).1, (ih.2 (Nat.le_refl _)).2]
        exact ⟨rfl, rfl⟩
      · rw [up2_at q, up2_ne (show 3 ≠ 6 by decide), up2_at q, up2_ne (show 6 ≠ 3 by decide)]
        exact ih.1 (by omega)
    · intro h
      rw [up2_at (show m ≠ k by omega), up2_ne (show 3 ≠ 6 by decide), up2_at (show m ≠ k by omega), up2_ne (show 6 ≠ 3 by decide)]
      exact ih.2 (by omega)
theorem meB_le {p m : Nat} : meB v p m ≤ mtB v m p := Nat.mul_le_mul_left _ (Nat.sub_le _ _)
theorem Inv.melt (h : Inv K v) {p : Nat} (hp : p < v 0 4) (hK : K ≤ 100000) : Inv K (rmv (meT (meL v p 3) p) p) := by
  have eB : meL v p 3 (13 + p) = v (13 + p) := meL_b (by omega) (by omega) 3
  have x0 : meL v p 3 0 = v 0 := meL_b (by decide) (by decide) 3
  refine h.gone hp hK (fun b q1 q2 q3 q4 => ?_) (fun k q1 q2 => ?_) ?_ (fun m hm => ?_)
  · unfold meT
    rw [up2_ne q1]
    exact meL_b q2 q4 3
  · unfold meT
    rw [up2_at q2, x0]
  · unfold meT
    rw [up2_s, up2_at (by decide), x0, eB]
    omega
  · obtain ⟨h3, h6⟩ := (meL_36 (v := v) (p := p) (m := m) 3).1 hm
    have hl := meB_le (v := v) (p := p) (m := m)
    unfold meT
    rw [up2_ne (by decide), up2_ne (by decide), up2_ne (by decide), h3, h6, meL_b (by decide) (by decide) 3]
    omega
/-! each change -/
theorem oMix_inv (h : Inv K v) {x y z : Int32} : Inv (K + 1) (oMix v x y z).2 := by
  unfold oMix
  split
  · rename_i q
    obtain ⟨q1, q2, q3, q4⟩ := q
    split
    · rename_i h6
      have f : ∀ x : Int32, inR x 10 → tn x ≤ 9 := fun x hx => by unfold inR at hx; unfold tn; omega
      exact (h.mix (f x q1) (f y q2) (f z q3) q4 h6).mono (by omega)
    · exact h.mono (by omega)
  · exact h.mono (by omega)
theorem oMould_inv (h : Inv K v) {x : Int32} : Inv (K + 1) (oMould v x).2 := by
  unfold oMould
  split
  · rename_i q
    split
    · rename_i h4
      exact (h.mould (by unfold tn; omega) h4).mono (by omega)
    · exact h.mono (by omega)
  · exact h.mono (by omega)
theorem oBuy_inv (h : Inv K v) {x y : Int32} : Inv (K + 1) (oBuy v x y).2 := by
  unfold oBuy
  split
  · rename_i q
    split
    · rename_i q2
      split
      · rename_i q3
        exact h.buy (by unfold inR at q; unfold tn; omega) (by unfold tn; omega) q3
      · exact h.mono (by omega)
    · exact h.mono (by omega)
  · exact h.mono (by omega)
theorem oReset_inv (h : Inv K v) {x : Int32} : Inv (K + 1) (oReset v x).2 := by
  unfold oReset
  split
  · exact h.use.mono (by omega)
  · exact h.mono (by omega)
theorem oTol_inv (h : Inv K v) {x : Int32} : Inv (K + 1) (oTol v x).2 := by
  unfold oTol
  split
  · rename_i q
    exact (h.tol (Or.inl ⟨rfl, by unfold tn; omega⟩)).mono (by omega)
  · exact h.mono (by omega)
theorem oStep_inv (h : Inv K v) {x : Int32} : Inv (K + 1) (oStep v x).2 := by
  unfold oStep
  split
  · rename_i q
    exact (h.tol (Or.inr ⟨rfl, by unfold tn; omega, by unfold tn; omega⟩)).mono (by omega)
  · exact h.mono (by omega)
theorem oPour_inv (h : Inv K v) (hK : K < 100000) {x y z : Int32} : Inv (K + 1) (oPour v x y z).2 := by
  unfold oPour
  split
  · rename_i q
    have f : ∀ (x : Int32) (n : Nat), inR x n → tn x < n := fun x n hx => by unfold inR at hx; unfold tn; omega
    split
    · rename_i q2
      split
      · rename_i q3
        split
        · rename_i q4
          have hz9 : tn z ≤ 9 := by unfold tn; omega
          exact h.pour (f _ _ q.1) (f _ _ q.2) ⟨by unfold tn; omega, hz9⟩ q3.1 q3.2 ((bst_iff (by omega) 3).mp q4) hK
        · exact h.mono (by omega)
      · exact h.mono (by omega)
    · exact h.mono (by omega)
  · exact h.mono (by omega)
theorem oExam_inv (h : Inv K v) (hK : K < 100000) {x : Int32} : Inv (K + 1) (oExam v x).2 := by
  unfold oExam
  split
  · rename_i q
    split
    · split
      · exact (h.sell q (by omega)).mono (by omega)
      · exact (h.fail q).mono (by omega)
    · exact h.mono (by omega)
  · exact h.mono (by omega)
theorem oMelt_inv (h : Inv K v) (hK : K < 100000) {x : Int32} : Inv (K + 1) (oMelt v x).2 := by
  unfold oMelt
  split
  · rename_i q
    split
    · exact (h.melt q (by omega)).mono (by omega)
    · exact h.mono (by omega)
  · exact h.mono (by omega)
/-! both ways of computing agree -/
theorem boo_eq (h : Inv K v) {m : Nat} (hm : m < 3) : boo v m = nI (mib v m (v 0 4)) := by
  obtain ⟨-, b2, -⟩ := h.2.2.1 m hm
  unfold boo
  rw [b2, pk_sub (by omega), pk_sub (by omega), pk_sub (by omega)]
  congr 1
  omega
theorem cG_same {sq : Nat → Nat} {s t : Nat} : ∀ {n : Nat}, (∀ i, i < n → i % s = 0 → sq i ≠ t + 1) → cG sq s (t + 1) n = cG sq s t n
  | 0, _ => rfl
  | n + 1, h => by
    rw [cG_succ, cG_succ, cG_same (n := n) (fun i hi => h i (by omega))]
    congr 1
    by_cases q : n % s = 0
    · have := h n (by omega) q
      by_cases z : sq n ≤ t
      · rw [if_pos ⟨q, by omega⟩, if_pos ⟨q, z⟩]
      · rw [if_neg (by omega), if_neg (by omega)]
    · rw [if_neg (fun z => q z.1), if_neg (fun z => q z.1)]
theorem cG_none {sq : Nat → Nat} {s t : Nat} : ∀ {n : Nat}, (∀ i, i < n → i % s = 0 → t < sq i) → cG sq s t n = 0
  | 0, _ => rfl
  | n + 1, h => by
    rw [cG_succ, cG_none (n := n) (fun i hi => h i (by omega)), if_neg]
    rintro ⟨q, z⟩
    have := h n (by omega) q
    omega
/-- the least squeak that passes is 99, or the squeak of a sampled bow that passes; and no such squeak lies below it -/
theorem lps_fact {sq : Nat → Nat} {n s : Nat} : ∀ k, (lps sq n s k = 99 ∨ (pas sq n s (lps sq n s k))) ∧ ∀ i, i < k → i % s = 0 → pas sq n s (sq i) → lps sq n s k ≤ sq i
  | 0 => ⟨Or.inl rfl, fun i hi => absurd hi (Nat.not_lt_zero _)⟩
  | k + 1 => by
    obtain ⟨h1, h2⟩ := lps_fact (sq := sq) (n := n) (s := s) k
    rw [lps_succ]
    by_cases c : k % s = 0 ∧ sq k < lps sq n s k ∧ pas sq n s (sq k)
    · rw [if_pos c]
      refine ⟨Or.inr c.2.2, fun i hi q1 q2 => ?_⟩
      by_cases e : i = k
      · rw [e]; exact Nat.le_refl _
      · have := h2 i (by omega) q1 q2
        omega
    · rw [if_neg c]
      refine ⟨h1, fun i hi q1 q2 => ?_⟩
      by_cases e : i = k
      · subst e
        by_cases z : sq i < lps sq n s i
        · exact absurd ⟨q1, z, q2⟩ c
        · omega
      · exact h2 i (by omega) q1 q2
theorem lps_lst {sq : Nat → Nat} {n s : Nat} : lps sq n s n = lst (pas sq n s) 99 := by
  obtain ⟨h1, h2⟩ := lps_fact (sq := sq) (n := n) (s := s) n
  have hle := lps_le (sq := sq) (n := n) (s := s) n
  have hl := lst_le (p := pas sq n s) 99
  have hlow : ∀ t, t < lst (pas sq n s) 99 → ¬ pas sq n s t := fun t ht => lst_min ht
  by_cases q : lst (pas sq n s) 99 < 99
  · have hp := lst_spec q
    have hex : lps sq n s n ≤ lst (pas sq n s) 99 := by
      obtain ⟨t, ht⟩ : ∃ t, t = lst (pas sq n s) 99 := ⟨_, rfl⟩
      rw [← ht] at hp hlow ⊢
      refine Classical.byContradiction fun hn => ?_
      have hall : ∀ i, i < n → i % s = 0 → sq i ≠ t := fun i hi hm e => hn (by have := h2 i hi hm (by rw [e]; exact hp); omega)
      match t, hp, hlow, hall with
      | 0, hp, _, hall =>
        have hz := cG_none (sq := sq) (s := s) (t := 0) (n := n) (fun i hi hm => by have := hall i hi hm; omega)
        unfold pas at hp
        omega
      | t + 1, hp, hlow, hall =>
        have hs := cG_same (sq := sq) (s := s) (t := t) (n := n) hall
        refine hlow t (Nat.lt_succ_self _) ?_
        unfold pas at hp ⊢
        omega
    rcases h1 with h1 | h1
    · omega
    · have : ¬ lps sq n s n < lst (pas sq n s) 99 := fun z => hlow _ z h1
      omega
  · rcases h1 with h1 | h1
    · omega
    · have : ¬ lps sq n s n < lst (pas sq n s) 99 := fun z => hlow _ z h1
      omega
theorem tolA_of : tolA v := fun i _ => lps_lst
theorem metA_of (h : Inv K v) : metA v := fun m hm => (boo_eq h hm).symm
theorem bowA_of (h : Inv K v) : bowA v := h.2.2.2.1
end INV
