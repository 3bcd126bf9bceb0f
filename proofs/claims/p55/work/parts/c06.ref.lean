/-! ===== the model's numbers and a State's: where in g what of v stands ===== -/
def ix (b k : Nat) : Nat :=
  if b = 0 then (if k = 0 then 5 else if k = 1 then 6 else if k = 2 then 3 else if k = 3 then 4 else k + 3)
  else if b = 1 then 39 + k else if b = 2 then 43 + k else if b = 3 then k else if b = 4 then 12 + k else if b = 5 then 15 + k else if b = 6 then 18 + k
  else if b < 13 then 21 + 3 * (b - 7) + k
  else if b < 21 then (if k = 0 then 47 else if k = 1 then 71 else if k = 2 then 63 else if k = 3 then 55 else 79) + (b - 13)
  else 87 + 9 * (b - 21) + k
/-- what counts of v -/
def dm (v : SV) (b k : Nat) : Prop := (b = 0 ∧ k < 9) ∨ ((b = 1 ∨ b = 2) ∧ k < 4) ∨ ((3 ≤ b ∧ b < 13) ∧ k < 3) ∨ ((13 ≤ b ∧ b < 13 + v 0 4 ∧ b < 21) ∧ k < 5) ∨ ((21 ≤ b ∧ b < 21 + v 0 4 ∧ b < 29) ∧ k < 9 ∧ k < v (b - 8) 2)
def Rr (v : SV) (g : Nat → Nat) : Prop := ∀ b k, dm v b k → g (ix b k) = v b k
theorem up1_s {f : Nat → Nat} {i x : Nat} : up1 f i x i = x := if_pos rfl
theorem up1_ne {f : Nat → Nat} {i x j : Nat} (h : j ≠ i) : up1 f i x j = f j := if_neg h
section RR
variable {v : SV} {g : Nat → Nat}
theorem Rr.alo (h : Rr v g) : g 5 = v 0 0 := h 0 0 (Or.inl ⟨rfl, by decide⟩)
theorem Rr.mou (h : Rr v g) : g 6 = v 0 1 := h 0 1 (Or.inl ⟨rfl, by decide⟩)
theorem Rr.tol (h : Rr v g) : g 3 = v 0 2 := h 0 2 (Or.inl ⟨rfl, by decide⟩)
theorem Rr.stp (h : Rr v g) : g 4 = v 0 3 := h 0 3 (Or.inl ⟨rfl, by decide⟩)
theorem Rr.bat (h : Rr v g) : g 7 = v 0 4 := h 0 4 (Or.inl ⟨rfl, by decide⟩)
theorem Rr.nxb (h : Rr v g) : g 8 = v 0 5 := h 0 5 (Or.inl ⟨rfl, by decide⟩)
theorem Rr.cas (h : Rr v g) : g 9 = v 0 6 := h 0 6 (Or.inl ⟨rfl, by decide⟩)
theorem Rr.sol (h : Rr v g) : g 10 = v 0 7 := h 0 7 (Or.inl ⟨rfl, by decide⟩)
theorem Rr.mel (h : Rr v g) : g 11 = v 0 8 := h 0 8 (Or.inl ⟨rfl, by decide⟩)
theorem Rr.len (h : Rr v g) {i : Nat} (hi : i < 4) : g (39 + i) = v 1 i := h 1 i (Or.inr (Or.inl ⟨Or.inl rfl, hi⟩))
theorem Rr.use (h : Rr v g) {i : Nat} (hi : i < 4) : g (43 + i) = v 2 i := h 2 i (Or.inr (Or.inl ⟨Or.inr rfl, hi⟩))
theorem Rr.sto (h : Rr v g) {i : Nat} (hi : i < 3) : g (0 + i) = v 3 i := by rw [Nat.zero_add]; exact h 3 i (Or.inr (Or.inr (Or.inl ⟨by omega, hi⟩)))
theorem Rr.bou (h : Rr v g) {i : Nat} (hi : i < 3) : g (12 + i) = v 4 i := h 4 i (Or.inr (Or.inr (Or.inl ⟨by omega, hi⟩)))
theorem Rr.smt (h : Rr v g) {i : Nat} (hi : i < 3) : g (15 + i) = v 5 i := h 5 i (Or.inr (Or.inr (Or.inl ⟨by omega, hi⟩)))
theorem Rr.los (h : Rr v g) {i : Nat} (hi : i < 3) : g (18 + i) = v 6 i := h 6 i (Or.inr (Or.inr (Or.inl ⟨by omega, hi⟩)))
theorem ix_rec {a m : Nat} (ha : a < 6) : ix (7 + a) m = (21 + (3 * a)) + m := by
  unfold ix
  rw [if_neg (by omega), if_neg (by omega), if_neg (by omega), if_neg (by omega), if_neg (by omega), if_neg (by omega), if_neg (by omega), if_pos (by omega), show 7 + a - 7 = a by omega]
theorem ix_bat {i k : Nat} (hi : i < 8) : ix (13 + i) k = (if k = 0 then 47 else if k = 1 then 71 else if k = 2 then 63 else if k = 3 then 55 else 79) + i := by
  unfold ix
  rw [if_neg (by omega), if_neg (by omega), if_neg (by omega), if_neg (by omega), if_neg (by omega), if_neg (by omega), if_neg (by omega), if_neg (by omega), if_pos (by omega), show 13 + i - 13 = i by omega]
theorem ix_sq {i k : Nat} : ix (21 + i) k = (87 + (9 * i)) + k := by
  unfold ix
  rw [if_neg (by omega), if_neg (by omega), if_neg (by omega), if_neg (by omega), if_neg (by omega), if_neg (by omega), if_neg (by omega), if_neg (by omega), if_neg (by omega), show 21 + i - 21 = i by omega]
theorem Rr.rec (h : Rr v g) {a m : Nat} (ha : a < 6) (hm : m < 3) : g ((21 + (3 * a)) + m) = v (7 + a) m := by
  have := h (7 + a) m (Or.inr (Or.inr (Or.inl ⟨by omega, hm⟩)))
  rwa [ix_rec ha] at this
theorem Rr.bt (h : Rr v g) {i k : Nat} (hi : i < v 0 4 ∧ i < 8) (hk : k < 5) : g ((if k = 0 then 47 else if k = 1 then 71 else if k = 2 then 63 else if k = 3 then 55 else 79) + i) = v (13 + i) k := by
  have := h (13 + i) k (Or.inr (Or.inr (Or.inr (Or.inl ⟨by omega, hk⟩))))
  rwa [ix_bat hi.2] at this
theorem Rr.num (h : Rr v g) {i : Nat} (hi : i < v 0 4 ∧ i < 8) : g (47 + i) = v (13 + i) 0 := h.bt (k := 0) hi (by decide)
theorem Rr.fir (h : Rr v g) {i : Nat} (hi : i < v 0 4 ∧ i < 8) : g (71 + i) = v (13 + i) 1 := h.bt (k := 1) hi (by decide)
theorem Rr.man (h : Rr v g) {i : Nat} (hi : i < v 0 4 ∧ i < 8) : g (63 + i) = v (13 + i) 2 := h.bt (k := 2) hi (by decide)
theorem Rr.aly (h : Rr v g) {i : Nat} (hi : i < v 0 4 ∧ i < 8) : g (55 + i) = v (13 + i) 3 := h.bt (k := 3) hi (by decide)
theorem Rr.fai (h : Rr v g) {i : Nat} (hi : i < v 0 4 ∧ i < 8) : g (79 + i) = v (13 + i) 4 := h.bt (k := 4) hi (by decide)
theorem Rr.sqs (h : Rr v g) {i k : Nat} (hi : i < v 0 4 ∧ i < 8) (hk : k < 9 ∧ k < v (13 + i) 2) : g ((87 + (9 * i)) + k) = v (21 + i) k := by
  have := h (21 + i) k (Or.inr (Or.inr (Or.inr (Or.inr ⟨by omega, hk.1, by rw [show 21 + i - 8 = 13 + i by omega]; exact hk.2⟩))))
  rwa [ix_sq] at this
end RR
/-- how many of the numbers 0, s, 2 s .. below n have squeaks of at most t: the model's way -/
theorem smp_eq' : ∀ s, s < 6 → 1 ≤ s → ∀ n, n < 10 → cG (fun _ => 0) s 99 n = (n + s - 1) / s := by decide
theorem smp_eq {s n : Nat} (h1 : 1 ≤ s) (h5 : s ≤ 5) (h9 : n ≤ 9) : cG (fun _ => 0) s 99 n = (n + s - 1) / s := smp_eq' s (by omega) h1 n (by omega)
theorem cG_all {sq : Nat → Nat} {s : Nat} : ∀ {n : Nat}, (∀ k, k < n → sq k ≤ 99) → cG sq s 99 n = cG (fun _ => 0) s 99 n
  | 0, _ => rfl
  | n + 1, h => by
    rw [cG_succ, cG_succ, cG_all (n := n) (fun k hk => h k (by omega))]
    have := h n (by omega)
    by_cases q : n % s = 0
    · rw [if_pos ⟨q, this⟩, if_pos ⟨q, by decide⟩]
    · rw [if_neg (fun z => q z.1), if_neg (fun z => q z.1)]
/-- no number between two sampled ones is sampled -/
theorem cG_skip {sq : Nat → Nat} {s t k : Nat} (hk : k % s = 0) : ∀ {j : Nat}, 1 ≤ j → j ≤ s → cG sq s t (k + j) = cG sq s t (k + 1)
  | 0, h, _ => absurd h (by omega)
  | 1, _, _ => rfl
  | j + 2, _, h => by
    rw [show k + (j + 2) = (k + (j + 1)) + 1 by omega, cG_succ, cG_skip hk (j := j + 1) (by omega) (by omega), if_neg]
    · rfl
    · rintro ⟨q, -⟩
      have h2 : (k + (j + 1)) % s = j + 1 := by
        rw [Nat.add_mod, hk, Nat.zero_add, Nat.mod_mod, Nat.mod_eq_of_lt (by omega)]
      omega
/-- the next sampled number, cut at the end -/
theorem cG_min {sq : Nat → Nat} {s t k n : Nat} (hk : k % s = 0) (h1 : 1 ≤ s) (h : k < n) : cG sq s t (min (k + s) n) = cG sq s t (k + 1) := by
  obtain ⟨j, hj, h1j, hjs⟩ : ∃ j, min (k + s) n = k + j ∧ 1 ≤ j ∧ j ≤ s := ⟨min (k + s) n - k, by omega, by omega, by omega⟩
  rw [hj, cG_skip hk h1j hjs]
