/-! ===== writing a State's number where the model keeps it ===== -/
abbrev D0 (b k : Nat) : Prop := (b = 0 ∧ k < 9) ∨ ((b = 1 ∨ b = 2) ∧ k < 4) ∨ ((3 ≤ b ∧ b < 13) ∧ k < 3) ∨ ((13 ≤ b ∧ b < 21) ∧ k < 5) ∨ ((21 ≤ b ∧ b < 29) ∧ k < 9)
/-- back from the place -/
def xi (j : Nat) : Nat × Nat :=
  if j < 3 then (3, j) else if j < 5 then (0, j - 1) else if j < 7 then (0, j - 5) else if j < 12 then (0, j - 3) else if j < 15 then (4, j - 12) else if j < 18 then (5, j - 15) else if j < 21 then (6, j - 18)
  else if j < 39 then (7 + (j - 21) / 3, (j - 21) % 3) else if j < 43 then (1, j - 39) else if j < 47 then (2, j - 43)
  else if j < 55 then (13 + (j - 47), 0) else if j < 63 then (13 + (j - 55), 3) else if j < 71 then (13 + (j - 63), 2) else if j < 79 then (13 + (j - 71), 1) else if j < 87 then (13 + (j - 79), 4)
  else (21 + (j - 87) / 9, (j - 87) % 9)
def D0b (b k : Nat) : Bool := b == 0 || (Nat.blt b 3 && Nat.blt k 4) || (Nat.ble 3 b && Nat.blt b 13 && Nat.blt k 3) || (Nat.ble 13 b && Nat.blt b 21 && Nat.blt k 5) || Nat.ble 21 b
theorem xi_ix9 : ((List.range 29).all fun b => (List.range 9).all fun k => !D0b b k || ((xi (ix b k)).1 == b && (xi (ix b k)).2 == k && Nat.blt (ix b k) 159)) = true := by decide +kernel
theorem xi_ix' (b : Nat) (hb : b < 29) (k : Nat) (hk : k < 9) (h : D0 b k) : xi (ix b k) = (b, k) ∧ ix b k < 159 := by
  have h1 := List.all_eq_true.mp (List.all_eq_true.mp xi_ix9 b (List.mem_range.mpr hb)) k (List.mem_range.mpr hk)
  have h2 : D0b b k = true := by
    unfold D0b
    simp only [Bool.or_eq_true, Bool.and_eq_true, beq_iff_eq, Nat.blt_eq, Nat.ble_eq]
    unfold D0 at h
    omega
  rw [h2] at h1
  simp only [Bool.not_true, Bool.false_or, Bool.and_eq_true, beq_iff_eq, Nat.blt_eq] at h1
  exact ⟨Prod.ext h1.1.1 h1.1.2, h1.2⟩
theorem D0_lt {b k : Nat} (h : D0 b k) : b < 29 ∧ k < 9 := by unfold D0 at h; omega
theorem xi_ix {b k : Nat} (h : D0 b k) : xi (ix b k) = (b, k) := (xi_ix' b (D0_lt h).1 k (D0_lt h).2 h).1
theorem ix_lt {b k : Nat} (h : D0 b k) : ix b k < 159 := (xi_ix' b (D0_lt h).1 k (D0_lt h).2 h).2
theorem ix_inj {b k b' k' : Nat} (h : D0 b k) (h' : D0 b' k') (e : ix b k = ix b' k') : b = b' ∧ k = k' := by
  have := xi_ix h
  rw [e, xi_ix h'] at this
  cases this
  exact ⟨rfl, rfl⟩
theorem dm_D0 {v : SV} {b k : Nat} (h : dm v b k) : D0 b k := by
  unfold dm at h
  unfold D0
  omega
theorem up2_at2 {v : SV} {b k x b' k' : Nat} (h : ¬ (b' = b ∧ k' = k)) : up2 v b k x b' k' = v b' k' := by
  by_cases q : b' = b
  · subst q
    rw [up2_eq]
    exact up1_ne (fun z => h ⟨rfl, z⟩)
  · rw [up2_ne q]
theorem up2_comm {v : SV} {b k x b' k' y : Nat} (h : ¬ (b' = b ∧ k' = k)) : up2 (up2 v b k x) b' k' y = up2 (up2 v b' k' y) b k x := by
  funext c j
  by_cases q1 : c = b ∧ j = k
  · obtain ⟨rfl, rfl⟩ := q1
    rw [up2_at2 (fun z => h ⟨z.1.symm, z.2.symm⟩), up2_s, up2_s]
  · by_cases q2 : c = b' ∧ j = k'
    · obtain ⟨rfl, rfl⟩ := q2
      rw [up2_s, up2_at2 h, up2_s]
    · rw [up2_at2 q2, up2_at2 q1, up2_at2 q1, up2_at2 q2]
theorem up2_same {v : SV} {b k x y : Nat} : up2 (up2 v b k x) b k y = up2 v b k y := by
  funext c j
  by_cases q1 : c = b ∧ j = k
  · obtain ⟨rfl, rfl⟩ := q1
    rw [up2_s, up2_s]
  · rw [up2_at2 q1, up2_at2 q1, up2_at2 q1]
theorem up1_same {α : Type} {f : Nat → α} {i : Nat} {x y : α} : up1 (up1 f i x) i y = up1 f i y := by
  funext j
  unfold up1
  split <;> rfl
theorem up1_comm {α : Type} {f : Nat → α} {i j : Nat} {x y : α} (h : i ≠ j) : up1 (up1 f i x) j y = up1 (up1 f j y) i x := by
  funext q
  unfold up1
  split
  · split
    · omega
    · rfl
  · rfl
theorem up1_id {α : Type} {f : Nat → α} {i : Nat} : up1 f i (f i) = f := by
  funext j
  unfold up1
  split
  · rename_i q; rw [q]
  · rfl
section RW
variable {v : SV} {g : Nat → Nat} {b k x j : Nat}
/-- what isn't counted may be written on either side -/
theorem Rr.out (h : Rr v g) (hD : D0 b k) (hn : ¬ dm v b k) (hj : j = ix b k) : Rr v (up1 g j x) := by
  subst hj
  intro b' k' hd
  rw [up1_ne (fun q => hn (by obtain ⟨rfl, rfl⟩ := ix_inj (dm_D0 hd) hD q; exact hd))]
  exact h b' k' hd
theorem Rr.congr (h : Rr v g) {g' : Nat → Nat} (hg : ∀ j, j < 159 → g' j = g j) : Rr v g' := fun b k hd => (hg _ (ix_lt (dm_D0 hd))).trans (h b k hd)
theorem Rr.put (h : Rr v g) (hD : D0 b k) (hk : ∀ b' k', dm (up2 v b k x) b' k' → ¬ (b' = b ∧ k' = k) → dm v b' k') (hj : j = ix b k) : Rr (up2 v b k x) (up1 g j x) := by
  subst hj
  intro b' k' hd
  by_cases q : b' = b ∧ k' = k
  · obtain ⟨rfl, rfl⟩ := q
    rw [up1_s, up2_s]
  · rw [up1_ne (fun z => q (ix_inj (dm_D0 hd) hD z)), up2_at2 q]
    exact h b' k' (hk b' k' hd q)
theorem dm_keep (h1 : ¬ (b = 0 ∧ k = 4)) (h2 : ¬ (13 ≤ b ∧ b < 21 ∧ k = 2)) {b' k' : Nat} (hd : dm (up2 v b k x) b' k') : dm v b' k' := by
  have e1 : up2 v b k x 0 4 = v 0 4 := up2_at2 (fun q => h1 ⟨q.1.symm, q.2.symm⟩)
  unfold dm at hd ⊢
  rw [e1] at hd
  rcases hd with hd | hd | hd | hd | hd
  · exact Or.inl hd
  · exact Or.inr (Or.inl hd)
  · exact Or.inr (Or.inr (Or.inl hd))
  · exact Or.inr (Or.inr (Or.inr (Or.inl hd)))
  · refine Or.inr (Or.inr (Or.inr (Or.inr ⟨hd.1, hd.2.1, ?_⟩)))
    have := hd.2.2
    rwa [up2_at2 (fun q => h2 ⟨by omega, by omega, q.2.symm⟩)] at this
theorem Rr.p0 (h : Rr v g) (hk : k < 9) (h4 : k ≠ 4) (hj : j = ix 0 k) : Rr (up2 v 0 k x) (up1 g j x) := h.put (Or.inl ⟨rfl, hk⟩) (fun b' k' hd _ => dm_keep (by omega) (by omega) hd) hj
theorem Rr.p1 (h : Rr v g) (hk : k < 4) (hj : j = 39 + k) : Rr (up2 v 1 k x) (up1 g j x) := h.put (Or.inr (Or.inl ⟨Or.inl rfl, hk⟩)) (fun b' k' hd _ => dm_keep (by omega) (by omega) hd) hj
theorem Rr.p2 (h : Rr v g) (hk : k < 4) (hj : j = 43 + k) : Rr (up2 v 2 k x) (up1 g j x) := h.put (Or.inr (Or.inl ⟨Or.inr rfl, hk⟩)) (fun b' k' hd _ => dm_keep (by omega) (by omega) hd) hj
theorem Rr.p3 (h : Rr v g) (hb : 3 ≤ b ∧ b < 13) (hk : k < 3) (hj : j = ix b k) : Rr (up2 v b k x) (up1 g j x) := h.put (Or.inr (Or.inr (Or.inl ⟨hb, hk⟩))) (fun b' k' hd _ => dm_keep (by omega) (by omega) hd) hj
theorem Rr.p13 {i : Nat} (h : Rr v g) (hi : i < 8) (hk : k < 5) (h2 : k ≠ 2) (hj : j = ix (13 + i) k) : Rr (up2 v (13 + i) k x) (up1 g j x) := h.put (Or.inr (Or.inr (Or.inr (Or.inl ⟨by omega, hk⟩)))) (fun b' k' hd _ => dm_keep (by omega) (by omega) hd) hj
end RW
/-- a change's outcome: what is answered, the number thrown, the numbers then -/
def PM (o : Int32 × SV) (a b c d e : Nat) (F : Nat → (Nat → Nat) → va_W) : Option Value → va_W → Prop := fun w u => w = some (.int (mvl o.1)) ∧ ∃ g', u = F (kd a b c d e o.1) g' ∧ Rr o.2 g'
section PMS
variable {o : Int32 × SV} {a b c d e : Nat} {F : Nat → (Nat → Nat) → va_W} {w : SV} {g' : Nat → Nat} {u : va_W}
theorem PM_bad {z : Int32} {n : Nat} (h : o = (z, w)) (h1 : mvl z = nI 0) (h2 : kd a b c d e z = n) (hr : Rr w g') (hu : u = F n g') : PM o a b c d e F (some (.int (nI 0))) u := by
  subst h
  exact ⟨by rw [h1], g', by rw [h2]; exact hu, hr⟩
theorem PM_good {x : Nat} (h : o = (nI x, w)) (hx : x < 2147483648) (hr : Rr w g') (hu : u = F 0 g') : PM o a b c d e F (some (.int (nI x))) u := by
  subst h
  exact ⟨by rw [mvl_nI hx], g', by rw [kd_nI hx]; exact hu, hr⟩
end PMS
theorem up2_idd {v : SV} {b k x : Nat} (h : v b k = x) : up2 v b k x = v := by
  funext c j
  by_cases q : c = b ∧ j = k
  · obtain ⟨rfl, rfl⟩ := q
    rw [up2_s, h]
  · rw [up2_at2 q]
theorem xi_lo9 : ((List.range 13).all fun b => (List.range 9).all fun k => !D0b b k || Nat.blt (ix b k) 47) = true := by decide +kernel
theorem xi_lo {b k : Nat} (hb : b < 13) (h : D0 b k) : ix b k < 47 := by
  have h1 := List.all_eq_true.mp (List.all_eq_true.mp xi_lo9 b (List.mem_range.mpr hb)) k (List.mem_range.mpr (D0_lt h).2)
  have h2 : D0b b k = true := by
    unfold D0b
    simp only [Bool.or_eq_true, Bool.and_eq_true, beq_iff_eq, Nat.blt_eq, Nat.ble_eq]
    unfold D0 at h
    omega
  rw [h2] at h1
  simpa only [Bool.not_true, Bool.false_or, Nat.blt_eq] using h1
theorem ix3 {k : Nat} : ix 3 k = k := rfl
theorem ix4 {k : Nat} : ix 4 k = 12 + k := rfl
theorem ix5 {k : Nat} : ix 5 k = 15 + k := rfl
theorem ix6 {k : Nat} : ix 6 k = 18 + k := rfl
/-- the metal of the n bows of alloy a is there -/
abbrev hasN (v : SV) (a n t : Nat) : Prop := ∀ m, m < t → n * v (7 + a) m ≤ v 3 m
theorem bst_iff {v : SV} {a n : Nat} (hn : n < 2147483648) : ∀ t, n ≤ bst v a t ↔ hasN v a n t
  | 0 => ⟨fun _ m hm => absurd hm (Nat.not_lt_zero _), fun _ => by rw [bst]; omega⟩
  | t + 1 => by
    have ih := bst_iff (v := v) (a := a) hn t
    constructor
    · intro h m hm
      exact bst_le h hm
    · intro h
      have h1 := ih.mpr (fun m hm => h m (by omega))
      rw [bst]
      split
      · rename_i q
        have h2 : n ≤ v 3 t / v (7 + a) t := (Nat.le_div_iff_mul_le q).mpr (h t (by omega))
        omega
      · exact h1
theorem bst_small {v : SV} {a c : Nat} (hs : ∀ m, m < 3 → v 3 m ≤ c) (h0 : 1 ≤ v (7 + a) 0 + v (7 + a) 1 + v (7 + a) 2) : bst v a 3 ≤ c := by
  have h := (bst_iff (v := v) (a := a) (n := bst v a 3) (bst_lt v a 3) 3).mp (Nat.le_refl _)
  have k0 := h 0 (by decide)
  have k1 := h 1 (by decide)
  have k2 := h 2 (by decide)
  have s0 := hs 0 (by decide)
  have s1 := hs 1 (by decide)
  have s2 := hs 2 (by decide)
  have f : ∀ x y z : Nat, x * y ≤ z → z ≤ c → 0 < y → x ≤ c := fun x y z h1 h2 h3 => Nat.le_trans (Nat.le_mul_of_pos_right x h3) (Nat.le_trans h1 h2)
  by_cases q0 : 0 < v (7 + a) 0
  · exact f _ _ _ k0 s0 q0
  · by_cases q1 : 0 < v (7 + a) 1
    · exact f _ _ _ k1 s1 q1
    · exact f _ _ _ k2 s2 (by omega)
/-! where everything stands after a casting -/
theorem sqk_congr {v w : SV} {a m : Nat} (h7 : w (7 + a) = v (7 + a)) (h1 : w 1 = v 1) (h2 : w 2 m = v 2 m) : sqk w a m = sqk v a m := by
  unfold sqk
  rw [h7, h1, h2]
theorem filL_2 {v : SV} {i a m : Nat} : ∀ k, filL v i a m k 2 m = v 2 m + k
  | 0 => rfl
  | k + 1 => by
    rw [filL, up2_s, filL_2 k, Nat.add_assoc]
theorem filL_2n {v : SV} {i a m j : Nat} (hj : j ≠ m) : ∀ k, filL v i a m k 2 j = v 2 j
  | 0 => rfl
  | k + 1 => by
    rw [filL, up2_at2 (fun q => hj q.2), up2_at2 (fun q => by omega), filL_2n hj k]
theorem filL_sq {v : SV} {i a m j : Nat} (ha : a < 6) : ∀ k, j < k → filL v i a m k (21 + i) j = sqk (up2 v 2 m (v 2 m + j)) a m
  | 0, h => absurd h (Nat.not_lt_zero _)
  | k + 1, h => by
    rw [filL, up2_at2 (fun q => by omega)]
    by_cases e : j = k
    · subst e
      rw [up2_s]
      exact sqk_congr (by rw [filL_b (by omega) (by omega), up2_ne (by omega)]) (by rw [filL_b (by omega) (by omega), up2_ne (by omega)]) (by rw [filL_2, up2_s])
    · rw [up2_at2 (fun q => e q.2)]
      exact filL_sq ha k (by omega)
theorem dStk_at {v : SV} {a n m : Nat} : ∀ k, m < k → dStk v a n k 3 m = v 3 m - n * v (7 + a) m
  | 0, h => absurd h (Nat.not_lt_zero _)
  | k + 1, h => by
    rw [dStk]
    by_cases e : m = k
    · subst e
      rw [up2_s, dStk_3 (Nat.le_refl _), dStk_b (by omega)]
    · rw [up2_at2 (fun q => e q.2)]
      exact dStk_at k (by omega)
def pouW (v : SV) (a m n : Nat) : SV := pourF (fil (dStk v a n 3) (v 0 4) a m n) n
section POU
variable {v : SV} {a m n : Nat}
theorem pou_b {b : Nat} (h0 : b ≠ 0) (h2 : b ≠ 2) (h3 : b ≠ 3) (h13 : b ≠ 13 + v 0 4) (h21 : b ≠ 21 + v 0 4) : pouW v a m n b = v b := by
  unfold pouW pourF fil
  rw [up2_ne h0, up2_ne h0, up2_ne h0, filL_b h2 h21]
  unfold filB
  rw [up2_ne h13, up2_ne h13, up2_ne h13, up2_ne h13, up2_ne h13, dStk_b h3]
theorem pou_fil {i : Nat} (hi : i < 8) : fil (dStk v a n 3) i a m n 0 = v 0 := by rw [fil_0 hi, dStk_b (by decide)]
theorem pou_04 (h : v 0 4 < 8) : pouW v a m n 0 4 = v 0 4 + 1 := by
  unfold pouW pourF
  rw [up2_at2 (by omega), up2_at2 (by omega), up2_s, pou_fil h]
theorem pou_05 (h : v 0 4 < 8) : pouW v a m n 0 5 = v 0 5 + 1 := by
  unfold pouW pourF
  rw [up2_s, pou_fil h]
theorem pou_06 (h : v 0 4 < 8) : pouW v a m n 0 6 = v 0 6 + n := by
  unfold pouW pourF
  rw [up2_at2 (by omega), up2_s, pou_fil h]
theorem pou_0 {k : Nat} (h : v 0 4 < 8) (h4 : k ≠ 4) (h5 : k ≠ 5) (h6 : k ≠ 6) : pouW v a m n 0 k = v 0 k := by
  unfold pouW pourF
  rw [up2_at2 (by omega), up2_at2 (by omega), up2_at2 (by omega), pou_fil h]
theorem pou_2 (h : v 0 4 < 8) : pouW v a m n 2 m = v 2 m + n := by
  unfold pouW pourF fil
  rw [up2_at2 (by omega), up2_at2 (by omega), up2_at2 (by omega), filL_2, filB_0 (by omega) h, dStk_b (by decide)]
theorem pou_2n {j : Nat} (h : v 0 4 < 8) (hj : j ≠ m) : pouW v a m n 2 j = v 2 j := by
  unfold pouW pourF fil
  rw [up2_at2 (by omega), up2_at2 (by omega), up2_at2 (by omega), filL_2n hj, filB_0 (by omega) h, dStk_b (by decide)]
theorem pou_3 {j : Nat} (h : v 0 4 < 8) (hj : j < 3) : pouW v a m n 3 j = v 3 j - n * v (7 + a) j := by
  unfold pouW pourF fil
  rw [up2_at2 (by omega), up2_at2 (by omega), up2_at2 (by omega), filL_b (by omega) (by omega), filB_0 (by omega) h, dStk_at 3 hj]
theorem pou_sq {j : Nat} (h : v 0 4 < 8) (ha : a < 6) (hj : j < n) : pouW v a m n (21 + v 0 4) j = sqk (up2 v 2 m (v 2 m + j)) a m := by
  unfold pouW pourF fil
  rw [up2_at2 (by omega), up2_at2 (by omega), up2_at2 (by omega), filL_sq ha n hj]
  have e2 : filB (dStk v a n 3) (v 0 4) a n 2 = v 2 := by rw [filB_0 (by omega) h, dStk_b (by decide)]
  exact sqk_congr (by rw [up2_ne (by omega), up2_ne (by omega), filB_0 (by omega) h, dStk_b (by omega)]) (by rw [up2_ne (by omega), up2_ne (by omega), filB_0 (by omega) h, dStk_b (by omega)]) (by rw [up2_s, up2_s, e2])
theorem pou_bt {k : Nat} (hk : k < 5) : pouW v a m n (13 + v 0 4) k = if k = 0 then v 0 5 else if k = 1 then v 0 6 else if k = 2 then n else if k = 3 then a else 0 := by
  unfold pouW pourF fil
  rw [up2_at2 (by omega), up2_at2 (by omega), up2_at2 (by omega), filL_b (by omega) (by omega)]
  unfold filB
  rw [dStk_b (by omega)]
  match k, hk with
  | 0, _ => rw [up2_at2 (by omega), up2_at2 (by omega), up2_at2 (by omega), up2_at2 (by omega), up2_s]; rfl
  | 1, _ => rw [up2_at2 (by omega), up2_at2 (by omega), up2_at2 (by omega), up2_s]; rfl
  | 2, _ => rw [up2_at2 (by omega), up2_at2 (by omega), up2_s]; rfl
  | 3, _ => rw [up2_at2 (by omega), up2_s]; rfl
  | 4, _ => rw [up2_s]; rfl
  | k + 5, h => exact absurd h (by omega)
end POU
/-! a batch taken out: what the model shifts -/
def drG (g : Nat → Nat) (p : Nat) : Nat → Nat := fun j => if j = 7 then g 7 - 1 else if 47 ≤ j ∧ j < 87 ∧ p ≤ (j - 47) % 8 ∧ (j - 47) % 8 < 7 then g (j + 1) else if 87 + 9 * p ≤ j ∧ j < 150 then g (j + 9) else g j
/-- on the way: u rows done, the next up to k -/
def drP (g : Nat → Nat) (p a k : Nat) : Nat → Nat := fun j => if 47 ≤ j ∧ j < a ∧ p ≤ (j - 47) % 8 ∧ (j - 47) % 8 < 7 then g (j + 1) else if a + p ≤ j ∧ j < a + k then g (j + 1) else g j
def drQ (g : Nat → Nat) (p x : Nat) : Nat → Nat := fun j => if 47 ≤ j ∧ j < 87 ∧ p ≤ (j - 47) % 8 ∧ (j - 47) % 8 < 7 then g (j + 1) else if 87 + 9 * p ≤ j ∧ j < 87 + x then g (j + 9) else g j
theorem rmv_0 {v : SV} {p : Nat} : rmv v p 0 4 = v 0 4 - 1 := by rw [rmv_lo (by decide), up2_s]
theorem rmv_bt {v : SV} {p i : Nat} (hi : i < 8) : rmv v p (13 + i) = v (13 + rot (v 0 4) p i) := by
  unfold rmv
  rw [if_pos (by omega), Nat.add_sub_cancel_left]
theorem rmv_sq {v : SV} {p i : Nat} (hi : i < 8) : rmv v p (21 + i) = v (21 + rot (v 0 4) p i) := by
  unfold rmv
  rw [if_neg (by omega), if_pos (by omega), Nat.add_sub_cancel_left]
theorem rot_i {n p i : Nat} (hi : i + 1 < n) : rot n p i = if i < p then i else i + 1 := by
  unfold rot
  rw [if_pos hi]
/-- the model's shift is the taking out -/
theorem Rr.drop {v : SV} {g : Nat → Nat} {p : Nat} (h : Rr v g) (h8 : v 0 4 ≤ 8) (hp : p < v 0 4) : Rr (rmv v p) (drG g p) := by
  intro b k hd
  unfold dm at hd
  rw [rmv_0] at hd
  by_cases hb : b < 13
  · rw [rmv_lo hb]
    by_cases q : b = 0 ∧ k = 4
    · obtain ⟨rfl, rfl⟩ := q
      rw [up2_s]
      show drG g p 7 = _
      unfold drG
      rw [if_pos rfl, h.bat]
    · rw [up2_at2 q]
      have hdm : dm v b k := by unfold dm; omega
      have hlt : ix b k < 47 ∧ ix b k ≠ 7 := by
        refine ⟨?_, fun z => q (ix_inj (dm_D0 hdm) (Or.inl ⟨rfl, by decide⟩ : D0 0 4) z)⟩
        have := xi_lo hb (dm_D0 hdm)
        exact this
      unfold drG
      rw [if_neg hlt.2, if_neg (by omega), if_neg (by omega)]
      exact h b k hdm
  · by_cases h2 : b < 21
    · obtain ⟨i, rfl⟩ : ∃ i, b = 13 + i := ⟨b - 13, by omega⟩
      have hk : k < 5 := by omega
      have hi : i + 1 < v 0 4 := by omega
      have hr := rmv_bt (v := v) (p := p) (i := i) (by omega)
      rw [hr, rot_i hi, ix_bat (by omega)]
      obtain ⟨c, hc, hc4⟩ : ∃ c, (if k = 0 then 47 else if k = 1 then 71 else if k = 2 then 63 else if k = 3 then 55 else 79) = 47 + 8 * c ∧ c ≤ 4 := by
        match k, hk with
        | 0, _ => exact ⟨0, rfl, by decide⟩
        | 1, _ => exact ⟨3, rfl, by decide⟩
        | 2, _ => exact ⟨2, rfl, by decide⟩
        | 3, _ => exact ⟨1, rfl, by decide⟩
        | 4, _ => exact ⟨4, rfl, by decide⟩
        | k + 5, h => exact absurd h (by omega)
      unfold drG
      by_cases e : i < p
      · rw [if_pos e]
        have := h (13 + i) k (Or.inr (Or.inr (Or.inr (Or.inl ⟨by omega, hk⟩))))
        rw [ix_bat (by omega)] at this
        rw [← this]
        rw [hc, if_neg (by omega), if_neg (by omega), if_neg (by omega)]
      · rw [if_neg e]
        have := h (13 + (i + 1)) k (Or.inr (Or.inr (Or.inr (Or.inl ⟨by omega, hk⟩))))
        rw [ix_bat (by omega)] at this
        rw [← this]
        rw [hc, if_neg (by omega), if_pos (by omega)]
        rfl
    · obtain ⟨i, rfl⟩ : ∃ i, b = 21 + i := ⟨b - 21, by omega⟩
      have hi : i + 1 < v 0 4 := by omega
      have hr := rmv_sq (v := v) (p := p) (i := i) (by omega)
      have hz : k < 9 ∧ k < v (13 + rot (v 0 4) p i) 2 := by
        have hb := rmv_bt (v := v) (p := p) (i := i) (by omega)
        rw [show 21 + i - 8 = 13 + i by omega, hb] at hd
        omega
      rw [rot_i hi] at hz
      rw [hr, rot_i hi, ix_sq]
      unfold drG
      by_cases e : i < p
      · rw [if_pos e] at hz ⊢
        rw [if_neg (by omega), if_neg (by omega), if_neg (by omega)]
        exact h.sqs ⟨by omega, by omega⟩ hz
      · rw [if_neg e] at hz ⊢
        rw [if_neg (by omega), if_neg (by omega), if_pos (by omega), ← h.sqs (i := i + 1) ⟨by omega, by omega⟩ hz]
        congr 1
        omega
theorem up1_n {f : Nat → Nat} {i x j y : Nat} (h : j ≠ i) (e : f j = y) : up1 f i x j = y := by rw [up1_ne h, e]
theorem up1_e {f : Nat → Nat} {i x j : Nat} (h : j = i) : up1 f i x j = x := by rw [h, up1_s]
theorem Rr.pour {v w : SV} {gs : Nat → Nat} {a m n : Nat} (h8 : v 0 4 < 8) (ha : a < 6) (hm : m < 4) (hn : 1 ≤ (nI n).toInt ∧ (nI n).toInt ≤ 9) (hw : w = up2 (dStk v a n 3) 2 m (v 2 m + n)) (hR : Rr w gs) (hq : ∀ j, j < n → gs (87 + 9 * v 0 4 + j) = sqk (up2 v 2 m (v 2 m + j)) a m) : Rr (pouW v a m n) (up1 (up1 (up1 (up1 (up1 (up1 (up1 (up1 gs (47 + v 0 4) (w 0 5)) (55 + v 0 4) a) (63 + v 0 4) n) (71 + v 0 4) (w 0 6)) (79 + v 0 4) 0) 7 (w 0 4 + 1)) 8 (w 0 5 + 1)) 9 (w 0 6 + n)) := by
  have e0 : ∀ j, w 0 j = v 0 j := fun j => by rw [hw, up2_ne (by decide), dStk_b (by decide)]
  have g4 := e0 4
  intro b k hd
  have hD := dm_D0 hd
  unfold dm at hd
  rw [pou_04 h8] at hd
  by_cases A : b = 13 + v 0 4
  · subst A
    have hk : k < 5 := by omega
    rw [ix_bat h8, pou_bt hk]
    match k, hk with
    | 0, _ => exact up1_n (by simp only [if_pos]; omega) (up1_n (by simp only [if_pos]; omega) (up1_n (by simp only [if_pos]; omega) (up1_n (by simp only [if_pos]; omega) (up1_n (by simp only [if_pos]; omega) (up1_n (by simp only [if_pos]; omega) (up1_n (by simp only [if_pos]; omega) ((up1_e rfl).trans (e0 5))))))))
    | 1, _ => exact up1_n (by show 71 + _ ≠ _; omega) (up1_n (by show 71 + _ ≠ _; omega) (up1_n (by show 71 + _ ≠ _; omega) (up1_n (by show 71 + _ ≠ _; omega) ((up1_e rfl).trans (e0 6)))))
    | 2, _ => exact up1_n (by show 63 + _ ≠ _; omega) (up1_n (by show 63 + _ ≠ _; omega) (up1_n (by show 63 + _ ≠ _; omega) (up1_n (by show 63 + _ ≠ _; omega) (up1_n (by show 63 + _ ≠ _; omega) (up1_e rfl)))))
    | 3, _ => exact up1_n (by show 55 + _ ≠ _; omega) (up1_n (by show 55 + _ ≠ _; omega) (up1_n (by show 55 + _ ≠ _; omega) (up1_n (by show 55 + _ ≠ _; omega) (up1_n (by show 55 + _ ≠ _; omega) (up1_n (by show 55 + _ ≠ _; omega) (up1_e rfl))))))
    | 4, _ => exact up1_n (by show 79 + _ ≠ _; omega) (up1_n (by show 79 + _ ≠ _; omega) (up1_n (by show 79 + _ ≠ _; omega) (up1_e rfl)))
    | k + 5, h => exact absurd h (by omega)
  · by_cases B : b = 21 + v 0 4
    · subst B
      have hz : pouW v a m n (13 + v 0 4) 2 = n := pou_bt (by decide)
      rw [show 21 + v 0 4 - 8 = 13 + v 0 4 by omega, hz] at hd
      have hk : k < n ∧ k < 9 := by omega
      rw [ix_sq, pou_sq h8 ha hk.1, ← hq k hk.1]
      rw [up1_ne (by omega), up1_ne (by omega), up1_ne (by omega), up1_ne (by omega), up1_ne (by omega), up1_ne (by omega), up1_ne (by omega), up1_ne (by omega)]
    · by_cases C : b = 0 ∧ (k = 4 ∨ k = 5 ∨ k = 6)
      · obtain ⟨rfl, rfl | rfl | rfl⟩ := C
        · rw [pou_04 h8, ← g4]
          exact up1_n (show (7 : Nat) ≠ _ by decide) (up1_n (show (7 : Nat) ≠ _ by decide) (up1_e rfl))
        · rw [pou_05 h8, ← e0 5]
          exact up1_n (show (8 : Nat) ≠ _ by decide) (up1_e rfl)
        · rw [pou_06 h8, ← e0 6]
          exact up1_e rfl
      · have hv : pouW v a m n b k = w b k := by
          rw [hw]
          by_cases b0 : b = 0
          · subst b0
            rw [pou_0 h8 (by omega) (by omega) (by omega), up2_ne (by decide), dStk_b (by decide)]
          · by_cases b2 : b = 2
            · subst b2
              by_cases km : k = m
              · subst km
                rw [pou_2 h8, up2_s]
              · rw [pou_2n h8 km, up2_at2 (fun q => km q.2), dStk_b (by decide)]
            · by_cases b3 : b = 3
              · subst b3
                rw [pou_3 h8 (by omega), up2_ne (by decide), dStk_at 3 (by omega)]
              · rw [pou_b b0 b2 b3 A B, up2_ne b2, dStk_b b3]
        have hd' : dm w b k := by
          unfold dm
          rw [g4]
          rcases hd with hd | hd | hd | hd | hd
          · exact Or.inl hd
          · exact Or.inr (Or.inl hd)
          · exact Or.inr (Or.inr (Or.inl hd))
          · exact Or.inr (Or.inr (Or.inr (Or.inl (by omega))))
          · refine Or.inr (Or.inr (Or.inr (Or.inr ⟨by omega, hd.2.1, ?_⟩)))
            have h9 := hd.2.2
            rwa [pou_b (by omega) (by omega) (by omega) (by omega) (by omega), show v (b - 8) = w (b - 8) by rw [hw, up2_ne (by omega), dStk_b (by omega)]] at h9
        rw [hv]
        have hne : ∀ {b' k' j : Nat}, D0 b' k' → j = ix b' k' → ¬ (b = b' ∧ k = k') → ix b k ≠ j := fun h1 h2 h3 h4 => h3 (ix_inj hD h1 (h4.trans h2))
        have hbt : ∀ {k' j : Nat}, k' < 5 → j = ix (13 + v 0 4) k' → ix b k ≠ j := fun h1 h2 => hne (Or.inr (Or.inr (Or.inr (Or.inl ⟨by omega, h1⟩)))) h2 (fun q => A q.1)
        refine up1_n (hne (b' := 0) (k' := 6) (by decide) rfl (by omega)) (up1_n (hne (b' := 0) (k' := 5) (by decide) rfl (by omega)) (up1_n (hne (b' := 0) (k' := 4) (by decide) rfl (by omega)) ?_))
        exact up1_n (hbt (k' := 4) (by decide) (ix_bat (k := 4) h8).symm) (up1_n (hbt (k' := 1) (by decide) (ix_bat (k := 1) h8).symm) (up1_n (hbt (k' := 2) (by decide) (ix_bat (k := 2) h8).symm) (up1_n (hbt (k' := 3) (by decide) (ix_bat (k := 3) h8).symm) (up1_n (hbt (k' := 0) (by decide) (ix_bat (k := 0) h8).symm) (hR b k hd')))))
section DRP
variable {g : Nat → Nat} {p a k x : Nat}
theorem drP_0 : g = drP g p (47 + 8 * 0) p := by
  funext j
  unfold drP
  rw [if_neg (by omega), if_neg (by omega)]
theorem drP_r (hk : p ≤ k) : drP g p a k (a + k + 1) = g (a + k + 1) := by
  unfold drP
  rw [if_neg (by omega), if_neg (by omega)]
theorem drP_s (hk : p ≤ k) (h7 : k < 7) : up1 (drP g p a k) (a + k) (g (a + k + 1)) = drP g p a (k + 1) := by
  funext j
  by_cases e : j = a + k
  · rw [up1_e e, e]
    unfold drP
    rw [if_neg (by omega), if_pos (by omega)]
  · rw [up1_ne e]
    unfold drP
    by_cases q : 47 ≤ j ∧ j < a ∧ p ≤ (j - 47) % 8 ∧ (j - 47) % 8 < 7
    · rw [if_pos q, if_pos q]
    · rw [if_neg q, if_neg q]
      by_cases q2 : a + p ≤ j ∧ j < a + k
      · rw [if_pos q2, if_pos (by omega)]
      · rw [if_neg q2, if_neg (by omega)]
theorem drP_n {u : Nat} (h7 : ¬ k < 7) (h8 : k ≤ max p 7) (hp : p < 8 := by omega) : drP g p (47 + 8 * u) k = drP g p (47 + 8 * (u + 1)) p := by
  funext j
  unfold drP
  by_cases q : 47 ≤ j ∧ j < 47 + 8 * u ∧ p ≤ (j - 47) % 8 ∧ (j - 47) % 8 < 7
  · rw [if_pos q, if_pos (by omega)]
  · rw [if_neg q]
    by_cases q2 : 47 + 8 * u + p ≤ j ∧ j < 47 + 8 * u + k
    · rw [if_pos q2, if_pos (by omega)]
    · rw [if_neg q2, if_neg (by omega), if_neg (by omega)]
theorem drQ_0 : drP g p (47 + 8 * 5) p = drQ g p (9 * p) := by
  funext j
  unfold drP drQ
  by_cases q : 47 ≤ j ∧ j < 87 ∧ p ≤ (j - 47) % 8 ∧ (j - 47) % 8 < 7
  · rw [if_pos q, if_pos q]
  · rw [if_neg q, if_neg q, if_neg (by omega), if_neg (by omega)]
theorem drQ_r : drQ g p x (87 + x + 9) = g (87 + x + 9) := by
  unfold drQ
  rw [if_neg (by omega), if_neg (by omega)]
theorem drQ_s (hx : 9 * p ≤ x) : up1 (drQ g p x) (87 + x) (g (87 + x + 9)) = drQ g p (x + 1) := by
  funext j
  by_cases e : j = 87 + x
  · rw [up1_e e, e]
    unfold drQ
    rw [if_neg (by omega), if_pos (by omega)]
  · rw [up1_ne e]
    unfold drQ
    by_cases q : 47 ≤ j ∧ j < 87 ∧ p ≤ (j - 47) % 8 ∧ (j - 47) % 8 < 7
    · rw [if_pos q, if_pos q]
    · rw [if_neg q, if_neg q]
      by_cases q2 : 87 + 9 * p ≤ j ∧ j < 87 + x
      · rw [if_pos q2, if_pos (by omega)]
      · rw [if_neg q2, if_neg (by omega)]
theorem drQ_7 : drQ g p x 7 = g 7 := by
  unfold drQ
  rw [if_neg (by omega), if_neg (by omega)]
theorem drQ_e (hx : x = 63) : up1 (drQ g p x) 7 (g 7 - 1) = drG g p := by
  funext j
  by_cases e : j = 7
  · rw [up1_e e, e]
    rfl
  · rw [up1_ne e]
    unfold drQ drG
    rw [if_neg e]
    by_cases q : 47 ≤ j ∧ j < 87 ∧ p ≤ (j - 47) % 8 ∧ (j - 47) % 8 < 7
    · rw [if_pos q, if_pos q]
    · rw [if_neg q, if_neg q]
      by_cases q2 : 87 + 9 * p ≤ j ∧ j < 87 + x
      · rw [if_pos q2, if_pos (by omega)]
      · rw [if_neg q2, if_neg (by omega)]
end DRP
theorem melt_step {v w : SV} {p t b : Nat} (hw : w = meL v p t) (hb : b = w (7 + w (13 + p) 3) t - 1) : meL v p (t + 1) = up2 (up2 w 3 t (w 3 t + w (13 + p) 2 * b)) 6 t (w 6 t + w (13 + p) 2 * (w (7 + w (13 + p) 3) t - b)) := by
  subst hb hw
  have q : ∀ s x y : Nat, s * x - s * y = s * (x - y) := fun s x y => (Nat.mul_sub s x y).symm
  rw [meL]
  unfold meB
  rw [q]
theorem exam_step {v w : SV} {p t : Nat} (hw : w = exT (exS v p t) p) : exT (exS v p (t + 1)) p = up2 w 5 t (w 5 t + w (13 + p) 2 * w (7 + w (13 + p) 3) t) := by
  subst hw
  have e : ∀ b, b ≠ 0 → exT (exS v p t) p b = exS v p t b := fun b hb => by unfold exT; rw [up2_ne hb]
  rw [e 5 (by decide), e (13 + p) (by omega), e _ (by omega)]
  unfold exT
  rw [exS, up2_at2 (b' := 0) (by omega), up2_ne (b' := 13 + p) (by omega), up2_comm (by omega)]
theorem melT_b {v : SV} {p b : Nat} (hb : b ≠ 0) : meT v p b = v b := by
  unfold meT
  rw [up2_ne hb]
/-! copies of 159 numbers, the history -/
def cpy (f : Nat → Nat) (a : Nat) (h : Nat → Nat) (t k : Nat) : Nat → Nat := fun j => if t ≤ j ∧ j < t + k then f (a + (j - t)) else h j
theorem cpy_0 {f h : Nat → Nat} {a t : Nat} : h = cpy f a h t 0 := by
  funext j
  unfold cpy
  rw [if_neg (by omega)]
theorem cpy_s {f h : Nat → Nat} {a t k : Nat} : up1 (cpy f a h t k) (t + k) (f (a + k)) = cpy f a h t (k + 1) := by
  funext j
  by_cases e : j = t + k
  · rw [up1_e e, e]
    unfold cpy
    rw [if_pos (by omega), Nat.add_sub_cancel_left]
  · rw [up1_ne e]
    unfold cpy
    by_cases q : t ≤ j ∧ j < t + k
    · rw [if_pos q, if_pos (by omega)]
    · rw [if_neg q, if_neg (by omega)]
theorem cpy_at {f h : Nat → Nat} {a t k j : Nat} (hj : j < k) : cpy f a h t k (t + j) = f (a + j) := by
  unfold cpy
  rw [if_pos (by omega), Nat.add_sub_cancel_left]
theorem cpy_00 {f h : Nat → Nat} {k j : Nat} (hj : j < k) : cpy f 0 h 0 k j = f j := by
  have := cpy_at (f := f) (a := 0) (h := h) (t := 0) hj
  rwa [Nat.zero_add] at this
theorem cpy_00' {f h : Nat → Nat} {a k j : Nat} (hj : j < k) : cpy f a h 0 k j = f (a + j) := by
  have := cpy_at (f := f) (a := a) (h := h) (t := 0) hj
  rwa [Nat.zero_add] at this
theorem cpy_out {f h : Nat → Nat} {a t k j : Nat} (hj : j < t ∨ t + k ≤ j) : cpy f a h t k j = h j := by
  unfold cpy
  rw [if_neg (by omega)]
def shf (h : Nat → Nat) (k : Nat) : Nat → Nat := fun j => if j < k then h (j + 159) else h j
theorem shf_0 {h : Nat → Nat} : h = shf h 0 := by
  funext j
  unfold shf
  rw [if_neg (by omega)]
theorem shf_r {h : Nat → Nat} {k : Nat} : shf h k (k + 159) = h (k + 159) := by
  unfold shf
  rw [if_neg (by omega)]
theorem shf_s {h : Nat → Nat} {k : Nat} : up1 (shf h k) k (h (k + 159)) = shf h (k + 1) := by
  funext j
  by_cases e : j = k
  · rw [up1_e e, e]
    unfold shf
    rw [if_pos (by omega)]
  · rw [up1_ne e]
    unfold shf
    by_cases q : j < k
    · rw [if_pos q, if_pos (by omega)]
    · rw [if_neg q, if_neg (by omega)]
/-- the history after a change that is kept -/
def khy (c : Nat) (hy bf : Nat → Nat) : Nat → Nat := cpy bf 0 (if c = 8 then shf hy 1113 else hy) (min c 7 * 159) 159
theorem pick1 : ∀ {ws : va_W} {i : Nat} (hi : i < ws.length), ws.Perm (ws[i] :: ws.eraseIdx i)
  | [], _, h => absurd h (Nat.not_lt_zero _)
  | a :: l, 0, _ => List.Perm.refl _
  | a :: l, i + 1, h => ((pick1 (ws := l) (i := i) (Nat.lt_of_succ_lt_succ h)).cons a).trans (List.Perm.swap _ _ _)
theorem pick2 {ws : va_W} {i j : Nat} (hi : i < ws.length) (hj : j < (ws.eraseIdx i).length) : ws.Perm ([ws[i], (ws.eraseIdx i)[j]] ++ (ws.eraseIdx i).eraseIdx j) :=
  (pick1 hi).trans ((pick1 hj).cons _)
/-- the slices of the history, the newest first -/
def HR (hs : List SV) (hy : Nat → Nat) : Prop := ∀ i, (h : i < hs.length) → Rr hs[i] (fun j => hy (159 * (hs.length - 1 - i) + j))
theorem HR.push {hs : List SV} {hy bf : Nat → Nat} {v : SV} (h : HR hs hy) (h8 : hs.length ≤ 8) (hb : Rr v bf) : HR ((v :: hs).take 8) (khy hs.length hy bf) ∧ ((v :: hs).take 8).length = min hs.length 7 + 1 := by
  have hl : ((v :: hs).take 8).length = min hs.length 7 + 1 := by rw [List.length_take, List.length_cons]; omega
  refine ⟨fun i hi => ?_, hl⟩
  rw [List.getElem_take]
  simp only [hl]
  rw [hl] at hi
  cases i with
  | zero =>
    refine hb.congr (fun j hj => ?_)
    unfold khy
    rw [show 159 * (min hs.length 7 + 1 - 1 - 0) + j = min hs.length 7 * 159 + j by omega, cpy_at hj, Nat.zero_add]
  | succ i =>
    rw [List.getElem_cons_succ]
    refine (h i (by omega)).congr (fun j hj => ?_)
    unfold khy
    rw [cpy_out (by omega)]
    by_cases e : hs.length = 8
    · rw [if_pos e]
      unfold shf
      rw [if_pos (by omega)]
      congr 1
      omega
    · rw [if_neg e]
      congr 1
      omega
theorem HR.pop {v : SV} {hs : List SV} {hy : Nat → Nat} (h : HR (v :: hs) hy) : HR hs hy ∧ Rr v (fun j => hy (159 * hs.length + j)) := by
  constructor
  · intro i hi
    have := h (i + 1) (by rw [List.length_cons]; omega)
    rw [List.getElem_cons_succ] at this
    refine this.congr (fun j hj => ?_)
    simp only [List.length_cons]
    congr 2
    omega
  · have := h 0 (by rw [List.length_cons]; omega)
    rw [List.getElem_cons_zero] at this
    refine this.congr (fun j hj => ?_)
    simp only [List.length_cons]
    congr 2
/-! what both sides stand for: the State, the States to go back to (the newest first), the snapshot, the script buffer, the output text, the two places -/
abbrev AS : Type := SV × List SV × Option SV × List Nat × List Nat × Int32 × Int32
def MS (cy : Nat → ClassId) (ma : Nat → Nat) (S : AS) (t : Nat) (u : va_W) : Prop :=
  ∃ (r : Nat → Nat) (e : Nat → Int32) (g bf hy sv bu le : Nat → Nat) (pa : Nat → Int32), u = wM cy ma r e g bf hy sv bu le pa ∧ r 4 = t ∧ Rr S.1 g ∧ r 0 = S.2.1.length ∧ S.2.1.length ≤ 8 ∧ HR S.2.1 hy ∧
    ((r 1 = 0 ∧ S.2.2.1 = none) ∨ (r 1 = 1 ∧ ∃ s, S.2.2.1 = some s ∧ Rr s sv)) ∧
    (r 2 = S.2.2.2.1.length ∧ S.2.2.2.1.length ≤ 60 ∧ ∀ i, (h : i < S.2.2.2.1.length) → bu i = S.2.2.2.1[i]) ∧
    (r 3 = S.2.2.2.2.1.length ∧ S.2.2.2.2.1.length ≤ 60 ∧ ∀ i, (h : i < S.2.2.2.2.1.length) → le i = S.2.2.2.2.1[i]) ∧
    e 0 = S.2.2.2.2.2.1 ∧ e 1 = S.2.2.2.2.2.2
def aMut (S : AS) (o : Int32 × SV) : AS := if o.1.toInt < 0 then S else (o.2, (S.1 :: S.2.1).take 8, S.2.2)
/-- a refusal's number is among these -/
def CO (a b c d e : Nat) (x : Int32) : Prop := 0 ≤ x.toInt ∨ (x.toInt < 0 ∧ kd a b c d e x ≠ 0)
/-- a change wrapped: begun, kept -/
theorem MS_mut {cy : Nat → ClassId} {ma : Nat → Nat} {S : AS} {t a b c d k : Nat} {o : Int32 × SV} {r : Nat → Nat} {e : Nat → Int32} {g bf hy sv bu le g' : Nat → Nat} {pa : Nat → Int32}
    (h : r 4 = t ∧ Rr S.1 g ∧ r 0 = S.2.1.length ∧ S.2.1.length ≤ 8 ∧ HR S.2.1 hy ∧
    ((r 1 = 0 ∧ S.2.2.1 = none) ∨ (r 1 = 1 ∧ ∃ s, S.2.2.1 = some s ∧ Rr s sv)) ∧
    (r 2 = S.2.2.2.1.length ∧ S.2.2.2.1.length ≤ 60 ∧ ∀ i, (h : i < S.2.2.2.1.length) → bu i = S.2.2.2.1[i]) ∧
    (r 3 = S.2.2.2.2.1.length ∧ S.2.2.2.2.1.length ≤ 60 ∧ ∀ i, (h : i < S.2.2.2.2.1.length) → le i = S.2.2.2.2.1[i]) ∧
    e 0 = S.2.2.2.2.2.1 ∧ e 1 = S.2.2.2.2.2.2) (hc : CO a b c d k o.1) (hg : Rr o.2 g') {w : Option Value} {u : va_W} {x : Int32}
    (hk : (¬ up1 r 4 (kd a b c d k o.1) 4 = 0 ∧ w = some (.int (nI 0)) ∧ u = wM cy ma (up1 r 4 (kd a b c d k o.1)) e (cpy (cpy g 0 bf 0 159) 0 g' 0 159) (cpy g 0 bf 0 159) hy sv bu le pa) ∨
      (up1 r 4 (kd a b c d k o.1) 4 = 0 ∧ w = some (.int x) ∧ u = wM cy ma (up1 (up1 r 4 (kd a b c d k o.1)) 0 (min (r 0) 7 + 1)) e g' (cpy g 0 bf 0 159) (khy (r 0) hy (cpy g 0 bf 0 159)) sv bu le pa)) (hx : x = mvl o.1) :
    w = some (.int (mvl o.1)) ∧ MS cy ma (aMut S o) (kd a b c d k o.1) u := by
  obtain ⟨h4, hR, h0, h8, hH, hS, hT, hO, hE⟩ := h
  have hb : Rr S.1 (cpy g 0 bf 0 159) := hR.congr (fun j hj => cpy_00 hj)
  rcases hc with hc | ⟨hc, hn⟩
  · have hz := kd_pos (a := a) (b := b) (c := c) (d := d) (e := k) hc
    rw [hz] at hk ⊢
    rcases hk with ⟨q, -, -⟩ | ⟨-, rfl, rfl⟩
    · exact absurd up1_s q
    · refine ⟨by rw [hx], ?_⟩
      unfold aMut
      rw [if_neg (by omega)]
      have hp := hH.push h8 hb
      rw [h0]
      refine ⟨_, _, _, _, _, _, _, _, _, rfl, rfl, hg, ?_, ?_, hp.1, hS, hT, hO, hE⟩
      · rw [up1_s]; exact hp.2.symm
      · rw [hp.2]; omega
  · rcases hk with ⟨-, rfl, rfl⟩ | ⟨q, -, -⟩
    · refine ⟨?_, ?_⟩
      · unfold mvl
        rw [if_neg (by omega)]
        rfl
      · unfold aMut
        rw [if_pos hc]
        exact ⟨_, _, _, _, _, _, _, _, _, rfl, up1_s, hb.congr (fun j hj => cpy_00 hj), h0, h8, hH, hS, hT, hO, hE⟩
    · rw [up1_s] at q
      exact absurd q hn
/-! the refusals -/
theorem CO_nI {a b c d e x : Nat} (h : x < 2147483648) : CO a b c d e (nI x) := Or.inl (nI_pos9 h)
theorem kd_lt {a b c d e : Nat} {x : Int32} (h : (decide (a < 100) && decide (b < 100) && decide (c < 100) && decide (d < 100) && decide (e < 100)) = true) : kd a b c d e x < 100 := by
  simp only [Bool.and_eq_true, decide_eq_true_eq] at h
  unfold kd
  split
  · omega
  · split
    · omega
    · split
      · omega
      · split
        · omega
        · split <;> omega
theorem CO_bad {a b c d e : Nat} {x : Int32} (h : (decide (x.toInt < 0) && !(kd a b c d e x == 0)) = true) : CO a b c d e x := by
  simp only [Bool.and_eq_true, decide_eq_true_eq, Bool.not_eq_true', beq_eq_false_iff_ne] at h
  exact Or.inr h
theorem tn_lt4 {v : SV} (hv : Wf v) {x : Int32} (h : 0 ≤ x.toInt ∧ x.toInt < ((v 0 1 : Nat) : Int)) : tn x < 4 := by
  have := hv.2.1
  obtain ⟨j, hj, rfl⟩ := nat_of h
  rw [tn_nI (by omega)]
  omega
section CODES
variable {v : SV}
theorem oMix_co (hv : Wf v) {x y z : Int32} : CO 0 1 2 0 0 (oMix v x y z).1 := by
  unfold oMix
  split
  · split
    · exact CO_nI (by omega)
    · exact CO_bad rfl
  · exact CO_bad rfl
theorem oMould_co (hv : Wf v) {x : Int32} : CO 0 1 2 0 0 (oMould v x).1 := by
  unfold oMould
  split
  · split
    · exact CO_nI (by omega)
    · exact CO_bad rfl
  · exact CO_bad rfl
theorem oBuy_co (hv : Wf v) {x y : Int32} : CO 1 2 3 0 0 (oBuy v x y).1 := by
  unfold oBuy
  split
  · split
    · split
      · exact CO_nI (by omega)
      · exact CO_bad rfl
    · exact CO_bad rfl
  · exact CO_bad rfl
theorem oPour_co (hv : Wf v) {x y z : Int32} : CO 1 2 3 4 0 (oPour v x y z).1 := by
  unfold oPour
  split
  · split
    · split
      · split
        · exact CO_nI (by have := hv.2.2.2.2.2.1; omega)
        · exact CO_bad rfl
      · exact CO_bad rfl
    · exact CO_bad rfl
  · exact CO_bad rfl
theorem oReset_co (hv : Wf v) {x : Int32} : CO 1 0 0 0 0 (oReset v x).1 := by
  unfold oReset
  split
  · rename_i h
    unfold inR at h
    refine CO_nI (Nat.lt_of_le_of_lt (hv.2.2.2.2.2.2.2.2.1 _ (tn_lt4 hv h)).2 (by decide))
  · exact CO_bad rfl
theorem oTol_co (hv : Wf v) {x : Int32} : CO 0 1 0 0 0 (oTol v x).1 := by
  unfold oTol
  split
  · exact CO_nI (by have := hv.2.2.2.2.1; omega)
  · exact CO_bad rfl
theorem oStep_co (hv : Wf v) {x : Int32} : CO 0 1 0 0 0 (oStep v x).1 := by
  unfold oStep
  split
  · exact CO_nI (by have := hv.2.2.2.1; omega)
  · exact CO_bad rfl
theorem oExam_co (hv : Wf v) {x : Int32} : CO 0 0 2 0 1 (oExam v x).1 := by
  unfold oExam
  split
  · split
    · split
      · exact CO_nI (by decide)
      · exact CO_nI (by decide)
    · exact CO_bad rfl
  · exact CO_bad rfl
theorem meR_le (hv : Wf v) {p : Nat} (hp : p < v 0 4) : ∀ t, t ≤ 3 → meR v p t ≤ t * 81
  | 0, _ => Nat.le_refl _
  | t + 1, h => by
    have ih := meR_le hv hp t (by omega)
    obtain ⟨hz, ha, -⟩ := hv.2.2.2.2.2.2.1 p hp
    have h1 := hv.2.2.2.2.2.2.2.1 (v (13 + p) 3) t (by have := hv.1; omega) (by omega)
    have e3 : meL v p t (13 + p) = v (13 + p) := meL_b (by omega) (by omega) t
    have e7 : meL v p t (7 + v (13 + p) 3) = v (7 + v (13 + p) 3) := meL_b (by have := hv.1; omega) (by have := hv.1; omega) t
    have h2 : meB (meL v p t) p t ≤ 9 * 9 := by
      unfold meB
      rw [e3, e7]
      exact Nat.mul_le_mul (by omega) (by omega)
    rw [meR]
    omega
theorem oMelt_co (hv : Wf v) {x : Int32} : CO 0 0 2 0 1 (oMelt v x).1 := by
  unfold oMelt
  split
  · rename_i h
    split
    · exact CO_nI (by have := meR_le hv h 3 (Nat.le_refl _); omega)
    · exact CO_bad rfl
  · exact CO_bad rfl
end CODES
section MSQ
variable {cy : Nat → ClassId} {ma : Nat → Nat} {S : AS} {t n : Nat} {r : Nat → Nat} {e : Nat → Int32} {g bf hy sv bu le : Nat → Nat} {pa : Nat → Int32} {q z : Int32} {x : Nat}
theorem MS_thr (h : r 4 = t ∧ Rr S.1 g ∧ r 0 = S.2.1.length ∧ S.2.1.length ≤ 8 ∧ HR S.2.1 hy ∧
    ((r 1 = 0 ∧ S.2.2.1 = none) ∨ (r 1 = 1 ∧ ∃ s, S.2.2.1 = some s ∧ Rr s sv)) ∧
    (r 2 = S.2.2.2.1.length ∧ S.2.2.2.1.length ≤ 60 ∧ ∀ i, (h : i < S.2.2.2.1.length) → bu i = S.2.2.2.1[i]) ∧
    (r 3 = S.2.2.2.2.1.length ∧ S.2.2.2.2.1.length ≤ 60 ∧ ∀ i, (h : i < S.2.2.2.2.1.length) → le i = S.2.2.2.2.1[i]) ∧
    e 0 = S.2.2.2.2.2.1 ∧ e 1 = S.2.2.2.2.2.2) : MS cy ma S n (wM cy ma (up1 r 4 n) e g bf hy sv bu le pa) := by
  obtain ⟨h4, h⟩ := h
  exact ⟨_, _, _, _, _, _, _, _, _, rfl, up1_s, h⟩
theorem MQ_bad (hM : r 4 = t ∧ Rr S.1 g ∧ r 0 = S.2.1.length ∧ S.2.1.length ≤ 8 ∧ HR S.2.1 hy ∧
    ((r 1 = 0 ∧ S.2.2.1 = none) ∨ (r 1 = 1 ∧ ∃ s, S.2.2.1 = some s ∧ Rr s sv)) ∧
    (r 2 = S.2.2.2.1.length ∧ S.2.2.2.1.length ≤ 60 ∧ ∀ i, (h : i < S.2.2.2.1.length) → bu i = S.2.2.2.1[i]) ∧
    (r 3 = S.2.2.2.2.1.length ∧ S.2.2.2.2.1.length ≤ 60 ∧ ∀ i, (h : i < S.2.2.2.2.1.length) → le i = S.2.2.2.2.1[i]) ∧
    e 0 = S.2.2.2.2.2.1 ∧ e 1 = S.2.2.2.2.2.2) (h : q = z) (h1 : mvl z = nI 0) (h2 : kd 1 1 1 1 1 z = n) : some (.int (nI 0)) = some (Value.int (mvl q)) ∧ MS cy ma S (kd 1 1 1 1 1 q) (wM cy ma (up1 r 4 n) e g bf hy sv bu le pa) := by
  subst h
  rw [h1, h2]
  exact ⟨rfl, MS_thr hM⟩
theorem MQ_good (hM : r 4 = t ∧ Rr S.1 g ∧ r 0 = S.2.1.length ∧ S.2.1.length ≤ 8 ∧ HR S.2.1 hy ∧
    ((r 1 = 0 ∧ S.2.2.1 = none) ∨ (r 1 = 1 ∧ ∃ s, S.2.2.1 = some s ∧ Rr s sv)) ∧
    (r 2 = S.2.2.2.1.length ∧ S.2.2.2.1.length ≤ 60 ∧ ∀ i, (h : i < S.2.2.2.1.length) → bu i = S.2.2.2.1[i]) ∧
    (r 3 = S.2.2.2.2.1.length ∧ S.2.2.2.2.1.length ≤ 60 ∧ ∀ i, (h : i < S.2.2.2.2.1.length) → le i = S.2.2.2.2.1[i]) ∧
    e 0 = S.2.2.2.2.2.1 ∧ e 1 = S.2.2.2.2.2.2) (h : q = nI x) (hx : x < 2147483648) : some (.int (nI x)) = some (Value.int (mvl q)) ∧ MS cy ma S (kd 1 1 1 1 1 q) (wM cy ma (up1 r 4 0) e g bf hy sv bu le pa) := by
  subst h
  rw [mvl_nI hx, kd_nI hx]
  exact ⟨rfl, MS_thr hM⟩
theorem MW_bad (h : q = z) (h1 : mvl z = nI 0) (h2 : kd 1 1 1 1 1 z = n) : some (.int (nI 0)) = some (Value.int (mvl q)) ∧ (wM cy ma (up1 r 4 n) e g bf hy sv bu le pa) = wM cy ma (up1 r 4 (kd 1 1 1 1 1 q)) e g bf hy sv bu le pa := by
  subst h
  rw [h1, h2]
  exact ⟨rfl, rfl⟩
theorem MW_good (h : q = nI x) (hx : x < 2147483648) : some (.int (nI x)) = some (Value.int (mvl q)) ∧ (wM cy ma (up1 r 4 0) e g bf hy sv bu le pa) = wM cy ma (up1 r 4 (kd 1 1 1 1 1 q)) e g bf hy sv bu le pa := by
  subst h
  rw [mvl_nI hx, kd_nI hx]
  exact ⟨rfl, rfl⟩
end MSQ
/-! what the questions answer; below 0: a refusal -/
def qParts (v : SV) (x y : Int32) : Int32 := if inR x (v 0 0) ∧ inR y 3 then nI (v (7 + tn x) (tn y)) else -1
def qMld (b : Nat) (v : SV) (x : Int32) : Int32 := if inR x (v 0 1) then nI (v b (tn x)) else -1
def qMet (b : Nat) (v : SV) (x : Int32) : Int32 := if inR x 3 then nI (v b (tn x)) else -1
def qAt (v : SV) (x : Int32) : Int32 := if inR x (v 0 4) then nI (v (13 + tn x) 0) else -5
def qBat (f : SV → Nat → Nat) (v : SV) (x : Int32) : Int32 := if plc v x.toInt < v 0 4 then nI (f v (plc v x.toInt)) else -5
def qSqk (v : SV) (x : Int32) : Int32 := if plb v x.toInt < v 0 4 then nI (v (21 + plb v x.toInt) (tn x - v (13 + plb v x.toInt) 1)) else -5
def qBof (v : SV) (x : Int32) : Int32 := if plb v x.toInt < v 0 4 then nI (v (13 + plb v x.toInt) 0) else -5
def qNxt (v : SV) (x y : Int32) : Int32 := if inR x (v 0 0) ∧ inR y (v 0 1) then nI (sqk v (tn x) (tn y)) else -1
def qPos (v : SV) (x : Int32) : Int32 := if inR x (v 0 0) then nI (bst v (tn x) 3) else -1
def qMib (v : SV) (x : Int32) : Int32 := if inR x 3 then nI (mib v (tn x) (v 0 4)) else -1
def qRnk (v : SV) (x : Int32) : Int32 := if lst (fun i => (rnk v (v 0 4) i : Int) = x.toInt) (v 0 4) < v 0 4 then nI (v (13 + lst (fun i => (rnk v (v 0 4) i : Int) = x.toInt) (v 0 4)) 0) else -5
/-- of batch i: its numbers, its bows that are good at t, its sample, the least tolerance that it would pass at -/
def bNum (k : Nat) (v : SV) (i : Nat) : Nat := v (13 + i) k
def bGood (v : SV) (i : Nat) : Nat := cG (v (21 + i)) 1 (v 0 2) (v (13 + i) 2)
def bSam (v : SV) (i : Nat) : Nat := cG (v (21 + i)) (v 0 3) 99 (v (13 + i) 2)
def bNee (v : SV) (i : Nat) : Nat := lst (pas (v (21 + i)) (v (13 + i) 2) (v 0 3)) 99
theorem cG_pos {sq : Nat → Nat} {s t : Nat} (h0 : sq 0 ≤ t) : ∀ {n : Nat}, 1 ≤ n → 1 ≤ cG sq s t n
  | 0, h => absurd h (by decide)
  | n + 1, _ => by
    rw [cG_succ]
    by_cases e : n = 0
    · subst e
      rw [if_pos ⟨Nat.zero_mod _, h0⟩]
      omega
    · have := cG_pos (sq := sq) (s := s) (t := t) h0 (n := n) (by omega)
      omega
theorem pas_99 {sq : Nat → Nat} {n s : Nat} (h1 : 1 ≤ n) (h0 : sq 0 ≤ 99) : pas sq n s 99 := by
  have := cG_pos (s := s) h0 h1
  unfold pas
  omega
theorem bst_is {v : SV} {a b : Nat} (hb : b < 1000000) (h : hasN v a b 3) (hn : ¬ hasN v a (b + 1) 3) : bst v a 3 = b := by
  have h1 := (bst_iff (v := v) (a := a) (n := b) (by omega) 3).mpr h
  have h2 : ¬ b + 1 ≤ bst v a 3 := fun z => hn ((bst_iff (by omega) 3).mp z)
  omega
theorem lst_end {p : Nat → Prop} [DecidablePred p] {n k : Nat} (hp : p k) (hn : ∀ j, j < k → ¬ p j) (hk : k ≤ n) : lst p n = k := by
  by_cases q : k < n
  · exact lst_at hp hn q
  · have e : k = n := by omega
    subst e
    exact lst_no (fun j hj => hn j hj)
/-- a question's number is 0 just if it is answered -/
theorem kd1_iff (x : Int32) : kd 1 1 1 1 1 x = 0 ↔ 0 ≤ x.toInt ∨ (x.toInt < -5) := by
  constructor
  · intro h
    by_cases q : 0 ≤ x.toInt
    · exact Or.inl q
    · right
      unfold kd at h
      have f : ∀ y : Int32, x ≠ y → x.toInt ≠ y.toInt := fun y hy z => hy (Int32.toInt_inj.mp z)
      split at h
      · omega
      · rename_i h1
        split at h
        · omega
        · rename_i h2
          split at h
          · omega
          · rename_i h3
            split at h
            · omega
            · rename_i h4
              split at h
              · omega
              · rename_i h5
                have g1 : x.toInt ≠ -1 := f _ h1
                have g2 : x.toInt ≠ -2 := f _ h2
                have g3 : x.toInt ≠ -3 := f _ h3
                have g4 : x.toInt ≠ -4 := f _ h4
                have g5 : x.toInt ≠ -5 := f _ h5
                omega
  · rintro (h | h)
    · exact kd_pos h
    · unfold kd
      have f : ∀ y : Int32, -5 ≤ y.toInt → x ≠ y := fun y hy q => by rw [q] at h; omega
      rw [if_neg (f _ (by decide)), if_neg (f _ (by decide)), if_neg (f _ (by decide)), if_neg (f _ (by decide)), if_neg (f _ (by decide))]
theorem qSqk_lo {v : SV} (hv : Wf v) (x : Int32) : -5 ≤ (qSqk v x).toInt := by
  unfold qSqk
  split
  · rename_i h
    have hsp : (v (13 + plb v x.toInt) 1 : Int) ≤ x.toInt ∧ x.toInt < (v (13 + plb v x.toInt) 1 : Int) + (v (13 + plb v x.toInt) 2 : Int) := lst_spec (n := v 0 4) h
    obtain ⟨bz, ba, bf9, b0, b1, bq⟩ := hv.2.2.2.2.2.2.1 _ h
    obtain ⟨j, hj, ej⟩ := nat_of (x := x) (n := 2000000) ⟨by omega, by omega⟩
    have etn : tn x = j := by rw [ej]; exact tn_nI (by omega)
    have eti : x.toInt = (j : Int) := by rw [ej]; exact nI_I (by omega)
    have := bq (tn x - v (13 + plb v x.toInt) 1) (by omega)
    rw [nI_I (by omega)]
    omega
  · decide
/-! undo, save, restore, the two places -/
def qErr (x : Int32) : Int32 := if x = -1 then -5 else x
def aUndo (S : AS) : AS := match S.2.1 with
  | [] => S
  | s :: hs => (s, hs, S.2.2)
def qUndo (S : AS) : Int32 := match S.2.1 with
  | [] => -3
  | _ :: hs => nI hs.length
def aSave (S : AS) : AS := (S.1, S.2.1, some S.1, S.2.2.2)
def aRest (S : AS) : AS := match S.2.2.1 with
  | none => S
  | some s => (s, [], S.2.2)
def qRest (S : AS) : Int32 := match S.2.2.1 with
  | none => -3
  | some s => nI (s 0 4)
/-- the mean, the share -/
def qMean (v : SV) : UInt64 := if sumT (fun i => v (13 + i) 2) (v 0 4) = 0 then FP.dconst0 else FP.ddiv (FP.i2d (nI (sumT (sumB v) (v 0 4)))) (FP.i2d (nI (sumT (fun i => v (13 + i) 2) (v 0 4))))
def qShare (v : SV) : UInt32 := if v 0 6 = 0 then FP.fconst0 else FP.fdiv (FP.i2f (nI (v 0 7))) (FP.i2f (nI (v 0 6)))
section MSE
variable {cy : Nat → ClassId} {ma : Nat → Nat} {S : AS} {t : Nat} {r : Nat → Nat} {e : Nat → Int32} {g bf hy sv bu le : Nat → Nat} {pa : Nat → Int32} {x y : Int32} {z : Nat} {s : SV}
theorem err_bad (hM : r 4 = t ∧ Rr S.1 g ∧ r 0 = S.2.1.length ∧ S.2.1.length ≤ 8 ∧ HR S.2.1 hy ∧
    ((r 1 = 0 ∧ S.2.2.1 = none) ∨ (r 1 = 1 ∧ ∃ s, S.2.2.1 = some s ∧ Rr s sv)) ∧
    (r 2 = S.2.2.2.1.length ∧ S.2.2.2.1.length ≤ 60 ∧ ∀ i, (h : i < S.2.2.2.1.length) → bu i = S.2.2.2.1[i]) ∧
    (r 3 = S.2.2.2.2.1.length ∧ S.2.2.2.2.1.length ≤ 60 ∧ ∀ i, (h : i < S.2.2.2.2.1.length) → le i = S.2.2.2.2.1[i]) ∧
    e 0 = S.2.2.2.2.2.1 ∧ e 1 = S.2.2.2.2.2.2) (h : x = -1) : some (.int (nI 0)) = some (Value.int (mvl (qErr x))) ∧ MS cy ma S (kd 1 1 1 1 1 (qErr x)) (wM cy ma (up1 r 4 1) e g bf hy sv bu le pa) := by
  subst h
  exact ⟨rfl, MS_thr hM⟩
theorem err_good (hM : r 4 = t ∧ Rr S.1 g ∧ r 0 = S.2.1.length ∧ S.2.1.length ≤ 8 ∧ HR S.2.1 hy ∧
    ((r 1 = 0 ∧ S.2.2.1 = none) ∨ (r 1 = 1 ∧ ∃ s, S.2.2.1 = some s ∧ Rr s sv)) ∧
    (r 2 = S.2.2.2.1.length ∧ S.2.2.2.1.length ≤ 60 ∧ ∀ i, (h : i < S.2.2.2.1.length) → bu i = S.2.2.2.1[i]) ∧
    (r 3 = S.2.2.2.2.1.length ∧ S.2.2.2.2.1.length ≤ 60 ∧ ∀ i, (h : i < S.2.2.2.2.1.length) → le i = S.2.2.2.2.1[i]) ∧
    e 0 = S.2.2.2.2.2.1 ∧ e 1 = S.2.2.2.2.2.2) (he : y = x) (hx : x = -1 ∨ 0 ≤ x.toInt) (hn : ¬ x = -1) : some (.int y) = some (Value.int (mvl (qErr x))) ∧ MS cy ma S (kd 1 1 1 1 1 (qErr x)) (wM cy ma (up1 r 4 0) e g bf hy sv bu le pa) := by
  have h0 : 0 ≤ x.toInt := hx.resolve_left hn
  unfold qErr
  rw [if_neg hn, mvl_pos h0, kd_pos h0, he]
  exact ⟨rfl, MS_thr hM⟩
theorem undo_bad (hM : r 4 = t ∧ Rr S.1 g ∧ r 0 = S.2.1.length ∧ S.2.1.length ≤ 8 ∧ HR S.2.1 hy ∧
    ((r 1 = 0 ∧ S.2.2.1 = none) ∨ (r 1 = 1 ∧ ∃ s, S.2.2.1 = some s ∧ Rr s sv)) ∧
    (r 2 = S.2.2.2.1.length ∧ S.2.2.2.1.length ≤ 60 ∧ ∀ i, (h : i < S.2.2.2.1.length) → bu i = S.2.2.2.1[i]) ∧
    (r 3 = S.2.2.2.2.1.length ∧ S.2.2.2.2.1.length ≤ 60 ∧ ∀ i, (h : i < S.2.2.2.2.1.length) → le i = S.2.2.2.2.1[i]) ∧
    e 0 = S.2.2.2.2.2.1 ∧ e 1 = S.2.2.2.2.2.2) (h : r 0 = 0) : some (.int (nI 0)) = some (Value.int (mvl (qUndo S))) ∧ MS cy ma (aUndo S) (kd 1 1 1 1 1 (qUndo S)) (wM cy ma (up1 r 4 1) e g bf hy sv bu le pa) := by
  have hM0 := hM
  obtain ⟨h4, hR, h0, h8, hH, hS, hT, hO, hE⟩ := hM
  obtain ⟨v, hs, S2⟩ := S
  cases hs with
  | nil => exact ⟨rfl, MS_thr hM0⟩
  | cons s hs => simp only [List.length_cons] at h0; omega
theorem undo_good (hM : r 4 = t ∧ Rr S.1 g ∧ r 0 = S.2.1.length ∧ S.2.1.length ≤ 8 ∧ HR S.2.1 hy ∧
    ((r 1 = 0 ∧ S.2.2.1 = none) ∨ (r 1 = 1 ∧ ∃ s, S.2.2.1 = some s ∧ Rr s sv)) ∧
    (r 2 = S.2.2.2.1.length ∧ S.2.2.2.1.length ≤ 60 ∧ ∀ i, (h : i < S.2.2.2.1.length) → bu i = S.2.2.2.1[i]) ∧
    (r 3 = S.2.2.2.2.1.length ∧ S.2.2.2.2.1.length ≤ 60 ∧ ∀ i, (h : i < S.2.2.2.2.1.length) → le i = S.2.2.2.2.1[i]) ∧
    e 0 = S.2.2.2.2.2.1 ∧ e 1 = S.2.2.2.2.2.2) (h : ¬ r 0 = 0) : some (.int (nI (r 0 - 1))) = some (Value.int (mvl (qUndo S))) ∧ MS cy ma (aUndo S) (kd 1 1 1 1 1 (qUndo S)) (wM cy ma (up1 (up1 r 0 (r 0 - 1)) 4 0) e (cpy hy ((r 0 - 1) * 159) g 0 159) bf hy sv bu le pa) := by
  obtain ⟨h4, hR, h0, h8, hH, hS, hT, hO, hE⟩ := hM
  obtain ⟨v, hs, S2⟩ := S
  cases hs with
  | nil => exact absurd h0 h
  | cons s hs =>
    have hp := hH.pop
    have hl : hs.length + 1 ≤ 8 := h8
    have h0' : r 0 = hs.length + 1 := h0
    have q9 : qUndo (v, s :: hs, S2) = nI hs.length := rfl
    rw [q9, mvl_nI (by omega), kd_nI (by omega)]
    refine ⟨by rw [h0']; rfl, _, _, _, _, _, _, _, _, _, rfl, up1_s, ?_, ?_, by show hs.length ≤ 8; omega, hp.1, hS, hT, hO, hE⟩
    · refine hp.2.congr (fun j hj => ?_)
      rw [cpy_00' hj, h0']
      congr 1
      omega
    · show r 0 - 1 = hs.length
      omega
theorem save_ms (hM : r 4 = t ∧ Rr S.1 g ∧ r 0 = S.2.1.length ∧ S.2.1.length ≤ 8 ∧ HR S.2.1 hy ∧
    ((r 1 = 0 ∧ S.2.2.1 = none) ∨ (r 1 = 1 ∧ ∃ s, S.2.2.1 = some s ∧ Rr s sv)) ∧
    (r 2 = S.2.2.2.1.length ∧ S.2.2.2.1.length ≤ 60 ∧ ∀ i, (h : i < S.2.2.2.1.length) → bu i = S.2.2.2.1[i]) ∧
    (r 3 = S.2.2.2.2.1.length ∧ S.2.2.2.2.1.length ≤ 60 ∧ ∀ i, (h : i < S.2.2.2.2.1.length) → le i = S.2.2.2.2.1[i]) ∧
    e 0 = S.2.2.2.2.2.1 ∧ e 1 = S.2.2.2.2.2.2) : MS cy ma (aSave S) 0 (wM cy ma (up1 (up1 r 1 1) 4 0) e g bf hy (cpy g 0 sv 0 159) bu le pa) := by
  obtain ⟨h4, hR, h0, h8, hH, hS, hT, hO, hE⟩ := hM
  exact ⟨_, _, _, _, _, _, _, _, _, rfl, up1_s, hR, h0, h8, hH, Or.inr ⟨rfl, S.1, rfl, hR.congr (fun j hj => cpy_00 hj)⟩, hT, hO, hE⟩
theorem rest_bad (hM : r 4 = t ∧ Rr S.1 g ∧ r 0 = S.2.1.length ∧ S.2.1.length ≤ 8 ∧ HR S.2.1 hy ∧
    ((r 1 = 0 ∧ S.2.2.1 = none) ∨ (r 1 = 1 ∧ ∃ s, S.2.2.1 = some s ∧ Rr s sv)) ∧
    (r 2 = S.2.2.2.1.length ∧ S.2.2.2.1.length ≤ 60 ∧ ∀ i, (h : i < S.2.2.2.1.length) → bu i = S.2.2.2.1[i]) ∧
    (r 3 = S.2.2.2.2.1.length ∧ S.2.2.2.2.1.length ≤ 60 ∧ ∀ i, (h : i < S.2.2.2.2.1.length) → le i = S.2.2.2.2.1[i]) ∧
    e 0 = S.2.2.2.2.2.1 ∧ e 1 = S.2.2.2.2.2.2) (h : r 1 = 0) : some (.int (nI 0)) = some (Value.int (mvl (qRest S))) ∧ MS cy ma (aRest S) (kd 1 1 1 1 1 (qRest S)) (wM cy ma (up1 r 4 1) e g bf hy sv bu le pa) := by
  have hM0 := hM
  obtain ⟨h4, hR, h0, h8, hH, hS, hT, hO, hE⟩ := hM
  have hn : S.2.2.1 = none := by
    rcases hS with ⟨-, q⟩ | ⟨q, -⟩
    · exact q
    · omega
  have e1 : qRest S = -3 := by unfold qRest; rw [hn]
  have e2 : aRest S = S := by unfold aRest; rw [hn]
  rw [e1, e2]
  exact ⟨rfl, MS_thr hM0⟩
theorem rest_good (hM : r 4 = t ∧ Rr S.1 g ∧ r 0 = S.2.1.length ∧ S.2.1.length ≤ 8 ∧ HR S.2.1 hy ∧
    ((r 1 = 0 ∧ S.2.2.1 = none) ∨ (r 1 = 1 ∧ ∃ s, S.2.2.1 = some s ∧ Rr s sv)) ∧
    (r 2 = S.2.2.2.1.length ∧ S.2.2.2.1.length ≤ 60 ∧ ∀ i, (h : i < S.2.2.2.1.length) → bu i = S.2.2.2.1[i]) ∧
    (r 3 = S.2.2.2.2.1.length ∧ S.2.2.2.2.1.length ≤ 60 ∧ ∀ i, (h : i < S.2.2.2.2.1.length) → le i = S.2.2.2.2.1[i]) ∧
    e 0 = S.2.2.2.2.2.1 ∧ e 1 = S.2.2.2.2.2.2) (hs : S.2.2.1 = some s) (hR9 : Rr s sv) (h4 : s 0 4 < 2147483648) : some (.int (nI (s 0 4))) = some (Value.int (mvl (qRest S))) ∧ MS cy ma (aRest S) (kd 1 1 1 1 1 (qRest S)) (wM cy ma (up1 (up1 r 0 0) 4 0) e (cpy sv 0 g 0 159) bf hy sv bu le pa) := by
  obtain ⟨h4, hR, h0, h8, hH, hS, hT, hO, hE⟩ := hM
  have e1 : qRest S = nI (s 0 4) := by unfold qRest; rw [hs]
  have e2 : aRest S = (s, [], S.2.2) := by unfold aRest; rw [hs]
  rw [e1, e2, mvl_nI (by omega), kd_nI (by omega)]
  exact ⟨rfl, _, _, _, _, _, _, _, _, _, rfl, up1_s, hR9.congr (fun j hj => cpy_00 hj), rfl, Nat.zero_le _, (fun i hi => absurd hi (Nat.not_lt_zero _)), hS, hT, hO, hE⟩
end MSE
