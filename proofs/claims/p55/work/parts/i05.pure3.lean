/-! ===== the answers: never but a number or their refusals ===== -/
theorem qN {c : Prop} [Decidable c] {n : Nat} {z : Int32} (h : c → n < 2147483648) : 0 ≤ (if c then nI n else z).toInt ∨ (if c then nI n else z) = z := by
  by_cases q : c
  · rw [if_pos q]; exact Or.inl (nI_pos9 (h q))
  · rw [if_neg q]; exact Or.inr rfl
theorem CO_cases {a b c d e : Nat} {x : Int32} (h : CO a b c d e x) : 0 ≤ x.toInt ∨ (x = -1 ∧ a ≠ 0) ∨ (x = -2 ∧ b ≠ 0) ∨ (x = -3 ∧ c ≠ 0) ∨ (x = -4 ∧ d ≠ 0) ∨ (x = -5 ∧ e ≠ 0) := by
  rcases h with h | ⟨-, h⟩
  · exact Or.inl h
  · unfold kd at h
    by_cases h1 : x = -1
    · rw [if_pos h1] at h; exact Or.inr (Or.inl ⟨h1, h⟩)
    · rw [if_neg h1] at h
      by_cases h2 : x = -2
      · rw [if_pos h2] at h; exact Or.inr (Or.inr (Or.inl ⟨h2, h⟩))
      · rw [if_neg h2] at h
        by_cases h3 : x = -3
        · rw [if_pos h3] at h; exact Or.inr (Or.inr (Or.inr (Or.inl ⟨h3, h⟩)))
        · rw [if_neg h3] at h
          by_cases h4 : x = -4
          · rw [if_pos h4] at h; exact Or.inr (Or.inr (Or.inr (Or.inr (Or.inl ⟨h4, h⟩))))
          · rw [if_neg h4] at h
            by_cases h5 : x = -5
            · rw [if_pos h5] at h; exact Or.inr (Or.inr (Or.inr (Or.inr (Or.inr ⟨h5, h⟩))))
            · rw [if_neg h5] at h; exact absurd rfl h
section QS
variable {K : Nat} {v : SV} {S : AS} {x y : Int32}
theorem qParts_q (hv : Wf v) : 0 ≤ (qParts v x y).toInt ∨ qParts v x y = -1 := qN (fun h => by
  have h1 := inR_tn h.1 (by have := hv.1; omega)
  have h2 := inR_tn h.2 (by decide)
  have := hv.2.2.2.2.2.2.2.1 (tn x) (tn y) (by have := hv.1; omega) h2
  omega)
theorem qMld_q {b : Nat} (hb : b = 1 ∨ b = 2) (hv : Wf v) : 0 ≤ (qMld b v x).toInt ∨ qMld b v x = -1 := qN (fun h => by
  have h1 := inR_tn h (by have := hv.2.1; omega)
  have := hv.2.2.2.2.2.2.2.2.1 (tn x) (by have := hv.2.1; omega)
  rcases hb with rfl | rfl <;> omega)
theorem qSt_q (hv : Wf v) : 0 ≤ (qMet 3 v x).toInt ∨ qMet 3 v x = -1 := qN (fun h => by
  have := hv.2.2.2.2.2.2.2.2.2.1 (tn x) (inR_tn h (by decide))
  omega)
theorem qLo_q (hI : Inv K v) (hK : K ≤ 100000) : 0 ≤ (qMet 6 v x).toInt ∨ qMet 6 v x = -1 := qN (fun h => by
  obtain ⟨b1, b2, b3⟩ := hI.2.2.1 (tn x) (inR_tn h (by decide))
  omega)
theorem lo_lt (hI : Inv K v) (hK : K ≤ 100000) : ∀ m, m < 3 → v 6 m < 2147483648 := fun m hm => by
  obtain ⟨b1, b2, b3⟩ := hI.2.2.1 m hm
  omega
theorem qAt_q (hv : Wf v) : 0 ≤ (qAt v x).toInt ∨ qAt v x = -5 := qN (fun h => by
  have := (hv.2.2.2.2.2.2.1 (tn x) (inR_tn h (by have := hv.2.2.1; omega))).2.2.2.1
  omega)
theorem qBat_q {f : SV → Nat → Nat} (hf : ∀ p, p < v 0 4 → f v p < 2147483648) : 0 ≤ (qBat f v x).toInt ∨ qBat f v x = -5 := qN (fun h => hf _ h)
theorem bNum_lt {k : Nat} (hk : k < 5 ∧ k ≠ 3) (hv : Wf v) : ∀ p, p < v 0 4 → bNum k v p < 2147483648 := fun p hp => by
  obtain ⟨⟨b1, b2⟩, b3, b4, b5, b6, b7⟩ := hv.2.2.2.2.2.2.1 _ hp
  unfold bNum
  rcases (show k = 0 ∨ k = 1 ∨ k = 2 ∨ k = 4 by omega) with rfl | rfl | rfl | rfl <;> omega
theorem bGood_lt (hv : Wf v) : ∀ p, p < v 0 4 → bGood v p < 2147483648 := fun p hp => by
  have := (hv.2.2.2.2.2.2.1 _ hp).1.2
  exact Nat.lt_of_le_of_lt (cG_le _) (by omega)
theorem bSam_lt (hv : Wf v) : ∀ p, p < v 0 4 → bSam v p < 2147483648 := fun p hp => by
  have := (hv.2.2.2.2.2.2.1 _ hp).1.2
  exact Nat.lt_of_le_of_lt (cG_le _) (by omega)
theorem bNee_lt : ∀ p, p < v 0 4 → bNee v p < 2147483648 := fun p hp => by
  unfold bNee
  rw [← lps_lst]
  exact Nat.lt_of_le_of_lt (lps_le _) (by decide)
theorem qSqk_q (hv : Wf v) : 0 ≤ (qSqk v x).toInt ∨ qSqk v x = -5 := by
  by_cases h : plb v x.toInt < v 0 4
  · have h5 := qSqk_lo hv x
    unfold qSqk at h5 ⊢
    rw [if_pos h] at h5 ⊢
    left
    have hsp : (v (13 + plb v x.toInt) 1 : Int) ≤ x.toInt ∧ x.toInt < (v (13 + plb v x.toInt) 1 : Int) + (v (13 + plb v x.toInt) 2 : Int) := lst_spec (n := v 0 4) h
    obtain ⟨bz, ba, bf9, b0, b1, bq⟩ := hv.2.2.2.2.2.2.1 _ h
    obtain ⟨j, hj, ej⟩ := nat_of (x := x) (n := 2000000) ⟨by omega, by omega⟩
    have etn : tn x = j := by rw [ej]; exact tn_nI (by omega)
    have eti : x.toInt = (j : Int) := by rw [ej]; exact nI_I (by omega)
    have := bq (tn x - v (13 + plb v x.toInt) 1) (by omega)
    exact nI_pos9 (by omega)
  · exact Or.inr (if_neg h)
theorem qBof_q (hv : Wf v) : 0 ≤ (qBof v x).toInt ∨ qBof v x = -5 := qN (fun h => by
  have := (hv.2.2.2.2.2.2.1 _ h).2.2.2.1
  omega)
theorem qNxt_q : 0 ≤ (qNxt v x y).toInt ∨ qNxt v x y = -1 := qN (fun h => by
  have : sqk v (tn x) (tn y) < 100 := Nat.mod_lt _ (by decide)
  omega)
theorem qPos_q : 0 ≤ (qPos v x).toInt ∨ qPos v x = -1 := qN (fun h => bst_lt v (tn x) 3)
theorem qMib_q (hv : Wf v) : 0 ≤ (qMib v x).toInt ∨ qMib v x = -1 := qN (fun h => by
  have := mib_le hv (m := tn x) (inR_tn h (by decide)) (n := v 0 4) (Nat.le_refl _)
  have := hv.2.2.1
  omega)
theorem qRnk_q (hv : Wf v) : 0 ≤ (qRnk v x).toInt ∨ qRnk v x = -5 := qN (fun h => by
  have := (hv.2.2.2.2.2.2.1 _ h).2.2.2.1
  omega)
theorem qW_q : 0 ≤ (if plc v x.toInt < v 0 4 then (0 : Int32) else -5).toInt ∨ (if plc v x.toInt < v 0 4 then (0 : Int32) else -5) = -5 := by
  by_cases h : plc v x.toInt < v 0 4
  · rw [if_pos h]; exact Or.inl (by decide)
  · rw [if_neg h]; exact Or.inr rfl
theorem qRb_q (hv : Wf v) : 0 ≤ (qRb v x).toInt ∨ qRb v x = -5 := qN (fun h => by
  obtain ⟨⟨b1, b2⟩, b3, b4, b5, b6, b7⟩ := hv.2.2.2.2.2.2.1 _ h
  have := btT_len (v := v) (p := plc v x.toInt) (n := v (13 + plc v x.toInt) 2) (fun k hk => Nat.lt_succ_of_le (b7 k hk)) _ (Nat.le_refl _)
  omega)
theorem qOut_q (hc : ∀ c ∈ S.2.2.2.2.1, c < 256) (hl : S.2.2.2.2.1.length ≤ 100) : 0 ≤ (qOut S x).toInt ∨ qOut S x = -1 := qN (fun h => by
  have h1 := inR_tn h (by omega)
  rw [getD_at h1]
  have := hc _ (List.getElem_mem h1)
  omega)
theorem qType_q {c : Nat} : 0 ≤ (qType S c).toInt ∨ qType S c = -2 ∨ qType S c = -3 := by
  unfold qType
  split
  · split
    · exact Or.inl (nI_pos9 (by omega))
    · exact Or.inr (Or.inr rfl)
  · exact Or.inr (Or.inl rfl)
theorem qRun_q : 0 ≤ (qRun S).toInt ∨ qRun S = -2 ∨ qRun S = -3 := by
  have hcl := pall_len (t := S.2.2.2.1) (f := 61) (p := 0)
  unfold qRun
  split
  · exact Or.inr (Or.inl rfl)
  · split
    · exact Or.inr (Or.inr rfl)
    · exact Or.inl (nI_pos9 (by show (pall S.2.2.2.1 61 0).2.2.length < _; omega))
theorem qErr_q {e : Int32} (h : e = -1 ∨ 0 ≤ e.toInt) : 0 ≤ (qErr e).toInt ∨ qErr e = -5 := by
  unfold qErr
  split
  · exact Or.inr rfl
  · rename_i q
    exact Or.inl (h.resolve_left q)
theorem qUndo_q (h : S.2.1.length ≤ 8) : 0 ≤ (qUndo S).toInt ∨ qUndo S = -3 := by
  obtain ⟨v, us, r⟩ := S
  cases us with
  | nil => exact Or.inr rfl
  | cons a us => exact Or.inl (nI_pos9 (by have : us.length + 1 ≤ 8 := h; omega))
theorem qRest_q (h : ∀ s, S.2.2.1 = some s → Wf s) : 0 ≤ (qRest S).toInt ∨ qRest S = -3 := by
  obtain ⟨v, us, sn, r⟩ := S
  cases sn with
  | none => exact Or.inr rfl
  | some s => exact Or.inl (nI_pos9 (by have := (h s rfl).2.2.1; omega))
end QS
