theorem nm_neg {n : Nat} (h : n < 1000000000) : (-(nI n)).toInt = -(n : Int) := by
  have h1 : -(nI n) = nI 0 - nI n := by
    show -(nI n) = 0 - nI n
    rw [Int32.zero_sub]
  rw [h1, pk_sub_toInt (by omega) (by omega)]
  omega
theorem nm_div {n k : Nat} (h : n < 1000000000) (hk : 0 < k) (hk9 : k < 1000) : -(nI n) / nI k = -(nI (n / k)) := by
  have h9 : n / k ≤ n := Nat.div_le_self n k
  apply Int32.toInt_inj.mp
  rw [Int32.toInt_div, nm_neg (by omega), nm_neg (by omega), nI_I (by omega), Int.neg_tdiv, ← Int.ofNat_tdiv]
  generalize n / k = w at h9 ⊢
  exact Int.bmod_eq_of_le (by omega) (by omega)
theorem nm_rem {n : Nat} : -(nI (n / 100)) * nI 100 - -(nI n) = nI (n % 100) := by
  have e : nI n = nI (n / 100) * nI 100 + nI (n % 100) := by
    rw [show nI (n / 100) * nI 100 = nI (n / 100 * 100) from (Int32.ofNat_mul _ _).symm, nI_add]
    congr 1; omega
  rw [e, Int32.neg_mul, Int32.sub_eq_add_neg, Int32.neg_neg, ← Int32.add_assoc, Int32.add_left_neg, Int32.zero_add]
theorem up1_c {f f' : Nat → Nat} {i i' x x' : Nat} (hf : f = f') (hi : i = i') (hx : x = x') : up1 f i x = up1 f' i' x' := by rw [hf, hi, hx]
/-- g with the last k digits of n written down to the place p -/
def WD (g : Nat → Nat) (p n : Nat) : Nat → Nat → Nat
  | 0 => g
  | k + 1 => up1 (WD g p n k) (p - (k + 1)) (48 + n / pw (k + 1) % 10)
theorem WD_low {g : Nat → Nat} {p n i : Nat} : ∀ {k : Nat}, k ≤ p → i < p - k → WD g p n k i = g i
  | 0, _, _ => rfl
  | k + 1, h, hi => by
    show up1 _ _ _ i = _
    rw [up1_ne (by omega), WD_low (by omega) (by omega)]
theorem WD_dg {g : Nat → Nat} {p n : Nat} : ∀ {k : Nat}, k ≤ p → ∀ j, (h : j < (dgk n k).length) → WD g p n k (p - k + j) = (dgk n k)[j]
  | 0, _, _, h => absurd h (Nat.not_lt_zero _)
  | k + 1, hk, 0, h => up1_s
  | k + 1, hk, j + 1, h => by
    have h9 : j < (dgk n k).length := Nat.lt_of_succ_lt_succ h
    show up1 _ _ _ _ = (dgk n k)[j]
    rw [up1_ne (by omega), show p - (k + 1) + (j + 1) = p - k + j by omega]
    exact WD_dg (by omega) j h9
theorem WD_byte {g : Nat → Nat} {p n i : Nat} (h : g i < 128) : ∀ {k : Nat}, WD g p n k i < 128
  | 0 => h
  | k + 1 => by
    show up1 _ _ _ i < 128
    unfold up1
    split
    · omega
    · exact WD_byte h
theorem LT_digits {g : Nat → Nat} {t : List Nat} {n : Nat} (h : LT g t) : LT (WD g (t.length + ndg n) n (ndg n)) (t ++ dgs n) := by
  intro i hi
  by_cases c : i < t.length
  · rw [List.getElem_append_left c, WD_low (by omega) (by omega)]
    exact h i c
  · have hi2 : i - t.length < (dgs n).length := by rw [List.length_append] at hi; omega
    rw [List.getElem_append_right (by omega)]
    have := WD_dg (g := g) (p := t.length + ndg n) (n := n) (k := ndg n) (by omega) (i - t.length) hi2
    rw [show t.length + ndg n - ndg n + (i - t.length) = i by omega] at this
    exact this
theorem SBp.digits {m c n : Nat} {g : Nat → Nat} {t : List Nat} (h : SBp m c g t) (hc : c + ndg n ≤ m) : SBp m (c + ndg n) (WD g (c + ndg n) n (ndg n)) (t ++ dgs n) := by
  obtain ⟨h1, h2, h3, h4, h5⟩ := h
  subst h1
  exact ⟨by rw [List.length_append, dgs_len], LT_digits h2, hc, h4, fun i hi => WD_byte (h5 i hi)⟩
set_option maxRecDepth 20000 in
set_option maxHeartbeats 1000000 in
theorem cJ_stringSize {l : Launch} {D : va_G} {cy : Nat → ClassId} {sa : Nat → Nat} {n : Nat} (hn : n < 100000) : MG l yJ6_stringSize_0f7a4 cJ6_stringSize_0f7a4 4 (some .int) 0 0 0 (D, cy, sa) [.int (nI n)] ([]) (fun w u => w = some (.int (nI (ndg n))) ∧ u = []) := by
  refine MG_by (own := RJ6) (L := [some (.int (nI n)), none, none, none]) (by decide +kernel) rfl rfl (Nat.le_of_ble_eq_true rfl) 3 rfl (fun X hX hE hnL hG hcy hnm => ?_)
  refine r_iconst (pc' := 1) (v := nI 1) hX dJ6_stringSize_0f7a4_0 rfl rfl ?_
  refine r_istore_n (L' := [some (.int (nI n)), some (.int (nI 1)), none, none]) (pc' := 2) hX dJ6_stringSize_0f7a4_1 (nlt hnL (by decide)) rfl rfl rfl ?_
  refine r_iload_n (pc' := 3) hX dJ6_stringSize_0f7a4_2 rfl rfl ?_
  refine r_if_lt_N (tgt := 11) (pc' := 6) hX dJ6_stringSize_0f7a4_3 (by decide) rfl (by omega) (fun c3 => ?_) (fun c3 => ?_)
  · exact absurd c3 (by omega)
  · refine r_iconst (pc' := 7) (v := nI 0) hX dJ6_stringSize_0f7a4_6 rfl rfl ?_
    refine r_istore_n (L' := [some (.int (nI n)), some (.int (nI 0)), none, none]) (pc' := 8) hX dJ6_stringSize_0f7a4_7 (nlt hnL (by decide)) rfl rfl rfl ?_
    refine r_iload_n (pc' := 9) hX dJ6_stringSize_0f7a4_8 rfl rfl ?_
    refine r_ineg (pc' := 10) hX dJ6_stringSize_0f7a4_9 rfl ?_
    refine r_istore_n (L' := [some (.int (-(nI n))), some (.int (nI 0)), none, none]) (pc' := 11) hX dJ6_stringSize_0f7a4_10 (nlt hnL (by decide)) rfl rfl rfl ?_
    refine r_bipush (pc' := 13) (v := (-10)) hX dJ6_stringSize_0f7a4_11 rfl rfl ?_
    refine r_istore_n (L' := [some (.int (-(nI n))), some (.int (nI 0)), some (.int (-10)), none]) (pc' := 14) hX dJ6_stringSize_0f7a4_13 (nlt hnL (by decide)) rfl rfl rfl ?_
    refine r_iconst (pc' := 15) (v := nI 1) hX dJ6_stringSize_0f7a4_14 rfl rfl ?_
    refine r_istore_n (L' := [some (.int (-(nI n))), some (.int (nI 0)), some (.int (-10)), some (.int (nI 1))]) (pc' := 16) hX dJ6_stringSize_0f7a4_15 (nlt hnL (by decide)) rfl rfl rfl ?_
    refine r_iload_n (pc' := 17) hX dJ6_stringSize_0f7a4_16 rfl rfl ?_
    refine r_bipush (pc' := 19) (v := nI 10) hX dJ6_stringSize_0f7a4_17 rfl rfl ?_
    refine r_icmp_ge_N (tgt := 42) (pc' := 22) hX dJ6_stringSize_0f7a4_19 (by decide) rfl (by omega) (by omega) (fun c19 => ?_) (fun c19 => ?_)
    · exact absurd c19 (by omega)
    · refine r_iload_n (pc' := 23) hX dJ6_stringSize_0f7a4_22 rfl rfl ?_
      refine r_iload_n (pc' := 24) hX dJ6_stringSize_0f7a4_23 rfl rfl ?_
      refine r_icmp_le_I (tgt := 31) (pc' := 27) hX dJ6_stringSize_0f7a4_24 (by decide) rfl (nm_neg (by omega)) (by decide : (-10 : Int32).toInt = -10) (fun c24 => ?_) (fun c24 => ?_)
      · refine r_bipush (pc' := 33) (v := nI 10) hX dJ6_stringSize_0f7a4_31 rfl rfl ?_
        refine r_iload_n (pc' := 34) hX dJ6_stringSize_0f7a4_33 rfl rfl ?_
        refine r_imul (pc' := 35) hX dJ6_stringSize_0f7a4_34 rfl ?_
        rw [show (((nI 10) * (-10)) : Int32) = (-100) from by decide]
        refine r_istore_n (L' := [some (.int (-(nI n))), some (.int (nI 0)), some (.int (-100)), some (.int (nI 1))]) (pc' := 36) hX dJ6_stringSize_0f7a4_35 (nlt hnL (by decide)) rfl rfl rfl ?_
        refine r_iinc_N (b := 1) (L' := [some (.int (-(nI n))), some (.int (nI 0)), some (.int (-100)), some (.int (nI 2))]) (pc' := 39) hX dJ6_stringSize_0f7a4_36 rfl (nlt hnL (by decide)) rfl rfl rfl ?_
        refine r_goto (tgt := 16) hX dJ6_stringSize_0f7a4_39 (by decide) ?_
        refine r_iload_n (pc' := 17) hX dJ6_stringSize_0f7a4_16 rfl rfl ?_
        refine r_bipush (pc' := 19) (v := nI 10) hX dJ6_stringSize_0f7a4_17 rfl rfl ?_
        refine r_icmp_ge_N (tgt := 42) (pc' := 22) hX dJ6_stringSize_0f7a4_19 (by decide) rfl (by omega) (by omega) (fun c19 => ?_) (fun c19 => ?_)
        · exact absurd c19 (by omega)
        · refine r_iload_n (pc' := 23) hX dJ6_stringSize_0f7a4_22 rfl rfl ?_
          refine r_iload_n (pc' := 24) hX dJ6_stringSize_0f7a4_23 rfl rfl ?_
          refine r_icmp_le_I (tgt := 31) (pc' := 27) hX dJ6_stringSize_0f7a4_24 (by decide) rfl (nm_neg (by omega)) (by decide : (-100 : Int32).toInt = -100) (fun c24 => ?_) (fun c24 => ?_)
          · refine r_bipush (pc' := 33) (v := nI 10) hX dJ6_stringSize_0f7a4_31 rfl rfl ?_
            refine r_iload_n (pc' := 34) hX dJ6_stringSize_0f7a4_33 rfl rfl ?_
            refine r_imul (pc' := 35) hX dJ6_stringSize_0f7a4_34 rfl ?_
            rw [show (((nI 10) * (-100)) : Int32) = (-1000) from by decide]
            refine r_istore_n (L' := [some (.int (-(nI n))), some (.int (nI 0)), some (.int (-1000)), some (.int (nI 2))]) (pc' := 36) hX dJ6_stringSize_0f7a4_35 (nlt hnL (by decide)) rfl rfl rfl ?_
            refine r_iinc_N (b := 1) (L' := [some (.int (-(nI n))), some (.int (nI 0)), some (.int (-1000)), some (.int (nI 3))]) (pc' := 39) hX dJ6_stringSize_0f7a4_36 rfl (nlt hnL (by decide)) rfl rfl rfl ?_
            refine r_goto (tgt := 16) hX dJ6_stringSize_0f7a4_39 (by decide) ?_
            refine r_iload_n (pc' := 17) hX dJ6_stringSize_0f7a4_16 rfl rfl ?_
            refine r_bipush (pc' := 19) (v := nI 10) hX dJ6_stringSize_0f7a4_17 rfl rfl ?_
            refine r_icmp_ge_N (tgt := 42) (pc' := 22) hX dJ6_stringSize_0f7a4_19 (by decide) rfl (by omega) (by omega) (fun c19 => ?_) (fun c19 => ?_)
            · exact absurd c19 (by omega)
            · refine r_iload_n (pc' := 23) hX dJ6_stringSize_0f7a4_22 rfl rfl ?_
              refine r_iload_n (pc' := 24) hX dJ6_stringSize_0f7a4_23 rfl rfl ?_
              refine r_icmp_le_I (tgt := 31) (pc' := 27) hX dJ6_stringSize_0f7a4_24 (by decide) rfl (nm_neg (by omega)) (by decide : (-1000 : Int32).toInt = -1000) (fun c24 => ?_) (fun c24 => ?_)
              · refine r_bipush (pc' := 33) (v := nI 10) hX dJ6_stringSize_0f7a4_31 rfl rfl ?_
                refine r_iload_n (pc' := 34) hX dJ6_stringSize_0f7a4_33 rfl rfl ?_
                refine r_imul (pc' := 35) hX dJ6_stringSize_0f7a4_34 rfl ?_
                rw [show (((nI 10) * (-1000)) : Int32) = (-10000) from by decide]
                refine r_istore_n (L' := [some (.int (-(nI n))), some (.int (nI 0)), some (.int (-10000)), some (.int (nI 3))]) (pc' := 36) hX dJ6_stringSize_0f7a4_35 (nlt hnL (by decide)) rfl rfl rfl ?_
                refine r_iinc_N (b := 1) (L' := [some (.int (-(nI n))), some (.int (nI 0)), some (.int (-10000)), some (.int (nI 4))]) (pc' := 39) hX dJ6_stringSize_0f7a4_36 rfl (nlt hnL (by decide)) rfl rfl rfl ?_
                refine r_goto (tgt := 16) hX dJ6_stringSize_0f7a4_39 (by decide) ?_
                refine r_iload_n (pc' := 17) hX dJ6_stringSize_0f7a4_16 rfl rfl ?_
                refine r_bipush (pc' := 19) (v := nI 10) hX dJ6_stringSize_0f7a4_17 rfl rfl ?_
                refine r_icmp_ge_N (tgt := 42) (pc' := 22) hX dJ6_stringSize_0f7a4_19 (by decide) rfl (by omega) (by omega) (fun c19 => ?_) (fun c19 => ?_)
                · exact absurd c19 (by omega)
                · refine r_iload_n (pc' := 23) hX dJ6_stringSize_0f7a4_22 rfl rfl ?_
                  refine r_iload_n (pc' := 24) hX dJ6_stringSize_0f7a4_23 rfl rfl ?_
                  refine r_icmp_le_I (tgt := 31) (pc' := 27) hX dJ6_stringSize_0f7a4_24 (by decide) rfl (nm_neg (by omega)) (by decide : (-10000 : Int32).toInt = -10000) (fun c24 => ?_) (fun c24 => ?_)
                  · refine r_bipush (pc' := 33) (v := nI 10) hX dJ6_stringSize_0f7a4_31 rfl rfl ?_
                    refine r_iload_n (pc' := 34) hX dJ6_stringSize_0f7a4_33 rfl rfl ?_
                    refine r_imul (pc' := 35) hX dJ6_stringSize_0f7a4_34 rfl ?_
                    rw [show (((nI 10) * (-10000)) : Int32) = (-100000) from by decide]
                    refine r_istore_n (L' := [some (.int (-(nI n))), some (.int (nI 0)), some (.int (-100000)), some (.int (nI 4))]) (pc' := 36) hX dJ6_stringSize_0f7a4_35 (nlt hnL (by decide)) rfl rfl rfl ?_
                    refine r_iinc_N (b := 1) (L' := [some (.int (-(nI n))), some (.int (nI 0)), some (.int (-100000)), some (.int (nI 5))]) (pc' := 39) hX dJ6_stringSize_0f7a4_36 rfl (nlt hnL (by decide)) rfl rfl rfl ?_
                    refine r_goto (tgt := 16) hX dJ6_stringSize_0f7a4_39 (by decide) ?_
                    refine r_iload_n (pc' := 17) hX dJ6_stringSize_0f7a4_16 rfl rfl ?_
                    refine r_bipush (pc' := 19) (v := nI 10) hX dJ6_stringSize_0f7a4_17 rfl rfl ?_
                    refine r_icmp_ge_N (tgt := 42) (pc' := 22) hX dJ6_stringSize_0f7a4_19 (by decide) rfl (by omega) (by omega) (fun c19 => ?_) (fun c19 => ?_)
                    · exact absurd c19 (by omega)
                    · refine r_iload_n (pc' := 23) hX dJ6_stringSize_0f7a4_22 rfl rfl ?_
                      refine r_iload_n (pc' := 24) hX dJ6_stringSize_0f7a4_23 rfl rfl ?_
                      refine r_icmp_le_I (tgt := 31) (pc' := 27) hX dJ6_stringSize_0f7a4_24 (by decide) rfl (nm_neg (by omega)) (by decide : (-100000 : Int32).toInt = -100000) (fun c24 => ?_) (fun c24 => ?_)
                      · exact absurd c24 (by omega)
                      · refine r_iload_n (pc' := 28) hX dJ6_stringSize_0f7a4_27 rfl rfl ?_
                        refine r_iload_n (pc' := 29) hX dJ6_stringSize_0f7a4_28 rfl rfl ?_
                        refine r_iadd_N (pc' := 30) hX dJ6_stringSize_0f7a4_29  rfl ?_
                        exact r_ireturn hX hE dJ6_stringSize_0f7a4_30 rfl ⟨rN (by unfold ndg; (repeat' split) <;> omega), rfl⟩ (by decide) (by decide)
                  · refine r_iload_n (pc' := 28) hX dJ6_stringSize_0f7a4_27 rfl rfl ?_
                    refine r_iload_n (pc' := 29) hX dJ6_stringSize_0f7a4_28 rfl rfl ?_
                    refine r_iadd_N (pc' := 30) hX dJ6_stringSize_0f7a4_29  rfl ?_
                    exact r_ireturn hX hE dJ6_stringSize_0f7a4_30 rfl ⟨rN (by unfold ndg; (repeat' split) <;> omega), rfl⟩ (by decide) (by decide)
              · refine r_iload_n (pc' := 28) hX dJ6_stringSize_0f7a4_27 rfl rfl ?_
                refine r_iload_n (pc' := 29) hX dJ6_stringSize_0f7a4_28 rfl rfl ?_
                refine r_iadd_N (pc' := 30) hX dJ6_stringSize_0f7a4_29  rfl ?_
                exact r_ireturn hX hE dJ6_stringSize_0f7a4_30 rfl ⟨rN (by unfold ndg; (repeat' split) <;> omega), rfl⟩ (by decide) (by decide)
          · refine r_iload_n (pc' := 28) hX dJ6_stringSize_0f7a4_27 rfl rfl ?_
            refine r_iload_n (pc' := 29) hX dJ6_stringSize_0f7a4_28 rfl rfl ?_
            refine r_iadd_N (pc' := 30) hX dJ6_stringSize_0f7a4_29  rfl ?_
            exact r_ireturn hX hE dJ6_stringSize_0f7a4_30 rfl ⟨rN (by unfold ndg; (repeat' split) <;> omega), rfl⟩ (by decide) (by decide)
      · refine r_iload_n (pc' := 28) hX dJ6_stringSize_0f7a4_27 rfl rfl ?_
        refine r_iload_n (pc' := 29) hX dJ6_stringSize_0f7a4_28 rfl rfl ?_
        refine r_iadd_N (pc' := 30) hX dJ6_stringSize_0f7a4_29  rfl ?_
        exact r_ireturn hX hE dJ6_stringSize_0f7a4_30 rfl ⟨rN (by unfold ndg; (repeat' split) <;> omega), rfl⟩ (by decide) (by decide)

set_option maxRecDepth 20000 in
set_option maxHeartbeats 1000000 in
theorem cJ_getChars {l : Launch} {D : va_G} {cy : Nat → ClassId} {sa : Nat → Nat} {q m n p : Nat} {g : Nat → Nat} (hn : n < 100000) (hp : ndg n ≤ p) (hp9 : p ≤ m) (hm : m ≤ 150) : MG l yJ6_getChars_ba4f3 cJ6_getChars_ba4f3 7 (some .int) 0 0 0 (D, cy, sa) [.int (nI n), .int (nI p), .ref q] ([(q, .inl (cy 2, aN m g))]) (fun w u => w = some (.int (nI (p - ndg n))) ∧ u = [(q, .inl (cy 2, aN m (WD g p n (ndg n))))]) := by
  refine MG_by (own := RJ6) (L := [some (.int (nI n)), some (.int (nI p)), some (.ref q), none, none, none, none]) (by decide +kernel) rfl rfl (Nat.le_of_ble_eq_true rfl) 4 rfl (fun X hX hE hnL hG hcy hnm => ?_)
  have hd1 : 1 ≤ ndg n ∧ (10 ≤ n → 2 ≤ ndg n) ∧ (100 ≤ n → 3 ≤ ndg n) ∧ (1000 ≤ n → 4 ≤ ndg n) ∧ (10000 ≤ n → 5 ≤ ndg n) := by
    refine ⟨(ndg_le n).1, ?_, ?_, ?_, ?_⟩ <;> (intro h9; unfold ndg; (repeat' split) <;> omega)
  refine r_iload_n (pc' := 1) hX dJ6_getChars_ba4f3_0 rfl rfl ?_
  refine r_istore (L' := [some (.int (nI n)), some (.int (nI p)), some (.ref q), none, none, some (.int (nI p)), none]) (pc' := 3) hX dJ6_getChars_ba4f3_1 (nlt hnL (by decide)) rfl rfl rfl ?_
  refine r_iload_n (pc' := 4) hX dJ6_getChars_ba4f3_3 rfl rfl ?_
  refine r_if_ge_N (tgt := 11) (pc' := 7) hX dJ6_getChars_ba4f3_4 (by decide) rfl (by omega) (fun c4 => ?_) (fun c4 => ?_)
  · refine r_iconst (pc' := 12) (v := nI 0) hX dJ6_getChars_ba4f3_11 rfl rfl ?_
    refine r_istore (L' := [some (.int (nI n)), some (.int (nI p)), some (.ref q), none, none, some (.int (nI p)), some (.int (nI 0))]) (pc' := 14) hX dJ6_getChars_ba4f3_12 (nlt hnL (by decide)) rfl rfl rfl ?_
    refine r_iload (pc' := 16) hX dJ6_getChars_ba4f3_14 rfl rfl ?_
    refine r_if_ne_N (tgt := 22) (pc' := 19) hX dJ6_getChars_ba4f3_16 (by decide) rfl (by omega) (fun c16 => ?_) (fun c16 => ?_)
    · exact absurd c16 (by omega)
    · refine r_iload_n (pc' := 20) hX dJ6_getChars_ba4f3_19 rfl rfl ?_
      refine r_ineg (pc' := 21) hX dJ6_getChars_ba4f3_20 rfl ?_
      refine r_istore_n (L' := [some (.int (-(nI n))), some (.int (nI p)), some (.ref q), none, none, some (.int (nI p)), some (.int (nI 0))]) (pc' := 22) hX dJ6_getChars_ba4f3_21 (nlt hnL (by decide)) rfl rfl rfl ?_
      refine r_iload_n (pc' := 23) hX dJ6_getChars_ba4f3_22 rfl rfl ?_
      refine r_bipush (pc' := 25) (v := (-100)) hX dJ6_getChars_ba4f3_23 rfl rfl ?_
      refine r_icmp_gt_I (tgt := 72) (pc' := 28) hX dJ6_getChars_ba4f3_25 (by decide) rfl (nm_neg (by omega)) (by decide : (-100 : Int32).toInt = -100) (fun c25 => ?_) (fun c25 => ?_)
      · refine r_aload_n (pc' := 73) hX dJ6_getChars_ba4f3_72 rfl rfl ?_
        refine r_iinc (v := nI (p - 1)) (L' := [some (.int (-(nI n))), some (.int (nI p)), some (.ref q), none, none, some (.int (nI (p - 1))), some (.int (nI 0))]) (pc' := 76) hX dJ6_getChars_ba4f3_73 rfl (iinc_sub (by decide) (by omega)) (nlt hnL (by decide)) rfl rfl rfl ?_
        refine r_iload (pc' := 78) hX dJ6_getChars_ba4f3_76 rfl rfl ?_
        refine r_gets (pc' := 81) (C := "java/lang/Integer") (n1 := "DigitOnes") (d1 := "[B") (v := .ref (sa 0)) hX dJ6_getChars_ba4f3_78 (by rw [hG]; exact fun _ _ _ z => z.2.1.1) (m4 (j := 197) rfl rfl) rfl ?_
        refine r_iload_n (pc' := 82) hX dJ6_getChars_ba4f3_81 rfl rfl ?_
        refine r_ineg (pc' := 83) hX dJ6_getChars_ba4f3_82 rfl ?_
        rw [show ((-(-(nI n))) : Int32) = nI n from Int32.neg_neg]
        refine r_tb (pc' := 84) hX dJ6_getChars_ba4f3_83 (by rw [hG]; exact fun _ _ _ z => z.2.1.2) (by omega) (by omega) rfl ?_
        change V X 0 0 ([(q, .inl (cy 2, aN m g))]) [some (.int (-(nI n))), some (.int (nI p)), some (.ref q), none, none, some (.int (nI (p - 1))), some (.int (nI 0))] [.int (nI (48 + n % 10)), .int (nI (p - 1)), .ref q] 84
        refine r_bast_N (ws' := [(q, .inl (cy 2, aN m (up1 g (p - 1) (48 + n % 10))))]) (pc' := 85) hX dJ6_getChars_ba4f3_84 (by rw [hcy]) 0 rfl (by omega) (by omega) (by omega) rfl rfl ?_
        refine r_iload_n (pc' := 86) hX dJ6_getChars_ba4f3_85 rfl rfl ?_
        refine r_bipush (pc' := 88) (v := (-9)) hX dJ6_getChars_ba4f3_86 rfl rfl ?_
        refine r_icmp_ge_I (tgt := 104) (pc' := 91) hX dJ6_getChars_ba4f3_88 (by decide) rfl (nm_neg (by omega)) (by decide : (-9 : Int32).toInt = -9) (fun c88 => ?_) (fun c88 => ?_)
        · refine r_iload (pc' := 106) hX dJ6_getChars_ba4f3_104 rfl rfl ?_
          refine r_if_eq_N (tgt := 118) (pc' := 109) hX dJ6_getChars_ba4f3_106 (by decide) rfl (by omega) (fun c106 => ?_) (fun c106 => ?_)
          · refine r_iload (pc' := 120) hX dJ6_getChars_ba4f3_118 rfl rfl ?_
            have ek : ndg n = 1 := by unfold ndg; (repeat' split) <;> omega
            exact r_ireturn hX hE dJ6_getChars_ba4f3_120 rfl ⟨rN (by omega), by rw [ek]; exact congrArg (fun g9 => [(q, Sum.inl (cy 2, aN m g9))]) (up1_c rfl (by show _ = p - 1; omega) (by show _ = 48 + n / 1 % 10; omega))⟩ (by decide) (by decide)
          · exact absurd c106 (by omega)
        · refine r_aload_n (pc' := 92) hX dJ6_getChars_ba4f3_91 rfl rfl ?_
          refine r_iinc (v := nI (p - 1 - 1)) (L' := [some (.int (-(nI n))), some (.int (nI p)), some (.ref q), none, none, some (.int (nI (p - 1 - 1))), some (.int (nI 0))]) (pc' := 95) hX dJ6_getChars_ba4f3_92 rfl (iinc_sub (by decide) (by omega)) (nlt hnL (by decide)) rfl rfl rfl ?_
          refine r_iload (pc' := 97) hX dJ6_getChars_ba4f3_95 rfl rfl ?_
          refine r_gets (pc' := 100) (C := "java/lang/Integer") (n1 := "DigitTens") (d1 := "[B") (v := .ref (sa 1)) hX dJ6_getChars_ba4f3_97 (by rw [hG]; exact fun _ _ _ z => z.2.2.1.1) (m4 (j := 199) rfl rfl) rfl ?_
          refine r_iload_n (pc' := 101) hX dJ6_getChars_ba4f3_100 rfl rfl ?_
          refine r_ineg (pc' := 102) hX dJ6_getChars_ba4f3_101 rfl ?_
          rw [show ((-(-(nI n))) : Int32) = nI n from Int32.neg_neg]
          refine r_tb (pc' := 103) hX dJ6_getChars_ba4f3_102 (by rw [hG]; exact fun _ _ _ z => z.2.2.1.2) (by omega) (by omega) rfl ?_
          change V X 0 0 ([(q, .inl (cy 2, aN m (up1 g (p - 1) (48 + n % 10))))]) [some (.int (-(nI n))), some (.int (nI p)), some (.ref q), none, none, some (.int (nI (p - 1 - 1))), some (.int (nI 0))] [.int (nI (48 + n / 10)), .int (nI (p - 1 - 1)), .ref q] 103
          refine r_bast_N (ws' := [(q, .inl (cy 2, aN m (up1 (up1 g (p - 1) (48 + n % 10)) (p - 1 - 1) (48 + n / 10))))]) (pc' := 104) hX dJ6_getChars_ba4f3_103 (by rw [hcy]) 0 rfl (by omega) (by omega) (by omega) rfl rfl ?_
          refine r_iload (pc' := 106) hX dJ6_getChars_ba4f3_104 rfl rfl ?_
          refine r_if_eq_N (tgt := 118) (pc' := 109) hX dJ6_getChars_ba4f3_106 (by decide) rfl (by omega) (fun c106 => ?_) (fun c106 => ?_)
          · refine r_iload (pc' := 120) hX dJ6_getChars_ba4f3_118 rfl rfl ?_
            have ek : ndg n = 2 := by unfold ndg; (repeat' split) <;> omega
            exact r_ireturn hX hE dJ6_getChars_ba4f3_120 rfl ⟨rN (by omega), by rw [ek]; exact congrArg (fun g9 => [(q, Sum.inl (cy 2, aN m g9))]) (up1_c (up1_c rfl (by show _ = p - 1; omega) (by show _ = 48 + n / 1 % 10; omega)) (by show _ = p - 2; omega) (by show _ = 48 + n / 10 % 10; omega))⟩ (by decide) (by decide)
          · exact absurd c106 (by omega)
      · refine r_iload_n (pc' := 29) hX dJ6_getChars_ba4f3_28 rfl rfl ?_
        refine r_bipush (pc' := 31) (v := nI 100) hX dJ6_getChars_ba4f3_29 rfl rfl ?_
        refine r_idiv (pc' := 32) hX dJ6_getChars_ba4f3_31 (by decide) rfl ?_
        rw [show (((-(nI n)) / (nI 100)) : Int32) = (-(nI (n / 100))) from nm_div (by omega) (by decide) (by decide)]
        refine r_istore_n (L' := [some (.int (-(nI n))), some (.int (nI p)), some (.ref q), some (.int (-(nI (n / 100)))), none, some (.int (nI p)), some (.int (nI 0))]) (pc' := 33) hX dJ6_getChars_ba4f3_32 (nlt hnL (by decide)) rfl rfl rfl ?_
        refine r_iload_n (pc' := 34) hX dJ6_getChars_ba4f3_33 rfl rfl ?_
        refine r_bipush (pc' := 36) (v := nI 100) hX dJ6_getChars_ba4f3_34 rfl rfl ?_
        refine r_imul (pc' := 37) hX dJ6_getChars_ba4f3_36 rfl ?_
        refine r_iload_n (pc' := 38) hX dJ6_getChars_ba4f3_37 rfl rfl ?_
        refine r_isub (pc' := 39) hX dJ6_getChars_ba4f3_38 rfl ?_
        rw [show ((((-(nI (n / 100))) * (nI 100)) - (-(nI n))) : Int32) = nI (n % 100) from nm_rem]
        refine r_istore (L' := [some (.int (-(nI n))), some (.int (nI p)), some (.ref q), some (.int (-(nI (n / 100)))), some (.int (nI (n % 100))), some (.int (nI p)), some (.int (nI 0))]) (pc' := 41) hX dJ6_getChars_ba4f3_39 (nlt hnL (by decide)) rfl rfl rfl ?_
        refine r_iload_n (pc' := 42) hX dJ6_getChars_ba4f3_41 rfl rfl ?_
        refine r_istore_n (L' := [some (.int (-(nI (n / 100)))), some (.int (nI p)), some (.ref q), some (.int (-(nI (n / 100)))), some (.int (nI (n % 100))), some (.int (nI p)), some (.int (nI 0))]) (pc' := 43) hX dJ6_getChars_ba4f3_42 (nlt hnL (by decide)) rfl rfl rfl ?_
        refine r_aload_n (pc' := 44) hX dJ6_getChars_ba4f3_43 rfl rfl ?_
        refine r_iinc (v := nI (p - 1)) (L' := [some (.int (-(nI (n / 100)))), some (.int (nI p)), some (.ref q), some (.int (-(nI (n / 100)))), some (.int (nI (n % 100))), some (.int (nI (p - 1))), some (.int (nI 0))]) (pc' := 47) hX dJ6_getChars_ba4f3_44 rfl (iinc_sub (by decide) (by omega)) (nlt hnL (by decide)) rfl rfl rfl ?_
        refine r_iload (pc' := 49) hX dJ6_getChars_ba4f3_47 rfl rfl ?_
        refine r_gets (pc' := 52) (C := "java/lang/Integer") (n1 := "DigitOnes") (d1 := "[B") (v := .ref (sa 0)) hX dJ6_getChars_ba4f3_49 (by rw [hG]; exact fun _ _ _ z => z.2.1.1) (m4 (j := 197) rfl rfl) rfl ?_
        refine r_iload (pc' := 54) hX dJ6_getChars_ba4f3_52 rfl rfl ?_
        refine r_tb (pc' := 55) hX dJ6_getChars_ba4f3_54 (by rw [hG]; exact fun _ _ _ z => z.2.1.2) (by omega) (by omega) rfl ?_
        change V X 0 0 ([(q, .inl (cy 2, aN m g))]) [some (.int (-(nI (n / 100)))), some (.int (nI p)), some (.ref q), some (.int (-(nI (n / 100)))), some (.int (nI (n % 100))), some (.int (nI (p - 1))), some (.int (nI 0))] [.int (nI (48 + (n % 100) % 10)), .int (nI (p - 1)), .ref q] 55
        refine r_bast_N (ws' := [(q, .inl (cy 2, aN m (up1 g (p - 1) (48 + (n % 100) % 10))))]) (pc' := 56) hX dJ6_getChars_ba4f3_55 (by rw [hcy]) 0 rfl (by omega) (by omega) (by omega) rfl rfl ?_
        refine r_aload_n (pc' := 57) hX dJ6_getChars_ba4f3_56 rfl rfl ?_
        refine r_iinc (v := nI (p - 1 - 1)) (L' := [some (.int (-(nI (n / 100)))), some (.int (nI p)), some (.ref q), some (.int (-(nI (n / 100)))), some (.int (nI (n % 100))), some (.int (nI (p - 1 - 1))), some (.int (nI 0))]) (pc' := 60) hX dJ6_getChars_ba4f3_57 rfl (iinc_sub (by decide) (by omega)) (nlt hnL (by decide)) rfl rfl rfl ?_
        refine r_iload (pc' := 62) hX dJ6_getChars_ba4f3_60 rfl rfl ?_
        refine r_gets (pc' := 65) (C := "java/lang/Integer") (n1 := "DigitTens") (d1 := "[B") (v := .ref (sa 1)) hX dJ6_getChars_ba4f3_62 (by rw [hG]; exact fun _ _ _ z => z.2.2.1.1) (m4 (j := 199) rfl rfl) rfl ?_
        refine r_iload (pc' := 67) hX dJ6_getChars_ba4f3_65 rfl rfl ?_
        refine r_tb (pc' := 68) hX dJ6_getChars_ba4f3_67 (by rw [hG]; exact fun _ _ _ z => z.2.2.1.2) (by omega) (by omega) rfl ?_
        change V X 0 0 ([(q, .inl (cy 2, aN m (up1 g (p - 1) (48 + (n % 100) % 10))))]) [some (.int (-(nI (n / 100)))), some (.int (nI p)), some (.ref q), some (.int (-(nI (n / 100)))), some (.int (nI (n % 100))), some (.int (nI (p - 1 - 1))), some (.int (nI 0))] [.int (nI (48 + (n % 100) / 10)), .int (nI (p - 1 - 1)), .ref q] 68
        refine r_bast_N (ws' := [(q, .inl (cy 2, aN m (up1 (up1 g (p - 1) (48 + (n % 100) % 10)) (p - 1 - 1) (48 + (n % 100) / 10))))]) (pc' := 69) hX dJ6_getChars_ba4f3_68 (by rw [hcy]) 0 rfl (by omega) (by omega) (by omega) rfl rfl ?_
        refine r_goto (tgt := 22) hX dJ6_getChars_ba4f3_69 (by decide) ?_
        refine r_iload_n (pc' := 23) hX dJ6_getChars_ba4f3_22 rfl rfl ?_
        refine r_bipush (pc' := 25) (v := (-100)) hX dJ6_getChars_ba4f3_23 rfl rfl ?_
        refine r_icmp_gt_I (tgt := 72) (pc' := 28) hX dJ6_getChars_ba4f3_25 (by decide) rfl (nm_neg (by omega)) (by decide : (-100 : Int32).toInt = -100) (fun c25 => ?_) (fun c25 => ?_)
        · refine r_aload_n (pc' := 73) hX dJ6_getChars_ba4f3_72 rfl rfl ?_
          refine r_iinc (v := nI (p - 1 - 1 - 1)) (L' := [some (.int (-(nI (n / 100)))), some (.int (nI p)), some (.ref q), some (.int (-(nI (n / 100)))), some (.int (nI (n % 100))), some (.int (nI (p - 1 - 1 - 1))), some (.int (nI 0))]) (pc' := 76) hX dJ6_getChars_ba4f3_73 rfl (iinc_sub (by decide) (by omega)) (nlt hnL (by decide)) rfl rfl rfl ?_
          refine r_iload (pc' := 78) hX dJ6_getChars_ba4f3_76 rfl rfl ?_
          refine r_gets (pc' := 81) (C := "java/lang/Integer") (n1 := "DigitOnes") (d1 := "[B") (v := .ref (sa 0)) hX dJ6_getChars_ba4f3_78 (by rw [hG]; exact fun _ _ _ z => z.2.1.1) (m4 (j := 197) rfl rfl) rfl ?_
          refine r_iload_n (pc' := 82) hX dJ6_getChars_ba4f3_81 rfl rfl ?_
          refine r_ineg (pc' := 83) hX dJ6_getChars_ba4f3_82 rfl ?_
          rw [show ((-(-(nI (n / 100)))) : Int32) = nI (n / 100) from Int32.neg_neg]
          refine r_tb (pc' := 84) hX dJ6_getChars_ba4f3_83 (by rw [hG]; exact fun _ _ _ z => z.2.1.2) (by omega) (by omega) rfl ?_
          change V X 0 0 ([(q, .inl (cy 2, aN m (up1 (up1 g (p - 1) (48 + (n % 100) % 10)) (p - 1 - 1) (48 + (n % 100) / 10))))]) [some (.int (-(nI (n / 100)))), some (.int (nI p)), some (.ref q), some (.int (-(nI (n / 100)))), some (.int (nI (n % 100))), some (.int (nI (p - 1 - 1 - 1))), some (.int (nI 0))] [.int (nI (48 + (n / 100) % 10)), .int (nI (p - 1 - 1 - 1)), .ref q] 84
          refine r_bast_N (ws' := [(q, .inl (cy 2, aN m (up1 (up1 (up1 g (p - 1) (48 + (n % 100) % 10)) (p - 1 - 1) (48 + (n % 100) / 10)) (p - 1 - 1 - 1) (48 + (n / 100) % 10))))]) (pc' := 85) hX dJ6_getChars_ba4f3_84 (by rw [hcy]) 0 rfl (by omega) (by omega) (by omega) rfl rfl ?_
          refine r_iload_n (pc' := 86) hX dJ6_getChars_ba4f3_85 rfl rfl ?_
          refine r_bipush (pc' := 88) (v := (-9)) hX dJ6_getChars_ba4f3_86 rfl rfl ?_
          refine r_icmp_ge_I (tgt := 104) (pc' := 91) hX dJ6_getChars_ba4f3_88 (by decide) rfl (nm_neg (by omega)) (by decide : (-9 : Int32).toInt = -9) (fun c88 => ?_) (fun c88 => ?_)
          · refine r_iload (pc' := 106) hX dJ6_getChars_ba4f3_104 rfl rfl ?_
            refine r_if_eq_N (tgt := 118) (pc' := 109) hX dJ6_getChars_ba4f3_106 (by decide) rfl (by omega) (fun c106 => ?_) (fun c106 => ?_)
            · refine r_iload (pc' := 120) hX dJ6_getChars_ba4f3_118 rfl rfl ?_
              have ek : ndg n = 3 := by unfold ndg; (repeat' split) <;> omega
              exact r_ireturn hX hE dJ6_getChars_ba4f3_120 rfl ⟨rN (by omega), by rw [ek]; exact congrArg (fun g9 => [(q, Sum.inl (cy 2, aN m g9))]) (up1_c (up1_c (up1_c rfl (by show _ = p - 1; omega) (by show _ = 48 + n / 1 % 10; omega)) (by show _ = p - 2; omega) (by show _ = 48 + n / 10 % 10; omega)) (by show _ = p - 3; omega) (by show _ = 48 + n / 100 % 10; omega))⟩ (by decide) (by decide)
            · exact absurd c106 (by omega)
          · refine r_aload_n (pc' := 92) hX dJ6_getChars_ba4f3_91 rfl rfl ?_
            refine r_iinc (v := nI (p - 1 - 1 - 1 - 1)) (L' := [some (.int (-(nI (n / 100)))), some (.int (nI p)), some (.ref q), some (.int (-(nI (n / 100)))), some (.int (nI (n % 100))), some (.int (nI (p - 1 - 1 - 1 - 1))), some (.int (nI 0))]) (pc' := 95) hX dJ6_getChars_ba4f3_92 rfl (iinc_sub (by decide) (by omega)) (nlt hnL (by decide)) rfl rfl rfl ?_
            refine r_iload (pc' := 97) hX dJ6_getChars_ba4f3_95 rfl rfl ?_
            refine r_gets (pc' := 100) (C := "java/lang/Integer") (n1 := "DigitTens") (d1 := "[B") (v := .ref (sa 1)) hX dJ6_getChars_ba4f3_97 (by rw [hG]; exact fun _ _ _ z => z.2.2.1.1) (m4 (j := 199) rfl rfl) rfl ?_
            refine r_iload_n (pc' := 101) hX dJ6_getChars_ba4f3_100 rfl rfl ?_
            refine r_ineg (pc' := 102) hX dJ6_getChars_ba4f3_101 rfl ?_
            rw [show ((-(-(nI (n / 100)))) : Int32) = nI (n / 100) from Int32.neg_neg]
            refine r_tb (pc' := 103) hX dJ6_getChars_ba4f3_102 (by rw [hG]; exact fun _ _ _ z => z.2.2.1.2) (by omega) (by omega) rfl ?_
            change V X 0 0 ([(q, .inl (cy 2, aN m (up1 (up1 (up1 g (p - 1) (48 + (n % 100) % 10)) (p - 1 - 1) (48 + (n % 100) / 10)) (p - 1 - 1 - 1) (48 + (n / 100) % 10))))]) [some (.int (-(nI (n / 100)))), some (.int (nI p)), some (.ref q), some (.int (-(nI (n / 100)))), some (.int (nI (n % 100))), some (.int (nI (p - 1 - 1 - 1 - 1))), some (.int (nI 0))] [.int (nI (48 + (n / 100) / 10)), .int (nI (p - 1 - 1 - 1 - 1)), .ref q] 103
            refine r_bast_N (ws' := [(q, .inl (cy 2, aN m (up1 (up1 (up1 (up1 g (p - 1) (48 + (n % 100) % 10)) (p - 1 - 1) (48 + (n % 100) / 10)) (p - 1 - 1 - 1) (48 + (n / 100) % 10)) (p - 1 - 1 - 1 - 1) (48 + (n / 100) / 10))))]) (pc' := 104) hX dJ6_getChars_ba4f3_103 (by rw [hcy]) 0 rfl (by omega) (by omega) (by omega) rfl rfl ?_
            refine r_iload (pc' := 106) hX dJ6_getChars_ba4f3_104 rfl rfl ?_
            refine r_if_eq_N (tgt := 118) (pc' := 109) hX dJ6_getChars_ba4f3_106 (by decide) rfl (by omega) (fun c106 => ?_) (fun c106 => ?_)
            · refine r_iload (pc' := 120) hX dJ6_getChars_ba4f3_118 rfl rfl ?_
              have ek : ndg n = 4 := by unfold ndg; (repeat' split) <;> omega
              exact r_ireturn hX hE dJ6_getChars_ba4f3_120 rfl ⟨rN (by omega), by rw [ek]; exact congrArg (fun g9 => [(q, Sum.inl (cy 2, aN m g9))]) (up1_c (up1_c (up1_c (up1_c rfl (by show _ = p - 1; omega) (by show _ = 48 + n / 1 % 10; omega)) (by show _ = p - 2; omega) (by show _ = 48 + n / 10 % 10; omega)) (by show _ = p - 3; omega) (by show _ = 48 + n / 100 % 10; omega)) (by show _ = p - 4; omega) (by show _ = 48 + n / 1000 % 10; omega))⟩ (by decide) (by decide)
            · exact absurd c106 (by omega)
        · refine r_iload_n (pc' := 29) hX dJ6_getChars_ba4f3_28 rfl rfl ?_
          refine r_bipush (pc' := 31) (v := nI 100) hX dJ6_getChars_ba4f3_29 rfl rfl ?_
          refine r_idiv (pc' := 32) hX dJ6_getChars_ba4f3_31 (by decide) rfl ?_
          rw [show (((-(nI (n / 100))) / (nI 100)) : Int32) = (-(nI ((n / 100) / 100))) from nm_div (by omega) (by decide) (by decide)]
          refine r_istore_n (L' := [some (.int (-(nI (n / 100)))), some (.int (nI p)), some (.ref q), some (.int (-(nI ((n / 100) / 100)))), some (.int (nI (n % 100))), some (.int (nI (p - 1 - 1))), some (.int (nI 0))]) (pc' := 33) hX dJ6_getChars_ba4f3_32 (nlt hnL (by decide)) rfl rfl rfl ?_
          refine r_iload_n (pc' := 34) hX dJ6_getChars_ba4f3_33 rfl rfl ?_
          refine r_bipush (pc' := 36) (v := nI 100) hX dJ6_getChars_ba4f3_34 rfl rfl ?_
          refine r_imul (pc' := 37) hX dJ6_getChars_ba4f3_36 rfl ?_
          refine r_iload_n (pc' := 38) hX dJ6_getChars_ba4f3_37 rfl rfl ?_
          refine r_isub (pc' := 39) hX dJ6_getChars_ba4f3_38 rfl ?_
          rw [show ((((-(nI ((n / 100) / 100))) * (nI 100)) - (-(nI (n / 100)))) : Int32) = nI ((n / 100) % 100) from nm_rem]
          refine r_istore (L' := [some (.int (-(nI (n / 100)))), some (.int (nI p)), some (.ref q), some (.int (-(nI ((n / 100) / 100)))), some (.int (nI ((n / 100) % 100))), some (.int (nI (p - 1 - 1))), some (.int (nI 0))]) (pc' := 41) hX dJ6_getChars_ba4f3_39 (nlt hnL (by decide)) rfl rfl rfl ?_
          refine r_iload_n (pc' := 42) hX dJ6_getChars_ba4f3_41 rfl rfl ?_
          refine r_istore_n (L' := [some (.int (-(nI ((n / 100) / 100)))), some (.int (nI p)), some (.ref q), some (.int (-(nI ((n / 100) / 100)))), some (.int (nI ((n / 100) % 100))), some (.int (nI (p - 1 - 1))), some (.int (nI 0))]) (pc' := 43) hX dJ6_getChars_ba4f3_42 (nlt hnL (by decide)) rfl rfl rfl ?_
          refine r_aload_n (pc' := 44) hX dJ6_getChars_ba4f3_43 rfl rfl ?_
          refine r_iinc (v := nI (p - 1 - 1 - 1)) (L' := [some (.int (-(nI ((n / 100) / 100)))), some (.int (nI p)), some (.ref q), some (.int (-(nI ((n / 100) / 100)))), some (.int (nI ((n / 100) % 100))), some (.int (nI (p - 1 - 1 - 1))), some (.int (nI 0))]) (pc' := 47) hX dJ6_getChars_ba4f3_44 rfl (iinc_sub (by decide) (by omega)) (nlt hnL (by decide)) rfl rfl rfl ?_
          refine r_iload (pc' := 49) hX dJ6_getChars_ba4f3_47 rfl rfl ?_
          refine r_gets (pc' := 52) (C := "java/lang/Integer") (n1 := "DigitOnes") (d1 := "[B") (v := .ref (sa 0)) hX dJ6_getChars_ba4f3_49 (by rw [hG]; exact fun _ _ _ z => z.2.1.1) (m4 (j := 197) rfl rfl) rfl ?_
          refine r_iload (pc' := 54) hX dJ6_getChars_ba4f3_52 rfl rfl ?_
          refine r_tb (pc' := 55) hX dJ6_getChars_ba4f3_54 (by rw [hG]; exact fun _ _ _ z => z.2.1.2) (by omega) (by omega) rfl ?_
          change V X 0 0 ([(q, .inl (cy 2, aN m (up1 (up1 g (p - 1) (48 + (n % 100) % 10)) (p - 1 - 1) (48 + (n % 100) / 10))))]) [some (.int (-(nI ((n / 100) / 100)))), some (.int (nI p)), some (.ref q), some (.int (-(nI ((n / 100) / 100)))), some (.int (nI ((n / 100) % 100))), some (.int (nI (p - 1 - 1 - 1))), some (.int (nI 0))] [.int (nI (48 + ((n / 100) % 100) % 10)), .int (nI (p - 1 - 1 - 1)), .ref q] 55
          refine r_bast_N (ws' := [(q, .inl (cy 2, aN m (up1 (up1 (up1 g (p - 1) (48 + (n % 100) % 10)) (p - 1 - 1) (48 + (n % 100) / 10)) (p - 1 - 1 - 1) (48 + ((n / 100) % 100) % 10))))]) (pc' := 56) hX dJ6_getChars_ba4f3_55 (by rw [hcy]) 0 rfl (by omega) (by omega) (by omega) rfl rfl ?_
          refine r_aload_n (pc' := 57) hX dJ6_getChars_ba4f3_56 rfl rfl ?_
          refine r_iinc (v := nI (p - 1 - 1 - 1 - 1)) (L' := [some (.int (-(nI ((n / 100) / 100)))), some (.int (nI p)), some (.ref q), some (.int (-(nI ((n / 100) / 100)))), some (.int (nI ((n / 100) % 100))), some (.int (nI (p - 1 - 1 - 1 - 1))), some (.int (nI 0))]) (pc' := 60) hX dJ6_getChars_ba4f3_57 rfl (iinc_sub (by decide) (by omega)) (nlt hnL (by decide)) rfl rfl rfl ?_
          refine r_iload (pc' := 62) hX dJ6_getChars_ba4f3_60 rfl rfl ?_
          refine r_gets (pc' := 65) (C := "java/lang/Integer") (n1 := "DigitTens") (d1 := "[B") (v := .ref (sa 1)) hX dJ6_getChars_ba4f3_62 (by rw [hG]; exact fun _ _ _ z => z.2.2.1.1) (m4 (j := 199) rfl rfl) rfl ?_
          refine r_iload (pc' := 67) hX dJ6_getChars_ba4f3_65 rfl rfl ?_
          refine r_tb (pc' := 68) hX dJ6_getChars_ba4f3_67 (by rw [hG]; exact fun _ _ _ z => z.2.2.1.2) (by omega) (by omega) rfl ?_
          change V X 0 0 ([(q, .inl (cy 2, aN m (up1 (up1 (up1 g (p - 1) (48 + (n % 100) % 10)) (p - 1 - 1) (48 + (n % 100) / 10)) (p - 1 - 1 - 1) (48 + ((n / 100) % 100) % 10))))]) [some (.int (-(nI ((n / 100) / 100)))), some (.int (nI p)), some (.ref q), some (.int (-(nI ((n / 100) / 100)))), some (.int (nI ((n / 100) % 100))), some (.int (nI (p - 1 - 1 - 1 - 1))), some (.int (nI 0))] [.int (nI (48 + ((n / 100) % 100) / 10)), .int (nI (p - 1 - 1 - 1 - 1)), .ref q] 68
          refine r_bast_N (ws' := [(q, .inl (cy 2, aN m (up1 (up1 (up1 (up1 g (p - 1) (48 + (n % 100) % 10)) (p - 1 - 1) (48 + (n % 100) / 10)) (p - 1 - 1 - 1) (48 + ((n / 100) % 100) % 10)) (p - 1 - 1 - 1 - 1) (48 + ((n / 100) % 100) / 10))))]) (pc' := 69) hX dJ6_getChars_ba4f3_68 (by rw [hcy]) 0 rfl (by omega) (by omega) (by omega) rfl rfl ?_
          refine r_goto (tgt := 22) hX dJ6_getChars_ba4f3_69 (by decide) ?_
          refine r_iload_n (pc' := 23) hX dJ6_getChars_ba4f3_22 rfl rfl ?_
          refine r_bipush (pc' := 25) (v := (-100)) hX dJ6_getChars_ba4f3_23 rfl rfl ?_
          refine r_icmp_gt_I (tgt := 72) (pc' := 28) hX dJ6_getChars_ba4f3_25 (by decide) rfl (nm_neg (by omega)) (by decide : (-100 : Int32).toInt = -100) (fun c25 => ?_) (fun c25 => ?_)
          · refine r_aload_n (pc' := 73) hX dJ6_getChars_ba4f3_72 rfl rfl ?_
            refine r_iinc (v := nI (p - 1 - 1 - 1 - 1 - 1)) (L' := [some (.int (-(nI ((n / 100) / 100)))), some (.int (nI p)), some (.ref q), some (.int (-(nI ((n / 100) / 100)))), some (.int (nI ((n / 100) % 100))), some (.int (nI (p - 1 - 1 - 1 - 1 - 1))), some (.int (nI 0))]) (pc' := 76) hX dJ6_getChars_ba4f3_73 rfl (iinc_sub (by decide) (by omega)) (nlt hnL (by decide)) rfl rfl rfl ?_
            refine r_iload (pc' := 78) hX dJ6_getChars_ba4f3_76 rfl rfl ?_
            refine r_gets (pc' := 81) (C := "java/lang/Integer") (n1 := "DigitOnes") (d1 := "[B") (v := .ref (sa 0)) hX dJ6_getChars_ba4f3_78 (by rw [hG]; exact fun _ _ _ z => z.2.1.1) (m4 (j := 197) rfl rfl) rfl ?_
            refine r_iload_n (pc' := 82) hX dJ6_getChars_ba4f3_81 rfl rfl ?_
            refine r_ineg (pc' := 83) hX dJ6_getChars_ba4f3_82 rfl ?_
            rw [show ((-(-(nI ((n / 100) / 100)))) : Int32) = nI ((n / 100) / 100) from Int32.neg_neg]
            refine r_tb (pc' := 84) hX dJ6_getChars_ba4f3_83 (by rw [hG]; exact fun _ _ _ z => z.2.1.2) (by omega) (by omega) rfl ?_
            change V X 0 0 ([(q, .inl (cy 2, aN m (up1 (up1 (up1 (up1 g (p - 1) (48 + (n % 100) % 10)) (p - 1 - 1) (48 + (n % 100) / 10)) (p - 1 - 1 - 1) (48 + ((n / 100) % 100) % 10)) (p - 1 - 1 - 1 - 1) (48 + ((n / 100) % 100) / 10))))]) [some (.int (-(nI ((n / 100) / 100)))), some (.int (nI p)), some (.ref q), some (.int (-(nI ((n / 100) / 100)))), some (.int (nI ((n / 100) % 100))), some (.int (nI (p - 1 - 1 - 1 - 1 - 1))), some (.int (nI 0))] [.int (nI (48 + ((n / 100) / 100) % 10)), .int (nI (p - 1 - 1 - 1 - 1 - 1)), .ref q] 84
            refine r_bast_N (ws' := [(q, .inl (cy 2, aN m (up1 (up1 (up1 (up1 (up1 g (p - 1) (48 + (n % 100) % 10)) (p - 1 - 1) (48 + (n % 100) / 10)) (p - 1 - 1 - 1) (48 + ((n / 100) % 100) % 10)) (p - 1 - 1 - 1 - 1) (48 + ((n / 100) % 100) / 10)) (p - 1 - 1 - 1 - 1 - 1) (48 + ((n / 100) / 100) % 10))))]) (pc' := 85) hX dJ6_getChars_ba4f3_84 (by rw [hcy]) 0 rfl (by omega) (by omega) (by omega) rfl rfl ?_
            refine r_iload_n (pc' := 86) hX dJ6_getChars_ba4f3_85 rfl rfl ?_
            refine r_bipush (pc' := 88) (v := (-9)) hX dJ6_getChars_ba4f3_86 rfl rfl ?_
            refine r_icmp_ge_I (tgt := 104) (pc' := 91) hX dJ6_getChars_ba4f3_88 (by decide) rfl (nm_neg (by omega)) (by decide : (-9 : Int32).toInt = -9) (fun c88 => ?_) (fun c88 => ?_)
            · refine r_iload (pc' := 106) hX dJ6_getChars_ba4f3_104 rfl rfl ?_
              refine r_if_eq_N (tgt := 118) (pc' := 109) hX dJ6_getChars_ba4f3_106 (by decide) rfl (by omega) (fun c106 => ?_) (fun c106 => ?_)
              · refine r_iload (pc' := 120) hX dJ6_getChars_ba4f3_118 rfl rfl ?_
                have ek : ndg n = 5 := by unfold ndg; (repeat' split) <;> omega
                exact r_ireturn hX hE dJ6_getChars_ba4f3_120 rfl ⟨rN (by omega), by rw [ek]; exact congrArg (fun g9 => [(q, Sum.inl (cy 2, aN m g9))]) (up1_c (up1_c (up1_c (up1_c (up1_c rfl (by show _ = p - 1; omega) (by show _ = 48 + n / 1 % 10; omega)) (by show _ = p - 2; omega) (by show _ = 48 + n / 10 % 10; omega)) (by show _ = p - 3; omega) (by show _ = 48 + n / 100 % 10; omega)) (by show _ = p - 4; omega) (by show _ = 48 + n / 1000 % 10; omega)) (by show _ = p - 5; omega) (by show _ = 48 + n / 10000 % 10; omega))⟩ (by decide) (by decide)
              · exact absurd c106 (by omega)
            · exact absurd c88 (by omega)
          · exact absurd c25 (by omega)
  · exact absurd c4 (by omega)

set_option maxRecDepth 20000 in
set_option maxHeartbeats 1000000 in
theorem cJ_appI5 {l : Launch} {D : va_G} {cy : Nat → ClassId} {sa : Nat → Nat} {a q m ml c : Nat} {g : Nat → Nat} {t : List Nat} (h : SBp m c g t) {n : Nat} (hn : n < 100000) (hc : c ≤ 65) : MG l yJ5_append_c97b9 cJ5_append_c97b9 4 (some (.object "java/lang/AbstractStringBuilder")) 4 1 150 (D, cy, sa) [.ref a, .int (nI n)] ((wSB cy a q m ml c g)) (fun w u => w = some (.ref a) ∧ ∃ (q1 m1 : Nat) (g1 : Nat → Nat), u = wSB cy a q1 m1 ml (c + ndg n) g1 ∧ SBp m1 (c + ndg n) g1 (t ++ dgs n)) := by
  refine MG_by (own := RJ5) (L := [some (.ref a), some (.int (nI n)), none, none]) (by decide +kernel) rfl rfl (Nat.le_of_ble_eq_true rfl) 2 rfl (fun X hX hE hnL hG hcy hnm => ?_)
  obtain ⟨e1, e2, e3⟩ := h.le
  have e4 := ndg_le n
  refine r_aload_n (pc' := 1) hX dJ5_append_c97b9_0 rfl rfl ?_
  refine r_get (pc' := 4) (v := .int (nI c)) hX dJ5_append_c97b9_1 f_J5_79 0 rfl rfl rfl ?_
  refine r_istore_n (L' := [some (.ref a), some (.int (nI n)), some (.int (nI c)), none]) (pc' := 5) hX dJ5_append_c97b9_4 (nlt hnL (by decide)) rfl rfl rfl ?_
  refine r_iload_n (pc' := 6) hX dJ5_append_c97b9_5 rfl rfl ?_
  refine r_iload_n (pc' := 7) hX dJ5_append_c97b9_6 rfl rfl ?_
  refine V_calln (k' := 0) (n' := 0) (pc' := 10) hX (r_runS (As := [.int (nI n)]) hX dJ5_append_c97b9_7 k_J5_245 (fun l9 hl9 => cJ_stringSize (by omega)) hG rfl rfl (Nat.le_of_ble_eq_true rfl) (by decide) (by decide) (by decide) (by decide)) rfl rfl rfl (fun w9 hp9 => ?_)
  obtain rfl := hp9
  change V X 0 0 ([(a, .inr (1, [.ref q, .int (nI 0), .int (nI ml), .int (nI c)])), (q, .inl (cy 2, aN m g))]) [some (.ref a), some (.int (nI n)), some (.int (nI c)), none] [.int (nI (ndg n)), .int (nI c)] 10
  refine r_iadd_N (pc' := 11) hX dJ5_append_c97b9_10  rfl ?_
  refine r_istore_n (L' := [some (.ref a), some (.int (nI n)), some (.int (nI c)), some (.int (nI (c + (ndg n))))]) (pc' := 12) hX dJ5_append_c97b9_11 (nlt hnL (by decide)) rfl rfl rfl ?_
  refine r_aload_n (pc' := 13) hX dJ5_append_c97b9_12 rfl rfl ?_
  refine r_iload_n (pc' := 14) hX dJ5_append_c97b9_13 rfl rfl ?_
  refine V_call0 (k' := 1) (n' := 150) (pc' := 17) hX (r_runP (As := [.int (nI (c + (ndg n)))]) hX dJ5_append_c97b9_14 kp_J5_100 (fun l9 hl9 => cJ_ensure (by assumption) (by omega)) hG ⟨1, _, TJ4, 4, List.mem_of_getElem? (l := ([(a, .inr (1, [.ref q, .int (nI 0), .int (nI ml), .int (nI c)])), (q, .inl (cy 2, aN m g))] : va_W)) (i := 0) rfl, rfl⟩ rfl rfl (Nat.le_of_ble_eq_true rfl) (by decide) (by decide) (by decide) (by decide)) rfl rfl rfl (fun w9 u9 hp9 => ?_)
  obtain ⟨rfl, q13, m13, g13, rfl, h3, z3⟩ := hp9
  change V X 1 150 ([(a, .inr (1, [.ref q13, .int (nI 0), .int (nI ml), .int (nI c)])), (q13, .inl (cy 2, aN m13 g13))]) [some (.ref a), some (.int (nI n)), some (.int (nI c)), some (.int (nI (c + (ndg n))))] [] 17
  obtain ⟨e11, e12, e13⟩ := h3.le
  refine r_aload_n (pc' := 18) hX dJ5_append_c97b9_17 rfl rfl ?_
  refine V_call0 (k' := 1) (n' := 150) (pc' := 21) hX (r_runU (As := []) hX dJ5_append_c97b9_18 ku_J5_83 (fun l9 hl9 => cJ_isLatin1) hG ⟨1, _, TJ4, 4, List.mem_of_getElem? (l := ([(a, .inr (1, [.ref q13, .int (nI 0), .int (nI ml), .int (nI c)])), (q13, .inl (cy 2, aN m13 g13))] : va_W)) (i := 0) rfl, rfl⟩ rfl rfl (Nat.le_of_ble_eq_true rfl) (by decide) (by decide) (by decide) (by decide)) rfl rfl rfl (fun w9 u9 hp9 => ?_)
  obtain ⟨rfl, rfl⟩ := hp9
  change V X 1 150 ([(a, .inr (1, [.ref q13, .int (nI 0), .int (nI ml), .int (nI c)])), (q13, .inl (cy 2, aN m13 g13))]) [some (.ref a), some (.int (nI n)), some (.int (nI c)), some (.int (nI (c + (ndg n))))] [.int (nI 1)] 21
  refine r_if_eq_N (tgt := 37) (pc' := 24) hX dJ5_append_c97b9_21 (by decide) rfl (by omega) (fun c21 => ?_) (fun c21 => ?_)
  · exact absurd c21 (by omega)
  · refine r_iload_n (pc' := 25) hX dJ5_append_c97b9_24 rfl rfl ?_
    refine r_iload_n (pc' := 26) hX dJ5_append_c97b9_25 rfl rfl ?_
    refine r_aload_n (pc' := 27) hX dJ5_append_c97b9_26 rfl rfl ?_
    refine r_get (pc' := 30) (v := .ref q13) hX dJ5_append_c97b9_27 f_J5_15 0 rfl rfl rfl ?_
    refine V_call (k' := 1) (n' := 150) (pc' := 33) (wr := ([(a, .inr (1, [.ref q13, .int (nI 0), .int (nI ml), .int (nI c)]))] : va_W)) hX (r_runS (As := [.int (nI n), .int (nI (c + (ndg n))), .ref q13]) hX dJ5_append_c97b9_30 k_J5_248 (fun l9 hl9 => cJ_getChars (by omega) (by omega) (by omega) (by omega)) hG rfl rfl (Nat.le_of_ble_eq_true rfl) (by decide) (by decide) (by decide) (by decide)) (er_perm (i := 1) rfl) rfl rfl rfl (fun w9 u9 hp9 => ?_)
    obtain ⟨rfl, rfl⟩ := hp9
    change V X 1 150 ([(q13, .inl (cy 2, aN m13 (WD g13 (c + (ndg n)) n (ndg n)))), (a, .inr (1, [.ref q13, .int (nI 0), .int (nI ml), .int (nI c)]))]) [some (.ref a), some (.int (nI n)), some (.int (nI c)), some (.int (nI (c + (ndg n))))] [.int (nI ((c + (ndg n)) - ndg n))] 33
    refine r_pop (pc' := 34) hX dJ5_append_c97b9_33 rfl rfl ?_
    refine r_goto (tgt := 48) hX dJ5_append_c97b9_34 (by decide) ?_
    refine r_aload_n (pc' := 49) hX dJ5_append_c97b9_48 rfl rfl ?_
    refine r_iload_n (pc' := 50) hX dJ5_append_c97b9_49 rfl rfl ?_
    refine r_put (ws' := [(q13, .inl (cy 2, aN m13 (WD g13 (c + (ndg n)) n (ndg n)))), (a, .inr (1, [.ref q13, .int (nI 0), .int (nI ml), .int (nI (c + (ndg n)))]))]) (pc' := 53) hX dJ5_append_c97b9_50 f_J5_79 fw_J4_3 1 rfl rfl rfl (Nat.le_of_ble_eq_true rfl) rfl rfl ?_
    refine r_aload_n (pc' := 54) hX dJ5_append_c97b9_53 rfl rfl ?_
    refine V_perm (List.Perm.swap _ _ []) ?_
    exact r_areturn hX hE dJ5_append_c97b9_54 rfl (Or.inl ⟨_, rfl⟩) (Or.inr ⟨_, rfl⟩) ⟨rfl, _, _, _, rfl, h3.digits (by omega)⟩ (by omega) (by omega)

set_option maxRecDepth 20000 in
set_option maxHeartbeats 1000000 in
theorem cJ_appI {l : Launch} {D : va_G} {cy : Nat → ClassId} {sa : Nat → Nat} {a q m ml c : Nat} {g : Nat → Nat} {t : List Nat} (h : SBp m c g t) {n : Nat} (hn : n < 100000) (hc : c ≤ 65) : MG l yJ4_append_bf812 cJ4_append_bf812 2 (some (.object "java/lang/StringBuilder")) 5 1 150 (D, cy, sa) [.ref a, .int (nI n)] ((wSB cy a q m ml c g)) (fun w u => w = some (.ref a) ∧ ∃ (q1 m1 : Nat) (g1 : Nat → Nat), u = wSB cy a q1 m1 ml (c + ndg n) g1 ∧ SBp m1 (c + ndg n) g1 (t ++ dgs n)) := by
  refine MG_by (own := RJ4) (L := [some (.ref a), some (.int (nI n))]) (by decide +kernel) rfl rfl (Nat.le_of_ble_eq_true rfl) 0 rfl (fun X hX hE hnL hG hcy hnm => ?_)
  refine r_aload_n (pc' := 1) hX dJ4_append_bf812_0 rfl rfl ?_
  refine r_iload_n (pc' := 2) hX dJ4_append_bf812_1 rfl rfl ?_
  refine V_call0 (k' := 1) (n' := 150) (pc' := 5) hX (r_runSU (As := [.int (nI n)]) hX dJ4_append_bf812_2 ksu_J4_53 (fun l9 hl9 => cJ_appI5 (by assumption) (by omega) (by omega)) hG ⟨1, _, TJ4, 4, List.mem_of_getElem? (l := ([(a, .inr (1, [.ref q, .int (nI 0), .int (nI ml), .int (nI c)])), (q, .inl (cy 2, aN m g))] : va_W)) (i := 0) rfl, rfl⟩ rfl rfl (Nat.le_of_ble_eq_true rfl) (by decide) (by decide) (by decide) (by decide)) rfl rfl rfl (fun w9 u9 hp9 => ?_)
  obtain ⟨rfl, q14, m14, g14, rfl, h4⟩ := hp9
  change V X 1 150 ([(a, .inr (1, [.ref q14, .int (nI 0), .int (nI ml), .int (nI (c + ndg n))])), (q14, .inl (cy 2, aN m14 g14))]) [some (.ref a), some (.int (nI n))] [.ref a] 5
  refine r_pop (pc' := 6) hX dJ4_append_bf812_5 rfl rfl ?_
  refine r_aload_n (pc' := 7) hX dJ4_append_bf812_6 rfl rfl ?_
  exact r_areturn hX hE dJ4_append_bf812_7 rfl (Or.inl ⟨_, rfl⟩) (Or.inr ⟨_, rfl⟩) ⟨rfl, _, _, _, rfl, h4⟩ (by omega) (by omega)
