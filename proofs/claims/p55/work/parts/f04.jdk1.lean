/-! ===== the JDK's text methods ===== -/
/-- a StringBuilder: object and bytes -/
def wSB (cy : Nat → ClassId) (a q m ml c : Nat) (g : Nat → Nat) : va_W := [(a, .inr (1, [.ref q, .int (nI 0), .int (nI ml), .int (nI c)])), (q, .inl (cy 2, aN m g))]
theorem fit_b {x : Nat} (h : x < 128) : fits .byte (.int (nI x)) = true := (by decide +kernel : ∀ y, y < 128 → fits .byte (.int (nI y)) = true) x h
set_option maxRecDepth 20000 in
set_option maxHeartbeats 1000000 in
theorem cJ_isLatin1 {l : Launch} {D : va_G} {cy : Nat → ClassId} {sa : Nat → Nat} {a q m ml c : Nat} {g : Nat → Nat} : MG l yJ5_isLatin1_aae02 cJ5_isLatin1_aae02 1 (some .boolean) 0 0 0 (D, cy, sa) [.ref a] ([(a, .inr (1, [.ref q, .int (nI 0), .int (nI ml), .int (nI c)])), (q, .inl (cy 2, aN m g))]) (fun w u => w = some (.int (nI 1)) ∧ u = [(a, .inr (1, [.ref q, .int (nI 0), .int (nI ml), .int (nI c)])), (q, .inl (cy 2, aN m g))]) := by
  refine MG_by (own := RJ5) (L := [some (.ref a)]) (by decide +kernel) rfl rfl (Nat.le_of_ble_eq_true rfl) 0 rfl (fun X hX hE hnL hG hcy hnm => ?_)
  refine r_gets (pc' := 3) (C := "java/lang/String") (n1 := "COMPACT_STRINGS") (d1 := "Z") (v := .int (nI 1)) hX dJ5_isLatin1_aae02_0 (by rw [hG]; exact fun _ _ _ z => z.1) (m1 (j := 159) rfl rfl) rfl ?_
  refine r_if_eq_N (tgt := 17) (pc' := 6) hX dJ5_isLatin1_aae02_3 (by decide) rfl (by omega) (fun c3 => ?_) (fun c3 => ?_)
  · exact absurd c3 (by omega)
  · refine r_aload_n (pc' := 7) hX dJ5_isLatin1_aae02_6 rfl rfl ?_
    refine r_get (pc' := 10) (v := .int (nI 0)) hX dJ5_isLatin1_aae02_7 f_J5_22 0 rfl rfl rfl ?_
    refine r_if_ne_N (tgt := 17) (pc' := 13) hX dJ5_isLatin1_aae02_10 (by decide) rfl (by omega) (fun c10 => ?_) (fun c10 => ?_)
    · exact absurd c10 (by omega)
    · refine r_iconst (pc' := 14) (v := nI 1) hX dJ5_isLatin1_aae02_13 rfl rfl ?_
      refine r_goto (tgt := 18) hX dJ5_isLatin1_aae02_14 (by decide) ?_
      exact r_zreturn hX hE dJ5_isLatin1_aae02_18 rfl rfl ⟨rfl, rfl⟩ (by decide) (by decide)

set_option maxRecDepth 20000 in
set_option maxHeartbeats 1000000 in
theorem cJ_canEncode {l : Launch} {D : va_G} {cy : Nat → ClassId} {sa : Nat → Nat} {x : Nat} (hx : x < 128) : MG l yJ1_canEncode_fc78d cJ1_canEncode_fc78d 1 (some .boolean) 0 0 0 (D, cy, sa) [.int (nI x)] ([]) (fun w u => w = some (.int (nI 1)) ∧ u = []) := by
  refine MG_by (own := RJ1) (L := [some (.int (nI x))]) (by decide +kernel) rfl rfl (Nat.le_of_ble_eq_true rfl) 0 rfl (fun X hX hE hnL hG hcy hnm => ?_)
  refine r_iload_n (pc' := 1) hX dJ1_canEncode_fc78d_0 rfl rfl ?_
  refine r_sipush (pc' := 4) (v := nI 255) hX dJ1_canEncode_fc78d_1 rfl rfl ?_
  refine r_icmp_gt_N (tgt := 11) (pc' := 7) hX dJ1_canEncode_fc78d_4 (by decide) rfl (by omega) (by omega) (fun c4 => ?_) (fun c4 => ?_)
  · exact absurd c4 (by omega)
  · refine r_iconst (pc' := 8) (v := nI 1) hX dJ1_canEncode_fc78d_7 rfl rfl ?_
    refine r_goto (tgt := 12) hX dJ1_canEncode_fc78d_8 (by decide) ?_
    exact r_zreturn hX hE dJ1_canEncode_fc78d_12 rfl rfl ⟨rfl, rfl⟩ (by decide) (by decide)

set_option maxRecDepth 20000 in
set_option maxHeartbeats 1000000 in
theorem cJ_newLength {l : Launch} {D : va_G} {cy : Nat → ClassId} {sa : Nat → Nat} {o x y : Nat} (ho : 0 < x) (h9 : o + max x y < 1000) : MG l yJ8_newLength_cabcc cJ8_newLength_cabcc 4 (some .int) 1 0 0 (D, cy, sa) [.int (nI o), .int (nI x), .int (nI y)] ([]) (fun w u => w = some (.int (nI (o + max x y))) ∧ u = []) := by
  refine MG_by (own := RJ8) (L := [some (.int (nI o)), some (.int (nI x)), some (.int (nI y)), none]) (by decide +kernel) rfl rfl (Nat.le_of_ble_eq_true rfl) 1 rfl (fun X hX hE hnL hG hcy hnm => ?_)
  refine r_iload_n (pc' := 1) hX dJ8_newLength_cabcc_0 rfl rfl ?_
  refine r_iload_n (pc' := 2) hX dJ8_newLength_cabcc_1 rfl rfl ?_
  refine r_iload_n (pc' := 3) hX dJ8_newLength_cabcc_2 rfl rfl ?_
  refine r_mmax (pc' := 6) hX dJ8_newLength_cabcc_3 k_J8_194 (by omega) (by omega) rfl (Nat.le_of_ble_eq_true rfl) (by decide) (by omega) (by omega) ?_
  refine r_iadd_N (pc' := 7) hX dJ8_newLength_cabcc_6  rfl ?_
  refine r_istore_n (L' := [some (.int (nI o)), some (.int (nI x)), some (.int (nI y)), some (.int (nI (o + (max x y))))]) (pc' := 8) hX dJ8_newLength_cabcc_7 (nlt hnL (by decide)) rfl rfl rfl ?_
  refine r_iconst (pc' := 9) (v := nI 0) hX dJ8_newLength_cabcc_8 rfl rfl ?_
  refine r_iload_n (pc' := 10) hX dJ8_newLength_cabcc_9 rfl rfl ?_
  refine r_icmp_ge_N (tgt := 21) (pc' := 13) hX dJ8_newLength_cabcc_10 (by decide) rfl (by omega) (by omega) (fun c10 => ?_) (fun c10 => ?_)
  · exact absurd c10 (by omega)
  · refine r_iload_n (pc' := 14) hX dJ8_newLength_cabcc_13 rfl rfl ?_
    refine r_ldc (pc' := 16) hX dJ8_newLength_cabcc_14 kc_J8_200 rfl ?_
    change V X 0 0 ([]) [some (.int (nI o)), some (.int (nI x)), some (.int (nI y)), some (.int (nI (o + (max x y))))] [.int (nI 2147483639), .int (nI (o + (max x y)))] 16
    refine r_icmp_gt_N (tgt := 21) (pc' := 19) hX dJ8_newLength_cabcc_16 (by decide) rfl (by omega) (by omega) (fun c16 => ?_) (fun c16 => ?_)
    · exact absurd c16 (by omega)
    · refine r_iload_n (pc' := 20) hX dJ8_newLength_cabcc_19 rfl rfl ?_
      exact r_ireturn hX hE dJ8_newLength_cabcc_20 rfl ⟨rfl, rfl⟩ (by decide) (by decide)

set_option maxRecDepth 20000 in
set_option maxHeartbeats 1000000 in
theorem cJ_newCapacity {l : Launch} {D : va_G} {cy : Nat → ClassId} {sa : Nat → Nat} {a q m ml c : Nat} {g : Nat → Nat} {z : Nat} (hz : m < z) (hm : m ≤ 150) (hz9 : z ≤ 300) : MG l yJ5_newCapacity_0f7a4 cJ5_newCapacity_0f7a4 6 (some .int) 2 0 0 (D, cy, sa) [.ref a, .int (nI z)] ([(a, .inr (1, [.ref q, .int (nI 0), .int (nI ml), .int (nI c)])), (q, .inl (cy 2, aN m g))]) (fun w u => w = some (.int (nI (m + max (z - m) (m + 2)))) ∧ u = [(a, .inr (1, [.ref q, .int (nI 0), .int (nI ml), .int (nI c)])), (q, .inl (cy 2, aN m g))]) := by
  refine MG_by (own := RJ5) (L := [some (.ref a), some (.int (nI z)), none, none, none, none]) (by decide +kernel) rfl rfl (Nat.le_of_ble_eq_true rfl) 4 rfl (fun X hX hE hnL hG hcy hnm => ?_)
  refine r_aload_n (pc' := 1) hX dJ5_newCapacity_0f7a4_0 rfl rfl ?_
  refine r_get (pc' := 4) (v := .ref q) hX dJ5_newCapacity_0f7a4_1 f_J5_15 0 rfl rfl rfl ?_
  refine r_alenN (n0 := m) (pc' := 5) hX dJ5_newCapacity_0f7a4_4 2 (by rw [hcy]; rfl) 1 rfl rfl ?_
  refine r_istore_n (L' := [some (.ref a), some (.int (nI z)), some (.int (nI m)), none, none, none]) (pc' := 6) hX dJ5_newCapacity_0f7a4_5 (nlt hnL (by decide)) rfl rfl rfl ?_
  refine r_iload_n (pc' := 7) hX dJ5_newCapacity_0f7a4_6 rfl rfl ?_
  refine r_aload_n (pc' := 8) hX dJ5_newCapacity_0f7a4_7 rfl rfl ?_
  refine r_get (pc' := 11) (v := .int (nI 0)) hX dJ5_newCapacity_0f7a4_8 f_J5_22 0 rfl rfl rfl ?_
  refine r_ishl_0 (pc' := 12) hX dJ5_newCapacity_0f7a4_11 rfl ?_
  refine r_istore_n (L' := [some (.ref a), some (.int (nI z)), some (.int (nI m)), some (.int (nI z)), none, none]) (pc' := 13) hX dJ5_newCapacity_0f7a4_12 (nlt hnL (by decide)) rfl rfl rfl ?_
  refine r_iload_n (pc' := 14) hX dJ5_newCapacity_0f7a4_13 rfl rfl ?_
  refine r_iload_n (pc' := 15) hX dJ5_newCapacity_0f7a4_14 rfl rfl ?_
  refine r_isub_N (pc' := 16) hX dJ5_newCapacity_0f7a4_15 (by omega) rfl ?_
  refine r_istore (L' := [some (.ref a), some (.int (nI z)), some (.int (nI m)), some (.int (nI z)), some (.int (nI (z - m))), none]) (pc' := 18) hX dJ5_newCapacity_0f7a4_16 (nlt hnL (by decide)) rfl rfl rfl ?_
  refine r_iload_n (pc' := 19) hX dJ5_newCapacity_0f7a4_18 rfl rfl ?_
  refine r_iload (pc' := 21) hX dJ5_newCapacity_0f7a4_19 rfl rfl ?_
  refine r_iload_n (pc' := 22) hX dJ5_newCapacity_0f7a4_21 rfl rfl ?_
  refine r_iconst (pc' := 23) (v := nI 2) hX dJ5_newCapacity_0f7a4_22 rfl rfl ?_
  refine r_aload_n (pc' := 24) hX dJ5_newCapacity_0f7a4_23 rfl rfl ?_
  refine r_get (pc' := 27) (v := .int (nI 0)) hX dJ5_newCapacity_0f7a4_24 f_J5_22 0 rfl rfl rfl ?_
  refine r_ishl_0 (pc' := 28) hX dJ5_newCapacity_0f7a4_27 rfl ?_
  refine r_iadd_N (pc' := 29) hX dJ5_newCapacity_0f7a4_28  rfl ?_
  refine V_calln (k' := 0) (n' := 0) (pc' := 32) hX (r_runS (As := [.int (nI m), .int (nI (z - m)), .int (nI (m + 2))]) hX dJ5_newCapacity_0f7a4_29 k_J5_114 (fun l9 hl9 => cJ_newLength (by omega) (by omega)) hG rfl rfl (Nat.le_of_ble_eq_true rfl) (by decide) (by decide) (by decide) (by decide)) rfl rfl rfl (fun w9 hp9 => ?_)
  obtain rfl := hp9
  change V X 0 0 ([(a, .inr (1, [.ref q, .int (nI 0), .int (nI ml), .int (nI c)])), (q, .inl (cy 2, aN m g))]) [some (.ref a), some (.int (nI z)), some (.int (nI m)), some (.int (nI z)), some (.int (nI (z - m))), none] [.int (nI (m + max (z - m) (m + 2)))] 32
  refine r_istore (L' := [some (.ref a), some (.int (nI z)), some (.int (nI m)), some (.int (nI z)), some (.int (nI (z - m))), some (.int (nI (m + max (z - m) (m + 2))))]) (pc' := 34) hX dJ5_newCapacity_0f7a4_32 (nlt hnL (by decide)) rfl rfl rfl ?_
  refine r_iload (pc' := 36) hX dJ5_newCapacity_0f7a4_34 rfl rfl ?_
  refine r_ldc (pc' := 38) hX dJ5_newCapacity_0f7a4_36 kc_J5_39 rfl ?_
  change V X 0 0 ([(a, .inr (1, [.ref q, .int (nI 0), .int (nI ml), .int (nI c)])), (q, .inl (cy 2, aN m g))]) [some (.ref a), some (.int (nI z)), some (.int (nI m)), some (.int (nI z)), some (.int (nI (z - m))), some (.int (nI (m + max (z - m) (m + 2))))] [.int (nI 2147483647), .int (nI (m + max (z - m) (m + 2)))] 38
  refine r_icmp_ne_N (tgt := 51) (pc' := 41) hX dJ5_newCapacity_0f7a4_38 (by decide) rfl (by omega) (by omega) (fun c38 => ?_) (fun c38 => ?_)
  · refine r_iload (pc' := 53) hX dJ5_newCapacity_0f7a4_51 rfl rfl ?_
    refine r_aload_n (pc' := 54) hX dJ5_newCapacity_0f7a4_53 rfl rfl ?_
    refine r_get (pc' := 57) (v := .int (nI 0)) hX dJ5_newCapacity_0f7a4_54 f_J5_22 0 rfl rfl rfl ?_
    refine r_ishr_0 (pc' := 58) hX dJ5_newCapacity_0f7a4_57 rfl ?_
    exact r_ireturn hX hE dJ5_newCapacity_0f7a4_58 rfl ⟨rfl, rfl⟩ (by decide) (by decide)
  · exact absurd c38 (by omega)

set_option maxRecDepth 20000 in
set_option maxHeartbeats 1000000 in
theorem cJ_copyOf {l : Launch} {D : va_G} {cy : Nat → ClassId} {sa : Nat → Nat} {q m z : Nat} {g : Nat → Nat} (hz : m < z) (hz9 : z ≤ 400) (hb : ∀ i, i < m → g i < 128) : MG l yJ7_copyOf_9075b cJ7_copyOf_9075b 3 (some (.array .byte)) 1 1 z (D, cy, sa) [.ref q, .int (nI z)] ([(q, .inl (cy 2, aN m g))]) (fun w u => ∃ b, w = some (.ref b) ∧ u = [(q, .inl (cy 2, aN m g)), (b, .inl (cy 2, aN z (cpy g 0 (fun _ => 0) 0 (min m z))))]) := by
  refine MG_by (own := RJ7) (L := [some (.ref q), some (.int (nI z)), none]) (by decide +kernel) rfl rfl (Nat.le_of_ble_eq_true rfl) 1 rfl (fun X hX hE hnL hG hcy hnm => ?_)
  refine r_iload_n (pc' := 1) hX dJ7_copyOf_9075b_0 rfl rfl ?_
  refine r_aload_n (pc' := 2) hX dJ7_copyOf_9075b_1 rfl rfl ?_
  refine r_alenN (n0 := m) (pc' := 3) hX dJ7_copyOf_9075b_2 2 (by rw [hcy]; rfl) 0 rfl rfl ?_
  refine r_icmp_ne_N (tgt := 14) (pc' := 6) hX dJ7_copyOf_9075b_3 (by decide) rfl (by omega) (by omega) (fun c3 => ?_) (fun c3 => ?_)
  · refine r_iload_n (pc' := 15) hX dJ7_copyOf_9075b_14 rfl rfl ?_
    refine r_newB (N := z) (k' := 1) (n' := z) (pc' := 17) hX dJ7_copyOf_9075b_15 hcy (by omega) (by omega) (by omega) (by omega) (by omega) rfl (fun q15 => ?_)
    change V X 1 z ([(q, .inl (cy 2, aN m g)), (q15, .inl (cy 2, aN z (fun _ => 0)))]) [some (.ref q), some (.int (nI z)), none] [.ref q15] 17
    refine r_astore_n (L' := [some (.ref q), some (.int (nI z)), some (.ref q15)]) (pc' := 18) hX dJ7_copyOf_9075b_17 (nlt hnL (by decide)) rfl rfl rfl ?_
    refine r_aload_n (pc' := 19) hX dJ7_copyOf_9075b_18 rfl rfl ?_
    refine r_iconst (pc' := 20) (v := nI 0) hX dJ7_copyOf_9075b_19 rfl rfl ?_
    refine r_aload_n (pc' := 21) hX dJ7_copyOf_9075b_20 rfl rfl ?_
    refine r_iconst (pc' := 22) (v := nI 0) hX dJ7_copyOf_9075b_21 rfl rfl ?_
    refine r_aload_n (pc' := 23) hX dJ7_copyOf_9075b_22 rfl rfl ?_
    refine r_alenN (n0 := m) (pc' := 24) hX dJ7_copyOf_9075b_23 2 (by rw [hcy]; rfl) 0 rfl rfl ?_
    refine r_iload_n (pc' := 25) hX dJ7_copyOf_9075b_24 rfl rfl ?_
    refine r_mmin (pc' := 28) hX dJ7_copyOf_9075b_25 k_J7_304 (by omega) (by omega) rfl (Nat.le_of_ble_eq_true rfl) (by decide) (by omega) (by omega) ?_
    refine r_acopy (q0 := 0) (q1 := 1) (t0 := 2) (ws' := [(q, .inl (cy 2, aN m g)), (q15, .inl (cy 2, aN z (cpy g 0 (fun _ => 0) 0 (min m z))))]) (pc' := 31) hX dJ7_copyOf_9075b_28 (m4 (j := 128) rfl rfl) (by rw [hcy]; rfl) rfl rfl rfl (by omega) (by omega) (by omega) (by omega) (fun i9 h9 => fit_b (hb _ (by omega))) (by decide) (Nat.le_of_ble_eq_true rfl) rfl rfl ?_
    refine r_aload_n (pc' := 32) hX dJ7_copyOf_9075b_31 rfl rfl ?_
    exact r_areturn hX hE dJ7_copyOf_9075b_32 rfl (Or.inr ⟨_, rfl⟩) (Or.inr ⟨_, rfl⟩) ⟨_, rfl, rfl⟩ (by omega) (by omega)
  · exact absurd c3 (by omega)
