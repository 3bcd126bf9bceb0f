/-! ===== the law's texts, and what a StringBuilder takes of them ===== -/
theorem ltx_b (i j : Nat) : (ltx i).getD j 0 < 128 := by
  by_cases hi : i < 17
  · have h := (by decide +kernel : ∀ i, i < 17 → ∀ c ∈ ltx i, c < 128) i hi
    by_cases hj : j < (ltx i).length
    · rw [getD_at hj]; exact h _ (List.getElem_mem hj)
    · rw [List.getD_eq_getElem?_getD, List.getElem?_eq_none (by omega)]; decide
  · have : ltx i = [] := by
      unfold ltx
      rw [List.getD_eq_getElem?_getD, List.getElem?_eq_none (by show 17 ≤ i; omega)]; rfl
    rw [this]; show (0 : Nat) < 128; decide
theorem ltx_n {i : Nat} (hi : i < 17) : (ltx i).length < 40 := (by decide +kernel : ∀ i, i < 17 → (ltx i).length < 40) i hi
set_option maxRecDepth 20000 in
set_option maxHeartbeats 1000000 in
theorem cT_coder {l : Launch} {D : va_G} {cy : Nat → ClassId} {sa : Nat → Nat} {i : Nat} (hi : i < 17) : MG l yJ0_coder_7d493 cJ0_coder_7d493 1 (some .byte) 0 0 0 (D, cy, sa) [.ref (sa (100 + i))] ([]) (fun w u => w = some (.int (nI 0)) ∧ u = []) := by
  refine MG_by (own := RJ0) (L := [some (.ref (sa (100 + i)))]) (by decide +kernel) rfl rfl (Nat.le_of_ble_eq_true rfl) 0 rfl (fun X hX hE hnL hG hcy hnm => ?_)
  refine r_gets (pc' := 3) (C := "java/lang/String") (n1 := "COMPACT_STRINGS") (d1 := "Z") (v := .int (nI 1)) hX dJ0_coder_7d493_0 (by rw [hG]; exact fun _ _ _ z => z.1) (m4 (j := 1) rfl rfl) rfl ?_
  refine r_if_eq_N (tgt := 13) (pc' := 6) hX dJ0_coder_7d493_3 (by decide) rfl (by omega) (fun c3 => ?_) (fun c3 => ?_)
  · exact absurd c3 (by omega)
  · refine r_aload_n (pc' := 7) hX dJ0_coder_7d493_6 rfl rfl ?_
    refine r_getO (pc' := 10) (C := "java/lang/String") (n1 := "coder") (d1 := "B") (v := .int (nI 0)) hX dJ0_coder_7d493_7 (by rw [hG]; exact fun _ _ _ z => (z.2.2.2.2.2.2.2.2.2.2.2.1 i (by omega)).2.1) (m5 (j := 17) rfl rfl) rfl ?_
    refine r_goto (tgt := 14) hX dJ0_coder_7d493_10 (by decide) ?_
    exact r_zreturn hX hE dJ0_coder_7d493_14 rfl rfl ⟨rfl, rfl⟩ (by decide) (by decide)

set_option maxRecDepth 20000 in
set_option maxHeartbeats 1000000 in
theorem cT_lat0 {l : Launch} {D : va_G} {cy : Nat → ClassId} {sa : Nat → Nat} {i : Nat} (hi : i < 17) : MG l yJ0_isLatin1_aae02 cJ0_isLatin1_aae02 1 (some .boolean) 0 0 0 (D, cy, sa) [.ref (sa (100 + i))] ([]) (fun w u => w = some (.int (nI 1)) ∧ u = []) := by
  refine MG_by (own := RJ0) (L := [some (.ref (sa (100 + i)))]) (by decide +kernel) rfl rfl (Nat.le_of_ble_eq_true rfl) 0 rfl (fun X hX hE hnL hG hcy hnm => ?_)
  refine r_gets (pc' := 3) (C := "java/lang/String") (n1 := "COMPACT_STRINGS") (d1 := "Z") (v := .int (nI 1)) hX dJ0_isLatin1_aae02_0 (by rw [hG]; exact fun _ _ _ z => z.1) (m4 (j := 1) rfl rfl) rfl ?_
  refine r_if_eq_N (tgt := 17) (pc' := 6) hX dJ0_isLatin1_aae02_3 (by decide) rfl (by omega) (fun c3 => ?_) (fun c3 => ?_)
  · exact absurd c3 (by omega)
  · refine r_aload_n (pc' := 7) hX dJ0_isLatin1_aae02_6 rfl rfl ?_
    refine r_getO (pc' := 10) (C := "java/lang/String") (n1 := "coder") (d1 := "B") (v := .int (nI 0)) hX dJ0_isLatin1_aae02_7 (by rw [hG]; exact fun _ _ _ z => (z.2.2.2.2.2.2.2.2.2.2.2.1 i (by omega)).2.1) (m5 (j := 17) rfl rfl) rfl ?_
    refine r_if_ne_N (tgt := 17) (pc' := 13) hX dJ0_isLatin1_aae02_10 (by decide) rfl (by omega) (fun c10 => ?_) (fun c10 => ?_)
    · exact absurd c10 (by omega)
    · refine r_iconst (pc' := 14) (v := nI 1) hX dJ0_isLatin1_aae02_13 rfl rfl ?_
      refine r_goto (tgt := 18) hX dJ0_isLatin1_aae02_14 (by decide) ?_
      exact r_zreturn hX hE dJ0_isLatin1_aae02_18 rfl rfl ⟨rfl, rfl⟩ (by decide) (by decide)

set_option maxRecDepth 20000 in
set_option maxHeartbeats 1000000 in
theorem cT_slen {l : Launch} {D : va_G} {cy : Nat → ClassId} {sa : Nat → Nat} {i : Nat} (hi : i < 17) : MG l yJ0_length_8abf5 cJ0_length_8abf5 1 (some .int) 1 0 0 (D, cy, sa) [.ref (sa (100 + i))] ([]) (fun w u => w = some (.int (nI (ltx i).length)) ∧ u = []) := by
  refine MG_by (own := RJ0) (L := [some (.ref (sa (100 + i)))]) (by decide +kernel) rfl rfl (Nat.le_of_ble_eq_true rfl) 0 rfl (fun X hX hE hnL hG hcy hnm => ?_)
  refine r_aload_n (pc' := 1) hX dJ0_length_8abf5_0 rfl rfl ?_
  refine r_getO (pc' := 4) (C := "java/lang/String") (n1 := "value") (d1 := "[B") (v := .ref (sa (150 + i))) hX dJ0_length_8abf5_1 (by rw [hG]; exact fun _ _ _ z => (z.2.2.2.2.2.2.2.2.2.2.2.1 i (by omega)).2.2.1) (m5 (j := 16) rfl rfl) rfl ?_
  refine r_tl (pc' := 5) hX dJ0_length_8abf5_4 (by rw [hG]; exact fun _ _ _ z => (z.2.2.2.2.2.2.2.2.2.2.2.1 i (by omega)).2.2.2.1) rfl ?_
  refine r_aload_n (pc' := 6) hX dJ0_length_8abf5_5 rfl rfl ?_
  refine V_calln (k' := 0) (n' := 0) (pc' := 9) hX (r_runVO (As := []) hX dJ0_length_8abf5_6 k_J0_335 (fun l9 hl9 => cT_coder (by omega)) hG (by rw [hG]; exact fun _ _ _ z => (z.2.2.2.2.2.2.2.2.2.2.2.1 i (by omega)).1) rfl rfl (Nat.le_of_ble_eq_true rfl) (by decide) (by decide) (by decide) (by decide)) rfl rfl rfl (fun w9 hp9 => ?_)
  obtain rfl := hp9
  change V X 0 0 ([]) [some (.ref (sa (100 + i)))] [.int (nI 0), .int (nI ((ltx i).length))] 9
  refine r_ishr_0 (pc' := 10) hX dJ0_length_8abf5_9 rfl ?_
  exact r_ireturn hX hE dJ0_length_8abf5_10 rfl ⟨rfl, rfl⟩ (by decide) (by decide)

set_option maxRecDepth 20000 in
set_option maxHeartbeats 1000000 in
theorem cT_at1 {l : Launch} {D : va_G} {cy : Nat → ClassId} {sa : Nat → Nat} {i j : Nat} (hi : i < 17) (hj : j < (ltx i).length) : MG l yJ1_charAt_3b067 cJ1_charAt_3b067 2 (some .char) 2 0 0 (D, cy, sa) [.ref (sa (150 + i)), .int (nI j)] ([]) (fun w u => w = some (.int (nI ((ltx i).getD j 0))) ∧ u = []) := by
  refine MG_by (own := RJ1) (L := [some (.ref (sa (150 + i))), some (.int (nI j))]) (by decide +kernel) rfl rfl (Nat.le_of_ble_eq_true rfl) 0 rfl (fun X hX hE hnL hG hcy hnm => ?_)
  have hfn := ltx_n hi
  have hfb := ltx_b i j
  refine r_iload_n (pc' := 1) hX dJ1_charAt_3b067_0 rfl rfl ?_
  refine r_aload_n (pc' := 2) hX dJ1_charAt_3b067_1 rfl rfl ?_
  refine r_tl (pc' := 3) hX dJ1_charAt_3b067_2 (by rw [hG]; exact fun _ _ _ z => (z.2.2.2.2.2.2.2.2.2.2.2.1 i (by omega)).2.2.2.1) rfl ?_
  refine V_calln (k' := 0) (n' := 0) (pc' := 6) hX (r_runS (As := [.int (nI j), .int (nI ((ltx i).length))]) hX dJ1_charAt_3b067_3 k_J1_9 (fun l9 hl9 => cJ_chk (by omega) (by omega)) hG rfl rfl (Nat.le_of_ble_eq_true rfl) (by decide) (by decide) (by decide) (by decide)) rfl rfl rfl (fun w9 hp9 => ?_)
  obtain rfl := hp9
  change V X 0 0 ([]) [some (.ref (sa (150 + i))), some (.int (nI j))] [] 6
  refine r_aload_n (pc' := 7) hX dJ1_charAt_3b067_6 rfl rfl ?_
  refine r_iload_n (pc' := 8) hX dJ1_charAt_3b067_7 rfl rfl ?_
  refine r_tb (pc' := 9) hX dJ1_charAt_3b067_8 (by rw [hG]; exact fun _ _ _ z => (z.2.2.2.2.2.2.2.2.2.2.2.1 i (by omega)).2.2.2.1) (by omega) (by omega) rfl ?_
  change V X 0 0 ([]) [some (.ref (sa (150 + i))), some (.int (nI j))] [.int (nI ((ltx i).getD j 0))] 9
  refine r_sipush (pc' := 12) (v := nI 255) hX dJ1_charAt_3b067_9 rfl rfl ?_
  refine r_iand_255 (pc' := 13) hX dJ1_charAt_3b067_12 (by omega) rfl ?_
  refine r_i2c_N (pc' := 14) hX dJ1_charAt_3b067_13 (by omega) rfl ?_
  exact r_zreturn hX hE dJ1_charAt_3b067_14 rfl ((pk_charN (by omega)).1) ⟨rfl, rfl⟩ (by decide) (by decide)

set_option maxRecDepth 20000 in
set_option maxHeartbeats 1000000 in
theorem cT_sat {l : Launch} {D : va_G} {cy : Nat → ClassId} {sa : Nat → Nat} {i j : Nat} (hi : i < 17) (hj : j < (ltx i).length) : MG l yJ0_charAt_5068e cJ0_charAt_5068e 2 (some .char) 3 0 0 (D, cy, sa) [.ref (sa (100 + i)), .int (nI j)] ([]) (fun w u => w = some (.int (nI ((ltx i).getD j 0))) ∧ u = []) := by
  refine MG_by (own := RJ0) (L := [some (.ref (sa (100 + i))), some (.int (nI j))]) (by decide +kernel) rfl rfl (Nat.le_of_ble_eq_true rfl) 0 rfl (fun X hX hE hnL hG hcy hnm => ?_)
  have hfb := ltx_b i j
  refine r_aload_n (pc' := 1) hX dJ0_charAt_5068e_0 rfl rfl ?_
  refine V_calln (k' := 0) (n' := 0) (pc' := 4) hX (r_runVO (As := []) hX dJ0_charAt_5068e_1 k_J0_492 (fun l9 hl9 => cT_lat0 (by omega)) hG (by rw [hG]; exact fun _ _ _ z => (z.2.2.2.2.2.2.2.2.2.2.2.1 i (by omega)).1) rfl rfl (Nat.le_of_ble_eq_true rfl) (by decide) (by decide) (by decide) (by decide)) rfl rfl rfl (fun w9 hp9 => ?_)
  obtain rfl := hp9
  change V X 0 0 ([]) [some (.ref (sa (100 + i))), some (.int (nI j))] [.int (nI 1)] 4
  refine r_if_eq_N (tgt := 16) (pc' := 7) hX dJ0_charAt_5068e_4 (by decide) rfl (by omega) (fun c4 => ?_) (fun c4 => ?_)
  · exact absurd c4 (by omega)
  · refine r_aload_n (pc' := 8) hX dJ0_charAt_5068e_7 rfl rfl ?_
    refine r_getO (pc' := 11) (C := "java/lang/String") (n1 := "value") (d1 := "[B") (v := .ref (sa (150 + i))) hX dJ0_charAt_5068e_8 (by rw [hG]; exact fun _ _ _ z => (z.2.2.2.2.2.2.2.2.2.2.2.1 i (by omega)).2.2.1) (m5 (j := 16) rfl rfl) rfl ?_
    refine r_iload_n (pc' := 12) hX dJ0_charAt_5068e_11 rfl rfl ?_
    refine V_calln (k' := 0) (n' := 0) (pc' := 15) hX (r_runS (As := [.ref (sa (150 + i)), .int (nI j)]) hX dJ0_charAt_5068e_12 k_J0_495 (fun l9 hl9 => cT_at1 (by omega) (by omega)) hG rfl rfl (Nat.le_of_ble_eq_true rfl) (by decide) (by decide) (by decide) (by decide)) rfl rfl rfl (fun w9 hp9 => ?_)
    obtain rfl := hp9
    change V X 0 0 ([]) [some (.ref (sa (100 + i))), some (.int (nI j))] [.int (nI ((ltx i).getD j 0))] 15
    exact r_zreturn hX hE dJ0_charAt_5068e_15 rfl ((pk_charN (by omega)).1) ⟨rfl, rfl⟩ (by decide) (by decide)

theorem SBp.text {m c : Nat} {g : Nat → Nat} {t s9 : List Nat} (h : SBp m c g t) (hm : c + s9.length ≤ m) (hs : ∀ x ∈ s9, x < 128) : SBp m (c + s9.length) (cpy (fun j => s9.getD j 0) 0 g c s9.length) (t ++ s9) := by
  obtain ⟨h1, h2, h3, h4, h5⟩ := h
  refine ⟨by rw [List.length_append, h1], fun i hi => ?_, hm, h4, fun i hi => ?_⟩
  · rw [List.length_append] at hi
    unfold cpy
    by_cases c0 : i < t.length
    · rw [if_neg (by omega), List.getElem_append_left c0]
      exact h2 i c0
    · rw [if_pos (by omega), List.getElem_append_right (by omega)]
      show s9.getD (0 + (i - c)) 0 = _
      rw [show 0 + (i - c) = i - t.length by omega, getD_at (by omega)]
  · unfold cpy
    by_cases c0 : c ≤ i ∧ i < c + s9.length
    · rw [if_pos c0]
      show s9.getD (0 + (i - c)) 0 < 128
      rw [show 0 + (i - c) = i - c by omega, getD_at (by omega)]
      exact hs _ (List.getElem_mem _)
    · rw [if_neg c0]
      exact h5 i hi
theorem ltx_m {i : Nat} : ∀ x ∈ ltx i, x < 128 := by
  intro x hx
  obtain ⟨j, hj, e⟩ := List.getElem_of_mem hx
  have := ltx_b i j
  rw [getD_at hj] at this
  omega
set_option maxRecDepth 20000 in
set_option maxHeartbeats 1000000 in
theorem cT_infl {l : Launch} {D : va_G} {cy : Nat → ClassId} {sa : Nat → Nat} {a q m ml c : Nat} {g : Nat → Nat} {i : Nat} (hi : i < 17) : MG l yJ5_inflateIfNeededFor_a7421 cJ5_inflateIfNeededFor_a7421 2 none 1 0 0 (D, cy, sa) [.ref a, .ref (sa (100 + i))] ((wSB cy a q m ml c g)) (fun w u => w = none ∧ u = wSB cy a q m ml c g) := by
  refine MG_by (own := RJ5) (L := [some (.ref a), some (.ref (sa (100 + i)))]) (by decide +kernel) rfl rfl (Nat.le_of_ble_eq_true rfl) 0 rfl (fun X hX hE hnL hG hcy hnm => ?_)
  refine r_gets (pc' := 3) (C := "java/lang/String") (n1 := "COMPACT_STRINGS") (d1 := "Z") (v := .int (nI 1)) hX dJ5_inflateIfNeededFor_a7421_0 (by rw [hG]; exact fun _ _ _ z => z.1) (m1 (j := 159) rfl rfl) rfl ?_
  refine r_if_eq_N (tgt := 21) (pc' := 6) hX dJ5_inflateIfNeededFor_a7421_3 (by decide) rfl (by omega) (fun c3 => ?_) (fun c3 => ?_)
  · exact absurd c3 (by omega)
  · refine r_aload_n (pc' := 7) hX dJ5_inflateIfNeededFor_a7421_6 rfl rfl ?_
    refine r_get (pc' := 10) (v := .int (nI 0)) hX dJ5_inflateIfNeededFor_a7421_7 f_J5_22 0 rfl rfl rfl ?_
    refine r_aload_n (pc' := 11) hX dJ5_inflateIfNeededFor_a7421_10 rfl rfl ?_
    refine V_calln (k' := 0) (n' := 0) (pc' := 14) hX (r_runVO (As := []) hX dJ5_inflateIfNeededFor_a7421_11 k_J5_40 (fun l9 hl9 => cT_coder (by omega)) hG (by rw [hG]; exact fun _ _ _ z => (z.2.2.2.2.2.2.2.2.2.2.2.1 i (by omega)).1) rfl rfl (Nat.le_of_ble_eq_true rfl) (by decide) (by decide) (by decide) (by decide)) rfl rfl rfl (fun w9 hp9 => ?_)
    obtain rfl := hp9
    change V X 0 0 ([(a, .inr (1, [.ref q, .int (nI 0), .int (nI ml), .int (nI c)])), (q, .inl (cy 2, aN m g))]) [some (.ref a), some (.ref (sa (100 + i)))] [.int (nI 0), .int (nI 0)] 14
    refine r_icmp_eq_N (tgt := 21) (pc' := 17) hX dJ5_inflateIfNeededFor_a7421_14 (by decide) rfl (by omega) (by omega) (fun c14 => ?_) (fun c14 => ?_)
    · exact r_vreturn hX hE dJ5_inflateIfNeededFor_a7421_21 rfl ⟨rfl, rfl⟩ (by decide) (by decide)
    · exact absurd c14 (by omega)

set_option maxRecDepth 20000 in
set_option maxHeartbeats 1000000 in
theorem cT_getB {l : Launch} {D : va_G} {cy : Nat → ClassId} {sa : Nat → Nat} {q m c : Nat} {g : Nat → Nat} {i : Nat} (hi : i < 17) (hm : m ≤ 150) (hc : c + (ltx i).length ≤ m) : MG l yJ0_getBytes_840e7 cJ0_getBytes_840e7 4 none 1 0 0 (D, cy, sa) [.ref (sa (100 + i)), .ref q, .int (nI c), .int (nI 0)] ([(q, .inl (cy 2, aN m g))]) (fun w u => w = none ∧ u = [(q, .inl (cy 2, aN m (cpy (fun j => (ltx i).getD j 0) 0 g c (ltx i).length)))]) := by
  refine MG_by (own := RJ0) (L := [some (.ref (sa (100 + i))), some (.ref q), some (.int (nI c)), some (.int (nI 0))]) (by decide +kernel) rfl rfl (Nat.le_of_ble_eq_true rfl) 0 rfl (fun X hX hE hnL hG hcy hnm => ?_)
  have hln := ltx_n hi
  refine r_aload_n (pc' := 1) hX dJ0_getBytes_840e7_0 rfl rfl ?_
  refine V_calln (k' := 0) (n' := 0) (pc' := 4) hX (r_runVO (As := []) hX dJ0_getBytes_840e7_1 k_J0_335 (fun l9 hl9 => cT_coder (by omega)) hG (by rw [hG]; exact fun _ _ _ z => (z.2.2.2.2.2.2.2.2.2.2.2.1 i (by omega)).1) rfl rfl (Nat.le_of_ble_eq_true rfl) (by decide) (by decide) (by decide) (by decide)) rfl rfl rfl (fun w9 hp9 => ?_)
  obtain rfl := hp9
  change V X 0 0 ([(q, .inl (cy 2, aN m g))]) [some (.ref (sa (100 + i))), some (.ref q), some (.int (nI c)), some (.int (nI 0))] [.int (nI 0)] 4
  refine r_iload_n (pc' := 5) hX dJ0_getBytes_840e7_4 rfl rfl ?_
  refine r_icmp_ne_N (tgt := 28) (pc' := 8) hX dJ0_getBytes_840e7_5 (by decide) rfl (by omega) (by omega) (fun c5 => ?_) (fun c5 => ?_)
  · exact absurd c5 (by omega)
  · refine r_aload_n (pc' := 9) hX dJ0_getBytes_840e7_8 rfl rfl ?_
    refine r_getO (pc' := 12) (C := "java/lang/String") (n1 := "value") (d1 := "[B") (v := .ref (sa (150 + i))) hX dJ0_getBytes_840e7_9 (by rw [hG]; exact fun _ _ _ z => (z.2.2.2.2.2.2.2.2.2.2.2.1 i (by omega)).2.2.1) (m5 (j := 16) rfl rfl) rfl ?_
    refine r_iconst (pc' := 13) (v := nI 0) hX dJ0_getBytes_840e7_12 rfl rfl ?_
    refine r_aload_n (pc' := 14) hX dJ0_getBytes_840e7_13 rfl rfl ?_
    refine r_iload_n (pc' := 15) hX dJ0_getBytes_840e7_14 rfl rfl ?_
    refine r_iload_n (pc' := 16) hX dJ0_getBytes_840e7_15 rfl rfl ?_
    refine r_ishl_0 (pc' := 17) hX dJ0_getBytes_840e7_16 rfl ?_
    refine r_aload_n (pc' := 18) hX dJ0_getBytes_840e7_17 rfl rfl ?_
    refine r_getO (pc' := 21) (C := "java/lang/String") (n1 := "value") (d1 := "[B") (v := .ref (sa (150 + i))) hX dJ0_getBytes_840e7_18 (by rw [hG]; exact fun _ _ _ z => (z.2.2.2.2.2.2.2.2.2.2.2.1 i (by omega)).2.2.1) (m5 (j := 16) rfl rfl) rfl ?_
    refine r_tl (pc' := 22) hX dJ0_getBytes_840e7_21 (by rw [hG]; exact fun _ _ _ z => (z.2.2.2.2.2.2.2.2.2.2.2.1 i (by omega)).2.2.2.1) rfl ?_
    refine r_acopyT (q1 := 0) (f := fun j => (ltx i).getD j 0) (ws' := [(q, .inl (cy 2, aN m (cpy (fun j => (ltx i).getD j 0) 0 g c ((ltx i).length))))]) (pc' := 25) hX dJ0_getBytes_840e7_22 (m4 (j := 182) rfl rfl) (by rw [hG]; exact fun _ _ _ z => (z.2.2.2.2.2.2.2.2.2.2.2.1 i (by omega)).2.2.2.1) (by rw [hcy]) rfl (by omega) (by omega) (by omega) (by omega) (fun i9 h9 => fit_b (ltx_b _ _)) (by decide) (Nat.le_of_ble_eq_true rfl) rfl rfl ?_
    refine r_goto (tgt := 43) hX dJ0_getBytes_840e7_25 (by decide) ?_
    exact r_vreturn hX hE dJ0_getBytes_840e7_43 rfl ⟨rfl, rfl⟩ (by decide) (by decide)

set_option maxRecDepth 20000 in
set_option maxHeartbeats 1000000 in
theorem cT_putS {l : Launch} {D : va_G} {cy : Nat → ClassId} {sa : Nat → Nat} {a q m ml c : Nat} {g : Nat → Nat} {t : List Nat} (h : SBp m c g t) {i : Nat} (hi : i < 17) (hc : c + (ltx i).length ≤ m) : MG l yJ5_putStringAt_47b60 cJ5_putStringAt_47b60 3 none 2 0 0 (D, cy, sa) [.ref a, .int (nI c), .ref (sa (100 + i))] ((wSB cy a q m ml c g)) (fun w u => w = none ∧ u = wSB cy a q m ml c (cpy (fun j => (ltx i).getD j 0) 0 g c (ltx i).length)) := by
  refine MG_by (own := RJ5) (L := [some (.ref a), some (.int (nI c)), some (.ref (sa (100 + i)))]) (by decide +kernel) rfl rfl (Nat.le_of_ble_eq_true rfl) 0 rfl (fun X hX hE hnL hG hcy hnm => ?_)
  obtain ⟨e1, e2, e3⟩ := h.le
  have hln := ltx_n hi
  refine r_aload_n (pc' := 1) hX dJ5_putStringAt_47b60_0 rfl rfl ?_
  refine r_aload_n (pc' := 2) hX dJ5_putStringAt_47b60_1 rfl rfl ?_
  refine V_call0 (k' := 0) (n' := 0) (pc' := 5) hX (r_runP (As := [.ref (sa (100 + i))]) hX dJ5_putStringAt_47b60_2 kp_J5_397 (fun l9 hl9 => cT_infl (by omega)) hG ⟨1, _, TJ4, 4, List.mem_of_getElem? (l := ([(a, .inr (1, [.ref q, .int (nI 0), .int (nI ml), .int (nI c)])), (q, .inl (cy 2, aN m g))] : va_W)) (i := 0) rfl, rfl⟩ rfl rfl (Nat.le_of_ble_eq_true rfl) (by decide) (by decide) (by decide) (by decide)) rfl rfl rfl (fun w9 u9 hp9 => ?_)
  obtain ⟨rfl, rfl⟩ := hp9
  change V X 0 0 ([(a, .inr (1, [.ref q, .int (nI 0), .int (nI ml), .int (nI c)])), (q, .inl (cy 2, aN m g))]) [some (.ref a), some (.int (nI c)), some (.ref (sa (100 + i)))] [] 5
  refine r_aload_n (pc' := 6) hX dJ5_putStringAt_47b60_5 rfl rfl ?_
  refine r_aload_n (pc' := 7) hX dJ5_putStringAt_47b60_6 rfl rfl ?_
  refine r_get (pc' := 10) (v := .ref q) hX dJ5_putStringAt_47b60_7 f_J5_15 0 rfl rfl rfl ?_
  refine r_iload_n (pc' := 11) hX dJ5_putStringAt_47b60_10 rfl rfl ?_
  refine r_aload_n (pc' := 12) hX dJ5_putStringAt_47b60_11 rfl rfl ?_
  refine r_get (pc' := 15) (v := .int (nI 0)) hX dJ5_putStringAt_47b60_12 f_J5_22 0 rfl rfl rfl ?_
  refine V_call (k' := 0) (n' := 0) (pc' := 18) (wr := ([(a, .inr (1, [.ref q, .int (nI 0), .int (nI ml), .int (nI c)]))] : va_W)) hX (r_runVO (As := [.ref q, .int (nI c), .int (nI 0)]) hX dJ5_putStringAt_47b60_15 k_J5_399 (fun l9 hl9 => cT_getB (by omega) (by omega) (by omega)) hG (by rw [hG]; exact fun _ _ _ z => (z.2.2.2.2.2.2.2.2.2.2.2.1 i (by omega)).1) rfl rfl (Nat.le_of_ble_eq_true rfl) (by decide) (by decide) (by decide) (by decide)) (er_perm (i := 1) rfl) rfl rfl rfl (fun w9 u9 hp9 => ?_)
  obtain ⟨rfl, rfl⟩ := hp9
  change V X 0 0 ([(q, .inl (cy 2, aN m (cpy (fun j => (ltx i).getD j 0) 0 g c (ltx i).length))), (a, .inr (1, [.ref q, .int (nI 0), .int (nI ml), .int (nI c)]))]) [some (.ref a), some (.int (nI c)), some (.ref (sa (100 + i)))] [] 18
  refine V_perm (List.Perm.swap _ _ []) ?_
  exact r_vreturn hX hE dJ5_putStringAt_47b60_18 rfl ⟨rfl, rfl⟩ (by decide) (by decide)

set_option maxRecDepth 20000 in
set_option maxHeartbeats 1000000 in
theorem cT_app5 {l : Launch} {D : va_G} {cy : Nat → ClassId} {sa : Nat → Nat} {a q m ml c : Nat} {g : Nat → Nat} {t : List Nat} (h : SBp m c g t) {i : Nat} (hi : i < 17) (hc : c ≤ 30) : MG l yJ5_append_cf1ce cJ5_append_cf1ce 3 (some (.object "java/lang/AbstractStringBuilder")) 4 1 150 (D, cy, sa) [.ref a, .ref (sa (100 + i))] ((wSB cy a q m ml c g)) (fun w u => w = some (.ref a) ∧ ∃ (q1 m1 : Nat) (g1 : Nat → Nat), u = wSB cy a q1 m1 ml (c + (ltx i).length) g1 ∧ SBp m1 (c + (ltx i).length) g1 (t ++ ltx i)) := by
  refine MG_by (own := RJ5) (L := [some (.ref a), some (.ref (sa (100 + i))), none]) (by decide +kernel) rfl rfl (Nat.le_of_ble_eq_true rfl) 1 rfl (fun X hX hE hnL hG hcy hnm => ?_)
  obtain ⟨e1, e2, e3⟩ := h.le
  have hln := ltx_n hi
  refine r_aload_n (pc' := 1) hX dJ5_append_cf1ce_0 rfl rfl ?_
  refine r_ifnonnull (tgt := 9) hX dJ5_append_cf1ce_1 (by decide) ?_
  refine r_aload_n (pc' := 10) hX dJ5_append_cf1ce_9 rfl rfl ?_
  refine V_calln (k' := 0) (n' := 0) (pc' := 13) hX (r_runVO (As := []) hX dJ5_append_cf1ce_10 k_J5_32 (fun l9 hl9 => cT_slen (by omega)) hG (by rw [hG]; exact fun _ _ _ z => (z.2.2.2.2.2.2.2.2.2.2.2.1 i (by omega)).1) rfl rfl (Nat.le_of_ble_eq_true rfl) (by decide) (by decide) (by decide) (by decide)) rfl rfl rfl (fun w9 hp9 => ?_)
  obtain rfl := hp9
  change V X 0 0 ([(a, .inr (1, [.ref q, .int (nI 0), .int (nI ml), .int (nI c)])), (q, .inl (cy 2, aN m g))]) [some (.ref a), some (.ref (sa (100 + i))), none] [.int (nI ((ltx i).length))] 13
  refine r_istore_n (L' := [some (.ref a), some (.ref (sa (100 + i))), some (.int (nI ((ltx i).length)))]) (pc' := 14) hX dJ5_append_cf1ce_13 (nlt hnL (by decide)) rfl rfl rfl ?_
  refine r_aload_n (pc' := 15) hX dJ5_append_cf1ce_14 rfl rfl ?_
  refine r_aload_n (pc' := 16) hX dJ5_append_cf1ce_15 rfl rfl ?_
  refine r_get (pc' := 19) (v := .int (nI c)) hX dJ5_append_cf1ce_16 f_J5_79 0 rfl rfl rfl ?_
  refine r_iload_n (pc' := 20) hX dJ5_append_cf1ce_19 rfl rfl ?_
  refine r_iadd_N (pc' := 21) hX dJ5_append_cf1ce_20  rfl ?_
  refine V_call0 (k' := 1) (n' := 150) (pc' := 24) hX (r_runP (As := [.int (nI (c + ((ltx i).length)))]) hX dJ5_append_cf1ce_21 kp_J5_100 (fun l9 hl9 => cJ_ensure (by assumption) (by omega)) hG ⟨1, _, TJ4, 4, List.mem_of_getElem? (l := ([(a, .inr (1, [.ref q, .int (nI 0), .int (nI ml), .int (nI c)])), (q, .inl (cy 2, aN m g))] : va_W)) (i := 0) rfl, rfl⟩ rfl rfl (Nat.le_of_ble_eq_true rfl) (by decide) (by decide) (by decide) (by decide)) rfl rfl rfl (fun w9 u9 hp9 => ?_)
  obtain ⟨rfl, q19, m19, g19, rfl, h9, z9⟩ := hp9
  change V X 1 150 ([(a, .inr (1, [.ref q19, .int (nI 0), .int (nI ml), .int (nI c)])), (q19, .inl (cy 2, aN m19 g19))]) [some (.ref a), some (.ref (sa (100 + i))), some (.int (nI ((ltx i).length)))] [] 24
  refine r_aload_n (pc' := 25) hX dJ5_append_cf1ce_24 rfl rfl ?_
  refine r_aload_n (pc' := 26) hX dJ5_append_cf1ce_25 rfl rfl ?_
  refine r_get (pc' := 29) (v := .int (nI c)) hX dJ5_append_cf1ce_26 f_J5_79 0 rfl rfl rfl ?_
  refine r_aload_n (pc' := 30) hX dJ5_append_cf1ce_29 rfl rfl ?_
  refine V_call0 (k' := 1) (n' := 150) (pc' := 33) hX (r_runP (As := [.int (nI c), .ref (sa (100 + i))]) hX dJ5_append_cf1ce_30 kp_J5_208 (fun l9 hl9 => cT_putS (by assumption) (by omega) (by omega)) hG ⟨1, _, TJ4, 4, List.mem_of_getElem? (l := ([(a, .inr (1, [.ref q19, .int (nI 0), .int (nI ml), .int (nI c)])), (q19, .inl (cy 2, aN m19 g19))] : va_W)) (i := 0) rfl, rfl⟩ rfl rfl (Nat.le_of_ble_eq_true rfl) (by decide) (by decide) (by decide) (by decide)) rfl rfl rfl (fun w9 u9 hp9 => ?_)
  obtain ⟨rfl, rfl⟩ := hp9
  change V X 1 150 ([(a, .inr (1, [.ref q19, .int (nI 0), .int (nI ml), .int (nI c)])), (q19, .inl (cy 2, aN m19 (cpy (fun j => (ltx i).getD j 0) 0 g19 c (ltx i).length)))]) [some (.ref a), some (.ref (sa (100 + i))), some (.int (nI ((ltx i).length)))] [] 33
  refine r_aload_n (pc' := 34) hX dJ5_append_cf1ce_33 rfl rfl ?_
  refine r_dup (pc' := 35) hX dJ5_append_cf1ce_34 rfl rfl ?_
  refine r_get (pc' := 38) (v := .int (nI c)) hX dJ5_append_cf1ce_35 f_J5_79 0 rfl rfl rfl ?_
  refine r_iload_n (pc' := 39) hX dJ5_append_cf1ce_38 rfl rfl ?_
  refine r_iadd_N (pc' := 40) hX dJ5_append_cf1ce_39  rfl ?_
  refine r_put (ws' := [(a, .inr (1, [.ref q19, .int (nI 0), .int (nI ml), .int (nI (c + ((ltx i).length)))])), (q19, .inl (cy 2, aN m19 (cpy (fun j => (ltx i).getD j 0) 0 g19 c (ltx i).length)))]) (pc' := 43) hX dJ5_append_cf1ce_40 f_J5_79 fw_J4_3 0 rfl rfl rfl (Nat.le_of_ble_eq_true rfl) rfl rfl ?_
  refine r_aload_n (pc' := 44) hX dJ5_append_cf1ce_43 rfl rfl ?_
  exact r_areturn hX hE dJ5_append_cf1ce_44 rfl (Or.inl ⟨_, rfl⟩) (Or.inr ⟨_, rfl⟩) ⟨rfl, _, _, _, rfl, h9.text (by omega) ltx_m⟩ (by omega) (by omega)

set_option maxRecDepth 20000 in
set_option maxHeartbeats 1000000 in
theorem cT_app {l : Launch} {D : va_G} {cy : Nat → ClassId} {sa : Nat → Nat} {a q m ml c : Nat} {g : Nat → Nat} {t : List Nat} (h : SBp m c g t) {i : Nat} (hi : i < 17) (hc : c ≤ 30) : MG l yJ4_append_15ec4 cJ4_append_15ec4 2 (some (.object "java/lang/StringBuilder")) 5 1 150 (D, cy, sa) [.ref a, .ref (sa (100 + i))] ((wSB cy a q m ml c g)) (fun w u => w = some (.ref a) ∧ ∃ (q1 m1 : Nat) (g1 : Nat → Nat), u = wSB cy a q1 m1 ml (c + (ltx i).length) g1 ∧ SBp m1 (c + (ltx i).length) g1 (t ++ ltx i)) := by
  refine MG_by (own := RJ4) (L := [some (.ref a), some (.ref (sa (100 + i)))]) (by decide +kernel) rfl rfl (Nat.le_of_ble_eq_true rfl) 0 rfl (fun X hX hE hnL hG hcy hnm => ?_)
  refine r_aload_n (pc' := 1) hX dJ4_append_15ec4_0 rfl rfl ?_
  refine r_aload_n (pc' := 2) hX dJ4_append_15ec4_1 rfl rfl ?_
  refine V_call0 (k' := 1) (n' := 150) (pc' := 5) hX (r_runSU (As := [.ref (sa (100 + i))]) hX dJ4_append_15ec4_2 ksu_J4_29 (fun l9 hl9 => cT_app5 (by assumption) (by omega) (by omega)) hG ⟨1, _, TJ4, 4, List.mem_of_getElem? (l := ([(a, .inr (1, [.ref q, .int (nI 0), .int (nI ml), .int (nI c)])), (q, .inl (cy 2, aN m g))] : va_W)) (i := 0) rfl, rfl⟩ rfl rfl (Nat.le_of_ble_eq_true rfl) (by decide) (by decide) (by decide) (by decide)) rfl rfl rfl (fun w9 u9 hp9 => ?_)
  obtain ⟨rfl, q110, m110, g110, rfl, h10⟩ := hp9
  change V X 1 150 ([(a, .inr (1, [.ref q110, .int (nI 0), .int (nI ml), .int (nI (c + (ltx i).length))])), (q110, .inl (cy 2, aN m110 g110))]) [some (.ref a), some (.ref (sa (100 + i)))] [.ref a] 5
  refine r_pop (pc' := 6) hX dJ4_append_15ec4_5 rfl rfl ?_
  refine r_aload_n (pc' := 7) hX dJ4_append_15ec4_6 rfl rfl ?_
  exact r_areturn hX hE dJ4_append_15ec4_7 rfl (Or.inl ⟨_, rfl⟩) (Or.inr ⟨_, rfl⟩) ⟨rfl, _, _, _, rfl, h10⟩ (by omega) (by omega)
