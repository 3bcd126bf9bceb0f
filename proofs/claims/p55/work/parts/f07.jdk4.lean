theorem SBp.nil {m c : Nat} {g : Nat → Nat} {t : List Nat} (h : SBp m c g t) : SBp m 0 g [] := ⟨rfl, fun i hi => absurd hi (Nat.not_lt_zero _), Nat.zero_le _, h.2.2.2.1, h.2.2.2.2⟩
theorem SBp.new : SBp 16 0 (fun _ => 0) [] := ⟨rfl, fun i hi => absurd hi (Nat.not_lt_zero _), Nat.zero_le _, by decide, fun _ _ => (by decide : (0 : Nat) < 128)⟩
theorem SBp.at {m c i : Nat} {g : Nat → Nat} {t : List Nat} (h : SBp m c g t) (hi : i < c) : g i = t.getD i 0 ∧ t.getD i 0 < 128 := by
  have hl : i < t.length := by rw [h.1]; exact hi
  have e : g i = t.getD i 0 := by rw [getD_at hl]; exact h.2.1 i hl
  exact ⟨e, by rw [← e]; exact h.2.2.2.2 i (Nat.lt_of_lt_of_le hi h.2.2.1)⟩
theorem frm_b (i j : Nat) : (frm i).getD j 0 < 128 := by
  by_cases hi : i < 9
  · have h := (by decide +kernel : ∀ i, i < 9 → ∀ c ∈ frm i, c < 128) i hi
    by_cases hj : j < (frm i).length
    · rw [getD_at hj]; exact h _ (List.getElem_mem hj)
    · rw [List.getD_eq_getElem?_getD, List.getElem?_eq_none (by omega)]; decide
  · have : frm i = [] := by
      unfold frm
      rw [List.getD_eq_getElem?_getD, List.getElem?_eq_none (by show 9 ≤ i; omega)]; rfl
    rw [this]; show (0 : Nat) < 128; decide
theorem frm_n {i : Nat} (hi : i < 9) : (frm i).length < 20 := (by decide +kernel : ∀ i, i < 9 → (frm i).length < 20) i hi
set_option maxRecDepth 20000 in
set_option maxHeartbeats 1000000 in
theorem cJ_setLen5 {l : Launch} {D : va_G} {cy : Nat → ClassId} {sa : Nat → Nat} {a q m ml c : Nat} {g : Nat → Nat} {t : List Nat} (h : SBp m c g t) (hc : c ≤ 70) : MG l yJ5_setLength_d00df cJ5_setLength_d00df 2 none 4 1 150 (D, cy, sa) [.ref a, .int (nI 0)] ((wSB cy a q m ml c g)) (fun w u => w = none ∧ ∃ (q1 m1 ml1 : Nat) (g1 : Nat → Nat), u = wSB cy a q1 m1 ml1 0 g1 ∧ SBp m1 0 g1 []) := by
  refine MG_by (own := RJ5) (L := [some (.ref a), some (.int (nI 0))]) (by decide +kernel) rfl rfl (Nat.le_of_ble_eq_true rfl) 0 rfl (fun X hX hE hnL hG hcy hnm => ?_)
  refine r_iload_n (pc' := 1) hX dJ5_setLength_d00df_0 rfl rfl ?_
  refine r_if_ge_N (tgt := 13) (pc' := 4) hX dJ5_setLength_d00df_1 (by decide) rfl (by omega) (fun c1 => ?_) (fun c1 => ?_)
  · refine r_aload_n (pc' := 14) hX dJ5_setLength_d00df_13 rfl rfl ?_
    refine r_iload_n (pc' := 15) hX dJ5_setLength_d00df_14 rfl rfl ?_
    refine V_call0 (k' := 1) (n' := 150) (pc' := 18) hX (r_runP (As := [.int (nI 0)]) hX dJ5_setLength_d00df_15 kp_J5_100 (fun l9 hl9 => cJ_ensure (by assumption) (by omega)) hG ⟨1, _, TJ4, 4, List.mem_of_getElem? (l := ([(a, .inr (1, [.ref q, .int (nI 0), .int (nI ml), .int (nI c)])), (q, .inl (cy 2, aN m g))] : va_W)) (i := 0) rfl, rfl⟩ rfl rfl (Nat.le_of_ble_eq_true rfl) (by decide) (by decide) (by decide) (by decide)) rfl rfl rfl (fun w9 u9 hp9 => ?_)
    obtain ⟨rfl, q15, m15, g15, rfl, h5, z5⟩ := hp9
    change V X 1 150 ([(a, .inr (1, [.ref q15, .int (nI 0), .int (nI ml), .int (nI c)])), (q15, .inl (cy 2, aN m15 g15))]) [some (.ref a), some (.int (nI 0))] [] 18
    refine r_aload_n (pc' := 19) hX dJ5_setLength_d00df_18 rfl rfl ?_
    refine r_get (pc' := 22) (v := .int (nI c)) hX dJ5_setLength_d00df_19 f_J5_79 0 rfl rfl rfl ?_
    refine r_iload_n (pc' := 23) hX dJ5_setLength_d00df_22 rfl rfl ?_
    refine r_icmp_ge_N (tgt := 63) (pc' := 26) hX dJ5_setLength_d00df_23 (by decide) rfl (by omega) (by omega) (fun c23 => ?_) (fun c23 => ?_)
    · refine r_aload_n (pc' := 64) hX dJ5_setLength_d00df_63 rfl rfl ?_
      refine r_get (pc' := 67) (v := .int (nI c)) hX dJ5_setLength_d00df_64 f_J5_79 0 rfl rfl rfl ?_
      refine r_iload_n (pc' := 68) hX dJ5_setLength_d00df_67 rfl rfl ?_
      refine r_icmp_le_N (tgt := 76) (pc' := 71) hX dJ5_setLength_d00df_68 (by decide) rfl (by omega) (by omega) (fun c68 => ?_) (fun c68 => ?_)
      · refine r_aload_n (pc' := 77) hX dJ5_setLength_d00df_76 rfl rfl ?_
        refine r_iload_n (pc' := 78) hX dJ5_setLength_d00df_77 rfl rfl ?_
        refine r_put (ws' := [(a, .inr (1, [.ref q15, .int (nI 0), .int (nI ml), .int (nI 0)])), (q15, .inl (cy 2, aN m15 g15))]) (pc' := 81) hX dJ5_setLength_d00df_78 f_J5_79 fw_J4_3 0 rfl rfl rfl (Nat.le_of_ble_eq_true rfl) rfl rfl ?_
        exact r_vreturn hX hE dJ5_setLength_d00df_81 rfl ⟨rfl, _, _, _, _, rfl, h5.nil⟩ (by omega) (by omega)
      · refine r_aload_n (pc' := 72) hX dJ5_setLength_d00df_71 rfl rfl ?_
        refine r_iconst (pc' := 73) (v := nI 1) hX dJ5_setLength_d00df_72 rfl rfl ?_
        refine r_put (ws' := [(a, .inr (1, [.ref q15, .int (nI 0), .int (nI 1), .int (nI c)])), (q15, .inl (cy 2, aN m15 g15))]) (pc' := 76) hX dJ5_setLength_d00df_73 f_J5_73 fw_J4_2 0 rfl rfl rfl (Nat.le_of_ble_eq_true rfl) rfl rfl ?_
        refine r_aload_n (pc' := 77) hX dJ5_setLength_d00df_76 rfl rfl ?_
        refine r_iload_n (pc' := 78) hX dJ5_setLength_d00df_77 rfl rfl ?_
        refine r_put (ws' := [(a, .inr (1, [.ref q15, .int (nI 0), .int (nI 1), .int (nI 0)])), (q15, .inl (cy 2, aN m15 g15))]) (pc' := 81) hX dJ5_setLength_d00df_78 f_J5_79 fw_J4_3 0 rfl rfl rfl (Nat.le_of_ble_eq_true rfl) rfl rfl ?_
        exact r_vreturn hX hE dJ5_setLength_d00df_81 rfl ⟨rfl, _, _, _, _, rfl, h5.nil⟩ (by omega) (by omega)
    · exact absurd c23 (by omega)
  · exact absurd c1 (by omega)

set_option maxRecDepth 20000 in
set_option maxHeartbeats 1000000 in
theorem cJ_setLen {l : Launch} {D : va_G} {cy : Nat → ClassId} {sa : Nat → Nat} {a q m ml c : Nat} {g : Nat → Nat} {t : List Nat} (h : SBp m c g t) (hc : c ≤ 70) : MG l yJ4_setLength_d00df cJ4_setLength_d00df 2 none 5 1 150 (D, cy, sa) [.ref a, .int (nI 0)] ((wSB cy a q m ml c g)) (fun w u => w = none ∧ ∃ (q1 m1 ml1 : Nat) (g1 : Nat → Nat), u = wSB cy a q1 m1 ml1 0 g1 ∧ SBp m1 0 g1 []) := by
  refine MG_by (own := RJ4) (L := [some (.ref a), some (.int (nI 0))]) (by decide +kernel) rfl rfl (Nat.le_of_ble_eq_true rfl) 0 rfl (fun X hX hE hnL hG hcy hnm => ?_)
  refine r_aload_n (pc' := 1) hX dJ4_setLength_d00df_0 rfl rfl ?_
  refine r_iload_n (pc' := 2) hX dJ4_setLength_d00df_1 rfl rfl ?_
  refine V_call0 (k' := 1) (n' := 150) (pc' := 5) hX (r_runSU (As := [.int (nI 0)]) hX dJ4_setLength_d00df_2 ksu_J4_333 (fun l9 hl9 => cJ_setLen5 (by assumption) (by omega)) hG ⟨1, _, TJ4, 4, List.mem_of_getElem? (l := ([(a, .inr (1, [.ref q, .int (nI 0), .int (nI ml), .int (nI c)])), (q, .inl (cy 2, aN m g))] : va_W)) (i := 0) rfl, rfl⟩ rfl rfl (Nat.le_of_ble_eq_true rfl) (by decide) (by decide) (by decide) (by decide)) rfl rfl rfl (fun w9 u9 hp9 => ?_)
  obtain ⟨rfl, q16, m16, ml6, g16, rfl, h6⟩ := hp9
  change V X 1 150 ([(a, .inr (1, [.ref q16, .int (nI 0), .int (nI ml6), .int (nI 0)])), (q16, .inl (cy 2, aN m16 g16))]) [some (.ref a), some (.int (nI 0))] [] 5
  exact r_vreturn hX hE dJ4_setLength_d00df_5 rfl ⟨rfl, _, _, _, _, rfl, h6⟩ (by omega) (by omega)

set_option maxRecDepth 20000 in
set_option maxHeartbeats 1000000 in
theorem cJ_len5 {l : Launch} {D : va_G} {cy : Nat → ClassId} {sa : Nat → Nat} {a q m ml c : Nat} {g : Nat → Nat} : MG l yJ5_length_8abf5 cJ5_length_8abf5 1 (some .int) 0 0 0 (D, cy, sa) [.ref a] ((wSB cy a q m ml c g)) (fun w u => w = some (.int (nI c)) ∧ u = wSB cy a q m ml c g) := by
  refine MG_by (own := RJ5) (L := [some (.ref a)]) (by decide +kernel) rfl rfl (Nat.le_of_ble_eq_true rfl) 0 rfl (fun X hX hE hnL hG hcy hnm => ?_)
  refine r_aload_n (pc' := 1) hX dJ5_length_8abf5_0 rfl rfl ?_
  refine r_get (pc' := 4) (v := .int (nI c)) hX dJ5_length_8abf5_1 f_J5_79 0 rfl rfl rfl ?_
  exact r_ireturn hX hE dJ5_length_8abf5_4 rfl ⟨rfl, rfl⟩ (by decide) (by decide)

set_option maxRecDepth 20000 in
set_option maxHeartbeats 1000000 in
theorem cJ_len {l : Launch} {D : va_G} {cy : Nat → ClassId} {sa : Nat → Nat} {a q m ml c : Nat} {g : Nat → Nat} : MG l yJ4_length_8abf5 cJ4_length_8abf5 1 (some .int) 1 0 0 (D, cy, sa) [.ref a] ((wSB cy a q m ml c g)) (fun w u => w = some (.int (nI c)) ∧ u = wSB cy a q m ml c g) := by
  refine MG_by (own := RJ4) (L := [some (.ref a)]) (by decide +kernel) rfl rfl (Nat.le_of_ble_eq_true rfl) 0 rfl (fun X hX hE hnL hG hcy hnm => ?_)
  refine r_aload_n (pc' := 1) hX dJ4_length_8abf5_0 rfl rfl ?_
  refine V_call0 (k' := 0) (n' := 0) (pc' := 4) hX (r_runSU (As := []) hX dJ4_length_8abf5_1 ksu_J4_343 (fun l9 hl9 => cJ_len5) hG ⟨1, _, TJ4, 4, List.mem_of_getElem? (l := ([(a, .inr (1, [.ref q, .int (nI 0), .int (nI ml), .int (nI c)])), (q, .inl (cy 2, aN m g))] : va_W)) (i := 0) rfl, rfl⟩ rfl rfl (Nat.le_of_ble_eq_true rfl) (by decide) (by decide) (by decide) (by decide)) rfl rfl rfl (fun w9 u9 hp9 => ?_)
  obtain ⟨rfl, rfl⟩ := hp9
  change V X 0 0 ([(a, .inr (1, [.ref q, .int (nI 0), .int (nI ml), .int (nI c)])), (q, .inl (cy 2, aN m g))]) [some (.ref a)] [.int (nI c)] 4
  exact r_ireturn hX hE dJ4_length_8abf5_4 rfl ⟨rfl, rfl⟩ (by decide) (by decide)

set_option maxRecDepth 20000 in
set_option maxHeartbeats 1000000 in
theorem cJ_chkN {l : Launch} {D : va_G} {cy : Nat → ClassId} {sa : Nat → Nat} {i n : Nat} (hi : i < n) (hn : n < 1000) : MG l yJ3_checkIndex_8e157 cJ3_checkIndex_8e157 3 (some .int) 0 0 0 (D, cy, sa) [.int (nI i), .int (nI n), .null] ([]) (fun w u => w = some (.int (nI i)) ∧ u = []) := by
  refine MG_by (own := RJ3) (L := [some (.int (nI i)), some (.int (nI n)), some (.null)]) (by decide +kernel) rfl rfl (Nat.le_of_ble_eq_true rfl) 0 rfl (fun X hX hE hnL hG hcy hnm => ?_)
  refine r_iload_n (pc' := 1) hX dJ3_checkIndex_8e157_0 rfl rfl ?_
  refine r_if_lt_N (tgt := 9) (pc' := 4) hX dJ3_checkIndex_8e157_1 (by decide) rfl (by omega) (fun c1 => ?_) (fun c1 => ?_)
  · exact absurd c1 (by omega)
  · refine r_iload_n (pc' := 5) hX dJ3_checkIndex_8e157_4 rfl rfl ?_
    refine r_iload_n (pc' := 6) hX dJ3_checkIndex_8e157_5 rfl rfl ?_
    refine r_icmp_lt_N (tgt := 16) (pc' := 9) hX dJ3_checkIndex_8e157_6 (by decide) rfl (by omega) (by omega) (fun c6 => ?_) (fun c6 => ?_)
    · refine r_iload_n (pc' := 17) hX dJ3_checkIndex_8e157_16 rfl rfl ?_
      exact r_ireturn hX hE dJ3_checkIndex_8e157_17 rfl ⟨rfl, rfl⟩ (by decide) (by decide)
    · exact absurd c6 (by omega)

set_option maxRecDepth 20000 in
set_option maxHeartbeats 1000000 in
theorem cJ_chkF {l : Launch} {D : va_G} {cy : Nat → ClassId} {sa : Nat → Nat} {f : Nat} {i n : Nat} (hi : i < n) (hn : n < 1000) : MG l yJ3_checkIndex_8e157 cJ3_checkIndex_8e157 3 (some .int) 0 0 0 (D, cy, sa) [.int (nI i), .int (nI n), .ref f] ([]) (fun w u => w = some (.int (nI i)) ∧ u = []) := by
  refine MG_by (own := RJ3) (L := [some (.int (nI i)), some (.int (nI n)), some (.ref f)]) (by decide +kernel) rfl rfl (Nat.le_of_ble_eq_true rfl) 0 rfl (fun X hX hE hnL hG hcy hnm => ?_)
  refine r_iload_n (pc' := 1) hX dJ3_checkIndex_8e157_0 rfl rfl ?_
  refine r_if_lt_N (tgt := 9) (pc' := 4) hX dJ3_checkIndex_8e157_1 (by decide) rfl (by omega) (fun c1 => ?_) (fun c1 => ?_)
  · exact absurd c1 (by omega)
  · refine r_iload_n (pc' := 5) hX dJ3_checkIndex_8e157_4 rfl rfl ?_
    refine r_iload_n (pc' := 6) hX dJ3_checkIndex_8e157_5 rfl rfl ?_
    refine r_icmp_lt_N (tgt := 16) (pc' := 9) hX dJ3_checkIndex_8e157_6 (by decide) rfl (by omega) (by omega) (fun c6 => ?_) (fun c6 => ?_)
    · refine r_iload_n (pc' := 17) hX dJ3_checkIndex_8e157_16 rfl rfl ?_
      exact r_ireturn hX hE dJ3_checkIndex_8e157_17 rfl ⟨rfl, rfl⟩ (by decide) (by decide)
    · exact absurd c6 (by omega)

set_option maxRecDepth 20000 in
set_option maxHeartbeats 1000000 in
theorem cJ_chk {l : Launch} {D : va_G} {cy : Nat → ClassId} {sa : Nat → Nat} {i n : Nat} (hi : i < n) (hn : n < 1000) : MG l yJ0_checkIndex_df160 cJ0_checkIndex_df160 2 none 1 0 0 (D, cy, sa) [.int (nI i), .int (nI n)] ([]) (fun w u => w = none ∧ u = []) := by
  refine MG_by (own := RJ0) (L := [some (.int (nI i)), some (.int (nI n))]) (by decide +kernel) rfl rfl (Nat.le_of_ble_eq_true rfl) 0 rfl (fun X hX hE hnL hG hcy hnm => ?_)
  refine r_iload_n (pc' := 1) hX dJ0_checkIndex_df160_0 rfl rfl ?_
  refine r_iload_n (pc' := 2) hX dJ0_checkIndex_df160_1 rfl rfl ?_
  refine r_getsq (pc' := 5) (C := "jdk/internal/util/Preconditions") (n1 := "SIOOBE_FORMATTER") (d1 := "Ljava/util/function/BiFunction;") hX dJ0_checkIndex_df160_2 (by rw [hG]; exact fun _ _ _ z => z.2.2.2.2.2.2.2.2.1) (m4 (j := 16) rfl rfl) rfl ?_ (fun q9 => ?_)
  · refine V_calln (k' := 0) (n' := 0) (pc' := 8) hX (r_runS (As := [.int (nI i), .int (nI n), .null]) hX dJ0_checkIndex_df160_5 k_J0_1059 (fun l9 hl9 => cJ_chkN (by omega) (by omega)) hG rfl rfl (Nat.le_of_ble_eq_true rfl) (by decide) (by decide) (by decide) (by decide)) rfl rfl rfl (fun w9 hp9 => ?_)
    obtain rfl := hp9
    change V X 0 0 ([]) [some (.int (nI i)), some (.int (nI n))] [.int (nI i)] 8
    refine r_pop (pc' := 9) hX dJ0_checkIndex_df160_8 rfl rfl ?_
    exact r_vreturn hX hE dJ0_checkIndex_df160_9 rfl ⟨rfl, rfl⟩ (by decide) (by decide)
  · refine V_calln (k' := 0) (n' := 0) (pc' := 8) hX (r_runS (As := [.int (nI i), .int (nI n), .ref q9]) hX dJ0_checkIndex_df160_5 k_J0_1059 (fun l9 hl9 => cJ_chkF (by omega) (by omega)) hG rfl rfl (Nat.le_of_ble_eq_true rfl) (by decide) (by decide) (by decide) (by decide)) rfl rfl rfl (fun w9 hp9 => ?_)
    obtain rfl := hp9
    change V X 0 0 ([]) [some (.int (nI i)), some (.int (nI n))] [.int (nI i)] 8
    refine r_pop (pc' := 9) hX dJ0_checkIndex_df160_8 rfl rfl ?_
    exact r_vreturn hX hE dJ0_checkIndex_df160_9 rfl ⟨rfl, rfl⟩ (by decide) (by decide)

set_option maxRecDepth 20000 in
set_option maxHeartbeats 1000000 in
theorem cJ_at5 {l : Launch} {D : va_G} {cy : Nat → ClassId} {sa : Nat → Nat} {a q m ml c : Nat} {g : Nat → Nat} {t : List Nat} (h : SBp m c g t) {i : Nat} (hi : i < c) (hc : c < 100) : MG l yJ5_charAt_5068e cJ5_charAt_5068e 5 (some .char) 2 0 0 (D, cy, sa) [.ref a, .int (nI i)] ((wSB cy a q m ml c g)) (fun w u => w = some (.int (nI (t.getD i 0))) ∧ u = wSB cy a q m ml c g) := by
  refine MG_by (own := RJ5) (L := [some (.ref a), some (.int (nI i)), none, none, none]) (by decide +kernel) rfl rfl (Nat.le_of_ble_eq_true rfl) 3 rfl (fun X hX hE hnL hG hcy hnm => ?_)
  obtain ⟨e1, e2, e3⟩ := h.le
  obtain ⟨e4, e5⟩ := h.at hi
  have hmn : min c m = c := by omega
  refine r_aload_n (pc' := 1) hX dJ5_charAt_5068e_0 rfl rfl ?_
  refine r_get (pc' := 4) (v := .int (nI 0)) hX dJ5_charAt_5068e_1 f_J5_22 0 rfl rfl rfl ?_
  refine r_istore_n (L' := [some (.ref a), some (.int (nI i)), some (.int (nI 0)), none, none]) (pc' := 5) hX dJ5_charAt_5068e_4 (nlt hnL (by decide)) rfl rfl rfl ?_
  refine r_aload_n (pc' := 6) hX dJ5_charAt_5068e_5 rfl rfl ?_
  refine r_get (pc' := 9) (v := .ref q) hX dJ5_charAt_5068e_6 f_J5_15 0 rfl rfl rfl ?_
  refine r_astore_n (L' := [some (.ref a), some (.int (nI i)), some (.int (nI 0)), some (.ref q), none]) (pc' := 10) hX dJ5_charAt_5068e_9 (nlt hnL (by decide)) rfl rfl rfl ?_
  refine r_aload_n (pc' := 11) hX dJ5_charAt_5068e_10 rfl rfl ?_
  refine r_get (pc' := 14) (v := .int (nI c)) hX dJ5_charAt_5068e_11 f_J5_79 0 rfl rfl rfl ?_
  refine r_aload_n (pc' := 15) hX dJ5_charAt_5068e_14 rfl rfl ?_
  refine r_alenN (n0 := m) (pc' := 16) hX dJ5_charAt_5068e_15 2 (by rw [hcy]; rfl) 1 rfl rfl ?_
  refine r_iload_n (pc' := 17) hX dJ5_charAt_5068e_16 rfl rfl ?_
  refine r_ishr_0 (pc' := 18) hX dJ5_charAt_5068e_17 rfl ?_
  refine r_mmin (pc' := 21) hX dJ5_charAt_5068e_18 k_J5_138 (by omega) (by omega) rfl (Nat.le_of_ble_eq_true rfl) (by decide) (by omega) (by omega) ?_
  rw [show (nI (min c m) : Int32) = nI c from by rw [hmn]]
  refine r_istore (L' := [some (.ref a), some (.int (nI i)), some (.int (nI 0)), some (.ref q), some (.int (nI c))]) (pc' := 23) hX dJ5_charAt_5068e_21 (nlt hnL (by decide)) rfl rfl rfl ?_
  refine r_iload_n (pc' := 24) hX dJ5_charAt_5068e_23 rfl rfl ?_
  refine r_iload (pc' := 26) hX dJ5_charAt_5068e_24 rfl rfl ?_
  refine V_calln (k' := 0) (n' := 0) (pc' := 29) hX (r_runS (As := [.int (nI i), .int (nI c)]) hX dJ5_charAt_5068e_26 k_J5_144 (fun l9 hl9 => cJ_chk (by omega) (by omega)) hG rfl rfl (Nat.le_of_ble_eq_true rfl) (by decide) (by decide) (by decide) (by decide)) rfl rfl rfl (fun w9 hp9 => ?_)
  obtain rfl := hp9
  change V X 0 0 ([(a, .inr (1, [.ref q, .int (nI 0), .int (nI ml), .int (nI c)])), (q, .inl (cy 2, aN m g))]) [some (.ref a), some (.int (nI i)), some (.int (nI 0)), some (.ref q), some (.int (nI c))] [] 29
  refine r_iload_n (pc' := 30) hX dJ5_charAt_5068e_29 rfl rfl ?_
  refine r_if_ne_N (tgt := 42) (pc' := 33) hX dJ5_charAt_5068e_30 (by decide) rfl (by omega) (fun c30 => ?_) (fun c30 => ?_)
  · exact absurd c30 (by omega)
  · refine r_aload_n (pc' := 34) hX dJ5_charAt_5068e_33 rfl rfl ?_
    refine r_iload_n (pc' := 35) hX dJ5_charAt_5068e_34 rfl rfl ?_
    refine r_bald_N (pc' := 36) hX dJ5_charAt_5068e_35 (by rw [hcy]) 1 rfl (by omega) (by omega) rfl ?_
    change V X 0 0 ([(a, .inr (1, [.ref q, .int (nI 0), .int (nI ml), .int (nI c)])), (q, .inl (cy 2, aN m g))]) [some (.ref a), some (.int (nI i)), some (.int (nI 0)), some (.ref q), some (.int (nI c))] [.int (nI (g i))] 36
    rw [show (nI (g i) : Int32) = nI (t.getD i 0) from by rw [e4]]
    refine r_sipush (pc' := 39) (v := nI 255) hX dJ5_charAt_5068e_36 rfl rfl ?_
    refine r_iand_255 (pc' := 40) hX dJ5_charAt_5068e_39 (by omega) rfl ?_
    refine r_i2c_N (pc' := 41) hX dJ5_charAt_5068e_40 (by omega) rfl ?_
    exact r_zreturn hX hE dJ5_charAt_5068e_41 rfl ((pk_charN (by omega)).1) ⟨rfl, rfl⟩ (by decide) (by decide)

set_option maxRecDepth 20000 in
set_option maxHeartbeats 1000000 in
theorem cJ_at {l : Launch} {D : va_G} {cy : Nat → ClassId} {sa : Nat → Nat} {a q m ml c : Nat} {g : Nat → Nat} {t : List Nat} (h : SBp m c g t) {i : Nat} (hi : i < c) (hc : c < 100) : MG l yJ4_charAt_5068e cJ4_charAt_5068e 2 (some .char) 3 0 0 (D, cy, sa) [.ref a, .int (nI i)] ((wSB cy a q m ml c g)) (fun w u => w = some (.int (nI (t.getD i 0))) ∧ u = wSB cy a q m ml c g) := by
  refine MG_by (own := RJ4) (L := [some (.ref a), some (.int (nI i))]) (by decide +kernel) rfl rfl (Nat.le_of_ble_eq_true rfl) 0 rfl (fun X hX hE hnL hG hcy hnm => ?_)
  obtain ⟨e4, e5⟩ := h.at hi
  refine r_aload_n (pc' := 1) hX dJ4_charAt_5068e_0 rfl rfl ?_
  refine r_iload_n (pc' := 2) hX dJ4_charAt_5068e_1 rfl rfl ?_
  refine V_call0 (k' := 0) (n' := 0) (pc' := 5) hX (r_runSU (As := [.int (nI i)]) hX dJ4_charAt_5068e_2 ksu_J4_329 (fun l9 hl9 => cJ_at5 (by assumption) (by omega) (by omega)) hG ⟨1, _, TJ4, 4, List.mem_of_getElem? (l := ([(a, .inr (1, [.ref q, .int (nI 0), .int (nI ml), .int (nI c)])), (q, .inl (cy 2, aN m g))] : va_W)) (i := 0) rfl, rfl⟩ rfl rfl (Nat.le_of_ble_eq_true rfl) (by decide) (by decide) (by decide) (by decide)) rfl rfl rfl (fun w9 u9 hp9 => ?_)
  obtain ⟨rfl, rfl⟩ := hp9
  change V X 0 0 ([(a, .inr (1, [.ref q, .int (nI 0), .int (nI ml), .int (nI c)])), (q, .inl (cy 2, aN m g))]) [some (.ref a), some (.int (nI i))] [.int (nI (t.getD i 0))] 5
  exact r_zreturn hX hE dJ4_charAt_5068e_5 rfl ((pk_charN (by omega)).1) ⟨rfl, rfl⟩ (by decide) (by decide)

set_option maxRecDepth 20000 in
set_option maxHeartbeats 1000000 in
theorem cJ_coder {l : Launch} {D : va_G} {cy : Nat → ClassId} {sa : Nat → Nat} {i : Nat} (hi : i < 9) : MG l yJ0_coder_7d493 cJ0_coder_7d493 1 (some .byte) 0 0 0 (D, cy, sa) [.ref (sa (20 + i))] ([]) (fun w u => w = some (.int (nI 0)) ∧ u = []) := by
  refine MG_by (own := RJ0) (L := [some (.ref (sa (20 + i)))]) (by decide +kernel) rfl rfl (Nat.le_of_ble_eq_true rfl) 0 rfl (fun X hX hE hnL hG hcy hnm => ?_)
  refine r_gets (pc' := 3) (C := "java/lang/String") (n1 := "COMPACT_STRINGS") (d1 := "Z") (v := .int (nI 1)) hX dJ0_coder_7d493_0 (by rw [hG]; exact fun _ _ _ z => z.1) (m4 (j := 1) rfl rfl) rfl ?_
  refine r_if_eq_N (tgt := 13) (pc' := 6) hX dJ0_coder_7d493_3 (by decide) rfl (by omega) (fun c3 => ?_) (fun c3 => ?_)
  · exact absurd c3 (by omega)
  · refine r_aload_n (pc' := 7) hX dJ0_coder_7d493_6 rfl rfl ?_
    refine r_getO (pc' := 10) (C := "java/lang/String") (n1 := "coder") (d1 := "B") (v := .int (nI 0)) hX dJ0_coder_7d493_7 (by rw [hG]; exact fun _ _ _ z => (z.2.2.2.2.2.1 i (by omega)).2.2.2.2.1) (m5 (j := 17) rfl rfl) rfl ?_
    refine r_goto (tgt := 14) hX dJ0_coder_7d493_10 (by decide) ?_
    exact r_zreturn hX hE dJ0_coder_7d493_14 rfl rfl ⟨rfl, rfl⟩ (by decide) (by decide)

set_option maxRecDepth 20000 in
set_option maxHeartbeats 1000000 in
theorem cJ_lat0 {l : Launch} {D : va_G} {cy : Nat → ClassId} {sa : Nat → Nat} {i : Nat} (hi : i < 9) : MG l yJ0_isLatin1_aae02 cJ0_isLatin1_aae02 1 (some .boolean) 0 0 0 (D, cy, sa) [.ref (sa (20 + i))] ([]) (fun w u => w = some (.int (nI 1)) ∧ u = []) := by
  refine MG_by (own := RJ0) (L := [some (.ref (sa (20 + i)))]) (by decide +kernel) rfl rfl (Nat.le_of_ble_eq_true rfl) 0 rfl (fun X hX hE hnL hG hcy hnm => ?_)
  refine r_gets (pc' := 3) (C := "java/lang/String") (n1 := "COMPACT_STRINGS") (d1 := "Z") (v := .int (nI 1)) hX dJ0_isLatin1_aae02_0 (by rw [hG]; exact fun _ _ _ z => z.1) (m4 (j := 1) rfl rfl) rfl ?_
  refine r_if_eq_N (tgt := 17) (pc' := 6) hX dJ0_isLatin1_aae02_3 (by decide) rfl (by omega) (fun c3 => ?_) (fun c3 => ?_)
  · exact absurd c3 (by omega)
  · refine r_aload_n (pc' := 7) hX dJ0_isLatin1_aae02_6 rfl rfl ?_
    refine r_getO (pc' := 10) (C := "java/lang/String") (n1 := "coder") (d1 := "B") (v := .int (nI 0)) hX dJ0_isLatin1_aae02_7 (by rw [hG]; exact fun _ _ _ z => (z.2.2.2.2.2.1 i (by omega)).2.2.2.2.1) (m5 (j := 17) rfl rfl) rfl ?_
    refine r_if_ne_N (tgt := 17) (pc' := 13) hX dJ0_isLatin1_aae02_10 (by decide) rfl (by omega) (fun c10 => ?_) (fun c10 => ?_)
    · exact absurd c10 (by omega)
    · refine r_iconst (pc' := 14) (v := nI 1) hX dJ0_isLatin1_aae02_13 rfl rfl ?_
      refine r_goto (tgt := 18) hX dJ0_isLatin1_aae02_14 (by decide) ?_
      exact r_zreturn hX hE dJ0_isLatin1_aae02_18 rfl rfl ⟨rfl, rfl⟩ (by decide) (by decide)

set_option maxRecDepth 20000 in
set_option maxHeartbeats 1000000 in
theorem cJ_slen {l : Launch} {D : va_G} {cy : Nat → ClassId} {sa : Nat → Nat} {i : Nat} (hi : i < 9) : MG l yJ0_length_8abf5 cJ0_length_8abf5 1 (some .int) 1 0 0 (D, cy, sa) [.ref (sa (20 + i))] ([]) (fun w u => w = some (.int (nI (frm i).length)) ∧ u = []) := by
  refine MG_by (own := RJ0) (L := [some (.ref (sa (20 + i)))]) (by decide +kernel) rfl rfl (Nat.le_of_ble_eq_true rfl) 0 rfl (fun X hX hE hnL hG hcy hnm => ?_)
  refine r_aload_n (pc' := 1) hX dJ0_length_8abf5_0 rfl rfl ?_
  refine r_getO (pc' := 4) (C := "java/lang/String") (n1 := "value") (d1 := "[B") (v := .ref (sa (30 + i))) hX dJ0_length_8abf5_1 (by rw [hG]; exact fun _ _ _ z => (z.2.2.2.2.2.1 i (by omega)).2.2.2.2.2.1) (m5 (j := 16) rfl rfl) rfl ?_
  refine r_tl (pc' := 5) hX dJ0_length_8abf5_4 (by rw [hG]; exact fun _ _ _ z => (z.2.2.2.2.2.1 i (by omega)).2.2.2.2.2.2) rfl ?_
  refine r_aload_n (pc' := 6) hX dJ0_length_8abf5_5 rfl rfl ?_
  refine V_calln (k' := 0) (n' := 0) (pc' := 9) hX (r_runVO (As := []) hX dJ0_length_8abf5_6 k_J0_335 (fun l9 hl9 => cJ_coder (by omega)) hG (by rw [hG]; exact fun _ _ _ z => (z.2.2.2.2.2.1 i (by omega)).2.2.2.1) rfl rfl (Nat.le_of_ble_eq_true rfl) (by decide) (by decide) (by decide) (by decide)) rfl rfl rfl (fun w9 hp9 => ?_)
  obtain rfl := hp9
  change V X 0 0 ([]) [some (.ref (sa (20 + i)))] [.int (nI 0), .int (nI ((frm i).length))] 9
  refine r_ishr_0 (pc' := 10) hX dJ0_length_8abf5_9 rfl ?_
  exact r_ireturn hX hE dJ0_length_8abf5_10 rfl ⟨rfl, rfl⟩ (by decide) (by decide)

set_option maxRecDepth 20000 in
set_option maxHeartbeats 1000000 in
theorem cJ_at1 {l : Launch} {D : va_G} {cy : Nat → ClassId} {sa : Nat → Nat} {i j : Nat} (hi : i < 9) (hj : j < (frm i).length) : MG l yJ1_charAt_3b067 cJ1_charAt_3b067 2 (some .char) 2 0 0 (D, cy, sa) [.ref (sa (30 + i)), .int (nI j)] ([]) (fun w u => w = some (.int (nI ((frm i).getD j 0))) ∧ u = []) := by
  refine MG_by (own := RJ1) (L := [some (.ref (sa (30 + i))), some (.int (nI j))]) (by decide +kernel) rfl rfl (Nat.le_of_ble_eq_true rfl) 0 rfl (fun X hX hE hnL hG hcy hnm => ?_)
  have hfn := frm_n hi
  have hfb := frm_b i j
  refine r_iload_n (pc' := 1) hX dJ1_charAt_3b067_0 rfl rfl ?_
  refine r_aload_n (pc' := 2) hX dJ1_charAt_3b067_1 rfl rfl ?_
  refine r_tl (pc' := 3) hX dJ1_charAt_3b067_2 (by rw [hG]; exact fun _ _ _ z => (z.2.2.2.2.2.1 i (by omega)).2.2.2.2.2.2) rfl ?_
  refine V_calln (k' := 0) (n' := 0) (pc' := 6) hX (r_runS (As := [.int (nI j), .int (nI ((frm i).length))]) hX dJ1_charAt_3b067_3 k_J1_9 (fun l9 hl9 => cJ_chk (by omega) (by omega)) hG rfl rfl (Nat.le_of_ble_eq_true rfl) (by decide) (by decide) (by decide) (by decide)) rfl rfl rfl (fun w9 hp9 => ?_)
  obtain rfl := hp9
  change V X 0 0 ([]) [some (.ref (sa (30 + i))), some (.int (nI j))] [] 6
  refine r_aload_n (pc' := 7) hX dJ1_charAt_3b067_6 rfl rfl ?_
  refine r_iload_n (pc' := 8) hX dJ1_charAt_3b067_7 rfl rfl ?_
  refine r_tb (pc' := 9) hX dJ1_charAt_3b067_8 (by rw [hG]; exact fun _ _ _ z => (z.2.2.2.2.2.1 i (by omega)).2.2.2.2.2.2) (by omega) (by omega) rfl ?_
  change V X 0 0 ([]) [some (.ref (sa (30 + i))), some (.int (nI j))] [.int (nI ((frm i).getD j 0))] 9
  refine r_sipush (pc' := 12) (v := nI 255) hX dJ1_charAt_3b067_9 rfl rfl ?_
  refine r_iand_255 (pc' := 13) hX dJ1_charAt_3b067_12 (by omega) rfl ?_
  refine r_i2c_N (pc' := 14) hX dJ1_charAt_3b067_13 (by omega) rfl ?_
  exact r_zreturn hX hE dJ1_charAt_3b067_14 rfl ((pk_charN (by omega)).1) ⟨rfl, rfl⟩ (by decide) (by decide)

set_option maxRecDepth 20000 in
set_option maxHeartbeats 1000000 in
theorem cJ_sat {l : Launch} {D : va_G} {cy : Nat → ClassId} {sa : Nat → Nat} {i j : Nat} (hi : i < 9) (hj : j < (frm i).length) : MG l yJ0_charAt_5068e cJ0_charAt_5068e 2 (some .char) 3 0 0 (D, cy, sa) [.ref (sa (20 + i)), .int (nI j)] ([]) (fun w u => w = some (.int (nI ((frm i).getD j 0))) ∧ u = []) := by
  refine MG_by (own := RJ0) (L := [some (.ref (sa (20 + i))), some (.int (nI j))]) (by decide +kernel) rfl rfl (Nat.le_of_ble_eq_true rfl) 0 rfl (fun X hX hE hnL hG hcy hnm => ?_)
  have hfb := frm_b i j
  refine r_aload_n (pc' := 1) hX dJ0_charAt_5068e_0 rfl rfl ?_
  refine V_calln (k' := 0) (n' := 0) (pc' := 4) hX (r_runVO (As := []) hX dJ0_charAt_5068e_1 k_J0_492 (fun l9 hl9 => cJ_lat0 (by omega)) hG (by rw [hG]; exact fun _ _ _ z => (z.2.2.2.2.2.1 i (by omega)).2.2.2.1) rfl rfl (Nat.le_of_ble_eq_true rfl) (by decide) (by decide) (by decide) (by decide)) rfl rfl rfl (fun w9 hp9 => ?_)
  obtain rfl := hp9
  change V X 0 0 ([]) [some (.ref (sa (20 + i))), some (.int (nI j))] [.int (nI 1)] 4
  refine r_if_eq_N (tgt := 16) (pc' := 7) hX dJ0_charAt_5068e_4 (by decide) rfl (by omega) (fun c4 => ?_) (fun c4 => ?_)
  · exact absurd c4 (by omega)
  · refine r_aload_n (pc' := 8) hX dJ0_charAt_5068e_7 rfl rfl ?_
    refine r_getO (pc' := 11) (C := "java/lang/String") (n1 := "value") (d1 := "[B") (v := .ref (sa (30 + i))) hX dJ0_charAt_5068e_8 (by rw [hG]; exact fun _ _ _ z => (z.2.2.2.2.2.1 i (by omega)).2.2.2.2.2.1) (m5 (j := 16) rfl rfl) rfl ?_
    refine r_iload_n (pc' := 12) hX dJ0_charAt_5068e_11 rfl rfl ?_
    refine V_calln (k' := 0) (n' := 0) (pc' := 15) hX (r_runS (As := [.ref (sa (30 + i)), .int (nI j)]) hX dJ0_charAt_5068e_12 k_J0_495 (fun l9 hl9 => cJ_at1 (by omega) (by omega)) hG rfl rfl (Nat.le_of_ble_eq_true rfl) (by decide) (by decide) (by decide) (by decide)) rfl rfl rfl (fun w9 hp9 => ?_)
    obtain rfl := hp9
    change V X 0 0 ([]) [some (.ref (sa (20 + i))), some (.int (nI j))] [.int (nI ((frm i).getD j 0))] 15
    exact r_zreturn hX hE dJ0_charAt_5068e_15 rfl ((pk_charN (by omega)).1) ⟨rfl, rfl⟩ (by decide) (by decide)

set_option maxRecDepth 20000 in
set_option maxHeartbeats 1000000 in
theorem cJ_init5 {l : Launch} {D : va_G} {cy : Nat → ClassId} {sa : Nat → Nat} {a : Nat} : MG l yJ5_init_d00df cJ5_init_d00df 2 none 1 1 16 (D, cy, sa) [.ref a, .int (nI 16)] ([(a, .inr (1, [.null, .int (nI 0), .int (nI 0), .int (nI 0)]))]) (fun w u => w = none ∧ ∃ q1, u = wSB cy a q1 16 0 0 (fun _ => 0)) := by
  refine MG_by (own := RJ5) (L := [some (.ref a), some (.int (nI 16))]) (by decide +kernel) rfl rfl (Nat.le_of_ble_eq_true rfl) 0 rfl (fun X hX hE hnL hG hcy hnm => ?_)
  refine r_aload_n (pc' := 1) hX dJ5_init_d00df_0 rfl rfl ?_
  refine r_objInit (pc' := 4) hX dJ5_init_d00df_1 (m1 (j := 158) rfl rfl) (by decide) (Nat.le_of_ble_eq_true rfl) rfl ?_
  refine r_gets (pc' := 7) (C := "java/lang/String") (n1 := "COMPACT_STRINGS") (d1 := "Z") (v := .int (nI 1)) hX dJ5_init_d00df_4 (by rw [hG]; exact fun _ _ _ z => z.1) (m1 (j := 159) rfl rfl) rfl ?_
  refine r_if_eq_N (tgt := 25) (pc' := 10) hX dJ5_init_d00df_7 (by decide) rfl (by omega) (fun c7 => ?_) (fun c7 => ?_)
  · exact absurd c7 (by omega)
  · refine r_aload_n (pc' := 11) hX dJ5_init_d00df_10 rfl rfl ?_
    refine r_iload_n (pc' := 12) hX dJ5_init_d00df_11 rfl rfl ?_
    refine r_newB (N := 16) (k' := 1) (n' := 16) (pc' := 14) hX dJ5_init_d00df_12 hcy (by omega) rfl rfl (by decide) (by decide) rfl (fun q12 => ?_)
    change V X 1 16 ([(a, .inr (1, [.null, .int (nI 0), .int (nI 0), .int (nI 0)])), (q12, .inl (cy 2, aN 16 (fun _ => 0)))]) [some (.ref a), some (.int (nI 16))] [.ref q12, .ref a] 14
    refine r_put (ws' := [(a, .inr (1, [.ref q12, .int (nI 0), .int (nI 0), .int (nI 0)])), (q12, .inl (cy 2, aN 16 (fun _ => 0)))]) (pc' := 17) hX dJ5_init_d00df_14 f_J5_15 fw_J4_0 0 rfl rfl rfl (Nat.le_of_ble_eq_true rfl) rfl rfl ?_
    refine r_aload_n (pc' := 18) hX dJ5_init_d00df_17 rfl rfl ?_
    refine r_iconst (pc' := 19) (v := nI 0) hX dJ5_init_d00df_18 rfl rfl ?_
    refine r_put (ws' := [(a, .inr (1, [.ref q12, .int (nI 0), .int (nI 0), .int (nI 0)])), (q12, .inl (cy 2, aN 16 (fun _ => 0)))]) (pc' := 22) hX dJ5_init_d00df_19 f_J5_22 fw_J4_1 0 rfl rfl rfl (Nat.le_of_ble_eq_true rfl) rfl rfl ?_
    refine r_goto (tgt := 38) hX dJ5_init_d00df_22 (by decide) ?_
    exact r_vreturn hX hE dJ5_init_d00df_38 rfl ⟨rfl, _, rfl⟩ (by omega) (by omega)

set_option maxRecDepth 20000 in
set_option maxHeartbeats 1000000 in
theorem cJ_init {l : Launch} {D : va_G} {cy : Nat → ClassId} {sa : Nat → Nat} {a : Nat} : MG l yJ4_init_da8c8 cJ4_init_da8c8 1 none 2 1 16 (D, cy, sa) [.ref a] ([(a, .inr (1, [.null, .int (nI 0), .int (nI 0), .int (nI 0)]))]) (fun w u => w = none ∧ ∃ q1, u = wSB cy a q1 16 0 0 (fun _ => 0)) := by
  refine MG_by (own := RJ4) (L := [some (.ref a)]) (by decide +kernel) rfl rfl (Nat.le_of_ble_eq_true rfl) 0 rfl (fun X hX hE hnL hG hcy hnm => ?_)
  refine r_aload_n (pc' := 1) hX dJ4_init_da8c8_0 rfl rfl ?_
  refine r_bipush (pc' := 3) (v := nI 16) hX dJ4_init_da8c8_1 rfl rfl ?_
  refine V_call (k' := 1) (n' := 16) (pc' := 6) (wr := ([] : va_W)) hX (r_runI (ret := none) (As := [.int (nI 16)]) hX dJ4_init_da8c8_3 k_J4_1 (fun l9 hl9 => cJ_init5) hG rfl rfl (Nat.le_of_ble_eq_true rfl) (by decide) (by decide) (by decide) (by decide)) (er_perm (i := 0) rfl) rfl rfl rfl (fun w9 u9 hp9 => ?_)
  obtain ⟨rfl, q17, rfl⟩ := hp9
  change V X 1 16 ([(a, .inr (1, [.ref q17, .int (nI 0), .int (nI 0), .int (nI 0)])), (q17, .inl (cy 2, aN 16 (fun _ => 0)))]) [some (.ref a)] [] 6
  exact r_vreturn hX hE dJ4_init_da8c8_6 rfl ⟨rfl, _, rfl⟩ (by omega) (by omega)
