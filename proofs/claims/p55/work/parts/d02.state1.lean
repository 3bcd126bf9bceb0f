/-! ===== State: what it answers ===== -/
set_option maxRecDepth 20000 in
set_option maxHeartbeats 4000000 in
theorem cS_hasAlloy {l : Launch} {D : va_G} {cy : Nat → ClassId} {sa : Nat → Nat} {ad : Nat → Nat} {v : SV} {x : Int32} (hv : Wf v) : MG l yX4_hasAlloy cX4_hasAlloy 2 (some .boolean) 0 0 0 (D, cy, sa) [.ref (ad 0), .int x] (wSt cy ad v) (fun w u => w = some (.int (bI (inR x (v 0 0)))) ∧ u = wSt cy ad v) := by
  obtain ⟨wa, wm, wb, ws, wt, wc, wB, wR, wL, wK, wP⟩ := hv
  refine MG_by (own := RX4) (L := [some (.ref (ad 0)), some (.int x)]) (by decide +kernel) rfl rfl (Nat.le_of_ble_eq_true rfl) 0 rfl (fun X hX hE hnL hG hcy hnm => ?_)
  refine r_iload_n (pc' := 1) hX dX4_hasAlloy_0 rfl rfl ?_
  refine r_if_lt_I (tgt := 16) (pc' := 4) hX dX4_hasAlloy_1 (by decide) rfl rfl (fun c1 => ?_) (fun c1 => ?_)
  · refine r_iconst (pc' := 17) (v := nI 0) hX dX4_hasAlloy_16 rfl rfl ?_
    exact r_zreturn hX hE dX4_hasAlloy_17 rfl rfl ⟨rB0 (by unfold inR; omega), rfl⟩ (by decide) (by decide)
  · refine r_iload_n (pc' := 5) hX dX4_hasAlloy_4 rfl rfl ?_
    refine r_aload_n (pc' := 6) hX dX4_hasAlloy_5 rfl rfl ?_
    refine r_get (pc' := 9) (v := .int (nI (v 0 0))) hX dX4_hasAlloy_6 f_X4_9 0 rfl rfl rfl ?_
    refine r_icmp_ge_I (tgt := 16) (pc' := 12) hX dX4_hasAlloy_9 (by decide) rfl rfl (nI_I (by omega)) (fun c9 => ?_) (fun c9 => ?_)
    · refine r_iconst (pc' := 17) (v := nI 0) hX dX4_hasAlloy_16 rfl rfl ?_
      exact r_zreturn hX hE dX4_hasAlloy_17 rfl rfl ⟨rB0 (by unfold inR; omega), rfl⟩ (by decide) (by decide)
    · refine r_iconst (pc' := 13) (v := nI 1) hX dX4_hasAlloy_12 rfl rfl ?_
      refine r_goto (tgt := 17) hX dX4_hasAlloy_13 (by decide) ?_
      exact r_zreturn hX hE dX4_hasAlloy_17 rfl rfl ⟨rB1 (by unfold inR; omega), rfl⟩ (by decide) (by decide)

set_option maxRecDepth 20000 in
set_option maxHeartbeats 4000000 in
theorem cS_hasMould {l : Launch} {D : va_G} {cy : Nat → ClassId} {sa : Nat → Nat} {ad : Nat → Nat} {v : SV} {x : Int32} (hv : Wf v) : MG l yX4_hasMould cX4_hasMould 2 (some .boolean) 0 0 0 (D, cy, sa) [.ref (ad 0), .int x] (wSt cy ad v) (fun w u => w = some (.int (bI (inR x (v 0 1)))) ∧ u = wSt cy ad v) := by
  obtain ⟨wa, wm, wb, ws, wt, wc, wB, wR, wL, wK, wP⟩ := hv
  refine MG_by (own := RX4) (L := [some (.ref (ad 0)), some (.int x)]) (by decide +kernel) rfl rfl (Nat.le_of_ble_eq_true rfl) 0 rfl (fun X hX hE hnL hG hcy hnm => ?_)
  refine r_iload_n (pc' := 1) hX dX4_hasMould_0 rfl rfl ?_
  refine r_if_lt_I (tgt := 16) (pc' := 4) hX dX4_hasMould_1 (by decide) rfl rfl (fun c1 => ?_) (fun c1 => ?_)
  · refine r_iconst (pc' := 17) (v := nI 0) hX dX4_hasMould_16 rfl rfl ?_
    exact r_zreturn hX hE dX4_hasMould_17 rfl rfl ⟨rB0 (by unfold inR; omega), rfl⟩ (by decide) (by decide)
  · refine r_iload_n (pc' := 5) hX dX4_hasMould_4 rfl rfl ?_
    refine r_aload_n (pc' := 6) hX dX4_hasMould_5 rfl rfl ?_
    refine r_get (pc' := 9) (v := .int (nI (v 0 1))) hX dX4_hasMould_6 f_X4_20 0 rfl rfl rfl ?_
    refine r_icmp_ge_I (tgt := 16) (pc' := 12) hX dX4_hasMould_9 (by decide) rfl rfl (nI_I (by omega)) (fun c9 => ?_) (fun c9 => ?_)
    · refine r_iconst (pc' := 17) (v := nI 0) hX dX4_hasMould_16 rfl rfl ?_
      exact r_zreturn hX hE dX4_hasMould_17 rfl rfl ⟨rB0 (by unfold inR; omega), rfl⟩ (by decide) (by decide)
    · refine r_iconst (pc' := 13) (v := nI 1) hX dX4_hasMould_12 rfl rfl ?_
      refine r_goto (tgt := 17) hX dX4_hasMould_13 (by decide) ?_
      exact r_zreturn hX hE dX4_hasMould_17 rfl rfl ⟨rB1 (by unfold inR; omega), rfl⟩ (by decide) (by decide)

set_option maxRecDepth 20000 in
set_option maxHeartbeats 4000000 in
theorem cS_isMetal {l : Launch} {D : va_G} {cy : Nat → ClassId} {sa : Nat → Nat} {x : Int32} : MG l yX4_isMetal cX4_isMetal 1 (some .boolean) 0 0 0 (D, cy, sa) [.int x] ([]) (fun w u => w = some (.int (bI (inR x 3))) ∧ u = []) := by
  refine MG_by (own := RX4) (L := [some (.int x)]) (by decide +kernel) rfl rfl (Nat.le_of_ble_eq_true rfl) 0 rfl (fun X hX hE hnL hG hcy hnm => ?_)
  refine r_iload_n (pc' := 1) hX dX4_isMetal_0 rfl rfl ?_
  refine r_if_lt_I (tgt := 13) (pc' := 4) hX dX4_isMetal_1 (by decide) rfl rfl (fun c1 => ?_) (fun c1 => ?_)
  · refine r_iconst (pc' := 14) (v := nI 0) hX dX4_isMetal_13 rfl rfl ?_
    exact r_zreturn hX hE dX4_isMetal_14 rfl rfl ⟨rB0 (by unfold inR; omega), rfl⟩ (by decide) (by decide)
  · refine r_iload_n (pc' := 5) hX dX4_isMetal_4 rfl rfl ?_
    refine r_iconst (pc' := 6) (v := nI 3) hX dX4_isMetal_5 rfl rfl ?_
    refine r_icmp_ge_I (tgt := 13) (pc' := 9) hX dX4_isMetal_6 (by decide) rfl rfl (nI_I (by omega)) (fun c6 => ?_) (fun c6 => ?_)
    · refine r_iconst (pc' := 14) (v := nI 0) hX dX4_isMetal_13 rfl rfl ?_
      exact r_zreturn hX hE dX4_isMetal_14 rfl rfl ⟨rB0 (by unfold inR; omega), rfl⟩ (by decide) (by decide)
    · refine r_iconst (pc' := 10) (v := nI 1) hX dX4_isMetal_9 rfl rfl ?_
      refine r_goto (tgt := 14) hX dX4_isMetal_10 (by decide) ?_
      exact r_zreturn hX hE dX4_isMetal_14 rfl rfl ⟨rB1 (by unfold inR; omega), rfl⟩ (by decide) (by decide)

set_option maxRecDepth 20000 in
set_option maxHeartbeats 4000000 in
theorem cS_isPart {l : Launch} {D : va_G} {cy : Nat → ClassId} {sa : Nat → Nat} {x : Int32} : MG l yX4_isPart cX4_isPart 1 (some .boolean) 0 0 0 (D, cy, sa) [.int x] ([]) (fun w u => w = some (.int (bI (inR x 10))) ∧ u = []) := by
  refine MG_by (own := RX4) (L := [some (.int x)]) (by decide +kernel) rfl rfl (Nat.le_of_ble_eq_true rfl) 0 rfl (fun X hX hE hnL hG hcy hnm => ?_)
  refine r_iload_n (pc' := 1) hX dX4_isPart_0 rfl rfl ?_
  refine r_if_lt_I (tgt := 14) (pc' := 4) hX dX4_isPart_1 (by decide) rfl rfl (fun c1 => ?_) (fun c1 => ?_)
  · refine r_iconst (pc' := 15) (v := nI 0) hX dX4_isPart_14 rfl rfl ?_
    exact r_zreturn hX hE dX4_isPart_15 rfl rfl ⟨rB0 (by unfold inR; omega), rfl⟩ (by decide) (by decide)
  · refine r_iload_n (pc' := 5) hX dX4_isPart_4 rfl rfl ?_
    refine r_bipush (pc' := 7) (v := nI 9) hX dX4_isPart_5 rfl rfl ?_
    refine r_icmp_gt_I (tgt := 14) (pc' := 10) hX dX4_isPart_7 (by decide) rfl rfl (nI_I (by omega)) (fun c7 => ?_) (fun c7 => ?_)
    · refine r_iconst (pc' := 15) (v := nI 0) hX dX4_isPart_14 rfl rfl ?_
      exact r_zreturn hX hE dX4_isPart_15 rfl rfl ⟨rB0 (by unfold inR; omega), rfl⟩ (by decide) (by decide)
    · refine r_iconst (pc' := 11) (v := nI 1) hX dX4_isPart_10 rfl rfl ?_
      refine r_goto (tgt := 15) hX dX4_isPart_11 (by decide) ?_
      exact r_zreturn hX hE dX4_isPart_15 rfl rfl ⟨rB1 (by unfold inR; omega), rfl⟩ (by decide) (by decide)

set_option maxRecDepth 20000 in
set_option maxHeartbeats 4000000 in
theorem cS_partsOf {l : Launch} {D : va_G} {cy : Nat → ClassId} {sa : Nat → Nat} {ad : Nat → Nat} {v : SV} {x y : Int32} (hv : Wf v) : MG l yX4_partsOf cX4_partsOf 3 (some .int) 1 0 0 (D, cy, sa) [.ref (ad 0), .int x, .int y] (wSt cy ad v) (fun w u => w = some (.int (if inR x (v 0 0) ∧ inR y 3 then nI (v (7 + tn x) (tn y)) else -1)) ∧ u = wSt cy ad v) := by
  have hv0 := hv
  obtain ⟨wa, wm, wb, ws, wt, wc, wB, wR, wL, wK, wP⟩ := hv
  refine MG_by (own := RX4) (L := [some (.ref (ad 0)), some (.int x), some (.int y)]) (by decide +kernel) rfl rfl (Nat.le_of_ble_eq_true rfl) 0 rfl (fun X hX hE hnL hG hcy hnm => ?_)
  refine r_aload_n (pc' := 1) hX dX4_partsOf_0 rfl rfl ?_
  refine r_iload_n (pc' := 2) hX dX4_partsOf_1 rfl rfl ?_
  refine V_call0 (k' := 0) (n' := 0) (pc' := 5) hX (r_runV (As := [.int x]) hX dX4_partsOf_2 k_X4_85 (fun l9 hl9 => cS_hasAlloy hv0) hG ⟨6, _, TX4, 17, List.mem_cons_self, rfl⟩ rfl rfl (Nat.le_of_ble_eq_true rfl) (by decide) (by decide) (by decide) (by decide)) rfl rfl rfl (fun w9 u9 hp9 => ?_)
  obtain ⟨rfl, rfl⟩ := hp9
  change V X 0 0 (wSt cy ad v) [some (.ref (ad 0)), some (.int x), some (.int y)] [.int (bI (inR x (v 0 0)))] 5
  refine r_if_eq_B (tgt := 26) (pc' := 8) hX dX4_partsOf_5 (by decide) rfl (fun c5 => ?_) (fun c5 => ?_)
  · refine r_iconst (pc' := 27) (v := (-1)) hX dX4_partsOf_26 rfl rfl ?_
    exact r_ireturn hX hE dX4_partsOf_27 rfl ⟨rI (if_neg (by rintro ⟨q1, q2⟩; first | exact c5 q1 | exact c12 q2)).symm, rfl⟩ (by decide) (by decide)
  · obtain ⟨j, hj, rfl⟩ := nat_of c5
    refine r_iload_n (pc' := 9) hX dX4_partsOf_8 rfl rfl ?_
    refine V_calln (k' := 0) (n' := 0) (pc' := 12) hX (r_runS (As := [.int y]) hX dX4_partsOf_9 k_X4_82 (fun l9 hl9 => cS_isMetal) hG rfl rfl (Nat.le_of_ble_eq_true rfl) (by decide) (by decide) (by decide) (by decide)) rfl rfl rfl (fun w9 hp9 => ?_)
    obtain rfl := hp9
    change V X 0 0 (wSt cy ad v) [some (.ref (ad 0)), some (.int (nI j)), some (.int y)] [.int (bI (inR y 3))] 12
    refine r_if_eq_B (tgt := 26) (pc' := 15) hX dX4_partsOf_12 (by decide) rfl (fun c12 => ?_) (fun c12 => ?_)
    · refine r_iconst (pc' := 27) (v := (-1)) hX dX4_partsOf_26 rfl rfl ?_
      exact r_ireturn hX hE dX4_partsOf_27 rfl ⟨rI (if_neg (by rintro ⟨q1, q2⟩; first | exact c5 q1 | exact c12 q2)).symm, rfl⟩ (by decide) (by decide)
    · obtain ⟨i, hi, rfl⟩ := nat_of c12
      refine r_aload_n (pc' := 16) hX dX4_partsOf_15 rfl rfl ?_
      refine r_get (pc' := 19) (v := .ref (ad 1)) hX dX4_partsOf_16 f_X4_17 0 rfl rfl rfl ?_
      refine r_iload_n (pc' := 20) hX dX4_partsOf_19 rfl rfl ?_
      refine r_aaldR (pc' := 21) hX dX4_partsOf_20 hcy (by omega) rfl ?_
      refine r_iload_n (pc' := 22) hX dX4_partsOf_21 rfl rfl ?_
      refine r_ialdR (pc' := 23) hX dX4_partsOf_22 (by rw [hcy]) (by omega) (by omega) rfl ?_
      refine r_goto (tgt := 27) hX dX4_partsOf_23 (by decide) ?_
      exact r_ireturn hX hE dX4_partsOf_27 rfl ⟨rI (by rw [if_pos ⟨c5, c12⟩, tn_nI (by omega), tn_nI (by omega)]), rfl⟩ (by decide) (by decide)

set_option maxRecDepth 20000 in
set_option maxHeartbeats 4000000 in
theorem cS_lengthOf {l : Launch} {D : va_G} {cy : Nat → ClassId} {sa : Nat → Nat} {ad : Nat → Nat} {v : SV} {x : Int32} (hv : Wf v) : MG l yX4_lengthOf cX4_lengthOf 2 (some .int) 1 0 0 (D, cy, sa) [.ref (ad 0), .int x] (wSt cy ad v) (fun w u => w = some (.int (if inR x (v 0 1) then nI (v 1 (tn x)) else -1)) ∧ u = wSt cy ad v) := by
  have hv0 := hv
  obtain ⟨wa, wm, wb, ws, wt, wc, wB, wR, wL, wK, wP⟩ := hv
  refine MG_by (own := RX4) (L := [some (.ref (ad 0)), some (.int x)]) (by decide +kernel) rfl rfl (Nat.le_of_ble_eq_true rfl) 0 rfl (fun X hX hE hnL hG hcy hnm => ?_)
  refine r_aload_n (pc' := 1) hX dX4_lengthOf_0 rfl rfl ?_
  refine r_iload_n (pc' := 2) hX dX4_lengthOf_1 rfl rfl ?_
  refine V_call0 (k' := 0) (n' := 0) (pc' := 5) hX (r_runV (As := [.int x]) hX dX4_lengthOf_2 k_X4_88 (fun l9 hl9 => cS_hasMould hv0) hG ⟨6, _, TX4, 17, List.mem_cons_self, rfl⟩ rfl rfl (Nat.le_of_ble_eq_true rfl) (by decide) (by decide) (by decide) (by decide)) rfl rfl rfl (fun w9 u9 hp9 => ?_)
  obtain ⟨rfl, rfl⟩ := hp9
  change V X 0 0 (wSt cy ad v) [some (.ref (ad 0)), some (.int x)] [.int (bI (inR x (v 0 1)))] 5
  refine r_if_eq_B (tgt := 17) (pc' := 8) hX dX4_lengthOf_5 (by decide) rfl (fun c5 => ?_) (fun c5 => ?_)
  · refine r_iconst (pc' := 18) (v := (-1)) hX dX4_lengthOf_17 rfl rfl ?_
    exact r_ireturn hX hE dX4_lengthOf_18 rfl ⟨rI (if_neg c5).symm, rfl⟩ (by decide) (by decide)
  · obtain ⟨j, hj, rfl⟩ := nat_of c5
    refine r_aload_n (pc' := 9) hX dX4_lengthOf_8 rfl rfl ?_
    refine r_get (pc' := 12) (v := .ref (ad 8)) hX dX4_lengthOf_9 f_X4_23 0 rfl rfl rfl ?_
    refine r_iload_n (pc' := 13) hX dX4_lengthOf_12 rfl rfl ?_
    refine r_iald_N (pc' := 14) hX dX4_lengthOf_13 (by rw [hcy]) 8 rfl (by omega) (by decide) rfl ?_
    change V X 0 0 (wSt cy ad v) [some (.ref (ad 0)), some (.int (nI j))] [.int (nI (v 1 j))] 14
    refine r_goto (tgt := 18) hX dX4_lengthOf_14 (by decide) ?_
    exact r_ireturn hX hE dX4_lengthOf_18 rfl ⟨rI (by rw [if_pos c5, tn_nI (by omega)]), rfl⟩ (by decide) (by decide)

set_option maxRecDepth 20000 in
set_option maxHeartbeats 4000000 in
theorem cS_usesOf {l : Launch} {D : va_G} {cy : Nat → ClassId} {sa : Nat → Nat} {ad : Nat → Nat} {v : SV} {x : Int32} (hv : Wf v) : MG l yX4_usesOf cX4_usesOf 2 (some .int) 1 0 0 (D, cy, sa) [.ref (ad 0), .int x] (wSt cy ad v) (fun w u => w = some (.int (if inR x (v 0 1) then nI (v 2 (tn x)) else -1)) ∧ u = wSt cy ad v) := by
  have hv0 := hv
  obtain ⟨wa, wm, wb, ws, wt, wc, wB, wR, wL, wK, wP⟩ := hv
  refine MG_by (own := RX4) (L := [some (.ref (ad 0)), some (.int x)]) (by decide +kernel) rfl rfl (Nat.le_of_ble_eq_true rfl) 0 rfl (fun X hX hE hnL hG hcy hnm => ?_)
  refine r_aload_n (pc' := 1) hX dX4_usesOf_0 rfl rfl ?_
  refine r_iload_n (pc' := 2) hX dX4_usesOf_1 rfl rfl ?_
  refine V_call0 (k' := 0) (n' := 0) (pc' := 5) hX (r_runV (As := [.int x]) hX dX4_usesOf_2 k_X4_88 (fun l9 hl9 => cS_hasMould hv0) hG ⟨6, _, TX4, 17, List.mem_cons_self, rfl⟩ rfl rfl (Nat.le_of_ble_eq_true rfl) (by decide) (by decide) (by decide) (by decide)) rfl rfl rfl (fun w9 u9 hp9 => ?_)
  obtain ⟨rfl, rfl⟩ := hp9
  change V X 0 0 (wSt cy ad v) [some (.ref (ad 0)), some (.int x)] [.int (bI (inR x (v 0 1)))] 5
  refine r_if_eq_B (tgt := 17) (pc' := 8) hX dX4_usesOf_5 (by decide) rfl (fun c5 => ?_) (fun c5 => ?_)
  · refine r_iconst (pc' := 18) (v := (-1)) hX dX4_usesOf_17 rfl rfl ?_
    exact r_ireturn hX hE dX4_usesOf_18 rfl ⟨rI (if_neg c5).symm, rfl⟩ (by decide) (by decide)
  · obtain ⟨j, hj, rfl⟩ := nat_of c5
    refine r_aload_n (pc' := 9) hX dX4_usesOf_8 rfl rfl ?_
    refine r_get (pc' := 12) (v := .ref (ad 9)) hX dX4_usesOf_9 f_X4_27 0 rfl rfl rfl ?_
    refine r_iload_n (pc' := 13) hX dX4_usesOf_12 rfl rfl ?_
    refine r_iald_N (pc' := 14) hX dX4_usesOf_13 (by rw [hcy]) 9 rfl (by omega) (by decide) rfl ?_
    change V X 0 0 (wSt cy ad v) [some (.ref (ad 0)), some (.int (nI j))] [.int (nI (v 2 j))] 14
    refine r_goto (tgt := 18) hX dX4_usesOf_14 (by decide) ?_
    exact r_ireturn hX hE dX4_usesOf_18 rfl ⟨rI (by rw [if_pos c5, tn_nI (by omega)]), rfl⟩ (by decide) (by decide)

set_option maxRecDepth 20000 in
set_option maxHeartbeats 4000000 in
theorem cS_stockOf {l : Launch} {D : va_G} {cy : Nat → ClassId} {sa : Nat → Nat} {ad : Nat → Nat} {v : SV} {x : Int32} (hv : Wf v) : MG l yX4_stockOf cX4_stockOf 2 (some .int) 1 0 0 (D, cy, sa) [.ref (ad 0), .int x] (wSt cy ad v) (fun w u => w = some (.int (if inR x 3 then nI (v 3 (tn x)) else -1)) ∧ u = wSt cy ad v) := by
  have hv0 := hv
  obtain ⟨wa, wm, wb, ws, wt, wc, wB, wR, wL, wK, wP⟩ := hv
  refine MG_by (own := RX4) (L := [some (.ref (ad 0)), some (.int x)]) (by decide +kernel) rfl rfl (Nat.le_of_ble_eq_true rfl) 0 rfl (fun X hX hE hnL hG hcy hnm => ?_)
  refine r_iload_n (pc' := 1) hX dX4_stockOf_0 rfl rfl ?_
  refine V_calln (k' := 0) (n' := 0) (pc' := 4) hX (r_runS (As := [.int x]) hX dX4_stockOf_1 k_X4_82 (fun l9 hl9 => cS_isMetal) hG rfl rfl (Nat.le_of_ble_eq_true rfl) (by decide) (by decide) (by decide) (by decide)) rfl rfl rfl (fun w9 hp9 => ?_)
  obtain rfl := hp9
  change V X 0 0 (wSt cy ad v) [some (.ref (ad 0)), some (.int x)] [.int (bI (inR x 3))] 4
  refine r_if_eq_B (tgt := 16) (pc' := 7) hX dX4_stockOf_4 (by decide) rfl (fun c4 => ?_) (fun c4 => ?_)
  · refine r_iconst (pc' := 17) (v := (-1)) hX dX4_stockOf_16 rfl rfl ?_
    exact r_ireturn hX hE dX4_stockOf_17 rfl ⟨rI (if_neg c4).symm, rfl⟩ (by decide) (by decide)
  · obtain ⟨j, hj, rfl⟩ := nat_of c4
    refine r_aload_n (pc' := 8) hX dX4_stockOf_7 rfl rfl ?_
    refine r_get (pc' := 11) (v := .ref (ad 10)) hX dX4_stockOf_8 f_X4_30 0 rfl rfl rfl ?_
    refine r_iload_n (pc' := 12) hX dX4_stockOf_11 rfl rfl ?_
    refine r_iald_N (pc' := 13) hX dX4_stockOf_12 (by rw [hcy]) 10 rfl (by omega) (by decide) rfl ?_
    change V X 0 0 (wSt cy ad v) [some (.ref (ad 0)), some (.int (nI j))] [.int (nI (v 3 j))] 13
    refine r_goto (tgt := 17) hX dX4_stockOf_13 (by decide) ?_
    exact r_ireturn hX hE dX4_stockOf_17 rfl ⟨rI (by rw [if_pos c4, tn_nI (by omega)]), rfl⟩ (by decide) (by decide)

set_option maxRecDepth 20000 in
set_option maxHeartbeats 4000000 in
theorem cS_lostOf {l : Launch} {D : va_G} {cy : Nat → ClassId} {sa : Nat → Nat} {ad : Nat → Nat} {v : SV} {x : Int32} (hv : Wf v) : MG l yX4_lostOf cX4_lostOf 2 (some .int) 1 0 0 (D, cy, sa) [.ref (ad 0), .int x] (wSt cy ad v) (fun w u => w = some (.int (if inR x 3 then nI (v 6 (tn x)) else -1)) ∧ u = wSt cy ad v) := by
  have hv0 := hv
  obtain ⟨wa, wm, wb, ws, wt, wc, wB, wR, wL, wK, wP⟩ := hv
  refine MG_by (own := RX4) (L := [some (.ref (ad 0)), some (.int x)]) (by decide +kernel) rfl rfl (Nat.le_of_ble_eq_true rfl) 0 rfl (fun X hX hE hnL hG hcy hnm => ?_)
  refine r_iload_n (pc' := 1) hX dX4_lostOf_0 rfl rfl ?_
  refine V_calln (k' := 0) (n' := 0) (pc' := 4) hX (r_runS (As := [.int x]) hX dX4_lostOf_1 k_X4_82 (fun l9 hl9 => cS_isMetal) hG rfl rfl (Nat.le_of_ble_eq_true rfl) (by decide) (by decide) (by decide) (by decide)) rfl rfl rfl (fun w9 hp9 => ?_)
  obtain rfl := hp9
  change V X 0 0 (wSt cy ad v) [some (.ref (ad 0)), some (.int x)] [.int (bI (inR x 3))] 4
  refine r_if_eq_B (tgt := 16) (pc' := 7) hX dX4_lostOf_4 (by decide) rfl (fun c4 => ?_) (fun c4 => ?_)
  · refine r_iconst (pc' := 17) (v := (-1)) hX dX4_lostOf_16 rfl rfl ?_
    exact r_ireturn hX hE dX4_lostOf_17 rfl ⟨rI (if_neg c4).symm, rfl⟩ (by decide) (by decide)
  · obtain ⟨j, hj, rfl⟩ := nat_of c4
    refine r_aload_n (pc' := 8) hX dX4_lostOf_7 rfl rfl ?_
    refine r_get (pc' := 11) (v := .ref (ad 13)) hX dX4_lostOf_8 f_X4_39 0 rfl rfl rfl ?_
    refine r_iload_n (pc' := 12) hX dX4_lostOf_11 rfl rfl ?_
    refine r_iald_N (pc' := 13) hX dX4_lostOf_12 (by rw [hcy]) 13 rfl (by omega) (by decide) rfl ?_
    change V X 0 0 (wSt cy ad v) [some (.ref (ad 0)), some (.int (nI j))] [.int (nI (v 6 j))] 13
    refine r_goto (tgt := 17) hX dX4_lostOf_13 (by decide) ?_
    exact r_ireturn hX hE dX4_lostOf_17 rfl ⟨rI (by rw [if_pos c4, tn_nI (by omega)]), rfl⟩ (by decide) (by decide)

set_option maxRecDepth 20000 in
set_option maxHeartbeats 4000000 in
theorem cS_placeWith {l : Launch} {D : va_G} {cy : Nat → ClassId} {sa : Nat → Nat} {ad : Nat → Nat} {v : SV} {x : Int32} (hv : Wf v) : MG l yX4_placeWith cX4_placeWith 3 (some .int) 0 0 0 (D, cy, sa) [.ref (ad 0), .int x] (wSt cy ad v) (fun w u => w = some (.int (if plc v x.toInt < v 0 4 then nI (plc v x.toInt) else -5)) ∧ u = wSt cy ad v) := by
  have hv0 := hv
  obtain ⟨wa, wm, wb, ws, wt, wc, wB, wR, wL, wK, wP⟩ := hv
  refine MG_by (own := RX4) (L := [some (.ref (ad 0)), some (.int x), none]) (by decide +kernel) rfl rfl (Nat.le_of_ble_eq_true rfl) 1 rfl (fun X hX hE hnL hG hcy hnm => ?_)
  refine r_iconst (pc' := 1) (v := nI 0) hX dX4_placeWith_0 rfl rfl ?_
  refine r_istore_n (L' := [some (.ref (ad 0)), some (.int x), some (.int (nI 0))]) (pc' := 2) hX dX4_placeWith_1 (nlt hnL (by decide)) rfl rfl rfl ?_
  have loop2 : ∀ (n9 : Nat) (i : Nat), v 0 4 - i < n9 → (i ≤ v 0 4) → (∀ j, j < i → ¬ (v (13 + j) 0 : Int) = x.toInt) → V X 0 0 (wSt cy ad v) [some (.ref (ad 0)), some (.int x), some (.int (nI i))] [] 2 := by
    intro n9
    induction n9 with
    | zero => intro i hm; exact absurd hm (Nat.not_lt_zero _)
    | succ n9 ih2 =>
      intro i hm hi hn
      refine r_iload_n (pc' := 3) hX dX4_placeWith_2 rfl rfl ?_
      refine r_aload_n (pc' := 4) hX dX4_placeWith_3 rfl rfl ?_
      refine r_get (pc' := 7) (v := .int (nI (v 0 4))) hX dX4_placeWith_4 f_X4_48 0 rfl rfl rfl ?_
      refine r_icmp_ge_N (tgt := 31) (pc' := 10) hX dX4_placeWith_7 (by decide) rfl (by omega) (by omega) (fun c7 => ?_) (fun c7 => ?_)
      · refine r_bipush (pc' := 33) (v := (-5)) hX dX4_placeWith_31 rfl rfl ?_
        have e : plc v x.toInt = v 0 4 := lst_no (fun j hj => hn j (by omega))
        exact r_ireturn hX hE dX4_placeWith_33 rfl ⟨rI (by rw [e, if_neg (by omega)]), rfl⟩ (by decide) (by decide)
      · obtain ⟨-, -, -, b0, b1, -⟩ := wB i c7
        refine r_aload_n (pc' := 11) hX dX4_placeWith_10 rfl rfl ?_
        refine r_get (pc' := 14) (v := .ref (ad 14)) hX dX4_placeWith_11 f_X4_53 0 rfl rfl rfl ?_
        refine r_iload_n (pc' := 15) hX dX4_placeWith_14 rfl rfl ?_
        refine r_aaldB (pc' := 16) hX dX4_placeWith_15 hcy (by omega) rfl ?_
        refine r_getB (pc' := 19) (x := .int (nI (v (13 + i) 0))) hX dX4_placeWith_16 f_X4_99 (by omega) rfl rfl ?_
        refine r_iload_n (pc' := 20) hX dX4_placeWith_19 rfl rfl ?_
        refine r_icmp_ne_I (tgt := 25) (pc' := 23) hX dX4_placeWith_20 (by decide) rfl (nI_I (by omega)) rfl (fun c20 => ?_) (fun c20 => ?_)
        · refine r_iinc_N (b := 1) (L' := [some (.ref (ad 0)), some (.int x), some (.int (nI (i + 1)))]) (pc' := 28) hX dX4_placeWith_25 rfl (nlt hnL (by decide)) rfl rfl rfl ?_
          refine r_goto (tgt := 2) hX dX4_placeWith_28 (by decide) ?_
          exact ih2 (i + 1) (by omega) (by omega) (fun j hj => (Nat.lt_succ_iff_lt_or_eq.mp hj).elim (hn j) (fun e9 => by rw [e9]; exact c20))
        · refine r_iload_n (pc' := 24) hX dX4_placeWith_23 rfl rfl ?_
          have e : plc v x.toInt = i := lst_at c20 hn (by omega)
          exact r_ireturn hX hE dX4_placeWith_24 rfl ⟨rI (by rw [e, if_pos (by omega)]), rfl⟩ (by decide) (by decide)
  exact loop2 _ 0 (Nat.lt_succ_self _) (by omega) (fun j hj => absurd hj (Nat.not_lt_zero _))

set_option maxRecDepth 20000 in
set_option maxHeartbeats 4000000 in
theorem cS_placeWithBow {l : Launch} {D : va_G} {cy : Nat → ClassId} {sa : Nat → Nat} {ad : Nat → Nat} {v : SV} {x : Int32} (hv : Wf v) : MG l yX4_placeWithBow cX4_placeWithBow 3 (some .int) 1 0 0 (D, cy, sa) [.ref (ad 0), .int x] (wSt cy ad v) (fun w u => w = some (.int (if plb v x.toInt < v 0 4 then nI (plb v x.toInt) else -5)) ∧ u = wSt cy ad v) := by
  have hv0 := hv
  obtain ⟨wa, wm, wb, ws, wt, wc, wB, wR, wL, wK, wP⟩ := hv
  refine MG_by (own := RX4) (L := [some (.ref (ad 0)), some (.int x), none]) (by decide +kernel) rfl rfl (Nat.le_of_ble_eq_true rfl) 1 rfl (fun X hX hE hnL hG hcy hnm => ?_)
  refine r_iconst (pc' := 1) (v := nI 0) hX dX4_placeWithBow_0 rfl rfl ?_
  refine r_istore_n (L' := [some (.ref (ad 0)), some (.int x), some (.int (nI 0))]) (pc' := 2) hX dX4_placeWithBow_1 (nlt hnL (by decide)) rfl rfl rfl ?_
  have loop2 : ∀ (n9 : Nat) (i : Nat), v 0 4 - i < n9 → (i ≤ v 0 4) → (∀ j, j < i → ¬ ((v (13 + j) 1 : Int) ≤ x.toInt ∧ x.toInt < (v (13 + j) 1 : Int) + (v (13 + j) 2 : Int))) → V X 0 0 (wSt cy ad v) [some (.ref (ad 0)), some (.int x), some (.int (nI i))] [] 2 := by
    intro n9
    induction n9 with
    | zero => intro i hm; exact absurd hm (Nat.not_lt_zero _)
    | succ n9 ih2 =>
      intro i hm hi hn
      refine r_iload_n (pc' := 3) hX dX4_placeWithBow_2 rfl rfl ?_
      refine r_aload_n (pc' := 4) hX dX4_placeWithBow_3 rfl rfl ?_
      refine r_get (pc' := 7) (v := .int (nI (v 0 4))) hX dX4_placeWithBow_4 f_X4_48 0 rfl rfl rfl ?_
      refine r_icmp_ge_N (tgt := 31) (pc' := 10) hX dX4_placeWithBow_7 (by decide) rfl (by omega) (by omega) (fun c7 => ?_) (fun c7 => ?_)
      · refine r_bipush (pc' := 33) (v := (-5)) hX dX4_placeWithBow_31 rfl rfl ?_
        have e : plb v x.toInt = v 0 4 := lst_no (fun j hj => hn j (by omega))
        exact r_ireturn hX hE dX4_placeWithBow_33 rfl ⟨rI (by rw [e, if_neg (by omega)]), rfl⟩ (by decide) (by decide)
      · obtain ⟨bz, -, -, b0, b1, -⟩ := wB i c7
        refine r_aload_n (pc' := 11) hX dX4_placeWithBow_10 rfl rfl ?_
        refine r_get (pc' := 14) (v := .ref (ad 14)) hX dX4_placeWithBow_11 f_X4_53 0 rfl rfl rfl ?_
        refine r_iload_n (pc' := 15) hX dX4_placeWithBow_14 rfl rfl ?_
        refine r_aaldB (pc' := 16) hX dX4_placeWithBow_15 hcy (by omega) rfl ?_
        refine r_iload_n (pc' := 17) hX dX4_placeWithBow_16 rfl rfl ?_
        refine V_call (k' := 0) (n' := 0) (pc' := 20) (wr := wSt0 cy ad v ++ wRest 8 i (wStB cy ad v)) hX (r_runV (As := [.int x]) hX dX4_placeWithBow_17 k_X4_138 (fun l9 hl9 => cB_contains (a := (ad (15 + i))) (q := (ad (23 + i))) (b := (v (13 + i))) (sq := (v (21 + i))) (by omega) (by omega)) hG ⟨4, _, TX1, 6, List.mem_cons_self, rfl⟩ rfl rfl (Nat.le_of_ble_eq_true rfl) (by decide) (by decide) (by decide) (by decide)) (wSt_split (by omega)) rfl rfl rfl (fun w9 u9 hp9 => ?_)
        obtain ⟨rfl, rfl⟩ := hp9
        change V X 0 0 (wStB cy ad v i ++ (wSt0 cy ad v ++ wRest 8 i (wStB cy ad v))) [some (.ref (ad 0)), some (.int x), some (.int (nI i))] [.int (bI ((v (13 + i) 1 : Int) ≤ x.toInt ∧ x.toInt < (v (13 + i) 1 : Int) + (v (13 + i) 2 : Int)))] 20
        refine V_perm ((wSt_split (by omega)).symm) ?_
        refine r_if_eq_B (tgt := 25) (pc' := 23) hX dX4_placeWithBow_20 (by decide) rfl (fun c20 => ?_) (fun c20 => ?_)
        · refine r_iinc_N (b := 1) (L' := [some (.ref (ad 0)), some (.int x), some (.int (nI (i + 1)))]) (pc' := 28) hX dX4_placeWithBow_25 rfl (nlt hnL (by decide)) rfl rfl rfl ?_
          refine r_goto (tgt := 2) hX dX4_placeWithBow_28 (by decide) ?_
          exact ih2 (i + 1) (by omega) (by omega) (fun j hj => (Nat.lt_succ_iff_lt_or_eq.mp hj).elim (hn j) (fun e9 => by rw [e9]; exact c20))
        · refine r_iload_n (pc' := 24) hX dX4_placeWithBow_23 rfl rfl ?_
          have e : plb v x.toInt = i := lst_at c20 hn (by omega)
          exact r_ireturn hX hE dX4_placeWithBow_24 rfl ⟨rI (by rw [e, if_pos (by omega)]), rfl⟩ (by decide) (by decide)
  exact loop2 _ 0 (Nat.lt_succ_self _) (by omega) (fun j hj => absurd hj (Nat.not_lt_zero _))

set_option maxRecDepth 20000 in
set_option maxHeartbeats 4000000 in
theorem cS_batchWith {l : Launch} {D : va_G} {cy : Nat → ClassId} {sa : Nat → Nat} {ad : Nat → Nat} {v : SV} {x : Int32} (hv : Wf v) : MG l yX4_batchWith cX4_batchWith 3 (some .int) 2 0 0 (D, cy, sa) [.ref (ad 0), .int x] (wSt cy ad v) (fun w u => w = some (.int (if plb v x.toInt < v 0 4 then nI (v (13 + plb v x.toInt) 0) else -5)) ∧ u = wSt cy ad v) := by
  have hv0 := hv
  obtain ⟨wa, wm, wb, ws, wt, wc, wB, wR, wL, wK, wP⟩ := hv
  refine MG_by (own := RX4) (L := [some (.ref (ad 0)), some (.int x), none]) (by decide +kernel) rfl rfl (Nat.le_of_ble_eq_true rfl) 1 rfl (fun X hX hE hnL hG hcy hnm => ?_)
  refine r_aload_n (pc' := 1) hX dX4_batchWith_0 rfl rfl ?_
  refine r_iload_n (pc' := 2) hX dX4_batchWith_1 rfl rfl ?_
  refine V_call0 (k' := 0) (n' := 0) (pc' := 5) hX (r_runV (As := [.int x]) hX dX4_batchWith_2 k_X4_141 (fun l9 hl9 => cS_placeWithBow hv0) hG ⟨6, _, TX4, 17, List.mem_cons_self, rfl⟩ rfl rfl (Nat.le_of_ble_eq_true rfl) (by decide) (by decide) (by decide) (by decide)) rfl rfl rfl (fun w9 u9 hp9 => ?_)
  obtain ⟨rfl, rfl⟩ := hp9
  by_cases hs : plb v x.toInt < v 0 4
  · rw [if_pos hs]
    obtain ⟨pl, hpl⟩ : ∃ z, z = plb v x.toInt := ⟨_, rfl⟩
    rw [← hpl] at hs ⊢
    change V X 0 0 (wSt cy ad v) [some (.ref (ad 0)), some (.int x), none] [.int (nI pl)] 5
    refine r_istore_n (L' := [some (.ref (ad 0)), some (.int x), some (.int (nI pl))]) (pc' := 6) hX dX4_batchWith_5 (nlt hnL (by decide)) rfl rfl rfl ?_
    refine r_iload_n (pc' := 7) hX dX4_batchWith_6 rfl rfl ?_
    refine r_if_ge_N (tgt := 15) (pc' := 10) hX dX4_batchWith_7 (by decide) rfl (by omega) (fun c7 => ?_) (fun c7 => ?_)
    · refine r_aload_n (pc' := 16) hX dX4_batchWith_15 rfl rfl ?_
      refine r_get (pc' := 19) (v := .ref (ad 14)) hX dX4_batchWith_16 f_X4_53 0 rfl rfl rfl ?_
      refine r_iload_n (pc' := 20) hX dX4_batchWith_19 rfl rfl ?_
      refine r_aaldB (pc' := 21) hX dX4_batchWith_20 hcy (by omega) rfl ?_
      refine r_getB (pc' := 24) (x := .int (nI (v (13 + pl) 0))) hX dX4_batchWith_21 f_X4_99 (by omega) rfl rfl ?_
      exact r_ireturn hX hE dX4_batchWith_24 rfl ⟨rI (by rw [← hpl, if_pos hs]), rfl⟩ (by decide) (by decide)
    · exact absurd c7 (by omega)
  · rw [if_neg hs]
    change V X 0 0 (wSt cy ad v) [some (.ref (ad 0)), some (.int x), none] [.int (-5)] 5
    refine r_istore_n (L' := [some (.ref (ad 0)), some (.int x), some (.int (-5))]) (pc' := 6) hX dX4_batchWith_5 (nlt hnL (by decide)) rfl rfl rfl ?_
    refine r_iload_n (pc' := 7) hX dX4_batchWith_6 rfl rfl ?_
    refine r_if_ge_I (tgt := 15) (pc' := 10) hX dX4_batchWith_7 (by decide) rfl (by decide : (-5 : Int32).toInt = -5) (fun c7 => ?_) (fun c7 => ?_)
    · exact absurd c7 (by omega)
    · refine r_bipush (pc' := 12) (v := (-5)) hX dX4_batchWith_10 rfl rfl ?_
      refine r_goto (tgt := 24) hX dX4_batchWith_12 (by decide) ?_
      exact r_ireturn hX hE dX4_batchWith_24 rfl ⟨rI (if_neg hs).symm, rfl⟩ (by decide) (by decide)

set_option maxRecDepth 20000 in
set_option maxHeartbeats 4000000 in
theorem cS_squeakOf {l : Launch} {D : va_G} {cy : Nat → ClassId} {sa : Nat → Nat} {ad : Nat → Nat} {v : SV} {x : Int32} (hv : Wf v) : MG l yX4_squeakOf cX4_squeakOf 4 (some .int) 2 0 0 (D, cy, sa) [.ref (ad 0), .int x] (wSt cy ad v) (fun w u => w = some (.int (if plb v x.toInt < v 0 4 then nI (v (21 + plb v x.toInt) (tn x - v (13 + plb v x.toInt) 1)) else -5)) ∧ u = wSt cy ad v) := by
  have hv0 := hv
  obtain ⟨wa, wm, wb, ws, wt, wc, wB, wR, wL, wK, wP⟩ := hv
  refine MG_by (own := RX4) (L := [some (.ref (ad 0)), some (.int x), none, none]) (by decide +kernel) rfl rfl (Nat.le_of_ble_eq_true rfl) 2 rfl (fun X hX hE hnL hG hcy hnm => ?_)
  refine r_aload_n (pc' := 1) hX dX4_squeakOf_0 rfl rfl ?_
  refine r_iload_n (pc' := 2) hX dX4_squeakOf_1 rfl rfl ?_
  refine V_call0 (k' := 0) (n' := 0) (pc' := 5) hX (r_runV (As := [.int x]) hX dX4_squeakOf_2 k_X4_141 (fun l9 hl9 => cS_placeWithBow hv0) hG ⟨6, _, TX4, 17, List.mem_cons_self, rfl⟩ rfl rfl (Nat.le_of_ble_eq_true rfl) (by decide) (by decide) (by decide) (by decide)) rfl rfl rfl (fun w9 u9 hp9 => ?_)
  obtain ⟨rfl, rfl⟩ := hp9
  by_cases hs : plb v x.toInt < v 0 4
  · rw [if_pos hs]
    obtain ⟨pl, hpl⟩ : ∃ z, z = plb v x.toInt := ⟨_, rfl⟩
    rw [← hpl] at hs ⊢
    change V X 0 0 (wSt cy ad v) [some (.ref (ad 0)), some (.int x), none, none] [.int (nI pl)] 5
    refine r_istore_n (L' := [some (.ref (ad 0)), some (.int x), some (.int (nI pl)), none]) (pc' := 6) hX dX4_squeakOf_5 (nlt hnL (by decide)) rfl rfl rfl ?_
    refine r_iload_n (pc' := 7) hX dX4_squeakOf_6 rfl rfl ?_
    refine r_if_ge_N (tgt := 13) (pc' := 10) hX dX4_squeakOf_7 (by decide) rfl (by omega) (fun c7 => ?_) (fun c7 => ?_)
    · obtain ⟨bz, -, -, b0, b1, -⟩ := wB pl hs
      have hsp : (v (13 + pl) 1 : Int) ≤ x.toInt ∧ x.toInt < (v (13 + pl) 1 : Int) + (v (13 + pl) 2 : Int) := by rw [hpl]; exact lst_spec (n := v 0 4) (by rw [hpl] at hs; exact hs)
      obtain ⟨j, hj, ej⟩ := nat_of (x := x) (n := 2000000) ⟨by omega, by omega⟩
      have etn : tn x = j := by rw [ej]; exact tn_nI (by omega)
      have eti : x.toInt = (j : Int) := by rw [ej]; exact nI_I (by omega)
      rw [show (some (Value.int x) : Option Value) = some (Value.int (nI j)) by rw [ej]]
      refine r_aload_n (pc' := 14) hX dX4_squeakOf_13 rfl rfl ?_
      refine r_get (pc' := 17) (v := .ref (ad 14)) hX dX4_squeakOf_14 f_X4_53 0 rfl rfl rfl ?_
      refine r_iload_n (pc' := 18) hX dX4_squeakOf_17 rfl rfl ?_
      refine r_aaldB (pc' := 19) hX dX4_squeakOf_18 hcy (by omega) rfl ?_
      refine r_astore_n (L' := [some (.ref (ad 0)), some (.int (nI j)), some (.int (nI pl)), some (.ref (ad (15 + pl)))]) (pc' := 20) hX dX4_squeakOf_19 (nlt hnL (by decide)) rfl rfl rfl ?_
      refine r_aload_n (pc' := 21) hX dX4_squeakOf_20 rfl rfl ?_
      refine r_getB (pc' := 24) (x := .ref (ad (23 + pl))) hX dX4_squeakOf_21 f_X4_115 (by omega) rfl rfl ?_
      refine r_iload_n (pc' := 25) hX dX4_squeakOf_24 rfl rfl ?_
      refine r_aload_n (pc' := 26) hX dX4_squeakOf_25 rfl rfl ?_
      refine r_getB (pc' := 29) (x := .int (nI (v (13 + pl) 1))) hX dX4_squeakOf_26 f_X4_102 (by omega) rfl rfl ?_
      refine r_isub_N (pc' := 30) hX dX4_squeakOf_29 (by omega) rfl ?_
      refine r_ialdB (pc' := 31) hX dX4_squeakOf_30 (by rw [hcy]) (by omega) (by omega) rfl ?_
      exact r_ireturn hX hE dX4_squeakOf_31 rfl ⟨rI (by rw [← hpl, if_pos hs, etn]), rfl⟩ (by decide) (by decide)
    · exact absurd c7 (by omega)
  · rw [if_neg hs]
    change V X 0 0 (wSt cy ad v) [some (.ref (ad 0)), some (.int x), none, none] [.int (-5)] 5
    refine r_istore_n (L' := [some (.ref (ad 0)), some (.int x), some (.int (-5)), none]) (pc' := 6) hX dX4_squeakOf_5 (nlt hnL (by decide)) rfl rfl rfl ?_
    refine r_iload_n (pc' := 7) hX dX4_squeakOf_6 rfl rfl ?_
    refine r_if_ge_I (tgt := 13) (pc' := 10) hX dX4_squeakOf_7 (by decide) rfl (by decide : (-5 : Int32).toInt = -5) (fun c7 => ?_) (fun c7 => ?_)
    · exact absurd c7 (by omega)
    · refine r_bipush (pc' := 12) (v := (-5)) hX dX4_squeakOf_10 rfl rfl ?_
      exact r_ireturn hX hE dX4_squeakOf_12 rfl ⟨rI (if_neg hs).symm, rfl⟩ (by decide) (by decide)

set_option maxRecDepth 20000 in
set_option maxHeartbeats 4000000 in
theorem cS_squeakToCome {l : Launch} {D : va_G} {cy : Nat → ClassId} {sa : Nat → Nat} {ad : Nat → Nat} {v : SV} {x y : Int32} (hv : Wf v) : MG l yX4_squeakToCome cX4_squeakToCome 5 (some .int) 1 0 0 (D, cy, sa) [.ref (ad 0), .int x, .int y] (wSt cy ad v) (fun w u => w = some (.int (if inR x (v 0 0) ∧ inR y (v 0 1) then nI (sqk v (tn x) (tn y)) else -1)) ∧ u = wSt cy ad v) := by
  have hv0 := hv
  obtain ⟨wa, wm, wb, ws, wt, wc, wB, wR, wL, wK, wP⟩ := hv
  refine MG_by (own := RX4) (L := [some (.ref (ad 0)), some (.int x), some (.int y), none, none]) (by decide +kernel) rfl rfl (Nat.le_of_ble_eq_true rfl) 2 rfl (fun X hX hE hnL hG hcy hnm => ?_)
  refine r_aload_n (pc' := 1) hX dX4_squeakToCome_0 rfl rfl ?_
  refine r_iload_n (pc' := 2) hX dX4_squeakToCome_1 rfl rfl ?_
  refine V_call0 (k' := 0) (n' := 0) (pc' := 5) hX (r_runV (As := [.int x]) hX dX4_squeakToCome_2 k_X4_85 (fun l9 hl9 => cS_hasAlloy hv0) hG ⟨6, _, TX4, 17, List.mem_cons_self, rfl⟩ rfl rfl (Nat.le_of_ble_eq_true rfl) (by decide) (by decide) (by decide) (by decide)) rfl rfl rfl (fun w9 u9 hp9 => ?_)
  obtain ⟨rfl, rfl⟩ := hp9
  change V X 0 0 (wSt cy ad v) [some (.ref (ad 0)), some (.int x), some (.int y), none, none] [.int (bI (inR x (v 0 0)))] 5
  refine r_if_eq_B (tgt := 16) (pc' := 8) hX dX4_squeakToCome_5 (by decide) rfl (fun c5 => ?_) (fun c5 => ?_)
  · refine r_iconst (pc' := 17) (v := (-1)) hX dX4_squeakToCome_16 rfl rfl ?_
    exact r_ireturn hX hE dX4_squeakToCome_17 rfl ⟨rI (if_neg (by rintro ⟨q1, q2⟩; first | exact c5 q1 | exact c13 q2)).symm, rfl⟩ (by decide) (by decide)
  · obtain ⟨j, hj, rfl⟩ := nat_of c5
    refine r_aload_n (pc' := 9) hX dX4_squeakToCome_8 rfl rfl ?_
    refine r_iload_n (pc' := 10) hX dX4_squeakToCome_9 rfl rfl ?_
    refine V_call0 (k' := 0) (n' := 0) (pc' := 13) hX (r_runV (As := [.int y]) hX dX4_squeakToCome_10 k_X4_88 (fun l9 hl9 => cS_hasMould hv0) hG ⟨6, _, TX4, 17, List.mem_cons_self, rfl⟩ rfl rfl (Nat.le_of_ble_eq_true rfl) (by decide) (by decide) (by decide) (by decide)) rfl rfl rfl (fun w9 u9 hp9 => ?_)
    obtain ⟨rfl, rfl⟩ := hp9
    change V X 0 0 (wSt cy ad v) [some (.ref (ad 0)), some (.int (nI j)), some (.int y), none, none] [.int (bI (inR y (v 0 1)))] 13
    refine r_if_ne_B (tgt := 18) (pc' := 16) hX dX4_squeakToCome_13 (by decide) rfl (fun c13 => ?_) (fun c13 => ?_)
    · obtain ⟨i, hi, rfl⟩ := nat_of c13
      have r0 := wR j 0 (by omega) (by omega)
      have r1 := wR j 1 (by omega) (by omega)
      have r2 := wR j 2 (by omega) (by omega)
      have rl := wL i (by omega)
      refine r_aload_n (pc' := 19) hX dX4_squeakToCome_18 rfl rfl ?_
      refine r_get (pc' := 22) (v := .ref (ad 1)) hX dX4_squeakToCome_19 f_X4_17 0 rfl rfl rfl ?_
      refine r_iload_n (pc' := 23) hX dX4_squeakToCome_22 rfl rfl ?_
      refine r_aaldR (pc' := 24) hX dX4_squeakToCome_23 hcy (by omega) rfl ?_
      refine r_astore_n (L' := [some (.ref (ad 0)), some (.int (nI j)), some (.int (nI i)), some (.ref (ad (2 + j))), none]) (pc' := 25) hX dX4_squeakToCome_24 (nlt hnL (by decide)) rfl rfl rfl ?_
      refine r_bipush (pc' := 27) (v := nI 7) hX dX4_squeakToCome_25 rfl rfl ?_
      refine r_aload_n (pc' := 28) hX dX4_squeakToCome_27 rfl rfl ?_
      refine r_iconst (pc' := 29) (v := nI 0) hX dX4_squeakToCome_28 rfl rfl ?_
      refine r_ialdR (pc' := 30) hX dX4_squeakToCome_29 (by rw [hcy]) (by omega) (by omega) rfl ?_
      refine r_imul_N (pc' := 31) hX dX4_squeakToCome_30  rfl ?_
      refine r_bipush (pc' := 33) (v := nI 11) hX dX4_squeakToCome_31 rfl rfl ?_
      refine r_aload_n (pc' := 34) hX dX4_squeakToCome_33 rfl rfl ?_
      refine r_iconst (pc' := 35) (v := nI 1) hX dX4_squeakToCome_34 rfl rfl ?_
      refine r_ialdR (pc' := 36) hX dX4_squeakToCome_35 (by rw [hcy]) (by omega) (by omega) rfl ?_
      refine r_imul_N (pc' := 37) hX dX4_squeakToCome_36  rfl ?_
      refine r_iadd_N (pc' := 38) hX dX4_squeakToCome_37  rfl ?_
      refine r_iconst (pc' := 39) (v := nI 3) hX dX4_squeakToCome_38 rfl rfl ?_
      refine r_aload_n (pc' := 40) hX dX4_squeakToCome_39 rfl rfl ?_
      refine r_iconst (pc' := 41) (v := nI 2) hX dX4_squeakToCome_40 rfl rfl ?_
      refine r_ialdR (pc' := 42) hX dX4_squeakToCome_41 (by rw [hcy]) (by omega) (by omega) rfl ?_
      refine r_imul_N (pc' := 43) hX dX4_squeakToCome_42  rfl ?_
      refine r_iadd_N (pc' := 44) hX dX4_squeakToCome_43  rfl ?_
      refine r_iconst (pc' := 45) (v := nI 5) hX dX4_squeakToCome_44 rfl rfl ?_
      refine r_aload_n (pc' := 46) hX dX4_squeakToCome_45 rfl rfl ?_
      refine r_get (pc' := 49) (v := .ref (ad 8)) hX dX4_squeakToCome_46 f_X4_23 0 rfl rfl rfl ?_
      refine r_iload_n (pc' := 50) hX dX4_squeakToCome_49 rfl rfl ?_
      refine r_iald_N (pc' := 51) hX dX4_squeakToCome_50 (by rw [hcy]) 8 rfl (by omega) (by decide) rfl ?_
      change V X 0 0 (wSt cy ad v) [some (.ref (ad 0)), some (.int (nI j)), some (.int (nI i)), some (.ref (ad (2 + j))), none] [.int (nI (v 1 i)), .int (nI 5), .int (nI (((7 * (v (7 + j) 0)) + (11 * (v (7 + j) 1))) + (3 * (v (7 + j) 2))))] 51
      refine r_imul_N (pc' := 52) hX dX4_squeakToCome_51  rfl ?_
      refine r_iadd_N (pc' := 53) hX dX4_squeakToCome_52  rfl ?_
      refine r_bipush (pc' := 55) (v := nI 13) hX dX4_squeakToCome_53 rfl rfl ?_
      refine r_aload_n (pc' := 56) hX dX4_squeakToCome_55 rfl rfl ?_
      refine r_get (pc' := 59) (v := .ref (ad 9)) hX dX4_squeakToCome_56 f_X4_27 0 rfl rfl rfl ?_
      refine r_iload_n (pc' := 60) hX dX4_squeakToCome_59 rfl rfl ?_
      refine r_iald_N (pc' := 61) hX dX4_squeakToCome_60 (by rw [hcy]) 9 rfl (by omega) (by decide) rfl ?_
      change V X 0 0 (wSt cy ad v) [some (.ref (ad 0)), some (.int (nI j)), some (.int (nI i)), some (.ref (ad (2 + j))), none] [.int (nI (v 2 i)), .int (nI 13), .int (nI ((((7 * (v (7 + j) 0)) + (11 * (v (7 + j) 1))) + (3 * (v (7 + j) 2))) + (5 * (v 1 i))))] 61
      refine r_imul_N (pc' := 62) hX dX4_squeakToCome_61  rfl ?_
      refine r_iadd_N (pc' := 63) hX dX4_squeakToCome_62  rfl ?_
      refine r_istore (L' := [some (.ref (ad 0)), some (.int (nI j)), some (.int (nI i)), some (.ref (ad (2 + j))), some (.int (nI (((((7 * (v (7 + j) 0)) + (11 * (v (7 + j) 1))) + (3 * (v (7 + j) 2))) + (5 * (v 1 i))) + (13 * (v 2 i)))))]) (pc' := 65) hX dX4_squeakToCome_63 (nlt hnL (by decide)) rfl rfl rfl ?_
      refine r_iload (pc' := 67) hX dX4_squeakToCome_65 rfl rfl ?_
      refine r_bipush (pc' := 69) (v := nI 100) hX dX4_squeakToCome_67 rfl rfl ?_
      refine r_irem_N (pc' := 70) hX dX4_squeakToCome_69 (by omega) (by omega) (by omega) rfl ?_
      exact r_ireturn hX hE dX4_squeakToCome_70 rfl ⟨rI (by rw [if_pos ⟨c5, c13⟩, tn_nI (by omega), tn_nI (by omega)]; rfl), rfl⟩ (by decide) (by decide)
    · refine r_iconst (pc' := 17) (v := (-1)) hX dX4_squeakToCome_16 rfl rfl ?_
      exact r_ireturn hX hE dX4_squeakToCome_17 rfl ⟨rI (if_neg (by rintro ⟨q1, q2⟩; first | exact c5 q1 | exact c13 q2)).symm, rfl⟩ (by decide) (by decide)

set_option maxRecDepth 20000 in
set_option maxHeartbeats 4000000 in
theorem cS_bowsInStore {l : Launch} {D : va_G} {cy : Nat → ClassId} {sa : Nat → Nat} {ad : Nat → Nat} {v : SV} {x : Int32} (hv : Wf v) : MG l yX4_bowsInStore cX4_bowsInStore 5 (some .int) 1 0 0 (D, cy, sa) [.ref (ad 0), .int x] (wSt cy ad v) (fun w u => w = some (.int (if inR x (v 0 0) then nI (bst v (tn x) 3) else -1)) ∧ u = wSt cy ad v) := by
  have hv0 := hv
  obtain ⟨wa, wm, wb, ws, wt, wc, wB, wR, wL, wK, wP⟩ := hv
  refine MG_by (own := RX4) (L := [some (.ref (ad 0)), some (.int x), none, none, none]) (by decide +kernel) rfl rfl (Nat.le_of_ble_eq_true rfl) 3 rfl (fun X hX hE hnL hG hcy hnm => ?_)
  refine r_aload_n (pc' := 1) hX dX4_bowsInStore_0 rfl rfl ?_
  refine r_iload_n (pc' := 2) hX dX4_bowsInStore_1 rfl rfl ?_
  refine V_call0 (k' := 0) (n' := 0) (pc' := 5) hX (r_runV (As := [.int x]) hX dX4_bowsInStore_2 k_X4_85 (fun l9 hl9 => cS_hasAlloy hv0) hG ⟨6, _, TX4, 17, List.mem_cons_self, rfl⟩ rfl rfl (Nat.le_of_ble_eq_true rfl) (by decide) (by decide) (by decide) (by decide)) rfl rfl rfl (fun w9 u9 hp9 => ?_)
  obtain ⟨rfl, rfl⟩ := hp9
  change V X 0 0 (wSt cy ad v) [some (.ref (ad 0)), some (.int x), none, none, none] [.int (bI (inR x (v 0 0)))] 5
  refine r_if_ne_B (tgt := 10) (pc' := 8) hX dX4_bowsInStore_5 (by decide) rfl (fun c5 => ?_) (fun c5 => ?_)
  · obtain ⟨j, hj, rfl⟩ := nat_of c5
    refine r_ldc (pc' := 12) hX dX4_bowsInStore_10 kc_X4_146 rfl ?_
    change V X 0 0 (wSt cy ad v) [some (.ref (ad 0)), some (.int (nI j)), none, none, none] [.int (nI 2147483647)] 12
    refine r_istore_n (L' := [some (.ref (ad 0)), some (.int (nI j)), some (.int (nI 2147483647)), none, none]) (pc' := 13) hX dX4_bowsInStore_12 (nlt hnL (by decide)) rfl rfl rfl ?_
    refine r_iconst (pc' := 14) (v := nI 0) hX dX4_bowsInStore_13 rfl rfl ?_
    refine r_istore_n (L' := [some (.ref (ad 0)), some (.int (nI j)), some (.int (nI 2147483647)), some (.int (nI 0)), none]) (pc' := 15) hX dX4_bowsInStore_14 (nlt hnL (by decide)) rfl rfl rfl ?_
    have loop15 : ∀ (n9 : Nat) (i : Nat) (g : Nat), 3 - i < n9 → (i ≤ 3) → (g = bst v j i) → (g < 2147483648) → V X 0 0 (wSt cy ad v) [some (.ref (ad 0)), some (.int (nI j)), some (.int (nI g)), some (.int (nI i)), none] [] 15 := by
      intro n9
      induction n9 with
      | zero => intro i g hm; exact absurd hm (Nat.not_lt_zero _)
      | succ n9 ih15 =>
        intro i g hm hi hg hb
        refine r_iload_n (pc' := 16) hX dX4_bowsInStore_15 rfl rfl ?_
        refine r_iconst (pc' := 17) (v := nI 3) hX dX4_bowsInStore_16 rfl rfl ?_
        refine r_icmp_ge_N (tgt := 55) (pc' := 20) hX dX4_bowsInStore_17 (by decide) rfl (by omega) (by omega) (fun c17 => ?_) (fun c17 => ?_)
        · refine r_iload_n (pc' := 56) hX dX4_bowsInStore_55 rfl rfl ?_
          exact r_ireturn hX hE dX4_bowsInStore_56 rfl ⟨rI (by rw [if_pos c5, tn_nI (by omega), hg, show i = 3 by omega]), rfl⟩ (by decide) (by decide)
        · have r0 := wR j i (by omega) (by omega)
          have k0 := wK i (by omega)
          refine r_aload_n (pc' := 21) hX dX4_bowsInStore_20 rfl rfl ?_
          refine r_get (pc' := 24) (v := .ref (ad 1)) hX dX4_bowsInStore_21 f_X4_17 0 rfl rfl rfl ?_
          refine r_iload_n (pc' := 25) hX dX4_bowsInStore_24 rfl rfl ?_
          refine r_aaldR (pc' := 26) hX dX4_bowsInStore_25 hcy (by omega) rfl ?_
          refine r_iload_n (pc' := 27) hX dX4_bowsInStore_26 rfl rfl ?_
          refine r_ialdR (pc' := 28) hX dX4_bowsInStore_27 (by rw [hcy]) (by omega) (by omega) rfl ?_
          refine r_istore (L' := [some (.ref (ad 0)), some (.int (nI j)), some (.int (nI g)), some (.int (nI i)), some (.int (nI (v (7 + j) i)))]) (pc' := 30) hX dX4_bowsInStore_28 (nlt hnL (by decide)) rfl rfl rfl ?_
          refine r_iload (pc' := 32) hX dX4_bowsInStore_30 rfl rfl ?_
          refine r_if_le_N (tgt := 49) (pc' := 35) hX dX4_bowsInStore_32 (by decide) rfl (by omega) (fun c32 => ?_) (fun c32 => ?_)
          · refine r_iinc_N (b := 1) (L' := [some (.ref (ad 0)), some (.int (nI j)), some (.int (nI g)), some (.int (nI (i + 1))), some (.int (nI (v (7 + j) i)))]) (pc' := 52) hX dX4_bowsInStore_49 rfl (nlt hnL (by decide)) rfl rfl rfl ?_
            refine r_goto (tgt := 15) hX dX4_bowsInStore_52 (by decide) ?_
            refine V_loc (L' := [some (.ref (ad 0)), some (.int (nI j)), some (.int (nI g)), some (.int (nI (i + 1))), none]) (lo_w ⟨.inr rfl, .inr rfl, .inr rfl, .inr rfl, .inl rfl, trivial⟩) ?_
            exact ih15 (i + 1) g (by omega) (by omega) (by rw [bst, ← hg]; split <;> omega) (by omega)
          · refine r_iload_n (pc' := 36) hX dX4_bowsInStore_35 rfl rfl ?_
            refine r_aload_n (pc' := 37) hX dX4_bowsInStore_36 rfl rfl ?_
            refine r_get (pc' := 40) (v := .ref (ad 10)) hX dX4_bowsInStore_37 f_X4_30 0 rfl rfl rfl ?_
            refine r_iload_n (pc' := 41) hX dX4_bowsInStore_40 rfl rfl ?_
            refine r_iald_N (pc' := 42) hX dX4_bowsInStore_41 (by rw [hcy]) 10 rfl (by omega) (by decide) rfl ?_
            change V X 0 0 (wSt cy ad v) [some (.ref (ad 0)), some (.int (nI j)), some (.int (nI g)), some (.int (nI i)), some (.int (nI (v (7 + j) i)))] [.int (nI (v 3 i)), .int (nI g)] 42
            refine r_iload (pc' := 44) hX dX4_bowsInStore_42 rfl rfl ?_
            have q0 : v 3 i / v (7 + j) i ≤ v 3 i := Nat.div_le_self _ _
            refine r_idiv_N (pc' := 45) hX dX4_bowsInStore_44 (by omega) (by omega) (by omega) rfl ?_
            refine r_mmin (pc' := 48) hX dX4_bowsInStore_45 k_X4_147 (by omega) (by omega) rfl (Nat.le_of_ble_eq_true rfl) (by decide) (by omega) (by omega) ?_
            refine r_istore_n (L' := [some (.ref (ad 0)), some (.int (nI j)), some (.int (nI (min g ((v 3 i) / (v (7 + j) i))))), some (.int (nI i)), some (.int (nI (v (7 + j) i)))]) (pc' := 49) hX dX4_bowsInStore_48 (nlt hnL (by decide)) rfl rfl rfl ?_
            refine r_iinc_N (b := 1) (L' := [some (.ref (ad 0)), some (.int (nI j)), some (.int (nI (min g ((v 3 i) / (v (7 + j) i))))), some (.int (nI (i + 1))), some (.int (nI (v (7 + j) i)))]) (pc' := 52) hX dX4_bowsInStore_49 rfl (nlt hnL (by decide)) rfl rfl rfl ?_
            refine r_goto (tgt := 15) hX dX4_bowsInStore_52 (by decide) ?_
            refine V_loc (L' := [some (.ref (ad 0)), some (.int (nI j)), some (.int (nI (min g ((v 3 i) / (v (7 + j) i))))), some (.int (nI (i + 1))), none]) (lo_w ⟨.inr rfl, .inr rfl, .inr rfl, .inr rfl, .inl rfl, trivial⟩) ?_
            exact ih15 (i + 1) (min g ((v 3 i) / (v (7 + j) i))) (by omega) (by omega) (by rw [bst, ← hg]; split <;> omega) (by omega)
    exact loop15 _ 0 2147483647 (Nat.lt_succ_self _) (by omega) rfl (by omega)
  · refine r_iconst (pc' := 9) (v := (-1)) hX dX4_bowsInStore_8 rfl rfl ?_
    exact r_ireturn hX hE dX4_bowsInStore_9 rfl ⟨rI (if_neg c5).symm, rfl⟩ (by decide) (by decide)

set_option maxRecDepth 20000 in
set_option maxHeartbeats 4000000 in
theorem cS_metalByBows {l : Launch} {D : va_G} {cy : Nat → ClassId} {sa : Nat → Nat} {ad : Nat → Nat} {v : SV} {x : Int32} (hv : Wf v) : MG l yX4_metalByBows cX4_metalByBows 5 (some .int) 1 0 0 (D, cy, sa) [.ref (ad 0), .int x] (wSt cy ad v) (fun w u => w = some (.int (if inR x 3 then nI (mib v (tn x) (v 0 4)) else -1)) ∧ u = wSt cy ad v) := by
  have hv0 := hv
  obtain ⟨wa, wm, wb, ws, wt, wc, wB, wR, wL, wK, wP⟩ := hv
  refine MG_by (own := RX4) (L := [some (.ref (ad 0)), some (.int x), none, none, none]) (by decide +kernel) rfl rfl (Nat.le_of_ble_eq_true rfl) 3 rfl (fun X hX hE hnL hG hcy hnm => ?_)
  refine r_iload_n (pc' := 1) hX dX4_metalByBows_0 rfl rfl ?_
  refine V_calln (k' := 0) (n' := 0) (pc' := 4) hX (r_runS (As := [.int x]) hX dX4_metalByBows_1 k_X4_82 (fun l9 hl9 => cS_isMetal) hG rfl rfl (Nat.le_of_ble_eq_true rfl) (by decide) (by decide) (by decide) (by decide)) rfl rfl rfl (fun w9 hp9 => ?_)
  obtain rfl := hp9
  change V X 0 0 (wSt cy ad v) [some (.ref (ad 0)), some (.int x), none, none, none] [.int (bI (inR x 3))] 4
  refine r_if_ne_B (tgt := 9) (pc' := 7) hX dX4_metalByBows_4 (by decide) rfl (fun c4 => ?_) (fun c4 => ?_)
  · obtain ⟨j, hj, rfl⟩ := nat_of c4
    refine r_iconst (pc' := 10) (v := nI 0) hX dX4_metalByBows_9 rfl rfl ?_
    refine r_istore_n (L' := [some (.ref (ad 0)), some (.int (nI j)), some (.int (nI 0)), none, none]) (pc' := 11) hX dX4_metalByBows_10 (nlt hnL (by decide)) rfl rfl rfl ?_
    refine r_iconst (pc' := 12) (v := nI 0) hX dX4_metalByBows_11 rfl rfl ?_
    refine r_istore_n (L' := [some (.ref (ad 0)), some (.int (nI j)), some (.int (nI 0)), some (.int (nI 0)), none]) (pc' := 13) hX dX4_metalByBows_12 (nlt hnL (by decide)) rfl rfl rfl ?_
    have loop13 : ∀ (n9 : Nat) (i : Nat) (g : Nat), v 0 4 - i < n9 → (i ≤ v 0 4) → (g = mib v j i) → V X 0 0 (wSt cy ad v) [some (.ref (ad 0)), some (.int (nI j)), some (.int (nI g)), some (.int (nI i)), none] [] 13 := by
      intro n9
      induction n9 with
      | zero => intro i g hm; exact absurd hm (Nat.not_lt_zero _)
      | succ n9 ih13 =>
        intro i g hm hi hg
        refine r_iload_n (pc' := 14) hX dX4_metalByBows_13 rfl rfl ?_
        refine r_aload_n (pc' := 15) hX dX4_metalByBows_14 rfl rfl ?_
        refine r_get (pc' := 18) (v := .int (nI (v 0 4))) hX dX4_metalByBows_15 f_X4_48 0 rfl rfl rfl ?_
        refine r_icmp_ge_N (tgt := 69) (pc' := 21) hX dX4_metalByBows_18 (by decide) rfl (by omega) (by omega) (fun c18 => ?_) (fun c18 => ?_)
        · refine r_iload_n (pc' := 70) hX dX4_metalByBows_69 rfl rfl ?_
          exact r_ireturn hX hE dX4_metalByBows_70 rfl ⟨rI (by rw [if_pos c4, tn_nI (by omega), hg, show i = v 0 4 by omega]), rfl⟩ (by decide) (by decide)
        · obtain ⟨bz, ba, -, -, -, -⟩ := wB i c18
          refine r_iconst (pc' := 22) (v := nI 0) hX dX4_metalByBows_21 rfl rfl ?_
          refine r_istore (L' := [some (.ref (ad 0)), some (.int (nI j)), some (.int (nI g)), some (.int (nI i)), some (.int (nI 0))]) (pc' := 24) hX dX4_metalByBows_22 (nlt hnL (by decide)) rfl rfl rfl ?_
          have loop24 : ∀ (n9 : Nat) (k : Nat) (z : Nat), v (13 + i) 2 - k < n9 → (k ≤ v (13 + i) 2) → (z = g + k * v (7 + v (13 + i) 3) j) → V X 0 0 (wSt cy ad v) [some (.ref (ad 0)), some (.int (nI j)), some (.int (nI z)), some (.int (nI i)), some (.int (nI k))] [] 24 := by
            intro n9
            induction n9 with
            | zero => intro k z hm; exact absurd hm (Nat.not_lt_zero _)
            | succ n9 ih24 =>
              intro k z hm hk hz
              refine r_iload (pc' := 26) hX dX4_metalByBows_24 rfl rfl ?_
              refine r_aload_n (pc' := 27) hX dX4_metalByBows_26 rfl rfl ?_
              refine r_get (pc' := 30) (v := .ref (ad 14)) hX dX4_metalByBows_27 f_X4_53 0 rfl rfl rfl ?_
              refine r_iload_n (pc' := 31) hX dX4_metalByBows_30 rfl rfl ?_
              refine r_aaldB (pc' := 32) hX dX4_metalByBows_31 hcy (by omega) rfl ?_
              refine r_getB (pc' := 35) (x := .int (nI (v (13 + i) 2))) hX dX4_metalByBows_32 f_X4_105 (by omega) rfl rfl ?_
              refine r_icmp_ge_N (tgt := 63) (pc' := 38) hX dX4_metalByBows_35 (by decide) rfl (by omega) (by omega) (fun c35 => ?_) (fun c35 => ?_)
              · refine r_iinc_N (b := 1) (L' := [some (.ref (ad 0)), some (.int (nI j)), some (.int (nI z)), some (.int (nI (i + 1))), some (.int (nI k))]) (pc' := 66) hX dX4_metalByBows_63 rfl (nlt hnL (by decide)) rfl rfl rfl ?_
                refine r_goto (tgt := 13) hX dX4_metalByBows_66 (by decide) ?_
                refine V_loc (L' := [some (.ref (ad 0)), some (.int (nI j)), some (.int (nI z)), some (.int (nI (i + 1))), none]) (lo_w ⟨.inr rfl, .inr rfl, .inr rfl, .inr rfl, .inl rfl, trivial⟩) ?_
                exact ih13 (i + 1) z (by omega) (by omega) (by rw [mib, ← hg, hz, show k = v (13 + i) 2 by omega])
              · refine r_iload_n (pc' := 39) hX dX4_metalByBows_38 rfl rfl ?_
                refine r_aload_n (pc' := 40) hX dX4_metalByBows_39 rfl rfl ?_
                refine r_get (pc' := 43) (v := .ref (ad 1)) hX dX4_metalByBows_40 f_X4_17 0 rfl rfl rfl ?_
                refine r_aload_n (pc' := 44) hX dX4_metalByBows_43 rfl rfl ?_
                refine r_get (pc' := 47) (v := .ref (ad 14)) hX dX4_metalByBows_44 f_X4_53 0 rfl rfl rfl ?_
                refine r_iload_n (pc' := 48) hX dX4_metalByBows_47 rfl rfl ?_
                refine r_aaldB (pc' := 49) hX dX4_metalByBows_48 hcy (by omega) rfl ?_
                refine r_getB (pc' := 52) (x := .int (nI (v (13 + i) 3))) hX dX4_metalByBows_49 f_X4_108 (by omega) rfl rfl ?_
                refine r_aaldR (pc' := 53) hX dX4_metalByBows_52 hcy (by omega) rfl ?_
                refine r_iload_n (pc' := 54) hX dX4_metalByBows_53 rfl rfl ?_
                refine r_ialdR (pc' := 55) hX dX4_metalByBows_54 (by rw [hcy]) (by omega) (by omega) rfl ?_
                refine r_iadd_N (pc' := 56) hX dX4_metalByBows_55  rfl ?_
                refine r_istore_n (L' := [some (.ref (ad 0)), some (.int (nI j)), some (.int (nI (z + (v (7 + (v (13 + i) 3)) j)))), some (.int (nI i)), some (.int (nI k))]) (pc' := 57) hX dX4_metalByBows_56 (nlt hnL (by decide)) rfl rfl rfl ?_
                refine r_iinc_N (b := 1) (L' := [some (.ref (ad 0)), some (.int (nI j)), some (.int (nI (z + (v (7 + (v (13 + i) 3)) j)))), some (.int (nI i)), some (.int (nI (k + 1)))]) (pc' := 60) hX dX4_metalByBows_57 rfl (nlt hnL (by decide)) rfl rfl rfl ?_
                refine r_goto (tgt := 24) hX dX4_metalByBows_60 (by decide) ?_
                exact ih24 (k + 1) (z + (v (7 + (v (13 + i) 3)) j)) (by omega) (by omega) (by rw [hz, Nat.add_mul, Nat.one_mul, Nat.add_assoc])
          exact loop24 _ 0 g (Nat.lt_succ_self _) (by omega) (by rw [Nat.zero_mul]; rfl)
    exact loop13 _ 0 0 (Nat.lt_succ_self _) (by omega) rfl
  · refine r_iconst (pc' := 8) (v := (-1)) hX dX4_metalByBows_7 rfl rfl ?_
    exact r_ireturn hX hE dX4_metalByBows_8 rfl ⟨rI (if_neg c4).symm, rfl⟩ (by decide) (by decide)

set_option maxRecDepth 20000 in
set_option maxHeartbeats 4000000 in
theorem cS_metalByBooks {l : Launch} {D : va_G} {cy : Nat → ClassId} {sa : Nat → Nat} {ad : Nat → Nat} {v : SV} {x : Int32} (hv : Wf v) : MG l yX4_metalByBooks cX4_metalByBooks 2 (some .int) 1 0 0 (D, cy, sa) [.ref (ad 0), .int x] (wSt cy ad v) (fun w u => w = some (.int (if inR x 3 then boo v (tn x) else -1)) ∧ u = wSt cy ad v) := by
  have hv0 := hv
  obtain ⟨wa, wm, wb, ws, wt, wc, wB, wR, wL, wK, wP⟩ := hv
  refine MG_by (own := RX4) (L := [some (.ref (ad 0)), some (.int x)]) (by decide +kernel) rfl rfl (Nat.le_of_ble_eq_true rfl) 0 rfl (fun X hX hE hnL hG hcy hnm => ?_)
  refine r_iload_n (pc' := 1) hX dX4_metalByBooks_0 rfl rfl ?_
  refine V_calln (k' := 0) (n' := 0) (pc' := 4) hX (r_runS (As := [.int x]) hX dX4_metalByBooks_1 k_X4_82 (fun l9 hl9 => cS_isMetal) hG rfl rfl (Nat.le_of_ble_eq_true rfl) (by decide) (by decide) (by decide) (by decide)) rfl rfl rfl (fun w9 hp9 => ?_)
  obtain rfl := hp9
  change V X 0 0 (wSt cy ad v) [some (.ref (ad 0)), some (.int x)] [.int (bI (inR x 3))] 4
  refine r_if_ne_B (tgt := 9) (pc' := 7) hX dX4_metalByBooks_4 (by decide) rfl (fun c4 => ?_) (fun c4 => ?_)
  · obtain ⟨j, hj, rfl⟩ := nat_of c4
    refine r_aload_n (pc' := 10) hX dX4_metalByBooks_9 rfl rfl ?_
    refine r_get (pc' := 13) (v := .ref (ad 11)) hX dX4_metalByBooks_10 f_X4_33 0 rfl rfl rfl ?_
    refine r_iload_n (pc' := 14) hX dX4_metalByBooks_13 rfl rfl ?_
    refine r_iald_N (pc' := 15) hX dX4_metalByBooks_14 (by rw [hcy]) 11 rfl (by omega) (by decide) rfl ?_
    change V X 0 0 (wSt cy ad v) [some (.ref (ad 0)), some (.int (nI j))] [.int (nI (v 4 j))] 15
    refine r_aload_n (pc' := 16) hX dX4_metalByBooks_15 rfl rfl ?_
    refine r_get (pc' := 19) (v := .ref (ad 10)) hX dX4_metalByBooks_16 f_X4_30 0 rfl rfl rfl ?_
    refine r_iload_n (pc' := 20) hX dX4_metalByBooks_19 rfl rfl ?_
    refine r_iald_N (pc' := 21) hX dX4_metalByBooks_20 (by rw [hcy]) 10 rfl (by omega) (by decide) rfl ?_
    change V X 0 0 (wSt cy ad v) [some (.ref (ad 0)), some (.int (nI j))] [.int (nI (v 3 j)), .int (nI (v 4 j))] 21
    refine r_isub (pc' := 22) hX dX4_metalByBooks_21 rfl ?_
    refine r_aload_n (pc' := 23) hX dX4_metalByBooks_22 rfl rfl ?_
    refine r_get (pc' := 26) (v := .ref (ad 12)) hX dX4_metalByBooks_23 f_X4_36 0 rfl rfl rfl ?_
    refine r_iload_n (pc' := 27) hX dX4_metalByBooks_26 rfl rfl ?_
    refine r_iald_N (pc' := 28) hX dX4_metalByBooks_27 (by rw [hcy]) 12 rfl (by omega) (by decide) rfl ?_
    change V X 0 0 (wSt cy ad v) [some (.ref (ad 0)), some (.int (nI j))] [.int (nI (v 5 j)), .int ((nI (v 4 j)) - (nI (v 3 j)))] 28
    refine r_isub (pc' := 29) hX dX4_metalByBooks_28 rfl ?_
    refine r_aload_n (pc' := 30) hX dX4_metalByBooks_29 rfl rfl ?_
    refine r_get (pc' := 33) (v := .ref (ad 13)) hX dX4_metalByBooks_30 f_X4_39 0 rfl rfl rfl ?_
    refine r_iload_n (pc' := 34) hX dX4_metalByBooks_33 rfl rfl ?_
    refine r_iald_N (pc' := 35) hX dX4_metalByBooks_34 (by rw [hcy]) 13 rfl (by omega) (by decide) rfl ?_
    change V X 0 0 (wSt cy ad v) [some (.ref (ad 0)), some (.int (nI j))] [.int (nI (v 6 j)), .int (((nI (v 4 j)) - (nI (v 3 j))) - (nI (v 5 j)))] 35
    refine r_isub (pc' := 36) hX dX4_metalByBooks_35 rfl ?_
    exact r_ireturn hX hE dX4_metalByBooks_36 rfl ⟨rI (by rw [if_pos c4, tn_nI (by omega)]; rfl), rfl⟩ (by decide) (by decide)
  · refine r_iconst (pc' := 8) (v := (-1)) hX dX4_metalByBooks_7 rfl rfl ?_
    exact r_ireturn hX hE dX4_metalByBooks_8 rfl ⟨rI (if_neg c4).symm, rfl⟩ (by decide) (by decide)

set_option maxRecDepth 20000 in
set_option maxHeartbeats 4000000 in
theorem cS_bowsInBatches {l : Launch} {D : va_G} {cy : Nat → ClassId} {sa : Nat → Nat} {ad : Nat → Nat} {v : SV} (hv : Wf v) : MG l yX4_bowsInBatches cX4_bowsInBatches 3 (some .int) 0 0 0 (D, cy, sa) [.ref (ad 0)] (wSt cy ad v) (fun w u => w = some (.int (nI (sumT (fun i => v (13 + i) 2) (v 0 4)))) ∧ u = wSt cy ad v) := by
  have hv0 := hv
  obtain ⟨wa, wm, wb, ws, wt, wc, wB, wR, wL, wK, wP⟩ := hv
  refine MG_by (own := RX4) (L := [some (.ref (ad 0)), none, none]) (by decide +kernel) rfl rfl (Nat.le_of_ble_eq_true rfl) 2 rfl (fun X hX hE hnL hG hcy hnm => ?_)
  refine r_iconst (pc' := 1) (v := nI 0) hX dX4_bowsInBatches_0 rfl rfl ?_
  refine r_istore_n (L' := [some (.ref (ad 0)), some (.int (nI 0)), none]) (pc' := 2) hX dX4_bowsInBatches_1 (nlt hnL (by decide)) rfl rfl rfl ?_
  refine r_iconst (pc' := 3) (v := nI 0) hX dX4_bowsInBatches_2 rfl rfl ?_
  refine r_istore_n (L' := [some (.ref (ad 0)), some (.int (nI 0)), some (.int (nI 0))]) (pc' := 4) hX dX4_bowsInBatches_3 (nlt hnL (by decide)) rfl rfl rfl ?_
  have loop4 : ∀ (n9 : Nat) (i : Nat) (z : Nat), v 0 4 - i < n9 → (i ≤ v 0 4) → (z = sumT (fun i => v (13 + i) 2) i) → V X 0 0 (wSt cy ad v) [some (.ref (ad 0)), some (.int (nI z)), some (.int (nI i))] [] 4 := by
    intro n9
    induction n9 with
    | zero => intro i z hm; exact absurd hm (Nat.not_lt_zero _)
    | succ n9 ih4 =>
      intro i z hm hi hz
      refine r_iload_n (pc' := 5) hX dX4_bowsInBatches_4 rfl rfl ?_
      refine r_aload_n (pc' := 6) hX dX4_bowsInBatches_5 rfl rfl ?_
      refine r_get (pc' := 9) (v := .int (nI (v 0 4))) hX dX4_bowsInBatches_6 f_X4_48 0 rfl rfl rfl ?_
      refine r_icmp_ge_N (tgt := 30) (pc' := 12) hX dX4_bowsInBatches_9 (by decide) rfl (by omega) (by omega) (fun c9 => ?_) (fun c9 => ?_)
      · refine r_iload_n (pc' := 31) hX dX4_bowsInBatches_30 rfl rfl ?_
        exact r_ireturn hX hE dX4_bowsInBatches_31 rfl ⟨rN (by rw [hz, show i = v 0 4 by omega]), rfl⟩ (by decide) (by decide)
      · obtain ⟨bz, -, -, -, -, -⟩ := wB i c9
        refine r_iload_n (pc' := 13) hX dX4_bowsInBatches_12 rfl rfl ?_
        refine r_aload_n (pc' := 14) hX dX4_bowsInBatches_13 rfl rfl ?_
        refine r_get (pc' := 17) (v := .ref (ad 14)) hX dX4_bowsInBatches_14 f_X4_53 0 rfl rfl rfl ?_
        refine r_iload_n (pc' := 18) hX dX4_bowsInBatches_17 rfl rfl ?_
        refine r_aaldB (pc' := 19) hX dX4_bowsInBatches_18 hcy (by omega) rfl ?_
        refine r_getB (pc' := 22) (x := .int (nI (v (13 + i) 2))) hX dX4_bowsInBatches_19 f_X4_105 (by omega) rfl rfl ?_
        refine r_iadd_N (pc' := 23) hX dX4_bowsInBatches_22  rfl ?_
        refine r_istore_n (L' := [some (.ref (ad 0)), some (.int (nI (z + (v (13 + i) 2)))), some (.int (nI i))]) (pc' := 24) hX dX4_bowsInBatches_23 (nlt hnL (by decide)) rfl rfl rfl ?_
        refine r_iinc_N (b := 1) (L' := [some (.ref (ad 0)), some (.int (nI (z + (v (13 + i) 2)))), some (.int (nI (i + 1)))]) (pc' := 27) hX dX4_bowsInBatches_24 rfl (nlt hnL (by decide)) rfl rfl rfl ?_
        refine r_goto (tgt := 4) hX dX4_bowsInBatches_27 (by decide) ?_
        exact ih4 (i + 1) (z + (v (13 + i) 2)) (by omega) (by omega) (by rw [hz]; rfl)
  exact loop4 _ 0 0 (Nat.lt_succ_self _) (by omega) rfl

set_option maxRecDepth 20000 in
set_option maxHeartbeats 4000000 in
theorem cS_tolerancesAgree {l : Launch} {D : va_G} {cy : Nat → ClassId} {sa : Nat → Nat} {ad : Nat → Nat} {v : SV} (hv : Wf v) : MG l yX4_tolerancesAgree cX4_tolerancesAgree 2 (some .boolean) 4 0 0 (D, cy, sa) [.ref (ad 0)] (wSt cy ad v) (fun w u => w = some (.int (bI (tolA v))) ∧ u = wSt cy ad v) := by
  have hv0 := hv
  obtain ⟨wa, wm, wb, ws, wt, wc, wB, wR, wL, wK, wP⟩ := hv
  refine MG_by (own := RX4) (L := [some (.ref (ad 0)), none]) (by decide +kernel) rfl rfl (Nat.le_of_ble_eq_true rfl) 1 rfl (fun X hX hE hnL hG hcy hnm => ?_)
  refine r_iconst (pc' := 1) (v := nI 0) hX dX4_tolerancesAgree_0 rfl rfl ?_
  refine r_istore_n (L' := [some (.ref (ad 0)), some (.int (nI 0))]) (pc' := 2) hX dX4_tolerancesAgree_1 (nlt hnL (by decide)) rfl rfl rfl ?_
  have loop2 : ∀ (n9 : Nat) (i : Nat), v 0 4 - i < n9 → (i ≤ v 0 4) → (∀ j, j < i → lps (v (21 + j)) (v (13 + j) 2) (v 0 3) (v (13 + j) 2) = lst (pas (v (21 + j)) (v (13 + j) 2) (v 0 3)) 99) → V X 0 0 (wSt cy ad v) [some (.ref (ad 0)), some (.int (nI i))] [] 2 := by
    intro n9
    induction n9 with
    | zero => intro i hm; exact absurd hm (Nat.not_lt_zero _)
    | succ n9 ih2 =>
      intro i hm hi hn
      refine r_iload_n (pc' := 3) hX dX4_tolerancesAgree_2 rfl rfl ?_
      refine r_aload_n (pc' := 4) hX dX4_tolerancesAgree_3 rfl rfl ?_
      refine r_get (pc' := 7) (v := .int (nI (v 0 4))) hX dX4_tolerancesAgree_4 f_X4_48 0 rfl rfl rfl ?_
      refine r_icmp_ge_N (tgt := 47) (pc' := 10) hX dX4_tolerancesAgree_7 (by decide) rfl (by omega) (by omega) (fun c7 => ?_) (fun c7 => ?_)
      · refine r_iconst (pc' := 48) (v := nI 1) hX dX4_tolerancesAgree_47 rfl rfl ?_
        exact r_zreturn hX hE dX4_tolerancesAgree_48 rfl rfl ⟨rB1 (fun j hj => hn j (by omega)), rfl⟩ (by decide) (by decide)
      · obtain ⟨bz, -, -, -, -, bq⟩ := wB i c7
        have l1 := lps_le (sq := v (21 + i)) (n := v (13 + i) 2) (s := v 0 3) (v (13 + i) 2)
        have l2 := lst_le (p := pas (v (21 + i)) (v (13 + i) 2) (v 0 3)) 99
        refine r_aload_n (pc' := 11) hX dX4_tolerancesAgree_10 rfl rfl ?_
        refine r_get (pc' := 14) (v := .ref (ad 14)) hX dX4_tolerancesAgree_11 f_X4_53 0 rfl rfl rfl ?_
        refine r_iload_n (pc' := 15) hX dX4_tolerancesAgree_14 rfl rfl ?_
        refine r_aaldB (pc' := 16) hX dX4_tolerancesAgree_15 hcy (by omega) rfl ?_
        refine r_aload_n (pc' := 17) hX dX4_tolerancesAgree_16 rfl rfl ?_
        refine r_get (pc' := 20) (v := .int (nI (v 0 3))) hX dX4_tolerancesAgree_17 f_X4_45 0 rfl rfl rfl ?_
        refine V_call (k' := 0) (n' := 0) (pc' := 23) (wr := wSt0 cy ad v ++ wRest 8 i (wStB cy ad v)) hX (r_runV (As := [.int (nI (v 0 3))]) hX dX4_tolerancesAgree_20 k_X4_157 (fun l9 hl9 => cB_lps (a := (ad (15 + i))) (q := (ad (23 + i))) (b := (v (13 + i))) (sq := (v (21 + i))) (s := v 0 3) (by omega) ws bq) hG ⟨4, _, TX1, 6, List.mem_cons_self, rfl⟩ rfl rfl (Nat.le_of_ble_eq_true rfl) (by decide) (by decide) (by decide) (by decide)) (wSt_split (by omega)) rfl rfl rfl (fun w9 u9 hp9 => ?_)
        obtain ⟨rfl, rfl⟩ := hp9
        change V X 0 0 (wStB cy ad v i ++ (wSt0 cy ad v ++ wRest 8 i (wStB cy ad v))) [some (.ref (ad 0)), some (.int (nI i))] [.int (nI (lps (v (21 + i)) (v (13 + i) 2) (v 0 3) (v (13 + i) 2)))] 23
        refine V_perm ((wSt_split (by omega)).symm) ?_
        refine r_aload_n (pc' := 24) hX dX4_tolerancesAgree_23 rfl rfl ?_
        refine r_get (pc' := 27) (v := .ref (ad 14)) hX dX4_tolerancesAgree_24 f_X4_53 0 rfl rfl rfl ?_
        refine r_iload_n (pc' := 28) hX dX4_tolerancesAgree_27 rfl rfl ?_
        refine r_aaldB (pc' := 29) hX dX4_tolerancesAgree_28 hcy (by omega) rfl ?_
        refine r_aload_n (pc' := 30) hX dX4_tolerancesAgree_29 rfl rfl ?_
        refine r_get (pc' := 33) (v := .int (nI (v 0 3))) hX dX4_tolerancesAgree_30 f_X4_45 0 rfl rfl rfl ?_
        refine V_call (k' := 0) (n' := 0) (pc' := 36) (wr := wSt0 cy ad v ++ wRest 8 i (wStB cy ad v)) hX (r_runV (As := [.int (nI (v 0 3))]) hX dX4_tolerancesAgree_33 k_X4_160 (fun l9 hl9 => cB_lpt (a := (ad (15 + i))) (q := (ad (23 + i))) (b := (v (13 + i))) (sq := (v (21 + i))) (s := v 0 3) (by omega) ws bq) hG ⟨4, _, TX1, 6, List.mem_cons_self, rfl⟩ rfl rfl (Nat.le_of_ble_eq_true rfl) (by decide) (by decide) (by decide) (by decide)) (wSt_split (by omega)) rfl rfl rfl (fun w9 u9 hp9 => ?_)
        obtain ⟨rfl, rfl⟩ := hp9
        change V X 0 0 (wStB cy ad v i ++ (wSt0 cy ad v ++ wRest 8 i (wStB cy ad v))) [some (.ref (ad 0)), some (.int (nI i))] [.int (nI (lst (pas (v (21 + i)) (v (13 + i) 2) (v 0 3)) 99)), .int (nI (lps (v (21 + i)) (v (13 + i) 2) (v 0 3) (v (13 + i) 2)))] 36
        refine V_perm ((wSt_split (by omega)).symm) ?_
        refine r_icmp_eq_N (tgt := 41) (pc' := 39) hX dX4_tolerancesAgree_36 (by decide) rfl (by omega) (by omega) (fun c36 => ?_) (fun c36 => ?_)
        · refine r_iinc_N (b := 1) (L' := [some (.ref (ad 0)), some (.int (nI (i + 1)))]) (pc' := 44) hX dX4_tolerancesAgree_41 rfl (nlt hnL (by decide)) rfl rfl rfl ?_
          refine r_goto (tgt := 2) hX dX4_tolerancesAgree_44 (by decide) ?_
          exact ih2 (i + 1) (by omega) (by omega) (fun j hj => (Nat.lt_succ_iff_lt_or_eq.mp hj).elim (hn j) (fun e9 => by rw [e9]; exact c36))
        · refine r_iconst (pc' := 40) (v := nI 0) hX dX4_tolerancesAgree_39 rfl rfl ?_
          exact r_zreturn hX hE dX4_tolerancesAgree_40 rfl rfl ⟨rB0 (fun q => c36 (q i c7)), rfl⟩ (by decide) (by decide)
  exact loop2 _ 0 (Nat.lt_succ_self _) (by omega) (fun j hj => absurd hj (Nat.not_lt_zero _))

set_option maxRecDepth 20000 in
set_option maxHeartbeats 4000000 in
theorem cS_metalsAgree {l : Launch} {D : va_G} {cy : Nat → ClassId} {sa : Nat → Nat} {ad : Nat → Nat} {v : SV} (hv : Wf v) : MG l yX4_metalsAgree cX4_metalsAgree 2 (some .boolean) 4 0 0 (D, cy, sa) [.ref (ad 0)] (wSt cy ad v) (fun w u => w = some (.int (bI (metA v))) ∧ u = wSt cy ad v) := by
  have hv0 := hv
  obtain ⟨wa, wm, wb, ws, wt, wc, wB, wR, wL, wK, wP⟩ := hv
  refine MG_by (own := RX4) (L := [some (.ref (ad 0)), none]) (by decide +kernel) rfl rfl (Nat.le_of_ble_eq_true rfl) 1 rfl (fun X hX hE hnL hG hcy hnm => ?_)
  refine r_iconst (pc' := 1) (v := nI 0) hX dX4_metalsAgree_0 rfl rfl ?_
  refine r_istore_n (L' := [some (.ref (ad 0)), some (.int (nI 0))]) (pc' := 2) hX dX4_metalsAgree_1 (nlt hnL (by decide)) rfl rfl rfl ?_
  have loop2 : ∀ (n9 : Nat) (i : Nat), 3 - i < n9 → (i ≤ 3) → (∀ j, j < i → nI (mib v j (v 0 4)) = boo v j) → V X 0 0 (wSt cy ad v) [some (.ref (ad 0)), some (.int (nI i))] [] 2 := by
    intro n9
    induction n9 with
    | zero => intro i hm; exact absurd hm (Nat.not_lt_zero _)
    | succ n9 ih2 =>
      intro i hm hi hn
      refine r_iload_n (pc' := 3) hX dX4_metalsAgree_2 rfl rfl ?_
      refine r_iconst (pc' := 4) (v := nI 3) hX dX4_metalsAgree_3 rfl rfl ?_
      refine r_icmp_ge_N (tgt := 28) (pc' := 7) hX dX4_metalsAgree_4 (by decide) rfl (by omega) (by omega) (fun c4 => ?_) (fun c4 => ?_)
      · refine r_iconst (pc' := 29) (v := nI 1) hX dX4_metalsAgree_28 rfl rfl ?_
        exact r_zreturn hX hE dX4_metalsAgree_29 rfl rfl ⟨rB1 (fun j hj => hn j (by omega)), rfl⟩ (by decide) (by decide)
      · refine r_aload_n (pc' := 8) hX dX4_metalsAgree_7 rfl rfl ?_
        refine r_iload_n (pc' := 9) hX dX4_metalsAgree_8 rfl rfl ?_
        refine V_call0 (k' := 0) (n' := 0) (pc' := 12) hX (r_runV (As := [.int (nI i)]) hX dX4_metalsAgree_9 k_X4_163 (fun l9 hl9 => cS_metalByBows hv0) hG ⟨6, _, TX4, 17, List.mem_cons_self, rfl⟩ rfl rfl (Nat.le_of_ble_eq_true rfl) (by decide) (by decide) (by decide) (by decide)) rfl rfl rfl (fun w9 u9 hp9 => ?_)
        obtain ⟨rfl, rfl⟩ := hp9
        rw [if_pos ((inR_nI (by omega)).mpr c4), tn_nI (by omega)]
        change V X 0 0 (wSt cy ad v) [some (.ref (ad 0)), some (.int (nI i))] [.int (nI (mib v i (v 0 4)))] 12
        refine r_aload_n (pc' := 13) hX dX4_metalsAgree_12 rfl rfl ?_
        refine r_iload_n (pc' := 14) hX dX4_metalsAgree_13 rfl rfl ?_
        refine V_call0 (k' := 0) (n' := 0) (pc' := 17) hX (r_runV (As := [.int (nI i)]) hX dX4_metalsAgree_14 k_X4_166 (fun l9 hl9 => cS_metalByBooks hv0) hG ⟨6, _, TX4, 17, List.mem_cons_self, rfl⟩ rfl rfl (Nat.le_of_ble_eq_true rfl) (by decide) (by decide) (by decide) (by decide)) rfl rfl rfl (fun w9 u9 hp9 => ?_)
        obtain ⟨rfl, rfl⟩ := hp9
        rw [if_pos ((inR_nI (by omega)).mpr c4), tn_nI (by omega)]
        change V X 0 0 (wSt cy ad v) [some (.ref (ad 0)), some (.int (nI i))] [.int (boo v i), .int (nI (mib v i (v 0 4)))] 17
        refine r_icmp_eq (tgt := 22) (pc' := 20) hX dX4_metalsAgree_17 (by decide) rfl (fun c17 => ?_) (fun c17 => ?_)
        · refine r_iinc_N (b := 1) (L' := [some (.ref (ad 0)), some (.int (nI (i + 1)))]) (pc' := 25) hX dX4_metalsAgree_22 rfl (nlt hnL (by decide)) rfl rfl rfl ?_
          refine r_goto (tgt := 2) hX dX4_metalsAgree_25 (by decide) ?_
          exact ih2 (i + 1) (by omega) (by omega) (fun j hj => (Nat.lt_succ_iff_lt_or_eq.mp hj).elim (hn j) (fun e9 => by rw [e9]; exact c17))
        · refine r_iconst (pc' := 21) (v := nI 0) hX dX4_metalsAgree_20 rfl rfl ?_
          exact r_zreturn hX hE dX4_metalsAgree_21 rfl rfl ⟨rB0 (fun q => c17 (q i c4)), rfl⟩ (by decide) (by decide)
  exact loop2 _ 0 (Nat.lt_succ_self _) (by omega) (fun j hj => absurd hj (Nat.not_lt_zero _))

set_option maxRecDepth 20000 in
set_option maxHeartbeats 4000000 in
theorem cS_bowsAgree {l : Launch} {D : va_G} {cy : Nat → ClassId} {sa : Nat → Nat} {ad : Nat → Nat} {v : SV} (hv : Wf v) : MG l yX4_bowsAgree cX4_bowsAgree 1 (some .boolean) 1 0 0 (D, cy, sa) [.ref (ad 0)] (wSt cy ad v) (fun w u => w = some (.int (bI (bowA v))) ∧ u = wSt cy ad v) := by
  have hv0 := hv
  obtain ⟨wa, wm, wb, ws, wt, wc, wB, wR, wL, wK, wP⟩ := hv
  refine MG_by (own := RX4) (L := [some (.ref (ad 0))]) (by decide +kernel) rfl rfl (Nat.le_of_ble_eq_true rfl) 0 rfl (fun X hX hE hnL hG hcy hnm => ?_)
  have sb := sumT_bd (f := fun i => v (13 + i) 2) (c := 9) (n := v 0 4) (fun i hi => (wB i hi).1.2)
  refine r_aload_n (pc' := 1) hX dX4_bowsAgree_0 rfl rfl ?_
  refine r_get (pc' := 4) (v := .int (nI (v 0 6))) hX dX4_bowsAgree_1 f_X4_60 0 rfl rfl rfl ?_
  refine r_aload_n (pc' := 5) hX dX4_bowsAgree_4 rfl rfl ?_
  refine r_get (pc' := 8) (v := .int (nI (v 0 7))) hX dX4_bowsAgree_5 f_X4_63 0 rfl rfl rfl ?_
  refine r_aload_n (pc' := 9) hX dX4_bowsAgree_8 rfl rfl ?_
  refine r_get (pc' := 12) (v := .int (nI (v 0 8))) hX dX4_bowsAgree_9 f_X4_66 0 rfl rfl rfl ?_
  refine r_iadd_N (pc' := 13) hX dX4_bowsAgree_12  rfl ?_
  refine r_aload_n (pc' := 14) hX dX4_bowsAgree_13 rfl rfl ?_
  refine V_call0 (k' := 0) (n' := 0) (pc' := 17) hX (r_runV (As := []) hX dX4_bowsAgree_14 k_X4_169 (fun l9 hl9 => cS_bowsInBatches hv0) hG ⟨6, _, TX4, 17, List.mem_cons_self, rfl⟩ rfl rfl (Nat.le_of_ble_eq_true rfl) (by decide) (by decide) (by decide) (by decide)) rfl rfl rfl (fun w9 u9 hp9 => ?_)
  obtain ⟨rfl, rfl⟩ := hp9
  change V X 0 0 (wSt cy ad v) [some (.ref (ad 0))] [.int (nI (sumT (fun i => v (13 + i) 2) (v 0 4))), .int (nI ((v 0 7) + (v 0 8))), .int (nI (v 0 6))] 17
  refine r_iadd_N (pc' := 18) hX dX4_bowsAgree_17  rfl ?_
  refine r_icmp_ne_N (tgt := 25) (pc' := 21) hX dX4_bowsAgree_18 (by decide) rfl (by omega) (by omega) (fun c18 => ?_) (fun c18 => ?_)
  · refine r_iconst (pc' := 26) (v := nI 0) hX dX4_bowsAgree_25 rfl rfl ?_
    exact r_zreturn hX hE dX4_bowsAgree_26 rfl rfl ⟨rB0 (by unfold bowA; omega), rfl⟩ (by decide) (by decide)
  · refine r_iconst (pc' := 22) (v := nI 1) hX dX4_bowsAgree_21 rfl rfl ?_
    refine r_goto (tgt := 26) hX dX4_bowsAgree_22 (by decide) ?_
    exact r_zreturn hX hE dX4_bowsAgree_26 rfl rfl ⟨rB1 (by unfold bowA; omega), rfl⟩ (by decide) (by decide)
