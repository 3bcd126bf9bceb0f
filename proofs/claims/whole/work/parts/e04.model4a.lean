/-! ===== the model: its questions ===== -/
set_option maxRecDepth 20000 in
set_option maxHeartbeats 1000000 in
theorem cMw_alloyCount {l : Launch} {D : va_G} {cy : Nat → ClassId} {sa : Nat → Nat} {ma : Nat → Nat} {S : AS} {t : Nat} {ws : va_W} {v : SV} (hvS : v = S.1) (h : MS cy ma S t ws) (hv : Wf v)  : MG l yX6_alloyCount cX6_alloyCount 1 (some .int) 1 0 0 (D, cy, sa) [.ref (ma 0)] (ws) (fun w u => w = some (.int (mvl (nI (v 0 0)))) ∧ MS cy ma S (kd 1 1 1 1 1 (nI (v 0 0))) u) := by
  obtain ⟨r, e, g, bf, hy, sv, bu, le, pa, rfl, hM⟩ := h
  have hM0 := hM
  obtain ⟨h4, hR, h0, h8, hH, hS, hT, hO, hE⟩ := hM
  rw [← hvS] at hR
  have hv0 := hv
  obtain ⟨wa, wm, wb, ws, wt, wc, wB, wR, wL, wK, wP⟩ := hv
  refine MG_by (own := RX6) (L := [some (.ref (ma 0))]) (by decide +kernel) rfl rfl (Nat.le_of_ble_eq_true rfl) 0 rfl (fun X hX hE hnL hG hcy hnm => ?_)
  refine r_aload_n (pc' := 1) hX dX6_alloyCount_0 rfl rfl ?_
  refine r_aload_n (pc' := 2) hX dX6_alloyCount_1 rfl rfl ?_
  refine r_get (pc' := 5) (v := .ref (ma 1)) hX dX6_alloyCount_2 f_X6_7 0 rfl rfl rfl ?_
  refine r_iconst (pc' := 6) (v := nI 5) hX dX6_alloyCount_5 rfl rfl ?_
  refine r_iald_N (pc' := 7) hX dX6_alloyCount_6 (by rw [hcy]) 1 rfl (by omega) (by decide) rfl ?_
  change V X 0 0 (wM cy ma r e g bf hy sv bu le pa) [some (.ref (ma 0))] [.int (nI (g 5)), .ref (ma 0)] 7
  rw [hR.alo]
  refine V_call0 (k' := 0) (n' := 0) (pc' := 10) hX (r_runV (As := [.int (nI (v 0 0))]) hX dX6_alloyCount_7 k_X6_70 (fun l9 hl9 => cM_done) hG ⟨8, _, TX6, 16, List.mem_cons_self, rfl⟩ rfl rfl (Nat.le_of_ble_eq_true rfl) (by decide) (by decide) (by decide) (by decide)) rfl rfl rfl (fun w9 u9 hp9 => ?_)
  obtain ⟨rfl, rfl⟩ := hp9
  change V X 0 0 (wM cy ma (up1 r 4 0) e g bf hy sv bu le pa) [some (.ref (ma 0))] [.int (nI (v 0 0))] 10
  have e9 : nI (v 0 0) = nI (v 0 0) := by rfl
  exact r_ireturn hX hE dX6_alloyCount_10 rfl (MQ_good hM0 e9 (by omega)) (by decide) (by decide)

set_option maxRecDepth 20000 in
set_option maxHeartbeats 1000000 in
theorem cMw_mouldCount {l : Launch} {D : va_G} {cy : Nat → ClassId} {sa : Nat → Nat} {ma : Nat → Nat} {S : AS} {t : Nat} {ws : va_W} {v : SV} (hvS : v = S.1) (h : MS cy ma S t ws) (hv : Wf v)  : MG l yX6_mouldCount cX6_mouldCount 1 (some .int) 1 0 0 (D, cy, sa) [.ref (ma 0)] (ws) (fun w u => w = some (.int (mvl (nI (v 0 1)))) ∧ MS cy ma S (kd 1 1 1 1 1 (nI (v 0 1))) u) := by
  obtain ⟨r, e, g, bf, hy, sv, bu, le, pa, rfl, hM⟩ := h
  have hM0 := hM
  obtain ⟨h4, hR, h0, h8, hH, hS, hT, hO, hE⟩ := hM
  rw [← hvS] at hR
  have hv0 := hv
  obtain ⟨wa, wm, wb, ws, wt, wc, wB, wR, wL, wK, wP⟩ := hv
  refine MG_by (own := RX6) (L := [some (.ref (ma 0))]) (by decide +kernel) rfl rfl (Nat.le_of_ble_eq_true rfl) 0 rfl (fun X hX hE hnL hG hcy hnm => ?_)
  refine r_aload_n (pc' := 1) hX dX6_mouldCount_0 rfl rfl ?_
  refine r_aload_n (pc' := 2) hX dX6_mouldCount_1 rfl rfl ?_
  refine r_get (pc' := 5) (v := .ref (ma 1)) hX dX6_mouldCount_2 f_X6_7 0 rfl rfl rfl ?_
  refine r_bipush (pc' := 7) (v := nI 6) hX dX6_mouldCount_5 rfl rfl ?_
  refine r_iald_N (pc' := 8) hX dX6_mouldCount_7 (by rw [hcy]) 1 rfl (by omega) (by decide) rfl ?_
  change V X 0 0 (wM cy ma r e g bf hy sv bu le pa) [some (.ref (ma 0))] [.int (nI (g 6)), .ref (ma 0)] 8
  rw [hR.mou]
  refine V_call0 (k' := 0) (n' := 0) (pc' := 11) hX (r_runV (As := [.int (nI (v 0 1))]) hX dX6_mouldCount_8 k_X6_70 (fun l9 hl9 => cM_done) hG ⟨8, _, TX6, 16, List.mem_cons_self, rfl⟩ rfl rfl (Nat.le_of_ble_eq_true rfl) (by decide) (by decide) (by decide) (by decide)) rfl rfl rfl (fun w9 u9 hp9 => ?_)
  obtain ⟨rfl, rfl⟩ := hp9
  change V X 0 0 (wM cy ma (up1 r 4 0) e g bf hy sv bu le pa) [some (.ref (ma 0))] [.int (nI (v 0 1))] 11
  have e9 : nI (v 0 1) = nI (v 0 1) := by rfl
  exact r_ireturn hX hE dX6_mouldCount_11 rfl (MQ_good hM0 e9 (by omega)) (by decide) (by decide)

set_option maxRecDepth 20000 in
set_option maxHeartbeats 1000000 in
theorem cMw_tolerance {l : Launch} {D : va_G} {cy : Nat → ClassId} {sa : Nat → Nat} {ma : Nat → Nat} {S : AS} {t : Nat} {ws : va_W} {v : SV} (hvS : v = S.1) (h : MS cy ma S t ws) (hv : Wf v)  : MG l yX6_tolerance cX6_tolerance 1 (some .int) 1 0 0 (D, cy, sa) [.ref (ma 0)] (ws) (fun w u => w = some (.int (mvl (nI (v 0 2)))) ∧ MS cy ma S (kd 1 1 1 1 1 (nI (v 0 2))) u) := by
  obtain ⟨r, e, g, bf, hy, sv, bu, le, pa, rfl, hM⟩ := h
  have hM0 := hM
  obtain ⟨h4, hR, h0, h8, hH, hS, hT, hO, hE⟩ := hM
  rw [← hvS] at hR
  have hv0 := hv
  obtain ⟨wa, wm, wb, ws, wt, wc, wB, wR, wL, wK, wP⟩ := hv
  refine MG_by (own := RX6) (L := [some (.ref (ma 0))]) (by decide +kernel) rfl rfl (Nat.le_of_ble_eq_true rfl) 0 rfl (fun X hX hE hnL hG hcy hnm => ?_)
  refine r_aload_n (pc' := 1) hX dX6_tolerance_0 rfl rfl ?_
  refine r_aload_n (pc' := 2) hX dX6_tolerance_1 rfl rfl ?_
  refine r_get (pc' := 5) (v := .ref (ma 1)) hX dX6_tolerance_2 f_X6_7 0 rfl rfl rfl ?_
  refine r_iconst (pc' := 6) (v := nI 3) hX dX6_tolerance_5 rfl rfl ?_
  refine r_iald_N (pc' := 7) hX dX6_tolerance_6 (by rw [hcy]) 1 rfl (by omega) (by decide) rfl ?_
  change V X 0 0 (wM cy ma r e g bf hy sv bu le pa) [some (.ref (ma 0))] [.int (nI (g 3)), .ref (ma 0)] 7
  rw [hR.tol]
  refine V_call0 (k' := 0) (n' := 0) (pc' := 10) hX (r_runV (As := [.int (nI (v 0 2))]) hX dX6_tolerance_7 k_X6_70 (fun l9 hl9 => cM_done) hG ⟨8, _, TX6, 16, List.mem_cons_self, rfl⟩ rfl rfl (Nat.le_of_ble_eq_true rfl) (by decide) (by decide) (by decide) (by decide)) rfl rfl rfl (fun w9 u9 hp9 => ?_)
  obtain ⟨rfl, rfl⟩ := hp9
  change V X 0 0 (wM cy ma (up1 r 4 0) e g bf hy sv bu le pa) [some (.ref (ma 0))] [.int (nI (v 0 2))] 10
  have e9 : nI (v 0 2) = nI (v 0 2) := by rfl
  exact r_ireturn hX hE dX6_tolerance_10 rfl (MQ_good hM0 e9 (by omega)) (by decide) (by decide)

set_option maxRecDepth 20000 in
set_option maxHeartbeats 1000000 in
theorem cMw_step {l : Launch} {D : va_G} {cy : Nat → ClassId} {sa : Nat → Nat} {ma : Nat → Nat} {S : AS} {t : Nat} {ws : va_W} {v : SV} (hvS : v = S.1) (h : MS cy ma S t ws) (hv : Wf v)  : MG l yX6_step cX6_step 1 (some .int) 1 0 0 (D, cy, sa) [.ref (ma 0)] (ws) (fun w u => w = some (.int (mvl (nI (v 0 3)))) ∧ MS cy ma S (kd 1 1 1 1 1 (nI (v 0 3))) u) := by
  obtain ⟨r, e, g, bf, hy, sv, bu, le, pa, rfl, hM⟩ := h
  have hM0 := hM
  obtain ⟨h4, hR, h0, h8, hH, hS, hT, hO, hE⟩ := hM
  rw [← hvS] at hR
  have hv0 := hv
  obtain ⟨wa, wm, wb, ws, wt, wc, wB, wR, wL, wK, wP⟩ := hv
  refine MG_by (own := RX6) (L := [some (.ref (ma 0))]) (by decide +kernel) rfl rfl (Nat.le_of_ble_eq_true rfl) 0 rfl (fun X hX hE hnL hG hcy hnm => ?_)
  refine r_aload_n (pc' := 1) hX dX6_step_0 rfl rfl ?_
  refine r_aload_n (pc' := 2) hX dX6_step_1 rfl rfl ?_
  refine r_get (pc' := 5) (v := .ref (ma 1)) hX dX6_step_2 f_X6_7 0 rfl rfl rfl ?_
  refine r_iconst (pc' := 6) (v := nI 4) hX dX6_step_5 rfl rfl ?_
  refine r_iald_N (pc' := 7) hX dX6_step_6 (by rw [hcy]) 1 rfl (by omega) (by decide) rfl ?_
  change V X 0 0 (wM cy ma r e g bf hy sv bu le pa) [some (.ref (ma 0))] [.int (nI (g 4)), .ref (ma 0)] 7
  rw [hR.stp]
  refine V_call0 (k' := 0) (n' := 0) (pc' := 10) hX (r_runV (As := [.int (nI (v 0 3))]) hX dX6_step_7 k_X6_70 (fun l9 hl9 => cM_done) hG ⟨8, _, TX6, 16, List.mem_cons_self, rfl⟩ rfl rfl (Nat.le_of_ble_eq_true rfl) (by decide) (by decide) (by decide) (by decide)) rfl rfl rfl (fun w9 u9 hp9 => ?_)
  obtain ⟨rfl, rfl⟩ := hp9
  change V X 0 0 (wM cy ma (up1 r 4 0) e g bf hy sv bu le pa) [some (.ref (ma 0))] [.int (nI (v 0 3))] 10
  have e9 : nI (v 0 3) = nI (v 0 3) := by rfl
  exact r_ireturn hX hE dX6_step_10 rfl (MQ_good hM0 e9 (by omega)) (by decide) (by decide)

set_option maxRecDepth 20000 in
set_option maxHeartbeats 1000000 in
theorem cMw_batchCount {l : Launch} {D : va_G} {cy : Nat → ClassId} {sa : Nat → Nat} {ma : Nat → Nat} {S : AS} {t : Nat} {ws : va_W} {v : SV} (hvS : v = S.1) (h : MS cy ma S t ws) (hv : Wf v)  : MG l yX6_batchCount cX6_batchCount 1 (some .int) 1 0 0 (D, cy, sa) [.ref (ma 0)] (ws) (fun w u => w = some (.int (mvl (nI (v 0 4)))) ∧ MS cy ma S (kd 1 1 1 1 1 (nI (v 0 4))) u) := by
  obtain ⟨r, e, g, bf, hy, sv, bu, le, pa, rfl, hM⟩ := h
  have hM0 := hM
  obtain ⟨h4, hR, h0, h8, hH, hS, hT, hO, hE⟩ := hM
  rw [← hvS] at hR
  have hv0 := hv
  obtain ⟨wa, wm, wb, ws, wt, wc, wB, wR, wL, wK, wP⟩ := hv
  refine MG_by (own := RX6) (L := [some (.ref (ma 0))]) (by decide +kernel) rfl rfl (Nat.le_of_ble_eq_true rfl) 0 rfl (fun X hX hE hnL hG hcy hnm => ?_)
  refine r_aload_n (pc' := 1) hX dX6_batchCount_0 rfl rfl ?_
  refine r_aload_n (pc' := 2) hX dX6_batchCount_1 rfl rfl ?_
  refine r_get (pc' := 5) (v := .ref (ma 1)) hX dX6_batchCount_2 f_X6_7 0 rfl rfl rfl ?_
  refine r_bipush (pc' := 7) (v := nI 7) hX dX6_batchCount_5 rfl rfl ?_
  refine r_iald_N (pc' := 8) hX dX6_batchCount_7 (by rw [hcy]) 1 rfl (by omega) (by decide) rfl ?_
  change V X 0 0 (wM cy ma r e g bf hy sv bu le pa) [some (.ref (ma 0))] [.int (nI (g 7)), .ref (ma 0)] 8
  rw [hR.bat]
  refine V_call0 (k' := 0) (n' := 0) (pc' := 11) hX (r_runV (As := [.int (nI (v 0 4))]) hX dX6_batchCount_8 k_X6_70 (fun l9 hl9 => cM_done) hG ⟨8, _, TX6, 16, List.mem_cons_self, rfl⟩ rfl rfl (Nat.le_of_ble_eq_true rfl) (by decide) (by decide) (by decide) (by decide)) rfl rfl rfl (fun w9 u9 hp9 => ?_)
  obtain ⟨rfl, rfl⟩ := hp9
  change V X 0 0 (wM cy ma (up1 r 4 0) e g bf hy sv bu le pa) [some (.ref (ma 0))] [.int (nI (v 0 4))] 11
  have e9 : nI (v 0 4) = nI (v 0 4) := by rfl
  exact r_ireturn hX hE dX6_batchCount_11 rfl (MQ_good hM0 e9 (by omega)) (by decide) (by decide)

set_option maxRecDepth 20000 in
set_option maxHeartbeats 1000000 in
theorem cMw_castTotal {l : Launch} {D : va_G} {cy : Nat → ClassId} {sa : Nat → Nat} {ma : Nat → Nat} {S : AS} {t : Nat} {ws : va_W} {v : SV} (hvS : v = S.1) (h : MS cy ma S t ws) (hv : Wf v)  : MG l yX6_castTotal cX6_castTotal 1 (some .int) 1 0 0 (D, cy, sa) [.ref (ma 0)] (ws) (fun w u => w = some (.int (mvl (nI (v 0 6)))) ∧ MS cy ma S (kd 1 1 1 1 1 (nI (v 0 6))) u) := by
  obtain ⟨r, e, g, bf, hy, sv, bu, le, pa, rfl, hM⟩ := h
  have hM0 := hM
  obtain ⟨h4, hR, h0, h8, hH, hS, hT, hO, hE⟩ := hM
  rw [← hvS] at hR
  have hv0 := hv
  obtain ⟨wa, wm, wb, ws, wt, wc, wB, wR, wL, wK, wP⟩ := hv
  refine MG_by (own := RX6) (L := [some (.ref (ma 0))]) (by decide +kernel) rfl rfl (Nat.le_of_ble_eq_true rfl) 0 rfl (fun X hX hE hnL hG hcy hnm => ?_)
  refine r_aload_n (pc' := 1) hX dX6_castTotal_0 rfl rfl ?_
  refine r_aload_n (pc' := 2) hX dX6_castTotal_1 rfl rfl ?_
  refine r_get (pc' := 5) (v := .ref (ma 1)) hX dX6_castTotal_2 f_X6_7 0 rfl rfl rfl ?_
  refine r_bipush (pc' := 7) (v := nI 9) hX dX6_castTotal_5 rfl rfl ?_
  refine r_iald_N (pc' := 8) hX dX6_castTotal_7 (by rw [hcy]) 1 rfl (by omega) (by decide) rfl ?_
  change V X 0 0 (wM cy ma r e g bf hy sv bu le pa) [some (.ref (ma 0))] [.int (nI (g 9)), .ref (ma 0)] 8
  rw [hR.cas]
  refine V_call0 (k' := 0) (n' := 0) (pc' := 11) hX (r_runV (As := [.int (nI (v 0 6))]) hX dX6_castTotal_8 k_X6_70 (fun l9 hl9 => cM_done) hG ⟨8, _, TX6, 16, List.mem_cons_self, rfl⟩ rfl rfl (Nat.le_of_ble_eq_true rfl) (by decide) (by decide) (by decide) (by decide)) rfl rfl rfl (fun w9 u9 hp9 => ?_)
  obtain ⟨rfl, rfl⟩ := hp9
  change V X 0 0 (wM cy ma (up1 r 4 0) e g bf hy sv bu le pa) [some (.ref (ma 0))] [.int (nI (v 0 6))] 11
  have e9 : nI (v 0 6) = nI (v 0 6) := by rfl
  exact r_ireturn hX hE dX6_castTotal_11 rfl (MQ_good hM0 e9 (by omega)) (by decide) (by decide)

set_option maxRecDepth 20000 in
set_option maxHeartbeats 1000000 in
theorem cMw_soldTotal {l : Launch} {D : va_G} {cy : Nat → ClassId} {sa : Nat → Nat} {ma : Nat → Nat} {S : AS} {t : Nat} {ws : va_W} {v : SV} (hvS : v = S.1) (h : MS cy ma S t ws) (hv : Wf v)  : MG l yX6_soldTotal cX6_soldTotal 1 (some .int) 1 0 0 (D, cy, sa) [.ref (ma 0)] (ws) (fun w u => w = some (.int (mvl (nI (v 0 7)))) ∧ MS cy ma S (kd 1 1 1 1 1 (nI (v 0 7))) u) := by
  obtain ⟨r, e, g, bf, hy, sv, bu, le, pa, rfl, hM⟩ := h
  have hM0 := hM
  obtain ⟨h4, hR, h0, h8, hH, hS, hT, hO, hE⟩ := hM
  rw [← hvS] at hR
  have hv0 := hv
  obtain ⟨wa, wm, wb, ws, wt, wc, wB, wR, wL, wK, wP⟩ := hv
  refine MG_by (own := RX6) (L := [some (.ref (ma 0))]) (by decide +kernel) rfl rfl (Nat.le_of_ble_eq_true rfl) 0 rfl (fun X hX hE hnL hG hcy hnm => ?_)
  refine r_aload_n (pc' := 1) hX dX6_soldTotal_0 rfl rfl ?_
  refine r_aload_n (pc' := 2) hX dX6_soldTotal_1 rfl rfl ?_
  refine r_get (pc' := 5) (v := .ref (ma 1)) hX dX6_soldTotal_2 f_X6_7 0 rfl rfl rfl ?_
  refine r_bipush (pc' := 7) (v := nI 10) hX dX6_soldTotal_5 rfl rfl ?_
  refine r_iald_N (pc' := 8) hX dX6_soldTotal_7 (by rw [hcy]) 1 rfl (by omega) (by decide) rfl ?_
  change V X 0 0 (wM cy ma r e g bf hy sv bu le pa) [some (.ref (ma 0))] [.int (nI (g 10)), .ref (ma 0)] 8
  rw [hR.sol]
  refine V_call0 (k' := 0) (n' := 0) (pc' := 11) hX (r_runV (As := [.int (nI (v 0 7))]) hX dX6_soldTotal_8 k_X6_70 (fun l9 hl9 => cM_done) hG ⟨8, _, TX6, 16, List.mem_cons_self, rfl⟩ rfl rfl (Nat.le_of_ble_eq_true rfl) (by decide) (by decide) (by decide) (by decide)) rfl rfl rfl (fun w9 u9 hp9 => ?_)
  obtain ⟨rfl, rfl⟩ := hp9
  change V X 0 0 (wM cy ma (up1 r 4 0) e g bf hy sv bu le pa) [some (.ref (ma 0))] [.int (nI (v 0 7))] 11
  have e9 : nI (v 0 7) = nI (v 0 7) := by rfl
  exact r_ireturn hX hE dX6_soldTotal_11 rfl (MQ_good hM0 e9 (by omega)) (by decide) (by decide)

set_option maxRecDepth 20000 in
set_option maxHeartbeats 1000000 in
theorem cMw_meltedTotal {l : Launch} {D : va_G} {cy : Nat → ClassId} {sa : Nat → Nat} {ma : Nat → Nat} {S : AS} {t : Nat} {ws : va_W} {v : SV} (hvS : v = S.1) (h : MS cy ma S t ws) (hv : Wf v)  : MG l yX6_meltedTotal cX6_meltedTotal 1 (some .int) 1 0 0 (D, cy, sa) [.ref (ma 0)] (ws) (fun w u => w = some (.int (mvl (nI (v 0 8)))) ∧ MS cy ma S (kd 1 1 1 1 1 (nI (v 0 8))) u) := by
  obtain ⟨r, e, g, bf, hy, sv, bu, le, pa, rfl, hM⟩ := h
  have hM0 := hM
  obtain ⟨h4, hR, h0, h8, hH, hS, hT, hO, hE⟩ := hM
  rw [← hvS] at hR
  have hv0 := hv
  obtain ⟨wa, wm, wb, ws, wt, wc, wB, wR, wL, wK, wP⟩ := hv
  refine MG_by (own := RX6) (L := [some (.ref (ma 0))]) (by decide +kernel) rfl rfl (Nat.le_of_ble_eq_true rfl) 0 rfl (fun X hX hE hnL hG hcy hnm => ?_)
  refine r_aload_n (pc' := 1) hX dX6_meltedTotal_0 rfl rfl ?_
  refine r_aload_n (pc' := 2) hX dX6_meltedTotal_1 rfl rfl ?_
  refine r_get (pc' := 5) (v := .ref (ma 1)) hX dX6_meltedTotal_2 f_X6_7 0 rfl rfl rfl ?_
  refine r_bipush (pc' := 7) (v := nI 11) hX dX6_meltedTotal_5 rfl rfl ?_
  refine r_iald_N (pc' := 8) hX dX6_meltedTotal_7 (by rw [hcy]) 1 rfl (by omega) (by decide) rfl ?_
  change V X 0 0 (wM cy ma r e g bf hy sv bu le pa) [some (.ref (ma 0))] [.int (nI (g 11)), .ref (ma 0)] 8
  rw [hR.mel]
  refine V_call0 (k' := 0) (n' := 0) (pc' := 11) hX (r_runV (As := [.int (nI (v 0 8))]) hX dX6_meltedTotal_8 k_X6_70 (fun l9 hl9 => cM_done) hG ⟨8, _, TX6, 16, List.mem_cons_self, rfl⟩ rfl rfl (Nat.le_of_ble_eq_true rfl) (by decide) (by decide) (by decide) (by decide)) rfl rfl rfl (fun w9 u9 hp9 => ?_)
  obtain ⟨rfl, rfl⟩ := hp9
  change V X 0 0 (wM cy ma (up1 r 4 0) e g bf hy sv bu le pa) [some (.ref (ma 0))] [.int (nI (v 0 8))] 11
  have e9 : nI (v 0 8) = nI (v 0 8) := by rfl
  exact r_ireturn hX hE dX6_meltedTotal_11 rfl (MQ_good hM0 e9 (by omega)) (by decide) (by decide)

set_option maxRecDepth 20000 in
set_option maxHeartbeats 1000000 in
theorem cMw_parts {l : Launch} {D : va_G} {cy : Nat → ClassId} {sa : Nat → Nat} {ma : Nat → Nat} {S : AS} {t : Nat} {ws : va_W} {v : SV} (hvS : v = S.1) (h : MS cy ma S t ws) (hv : Wf v) {x y : Int32}  : MG l yX6_parts cX6_parts 3 (some .int) 2 0 0 (D, cy, sa) [.ref (ma 0), .int x, .int y] (ws) (fun w u => w = some (.int (mvl (qParts v x y))) ∧ MS cy ma S (kd 1 1 1 1 1 (qParts v x y)) u) := by
  obtain ⟨r, e, g, bf, hy, sv, bu, le, pa, rfl, hM⟩ := h
  have hM0 := hM
  obtain ⟨h4, hR, h0, h8, hH, hS, hT, hO, hE⟩ := hM
  rw [← hvS] at hR
  have hv0 := hv
  obtain ⟨wa, wm, wb, ws, wt, wc, wB, wR, wL, wK, wP⟩ := hv
  refine MG_by (own := RX6) (L := [some (.ref (ma 0)), some (.int x), some (.int y)]) (by decide +kernel) rfl rfl (Nat.le_of_ble_eq_true rfl) 0 rfl (fun X hX hE hnL hG hcy hnm => ?_)
  refine r_aload_n (pc' := 1) hX dX6_parts_0 rfl rfl ?_
  refine r_iload_n (pc' := 2) hX dX6_parts_1 rfl rfl ?_
  refine V_call0 (k' := 0) (n' := 0) (pc' := 5) hX (r_runV (As := [.int x]) hX dX6_parts_2 k_X6_93 (fun l9 hl9 => cM_isAlloy hv0 hR) hG ⟨8, _, TX6, 16, List.mem_cons_self, rfl⟩ rfl rfl (Nat.le_of_ble_eq_true rfl) (by decide) (by decide) (by decide) (by decide)) rfl rfl rfl (fun w9 u9 hp9 => ?_)
  obtain ⟨rfl, rfl⟩ := hp9
  change V X 0 0 (wM cy ma r e g bf hy sv bu le pa) [some (.ref (ma 0)), some (.int x), some (.int y)] [.int (bI (inR x (v 0 0)))] 5
  refine r_if_eq_B (tgt := 28) (pc' := 8) hX dX6_parts_5 (by decide) rfl (fun c5 => ?_) (fun c5 => ?_)
  · refine r_aload_n (pc' := 29) hX dX6_parts_28 rfl rfl ?_
    refine r_iconst (pc' := 30) (v := nI 1) hX dX6_parts_29 rfl rfl ?_
    refine V_call0 (k' := 0) (n' := 0) (pc' := 33) hX (r_runV (As := [.int (nI 1)]) hX dX6_parts_30 k_X6_67 (fun l9 hl9 => cM_fails (by omega)) hG ⟨8, _, TX6, 16, List.mem_cons_self, rfl⟩ rfl rfl (Nat.le_of_ble_eq_true rfl) (by decide) (by decide) (by decide) (by decide)) rfl rfl rfl (fun w9 u9 hp9 => ?_)
    obtain ⟨rfl, rfl⟩ := hp9
    change V X 0 0 (wM cy ma (up1 r 4 1) e g bf hy sv bu le pa) [some (.ref (ma 0)), some (.int x), some (.int y)] [.int (nI 0)] 33
    have e9 : qParts v x y = -1 := by unfold qParts; rw [if_neg (by rintro ⟨q1, q2⟩; first | exact c5 q1 | exact c12 q2)]
    exact r_ireturn hX hE dX6_parts_33 rfl (MQ_bad hM0 e9 rfl rfl) (by decide) (by decide)
  · obtain ⟨a, ha, rfl⟩ := nat_of c5
    have ta : (nI a).toInt = (a : Int) := nI_I (by omega)
    have na : tn (nI a) = a := tn_nI (by omega)
    refine r_iload_n (pc' := 9) hX dX6_parts_8 rfl rfl ?_
    refine V_calln (k' := 0) (n' := 0) (pc' := 12) hX (r_runS (As := [.int y]) hX dX6_parts_9 k_X6_86 (fun l9 hl9 => cM_isMetal) hG rfl rfl (Nat.le_of_ble_eq_true rfl) (by decide) (by decide) (by decide) (by decide)) rfl rfl rfl (fun w9 hp9 => ?_)
    obtain rfl := hp9
    change V X 0 0 (wM cy ma r e g bf hy sv bu le pa) [some (.ref (ma 0)), some (.int (nI a)), some (.int y)] [.int (bI (inR y 3))] 12
    refine r_if_eq_B (tgt := 28) (pc' := 15) hX dX6_parts_12 (by decide) rfl (fun c12 => ?_) (fun c12 => ?_)
    · refine r_aload_n (pc' := 29) hX dX6_parts_28 rfl rfl ?_
      refine r_iconst (pc' := 30) (v := nI 1) hX dX6_parts_29 rfl rfl ?_
      refine V_call0 (k' := 0) (n' := 0) (pc' := 33) hX (r_runV (As := [.int (nI 1)]) hX dX6_parts_30 k_X6_67 (fun l9 hl9 => cM_fails (by omega)) hG ⟨8, _, TX6, 16, List.mem_cons_self, rfl⟩ rfl rfl (Nat.le_of_ble_eq_true rfl) (by decide) (by decide) (by decide) (by decide)) rfl rfl rfl (fun w9 u9 hp9 => ?_)
      obtain ⟨rfl, rfl⟩ := hp9
      change V X 0 0 (wM cy ma (up1 r 4 1) e g bf hy sv bu le pa) [some (.ref (ma 0)), some (.int (nI a)), some (.int y)] [.int (nI 0)] 33
      have e9 : qParts v (nI a) y = -1 := by unfold qParts; rw [if_neg (by rintro ⟨q1, q2⟩; first | exact c5 q1 | exact c12 q2)]
      exact r_ireturn hX hE dX6_parts_33 rfl (MQ_bad hM0 e9 rfl rfl) (by decide) (by decide)
    · obtain ⟨b, hb, rfl⟩ := nat_of c12
      have tb : (nI b).toInt = (b : Int) := nI_I (by omega)
      have nb : tn (nI b) = b := tn_nI (by omega)
      have r0 := wR a b (by omega) (by omega)
      refine r_aload_n (pc' := 16) hX dX6_parts_15 rfl rfl ?_
      refine r_aload_n (pc' := 17) hX dX6_parts_16 rfl rfl ?_
      refine r_iload_n (pc' := 18) hX dX6_parts_17 rfl rfl ?_
      refine r_iload_n (pc' := 19) hX dX6_parts_18 rfl rfl ?_
      refine V_call0 (k' := 0) (n' := 0) (pc' := 22) hX (r_runV (As := [.int (nI a), .int (nI b)]) hX dX6_parts_19 k_X6_53 (fun l9 hl9 => cM_part hR (by omega) (by omega)) hG ⟨8, _, TX6, 16, List.mem_cons_self, rfl⟩ rfl rfl (Nat.le_of_ble_eq_true rfl) (by decide) (by decide) (by decide) (by decide)) rfl rfl rfl (fun w9 u9 hp9 => ?_)
      obtain ⟨rfl, rfl⟩ := hp9
      change V X 0 0 (wM cy ma r e g bf hy sv bu le pa) [some (.ref (ma 0)), some (.int (nI a)), some (.int (nI b))] [.int (nI (v (7 + a) b)), .ref (ma 0)] 22
      refine V_call0 (k' := 0) (n' := 0) (pc' := 25) hX (r_runV (As := [.int (nI (v (7 + a) b))]) hX dX6_parts_22 k_X6_70 (fun l9 hl9 => cM_done) hG ⟨8, _, TX6, 16, List.mem_cons_self, rfl⟩ rfl rfl (Nat.le_of_ble_eq_true rfl) (by decide) (by decide) (by decide) (by decide)) rfl rfl rfl (fun w9 u9 hp9 => ?_)
      obtain ⟨rfl, rfl⟩ := hp9
      change V X 0 0 (wM cy ma (up1 r 4 0) e g bf hy sv bu le pa) [some (.ref (ma 0)), some (.int (nI a)), some (.int (nI b))] [.int (nI (v (7 + a) b))] 25
      refine r_goto (tgt := 33) hX dX6_parts_25 (by decide) ?_
      have e9 : qParts v (nI a) (nI b) = nI (v (7 + a) b) := by unfold qParts; rw [if_pos ⟨c5, c12⟩, na, nb]
      exact r_ireturn hX hE dX6_parts_33 rfl (MQ_good hM0 e9 (by omega)) (by decide) (by decide)

set_option maxRecDepth 20000 in
set_option maxHeartbeats 1000000 in
theorem cMw_mouldLength {l : Launch} {D : va_G} {cy : Nat → ClassId} {sa : Nat → Nat} {ma : Nat → Nat} {S : AS} {t : Nat} {ws : va_W} {v : SV} (hvS : v = S.1) (h : MS cy ma S t ws) (hv : Wf v) {x : Int32}  : MG l yX6_mouldLength cX6_mouldLength 2 (some .int) 2 0 0 (D, cy, sa) [.ref (ma 0), .int x] (ws) (fun w u => w = some (.int (mvl (qMld 1 v x))) ∧ MS cy ma S (kd 1 1 1 1 1 (qMld 1 v x)) u) := by
  obtain ⟨r, e, g, bf, hy, sv, bu, le, pa, rfl, hM⟩ := h
  have hM0 := hM
  obtain ⟨h4, hR, h0, h8, hH, hS, hT, hO, hE⟩ := hM
  rw [← hvS] at hR
  have hv0 := hv
  obtain ⟨wa, wm, wb, ws, wt, wc, wB, wR, wL, wK, wP⟩ := hv
  refine MG_by (own := RX6) (L := [some (.ref (ma 0)), some (.int x)]) (by decide +kernel) rfl rfl (Nat.le_of_ble_eq_true rfl) 0 rfl (fun X hX hE hnL hG hcy hnm => ?_)
  refine r_aload_n (pc' := 1) hX dX6_mouldLength_0 rfl rfl ?_
  refine r_iload_n (pc' := 2) hX dX6_mouldLength_1 rfl rfl ?_
  refine V_call0 (k' := 0) (n' := 0) (pc' := 5) hX (r_runV (As := [.int x]) hX dX6_mouldLength_2 k_X6_96 (fun l9 hl9 => cM_isMould hv0 hR) hG ⟨8, _, TX6, 16, List.mem_cons_self, rfl⟩ rfl rfl (Nat.le_of_ble_eq_true rfl) (by decide) (by decide) (by decide) (by decide)) rfl rfl rfl (fun w9 u9 hp9 => ?_)
  obtain ⟨rfl, rfl⟩ := hp9
  change V X 0 0 (wM cy ma r e g bf hy sv bu le pa) [some (.ref (ma 0)), some (.int x)] [.int (bI (inR x (v 0 1)))] 5
  refine r_if_eq_B (tgt := 24) (pc' := 8) hX dX6_mouldLength_5 (by decide) rfl (fun c5 => ?_) (fun c5 => ?_)
  · refine r_aload_n (pc' := 25) hX dX6_mouldLength_24 rfl rfl ?_
    refine r_iconst (pc' := 26) (v := nI 1) hX dX6_mouldLength_25 rfl rfl ?_
    refine V_call0 (k' := 0) (n' := 0) (pc' := 29) hX (r_runV (As := [.int (nI 1)]) hX dX6_mouldLength_26 k_X6_67 (fun l9 hl9 => cM_fails (by omega)) hG ⟨8, _, TX6, 16, List.mem_cons_self, rfl⟩ rfl rfl (Nat.le_of_ble_eq_true rfl) (by decide) (by decide) (by decide) (by decide)) rfl rfl rfl (fun w9 u9 hp9 => ?_)
    obtain ⟨rfl, rfl⟩ := hp9
    change V X 0 0 (wM cy ma (up1 r 4 1) e g bf hy sv bu le pa) [some (.ref (ma 0)), some (.int x)] [.int (nI 0)] 29
    have e9 : qMld 1 v x = -1 := by unfold qMld; rw [if_neg c5]
    exact r_ireturn hX hE dX6_mouldLength_29 rfl (MQ_bad hM0 e9 rfl rfl) (by decide) (by decide)
  · obtain ⟨a, ha, rfl⟩ := nat_of c5
    have ta : (nI a).toInt = (a : Int) := nI_I (by omega)
    have na : tn (nI a) = a := tn_nI (by omega)
    obtain ⟨l1, l2⟩ := wL a (by omega)
    refine r_aload_n (pc' := 9) hX dX6_mouldLength_8 rfl rfl ?_
    refine r_aload_n (pc' := 10) hX dX6_mouldLength_9 rfl rfl ?_
    refine r_get (pc' := 13) (v := .ref (ma 1)) hX dX6_mouldLength_10 f_X6_7 0 rfl rfl rfl ?_
    refine r_bipush (pc' := 15) (v := nI 39) hX dX6_mouldLength_13 rfl rfl ?_
    refine r_iload_n (pc' := 16) hX dX6_mouldLength_15 rfl rfl ?_
    refine r_iadd_N (pc' := 17) hX dX6_mouldLength_16  rfl ?_
    refine r_iald_N (pc' := 18) hX dX6_mouldLength_17 (by rw [hcy]) 1 rfl (by omega) (by decide) rfl ?_
    change V X 0 0 (wM cy ma r e g bf hy sv bu le pa) [some (.ref (ma 0)), some (.int (nI a))] [.int (nI (g (39 + a))), .ref (ma 0)] 18
    rw [(hR.len (by omega))]
    refine V_call0 (k' := 0) (n' := 0) (pc' := 21) hX (r_runV (As := [.int (nI (v 1 a))]) hX dX6_mouldLength_18 k_X6_70 (fun l9 hl9 => cM_done) hG ⟨8, _, TX6, 16, List.mem_cons_self, rfl⟩ rfl rfl (Nat.le_of_ble_eq_true rfl) (by decide) (by decide) (by decide) (by decide)) rfl rfl rfl (fun w9 u9 hp9 => ?_)
    obtain ⟨rfl, rfl⟩ := hp9
    change V X 0 0 (wM cy ma (up1 r 4 0) e g bf hy sv bu le pa) [some (.ref (ma 0)), some (.int (nI a))] [.int (nI (v 1 a))] 21
    refine r_goto (tgt := 29) hX dX6_mouldLength_21 (by decide) ?_
    have e9 : qMld 1 v (nI a) = nI (v 1 a) := by unfold qMld; rw [if_pos c5, na]
    exact r_ireturn hX hE dX6_mouldLength_29 rfl (MQ_good hM0 e9 (by omega)) (by decide) (by decide)
