/-! ===== the model: its questions ===== -/
set_option maxRecDepth 20000 in
set_option maxHeartbeats 1000000 in
theorem cMw_uses {l : Launch} {D : va_G} {cy : Nat → ClassId} {sa : Nat → Nat} {ma : Nat → Nat} {S : AS} {t : Nat} {ws : va_W} {v : SV} (hvS : v = S.1) (h : MS cy ma S t ws) (hv : Wf v) {x : Int32}  : MG l yX6_uses cX6_uses 2 (some .int) 2 0 0 (D, cy, sa) [.ref (ma 0), .int x] (ws) (fun w u => w = some (.int (mvl (qMld 2 v x))) ∧ MS cy ma S (kd 1 1 1 1 1 (qMld 2 v x)) u) := by
  obtain ⟨r, e, g, bf, hy, sv, bu, le, pa, rfl, hM⟩ := h
  have hM0 := hM
  obtain ⟨h4, hR, h0, h8, hH, hS, hT, hO, hE⟩ := hM
  rw [← hvS] at hR
  have hv0 := hv
  obtain ⟨wa, wm, wb, ws, wt, wc, wB, wR, wL, wK, wP⟩ := hv
  refine MG_by (own := RX6) (L := [some (.ref (ma 0)), some (.int x)]) (by decide +kernel) rfl rfl (Nat.le_of_ble_eq_true rfl) 0 rfl (fun X hX hE hnL hG hcy hnm => ?_)
  refine r_aload_n (pc' := 1) hX dX6_uses_0 rfl rfl ?_
  refine r_iload_n (pc' := 2) hX dX6_uses_1 rfl rfl ?_
  refine V_call0 (k' := 0) (n' := 0) (pc' := 5) hX (r_runV (As := [.int x]) hX dX6_uses_2 k_X6_96 (fun l9 hl9 => cM_isMould hv0 hR) hG ⟨8, _, TX6, 16, List.mem_cons_self, rfl⟩ rfl rfl (Nat.le_of_ble_eq_true rfl) (by decide) (by decide) (by decide) (by decide)) rfl rfl rfl (fun w9 u9 hp9 => ?_)
  obtain ⟨rfl, rfl⟩ := hp9
  change V X 0 0 (wM cy ma r e g bf hy sv bu le pa) [some (.ref (ma 0)), some (.int x)] [.int (bI (inR x (v 0 1)))] 5
  refine r_if_eq_B (tgt := 24) (pc' := 8) hX dX6_uses_5 (by decide) rfl (fun c5 => ?_) (fun c5 => ?_)
  · refine r_aload_n (pc' := 25) hX dX6_uses_24 rfl rfl ?_
    refine r_iconst (pc' := 26) (v := nI 1) hX dX6_uses_25 rfl rfl ?_
    refine V_call0 (k' := 0) (n' := 0) (pc' := 29) hX (r_runV (As := [.int (nI 1)]) hX dX6_uses_26 k_X6_67 (fun l9 hl9 => cM_fails (by omega)) hG ⟨8, _, TX6, 16, List.mem_cons_self, rfl⟩ rfl rfl (Nat.le_of_ble_eq_true rfl) (by decide) (by decide) (by decide) (by decide)) rfl rfl rfl (fun w9 u9 hp9 => ?_)
    obtain ⟨rfl, rfl⟩ := hp9
    change V X 0 0 (wM cy ma (up1 r 4 1) e g bf hy sv bu le pa) [some (.ref (ma 0)), some (.int x)] [.int (nI 0)] 29
    have e9 : qMld 2 v x = -1 := by unfold qMld; rw [if_neg c5]
    exact r_ireturn hX hE dX6_uses_29 rfl (MQ_bad hM0 e9 rfl rfl) (by decide) (by decide)
  · obtain ⟨a, ha, rfl⟩ := nat_of c5
    have ta : (nI a).toInt = (a : Int) := nI_I (by omega)
    have na : tn (nI a) = a := tn_nI (by omega)
    obtain ⟨l1, l2⟩ := wL a (by omega)
    refine r_aload_n (pc' := 9) hX dX6_uses_8 rfl rfl ?_
    refine r_aload_n (pc' := 10) hX dX6_uses_9 rfl rfl ?_
    refine r_get (pc' := 13) (v := .ref (ma 1)) hX dX6_uses_10 f_X6_7 0 rfl rfl rfl ?_
    refine r_bipush (pc' := 15) (v := nI 43) hX dX6_uses_13 rfl rfl ?_
    refine r_iload_n (pc' := 16) hX dX6_uses_15 rfl rfl ?_
    refine r_iadd_N (pc' := 17) hX dX6_uses_16  rfl ?_
    refine r_iald_N (pc' := 18) hX dX6_uses_17 (by rw [hcy]) 1 rfl (by omega) (by decide) rfl ?_
    change V X 0 0 (wM cy ma r e g bf hy sv bu le pa) [some (.ref (ma 0)), some (.int (nI a))] [.int (nI (g (43 + a))), .ref (ma 0)] 18
    rw [(hR.use (by omega))]
    refine V_call0 (k' := 0) (n' := 0) (pc' := 21) hX (r_runV (As := [.int (nI (v 2 a))]) hX dX6_uses_18 k_X6_70 (fun l9 hl9 => cM_done) hG ⟨8, _, TX6, 16, List.mem_cons_self, rfl⟩ rfl rfl (Nat.le_of_ble_eq_true rfl) (by decide) (by decide) (by decide) (by decide)) rfl rfl rfl (fun w9 u9 hp9 => ?_)
    obtain ⟨rfl, rfl⟩ := hp9
    change V X 0 0 (wM cy ma (up1 r 4 0) e g bf hy sv bu le pa) [some (.ref (ma 0)), some (.int (nI a))] [.int (nI (v 2 a))] 21
    refine r_goto (tgt := 29) hX dX6_uses_21 (by decide) ?_
    have e9 : qMld 2 v (nI a) = nI (v 2 a) := by unfold qMld; rw [if_pos c5, na]
    exact r_ireturn hX hE dX6_uses_29 rfl (MQ_good hM0 e9 (by omega)) (by decide) (by decide)

set_option maxRecDepth 20000 in
set_option maxHeartbeats 1000000 in
theorem cMw_stock {l : Launch} {D : va_G} {cy : Nat → ClassId} {sa : Nat → Nat} {ma : Nat → Nat} {S : AS} {t : Nat} {ws : va_W} {v : SV} (hvS : v = S.1) (h : MS cy ma S t ws) (hv : Wf v) {x : Int32}  : MG l yX6_stock cX6_stock 2 (some .int) 2 0 0 (D, cy, sa) [.ref (ma 0), .int x] (ws) (fun w u => w = some (.int (mvl (qMet 3 v x))) ∧ MS cy ma S (kd 1 1 1 1 1 (qMet 3 v x)) u) := by
  obtain ⟨r, e, g, bf, hy, sv, bu, le, pa, rfl, hM⟩ := h
  have hM0 := hM
  obtain ⟨h4, hR, h0, h8, hH, hS, hT, hO, hE⟩ := hM
  rw [← hvS] at hR
  have hv0 := hv
  obtain ⟨wa, wm, wb, ws, wt, wc, wB, wR, wL, wK, wP⟩ := hv
  refine MG_by (own := RX6) (L := [some (.ref (ma 0)), some (.int x)]) (by decide +kernel) rfl rfl (Nat.le_of_ble_eq_true rfl) 0 rfl (fun X hX hE hnL hG hcy hnm => ?_)
  refine r_iload_n (pc' := 1) hX dX6_stock_0 rfl rfl ?_
  refine V_calln (k' := 0) (n' := 0) (pc' := 4) hX (r_runS (As := [.int x]) hX dX6_stock_1 k_X6_86 (fun l9 hl9 => cM_isMetal) hG rfl rfl (Nat.le_of_ble_eq_true rfl) (by decide) (by decide) (by decide) (by decide)) rfl rfl rfl (fun w9 hp9 => ?_)
  obtain rfl := hp9
  change V X 0 0 (wM cy ma r e g bf hy sv bu le pa) [some (.ref (ma 0)), some (.int x)] [.int (bI (inR x 3))] 4
  refine r_if_eq_B (tgt := 22) (pc' := 7) hX dX6_stock_4 (by decide) rfl (fun c4 => ?_) (fun c4 => ?_)
  · refine r_aload_n (pc' := 23) hX dX6_stock_22 rfl rfl ?_
    refine r_iconst (pc' := 24) (v := nI 1) hX dX6_stock_23 rfl rfl ?_
    refine V_call0 (k' := 0) (n' := 0) (pc' := 27) hX (r_runV (As := [.int (nI 1)]) hX dX6_stock_24 k_X6_67 (fun l9 hl9 => cM_fails (by omega)) hG ⟨8, _, TX6, 16, List.mem_cons_self, rfl⟩ rfl rfl (Nat.le_of_ble_eq_true rfl) (by decide) (by decide) (by decide) (by decide)) rfl rfl rfl (fun w9 u9 hp9 => ?_)
    obtain ⟨rfl, rfl⟩ := hp9
    change V X 0 0 (wM cy ma (up1 r 4 1) e g bf hy sv bu le pa) [some (.ref (ma 0)), some (.int x)] [.int (nI 0)] 27
    have e9 : qMet 3 v x = -1 := by unfold qMet; rw [if_neg c4]
    exact r_ireturn hX hE dX6_stock_27 rfl (MQ_bad hM0 e9 rfl rfl) (by decide) (by decide)
  · obtain ⟨a, ha, rfl⟩ := nat_of c4
    have ta : (nI a).toInt = (a : Int) := nI_I (by omega)
    have na : tn (nI a) = a := tn_nI (by omega)
    have k0 := wK a (by omega)
    refine r_aload_n (pc' := 8) hX dX6_stock_7 rfl rfl ?_
    refine r_aload_n (pc' := 9) hX dX6_stock_8 rfl rfl ?_
    refine r_get (pc' := 12) (v := .ref (ma 1)) hX dX6_stock_9 f_X6_7 0 rfl rfl rfl ?_
    refine r_iconst (pc' := 13) (v := nI 0) hX dX6_stock_12 rfl rfl ?_
    refine r_iload_n (pc' := 14) hX dX6_stock_13 rfl rfl ?_
    refine r_iadd_N (pc' := 15) hX dX6_stock_14  rfl ?_
    refine r_iald_N (pc' := 16) hX dX6_stock_15 (by rw [hcy]) 1 rfl (by omega) (by decide) rfl ?_
    change V X 0 0 (wM cy ma r e g bf hy sv bu le pa) [some (.ref (ma 0)), some (.int (nI a))] [.int (nI (g (0 + a))), .ref (ma 0)] 16
    rw [(hR.sto (by omega))]
    refine V_call0 (k' := 0) (n' := 0) (pc' := 19) hX (r_runV (As := [.int (nI (v 3 a))]) hX dX6_stock_16 k_X6_70 (fun l9 hl9 => cM_done) hG ⟨8, _, TX6, 16, List.mem_cons_self, rfl⟩ rfl rfl (Nat.le_of_ble_eq_true rfl) (by decide) (by decide) (by decide) (by decide)) rfl rfl rfl (fun w9 u9 hp9 => ?_)
    obtain ⟨rfl, rfl⟩ := hp9
    change V X 0 0 (wM cy ma (up1 r 4 0) e g bf hy sv bu le pa) [some (.ref (ma 0)), some (.int (nI a))] [.int (nI (v 3 a))] 19
    refine r_goto (tgt := 27) hX dX6_stock_19 (by decide) ?_
    have e9 : qMet 3 v (nI a) = nI (v 3 a) := by unfold qMet; rw [if_pos c4, na]
    exact r_ireturn hX hE dX6_stock_27 rfl (MQ_good hM0 e9 (by omega)) (by decide) (by decide)

set_option maxRecDepth 20000 in
set_option maxHeartbeats 1000000 in
theorem cMw_lostGrams {l : Launch} {D : va_G} {cy : Nat → ClassId} {sa : Nat → Nat} {ma : Nat → Nat} {S : AS} {t : Nat} {ws : va_W} {v : SV} (hvS : v = S.1) (h : MS cy ma S t ws) (hv : Wf v) {x : Int32} (hlo : ∀ m, m < 3 → v 6 m < 2147483648)  : MG l yX6_lostGrams cX6_lostGrams 2 (some .int) 2 0 0 (D, cy, sa) [.ref (ma 0), .int x] (ws) (fun w u => w = some (.int (mvl (qMet 6 v x))) ∧ MS cy ma S (kd 1 1 1 1 1 (qMet 6 v x)) u) := by
  obtain ⟨r, e, g, bf, hy, sv, bu, le, pa, rfl, hM⟩ := h
  have hM0 := hM
  obtain ⟨h4, hR, h0, h8, hH, hS, hT, hO, hE⟩ := hM
  rw [← hvS] at hR
  have hv0 := hv
  obtain ⟨wa, wm, wb, ws, wt, wc, wB, wR, wL, wK, wP⟩ := hv
  refine MG_by (own := RX6) (L := [some (.ref (ma 0)), some (.int x)]) (by decide +kernel) rfl rfl (Nat.le_of_ble_eq_true rfl) 0 rfl (fun X hX hE hnL hG hcy hnm => ?_)
  refine r_iload_n (pc' := 1) hX dX6_lostGrams_0 rfl rfl ?_
  refine V_calln (k' := 0) (n' := 0) (pc' := 4) hX (r_runS (As := [.int x]) hX dX6_lostGrams_1 k_X6_86 (fun l9 hl9 => cM_isMetal) hG rfl rfl (Nat.le_of_ble_eq_true rfl) (by decide) (by decide) (by decide) (by decide)) rfl rfl rfl (fun w9 hp9 => ?_)
  obtain rfl := hp9
  change V X 0 0 (wM cy ma r e g bf hy sv bu le pa) [some (.ref (ma 0)), some (.int x)] [.int (bI (inR x 3))] 4
  refine r_if_eq_B (tgt := 23) (pc' := 7) hX dX6_lostGrams_4 (by decide) rfl (fun c4 => ?_) (fun c4 => ?_)
  · refine r_aload_n (pc' := 24) hX dX6_lostGrams_23 rfl rfl ?_
    refine r_iconst (pc' := 25) (v := nI 1) hX dX6_lostGrams_24 rfl rfl ?_
    refine V_call0 (k' := 0) (n' := 0) (pc' := 28) hX (r_runV (As := [.int (nI 1)]) hX dX6_lostGrams_25 k_X6_67 (fun l9 hl9 => cM_fails (by omega)) hG ⟨8, _, TX6, 16, List.mem_cons_self, rfl⟩ rfl rfl (Nat.le_of_ble_eq_true rfl) (by decide) (by decide) (by decide) (by decide)) rfl rfl rfl (fun w9 u9 hp9 => ?_)
    obtain ⟨rfl, rfl⟩ := hp9
    change V X 0 0 (wM cy ma (up1 r 4 1) e g bf hy sv bu le pa) [some (.ref (ma 0)), some (.int x)] [.int (nI 0)] 28
    have e9 : qMet 6 v x = -1 := by unfold qMet; rw [if_neg c4]
    exact r_ireturn hX hE dX6_lostGrams_28 rfl (MQ_bad hM0 e9 rfl rfl) (by decide) (by decide)
  · obtain ⟨a, ha, rfl⟩ := nat_of c4
    have ta : (nI a).toInt = (a : Int) := nI_I (by omega)
    have na : tn (nI a) = a := tn_nI (by omega)
    have k0 : v 6 a < 2147483648 := hlo a (by omega)
    refine r_aload_n (pc' := 8) hX dX6_lostGrams_7 rfl rfl ?_
    refine r_aload_n (pc' := 9) hX dX6_lostGrams_8 rfl rfl ?_
    refine r_get (pc' := 12) (v := .ref (ma 1)) hX dX6_lostGrams_9 f_X6_7 0 rfl rfl rfl ?_
    refine r_bipush (pc' := 14) (v := nI 18) hX dX6_lostGrams_12 rfl rfl ?_
    refine r_iload_n (pc' := 15) hX dX6_lostGrams_14 rfl rfl ?_
    refine r_iadd_N (pc' := 16) hX dX6_lostGrams_15  rfl ?_
    refine r_iald_N (pc' := 17) hX dX6_lostGrams_16 (by rw [hcy]) 1 rfl (by omega) (by decide) rfl ?_
    change V X 0 0 (wM cy ma r e g bf hy sv bu le pa) [some (.ref (ma 0)), some (.int (nI a))] [.int (nI (g (18 + a))), .ref (ma 0)] 17
    rw [(hR.los (by omega))]
    refine V_call0 (k' := 0) (n' := 0) (pc' := 20) hX (r_runV (As := [.int (nI (v 6 a))]) hX dX6_lostGrams_17 k_X6_70 (fun l9 hl9 => cM_done) hG ⟨8, _, TX6, 16, List.mem_cons_self, rfl⟩ rfl rfl (Nat.le_of_ble_eq_true rfl) (by decide) (by decide) (by decide) (by decide)) rfl rfl rfl (fun w9 u9 hp9 => ?_)
    obtain ⟨rfl, rfl⟩ := hp9
    change V X 0 0 (wM cy ma (up1 r 4 0) e g bf hy sv bu le pa) [some (.ref (ma 0)), some (.int (nI a))] [.int (nI (v 6 a))] 20
    refine r_goto (tgt := 28) hX dX6_lostGrams_20 (by decide) ?_
    have e9 : qMet 6 v (nI a) = nI (v 6 a) := by unfold qMet; rw [if_pos c4, na]
    exact r_ireturn hX hE dX6_lostGrams_28 rfl (MQ_good hM0 e9 (by omega)) (by decide) (by decide)

set_option maxRecDepth 20000 in
set_option maxHeartbeats 1000000 in
theorem cMw_batchAt {l : Launch} {D : va_G} {cy : Nat → ClassId} {sa : Nat → Nat} {ma : Nat → Nat} {S : AS} {t : Nat} {ws : va_W} {v : SV} (hvS : v = S.1) (h : MS cy ma S t ws) (hv : Wf v) {x : Int32}  : MG l yX6_batchAt cX6_batchAt 2 (some .int) 1 0 0 (D, cy, sa) [.ref (ma 0), .int x] (ws) (fun w u => w = some (.int (mvl (qAt v x))) ∧ MS cy ma S (kd 1 1 1 1 1 (qAt v x)) u) := by
  obtain ⟨r, e, g, bf, hy, sv, bu, le, pa, rfl, hM⟩ := h
  have hM0 := hM
  obtain ⟨h4, hR, h0, h8, hH, hS, hT, hO, hE⟩ := hM
  rw [← hvS] at hR
  have hv0 := hv
  obtain ⟨wa, wm, wb, ws, wt, wc, wB, wR, wL, wK, wP⟩ := hv
  refine MG_by (own := RX6) (L := [some (.ref (ma 0)), some (.int x)]) (by decide +kernel) rfl rfl (Nat.le_of_ble_eq_true rfl) 0 rfl (fun X hX hE hnL hG hcy hnm => ?_)
  refine r_iload_n (pc' := 1) hX dX6_batchAt_0 rfl rfl ?_
  refine r_iconst (pc' := 2) (v := nI 0) hX dX6_batchAt_1 rfl rfl ?_
  refine r_aload_n (pc' := 3) hX dX6_batchAt_2 rfl rfl ?_
  refine r_get (pc' := 6) (v := .ref (ma 1)) hX dX6_batchAt_3 f_X6_7 0 rfl rfl rfl ?_
  refine r_bipush (pc' := 8) (v := nI 7) hX dX6_batchAt_6 rfl rfl ?_
  refine r_iald_N (pc' := 9) hX dX6_batchAt_8 (by rw [hcy]) 1 rfl (by omega) (by decide) rfl ?_
  change V X 0 0 (wM cy ma r e g bf hy sv bu le pa) [some (.ref (ma 0)), some (.int x)] [.int (nI (g 7)), .int (nI 0), .int x] 9
  rw [hR.bat]
  refine r_iconst (pc' := 10) (v := nI 1) hX dX6_batchAt_9 rfl rfl ?_
  refine r_isub (pc' := 11) hX dX6_batchAt_10 rfl ?_
  refine V_calln (k' := 0) (n' := 0) (pc' := 14) hX (r_runS (As := [.int x, .int (nI 0), .int ((nI (v 0 4)) - (nI 1))]) hX dX6_batchAt_11 k_X6_49 (fun l9 hl9 => cM_in (x := x) (y := nI 0) (z := ((nI (v 0 4)) - (nI 1)))) hG rfl rfl (Nat.le_of_ble_eq_true rfl) (by decide) (by decide) (by decide) (by decide)) rfl rfl rfl (fun w9 hp9 => ?_)
  obtain rfl := hp9
  rw [bI_congr (q := inR x (v 0 4)) (by rw [pred_I (by omega), nI_I (a := 0) (by omega)]; unfold inR; omega)]
  change V X 0 0 (wM cy ma r e g bf hy sv bu le pa) [some (.ref (ma 0)), some (.int x)] [.int (bI (inR x (v 0 4)))] 14
  refine r_if_eq_B (tgt := 33) (pc' := 17) hX dX6_batchAt_14 (by decide) rfl (fun c14 => ?_) (fun c14 => ?_)
  · refine r_aload_n (pc' := 34) hX dX6_batchAt_33 rfl rfl ?_
    refine r_iconst (pc' := 35) (v := nI 1) hX dX6_batchAt_34 rfl rfl ?_
    refine V_call0 (k' := 0) (n' := 0) (pc' := 38) hX (r_runV (As := [.int (nI 1)]) hX dX6_batchAt_35 k_X6_67 (fun l9 hl9 => cM_fails (by omega)) hG ⟨8, _, TX6, 16, List.mem_cons_self, rfl⟩ rfl rfl (Nat.le_of_ble_eq_true rfl) (by decide) (by decide) (by decide) (by decide)) rfl rfl rfl (fun w9 u9 hp9 => ?_)
    obtain ⟨rfl, rfl⟩ := hp9
    change V X 0 0 (wM cy ma (up1 r 4 1) e g bf hy sv bu le pa) [some (.ref (ma 0)), some (.int x)] [.int (nI 0)] 38
    have e9 : qAt v x = -5 := by unfold qAt; rw [if_neg c14]
    exact r_ireturn hX hE dX6_batchAt_38 rfl (MQ_bad hM0 e9 rfl rfl) (by decide) (by decide)
  · obtain ⟨a, ha, rfl⟩ := nat_of c14
    have ta : (nI a).toInt = (a : Int) := nI_I (by omega)
    have na : tn (nI a) = a := tn_nI (by omega)
    obtain ⟨-, -, -, b0, b1, -⟩ := wB a (by omega)
    refine r_aload_n (pc' := 18) hX dX6_batchAt_17 rfl rfl ?_
    refine r_aload_n (pc' := 19) hX dX6_batchAt_18 rfl rfl ?_
    refine r_get (pc' := 22) (v := .ref (ma 1)) hX dX6_batchAt_19 f_X6_7 0 rfl rfl rfl ?_
    refine r_bipush (pc' := 24) (v := nI 47) hX dX6_batchAt_22 rfl rfl ?_
    refine r_iload_n (pc' := 25) hX dX6_batchAt_24 rfl rfl ?_
    refine r_iadd_N (pc' := 26) hX dX6_batchAt_25  rfl ?_
    refine r_iald_N (pc' := 27) hX dX6_batchAt_26 (by rw [hcy]) 1 rfl (by omega) (by decide) rfl ?_
    change V X 0 0 (wM cy ma r e g bf hy sv bu le pa) [some (.ref (ma 0)), some (.int (nI a))] [.int (nI (g (47 + a))), .ref (ma 0)] 27
    rw [(hR.num (by omega))]
    refine V_call0 (k' := 0) (n' := 0) (pc' := 30) hX (r_runV (As := [.int (nI (v (13 + a) 0))]) hX dX6_batchAt_27 k_X6_70 (fun l9 hl9 => cM_done) hG ⟨8, _, TX6, 16, List.mem_cons_self, rfl⟩ rfl rfl (Nat.le_of_ble_eq_true rfl) (by decide) (by decide) (by decide) (by decide)) rfl rfl rfl (fun w9 u9 hp9 => ?_)
    obtain ⟨rfl, rfl⟩ := hp9
    change V X 0 0 (wM cy ma (up1 r 4 0) e g bf hy sv bu le pa) [some (.ref (ma 0)), some (.int (nI a))] [.int (nI (v (13 + a) 0))] 30
    refine r_goto (tgt := 38) hX dX6_batchAt_30 (by decide) ?_
    have e9 : qAt v (nI a) = nI (v (13 + a) 0) := by unfold qAt; rw [if_pos c14, na]
    exact r_ireturn hX hE dX6_batchAt_38 rfl (MQ_good hM0 e9 (by omega)) (by decide) (by decide)

set_option maxRecDepth 20000 in
set_option maxHeartbeats 1000000 in
theorem cM_bn4 {l : Launch} {D : va_G} {cy : Nat → ClassId} {sa : Nat → Nat} {ma : Nat → Nat} {r : Nat → Nat} {e : Nat → Int32} {g bf hy sv bu le : Nat → Nat} {pa : Nat → Int32} {v : SV} (hv : Wf v) (hR : Rr v g) {x : Int32}  : MG l yX6_batchNumber cX6_batchNumber 4 (some .int) 1 0 0 (D, cy, sa) [.ref (ma 0), .int (nI 79), .int x] (wM cy ma r e g bf hy sv bu le pa) (fun w u => w = some (.int (mvl (qBat (bNum 4) v x))) ∧ u = wM cy ma (up1 r 4 (kd 1 1 1 1 1 (qBat (bNum 4) v x))) e g bf hy sv bu le pa) := by
  have hv0 := hv
  obtain ⟨wa, wm, wb, ws, wt, wc, wB, wR, wL, wK, wP⟩ := hv
  refine MG_by (own := RX6) (L := [some (.ref (ma 0)), some (.int (nI 79)), some (.int x), none]) (by decide +kernel) rfl rfl (Nat.le_of_ble_eq_true rfl) 1 rfl (fun X hX hE hnL hG hcy hnm => ?_)
  refine r_aload_n (pc' := 1) hX dX6_batchNumber_0 rfl rfl ?_
  refine r_iload_n (pc' := 2) hX dX6_batchNumber_1 rfl rfl ?_
  refine V_call0 (k' := 0) (n' := 0) (pc' := 5) hX (r_runV (As := [.int x]) hX dX6_batchNumber_2 k_X6_113 (fun l9 hl9 => cM_placeOf hv0 hR) hG ⟨8, _, TX6, 16, List.mem_cons_self, rfl⟩ rfl rfl (Nat.le_of_ble_eq_true rfl) (by decide) (by decide) (by decide) (by decide)) rfl rfl rfl (fun w9 u9 hp9 => ?_)
  obtain ⟨rfl, rfl⟩ := hp9
  by_cases hs : plc v x.toInt < v 0 4
  · rw [if_pos hs]
    obtain ⟨pl, hpl⟩ : ∃ z, z = plc v x.toInt := ⟨_, rfl⟩
    rw [← hpl] at hs ⊢
    obtain ⟨bz, ba, bf9, b0, b1, bq⟩ := wB pl hs
    change V X 0 0 (wM cy ma r e g bf hy sv bu le pa) [some (.ref (ma 0)), some (.int (nI 79)), some (.int x), none] [.int (nI pl)] 5
    refine r_istore_n (L' := [some (.ref (ma 0)), some (.int (nI 79)), some (.int x), some (.int (nI pl))]) (pc' := 6) hX dX6_batchNumber_5 (nlt hnL (by decide)) rfl rfl rfl ?_
    refine r_iload_n (pc' := 7) hX dX6_batchNumber_6 rfl rfl ?_
    refine r_iconst (pc' := 8) (v := (-1)) hX dX6_batchNumber_7 rfl rfl ?_
    refine r_icmp_ne_I (tgt := 19) (pc' := 11) hX dX6_batchNumber_8 (by decide) rfl (nI_I (by omega)) (by decide : (-1 : Int32).toInt = -1) (fun c8 => ?_) (fun c8 => ?_)
    · refine r_aload_n (pc' := 20) hX dX6_batchNumber_19 rfl rfl ?_
      refine r_aload_n (pc' := 21) hX dX6_batchNumber_20 rfl rfl ?_
      refine r_get (pc' := 24) (v := .ref (ma 1)) hX dX6_batchNumber_21 f_X6_7 0 rfl rfl rfl ?_
      refine r_iload_n (pc' := 25) hX dX6_batchNumber_24 rfl rfl ?_
      refine r_iload_n (pc' := 26) hX dX6_batchNumber_25 rfl rfl ?_
      refine r_iadd_N (pc' := 27) hX dX6_batchNumber_26  rfl ?_
      refine r_iald_N (pc' := 28) hX dX6_batchNumber_27 (by rw [hcy]) 1 rfl (by omega) (by decide) rfl ?_
      change V X 0 0 (wM cy ma r e g bf hy sv bu le pa) [some (.ref (ma 0)), some (.int (nI 79)), some (.int x), some (.int (nI pl))] [.int (nI (g (79 + pl))), .ref (ma 0)] 28
      rw [(hR.fai (by omega))]
      refine V_call0 (k' := 0) (n' := 0) (pc' := 31) hX (r_runV (As := [.int (nI (v (13 + pl) 4))]) hX dX6_batchNumber_28 k_X6_70 (fun l9 hl9 => cM_done) hG ⟨8, _, TX6, 16, List.mem_cons_self, rfl⟩ rfl rfl (Nat.le_of_ble_eq_true rfl) (by decide) (by decide) (by decide) (by decide)) rfl rfl rfl (fun w9 u9 hp9 => ?_)
      obtain ⟨rfl, rfl⟩ := hp9
      change V X 0 0 (wM cy ma (up1 r 4 0) e g bf hy sv bu le pa) [some (.ref (ma 0)), some (.int (nI 79)), some (.int x), some (.int (nI pl))] [.int (nI (v (13 + pl) 4))] 31
      have e9 : qBat (bNum 4) v x = nI (v (13 + pl) 4) := by unfold qBat bNum; rw [← hpl, if_pos hs]
      exact r_ireturn hX hE dX6_batchNumber_31 rfl (MW_good e9 (by omega)) (by decide) (by decide)
    · exact absurd c8 (by omega)
  · rw [if_neg hs]
    change V X 0 0 (wM cy ma r e g bf hy sv bu le pa) [some (.ref (ma 0)), some (.int (nI 79)), some (.int x), none] [.int (-1)] 5
    refine r_istore_n (L' := [some (.ref (ma 0)), some (.int (nI 79)), some (.int x), some (.int (-1))]) (pc' := 6) hX dX6_batchNumber_5 (nlt hnL (by decide)) rfl rfl rfl ?_
    refine r_iload_n (pc' := 7) hX dX6_batchNumber_6 rfl rfl ?_
    refine r_iconst (pc' := 8) (v := (-1)) hX dX6_batchNumber_7 rfl rfl ?_
    refine r_icmp_ne_I (tgt := 19) (pc' := 11) hX dX6_batchNumber_8 (by decide) rfl (by decide : (-1 : Int32).toInt = -1) (by decide : (-1 : Int32).toInt = -1) (fun c8 => ?_) (fun c8 => ?_)
    · exact absurd c8 (by omega)
    · refine r_aload_n (pc' := 12) hX dX6_batchNumber_11 rfl rfl ?_
      refine r_iconst (pc' := 13) (v := nI 1) hX dX6_batchNumber_12 rfl rfl ?_
      refine V_call0 (k' := 0) (n' := 0) (pc' := 16) hX (r_runV (As := [.int (nI 1)]) hX dX6_batchNumber_13 k_X6_67 (fun l9 hl9 => cM_fails (by omega)) hG ⟨8, _, TX6, 16, List.mem_cons_self, rfl⟩ rfl rfl (Nat.le_of_ble_eq_true rfl) (by decide) (by decide) (by decide) (by decide)) rfl rfl rfl (fun w9 u9 hp9 => ?_)
      obtain ⟨rfl, rfl⟩ := hp9
      change V X 0 0 (wM cy ma (up1 r 4 1) e g bf hy sv bu le pa) [some (.ref (ma 0)), some (.int (nI 79)), some (.int x), some (.int (-1))] [.int (nI 0)] 16
      refine r_goto (tgt := 31) hX dX6_batchNumber_16 (by decide) ?_
      have e9 : qBat (bNum 4) v x = -5 := by unfold qBat; rw [if_neg hs]
      exact r_ireturn hX hE dX6_batchNumber_31 rfl (MW_bad e9 rfl rfl) (by decide) (by decide)

set_option maxRecDepth 20000 in
set_option maxHeartbeats 1000000 in
theorem cM_bn2 {l : Launch} {D : va_G} {cy : Nat → ClassId} {sa : Nat → Nat} {ma : Nat → Nat} {r : Nat → Nat} {e : Nat → Int32} {g bf hy sv bu le : Nat → Nat} {pa : Nat → Int32} {v : SV} (hv : Wf v) (hR : Rr v g) {x : Int32}  : MG l yX6_batchNumber cX6_batchNumber 4 (some .int) 1 0 0 (D, cy, sa) [.ref (ma 0), .int (nI 63), .int x] (wM cy ma r e g bf hy sv bu le pa) (fun w u => w = some (.int (mvl (qBat (bNum 2) v x))) ∧ u = wM cy ma (up1 r 4 (kd 1 1 1 1 1 (qBat (bNum 2) v x))) e g bf hy sv bu le pa) := by
  have hv0 := hv
  obtain ⟨wa, wm, wb, ws, wt, wc, wB, wR, wL, wK, wP⟩ := hv
  refine MG_by (own := RX6) (L := [some (.ref (ma 0)), some (.int (nI 63)), some (.int x), none]) (by decide +kernel) rfl rfl (Nat.le_of_ble_eq_true rfl) 1 rfl (fun X hX hE hnL hG hcy hnm => ?_)
  refine r_aload_n (pc' := 1) hX dX6_batchNumber_0 rfl rfl ?_
  refine r_iload_n (pc' := 2) hX dX6_batchNumber_1 rfl rfl ?_
  refine V_call0 (k' := 0) (n' := 0) (pc' := 5) hX (r_runV (As := [.int x]) hX dX6_batchNumber_2 k_X6_113 (fun l9 hl9 => cM_placeOf hv0 hR) hG ⟨8, _, TX6, 16, List.mem_cons_self, rfl⟩ rfl rfl (Nat.le_of_ble_eq_true rfl) (by decide) (by decide) (by decide) (by decide)) rfl rfl rfl (fun w9 u9 hp9 => ?_)
  obtain ⟨rfl, rfl⟩ := hp9
  by_cases hs : plc v x.toInt < v 0 4
  · rw [if_pos hs]
    obtain ⟨pl, hpl⟩ : ∃ z, z = plc v x.toInt := ⟨_, rfl⟩
    rw [← hpl] at hs ⊢
    obtain ⟨bz, ba, bf9, b0, b1, bq⟩ := wB pl hs
    change V X 0 0 (wM cy ma r e g bf hy sv bu le pa) [some (.ref (ma 0)), some (.int (nI 63)), some (.int x), none] [.int (nI pl)] 5
    refine r_istore_n (L' := [some (.ref (ma 0)), some (.int (nI 63)), some (.int x), some (.int (nI pl))]) (pc' := 6) hX dX6_batchNumber_5 (nlt hnL (by decide)) rfl rfl rfl ?_
    refine r_iload_n (pc' := 7) hX dX6_batchNumber_6 rfl rfl ?_
    refine r_iconst (pc' := 8) (v := (-1)) hX dX6_batchNumber_7 rfl rfl ?_
    refine r_icmp_ne_I (tgt := 19) (pc' := 11) hX dX6_batchNumber_8 (by decide) rfl (nI_I (by omega)) (by decide : (-1 : Int32).toInt = -1) (fun c8 => ?_) (fun c8 => ?_)
    · refine r_aload_n (pc' := 20) hX dX6_batchNumber_19 rfl rfl ?_
      refine r_aload_n (pc' := 21) hX dX6_batchNumber_20 rfl rfl ?_
      refine r_get (pc' := 24) (v := .ref (ma 1)) hX dX6_batchNumber_21 f_X6_7 0 rfl rfl rfl ?_
      refine r_iload_n (pc' := 25) hX dX6_batchNumber_24 rfl rfl ?_
      refine r_iload_n (pc' := 26) hX dX6_batchNumber_25 rfl rfl ?_
      refine r_iadd_N (pc' := 27) hX dX6_batchNumber_26  rfl ?_
      refine r_iald_N (pc' := 28) hX dX6_batchNumber_27 (by rw [hcy]) 1 rfl (by omega) (by decide) rfl ?_
      change V X 0 0 (wM cy ma r e g bf hy sv bu le pa) [some (.ref (ma 0)), some (.int (nI 63)), some (.int x), some (.int (nI pl))] [.int (nI (g (63 + pl))), .ref (ma 0)] 28
      rw [(hR.man (by omega))]
      refine V_call0 (k' := 0) (n' := 0) (pc' := 31) hX (r_runV (As := [.int (nI (v (13 + pl) 2))]) hX dX6_batchNumber_28 k_X6_70 (fun l9 hl9 => cM_done) hG ⟨8, _, TX6, 16, List.mem_cons_self, rfl⟩ rfl rfl (Nat.le_of_ble_eq_true rfl) (by decide) (by decide) (by decide) (by decide)) rfl rfl rfl (fun w9 u9 hp9 => ?_)
      obtain ⟨rfl, rfl⟩ := hp9
      change V X 0 0 (wM cy ma (up1 r 4 0) e g bf hy sv bu le pa) [some (.ref (ma 0)), some (.int (nI 63)), some (.int x), some (.int (nI pl))] [.int (nI (v (13 + pl) 2))] 31
      have e9 : qBat (bNum 2) v x = nI (v (13 + pl) 2) := by unfold qBat bNum; rw [← hpl, if_pos hs]
      exact r_ireturn hX hE dX6_batchNumber_31 rfl (MW_good e9 (by omega)) (by decide) (by decide)
    · exact absurd c8 (by omega)
  · rw [if_neg hs]
    change V X 0 0 (wM cy ma r e g bf hy sv bu le pa) [some (.ref (ma 0)), some (.int (nI 63)), some (.int x), none] [.int (-1)] 5
    refine r_istore_n (L' := [some (.ref (ma 0)), some (.int (nI 63)), some (.int x), some (.int (-1))]) (pc' := 6) hX dX6_batchNumber_5 (nlt hnL (by decide)) rfl rfl rfl ?_
    refine r_iload_n (pc' := 7) hX dX6_batchNumber_6 rfl rfl ?_
    refine r_iconst (pc' := 8) (v := (-1)) hX dX6_batchNumber_7 rfl rfl ?_
    refine r_icmp_ne_I (tgt := 19) (pc' := 11) hX dX6_batchNumber_8 (by decide) rfl (by decide : (-1 : Int32).toInt = -1) (by decide : (-1 : Int32).toInt = -1) (fun c8 => ?_) (fun c8 => ?_)
    · exact absurd c8 (by omega)
    · refine r_aload_n (pc' := 12) hX dX6_batchNumber_11 rfl rfl ?_
      refine r_iconst (pc' := 13) (v := nI 1) hX dX6_batchNumber_12 rfl rfl ?_
      refine V_call0 (k' := 0) (n' := 0) (pc' := 16) hX (r_runV (As := [.int (nI 1)]) hX dX6_batchNumber_13 k_X6_67 (fun l9 hl9 => cM_fails (by omega)) hG ⟨8, _, TX6, 16, List.mem_cons_self, rfl⟩ rfl rfl (Nat.le_of_ble_eq_true rfl) (by decide) (by decide) (by decide) (by decide)) rfl rfl rfl (fun w9 u9 hp9 => ?_)
      obtain ⟨rfl, rfl⟩ := hp9
      change V X 0 0 (wM cy ma (up1 r 4 1) e g bf hy sv bu le pa) [some (.ref (ma 0)), some (.int (nI 63)), some (.int x), some (.int (-1))] [.int (nI 0)] 16
      refine r_goto (tgt := 31) hX dX6_batchNumber_16 (by decide) ?_
      have e9 : qBat (bNum 2) v x = -5 := by unfold qBat; rw [if_neg hs]
      exact r_ireturn hX hE dX6_batchNumber_31 rfl (MW_bad e9 rfl rfl) (by decide) (by decide)

set_option maxRecDepth 20000 in
set_option maxHeartbeats 1000000 in
theorem cM_bn1 {l : Launch} {D : va_G} {cy : Nat → ClassId} {sa : Nat → Nat} {ma : Nat → Nat} {r : Nat → Nat} {e : Nat → Int32} {g bf hy sv bu le : Nat → Nat} {pa : Nat → Int32} {v : SV} (hv : Wf v) (hR : Rr v g) {x : Int32}  : MG l yX6_batchNumber cX6_batchNumber 4 (some .int) 1 0 0 (D, cy, sa) [.ref (ma 0), .int (nI 71), .int x] (wM cy ma r e g bf hy sv bu le pa) (fun w u => w = some (.int (mvl (qBat (bNum 1) v x))) ∧ u = wM cy ma (up1 r 4 (kd 1 1 1 1 1 (qBat (bNum 1) v x))) e g bf hy sv bu le pa) := by
  have hv0 := hv
  obtain ⟨wa, wm, wb, ws, wt, wc, wB, wR, wL, wK, wP⟩ := hv
  refine MG_by (own := RX6) (L := [some (.ref (ma 0)), some (.int (nI 71)), some (.int x), none]) (by decide +kernel) rfl rfl (Nat.le_of_ble_eq_true rfl) 1 rfl (fun X hX hE hnL hG hcy hnm => ?_)
  refine r_aload_n (pc' := 1) hX dX6_batchNumber_0 rfl rfl ?_
  refine r_iload_n (pc' := 2) hX dX6_batchNumber_1 rfl rfl ?_
  refine V_call0 (k' := 0) (n' := 0) (pc' := 5) hX (r_runV (As := [.int x]) hX dX6_batchNumber_2 k_X6_113 (fun l9 hl9 => cM_placeOf hv0 hR) hG ⟨8, _, TX6, 16, List.mem_cons_self, rfl⟩ rfl rfl (Nat.le_of_ble_eq_true rfl) (by decide) (by decide) (by decide) (by decide)) rfl rfl rfl (fun w9 u9 hp9 => ?_)
  obtain ⟨rfl, rfl⟩ := hp9
  by_cases hs : plc v x.toInt < v 0 4
  · rw [if_pos hs]
    obtain ⟨pl, hpl⟩ : ∃ z, z = plc v x.toInt := ⟨_, rfl⟩
    rw [← hpl] at hs ⊢
    obtain ⟨bz, ba, bf9, b0, b1, bq⟩ := wB pl hs
    change V X 0 0 (wM cy ma r e g bf hy sv bu le pa) [some (.ref (ma 0)), some (.int (nI 71)), some (.int x), none] [.int (nI pl)] 5
    refine r_istore_n (L' := [some (.ref (ma 0)), some (.int (nI 71)), some (.int x), some (.int (nI pl))]) (pc' := 6) hX dX6_batchNumber_5 (nlt hnL (by decide)) rfl rfl rfl ?_
    refine r_iload_n (pc' := 7) hX dX6_batchNumber_6 rfl rfl ?_
    refine r_iconst (pc' := 8) (v := (-1)) hX dX6_batchNumber_7 rfl rfl ?_
    refine r_icmp_ne_I (tgt := 19) (pc' := 11) hX dX6_batchNumber_8 (by decide) rfl (nI_I (by omega)) (by decide : (-1 : Int32).toInt = -1) (fun c8 => ?_) (fun c8 => ?_)
    · refine r_aload_n (pc' := 20) hX dX6_batchNumber_19 rfl rfl ?_
      refine r_aload_n (pc' := 21) hX dX6_batchNumber_20 rfl rfl ?_
      refine r_get (pc' := 24) (v := .ref (ma 1)) hX dX6_batchNumber_21 f_X6_7 0 rfl rfl rfl ?_
      refine r_iload_n (pc' := 25) hX dX6_batchNumber_24 rfl rfl ?_
      refine r_iload_n (pc' := 26) hX dX6_batchNumber_25 rfl rfl ?_
      refine r_iadd_N (pc' := 27) hX dX6_batchNumber_26  rfl ?_
      refine r_iald_N (pc' := 28) hX dX6_batchNumber_27 (by rw [hcy]) 1 rfl (by omega) (by decide) rfl ?_
      change V X 0 0 (wM cy ma r e g bf hy sv bu le pa) [some (.ref (ma 0)), some (.int (nI 71)), some (.int x), some (.int (nI pl))] [.int (nI (g (71 + pl))), .ref (ma 0)] 28
      rw [(hR.fir (by omega))]
      refine V_call0 (k' := 0) (n' := 0) (pc' := 31) hX (r_runV (As := [.int (nI (v (13 + pl) 1))]) hX dX6_batchNumber_28 k_X6_70 (fun l9 hl9 => cM_done) hG ⟨8, _, TX6, 16, List.mem_cons_self, rfl⟩ rfl rfl (Nat.le_of_ble_eq_true rfl) (by decide) (by decide) (by decide) (by decide)) rfl rfl rfl (fun w9 u9 hp9 => ?_)
      obtain ⟨rfl, rfl⟩ := hp9
      change V X 0 0 (wM cy ma (up1 r 4 0) e g bf hy sv bu le pa) [some (.ref (ma 0)), some (.int (nI 71)), some (.int x), some (.int (nI pl))] [.int (nI (v (13 + pl) 1))] 31
      have e9 : qBat (bNum 1) v x = nI (v (13 + pl) 1) := by unfold qBat bNum; rw [← hpl, if_pos hs]
      exact r_ireturn hX hE dX6_batchNumber_31 rfl (MW_good e9 (by omega)) (by decide) (by decide)
    · exact absurd c8 (by omega)
  · rw [if_neg hs]
    change V X 0 0 (wM cy ma r e g bf hy sv bu le pa) [some (.ref (ma 0)), some (.int (nI 71)), some (.int x), none] [.int (-1)] 5
    refine r_istore_n (L' := [some (.ref (ma 0)), some (.int (nI 71)), some (.int x), some (.int (-1))]) (pc' := 6) hX dX6_batchNumber_5 (nlt hnL (by decide)) rfl rfl rfl ?_
    refine r_iload_n (pc' := 7) hX dX6_batchNumber_6 rfl rfl ?_
    refine r_iconst (pc' := 8) (v := (-1)) hX dX6_batchNumber_7 rfl rfl ?_
    refine r_icmp_ne_I (tgt := 19) (pc' := 11) hX dX6_batchNumber_8 (by decide) rfl (by decide : (-1 : Int32).toInt = -1) (by decide : (-1 : Int32).toInt = -1) (fun c8 => ?_) (fun c8 => ?_)
    · exact absurd c8 (by omega)
    · refine r_aload_n (pc' := 12) hX dX6_batchNumber_11 rfl rfl ?_
      refine r_iconst (pc' := 13) (v := nI 1) hX dX6_batchNumber_12 rfl rfl ?_
      refine V_call0 (k' := 0) (n' := 0) (pc' := 16) hX (r_runV (As := [.int (nI 1)]) hX dX6_batchNumber_13 k_X6_67 (fun l9 hl9 => cM_fails (by omega)) hG ⟨8, _, TX6, 16, List.mem_cons_self, rfl⟩ rfl rfl (Nat.le_of_ble_eq_true rfl) (by decide) (by decide) (by decide) (by decide)) rfl rfl rfl (fun w9 u9 hp9 => ?_)
      obtain ⟨rfl, rfl⟩ := hp9
      change V X 0 0 (wM cy ma (up1 r 4 1) e g bf hy sv bu le pa) [some (.ref (ma 0)), some (.int (nI 71)), some (.int x), some (.int (-1))] [.int (nI 0)] 16
      refine r_goto (tgt := 31) hX dX6_batchNumber_16 (by decide) ?_
      have e9 : qBat (bNum 1) v x = -5 := by unfold qBat; rw [if_neg hs]
      exact r_ireturn hX hE dX6_batchNumber_31 rfl (MW_bad e9 rfl rfl) (by decide) (by decide)

set_option maxRecDepth 20000 in
set_option maxHeartbeats 1000000 in
theorem cMw_batchSize {l : Launch} {D : va_G} {cy : Nat → ClassId} {sa : Nat → Nat} {ma : Nat → Nat} {S : AS} {t : Nat} {ws : va_W} {v : SV} (hvS : v = S.1) (h : MS cy ma S t ws) (hv : Wf v) {x : Int32}  : MG l yX6_batchSize cX6_batchSize 2 (some .int) 2 0 0 (D, cy, sa) [.ref (ma 0), .int x] (ws) (fun w u => w = some (.int (mvl (qBat (bNum 2) v x))) ∧ MS cy ma S (kd 1 1 1 1 1 (qBat (bNum 2) v x)) u) := by
  obtain ⟨r, e, g, bf, hy, sv, bu, le, pa, rfl, hM⟩ := h
  have hM0 := hM
  obtain ⟨h4, hR, h0, h8, hH, hS, hT, hO, hE⟩ := hM
  rw [← hvS] at hR
  have hv0 := hv
  obtain ⟨wa, wm, wb, ws, wt, wc, wB, wR, wL, wK, wP⟩ := hv
  refine MG_by (own := RX6) (L := [some (.ref (ma 0)), some (.int x)]) (by decide +kernel) rfl rfl (Nat.le_of_ble_eq_true rfl) 0 rfl (fun X hX hE hnL hG hcy hnm => ?_)
  refine r_aload_n (pc' := 1) hX dX6_batchSize_0 rfl rfl ?_
  refine r_bipush (pc' := 3) (v := nI 63) hX dX6_batchSize_1 rfl rfl ?_
  refine r_iload_n (pc' := 4) hX dX6_batchSize_3 rfl rfl ?_
  refine V_call0 (k' := 0) (n' := 0) (pc' := 7) hX (r_runV (As := [.int (nI 63), .int x]) hX dX6_batchSize_4 k_X6_135 (fun l9 hl9 => cM_bn2 hv0 hR) hG ⟨8, _, TX6, 16, List.mem_cons_self, rfl⟩ rfl rfl (Nat.le_of_ble_eq_true rfl) (by decide) (by decide) (by decide) (by decide)) rfl rfl rfl (fun w9 u9 hp9 => ?_)
  obtain ⟨rfl, rfl⟩ := hp9
  change V X 0 0 (wM cy ma (up1 r 4 (kd 1 1 1 1 1 (qBat (bNum 2) v x))) e g bf hy sv bu le pa) [some (.ref (ma 0)), some (.int x)] [.int (mvl (qBat (bNum 2) v x))] 7
  exact r_ireturn hX hE dX6_batchSize_7 rfl ⟨rfl, MS_thr hM0⟩ (by decide) (by decide)

set_option maxRecDepth 20000 in
set_option maxHeartbeats 1000000 in
theorem cMw_firstBow {l : Launch} {D : va_G} {cy : Nat → ClassId} {sa : Nat → Nat} {ma : Nat → Nat} {S : AS} {t : Nat} {ws : va_W} {v : SV} (hvS : v = S.1) (h : MS cy ma S t ws) (hv : Wf v) {x : Int32}  : MG l yX6_firstBow cX6_firstBow 2 (some .int) 2 0 0 (D, cy, sa) [.ref (ma 0), .int x] (ws) (fun w u => w = some (.int (mvl (qBat (bNum 1) v x))) ∧ MS cy ma S (kd 1 1 1 1 1 (qBat (bNum 1) v x)) u) := by
  obtain ⟨r, e, g, bf, hy, sv, bu, le, pa, rfl, hM⟩ := h
  have hM0 := hM
  obtain ⟨h4, hR, h0, h8, hH, hS, hT, hO, hE⟩ := hM
  rw [← hvS] at hR
  have hv0 := hv
  obtain ⟨wa, wm, wb, ws, wt, wc, wB, wR, wL, wK, wP⟩ := hv
  refine MG_by (own := RX6) (L := [some (.ref (ma 0)), some (.int x)]) (by decide +kernel) rfl rfl (Nat.le_of_ble_eq_true rfl) 0 rfl (fun X hX hE hnL hG hcy hnm => ?_)
  refine r_aload_n (pc' := 1) hX dX6_firstBow_0 rfl rfl ?_
  refine r_bipush (pc' := 3) (v := nI 71) hX dX6_firstBow_1 rfl rfl ?_
  refine r_iload_n (pc' := 4) hX dX6_firstBow_3 rfl rfl ?_
  refine V_call0 (k' := 0) (n' := 0) (pc' := 7) hX (r_runV (As := [.int (nI 71), .int x]) hX dX6_firstBow_4 k_X6_135 (fun l9 hl9 => cM_bn1 hv0 hR) hG ⟨8, _, TX6, 16, List.mem_cons_self, rfl⟩ rfl rfl (Nat.le_of_ble_eq_true rfl) (by decide) (by decide) (by decide) (by decide)) rfl rfl rfl (fun w9 u9 hp9 => ?_)
  obtain ⟨rfl, rfl⟩ := hp9
  change V X 0 0 (wM cy ma (up1 r 4 (kd 1 1 1 1 1 (qBat (bNum 1) v x))) e g bf hy sv bu le pa) [some (.ref (ma 0)), some (.int x)] [.int (mvl (qBat (bNum 1) v x))] 7
  exact r_ireturn hX hE dX6_firstBow_7 rfl ⟨rfl, MS_thr hM0⟩ (by decide) (by decide)

set_option maxRecDepth 20000 in
set_option maxHeartbeats 1000000 in
theorem cMw_isFailed {l : Launch} {D : va_G} {cy : Nat → ClassId} {sa : Nat → Nat} {ma : Nat → Nat} {S : AS} {t : Nat} {ws : va_W} {v : SV} (hvS : v = S.1) (h : MS cy ma S t ws) (hv : Wf v) {x : Int32} : MG l yX6_isFailed cX6_isFailed 2 (some .boolean) 2 0 0 (D, cy, sa) [.ref (ma 0), .int x] (ws) (fun w u => w = some (.int (bI (mvl (qBat (bNum 4) v x) = nI 1))) ∧ MS cy ma S (kd 1 1 1 1 1 (qBat (bNum 4) v x)) u) := by
  obtain ⟨r, e, g, bf, hy, sv, bu, le, pa, rfl, hM⟩ := h
  have hM0 := hM
  obtain ⟨h4, hR, h0, h8, hH, hS, hT, hO, hE⟩ := hM
  rw [← hvS] at hR
  have hv0 := hv
  obtain ⟨wa, wm, wb, ws, wt, wc, wB, wR, wL, wK, wP⟩ := hv
  refine MG_by (own := RX6) (L := [some (.ref (ma 0)), some (.int x)]) (by decide +kernel) rfl rfl (Nat.le_of_ble_eq_true rfl) 0 rfl (fun X hX hE hnL hG hcy hnm => ?_)
  refine r_aload_n (pc' := 1) hX dX6_isFailed_0 rfl rfl ?_
  refine r_bipush (pc' := 3) (v := nI 79) hX dX6_isFailed_1 rfl rfl ?_
  refine r_iload_n (pc' := 4) hX dX6_isFailed_3 rfl rfl ?_
  refine V_call0 (k' := 0) (n' := 0) (pc' := 7) hX (r_runV (As := [.int (nI 79), .int x]) hX dX6_isFailed_4 k_X6_135 (fun l9 hl9 => cM_bn4 hv0 hR) hG ⟨8, _, TX6, 16, List.mem_cons_self, rfl⟩ rfl rfl (Nat.le_of_ble_eq_true rfl) (by decide) (by decide) (by decide) (by decide)) rfl rfl rfl (fun w9 u9 hp9 => ?_)
  obtain ⟨rfl, rfl⟩ := hp9
  change V X 0 0 (wM cy ma (up1 r 4 (kd 1 1 1 1 1 (qBat (bNum 4) v x))) e g bf hy sv bu le pa) [some (.ref (ma 0)), some (.int x)] [.int (mvl (qBat (bNum 4) v x))] 7
  refine r_iconst (pc' := 8) (v := nI 1) hX dX6_isFailed_7 rfl rfl ?_
  refine r_icmp_ne (tgt := 15) (pc' := 11) hX dX6_isFailed_8 (by decide) rfl (fun c8 => ?_) (fun c8 => ?_)
  · refine r_iconst (pc' := 16) (v := nI 0) hX dX6_isFailed_15 rfl rfl ?_
    exact r_zreturn hX hE dX6_isFailed_16 rfl rfl ⟨rB0 c8, MS_thr hM0⟩ (by decide) (by decide)
  · refine r_iconst (pc' := 12) (v := nI 1) hX dX6_isFailed_11 rfl rfl ?_
    refine r_goto (tgt := 16) hX dX6_isFailed_12 (by decide) ?_
    exact r_zreturn hX hE dX6_isFailed_16 rfl rfl ⟨rB1 c8, MS_thr hM0⟩ (by decide) (by decide)
