/-! ===== State: its changes ===== -/
set_option maxRecDepth 20000 in
set_option maxHeartbeats 4000000 in
theorem cS_changeTolerance {l : Launch} {D : va_G} {cy : Nat → ClassId} {sa : Nat → Nat} {ad : Nat → Nat} {v : SV} {x : Int32} (hv : Wf v) : MG l yX4_changeTolerance cX4_changeTolerance 3 (some .int) 0 0 0 (D, cy, sa) [.ref (ad 0), .int x] (wSt cy ad v) (fun w u => w = some (.int (oTol v x).1) ∧ u = wSt cy ad (oTol v x).2) := by
  have hv0 := hv
  obtain ⟨wa, wm, wb, ws, wt, wc, wB, wR, wL, wK, wP⟩ := hv
  refine MG_by (own := RX4) (L := [some (.ref (ad 0)), some (.int x), none]) (by decide +kernel) rfl rfl (Nat.le_of_ble_eq_true rfl) 1 rfl (fun X hX hE hnL hG hcy hnm => ?_)
  refine r_iload_n (pc' := 1) hX dX4_changeTolerance_0 rfl rfl ?_
  refine r_if_lt_I (tgt := 10) (pc' := 4) hX dX4_changeTolerance_1 (by decide) rfl rfl (fun c1 => ?_) (fun c1 => ?_)
  · refine r_bipush (pc' := 12) (v := (-2)) hX dX4_changeTolerance_10 rfl rfl ?_
    have e9 : oTol v x = ((-2), v) := by unfold oTol; rw [if_neg (by omega)]
    exact r_ireturn hX hE dX4_changeTolerance_12 rfl ⟨by rw [e9], by rw [e9]⟩ (by decide) (by decide)
  · refine r_iload_n (pc' := 5) hX dX4_changeTolerance_4 rfl rfl ?_
    refine r_bipush (pc' := 7) (v := nI 99) hX dX4_changeTolerance_5 rfl rfl ?_
    refine r_icmp_le_I (tgt := 13) (pc' := 10) hX dX4_changeTolerance_7 (by decide) rfl rfl (nI_I (by omega)) (fun c7 => ?_) (fun c7 => ?_)
    · obtain ⟨j, hj, rfl⟩ := nat_of (x := x) (n := 100) ⟨by omega, by omega⟩
      have tj : (nI j).toInt = (j : Int) := nI_I (by omega)
      have nj : tn (nI j) = j := tn_nI (by omega)
      refine r_aload_n (pc' := 14) hX dX4_changeTolerance_13 rfl rfl ?_
      refine r_get (pc' := 17) (v := .int (nI (v 0 2))) hX dX4_changeTolerance_14 f_X4_42 0 rfl rfl rfl ?_
      refine r_istore_n (L' := [some (.ref (ad 0)), some (.int (nI j)), some (.int (nI (v 0 2)))]) (pc' := 18) hX dX4_changeTolerance_17 (nlt hnL (by decide)) rfl rfl rfl ?_
      refine r_aload_n (pc' := 19) hX dX4_changeTolerance_18 rfl rfl ?_
      refine r_iload_n (pc' := 20) hX dX4_changeTolerance_19 rfl rfl ?_
      refine r_put (ws' := wSt cy ad (up2 v 0 2 j)) (pc' := 23) hX dX4_changeTolerance_20 f_X4_42 fw_X4_9 0 rfl rfl rfl (Nat.le_of_ble_eq_true rfl) rfl rfl ?_
      refine r_iload_n (pc' := 24) hX dX4_changeTolerance_23 rfl rfl ?_
      have e9 : oTol v (nI j) = (nI (v 0 2), (up2 v 0 2 j)) := by unfold oTol; rw [if_pos (by omega), nj]
      exact r_ireturn hX hE dX4_changeTolerance_24 rfl ⟨by rw [e9], by rw [e9]⟩ (by decide) (by decide)
    · refine r_bipush (pc' := 12) (v := (-2)) hX dX4_changeTolerance_10 rfl rfl ?_
      have e9 : oTol v x = ((-2), v) := by unfold oTol; rw [if_neg (by omega)]
      exact r_ireturn hX hE dX4_changeTolerance_12 rfl ⟨by rw [e9], by rw [e9]⟩ (by decide) (by decide)

set_option maxRecDepth 20000 in
set_option maxHeartbeats 4000000 in
theorem cS_changeStep {l : Launch} {D : va_G} {cy : Nat → ClassId} {sa : Nat → Nat} {ad : Nat → Nat} {v : SV} {x : Int32} (hv : Wf v) : MG l yX4_changeStep cX4_changeStep 3 (some .int) 0 0 0 (D, cy, sa) [.ref (ad 0), .int x] (wSt cy ad v) (fun w u => w = some (.int (oStep v x).1) ∧ u = wSt cy ad (oStep v x).2) := by
  have hv0 := hv
  obtain ⟨wa, wm, wb, ws, wt, wc, wB, wR, wL, wK, wP⟩ := hv
  refine MG_by (own := RX4) (L := [some (.ref (ad 0)), some (.int x), none]) (by decide +kernel) rfl rfl (Nat.le_of_ble_eq_true rfl) 1 rfl (fun X hX hE hnL hG hcy hnm => ?_)
  refine r_iload_n (pc' := 1) hX dX4_changeStep_0 rfl rfl ?_
  refine r_iconst (pc' := 2) (v := nI 1) hX dX4_changeStep_1 rfl rfl ?_
  refine r_icmp_lt_I (tgt := 10) (pc' := 5) hX dX4_changeStep_2 (by decide) rfl rfl (nI_I (by omega)) (fun c2 => ?_) (fun c2 => ?_)
  · refine r_bipush (pc' := 12) (v := (-2)) hX dX4_changeStep_10 rfl rfl ?_
    have e9 : oStep v x = ((-2), v) := by unfold oStep; rw [if_neg (by omega)]
    exact r_ireturn hX hE dX4_changeStep_12 rfl ⟨by rw [e9], by rw [e9]⟩ (by decide) (by decide)
  · refine r_iload_n (pc' := 6) hX dX4_changeStep_5 rfl rfl ?_
    refine r_iconst (pc' := 7) (v := nI 5) hX dX4_changeStep_6 rfl rfl ?_
    refine r_icmp_le_I (tgt := 13) (pc' := 10) hX dX4_changeStep_7 (by decide) rfl rfl (nI_I (by omega)) (fun c7 => ?_) (fun c7 => ?_)
    · obtain ⟨j, hj, rfl⟩ := nat_of (x := x) (n := 100) ⟨by omega, by omega⟩
      have tj : (nI j).toInt = (j : Int) := nI_I (by omega)
      have nj : tn (nI j) = j := tn_nI (by omega)
      refine r_aload_n (pc' := 14) hX dX4_changeStep_13 rfl rfl ?_
      refine r_get (pc' := 17) (v := .int (nI (v 0 3))) hX dX4_changeStep_14 f_X4_45 0 rfl rfl rfl ?_
      refine r_istore_n (L' := [some (.ref (ad 0)), some (.int (nI j)), some (.int (nI (v 0 3)))]) (pc' := 18) hX dX4_changeStep_17 (nlt hnL (by decide)) rfl rfl rfl ?_
      refine r_aload_n (pc' := 19) hX dX4_changeStep_18 rfl rfl ?_
      refine r_iload_n (pc' := 20) hX dX4_changeStep_19 rfl rfl ?_
      refine r_put (ws' := wSt cy ad (up2 v 0 3 j)) (pc' := 23) hX dX4_changeStep_20 f_X4_45 fw_X4_10 0 rfl rfl rfl (Nat.le_of_ble_eq_true rfl) rfl rfl ?_
      refine r_iload_n (pc' := 24) hX dX4_changeStep_23 rfl rfl ?_
      have e9 : oStep v (nI j) = (nI (v 0 3), (up2 v 0 3 j)) := by unfold oStep; rw [if_pos (by omega), nj]
      exact r_ireturn hX hE dX4_changeStep_24 rfl ⟨by rw [e9], by rw [e9]⟩ (by decide) (by decide)
    · refine r_bipush (pc' := 12) (v := (-2)) hX dX4_changeStep_10 rfl rfl ?_
      have e9 : oStep v x = ((-2), v) := by unfold oStep; rw [if_neg (by omega)]
      exact r_ireturn hX hE dX4_changeStep_12 rfl ⟨by rw [e9], by rw [e9]⟩ (by decide) (by decide)

set_option maxRecDepth 20000 in
set_option maxHeartbeats 4000000 in
theorem cS_resetUses {l : Launch} {D : va_G} {cy : Nat → ClassId} {sa : Nat → Nat} {ad : Nat → Nat} {v : SV} {x : Int32} (hv : Wf v) : MG l yX4_resetUses cX4_resetUses 3 (some .int) 1 0 0 (D, cy, sa) [.ref (ad 0), .int x] (wSt cy ad v) (fun w u => w = some (.int (oReset v x).1) ∧ u = wSt cy ad (oReset v x).2) := by
  have hv0 := hv
  obtain ⟨wa, wm, wb, ws, wt, wc, wB, wR, wL, wK, wP⟩ := hv
  refine MG_by (own := RX4) (L := [some (.ref (ad 0)), some (.int x), none]) (by decide +kernel) rfl rfl (Nat.le_of_ble_eq_true rfl) 1 rfl (fun X hX hE hnL hG hcy hnm => ?_)
  refine r_aload_n (pc' := 1) hX dX4_resetUses_0 rfl rfl ?_
  refine r_iload_n (pc' := 2) hX dX4_resetUses_1 rfl rfl ?_
  refine V_call0 (k' := 0) (n' := 0) (pc' := 5) hX (r_runV (As := [.int x]) hX dX4_resetUses_2 k_X4_88 (fun l9 hl9 => cS_hasMould hv0) hG ⟨6, _, TX4, 17, List.mem_cons_self, rfl⟩ rfl rfl (Nat.le_of_ble_eq_true rfl) (by decide) (by decide) (by decide) (by decide)) rfl rfl rfl (fun w9 u9 hp9 => ?_)
  obtain ⟨rfl, rfl⟩ := hp9
  change V X 0 0 (wSt cy ad v) [some (.ref (ad 0)), some (.int x), none] [.int (bI (inR x (v 0 1)))] 5
  refine r_if_ne_B (tgt := 10) (pc' := 8) hX dX4_resetUses_5 (by decide) rfl (fun c5 => ?_) (fun c5 => ?_)
  · obtain ⟨j, hj, rfl⟩ := nat_of c5
    have tj : (nI j).toInt = (j : Int) := nI_I (by omega)
    have nj : tn (nI j) = j := tn_nI (by omega)
    refine r_aload_n (pc' := 11) hX dX4_resetUses_10 rfl rfl ?_
    refine r_get (pc' := 14) (v := .ref (ad 9)) hX dX4_resetUses_11 f_X4_27 0 rfl rfl rfl ?_
    refine r_iload_n (pc' := 15) hX dX4_resetUses_14 rfl rfl ?_
    refine r_iald_N (pc' := 16) hX dX4_resetUses_15 (by rw [hcy]) 9 rfl (by omega) (by decide) rfl ?_
    change V X 0 0 (wSt cy ad v) [some (.ref (ad 0)), some (.int (nI j)), none] [.int (nI (v 2 j))] 16
    refine r_istore_n (L' := [some (.ref (ad 0)), some (.int (nI j)), some (.int (nI (v 2 j)))]) (pc' := 17) hX dX4_resetUses_16 (nlt hnL (by decide)) rfl rfl rfl ?_
    refine r_aload_n (pc' := 18) hX dX4_resetUses_17 rfl rfl ?_
    refine r_get (pc' := 21) (v := .ref (ad 9)) hX dX4_resetUses_18 f_X4_27 0 rfl rfl rfl ?_
    refine r_iload_n (pc' := 22) hX dX4_resetUses_21 rfl rfl ?_
    refine r_iconst (pc' := 23) (v := nI 0) hX dX4_resetUses_22 rfl rfl ?_
    refine r_iast_N (ws' := wSt cy ad (up2 v 2 j 0)) (pc' := 24) hX dX4_resetUses_23 (by rw [hcy]) 9 rfl (by omega) (by decide) rfl rfl ?_
    refine r_iload_n (pc' := 25) hX dX4_resetUses_24 rfl rfl ?_
    have e9 : oReset v (nI j) = (nI (v 2 j), (up2 v 2 j 0)) := by unfold oReset; rw [if_pos c5, nj]
    exact r_ireturn hX hE dX4_resetUses_25 rfl ⟨by rw [e9], by rw [e9]⟩ (by decide) (by decide)
  · refine r_iconst (pc' := 9) (v := (-1)) hX dX4_resetUses_8 rfl rfl ?_
    have e9 : oReset v x = ((-1), v) := by unfold oReset; rw [if_neg c5]
    exact r_ireturn hX hE dX4_resetUses_9 rfl ⟨by rw [e9], by rw [e9]⟩ (by decide) (by decide)

set_option maxRecDepth 20000 in
set_option maxHeartbeats 4000000 in
theorem cS_placeMould {l : Launch} {D : va_G} {cy : Nat → ClassId} {sa : Nat → Nat} {ad : Nat → Nat} {v : SV} {x : Int32} (hv : Wf v) : MG l yX4_placeMould cX4_placeMould 2 (some .int) 0 0 0 (D, cy, sa) [.ref (ad 0), .int x] (wSt cy ad v) (fun w u => w = some (.int (oMould v x).1) ∧ u = wSt cy ad (oMould v x).2) := by
  have hv0 := hv
  obtain ⟨wa, wm, wb, ws, wt, wc, wB, wR, wL, wK, wP⟩ := hv
  refine MG_by (own := RX4) (L := [some (.ref (ad 0)), some (.int x)]) (by decide +kernel) rfl rfl (Nat.le_of_ble_eq_true rfl) 0 rfl (fun X hX hE hnL hG hcy hnm => ?_)
  refine r_iload_n (pc' := 1) hX dX4_placeMould_0 rfl rfl ?_
  refine r_iconst (pc' := 2) (v := nI 1) hX dX4_placeMould_1 rfl rfl ?_
  refine r_icmp_lt_I (tgt := 11) (pc' := 5) hX dX4_placeMould_2 (by decide) rfl rfl (nI_I (by omega)) (fun c2 => ?_) (fun c2 => ?_)
  · refine r_bipush (pc' := 13) (v := (-2)) hX dX4_placeMould_11 rfl rfl ?_
    have e9 : oMould v x = ((-2), v) := by unfold oMould; rw [if_neg (by omega)]
    exact r_ireturn hX hE dX4_placeMould_13 rfl ⟨by rw [e9], by rw [e9]⟩ (by decide) (by decide)
  · refine r_iload_n (pc' := 6) hX dX4_placeMould_5 rfl rfl ?_
    refine r_bipush (pc' := 8) (v := nI 50) hX dX4_placeMould_6 rfl rfl ?_
    refine r_icmp_le_I (tgt := 14) (pc' := 11) hX dX4_placeMould_8 (by decide) rfl rfl (nI_I (by omega)) (fun c8 => ?_) (fun c8 => ?_)
    · obtain ⟨j, hj, rfl⟩ := nat_of (x := x) (n := 51) ⟨by omega, by omega⟩
      have tj : (nI j).toInt = (j : Int) := nI_I (by omega)
      have nj : tn (nI j) = j := tn_nI (by omega)
      refine r_aload_n (pc' := 15) hX dX4_placeMould_14 rfl rfl ?_
      refine r_get (pc' := 18) (v := .int (nI (v 0 1))) hX dX4_placeMould_15 f_X4_20 0 rfl rfl rfl ?_
      refine r_iconst (pc' := 19) (v := nI 4) hX dX4_placeMould_18 rfl rfl ?_
      refine r_icmp_lt_N (tgt := 25) (pc' := 22) hX dX4_placeMould_19 (by decide) rfl (by omega) (by omega) (fun c19 => ?_) (fun c19 => ?_)
      · refine r_aload_n (pc' := 26) hX dX4_placeMould_25 rfl rfl ?_
        refine r_get (pc' := 29) (v := .ref (ad 8)) hX dX4_placeMould_26 f_X4_23 0 rfl rfl rfl ?_
        refine r_aload_n (pc' := 30) hX dX4_placeMould_29 rfl rfl ?_
        refine r_get (pc' := 33) (v := .int (nI (v 0 1))) hX dX4_placeMould_30 f_X4_20 0 rfl rfl rfl ?_
        refine r_iload_n (pc' := 34) hX dX4_placeMould_33 rfl rfl ?_
        refine r_iast_N (ws' := wSt cy ad (up2 v 1 (v 0 1) j)) (pc' := 35) hX dX4_placeMould_34 (by rw [hcy]) 8 rfl (by omega) (by decide) rfl rfl ?_
        refine r_aload_n (pc' := 36) hX dX4_placeMould_35 rfl rfl ?_
        refine r_get (pc' := 39) (v := .ref (ad 9)) hX dX4_placeMould_36 f_X4_27 0 rfl rfl rfl ?_
        refine r_aload_n (pc' := 40) hX dX4_placeMould_39 rfl rfl ?_
        refine r_get (pc' := 43) (v := .int (nI (v 0 1))) hX dX4_placeMould_40 f_X4_20 0 rfl rfl rfl ?_
        refine r_iconst (pc' := 44) (v := nI 0) hX dX4_placeMould_43 rfl rfl ?_
        refine r_iast_N (ws' := wSt cy ad (up2 (up2 v 1 (v 0 1) j) 2 (v 0 1) 0)) (pc' := 45) hX dX4_placeMould_44 (by rw [hcy]) 9 rfl (by omega) (by decide) rfl rfl ?_
        refine r_aload_n (pc' := 46) hX dX4_placeMould_45 rfl rfl ?_
        refine r_dup (pc' := 47) hX dX4_placeMould_46 rfl rfl ?_
        refine r_get (pc' := 50) (v := .int (nI (v 0 1))) hX dX4_placeMould_47 f_X4_20 0 rfl rfl rfl ?_
        refine r_iconst (pc' := 51) (v := nI 1) hX dX4_placeMould_50 rfl rfl ?_
        refine r_iadd_N (pc' := 52) hX dX4_placeMould_51  rfl ?_
        refine r_put (ws' := wSt cy ad (up2 (up2 (up2 v 1 (v 0 1) j) 2 (v 0 1) 0) 0 1 ((v 0 1) + 1))) (pc' := 55) hX dX4_placeMould_52 f_X4_20 fw_X4_2 0 rfl rfl rfl (Nat.le_of_ble_eq_true rfl) rfl rfl ?_
        refine r_aload_n (pc' := 56) hX dX4_placeMould_55 rfl rfl ?_
        refine r_get (pc' := 59) (v := .int (nI ((v 0 1) + 1))) hX dX4_placeMould_56 f_X4_20 0 rfl rfl rfl ?_
        refine r_iconst (pc' := 60) (v := nI 1) hX dX4_placeMould_59 rfl rfl ?_
        refine r_isub_N (pc' := 61) hX dX4_placeMould_60 (by omega) rfl ?_
        have e9 : oMould v (nI j) = (nI (((v 0 1) + 1) - 1), (up2 (up2 (up2 v 1 (v 0 1) j) 2 (v 0 1) 0) 0 1 ((v 0 1) + 1))) := by unfold oMould; rw [if_pos (by omega), if_pos (by omega), nj]; rfl
        exact r_ireturn hX hE dX4_placeMould_61 rfl ⟨by rw [e9], by rw [e9]⟩ (by decide) (by decide)
      · refine r_bipush (pc' := 24) (v := (-3)) hX dX4_placeMould_22 rfl rfl ?_
        have e9 : oMould v (nI j) = ((-3), v) := by unfold oMould; rw [if_pos (by omega), if_neg (by omega)]
        exact r_ireturn hX hE dX4_placeMould_24 rfl ⟨by rw [e9], by rw [e9]⟩ (by decide) (by decide)
    · refine r_bipush (pc' := 13) (v := (-2)) hX dX4_placeMould_11 rfl rfl ?_
      have e9 : oMould v x = ((-2), v) := by unfold oMould; rw [if_neg (by omega)]
      exact r_ireturn hX hE dX4_placeMould_13 rfl ⟨by rw [e9], by rw [e9]⟩ (by decide) (by decide)

set_option maxRecDepth 20000 in
set_option maxHeartbeats 4000000 in
theorem cS_takeIn {l : Launch} {D : va_G} {cy : Nat → ClassId} {sa : Nat → Nat} {ad : Nat → Nat} {v : SV} {x y : Int32} (hv : Wf v) : MG l yX4_takeIn cX4_takeIn 3 (some .int) 1 0 0 (D, cy, sa) [.ref (ad 0), .int x, .int y] (wSt cy ad v) (fun w u => w = some (.int (oBuy v x y).1) ∧ u = wSt cy ad (oBuy v x y).2) := by
  have hv0 := hv
  obtain ⟨wa, wm, wb, ws, wt, wc, wB, wR, wL, wK, wP⟩ := hv
  refine MG_by (own := RX4) (L := [some (.ref (ad 0)), some (.int x), some (.int y)]) (by decide +kernel) rfl rfl (Nat.le_of_ble_eq_true rfl) 0 rfl (fun X hX hE hnL hG hcy hnm => ?_)
  refine r_iload_n (pc' := 1) hX dX4_takeIn_0 rfl rfl ?_
  refine V_calln (k' := 0) (n' := 0) (pc' := 4) hX (r_runS (As := [.int x]) hX dX4_takeIn_1 k_X4_82 (fun l9 hl9 => cS_isMetal) hG rfl rfl (Nat.le_of_ble_eq_true rfl) (by decide) (by decide) (by decide) (by decide)) rfl rfl rfl (fun w9 hp9 => ?_)
  obtain rfl := hp9
  change V X 0 0 (wSt cy ad v) [some (.ref (ad 0)), some (.int x), some (.int y)] [.int (bI (inR x 3))] 4
  refine r_if_ne_B (tgt := 9) (pc' := 7) hX dX4_takeIn_4 (by decide) rfl (fun c4 => ?_) (fun c4 => ?_)
  · obtain ⟨j, hj, rfl⟩ := nat_of c4
    have tj : (nI j).toInt = (j : Int) := nI_I (by omega)
    have nj : tn (nI j) = j := tn_nI (by omega)
    refine r_iload_n (pc' := 10) hX dX4_takeIn_9 rfl rfl ?_
    refine r_iconst (pc' := 11) (v := nI 1) hX dX4_takeIn_10 rfl rfl ?_
    refine r_icmp_lt_I (tgt := 20) (pc' := 14) hX dX4_takeIn_11 (by decide) rfl rfl (nI_I (by omega)) (fun c11 => ?_) (fun c11 => ?_)
    · refine r_bipush (pc' := 22) (v := (-2)) hX dX4_takeIn_20 rfl rfl ?_
      have e9 : oBuy v (nI j) y = ((-2), v) := by unfold oBuy; rw [if_pos c4, if_neg (by omega)]
      exact r_ireturn hX hE dX4_takeIn_22 rfl ⟨by rw [e9], by rw [e9]⟩ (by decide) (by decide)
    · refine r_iload_n (pc' := 15) hX dX4_takeIn_14 rfl rfl ?_
      refine r_bipush (pc' := 17) (v := nI 99) hX dX4_takeIn_15 rfl rfl ?_
      refine r_icmp_le_I (tgt := 23) (pc' := 20) hX dX4_takeIn_17 (by decide) rfl rfl (nI_I (by omega)) (fun c17 => ?_) (fun c17 => ?_)
      · obtain ⟨i, hi, rfl⟩ := nat_of (x := y) (n := 100) ⟨by omega, by omega⟩
        have ti : (nI i).toInt = (i : Int) := nI_I (by omega)
        have ni : tn (nI i) = i := tn_nI (by omega)
        have k0 := wK j (by omega)
        refine r_aload_n (pc' := 24) hX dX4_takeIn_23 rfl rfl ?_
        refine r_get (pc' := 27) (v := .ref (ad 10)) hX dX4_takeIn_24 f_X4_30 0 rfl rfl rfl ?_
        refine r_iload_n (pc' := 28) hX dX4_takeIn_27 rfl rfl ?_
        refine r_iald_N (pc' := 29) hX dX4_takeIn_28 (by rw [hcy]) 10 rfl (by omega) (by decide) rfl ?_
        change V X 0 0 (wSt cy ad v) [some (.ref (ad 0)), some (.int (nI j)), some (.int (nI i))] [.int (nI (v 3 j))] 29
        refine r_iload_n (pc' := 30) hX dX4_takeIn_29 rfl rfl ?_
        refine r_iadd_N (pc' := 31) hX dX4_takeIn_30  rfl ?_
        refine r_sipush (pc' := 34) (v := nI 999) hX dX4_takeIn_31 rfl rfl ?_
        refine r_icmp_le_N (tgt := 40) (pc' := 37) hX dX4_takeIn_34 (by decide) rfl (by omega) (by omega) (fun c34 => ?_) (fun c34 => ?_)
        · refine r_aload_n (pc' := 41) hX dX4_takeIn_40 rfl rfl ?_
          refine r_get (pc' := 44) (v := .ref (ad 10)) hX dX4_takeIn_41 f_X4_30 0 rfl rfl rfl ?_
          refine r_iload_n (pc' := 45) hX dX4_takeIn_44 rfl rfl ?_
          refine r_dup2 (pc' := 46) hX dX4_takeIn_45 rfl rfl rfl ?_
          refine r_iald_N (pc' := 47) hX dX4_takeIn_46 (by rw [hcy]) 10 rfl (by omega) (by decide) rfl ?_
          change V X 0 0 (wSt cy ad v) [some (.ref (ad 0)), some (.int (nI j)), some (.int (nI i))] [.int (nI (v 3 j)), .int (nI j), .ref (ad 10)] 47
          refine r_iload_n (pc' := 48) hX dX4_takeIn_47 rfl rfl ?_
          refine r_iadd_N (pc' := 49) hX dX4_takeIn_48  rfl ?_
          refine r_iast_N (ws' := wSt cy ad (up2 v 3 j ((v 3 j) + i))) (pc' := 50) hX dX4_takeIn_49 (by rw [hcy]) 10 rfl (by omega) (by decide) rfl rfl ?_
          refine r_aload_n (pc' := 51) hX dX4_takeIn_50 rfl rfl ?_
          refine r_get (pc' := 54) (v := .ref (ad 11)) hX dX4_takeIn_51 f_X4_33 0 rfl rfl rfl ?_
          refine r_iload_n (pc' := 55) hX dX4_takeIn_54 rfl rfl ?_
          refine r_dup2 (pc' := 56) hX dX4_takeIn_55 rfl rfl rfl ?_
          refine r_iald_N (pc' := 57) hX dX4_takeIn_56 (by rw [hcy]) 11 rfl (by omega) (by decide) rfl ?_
          change V X 0 0 (wSt cy ad (up2 v 3 j ((v 3 j) + i))) [some (.ref (ad 0)), some (.int (nI j)), some (.int (nI i))] [.int (nI (v 4 j)), .int (nI j), .ref (ad 11)] 57
          refine r_iload_n (pc' := 58) hX dX4_takeIn_57 rfl rfl ?_
          refine r_iadd_N (pc' := 59) hX dX4_takeIn_58  rfl ?_
          refine r_iast_N (ws' := wSt cy ad (up2 (up2 v 3 j ((v 3 j) + i)) 4 j ((v 4 j) + i))) (pc' := 60) hX dX4_takeIn_59 (by rw [hcy]) 11 rfl (by omega) (by decide) rfl rfl ?_
          refine r_aload_n (pc' := 61) hX dX4_takeIn_60 rfl rfl ?_
          refine r_get (pc' := 64) (v := .ref (ad 10)) hX dX4_takeIn_61 f_X4_30 0 rfl rfl rfl ?_
          refine r_iload_n (pc' := 65) hX dX4_takeIn_64 rfl rfl ?_
          refine r_iald_N (pc' := 66) hX dX4_takeIn_65 (by rw [hcy]) 10 rfl (by omega) (by decide) rfl ?_
          change V X 0 0 (wSt cy ad (up2 (up2 v 3 j ((v 3 j) + i)) 4 j ((v 4 j) + i))) [some (.ref (ad 0)), some (.int (nI j)), some (.int (nI i))] [.int (nI ((up2 (up2 v 3 j ((v 3 j) + i)) 4 j ((v 4 j) + i)) 3 j))] 66
          rw [show ((up2 (up2 v 3 j ((v 3 j) + i)) 4 j ((v 4 j) + i)) 3 j) = ((v 3 j) + i) from (up2_s (v := v) (b := 3) (i := j) (x := (v 3 j) + i))]
          have e9 : oBuy v (nI j) (nI i) = (nI ((v 3 j) + i), (up2 (up2 v 3 j ((v 3 j) + i)) 4 j ((v 4 j) + i))) := by unfold oBuy; rw [if_pos c4, if_pos (by omega), if_pos (by rw [nj, ni]; omega), nj, ni]
          exact r_ireturn hX hE dX4_takeIn_66 rfl ⟨by rw [e9], by rw [e9]⟩ (by decide) (by decide)
        · refine r_bipush (pc' := 39) (v := (-3)) hX dX4_takeIn_37 rfl rfl ?_
          have e9 : oBuy v (nI j) (nI i) = ((-3), v) := by unfold oBuy; rw [if_pos c4, if_pos (by omega), if_neg (by rw [nj, ni]; omega)]
          exact r_ireturn hX hE dX4_takeIn_39 rfl ⟨by rw [e9], by rw [e9]⟩ (by decide) (by decide)
      · refine r_bipush (pc' := 22) (v := (-2)) hX dX4_takeIn_20 rfl rfl ?_
        have e9 : oBuy v (nI j) y = ((-2), v) := by unfold oBuy; rw [if_pos c4, if_neg (by omega)]
        exact r_ireturn hX hE dX4_takeIn_22 rfl ⟨by rw [e9], by rw [e9]⟩ (by decide) (by decide)
  · refine r_iconst (pc' := 8) (v := (-1)) hX dX4_takeIn_7 rfl rfl ?_
    have e9 : oBuy v x y = ((-1), v) := by unfold oBuy; rw [if_neg c4]
    exact r_ireturn hX hE dX4_takeIn_8 rfl ⟨by rw [e9], by rw [e9]⟩ (by decide) (by decide)

set_option maxRecDepth 20000 in
set_option maxHeartbeats 4000000 in
theorem cS_mixAlloy {l : Launch} {D : va_G} {cy : Nat → ClassId} {sa : Nat → Nat} {ad : Nat → Nat} {v : SV} {x y z : Int32} (hv : Wf v) : MG l yX4_mixAlloy cX4_mixAlloy 4 (some .int) 1 0 0 (D, cy, sa) [.ref (ad 0), .int x, .int y, .int z] (wSt cy ad v) (fun w u => w = some (.int (oMix v x y z).1) ∧ u = wSt cy ad (oMix v x y z).2) := by
  have hv0 := hv
  obtain ⟨wa, wm, wb, ws, wt, wc, wB, wR, wL, wK, wP⟩ := hv
  refine MG_by (own := RX4) (L := [some (.ref (ad 0)), some (.int x), some (.int y), some (.int z)]) (by decide +kernel) rfl rfl (Nat.le_of_ble_eq_true rfl) 0 rfl (fun X hX hE hnL hG hcy hnm => ?_)
  refine r_iload_n (pc' := 1) hX dX4_mixAlloy_0 rfl rfl ?_
  refine V_calln (k' := 0) (n' := 0) (pc' := 4) hX (r_runS (As := [.int x]) hX dX4_mixAlloy_1 k_X4_78 (fun l9 hl9 => cS_isPart) hG rfl rfl (Nat.le_of_ble_eq_true rfl) (by decide) (by decide) (by decide) (by decide)) rfl rfl rfl (fun w9 hp9 => ?_)
  obtain rfl := hp9
  change V X 0 0 (wSt cy ad v) [some (.ref (ad 0)), some (.int x), some (.int y), some (.int z)] [.int (bI (inR x 10))] 4
  refine r_if_eq_B (tgt := 29) (pc' := 7) hX dX4_mixAlloy_4 (by decide) rfl (fun c4 => ?_) (fun c4 => ?_)
  · refine r_bipush (pc' := 31) (v := (-2)) hX dX4_mixAlloy_29 rfl rfl ?_
    have e9 : oMix v x y z = ((-2), v) := by unfold oMix; rw [if_neg (by rintro ⟨q1, q2, q3, q4⟩; first | exact c4 q1 | exact c11 q2 | exact c18 q3 | (rw [na, nb, nc] at q4; omega))]
    exact r_ireturn hX hE dX4_mixAlloy_31 rfl ⟨by rw [e9], by rw [e9]⟩ (by decide) (by decide)
  · obtain ⟨a, ha, rfl⟩ := nat_of c4
    have ta : (nI a).toInt = (a : Int) := nI_I (by omega)
    have na : tn (nI a) = a := tn_nI (by omega)
    refine r_iload_n (pc' := 8) hX dX4_mixAlloy_7 rfl rfl ?_
    refine V_calln (k' := 0) (n' := 0) (pc' := 11) hX (r_runS (As := [.int y]) hX dX4_mixAlloy_8 k_X4_78 (fun l9 hl9 => cS_isPart) hG rfl rfl (Nat.le_of_ble_eq_true rfl) (by decide) (by decide) (by decide) (by decide)) rfl rfl rfl (fun w9 hp9 => ?_)
    obtain rfl := hp9
    change V X 0 0 (wSt cy ad v) [some (.ref (ad 0)), some (.int (nI a)), some (.int y), some (.int z)] [.int (bI (inR y 10))] 11
    refine r_if_eq_B (tgt := 29) (pc' := 14) hX dX4_mixAlloy_11 (by decide) rfl (fun c11 => ?_) (fun c11 => ?_)
    · refine r_bipush (pc' := 31) (v := (-2)) hX dX4_mixAlloy_29 rfl rfl ?_
      have e9 : oMix v (nI a) y z = ((-2), v) := by unfold oMix; rw [if_neg (by rintro ⟨q1, q2, q3, q4⟩; first | exact c4 q1 | exact c11 q2 | exact c18 q3 | (rw [na, nb, nc] at q4; omega))]
      exact r_ireturn hX hE dX4_mixAlloy_31 rfl ⟨by rw [e9], by rw [e9]⟩ (by decide) (by decide)
    · obtain ⟨b, hb, rfl⟩ := nat_of c11
      have tb : (nI b).toInt = (b : Int) := nI_I (by omega)
      have nb : tn (nI b) = b := tn_nI (by omega)
      refine r_iload_n (pc' := 15) hX dX4_mixAlloy_14 rfl rfl ?_
      refine V_calln (k' := 0) (n' := 0) (pc' := 18) hX (r_runS (As := [.int z]) hX dX4_mixAlloy_15 k_X4_78 (fun l9 hl9 => cS_isPart) hG rfl rfl (Nat.le_of_ble_eq_true rfl) (by decide) (by decide) (by decide) (by decide)) rfl rfl rfl (fun w9 hp9 => ?_)
      obtain rfl := hp9
      change V X 0 0 (wSt cy ad v) [some (.ref (ad 0)), some (.int (nI a)), some (.int (nI b)), some (.int z)] [.int (bI (inR z 10))] 18
      refine r_if_eq_B (tgt := 29) (pc' := 21) hX dX4_mixAlloy_18 (by decide) rfl (fun c18 => ?_) (fun c18 => ?_)
      · refine r_bipush (pc' := 31) (v := (-2)) hX dX4_mixAlloy_29 rfl rfl ?_
        have e9 : oMix v (nI a) (nI b) z = ((-2), v) := by unfold oMix; rw [if_neg (by rintro ⟨q1, q2, q3, q4⟩; first | exact c4 q1 | exact c11 q2 | exact c18 q3 | (rw [na, nb, nc] at q4; omega))]
        exact r_ireturn hX hE dX4_mixAlloy_31 rfl ⟨by rw [e9], by rw [e9]⟩ (by decide) (by decide)
      · obtain ⟨c, hc, rfl⟩ := nat_of c18
        have tc : (nI c).toInt = (c : Int) := nI_I (by omega)
        have nc : tn (nI c) = c := tn_nI (by omega)
        refine r_iload_n (pc' := 22) hX dX4_mixAlloy_21 rfl rfl ?_
        refine r_iload_n (pc' := 23) hX dX4_mixAlloy_22 rfl rfl ?_
        refine r_iadd_N (pc' := 24) hX dX4_mixAlloy_23  rfl ?_
        refine r_iload_n (pc' := 25) hX dX4_mixAlloy_24 rfl rfl ?_
        refine r_iadd_N (pc' := 26) hX dX4_mixAlloy_25  rfl ?_
        refine r_if_ne_N (tgt := 32) (pc' := 29) hX dX4_mixAlloy_26 (by decide) rfl (by omega) (fun c26 => ?_) (fun c26 => ?_)
        · refine r_aload_n (pc' := 33) hX dX4_mixAlloy_32 rfl rfl ?_
          refine r_get (pc' := 36) (v := .int (nI (v 0 0))) hX dX4_mixAlloy_33 f_X4_9 0 rfl rfl rfl ?_
          refine r_bipush (pc' := 38) (v := nI 6) hX dX4_mixAlloy_36 rfl rfl ?_
          refine r_icmp_lt_N (tgt := 44) (pc' := 41) hX dX4_mixAlloy_38 (by decide) rfl (by omega) (by omega) (fun c38 => ?_) (fun c38 => ?_)
          · refine r_aload_n (pc' := 45) hX dX4_mixAlloy_44 rfl rfl ?_
            refine r_get (pc' := 48) (v := .ref (ad 1)) hX dX4_mixAlloy_45 f_X4_17 0 rfl rfl rfl ?_
            refine r_aload_n (pc' := 49) hX dX4_mixAlloy_48 rfl rfl ?_
            refine r_get (pc' := 52) (v := .int (nI (v 0 0))) hX dX4_mixAlloy_49 f_X4_9 0 rfl rfl rfl ?_
            refine r_aaldR (pc' := 53) hX dX4_mixAlloy_52 hcy (by omega) rfl ?_
            refine r_iconst (pc' := 54) (v := nI 0) hX dX4_mixAlloy_53 rfl rfl ?_
            refine r_iload_n (pc' := 55) hX dX4_mixAlloy_54 rfl rfl ?_
            refine r_iastR (pc' := 56) hX dX4_mixAlloy_55 (by rw [hcy]) (by omega) (by omega) rfl ?_
            refine r_aload_n (pc' := 57) hX dX4_mixAlloy_56 rfl rfl ?_
            refine r_get (pc' := 60) (v := .ref (ad 1)) hX dX4_mixAlloy_57 f_X4_17 0 rfl rfl rfl ?_
            refine r_aload_n (pc' := 61) hX dX4_mixAlloy_60 rfl rfl ?_
            refine r_get (pc' := 64) (v := .int (nI (v 0 0))) hX dX4_mixAlloy_61 f_X4_9 0 rfl (rN (congrFun (up2_ne (v := v) (b := 7 + (v 0 0)) (i := 0) (x := a) (b' := 0) (by omega)) 0)) rfl ?_
            refine r_aaldR (pc' := 65) hX dX4_mixAlloy_64 hcy (by omega) rfl ?_
            refine r_iconst (pc' := 66) (v := nI 1) hX dX4_mixAlloy_65 rfl rfl ?_
            refine r_iload_n (pc' := 67) hX dX4_mixAlloy_66 rfl rfl ?_
            refine r_iastR (pc' := 68) hX dX4_mixAlloy_67 (by rw [hcy]) (by omega) (by omega) rfl ?_
            refine r_aload_n (pc' := 69) hX dX4_mixAlloy_68 rfl rfl ?_
            refine r_get (pc' := 72) (v := .ref (ad 1)) hX dX4_mixAlloy_69 f_X4_17 0 rfl rfl rfl ?_
            refine r_aload_n (pc' := 73) hX dX4_mixAlloy_72 rfl rfl ?_
            refine r_get (pc' := 76) (v := .int (nI (v 0 0))) hX dX4_mixAlloy_73 f_X4_9 0 rfl (rN ((congrFun (up2_ne (v := (up2 v (7 + (v 0 0)) 0 a)) (b := 7 + (v 0 0)) (i := 1) (x := b) (b' := 0) (by omega)) 0).trans (congrFun (up2_ne (v := v) (b := 7 + (v 0 0)) (i := 0) (x := a) (b' := 0) (by omega)) 0))) rfl ?_
            refine r_aaldR (pc' := 77) hX dX4_mixAlloy_76 hcy (by omega) rfl ?_
            refine r_iconst (pc' := 78) (v := nI 2) hX dX4_mixAlloy_77 rfl rfl ?_
            refine r_iload_n (pc' := 79) hX dX4_mixAlloy_78 rfl rfl ?_
            refine r_iastR (pc' := 80) hX dX4_mixAlloy_79 (by rw [hcy]) (by omega) (by omega) rfl ?_
            refine r_aload_n (pc' := 81) hX dX4_mixAlloy_80 rfl rfl ?_
            refine r_dup (pc' := 82) hX dX4_mixAlloy_81 rfl rfl ?_
            refine r_get (pc' := 85) (v := .int (nI (v 0 0))) hX dX4_mixAlloy_82 f_X4_9 0 rfl (rN ((congrFun (up2_ne (v := (up2 (up2 v (7 + (v 0 0)) 0 a) (7 + (v 0 0)) 1 b)) (b := 7 + (v 0 0)) (i := 2) (x := c) (b' := 0) (by omega)) 0).trans ((congrFun (up2_ne (v := (up2 v (7 + (v 0 0)) 0 a)) (b := 7 + (v 0 0)) (i := 1) (x := b) (b' := 0) (by omega)) 0).trans (congrFun (up2_ne (v := v) (b := 7 + (v 0 0)) (i := 0) (x := a) (b' := 0) (by omega)) 0)))) rfl ?_
            refine r_iconst (pc' := 86) (v := nI 1) hX dX4_mixAlloy_85 rfl rfl ?_
            refine r_iadd_N (pc' := 87) hX dX4_mixAlloy_86  rfl ?_
            refine r_put (ws' := wSt cy ad (up2 (up2 (up2 (up2 v (7 + (v 0 0)) 0 a) (7 + (v 0 0)) 1 b) (7 + (v 0 0)) 2 c) 0 0 ((v 0 0) + 1))) (pc' := 90) hX dX4_mixAlloy_87 f_X4_9 fw_X4_0 0 rfl rfl rfl (Nat.le_of_ble_eq_true rfl) rfl rfl ?_
            refine r_aload_n (pc' := 91) hX dX4_mixAlloy_90 rfl rfl ?_
            refine r_get (pc' := 94) (v := .int (nI ((v 0 0) + 1))) hX dX4_mixAlloy_91 f_X4_9 0 rfl rfl rfl ?_
            refine r_iconst (pc' := 95) (v := nI 1) hX dX4_mixAlloy_94 rfl rfl ?_
            refine r_isub_N (pc' := 96) hX dX4_mixAlloy_95 (by omega) rfl ?_
            have e9 : oMix v (nI a) (nI b) (nI c) = (nI (((v 0 0) + 1) - 1), (up2 (up2 (up2 (up2 v (7 + (v 0 0)) 0 a) (7 + (v 0 0)) 1 b) (7 + (v 0 0)) 2 c) 0 0 ((v 0 0) + 1))) := by unfold oMix; rw [if_pos ⟨c4, c11, c18, by rw [na, nb, nc]; omega⟩, if_pos (by omega), na, nb, nc]; rfl
            exact r_ireturn hX hE dX4_mixAlloy_96 rfl ⟨by rw [e9], by rw [e9]⟩ (by decide) (by decide)
          · refine r_bipush (pc' := 43) (v := (-3)) hX dX4_mixAlloy_41 rfl rfl ?_
            have e9 : oMix v (nI a) (nI b) (nI c) = ((-3), v) := by unfold oMix; rw [if_pos ⟨c4, c11, c18, by rw [na, nb, nc]; omega⟩, if_neg (by omega)]
            exact r_ireturn hX hE dX4_mixAlloy_43 rfl ⟨by rw [e9], by rw [e9]⟩ (by decide) (by decide)
        · refine r_bipush (pc' := 31) (v := (-2)) hX dX4_mixAlloy_29 rfl rfl ?_
          have e9 : oMix v (nI a) (nI b) (nI c) = ((-2), v) := by unfold oMix; rw [if_neg (by rintro ⟨q1, q2, q3, q4⟩; first | exact c4 q1 | exact c11 q2 | exact c18 q3 | (rw [na, nb, nc] at q4; omega))]
          exact r_ireturn hX hE dX4_mixAlloy_31 rfl ⟨by rw [e9], by rw [e9]⟩ (by decide) (by decide)
