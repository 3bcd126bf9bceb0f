/-! ===== the model: means, undo, save ===== -/
set_option maxRecDepth 20000 in
set_option maxHeartbeats 1000000 in
theorem cMw_meanSqueak {l : Launch} {D : va_G} {cy : Nat → ClassId} {sa : Nat → Nat} {ma : Nat → Nat} {S : AS} {t : Nat} {ws : va_W} {v : SV} (hvS : v = S.1) (h : MS cy ma S t ws) (hv : Wf v)  : MG l yX6_meanSqueak cX6_meanSqueak 4 (some .double) 2 0 0 (D, cy, sa) [.ref (ma 0)] (ws) (fun w u => w = some (.double (qMean v)) ∧ MS cy ma S (if sumT (fun i => v (13 + i) 2) (v 0 4) = 0 then 1 else 0) u) := by
  obtain ⟨r, e, g, bf, hy, sv, bu, le, pa, rfl, hM⟩ := h
  have hM0 := hM
  obtain ⟨h4, hR, h0, h8, hH, hS, hT, hO, hE⟩ := hM
  rw [← hvS] at hR
  have hv0 := hv
  obtain ⟨wa, wm, wb, ws, wt, wc, wB, wR, wL, wK, wP⟩ := hv
  refine MG_by (own := RX6) (L := [some (.ref (ma 0)), none, none, none]) (by decide +kernel) rfl rfl (Nat.le_of_ble_eq_true rfl) 3 rfl (fun X hX hE hnL hG hcy hnm => ?_)
  refine r_iconst (pc' := 1) (v := nI 0) hX dX6_meanSqueak_0 rfl rfl ?_
  refine r_istore_n (L' := [some (.ref (ma 0)), some (.int (nI 0)), none, none]) (pc' := 2) hX dX6_meanSqueak_1 (nlt hnL (by decide)) rfl rfl rfl ?_
  refine r_iconst (pc' := 3) (v := nI 0) hX dX6_meanSqueak_2 rfl rfl ?_
  refine r_istore_n (L' := [some (.ref (ma 0)), some (.int (nI 0)), some (.int (nI 0)), none]) (pc' := 4) hX dX6_meanSqueak_3 (nlt hnL (by decide)) rfl rfl rfl ?_
  refine r_iconst (pc' := 5) (v := nI 0) hX dX6_meanSqueak_4 rfl rfl ?_
  refine r_istore_n (L' := [some (.ref (ma 0)), some (.int (nI 0)), some (.int (nI 0)), some (.int (nI 0))]) (pc' := 6) hX dX6_meanSqueak_5 (nlt hnL (by decide)) rfl rfl rfl ?_
  have loop6 : ∀ (n9 : Nat) (i : Nat) (z : Nat) (b : Nat), v 0 4 - i < n9 → (i ≤ v 0 4) → (z = sumT (sumB v) i) → (b = sumT (fun i => v (13 + i) 2) i) → (b ≤ i * 9) → V X 0 0 (wM cy ma r e g bf hy sv bu le pa) [some (.ref (ma 0)), some (.int (nI z)), some (.int (nI b)), some (.int (nI i))] [] 6 := by
    intro n9
    induction n9 with
    | zero => intro i z b hm; exact absurd hm (Nat.not_lt_zero _)
    | succ n9 ih6 =>
      intro i z b hm hi hz hb hbb
      refine r_iload_n (pc' := 7) hX dX6_meanSqueak_6 rfl rfl ?_
      refine r_aload_n (pc' := 8) hX dX6_meanSqueak_7 rfl rfl ?_
      refine r_get (pc' := 11) (v := .ref (ma 1)) hX dX6_meanSqueak_8 f_X6_7 0 rfl rfl rfl ?_
      refine r_bipush (pc' := 13) (v := nI 7) hX dX6_meanSqueak_11 rfl rfl ?_
      refine r_iald_N (pc' := 14) hX dX6_meanSqueak_13 (by rw [hcy]) 1 rfl (by omega) (by decide) rfl ?_
      change V X 0 0 (wM cy ma r e g bf hy sv bu le pa) [some (.ref (ma 0)), some (.int (nI z)), some (.int (nI b)), some (.int (nI i))] [.int (nI (g 7)), .int (nI i)] 14
      rw [hR.bat]
      refine r_icmp_ge_N (tgt := 43) (pc' := 17) hX dX6_meanSqueak_14 (by decide) rfl (by omega) (by omega) (fun c14 => ?_) (fun c14 => ?_)
      · have hi9 : i = v 0 4 := by omega
        rw [hi9] at hz hb
        refine r_aload_n (pc' := 44) hX dX6_meanSqueak_43 rfl rfl ?_
        refine r_iload_n (pc' := 45) hX dX6_meanSqueak_44 rfl rfl ?_
        refine r_if_ne_N (tgt := 52) (pc' := 48) hX dX6_meanSqueak_45 (by decide) rfl (by omega) (fun c45 => ?_) (fun c45 => ?_)
        · refine r_iconst (pc' := 53) (v := nI 0) hX dX6_meanSqueak_52 rfl rfl ?_
          refine r_put (ws' := wM cy ma (up1 r 4 0) e g bf hy sv bu le pa) (pc' := 56) hX dX6_meanSqueak_53 f_X6_39 fw_X6_12 0 rfl rfl rfl (Nat.le_of_ble_eq_true rfl) rfl rfl ?_
          refine r_aload_n (pc' := 57) hX dX6_meanSqueak_56 rfl rfl ?_
          refine r_get (pc' := 60) (v := .int (nI 0)) hX dX6_meanSqueak_57 f_X6_39 0 rfl rfl rfl ?_
          refine r_if_ne_N (tgt := 71) (pc' := 63) hX dX6_meanSqueak_60 (by decide) rfl (by omega) (fun c60 => ?_) (fun c60 => ?_)
          · exact absurd c60 (by omega)
          · refine r_iload_n (pc' := 64) hX dX6_meanSqueak_63 rfl rfl ?_
            refine r_i2d (pc' := 65) hX dX6_meanSqueak_64 rfl ?_
            refine r_iload_n (pc' := 66) hX dX6_meanSqueak_65 rfl rfl ?_
            refine r_i2d (pc' := 67) hX dX6_meanSqueak_66 rfl ?_
            refine r_ddiv (pc' := 68) hX dX6_meanSqueak_67 (nn64 (nI_ne0 (by omega) (by omega))) rfl ?_
            refine r_goto (tgt := 72) hX dX6_meanSqueak_68 (by decide) ?_
            exact r_dreturn hX hE dX6_meanSqueak_72 rfl ⟨by unfold qMean; rw [← hb, if_neg c45, ← hz], by rw [← hb, if_neg c45]; exact MS_thr hM0⟩ (by decide) (by decide)
        · refine r_iconst (pc' := 49) (v := nI 1) hX dX6_meanSqueak_48 rfl rfl ?_
          refine r_goto (tgt := 53) hX dX6_meanSqueak_49 (by decide) ?_
          refine r_put (ws' := wM cy ma (up1 r 4 1) e g bf hy sv bu le pa) (pc' := 56) hX dX6_meanSqueak_53 f_X6_39 fw_X6_12 0 rfl rfl rfl (Nat.le_of_ble_eq_true rfl) rfl rfl ?_
          refine r_aload_n (pc' := 57) hX dX6_meanSqueak_56 rfl rfl ?_
          refine r_get (pc' := 60) (v := .int (nI 1)) hX dX6_meanSqueak_57 f_X6_39 0 rfl rfl rfl ?_
          refine r_if_ne_N (tgt := 71) (pc' := 63) hX dX6_meanSqueak_60 (by decide) rfl (by omega) (fun c60 => ?_) (fun c60 => ?_)
          · refine r_dconst (pc' := 72) hX dX6_meanSqueak_71 rfl ?_
            exact r_dreturn hX hE dX6_meanSqueak_72 rfl ⟨by unfold qMean; rw [← hb, if_pos c45], by rw [← hb, if_pos c45]; exact MS_thr hM0⟩ (by decide) (by decide)
          · exact absurd c60 (by omega)
      · obtain ⟨bz, ba, -, -, -, bq⟩ := wB i c14
        refine r_iload_n (pc' := 18) hX dX6_meanSqueak_17 rfl rfl ?_
        refine r_aload_n (pc' := 19) hX dX6_meanSqueak_18 rfl rfl ?_
        refine r_iload_n (pc' := 20) hX dX6_meanSqueak_19 rfl rfl ?_
        refine V_call0 (k' := 0) (n' := 0) (pc' := 23) hX (r_runV (As := [.int (nI i)]) hX dX6_meanSqueak_20 k_X6_150 (fun l9 hl9 => cM_sumOf hv0 hR (by omega)) hG ⟨8, _, TX6, 16, List.mem_cons_self, rfl⟩ rfl rfl (Nat.le_of_ble_eq_true rfl) (by decide) (by decide) (by decide) (by decide)) rfl rfl rfl (fun w9 u9 hp9 => ?_)
        obtain ⟨rfl, rfl⟩ := hp9
        change V X 0 0 (wM cy ma r e g bf hy sv bu le pa) [some (.ref (ma 0)), some (.int (nI z)), some (.int (nI b)), some (.int (nI i))] [.int (nI (sumB v i)), .int (nI z)] 23
        refine r_iadd_N (pc' := 24) hX dX6_meanSqueak_23  rfl ?_
        refine r_istore_n (L' := [some (.ref (ma 0)), some (.int (nI (z + (sumB v i)))), some (.int (nI b)), some (.int (nI i))]) (pc' := 25) hX dX6_meanSqueak_24 (nlt hnL (by decide)) rfl rfl rfl ?_
        refine r_iload_n (pc' := 26) hX dX6_meanSqueak_25 rfl rfl ?_
        refine r_aload_n (pc' := 27) hX dX6_meanSqueak_26 rfl rfl ?_
        refine r_get (pc' := 30) (v := .ref (ma 1)) hX dX6_meanSqueak_27 f_X6_7 0 rfl rfl rfl ?_
        refine r_bipush (pc' := 32) (v := nI 63) hX dX6_meanSqueak_30 rfl rfl ?_
        refine r_iload_n (pc' := 33) hX dX6_meanSqueak_32 rfl rfl ?_
        refine r_iadd_N (pc' := 34) hX dX6_meanSqueak_33  rfl ?_
        refine r_iald_N (pc' := 35) hX dX6_meanSqueak_34 (by rw [hcy]) 1 rfl (by omega) (by decide) rfl ?_
        change V X 0 0 (wM cy ma r e g bf hy sv bu le pa) [some (.ref (ma 0)), some (.int (nI (z + (sumB v i)))), some (.int (nI b)), some (.int (nI i))] [.int (nI (g (63 + i))), .int (nI b)] 35
        rw [(hR.man (by omega))]
        refine r_iadd_N (pc' := 36) hX dX6_meanSqueak_35  rfl ?_
        refine r_istore_n (L' := [some (.ref (ma 0)), some (.int (nI (z + (sumB v i)))), some (.int (nI (b + (v (13 + i) 2)))), some (.int (nI i))]) (pc' := 37) hX dX6_meanSqueak_36 (nlt hnL (by decide)) rfl rfl rfl ?_
        refine r_iinc_N (b := 1) (L' := [some (.ref (ma 0)), some (.int (nI (z + (sumB v i)))), some (.int (nI (b + (v (13 + i) 2)))), some (.int (nI (i + 1)))]) (pc' := 40) hX dX6_meanSqueak_37 rfl (nlt hnL (by decide)) rfl rfl rfl ?_
        refine r_goto (tgt := 6) hX dX6_meanSqueak_40 (by decide) ?_
        exact ih6 (i + 1) (z + (sumB v i)) (b + (v (13 + i) 2)) (by omega) (by omega) (by rw [hz]; rfl) (by rw [hb]; rfl) (by omega)
  exact loop6 _ 0 0 0 (Nat.lt_succ_self _) (by omega) rfl rfl (by omega)

set_option maxRecDepth 20000 in
set_option maxHeartbeats 1000000 in
theorem cMw_soldShare {l : Launch} {D : va_G} {cy : Nat → ClassId} {sa : Nat → Nat} {ma : Nat → Nat} {S : AS} {t : Nat} {ws : va_W} {v : SV} (hvS : v = S.1) (h : MS cy ma S t ws) (hv : Wf v)  : MG l yX6_soldShare cX6_soldShare 1 (some .float) 0 0 0 (D, cy, sa) [.ref (ma 0)] (ws) (fun w u => w = some (.float (qShare v)) ∧ MS cy ma S (if v 0 6 = 0 then 1 else 0) u) := by
  obtain ⟨r, e, g, bf, hy, sv, bu, le, pa, rfl, hM⟩ := h
  have hM0 := hM
  obtain ⟨h4, hR, h0, h8, hH, hS, hT, hO, hE⟩ := hM
  rw [← hvS] at hR
  have hv0 := hv
  obtain ⟨wa, wm, wb, ws, wt, wc, wB, wR, wL, wK, wP⟩ := hv
  refine MG_by (own := RX6) (L := [some (.ref (ma 0))]) (by decide +kernel) rfl rfl (Nat.le_of_ble_eq_true rfl) 0 rfl (fun X hX hE hnL hG hcy hnm => ?_)
  refine r_aload_n (pc' := 1) hX dX6_soldShare_0 rfl rfl ?_
  refine r_aload_n (pc' := 2) hX dX6_soldShare_1 rfl rfl ?_
  refine r_get (pc' := 5) (v := .ref (ma 1)) hX dX6_soldShare_2 f_X6_7 0 rfl rfl rfl ?_
  refine r_bipush (pc' := 7) (v := nI 9) hX dX6_soldShare_5 rfl rfl ?_
  refine r_iald_N (pc' := 8) hX dX6_soldShare_7 (by rw [hcy]) 1 rfl (by omega) (by decide) rfl ?_
  change V X 0 0 (wM cy ma r e g bf hy sv bu le pa) [some (.ref (ma 0))] [.int (nI (g 9)), .ref (ma 0)] 8
  rw [hR.cas]
  refine r_if_ne_N (tgt := 15) (pc' := 11) hX dX6_soldShare_8 (by decide) rfl (by omega) (fun c8 => ?_) (fun c8 => ?_)
  · refine r_iconst (pc' := 16) (v := nI 0) hX dX6_soldShare_15 rfl rfl ?_
    refine r_put (ws' := wM cy ma (up1 r 4 0) e g bf hy sv bu le pa) (pc' := 19) hX dX6_soldShare_16 f_X6_39 fw_X6_12 0 rfl rfl rfl (Nat.le_of_ble_eq_true rfl) rfl rfl ?_
    refine r_aload_n (pc' := 20) hX dX6_soldShare_19 rfl rfl ?_
    refine r_get (pc' := 23) (v := .int (nI 0)) hX dX6_soldShare_20 f_X6_39 0 rfl rfl rfl ?_
    refine r_if_ne_N (tgt := 46) (pc' := 26) hX dX6_soldShare_23 (by decide) rfl (by omega) (fun c23 => ?_) (fun c23 => ?_)
    · exact absurd c23 (by omega)
    · refine r_aload_n (pc' := 27) hX dX6_soldShare_26 rfl rfl ?_
      refine r_get (pc' := 30) (v := .ref (ma 1)) hX dX6_soldShare_27 f_X6_7 0 rfl rfl rfl ?_
      refine r_bipush (pc' := 32) (v := nI 10) hX dX6_soldShare_30 rfl rfl ?_
      refine r_iald_N (pc' := 33) hX dX6_soldShare_32 (by rw [hcy]) 1 rfl (by omega) (by decide) rfl ?_
      change V X 0 0 (wM cy ma (up1 r 4 0) e g bf hy sv bu le pa) [some (.ref (ma 0))] [.int (nI (g 10))] 33
      rw [hR.sol]
      refine r_i2f (pc' := 34) hX dX6_soldShare_33 rfl ?_
      refine r_aload_n (pc' := 35) hX dX6_soldShare_34 rfl rfl ?_
      refine r_get (pc' := 38) (v := .ref (ma 1)) hX dX6_soldShare_35 f_X6_7 0 rfl rfl rfl ?_
      refine r_bipush (pc' := 40) (v := nI 9) hX dX6_soldShare_38 rfl rfl ?_
      refine r_iald_N (pc' := 41) hX dX6_soldShare_40 (by rw [hcy]) 1 rfl (by omega) (by decide) rfl ?_
      change V X 0 0 (wM cy ma (up1 r 4 0) e g bf hy sv bu le pa) [some (.ref (ma 0))] [.int (nI (g 9)), .float (FP.i2f (nI (v 0 7)))] 41
      rw [hR.cas]
      refine r_i2f (pc' := 42) hX dX6_soldShare_41 rfl ?_
      refine r_fdiv (pc' := 43) hX dX6_soldShare_42 (nn32 (nI_ne0 (by omega) (by omega))) rfl ?_
      refine r_goto (tgt := 47) hX dX6_soldShare_43 (by decide) ?_
      exact r_freturn hX hE dX6_soldShare_47 rfl ⟨by unfold qShare; rw [if_neg c8], by rw [if_neg c8]; exact MS_thr hM0⟩ (by decide) (by decide)
  · refine r_iconst (pc' := 12) (v := nI 1) hX dX6_soldShare_11 rfl rfl ?_
    refine r_goto (tgt := 16) hX dX6_soldShare_12 (by decide) ?_
    refine r_put (ws' := wM cy ma (up1 r 4 1) e g bf hy sv bu le pa) (pc' := 19) hX dX6_soldShare_16 f_X6_39 fw_X6_12 0 rfl rfl rfl (Nat.le_of_ble_eq_true rfl) rfl rfl ?_
    refine r_aload_n (pc' := 20) hX dX6_soldShare_19 rfl rfl ?_
    refine r_get (pc' := 23) (v := .int (nI 1)) hX dX6_soldShare_20 f_X6_39 0 rfl rfl rfl ?_
    refine r_if_ne_N (tgt := 46) (pc' := 26) hX dX6_soldShare_23 (by decide) rfl (by omega) (fun c23 => ?_) (fun c23 => ?_)
    · refine r_fconst (pc' := 47) hX dX6_soldShare_46 rfl ?_
      exact r_freturn hX hE dX6_soldShare_47 rfl ⟨by unfold qShare; rw [if_pos c8], by rw [if_pos c8]; exact MS_thr hM0⟩ (by decide) (by decide)
    · exact absurd c23 (by omega)

set_option maxRecDepth 20000 in
set_option maxHeartbeats 1000000 in
theorem cMw_errorPosition {l : Launch} {D : va_G} {cy : Nat → ClassId} {sa : Nat → Nat} {ma : Nat → Nat} {S : AS} {t : Nat} {ws : va_W} (h : MS cy ma S t ws) (hx : S.2.2.2.2.2.1 = -1 ∨ 0 ≤ (S.2.2.2.2.2.1).toInt) : MG l yX6_errorPosition cX6_errorPosition 1 (some .int) 1 0 0 (D, cy, sa) [.ref (ma 0)] (ws) (fun w u => w = some (.int (mvl (qErr S.2.2.2.2.2.1))) ∧ MS cy ma S (kd 1 1 1 1 1 (qErr S.2.2.2.2.2.1)) u) := by
  obtain ⟨r, e, g, bf, hy, sv, bu, le, pa, rfl, hM⟩ := h
  have hM0 := hM
  obtain ⟨h4, hR, h0, h8, hH, hS, hT, hO, hEr⟩ := hM
  refine MG_by (own := RX6) (L := [some (.ref (ma 0))]) (by decide +kernel) rfl rfl (Nat.le_of_ble_eq_true rfl) 0 rfl (fun X hX hE hnL hG hcy hnm => ?_)
  refine r_aload_n (pc' := 1) hX dX6_errorPosition_0 rfl rfl ?_
  refine r_get (pc' := 4) (v := .int (e 0)) hX dX6_errorPosition_1 f_X6_26 0 rfl rfl rfl ?_
  refine r_iconst (pc' := 5) (v := (-1)) hX dX6_errorPosition_4 rfl rfl ?_
  refine r_icmp_ne_I (tgt := 16) (pc' := 8) hX dX6_errorPosition_5 (by decide) rfl rfl (by decide : (-1 : Int32).toInt = -1) (fun c5 => ?_) (fun c5 => ?_)
  · refine r_aload_n (pc' := 17) hX dX6_errorPosition_16 rfl rfl ?_
    refine r_aload_n (pc' := 18) hX dX6_errorPosition_17 rfl rfl ?_
    refine r_get (pc' := 21) (v := .int (e 0)) hX dX6_errorPosition_18 f_X6_26 0 rfl rfl rfl ?_
    refine V_call0 (k' := 0) (n' := 0) (pc' := 24) hX (r_runV (As := [.int (e 0)]) hX dX6_errorPosition_21 k_X6_70 (fun l9 hl9 => cM_done) hG ⟨8, _, TX6, 16, List.mem_cons_self, rfl⟩ rfl rfl (Nat.le_of_ble_eq_true rfl) (by decide) (by decide) (by decide) (by decide)) rfl rfl rfl (fun w9 u9 hp9 => ?_)
    obtain ⟨rfl, rfl⟩ := hp9
    change V X 0 0 (wM cy ma (up1 r 4 0) e g bf hy sv bu le pa) [some (.ref (ma 0))] [.int (e 0)] 24
    exact r_ireturn hX hE dX6_errorPosition_24 rfl (err_good hM0 hEr.1 hx (by rw [← hEr.1]; exact fun q => c5 (by rw [q]; rfl))) (by decide) (by decide)
  · refine r_aload_n (pc' := 9) hX dX6_errorPosition_8 rfl rfl ?_
    refine r_iconst (pc' := 10) (v := nI 1) hX dX6_errorPosition_9 rfl rfl ?_
    refine V_call0 (k' := 0) (n' := 0) (pc' := 13) hX (r_runV (As := [.int (nI 1)]) hX dX6_errorPosition_10 k_X6_67 (fun l9 hl9 => cM_fails (by omega)) hG ⟨8, _, TX6, 16, List.mem_cons_self, rfl⟩ rfl rfl (Nat.le_of_ble_eq_true rfl) (by decide) (by decide) (by decide) (by decide)) rfl rfl rfl (fun w9 u9 hp9 => ?_)
    obtain ⟨rfl, rfl⟩ := hp9
    change V X 0 0 (wM cy ma (up1 r 4 1) e g bf hy sv bu le pa) [some (.ref (ma 0))] [.int (nI 0)] 13
    refine r_goto (tgt := 24) hX dX6_errorPosition_13 (by decide) ?_
    exact r_ireturn hX hE dX6_errorPosition_24 rfl (err_bad hM0 (by rw [← hEr.1]; exact Int32.toInt_inj.mp c5)) (by decide) (by decide)

set_option maxRecDepth 20000 in
set_option maxHeartbeats 1000000 in
theorem cMw_failedCommand {l : Launch} {D : va_G} {cy : Nat → ClassId} {sa : Nat → Nat} {ma : Nat → Nat} {S : AS} {t : Nat} {ws : va_W} (h : MS cy ma S t ws) (hx : S.2.2.2.2.2.2 = -1 ∨ 0 ≤ (S.2.2.2.2.2.2).toInt) : MG l yX6_failedCommand cX6_failedCommand 1 (some .int) 1 0 0 (D, cy, sa) [.ref (ma 0)] (ws) (fun w u => w = some (.int (mvl (qErr S.2.2.2.2.2.2))) ∧ MS cy ma S (kd 1 1 1 1 1 (qErr S.2.2.2.2.2.2)) u) := by
  obtain ⟨r, e, g, bf, hy, sv, bu, le, pa, rfl, hM⟩ := h
  have hM0 := hM
  obtain ⟨h4, hR, h0, h8, hH, hS, hT, hO, hEr⟩ := hM
  refine MG_by (own := RX6) (L := [some (.ref (ma 0))]) (by decide +kernel) rfl rfl (Nat.le_of_ble_eq_true rfl) 0 rfl (fun X hX hE hnL hG hcy hnm => ?_)
  refine r_aload_n (pc' := 1) hX dX6_failedCommand_0 rfl rfl ?_
  refine r_get (pc' := 4) (v := .int (e 1)) hX dX6_failedCommand_1 f_X6_30 0 rfl rfl rfl ?_
  refine r_iconst (pc' := 5) (v := (-1)) hX dX6_failedCommand_4 rfl rfl ?_
  refine r_icmp_ne_I (tgt := 16) (pc' := 8) hX dX6_failedCommand_5 (by decide) rfl rfl (by decide : (-1 : Int32).toInt = -1) (fun c5 => ?_) (fun c5 => ?_)
  · refine r_aload_n (pc' := 17) hX dX6_failedCommand_16 rfl rfl ?_
    refine r_aload_n (pc' := 18) hX dX6_failedCommand_17 rfl rfl ?_
    refine r_get (pc' := 21) (v := .int (e 1)) hX dX6_failedCommand_18 f_X6_30 0 rfl rfl rfl ?_
    refine V_call0 (k' := 0) (n' := 0) (pc' := 24) hX (r_runV (As := [.int (e 1)]) hX dX6_failedCommand_21 k_X6_70 (fun l9 hl9 => cM_done) hG ⟨8, _, TX6, 16, List.mem_cons_self, rfl⟩ rfl rfl (Nat.le_of_ble_eq_true rfl) (by decide) (by decide) (by decide) (by decide)) rfl rfl rfl (fun w9 u9 hp9 => ?_)
    obtain ⟨rfl, rfl⟩ := hp9
    change V X 0 0 (wM cy ma (up1 r 4 0) e g bf hy sv bu le pa) [some (.ref (ma 0))] [.int (e 1)] 24
    exact r_ireturn hX hE dX6_failedCommand_24 rfl (err_good hM0 hEr.2 hx (by rw [← hEr.2]; exact fun q => c5 (by rw [q]; rfl))) (by decide) (by decide)
  · refine r_aload_n (pc' := 9) hX dX6_failedCommand_8 rfl rfl ?_
    refine r_iconst (pc' := 10) (v := nI 1) hX dX6_failedCommand_9 rfl rfl ?_
    refine V_call0 (k' := 0) (n' := 0) (pc' := 13) hX (r_runV (As := [.int (nI 1)]) hX dX6_failedCommand_10 k_X6_67 (fun l9 hl9 => cM_fails (by omega)) hG ⟨8, _, TX6, 16, List.mem_cons_self, rfl⟩ rfl rfl (Nat.le_of_ble_eq_true rfl) (by decide) (by decide) (by decide) (by decide)) rfl rfl rfl (fun w9 u9 hp9 => ?_)
    obtain ⟨rfl, rfl⟩ := hp9
    change V X 0 0 (wM cy ma (up1 r 4 1) e g bf hy sv bu le pa) [some (.ref (ma 0))] [.int (nI 0)] 13
    refine r_goto (tgt := 24) hX dX6_failedCommand_13 (by decide) ?_
    exact r_ireturn hX hE dX6_failedCommand_24 rfl (err_bad hM0 (by rw [← hEr.2]; exact Int32.toInt_inj.mp c5)) (by decide) (by decide)

set_option maxRecDepth 20000 in
set_option maxHeartbeats 1000000 in
theorem cMw_undo {l : Launch} {D : va_G} {cy : Nat → ClassId} {sa : Nat → Nat} {ma : Nat → Nat} {S : AS} {t : Nat} {ws : va_W} (h : MS cy ma S t ws) : MG l yX6_undo cX6_undo 1 (some .int) 1 0 0 (D, cy, sa) [.ref (ma 0)] (ws) (fun w u => w = some (.int (mvl (qUndo S))) ∧ MS cy ma (aUndo S) (kd 1 1 1 1 1 (qUndo S)) u) := by
  obtain ⟨r, e, g, bf, hy, sv, bu, le, pa, rfl, hM⟩ := h
  have hM0 := hM
  obtain ⟨h4, hR, h0, h8, hH, hS, hT, hO, hEr⟩ := hM
  refine MG_by (own := RX6) (L := [some (.ref (ma 0))]) (by decide +kernel) rfl rfl (Nat.le_of_ble_eq_true rfl) 0 rfl (fun X hX hE hnL hG hcy hnm => ?_)
  refine r_aload_n (pc' := 1) hX dX6_undo_0 rfl rfl ?_
  refine r_get (pc' := 4) (v := .int (nI (r 0))) hX dX6_undo_1 f_X6_46 0 rfl rfl rfl ?_
  refine r_if_ne_N (tgt := 13) (pc' := 7) hX dX6_undo_4 (by decide) rfl (by omega) (fun c4 => ?_) (fun c4 => ?_)
  · refine r_aload_n (pc' := 14) hX dX6_undo_13 rfl rfl ?_
    refine r_dup (pc' := 15) hX dX6_undo_14 rfl rfl ?_
    refine r_get (pc' := 18) (v := .int (nI (r 0))) hX dX6_undo_15 f_X6_46 0 rfl rfl rfl ?_
    refine r_iconst (pc' := 19) (v := nI 1) hX dX6_undo_18 rfl rfl ?_
    refine r_isub_N (pc' := 20) hX dX6_undo_19 (by omega) rfl ?_
    refine r_put (ws' := wM cy ma (up1 r 0 ((r 0) - 1)) e g bf hy sv bu le pa) (pc' := 23) hX dX6_undo_20 f_X6_46 fw_X6_3 0 rfl rfl rfl (Nat.le_of_ble_eq_true rfl) rfl rfl ?_
    refine r_aload_n (pc' := 24) hX dX6_undo_23 rfl rfl ?_
    refine r_get (pc' := 27) (v := .ref (ma 3)) hX dX6_undo_24 f_X6_16 0 rfl rfl rfl ?_
    refine r_aload_n (pc' := 28) hX dX6_undo_27 rfl rfl ?_
    refine r_get (pc' := 31) (v := .int (nI ((r 0) - 1))) hX dX6_undo_28 f_X6_46 0 rfl rfl rfl ?_
    refine r_sipush (pc' := 34) (v := nI 159) hX dX6_undo_31 rfl rfl ?_
    refine r_imul_N (pc' := 35) hX dX6_undo_34  rfl ?_
    refine r_aload_n (pc' := 36) hX dX6_undo_35 rfl rfl ?_
    refine r_get (pc' := 39) (v := .ref (ma 1)) hX dX6_undo_36 f_X6_7 0 rfl rfl rfl ?_
    refine r_iconst (pc' := 40) (v := nI 0) hX dX6_undo_39 rfl rfl ?_
    refine V_call (k' := 0) (n' := 0) (pc' := 43) (wr := (((wM cy ma (up1 r 0 ((r 0) - 1)) e g bf hy sv bu le pa).eraseIdx 3).eraseIdx 1)) hX (r_runS (As := [.ref (ma 3), .int (nI (((r 0) - 1) * 159)), .ref (ma 1), .int (nI 0)]) hX dX6_undo_40 k_X6_42 (fun l9 hl9 => cM_copy (x := ma 3) (y := ma 1) (n1 := 1272) (n2 := 159) (f := hy) (h := g) (by omega) (by omega) (by omega) (by omega)) hG rfl rfl (Nat.le_of_ble_eq_true rfl) (by decide) (by decide) (by decide) (by decide)) (pick2 (i := 3) (j := 1) (Nat.le_of_ble_eq_true rfl) (Nat.le_of_ble_eq_true rfl)) rfl rfl rfl (fun w9 u9 hp9 => ?_)
    obtain ⟨rfl, rfl⟩ := hp9
    change V X 0 0 ([(ma 3, .inl (cy 0, aN 1272 hy)), (ma 1, .inl (cy 0, aN 159 (cpy hy (((r 0) - 1) * 159) g 0 159)))] ++ (((wM cy ma (up1 r 0 ((r 0) - 1)) e g bf hy sv bu le pa).eraseIdx 3).eraseIdx 1)) [some (.ref (ma 0))] [] 43
    refine V_perm ((pick2 (ws := wM cy ma (up1 r 0 ((r 0) - 1)) e (cpy hy (((r 0) - 1) * 159) g 0 159) bf hy sv bu le pa) (i := 3) (j := 1) (Nat.le_of_ble_eq_true rfl) (Nat.le_of_ble_eq_true rfl)).symm) ?_
    refine r_aload_n (pc' := 44) hX dX6_undo_43 rfl rfl ?_
    refine r_aload_n (pc' := 45) hX dX6_undo_44 rfl rfl ?_
    refine r_get (pc' := 48) (v := .int (nI ((r 0) - 1))) hX dX6_undo_45 f_X6_46 0 rfl rfl rfl ?_
    refine V_call0 (k' := 0) (n' := 0) (pc' := 51) hX (r_runV (As := [.int (nI ((r 0) - 1))]) hX dX6_undo_48 k_X6_70 (fun l9 hl9 => cM_done) hG ⟨8, _, TX6, 16, List.mem_cons_self, rfl⟩ rfl rfl (Nat.le_of_ble_eq_true rfl) (by decide) (by decide) (by decide) (by decide)) rfl rfl rfl (fun w9 u9 hp9 => ?_)
    obtain ⟨rfl, rfl⟩ := hp9
    change V X 0 0 (wM cy ma (up1 (up1 r 0 ((r 0) - 1)) 4 0) e (cpy hy (((r 0) - 1) * 159) g 0 159) bf hy sv bu le pa) [some (.ref (ma 0))] [.int (nI ((r 0) - 1))] 51
    exact r_ireturn hX hE dX6_undo_51 rfl (undo_good hM0 c4) (by decide) (by decide)
  · refine r_aload_n (pc' := 8) hX dX6_undo_7 rfl rfl ?_
    refine r_iconst (pc' := 9) (v := nI 1) hX dX6_undo_8 rfl rfl ?_
    refine V_call0 (k' := 0) (n' := 0) (pc' := 12) hX (r_runV (As := [.int (nI 1)]) hX dX6_undo_9 k_X6_67 (fun l9 hl9 => cM_fails (by omega)) hG ⟨8, _, TX6, 16, List.mem_cons_self, rfl⟩ rfl rfl (Nat.le_of_ble_eq_true rfl) (by decide) (by decide) (by decide) (by decide)) rfl rfl rfl (fun w9 u9 hp9 => ?_)
    obtain ⟨rfl, rfl⟩ := hp9
    change V X 0 0 (wM cy ma (up1 r 4 1) e g bf hy sv bu le pa) [some (.ref (ma 0))] [.int (nI 0)] 12
    exact r_ireturn hX hE dX6_undo_12 rfl (undo_bad hM0 (by omega)) (by decide) (by decide)

set_option maxRecDepth 20000 in
set_option maxHeartbeats 1000000 in
theorem cMw_save {l : Launch} {D : va_G} {cy : Nat → ClassId} {sa : Nat → Nat} {ma : Nat → Nat} {S : AS} {t : Nat} {ws : va_W} {v : SV} (hvS : v = S.1) (h : MS cy ma S t ws) (hv : Wf v)  : MG l yX6_save cX6_save 1 (some .int) 1 0 0 (D, cy, sa) [.ref (ma 0)] (ws) (fun w u => w = some (.int (mvl (nI (v 0 4)))) ∧ MS cy ma (aSave S) 0 u) := by
  obtain ⟨r, e, g, bf, hy, sv, bu, le, pa, rfl, hM⟩ := h
  have hM0 := hM
  obtain ⟨h4, hR, h0, h8, hH, hS, hT, hO, hE⟩ := hM
  rw [← hvS] at hR
  have hv0 := hv
  obtain ⟨wa, wm, wb, ws, wt, wc, wB, wR, wL, wK, wP⟩ := hv
  refine MG_by (own := RX6) (L := [some (.ref (ma 0))]) (by decide +kernel) rfl rfl (Nat.le_of_ble_eq_true rfl) 0 rfl (fun X hX hE hnL hG hcy hnm => ?_)
  refine r_aload_n (pc' := 1) hX dX6_save_0 rfl rfl ?_
  refine r_get (pc' := 4) (v := .ref (ma 1)) hX dX6_save_1 f_X6_7 0 rfl rfl rfl ?_
  refine r_iconst (pc' := 5) (v := nI 0) hX dX6_save_4 rfl rfl ?_
  refine r_aload_n (pc' := 6) hX dX6_save_5 rfl rfl ?_
  refine r_get (pc' := 9) (v := .ref (ma 4)) hX dX6_save_6 f_X6_19 0 rfl rfl rfl ?_
  refine r_iconst (pc' := 10) (v := nI 0) hX dX6_save_9 rfl rfl ?_
  refine V_call (k' := 0) (n' := 0) (pc' := 13) (wr := (((wM cy ma r e g bf hy sv bu le pa).eraseIdx 1).eraseIdx 3)) hX (r_runS (As := [.ref (ma 1), .int (nI 0), .ref (ma 4), .int (nI 0)]) hX dX6_save_10 k_X6_42 (fun l9 hl9 => cM_copy (x := ma 1) (y := ma 4) (n1 := 159) (n2 := 159) (f := g) (h := sv) (by omega) (by omega) (by omega) (by omega)) hG rfl rfl (Nat.le_of_ble_eq_true rfl) (by decide) (by decide) (by decide) (by decide)) (pick2 (i := 1) (j := 3) (Nat.le_of_ble_eq_true rfl) (Nat.le_of_ble_eq_true rfl)) rfl rfl rfl (fun w9 u9 hp9 => ?_)
  obtain ⟨rfl, rfl⟩ := hp9
  change V X 0 0 ([(ma 1, .inl (cy 0, aN 159 g)), (ma 4, .inl (cy 0, aN 159 (cpy g 0 sv 0 159)))] ++ (((wM cy ma r e g bf hy sv bu le pa).eraseIdx 1).eraseIdx 3)) [some (.ref (ma 0))] [] 13
  refine V_perm ((pick2 (ws := wM cy ma r e g bf hy (cpy g 0 sv 0 159) bu le pa) (i := 1) (j := 3) (Nat.le_of_ble_eq_true rfl) (Nat.le_of_ble_eq_true rfl)).symm) ?_
  refine r_aload_n (pc' := 14) hX dX6_save_13 rfl rfl ?_
  refine r_iconst (pc' := 15) (v := nI 1) hX dX6_save_14 rfl rfl ?_
  refine r_put (ws' := wM cy ma (up1 r 1 1) e g bf hy (cpy g 0 sv 0 159) bu le pa) (pc' := 18) hX dX6_save_15 f_X6_204 fw_X6_5 0 rfl rfl rfl (Nat.le_of_ble_eq_true rfl) rfl rfl ?_
  refine r_aload_n (pc' := 19) hX dX6_save_18 rfl rfl ?_
  refine r_aload_n (pc' := 20) hX dX6_save_19 rfl rfl ?_
  refine r_get (pc' := 23) (v := .ref (ma 1)) hX dX6_save_20 f_X6_7 0 rfl rfl rfl ?_
  refine r_bipush (pc' := 25) (v := nI 7) hX dX6_save_23 rfl rfl ?_
  refine r_iald_N (pc' := 26) hX dX6_save_25 (by rw [hcy]) 1 rfl (by omega) (by decide) rfl ?_
  change V X 0 0 (wM cy ma (up1 r 1 1) e g bf hy (cpy g 0 sv 0 159) bu le pa) [some (.ref (ma 0))] [.int (nI (g 7)), .ref (ma 0)] 26
  rw [hR.bat]
  refine V_call0 (k' := 0) (n' := 0) (pc' := 29) hX (r_runV (As := [.int (nI (v 0 4))]) hX dX6_save_26 k_X6_70 (fun l9 hl9 => cM_done) hG ⟨8, _, TX6, 16, List.mem_cons_self, rfl⟩ rfl rfl (Nat.le_of_ble_eq_true rfl) (by decide) (by decide) (by decide) (by decide)) rfl rfl rfl (fun w9 u9 hp9 => ?_)
  obtain ⟨rfl, rfl⟩ := hp9
  change V X 0 0 (wM cy ma (up1 (up1 r 1 1) 4 0) e g bf hy (cpy g 0 sv 0 159) bu le pa) [some (.ref (ma 0))] [.int (nI (v 0 4))] 29
  exact r_ireturn hX hE dX6_save_29 rfl ⟨by rw [mvl_nI (by omega)], save_ms hM0⟩ (by decide) (by decide)

set_option maxRecDepth 20000 in
set_option maxHeartbeats 1000000 in
theorem cMw_restore {l : Launch} {D : va_G} {cy : Nat → ClassId} {sa : Nat → Nat} {ma : Nat → Nat} {S : AS} {t : Nat} {ws : va_W} (h : MS cy ma S t ws) (hw : ∀ s, S.2.2.1 = some s → Wf s) : MG l yX6_restore cX6_restore 1 (some .int) 1 0 0 (D, cy, sa) [.ref (ma 0)] (ws) (fun w u => w = some (.int (mvl (qRest S))) ∧ MS cy ma (aRest S) (kd 1 1 1 1 1 (qRest S)) u) := by
  obtain ⟨r, e, g, bf, hy, sv, bu, le, pa, rfl, hM⟩ := h
  have hM0 := hM
  obtain ⟨h4, hR, h0, h8, hH, hS, hT, hO, hEr⟩ := hM
  refine MG_by (own := RX6) (L := [some (.ref (ma 0))]) (by decide +kernel) rfl rfl (Nat.le_of_ble_eq_true rfl) 0 rfl (fun X hX hE hnL hG hcy hnm => ?_)
  refine r_aload_n (pc' := 1) hX dX6_restore_0 rfl rfl ?_
  refine r_get (pc' := 4) (v := .int (nI (r 1))) hX dX6_restore_1 f_X6_204 0 rfl rfl rfl ?_
  have hr1 : r 1 < 2 := by rcases hS with ⟨q, -⟩ | ⟨q, -⟩ <;> omega
  refine r_if_ne_N (tgt := 13) (pc' := 7) hX dX6_restore_4 (by decide) rfl (by omega) (fun c4 => ?_) (fun c4 => ?_)
  · obtain ⟨s9, hs9, hR9⟩ : ∃ s, S.2.2.1 = some s ∧ Rr s sv := by rcases hS with ⟨q, -⟩ | ⟨-, q⟩; exact absurd q c4; exact q
    have w9 := (hw s9 hs9).2.2.1
    refine r_aload_n (pc' := 14) hX dX6_restore_13 rfl rfl ?_
    refine r_get (pc' := 17) (v := .ref (ma 4)) hX dX6_restore_14 f_X6_19 0 rfl rfl rfl ?_
    refine r_iconst (pc' := 18) (v := nI 0) hX dX6_restore_17 rfl rfl ?_
    refine r_aload_n (pc' := 19) hX dX6_restore_18 rfl rfl ?_
    refine r_get (pc' := 22) (v := .ref (ma 1)) hX dX6_restore_19 f_X6_7 0 rfl rfl rfl ?_
    refine r_iconst (pc' := 23) (v := nI 0) hX dX6_restore_22 rfl rfl ?_
    refine V_call (k' := 0) (n' := 0) (pc' := 26) (wr := (((wM cy ma r e g bf hy sv bu le pa).eraseIdx 4).eraseIdx 1)) hX (r_runS (As := [.ref (ma 4), .int (nI 0), .ref (ma 1), .int (nI 0)]) hX dX6_restore_23 k_X6_42 (fun l9 hl9 => cM_copy (x := ma 4) (y := ma 1) (n1 := 159) (n2 := 159) (f := sv) (h := g) (by omega) (by omega) (by omega) (by omega)) hG rfl rfl (Nat.le_of_ble_eq_true rfl) (by decide) (by decide) (by decide) (by decide)) (pick2 (i := 4) (j := 1) (Nat.le_of_ble_eq_true rfl) (Nat.le_of_ble_eq_true rfl)) rfl rfl rfl (fun w9 u9 hp9 => ?_)
    obtain ⟨rfl, rfl⟩ := hp9
    change V X 0 0 ([(ma 4, .inl (cy 0, aN 159 sv)), (ma 1, .inl (cy 0, aN 159 (cpy sv 0 g 0 159)))] ++ (((wM cy ma r e g bf hy sv bu le pa).eraseIdx 4).eraseIdx 1)) [some (.ref (ma 0))] [] 26
    refine V_perm ((pick2 (ws := wM cy ma r e (cpy sv 0 g 0 159) bf hy sv bu le pa) (i := 4) (j := 1) (Nat.le_of_ble_eq_true rfl) (Nat.le_of_ble_eq_true rfl)).symm) ?_
    refine r_aload_n (pc' := 27) hX dX6_restore_26 rfl rfl ?_
    refine r_iconst (pc' := 28) (v := nI 0) hX dX6_restore_27 rfl rfl ?_
    refine r_put (ws' := wM cy ma (up1 r 0 0) e (cpy sv 0 g 0 159) bf hy sv bu le pa) (pc' := 31) hX dX6_restore_28 f_X6_46 fw_X6_3 0 rfl rfl rfl (Nat.le_of_ble_eq_true rfl) rfl rfl ?_
    refine r_aload_n (pc' := 32) hX dX6_restore_31 rfl rfl ?_
    refine r_aload_n (pc' := 33) hX dX6_restore_32 rfl rfl ?_
    refine r_get (pc' := 36) (v := .ref (ma 1)) hX dX6_restore_33 f_X6_7 0 rfl rfl rfl ?_
    refine r_bipush (pc' := 38) (v := nI 7) hX dX6_restore_36 rfl rfl ?_
    refine r_iald_N (pc' := 39) hX dX6_restore_38 (by rw [hcy]) 1 rfl (by omega) (by decide) rfl ?_
    change V X 0 0 (wM cy ma (up1 r 0 0) e (cpy sv 0 g 0 159) bf hy sv bu le pa) [some (.ref (ma 0))] [.int (nI ((cpy sv 0 g 0 159) 7)), .ref (ma 0)] 39
    rw [show (cpy sv 0 g 0 159) 7 = s9 0 4 from (cpy_00 (by decide)).trans hR9.bat]
    refine V_call0 (k' := 0) (n' := 0) (pc' := 42) hX (r_runV (As := [.int (nI (s9 0 4))]) hX dX6_restore_39 k_X6_70 (fun l9 hl9 => cM_done) hG ⟨8, _, TX6, 16, List.mem_cons_self, rfl⟩ rfl rfl (Nat.le_of_ble_eq_true rfl) (by decide) (by decide) (by decide) (by decide)) rfl rfl rfl (fun w9 u9 hp9 => ?_)
    obtain ⟨rfl, rfl⟩ := hp9
    change V X 0 0 (wM cy ma (up1 (up1 r 0 0) 4 0) e (cpy sv 0 g 0 159) bf hy sv bu le pa) [some (.ref (ma 0))] [.int (nI (s9 0 4))] 42
    exact r_ireturn hX hE dX6_restore_42 rfl (rest_good hM0 hs9 hR9 (by omega)) (by decide) (by decide)
  · refine r_aload_n (pc' := 8) hX dX6_restore_7 rfl rfl ?_
    refine r_iconst (pc' := 9) (v := nI 1) hX dX6_restore_8 rfl rfl ?_
    refine V_call0 (k' := 0) (n' := 0) (pc' := 12) hX (r_runV (As := [.int (nI 1)]) hX dX6_restore_9 k_X6_67 (fun l9 hl9 => cM_fails (by omega)) hG ⟨8, _, TX6, 16, List.mem_cons_self, rfl⟩ rfl rfl (Nat.le_of_ble_eq_true rfl) (by decide) (by decide) (by decide) (by decide)) rfl rfl rfl (fun w9 u9 hp9 => ?_)
    obtain ⟨rfl, rfl⟩ := hp9
    change V X 0 0 (wM cy ma (up1 r 4 1) e g bf hy sv bu le pa) [some (.ref (ma 0))] [.int (nI 0)] 12
    exact r_ireturn hX hE dX6_restore_12 rfl (rest_bad hM0 c4) (by decide) (by decide)
