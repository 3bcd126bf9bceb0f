/-! ===== the model: its questions ===== -/
set_option maxRecDepth 20000 in
set_option maxHeartbeats 1000000 in
theorem cM_squeak {l : Launch} {D : va_G} {cy : Nat → ClassId} {sa : Nat → Nat} {ma : Nat → Nat} {r : Nat → Nat} {e : Nat → Int32} {g bf hy sv bu le : Nat → Nat} {pa : Nat → Int32} {v : SV} (hv : Wf v) (hR : Rr v g) {x : Int32}  : MG l yX6_squeak cX6_squeak 3 (some .int) 2 0 0 (D, cy, sa) [.ref (ma 0), .int x] (wM cy ma r e g bf hy sv bu le pa) (fun w u => w = some (.int (mvl (qSqk v x))) ∧ u = wM cy ma (up1 r 4 (kd 1 1 1 1 1 (qSqk v x))) e g bf hy sv bu le pa) := by
  have hv0 := hv
  obtain ⟨wa, wm, wb, ws, wt, wc, wB, wR, wL, wK, wP⟩ := hv
  refine MG_by (own := RX6) (L := [some (.ref (ma 0)), some (.int x), none]) (by decide +kernel) rfl rfl (Nat.le_of_ble_eq_true rfl) 1 rfl (fun X hX hE hnL hG hcy hnm => ?_)
  refine r_aload_n (pc' := 1) hX dX6_squeak_0 rfl rfl ?_
  refine r_iload_n (pc' := 2) hX dX6_squeak_1 rfl rfl ?_
  refine V_call0 (k' := 0) (n' := 0) (pc' := 5) hX (r_runV (As := [.int x]) hX dX6_squeak_2 k_X6_138 (fun l9 hl9 => cM_placeWith hv0 hR) hG ⟨8, _, TX6, 16, List.mem_cons_self, rfl⟩ rfl rfl (Nat.le_of_ble_eq_true rfl) (by decide) (by decide) (by decide) (by decide)) rfl rfl rfl (fun w9 u9 hp9 => ?_)
  obtain ⟨rfl, rfl⟩ := hp9
  by_cases hs : plb v x.toInt < v 0 4
  · rw [if_pos hs]
    obtain ⟨pl, hpl⟩ : ∃ z, z = plb v x.toInt := ⟨_, rfl⟩
    rw [← hpl] at hs ⊢
    obtain ⟨bz, ba, bf9, b0, b1, bq⟩ := wB pl hs
    change V X 0 0 (wM cy ma r e g bf hy sv bu le pa) [some (.ref (ma 0)), some (.int x), none] [.int (nI pl)] 5
    refine r_istore_n (L' := [some (.ref (ma 0)), some (.int x), some (.int (nI pl))]) (pc' := 6) hX dX6_squeak_5 (nlt hnL (by decide)) rfl rfl rfl ?_
    refine r_iload_n (pc' := 7) hX dX6_squeak_6 rfl rfl ?_
    refine r_iconst (pc' := 8) (v := (-1)) hX dX6_squeak_7 rfl rfl ?_
    refine r_icmp_ne_I (tgt := 19) (pc' := 11) hX dX6_squeak_8 (by decide) rfl (nI_I (by omega)) (by decide : (-1 : Int32).toInt = -1) (fun c8 => ?_) (fun c8 => ?_)
    · have hsp : (v (13 + pl) 1 : Int) ≤ x.toInt ∧ x.toInt < (v (13 + pl) 1 : Int) + (v (13 + pl) 2 : Int) := by rw [hpl]; exact lst_spec (n := v 0 4) (by rw [hpl] at hs; exact hs)
      obtain ⟨j, hj, ej⟩ := nat_of (x := x) (n := 2000000) ⟨by omega, by omega⟩
      have etn : tn x = j := by rw [ej]; exact tn_nI (by omega)
      have eti : x.toInt = (j : Int) := by rw [ej]; exact nI_I (by omega)
      rw [show (some (Value.int x) : Option Value) = some (Value.int (nI j)) by rw [ej]]
      have q9 := bq (j - v (13 + pl) 1) (by omega)
      refine r_aload_n (pc' := 20) hX dX6_squeak_19 rfl rfl ?_
      refine r_aload_n (pc' := 21) hX dX6_squeak_20 rfl rfl ?_
      refine r_iload_n (pc' := 22) hX dX6_squeak_21 rfl rfl ?_
      refine r_iload_n (pc' := 23) hX dX6_squeak_22 rfl rfl ?_
      refine r_aload_n (pc' := 24) hX dX6_squeak_23 rfl rfl ?_
      refine r_get (pc' := 27) (v := .ref (ma 1)) hX dX6_squeak_24 f_X6_7 0 rfl rfl rfl ?_
      refine r_bipush (pc' := 29) (v := nI 71) hX dX6_squeak_27 rfl rfl ?_
      refine r_iload_n (pc' := 30) hX dX6_squeak_29 rfl rfl ?_
      refine r_iadd_N (pc' := 31) hX dX6_squeak_30  rfl ?_
      refine r_iald_N (pc' := 32) hX dX6_squeak_31 (by rw [hcy]) 1 rfl (by omega) (by decide) rfl ?_
      change V X 0 0 (wM cy ma r e g bf hy sv bu le pa) [some (.ref (ma 0)), some (.int (nI j)), some (.int (nI pl))] [.int (nI (g (71 + pl))), .int (nI j), .int (nI pl), .ref (ma 0), .ref (ma 0)] 32
      rw [(hR.fir (by omega))]
      refine r_isub_N (pc' := 33) hX dX6_squeak_32 (by omega) rfl ?_
      refine V_call0 (k' := 0) (n' := 0) (pc' := 36) hX (r_runV (As := [.int (nI pl), .int (nI (j - (v (13 + pl) 1)))]) hX dX6_squeak_33 k_X6_57 (fun l9 hl9 => cM_squeakAt hv0 hR (by omega) (by omega)) hG ⟨8, _, TX6, 16, List.mem_cons_self, rfl⟩ rfl rfl (Nat.le_of_ble_eq_true rfl) (by decide) (by decide) (by decide) (by decide)) rfl rfl rfl (fun w9 u9 hp9 => ?_)
      obtain ⟨rfl, rfl⟩ := hp9
      change V X 0 0 (wM cy ma r e g bf hy sv bu le pa) [some (.ref (ma 0)), some (.int (nI j)), some (.int (nI pl))] [.int (nI (v (21 + pl) (j - (v (13 + pl) 1)))), .ref (ma 0)] 36
      refine V_call0 (k' := 0) (n' := 0) (pc' := 39) hX (r_runV (As := [.int (nI (v (21 + pl) (j - (v (13 + pl) 1))))]) hX dX6_squeak_36 k_X6_70 (fun l9 hl9 => cM_done) hG ⟨8, _, TX6, 16, List.mem_cons_self, rfl⟩ rfl rfl (Nat.le_of_ble_eq_true rfl) (by decide) (by decide) (by decide) (by decide)) rfl rfl rfl (fun w9 u9 hp9 => ?_)
      obtain ⟨rfl, rfl⟩ := hp9
      change V X 0 0 (wM cy ma (up1 r 4 0) e g bf hy sv bu le pa) [some (.ref (ma 0)), some (.int (nI j)), some (.int (nI pl))] [.int (nI (v (21 + pl) (j - (v (13 + pl) 1))))] 39
      have e9 : qSqk v x = nI (v (21 + pl) (j - v (13 + pl) 1)) := by unfold qSqk; rw [← hpl, if_pos hs, etn]
      exact r_ireturn hX hE dX6_squeak_39 rfl (MW_good e9 (by omega)) (by decide) (by decide)
    · exact absurd c8 (by omega)
  · rw [if_neg hs]
    change V X 0 0 (wM cy ma r e g bf hy sv bu le pa) [some (.ref (ma 0)), some (.int x), none] [.int (-1)] 5
    refine r_istore_n (L' := [some (.ref (ma 0)), some (.int x), some (.int (-1))]) (pc' := 6) hX dX6_squeak_5 (nlt hnL (by decide)) rfl rfl rfl ?_
    refine r_iload_n (pc' := 7) hX dX6_squeak_6 rfl rfl ?_
    refine r_iconst (pc' := 8) (v := (-1)) hX dX6_squeak_7 rfl rfl ?_
    refine r_icmp_ne_I (tgt := 19) (pc' := 11) hX dX6_squeak_8 (by decide) rfl (by decide : (-1 : Int32).toInt = -1) (by decide : (-1 : Int32).toInt = -1) (fun c8 => ?_) (fun c8 => ?_)
    · exact absurd c8 (by omega)
    · refine r_aload_n (pc' := 12) hX dX6_squeak_11 rfl rfl ?_
      refine r_iconst (pc' := 13) (v := nI 1) hX dX6_squeak_12 rfl rfl ?_
      refine V_call0 (k' := 0) (n' := 0) (pc' := 16) hX (r_runV (As := [.int (nI 1)]) hX dX6_squeak_13 k_X6_67 (fun l9 hl9 => cM_fails (by omega)) hG ⟨8, _, TX6, 16, List.mem_cons_self, rfl⟩ rfl rfl (Nat.le_of_ble_eq_true rfl) (by decide) (by decide) (by decide) (by decide)) rfl rfl rfl (fun w9 u9 hp9 => ?_)
      obtain ⟨rfl, rfl⟩ := hp9
      change V X 0 0 (wM cy ma (up1 r 4 1) e g bf hy sv bu le pa) [some (.ref (ma 0)), some (.int x), some (.int (-1))] [.int (nI 0)] 16
      refine r_goto (tgt := 39) hX dX6_squeak_16 (by decide) ?_
      have e9 : qSqk v x = -5 := by unfold qSqk; rw [if_neg hs]
      exact r_ireturn hX hE dX6_squeak_39 rfl (MW_bad e9 rfl rfl) (by decide) (by decide)

set_option maxRecDepth 20000 in
set_option maxHeartbeats 1000000 in
theorem cMw_squeak {l : Launch} {D : va_G} {cy : Nat → ClassId} {sa : Nat → Nat} {ma : Nat → Nat} {S : AS} {t : Nat} {ws : va_W} {v : SV} (hvS : v = S.1) (h : MS cy ma S t ws) (hv : Wf v) {x : Int32}  : MG l yX6_squeak cX6_squeak 3 (some .int) 2 0 0 (D, cy, sa) [.ref (ma 0), .int x] (ws) (fun w u => w = some (.int (mvl (qSqk v x))) ∧ MS cy ma S (kd 1 1 1 1 1 (qSqk v x)) u) := by
  obtain ⟨r, e, g, bf, hy, sv, bu, le, pa, rfl, hM⟩ := h
  have hM0 := hM
  obtain ⟨h4, hR, h0, h8, hH, hS, hT, hO, hE⟩ := hM
  rw [← hvS] at hR
  have hv0 := hv
  obtain ⟨wa, wm, wb, ws, wt, wc, wB, wR, wL, wK, wP⟩ := hv
  refine MG_by (own := RX6) (L := [some (.ref (ma 0)), some (.int x), none]) (by decide +kernel) rfl rfl (Nat.le_of_ble_eq_true rfl) 1 rfl (fun X hX hE hnL hG hcy hnm => ?_)
  refine r_aload_n (pc' := 1) hX dX6_squeak_0 rfl rfl ?_
  refine r_iload_n (pc' := 2) hX dX6_squeak_1 rfl rfl ?_
  refine V_call0 (k' := 0) (n' := 0) (pc' := 5) hX (r_runV (As := [.int x]) hX dX6_squeak_2 k_X6_138 (fun l9 hl9 => cM_placeWith hv0 hR) hG ⟨8, _, TX6, 16, List.mem_cons_self, rfl⟩ rfl rfl (Nat.le_of_ble_eq_true rfl) (by decide) (by decide) (by decide) (by decide)) rfl rfl rfl (fun w9 u9 hp9 => ?_)
  obtain ⟨rfl, rfl⟩ := hp9
  by_cases hs : plb v x.toInt < v 0 4
  · rw [if_pos hs]
    obtain ⟨pl, hpl⟩ : ∃ z, z = plb v x.toInt := ⟨_, rfl⟩
    rw [← hpl] at hs ⊢
    obtain ⟨bz, ba, bf9, b0, b1, bq⟩ := wB pl hs
    change V X 0 0 (wM cy ma r e g bf hy sv bu le pa) [some (.ref (ma 0)), some (.int x), none] [.int (nI pl)] 5
    refine r_istore_n (L' := [some (.ref (ma 0)), some (.int x), some (.int (nI pl))]) (pc' := 6) hX dX6_squeak_5 (nlt hnL (by decide)) rfl rfl rfl ?_
    refine r_iload_n (pc' := 7) hX dX6_squeak_6 rfl rfl ?_
    refine r_iconst (pc' := 8) (v := (-1)) hX dX6_squeak_7 rfl rfl ?_
    refine r_icmp_ne_I (tgt := 19) (pc' := 11) hX dX6_squeak_8 (by decide) rfl (nI_I (by omega)) (by decide : (-1 : Int32).toInt = -1) (fun c8 => ?_) (fun c8 => ?_)
    · have hsp : (v (13 + pl) 1 : Int) ≤ x.toInt ∧ x.toInt < (v (13 + pl) 1 : Int) + (v (13 + pl) 2 : Int) := by rw [hpl]; exact lst_spec (n := v 0 4) (by rw [hpl] at hs; exact hs)
      obtain ⟨j, hj, ej⟩ := nat_of (x := x) (n := 2000000) ⟨by omega, by omega⟩
      have etn : tn x = j := by rw [ej]; exact tn_nI (by omega)
      have eti : x.toInt = (j : Int) := by rw [ej]; exact nI_I (by omega)
      rw [show (some (Value.int x) : Option Value) = some (Value.int (nI j)) by rw [ej]]
      have q9 := bq (j - v (13 + pl) 1) (by omega)
      refine r_aload_n (pc' := 20) hX dX6_squeak_19 rfl rfl ?_
      refine r_aload_n (pc' := 21) hX dX6_squeak_20 rfl rfl ?_
      refine r_iload_n (pc' := 22) hX dX6_squeak_21 rfl rfl ?_
      refine r_iload_n (pc' := 23) hX dX6_squeak_22 rfl rfl ?_
      refine r_aload_n (pc' := 24) hX dX6_squeak_23 rfl rfl ?_
      refine r_get (pc' := 27) (v := .ref (ma 1)) hX dX6_squeak_24 f_X6_7 0 rfl rfl rfl ?_
      refine r_bipush (pc' := 29) (v := nI 71) hX dX6_squeak_27 rfl rfl ?_
      refine r_iload_n (pc' := 30) hX dX6_squeak_29 rfl rfl ?_
      refine r_iadd_N (pc' := 31) hX dX6_squeak_30  rfl ?_
      refine r_iald_N (pc' := 32) hX dX6_squeak_31 (by rw [hcy]) 1 rfl (by omega) (by decide) rfl ?_
      change V X 0 0 (wM cy ma r e g bf hy sv bu le pa) [some (.ref (ma 0)), some (.int (nI j)), some (.int (nI pl))] [.int (nI (g (71 + pl))), .int (nI j), .int (nI pl), .ref (ma 0), .ref (ma 0)] 32
      rw [(hR.fir (by omega))]
      refine r_isub_N (pc' := 33) hX dX6_squeak_32 (by omega) rfl ?_
      refine V_call0 (k' := 0) (n' := 0) (pc' := 36) hX (r_runV (As := [.int (nI pl), .int (nI (j - (v (13 + pl) 1)))]) hX dX6_squeak_33 k_X6_57 (fun l9 hl9 => cM_squeakAt hv0 hR (by omega) (by omega)) hG ⟨8, _, TX6, 16, List.mem_cons_self, rfl⟩ rfl rfl (Nat.le_of_ble_eq_true rfl) (by decide) (by decide) (by decide) (by decide)) rfl rfl rfl (fun w9 u9 hp9 => ?_)
      obtain ⟨rfl, rfl⟩ := hp9
      change V X 0 0 (wM cy ma r e g bf hy sv bu le pa) [some (.ref (ma 0)), some (.int (nI j)), some (.int (nI pl))] [.int (nI (v (21 + pl) (j - (v (13 + pl) 1)))), .ref (ma 0)] 36
      refine V_call0 (k' := 0) (n' := 0) (pc' := 39) hX (r_runV (As := [.int (nI (v (21 + pl) (j - (v (13 + pl) 1))))]) hX dX6_squeak_36 k_X6_70 (fun l9 hl9 => cM_done) hG ⟨8, _, TX6, 16, List.mem_cons_self, rfl⟩ rfl rfl (Nat.le_of_ble_eq_true rfl) (by decide) (by decide) (by decide) (by decide)) rfl rfl rfl (fun w9 u9 hp9 => ?_)
      obtain ⟨rfl, rfl⟩ := hp9
      change V X 0 0 (wM cy ma (up1 r 4 0) e g bf hy sv bu le pa) [some (.ref (ma 0)), some (.int (nI j)), some (.int (nI pl))] [.int (nI (v (21 + pl) (j - (v (13 + pl) 1))))] 39
      have e9 : qSqk v x = nI (v (21 + pl) (j - v (13 + pl) 1)) := by unfold qSqk; rw [← hpl, if_pos hs, etn]
      exact r_ireturn hX hE dX6_squeak_39 rfl (MQ_good hM0 e9 (by omega)) (by decide) (by decide)
    · exact absurd c8 (by omega)
  · rw [if_neg hs]
    change V X 0 0 (wM cy ma r e g bf hy sv bu le pa) [some (.ref (ma 0)), some (.int x), none] [.int (-1)] 5
    refine r_istore_n (L' := [some (.ref (ma 0)), some (.int x), some (.int (-1))]) (pc' := 6) hX dX6_squeak_5 (nlt hnL (by decide)) rfl rfl rfl ?_
    refine r_iload_n (pc' := 7) hX dX6_squeak_6 rfl rfl ?_
    refine r_iconst (pc' := 8) (v := (-1)) hX dX6_squeak_7 rfl rfl ?_
    refine r_icmp_ne_I (tgt := 19) (pc' := 11) hX dX6_squeak_8 (by decide) rfl (by decide : (-1 : Int32).toInt = -1) (by decide : (-1 : Int32).toInt = -1) (fun c8 => ?_) (fun c8 => ?_)
    · exact absurd c8 (by omega)
    · refine r_aload_n (pc' := 12) hX dX6_squeak_11 rfl rfl ?_
      refine r_iconst (pc' := 13) (v := nI 1) hX dX6_squeak_12 rfl rfl ?_
      refine V_call0 (k' := 0) (n' := 0) (pc' := 16) hX (r_runV (As := [.int (nI 1)]) hX dX6_squeak_13 k_X6_67 (fun l9 hl9 => cM_fails (by omega)) hG ⟨8, _, TX6, 16, List.mem_cons_self, rfl⟩ rfl rfl (Nat.le_of_ble_eq_true rfl) (by decide) (by decide) (by decide) (by decide)) rfl rfl rfl (fun w9 u9 hp9 => ?_)
      obtain ⟨rfl, rfl⟩ := hp9
      change V X 0 0 (wM cy ma (up1 r 4 1) e g bf hy sv bu le pa) [some (.ref (ma 0)), some (.int x), some (.int (-1))] [.int (nI 0)] 16
      refine r_goto (tgt := 39) hX dX6_squeak_16 (by decide) ?_
      have e9 : qSqk v x = -5 := by unfold qSqk; rw [if_neg hs]
      exact r_ireturn hX hE dX6_squeak_39 rfl (MQ_bad hM0 e9 rfl rfl) (by decide) (by decide)

set_option maxRecDepth 20000 in
set_option maxHeartbeats 1000000 in
theorem cMw_isGood {l : Launch} {D : va_G} {cy : Nat → ClassId} {sa : Nat → Nat} {ma : Nat → Nat} {S : AS} {t : Nat} {ws : va_W} {v : SV} (hvS : v = S.1) (h : MS cy ma S t ws) (hv : Wf v) {x : Int32} : MG l yX6_isGood cX6_isGood 3 (some .boolean) 3 0 0 (D, cy, sa) [.ref (ma 0), .int x] (ws) (fun w u => w = some (.int (bI (0 ≤ (qSqk v x).toInt ∧ (qSqk v x).toInt ≤ (v 0 2 : Int)))) ∧ MS cy ma S (kd 1 1 1 1 1 (qSqk v x)) u) := by
  obtain ⟨r, e, g, bf, hy, sv, bu, le, pa, rfl, hM⟩ := h
  have hM0 := hM
  obtain ⟨h4, hR, h0, h8, hH, hS, hT, hO, hE⟩ := hM
  rw [← hvS] at hR
  have hv0 := hv
  obtain ⟨wa, wm, wb, ws, wt, wc, wB, wR, wL, wK, wP⟩ := hv
  refine MG_by (own := RX6) (L := [some (.ref (ma 0)), some (.int x), none]) (by decide +kernel) rfl rfl (Nat.le_of_ble_eq_true rfl) 1 rfl (fun X hX hE hnL hG hcy hnm => ?_)
  refine r_aload_n (pc' := 1) hX dX6_isGood_0 rfl rfl ?_
  refine r_iload_n (pc' := 2) hX dX6_isGood_1 rfl rfl ?_
  refine V_call0 (k' := 0) (n' := 0) (pc' := 5) hX (r_runV (As := [.int x]) hX dX6_isGood_2 k_X6_141 (fun l9 hl9 => cM_squeak hv0 hR) hG ⟨8, _, TX6, 16, List.mem_cons_self, rfl⟩ rfl rfl (Nat.le_of_ble_eq_true rfl) (by decide) (by decide) (by decide) (by decide)) rfl rfl rfl (fun w9 u9 hp9 => ?_)
  obtain ⟨rfl, rfl⟩ := hp9
  change V X 0 0 (wM cy ma (up1 r 4 (kd 1 1 1 1 1 (qSqk v x))) e g bf hy sv bu le pa) [some (.ref (ma 0)), some (.int x), none] [.int (mvl (qSqk v x))] 5
  refine r_istore_n (L' := [some (.ref (ma 0)), some (.int x), some (.int (mvl (qSqk v x)))]) (pc' := 6) hX dX6_isGood_5 (nlt hnL (by decide)) rfl rfl rfl ?_
  have hk2 := qSqk_lo hv0 x
  have hk3 : kd 1 1 1 1 1 (qSqk v x) < 100 := kd_lt (by decide)
  have hk1 : kd 1 1 1 1 1 (qSqk v x) = 0 ↔ 0 ≤ (qSqk v x).toInt := (kd1_iff (qSqk v x)).trans ⟨fun q => by omega, fun q => Or.inl q⟩
  refine r_aload_n (pc' := 7) hX dX6_isGood_6 rfl rfl ?_
  refine r_get (pc' := 10) (v := .int (nI (kd 1 1 1 1 1 (qSqk v x)))) hX dX6_isGood_7 f_X6_39 0 rfl rfl rfl ?_
  refine r_if_ne_N (tgt := 27) (pc' := 13) hX dX6_isGood_10 (by decide) rfl (by omega) (fun c10 => ?_) (fun c10 => ?_)
  · refine r_iconst (pc' := 28) (v := nI 0) hX dX6_isGood_27 rfl rfl ?_
    exact r_zreturn hX hE dX6_isGood_28 rfl rfl ⟨rB0 (by rintro ⟨q1, q2⟩; first | exact c10 (hk1.mpr q1) | (rw [mvl_pos q1] at c20; omega)), MS_thr hM0⟩ (by decide) (by decide)
  · refine r_iload_n (pc' := 14) hX dX6_isGood_13 rfl rfl ?_
    refine r_aload_n (pc' := 15) hX dX6_isGood_14 rfl rfl ?_
    refine r_get (pc' := 18) (v := .ref (ma 1)) hX dX6_isGood_15 f_X6_7 0 rfl rfl rfl ?_
    refine r_iconst (pc' := 19) (v := nI 3) hX dX6_isGood_18 rfl rfl ?_
    refine r_iald_N (pc' := 20) hX dX6_isGood_19 (by rw [hcy]) 1 rfl (by omega) (by decide) rfl ?_
    change V X 0 0 (wM cy ma (up1 r 4 (kd 1 1 1 1 1 (qSqk v x))) e g bf hy sv bu le pa) [some (.ref (ma 0)), some (.int x), some (.int (mvl (qSqk v x)))] [.int (nI (g 3)), .int (mvl (qSqk v x))] 20
    rw [hR.tol]
    refine r_icmp_gt_I (tgt := 27) (pc' := 23) hX dX6_isGood_20 (by decide) rfl rfl (nI_I (by omega)) (fun c20 => ?_) (fun c20 => ?_)
    · refine r_iconst (pc' := 28) (v := nI 0) hX dX6_isGood_27 rfl rfl ?_
      exact r_zreturn hX hE dX6_isGood_28 rfl rfl ⟨rB0 (by rintro ⟨q1, q2⟩; first | exact c10 (hk1.mpr q1) | (rw [mvl_pos q1] at c20; omega)), MS_thr hM0⟩ (by decide) (by decide)
    · refine r_iconst (pc' := 24) (v := nI 1) hX dX6_isGood_23 rfl rfl ?_
      refine r_goto (tgt := 28) hX dX6_isGood_24 (by decide) ?_
      exact r_zreturn hX hE dX6_isGood_28 rfl rfl ⟨rB1 ⟨hk1.mp c10, by rw [mvl_pos (hk1.mp c10)] at c20; omega⟩, MS_thr hM0⟩ (by decide) (by decide)

set_option maxRecDepth 20000 in
set_option maxHeartbeats 1000000 in
theorem cMw_batchOf {l : Launch} {D : va_G} {cy : Nat → ClassId} {sa : Nat → Nat} {ma : Nat → Nat} {S : AS} {t : Nat} {ws : va_W} {v : SV} (hvS : v = S.1) (h : MS cy ma S t ws) (hv : Wf v) {x : Int32}  : MG l yX6_batchOf cX6_batchOf 3 (some .int) 2 0 0 (D, cy, sa) [.ref (ma 0), .int x] (ws) (fun w u => w = some (.int (mvl (qBof v x))) ∧ MS cy ma S (kd 1 1 1 1 1 (qBof v x)) u) := by
  obtain ⟨r, e, g, bf, hy, sv, bu, le, pa, rfl, hM⟩ := h
  have hM0 := hM
  obtain ⟨h4, hR, h0, h8, hH, hS, hT, hO, hE⟩ := hM
  rw [← hvS] at hR
  have hv0 := hv
  obtain ⟨wa, wm, wb, ws, wt, wc, wB, wR, wL, wK, wP⟩ := hv
  refine MG_by (own := RX6) (L := [some (.ref (ma 0)), some (.int x), none]) (by decide +kernel) rfl rfl (Nat.le_of_ble_eq_true rfl) 1 rfl (fun X hX hE hnL hG hcy hnm => ?_)
  refine r_aload_n (pc' := 1) hX dX6_batchOf_0 rfl rfl ?_
  refine r_iload_n (pc' := 2) hX dX6_batchOf_1 rfl rfl ?_
  refine V_call0 (k' := 0) (n' := 0) (pc' := 5) hX (r_runV (As := [.int x]) hX dX6_batchOf_2 k_X6_138 (fun l9 hl9 => cM_placeWith hv0 hR) hG ⟨8, _, TX6, 16, List.mem_cons_self, rfl⟩ rfl rfl (Nat.le_of_ble_eq_true rfl) (by decide) (by decide) (by decide) (by decide)) rfl rfl rfl (fun w9 u9 hp9 => ?_)
  obtain ⟨rfl, rfl⟩ := hp9
  by_cases hs : plb v x.toInt < v 0 4
  · rw [if_pos hs]
    obtain ⟨pl, hpl⟩ : ∃ z, z = plb v x.toInt := ⟨_, rfl⟩
    rw [← hpl] at hs ⊢
    obtain ⟨bz, ba, bf9, b0, b1, bq⟩ := wB pl hs
    change V X 0 0 (wM cy ma r e g bf hy sv bu le pa) [some (.ref (ma 0)), some (.int x), none] [.int (nI pl)] 5
    refine r_istore_n (L' := [some (.ref (ma 0)), some (.int x), some (.int (nI pl))]) (pc' := 6) hX dX6_batchOf_5 (nlt hnL (by decide)) rfl rfl rfl ?_
    refine r_iload_n (pc' := 7) hX dX6_batchOf_6 rfl rfl ?_
    refine r_iconst (pc' := 8) (v := (-1)) hX dX6_batchOf_7 rfl rfl ?_
    refine r_icmp_ne_I (tgt := 19) (pc' := 11) hX dX6_batchOf_8 (by decide) rfl (nI_I (by omega)) (by decide : (-1 : Int32).toInt = -1) (fun c8 => ?_) (fun c8 => ?_)
    · refine r_aload_n (pc' := 20) hX dX6_batchOf_19 rfl rfl ?_
      refine r_aload_n (pc' := 21) hX dX6_batchOf_20 rfl rfl ?_
      refine r_get (pc' := 24) (v := .ref (ma 1)) hX dX6_batchOf_21 f_X6_7 0 rfl rfl rfl ?_
      refine r_bipush (pc' := 26) (v := nI 47) hX dX6_batchOf_24 rfl rfl ?_
      refine r_iload_n (pc' := 27) hX dX6_batchOf_26 rfl rfl ?_
      refine r_iadd_N (pc' := 28) hX dX6_batchOf_27  rfl ?_
      refine r_iald_N (pc' := 29) hX dX6_batchOf_28 (by rw [hcy]) 1 rfl (by omega) (by decide) rfl ?_
      change V X 0 0 (wM cy ma r e g bf hy sv bu le pa) [some (.ref (ma 0)), some (.int x), some (.int (nI pl))] [.int (nI (g (47 + pl))), .ref (ma 0)] 29
      rw [(hR.num (by omega))]
      refine V_call0 (k' := 0) (n' := 0) (pc' := 32) hX (r_runV (As := [.int (nI (v (13 + pl) 0))]) hX dX6_batchOf_29 k_X6_70 (fun l9 hl9 => cM_done) hG ⟨8, _, TX6, 16, List.mem_cons_self, rfl⟩ rfl rfl (Nat.le_of_ble_eq_true rfl) (by decide) (by decide) (by decide) (by decide)) rfl rfl rfl (fun w9 u9 hp9 => ?_)
      obtain ⟨rfl, rfl⟩ := hp9
      change V X 0 0 (wM cy ma (up1 r 4 0) e g bf hy sv bu le pa) [some (.ref (ma 0)), some (.int x), some (.int (nI pl))] [.int (nI (v (13 + pl) 0))] 32
      have e9 : qBof v x = nI (v (13 + pl) 0) := by unfold qBof; rw [← hpl, if_pos hs]
      exact r_ireturn hX hE dX6_batchOf_32 rfl (MQ_good hM0 e9 (by omega)) (by decide) (by decide)
    · exact absurd c8 (by omega)
  · rw [if_neg hs]
    change V X 0 0 (wM cy ma r e g bf hy sv bu le pa) [some (.ref (ma 0)), some (.int x), none] [.int (-1)] 5
    refine r_istore_n (L' := [some (.ref (ma 0)), some (.int x), some (.int (-1))]) (pc' := 6) hX dX6_batchOf_5 (nlt hnL (by decide)) rfl rfl rfl ?_
    refine r_iload_n (pc' := 7) hX dX6_batchOf_6 rfl rfl ?_
    refine r_iconst (pc' := 8) (v := (-1)) hX dX6_batchOf_7 rfl rfl ?_
    refine r_icmp_ne_I (tgt := 19) (pc' := 11) hX dX6_batchOf_8 (by decide) rfl (by decide : (-1 : Int32).toInt = -1) (by decide : (-1 : Int32).toInt = -1) (fun c8 => ?_) (fun c8 => ?_)
    · exact absurd c8 (by omega)
    · refine r_aload_n (pc' := 12) hX dX6_batchOf_11 rfl rfl ?_
      refine r_iconst (pc' := 13) (v := nI 1) hX dX6_batchOf_12 rfl rfl ?_
      refine V_call0 (k' := 0) (n' := 0) (pc' := 16) hX (r_runV (As := [.int (nI 1)]) hX dX6_batchOf_13 k_X6_67 (fun l9 hl9 => cM_fails (by omega)) hG ⟨8, _, TX6, 16, List.mem_cons_self, rfl⟩ rfl rfl (Nat.le_of_ble_eq_true rfl) (by decide) (by decide) (by decide) (by decide)) rfl rfl rfl (fun w9 u9 hp9 => ?_)
      obtain ⟨rfl, rfl⟩ := hp9
      change V X 0 0 (wM cy ma (up1 r 4 1) e g bf hy sv bu le pa) [some (.ref (ma 0)), some (.int x), some (.int (-1))] [.int (nI 0)] 16
      refine r_goto (tgt := 32) hX dX6_batchOf_16 (by decide) ?_
      have e9 : qBof v x = -5 := by unfold qBof; rw [if_neg hs]
      exact r_ireturn hX hE dX6_batchOf_32 rfl (MQ_bad hM0 e9 rfl rfl) (by decide) (by decide)

set_option maxRecDepth 20000 in
set_option maxHeartbeats 1000000 in
theorem cMw_goodBows {l : Launch} {D : va_G} {cy : Nat → ClassId} {sa : Nat → Nat} {ma : Nat → Nat} {S : AS} {t : Nat} {ws : va_W} {v : SV} (hvS : v = S.1) (h : MS cy ma S t ws) (hv : Wf v) {x : Int32}  : MG l yX6_goodBows cX6_goodBows 5 (some .int) 1 0 0 (D, cy, sa) [.ref (ma 0), .int x] (ws) (fun w u => w = some (.int (mvl (qBat bGood v x))) ∧ MS cy ma S (kd 1 1 1 1 1 (qBat bGood v x)) u) := by
  obtain ⟨r, e, g, bf, hy, sv, bu, le, pa, rfl, hM⟩ := h
  have hM0 := hM
  obtain ⟨h4, hR, h0, h8, hH, hS, hT, hO, hE⟩ := hM
  rw [← hvS] at hR
  have hv0 := hv
  obtain ⟨wa, wm, wb, ws, wt, wc, wB, wR, wL, wK, wP⟩ := hv
  refine MG_by (own := RX6) (L := [some (.ref (ma 0)), some (.int x), none, none, none]) (by decide +kernel) rfl rfl (Nat.le_of_ble_eq_true rfl) 3 rfl (fun X hX hE hnL hG hcy hnm => ?_)
  refine r_aload_n (pc' := 1) hX dX6_goodBows_0 rfl rfl ?_
  refine r_iload_n (pc' := 2) hX dX6_goodBows_1 rfl rfl ?_
  refine V_call0 (k' := 0) (n' := 0) (pc' := 5) hX (r_runV (As := [.int x]) hX dX6_goodBows_2 k_X6_113 (fun l9 hl9 => cM_placeOf hv0 hR) hG ⟨8, _, TX6, 16, List.mem_cons_self, rfl⟩ rfl rfl (Nat.le_of_ble_eq_true rfl) (by decide) (by decide) (by decide) (by decide)) rfl rfl rfl (fun w9 u9 hp9 => ?_)
  obtain ⟨rfl, rfl⟩ := hp9
  by_cases hs : plc v x.toInt < v 0 4
  · rw [if_pos hs]
    obtain ⟨pl, hpl⟩ : ∃ z, z = plc v x.toInt := ⟨_, rfl⟩
    rw [← hpl] at hs ⊢
    obtain ⟨bz, ba, bf9, b0, b1, bq⟩ := wB pl hs
    change V X 0 0 (wM cy ma r e g bf hy sv bu le pa) [some (.ref (ma 0)), some (.int x), none, none, none] [.int (nI pl)] 5
    refine r_istore_n (L' := [some (.ref (ma 0)), some (.int x), some (.int (nI pl)), none, none]) (pc' := 6) hX dX6_goodBows_5 (nlt hnL (by decide)) rfl rfl rfl ?_
    refine r_iload_n (pc' := 7) hX dX6_goodBows_6 rfl rfl ?_
    refine r_iconst (pc' := 8) (v := (-1)) hX dX6_goodBows_7 rfl rfl ?_
    refine r_icmp_ne_I (tgt := 17) (pc' := 11) hX dX6_goodBows_8 (by decide) rfl (nI_I (by omega)) (by decide : (-1 : Int32).toInt = -1) (fun c8 => ?_) (fun c8 => ?_)
    · refine r_iconst (pc' := 18) (v := nI 0) hX dX6_goodBows_17 rfl rfl ?_
      refine r_istore_n (L' := [some (.ref (ma 0)), some (.int x), some (.int (nI pl)), some (.int (nI 0)), none]) (pc' := 19) hX dX6_goodBows_18 (nlt hnL (by decide)) rfl rfl rfl ?_
      refine r_iconst (pc' := 20) (v := nI 0) hX dX6_goodBows_19 rfl rfl ?_
      refine r_istore (L' := [some (.ref (ma 0)), some (.int x), some (.int (nI pl)), some (.int (nI 0)), some (.int (nI 0))]) (pc' := 22) hX dX6_goodBows_20 (nlt hnL (by decide)) rfl rfl rfl ?_
      have loop22 : ∀ (n9 : Nat) (k : Nat) (c : Nat), v (13 + pl) 2 - k < n9 → (k ≤ v (13 + pl) 2) → (c = cG (v (21 + pl)) 1 (v 0 2) k) → V X 0 0 (wM cy ma r e g bf hy sv bu le pa) [some (.ref (ma 0)), some (.int x), some (.int (nI pl)), some (.int (nI c)), some (.int (nI k))] [] 22 := by
        intro n9
        induction n9 with
        | zero => intro k c hm; exact absurd hm (Nat.not_lt_zero _)
        | succ n9 ih22 =>
          intro k c hm hk hc
          refine r_iload (pc' := 24) hX dX6_goodBows_22 rfl rfl ?_
          refine r_aload_n (pc' := 25) hX dX6_goodBows_24 rfl rfl ?_
          refine r_get (pc' := 28) (v := .ref (ma 1)) hX dX6_goodBows_25 f_X6_7 0 rfl rfl rfl ?_
          refine r_bipush (pc' := 30) (v := nI 63) hX dX6_goodBows_28 rfl rfl ?_
          refine r_iload_n (pc' := 31) hX dX6_goodBows_30 rfl rfl ?_
          refine r_iadd_N (pc' := 32) hX dX6_goodBows_31  rfl ?_
          refine r_iald_N (pc' := 33) hX dX6_goodBows_32 (by rw [hcy]) 1 rfl (by omega) (by decide) rfl ?_
          change V X 0 0 (wM cy ma r e g bf hy sv bu le pa) [some (.ref (ma 0)), some (.int x), some (.int (nI pl)), some (.int (nI c)), some (.int (nI k))] [.int (nI (g (63 + pl))), .int (nI k)] 33
          rw [(hR.man (by omega))]
          refine r_icmp_ge_N (tgt := 66) (pc' := 36) hX dX6_goodBows_33 (by decide) rfl (by omega) (by omega) (fun c33 => ?_) (fun c33 => ?_)
          · have hc9 := cG_le (sq := v (21 + pl)) (s := 1) (t := v 0 2) k
            refine r_aload_n (pc' := 67) hX dX6_goodBows_66 rfl rfl ?_
            refine r_iload_n (pc' := 68) hX dX6_goodBows_67 rfl rfl ?_
            refine V_call0 (k' := 0) (n' := 0) (pc' := 71) hX (r_runV (As := [.int (nI c)]) hX dX6_goodBows_68 k_X6_70 (fun l9 hl9 => cM_done) hG ⟨8, _, TX6, 16, List.mem_cons_self, rfl⟩ rfl rfl (Nat.le_of_ble_eq_true rfl) (by decide) (by decide) (by decide) (by decide)) rfl rfl rfl (fun w9 u9 hp9 => ?_)
            obtain ⟨rfl, rfl⟩ := hp9
            change V X 0 0 (wM cy ma (up1 r 4 0) e g bf hy sv bu le pa) [some (.ref (ma 0)), some (.int x), some (.int (nI pl)), some (.int (nI c)), some (.int (nI k))] [.int (nI c)] 71
            have e9 : qBat bGood v x = nI c := by unfold qBat bGood; rw [← hpl, if_pos hs, hc, show k = v (13 + pl) 2 by omega]
            exact r_ireturn hX hE dX6_goodBows_71 rfl (MQ_good hM0 e9 (by omega)) (by decide) (by decide)
          · have hqi := bq k c33
            refine r_iload_n (pc' := 37) hX dX6_goodBows_36 rfl rfl ?_
            refine r_aload_n (pc' := 38) hX dX6_goodBows_37 rfl rfl ?_
            refine r_iload_n (pc' := 39) hX dX6_goodBows_38 rfl rfl ?_
            refine r_iload (pc' := 41) hX dX6_goodBows_39 rfl rfl ?_
            refine V_call0 (k' := 0) (n' := 0) (pc' := 44) hX (r_runV (As := [.int (nI pl), .int (nI k)]) hX dX6_goodBows_41 k_X6_57 (fun l9 hl9 => cM_squeakAt hv0 hR (by omega) (by omega)) hG ⟨8, _, TX6, 16, List.mem_cons_self, rfl⟩ rfl rfl (Nat.le_of_ble_eq_true rfl) (by decide) (by decide) (by decide) (by decide)) rfl rfl rfl (fun w9 u9 hp9 => ?_)
            obtain ⟨rfl, rfl⟩ := hp9
            change V X 0 0 (wM cy ma r e g bf hy sv bu le pa) [some (.ref (ma 0)), some (.int x), some (.int (nI pl)), some (.int (nI c)), some (.int (nI k))] [.int (nI (v (21 + pl) k)), .int (nI c)] 44
            refine r_aload_n (pc' := 45) hX dX6_goodBows_44 rfl rfl ?_
            refine r_get (pc' := 48) (v := .ref (ma 1)) hX dX6_goodBows_45 f_X6_7 0 rfl rfl rfl ?_
            refine r_iconst (pc' := 49) (v := nI 3) hX dX6_goodBows_48 rfl rfl ?_
            refine r_iald_N (pc' := 50) hX dX6_goodBows_49 (by rw [hcy]) 1 rfl (by omega) (by decide) rfl ?_
            change V X 0 0 (wM cy ma r e g bf hy sv bu le pa) [some (.ref (ma 0)), some (.int x), some (.int (nI pl)), some (.int (nI c)), some (.int (nI k))] [.int (nI (g 3)), .int (nI (v (21 + pl) k)), .int (nI c)] 50
            rw [hR.tol]
            refine r_icmp_gt_N (tgt := 57) (pc' := 53) hX dX6_goodBows_50 (by decide) rfl (by omega) (by omega) (fun c50 => ?_) (fun c50 => ?_)
            · refine r_iconst (pc' := 58) (v := nI 0) hX dX6_goodBows_57 rfl rfl ?_
              refine r_iadd_N (pc' := 59) hX dX6_goodBows_58  rfl ?_
              refine r_istore_n (L' := [some (.ref (ma 0)), some (.int x), some (.int (nI pl)), some (.int (nI (c + 0))), some (.int (nI k))]) (pc' := 60) hX dX6_goodBows_59 (nlt hnL (by decide)) rfl rfl rfl ?_
              refine r_iinc_N (b := 1) (L' := [some (.ref (ma 0)), some (.int x), some (.int (nI pl)), some (.int (nI (c + 0))), some (.int (nI (k + 1)))]) (pc' := 63) hX dX6_goodBows_60 rfl (nlt hnL (by decide)) rfl rfl rfl ?_
              refine r_goto (tgt := 22) hX dX6_goodBows_63 (by decide) ?_
              exact ih22 (k + 1) (c + 0) (by omega) (by omega) (by rw [cG_succ, ← hc]; simp only [Nat.mod_one, true_and]; split <;> omega)
            · refine r_iconst (pc' := 54) (v := nI 1) hX dX6_goodBows_53 rfl rfl ?_
              refine r_goto (tgt := 58) hX dX6_goodBows_54 (by decide) ?_
              refine r_iadd_N (pc' := 59) hX dX6_goodBows_58  rfl ?_
              refine r_istore_n (L' := [some (.ref (ma 0)), some (.int x), some (.int (nI pl)), some (.int (nI (c + 1))), some (.int (nI k))]) (pc' := 60) hX dX6_goodBows_59 (nlt hnL (by decide)) rfl rfl rfl ?_
              refine r_iinc_N (b := 1) (L' := [some (.ref (ma 0)), some (.int x), some (.int (nI pl)), some (.int (nI (c + 1))), some (.int (nI (k + 1)))]) (pc' := 63) hX dX6_goodBows_60 rfl (nlt hnL (by decide)) rfl rfl rfl ?_
              refine r_goto (tgt := 22) hX dX6_goodBows_63 (by decide) ?_
              exact ih22 (k + 1) (c + 1) (by omega) (by omega) (by rw [cG_succ, ← hc]; simp only [Nat.mod_one, true_and]; split <;> omega)
      exact loop22 _ 0 0 (Nat.lt_succ_self _) (by omega) rfl
    · exact absurd c8 (by omega)
  · rw [if_neg hs]
    change V X 0 0 (wM cy ma r e g bf hy sv bu le pa) [some (.ref (ma 0)), some (.int x), none, none, none] [.int (-1)] 5
    refine r_istore_n (L' := [some (.ref (ma 0)), some (.int x), some (.int (-1)), none, none]) (pc' := 6) hX dX6_goodBows_5 (nlt hnL (by decide)) rfl rfl rfl ?_
    refine r_iload_n (pc' := 7) hX dX6_goodBows_6 rfl rfl ?_
    refine r_iconst (pc' := 8) (v := (-1)) hX dX6_goodBows_7 rfl rfl ?_
    refine r_icmp_ne_I (tgt := 17) (pc' := 11) hX dX6_goodBows_8 (by decide) rfl (by decide : (-1 : Int32).toInt = -1) (by decide : (-1 : Int32).toInt = -1) (fun c8 => ?_) (fun c8 => ?_)
    · exact absurd c8 (by omega)
    · refine r_aload_n (pc' := 12) hX dX6_goodBows_11 rfl rfl ?_
      refine r_iconst (pc' := 13) (v := nI 1) hX dX6_goodBows_12 rfl rfl ?_
      refine V_call0 (k' := 0) (n' := 0) (pc' := 16) hX (r_runV (As := [.int (nI 1)]) hX dX6_goodBows_13 k_X6_67 (fun l9 hl9 => cM_fails (by omega)) hG ⟨8, _, TX6, 16, List.mem_cons_self, rfl⟩ rfl rfl (Nat.le_of_ble_eq_true rfl) (by decide) (by decide) (by decide) (by decide)) rfl rfl rfl (fun w9 u9 hp9 => ?_)
      obtain ⟨rfl, rfl⟩ := hp9
      change V X 0 0 (wM cy ma (up1 r 4 1) e g bf hy sv bu le pa) [some (.ref (ma 0)), some (.int x), some (.int (-1)), none, none] [.int (nI 0)] 16
      have e9 : qBat bGood v x = -5 := by unfold qBat; rw [if_neg hs]
      exact r_ireturn hX hE dX6_goodBows_16 rfl (MQ_bad hM0 e9 rfl rfl) (by decide) (by decide)

set_option maxRecDepth 20000 in
set_option maxHeartbeats 1000000 in
theorem cMw_sampleSize {l : Launch} {D : va_G} {cy : Nat → ClassId} {sa : Nat → Nat} {ma : Nat → Nat} {S : AS} {t : Nat} {ws : va_W} {v : SV} (hvS : v = S.1) (h : MS cy ma S t ws) (hv : Wf v) {x : Int32}  : MG l yX6_sampleSize cX6_sampleSize 3 (some .int) 1 0 0 (D, cy, sa) [.ref (ma 0), .int x] (ws) (fun w u => w = some (.int (mvl (qBat bSam v x))) ∧ MS cy ma S (kd 1 1 1 1 1 (qBat bSam v x)) u) := by
  obtain ⟨r, e, g, bf, hy, sv, bu, le, pa, rfl, hM⟩ := h
  have hM0 := hM
  obtain ⟨h4, hR, h0, h8, hH, hS, hT, hO, hE⟩ := hM
  rw [← hvS] at hR
  have hv0 := hv
  obtain ⟨wa, wm, wb, ws, wt, wc, wB, wR, wL, wK, wP⟩ := hv
  refine MG_by (own := RX6) (L := [some (.ref (ma 0)), some (.int x), none]) (by decide +kernel) rfl rfl (Nat.le_of_ble_eq_true rfl) 1 rfl (fun X hX hE hnL hG hcy hnm => ?_)
  refine r_aload_n (pc' := 1) hX dX6_sampleSize_0 rfl rfl ?_
  refine r_iload_n (pc' := 2) hX dX6_sampleSize_1 rfl rfl ?_
  refine V_call0 (k' := 0) (n' := 0) (pc' := 5) hX (r_runV (As := [.int x]) hX dX6_sampleSize_2 k_X6_113 (fun l9 hl9 => cM_placeOf hv0 hR) hG ⟨8, _, TX6, 16, List.mem_cons_self, rfl⟩ rfl rfl (Nat.le_of_ble_eq_true rfl) (by decide) (by decide) (by decide) (by decide)) rfl rfl rfl (fun w9 u9 hp9 => ?_)
  obtain ⟨rfl, rfl⟩ := hp9
  by_cases hs : plc v x.toInt < v 0 4
  · rw [if_pos hs]
    obtain ⟨pl, hpl⟩ : ∃ z, z = plc v x.toInt := ⟨_, rfl⟩
    rw [← hpl] at hs ⊢
    obtain ⟨bz, ba, bf9, b0, b1, bq⟩ := wB pl hs
    change V X 0 0 (wM cy ma r e g bf hy sv bu le pa) [some (.ref (ma 0)), some (.int x), none] [.int (nI pl)] 5
    refine r_istore_n (L' := [some (.ref (ma 0)), some (.int x), some (.int (nI pl))]) (pc' := 6) hX dX6_sampleSize_5 (nlt hnL (by decide)) rfl rfl rfl ?_
    refine r_iload_n (pc' := 7) hX dX6_sampleSize_6 rfl rfl ?_
    refine r_iconst (pc' := 8) (v := (-1)) hX dX6_sampleSize_7 rfl rfl ?_
    refine r_icmp_ne_I (tgt := 19) (pc' := 11) hX dX6_sampleSize_8 (by decide) rfl (nI_I (by omega)) (by decide : (-1 : Int32).toInt = -1) (fun c8 => ?_) (fun c8 => ?_)
    · have hc9 := cG_le (sq := v (21 + pl)) (s := v 0 3) (t := 99) (v (13 + pl) 2)
      refine r_aload_n (pc' := 20) hX dX6_sampleSize_19 rfl rfl ?_
      refine r_aload_n (pc' := 21) hX dX6_sampleSize_20 rfl rfl ?_
      refine r_iload_n (pc' := 22) hX dX6_sampleSize_21 rfl rfl ?_
      refine V_call0 (k' := 0) (n' := 0) (pc' := 25) hX (r_runV (As := [.int (nI pl)]) hX dX6_sampleSize_22 k_X6_63 (fun l9 hl9 => cM_sampled hv0 hR (by omega)) hG ⟨8, _, TX6, 16, List.mem_cons_self, rfl⟩ rfl rfl (Nat.le_of_ble_eq_true rfl) (by decide) (by decide) (by decide) (by decide)) rfl rfl rfl (fun w9 u9 hp9 => ?_)
      obtain ⟨rfl, rfl⟩ := hp9
      change V X 0 0 (wM cy ma r e g bf hy sv bu le pa) [some (.ref (ma 0)), some (.int x), some (.int (nI pl))] [.int (nI (cG (v (21 + pl)) (v 0 3) 99 (v (13 + pl) 2))), .ref (ma 0)] 25
      refine V_call0 (k' := 0) (n' := 0) (pc' := 28) hX (r_runV (As := [.int (nI (cG (v (21 + pl)) (v 0 3) 99 (v (13 + pl) 2)))]) hX dX6_sampleSize_25 k_X6_70 (fun l9 hl9 => cM_done) hG ⟨8, _, TX6, 16, List.mem_cons_self, rfl⟩ rfl rfl (Nat.le_of_ble_eq_true rfl) (by decide) (by decide) (by decide) (by decide)) rfl rfl rfl (fun w9 u9 hp9 => ?_)
      obtain ⟨rfl, rfl⟩ := hp9
      change V X 0 0 (wM cy ma (up1 r 4 0) e g bf hy sv bu le pa) [some (.ref (ma 0)), some (.int x), some (.int (nI pl))] [.int (nI (cG (v (21 + pl)) (v 0 3) 99 (v (13 + pl) 2)))] 28
      have e9 : qBat bSam v x = nI (cG (v (21 + pl)) (v 0 3) 99 (v (13 + pl) 2)) := by unfold qBat bSam; rw [← hpl, if_pos hs]
      exact r_ireturn hX hE dX6_sampleSize_28 rfl (MQ_good hM0 e9 (by omega)) (by decide) (by decide)
    · exact absurd c8 (by omega)
  · rw [if_neg hs]
    change V X 0 0 (wM cy ma r e g bf hy sv bu le pa) [some (.ref (ma 0)), some (.int x), none] [.int (-1)] 5
    refine r_istore_n (L' := [some (.ref (ma 0)), some (.int x), some (.int (-1))]) (pc' := 6) hX dX6_sampleSize_5 (nlt hnL (by decide)) rfl rfl rfl ?_
    refine r_iload_n (pc' := 7) hX dX6_sampleSize_6 rfl rfl ?_
    refine r_iconst (pc' := 8) (v := (-1)) hX dX6_sampleSize_7 rfl rfl ?_
    refine r_icmp_ne_I (tgt := 19) (pc' := 11) hX dX6_sampleSize_8 (by decide) rfl (by decide : (-1 : Int32).toInt = -1) (by decide : (-1 : Int32).toInt = -1) (fun c8 => ?_) (fun c8 => ?_)
    · exact absurd c8 (by omega)
    · refine r_aload_n (pc' := 12) hX dX6_sampleSize_11 rfl rfl ?_
      refine r_iconst (pc' := 13) (v := nI 1) hX dX6_sampleSize_12 rfl rfl ?_
      refine V_call0 (k' := 0) (n' := 0) (pc' := 16) hX (r_runV (As := [.int (nI 1)]) hX dX6_sampleSize_13 k_X6_67 (fun l9 hl9 => cM_fails (by omega)) hG ⟨8, _, TX6, 16, List.mem_cons_self, rfl⟩ rfl rfl (Nat.le_of_ble_eq_true rfl) (by decide) (by decide) (by decide) (by decide)) rfl rfl rfl (fun w9 u9 hp9 => ?_)
      obtain ⟨rfl, rfl⟩ := hp9
      change V X 0 0 (wM cy ma (up1 r 4 1) e g bf hy sv bu le pa) [some (.ref (ma 0)), some (.int x), some (.int (-1))] [.int (nI 0)] 16
      refine r_goto (tgt := 28) hX dX6_sampleSize_16 (by decide) ?_
      have e9 : qBat bSam v x = -5 := by unfold qBat; rw [if_neg hs]
      exact r_ireturn hX hE dX6_sampleSize_28 rfl (MQ_bad hM0 e9 rfl rfl) (by decide) (by decide)

set_option maxRecDepth 20000 in
set_option maxHeartbeats 1000000 in
theorem cMw_wouldPass {l : Launch} {D : va_G} {cy : Nat → ClassId} {sa : Nat → Nat} {ma : Nat → Nat} {S : AS} {t : Nat} {ws : va_W} {v : SV} (hvS : v = S.1) (h : MS cy ma S t ws) (hv : Wf v) {x : Int32} : MG l yX6_wouldPass cX6_wouldPass 3 (some .boolean) 3 0 0 (D, cy, sa) [.ref (ma 0), .int x] (ws) (fun w u => w = some (.int (bI (plc v x.toInt < v 0 4 ∧ pas (v (21 + plc v x.toInt)) (v (13 + plc v x.toInt) 2) (v 0 3) (v 0 2)))) ∧ MS cy ma S (if plc v x.toInt < v 0 4 then 0 else 1) u) := by
  obtain ⟨r, e, g, bf, hy, sv, bu, le, pa, rfl, hM⟩ := h
  have hM0 := hM
  obtain ⟨h4, hR, h0, h8, hH, hS, hT, hO, hE⟩ := hM
  rw [← hvS] at hR
  have hv0 := hv
  obtain ⟨wa, wm, wb, ws, wt, wc, wB, wR, wL, wK, wP⟩ := hv
  refine MG_by (own := RX6) (L := [some (.ref (ma 0)), some (.int x), none]) (by decide +kernel) rfl rfl (Nat.le_of_ble_eq_true rfl) 1 rfl (fun X hX hE hnL hG hcy hnm => ?_)
  refine r_aload_n (pc' := 1) hX dX6_wouldPass_0 rfl rfl ?_
  refine r_iload_n (pc' := 2) hX dX6_wouldPass_1 rfl rfl ?_
  refine V_call0 (k' := 0) (n' := 0) (pc' := 5) hX (r_runV (As := [.int x]) hX dX6_wouldPass_2 k_X6_113 (fun l9 hl9 => cM_placeOf hv0 hR) hG ⟨8, _, TX6, 16, List.mem_cons_self, rfl⟩ rfl rfl (Nat.le_of_ble_eq_true rfl) (by decide) (by decide) (by decide) (by decide)) rfl rfl rfl (fun w9 u9 hp9 => ?_)
  obtain ⟨rfl, rfl⟩ := hp9
  by_cases hs : plc v x.toInt < v 0 4
  · rw [if_pos hs]
    obtain ⟨pl, hpl⟩ : ∃ z, z = plc v x.toInt := ⟨_, rfl⟩
    rw [← hpl] at hs ⊢
    obtain ⟨bz, ba, bf9, b0, b1, bq⟩ := wB pl hs
    change V X 0 0 (wM cy ma r e g bf hy sv bu le pa) [some (.ref (ma 0)), some (.int x), none] [.int (nI pl)] 5
    refine r_istore_n (L' := [some (.ref (ma 0)), some (.int x), some (.int (nI pl))]) (pc' := 6) hX dX6_wouldPass_5 (nlt hnL (by decide)) rfl rfl rfl ?_
    refine r_aload_n (pc' := 7) hX dX6_wouldPass_6 rfl rfl ?_
    refine r_iload_n (pc' := 8) hX dX6_wouldPass_7 rfl rfl ?_
    refine r_iconst (pc' := 9) (v := (-1)) hX dX6_wouldPass_8 rfl rfl ?_
    refine r_icmp_ne_I (tgt := 16) (pc' := 12) hX dX6_wouldPass_9 (by decide) rfl (nI_I (by omega)) (by decide : (-1 : Int32).toInt = -1) (fun c9 => ?_) (fun c9 => ?_)
    · refine r_iconst (pc' := 17) (v := nI 0) hX dX6_wouldPass_16 rfl rfl ?_
      refine r_put (ws' := wM cy ma (up1 r 4 0) e g bf hy sv bu le pa) (pc' := 20) hX dX6_wouldPass_17 f_X6_39 fw_X6_12 0 rfl rfl rfl (Nat.le_of_ble_eq_true rfl) rfl rfl ?_
      refine r_aload_n (pc' := 21) hX dX6_wouldPass_20 rfl rfl ?_
      refine r_get (pc' := 24) (v := .int (nI 0)) hX dX6_wouldPass_21 f_X6_39 0 rfl rfl rfl ?_
      refine r_if_ne_N (tgt := 45) (pc' := 27) hX dX6_wouldPass_24 (by decide) rfl (by omega) (fun c24 => ?_) (fun c24 => ?_)
      · exact absurd c24 (by omega)
      · refine r_aload_n (pc' := 28) hX dX6_wouldPass_27 rfl rfl ?_
        refine r_iload_n (pc' := 29) hX dX6_wouldPass_28 rfl rfl ?_
        refine r_aload_n (pc' := 30) hX dX6_wouldPass_29 rfl rfl ?_
        refine r_get (pc' := 33) (v := .ref (ma 1)) hX dX6_wouldPass_30 f_X6_7 0 rfl rfl rfl ?_
        refine r_iconst (pc' := 34) (v := nI 3) hX dX6_wouldPass_33 rfl rfl ?_
        refine r_iald_N (pc' := 35) hX dX6_wouldPass_34 (by rw [hcy]) 1 rfl (by omega) (by decide) rfl ?_
        change V X 0 0 (wM cy ma (up1 r 4 0) e g bf hy sv bu le pa) [some (.ref (ma 0)), some (.int x), some (.int (nI pl))] [.int (nI (g 3)), .int (nI pl), .ref (ma 0)] 35
        rw [hR.tol]
        refine V_call0 (k' := 0) (n' := 0) (pc' := 38) hX (r_runV (As := [.int (nI pl), .int (nI (v 0 2))]) hX dX6_wouldPass_35 k_X6_116 (fun l9 hl9 => cM_passes hv0 hR (by omega) (by omega)) hG ⟨8, _, TX6, 16, List.mem_cons_self, rfl⟩ rfl rfl (Nat.le_of_ble_eq_true rfl) (by decide) (by decide) (by decide) (by decide)) rfl rfl rfl (fun w9 u9 hp9 => ?_)
        obtain ⟨rfl, rfl⟩ := hp9
        change V X 0 0 (wM cy ma (up1 r 4 0) e g bf hy sv bu le pa) [some (.ref (ma 0)), some (.int x), some (.int (nI pl))] [.int (bI (pas (v (21 + pl)) (v (13 + pl) 2) (v 0 3) (v 0 2)))] 38
        refine r_if_eq_B (tgt := 45) (pc' := 41) hX dX6_wouldPass_38 (by decide) rfl (fun c38 => ?_) (fun c38 => ?_)
        · refine r_iconst (pc' := 46) (v := nI 0) hX dX6_wouldPass_45 rfl rfl ?_
          exact r_zreturn hX hE dX6_wouldPass_46 rfl rfl ⟨rB0 (by first | exact fun q => hs q.1 | (rw [← hpl]; exact fun q => c38 q.2)), by rw [← hpl, if_pos hs]; exact MS_thr hM0⟩ (by decide) (by decide)
        · refine r_iconst (pc' := 42) (v := nI 1) hX dX6_wouldPass_41 rfl rfl ?_
          refine r_goto (tgt := 46) hX dX6_wouldPass_42 (by decide) ?_
          exact r_zreturn hX hE dX6_wouldPass_46 rfl rfl ⟨rB1 (by rw [← hpl]; exact ⟨hs, c38⟩), by rw [← hpl, if_pos hs]; exact MS_thr hM0⟩ (by decide) (by decide)
    · exact absurd c9 (by omega)
  · rw [if_neg hs]
    change V X 0 0 (wM cy ma r e g bf hy sv bu le pa) [some (.ref (ma 0)), some (.int x), none] [.int (-1)] 5
    refine r_istore_n (L' := [some (.ref (ma 0)), some (.int x), some (.int (-1))]) (pc' := 6) hX dX6_wouldPass_5 (nlt hnL (by decide)) rfl rfl rfl ?_
    refine r_aload_n (pc' := 7) hX dX6_wouldPass_6 rfl rfl ?_
    refine r_iload_n (pc' := 8) hX dX6_wouldPass_7 rfl rfl ?_
    refine r_iconst (pc' := 9) (v := (-1)) hX dX6_wouldPass_8 rfl rfl ?_
    refine r_icmp_ne_I (tgt := 16) (pc' := 12) hX dX6_wouldPass_9 (by decide) rfl (by decide : (-1 : Int32).toInt = -1) (by decide : (-1 : Int32).toInt = -1) (fun c9 => ?_) (fun c9 => ?_)
    · exact absurd c9 (by omega)
    · refine r_iconst (pc' := 13) (v := nI 1) hX dX6_wouldPass_12 rfl rfl ?_
      refine r_goto (tgt := 17) hX dX6_wouldPass_13 (by decide) ?_
      refine r_put (ws' := wM cy ma (up1 r 4 1) e g bf hy sv bu le pa) (pc' := 20) hX dX6_wouldPass_17 f_X6_39 fw_X6_12 0 rfl rfl rfl (Nat.le_of_ble_eq_true rfl) rfl rfl ?_
      refine r_aload_n (pc' := 21) hX dX6_wouldPass_20 rfl rfl ?_
      refine r_get (pc' := 24) (v := .int (nI 1)) hX dX6_wouldPass_21 f_X6_39 0 rfl rfl rfl ?_
      refine r_if_ne_N (tgt := 45) (pc' := 27) hX dX6_wouldPass_24 (by decide) rfl (by omega) (fun c24 => ?_) (fun c24 => ?_)
      · refine r_iconst (pc' := 46) (v := nI 0) hX dX6_wouldPass_45 rfl rfl ?_
        exact r_zreturn hX hE dX6_wouldPass_46 rfl rfl ⟨rB0 (by first | exact fun q => hs q.1 | (rw [← hpl]; exact fun q => c38 q.2)), by rw [if_neg hs]; exact MS_thr hM0⟩ (by decide) (by decide)
      · exact absurd c24 (by omega)

set_option maxRecDepth 20000 in
set_option maxHeartbeats 1000000 in
theorem cM_neededTolerance {l : Launch} {D : va_G} {cy : Nat → ClassId} {sa : Nat → Nat} {ma : Nat → Nat} {r : Nat → Nat} {e : Nat → Int32} {g bf hy sv bu le : Nat → Nat} {pa : Nat → Int32} {v : SV} (hv : Wf v) (hR : Rr v g) {x : Int32}  : MG l yX6_neededTolerance cX6_neededTolerance 4 (some .int) 3 0 0 (D, cy, sa) [.ref (ma 0), .int x] (wM cy ma r e g bf hy sv bu le pa) (fun w u => w = some (.int (mvl (qBat bNee v x))) ∧ u = wM cy ma (up1 r 4 (kd 1 1 1 1 1 (qBat bNee v x))) e g bf hy sv bu le pa) := by
  have hv0 := hv
  obtain ⟨wa, wm, wb, ws, wt, wc, wB, wR, wL, wK, wP⟩ := hv
  refine MG_by (own := RX6) (L := [some (.ref (ma 0)), some (.int x), none, none]) (by decide +kernel) rfl rfl (Nat.le_of_ble_eq_true rfl) 2 rfl (fun X hX hE hnL hG hcy hnm => ?_)
  refine r_aload_n (pc' := 1) hX dX6_neededTolerance_0 rfl rfl ?_
  refine r_iload_n (pc' := 2) hX dX6_neededTolerance_1 rfl rfl ?_
  refine V_call0 (k' := 0) (n' := 0) (pc' := 5) hX (r_runV (As := [.int x]) hX dX6_neededTolerance_2 k_X6_113 (fun l9 hl9 => cM_placeOf hv0 hR) hG ⟨8, _, TX6, 16, List.mem_cons_self, rfl⟩ rfl rfl (Nat.le_of_ble_eq_true rfl) (by decide) (by decide) (by decide) (by decide)) rfl rfl rfl (fun w9 u9 hp9 => ?_)
  obtain ⟨rfl, rfl⟩ := hp9
  by_cases hs : plc v x.toInt < v 0 4
  · rw [if_pos hs]
    obtain ⟨pl, hpl⟩ : ∃ z, z = plc v x.toInt := ⟨_, rfl⟩
    rw [← hpl] at hs ⊢
    obtain ⟨bz, ba, bf9, b0, b1, bq⟩ := wB pl hs
    change V X 0 0 (wM cy ma r e g bf hy sv bu le pa) [some (.ref (ma 0)), some (.int x), none, none] [.int (nI pl)] 5
    refine r_istore_n (L' := [some (.ref (ma 0)), some (.int x), some (.int (nI pl)), none]) (pc' := 6) hX dX6_neededTolerance_5 (nlt hnL (by decide)) rfl rfl rfl ?_
    refine r_iload_n (pc' := 7) hX dX6_neededTolerance_6 rfl rfl ?_
    refine r_iconst (pc' := 8) (v := (-1)) hX dX6_neededTolerance_7 rfl rfl ?_
    refine r_icmp_ne_I (tgt := 17) (pc' := 11) hX dX6_neededTolerance_8 (by decide) rfl (nI_I (by omega)) (by decide : (-1 : Int32).toInt = -1) (fun c8 => ?_) (fun c8 => ?_)
    · refine r_iconst (pc' := 18) (v := nI 0) hX dX6_neededTolerance_17 rfl rfl ?_
      refine r_istore_n (L' := [some (.ref (ma 0)), some (.int x), some (.int (nI pl)), some (.int (nI 0))]) (pc' := 19) hX dX6_neededTolerance_18 (nlt hnL (by decide)) rfl rfl rfl ?_
      have loop19 : ∀ (n9 : Nat) (k : Nat), 99 - k < n9 → (k ≤ 99) → (∀ j, j < k → ¬ pas (v (21 + pl)) (v (13 + pl) 2) (v 0 3) j) → V X 0 0 (wM cy ma r e g bf hy sv bu le pa) [some (.ref (ma 0)), some (.int x), some (.int (nI pl)), some (.int (nI k))] [] 19 := by
        intro n9
        induction n9 with
        | zero => intro k hm; exact absurd hm (Nat.not_lt_zero _)
        | succ n9 ih19 =>
          intro k hm hk hn
          refine r_aload_n (pc' := 20) hX dX6_neededTolerance_19 rfl rfl ?_
          refine r_iload_n (pc' := 21) hX dX6_neededTolerance_20 rfl rfl ?_
          refine r_iload_n (pc' := 22) hX dX6_neededTolerance_21 rfl rfl ?_
          refine V_call0 (k' := 0) (n' := 0) (pc' := 25) hX (r_runV (As := [.int (nI pl), .int (nI k)]) hX dX6_neededTolerance_22 k_X6_116 (fun l9 hl9 => cM_passes hv0 hR (by omega) (by omega)) hG ⟨8, _, TX6, 16, List.mem_cons_self, rfl⟩ rfl rfl (Nat.le_of_ble_eq_true rfl) (by decide) (by decide) (by decide) (by decide)) rfl rfl rfl (fun w9 u9 hp9 => ?_)
          obtain ⟨rfl, rfl⟩ := hp9
          change V X 0 0 (wM cy ma r e g bf hy sv bu le pa) [some (.ref (ma 0)), some (.int x), some (.int (nI pl)), some (.int (nI k))] [.int (bI (pas (v (21 + pl)) (v (13 + pl) 2) (v 0 3) k))] 25
          refine r_if_ne_B (tgt := 34) (pc' := 28) hX dX6_neededTolerance_25 (by decide) rfl (fun c25 => ?_) (fun c25 => ?_)
          · refine r_aload_n (pc' := 35) hX dX6_neededTolerance_34 rfl rfl ?_
            refine r_iload_n (pc' := 36) hX dX6_neededTolerance_35 rfl rfl ?_
            refine V_call0 (k' := 0) (n' := 0) (pc' := 39) hX (r_runV (As := [.int (nI k)]) hX dX6_neededTolerance_36 k_X6_70 (fun l9 hl9 => cM_done) hG ⟨8, _, TX6, 16, List.mem_cons_self, rfl⟩ rfl rfl (Nat.le_of_ble_eq_true rfl) (by decide) (by decide) (by decide) (by decide)) rfl rfl rfl (fun w9 u9 hp9 => ?_)
            obtain ⟨rfl, rfl⟩ := hp9
            change V X 0 0 (wM cy ma (up1 r 4 0) e g bf hy sv bu le pa) [some (.ref (ma 0)), some (.int x), some (.int (nI pl)), some (.int (nI k))] [.int (nI k)] 39
            have e8 : lst (pas (v (21 + pl)) (v (13 + pl) 2) (v 0 3)) 99 = k := lst_end c25 hn hk
            have e9 : qBat bNee v x = nI k := by unfold qBat bNee; rw [← hpl, if_pos hs, e8]
            exact r_ireturn hX hE dX6_neededTolerance_39 rfl (MW_good e9 (by omega)) (by decide) (by decide)
          · refine r_iinc_N (b := 1) (L' := [some (.ref (ma 0)), some (.int x), some (.int (nI pl)), some (.int (nI (k + 1)))]) (pc' := 31) hX dX6_neededTolerance_28 rfl (nlt hnL (by decide)) rfl rfl rfl ?_
            refine r_goto (tgt := 19) hX dX6_neededTolerance_31 (by decide) ?_
            have h99 : k ≠ 99 := fun q => c25 (by rw [q]; exact pas_99 (by omega) (bq 0 (by omega)))
            exact ih19 (k + 1) (by omega) (by omega) (fun j hj => (Nat.lt_succ_iff_lt_or_eq.mp hj).elim (hn j) (fun e9 => by rw [e9]; exact c25))
      exact loop19 _ 0 (Nat.lt_succ_self _) (by omega) (fun j hj => absurd hj (Nat.not_lt_zero _))
    · exact absurd c8 (by omega)
  · rw [if_neg hs]
    change V X 0 0 (wM cy ma r e g bf hy sv bu le pa) [some (.ref (ma 0)), some (.int x), none, none] [.int (-1)] 5
    refine r_istore_n (L' := [some (.ref (ma 0)), some (.int x), some (.int (-1)), none]) (pc' := 6) hX dX6_neededTolerance_5 (nlt hnL (by decide)) rfl rfl rfl ?_
    refine r_iload_n (pc' := 7) hX dX6_neededTolerance_6 rfl rfl ?_
    refine r_iconst (pc' := 8) (v := (-1)) hX dX6_neededTolerance_7 rfl rfl ?_
    refine r_icmp_ne_I (tgt := 17) (pc' := 11) hX dX6_neededTolerance_8 (by decide) rfl (by decide : (-1 : Int32).toInt = -1) (by decide : (-1 : Int32).toInt = -1) (fun c8 => ?_) (fun c8 => ?_)
    · exact absurd c8 (by omega)
    · refine r_aload_n (pc' := 12) hX dX6_neededTolerance_11 rfl rfl ?_
      refine r_iconst (pc' := 13) (v := nI 1) hX dX6_neededTolerance_12 rfl rfl ?_
      refine V_call0 (k' := 0) (n' := 0) (pc' := 16) hX (r_runV (As := [.int (nI 1)]) hX dX6_neededTolerance_13 k_X6_67 (fun l9 hl9 => cM_fails (by omega)) hG ⟨8, _, TX6, 16, List.mem_cons_self, rfl⟩ rfl rfl (Nat.le_of_ble_eq_true rfl) (by decide) (by decide) (by decide) (by decide)) rfl rfl rfl (fun w9 u9 hp9 => ?_)
      obtain ⟨rfl, rfl⟩ := hp9
      change V X 0 0 (wM cy ma (up1 r 4 1) e g bf hy sv bu le pa) [some (.ref (ma 0)), some (.int x), some (.int (-1)), none] [.int (nI 0)] 16
      have e9 : qBat bNee v x = -5 := by unfold qBat; rw [if_neg hs]
      exact r_ireturn hX hE dX6_neededTolerance_16 rfl (MW_bad e9 rfl rfl) (by decide) (by decide)

set_option maxRecDepth 20000 in
set_option maxHeartbeats 1000000 in
theorem cMw_neededTolerance {l : Launch} {D : va_G} {cy : Nat → ClassId} {sa : Nat → Nat} {ma : Nat → Nat} {S : AS} {t : Nat} {ws : va_W} {v : SV} (hvS : v = S.1) (h : MS cy ma S t ws) (hv : Wf v) {x : Int32}  : MG l yX6_neededTolerance cX6_neededTolerance 4 (some .int) 3 0 0 (D, cy, sa) [.ref (ma 0), .int x] (ws) (fun w u => w = some (.int (mvl (qBat bNee v x))) ∧ MS cy ma S (kd 1 1 1 1 1 (qBat bNee v x)) u) := by
  obtain ⟨r, e, g, bf, hy, sv, bu, le, pa, rfl, hM⟩ := h
  have hM0 := hM
  obtain ⟨h4, hR, h0, h8, hH, hS, hT, hO, hE⟩ := hM
  rw [← hvS] at hR
  have hv0 := hv
  obtain ⟨wa, wm, wb, ws, wt, wc, wB, wR, wL, wK, wP⟩ := hv
  refine MG_by (own := RX6) (L := [some (.ref (ma 0)), some (.int x), none, none]) (by decide +kernel) rfl rfl (Nat.le_of_ble_eq_true rfl) 2 rfl (fun X hX hE hnL hG hcy hnm => ?_)
  refine r_aload_n (pc' := 1) hX dX6_neededTolerance_0 rfl rfl ?_
  refine r_iload_n (pc' := 2) hX dX6_neededTolerance_1 rfl rfl ?_
  refine V_call0 (k' := 0) (n' := 0) (pc' := 5) hX (r_runV (As := [.int x]) hX dX6_neededTolerance_2 k_X6_113 (fun l9 hl9 => cM_placeOf hv0 hR) hG ⟨8, _, TX6, 16, List.mem_cons_self, rfl⟩ rfl rfl (Nat.le_of_ble_eq_true rfl) (by decide) (by decide) (by decide) (by decide)) rfl rfl rfl (fun w9 u9 hp9 => ?_)
  obtain ⟨rfl, rfl⟩ := hp9
  by_cases hs : plc v x.toInt < v 0 4
  · rw [if_pos hs]
    obtain ⟨pl, hpl⟩ : ∃ z, z = plc v x.toInt := ⟨_, rfl⟩
    rw [← hpl] at hs ⊢
    obtain ⟨bz, ba, bf9, b0, b1, bq⟩ := wB pl hs
    change V X 0 0 (wM cy ma r e g bf hy sv bu le pa) [some (.ref (ma 0)), some (.int x), none, none] [.int (nI pl)] 5
    refine r_istore_n (L' := [some (.ref (ma 0)), some (.int x), some (.int (nI pl)), none]) (pc' := 6) hX dX6_neededTolerance_5 (nlt hnL (by decide)) rfl rfl rfl ?_
    refine r_iload_n (pc' := 7) hX dX6_neededTolerance_6 rfl rfl ?_
    refine r_iconst (pc' := 8) (v := (-1)) hX dX6_neededTolerance_7 rfl rfl ?_
    refine r_icmp_ne_I (tgt := 17) (pc' := 11) hX dX6_neededTolerance_8 (by decide) rfl (nI_I (by omega)) (by decide : (-1 : Int32).toInt = -1) (fun c8 => ?_) (fun c8 => ?_)
    · refine r_iconst (pc' := 18) (v := nI 0) hX dX6_neededTolerance_17 rfl rfl ?_
      refine r_istore_n (L' := [some (.ref (ma 0)), some (.int x), some (.int (nI pl)), some (.int (nI 0))]) (pc' := 19) hX dX6_neededTolerance_18 (nlt hnL (by decide)) rfl rfl rfl ?_
      have loop19 : ∀ (n9 : Nat) (k : Nat), 99 - k < n9 → (k ≤ 99) → (∀ j, j < k → ¬ pas (v (21 + pl)) (v (13 + pl) 2) (v 0 3) j) → V X 0 0 (wM cy ma r e g bf hy sv bu le pa) [some (.ref (ma 0)), some (.int x), some (.int (nI pl)), some (.int (nI k))] [] 19 := by
        intro n9
        induction n9 with
        | zero => intro k hm; exact absurd hm (Nat.not_lt_zero _)
        | succ n9 ih19 =>
          intro k hm hk hn
          refine r_aload_n (pc' := 20) hX dX6_neededTolerance_19 rfl rfl ?_
          refine r_iload_n (pc' := 21) hX dX6_neededTolerance_20 rfl rfl ?_
          refine r_iload_n (pc' := 22) hX dX6_neededTolerance_21 rfl rfl ?_
          refine V_call0 (k' := 0) (n' := 0) (pc' := 25) hX (r_runV (As := [.int (nI pl), .int (nI k)]) hX dX6_neededTolerance_22 k_X6_116 (fun l9 hl9 => cM_passes hv0 hR (by omega) (by omega)) hG ⟨8, _, TX6, 16, List.mem_cons_self, rfl⟩ rfl rfl (Nat.le_of_ble_eq_true rfl) (by decide) (by decide) (by decide) (by decide)) rfl rfl rfl (fun w9 u9 hp9 => ?_)
          obtain ⟨rfl, rfl⟩ := hp9
          change V X 0 0 (wM cy ma r e g bf hy sv bu le pa) [some (.ref (ma 0)), some (.int x), some (.int (nI pl)), some (.int (nI k))] [.int (bI (pas (v (21 + pl)) (v (13 + pl) 2) (v 0 3) k))] 25
          refine r_if_ne_B (tgt := 34) (pc' := 28) hX dX6_neededTolerance_25 (by decide) rfl (fun c25 => ?_) (fun c25 => ?_)
          · refine r_aload_n (pc' := 35) hX dX6_neededTolerance_34 rfl rfl ?_
            refine r_iload_n (pc' := 36) hX dX6_neededTolerance_35 rfl rfl ?_
            refine V_call0 (k' := 0) (n' := 0) (pc' := 39) hX (r_runV (As := [.int (nI k)]) hX dX6_neededTolerance_36 k_X6_70 (fun l9 hl9 => cM_done) hG ⟨8, _, TX6, 16, List.mem_cons_self, rfl⟩ rfl rfl (Nat.le_of_ble_eq_true rfl) (by decide) (by decide) (by decide) (by decide)) rfl rfl rfl (fun w9 u9 hp9 => ?_)
            obtain ⟨rfl, rfl⟩ := hp9
            change V X 0 0 (wM cy ma (up1 r 4 0) e g bf hy sv bu le pa) [some (.ref (ma 0)), some (.int x), some (.int (nI pl)), some (.int (nI k))] [.int (nI k)] 39
            have e8 : lst (pas (v (21 + pl)) (v (13 + pl) 2) (v 0 3)) 99 = k := lst_end c25 hn hk
            have e9 : qBat bNee v x = nI k := by unfold qBat bNee; rw [← hpl, if_pos hs, e8]
            exact r_ireturn hX hE dX6_neededTolerance_39 rfl (MQ_good hM0 e9 (by omega)) (by decide) (by decide)
          · refine r_iinc_N (b := 1) (L' := [some (.ref (ma 0)), some (.int x), some (.int (nI pl)), some (.int (nI (k + 1)))]) (pc' := 31) hX dX6_neededTolerance_28 rfl (nlt hnL (by decide)) rfl rfl rfl ?_
            refine r_goto (tgt := 19) hX dX6_neededTolerance_31 (by decide) ?_
            have h99 : k ≠ 99 := fun q => c25 (by rw [q]; exact pas_99 (by omega) (bq 0 (by omega)))
            exact ih19 (k + 1) (by omega) (by omega) (fun j hj => (Nat.lt_succ_iff_lt_or_eq.mp hj).elim (hn j) (fun e9 => by rw [e9]; exact c25))
      exact loop19 _ 0 (Nat.lt_succ_self _) (by omega) (fun j hj => absurd hj (Nat.not_lt_zero _))
    · exact absurd c8 (by omega)
  · rw [if_neg hs]
    change V X 0 0 (wM cy ma r e g bf hy sv bu le pa) [some (.ref (ma 0)), some (.int x), none, none] [.int (-1)] 5
    refine r_istore_n (L' := [some (.ref (ma 0)), some (.int x), some (.int (-1)), none]) (pc' := 6) hX dX6_neededTolerance_5 (nlt hnL (by decide)) rfl rfl rfl ?_
    refine r_iload_n (pc' := 7) hX dX6_neededTolerance_6 rfl rfl ?_
    refine r_iconst (pc' := 8) (v := (-1)) hX dX6_neededTolerance_7 rfl rfl ?_
    refine r_icmp_ne_I (tgt := 17) (pc' := 11) hX dX6_neededTolerance_8 (by decide) rfl (by decide : (-1 : Int32).toInt = -1) (by decide : (-1 : Int32).toInt = -1) (fun c8 => ?_) (fun c8 => ?_)
    · exact absurd c8 (by omega)
    · refine r_aload_n (pc' := 12) hX dX6_neededTolerance_11 rfl rfl ?_
      refine r_iconst (pc' := 13) (v := nI 1) hX dX6_neededTolerance_12 rfl rfl ?_
      refine V_call0 (k' := 0) (n' := 0) (pc' := 16) hX (r_runV (As := [.int (nI 1)]) hX dX6_neededTolerance_13 k_X6_67 (fun l9 hl9 => cM_fails (by omega)) hG ⟨8, _, TX6, 16, List.mem_cons_self, rfl⟩ rfl rfl (Nat.le_of_ble_eq_true rfl) (by decide) (by decide) (by decide) (by decide)) rfl rfl rfl (fun w9 u9 hp9 => ?_)
      obtain ⟨rfl, rfl⟩ := hp9
      change V X 0 0 (wM cy ma (up1 r 4 1) e g bf hy sv bu le pa) [some (.ref (ma 0)), some (.int x), some (.int (-1)), none] [.int (nI 0)] 16
      have e9 : qBat bNee v x = -5 := by unfold qBat; rw [if_neg hs]
      exact r_ireturn hX hE dX6_neededTolerance_16 rfl (MQ_bad hM0 e9 rfl rfl) (by decide) (by decide)

set_option maxRecDepth 20000 in
set_option maxHeartbeats 1000000 in
theorem cMw_neededToleranceByTrying {l : Launch} {D : va_G} {cy : Nat → ClassId} {sa : Nat → Nat} {ma : Nat → Nat} {S : AS} {t : Nat} {ws : va_W} {v : SV} (hvS : v = S.1) (h : MS cy ma S t ws) (hv : Wf v) {x : Int32}  : MG l yX6_neededToleranceByTrying cX6_neededToleranceByTrying 2 (some .int) 4 0 0 (D, cy, sa) [.ref (ma 0), .int x] (ws) (fun w u => w = some (.int (mvl (qBat bNee v x))) ∧ MS cy ma S (kd 1 1 1 1 1 (qBat bNee v x)) u) := by
  obtain ⟨r, e, g, bf, hy, sv, bu, le, pa, rfl, hM⟩ := h
  have hM0 := hM
  obtain ⟨h4, hR, h0, h8, hH, hS, hT, hO, hE⟩ := hM
  rw [← hvS] at hR
  have hv0 := hv
  obtain ⟨wa, wm, wb, ws, wt, wc, wB, wR, wL, wK, wP⟩ := hv
  refine MG_by (own := RX6) (L := [some (.ref (ma 0)), some (.int x)]) (by decide +kernel) rfl rfl (Nat.le_of_ble_eq_true rfl) 0 rfl (fun X hX hE hnL hG hcy hnm => ?_)
  refine r_aload_n (pc' := 1) hX dX6_neededToleranceByTrying_0 rfl rfl ?_
  refine r_iload_n (pc' := 2) hX dX6_neededToleranceByTrying_1 rfl rfl ?_
  refine V_call0 (k' := 0) (n' := 0) (pc' := 5) hX (r_runV (As := [.int x]) hX dX6_neededToleranceByTrying_2 k_X6_144 (fun l9 hl9 => cM_neededTolerance hv0 hR) hG ⟨8, _, TX6, 16, List.mem_cons_self, rfl⟩ rfl rfl (Nat.le_of_ble_eq_true rfl) (by decide) (by decide) (by decide) (by decide)) rfl rfl rfl (fun w9 u9 hp9 => ?_)
  obtain ⟨rfl, rfl⟩ := hp9
  change V X 0 0 (wM cy ma (up1 r 4 (kd 1 1 1 1 1 (qBat bNee v x))) e g bf hy sv bu le pa) [some (.ref (ma 0)), some (.int x)] [.int (mvl (qBat bNee v x))] 5
  exact r_ireturn hX hE dX6_neededToleranceByTrying_5 rfl ⟨rfl, MS_thr hM0⟩ (by decide) (by decide)
