set_option maxRecDepth 20000 in
set_option maxHeartbeats 1000000 in
theorem cF_batchAt {l : Launch} {D : va_G} {cy : Nat → ClassId} {sa : Nat → Nat} {f K : Nat} {S : AS} {ws : va_W} {v : SV} (hvS : v = S.1) (hS : FS cy f S ws) (hI : AI K S) {x : Int32} (hst : l.stackTraces = false) : MX l yX5_batchAt cX5_batchAt 3 (some .int) 6 1 6 (D, cy, sa) [.ref f, .int x] (ws) (fun w u => okA (qAt v x) ∧ w = some (.int (qAt v x)) ∧ FS cy f (S) u) (fun E u => noA (qAt v x) ∧ E = exC (qAt v x) ∧ FS cy f S u) := by
  obtain ⟨fa, s, o, pr, un, hs, an, e1, e2, fc, SC, OB, sn, AD, VS, rfl, hF⟩ := hS
  obtain ⟨⟨hpr, hfc⟩, ⟨hv0, hul, hun, hus⟩, ⟨hh1, hh2⟩, hSC, hOB, he1, he2⟩ := id hF
  have hA0 : fc pr = AD 0 0 := by
    have := hfc 0 (by decide)
    rwa [show (pr + 0) % 10 = pr by omega] at this
  have hA1 : fc ((pr + 1) % 10) = AD 1 0 := hfc 1 (by decide)
  have hv : Wf (VS 0) := hv0 ▸ hI.1.1.1
  have hFB : FB (VS 0) := hv0 ▸ hI.1.2
  have hInv : Inv K (VS 0) := hv0 ▸ hI.1.1
  obtain rfl : v = VS 0 := hvS.trans hv0
  have h8 := hv.2.2.1
  have hFS : FS cy f S (wBF cy f fa s o an pr un hs e1 e2 fc SC OB sn AD VS) := ⟨fa, s, o, pr, un, hs, an, e1, e2, fc, SC, OB, sn, AD, VS, rfl, hF⟩
  have hst5 := hv.2.2.2.1
  have htol := hv.2.2.2.2.1
  refine MX_by (own := RX5) (L := [some (.ref f), some (.int x), none]) hst (by decide +kernel) rfl rfl (Nat.le_of_ble_eq_true rfl) 1 rfl (fun X hX hE hO hnL hG hcy hnm => ?_)
  refine r_aload_n (pc' := 1) hX dX5_batchAt_0 rfl rfl ?_
  refine V_call0 (k' := 0) (n' := 0) (pc' := 4) hX (r_runV (As := []) hX dX5_batchAt_1 k_X5_88 (fun l9 hl9 => cF_now (by assumption) (by assumption)) hG ⟨7, _, TX5, 9, List.mem_cons_self, rfl⟩ rfl rfl (Nat.le_of_ble_eq_true rfl) (by decide) (by decide) (by decide) (by decide)) rfl rfl rfl (fun w9 u9 hp9 => ?_)
  obtain ⟨rfl, rfl⟩ := hp9
  change V X 0 0 (wBF cy f fa s o an pr un hs e1 e2 fc SC OB sn AD VS) [some (.ref f), some (.int x), none] [.ref (AD 0 0)] 4
  refine r_astore_n (L' := [some (.ref f), some (.int x), some (.ref (AD 0 0))]) (pc' := 5) hX dX5_batchAt_4 (nlt hnL (by decide)) rfl rfl rfl ?_
  refine r_iload_n (pc' := 6) hX dX5_batchAt_5 rfl rfl ?_
  refine r_if_lt_I (tgt := 17) (pc' := 9) hX dX5_batchAt_6 (by decide) rfl rfl (fun c6 => ?_) (fun c6 => ?_)
  · exact r_throw hX hO th_NSE 5 (by decide) rfl dX5_batchAt_17 dX5_batchAt_20 dX5_batchAt_21 dX5_batchAt_23 dX5_batchAt_26 (by decide) (by decide) ⟨by rw [show qAt (VS 0) x = -5 from if_neg (by omega)]; decide, by rw [show qAt (VS 0) x = -5 from if_neg (by omega)]; rfl, hFS⟩ (by decide) (by decide)
  · refine r_iload_n (pc' := 10) hX dX5_batchAt_9 rfl rfl ?_
    refine r_aload_n (pc' := 11) hX dX5_batchAt_10 rfl rfl ?_
    refine r_getN (pc' := 14) (v := .int (nI (VS 0 0 4))) hX dX5_batchAt_11 f_X5_118 2 rfl rfl rfl ?_
    refine r_icmp_lt_I (tgt := 27) (pc' := 17) hX dX5_batchAt_14 (by decide) rfl rfl (nI_I (by omega)) (fun c14 => ?_) (fun c14 => ?_)
    · obtain ⟨j, hj, rfl⟩ := nat_of (x := x) (n := VS 0 0 4) ⟨by omega, by omega⟩
      refine r_aload_n (pc' := 28) hX dX5_batchAt_27 rfl rfl ?_
      refine r_getN (pc' := 31) (v := .ref (AD 0 14)) hX dX5_batchAt_28 f_X5_128 2 rfl rfl rfl ?_
      refine r_iload_n (pc' := 32) hX dX5_batchAt_31 rfl rfl ?_
      refine r_aald (pc' := 33) hX dX5_batchAt_32 4 (by rw [hcy]; rfl) rfl (BF_mem0 (List.mem_append_left _ (List.mem_of_getElem? (i := 14) rfl))) (by omega) (by decide) (if_pos (by omega)) rfl ?_
      change V X 0 0 (wBF cy f fa s o an pr un hs e1 e2 fc SC OB sn AD VS) [some (.ref f), some (.int (nI j)), some (.ref (AD 0 0))] [.ref (AD 0 (15 + j))] 33
      refine r_getNM (pc' := 36) hX dX5_batchAt_33 f_X5_132 (BF_bat (by omega) List.mem_cons_self) rfl rfl ?_
      change V X 0 0 (wBF cy f fa s o an pr un hs e1 e2 fc SC OB sn AD VS) [some (.ref f), some (.int (nI j)), some (.ref (AD 0 0))] [.int (nI (VS 0 (13 + j) 0))] 36
      have hq9 : qAt (VS 0) (nI j) = nI (VS 0 (13 + j) 0) := by
        unfold qAt
        rw [if_pos (by constructor <;> rw [nI_I (by omega)] <;> omega), tn_nI (by omega)]
      obtain ⟨⟨b1, b2⟩, b3, b4, b5, b6, b7⟩ := hv.2.2.2.2.2.2.1 _ hj
      exact r_ireturn hX hE dX5_batchAt_36 rfl ⟨by rw [hq9]; exact okN (by omega), by rw [hq9], hFS⟩ (by decide) (by decide)
    · exact r_throw hX hO th_NSE 5 (by decide) rfl dX5_batchAt_17 dX5_batchAt_20 dX5_batchAt_21 dX5_batchAt_23 dX5_batchAt_26 (by decide) (by decide) ⟨by rw [show qAt (VS 0) x = -5 from if_neg (by omega)]; decide, by rw [show qAt (VS 0) x = -5 from if_neg (by omega)]; rfl, hFS⟩ (by decide) (by decide)

set_option maxRecDepth 20000 in
set_option maxHeartbeats 1000000 in
theorem cF_isConsistent {l : Launch} {D : va_G} {cy : Nat → ClassId} {sa : Nat → Nat} {f K : Nat} {S : AS} {ws : va_W} {v : SV} (hvS : v = S.1) (hS : FS cy f S ws) (hI : AI K S) : MG l yX5_isConsistent cX5_isConsistent 2 (some .boolean) 5 0 0 (D, cy, sa) [.ref f] (ws) (fun w u => w = some (.int (nI 1)) ∧ FS cy f S u) := by
  obtain ⟨fa, s, o, pr, un, hs, an, e1, e2, fc, SC, OB, sn, AD, VS, rfl, hF⟩ := hS
  obtain ⟨⟨hpr, hfc⟩, ⟨hv0, hul, hun, hus⟩, ⟨hh1, hh2⟩, hSC, hOB, he1, he2⟩ := id hF
  have hA0 : fc pr = AD 0 0 := by
    have := hfc 0 (by decide)
    rwa [show (pr + 0) % 10 = pr by omega] at this
  have hA1 : fc ((pr + 1) % 10) = AD 1 0 := hfc 1 (by decide)
  have hv : Wf (VS 0) := hv0 ▸ hI.1.1.1
  have hFB : FB (VS 0) := hv0 ▸ hI.1.2
  have hInv : Inv K (VS 0) := hv0 ▸ hI.1.1
  obtain rfl : v = VS 0 := hvS.trans hv0
  have h8 := hv.2.2.1
  have hFS : FS cy f S (wBF cy f fa s o an pr un hs e1 e2 fc SC OB sn AD VS) := ⟨fa, s, o, pr, un, hs, an, e1, e2, fc, SC, OB, sn, AD, VS, rfl, hF⟩
  have hst5 := hv.2.2.2.1
  have htol := hv.2.2.2.2.1
  refine MG_by (own := RX5) (L := [some (.ref f), none]) (by decide +kernel) rfl rfl (Nat.le_of_ble_eq_true rfl) 1 rfl (fun X hX hE hnL hG hcy hnm => ?_)
  refine r_aload_n (pc' := 1) hX dX5_isConsistent_0 rfl rfl ?_
  refine V_call0 (k' := 0) (n' := 0) (pc' := 4) hX (r_runV (As := []) hX dX5_isConsistent_1 k_X5_88 (fun l9 hl9 => cF_now (by assumption) (by assumption)) hG ⟨7, _, TX5, 9, List.mem_cons_self, rfl⟩ rfl rfl (Nat.le_of_ble_eq_true rfl) (by decide) (by decide) (by decide) (by decide)) rfl rfl rfl (fun w9 u9 hp9 => ?_)
  obtain ⟨rfl, rfl⟩ := hp9
  change V X 0 0 (wBF cy f fa s o an pr un hs e1 e2 fc SC OB sn AD VS) [some (.ref f), none] [.ref (AD 0 0)] 4
  refine r_astore_n (L' := [some (.ref f), some (.ref (AD 0 0))]) (pc' := 5) hX dX5_isConsistent_4 (nlt hnL (by decide)) rfl rfl rfl ?_
  refine r_aload_n (pc' := 6) hX dX5_isConsistent_5 rfl rfl ?_
  refine V_call (k' := 0) (n' := 0) (pc' := 9) (wr := (((wBFl cy f fa s o an pr un hs e1 e2 fc SC OB sn AD VS)).eraseIdx 1).flatten) hX (r_runV (As := []) hX dX5_isConsistent_6 k_X5_212 (fun l9 hl9 => cS_tolerancesAgree hv) hG ⟨6, _, TX4, 17, List.mem_cons_self, rfl⟩ rfl rfl (Nat.le_of_ble_eq_true rfl) (by decide) (by decide) (by decide) (by decide)) (fl_out (bs := (wBFl cy f fa s o an pr un hs e1 e2 fc SC OB sn AD VS)) 1 rfl) rfl rfl rfl (fun w9 u9 hp9 => ?_)
  obtain ⟨rfl, rfl⟩ := hp9
  change V X 0 0 (wSt cy (AD 0) (VS 0) ++ (((wBFl cy f fa s o an pr un hs e1 e2 fc SC OB sn AD VS)).eraseIdx 1).flatten) [some (.ref f), some (.ref (AD 0 0))] [.int (bI (tolA (VS 0)))] 9
  refine V_perm (fl_back (bs := (wBFl cy f fa s o an pr un hs e1 e2 fc SC OB sn AD VS)) (bs' := (wBFl cy f fa s o an pr un hs e1 e2 fc SC OB sn AD VS)) 1 rfl rfl) ?_
  refine r_if_eq_B (tgt := 30) (pc' := 12) hX dX5_isConsistent_9 (by decide) rfl (fun c9 => ?_) (fun c9 => ?_)
  · exact absurd (tolA_of) c9
  · refine r_aload_n (pc' := 13) hX dX5_isConsistent_12 rfl rfl ?_
    refine V_call (k' := 0) (n' := 0) (pc' := 16) (wr := (((wBFl cy f fa s o an pr un hs e1 e2 fc SC OB sn AD VS)).eraseIdx 1).flatten) hX (r_runV (As := []) hX dX5_isConsistent_13 k_X5_216 (fun l9 hl9 => cS_metalsAgree hv) hG ⟨6, _, TX4, 17, List.mem_cons_self, rfl⟩ rfl rfl (Nat.le_of_ble_eq_true rfl) (by decide) (by decide) (by decide) (by decide)) (fl_out (bs := (wBFl cy f fa s o an pr un hs e1 e2 fc SC OB sn AD VS)) 1 rfl) rfl rfl rfl (fun w9 u9 hp9 => ?_)
    obtain ⟨rfl, rfl⟩ := hp9
    change V X 0 0 (wSt cy (AD 0) (VS 0) ++ (((wBFl cy f fa s o an pr un hs e1 e2 fc SC OB sn AD VS)).eraseIdx 1).flatten) [some (.ref f), some (.ref (AD 0 0))] [.int (bI (metA (VS 0)))] 16
    refine V_perm (fl_back (bs := (wBFl cy f fa s o an pr un hs e1 e2 fc SC OB sn AD VS)) (bs' := (wBFl cy f fa s o an pr un hs e1 e2 fc SC OB sn AD VS)) 1 rfl rfl) ?_
    refine r_if_eq_B (tgt := 30) (pc' := 19) hX dX5_isConsistent_16 (by decide) rfl (fun c16 => ?_) (fun c16 => ?_)
    · exact absurd (metA_of hInv) c16
    · refine r_aload_n (pc' := 20) hX dX5_isConsistent_19 rfl rfl ?_
      refine V_call (k' := 0) (n' := 0) (pc' := 23) (wr := (((wBFl cy f fa s o an pr un hs e1 e2 fc SC OB sn AD VS)).eraseIdx 1).flatten) hX (r_runV (As := []) hX dX5_isConsistent_20 k_X5_219 (fun l9 hl9 => cS_bowsAgree hv) hG ⟨6, _, TX4, 17, List.mem_cons_self, rfl⟩ rfl rfl (Nat.le_of_ble_eq_true rfl) (by decide) (by decide) (by decide) (by decide)) (fl_out (bs := (wBFl cy f fa s o an pr un hs e1 e2 fc SC OB sn AD VS)) 1 rfl) rfl rfl rfl (fun w9 u9 hp9 => ?_)
      obtain ⟨rfl, rfl⟩ := hp9
      change V X 0 0 (wSt cy (AD 0) (VS 0) ++ (((wBFl cy f fa s o an pr un hs e1 e2 fc SC OB sn AD VS)).eraseIdx 1).flatten) [some (.ref f), some (.ref (AD 0 0))] [.int (bI (bowA (VS 0)))] 23
      refine V_perm (fl_back (bs := (wBFl cy f fa s o an pr un hs e1 e2 fc SC OB sn AD VS)) (bs' := (wBFl cy f fa s o an pr un hs e1 e2 fc SC OB sn AD VS)) 1 rfl rfl) ?_
      refine r_if_eq_B (tgt := 30) (pc' := 26) hX dX5_isConsistent_23 (by decide) rfl (fun c23 => ?_) (fun c23 => ?_)
      · exact absurd (bowA_of hInv) c23
      · refine r_iconst (pc' := 27) (v := nI 1) hX dX5_isConsistent_26 rfl rfl ?_
        refine r_goto (tgt := 31) hX dX5_isConsistent_27 (by decide) ?_
        exact r_zreturn hX hE dX5_isConsistent_31 rfl rfl ⟨rfl, hFS⟩ (by decide) (by decide)

set_option maxRecDepth 20000 in
set_option maxHeartbeats 1000000 in
theorem cF_soldShare {l : Launch} {D : va_G} {cy : Nat → ClassId} {sa : Nat → Nat} {f K : Nat} {S : AS} {ws : va_W} {v : SV} (hvS : v = S.1) (hS : FS cy f S ws) (hI : AI K S) (hst : l.stackTraces = false) : MX l yX5_soldShare cX5_soldShare 2 (some .float) 6 1 6 (D, cy, sa) [.ref f] (ws) (fun w u => ¬ v 0 6 = 0 ∧ w = some (.float (qShare v)) ∧ FS cy f S u) (fun E u => E = "java/lang/ArithmeticException" ∧ v 0 6 = 0 ∧ FS cy f S u) := by
  obtain ⟨fa, s, o, pr, un, hs, an, e1, e2, fc, SC, OB, sn, AD, VS, rfl, hF⟩ := hS
  obtain ⟨⟨hpr, hfc⟩, ⟨hv0, hul, hun, hus⟩, ⟨hh1, hh2⟩, hSC, hOB, he1, he2⟩ := id hF
  have hA0 : fc pr = AD 0 0 := by
    have := hfc 0 (by decide)
    rwa [show (pr + 0) % 10 = pr by omega] at this
  have hA1 : fc ((pr + 1) % 10) = AD 1 0 := hfc 1 (by decide)
  have hv : Wf (VS 0) := hv0 ▸ hI.1.1.1
  have hFB : FB (VS 0) := hv0 ▸ hI.1.2
  have hInv : Inv K (VS 0) := hv0 ▸ hI.1.1
  obtain rfl : v = VS 0 := hvS.trans hv0
  have h8 := hv.2.2.1
  have hFS : FS cy f S (wBF cy f fa s o an pr un hs e1 e2 fc SC OB sn AD VS) := ⟨fa, s, o, pr, un, hs, an, e1, e2, fc, SC, OB, sn, AD, VS, rfl, hF⟩
  have hst5 := hv.2.2.2.1
  have htol := hv.2.2.2.2.1
  refine MX_by (own := RX5) (L := [some (.ref f), none]) hst (by decide +kernel) rfl rfl (Nat.le_of_ble_eq_true rfl) 1 rfl (fun X hX hE hO hnL hG hcy hnm => ?_)
  have hc6 := hv.2.2.2.2.2.1.2.1
  refine r_aload_n (pc' := 1) hX dX5_soldShare_0 rfl rfl ?_
  refine V_call0 (k' := 0) (n' := 0) (pc' := 4) hX (r_runV (As := []) hX dX5_soldShare_1 k_X5_88 (fun l9 hl9 => cF_now (by assumption) (by assumption)) hG ⟨7, _, TX5, 9, List.mem_cons_self, rfl⟩ rfl rfl (Nat.le_of_ble_eq_true rfl) (by decide) (by decide) (by decide) (by decide)) rfl rfl rfl (fun w9 u9 hp9 => ?_)
  obtain ⟨rfl, rfl⟩ := hp9
  change V X 0 0 (wBF cy f fa s o an pr un hs e1 e2 fc SC OB sn AD VS) [some (.ref f), none] [.ref (AD 0 0)] 4
  refine r_getN (pc' := 7) (v := .int (nI (VS 0 0 6))) hX dX5_soldShare_4 f_X5_186 2 rfl rfl rfl ?_
  refine r_istore_n (L' := [some (.ref f), some (.int (nI (VS 0 0 6)))]) (pc' := 8) hX dX5_soldShare_7 (nlt hnL (by decide)) rfl rfl rfl ?_
  refine r_iload_n (pc' := 9) hX dX5_soldShare_8 rfl rfl ?_
  refine r_if_ne_N (tgt := 22) (pc' := 12) hX dX5_soldShare_9 (by decide) rfl (by omega) (fun c9 => ?_) (fun c9 => ?_)
  · refine r_aload_n (pc' := 23) hX dX5_soldShare_22 rfl rfl ?_
    refine V_call0 (k' := 0) (n' := 0) (pc' := 26) hX (r_runV (As := []) hX dX5_soldShare_23 k_X5_88 (fun l9 hl9 => cF_now (by assumption) (by assumption)) hG ⟨7, _, TX5, 9, List.mem_cons_self, rfl⟩ rfl rfl (Nat.le_of_ble_eq_true rfl) (by decide) (by decide) (by decide) (by decide)) rfl rfl rfl (fun w9 u9 hp9 => ?_)
    obtain ⟨rfl, rfl⟩ := hp9
    change V X 0 0 (wBF cy f fa s o an pr un hs e1 e2 fc SC OB sn AD VS) [some (.ref f), some (.int (nI (VS 0 0 6)))] [.ref (AD 0 0)] 26
    refine r_getN (pc' := 29) (v := .int (nI (VS 0 0 7))) hX dX5_soldShare_26 f_X5_189 2 rfl rfl rfl ?_
    refine r_i2f (pc' := 30) hX dX5_soldShare_29 rfl ?_
    refine r_iload_n (pc' := 31) hX dX5_soldShare_30 rfl rfl ?_
    refine r_i2f (pc' := 32) hX dX5_soldShare_31 rfl ?_
    refine r_fdiv (pc' := 33) hX dX5_soldShare_32 (nn32 (nI_ne0 (by omega) (by omega))) rfl ?_
    exact r_freturn hX hE dX5_soldShare_33 rfl ⟨c9, by unfold qShare; rw [if_neg c9], hFS⟩ (by decide) (by decide)
  · exact r_throw hX hO th_AE 7 (by decide) rfl dX5_soldShare_12 dX5_soldShare_15 dX5_soldShare_16 dX5_soldShare_18 dX5_soldShare_21 (by decide) (by decide) ⟨rfl, c9, hFS⟩ (by decide) (by decide)
