theorem inR_tn {x : Int32} {n : Nat} (h : inR x n) (hn : n < 2147483648) : tn x < n := by
  obtain ⟨j, hj, rfl⟩ := nat_of h
  rw [tn_nI (by omega)]
  exact hj
theorem qMib_boo {K : Nat} {v : SV} (h : Inv K v) {x : Int32} : (if inR x 3 then boo v (tn x) else -1) = qMib v x := by
  unfold qMib
  by_cases q : inR x 3
  · rw [if_pos q, if_pos q, boo_eq h (inR_tn q (by decide))]
  · rw [if_neg q, if_neg q]
set_option maxRecDepth 20000 in
set_option maxHeartbeats 1000000 in
theorem cF_metalByAccounts {l : Launch} {D : va_G} {cy : Nat → ClassId} {sa : Nat → Nat} {f K : Nat} {S : AS} {ws : va_W} {v : SV} (hvS : v = S.1) (hS : FS cy f S ws) (hI : AI K S) {x : Int32} (hst : l.stackTraces = false) : MX l yX5_metalByAccounts cX5_metalByAccounts 2 (some .int) 7 1 6 (D, cy, sa) [.ref f, .int x] (ws) (fun w u => okA (qMib v x) ∧ w = some (.int (qMib v x)) ∧ FS cy f (S) u) (fun E u => noA (qMib v x) ∧ E = exC (qMib v x) ∧ FS cy f S u) := by
  obtain ⟨fa, s, o, pr, un, hs, an, e1, e2, fc, SC, OB, sn, AD, VS, rfl, hF⟩ := hS
  obtain ⟨⟨hpr, hfc⟩, ⟨hv0, hul, hun, hus⟩, ⟨hh1, hh2⟩, hSC, hOB, he1, he2⟩ := id hF
  have hA0 : fc pr = AD 0 0 := by
    have := hfc 0 (by decide)
    rwa [show (pr + 0) % 10 = pr by omega] at this
  have hA1 : fc ((pr + 1) % 10) = AD 1 0 := hfc 1 (by decide)
  have hv : Wf (VS 0) := hv0 ▸ hI.1.1.1
  have hFB : FB (VS 0) := hv0 ▸ hI.1.2
  have hInv : Inv K (VS 0) := hv0 ▸ hI.1.1
  obtain rfl : v = VS 0 := hvS.trans hv0
  have h8 := hv.2.2.1
  have hFS : FS cy f S (wBF cy f fa s o an pr un hs e1 e2 fc SC OB sn AD VS) := ⟨fa, s, o, pr, un, hs, an, e1, e2, fc, SC, OB, sn, AD, VS, rfl, hF⟩
  refine MX_by (own := RX5) (L := [some (.ref f), some (.int x)]) hst (by decide +kernel) rfl rfl (Nat.le_of_ble_eq_true rfl) 0 rfl (fun X hX hE hO hnL hG hcy hnm => ?_)
  refine r_aload_n (pc' := 1) hX dX5_metalByAccounts_0 rfl rfl ?_
  refine V_call0 (k' := 0) (n' := 0) (pc' := 4) hX (r_runV (As := []) hX dX5_metalByAccounts_1 k_X5_88 (fun l9 hl9 => cF_now (by assumption) (by assumption)) hG ⟨7, _, TX5, 9, List.mem_cons_self, rfl⟩ rfl rfl (Nat.le_of_ble_eq_true rfl) (by decide) (by decide) (by decide) (by decide)) rfl rfl rfl (fun w9 u9 hp9 => ?_)
  obtain ⟨rfl, rfl⟩ := hp9
  change V X 0 0 (wBF cy f fa s o an pr un hs e1 e2 fc SC OB sn AD VS) [some (.ref f), some (.int x)] [.ref (AD 0 0)] 4
  refine r_iload_n (pc' := 5) hX dX5_metalByAccounts_4 rfl rfl ?_
  refine V_call (k' := 0) (n' := 0) (pc' := 8) (wr := (((wBFl cy f fa s o an pr un hs e1 e2 fc SC OB sn AD VS)).eraseIdx 1).flatten) hX (r_runV (As := [.int x]) hX dX5_metalByAccounts_5 k_X5_180 (fun l9 hl9 => cS_metalByBooks hv) hG ⟨6, _, TX4, 17, List.mem_cons_self, rfl⟩ rfl rfl (Nat.le_of_ble_eq_true rfl) (by decide) (by decide) (by decide) (by decide)) (fl_out (bs := (wBFl cy f fa s o an pr un hs e1 e2 fc SC OB sn AD VS)) 1 rfl) rfl rfl rfl (fun w9 u9 hp9 => ?_)
  obtain ⟨rfl, rfl⟩ := hp9
  rw [qMib_boo hInv]
  change V X 0 0 (wSt cy (AD 0) (VS 0) ++ (((wBFl cy f fa s o an pr un hs e1 e2 fc SC OB sn AD VS)).eraseIdx 1).flatten) [some (.ref f), some (.int x)] [.int (qMib (VS 0) x)] 8
  refine V_perm (fl_back (bs := (wBFl cy f fa s o an pr un hs e1 e2 fc SC OB sn AD VS)) (bs' := (wBFl cy f fa s o an pr un hs e1 e2 fc SC OB sn AD VS)) 1 rfl rfl) ?_
  refine V_callX (k' := 1) (n' := 6) (pc' := 11) (wr := (wBF cy f fa s o an pr un hs e1 e2 fc SC OB sn AD VS)) hX (r_runSX (As := [.int (qMib (VS 0) x)]) hX dX5_metalByAccounts_8 k_X5_97 (fun l9 hl9 => by cases hl9; exact cF_answered (Outs_nost hO)) hG rfl rfl (Nat.le_of_ble_eq_true rfl) (by decide) (by decide) (by decide) (by decide)) (List.Perm.refl _) rfl rfl rfl (fun w9 u9 hp9 => ?_) ?_
  · obtain ⟨rfl, hx9, rfl⟩ := hp9
    change V X 1 6 (wBF cy f fa s o an pr un hs e1 e2 fc SC OB sn AD VS) [some (.ref f), some (.int x)] [.int (qMib (VS 0) x)] 11
    exact r_ireturn hX hE dX5_metalByAccounts_11 rfl ⟨hx9, rfl, hFS⟩ (by omega) (by omega)
  · intro E9 u9 hp9
    obtain ⟨hx9, hE9, rfl⟩ := hp9
    exact VX_out hX hO ⟨hx9, hE9, hFS⟩ (by decide) (by decide)

set_option maxRecDepth 20000 in
set_option maxHeartbeats 1000000 in
theorem cF_isFailed {l : Launch} {D : va_G} {cy : Nat → ClassId} {sa : Nat → Nat} {f K : Nat} {S : AS} {ws : va_W} {v : SV} (hvS : v = S.1) (hS : FS cy f S ws) (hI : AI K S) {x : Int32} (hst : l.stackTraces = false) : MX l yX5_isFailed cX5_isFailed 2 (some .boolean) 8 1 6 (D, cy, sa) [.ref f, .int x] (ws) (fun w u => okA (qBat (bNum 4) v x) ∧ w = some (.int (qBat (bNum 4) v x)) ∧ FS cy f (S) u) (fun E u => noA (qBat (bNum 4) v x) ∧ E = exC (qBat (bNum 4) v x) ∧ FS cy f S u) := by
  obtain ⟨fa, s, o, pr, un, hs, an, e1, e2, fc, SC, OB, sn, AD, VS, rfl, hF⟩ := hS
  obtain ⟨⟨hpr, hfc⟩, ⟨hv0, hul, hun, hus⟩, ⟨hh1, hh2⟩, hSC, hOB, he1, he2⟩ := id hF
  have hA0 : fc pr = AD 0 0 := by
    have := hfc 0 (by decide)
    rwa [show (pr + 0) % 10 = pr by omega] at this
  have hA1 : fc ((pr + 1) % 10) = AD 1 0 := hfc 1 (by decide)
  have hv : Wf (VS 0) := hv0 ▸ hI.1.1.1
  have hFB : FB (VS 0) := hv0 ▸ hI.1.2
  have hInv : Inv K (VS 0) := hv0 ▸ hI.1.1
  obtain rfl : v = VS 0 := hvS.trans hv0
  have h8 := hv.2.2.1
  have hFS : FS cy f S (wBF cy f fa s o an pr un hs e1 e2 fc SC OB sn AD VS) := ⟨fa, s, o, pr, un, hs, an, e1, e2, fc, SC, OB, sn, AD, VS, rfl, hF⟩
  refine MX_by (own := RX5) (L := [some (.ref f), some (.int x)]) hst (by decide +kernel) rfl rfl (Nat.le_of_ble_eq_true rfl) 0 rfl (fun X hX hE hO hnL hG hcy hnm => ?_)
  refine r_aload_n (pc' := 1) hX dX5_isFailed_0 rfl rfl ?_
  refine V_call0 (k' := 0) (n' := 0) (pc' := 4) hX (r_runV (As := []) hX dX5_isFailed_1 k_X5_88 (fun l9 hl9 => cF_now (by assumption) (by assumption)) hG ⟨7, _, TX5, 9, List.mem_cons_self, rfl⟩ rfl rfl (Nat.le_of_ble_eq_true rfl) (by decide) (by decide) (by decide) (by decide)) rfl rfl rfl (fun w9 u9 hp9 => ?_)
  obtain ⟨rfl, rfl⟩ := hp9
  change V X 0 0 (wBF cy f fa s o an pr un hs e1 e2 fc SC OB sn AD VS) [some (.ref f), some (.int x)] [.ref (AD 0 0)] 4
  refine r_getN (pc' := 7) (v := .ref (AD 0 14)) hX dX5_isFailed_4 f_X5_128 2 rfl rfl rfl ?_
  refine r_aload_n (pc' := 8) hX dX5_isFailed_7 rfl rfl ?_
  refine r_iload_n (pc' := 9) hX dX5_isFailed_8 rfl rfl ?_
  refine V_call0X (k' := 1) (n' := 6) (pc' := 12) hX (r_runVX (As := [.int x]) hX dX5_isFailed_9 k_X5_137 (fun l9 hl9 => by cases hl9; exact cF_place (Outs_nost hO) hpr hA0 hv) hG ⟨7, _, TX5, 9, List.mem_cons_self, rfl⟩ rfl rfl (Nat.le_of_ble_eq_true rfl) (by decide) (by decide) (by decide) (by decide)) rfl rfl rfl (fun w9 u9 hp9 => ?_) ?_
  · obtain ⟨rfl, q9, rfl⟩ := hp9
    have hq9 : qBat (bNum 4) (VS 0) x = nI (VS 0 (13 + plc (VS 0) x.toInt) 4) := if_pos q9
    obtain ⟨⟨b1, b2⟩, b3, b4, b5, b6, b7⟩ := hv.2.2.2.2.2.2.1 _ q9
    have b8 := hFB _ (show plc (VS 0) x.toInt < 8 by omega)
    change V X 1 6 (wBF cy f fa s o an pr un hs e1 e2 fc SC OB sn AD VS) [some (.ref f), some (.int x)] [.int (nI (plc (VS 0) x.toInt)), .ref (AD 0 14)] 12
    refine r_aald (pc' := 13) hX dX5_isFailed_12 4 (by rw [hcy]; rfl) rfl (BF_mem0 (List.mem_append_left _ (List.mem_of_getElem? (i := 14) rfl))) (by omega) (by decide) (if_pos (by omega)) rfl ?_
    change V X 1 6 (wBF cy f fa s o an pr un hs e1 e2 fc SC OB sn AD VS) [some (.ref f), some (.int x)] [.ref (AD 0 (15 + (plc (VS 0) x.toInt)))] 13
    refine r_getNM (pc' := 16) hX dX5_isFailed_13 f_X5_140 (BF_bat (by omega) List.mem_cons_self) rfl rfl ?_
    change V X 1 6 (wBF cy f fa s o an pr un hs e1 e2 fc SC OB sn AD VS) [some (.ref f), some (.int x)] [.int (nI (VS 0 (13 + (plc (VS 0) x.toInt)) 4))] 16
    exact r_zreturn hX hE dX5_isFailed_16 rfl (nar_z b8).1 ⟨by rw [hq9]; exact okN (by omega), by rw [hq9], hFS⟩ (by omega) (by omega)
  · intro E9 u9 hp9
    obtain ⟨hx9, hE9, rfl⟩ := hp9
    have hq9 : qBat (bNum 4) (VS 0) x = -5 := if_neg hx9
    exact VX_out hX hO ⟨by rw [hq9]; decide, by rw [hq9]; exact hE9, hFS⟩ (by decide) (by decide)

set_option maxRecDepth 20000 in
set_option maxHeartbeats 1000000 in
theorem cF_batchSize {l : Launch} {D : va_G} {cy : Nat → ClassId} {sa : Nat → Nat} {f K : Nat} {S : AS} {ws : va_W} {v : SV} (hvS : v = S.1) (hS : FS cy f S ws) (hI : AI K S) {x : Int32} (hst : l.stackTraces = false) : MX l yX5_batchSize cX5_batchSize 2 (some .int) 8 1 6 (D, cy, sa) [.ref f, .int x] (ws) (fun w u => okA (qBat (bNum 2) v x) ∧ w = some (.int (qBat (bNum 2) v x)) ∧ FS cy f (S) u) (fun E u => noA (qBat (bNum 2) v x) ∧ E = exC (qBat (bNum 2) v x) ∧ FS cy f S u) := by
  obtain ⟨fa, s, o, pr, un, hs, an, e1, e2, fc, SC, OB, sn, AD, VS, rfl, hF⟩ := hS
  obtain ⟨⟨hpr, hfc⟩, ⟨hv0, hul, hun, hus⟩, ⟨hh1, hh2⟩, hSC, hOB, he1, he2⟩ := id hF
  have hA0 : fc pr = AD 0 0 := by
    have := hfc 0 (by decide)
    rwa [show (pr + 0) % 10 = pr by omega] at this
  have hA1 : fc ((pr + 1) % 10) = AD 1 0 := hfc 1 (by decide)
  have hv : Wf (VS 0) := hv0 ▸ hI.1.1.1
  have hFB : FB (VS 0) := hv0 ▸ hI.1.2
  have hInv : Inv K (VS 0) := hv0 ▸ hI.1.1
  obtain rfl : v = VS 0 := hvS.trans hv0
  have h8 := hv.2.2.1
  have hFS : FS cy f S (wBF cy f fa s o an pr un hs e1 e2 fc SC OB sn AD VS) := ⟨fa, s, o, pr, un, hs, an, e1, e2, fc, SC, OB, sn, AD, VS, rfl, hF⟩
  refine MX_by (own := RX5) (L := [some (.ref f), some (.int x)]) hst (by decide +kernel) rfl rfl (Nat.le_of_ble_eq_true rfl) 0 rfl (fun X hX hE hO hnL hG hcy hnm => ?_)
  refine r_aload_n (pc' := 1) hX dX5_batchSize_0 rfl rfl ?_
  refine V_call0 (k' := 0) (n' := 0) (pc' := 4) hX (r_runV (As := []) hX dX5_batchSize_1 k_X5_88 (fun l9 hl9 => cF_now (by assumption) (by assumption)) hG ⟨7, _, TX5, 9, List.mem_cons_self, rfl⟩ rfl rfl (Nat.le_of_ble_eq_true rfl) (by decide) (by decide) (by decide) (by decide)) rfl rfl rfl (fun w9 u9 hp9 => ?_)
  obtain ⟨rfl, rfl⟩ := hp9
  change V X 0 0 (wBF cy f fa s o an pr un hs e1 e2 fc SC OB sn AD VS) [some (.ref f), some (.int x)] [.ref (AD 0 0)] 4
  refine r_getN (pc' := 7) (v := .ref (AD 0 14)) hX dX5_batchSize_4 f_X5_128 2 rfl rfl rfl ?_
  refine r_aload_n (pc' := 8) hX dX5_batchSize_7 rfl rfl ?_
  refine r_iload_n (pc' := 9) hX dX5_batchSize_8 rfl rfl ?_
  refine V_call0X (k' := 1) (n' := 6) (pc' := 12) hX (r_runVX (As := [.int x]) hX dX5_batchSize_9 k_X5_137 (fun l9 hl9 => by cases hl9; exact cF_place (Outs_nost hO) hpr hA0 hv) hG ⟨7, _, TX5, 9, List.mem_cons_self, rfl⟩ rfl rfl (Nat.le_of_ble_eq_true rfl) (by decide) (by decide) (by decide) (by decide)) rfl rfl rfl (fun w9 u9 hp9 => ?_) ?_
  · obtain ⟨rfl, q9, rfl⟩ := hp9
    have hq9 : qBat (bNum 2) (VS 0) x = nI (VS 0 (13 + plc (VS 0) x.toInt) 2) := if_pos q9
    obtain ⟨⟨b1, b2⟩, b3, b4, b5, b6, b7⟩ := hv.2.2.2.2.2.2.1 _ q9
    have b8 := hFB _ (show plc (VS 0) x.toInt < 8 by omega)
    change V X 1 6 (wBF cy f fa s o an pr un hs e1 e2 fc SC OB sn AD VS) [some (.ref f), some (.int x)] [.int (nI (plc (VS 0) x.toInt)), .ref (AD 0 14)] 12
    refine r_aald (pc' := 13) hX dX5_batchSize_12 4 (by rw [hcy]; rfl) rfl (BF_mem0 (List.mem_append_left _ (List.mem_of_getElem? (i := 14) rfl))) (by omega) (by decide) (if_pos (by omega)) rfl ?_
    change V X 1 6 (wBF cy f fa s o an pr un hs e1 e2 fc SC OB sn AD VS) [some (.ref f), some (.int x)] [.ref (AD 0 (15 + (plc (VS 0) x.toInt)))] 13
    refine r_getNM (pc' := 16) hX dX5_batchSize_13 f_X5_143 (BF_bat (by omega) List.mem_cons_self) rfl rfl ?_
    change V X 1 6 (wBF cy f fa s o an pr un hs e1 e2 fc SC OB sn AD VS) [some (.ref f), some (.int x)] [.int (nI (VS 0 (13 + (plc (VS 0) x.toInt)) 2))] 16
    exact r_ireturn hX hE dX5_batchSize_16 rfl ⟨by rw [hq9]; exact okN (by omega), by rw [hq9], hFS⟩ (by omega) (by omega)
  · intro E9 u9 hp9
    obtain ⟨hx9, hE9, rfl⟩ := hp9
    have hq9 : qBat (bNum 2) (VS 0) x = -5 := if_neg hx9
    exact VX_out hX hO ⟨by rw [hq9]; decide, by rw [hq9]; exact hE9, hFS⟩ (by decide) (by decide)

set_option maxRecDepth 20000 in
set_option maxHeartbeats 1000000 in
theorem cF_firstBow {l : Launch} {D : va_G} {cy : Nat → ClassId} {sa : Nat → Nat} {f K : Nat} {S : AS} {ws : va_W} {v : SV} (hvS : v = S.1) (hS : FS cy f S ws) (hI : AI K S) {x : Int32} (hst : l.stackTraces = false) : MX l yX5_firstBow cX5_firstBow 2 (some .int) 8 1 6 (D, cy, sa) [.ref f, .int x] (ws) (fun w u => okA (qBat (bNum 1) v x) ∧ w = some (.int (qBat (bNum 1) v x)) ∧ FS cy f (S) u) (fun E u => noA (qBat (bNum 1) v x) ∧ E = exC (qBat (bNum 1) v x) ∧ FS cy f S u) := by
  obtain ⟨fa, s, o, pr, un, hs, an, e1, e2, fc, SC, OB, sn, AD, VS, rfl, hF⟩ := hS
  obtain ⟨⟨hpr, hfc⟩, ⟨hv0, hul, hun, hus⟩, ⟨hh1, hh2⟩, hSC, hOB, he1, he2⟩ := id hF
  have hA0 : fc pr = AD 0 0 := by
    have := hfc 0 (by decide)
    rwa [show (pr + 0) % 10 = pr by omega] at this
  have hA1 : fc ((pr + 1) % 10) = AD 1 0 := hfc 1 (by decide)
  have hv : Wf (VS 0) := hv0 ▸ hI.1.1.1
  have hFB : FB (VS 0) := hv0 ▸ hI.1.2
  have hInv : Inv K (VS 0) := hv0 ▸ hI.1.1
  obtain rfl : v = VS 0 := hvS.trans hv0
  have h8 := hv.2.2.1
  have hFS : FS cy f S (wBF cy f fa s o an pr un hs e1 e2 fc SC OB sn AD VS) := ⟨fa, s, o, pr, un, hs, an, e1, e2, fc, SC, OB, sn, AD, VS, rfl, hF⟩
  refine MX_by (own := RX5) (L := [some (.ref f), some (.int x)]) hst (by decide +kernel) rfl rfl (Nat.le_of_ble_eq_true rfl) 0 rfl (fun X hX hE hO hnL hG hcy hnm => ?_)
  refine r_aload_n (pc' := 1) hX dX5_firstBow_0 rfl rfl ?_
  refine V_call0 (k' := 0) (n' := 0) (pc' := 4) hX (r_runV (As := []) hX dX5_firstBow_1 k_X5_88 (fun l9 hl9 => cF_now (by assumption) (by assumption)) hG ⟨7, _, TX5, 9, List.mem_cons_self, rfl⟩ rfl rfl (Nat.le_of_ble_eq_true rfl) (by decide) (by decide) (by decide) (by decide)) rfl rfl rfl (fun w9 u9 hp9 => ?_)
  obtain ⟨rfl, rfl⟩ := hp9
  change V X 0 0 (wBF cy f fa s o an pr un hs e1 e2 fc SC OB sn AD VS) [some (.ref f), some (.int x)] [.ref (AD 0 0)] 4
  refine r_getN (pc' := 7) (v := .ref (AD 0 14)) hX dX5_firstBow_4 f_X5_128 2 rfl rfl rfl ?_
  refine r_aload_n (pc' := 8) hX dX5_firstBow_7 rfl rfl ?_
  refine r_iload_n (pc' := 9) hX dX5_firstBow_8 rfl rfl ?_
  refine V_call0X (k' := 1) (n' := 6) (pc' := 12) hX (r_runVX (As := [.int x]) hX dX5_firstBow_9 k_X5_137 (fun l9 hl9 => by cases hl9; exact cF_place (Outs_nost hO) hpr hA0 hv) hG ⟨7, _, TX5, 9, List.mem_cons_self, rfl⟩ rfl rfl (Nat.le_of_ble_eq_true rfl) (by decide) (by decide) (by decide) (by decide)) rfl rfl rfl (fun w9 u9 hp9 => ?_) ?_
  · obtain ⟨rfl, q9, rfl⟩ := hp9
    have hq9 : qBat (bNum 1) (VS 0) x = nI (VS 0 (13 + plc (VS 0) x.toInt) 1) := if_pos q9
    obtain ⟨⟨b1, b2⟩, b3, b4, b5, b6, b7⟩ := hv.2.2.2.2.2.2.1 _ q9
    have b8 := hFB _ (show plc (VS 0) x.toInt < 8 by omega)
    change V X 1 6 (wBF cy f fa s o an pr un hs e1 e2 fc SC OB sn AD VS) [some (.ref f), some (.int x)] [.int (nI (plc (VS 0) x.toInt)), .ref (AD 0 14)] 12
    refine r_aald (pc' := 13) hX dX5_firstBow_12 4 (by rw [hcy]; rfl) rfl (BF_mem0 (List.mem_append_left _ (List.mem_of_getElem? (i := 14) rfl))) (by omega) (by decide) (if_pos (by omega)) rfl ?_
    change V X 1 6 (wBF cy f fa s o an pr un hs e1 e2 fc SC OB sn AD VS) [some (.ref f), some (.int x)] [.ref (AD 0 (15 + (plc (VS 0) x.toInt)))] 13
    refine r_getNM (pc' := 16) hX dX5_firstBow_13 f_X5_146 (BF_bat (by omega) List.mem_cons_self) rfl rfl ?_
    change V X 1 6 (wBF cy f fa s o an pr un hs e1 e2 fc SC OB sn AD VS) [some (.ref f), some (.int x)] [.int (nI (VS 0 (13 + (plc (VS 0) x.toInt)) 1))] 16
    exact r_ireturn hX hE dX5_firstBow_16 rfl ⟨by rw [hq9]; exact okN (by omega), by rw [hq9], hFS⟩ (by omega) (by omega)
  · intro E9 u9 hp9
    obtain ⟨hx9, hE9, rfl⟩ := hp9
    have hq9 : qBat (bNum 1) (VS 0) x = -5 := if_neg hx9
    exact VX_out hX hO ⟨by rw [hq9]; decide, by rw [hq9]; exact hE9, hFS⟩ (by decide) (by decide)

set_option maxRecDepth 20000 in
set_option maxHeartbeats 1000000 in
theorem cF_goodBows {l : Launch} {D : va_G} {cy : Nat → ClassId} {sa : Nat → Nat} {f K : Nat} {S : AS} {ws : va_W} {v : SV} (hvS : v = S.1) (hS : FS cy f S ws) (hI : AI K S) {x : Int32} (hst : l.stackTraces = false) : MX l yX5_goodBows cX5_goodBows 2 (some .int) 8 1 6 (D, cy, sa) [.ref f, .int x] (ws) (fun w u => okA (qBat bGood v x) ∧ w = some (.int (qBat bGood v x)) ∧ FS cy f (S) u) (fun E u => noA (qBat bGood v x) ∧ E = exC (qBat bGood v x) ∧ FS cy f S u) := by
  obtain ⟨fa, s, o, pr, un, hs, an, e1, e2, fc, SC, OB, sn, AD, VS, rfl, hF⟩ := hS
  obtain ⟨⟨hpr, hfc⟩, ⟨hv0, hul, hun, hus⟩, ⟨hh1, hh2⟩, hSC, hOB, he1, he2⟩ := id hF
  have hA0 : fc pr = AD 0 0 := by
    have := hfc 0 (by decide)
    rwa [show (pr + 0) % 10 = pr by omega] at this
  have hA1 : fc ((pr + 1) % 10) = AD 1 0 := hfc 1 (by decide)
  have hv : Wf (VS 0) := hv0 ▸ hI.1.1.1
  have hFB : FB (VS 0) := hv0 ▸ hI.1.2
  have hInv : Inv K (VS 0) := hv0 ▸ hI.1.1
  obtain rfl : v = VS 0 := hvS.trans hv0
  have h8 := hv.2.2.1
  have hFS : FS cy f S (wBF cy f fa s o an pr un hs e1 e2 fc SC OB sn AD VS) := ⟨fa, s, o, pr, un, hs, an, e1, e2, fc, SC, OB, sn, AD, VS, rfl, hF⟩
  have hst5 := hv.2.2.2.1
  have htol := hv.2.2.2.2.1
  refine MX_by (own := RX5) (L := [some (.ref f), some (.int x)]) hst (by decide +kernel) rfl rfl (Nat.le_of_ble_eq_true rfl) 0 rfl (fun X hX hE hO hnL hG hcy hnm => ?_)
  refine r_aload_n (pc' := 1) hX dX5_goodBows_0 rfl rfl ?_
  refine V_call0 (k' := 0) (n' := 0) (pc' := 4) hX (r_runV (As := []) hX dX5_goodBows_1 k_X5_88 (fun l9 hl9 => cF_now (by assumption) (by assumption)) hG ⟨7, _, TX5, 9, List.mem_cons_self, rfl⟩ rfl rfl (Nat.le_of_ble_eq_true rfl) (by decide) (by decide) (by decide) (by decide)) rfl rfl rfl (fun w9 u9 hp9 => ?_)
  obtain ⟨rfl, rfl⟩ := hp9
  change V X 0 0 (wBF cy f fa s o an pr un hs e1 e2 fc SC OB sn AD VS) [some (.ref f), some (.int x)] [.ref (AD 0 0)] 4
  refine r_getN (pc' := 7) (v := .ref (AD 0 14)) hX dX5_goodBows_4 f_X5_128 2 rfl rfl rfl ?_
  refine r_aload_n (pc' := 8) hX dX5_goodBows_7 rfl rfl ?_
  refine r_iload_n (pc' := 9) hX dX5_goodBows_8 rfl rfl ?_
  refine V_call0X (k' := 1) (n' := 6) (pc' := 12) hX (r_runVX (As := [.int x]) hX dX5_goodBows_9 k_X5_137 (fun l9 hl9 => by cases hl9; exact cF_place (Outs_nost hO) hpr hA0 hv) hG ⟨7, _, TX5, 9, List.mem_cons_self, rfl⟩ rfl rfl (Nat.le_of_ble_eq_true rfl) (by decide) (by decide) (by decide) (by decide)) rfl rfl rfl (fun w9 u9 hp9 => ?_) ?_
  · obtain ⟨rfl, q9, rfl⟩ := hp9
    have hq9 : qBat bGood (VS 0) x = nI (cG (VS 0 (21 + plc (VS 0) x.toInt)) 1 (VS 0 0 2) (VS 0 (13 + plc (VS 0) x.toInt) 2)) := if_pos q9
    obtain ⟨⟨b1, b2⟩, b3, b4, b5, b6, b7⟩ := hv.2.2.2.2.2.2.1 _ q9
    have b8 := hFB _ (show plc (VS 0) x.toInt < 8 by omega)
    change V X 1 6 (wBF cy f fa s o an pr un hs e1 e2 fc SC OB sn AD VS) [some (.ref f), some (.int x)] [.int (nI (plc (VS 0) x.toInt)), .ref (AD 0 14)] 12
    refine r_aald (pc' := 13) hX dX5_goodBows_12 4 (by rw [hcy]; rfl) rfl (BF_mem0 (List.mem_append_left _ (List.mem_of_getElem? (i := 14) rfl))) (by omega) (by decide) (if_pos (by omega)) rfl ?_
    change V X 1 6 (wBF cy f fa s o an pr un hs e1 e2 fc SC OB sn AD VS) [some (.ref f), some (.int x)] [.ref (AD 0 (15 + (plc (VS 0) x.toInt)))] 13
    refine r_iconst (pc' := 14) (v := nI 1) hX dX5_goodBows_13 rfl rfl ?_
    refine r_aload_n (pc' := 15) hX dX5_goodBows_14 rfl rfl ?_
    refine V_call0 (k' := 1) (n' := 6) (pc' := 18) hX (r_runV (As := []) hX dX5_goodBows_15 k_X5_88 (fun l9 hl9 => cF_now (by assumption) (by assumption)) hG ⟨7, _, TX5, 9, List.mem_cons_self, rfl⟩ rfl rfl (Nat.le_of_ble_eq_true rfl) (by decide) (by decide) (by decide) (by decide)) rfl rfl rfl (fun w9 u9 hp9 => ?_)
    obtain ⟨rfl, rfl⟩ := hp9
    change V X 1 6 (wBF cy f fa s o an pr un hs e1 e2 fc SC OB sn AD VS) [some (.ref f), some (.int x)] [.ref (AD 0 0), .int (nI 1), .ref (AD 0 (15 + (plc (VS 0) x.toInt)))] 18
    refine r_getN (pc' := 21) (v := .int (nI (VS 0 0 2))) hX dX5_goodBows_18 f_X5_112 2 rfl rfl rfl ?_
    refine V_call (k' := 1) (n' := 6) (pc' := 24) (wr := ((wSt0 cy (AD 0) (VS 0) ++ wRest 8 (plc (VS 0) x.toInt) (wStB cy (AD 0) (VS 0))) ++ ((wBFl cy f fa s o an pr un hs e1 e2 fc SC OB sn AD VS).eraseIdx 1).flatten)) hX (r_runV (As := [.int (nI 1), .int (nI (VS 0 0 2))]) hX dX5_goodBows_21 k_X5_155 (fun l9 hl9 => cB_goodSampled (a := AD 0 (15 + (plc (VS 0) x.toInt))) (q := AD 0 (23 + (plc (VS 0) x.toInt))) (b := VS 0 (13 + (plc (VS 0) x.toInt))) (sq := VS 0 (21 + (plc (VS 0) x.toInt))) b2 (by omega) (by omega) b7) hG ⟨4, _, TX1, 6, List.mem_cons_self, rfl⟩ rfl rfl (Nat.le_of_ble_eq_true rfl) (by decide) (by decide) (by decide) (by decide)) (BF_batp (by omega)) rfl rfl rfl (fun w9 u9 hp9 => ?_)
    obtain ⟨rfl, rfl⟩ := hp9
    change V X 1 6 (wBat cy (AD 0 (15 + (plc (VS 0) x.toInt))) (AD 0 (23 + (plc (VS 0) x.toInt))) (VS 0 (13 + (plc (VS 0) x.toInt))) (VS 0 (21 + (plc (VS 0) x.toInt))) ++ ((wSt0 cy (AD 0) (VS 0) ++ wRest 8 (plc (VS 0) x.toInt) (wStB cy (AD 0) (VS 0))) ++ ((wBFl cy f fa s o an pr un hs e1 e2 fc SC OB sn AD VS).eraseIdx 1).flatten)) [some (.ref f), some (.int x)] [.int (nI (cG (VS 0 (21 + (plc (VS 0) x.toInt))) 1 (VS 0 0 2) (VS 0 (13 + (plc (VS 0) x.toInt)) 2)))] 24
    refine V_perm ((BF_batp (by omega)).symm) ?_
    exact r_ireturn hX hE dX5_goodBows_24 rfl ⟨by rw [hq9]; exact okN (Nat.lt_of_le_of_lt (cG_le _) (by omega)), by rw [hq9], hFS⟩ (by omega) (by omega)
  · intro E9 u9 hp9
    obtain ⟨hx9, hE9, rfl⟩ := hp9
    have hq9 : qBat bGood (VS 0) x = -5 := if_neg hx9
    exact VX_out hX hO ⟨by rw [hq9]; decide, by rw [hq9]; exact hE9, hFS⟩ (by decide) (by decide)

set_option maxRecDepth 20000 in
set_option maxHeartbeats 1000000 in
theorem cF_sampleSize {l : Launch} {D : va_G} {cy : Nat → ClassId} {sa : Nat → Nat} {f K : Nat} {S : AS} {ws : va_W} {v : SV} (hvS : v = S.1) (hS : FS cy f S ws) (hI : AI K S) {x : Int32} (hst : l.stackTraces = false) : MX l yX5_sampleSize cX5_sampleSize 2 (some .int) 8 1 6 (D, cy, sa) [.ref f, .int x] (ws) (fun w u => okA (qBat bSam v x) ∧ w = some (.int (qBat bSam v x)) ∧ FS cy f (S) u) (fun E u => noA (qBat bSam v x) ∧ E = exC (qBat bSam v x) ∧ FS cy f S u) := by
  obtain ⟨fa, s, o, pr, un, hs, an, e1, e2, fc, SC, OB, sn, AD, VS, rfl, hF⟩ := hS
  obtain ⟨⟨hpr, hfc⟩, ⟨hv0, hul, hun, hus⟩, ⟨hh1, hh2⟩, hSC, hOB, he1, he2⟩ := id hF
  have hA0 : fc pr = AD 0 0 := by
    have := hfc 0 (by decide)
    rwa [show (pr + 0) % 10 = pr by omega] at this
  have hA1 : fc ((pr + 1) % 10) = AD 1 0 := hfc 1 (by decide)
  have hv : Wf (VS 0) := hv0 ▸ hI.1.1.1
  have hFB : FB (VS 0) := hv0 ▸ hI.1.2
  have hInv : Inv K (VS 0) := hv0 ▸ hI.1.1
  obtain rfl : v = VS 0 := hvS.trans hv0
  have h8 := hv.2.2.1
  have hFS : FS cy f S (wBF cy f fa s o an pr un hs e1 e2 fc SC OB sn AD VS) := ⟨fa, s, o, pr, un, hs, an, e1, e2, fc, SC, OB, sn, AD, VS, rfl, hF⟩
  have hst5 := hv.2.2.2.1
  have htol := hv.2.2.2.2.1
  refine MX_by (own := RX5) (L := [some (.ref f), some (.int x)]) hst (by decide +kernel) rfl rfl (Nat.le_of_ble_eq_true rfl) 0 rfl (fun X hX hE hO hnL hG hcy hnm => ?_)
  refine r_aload_n (pc' := 1) hX dX5_sampleSize_0 rfl rfl ?_
  refine V_call0 (k' := 0) (n' := 0) (pc' := 4) hX (r_runV (As := []) hX dX5_sampleSize_1 k_X5_88 (fun l9 hl9 => cF_now (by assumption) (by assumption)) hG ⟨7, _, TX5, 9, List.mem_cons_self, rfl⟩ rfl rfl (Nat.le_of_ble_eq_true rfl) (by decide) (by decide) (by decide) (by decide)) rfl rfl rfl (fun w9 u9 hp9 => ?_)
  obtain ⟨rfl, rfl⟩ := hp9
  change V X 0 0 (wBF cy f fa s o an pr un hs e1 e2 fc SC OB sn AD VS) [some (.ref f), some (.int x)] [.ref (AD 0 0)] 4
  refine r_getN (pc' := 7) (v := .ref (AD 0 14)) hX dX5_sampleSize_4 f_X5_128 2 rfl rfl rfl ?_
  refine r_aload_n (pc' := 8) hX dX5_sampleSize_7 rfl rfl ?_
  refine r_iload_n (pc' := 9) hX dX5_sampleSize_8 rfl rfl ?_
  refine V_call0X (k' := 1) (n' := 6) (pc' := 12) hX (r_runVX (As := [.int x]) hX dX5_sampleSize_9 k_X5_137 (fun l9 hl9 => by cases hl9; exact cF_place (Outs_nost hO) hpr hA0 hv) hG ⟨7, _, TX5, 9, List.mem_cons_self, rfl⟩ rfl rfl (Nat.le_of_ble_eq_true rfl) (by decide) (by decide) (by decide) (by decide)) rfl rfl rfl (fun w9 u9 hp9 => ?_) ?_
  · obtain ⟨rfl, q9, rfl⟩ := hp9
    have hq9 : qBat bSam (VS 0) x = nI (cG (VS 0 (21 + plc (VS 0) x.toInt)) (VS 0 0 3) 99 (VS 0 (13 + plc (VS 0) x.toInt) 2)) := if_pos q9
    obtain ⟨⟨b1, b2⟩, b3, b4, b5, b6, b7⟩ := hv.2.2.2.2.2.2.1 _ q9
    have b8 := hFB _ (show plc (VS 0) x.toInt < 8 by omega)
    change V X 1 6 (wBF cy f fa s o an pr un hs e1 e2 fc SC OB sn AD VS) [some (.ref f), some (.int x)] [.int (nI (plc (VS 0) x.toInt)), .ref (AD 0 14)] 12
    refine r_aald (pc' := 13) hX dX5_sampleSize_12 4 (by rw [hcy]; rfl) rfl (BF_mem0 (List.mem_append_left _ (List.mem_of_getElem? (i := 14) rfl))) (by omega) (by decide) (if_pos (by omega)) rfl ?_
    change V X 1 6 (wBF cy f fa s o an pr un hs e1 e2 fc SC OB sn AD VS) [some (.ref f), some (.int x)] [.ref (AD 0 (15 + (plc (VS 0) x.toInt)))] 13
    refine r_aload_n (pc' := 14) hX dX5_sampleSize_13 rfl rfl ?_
    refine V_call0 (k' := 1) (n' := 6) (pc' := 17) hX (r_runV (As := []) hX dX5_sampleSize_14 k_X5_88 (fun l9 hl9 => cF_now (by assumption) (by assumption)) hG ⟨7, _, TX5, 9, List.mem_cons_self, rfl⟩ rfl rfl (Nat.le_of_ble_eq_true rfl) (by decide) (by decide) (by decide) (by decide)) rfl rfl rfl (fun w9 u9 hp9 => ?_)
    obtain ⟨rfl, rfl⟩ := hp9
    change V X 1 6 (wBF cy f fa s o an pr un hs e1 e2 fc SC OB sn AD VS) [some (.ref f), some (.int x)] [.ref (AD 0 0), .ref (AD 0 (15 + (plc (VS 0) x.toInt)))] 17
    refine r_getN (pc' := 20) (v := .int (nI (VS 0 0 3))) hX dX5_sampleSize_17 f_X5_115 2 rfl rfl rfl ?_
    refine V_call (k' := 1) (n' := 6) (pc' := 23) (wr := ((wSt0 cy (AD 0) (VS 0) ++ wRest 8 (plc (VS 0) x.toInt) (wStB cy (AD 0) (VS 0))) ++ ((wBFl cy f fa s o an pr un hs e1 e2 fc SC OB sn AD VS).eraseIdx 1).flatten)) hX (r_runV (As := [.int (nI (VS 0 0 3))]) hX dX5_sampleSize_20 k_X5_158 (fun l9 hl9 => cB_sampled (a := AD 0 (15 + (plc (VS 0) x.toInt))) (q := AD 0 (23 + (plc (VS 0) x.toInt))) (b := VS 0 (13 + (plc (VS 0) x.toInt))) (sq := VS 0 (21 + (plc (VS 0) x.toInt))) b2 (by omega) b7) hG ⟨4, _, TX1, 6, List.mem_cons_self, rfl⟩ rfl rfl (Nat.le_of_ble_eq_true rfl) (by decide) (by decide) (by decide) (by decide)) (BF_batp (by omega)) rfl rfl rfl (fun w9 u9 hp9 => ?_)
    obtain ⟨rfl, rfl⟩ := hp9
    change V X 1 6 (wBat cy (AD 0 (15 + (plc (VS 0) x.toInt))) (AD 0 (23 + (plc (VS 0) x.toInt))) (VS 0 (13 + (plc (VS 0) x.toInt))) (VS 0 (21 + (plc (VS 0) x.toInt))) ++ ((wSt0 cy (AD 0) (VS 0) ++ wRest 8 (plc (VS 0) x.toInt) (wStB cy (AD 0) (VS 0))) ++ ((wBFl cy f fa s o an pr un hs e1 e2 fc SC OB sn AD VS).eraseIdx 1).flatten)) [some (.ref f), some (.int x)] [.int (nI (cG (VS 0 (21 + (plc (VS 0) x.toInt))) (VS 0 0 3) 99 (VS 0 (13 + (plc (VS 0) x.toInt)) 2)))] 23
    refine V_perm ((BF_batp (by omega)).symm) ?_
    exact r_ireturn hX hE dX5_sampleSize_23 rfl ⟨by rw [hq9]; exact okN (Nat.lt_of_le_of_lt (cG_le _) (by omega)), by rw [hq9], hFS⟩ (by omega) (by omega)
  · intro E9 u9 hp9
    obtain ⟨hx9, hE9, rfl⟩ := hp9
    have hq9 : qBat bSam (VS 0) x = -5 := if_neg hx9
    exact VX_out hX hO ⟨by rw [hq9]; decide, by rw [hq9]; exact hE9, hFS⟩ (by decide) (by decide)

set_option maxRecDepth 20000 in
set_option maxHeartbeats 1000000 in
theorem cF_neededTolerance {l : Launch} {D : va_G} {cy : Nat → ClassId} {sa : Nat → Nat} {f K : Nat} {S : AS} {ws : va_W} {v : SV} (hvS : v = S.1) (hS : FS cy f S ws) (hI : AI K S) {x : Int32} (hst : l.stackTraces = false) : MX l yX5_neededTolerance cX5_neededTolerance 2 (some .int) 8 1 6 (D, cy, sa) [.ref f, .int x] (ws) (fun w u => okA (qBat bNee v x) ∧ w = some (.int (qBat bNee v x)) ∧ FS cy f (S) u) (fun E u => noA (qBat bNee v x) ∧ E = exC (qBat bNee v x) ∧ FS cy f S u) := by
  obtain ⟨fa, s, o, pr, un, hs, an, e1, e2, fc, SC, OB, sn, AD, VS, rfl, hF⟩ := hS
  obtain ⟨⟨hpr, hfc⟩, ⟨hv0, hul, hun, hus⟩, ⟨hh1, hh2⟩, hSC, hOB, he1, he2⟩ := id hF
  have hA0 : fc pr = AD 0 0 := by
    have := hfc 0 (by decide)
    rwa [show (pr + 0) % 10 = pr by omega] at this
  have hA1 : fc ((pr + 1) % 10) = AD 1 0 := hfc 1 (by decide)
  have hv : Wf (VS 0) := hv0 ▸ hI.1.1.1
  have hFB : FB (VS 0) := hv0 ▸ hI.1.2
  have hInv : Inv K (VS 0) := hv0 ▸ hI.1.1
  obtain rfl : v = VS 0 := hvS.trans hv0
  have h8 := hv.2.2.1
  have hFS : FS cy f S (wBF cy f fa s o an pr un hs e1 e2 fc SC OB sn AD VS) := ⟨fa, s, o, pr, un, hs, an, e1, e2, fc, SC, OB, sn, AD, VS, rfl, hF⟩
  have hst5 := hv.2.2.2.1
  have htol := hv.2.2.2.2.1
  refine MX_by (own := RX5) (L := [some (.ref f), some (.int x)]) hst (by decide +kernel) rfl rfl (Nat.le_of_ble_eq_true rfl) 0 rfl (fun X hX hE hO hnL hG hcy hnm => ?_)
  refine r_aload_n (pc' := 1) hX dX5_neededTolerance_0 rfl rfl ?_
  refine V_call0 (k' := 0) (n' := 0) (pc' := 4) hX (r_runV (As := []) hX dX5_neededTolerance_1 k_X5_88 (fun l9 hl9 => cF_now (by assumption) (by assumption)) hG ⟨7, _, TX5, 9, List.mem_cons_self, rfl⟩ rfl rfl (Nat.le_of_ble_eq_true rfl) (by decide) (by decide) (by decide) (by decide)) rfl rfl rfl (fun w9 u9 hp9 => ?_)
  obtain ⟨rfl, rfl⟩ := hp9
  change V X 0 0 (wBF cy f fa s o an pr un hs e1 e2 fc SC OB sn AD VS) [some (.ref f), some (.int x)] [.ref (AD 0 0)] 4
  refine r_getN (pc' := 7) (v := .ref (AD 0 14)) hX dX5_neededTolerance_4 f_X5_128 2 rfl rfl rfl ?_
  refine r_aload_n (pc' := 8) hX dX5_neededTolerance_7 rfl rfl ?_
  refine r_iload_n (pc' := 9) hX dX5_neededTolerance_8 rfl rfl ?_
  refine V_call0X (k' := 1) (n' := 6) (pc' := 12) hX (r_runVX (As := [.int x]) hX dX5_neededTolerance_9 k_X5_137 (fun l9 hl9 => by cases hl9; exact cF_place (Outs_nost hO) hpr hA0 hv) hG ⟨7, _, TX5, 9, List.mem_cons_self, rfl⟩ rfl rfl (Nat.le_of_ble_eq_true rfl) (by decide) (by decide) (by decide) (by decide)) rfl rfl rfl (fun w9 u9 hp9 => ?_) ?_
  · obtain ⟨rfl, q9, rfl⟩ := hp9
    have hq9 : qBat bNee (VS 0) x = nI (lst (pas (VS 0 (21 + plc (VS 0) x.toInt)) (VS 0 (13 + plc (VS 0) x.toInt) 2) (VS 0 0 3)) 99) := if_pos q9
    obtain ⟨⟨b1, b2⟩, b3, b4, b5, b6, b7⟩ := hv.2.2.2.2.2.2.1 _ q9
    have b8 := hFB _ (show plc (VS 0) x.toInt < 8 by omega)
    change V X 1 6 (wBF cy f fa s o an pr un hs e1 e2 fc SC OB sn AD VS) [some (.ref f), some (.int x)] [.int (nI (plc (VS 0) x.toInt)), .ref (AD 0 14)] 12
    refine r_aald (pc' := 13) hX dX5_neededTolerance_12 4 (by rw [hcy]; rfl) rfl (BF_mem0 (List.mem_append_left _ (List.mem_of_getElem? (i := 14) rfl))) (by omega) (by decide) (if_pos (by omega)) rfl ?_
    change V X 1 6 (wBF cy f fa s o an pr un hs e1 e2 fc SC OB sn AD VS) [some (.ref f), some (.int x)] [.ref (AD 0 (15 + (plc (VS 0) x.toInt)))] 13
    refine r_aload_n (pc' := 14) hX dX5_neededTolerance_13 rfl rfl ?_
    refine V_call0 (k' := 1) (n' := 6) (pc' := 17) hX (r_runV (As := []) hX dX5_neededTolerance_14 k_X5_88 (fun l9 hl9 => cF_now (by assumption) (by assumption)) hG ⟨7, _, TX5, 9, List.mem_cons_self, rfl⟩ rfl rfl (Nat.le_of_ble_eq_true rfl) (by decide) (by decide) (by decide) (by decide)) rfl rfl rfl (fun w9 u9 hp9 => ?_)
    obtain ⟨rfl, rfl⟩ := hp9
    change V X 1 6 (wBF cy f fa s o an pr un hs e1 e2 fc SC OB sn AD VS) [some (.ref f), some (.int x)] [.ref (AD 0 0), .ref (AD 0 (15 + (plc (VS 0) x.toInt)))] 17
    refine r_getN (pc' := 20) (v := .int (nI (VS 0 0 3))) hX dX5_neededTolerance_17 f_X5_115 2 rfl rfl rfl ?_
    refine V_call (k' := 1) (n' := 6) (pc' := 23) (wr := ((wSt0 cy (AD 0) (VS 0) ++ wRest 8 (plc (VS 0) x.toInt) (wStB cy (AD 0) (VS 0))) ++ ((wBFl cy f fa s o an pr un hs e1 e2 fc SC OB sn AD VS).eraseIdx 1).flatten)) hX (r_runV (As := [.int (nI (VS 0 0 3))]) hX dX5_neededTolerance_20 k_X5_165 (fun l9 hl9 => cB_lps (a := AD 0 (15 + (plc (VS 0) x.toInt))) (q := AD 0 (23 + (plc (VS 0) x.toInt))) (b := VS 0 (13 + (plc (VS 0) x.toInt))) (sq := VS 0 (21 + (plc (VS 0) x.toInt))) b2 (by omega) b7) hG ⟨4, _, TX1, 6, List.mem_cons_self, rfl⟩ rfl rfl (Nat.le_of_ble_eq_true rfl) (by decide) (by decide) (by decide) (by decide)) (BF_batp (by omega)) rfl rfl rfl (fun w9 u9 hp9 => ?_)
    obtain ⟨rfl, rfl⟩ := hp9
    change V X 1 6 (wBat cy (AD 0 (15 + (plc (VS 0) x.toInt))) (AD 0 (23 + (plc (VS 0) x.toInt))) (VS 0 (13 + (plc (VS 0) x.toInt))) (VS 0 (21 + (plc (VS 0) x.toInt))) ++ ((wSt0 cy (AD 0) (VS 0) ++ wRest 8 (plc (VS 0) x.toInt) (wStB cy (AD 0) (VS 0))) ++ ((wBFl cy f fa s o an pr un hs e1 e2 fc SC OB sn AD VS).eraseIdx 1).flatten)) [some (.ref f), some (.int x)] [.int (nI (lps (VS 0 (21 + (plc (VS 0) x.toInt))) (VS 0 (13 + (plc (VS 0) x.toInt)) 2) (VS 0 0 3) (VS 0 (13 + (plc (VS 0) x.toInt)) 2)))] 23
    refine V_perm ((BF_batp (by omega)).symm) ?_
    exact r_ireturn hX hE dX5_neededTolerance_23 rfl ⟨by rw [hq9, ← lps_lst]; exact okN (Nat.lt_of_le_of_lt (lps_le _) (by decide)), by rw [hq9, ← lps_lst], hFS⟩ (by omega) (by omega)
  · intro E9 u9 hp9
    obtain ⟨hx9, hE9, rfl⟩ := hp9
    have hq9 : qBat bNee (VS 0) x = -5 := if_neg hx9
    exact VX_out hX hO ⟨by rw [hq9]; decide, by rw [hq9]; exact hE9, hFS⟩ (by decide) (by decide)

set_option maxRecDepth 20000 in
set_option maxHeartbeats 1000000 in
theorem cF_neededToleranceByTrying {l : Launch} {D : va_G} {cy : Nat → ClassId} {sa : Nat → Nat} {f K : Nat} {S : AS} {ws : va_W} {v : SV} (hvS : v = S.1) (hS : FS cy f S ws) (hI : AI K S) {x : Int32} (hst : l.stackTraces = false) : MX l yX5_neededToleranceByTrying cX5_neededToleranceByTrying 2 (some .int) 8 1 6 (D, cy, sa) [.ref f, .int x] (ws) (fun w u => okA (qBat bNee v x) ∧ w = some (.int (qBat bNee v x)) ∧ FS cy f (S) u) (fun E u => noA (qBat bNee v x) ∧ E = exC (qBat bNee v x) ∧ FS cy f S u) := by
  obtain ⟨fa, s, o, pr, un, hs, an, e1, e2, fc, SC, OB, sn, AD, VS, rfl, hF⟩ := hS
  obtain ⟨⟨hpr, hfc⟩, ⟨hv0, hul, hun, hus⟩, ⟨hh1, hh2⟩, hSC, hOB, he1, he2⟩ := id hF
  have hA0 : fc pr = AD 0 0 := by
    have := hfc 0 (by decide)
    rwa [show (pr + 0) % 10 = pr by omega] at this
  have hA1 : fc ((pr + 1) % 10) = AD 1 0 := hfc 1 (by decide)
  have hv : Wf (VS 0) := hv0 ▸ hI.1.1.1
  have hFB : FB (VS 0) := hv0 ▸ hI.1.2
  have hInv : Inv K (VS 0) := hv0 ▸ hI.1.1
  obtain rfl : v = VS 0 := hvS.trans hv0
  have h8 := hv.2.2.1
  have hFS : FS cy f S (wBF cy f fa s o an pr un hs e1 e2 fc SC OB sn AD VS) := ⟨fa, s, o, pr, un, hs, an, e1, e2, fc, SC, OB, sn, AD, VS, rfl, hF⟩
  have hst5 := hv.2.2.2.1
  have htol := hv.2.2.2.2.1
  refine MX_by (own := RX5) (L := [some (.ref f), some (.int x)]) hst (by decide +kernel) rfl rfl (Nat.le_of_ble_eq_true rfl) 0 rfl (fun X hX hE hO hnL hG hcy hnm => ?_)
  refine r_aload_n (pc' := 1) hX dX5_neededToleranceByTrying_0 rfl rfl ?_
  refine V_call0 (k' := 0) (n' := 0) (pc' := 4) hX (r_runV (As := []) hX dX5_neededToleranceByTrying_1 k_X5_88 (fun l9 hl9 => cF_now (by assumption) (by assumption)) hG ⟨7, _, TX5, 9, List.mem_cons_self, rfl⟩ rfl rfl (Nat.le_of_ble_eq_true rfl) (by decide) (by decide) (by decide) (by decide)) rfl rfl rfl (fun w9 u9 hp9 => ?_)
  obtain ⟨rfl, rfl⟩ := hp9
  change V X 0 0 (wBF cy f fa s o an pr un hs e1 e2 fc SC OB sn AD VS) [some (.ref f), some (.int x)] [.ref (AD 0 0)] 4
  refine r_getN (pc' := 7) (v := .ref (AD 0 14)) hX dX5_neededToleranceByTrying_4 f_X5_128 2 rfl rfl rfl ?_
  refine r_aload_n (pc' := 8) hX dX5_neededToleranceByTrying_7 rfl rfl ?_
  refine r_iload_n (pc' := 9) hX dX5_neededToleranceByTrying_8 rfl rfl ?_
  refine V_call0X (k' := 1) (n' := 6) (pc' := 12) hX (r_runVX (As := [.int x]) hX dX5_neededToleranceByTrying_9 k_X5_137 (fun l9 hl9 => by cases hl9; exact cF_place (Outs_nost hO) hpr hA0 hv) hG ⟨7, _, TX5, 9, List.mem_cons_self, rfl⟩ rfl rfl (Nat.le_of_ble_eq_true rfl) (by decide) (by decide) (by decide) (by decide)) rfl rfl rfl (fun w9 u9 hp9 => ?_) ?_
  · obtain ⟨rfl, q9, rfl⟩ := hp9
    have hq9 : qBat bNee (VS 0) x = nI (lst (pas (VS 0 (21 + plc (VS 0) x.toInt)) (VS 0 (13 + plc (VS 0) x.toInt) 2) (VS 0 0 3)) 99) := if_pos q9
    obtain ⟨⟨b1, b2⟩, b3, b4, b5, b6, b7⟩ := hv.2.2.2.2.2.2.1 _ q9
    have b8 := hFB _ (show plc (VS 0) x.toInt < 8 by omega)
    change V X 1 6 (wBF cy f fa s o an pr un hs e1 e2 fc SC OB sn AD VS) [some (.ref f), some (.int x)] [.int (nI (plc (VS 0) x.toInt)), .ref (AD 0 14)] 12
    refine r_aald (pc' := 13) hX dX5_neededToleranceByTrying_12 4 (by rw [hcy]; rfl) rfl (BF_mem0 (List.mem_append_left _ (List.mem_of_getElem? (i := 14) rfl))) (by omega) (by decide) (if_pos (by omega)) rfl ?_
    change V X 1 6 (wBF cy f fa s o an pr un hs e1 e2 fc SC OB sn AD VS) [some (.ref f), some (.int x)] [.ref (AD 0 (15 + (plc (VS 0) x.toInt)))] 13
    refine r_aload_n (pc' := 14) hX dX5_neededToleranceByTrying_13 rfl rfl ?_
    refine V_call0 (k' := 1) (n' := 6) (pc' := 17) hX (r_runV (As := []) hX dX5_neededToleranceByTrying_14 k_X5_88 (fun l9 hl9 => cF_now (by assumption) (by assumption)) hG ⟨7, _, TX5, 9, List.mem_cons_self, rfl⟩ rfl rfl (Nat.le_of_ble_eq_true rfl) (by decide) (by decide) (by decide) (by decide)) rfl rfl rfl (fun w9 u9 hp9 => ?_)
    obtain ⟨rfl, rfl⟩ := hp9
    change V X 1 6 (wBF cy f fa s o an pr un hs e1 e2 fc SC OB sn AD VS) [some (.ref f), some (.int x)] [.ref (AD 0 0), .ref (AD 0 (15 + (plc (VS 0) x.toInt)))] 17
    refine r_getN (pc' := 20) (v := .int (nI (VS 0 0 3))) hX dX5_neededToleranceByTrying_17 f_X5_115 2 rfl rfl rfl ?_
    refine V_call (k' := 1) (n' := 6) (pc' := 23) (wr := ((wSt0 cy (AD 0) (VS 0) ++ wRest 8 (plc (VS 0) x.toInt) (wStB cy (AD 0) (VS 0))) ++ ((wBFl cy f fa s o an pr un hs e1 e2 fc SC OB sn AD VS).eraseIdx 1).flatten)) hX (r_runV (As := [.int (nI (VS 0 0 3))]) hX dX5_neededToleranceByTrying_20 k_X5_168 (fun l9 hl9 => cB_lpt (a := AD 0 (15 + (plc (VS 0) x.toInt))) (q := AD 0 (23 + (plc (VS 0) x.toInt))) (b := VS 0 (13 + (plc (VS 0) x.toInt))) (sq := VS 0 (21 + (plc (VS 0) x.toInt))) b2 (by omega) b7) hG ⟨4, _, TX1, 6, List.mem_cons_self, rfl⟩ rfl rfl (Nat.le_of_ble_eq_true rfl) (by decide) (by decide) (by decide) (by decide)) (BF_batp (by omega)) rfl rfl rfl (fun w9 u9 hp9 => ?_)
    obtain ⟨rfl, rfl⟩ := hp9
    change V X 1 6 (wBat cy (AD 0 (15 + (plc (VS 0) x.toInt))) (AD 0 (23 + (plc (VS 0) x.toInt))) (VS 0 (13 + (plc (VS 0) x.toInt))) (VS 0 (21 + (plc (VS 0) x.toInt))) ++ ((wSt0 cy (AD 0) (VS 0) ++ wRest 8 (plc (VS 0) x.toInt) (wStB cy (AD 0) (VS 0))) ++ ((wBFl cy f fa s o an pr un hs e1 e2 fc SC OB sn AD VS).eraseIdx 1).flatten)) [some (.ref f), some (.int x)] [.int (nI (lst (pas (VS 0 (21 + (plc (VS 0) x.toInt))) (VS 0 (13 + (plc (VS 0) x.toInt)) 2) (VS 0 0 3)) 99))] 23
    refine V_perm ((BF_batp (by omega)).symm) ?_
    exact r_ireturn hX hE dX5_neededToleranceByTrying_23 rfl ⟨by rw [hq9, ← lps_lst]; exact okN (Nat.lt_of_le_of_lt (lps_le _) (by decide)), by rw [hq9], hFS⟩ (by omega) (by omega)
  · intro E9 u9 hp9
    obtain ⟨hx9, hE9, rfl⟩ := hp9
    have hq9 : qBat bNee (VS 0) x = -5 := if_neg hx9
    exact VX_out hX hO ⟨by rw [hq9]; decide, by rw [hq9]; exact hE9, hFS⟩ (by decide) (by decide)

set_option maxRecDepth 20000 in
set_option maxHeartbeats 1000000 in
theorem cF_wouldPass {l : Launch} {D : va_G} {cy : Nat → ClassId} {sa : Nat → Nat} {f K : Nat} {S : AS} {ws : va_W} {v : SV} (hvS : v = S.1) (hS : FS cy f S ws) (hI : AI K S) {x : Int32} (hst : l.stackTraces = false) : MX l yX5_wouldPass cX5_wouldPass 2 (some .boolean) 8 1 6 (D, cy, sa) [.ref f, .int x] (ws) (fun w u => plc v x.toInt < v 0 4 ∧ w = some (.int (bI (pas (v (21 + plc v x.toInt)) (v (13 + plc v x.toInt) 2) (v 0 3) (v 0 2)))) ∧ FS cy f S u) (fun E u => ¬ plc v x.toInt < v 0 4 ∧ E = exC (-5) ∧ FS cy f S u) := by
  obtain ⟨fa, s, o, pr, un, hs, an, e1, e2, fc, SC, OB, sn, AD, VS, rfl, hF⟩ := hS
  obtain ⟨⟨hpr, hfc⟩, ⟨hv0, hul, hun, hus⟩, ⟨hh1, hh2⟩, hSC, hOB, he1, he2⟩ := id hF
  have hA0 : fc pr = AD 0 0 := by
    have := hfc 0 (by decide)
    rwa [show (pr + 0) % 10 = pr by omega] at this
  have hA1 : fc ((pr + 1) % 10) = AD 1 0 := hfc 1 (by decide)
  have hv : Wf (VS 0) := hv0 ▸ hI.1.1.1
  have hFB : FB (VS 0) := hv0 ▸ hI.1.2
  have hInv : Inv K (VS 0) := hv0 ▸ hI.1.1
  obtain rfl : v = VS 0 := hvS.trans hv0
  have h8 := hv.2.2.1
  have hFS : FS cy f S (wBF cy f fa s o an pr un hs e1 e2 fc SC OB sn AD VS) := ⟨fa, s, o, pr, un, hs, an, e1, e2, fc, SC, OB, sn, AD, VS, rfl, hF⟩
  have hst5 := hv.2.2.2.1
  have htol := hv.2.2.2.2.1
  refine MX_by (own := RX5) (L := [some (.ref f), some (.int x)]) hst (by decide +kernel) rfl rfl (Nat.le_of_ble_eq_true rfl) 0 rfl (fun X hX hE hO hnL hG hcy hnm => ?_)
  refine r_aload_n (pc' := 1) hX dX5_wouldPass_0 rfl rfl ?_
  refine V_call0 (k' := 0) (n' := 0) (pc' := 4) hX (r_runV (As := []) hX dX5_wouldPass_1 k_X5_88 (fun l9 hl9 => cF_now (by assumption) (by assumption)) hG ⟨7, _, TX5, 9, List.mem_cons_self, rfl⟩ rfl rfl (Nat.le_of_ble_eq_true rfl) (by decide) (by decide) (by decide) (by decide)) rfl rfl rfl (fun w9 u9 hp9 => ?_)
  obtain ⟨rfl, rfl⟩ := hp9
  change V X 0 0 (wBF cy f fa s o an pr un hs e1 e2 fc SC OB sn AD VS) [some (.ref f), some (.int x)] [.ref (AD 0 0)] 4
  refine r_getN (pc' := 7) (v := .ref (AD 0 14)) hX dX5_wouldPass_4 f_X5_128 2 rfl rfl rfl ?_
  refine r_aload_n (pc' := 8) hX dX5_wouldPass_7 rfl rfl ?_
  refine r_iload_n (pc' := 9) hX dX5_wouldPass_8 rfl rfl ?_
  refine V_call0X (k' := 1) (n' := 6) (pc' := 12) hX (r_runVX (As := [.int x]) hX dX5_wouldPass_9 k_X5_137 (fun l9 hl9 => by cases hl9; exact cF_place (Outs_nost hO) hpr hA0 hv) hG ⟨7, _, TX5, 9, List.mem_cons_self, rfl⟩ rfl rfl (Nat.le_of_ble_eq_true rfl) (by decide) (by decide) (by decide) (by decide)) rfl rfl rfl (fun w9 u9 hp9 => ?_) ?_
  · obtain ⟨rfl, q9, rfl⟩ := hp9
    obtain ⟨⟨b1, b2⟩, b3, b4, b5, b6, b7⟩ := hv.2.2.2.2.2.2.1 _ q9
    have b8 := hFB _ (show plc (VS 0) x.toInt < 8 by omega)
    change V X 1 6 (wBF cy f fa s o an pr un hs e1 e2 fc SC OB sn AD VS) [some (.ref f), some (.int x)] [.int (nI (plc (VS 0) x.toInt)), .ref (AD 0 14)] 12
    refine r_aald (pc' := 13) hX dX5_wouldPass_12 4 (by rw [hcy]; rfl) rfl (BF_mem0 (List.mem_append_left _ (List.mem_of_getElem? (i := 14) rfl))) (by omega) (by decide) (if_pos (by omega)) rfl ?_
    change V X 1 6 (wBF cy f fa s o an pr un hs e1 e2 fc SC OB sn AD VS) [some (.ref f), some (.int x)] [.ref (AD 0 (15 + (plc (VS 0) x.toInt)))] 13
    refine r_aload_n (pc' := 14) hX dX5_wouldPass_13 rfl rfl ?_
    refine V_call0 (k' := 1) (n' := 6) (pc' := 17) hX (r_runV (As := []) hX dX5_wouldPass_14 k_X5_88 (fun l9 hl9 => cF_now (by assumption) (by assumption)) hG ⟨7, _, TX5, 9, List.mem_cons_self, rfl⟩ rfl rfl (Nat.le_of_ble_eq_true rfl) (by decide) (by decide) (by decide) (by decide)) rfl rfl rfl (fun w9 u9 hp9 => ?_)
    obtain ⟨rfl, rfl⟩ := hp9
    change V X 1 6 (wBF cy f fa s o an pr un hs e1 e2 fc SC OB sn AD VS) [some (.ref f), some (.int x)] [.ref (AD 0 0), .ref (AD 0 (15 + (plc (VS 0) x.toInt)))] 17
    refine r_getN (pc' := 20) (v := .int (nI (VS 0 0 3))) hX dX5_wouldPass_17 f_X5_115 2 rfl rfl rfl ?_
    refine r_aload_n (pc' := 21) hX dX5_wouldPass_20 rfl rfl ?_
    refine V_call0 (k' := 1) (n' := 6) (pc' := 24) hX (r_runV (As := []) hX dX5_wouldPass_21 k_X5_88 (fun l9 hl9 => cF_now (by assumption) (by assumption)) hG ⟨7, _, TX5, 9, List.mem_cons_self, rfl⟩ rfl rfl (Nat.le_of_ble_eq_true rfl) (by decide) (by decide) (by decide) (by decide)) rfl rfl rfl (fun w9 u9 hp9 => ?_)
    obtain ⟨rfl, rfl⟩ := hp9
    change V X 1 6 (wBF cy f fa s o an pr un hs e1 e2 fc SC OB sn AD VS) [some (.ref f), some (.int x)] [.ref (AD 0 0), .int (nI (VS 0 0 3)), .ref (AD 0 (15 + (plc (VS 0) x.toInt)))] 24
    refine r_getN (pc' := 27) (v := .int (nI (VS 0 0 2))) hX dX5_wouldPass_24 f_X5_112 2 rfl rfl rfl ?_
    refine V_call (k' := 1) (n' := 6) (pc' := 30) (wr := ((wSt0 cy (AD 0) (VS 0) ++ wRest 8 (plc (VS 0) x.toInt) (wStB cy (AD 0) (VS 0))) ++ ((wBFl cy f fa s o an pr un hs e1 e2 fc SC OB sn AD VS).eraseIdx 1).flatten)) hX (r_runV (As := [.int (nI (VS 0 0 3)), .int (nI (VS 0 0 2))]) hX dX5_wouldPass_27 k_X5_161 (fun l9 hl9 => cB_passes (a := AD 0 (15 + (plc (VS 0) x.toInt))) (q := AD 0 (23 + (plc (VS 0) x.toInt))) (b := VS 0 (13 + (plc (VS 0) x.toInt))) (sq := VS 0 (21 + (plc (VS 0) x.toInt))) b2 (by omega) (by omega) b7) hG ⟨4, _, TX1, 6, List.mem_cons_self, rfl⟩ rfl rfl (Nat.le_of_ble_eq_true rfl) (by decide) (by decide) (by decide) (by decide)) (BF_batp (by omega)) rfl rfl rfl (fun w9 u9 hp9 => ?_)
    obtain ⟨rfl, rfl⟩ := hp9
    change V X 1 6 (wBat cy (AD 0 (15 + (plc (VS 0) x.toInt))) (AD 0 (23 + (plc (VS 0) x.toInt))) (VS 0 (13 + (plc (VS 0) x.toInt))) (VS 0 (21 + (plc (VS 0) x.toInt))) ++ ((wSt0 cy (AD 0) (VS 0) ++ wRest 8 (plc (VS 0) x.toInt) (wStB cy (AD 0) (VS 0))) ++ ((wBFl cy f fa s o an pr un hs e1 e2 fc SC OB sn AD VS).eraseIdx 1).flatten)) [some (.ref f), some (.int x)] [.int (bI (pas (VS 0 (21 + (plc (VS 0) x.toInt))) (VS 0 (13 + (plc (VS 0) x.toInt)) 2) (VS 0 0 3) (VS 0 0 2)))] 30
    refine V_perm ((BF_batp (by omega)).symm) ?_
    exact r_zreturn hX hE dX5_wouldPass_30 rfl (bI_nar) ⟨q9, rfl, hFS⟩ (by omega) (by omega)
  · intro E9 u9 hp9
    obtain ⟨hx9, hE9, rfl⟩ := hp9
    exact VX_out hX hO ⟨hx9, hE9, hFS⟩ (by decide) (by decide)
