theorem okN {n : Nat} (h : n < 2147483648) : okA (nI n) := fun q => by rw [nI_I h] at q; omega
theorem BF_batp {cy : Nat → ClassId} {f fa s o pr un hs : Nat} {an : Nat → Nat} {e1 e2 : Int32} {fc : Nat → Nat} {SC OB : va_W} {sn : SV} {AD : Nat → Nat → Nat} {VS : Nat → SV} {i : Nat} (hi : i < 8) : (wBF cy f fa s o an pr un hs e1 e2 fc SC OB sn AD VS).Perm (wBat cy (AD 0 (15 + i)) (AD 0 (23 + i)) (VS 0 (13 + i)) (VS 0 (21 + i)) ++ ((wSt0 cy (AD 0) (VS 0) ++ wRest 8 i (wStB cy (AD 0) (VS 0))) ++ ((wBFl cy f fa s o an pr un hs e1 e2 fc SC OB sn AD VS).eraseIdx 1).flatten)) := by
  have h1 : (wBF cy f fa s o an pr un hs e1 e2 fc SC OB sn AD VS).Perm (wSt cy (AD 0) (VS 0) ++ ((wBFl cy f fa s o an pr un hs e1 e2 fc SC OB sn AD VS).eraseIdx 1).flatten) := fl_out (bs := wBFl cy f fa s o an pr un hs e1 e2 fc SC OB sn AD VS) 1 rfl
  have h2 := List.Perm.append_right (((wBFl cy f fa s o an pr un hs e1 e2 fc SC OB sn AD VS).eraseIdx 1).flatten) (wSt_split (cy := cy) (ad := AD 0) (v := VS 0) hi)
  rw [List.append_assoc] at h2
  exact h1.trans h2
set_option maxRecDepth 20000 in
set_option maxHeartbeats 1000000 in
theorem cF_alloyCount {l : Launch} {D : va_G} {cy : Nat → ClassId} {sa : Nat → Nat} {f K : Nat} {S : AS} {ws : va_W} {v : SV} (hvS : v = S.1) (hS : FS cy f S ws) (hI : AI K S) : MG l yX5_alloyCount cX5_alloyCount 1 (some .int) 1 0 0 (D, cy, sa) [.ref f] (ws) (fun w u => okA (nI (v 0 0)) ∧ w = some (.int (nI (v 0 0))) ∧ FS cy f (S) u) := by
  obtain ⟨fa, s, o, pr, un, hs, an, e1, e2, fc, SC, OB, sn, AD, VS, rfl, hF⟩ := hS
  obtain ⟨⟨hpr, hfc⟩, ⟨hv0, hul, hun, hus⟩, ⟨hh1, hh2⟩, hSC, hOB, he1, he2⟩ := id hF
  have hA0 : fc pr = AD 0 0 := by
    have := hfc 0 (by decide)
    rwa [show (pr + 0) % 10 = pr by omega] at this
  have hA1 : fc ((pr + 1) % 10) = AD 1 0 := hfc 1 (by decide)
  have hv : Wf (VS 0) := hv0 ▸ hI.1.1.1
  have hFB : FB (VS 0) := hv0 ▸ hI.1.2
  have hInv : Inv K (VS 0) := hv0 ▸ hI.1.1
  obtain rfl : v = VS 0 := hvS.trans hv0
  have h8 := hv.2.2.1
  have hFS : FS cy f S (wBF cy f fa s o an pr un hs e1 e2 fc SC OB sn AD VS) := ⟨fa, s, o, pr, un, hs, an, e1, e2, fc, SC, OB, sn, AD, VS, rfl, hF⟩
  refine MG_by (own := RX5) (L := [some (.ref f)]) (by decide +kernel) rfl rfl (Nat.le_of_ble_eq_true rfl) 0 rfl (fun X hX hE hnL hG hcy hnm => ?_)
  refine r_aload_n (pc' := 1) hX dX5_alloyCount_0 rfl rfl ?_
  refine V_call0 (k' := 0) (n' := 0) (pc' := 4) hX (r_runV (As := []) hX dX5_alloyCount_1 k_X5_88 (fun l9 hl9 => cF_now (by assumption) (by assumption)) hG ⟨7, _, TX5, 9, List.mem_cons_self, rfl⟩ rfl rfl (Nat.le_of_ble_eq_true rfl) (by decide) (by decide) (by decide) (by decide)) rfl rfl rfl (fun w9 u9 hp9 => ?_)
  obtain ⟨rfl, rfl⟩ := hp9
  change V X 0 0 (wBF cy f fa s o an pr un hs e1 e2 fc SC OB sn AD VS) [some (.ref f)] [.ref (AD 0 0)] 4
  refine r_getN (pc' := 7) (v := .int (nI (VS 0 0 0))) hX dX5_alloyCount_4 f_X5_91 2 rfl rfl rfl ?_
  exact r_ireturn hX hE dX5_alloyCount_7 rfl ⟨okN (by have := hv.1; have := hv.2.1; have := hv.2.2.2; omega), rfl, hFS⟩ (by decide) (by decide)

set_option maxRecDepth 20000 in
set_option maxHeartbeats 1000000 in
theorem cF_mouldCount {l : Launch} {D : va_G} {cy : Nat → ClassId} {sa : Nat → Nat} {f K : Nat} {S : AS} {ws : va_W} {v : SV} (hvS : v = S.1) (hS : FS cy f S ws) (hI : AI K S) : MG l yX5_mouldCount cX5_mouldCount 1 (some .int) 1 0 0 (D, cy, sa) [.ref f] (ws) (fun w u => okA (nI (v 0 1)) ∧ w = some (.int (nI (v 0 1))) ∧ FS cy f (S) u) := by
  obtain ⟨fa, s, o, pr, un, hs, an, e1, e2, fc, SC, OB, sn, AD, VS, rfl, hF⟩ := hS
  obtain ⟨⟨hpr, hfc⟩, ⟨hv0, hul, hun, hus⟩, ⟨hh1, hh2⟩, hSC, hOB, he1, he2⟩ := id hF
  have hA0 : fc pr = AD 0 0 := by
    have := hfc 0 (by decide)
    rwa [show (pr + 0) % 10 = pr by omega] at this
  have hA1 : fc ((pr + 1) % 10) = AD 1 0 := hfc 1 (by decide)
  have hv : Wf (VS 0) := hv0 ▸ hI.1.1.1
  have hFB : FB (VS 0) := hv0 ▸ hI.1.2
  have hInv : Inv K (VS 0) := hv0 ▸ hI.1.1
  obtain rfl : v = VS 0 := hvS.trans hv0
  have h8 := hv.2.2.1
  have hFS : FS cy f S (wBF cy f fa s o an pr un hs e1 e2 fc SC OB sn AD VS) := ⟨fa, s, o, pr, un, hs, an, e1, e2, fc, SC, OB, sn, AD, VS, rfl, hF⟩
  refine MG_by (own := RX5) (L := [some (.ref f)]) (by decide +kernel) rfl rfl (Nat.le_of_ble_eq_true rfl) 0 rfl (fun X hX hE hnL hG hcy hnm => ?_)
  refine r_aload_n (pc' := 1) hX dX5_mouldCount_0 rfl rfl ?_
  refine V_call0 (k' := 0) (n' := 0) (pc' := 4) hX (r_runV (As := []) hX dX5_mouldCount_1 k_X5_88 (fun l9 hl9 => cF_now (by assumption) (by assumption)) hG ⟨7, _, TX5, 9, List.mem_cons_self, rfl⟩ rfl rfl (Nat.le_of_ble_eq_true rfl) (by decide) (by decide) (by decide) (by decide)) rfl rfl rfl (fun w9 u9 hp9 => ?_)
  obtain ⟨rfl, rfl⟩ := hp9
  change V X 0 0 (wBF cy f fa s o an pr un hs e1 e2 fc SC OB sn AD VS) [some (.ref f)] [.ref (AD 0 0)] 4
  refine r_getN (pc' := 7) (v := .int (nI (VS 0 0 1))) hX dX5_mouldCount_4 f_X5_100 2 rfl rfl rfl ?_
  exact r_ireturn hX hE dX5_mouldCount_7 rfl ⟨okN (by have := hv.1; have := hv.2.1; have := hv.2.2.2; omega), rfl, hFS⟩ (by decide) (by decide)

set_option maxRecDepth 20000 in
set_option maxHeartbeats 1000000 in
theorem cF_tolerance {l : Launch} {D : va_G} {cy : Nat → ClassId} {sa : Nat → Nat} {f K : Nat} {S : AS} {ws : va_W} {v : SV} (hvS : v = S.1) (hS : FS cy f S ws) (hI : AI K S) : MG l yX5_tolerance cX5_tolerance 1 (some .int) 1 0 0 (D, cy, sa) [.ref f] (ws) (fun w u => okA (nI (v 0 2)) ∧ w = some (.int (nI (v 0 2))) ∧ FS cy f (S) u) := by
  obtain ⟨fa, s, o, pr, un, hs, an, e1, e2, fc, SC, OB, sn, AD, VS, rfl, hF⟩ := hS
  obtain ⟨⟨hpr, hfc⟩, ⟨hv0, hul, hun, hus⟩, ⟨hh1, hh2⟩, hSC, hOB, he1, he2⟩ := id hF
  have hA0 : fc pr = AD 0 0 := by
    have := hfc 0 (by decide)
    rwa [show (pr + 0) % 10 = pr by omega] at this
  have hA1 : fc ((pr + 1) % 10) = AD 1 0 := hfc 1 (by decide)
  have hv : Wf (VS 0) := hv0 ▸ hI.1.1.1
  have hFB : FB (VS 0) := hv0 ▸ hI.1.2
  have hInv : Inv K (VS 0) := hv0 ▸ hI.1.1
  obtain rfl : v = VS 0 := hvS.trans hv0
  have h8 := hv.2.2.1
  have hFS : FS cy f S (wBF cy f fa s o an pr un hs e1 e2 fc SC OB sn AD VS) := ⟨fa, s, o, pr, un, hs, an, e1, e2, fc, SC, OB, sn, AD, VS, rfl, hF⟩
  refine MG_by (own := RX5) (L := [some (.ref f)]) (by decide +kernel) rfl rfl (Nat.le_of_ble_eq_true rfl) 0 rfl (fun X hX hE hnL hG hcy hnm => ?_)
  refine r_aload_n (pc' := 1) hX dX5_tolerance_0 rfl rfl ?_
  refine V_call0 (k' := 0) (n' := 0) (pc' := 4) hX (r_runV (As := []) hX dX5_tolerance_1 k_X5_88 (fun l9 hl9 => cF_now (by assumption) (by assumption)) hG ⟨7, _, TX5, 9, List.mem_cons_self, rfl⟩ rfl rfl (Nat.le_of_ble_eq_true rfl) (by decide) (by decide) (by decide) (by decide)) rfl rfl rfl (fun w9 u9 hp9 => ?_)
  obtain ⟨rfl, rfl⟩ := hp9
  change V X 0 0 (wBF cy f fa s o an pr un hs e1 e2 fc SC OB sn AD VS) [some (.ref f)] [.ref (AD 0 0)] 4
  refine r_getN (pc' := 7) (v := .int (nI (VS 0 0 2))) hX dX5_tolerance_4 f_X5_112 2 rfl rfl rfl ?_
  exact r_ireturn hX hE dX5_tolerance_7 rfl ⟨okN (by have := hv.1; have := hv.2.1; have := hv.2.2.2; omega), rfl, hFS⟩ (by decide) (by decide)

set_option maxRecDepth 20000 in
set_option maxHeartbeats 1000000 in
theorem cF_step {l : Launch} {D : va_G} {cy : Nat → ClassId} {sa : Nat → Nat} {f K : Nat} {S : AS} {ws : va_W} {v : SV} (hvS : v = S.1) (hS : FS cy f S ws) (hI : AI K S) : MG l yX5_step cX5_step 1 (some .int) 1 0 0 (D, cy, sa) [.ref f] (ws) (fun w u => okA (nI (v 0 3)) ∧ w = some (.int (nI (v 0 3))) ∧ FS cy f (S) u) := by
  obtain ⟨fa, s, o, pr, un, hs, an, e1, e2, fc, SC, OB, sn, AD, VS, rfl, hF⟩ := hS
  obtain ⟨⟨hpr, hfc⟩, ⟨hv0, hul, hun, hus⟩, ⟨hh1, hh2⟩, hSC, hOB, he1, he2⟩ := id hF
  have hA0 : fc pr = AD 0 0 := by
    have := hfc 0 (by decide)
    rwa [show (pr + 0) % 10 = pr by omega] at this
  have hA1 : fc ((pr + 1) % 10) = AD 1 0 := hfc 1 (by decide)
  have hv : Wf (VS 0) := hv0 ▸ hI.1.1.1
  have hFB : FB (VS 0) := hv0 ▸ hI.1.2
  have hInv : Inv K (VS 0) := hv0 ▸ hI.1.1
  obtain rfl : v = VS 0 := hvS.trans hv0
  have h8 := hv.2.2.1
  have hFS : FS cy f S (wBF cy f fa s o an pr un hs e1 e2 fc SC OB sn AD VS) := ⟨fa, s, o, pr, un, hs, an, e1, e2, fc, SC, OB, sn, AD, VS, rfl, hF⟩
  refine MG_by (own := RX5) (L := [some (.ref f)]) (by decide +kernel) rfl rfl (Nat.le_of_ble_eq_true rfl) 0 rfl (fun X hX hE hnL hG hcy hnm => ?_)
  refine r_aload_n (pc' := 1) hX dX5_step_0 rfl rfl ?_
  refine V_call0 (k' := 0) (n' := 0) (pc' := 4) hX (r_runV (As := []) hX dX5_step_1 k_X5_88 (fun l9 hl9 => cF_now (by assumption) (by assumption)) hG ⟨7, _, TX5, 9, List.mem_cons_self, rfl⟩ rfl rfl (Nat.le_of_ble_eq_true rfl) (by decide) (by decide) (by decide) (by decide)) rfl rfl rfl (fun w9 u9 hp9 => ?_)
  obtain ⟨rfl, rfl⟩ := hp9
  change V X 0 0 (wBF cy f fa s o an pr un hs e1 e2 fc SC OB sn AD VS) [some (.ref f)] [.ref (AD 0 0)] 4
  refine r_getN (pc' := 7) (v := .int (nI (VS 0 0 3))) hX dX5_step_4 f_X5_115 2 rfl rfl rfl ?_
  exact r_ireturn hX hE dX5_step_7 rfl ⟨okN (by have := hv.1; have := hv.2.1; have := hv.2.2.2; omega), rfl, hFS⟩ (by decide) (by decide)

set_option maxRecDepth 20000 in
set_option maxHeartbeats 1000000 in
theorem cF_batchCount {l : Launch} {D : va_G} {cy : Nat → ClassId} {sa : Nat → Nat} {f K : Nat} {S : AS} {ws : va_W} {v : SV} (hvS : v = S.1) (hS : FS cy f S ws) (hI : AI K S) : MG l yX5_batchCount cX5_batchCount 1 (some .int) 1 0 0 (D, cy, sa) [.ref f] (ws) (fun w u => okA (nI (v 0 4)) ∧ w = some (.int (nI (v 0 4))) ∧ FS cy f (S) u) := by
  obtain ⟨fa, s, o, pr, un, hs, an, e1, e2, fc, SC, OB, sn, AD, VS, rfl, hF⟩ := hS
  obtain ⟨⟨hpr, hfc⟩, ⟨hv0, hul, hun, hus⟩, ⟨hh1, hh2⟩, hSC, hOB, he1, he2⟩ := id hF
  have hA0 : fc pr = AD 0 0 := by
    have := hfc 0 (by decide)
    rwa [show (pr + 0) % 10 = pr by omega] at this
  have hA1 : fc ((pr + 1) % 10) = AD 1 0 := hfc 1 (by decide)
  have hv : Wf (VS 0) := hv0 ▸ hI.1.1.1
  have hFB : FB (VS 0) := hv0 ▸ hI.1.2
  have hInv : Inv K (VS 0) := hv0 ▸ hI.1.1
  obtain rfl : v = VS 0 := hvS.trans hv0
  have h8 := hv.2.2.1
  have hFS : FS cy f S (wBF cy f fa s o an pr un hs e1 e2 fc SC OB sn AD VS) := ⟨fa, s, o, pr, un, hs, an, e1, e2, fc, SC, OB, sn, AD, VS, rfl, hF⟩
  refine MG_by (own := RX5) (L := [some (.ref f)]) (by decide +kernel) rfl rfl (Nat.le_of_ble_eq_true rfl) 0 rfl (fun X hX hE hnL hG hcy hnm => ?_)
  refine r_aload_n (pc' := 1) hX dX5_batchCount_0 rfl rfl ?_
  refine V_call0 (k' := 0) (n' := 0) (pc' := 4) hX (r_runV (As := []) hX dX5_batchCount_1 k_X5_88 (fun l9 hl9 => cF_now (by assumption) (by assumption)) hG ⟨7, _, TX5, 9, List.mem_cons_self, rfl⟩ rfl rfl (Nat.le_of_ble_eq_true rfl) (by decide) (by decide) (by decide) (by decide)) rfl rfl rfl (fun w9 u9 hp9 => ?_)
  obtain ⟨rfl, rfl⟩ := hp9
  change V X 0 0 (wBF cy f fa s o an pr un hs e1 e2 fc SC OB sn AD VS) [some (.ref f)] [.ref (AD 0 0)] 4
  refine r_getN (pc' := 7) (v := .int (nI (VS 0 0 4))) hX dX5_batchCount_4 f_X5_118 2 rfl rfl rfl ?_
  exact r_ireturn hX hE dX5_batchCount_7 rfl ⟨okN (by have := hv.1; have := hv.2.1; have := hv.2.2.2; omega), rfl, hFS⟩ (by decide) (by decide)

set_option maxRecDepth 20000 in
set_option maxHeartbeats 1000000 in
theorem cF_castTotal {l : Launch} {D : va_G} {cy : Nat → ClassId} {sa : Nat → Nat} {f K : Nat} {S : AS} {ws : va_W} {v : SV} (hvS : v = S.1) (hS : FS cy f S ws) (hI : AI K S) : MG l yX5_castTotal cX5_castTotal 1 (some .int) 1 0 0 (D, cy, sa) [.ref f] (ws) (fun w u => okA (nI (v 0 6)) ∧ w = some (.int (nI (v 0 6))) ∧ FS cy f (S) u) := by
  obtain ⟨fa, s, o, pr, un, hs, an, e1, e2, fc, SC, OB, sn, AD, VS, rfl, hF⟩ := hS
  obtain ⟨⟨hpr, hfc⟩, ⟨hv0, hul, hun, hus⟩, ⟨hh1, hh2⟩, hSC, hOB, he1, he2⟩ := id hF
  have hA0 : fc pr = AD 0 0 := by
    have := hfc 0 (by decide)
    rwa [show (pr + 0) % 10 = pr by omega] at this
  have hA1 : fc ((pr + 1) % 10) = AD 1 0 := hfc 1 (by decide)
  have hv : Wf (VS 0) := hv0 ▸ hI.1.1.1
  have hFB : FB (VS 0) := hv0 ▸ hI.1.2
  have hInv : Inv K (VS 0) := hv0 ▸ hI.1.1
  obtain rfl : v = VS 0 := hvS.trans hv0
  have h8 := hv.2.2.1
  have hFS : FS cy f S (wBF cy f fa s o an pr un hs e1 e2 fc SC OB sn AD VS) := ⟨fa, s, o, pr, un, hs, an, e1, e2, fc, SC, OB, sn, AD, VS, rfl, hF⟩
  refine MG_by (own := RX5) (L := [some (.ref f)]) (by decide +kernel) rfl rfl (Nat.le_of_ble_eq_true rfl) 0 rfl (fun X hX hE hnL hG hcy hnm => ?_)
  refine r_aload_n (pc' := 1) hX dX5_castTotal_0 rfl rfl ?_
  refine V_call0 (k' := 0) (n' := 0) (pc' := 4) hX (r_runV (As := []) hX dX5_castTotal_1 k_X5_88 (fun l9 hl9 => cF_now (by assumption) (by assumption)) hG ⟨7, _, TX5, 9, List.mem_cons_self, rfl⟩ rfl rfl (Nat.le_of_ble_eq_true rfl) (by decide) (by decide) (by decide) (by decide)) rfl rfl rfl (fun w9 u9 hp9 => ?_)
  obtain ⟨rfl, rfl⟩ := hp9
  change V X 0 0 (wBF cy f fa s o an pr un hs e1 e2 fc SC OB sn AD VS) [some (.ref f)] [.ref (AD 0 0)] 4
  refine r_getN (pc' := 7) (v := .int (nI (VS 0 0 6))) hX dX5_castTotal_4 f_X5_186 2 rfl rfl rfl ?_
  exact r_ireturn hX hE dX5_castTotal_7 rfl ⟨okN (by have := hv.1; have := hv.2.1; have := hv.2.2.2; omega), rfl, hFS⟩ (by decide) (by decide)

set_option maxRecDepth 20000 in
set_option maxHeartbeats 1000000 in
theorem cF_soldTotal {l : Launch} {D : va_G} {cy : Nat → ClassId} {sa : Nat → Nat} {f K : Nat} {S : AS} {ws : va_W} {v : SV} (hvS : v = S.1) (hS : FS cy f S ws) (hI : AI K S) : MG l yX5_soldTotal cX5_soldTotal 1 (some .int) 1 0 0 (D, cy, sa) [.ref f] (ws) (fun w u => okA (nI (v 0 7)) ∧ w = some (.int (nI (v 0 7))) ∧ FS cy f (S) u) := by
  obtain ⟨fa, s, o, pr, un, hs, an, e1, e2, fc, SC, OB, sn, AD, VS, rfl, hF⟩ := hS
  obtain ⟨⟨hpr, hfc⟩, ⟨hv0, hul, hun, hus⟩, ⟨hh1, hh2⟩, hSC, hOB, he1, he2⟩ := id hF
  have hA0 : fc pr = AD 0 0 := by
    have := hfc 0 (by decide)
    rwa [show (pr + 0) % 10 = pr by omega] at this
  have hA1 : fc ((pr + 1) % 10) = AD 1 0 := hfc 1 (by decide)
  have hv : Wf (VS 0) := hv0 ▸ hI.1.1.1
  have hFB : FB (VS 0) := hv0 ▸ hI.1.2
  have hInv : Inv K (VS 0) := hv0 ▸ hI.1.1
  obtain rfl : v = VS 0 := hvS.trans hv0
  have h8 := hv.2.2.1
  have hFS : FS cy f S (wBF cy f fa s o an pr un hs e1 e2 fc SC OB sn AD VS) := ⟨fa, s, o, pr, un, hs, an, e1, e2, fc, SC, OB, sn, AD, VS, rfl, hF⟩
  refine MG_by (own := RX5) (L := [some (.ref f)]) (by decide +kernel) rfl rfl (Nat.le_of_ble_eq_true rfl) 0 rfl (fun X hX hE hnL hG hcy hnm => ?_)
  refine r_aload_n (pc' := 1) hX dX5_soldTotal_0 rfl rfl ?_
  refine V_call0 (k' := 0) (n' := 0) (pc' := 4) hX (r_runV (As := []) hX dX5_soldTotal_1 k_X5_88 (fun l9 hl9 => cF_now (by assumption) (by assumption)) hG ⟨7, _, TX5, 9, List.mem_cons_self, rfl⟩ rfl rfl (Nat.le_of_ble_eq_true rfl) (by decide) (by decide) (by decide) (by decide)) rfl rfl rfl (fun w9 u9 hp9 => ?_)
  obtain ⟨rfl, rfl⟩ := hp9
  change V X 0 0 (wBF cy f fa s o an pr un hs e1 e2 fc SC OB sn AD VS) [some (.ref f)] [.ref (AD 0 0)] 4
  refine r_getN (pc' := 7) (v := .int (nI (VS 0 0 7))) hX dX5_soldTotal_4 f_X5_189 2 rfl rfl rfl ?_
  exact r_ireturn hX hE dX5_soldTotal_7 rfl ⟨okN (by have := hv.1; have := hv.2.1; have := hv.2.2.2; omega), rfl, hFS⟩ (by decide) (by decide)

set_option maxRecDepth 20000 in
set_option maxHeartbeats 1000000 in
theorem cF_meltedTotal {l : Launch} {D : va_G} {cy : Nat → ClassId} {sa : Nat → Nat} {f K : Nat} {S : AS} {ws : va_W} {v : SV} (hvS : v = S.1) (hS : FS cy f S ws) (hI : AI K S) : MG l yX5_meltedTotal cX5_meltedTotal 1 (some .int) 1 0 0 (D, cy, sa) [.ref f] (ws) (fun w u => okA (nI (v 0 8)) ∧ w = some (.int (nI (v 0 8))) ∧ FS cy f (S) u) := by
  obtain ⟨fa, s, o, pr, un, hs, an, e1, e2, fc, SC, OB, sn, AD, VS, rfl, hF⟩ := hS
  obtain ⟨⟨hpr, hfc⟩, ⟨hv0, hul, hun, hus⟩, ⟨hh1, hh2⟩, hSC, hOB, he1, he2⟩ := id hF
  have hA0 : fc pr = AD 0 0 := by
    have := hfc 0 (by decide)
    rwa [show (pr + 0) % 10 = pr by omega] at this
  have hA1 : fc ((pr + 1) % 10) = AD 1 0 := hfc 1 (by decide)
  have hv : Wf (VS 0) := hv0 ▸ hI.1.1.1
  have hFB : FB (VS 0) := hv0 ▸ hI.1.2
  have hInv : Inv K (VS 0) := hv0 ▸ hI.1.1
  obtain rfl : v = VS 0 := hvS.trans hv0
  have h8 := hv.2.2.1
  have hFS : FS cy f S (wBF cy f fa s o an pr un hs e1 e2 fc SC OB sn AD VS) := ⟨fa, s, o, pr, un, hs, an, e1, e2, fc, SC, OB, sn, AD, VS, rfl, hF⟩
  refine MG_by (own := RX5) (L := [some (.ref f)]) (by decide +kernel) rfl rfl (Nat.le_of_ble_eq_true rfl) 0 rfl (fun X hX hE hnL hG hcy hnm => ?_)
  refine r_aload_n (pc' := 1) hX dX5_meltedTotal_0 rfl rfl ?_
  refine V_call0 (k' := 0) (n' := 0) (pc' := 4) hX (r_runV (As := []) hX dX5_meltedTotal_1 k_X5_88 (fun l9 hl9 => cF_now (by assumption) (by assumption)) hG ⟨7, _, TX5, 9, List.mem_cons_self, rfl⟩ rfl rfl (Nat.le_of_ble_eq_true rfl) (by decide) (by decide) (by decide) (by decide)) rfl rfl rfl (fun w9 u9 hp9 => ?_)
  obtain ⟨rfl, rfl⟩ := hp9
  change V X 0 0 (wBF cy f fa s o an pr un hs e1 e2 fc SC OB sn AD VS) [some (.ref f)] [.ref (AD 0 0)] 4
  refine r_getN (pc' := 7) (v := .int (nI (VS 0 0 8))) hX dX5_meltedTotal_4 f_X5_192 2 rfl rfl rfl ?_
  exact r_ireturn hX hE dX5_meltedTotal_7 rfl ⟨okN (by have := hv.1; have := hv.2.1; have := hv.2.2.2; omega), rfl, hFS⟩ (by decide) (by decide)

set_option maxRecDepth 20000 in
set_option maxHeartbeats 1000000 in
theorem cF_parts {l : Launch} {D : va_G} {cy : Nat → ClassId} {sa : Nat → Nat} {f K : Nat} {S : AS} {ws : va_W} {v : SV} (hvS : v = S.1) (hS : FS cy f S ws) (hI : AI K S) {x y : Int32} (hst : l.stackTraces = false) : MX l yX5_parts cX5_parts 3 (some .int) 7 1 6 (D, cy, sa) [.ref f, .int x, .int y] (ws) (fun w u => okA (qParts v x y) ∧ w = some (.int (qParts v x y)) ∧ FS cy f (S) u) (fun E u => noA (qParts v x y) ∧ E = exC (qParts v x y) ∧ FS cy f S u) := by
  obtain ⟨fa, s, o, pr, un, hs, an, e1, e2, fc, SC, OB, sn, AD, VS, rfl, hF⟩ := hS
  obtain ⟨⟨hpr, hfc⟩, ⟨hv0, hul, hun, hus⟩, ⟨hh1, hh2⟩, hSC, hOB, he1, he2⟩ := id hF
  have hA0 : fc pr = AD 0 0 := by
    have := hfc 0 (by decide)
    rwa [show (pr + 0) % 10 = pr by omega] at this
  have hA1 : fc ((pr + 1) % 10) = AD 1 0 := hfc 1 (by decide)
  have hv : Wf (VS 0) := hv0 ▸ hI.1.1.1
  have hFB : FB (VS 0) := hv0 ▸ hI.1.2
  have hInv : Inv K (VS 0) := hv0 ▸ hI.1.1
  obtain rfl : v = VS 0 := hvS.trans hv0
  have h8 := hv.2.2.1
  have hFS : FS cy f S (wBF cy f fa s o an pr un hs e1 e2 fc SC OB sn AD VS) := ⟨fa, s, o, pr, un, hs, an, e1, e2, fc, SC, OB, sn, AD, VS, rfl, hF⟩
  refine MX_by (own := RX5) (L := [some (.ref f), some (.int x), some (.int y)]) hst (by decide +kernel) rfl rfl (Nat.le_of_ble_eq_true rfl) 0 rfl (fun X hX hE hO hnL hG hcy hnm => ?_)
  refine r_aload_n (pc' := 1) hX dX5_parts_0 rfl rfl ?_
  refine V_call0 (k' := 0) (n' := 0) (pc' := 4) hX (r_runV (As := []) hX dX5_parts_1 k_X5_88 (fun l9 hl9 => cF_now (by assumption) (by assumption)) hG ⟨7, _, TX5, 9, List.mem_cons_self, rfl⟩ rfl rfl (Nat.le_of_ble_eq_true rfl) (by decide) (by decide) (by decide) (by decide)) rfl rfl rfl (fun w9 u9 hp9 => ?_)
  obtain ⟨rfl, rfl⟩ := hp9
  change V X 0 0 (wBF cy f fa s o an pr un hs e1 e2 fc SC OB sn AD VS) [some (.ref f), some (.int x), some (.int y)] [.ref (AD 0 0)] 4
  refine r_iload_n (pc' := 5) hX dX5_parts_4 rfl rfl ?_
  refine r_iload_n (pc' := 6) hX dX5_parts_5 rfl rfl ?_
  refine V_call (k' := 0) (n' := 0) (pc' := 9) (wr := (((wBFl cy f fa s o an pr un hs e1 e2 fc SC OB sn AD VS)).eraseIdx 1).flatten) hX (r_runV (As := [.int x, .int y]) hX dX5_parts_6 k_X5_94 (fun l9 hl9 => cS_partsOf hv) hG ⟨6, _, TX4, 17, List.mem_cons_self, rfl⟩ rfl rfl (Nat.le_of_ble_eq_true rfl) (by decide) (by decide) (by decide) (by decide)) (fl_out (bs := (wBFl cy f fa s o an pr un hs e1 e2 fc SC OB sn AD VS)) 1 rfl) rfl rfl rfl (fun w9 u9 hp9 => ?_)
  obtain ⟨rfl, rfl⟩ := hp9
  change V X 0 0 (wSt cy (AD 0) (VS 0) ++ (((wBFl cy f fa s o an pr un hs e1 e2 fc SC OB sn AD VS)).eraseIdx 1).flatten) [some (.ref f), some (.int x), some (.int y)] [.int (qParts (VS 0) x y)] 9
  refine V_perm (fl_back (bs := (wBFl cy f fa s o an pr un hs e1 e2 fc SC OB sn AD VS)) (bs' := (wBFl cy f fa s o an pr un hs e1 e2 fc SC OB sn AD VS)) 1 rfl rfl) ?_
  refine V_callX (k' := 1) (n' := 6) (pc' := 12) (wr := (wBF cy f fa s o an pr un hs e1 e2 fc SC OB sn AD VS)) hX (r_runSX (As := [.int (qParts (VS 0) x y)]) hX dX5_parts_9 k_X5_97 (fun l9 hl9 => by cases hl9; exact cF_answered (Outs_nost hO)) hG rfl rfl (Nat.le_of_ble_eq_true rfl) (by decide) (by decide) (by decide) (by decide)) (List.Perm.refl _) rfl rfl rfl (fun w9 u9 hp9 => ?_) ?_
  · obtain ⟨rfl, hx9, rfl⟩ := hp9
    change V X 1 6 (wBF cy f fa s o an pr un hs e1 e2 fc SC OB sn AD VS) [some (.ref f), some (.int x), some (.int y)] [.int (qParts (VS 0) x y)] 12
    exact r_ireturn hX hE dX5_parts_12 rfl ⟨hx9, rfl, hFS⟩ (by omega) (by omega)
  · intro E9 u9 hp9
    obtain ⟨hx9, hE9, rfl⟩ := hp9
    exact VX_out hX hO ⟨hx9, hE9, hFS⟩ (by decide) (by decide)

set_option maxRecDepth 20000 in
set_option maxHeartbeats 1000000 in
theorem cF_mouldLength {l : Launch} {D : va_G} {cy : Nat → ClassId} {sa : Nat → Nat} {f K : Nat} {S : AS} {ws : va_W} {v : SV} (hvS : v = S.1) (hS : FS cy f S ws) (hI : AI K S) {x : Int32} (hst : l.stackTraces = false) : MX l yX5_mouldLength cX5_mouldLength 2 (some .int) 7 1 6 (D, cy, sa) [.ref f, .int x] (ws) (fun w u => okA (qMld 1 v x) ∧ w = some (.int (qMld 1 v x)) ∧ FS cy f (S) u) (fun E u => noA (qMld 1 v x) ∧ E = exC (qMld 1 v x) ∧ FS cy f S u) := by
  obtain ⟨fa, s, o, pr, un, hs, an, e1, e2, fc, SC, OB, sn, AD, VS, rfl, hF⟩ := hS
  obtain ⟨⟨hpr, hfc⟩, ⟨hv0, hul, hun, hus⟩, ⟨hh1, hh2⟩, hSC, hOB, he1, he2⟩ := id hF
  have hA0 : fc pr = AD 0 0 := by
    have := hfc 0 (by decide)
    rwa [show (pr + 0) % 10 = pr by omega] at this
  have hA1 : fc ((pr + 1) % 10) = AD 1 0 := hfc 1 (by decide)
  have hv : Wf (VS 0) := hv0 ▸ hI.1.1.1
  have hFB : FB (VS 0) := hv0 ▸ hI.1.2
  have hInv : Inv K (VS 0) := hv0 ▸ hI.1.1
  obtain rfl : v = VS 0 := hvS.trans hv0
  have h8 := hv.2.2.1
  have hFS : FS cy f S (wBF cy f fa s o an pr un hs e1 e2 fc SC OB sn AD VS) := ⟨fa, s, o, pr, un, hs, an, e1, e2, fc, SC, OB, sn, AD, VS, rfl, hF⟩
  refine MX_by (own := RX5) (L := [some (.ref f), some (.int x)]) hst (by decide +kernel) rfl rfl (Nat.le_of_ble_eq_true rfl) 0 rfl (fun X hX hE hO hnL hG hcy hnm => ?_)
  refine r_aload_n (pc' := 1) hX dX5_mouldLength_0 rfl rfl ?_
  refine V_call0 (k' := 0) (n' := 0) (pc' := 4) hX (r_runV (As := []) hX dX5_mouldLength_1 k_X5_88 (fun l9 hl9 => cF_now (by assumption) (by assumption)) hG ⟨7, _, TX5, 9, List.mem_cons_self, rfl⟩ rfl rfl (Nat.le_of_ble_eq_true rfl) (by decide) (by decide) (by decide) (by decide)) rfl rfl rfl (fun w9 u9 hp9 => ?_)
  obtain ⟨rfl, rfl⟩ := hp9
  change V X 0 0 (wBF cy f fa s o an pr un hs e1 e2 fc SC OB sn AD VS) [some (.ref f), some (.int x)] [.ref (AD 0 0)] 4
  refine r_iload_n (pc' := 5) hX dX5_mouldLength_4 rfl rfl ?_
  refine V_call (k' := 0) (n' := 0) (pc' := 8) (wr := (((wBFl cy f fa s o an pr un hs e1 e2 fc SC OB sn AD VS)).eraseIdx 1).flatten) hX (r_runV (As := [.int x]) hX dX5_mouldLength_5 k_X5_103 (fun l9 hl9 => cS_lengthOf hv) hG ⟨6, _, TX4, 17, List.mem_cons_self, rfl⟩ rfl rfl (Nat.le_of_ble_eq_true rfl) (by decide) (by decide) (by decide) (by decide)) (fl_out (bs := (wBFl cy f fa s o an pr un hs e1 e2 fc SC OB sn AD VS)) 1 rfl) rfl rfl rfl (fun w9 u9 hp9 => ?_)
  obtain ⟨rfl, rfl⟩ := hp9
  change V X 0 0 (wSt cy (AD 0) (VS 0) ++ (((wBFl cy f fa s o an pr un hs e1 e2 fc SC OB sn AD VS)).eraseIdx 1).flatten) [some (.ref f), some (.int x)] [.int (qMld 1 (VS 0) x)] 8
  refine V_perm (fl_back (bs := (wBFl cy f fa s o an pr un hs e1 e2 fc SC OB sn AD VS)) (bs' := (wBFl cy f fa s o an pr un hs e1 e2 fc SC OB sn AD VS)) 1 rfl rfl) ?_
  refine V_callX (k' := 1) (n' := 6) (pc' := 11) (wr := (wBF cy f fa s o an pr un hs e1 e2 fc SC OB sn AD VS)) hX (r_runSX (As := [.int (qMld 1 (VS 0) x)]) hX dX5_mouldLength_8 k_X5_97 (fun l9 hl9 => by cases hl9; exact cF_answered (Outs_nost hO)) hG rfl rfl (Nat.le_of_ble_eq_true rfl) (by decide) (by decide) (by decide) (by decide)) (List.Perm.refl _) rfl rfl rfl (fun w9 u9 hp9 => ?_) ?_
  · obtain ⟨rfl, hx9, rfl⟩ := hp9
    change V X 1 6 (wBF cy f fa s o an pr un hs e1 e2 fc SC OB sn AD VS) [some (.ref f), some (.int x)] [.int (qMld 1 (VS 0) x)] 11
    exact r_ireturn hX hE dX5_mouldLength_11 rfl ⟨hx9, rfl, hFS⟩ (by omega) (by omega)
  · intro E9 u9 hp9
    obtain ⟨hx9, hE9, rfl⟩ := hp9
    exact VX_out hX hO ⟨hx9, hE9, hFS⟩ (by decide) (by decide)

set_option maxRecDepth 20000 in
set_option maxHeartbeats 1000000 in
theorem cF_uses {l : Launch} {D : va_G} {cy : Nat → ClassId} {sa : Nat → Nat} {f K : Nat} {S : AS} {ws : va_W} {v : SV} (hvS : v = S.1) (hS : FS cy f S ws) (hI : AI K S) {x : Int32} (hst : l.stackTraces = false) : MX l yX5_uses cX5_uses 2 (some .int) 7 1 6 (D, cy, sa) [.ref f, .int x] (ws) (fun w u => okA (qMld 2 v x) ∧ w = some (.int (qMld 2 v x)) ∧ FS cy f (S) u) (fun E u => noA (qMld 2 v x) ∧ E = exC (qMld 2 v x) ∧ FS cy f S u) := by
  obtain ⟨fa, s, o, pr, un, hs, an, e1, e2, fc, SC, OB, sn, AD, VS, rfl, hF⟩ := hS
  obtain ⟨⟨hpr, hfc⟩, ⟨hv0, hul, hun, hus⟩, ⟨hh1, hh2⟩, hSC, hOB, he1, he2⟩ := id hF
  have hA0 : fc pr = AD 0 0 := by
    have := hfc 0 (by decide)
    rwa [show (pr + 0) % 10 = pr by omega] at this
  have hA1 : fc ((pr + 1) % 10) = AD 1 0 := hfc 1 (by decide)
  have hv : Wf (VS 0) := hv0 ▸ hI.1.1.1
  have hFB : FB (VS 0) := hv0 ▸ hI.1.2
  have hInv : Inv K (VS 0) := hv0 ▸ hI.1.1
  obtain rfl : v = VS 0 := hvS.trans hv0
  have h8 := hv.2.2.1
  have hFS : FS cy f S (wBF cy f fa s o an pr un hs e1 e2 fc SC OB sn AD VS) := ⟨fa, s, o, pr, un, hs, an, e1, e2, fc, SC, OB, sn, AD, VS, rfl, hF⟩
  refine MX_by (own := RX5) (L := [some (.ref f), some (.int x)]) hst (by decide +kernel) rfl rfl (Nat.le_of_ble_eq_true rfl) 0 rfl (fun X hX hE hO hnL hG hcy hnm => ?_)
  refine r_aload_n (pc' := 1) hX dX5_uses_0 rfl rfl ?_
  refine V_call0 (k' := 0) (n' := 0) (pc' := 4) hX (r_runV (As := []) hX dX5_uses_1 k_X5_88 (fun l9 hl9 => cF_now (by assumption) (by assumption)) hG ⟨7, _, TX5, 9, List.mem_cons_self, rfl⟩ rfl rfl (Nat.le_of_ble_eq_true rfl) (by decide) (by decide) (by decide) (by decide)) rfl rfl rfl (fun w9 u9 hp9 => ?_)
  obtain ⟨rfl, rfl⟩ := hp9
  change V X 0 0 (wBF cy f fa s o an pr un hs e1 e2 fc SC OB sn AD VS) [some (.ref f), some (.int x)] [.ref (AD 0 0)] 4
  refine r_iload_n (pc' := 5) hX dX5_uses_4 rfl rfl ?_
  refine V_call (k' := 0) (n' := 0) (pc' := 8) (wr := (((wBFl cy f fa s o an pr un hs e1 e2 fc SC OB sn AD VS)).eraseIdx 1).flatten) hX (r_runV (As := [.int x]) hX dX5_uses_5 k_X5_106 (fun l9 hl9 => cS_usesOf hv) hG ⟨6, _, TX4, 17, List.mem_cons_self, rfl⟩ rfl rfl (Nat.le_of_ble_eq_true rfl) (by decide) (by decide) (by decide) (by decide)) (fl_out (bs := (wBFl cy f fa s o an pr un hs e1 e2 fc SC OB sn AD VS)) 1 rfl) rfl rfl rfl (fun w9 u9 hp9 => ?_)
  obtain ⟨rfl, rfl⟩ := hp9
  change V X 0 0 (wSt cy (AD 0) (VS 0) ++ (((wBFl cy f fa s o an pr un hs e1 e2 fc SC OB sn AD VS)).eraseIdx 1).flatten) [some (.ref f), some (.int x)] [.int (qMld 2 (VS 0) x)] 8
  refine V_perm (fl_back (bs := (wBFl cy f fa s o an pr un hs e1 e2 fc SC OB sn AD VS)) (bs' := (wBFl cy f fa s o an pr un hs e1 e2 fc SC OB sn AD VS)) 1 rfl rfl) ?_
  refine V_callX (k' := 1) (n' := 6) (pc' := 11) (wr := (wBF cy f fa s o an pr un hs e1 e2 fc SC OB sn AD VS)) hX (r_runSX (As := [.int (qMld 2 (VS 0) x)]) hX dX5_uses_8 k_X5_97 (fun l9 hl9 => by cases hl9; exact cF_answered (Outs_nost hO)) hG rfl rfl (Nat.le_of_ble_eq_true rfl) (by decide) (by decide) (by decide) (by decide)) (List.Perm.refl _) rfl rfl rfl (fun w9 u9 hp9 => ?_) ?_
  · obtain ⟨rfl, hx9, rfl⟩ := hp9
    change V X 1 6 (wBF cy f fa s o an pr un hs e1 e2 fc SC OB sn AD VS) [some (.ref f), some (.int x)] [.int (qMld 2 (VS 0) x)] 11
    exact r_ireturn hX hE dX5_uses_11 rfl ⟨hx9, rfl, hFS⟩ (by omega) (by omega)
  · intro E9 u9 hp9
    obtain ⟨hx9, hE9, rfl⟩ := hp9
    exact VX_out hX hO ⟨hx9, hE9, hFS⟩ (by decide) (by decide)

set_option maxRecDepth 20000 in
set_option maxHeartbeats 1000000 in
theorem cF_stock {l : Launch} {D : va_G} {cy : Nat → ClassId} {sa : Nat → Nat} {f K : Nat} {S : AS} {ws : va_W} {v : SV} (hvS : v = S.1) (hS : FS cy f S ws) (hI : AI K S) {x : Int32} (hst : l.stackTraces = false) : MX l yX5_stock cX5_stock 2 (some .int) 7 1 6 (D, cy, sa) [.ref f, .int x] (ws) (fun w u => okA (qMet 3 v x) ∧ w = some (.int (qMet 3 v x)) ∧ FS cy f (S) u) (fun E u => noA (qMet 3 v x) ∧ E = exC (qMet 3 v x) ∧ FS cy f S u) := by
  obtain ⟨fa, s, o, pr, un, hs, an, e1, e2, fc, SC, OB, sn, AD, VS, rfl, hF⟩ := hS
  obtain ⟨⟨hpr, hfc⟩, ⟨hv0, hul, hun, hus⟩, ⟨hh1, hh2⟩, hSC, hOB, he1, he2⟩ := id hF
  have hA0 : fc pr = AD 0 0 := by
    have := hfc 0 (by decide)
    rwa [show (pr + 0) % 10 = pr by omega] at this
  have hA1 : fc ((pr + 1) % 10) = AD 1 0 := hfc 1 (by decide)
  have hv : Wf (VS 0) := hv0 ▸ hI.1.1.1
  have hFB : FB (VS 0) := hv0 ▸ hI.1.2
  have hInv : Inv K (VS 0) := hv0 ▸ hI.1.1
  obtain rfl : v = VS 0 := hvS.trans hv0
  have h8 := hv.2.2.1
  have hFS : FS cy f S (wBF cy f fa s o an pr un hs e1 e2 fc SC OB sn AD VS) := ⟨fa, s, o, pr, un, hs, an, e1, e2, fc, SC, OB, sn, AD, VS, rfl, hF⟩
  refine MX_by (own := RX5) (L := [some (.ref f), some (.int x)]) hst (by decide +kernel) rfl rfl (Nat.le_of_ble_eq_true rfl) 0 rfl (fun X hX hE hO hnL hG hcy hnm => ?_)
  refine r_aload_n (pc' := 1) hX dX5_stock_0 rfl rfl ?_
  refine V_call0 (k' := 0) (n' := 0) (pc' := 4) hX (r_runV (As := []) hX dX5_stock_1 k_X5_88 (fun l9 hl9 => cF_now (by assumption) (by assumption)) hG ⟨7, _, TX5, 9, List.mem_cons_self, rfl⟩ rfl rfl (Nat.le_of_ble_eq_true rfl) (by decide) (by decide) (by decide) (by decide)) rfl rfl rfl (fun w9 u9 hp9 => ?_)
  obtain ⟨rfl, rfl⟩ := hp9
  change V X 0 0 (wBF cy f fa s o an pr un hs e1 e2 fc SC OB sn AD VS) [some (.ref f), some (.int x)] [.ref (AD 0 0)] 4
  refine r_iload_n (pc' := 5) hX dX5_stock_4 rfl rfl ?_
  refine V_call (k' := 0) (n' := 0) (pc' := 8) (wr := (((wBFl cy f fa s o an pr un hs e1 e2 fc SC OB sn AD VS)).eraseIdx 1).flatten) hX (r_runV (As := [.int x]) hX dX5_stock_5 k_X5_109 (fun l9 hl9 => cS_stockOf hv) hG ⟨6, _, TX4, 17, List.mem_cons_self, rfl⟩ rfl rfl (Nat.le_of_ble_eq_true rfl) (by decide) (by decide) (by decide) (by decide)) (fl_out (bs := (wBFl cy f fa s o an pr un hs e1 e2 fc SC OB sn AD VS)) 1 rfl) rfl rfl rfl (fun w9 u9 hp9 => ?_)
  obtain ⟨rfl, rfl⟩ := hp9
  change V X 0 0 (wSt cy (AD 0) (VS 0) ++ (((wBFl cy f fa s o an pr un hs e1 e2 fc SC OB sn AD VS)).eraseIdx 1).flatten) [some (.ref f), some (.int x)] [.int (qMet 3 (VS 0) x)] 8
  refine V_perm (fl_back (bs := (wBFl cy f fa s o an pr un hs e1 e2 fc SC OB sn AD VS)) (bs' := (wBFl cy f fa s o an pr un hs e1 e2 fc SC OB sn AD VS)) 1 rfl rfl) ?_
  refine V_callX (k' := 1) (n' := 6) (pc' := 11) (wr := (wBF cy f fa s o an pr un hs e1 e2 fc SC OB sn AD VS)) hX (r_runSX (As := [.int (qMet 3 (VS 0) x)]) hX dX5_stock_8 k_X5_97 (fun l9 hl9 => by cases hl9; exact cF_answered (Outs_nost hO)) hG rfl rfl (Nat.le_of_ble_eq_true rfl) (by decide) (by decide) (by decide) (by decide)) (List.Perm.refl _) rfl rfl rfl (fun w9 u9 hp9 => ?_) ?_
  · obtain ⟨rfl, hx9, rfl⟩ := hp9
    change V X 1 6 (wBF cy f fa s o an pr un hs e1 e2 fc SC OB sn AD VS) [some (.ref f), some (.int x)] [.int (qMet 3 (VS 0) x)] 11
    exact r_ireturn hX hE dX5_stock_11 rfl ⟨hx9, rfl, hFS⟩ (by omega) (by omega)
  · intro E9 u9 hp9
    obtain ⟨hx9, hE9, rfl⟩ := hp9
    exact VX_out hX hO ⟨hx9, hE9, hFS⟩ (by decide) (by decide)

set_option maxRecDepth 20000 in
set_option maxHeartbeats 1000000 in
theorem cF_lostGrams {l : Launch} {D : va_G} {cy : Nat → ClassId} {sa : Nat → Nat} {f K : Nat} {S : AS} {ws : va_W} {v : SV} (hvS : v = S.1) (hS : FS cy f S ws) (hI : AI K S) {x : Int32} (hst : l.stackTraces = false) : MX l yX5_lostGrams cX5_lostGrams 2 (some .int) 7 1 6 (D, cy, sa) [.ref f, .int x] (ws) (fun w u => okA (qMet 6 v x) ∧ w = some (.int (qMet 6 v x)) ∧ FS cy f (S) u) (fun E u => noA (qMet 6 v x) ∧ E = exC (qMet 6 v x) ∧ FS cy f S u) := by
  obtain ⟨fa, s, o, pr, un, hs, an, e1, e2, fc, SC, OB, sn, AD, VS, rfl, hF⟩ := hS
  obtain ⟨⟨hpr, hfc⟩, ⟨hv0, hul, hun, hus⟩, ⟨hh1, hh2⟩, hSC, hOB, he1, he2⟩ := id hF
  have hA0 : fc pr = AD 0 0 := by
    have := hfc 0 (by decide)
    rwa [show (pr + 0) % 10 = pr by omega] at this
  have hA1 : fc ((pr + 1) % 10) = AD 1 0 := hfc 1 (by decide)
  have hv : Wf (VS 0) := hv0 ▸ hI.1.1.1
  have hFB : FB (VS 0) := hv0 ▸ hI.1.2
  have hInv : Inv K (VS 0) := hv0 ▸ hI.1.1
  obtain rfl : v = VS 0 := hvS.trans hv0
  have h8 := hv.2.2.1
  have hFS : FS cy f S (wBF cy f fa s o an pr un hs e1 e2 fc SC OB sn AD VS) := ⟨fa, s, o, pr, un, hs, an, e1, e2, fc, SC, OB, sn, AD, VS, rfl, hF⟩
  refine MX_by (own := RX5) (L := [some (.ref f), some (.int x)]) hst (by decide +kernel) rfl rfl (Nat.le_of_ble_eq_true rfl) 0 rfl (fun X hX hE hO hnL hG hcy hnm => ?_)
  refine r_aload_n (pc' := 1) hX dX5_lostGrams_0 rfl rfl ?_
  refine V_call0 (k' := 0) (n' := 0) (pc' := 4) hX (r_runV (As := []) hX dX5_lostGrams_1 k_X5_88 (fun l9 hl9 => cF_now (by assumption) (by assumption)) hG ⟨7, _, TX5, 9, List.mem_cons_self, rfl⟩ rfl rfl (Nat.le_of_ble_eq_true rfl) (by decide) (by decide) (by decide) (by decide)) rfl rfl rfl (fun w9 u9 hp9 => ?_)
  obtain ⟨rfl, rfl⟩ := hp9
  change V X 0 0 (wBF cy f fa s o an pr un hs e1 e2 fc SC OB sn AD VS) [some (.ref f), some (.int x)] [.ref (AD 0 0)] 4
  refine r_iload_n (pc' := 5) hX dX5_lostGrams_4 rfl rfl ?_
  refine V_call (k' := 0) (n' := 0) (pc' := 8) (wr := (((wBFl cy f fa s o an pr un hs e1 e2 fc SC OB sn AD VS)).eraseIdx 1).flatten) hX (r_runV (As := [.int x]) hX dX5_lostGrams_5 k_X5_195 (fun l9 hl9 => cS_lostOf hv) hG ⟨6, _, TX4, 17, List.mem_cons_self, rfl⟩ rfl rfl (Nat.le_of_ble_eq_true rfl) (by decide) (by decide) (by decide) (by decide)) (fl_out (bs := (wBFl cy f fa s o an pr un hs e1 e2 fc SC OB sn AD VS)) 1 rfl) rfl rfl rfl (fun w9 u9 hp9 => ?_)
  obtain ⟨rfl, rfl⟩ := hp9
  change V X 0 0 (wSt cy (AD 0) (VS 0) ++ (((wBFl cy f fa s o an pr un hs e1 e2 fc SC OB sn AD VS)).eraseIdx 1).flatten) [some (.ref f), some (.int x)] [.int (qMet 6 (VS 0) x)] 8
  refine V_perm (fl_back (bs := (wBFl cy f fa s o an pr un hs e1 e2 fc SC OB sn AD VS)) (bs' := (wBFl cy f fa s o an pr un hs e1 e2 fc SC OB sn AD VS)) 1 rfl rfl) ?_
  refine V_callX (k' := 1) (n' := 6) (pc' := 11) (wr := (wBF cy f fa s o an pr un hs e1 e2 fc SC OB sn AD VS)) hX (r_runSX (As := [.int (qMet 6 (VS 0) x)]) hX dX5_lostGrams_8 k_X5_97 (fun l9 hl9 => by cases hl9; exact cF_answered (Outs_nost hO)) hG rfl rfl (Nat.le_of_ble_eq_true rfl) (by decide) (by decide) (by decide) (by decide)) (List.Perm.refl _) rfl rfl rfl (fun w9 u9 hp9 => ?_) ?_
  · obtain ⟨rfl, hx9, rfl⟩ := hp9
    change V X 1 6 (wBF cy f fa s o an pr un hs e1 e2 fc SC OB sn AD VS) [some (.ref f), some (.int x)] [.int (qMet 6 (VS 0) x)] 11
    exact r_ireturn hX hE dX5_lostGrams_11 rfl ⟨hx9, rfl, hFS⟩ (by omega) (by omega)
  · intro E9 u9 hp9
    obtain ⟨hx9, hE9, rfl⟩ := hp9
    exact VX_out hX hO ⟨hx9, hE9, hFS⟩ (by decide) (by decide)

set_option maxRecDepth 20000 in
set_option maxHeartbeats 1000000 in
theorem cF_squeak {l : Launch} {D : va_G} {cy : Nat → ClassId} {sa : Nat → Nat} {f K : Nat} {S : AS} {ws : va_W} {v : SV} (hvS : v = S.1) (hS : FS cy f S ws) (hI : AI K S) {x : Int32} (hst : l.stackTraces = false) : MX l yX5_squeak cX5_squeak 2 (some .int) 7 1 6 (D, cy, sa) [.ref f, .int x] (ws) (fun w u => okA (qSqk v x) ∧ w = some (.int (qSqk v x)) ∧ FS cy f (S) u) (fun E u => noA (qSqk v x) ∧ E = exC (qSqk v x) ∧ FS cy f S u) := by
  obtain ⟨fa, s, o, pr, un, hs, an, e1, e2, fc, SC, OB, sn, AD, VS, rfl, hF⟩ := hS
  obtain ⟨⟨hpr, hfc⟩, ⟨hv0, hul, hun, hus⟩, ⟨hh1, hh2⟩, hSC, hOB, he1, he2⟩ := id hF
  have hA0 : fc pr = AD 0 0 := by
    have := hfc 0 (by decide)
    rwa [show (pr + 0) % 10 = pr by omega] at this
  have hA1 : fc ((pr + 1) % 10) = AD 1 0 := hfc 1 (by decide)
  have hv : Wf (VS 0) := hv0 ▸ hI.1.1.1
  have hFB : FB (VS 0) := hv0 ▸ hI.1.2
  have hInv : Inv K (VS 0) := hv0 ▸ hI.1.1
  obtain rfl : v = VS 0 := hvS.trans hv0
  have h8 := hv.2.2.1
  have hFS : FS cy f S (wBF cy f fa s o an pr un hs e1 e2 fc SC OB sn AD VS) := ⟨fa, s, o, pr, un, hs, an, e1, e2, fc, SC, OB, sn, AD, VS, rfl, hF⟩
  refine MX_by (own := RX5) (L := [some (.ref f), some (.int x)]) hst (by decide +kernel) rfl rfl (Nat.le_of_ble_eq_true rfl) 0 rfl (fun X hX hE hO hnL hG hcy hnm => ?_)
  refine r_aload_n (pc' := 1) hX dX5_squeak_0 rfl rfl ?_
  refine V_call0 (k' := 0) (n' := 0) (pc' := 4) hX (r_runV (As := []) hX dX5_squeak_1 k_X5_88 (fun l9 hl9 => cF_now (by assumption) (by assumption)) hG ⟨7, _, TX5, 9, List.mem_cons_self, rfl⟩ rfl rfl (Nat.le_of_ble_eq_true rfl) (by decide) (by decide) (by decide) (by decide)) rfl rfl rfl (fun w9 u9 hp9 => ?_)
  obtain ⟨rfl, rfl⟩ := hp9
  change V X 0 0 (wBF cy f fa s o an pr un hs e1 e2 fc SC OB sn AD VS) [some (.ref f), some (.int x)] [.ref (AD 0 0)] 4
  refine r_iload_n (pc' := 5) hX dX5_squeak_4 rfl rfl ?_
  refine V_call (k' := 0) (n' := 0) (pc' := 8) (wr := (((wBFl cy f fa s o an pr un hs e1 e2 fc SC OB sn AD VS)).eraseIdx 1).flatten) hX (r_runV (As := [.int x]) hX dX5_squeak_5 k_X5_149 (fun l9 hl9 => cS_squeakOf hv) hG ⟨6, _, TX4, 17, List.mem_cons_self, rfl⟩ rfl rfl (Nat.le_of_ble_eq_true rfl) (by decide) (by decide) (by decide) (by decide)) (fl_out (bs := (wBFl cy f fa s o an pr un hs e1 e2 fc SC OB sn AD VS)) 1 rfl) rfl rfl rfl (fun w9 u9 hp9 => ?_)
  obtain ⟨rfl, rfl⟩ := hp9
  change V X 0 0 (wSt cy (AD 0) (VS 0) ++ (((wBFl cy f fa s o an pr un hs e1 e2 fc SC OB sn AD VS)).eraseIdx 1).flatten) [some (.ref f), some (.int x)] [.int (qSqk (VS 0) x)] 8
  refine V_perm (fl_back (bs := (wBFl cy f fa s o an pr un hs e1 e2 fc SC OB sn AD VS)) (bs' := (wBFl cy f fa s o an pr un hs e1 e2 fc SC OB sn AD VS)) 1 rfl rfl) ?_
  refine V_callX (k' := 1) (n' := 6) (pc' := 11) (wr := (wBF cy f fa s o an pr un hs e1 e2 fc SC OB sn AD VS)) hX (r_runSX (As := [.int (qSqk (VS 0) x)]) hX dX5_squeak_8 k_X5_97 (fun l9 hl9 => by cases hl9; exact cF_answered (Outs_nost hO)) hG rfl rfl (Nat.le_of_ble_eq_true rfl) (by decide) (by decide) (by decide) (by decide)) (List.Perm.refl _) rfl rfl rfl (fun w9 u9 hp9 => ?_) ?_
  · obtain ⟨rfl, hx9, rfl⟩ := hp9
    change V X 1 6 (wBF cy f fa s o an pr un hs e1 e2 fc SC OB sn AD VS) [some (.ref f), some (.int x)] [.int (qSqk (VS 0) x)] 11
    exact r_ireturn hX hE dX5_squeak_11 rfl ⟨hx9, rfl, hFS⟩ (by omega) (by omega)
  · intro E9 u9 hp9
    obtain ⟨hx9, hE9, rfl⟩ := hp9
    exact VX_out hX hO ⟨hx9, hE9, hFS⟩ (by decide) (by decide)

set_option maxRecDepth 20000 in
set_option maxHeartbeats 1000000 in
theorem cF_batchOf {l : Launch} {D : va_G} {cy : Nat → ClassId} {sa : Nat → Nat} {f K : Nat} {S : AS} {ws : va_W} {v : SV} (hvS : v = S.1) (hS : FS cy f S ws) (hI : AI K S) {x : Int32} (hst : l.stackTraces = false) : MX l yX5_batchOf cX5_batchOf 2 (some .int) 7 1 6 (D, cy, sa) [.ref f, .int x] (ws) (fun w u => okA (qBof v x) ∧ w = some (.int (qBof v x)) ∧ FS cy f (S) u) (fun E u => noA (qBof v x) ∧ E = exC (qBof v x) ∧ FS cy f S u) := by
  obtain ⟨fa, s, o, pr, un, hs, an, e1, e2, fc, SC, OB, sn, AD, VS, rfl, hF⟩ := hS
  obtain ⟨⟨hpr, hfc⟩, ⟨hv0, hul, hun, hus⟩, ⟨hh1, hh2⟩, hSC, hOB, he1, he2⟩ := id hF
  have hA0 : fc pr = AD 0 0 := by
    have := hfc 0 (by decide)
    rwa [show (pr + 0) % 10 = pr by omega] at this
  have hA1 : fc ((pr + 1) % 10) = AD 1 0 := hfc 1 (by decide)
  have hv : Wf (VS 0) := hv0 ▸ hI.1.1.1
  have hFB : FB (VS 0) := hv0 ▸ hI.1.2
  have hInv : Inv K (VS 0) := hv0 ▸ hI.1.1
  obtain rfl : v = VS 0 := hvS.trans hv0
  have h8 := hv.2.2.1
  have hFS : FS cy f S (wBF cy f fa s o an pr un hs e1 e2 fc SC OB sn AD VS) := ⟨fa, s, o, pr, un, hs, an, e1, e2, fc, SC, OB, sn, AD, VS, rfl, hF⟩
  refine MX_by (own := RX5) (L := [some (.ref f), some (.int x)]) hst (by decide +kernel) rfl rfl (Nat.le_of_ble_eq_true rfl) 0 rfl (fun X hX hE hO hnL hG hcy hnm => ?_)
  refine r_aload_n (pc' := 1) hX dX5_batchOf_0 rfl rfl ?_
  refine V_call0 (k' := 0) (n' := 0) (pc' := 4) hX (r_runV (As := []) hX dX5_batchOf_1 k_X5_88 (fun l9 hl9 => cF_now (by assumption) (by assumption)) hG ⟨7, _, TX5, 9, List.mem_cons_self, rfl⟩ rfl rfl (Nat.le_of_ble_eq_true rfl) (by decide) (by decide) (by decide) (by decide)) rfl rfl rfl (fun w9 u9 hp9 => ?_)
  obtain ⟨rfl, rfl⟩ := hp9
  change V X 0 0 (wBF cy f fa s o an pr un hs e1 e2 fc SC OB sn AD VS) [some (.ref f), some (.int x)] [.ref (AD 0 0)] 4
  refine r_iload_n (pc' := 5) hX dX5_batchOf_4 rfl rfl ?_
  refine V_call (k' := 0) (n' := 0) (pc' := 8) (wr := (((wBFl cy f fa s o an pr un hs e1 e2 fc SC OB sn AD VS)).eraseIdx 1).flatten) hX (r_runV (As := [.int x]) hX dX5_batchOf_5 k_X5_152 (fun l9 hl9 => cS_batchWith hv) hG ⟨6, _, TX4, 17, List.mem_cons_self, rfl⟩ rfl rfl (Nat.le_of_ble_eq_true rfl) (by decide) (by decide) (by decide) (by decide)) (fl_out (bs := (wBFl cy f fa s o an pr un hs e1 e2 fc SC OB sn AD VS)) 1 rfl) rfl rfl rfl (fun w9 u9 hp9 => ?_)
  obtain ⟨rfl, rfl⟩ := hp9
  change V X 0 0 (wSt cy (AD 0) (VS 0) ++ (((wBFl cy f fa s o an pr un hs e1 e2 fc SC OB sn AD VS)).eraseIdx 1).flatten) [some (.ref f), some (.int x)] [.int (qBof (VS 0) x)] 8
  refine V_perm (fl_back (bs := (wBFl cy f fa s o an pr un hs e1 e2 fc SC OB sn AD VS)) (bs' := (wBFl cy f fa s o an pr un hs e1 e2 fc SC OB sn AD VS)) 1 rfl rfl) ?_
  refine V_callX (k' := 1) (n' := 6) (pc' := 11) (wr := (wBF cy f fa s o an pr un hs e1 e2 fc SC OB sn AD VS)) hX (r_runSX (As := [.int (qBof (VS 0) x)]) hX dX5_batchOf_8 k_X5_97 (fun l9 hl9 => by cases hl9; exact cF_answered (Outs_nost hO)) hG rfl rfl (Nat.le_of_ble_eq_true rfl) (by decide) (by decide) (by decide) (by decide)) (List.Perm.refl _) rfl rfl rfl (fun w9 u9 hp9 => ?_) ?_
  · obtain ⟨rfl, hx9, rfl⟩ := hp9
    change V X 1 6 (wBF cy f fa s o an pr un hs e1 e2 fc SC OB sn AD VS) [some (.ref f), some (.int x)] [.int (qBof (VS 0) x)] 11
    exact r_ireturn hX hE dX5_batchOf_11 rfl ⟨hx9, rfl, hFS⟩ (by omega) (by omega)
  · intro E9 u9 hp9
    obtain ⟨hx9, hE9, rfl⟩ := hp9
    exact VX_out hX hO ⟨hx9, hE9, hFS⟩ (by decide) (by decide)

set_option maxRecDepth 20000 in
set_option maxHeartbeats 1000000 in
theorem cF_nextSqueak {l : Launch} {D : va_G} {cy : Nat → ClassId} {sa : Nat → Nat} {f K : Nat} {S : AS} {ws : va_W} {v : SV} (hvS : v = S.1) (hS : FS cy f S ws) (hI : AI K S) {x y : Int32} (hst : l.stackTraces = false) : MX l yX5_nextSqueak cX5_nextSqueak 3 (some .int) 7 1 6 (D, cy, sa) [.ref f, .int x, .int y] (ws) (fun w u => okA (qNxt v x y) ∧ w = some (.int (qNxt v x y)) ∧ FS cy f (S) u) (fun E u => noA (qNxt v x y) ∧ E = exC (qNxt v x y) ∧ FS cy f S u) := by
  obtain ⟨fa, s, o, pr, un, hs, an, e1, e2, fc, SC, OB, sn, AD, VS, rfl, hF⟩ := hS
  obtain ⟨⟨hpr, hfc⟩, ⟨hv0, hul, hun, hus⟩, ⟨hh1, hh2⟩, hSC, hOB, he1, he2⟩ := id hF
  have hA0 : fc pr = AD 0 0 := by
    have := hfc 0 (by decide)
    rwa [show (pr + 0) % 10 = pr by omega] at this
  have hA1 : fc ((pr + 1) % 10) = AD 1 0 := hfc 1 (by decide)
  have hv : Wf (VS 0) := hv0 ▸ hI.1.1.1
  have hFB : FB (VS 0) := hv0 ▸ hI.1.2
  have hInv : Inv K (VS 0) := hv0 ▸ hI.1.1
  obtain rfl : v = VS 0 := hvS.trans hv0
  have h8 := hv.2.2.1
  have hFS : FS cy f S (wBF cy f fa s o an pr un hs e1 e2 fc SC OB sn AD VS) := ⟨fa, s, o, pr, un, hs, an, e1, e2, fc, SC, OB, sn, AD, VS, rfl, hF⟩
  refine MX_by (own := RX5) (L := [some (.ref f), some (.int x), some (.int y)]) hst (by decide +kernel) rfl rfl (Nat.le_of_ble_eq_true rfl) 0 rfl (fun X hX hE hO hnL hG hcy hnm => ?_)
  refine r_aload_n (pc' := 1) hX dX5_nextSqueak_0 rfl rfl ?_
  refine V_call0 (k' := 0) (n' := 0) (pc' := 4) hX (r_runV (As := []) hX dX5_nextSqueak_1 k_X5_88 (fun l9 hl9 => cF_now (by assumption) (by assumption)) hG ⟨7, _, TX5, 9, List.mem_cons_self, rfl⟩ rfl rfl (Nat.le_of_ble_eq_true rfl) (by decide) (by decide) (by decide) (by decide)) rfl rfl rfl (fun w9 u9 hp9 => ?_)
  obtain ⟨rfl, rfl⟩ := hp9
  change V X 0 0 (wBF cy f fa s o an pr un hs e1 e2 fc SC OB sn AD VS) [some (.ref f), some (.int x), some (.int y)] [.ref (AD 0 0)] 4
  refine r_iload_n (pc' := 5) hX dX5_nextSqueak_4 rfl rfl ?_
  refine r_iload_n (pc' := 6) hX dX5_nextSqueak_5 rfl rfl ?_
  refine V_call (k' := 0) (n' := 0) (pc' := 9) (wr := (((wBFl cy f fa s o an pr un hs e1 e2 fc SC OB sn AD VS)).eraseIdx 1).flatten) hX (r_runV (As := [.int x, .int y]) hX dX5_nextSqueak_6 k_X5_171 (fun l9 hl9 => cS_squeakToCome hv) hG ⟨6, _, TX4, 17, List.mem_cons_self, rfl⟩ rfl rfl (Nat.le_of_ble_eq_true rfl) (by decide) (by decide) (by decide) (by decide)) (fl_out (bs := (wBFl cy f fa s o an pr un hs e1 e2 fc SC OB sn AD VS)) 1 rfl) rfl rfl rfl (fun w9 u9 hp9 => ?_)
  obtain ⟨rfl, rfl⟩ := hp9
  change V X 0 0 (wSt cy (AD 0) (VS 0) ++ (((wBFl cy f fa s o an pr un hs e1 e2 fc SC OB sn AD VS)).eraseIdx 1).flatten) [some (.ref f), some (.int x), some (.int y)] [.int (qNxt (VS 0) x y)] 9
  refine V_perm (fl_back (bs := (wBFl cy f fa s o an pr un hs e1 e2 fc SC OB sn AD VS)) (bs' := (wBFl cy f fa s o an pr un hs e1 e2 fc SC OB sn AD VS)) 1 rfl rfl) ?_
  refine V_callX (k' := 1) (n' := 6) (pc' := 12) (wr := (wBF cy f fa s o an pr un hs e1 e2 fc SC OB sn AD VS)) hX (r_runSX (As := [.int (qNxt (VS 0) x y)]) hX dX5_nextSqueak_9 k_X5_97 (fun l9 hl9 => by cases hl9; exact cF_answered (Outs_nost hO)) hG rfl rfl (Nat.le_of_ble_eq_true rfl) (by decide) (by decide) (by decide) (by decide)) (List.Perm.refl _) rfl rfl rfl (fun w9 u9 hp9 => ?_) ?_
  · obtain ⟨rfl, hx9, rfl⟩ := hp9
    change V X 1 6 (wBF cy f fa s o an pr un hs e1 e2 fc SC OB sn AD VS) [some (.ref f), some (.int x), some (.int y)] [.int (qNxt (VS 0) x y)] 12
    exact r_ireturn hX hE dX5_nextSqueak_12 rfl ⟨hx9, rfl, hFS⟩ (by omega) (by omega)
  · intro E9 u9 hp9
    obtain ⟨hx9, hE9, rfl⟩ := hp9
    exact VX_out hX hO ⟨hx9, hE9, hFS⟩ (by decide) (by decide)

set_option maxRecDepth 20000 in
set_option maxHeartbeats 1000000 in
theorem cF_possibleBows {l : Launch} {D : va_G} {cy : Nat → ClassId} {sa : Nat → Nat} {f K : Nat} {S : AS} {ws : va_W} {v : SV} (hvS : v = S.1) (hS : FS cy f S ws) (hI : AI K S) {x : Int32} (hst : l.stackTraces = false) : MX l yX5_possibleBows cX5_possibleBows 2 (some .int) 7 1 6 (D, cy, sa) [.ref f, .int x] (ws) (fun w u => okA (qPos v x) ∧ w = some (.int (qPos v x)) ∧ FS cy f (S) u) (fun E u => noA (qPos v x) ∧ E = exC (qPos v x) ∧ FS cy f S u) := by
  obtain ⟨fa, s, o, pr, un, hs, an, e1, e2, fc, SC, OB, sn, AD, VS, rfl, hF⟩ := hS
  obtain ⟨⟨hpr, hfc⟩, ⟨hv0, hul, hun, hus⟩, ⟨hh1, hh2⟩, hSC, hOB, he1, he2⟩ := id hF
  have hA0 : fc pr = AD 0 0 := by
    have := hfc 0 (by decide)
    rwa [show (pr + 0) % 10 = pr by omega] at this
  have hA1 : fc ((pr + 1) % 10) = AD 1 0 := hfc 1 (by decide)
  have hv : Wf (VS 0) := hv0 ▸ hI.1.1.1
  have hFB : FB (VS 0) := hv0 ▸ hI.1.2
  have hInv : Inv K (VS 0) := hv0 ▸ hI.1.1
  obtain rfl : v = VS 0 := hvS.trans hv0
  have h8 := hv.2.2.1
  have hFS : FS cy f S (wBF cy f fa s o an pr un hs e1 e2 fc SC OB sn AD VS) := ⟨fa, s, o, pr, un, hs, an, e1, e2, fc, SC, OB, sn, AD, VS, rfl, hF⟩
  refine MX_by (own := RX5) (L := [some (.ref f), some (.int x)]) hst (by decide +kernel) rfl rfl (Nat.le_of_ble_eq_true rfl) 0 rfl (fun X hX hE hO hnL hG hcy hnm => ?_)
  refine r_aload_n (pc' := 1) hX dX5_possibleBows_0 rfl rfl ?_
  refine V_call0 (k' := 0) (n' := 0) (pc' := 4) hX (r_runV (As := []) hX dX5_possibleBows_1 k_X5_88 (fun l9 hl9 => cF_now (by assumption) (by assumption)) hG ⟨7, _, TX5, 9, List.mem_cons_self, rfl⟩ rfl rfl (Nat.le_of_ble_eq_true rfl) (by decide) (by decide) (by decide) (by decide)) rfl rfl rfl (fun w9 u9 hp9 => ?_)
  obtain ⟨rfl, rfl⟩ := hp9
  change V X 0 0 (wBF cy f fa s o an pr un hs e1 e2 fc SC OB sn AD VS) [some (.ref f), some (.int x)] [.ref (AD 0 0)] 4
  refine r_iload_n (pc' := 5) hX dX5_possibleBows_4 rfl rfl ?_
  refine V_call (k' := 0) (n' := 0) (pc' := 8) (wr := (((wBFl cy f fa s o an pr un hs e1 e2 fc SC OB sn AD VS)).eraseIdx 1).flatten) hX (r_runV (As := [.int x]) hX dX5_possibleBows_5 k_X5_174 (fun l9 hl9 => cS_bowsInStore hv) hG ⟨6, _, TX4, 17, List.mem_cons_self, rfl⟩ rfl rfl (Nat.le_of_ble_eq_true rfl) (by decide) (by decide) (by decide) (by decide)) (fl_out (bs := (wBFl cy f fa s o an pr un hs e1 e2 fc SC OB sn AD VS)) 1 rfl) rfl rfl rfl (fun w9 u9 hp9 => ?_)
  obtain ⟨rfl, rfl⟩ := hp9
  change V X 0 0 (wSt cy (AD 0) (VS 0) ++ (((wBFl cy f fa s o an pr un hs e1 e2 fc SC OB sn AD VS)).eraseIdx 1).flatten) [some (.ref f), some (.int x)] [.int (qPos (VS 0) x)] 8
  refine V_perm (fl_back (bs := (wBFl cy f fa s o an pr un hs e1 e2 fc SC OB sn AD VS)) (bs' := (wBFl cy f fa s o an pr un hs e1 e2 fc SC OB sn AD VS)) 1 rfl rfl) ?_
  refine V_callX (k' := 1) (n' := 6) (pc' := 11) (wr := (wBF cy f fa s o an pr un hs e1 e2 fc SC OB sn AD VS)) hX (r_runSX (As := [.int (qPos (VS 0) x)]) hX dX5_possibleBows_8 k_X5_97 (fun l9 hl9 => by cases hl9; exact cF_answered (Outs_nost hO)) hG rfl rfl (Nat.le_of_ble_eq_true rfl) (by decide) (by decide) (by decide) (by decide)) (List.Perm.refl _) rfl rfl rfl (fun w9 u9 hp9 => ?_) ?_
  · obtain ⟨rfl, hx9, rfl⟩ := hp9
    change V X 1 6 (wBF cy f fa s o an pr un hs e1 e2 fc SC OB sn AD VS) [some (.ref f), some (.int x)] [.int (qPos (VS 0) x)] 11
    exact r_ireturn hX hE dX5_possibleBows_11 rfl ⟨hx9, rfl, hFS⟩ (by omega) (by omega)
  · intro E9 u9 hp9
    obtain ⟨hx9, hE9, rfl⟩ := hp9
    exact VX_out hX hO ⟨hx9, hE9, hFS⟩ (by decide) (by decide)

set_option maxRecDepth 20000 in
set_option maxHeartbeats 1000000 in
theorem cF_metalInBatches {l : Launch} {D : va_G} {cy : Nat → ClassId} {sa : Nat → Nat} {f K : Nat} {S : AS} {ws : va_W} {v : SV} (hvS : v = S.1) (hS : FS cy f S ws) (hI : AI K S) {x : Int32} (hst : l.stackTraces = false) : MX l yX5_metalInBatches cX5_metalInBatches 2 (some .int) 7 1 6 (D, cy, sa) [.ref f, .int x] (ws) (fun w u => okA (qMib v x) ∧ w = some (.int (qMib v x)) ∧ FS cy f (S) u) (fun E u => noA (qMib v x) ∧ E = exC (qMib v x) ∧ FS cy f S u) := by
  obtain ⟨fa, s, o, pr, un, hs, an, e1, e2, fc, SC, OB, sn, AD, VS, rfl, hF⟩ := hS
  obtain ⟨⟨hpr, hfc⟩, ⟨hv0, hul, hun, hus⟩, ⟨hh1, hh2⟩, hSC, hOB, he1, he2⟩ := id hF
  have hA0 : fc pr = AD 0 0 := by
    have := hfc 0 (by decide)
    rwa [show (pr + 0) % 10 = pr by omega] at this
  have hA1 : fc ((pr + 1) % 10) = AD 1 0 := hfc 1 (by decide)
  have hv : Wf (VS 0) := hv0 ▸ hI.1.1.1
  have hFB : FB (VS 0) := hv0 ▸ hI.1.2
  have hInv : Inv K (VS 0) := hv0 ▸ hI.1.1
  obtain rfl : v = VS 0 := hvS.trans hv0
  have h8 := hv.2.2.1
  have hFS : FS cy f S (wBF cy f fa s o an pr un hs e1 e2 fc SC OB sn AD VS) := ⟨fa, s, o, pr, un, hs, an, e1, e2, fc, SC, OB, sn, AD, VS, rfl, hF⟩
  refine MX_by (own := RX5) (L := [some (.ref f), some (.int x)]) hst (by decide +kernel) rfl rfl (Nat.le_of_ble_eq_true rfl) 0 rfl (fun X hX hE hO hnL hG hcy hnm => ?_)
  refine r_aload_n (pc' := 1) hX dX5_metalInBatches_0 rfl rfl ?_
  refine V_call0 (k' := 0) (n' := 0) (pc' := 4) hX (r_runV (As := []) hX dX5_metalInBatches_1 k_X5_88 (fun l9 hl9 => cF_now (by assumption) (by assumption)) hG ⟨7, _, TX5, 9, List.mem_cons_self, rfl⟩ rfl rfl (Nat.le_of_ble_eq_true rfl) (by decide) (by decide) (by decide) (by decide)) rfl rfl rfl (fun w9 u9 hp9 => ?_)
  obtain ⟨rfl, rfl⟩ := hp9
  change V X 0 0 (wBF cy f fa s o an pr un hs e1 e2 fc SC OB sn AD VS) [some (.ref f), some (.int x)] [.ref (AD 0 0)] 4
  refine r_iload_n (pc' := 5) hX dX5_metalInBatches_4 rfl rfl ?_
  refine V_call (k' := 0) (n' := 0) (pc' := 8) (wr := (((wBFl cy f fa s o an pr un hs e1 e2 fc SC OB sn AD VS)).eraseIdx 1).flatten) hX (r_runV (As := [.int x]) hX dX5_metalInBatches_5 k_X5_177 (fun l9 hl9 => cS_metalByBows hv) hG ⟨6, _, TX4, 17, List.mem_cons_self, rfl⟩ rfl rfl (Nat.le_of_ble_eq_true rfl) (by decide) (by decide) (by decide) (by decide)) (fl_out (bs := (wBFl cy f fa s o an pr un hs e1 e2 fc SC OB sn AD VS)) 1 rfl) rfl rfl rfl (fun w9 u9 hp9 => ?_)
  obtain ⟨rfl, rfl⟩ := hp9
  change V X 0 0 (wSt cy (AD 0) (VS 0) ++ (((wBFl cy f fa s o an pr un hs e1 e2 fc SC OB sn AD VS)).eraseIdx 1).flatten) [some (.ref f), some (.int x)] [.int (qMib (VS 0) x)] 8
  refine V_perm (fl_back (bs := (wBFl cy f fa s o an pr un hs e1 e2 fc SC OB sn AD VS)) (bs' := (wBFl cy f fa s o an pr un hs e1 e2 fc SC OB sn AD VS)) 1 rfl rfl) ?_
  refine V_callX (k' := 1) (n' := 6) (pc' := 11) (wr := (wBF cy f fa s o an pr un hs e1 e2 fc SC OB sn AD VS)) hX (r_runSX (As := [.int (qMib (VS 0) x)]) hX dX5_metalInBatches_8 k_X5_97 (fun l9 hl9 => by cases hl9; exact cF_answered (Outs_nost hO)) hG rfl rfl (Nat.le_of_ble_eq_true rfl) (by decide) (by decide) (by decide) (by decide)) (List.Perm.refl _) rfl rfl rfl (fun w9 u9 hp9 => ?_) ?_
  · obtain ⟨rfl, hx9, rfl⟩ := hp9
    change V X 1 6 (wBF cy f fa s o an pr un hs e1 e2 fc SC OB sn AD VS) [some (.ref f), some (.int x)] [.int (qMib (VS 0) x)] 11
    exact r_ireturn hX hE dX5_metalInBatches_11 rfl ⟨hx9, rfl, hFS⟩ (by omega) (by omega)
  · intro E9 u9 hp9
    obtain ⟨hx9, hE9, rfl⟩ := hp9
    exact VX_out hX hO ⟨hx9, hE9, hFS⟩ (by decide) (by decide)
