theorem FR_dr {cy : Nat → ClassId} {s o pr un hs : Nat} {e1 e2 : Int32} {fc : Nat → Nat} {SC OB : va_W} {sn : SV} {AD : Nat → Nat → Nat} {VS : Nat → SV} {S : AS} (h : FR cy s o pr un hs e1 e2 fc SC OB sn AD VS S) {ad : Nat → Nat} (had : ad 0 = AD 1 0) (x w : SV) :
    FR cy s o pr un hs e1 e2 fc SC OB sn (upA AD 1 ad) (upA (upA VS 1 x) 1 w) S := by
  obtain ⟨⟨hpr, hfc⟩, ⟨hv0, hul, hun, hus⟩, hr⟩ := h
  refine ⟨⟨hpr, fun r hr => ?_⟩, ⟨hv0, hul, hun, fun i hi => ?_⟩, hr⟩
  · unfold upA
    by_cases c1 : r = 1
    · rw [if_pos c1, had, ← hfc 1 (by decide), c1]
    · rw [if_neg c1]; exact hfc r hr
  · unfold upA
    rw [if_neg (by omega), if_neg (by omega)]
    exact hus i hi
set_option maxRecDepth 20000 in
set_option maxHeartbeats 1000000 in
theorem cF_addAlloy {l : Launch} {D : va_G} {cy : Nat → ClassId} {sa : Nat → Nat} {f K : Nat} {S : AS} {ws : va_W} {v : SV} (hvS : v = S.1) (hS : FS cy f S ws) (hI : AI K S) {x y z : Int32} (hst : l.stackTraces = false) : MX l yX5_addAlloy cX5_addAlloy 4 (some .int) 8 1 6 (D, cy, sa) [.ref f, .int x, .int y, .int z] (ws) (fun w u => okA (oMix v x y z).1 ∧ w = some (.int (oMix v x y z).1) ∧ FS cy f ((oMix v x y z).2, (S.1 :: S.2.1).take 8, S.2.2) u) (fun E u => noA (oMix v x y z).1 ∧ E = exC (oMix v x y z).1 ∧ FS cy f S u) := by
  obtain ⟨fa, s, o, pr, un, hs, an, e1, e2, fc, SC, OB, sn, AD, VS, rfl, hF⟩ := hS
  obtain ⟨⟨hpr, hfc⟩, ⟨hv0, hul, hun, hus⟩, ⟨hh1, hh2⟩, hSC, hOB, he1, he2⟩ := id hF
  have hA0 : fc pr = AD 0 0 := by
    have := hfc 0 (by decide)
    rwa [show (pr + 0) % 10 = pr by omega] at this
  have hA1 : fc ((pr + 1) % 10) = AD 1 0 := hfc 1 (by decide)
  have hv : Wf (VS 0) := hv0 ▸ hI.1.1.1
  have hFB : FB (VS 0) := hv0 ▸ hI.1.2
  have hInv : Inv K (VS 0) := hv0 ▸ hI.1.1
  obtain rfl : v = VS 0 := hvS.trans hv0
  have h8 := hv.2.2.1
  have hFS : FS cy f S (wBF cy f fa s o an pr un hs e1 e2 fc SC OB sn AD VS) := ⟨fa, s, o, pr, un, hs, an, e1, e2, fc, SC, OB, sn, AD, VS, rfl, hF⟩
  have hst5 := hv.2.2.2.1
  have htol := hv.2.2.2.2.1
  refine MX_by (own := RX5) (L := [some (.ref f), some (.int x), some (.int y), some (.int z)]) hst (by decide +kernel) rfl rfl (Nat.le_of_ble_eq_true rfl) 0 rfl (fun X hX hE hO hnL hG hcy hnm => ?_)
  refine r_aload_n (pc' := 1) hX dX5_addAlloy_0 rfl rfl ?_
  refine r_aload_n (pc' := 2) hX dX5_addAlloy_1 rfl rfl ?_
  refine V_call0 (k' := 0) (n' := 0) (pc' := 5) hX (r_runV (As := []) hX dX5_addAlloy_2 k_X5_51 (fun l9 hl9 => cF_draft hpr hA0 hA1 hFB) hG ⟨7, _, TX5, 9, List.mem_cons_self, rfl⟩ rfl rfl (Nat.le_of_ble_eq_true rfl) (by decide) (by decide) (by decide) (by decide)) rfl rfl rfl (fun w9 u9 hp9 => ?_)
  obtain ⟨rfl, rfl⟩ := hp9
  change V X 0 0 (wBF cy f fa s o an pr un hs e1 e2 fc SC OB sn AD (upA VS 1 (VS 0))) [some (.ref f), some (.int x), some (.int y), some (.int z)] [.ref (AD 1 0), .ref f] 5
  refine r_iload_n (pc' := 6) hX dX5_addAlloy_5 rfl rfl ?_
  refine r_iload_n (pc' := 7) hX dX5_addAlloy_6 rfl rfl ?_
  refine r_iload_n (pc' := 8) hX dX5_addAlloy_7 rfl rfl ?_
  refine V_call (k' := 0) (n' := 0) (pc' := 11) (wr := ((wBFl cy f fa s o an pr un hs e1 e2 fc SC OB sn AD (upA VS 1 (VS 0))).eraseIdx 2).flatten) hX (r_runV (As := [.int x, .int y, .int z]) hX dX5_addAlloy_8 k_X5_55 (fun l9 hl9 => cS_mixAlloy (ad := AD 1) (v := VS 0) hv) hG ⟨6, _, TX4, 17, List.mem_cons_self, rfl⟩ rfl rfl (Nat.le_of_ble_eq_true rfl) (by decide) (by decide) (by decide) (by decide)) (fl_out (bs := (wBFl cy f fa s o an pr un hs e1 e2 fc SC OB sn AD (upA VS 1 (VS 0)))) 2 rfl) rfl rfl rfl (fun w9 u9 hp9 => ?_)
  obtain ⟨rfl, rfl⟩ := hp9
  have had9 : (AD 1) 0 = AD 1 0 := rfl
  change V X 0 0 (wSt cy (AD 1) (oMix (VS 0) x y z).2 ++ ((wBFl cy f fa s o an pr un hs e1 e2 fc SC OB sn AD (upA VS 1 (VS 0))).eraseIdx 2).flatten) [some (.ref f), some (.int x), some (.int y), some (.int z)] [.int ((oMix (VS 0) x y z).1), .ref f] 11
  refine V_perm (fl_back (bs := (wBFl cy f fa s o an pr un hs e1 e2 fc SC OB sn AD (upA VS 1 (VS 0)))) (bs' := (wBFl cy f fa s o an pr un hs e1 e2 fc SC OB sn (upA AD 1 (AD 1)) (upA (upA VS 1 (VS 0)) 1 (oMix (VS 0) x y z).2))) 2 rfl rfl) ?_
  refine V_call0X (k' := 1) (n' := 6) (pc' := 14) hX (r_runVX (As := [.int ((oMix (VS 0) x y z).1)]) hX dX5_addAlloy_11 k_X5_59 (fun l9 hl9 => by cases hl9; exact cF_kept (Outs_nost hO) hpr hun) hG ⟨7, _, TX5, 9, List.mem_cons_self, rfl⟩ rfl rfl (Nat.le_of_ble_eq_true rfl) (by decide) (by decide) (by decide) (by decide)) rfl rfl rfl (fun w9 u9 hp9 => ?_) ?_
  · obtain ⟨rfl, hx9, rfl⟩ := hp9
    change V X 1 6 (wBF cy f fa s o an ((pr + 1) % 10) (min (un + 1) 8) hs e1 e2 fc SC OB sn (upA AD 1 (AD 1)) (upA (upA VS 1 (VS 0)) 1 (oMix (VS 0) x y z).2)) [some (.ref f), some (.int x), some (.int y), some (.int z)] [.int ((oMix (VS 0) x y z).1)] 14
    refine V_perm (fl_perm (bs := (wBFl cy f fa s o an ((pr + 1) % 10) (min (un + 1) 8) hs e1 e2 fc SC OB sn (upA AD 1 (AD 1)) (upA (upA VS 1 (VS 0)) 1 (oMix (VS 0) x y z).2))) (bs' := (wBFl cy f fa s o an ((pr + 1) % 10) (min (un + 1) 8) hs e1 e2 fc SC OB sn (fun r => if r < 9 then (upA AD 1 (AD 1)) (r + 1) else (upA AD 1 (AD 1)) 0) (fun r => if r < 9 then (upA (upA VS 1 (VS 0)) 1 (oMix (VS 0) x y z).2) (r + 1) else (upA (upA VS 1 (VS 0)) 1 (oMix (VS 0) x y z).2) 0))) (n := 14) [0, 2, 3, 4, 5, 6, 7, 8, 9, 10, 1, 11, 12, 13] (by decide) rfl rfl) ?_
    exact r_ireturn hX hE dX5_addAlloy_14 rfl ⟨hx9, rfl, ⟨fa, s, o, _, _, hs, an, e1, e2, fc, SC, OB, sn, _, _, rfl, FR_adv hF had9 (VS 0)⟩⟩ (by omega) (by omega)
  · intro E9 u9 hp9
    obtain ⟨hx9, hE9, rfl⟩ := hp9
    exact VX_out hX hO ⟨hx9, hE9, ⟨fa, s, o, pr, un, hs, an, e1, e2, fc, SC, OB, sn, _, _, rfl, FR_dr hF had9 (VS 0) _⟩⟩ (by decide) (by decide)

set_option maxRecDepth 20000 in
set_option maxHeartbeats 1000000 in
theorem cF_addMould {l : Launch} {D : va_G} {cy : Nat → ClassId} {sa : Nat → Nat} {f K : Nat} {S : AS} {ws : va_W} {v : SV} (hvS : v = S.1) (hS : FS cy f S ws) (hI : AI K S) {x : Int32} (hst : l.stackTraces = false) : MX l yX5_addMould cX5_addMould 2 (some .int) 8 1 6 (D, cy, sa) [.ref f, .int x] (ws) (fun w u => okA (oMould v x).1 ∧ w = some (.int (oMould v x).1) ∧ FS cy f ((oMould v x).2, (S.1 :: S.2.1).take 8, S.2.2) u) (fun E u => noA (oMould v x).1 ∧ E = exC (oMould v x).1 ∧ FS cy f S u) := by
  obtain ⟨fa, s, o, pr, un, hs, an, e1, e2, fc, SC, OB, sn, AD, VS, rfl, hF⟩ := hS
  obtain ⟨⟨hpr, hfc⟩, ⟨hv0, hul, hun, hus⟩, ⟨hh1, hh2⟩, hSC, hOB, he1, he2⟩ := id hF
  have hA0 : fc pr = AD 0 0 := by
    have := hfc 0 (by decide)
    rwa [show (pr + 0) % 10 = pr by omega] at this
  have hA1 : fc ((pr + 1) % 10) = AD 1 0 := hfc 1 (by decide)
  have hv : Wf (VS 0) := hv0 ▸ hI.1.1.1
  have hFB : FB (VS 0) := hv0 ▸ hI.1.2
  have hInv : Inv K (VS 0) := hv0 ▸ hI.1.1
  obtain rfl : v = VS 0 := hvS.trans hv0
  have h8 := hv.2.2.1
  have hFS : FS cy f S (wBF cy f fa s o an pr un hs e1 e2 fc SC OB sn AD VS) := ⟨fa, s, o, pr, un, hs, an, e1, e2, fc, SC, OB, sn, AD, VS, rfl, hF⟩
  have hst5 := hv.2.2.2.1
  have htol := hv.2.2.2.2.1
  refine MX_by (own := RX5) (L := [some (.ref f), some (.int x)]) hst (by decide +kernel) rfl rfl (Nat.le_of_ble_eq_true rfl) 0 rfl (fun X hX hE hO hnL hG hcy hnm => ?_)
  refine r_aload_n (pc' := 1) hX dX5_addMould_0 rfl rfl ?_
  refine r_aload_n (pc' := 2) hX dX5_addMould_1 rfl rfl ?_
  refine V_call0 (k' := 0) (n' := 0) (pc' := 5) hX (r_runV (As := []) hX dX5_addMould_2 k_X5_51 (fun l9 hl9 => cF_draft hpr hA0 hA1 hFB) hG ⟨7, _, TX5, 9, List.mem_cons_self, rfl⟩ rfl rfl (Nat.le_of_ble_eq_true rfl) (by decide) (by decide) (by decide) (by decide)) rfl rfl rfl (fun w9 u9 hp9 => ?_)
  obtain ⟨rfl, rfl⟩ := hp9
  change V X 0 0 (wBF cy f fa s o an pr un hs e1 e2 fc SC OB sn AD (upA VS 1 (VS 0))) [some (.ref f), some (.int x)] [.ref (AD 1 0), .ref f] 5
  refine r_iload_n (pc' := 6) hX dX5_addMould_5 rfl rfl ?_
  refine V_call (k' := 0) (n' := 0) (pc' := 9) (wr := ((wBFl cy f fa s o an pr un hs e1 e2 fc SC OB sn AD (upA VS 1 (VS 0))).eraseIdx 2).flatten) hX (r_runV (As := [.int x]) hX dX5_addMould_6 k_X5_63 (fun l9 hl9 => cS_placeMould (ad := AD 1) (v := VS 0) hv) hG ⟨6, _, TX4, 17, List.mem_cons_self, rfl⟩ rfl rfl (Nat.le_of_ble_eq_true rfl) (by decide) (by decide) (by decide) (by decide)) (fl_out (bs := (wBFl cy f fa s o an pr un hs e1 e2 fc SC OB sn AD (upA VS 1 (VS 0)))) 2 rfl) rfl rfl rfl (fun w9 u9 hp9 => ?_)
  obtain ⟨rfl, rfl⟩ := hp9
  have had9 : (AD 1) 0 = AD 1 0 := rfl
  change V X 0 0 (wSt cy (AD 1) (oMould (VS 0) x).2 ++ ((wBFl cy f fa s o an pr un hs e1 e2 fc SC OB sn AD (upA VS 1 (VS 0))).eraseIdx 2).flatten) [some (.ref f), some (.int x)] [.int ((oMould (VS 0) x).1), .ref f] 9
  refine V_perm (fl_back (bs := (wBFl cy f fa s o an pr un hs e1 e2 fc SC OB sn AD (upA VS 1 (VS 0)))) (bs' := (wBFl cy f fa s o an pr un hs e1 e2 fc SC OB sn (upA AD 1 (AD 1)) (upA (upA VS 1 (VS 0)) 1 (oMould (VS 0) x).2))) 2 rfl rfl) ?_
  refine V_call0X (k' := 1) (n' := 6) (pc' := 12) hX (r_runVX (As := [.int ((oMould (VS 0) x).1)]) hX dX5_addMould_9 k_X5_59 (fun l9 hl9 => by cases hl9; exact cF_kept (Outs_nost hO) hpr hun) hG ⟨7, _, TX5, 9, List.mem_cons_self, rfl⟩ rfl rfl (Nat.le_of_ble_eq_true rfl) (by decide) (by decide) (by decide) (by decide)) rfl rfl rfl (fun w9 u9 hp9 => ?_) ?_
  · obtain ⟨rfl, hx9, rfl⟩ := hp9
    change V X 1 6 (wBF cy f fa s o an ((pr + 1) % 10) (min (un + 1) 8) hs e1 e2 fc SC OB sn (upA AD 1 (AD 1)) (upA (upA VS 1 (VS 0)) 1 (oMould (VS 0) x).2)) [some (.ref f), some (.int x)] [.int ((oMould (VS 0) x).1)] 12
    refine V_perm (fl_perm (bs := (wBFl cy f fa s o an ((pr + 1) % 10) (min (un + 1) 8) hs e1 e2 fc SC OB sn (upA AD 1 (AD 1)) (upA (upA VS 1 (VS 0)) 1 (oMould (VS 0) x).2))) (bs' := (wBFl cy f fa s o an ((pr + 1) % 10) (min (un + 1) 8) hs e1 e2 fc SC OB sn (fun r => if r < 9 then (upA AD 1 (AD 1)) (r + 1) else (upA AD 1 (AD 1)) 0) (fun r => if r < 9 then (upA (upA VS 1 (VS 0)) 1 (oMould (VS 0) x).2) (r + 1) else (upA (upA VS 1 (VS 0)) 1 (oMould (VS 0) x).2) 0))) (n := 14) [0, 2, 3, 4, 5, 6, 7, 8, 9, 10, 1, 11, 12, 13] (by decide) rfl rfl) ?_
    exact r_ireturn hX hE dX5_addMould_12 rfl ⟨hx9, rfl, ⟨fa, s, o, _, _, hs, an, e1, e2, fc, SC, OB, sn, _, _, rfl, FR_adv hF had9 (VS 0)⟩⟩ (by omega) (by omega)
  · intro E9 u9 hp9
    obtain ⟨hx9, hE9, rfl⟩ := hp9
    exact VX_out hX hO ⟨hx9, hE9, ⟨fa, s, o, pr, un, hs, an, e1, e2, fc, SC, OB, sn, _, _, rfl, FR_dr hF had9 (VS 0) _⟩⟩ (by decide) (by decide)

set_option maxRecDepth 20000 in
set_option maxHeartbeats 1000000 in
theorem cF_buy {l : Launch} {D : va_G} {cy : Nat → ClassId} {sa : Nat → Nat} {f K : Nat} {S : AS} {ws : va_W} {v : SV} (hvS : v = S.1) (hS : FS cy f S ws) (hI : AI K S) {x y : Int32} (hst : l.stackTraces = false) : MX l yX5_buy cX5_buy 3 (some .int) 8 1 6 (D, cy, sa) [.ref f, .int x, .int y] (ws) (fun w u => okA (oBuy v x y).1 ∧ w = some (.int (oBuy v x y).1) ∧ FS cy f ((oBuy v x y).2, (S.1 :: S.2.1).take 8, S.2.2) u) (fun E u => noA (oBuy v x y).1 ∧ E = exC (oBuy v x y).1 ∧ FS cy f S u) := by
  obtain ⟨fa, s, o, pr, un, hs, an, e1, e2, fc, SC, OB, sn, AD, VS, rfl, hF⟩ := hS
  obtain ⟨⟨hpr, hfc⟩, ⟨hv0, hul, hun, hus⟩, ⟨hh1, hh2⟩, hSC, hOB, he1, he2⟩ := id hF
  have hA0 : fc pr = AD 0 0 := by
    have := hfc 0 (by decide)
    rwa [show (pr + 0) % 10 = pr by omega] at this
  have hA1 : fc ((pr + 1) % 10) = AD 1 0 := hfc 1 (by decide)
  have hv : Wf (VS 0) := hv0 ▸ hI.1.1.1
  have hFB : FB (VS 0) := hv0 ▸ hI.1.2
  have hInv : Inv K (VS 0) := hv0 ▸ hI.1.1
  obtain rfl : v = VS 0 := hvS.trans hv0
  have h8 := hv.2.2.1
  have hFS : FS cy f S (wBF cy f fa s o an pr un hs e1 e2 fc SC OB sn AD VS) := ⟨fa, s, o, pr, un, hs, an, e1, e2, fc, SC, OB, sn, AD, VS, rfl, hF⟩
  have hst5 := hv.2.2.2.1
  have htol := hv.2.2.2.2.1
  refine MX_by (own := RX5) (L := [some (.ref f), some (.int x), some (.int y)]) hst (by decide +kernel) rfl rfl (Nat.le_of_ble_eq_true rfl) 0 rfl (fun X hX hE hO hnL hG hcy hnm => ?_)
  refine r_aload_n (pc' := 1) hX dX5_buy_0 rfl rfl ?_
  refine r_aload_n (pc' := 2) hX dX5_buy_1 rfl rfl ?_
  refine V_call0 (k' := 0) (n' := 0) (pc' := 5) hX (r_runV (As := []) hX dX5_buy_2 k_X5_51 (fun l9 hl9 => cF_draft hpr hA0 hA1 hFB) hG ⟨7, _, TX5, 9, List.mem_cons_self, rfl⟩ rfl rfl (Nat.le_of_ble_eq_true rfl) (by decide) (by decide) (by decide) (by decide)) rfl rfl rfl (fun w9 u9 hp9 => ?_)
  obtain ⟨rfl, rfl⟩ := hp9
  change V X 0 0 (wBF cy f fa s o an pr un hs e1 e2 fc SC OB sn AD (upA VS 1 (VS 0))) [some (.ref f), some (.int x), some (.int y)] [.ref (AD 1 0), .ref f] 5
  refine r_iload_n (pc' := 6) hX dX5_buy_5 rfl rfl ?_
  refine r_iload_n (pc' := 7) hX dX5_buy_6 rfl rfl ?_
  refine V_call (k' := 0) (n' := 0) (pc' := 10) (wr := ((wBFl cy f fa s o an pr un hs e1 e2 fc SC OB sn AD (upA VS 1 (VS 0))).eraseIdx 2).flatten) hX (r_runV (As := [.int x, .int y]) hX dX5_buy_7 k_X5_66 (fun l9 hl9 => cS_takeIn (ad := AD 1) (v := VS 0) hv) hG ⟨6, _, TX4, 17, List.mem_cons_self, rfl⟩ rfl rfl (Nat.le_of_ble_eq_true rfl) (by decide) (by decide) (by decide) (by decide)) (fl_out (bs := (wBFl cy f fa s o an pr un hs e1 e2 fc SC OB sn AD (upA VS 1 (VS 0)))) 2 rfl) rfl rfl rfl (fun w9 u9 hp9 => ?_)
  obtain ⟨rfl, rfl⟩ := hp9
  have had9 : (AD 1) 0 = AD 1 0 := rfl
  change V X 0 0 (wSt cy (AD 1) (oBuy (VS 0) x y).2 ++ ((wBFl cy f fa s o an pr un hs e1 e2 fc SC OB sn AD (upA VS 1 (VS 0))).eraseIdx 2).flatten) [some (.ref f), some (.int x), some (.int y)] [.int ((oBuy (VS 0) x y).1), .ref f] 10
  refine V_perm (fl_back (bs := (wBFl cy f fa s o an pr un hs e1 e2 fc SC OB sn AD (upA VS 1 (VS 0)))) (bs' := (wBFl cy f fa s o an pr un hs e1 e2 fc SC OB sn (upA AD 1 (AD 1)) (upA (upA VS 1 (VS 0)) 1 (oBuy (VS 0) x y).2))) 2 rfl rfl) ?_
  refine V_call0X (k' := 1) (n' := 6) (pc' := 13) hX (r_runVX (As := [.int ((oBuy (VS 0) x y).1)]) hX dX5_buy_10 k_X5_59 (fun l9 hl9 => by cases hl9; exact cF_kept (Outs_nost hO) hpr hun) hG ⟨7, _, TX5, 9, List.mem_cons_self, rfl⟩ rfl rfl (Nat.le_of_ble_eq_true rfl) (by decide) (by decide) (by decide) (by decide)) rfl rfl rfl (fun w9 u9 hp9 => ?_) ?_
  · obtain ⟨rfl, hx9, rfl⟩ := hp9
    change V X 1 6 (wBF cy f fa s o an ((pr + 1) % 10) (min (un + 1) 8) hs e1 e2 fc SC OB sn (upA AD 1 (AD 1)) (upA (upA VS 1 (VS 0)) 1 (oBuy (VS 0) x y).2)) [some (.ref f), some (.int x), some (.int y)] [.int ((oBuy (VS 0) x y).1)] 13
    refine V_perm (fl_perm (bs := (wBFl cy f fa s o an ((pr + 1) % 10) (min (un + 1) 8) hs e1 e2 fc SC OB sn (upA AD 1 (AD 1)) (upA (upA VS 1 (VS 0)) 1 (oBuy (VS 0) x y).2))) (bs' := (wBFl cy f fa s o an ((pr + 1) % 10) (min (un + 1) 8) hs e1 e2 fc SC OB sn (fun r => if r < 9 then (upA AD 1 (AD 1)) (r + 1) else (upA AD 1 (AD 1)) 0) (fun r => if r < 9 then (upA (upA VS 1 (VS 0)) 1 (oBuy (VS 0) x y).2) (r + 1) else (upA (upA VS 1 (VS 0)) 1 (oBuy (VS 0) x y).2) 0))) (n := 14) [0, 2, 3, 4, 5, 6, 7, 8, 9, 10, 1, 11, 12, 13] (by decide) rfl rfl) ?_
    exact r_ireturn hX hE dX5_buy_13 rfl ⟨hx9, rfl, ⟨fa, s, o, _, _, hs, an, e1, e2, fc, SC, OB, sn, _, _, rfl, FR_adv hF had9 (VS 0)⟩⟩ (by omega) (by omega)
  · intro E9 u9 hp9
    obtain ⟨hx9, hE9, rfl⟩ := hp9
    exact VX_out hX hO ⟨hx9, hE9, ⟨fa, s, o, pr, un, hs, an, e1, e2, fc, SC, OB, sn, _, _, rfl, FR_dr hF had9 (VS 0) _⟩⟩ (by decide) (by decide)

set_option maxRecDepth 20000 in
set_option maxHeartbeats 1000000 in
theorem cF_cast {l : Launch} {D : va_G} {cy : Nat → ClassId} {sa : Nat → Nat} {f K : Nat} {S : AS} {ws : va_W} {v : SV} (hvS : v = S.1) (hS : FS cy f S ws) (hI : AI K S) {x y z : Int32} (hst : l.stackTraces = false) : MX l yX5_cast cX5_cast 4 (some .int) 8 1 6 (D, cy, sa) [.ref f, .int x, .int y, .int z] (ws) (fun w u => okA (oPour v x y z).1 ∧ w = some (.int (oPour v x y z).1) ∧ FS cy f ((oPour v x y z).2, (S.1 :: S.2.1).take 8, S.2.2) u) (fun E u => noA (oPour v x y z).1 ∧ E = exC (oPour v x y z).1 ∧ FS cy f S u) := by
  obtain ⟨fa, s, o, pr, un, hs, an, e1, e2, fc, SC, OB, sn, AD, VS, rfl, hF⟩ := hS
  obtain ⟨⟨hpr, hfc⟩, ⟨hv0, hul, hun, hus⟩, ⟨hh1, hh2⟩, hSC, hOB, he1, he2⟩ := id hF
  have hA0 : fc pr = AD 0 0 := by
    have := hfc 0 (by decide)
    rwa [show (pr + 0) % 10 = pr by omega] at this
  have hA1 : fc ((pr + 1) % 10) = AD 1 0 := hfc 1 (by decide)
  have hv : Wf (VS 0) := hv0 ▸ hI.1.1.1
  have hFB : FB (VS 0) := hv0 ▸ hI.1.2
  have hInv : Inv K (VS 0) := hv0 ▸ hI.1.1
  obtain rfl : v = VS 0 := hvS.trans hv0
  have h8 := hv.2.2.1
  have hFS : FS cy f S (wBF cy f fa s o an pr un hs e1 e2 fc SC OB sn AD VS) := ⟨fa, s, o, pr, un, hs, an, e1, e2, fc, SC, OB, sn, AD, VS, rfl, hF⟩
  have hst5 := hv.2.2.2.1
  have htol := hv.2.2.2.2.1
  refine MX_by (own := RX5) (L := [some (.ref f), some (.int x), some (.int y), some (.int z)]) hst (by decide +kernel) rfl rfl (Nat.le_of_ble_eq_true rfl) 0 rfl (fun X hX hE hO hnL hG hcy hnm => ?_)
  refine r_aload_n (pc' := 1) hX dX5_cast_0 rfl rfl ?_
  refine r_aload_n (pc' := 2) hX dX5_cast_1 rfl rfl ?_
  refine V_call0 (k' := 0) (n' := 0) (pc' := 5) hX (r_runV (As := []) hX dX5_cast_2 k_X5_51 (fun l9 hl9 => cF_draft hpr hA0 hA1 hFB) hG ⟨7, _, TX5, 9, List.mem_cons_self, rfl⟩ rfl rfl (Nat.le_of_ble_eq_true rfl) (by decide) (by decide) (by decide) (by decide)) rfl rfl rfl (fun w9 u9 hp9 => ?_)
  obtain ⟨rfl, rfl⟩ := hp9
  change V X 0 0 (wBF cy f fa s o an pr un hs e1 e2 fc SC OB sn AD (upA VS 1 (VS 0))) [some (.ref f), some (.int x), some (.int y), some (.int z)] [.ref (AD 1 0), .ref f] 5
  refine r_iload_n (pc' := 6) hX dX5_cast_5 rfl rfl ?_
  refine r_iload_n (pc' := 7) hX dX5_cast_6 rfl rfl ?_
  refine r_iload_n (pc' := 8) hX dX5_cast_7 rfl rfl ?_
  refine V_call (k' := 0) (n' := 0) (pc' := 11) (wr := ((wBFl cy f fa s o an pr un hs e1 e2 fc SC OB sn AD (upA VS 1 (VS 0))).eraseIdx 2).flatten) hX (r_runV (As := [.int x, .int y, .int z]) hX dX5_cast_8 k_X5_70 (fun l9 hl9 => cS_pour (ad := AD 1) (v := VS 0) hv) hG ⟨6, _, TX4, 17, List.mem_cons_self, rfl⟩ rfl rfl (Nat.le_of_ble_eq_true rfl) (by decide) (by decide) (by decide) (by decide)) (fl_out (bs := (wBFl cy f fa s o an pr un hs e1 e2 fc SC OB sn AD (upA VS 1 (VS 0)))) 2 rfl) rfl rfl rfl (fun w9 u9 hp9 => ?_)
  obtain ⟨rfl, rfl⟩ := hp9
  have had9 : (AD 1) 0 = AD 1 0 := rfl
  change V X 0 0 (wSt cy (AD 1) (oPour (VS 0) x y z).2 ++ ((wBFl cy f fa s o an pr un hs e1 e2 fc SC OB sn AD (upA VS 1 (VS 0))).eraseIdx 2).flatten) [some (.ref f), some (.int x), some (.int y), some (.int z)] [.int ((oPour (VS 0) x y z).1), .ref f] 11
  refine V_perm (fl_back (bs := (wBFl cy f fa s o an pr un hs e1 e2 fc SC OB sn AD (upA VS 1 (VS 0)))) (bs' := (wBFl cy f fa s o an pr un hs e1 e2 fc SC OB sn (upA AD 1 (AD 1)) (upA (upA VS 1 (VS 0)) 1 (oPour (VS 0) x y z).2))) 2 rfl rfl) ?_
  refine V_call0X (k' := 1) (n' := 6) (pc' := 14) hX (r_runVX (As := [.int ((oPour (VS 0) x y z).1)]) hX dX5_cast_11 k_X5_59 (fun l9 hl9 => by cases hl9; exact cF_kept (Outs_nost hO) hpr hun) hG ⟨7, _, TX5, 9, List.mem_cons_self, rfl⟩ rfl rfl (Nat.le_of_ble_eq_true rfl) (by decide) (by decide) (by decide) (by decide)) rfl rfl rfl (fun w9 u9 hp9 => ?_) ?_
  · obtain ⟨rfl, hx9, rfl⟩ := hp9
    change V X 1 6 (wBF cy f fa s o an ((pr + 1) % 10) (min (un + 1) 8) hs e1 e2 fc SC OB sn (upA AD 1 (AD 1)) (upA (upA VS 1 (VS 0)) 1 (oPour (VS 0) x y z).2)) [some (.ref f), some (.int x), some (.int y), some (.int z)] [.int ((oPour (VS 0) x y z).1)] 14
    refine V_perm (fl_perm (bs := (wBFl cy f fa s o an ((pr + 1) % 10) (min (un + 1) 8) hs e1 e2 fc SC OB sn (upA AD 1 (AD 1)) (upA (upA VS 1 (VS 0)) 1 (oPour (VS 0) x y z).2))) (bs' := (wBFl cy f fa s o an ((pr + 1) % 10) (min (un + 1) 8) hs e1 e2 fc SC OB sn (fun r => if r < 9 then (upA AD 1 (AD 1)) (r + 1) else (upA AD 1 (AD 1)) 0) (fun r => if r < 9 then (upA (upA VS 1 (VS 0)) 1 (oPour (VS 0) x y z).2) (r + 1) else (upA (upA VS 1 (VS 0)) 1 (oPour (VS 0) x y z).2) 0))) (n := 14) [0, 2, 3, 4, 5, 6, 7, 8, 9, 10, 1, 11, 12, 13] (by decide) rfl rfl) ?_
    exact r_ireturn hX hE dX5_cast_14 rfl ⟨hx9, rfl, ⟨fa, s, o, _, _, hs, an, e1, e2, fc, SC, OB, sn, _, _, rfl, FR_adv hF had9 (VS 0)⟩⟩ (by omega) (by omega)
  · intro E9 u9 hp9
    obtain ⟨hx9, hE9, rfl⟩ := hp9
    exact VX_out hX hO ⟨hx9, hE9, ⟨fa, s, o, pr, un, hs, an, e1, e2, fc, SC, OB, sn, _, _, rfl, FR_dr hF had9 (VS 0) _⟩⟩ (by decide) (by decide)

set_option maxRecDepth 20000 in
set_option maxHeartbeats 1000000 in
theorem cF_inspect {l : Launch} {D : va_G} {cy : Nat → ClassId} {sa : Nat → Nat} {f K : Nat} {S : AS} {ws : va_W} {v : SV} (hvS : v = S.1) (hS : FS cy f S ws) (hI : AI K S) {x : Int32} (hst : l.stackTraces = false) : MX l yX5_inspect cX5_inspect 2 (some .boolean) 8 1 6 (D, cy, sa) [.ref f, .int x] (ws) (fun w u => okA (oExam v x).1 ∧ w = some (.int (bI ((oExam v x).1.toInt = 1))) ∧ FS cy f ((oExam v x).2, (S.1 :: S.2.1).take 8, S.2.2) u) (fun E u => noA (oExam v x).1 ∧ E = exC (oExam v x).1 ∧ FS cy f S u) := by
  obtain ⟨fa, s, o, pr, un, hs, an, e1, e2, fc, SC, OB, sn, AD, VS, rfl, hF⟩ := hS
  obtain ⟨⟨hpr, hfc⟩, ⟨hv0, hul, hun, hus⟩, ⟨hh1, hh2⟩, hSC, hOB, he1, he2⟩ := id hF
  have hA0 : fc pr = AD 0 0 := by
    have := hfc 0 (by decide)
    rwa [show (pr + 0) % 10 = pr by omega] at this
  have hA1 : fc ((pr + 1) % 10) = AD 1 0 := hfc 1 (by decide)
  have hv : Wf (VS 0) := hv0 ▸ hI.1.1.1
  have hFB : FB (VS 0) := hv0 ▸ hI.1.2
  have hInv : Inv K (VS 0) := hv0 ▸ hI.1.1
  obtain rfl : v = VS 0 := hvS.trans hv0
  have h8 := hv.2.2.1
  have hFS : FS cy f S (wBF cy f fa s o an pr un hs e1 e2 fc SC OB sn AD VS) := ⟨fa, s, o, pr, un, hs, an, e1, e2, fc, SC, OB, sn, AD, VS, rfl, hF⟩
  have hst5 := hv.2.2.2.1
  have htol := hv.2.2.2.2.1
  refine MX_by (own := RX5) (L := [some (.ref f), some (.int x)]) hst (by decide +kernel) rfl rfl (Nat.le_of_ble_eq_true rfl) 0 rfl (fun X hX hE hO hnL hG hcy hnm => ?_)
  refine r_aload_n (pc' := 1) hX dX5_inspect_0 rfl rfl ?_
  refine r_aload_n (pc' := 2) hX dX5_inspect_1 rfl rfl ?_
  refine V_call0 (k' := 0) (n' := 0) (pc' := 5) hX (r_runV (As := []) hX dX5_inspect_2 k_X5_51 (fun l9 hl9 => cF_draft hpr hA0 hA1 hFB) hG ⟨7, _, TX5, 9, List.mem_cons_self, rfl⟩ rfl rfl (Nat.le_of_ble_eq_true rfl) (by decide) (by decide) (by decide) (by decide)) rfl rfl rfl (fun w9 u9 hp9 => ?_)
  obtain ⟨rfl, rfl⟩ := hp9
  change V X 0 0 (wBF cy f fa s o an pr un hs e1 e2 fc SC OB sn AD (upA VS 1 (VS 0))) [some (.ref f), some (.int x)] [.ref (AD 1 0), .ref f] 5
  refine r_iload_n (pc' := 6) hX dX5_inspect_5 rfl rfl ?_
  refine V_call (k' := 0) (n' := 0) (pc' := 9) (wr := ((wBFl cy f fa s o an pr un hs e1 e2 fc SC OB sn AD (upA VS 1 (VS 0))).eraseIdx 2).flatten) hX (r_runV (As := [.int x]) hX dX5_inspect_6 k_X5_73 (fun l9 hl9 => cS_examine (ad := AD 1) (v := VS 0) hv) hG ⟨6, _, TX4, 17, List.mem_cons_self, rfl⟩ rfl rfl (Nat.le_of_ble_eq_true rfl) (by decide) (by decide) (by decide) (by decide)) (fl_out (bs := (wBFl cy f fa s o an pr un hs e1 e2 fc SC OB sn AD (upA VS 1 (VS 0)))) 2 rfl) rfl rfl rfl (fun w9 u9 hp9 => ?_)
  obtain ⟨rfl, ad961, had9, rfl⟩ := hp9
  change V X 0 0 (wSt cy ad961 (oExam (VS 0) x).2 ++ ((wBFl cy f fa s o an pr un hs e1 e2 fc SC OB sn AD (upA VS 1 (VS 0))).eraseIdx 2).flatten) [some (.ref f), some (.int x)] [.int ((oExam (VS 0) x).1), .ref f] 9
  refine V_perm (fl_back (bs := (wBFl cy f fa s o an pr un hs e1 e2 fc SC OB sn AD (upA VS 1 (VS 0)))) (bs' := (wBFl cy f fa s o an pr un hs e1 e2 fc SC OB sn (upA AD 1 ad961) (upA (upA VS 1 (VS 0)) 1 (oExam (VS 0) x).2))) 2 rfl rfl) ?_
  refine V_call0X (k' := 1) (n' := 6) (pc' := 12) hX (r_runVX (As := [.int ((oExam (VS 0) x).1)]) hX dX5_inspect_9 k_X5_59 (fun l9 hl9 => by cases hl9; exact cF_kept (Outs_nost hO) hpr hun) hG ⟨7, _, TX5, 9, List.mem_cons_self, rfl⟩ rfl rfl (Nat.le_of_ble_eq_true rfl) (by decide) (by decide) (by decide) (by decide)) rfl rfl rfl (fun w9 u9 hp9 => ?_) ?_
  · obtain ⟨rfl, hx9, rfl⟩ := hp9
    change V X 1 6 (wBF cy f fa s o an ((pr + 1) % 10) (min (un + 1) 8) hs e1 e2 fc SC OB sn (upA AD 1 ad961) (upA (upA VS 1 (VS 0)) 1 (oExam (VS 0) x).2)) [some (.ref f), some (.int x)] [.int ((oExam (VS 0) x).1)] 12
    refine r_iconst (pc' := 13) (v := nI 1) hX dX5_inspect_12 rfl rfl ?_
    refine r_icmp_ne_I (tgt := 20) (pc' := 16) hX dX5_inspect_13 (by decide) rfl rfl (nI_I (by omega)) (fun c13 => ?_) (fun c13 => ?_)
    · refine r_iconst (pc' := 21) (v := nI 0) hX dX5_inspect_20 rfl rfl ?_
      refine V_perm (fl_perm (bs := (wBFl cy f fa s o an ((pr + 1) % 10) (min (un + 1) 8) hs e1 e2 fc SC OB sn (upA AD 1 ad961) (upA (upA VS 1 (VS 0)) 1 (oExam (VS 0) x).2))) (bs' := (wBFl cy f fa s o an ((pr + 1) % 10) (min (un + 1) 8) hs e1 e2 fc SC OB sn (fun r => if r < 9 then (upA AD 1 ad961) (r + 1) else (upA AD 1 ad961) 0) (fun r => if r < 9 then (upA (upA VS 1 (VS 0)) 1 (oExam (VS 0) x).2) (r + 1) else (upA (upA VS 1 (VS 0)) 1 (oExam (VS 0) x).2) 0))) (n := 14) [0, 2, 3, 4, 5, 6, 7, 8, 9, 10, 1, 11, 12, 13] (by decide) rfl rfl) ?_
      exact r_zreturn hX hE dX5_inspect_21 rfl rfl ⟨hx9, rB0 c13, ⟨fa, s, o, _, _, hs, an, e1, e2, fc, SC, OB, sn, _, _, rfl, FR_adv hF had9 (VS 0)⟩⟩ (by omega) (by omega)
    · refine r_iconst (pc' := 17) (v := nI 1) hX dX5_inspect_16 rfl rfl ?_
      refine r_goto (tgt := 21) hX dX5_inspect_17 (by decide) ?_
      refine V_perm (fl_perm (bs := (wBFl cy f fa s o an ((pr + 1) % 10) (min (un + 1) 8) hs e1 e2 fc SC OB sn (upA AD 1 ad961) (upA (upA VS 1 (VS 0)) 1 (oExam (VS 0) x).2))) (bs' := (wBFl cy f fa s o an ((pr + 1) % 10) (min (un + 1) 8) hs e1 e2 fc SC OB sn (fun r => if r < 9 then (upA AD 1 ad961) (r + 1) else (upA AD 1 ad961) 0) (fun r => if r < 9 then (upA (upA VS 1 (VS 0)) 1 (oExam (VS 0) x).2) (r + 1) else (upA (upA VS 1 (VS 0)) 1 (oExam (VS 0) x).2) 0))) (n := 14) [0, 2, 3, 4, 5, 6, 7, 8, 9, 10, 1, 11, 12, 13] (by decide) rfl rfl) ?_
      exact r_zreturn hX hE dX5_inspect_21 rfl rfl ⟨hx9, rB1 c13, ⟨fa, s, o, _, _, hs, an, e1, e2, fc, SC, OB, sn, _, _, rfl, FR_adv hF had9 (VS 0)⟩⟩ (by omega) (by omega)
  · intro E9 u9 hp9
    obtain ⟨hx9, hE9, rfl⟩ := hp9
    exact VX_out hX hO ⟨hx9, hE9, ⟨fa, s, o, pr, un, hs, an, e1, e2, fc, SC, OB, sn, _, _, rfl, FR_dr hF had9 (VS 0) _⟩⟩ (by decide) (by decide)

set_option maxRecDepth 20000 in
set_option maxHeartbeats 1000000 in
theorem cF_melt {l : Launch} {D : va_G} {cy : Nat → ClassId} {sa : Nat → Nat} {f K : Nat} {S : AS} {ws : va_W} {v : SV} (hvS : v = S.1) (hS : FS cy f S ws) (hI : AI K S) {x : Int32} (hst : l.stackTraces = false) : MX l yX5_melt cX5_melt 2 (some .int) 8 1 6 (D, cy, sa) [.ref f, .int x] (ws) (fun w u => okA (oMelt v x).1 ∧ w = some (.int (oMelt v x).1) ∧ FS cy f ((oMelt v x).2, (S.1 :: S.2.1).take 8, S.2.2) u) (fun E u => noA (oMelt v x).1 ∧ E = exC (oMelt v x).1 ∧ FS cy f S u) := by
  obtain ⟨fa, s, o, pr, un, hs, an, e1, e2, fc, SC, OB, sn, AD, VS, rfl, hF⟩ := hS
  obtain ⟨⟨hpr, hfc⟩, ⟨hv0, hul, hun, hus⟩, ⟨hh1, hh2⟩, hSC, hOB, he1, he2⟩ := id hF
  have hA0 : fc pr = AD 0 0 := by
    have := hfc 0 (by decide)
    rwa [show (pr + 0) % 10 = pr by omega] at this
  have hA1 : fc ((pr + 1) % 10) = AD 1 0 := hfc 1 (by decide)
  have hv : Wf (VS 0) := hv0 ▸ hI.1.1.1
  have hFB : FB (VS 0) := hv0 ▸ hI.1.2
  have hInv : Inv K (VS 0) := hv0 ▸ hI.1.1
  obtain rfl : v = VS 0 := hvS.trans hv0
  have h8 := hv.2.2.1
  have hFS : FS cy f S (wBF cy f fa s o an pr un hs e1 e2 fc SC OB sn AD VS) := ⟨fa, s, o, pr, un, hs, an, e1, e2, fc, SC, OB, sn, AD, VS, rfl, hF⟩
  have hst5 := hv.2.2.2.1
  have htol := hv.2.2.2.2.1
  refine MX_by (own := RX5) (L := [some (.ref f), some (.int x)]) hst (by decide +kernel) rfl rfl (Nat.le_of_ble_eq_true rfl) 0 rfl (fun X hX hE hO hnL hG hcy hnm => ?_)
  refine r_aload_n (pc' := 1) hX dX5_melt_0 rfl rfl ?_
  refine r_aload_n (pc' := 2) hX dX5_melt_1 rfl rfl ?_
  refine V_call0 (k' := 0) (n' := 0) (pc' := 5) hX (r_runV (As := []) hX dX5_melt_2 k_X5_51 (fun l9 hl9 => cF_draft hpr hA0 hA1 hFB) hG ⟨7, _, TX5, 9, List.mem_cons_self, rfl⟩ rfl rfl (Nat.le_of_ble_eq_true rfl) (by decide) (by decide) (by decide) (by decide)) rfl rfl rfl (fun w9 u9 hp9 => ?_)
  obtain ⟨rfl, rfl⟩ := hp9
  change V X 0 0 (wBF cy f fa s o an pr un hs e1 e2 fc SC OB sn AD (upA VS 1 (VS 0))) [some (.ref f), some (.int x)] [.ref (AD 1 0), .ref f] 5
  refine r_iload_n (pc' := 6) hX dX5_melt_5 rfl rfl ?_
  refine V_call (k' := 0) (n' := 0) (pc' := 9) (wr := ((wBFl cy f fa s o an pr un hs e1 e2 fc SC OB sn AD (upA VS 1 (VS 0))).eraseIdx 2).flatten) hX (r_runV (As := [.int x]) hX dX5_melt_6 k_X5_76 (fun l9 hl9 => cS_meltDown (ad := AD 1) (v := VS 0) hv) hG ⟨6, _, TX4, 17, List.mem_cons_self, rfl⟩ rfl rfl (Nat.le_of_ble_eq_true rfl) (by decide) (by decide) (by decide) (by decide)) (fl_out (bs := (wBFl cy f fa s o an pr un hs e1 e2 fc SC OB sn AD (upA VS 1 (VS 0)))) 2 rfl) rfl rfl rfl (fun w9 u9 hp9 => ?_)
  obtain ⟨rfl, ad962, had9, rfl⟩ := hp9
  change V X 0 0 (wSt cy ad962 (oMelt (VS 0) x).2 ++ ((wBFl cy f fa s o an pr un hs e1 e2 fc SC OB sn AD (upA VS 1 (VS 0))).eraseIdx 2).flatten) [some (.ref f), some (.int x)] [.int ((oMelt (VS 0) x).1), .ref f] 9
  refine V_perm (fl_back (bs := (wBFl cy f fa s o an pr un hs e1 e2 fc SC OB sn AD (upA VS 1 (VS 0)))) (bs' := (wBFl cy f fa s o an pr un hs e1 e2 fc SC OB sn (upA AD 1 ad962) (upA (upA VS 1 (VS 0)) 1 (oMelt (VS 0) x).2))) 2 rfl rfl) ?_
  refine V_call0X (k' := 1) (n' := 6) (pc' := 12) hX (r_runVX (As := [.int ((oMelt (VS 0) x).1)]) hX dX5_melt_9 k_X5_59 (fun l9 hl9 => by cases hl9; exact cF_kept (Outs_nost hO) hpr hun) hG ⟨7, _, TX5, 9, List.mem_cons_self, rfl⟩ rfl rfl (Nat.le_of_ble_eq_true rfl) (by decide) (by decide) (by decide) (by decide)) rfl rfl rfl (fun w9 u9 hp9 => ?_) ?_
  · obtain ⟨rfl, hx9, rfl⟩ := hp9
    change V X 1 6 (wBF cy f fa s o an ((pr + 1) % 10) (min (un + 1) 8) hs e1 e2 fc SC OB sn (upA AD 1 ad962) (upA (upA VS 1 (VS 0)) 1 (oMelt (VS 0) x).2)) [some (.ref f), some (.int x)] [.int ((oMelt (VS 0) x).1)] 12
    refine V_perm (fl_perm (bs := (wBFl cy f fa s o an ((pr + 1) % 10) (min (un + 1) 8) hs e1 e2 fc SC OB sn (upA AD 1 ad962) (upA (upA VS 1 (VS 0)) 1 (oMelt (VS 0) x).2))) (bs' := (wBFl cy f fa s o an ((pr + 1) % 10) (min (un + 1) 8) hs e1 e2 fc SC OB sn (fun r => if r < 9 then (upA AD 1 ad962) (r + 1) else (upA AD 1 ad962) 0) (fun r => if r < 9 then (upA (upA VS 1 (VS 0)) 1 (oMelt (VS 0) x).2) (r + 1) else (upA (upA VS 1 (VS 0)) 1 (oMelt (VS 0) x).2) 0))) (n := 14) [0, 2, 3, 4, 5, 6, 7, 8, 9, 10, 1, 11, 12, 13] (by decide) rfl rfl) ?_
    exact r_ireturn hX hE dX5_melt_12 rfl ⟨hx9, rfl, ⟨fa, s, o, _, _, hs, an, e1, e2, fc, SC, OB, sn, _, _, rfl, FR_adv hF had9 (VS 0)⟩⟩ (by omega) (by omega)
  · intro E9 u9 hp9
    obtain ⟨hx9, hE9, rfl⟩ := hp9
    exact VX_out hX hO ⟨hx9, hE9, ⟨fa, s, o, pr, un, hs, an, e1, e2, fc, SC, OB, sn, _, _, rfl, FR_dr hF had9 (VS 0) _⟩⟩ (by decide) (by decide)

set_option maxRecDepth 20000 in
set_option maxHeartbeats 1000000 in
theorem cF_renewMould {l : Launch} {D : va_G} {cy : Nat → ClassId} {sa : Nat → Nat} {f K : Nat} {S : AS} {ws : va_W} {v : SV} (hvS : v = S.1) (hS : FS cy f S ws) (hI : AI K S) {x : Int32} (hst : l.stackTraces = false) : MX l yX5_renewMould cX5_renewMould 2 (some .int) 8 1 6 (D, cy, sa) [.ref f, .int x] (ws) (fun w u => okA (oReset v x).1 ∧ w = some (.int (oReset v x).1) ∧ FS cy f ((oReset v x).2, (S.1 :: S.2.1).take 8, S.2.2) u) (fun E u => noA (oReset v x).1 ∧ E = exC (oReset v x).1 ∧ FS cy f S u) := by
  obtain ⟨fa, s, o, pr, un, hs, an, e1, e2, fc, SC, OB, sn, AD, VS, rfl, hF⟩ := hS
  obtain ⟨⟨hpr, hfc⟩, ⟨hv0, hul, hun, hus⟩, ⟨hh1, hh2⟩, hSC, hOB, he1, he2⟩ := id hF
  have hA0 : fc pr = AD 0 0 := by
    have := hfc 0 (by decide)
    rwa [show (pr + 0) % 10 = pr by omega] at this
  have hA1 : fc ((pr + 1) % 10) = AD 1 0 := hfc 1 (by decide)
  have hv : Wf (VS 0) := hv0 ▸ hI.1.1.1
  have hFB : FB (VS 0) := hv0 ▸ hI.1.2
  have hInv : Inv K (VS 0) := hv0 ▸ hI.1.1
  obtain rfl : v = VS 0 := hvS.trans hv0
  have h8 := hv.2.2.1
  have hFS : FS cy f S (wBF cy f fa s o an pr un hs e1 e2 fc SC OB sn AD VS) := ⟨fa, s, o, pr, un, hs, an, e1, e2, fc, SC, OB, sn, AD, VS, rfl, hF⟩
  have hst5 := hv.2.2.2.1
  have htol := hv.2.2.2.2.1
  refine MX_by (own := RX5) (L := [some (.ref f), some (.int x)]) hst (by decide +kernel) rfl rfl (Nat.le_of_ble_eq_true rfl) 0 rfl (fun X hX hE hO hnL hG hcy hnm => ?_)
  refine r_aload_n (pc' := 1) hX dX5_renewMould_0 rfl rfl ?_
  refine r_aload_n (pc' := 2) hX dX5_renewMould_1 rfl rfl ?_
  refine V_call0 (k' := 0) (n' := 0) (pc' := 5) hX (r_runV (As := []) hX dX5_renewMould_2 k_X5_51 (fun l9 hl9 => cF_draft hpr hA0 hA1 hFB) hG ⟨7, _, TX5, 9, List.mem_cons_self, rfl⟩ rfl rfl (Nat.le_of_ble_eq_true rfl) (by decide) (by decide) (by decide) (by decide)) rfl rfl rfl (fun w9 u9 hp9 => ?_)
  obtain ⟨rfl, rfl⟩ := hp9
  change V X 0 0 (wBF cy f fa s o an pr un hs e1 e2 fc SC OB sn AD (upA VS 1 (VS 0))) [some (.ref f), some (.int x)] [.ref (AD 1 0), .ref f] 5
  refine r_iload_n (pc' := 6) hX dX5_renewMould_5 rfl rfl ?_
  refine V_call (k' := 0) (n' := 0) (pc' := 9) (wr := ((wBFl cy f fa s o an pr un hs e1 e2 fc SC OB sn AD (upA VS 1 (VS 0))).eraseIdx 2).flatten) hX (r_runV (As := [.int x]) hX dX5_renewMould_6 k_X5_79 (fun l9 hl9 => cS_resetUses (ad := AD 1) (v := VS 0) hv) hG ⟨6, _, TX4, 17, List.mem_cons_self, rfl⟩ rfl rfl (Nat.le_of_ble_eq_true rfl) (by decide) (by decide) (by decide) (by decide)) (fl_out (bs := (wBFl cy f fa s o an pr un hs e1 e2 fc SC OB sn AD (upA VS 1 (VS 0)))) 2 rfl) rfl rfl rfl (fun w9 u9 hp9 => ?_)
  obtain ⟨rfl, rfl⟩ := hp9
  have had9 : (AD 1) 0 = AD 1 0 := rfl
  change V X 0 0 (wSt cy (AD 1) (oReset (VS 0) x).2 ++ ((wBFl cy f fa s o an pr un hs e1 e2 fc SC OB sn AD (upA VS 1 (VS 0))).eraseIdx 2).flatten) [some (.ref f), some (.int x)] [.int ((oReset (VS 0) x).1), .ref f] 9
  refine V_perm (fl_back (bs := (wBFl cy f fa s o an pr un hs e1 e2 fc SC OB sn AD (upA VS 1 (VS 0)))) (bs' := (wBFl cy f fa s o an pr un hs e1 e2 fc SC OB sn (upA AD 1 (AD 1)) (upA (upA VS 1 (VS 0)) 1 (oReset (VS 0) x).2))) 2 rfl rfl) ?_
  refine V_call0X (k' := 1) (n' := 6) (pc' := 12) hX (r_runVX (As := [.int ((oReset (VS 0) x).1)]) hX dX5_renewMould_9 k_X5_59 (fun l9 hl9 => by cases hl9; exact cF_kept (Outs_nost hO) hpr hun) hG ⟨7, _, TX5, 9, List.mem_cons_self, rfl⟩ rfl rfl (Nat.le_of_ble_eq_true rfl) (by decide) (by decide) (by decide) (by decide)) rfl rfl rfl (fun w9 u9 hp9 => ?_) ?_
  · obtain ⟨rfl, hx9, rfl⟩ := hp9
    change V X 1 6 (wBF cy f fa s o an ((pr + 1) % 10) (min (un + 1) 8) hs e1 e2 fc SC OB sn (upA AD 1 (AD 1)) (upA (upA VS 1 (VS 0)) 1 (oReset (VS 0) x).2)) [some (.ref f), some (.int x)] [.int ((oReset (VS 0) x).1)] 12
    refine V_perm (fl_perm (bs := (wBFl cy f fa s o an ((pr + 1) % 10) (min (un + 1) 8) hs e1 e2 fc SC OB sn (upA AD 1 (AD 1)) (upA (upA VS 1 (VS 0)) 1 (oReset (VS 0) x).2))) (bs' := (wBFl cy f fa s o an ((pr + 1) % 10) (min (un + 1) 8) hs e1 e2 fc SC OB sn (fun r => if r < 9 then (upA AD 1 (AD 1)) (r + 1) else (upA AD 1 (AD 1)) 0) (fun r => if r < 9 then (upA (upA VS 1 (VS 0)) 1 (oReset (VS 0) x).2) (r + 1) else (upA (upA VS 1 (VS 0)) 1 (oReset (VS 0) x).2) 0))) (n := 14) [0, 2, 3, 4, 5, 6, 7, 8, 9, 10, 1, 11, 12, 13] (by decide) rfl rfl) ?_
    exact r_ireturn hX hE dX5_renewMould_12 rfl ⟨hx9, rfl, ⟨fa, s, o, _, _, hs, an, e1, e2, fc, SC, OB, sn, _, _, rfl, FR_adv hF had9 (VS 0)⟩⟩ (by omega) (by omega)
  · intro E9 u9 hp9
    obtain ⟨hx9, hE9, rfl⟩ := hp9
    exact VX_out hX hO ⟨hx9, hE9, ⟨fa, s, o, pr, un, hs, an, e1, e2, fc, SC, OB, sn, _, _, rfl, FR_dr hF had9 (VS 0) _⟩⟩ (by decide) (by decide)

set_option maxRecDepth 20000 in
set_option maxHeartbeats 1000000 in
theorem cF_setTolerance {l : Launch} {D : va_G} {cy : Nat → ClassId} {sa : Nat → Nat} {f K : Nat} {S : AS} {ws : va_W} {v : SV} (hvS : v = S.1) (hS : FS cy f S ws) (hI : AI K S) {x : Int32} (hst : l.stackTraces = false) : MX l yX5_setTolerance cX5_setTolerance 2 (some .int) 8 1 6 (D, cy, sa) [.ref f, .int x] (ws) (fun w u => okA (oTol v x).1 ∧ w = some (.int (oTol v x).1) ∧ FS cy f ((oTol v x).2, (S.1 :: S.2.1).take 8, S.2.2) u) (fun E u => noA (oTol v x).1 ∧ E = exC (oTol v x).1 ∧ FS cy f S u) := by
  obtain ⟨fa, s, o, pr, un, hs, an, e1, e2, fc, SC, OB, sn, AD, VS, rfl, hF⟩ := hS
  obtain ⟨⟨hpr, hfc⟩, ⟨hv0, hul, hun, hus⟩, ⟨hh1, hh2⟩, hSC, hOB, he1, he2⟩ := id hF
  have hA0 : fc pr = AD 0 0 := by
    have := hfc 0 (by decide)
    rwa [show (pr + 0) % 10 = pr by omega] at this
  have hA1 : fc ((pr + 1) % 10) = AD 1 0 := hfc 1 (by decide)
  have hv : Wf (VS 0) := hv0 ▸ hI.1.1.1
  have hFB : FB (VS 0) := hv0 ▸ hI.1.2
  have hInv : Inv K (VS 0) := hv0 ▸ hI.1.1
  obtain rfl : v = VS 0 := hvS.trans hv0
  have h8 := hv.2.2.1
  have hFS : FS cy f S (wBF cy f fa s o an pr un hs e1 e2 fc SC OB sn AD VS) := ⟨fa, s, o, pr, un, hs, an, e1, e2, fc, SC, OB, sn, AD, VS, rfl, hF⟩
  have hst5 := hv.2.2.2.1
  have htol := hv.2.2.2.2.1
  refine MX_by (own := RX5) (L := [some (.ref f), some (.int x)]) hst (by decide +kernel) rfl rfl (Nat.le_of_ble_eq_true rfl) 0 rfl (fun X hX hE hO hnL hG hcy hnm => ?_)
  refine r_aload_n (pc' := 1) hX dX5_setTolerance_0 rfl rfl ?_
  refine r_aload_n (pc' := 2) hX dX5_setTolerance_1 rfl rfl ?_
  refine V_call0 (k' := 0) (n' := 0) (pc' := 5) hX (r_runV (As := []) hX dX5_setTolerance_2 k_X5_51 (fun l9 hl9 => cF_draft hpr hA0 hA1 hFB) hG ⟨7, _, TX5, 9, List.mem_cons_self, rfl⟩ rfl rfl (Nat.le_of_ble_eq_true rfl) (by decide) (by decide) (by decide) (by decide)) rfl rfl rfl (fun w9 u9 hp9 => ?_)
  obtain ⟨rfl, rfl⟩ := hp9
  change V X 0 0 (wBF cy f fa s o an pr un hs e1 e2 fc SC OB sn AD (upA VS 1 (VS 0))) [some (.ref f), some (.int x)] [.ref (AD 1 0), .ref f] 5
  refine r_iload_n (pc' := 6) hX dX5_setTolerance_5 rfl rfl ?_
  refine V_call (k' := 0) (n' := 0) (pc' := 9) (wr := ((wBFl cy f fa s o an pr un hs e1 e2 fc SC OB sn AD (upA VS 1 (VS 0))).eraseIdx 2).flatten) hX (r_runV (As := [.int x]) hX dX5_setTolerance_6 k_X5_82 (fun l9 hl9 => cS_changeTolerance (ad := AD 1) (v := VS 0) hv) hG ⟨6, _, TX4, 17, List.mem_cons_self, rfl⟩ rfl rfl (Nat.le_of_ble_eq_true rfl) (by decide) (by decide) (by decide) (by decide)) (fl_out (bs := (wBFl cy f fa s o an pr un hs e1 e2 fc SC OB sn AD (upA VS 1 (VS 0)))) 2 rfl) rfl rfl rfl (fun w9 u9 hp9 => ?_)
  obtain ⟨rfl, rfl⟩ := hp9
  have had9 : (AD 1) 0 = AD 1 0 := rfl
  change V X 0 0 (wSt cy (AD 1) (oTol (VS 0) x).2 ++ ((wBFl cy f fa s o an pr un hs e1 e2 fc SC OB sn AD (upA VS 1 (VS 0))).eraseIdx 2).flatten) [some (.ref f), some (.int x)] [.int ((oTol (VS 0) x).1), .ref f] 9
  refine V_perm (fl_back (bs := (wBFl cy f fa s o an pr un hs e1 e2 fc SC OB sn AD (upA VS 1 (VS 0)))) (bs' := (wBFl cy f fa s o an pr un hs e1 e2 fc SC OB sn (upA AD 1 (AD 1)) (upA (upA VS 1 (VS 0)) 1 (oTol (VS 0) x).2))) 2 rfl rfl) ?_
  refine V_call0X (k' := 1) (n' := 6) (pc' := 12) hX (r_runVX (As := [.int ((oTol (VS 0) x).1)]) hX dX5_setTolerance_9 k_X5_59 (fun l9 hl9 => by cases hl9; exact cF_kept (Outs_nost hO) hpr hun) hG ⟨7, _, TX5, 9, List.mem_cons_self, rfl⟩ rfl rfl (Nat.le_of_ble_eq_true rfl) (by decide) (by decide) (by decide) (by decide)) rfl rfl rfl (fun w9 u9 hp9 => ?_) ?_
  · obtain ⟨rfl, hx9, rfl⟩ := hp9
    change V X 1 6 (wBF cy f fa s o an ((pr + 1) % 10) (min (un + 1) 8) hs e1 e2 fc SC OB sn (upA AD 1 (AD 1)) (upA (upA VS 1 (VS 0)) 1 (oTol (VS 0) x).2)) [some (.ref f), some (.int x)] [.int ((oTol (VS 0) x).1)] 12
    refine V_perm (fl_perm (bs := (wBFl cy f fa s o an ((pr + 1) % 10) (min (un + 1) 8) hs e1 e2 fc SC OB sn (upA AD 1 (AD 1)) (upA (upA VS 1 (VS 0)) 1 (oTol (VS 0) x).2))) (bs' := (wBFl cy f fa s o an ((pr + 1) % 10) (min (un + 1) 8) hs e1 e2 fc SC OB sn (fun r => if r < 9 then (upA AD 1 (AD 1)) (r + 1) else (upA AD 1 (AD 1)) 0) (fun r => if r < 9 then (upA (upA VS 1 (VS 0)) 1 (oTol (VS 0) x).2) (r + 1) else (upA (upA VS 1 (VS 0)) 1 (oTol (VS 0) x).2) 0))) (n := 14) [0, 2, 3, 4, 5, 6, 7, 8, 9, 10, 1, 11, 12, 13] (by decide) rfl rfl) ?_
    exact r_ireturn hX hE dX5_setTolerance_12 rfl ⟨hx9, rfl, ⟨fa, s, o, _, _, hs, an, e1, e2, fc, SC, OB, sn, _, _, rfl, FR_adv hF had9 (VS 0)⟩⟩ (by omega) (by omega)
  · intro E9 u9 hp9
    obtain ⟨hx9, hE9, rfl⟩ := hp9
    exact VX_out hX hO ⟨hx9, hE9, ⟨fa, s, o, pr, un, hs, an, e1, e2, fc, SC, OB, sn, _, _, rfl, FR_dr hF had9 (VS 0) _⟩⟩ (by decide) (by decide)

set_option maxRecDepth 20000 in
set_option maxHeartbeats 1000000 in
theorem cF_setStep {l : Launch} {D : va_G} {cy : Nat → ClassId} {sa : Nat → Nat} {f K : Nat} {S : AS} {ws : va_W} {v : SV} (hvS : v = S.1) (hS : FS cy f S ws) (hI : AI K S) {x : Int32} (hst : l.stackTraces = false) : MX l yX5_setStep cX5_setStep 2 (some .int) 8 1 6 (D, cy, sa) [.ref f, .int x] (ws) (fun w u => okA (oStep v x).1 ∧ w = some (.int (oStep v x).1) ∧ FS cy f ((oStep v x).2, (S.1 :: S.2.1).take 8, S.2.2) u) (fun E u => noA (oStep v x).1 ∧ E = exC (oStep v x).1 ∧ FS cy f S u) := by
  obtain ⟨fa, s, o, pr, un, hs, an, e1, e2, fc, SC, OB, sn, AD, VS, rfl, hF⟩ := hS
  obtain ⟨⟨hpr, hfc⟩, ⟨hv0, hul, hun, hus⟩, ⟨hh1, hh2⟩, hSC, hOB, he1, he2⟩ := id hF
  have hA0 : fc pr = AD 0 0 := by
    have := hfc 0 (by decide)
    rwa [show (pr + 0) % 10 = pr by omega] at this
  have hA1 : fc ((pr + 1) % 10) = AD 1 0 := hfc 1 (by decide)
  have hv : Wf (VS 0) := hv0 ▸ hI.1.1.1
  have hFB : FB (VS 0) := hv0 ▸ hI.1.2
  have hInv : Inv K (VS 0) := hv0 ▸ hI.1.1
  obtain rfl : v = VS 0 := hvS.trans hv0
  have h8 := hv.2.2.1
  have hFS : FS cy f S (wBF cy f fa s o an pr un hs e1 e2 fc SC OB sn AD VS) := ⟨fa, s, o, pr, un, hs, an, e1, e2, fc, SC, OB, sn, AD, VS, rfl, hF⟩
  have hst5 := hv.2.2.2.1
  have htol := hv.2.2.2.2.1
  refine MX_by (own := RX5) (L := [some (.ref f), some (.int x)]) hst (by decide +kernel) rfl rfl (Nat.le_of_ble_eq_true rfl) 0 rfl (fun X hX hE hO hnL hG hcy hnm => ?_)
  refine r_aload_n (pc' := 1) hX dX5_setStep_0 rfl rfl ?_
  refine r_aload_n (pc' := 2) hX dX5_setStep_1 rfl rfl ?_
  refine V_call0 (k' := 0) (n' := 0) (pc' := 5) hX (r_runV (As := []) hX dX5_setStep_2 k_X5_51 (fun l9 hl9 => cF_draft hpr hA0 hA1 hFB) hG ⟨7, _, TX5, 9, List.mem_cons_self, rfl⟩ rfl rfl (Nat.le_of_ble_eq_true rfl) (by decide) (by decide) (by decide) (by decide)) rfl rfl rfl (fun w9 u9 hp9 => ?_)
  obtain ⟨rfl, rfl⟩ := hp9
  change V X 0 0 (wBF cy f fa s o an pr un hs e1 e2 fc SC OB sn AD (upA VS 1 (VS 0))) [some (.ref f), some (.int x)] [.ref (AD 1 0), .ref f] 5
  refine r_iload_n (pc' := 6) hX dX5_setStep_5 rfl rfl ?_
  refine V_call (k' := 0) (n' := 0) (pc' := 9) (wr := ((wBFl cy f fa s o an pr un hs e1 e2 fc SC OB sn AD (upA VS 1 (VS 0))).eraseIdx 2).flatten) hX (r_runV (As := [.int x]) hX dX5_setStep_6 k_X5_85 (fun l9 hl9 => cS_changeStep (ad := AD 1) (v := VS 0) hv) hG ⟨6, _, TX4, 17, List.mem_cons_self, rfl⟩ rfl rfl (Nat.le_of_ble_eq_true rfl) (by decide) (by decide) (by decide) (by decide)) (fl_out (bs := (wBFl cy f fa s o an pr un hs e1 e2 fc SC OB sn AD (upA VS 1 (VS 0)))) 2 rfl) rfl rfl rfl (fun w9 u9 hp9 => ?_)
  obtain ⟨rfl, rfl⟩ := hp9
  have had9 : (AD 1) 0 = AD 1 0 := rfl
  change V X 0 0 (wSt cy (AD 1) (oStep (VS 0) x).2 ++ ((wBFl cy f fa s o an pr un hs e1 e2 fc SC OB sn AD (upA VS 1 (VS 0))).eraseIdx 2).flatten) [some (.ref f), some (.int x)] [.int ((oStep (VS 0) x).1), .ref f] 9
  refine V_perm (fl_back (bs := (wBFl cy f fa s o an pr un hs e1 e2 fc SC OB sn AD (upA VS 1 (VS 0)))) (bs' := (wBFl cy f fa s o an pr un hs e1 e2 fc SC OB sn (upA AD 1 (AD 1)) (upA (upA VS 1 (VS 0)) 1 (oStep (VS 0) x).2))) 2 rfl rfl) ?_
  refine V_call0X (k' := 1) (n' := 6) (pc' := 12) hX (r_runVX (As := [.int ((oStep (VS 0) x).1)]) hX dX5_setStep_9 k_X5_59 (fun l9 hl9 => by cases hl9; exact cF_kept (Outs_nost hO) hpr hun) hG ⟨7, _, TX5, 9, List.mem_cons_self, rfl⟩ rfl rfl (Nat.le_of_ble_eq_true rfl) (by decide) (by decide) (by decide) (by decide)) rfl rfl rfl (fun w9 u9 hp9 => ?_) ?_
  · obtain ⟨rfl, hx9, rfl⟩ := hp9
    change V X 1 6 (wBF cy f fa s o an ((pr + 1) % 10) (min (un + 1) 8) hs e1 e2 fc SC OB sn (upA AD 1 (AD 1)) (upA (upA VS 1 (VS 0)) 1 (oStep (VS 0) x).2)) [some (.ref f), some (.int x)] [.int ((oStep (VS 0) x).1)] 12
    refine V_perm (fl_perm (bs := (wBFl cy f fa s o an ((pr + 1) % 10) (min (un + 1) 8) hs e1 e2 fc SC OB sn (upA AD 1 (AD 1)) (upA (upA VS 1 (VS 0)) 1 (oStep (VS 0) x).2))) (bs' := (wBFl cy f fa s o an ((pr + 1) % 10) (min (un + 1) 8) hs e1 e2 fc SC OB sn (fun r => if r < 9 then (upA AD 1 (AD 1)) (r + 1) else (upA AD 1 (AD 1)) 0) (fun r => if r < 9 then (upA (upA VS 1 (VS 0)) 1 (oStep (VS 0) x).2) (r + 1) else (upA (upA VS 1 (VS 0)) 1 (oStep (VS 0) x).2) 0))) (n := 14) [0, 2, 3, 4, 5, 6, 7, 8, 9, 10, 1, 11, 12, 13] (by decide) rfl rfl) ?_
    exact r_ireturn hX hE dX5_setStep_12 rfl ⟨hx9, rfl, ⟨fa, s, o, _, _, hs, an, e1, e2, fc, SC, OB, sn, _, _, rfl, FR_adv hF had9 (VS 0)⟩⟩ (by omega) (by omega)
  · intro E9 u9 hp9
    obtain ⟨hx9, hE9, rfl⟩ := hp9
    exact VX_out hX hO ⟨hx9, hE9, ⟨fa, s, o, pr, un, hs, an, e1, e2, fc, SC, OB, sn, _, _, rfl, FR_dr hF had9 (VS 0) _⟩⟩ (by decide) (by decide)
