theorem fail01 {v : SV} {x : Int32} (hv : Wf v) (h : 0 ≤ (qBat (bNum 4) v x).toInt) : qBat (bNum 4) v x = nI 0 ∨ qBat (bNum 4) v x = nI 1 := by
  unfold qBat at h ⊢
  by_cases q : plc v x.toInt < v 0 4
  · rw [if_pos q]
    have h4 := (hv.2.2.2.2.2.2.1 _ q).2.2.1
    unfold bNum
    rcases (show v (13 + plc v x.toInt) 4 = 0 ∨ v (13 + plc v x.toInt) 4 = 1 by omega) with e | e
    · rw [e]; exact Or.inl rfl
    · rw [e]; exact Or.inr rfl
  · rw [if_neg q] at h
    exact absurd h (by decide)
set_option maxRecDepth 20000 in
set_option maxHeartbeats 1000000 in
theorem lc_4 {X : xC} {l : Launch} {D : va_G} {cy : Nat → ClassId} {sa : Nat → Nat} {mc ms k0 n0 f o od b L9 i K t : Nat} {ma : Nat → Nat} {xs : Nat → Int32} {S : AS} {fl : Nat → Int64} {fd : Nat → UInt64} {wf wm : va_W} (hX : Ok SF X cL_law RL 16 mc ms) (hG : c0_G X = (D, cy, sa)) (hcy : c0_cy X = cy) (hnL : c0_nL X = 9) (hl : c0_l X = l) (hst : l.stackTraces = false) (hScr : Scr X b L9 xs) (hi : i + 4 ≤ L9) (hL9 : L9 ≤ 2048) (hF : FS cy f S wf) (hM : MS cy ma S t wm) (hA : AJ K S) (hK : K + 61 ≤ 100000) (hk : k0 + 23 ≤ mc) (hn : n0 + 3450 ≤ ms) (cont : ∀ (S1 : AS) (t1 : Nat) (fl1 : Nat → Int64) (fd1 : Nat → UInt64) (wf1 wm1 : va_W), FS cy f S1 wf1 → MS cy ma S1 t1 wm1 → AJ (K + 61) S1 → V X (k0 + 23) (n0 + 3450) (LW cy o od fl1 fd1 wf1 wm1) [some (.ref b), some (.ref f), some (.ref (ma 0)), some (.ref o), some (.ref od), some (.int (nI i)), none, none, none] [] 2780) : V X k0 n0 (LW cy o od fl fd wf wm) [some (.ref b), some (.ref f), some (.ref (ma 0)), some (.ref o), some (.ref od), some (.int (nI i)), none, none, none] [] 552 := by
  have hv : Wf S.1 := hA.1.1.1.1
  have hInv : Inv K S.1 := hA.1.1.1
  have hFB := hA.1.1.2
  have hq9 : 0 ≤ ((oExam S.1 (xs (i + 1))).1).toInt ∨ ((oExam S.1 (xs (i + 1))).1) = -5 ∨ ((oExam S.1 (xs (i + 1))).1) = -3 := (by
    rcases CO_cases (oExam_co hv (x := (xs (i + 1)))) with h9 | ⟨h9, g9⟩ | ⟨h9, g9⟩ | ⟨h9, g9⟩ | ⟨h9, g9⟩ | ⟨h9, g9⟩
    all_goals first | exact absurd rfl g9 | exact Or.inl h9 | exact Or.inr (Or.inl h9) | exact Or.inr (Or.inr (h9)))
  refine r_aload_n (pc' := 553) hX dL_law_552 rfl rfl ?_
  refine r_aload_n (pc' := 554) hX dL_law_553 rfl rfl ?_
  refine r_iload (pc' := 556) hX dL_law_554 rfl rfl ?_
  refine r_iconst (pc' := 557) (v := nI 1) hX dL_law_556 rfl rfl ?_
  refine r_iadd_N (pc' := 558) hX dL_law_557  rfl ?_
  refine r_sld (pc' := 559) hX dL_law_558 hScr (by omega) hL9 rfl ?_
  refine r_aload_n (pc' := 560) hX dL_law_559 rfl rfl ?_
  refine V_call (k' := k0 + 1) (n' := n0 + 6) (pc' := 563) (wr := ([(od, .inl (cy 7, aD 1 fd))] ++ wm)) hX (r_runSW (As := [.ref f, .int (xs (i + 1)), .ref o]) hX dL_law_560 kw_L_177 (fun l9 hl9 => by cases hl9; exact cW_inspect (v := S.1) rfl hF hA.1 (hst := (by rw [hl]; exact hst)) (hq := hq9) ) hG rfl rfl (Nat.le_of_ble_eq_true rfl) (by decide) (by decide) (by omega) (by omega)) (LW_c) (by omega) (by omega) rfl (fun w9 u9 hp9 => ?_)
  obtain ⟨fl1, ws1, rfl, rfl, hP1, hN1⟩ := hp9
  change V X (k0 + 1) (n0 + 6) (([(o, .inl (cy 6, aL 1 fl1))] ++ ws1) ++ ([(od, .inl (cy 7, aD 1 fd))] ++ wm)) [some (.ref b), some (.ref f), some (.ref (ma 0)), some (.ref o), some (.ref od), some (.int (nI i)), none, none, none] [.int (nI (kd 0 0 2 0 1 ((oExam S.1 (xs (i + 1))).1)))] 563
  refine V_perm (LW_c.symm) ?_
  refine r_istore (L' := [some (.ref b), some (.ref f), some (.ref (ma 0)), some (.ref o), some (.ref od), some (.int (nI i)), some (.int (nI (kd 0 0 2 0 1 ((oExam S.1 (xs (i + 1))).1)))), none, none]) (pc' := 565) hX dL_law_563 (nlt hnL (by decide)) rfl rfl rfl ?_
  refine r_aload_n (pc' := 566) hX dL_law_565 rfl rfl ?_
  refine r_aload_n (pc' := 567) hX dL_law_566 rfl rfl ?_
  refine r_iload (pc' := 569) hX dL_law_567 rfl rfl ?_
  refine r_iconst (pc' := 570) (v := nI 1) hX dL_law_569 rfl rfl ?_
  refine r_iadd_N (pc' := 571) hX dL_law_570  rfl ?_
  refine r_sld (pc' := 572) hX dL_law_571 hScr (by omega) hL9 rfl ?_
  refine V_call (k' := k0 + 1) (n' := n0 + 6) (pc' := 575) (wr := ([(o, .inl (cy 6, aL 1 fl1)), (od, .inl (cy 7, aD 1 fd))] ++ ws1)) hX (r_runV (As := [.int (xs (i + 1))]) hX dL_law_572 k_L_179 (fun l9 hl9 => cMw_inspect hM hv (x := (xs (i + 1)))) hG (MS_recv hM) rfl rfl (Nat.le_of_ble_eq_true rfl) (by decide) (by decide) (by omega) (by omega)) (LW_m) (by omega) (by omega) rfl (fun w9 u91 hp9 => ?_)
  obtain ⟨rfl, hu91⟩ := hp9
  change V X (k0 + 1) (n0 + 6) (u91 ++ ([(o, .inl (cy 6, aL 1 fl1)), (od, .inl (cy 7, aD 1 fd))] ++ ws1)) [some (.ref b), some (.ref f), some (.ref (ma 0)), some (.ref o), some (.ref od), some (.int (nI i)), some (.int (nI (kd 0 0 2 0 1 ((oExam S.1 (xs (i + 1))).1)))), none, none] [.int (bI (mvl (oExam S.1 (xs (i + 1))).1 = nI 1))] 575
  refine V_perm (LW_m.symm) ?_
  refine r_istore (L' := [some (.ref b), some (.ref f), some (.ref (ma 0)), some (.ref o), some (.ref od), some (.int (nI i)), some (.int (nI (kd 0 0 2 0 1 ((oExam S.1 (xs (i + 1))).1)))), some (.int (bI (mvl (oExam S.1 (xs (i + 1))).1 = nI 1))), none]) (pc' := 577) hX dL_law_575 (nlt hnL (by decide)) rfl rfl rfl ?_
  refine r_aload_n (pc' := 578) hX dL_law_577 rfl rfl ?_
  refine V_call (k' := k0 + 1) (n' := n0 + 6) (pc' := 581) (wr := ([(o, .inl (cy 6, aL 1 fl1)), (od, .inl (cy 7, aD 1 fd))] ++ ws1)) hX (r_runV (As := []) hX dL_law_578 k_L_163 (fun l9 hl9 => cMw_thrown hu91) hG (MS_recv hu91) rfl rfl (Nat.le_of_ble_eq_true rfl) (by decide) (by decide) (by omega) (by omega)) (LW_m) (by omega) (by omega) rfl (fun w9 u92 hp9 => ?_)
  obtain ⟨rfl, hu92⟩ := hp9
  change V X (k0 + 1) (n0 + 6) (u92 ++ ([(o, .inl (cy 6, aL 1 fl1)), (od, .inl (cy 7, aD 1 fd))] ++ ws1)) [some (.ref b), some (.ref f), some (.ref (ma 0)), some (.ref o), some (.ref od), some (.int (nI i)), some (.int (nI (kd 0 0 2 0 1 ((oExam S.1 (xs (i + 1))).1)))), some (.int (bI (mvl (oExam S.1 (xs (i + 1))).1 = nI 1))), none] [.int (nI (kd 0 0 2 0 1 ((oExam S.1 (xs (i + 1))).1)))] 581
  refine V_perm (LW_m.symm) ?_
  refine r_iload (pc' := 583) hX dL_law_581 rfl rfl ?_
  have hkd := kd_lt (a := 0) (b := 0) (c := 2) (d := 0) (e := 1) (x := (oExam S.1 (xs (i + 1))).1) rfl
  refine r_icmp_eq_N (tgt := 588) (pc' := 586) hX dL_law_583 (by decide) rfl (by omega) (by omega) (fun c583 => ?_) (fun c583 => ?_)
  · refine r_iload (pc' := 590) hX dL_law_588 rfl rfl ?_
    refine r_if_ne_N (tgt := 612) (pc' := 593) hX dL_law_590 (by decide) rfl (by omega) (fun c590 => ?_) (fun c590 => ?_)
    · have hq1 : ((oExam S.1 (xs (i + 1))).1).toInt < 0 := by
        refine Classical.byContradiction fun h9 => c590 (kd_pos (by omega))
      have hF1 := hN1 hq1
      refine r_goto (tgt := 2780) hX dL_law_612 (by decide) ?_
      refine V_loc (L' := [some (.ref b), some (.ref f), some (.ref (ma 0)), some (.ref o), some (.ref od), some (.int (nI i)), none, none, none]) (lo_w ⟨.inr rfl, .inr rfl, .inr rfl, .inr rfl, .inr rfl, .inr rfl, .inl rfl, .inl rfl, .inr rfl, trivial⟩) ?_
      refine V_widen (k' := k0 + 23) (n' := n0 + 3450) (by omega) (by omega) ?_
      exact cont (aMut S (oExam S.1 (xs (i + 1)))) _ _ _ _ _ (by unfold aMut; rw [if_pos hq1]; exact hF1) hu92 ((hA.mut ⟨oExam_inv hInv (by omega), oExam_fb hFB hv⟩).mono (by omega))
    · have hq0 : 0 ≤ ((oExam S.1 (xs (i + 1))).1).toInt := by
        rcases hq9 with h9 | h9 | h9
        · exact h9
        · rw [h9] at c590; exact absurd c590 (by decide)
        · rw [h9] at c590; exact absurd c590 (by decide)
      obtain ⟨hF1, hfl1⟩ := hP1 hq0
      refine r_aload_n (pc' := 594) hX dL_law_593 rfl rfl ?_
      refine r_iconst (pc' := 595) (v := nI 0) hX dL_law_594 rfl rfl ?_
      refine r_lald (pc' := 596) hX dL_law_595 (by rw [hcy]) 0 rfl rfl ?_
      change V X (k0 + 1) (n0 + 6) (LW cy o od fl1 fd ws1 u92) [some (.ref b), some (.ref f), some (.ref (ma 0)), some (.ref o), some (.ref od), some (.int (nI i)), some (.int (nI (kd 0 0 2 0 1 ((oExam S.1 (xs (i + 1))).1)))), some (.int (bI (mvl (oExam S.1 (xs (i + 1))).1 = nI 1))), none] [.long (fl1 0)] 596
      refine r_iload (pc' := 598) hX dL_law_596 rfl rfl ?_
      refine r_if_eq_B (tgt := 605) (pc' := 601) hX dL_law_598 (by decide) rfl (fun c598 => ?_) (fun c598 => ?_)
      · refine r_lconst (pc' := 606) (v := 0) hX dL_law_605 rfl rfl ?_
        rw [show fl1 0 = 0 from by rw [hfl1]; exact if_neg (fun z8 => c598 (by rw [mvl_pos hq0]; exact Int32.toInt_inj.mp z8))]
        refine r_lcmp0 (pc' := 607) hX dL_law_606 rfl ?_
        refine r_if_eq_N (tgt := 612) (pc' := 610) hX dL_law_607 (by decide) rfl (by omega) (fun c607 => ?_) (fun c607 => ?_)
        · refine r_goto (tgt := 2780) hX dL_law_612 (by decide) ?_
          refine V_loc (L' := [some (.ref b), some (.ref f), some (.ref (ma 0)), some (.ref o), some (.ref od), some (.int (nI i)), none, none, none]) (lo_w ⟨.inr rfl, .inr rfl, .inr rfl, .inr rfl, .inr rfl, .inr rfl, .inl rfl, .inl rfl, .inr rfl, trivial⟩) ?_
          refine V_widen (k' := k0 + 23) (n' := n0 + 3450) (by omega) (by omega) ?_
          exact cont (aMut S (oExam S.1 (xs (i + 1)))) _ _ _ _ _ (by unfold aMut; rw [if_neg (by omega)]; exact hF1) hu92 ((hA.mut ⟨oExam_inv hInv (by omega), oExam_fb hFB hv⟩).mono (by omega))
        · exact absurd c607 (by omega)
      · refine r_lconst (pc' := 602) (v := 1) hX dL_law_601 rfl rfl ?_
        refine r_goto (tgt := 606) hX dL_law_602 (by decide) ?_
        rw [show fl1 0 = 1 from by rw [hfl1]; exact if_pos (by have z9 := c598; rw [mvl_pos hq0] at z9; rw [z9]; rfl)]
        refine r_lcmp0 (pc' := 607) hX dL_law_606 rfl ?_
        refine r_if_eq_N (tgt := 612) (pc' := 610) hX dL_law_607 (by decide) rfl (by omega) (fun c607 => ?_) (fun c607 => ?_)
        · refine r_goto (tgt := 2780) hX dL_law_612 (by decide) ?_
          refine V_loc (L' := [some (.ref b), some (.ref f), some (.ref (ma 0)), some (.ref o), some (.ref od), some (.int (nI i)), none, none, none]) (lo_w ⟨.inr rfl, .inr rfl, .inr rfl, .inr rfl, .inr rfl, .inr rfl, .inl rfl, .inl rfl, .inr rfl, trivial⟩) ?_
          refine V_widen (k' := k0 + 23) (n' := n0 + 3450) (by omega) (by omega) ?_
          exact cont (aMut S (oExam S.1 (xs (i + 1)))) _ _ _ _ _ (by unfold aMut; rw [if_neg (by omega)]; exact hF1) hu92 ((hA.mut ⟨oExam_inv hInv (by omega), oExam_fb hFB hv⟩).mono (by omega))
        · exact absurd c607 (by omega)
  · exact absurd c583 (by omega)

set_option maxRecDepth 20000 in
set_option maxHeartbeats 1000000 in
theorem lc_19 {X : xC} {l : Launch} {D : va_G} {cy : Nat → ClassId} {sa : Nat → Nat} {mc ms k0 n0 f o od b L9 i K t : Nat} {ma : Nat → Nat} {xs : Nat → Int32} {S : AS} {fl : Nat → Int64} {fd : Nat → UInt64} {wf wm : va_W} (hX : Ok SF X cL_law RL 16 mc ms) (hG : c0_G X = (D, cy, sa)) (hcy : c0_cy X = cy) (hnL : c0_nL X = 9) (hl : c0_l X = l) (hst : l.stackTraces = false) (hScr : Scr X b L9 xs) (hi : i + 4 ≤ L9) (hL9 : L9 ≤ 2048) (hF : FS cy f S wf) (hM : MS cy ma S t wm) (hA : AJ K S) (hK : K + 61 ≤ 100000) (hk : k0 + 23 ≤ mc) (hn : n0 + 3450 ≤ ms) (cont : ∀ (S1 : AS) (t1 : Nat) (fl1 : Nat → Int64) (fd1 : Nat → UInt64) (wf1 wm1 : va_W), FS cy f S1 wf1 → MS cy ma S1 t1 wm1 → AJ (K + 61) S1 → V X (k0 + 23) (n0 + 3450) (LW cy o od fl1 fd1 wf1 wm1) [some (.ref b), some (.ref f), some (.ref (ma 0)), some (.ref o), some (.ref od), some (.int (nI i)), none, none, none] [] 2780) : V X k0 n0 (LW cy o od fl fd wf wm) [some (.ref b), some (.ref f), some (.ref (ma 0)), some (.ref o), some (.ref od), some (.int (nI i)), none, none, none] [] 1196 := by
  have hv : Wf S.1 := hA.1.1.1.1
  have hInv : Inv K S.1 := hA.1.1.1
  have hFB := hA.1.1.2
  have hq9 : 0 ≤ (qBat (bNum 4) S.1 (xs (i + 1))).toInt ∨ (qBat (bNum 4) S.1 (xs (i + 1))) = -5 := qBat_q (bNum_lt (by decide) hv)
  have hkk : kd 0 0 0 0 1 (qBat (bNum 4) S.1 (xs (i + 1))) = kd 1 1 1 1 1 (qBat (bNum 4) S.1 (xs (i + 1))) := by
    rcases hq9 with h9 | h9
    · rw [kd_pos h9, kd_pos h9]
    · rw [h9]; rfl
  refine r_aload_n (pc' := 1197) hX dL_law_1196 rfl rfl ?_
  refine r_aload_n (pc' := 1198) hX dL_law_1197 rfl rfl ?_
  refine r_iload (pc' := 1200) hX dL_law_1198 rfl rfl ?_
  refine r_iconst (pc' := 1201) (v := nI 1) hX dL_law_1200 rfl rfl ?_
  refine r_iadd_N (pc' := 1202) hX dL_law_1201  rfl ?_
  refine r_sld (pc' := 1203) hX dL_law_1202 hScr (by omega) hL9 rfl ?_
  refine r_aload_n (pc' := 1204) hX dL_law_1203 rfl rfl ?_
  refine V_call (k' := k0 + 1) (n' := n0 + 6) (pc' := 1207) (wr := ([(od, .inl (cy 7, aD 1 fd))] ++ wm)) hX (r_runSW (As := [.ref f, .int (xs (i + 1)), .ref o]) hX dL_law_1204 kw_L_227 (fun l9 hl9 => by cases hl9; exact cW_isFailed (v := S.1) rfl hF hA.1 (hst := (by rw [hl]; exact hst)) (hq := hq9) ) hG rfl rfl (Nat.le_of_ble_eq_true rfl) (by decide) (by decide) (by omega) (by omega)) (LW_c) (by omega) (by omega) rfl (fun w9 u9 hp9 => ?_)
  obtain ⟨fl1, ws1, rfl, rfl, hP1, hN1⟩ := hp9
  rw [hkk]
  change V X (k0 + 1) (n0 + 6) (([(o, .inl (cy 6, aL 1 fl1))] ++ ws1) ++ ([(od, .inl (cy 7, aD 1 fd))] ++ wm)) [some (.ref b), some (.ref f), some (.ref (ma 0)), some (.ref o), some (.ref od), some (.int (nI i)), none, none, none] [.int (nI (kd 1 1 1 1 1 (qBat (bNum 4) S.1 (xs (i + 1)))))] 1207
  refine V_perm (LW_c.symm) ?_
  refine r_istore (L' := [some (.ref b), some (.ref f), some (.ref (ma 0)), some (.ref o), some (.ref od), some (.int (nI i)), some (.int (nI (kd 1 1 1 1 1 (qBat (bNum 4) S.1 (xs (i + 1)))))), none, none]) (pc' := 1209) hX dL_law_1207 (nlt hnL (by decide)) rfl rfl rfl ?_
  refine r_aload_n (pc' := 1210) hX dL_law_1209 rfl rfl ?_
  refine r_aload_n (pc' := 1211) hX dL_law_1210 rfl rfl ?_
  refine r_iload (pc' := 1213) hX dL_law_1211 rfl rfl ?_
  refine r_iconst (pc' := 1214) (v := nI 1) hX dL_law_1213 rfl rfl ?_
  refine r_iadd_N (pc' := 1215) hX dL_law_1214  rfl ?_
  refine r_sld (pc' := 1216) hX dL_law_1215 hScr (by omega) hL9 rfl ?_
  refine V_call (k' := k0 + 1) (n' := n0 + 6) (pc' := 1219) (wr := ([(o, .inl (cy 6, aL 1 fl1)), (od, .inl (cy 7, aD 1 fd))] ++ ws1)) hX (r_runV (As := [.int (xs (i + 1))]) hX dL_law_1216 k_L_229 (fun l9 hl9 => cMw_isFailed (v := S.1) rfl hM hv (x := (xs (i + 1)))) hG (MS_recv hM) rfl rfl (Nat.le_of_ble_eq_true rfl) (by decide) (by decide) (by omega) (by omega)) (LW_m) (by omega) (by omega) rfl (fun w9 u93 hp9 => ?_)
  obtain ⟨rfl, hu93⟩ := hp9
  change V X (k0 + 1) (n0 + 6) (u93 ++ ([(o, .inl (cy 6, aL 1 fl1)), (od, .inl (cy 7, aD 1 fd))] ++ ws1)) [some (.ref b), some (.ref f), some (.ref (ma 0)), some (.ref o), some (.ref od), some (.int (nI i)), some (.int (nI (kd 1 1 1 1 1 (qBat (bNum 4) S.1 (xs (i + 1)))))), none, none] [.int (bI (mvl (qBat (bNum 4) S.1 (xs (i + 1))) = nI 1))] 1219
  refine V_perm (LW_m.symm) ?_
  refine r_istore (L' := [some (.ref b), some (.ref f), some (.ref (ma 0)), some (.ref o), some (.ref od), some (.int (nI i)), some (.int (nI (kd 1 1 1 1 1 (qBat (bNum 4) S.1 (xs (i + 1)))))), some (.int (bI (mvl (qBat (bNum 4) S.1 (xs (i + 1))) = nI 1))), none]) (pc' := 1221) hX dL_law_1219 (nlt hnL (by decide)) rfl rfl rfl ?_
  refine r_aload_n (pc' := 1222) hX dL_law_1221 rfl rfl ?_
  refine V_call (k' := k0 + 1) (n' := n0 + 6) (pc' := 1225) (wr := ([(o, .inl (cy 6, aL 1 fl1)), (od, .inl (cy 7, aD 1 fd))] ++ ws1)) hX (r_runV (As := []) hX dL_law_1222 k_L_163 (fun l9 hl9 => cMw_thrown hu93) hG (MS_recv hu93) rfl rfl (Nat.le_of_ble_eq_true rfl) (by decide) (by decide) (by omega) (by omega)) (LW_m) (by omega) (by omega) rfl (fun w9 u94 hp9 => ?_)
  obtain ⟨rfl, hu94⟩ := hp9
  change V X (k0 + 1) (n0 + 6) (u94 ++ ([(o, .inl (cy 6, aL 1 fl1)), (od, .inl (cy 7, aD 1 fd))] ++ ws1)) [some (.ref b), some (.ref f), some (.ref (ma 0)), some (.ref o), some (.ref od), some (.int (nI i)), some (.int (nI (kd 1 1 1 1 1 (qBat (bNum 4) S.1 (xs (i + 1)))))), some (.int (bI (mvl (qBat (bNum 4) S.1 (xs (i + 1))) = nI 1))), none] [.int (nI (kd 1 1 1 1 1 (qBat (bNum 4) S.1 (xs (i + 1)))))] 1225
  refine V_perm (LW_m.symm) ?_
  refine r_iload (pc' := 1227) hX dL_law_1225 rfl rfl ?_
  have hkd := kd_lt (a := 1) (b := 1) (c := 1) (d := 1) (e := 1) (x := qBat (bNum 4) S.1 (xs (i + 1))) rfl
  refine r_icmp_eq_N (tgt := 1232) (pc' := 1230) hX dL_law_1227 (by decide) rfl (by omega) (by omega) (fun c1227 => ?_) (fun c1227 => ?_)
  · refine r_iload (pc' := 1234) hX dL_law_1232 rfl rfl ?_
    refine r_if_ne_N (tgt := 1256) (pc' := 1237) hX dL_law_1234 (by decide) rfl (by omega) (fun c1234 => ?_) (fun c1234 => ?_)
    · have hq1 : (qBat (bNum 4) S.1 (xs (i + 1))).toInt < 0 := by
        refine Classical.byContradiction fun h9 => c1234 (kd_pos (by omega))
      have hF1 := hN1 hq1
      refine r_goto (tgt := 2780) hX dL_law_1256 (by decide) ?_
      refine V_loc (L' := [some (.ref b), some (.ref f), some (.ref (ma 0)), some (.ref o), some (.ref od), some (.int (nI i)), none, none, none]) (lo_w ⟨.inr rfl, .inr rfl, .inr rfl, .inr rfl, .inr rfl, .inr rfl, .inl rfl, .inl rfl, .inr rfl, trivial⟩) ?_
      refine V_widen (k' := k0 + 23) (n' := n0 + 3450) (by omega) (by omega) ?_
      exact cont (S) _ _ _ _ _ (hF1) hu94 (hA.mono (by omega))
    · have hq0 : 0 ≤ (qBat (bNum 4) S.1 (xs (i + 1))).toInt := by
        rcases hq9 with h9 | h9
        · exact h9
        · rw [h9] at c1234; exact absurd c1234 (by decide)
      obtain ⟨hF1, hfl1⟩ := hP1 hq0
      refine r_aload_n (pc' := 1238) hX dL_law_1237 rfl rfl ?_
      refine r_iconst (pc' := 1239) (v := nI 0) hX dL_law_1238 rfl rfl ?_
      refine r_lald (pc' := 1240) hX dL_law_1239 (by rw [hcy]) 0 rfl rfl ?_
      change V X (k0 + 1) (n0 + 6) (LW cy o od fl1 fd ws1 u94) [some (.ref b), some (.ref f), some (.ref (ma 0)), some (.ref o), some (.ref od), some (.int (nI i)), some (.int (nI (kd 1 1 1 1 1 (qBat (bNum 4) S.1 (xs (i + 1)))))), some (.int (bI (mvl (qBat (bNum 4) S.1 (xs (i + 1))) = nI 1))), none] [.long (fl1 0)] 1240
      refine r_iload (pc' := 1242) hX dL_law_1240 rfl rfl ?_
      refine r_if_eq_B (tgt := 1249) (pc' := 1245) hX dL_law_1242 (by decide) rfl (fun c1242 => ?_) (fun c1242 => ?_)
      · refine r_lconst (pc' := 1250) (v := 0) hX dL_law_1249 rfl rfl ?_
        rw [show fl1 0 = 0 from by rw [hfl1]; exact if_neg (fun z8 => c1242 (by rw [mvl_pos hq0]; exact (fail01 hv hq0).resolve_left (fun z7 => z8 (by rw [z7]; rfl))))]
        refine r_lcmp0 (pc' := 1251) hX dL_law_1250 rfl ?_
        refine r_if_eq_N (tgt := 1256) (pc' := 1254) hX dL_law_1251 (by decide) rfl (by omega) (fun c1251 => ?_) (fun c1251 => ?_)
        · refine r_goto (tgt := 2780) hX dL_law_1256 (by decide) ?_
          refine V_loc (L' := [some (.ref b), some (.ref f), some (.ref (ma 0)), some (.ref o), some (.ref od), some (.int (nI i)), none, none, none]) (lo_w ⟨.inr rfl, .inr rfl, .inr rfl, .inr rfl, .inr rfl, .inr rfl, .inl rfl, .inl rfl, .inr rfl, trivial⟩) ?_
          refine V_widen (k' := k0 + 23) (n' := n0 + 3450) (by omega) (by omega) ?_
          exact cont (S) _ _ _ _ _ (hF1) hu94 (hA.mono (by omega))
        · exact absurd c1251 (by omega)
      · refine r_lconst (pc' := 1246) (v := 1) hX dL_law_1245 rfl rfl ?_
        refine r_goto (tgt := 1250) hX dL_law_1246 (by decide) ?_
        rw [show fl1 0 = 1 from by rw [hfl1]; exact if_pos (by have z9 := c1242; rw [mvl_pos hq0] at z9; rw [z9]; decide)]
        refine r_lcmp0 (pc' := 1251) hX dL_law_1250 rfl ?_
        refine r_if_eq_N (tgt := 1256) (pc' := 1254) hX dL_law_1251 (by decide) rfl (by omega) (fun c1251 => ?_) (fun c1251 => ?_)
        · refine r_goto (tgt := 2780) hX dL_law_1256 (by decide) ?_
          refine V_loc (L' := [some (.ref b), some (.ref f), some (.ref (ma 0)), some (.ref o), some (.ref od), some (.int (nI i)), none, none, none]) (lo_w ⟨.inr rfl, .inr rfl, .inr rfl, .inr rfl, .inr rfl, .inr rfl, .inl rfl, .inl rfl, .inr rfl, trivial⟩) ?_
          refine V_widen (k' := k0 + 23) (n' := n0 + 3450) (by omega) (by omega) ?_
          exact cont (S) _ _ _ _ _ (hF1) hu94 (hA.mono (by omega))
        · exact absurd c1251 (by omega)
  · exact absurd c1227 (by omega)

set_option maxRecDepth 20000 in
set_option maxHeartbeats 1000000 in
theorem lc_23 {X : xC} {l : Launch} {D : va_G} {cy : Nat → ClassId} {sa : Nat → Nat} {mc ms k0 n0 f o od b L9 i K t : Nat} {ma : Nat → Nat} {xs : Nat → Int32} {S : AS} {fl : Nat → Int64} {fd : Nat → UInt64} {wf wm : va_W} (hX : Ok SF X cL_law RL 16 mc ms) (hG : c0_G X = (D, cy, sa)) (hcy : c0_cy X = cy) (hnL : c0_nL X = 9) (hl : c0_l X = l) (hst : l.stackTraces = false) (hScr : Scr X b L9 xs) (hi : i + 4 ≤ L9) (hL9 : L9 ≤ 2048) (hF : FS cy f S wf) (hM : MS cy ma S t wm) (hA : AJ K S) (hK : K + 61 ≤ 100000) (hk : k0 + 23 ≤ mc) (hn : n0 + 3450 ≤ ms) (cont : ∀ (S1 : AS) (t1 : Nat) (fl1 : Nat → Int64) (fd1 : Nat → UInt64) (wf1 wm1 : va_W), FS cy f S1 wf1 → MS cy ma S1 t1 wm1 → AJ (K + 61) S1 → V X (k0 + 23) (n0 + 3450) (LW cy o od fl1 fd1 wf1 wm1) [some (.ref b), some (.ref f), some (.ref (ma 0)), some (.ref o), some (.ref od), some (.int (nI i)), none, none, none] [] 2780) : V X k0 n0 (LW cy o od fl fd wf wm) [some (.ref b), some (.ref f), some (.ref (ma 0)), some (.ref o), some (.ref od), some (.int (nI i)), none, none, none] [] 1427 := by
  have hv : Wf S.1 := hA.1.1.1.1
  have hInv : Inv K S.1 := hA.1.1.1
  have hFB := hA.1.1.2
  have hq9 : 0 ≤ (qSqk S.1 (xs (i + 1))).toInt ∨ (qSqk S.1 (xs (i + 1))) = -5 := qSqk_q hv
  have hkk : kd 0 0 0 0 1 (qSqk S.1 (xs (i + 1))) = kd 1 1 1 1 1 (qSqk S.1 (xs (i + 1))) := by
    rcases hq9 with h9 | h9
    · rw [kd_pos h9, kd_pos h9]
    · rw [h9]; rfl
  refine r_aload_n (pc' := 1428) hX dL_law_1427 rfl rfl ?_
  refine r_aload_n (pc' := 1429) hX dL_law_1428 rfl rfl ?_
  refine r_iload (pc' := 1431) hX dL_law_1429 rfl rfl ?_
  refine r_iconst (pc' := 1432) (v := nI 1) hX dL_law_1431 rfl rfl ?_
  refine r_iadd_N (pc' := 1433) hX dL_law_1432  rfl ?_
  refine r_sld (pc' := 1434) hX dL_law_1433 hScr (by omega) hL9 rfl ?_
  refine r_aload_n (pc' := 1435) hX dL_law_1434 rfl rfl ?_
  refine V_call (k' := k0 + 1) (n' := n0 + 6) (pc' := 1438) (wr := ([(od, .inl (cy 7, aD 1 fd))] ++ wm)) hX (r_runSW (As := [.ref f, .int (xs (i + 1)), .ref o]) hX dL_law_1435 kw_L_239 (fun l9 hl9 => by cases hl9; exact cW_isGood (v := S.1) rfl hF hA.1 (hst := (by rw [hl]; exact hst)) (hq := hq9) ) hG rfl rfl (Nat.le_of_ble_eq_true rfl) (by decide) (by decide) (by omega) (by omega)) (LW_c) (by omega) (by omega) rfl (fun w9 u9 hp9 => ?_)
  obtain ⟨fl1, ws1, rfl, rfl, hP1, hN1⟩ := hp9
  rw [hkk]
  change V X (k0 + 1) (n0 + 6) (([(o, .inl (cy 6, aL 1 fl1))] ++ ws1) ++ ([(od, .inl (cy 7, aD 1 fd))] ++ wm)) [some (.ref b), some (.ref f), some (.ref (ma 0)), some (.ref o), some (.ref od), some (.int (nI i)), none, none, none] [.int (nI (kd 1 1 1 1 1 (qSqk S.1 (xs (i + 1)))))] 1438
  refine V_perm (LW_c.symm) ?_
  refine r_istore (L' := [some (.ref b), some (.ref f), some (.ref (ma 0)), some (.ref o), some (.ref od), some (.int (nI i)), some (.int (nI (kd 1 1 1 1 1 (qSqk S.1 (xs (i + 1)))))), none, none]) (pc' := 1440) hX dL_law_1438 (nlt hnL (by decide)) rfl rfl rfl ?_
  refine r_aload_n (pc' := 1441) hX dL_law_1440 rfl rfl ?_
  refine r_aload_n (pc' := 1442) hX dL_law_1441 rfl rfl ?_
  refine r_iload (pc' := 1444) hX dL_law_1442 rfl rfl ?_
  refine r_iconst (pc' := 1445) (v := nI 1) hX dL_law_1444 rfl rfl ?_
  refine r_iadd_N (pc' := 1446) hX dL_law_1445  rfl ?_
  refine r_sld (pc' := 1447) hX dL_law_1446 hScr (by omega) hL9 rfl ?_
  refine V_call (k' := k0 + 1) (n' := n0 + 6) (pc' := 1450) (wr := ([(o, .inl (cy 6, aL 1 fl1)), (od, .inl (cy 7, aD 1 fd))] ++ ws1)) hX (r_runV (As := [.int (xs (i + 1))]) hX dL_law_1447 k_L_241 (fun l9 hl9 => cMw_isGood (v := S.1) rfl hM hv (x := (xs (i + 1)))) hG (MS_recv hM) rfl rfl (Nat.le_of_ble_eq_true rfl) (by decide) (by decide) (by omega) (by omega)) (LW_m) (by omega) (by omega) rfl (fun w9 u95 hp9 => ?_)
  obtain ⟨rfl, hu95⟩ := hp9
  change V X (k0 + 1) (n0 + 6) (u95 ++ ([(o, .inl (cy 6, aL 1 fl1)), (od, .inl (cy 7, aD 1 fd))] ++ ws1)) [some (.ref b), some (.ref f), some (.ref (ma 0)), some (.ref o), some (.ref od), some (.int (nI i)), some (.int (nI (kd 1 1 1 1 1 (qSqk S.1 (xs (i + 1)))))), none, none] [.int (bI (0 ≤ (qSqk S.1 (xs (i + 1))).toInt ∧ (qSqk S.1 (xs (i + 1))).toInt ≤ (S.1 0 2 : Int)))] 1450
  refine V_perm (LW_m.symm) ?_
  refine r_istore (L' := [some (.ref b), some (.ref f), some (.ref (ma 0)), some (.ref o), some (.ref od), some (.int (nI i)), some (.int (nI (kd 1 1 1 1 1 (qSqk S.1 (xs (i + 1)))))), some (.int (bI (0 ≤ (qSqk S.1 (xs (i + 1))).toInt ∧ (qSqk S.1 (xs (i + 1))).toInt ≤ (S.1 0 2 : Int)))), none]) (pc' := 1452) hX dL_law_1450 (nlt hnL (by decide)) rfl rfl rfl ?_
  refine r_aload_n (pc' := 1453) hX dL_law_1452 rfl rfl ?_
  refine V_call (k' := k0 + 1) (n' := n0 + 6) (pc' := 1456) (wr := ([(o, .inl (cy 6, aL 1 fl1)), (od, .inl (cy 7, aD 1 fd))] ++ ws1)) hX (r_runV (As := []) hX dL_law_1453 k_L_163 (fun l9 hl9 => cMw_thrown hu95) hG (MS_recv hu95) rfl rfl (Nat.le_of_ble_eq_true rfl) (by decide) (by decide) (by omega) (by omega)) (LW_m) (by omega) (by omega) rfl (fun w9 u96 hp9 => ?_)
  obtain ⟨rfl, hu96⟩ := hp9
  change V X (k0 + 1) (n0 + 6) (u96 ++ ([(o, .inl (cy 6, aL 1 fl1)), (od, .inl (cy 7, aD 1 fd))] ++ ws1)) [some (.ref b), some (.ref f), some (.ref (ma 0)), some (.ref o), some (.ref od), some (.int (nI i)), some (.int (nI (kd 1 1 1 1 1 (qSqk S.1 (xs (i + 1)))))), some (.int (bI (0 ≤ (qSqk S.1 (xs (i + 1))).toInt ∧ (qSqk S.1 (xs (i + 1))).toInt ≤ (S.1 0 2 : Int)))), none] [.int (nI (kd 1 1 1 1 1 (qSqk S.1 (xs (i + 1)))))] 1456
  refine V_perm (LW_m.symm) ?_
  refine r_iload (pc' := 1458) hX dL_law_1456 rfl rfl ?_
  have hkd := kd_lt (a := 1) (b := 1) (c := 1) (d := 1) (e := 1) (x := qSqk S.1 (xs (i + 1))) rfl
  refine r_icmp_eq_N (tgt := 1463) (pc' := 1461) hX dL_law_1458 (by decide) rfl (by omega) (by omega) (fun c1458 => ?_) (fun c1458 => ?_)
  · refine r_iload (pc' := 1465) hX dL_law_1463 rfl rfl ?_
    refine r_if_ne_N (tgt := 1487) (pc' := 1468) hX dL_law_1465 (by decide) rfl (by omega) (fun c1465 => ?_) (fun c1465 => ?_)
    · have hq1 : (qSqk S.1 (xs (i + 1))).toInt < 0 := by
        refine Classical.byContradiction fun h9 => c1465 (kd_pos (by omega))
      have hF1 := hN1 hq1
      refine r_goto (tgt := 2780) hX dL_law_1487 (by decide) ?_
      refine V_loc (L' := [some (.ref b), some (.ref f), some (.ref (ma 0)), some (.ref o), some (.ref od), some (.int (nI i)), none, none, none]) (lo_w ⟨.inr rfl, .inr rfl, .inr rfl, .inr rfl, .inr rfl, .inr rfl, .inl rfl, .inl rfl, .inr rfl, trivial⟩) ?_
      refine V_widen (k' := k0 + 23) (n' := n0 + 3450) (by omega) (by omega) ?_
      exact cont (S) _ _ _ _ _ (hF1) hu96 (hA.mono (by omega))
    · have hq0 : 0 ≤ (qSqk S.1 (xs (i + 1))).toInt := by
        rcases hq9 with h9 | h9
        · exact h9
        · rw [h9] at c1465; exact absurd c1465 (by decide)
      obtain ⟨hF1, hfl1⟩ := hP1 hq0
      refine r_aload_n (pc' := 1469) hX dL_law_1468 rfl rfl ?_
      refine r_iconst (pc' := 1470) (v := nI 0) hX dL_law_1469 rfl rfl ?_
      refine r_lald (pc' := 1471) hX dL_law_1470 (by rw [hcy]) 0 rfl rfl ?_
      change V X (k0 + 1) (n0 + 6) (LW cy o od fl1 fd ws1 u96) [some (.ref b), some (.ref f), some (.ref (ma 0)), some (.ref o), some (.ref od), some (.int (nI i)), some (.int (nI (kd 1 1 1 1 1 (qSqk S.1 (xs (i + 1)))))), some (.int (bI (0 ≤ (qSqk S.1 (xs (i + 1))).toInt ∧ (qSqk S.1 (xs (i + 1))).toInt ≤ (S.1 0 2 : Int)))), none] [.long (fl1 0)] 1471
      refine r_iload (pc' := 1473) hX dL_law_1471 rfl rfl ?_
      refine r_if_eq_B (tgt := 1480) (pc' := 1476) hX dL_law_1473 (by decide) rfl (fun c1473 => ?_) (fun c1473 => ?_)
      · refine r_lconst (pc' := 1481) (v := 0) hX dL_law_1480 rfl rfl ?_
        rw [show fl1 0 = 0 from by rw [hfl1]; exact if_neg (fun z8 => c1473 ⟨hq0, z8⟩)]
        refine r_lcmp0 (pc' := 1482) hX dL_law_1481 rfl ?_
        refine r_if_eq_N (tgt := 1487) (pc' := 1485) hX dL_law_1482 (by decide) rfl (by omega) (fun c1482 => ?_) (fun c1482 => ?_)
        · refine r_goto (tgt := 2780) hX dL_law_1487 (by decide) ?_
          refine V_loc (L' := [some (.ref b), some (.ref f), some (.ref (ma 0)), some (.ref o), some (.ref od), some (.int (nI i)), none, none, none]) (lo_w ⟨.inr rfl, .inr rfl, .inr rfl, .inr rfl, .inr rfl, .inr rfl, .inl rfl, .inl rfl, .inr rfl, trivial⟩) ?_
          refine V_widen (k' := k0 + 23) (n' := n0 + 3450) (by omega) (by omega) ?_
          exact cont (S) _ _ _ _ _ (hF1) hu96 (hA.mono (by omega))
        · exact absurd c1482 (by omega)
      · refine r_lconst (pc' := 1477) (v := 1) hX dL_law_1476 rfl rfl ?_
        refine r_goto (tgt := 1481) hX dL_law_1477 (by decide) ?_
        rw [show fl1 0 = 1 from by rw [hfl1]; exact if_pos ((c1473).2)]
        refine r_lcmp0 (pc' := 1482) hX dL_law_1481 rfl ?_
        refine r_if_eq_N (tgt := 1487) (pc' := 1485) hX dL_law_1482 (by decide) rfl (by omega) (fun c1482 => ?_) (fun c1482 => ?_)
        · refine r_goto (tgt := 2780) hX dL_law_1487 (by decide) ?_
          refine V_loc (L' := [some (.ref b), some (.ref f), some (.ref (ma 0)), some (.ref o), some (.ref od), some (.int (nI i)), none, none, none]) (lo_w ⟨.inr rfl, .inr rfl, .inr rfl, .inr rfl, .inr rfl, .inr rfl, .inl rfl, .inl rfl, .inr rfl, trivial⟩) ?_
          refine V_widen (k' := k0 + 23) (n' := n0 + 3450) (by omega) (by omega) ?_
          exact cont (S) _ _ _ _ _ (hF1) hu96 (hA.mono (by omega))
        · exact absurd c1482 (by omega)
  · exact absurd c1458 (by omega)
