def ch16 (x : Int32) : Nat := (x.toUInt32 % 65536).toNat
theorem ch16_lt (x : Int32) : ch16 x < 65536 := by
  unfold ch16
  rw [UInt32.toNat_mod]
  exact Nat.mod_lt _ (by decide)
theorem ch16_c (x : Int32) : (x.toUInt32 % 65536).toInt32 = nI (ch16 x) := by
  show (x.toUInt32 % 65536).toInt32 = (UInt32.ofNat (x.toUInt32 % 65536).toNat).toInt32
  rw [UInt32.ofNat_toNat]
section VCH
variable {X : xC} {cc : ByteArray} {own : String} {d mc ms : Nat} {k n : Nat} {ws : va_W} {L : List (Option Value)} {st : List Value} {pc pc' : Nat}
theorem r_i2cA {x : Int32} (hX : Ok SF X cc own d mc ms) (hd : decode cc pc = .ok (.i2c, 1)) (hp : pc + 1 = pc') (h : V X k n ws L (.int (nI (ch16 x)) :: st) pc') : V X k n ws L (.int x :: st) pc := by
  obtain ⟨p, l, e, R, s, m, args, below, meth, c, nL, G, A, Q⟩ := X
  obtain ⟨hx, hb, hown, hts, hK, hA, hlk, hml, hR, hsf, hNw⟩ := hX
  subst hp
  intro H locs ls hP hD hS hl
  exact lv_i2c hx hb hd (ch16_c x) (h H locs ls hP hD hS hl)
end VCH
theorem type_no {S : AS} {c : Nat} (h : (qType S c).toInt < 0) : aType S c = S := by
  unfold qType at h
  unfold aType
  split
  · rename_i h1
    rw [if_pos h1] at h
    split
    · rename_i h2
      rw [if_pos h2, nI_I (by omega)] at h
      omega
    · rfl
  · rfl
set_option maxRecDepth 20000 in
set_option maxHeartbeats 1000000 in
theorem lc_45 {X : xC} {l : Launch} {D : va_G} {cy : Nat → ClassId} {sa : Nat → Nat} {mc ms k0 n0 f o od b L9 i K t : Nat} {ma : Nat → Nat} {xs : Nat → Int32} {S : AS} {fl : Nat → Int64} {fd : Nat → UInt64} {wf wm : va_W} (hX : Ok SF X cL_law RL 16 mc ms) (hG : c0_G X = (D, cy, sa)) (hcy : c0_cy X = cy) (hnL : c0_nL X = 9) (hl : c0_l X = l) (hst : l.stackTraces = false) (hScr : Scr X b L9 xs) (hi : i + 4 ≤ L9) (hL9 : L9 ≤ 2048) (hF : FS cy f S wf) (hM : MS cy ma S t wm) (hA : AJ K S) (hK : K + 61 ≤ 100000) (hk : k0 + 23 ≤ mc) (hn : n0 + 3450 ≤ ms) (cont : ∀ (S1 : AS) (t1 : Nat) (fl1 : Nat → Int64) (fd1 : Nat → UInt64) (wf1 wm1 : va_W), FS cy f S1 wf1 → MS cy ma S1 t1 wm1 → AJ (K + 61) S1 → V X (k0 + 23) (n0 + 3450) (LW cy o od fl1 fd1 wf1 wm1) [some (.ref b), some (.ref f), some (.ref (ma 0)), some (.ref o), some (.ref od), some (.int (nI i)), none, none, none] [] 2780) : V X k0 n0 (LW cy o od fl fd wf wm) [some (.ref b), some (.ref f), some (.ref (ma 0)), some (.ref o), some (.ref od), some (.int (nI i)), none, none, none] [] 2489 := by
  have hv : Wf S.1 := hA.1.1.1.1
  have hInv : Inv K S.1 := hA.1.1.1
  have hFB := hA.1.1.2
  have hq9 : 0 ≤ (qType S (ch16 (xs (i + 1)))).toInt ∨ (qType S (ch16 (xs (i + 1)))) = -2 ∨ (qType S (ch16 (xs (i + 1)))) = -3 := qType_q
  refine r_aload_n (pc' := 2490) hX dL_law_2489 rfl rfl ?_
  refine r_aload_n (pc' := 2491) hX dL_law_2490 rfl rfl ?_
  refine r_iload (pc' := 2493) hX dL_law_2491 rfl rfl ?_
  refine r_iconst (pc' := 2494) (v := nI 1) hX dL_law_2493 rfl rfl ?_
  refine r_iadd_N (pc' := 2495) hX dL_law_2494  rfl ?_
  refine r_sld (pc' := 2496) hX dL_law_2495 hScr (by omega) hL9 rfl ?_
  refine r_i2cA (pc' := 2497) hX dL_law_2496 rfl ?_
  refine r_aload_n (pc' := 2498) hX dL_law_2497 rfl rfl ?_
  refine V_call (k' := k0 + 1) (n' := n0 + 150) (pc' := 2501) (wr := ([(od, .inl (cy 7, aD 1 fd))] ++ wm)) hX (r_runSW (As := [.ref f, .int (nI (ch16 (xs (i + 1)))), .ref o]) hX dL_law_2498 kw_L_312 (fun l9 hl9 => by cases hl9; exact cW_type (v := S.1) rfl hF hA.1 (hst := (by rw [hl]; exact hst)) (hq := hq9) (hch := ch16_lt _)) hG rfl rfl (Nat.le_of_ble_eq_true rfl) (by decide) (by decide) (by omega) (by omega)) (LW_c) (by omega) (by omega) rfl (fun w9 u9 hp9 => ?_)
  obtain ⟨fl1, ws1, rfl, rfl, hP1, hN1⟩ := hp9
  change V X (k0 + 1) (n0 + 150) (([(o, .inl (cy 6, aL 1 fl1))] ++ ws1) ++ ([(od, .inl (cy 7, aD 1 fd))] ++ wm)) [some (.ref b), some (.ref f), some (.ref (ma 0)), some (.ref o), some (.ref od), some (.int (nI i)), none, none, none] [.int (nI (kd 0 1 2 0 0 (qType S (ch16 (xs (i + 1))))))] 2501
  refine V_perm (LW_c.symm) ?_
  refine r_istore (L' := [some (.ref b), some (.ref f), some (.ref (ma 0)), some (.ref o), some (.ref od), some (.int (nI i)), some (.int (nI (kd 0 1 2 0 0 (qType S (ch16 (xs (i + 1))))))), none, none]) (pc' := 2503) hX dL_law_2501 (nlt hnL (by decide)) rfl rfl rfl ?_
  refine r_aload_n (pc' := 2504) hX dL_law_2503 rfl rfl ?_
  refine r_aload_n (pc' := 2505) hX dL_law_2504 rfl rfl ?_
  refine r_iload (pc' := 2507) hX dL_law_2505 rfl rfl ?_
  refine r_iconst (pc' := 2508) (v := nI 1) hX dL_law_2507 rfl rfl ?_
  refine r_iadd_N (pc' := 2509) hX dL_law_2508  rfl ?_
  refine r_sld (pc' := 2510) hX dL_law_2509 hScr (by omega) hL9 rfl ?_
  refine r_i2cA (pc' := 2511) hX dL_law_2510 rfl ?_
  refine V_call (k' := k0 + 1) (n' := n0 + 150) (pc' := 2514) (wr := ([(o, .inl (cy 6, aL 1 fl1)), (od, .inl (cy 7, aD 1 fd))] ++ ws1)) hX (r_runV (As := [.int (nI (ch16 (xs (i + 1))))]) hX dL_law_2511 k_L_315 (fun l9 hl9 => cMw_type hM (ch16_lt (xs (i + 1)))) hG (MS_recv hM) rfl rfl (Nat.le_of_ble_eq_true rfl) (by decide) (by decide) (by omega) (by omega)) (LW_m) (by omega) (by omega) rfl (fun w9 u97 hp9 => ?_)
  obtain ⟨rfl, hu97⟩ := hp9
  change V X (k0 + 1) (n0 + 150) (u97 ++ ([(o, .inl (cy 6, aL 1 fl1)), (od, .inl (cy 7, aD 1 fd))] ++ ws1)) [some (.ref b), some (.ref f), some (.ref (ma 0)), some (.ref o), some (.ref od), some (.int (nI i)), some (.int (nI (kd 0 1 2 0 0 (qType S (ch16 (xs (i + 1))))))), none, none] [.int (mvl (qType S (ch16 (xs (i + 1)))))] 2514
  refine V_perm (LW_m.symm) ?_
  refine r_istore (L' := [some (.ref b), some (.ref f), some (.ref (ma 0)), some (.ref o), some (.ref od), some (.int (nI i)), some (.int (nI (kd 0 1 2 0 0 (qType S (ch16 (xs (i + 1))))))), some (.int (mvl (qType S (ch16 (xs (i + 1)))))), none]) (pc' := 2516) hX dL_law_2514 (nlt hnL (by decide)) rfl rfl rfl ?_
  refine r_aload_n (pc' := 2517) hX dL_law_2516 rfl rfl ?_
  refine V_call (k' := k0 + 1) (n' := n0 + 150) (pc' := 2520) (wr := ([(o, .inl (cy 6, aL 1 fl1)), (od, .inl (cy 7, aD 1 fd))] ++ ws1)) hX (r_runV (As := []) hX dL_law_2517 k_L_163 (fun l9 hl9 => cMw_thrown hu97) hG (MS_recv hu97) rfl rfl (Nat.le_of_ble_eq_true rfl) (by decide) (by decide) (by omega) (by omega)) (LW_m) (by omega) (by omega) rfl (fun w9 u98 hp9 => ?_)
  obtain ⟨rfl, hu98⟩ := hp9
  change V X (k0 + 1) (n0 + 150) (u98 ++ ([(o, .inl (cy 6, aL 1 fl1)), (od, .inl (cy 7, aD 1 fd))] ++ ws1)) [some (.ref b), some (.ref f), some (.ref (ma 0)), some (.ref o), some (.ref od), some (.int (nI i)), some (.int (nI (kd 0 1 2 0 0 (qType S (ch16 (xs (i + 1))))))), some (.int (mvl (qType S (ch16 (xs (i + 1)))))), none] [.int (nI (kd 0 1 2 0 0 (qType S (ch16 (xs (i + 1))))))] 2520
  refine V_perm (LW_m.symm) ?_
  refine r_iload (pc' := 2522) hX dL_law_2520 rfl rfl ?_
  have hkd := kd_lt (a := 0) (b := 1) (c := 2) (d := 0) (e := 0) (x := qType S (ch16 (xs (i + 1)))) rfl
  refine r_icmp_eq_N (tgt := 2527) (pc' := 2525) hX dL_law_2522 (by decide) rfl (by omega) (by omega) (fun c2522 => ?_) (fun c2522 => ?_)
  · refine r_iload (pc' := 2529) hX dL_law_2527 rfl rfl ?_
    refine r_if_ne_N (tgt := 2544) (pc' := 2532) hX dL_law_2529 (by decide) rfl (by omega) (fun c2529 => ?_) (fun c2529 => ?_)
    · have hq1 : (qType S (ch16 (xs (i + 1)))).toInt < 0 := by
        refine Classical.byContradiction fun h9 => c2529 (kd_pos (by omega))
      have hF1 := hN1 hq1
      refine r_goto (tgt := 2780) hX dL_law_2544 (by decide) ?_
      refine V_loc (L' := [some (.ref b), some (.ref f), some (.ref (ma 0)), some (.ref o), some (.ref od), some (.int (nI i)), none, none, none]) (lo_w ⟨.inr rfl, .inr rfl, .inr rfl, .inr rfl, .inr rfl, .inr rfl, .inl rfl, .inl rfl, .inr rfl, trivial⟩) ?_
      refine V_widen (k' := k0 + 23) (n' := n0 + 3450) (by omega) (by omega) ?_
      exact cont (aType S (ch16 (xs (i + 1)))) _ _ _ _ _ (by rw [type_no hq1]; exact hF1) hu98 (hA.type.mono (by omega))
    · have hq0 : 0 ≤ (qType S (ch16 (xs (i + 1)))).toInt := by
        rcases hq9 with h9 | h9 | h9
        · exact h9
        · rw [h9] at c2529; exact absurd c2529 (by decide)
        · rw [h9] at c2529; exact absurd c2529 (by decide)
      obtain ⟨hF1, hfl1⟩ := hP1 hq0
      refine r_aload_n (pc' := 2533) hX dL_law_2532 rfl rfl ?_
      refine r_iconst (pc' := 2534) (v := nI 0) hX dL_law_2533 rfl rfl ?_
      refine r_lald (pc' := 2535) hX dL_law_2534 (by rw [hcy]) 0 rfl rfl ?_
      rw [hfl1]
      change V X (k0 + 1) (n0 + 150) (LW cy o od fl1 fd ws1 u98) [some (.ref b), some (.ref f), some (.ref (ma 0)), some (.ref o), some (.ref od), some (.int (nI i)), some (.int (nI (kd 0 1 2 0 0 (qType S (ch16 (xs (i + 1))))))), some (.int (mvl (qType S (ch16 (xs (i + 1)))))), none] [.long ((qType S (ch16 (xs (i + 1)))).toInt64)] 2535
      refine r_iload (pc' := 2537) hX dL_law_2535 rfl rfl ?_
      rw [mvl_pos hq0]
      refine r_i2l (pc' := 2538) hX dL_law_2537 rfl rfl ?_
      refine r_lcmp0 (pc' := 2539) hX dL_law_2538 rfl ?_
      refine r_if_eq_N (tgt := 2544) (pc' := 2542) hX dL_law_2539 (by decide) rfl (by omega) (fun c2539 => ?_) (fun c2539 => ?_)
      · refine r_goto (tgt := 2780) hX dL_law_2544 (by decide) ?_
        refine V_loc (L' := [some (.ref b), some (.ref f), some (.ref (ma 0)), some (.ref o), some (.ref od), some (.int (nI i)), none, none, none]) (lo_w ⟨.inr rfl, .inr rfl, .inr rfl, .inr rfl, .inr rfl, .inr rfl, .inl rfl, .inl rfl, .inr rfl, trivial⟩) ?_
        refine V_widen (k' := k0 + 23) (n' := n0 + 3450) (by omega) (by omega) ?_
        exact cont (aType S (ch16 (xs (i + 1)))) _ _ _ _ _ (hF1) hu98 (hA.type.mono (by omega))
      · exact absurd c2539 (by omega)
  · exact absurd c2522 (by omega)

set_option maxRecDepth 20000 in
set_option maxHeartbeats 1000000 in
theorem lc_27 {X : xC} {l : Launch} {D : va_G} {cy : Nat → ClassId} {sa : Nat → Nat} {mc ms k0 n0 f o od b L9 i K t : Nat} {ma : Nat → Nat} {xs : Nat → Int32} {S : AS} {fl : Nat → Int64} {fd : Nat → UInt64} {wf wm : va_W} (hX : Ok SF X cL_law RL 16 mc ms) (hG : c0_G X = (D, cy, sa)) (hcy : c0_cy X = cy) (hnL : c0_nL X = 9) (hl : c0_l X = l) (hst : l.stackTraces = false) (hScr : Scr X b L9 xs) (hi : i + 4 ≤ L9) (hL9 : L9 ≤ 2048) (hF : FS cy f S wf) (hM : MS cy ma S t wm) (hA : AJ K S) (hK : K + 61 ≤ 100000) (hk : k0 + 23 ≤ mc) (hn : n0 + 3450 ≤ ms) (cont : ∀ (S1 : AS) (t1 : Nat) (fl1 : Nat → Int64) (fd1 : Nat → UInt64) (wf1 wm1 : va_W), FS cy f S1 wf1 → MS cy ma S1 t1 wm1 → AJ (K + 61) S1 → V X (k0 + 23) (n0 + 3450) (LW cy o od fl1 fd1 wf1 wm1) [some (.ref b), some (.ref f), some (.ref (ma 0)), some (.ref o), some (.ref od), some (.int (nI i)), none, none, none] [] 2780) : V X k0 n0 (LW cy o od fl fd wf wm) [some (.ref b), some (.ref f), some (.ref (ma 0)), some (.ref o), some (.ref od), some (.int (nI i)), none, none, none] [] 1658 := by
  have hv : Wf S.1 := hA.1.1.1.1
  have hInv : Inv K S.1 := hA.1.1.1
  have hFB := hA.1.1.2
  have hq9 : 0 ≤ ((if plc S.1 (xs (i + 1)).toInt < S.1 0 4 then (0 : Int32) else -5)).toInt ∨ ((if plc S.1 (xs (i + 1)).toInt < S.1 0 4 then (0 : Int32) else -5)) = -5 := qW_q
  have hkk : kd 0 0 0 0 1 (if plc S.1 (xs (i + 1)).toInt < S.1 0 4 then (0 : Int32) else -5) = (if plc S.1 (xs (i + 1)).toInt < S.1 0 4 then 0 else 1) := by
    by_cases h9 : plc S.1 (xs (i + 1)).toInt < S.1 0 4
    · rw [if_pos h9, if_pos h9]; rfl
    · rw [if_neg h9, if_neg h9]; rfl
  refine r_aload_n (pc' := 1659) hX dL_law_1658 rfl rfl ?_
  refine r_aload_n (pc' := 1660) hX dL_law_1659 rfl rfl ?_
  refine r_iload (pc' := 1662) hX dL_law_1660 rfl rfl ?_
  refine r_iconst (pc' := 1663) (v := nI 1) hX dL_law_1662 rfl rfl ?_
  refine r_iadd_N (pc' := 1664) hX dL_law_1663  rfl ?_
  refine r_sld (pc' := 1665) hX dL_law_1664 hScr (by omega) hL9 rfl ?_
  refine r_aload_n (pc' := 1666) hX dL_law_1665 rfl rfl ?_
  refine V_call (k' := k0 + 1) (n' := n0 + 6) (pc' := 1669) (wr := ([(od, .inl (cy 7, aD 1 fd))] ++ wm)) hX (r_runSW (As := [.ref f, .int (xs (i + 1)), .ref o]) hX dL_law_1666 kw_L_251 (fun l9 hl9 => by cases hl9; exact cW_wouldPass (v := S.1) rfl hF hA.1 (hst := (by rw [hl]; exact hst)) (hq := hq9) ) hG rfl rfl (Nat.le_of_ble_eq_true rfl) (by decide) (by decide) (by omega) (by omega)) (LW_c) (by omega) (by omega) rfl (fun w9 u9 hp9 => ?_)
  obtain ⟨fl1, ws1, rfl, rfl, hP1, hN1⟩ := hp9
  rw [hkk]
  change V X (k0 + 1) (n0 + 6) (([(o, .inl (cy 6, aL 1 fl1))] ++ ws1) ++ ([(od, .inl (cy 7, aD 1 fd))] ++ wm)) [some (.ref b), some (.ref f), some (.ref (ma 0)), some (.ref o), some (.ref od), some (.int (nI i)), none, none, none] [.int (nI (if plc S.1 (xs (i + 1)).toInt < S.1 0 4 then 0 else 1))] 1669
  refine V_perm (LW_c.symm) ?_
  refine r_istore (L' := [some (.ref b), some (.ref f), some (.ref (ma 0)), some (.ref o), some (.ref od), some (.int (nI i)), some (.int (nI (if plc S.1 (xs (i + 1)).toInt < S.1 0 4 then 0 else 1))), none, none]) (pc' := 1671) hX dL_law_1669 (nlt hnL (by decide)) rfl rfl rfl ?_
  refine r_aload_n (pc' := 1672) hX dL_law_1671 rfl rfl ?_
  refine r_aload_n (pc' := 1673) hX dL_law_1672 rfl rfl ?_
  refine r_iload (pc' := 1675) hX dL_law_1673 rfl rfl ?_
  refine r_iconst (pc' := 1676) (v := nI 1) hX dL_law_1675 rfl rfl ?_
  refine r_iadd_N (pc' := 1677) hX dL_law_1676  rfl ?_
  refine r_sld (pc' := 1678) hX dL_law_1677 hScr (by omega) hL9 rfl ?_
  refine V_call (k' := k0 + 1) (n' := n0 + 6) (pc' := 1681) (wr := ([(o, .inl (cy 6, aL 1 fl1)), (od, .inl (cy 7, aD 1 fd))] ++ ws1)) hX (r_runV (As := [.int (xs (i + 1))]) hX dL_law_1678 k_L_253 (fun l9 hl9 => cMw_wouldPass (v := S.1) rfl hM hv (x := (xs (i + 1)))) hG (MS_recv hM) rfl rfl (Nat.le_of_ble_eq_true rfl) (by decide) (by decide) (by omega) (by omega)) (LW_m) (by omega) (by omega) rfl (fun w9 u99 hp9 => ?_)
  obtain ⟨rfl, hu99⟩ := hp9
  change V X (k0 + 1) (n0 + 6) (u99 ++ ([(o, .inl (cy 6, aL 1 fl1)), (od, .inl (cy 7, aD 1 fd))] ++ ws1)) [some (.ref b), some (.ref f), some (.ref (ma 0)), some (.ref o), some (.ref od), some (.int (nI i)), some (.int (nI (if plc S.1 (xs (i + 1)).toInt < S.1 0 4 then 0 else 1))), none, none] [.int (bI (plc S.1 (xs (i + 1)).toInt < S.1 0 4 ∧ pas (S.1 (21 + plc S.1 (xs (i + 1)).toInt)) (S.1 (13 + plc S.1 (xs (i + 1)).toInt) 2) (S.1 0 3) (S.1 0 2)))] 1681
  refine V_perm (LW_m.symm) ?_
  refine r_istore (L' := [some (.ref b), some (.ref f), some (.ref (ma 0)), some (.ref o), some (.ref od), some (.int (nI i)), some (.int (nI (if plc S.1 (xs (i + 1)).toInt < S.1 0 4 then 0 else 1))), some (.int (bI (plc S.1 (xs (i + 1)).toInt < S.1 0 4 ∧ pas (S.1 (21 + plc S.1 (xs (i + 1)).toInt)) (S.1 (13 + plc S.1 (xs (i + 1)).toInt) 2) (S.1 0 3) (S.1 0 2)))), none]) (pc' := 1683) hX dL_law_1681 (nlt hnL (by decide)) rfl rfl rfl ?_
  refine r_aload_n (pc' := 1684) hX dL_law_1683 rfl rfl ?_
  refine V_call (k' := k0 + 1) (n' := n0 + 6) (pc' := 1687) (wr := ([(o, .inl (cy 6, aL 1 fl1)), (od, .inl (cy 7, aD 1 fd))] ++ ws1)) hX (r_runV (As := []) hX dL_law_1684 k_L_163 (fun l9 hl9 => cMw_thrown hu99) hG (MS_recv hu99) rfl rfl (Nat.le_of_ble_eq_true rfl) (by decide) (by decide) (by omega) (by omega)) (LW_m) (by omega) (by omega) rfl (fun w9 u100 hp9 => ?_)
  obtain ⟨rfl, hu100⟩ := hp9
  change V X (k0 + 1) (n0 + 6) (u100 ++ ([(o, .inl (cy 6, aL 1 fl1)), (od, .inl (cy 7, aD 1 fd))] ++ ws1)) [some (.ref b), some (.ref f), some (.ref (ma 0)), some (.ref o), some (.ref od), some (.int (nI i)), some (.int (nI (if plc S.1 (xs (i + 1)).toInt < S.1 0 4 then 0 else 1))), some (.int (bI (plc S.1 (xs (i + 1)).toInt < S.1 0 4 ∧ pas (S.1 (21 + plc S.1 (xs (i + 1)).toInt)) (S.1 (13 + plc S.1 (xs (i + 1)).toInt) 2) (S.1 0 3) (S.1 0 2)))), none] [.int (nI (if plc S.1 (xs (i + 1)).toInt < S.1 0 4 then 0 else 1))] 1687
  refine V_perm (LW_m.symm) ?_
  refine r_iload (pc' := 1689) hX dL_law_1687 rfl rfl ?_
  have hkd := (show (if plc S.1 (xs (i + 1)).toInt < S.1 0 4 then 0 else 1) < 100 from by split <;> decide)
  refine r_icmp_eq_N (tgt := 1694) (pc' := 1692) hX dL_law_1689 (by decide) rfl (by omega) (by omega) (fun c1689 => ?_) (fun c1689 => ?_)
  · refine r_iload (pc' := 1696) hX dL_law_1694 rfl rfl ?_
    refine r_if_ne_N (tgt := 1718) (pc' := 1699) hX dL_law_1696 (by decide) rfl (by omega) (fun c1696 => ?_) (fun c1696 => ?_)
    · have hq1 : (if plc S.1 (xs (i + 1)).toInt < S.1 0 4 then (0 : Int32) else -5).toInt < 0 := by
        have hp9 : ¬ (plc S.1 (xs (i + 1)).toInt < S.1 0 4) := fun h9 => c1696 (if_pos h9)
        rw [if_neg hp9]; decide
      have hF1 := hN1 hq1
      refine r_goto (tgt := 2780) hX dL_law_1718 (by decide) ?_
      refine V_loc (L' := [some (.ref b), some (.ref f), some (.ref (ma 0)), some (.ref o), some (.ref od), some (.int (nI i)), none, none, none]) (lo_w ⟨.inr rfl, .inr rfl, .inr rfl, .inr rfl, .inr rfl, .inr rfl, .inl rfl, .inl rfl, .inr rfl, trivial⟩) ?_
      refine V_widen (k' := k0 + 23) (n' := n0 + 3450) (by omega) (by omega) ?_
      exact cont (S) _ _ _ _ _ (hF1) hu100 (hA.mono (by omega))
    · have hp9 : plc S.1 (xs (i + 1)).toInt < S.1 0 4 := by
        refine Classical.byContradiction fun h9 => ?_
        rw [if_neg h9] at c1696
        exact absurd c1696 (by decide)
      have hq0 : 0 ≤ (if plc S.1 (xs (i + 1)).toInt < S.1 0 4 then (0 : Int32) else -5).toInt := by rw [if_pos hp9]; decide
      obtain ⟨hF1, hfl1⟩ := hP1 hq0
      refine r_aload_n (pc' := 1700) hX dL_law_1699 rfl rfl ?_
      refine r_iconst (pc' := 1701) (v := nI 0) hX dL_law_1700 rfl rfl ?_
      refine r_lald (pc' := 1702) hX dL_law_1701 (by rw [hcy]) 0 rfl rfl ?_
      change V X (k0 + 1) (n0 + 6) (LW cy o od fl1 fd ws1 u100) [some (.ref b), some (.ref f), some (.ref (ma 0)), some (.ref o), some (.ref od), some (.int (nI i)), some (.int (nI (if plc S.1 (xs (i + 1)).toInt < S.1 0 4 then 0 else 1))), some (.int (bI (plc S.1 (xs (i + 1)).toInt < S.1 0 4 ∧ pas (S.1 (21 + plc S.1 (xs (i + 1)).toInt)) (S.1 (13 + plc S.1 (xs (i + 1)).toInt) 2) (S.1 0 3) (S.1 0 2)))), none] [.long (fl1 0)] 1702
      refine r_iload (pc' := 1704) hX dL_law_1702 rfl rfl ?_
      refine r_if_eq_B (tgt := 1711) (pc' := 1707) hX dL_law_1704 (by decide) rfl (fun c1704 => ?_) (fun c1704 => ?_)
      · refine r_lconst (pc' := 1712) (v := 0) hX dL_law_1711 rfl rfl ?_
        rw [show fl1 0 = 0 from by rw [hfl1]; exact if_neg (fun z8 => c1704 ⟨hp9, z8⟩)]
        refine r_lcmp0 (pc' := 1713) hX dL_law_1712 rfl ?_
        refine r_if_eq_N (tgt := 1718) (pc' := 1716) hX dL_law_1713 (by decide) rfl (by omega) (fun c1713 => ?_) (fun c1713 => ?_)
        · refine r_goto (tgt := 2780) hX dL_law_1718 (by decide) ?_
          refine V_loc (L' := [some (.ref b), some (.ref f), some (.ref (ma 0)), some (.ref o), some (.ref od), some (.int (nI i)), none, none, none]) (lo_w ⟨.inr rfl, .inr rfl, .inr rfl, .inr rfl, .inr rfl, .inr rfl, .inl rfl, .inl rfl, .inr rfl, trivial⟩) ?_
          refine V_widen (k' := k0 + 23) (n' := n0 + 3450) (by omega) (by omega) ?_
          exact cont (S) _ _ _ _ _ (hF1) hu100 (hA.mono (by omega))
        · exact absurd c1713 (by omega)
      · refine r_lconst (pc' := 1708) (v := 1) hX dL_law_1707 rfl rfl ?_
        refine r_goto (tgt := 1712) hX dL_law_1708 (by decide) ?_
        rw [show fl1 0 = 1 from by rw [hfl1]; exact if_pos ((c1704).2)]
        refine r_lcmp0 (pc' := 1713) hX dL_law_1712 rfl ?_
        refine r_if_eq_N (tgt := 1718) (pc' := 1716) hX dL_law_1713 (by decide) rfl (by omega) (fun c1713 => ?_) (fun c1713 => ?_)
        · refine r_goto (tgt := 2780) hX dL_law_1718 (by decide) ?_
          refine V_loc (L' := [some (.ref b), some (.ref f), some (.ref (ma 0)), some (.ref o), some (.ref od), some (.int (nI i)), none, none, none]) (lo_w ⟨.inr rfl, .inr rfl, .inr rfl, .inr rfl, .inr rfl, .inr rfl, .inl rfl, .inl rfl, .inr rfl, trivial⟩) ?_
          refine V_widen (k' := k0 + 23) (n' := n0 + 3450) (by omega) (by omega) ?_
          exact cont (S) _ _ _ _ _ (hF1) hu100 (hA.mono (by omega))
        · exact absurd c1713 (by omega)
  · exact absurd c1689 (by omega)
