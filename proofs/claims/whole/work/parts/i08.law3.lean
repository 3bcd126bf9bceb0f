theorem MS_len {cy : Nat → ClassId} {ma : Nat → Nat} {S : AS} {t : Nat} {u : va_W} (h : MS cy ma S t u) : S.2.1.length ≤ 8 ∧ S.2.2.2.2.1.length ≤ 60 := by
  obtain ⟨r, e, g, bf, hy, sv, bu, le, pa, -, -, -, -, h8, -, -, -, ho, -⟩ := h
  exact ⟨h8, ho.2.1⟩
theorem rb_no {S : AS} {x : Int32} (hv : Wf S.1) (h : (qRb S.1 x).toInt < 0) : aRb S x = S := by
  unfold aRb
  rw [if_neg]
  intro q
  obtain ⟨⟨b1, b2⟩, b3, b4, b5, b6, b7⟩ := hv.2.2.2.2.2.2.1 _ q
  have := btT_len (v := S.1) (p := plc S.1 x.toInt) (n := S.1 (13 + plc S.1 x.toInt) 2) (fun k hk => Nat.lt_succ_of_le (b7 k hk)) _ (Nat.le_refl _)
  unfold qRb at h
  rw [if_pos q, nI_I (by omega)] at h
  omega
theorem undo_no {S : AS} (h8 : S.2.1.length ≤ 8) (h : (qUndo S).toInt < 0) : aUndo S = S := by
  obtain ⟨v, us, r⟩ := S
  cases us with
  | nil => rfl
  | cons a us =>
    have h8 : us.length + 1 ≤ 8 := h8
    have h : (nI us.length).toInt < 0 := h
    rw [nI_I (by omega)] at h
    omega
theorem rest_no {S : AS} (hw : ∀ s, S.2.2.1 = some s → Wf s) (h : (qRest S).toInt < 0) : aRest S = S := by
  obtain ⟨v, us, sn, r⟩ := S
  cases sn with
  | none => rfl
  | some s =>
    have h9 := (hw s rfl).2.2.1
    have h : (nI (s 0 4)).toInt < 0 := h
    rw [nI_I (by omega)] at h
    omega
set_option maxRecDepth 20000 in
set_option maxHeartbeats 1000000 in
theorem lc_42 {X : xC} {l : Launch} {D : va_G} {cy : Nat → ClassId} {sa : Nat → Nat} {mc ms k0 n0 f o od b L9 i K t : Nat} {ma : Nat → Nat} {xs : Nat → Int32} {S : AS} {fl : Nat → Int64} {fd : Nat → UInt64} {wf wm : va_W} (hX : Ok SF X cL_law RL 16 mc ms) (hG : c0_G X = (D, cy, sa)) (hcy : c0_cy X = cy) (hnL : c0_nL X = 9) (hl : c0_l X = l) (hst : l.stackTraces = false) (hScr : Scr X b L9 xs) (hi : i + 4 ≤ L9) (hL9 : L9 ≤ 2048) (hF : FS cy f S wf) (hM : MS cy ma S t wm) (hA : AJ K S) (hK : K + 61 ≤ 100000) (hk : k0 + 23 ≤ mc) (hn : n0 + 3450 ≤ ms) (cont : ∀ (S1 : AS) (t1 : Nat) (fl1 : Nat → Int64) (fd1 : Nat → UInt64) (wf1 wm1 : va_W), FS cy f S1 wf1 → MS cy ma S1 t1 wm1 → AJ (K + 61) S1 → V X (k0 + 23) (n0 + 3450) (LW cy o od fl1 fd1 wf1 wm1) [some (.ref b), some (.ref f), some (.ref (ma 0)), some (.ref o), some (.ref od), some (.int (nI i)), none, none, none] [] 2780) : V X k0 n0 (LW cy o od fl fd wf wm) [some (.ref b), some (.ref f), some (.ref (ma 0)), some (.ref o), some (.ref od), some (.int (nI i)), none, none, none] [] 2364 := by
  have hv : Wf S.1 := hA.1.1.1.1
  have hInv : Inv K S.1 := hA.1.1.1
  have hFB := hA.1.1.2
  have hq9 : 0 ≤ (qRb S.1 (xs (i + 1))).toInt ∨ (qRb S.1 (xs (i + 1))) = -5 := qRb_q hv
  have hkk : kd 0 0 0 0 1 (qRb S.1 (xs (i + 1))) = kd 1 1 1 1 1 (qRb S.1 (xs (i + 1))) := by
    rcases hq9 with h9 | h9
    · rw [kd_pos h9, kd_pos h9]
    · rw [h9]; rfl
  have hnb : ∀ j, j < S.1 0 4 → S.1 (13 + j) 0 < 100000 := fun j hj => by
    have h9 := (hInv.2.2.2.2.2.2 j hj).1
    have h8 := hInv.2.2.2.2.1
    omega
  refine r_aload_n (pc' := 2365) hX dL_law_2364 rfl rfl ?_
  refine r_aload_n (pc' := 2366) hX dL_law_2365 rfl rfl ?_
  refine r_iload (pc' := 2368) hX dL_law_2366 rfl rfl ?_
  refine r_iconst (pc' := 2369) (v := nI 1) hX dL_law_2368 rfl rfl ?_
  refine r_iadd_N (pc' := 2370) hX dL_law_2369  rfl ?_
  refine r_sld (pc' := 2371) hX dL_law_2370 hScr (by omega) hL9 rfl ?_
  refine r_aload_n (pc' := 2372) hX dL_law_2371 rfl rfl ?_
  refine V_call (k' := k0 + 23) (n' := n0 + 3306) (pc' := 2375) (wr := ([(od, .inl (cy 7, aD 1 fd))] ++ wm)) hX (r_runSW (As := [.ref f, .int (xs (i + 1)), .ref o]) hX dL_law_2372 kw_L_302 (fun l9 hl9 => by cases hl9; exact cW_renderBatch (v := S.1) rfl hF hA.1 (hst := (by rw [hl]; exact hst)) (hq := hq9) (hK := (by omega))) hG rfl rfl (Nat.le_of_ble_eq_true rfl) (by decide) (by decide) (by omega) (by omega)) (LW_c) (by omega) (by omega) rfl (fun w9 u9 hp9 => ?_)
  obtain ⟨fl1, ws1, rfl, rfl, hP1, hN1⟩ := hp9
  rw [hkk]
  change V X (k0 + 23) (n0 + 3306) (([(o, .inl (cy 6, aL 1 fl1))] ++ ws1) ++ ([(od, .inl (cy 7, aD 1 fd))] ++ wm)) [some (.ref b), some (.ref f), some (.ref (ma 0)), some (.ref o), some (.ref od), some (.int (nI i)), none, none, none] [.int (nI (kd 1 1 1 1 1 (qRb S.1 (xs (i + 1)))))] 2375
  refine V_perm (LW_c.symm) ?_
  refine r_istore (L' := [some (.ref b), some (.ref f), some (.ref (ma 0)), some (.ref o), some (.ref od), some (.int (nI i)), some (.int (nI (kd 1 1 1 1 1 (qRb S.1 (xs (i + 1)))))), none, none]) (pc' := 2377) hX dL_law_2375 (nlt hnL (by decide)) rfl rfl rfl ?_
  refine r_aload_n (pc' := 2378) hX dL_law_2377 rfl rfl ?_
  refine r_aload_n (pc' := 2379) hX dL_law_2378 rfl rfl ?_
  refine r_iload (pc' := 2381) hX dL_law_2379 rfl rfl ?_
  refine r_iconst (pc' := 2382) (v := nI 1) hX dL_law_2381 rfl rfl ?_
  refine r_iadd_N (pc' := 2383) hX dL_law_2382  rfl ?_
  refine r_sld (pc' := 2384) hX dL_law_2383 hScr (by omega) hL9 rfl ?_
  refine V_call (k' := k0 + 23) (n' := n0 + 3306) (pc' := 2387) (wr := ([(o, .inl (cy 6, aL 1 fl1)), (od, .inl (cy 7, aD 1 fd))] ++ ws1)) hX (r_runV (As := [.int (xs (i + 1))]) hX dL_law_2384 k_L_304 (fun l9 hl9 => cMw_renderBatch (v := S.1) rfl hM hv (x := (xs (i + 1))) (hnb := hnb)) hG (MS_recv hM) rfl rfl (Nat.le_of_ble_eq_true rfl) (by decide) (by decide) (by omega) (by omega)) (LW_m) (by omega) (by omega) rfl (fun w9 u55 hp9 => ?_)
  obtain ⟨rfl, hu55⟩ := hp9
  change V X (k0 + 23) (n0 + 3306) (u55 ++ ([(o, .inl (cy 6, aL 1 fl1)), (od, .inl (cy 7, aD 1 fd))] ++ ws1)) [some (.ref b), some (.ref f), some (.ref (ma 0)), some (.ref o), some (.ref od), some (.int (nI i)), some (.int (nI (kd 1 1 1 1 1 (qRb S.1 (xs (i + 1)))))), none, none] [.int (mvl (qRb S.1 (xs (i + 1))))] 2387
  refine V_perm (LW_m.symm) ?_
  refine r_istore (L' := [some (.ref b), some (.ref f), some (.ref (ma 0)), some (.ref o), some (.ref od), some (.int (nI i)), some (.int (nI (kd 1 1 1 1 1 (qRb S.1 (xs (i + 1)))))), some (.int (mvl (qRb S.1 (xs (i + 1))))), none]) (pc' := 2389) hX dL_law_2387 (nlt hnL (by decide)) rfl rfl rfl ?_
  refine r_aload_n (pc' := 2390) hX dL_law_2389 rfl rfl ?_
  refine V_call (k' := k0 + 23) (n' := n0 + 3306) (pc' := 2393) (wr := ([(o, .inl (cy 6, aL 1 fl1)), (od, .inl (cy 7, aD 1 fd))] ++ ws1)) hX (r_runV (As := []) hX dL_law_2390 k_L_163 (fun l9 hl9 => cMw_thrown hu55) hG (MS_recv hu55) rfl rfl (Nat.le_of_ble_eq_true rfl) (by decide) (by decide) (by omega) (by omega)) (LW_m) (by omega) (by omega) rfl (fun w9 u56 hp9 => ?_)
  obtain ⟨rfl, hu56⟩ := hp9
  change V X (k0 + 23) (n0 + 3306) (u56 ++ ([(o, .inl (cy 6, aL 1 fl1)), (od, .inl (cy 7, aD 1 fd))] ++ ws1)) [some (.ref b), some (.ref f), some (.ref (ma 0)), some (.ref o), some (.ref od), some (.int (nI i)), some (.int (nI (kd 1 1 1 1 1 (qRb S.1 (xs (i + 1)))))), some (.int (mvl (qRb S.1 (xs (i + 1))))), none] [.int (nI (kd 1 1 1 1 1 (qRb S.1 (xs (i + 1)))))] 2393
  refine V_perm (LW_m.symm) ?_
  refine r_iload (pc' := 2395) hX dL_law_2393 rfl rfl ?_
  have hkd := kd_lt (a := 1) (b := 1) (c := 1) (d := 1) (e := 1) (x := qRb S.1 (xs (i + 1))) rfl
  refine r_icmp_eq_N (tgt := 2400) (pc' := 2398) hX dL_law_2395 (by decide) rfl (by omega) (by omega) (fun c2395 => ?_) (fun c2395 => ?_)
  · refine r_iload (pc' := 2402) hX dL_law_2400 rfl rfl ?_
    refine r_if_ne_N (tgt := 2417) (pc' := 2405) hX dL_law_2402 (by decide) rfl (by omega) (fun c2402 => ?_) (fun c2402 => ?_)
    · have hq1 : (qRb S.1 (xs (i + 1))).toInt < 0 := by
        refine Classical.byContradiction fun h9 => c2402 (kd_pos (by omega))
      have hF1 := hN1 hq1
      refine r_goto (tgt := 2780) hX dL_law_2417 (by decide) ?_
      refine V_loc (L' := [some (.ref b), some (.ref f), some (.ref (ma 0)), some (.ref o), some (.ref od), some (.int (nI i)), none, none, none]) (lo_w ⟨.inr rfl, .inr rfl, .inr rfl, .inr rfl, .inr rfl, .inr rfl, .inl rfl, .inl rfl, .inr rfl, trivial⟩) ?_
      refine V_widen (k' := k0 + 23) (n' := n0 + 3450) (by omega) (by omega) ?_
      exact cont (aRb S (xs (i + 1))) _ _ _ _ _ (by rw [rb_no hv hq1]; exact hF1) hu56 (hA.rb.mono (by omega))
    · have hq0 : 0 ≤ (qRb S.1 (xs (i + 1))).toInt := by
        rcases hq9 with h9 | h9
        · exact h9
        · rw [h9] at c2402; exact absurd c2402 (by decide)
      obtain ⟨hF1, hfl1⟩ := hP1 hq0
      refine r_aload_n (pc' := 2406) hX dL_law_2405 rfl rfl ?_
      refine r_iconst (pc' := 2407) (v := nI 0) hX dL_law_2406 rfl rfl ?_
      refine r_lald (pc' := 2408) hX dL_law_2407 (by rw [hcy]) 0 rfl rfl ?_
      rw [hfl1]
      change V X (k0 + 23) (n0 + 3306) (LW cy o od fl1 fd ws1 u56) [some (.ref b), some (.ref f), some (.ref (ma 0)), some (.ref o), some (.ref od), some (.int (nI i)), some (.int (nI (kd 1 1 1 1 1 (qRb S.1 (xs (i + 1)))))), some (.int (mvl (qRb S.1 (xs (i + 1))))), none] [.long ((qRb S.1 (xs (i + 1))).toInt64)] 2408
      refine r_iload (pc' := 2410) hX dL_law_2408 rfl rfl ?_
      rw [mvl_pos hq0]
      refine r_i2l (pc' := 2411) hX dL_law_2410 rfl rfl ?_
      refine r_lcmp0 (pc' := 2412) hX dL_law_2411 rfl ?_
      refine r_if_eq_N (tgt := 2417) (pc' := 2415) hX dL_law_2412 (by decide) rfl (by omega) (fun c2412 => ?_) (fun c2412 => ?_)
      · refine r_goto (tgt := 2780) hX dL_law_2417 (by decide) ?_
        refine V_loc (L' := [some (.ref b), some (.ref f), some (.ref (ma 0)), some (.ref o), some (.ref od), some (.int (nI i)), none, none, none]) (lo_w ⟨.inr rfl, .inr rfl, .inr rfl, .inr rfl, .inr rfl, .inr rfl, .inl rfl, .inl rfl, .inr rfl, trivial⟩) ?_
        refine V_widen (k' := k0 + 23) (n' := n0 + 3450) (by omega) (by omega) ?_
        exact cont (aRb S (xs (i + 1))) _ _ _ _ _ (hF1) hu56 (hA.rb.mono (by omega))
      · exact absurd c2412 (by omega)
  · exact absurd c2395 (by omega)

set_option maxRecDepth 20000 in
set_option maxHeartbeats 1000000 in
theorem lc_44 {X : xC} {l : Launch} {D : va_G} {cy : Nat → ClassId} {sa : Nat → Nat} {mc ms k0 n0 f o od b L9 i K t : Nat} {ma : Nat → Nat} {xs : Nat → Int32} {S : AS} {fl : Nat → Int64} {fd : Nat → UInt64} {wf wm : va_W} (hX : Ok SF X cL_law RL 16 mc ms) (hG : c0_G X = (D, cy, sa)) (hcy : c0_cy X = cy) (hnL : c0_nL X = 9) (hl : c0_l X = l) (hst : l.stackTraces = false) (hScr : Scr X b L9 xs) (hi : i + 4 ≤ L9) (hL9 : L9 ≤ 2048) (hF : FS cy f S wf) (hM : MS cy ma S t wm) (hA : AJ K S) (hK : K + 61 ≤ 100000) (hk : k0 + 23 ≤ mc) (hn : n0 + 3450 ≤ ms) (cont : ∀ (S1 : AS) (t1 : Nat) (fl1 : Nat → Int64) (fd1 : Nat → UInt64) (wf1 wm1 : va_W), FS cy f S1 wf1 → MS cy ma S1 t1 wm1 → AJ (K + 61) S1 → V X (k0 + 23) (n0 + 3450) (LW cy o od fl1 fd1 wf1 wm1) [some (.ref b), some (.ref f), some (.ref (ma 0)), some (.ref o), some (.ref od), some (.int (nI i)), none, none, none] [] 2780) : V X k0 n0 (LW cy o od fl fd wf wm) [some (.ref b), some (.ref f), some (.ref (ma 0)), some (.ref o), some (.ref od), some (.int (nI i)), none, none, none] [] 2433 := by
  have hv : Wf S.1 := hA.1.1.1.1
  have hInv : Inv K S.1 := hA.1.1.1
  have hFB := hA.1.1.2
  have hq9 : 0 ≤ (qOut S (xs (i + 1))).toInt ∨ (qOut S (xs (i + 1))) = -1 := qOut_q hA.2.1 (Nat.le_trans (MS_len hM).2 (by decide))
  have hkk : kd 1 0 0 0 0 (qOut S (xs (i + 1))) = kd 1 1 1 1 1 (qOut S (xs (i + 1))) := by
    rcases hq9 with h9 | h9
    · rw [kd_pos h9, kd_pos h9]
    · rw [h9]; rfl
  refine r_aload_n (pc' := 2434) hX dL_law_2433 rfl rfl ?_
  refine r_aload_n (pc' := 2435) hX dL_law_2434 rfl rfl ?_
  refine r_iload (pc' := 2437) hX dL_law_2435 rfl rfl ?_
  refine r_iconst (pc' := 2438) (v := nI 1) hX dL_law_2437 rfl rfl ?_
  refine r_iadd_N (pc' := 2439) hX dL_law_2438  rfl ?_
  refine r_sld (pc' := 2440) hX dL_law_2439 hScr (by omega) hL9 rfl ?_
  refine r_aload_n (pc' := 2441) hX dL_law_2440 rfl rfl ?_
  refine V_call (k' := k0 + 1) (n' := n0 + 6) (pc' := 2444) (wr := ([(od, .inl (cy 7, aD 1 fd))] ++ wm)) hX (r_runSW (As := [.ref f, .int (xs (i + 1)), .ref o]) hX dL_law_2441 kw_L_309 (fun l9 hl9 => by cases hl9; exact cW_outputAt (v := S.1) rfl hF hA.1 (hst := (by rw [hl]; exact hst)) (hq := hq9) ) hG rfl rfl (Nat.le_of_ble_eq_true rfl) (by decide) (by decide) (by omega) (by omega)) (LW_c) (by omega) (by omega) rfl (fun w9 u9 hp9 => ?_)
  obtain ⟨fl1, ws1, rfl, rfl, hP1, hN1⟩ := hp9
  rw [hkk]
  change V X (k0 + 1) (n0 + 6) (([(o, .inl (cy 6, aL 1 fl1))] ++ ws1) ++ ([(od, .inl (cy 7, aD 1 fd))] ++ wm)) [some (.ref b), some (.ref f), some (.ref (ma 0)), some (.ref o), some (.ref od), some (.int (nI i)), none, none, none] [.int (nI (kd 1 1 1 1 1 (qOut S (xs (i + 1)))))] 2444
  refine V_perm (LW_c.symm) ?_
  refine r_istore (L' := [some (.ref b), some (.ref f), some (.ref (ma 0)), some (.ref o), some (.ref od), some (.int (nI i)), some (.int (nI (kd 1 1 1 1 1 (qOut S (xs (i + 1)))))), none, none]) (pc' := 2446) hX dL_law_2444 (nlt hnL (by decide)) rfl rfl rfl ?_
  refine r_aload_n (pc' := 2447) hX dL_law_2446 rfl rfl ?_
  refine r_aload_n (pc' := 2448) hX dL_law_2447 rfl rfl ?_
  refine r_iload (pc' := 2450) hX dL_law_2448 rfl rfl ?_
  refine r_iconst (pc' := 2451) (v := nI 1) hX dL_law_2450 rfl rfl ?_
  refine r_iadd_N (pc' := 2452) hX dL_law_2451  rfl ?_
  refine r_sld (pc' := 2453) hX dL_law_2452 hScr (by omega) hL9 rfl ?_
  refine V_call (k' := k0 + 1) (n' := n0 + 6) (pc' := 2456) (wr := ([(o, .inl (cy 6, aL 1 fl1)), (od, .inl (cy 7, aD 1 fd))] ++ ws1)) hX (r_runV (As := [.int (xs (i + 1))]) hX dL_law_2453 k_L_311 (fun l9 hl9 => cMw_outputAt hM (x := (xs (i + 1))) (hO9 := hA.2.1)) hG (MS_recv hM) rfl rfl (Nat.le_of_ble_eq_true rfl) (by decide) (by decide) (by omega) (by omega)) (LW_m) (by omega) (by omega) rfl (fun w9 u57 hp9 => ?_)
  obtain ⟨rfl, hu57⟩ := hp9
  change V X (k0 + 1) (n0 + 6) (u57 ++ ([(o, .inl (cy 6, aL 1 fl1)), (od, .inl (cy 7, aD 1 fd))] ++ ws1)) [some (.ref b), some (.ref f), some (.ref (ma 0)), some (.ref o), some (.ref od), some (.int (nI i)), some (.int (nI (kd 1 1 1 1 1 (qOut S (xs (i + 1)))))), none, none] [.int (mvl (qOut S (xs (i + 1))))] 2456
  refine V_perm (LW_m.symm) ?_
  refine r_istore (L' := [some (.ref b), some (.ref f), some (.ref (ma 0)), some (.ref o), some (.ref od), some (.int (nI i)), some (.int (nI (kd 1 1 1 1 1 (qOut S (xs (i + 1)))))), some (.int (mvl (qOut S (xs (i + 1))))), none]) (pc' := 2458) hX dL_law_2456 (nlt hnL (by decide)) rfl rfl rfl ?_
  refine r_aload_n (pc' := 2459) hX dL_law_2458 rfl rfl ?_
  refine V_call (k' := k0 + 1) (n' := n0 + 6) (pc' := 2462) (wr := ([(o, .inl (cy 6, aL 1 fl1)), (od, .inl (cy 7, aD 1 fd))] ++ ws1)) hX (r_runV (As := []) hX dL_law_2459 k_L_163 (fun l9 hl9 => cMw_thrown hu57) hG (MS_recv hu57) rfl rfl (Nat.le_of_ble_eq_true rfl) (by decide) (by decide) (by omega) (by omega)) (LW_m) (by omega) (by omega) rfl (fun w9 u58 hp9 => ?_)
  obtain ⟨rfl, hu58⟩ := hp9
  change V X (k0 + 1) (n0 + 6) (u58 ++ ([(o, .inl (cy 6, aL 1 fl1)), (od, .inl (cy 7, aD 1 fd))] ++ ws1)) [some (.ref b), some (.ref f), some (.ref (ma 0)), some (.ref o), some (.ref od), some (.int (nI i)), some (.int (nI (kd 1 1 1 1 1 (qOut S (xs (i + 1)))))), some (.int (mvl (qOut S (xs (i + 1))))), none] [.int (nI (kd 1 1 1 1 1 (qOut S (xs (i + 1)))))] 2462
  refine V_perm (LW_m.symm) ?_
  refine r_iload (pc' := 2464) hX dL_law_2462 rfl rfl ?_
  have hkd := kd_lt (a := 1) (b := 1) (c := 1) (d := 1) (e := 1) (x := qOut S (xs (i + 1))) rfl
  refine r_icmp_eq_N (tgt := 2469) (pc' := 2467) hX dL_law_2464 (by decide) rfl (by omega) (by omega) (fun c2464 => ?_) (fun c2464 => ?_)
  · refine r_iload (pc' := 2471) hX dL_law_2469 rfl rfl ?_
    refine r_if_ne_N (tgt := 2486) (pc' := 2474) hX dL_law_2471 (by decide) rfl (by omega) (fun c2471 => ?_) (fun c2471 => ?_)
    · have hq1 : (qOut S (xs (i + 1))).toInt < 0 := by
        refine Classical.byContradiction fun h9 => c2471 (kd_pos (by omega))
      have hF1 := hN1 hq1
      refine r_goto (tgt := 2780) hX dL_law_2486 (by decide) ?_
      refine V_loc (L' := [some (.ref b), some (.ref f), some (.ref (ma 0)), some (.ref o), some (.ref od), some (.int (nI i)), none, none, none]) (lo_w ⟨.inr rfl, .inr rfl, .inr rfl, .inr rfl, .inr rfl, .inr rfl, .inl rfl, .inl rfl, .inr rfl, trivial⟩) ?_
      refine V_widen (k' := k0 + 23) (n' := n0 + 3450) (by omega) (by omega) ?_
      exact cont (S) _ _ _ _ _ (hF1) hu58 (hA.mono (by omega))
    · have hq0 : 0 ≤ (qOut S (xs (i + 1))).toInt := by
        rcases hq9 with h9 | h9
        · exact h9
        · rw [h9] at c2471; exact absurd c2471 (by decide)
      obtain ⟨hF1, hfl1⟩ := hP1 hq0
      refine r_aload_n (pc' := 2475) hX dL_law_2474 rfl rfl ?_
      refine r_iconst (pc' := 2476) (v := nI 0) hX dL_law_2475 rfl rfl ?_
      refine r_lald (pc' := 2477) hX dL_law_2476 (by rw [hcy]) 0 rfl rfl ?_
      rw [hfl1]
      change V X (k0 + 1) (n0 + 6) (LW cy o od fl1 fd ws1 u58) [some (.ref b), some (.ref f), some (.ref (ma 0)), some (.ref o), some (.ref od), some (.int (nI i)), some (.int (nI (kd 1 1 1 1 1 (qOut S (xs (i + 1)))))), some (.int (mvl (qOut S (xs (i + 1))))), none] [.long ((qOut S (xs (i + 1))).toInt64)] 2477
      refine r_iload (pc' := 2479) hX dL_law_2477 rfl rfl ?_
      rw [mvl_pos hq0]
      refine r_i2l (pc' := 2480) hX dL_law_2479 rfl rfl ?_
      refine r_lcmp0 (pc' := 2481) hX dL_law_2480 rfl ?_
      refine r_if_eq_N (tgt := 2486) (pc' := 2484) hX dL_law_2481 (by decide) rfl (by omega) (fun c2481 => ?_) (fun c2481 => ?_)
      · refine r_goto (tgt := 2780) hX dL_law_2486 (by decide) ?_
        refine V_loc (L' := [some (.ref b), some (.ref f), some (.ref (ma 0)), some (.ref o), some (.ref od), some (.int (nI i)), none, none, none]) (lo_w ⟨.inr rfl, .inr rfl, .inr rfl, .inr rfl, .inr rfl, .inr rfl, .inl rfl, .inl rfl, .inr rfl, trivial⟩) ?_
        refine V_widen (k' := k0 + 23) (n' := n0 + 3450) (by omega) (by omega) ?_
        exact cont (S) _ _ _ _ _ (hF1) hu58 (hA.mono (by omega))
      · exact absurd c2481 (by omega)
  · exact absurd c2464 (by omega)

set_option maxRecDepth 20000 in
set_option maxHeartbeats 1000000 in
theorem lc_46 {X : xC} {l : Launch} {D : va_G} {cy : Nat → ClassId} {sa : Nat → Nat} {mc ms k0 n0 f o od b L9 i K t : Nat} {ma : Nat → Nat} {xs : Nat → Int32} {S : AS} {fl : Nat → Int64} {fd : Nat → UInt64} {wf wm : va_W} (hX : Ok SF X cL_law RL 16 mc ms) (hG : c0_G X = (D, cy, sa)) (hcy : c0_cy X = cy) (hnL : c0_nL X = 9) (hl : c0_l X = l) (hst : l.stackTraces = false) (hScr : Scr X b L9 xs) (hi : i + 4 ≤ L9) (hL9 : L9 ≤ 2048) (hF : FS cy f S wf) (hM : MS cy ma S t wm) (hA : AJ K S) (hK : K + 61 ≤ 100000) (hk : k0 + 23 ≤ mc) (hn : n0 + 3450 ≤ ms) (cont : ∀ (S1 : AS) (t1 : Nat) (fl1 : Nat → Int64) (fd1 : Nat → UInt64) (wf1 wm1 : va_W), FS cy f S1 wf1 → MS cy ma S1 t1 wm1 → AJ (K + 61) S1 → V X (k0 + 23) (n0 + 3450) (LW cy o od fl1 fd1 wf1 wm1) [some (.ref b), some (.ref f), some (.ref (ma 0)), some (.ref o), some (.ref od), some (.int (nI i)), none, none, none] [] 2780) : V X k0 n0 (LW cy o od fl fd wf wm) [some (.ref b), some (.ref f), some (.ref (ma 0)), some (.ref o), some (.ref od), some (.int (nI i)), none, none, none] [] 2547 := by
  have hv : Wf S.1 := hA.1.1.1.1
  have hInv : Inv K S.1 := hA.1.1.1
  have hFB := hA.1.1.2
  have hq9 : 0 ≤ (qRun S).toInt ∨ (qRun S) = -2 ∨ (qRun S) = -3 := qRun_q
  refine r_aload_n (pc' := 2548) hX dL_law_2547 rfl rfl ?_
  refine r_aload_n (pc' := 2549) hX dL_law_2548 rfl rfl ?_
  refine V_call (k' := k0 + 2) (n' := n0 + 156) (pc' := 2552) (wr := ([(od, .inl (cy 7, aD 1 fd))] ++ wm)) hX (r_runSW (As := [.ref f, .ref o]) hX dL_law_2549 kw_L_316 (fun l9 hl9 => by cases hl9; exact cW_runScript (v := S.1) rfl hF hA.1 (hst := (by rw [hl]; exact hst)) (hq := hq9) (hK := hK)) hG rfl rfl (Nat.le_of_ble_eq_true rfl) (by decide) (by decide) (by omega) (by omega)) (LW_c) (by omega) (by omega) rfl (fun w9 u9 hp9 => ?_)
  obtain ⟨fl1, ws1, rfl, rfl, hP1, hN1⟩ := hp9
  change V X (k0 + 2) (n0 + 156) (([(o, .inl (cy 6, aL 1 fl1))] ++ ws1) ++ ([(od, .inl (cy 7, aD 1 fd))] ++ wm)) [some (.ref b), some (.ref f), some (.ref (ma 0)), some (.ref o), some (.ref od), some (.int (nI i)), none, none, none] [.int (nI (kd 0 1 2 0 0 (qRun S)))] 2552
  refine V_perm (LW_c.symm) ?_
  refine r_istore (L' := [some (.ref b), some (.ref f), some (.ref (ma 0)), some (.ref o), some (.ref od), some (.int (nI i)), some (.int (nI (kd 0 1 2 0 0 (qRun S)))), none, none]) (pc' := 2554) hX dL_law_2552 (nlt hnL (by decide)) rfl rfl rfl ?_
  refine r_aload_n (pc' := 2555) hX dL_law_2554 rfl rfl ?_
  refine V_call (k' := k0 + 2) (n' := n0 + 156) (pc' := 2558) (wr := ([(o, .inl (cy 6, aL 1 fl1)), (od, .inl (cy 7, aD 1 fd))] ++ ws1)) hX (r_runV (As := []) hX dL_law_2555 k_L_319 (fun l9 hl9 => cMw_runScript (v := S.1) rfl hM hInv hK hA.1.2.2.2) hG (MS_recv hM) rfl rfl (Nat.le_of_ble_eq_true rfl) (by decide) (by decide) (by omega) (by omega)) (LW_m) (by omega) (by omega) rfl (fun w9 u59 hp9 => ?_)
  obtain ⟨rfl, hu59⟩ := hp9
  change V X (k0 + 2) (n0 + 156) (u59 ++ ([(o, .inl (cy 6, aL 1 fl1)), (od, .inl (cy 7, aD 1 fd))] ++ ws1)) [some (.ref b), some (.ref f), some (.ref (ma 0)), some (.ref o), some (.ref od), some (.int (nI i)), some (.int (nI (kd 0 1 2 0 0 (qRun S)))), none, none] [.int (mvl (qRun S))] 2558
  refine V_perm (LW_m.symm) ?_
  refine r_istore (L' := [some (.ref b), some (.ref f), some (.ref (ma 0)), some (.ref o), some (.ref od), some (.int (nI i)), some (.int (nI (kd 0 1 2 0 0 (qRun S)))), some (.int (mvl (qRun S))), none]) (pc' := 2560) hX dL_law_2558 (nlt hnL (by decide)) rfl rfl rfl ?_
  refine r_aload_n (pc' := 2561) hX dL_law_2560 rfl rfl ?_
  refine V_call (k' := k0 + 2) (n' := n0 + 156) (pc' := 2564) (wr := ([(o, .inl (cy 6, aL 1 fl1)), (od, .inl (cy 7, aD 1 fd))] ++ ws1)) hX (r_runV (As := []) hX dL_law_2561 k_L_163 (fun l9 hl9 => cMw_thrown hu59) hG (MS_recv hu59) rfl rfl (Nat.le_of_ble_eq_true rfl) (by decide) (by decide) (by omega) (by omega)) (LW_m) (by omega) (by omega) rfl (fun w9 u60 hp9 => ?_)
  obtain ⟨rfl, hu60⟩ := hp9
  change V X (k0 + 2) (n0 + 156) (u60 ++ ([(o, .inl (cy 6, aL 1 fl1)), (od, .inl (cy 7, aD 1 fd))] ++ ws1)) [some (.ref b), some (.ref f), some (.ref (ma 0)), some (.ref o), some (.ref od), some (.int (nI i)), some (.int (nI (kd 0 1 2 0 0 (qRun S)))), some (.int (mvl (qRun S))), none] [.int (nI (kd 0 1 2 0 0 (qRun S)))] 2564
  refine V_perm (LW_m.symm) ?_
  refine r_iload (pc' := 2566) hX dL_law_2564 rfl rfl ?_
  have hkd := kd_lt (a := 0) (b := 1) (c := 2) (d := 0) (e := 0) (x := qRun S) rfl
  refine r_icmp_eq_N (tgt := 2571) (pc' := 2569) hX dL_law_2566 (by decide) rfl (by omega) (by omega) (fun c2566 => ?_) (fun c2566 => ?_)
  · refine r_iload (pc' := 2573) hX dL_law_2571 rfl rfl ?_
    refine r_if_ne_N (tgt := 2588) (pc' := 2576) hX dL_law_2573 (by decide) rfl (by omega) (fun c2573 => ?_) (fun c2573 => ?_)
    · have hq1 : (qRun S).toInt < 0 := by
        refine Classical.byContradiction fun h9 => c2573 (kd_pos (by omega))
      have hF1 := hN1 hq1
      refine r_goto (tgt := 2780) hX dL_law_2588 (by decide) ?_
      refine V_loc (L' := [some (.ref b), some (.ref f), some (.ref (ma 0)), some (.ref o), some (.ref od), some (.int (nI i)), none, none, none]) (lo_w ⟨.inr rfl, .inr rfl, .inr rfl, .inr rfl, .inr rfl, .inr rfl, .inl rfl, .inl rfl, .inr rfl, trivial⟩) ?_
      refine V_widen (k' := k0 + 23) (n' := n0 + 3450) (by omega) (by omega) ?_
      exact cont (aRun S) _ _ _ _ _ (hF1) hu60 (hA.run hK)
    · have hq0 : 0 ≤ (qRun S).toInt := by
        rcases hq9 with h9 | h9 | h9
        · exact h9
        · rw [h9] at c2573; exact absurd c2573 (by decide)
        · rw [h9] at c2573; exact absurd c2573 (by decide)
      obtain ⟨hF1, hfl1⟩ := hP1 hq0
      refine r_aload_n (pc' := 2577) hX dL_law_2576 rfl rfl ?_
      refine r_iconst (pc' := 2578) (v := nI 0) hX dL_law_2577 rfl rfl ?_
      refine r_lald (pc' := 2579) hX dL_law_2578 (by rw [hcy]) 0 rfl rfl ?_
      rw [hfl1]
      change V X (k0 + 2) (n0 + 156) (LW cy o od fl1 fd ws1 u60) [some (.ref b), some (.ref f), some (.ref (ma 0)), some (.ref o), some (.ref od), some (.int (nI i)), some (.int (nI (kd 0 1 2 0 0 (qRun S)))), some (.int (mvl (qRun S))), none] [.long ((qRun S).toInt64)] 2579
      refine r_iload (pc' := 2581) hX dL_law_2579 rfl rfl ?_
      rw [mvl_pos hq0]
      refine r_i2l (pc' := 2582) hX dL_law_2581 rfl rfl ?_
      refine r_lcmp0 (pc' := 2583) hX dL_law_2582 rfl ?_
      refine r_if_eq_N (tgt := 2588) (pc' := 2586) hX dL_law_2583 (by decide) rfl (by omega) (fun c2583 => ?_) (fun c2583 => ?_)
      · refine r_goto (tgt := 2780) hX dL_law_2588 (by decide) ?_
        refine V_loc (L' := [some (.ref b), some (.ref f), some (.ref (ma 0)), some (.ref o), some (.ref od), some (.int (nI i)), none, none, none]) (lo_w ⟨.inr rfl, .inr rfl, .inr rfl, .inr rfl, .inr rfl, .inr rfl, .inl rfl, .inl rfl, .inr rfl, trivial⟩) ?_
        refine V_widen (k' := k0 + 23) (n' := n0 + 3450) (by omega) (by omega) ?_
        exact cont (aRun S) _ _ _ _ _ (hF1) hu60 (hA.run hK)
      · exact absurd c2583 (by omega)
  · exact absurd c2566 (by omega)

set_option maxRecDepth 20000 in
set_option maxHeartbeats 1000000 in
theorem lc_47 {X : xC} {l : Launch} {D : va_G} {cy : Nat → ClassId} {sa : Nat → Nat} {mc ms k0 n0 f o od b L9 i K t : Nat} {ma : Nat → Nat} {xs : Nat → Int32} {S : AS} {fl : Nat → Int64} {fd : Nat → UInt64} {wf wm : va_W} (hX : Ok SF X cL_law RL 16 mc ms) (hG : c0_G X = (D, cy, sa)) (hcy : c0_cy X = cy) (hnL : c0_nL X = 9) (hl : c0_l X = l) (hst : l.stackTraces = false) (hScr : Scr X b L9 xs) (hi : i + 4 ≤ L9) (hL9 : L9 ≤ 2048) (hF : FS cy f S wf) (hM : MS cy ma S t wm) (hA : AJ K S) (hK : K + 61 ≤ 100000) (hk : k0 + 23 ≤ mc) (hn : n0 + 3450 ≤ ms) (cont : ∀ (S1 : AS) (t1 : Nat) (fl1 : Nat → Int64) (fd1 : Nat → UInt64) (wf1 wm1 : va_W), FS cy f S1 wf1 → MS cy ma S1 t1 wm1 → AJ (K + 61) S1 → V X (k0 + 23) (n0 + 3450) (LW cy o od fl1 fd1 wf1 wm1) [some (.ref b), some (.ref f), some (.ref (ma 0)), some (.ref o), some (.ref od), some (.int (nI i)), none, none, none] [] 2780) : V X k0 n0 (LW cy o od fl fd wf wm) [some (.ref b), some (.ref f), some (.ref (ma 0)), some (.ref o), some (.ref od), some (.int (nI i)), none, none, none] [] 2591 := by
  have hv : Wf S.1 := hA.1.1.1.1
  have hInv : Inv K S.1 := hA.1.1.1
  have hFB := hA.1.1.2
  have hq9 : 0 ≤ (qErr S.2.2.2.2.2.1).toInt ∨ (qErr S.2.2.2.2.2.1) = -5 := qErr_q hA.2.2.1
  have hkk : kd 0 0 0 0 1 (qErr S.2.2.2.2.2.1) = kd 1 1 1 1 1 (qErr S.2.2.2.2.2.1) := by
    rcases hq9 with h9 | h9
    · rw [kd_pos h9, kd_pos h9]
    · rw [h9]; rfl
  refine r_aload_n (pc' := 2592) hX dL_law_2591 rfl rfl ?_
  refine r_aload_n (pc' := 2593) hX dL_law_2592 rfl rfl ?_
  refine V_call (k' := k0 + 1) (n' := n0 + 6) (pc' := 2596) (wr := ([(od, .inl (cy 7, aD 1 fd))] ++ wm)) hX (r_runSW (As := [.ref f, .ref o]) hX dL_law_2593 kw_L_320 (fun l9 hl9 => by cases hl9; exact cW_errorPosition (v := S.1) rfl hF hA.1 (hst := (by rw [hl]; exact hst)) (hq := hq9) (hlo := hA.2.2.1)) hG rfl rfl (Nat.le_of_ble_eq_true rfl) (by decide) (by decide) (by omega) (by omega)) (LW_c) (by omega) (by omega) rfl (fun w9 u9 hp9 => ?_)
  obtain ⟨fl1, ws1, rfl, rfl, hP1, hN1⟩ := hp9
  rw [hkk]
  change V X (k0 + 1) (n0 + 6) (([(o, .inl (cy 6, aL 1 fl1))] ++ ws1) ++ ([(od, .inl (cy 7, aD 1 fd))] ++ wm)) [some (.ref b), some (.ref f), some (.ref (ma 0)), some (.ref o), some (.ref od), some (.int (nI i)), none, none, none] [.int (nI (kd 1 1 1 1 1 (qErr S.2.2.2.2.2.1)))] 2596
  refine V_perm (LW_c.symm) ?_
  refine r_istore (L' := [some (.ref b), some (.ref f), some (.ref (ma 0)), some (.ref o), some (.ref od), some (.int (nI i)), some (.int (nI (kd 1 1 1 1 1 (qErr S.2.2.2.2.2.1)))), none, none]) (pc' := 2598) hX dL_law_2596 (nlt hnL (by decide)) rfl rfl rfl ?_
  refine r_aload_n (pc' := 2599) hX dL_law_2598 rfl rfl ?_
  refine V_call (k' := k0 + 1) (n' := n0 + 6) (pc' := 2602) (wr := ([(o, .inl (cy 6, aL 1 fl1)), (od, .inl (cy 7, aD 1 fd))] ++ ws1)) hX (r_runV (As := []) hX dL_law_2599 k_L_322 (fun l9 hl9 => cMw_errorPosition hM hA.2.2.1) hG (MS_recv hM) rfl rfl (Nat.le_of_ble_eq_true rfl) (by decide) (by decide) (by omega) (by omega)) (LW_m) (by omega) (by omega) rfl (fun w9 u61 hp9 => ?_)
  obtain ⟨rfl, hu61⟩ := hp9
  change V X (k0 + 1) (n0 + 6) (u61 ++ ([(o, .inl (cy 6, aL 1 fl1)), (od, .inl (cy 7, aD 1 fd))] ++ ws1)) [some (.ref b), some (.ref f), some (.ref (ma 0)), some (.ref o), some (.ref od), some (.int (nI i)), some (.int (nI (kd 1 1 1 1 1 (qErr S.2.2.2.2.2.1)))), none, none] [.int (mvl (qErr S.2.2.2.2.2.1))] 2602
  refine V_perm (LW_m.symm) ?_
  refine r_istore (L' := [some (.ref b), some (.ref f), some (.ref (ma 0)), some (.ref o), some (.ref od), some (.int (nI i)), some (.int (nI (kd 1 1 1 1 1 (qErr S.2.2.2.2.2.1)))), some (.int (mvl (qErr S.2.2.2.2.2.1))), none]) (pc' := 2604) hX dL_law_2602 (nlt hnL (by decide)) rfl rfl rfl ?_
  refine r_aload_n (pc' := 2605) hX dL_law_2604 rfl rfl ?_
  refine V_call (k' := k0 + 1) (n' := n0 + 6) (pc' := 2608) (wr := ([(o, .inl (cy 6, aL 1 fl1)), (od, .inl (cy 7, aD 1 fd))] ++ ws1)) hX (r_runV (As := []) hX dL_law_2605 k_L_163 (fun l9 hl9 => cMw_thrown hu61) hG (MS_recv hu61) rfl rfl (Nat.le_of_ble_eq_true rfl) (by decide) (by decide) (by omega) (by omega)) (LW_m) (by omega) (by omega) rfl (fun w9 u62 hp9 => ?_)
  obtain ⟨rfl, hu62⟩ := hp9
  change V X (k0 + 1) (n0 + 6) (u62 ++ ([(o, .inl (cy 6, aL 1 fl1)), (od, .inl (cy 7, aD 1 fd))] ++ ws1)) [some (.ref b), some (.ref f), some (.ref (ma 0)), some (.ref o), some (.ref od), some (.int (nI i)), some (.int (nI (kd 1 1 1 1 1 (qErr S.2.2.2.2.2.1)))), some (.int (mvl (qErr S.2.2.2.2.2.1))), none] [.int (nI (kd 1 1 1 1 1 (qErr S.2.2.2.2.2.1)))] 2608
  refine V_perm (LW_m.symm) ?_
  refine r_iload (pc' := 2610) hX dL_law_2608 rfl rfl ?_
  have hkd := kd_lt (a := 1) (b := 1) (c := 1) (d := 1) (e := 1) (x := qErr S.2.2.2.2.2.1) rfl
  refine r_icmp_eq_N (tgt := 2615) (pc' := 2613) hX dL_law_2610 (by decide) rfl (by omega) (by omega) (fun c2610 => ?_) (fun c2610 => ?_)
  · refine r_iload (pc' := 2617) hX dL_law_2615 rfl rfl ?_
    refine r_if_ne_N (tgt := 2632) (pc' := 2620) hX dL_law_2617 (by decide) rfl (by omega) (fun c2617 => ?_) (fun c2617 => ?_)
    · have hq1 : (qErr S.2.2.2.2.2.1).toInt < 0 := by
        refine Classical.byContradiction fun h9 => c2617 (kd_pos (by omega))
      have hF1 := hN1 hq1
      refine r_goto (tgt := 2780) hX dL_law_2632 (by decide) ?_
      refine V_loc (L' := [some (.ref b), some (.ref f), some (.ref (ma 0)), some (.ref o), some (.ref od), some (.int (nI i)), none, none, none]) (lo_w ⟨.inr rfl, .inr rfl, .inr rfl, .inr rfl, .inr rfl, .inr rfl, .inl rfl, .inl rfl, .inr rfl, trivial⟩) ?_
      refine V_widen (k' := k0 + 23) (n' := n0 + 3450) (by omega) (by omega) ?_
      exact cont (S) _ _ _ _ _ (hF1) hu62 (hA.mono (by omega))
    · have hq0 : 0 ≤ (qErr S.2.2.2.2.2.1).toInt := by
        rcases hq9 with h9 | h9
        · exact h9
        · rw [h9] at c2617; exact absurd c2617 (by decide)
      obtain ⟨hF1, hfl1⟩ := hP1 hq0
      refine r_aload_n (pc' := 2621) hX dL_law_2620 rfl rfl ?_
      refine r_iconst (pc' := 2622) (v := nI 0) hX dL_law_2621 rfl rfl ?_
      refine r_lald (pc' := 2623) hX dL_law_2622 (by rw [hcy]) 0 rfl rfl ?_
      rw [hfl1]
      change V X (k0 + 1) (n0 + 6) (LW cy o od fl1 fd ws1 u62) [some (.ref b), some (.ref f), some (.ref (ma 0)), some (.ref o), some (.ref od), some (.int (nI i)), some (.int (nI (kd 1 1 1 1 1 (qErr S.2.2.2.2.2.1)))), some (.int (mvl (qErr S.2.2.2.2.2.1))), none] [.long ((qErr S.2.2.2.2.2.1).toInt64)] 2623
      refine r_iload (pc' := 2625) hX dL_law_2623 rfl rfl ?_
      rw [mvl_pos hq0]
      refine r_i2l (pc' := 2626) hX dL_law_2625 rfl rfl ?_
      refine r_lcmp0 (pc' := 2627) hX dL_law_2626 rfl ?_
      refine r_if_eq_N (tgt := 2632) (pc' := 2630) hX dL_law_2627 (by decide) rfl (by omega) (fun c2627 => ?_) (fun c2627 => ?_)
      · refine r_goto (tgt := 2780) hX dL_law_2632 (by decide) ?_
        refine V_loc (L' := [some (.ref b), some (.ref f), some (.ref (ma 0)), some (.ref o), some (.ref od), some (.int (nI i)), none, none, none]) (lo_w ⟨.inr rfl, .inr rfl, .inr rfl, .inr rfl, .inr rfl, .inr rfl, .inl rfl, .inl rfl, .inr rfl, trivial⟩) ?_
        refine V_widen (k' := k0 + 23) (n' := n0 + 3450) (by omega) (by omega) ?_
        exact cont (S) _ _ _ _ _ (hF1) hu62 (hA.mono (by omega))
      · exact absurd c2627 (by omega)
  · exact absurd c2610 (by omega)

set_option maxRecDepth 20000 in
set_option maxHeartbeats 1000000 in
theorem lc_48 {X : xC} {l : Launch} {D : va_G} {cy : Nat → ClassId} {sa : Nat → Nat} {mc ms k0 n0 f o od b L9 i K t : Nat} {ma : Nat → Nat} {xs : Nat → Int32} {S : AS} {fl : Nat → Int64} {fd : Nat → UInt64} {wf wm : va_W} (hX : Ok SF X cL_law RL 16 mc ms) (hG : c0_G X = (D, cy, sa)) (hcy : c0_cy X = cy) (hnL : c0_nL X = 9) (hl : c0_l X = l) (hst : l.stackTraces = false) (hScr : Scr X b L9 xs) (hi : i + 4 ≤ L9) (hL9 : L9 ≤ 2048) (hF : FS cy f S wf) (hM : MS cy ma S t wm) (hA : AJ K S) (hK : K + 61 ≤ 100000) (hk : k0 + 23 ≤ mc) (hn : n0 + 3450 ≤ ms) (cont : ∀ (S1 : AS) (t1 : Nat) (fl1 : Nat → Int64) (fd1 : Nat → UInt64) (wf1 wm1 : va_W), FS cy f S1 wf1 → MS cy ma S1 t1 wm1 → AJ (K + 61) S1 → V X (k0 + 23) (n0 + 3450) (LW cy o od fl1 fd1 wf1 wm1) [some (.ref b), some (.ref f), some (.ref (ma 0)), some (.ref o), some (.ref od), some (.int (nI i)), none, none, none] [] 2780) : V X k0 n0 (LW cy o od fl fd wf wm) [some (.ref b), some (.ref f), some (.ref (ma 0)), some (.ref o), some (.ref od), some (.int (nI i)), none, none, none] [] 2635 := by
  have hv : Wf S.1 := hA.1.1.1.1
  have hInv : Inv K S.1 := hA.1.1.1
  have hFB := hA.1.1.2
  have hq9 : 0 ≤ (qErr S.2.2.2.2.2.2).toInt ∨ (qErr S.2.2.2.2.2.2) = -5 := qErr_q hA.2.2.2
  have hkk : kd 0 0 0 0 1 (qErr S.2.2.2.2.2.2) = kd 1 1 1 1 1 (qErr S.2.2.2.2.2.2) := by
    rcases hq9 with h9 | h9
    · rw [kd_pos h9, kd_pos h9]
    · rw [h9]; rfl
  refine r_aload_n (pc' := 2636) hX dL_law_2635 rfl rfl ?_
  refine r_aload_n (pc' := 2637) hX dL_law_2636 rfl rfl ?_
  refine V_call (k' := k0 + 1) (n' := n0 + 6) (pc' := 2640) (wr := ([(od, .inl (cy 7, aD 1 fd))] ++ wm)) hX (r_runSW (As := [.ref f, .ref o]) hX dL_law_2637 kw_L_323 (fun l9 hl9 => by cases hl9; exact cW_failedCommand (v := S.1) rfl hF hA.1 (hst := (by rw [hl]; exact hst)) (hq := hq9) (hlo := hA.2.2.2)) hG rfl rfl (Nat.le_of_ble_eq_true rfl) (by decide) (by decide) (by omega) (by omega)) (LW_c) (by omega) (by omega) rfl (fun w9 u9 hp9 => ?_)
  obtain ⟨fl1, ws1, rfl, rfl, hP1, hN1⟩ := hp9
  rw [hkk]
  change V X (k0 + 1) (n0 + 6) (([(o, .inl (cy 6, aL 1 fl1))] ++ ws1) ++ ([(od, .inl (cy 7, aD 1 fd))] ++ wm)) [some (.ref b), some (.ref f), some (.ref (ma 0)), some (.ref o), some (.ref od), some (.int (nI i)), none, none, none] [.int (nI (kd 1 1 1 1 1 (qErr S.2.2.2.2.2.2)))] 2640
  refine V_perm (LW_c.symm) ?_
  refine r_istore (L' := [some (.ref b), some (.ref f), some (.ref (ma 0)), some (.ref o), some (.ref od), some (.int (nI i)), some (.int (nI (kd 1 1 1 1 1 (qErr S.2.2.2.2.2.2)))), none, none]) (pc' := 2642) hX dL_law_2640 (nlt hnL (by decide)) rfl rfl rfl ?_
  refine r_aload_n (pc' := 2643) hX dL_law_2642 rfl rfl ?_
  refine V_call (k' := k0 + 1) (n' := n0 + 6) (pc' := 2646) (wr := ([(o, .inl (cy 6, aL 1 fl1)), (od, .inl (cy 7, aD 1 fd))] ++ ws1)) hX (r_runV (As := []) hX dL_law_2643 k_L_325 (fun l9 hl9 => cMw_failedCommand hM hA.2.2.2) hG (MS_recv hM) rfl rfl (Nat.le_of_ble_eq_true rfl) (by decide) (by decide) (by omega) (by omega)) (LW_m) (by omega) (by omega) rfl (fun w9 u63 hp9 => ?_)
  obtain ⟨rfl, hu63⟩ := hp9
  change V X (k0 + 1) (n0 + 6) (u63 ++ ([(o, .inl (cy 6, aL 1 fl1)), (od, .inl (cy 7, aD 1 fd))] ++ ws1)) [some (.ref b), some (.ref f), some (.ref (ma 0)), some (.ref o), some (.ref od), some (.int (nI i)), some (.int (nI (kd 1 1 1 1 1 (qErr S.2.2.2.2.2.2)))), none, none] [.int (mvl (qErr S.2.2.2.2.2.2))] 2646
  refine V_perm (LW_m.symm) ?_
  refine r_istore (L' := [some (.ref b), some (.ref f), some (.ref (ma 0)), some (.ref o), some (.ref od), some (.int (nI i)), some (.int (nI (kd 1 1 1 1 1 (qErr S.2.2.2.2.2.2)))), some (.int (mvl (qErr S.2.2.2.2.2.2))), none]) (pc' := 2648) hX dL_law_2646 (nlt hnL (by decide)) rfl rfl rfl ?_
  refine r_aload_n (pc' := 2649) hX dL_law_2648 rfl rfl ?_
  refine V_call (k' := k0 + 1) (n' := n0 + 6) (pc' := 2652) (wr := ([(o, .inl (cy 6, aL 1 fl1)), (od, .inl (cy 7, aD 1 fd))] ++ ws1)) hX (r_runV (As := []) hX dL_law_2649 k_L_163 (fun l9 hl9 => cMw_thrown hu63) hG (MS_recv hu63) rfl rfl (Nat.le_of_ble_eq_true rfl) (by decide) (by decide) (by omega) (by omega)) (LW_m) (by omega) (by omega) rfl (fun w9 u64 hp9 => ?_)
  obtain ⟨rfl, hu64⟩ := hp9
  change V X (k0 + 1) (n0 + 6) (u64 ++ ([(o, .inl (cy 6, aL 1 fl1)), (od, .inl (cy 7, aD 1 fd))] ++ ws1)) [some (.ref b), some (.ref f), some (.ref (ma 0)), some (.ref o), some (.ref od), some (.int (nI i)), some (.int (nI (kd 1 1 1 1 1 (qErr S.2.2.2.2.2.2)))), some (.int (mvl (qErr S.2.2.2.2.2.2))), none] [.int (nI (kd 1 1 1 1 1 (qErr S.2.2.2.2.2.2)))] 2652
  refine V_perm (LW_m.symm) ?_
  refine r_iload (pc' := 2654) hX dL_law_2652 rfl rfl ?_
  have hkd := kd_lt (a := 1) (b := 1) (c := 1) (d := 1) (e := 1) (x := qErr S.2.2.2.2.2.2) rfl
  refine r_icmp_eq_N (tgt := 2659) (pc' := 2657) hX dL_law_2654 (by decide) rfl (by omega) (by omega) (fun c2654 => ?_) (fun c2654 => ?_)
  · refine r_iload (pc' := 2661) hX dL_law_2659 rfl rfl ?_
    refine r_if_ne_N (tgt := 2676) (pc' := 2664) hX dL_law_2661 (by decide) rfl (by omega) (fun c2661 => ?_) (fun c2661 => ?_)
    · have hq1 : (qErr S.2.2.2.2.2.2).toInt < 0 := by
        refine Classical.byContradiction fun h9 => c2661 (kd_pos (by omega))
      have hF1 := hN1 hq1
      refine r_goto (tgt := 2780) hX dL_law_2676 (by decide) ?_
      refine V_loc (L' := [some (.ref b), some (.ref f), some (.ref (ma 0)), some (.ref o), some (.ref od), some (.int (nI i)), none, none, none]) (lo_w ⟨.inr rfl, .inr rfl, .inr rfl, .inr rfl, .inr rfl, .inr rfl, .inl rfl, .inl rfl, .inr rfl, trivial⟩) ?_
      refine V_widen (k' := k0 + 23) (n' := n0 + 3450) (by omega) (by omega) ?_
      exact cont (S) _ _ _ _ _ (hF1) hu64 (hA.mono (by omega))
    · have hq0 : 0 ≤ (qErr S.2.2.2.2.2.2).toInt := by
        rcases hq9 with h9 | h9
        · exact h9
        · rw [h9] at c2661; exact absurd c2661 (by decide)
      obtain ⟨hF1, hfl1⟩ := hP1 hq0
      refine r_aload_n (pc' := 2665) hX dL_law_2664 rfl rfl ?_
      refine r_iconst (pc' := 2666) (v := nI 0) hX dL_law_2665 rfl rfl ?_
      refine r_lald (pc' := 2667) hX dL_law_2666 (by rw [hcy]) 0 rfl rfl ?_
      rw [hfl1]
      change V X (k0 + 1) (n0 + 6) (LW cy o od fl1 fd ws1 u64) [some (.ref b), some (.ref f), some (.ref (ma 0)), some (.ref o), some (.ref od), some (.int (nI i)), some (.int (nI (kd 1 1 1 1 1 (qErr S.2.2.2.2.2.2)))), some (.int (mvl (qErr S.2.2.2.2.2.2))), none] [.long ((qErr S.2.2.2.2.2.2).toInt64)] 2667
      refine r_iload (pc' := 2669) hX dL_law_2667 rfl rfl ?_
      rw [mvl_pos hq0]
      refine r_i2l (pc' := 2670) hX dL_law_2669 rfl rfl ?_
      refine r_lcmp0 (pc' := 2671) hX dL_law_2670 rfl ?_
      refine r_if_eq_N (tgt := 2676) (pc' := 2674) hX dL_law_2671 (by decide) rfl (by omega) (fun c2671 => ?_) (fun c2671 => ?_)
      · refine r_goto (tgt := 2780) hX dL_law_2676 (by decide) ?_
        refine V_loc (L' := [some (.ref b), some (.ref f), some (.ref (ma 0)), some (.ref o), some (.ref od), some (.int (nI i)), none, none, none]) (lo_w ⟨.inr rfl, .inr rfl, .inr rfl, .inr rfl, .inr rfl, .inr rfl, .inl rfl, .inl rfl, .inr rfl, trivial⟩) ?_
        refine V_widen (k' := k0 + 23) (n' := n0 + 3450) (by omega) (by omega) ?_
        exact cont (S) _ _ _ _ _ (hF1) hu64 (hA.mono (by omega))
      · exact absurd c2671 (by omega)
  · exact absurd c2654 (by omega)

set_option maxRecDepth 20000 in
set_option maxHeartbeats 1000000 in
theorem lc_49 {X : xC} {l : Launch} {D : va_G} {cy : Nat → ClassId} {sa : Nat → Nat} {mc ms k0 n0 f o od b L9 i K t : Nat} {ma : Nat → Nat} {xs : Nat → Int32} {S : AS} {fl : Nat → Int64} {fd : Nat → UInt64} {wf wm : va_W} (hX : Ok SF X cL_law RL 16 mc ms) (hG : c0_G X = (D, cy, sa)) (hcy : c0_cy X = cy) (hnL : c0_nL X = 9) (hl : c0_l X = l) (hst : l.stackTraces = false) (hScr : Scr X b L9 xs) (hi : i + 4 ≤ L9) (hL9 : L9 ≤ 2048) (hF : FS cy f S wf) (hM : MS cy ma S t wm) (hA : AJ K S) (hK : K + 61 ≤ 100000) (hk : k0 + 23 ≤ mc) (hn : n0 + 3450 ≤ ms) (cont : ∀ (S1 : AS) (t1 : Nat) (fl1 : Nat → Int64) (fd1 : Nat → UInt64) (wf1 wm1 : va_W), FS cy f S1 wf1 → MS cy ma S1 t1 wm1 → AJ (K + 61) S1 → V X (k0 + 23) (n0 + 3450) (LW cy o od fl1 fd1 wf1 wm1) [some (.ref b), some (.ref f), some (.ref (ma 0)), some (.ref o), some (.ref od), some (.int (nI i)), none, none, none] [] 2780) : V X k0 n0 (LW cy o od fl fd wf wm) [some (.ref b), some (.ref f), some (.ref (ma 0)), some (.ref o), some (.ref od), some (.int (nI i)), none, none, none] [] 2679 := by
  have hv : Wf S.1 := hA.1.1.1.1
  have hInv : Inv K S.1 := hA.1.1.1
  have hFB := hA.1.1.2
  have hq9 : 0 ≤ (qUndo S).toInt ∨ (qUndo S) = -3 := qUndo_q (MS_len hM).1
  have hkk : kd 0 0 1 0 0 (qUndo S) = kd 1 1 1 1 1 (qUndo S) := by
    rcases hq9 with h9 | h9
    · rw [kd_pos h9, kd_pos h9]
    · rw [h9]; rfl
  refine r_aload_n (pc' := 2680) hX dL_law_2679 rfl rfl ?_
  refine r_aload_n (pc' := 2681) hX dL_law_2680 rfl rfl ?_
  refine V_call (k' := k0 + 1) (n' := n0 + 6) (pc' := 2684) (wr := ([(od, .inl (cy 7, aD 1 fd))] ++ wm)) hX (r_runSW (As := [.ref f, .ref o]) hX dL_law_2681 kw_L_326 (fun l9 hl9 => by cases hl9; exact cW_undo (v := S.1) rfl hF hA.1 (hst := (by rw [hl]; exact hst)) (hq := hq9) ) hG rfl rfl (Nat.le_of_ble_eq_true rfl) (by decide) (by decide) (by omega) (by omega)) (LW_c) (by omega) (by omega) rfl (fun w9 u9 hp9 => ?_)
  obtain ⟨fl1, ws1, rfl, rfl, hP1, hN1⟩ := hp9
  rw [hkk]
  change V X (k0 + 1) (n0 + 6) (([(o, .inl (cy 6, aL 1 fl1))] ++ ws1) ++ ([(od, .inl (cy 7, aD 1 fd))] ++ wm)) [some (.ref b), some (.ref f), some (.ref (ma 0)), some (.ref o), some (.ref od), some (.int (nI i)), none, none, none] [.int (nI (kd 1 1 1 1 1 (qUndo S)))] 2684
  refine V_perm (LW_c.symm) ?_
  refine r_istore (L' := [some (.ref b), some (.ref f), some (.ref (ma 0)), some (.ref o), some (.ref od), some (.int (nI i)), some (.int (nI (kd 1 1 1 1 1 (qUndo S)))), none, none]) (pc' := 2686) hX dL_law_2684 (nlt hnL (by decide)) rfl rfl rfl ?_
  refine r_aload_n (pc' := 2687) hX dL_law_2686 rfl rfl ?_
  refine V_call (k' := k0 + 1) (n' := n0 + 6) (pc' := 2690) (wr := ([(o, .inl (cy 6, aL 1 fl1)), (od, .inl (cy 7, aD 1 fd))] ++ ws1)) hX (r_runV (As := []) hX dL_law_2687 k_L_328 (fun l9 hl9 => cMw_undo hM) hG (MS_recv hM) rfl rfl (Nat.le_of_ble_eq_true rfl) (by decide) (by decide) (by omega) (by omega)) (LW_m) (by omega) (by omega) rfl (fun w9 u65 hp9 => ?_)
  obtain ⟨rfl, hu65⟩ := hp9
  change V X (k0 + 1) (n0 + 6) (u65 ++ ([(o, .inl (cy 6, aL 1 fl1)), (od, .inl (cy 7, aD 1 fd))] ++ ws1)) [some (.ref b), some (.ref f), some (.ref (ma 0)), some (.ref o), some (.ref od), some (.int (nI i)), some (.int (nI (kd 1 1 1 1 1 (qUndo S)))), none, none] [.int (mvl (qUndo S))] 2690
  refine V_perm (LW_m.symm) ?_
  refine r_istore (L' := [some (.ref b), some (.ref f), some (.ref (ma 0)), some (.ref o), some (.ref od), some (.int (nI i)), some (.int (nI (kd 1 1 1 1 1 (qUndo S)))), some (.int (mvl (qUndo S))), none]) (pc' := 2692) hX dL_law_2690 (nlt hnL (by decide)) rfl rfl rfl ?_
  refine r_aload_n (pc' := 2693) hX dL_law_2692 rfl rfl ?_
  refine V_call (k' := k0 + 1) (n' := n0 + 6) (pc' := 2696) (wr := ([(o, .inl (cy 6, aL 1 fl1)), (od, .inl (cy 7, aD 1 fd))] ++ ws1)) hX (r_runV (As := []) hX dL_law_2693 k_L_163 (fun l9 hl9 => cMw_thrown hu65) hG (MS_recv hu65) rfl rfl (Nat.le_of_ble_eq_true rfl) (by decide) (by decide) (by omega) (by omega)) (LW_m) (by omega) (by omega) rfl (fun w9 u66 hp9 => ?_)
  obtain ⟨rfl, hu66⟩ := hp9
  change V X (k0 + 1) (n0 + 6) (u66 ++ ([(o, .inl (cy 6, aL 1 fl1)), (od, .inl (cy 7, aD 1 fd))] ++ ws1)) [some (.ref b), some (.ref f), some (.ref (ma 0)), some (.ref o), some (.ref od), some (.int (nI i)), some (.int (nI (kd 1 1 1 1 1 (qUndo S)))), some (.int (mvl (qUndo S))), none] [.int (nI (kd 1 1 1 1 1 (qUndo S)))] 2696
  refine V_perm (LW_m.symm) ?_
  refine r_iload (pc' := 2698) hX dL_law_2696 rfl rfl ?_
  have hkd := kd_lt (a := 1) (b := 1) (c := 1) (d := 1) (e := 1) (x := qUndo S) rfl
  refine r_icmp_eq_N (tgt := 2703) (pc' := 2701) hX dL_law_2698 (by decide) rfl (by omega) (by omega) (fun c2698 => ?_) (fun c2698 => ?_)
  · refine r_iload (pc' := 2705) hX dL_law_2703 rfl rfl ?_
    refine r_if_ne_N (tgt := 2720) (pc' := 2708) hX dL_law_2705 (by decide) rfl (by omega) (fun c2705 => ?_) (fun c2705 => ?_)
    · have hq1 : (qUndo S).toInt < 0 := by
        refine Classical.byContradiction fun h9 => c2705 (kd_pos (by omega))
      have hF1 := hN1 hq1
      refine r_goto (tgt := 2780) hX dL_law_2720 (by decide) ?_
      refine V_loc (L' := [some (.ref b), some (.ref f), some (.ref (ma 0)), some (.ref o), some (.ref od), some (.int (nI i)), none, none, none]) (lo_w ⟨.inr rfl, .inr rfl, .inr rfl, .inr rfl, .inr rfl, .inr rfl, .inl rfl, .inl rfl, .inr rfl, trivial⟩) ?_
      refine V_widen (k' := k0 + 23) (n' := n0 + 3450) (by omega) (by omega) ?_
      exact cont (aUndo S) _ _ _ _ _ (by rw [undo_no (MS_len hM).1 hq1]; exact hF1) hu66 (hA.undo.mono (by omega))
    · have hq0 : 0 ≤ (qUndo S).toInt := by
        rcases hq9 with h9 | h9
        · exact h9
        · rw [h9] at c2705; exact absurd c2705 (by decide)
      obtain ⟨hF1, hfl1⟩ := hP1 hq0
      refine r_aload_n (pc' := 2709) hX dL_law_2708 rfl rfl ?_
      refine r_iconst (pc' := 2710) (v := nI 0) hX dL_law_2709 rfl rfl ?_
      refine r_lald (pc' := 2711) hX dL_law_2710 (by rw [hcy]) 0 rfl rfl ?_
      rw [hfl1]
      change V X (k0 + 1) (n0 + 6) (LW cy o od fl1 fd ws1 u66) [some (.ref b), some (.ref f), some (.ref (ma 0)), some (.ref o), some (.ref od), some (.int (nI i)), some (.int (nI (kd 1 1 1 1 1 (qUndo S)))), some (.int (mvl (qUndo S))), none] [.long ((qUndo S).toInt64)] 2711
      refine r_iload (pc' := 2713) hX dL_law_2711 rfl rfl ?_
      rw [mvl_pos hq0]
      refine r_i2l (pc' := 2714) hX dL_law_2713 rfl rfl ?_
      refine r_lcmp0 (pc' := 2715) hX dL_law_2714 rfl ?_
      refine r_if_eq_N (tgt := 2720) (pc' := 2718) hX dL_law_2715 (by decide) rfl (by omega) (fun c2715 => ?_) (fun c2715 => ?_)
      · refine r_goto (tgt := 2780) hX dL_law_2720 (by decide) ?_
        refine V_loc (L' := [some (.ref b), some (.ref f), some (.ref (ma 0)), some (.ref o), some (.ref od), some (.int (nI i)), none, none, none]) (lo_w ⟨.inr rfl, .inr rfl, .inr rfl, .inr rfl, .inr rfl, .inr rfl, .inl rfl, .inl rfl, .inr rfl, trivial⟩) ?_
        refine V_widen (k' := k0 + 23) (n' := n0 + 3450) (by omega) (by omega) ?_
        exact cont (aUndo S) _ _ _ _ _ (hF1) hu66 (hA.undo.mono (by omega))
      · exact absurd c2715 (by omega)
  · exact absurd c2698 (by omega)

set_option maxRecDepth 20000 in
set_option maxHeartbeats 1000000 in
theorem lc_51 {X : xC} {l : Launch} {D : va_G} {cy : Nat → ClassId} {sa : Nat → Nat} {mc ms k0 n0 f o od b L9 i K t : Nat} {ma : Nat → Nat} {xs : Nat → Int32} {S : AS} {fl : Nat → Int64} {fd : Nat → UInt64} {wf wm : va_W} (hX : Ok SF X cL_law RL 16 mc ms) (hG : c0_G X = (D, cy, sa)) (hcy : c0_cy X = cy) (hnL : c0_nL X = 9) (hl : c0_l X = l) (hst : l.stackTraces = false) (hScr : Scr X b L9 xs) (hi : i + 4 ≤ L9) (hL9 : L9 ≤ 2048) (hF : FS cy f S wf) (hM : MS cy ma S t wm) (hA : AJ K S) (hK : K + 61 ≤ 100000) (hk : k0 + 23 ≤ mc) (hn : n0 + 3450 ≤ ms) (cont : ∀ (S1 : AS) (t1 : Nat) (fl1 : Nat → Int64) (fd1 : Nat → UInt64) (wf1 wm1 : va_W), FS cy f S1 wf1 → MS cy ma S1 t1 wm1 → AJ (K + 61) S1 → V X (k0 + 23) (n0 + 3450) (LW cy o od fl1 fd1 wf1 wm1) [some (.ref b), some (.ref f), some (.ref (ma 0)), some (.ref o), some (.ref od), some (.int (nI i)), none, none, none] [] 2780) : V X k0 n0 (LW cy o od fl fd wf wm) [some (.ref b), some (.ref f), some (.ref (ma 0)), some (.ref o), some (.ref od), some (.int (nI i)), none, none, none] [] 2736 := by
  have hv : Wf S.1 := hA.1.1.1.1
  have hInv : Inv K S.1 := hA.1.1.1
  have hFB := hA.1.1.2
  have hq9 : 0 ≤ (qRest S).toInt ∨ (qRest S) = -3 := qRest_q (fun s h9 => (hA.1.2.2.1 s h9).1.1)
  have hkk : kd 0 0 1 0 0 (qRest S) = kd 1 1 1 1 1 (qRest S) := by
    rcases hq9 with h9 | h9
    · rw [kd_pos h9, kd_pos h9]
    · rw [h9]; rfl
  refine r_aload_n (pc' := 2737) hX dL_law_2736 rfl rfl ?_
  refine r_aload_n (pc' := 2738) hX dL_law_2737 rfl rfl ?_
  refine V_call (k' := k0 + 1) (n' := n0 + 6) (pc' := 2741) (wr := ([(od, .inl (cy 7, aD 1 fd))] ++ wm)) hX (r_runSW (As := [.ref f, .ref o]) hX dL_law_2738 kw_L_333 (fun l9 hl9 => by cases hl9; exact cW_restore (v := S.1) rfl hF hA.1 (hst := (by rw [hl]; exact hst)) (hq := hq9) ) hG rfl rfl (Nat.le_of_ble_eq_true rfl) (by decide) (by decide) (by omega) (by omega)) (LW_c) (by omega) (by omega) rfl (fun w9 u9 hp9 => ?_)
  obtain ⟨fl1, ws1, rfl, rfl, hP1, hN1⟩ := hp9
  rw [hkk]
  change V X (k0 + 1) (n0 + 6) (([(o, .inl (cy 6, aL 1 fl1))] ++ ws1) ++ ([(od, .inl (cy 7, aD 1 fd))] ++ wm)) [some (.ref b), some (.ref f), some (.ref (ma 0)), some (.ref o), some (.ref od), some (.int (nI i)), none, none, none] [.int (nI (kd 1 1 1 1 1 (qRest S)))] 2741
  refine V_perm (LW_c.symm) ?_
  refine r_istore (L' := [some (.ref b), some (.ref f), some (.ref (ma 0)), some (.ref o), some (.ref od), some (.int (nI i)), some (.int (nI (kd 1 1 1 1 1 (qRest S)))), none, none]) (pc' := 2743) hX dL_law_2741 (nlt hnL (by decide)) rfl rfl rfl ?_
  refine r_aload_n (pc' := 2744) hX dL_law_2743 rfl rfl ?_
  refine V_call (k' := k0 + 1) (n' := n0 + 6) (pc' := 2747) (wr := ([(o, .inl (cy 6, aL 1 fl1)), (od, .inl (cy 7, aD 1 fd))] ++ ws1)) hX (r_runV (As := []) hX dL_law_2744 k_L_335 (fun l9 hl9 => cMw_restore hM (fun s h9 => (hA.1.2.2.1 s h9).1.1)) hG (MS_recv hM) rfl rfl (Nat.le_of_ble_eq_true rfl) (by decide) (by decide) (by omega) (by omega)) (LW_m) (by omega) (by omega) rfl (fun w9 u67 hp9 => ?_)
  obtain ⟨rfl, hu67⟩ := hp9
  change V X (k0 + 1) (n0 + 6) (u67 ++ ([(o, .inl (cy 6, aL 1 fl1)), (od, .inl (cy 7, aD 1 fd))] ++ ws1)) [some (.ref b), some (.ref f), some (.ref (ma 0)), some (.ref o), some (.ref od), some (.int (nI i)), some (.int (nI (kd 1 1 1 1 1 (qRest S)))), none, none] [.int (mvl (qRest S))] 2747
  refine V_perm (LW_m.symm) ?_
  refine r_istore (L' := [some (.ref b), some (.ref f), some (.ref (ma 0)), some (.ref o), some (.ref od), some (.int (nI i)), some (.int (nI (kd 1 1 1 1 1 (qRest S)))), some (.int (mvl (qRest S))), none]) (pc' := 2749) hX dL_law_2747 (nlt hnL (by decide)) rfl rfl rfl ?_
  refine r_aload_n (pc' := 2750) hX dL_law_2749 rfl rfl ?_
  refine V_call (k' := k0 + 1) (n' := n0 + 6) (pc' := 2753) (wr := ([(o, .inl (cy 6, aL 1 fl1)), (od, .inl (cy 7, aD 1 fd))] ++ ws1)) hX (r_runV (As := []) hX dL_law_2750 k_L_163 (fun l9 hl9 => cMw_thrown hu67) hG (MS_recv hu67) rfl rfl (Nat.le_of_ble_eq_true rfl) (by decide) (by decide) (by omega) (by omega)) (LW_m) (by omega) (by omega) rfl (fun w9 u68 hp9 => ?_)
  obtain ⟨rfl, hu68⟩ := hp9
  change V X (k0 + 1) (n0 + 6) (u68 ++ ([(o, .inl (cy 6, aL 1 fl1)), (od, .inl (cy 7, aD 1 fd))] ++ ws1)) [some (.ref b), some (.ref f), some (.ref (ma 0)), some (.ref o), some (.ref od), some (.int (nI i)), some (.int (nI (kd 1 1 1 1 1 (qRest S)))), some (.int (mvl (qRest S))), none] [.int (nI (kd 1 1 1 1 1 (qRest S)))] 2753
  refine V_perm (LW_m.symm) ?_
  refine r_iload (pc' := 2755) hX dL_law_2753 rfl rfl ?_
  have hkd := kd_lt (a := 1) (b := 1) (c := 1) (d := 1) (e := 1) (x := qRest S) rfl
  refine r_icmp_eq_N (tgt := 2760) (pc' := 2758) hX dL_law_2755 (by decide) rfl (by omega) (by omega) (fun c2755 => ?_) (fun c2755 => ?_)
  · refine r_iload (pc' := 2762) hX dL_law_2760 rfl rfl ?_
    refine r_if_ne_N (tgt := 2777) (pc' := 2765) hX dL_law_2762 (by decide) rfl (by omega) (fun c2762 => ?_) (fun c2762 => ?_)
    · have hq1 : (qRest S).toInt < 0 := by
        refine Classical.byContradiction fun h9 => c2762 (kd_pos (by omega))
      have hF1 := hN1 hq1
      refine r_goto (tgt := 2780) hX dL_law_2777 (by decide) ?_
      refine V_loc (L' := [some (.ref b), some (.ref f), some (.ref (ma 0)), some (.ref o), some (.ref od), some (.int (nI i)), none, none, none]) (lo_w ⟨.inr rfl, .inr rfl, .inr rfl, .inr rfl, .inr rfl, .inr rfl, .inl rfl, .inl rfl, .inr rfl, trivial⟩) ?_
      refine V_widen (k' := k0 + 23) (n' := n0 + 3450) (by omega) (by omega) ?_
      exact cont (aRest S) _ _ _ _ _ (by rw [rest_no (fun s h9 => (hA.1.2.2.1 s h9).1.1) hq1]; exact hF1) hu68 (hA.rest.mono (by omega))
    · have hq0 : 0 ≤ (qRest S).toInt := by
        rcases hq9 with h9 | h9
        · exact h9
        · rw [h9] at c2762; exact absurd c2762 (by decide)
      obtain ⟨hF1, hfl1⟩ := hP1 hq0
      refine r_aload_n (pc' := 2766) hX dL_law_2765 rfl rfl ?_
      refine r_iconst (pc' := 2767) (v := nI 0) hX dL_law_2766 rfl rfl ?_
      refine r_lald (pc' := 2768) hX dL_law_2767 (by rw [hcy]) 0 rfl rfl ?_
      rw [hfl1]
      change V X (k0 + 1) (n0 + 6) (LW cy o od fl1 fd ws1 u68) [some (.ref b), some (.ref f), some (.ref (ma 0)), some (.ref o), some (.ref od), some (.int (nI i)), some (.int (nI (kd 1 1 1 1 1 (qRest S)))), some (.int (mvl (qRest S))), none] [.long ((qRest S).toInt64)] 2768
      refine r_iload (pc' := 2770) hX dL_law_2768 rfl rfl ?_
      rw [mvl_pos hq0]
      refine r_i2l (pc' := 2771) hX dL_law_2770 rfl rfl ?_
      refine r_lcmp0 (pc' := 2772) hX dL_law_2771 rfl ?_
      refine r_if_eq_N (tgt := 2777) (pc' := 2775) hX dL_law_2772 (by decide) rfl (by omega) (fun c2772 => ?_) (fun c2772 => ?_)
      · refine r_goto (tgt := 2780) hX dL_law_2777 (by decide) ?_
        refine V_loc (L' := [some (.ref b), some (.ref f), some (.ref (ma 0)), some (.ref o), some (.ref od), some (.int (nI i)), none, none, none]) (lo_w ⟨.inr rfl, .inr rfl, .inr rfl, .inr rfl, .inr rfl, .inr rfl, .inl rfl, .inl rfl, .inr rfl, trivial⟩) ?_
        refine V_widen (k' := k0 + 23) (n' := n0 + 3450) (by omega) (by omega) ?_
        exact cont (aRest S) _ _ _ _ _ (hF1) hu68 (hA.rest.mono (by omega))
      · exact absurd c2772 (by omega)
  · exact absurd c2755 (by omega)
