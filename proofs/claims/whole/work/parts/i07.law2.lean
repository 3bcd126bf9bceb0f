set_option maxRecDepth 20000 in
set_option maxHeartbeats 1000000 in
theorem lc_0 {X : xC} {l : Launch} {D : va_G} {cy : Nat → ClassId} {sa : Nat → Nat} {mc ms k0 n0 f o od b L9 i K t : Nat} {ma : Nat → Nat} {xs : Nat → Int32} {S : AS} {fl : Nat → Int64} {fd : Nat → UInt64} {wf wm : va_W} (hX : Ok SF X cL_law RL 16 mc ms) (hG : c0_G X = (D, cy, sa)) (hcy : c0_cy X = cy) (hnL : c0_nL X = 9) (hl : c0_l X = l) (hst : l.stackTraces = false) (hScr : Scr X b L9 xs) (hi : i + 4 ≤ L9) (hL9 : L9 ≤ 2048) (hF : FS cy f S wf) (hM : MS cy ma S t wm) (hA : AJ K S) (hK : K + 61 ≤ 100000) (hk : k0 + 23 ≤ mc) (hn : n0 + 3450 ≤ ms) (cont : ∀ (S1 : AS) (t1 : Nat) (fl1 : Nat → Int64) (fd1 : Nat → UInt64) (wf1 wm1 : va_W), FS cy f S1 wf1 → MS cy ma S1 t1 wm1 → AJ (K + 61) S1 → V X (k0 + 23) (n0 + 3450) (LW cy o od fl1 fd1 wf1 wm1) [some (.ref b), some (.ref f), some (.ref (ma 0)), some (.ref o), some (.ref od), some (.int (nI i)), none, none, none] [] 2780) : V X k0 n0 (LW cy o od fl fd wf wm) [some (.ref b), some (.ref f), some (.ref (ma 0)), some (.ref o), some (.ref od), some (.int (nI i)), none, none, none] [] 268 := by
  have hv : Wf S.1 := hA.1.1.1.1
  have hInv : Inv K S.1 := hA.1.1.1
  have hFB := hA.1.1.2
  have hq9 : 0 ≤ ((oMix S.1 (xs (i + 1)) (xs (i + 2)) (xs (i + 3))).1).toInt ∨ ((oMix S.1 (xs (i + 1)) (xs (i + 2)) (xs (i + 3))).1) = -2 ∨ ((oMix S.1 (xs (i + 1)) (xs (i + 2)) (xs (i + 3))).1) = -3 := (by
    rcases CO_cases (oMix_co hv (x := (xs (i + 1))) (y := (xs (i + 2))) (z := (xs (i + 3)))) with h9 | ⟨h9, g9⟩ | ⟨h9, g9⟩ | ⟨h9, g9⟩ | ⟨h9, g9⟩ | ⟨h9, g9⟩
    all_goals first | exact absurd rfl g9 | exact Or.inl h9 | exact Or.inr (Or.inl h9) | exact Or.inr (Or.inr (h9)))
  refine r_aload_n (pc' := 269) hX dL_law_268 rfl rfl ?_
  refine r_aload_n (pc' := 270) hX dL_law_269 rfl rfl ?_
  refine r_iload (pc' := 272) hX dL_law_270 rfl rfl ?_
  refine r_iconst (pc' := 273) (v := nI 1) hX dL_law_272 rfl rfl ?_
  refine r_iadd_N (pc' := 274) hX dL_law_273  rfl ?_
  refine r_sld (pc' := 275) hX dL_law_274 hScr (by omega) hL9 rfl ?_
  refine r_aload_n (pc' := 276) hX dL_law_275 rfl rfl ?_
  refine r_iload (pc' := 278) hX dL_law_276 rfl rfl ?_
  refine r_iconst (pc' := 279) (v := nI 2) hX dL_law_278 rfl rfl ?_
  refine r_iadd_N (pc' := 280) hX dL_law_279  rfl ?_
  refine r_sld (pc' := 281) hX dL_law_280 hScr (by omega) hL9 rfl ?_
  refine r_aload_n (pc' := 282) hX dL_law_281 rfl rfl ?_
  refine r_iload (pc' := 284) hX dL_law_282 rfl rfl ?_
  refine r_iconst (pc' := 285) (v := nI 3) hX dL_law_284 rfl rfl ?_
  refine r_iadd_N (pc' := 286) hX dL_law_285  rfl ?_
  refine r_sld (pc' := 287) hX dL_law_286 hScr (by omega) hL9 rfl ?_
  refine r_aload_n (pc' := 288) hX dL_law_287 rfl rfl ?_
  refine V_call (k' := k0 + 1) (n' := n0 + 6) (pc' := 291) (wr := ([(od, .inl (cy 7, aD 1 fd))] ++ wm)) hX (r_runSW (As := [.ref f, .int (xs (i + 1)), .int (xs (i + 2)), .int (xs (i + 3)), .ref o]) hX dL_law_288 kw_L_157 (fun l9 hl9 => by cases hl9; exact cW_addAlloy (v := S.1) rfl hF hA.1 (hst := (by rw [hl]; exact hst)) (hq := hq9) ) hG rfl rfl (Nat.le_of_ble_eq_true rfl) (by decide) (by decide) (by omega) (by omega)) (LW_c) (by omega) (by omega) rfl (fun w9 u9 hp9 => ?_)
  obtain ⟨fl1, ws1, rfl, rfl, hP1, hN1⟩ := hp9
  change V X (k0 + 1) (n0 + 6) (([(o, .inl (cy 6, aL 1 fl1))] ++ ws1) ++ ([(od, .inl (cy 7, aD 1 fd))] ++ wm)) [some (.ref b), some (.ref f), some (.ref (ma 0)), some (.ref o), some (.ref od), some (.int (nI i)), none, none, none] [.int (nI (kd 0 1 2 0 0 ((oMix S.1 (xs (i + 1)) (xs (i + 2)) (xs (i + 3))).1)))] 291
  refine V_perm (LW_c.symm) ?_
  refine r_istore (L' := [some (.ref b), some (.ref f), some (.ref (ma 0)), some (.ref o), some (.ref od), some (.int (nI i)), some (.int (nI (kd 0 1 2 0 0 ((oMix S.1 (xs (i + 1)) (xs (i + 2)) (xs (i + 3))).1)))), none, none]) (pc' := 293) hX dL_law_291 (nlt hnL (by decide)) rfl rfl rfl ?_
  refine r_aload_n (pc' := 294) hX dL_law_293 rfl rfl ?_
  refine r_aload_n (pc' := 295) hX dL_law_294 rfl rfl ?_
  refine r_iload (pc' := 297) hX dL_law_295 rfl rfl ?_
  refine r_iconst (pc' := 298) (v := nI 1) hX dL_law_297 rfl rfl ?_
  refine r_iadd_N (pc' := 299) hX dL_law_298  rfl ?_
  refine r_sld (pc' := 300) hX dL_law_299 hScr (by omega) hL9 rfl ?_
  refine r_aload_n (pc' := 301) hX dL_law_300 rfl rfl ?_
  refine r_iload (pc' := 303) hX dL_law_301 rfl rfl ?_
  refine r_iconst (pc' := 304) (v := nI 2) hX dL_law_303 rfl rfl ?_
  refine r_iadd_N (pc' := 305) hX dL_law_304  rfl ?_
  refine r_sld (pc' := 306) hX dL_law_305 hScr (by omega) hL9 rfl ?_
  refine r_aload_n (pc' := 307) hX dL_law_306 rfl rfl ?_
  refine r_iload (pc' := 309) hX dL_law_307 rfl rfl ?_
  refine r_iconst (pc' := 310) (v := nI 3) hX dL_law_309 rfl rfl ?_
  refine r_iadd_N (pc' := 311) hX dL_law_310  rfl ?_
  refine r_sld (pc' := 312) hX dL_law_311 hScr (by omega) hL9 rfl ?_
  refine V_call (k' := k0 + 1) (n' := n0 + 6) (pc' := 315) (wr := ([(o, .inl (cy 6, aL 1 fl1)), (od, .inl (cy 7, aD 1 fd))] ++ ws1)) hX (r_runV (As := [.int (xs (i + 1)), .int (xs (i + 2)), .int (xs (i + 3))]) hX dL_law_312 k_L_162 (fun l9 hl9 => cMw_addAlloy hM hv (x := (xs (i + 1))) (y := (xs (i + 2))) (z := (xs (i + 3)))) hG (MS_recv hM) rfl rfl (Nat.le_of_ble_eq_true rfl) (by decide) (by decide) (by omega) (by omega)) (LW_m) (by omega) (by omega) rfl (fun w9 u1 hp9 => ?_)
  obtain ⟨rfl, hu1⟩ := hp9
  change V X (k0 + 1) (n0 + 6) (u1 ++ ([(o, .inl (cy 6, aL 1 fl1)), (od, .inl (cy 7, aD 1 fd))] ++ ws1)) [some (.ref b), some (.ref f), some (.ref (ma 0)), some (.ref o), some (.ref od), some (.int (nI i)), some (.int (nI (kd 0 1 2 0 0 ((oMix S.1 (xs (i + 1)) (xs (i + 2)) (xs (i + 3))).1)))), none, none] [.int (mvl ((oMix S.1 (xs (i + 1)) (xs (i + 2)) (xs (i + 3))).1))] 315
  refine V_perm (LW_m.symm) ?_
  refine r_istore (L' := [some (.ref b), some (.ref f), some (.ref (ma 0)), some (.ref o), some (.ref od), some (.int (nI i)), some (.int (nI (kd 0 1 2 0 0 ((oMix S.1 (xs (i + 1)) (xs (i + 2)) (xs (i + 3))).1)))), some (.int (mvl ((oMix S.1 (xs (i + 1)) (xs (i + 2)) (xs (i + 3))).1))), none]) (pc' := 317) hX dL_law_315 (nlt hnL (by decide)) rfl rfl rfl ?_
  refine r_aload_n (pc' := 318) hX dL_law_317 rfl rfl ?_
  refine V_call (k' := k0 + 1) (n' := n0 + 6) (pc' := 321) (wr := ([(o, .inl (cy 6, aL 1 fl1)), (od, .inl (cy 7, aD 1 fd))] ++ ws1)) hX (r_runV (As := []) hX dL_law_318 k_L_163 (fun l9 hl9 => cMw_thrown hu1) hG (MS_recv hu1) rfl rfl (Nat.le_of_ble_eq_true rfl) (by decide) (by decide) (by omega) (by omega)) (LW_m) (by omega) (by omega) rfl (fun w9 u2 hp9 => ?_)
  obtain ⟨rfl, hu2⟩ := hp9
  change V X (k0 + 1) (n0 + 6) (u2 ++ ([(o, .inl (cy 6, aL 1 fl1)), (od, .inl (cy 7, aD 1 fd))] ++ ws1)) [some (.ref b), some (.ref f), some (.ref (ma 0)), some (.ref o), some (.ref od), some (.int (nI i)), some (.int (nI (kd 0 1 2 0 0 ((oMix S.1 (xs (i + 1)) (xs (i + 2)) (xs (i + 3))).1)))), some (.int (mvl ((oMix S.1 (xs (i + 1)) (xs (i + 2)) (xs (i + 3))).1))), none] [.int (nI (kd 0 1 2 0 0 ((oMix S.1 (xs (i + 1)) (xs (i + 2)) (xs (i + 3))).1)))] 321
  refine V_perm (LW_m.symm) ?_
  refine r_iload (pc' := 323) hX dL_law_321 rfl rfl ?_
  have hkd := kd_lt (a := 0) (b := 1) (c := 2) (d := 0) (e := 0) (x := (oMix S.1 (xs (i + 1)) (xs (i + 2)) (xs (i + 3))).1) rfl
  refine r_icmp_eq_N (tgt := 328) (pc' := 326) hX dL_law_323 (by decide) rfl (by omega) (by omega) (fun c323 => ?_) (fun c323 => ?_)
  · refine r_iload (pc' := 330) hX dL_law_328 rfl rfl ?_
    refine r_if_ne_N (tgt := 345) (pc' := 333) hX dL_law_330 (by decide) rfl (by omega) (fun c330 => ?_) (fun c330 => ?_)
    · have hq1 : ((oMix S.1 (xs (i + 1)) (xs (i + 2)) (xs (i + 3))).1).toInt < 0 := by
        refine Classical.byContradiction fun h9 => c330 (kd_pos (by omega))
      have hF1 := hN1 hq1
      refine r_goto (tgt := 2780) hX dL_law_345 (by decide) ?_
      refine V_loc (L' := [some (.ref b), some (.ref f), some (.ref (ma 0)), some (.ref o), some (.ref od), some (.int (nI i)), none, none, none]) (lo_w ⟨.inr rfl, .inr rfl, .inr rfl, .inr rfl, .inr rfl, .inr rfl, .inl rfl, .inl rfl, .inr rfl, trivial⟩) ?_
      refine V_widen (k' := k0 + 23) (n' := n0 + 3450) (by omega) (by omega) ?_
      exact cont (aMut S (oMix S.1 (xs (i + 1)) (xs (i + 2)) (xs (i + 3)))) _ _ _ _ _ (by unfold aMut; rw [if_pos hq1]; exact hF1) hu2 ((hA.mut ⟨oMix_inv hInv, oMix_fb hFB hv⟩).mono (by omega))
    · have hq0 : 0 ≤ ((oMix S.1 (xs (i + 1)) (xs (i + 2)) (xs (i + 3))).1).toInt := by
        rcases hq9 with h9 | h9 | h9
        · exact h9
        · rw [h9] at c330; exact absurd c330 (by decide)
        · rw [h9] at c330; exact absurd c330 (by decide)
      obtain ⟨hF1, hfl1⟩ := hP1 hq0
      refine r_aload_n (pc' := 334) hX dL_law_333 rfl rfl ?_
      refine r_iconst (pc' := 335) (v := nI 0) hX dL_law_334 rfl rfl ?_
      refine r_lald (pc' := 336) hX dL_law_335 (by rw [hcy]) 0 rfl rfl ?_
      rw [hfl1]
      change V X (k0 + 1) (n0 + 6) (LW cy o od fl1 fd ws1 u2) [some (.ref b), some (.ref f), some (.ref (ma 0)), some (.ref o), some (.ref od), some (.int (nI i)), some (.int (nI (kd 0 1 2 0 0 ((oMix S.1 (xs (i + 1)) (xs (i + 2)) (xs (i + 3))).1)))), some (.int (mvl ((oMix S.1 (xs (i + 1)) (xs (i + 2)) (xs (i + 3))).1))), none] [.long (((oMix S.1 (xs (i + 1)) (xs (i + 2)) (xs (i + 3))).1).toInt64)] 336
      refine r_iload (pc' := 338) hX dL_law_336 rfl rfl ?_
      rw [mvl_pos hq0]
      refine r_i2l (pc' := 339) hX dL_law_338 rfl rfl ?_
      refine r_lcmp0 (pc' := 340) hX dL_law_339 rfl ?_
      refine r_if_eq_N (tgt := 345) (pc' := 343) hX dL_law_340 (by decide) rfl (by omega) (fun c340 => ?_) (fun c340 => ?_)
      · refine r_goto (tgt := 2780) hX dL_law_345 (by decide) ?_
        refine V_loc (L' := [some (.ref b), some (.ref f), some (.ref (ma 0)), some (.ref o), some (.ref od), some (.int (nI i)), none, none, none]) (lo_w ⟨.inr rfl, .inr rfl, .inr rfl, .inr rfl, .inr rfl, .inr rfl, .inl rfl, .inl rfl, .inr rfl, trivial⟩) ?_
        refine V_widen (k' := k0 + 23) (n' := n0 + 3450) (by omega) (by omega) ?_
        exact cont (aMut S (oMix S.1 (xs (i + 1)) (xs (i + 2)) (xs (i + 3)))) _ _ _ _ _ (by unfold aMut; rw [if_neg (by omega)]; exact hF1) hu2 ((hA.mut ⟨oMix_inv hInv, oMix_fb hFB hv⟩).mono (by omega))
      · exact absurd c340 (by omega)
  · exact absurd c323 (by omega)

set_option maxRecDepth 20000 in
set_option maxHeartbeats 1000000 in
theorem lc_1 {X : xC} {l : Launch} {D : va_G} {cy : Nat → ClassId} {sa : Nat → Nat} {mc ms k0 n0 f o od b L9 i K t : Nat} {ma : Nat → Nat} {xs : Nat → Int32} {S : AS} {fl : Nat → Int64} {fd : Nat → UInt64} {wf wm : va_W} (hX : Ok SF X cL_law RL 16 mc ms) (hG : c0_G X = (D, cy, sa)) (hcy : c0_cy X = cy) (hnL : c0_nL X = 9) (hl : c0_l X = l) (hst : l.stackTraces = false) (hScr : Scr X b L9 xs) (hi : i + 4 ≤ L9) (hL9 : L9 ≤ 2048) (hF : FS cy f S wf) (hM : MS cy ma S t wm) (hA : AJ K S) (hK : K + 61 ≤ 100000) (hk : k0 + 23 ≤ mc) (hn : n0 + 3450 ≤ ms) (cont : ∀ (S1 : AS) (t1 : Nat) (fl1 : Nat → Int64) (fd1 : Nat → UInt64) (wf1 wm1 : va_W), FS cy f S1 wf1 → MS cy ma S1 t1 wm1 → AJ (K + 61) S1 → V X (k0 + 23) (n0 + 3450) (LW cy o od fl1 fd1 wf1 wm1) [some (.ref b), some (.ref f), some (.ref (ma 0)), some (.ref o), some (.ref od), some (.int (nI i)), none, none, none] [] 2780) : V X k0 n0 (LW cy o od fl fd wf wm) [some (.ref b), some (.ref f), some (.ref (ma 0)), some (.ref o), some (.ref od), some (.int (nI i)), none, none, none] [] 348 := by
  have hv : Wf S.1 := hA.1.1.1.1
  have hInv : Inv K S.1 := hA.1.1.1
  have hFB := hA.1.1.2
  have hq9 : 0 ≤ ((oMould S.1 (xs (i + 1))).1).toInt ∨ ((oMould S.1 (xs (i + 1))).1) = -2 ∨ ((oMould S.1 (xs (i + 1))).1) = -3 := (by
    rcases CO_cases (oMould_co hv (x := (xs (i + 1)))) with h9 | ⟨h9, g9⟩ | ⟨h9, g9⟩ | ⟨h9, g9⟩ | ⟨h9, g9⟩ | ⟨h9, g9⟩
    all_goals first | exact absurd rfl g9 | exact Or.inl h9 | exact Or.inr (Or.inl h9) | exact Or.inr (Or.inr (h9)))
  refine r_aload_n (pc' := 349) hX dL_law_348 rfl rfl ?_
  refine r_aload_n (pc' := 350) hX dL_law_349 rfl rfl ?_
  refine r_iload (pc' := 352) hX dL_law_350 rfl rfl ?_
  refine r_iconst (pc' := 353) (v := nI 1) hX dL_law_352 rfl rfl ?_
  refine r_iadd_N (pc' := 354) hX dL_law_353  rfl ?_
  refine r_sld (pc' := 355) hX dL_law_354 hScr (by omega) hL9 rfl ?_
  refine r_aload_n (pc' := 356) hX dL_law_355 rfl rfl ?_
  refine V_call (k' := k0 + 1) (n' := n0 + 6) (pc' := 359) (wr := ([(od, .inl (cy 7, aD 1 fd))] ++ wm)) hX (r_runSW (As := [.ref f, .int (xs (i + 1)), .ref o]) hX dL_law_356 kw_L_166 (fun l9 hl9 => by cases hl9; exact cW_addMould (v := S.1) rfl hF hA.1 (hst := (by rw [hl]; exact hst)) (hq := hq9) ) hG rfl rfl (Nat.le_of_ble_eq_true rfl) (by decide) (by decide) (by omega) (by omega)) (LW_c) (by omega) (by omega) rfl (fun w9 u9 hp9 => ?_)
  obtain ⟨fl1, ws1, rfl, rfl, hP1, hN1⟩ := hp9
  change V X (k0 + 1) (n0 + 6) (([(o, .inl (cy 6, aL 1 fl1))] ++ ws1) ++ ([(od, .inl (cy 7, aD 1 fd))] ++ wm)) [some (.ref b), some (.ref f), some (.ref (ma 0)), some (.ref o), some (.ref od), some (.int (nI i)), none, none, none] [.int (nI (kd 0 1 2 0 0 ((oMould S.1 (xs (i + 1))).1)))] 359
  refine V_perm (LW_c.symm) ?_
  refine r_istore (L' := [some (.ref b), some (.ref f), some (.ref (ma 0)), some (.ref o), some (.ref od), some (.int (nI i)), some (.int (nI (kd 0 1 2 0 0 ((oMould S.1 (xs (i + 1))).1)))), none, none]) (pc' := 361) hX dL_law_359 (nlt hnL (by decide)) rfl rfl rfl ?_
  refine r_aload_n (pc' := 362) hX dL_law_361 rfl rfl ?_
  refine r_aload_n (pc' := 363) hX dL_law_362 rfl rfl ?_
  refine r_iload (pc' := 365) hX dL_law_363 rfl rfl ?_
  refine r_iconst (pc' := 366) (v := nI 1) hX dL_law_365 rfl rfl ?_
  refine r_iadd_N (pc' := 367) hX dL_law_366  rfl ?_
  refine r_sld (pc' := 368) hX dL_law_367 hScr (by omega) hL9 rfl ?_
  refine V_call (k' := k0 + 1) (n' := n0 + 6) (pc' := 371) (wr := ([(o, .inl (cy 6, aL 1 fl1)), (od, .inl (cy 7, aD 1 fd))] ++ ws1)) hX (r_runV (As := [.int (xs (i + 1))]) hX dL_law_368 k_L_169 (fun l9 hl9 => cMw_addMould hM hv hInv.2.1 (x := (xs (i + 1)))) hG (MS_recv hM) rfl rfl (Nat.le_of_ble_eq_true rfl) (by decide) (by decide) (by omega) (by omega)) (LW_m) (by omega) (by omega) rfl (fun w9 u3 hp9 => ?_)
  obtain ⟨rfl, hu3⟩ := hp9
  change V X (k0 + 1) (n0 + 6) (u3 ++ ([(o, .inl (cy 6, aL 1 fl1)), (od, .inl (cy 7, aD 1 fd))] ++ ws1)) [some (.ref b), some (.ref f), some (.ref (ma 0)), some (.ref o), some (.ref od), some (.int (nI i)), some (.int (nI (kd 0 1 2 0 0 ((oMould S.1 (xs (i + 1))).1)))), none, none] [.int (mvl ((oMould S.1 (xs (i + 1))).1))] 371
  refine V_perm (LW_m.symm) ?_
  refine r_istore (L' := [some (.ref b), some (.ref f), some (.ref (ma 0)), some (.ref o), some (.ref od), some (.int (nI i)), some (.int (nI (kd 0 1 2 0 0 ((oMould S.1 (xs (i + 1))).1)))), some (.int (mvl ((oMould S.1 (xs (i + 1))).1))), none]) (pc' := 373) hX dL_law_371 (nlt hnL (by decide)) rfl rfl rfl ?_
  refine r_aload_n (pc' := 374) hX dL_law_373 rfl rfl ?_
  refine V_call (k' := k0 + 1) (n' := n0 + 6) (pc' := 377) (wr := ([(o, .inl (cy 6, aL 1 fl1)), (od, .inl (cy 7, aD 1 fd))] ++ ws1)) hX (r_runV (As := []) hX dL_law_374 k_L_163 (fun l9 hl9 => cMw_thrown hu3) hG (MS_recv hu3) rfl rfl (Nat.le_of_ble_eq_true rfl) (by decide) (by decide) (by omega) (by omega)) (LW_m) (by omega) (by omega) rfl (fun w9 u4 hp9 => ?_)
  obtain ⟨rfl, hu4⟩ := hp9
  change V X (k0 + 1) (n0 + 6) (u4 ++ ([(o, .inl (cy 6, aL 1 fl1)), (od, .inl (cy 7, aD 1 fd))] ++ ws1)) [some (.ref b), some (.ref f), some (.ref (ma 0)), some (.ref o), some (.ref od), some (.int (nI i)), some (.int (nI (kd 0 1 2 0 0 ((oMould S.1 (xs (i + 1))).1)))), some (.int (mvl ((oMould S.1 (xs (i + 1))).1))), none] [.int (nI (kd 0 1 2 0 0 ((oMould S.1 (xs (i + 1))).1)))] 377
  refine V_perm (LW_m.symm) ?_
  refine r_iload (pc' := 379) hX dL_law_377 rfl rfl ?_
  have hkd := kd_lt (a := 0) (b := 1) (c := 2) (d := 0) (e := 0) (x := (oMould S.1 (xs (i + 1))).1) rfl
  refine r_icmp_eq_N (tgt := 384) (pc' := 382) hX dL_law_379 (by decide) rfl (by omega) (by omega) (fun c379 => ?_) (fun c379 => ?_)
  · refine r_iload (pc' := 386) hX dL_law_384 rfl rfl ?_
    refine r_if_ne_N (tgt := 401) (pc' := 389) hX dL_law_386 (by decide) rfl (by omega) (fun c386 => ?_) (fun c386 => ?_)
    · have hq1 : ((oMould S.1 (xs (i + 1))).1).toInt < 0 := by
        refine Classical.byContradiction fun h9 => c386 (kd_pos (by omega))
      have hF1 := hN1 hq1
      refine r_goto (tgt := 2780) hX dL_law_401 (by decide) ?_
      refine V_loc (L' := [some (.ref b), some (.ref f), some (.ref (ma 0)), some (.ref o), some (.ref od), some (.int (nI i)), none, none, none]) (lo_w ⟨.inr rfl, .inr rfl, .inr rfl, .inr rfl, .inr rfl, .inr rfl, .inl rfl, .inl rfl, .inr rfl, trivial⟩) ?_
      refine V_widen (k' := k0 + 23) (n' := n0 + 3450) (by omega) (by omega) ?_
      exact cont (aMut S (oMould S.1 (xs (i + 1)))) _ _ _ _ _ (by unfold aMut; rw [if_pos hq1]; exact hF1) hu4 ((hA.mut ⟨oMould_inv hInv, oMould_fb hFB⟩).mono (by omega))
    · have hq0 : 0 ≤ ((oMould S.1 (xs (i + 1))).1).toInt := by
        rcases hq9 with h9 | h9 | h9
        · exact h9
        · rw [h9] at c386; exact absurd c386 (by decide)
        · rw [h9] at c386; exact absurd c386 (by decide)
      obtain ⟨hF1, hfl1⟩ := hP1 hq0
      refine r_aload_n (pc' := 390) hX dL_law_389 rfl rfl ?_
      refine r_iconst (pc' := 391) (v := nI 0) hX dL_law_390 rfl rfl ?_
      refine r_lald (pc' := 392) hX dL_law_391 (by rw [hcy]) 0 rfl rfl ?_
      rw [hfl1]
      change V X (k0 + 1) (n0 + 6) (LW cy o od fl1 fd ws1 u4) [some (.ref b), some (.ref f), some (.ref (ma 0)), some (.ref o), some (.ref od), some (.int (nI i)), some (.int (nI (kd 0 1 2 0 0 ((oMould S.1 (xs (i + 1))).1)))), some (.int (mvl ((oMould S.1 (xs (i + 1))).1))), none] [.long (((oMould S.1 (xs (i + 1))).1).toInt64)] 392
      refine r_iload (pc' := 394) hX dL_law_392 rfl rfl ?_
      rw [mvl_pos hq0]
      refine r_i2l (pc' := 395) hX dL_law_394 rfl rfl ?_
      refine r_lcmp0 (pc' := 396) hX dL_law_395 rfl ?_
      refine r_if_eq_N (tgt := 401) (pc' := 399) hX dL_law_396 (by decide) rfl (by omega) (fun c396 => ?_) (fun c396 => ?_)
      · refine r_goto (tgt := 2780) hX dL_law_401 (by decide) ?_
        refine V_loc (L' := [some (.ref b), some (.ref f), some (.ref (ma 0)), some (.ref o), some (.ref od), some (.int (nI i)), none, none, none]) (lo_w ⟨.inr rfl, .inr rfl, .inr rfl, .inr rfl, .inr rfl, .inr rfl, .inl rfl, .inl rfl, .inr rfl, trivial⟩) ?_
        refine V_widen (k' := k0 + 23) (n' := n0 + 3450) (by omega) (by omega) ?_
        exact cont (aMut S (oMould S.1 (xs (i + 1)))) _ _ _ _ _ (by unfold aMut; rw [if_neg (by omega)]; exact hF1) hu4 ((hA.mut ⟨oMould_inv hInv, oMould_fb hFB⟩).mono (by omega))
      · exact absurd c396 (by omega)
  · exact absurd c379 (by omega)

set_option maxRecDepth 20000 in
set_option maxHeartbeats 1000000 in
theorem lc_2 {X : xC} {l : Launch} {D : va_G} {cy : Nat → ClassId} {sa : Nat → Nat} {mc ms k0 n0 f o od b L9 i K t : Nat} {ma : Nat → Nat} {xs : Nat → Int32} {S : AS} {fl : Nat → Int64} {fd : Nat → UInt64} {wf wm : va_W} (hX : Ok SF X cL_law RL 16 mc ms) (hG : c0_G X = (D, cy, sa)) (hcy : c0_cy X = cy) (hnL : c0_nL X = 9) (hl : c0_l X = l) (hst : l.stackTraces = false) (hScr : Scr X b L9 xs) (hi : i + 4 ≤ L9) (hL9 : L9 ≤ 2048) (hF : FS cy f S wf) (hM : MS cy ma S t wm) (hA : AJ K S) (hK : K + 61 ≤ 100000) (hk : k0 + 23 ≤ mc) (hn : n0 + 3450 ≤ ms) (cont : ∀ (S1 : AS) (t1 : Nat) (fl1 : Nat → Int64) (fd1 : Nat → UInt64) (wf1 wm1 : va_W), FS cy f S1 wf1 → MS cy ma S1 t1 wm1 → AJ (K + 61) S1 → V X (k0 + 23) (n0 + 3450) (LW cy o od fl1 fd1 wf1 wm1) [some (.ref b), some (.ref f), some (.ref (ma 0)), some (.ref o), some (.ref od), some (.int (nI i)), none, none, none] [] 2780) : V X k0 n0 (LW cy o od fl fd wf wm) [some (.ref b), some (.ref f), some (.ref (ma 0)), some (.ref o), some (.ref od), some (.int (nI i)), none, none, none] [] 404 := by
  have hv : Wf S.1 := hA.1.1.1.1
  have hInv : Inv K S.1 := hA.1.1.1
  have hFB := hA.1.1.2
  have hq9 : 0 ≤ ((oBuy S.1 (xs (i + 1)) (xs (i + 2))).1).toInt ∨ ((oBuy S.1 (xs (i + 1)) (xs (i + 2))).1) = -1 ∨ ((oBuy S.1 (xs (i + 1)) (xs (i + 2))).1) = -2 ∨ ((oBuy S.1 (xs (i + 1)) (xs (i + 2))).1) = -3 := (by
    rcases CO_cases (oBuy_co hv (x := (xs (i + 1))) (y := (xs (i + 2)))) with h9 | ⟨h9, g9⟩ | ⟨h9, g9⟩ | ⟨h9, g9⟩ | ⟨h9, g9⟩ | ⟨h9, g9⟩
    all_goals first | exact absurd rfl g9 | exact Or.inl h9 | exact Or.inr (Or.inl h9) | exact Or.inr (Or.inr (Or.inl h9)) | exact Or.inr (Or.inr (Or.inr (h9))))
  refine r_aload_n (pc' := 405) hX dL_law_404 rfl rfl ?_
  refine r_aload_n (pc' := 406) hX dL_law_405 rfl rfl ?_
  refine r_iload (pc' := 408) hX dL_law_406 rfl rfl ?_
  refine r_iconst (pc' := 409) (v := nI 1) hX dL_law_408 rfl rfl ?_
  refine r_iadd_N (pc' := 410) hX dL_law_409  rfl ?_
  refine r_sld (pc' := 411) hX dL_law_410 hScr (by omega) hL9 rfl ?_
  refine r_aload_n (pc' := 412) hX dL_law_411 rfl rfl ?_
  refine r_iload (pc' := 414) hX dL_law_412 rfl rfl ?_
  refine r_iconst (pc' := 415) (v := nI 2) hX dL_law_414 rfl rfl ?_
  refine r_iadd_N (pc' := 416) hX dL_law_415  rfl ?_
  refine r_sld (pc' := 417) hX dL_law_416 hScr (by omega) hL9 rfl ?_
  refine r_aload_n (pc' := 418) hX dL_law_417 rfl rfl ?_
  refine V_call (k' := k0 + 1) (n' := n0 + 6) (pc' := 421) (wr := ([(od, .inl (cy 7, aD 1 fd))] ++ wm)) hX (r_runSW (As := [.ref f, .int (xs (i + 1)), .int (xs (i + 2)), .ref o]) hX dL_law_418 kw_L_170 (fun l9 hl9 => by cases hl9; exact cW_buy (v := S.1) rfl hF hA.1 (hst := (by rw [hl]; exact hst)) (hq := hq9) ) hG rfl rfl (Nat.le_of_ble_eq_true rfl) (by decide) (by decide) (by omega) (by omega)) (LW_c) (by omega) (by omega) rfl (fun w9 u9 hp9 => ?_)
  obtain ⟨fl1, ws1, rfl, rfl, hP1, hN1⟩ := hp9
  change V X (k0 + 1) (n0 + 6) (([(o, .inl (cy 6, aL 1 fl1))] ++ ws1) ++ ([(od, .inl (cy 7, aD 1 fd))] ++ wm)) [some (.ref b), some (.ref f), some (.ref (ma 0)), some (.ref o), some (.ref od), some (.int (nI i)), none, none, none] [.int (nI (kd 1 2 3 0 0 ((oBuy S.1 (xs (i + 1)) (xs (i + 2))).1)))] 421
  refine V_perm (LW_c.symm) ?_
  refine r_istore (L' := [some (.ref b), some (.ref f), some (.ref (ma 0)), some (.ref o), some (.ref od), some (.int (nI i)), some (.int (nI (kd 1 2 3 0 0 ((oBuy S.1 (xs (i + 1)) (xs (i + 2))).1)))), none, none]) (pc' := 423) hX dL_law_421 (nlt hnL (by decide)) rfl rfl rfl ?_
  refine r_aload_n (pc' := 424) hX dL_law_423 rfl rfl ?_
  refine r_aload_n (pc' := 425) hX dL_law_424 rfl rfl ?_
  refine r_iload (pc' := 427) hX dL_law_425 rfl rfl ?_
  refine r_iconst (pc' := 428) (v := nI 1) hX dL_law_427 rfl rfl ?_
  refine r_iadd_N (pc' := 429) hX dL_law_428  rfl ?_
  refine r_sld (pc' := 430) hX dL_law_429 hScr (by omega) hL9 rfl ?_
  refine r_aload_n (pc' := 431) hX dL_law_430 rfl rfl ?_
  refine r_iload (pc' := 433) hX dL_law_431 rfl rfl ?_
  refine r_iconst (pc' := 434) (v := nI 2) hX dL_law_433 rfl rfl ?_
  refine r_iadd_N (pc' := 435) hX dL_law_434  rfl ?_
  refine r_sld (pc' := 436) hX dL_law_435 hScr (by omega) hL9 rfl ?_
  refine V_call (k' := k0 + 1) (n' := n0 + 6) (pc' := 439) (wr := ([(o, .inl (cy 6, aL 1 fl1)), (od, .inl (cy 7, aD 1 fd))] ++ ws1)) hX (r_runV (As := [.int (xs (i + 1)), .int (xs (i + 2))]) hX dL_law_436 k_L_173 (fun l9 hl9 => cMw_buy hM hv (x := (xs (i + 1))) (y := (xs (i + 2)))) hG (MS_recv hM) rfl rfl (Nat.le_of_ble_eq_true rfl) (by decide) (by decide) (by omega) (by omega)) (LW_m) (by omega) (by omega) rfl (fun w9 u5 hp9 => ?_)
  obtain ⟨rfl, hu5⟩ := hp9
  change V X (k0 + 1) (n0 + 6) (u5 ++ ([(o, .inl (cy 6, aL 1 fl1)), (od, .inl (cy 7, aD 1 fd))] ++ ws1)) [some (.ref b), some (.ref f), some (.ref (ma 0)), some (.ref o), some (.ref od), some (.int (nI i)), some (.int (nI (kd 1 2 3 0 0 ((oBuy S.1 (xs (i + 1)) (xs (i + 2))).1)))), none, none] [.int (mvl ((oBuy S.1 (xs (i + 1)) (xs (i + 2))).1))] 439
  refine V_perm (LW_m.symm) ?_
  refine r_istore (L' := [some (.ref b), some (.ref f), some (.ref (ma 0)), some (.ref o), some (.ref od), some (.int (nI i)), some (.int (nI (kd 1 2 3 0 0 ((oBuy S.1 (xs (i + 1)) (xs (i + 2))).1)))), some (.int (mvl ((oBuy S.1 (xs (i + 1)) (xs (i + 2))).1))), none]) (pc' := 441) hX dL_law_439 (nlt hnL (by decide)) rfl rfl rfl ?_
  refine r_aload_n (pc' := 442) hX dL_law_441 rfl rfl ?_
  refine V_call (k' := k0 + 1) (n' := n0 + 6) (pc' := 445) (wr := ([(o, .inl (cy 6, aL 1 fl1)), (od, .inl (cy 7, aD 1 fd))] ++ ws1)) hX (r_runV (As := []) hX dL_law_442 k_L_163 (fun l9 hl9 => cMw_thrown hu5) hG (MS_recv hu5) rfl rfl (Nat.le_of_ble_eq_true rfl) (by decide) (by decide) (by omega) (by omega)) (LW_m) (by omega) (by omega) rfl (fun w9 u6 hp9 => ?_)
  obtain ⟨rfl, hu6⟩ := hp9
  change V X (k0 + 1) (n0 + 6) (u6 ++ ([(o, .inl (cy 6, aL 1 fl1)), (od, .inl (cy 7, aD 1 fd))] ++ ws1)) [some (.ref b), some (.ref f), some (.ref (ma 0)), some (.ref o), some (.ref od), some (.int (nI i)), some (.int (nI (kd 1 2 3 0 0 ((oBuy S.1 (xs (i + 1)) (xs (i + 2))).1)))), some (.int (mvl ((oBuy S.1 (xs (i + 1)) (xs (i + 2))).1))), none] [.int (nI (kd 1 2 3 0 0 ((oBuy S.1 (xs (i + 1)) (xs (i + 2))).1)))] 445
  refine V_perm (LW_m.symm) ?_
  refine r_iload (pc' := 447) hX dL_law_445 rfl rfl ?_
  have hkd := kd_lt (a := 1) (b := 2) (c := 3) (d := 0) (e := 0) (x := (oBuy S.1 (xs (i + 1)) (xs (i + 2))).1) rfl
  refine r_icmp_eq_N (tgt := 452) (pc' := 450) hX dL_law_447 (by decide) rfl (by omega) (by omega) (fun c447 => ?_) (fun c447 => ?_)
  · refine r_iload (pc' := 454) hX dL_law_452 rfl rfl ?_
    refine r_if_ne_N (tgt := 469) (pc' := 457) hX dL_law_454 (by decide) rfl (by omega) (fun c454 => ?_) (fun c454 => ?_)
    · have hq1 : ((oBuy S.1 (xs (i + 1)) (xs (i + 2))).1).toInt < 0 := by
        refine Classical.byContradiction fun h9 => c454 (kd_pos (by omega))
      have hF1 := hN1 hq1
      refine r_goto (tgt := 2780) hX dL_law_469 (by decide) ?_
      refine V_loc (L' := [some (.ref b), some (.ref f), some (.ref (ma 0)), some (.ref o), some (.ref od), some (.int (nI i)), none, none, none]) (lo_w ⟨.inr rfl, .inr rfl, .inr rfl, .inr rfl, .inr rfl, .inr rfl, .inl rfl, .inl rfl, .inr rfl, trivial⟩) ?_
      refine V_widen (k' := k0 + 23) (n' := n0 + 3450) (by omega) (by omega) ?_
      exact cont (aMut S (oBuy S.1 (xs (i + 1)) (xs (i + 2)))) _ _ _ _ _ (by unfold aMut; rw [if_pos hq1]; exact hF1) hu6 ((hA.mut ⟨oBuy_inv hInv, oBuy_fb hFB⟩).mono (by omega))
    · have hq0 : 0 ≤ ((oBuy S.1 (xs (i + 1)) (xs (i + 2))).1).toInt := by
        rcases hq9 with h9 | h9 | h9 | h9
        · exact h9
        · rw [h9] at c454; exact absurd c454 (by decide)
        · rw [h9] at c454; exact absurd c454 (by decide)
        · rw [h9] at c454; exact absurd c454 (by decide)
      obtain ⟨hF1, hfl1⟩ := hP1 hq0
      refine r_aload_n (pc' := 458) hX dL_law_457 rfl rfl ?_
      refine r_iconst (pc' := 459) (v := nI 0) hX dL_law_458 rfl rfl ?_
      refine r_lald (pc' := 460) hX dL_law_459 (by rw [hcy]) 0 rfl rfl ?_
      rw [hfl1]
      change V X (k0 + 1) (n0 + 6) (LW cy o od fl1 fd ws1 u6) [some (.ref b), some (.ref f), some (.ref (ma 0)), some (.ref o), some (.ref od), some (.int (nI i)), some (.int (nI (kd 1 2 3 0 0 ((oBuy S.1 (xs (i + 1)) (xs (i + 2))).1)))), some (.int (mvl ((oBuy S.1 (xs (i + 1)) (xs (i + 2))).1))), none] [.long (((oBuy S.1 (xs (i + 1)) (xs (i + 2))).1).toInt64)] 460
      refine r_iload (pc' := 462) hX dL_law_460 rfl rfl ?_
      rw [mvl_pos hq0]
      refine r_i2l (pc' := 463) hX dL_law_462 rfl rfl ?_
      refine r_lcmp0 (pc' := 464) hX dL_law_463 rfl ?_
      refine r_if_eq_N (tgt := 469) (pc' := 467) hX dL_law_464 (by decide) rfl (by omega) (fun c464 => ?_) (fun c464 => ?_)
      · refine r_goto (tgt := 2780) hX dL_law_469 (by decide) ?_
        refine V_loc (L' := [some (.ref b), some (.ref f), some (.ref (ma 0)), some (.ref o), some (.ref od), some (.int (nI i)), none, none, none]) (lo_w ⟨.inr rfl, .inr rfl, .inr rfl, .inr rfl, .inr rfl, .inr rfl, .inl rfl, .inl rfl, .inr rfl, trivial⟩) ?_
        refine V_widen (k' := k0 + 23) (n' := n0 + 3450) (by omega) (by omega) ?_
        exact cont (aMut S (oBuy S.1 (xs (i + 1)) (xs (i + 2)))) _ _ _ _ _ (by unfold aMut; rw [if_neg (by omega)]; exact hF1) hu6 ((hA.mut ⟨oBuy_inv hInv, oBuy_fb hFB⟩).mono (by omega))
      · exact absurd c464 (by omega)
  · exact absurd c447 (by omega)

set_option maxRecDepth 20000 in
set_option maxHeartbeats 1000000 in
theorem lc_3 {X : xC} {l : Launch} {D : va_G} {cy : Nat → ClassId} {sa : Nat → Nat} {mc ms k0 n0 f o od b L9 i K t : Nat} {ma : Nat → Nat} {xs : Nat → Int32} {S : AS} {fl : Nat → Int64} {fd : Nat → UInt64} {wf wm : va_W} (hX : Ok SF X cL_law RL 16 mc ms) (hG : c0_G X = (D, cy, sa)) (hcy : c0_cy X = cy) (hnL : c0_nL X = 9) (hl : c0_l X = l) (hst : l.stackTraces = false) (hScr : Scr X b L9 xs) (hi : i + 4 ≤ L9) (hL9 : L9 ≤ 2048) (hF : FS cy f S wf) (hM : MS cy ma S t wm) (hA : AJ K S) (hK : K + 61 ≤ 100000) (hk : k0 + 23 ≤ mc) (hn : n0 + 3450 ≤ ms) (cont : ∀ (S1 : AS) (t1 : Nat) (fl1 : Nat → Int64) (fd1 : Nat → UInt64) (wf1 wm1 : va_W), FS cy f S1 wf1 → MS cy ma S1 t1 wm1 → AJ (K + 61) S1 → V X (k0 + 23) (n0 + 3450) (LW cy o od fl1 fd1 wf1 wm1) [some (.ref b), some (.ref f), some (.ref (ma 0)), some (.ref o), some (.ref od), some (.int (nI i)), none, none, none] [] 2780) : V X k0 n0 (LW cy o od fl fd wf wm) [some (.ref b), some (.ref f), some (.ref (ma 0)), some (.ref o), some (.ref od), some (.int (nI i)), none, none, none] [] 472 := by
  have hv : Wf S.1 := hA.1.1.1.1
  have hInv : Inv K S.1 := hA.1.1.1
  have hFB := hA.1.1.2
  have hq9 : 0 ≤ ((oPour S.1 (xs (i + 1)) (xs (i + 2)) (xs (i + 3))).1).toInt ∨ ((oPour S.1 (xs (i + 1)) (xs (i + 2)) (xs (i + 3))).1) = -1 ∨ ((oPour S.1 (xs (i + 1)) (xs (i + 2)) (xs (i + 3))).1) = -2 ∨ ((oPour S.1 (xs (i + 1)) (xs (i + 2)) (xs (i + 3))).1) = -3 ∨ ((oPour S.1 (xs (i + 1)) (xs (i + 2)) (xs (i + 3))).1) = -4 := (by
    rcases CO_cases (oPour_co hv (x := (xs (i + 1))) (y := (xs (i + 2))) (z := (xs (i + 3)))) with h9 | ⟨h9, g9⟩ | ⟨h9, g9⟩ | ⟨h9, g9⟩ | ⟨h9, g9⟩ | ⟨h9, g9⟩
    all_goals first | exact absurd rfl g9 | exact Or.inl h9 | exact Or.inr (Or.inl h9) | exact Or.inr (Or.inr (Or.inl h9)) | exact Or.inr (Or.inr (Or.inr (Or.inl h9))) | exact Or.inr (Or.inr (Or.inr (Or.inr (h9)))))
  refine r_aload_n (pc' := 473) hX dL_law_472 rfl rfl ?_
  refine r_aload_n (pc' := 474) hX dL_law_473 rfl rfl ?_
  refine r_iload (pc' := 476) hX dL_law_474 rfl rfl ?_
  refine r_iconst (pc' := 477) (v := nI 1) hX dL_law_476 rfl rfl ?_
  refine r_iadd_N (pc' := 478) hX dL_law_477  rfl ?_
  refine r_sld (pc' := 479) hX dL_law_478 hScr (by omega) hL9 rfl ?_
  refine r_aload_n (pc' := 480) hX dL_law_479 rfl rfl ?_
  refine r_iload (pc' := 482) hX dL_law_480 rfl rfl ?_
  refine r_iconst (pc' := 483) (v := nI 2) hX dL_law_482 rfl rfl ?_
  refine r_iadd_N (pc' := 484) hX dL_law_483  rfl ?_
  refine r_sld (pc' := 485) hX dL_law_484 hScr (by omega) hL9 rfl ?_
  refine r_aload_n (pc' := 486) hX dL_law_485 rfl rfl ?_
  refine r_iload (pc' := 488) hX dL_law_486 rfl rfl ?_
  refine r_iconst (pc' := 489) (v := nI 3) hX dL_law_488 rfl rfl ?_
  refine r_iadd_N (pc' := 490) hX dL_law_489  rfl ?_
  refine r_sld (pc' := 491) hX dL_law_490 hScr (by omega) hL9 rfl ?_
  refine r_aload_n (pc' := 492) hX dL_law_491 rfl rfl ?_
  refine V_call (k' := k0 + 1) (n' := n0 + 6) (pc' := 495) (wr := ([(od, .inl (cy 7, aD 1 fd))] ++ wm)) hX (r_runSW (As := [.ref f, .int (xs (i + 1)), .int (xs (i + 2)), .int (xs (i + 3)), .ref o]) hX dL_law_492 kw_L_174 (fun l9 hl9 => by cases hl9; exact cW_cast (v := S.1) rfl hF hA.1 (hst := (by rw [hl]; exact hst)) (hq := hq9) ) hG rfl rfl (Nat.le_of_ble_eq_true rfl) (by decide) (by decide) (by omega) (by omega)) (LW_c) (by omega) (by omega) rfl (fun w9 u9 hp9 => ?_)
  obtain ⟨fl1, ws1, rfl, rfl, hP1, hN1⟩ := hp9
  change V X (k0 + 1) (n0 + 6) (([(o, .inl (cy 6, aL 1 fl1))] ++ ws1) ++ ([(od, .inl (cy 7, aD 1 fd))] ++ wm)) [some (.ref b), some (.ref f), some (.ref (ma 0)), some (.ref o), some (.ref od), some (.int (nI i)), none, none, none] [.int (nI (kd 1 2 3 4 0 ((oPour S.1 (xs (i + 1)) (xs (i + 2)) (xs (i + 3))).1)))] 495
  refine V_perm (LW_c.symm) ?_
  refine r_istore (L' := [some (.ref b), some (.ref f), some (.ref (ma 0)), some (.ref o), some (.ref od), some (.int (nI i)), some (.int (nI (kd 1 2 3 4 0 ((oPour S.1 (xs (i + 1)) (xs (i + 2)) (xs (i + 3))).1)))), none, none]) (pc' := 497) hX dL_law_495 (nlt hnL (by decide)) rfl rfl rfl ?_
  refine r_aload_n (pc' := 498) hX dL_law_497 rfl rfl ?_
  refine r_aload_n (pc' := 499) hX dL_law_498 rfl rfl ?_
  refine r_iload (pc' := 501) hX dL_law_499 rfl rfl ?_
  refine r_iconst (pc' := 502) (v := nI 1) hX dL_law_501 rfl rfl ?_
  refine r_iadd_N (pc' := 503) hX dL_law_502  rfl ?_
  refine r_sld (pc' := 504) hX dL_law_503 hScr (by omega) hL9 rfl ?_
  refine r_aload_n (pc' := 505) hX dL_law_504 rfl rfl ?_
  refine r_iload (pc' := 507) hX dL_law_505 rfl rfl ?_
  refine r_iconst (pc' := 508) (v := nI 2) hX dL_law_507 rfl rfl ?_
  refine r_iadd_N (pc' := 509) hX dL_law_508  rfl ?_
  refine r_sld (pc' := 510) hX dL_law_509 hScr (by omega) hL9 rfl ?_
  refine r_aload_n (pc' := 511) hX dL_law_510 rfl rfl ?_
  refine r_iload (pc' := 513) hX dL_law_511 rfl rfl ?_
  refine r_iconst (pc' := 514) (v := nI 3) hX dL_law_513 rfl rfl ?_
  refine r_iadd_N (pc' := 515) hX dL_law_514  rfl ?_
  refine r_sld (pc' := 516) hX dL_law_515 hScr (by omega) hL9 rfl ?_
  refine V_call (k' := k0 + 1) (n' := n0 + 6) (pc' := 519) (wr := ([(o, .inl (cy 6, aL 1 fl1)), (od, .inl (cy 7, aD 1 fd))] ++ ws1)) hX (r_runV (As := [.int (xs (i + 1)), .int (xs (i + 2)), .int (xs (i + 3))]) hX dL_law_516 k_L_176 (fun l9 hl9 => cMw_cast hM hv (x := (xs (i + 1))) (y := (xs (i + 2))) (z := (xs (i + 3)))) hG (MS_recv hM) rfl rfl (Nat.le_of_ble_eq_true rfl) (by decide) (by decide) (by omega) (by omega)) (LW_m) (by omega) (by omega) rfl (fun w9 u7 hp9 => ?_)
  obtain ⟨rfl, hu7⟩ := hp9
  change V X (k0 + 1) (n0 + 6) (u7 ++ ([(o, .inl (cy 6, aL 1 fl1)), (od, .inl (cy 7, aD 1 fd))] ++ ws1)) [some (.ref b), some (.ref f), some (.ref (ma 0)), some (.ref o), some (.ref od), some (.int (nI i)), some (.int (nI (kd 1 2 3 4 0 ((oPour S.1 (xs (i + 1)) (xs (i + 2)) (xs (i + 3))).1)))), none, none] [.int (mvl ((oPour S.1 (xs (i + 1)) (xs (i + 2)) (xs (i + 3))).1))] 519
  refine V_perm (LW_m.symm) ?_
  refine r_istore (L' := [some (.ref b), some (.ref f), some (.ref (ma 0)), some (.ref o), some (.ref od), some (.int (nI i)), some (.int (nI (kd 1 2 3 4 0 ((oPour S.1 (xs (i + 1)) (xs (i + 2)) (xs (i + 3))).1)))), some (.int (mvl ((oPour S.1 (xs (i + 1)) (xs (i + 2)) (xs (i + 3))).1))), none]) (pc' := 521) hX dL_law_519 (nlt hnL (by decide)) rfl rfl rfl ?_
  refine r_aload_n (pc' := 522) hX dL_law_521 rfl rfl ?_
  refine V_call (k' := k0 + 1) (n' := n0 + 6) (pc' := 525) (wr := ([(o, .inl (cy 6, aL 1 fl1)), (od, .inl (cy 7, aD 1 fd))] ++ ws1)) hX (r_runV (As := []) hX dL_law_522 k_L_163 (fun l9 hl9 => cMw_thrown hu7) hG (MS_recv hu7) rfl rfl (Nat.le_of_ble_eq_true rfl) (by decide) (by decide) (by omega) (by omega)) (LW_m) (by omega) (by omega) rfl (fun w9 u8 hp9 => ?_)
  obtain ⟨rfl, hu8⟩ := hp9
  change V X (k0 + 1) (n0 + 6) (u8 ++ ([(o, .inl (cy 6, aL 1 fl1)), (od, .inl (cy 7, aD 1 fd))] ++ ws1)) [some (.ref b), some (.ref f), some (.ref (ma 0)), some (.ref o), some (.ref od), some (.int (nI i)), some (.int (nI (kd 1 2 3 4 0 ((oPour S.1 (xs (i + 1)) (xs (i + 2)) (xs (i + 3))).1)))), some (.int (mvl ((oPour S.1 (xs (i + 1)) (xs (i + 2)) (xs (i + 3))).1))), none] [.int (nI (kd 1 2 3 4 0 ((oPour S.1 (xs (i + 1)) (xs (i + 2)) (xs (i + 3))).1)))] 525
  refine V_perm (LW_m.symm) ?_
  refine r_iload (pc' := 527) hX dL_law_525 rfl rfl ?_
  have hkd := kd_lt (a := 1) (b := 2) (c := 3) (d := 4) (e := 0) (x := (oPour S.1 (xs (i + 1)) (xs (i + 2)) (xs (i + 3))).1) rfl
  refine r_icmp_eq_N (tgt := 532) (pc' := 530) hX dL_law_527 (by decide) rfl (by omega) (by omega) (fun c527 => ?_) (fun c527 => ?_)
  · refine r_iload (pc' := 534) hX dL_law_532 rfl rfl ?_
    refine r_if_ne_N (tgt := 549) (pc' := 537) hX dL_law_534 (by decide) rfl (by omega) (fun c534 => ?_) (fun c534 => ?_)
    · have hq1 : ((oPour S.1 (xs (i + 1)) (xs (i + 2)) (xs (i + 3))).1).toInt < 0 := by
        refine Classical.byContradiction fun h9 => c534 (kd_pos (by omega))
      have hF1 := hN1 hq1
      refine r_goto (tgt := 2780) hX dL_law_549 (by decide) ?_
      refine V_loc (L' := [some (.ref b), some (.ref f), some (.ref (ma 0)), some (.ref o), some (.ref od), some (.int (nI i)), none, none, none]) (lo_w ⟨.inr rfl, .inr rfl, .inr rfl, .inr rfl, .inr rfl, .inr rfl, .inl rfl, .inl rfl, .inr rfl, trivial⟩) ?_
      refine V_widen (k' := k0 + 23) (n' := n0 + 3450) (by omega) (by omega) ?_
      exact cont (aMut S (oPour S.1 (xs (i + 1)) (xs (i + 2)) (xs (i + 3)))) _ _ _ _ _ (by unfold aMut; rw [if_pos hq1]; exact hF1) hu8 ((hA.mut ⟨oPour_inv hInv (by omega), oPour_fb hFB⟩).mono (by omega))
    · have hq0 : 0 ≤ ((oPour S.1 (xs (i + 1)) (xs (i + 2)) (xs (i + 3))).1).toInt := by
        rcases hq9 with h9 | h9 | h9 | h9 | h9
        · exact h9
        · rw [h9] at c534; exact absurd c534 (by decide)
        · rw [h9] at c534; exact absurd c534 (by decide)
        · rw [h9] at c534; exact absurd c534 (by decide)
        · rw [h9] at c534; exact absurd c534 (by decide)
      obtain ⟨hF1, hfl1⟩ := hP1 hq0
      refine r_aload_n (pc' := 538) hX dL_law_537 rfl rfl ?_
      refine r_iconst (pc' := 539) (v := nI 0) hX dL_law_538 rfl rfl ?_
      refine r_lald (pc' := 540) hX dL_law_539 (by rw [hcy]) 0 rfl rfl ?_
      rw [hfl1]
      change V X (k0 + 1) (n0 + 6) (LW cy o od fl1 fd ws1 u8) [some (.ref b), some (.ref f), some (.ref (ma 0)), some (.ref o), some (.ref od), some (.int (nI i)), some (.int (nI (kd 1 2 3 4 0 ((oPour S.1 (xs (i + 1)) (xs (i + 2)) (xs (i + 3))).1)))), some (.int (mvl ((oPour S.1 (xs (i + 1)) (xs (i + 2)) (xs (i + 3))).1))), none] [.long (((oPour S.1 (xs (i + 1)) (xs (i + 2)) (xs (i + 3))).1).toInt64)] 540
      refine r_iload (pc' := 542) hX dL_law_540 rfl rfl ?_
      rw [mvl_pos hq0]
      refine r_i2l (pc' := 543) hX dL_law_542 rfl rfl ?_
      refine r_lcmp0 (pc' := 544) hX dL_law_543 rfl ?_
      refine r_if_eq_N (tgt := 549) (pc' := 547) hX dL_law_544 (by decide) rfl (by omega) (fun c544 => ?_) (fun c544 => ?_)
      · refine r_goto (tgt := 2780) hX dL_law_549 (by decide) ?_
        refine V_loc (L' := [some (.ref b), some (.ref f), some (.ref (ma 0)), some (.ref o), some (.ref od), some (.int (nI i)), none, none, none]) (lo_w ⟨.inr rfl, .inr rfl, .inr rfl, .inr rfl, .inr rfl, .inr rfl, .inl rfl, .inl rfl, .inr rfl, trivial⟩) ?_
        refine V_widen (k' := k0 + 23) (n' := n0 + 3450) (by omega) (by omega) ?_
        exact cont (aMut S (oPour S.1 (xs (i + 1)) (xs (i + 2)) (xs (i + 3)))) _ _ _ _ _ (by unfold aMut; rw [if_neg (by omega)]; exact hF1) hu8 ((hA.mut ⟨oPour_inv hInv (by omega), oPour_fb hFB⟩).mono (by omega))
      · exact absurd c544 (by omega)
  · exact absurd c527 (by omega)

set_option maxRecDepth 20000 in
set_option maxHeartbeats 1000000 in
theorem lc_5 {X : xC} {l : Launch} {D : va_G} {cy : Nat → ClassId} {sa : Nat → Nat} {mc ms k0 n0 f o od b L9 i K t : Nat} {ma : Nat → Nat} {xs : Nat → Int32} {S : AS} {fl : Nat → Int64} {fd : Nat → UInt64} {wf wm : va_W} (hX : Ok SF X cL_law RL 16 mc ms) (hG : c0_G X = (D, cy, sa)) (hcy : c0_cy X = cy) (hnL : c0_nL X = 9) (hl : c0_l X = l) (hst : l.stackTraces = false) (hScr : Scr X b L9 xs) (hi : i + 4 ≤ L9) (hL9 : L9 ≤ 2048) (hF : FS cy f S wf) (hM : MS cy ma S t wm) (hA : AJ K S) (hK : K + 61 ≤ 100000) (hk : k0 + 23 ≤ mc) (hn : n0 + 3450 ≤ ms) (cont : ∀ (S1 : AS) (t1 : Nat) (fl1 : Nat → Int64) (fd1 : Nat → UInt64) (wf1 wm1 : va_W), FS cy f S1 wf1 → MS cy ma S1 t1 wm1 → AJ (K + 61) S1 → V X (k0 + 23) (n0 + 3450) (LW cy o od fl1 fd1 wf1 wm1) [some (.ref b), some (.ref f), some (.ref (ma 0)), some (.ref o), some (.ref od), some (.int (nI i)), none, none, none] [] 2780) : V X k0 n0 (LW cy o od fl fd wf wm) [some (.ref b), some (.ref f), some (.ref (ma 0)), some (.ref o), some (.ref od), some (.int (nI i)), none, none, none] [] 615 := by
  have hv : Wf S.1 := hA.1.1.1.1
  have hInv : Inv K S.1 := hA.1.1.1
  have hFB := hA.1.1.2
  have hq9 : 0 ≤ ((oMelt S.1 (xs (i + 1))).1).toInt ∨ ((oMelt S.1 (xs (i + 1))).1) = -5 ∨ ((oMelt S.1 (xs (i + 1))).1) = -3 := (by
    rcases CO_cases (oMelt_co hv (x := (xs (i + 1)))) with h9 | ⟨h9, g9⟩ | ⟨h9, g9⟩ | ⟨h9, g9⟩ | ⟨h9, g9⟩ | ⟨h9, g9⟩
    all_goals first | exact absurd rfl g9 | exact Or.inl h9 | exact Or.inr (Or.inl h9) | exact Or.inr (Or.inr (h9)))
  refine r_aload_n (pc' := 616) hX dL_law_615 rfl rfl ?_
  refine r_aload_n (pc' := 617) hX dL_law_616 rfl rfl ?_
  refine r_iload (pc' := 619) hX dL_law_617 rfl rfl ?_
  refine r_iconst (pc' := 620) (v := nI 1) hX dL_law_619 rfl rfl ?_
  refine r_iadd_N (pc' := 621) hX dL_law_620  rfl ?_
  refine r_sld (pc' := 622) hX dL_law_621 hScr (by omega) hL9 rfl ?_
  refine r_aload_n (pc' := 623) hX dL_law_622 rfl rfl ?_
  refine V_call (k' := k0 + 1) (n' := n0 + 6) (pc' := 626) (wr := ([(od, .inl (cy 7, aD 1 fd))] ++ wm)) hX (r_runSW (As := [.ref f, .int (xs (i + 1)), .ref o]) hX dL_law_623 kw_L_180 (fun l9 hl9 => by cases hl9; exact cW_melt (v := S.1) rfl hF hA.1 (hst := (by rw [hl]; exact hst)) (hq := hq9) ) hG rfl rfl (Nat.le_of_ble_eq_true rfl) (by decide) (by decide) (by omega) (by omega)) (LW_c) (by omega) (by omega) rfl (fun w9 u9 hp9 => ?_)
  obtain ⟨fl1, ws1, rfl, rfl, hP1, hN1⟩ := hp9
  change V X (k0 + 1) (n0 + 6) (([(o, .inl (cy 6, aL 1 fl1))] ++ ws1) ++ ([(od, .inl (cy 7, aD 1 fd))] ++ wm)) [some (.ref b), some (.ref f), some (.ref (ma 0)), some (.ref o), some (.ref od), some (.int (nI i)), none, none, none] [.int (nI (kd 0 0 2 0 1 ((oMelt S.1 (xs (i + 1))).1)))] 626
  refine V_perm (LW_c.symm) ?_
  refine r_istore (L' := [some (.ref b), some (.ref f), some (.ref (ma 0)), some (.ref o), some (.ref od), some (.int (nI i)), some (.int (nI (kd 0 0 2 0 1 ((oMelt S.1 (xs (i + 1))).1)))), none, none]) (pc' := 628) hX dL_law_626 (nlt hnL (by decide)) rfl rfl rfl ?_
  refine r_aload_n (pc' := 629) hX dL_law_628 rfl rfl ?_
  refine r_aload_n (pc' := 630) hX dL_law_629 rfl rfl ?_
  refine r_iload (pc' := 632) hX dL_law_630 rfl rfl ?_
  refine r_iconst (pc' := 633) (v := nI 1) hX dL_law_632 rfl rfl ?_
  refine r_iadd_N (pc' := 634) hX dL_law_633  rfl ?_
  refine r_sld (pc' := 635) hX dL_law_634 hScr (by omega) hL9 rfl ?_
  refine V_call (k' := k0 + 1) (n' := n0 + 6) (pc' := 638) (wr := ([(o, .inl (cy 6, aL 1 fl1)), (od, .inl (cy 7, aD 1 fd))] ++ ws1)) hX (r_runV (As := [.int (xs (i + 1))]) hX dL_law_635 k_L_182 (fun l9 hl9 => cMw_melt hM hv (x := (xs (i + 1)))) hG (MS_recv hM) rfl rfl (Nat.le_of_ble_eq_true rfl) (by decide) (by decide) (by omega) (by omega)) (LW_m) (by omega) (by omega) rfl (fun w9 u9 hp9 => ?_)
  obtain ⟨rfl, hu9⟩ := hp9
  change V X (k0 + 1) (n0 + 6) (u9 ++ ([(o, .inl (cy 6, aL 1 fl1)), (od, .inl (cy 7, aD 1 fd))] ++ ws1)) [some (.ref b), some (.ref f), some (.ref (ma 0)), some (.ref o), some (.ref od), some (.int (nI i)), some (.int (nI (kd 0 0 2 0 1 ((oMelt S.1 (xs (i + 1))).1)))), none, none] [.int (mvl ((oMelt S.1 (xs (i + 1))).1))] 638
  refine V_perm (LW_m.symm) ?_
  refine r_istore (L' := [some (.ref b), some (.ref f), some (.ref (ma 0)), some (.ref o), some (.ref od), some (.int (nI i)), some (.int (nI (kd 0 0 2 0 1 ((oMelt S.1 (xs (i + 1))).1)))), some (.int (mvl ((oMelt S.1 (xs (i + 1))).1))), none]) (pc' := 640) hX dL_law_638 (nlt hnL (by decide)) rfl rfl rfl ?_
  refine r_aload_n (pc' := 641) hX dL_law_640 rfl rfl ?_
  refine V_call (k' := k0 + 1) (n' := n0 + 6) (pc' := 644) (wr := ([(o, .inl (cy 6, aL 1 fl1)), (od, .inl (cy 7, aD 1 fd))] ++ ws1)) hX (r_runV (As := []) hX dL_law_641 k_L_163 (fun l9 hl9 => cMw_thrown hu9) hG (MS_recv hu9) rfl rfl (Nat.le_of_ble_eq_true rfl) (by decide) (by decide) (by omega) (by omega)) (LW_m) (by omega) (by omega) rfl (fun w9 u10 hp9 => ?_)
  obtain ⟨rfl, hu10⟩ := hp9
  change V X (k0 + 1) (n0 + 6) (u10 ++ ([(o, .inl (cy 6, aL 1 fl1)), (od, .inl (cy 7, aD 1 fd))] ++ ws1)) [some (.ref b), some (.ref f), some (.ref (ma 0)), some (.ref o), some (.ref od), some (.int (nI i)), some (.int (nI (kd 0 0 2 0 1 ((oMelt S.1 (xs (i + 1))).1)))), some (.int (mvl ((oMelt S.1 (xs (i + 1))).1))), none] [.int (nI (kd 0 0 2 0 1 ((oMelt S.1 (xs (i + 1))).1)))] 644
  refine V_perm (LW_m.symm) ?_
  refine r_iload (pc' := 646) hX dL_law_644 rfl rfl ?_
  have hkd := kd_lt (a := 0) (b := 0) (c := 2) (d := 0) (e := 1) (x := (oMelt S.1 (xs (i + 1))).1) rfl
  refine r_icmp_eq_N (tgt := 651) (pc' := 649) hX dL_law_646 (by decide) rfl (by omega) (by omega) (fun c646 => ?_) (fun c646 => ?_)
  · refine r_iload (pc' := 653) hX dL_law_651 rfl rfl ?_
    refine r_if_ne_N (tgt := 668) (pc' := 656) hX dL_law_653 (by decide) rfl (by omega) (fun c653 => ?_) (fun c653 => ?_)
    · have hq1 : ((oMelt S.1 (xs (i + 1))).1).toInt < 0 := by
        refine Classical.byContradiction fun h9 => c653 (kd_pos (by omega))
      have hF1 := hN1 hq1
      refine r_goto (tgt := 2780) hX dL_law_668 (by decide) ?_
      refine V_loc (L' := [some (.ref b), some (.ref f), some (.ref (ma 0)), some (.ref o), some (.ref od), some (.int (nI i)), none, none, none]) (lo_w ⟨.inr rfl, .inr rfl, .inr rfl, .inr rfl, .inr rfl, .inr rfl, .inl rfl, .inl rfl, .inr rfl, trivial⟩) ?_
      refine V_widen (k' := k0 + 23) (n' := n0 + 3450) (by omega) (by omega) ?_
      exact cont (aMut S (oMelt S.1 (xs (i + 1)))) _ _ _ _ _ (by unfold aMut; rw [if_pos hq1]; exact hF1) hu10 ((hA.mut ⟨oMelt_inv hInv (by omega), oMelt_fb hFB hv⟩).mono (by omega))
    · have hq0 : 0 ≤ ((oMelt S.1 (xs (i + 1))).1).toInt := by
        rcases hq9 with h9 | h9 | h9
        · exact h9
        · rw [h9] at c653; exact absurd c653 (by decide)
        · rw [h9] at c653; exact absurd c653 (by decide)
      obtain ⟨hF1, hfl1⟩ := hP1 hq0
      refine r_aload_n (pc' := 657) hX dL_law_656 rfl rfl ?_
      refine r_iconst (pc' := 658) (v := nI 0) hX dL_law_657 rfl rfl ?_
      refine r_lald (pc' := 659) hX dL_law_658 (by rw [hcy]) 0 rfl rfl ?_
      rw [hfl1]
      change V X (k0 + 1) (n0 + 6) (LW cy o od fl1 fd ws1 u10) [some (.ref b), some (.ref f), some (.ref (ma 0)), some (.ref o), some (.ref od), some (.int (nI i)), some (.int (nI (kd 0 0 2 0 1 ((oMelt S.1 (xs (i + 1))).1)))), some (.int (mvl ((oMelt S.1 (xs (i + 1))).1))), none] [.long (((oMelt S.1 (xs (i + 1))).1).toInt64)] 659
      refine r_iload (pc' := 661) hX dL_law_659 rfl rfl ?_
      rw [mvl_pos hq0]
      refine r_i2l (pc' := 662) hX dL_law_661 rfl rfl ?_
      refine r_lcmp0 (pc' := 663) hX dL_law_662 rfl ?_
      refine r_if_eq_N (tgt := 668) (pc' := 666) hX dL_law_663 (by decide) rfl (by omega) (fun c663 => ?_) (fun c663 => ?_)
      · refine r_goto (tgt := 2780) hX dL_law_668 (by decide) ?_
        refine V_loc (L' := [some (.ref b), some (.ref f), some (.ref (ma 0)), some (.ref o), some (.ref od), some (.int (nI i)), none, none, none]) (lo_w ⟨.inr rfl, .inr rfl, .inr rfl, .inr rfl, .inr rfl, .inr rfl, .inl rfl, .inl rfl, .inr rfl, trivial⟩) ?_
        refine V_widen (k' := k0 + 23) (n' := n0 + 3450) (by omega) (by omega) ?_
        exact cont (aMut S (oMelt S.1 (xs (i + 1)))) _ _ _ _ _ (by unfold aMut; rw [if_neg (by omega)]; exact hF1) hu10 ((hA.mut ⟨oMelt_inv hInv (by omega), oMelt_fb hFB hv⟩).mono (by omega))
      · exact absurd c663 (by omega)
  · exact absurd c646 (by omega)

set_option maxRecDepth 20000 in
set_option maxHeartbeats 1000000 in
theorem lc_6 {X : xC} {l : Launch} {D : va_G} {cy : Nat → ClassId} {sa : Nat → Nat} {mc ms k0 n0 f o od b L9 i K t : Nat} {ma : Nat → Nat} {xs : Nat → Int32} {S : AS} {fl : Nat → Int64} {fd : Nat → UInt64} {wf wm : va_W} (hX : Ok SF X cL_law RL 16 mc ms) (hG : c0_G X = (D, cy, sa)) (hcy : c0_cy X = cy) (hnL : c0_nL X = 9) (hl : c0_l X = l) (hst : l.stackTraces = false) (hScr : Scr X b L9 xs) (hi : i + 4 ≤ L9) (hL9 : L9 ≤ 2048) (hF : FS cy f S wf) (hM : MS cy ma S t wm) (hA : AJ K S) (hK : K + 61 ≤ 100000) (hk : k0 + 23 ≤ mc) (hn : n0 + 3450 ≤ ms) (cont : ∀ (S1 : AS) (t1 : Nat) (fl1 : Nat → Int64) (fd1 : Nat → UInt64) (wf1 wm1 : va_W), FS cy f S1 wf1 → MS cy ma S1 t1 wm1 → AJ (K + 61) S1 → V X (k0 + 23) (n0 + 3450) (LW cy o od fl1 fd1 wf1 wm1) [some (.ref b), some (.ref f), some (.ref (ma 0)), some (.ref o), some (.ref od), some (.int (nI i)), none, none, none] [] 2780) : V X k0 n0 (LW cy o od fl fd wf wm) [some (.ref b), some (.ref f), some (.ref (ma 0)), some (.ref o), some (.ref od), some (.int (nI i)), none, none, none] [] 671 := by
  have hv : Wf S.1 := hA.1.1.1.1
  have hInv : Inv K S.1 := hA.1.1.1
  have hFB := hA.1.1.2
  have hq9 : 0 ≤ ((oReset S.1 (xs (i + 1))).1).toInt ∨ ((oReset S.1 (xs (i + 1))).1) = -1 := (by
    rcases CO_cases (oReset_co hv (x := (xs (i + 1)))) with h9 | ⟨h9, g9⟩ | ⟨h9, g9⟩ | ⟨h9, g9⟩ | ⟨h9, g9⟩ | ⟨h9, g9⟩
    all_goals first | exact absurd rfl g9 | exact Or.inl h9 | exact Or.inr h9)
  refine r_aload_n (pc' := 672) hX dL_law_671 rfl rfl ?_
  refine r_aload_n (pc' := 673) hX dL_law_672 rfl rfl ?_
  refine r_iload (pc' := 675) hX dL_law_673 rfl rfl ?_
  refine r_iconst (pc' := 676) (v := nI 1) hX dL_law_675 rfl rfl ?_
  refine r_iadd_N (pc' := 677) hX dL_law_676  rfl ?_
  refine r_sld (pc' := 678) hX dL_law_677 hScr (by omega) hL9 rfl ?_
  refine r_aload_n (pc' := 679) hX dL_law_678 rfl rfl ?_
  refine V_call (k' := k0 + 1) (n' := n0 + 6) (pc' := 682) (wr := ([(od, .inl (cy 7, aD 1 fd))] ++ wm)) hX (r_runSW (As := [.ref f, .int (xs (i + 1)), .ref o]) hX dL_law_679 kw_L_183 (fun l9 hl9 => by cases hl9; exact cW_renewMould (v := S.1) rfl hF hA.1 (hst := (by rw [hl]; exact hst)) (hq := hq9) ) hG rfl rfl (Nat.le_of_ble_eq_true rfl) (by decide) (by decide) (by omega) (by omega)) (LW_c) (by omega) (by omega) rfl (fun w9 u9 hp9 => ?_)
  obtain ⟨fl1, ws1, rfl, rfl, hP1, hN1⟩ := hp9
  change V X (k0 + 1) (n0 + 6) (([(o, .inl (cy 6, aL 1 fl1))] ++ ws1) ++ ([(od, .inl (cy 7, aD 1 fd))] ++ wm)) [some (.ref b), some (.ref f), some (.ref (ma 0)), some (.ref o), some (.ref od), some (.int (nI i)), none, none, none] [.int (nI (kd 1 0 0 0 0 ((oReset S.1 (xs (i + 1))).1)))] 682
  refine V_perm (LW_c.symm) ?_
  refine r_istore (L' := [some (.ref b), some (.ref f), some (.ref (ma 0)), some (.ref o), some (.ref od), some (.int (nI i)), some (.int (nI (kd 1 0 0 0 0 ((oReset S.1 (xs (i + 1))).1)))), none, none]) (pc' := 684) hX dL_law_682 (nlt hnL (by decide)) rfl rfl rfl ?_
  refine r_aload_n (pc' := 685) hX dL_law_684 rfl rfl ?_
  refine r_aload_n (pc' := 686) hX dL_law_685 rfl rfl ?_
  refine r_iload (pc' := 688) hX dL_law_686 rfl rfl ?_
  refine r_iconst (pc' := 689) (v := nI 1) hX dL_law_688 rfl rfl ?_
  refine r_iadd_N (pc' := 690) hX dL_law_689  rfl ?_
  refine r_sld (pc' := 691) hX dL_law_690 hScr (by omega) hL9 rfl ?_
  refine V_call (k' := k0 + 1) (n' := n0 + 6) (pc' := 694) (wr := ([(o, .inl (cy 6, aL 1 fl1)), (od, .inl (cy 7, aD 1 fd))] ++ ws1)) hX (r_runV (As := [.int (xs (i + 1))]) hX dL_law_691 k_L_185 (fun l9 hl9 => cMw_renewMould hM hv (x := (xs (i + 1)))) hG (MS_recv hM) rfl rfl (Nat.le_of_ble_eq_true rfl) (by decide) (by decide) (by omega) (by omega)) (LW_m) (by omega) (by omega) rfl (fun w9 u11 hp9 => ?_)
  obtain ⟨rfl, hu11⟩ := hp9
  change V X (k0 + 1) (n0 + 6) (u11 ++ ([(o, .inl (cy 6, aL 1 fl1)), (od, .inl (cy 7, aD 1 fd))] ++ ws1)) [some (.ref b), some (.ref f), some (.ref (ma 0)), some (.ref o), some (.ref od), some (.int (nI i)), some (.int (nI (kd 1 0 0 0 0 ((oReset S.1 (xs (i + 1))).1)))), none, none] [.int (mvl ((oReset S.1 (xs (i + 1))).1))] 694
  refine V_perm (LW_m.symm) ?_
  refine r_istore (L' := [some (.ref b), some (.ref f), some (.ref (ma 0)), some (.ref o), some (.ref od), some (.int (nI i)), some (.int (nI (kd 1 0 0 0 0 ((oReset S.1 (xs (i + 1))).1)))), some (.int (mvl ((oReset S.1 (xs (i + 1))).1))), none]) (pc' := 696) hX dL_law_694 (nlt hnL (by decide)) rfl rfl rfl ?_
  refine r_aload_n (pc' := 697) hX dL_law_696 rfl rfl ?_
  refine V_call (k' := k0 + 1) (n' := n0 + 6) (pc' := 700) (wr := ([(o, .inl (cy 6, aL 1 fl1)), (od, .inl (cy 7, aD 1 fd))] ++ ws1)) hX (r_runV (As := []) hX dL_law_697 k_L_163 (fun l9 hl9 => cMw_thrown hu11) hG (MS_recv hu11) rfl rfl (Nat.le_of_ble_eq_true rfl) (by decide) (by decide) (by omega) (by omega)) (LW_m) (by omega) (by omega) rfl (fun w9 u12 hp9 => ?_)
  obtain ⟨rfl, hu12⟩ := hp9
  change V X (k0 + 1) (n0 + 6) (u12 ++ ([(o, .inl (cy 6, aL 1 fl1)), (od, .inl (cy 7, aD 1 fd))] ++ ws1)) [some (.ref b), some (.ref f), some (.ref (ma 0)), some (.ref o), some (.ref od), some (.int (nI i)), some (.int (nI (kd 1 0 0 0 0 ((oReset S.1 (xs (i + 1))).1)))), some (.int (mvl ((oReset S.1 (xs (i + 1))).1))), none] [.int (nI (kd 1 0 0 0 0 ((oReset S.1 (xs (i + 1))).1)))] 700
  refine V_perm (LW_m.symm) ?_
  refine r_iload (pc' := 702) hX dL_law_700 rfl rfl ?_
  have hkd := kd_lt (a := 1) (b := 0) (c := 0) (d := 0) (e := 0) (x := (oReset S.1 (xs (i + 1))).1) rfl
  refine r_icmp_eq_N (tgt := 707) (pc' := 705) hX dL_law_702 (by decide) rfl (by omega) (by omega) (fun c702 => ?_) (fun c702 => ?_)
  · refine r_iload (pc' := 709) hX dL_law_707 rfl rfl ?_
    refine r_if_ne_N (tgt := 724) (pc' := 712) hX dL_law_709 (by decide) rfl (by omega) (fun c709 => ?_) (fun c709 => ?_)
    · have hq1 : ((oReset S.1 (xs (i + 1))).1).toInt < 0 := by
        refine Classical.byContradiction fun h9 => c709 (kd_pos (by omega))
      have hF1 := hN1 hq1
      refine r_goto (tgt := 2780) hX dL_law_724 (by decide) ?_
      refine V_loc (L' := [some (.ref b), some (.ref f), some (.ref (ma 0)), some (.ref o), some (.ref od), some (.int (nI i)), none, none, none]) (lo_w ⟨.inr rfl, .inr rfl, .inr rfl, .inr rfl, .inr rfl, .inr rfl, .inl rfl, .inl rfl, .inr rfl, trivial⟩) ?_
      refine V_widen (k' := k0 + 23) (n' := n0 + 3450) (by omega) (by omega) ?_
      exact cont (aMut S (oReset S.1 (xs (i + 1)))) _ _ _ _ _ (by unfold aMut; rw [if_pos hq1]; exact hF1) hu12 ((hA.mut ⟨oReset_inv hInv, oReset_fb hFB⟩).mono (by omega))
    · have hq0 : 0 ≤ ((oReset S.1 (xs (i + 1))).1).toInt := by
        rcases hq9 with h9 | h9
        · exact h9
        · rw [h9] at c709; exact absurd c709 (by decide)
      obtain ⟨hF1, hfl1⟩ := hP1 hq0
      refine r_aload_n (pc' := 713) hX dL_law_712 rfl rfl ?_
      refine r_iconst (pc' := 714) (v := nI 0) hX dL_law_713 rfl rfl ?_
      refine r_lald (pc' := 715) hX dL_law_714 (by rw [hcy]) 0 rfl rfl ?_
      rw [hfl1]
      change V X (k0 + 1) (n0 + 6) (LW cy o od fl1 fd ws1 u12) [some (.ref b), some (.ref f), some (.ref (ma 0)), some (.ref o), some (.ref od), some (.int (nI i)), some (.int (nI (kd 1 0 0 0 0 ((oReset S.1 (xs (i + 1))).1)))), some (.int (mvl ((oReset S.1 (xs (i + 1))).1))), none] [.long (((oReset S.1 (xs (i + 1))).1).toInt64)] 715
      refine r_iload (pc' := 717) hX dL_law_715 rfl rfl ?_
      rw [mvl_pos hq0]
      refine r_i2l (pc' := 718) hX dL_law_717 rfl rfl ?_
      refine r_lcmp0 (pc' := 719) hX dL_law_718 rfl ?_
      refine r_if_eq_N (tgt := 724) (pc' := 722) hX dL_law_719 (by decide) rfl (by omega) (fun c719 => ?_) (fun c719 => ?_)
      · refine r_goto (tgt := 2780) hX dL_law_724 (by decide) ?_
        refine V_loc (L' := [some (.ref b), some (.ref f), some (.ref (ma 0)), some (.ref o), some (.ref od), some (.int (nI i)), none, none, none]) (lo_w ⟨.inr rfl, .inr rfl, .inr rfl, .inr rfl, .inr rfl, .inr rfl, .inl rfl, .inl rfl, .inr rfl, trivial⟩) ?_
        refine V_widen (k' := k0 + 23) (n' := n0 + 3450) (by omega) (by omega) ?_
        exact cont (aMut S (oReset S.1 (xs (i + 1)))) _ _ _ _ _ (by unfold aMut; rw [if_neg (by omega)]; exact hF1) hu12 ((hA.mut ⟨oReset_inv hInv, oReset_fb hFB⟩).mono (by omega))
      · exact absurd c719 (by omega)
  · exact absurd c702 (by omega)

set_option maxRecDepth 20000 in
set_option maxHeartbeats 1000000 in
theorem lc_7 {X : xC} {l : Launch} {D : va_G} {cy : Nat → ClassId} {sa : Nat → Nat} {mc ms k0 n0 f o od b L9 i K t : Nat} {ma : Nat → Nat} {xs : Nat → Int32} {S : AS} {fl : Nat → Int64} {fd : Nat → UInt64} {wf wm : va_W} (hX : Ok SF X cL_law RL 16 mc ms) (hG : c0_G X = (D, cy, sa)) (hcy : c0_cy X = cy) (hnL : c0_nL X = 9) (hl : c0_l X = l) (hst : l.stackTraces = false) (hScr : Scr X b L9 xs) (hi : i + 4 ≤ L9) (hL9 : L9 ≤ 2048) (hF : FS cy f S wf) (hM : MS cy ma S t wm) (hA : AJ K S) (hK : K + 61 ≤ 100000) (hk : k0 + 23 ≤ mc) (hn : n0 + 3450 ≤ ms) (cont : ∀ (S1 : AS) (t1 : Nat) (fl1 : Nat → Int64) (fd1 : Nat → UInt64) (wf1 wm1 : va_W), FS cy f S1 wf1 → MS cy ma S1 t1 wm1 → AJ (K + 61) S1 → V X (k0 + 23) (n0 + 3450) (LW cy o od fl1 fd1 wf1 wm1) [some (.ref b), some (.ref f), some (.ref (ma 0)), some (.ref o), some (.ref od), some (.int (nI i)), none, none, none] [] 2780) : V X k0 n0 (LW cy o od fl fd wf wm) [some (.ref b), some (.ref f), some (.ref (ma 0)), some (.ref o), some (.ref od), some (.int (nI i)), none, none, none] [] 727 := by
  have hv : Wf S.1 := hA.1.1.1.1
  have hInv : Inv K S.1 := hA.1.1.1
  have hFB := hA.1.1.2
  have hq9 : 0 ≤ ((oTol S.1 (xs (i + 1))).1).toInt ∨ ((oTol S.1 (xs (i + 1))).1) = -2 := (by
    rcases CO_cases (oTol_co hv (x := (xs (i + 1)))) with h9 | ⟨h9, g9⟩ | ⟨h9, g9⟩ | ⟨h9, g9⟩ | ⟨h9, g9⟩ | ⟨h9, g9⟩
    all_goals first | exact absurd rfl g9 | exact Or.inl h9 | exact Or.inr h9)
  refine r_aload_n (pc' := 728) hX dL_law_727 rfl rfl ?_
  refine r_aload_n (pc' := 729) hX dL_law_728 rfl rfl ?_
  refine r_iload (pc' := 731) hX dL_law_729 rfl rfl ?_
  refine r_iconst (pc' := 732) (v := nI 1) hX dL_law_731 rfl rfl ?_
  refine r_iadd_N (pc' := 733) hX dL_law_732  rfl ?_
  refine r_sld (pc' := 734) hX dL_law_733 hScr (by omega) hL9 rfl ?_
  refine r_aload_n (pc' := 735) hX dL_law_734 rfl rfl ?_
  refine V_call (k' := k0 + 1) (n' := n0 + 6) (pc' := 738) (wr := ([(od, .inl (cy 7, aD 1 fd))] ++ wm)) hX (r_runSW (As := [.ref f, .int (xs (i + 1)), .ref o]) hX dL_law_735 kw_L_186 (fun l9 hl9 => by cases hl9; exact cW_setTolerance (v := S.1) rfl hF hA.1 (hst := (by rw [hl]; exact hst)) (hq := hq9) ) hG rfl rfl (Nat.le_of_ble_eq_true rfl) (by decide) (by decide) (by omega) (by omega)) (LW_c) (by omega) (by omega) rfl (fun w9 u9 hp9 => ?_)
  obtain ⟨fl1, ws1, rfl, rfl, hP1, hN1⟩ := hp9
  change V X (k0 + 1) (n0 + 6) (([(o, .inl (cy 6, aL 1 fl1))] ++ ws1) ++ ([(od, .inl (cy 7, aD 1 fd))] ++ wm)) [some (.ref b), some (.ref f), some (.ref (ma 0)), some (.ref o), some (.ref od), some (.int (nI i)), none, none, none] [.int (nI (kd 0 1 0 0 0 ((oTol S.1 (xs (i + 1))).1)))] 738
  refine V_perm (LW_c.symm) ?_
  refine r_istore (L' := [some (.ref b), some (.ref f), some (.ref (ma 0)), some (.ref o), some (.ref od), some (.int (nI i)), some (.int (nI (kd 0 1 0 0 0 ((oTol S.1 (xs (i + 1))).1)))), none, none]) (pc' := 740) hX dL_law_738 (nlt hnL (by decide)) rfl rfl rfl ?_
  refine r_aload_n (pc' := 741) hX dL_law_740 rfl rfl ?_
  refine r_aload_n (pc' := 742) hX dL_law_741 rfl rfl ?_
  refine r_iload (pc' := 744) hX dL_law_742 rfl rfl ?_
  refine r_iconst (pc' := 745) (v := nI 1) hX dL_law_744 rfl rfl ?_
  refine r_iadd_N (pc' := 746) hX dL_law_745  rfl ?_
  refine r_sld (pc' := 747) hX dL_law_746 hScr (by omega) hL9 rfl ?_
  refine V_call (k' := k0 + 1) (n' := n0 + 6) (pc' := 750) (wr := ([(o, .inl (cy 6, aL 1 fl1)), (od, .inl (cy 7, aD 1 fd))] ++ ws1)) hX (r_runV (As := [.int (xs (i + 1))]) hX dL_law_747 k_L_188 (fun l9 hl9 => cMw_setTolerance hM hv (x := (xs (i + 1)))) hG (MS_recv hM) rfl rfl (Nat.le_of_ble_eq_true rfl) (by decide) (by decide) (by omega) (by omega)) (LW_m) (by omega) (by omega) rfl (fun w9 u13 hp9 => ?_)
  obtain ⟨rfl, hu13⟩ := hp9
  change V X (k0 + 1) (n0 + 6) (u13 ++ ([(o, .inl (cy 6, aL 1 fl1)), (od, .inl (cy 7, aD 1 fd))] ++ ws1)) [some (.ref b), some (.ref f), some (.ref (ma 0)), some (.ref o), some (.ref od), some (.int (nI i)), some (.int (nI (kd 0 1 0 0 0 ((oTol S.1 (xs (i + 1))).1)))), none, none] [.int (mvl ((oTol S.1 (xs (i + 1))).1))] 750
  refine V_perm (LW_m.symm) ?_
  refine r_istore (L' := [some (.ref b), some (.ref f), some (.ref (ma 0)), some (.ref o), some (.ref od), some (.int (nI i)), some (.int (nI (kd 0 1 0 0 0 ((oTol S.1 (xs (i + 1))).1)))), some (.int (mvl ((oTol S.1 (xs (i + 1))).1))), none]) (pc' := 752) hX dL_law_750 (nlt hnL (by decide)) rfl rfl rfl ?_
  refine r_aload_n (pc' := 753) hX dL_law_752 rfl rfl ?_
  refine V_call (k' := k0 + 1) (n' := n0 + 6) (pc' := 756) (wr := ([(o, .inl (cy 6, aL 1 fl1)), (od, .inl (cy 7, aD 1 fd))] ++ ws1)) hX (r_runV (As := []) hX dL_law_753 k_L_163 (fun l9 hl9 => cMw_thrown hu13) hG (MS_recv hu13) rfl rfl (Nat.le_of_ble_eq_true rfl) (by decide) (by decide) (by omega) (by omega)) (LW_m) (by omega) (by omega) rfl (fun w9 u14 hp9 => ?_)
  obtain ⟨rfl, hu14⟩ := hp9
  change V X (k0 + 1) (n0 + 6) (u14 ++ ([(o, .inl (cy 6, aL 1 fl1)), (od, .inl (cy 7, aD 1 fd))] ++ ws1)) [some (.ref b), some (.ref f), some (.ref (ma 0)), some (.ref o), some (.ref od), some (.int (nI i)), some (.int (nI (kd 0 1 0 0 0 ((oTol S.1 (xs (i + 1))).1)))), some (.int (mvl ((oTol S.1 (xs (i + 1))).1))), none] [.int (nI (kd 0 1 0 0 0 ((oTol S.1 (xs (i + 1))).1)))] 756
  refine V_perm (LW_m.symm) ?_
  refine r_iload (pc' := 758) hX dL_law_756 rfl rfl ?_
  have hkd := kd_lt (a := 0) (b := 1) (c := 0) (d := 0) (e := 0) (x := (oTol S.1 (xs (i + 1))).1) rfl
  refine r_icmp_eq_N (tgt := 763) (pc' := 761) hX dL_law_758 (by decide) rfl (by omega) (by omega) (fun c758 => ?_) (fun c758 => ?_)
  · refine r_iload (pc' := 765) hX dL_law_763 rfl rfl ?_
    refine r_if_ne_N (tgt := 780) (pc' := 768) hX dL_law_765 (by decide) rfl (by omega) (fun c765 => ?_) (fun c765 => ?_)
    · have hq1 : ((oTol S.1 (xs (i + 1))).1).toInt < 0 := by
        refine Classical.byContradiction fun h9 => c765 (kd_pos (by omega))
      have hF1 := hN1 hq1
      refine r_goto (tgt := 2780) hX dL_law_780 (by decide) ?_
      refine V_loc (L' := [some (.ref b), some (.ref f), some (.ref (ma 0)), some (.ref o), some (.ref od), some (.int (nI i)), none, none, none]) (lo_w ⟨.inr rfl, .inr rfl, .inr rfl, .inr rfl, .inr rfl, .inr rfl, .inl rfl, .inl rfl, .inr rfl, trivial⟩) ?_
      refine V_widen (k' := k0 + 23) (n' := n0 + 3450) (by omega) (by omega) ?_
      exact cont (aMut S (oTol S.1 (xs (i + 1)))) _ _ _ _ _ (by unfold aMut; rw [if_pos hq1]; exact hF1) hu14 ((hA.mut ⟨oTol_inv hInv, oTol_fb hFB⟩).mono (by omega))
    · have hq0 : 0 ≤ ((oTol S.1 (xs (i + 1))).1).toInt := by
        rcases hq9 with h9 | h9
        · exact h9
        · rw [h9] at c765; exact absurd c765 (by decide)
      obtain ⟨hF1, hfl1⟩ := hP1 hq0
      refine r_aload_n (pc' := 769) hX dL_law_768 rfl rfl ?_
      refine r_iconst (pc' := 770) (v := nI 0) hX dL_law_769 rfl rfl ?_
      refine r_lald (pc' := 771) hX dL_law_770 (by rw [hcy]) 0 rfl rfl ?_
      rw [hfl1]
      change V X (k0 + 1) (n0 + 6) (LW cy o od fl1 fd ws1 u14) [some (.ref b), some (.ref f), some (.ref (ma 0)), some (.ref o), some (.ref od), some (.int (nI i)), some (.int (nI (kd 0 1 0 0 0 ((oTol S.1 (xs (i + 1))).1)))), some (.int (mvl ((oTol S.1 (xs (i + 1))).1))), none] [.long (((oTol S.1 (xs (i + 1))).1).toInt64)] 771
      refine r_iload (pc' := 773) hX dL_law_771 rfl rfl ?_
      rw [mvl_pos hq0]
      refine r_i2l (pc' := 774) hX dL_law_773 rfl rfl ?_
      refine r_lcmp0 (pc' := 775) hX dL_law_774 rfl ?_
      refine r_if_eq_N (tgt := 780) (pc' := 778) hX dL_law_775 (by decide) rfl (by omega) (fun c775 => ?_) (fun c775 => ?_)
      · refine r_goto (tgt := 2780) hX dL_law_780 (by decide) ?_
        refine V_loc (L' := [some (.ref b), some (.ref f), some (.ref (ma 0)), some (.ref o), some (.ref od), some (.int (nI i)), none, none, none]) (lo_w ⟨.inr rfl, .inr rfl, .inr rfl, .inr rfl, .inr rfl, .inr rfl, .inl rfl, .inl rfl, .inr rfl, trivial⟩) ?_
        refine V_widen (k' := k0 + 23) (n' := n0 + 3450) (by omega) (by omega) ?_
        exact cont (aMut S (oTol S.1 (xs (i + 1)))) _ _ _ _ _ (by unfold aMut; rw [if_neg (by omega)]; exact hF1) hu14 ((hA.mut ⟨oTol_inv hInv, oTol_fb hFB⟩).mono (by omega))
      · exact absurd c775 (by omega)
  · exact absurd c758 (by omega)

set_option maxRecDepth 20000 in
set_option maxHeartbeats 1000000 in
theorem lc_8 {X : xC} {l : Launch} {D : va_G} {cy : Nat → ClassId} {sa : Nat → Nat} {mc ms k0 n0 f o od b L9 i K t : Nat} {ma : Nat → Nat} {xs : Nat → Int32} {S : AS} {fl : Nat → Int64} {fd : Nat → UInt64} {wf wm : va_W} (hX : Ok SF X cL_law RL 16 mc ms) (hG : c0_G X = (D, cy, sa)) (hcy : c0_cy X = cy) (hnL : c0_nL X = 9) (hl : c0_l X = l) (hst : l.stackTraces = false) (hScr : Scr X b L9 xs) (hi : i + 4 ≤ L9) (hL9 : L9 ≤ 2048) (hF : FS cy f S wf) (hM : MS cy ma S t wm) (hA : AJ K S) (hK : K + 61 ≤ 100000) (hk : k0 + 23 ≤ mc) (hn : n0 + 3450 ≤ ms) (cont : ∀ (S1 : AS) (t1 : Nat) (fl1 : Nat → Int64) (fd1 : Nat → UInt64) (wf1 wm1 : va_W), FS cy f S1 wf1 → MS cy ma S1 t1 wm1 → AJ (K + 61) S1 → V X (k0 + 23) (n0 + 3450) (LW cy o od fl1 fd1 wf1 wm1) [some (.ref b), some (.ref f), some (.ref (ma 0)), some (.ref o), some (.ref od), some (.int (nI i)), none, none, none] [] 2780) : V X k0 n0 (LW cy o od fl fd wf wm) [some (.ref b), some (.ref f), some (.ref (ma 0)), some (.ref o), some (.ref od), some (.int (nI i)), none, none, none] [] 783 := by
  have hv : Wf S.1 := hA.1.1.1.1
  have hInv : Inv K S.1 := hA.1.1.1
  have hFB := hA.1.1.2
  have hq9 : 0 ≤ ((oStep S.1 (xs (i + 1))).1).toInt ∨ ((oStep S.1 (xs (i + 1))).1) = -2 := (by
    rcases CO_cases (oStep_co hv (x := (xs (i + 1)))) with h9 | ⟨h9, g9⟩ | ⟨h9, g9⟩ | ⟨h9, g9⟩ | ⟨h9, g9⟩ | ⟨h9, g9⟩
    all_goals first | exact absurd rfl g9 | exact Or.inl h9 | exact Or.inr h9)
  refine r_aload_n (pc' := 784) hX dL_law_783 rfl rfl ?_
  refine r_aload_n (pc' := 785) hX dL_law_784 rfl rfl ?_
  refine r_iload (pc' := 787) hX dL_law_785 rfl rfl ?_
  refine r_iconst (pc' := 788) (v := nI 1) hX dL_law_787 rfl rfl ?_
  refine r_iadd_N (pc' := 789) hX dL_law_788  rfl ?_
  refine r_sld (pc' := 790) hX dL_law_789 hScr (by omega) hL9 rfl ?_
  refine r_aload_n (pc' := 791) hX dL_law_790 rfl rfl ?_
  refine V_call (k' := k0 + 1) (n' := n0 + 6) (pc' := 794) (wr := ([(od, .inl (cy 7, aD 1 fd))] ++ wm)) hX (r_runSW (As := [.ref f, .int (xs (i + 1)), .ref o]) hX dL_law_791 kw_L_189 (fun l9 hl9 => by cases hl9; exact cW_setStep (v := S.1) rfl hF hA.1 (hst := (by rw [hl]; exact hst)) (hq := hq9) ) hG rfl rfl (Nat.le_of_ble_eq_true rfl) (by decide) (by decide) (by omega) (by omega)) (LW_c) (by omega) (by omega) rfl (fun w9 u9 hp9 => ?_)
  obtain ⟨fl1, ws1, rfl, rfl, hP1, hN1⟩ := hp9
  change V X (k0 + 1) (n0 + 6) (([(o, .inl (cy 6, aL 1 fl1))] ++ ws1) ++ ([(od, .inl (cy 7, aD 1 fd))] ++ wm)) [some (.ref b), some (.ref f), some (.ref (ma 0)), some (.ref o), some (.ref od), some (.int (nI i)), none, none, none] [.int (nI (kd 0 1 0 0 0 ((oStep S.1 (xs (i + 1))).1)))] 794
  refine V_perm (LW_c.symm) ?_
  refine r_istore (L' := [some (.ref b), some (.ref f), some (.ref (ma 0)), some (.ref o), some (.ref od), some (.int (nI i)), some (.int (nI (kd 0 1 0 0 0 ((oStep S.1 (xs (i + 1))).1)))), none, none]) (pc' := 796) hX dL_law_794 (nlt hnL (by decide)) rfl rfl rfl ?_
  refine r_aload_n (pc' := 797) hX dL_law_796 rfl rfl ?_
  refine r_aload_n (pc' := 798) hX dL_law_797 rfl rfl ?_
  refine r_iload (pc' := 800) hX dL_law_798 rfl rfl ?_
  refine r_iconst (pc' := 801) (v := nI 1) hX dL_law_800 rfl rfl ?_
  refine r_iadd_N (pc' := 802) hX dL_law_801  rfl ?_
  refine r_sld (pc' := 803) hX dL_law_802 hScr (by omega) hL9 rfl ?_
  refine V_call (k' := k0 + 1) (n' := n0 + 6) (pc' := 806) (wr := ([(o, .inl (cy 6, aL 1 fl1)), (od, .inl (cy 7, aD 1 fd))] ++ ws1)) hX (r_runV (As := [.int (xs (i + 1))]) hX dL_law_803 k_L_191 (fun l9 hl9 => cMw_setStep hM hv (x := (xs (i + 1)))) hG (MS_recv hM) rfl rfl (Nat.le_of_ble_eq_true rfl) (by decide) (by decide) (by omega) (by omega)) (LW_m) (by omega) (by omega) rfl (fun w9 u15 hp9 => ?_)
  obtain ⟨rfl, hu15⟩ := hp9
  change V X (k0 + 1) (n0 + 6) (u15 ++ ([(o, .inl (cy 6, aL 1 fl1)), (od, .inl (cy 7, aD 1 fd))] ++ ws1)) [some (.ref b), some (.ref f), some (.ref (ma 0)), some (.ref o), some (.ref od), some (.int (nI i)), some (.int (nI (kd 0 1 0 0 0 ((oStep S.1 (xs (i + 1))).1)))), none, none] [.int (mvl ((oStep S.1 (xs (i + 1))).1))] 806
  refine V_perm (LW_m.symm) ?_
  refine r_istore (L' := [some (.ref b), some (.ref f), some (.ref (ma 0)), some (.ref o), some (.ref od), some (.int (nI i)), some (.int (nI (kd 0 1 0 0 0 ((oStep S.1 (xs (i + 1))).1)))), some (.int (mvl ((oStep S.1 (xs (i + 1))).1))), none]) (pc' := 808) hX dL_law_806 (nlt hnL (by decide)) rfl rfl rfl ?_
  refine r_aload_n (pc' := 809) hX dL_law_808 rfl rfl ?_
  refine V_call (k' := k0 + 1) (n' := n0 + 6) (pc' := 812) (wr := ([(o, .inl (cy 6, aL 1 fl1)), (od, .inl (cy 7, aD 1 fd))] ++ ws1)) hX (r_runV (As := []) hX dL_law_809 k_L_163 (fun l9 hl9 => cMw_thrown hu15) hG (MS_recv hu15) rfl rfl (Nat.le_of_ble_eq_true rfl) (by decide) (by decide) (by omega) (by omega)) (LW_m) (by omega) (by omega) rfl (fun w9 u16 hp9 => ?_)
  obtain ⟨rfl, hu16⟩ := hp9
  change V X (k0 + 1) (n0 + 6) (u16 ++ ([(o, .inl (cy 6, aL 1 fl1)), (od, .inl (cy 7, aD 1 fd))] ++ ws1)) [some (.ref b), some (.ref f), some (.ref (ma 0)), some (.ref o), some (.ref od), some (.int (nI i)), some (.int (nI (kd 0 1 0 0 0 ((oStep S.1 (xs (i + 1))).1)))), some (.int (mvl ((oStep S.1 (xs (i + 1))).1))), none] [.int (nI (kd 0 1 0 0 0 ((oStep S.1 (xs (i + 1))).1)))] 812
  refine V_perm (LW_m.symm) ?_
  refine r_iload (pc' := 814) hX dL_law_812 rfl rfl ?_
  have hkd := kd_lt (a := 0) (b := 1) (c := 0) (d := 0) (e := 0) (x := (oStep S.1 (xs (i + 1))).1) rfl
  refine r_icmp_eq_N (tgt := 819) (pc' := 817) hX dL_law_814 (by decide) rfl (by omega) (by omega) (fun c814 => ?_) (fun c814 => ?_)
  · refine r_iload (pc' := 821) hX dL_law_819 rfl rfl ?_
    refine r_if_ne_N (tgt := 836) (pc' := 824) hX dL_law_821 (by decide) rfl (by omega) (fun c821 => ?_) (fun c821 => ?_)
    · have hq1 : ((oStep S.1 (xs (i + 1))).1).toInt < 0 := by
        refine Classical.byContradiction fun h9 => c821 (kd_pos (by omega))
      have hF1 := hN1 hq1
      refine r_goto (tgt := 2780) hX dL_law_836 (by decide) ?_
      refine V_loc (L' := [some (.ref b), some (.ref f), some (.ref (ma 0)), some (.ref o), some (.ref od), some (.int (nI i)), none, none, none]) (lo_w ⟨.inr rfl, .inr rfl, .inr rfl, .inr rfl, .inr rfl, .inr rfl, .inl rfl, .inl rfl, .inr rfl, trivial⟩) ?_
      refine V_widen (k' := k0 + 23) (n' := n0 + 3450) (by omega) (by omega) ?_
      exact cont (aMut S (oStep S.1 (xs (i + 1)))) _ _ _ _ _ (by unfold aMut; rw [if_pos hq1]; exact hF1) hu16 ((hA.mut ⟨oStep_inv hInv, oStep_fb hFB⟩).mono (by omega))
    · have hq0 : 0 ≤ ((oStep S.1 (xs (i + 1))).1).toInt := by
        rcases hq9 with h9 | h9
        · exact h9
        · rw [h9] at c821; exact absurd c821 (by decide)
      obtain ⟨hF1, hfl1⟩ := hP1 hq0
      refine r_aload_n (pc' := 825) hX dL_law_824 rfl rfl ?_
      refine r_iconst (pc' := 826) (v := nI 0) hX dL_law_825 rfl rfl ?_
      refine r_lald (pc' := 827) hX dL_law_826 (by rw [hcy]) 0 rfl rfl ?_
      rw [hfl1]
      change V X (k0 + 1) (n0 + 6) (LW cy o od fl1 fd ws1 u16) [some (.ref b), some (.ref f), some (.ref (ma 0)), some (.ref o), some (.ref od), some (.int (nI i)), some (.int (nI (kd 0 1 0 0 0 ((oStep S.1 (xs (i + 1))).1)))), some (.int (mvl ((oStep S.1 (xs (i + 1))).1))), none] [.long (((oStep S.1 (xs (i + 1))).1).toInt64)] 827
      refine r_iload (pc' := 829) hX dL_law_827 rfl rfl ?_
      rw [mvl_pos hq0]
      refine r_i2l (pc' := 830) hX dL_law_829 rfl rfl ?_
      refine r_lcmp0 (pc' := 831) hX dL_law_830 rfl ?_
      refine r_if_eq_N (tgt := 836) (pc' := 834) hX dL_law_831 (by decide) rfl (by omega) (fun c831 => ?_) (fun c831 => ?_)
      · refine r_goto (tgt := 2780) hX dL_law_836 (by decide) ?_
        refine V_loc (L' := [some (.ref b), some (.ref f), some (.ref (ma 0)), some (.ref o), some (.ref od), some (.int (nI i)), none, none, none]) (lo_w ⟨.inr rfl, .inr rfl, .inr rfl, .inr rfl, .inr rfl, .inr rfl, .inl rfl, .inl rfl, .inr rfl, trivial⟩) ?_
        refine V_widen (k' := k0 + 23) (n' := n0 + 3450) (by omega) (by omega) ?_
        exact cont (aMut S (oStep S.1 (xs (i + 1)))) _ _ _ _ _ (by unfold aMut; rw [if_neg (by omega)]; exact hF1) hu16 ((hA.mut ⟨oStep_inv hInv, oStep_fb hFB⟩).mono (by omega))
      · exact absurd c831 (by omega)
  · exact absurd c814 (by omega)

set_option maxRecDepth 20000 in
set_option maxHeartbeats 1000000 in
theorem lc_10 {X : xC} {l : Launch} {D : va_G} {cy : Nat → ClassId} {sa : Nat → Nat} {mc ms k0 n0 f o od b L9 i K t : Nat} {ma : Nat → Nat} {xs : Nat → Int32} {S : AS} {fl : Nat → Int64} {fd : Nat → UInt64} {wf wm : va_W} (hX : Ok SF X cL_law RL 16 mc ms) (hG : c0_G X = (D, cy, sa)) (hcy : c0_cy X = cy) (hnL : c0_nL X = 9) (hl : c0_l X = l) (hst : l.stackTraces = false) (hScr : Scr X b L9 xs) (hi : i + 4 ≤ L9) (hL9 : L9 ≤ 2048) (hF : FS cy f S wf) (hM : MS cy ma S t wm) (hA : AJ K S) (hK : K + 61 ≤ 100000) (hk : k0 + 23 ≤ mc) (hn : n0 + 3450 ≤ ms) (cont : ∀ (S1 : AS) (t1 : Nat) (fl1 : Nat → Int64) (fd1 : Nat → UInt64) (wf1 wm1 : va_W), FS cy f S1 wf1 → MS cy ma S1 t1 wm1 → AJ (K + 61) S1 → V X (k0 + 23) (n0 + 3450) (LW cy o od fl1 fd1 wf1 wm1) [some (.ref b), some (.ref f), some (.ref (ma 0)), some (.ref o), some (.ref od), some (.int (nI i)), none, none, none] [] 2780) : V X k0 n0 (LW cy o od fl fd wf wm) [some (.ref b), some (.ref f), some (.ref (ma 0)), some (.ref o), some (.ref od), some (.int (nI i)), none, none, none] [] 852 := by
  have hv : Wf S.1 := hA.1.1.1.1
  have hInv : Inv K S.1 := hA.1.1.1
  have hFB := hA.1.1.2
  have hq9 : 0 ≤ (qParts S.1 (xs (i + 1)) (xs (i + 2))).toInt ∨ (qParts S.1 (xs (i + 1)) (xs (i + 2))) = -1 := qParts_q hv
  have hkk : kd 1 0 0 0 0 (qParts S.1 (xs (i + 1)) (xs (i + 2))) = kd 1 1 1 1 1 (qParts S.1 (xs (i + 1)) (xs (i + 2))) := by
    rcases hq9 with h9 | h9
    · rw [kd_pos h9, kd_pos h9]
    · rw [h9]; rfl
  refine r_aload_n (pc' := 853) hX dL_law_852 rfl rfl ?_
  refine r_aload_n (pc' := 854) hX dL_law_853 rfl rfl ?_
  refine r_iload (pc' := 856) hX dL_law_854 rfl rfl ?_
  refine r_iconst (pc' := 857) (v := nI 1) hX dL_law_856 rfl rfl ?_
  refine r_iadd_N (pc' := 858) hX dL_law_857  rfl ?_
  refine r_sld (pc' := 859) hX dL_law_858 hScr (by omega) hL9 rfl ?_
  refine r_aload_n (pc' := 860) hX dL_law_859 rfl rfl ?_
  refine r_iload (pc' := 862) hX dL_law_860 rfl rfl ?_
  refine r_iconst (pc' := 863) (v := nI 2) hX dL_law_862 rfl rfl ?_
  refine r_iadd_N (pc' := 864) hX dL_law_863  rfl ?_
  refine r_sld (pc' := 865) hX dL_law_864 hScr (by omega) hL9 rfl ?_
  refine r_aload_n (pc' := 866) hX dL_law_865 rfl rfl ?_
  refine V_call (k' := k0 + 1) (n' := n0 + 6) (pc' := 869) (wr := ([(od, .inl (cy 7, aD 1 fd))] ++ wm)) hX (r_runSW (As := [.ref f, .int (xs (i + 1)), .int (xs (i + 2)), .ref o]) hX dL_law_866 kw_L_196 (fun l9 hl9 => by cases hl9; exact cW_parts (v := S.1) rfl hF hA.1 (hst := (by rw [hl]; exact hst)) (hq := hq9) ) hG rfl rfl (Nat.le_of_ble_eq_true rfl) (by decide) (by decide) (by omega) (by omega)) (LW_c) (by omega) (by omega) rfl (fun w9 u9 hp9 => ?_)
  obtain ⟨fl1, ws1, rfl, rfl, hP1, hN1⟩ := hp9
  rw [hkk]
  change V X (k0 + 1) (n0 + 6) (([(o, .inl (cy 6, aL 1 fl1))] ++ ws1) ++ ([(od, .inl (cy 7, aD 1 fd))] ++ wm)) [some (.ref b), some (.ref f), some (.ref (ma 0)), some (.ref o), some (.ref od), some (.int (nI i)), none, none, none] [.int (nI (kd 1 1 1 1 1 (qParts S.1 (xs (i + 1)) (xs (i + 2)))))] 869
  refine V_perm (LW_c.symm) ?_
  refine r_istore (L' := [some (.ref b), some (.ref f), some (.ref (ma 0)), some (.ref o), some (.ref od), some (.int (nI i)), some (.int (nI (kd 1 1 1 1 1 (qParts S.1 (xs (i + 1)) (xs (i + 2)))))), none, none]) (pc' := 871) hX dL_law_869 (nlt hnL (by decide)) rfl rfl rfl ?_
  refine r_aload_n (pc' := 872) hX dL_law_871 rfl rfl ?_
  refine r_aload_n (pc' := 873) hX dL_law_872 rfl rfl ?_
  refine r_iload (pc' := 875) hX dL_law_873 rfl rfl ?_
  refine r_iconst (pc' := 876) (v := nI 1) hX dL_law_875 rfl rfl ?_
  refine r_iadd_N (pc' := 877) hX dL_law_876  rfl ?_
  refine r_sld (pc' := 878) hX dL_law_877 hScr (by omega) hL9 rfl ?_
  refine r_aload_n (pc' := 879) hX dL_law_878 rfl rfl ?_
  refine r_iload (pc' := 881) hX dL_law_879 rfl rfl ?_
  refine r_iconst (pc' := 882) (v := nI 2) hX dL_law_881 rfl rfl ?_
  refine r_iadd_N (pc' := 883) hX dL_law_882  rfl ?_
  refine r_sld (pc' := 884) hX dL_law_883 hScr (by omega) hL9 rfl ?_
  refine V_call (k' := k0 + 1) (n' := n0 + 6) (pc' := 887) (wr := ([(o, .inl (cy 6, aL 1 fl1)), (od, .inl (cy 7, aD 1 fd))] ++ ws1)) hX (r_runV (As := [.int (xs (i + 1)), .int (xs (i + 2))]) hX dL_law_884 k_L_198 (fun l9 hl9 => cMw_parts (v := S.1) rfl hM hv (x := (xs (i + 1))) (y := (xs (i + 2)))) hG (MS_recv hM) rfl rfl (Nat.le_of_ble_eq_true rfl) (by decide) (by decide) (by omega) (by omega)) (LW_m) (by omega) (by omega) rfl (fun w9 u17 hp9 => ?_)
  obtain ⟨rfl, hu17⟩ := hp9
  change V X (k0 + 1) (n0 + 6) (u17 ++ ([(o, .inl (cy 6, aL 1 fl1)), (od, .inl (cy 7, aD 1 fd))] ++ ws1)) [some (.ref b), some (.ref f), some (.ref (ma 0)), some (.ref o), some (.ref od), some (.int (nI i)), some (.int (nI (kd 1 1 1 1 1 (qParts S.1 (xs (i + 1)) (xs (i + 2)))))), none, none] [.int (mvl (qParts S.1 (xs (i + 1)) (xs (i + 2))))] 887
  refine V_perm (LW_m.symm) ?_
  refine r_istore (L' := [some (.ref b), some (.ref f), some (.ref (ma 0)), some (.ref o), some (.ref od), some (.int (nI i)), some (.int (nI (kd 1 1 1 1 1 (qParts S.1 (xs (i + 1)) (xs (i + 2)))))), some (.int (mvl (qParts S.1 (xs (i + 1)) (xs (i + 2))))), none]) (pc' := 889) hX dL_law_887 (nlt hnL (by decide)) rfl rfl rfl ?_
  refine r_aload_n (pc' := 890) hX dL_law_889 rfl rfl ?_
  refine V_call (k' := k0 + 1) (n' := n0 + 6) (pc' := 893) (wr := ([(o, .inl (cy 6, aL 1 fl1)), (od, .inl (cy 7, aD 1 fd))] ++ ws1)) hX (r_runV (As := []) hX dL_law_890 k_L_163 (fun l9 hl9 => cMw_thrown hu17) hG (MS_recv hu17) rfl rfl (Nat.le_of_ble_eq_true rfl) (by decide) (by decide) (by omega) (by omega)) (LW_m) (by omega) (by omega) rfl (fun w9 u18 hp9 => ?_)
  obtain ⟨rfl, hu18⟩ := hp9
  change V X (k0 + 1) (n0 + 6) (u18 ++ ([(o, .inl (cy 6, aL 1 fl1)), (od, .inl (cy 7, aD 1 fd))] ++ ws1)) [some (.ref b), some (.ref f), some (.ref (ma 0)), some (.ref o), some (.ref od), some (.int (nI i)), some (.int (nI (kd 1 1 1 1 1 (qParts S.1 (xs (i + 1)) (xs (i + 2)))))), some (.int (mvl (qParts S.1 (xs (i + 1)) (xs (i + 2))))), none] [.int (nI (kd 1 1 1 1 1 (qParts S.1 (xs (i + 1)) (xs (i + 2)))))] 893
  refine V_perm (LW_m.symm) ?_
  refine r_iload (pc' := 895) hX dL_law_893 rfl rfl ?_
  have hkd := kd_lt (a := 1) (b := 1) (c := 1) (d := 1) (e := 1) (x := qParts S.1 (xs (i + 1)) (xs (i + 2))) rfl
  refine r_icmp_eq_N (tgt := 900) (pc' := 898) hX dL_law_895 (by decide) rfl (by omega) (by omega) (fun c895 => ?_) (fun c895 => ?_)
  · refine r_iload (pc' := 902) hX dL_law_900 rfl rfl ?_
    refine r_if_ne_N (tgt := 917) (pc' := 905) hX dL_law_902 (by decide) rfl (by omega) (fun c902 => ?_) (fun c902 => ?_)
    · have hq1 : (qParts S.1 (xs (i + 1)) (xs (i + 2))).toInt < 0 := by
        refine Classical.byContradiction fun h9 => c902 (kd_pos (by omega))
      have hF1 := hN1 hq1
      refine r_goto (tgt := 2780) hX dL_law_917 (by decide) ?_
      refine V_loc (L' := [some (.ref b), some (.ref f), some (.ref (ma 0)), some (.ref o), some (.ref od), some (.int (nI i)), none, none, none]) (lo_w ⟨.inr rfl, .inr rfl, .inr rfl, .inr rfl, .inr rfl, .inr rfl, .inl rfl, .inl rfl, .inr rfl, trivial⟩) ?_
      refine V_widen (k' := k0 + 23) (n' := n0 + 3450) (by omega) (by omega) ?_
      exact cont (S) _ _ _ _ _ (hF1) hu18 (hA.mono (by omega))
    · have hq0 : 0 ≤ (qParts S.1 (xs (i + 1)) (xs (i + 2))).toInt := by
        rcases hq9 with h9 | h9
        · exact h9
        · rw [h9] at c902; exact absurd c902 (by decide)
      obtain ⟨hF1, hfl1⟩ := hP1 hq0
      refine r_aload_n (pc' := 906) hX dL_law_905 rfl rfl ?_
      refine r_iconst (pc' := 907) (v := nI 0) hX dL_law_906 rfl rfl ?_
      refine r_lald (pc' := 908) hX dL_law_907 (by rw [hcy]) 0 rfl rfl ?_
      rw [hfl1]
      change V X (k0 + 1) (n0 + 6) (LW cy o od fl1 fd ws1 u18) [some (.ref b), some (.ref f), some (.ref (ma 0)), some (.ref o), some (.ref od), some (.int (nI i)), some (.int (nI (kd 1 1 1 1 1 (qParts S.1 (xs (i + 1)) (xs (i + 2)))))), some (.int (mvl (qParts S.1 (xs (i + 1)) (xs (i + 2))))), none] [.long ((qParts S.1 (xs (i + 1)) (xs (i + 2))).toInt64)] 908
      refine r_iload (pc' := 910) hX dL_law_908 rfl rfl ?_
      rw [mvl_pos hq0]
      refine r_i2l (pc' := 911) hX dL_law_910 rfl rfl ?_
      refine r_lcmp0 (pc' := 912) hX dL_law_911 rfl ?_
      refine r_if_eq_N (tgt := 917) (pc' := 915) hX dL_law_912 (by decide) rfl (by omega) (fun c912 => ?_) (fun c912 => ?_)
      · refine r_goto (tgt := 2780) hX dL_law_917 (by decide) ?_
        refine V_loc (L' := [some (.ref b), some (.ref f), some (.ref (ma 0)), some (.ref o), some (.ref od), some (.int (nI i)), none, none, none]) (lo_w ⟨.inr rfl, .inr rfl, .inr rfl, .inr rfl, .inr rfl, .inr rfl, .inl rfl, .inl rfl, .inr rfl, trivial⟩) ?_
        refine V_widen (k' := k0 + 23) (n' := n0 + 3450) (by omega) (by omega) ?_
        exact cont (S) _ _ _ _ _ (hF1) hu18 (hA.mono (by omega))
      · exact absurd c912 (by omega)
  · exact absurd c895 (by omega)

set_option maxRecDepth 20000 in
set_option maxHeartbeats 1000000 in
theorem lc_12 {X : xC} {l : Launch} {D : va_G} {cy : Nat → ClassId} {sa : Nat → Nat} {mc ms k0 n0 f o od b L9 i K t : Nat} {ma : Nat → Nat} {xs : Nat → Int32} {S : AS} {fl : Nat → Int64} {fd : Nat → UInt64} {wf wm : va_W} (hX : Ok SF X cL_law RL 16 mc ms) (hG : c0_G X = (D, cy, sa)) (hcy : c0_cy X = cy) (hnL : c0_nL X = 9) (hl : c0_l X = l) (hst : l.stackTraces = false) (hScr : Scr X b L9 xs) (hi : i + 4 ≤ L9) (hL9 : L9 ≤ 2048) (hF : FS cy f S wf) (hM : MS cy ma S t wm) (hA : AJ K S) (hK : K + 61 ≤ 100000) (hk : k0 + 23 ≤ mc) (hn : n0 + 3450 ≤ ms) (cont : ∀ (S1 : AS) (t1 : Nat) (fl1 : Nat → Int64) (fd1 : Nat → UInt64) (wf1 wm1 : va_W), FS cy f S1 wf1 → MS cy ma S1 t1 wm1 → AJ (K + 61) S1 → V X (k0 + 23) (n0 + 3450) (LW cy o od fl1 fd1 wf1 wm1) [some (.ref b), some (.ref f), some (.ref (ma 0)), some (.ref o), some (.ref od), some (.int (nI i)), none, none, none] [] 2780) : V X k0 n0 (LW cy o od fl fd wf wm) [some (.ref b), some (.ref f), some (.ref (ma 0)), some (.ref o), some (.ref od), some (.int (nI i)), none, none, none] [] 933 := by
  have hv : Wf S.1 := hA.1.1.1.1
  have hInv : Inv K S.1 := hA.1.1.1
  have hFB := hA.1.1.2
  have hq9 : 0 ≤ (qMld 1 S.1 (xs (i + 1))).toInt ∨ (qMld 1 S.1 (xs (i + 1))) = -1 := qMld_q (Or.inl rfl) hv
  have hkk : kd 1 0 0 0 0 (qMld 1 S.1 (xs (i + 1))) = kd 1 1 1 1 1 (qMld 1 S.1 (xs (i + 1))) := by
    rcases hq9 with h9 | h9
    · rw [kd_pos h9, kd_pos h9]
    · rw [h9]; rfl
  refine r_aload_n (pc' := 934) hX dL_law_933 rfl rfl ?_
  refine r_aload_n (pc' := 935) hX dL_law_934 rfl rfl ?_
  refine r_iload (pc' := 937) hX dL_law_935 rfl rfl ?_
  refine r_iconst (pc' := 938) (v := nI 1) hX dL_law_937 rfl rfl ?_
  refine r_iadd_N (pc' := 939) hX dL_law_938  rfl ?_
  refine r_sld (pc' := 940) hX dL_law_939 hScr (by omega) hL9 rfl ?_
  refine r_aload_n (pc' := 941) hX dL_law_940 rfl rfl ?_
  refine V_call (k' := k0 + 1) (n' := n0 + 6) (pc' := 944) (wr := ([(od, .inl (cy 7, aD 1 fd))] ++ wm)) hX (r_runSW (As := [.ref f, .int (xs (i + 1)), .ref o]) hX dL_law_941 kw_L_203 (fun l9 hl9 => by cases hl9; exact cW_mouldLength (v := S.1) rfl hF hA.1 (hst := (by rw [hl]; exact hst)) (hq := hq9) ) hG rfl rfl (Nat.le_of_ble_eq_true rfl) (by decide) (by decide) (by omega) (by omega)) (LW_c) (by omega) (by omega) rfl (fun w9 u9 hp9 => ?_)
  obtain ⟨fl1, ws1, rfl, rfl, hP1, hN1⟩ := hp9
  rw [hkk]
  change V X (k0 + 1) (n0 + 6) (([(o, .inl (cy 6, aL 1 fl1))] ++ ws1) ++ ([(od, .inl (cy 7, aD 1 fd))] ++ wm)) [some (.ref b), some (.ref f), some (.ref (ma 0)), some (.ref o), some (.ref od), some (.int (nI i)), none, none, none] [.int (nI (kd 1 1 1 1 1 (qMld 1 S.1 (xs (i + 1)))))] 944
  refine V_perm (LW_c.symm) ?_
  refine r_istore (L' := [some (.ref b), some (.ref f), some (.ref (ma 0)), some (.ref o), some (.ref od), some (.int (nI i)), some (.int (nI (kd 1 1 1 1 1 (qMld 1 S.1 (xs (i + 1)))))), none, none]) (pc' := 946) hX dL_law_944 (nlt hnL (by decide)) rfl rfl rfl ?_
  refine r_aload_n (pc' := 947) hX dL_law_946 rfl rfl ?_
  refine r_aload_n (pc' := 948) hX dL_law_947 rfl rfl ?_
  refine r_iload (pc' := 950) hX dL_law_948 rfl rfl ?_
  refine r_iconst (pc' := 951) (v := nI 1) hX dL_law_950 rfl rfl ?_
  refine r_iadd_N (pc' := 952) hX dL_law_951  rfl ?_
  refine r_sld (pc' := 953) hX dL_law_952 hScr (by omega) hL9 rfl ?_
  refine V_call (k' := k0 + 1) (n' := n0 + 6) (pc' := 956) (wr := ([(o, .inl (cy 6, aL 1 fl1)), (od, .inl (cy 7, aD 1 fd))] ++ ws1)) hX (r_runV (As := [.int (xs (i + 1))]) hX dL_law_953 k_L_205 (fun l9 hl9 => cMw_mouldLength (v := S.1) rfl hM hv (x := (xs (i + 1)))) hG (MS_recv hM) rfl rfl (Nat.le_of_ble_eq_true rfl) (by decide) (by decide) (by omega) (by omega)) (LW_m) (by omega) (by omega) rfl (fun w9 u19 hp9 => ?_)
  obtain ⟨rfl, hu19⟩ := hp9
  change V X (k0 + 1) (n0 + 6) (u19 ++ ([(o, .inl (cy 6, aL 1 fl1)), (od, .inl (cy 7, aD 1 fd))] ++ ws1)) [some (.ref b), some (.ref f), some (.ref (ma 0)), some (.ref o), some (.ref od), some (.int (nI i)), some (.int (nI (kd 1 1 1 1 1 (qMld 1 S.1 (xs (i + 1)))))), none, none] [.int (mvl (qMld 1 S.1 (xs (i + 1))))] 956
  refine V_perm (LW_m.symm) ?_
  refine r_istore (L' := [some (.ref b), some (.ref f), some (.ref (ma 0)), some (.ref o), some (.ref od), some (.int (nI i)), some (.int (nI (kd 1 1 1 1 1 (qMld 1 S.1 (xs (i + 1)))))), some (.int (mvl (qMld 1 S.1 (xs (i + 1))))), none]) (pc' := 958) hX dL_law_956 (nlt hnL (by decide)) rfl rfl rfl ?_
  refine r_aload_n (pc' := 959) hX dL_law_958 rfl rfl ?_
  refine V_call (k' := k0 + 1) (n' := n0 + 6) (pc' := 962) (wr := ([(o, .inl (cy 6, aL 1 fl1)), (od, .inl (cy 7, aD 1 fd))] ++ ws1)) hX (r_runV (As := []) hX dL_law_959 k_L_163 (fun l9 hl9 => cMw_thrown hu19) hG (MS_recv hu19) rfl rfl (Nat.le_of_ble_eq_true rfl) (by decide) (by decide) (by omega) (by omega)) (LW_m) (by omega) (by omega) rfl (fun w9 u20 hp9 => ?_)
  obtain ⟨rfl, hu20⟩ := hp9
  change V X (k0 + 1) (n0 + 6) (u20 ++ ([(o, .inl (cy 6, aL 1 fl1)), (od, .inl (cy 7, aD 1 fd))] ++ ws1)) [some (.ref b), some (.ref f), some (.ref (ma 0)), some (.ref o), some (.ref od), some (.int (nI i)), some (.int (nI (kd 1 1 1 1 1 (qMld 1 S.1 (xs (i + 1)))))), some (.int (mvl (qMld 1 S.1 (xs (i + 1))))), none] [.int (nI (kd 1 1 1 1 1 (qMld 1 S.1 (xs (i + 1)))))] 962
  refine V_perm (LW_m.symm) ?_
  refine r_iload (pc' := 964) hX dL_law_962 rfl rfl ?_
  have hkd := kd_lt (a := 1) (b := 1) (c := 1) (d := 1) (e := 1) (x := qMld 1 S.1 (xs (i + 1))) rfl
  refine r_icmp_eq_N (tgt := 969) (pc' := 967) hX dL_law_964 (by decide) rfl (by omega) (by omega) (fun c964 => ?_) (fun c964 => ?_)
  · refine r_iload (pc' := 971) hX dL_law_969 rfl rfl ?_
    refine r_if_ne_N (tgt := 986) (pc' := 974) hX dL_law_971 (by decide) rfl (by omega) (fun c971 => ?_) (fun c971 => ?_)
    · have hq1 : (qMld 1 S.1 (xs (i + 1))).toInt < 0 := by
        refine Classical.byContradiction fun h9 => c971 (kd_pos (by omega))
      have hF1 := hN1 hq1
      refine r_goto (tgt := 2780) hX dL_law_986 (by decide) ?_
      refine V_loc (L' := [some (.ref b), some (.ref f), some (.ref (ma 0)), some (.ref o), some (.ref od), some (.int (nI i)), none, none, none]) (lo_w ⟨.inr rfl, .inr rfl, .inr rfl, .inr rfl, .inr rfl, .inr rfl, .inl rfl, .inl rfl, .inr rfl, trivial⟩) ?_
      refine V_widen (k' := k0 + 23) (n' := n0 + 3450) (by omega) (by omega) ?_
      exact cont (S) _ _ _ _ _ (hF1) hu20 (hA.mono (by omega))
    · have hq0 : 0 ≤ (qMld 1 S.1 (xs (i + 1))).toInt := by
        rcases hq9 with h9 | h9
        · exact h9
        · rw [h9] at c971; exact absurd c971 (by decide)
      obtain ⟨hF1, hfl1⟩ := hP1 hq0
      refine r_aload_n (pc' := 975) hX dL_law_974 rfl rfl ?_
      refine r_iconst (pc' := 976) (v := nI 0) hX dL_law_975 rfl rfl ?_
      refine r_lald (pc' := 977) hX dL_law_976 (by rw [hcy]) 0 rfl rfl ?_
      rw [hfl1]
      change V X (k0 + 1) (n0 + 6) (LW cy o od fl1 fd ws1 u20) [some (.ref b), some (.ref f), some (.ref (ma 0)), some (.ref o), some (.ref od), some (.int (nI i)), some (.int (nI (kd 1 1 1 1 1 (qMld 1 S.1 (xs (i + 1)))))), some (.int (mvl (qMld 1 S.1 (xs (i + 1))))), none] [.long ((qMld 1 S.1 (xs (i + 1))).toInt64)] 977
      refine r_iload (pc' := 979) hX dL_law_977 rfl rfl ?_
      rw [mvl_pos hq0]
      refine r_i2l (pc' := 980) hX dL_law_979 rfl rfl ?_
      refine r_lcmp0 (pc' := 981) hX dL_law_980 rfl ?_
      refine r_if_eq_N (tgt := 986) (pc' := 984) hX dL_law_981 (by decide) rfl (by omega) (fun c981 => ?_) (fun c981 => ?_)
      · refine r_goto (tgt := 2780) hX dL_law_986 (by decide) ?_
        refine V_loc (L' := [some (.ref b), some (.ref f), some (.ref (ma 0)), some (.ref o), some (.ref od), some (.int (nI i)), none, none, none]) (lo_w ⟨.inr rfl, .inr rfl, .inr rfl, .inr rfl, .inr rfl, .inr rfl, .inl rfl, .inl rfl, .inr rfl, trivial⟩) ?_
        refine V_widen (k' := k0 + 23) (n' := n0 + 3450) (by omega) (by omega) ?_
        exact cont (S) _ _ _ _ _ (hF1) hu20 (hA.mono (by omega))
      · exact absurd c981 (by omega)
  · exact absurd c964 (by omega)

set_option maxRecDepth 20000 in
set_option maxHeartbeats 1000000 in
theorem lc_13 {X : xC} {l : Launch} {D : va_G} {cy : Nat → ClassId} {sa : Nat → Nat} {mc ms k0 n0 f o od b L9 i K t : Nat} {ma : Nat → Nat} {xs : Nat → Int32} {S : AS} {fl : Nat → Int64} {fd : Nat → UInt64} {wf wm : va_W} (hX : Ok SF X cL_law RL 16 mc ms) (hG : c0_G X = (D, cy, sa)) (hcy : c0_cy X = cy) (hnL : c0_nL X = 9) (hl : c0_l X = l) (hst : l.stackTraces = false) (hScr : Scr X b L9 xs) (hi : i + 4 ≤ L9) (hL9 : L9 ≤ 2048) (hF : FS cy f S wf) (hM : MS cy ma S t wm) (hA : AJ K S) (hK : K + 61 ≤ 100000) (hk : k0 + 23 ≤ mc) (hn : n0 + 3450 ≤ ms) (cont : ∀ (S1 : AS) (t1 : Nat) (fl1 : Nat → Int64) (fd1 : Nat → UInt64) (wf1 wm1 : va_W), FS cy f S1 wf1 → MS cy ma S1 t1 wm1 → AJ (K + 61) S1 → V X (k0 + 23) (n0 + 3450) (LW cy o od fl1 fd1 wf1 wm1) [some (.ref b), some (.ref f), some (.ref (ma 0)), some (.ref o), some (.ref od), some (.int (nI i)), none, none, none] [] 2780) : V X k0 n0 (LW cy o od fl fd wf wm) [some (.ref b), some (.ref f), some (.ref (ma 0)), some (.ref o), some (.ref od), some (.int (nI i)), none, none, none] [] 989 := by
  have hv : Wf S.1 := hA.1.1.1.1
  have hInv : Inv K S.1 := hA.1.1.1
  have hFB := hA.1.1.2
  have hq9 : 0 ≤ (qMld 2 S.1 (xs (i + 1))).toInt ∨ (qMld 2 S.1 (xs (i + 1))) = -1 := qMld_q (Or.inr rfl) hv
  have hkk : kd 1 0 0 0 0 (qMld 2 S.1 (xs (i + 1))) = kd 1 1 1 1 1 (qMld 2 S.1 (xs (i + 1))) := by
    rcases hq9 with h9 | h9
    · rw [kd_pos h9, kd_pos h9]
    · rw [h9]; rfl
  refine r_aload_n (pc' := 990) hX dL_law_989 rfl rfl ?_
  refine r_aload_n (pc' := 991) hX dL_law_990 rfl rfl ?_
  refine r_iload (pc' := 993) hX dL_law_991 rfl rfl ?_
  refine r_iconst (pc' := 994) (v := nI 1) hX dL_law_993 rfl rfl ?_
  refine r_iadd_N (pc' := 995) hX dL_law_994  rfl ?_
  refine r_sld (pc' := 996) hX dL_law_995 hScr (by omega) hL9 rfl ?_
  refine r_aload_n (pc' := 997) hX dL_law_996 rfl rfl ?_
  refine V_call (k' := k0 + 1) (n' := n0 + 6) (pc' := 1000) (wr := ([(od, .inl (cy 7, aD 1 fd))] ++ wm)) hX (r_runSW (As := [.ref f, .int (xs (i + 1)), .ref o]) hX dL_law_997 kw_L_206 (fun l9 hl9 => by cases hl9; exact cW_uses (v := S.1) rfl hF hA.1 (hst := (by rw [hl]; exact hst)) (hq := hq9) ) hG rfl rfl (Nat.le_of_ble_eq_true rfl) (by decide) (by decide) (by omega) (by omega)) (LW_c) (by omega) (by omega) rfl (fun w9 u9 hp9 => ?_)
  obtain ⟨fl1, ws1, rfl, rfl, hP1, hN1⟩ := hp9
  rw [hkk]
  change V X (k0 + 1) (n0 + 6) (([(o, .inl (cy 6, aL 1 fl1))] ++ ws1) ++ ([(od, .inl (cy 7, aD 1 fd))] ++ wm)) [some (.ref b), some (.ref f), some (.ref (ma 0)), some (.ref o), some (.ref od), some (.int (nI i)), none, none, none] [.int (nI (kd 1 1 1 1 1 (qMld 2 S.1 (xs (i + 1)))))] 1000
  refine V_perm (LW_c.symm) ?_
  refine r_istore (L' := [some (.ref b), some (.ref f), some (.ref (ma 0)), some (.ref o), some (.ref od), some (.int (nI i)), some (.int (nI (kd 1 1 1 1 1 (qMld 2 S.1 (xs (i + 1)))))), none, none]) (pc' := 1002) hX dL_law_1000 (nlt hnL (by decide)) rfl rfl rfl ?_
  refine r_aload_n (pc' := 1003) hX dL_law_1002 rfl rfl ?_
  refine r_aload_n (pc' := 1004) hX dL_law_1003 rfl rfl ?_
  refine r_iload (pc' := 1006) hX dL_law_1004 rfl rfl ?_
  refine r_iconst (pc' := 1007) (v := nI 1) hX dL_law_1006 rfl rfl ?_
  refine r_iadd_N (pc' := 1008) hX dL_law_1007  rfl ?_
  refine r_sld (pc' := 1009) hX dL_law_1008 hScr (by omega) hL9 rfl ?_
  refine V_call (k' := k0 + 1) (n' := n0 + 6) (pc' := 1012) (wr := ([(o, .inl (cy 6, aL 1 fl1)), (od, .inl (cy 7, aD 1 fd))] ++ ws1)) hX (r_runV (As := [.int (xs (i + 1))]) hX dL_law_1009 k_L_208 (fun l9 hl9 => cMw_uses (v := S.1) rfl hM hv (x := (xs (i + 1)))) hG (MS_recv hM) rfl rfl (Nat.le_of_ble_eq_true rfl) (by decide) (by decide) (by omega) (by omega)) (LW_m) (by omega) (by omega) rfl (fun w9 u21 hp9 => ?_)
  obtain ⟨rfl, hu21⟩ := hp9
  change V X (k0 + 1) (n0 + 6) (u21 ++ ([(o, .inl (cy 6, aL 1 fl1)), (od, .inl (cy 7, aD 1 fd))] ++ ws1)) [some (.ref b), some (.ref f), some (.ref (ma 0)), some (.ref o), some (.ref od), some (.int (nI i)), some (.int (nI (kd 1 1 1 1 1 (qMld 2 S.1 (xs (i + 1)))))), none, none] [.int (mvl (qMld 2 S.1 (xs (i + 1))))] 1012
  refine V_perm (LW_m.symm) ?_
  refine r_istore (L' := [some (.ref b), some (.ref f), some (.ref (ma 0)), some (.ref o), some (.ref od), some (.int (nI i)), some (.int (nI (kd 1 1 1 1 1 (qMld 2 S.1 (xs (i + 1)))))), some (.int (mvl (qMld 2 S.1 (xs (i + 1))))), none]) (pc' := 1014) hX dL_law_1012 (nlt hnL (by decide)) rfl rfl rfl ?_
  refine r_aload_n (pc' := 1015) hX dL_law_1014 rfl rfl ?_
  refine V_call (k' := k0 + 1) (n' := n0 + 6) (pc' := 1018) (wr := ([(o, .inl (cy 6, aL 1 fl1)), (od, .inl (cy 7, aD 1 fd))] ++ ws1)) hX (r_runV (As := []) hX dL_law_1015 k_L_163 (fun l9 hl9 => cMw_thrown hu21) hG (MS_recv hu21) rfl rfl (Nat.le_of_ble_eq_true rfl) (by decide) (by decide) (by omega) (by omega)) (LW_m) (by omega) (by omega) rfl (fun w9 u22 hp9 => ?_)
  obtain ⟨rfl, hu22⟩ := hp9
  change V X (k0 + 1) (n0 + 6) (u22 ++ ([(o, .inl (cy 6, aL 1 fl1)), (od, .inl (cy 7, aD 1 fd))] ++ ws1)) [some (.ref b), some (.ref f), some (.ref (ma 0)), some (.ref o), some (.ref od), some (.int (nI i)), some (.int (nI (kd 1 1 1 1 1 (qMld 2 S.1 (xs (i + 1)))))), some (.int (mvl (qMld 2 S.1 (xs (i + 1))))), none] [.int (nI (kd 1 1 1 1 1 (qMld 2 S.1 (xs (i + 1)))))] 1018
  refine V_perm (LW_m.symm) ?_
  refine r_iload (pc' := 1020) hX dL_law_1018 rfl rfl ?_
  have hkd := kd_lt (a := 1) (b := 1) (c := 1) (d := 1) (e := 1) (x := qMld 2 S.1 (xs (i + 1))) rfl
  refine r_icmp_eq_N (tgt := 1025) (pc' := 1023) hX dL_law_1020 (by decide) rfl (by omega) (by omega) (fun c1020 => ?_) (fun c1020 => ?_)
  · refine r_iload (pc' := 1027) hX dL_law_1025 rfl rfl ?_
    refine r_if_ne_N (tgt := 1042) (pc' := 1030) hX dL_law_1027 (by decide) rfl (by omega) (fun c1027 => ?_) (fun c1027 => ?_)
    · have hq1 : (qMld 2 S.1 (xs (i + 1))).toInt < 0 := by
        refine Classical.byContradiction fun h9 => c1027 (kd_pos (by omega))
      have hF1 := hN1 hq1
      refine r_goto (tgt := 2780) hX dL_law_1042 (by decide) ?_
      refine V_loc (L' := [some (.ref b), some (.ref f), some (.ref (ma 0)), some (.ref o), some (.ref od), some (.int (nI i)), none, none, none]) (lo_w ⟨.inr rfl, .inr rfl, .inr rfl, .inr rfl, .inr rfl, .inr rfl, .inl rfl, .inl rfl, .inr rfl, trivial⟩) ?_
      refine V_widen (k' := k0 + 23) (n' := n0 + 3450) (by omega) (by omega) ?_
      exact cont (S) _ _ _ _ _ (hF1) hu22 (hA.mono (by omega))
    · have hq0 : 0 ≤ (qMld 2 S.1 (xs (i + 1))).toInt := by
        rcases hq9 with h9 | h9
        · exact h9
        · rw [h9] at c1027; exact absurd c1027 (by decide)
      obtain ⟨hF1, hfl1⟩ := hP1 hq0
      refine r_aload_n (pc' := 1031) hX dL_law_1030 rfl rfl ?_
      refine r_iconst (pc' := 1032) (v := nI 0) hX dL_law_1031 rfl rfl ?_
      refine r_lald (pc' := 1033) hX dL_law_1032 (by rw [hcy]) 0 rfl rfl ?_
      rw [hfl1]
      change V X (k0 + 1) (n0 + 6) (LW cy o od fl1 fd ws1 u22) [some (.ref b), some (.ref f), some (.ref (ma 0)), some (.ref o), some (.ref od), some (.int (nI i)), some (.int (nI (kd 1 1 1 1 1 (qMld 2 S.1 (xs (i + 1)))))), some (.int (mvl (qMld 2 S.1 (xs (i + 1))))), none] [.long ((qMld 2 S.1 (xs (i + 1))).toInt64)] 1033
      refine r_iload (pc' := 1035) hX dL_law_1033 rfl rfl ?_
      rw [mvl_pos hq0]
      refine r_i2l (pc' := 1036) hX dL_law_1035 rfl rfl ?_
      refine r_lcmp0 (pc' := 1037) hX dL_law_1036 rfl ?_
      refine r_if_eq_N (tgt := 1042) (pc' := 1040) hX dL_law_1037 (by decide) rfl (by omega) (fun c1037 => ?_) (fun c1037 => ?_)
      · refine r_goto (tgt := 2780) hX dL_law_1042 (by decide) ?_
        refine V_loc (L' := [some (.ref b), some (.ref f), some (.ref (ma 0)), some (.ref o), some (.ref od), some (.int (nI i)), none, none, none]) (lo_w ⟨.inr rfl, .inr rfl, .inr rfl, .inr rfl, .inr rfl, .inr rfl, .inl rfl, .inl rfl, .inr rfl, trivial⟩) ?_
        refine V_widen (k' := k0 + 23) (n' := n0 + 3450) (by omega) (by omega) ?_
        exact cont (S) _ _ _ _ _ (hF1) hu22 (hA.mono (by omega))
      · exact absurd c1037 (by omega)
  · exact absurd c1020 (by omega)

set_option maxRecDepth 20000 in
set_option maxHeartbeats 1000000 in
theorem lc_14 {X : xC} {l : Launch} {D : va_G} {cy : Nat → ClassId} {sa : Nat → Nat} {mc ms k0 n0 f o od b L9 i K t : Nat} {ma : Nat → Nat} {xs : Nat → Int32} {S : AS} {fl : Nat → Int64} {fd : Nat → UInt64} {wf wm : va_W} (hX : Ok SF X cL_law RL 16 mc ms) (hG : c0_G X = (D, cy, sa)) (hcy : c0_cy X = cy) (hnL : c0_nL X = 9) (hl : c0_l X = l) (hst : l.stackTraces = false) (hScr : Scr X b L9 xs) (hi : i + 4 ≤ L9) (hL9 : L9 ≤ 2048) (hF : FS cy f S wf) (hM : MS cy ma S t wm) (hA : AJ K S) (hK : K + 61 ≤ 100000) (hk : k0 + 23 ≤ mc) (hn : n0 + 3450 ≤ ms) (cont : ∀ (S1 : AS) (t1 : Nat) (fl1 : Nat → Int64) (fd1 : Nat → UInt64) (wf1 wm1 : va_W), FS cy f S1 wf1 → MS cy ma S1 t1 wm1 → AJ (K + 61) S1 → V X (k0 + 23) (n0 + 3450) (LW cy o od fl1 fd1 wf1 wm1) [some (.ref b), some (.ref f), some (.ref (ma 0)), some (.ref o), some (.ref od), some (.int (nI i)), none, none, none] [] 2780) : V X k0 n0 (LW cy o od fl fd wf wm) [some (.ref b), some (.ref f), some (.ref (ma 0)), some (.ref o), some (.ref od), some (.int (nI i)), none, none, none] [] 1045 := by
  have hv : Wf S.1 := hA.1.1.1.1
  have hInv : Inv K S.1 := hA.1.1.1
  have hFB := hA.1.1.2
  have hq9 : 0 ≤ (qMet 3 S.1 (xs (i + 1))).toInt ∨ (qMet 3 S.1 (xs (i + 1))) = -1 := qSt_q hv
  have hkk : kd 1 0 0 0 0 (qMet 3 S.1 (xs (i + 1))) = kd 1 1 1 1 1 (qMet 3 S.1 (xs (i + 1))) := by
    rcases hq9 with h9 | h9
    · rw [kd_pos h9, kd_pos h9]
    · rw [h9]; rfl
  refine r_aload_n (pc' := 1046) hX dL_law_1045 rfl rfl ?_
  refine r_aload_n (pc' := 1047) hX dL_law_1046 rfl rfl ?_
  refine r_iload (pc' := 1049) hX dL_law_1047 rfl rfl ?_
  refine r_iconst (pc' := 1050) (v := nI 1) hX dL_law_1049 rfl rfl ?_
  refine r_iadd_N (pc' := 1051) hX dL_law_1050  rfl ?_
  refine r_sld (pc' := 1052) hX dL_law_1051 hScr (by omega) hL9 rfl ?_
  refine r_aload_n (pc' := 1053) hX dL_law_1052 rfl rfl ?_
  refine V_call (k' := k0 + 1) (n' := n0 + 6) (pc' := 1056) (wr := ([(od, .inl (cy 7, aD 1 fd))] ++ wm)) hX (r_runSW (As := [.ref f, .int (xs (i + 1)), .ref o]) hX dL_law_1053 kw_L_209 (fun l9 hl9 => by cases hl9; exact cW_stock (v := S.1) rfl hF hA.1 (hst := (by rw [hl]; exact hst)) (hq := hq9) ) hG rfl rfl (Nat.le_of_ble_eq_true rfl) (by decide) (by decide) (by omega) (by omega)) (LW_c) (by omega) (by omega) rfl (fun w9 u9 hp9 => ?_)
  obtain ⟨fl1, ws1, rfl, rfl, hP1, hN1⟩ := hp9
  rw [hkk]
  change V X (k0 + 1) (n0 + 6) (([(o, .inl (cy 6, aL 1 fl1))] ++ ws1) ++ ([(od, .inl (cy 7, aD 1 fd))] ++ wm)) [some (.ref b), some (.ref f), some (.ref (ma 0)), some (.ref o), some (.ref od), some (.int (nI i)), none, none, none] [.int (nI (kd 1 1 1 1 1 (qMet 3 S.1 (xs (i + 1)))))] 1056
  refine V_perm (LW_c.symm) ?_
  refine r_istore (L' := [some (.ref b), some (.ref f), some (.ref (ma 0)), some (.ref o), some (.ref od), some (.int (nI i)), some (.int (nI (kd 1 1 1 1 1 (qMet 3 S.1 (xs (i + 1)))))), none, none]) (pc' := 1058) hX dL_law_1056 (nlt hnL (by decide)) rfl rfl rfl ?_
  refine r_aload_n (pc' := 1059) hX dL_law_1058 rfl rfl ?_
  refine r_aload_n (pc' := 1060) hX dL_law_1059 rfl rfl ?_
  refine r_iload (pc' := 1062) hX dL_law_1060 rfl rfl ?_
  refine r_iconst (pc' := 1063) (v := nI 1) hX dL_law_1062 rfl rfl ?_
  refine r_iadd_N (pc' := 1064) hX dL_law_1063  rfl ?_
  refine r_sld (pc' := 1065) hX dL_law_1064 hScr (by omega) hL9 rfl ?_
  refine V_call (k' := k0 + 1) (n' := n0 + 6) (pc' := 1068) (wr := ([(o, .inl (cy 6, aL 1 fl1)), (od, .inl (cy 7, aD 1 fd))] ++ ws1)) hX (r_runV (As := [.int (xs (i + 1))]) hX dL_law_1065 k_L_211 (fun l9 hl9 => cMw_stock (v := S.1) rfl hM hv (x := (xs (i + 1)))) hG (MS_recv hM) rfl rfl (Nat.le_of_ble_eq_true rfl) (by decide) (by decide) (by omega) (by omega)) (LW_m) (by omega) (by omega) rfl (fun w9 u23 hp9 => ?_)
  obtain ⟨rfl, hu23⟩ := hp9
  change V X (k0 + 1) (n0 + 6) (u23 ++ ([(o, .inl (cy 6, aL 1 fl1)), (od, .inl (cy 7, aD 1 fd))] ++ ws1)) [some (.ref b), some (.ref f), some (.ref (ma 0)), some (.ref o), some (.ref od), some (.int (nI i)), some (.int (nI (kd 1 1 1 1 1 (qMet 3 S.1 (xs (i + 1)))))), none, none] [.int (mvl (qMet 3 S.1 (xs (i + 1))))] 1068
  refine V_perm (LW_m.symm) ?_
  refine r_istore (L' := [some (.ref b), some (.ref f), some (.ref (ma 0)), some (.ref o), some (.ref od), some (.int (nI i)), some (.int (nI (kd 1 1 1 1 1 (qMet 3 S.1 (xs (i + 1)))))), some (.int (mvl (qMet 3 S.1 (xs (i + 1))))), none]) (pc' := 1070) hX dL_law_1068 (nlt hnL (by decide)) rfl rfl rfl ?_
  refine r_aload_n (pc' := 1071) hX dL_law_1070 rfl rfl ?_
  refine V_call (k' := k0 + 1) (n' := n0 + 6) (pc' := 1074) (wr := ([(o, .inl (cy 6, aL 1 fl1)), (od, .inl (cy 7, aD 1 fd))] ++ ws1)) hX (r_runV (As := []) hX dL_law_1071 k_L_163 (fun l9 hl9 => cMw_thrown hu23) hG (MS_recv hu23) rfl rfl (Nat.le_of_ble_eq_true rfl) (by decide) (by decide) (by omega) (by omega)) (LW_m) (by omega) (by omega) rfl (fun w9 u24 hp9 => ?_)
  obtain ⟨rfl, hu24⟩ := hp9
  change V X (k0 + 1) (n0 + 6) (u24 ++ ([(o, .inl (cy 6, aL 1 fl1)), (od, .inl (cy 7, aD 1 fd))] ++ ws1)) [some (.ref b), some (.ref f), some (.ref (ma 0)), some (.ref o), some (.ref od), some (.int (nI i)), some (.int (nI (kd 1 1 1 1 1 (qMet 3 S.1 (xs (i + 1)))))), some (.int (mvl (qMet 3 S.1 (xs (i + 1))))), none] [.int (nI (kd 1 1 1 1 1 (qMet 3 S.1 (xs (i + 1)))))] 1074
  refine V_perm (LW_m.symm) ?_
  refine r_iload (pc' := 1076) hX dL_law_1074 rfl rfl ?_
  have hkd := kd_lt (a := 1) (b := 1) (c := 1) (d := 1) (e := 1) (x := qMet 3 S.1 (xs (i + 1))) rfl
  refine r_icmp_eq_N (tgt := 1081) (pc' := 1079) hX dL_law_1076 (by decide) rfl (by omega) (by omega) (fun c1076 => ?_) (fun c1076 => ?_)
  · refine r_iload (pc' := 1083) hX dL_law_1081 rfl rfl ?_
    refine r_if_ne_N (tgt := 1098) (pc' := 1086) hX dL_law_1083 (by decide) rfl (by omega) (fun c1083 => ?_) (fun c1083 => ?_)
    · have hq1 : (qMet 3 S.1 (xs (i + 1))).toInt < 0 := by
        refine Classical.byContradiction fun h9 => c1083 (kd_pos (by omega))
      have hF1 := hN1 hq1
      refine r_goto (tgt := 2780) hX dL_law_1098 (by decide) ?_
      refine V_loc (L' := [some (.ref b), some (.ref f), some (.ref (ma 0)), some (.ref o), some (.ref od), some (.int (nI i)), none, none, none]) (lo_w ⟨.inr rfl, .inr rfl, .inr rfl, .inr rfl, .inr rfl, .inr rfl, .inl rfl, .inl rfl, .inr rfl, trivial⟩) ?_
      refine V_widen (k' := k0 + 23) (n' := n0 + 3450) (by omega) (by omega) ?_
      exact cont (S) _ _ _ _ _ (hF1) hu24 (hA.mono (by omega))
    · have hq0 : 0 ≤ (qMet 3 S.1 (xs (i + 1))).toInt := by
        rcases hq9 with h9 | h9
        · exact h9
        · rw [h9] at c1083; exact absurd c1083 (by decide)
      obtain ⟨hF1, hfl1⟩ := hP1 hq0
      refine r_aload_n (pc' := 1087) hX dL_law_1086 rfl rfl ?_
      refine r_iconst (pc' := 1088) (v := nI 0) hX dL_law_1087 rfl rfl ?_
      refine r_lald (pc' := 1089) hX dL_law_1088 (by rw [hcy]) 0 rfl rfl ?_
      rw [hfl1]
      change V X (k0 + 1) (n0 + 6) (LW cy o od fl1 fd ws1 u24) [some (.ref b), some (.ref f), some (.ref (ma 0)), some (.ref o), some (.ref od), some (.int (nI i)), some (.int (nI (kd 1 1 1 1 1 (qMet 3 S.1 (xs (i + 1)))))), some (.int (mvl (qMet 3 S.1 (xs (i + 1))))), none] [.long ((qMet 3 S.1 (xs (i + 1))).toInt64)] 1089
      refine r_iload (pc' := 1091) hX dL_law_1089 rfl rfl ?_
      rw [mvl_pos hq0]
      refine r_i2l (pc' := 1092) hX dL_law_1091 rfl rfl ?_
      refine r_lcmp0 (pc' := 1093) hX dL_law_1092 rfl ?_
      refine r_if_eq_N (tgt := 1098) (pc' := 1096) hX dL_law_1093 (by decide) rfl (by omega) (fun c1093 => ?_) (fun c1093 => ?_)
      · refine r_goto (tgt := 2780) hX dL_law_1098 (by decide) ?_
        refine V_loc (L' := [some (.ref b), some (.ref f), some (.ref (ma 0)), some (.ref o), some (.ref od), some (.int (nI i)), none, none, none]) (lo_w ⟨.inr rfl, .inr rfl, .inr rfl, .inr rfl, .inr rfl, .inr rfl, .inl rfl, .inl rfl, .inr rfl, trivial⟩) ?_
        refine V_widen (k' := k0 + 23) (n' := n0 + 3450) (by omega) (by omega) ?_
        exact cont (S) _ _ _ _ _ (hF1) hu24 (hA.mono (by omega))
      · exact absurd c1093 (by omega)
  · exact absurd c1076 (by omega)

set_option maxRecDepth 20000 in
set_option maxHeartbeats 1000000 in
theorem lc_18 {X : xC} {l : Launch} {D : va_G} {cy : Nat → ClassId} {sa : Nat → Nat} {mc ms k0 n0 f o od b L9 i K t : Nat} {ma : Nat → Nat} {xs : Nat → Int32} {S : AS} {fl : Nat → Int64} {fd : Nat → UInt64} {wf wm : va_W} (hX : Ok SF X cL_law RL 16 mc ms) (hG : c0_G X = (D, cy, sa)) (hcy : c0_cy X = cy) (hnL : c0_nL X = 9) (hl : c0_l X = l) (hst : l.stackTraces = false) (hScr : Scr X b L9 xs) (hi : i + 4 ≤ L9) (hL9 : L9 ≤ 2048) (hF : FS cy f S wf) (hM : MS cy ma S t wm) (hA : AJ K S) (hK : K + 61 ≤ 100000) (hk : k0 + 23 ≤ mc) (hn : n0 + 3450 ≤ ms) (cont : ∀ (S1 : AS) (t1 : Nat) (fl1 : Nat → Int64) (fd1 : Nat → UInt64) (wf1 wm1 : va_W), FS cy f S1 wf1 → MS cy ma S1 t1 wm1 → AJ (K + 61) S1 → V X (k0 + 23) (n0 + 3450) (LW cy o od fl1 fd1 wf1 wm1) [some (.ref b), some (.ref f), some (.ref (ma 0)), some (.ref o), some (.ref od), some (.int (nI i)), none, none, none] [] 2780) : V X k0 n0 (LW cy o od fl fd wf wm) [some (.ref b), some (.ref f), some (.ref (ma 0)), some (.ref o), some (.ref od), some (.int (nI i)), none, none, none] [] 1140 := by
  have hv : Wf S.1 := hA.1.1.1.1
  have hInv : Inv K S.1 := hA.1.1.1
  have hFB := hA.1.1.2
  have hq9 : 0 ≤ (qAt S.1 (xs (i + 1))).toInt ∨ (qAt S.1 (xs (i + 1))) = -5 := qAt_q hv
  have hkk : kd 0 0 0 0 1 (qAt S.1 (xs (i + 1))) = kd 1 1 1 1 1 (qAt S.1 (xs (i + 1))) := by
    rcases hq9 with h9 | h9
    · rw [kd_pos h9, kd_pos h9]
    · rw [h9]; rfl
  refine r_aload_n (pc' := 1141) hX dL_law_1140 rfl rfl ?_
  refine r_aload_n (pc' := 1142) hX dL_law_1141 rfl rfl ?_
  refine r_iload (pc' := 1144) hX dL_law_1142 rfl rfl ?_
  refine r_iconst (pc' := 1145) (v := nI 1) hX dL_law_1144 rfl rfl ?_
  refine r_iadd_N (pc' := 1146) hX dL_law_1145  rfl ?_
  refine r_sld (pc' := 1147) hX dL_law_1146 hScr (by omega) hL9 rfl ?_
  refine r_aload_n (pc' := 1148) hX dL_law_1147 rfl rfl ?_
  refine V_call (k' := k0 + 1) (n' := n0 + 6) (pc' := 1151) (wr := ([(od, .inl (cy 7, aD 1 fd))] ++ wm)) hX (r_runSW (As := [.ref f, .int (xs (i + 1)), .ref o]) hX dL_law_1148 kw_L_224 (fun l9 hl9 => by cases hl9; exact cW_batchAt (v := S.1) rfl hF hA.1 (hst := (by rw [hl]; exact hst)) (hq := hq9) ) hG rfl rfl (Nat.le_of_ble_eq_true rfl) (by decide) (by decide) (by omega) (by omega)) (LW_c) (by omega) (by omega) rfl (fun w9 u9 hp9 => ?_)
  obtain ⟨fl1, ws1, rfl, rfl, hP1, hN1⟩ := hp9
  rw [hkk]
  change V X (k0 + 1) (n0 + 6) (([(o, .inl (cy 6, aL 1 fl1))] ++ ws1) ++ ([(od, .inl (cy 7, aD 1 fd))] ++ wm)) [some (.ref b), some (.ref f), some (.ref (ma 0)), some (.ref o), some (.ref od), some (.int (nI i)), none, none, none] [.int (nI (kd 1 1 1 1 1 (qAt S.1 (xs (i + 1)))))] 1151
  refine V_perm (LW_c.symm) ?_
  refine r_istore (L' := [some (.ref b), some (.ref f), some (.ref (ma 0)), some (.ref o), some (.ref od), some (.int (nI i)), some (.int (nI (kd 1 1 1 1 1 (qAt S.1 (xs (i + 1)))))), none, none]) (pc' := 1153) hX dL_law_1151 (nlt hnL (by decide)) rfl rfl rfl ?_
  refine r_aload_n (pc' := 1154) hX dL_law_1153 rfl rfl ?_
  refine r_aload_n (pc' := 1155) hX dL_law_1154 rfl rfl ?_
  refine r_iload (pc' := 1157) hX dL_law_1155 rfl rfl ?_
  refine r_iconst (pc' := 1158) (v := nI 1) hX dL_law_1157 rfl rfl ?_
  refine r_iadd_N (pc' := 1159) hX dL_law_1158  rfl ?_
  refine r_sld (pc' := 1160) hX dL_law_1159 hScr (by omega) hL9 rfl ?_
  refine V_call (k' := k0 + 1) (n' := n0 + 6) (pc' := 1163) (wr := ([(o, .inl (cy 6, aL 1 fl1)), (od, .inl (cy 7, aD 1 fd))] ++ ws1)) hX (r_runV (As := [.int (xs (i + 1))]) hX dL_law_1160 k_L_226 (fun l9 hl9 => cMw_batchAt (v := S.1) rfl hM hv (x := (xs (i + 1)))) hG (MS_recv hM) rfl rfl (Nat.le_of_ble_eq_true rfl) (by decide) (by decide) (by omega) (by omega)) (LW_m) (by omega) (by omega) rfl (fun w9 u25 hp9 => ?_)
  obtain ⟨rfl, hu25⟩ := hp9
  change V X (k0 + 1) (n0 + 6) (u25 ++ ([(o, .inl (cy 6, aL 1 fl1)), (od, .inl (cy 7, aD 1 fd))] ++ ws1)) [some (.ref b), some (.ref f), some (.ref (ma 0)), some (.ref o), some (.ref od), some (.int (nI i)), some (.int (nI (kd 1 1 1 1 1 (qAt S.1 (xs (i + 1)))))), none, none] [.int (mvl (qAt S.1 (xs (i + 1))))] 1163
  refine V_perm (LW_m.symm) ?_
  refine r_istore (L' := [some (.ref b), some (.ref f), some (.ref (ma 0)), some (.ref o), some (.ref od), some (.int (nI i)), some (.int (nI (kd 1 1 1 1 1 (qAt S.1 (xs (i + 1)))))), some (.int (mvl (qAt S.1 (xs (i + 1))))), none]) (pc' := 1165) hX dL_law_1163 (nlt hnL (by decide)) rfl rfl rfl ?_
  refine r_aload_n (pc' := 1166) hX dL_law_1165 rfl rfl ?_
  refine V_call (k' := k0 + 1) (n' := n0 + 6) (pc' := 1169) (wr := ([(o, .inl (cy 6, aL 1 fl1)), (od, .inl (cy 7, aD 1 fd))] ++ ws1)) hX (r_runV (As := []) hX dL_law_1166 k_L_163 (fun l9 hl9 => cMw_thrown hu25) hG (MS_recv hu25) rfl rfl (Nat.le_of_ble_eq_true rfl) (by decide) (by decide) (by omega) (by omega)) (LW_m) (by omega) (by omega) rfl (fun w9 u26 hp9 => ?_)
  obtain ⟨rfl, hu26⟩ := hp9
  change V X (k0 + 1) (n0 + 6) (u26 ++ ([(o, .inl (cy 6, aL 1 fl1)), (od, .inl (cy 7, aD 1 fd))] ++ ws1)) [some (.ref b), some (.ref f), some (.ref (ma 0)), some (.ref o), some (.ref od), some (.int (nI i)), some (.int (nI (kd 1 1 1 1 1 (qAt S.1 (xs (i + 1)))))), some (.int (mvl (qAt S.1 (xs (i + 1))))), none] [.int (nI (kd 1 1 1 1 1 (qAt S.1 (xs (i + 1)))))] 1169
  refine V_perm (LW_m.symm) ?_
  refine r_iload (pc' := 1171) hX dL_law_1169 rfl rfl ?_
  have hkd := kd_lt (a := 1) (b := 1) (c := 1) (d := 1) (e := 1) (x := qAt S.1 (xs (i + 1))) rfl
  refine r_icmp_eq_N (tgt := 1176) (pc' := 1174) hX dL_law_1171 (by decide) rfl (by omega) (by omega) (fun c1171 => ?_) (fun c1171 => ?_)
  · refine r_iload (pc' := 1178) hX dL_law_1176 rfl rfl ?_
    refine r_if_ne_N (tgt := 1193) (pc' := 1181) hX dL_law_1178 (by decide) rfl (by omega) (fun c1178 => ?_) (fun c1178 => ?_)
    · have hq1 : (qAt S.1 (xs (i + 1))).toInt < 0 := by
        refine Classical.byContradiction fun h9 => c1178 (kd_pos (by omega))
      have hF1 := hN1 hq1
      refine r_goto (tgt := 2780) hX dL_law_1193 (by decide) ?_
      refine V_loc (L' := [some (.ref b), some (.ref f), some (.ref (ma 0)), some (.ref o), some (.ref od), some (.int (nI i)), none, none, none]) (lo_w ⟨.inr rfl, .inr rfl, .inr rfl, .inr rfl, .inr rfl, .inr rfl, .inl rfl, .inl rfl, .inr rfl, trivial⟩) ?_
      refine V_widen (k' := k0 + 23) (n' := n0 + 3450) (by omega) (by omega) ?_
      exact cont (S) _ _ _ _ _ (hF1) hu26 (hA.mono (by omega))
    · have hq0 : 0 ≤ (qAt S.1 (xs (i + 1))).toInt := by
        rcases hq9 with h9 | h9
        · exact h9
        · rw [h9] at c1178; exact absurd c1178 (by decide)
      obtain ⟨hF1, hfl1⟩ := hP1 hq0
      refine r_aload_n (pc' := 1182) hX dL_law_1181 rfl rfl ?_
      refine r_iconst (pc' := 1183) (v := nI 0) hX dL_law_1182 rfl rfl ?_
      refine r_lald (pc' := 1184) hX dL_law_1183 (by rw [hcy]) 0 rfl rfl ?_
      rw [hfl1]
      change V X (k0 + 1) (n0 + 6) (LW cy o od fl1 fd ws1 u26) [some (.ref b), some (.ref f), some (.ref (ma 0)), some (.ref o), some (.ref od), some (.int (nI i)), some (.int (nI (kd 1 1 1 1 1 (qAt S.1 (xs (i + 1)))))), some (.int (mvl (qAt S.1 (xs (i + 1))))), none] [.long ((qAt S.1 (xs (i + 1))).toInt64)] 1184
      refine r_iload (pc' := 1186) hX dL_law_1184 rfl rfl ?_
      rw [mvl_pos hq0]
      refine r_i2l (pc' := 1187) hX dL_law_1186 rfl rfl ?_
      refine r_lcmp0 (pc' := 1188) hX dL_law_1187 rfl ?_
      refine r_if_eq_N (tgt := 1193) (pc' := 1191) hX dL_law_1188 (by decide) rfl (by omega) (fun c1188 => ?_) (fun c1188 => ?_)
      · refine r_goto (tgt := 2780) hX dL_law_1193 (by decide) ?_
        refine V_loc (L' := [some (.ref b), some (.ref f), some (.ref (ma 0)), some (.ref o), some (.ref od), some (.int (nI i)), none, none, none]) (lo_w ⟨.inr rfl, .inr rfl, .inr rfl, .inr rfl, .inr rfl, .inr rfl, .inl rfl, .inl rfl, .inr rfl, trivial⟩) ?_
        refine V_widen (k' := k0 + 23) (n' := n0 + 3450) (by omega) (by omega) ?_
        exact cont (S) _ _ _ _ _ (hF1) hu26 (hA.mono (by omega))
      · exact absurd c1188 (by omega)
  · exact absurd c1171 (by omega)

set_option maxRecDepth 20000 in
set_option maxHeartbeats 1000000 in
theorem lc_20 {X : xC} {l : Launch} {D : va_G} {cy : Nat → ClassId} {sa : Nat → Nat} {mc ms k0 n0 f o od b L9 i K t : Nat} {ma : Nat → Nat} {xs : Nat → Int32} {S : AS} {fl : Nat → Int64} {fd : Nat → UInt64} {wf wm : va_W} (hX : Ok SF X cL_law RL 16 mc ms) (hG : c0_G X = (D, cy, sa)) (hcy : c0_cy X = cy) (hnL : c0_nL X = 9) (hl : c0_l X = l) (hst : l.stackTraces = false) (hScr : Scr X b L9 xs) (hi : i + 4 ≤ L9) (hL9 : L9 ≤ 2048) (hF : FS cy f S wf) (hM : MS cy ma S t wm) (hA : AJ K S) (hK : K + 61 ≤ 100000) (hk : k0 + 23 ≤ mc) (hn : n0 + 3450 ≤ ms) (cont : ∀ (S1 : AS) (t1 : Nat) (fl1 : Nat → Int64) (fd1 : Nat → UInt64) (wf1 wm1 : va_W), FS cy f S1 wf1 → MS cy ma S1 t1 wm1 → AJ (K + 61) S1 → V X (k0 + 23) (n0 + 3450) (LW cy o od fl1 fd1 wf1 wm1) [some (.ref b), some (.ref f), some (.ref (ma 0)), some (.ref o), some (.ref od), some (.int (nI i)), none, none, none] [] 2780) : V X k0 n0 (LW cy o od fl fd wf wm) [some (.ref b), some (.ref f), some (.ref (ma 0)), some (.ref o), some (.ref od), some (.int (nI i)), none, none, none] [] 1259 := by
  have hv : Wf S.1 := hA.1.1.1.1
  have hInv : Inv K S.1 := hA.1.1.1
  have hFB := hA.1.1.2
  have hq9 : 0 ≤ (qBat (bNum 2) S.1 (xs (i + 1))).toInt ∨ (qBat (bNum 2) S.1 (xs (i + 1))) = -5 := qBat_q (bNum_lt (by decide) hv)
  have hkk : kd 0 0 0 0 1 (qBat (bNum 2) S.1 (xs (i + 1))) = kd 1 1 1 1 1 (qBat (bNum 2) S.1 (xs (i + 1))) := by
    rcases hq9 with h9 | h9
    · rw [kd_pos h9, kd_pos h9]
    · rw [h9]; rfl
  refine r_aload_n (pc' := 1260) hX dL_law_1259 rfl rfl ?_
  refine r_aload_n (pc' := 1261) hX dL_law_1260 rfl rfl ?_
  refine r_iload (pc' := 1263) hX dL_law_1261 rfl rfl ?_
  refine r_iconst (pc' := 1264) (v := nI 1) hX dL_law_1263 rfl rfl ?_
  refine r_iadd_N (pc' := 1265) hX dL_law_1264  rfl ?_
  refine r_sld (pc' := 1266) hX dL_law_1265 hScr (by omega) hL9 rfl ?_
  refine r_aload_n (pc' := 1267) hX dL_law_1266 rfl rfl ?_
  refine V_call (k' := k0 + 1) (n' := n0 + 6) (pc' := 1270) (wr := ([(od, .inl (cy 7, aD 1 fd))] ++ wm)) hX (r_runSW (As := [.ref f, .int (xs (i + 1)), .ref o]) hX dL_law_1267 kw_L_230 (fun l9 hl9 => by cases hl9; exact cW_batchSize (v := S.1) rfl hF hA.1 (hst := (by rw [hl]; exact hst)) (hq := hq9) ) hG rfl rfl (Nat.le_of_ble_eq_true rfl) (by decide) (by decide) (by omega) (by omega)) (LW_c) (by omega) (by omega) rfl (fun w9 u9 hp9 => ?_)
  obtain ⟨fl1, ws1, rfl, rfl, hP1, hN1⟩ := hp9
  rw [hkk]
  change V X (k0 + 1) (n0 + 6) (([(o, .inl (cy 6, aL 1 fl1))] ++ ws1) ++ ([(od, .inl (cy 7, aD 1 fd))] ++ wm)) [some (.ref b), some (.ref f), some (.ref (ma 0)), some (.ref o), some (.ref od), some (.int (nI i)), none, none, none] [.int (nI (kd 1 1 1 1 1 (qBat (bNum 2) S.1 (xs (i + 1)))))] 1270
  refine V_perm (LW_c.symm) ?_
  refine r_istore (L' := [some (.ref b), some (.ref f), some (.ref (ma 0)), some (.ref o), some (.ref od), some (.int (nI i)), some (.int (nI (kd 1 1 1 1 1 (qBat (bNum 2) S.1 (xs (i + 1)))))), none, none]) (pc' := 1272) hX dL_law_1270 (nlt hnL (by decide)) rfl rfl rfl ?_
  refine r_aload_n (pc' := 1273) hX dL_law_1272 rfl rfl ?_
  refine r_aload_n (pc' := 1274) hX dL_law_1273 rfl rfl ?_
  refine r_iload (pc' := 1276) hX dL_law_1274 rfl rfl ?_
  refine r_iconst (pc' := 1277) (v := nI 1) hX dL_law_1276 rfl rfl ?_
  refine r_iadd_N (pc' := 1278) hX dL_law_1277  rfl ?_
  refine r_sld (pc' := 1279) hX dL_law_1278 hScr (by omega) hL9 rfl ?_
  refine V_call (k' := k0 + 1) (n' := n0 + 6) (pc' := 1282) (wr := ([(o, .inl (cy 6, aL 1 fl1)), (od, .inl (cy 7, aD 1 fd))] ++ ws1)) hX (r_runV (As := [.int (xs (i + 1))]) hX dL_law_1279 k_L_232 (fun l9 hl9 => cMw_batchSize (v := S.1) rfl hM hv (x := (xs (i + 1)))) hG (MS_recv hM) rfl rfl (Nat.le_of_ble_eq_true rfl) (by decide) (by decide) (by omega) (by omega)) (LW_m) (by omega) (by omega) rfl (fun w9 u27 hp9 => ?_)
  obtain ⟨rfl, hu27⟩ := hp9
  change V X (k0 + 1) (n0 + 6) (u27 ++ ([(o, .inl (cy 6, aL 1 fl1)), (od, .inl (cy 7, aD 1 fd))] ++ ws1)) [some (.ref b), some (.ref f), some (.ref (ma 0)), some (.ref o), some (.ref od), some (.int (nI i)), some (.int (nI (kd 1 1 1 1 1 (qBat (bNum 2) S.1 (xs (i + 1)))))), none, none] [.int (mvl (qBat (bNum 2) S.1 (xs (i + 1))))] 1282
  refine V_perm (LW_m.symm) ?_
  refine r_istore (L' := [some (.ref b), some (.ref f), some (.ref (ma 0)), some (.ref o), some (.ref od), some (.int (nI i)), some (.int (nI (kd 1 1 1 1 1 (qBat (bNum 2) S.1 (xs (i + 1)))))), some (.int (mvl (qBat (bNum 2) S.1 (xs (i + 1))))), none]) (pc' := 1284) hX dL_law_1282 (nlt hnL (by decide)) rfl rfl rfl ?_
  refine r_aload_n (pc' := 1285) hX dL_law_1284 rfl rfl ?_
  refine V_call (k' := k0 + 1) (n' := n0 + 6) (pc' := 1288) (wr := ([(o, .inl (cy 6, aL 1 fl1)), (od, .inl (cy 7, aD 1 fd))] ++ ws1)) hX (r_runV (As := []) hX dL_law_1285 k_L_163 (fun l9 hl9 => cMw_thrown hu27) hG (MS_recv hu27) rfl rfl (Nat.le_of_ble_eq_true rfl) (by decide) (by decide) (by omega) (by omega)) (LW_m) (by omega) (by omega) rfl (fun w9 u28 hp9 => ?_)
  obtain ⟨rfl, hu28⟩ := hp9
  change V X (k0 + 1) (n0 + 6) (u28 ++ ([(o, .inl (cy 6, aL 1 fl1)), (od, .inl (cy 7, aD 1 fd))] ++ ws1)) [some (.ref b), some (.ref f), some (.ref (ma 0)), some (.ref o), some (.ref od), some (.int (nI i)), some (.int (nI (kd 1 1 1 1 1 (qBat (bNum 2) S.1 (xs (i + 1)))))), some (.int (mvl (qBat (bNum 2) S.1 (xs (i + 1))))), none] [.int (nI (kd 1 1 1 1 1 (qBat (bNum 2) S.1 (xs (i + 1)))))] 1288
  refine V_perm (LW_m.symm) ?_
  refine r_iload (pc' := 1290) hX dL_law_1288 rfl rfl ?_
  have hkd := kd_lt (a := 1) (b := 1) (c := 1) (d := 1) (e := 1) (x := qBat (bNum 2) S.1 (xs (i + 1))) rfl
  refine r_icmp_eq_N (tgt := 1295) (pc' := 1293) hX dL_law_1290 (by decide) rfl (by omega) (by omega) (fun c1290 => ?_) (fun c1290 => ?_)
  · refine r_iload (pc' := 1297) hX dL_law_1295 rfl rfl ?_
    refine r_if_ne_N (tgt := 1312) (pc' := 1300) hX dL_law_1297 (by decide) rfl (by omega) (fun c1297 => ?_) (fun c1297 => ?_)
    · have hq1 : (qBat (bNum 2) S.1 (xs (i + 1))).toInt < 0 := by
        refine Classical.byContradiction fun h9 => c1297 (kd_pos (by omega))
      have hF1 := hN1 hq1
      refine r_goto (tgt := 2780) hX dL_law_1312 (by decide) ?_
      refine V_loc (L' := [some (.ref b), some (.ref f), some (.ref (ma 0)), some (.ref o), some (.ref od), some (.int (nI i)), none, none, none]) (lo_w ⟨.inr rfl, .inr rfl, .inr rfl, .inr rfl, .inr rfl, .inr rfl, .inl rfl, .inl rfl, .inr rfl, trivial⟩) ?_
      refine V_widen (k' := k0 + 23) (n' := n0 + 3450) (by omega) (by omega) ?_
      exact cont (S) _ _ _ _ _ (hF1) hu28 (hA.mono (by omega))
    · have hq0 : 0 ≤ (qBat (bNum 2) S.1 (xs (i + 1))).toInt := by
        rcases hq9 with h9 | h9
        · exact h9
        · rw [h9] at c1297; exact absurd c1297 (by decide)
      obtain ⟨hF1, hfl1⟩ := hP1 hq0
      refine r_aload_n (pc' := 1301) hX dL_law_1300 rfl rfl ?_
      refine r_iconst (pc' := 1302) (v := nI 0) hX dL_law_1301 rfl rfl ?_
      refine r_lald (pc' := 1303) hX dL_law_1302 (by rw [hcy]) 0 rfl rfl ?_
      rw [hfl1]
      change V X (k0 + 1) (n0 + 6) (LW cy o od fl1 fd ws1 u28) [some (.ref b), some (.ref f), some (.ref (ma 0)), some (.ref o), some (.ref od), some (.int (nI i)), some (.int (nI (kd 1 1 1 1 1 (qBat (bNum 2) S.1 (xs (i + 1)))))), some (.int (mvl (qBat (bNum 2) S.1 (xs (i + 1))))), none] [.long ((qBat (bNum 2) S.1 (xs (i + 1))).toInt64)] 1303
      refine r_iload (pc' := 1305) hX dL_law_1303 rfl rfl ?_
      rw [mvl_pos hq0]
      refine r_i2l (pc' := 1306) hX dL_law_1305 rfl rfl ?_
      refine r_lcmp0 (pc' := 1307) hX dL_law_1306 rfl ?_
      refine r_if_eq_N (tgt := 1312) (pc' := 1310) hX dL_law_1307 (by decide) rfl (by omega) (fun c1307 => ?_) (fun c1307 => ?_)
      · refine r_goto (tgt := 2780) hX dL_law_1312 (by decide) ?_
        refine V_loc (L' := [some (.ref b), some (.ref f), some (.ref (ma 0)), some (.ref o), some (.ref od), some (.int (nI i)), none, none, none]) (lo_w ⟨.inr rfl, .inr rfl, .inr rfl, .inr rfl, .inr rfl, .inr rfl, .inl rfl, .inl rfl, .inr rfl, trivial⟩) ?_
        refine V_widen (k' := k0 + 23) (n' := n0 + 3450) (by omega) (by omega) ?_
        exact cont (S) _ _ _ _ _ (hF1) hu28 (hA.mono (by omega))
      · exact absurd c1307 (by omega)
  · exact absurd c1290 (by omega)

set_option maxRecDepth 20000 in
set_option maxHeartbeats 1000000 in
theorem lc_21 {X : xC} {l : Launch} {D : va_G} {cy : Nat → ClassId} {sa : Nat → Nat} {mc ms k0 n0 f o od b L9 i K t : Nat} {ma : Nat → Nat} {xs : Nat → Int32} {S : AS} {fl : Nat → Int64} {fd : Nat → UInt64} {wf wm : va_W} (hX : Ok SF X cL_law RL 16 mc ms) (hG : c0_G X = (D, cy, sa)) (hcy : c0_cy X = cy) (hnL : c0_nL X = 9) (hl : c0_l X = l) (hst : l.stackTraces = false) (hScr : Scr X b L9 xs) (hi : i + 4 ≤ L9) (hL9 : L9 ≤ 2048) (hF : FS cy f S wf) (hM : MS cy ma S t wm) (hA : AJ K S) (hK : K + 61 ≤ 100000) (hk : k0 + 23 ≤ mc) (hn : n0 + 3450 ≤ ms) (cont : ∀ (S1 : AS) (t1 : Nat) (fl1 : Nat → Int64) (fd1 : Nat → UInt64) (wf1 wm1 : va_W), FS cy f S1 wf1 → MS cy ma S1 t1 wm1 → AJ (K + 61) S1 → V X (k0 + 23) (n0 + 3450) (LW cy o od fl1 fd1 wf1 wm1) [some (.ref b), some (.ref f), some (.ref (ma 0)), some (.ref o), some (.ref od), some (.int (nI i)), none, none, none] [] 2780) : V X k0 n0 (LW cy o od fl fd wf wm) [some (.ref b), some (.ref f), some (.ref (ma 0)), some (.ref o), some (.ref od), some (.int (nI i)), none, none, none] [] 1315 := by
  have hv : Wf S.1 := hA.1.1.1.1
  have hInv : Inv K S.1 := hA.1.1.1
  have hFB := hA.1.1.2
  have hq9 : 0 ≤ (qBat (bNum 1) S.1 (xs (i + 1))).toInt ∨ (qBat (bNum 1) S.1 (xs (i + 1))) = -5 := qBat_q (bNum_lt (by decide) hv)
  have hkk : kd 0 0 0 0 1 (qBat (bNum 1) S.1 (xs (i + 1))) = kd 1 1 1 1 1 (qBat (bNum 1) S.1 (xs (i + 1))) := by
    rcases hq9 with h9 | h9
    · rw [kd_pos h9, kd_pos h9]
    · rw [h9]; rfl
  refine r_aload_n (pc' := 1316) hX dL_law_1315 rfl rfl ?_
  refine r_aload_n (pc' := 1317) hX dL_law_1316 rfl rfl ?_
  refine r_iload (pc' := 1319) hX dL_law_1317 rfl rfl ?_
  refine r_iconst (pc' := 1320) (v := nI 1) hX dL_law_1319 rfl rfl ?_
  refine r_iadd_N (pc' := 1321) hX dL_law_1320  rfl ?_
  refine r_sld (pc' := 1322) hX dL_law_1321 hScr (by omega) hL9 rfl ?_
  refine r_aload_n (pc' := 1323) hX dL_law_1322 rfl rfl ?_
  refine V_call (k' := k0 + 1) (n' := n0 + 6) (pc' := 1326) (wr := ([(od, .inl (cy 7, aD 1 fd))] ++ wm)) hX (r_runSW (As := [.ref f, .int (xs (i + 1)), .ref o]) hX dL_law_1323 kw_L_233 (fun l9 hl9 => by cases hl9; exact cW_firstBow (v := S.1) rfl hF hA.1 (hst := (by rw [hl]; exact hst)) (hq := hq9) ) hG rfl rfl (Nat.le_of_ble_eq_true rfl) (by decide) (by decide) (by omega) (by omega)) (LW_c) (by omega) (by omega) rfl (fun w9 u9 hp9 => ?_)
  obtain ⟨fl1, ws1, rfl, rfl, hP1, hN1⟩ := hp9
  rw [hkk]
  change V X (k0 + 1) (n0 + 6) (([(o, .inl (cy 6, aL 1 fl1))] ++ ws1) ++ ([(od, .inl (cy 7, aD 1 fd))] ++ wm)) [some (.ref b), some (.ref f), some (.ref (ma 0)), some (.ref o), some (.ref od), some (.int (nI i)), none, none, none] [.int (nI (kd 1 1 1 1 1 (qBat (bNum 1) S.1 (xs (i + 1)))))] 1326
  refine V_perm (LW_c.symm) ?_
  refine r_istore (L' := [some (.ref b), some (.ref f), some (.ref (ma 0)), some (.ref o), some (.ref od), some (.int (nI i)), some (.int (nI (kd 1 1 1 1 1 (qBat (bNum 1) S.1 (xs (i + 1)))))), none, none]) (pc' := 1328) hX dL_law_1326 (nlt hnL (by decide)) rfl rfl rfl ?_
  refine r_aload_n (pc' := 1329) hX dL_law_1328 rfl rfl ?_
  refine r_aload_n (pc' := 1330) hX dL_law_1329 rfl rfl ?_
  refine r_iload (pc' := 1332) hX dL_law_1330 rfl rfl ?_
  refine r_iconst (pc' := 1333) (v := nI 1) hX dL_law_1332 rfl rfl ?_
  refine r_iadd_N (pc' := 1334) hX dL_law_1333  rfl ?_
  refine r_sld (pc' := 1335) hX dL_law_1334 hScr (by omega) hL9 rfl ?_
  refine V_call (k' := k0 + 1) (n' := n0 + 6) (pc' := 1338) (wr := ([(o, .inl (cy 6, aL 1 fl1)), (od, .inl (cy 7, aD 1 fd))] ++ ws1)) hX (r_runV (As := [.int (xs (i + 1))]) hX dL_law_1335 k_L_235 (fun l9 hl9 => cMw_firstBow (v := S.1) rfl hM hv (x := (xs (i + 1)))) hG (MS_recv hM) rfl rfl (Nat.le_of_ble_eq_true rfl) (by decide) (by decide) (by omega) (by omega)) (LW_m) (by omega) (by omega) rfl (fun w9 u29 hp9 => ?_)
  obtain ⟨rfl, hu29⟩ := hp9
  change V X (k0 + 1) (n0 + 6) (u29 ++ ([(o, .inl (cy 6, aL 1 fl1)), (od, .inl (cy 7, aD 1 fd))] ++ ws1)) [some (.ref b), some (.ref f), some (.ref (ma 0)), some (.ref o), some (.ref od), some (.int (nI i)), some (.int (nI (kd 1 1 1 1 1 (qBat (bNum 1) S.1 (xs (i + 1)))))), none, none] [.int (mvl (qBat (bNum 1) S.1 (xs (i + 1))))] 1338
  refine V_perm (LW_m.symm) ?_
  refine r_istore (L' := [some (.ref b), some (.ref f), some (.ref (ma 0)), some (.ref o), some (.ref od), some (.int (nI i)), some (.int (nI (kd 1 1 1 1 1 (qBat (bNum 1) S.1 (xs (i + 1)))))), some (.int (mvl (qBat (bNum 1) S.1 (xs (i + 1))))), none]) (pc' := 1340) hX dL_law_1338 (nlt hnL (by decide)) rfl rfl rfl ?_
  refine r_aload_n (pc' := 1341) hX dL_law_1340 rfl rfl ?_
  refine V_call (k' := k0 + 1) (n' := n0 + 6) (pc' := 1344) (wr := ([(o, .inl (cy 6, aL 1 fl1)), (od, .inl (cy 7, aD 1 fd))] ++ ws1)) hX (r_runV (As := []) hX dL_law_1341 k_L_163 (fun l9 hl9 => cMw_thrown hu29) hG (MS_recv hu29) rfl rfl (Nat.le_of_ble_eq_true rfl) (by decide) (by decide) (by omega) (by omega)) (LW_m) (by omega) (by omega) rfl (fun w9 u30 hp9 => ?_)
  obtain ⟨rfl, hu30⟩ := hp9
  change V X (k0 + 1) (n0 + 6) (u30 ++ ([(o, .inl (cy 6, aL 1 fl1)), (od, .inl (cy 7, aD 1 fd))] ++ ws1)) [some (.ref b), some (.ref f), some (.ref (ma 0)), some (.ref o), some (.ref od), some (.int (nI i)), some (.int (nI (kd 1 1 1 1 1 (qBat (bNum 1) S.1 (xs (i + 1)))))), some (.int (mvl (qBat (bNum 1) S.1 (xs (i + 1))))), none] [.int (nI (kd 1 1 1 1 1 (qBat (bNum 1) S.1 (xs (i + 1)))))] 1344
  refine V_perm (LW_m.symm) ?_
  refine r_iload (pc' := 1346) hX dL_law_1344 rfl rfl ?_
  have hkd := kd_lt (a := 1) (b := 1) (c := 1) (d := 1) (e := 1) (x := qBat (bNum 1) S.1 (xs (i + 1))) rfl
  refine r_icmp_eq_N (tgt := 1351) (pc' := 1349) hX dL_law_1346 (by decide) rfl (by omega) (by omega) (fun c1346 => ?_) (fun c1346 => ?_)
  · refine r_iload (pc' := 1353) hX dL_law_1351 rfl rfl ?_
    refine r_if_ne_N (tgt := 1368) (pc' := 1356) hX dL_law_1353 (by decide) rfl (by omega) (fun c1353 => ?_) (fun c1353 => ?_)
    · have hq1 : (qBat (bNum 1) S.1 (xs (i + 1))).toInt < 0 := by
        refine Classical.byContradiction fun h9 => c1353 (kd_pos (by omega))
      have hF1 := hN1 hq1
      refine r_goto (tgt := 2780) hX dL_law_1368 (by decide) ?_
      refine V_loc (L' := [some (.ref b), some (.ref f), some (.ref (ma 0)), some (.ref o), some (.ref od), some (.int (nI i)), none, none, none]) (lo_w ⟨.inr rfl, .inr rfl, .inr rfl, .inr rfl, .inr rfl, .inr rfl, .inl rfl, .inl rfl, .inr rfl, trivial⟩) ?_
      refine V_widen (k' := k0 + 23) (n' := n0 + 3450) (by omega) (by omega) ?_
      exact cont (S) _ _ _ _ _ (hF1) hu30 (hA.mono (by omega))
    · have hq0 : 0 ≤ (qBat (bNum 1) S.1 (xs (i + 1))).toInt := by
        rcases hq9 with h9 | h9
        · exact h9
        · rw [h9] at c1353; exact absurd c1353 (by decide)
      obtain ⟨hF1, hfl1⟩ := hP1 hq0
      refine r_aload_n (pc' := 1357) hX dL_law_1356 rfl rfl ?_
      refine r_iconst (pc' := 1358) (v := nI 0) hX dL_law_1357 rfl rfl ?_
      refine r_lald (pc' := 1359) hX dL_law_1358 (by rw [hcy]) 0 rfl rfl ?_
      rw [hfl1]
      change V X (k0 + 1) (n0 + 6) (LW cy o od fl1 fd ws1 u30) [some (.ref b), some (.ref f), some (.ref (ma 0)), some (.ref o), some (.ref od), some (.int (nI i)), some (.int (nI (kd 1 1 1 1 1 (qBat (bNum 1) S.1 (xs (i + 1)))))), some (.int (mvl (qBat (bNum 1) S.1 (xs (i + 1))))), none] [.long ((qBat (bNum 1) S.1 (xs (i + 1))).toInt64)] 1359
      refine r_iload (pc' := 1361) hX dL_law_1359 rfl rfl ?_
      rw [mvl_pos hq0]
      refine r_i2l (pc' := 1362) hX dL_law_1361 rfl rfl ?_
      refine r_lcmp0 (pc' := 1363) hX dL_law_1362 rfl ?_
      refine r_if_eq_N (tgt := 1368) (pc' := 1366) hX dL_law_1363 (by decide) rfl (by omega) (fun c1363 => ?_) (fun c1363 => ?_)
      · refine r_goto (tgt := 2780) hX dL_law_1368 (by decide) ?_
        refine V_loc (L' := [some (.ref b), some (.ref f), some (.ref (ma 0)), some (.ref o), some (.ref od), some (.int (nI i)), none, none, none]) (lo_w ⟨.inr rfl, .inr rfl, .inr rfl, .inr rfl, .inr rfl, .inr rfl, .inl rfl, .inl rfl, .inr rfl, trivial⟩) ?_
        refine V_widen (k' := k0 + 23) (n' := n0 + 3450) (by omega) (by omega) ?_
        exact cont (S) _ _ _ _ _ (hF1) hu30 (hA.mono (by omega))
      · exact absurd c1363 (by omega)
  · exact absurd c1346 (by omega)

set_option maxRecDepth 20000 in
set_option maxHeartbeats 1000000 in
theorem lc_22 {X : xC} {l : Launch} {D : va_G} {cy : Nat → ClassId} {sa : Nat → Nat} {mc ms k0 n0 f o od b L9 i K t : Nat} {ma : Nat → Nat} {xs : Nat → Int32} {S : AS} {fl : Nat → Int64} {fd : Nat → UInt64} {wf wm : va_W} (hX : Ok SF X cL_law RL 16 mc ms) (hG : c0_G X = (D, cy, sa)) (hcy : c0_cy X = cy) (hnL : c0_nL X = 9) (hl : c0_l X = l) (hst : l.stackTraces = false) (hScr : Scr X b L9 xs) (hi : i + 4 ≤ L9) (hL9 : L9 ≤ 2048) (hF : FS cy f S wf) (hM : MS cy ma S t wm) (hA : AJ K S) (hK : K + 61 ≤ 100000) (hk : k0 + 23 ≤ mc) (hn : n0 + 3450 ≤ ms) (cont : ∀ (S1 : AS) (t1 : Nat) (fl1 : Nat → Int64) (fd1 : Nat → UInt64) (wf1 wm1 : va_W), FS cy f S1 wf1 → MS cy ma S1 t1 wm1 → AJ (K + 61) S1 → V X (k0 + 23) (n0 + 3450) (LW cy o od fl1 fd1 wf1 wm1) [some (.ref b), some (.ref f), some (.ref (ma 0)), some (.ref o), some (.ref od), some (.int (nI i)), none, none, none] [] 2780) : V X k0 n0 (LW cy o od fl fd wf wm) [some (.ref b), some (.ref f), some (.ref (ma 0)), some (.ref o), some (.ref od), some (.int (nI i)), none, none, none] [] 1371 := by
  have hv : Wf S.1 := hA.1.1.1.1
  have hInv : Inv K S.1 := hA.1.1.1
  have hFB := hA.1.1.2
  have hq9 : 0 ≤ (qSqk S.1 (xs (i + 1))).toInt ∨ (qSqk S.1 (xs (i + 1))) = -5 := qSqk_q hv
  have hkk : kd 0 0 0 0 1 (qSqk S.1 (xs (i + 1))) = kd 1 1 1 1 1 (qSqk S.1 (xs (i + 1))) := by
    rcases hq9 with h9 | h9
    · rw [kd_pos h9, kd_pos h9]
    · rw [h9]; rfl
  refine r_aload_n (pc' := 1372) hX dL_law_1371 rfl rfl ?_
  refine r_aload_n (pc' := 1373) hX dL_law_1372 rfl rfl ?_
  refine r_iload (pc' := 1375) hX dL_law_1373 rfl rfl ?_
  refine r_iconst (pc' := 1376) (v := nI 1) hX dL_law_1375 rfl rfl ?_
  refine r_iadd_N (pc' := 1377) hX dL_law_1376  rfl ?_
  refine r_sld (pc' := 1378) hX dL_law_1377 hScr (by omega) hL9 rfl ?_
  refine r_aload_n (pc' := 1379) hX dL_law_1378 rfl rfl ?_
  refine V_call (k' := k0 + 1) (n' := n0 + 6) (pc' := 1382) (wr := ([(od, .inl (cy 7, aD 1 fd))] ++ wm)) hX (r_runSW (As := [.ref f, .int (xs (i + 1)), .ref o]) hX dL_law_1379 kw_L_236 (fun l9 hl9 => by cases hl9; exact cW_squeak (v := S.1) rfl hF hA.1 (hst := (by rw [hl]; exact hst)) (hq := hq9) ) hG rfl rfl (Nat.le_of_ble_eq_true rfl) (by decide) (by decide) (by omega) (by omega)) (LW_c) (by omega) (by omega) rfl (fun w9 u9 hp9 => ?_)
  obtain ⟨fl1, ws1, rfl, rfl, hP1, hN1⟩ := hp9
  rw [hkk]
  change V X (k0 + 1) (n0 + 6) (([(o, .inl (cy 6, aL 1 fl1))] ++ ws1) ++ ([(od, .inl (cy 7, aD 1 fd))] ++ wm)) [some (.ref b), some (.ref f), some (.ref (ma 0)), some (.ref o), some (.ref od), some (.int (nI i)), none, none, none] [.int (nI (kd 1 1 1 1 1 (qSqk S.1 (xs (i + 1)))))] 1382
  refine V_perm (LW_c.symm) ?_
  refine r_istore (L' := [some (.ref b), some (.ref f), some (.ref (ma 0)), some (.ref o), some (.ref od), some (.int (nI i)), some (.int (nI (kd 1 1 1 1 1 (qSqk S.1 (xs (i + 1)))))), none, none]) (pc' := 1384) hX dL_law_1382 (nlt hnL (by decide)) rfl rfl rfl ?_
  refine r_aload_n (pc' := 1385) hX dL_law_1384 rfl rfl ?_
  refine r_aload_n (pc' := 1386) hX dL_law_1385 rfl rfl ?_
  refine r_iload (pc' := 1388) hX dL_law_1386 rfl rfl ?_
  refine r_iconst (pc' := 1389) (v := nI 1) hX dL_law_1388 rfl rfl ?_
  refine r_iadd_N (pc' := 1390) hX dL_law_1389  rfl ?_
  refine r_sld (pc' := 1391) hX dL_law_1390 hScr (by omega) hL9 rfl ?_
  refine V_call (k' := k0 + 1) (n' := n0 + 6) (pc' := 1394) (wr := ([(o, .inl (cy 6, aL 1 fl1)), (od, .inl (cy 7, aD 1 fd))] ++ ws1)) hX (r_runV (As := [.int (xs (i + 1))]) hX dL_law_1391 k_L_238 (fun l9 hl9 => cMw_squeak (v := S.1) rfl hM hv (x := (xs (i + 1)))) hG (MS_recv hM) rfl rfl (Nat.le_of_ble_eq_true rfl) (by decide) (by decide) (by omega) (by omega)) (LW_m) (by omega) (by omega) rfl (fun w9 u31 hp9 => ?_)
  obtain ⟨rfl, hu31⟩ := hp9
  change V X (k0 + 1) (n0 + 6) (u31 ++ ([(o, .inl (cy 6, aL 1 fl1)), (od, .inl (cy 7, aD 1 fd))] ++ ws1)) [some (.ref b), some (.ref f), some (.ref (ma 0)), some (.ref o), some (.ref od), some (.int (nI i)), some (.int (nI (kd 1 1 1 1 1 (qSqk S.1 (xs (i + 1)))))), none, none] [.int (mvl (qSqk S.1 (xs (i + 1))))] 1394
  refine V_perm (LW_m.symm) ?_
  refine r_istore (L' := [some (.ref b), some (.ref f), some (.ref (ma 0)), some (.ref o), some (.ref od), some (.int (nI i)), some (.int (nI (kd 1 1 1 1 1 (qSqk S.1 (xs (i + 1)))))), some (.int (mvl (qSqk S.1 (xs (i + 1))))), none]) (pc' := 1396) hX dL_law_1394 (nlt hnL (by decide)) rfl rfl rfl ?_
  refine r_aload_n (pc' := 1397) hX dL_law_1396 rfl rfl ?_
  refine V_call (k' := k0 + 1) (n' := n0 + 6) (pc' := 1400) (wr := ([(o, .inl (cy 6, aL 1 fl1)), (od, .inl (cy 7, aD 1 fd))] ++ ws1)) hX (r_runV (As := []) hX dL_law_1397 k_L_163 (fun l9 hl9 => cMw_thrown hu31) hG (MS_recv hu31) rfl rfl (Nat.le_of_ble_eq_true rfl) (by decide) (by decide) (by omega) (by omega)) (LW_m) (by omega) (by omega) rfl (fun w9 u32 hp9 => ?_)
  obtain ⟨rfl, hu32⟩ := hp9
  change V X (k0 + 1) (n0 + 6) (u32 ++ ([(o, .inl (cy 6, aL 1 fl1)), (od, .inl (cy 7, aD 1 fd))] ++ ws1)) [some (.ref b), some (.ref f), some (.ref (ma 0)), some (.ref o), some (.ref od), some (.int (nI i)), some (.int (nI (kd 1 1 1 1 1 (qSqk S.1 (xs (i + 1)))))), some (.int (mvl (qSqk S.1 (xs (i + 1))))), none] [.int (nI (kd 1 1 1 1 1 (qSqk S.1 (xs (i + 1)))))] 1400
  refine V_perm (LW_m.symm) ?_
  refine r_iload (pc' := 1402) hX dL_law_1400 rfl rfl ?_
  have hkd := kd_lt (a := 1) (b := 1) (c := 1) (d := 1) (e := 1) (x := qSqk S.1 (xs (i + 1))) rfl
  refine r_icmp_eq_N (tgt := 1407) (pc' := 1405) hX dL_law_1402 (by decide) rfl (by omega) (by omega) (fun c1402 => ?_) (fun c1402 => ?_)
  · refine r_iload (pc' := 1409) hX dL_law_1407 rfl rfl ?_
    refine r_if_ne_N (tgt := 1424) (pc' := 1412) hX dL_law_1409 (by decide) rfl (by omega) (fun c1409 => ?_) (fun c1409 => ?_)
    · have hq1 : (qSqk S.1 (xs (i + 1))).toInt < 0 := by
        refine Classical.byContradiction fun h9 => c1409 (kd_pos (by omega))
      have hF1 := hN1 hq1
      refine r_goto (tgt := 2780) hX dL_law_1424 (by decide) ?_
      refine V_loc (L' := [some (.ref b), some (.ref f), some (.ref (ma 0)), some (.ref o), some (.ref od), some (.int (nI i)), none, none, none]) (lo_w ⟨.inr rfl, .inr rfl, .inr rfl, .inr rfl, .inr rfl, .inr rfl, .inl rfl, .inl rfl, .inr rfl, trivial⟩) ?_
      refine V_widen (k' := k0 + 23) (n' := n0 + 3450) (by omega) (by omega) ?_
      exact cont (S) _ _ _ _ _ (hF1) hu32 (hA.mono (by omega))
    · have hq0 : 0 ≤ (qSqk S.1 (xs (i + 1))).toInt := by
        rcases hq9 with h9 | h9
        · exact h9
        · rw [h9] at c1409; exact absurd c1409 (by decide)
      obtain ⟨hF1, hfl1⟩ := hP1 hq0
      refine r_aload_n (pc' := 1413) hX dL_law_1412 rfl rfl ?_
      refine r_iconst (pc' := 1414) (v := nI 0) hX dL_law_1413 rfl rfl ?_
      refine r_lald (pc' := 1415) hX dL_law_1414 (by rw [hcy]) 0 rfl rfl ?_
      rw [hfl1]
      change V X (k0 + 1) (n0 + 6) (LW cy o od fl1 fd ws1 u32) [some (.ref b), some (.ref f), some (.ref (ma 0)), some (.ref o), some (.ref od), some (.int (nI i)), some (.int (nI (kd 1 1 1 1 1 (qSqk S.1 (xs (i + 1)))))), some (.int (mvl (qSqk S.1 (xs (i + 1))))), none] [.long ((qSqk S.1 (xs (i + 1))).toInt64)] 1415
      refine r_iload (pc' := 1417) hX dL_law_1415 rfl rfl ?_
      rw [mvl_pos hq0]
      refine r_i2l (pc' := 1418) hX dL_law_1417 rfl rfl ?_
      refine r_lcmp0 (pc' := 1419) hX dL_law_1418 rfl ?_
      refine r_if_eq_N (tgt := 1424) (pc' := 1422) hX dL_law_1419 (by decide) rfl (by omega) (fun c1419 => ?_) (fun c1419 => ?_)
      · refine r_goto (tgt := 2780) hX dL_law_1424 (by decide) ?_
        refine V_loc (L' := [some (.ref b), some (.ref f), some (.ref (ma 0)), some (.ref o), some (.ref od), some (.int (nI i)), none, none, none]) (lo_w ⟨.inr rfl, .inr rfl, .inr rfl, .inr rfl, .inr rfl, .inr rfl, .inl rfl, .inl rfl, .inr rfl, trivial⟩) ?_
        refine V_widen (k' := k0 + 23) (n' := n0 + 3450) (by omega) (by omega) ?_
        exact cont (S) _ _ _ _ _ (hF1) hu32 (hA.mono (by omega))
      · exact absurd c1419 (by omega)
  · exact absurd c1402 (by omega)

set_option maxRecDepth 20000 in
set_option maxHeartbeats 1000000 in
theorem lc_24 {X : xC} {l : Launch} {D : va_G} {cy : Nat → ClassId} {sa : Nat → Nat} {mc ms k0 n0 f o od b L9 i K t : Nat} {ma : Nat → Nat} {xs : Nat → Int32} {S : AS} {fl : Nat → Int64} {fd : Nat → UInt64} {wf wm : va_W} (hX : Ok SF X cL_law RL 16 mc ms) (hG : c0_G X = (D, cy, sa)) (hcy : c0_cy X = cy) (hnL : c0_nL X = 9) (hl : c0_l X = l) (hst : l.stackTraces = false) (hScr : Scr X b L9 xs) (hi : i + 4 ≤ L9) (hL9 : L9 ≤ 2048) (hF : FS cy f S wf) (hM : MS cy ma S t wm) (hA : AJ K S) (hK : K + 61 ≤ 100000) (hk : k0 + 23 ≤ mc) (hn : n0 + 3450 ≤ ms) (cont : ∀ (S1 : AS) (t1 : Nat) (fl1 : Nat → Int64) (fd1 : Nat → UInt64) (wf1 wm1 : va_W), FS cy f S1 wf1 → MS cy ma S1 t1 wm1 → AJ (K + 61) S1 → V X (k0 + 23) (n0 + 3450) (LW cy o od fl1 fd1 wf1 wm1) [some (.ref b), some (.ref f), some (.ref (ma 0)), some (.ref o), some (.ref od), some (.int (nI i)), none, none, none] [] 2780) : V X k0 n0 (LW cy o od fl fd wf wm) [some (.ref b), some (.ref f), some (.ref (ma 0)), some (.ref o), some (.ref od), some (.int (nI i)), none, none, none] [] 1490 := by
  have hv : Wf S.1 := hA.1.1.1.1
  have hInv : Inv K S.1 := hA.1.1.1
  have hFB := hA.1.1.2
  have hq9 : 0 ≤ (qBof S.1 (xs (i + 1))).toInt ∨ (qBof S.1 (xs (i + 1))) = -5 := qBof_q hv
  have hkk : kd 0 0 0 0 1 (qBof S.1 (xs (i + 1))) = kd 1 1 1 1 1 (qBof S.1 (xs (i + 1))) := by
    rcases hq9 with h9 | h9
    · rw [kd_pos h9, kd_pos h9]
    · rw [h9]; rfl
  refine r_aload_n (pc' := 1491) hX dL_law_1490 rfl rfl ?_
  refine r_aload_n (pc' := 1492) hX dL_law_1491 rfl rfl ?_
  refine r_iload (pc' := 1494) hX dL_law_1492 rfl rfl ?_
  refine r_iconst (pc' := 1495) (v := nI 1) hX dL_law_1494 rfl rfl ?_
  refine r_iadd_N (pc' := 1496) hX dL_law_1495  rfl ?_
  refine r_sld (pc' := 1497) hX dL_law_1496 hScr (by omega) hL9 rfl ?_
  refine r_aload_n (pc' := 1498) hX dL_law_1497 rfl rfl ?_
  refine V_call (k' := k0 + 1) (n' := n0 + 6) (pc' := 1501) (wr := ([(od, .inl (cy 7, aD 1 fd))] ++ wm)) hX (r_runSW (As := [.ref f, .int (xs (i + 1)), .ref o]) hX dL_law_1498 kw_L_242 (fun l9 hl9 => by cases hl9; exact cW_batchOf (v := S.1) rfl hF hA.1 (hst := (by rw [hl]; exact hst)) (hq := hq9) ) hG rfl rfl (Nat.le_of_ble_eq_true rfl) (by decide) (by decide) (by omega) (by omega)) (LW_c) (by omega) (by omega) rfl (fun w9 u9 hp9 => ?_)
  obtain ⟨fl1, ws1, rfl, rfl, hP1, hN1⟩ := hp9
  rw [hkk]
  change V X (k0 + 1) (n0 + 6) (([(o, .inl (cy 6, aL 1 fl1))] ++ ws1) ++ ([(od, .inl (cy 7, aD 1 fd))] ++ wm)) [some (.ref b), some (.ref f), some (.ref (ma 0)), some (.ref o), some (.ref od), some (.int (nI i)), none, none, none] [.int (nI (kd 1 1 1 1 1 (qBof S.1 (xs (i + 1)))))] 1501
  refine V_perm (LW_c.symm) ?_
  refine r_istore (L' := [some (.ref b), some (.ref f), some (.ref (ma 0)), some (.ref o), some (.ref od), some (.int (nI i)), some (.int (nI (kd 1 1 1 1 1 (qBof S.1 (xs (i + 1)))))), none, none]) (pc' := 1503) hX dL_law_1501 (nlt hnL (by decide)) rfl rfl rfl ?_
  refine r_aload_n (pc' := 1504) hX dL_law_1503 rfl rfl ?_
  refine r_aload_n (pc' := 1505) hX dL_law_1504 rfl rfl ?_
  refine r_iload (pc' := 1507) hX dL_law_1505 rfl rfl ?_
  refine r_iconst (pc' := 1508) (v := nI 1) hX dL_law_1507 rfl rfl ?_
  refine r_iadd_N (pc' := 1509) hX dL_law_1508  rfl ?_
  refine r_sld (pc' := 1510) hX dL_law_1509 hScr (by omega) hL9 rfl ?_
  refine V_call (k' := k0 + 1) (n' := n0 + 6) (pc' := 1513) (wr := ([(o, .inl (cy 6, aL 1 fl1)), (od, .inl (cy 7, aD 1 fd))] ++ ws1)) hX (r_runV (As := [.int (xs (i + 1))]) hX dL_law_1510 k_L_244 (fun l9 hl9 => cMw_batchOf (v := S.1) rfl hM hv (x := (xs (i + 1)))) hG (MS_recv hM) rfl rfl (Nat.le_of_ble_eq_true rfl) (by decide) (by decide) (by omega) (by omega)) (LW_m) (by omega) (by omega) rfl (fun w9 u33 hp9 => ?_)
  obtain ⟨rfl, hu33⟩ := hp9
  change V X (k0 + 1) (n0 + 6) (u33 ++ ([(o, .inl (cy 6, aL 1 fl1)), (od, .inl (cy 7, aD 1 fd))] ++ ws1)) [some (.ref b), some (.ref f), some (.ref (ma 0)), some (.ref o), some (.ref od), some (.int (nI i)), some (.int (nI (kd 1 1 1 1 1 (qBof S.1 (xs (i + 1)))))), none, none] [.int (mvl (qBof S.1 (xs (i + 1))))] 1513
  refine V_perm (LW_m.symm) ?_
  refine r_istore (L' := [some (.ref b), some (.ref f), some (.ref (ma 0)), some (.ref o), some (.ref od), some (.int (nI i)), some (.int (nI (kd 1 1 1 1 1 (qBof S.1 (xs (i + 1)))))), some (.int (mvl (qBof S.1 (xs (i + 1))))), none]) (pc' := 1515) hX dL_law_1513 (nlt hnL (by decide)) rfl rfl rfl ?_
  refine r_aload_n (pc' := 1516) hX dL_law_1515 rfl rfl ?_
  refine V_call (k' := k0 + 1) (n' := n0 + 6) (pc' := 1519) (wr := ([(o, .inl (cy 6, aL 1 fl1)), (od, .inl (cy 7, aD 1 fd))] ++ ws1)) hX (r_runV (As := []) hX dL_law_1516 k_L_163 (fun l9 hl9 => cMw_thrown hu33) hG (MS_recv hu33) rfl rfl (Nat.le_of_ble_eq_true rfl) (by decide) (by decide) (by omega) (by omega)) (LW_m) (by omega) (by omega) rfl (fun w9 u34 hp9 => ?_)
  obtain ⟨rfl, hu34⟩ := hp9
  change V X (k0 + 1) (n0 + 6) (u34 ++ ([(o, .inl (cy 6, aL 1 fl1)), (od, .inl (cy 7, aD 1 fd))] ++ ws1)) [some (.ref b), some (.ref f), some (.ref (ma 0)), some (.ref o), some (.ref od), some (.int (nI i)), some (.int (nI (kd 1 1 1 1 1 (qBof S.1 (xs (i + 1)))))), some (.int (mvl (qBof S.1 (xs (i + 1))))), none] [.int (nI (kd 1 1 1 1 1 (qBof S.1 (xs (i + 1)))))] 1519
  refine V_perm (LW_m.symm) ?_
  refine r_iload (pc' := 1521) hX dL_law_1519 rfl rfl ?_
  have hkd := kd_lt (a := 1) (b := 1) (c := 1) (d := 1) (e := 1) (x := qBof S.1 (xs (i + 1))) rfl
  refine r_icmp_eq_N (tgt := 1526) (pc' := 1524) hX dL_law_1521 (by decide) rfl (by omega) (by omega) (fun c1521 => ?_) (fun c1521 => ?_)
  · refine r_iload (pc' := 1528) hX dL_law_1526 rfl rfl ?_
    refine r_if_ne_N (tgt := 1543) (pc' := 1531) hX dL_law_1528 (by decide) rfl (by omega) (fun c1528 => ?_) (fun c1528 => ?_)
    · have hq1 : (qBof S.1 (xs (i + 1))).toInt < 0 := by
        refine Classical.byContradiction fun h9 => c1528 (kd_pos (by omega))
      have hF1 := hN1 hq1
      refine r_goto (tgt := 2780) hX dL_law_1543 (by decide) ?_
      refine V_loc (L' := [some (.ref b), some (.ref f), some (.ref (ma 0)), some (.ref o), some (.ref od), some (.int (nI i)), none, none, none]) (lo_w ⟨.inr rfl, .inr rfl, .inr rfl, .inr rfl, .inr rfl, .inr rfl, .inl rfl, .inl rfl, .inr rfl, trivial⟩) ?_
      refine V_widen (k' := k0 + 23) (n' := n0 + 3450) (by omega) (by omega) ?_
      exact cont (S) _ _ _ _ _ (hF1) hu34 (hA.mono (by omega))
    · have hq0 : 0 ≤ (qBof S.1 (xs (i + 1))).toInt := by
        rcases hq9 with h9 | h9
        · exact h9
        · rw [h9] at c1528; exact absurd c1528 (by decide)
      obtain ⟨hF1, hfl1⟩ := hP1 hq0
      refine r_aload_n (pc' := 1532) hX dL_law_1531 rfl rfl ?_
      refine r_iconst (pc' := 1533) (v := nI 0) hX dL_law_1532 rfl rfl ?_
      refine r_lald (pc' := 1534) hX dL_law_1533 (by rw [hcy]) 0 rfl rfl ?_
      rw [hfl1]
      change V X (k0 + 1) (n0 + 6) (LW cy o od fl1 fd ws1 u34) [some (.ref b), some (.ref f), some (.ref (ma 0)), some (.ref o), some (.ref od), some (.int (nI i)), some (.int (nI (kd 1 1 1 1 1 (qBof S.1 (xs (i + 1)))))), some (.int (mvl (qBof S.1 (xs (i + 1))))), none] [.long ((qBof S.1 (xs (i + 1))).toInt64)] 1534
      refine r_iload (pc' := 1536) hX dL_law_1534 rfl rfl ?_
      rw [mvl_pos hq0]
      refine r_i2l (pc' := 1537) hX dL_law_1536 rfl rfl ?_
      refine r_lcmp0 (pc' := 1538) hX dL_law_1537 rfl ?_
      refine r_if_eq_N (tgt := 1543) (pc' := 1541) hX dL_law_1538 (by decide) rfl (by omega) (fun c1538 => ?_) (fun c1538 => ?_)
      · refine r_goto (tgt := 2780) hX dL_law_1543 (by decide) ?_
        refine V_loc (L' := [some (.ref b), some (.ref f), some (.ref (ma 0)), some (.ref o), some (.ref od), some (.int (nI i)), none, none, none]) (lo_w ⟨.inr rfl, .inr rfl, .inr rfl, .inr rfl, .inr rfl, .inr rfl, .inl rfl, .inl rfl, .inr rfl, trivial⟩) ?_
        refine V_widen (k' := k0 + 23) (n' := n0 + 3450) (by omega) (by omega) ?_
        exact cont (S) _ _ _ _ _ (hF1) hu34 (hA.mono (by omega))
      · exact absurd c1538 (by omega)
  · exact absurd c1521 (by omega)

set_option maxRecDepth 20000 in
set_option maxHeartbeats 1000000 in
theorem lc_25 {X : xC} {l : Launch} {D : va_G} {cy : Nat → ClassId} {sa : Nat → Nat} {mc ms k0 n0 f o od b L9 i K t : Nat} {ma : Nat → Nat} {xs : Nat → Int32} {S : AS} {fl : Nat → Int64} {fd : Nat → UInt64} {wf wm : va_W} (hX : Ok SF X cL_law RL 16 mc ms) (hG : c0_G X = (D, cy, sa)) (hcy : c0_cy X = cy) (hnL : c0_nL X = 9) (hl : c0_l X = l) (hst : l.stackTraces = false) (hScr : Scr X b L9 xs) (hi : i + 4 ≤ L9) (hL9 : L9 ≤ 2048) (hF : FS cy f S wf) (hM : MS cy ma S t wm) (hA : AJ K S) (hK : K + 61 ≤ 100000) (hk : k0 + 23 ≤ mc) (hn : n0 + 3450 ≤ ms) (cont : ∀ (S1 : AS) (t1 : Nat) (fl1 : Nat → Int64) (fd1 : Nat → UInt64) (wf1 wm1 : va_W), FS cy f S1 wf1 → MS cy ma S1 t1 wm1 → AJ (K + 61) S1 → V X (k0 + 23) (n0 + 3450) (LW cy o od fl1 fd1 wf1 wm1) [some (.ref b), some (.ref f), some (.ref (ma 0)), some (.ref o), some (.ref od), some (.int (nI i)), none, none, none] [] 2780) : V X k0 n0 (LW cy o od fl fd wf wm) [some (.ref b), some (.ref f), some (.ref (ma 0)), some (.ref o), some (.ref od), some (.int (nI i)), none, none, none] [] 1546 := by
  have hv : Wf S.1 := hA.1.1.1.1
  have hInv : Inv K S.1 := hA.1.1.1
  have hFB := hA.1.1.2
  have hq9 : 0 ≤ (qBat bGood S.1 (xs (i + 1))).toInt ∨ (qBat bGood S.1 (xs (i + 1))) = -5 := qBat_q (bGood_lt hv)
  have hkk : kd 0 0 0 0 1 (qBat bGood S.1 (xs (i + 1))) = kd 1 1 1 1 1 (qBat bGood S.1 (xs (i + 1))) := by
    rcases hq9 with h9 | h9
    · rw [kd_pos h9, kd_pos h9]
    · rw [h9]; rfl
  refine r_aload_n (pc' := 1547) hX dL_law_1546 rfl rfl ?_
  refine r_aload_n (pc' := 1548) hX dL_law_1547 rfl rfl ?_
  refine r_iload (pc' := 1550) hX dL_law_1548 rfl rfl ?_
  refine r_iconst (pc' := 1551) (v := nI 1) hX dL_law_1550 rfl rfl ?_
  refine r_iadd_N (pc' := 1552) hX dL_law_1551  rfl ?_
  refine r_sld (pc' := 1553) hX dL_law_1552 hScr (by omega) hL9 rfl ?_
  refine r_aload_n (pc' := 1554) hX dL_law_1553 rfl rfl ?_
  refine V_call (k' := k0 + 1) (n' := n0 + 6) (pc' := 1557) (wr := ([(od, .inl (cy 7, aD 1 fd))] ++ wm)) hX (r_runSW (As := [.ref f, .int (xs (i + 1)), .ref o]) hX dL_law_1554 kw_L_245 (fun l9 hl9 => by cases hl9; exact cW_goodBows (v := S.1) rfl hF hA.1 (hst := (by rw [hl]; exact hst)) (hq := hq9) ) hG rfl rfl (Nat.le_of_ble_eq_true rfl) (by decide) (by decide) (by omega) (by omega)) (LW_c) (by omega) (by omega) rfl (fun w9 u9 hp9 => ?_)
  obtain ⟨fl1, ws1, rfl, rfl, hP1, hN1⟩ := hp9
  rw [hkk]
  change V X (k0 + 1) (n0 + 6) (([(o, .inl (cy 6, aL 1 fl1))] ++ ws1) ++ ([(od, .inl (cy 7, aD 1 fd))] ++ wm)) [some (.ref b), some (.ref f), some (.ref (ma 0)), some (.ref o), some (.ref od), some (.int (nI i)), none, none, none] [.int (nI (kd 1 1 1 1 1 (qBat bGood S.1 (xs (i + 1)))))] 1557
  refine V_perm (LW_c.symm) ?_
  refine r_istore (L' := [some (.ref b), some (.ref f), some (.ref (ma 0)), some (.ref o), some (.ref od), some (.int (nI i)), some (.int (nI (kd 1 1 1 1 1 (qBat bGood S.1 (xs (i + 1)))))), none, none]) (pc' := 1559) hX dL_law_1557 (nlt hnL (by decide)) rfl rfl rfl ?_
  refine r_aload_n (pc' := 1560) hX dL_law_1559 rfl rfl ?_
  refine r_aload_n (pc' := 1561) hX dL_law_1560 rfl rfl ?_
  refine r_iload (pc' := 1563) hX dL_law_1561 rfl rfl ?_
  refine r_iconst (pc' := 1564) (v := nI 1) hX dL_law_1563 rfl rfl ?_
  refine r_iadd_N (pc' := 1565) hX dL_law_1564  rfl ?_
  refine r_sld (pc' := 1566) hX dL_law_1565 hScr (by omega) hL9 rfl ?_
  refine V_call (k' := k0 + 1) (n' := n0 + 6) (pc' := 1569) (wr := ([(o, .inl (cy 6, aL 1 fl1)), (od, .inl (cy 7, aD 1 fd))] ++ ws1)) hX (r_runV (As := [.int (xs (i + 1))]) hX dL_law_1566 k_L_247 (fun l9 hl9 => cMw_goodBows (v := S.1) rfl hM hv (x := (xs (i + 1)))) hG (MS_recv hM) rfl rfl (Nat.le_of_ble_eq_true rfl) (by decide) (by decide) (by omega) (by omega)) (LW_m) (by omega) (by omega) rfl (fun w9 u35 hp9 => ?_)
  obtain ⟨rfl, hu35⟩ := hp9
  change V X (k0 + 1) (n0 + 6) (u35 ++ ([(o, .inl (cy 6, aL 1 fl1)), (od, .inl (cy 7, aD 1 fd))] ++ ws1)) [some (.ref b), some (.ref f), some (.ref (ma 0)), some (.ref o), some (.ref od), some (.int (nI i)), some (.int (nI (kd 1 1 1 1 1 (qBat bGood S.1 (xs (i + 1)))))), none, none] [.int (mvl (qBat bGood S.1 (xs (i + 1))))] 1569
  refine V_perm (LW_m.symm) ?_
  refine r_istore (L' := [some (.ref b), some (.ref f), some (.ref (ma 0)), some (.ref o), some (.ref od), some (.int (nI i)), some (.int (nI (kd 1 1 1 1 1 (qBat bGood S.1 (xs (i + 1)))))), some (.int (mvl (qBat bGood S.1 (xs (i + 1))))), none]) (pc' := 1571) hX dL_law_1569 (nlt hnL (by decide)) rfl rfl rfl ?_
  refine r_aload_n (pc' := 1572) hX dL_law_1571 rfl rfl ?_
  refine V_call (k' := k0 + 1) (n' := n0 + 6) (pc' := 1575) (wr := ([(o, .inl (cy 6, aL 1 fl1)), (od, .inl (cy 7, aD 1 fd))] ++ ws1)) hX (r_runV (As := []) hX dL_law_1572 k_L_163 (fun l9 hl9 => cMw_thrown hu35) hG (MS_recv hu35) rfl rfl (Nat.le_of_ble_eq_true rfl) (by decide) (by decide) (by omega) (by omega)) (LW_m) (by omega) (by omega) rfl (fun w9 u36 hp9 => ?_)
  obtain ⟨rfl, hu36⟩ := hp9
  change V X (k0 + 1) (n0 + 6) (u36 ++ ([(o, .inl (cy 6, aL 1 fl1)), (od, .inl (cy 7, aD 1 fd))] ++ ws1)) [some (.ref b), some (.ref f), some (.ref (ma 0)), some (.ref o), some (.ref od), some (.int (nI i)), some (.int (nI (kd 1 1 1 1 1 (qBat bGood S.1 (xs (i + 1)))))), some (.int (mvl (qBat bGood S.1 (xs (i + 1))))), none] [.int (nI (kd 1 1 1 1 1 (qBat bGood S.1 (xs (i + 1)))))] 1575
  refine V_perm (LW_m.symm) ?_
  refine r_iload (pc' := 1577) hX dL_law_1575 rfl rfl ?_
  have hkd := kd_lt (a := 1) (b := 1) (c := 1) (d := 1) (e := 1) (x := qBat bGood S.1 (xs (i + 1))) rfl
  refine r_icmp_eq_N (tgt := 1582) (pc' := 1580) hX dL_law_1577 (by decide) rfl (by omega) (by omega) (fun c1577 => ?_) (fun c1577 => ?_)
  · refine r_iload (pc' := 1584) hX dL_law_1582 rfl rfl ?_
    refine r_if_ne_N (tgt := 1599) (pc' := 1587) hX dL_law_1584 (by decide) rfl (by omega) (fun c1584 => ?_) (fun c1584 => ?_)
    · have hq1 : (qBat bGood S.1 (xs (i + 1))).toInt < 0 := by
        refine Classical.byContradiction fun h9 => c1584 (kd_pos (by omega))
      have hF1 := hN1 hq1
      refine r_goto (tgt := 2780) hX dL_law_1599 (by decide) ?_
      refine V_loc (L' := [some (.ref b), some (.ref f), some (.ref (ma 0)), some (.ref o), some (.ref od), some (.int (nI i)), none, none, none]) (lo_w ⟨.inr rfl, .inr rfl, .inr rfl, .inr rfl, .inr rfl, .inr rfl, .inl rfl, .inl rfl, .inr rfl, trivial⟩) ?_
      refine V_widen (k' := k0 + 23) (n' := n0 + 3450) (by omega) (by omega) ?_
      exact cont (S) _ _ _ _ _ (hF1) hu36 (hA.mono (by omega))
    · have hq0 : 0 ≤ (qBat bGood S.1 (xs (i + 1))).toInt := by
        rcases hq9 with h9 | h9
        · exact h9
        · rw [h9] at c1584; exact absurd c1584 (by decide)
      obtain ⟨hF1, hfl1⟩ := hP1 hq0
      refine r_aload_n (pc' := 1588) hX dL_law_1587 rfl rfl ?_
      refine r_iconst (pc' := 1589) (v := nI 0) hX dL_law_1588 rfl rfl ?_
      refine r_lald (pc' := 1590) hX dL_law_1589 (by rw [hcy]) 0 rfl rfl ?_
      rw [hfl1]
      change V X (k0 + 1) (n0 + 6) (LW cy o od fl1 fd ws1 u36) [some (.ref b), some (.ref f), some (.ref (ma 0)), some (.ref o), some (.ref od), some (.int (nI i)), some (.int (nI (kd 1 1 1 1 1 (qBat bGood S.1 (xs (i + 1)))))), some (.int (mvl (qBat bGood S.1 (xs (i + 1))))), none] [.long ((qBat bGood S.1 (xs (i + 1))).toInt64)] 1590
      refine r_iload (pc' := 1592) hX dL_law_1590 rfl rfl ?_
      rw [mvl_pos hq0]
      refine r_i2l (pc' := 1593) hX dL_law_1592 rfl rfl ?_
      refine r_lcmp0 (pc' := 1594) hX dL_law_1593 rfl ?_
      refine r_if_eq_N (tgt := 1599) (pc' := 1597) hX dL_law_1594 (by decide) rfl (by omega) (fun c1594 => ?_) (fun c1594 => ?_)
      · refine r_goto (tgt := 2780) hX dL_law_1599 (by decide) ?_
        refine V_loc (L' := [some (.ref b), some (.ref f), some (.ref (ma 0)), some (.ref o), some (.ref od), some (.int (nI i)), none, none, none]) (lo_w ⟨.inr rfl, .inr rfl, .inr rfl, .inr rfl, .inr rfl, .inr rfl, .inl rfl, .inl rfl, .inr rfl, trivial⟩) ?_
        refine V_widen (k' := k0 + 23) (n' := n0 + 3450) (by omega) (by omega) ?_
        exact cont (S) _ _ _ _ _ (hF1) hu36 (hA.mono (by omega))
      · exact absurd c1594 (by omega)
  · exact absurd c1577 (by omega)

set_option maxRecDepth 20000 in
set_option maxHeartbeats 1000000 in
theorem lc_26 {X : xC} {l : Launch} {D : va_G} {cy : Nat → ClassId} {sa : Nat → Nat} {mc ms k0 n0 f o od b L9 i K t : Nat} {ma : Nat → Nat} {xs : Nat → Int32} {S : AS} {fl : Nat → Int64} {fd : Nat → UInt64} {wf wm : va_W} (hX : Ok SF X cL_law RL 16 mc ms) (hG : c0_G X = (D, cy, sa)) (hcy : c0_cy X = cy) (hnL : c0_nL X = 9) (hl : c0_l X = l) (hst : l.stackTraces = false) (hScr : Scr X b L9 xs) (hi : i + 4 ≤ L9) (hL9 : L9 ≤ 2048) (hF : FS cy f S wf) (hM : MS cy ma S t wm) (hA : AJ K S) (hK : K + 61 ≤ 100000) (hk : k0 + 23 ≤ mc) (hn : n0 + 3450 ≤ ms) (cont : ∀ (S1 : AS) (t1 : Nat) (fl1 : Nat → Int64) (fd1 : Nat → UInt64) (wf1 wm1 : va_W), FS cy f S1 wf1 → MS cy ma S1 t1 wm1 → AJ (K + 61) S1 → V X (k0 + 23) (n0 + 3450) (LW cy o od fl1 fd1 wf1 wm1) [some (.ref b), some (.ref f), some (.ref (ma 0)), some (.ref o), some (.ref od), some (.int (nI i)), none, none, none] [] 2780) : V X k0 n0 (LW cy o od fl fd wf wm) [some (.ref b), some (.ref f), some (.ref (ma 0)), some (.ref o), some (.ref od), some (.int (nI i)), none, none, none] [] 1602 := by
  have hv : Wf S.1 := hA.1.1.1.1
  have hInv : Inv K S.1 := hA.1.1.1
  have hFB := hA.1.1.2
  have hq9 : 0 ≤ (qBat bSam S.1 (xs (i + 1))).toInt ∨ (qBat bSam S.1 (xs (i + 1))) = -5 := qBat_q (bSam_lt hv)
  have hkk : kd 0 0 0 0 1 (qBat bSam S.1 (xs (i + 1))) = kd 1 1 1 1 1 (qBat bSam S.1 (xs (i + 1))) := by
    rcases hq9 with h9 | h9
    · rw [kd_pos h9, kd_pos h9]
    · rw [h9]; rfl
  refine r_aload_n (pc' := 1603) hX dL_law_1602 rfl rfl ?_
  refine r_aload_n (pc' := 1604) hX dL_law_1603 rfl rfl ?_
  refine r_iload (pc' := 1606) hX dL_law_1604 rfl rfl ?_
  refine r_iconst (pc' := 1607) (v := nI 1) hX dL_law_1606 rfl rfl ?_
  refine r_iadd_N (pc' := 1608) hX dL_law_1607  rfl ?_
  refine r_sld (pc' := 1609) hX dL_law_1608 hScr (by omega) hL9 rfl ?_
  refine r_aload_n (pc' := 1610) hX dL_law_1609 rfl rfl ?_
  refine V_call (k' := k0 + 1) (n' := n0 + 6) (pc' := 1613) (wr := ([(od, .inl (cy 7, aD 1 fd))] ++ wm)) hX (r_runSW (As := [.ref f, .int (xs (i + 1)), .ref o]) hX dL_law_1610 kw_L_248 (fun l9 hl9 => by cases hl9; exact cW_sampleSize (v := S.1) rfl hF hA.1 (hst := (by rw [hl]; exact hst)) (hq := hq9) ) hG rfl rfl (Nat.le_of_ble_eq_true rfl) (by decide) (by decide) (by omega) (by omega)) (LW_c) (by omega) (by omega) rfl (fun w9 u9 hp9 => ?_)
  obtain ⟨fl1, ws1, rfl, rfl, hP1, hN1⟩ := hp9
  rw [hkk]
  change V X (k0 + 1) (n0 + 6) (([(o, .inl (cy 6, aL 1 fl1))] ++ ws1) ++ ([(od, .inl (cy 7, aD 1 fd))] ++ wm)) [some (.ref b), some (.ref f), some (.ref (ma 0)), some (.ref o), some (.ref od), some (.int (nI i)), none, none, none] [.int (nI (kd 1 1 1 1 1 (qBat bSam S.1 (xs (i + 1)))))] 1613
  refine V_perm (LW_c.symm) ?_
  refine r_istore (L' := [some (.ref b), some (.ref f), some (.ref (ma 0)), some (.ref o), some (.ref od), some (.int (nI i)), some (.int (nI (kd 1 1 1 1 1 (qBat bSam S.1 (xs (i + 1)))))), none, none]) (pc' := 1615) hX dL_law_1613 (nlt hnL (by decide)) rfl rfl rfl ?_
  refine r_aload_n (pc' := 1616) hX dL_law_1615 rfl rfl ?_
  refine r_aload_n (pc' := 1617) hX dL_law_1616 rfl rfl ?_
  refine r_iload (pc' := 1619) hX dL_law_1617 rfl rfl ?_
  refine r_iconst (pc' := 1620) (v := nI 1) hX dL_law_1619 rfl rfl ?_
  refine r_iadd_N (pc' := 1621) hX dL_law_1620  rfl ?_
  refine r_sld (pc' := 1622) hX dL_law_1621 hScr (by omega) hL9 rfl ?_
  refine V_call (k' := k0 + 1) (n' := n0 + 6) (pc' := 1625) (wr := ([(o, .inl (cy 6, aL 1 fl1)), (od, .inl (cy 7, aD 1 fd))] ++ ws1)) hX (r_runV (As := [.int (xs (i + 1))]) hX dL_law_1622 k_L_250 (fun l9 hl9 => cMw_sampleSize (v := S.1) rfl hM hv (x := (xs (i + 1)))) hG (MS_recv hM) rfl rfl (Nat.le_of_ble_eq_true rfl) (by decide) (by decide) (by omega) (by omega)) (LW_m) (by omega) (by omega) rfl (fun w9 u37 hp9 => ?_)
  obtain ⟨rfl, hu37⟩ := hp9
  change V X (k0 + 1) (n0 + 6) (u37 ++ ([(o, .inl (cy 6, aL 1 fl1)), (od, .inl (cy 7, aD 1 fd))] ++ ws1)) [some (.ref b), some (.ref f), some (.ref (ma 0)), some (.ref o), some (.ref od), some (.int (nI i)), some (.int (nI (kd 1 1 1 1 1 (qBat bSam S.1 (xs (i + 1)))))), none, none] [.int (mvl (qBat bSam S.1 (xs (i + 1))))] 1625
  refine V_perm (LW_m.symm) ?_
  refine r_istore (L' := [some (.ref b), some (.ref f), some (.ref (ma 0)), some (.ref o), some (.ref od), some (.int (nI i)), some (.int (nI (kd 1 1 1 1 1 (qBat bSam S.1 (xs (i + 1)))))), some (.int (mvl (qBat bSam S.1 (xs (i + 1))))), none]) (pc' := 1627) hX dL_law_1625 (nlt hnL (by decide)) rfl rfl rfl ?_
  refine r_aload_n (pc' := 1628) hX dL_law_1627 rfl rfl ?_
  refine V_call (k' := k0 + 1) (n' := n0 + 6) (pc' := 1631) (wr := ([(o, .inl (cy 6, aL 1 fl1)), (od, .inl (cy 7, aD 1 fd))] ++ ws1)) hX (r_runV (As := []) hX dL_law_1628 k_L_163 (fun l9 hl9 => cMw_thrown hu37) hG (MS_recv hu37) rfl rfl (Nat.le_of_ble_eq_true rfl) (by decide) (by decide) (by omega) (by omega)) (LW_m) (by omega) (by omega) rfl (fun w9 u38 hp9 => ?_)
  obtain ⟨rfl, hu38⟩ := hp9
  change V X (k0 + 1) (n0 + 6) (u38 ++ ([(o, .inl (cy 6, aL 1 fl1)), (od, .inl (cy 7, aD 1 fd))] ++ ws1)) [some (.ref b), some (.ref f), some (.ref (ma 0)), some (.ref o), some (.ref od), some (.int (nI i)), some (.int (nI (kd 1 1 1 1 1 (qBat bSam S.1 (xs (i + 1)))))), some (.int (mvl (qBat bSam S.1 (xs (i + 1))))), none] [.int (nI (kd 1 1 1 1 1 (qBat bSam S.1 (xs (i + 1)))))] 1631
  refine V_perm (LW_m.symm) ?_
  refine r_iload (pc' := 1633) hX dL_law_1631 rfl rfl ?_
  have hkd := kd_lt (a := 1) (b := 1) (c := 1) (d := 1) (e := 1) (x := qBat bSam S.1 (xs (i + 1))) rfl
  refine r_icmp_eq_N (tgt := 1638) (pc' := 1636) hX dL_law_1633 (by decide) rfl (by omega) (by omega) (fun c1633 => ?_) (fun c1633 => ?_)
  · refine r_iload (pc' := 1640) hX dL_law_1638 rfl rfl ?_
    refine r_if_ne_N (tgt := 1655) (pc' := 1643) hX dL_law_1640 (by decide) rfl (by omega) (fun c1640 => ?_) (fun c1640 => ?_)
    · have hq1 : (qBat bSam S.1 (xs (i + 1))).toInt < 0 := by
        refine Classical.byContradiction fun h9 => c1640 (kd_pos (by omega))
      have hF1 := hN1 hq1
      refine r_goto (tgt := 2780) hX dL_law_1655 (by decide) ?_
      refine V_loc (L' := [some (.ref b), some (.ref f), some (.ref (ma 0)), some (.ref o), some (.ref od), some (.int (nI i)), none, none, none]) (lo_w ⟨.inr rfl, .inr rfl, .inr rfl, .inr rfl, .inr rfl, .inr rfl, .inl rfl, .inl rfl, .inr rfl, trivial⟩) ?_
      refine V_widen (k' := k0 + 23) (n' := n0 + 3450) (by omega) (by omega) ?_
      exact cont (S) _ _ _ _ _ (hF1) hu38 (hA.mono (by omega))
    · have hq0 : 0 ≤ (qBat bSam S.1 (xs (i + 1))).toInt := by
        rcases hq9 with h9 | h9
        · exact h9
        · rw [h9] at c1640; exact absurd c1640 (by decide)
      obtain ⟨hF1, hfl1⟩ := hP1 hq0
      refine r_aload_n (pc' := 1644) hX dL_law_1643 rfl rfl ?_
      refine r_iconst (pc' := 1645) (v := nI 0) hX dL_law_1644 rfl rfl ?_
      refine r_lald (pc' := 1646) hX dL_law_1645 (by rw [hcy]) 0 rfl rfl ?_
      rw [hfl1]
      change V X (k0 + 1) (n0 + 6) (LW cy o od fl1 fd ws1 u38) [some (.ref b), some (.ref f), some (.ref (ma 0)), some (.ref o), some (.ref od), some (.int (nI i)), some (.int (nI (kd 1 1 1 1 1 (qBat bSam S.1 (xs (i + 1)))))), some (.int (mvl (qBat bSam S.1 (xs (i + 1))))), none] [.long ((qBat bSam S.1 (xs (i + 1))).toInt64)] 1646
      refine r_iload (pc' := 1648) hX dL_law_1646 rfl rfl ?_
      rw [mvl_pos hq0]
      refine r_i2l (pc' := 1649) hX dL_law_1648 rfl rfl ?_
      refine r_lcmp0 (pc' := 1650) hX dL_law_1649 rfl ?_
      refine r_if_eq_N (tgt := 1655) (pc' := 1653) hX dL_law_1650 (by decide) rfl (by omega) (fun c1650 => ?_) (fun c1650 => ?_)
      · refine r_goto (tgt := 2780) hX dL_law_1655 (by decide) ?_
        refine V_loc (L' := [some (.ref b), some (.ref f), some (.ref (ma 0)), some (.ref o), some (.ref od), some (.int (nI i)), none, none, none]) (lo_w ⟨.inr rfl, .inr rfl, .inr rfl, .inr rfl, .inr rfl, .inr rfl, .inl rfl, .inl rfl, .inr rfl, trivial⟩) ?_
        refine V_widen (k' := k0 + 23) (n' := n0 + 3450) (by omega) (by omega) ?_
        exact cont (S) _ _ _ _ _ (hF1) hu38 (hA.mono (by omega))
      · exact absurd c1650 (by omega)
  · exact absurd c1633 (by omega)

set_option maxRecDepth 20000 in
set_option maxHeartbeats 1000000 in
theorem lc_28 {X : xC} {l : Launch} {D : va_G} {cy : Nat → ClassId} {sa : Nat → Nat} {mc ms k0 n0 f o od b L9 i K t : Nat} {ma : Nat → Nat} {xs : Nat → Int32} {S : AS} {fl : Nat → Int64} {fd : Nat → UInt64} {wf wm : va_W} (hX : Ok SF X cL_law RL 16 mc ms) (hG : c0_G X = (D, cy, sa)) (hcy : c0_cy X = cy) (hnL : c0_nL X = 9) (hl : c0_l X = l) (hst : l.stackTraces = false) (hScr : Scr X b L9 xs) (hi : i + 4 ≤ L9) (hL9 : L9 ≤ 2048) (hF : FS cy f S wf) (hM : MS cy ma S t wm) (hA : AJ K S) (hK : K + 61 ≤ 100000) (hk : k0 + 23 ≤ mc) (hn : n0 + 3450 ≤ ms) (cont : ∀ (S1 : AS) (t1 : Nat) (fl1 : Nat → Int64) (fd1 : Nat → UInt64) (wf1 wm1 : va_W), FS cy f S1 wf1 → MS cy ma S1 t1 wm1 → AJ (K + 61) S1 → V X (k0 + 23) (n0 + 3450) (LW cy o od fl1 fd1 wf1 wm1) [some (.ref b), some (.ref f), some (.ref (ma 0)), some (.ref o), some (.ref od), some (.int (nI i)), none, none, none] [] 2780) : V X k0 n0 (LW cy o od fl fd wf wm) [some (.ref b), some (.ref f), some (.ref (ma 0)), some (.ref o), some (.ref od), some (.int (nI i)), none, none, none] [] 1721 := by
  have hv : Wf S.1 := hA.1.1.1.1
  have hInv : Inv K S.1 := hA.1.1.1
  have hFB := hA.1.1.2
  have hq9 : 0 ≤ (qBat bNee S.1 (xs (i + 1))).toInt ∨ (qBat bNee S.1 (xs (i + 1))) = -5 := qBat_q bNee_lt
  have hkk : kd 0 0 0 0 1 (qBat bNee S.1 (xs (i + 1))) = kd 1 1 1 1 1 (qBat bNee S.1 (xs (i + 1))) := by
    rcases hq9 with h9 | h9
    · rw [kd_pos h9, kd_pos h9]
    · rw [h9]; rfl
  refine r_aload_n (pc' := 1722) hX dL_law_1721 rfl rfl ?_
  refine r_aload_n (pc' := 1723) hX dL_law_1722 rfl rfl ?_
  refine r_iload (pc' := 1725) hX dL_law_1723 rfl rfl ?_
  refine r_iconst (pc' := 1726) (v := nI 1) hX dL_law_1725 rfl rfl ?_
  refine r_iadd_N (pc' := 1727) hX dL_law_1726  rfl ?_
  refine r_sld (pc' := 1728) hX dL_law_1727 hScr (by omega) hL9 rfl ?_
  refine r_aload_n (pc' := 1729) hX dL_law_1728 rfl rfl ?_
  refine V_call (k' := k0 + 1) (n' := n0 + 6) (pc' := 1732) (wr := ([(od, .inl (cy 7, aD 1 fd))] ++ wm)) hX (r_runSW (As := [.ref f, .int (xs (i + 1)), .ref o]) hX dL_law_1729 kw_L_254 (fun l9 hl9 => by cases hl9; exact cW_neededTolerance (v := S.1) rfl hF hA.1 (hst := (by rw [hl]; exact hst)) (hq := hq9) ) hG rfl rfl (Nat.le_of_ble_eq_true rfl) (by decide) (by decide) (by omega) (by omega)) (LW_c) (by omega) (by omega) rfl (fun w9 u9 hp9 => ?_)
  obtain ⟨fl1, ws1, rfl, rfl, hP1, hN1⟩ := hp9
  rw [hkk]
  change V X (k0 + 1) (n0 + 6) (([(o, .inl (cy 6, aL 1 fl1))] ++ ws1) ++ ([(od, .inl (cy 7, aD 1 fd))] ++ wm)) [some (.ref b), some (.ref f), some (.ref (ma 0)), some (.ref o), some (.ref od), some (.int (nI i)), none, none, none] [.int (nI (kd 1 1 1 1 1 (qBat bNee S.1 (xs (i + 1)))))] 1732
  refine V_perm (LW_c.symm) ?_
  refine r_istore (L' := [some (.ref b), some (.ref f), some (.ref (ma 0)), some (.ref o), some (.ref od), some (.int (nI i)), some (.int (nI (kd 1 1 1 1 1 (qBat bNee S.1 (xs (i + 1)))))), none, none]) (pc' := 1734) hX dL_law_1732 (nlt hnL (by decide)) rfl rfl rfl ?_
  refine r_aload_n (pc' := 1735) hX dL_law_1734 rfl rfl ?_
  refine r_aload_n (pc' := 1736) hX dL_law_1735 rfl rfl ?_
  refine r_iload (pc' := 1738) hX dL_law_1736 rfl rfl ?_
  refine r_iconst (pc' := 1739) (v := nI 1) hX dL_law_1738 rfl rfl ?_
  refine r_iadd_N (pc' := 1740) hX dL_law_1739  rfl ?_
  refine r_sld (pc' := 1741) hX dL_law_1740 hScr (by omega) hL9 rfl ?_
  refine V_call (k' := k0 + 1) (n' := n0 + 6) (pc' := 1744) (wr := ([(o, .inl (cy 6, aL 1 fl1)), (od, .inl (cy 7, aD 1 fd))] ++ ws1)) hX (r_runV (As := [.int (xs (i + 1))]) hX dL_law_1741 k_L_256 (fun l9 hl9 => cMw_neededTolerance (v := S.1) rfl hM hv (x := (xs (i + 1)))) hG (MS_recv hM) rfl rfl (Nat.le_of_ble_eq_true rfl) (by decide) (by decide) (by omega) (by omega)) (LW_m) (by omega) (by omega) rfl (fun w9 u39 hp9 => ?_)
  obtain ⟨rfl, hu39⟩ := hp9
  change V X (k0 + 1) (n0 + 6) (u39 ++ ([(o, .inl (cy 6, aL 1 fl1)), (od, .inl (cy 7, aD 1 fd))] ++ ws1)) [some (.ref b), some (.ref f), some (.ref (ma 0)), some (.ref o), some (.ref od), some (.int (nI i)), some (.int (nI (kd 1 1 1 1 1 (qBat bNee S.1 (xs (i + 1)))))), none, none] [.int (mvl (qBat bNee S.1 (xs (i + 1))))] 1744
  refine V_perm (LW_m.symm) ?_
  refine r_istore (L' := [some (.ref b), some (.ref f), some (.ref (ma 0)), some (.ref o), some (.ref od), some (.int (nI i)), some (.int (nI (kd 1 1 1 1 1 (qBat bNee S.1 (xs (i + 1)))))), some (.int (mvl (qBat bNee S.1 (xs (i + 1))))), none]) (pc' := 1746) hX dL_law_1744 (nlt hnL (by decide)) rfl rfl rfl ?_
  refine r_aload_n (pc' := 1747) hX dL_law_1746 rfl rfl ?_
  refine V_call (k' := k0 + 1) (n' := n0 + 6) (pc' := 1750) (wr := ([(o, .inl (cy 6, aL 1 fl1)), (od, .inl (cy 7, aD 1 fd))] ++ ws1)) hX (r_runV (As := []) hX dL_law_1747 k_L_163 (fun l9 hl9 => cMw_thrown hu39) hG (MS_recv hu39) rfl rfl (Nat.le_of_ble_eq_true rfl) (by decide) (by decide) (by omega) (by omega)) (LW_m) (by omega) (by omega) rfl (fun w9 u40 hp9 => ?_)
  obtain ⟨rfl, hu40⟩ := hp9
  change V X (k0 + 1) (n0 + 6) (u40 ++ ([(o, .inl (cy 6, aL 1 fl1)), (od, .inl (cy 7, aD 1 fd))] ++ ws1)) [some (.ref b), some (.ref f), some (.ref (ma 0)), some (.ref o), some (.ref od), some (.int (nI i)), some (.int (nI (kd 1 1 1 1 1 (qBat bNee S.1 (xs (i + 1)))))), some (.int (mvl (qBat bNee S.1 (xs (i + 1))))), none] [.int (nI (kd 1 1 1 1 1 (qBat bNee S.1 (xs (i + 1)))))] 1750
  refine V_perm (LW_m.symm) ?_
  refine r_iload (pc' := 1752) hX dL_law_1750 rfl rfl ?_
  have hkd := kd_lt (a := 1) (b := 1) (c := 1) (d := 1) (e := 1) (x := qBat bNee S.1 (xs (i + 1))) rfl
  refine r_icmp_eq_N (tgt := 1757) (pc' := 1755) hX dL_law_1752 (by decide) rfl (by omega) (by omega) (fun c1752 => ?_) (fun c1752 => ?_)
  · refine r_iload (pc' := 1759) hX dL_law_1757 rfl rfl ?_
    refine r_if_ne_N (tgt := 1774) (pc' := 1762) hX dL_law_1759 (by decide) rfl (by omega) (fun c1759 => ?_) (fun c1759 => ?_)
    · have hq1 : (qBat bNee S.1 (xs (i + 1))).toInt < 0 := by
        refine Classical.byContradiction fun h9 => c1759 (kd_pos (by omega))
      have hF1 := hN1 hq1
      refine r_goto (tgt := 2780) hX dL_law_1774 (by decide) ?_
      refine V_loc (L' := [some (.ref b), some (.ref f), some (.ref (ma 0)), some (.ref o), some (.ref od), some (.int (nI i)), none, none, none]) (lo_w ⟨.inr rfl, .inr rfl, .inr rfl, .inr rfl, .inr rfl, .inr rfl, .inl rfl, .inl rfl, .inr rfl, trivial⟩) ?_
      refine V_widen (k' := k0 + 23) (n' := n0 + 3450) (by omega) (by omega) ?_
      exact cont (S) _ _ _ _ _ (hF1) hu40 (hA.mono (by omega))
    · have hq0 : 0 ≤ (qBat bNee S.1 (xs (i + 1))).toInt := by
        rcases hq9 with h9 | h9
        · exact h9
        · rw [h9] at c1759; exact absurd c1759 (by decide)
      obtain ⟨hF1, hfl1⟩ := hP1 hq0
      refine r_aload_n (pc' := 1763) hX dL_law_1762 rfl rfl ?_
      refine r_iconst (pc' := 1764) (v := nI 0) hX dL_law_1763 rfl rfl ?_
      refine r_lald (pc' := 1765) hX dL_law_1764 (by rw [hcy]) 0 rfl rfl ?_
      rw [hfl1]
      change V X (k0 + 1) (n0 + 6) (LW cy o od fl1 fd ws1 u40) [some (.ref b), some (.ref f), some (.ref (ma 0)), some (.ref o), some (.ref od), some (.int (nI i)), some (.int (nI (kd 1 1 1 1 1 (qBat bNee S.1 (xs (i + 1)))))), some (.int (mvl (qBat bNee S.1 (xs (i + 1))))), none] [.long ((qBat bNee S.1 (xs (i + 1))).toInt64)] 1765
      refine r_iload (pc' := 1767) hX dL_law_1765 rfl rfl ?_
      rw [mvl_pos hq0]
      refine r_i2l (pc' := 1768) hX dL_law_1767 rfl rfl ?_
      refine r_lcmp0 (pc' := 1769) hX dL_law_1768 rfl ?_
      refine r_if_eq_N (tgt := 1774) (pc' := 1772) hX dL_law_1769 (by decide) rfl (by omega) (fun c1769 => ?_) (fun c1769 => ?_)
      · refine r_goto (tgt := 2780) hX dL_law_1774 (by decide) ?_
        refine V_loc (L' := [some (.ref b), some (.ref f), some (.ref (ma 0)), some (.ref o), some (.ref od), some (.int (nI i)), none, none, none]) (lo_w ⟨.inr rfl, .inr rfl, .inr rfl, .inr rfl, .inr rfl, .inr rfl, .inl rfl, .inl rfl, .inr rfl, trivial⟩) ?_
        refine V_widen (k' := k0 + 23) (n' := n0 + 3450) (by omega) (by omega) ?_
        exact cont (S) _ _ _ _ _ (hF1) hu40 (hA.mono (by omega))
      · exact absurd c1769 (by omega)
  · exact absurd c1752 (by omega)

set_option maxRecDepth 20000 in
set_option maxHeartbeats 1000000 in
theorem lc_29 {X : xC} {l : Launch} {D : va_G} {cy : Nat → ClassId} {sa : Nat → Nat} {mc ms k0 n0 f o od b L9 i K t : Nat} {ma : Nat → Nat} {xs : Nat → Int32} {S : AS} {fl : Nat → Int64} {fd : Nat → UInt64} {wf wm : va_W} (hX : Ok SF X cL_law RL 16 mc ms) (hG : c0_G X = (D, cy, sa)) (hcy : c0_cy X = cy) (hnL : c0_nL X = 9) (hl : c0_l X = l) (hst : l.stackTraces = false) (hScr : Scr X b L9 xs) (hi : i + 4 ≤ L9) (hL9 : L9 ≤ 2048) (hF : FS cy f S wf) (hM : MS cy ma S t wm) (hA : AJ K S) (hK : K + 61 ≤ 100000) (hk : k0 + 23 ≤ mc) (hn : n0 + 3450 ≤ ms) (cont : ∀ (S1 : AS) (t1 : Nat) (fl1 : Nat → Int64) (fd1 : Nat → UInt64) (wf1 wm1 : va_W), FS cy f S1 wf1 → MS cy ma S1 t1 wm1 → AJ (K + 61) S1 → V X (k0 + 23) (n0 + 3450) (LW cy o od fl1 fd1 wf1 wm1) [some (.ref b), some (.ref f), some (.ref (ma 0)), some (.ref o), some (.ref od), some (.int (nI i)), none, none, none] [] 2780) : V X k0 n0 (LW cy o od fl fd wf wm) [some (.ref b), some (.ref f), some (.ref (ma 0)), some (.ref o), some (.ref od), some (.int (nI i)), none, none, none] [] 1777 := by
  have hv : Wf S.1 := hA.1.1.1.1
  have hInv : Inv K S.1 := hA.1.1.1
  have hFB := hA.1.1.2
  have hq9 : 0 ≤ (qBat bNee S.1 (xs (i + 1))).toInt ∨ (qBat bNee S.1 (xs (i + 1))) = -5 := qBat_q bNee_lt
  have hkk : kd 0 0 0 0 1 (qBat bNee S.1 (xs (i + 1))) = kd 1 1 1 1 1 (qBat bNee S.1 (xs (i + 1))) := by
    rcases hq9 with h9 | h9
    · rw [kd_pos h9, kd_pos h9]
    · rw [h9]; rfl
  refine r_aload_n (pc' := 1778) hX dL_law_1777 rfl rfl ?_
  refine r_aload_n (pc' := 1779) hX dL_law_1778 rfl rfl ?_
  refine r_iload (pc' := 1781) hX dL_law_1779 rfl rfl ?_
  refine r_iconst (pc' := 1782) (v := nI 1) hX dL_law_1781 rfl rfl ?_
  refine r_iadd_N (pc' := 1783) hX dL_law_1782  rfl ?_
  refine r_sld (pc' := 1784) hX dL_law_1783 hScr (by omega) hL9 rfl ?_
  refine r_aload_n (pc' := 1785) hX dL_law_1784 rfl rfl ?_
  refine V_call (k' := k0 + 1) (n' := n0 + 6) (pc' := 1788) (wr := ([(od, .inl (cy 7, aD 1 fd))] ++ wm)) hX (r_runSW (As := [.ref f, .int (xs (i + 1)), .ref o]) hX dL_law_1785 kw_L_257 (fun l9 hl9 => by cases hl9; exact cW_neededToleranceByTrying (v := S.1) rfl hF hA.1 (hst := (by rw [hl]; exact hst)) (hq := hq9) ) hG rfl rfl (Nat.le_of_ble_eq_true rfl) (by decide) (by decide) (by omega) (by omega)) (LW_c) (by omega) (by omega) rfl (fun w9 u9 hp9 => ?_)
  obtain ⟨fl1, ws1, rfl, rfl, hP1, hN1⟩ := hp9
  rw [hkk]
  change V X (k0 + 1) (n0 + 6) (([(o, .inl (cy 6, aL 1 fl1))] ++ ws1) ++ ([(od, .inl (cy 7, aD 1 fd))] ++ wm)) [some (.ref b), some (.ref f), some (.ref (ma 0)), some (.ref o), some (.ref od), some (.int (nI i)), none, none, none] [.int (nI (kd 1 1 1 1 1 (qBat bNee S.1 (xs (i + 1)))))] 1788
  refine V_perm (LW_c.symm) ?_
  refine r_istore (L' := [some (.ref b), some (.ref f), some (.ref (ma 0)), some (.ref o), some (.ref od), some (.int (nI i)), some (.int (nI (kd 1 1 1 1 1 (qBat bNee S.1 (xs (i + 1)))))), none, none]) (pc' := 1790) hX dL_law_1788 (nlt hnL (by decide)) rfl rfl rfl ?_
  refine r_aload_n (pc' := 1791) hX dL_law_1790 rfl rfl ?_
  refine r_aload_n (pc' := 1792) hX dL_law_1791 rfl rfl ?_
  refine r_iload (pc' := 1794) hX dL_law_1792 rfl rfl ?_
  refine r_iconst (pc' := 1795) (v := nI 1) hX dL_law_1794 rfl rfl ?_
  refine r_iadd_N (pc' := 1796) hX dL_law_1795  rfl ?_
  refine r_sld (pc' := 1797) hX dL_law_1796 hScr (by omega) hL9 rfl ?_
  refine V_call (k' := k0 + 1) (n' := n0 + 6) (pc' := 1800) (wr := ([(o, .inl (cy 6, aL 1 fl1)), (od, .inl (cy 7, aD 1 fd))] ++ ws1)) hX (r_runV (As := [.int (xs (i + 1))]) hX dL_law_1797 k_L_259 (fun l9 hl9 => cMw_neededToleranceByTrying (v := S.1) rfl hM hv (x := (xs (i + 1)))) hG (MS_recv hM) rfl rfl (Nat.le_of_ble_eq_true rfl) (by decide) (by decide) (by omega) (by omega)) (LW_m) (by omega) (by omega) rfl (fun w9 u41 hp9 => ?_)
  obtain ⟨rfl, hu41⟩ := hp9
  change V X (k0 + 1) (n0 + 6) (u41 ++ ([(o, .inl (cy 6, aL 1 fl1)), (od, .inl (cy 7, aD 1 fd))] ++ ws1)) [some (.ref b), some (.ref f), some (.ref (ma 0)), some (.ref o), some (.ref od), some (.int (nI i)), some (.int (nI (kd 1 1 1 1 1 (qBat bNee S.1 (xs (i + 1)))))), none, none] [.int (mvl (qBat bNee S.1 (xs (i + 1))))] 1800
  refine V_perm (LW_m.symm) ?_
  refine r_istore (L' := [some (.ref b), some (.ref f), some (.ref (ma 0)), some (.ref o), some (.ref od), some (.int (nI i)), some (.int (nI (kd 1 1 1 1 1 (qBat bNee S.1 (xs (i + 1)))))), some (.int (mvl (qBat bNee S.1 (xs (i + 1))))), none]) (pc' := 1802) hX dL_law_1800 (nlt hnL (by decide)) rfl rfl rfl ?_
  refine r_aload_n (pc' := 1803) hX dL_law_1802 rfl rfl ?_
  refine V_call (k' := k0 + 1) (n' := n0 + 6) (pc' := 1806) (wr := ([(o, .inl (cy 6, aL 1 fl1)), (od, .inl (cy 7, aD 1 fd))] ++ ws1)) hX (r_runV (As := []) hX dL_law_1803 k_L_163 (fun l9 hl9 => cMw_thrown hu41) hG (MS_recv hu41) rfl rfl (Nat.le_of_ble_eq_true rfl) (by decide) (by decide) (by omega) (by omega)) (LW_m) (by omega) (by omega) rfl (fun w9 u42 hp9 => ?_)
  obtain ⟨rfl, hu42⟩ := hp9
  change V X (k0 + 1) (n0 + 6) (u42 ++ ([(o, .inl (cy 6, aL 1 fl1)), (od, .inl (cy 7, aD 1 fd))] ++ ws1)) [some (.ref b), some (.ref f), some (.ref (ma 0)), some (.ref o), some (.ref od), some (.int (nI i)), some (.int (nI (kd 1 1 1 1 1 (qBat bNee S.1 (xs (i + 1)))))), some (.int (mvl (qBat bNee S.1 (xs (i + 1))))), none] [.int (nI (kd 1 1 1 1 1 (qBat bNee S.1 (xs (i + 1)))))] 1806
  refine V_perm (LW_m.symm) ?_
  refine r_iload (pc' := 1808) hX dL_law_1806 rfl rfl ?_
  have hkd := kd_lt (a := 1) (b := 1) (c := 1) (d := 1) (e := 1) (x := qBat bNee S.1 (xs (i + 1))) rfl
  refine r_icmp_eq_N (tgt := 1813) (pc' := 1811) hX dL_law_1808 (by decide) rfl (by omega) (by omega) (fun c1808 => ?_) (fun c1808 => ?_)
  · refine r_iload (pc' := 1815) hX dL_law_1813 rfl rfl ?_
    refine r_if_ne_N (tgt := 1830) (pc' := 1818) hX dL_law_1815 (by decide) rfl (by omega) (fun c1815 => ?_) (fun c1815 => ?_)
    · have hq1 : (qBat bNee S.1 (xs (i + 1))).toInt < 0 := by
        refine Classical.byContradiction fun h9 => c1815 (kd_pos (by omega))
      have hF1 := hN1 hq1
      refine r_goto (tgt := 2780) hX dL_law_1830 (by decide) ?_
      refine V_loc (L' := [some (.ref b), some (.ref f), some (.ref (ma 0)), some (.ref o), some (.ref od), some (.int (nI i)), none, none, none]) (lo_w ⟨.inr rfl, .inr rfl, .inr rfl, .inr rfl, .inr rfl, .inr rfl, .inl rfl, .inl rfl, .inr rfl, trivial⟩) ?_
      refine V_widen (k' := k0 + 23) (n' := n0 + 3450) (by omega) (by omega) ?_
      exact cont (S) _ _ _ _ _ (hF1) hu42 (hA.mono (by omega))
    · have hq0 : 0 ≤ (qBat bNee S.1 (xs (i + 1))).toInt := by
        rcases hq9 with h9 | h9
        · exact h9
        · rw [h9] at c1815; exact absurd c1815 (by decide)
      obtain ⟨hF1, hfl1⟩ := hP1 hq0
      refine r_aload_n (pc' := 1819) hX dL_law_1818 rfl rfl ?_
      refine r_iconst (pc' := 1820) (v := nI 0) hX dL_law_1819 rfl rfl ?_
      refine r_lald (pc' := 1821) hX dL_law_1820 (by rw [hcy]) 0 rfl rfl ?_
      rw [hfl1]
      change V X (k0 + 1) (n0 + 6) (LW cy o od fl1 fd ws1 u42) [some (.ref b), some (.ref f), some (.ref (ma 0)), some (.ref o), some (.ref od), some (.int (nI i)), some (.int (nI (kd 1 1 1 1 1 (qBat bNee S.1 (xs (i + 1)))))), some (.int (mvl (qBat bNee S.1 (xs (i + 1))))), none] [.long ((qBat bNee S.1 (xs (i + 1))).toInt64)] 1821
      refine r_iload (pc' := 1823) hX dL_law_1821 rfl rfl ?_
      rw [mvl_pos hq0]
      refine r_i2l (pc' := 1824) hX dL_law_1823 rfl rfl ?_
      refine r_lcmp0 (pc' := 1825) hX dL_law_1824 rfl ?_
      refine r_if_eq_N (tgt := 1830) (pc' := 1828) hX dL_law_1825 (by decide) rfl (by omega) (fun c1825 => ?_) (fun c1825 => ?_)
      · refine r_goto (tgt := 2780) hX dL_law_1830 (by decide) ?_
        refine V_loc (L' := [some (.ref b), some (.ref f), some (.ref (ma 0)), some (.ref o), some (.ref od), some (.int (nI i)), none, none, none]) (lo_w ⟨.inr rfl, .inr rfl, .inr rfl, .inr rfl, .inr rfl, .inr rfl, .inl rfl, .inl rfl, .inr rfl, trivial⟩) ?_
        refine V_widen (k' := k0 + 23) (n' := n0 + 3450) (by omega) (by omega) ?_
        exact cont (S) _ _ _ _ _ (hF1) hu42 (hA.mono (by omega))
      · exact absurd c1825 (by omega)
  · exact absurd c1808 (by omega)

set_option maxRecDepth 20000 in
set_option maxHeartbeats 1000000 in
theorem lc_30 {X : xC} {l : Launch} {D : va_G} {cy : Nat → ClassId} {sa : Nat → Nat} {mc ms k0 n0 f o od b L9 i K t : Nat} {ma : Nat → Nat} {xs : Nat → Int32} {S : AS} {fl : Nat → Int64} {fd : Nat → UInt64} {wf wm : va_W} (hX : Ok SF X cL_law RL 16 mc ms) (hG : c0_G X = (D, cy, sa)) (hcy : c0_cy X = cy) (hnL : c0_nL X = 9) (hl : c0_l X = l) (hst : l.stackTraces = false) (hScr : Scr X b L9 xs) (hi : i + 4 ≤ L9) (hL9 : L9 ≤ 2048) (hF : FS cy f S wf) (hM : MS cy ma S t wm) (hA : AJ K S) (hK : K + 61 ≤ 100000) (hk : k0 + 23 ≤ mc) (hn : n0 + 3450 ≤ ms) (cont : ∀ (S1 : AS) (t1 : Nat) (fl1 : Nat → Int64) (fd1 : Nat → UInt64) (wf1 wm1 : va_W), FS cy f S1 wf1 → MS cy ma S1 t1 wm1 → AJ (K + 61) S1 → V X (k0 + 23) (n0 + 3450) (LW cy o od fl1 fd1 wf1 wm1) [some (.ref b), some (.ref f), some (.ref (ma 0)), some (.ref o), some (.ref od), some (.int (nI i)), none, none, none] [] 2780) : V X k0 n0 (LW cy o od fl fd wf wm) [some (.ref b), some (.ref f), some (.ref (ma 0)), some (.ref o), some (.ref od), some (.int (nI i)), none, none, none] [] 1833 := by
  have hv : Wf S.1 := hA.1.1.1.1
  have hInv : Inv K S.1 := hA.1.1.1
  have hFB := hA.1.1.2
  have hq9 : 0 ≤ (qNxt S.1 (xs (i + 1)) (xs (i + 2))).toInt ∨ (qNxt S.1 (xs (i + 1)) (xs (i + 2))) = -1 := qNxt_q
  have hkk : kd 1 0 0 0 0 (qNxt S.1 (xs (i + 1)) (xs (i + 2))) = kd 1 1 1 1 1 (qNxt S.1 (xs (i + 1)) (xs (i + 2))) := by
    rcases hq9 with h9 | h9
    · rw [kd_pos h9, kd_pos h9]
    · rw [h9]; rfl
  refine r_aload_n (pc' := 1834) hX dL_law_1833 rfl rfl ?_
  refine r_aload_n (pc' := 1835) hX dL_law_1834 rfl rfl ?_
  refine r_iload (pc' := 1837) hX dL_law_1835 rfl rfl ?_
  refine r_iconst (pc' := 1838) (v := nI 1) hX dL_law_1837 rfl rfl ?_
  refine r_iadd_N (pc' := 1839) hX dL_law_1838  rfl ?_
  refine r_sld (pc' := 1840) hX dL_law_1839 hScr (by omega) hL9 rfl ?_
  refine r_aload_n (pc' := 1841) hX dL_law_1840 rfl rfl ?_
  refine r_iload (pc' := 1843) hX dL_law_1841 rfl rfl ?_
  refine r_iconst (pc' := 1844) (v := nI 2) hX dL_law_1843 rfl rfl ?_
  refine r_iadd_N (pc' := 1845) hX dL_law_1844  rfl ?_
  refine r_sld (pc' := 1846) hX dL_law_1845 hScr (by omega) hL9 rfl ?_
  refine r_aload_n (pc' := 1847) hX dL_law_1846 rfl rfl ?_
  refine V_call (k' := k0 + 1) (n' := n0 + 6) (pc' := 1850) (wr := ([(od, .inl (cy 7, aD 1 fd))] ++ wm)) hX (r_runSW (As := [.ref f, .int (xs (i + 1)), .int (xs (i + 2)), .ref o]) hX dL_law_1847 kw_L_260 (fun l9 hl9 => by cases hl9; exact cW_nextSqueak (v := S.1) rfl hF hA.1 (hst := (by rw [hl]; exact hst)) (hq := hq9) ) hG rfl rfl (Nat.le_of_ble_eq_true rfl) (by decide) (by decide) (by omega) (by omega)) (LW_c) (by omega) (by omega) rfl (fun w9 u9 hp9 => ?_)
  obtain ⟨fl1, ws1, rfl, rfl, hP1, hN1⟩ := hp9
  rw [hkk]
  change V X (k0 + 1) (n0 + 6) (([(o, .inl (cy 6, aL 1 fl1))] ++ ws1) ++ ([(od, .inl (cy 7, aD 1 fd))] ++ wm)) [some (.ref b), some (.ref f), some (.ref (ma 0)), some (.ref o), some (.ref od), some (.int (nI i)), none, none, none] [.int (nI (kd 1 1 1 1 1 (qNxt S.1 (xs (i + 1)) (xs (i + 2)))))] 1850
  refine V_perm (LW_c.symm) ?_
  refine r_istore (L' := [some (.ref b), some (.ref f), some (.ref (ma 0)), some (.ref o), some (.ref od), some (.int (nI i)), some (.int (nI (kd 1 1 1 1 1 (qNxt S.1 (xs (i + 1)) (xs (i + 2)))))), none, none]) (pc' := 1852) hX dL_law_1850 (nlt hnL (by decide)) rfl rfl rfl ?_
  refine r_aload_n (pc' := 1853) hX dL_law_1852 rfl rfl ?_
  refine r_aload_n (pc' := 1854) hX dL_law_1853 rfl rfl ?_
  refine r_iload (pc' := 1856) hX dL_law_1854 rfl rfl ?_
  refine r_iconst (pc' := 1857) (v := nI 1) hX dL_law_1856 rfl rfl ?_
  refine r_iadd_N (pc' := 1858) hX dL_law_1857  rfl ?_
  refine r_sld (pc' := 1859) hX dL_law_1858 hScr (by omega) hL9 rfl ?_
  refine r_aload_n (pc' := 1860) hX dL_law_1859 rfl rfl ?_
  refine r_iload (pc' := 1862) hX dL_law_1860 rfl rfl ?_
  refine r_iconst (pc' := 1863) (v := nI 2) hX dL_law_1862 rfl rfl ?_
  refine r_iadd_N (pc' := 1864) hX dL_law_1863  rfl ?_
  refine r_sld (pc' := 1865) hX dL_law_1864 hScr (by omega) hL9 rfl ?_
  refine V_call (k' := k0 + 1) (n' := n0 + 6) (pc' := 1868) (wr := ([(o, .inl (cy 6, aL 1 fl1)), (od, .inl (cy 7, aD 1 fd))] ++ ws1)) hX (r_runV (As := [.int (xs (i + 1)), .int (xs (i + 2))]) hX dL_law_1865 k_L_262 (fun l9 hl9 => cMw_nextSqueak (v := S.1) rfl hM hv (x := (xs (i + 1))) (y := (xs (i + 2)))) hG (MS_recv hM) rfl rfl (Nat.le_of_ble_eq_true rfl) (by decide) (by decide) (by omega) (by omega)) (LW_m) (by omega) (by omega) rfl (fun w9 u43 hp9 => ?_)
  obtain ⟨rfl, hu43⟩ := hp9
  change V X (k0 + 1) (n0 + 6) (u43 ++ ([(o, .inl (cy 6, aL 1 fl1)), (od, .inl (cy 7, aD 1 fd))] ++ ws1)) [some (.ref b), some (.ref f), some (.ref (ma 0)), some (.ref o), some (.ref od), some (.int (nI i)), some (.int (nI (kd 1 1 1 1 1 (qNxt S.1 (xs (i + 1)) (xs (i + 2)))))), none, none] [.int (mvl (qNxt S.1 (xs (i + 1)) (xs (i + 2))))] 1868
  refine V_perm (LW_m.symm) ?_
  refine r_istore (L' := [some (.ref b), some (.ref f), some (.ref (ma 0)), some (.ref o), some (.ref od), some (.int (nI i)), some (.int (nI (kd 1 1 1 1 1 (qNxt S.1 (xs (i + 1)) (xs (i + 2)))))), some (.int (mvl (qNxt S.1 (xs (i + 1)) (xs (i + 2))))), none]) (pc' := 1870) hX dL_law_1868 (nlt hnL (by decide)) rfl rfl rfl ?_
  refine r_aload_n (pc' := 1871) hX dL_law_1870 rfl rfl ?_
  refine V_call (k' := k0 + 1) (n' := n0 + 6) (pc' := 1874) (wr := ([(o, .inl (cy 6, aL 1 fl1)), (od, .inl (cy 7, aD 1 fd))] ++ ws1)) hX (r_runV (As := []) hX dL_law_1871 k_L_163 (fun l9 hl9 => cMw_thrown hu43) hG (MS_recv hu43) rfl rfl (Nat.le_of_ble_eq_true rfl) (by decide) (by decide) (by omega) (by omega)) (LW_m) (by omega) (by omega) rfl (fun w9 u44 hp9 => ?_)
  obtain ⟨rfl, hu44⟩ := hp9
  change V X (k0 + 1) (n0 + 6) (u44 ++ ([(o, .inl (cy 6, aL 1 fl1)), (od, .inl (cy 7, aD 1 fd))] ++ ws1)) [some (.ref b), some (.ref f), some (.ref (ma 0)), some (.ref o), some (.ref od), some (.int (nI i)), some (.int (nI (kd 1 1 1 1 1 (qNxt S.1 (xs (i + 1)) (xs (i + 2)))))), some (.int (mvl (qNxt S.1 (xs (i + 1)) (xs (i + 2))))), none] [.int (nI (kd 1 1 1 1 1 (qNxt S.1 (xs (i + 1)) (xs (i + 2)))))] 1874
  refine V_perm (LW_m.symm) ?_
  refine r_iload (pc' := 1876) hX dL_law_1874 rfl rfl ?_
  have hkd := kd_lt (a := 1) (b := 1) (c := 1) (d := 1) (e := 1) (x := qNxt S.1 (xs (i + 1)) (xs (i + 2))) rfl
  refine r_icmp_eq_N (tgt := 1881) (pc' := 1879) hX dL_law_1876 (by decide) rfl (by omega) (by omega) (fun c1876 => ?_) (fun c1876 => ?_)
  · refine r_iload (pc' := 1883) hX dL_law_1881 rfl rfl ?_
    refine r_if_ne_N (tgt := 1898) (pc' := 1886) hX dL_law_1883 (by decide) rfl (by omega) (fun c1883 => ?_) (fun c1883 => ?_)
    · have hq1 : (qNxt S.1 (xs (i + 1)) (xs (i + 2))).toInt < 0 := by
        refine Classical.byContradiction fun h9 => c1883 (kd_pos (by omega))
      have hF1 := hN1 hq1
      refine r_goto (tgt := 2780) hX dL_law_1898 (by decide) ?_
      refine V_loc (L' := [some (.ref b), some (.ref f), some (.ref (ma 0)), some (.ref o), some (.ref od), some (.int (nI i)), none, none, none]) (lo_w ⟨.inr rfl, .inr rfl, .inr rfl, .inr rfl, .inr rfl, .inr rfl, .inl rfl, .inl rfl, .inr rfl, trivial⟩) ?_
      refine V_widen (k' := k0 + 23) (n' := n0 + 3450) (by omega) (by omega) ?_
      exact cont (S) _ _ _ _ _ (hF1) hu44 (hA.mono (by omega))
    · have hq0 : 0 ≤ (qNxt S.1 (xs (i + 1)) (xs (i + 2))).toInt := by
        rcases hq9 with h9 | h9
        · exact h9
        · rw [h9] at c1883; exact absurd c1883 (by decide)
      obtain ⟨hF1, hfl1⟩ := hP1 hq0
      refine r_aload_n (pc' := 1887) hX dL_law_1886 rfl rfl ?_
      refine r_iconst (pc' := 1888) (v := nI 0) hX dL_law_1887 rfl rfl ?_
      refine r_lald (pc' := 1889) hX dL_law_1888 (by rw [hcy]) 0 rfl rfl ?_
      rw [hfl1]
      change V X (k0 + 1) (n0 + 6) (LW cy o od fl1 fd ws1 u44) [some (.ref b), some (.ref f), some (.ref (ma 0)), some (.ref o), some (.ref od), some (.int (nI i)), some (.int (nI (kd 1 1 1 1 1 (qNxt S.1 (xs (i + 1)) (xs (i + 2)))))), some (.int (mvl (qNxt S.1 (xs (i + 1)) (xs (i + 2))))), none] [.long ((qNxt S.1 (xs (i + 1)) (xs (i + 2))).toInt64)] 1889
      refine r_iload (pc' := 1891) hX dL_law_1889 rfl rfl ?_
      rw [mvl_pos hq0]
      refine r_i2l (pc' := 1892) hX dL_law_1891 rfl rfl ?_
      refine r_lcmp0 (pc' := 1893) hX dL_law_1892 rfl ?_
      refine r_if_eq_N (tgt := 1898) (pc' := 1896) hX dL_law_1893 (by decide) rfl (by omega) (fun c1893 => ?_) (fun c1893 => ?_)
      · refine r_goto (tgt := 2780) hX dL_law_1898 (by decide) ?_
        refine V_loc (L' := [some (.ref b), some (.ref f), some (.ref (ma 0)), some (.ref o), some (.ref od), some (.int (nI i)), none, none, none]) (lo_w ⟨.inr rfl, .inr rfl, .inr rfl, .inr rfl, .inr rfl, .inr rfl, .inl rfl, .inl rfl, .inr rfl, trivial⟩) ?_
        refine V_widen (k' := k0 + 23) (n' := n0 + 3450) (by omega) (by omega) ?_
        exact cont (S) _ _ _ _ _ (hF1) hu44 (hA.mono (by omega))
      · exact absurd c1893 (by omega)
  · exact absurd c1876 (by omega)

set_option maxRecDepth 20000 in
set_option maxHeartbeats 1000000 in
theorem lc_31 {X : xC} {l : Launch} {D : va_G} {cy : Nat → ClassId} {sa : Nat → Nat} {mc ms k0 n0 f o od b L9 i K t : Nat} {ma : Nat → Nat} {xs : Nat → Int32} {S : AS} {fl : Nat → Int64} {fd : Nat → UInt64} {wf wm : va_W} (hX : Ok SF X cL_law RL 16 mc ms) (hG : c0_G X = (D, cy, sa)) (hcy : c0_cy X = cy) (hnL : c0_nL X = 9) (hl : c0_l X = l) (hst : l.stackTraces = false) (hScr : Scr X b L9 xs) (hi : i + 4 ≤ L9) (hL9 : L9 ≤ 2048) (hF : FS cy f S wf) (hM : MS cy ma S t wm) (hA : AJ K S) (hK : K + 61 ≤ 100000) (hk : k0 + 23 ≤ mc) (hn : n0 + 3450 ≤ ms) (cont : ∀ (S1 : AS) (t1 : Nat) (fl1 : Nat → Int64) (fd1 : Nat → UInt64) (wf1 wm1 : va_W), FS cy f S1 wf1 → MS cy ma S1 t1 wm1 → AJ (K + 61) S1 → V X (k0 + 23) (n0 + 3450) (LW cy o od fl1 fd1 wf1 wm1) [some (.ref b), some (.ref f), some (.ref (ma 0)), some (.ref o), some (.ref od), some (.int (nI i)), none, none, none] [] 2780) : V X k0 n0 (LW cy o od fl fd wf wm) [some (.ref b), some (.ref f), some (.ref (ma 0)), some (.ref o), some (.ref od), some (.int (nI i)), none, none, none] [] 1901 := by
  have hv : Wf S.1 := hA.1.1.1.1
  have hInv : Inv K S.1 := hA.1.1.1
  have hFB := hA.1.1.2
  have hq9 : 0 ≤ (qPos S.1 (xs (i + 1))).toInt ∨ (qPos S.1 (xs (i + 1))) = -1 := qPos_q
  have hkk : kd 1 0 0 0 0 (qPos S.1 (xs (i + 1))) = kd 1 1 1 1 1 (qPos S.1 (xs (i + 1))) := by
    rcases hq9 with h9 | h9
    · rw [kd_pos h9, kd_pos h9]
    · rw [h9]; rfl
  refine r_aload_n (pc' := 1902) hX dL_law_1901 rfl rfl ?_
  refine r_aload_n (pc' := 1903) hX dL_law_1902 rfl rfl ?_
  refine r_iload (pc' := 1905) hX dL_law_1903 rfl rfl ?_
  refine r_iconst (pc' := 1906) (v := nI 1) hX dL_law_1905 rfl rfl ?_
  refine r_iadd_N (pc' := 1907) hX dL_law_1906  rfl ?_
  refine r_sld (pc' := 1908) hX dL_law_1907 hScr (by omega) hL9 rfl ?_
  refine r_aload_n (pc' := 1909) hX dL_law_1908 rfl rfl ?_
  refine V_call (k' := k0 + 1) (n' := n0 + 6) (pc' := 1912) (wr := ([(od, .inl (cy 7, aD 1 fd))] ++ wm)) hX (r_runSW (As := [.ref f, .int (xs (i + 1)), .ref o]) hX dL_law_1909 kw_L_263 (fun l9 hl9 => by cases hl9; exact cW_possibleBows (v := S.1) rfl hF hA.1 (hst := (by rw [hl]; exact hst)) (hq := hq9) ) hG rfl rfl (Nat.le_of_ble_eq_true rfl) (by decide) (by decide) (by omega) (by omega)) (LW_c) (by omega) (by omega) rfl (fun w9 u9 hp9 => ?_)
  obtain ⟨fl1, ws1, rfl, rfl, hP1, hN1⟩ := hp9
  rw [hkk]
  change V X (k0 + 1) (n0 + 6) (([(o, .inl (cy 6, aL 1 fl1))] ++ ws1) ++ ([(od, .inl (cy 7, aD 1 fd))] ++ wm)) [some (.ref b), some (.ref f), some (.ref (ma 0)), some (.ref o), some (.ref od), some (.int (nI i)), none, none, none] [.int (nI (kd 1 1 1 1 1 (qPos S.1 (xs (i + 1)))))] 1912
  refine V_perm (LW_c.symm) ?_
  refine r_istore (L' := [some (.ref b), some (.ref f), some (.ref (ma 0)), some (.ref o), some (.ref od), some (.int (nI i)), some (.int (nI (kd 1 1 1 1 1 (qPos S.1 (xs (i + 1)))))), none, none]) (pc' := 1914) hX dL_law_1912 (nlt hnL (by decide)) rfl rfl rfl ?_
  refine r_aload_n (pc' := 1915) hX dL_law_1914 rfl rfl ?_
  refine r_aload_n (pc' := 1916) hX dL_law_1915 rfl rfl ?_
  refine r_iload (pc' := 1918) hX dL_law_1916 rfl rfl ?_
  refine r_iconst (pc' := 1919) (v := nI 1) hX dL_law_1918 rfl rfl ?_
  refine r_iadd_N (pc' := 1920) hX dL_law_1919  rfl ?_
  refine r_sld (pc' := 1921) hX dL_law_1920 hScr (by omega) hL9 rfl ?_
  refine V_call (k' := k0 + 1) (n' := n0 + 6) (pc' := 1924) (wr := ([(o, .inl (cy 6, aL 1 fl1)), (od, .inl (cy 7, aD 1 fd))] ++ ws1)) hX (r_runV (As := [.int (xs (i + 1))]) hX dL_law_1921 k_L_265 (fun l9 hl9 => cMw_possibleBows (v := S.1) rfl hM hv (x := (xs (i + 1)))) hG (MS_recv hM) rfl rfl (Nat.le_of_ble_eq_true rfl) (by decide) (by decide) (by omega) (by omega)) (LW_m) (by omega) (by omega) rfl (fun w9 u45 hp9 => ?_)
  obtain ⟨rfl, hu45⟩ := hp9
  change V X (k0 + 1) (n0 + 6) (u45 ++ ([(o, .inl (cy 6, aL 1 fl1)), (od, .inl (cy 7, aD 1 fd))] ++ ws1)) [some (.ref b), some (.ref f), some (.ref (ma 0)), some (.ref o), some (.ref od), some (.int (nI i)), some (.int (nI (kd 1 1 1 1 1 (qPos S.1 (xs (i + 1)))))), none, none] [.int (mvl (qPos S.1 (xs (i + 1))))] 1924
  refine V_perm (LW_m.symm) ?_
  refine r_istore (L' := [some (.ref b), some (.ref f), some (.ref (ma 0)), some (.ref o), some (.ref od), some (.int (nI i)), some (.int (nI (kd 1 1 1 1 1 (qPos S.1 (xs (i + 1)))))), some (.int (mvl (qPos S.1 (xs (i + 1))))), none]) (pc' := 1926) hX dL_law_1924 (nlt hnL (by decide)) rfl rfl rfl ?_
  refine r_aload_n (pc' := 1927) hX dL_law_1926 rfl rfl ?_
  refine V_call (k' := k0 + 1) (n' := n0 + 6) (pc' := 1930) (wr := ([(o, .inl (cy 6, aL 1 fl1)), (od, .inl (cy 7, aD 1 fd))] ++ ws1)) hX (r_runV (As := []) hX dL_law_1927 k_L_163 (fun l9 hl9 => cMw_thrown hu45) hG (MS_recv hu45) rfl rfl (Nat.le_of_ble_eq_true rfl) (by decide) (by decide) (by omega) (by omega)) (LW_m) (by omega) (by omega) rfl (fun w9 u46 hp9 => ?_)
  obtain ⟨rfl, hu46⟩ := hp9
  change V X (k0 + 1) (n0 + 6) (u46 ++ ([(o, .inl (cy 6, aL 1 fl1)), (od, .inl (cy 7, aD 1 fd))] ++ ws1)) [some (.ref b), some (.ref f), some (.ref (ma 0)), some (.ref o), some (.ref od), some (.int (nI i)), some (.int (nI (kd 1 1 1 1 1 (qPos S.1 (xs (i + 1)))))), some (.int (mvl (qPos S.1 (xs (i + 1))))), none] [.int (nI (kd 1 1 1 1 1 (qPos S.1 (xs (i + 1)))))] 1930
  refine V_perm (LW_m.symm) ?_
  refine r_iload (pc' := 1932) hX dL_law_1930 rfl rfl ?_
  have hkd := kd_lt (a := 1) (b := 1) (c := 1) (d := 1) (e := 1) (x := qPos S.1 (xs (i + 1))) rfl
  refine r_icmp_eq_N (tgt := 1937) (pc' := 1935) hX dL_law_1932 (by decide) rfl (by omega) (by omega) (fun c1932 => ?_) (fun c1932 => ?_)
  · refine r_iload (pc' := 1939) hX dL_law_1937 rfl rfl ?_
    refine r_if_ne_N (tgt := 1954) (pc' := 1942) hX dL_law_1939 (by decide) rfl (by omega) (fun c1939 => ?_) (fun c1939 => ?_)
    · have hq1 : (qPos S.1 (xs (i + 1))).toInt < 0 := by
        refine Classical.byContradiction fun h9 => c1939 (kd_pos (by omega))
      have hF1 := hN1 hq1
      refine r_goto (tgt := 2780) hX dL_law_1954 (by decide) ?_
      refine V_loc (L' := [some (.ref b), some (.ref f), some (.ref (ma 0)), some (.ref o), some (.ref od), some (.int (nI i)), none, none, none]) (lo_w ⟨.inr rfl, .inr rfl, .inr rfl, .inr rfl, .inr rfl, .inr rfl, .inl rfl, .inl rfl, .inr rfl, trivial⟩) ?_
      refine V_widen (k' := k0 + 23) (n' := n0 + 3450) (by omega) (by omega) ?_
      exact cont (S) _ _ _ _ _ (hF1) hu46 (hA.mono (by omega))
    · have hq0 : 0 ≤ (qPos S.1 (xs (i + 1))).toInt := by
        rcases hq9 with h9 | h9
        · exact h9
        · rw [h9] at c1939; exact absurd c1939 (by decide)
      obtain ⟨hF1, hfl1⟩ := hP1 hq0
      refine r_aload_n (pc' := 1943) hX dL_law_1942 rfl rfl ?_
      refine r_iconst (pc' := 1944) (v := nI 0) hX dL_law_1943 rfl rfl ?_
      refine r_lald (pc' := 1945) hX dL_law_1944 (by rw [hcy]) 0 rfl rfl ?_
      rw [hfl1]
      change V X (k0 + 1) (n0 + 6) (LW cy o od fl1 fd ws1 u46) [some (.ref b), some (.ref f), some (.ref (ma 0)), some (.ref o), some (.ref od), some (.int (nI i)), some (.int (nI (kd 1 1 1 1 1 (qPos S.1 (xs (i + 1)))))), some (.int (mvl (qPos S.1 (xs (i + 1))))), none] [.long ((qPos S.1 (xs (i + 1))).toInt64)] 1945
      refine r_iload (pc' := 1947) hX dL_law_1945 rfl rfl ?_
      rw [mvl_pos hq0]
      refine r_i2l (pc' := 1948) hX dL_law_1947 rfl rfl ?_
      refine r_lcmp0 (pc' := 1949) hX dL_law_1948 rfl ?_
      refine r_if_eq_N (tgt := 1954) (pc' := 1952) hX dL_law_1949 (by decide) rfl (by omega) (fun c1949 => ?_) (fun c1949 => ?_)
      · refine r_goto (tgt := 2780) hX dL_law_1954 (by decide) ?_
        refine V_loc (L' := [some (.ref b), some (.ref f), some (.ref (ma 0)), some (.ref o), some (.ref od), some (.int (nI i)), none, none, none]) (lo_w ⟨.inr rfl, .inr rfl, .inr rfl, .inr rfl, .inr rfl, .inr rfl, .inl rfl, .inl rfl, .inr rfl, trivial⟩) ?_
        refine V_widen (k' := k0 + 23) (n' := n0 + 3450) (by omega) (by omega) ?_
        exact cont (S) _ _ _ _ _ (hF1) hu46 (hA.mono (by omega))
      · exact absurd c1949 (by omega)
  · exact absurd c1932 (by omega)

set_option maxRecDepth 20000 in
set_option maxHeartbeats 1000000 in
theorem lc_32 {X : xC} {l : Launch} {D : va_G} {cy : Nat → ClassId} {sa : Nat → Nat} {mc ms k0 n0 f o od b L9 i K t : Nat} {ma : Nat → Nat} {xs : Nat → Int32} {S : AS} {fl : Nat → Int64} {fd : Nat → UInt64} {wf wm : va_W} (hX : Ok SF X cL_law RL 16 mc ms) (hG : c0_G X = (D, cy, sa)) (hcy : c0_cy X = cy) (hnL : c0_nL X = 9) (hl : c0_l X = l) (hst : l.stackTraces = false) (hScr : Scr X b L9 xs) (hi : i + 4 ≤ L9) (hL9 : L9 ≤ 2048) (hF : FS cy f S wf) (hM : MS cy ma S t wm) (hA : AJ K S) (hK : K + 61 ≤ 100000) (hk : k0 + 23 ≤ mc) (hn : n0 + 3450 ≤ ms) (cont : ∀ (S1 : AS) (t1 : Nat) (fl1 : Nat → Int64) (fd1 : Nat → UInt64) (wf1 wm1 : va_W), FS cy f S1 wf1 → MS cy ma S1 t1 wm1 → AJ (K + 61) S1 → V X (k0 + 23) (n0 + 3450) (LW cy o od fl1 fd1 wf1 wm1) [some (.ref b), some (.ref f), some (.ref (ma 0)), some (.ref o), some (.ref od), some (.int (nI i)), none, none, none] [] 2780) : V X k0 n0 (LW cy o od fl fd wf wm) [some (.ref b), some (.ref f), some (.ref (ma 0)), some (.ref o), some (.ref od), some (.int (nI i)), none, none, none] [] 1957 := by
  have hv : Wf S.1 := hA.1.1.1.1
  have hInv : Inv K S.1 := hA.1.1.1
  have hFB := hA.1.1.2
  have hq9 : 0 ≤ (qMib S.1 (xs (i + 1))).toInt ∨ (qMib S.1 (xs (i + 1))) = -1 := qMib_q hv
  have hkk : kd 1 0 0 0 0 (qMib S.1 (xs (i + 1))) = kd 1 1 1 1 1 (qMib S.1 (xs (i + 1))) := by
    rcases hq9 with h9 | h9
    · rw [kd_pos h9, kd_pos h9]
    · rw [h9]; rfl
  refine r_aload_n (pc' := 1958) hX dL_law_1957 rfl rfl ?_
  refine r_aload_n (pc' := 1959) hX dL_law_1958 rfl rfl ?_
  refine r_iload (pc' := 1961) hX dL_law_1959 rfl rfl ?_
  refine r_iconst (pc' := 1962) (v := nI 1) hX dL_law_1961 rfl rfl ?_
  refine r_iadd_N (pc' := 1963) hX dL_law_1962  rfl ?_
  refine r_sld (pc' := 1964) hX dL_law_1963 hScr (by omega) hL9 rfl ?_
  refine r_aload_n (pc' := 1965) hX dL_law_1964 rfl rfl ?_
  refine V_call (k' := k0 + 1) (n' := n0 + 6) (pc' := 1968) (wr := ([(od, .inl (cy 7, aD 1 fd))] ++ wm)) hX (r_runSW (As := [.ref f, .int (xs (i + 1)), .ref o]) hX dL_law_1965 kw_L_266 (fun l9 hl9 => by cases hl9; exact cW_metalInBatches (v := S.1) rfl hF hA.1 (hst := (by rw [hl]; exact hst)) (hq := hq9) ) hG rfl rfl (Nat.le_of_ble_eq_true rfl) (by decide) (by decide) (by omega) (by omega)) (LW_c) (by omega) (by omega) rfl (fun w9 u9 hp9 => ?_)
  obtain ⟨fl1, ws1, rfl, rfl, hP1, hN1⟩ := hp9
  rw [hkk]
  change V X (k0 + 1) (n0 + 6) (([(o, .inl (cy 6, aL 1 fl1))] ++ ws1) ++ ([(od, .inl (cy 7, aD 1 fd))] ++ wm)) [some (.ref b), some (.ref f), some (.ref (ma 0)), some (.ref o), some (.ref od), some (.int (nI i)), none, none, none] [.int (nI (kd 1 1 1 1 1 (qMib S.1 (xs (i + 1)))))] 1968
  refine V_perm (LW_c.symm) ?_
  refine r_istore (L' := [some (.ref b), some (.ref f), some (.ref (ma 0)), some (.ref o), some (.ref od), some (.int (nI i)), some (.int (nI (kd 1 1 1 1 1 (qMib S.1 (xs (i + 1)))))), none, none]) (pc' := 1970) hX dL_law_1968 (nlt hnL (by decide)) rfl rfl rfl ?_
  refine r_aload_n (pc' := 1971) hX dL_law_1970 rfl rfl ?_
  refine r_aload_n (pc' := 1972) hX dL_law_1971 rfl rfl ?_
  refine r_iload (pc' := 1974) hX dL_law_1972 rfl rfl ?_
  refine r_iconst (pc' := 1975) (v := nI 1) hX dL_law_1974 rfl rfl ?_
  refine r_iadd_N (pc' := 1976) hX dL_law_1975  rfl ?_
  refine r_sld (pc' := 1977) hX dL_law_1976 hScr (by omega) hL9 rfl ?_
  refine V_call (k' := k0 + 1) (n' := n0 + 6) (pc' := 1980) (wr := ([(o, .inl (cy 6, aL 1 fl1)), (od, .inl (cy 7, aD 1 fd))] ++ ws1)) hX (r_runV (As := [.int (xs (i + 1))]) hX dL_law_1977 k_L_268 (fun l9 hl9 => cMw_metalInBatches (v := S.1) rfl hM hv (x := (xs (i + 1)))) hG (MS_recv hM) rfl rfl (Nat.le_of_ble_eq_true rfl) (by decide) (by decide) (by omega) (by omega)) (LW_m) (by omega) (by omega) rfl (fun w9 u47 hp9 => ?_)
  obtain ⟨rfl, hu47⟩ := hp9
  change V X (k0 + 1) (n0 + 6) (u47 ++ ([(o, .inl (cy 6, aL 1 fl1)), (od, .inl (cy 7, aD 1 fd))] ++ ws1)) [some (.ref b), some (.ref f), some (.ref (ma 0)), some (.ref o), some (.ref od), some (.int (nI i)), some (.int (nI (kd 1 1 1 1 1 (qMib S.1 (xs (i + 1)))))), none, none] [.int (mvl (qMib S.1 (xs (i + 1))))] 1980
  refine V_perm (LW_m.symm) ?_
  refine r_istore (L' := [some (.ref b), some (.ref f), some (.ref (ma 0)), some (.ref o), some (.ref od), some (.int (nI i)), some (.int (nI (kd 1 1 1 1 1 (qMib S.1 (xs (i + 1)))))), some (.int (mvl (qMib S.1 (xs (i + 1))))), none]) (pc' := 1982) hX dL_law_1980 (nlt hnL (by decide)) rfl rfl rfl ?_
  refine r_aload_n (pc' := 1983) hX dL_law_1982 rfl rfl ?_
  refine V_call (k' := k0 + 1) (n' := n0 + 6) (pc' := 1986) (wr := ([(o, .inl (cy 6, aL 1 fl1)), (od, .inl (cy 7, aD 1 fd))] ++ ws1)) hX (r_runV (As := []) hX dL_law_1983 k_L_163 (fun l9 hl9 => cMw_thrown hu47) hG (MS_recv hu47) rfl rfl (Nat.le_of_ble_eq_true rfl) (by decide) (by decide) (by omega) (by omega)) (LW_m) (by omega) (by omega) rfl (fun w9 u48 hp9 => ?_)
  obtain ⟨rfl, hu48⟩ := hp9
  change V X (k0 + 1) (n0 + 6) (u48 ++ ([(o, .inl (cy 6, aL 1 fl1)), (od, .inl (cy 7, aD 1 fd))] ++ ws1)) [some (.ref b), some (.ref f), some (.ref (ma 0)), some (.ref o), some (.ref od), some (.int (nI i)), some (.int (nI (kd 1 1 1 1 1 (qMib S.1 (xs (i + 1)))))), some (.int (mvl (qMib S.1 (xs (i + 1))))), none] [.int (nI (kd 1 1 1 1 1 (qMib S.1 (xs (i + 1)))))] 1986
  refine V_perm (LW_m.symm) ?_
  refine r_iload (pc' := 1988) hX dL_law_1986 rfl rfl ?_
  have hkd := kd_lt (a := 1) (b := 1) (c := 1) (d := 1) (e := 1) (x := qMib S.1 (xs (i + 1))) rfl
  refine r_icmp_eq_N (tgt := 1993) (pc' := 1991) hX dL_law_1988 (by decide) rfl (by omega) (by omega) (fun c1988 => ?_) (fun c1988 => ?_)
  · refine r_iload (pc' := 1995) hX dL_law_1993 rfl rfl ?_
    refine r_if_ne_N (tgt := 2010) (pc' := 1998) hX dL_law_1995 (by decide) rfl (by omega) (fun c1995 => ?_) (fun c1995 => ?_)
    · have hq1 : (qMib S.1 (xs (i + 1))).toInt < 0 := by
        refine Classical.byContradiction fun h9 => c1995 (kd_pos (by omega))
      have hF1 := hN1 hq1
      refine r_goto (tgt := 2780) hX dL_law_2010 (by decide) ?_
      refine V_loc (L' := [some (.ref b), some (.ref f), some (.ref (ma 0)), some (.ref o), some (.ref od), some (.int (nI i)), none, none, none]) (lo_w ⟨.inr rfl, .inr rfl, .inr rfl, .inr rfl, .inr rfl, .inr rfl, .inl rfl, .inl rfl, .inr rfl, trivial⟩) ?_
      refine V_widen (k' := k0 + 23) (n' := n0 + 3450) (by omega) (by omega) ?_
      exact cont (S) _ _ _ _ _ (hF1) hu48 (hA.mono (by omega))
    · have hq0 : 0 ≤ (qMib S.1 (xs (i + 1))).toInt := by
        rcases hq9 with h9 | h9
        · exact h9
        · rw [h9] at c1995; exact absurd c1995 (by decide)
      obtain ⟨hF1, hfl1⟩ := hP1 hq0
      refine r_aload_n (pc' := 1999) hX dL_law_1998 rfl rfl ?_
      refine r_iconst (pc' := 2000) (v := nI 0) hX dL_law_1999 rfl rfl ?_
      refine r_lald (pc' := 2001) hX dL_law_2000 (by rw [hcy]) 0 rfl rfl ?_
      rw [hfl1]
      change V X (k0 + 1) (n0 + 6) (LW cy o od fl1 fd ws1 u48) [some (.ref b), some (.ref f), some (.ref (ma 0)), some (.ref o), some (.ref od), some (.int (nI i)), some (.int (nI (kd 1 1 1 1 1 (qMib S.1 (xs (i + 1)))))), some (.int (mvl (qMib S.1 (xs (i + 1))))), none] [.long ((qMib S.1 (xs (i + 1))).toInt64)] 2001
      refine r_iload (pc' := 2003) hX dL_law_2001 rfl rfl ?_
      rw [mvl_pos hq0]
      refine r_i2l (pc' := 2004) hX dL_law_2003 rfl rfl ?_
      refine r_lcmp0 (pc' := 2005) hX dL_law_2004 rfl ?_
      refine r_if_eq_N (tgt := 2010) (pc' := 2008) hX dL_law_2005 (by decide) rfl (by omega) (fun c2005 => ?_) (fun c2005 => ?_)
      · refine r_goto (tgt := 2780) hX dL_law_2010 (by decide) ?_
        refine V_loc (L' := [some (.ref b), some (.ref f), some (.ref (ma 0)), some (.ref o), some (.ref od), some (.int (nI i)), none, none, none]) (lo_w ⟨.inr rfl, .inr rfl, .inr rfl, .inr rfl, .inr rfl, .inr rfl, .inl rfl, .inl rfl, .inr rfl, trivial⟩) ?_
        refine V_widen (k' := k0 + 23) (n' := n0 + 3450) (by omega) (by omega) ?_
        exact cont (S) _ _ _ _ _ (hF1) hu48 (hA.mono (by omega))
      · exact absurd c2005 (by omega)
  · exact absurd c1988 (by omega)

set_option maxRecDepth 20000 in
set_option maxHeartbeats 1000000 in
theorem lc_33 {X : xC} {l : Launch} {D : va_G} {cy : Nat → ClassId} {sa : Nat → Nat} {mc ms k0 n0 f o od b L9 i K t : Nat} {ma : Nat → Nat} {xs : Nat → Int32} {S : AS} {fl : Nat → Int64} {fd : Nat → UInt64} {wf wm : va_W} (hX : Ok SF X cL_law RL 16 mc ms) (hG : c0_G X = (D, cy, sa)) (hcy : c0_cy X = cy) (hnL : c0_nL X = 9) (hl : c0_l X = l) (hst : l.stackTraces = false) (hScr : Scr X b L9 xs) (hi : i + 4 ≤ L9) (hL9 : L9 ≤ 2048) (hF : FS cy f S wf) (hM : MS cy ma S t wm) (hA : AJ K S) (hK : K + 61 ≤ 100000) (hk : k0 + 23 ≤ mc) (hn : n0 + 3450 ≤ ms) (cont : ∀ (S1 : AS) (t1 : Nat) (fl1 : Nat → Int64) (fd1 : Nat → UInt64) (wf1 wm1 : va_W), FS cy f S1 wf1 → MS cy ma S1 t1 wm1 → AJ (K + 61) S1 → V X (k0 + 23) (n0 + 3450) (LW cy o od fl1 fd1 wf1 wm1) [some (.ref b), some (.ref f), some (.ref (ma 0)), some (.ref o), some (.ref od), some (.int (nI i)), none, none, none] [] 2780) : V X k0 n0 (LW cy o od fl fd wf wm) [some (.ref b), some (.ref f), some (.ref (ma 0)), some (.ref o), some (.ref od), some (.int (nI i)), none, none, none] [] 2013 := by
  have hv : Wf S.1 := hA.1.1.1.1
  have hInv : Inv K S.1 := hA.1.1.1
  have hFB := hA.1.1.2
  have hq9 : 0 ≤ (qMib S.1 (xs (i + 1))).toInt ∨ (qMib S.1 (xs (i + 1))) = -1 := qMib_q hv
  have hkk : kd 1 0 0 0 0 (qMib S.1 (xs (i + 1))) = kd 1 1 1 1 1 (qMib S.1 (xs (i + 1))) := by
    rcases hq9 with h9 | h9
    · rw [kd_pos h9, kd_pos h9]
    · rw [h9]; rfl
  refine r_aload_n (pc' := 2014) hX dL_law_2013 rfl rfl ?_
  refine r_aload_n (pc' := 2015) hX dL_law_2014 rfl rfl ?_
  refine r_iload (pc' := 2017) hX dL_law_2015 rfl rfl ?_
  refine r_iconst (pc' := 2018) (v := nI 1) hX dL_law_2017 rfl rfl ?_
  refine r_iadd_N (pc' := 2019) hX dL_law_2018  rfl ?_
  refine r_sld (pc' := 2020) hX dL_law_2019 hScr (by omega) hL9 rfl ?_
  refine r_aload_n (pc' := 2021) hX dL_law_2020 rfl rfl ?_
  refine V_call (k' := k0 + 1) (n' := n0 + 6) (pc' := 2024) (wr := ([(od, .inl (cy 7, aD 1 fd))] ++ wm)) hX (r_runSW (As := [.ref f, .int (xs (i + 1)), .ref o]) hX dL_law_2021 kw_L_269 (fun l9 hl9 => by cases hl9; exact cW_metalByAccounts (v := S.1) rfl hF hA.1 (hst := (by rw [hl]; exact hst)) (hq := hq9) ) hG rfl rfl (Nat.le_of_ble_eq_true rfl) (by decide) (by decide) (by omega) (by omega)) (LW_c) (by omega) (by omega) rfl (fun w9 u9 hp9 => ?_)
  obtain ⟨fl1, ws1, rfl, rfl, hP1, hN1⟩ := hp9
  rw [hkk]
  change V X (k0 + 1) (n0 + 6) (([(o, .inl (cy 6, aL 1 fl1))] ++ ws1) ++ ([(od, .inl (cy 7, aD 1 fd))] ++ wm)) [some (.ref b), some (.ref f), some (.ref (ma 0)), some (.ref o), some (.ref od), some (.int (nI i)), none, none, none] [.int (nI (kd 1 1 1 1 1 (qMib S.1 (xs (i + 1)))))] 2024
  refine V_perm (LW_c.symm) ?_
  refine r_istore (L' := [some (.ref b), some (.ref f), some (.ref (ma 0)), some (.ref o), some (.ref od), some (.int (nI i)), some (.int (nI (kd 1 1 1 1 1 (qMib S.1 (xs (i + 1)))))), none, none]) (pc' := 2026) hX dL_law_2024 (nlt hnL (by decide)) rfl rfl rfl ?_
  refine r_aload_n (pc' := 2027) hX dL_law_2026 rfl rfl ?_
  refine r_aload_n (pc' := 2028) hX dL_law_2027 rfl rfl ?_
  refine r_iload (pc' := 2030) hX dL_law_2028 rfl rfl ?_
  refine r_iconst (pc' := 2031) (v := nI 1) hX dL_law_2030 rfl rfl ?_
  refine r_iadd_N (pc' := 2032) hX dL_law_2031  rfl ?_
  refine r_sld (pc' := 2033) hX dL_law_2032 hScr (by omega) hL9 rfl ?_
  refine V_call (k' := k0 + 1) (n' := n0 + 6) (pc' := 2036) (wr := ([(o, .inl (cy 6, aL 1 fl1)), (od, .inl (cy 7, aD 1 fd))] ++ ws1)) hX (r_runV (As := [.int (xs (i + 1))]) hX dL_law_2033 k_L_271 (fun l9 hl9 => cMw_metalByAccounts (v := S.1) rfl hM hv (x := (xs (i + 1)))) hG (MS_recv hM) rfl rfl (Nat.le_of_ble_eq_true rfl) (by decide) (by decide) (by omega) (by omega)) (LW_m) (by omega) (by omega) rfl (fun w9 u49 hp9 => ?_)
  obtain ⟨rfl, hu49⟩ := hp9
  change V X (k0 + 1) (n0 + 6) (u49 ++ ([(o, .inl (cy 6, aL 1 fl1)), (od, .inl (cy 7, aD 1 fd))] ++ ws1)) [some (.ref b), some (.ref f), some (.ref (ma 0)), some (.ref o), some (.ref od), some (.int (nI i)), some (.int (nI (kd 1 1 1 1 1 (qMib S.1 (xs (i + 1)))))), none, none] [.int (mvl (qMib S.1 (xs (i + 1))))] 2036
  refine V_perm (LW_m.symm) ?_
  refine r_istore (L' := [some (.ref b), some (.ref f), some (.ref (ma 0)), some (.ref o), some (.ref od), some (.int (nI i)), some (.int (nI (kd 1 1 1 1 1 (qMib S.1 (xs (i + 1)))))), some (.int (mvl (qMib S.1 (xs (i + 1))))), none]) (pc' := 2038) hX dL_law_2036 (nlt hnL (by decide)) rfl rfl rfl ?_
  refine r_aload_n (pc' := 2039) hX dL_law_2038 rfl rfl ?_
  refine V_call (k' := k0 + 1) (n' := n0 + 6) (pc' := 2042) (wr := ([(o, .inl (cy 6, aL 1 fl1)), (od, .inl (cy 7, aD 1 fd))] ++ ws1)) hX (r_runV (As := []) hX dL_law_2039 k_L_163 (fun l9 hl9 => cMw_thrown hu49) hG (MS_recv hu49) rfl rfl (Nat.le_of_ble_eq_true rfl) (by decide) (by decide) (by omega) (by omega)) (LW_m) (by omega) (by omega) rfl (fun w9 u50 hp9 => ?_)
  obtain ⟨rfl, hu50⟩ := hp9
  change V X (k0 + 1) (n0 + 6) (u50 ++ ([(o, .inl (cy 6, aL 1 fl1)), (od, .inl (cy 7, aD 1 fd))] ++ ws1)) [some (.ref b), some (.ref f), some (.ref (ma 0)), some (.ref o), some (.ref od), some (.int (nI i)), some (.int (nI (kd 1 1 1 1 1 (qMib S.1 (xs (i + 1)))))), some (.int (mvl (qMib S.1 (xs (i + 1))))), none] [.int (nI (kd 1 1 1 1 1 (qMib S.1 (xs (i + 1)))))] 2042
  refine V_perm (LW_m.symm) ?_
  refine r_iload (pc' := 2044) hX dL_law_2042 rfl rfl ?_
  have hkd := kd_lt (a := 1) (b := 1) (c := 1) (d := 1) (e := 1) (x := qMib S.1 (xs (i + 1))) rfl
  refine r_icmp_eq_N (tgt := 2049) (pc' := 2047) hX dL_law_2044 (by decide) rfl (by omega) (by omega) (fun c2044 => ?_) (fun c2044 => ?_)
  · refine r_iload (pc' := 2051) hX dL_law_2049 rfl rfl ?_
    refine r_if_ne_N (tgt := 2066) (pc' := 2054) hX dL_law_2051 (by decide) rfl (by omega) (fun c2051 => ?_) (fun c2051 => ?_)
    · have hq1 : (qMib S.1 (xs (i + 1))).toInt < 0 := by
        refine Classical.byContradiction fun h9 => c2051 (kd_pos (by omega))
      have hF1 := hN1 hq1
      refine r_goto (tgt := 2780) hX dL_law_2066 (by decide) ?_
      refine V_loc (L' := [some (.ref b), some (.ref f), some (.ref (ma 0)), some (.ref o), some (.ref od), some (.int (nI i)), none, none, none]) (lo_w ⟨.inr rfl, .inr rfl, .inr rfl, .inr rfl, .inr rfl, .inr rfl, .inl rfl, .inl rfl, .inr rfl, trivial⟩) ?_
      refine V_widen (k' := k0 + 23) (n' := n0 + 3450) (by omega) (by omega) ?_
      exact cont (S) _ _ _ _ _ (hF1) hu50 (hA.mono (by omega))
    · have hq0 : 0 ≤ (qMib S.1 (xs (i + 1))).toInt := by
        rcases hq9 with h9 | h9
        · exact h9
        · rw [h9] at c2051; exact absurd c2051 (by decide)
      obtain ⟨hF1, hfl1⟩ := hP1 hq0
      refine r_aload_n (pc' := 2055) hX dL_law_2054 rfl rfl ?_
      refine r_iconst (pc' := 2056) (v := nI 0) hX dL_law_2055 rfl rfl ?_
      refine r_lald (pc' := 2057) hX dL_law_2056 (by rw [hcy]) 0 rfl rfl ?_
      rw [hfl1]
      change V X (k0 + 1) (n0 + 6) (LW cy o od fl1 fd ws1 u50) [some (.ref b), some (.ref f), some (.ref (ma 0)), some (.ref o), some (.ref od), some (.int (nI i)), some (.int (nI (kd 1 1 1 1 1 (qMib S.1 (xs (i + 1)))))), some (.int (mvl (qMib S.1 (xs (i + 1))))), none] [.long ((qMib S.1 (xs (i + 1))).toInt64)] 2057
      refine r_iload (pc' := 2059) hX dL_law_2057 rfl rfl ?_
      rw [mvl_pos hq0]
      refine r_i2l (pc' := 2060) hX dL_law_2059 rfl rfl ?_
      refine r_lcmp0 (pc' := 2061) hX dL_law_2060 rfl ?_
      refine r_if_eq_N (tgt := 2066) (pc' := 2064) hX dL_law_2061 (by decide) rfl (by omega) (fun c2061 => ?_) (fun c2061 => ?_)
      · refine r_goto (tgt := 2780) hX dL_law_2066 (by decide) ?_
        refine V_loc (L' := [some (.ref b), some (.ref f), some (.ref (ma 0)), some (.ref o), some (.ref od), some (.int (nI i)), none, none, none]) (lo_w ⟨.inr rfl, .inr rfl, .inr rfl, .inr rfl, .inr rfl, .inr rfl, .inl rfl, .inl rfl, .inr rfl, trivial⟩) ?_
        refine V_widen (k' := k0 + 23) (n' := n0 + 3450) (by omega) (by omega) ?_
        exact cont (S) _ _ _ _ _ (hF1) hu50 (hA.mono (by omega))
      · exact absurd c2061 (by omega)
  · exact absurd c2044 (by omega)

set_option maxRecDepth 20000 in
set_option maxHeartbeats 1000000 in
theorem lc_34 {X : xC} {l : Launch} {D : va_G} {cy : Nat → ClassId} {sa : Nat → Nat} {mc ms k0 n0 f o od b L9 i K t : Nat} {ma : Nat → Nat} {xs : Nat → Int32} {S : AS} {fl : Nat → Int64} {fd : Nat → UInt64} {wf wm : va_W} (hX : Ok SF X cL_law RL 16 mc ms) (hG : c0_G X = (D, cy, sa)) (hcy : c0_cy X = cy) (hnL : c0_nL X = 9) (hl : c0_l X = l) (hst : l.stackTraces = false) (hScr : Scr X b L9 xs) (hi : i + 4 ≤ L9) (hL9 : L9 ≤ 2048) (hF : FS cy f S wf) (hM : MS cy ma S t wm) (hA : AJ K S) (hK : K + 61 ≤ 100000) (hk : k0 + 23 ≤ mc) (hn : n0 + 3450 ≤ ms) (cont : ∀ (S1 : AS) (t1 : Nat) (fl1 : Nat → Int64) (fd1 : Nat → UInt64) (wf1 wm1 : va_W), FS cy f S1 wf1 → MS cy ma S1 t1 wm1 → AJ (K + 61) S1 → V X (k0 + 23) (n0 + 3450) (LW cy o od fl1 fd1 wf1 wm1) [some (.ref b), some (.ref f), some (.ref (ma 0)), some (.ref o), some (.ref od), some (.int (nI i)), none, none, none] [] 2780) : V X k0 n0 (LW cy o od fl fd wf wm) [some (.ref b), some (.ref f), some (.ref (ma 0)), some (.ref o), some (.ref od), some (.int (nI i)), none, none, none] [] 2069 := by
  have hv : Wf S.1 := hA.1.1.1.1
  have hInv : Inv K S.1 := hA.1.1.1
  have hFB := hA.1.1.2
  have hq9 : 0 ≤ (qRnk S.1 (xs (i + 1))).toInt ∨ (qRnk S.1 (xs (i + 1))) = -5 := qRnk_q hv
  have hkk : kd 0 0 0 0 1 (qRnk S.1 (xs (i + 1))) = kd 1 1 1 1 1 (qRnk S.1 (xs (i + 1))) := by
    rcases hq9 with h9 | h9
    · rw [kd_pos h9, kd_pos h9]
    · rw [h9]; rfl
  refine r_aload_n (pc' := 2070) hX dL_law_2069 rfl rfl ?_
  refine r_aload_n (pc' := 2071) hX dL_law_2070 rfl rfl ?_
  refine r_iload (pc' := 2073) hX dL_law_2071 rfl rfl ?_
  refine r_iconst (pc' := 2074) (v := nI 1) hX dL_law_2073 rfl rfl ?_
  refine r_iadd_N (pc' := 2075) hX dL_law_2074  rfl ?_
  refine r_sld (pc' := 2076) hX dL_law_2075 hScr (by omega) hL9 rfl ?_
  refine r_aload_n (pc' := 2077) hX dL_law_2076 rfl rfl ?_
  refine V_call (k' := k0 + 1) (n' := n0 + 6) (pc' := 2080) (wr := ([(od, .inl (cy 7, aD 1 fd))] ++ wm)) hX (r_runSW (As := [.ref f, .int (xs (i + 1)), .ref o]) hX dL_law_2077 kw_L_272 (fun l9 hl9 => by cases hl9; exact cW_batchBySqueak (v := S.1) rfl hF hA.1 (hst := (by rw [hl]; exact hst)) (hq := hq9) ) hG rfl rfl (Nat.le_of_ble_eq_true rfl) (by decide) (by decide) (by omega) (by omega)) (LW_c) (by omega) (by omega) rfl (fun w9 u9 hp9 => ?_)
  obtain ⟨fl1, ws1, rfl, rfl, hP1, hN1⟩ := hp9
  rw [hkk]
  change V X (k0 + 1) (n0 + 6) (([(o, .inl (cy 6, aL 1 fl1))] ++ ws1) ++ ([(od, .inl (cy 7, aD 1 fd))] ++ wm)) [some (.ref b), some (.ref f), some (.ref (ma 0)), some (.ref o), some (.ref od), some (.int (nI i)), none, none, none] [.int (nI (kd 1 1 1 1 1 (qRnk S.1 (xs (i + 1)))))] 2080
  refine V_perm (LW_c.symm) ?_
  refine r_istore (L' := [some (.ref b), some (.ref f), some (.ref (ma 0)), some (.ref o), some (.ref od), some (.int (nI i)), some (.int (nI (kd 1 1 1 1 1 (qRnk S.1 (xs (i + 1)))))), none, none]) (pc' := 2082) hX dL_law_2080 (nlt hnL (by decide)) rfl rfl rfl ?_
  refine r_aload_n (pc' := 2083) hX dL_law_2082 rfl rfl ?_
  refine r_aload_n (pc' := 2084) hX dL_law_2083 rfl rfl ?_
  refine r_iload (pc' := 2086) hX dL_law_2084 rfl rfl ?_
  refine r_iconst (pc' := 2087) (v := nI 1) hX dL_law_2086 rfl rfl ?_
  refine r_iadd_N (pc' := 2088) hX dL_law_2087  rfl ?_
  refine r_sld (pc' := 2089) hX dL_law_2088 hScr (by omega) hL9 rfl ?_
  refine V_call (k' := k0 + 1) (n' := n0 + 6) (pc' := 2092) (wr := ([(o, .inl (cy 6, aL 1 fl1)), (od, .inl (cy 7, aD 1 fd))] ++ ws1)) hX (r_runV (As := [.int (xs (i + 1))]) hX dL_law_2089 k_L_274 (fun l9 hl9 => cMw_batchBySqueak (v := S.1) rfl hM hv (x := (xs (i + 1)))) hG (MS_recv hM) rfl rfl (Nat.le_of_ble_eq_true rfl) (by decide) (by decide) (by omega) (by omega)) (LW_m) (by omega) (by omega) rfl (fun w9 u51 hp9 => ?_)
  obtain ⟨rfl, hu51⟩ := hp9
  change V X (k0 + 1) (n0 + 6) (u51 ++ ([(o, .inl (cy 6, aL 1 fl1)), (od, .inl (cy 7, aD 1 fd))] ++ ws1)) [some (.ref b), some (.ref f), some (.ref (ma 0)), some (.ref o), some (.ref od), some (.int (nI i)), some (.int (nI (kd 1 1 1 1 1 (qRnk S.1 (xs (i + 1)))))), none, none] [.int (mvl (qRnk S.1 (xs (i + 1))))] 2092
  refine V_perm (LW_m.symm) ?_
  refine r_istore (L' := [some (.ref b), some (.ref f), some (.ref (ma 0)), some (.ref o), some (.ref od), some (.int (nI i)), some (.int (nI (kd 1 1 1 1 1 (qRnk S.1 (xs (i + 1)))))), some (.int (mvl (qRnk S.1 (xs (i + 1))))), none]) (pc' := 2094) hX dL_law_2092 (nlt hnL (by decide)) rfl rfl rfl ?_
  refine r_aload_n (pc' := 2095) hX dL_law_2094 rfl rfl ?_
  refine V_call (k' := k0 + 1) (n' := n0 + 6) (pc' := 2098) (wr := ([(o, .inl (cy 6, aL 1 fl1)), (od, .inl (cy 7, aD 1 fd))] ++ ws1)) hX (r_runV (As := []) hX dL_law_2095 k_L_163 (fun l9 hl9 => cMw_thrown hu51) hG (MS_recv hu51) rfl rfl (Nat.le_of_ble_eq_true rfl) (by decide) (by decide) (by omega) (by omega)) (LW_m) (by omega) (by omega) rfl (fun w9 u52 hp9 => ?_)
  obtain ⟨rfl, hu52⟩ := hp9
  change V X (k0 + 1) (n0 + 6) (u52 ++ ([(o, .inl (cy 6, aL 1 fl1)), (od, .inl (cy 7, aD 1 fd))] ++ ws1)) [some (.ref b), some (.ref f), some (.ref (ma 0)), some (.ref o), some (.ref od), some (.int (nI i)), some (.int (nI (kd 1 1 1 1 1 (qRnk S.1 (xs (i + 1)))))), some (.int (mvl (qRnk S.1 (xs (i + 1))))), none] [.int (nI (kd 1 1 1 1 1 (qRnk S.1 (xs (i + 1)))))] 2098
  refine V_perm (LW_m.symm) ?_
  refine r_iload (pc' := 2100) hX dL_law_2098 rfl rfl ?_
  have hkd := kd_lt (a := 1) (b := 1) (c := 1) (d := 1) (e := 1) (x := qRnk S.1 (xs (i + 1))) rfl
  refine r_icmp_eq_N (tgt := 2105) (pc' := 2103) hX dL_law_2100 (by decide) rfl (by omega) (by omega) (fun c2100 => ?_) (fun c2100 => ?_)
  · refine r_iload (pc' := 2107) hX dL_law_2105 rfl rfl ?_
    refine r_if_ne_N (tgt := 2122) (pc' := 2110) hX dL_law_2107 (by decide) rfl (by omega) (fun c2107 => ?_) (fun c2107 => ?_)
    · have hq1 : (qRnk S.1 (xs (i + 1))).toInt < 0 := by
        refine Classical.byContradiction fun h9 => c2107 (kd_pos (by omega))
      have hF1 := hN1 hq1
      refine r_goto (tgt := 2780) hX dL_law_2122 (by decide) ?_
      refine V_loc (L' := [some (.ref b), some (.ref f), some (.ref (ma 0)), some (.ref o), some (.ref od), some (.int (nI i)), none, none, none]) (lo_w ⟨.inr rfl, .inr rfl, .inr rfl, .inr rfl, .inr rfl, .inr rfl, .inl rfl, .inl rfl, .inr rfl, trivial⟩) ?_
      refine V_widen (k' := k0 + 23) (n' := n0 + 3450) (by omega) (by omega) ?_
      exact cont (S) _ _ _ _ _ (hF1) hu52 (hA.mono (by omega))
    · have hq0 : 0 ≤ (qRnk S.1 (xs (i + 1))).toInt := by
        rcases hq9 with h9 | h9
        · exact h9
        · rw [h9] at c2107; exact absurd c2107 (by decide)
      obtain ⟨hF1, hfl1⟩ := hP1 hq0
      refine r_aload_n (pc' := 2111) hX dL_law_2110 rfl rfl ?_
      refine r_iconst (pc' := 2112) (v := nI 0) hX dL_law_2111 rfl rfl ?_
      refine r_lald (pc' := 2113) hX dL_law_2112 (by rw [hcy]) 0 rfl rfl ?_
      rw [hfl1]
      change V X (k0 + 1) (n0 + 6) (LW cy o od fl1 fd ws1 u52) [some (.ref b), some (.ref f), some (.ref (ma 0)), some (.ref o), some (.ref od), some (.int (nI i)), some (.int (nI (kd 1 1 1 1 1 (qRnk S.1 (xs (i + 1)))))), some (.int (mvl (qRnk S.1 (xs (i + 1))))), none] [.long ((qRnk S.1 (xs (i + 1))).toInt64)] 2113
      refine r_iload (pc' := 2115) hX dL_law_2113 rfl rfl ?_
      rw [mvl_pos hq0]
      refine r_i2l (pc' := 2116) hX dL_law_2115 rfl rfl ?_
      refine r_lcmp0 (pc' := 2117) hX dL_law_2116 rfl ?_
      refine r_if_eq_N (tgt := 2122) (pc' := 2120) hX dL_law_2117 (by decide) rfl (by omega) (fun c2117 => ?_) (fun c2117 => ?_)
      · refine r_goto (tgt := 2780) hX dL_law_2122 (by decide) ?_
        refine V_loc (L' := [some (.ref b), some (.ref f), some (.ref (ma 0)), some (.ref o), some (.ref od), some (.int (nI i)), none, none, none]) (lo_w ⟨.inr rfl, .inr rfl, .inr rfl, .inr rfl, .inr rfl, .inr rfl, .inl rfl, .inl rfl, .inr rfl, trivial⟩) ?_
        refine V_widen (k' := k0 + 23) (n' := n0 + 3450) (by omega) (by omega) ?_
        exact cont (S) _ _ _ _ _ (hF1) hu52 (hA.mono (by omega))
      · exact absurd c2117 (by omega)
  · exact absurd c2100 (by omega)

set_option maxRecDepth 20000 in
set_option maxHeartbeats 1000000 in
theorem lc_38 {X : xC} {l : Launch} {D : va_G} {cy : Nat → ClassId} {sa : Nat → Nat} {mc ms k0 n0 f o od b L9 i K t : Nat} {ma : Nat → Nat} {xs : Nat → Int32} {S : AS} {fl : Nat → Int64} {fd : Nat → UInt64} {wf wm : va_W} (hX : Ok SF X cL_law RL 16 mc ms) (hG : c0_G X = (D, cy, sa)) (hcy : c0_cy X = cy) (hnL : c0_nL X = 9) (hl : c0_l X = l) (hst : l.stackTraces = false) (hScr : Scr X b L9 xs) (hi : i + 4 ≤ L9) (hL9 : L9 ≤ 2048) (hF : FS cy f S wf) (hM : MS cy ma S t wm) (hA : AJ K S) (hK : K + 61 ≤ 100000) (hk : k0 + 23 ≤ mc) (hn : n0 + 3450 ≤ ms) (cont : ∀ (S1 : AS) (t1 : Nat) (fl1 : Nat → Int64) (fd1 : Nat → UInt64) (wf1 wm1 : va_W), FS cy f S1 wf1 → MS cy ma S1 t1 wm1 → AJ (K + 61) S1 → V X (k0 + 23) (n0 + 3450) (LW cy o od fl1 fd1 wf1 wm1) [some (.ref b), some (.ref f), some (.ref (ma 0)), some (.ref o), some (.ref od), some (.int (nI i)), none, none, none] [] 2780) : V X k0 n0 (LW cy o od fl fd wf wm) [some (.ref b), some (.ref f), some (.ref (ma 0)), some (.ref o), some (.ref od), some (.int (nI i)), none, none, none] [] 2164 := by
  have hv : Wf S.1 := hA.1.1.1.1
  have hInv : Inv K S.1 := hA.1.1.1
  have hFB := hA.1.1.2
  have hq9 : 0 ≤ (qMet 6 S.1 (xs (i + 1))).toInt ∨ (qMet 6 S.1 (xs (i + 1))) = -1 := qLo_q hInv (by omega)
  have hkk : kd 1 0 0 0 0 (qMet 6 S.1 (xs (i + 1))) = kd 1 1 1 1 1 (qMet 6 S.1 (xs (i + 1))) := by
    rcases hq9 with h9 | h9
    · rw [kd_pos h9, kd_pos h9]
    · rw [h9]; rfl
  refine r_aload_n (pc' := 2165) hX dL_law_2164 rfl rfl ?_
  refine r_aload_n (pc' := 2166) hX dL_law_2165 rfl rfl ?_
  refine r_iload (pc' := 2168) hX dL_law_2166 rfl rfl ?_
  refine r_iconst (pc' := 2169) (v := nI 1) hX dL_law_2168 rfl rfl ?_
  refine r_iadd_N (pc' := 2170) hX dL_law_2169  rfl ?_
  refine r_sld (pc' := 2171) hX dL_law_2170 hScr (by omega) hL9 rfl ?_
  refine r_aload_n (pc' := 2172) hX dL_law_2171 rfl rfl ?_
  refine V_call (k' := k0 + 1) (n' := n0 + 6) (pc' := 2175) (wr := ([(od, .inl (cy 7, aD 1 fd))] ++ wm)) hX (r_runSW (As := [.ref f, .int (xs (i + 1)), .ref o]) hX dL_law_2172 kw_L_287 (fun l9 hl9 => by cases hl9; exact cW_lostGrams (v := S.1) rfl hF hA.1 (hst := (by rw [hl]; exact hst)) (hq := hq9) ) hG rfl rfl (Nat.le_of_ble_eq_true rfl) (by decide) (by decide) (by omega) (by omega)) (LW_c) (by omega) (by omega) rfl (fun w9 u9 hp9 => ?_)
  obtain ⟨fl1, ws1, rfl, rfl, hP1, hN1⟩ := hp9
  rw [hkk]
  change V X (k0 + 1) (n0 + 6) (([(o, .inl (cy 6, aL 1 fl1))] ++ ws1) ++ ([(od, .inl (cy 7, aD 1 fd))] ++ wm)) [some (.ref b), some (.ref f), some (.ref (ma 0)), some (.ref o), some (.ref od), some (.int (nI i)), none, none, none] [.int (nI (kd 1 1 1 1 1 (qMet 6 S.1 (xs (i + 1)))))] 2175
  refine V_perm (LW_c.symm) ?_
  refine r_istore (L' := [some (.ref b), some (.ref f), some (.ref (ma 0)), some (.ref o), some (.ref od), some (.int (nI i)), some (.int (nI (kd 1 1 1 1 1 (qMet 6 S.1 (xs (i + 1)))))), none, none]) (pc' := 2177) hX dL_law_2175 (nlt hnL (by decide)) rfl rfl rfl ?_
  refine r_aload_n (pc' := 2178) hX dL_law_2177 rfl rfl ?_
  refine r_aload_n (pc' := 2179) hX dL_law_2178 rfl rfl ?_
  refine r_iload (pc' := 2181) hX dL_law_2179 rfl rfl ?_
  refine r_iconst (pc' := 2182) (v := nI 1) hX dL_law_2181 rfl rfl ?_
  refine r_iadd_N (pc' := 2183) hX dL_law_2182  rfl ?_
  refine r_sld (pc' := 2184) hX dL_law_2183 hScr (by omega) hL9 rfl ?_
  refine V_call (k' := k0 + 1) (n' := n0 + 6) (pc' := 2187) (wr := ([(o, .inl (cy 6, aL 1 fl1)), (od, .inl (cy 7, aD 1 fd))] ++ ws1)) hX (r_runV (As := [.int (xs (i + 1))]) hX dL_law_2184 k_L_289 (fun l9 hl9 => cMw_lostGrams (v := S.1) rfl hM hv (hlo := lo_lt hInv (by omega)) (x := (xs (i + 1)))) hG (MS_recv hM) rfl rfl (Nat.le_of_ble_eq_true rfl) (by decide) (by decide) (by omega) (by omega)) (LW_m) (by omega) (by omega) rfl (fun w9 u53 hp9 => ?_)
  obtain ⟨rfl, hu53⟩ := hp9
  change V X (k0 + 1) (n0 + 6) (u53 ++ ([(o, .inl (cy 6, aL 1 fl1)), (od, .inl (cy 7, aD 1 fd))] ++ ws1)) [some (.ref b), some (.ref f), some (.ref (ma 0)), some (.ref o), some (.ref od), some (.int (nI i)), some (.int (nI (kd 1 1 1 1 1 (qMet 6 S.1 (xs (i + 1)))))), none, none] [.int (mvl (qMet 6 S.1 (xs (i + 1))))] 2187
  refine V_perm (LW_m.symm) ?_
  refine r_istore (L' := [some (.ref b), some (.ref f), some (.ref (ma 0)), some (.ref o), some (.ref od), some (.int (nI i)), some (.int (nI (kd 1 1 1 1 1 (qMet 6 S.1 (xs (i + 1)))))), some (.int (mvl (qMet 6 S.1 (xs (i + 1))))), none]) (pc' := 2189) hX dL_law_2187 (nlt hnL (by decide)) rfl rfl rfl ?_
  refine r_aload_n (pc' := 2190) hX dL_law_2189 rfl rfl ?_
  refine V_call (k' := k0 + 1) (n' := n0 + 6) (pc' := 2193) (wr := ([(o, .inl (cy 6, aL 1 fl1)), (od, .inl (cy 7, aD 1 fd))] ++ ws1)) hX (r_runV (As := []) hX dL_law_2190 k_L_163 (fun l9 hl9 => cMw_thrown hu53) hG (MS_recv hu53) rfl rfl (Nat.le_of_ble_eq_true rfl) (by decide) (by decide) (by omega) (by omega)) (LW_m) (by omega) (by omega) rfl (fun w9 u54 hp9 => ?_)
  obtain ⟨rfl, hu54⟩ := hp9
  change V X (k0 + 1) (n0 + 6) (u54 ++ ([(o, .inl (cy 6, aL 1 fl1)), (od, .inl (cy 7, aD 1 fd))] ++ ws1)) [some (.ref b), some (.ref f), some (.ref (ma 0)), some (.ref o), some (.ref od), some (.int (nI i)), some (.int (nI (kd 1 1 1 1 1 (qMet 6 S.1 (xs (i + 1)))))), some (.int (mvl (qMet 6 S.1 (xs (i + 1))))), none] [.int (nI (kd 1 1 1 1 1 (qMet 6 S.1 (xs (i + 1)))))] 2193
  refine V_perm (LW_m.symm) ?_
  refine r_iload (pc' := 2195) hX dL_law_2193 rfl rfl ?_
  have hkd := kd_lt (a := 1) (b := 1) (c := 1) (d := 1) (e := 1) (x := qMet 6 S.1 (xs (i + 1))) rfl
  refine r_icmp_eq_N (tgt := 2200) (pc' := 2198) hX dL_law_2195 (by decide) rfl (by omega) (by omega) (fun c2195 => ?_) (fun c2195 => ?_)
  · refine r_iload (pc' := 2202) hX dL_law_2200 rfl rfl ?_
    refine r_if_ne_N (tgt := 2217) (pc' := 2205) hX dL_law_2202 (by decide) rfl (by omega) (fun c2202 => ?_) (fun c2202 => ?_)
    · have hq1 : (qMet 6 S.1 (xs (i + 1))).toInt < 0 := by
        refine Classical.byContradiction fun h9 => c2202 (kd_pos (by omega))
      have hF1 := hN1 hq1
      refine r_goto (tgt := 2780) hX dL_law_2217 (by decide) ?_
      refine V_loc (L' := [some (.ref b), some (.ref f), some (.ref (ma 0)), some (.ref o), some (.ref od), some (.int (nI i)), none, none, none]) (lo_w ⟨.inr rfl, .inr rfl, .inr rfl, .inr rfl, .inr rfl, .inr rfl, .inl rfl, .inl rfl, .inr rfl, trivial⟩) ?_
      refine V_widen (k' := k0 + 23) (n' := n0 + 3450) (by omega) (by omega) ?_
      exact cont (S) _ _ _ _ _ (hF1) hu54 (hA.mono (by omega))
    · have hq0 : 0 ≤ (qMet 6 S.1 (xs (i + 1))).toInt := by
        rcases hq9 with h9 | h9
        · exact h9
        · rw [h9] at c2202; exact absurd c2202 (by decide)
      obtain ⟨hF1, hfl1⟩ := hP1 hq0
      refine r_aload_n (pc' := 2206) hX dL_law_2205 rfl rfl ?_
      refine r_iconst (pc' := 2207) (v := nI 0) hX dL_law_2206 rfl rfl ?_
      refine r_lald (pc' := 2208) hX dL_law_2207 (by rw [hcy]) 0 rfl rfl ?_
      rw [hfl1]
      change V X (k0 + 1) (n0 + 6) (LW cy o od fl1 fd ws1 u54) [some (.ref b), some (.ref f), some (.ref (ma 0)), some (.ref o), some (.ref od), some (.int (nI i)), some (.int (nI (kd 1 1 1 1 1 (qMet 6 S.1 (xs (i + 1)))))), some (.int (mvl (qMet 6 S.1 (xs (i + 1))))), none] [.long ((qMet 6 S.1 (xs (i + 1))).toInt64)] 2208
      refine r_iload (pc' := 2210) hX dL_law_2208 rfl rfl ?_
      rw [mvl_pos hq0]
      refine r_i2l (pc' := 2211) hX dL_law_2210 rfl rfl ?_
      refine r_lcmp0 (pc' := 2212) hX dL_law_2211 rfl ?_
      refine r_if_eq_N (tgt := 2217) (pc' := 2215) hX dL_law_2212 (by decide) rfl (by omega) (fun c2212 => ?_) (fun c2212 => ?_)
      · refine r_goto (tgt := 2780) hX dL_law_2217 (by decide) ?_
        refine V_loc (L' := [some (.ref b), some (.ref f), some (.ref (ma 0)), some (.ref o), some (.ref od), some (.int (nI i)), none, none, none]) (lo_w ⟨.inr rfl, .inr rfl, .inr rfl, .inr rfl, .inr rfl, .inr rfl, .inl rfl, .inl rfl, .inr rfl, trivial⟩) ?_
        refine V_widen (k' := k0 + 23) (n' := n0 + 3450) (by omega) (by omega) ?_
        exact cont (S) _ _ _ _ _ (hF1) hu54 (hA.mono (by omega))
      · exact absurd c2212 (by omega)
  · exact absurd c2195 (by omega)
