set_option maxRecDepth 20000 in
set_option maxHeartbeats 1000000 in
theorem lc_0 {X : xC} {l : Launch} {D : va_G} {cy : Nat → ClassId} {sa : Nat → Nat} {mc ms k0 n0 f o od b L9 i K t : Nat} {ma : Nat → Nat} {xs : Nat → Int32} {S : AS} {fl : Nat → Int64} {fd : Nat → UInt64} {wf wm : va_W} (hX : Ok SF X cL_law RL 16 mc ms) (hG : c0_G X = (D, cy, sa)) (hcy : c0_cy X = cy) (hnL : c0_nL X = 9) (hl : c0_l X = l) (hst : l.stackTraces = false) (hScr : Scr X b L9 xs) (hi : i + 4 ≤ L9) (hL9 : L9 ≤ 2048) (hF : FS cy f S wf) (hM : MS cy ma S t wm) (hA : AJ K S) (hK : K + 61 ≤ 100000) (hk : k0 + 23 ≤ mc) (hn : n0 + 3450 ≤ ms) (cont : ∀ (S1 : AS) (t1 : Nat) (fl1 : Nat → Int64) (fd1 : Nat → UInt64) (wf1 wm1 : va_W), FS cy f S1 wf1 → MS cy ma S1 t1 wm1 → AJ (K + 61) S1 → V X (k0 + 23) (n0 + 3450) (LW cy o od fl1 fd1 wf1 wm1) [some (.ref b), some (.ref f), some (.ref (ma 0)), some (.ref o), some (.ref od), some (.int (nI i)), none, none, none] [] 2780) : V X k0 n0 (LW cy o od fl fd wf wm) [some (.ref b), some (.ref f), some (.ref (ma 0)), some (.ref o), some (.ref od), some (.int (nI i)), none, none, none] [] 268 := by
  have hv : Wf S.1 := hA.1.1.1.1
  have hInv : Inv K S.1 := hA.1.1.1
  have hFB := hA.1.1.2
  have hq9 : 0 ≤ ((oMix S.1 (xs (i + 1)) (xs (i + 2)) (xs (i + 3))).1).toInt ∨ ((oMix S.1 (xs (i + 1)) (xs (i + 2)) (xs (i + 3))).1) = -2 ∨ ((oMix S.1 (xs (i + 1)) (xs (i + 2)) (xs (i + 3))).1) = -3 := (by
    rcases CO_cases (oMix_co hv (x := (xs (i + 1))) (y := (xs (i + 2))) (z := (xs (i + 3)))) with h9 | ⟨h9, g9⟩ | ⟨h9, g9⟩ | ⟨h9, g9⟩ | ⟨h9, g9⟩ | ⟨h9, g9⟩
    all_goals first | exact absurd rfl g9 | exact Or.inl h9 | exact Or.inr (Or.inl h9) | exact Or.inr (Or.inr (h9)))
  refine r_aload_n (pc' := 269) hX dL_law_268 rfl rfl ?_
  refine r_aload_n (pc' := 270) hX dL_law_269 rfl rfl ?_
  refine r_iload (pc' := 272) hX dL_law_270 rfl rfl ?_
  refine r_iconst (pc' := 273) (v := nI 1) hX dL_law_272 rfl rfl ?_
  refine r_iadd_N (pc' := 274) hX dL_law_273  rfl ?_
  refine r_sld (pc' := 275) hX dL_law_274 hScr (by omega) hL9 rfl ?_
  refine r_aload_n (pc' := 276) hX dL_law_275 rfl rfl ?_
  refine r_iload (pc' := 278) hX dL_law_276 rfl rfl ?_
  refine r_iconst (pc' := 279) (v := nI 2) hX dL_law_278 rfl rfl ?_
  refine r_iadd_N (pc' := 280) hX dL_law_279  rfl ?_
  refine r_sld (pc' := 281) hX dL_law_280 hScr (by omega) hL9 rfl ?_
  refine r_aload_n (pc' := 282) hX dL_law_281 rfl rfl ?_
  refine r_iload (pc' := 284) hX dL_law_282 rfl rfl ?_
  refine r_iconst (pc' := 285) (v := nI 3) hX dL_law_284 rfl rfl ?_
  refine r_iadd_N (pc' := 286) hX dL_law_285  rfl ?_
  refine r_sld (pc' := 287) hX dL_law_286 hScr (by omega) hL9 rfl ?_
  refine r_aload_n (pc' := 288) hX dL_law_287 rfl rfl ?_
  refine V_call (k' := k0 + 1) (n' := n0 + 6) (pc' := 291) (wr := ([(od, .inl (cy 7, aD 1 fd))] ++ wm)) hX (r_runSW (As := [.ref f, .int (xs (i + 1)), .int (xs (i + 2)), .int (xs (i + 3)), .ref o]) hX dL_law_288 kw_L_157 (fun l9 hl9 => by cases hl9; exact cW_addAlloy (v := S.1) rfl hF hA.1 (hst := (by rw [hl]; exact hst)) (hq := hq9) ) hG rfl rfl (Nat.le_of_ble_eq_true rfl) (by decide) (by decide) (by omega) (by omega)) (LW_c) (by omega) (by omega) rfl (fun w9 u9 hp9 => ?_)
  obtain ⟨fl1, ws1, rfl, rfl, hP1, hN1⟩ := hp9
  change V X (k0 + 1) (n0 + 6) (([(o, .inl (cy 6, aL 1 fl1))] ++ ws1) ++ ([(od, .inl (cy 7, aD 1 fd))] ++ wm)) [some (.ref b), some (.ref f), some (.ref (ma 0)), some (.ref o), some (.ref od), some (.int (nI i)), none, none, none] [.int (nI (kd 0 1 2 0 0 ((oMix S.1 (xs (i + 1)) (xs (i + 2)) (xs (i + 3))).1)))] 291
  refine V_perm (LW_c.symm) ?_
  refine r_istore (L' := [some (.ref b), some (.ref f), some (.ref (ma 0)), some (.ref o), some (.ref od), some (.int (nI i)), some (.int (nI (kd 0 1 2 0 0 ((oMix S.1 (xs (i + 1)) (xs (i + 2)) (xs (i + 3))).1)))), none, none]) (pc' := 293) hX dL_law_291 (nlt hnL (by decide)) rfl rfl rfl ?_
  refine r_aload_n (pc' := 294) hX dL_law_293 rfl rfl ?_
  refine r_aload_n (pc' := 295) hX dL_law_294 rfl rfl ?_
  refine r_iload (pc' := 297) hX dL_law_295 rfl rfl ?_
  refine r_iconst (pc' := 298) (v := nI 1) hX dL_law_297 rfl rfl ?_
  refine r_iadd_N (pc' := 299) hX dL_law_298  rfl ?_
  refine r_sld (pc' := 300) hX dL_law_299 hScr (by omega) hL9 rfl ?_
  refine r_aload_n (pc' := 301) hX dL_law_300 rfl rfl ?_
  refine r_iload (pc' := 303) hX dL_law_301 rfl rfl ?_
  refine r_iconst (pc' := 304) (v := nI 2) hX dL_law_303 rfl rfl ?_
  refine r_iadd_N (pc' := 305) hX dL_law_304  rfl ?_
  refine r_sld (pc' := 306) hX dL_law_305 hScr (by omega) hL9 rfl ?_
  refine r_aload_n (pc' := 307) hX dL_law_306 rfl rfl ?_
  refine r_iload (pc' := 309) hX dL_law_307 rfl rfl ?_
  refine r_iconst (pc' := 310) (v := nI 3) hX dL_law_309 rfl rfl ?_
  refine r_iadd_N (pc' := 311) hX dL_law_310  rfl ?_
  refine r_sld (pc' := 312) hX dL_law_311 hScr (by omega) hL9 rfl ?_
  refine V_call (k' := k0 + 1) (n' := n0 + 6) (pc' := 315) (wr := ([(o, .inl (cy 6, aL 1 fl1)), (od, .inl (cy 7, aD 1 fd))] ++ ws1)) hX (r_runV (As := [.int (xs (i + 1)), .int (xs (i + 2)), .int (xs (i + 3))]) hX dL_law_312 k_L_162 (fun l9 hl9 => cMw_addAlloy hM hv (x := (xs (i + 1))) (y := (xs (i + 2))) (z := (xs (i + 3)))) hG (MS_recv hM) rfl rfl (Nat.le_of_ble_eq_true rfl) (by decide) (by decide) (by omega) (by omega)) (LW_m) (by omega) (by omega) rfl (fun w9 u1 hp9 => ?_)
  obtain ⟨rfl, hu1⟩ := hp9
  change V X (k0 + 1) (n0 + 6) (u1 ++ ([(o, .inl (cy 6, aL 1 fl1)), (od, .inl (cy 7, aD 1 fd))] ++ ws1)) [some (.ref b), some (.ref f), some (.ref (ma 0)), some (.ref o), some (.ref od), some (.int (nI i)), some (.int (nI (kd 0 1 2 0 0 ((oMix S.1 (xs (i + 1)) (xs (i + 2)) (xs (i + 3))).1)))), none, none] [.int (mvl ((oMix S.1 (xs (i + 1)) (xs (i + 2)) (xs (i + 3))).1))] 315
  refine V_perm (LW_m.symm) ?_
  refine r_istore (L' := [some (.ref b), some (.ref f), some (.ref (ma 0)), some (.ref o), some (.ref od), some (.int (nI i)), some (.int (nI (kd 0 1 2 0 0 ((oMix S.1 (xs (i + 1)) (xs (i + 2)) (xs (i + 3))).1)))), some (.int (mvl ((oMix S.1 (xs (i + 1)) (xs (i + 2)) (xs (i + 3))).1))), none]) (pc' := 317) hX dL_law_315 (nlt hnL (by decide)) rfl rfl rfl ?_
  refine r_aload_n (pc' := 318) hX dL_law_317 rfl rfl ?_
  refine V_call (k' := k0 + 1) (n' := n0 + 6) (pc' := 321) (wr := ([(o, .inl (cy 6, aL 1 fl1)), (od, .inl (cy 7, aD 1 fd))] ++ ws1)) hX (r_runV (As := []) hX dL_law_318 k_L_163 (fun l9 hl9 => cMw_thrown hu1) hG (MS_recv hu1) rfl rfl (Nat.le_of_ble_eq_true rfl) (by decide) (by decide) (by omega) (by omega)) (LW_m) (by omega) (by omega) rfl (fun w9 u2 hp9 => ?_)
  obtain ⟨rfl, hu2⟩ := hp9
  change V X (k0 + 1) (n0 + 6) (u2 ++ ([(o, .inl (cy 6, aL 1 fl1)), (od, .inl (cy 7, aD 1 fd))] ++ ws1)) [some (.ref b), some (.ref f), some (.ref (ma 0)), some (.ref o), some (.ref od), some (.int (nI i)), some (.int (nI (kd 0 1 2 0 0 ((oMix S.1 (xs (i + 1)) (xs (i + 2)) (xs (i + 3))).1)))), some (.int (mvl ((oMix S.1 (xs (i + 1)) (xs (i + 2)) (xs (i + 3))).1))), none] [.int (nI (kd 0 1 2 0 0 ((oMix S.1 (xs (i + 1)) (xs (i + 2)) (xs (i + 3))).1)))] 321
  refine V_perm (LW_m.symm) ?_
  refine r_iload (pc' := 323) hX dL_law_321 rfl rfl ?_
  have hkd := kd_lt (a := 0) (b := 1) (c := 2) (d := 0) (e := 0) (x := (oMix S.1 (xs (i + 1)) (xs (i + 2)) (xs (i + 3))).1) rfl
  refine r_icmp_eq_N (tgt := 328) (pc' := 326) hX dL_law_323 (by decide) rfl (by omega) (by omega) (fun c323 => ?_) (fun c323 => ?_)
  · refine r_iload (pc' := 330) hX dL_law_328 rfl rfl ?_
    refine r_if_ne_N (tgt := 345) (pc' := 333) hX dL_law_330 (by decide) rfl (by omega) (fun c330 => ?_) (fun c330 => ?_)
    · have hq1 : ((oMix S.1 (xs (i + 1)) (xs (i + 2)) (xs (i + 3))).1).toInt < 0 := by
        refine Classical.byContradiction fun h9 => c330 (kd_pos (by omega))
      have hF1 := hN1 hq1
      refine r_goto (tgt := 2780) hX dL_law_345 (by decide) ?_
      refine V_loc (L' := [some (.ref b), some (.ref f), some (.ref (ma 0)), some (.ref o), some (.ref od), some (.int (nI i)), none, none, none]) (lo_w ⟨.inr rfl, .inr rfl, .inr rfl, .inr rfl, .inr rfl, .inr rfl, .inl rfl, .inl rfl, .inr rfl, trivial⟩) ?_
      refine V_widen (k' := k0 + 23) (n' := n0 + 3450) (by omega) (by omega) ?_
      exact cont (aMut S (oMix S.1 (xs (i + 1)) (xs (i + 2)) (xs (i + 3)))) _ _ _ _ _ (by unfold aMut; rw [if_pos hq1]; exact hF1) hu2 ((hA.mut ⟨oMix_inv hInv, oMix_fb hFB hv⟩).mono (by omega))
    · have hq0 : 0 ≤ ((oMix S.1 (xs (i + 1)) (xs (i + 2)) (xs (i + 3))).1).toInt := by
        rcases hq9 with h9 | h9 | h9
        · exact h9
        · rw [h9] at c330; exact absurd c330 (by decide)
        · rw [h9] at c330; exact absurd c330 (by decide)
      obtain ⟨hF1, hfl1⟩ := hP1 hq0
      refine r_aload_n (pc' := 334) hX dL_law_333 rfl rfl ?_
      refine r_iconst (pc' := 335) (v := nI 0) hX dL_law_334 rfl rfl ?_
      refine r_lald (pc' := 336) hX dL_law_335 (by rw [hcy]) 0 rfl rfl ?_
      rw [hfl1]
      change V X (k0 + 1) (n0 + 6) (LW cy o od fl1 fd ws1 u2) [some (.ref b), some (.ref f), some (.ref (ma 0)), some (.ref o), some (.ref od), some (.int (nI i)), some (.int (nI (kd 0 1 2 0 0 ((oMix S.1 (xs (i + 1)) (xs (i + 2)) (xs (i + 3))).1)))), some (.int (mvl ((oMix S.1 (xs (i + 1)) (xs (i + 2)) (xs (i + 3))).1))), none] [.long (((oMix S.1 (xs (i + 1)) (xs (i + 2)) (xs (i + 3))).1).toInt64)] 336
      refine r_iload (pc' := 338) hX dL_law_336 rfl rfl ?_
      rw [mvl_pos hq0]
      refine r_i2l (pc' := 339) hX dL_law_338 rfl rfl ?_
      refine r_lcmp0 (pc' := 340) hX dL_law_339 rfl ?_
      refine r_if_eq_N (tgt := 345) (pc' := 343) hX dL_law_340 (by decide) rfl (by omega) (fun c340 => ?_) (fun c340 => ?_)
      · refine r_goto (tgt := 2780) hX dL_law_345 (by decide) ?_
        refine V_loc (L' := [some (.ref b), some (.ref f), some (.ref (ma 0)), some (.ref o), some (.ref od), some (.int (nI i)), none, none, none]) (lo_w ⟨.inr rfl, .inr rfl, .inr rfl, .inr rfl, .inr rfl, .inr rfl, .inl rfl, .inl rfl, .inr rfl, trivial⟩) ?_
        refine V_widen (k' := k0 + 23) (n' := n0 + 3450) (by omega) (by omega) ?_
        exact cont (aMut S (oMix S.1 (xs (i + 1)) (xs (i + 2)) (xs (i + 3)))) _ _ _ _ _ (by unfold aMut; rw [if_neg (by omega)]; exact hF1) hu2 ((hA.mut ⟨oMix_inv hInv, oMix_fb hFB hv⟩).mono (by omega))
      · exact absurd c340 (by omega)
  · exact absurd c323 (by omega)
