/-! ===== the law's body: a small foundry ===== -/
theorem perm_abr {a b r : va_W} : ((a ++ b) ++ r).Perm ((a ++ r) ++ b) := by
  rw [List.append_assoc, List.append_assoc]
  exact List.Perm.append_left _ List.perm_append_comm
theorem pm_put0 {a b c : va_W} : (([a, b, c] : List va_W).flatten).Perm (([b, c] : List va_W).flatten ++ ([a] : List va_W).flatten) := by
  show (a ++ (b ++ (c ++ []))).Perm ((b ++ (c ++ [])) ++ (a ++ []))
  simp only [List.append_nil]
  exact List.perm_append_comm
theorem pm_put1 {a b c : va_W} : (([b, c] : List va_W).flatten ++ ([a] : List va_W).flatten).Perm (([a, b] : List va_W).flatten ++ c) := by
  show ((b ++ (c ++ [])) ++ (a ++ [])).Perm ((a ++ (b ++ [])) ++ c)
  simp only [List.append_nil]
  refine List.perm_append_comm.trans ?_
  rw [List.append_assoc]
set_option maxRecDepth 20000 in
set_option maxHeartbeats 4000000 in
theorem k_5 {X : xC} {l : Launch} {D : va_G} {cy : Nat → ClassId} {sa : Nat → Nat} (hX : Ok SF X cL_law RL 20 5000 130000) (hG : c0_G X = (D, cy, sa)) (hcy : c0_cy X = cy) (hnL : c0_nL X = 12) (hl : c0_l X = l) (hst : l.stackTraces = false) {y : Nat} {b : SV} {SX : AS} (hAx : AJ 120 SX) {x : Nat} {wx : va_W} (hx : FS cy x SX wx) (cont : ∀ (c : Int32) (P : Nat) (M : Nat) (hP : 1 ≤ P ∧ P ≤ 4) (hM : 1 ≤ M ∧ M ≤ 4) (z : Nat) (wx wz : va_W), FS cy x SX wx → FS cy z (ZS vIni [] []) wz → V X 3651 104910 (([wx, wz] : List va_W).flatten) [some (.ref (sa 90)), some (.ref x), some (.ref y), some (.int (nI (b 0 4))), some (.int (dg b)), some (.int c), some (.int (nI P)), some (.int (nI M)), some (.ref z), none, none, none] [] 458) : V X 3299 102746 (([wx] : List va_W).flatten) [some (.ref (sa 90)), some (.ref x), some (.ref y), some (.int (nI (b 0 4))), some (.int (dg b)), none, none, none, none, none, none, none] [] 337 := by
  refine r_aload_n (pc' := 338) hX dL_law_337 rfl rfl ?_
  refine r_bipush (pc' := 340) (v := nI 13) hX dL_law_338 rfl rfl ?_
  obtain ⟨c, hc⟩ : ∃ c, c = atS sa 13 := ⟨_, rfl⟩
  refine V_call (k' := 3299) (n' := 102746) (pc' := 343) (wr := ([wx] : List va_W).flatten) hX (r_runS (As := [.ref (sa 90), .int (nI 13)]) hX dL_law_340 k_L_24 (fun l9 hl9 => cW_at (by omega)) hG rfl rfl (Nat.le_of_ble_eq_true rfl) (by decide) (by decide) (by decide) (by decide)) (List.Perm.refl _) rfl rfl rfl (fun w9 u9 hp9 => ?_)
  obtain ⟨rfl, rfl⟩ := hp9
  rw [← hc]
  change V X 3299 102746 ([] ++ ([wx] : List va_W).flatten) [some (.ref (sa 90)), some (.ref x), some (.ref y), some (.int (nI (b 0 4))), some (.int (dg b)), none, none, none, none, none, none, none] [.int c] 343
  refine V_perm (List.Perm.refl _) ?_
  refine r_istore (L' := [some (.ref (sa 90)), some (.ref x), some (.ref y), some (.int (nI (b 0 4))), some (.int (dg b)), some (.int c), none, none, none, none, none, none]) (pc' := 345) hX dL_law_343 (nlt hnL (by decide)) rfl rfl rfl ?_
  refine r_iconst (pc' := 346) (v := nI 1) hX dL_law_345 rfl rfl ?_
  refine r_iload (pc' := 348) hX dL_law_346 rfl rfl ?_
  refine r_iconst (pc' := 349) (v := nI 3) hX dL_law_348 rfl rfl ?_
  refine r_iand (pc' := 350) hX dL_law_349 rfl ?_
  rw [bt_and c 3]
  have hbt349 := bt_le c 3
  refine r_iadd_N (pc' := 351) hX dL_law_350  rfl ?_
  obtain ⟨P, hPe⟩ : ∃ P, P = 1 + bt c 3 := ⟨_, rfl⟩
  rw [← hPe]
  have hP : 1 ≤ P ∧ P ≤ 4 := by omega
  refine r_istore (L' := [some (.ref (sa 90)), some (.ref x), some (.ref y), some (.int (nI (b 0 4))), some (.int (dg b)), some (.int c), some (.int (nI P)), none, none, none, none, none]) (pc' := 353) hX dL_law_351 (nlt hnL (by decide)) rfl rfl rfl ?_
  refine r_iconst (pc' := 354) (v := nI 1) hX dL_law_353 rfl rfl ?_
  refine r_iload (pc' := 356) hX dL_law_354 rfl rfl ?_
  refine r_iconst (pc' := 357) (v := nI 2) hX dL_law_356 rfl rfl ?_
  refine r_ishr (pc' := 358) hX dL_law_357 rfl ?_
  change V X 3299 102746 (([wx] : List va_W).flatten) [some (.ref (sa 90)), some (.ref x), some (.ref y), some (.int (nI (b 0 4))), some (.int (dg b)), some (.int c), some (.int (nI P)), none, none, none, none, none] [.int (shr c (nI 2)), .int (nI 1)] 358
  refine r_iconst (pc' := 359) (v := nI 3) hX dL_law_358 rfl rfl ?_
  refine r_iand (pc' := 360) hX dL_law_359 rfl ?_
  rw [bt_and (shr c (nI 2)) 3]
  have hbt359 := bt_le (shr c (nI 2)) 3
  refine r_iadd_N (pc' := 361) hX dL_law_360  rfl ?_
  obtain ⟨M, hMe⟩ : ∃ M, M = 1 + bt (shr c (nI 2)) 3 := ⟨_, rfl⟩
  rw [← hMe]
  have hM : 1 ≤ M ∧ M ≤ 4 := by omega
  refine r_istore (L' := [some (.ref (sa 90)), some (.ref x), some (.ref y), some (.int (nI (b 0 4))), some (.int (dg b)), some (.int c), some (.int (nI P)), some (.int (nI M)), none, none, none, none]) (pc' := 363) hX dL_law_361 (nlt hnL (by decide)) rfl rfl rfl ?_
  refine r_new (k' := 3300) (n' := 102755) (pc' := 366) hX dL_law_363 cl_L_18 rfl rfl (by decide) (by decide) rfl (fun z => ?_)
  change V X 3300 102755 (([wx] : List va_W).flatten ++ [(z, .inr (7, [.null, .null, .null, .null, .int (nI 0), .int (nI 0), .int (nI 0), .int (nI 0), .int (nI 0)]))]) [some (.ref (sa 90)), some (.ref x), some (.ref y), some (.int (nI (b 0 4))), some (.int (dg b)), some (.int c), some (.int (nI P)), some (.int (nI M)), none, none, none, none] [.ref z] 366
  refine r_dup (pc' := 367) hX dL_law_366 rfl rfl ?_
  refine V_call (k' := 3648) (n' := 104892) (pc' := 370) (wr := ([wx] : List va_W).flatten) hX (r_runI (ret := none) (As := []) hX dL_law_367 k_L_23 (fun l9 hl9 => cF_init) hG rfl rfl (Nat.le_of_ble_eq_true rfl) (by decide) (by decide) (by decide) (by decide)) (List.perm_append_comm) rfl rfl rfl (fun w9 u84 hp9 => ?_)
  obtain ⟨rfl, hF84⟩ := hp9
  change V X 3648 104892 (u84 ++ ([wx] : List va_W).flatten) [some (.ref (sa 90)), some (.ref x), some (.ref y), some (.int (nI (b 0 4))), some (.int (dg b)), some (.int c), some (.int (nI P)), some (.int (nI M)), none, none, none, none] [.ref z] 370
  refine V_perm (fl_new (bs := ([wx] : List va_W))) ?_
  refine r_astore (L' := [some (.ref (sa 90)), some (.ref x), some (.ref y), some (.int (nI (b 0 4))), some (.int (dg b)), some (.int c), some (.int (nI P)), some (.int (nI M)), some (.ref z), none, none, none]) (pc' := 372) hX dL_law_370 (nlt hnL (by decide)) rfl rfl rfl ?_
  refine r_aload (pc' := 374) hX dL_law_372 rfl rfl ?_
  refine V_call (k' := 3648) (n' := 104892) (pc' := 377) (wr := ((([wx, u84] : List va_W)).eraseIdx 1).flatten) hX (r_runV (As := []) hX dL_law_374 k_L_191 (fun l9 hl9 => cF_isConsistent (v := (ZS vIni [] []).1) rfl hF84 (AJ_ini).1) hG (FS_recv hF84) rfl rfl (Nat.le_of_ble_eq_true rfl) (by decide) (by decide) (by decide) (by decide)) (fl_out 1 rfl) rfl rfl rfl (fun w9 u85 hp9 => ?_)
  obtain ⟨rfl, hF85⟩ := hp9
  change V X 3648 104892 (u85 ++ ((([wx, u84] : List va_W)).eraseIdx 1).flatten) [some (.ref (sa 90)), some (.ref x), some (.ref y), some (.int (nI (b 0 4))), some (.int (dg b)), some (.int c), some (.int (nI P)), some (.int (nI M)), some (.ref z), none, none, none] [.int (nI 1)] 377
  refine V_perm (fl_back (bs := ([wx, u84] : List va_W)) (bs' := ([wx, u85] : List va_W)) 1 rfl rfl) ?_
  refine r_if_eq_N (tgt := 456) (pc' := 380) hX dL_law_377 (by decide) rfl (by omega) (fun c377 => ?_) (fun c377 => ?_)
  · exact absurd c377 (by omega)
  · refine r_aload (pc' := 382) hX dL_law_380 rfl rfl ?_
    refine V_call (k' := 3648) (n' := 104892) (pc' := 385) (wr := ((([wx, u85] : List va_W)).eraseIdx 1).flatten) hX (r_runV (As := []) hX dL_law_382 k_L_37 (fun l9 hl9 => cF_batchCount (v := (ZS vIni [] []).1) rfl hF85 (AJ_ini).1) hG (FS_recv hF85) rfl rfl (Nat.le_of_ble_eq_true rfl) (by decide) (by decide) (by decide) (by decide)) (fl_out 1 rfl) rfl rfl rfl (fun w9 u86 hp9 => ?_)
    obtain ⟨okq, rfl, hF86⟩ := hp9
    change V X 3648 104892 (u86 ++ ((([wx, u85] : List va_W)).eraseIdx 1).flatten) [some (.ref (sa 90)), some (.ref x), some (.ref y), some (.int (nI (b 0 4))), some (.int (dg b)), some (.int c), some (.int (nI P)), some (.int (nI M)), some (.ref z), none, none, none] [.int (nI 0)] 385
    refine V_perm (fl_back (bs := ([wx, u85] : List va_W)) (bs' := ([wx, u86] : List va_W)) 1 rfl rfl) ?_
    refine r_if_ne_N (tgt := 456) (pc' := 388) hX dL_law_385 (by decide) rfl (by omega) (fun c385 => ?_) (fun c385 => ?_)
    · exact absurd c385 (by omega)
    · refine r_aload (pc' := 390) hX dL_law_388 rfl rfl ?_
      refine V_call (k' := 3648) (n' := 104892) (pc' := 393) (wr := ((([wx, u86] : List va_W)).eraseIdx 1).flatten) hX (r_runV (As := []) hX dL_law_390 k_L_102 (fun l9 hl9 => cF_tolerance (v := (ZS vIni [] []).1) rfl hF86 (AJ_ini).1) hG (FS_recv hF86) rfl rfl (Nat.le_of_ble_eq_true rfl) (by decide) (by decide) (by decide) (by decide)) (fl_out 1 rfl) rfl rfl rfl (fun w9 u87 hp9 => ?_)
      obtain ⟨okq, rfl, hF87⟩ := hp9
      change V X 3648 104892 (u87 ++ ((([wx, u86] : List va_W)).eraseIdx 1).flatten) [some (.ref (sa 90)), some (.ref x), some (.ref y), some (.int (nI (b 0 4))), some (.int (dg b)), some (.int c), some (.int (nI P)), some (.int (nI M)), some (.ref z), none, none, none] [.int (nI 50)] 393
      refine V_perm (fl_back (bs := ([wx, u86] : List va_W)) (bs' := ([wx, u87] : List va_W)) 1 rfl rfl) ?_
      refine r_bipush (pc' := 395) (v := nI 50) hX dL_law_393 rfl rfl ?_
      refine r_icmp_ne_N (tgt := 456) (pc' := 398) hX dL_law_395 (by decide) rfl (by omega) (by omega) (fun c395 => ?_) (fun c395 => ?_)
      · exact absurd c395 (by omega)
      · refine r_aload (pc' := 400) hX dL_law_398 rfl rfl ?_
        refine V_call (k' := 3648) (n' := 104892) (pc' := 403) (wr := ((([wx, u87] : List va_W)).eraseIdx 1).flatten) hX (r_runV (As := []) hX dL_law_400 k_L_105 (fun l9 hl9 => cF_step (v := (ZS vIni [] []).1) rfl hF87 (AJ_ini).1) hG (FS_recv hF87) rfl rfl (Nat.le_of_ble_eq_true rfl) (by decide) (by decide) (by decide) (by decide)) (fl_out 1 rfl) rfl rfl rfl (fun w9 u88 hp9 => ?_)
        obtain ⟨okq, rfl, hF88⟩ := hp9
        change V X 3648 104892 (u88 ++ ((([wx, u87] : List va_W)).eraseIdx 1).flatten) [some (.ref (sa 90)), some (.ref x), some (.ref y), some (.int (nI (b 0 4))), some (.int (dg b)), some (.int c), some (.int (nI P)), some (.int (nI M)), some (.ref z), none, none, none] [.int (nI 2)] 403
        refine V_perm (fl_back (bs := ([wx, u87] : List va_W)) (bs' := ([wx, u88] : List va_W)) 1 rfl rfl) ?_
        refine r_iconst (pc' := 404) (v := nI 2) hX dL_law_403 rfl rfl ?_
        refine r_icmp_ne_N (tgt := 456) (pc' := 407) hX dL_law_404 (by decide) rfl (by omega) (by omega) (fun c404 => ?_) (fun c404 => ?_)
        · exact absurd c404 (by omega)
        · refine r_aload (pc' := 409) hX dL_law_407 rfl rfl ?_
          refine V_call (k' := 3648) (n' := 104892) (pc' := 412) (wr := ((([wx, u88] : List va_W)).eraseIdx 1).flatten) hX (r_runV (As := []) hX dL_law_409 k_L_93 (fun l9 hl9 => cF_castTotal (v := (ZS vIni [] []).1) rfl hF88 (AJ_ini).1) hG (FS_recv hF88) rfl rfl (Nat.le_of_ble_eq_true rfl) (by decide) (by decide) (by decide) (by decide)) (fl_out 1 rfl) rfl rfl rfl (fun w9 u89 hp9 => ?_)
          obtain ⟨okq, rfl, hF89⟩ := hp9
          change V X 3648 104892 (u89 ++ ((([wx, u88] : List va_W)).eraseIdx 1).flatten) [some (.ref (sa 90)), some (.ref x), some (.ref y), some (.int (nI (b 0 4))), some (.int (dg b)), some (.int c), some (.int (nI P)), some (.int (nI M)), some (.ref z), none, none, none] [.int (nI 0)] 412
          refine V_perm (fl_back (bs := ([wx, u88] : List va_W)) (bs' := ([wx, u89] : List va_W)) 1 rfl rfl) ?_
          refine r_if_ne_N (tgt := 456) (pc' := 415) hX dL_law_412 (by decide) rfl (by omega) (fun c412 => ?_) (fun c412 => ?_)
          · exact absurd c412 (by omega)
          · refine r_aload (pc' := 417) hX dL_law_415 rfl rfl ?_
            refine r_iconst (pc' := 418) (v := nI 3) hX dL_law_417 rfl rfl ?_
            refine r_iconst (pc' := 419) (v := nI 0) hX dL_law_418 rfl rfl ?_
            refine r_iconst (pc' := 420) (v := nI 0) hX dL_law_419 rfl rfl ?_
            refine r_iconst (pc' := 421) (v := nI 1) hX dL_law_420 rfl rfl ?_
            refine V_call (k' := 3649) (n' := 104898) (pc' := 424) (wr := ((([wx, u89] : List va_W)).eraseIdx 1).flatten) hX (r_runSW (As := [.ref z, .int (nI 3), .int (nI 0), .int (nI 0), .int (nI 1)]) hX dL_law_421 kw_L_30 (fun l9 hl9 => by cases hl9; exact cA_3 (S := (ZS vIni [] [])) (a := nI 0) (b := nI 0) (c := nI 1) hF89 (AJ_ini) (hst := (by rw [hl]; exact hst))) hG rfl rfl (Nat.le_of_ble_eq_true rfl) (by decide) (by decide) (by decide) (by decide)) (fl_out 1 rfl) rfl rfl rfl (fun w9 u90 hp9 => ?_)
            obtain ⟨rfl, hF90⟩ := hp9
            rw [aMut_no (S := ZS vIni [] []) (o := oPour (ZS vIni [] []).1 (nI 0) (nI 0) (nI 1)) (by decide +kernel)] at hF90
            rw [show ((oPour (ZS vIni [] []).1 (nI 0) (nI 0) (nI 1)).1 : Int32) = (-1) from by decide +kernel]
            change V X 3649 104898 (u90 ++ ((([wx, u89] : List va_W)).eraseIdx 1).flatten) [some (.ref (sa 90)), some (.ref x), some (.ref y), some (.int (nI (b 0 4))), some (.int (dg b)), some (.int c), some (.int (nI P)), some (.int (nI M)), some (.ref z), none, none, none] [.int (-1)] 424
            refine V_perm (fl_back (bs := ([wx, u89] : List va_W)) (bs' := ([wx, u90] : List va_W)) 1 rfl rfl) ?_
            refine r_iconst (pc' := 425) (v := (-1)) hX dL_law_424 rfl rfl ?_
            refine r_icmp_ne (tgt := 456) (pc' := 428) hX dL_law_425 (by decide) rfl (fun c425 => ?_) (fun c425 => ?_)
            · exact absurd rfl c425
            · refine r_aload (pc' := 430) hX dL_law_428 rfl rfl ?_
              refine r_iconst (pc' := 431) (v := nI 4) hX dL_law_430 rfl rfl ?_
              refine r_iconst (pc' := 432) (v := nI 0) hX dL_law_431 rfl rfl ?_
              refine r_iconst (pc' := 433) (v := nI 0) hX dL_law_432 rfl rfl ?_
              refine r_iconst (pc' := 434) (v := nI 0) hX dL_law_433 rfl rfl ?_
              refine V_call (k' := 3650) (n' := 104904) (pc' := 437) (wr := ((([wx, u90] : List va_W)).eraseIdx 1).flatten) hX (r_runSW (As := [.ref z, .int (nI 4), .int (nI 0), .int (nI 0), .int (nI 0)]) hX dL_law_434 kw_L_30 (fun l9 hl9 => by cases hl9; exact cA_4 (S := (ZS vIni [] [])) (a := nI 0) (b := nI 0) (c := nI 0) hF90 (AJ_ini) (hst := (by rw [hl]; exact hst))) hG rfl rfl (Nat.le_of_ble_eq_true rfl) (by decide) (by decide) (by decide) (by decide)) (fl_out 1 rfl) rfl rfl rfl (fun w9 u91 hp9 => ?_)
              obtain ⟨rfl, hF91⟩ := hp9
              rw [aMut_no (S := ZS vIni [] []) (o := oExam (ZS vIni [] []).1 (nI 0)) (by decide +kernel)] at hF91
              rw [show ((oExam (ZS vIni [] []).1 (nI 0)).1 : Int32) = (-5) from by decide +kernel]
              change V X 3650 104904 (u91 ++ ((([wx, u90] : List va_W)).eraseIdx 1).flatten) [some (.ref (sa 90)), some (.ref x), some (.ref y), some (.int (nI (b 0 4))), some (.int (dg b)), some (.int c), some (.int (nI P)), some (.int (nI M)), some (.ref z), none, none, none] [.int (-5)] 437
              refine V_perm (fl_back (bs := ([wx, u90] : List va_W)) (bs' := ([wx, u91] : List va_W)) 1 rfl rfl) ?_
              refine r_bipush (pc' := 439) (v := (-5)) hX dL_law_437 rfl rfl ?_
              refine r_icmp_ne (tgt := 456) (pc' := 442) hX dL_law_439 (by decide) rfl (fun c439 => ?_) (fun c439 => ?_)
              · exact absurd rfl c439
              · refine r_aload (pc' := 444) hX dL_law_442 rfl rfl ?_
                refine r_bipush (pc' := 446) (v := nI 6) hX dL_law_444 rfl rfl ?_
                refine r_iconst (pc' := 447) (v := nI 0) hX dL_law_446 rfl rfl ?_
                refine r_iconst (pc' := 448) (v := nI 0) hX dL_law_447 rfl rfl ?_
                refine r_iconst (pc' := 449) (v := nI 0) hX dL_law_448 rfl rfl ?_
                refine V_call (k' := 3651) (n' := 104910) (pc' := 452) (wr := ((([wx, u91] : List va_W)).eraseIdx 1).flatten) hX (r_runSW (As := [.ref z, .int (nI 6), .int (nI 0), .int (nI 0), .int (nI 0)]) hX dL_law_449 kw_L_30 (fun l9 hl9 => by cases hl9; exact cA_6 (S := (ZS vIni [] [])) (a := nI 0) (b := nI 0) (c := nI 0) hF91 (AJ_ini) (hst := (by rw [hl]; exact hst))) hG rfl rfl (Nat.le_of_ble_eq_true rfl) (by decide) (by decide) (by decide) (by decide)) (fl_out 1 rfl) rfl rfl rfl (fun w9 u92 hp9 => ?_)
                obtain ⟨rfl, hF92⟩ := hp9
                rw [aMut_no (S := ZS vIni [] []) (o := oReset (ZS vIni [] []).1 (nI 0)) (by decide +kernel)] at hF92
                rw [show ((oReset (ZS vIni [] []).1 (nI 0)).1 : Int32) = (-1) from by decide +kernel]
                change V X 3651 104910 (u92 ++ ((([wx, u91] : List va_W)).eraseIdx 1).flatten) [some (.ref (sa 90)), some (.ref x), some (.ref y), some (.int (nI (b 0 4))), some (.int (dg b)), some (.int c), some (.int (nI P)), some (.int (nI M)), some (.ref z), none, none, none] [.int (-1)] 452
                refine V_perm (fl_back (bs := ([wx, u91] : List va_W)) (bs' := ([wx, u92] : List va_W)) 1 rfl rfl) ?_
                refine r_iconst (pc' := 453) (v := (-1)) hX dL_law_452 rfl rfl ?_
                refine r_icmp_eq (tgt := 458) (pc' := 456) hX dL_law_453 (by decide) rfl (fun c453 => ?_) (fun c453 => ?_)
                · exact cont c P M hP hM z _ _ hx hF92
                · exact absurd rfl c453

set_option maxRecDepth 20000 in
set_option maxHeartbeats 4000000 in
theorem k_6 {X : xC} {l : Launch} {D : va_G} {cy : Nat → ClassId} {sa : Nat → Nat} (hX : Ok SF X cL_law RL 20 5000 130000) (hG : c0_G X = (D, cy, sa)) (hcy : c0_cy X = cy) (hnL : c0_nL X = 12) (hl : c0_l X = l) (hst : l.stackTraces = false) {y P M : Nat} {b : SV} {SX : AS} {c : Int32} (hP : 1 ≤ P ∧ P ≤ 4) (hM : 1 ≤ M ∧ M ≤ 4) {x z : Nat} {wx wz : va_W} (hx : FS cy x SX wx) (hz : FS cy z (ZS vIni [] []) wz) (cont : ∀ (wx wz : va_W), FS cy x SX wx → FS cy z (ZS vIni [] (tz P M)) wz → V X 3720 114740 (([wx, wz] : List va_W).flatten) [some (.ref (sa 90)), some (.ref x), some (.ref y), some (.int (nI (b 0 4))), some (.int (dg b)), some (.int c), some (.int (nI P)), some (.int (nI M)), some (.ref z), some (.int (nI (qz P M))), none, none] [] 513) : V X 3651 104910 (([wx, wz] : List va_W).flatten) [some (.ref (sa 90)), some (.ref x), some (.ref y), some (.int (nI (b 0 4))), some (.int (dg b)), some (.int c), some (.int (nI P)), some (.int (nI M)), some (.ref z), none, none, none] [] 458 := by
  have h14 : (ltx 14).length = 6 := by decide
  have h15 : (ltx 15).length = 9 := by decide
  have h16 : (ltx 16).length = 29 := by decide
  have hdP : ndg P = 1 := by unfold ndg; rw [if_pos (by omega)]
  have hdM : ndg M = 1 := by unfold ndg; rw [if_pos (by omega)]
  have ht1 := zt1 (P - 1) (by omega) (M - 1) (by omega)
  rw [show P - 1 + 1 = P by omega, show M - 1 + 1 = M by omega] at ht1
  have htz : ∀ x ∈ tz P M, 32 ≤ x ∧ x ≤ 126 := fun x hx => by
    have h9 := List.all_eq_true.mp ht1 x hx
    simpa using h9
  refine r_aload (pc' := 460) hX dL_law_458 rfl rfl ?_
  refine r_new (k' := 3652) (n' := 104914) (pc' := 463) hX dL_law_460 cl_L_195 rfl rfl (by decide) (by decide) rfl (fun sb => ?_)
  change V X 3652 104914 (([wx, wz] : List va_W).flatten ++ [(sb, .inr (1, [.null, .int (nI 0), .int (nI 0), .int (nI 0)]))]) [some (.ref (sa 90)), some (.ref x), some (.ref y), some (.int (nI (b 0 4))), some (.int (dg b)), some (.int c), some (.int (nI P)), some (.int (nI M)), some (.ref z), none, none, none] [.ref sb, .ref z] 463
  refine r_dup (pc' := 464) hX dL_law_463 rfl rfl ?_
  refine V_call (k' := 3653) (n' := 104930) (pc' := 467) (wr := ([wx, wz] : List va_W).flatten) hX (r_runI (ret := none) (As := []) hX dL_law_464 k_L_197 (fun l9 hl9 => cJ_init) hG rfl rfl (Nat.le_of_ble_eq_true rfl) (by decide) (by decide) (by decide) (by decide)) (List.perm_append_comm) rfl rfl rfl (fun w9 u9 hp9 => ?_)
  obtain ⟨rfl, qs0, rfl⟩ := hp9
  change V X 3653 104930 (wSB cy sb qs0 16 0 0 (fun _ => 0) ++ ([wx, wz] : List va_W).flatten) [some (.ref (sa 90)), some (.ref x), some (.ref y), some (.int (nI (b 0 4))), some (.int (dg b)), some (.int c), some (.int (nI P)), some (.int (nI M)), some (.ref z), none, none, none] [.ref sb, .ref z] 467
  refine V_perm (fl_new (bs := ([wx, wz] : List va_W))) ?_
  refine r_ldcS (i := 14) (pc' := 469) hX hG dL_law_467 (by decide) rfl rfl ?_
  refine V_call (k' := 3654) (n' := 105080) (pc' := 472) (wr := ((([wx, wz, wSB cy sb qs0 16 0 0 (fun _ => 0)] : List va_W)).eraseIdx 2).flatten) hX (r_runV (As := [.ref (sa (100 + 14))]) hX dL_law_469 k_L_200 (fun l9 hl9 => cT_app (i := 14) SBp.new (by decide) (by omega)) hG ⟨1, _, TJ4, 4, List.mem_cons_self, rfl⟩ rfl rfl (Nat.le_of_ble_eq_true rfl) (by decide) (by decide) (by decide) (by decide)) (fl_out 2 rfl) rfl rfl rfl (fun w9 u9 hp9 => ?_)
  obtain ⟨rfl, q193, m193, g193, rfl, h93⟩ := hp9
  change V X 3654 105080 (wSB cy sb q193 m193 0 (0 + (ltx 14).length) g193 ++ ((([wx, wz, wSB cy sb qs0 16 0 0 (fun _ => 0)] : List va_W)).eraseIdx 2).flatten) [some (.ref (sa 90)), some (.ref x), some (.ref y), some (.int (nI (b 0 4))), some (.int (dg b)), some (.int c), some (.int (nI P)), some (.int (nI M)), some (.ref z), none, none, none] [.ref sb, .ref z] 472
  refine V_perm (fl_back (bs := ([wx, wz, wSB cy sb qs0 16 0 0 (fun _ => 0)] : List va_W)) (bs' := ([wx, wz, wSB cy sb q193 m193 0 (0 + (ltx 14).length) g193] : List va_W)) 2 rfl rfl) ?_
  refine r_iload (pc' := 474) hX dL_law_472 rfl rfl ?_
  refine V_call (k' := 3655) (n' := 105230) (pc' := 477) (wr := ((([wx, wz, wSB cy sb q193 m193 0 (0 + (ltx 14).length) g193] : List va_W)).eraseIdx 2).flatten) hX (r_runV (As := [.int (nI P)]) hX dL_law_474 k_L_204 (fun l9 hl9 => cJ_appI (n := P) h93 (by omega) (by omega)) hG ⟨1, _, TJ4, 4, List.mem_cons_self, rfl⟩ rfl rfl (Nat.le_of_ble_eq_true rfl) (by decide) (by decide) (by decide) (by decide)) (fl_out 2 rfl) rfl rfl rfl (fun w9 u9 hp9 => ?_)
  obtain ⟨rfl, q194, m194, g194, rfl, h94⟩ := hp9
  change V X 3655 105230 (wSB cy sb q194 m194 0 ((0 + (ltx 14).length) + ndg P) g194 ++ ((([wx, wz, wSB cy sb q193 m193 0 (0 + (ltx 14).length) g193] : List va_W)).eraseIdx 2).flatten) [some (.ref (sa 90)), some (.ref x), some (.ref y), some (.int (nI (b 0 4))), some (.int (dg b)), some (.int c), some (.int (nI P)), some (.int (nI M)), some (.ref z), none, none, none] [.ref sb, .ref z] 477
  refine V_perm (fl_back (bs := ([wx, wz, wSB cy sb q193 m193 0 (0 + (ltx 14).length) g193] : List va_W)) (bs' := ([wx, wz, wSB cy sb q194 m194 0 ((0 + (ltx 14).length) + ndg P) g194] : List va_W)) 2 rfl rfl) ?_
  refine r_ldcS (i := 15) (pc' := 479) hX hG dL_law_477 (by decide) rfl rfl ?_
  refine V_call (k' := 3656) (n' := 105380) (pc' := 482) (wr := ((([wx, wz, wSB cy sb q194 m194 0 ((0 + (ltx 14).length) + ndg P) g194] : List va_W)).eraseIdx 2).flatten) hX (r_runV (As := [.ref (sa (100 + 15))]) hX dL_law_479 k_L_200 (fun l9 hl9 => cT_app (i := 15) h94 (by decide) (by omega)) hG ⟨1, _, TJ4, 4, List.mem_cons_self, rfl⟩ rfl rfl (Nat.le_of_ble_eq_true rfl) (by decide) (by decide) (by decide) (by decide)) (fl_out 2 rfl) rfl rfl rfl (fun w9 u9 hp9 => ?_)
  obtain ⟨rfl, q195, m195, g195, rfl, h95⟩ := hp9
  change V X 3656 105380 (wSB cy sb q195 m195 0 (((0 + (ltx 14).length) + ndg P) + (ltx 15).length) g195 ++ ((([wx, wz, wSB cy sb q194 m194 0 ((0 + (ltx 14).length) + ndg P) g194] : List va_W)).eraseIdx 2).flatten) [some (.ref (sa 90)), some (.ref x), some (.ref y), some (.int (nI (b 0 4))), some (.int (dg b)), some (.int c), some (.int (nI P)), some (.int (nI M)), some (.ref z), none, none, none] [.ref sb, .ref z] 482
  refine V_perm (fl_back (bs := ([wx, wz, wSB cy sb q194 m194 0 ((0 + (ltx 14).length) + ndg P) g194] : List va_W)) (bs' := ([wx, wz, wSB cy sb q195 m195 0 (((0 + (ltx 14).length) + ndg P) + (ltx 15).length) g195] : List va_W)) 2 rfl rfl) ?_
  refine r_iload (pc' := 484) hX dL_law_482 rfl rfl ?_
  refine V_call (k' := 3657) (n' := 105530) (pc' := 487) (wr := ((([wx, wz, wSB cy sb q195 m195 0 (((0 + (ltx 14).length) + ndg P) + (ltx 15).length) g195] : List va_W)).eraseIdx 2).flatten) hX (r_runV (As := [.int (nI M)]) hX dL_law_484 k_L_204 (fun l9 hl9 => cJ_appI (n := M) h95 (by omega) (by omega)) hG ⟨1, _, TJ4, 4, List.mem_cons_self, rfl⟩ rfl rfl (Nat.le_of_ble_eq_true rfl) (by decide) (by decide) (by decide) (by decide)) (fl_out 2 rfl) rfl rfl rfl (fun w9 u9 hp9 => ?_)
  obtain ⟨rfl, q196, m196, g196, rfl, h96⟩ := hp9
  change V X 3657 105530 (wSB cy sb q196 m196 0 ((((0 + (ltx 14).length) + ndg P) + (ltx 15).length) + ndg M) g196 ++ ((([wx, wz, wSB cy sb q195 m195 0 (((0 + (ltx 14).length) + ndg P) + (ltx 15).length) g195] : List va_W)).eraseIdx 2).flatten) [some (.ref (sa 90)), some (.ref x), some (.ref y), some (.int (nI (b 0 4))), some (.int (dg b)), some (.int c), some (.int (nI P)), some (.int (nI M)), some (.ref z), none, none, none] [.ref sb, .ref z] 487
  refine V_perm (fl_back (bs := ([wx, wz, wSB cy sb q195 m195 0 (((0 + (ltx 14).length) + ndg P) + (ltx 15).length) g195] : List va_W)) (bs' := ([wx, wz, wSB cy sb q196 m196 0 ((((0 + (ltx 14).length) + ndg P) + (ltx 15).length) + ndg M) g196] : List va_W)) 2 rfl rfl) ?_
  refine r_ldcS (i := 16) (pc' := 489) hX hG dL_law_487 (by decide) rfl rfl ?_
  refine V_call (k' := 3658) (n' := 105680) (pc' := 492) (wr := ((([wx, wz, wSB cy sb q196 m196 0 ((((0 + (ltx 14).length) + ndg P) + (ltx 15).length) + ndg M) g196] : List va_W)).eraseIdx 2).flatten) hX (r_runV (As := [.ref (sa (100 + 16))]) hX dL_law_489 k_L_200 (fun l9 hl9 => cT_app (i := 16) h96 (by decide) (by omega)) hG ⟨1, _, TJ4, 4, List.mem_cons_self, rfl⟩ rfl rfl (Nat.le_of_ble_eq_true rfl) (by decide) (by decide) (by decide) (by decide)) (fl_out 2 rfl) rfl rfl rfl (fun w9 u9 hp9 => ?_)
  obtain ⟨rfl, q197, m197, g197, rfl, h97⟩ := hp9
  change V X 3658 105680 (wSB cy sb q197 m197 0 (((((0 + (ltx 14).length) + ndg P) + (ltx 15).length) + ndg M) + (ltx 16).length) g197 ++ ((([wx, wz, wSB cy sb q196 m196 0 ((((0 + (ltx 14).length) + ndg P) + (ltx 15).length) + ndg M) g196] : List va_W)).eraseIdx 2).flatten) [some (.ref (sa 90)), some (.ref x), some (.ref y), some (.int (nI (b 0 4))), some (.int (dg b)), some (.int c), some (.int (nI P)), some (.int (nI M)), some (.ref z), none, none, none] [.ref sb, .ref z] 492
  refine V_perm (fl_back (bs := ([wx, wz, wSB cy sb q196 m196 0 ((((0 + (ltx 14).length) + ndg P) + (ltx 15).length) + ndg M) g196] : List va_W)) (bs' := ([wx, wz, wSB cy sb q197 m197 0 (((((0 + (ltx 14).length) + ndg P) + (ltx 15).length) + ndg M) + (ltx 16).length) g197] : List va_W)) 2 rfl rfl) ?_
  refine V_call (k' := 3660) (n' := 105680 + (4 + (((((0 + (ltx 14).length) + ndg P) + (ltx 15).length) + ndg M) + (ltx 16).length))) (pc' := 495) (wr := ((([wx, wz, wSB cy sb q197 m197 0 (((((0 + (ltx 14).length) + ndg P) + (ltx 15).length) + ndg M) + (ltx 16).length) g197] : List va_W)).eraseIdx 2).flatten) hX (r_runV (As := []) hX dL_law_492 k_L_211 (fun l9 hl9 => cT_str h97 (by omega)) hG ⟨1, _, TJ4, 4, List.mem_cons_self, rfl⟩ rfl rfl (Nat.le_of_ble_eq_true rfl) (by decide) (by decide) (by omega) (by omega)) (fl_out 2 rfl) (by omega) (by omega) rfl (fun w9 u9 hp9 => ?_)
  obtain ⟨sh, qh, gh, rfl, rfl, hsth⟩ := hp9
  change V X 3660 (105680 + (4 + (((((0 + (ltx 14).length) + ndg P) + (ltx 15).length) + ndg M) + (ltx 16).length))) ((wHS cy sh qh (((((0 + (ltx 14).length) + ndg P) + (ltx 15).length) + ndg M) + (ltx 16).length) gh ++ wSB cy sb q197 m197 0 (((((0 + (ltx 14).length) + ndg P) + (ltx 15).length) + ndg M) + (ltx 16).length) g197) ++ ((([wx, wz, wSB cy sb q197 m197 0 (((((0 + (ltx 14).length) + ndg P) + (ltx 15).length) + ndg M) + (ltx 16).length) g197] : List va_W)).eraseIdx 2).flatten) [some (.ref (sa 90)), some (.ref x), some (.ref y), some (.int (nI (b 0 4))), some (.int (dg b)), some (.int c), some (.int (nI P)), some (.int (nI M)), some (.ref z), none, none, none] [.ref sh, .ref z] 495
  refine V_perm perm_abr (V_drop ?_)
  refine V_perm (fl_back (bs := ([wx, wz, wSB cy sb q197 m197 0 (((((0 + (ltx 14).length) + ndg P) + (ltx 15).length) + ndg M) + (ltx 16).length) g197] : List va_W)) (bs' := ([wx, wz, wHS cy sh qh (((((0 + (ltx 14).length) + ndg P) + (ltx 15).length) + ndg M) + (ltx 16).length) gh] : List va_W)) 2 rfl rfl) ?_
  change V X 3660 (105680 + (4 + (((((0 + (ltx 14).length) + ndg P) + (ltx 15).length) + ndg M) + (ltx 16).length))) (([wx, wz, wHS cy sh qh (((((0 + (ltx 14).length) + ndg P) + (ltx 15).length) + ndg M) + (ltx 16).length) gh] : List va_W).flatten) [some (.ref (sa 90)), some (.ref x), some (.ref y), some (.int (nI (b 0 4))), some (.int (dg b)), some (.int c), some (.int (nI P)), some (.int (nI M)), some (.ref z), none, none, none] [.ref sh, .ref z] 495
  refine V_widen (k' := 3660) (n' := 105740) (by omega) (by omega) ?_
  refine V_call (k' := 3720) (n' := 114740) (pc' := 498) (wr := ([wx] : List va_W).flatten) hX (r_runS (As := [.ref z, .ref sh]) hX dL_law_495 k_L_146 (fun l9 hl9 => by cases hl9; exact cW_putH (t := tz P M) (S := ZS vIni [] []) hsth htz (by omega) hz AJ_ini (hst := (by rw [hl]; exact hst))) hG rfl rfl (Nat.le_of_ble_eq_true rfl) (by decide) (by decide) (by decide) (by decide)) (pm_put0) rfl rfl rfl (fun w9 u9 hp9 => ?_)
  obtain ⟨rfl, v98, hF98, rfl⟩ := hp9
  change V X 3720 114740 (([v98, wHS cy sh qh (((((0 + (ltx 14).length) + ndg P) + (ltx 15).length) + ndg M) + (ltx 16).length) gh] : List va_W).flatten ++ ([wx] : List va_W).flatten) [some (.ref (sa 90)), some (.ref x), some (.ref y), some (.int (nI (b 0 4))), some (.int (dg b)), some (.int c), some (.int (nI P)), some (.int (nI M)), some (.ref z), none, none, none] [] 498
  refine V_perm pm_put1 (V_drop ?_)
  change V X 3720 114740 (([wx, v98] : List va_W).flatten) [some (.ref (sa 90)), some (.ref x), some (.ref y), some (.int (nI (b 0 4))), some (.int (dg b)), some (.int c), some (.int (nI P)), some (.int (nI M)), some (.ref z), none, none, none] [] 498
  refine r_bipush (pc' := 500) (v := nI 7) hX dL_law_498 rfl rfl ?_
  refine r_iload (pc' := 502) hX dL_law_500 rfl rfl ?_
  refine r_imul_N (pc' := 503) hX dL_law_502  rfl ?_
  refine r_bipush (pc' := 505) (v := nI 6) hX dL_law_503 rfl rfl ?_
  refine r_iadd_N (pc' := 506) hX dL_law_505  rfl ?_
  refine r_iconst (pc' := 507) (v := nI 5) hX dL_law_506 rfl rfl ?_
  refine r_iload (pc' := 509) hX dL_law_507 rfl rfl ?_
  refine r_imul_N (pc' := 510) hX dL_law_509  rfl ?_
  refine r_iadd_N (pc' := 511) hX dL_law_510  rfl ?_
  rw [show ((7 * P) + 6) + (5 * M) = qz P M from rfl]
  refine r_istore (L' := [some (.ref (sa 90)), some (.ref x), some (.ref y), some (.int (nI (b 0 4))), some (.int (dg b)), some (.int c), some (.int (nI P)), some (.int (nI M)), some (.ref z), some (.int (nI (qz P M))), none, none]) (pc' := 513) hX dL_law_511 (nlt hnL (by decide)) rfl rfl rfl ?_
  exact cont _ _ hx hF98
