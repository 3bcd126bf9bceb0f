/-! ===== the law's body: what becomes of the small foundry ===== -/
set_option maxRecDepth 20000 in
set_option maxHeartbeats 4000000 in
theorem k_7 {X : xC} {l : Launch} {D : va_G} {cy : Nat → ClassId} {sa : Nat → Nat} (hX : Ok SF X cL_law RL 20 5000 130000) (hG : c0_G X = (D, cy, sa)) (hcy : c0_cy X = cy) (hnL : c0_nL X = 12) (hl : c0_l X = l) (hst : l.stackTraces = false) {y P M : Nat} {b : SV} {SX : AS} {c : Int32} (hP : 1 ≤ P ∧ P ≤ 4) (hM : 1 ≤ M ∧ M ≤ 4) {x z : Nat} {wx wz : va_W} (hx : FS cy x SX wx) (hz : FS cy z (ZS vIni [] (tz P M)) wz) (cont : ∀ (wx wz : va_W), FS cy x SX wx → FS cy z (ZS (z1 P M) (uz1 P M) []) wz → V X 3736 114980 (([wx, wz] : List va_W).flatten) [some (.ref (sa 90)), some (.ref x), some (.ref y), some (.int (nI (b 0 4))), some (.int (dg b)), some (.int c), some (.int (nI P)), some (.int (nI M)), some (.ref z), some (.int (nI (qz P M))), none, none] [] 701) : V X 3720 114740 (([wx, wz] : List va_W).flatten) [some (.ref (sa 90)), some (.ref x), some (.ref y), some (.int (nI (b 0 4))), some (.int (dg b)), some (.int c), some (.int (nI P)), some (.int (nI M)), some (.ref z), some (.int (nI (qz P M))), none, none] [] 513 := by
  have e1 : P - 1 + 1 = P := by omega
  have e2 : M - 1 + 1 = M := by omega
  have f1 := zf1 (P - 1) (by omega) (M - 1) (by omega)
  have f2 := zf2 (P - 1) (by omega) (M - 1) (by omega)
  have f3 := zf3 (P - 1) (by omega) (M - 1) (by omega)
  have f4 := zf4 (P - 1) (by omega) (M - 1) (by omega)
  have f5 := zf5 (P - 1) (by omega) (M - 1) (by omega)
  have f6 := zf6 (P - 1) (by omega) (M - 1) (by omega)
  have f7 := zf7 (P - 1) (by omega) (M - 1) (by omega)
  have f8 := zf8 (P - 1) (by omega) (M - 1) (by omega)
  have f9 := zf9 (P - 1) (by omega) (M - 1) (by omega)
  have fn := zn (p := P - 1) (l := M - 1) (by omega) (by omega)
  have fr := zs_run (p := P - 1) (l := M - 1) (by omega) (by omega)
  rw [e1, e2] at f1 f2 f3 f4 f5 f6 f7 f8 f9 fn fr
  have hqz : qz P M ≤ 54 := by unfold qz; omega
  have ht1 := zt1 (P - 1) (by omega) (M - 1) (by omega)
  rw [e1, e2] at ht1
  have hA0 : AJ 20 (ZS vIni [] (tz P M)) := AJ_ZS IF_ini (fun u hu => absurd hu List.not_mem_nil) (fun x hx => by
    have h9 := List.all_eq_true.mp ht1 x hx
    have h8 : 32 ≤ x ∧ x ≤ 126 := by simpa using h9
    omega)
  refine r_aload (pc' := 515) hX dL_law_513 rfl rfl ?_
  refine V_callX (k' := 3722) (n' := 114896) (pc' := 518) (wr := ((([wx, wz] : List va_W)).eraseIdx 1).flatten) hX (r_runVX (As := []) hX dL_law_515 k_L_150 (fun l9 hl9 => by cases hl9; exact cF_runScript (v := (ZS vIni [] (tz P M)).1) rfl hz (hA0).1 (hst := (by rw [hl]; exact hst)) (hK := (by omega))) hG (FS_recv hz) rfl rfl (Nat.le_of_ble_eq_true rfl) (by decide) (by decide) (by decide) (by decide)) (fl_out 1 rfl) rfl rfl rfl (fun w9 u99 hp9 => ?_) ?_
  · obtain ⟨okq, rfl, hF99⟩ := hp9
    rw [fr.2] at hF99
    rw [show (qRun (ZS vIni [] (tz P M)) : Int32) = nI 5 from fr.1]
    change V X 3722 114896 (u99 ++ ((([wx, wz] : List va_W)).eraseIdx 1).flatten) [some (.ref (sa 90)), some (.ref x), some (.ref y), some (.int (nI (b 0 4))), some (.int (dg b)), some (.int c), some (.int (nI P)), some (.int (nI M)), some (.ref z), some (.int (nI (qz P M))), none, none] [.int (nI 5)] 518
    refine V_perm (fl_back (bs := ([wx, wz] : List va_W)) (bs' := ([wx, u99] : List va_W)) 1 rfl rfl) ?_
    change V X 3722 114896 (([wx, u99] : List va_W).flatten) [some (.ref (sa 90)), some (.ref x), some (.ref y), some (.int (nI (b 0 4))), some (.int (dg b)), some (.int c), some (.int (nI P)), some (.int (nI M)), some (.ref z), some (.int (nI (qz P M))), none, none] [.int (nI 5)] 518
    refine r_iconst (pc' := 519) (v := nI 5) hX dL_law_518 rfl rfl ?_
    refine r_icmp_ne_N (tgt := 699) (pc' := 522) hX dL_law_519 (by decide) rfl (by omega) (by omega) (fun c519 => ?_) (fun c519 => ?_)
    · exact absurd c519 (by omega)
    · refine r_aload (pc' := 524) hX dL_law_522 rfl rfl ?_
      refine r_iconst (pc' := 525) (v := nI 0) hX dL_law_524 rfl rfl ?_
      refine V_callX (k' := 3723) (n' := 114902) (pc' := 528) (wr := ((([wx, u99] : List va_W)).eraseIdx 1).flatten) hX (r_runVX (As := [.int (nI 0)]) hX dL_law_525 k_L_40 (fun l9 hl9 => by cases hl9; exact cF_batchAt (v := (ZS (z1 P M) (uz1 P M) []).1) rfl hF99 (AJz1).1 (hst := (by rw [hl]; exact hst))) hG (FS_recv hF99) rfl rfl (Nat.le_of_ble_eq_true rfl) (by decide) (by decide) (by decide) (by decide)) (fl_out 1 rfl) rfl rfl rfl (fun w9 u100 hp9 => ?_) ?_
      · obtain ⟨okq, rfl, hF100⟩ := hp9
        rw [show (qAt (ZS (z1 P M) (uz1 P M) []).1 (nI 0) : Int32) = nI 0 from f1.1]
        change V X 3723 114902 (u100 ++ ((([wx, u99] : List va_W)).eraseIdx 1).flatten) [some (.ref (sa 90)), some (.ref x), some (.ref y), some (.int (nI (b 0 4))), some (.int (dg b)), some (.int c), some (.int (nI P)), some (.int (nI M)), some (.ref z), some (.int (nI (qz P M))), none, none] [.int (nI 0)] 528
        refine V_perm (fl_back (bs := ([wx, u99] : List va_W)) (bs' := ([wx, u100] : List va_W)) 1 rfl rfl) ?_
        change V X 3723 114902 (([wx, u100] : List va_W).flatten) [some (.ref (sa 90)), some (.ref x), some (.ref y), some (.int (nI (b 0 4))), some (.int (dg b)), some (.int c), some (.int (nI P)), some (.int (nI M)), some (.ref z), some (.int (nI (qz P M))), none, none] [.int (nI 0)] 528
        refine r_if_ne_N (tgt := 699) (pc' := 531) hX dL_law_528 (by decide) rfl (by omega) (fun c528 => ?_) (fun c528 => ?_)
        · exact absurd c528 (by omega)
        · refine r_aload (pc' := 533) hX dL_law_531 rfl rfl ?_
          refine r_iconst (pc' := 534) (v := nI 0) hX dL_law_533 rfl rfl ?_
          refine V_callX (k' := 3724) (n' := 114908) (pc' := 537) (wr := ((([wx, u100] : List va_W)).eraseIdx 1).flatten) hX (r_runVX (As := [.int (nI 0)]) hX dL_law_534 k_L_84 (fun l9 hl9 => by cases hl9; exact cF_batchSize (v := (ZS (z1 P M) (uz1 P M) []).1) rfl hF100 (AJz1).1 (hst := (by rw [hl]; exact hst))) hG (FS_recv hF100) rfl rfl (Nat.le_of_ble_eq_true rfl) (by decide) (by decide) (by decide) (by decide)) (fl_out 1 rfl) rfl rfl rfl (fun w9 u101 hp9 => ?_) ?_
          · obtain ⟨okq, rfl, hF101⟩ := hp9
            rw [show (qBat (bNum 2) (ZS (z1 P M) (uz1 P M) []).1 (nI 0) : Int32) = nI 4 from f1.2.1]
            change V X 3724 114908 (u101 ++ ((([wx, u100] : List va_W)).eraseIdx 1).flatten) [some (.ref (sa 90)), some (.ref x), some (.ref y), some (.int (nI (b 0 4))), some (.int (dg b)), some (.int c), some (.int (nI P)), some (.int (nI M)), some (.ref z), some (.int (nI (qz P M))), none, none] [.int (nI 4)] 537
            refine V_perm (fl_back (bs := ([wx, u100] : List va_W)) (bs' := ([wx, u101] : List va_W)) 1 rfl rfl) ?_
            change V X 3724 114908 (([wx, u101] : List va_W).flatten) [some (.ref (sa 90)), some (.ref x), some (.ref y), some (.int (nI (b 0 4))), some (.int (dg b)), some (.int c), some (.int (nI P)), some (.int (nI M)), some (.ref z), some (.int (nI (qz P M))), none, none] [.int (nI 4)] 537
            refine r_iconst (pc' := 538) (v := nI 4) hX dL_law_537 rfl rfl ?_
            refine r_icmp_ne_N (tgt := 699) (pc' := 541) hX dL_law_538 (by decide) rfl (by omega) (by omega) (fun c538 => ?_) (fun c538 => ?_)
            · exact absurd c538 (by omega)
            · refine r_aload (pc' := 543) hX dL_law_541 rfl rfl ?_
              refine r_iconst (pc' := 544) (v := nI 0) hX dL_law_543 rfl rfl ?_
              refine V_callX (k' := 3725) (n' := 114914) (pc' := 547) (wr := ((([wx, u101] : List va_W)).eraseIdx 1).flatten) hX (r_runVX (As := [.int (nI 0)]) hX dL_law_544 k_L_90 (fun l9 hl9 => by cases hl9; exact cF_squeak (v := (ZS (z1 P M) (uz1 P M) []).1) rfl hF101 (AJz1).1 (hst := (by rw [hl]; exact hst))) hG (FS_recv hF101) rfl rfl (Nat.le_of_ble_eq_true rfl) (by decide) (by decide) (by decide) (by decide)) (fl_out 1 rfl) rfl rfl rfl (fun w9 u102 hp9 => ?_) ?_
              · obtain ⟨okq, rfl, hF102⟩ := hp9
                rw [show (qSqk (ZS (z1 P M) (uz1 P M) []).1 (nI 0) : Int32) = nI ((qz P M) % 100) from f1.2.2.1]
                change V X 3725 114914 (u102 ++ ((([wx, u101] : List va_W)).eraseIdx 1).flatten) [some (.ref (sa 90)), some (.ref x), some (.ref y), some (.int (nI (b 0 4))), some (.int (dg b)), some (.int c), some (.int (nI P)), some (.int (nI M)), some (.ref z), some (.int (nI (qz P M))), none, none] [.int (nI ((qz P M) % 100))] 547
                refine V_perm (fl_back (bs := ([wx, u101] : List va_W)) (bs' := ([wx, u102] : List va_W)) 1 rfl rfl) ?_
                change V X 3725 114914 (([wx, u102] : List va_W).flatten) [some (.ref (sa 90)), some (.ref x), some (.ref y), some (.int (nI (b 0 4))), some (.int (dg b)), some (.int c), some (.int (nI P)), some (.int (nI M)), some (.ref z), some (.int (nI (qz P M))), none, none] [.int (nI ((qz P M) % 100))] 547
                refine r_iload (pc' := 549) hX dL_law_547 rfl rfl ?_
                refine r_bipush (pc' := 551) (v := nI 100) hX dL_law_549 rfl rfl ?_
                refine r_irem_N (pc' := 552) hX dL_law_551 (by omega) (by omega) (by omega) rfl ?_
                refine r_icmp_ne_N (tgt := 699) (pc' := 555) hX dL_law_552 (by decide) rfl (by omega) (by omega) (fun c552 => ?_) (fun c552 => ?_)
                · exact absurd c552 (by omega)
                · refine r_aload (pc' := 557) hX dL_law_555 rfl rfl ?_
                  refine r_iconst (pc' := 558) (v := nI 3) hX dL_law_557 rfl rfl ?_
                  refine V_callX (k' := 3726) (n' := 114920) (pc' := 561) (wr := ((([wx, u102] : List va_W)).eraseIdx 1).flatten) hX (r_runVX (As := [.int (nI 3)]) hX dL_law_558 k_L_90 (fun l9 hl9 => by cases hl9; exact cF_squeak (v := (ZS (z1 P M) (uz1 P M) []).1) rfl hF102 (AJz1).1 (hst := (by rw [hl]; exact hst))) hG (FS_recv hF102) rfl rfl (Nat.le_of_ble_eq_true rfl) (by decide) (by decide) (by decide) (by decide)) (fl_out 1 rfl) rfl rfl rfl (fun w9 u103 hp9 => ?_) ?_
                  · obtain ⟨okq, rfl, hF103⟩ := hp9
                    rw [show (qSqk (ZS (z1 P M) (uz1 P M) []).1 (nI 3) : Int32) = nI (((qz P M) + 39) % 100) from f1.2.2.2.1]
                    change V X 3726 114920 (u103 ++ ((([wx, u102] : List va_W)).eraseIdx 1).flatten) [some (.ref (sa 90)), some (.ref x), some (.ref y), some (.int (nI (b 0 4))), some (.int (dg b)), some (.int c), some (.int (nI P)), some (.int (nI M)), some (.ref z), some (.int (nI (qz P M))), none, none] [.int (nI (((qz P M) + 39) % 100))] 561
                    refine V_perm (fl_back (bs := ([wx, u102] : List va_W)) (bs' := ([wx, u103] : List va_W)) 1 rfl rfl) ?_
                    change V X 3726 114920 (([wx, u103] : List va_W).flatten) [some (.ref (sa 90)), some (.ref x), some (.ref y), some (.int (nI (b 0 4))), some (.int (dg b)), some (.int c), some (.int (nI P)), some (.int (nI M)), some (.ref z), some (.int (nI (qz P M))), none, none] [.int (nI (((qz P M) + 39) % 100))] 561
                    refine r_iload (pc' := 563) hX dL_law_561 rfl rfl ?_
                    refine r_bipush (pc' := 565) (v := nI 39) hX dL_law_563 rfl rfl ?_
                    refine r_iadd_N (pc' := 566) hX dL_law_565  rfl ?_
                    refine r_bipush (pc' := 568) (v := nI 100) hX dL_law_566 rfl rfl ?_
                    refine r_irem_N (pc' := 569) hX dL_law_568 (by omega) (by omega) (by omega) rfl ?_
                    refine r_icmp_ne_N (tgt := 699) (pc' := 572) hX dL_law_569 (by decide) rfl (by omega) (by omega) (fun c569 => ?_) (fun c569 => ?_)
                    · exact absurd c569 (by omega)
                    · refine r_aload (pc' := 574) hX dL_law_572 rfl rfl ?_
                      refine r_iconst (pc' := 575) (v := nI 0) hX dL_law_574 rfl rfl ?_
                      refine V_callX (k' := 3727) (n' := 114926) (pc' := 578) (wr := ((([wx, u103] : List va_W)).eraseIdx 1).flatten) hX (r_runVX (As := [.int (nI 0)]) hX dL_law_575 k_L_123 (fun l9 hl9 => by cases hl9; exact cF_uses (v := (ZS (z1 P M) (uz1 P M) []).1) rfl hF103 (AJz1).1 (hst := (by rw [hl]; exact hst))) hG (FS_recv hF103) rfl rfl (Nat.le_of_ble_eq_true rfl) (by decide) (by decide) (by decide) (by decide)) (fl_out 1 rfl) rfl rfl rfl (fun w9 u104 hp9 => ?_) ?_
                      · obtain ⟨okq, rfl, hF104⟩ := hp9
                        rw [show (qMld 2 (ZS (z1 P M) (uz1 P M) []).1 (nI 0) : Int32) = nI 4 from f1.2.2.2.2.1]
                        change V X 3727 114926 (u104 ++ ((([wx, u103] : List va_W)).eraseIdx 1).flatten) [some (.ref (sa 90)), some (.ref x), some (.ref y), some (.int (nI (b 0 4))), some (.int (dg b)), some (.int c), some (.int (nI P)), some (.int (nI M)), some (.ref z), some (.int (nI (qz P M))), none, none] [.int (nI 4)] 578
                        refine V_perm (fl_back (bs := ([wx, u103] : List va_W)) (bs' := ([wx, u104] : List va_W)) 1 rfl rfl) ?_
                        change V X 3727 114926 (([wx, u104] : List va_W).flatten) [some (.ref (sa 90)), some (.ref x), some (.ref y), some (.int (nI (b 0 4))), some (.int (dg b)), some (.int c), some (.int (nI P)), some (.int (nI M)), some (.ref z), some (.int (nI (qz P M))), none, none] [.int (nI 4)] 578
                        refine r_iconst (pc' := 579) (v := nI 4) hX dL_law_578 rfl rfl ?_
                        refine r_icmp_ne_N (tgt := 699) (pc' := 582) hX dL_law_579 (by decide) rfl (by omega) (by omega) (fun c579 => ?_) (fun c579 => ?_)
                        · exact absurd c579 (by omega)
                        · refine r_aload (pc' := 584) hX dL_law_582 rfl rfl ?_
                          refine r_iconst (pc' := 585) (v := nI 0) hX dL_law_584 rfl rfl ?_
                          refine V_callX (k' := 3728) (n' := 114932) (pc' := 588) (wr := ((([wx, u104] : List va_W)).eraseIdx 1).flatten) hX (r_runVX (As := [.int (nI 0)]) hX dL_law_585 k_L_108 (fun l9 hl9 => by cases hl9; exact cF_stock (v := (ZS (z1 P M) (uz1 P M) []).1) rfl hF104 (AJz1).1 (hst := (by rw [hl]; exact hst))) hG (FS_recv hF104) rfl rfl (Nat.le_of_ble_eq_true rfl) (by decide) (by decide) (by decide) (by decide)) (fl_out 1 rfl) rfl rfl rfl (fun w9 u105 hp9 => ?_) ?_
                          · obtain ⟨okq, rfl, hF105⟩ := hp9
                            rw [show (qMet 3 (ZS (z1 P M) (uz1 P M) []).1 (nI 0) : Int32) = nI (40 - (4 * P)) from f1.2.2.2.2.2]
                            change V X 3728 114932 (u105 ++ ((([wx, u104] : List va_W)).eraseIdx 1).flatten) [some (.ref (sa 90)), some (.ref x), some (.ref y), some (.int (nI (b 0 4))), some (.int (dg b)), some (.int c), some (.int (nI P)), some (.int (nI M)), some (.ref z), some (.int (nI (qz P M))), none, none] [.int (nI (40 - (4 * P)))] 588
                            refine V_perm (fl_back (bs := ([wx, u104] : List va_W)) (bs' := ([wx, u105] : List va_W)) 1 rfl rfl) ?_
                            change V X 3728 114932 (([wx, u105] : List va_W).flatten) [some (.ref (sa 90)), some (.ref x), some (.ref y), some (.int (nI (b 0 4))), some (.int (dg b)), some (.int c), some (.int (nI P)), some (.int (nI M)), some (.ref z), some (.int (nI (qz P M))), none, none] [.int (nI (40 - (4 * P)))] 588
                            refine r_bipush (pc' := 590) (v := nI 40) hX dL_law_588 rfl rfl ?_
                            refine r_iconst (pc' := 591) (v := nI 4) hX dL_law_590 rfl rfl ?_
                            refine r_iload (pc' := 593) hX dL_law_591 rfl rfl ?_
                            refine r_imul_N (pc' := 594) hX dL_law_593  rfl ?_
                            refine r_isub_N (pc' := 595) hX dL_law_594 (by omega) rfl ?_
                            refine r_icmp_ne_N (tgt := 699) (pc' := 598) hX dL_law_595 (by decide) rfl (by omega) (by omega) (fun c595 => ?_) (fun c595 => ?_)
                            · exact absurd c595 (by omega)
                            · refine r_aload (pc' := 600) hX dL_law_598 rfl rfl ?_
                              refine r_iconst (pc' := 601) (v := nI 1) hX dL_law_600 rfl rfl ?_
                              refine V_callX (k' := 3729) (n' := 114938) (pc' := 604) (wr := ((([wx, u105] : List va_W)).eraseIdx 1).flatten) hX (r_runVX (As := [.int (nI 1)]) hX dL_law_601 k_L_108 (fun l9 hl9 => by cases hl9; exact cF_stock (v := (ZS (z1 P M) (uz1 P M) []).1) rfl hF105 (AJz1).1 (hst := (by rw [hl]; exact hst))) hG (FS_recv hF105) rfl rfl (Nat.le_of_ble_eq_true rfl) (by decide) (by decide) (by decide) (by decide)) (fl_out 1 rfl) rfl rfl rfl (fun w9 u106 hp9 => ?_) ?_
                              · obtain ⟨okq, rfl, hF106⟩ := hp9
                                rw [show (qMet 3 (ZS (z1 P M) (uz1 P M) []).1 (nI 1) : Int32) = nI 0 from f2.1]
                                change V X 3729 114938 (u106 ++ ((([wx, u105] : List va_W)).eraseIdx 1).flatten) [some (.ref (sa 90)), some (.ref x), some (.ref y), some (.int (nI (b 0 4))), some (.int (dg b)), some (.int c), some (.int (nI P)), some (.int (nI M)), some (.ref z), some (.int (nI (qz P M))), none, none] [.int (nI 0)] 604
                                refine V_perm (fl_back (bs := ([wx, u105] : List va_W)) (bs' := ([wx, u106] : List va_W)) 1 rfl rfl) ?_
                                change V X 3729 114938 (([wx, u106] : List va_W).flatten) [some (.ref (sa 90)), some (.ref x), some (.ref y), some (.int (nI (b 0 4))), some (.int (dg b)), some (.int c), some (.int (nI P)), some (.int (nI M)), some (.ref z), some (.int (nI (qz P M))), none, none] [.int (nI 0)] 604
                                refine r_if_ne_N (tgt := 699) (pc' := 607) hX dL_law_604 (by decide) rfl (by omega) (fun c604 => ?_) (fun c604 => ?_)
                                · exact absurd c604 (by omega)
                                · refine r_aload (pc' := 609) hX dL_law_607 rfl rfl ?_
                                  refine r_iconst (pc' := 610) (v := nI 2) hX dL_law_609 rfl rfl ?_
                                  refine V_callX (k' := 3730) (n' := 114944) (pc' := 613) (wr := ((([wx, u106] : List va_W)).eraseIdx 1).flatten) hX (r_runVX (As := [.int (nI 2)]) hX dL_law_610 k_L_108 (fun l9 hl9 => by cases hl9; exact cF_stock (v := (ZS (z1 P M) (uz1 P M) []).1) rfl hF106 (AJz1).1 (hst := (by rw [hl]; exact hst))) hG (FS_recv hF106) rfl rfl (Nat.le_of_ble_eq_true rfl) (by decide) (by decide) (by decide) (by decide)) (fl_out 1 rfl) rfl rfl rfl (fun w9 u107 hp9 => ?_) ?_
                                  · obtain ⟨okq, rfl, hF107⟩ := hp9
                                    rw [show (qMet 3 (ZS (z1 P M) (uz1 P M) []).1 (nI 2) : Int32) = nI 12 from f2.2.1]
                                    change V X 3730 114944 (u107 ++ ((([wx, u106] : List va_W)).eraseIdx 1).flatten) [some (.ref (sa 90)), some (.ref x), some (.ref y), some (.int (nI (b 0 4))), some (.int (dg b)), some (.int c), some (.int (nI P)), some (.int (nI M)), some (.ref z), some (.int (nI (qz P M))), none, none] [.int (nI 12)] 613
                                    refine V_perm (fl_back (bs := ([wx, u106] : List va_W)) (bs' := ([wx, u107] : List va_W)) 1 rfl rfl) ?_
                                    change V X 3730 114944 (([wx, u107] : List va_W).flatten) [some (.ref (sa 90)), some (.ref x), some (.ref y), some (.int (nI (b 0 4))), some (.int (dg b)), some (.int c), some (.int (nI P)), some (.int (nI M)), some (.ref z), some (.int (nI (qz P M))), none, none] [.int (nI 12)] 613
                                    refine r_bipush (pc' := 615) (v := nI 12) hX dL_law_613 rfl rfl ?_
                                    refine r_icmp_ne_N (tgt := 699) (pc' := 618) hX dL_law_615 (by decide) rfl (by omega) (by omega) (fun c615 => ?_) (fun c615 => ?_)
                                    · exact absurd c615 (by omega)
                                    · refine r_aload (pc' := 620) hX dL_law_618 rfl rfl ?_
                                      refine r_iconst (pc' := 621) (v := nI 0) hX dL_law_620 rfl rfl ?_
                                      refine V_callX (k' := 3731) (n' := 114950) (pc' := 624) (wr := ((([wx, u107] : List va_W)).eraseIdx 1).flatten) hX (r_runVX (As := [.int (nI 0)]) hX dL_law_621 k_L_215 (fun l9 hl9 => by cases hl9; exact cF_possibleBows (v := (ZS (z1 P M) (uz1 P M) []).1) rfl hF107 (AJz1).1 (hst := (by rw [hl]; exact hst))) hG (FS_recv hF107) rfl rfl (Nat.le_of_ble_eq_true rfl) (by decide) (by decide) (by decide) (by decide)) (fl_out 1 rfl) rfl rfl rfl (fun w9 u108 hp9 => ?_) ?_
                                      · obtain ⟨okq, rfl, hF108⟩ := hp9
                                        rw [show (qPos (ZS (z1 P M) (uz1 P M) []).1 (nI 0) : Int32) = nI 6 from f2.2.2.1]
                                        change V X 3731 114950 (u108 ++ ((([wx, u107] : List va_W)).eraseIdx 1).flatten) [some (.ref (sa 90)), some (.ref x), some (.ref y), some (.int (nI (b 0 4))), some (.int (dg b)), some (.int c), some (.int (nI P)), some (.int (nI M)), some (.ref z), some (.int (nI (qz P M))), none, none] [.int (nI 6)] 624
                                        refine V_perm (fl_back (bs := ([wx, u107] : List va_W)) (bs' := ([wx, u108] : List va_W)) 1 rfl rfl) ?_
                                        change V X 3731 114950 (([wx, u108] : List va_W).flatten) [some (.ref (sa 90)), some (.ref x), some (.ref y), some (.int (nI (b 0 4))), some (.int (dg b)), some (.int c), some (.int (nI P)), some (.int (nI M)), some (.ref z), some (.int (nI (qz P M))), none, none] [.int (nI 6)] 624
                                        refine r_bipush (pc' := 626) (v := nI 6) hX dL_law_624 rfl rfl ?_
                                        refine r_icmp_ne_N (tgt := 699) (pc' := 629) hX dL_law_626 (by decide) rfl (by omega) (by omega) (fun c626 => ?_) (fun c626 => ?_)
                                        · exact absurd c626 (by omega)
                                        · refine r_aload (pc' := 631) hX dL_law_629 rfl rfl ?_
                                          refine r_iconst (pc' := 632) (v := nI 0) hX dL_law_631 rfl rfl ?_
                                          refine r_iconst (pc' := 633) (v := nI 0) hX dL_law_632 rfl rfl ?_
                                          refine V_callX (k' := 3732) (n' := 114956) (pc' := 636) (wr := ((([wx, u108] : List va_W)).eraseIdx 1).flatten) hX (r_runVX (As := [.int (nI 0), .int (nI 0)]) hX dL_law_633 k_L_218 (fun l9 hl9 => by cases hl9; exact cF_nextSqueak (v := (ZS (z1 P M) (uz1 P M) []).1) rfl hF108 (AJz1).1 (hst := (by rw [hl]; exact hst))) hG (FS_recv hF108) rfl rfl (Nat.le_of_ble_eq_true rfl) (by decide) (by decide) (by decide) (by decide)) (fl_out 1 rfl) rfl rfl rfl (fun w9 u109 hp9 => ?_) ?_
                                          · obtain ⟨okq, rfl, hF109⟩ := hp9
                                            rw [show (qNxt (ZS (z1 P M) (uz1 P M) []).1 (nI 0) (nI 0) : Int32) = nI (((qz P M) + 52) % 100) from f2.2.2.2.1]
                                            change V X 3732 114956 (u109 ++ ((([wx, u108] : List va_W)).eraseIdx 1).flatten) [some (.ref (sa 90)), some (.ref x), some (.ref y), some (.int (nI (b 0 4))), some (.int (dg b)), some (.int c), some (.int (nI P)), some (.int (nI M)), some (.ref z), some (.int (nI (qz P M))), none, none] [.int (nI (((qz P M) + 52) % 100))] 636
                                            refine V_perm (fl_back (bs := ([wx, u108] : List va_W)) (bs' := ([wx, u109] : List va_W)) 1 rfl rfl) ?_
                                            change V X 3732 114956 (([wx, u109] : List va_W).flatten) [some (.ref (sa 90)), some (.ref x), some (.ref y), some (.int (nI (b 0 4))), some (.int (dg b)), some (.int c), some (.int (nI P)), some (.int (nI M)), some (.ref z), some (.int (nI (qz P M))), none, none] [.int (nI (((qz P M) + 52) % 100))] 636
                                            refine r_iload (pc' := 638) hX dL_law_636 rfl rfl ?_
                                            refine r_bipush (pc' := 640) (v := nI 52) hX dL_law_638 rfl rfl ?_
                                            refine r_iadd_N (pc' := 641) hX dL_law_640  rfl ?_
                                            refine r_bipush (pc' := 643) (v := nI 100) hX dL_law_641 rfl rfl ?_
                                            refine r_irem_N (pc' := 644) hX dL_law_643 (by omega) (by omega) (by omega) rfl ?_
                                            refine r_icmp_ne_N (tgt := 699) (pc' := 647) hX dL_law_644 (by decide) rfl (by omega) (by omega) (fun c644 => ?_) (fun c644 => ?_)
                                            · exact absurd c644 (by omega)
                                            · refine r_aload (pc' := 649) hX dL_law_647 rfl rfl ?_
                                              refine r_iconst (pc' := 650) (v := nI 2) hX dL_law_649 rfl rfl ?_
                                              refine V_callX (k' := 3733) (n' := 114962) (pc' := 653) (wr := ((([wx, u109] : List va_W)).eraseIdx 1).flatten) hX (r_runVX (As := [.int (nI 2)]) hX dL_law_650 k_L_221 (fun l9 hl9 => by cases hl9; exact cF_metalInBatches (v := (ZS (z1 P M) (uz1 P M) []).1) rfl hF109 (AJz1).1 (hst := (by rw [hl]; exact hst))) hG (FS_recv hF109) rfl rfl (Nat.le_of_ble_eq_true rfl) (by decide) (by decide) (by decide) (by decide)) (fl_out 1 rfl) rfl rfl rfl (fun w9 u110 hp9 => ?_) ?_
                                              · obtain ⟨okq, rfl, hF110⟩ := hp9
                                                rw [show (qMib (ZS (z1 P M) (uz1 P M) []).1 (nI 2) : Int32) = nI 8 from f2.2.2.2.2.1]
                                                change V X 3733 114962 (u110 ++ ((([wx, u109] : List va_W)).eraseIdx 1).flatten) [some (.ref (sa 90)), some (.ref x), some (.ref y), some (.int (nI (b 0 4))), some (.int (dg b)), some (.int c), some (.int (nI P)), some (.int (nI M)), some (.ref z), some (.int (nI (qz P M))), none, none] [.int (nI 8)] 653
                                                refine V_perm (fl_back (bs := ([wx, u109] : List va_W)) (bs' := ([wx, u110] : List va_W)) 1 rfl rfl) ?_
                                                change V X 3733 114962 (([wx, u110] : List va_W).flatten) [some (.ref (sa 90)), some (.ref x), some (.ref y), some (.int (nI (b 0 4))), some (.int (dg b)), some (.int c), some (.int (nI P)), some (.int (nI M)), some (.ref z), some (.int (nI (qz P M))), none, none] [.int (nI 8)] 653
                                                refine r_bipush (pc' := 655) (v := nI 8) hX dL_law_653 rfl rfl ?_
                                                refine r_icmp_ne_N (tgt := 699) (pc' := 658) hX dL_law_655 (by decide) rfl (by omega) (by omega) (fun c655 => ?_) (fun c655 => ?_)
                                                · exact absurd c655 (by omega)
                                                · refine r_aload (pc' := 660) hX dL_law_658 rfl rfl ?_
                                                  refine r_iconst (pc' := 661) (v := nI 2) hX dL_law_660 rfl rfl ?_
                                                  refine V_callX (k' := 3734) (n' := 114968) (pc' := 664) (wr := ((([wx, u110] : List va_W)).eraseIdx 1).flatten) hX (r_runVX (As := [.int (nI 2)]) hX dL_law_661 k_L_224 (fun l9 hl9 => by cases hl9; exact cF_metalByAccounts (v := (ZS (z1 P M) (uz1 P M) []).1) rfl hF110 (AJz1).1 (hst := (by rw [hl]; exact hst))) hG (FS_recv hF110) rfl rfl (Nat.le_of_ble_eq_true rfl) (by decide) (by decide) (by decide) (by decide)) (fl_out 1 rfl) rfl rfl rfl (fun w9 u111 hp9 => ?_) ?_
                                                  · obtain ⟨okq, rfl, hF111⟩ := hp9
                                                    rw [show (qMib (ZS (z1 P M) (uz1 P M) []).1 (nI 2) : Int32) = nI 8 from f2.2.2.2.2.1]
                                                    change V X 3734 114968 (u111 ++ ((([wx, u110] : List va_W)).eraseIdx 1).flatten) [some (.ref (sa 90)), some (.ref x), some (.ref y), some (.int (nI (b 0 4))), some (.int (dg b)), some (.int c), some (.int (nI P)), some (.int (nI M)), some (.ref z), some (.int (nI (qz P M))), none, none] [.int (nI 8)] 664
                                                    refine V_perm (fl_back (bs := ([wx, u110] : List va_W)) (bs' := ([wx, u111] : List va_W)) 1 rfl rfl) ?_
                                                    change V X 3734 114968 (([wx, u111] : List va_W).flatten) [some (.ref (sa 90)), some (.ref x), some (.ref y), some (.int (nI (b 0 4))), some (.int (dg b)), some (.int c), some (.int (nI P)), some (.int (nI M)), some (.ref z), some (.int (nI (qz P M))), none, none] [.int (nI 8)] 664
                                                    refine r_bipush (pc' := 666) (v := nI 8) hX dL_law_664 rfl rfl ?_
                                                    refine r_icmp_ne_N (tgt := 699) (pc' := 669) hX dL_law_666 (by decide) rfl (by omega) (by omega) (fun c666 => ?_) (fun c666 => ?_)
                                                    · exact absurd c666 (by omega)
                                                    · refine r_aload (pc' := 671) hX dL_law_669 rfl rfl ?_
                                                      refine r_iconst (pc' := 672) (v := nI 3) hX dL_law_671 rfl rfl ?_
                                                      refine r_iconst (pc' := 673) (v := nI 0) hX dL_law_672 rfl rfl ?_
                                                      refine r_iconst (pc' := 674) (v := nI 0) hX dL_law_673 rfl rfl ?_
                                                      refine r_bipush (pc' := 676) (v := nI 7) hX dL_law_674 rfl rfl ?_
                                                      refine V_call (k' := 3735) (n' := 114974) (pc' := 679) (wr := ((([wx, u111] : List va_W)).eraseIdx 1).flatten) hX (r_runSW (As := [.ref z, .int (nI 3), .int (nI 0), .int (nI 0), .int (nI 7)]) hX dL_law_676 kw_L_30 (fun l9 hl9 => by cases hl9; exact cA_3 (S := (ZS (z1 P M) (uz1 P M) [])) (a := nI 0) (b := nI 0) (c := nI 7) hF111 (AJz1) (hst := (by rw [hl]; exact hst))) hG rfl rfl (Nat.le_of_ble_eq_true rfl) (by decide) (by decide) (by decide) (by decide)) (fl_out 1 rfl) rfl rfl rfl (fun w9 u112 hp9 => ?_)
                                                      obtain ⟨rfl, hF112⟩ := hp9
                                                      rw [aMut_no (S := ZS (z1 P M) (uz1 P M) []) (o := oPour (ZS (z1 P M) (uz1 P M) []).1 (nI 0) (nI 0) (nI 7)) (by rw [show (oPour (ZS (z1 P M) (uz1 P M) []).1 (nI 0) (nI 0) (nI 7)).1 = (-4) from f2.2.2.2.2.2.1]; decide)] at hF112
                                                      rw [show ((oPour (ZS (z1 P M) (uz1 P M) []).1 (nI 0) (nI 0) (nI 7)).1 : Int32) = (-4) from f2.2.2.2.2.2.1]
                                                      change V X 3735 114974 (u112 ++ ((([wx, u111] : List va_W)).eraseIdx 1).flatten) [some (.ref (sa 90)), some (.ref x), some (.ref y), some (.int (nI (b 0 4))), some (.int (dg b)), some (.int c), some (.int (nI P)), some (.int (nI M)), some (.ref z), some (.int (nI (qz P M))), none, none] [.int (-4)] 679
                                                      refine V_perm (fl_back (bs := ([wx, u111] : List va_W)) (bs' := ([wx, u112] : List va_W)) 1 rfl rfl) ?_
                                                      refine r_bipush (pc' := 681) (v := (-4)) hX dL_law_679 rfl rfl ?_
                                                      refine r_icmp_ne (tgt := 699) (pc' := 684) hX dL_law_681 (by decide) rfl (fun c681 => ?_) (fun c681 => ?_)
                                                      · exact absurd rfl c681
                                                      · refine r_aload (pc' := 686) hX dL_law_684 rfl rfl ?_
                                                        refine r_iconst (pc' := 687) (v := nI 3) hX dL_law_686 rfl rfl ?_
                                                        refine r_iconst (pc' := 688) (v := nI 0) hX dL_law_687 rfl rfl ?_
                                                        refine r_iconst (pc' := 689) (v := nI 0) hX dL_law_688 rfl rfl ?_
                                                        refine r_bipush (pc' := 691) (v := nI 10) hX dL_law_689 rfl rfl ?_
                                                        refine V_call (k' := 3736) (n' := 114980) (pc' := 694) (wr := ((([wx, u112] : List va_W)).eraseIdx 1).flatten) hX (r_runSW (As := [.ref z, .int (nI 3), .int (nI 0), .int (nI 0), .int (nI 10)]) hX dL_law_691 kw_L_30 (fun l9 hl9 => by cases hl9; exact cA_3 (S := (ZS (z1 P M) (uz1 P M) [])) (a := nI 0) (b := nI 0) (c := nI 10) hF112 (AJz1) (hst := (by rw [hl]; exact hst))) hG rfl rfl (Nat.le_of_ble_eq_true rfl) (by decide) (by decide) (by decide) (by decide)) (fl_out 1 rfl) rfl rfl rfl (fun w9 u113 hp9 => ?_)
                                                        obtain ⟨rfl, hF113⟩ := hp9
                                                        rw [aMut_no (S := ZS (z1 P M) (uz1 P M) []) (o := oPour (ZS (z1 P M) (uz1 P M) []).1 (nI 0) (nI 0) (nI 10)) (by rw [show (oPour (ZS (z1 P M) (uz1 P M) []).1 (nI 0) (nI 0) (nI 10)).1 = (-2) from f2.2.2.2.2.2.2]; decide)] at hF113
                                                        rw [show ((oPour (ZS (z1 P M) (uz1 P M) []).1 (nI 0) (nI 0) (nI 10)).1 : Int32) = (-2) from f2.2.2.2.2.2.2]
                                                        change V X 3736 114980 (u113 ++ ((([wx, u112] : List va_W)).eraseIdx 1).flatten) [some (.ref (sa 90)), some (.ref x), some (.ref y), some (.int (nI (b 0 4))), some (.int (dg b)), some (.int c), some (.int (nI P)), some (.int (nI M)), some (.ref z), some (.int (nI (qz P M))), none, none] [.int (-2)] 694
                                                        refine V_perm (fl_back (bs := ([wx, u112] : List va_W)) (bs' := ([wx, u113] : List va_W)) 1 rfl rfl) ?_
                                                        refine r_bipush (pc' := 696) (v := (-2)) hX dL_law_694 rfl rfl ?_
                                                        refine r_icmp_eq (tgt := 701) (pc' := 699) hX dL_law_696 (by decide) rfl (fun c696 => ?_) (fun c696 => ?_)
                                                        · exact cont _ _ hx hF113
                                                        · exact absurd rfl c696
                                                  · intro E9 u9 hp9
                                                    exact absurd hp9.1 (by rw [show (qMib (ZS (z1 P M) (uz1 P M) []).1 (nI 2) : Int32) = nI 8 from f2.2.2.2.2.1]; exact okN (by first | decide | omega))
                                              · intro E9 u9 hp9
                                                exact absurd hp9.1 (by rw [show (qMib (ZS (z1 P M) (uz1 P M) []).1 (nI 2) : Int32) = nI 8 from f2.2.2.2.2.1]; exact okN (by first | decide | omega))
                                          · intro E9 u9 hp9
                                            exact absurd hp9.1 (by rw [show (qNxt (ZS (z1 P M) (uz1 P M) []).1 (nI 0) (nI 0) : Int32) = nI (((qz P M) + 52) % 100) from f2.2.2.2.1]; exact okN (by first | decide | omega))
                                      · intro E9 u9 hp9
                                        exact absurd hp9.1 (by rw [show (qPos (ZS (z1 P M) (uz1 P M) []).1 (nI 0) : Int32) = nI 6 from f2.2.2.1]; exact okN (by first | decide | omega))
                                  · intro E9 u9 hp9
                                    exact absurd hp9.1 (by rw [show (qMet 3 (ZS (z1 P M) (uz1 P M) []).1 (nI 2) : Int32) = nI 12 from f2.2.1]; exact okN (by first | decide | omega))
                              · intro E9 u9 hp9
                                exact absurd hp9.1 (by rw [show (qMet 3 (ZS (z1 P M) (uz1 P M) []).1 (nI 1) : Int32) = nI 0 from f2.1]; exact okN (by first | decide | omega))
                          · intro E9 u9 hp9
                            exact absurd hp9.1 (by rw [show (qMet 3 (ZS (z1 P M) (uz1 P M) []).1 (nI 0) : Int32) = nI (40 - (4 * P)) from f1.2.2.2.2.2]; exact okN (by first | decide | omega))
                      · intro E9 u9 hp9
                        exact absurd hp9.1 (by rw [show (qMld 2 (ZS (z1 P M) (uz1 P M) []).1 (nI 0) : Int32) = nI 4 from f1.2.2.2.2.1]; exact okN (by first | decide | omega))
                  · intro E9 u9 hp9
                    exact absurd hp9.1 (by rw [show (qSqk (ZS (z1 P M) (uz1 P M) []).1 (nI 3) : Int32) = nI (((qz P M) + 39) % 100) from f1.2.2.2.1]; exact okN (by first | decide | omega))
              · intro E9 u9 hp9
                exact absurd hp9.1 (by rw [show (qSqk (ZS (z1 P M) (uz1 P M) []).1 (nI 0) : Int32) = nI ((qz P M) % 100) from f1.2.2.1]; exact okN (by first | decide | omega))
          · intro E9 u9 hp9
            exact absurd hp9.1 (by rw [show (qBat (bNum 2) (ZS (z1 P M) (uz1 P M) []).1 (nI 0) : Int32) = nI 4 from f1.2.1]; exact okN (by first | decide | omega))
      · intro E9 u9 hp9
        exact absurd hp9.1 (by rw [show (qAt (ZS (z1 P M) (uz1 P M) []).1 (nI 0) : Int32) = nI 0 from f1.1]; exact okN (by first | decide | omega))
  · intro E9 u9 hp9
    exact absurd hp9.1 (by rw [show (qRun (ZS vIni [] (tz P M)) : Int32) = nI 5 from fr.1]; exact okN (by first | decide | omega))

set_option maxRecDepth 20000 in
set_option maxHeartbeats 4000000 in
theorem k_8 {X : xC} {l : Launch} {D : va_G} {cy : Nat → ClassId} {sa : Nat → Nat} (hX : Ok SF X cL_law RL 20 5000 130000) (hG : c0_G X = (D, cy, sa)) (hcy : c0_cy X = cy) (hnL : c0_nL X = 12) (hl : c0_l X = l) (hst : l.stackTraces = false) {y P M : Nat} {b : SV} {SX : AS} {c : Int32} (hP : 1 ≤ P ∧ P ≤ 4) (hM : 1 ≤ M ∧ M ≤ 4) {x z : Nat} {wx wz : va_W} (hx : FS cy x SX wx) (hz : FS cy z (ZS (z1 P M) (uz1 P M) []) wz) (cont : ∀ (wx wz : va_W), FS cy x SX wx → FS cy z (ZS (z4 P M) (uz4 P M) []) wz → V X 3746 115040 (([wx, wz] : List va_W).flatten) [some (.ref (sa 90)), some (.ref x), some (.ref y), some (.int (nI (b 0 4))), some (.int (dg b)), some (.int c), some (.int (nI P)), some (.int (nI M)), some (.ref z), some (.int (nI (qz P M))), none, none] [] 816) : V X 3736 114980 (([wx, wz] : List va_W).flatten) [some (.ref (sa 90)), some (.ref x), some (.ref y), some (.int (nI (b 0 4))), some (.int (dg b)), some (.int c), some (.int (nI P)), some (.int (nI M)), some (.ref z), some (.int (nI (qz P M))), none, none] [] 701 := by
  have e1 : P - 1 + 1 = P := by omega
  have e2 : M - 1 + 1 = M := by omega
  have f1 := zf1 (P - 1) (by omega) (M - 1) (by omega)
  have f2 := zf2 (P - 1) (by omega) (M - 1) (by omega)
  have f3 := zf3 (P - 1) (by omega) (M - 1) (by omega)
  have f4 := zf4 (P - 1) (by omega) (M - 1) (by omega)
  have f5 := zf5 (P - 1) (by omega) (M - 1) (by omega)
  have f6 := zf6 (P - 1) (by omega) (M - 1) (by omega)
  have f7 := zf7 (P - 1) (by omega) (M - 1) (by omega)
  have f8 := zf8 (P - 1) (by omega) (M - 1) (by omega)
  have f9 := zf9 (P - 1) (by omega) (M - 1) (by omega)
  have fn := zn (p := P - 1) (l := M - 1) (by omega) (by omega)
  have fr := zs_run (p := P - 1) (l := M - 1) (by omega) (by omega)
  rw [e1, e2] at f1 f2 f3 f4 f5 f6 f7 f8 f9 fn fr
  have hqz : qz P M ≤ 54 := by unfold qz; omega
  refine r_aload (pc' := 703) hX dL_law_701 rfl rfl ?_
  refine r_iload (pc' := 705) hX dL_law_703 rfl rfl ?_
  refine r_bipush (pc' := 707) (v := nI 100) hX dL_law_705 rfl rfl ?_
  refine r_irem_N (pc' := 708) hX dL_law_707 (by omega) (by omega) (by omega) rfl ?_
  refine V_callX (k' := 3737) (n' := 114986) (pc' := 711) (wr := ((([wx, wz] : List va_W)).eraseIdx 1).flatten) hX (r_runVX (As := [.int (nI ((qz P M) % 100))]) hX dL_law_708 k_L_68 (fun l9 hl9 => by cases hl9; exact cF_setTolerance (v := (ZS (z1 P M) (uz1 P M) []).1) rfl hz (AJz1).1 (hst := (by rw [hl]; exact hst))) hG (FS_recv hz) rfl rfl (Nat.le_of_ble_eq_true rfl) (by decide) (by decide) (by decide) (by decide)) (fl_out 1 rfl) rfl rfl rfl (fun w9 u114 hp9 => ?_) ?_
  · obtain ⟨okq, rfl, hF114⟩ := hp9
    rw [show ((oTol (ZS (z1 P M) (uz1 P M) []).1 (nI ((qz P M) % 100))).1 : Int32) = nI 50 from (tol_ok (v := z1 P M) (x := qz P M % 100) (by omega)).trans (congrArg nI f3.1)]
    change V X 3737 114986 (u114 ++ ((([wx, wz] : List va_W)).eraseIdx 1).flatten) [some (.ref (sa 90)), some (.ref x), some (.ref y), some (.int (nI (b 0 4))), some (.int (dg b)), some (.int c), some (.int (nI P)), some (.int (nI M)), some (.ref z), some (.int (nI (qz P M))), none, none] [.int (nI 50)] 711
    refine V_perm (fl_back (bs := ([wx, wz] : List va_W)) (bs' := ([wx, u114] : List va_W)) 1 rfl rfl) ?_
    change V X 3737 114986 (([wx, u114] : List va_W).flatten) [some (.ref (sa 90)), some (.ref x), some (.ref y), some (.int (nI (b 0 4))), some (.int (dg b)), some (.int c), some (.int (nI P)), some (.int (nI M)), some (.ref z), some (.int (nI (qz P M))), none, none] [.int (nI 50)] 711
    refine r_bipush (pc' := 713) (v := nI 50) hX dL_law_711 rfl rfl ?_
    refine r_icmp_ne_N (tgt := 814) (pc' := 716) hX dL_law_713 (by decide) rfl (by omega) (by omega) (fun c713 => ?_) (fun c713 => ?_)
    · exact absurd c713 (by omega)
    · refine r_aload (pc' := 718) hX dL_law_716 rfl rfl ?_
      refine r_iconst (pc' := 719) (v := nI 0) hX dL_law_718 rfl rfl ?_
      refine V_callX (k' := 3738) (n' := 114992) (pc' := 722) (wr := ((([wx, u114] : List va_W)).eraseIdx 1).flatten) hX (r_runVX (As := [.int (nI 0)]) hX dL_law_719 k_L_227 (fun l9 hl9 => by cases hl9; exact cF_sampleSize (v := (ZS (z2 P M) (uz2 P M) []).1) rfl hF114 (AJz2).1 (hst := (by rw [hl]; exact hst))) hG (FS_recv hF114) rfl rfl (Nat.le_of_ble_eq_true rfl) (by decide) (by decide) (by decide) (by decide)) (fl_out 1 rfl) rfl rfl rfl (fun w9 u115 hp9 => ?_) ?_
      · obtain ⟨okq, rfl, hF115⟩ := hp9
        rw [show (qBat bSam (ZS (z2 P M) (uz2 P M) []).1 (nI 0) : Int32) = nI 2 from f3.2.1]
        change V X 3738 114992 (u115 ++ ((([wx, u114] : List va_W)).eraseIdx 1).flatten) [some (.ref (sa 90)), some (.ref x), some (.ref y), some (.int (nI (b 0 4))), some (.int (dg b)), some (.int c), some (.int (nI P)), some (.int (nI M)), some (.ref z), some (.int (nI (qz P M))), none, none] [.int (nI 2)] 722
        refine V_perm (fl_back (bs := ([wx, u114] : List va_W)) (bs' := ([wx, u115] : List va_W)) 1 rfl rfl) ?_
        change V X 3738 114992 (([wx, u115] : List va_W).flatten) [some (.ref (sa 90)), some (.ref x), some (.ref y), some (.int (nI (b 0 4))), some (.int (dg b)), some (.int c), some (.int (nI P)), some (.int (nI M)), some (.ref z), some (.int (nI (qz P M))), none, none] [.int (nI 2)] 722
        refine r_iconst (pc' := 723) (v := nI 2) hX dL_law_722 rfl rfl ?_
        refine r_icmp_ne_N (tgt := 814) (pc' := 726) hX dL_law_723 (by decide) rfl (by omega) (by omega) (fun c723 => ?_) (fun c723 => ?_)
        · exact absurd c723 (by omega)
        · refine r_aload (pc' := 728) hX dL_law_726 rfl rfl ?_
          refine r_iconst (pc' := 729) (v := nI 0) hX dL_law_728 rfl rfl ?_
          refine V_callX (k' := 3739) (n' := 114998) (pc' := 732) (wr := ((([wx, u115] : List va_W)).eraseIdx 1).flatten) hX (r_runVX (As := [.int (nI 0)]) hX dL_law_729 k_L_230 (fun l9 hl9 => by cases hl9; exact cF_wouldPass (v := (ZS (z2 P M) (uz2 P M) []).1) rfl hF115 (AJz2).1 (hst := (by rw [hl]; exact hst))) hG (FS_recv hF115) rfl rfl (Nat.le_of_ble_eq_true rfl) (by decide) (by decide) (by decide) (by decide)) (fl_out 1 rfl) rfl rfl rfl (fun w9 u116 hp9 => ?_) ?_
          · obtain ⟨hpl9, rfl, hF116⟩ := hp9
            rw [show (bI (pas ((ZS (z2 P M) (uz2 P M) []).1 (21 + plc (ZS (z2 P M) (uz2 P M) []).1 (nI 0).toInt)) ((ZS (z2 P M) (uz2 P M) []).1 (13 + plc (ZS (z2 P M) (uz2 P M) []).1 (nI 0).toInt) 2) ((ZS (z2 P M) (uz2 P M) []).1 0 3) ((ZS (z2 P M) (uz2 P M) []).1 0 2)) : Int32) = nI 0 from bI_f f3.2.2.2.1]
            change V X 3739 114998 (u116 ++ ((([wx, u115] : List va_W)).eraseIdx 1).flatten) [some (.ref (sa 90)), some (.ref x), some (.ref y), some (.int (nI (b 0 4))), some (.int (dg b)), some (.int c), some (.int (nI P)), some (.int (nI M)), some (.ref z), some (.int (nI (qz P M))), none, none] [.int (nI 0)] 732
            refine V_perm (fl_back (bs := ([wx, u115] : List va_W)) (bs' := ([wx, u116] : List va_W)) 1 rfl rfl) ?_
            change V X 3739 114998 (([wx, u116] : List va_W).flatten) [some (.ref (sa 90)), some (.ref x), some (.ref y), some (.int (nI (b 0 4))), some (.int (dg b)), some (.int c), some (.int (nI P)), some (.int (nI M)), some (.ref z), some (.int (nI (qz P M))), none, none] [.int (nI 0)] 732
            refine r_if_ne_N (tgt := 814) (pc' := 735) hX dL_law_732 (by decide) rfl (by omega) (fun c732 => ?_) (fun c732 => ?_)
            · exact absurd c732 (by omega)
            · refine r_aload (pc' := 737) hX dL_law_735 rfl rfl ?_
              refine r_iconst (pc' := 738) (v := nI 0) hX dL_law_737 rfl rfl ?_
              refine V_callX (k' := 3740) (n' := 115004) (pc' := 741) (wr := ((([wx, u116] : List va_W)).eraseIdx 1).flatten) hX (r_runVX (As := [.int (nI 0)]) hX dL_law_738 k_L_233 (fun l9 hl9 => by cases hl9; exact cF_neededTolerance (v := (ZS (z2 P M) (uz2 P M) []).1) rfl hF116 (AJz2).1 (hst := (by rw [hl]; exact hst))) hG (FS_recv hF116) rfl rfl (Nat.le_of_ble_eq_true rfl) (by decide) (by decide) (by decide) (by decide)) (fl_out 1 rfl) rfl rfl rfl (fun w9 u117 hp9 => ?_) ?_
              · obtain ⟨okq, rfl, hF117⟩ := hp9
                rw [show (qBat bNee (ZS (z2 P M) (uz2 P M) []).1 (nI 0) : Int32) = nI (max ((qz P M) % 100) (((qz P M) + 26) % 100)) from fn]
                change V X 3740 115004 (u117 ++ ((([wx, u116] : List va_W)).eraseIdx 1).flatten) [some (.ref (sa 90)), some (.ref x), some (.ref y), some (.int (nI (b 0 4))), some (.int (dg b)), some (.int c), some (.int (nI P)), some (.int (nI M)), some (.ref z), some (.int (nI (qz P M))), none, none] [.int (nI (max ((qz P M) % 100) (((qz P M) + 26) % 100)))] 741
                refine V_perm (fl_back (bs := ([wx, u116] : List va_W)) (bs' := ([wx, u117] : List va_W)) 1 rfl rfl) ?_
                change V X 3740 115004 (([wx, u117] : List va_W).flatten) [some (.ref (sa 90)), some (.ref x), some (.ref y), some (.int (nI (b 0 4))), some (.int (dg b)), some (.int c), some (.int (nI P)), some (.int (nI M)), some (.ref z), some (.int (nI (qz P M))), none, none] [.int (nI (max ((qz P M) % 100) (((qz P M) + 26) % 100)))] 741
                refine r_iload (pc' := 743) hX dL_law_741 rfl rfl ?_
                refine r_bipush (pc' := 745) (v := nI 100) hX dL_law_743 rfl rfl ?_
                refine r_irem_N (pc' := 746) hX dL_law_745 (by omega) (by omega) (by omega) rfl ?_
                refine r_iload (pc' := 748) hX dL_law_746 rfl rfl ?_
                refine r_bipush (pc' := 750) (v := nI 26) hX dL_law_748 rfl rfl ?_
                refine r_iadd_N (pc' := 751) hX dL_law_750  rfl ?_
                refine r_bipush (pc' := 753) (v := nI 100) hX dL_law_751 rfl rfl ?_
                refine r_irem_N (pc' := 754) hX dL_law_753 (by omega) (by omega) (by omega) rfl ?_
                refine r_mmax (pc' := 757) hX dL_law_754 k_L_236 (by omega) (by omega) rfl (Nat.le_of_ble_eq_true rfl) (by decide) (by omega) (by omega) ?_
                refine r_icmp_ne_N (tgt := 814) (pc' := 760) hX dL_law_757 (by decide) rfl (by omega) (by omega) (fun c757 => ?_) (fun c757 => ?_)
                · exact absurd c757 (by omega)
                · refine r_aload (pc' := 762) hX dL_law_760 rfl rfl ?_
                  refine r_iconst (pc' := 763) (v := nI 0) hX dL_law_762 rfl rfl ?_
                  refine V_callX (k' := 3741) (n' := 115010) (pc' := 766) (wr := ((([wx, u117] : List va_W)).eraseIdx 1).flatten) hX (r_runVX (As := [.int (nI 0)]) hX dL_law_763 k_L_241 (fun l9 hl9 => by cases hl9; exact cF_neededToleranceByTrying (v := (ZS (z2 P M) (uz2 P M) []).1) rfl hF117 (AJz2).1 (hst := (by rw [hl]; exact hst))) hG (FS_recv hF117) rfl rfl (Nat.le_of_ble_eq_true rfl) (by decide) (by decide) (by decide) (by decide)) (fl_out 1 rfl) rfl rfl rfl (fun w9 u118 hp9 => ?_) ?_
                  · obtain ⟨okq, rfl, hF118⟩ := hp9
                    rw [show (qBat bNee (ZS (z2 P M) (uz2 P M) []).1 (nI 0) : Int32) = nI (max ((qz P M) % 100) (((qz P M) + 26) % 100)) from fn]
                    change V X 3741 115010 (u118 ++ ((([wx, u117] : List va_W)).eraseIdx 1).flatten) [some (.ref (sa 90)), some (.ref x), some (.ref y), some (.int (nI (b 0 4))), some (.int (dg b)), some (.int c), some (.int (nI P)), some (.int (nI M)), some (.ref z), some (.int (nI (qz P M))), none, none] [.int (nI (max ((qz P M) % 100) (((qz P M) + 26) % 100)))] 766
                    refine V_perm (fl_back (bs := ([wx, u117] : List va_W)) (bs' := ([wx, u118] : List va_W)) 1 rfl rfl) ?_
                    change V X 3741 115010 (([wx, u118] : List va_W).flatten) [some (.ref (sa 90)), some (.ref x), some (.ref y), some (.int (nI (b 0 4))), some (.int (dg b)), some (.int c), some (.int (nI P)), some (.int (nI M)), some (.ref z), some (.int (nI (qz P M))), none, none] [.int (nI (max ((qz P M) % 100) (((qz P M) + 26) % 100)))] 766
                    refine r_aload (pc' := 768) hX dL_law_766 rfl rfl ?_
                    refine r_iconst (pc' := 769) (v := nI 0) hX dL_law_768 rfl rfl ?_
                    refine V_callX (k' := 3742) (n' := 115016) (pc' := 772) (wr := ((([wx, u118] : List va_W)).eraseIdx 1).flatten) hX (r_runVX (As := [.int (nI 0)]) hX dL_law_769 k_L_233 (fun l9 hl9 => by cases hl9; exact cF_neededTolerance (v := (ZS (z2 P M) (uz2 P M) []).1) rfl hF118 (AJz2).1 (hst := (by rw [hl]; exact hst))) hG (FS_recv hF118) rfl rfl (Nat.le_of_ble_eq_true rfl) (by decide) (by decide) (by decide) (by decide)) (fl_out 1 rfl) rfl rfl rfl (fun w9 u119 hp9 => ?_) ?_
                    · obtain ⟨okq, rfl, hF119⟩ := hp9
                      rw [show (qBat bNee (ZS (z2 P M) (uz2 P M) []).1 (nI 0) : Int32) = nI (max ((qz P M) % 100) (((qz P M) + 26) % 100)) from fn]
                      change V X 3742 115016 (u119 ++ ((([wx, u118] : List va_W)).eraseIdx 1).flatten) [some (.ref (sa 90)), some (.ref x), some (.ref y), some (.int (nI (b 0 4))), some (.int (dg b)), some (.int c), some (.int (nI P)), some (.int (nI M)), some (.ref z), some (.int (nI (qz P M))), none, none] [.int (nI (max ((qz P M) % 100) (((qz P M) + 26) % 100))), .int (nI (max ((qz P M) % 100) (((qz P M) + 26) % 100)))] 772
                      refine V_perm (fl_back (bs := ([wx, u118] : List va_W)) (bs' := ([wx, u119] : List va_W)) 1 rfl rfl) ?_
                      change V X 3742 115016 (([wx, u119] : List va_W).flatten) [some (.ref (sa 90)), some (.ref x), some (.ref y), some (.int (nI (b 0 4))), some (.int (dg b)), some (.int c), some (.int (nI P)), some (.int (nI M)), some (.ref z), some (.int (nI (qz P M))), none, none] [.int (nI (max ((qz P M) % 100) (((qz P M) + 26) % 100))), .int (nI (max ((qz P M) % 100) (((qz P M) + 26) % 100)))] 772
                      refine r_icmp_ne_N (tgt := 814) (pc' := 775) hX dL_law_772 (by decide) rfl (by omega) (by omega) (fun c772 => ?_) (fun c772 => ?_)
                      · exact absurd c772 (by omega)
                      · refine r_aload (pc' := 777) hX dL_law_775 rfl rfl ?_
                        refine r_iconst (pc' := 778) (v := nI 5) hX dL_law_777 rfl rfl ?_
                        refine V_callX (k' := 3743) (n' := 115022) (pc' := 781) (wr := ((([wx, u119] : List va_W)).eraseIdx 1).flatten) hX (r_runVX (As := [.int (nI 5)]) hX dL_law_778 k_L_71 (fun l9 hl9 => by cases hl9; exact cF_setStep (v := (ZS (z2 P M) (uz2 P M) []).1) rfl hF119 (AJz2).1 (hst := (by rw [hl]; exact hst))) hG (FS_recv hF119) rfl rfl (Nat.le_of_ble_eq_true rfl) (by decide) (by decide) (by decide) (by decide)) (fl_out 1 rfl) rfl rfl rfl (fun w9 u120 hp9 => ?_) ?_
                        · obtain ⟨okq, rfl, hF120⟩ := hp9
                          rw [show ((oStep (ZS (z2 P M) (uz2 P M) []).1 (nI 5)).1 : Int32) = nI 2 from (step_ok (v := z2 P M) (x := 5) (by decide)).trans (congrArg nI f4.1)]
                          change V X 3743 115022 (u120 ++ ((([wx, u119] : List va_W)).eraseIdx 1).flatten) [some (.ref (sa 90)), some (.ref x), some (.ref y), some (.int (nI (b 0 4))), some (.int (dg b)), some (.int c), some (.int (nI P)), some (.int (nI M)), some (.ref z), some (.int (nI (qz P M))), none, none] [.int (nI 2)] 781
                          refine V_perm (fl_back (bs := ([wx, u119] : List va_W)) (bs' := ([wx, u120] : List va_W)) 1 rfl rfl) ?_
                          change V X 3743 115022 (([wx, u120] : List va_W).flatten) [some (.ref (sa 90)), some (.ref x), some (.ref y), some (.int (nI (b 0 4))), some (.int (dg b)), some (.int c), some (.int (nI P)), some (.int (nI M)), some (.ref z), some (.int (nI (qz P M))), none, none] [.int (nI 2)] 781
                          refine r_iconst (pc' := 782) (v := nI 2) hX dL_law_781 rfl rfl ?_
                          refine r_icmp_ne_N (tgt := 814) (pc' := 785) hX dL_law_782 (by decide) rfl (by omega) (by omega) (fun c782 => ?_) (fun c782 => ?_)
                          · exact absurd c782 (by omega)
                          · refine r_aload (pc' := 787) hX dL_law_785 rfl rfl ?_
                            refine r_iconst (pc' := 788) (v := nI 0) hX dL_law_787 rfl rfl ?_
                            refine V_callX (k' := 3744) (n' := 115028) (pc' := 791) (wr := ((([wx, u120] : List va_W)).eraseIdx 1).flatten) hX (r_runVX (As := [.int (nI 0)]) hX dL_law_788 k_L_227 (fun l9 hl9 => by cases hl9; exact cF_sampleSize (v := (ZS (z3 P M) (uz3 P M) []).1) rfl hF120 (AJz3).1 (hst := (by rw [hl]; exact hst))) hG (FS_recv hF120) rfl rfl (Nat.le_of_ble_eq_true rfl) (by decide) (by decide) (by decide) (by decide)) (fl_out 1 rfl) rfl rfl rfl (fun w9 u121 hp9 => ?_) ?_
                            · obtain ⟨okq, rfl, hF121⟩ := hp9
                              rw [show (qBat bSam (ZS (z3 P M) (uz3 P M) []).1 (nI 0) : Int32) = nI 1 from f4.2.1]
                              change V X 3744 115028 (u121 ++ ((([wx, u120] : List va_W)).eraseIdx 1).flatten) [some (.ref (sa 90)), some (.ref x), some (.ref y), some (.int (nI (b 0 4))), some (.int (dg b)), some (.int c), some (.int (nI P)), some (.int (nI M)), some (.ref z), some (.int (nI (qz P M))), none, none] [.int (nI 1)] 791
                              refine V_perm (fl_back (bs := ([wx, u120] : List va_W)) (bs' := ([wx, u121] : List va_W)) 1 rfl rfl) ?_
                              change V X 3744 115028 (([wx, u121] : List va_W).flatten) [some (.ref (sa 90)), some (.ref x), some (.ref y), some (.int (nI (b 0 4))), some (.int (dg b)), some (.int c), some (.int (nI P)), some (.int (nI M)), some (.ref z), some (.int (nI (qz P M))), none, none] [.int (nI 1)] 791
                              refine r_iconst (pc' := 792) (v := nI 1) hX dL_law_791 rfl rfl ?_
                              refine r_icmp_ne_N (tgt := 814) (pc' := 795) hX dL_law_792 (by decide) rfl (by omega) (by omega) (fun c792 => ?_) (fun c792 => ?_)
                              · exact absurd c792 (by omega)
                              · refine r_aload (pc' := 797) hX dL_law_795 rfl rfl ?_
                                refine r_iconst (pc' := 798) (v := nI 0) hX dL_law_797 rfl rfl ?_
                                refine V_callX (k' := 3745) (n' := 115034) (pc' := 801) (wr := ((([wx, u121] : List va_W)).eraseIdx 1).flatten) hX (r_runVX (As := [.int (nI 0)]) hX dL_law_798 k_L_230 (fun l9 hl9 => by cases hl9; exact cF_wouldPass (v := (ZS (z3 P M) (uz3 P M) []).1) rfl hF121 (AJz3).1 (hst := (by rw [hl]; exact hst))) hG (FS_recv hF121) rfl rfl (Nat.le_of_ble_eq_true rfl) (by decide) (by decide) (by decide) (by decide)) (fl_out 1 rfl) rfl rfl rfl (fun w9 u122 hp9 => ?_) ?_
                                · obtain ⟨hpl9, rfl, hF122⟩ := hp9
                                  rw [show (bI (pas ((ZS (z3 P M) (uz3 P M) []).1 (21 + plc (ZS (z3 P M) (uz3 P M) []).1 (nI 0).toInt)) ((ZS (z3 P M) (uz3 P M) []).1 (13 + plc (ZS (z3 P M) (uz3 P M) []).1 (nI 0).toInt) 2) ((ZS (z3 P M) (uz3 P M) []).1 0 3) ((ZS (z3 P M) (uz3 P M) []).1 0 2)) : Int32) = nI 1 from bI_t f4.2.2.2.1]
                                  change V X 3745 115034 (u122 ++ ((([wx, u121] : List va_W)).eraseIdx 1).flatten) [some (.ref (sa 90)), some (.ref x), some (.ref y), some (.int (nI (b 0 4))), some (.int (dg b)), some (.int c), some (.int (nI P)), some (.int (nI M)), some (.ref z), some (.int (nI (qz P M))), none, none] [.int (nI 1)] 801
                                  refine V_perm (fl_back (bs := ([wx, u121] : List va_W)) (bs' := ([wx, u122] : List va_W)) 1 rfl rfl) ?_
                                  change V X 3745 115034 (([wx, u122] : List va_W).flatten) [some (.ref (sa 90)), some (.ref x), some (.ref y), some (.int (nI (b 0 4))), some (.int (dg b)), some (.int c), some (.int (nI P)), some (.int (nI M)), some (.ref z), some (.int (nI (qz P M))), none, none] [.int (nI 1)] 801
                                  refine r_if_eq_N (tgt := 814) (pc' := 804) hX dL_law_801 (by decide) rfl (by omega) (fun c801 => ?_) (fun c801 => ?_)
                                  · exact absurd c801 (by omega)
                                  · refine r_aload (pc' := 806) hX dL_law_804 rfl rfl ?_
                                    refine r_iconst (pc' := 807) (v := nI 2) hX dL_law_806 rfl rfl ?_
                                    refine V_callX (k' := 3746) (n' := 115040) (pc' := 810) (wr := ((([wx, u122] : List va_W)).eraseIdx 1).flatten) hX (r_runVX (As := [.int (nI 2)]) hX dL_law_807 k_L_71 (fun l9 hl9 => by cases hl9; exact cF_setStep (v := (ZS (z3 P M) (uz3 P M) []).1) rfl hF122 (AJz3).1 (hst := (by rw [hl]; exact hst))) hG (FS_recv hF122) rfl rfl (Nat.le_of_ble_eq_true rfl) (by decide) (by decide) (by decide) (by decide)) (fl_out 1 rfl) rfl rfl rfl (fun w9 u123 hp9 => ?_) ?_
                                    · obtain ⟨okq, rfl, hF123⟩ := hp9
                                      rw [show ((oStep (ZS (z3 P M) (uz3 P M) []).1 (nI 2)).1 : Int32) = nI 5 from (step_ok (v := z3 P M) (x := 2) (by decide)).trans (congrArg nI f4.2.2.2.2.1)]
                                      change V X 3746 115040 (u123 ++ ((([wx, u122] : List va_W)).eraseIdx 1).flatten) [some (.ref (sa 90)), some (.ref x), some (.ref y), some (.int (nI (b 0 4))), some (.int (dg b)), some (.int c), some (.int (nI P)), some (.int (nI M)), some (.ref z), some (.int (nI (qz P M))), none, none] [.int (nI 5)] 810
                                      refine V_perm (fl_back (bs := ([wx, u122] : List va_W)) (bs' := ([wx, u123] : List va_W)) 1 rfl rfl) ?_
                                      change V X 3746 115040 (([wx, u123] : List va_W).flatten) [some (.ref (sa 90)), some (.ref x), some (.ref y), some (.int (nI (b 0 4))), some (.int (dg b)), some (.int c), some (.int (nI P)), some (.int (nI M)), some (.ref z), some (.int (nI (qz P M))), none, none] [.int (nI 5)] 810
                                      refine r_iconst (pc' := 811) (v := nI 5) hX dL_law_810 rfl rfl ?_
                                      refine r_icmp_eq_N (tgt := 816) (pc' := 814) hX dL_law_811 (by decide) rfl (by omega) (by omega) (fun c811 => ?_) (fun c811 => ?_)
                                      · exact cont _ _ hx hF123
                                      · exact absurd c811 (by omega)
                                    · intro E9 u9 hp9
                                      exact absurd hp9.1 (by rw [show ((oStep (ZS (z3 P M) (uz3 P M) []).1 (nI 2)).1 : Int32) = nI 5 from (step_ok (v := z3 P M) (x := 2) (by decide)).trans (congrArg nI f4.2.2.2.2.1)]; exact okN (by first | decide | omega))
                                · intro E9 u9 hp9
                                  exact absurd f4.2.2.1 hp9.1
                            · intro E9 u9 hp9
                              exact absurd hp9.1 (by rw [show (qBat bSam (ZS (z3 P M) (uz3 P M) []).1 (nI 0) : Int32) = nI 1 from f4.2.1]; exact okN (by first | decide | omega))
                        · intro E9 u9 hp9
                          exact absurd hp9.1 (by rw [show ((oStep (ZS (z2 P M) (uz2 P M) []).1 (nI 5)).1 : Int32) = nI 2 from (step_ok (v := z2 P M) (x := 5) (by decide)).trans (congrArg nI f4.1)]; exact okN (by first | decide | omega))
                    · intro E9 u9 hp9
                      exact absurd hp9.1 (by rw [show (qBat bNee (ZS (z2 P M) (uz2 P M) []).1 (nI 0) : Int32) = nI (max ((qz P M) % 100) (((qz P M) + 26) % 100)) from fn]; exact okN (by first | decide | omega))
                  · intro E9 u9 hp9
                    exact absurd hp9.1 (by rw [show (qBat bNee (ZS (z2 P M) (uz2 P M) []).1 (nI 0) : Int32) = nI (max ((qz P M) % 100) (((qz P M) + 26) % 100)) from fn]; exact okN (by first | decide | omega))
              · intro E9 u9 hp9
                exact absurd hp9.1 (by rw [show (qBat bNee (ZS (z2 P M) (uz2 P M) []).1 (nI 0) : Int32) = nI (max ((qz P M) % 100) (((qz P M) + 26) % 100)) from fn]; exact okN (by first | decide | omega))
          · intro E9 u9 hp9
            exact absurd f3.2.2.1 hp9.1
      · intro E9 u9 hp9
        exact absurd hp9.1 (by rw [show (qBat bSam (ZS (z2 P M) (uz2 P M) []).1 (nI 0) : Int32) = nI 2 from f3.2.1]; exact okN (by first | decide | omega))
  · intro E9 u9 hp9
    exact absurd hp9.1 (by rw [show ((oTol (ZS (z1 P M) (uz1 P M) []).1 (nI ((qz P M) % 100))).1 : Int32) = nI 50 from (tol_ok (v := z1 P M) (x := qz P M % 100) (by omega)).trans (congrArg nI f3.1)]; exact okN (by first | decide | omega))

set_option maxRecDepth 20000 in
set_option maxHeartbeats 4000000 in
theorem k_9 {X : xC} {l : Launch} {D : va_G} {cy : Nat → ClassId} {sa : Nat → Nat} (hX : Ok SF X cL_law RL 20 5000 130000) (hG : c0_G X = (D, cy, sa)) (hcy : c0_cy X = cy) (hnL : c0_nL X = 12) (hl : c0_l X = l) (hst : l.stackTraces = false) {y P M : Nat} {b : SV} {SX : AS} {c : Int32} (hP : 1 ≤ P ∧ P ≤ 4) (hM : 1 ≤ M ∧ M ≤ 4) {x z : Nat} {wx wz : va_W} (hx : FS cy x SX wx) (hz : FS cy z (ZS (z4 P M) (uz4 P M) []) wz) (cont : ∀ (j : Nat) (g : Nat) (wx wz : va_W), FS cy x SX wx → FS cy z (ZS (z6 P M) (uz6 P M) []) wz → V X 3756 115100 (([wx, wz] : List va_W).flatten) [some (.ref (sa 90)), some (.ref x), some (.ref y), some (.int (nI (b 0 4))), some (.int (dg b)), some (.int c), some (.int (nI P)), some (.int (nI M)), some (.ref z), some (.int (nI (qz P M))), some (.int (nI g)), some (.int (nI j))] [] 996) : V X 3746 115040 (([wx, wz] : List va_W).flatten) [some (.ref (sa 90)), some (.ref x), some (.ref y), some (.int (nI (b 0 4))), some (.int (dg b)), some (.int c), some (.int (nI P)), some (.int (nI M)), some (.ref z), some (.int (nI (qz P M))), none, none] [] 816 := by
  have e1 : P - 1 + 1 = P := by omega
  have e2 : M - 1 + 1 = M := by omega
  have f1 := zf1 (P - 1) (by omega) (M - 1) (by omega)
  have f2 := zf2 (P - 1) (by omega) (M - 1) (by omega)
  have f3 := zf3 (P - 1) (by omega) (M - 1) (by omega)
  have f4 := zf4 (P - 1) (by omega) (M - 1) (by omega)
  have f5 := zf5 (P - 1) (by omega) (M - 1) (by omega)
  have f6 := zf6 (P - 1) (by omega) (M - 1) (by omega)
  have f7 := zf7 (P - 1) (by omega) (M - 1) (by omega)
  have f8 := zf8 (P - 1) (by omega) (M - 1) (by omega)
  have f9 := zf9 (P - 1) (by omega) (M - 1) (by omega)
  have fn := zn (p := P - 1) (l := M - 1) (by omega) (by omega)
  have fr := zs_run (p := P - 1) (l := M - 1) (by omega) (by omega)
  rw [e1, e2] at f1 f2 f3 f4 f5 f6 f7 f8 f9 fn fr
  have hqz : qz P M ≤ 54 := by unfold qz; omega
  refine r_iconst (pc' := 817) (v := nI 0) hX dL_law_816 rfl rfl ?_
  refine r_istore (L' := [some (.ref (sa 90)), some (.ref x), some (.ref y), some (.int (nI (b 0 4))), some (.int (dg b)), some (.int c), some (.int (nI P)), some (.int (nI M)), some (.ref z), some (.int (nI (qz P M))), some (.int (nI 0)), none]) (pc' := 819) hX dL_law_817 (nlt hnL (by decide)) rfl rfl rfl ?_
  refine r_iconst (pc' := 820) (v := nI 0) hX dL_law_819 rfl rfl ?_
  refine r_istore (L' := [some (.ref (sa 90)), some (.ref x), some (.ref y), some (.int (nI (b 0 4))), some (.int (dg b)), some (.int c), some (.int (nI P)), some (.int (nI M)), some (.ref z), some (.int (nI (qz P M))), some (.int (nI 0)), some (.int (nI 0))]) (pc' := 822) hX dL_law_820 (nlt hnL (by decide)) rfl rfl rfl ?_
  have loop822 : ∀ (n9 : Nat) (j : Nat) (g : Nat), 5 - j < n9 → (j ≤ 4) → (g = gz (qz P M) j) → V X 3746 115040 (([wx, wz] : List va_W).flatten) [some (.ref (sa 90)), some (.ref x), some (.ref y), some (.int (nI (b 0 4))), some (.int (dg b)), some (.int c), some (.int (nI P)), some (.int (nI M)), some (.ref z), some (.int (nI (qz P M))), some (.int (nI g)), some (.int (nI j))] [] 822 := by
    intro n9
    induction n9 with
    | zero => intro j g hm; exact absurd hm (Nat.not_lt_zero _)
    | succ n9 ih822 =>
      intro j g hm hj hg
      refine r_iload (pc' := 824) hX dL_law_822 rfl rfl ?_
      refine r_iconst (pc' := 825) (v := nI 4) hX dL_law_824 rfl rfl ?_
      refine r_icmp_ge_N (tgt := 863) (pc' := 828) hX dL_law_825 (by decide) rfl (by omega) (by omega) (fun c825 => ?_) (fun c825 => ?_)
      · have hgl := gz_le (q := qz P M) j
        have hj4 : j = 4 := by omega
        refine r_aload (pc' := 865) hX dL_law_863 rfl rfl ?_
        refine r_iconst (pc' := 866) (v := nI 0) hX dL_law_865 rfl rfl ?_
        refine V_callX (k' := 3747) (n' := 115046) (pc' := 869) (wr := ((([wx, wz] : List va_W)).eraseIdx 1).flatten) hX (r_runVX (As := [.int (nI 0)]) hX dL_law_866 k_L_244 (fun l9 hl9 => by cases hl9; exact cF_goodBows (v := (ZS (z4 P M) (uz4 P M) []).1) rfl hz (AJz4).1 (hst := (by rw [hl]; exact hst))) hG (FS_recv hz) rfl rfl (Nat.le_of_ble_eq_true rfl) (by decide) (by decide) (by decide) (by decide)) (fl_out 1 rfl) rfl rfl rfl (fun w9 u124 hp9 => ?_) ?_
        · obtain ⟨okq, rfl, hF124⟩ := hp9
          rw [show (qBat bGood (ZS (z4 P M) (uz4 P M) []).1 (nI 0) : Int32) = nI g from f4.2.2.2.2.2.1.trans (congrArg nI (by rw [hg, hj4]))]
          change V X 3747 115046 (u124 ++ ((([wx, wz] : List va_W)).eraseIdx 1).flatten) [some (.ref (sa 90)), some (.ref x), some (.ref y), some (.int (nI (b 0 4))), some (.int (dg b)), some (.int c), some (.int (nI P)), some (.int (nI M)), some (.ref z), some (.int (nI (qz P M))), some (.int (nI g)), some (.int (nI j))] [.int (nI g)] 869
          refine V_perm (fl_back (bs := ([wx, wz] : List va_W)) (bs' := ([wx, u124] : List va_W)) 1 rfl rfl) ?_
          change V X 3747 115046 (([wx, u124] : List va_W).flatten) [some (.ref (sa 90)), some (.ref x), some (.ref y), some (.int (nI (b 0 4))), some (.int (dg b)), some (.int c), some (.int (nI P)), some (.int (nI M)), some (.ref z), some (.int (nI (qz P M))), some (.int (nI g)), some (.int (nI j))] [.int (nI g)] 869
          refine r_iload (pc' := 871) hX dL_law_869 rfl rfl ?_
          refine r_icmp_ne_N (tgt := 994) (pc' := 874) hX dL_law_871 (by decide) rfl (by omega) (by omega) (fun c871 => ?_) (fun c871 => ?_)
          · exact absurd c871 (by omega)
          · refine r_aload (pc' := 876) hX dL_law_874 rfl rfl ?_
            refine r_iconst (pc' := 877) (v := nI 0) hX dL_law_876 rfl rfl ?_
            refine V_callX (k' := 3748) (n' := 115052) (pc' := 880) (wr := ((([wx, u124] : List va_W)).eraseIdx 1).flatten) hX (r_runVX (As := [.int (nI 0)]) hX dL_law_877 k_L_58 (fun l9 hl9 => by cases hl9; exact cF_inspect (v := (ZS (z4 P M) (uz4 P M) []).1) rfl hF124 (AJz4).1 (hst := (by rw [hl]; exact hst))) hG (FS_recv hF124) rfl rfl (Nat.le_of_ble_eq_true rfl) (by decide) (by decide) (by decide) (by decide)) (fl_out 1 rfl) rfl rfl rfl (fun w9 u125 hp9 => ?_) ?_
            · obtain ⟨okq, rfl, hF125⟩ := hp9
              rw [bI_f (show ¬ (oExam (ZS (z4 P M) (uz4 P M) []).1 (nI 0)).1.toInt = 1 by rw [show (oExam (ZS (z4 P M) (uz4 P M) []).1 (nI 0)).1 = nI 0 from f4.2.2.2.2.2.2]; decide)]
              change V X 3748 115052 (u125 ++ ((([wx, u124] : List va_W)).eraseIdx 1).flatten) [some (.ref (sa 90)), some (.ref x), some (.ref y), some (.int (nI (b 0 4))), some (.int (dg b)), some (.int c), some (.int (nI P)), some (.int (nI M)), some (.ref z), some (.int (nI (qz P M))), some (.int (nI g)), some (.int (nI j))] [.int (nI 0)] 880
              refine V_perm (fl_back (bs := ([wx, u124] : List va_W)) (bs' := ([wx, u125] : List va_W)) 1 rfl rfl) ?_
              change V X 3748 115052 (([wx, u125] : List va_W).flatten) [some (.ref (sa 90)), some (.ref x), some (.ref y), some (.int (nI (b 0 4))), some (.int (dg b)), some (.int c), some (.int (nI P)), some (.int (nI M)), some (.ref z), some (.int (nI (qz P M))), some (.int (nI g)), some (.int (nI j))] [.int (nI 0)] 880
              refine r_if_ne_N (tgt := 994) (pc' := 883) hX dL_law_880 (by decide) rfl (by omega) (fun c880 => ?_) (fun c880 => ?_)
              · exact absurd c880 (by omega)
              · refine r_aload (pc' := 885) hX dL_law_883 rfl rfl ?_
                refine r_iconst (pc' := 886) (v := nI 0) hX dL_law_885 rfl rfl ?_
                refine V_callX (k' := 3749) (n' := 115058) (pc' := 889) (wr := ((([wx, u125] : List va_W)).eraseIdx 1).flatten) hX (r_runVX (As := [.int (nI 0)]) hX dL_law_886 k_L_126 (fun l9 hl9 => by cases hl9; exact cF_isFailed (v := (ZS (z5 P M) (uz5 P M) []).1) rfl hF125 (AJz5).1 (hst := (by rw [hl]; exact hst))) hG (FS_recv hF125) rfl rfl (Nat.le_of_ble_eq_true rfl) (by decide) (by decide) (by decide) (by decide)) (fl_out 1 rfl) rfl rfl rfl (fun w9 u126 hp9 => ?_) ?_
                · obtain ⟨okq, rfl, hF126⟩ := hp9
                  rw [show (qBat (bNum 4) (ZS (z5 P M) (uz5 P M) []).1 (nI 0) : Int32) = nI 1 from f5.1]
                  change V X 3749 115058 (u126 ++ ((([wx, u125] : List va_W)).eraseIdx 1).flatten) [some (.ref (sa 90)), some (.ref x), some (.ref y), some (.int (nI (b 0 4))), some (.int (dg b)), some (.int c), some (.int (nI P)), some (.int (nI M)), some (.ref z), some (.int (nI (qz P M))), some (.int (nI g)), some (.int (nI j))] [.int (nI 1)] 889
                  refine V_perm (fl_back (bs := ([wx, u125] : List va_W)) (bs' := ([wx, u126] : List va_W)) 1 rfl rfl) ?_
                  change V X 3749 115058 (([wx, u126] : List va_W).flatten) [some (.ref (sa 90)), some (.ref x), some (.ref y), some (.int (nI (b 0 4))), some (.int (dg b)), some (.int c), some (.int (nI P)), some (.int (nI M)), some (.ref z), some (.int (nI (qz P M))), some (.int (nI g)), some (.int (nI j))] [.int (nI 1)] 889
                  refine r_if_eq_N (tgt := 994) (pc' := 892) hX dL_law_889 (by decide) rfl (by omega) (fun c889 => ?_) (fun c889 => ?_)
                  · exact absurd c889 (by omega)
                  · refine r_aload (pc' := 894) hX dL_law_892 rfl rfl ?_
                    refine r_iconst (pc' := 895) (v := nI 4) hX dL_law_894 rfl rfl ?_
                    refine r_iconst (pc' := 896) (v := nI 0) hX dL_law_895 rfl rfl ?_
                    refine r_iconst (pc' := 897) (v := nI 0) hX dL_law_896 rfl rfl ?_
                    refine r_iconst (pc' := 898) (v := nI 0) hX dL_law_897 rfl rfl ?_
                    refine V_call (k' := 3750) (n' := 115064) (pc' := 901) (wr := ((([wx, u126] : List va_W)).eraseIdx 1).flatten) hX (r_runSW (As := [.ref z, .int (nI 4), .int (nI 0), .int (nI 0), .int (nI 0)]) hX dL_law_898 kw_L_30 (fun l9 hl9 => by cases hl9; exact cA_4 (S := (ZS (z5 P M) (uz5 P M) [])) (a := nI 0) (b := nI 0) (c := nI 0) hF126 (AJz5) (hst := (by rw [hl]; exact hst))) hG rfl rfl (Nat.le_of_ble_eq_true rfl) (by decide) (by decide) (by decide) (by decide)) (fl_out 1 rfl) rfl rfl rfl (fun w9 u127 hp9 => ?_)
                    obtain ⟨rfl, hF127⟩ := hp9
                    rw [aMut_no (S := ZS (z5 P M) (uz5 P M) []) (o := oExam (ZS (z5 P M) (uz5 P M) []).1 (nI 0)) (by rw [show (oExam (ZS (z5 P M) (uz5 P M) []).1 (nI 0)).1 = (-3) from f5.2.1]; decide)] at hF127
                    rw [show ((oExam (ZS (z5 P M) (uz5 P M) []).1 (nI 0)).1 : Int32) = (-3) from f5.2.1]
                    change V X 3750 115064 (u127 ++ ((([wx, u126] : List va_W)).eraseIdx 1).flatten) [some (.ref (sa 90)), some (.ref x), some (.ref y), some (.int (nI (b 0 4))), some (.int (dg b)), some (.int c), some (.int (nI P)), some (.int (nI M)), some (.ref z), some (.int (nI (qz P M))), some (.int (nI g)), some (.int (nI j))] [.int (-3)] 901
                    refine V_perm (fl_back (bs := ([wx, u126] : List va_W)) (bs' := ([wx, u127] : List va_W)) 1 rfl rfl) ?_
                    refine r_bipush (pc' := 903) (v := (-3)) hX dL_law_901 rfl rfl ?_
                    refine r_icmp_ne (tgt := 994) (pc' := 906) hX dL_law_903 (by decide) rfl (fun c903 => ?_) (fun c903 => ?_)
                    · exact absurd rfl c903
                    · refine r_aload (pc' := 908) hX dL_law_906 rfl rfl ?_
                      refine r_iconst (pc' := 909) (v := nI 0) hX dL_law_908 rfl rfl ?_
                      refine V_callX (k' := 3751) (n' := 115070) (pc' := 912) (wr := ((([wx, u127] : List va_W)).eraseIdx 1).flatten) hX (r_runVX (As := [.int (nI 0)]) hX dL_law_909 k_L_62 (fun l9 hl9 => by cases hl9; exact cF_melt (v := (ZS (z5 P M) (uz5 P M) []).1) rfl hF127 (AJz5).1 (hst := (by rw [hl]; exact hst))) hG (FS_recv hF127) rfl rfl (Nat.le_of_ble_eq_true rfl) (by decide) (by decide) (by decide) (by decide)) (fl_out 1 rfl) rfl rfl rfl (fun w9 u128 hp9 => ?_) ?_
                      · obtain ⟨okq, rfl, hF128⟩ := hp9
                        rw [show ((oMelt (ZS (z5 P M) (uz5 P M) []).1 (nI 0)).1 : Int32) = nI ((4 * (P - 1)) + 4) from f5.2.2]
                        change V X 3751 115070 (u128 ++ ((([wx, u127] : List va_W)).eraseIdx 1).flatten) [some (.ref (sa 90)), some (.ref x), some (.ref y), some (.int (nI (b 0 4))), some (.int (dg b)), some (.int c), some (.int (nI P)), some (.int (nI M)), some (.ref z), some (.int (nI (qz P M))), some (.int (nI g)), some (.int (nI j))] [.int (nI ((4 * (P - 1)) + 4))] 912
                        refine V_perm (fl_back (bs := ([wx, u127] : List va_W)) (bs' := ([wx, u128] : List va_W)) 1 rfl rfl) ?_
                        change V X 3751 115070 (([wx, u128] : List va_W).flatten) [some (.ref (sa 90)), some (.ref x), some (.ref y), some (.int (nI (b 0 4))), some (.int (dg b)), some (.int c), some (.int (nI P)), some (.int (nI M)), some (.ref z), some (.int (nI (qz P M))), some (.int (nI g)), some (.int (nI j))] [.int (nI ((4 * (P - 1)) + 4))] 912
                        refine r_iconst (pc' := 913) (v := nI 4) hX dL_law_912 rfl rfl ?_
                        refine r_iload (pc' := 915) hX dL_law_913 rfl rfl ?_
                        refine r_iconst (pc' := 916) (v := nI 1) hX dL_law_915 rfl rfl ?_
                        refine r_isub_N (pc' := 917) hX dL_law_916 (by omega) rfl ?_
                        refine r_imul_N (pc' := 918) hX dL_law_917  rfl ?_
                        refine r_iconst (pc' := 919) (v := nI 4) hX dL_law_918 rfl rfl ?_
                        refine r_iadd_N (pc' := 920) hX dL_law_919  rfl ?_
                        refine r_icmp_ne_N (tgt := 994) (pc' := 923) hX dL_law_920 (by decide) rfl (by omega) (by omega) (fun c920 => ?_) (fun c920 => ?_)
                        · exact absurd c920 (by omega)
                        · refine r_aload (pc' := 925) hX dL_law_923 rfl rfl ?_
                          refine r_iconst (pc' := 926) (v := nI 2) hX dL_law_925 rfl rfl ?_
                          refine V_callX (k' := 3752) (n' := 115076) (pc' := 929) (wr := ((([wx, u128] : List va_W)).eraseIdx 1).flatten) hX (r_runVX (As := [.int (nI 2)]) hX dL_law_926 k_L_108 (fun l9 hl9 => by cases hl9; exact cF_stock (v := (ZS (z6 P M) (uz6 P M) []).1) rfl hF128 (AJz6).1 (hst := (by rw [hl]; exact hst))) hG (FS_recv hF128) rfl rfl (Nat.le_of_ble_eq_true rfl) (by decide) (by decide) (by decide) (by decide)) (fl_out 1 rfl) rfl rfl rfl (fun w9 u129 hp9 => ?_) ?_
                          · obtain ⟨okq, rfl, hF129⟩ := hp9
                            rw [show (qMet 3 (ZS (z6 P M) (uz6 P M) []).1 (nI 2) : Int32) = nI 16 from f6.1]
                            change V X 3752 115076 (u129 ++ ((([wx, u128] : List va_W)).eraseIdx 1).flatten) [some (.ref (sa 90)), some (.ref x), some (.ref y), some (.int (nI (b 0 4))), some (.int (dg b)), some (.int c), some (.int (nI P)), some (.int (nI M)), some (.ref z), some (.int (nI (qz P M))), some (.int (nI g)), some (.int (nI j))] [.int (nI 16)] 929
                            refine V_perm (fl_back (bs := ([wx, u128] : List va_W)) (bs' := ([wx, u129] : List va_W)) 1 rfl rfl) ?_
                            change V X 3752 115076 (([wx, u129] : List va_W).flatten) [some (.ref (sa 90)), some (.ref x), some (.ref y), some (.int (nI (b 0 4))), some (.int (dg b)), some (.int c), some (.int (nI P)), some (.int (nI M)), some (.ref z), some (.int (nI (qz P M))), some (.int (nI g)), some (.int (nI j))] [.int (nI 16)] 929
                            refine r_bipush (pc' := 931) (v := nI 16) hX dL_law_929 rfl rfl ?_
                            refine r_icmp_ne_N (tgt := 994) (pc' := 934) hX dL_law_931 (by decide) rfl (by omega) (by omega) (fun c931 => ?_) (fun c931 => ?_)
                            · exact absurd c931 (by omega)
                            · refine r_aload (pc' := 936) hX dL_law_934 rfl rfl ?_
                              refine r_iconst (pc' := 937) (v := nI 2) hX dL_law_936 rfl rfl ?_
                              refine V_callX (k' := 3753) (n' := 115082) (pc' := 940) (wr := ((([wx, u129] : List va_W)).eraseIdx 1).flatten) hX (r_runVX (As := [.int (nI 2)]) hX dL_law_937 k_L_111 (fun l9 hl9 => by cases hl9; exact cF_lostGrams (v := (ZS (z6 P M) (uz6 P M) []).1) rfl hF129 (AJz6).1 (hst := (by rw [hl]; exact hst))) hG (FS_recv hF129) rfl rfl (Nat.le_of_ble_eq_true rfl) (by decide) (by decide) (by decide) (by decide)) (fl_out 1 rfl) rfl rfl rfl (fun w9 u130 hp9 => ?_) ?_
                              · obtain ⟨okq, rfl, hF130⟩ := hp9
                                rw [show (qMet 6 (ZS (z6 P M) (uz6 P M) []).1 (nI 2) : Int32) = nI 4 from f6.2.1]
                                change V X 3753 115082 (u130 ++ ((([wx, u129] : List va_W)).eraseIdx 1).flatten) [some (.ref (sa 90)), some (.ref x), some (.ref y), some (.int (nI (b 0 4))), some (.int (dg b)), some (.int c), some (.int (nI P)), some (.int (nI M)), some (.ref z), some (.int (nI (qz P M))), some (.int (nI g)), some (.int (nI j))] [.int (nI 4)] 940
                                refine V_perm (fl_back (bs := ([wx, u129] : List va_W)) (bs' := ([wx, u130] : List va_W)) 1 rfl rfl) ?_
                                change V X 3753 115082 (([wx, u130] : List va_W).flatten) [some (.ref (sa 90)), some (.ref x), some (.ref y), some (.int (nI (b 0 4))), some (.int (dg b)), some (.int c), some (.int (nI P)), some (.int (nI M)), some (.ref z), some (.int (nI (qz P M))), some (.int (nI g)), some (.int (nI j))] [.int (nI 4)] 940
                                refine r_iconst (pc' := 941) (v := nI 4) hX dL_law_940 rfl rfl ?_
                                refine r_icmp_ne_N (tgt := 994) (pc' := 944) hX dL_law_941 (by decide) rfl (by omega) (by omega) (fun c941 => ?_) (fun c941 => ?_)
                                · exact absurd c941 (by omega)
                                · refine r_aload (pc' := 946) hX dL_law_944 rfl rfl ?_
                                  refine r_iconst (pc' := 947) (v := nI 1) hX dL_law_946 rfl rfl ?_
                                  refine V_callX (k' := 3754) (n' := 115088) (pc' := 950) (wr := ((([wx, u130] : List va_W)).eraseIdx 1).flatten) hX (r_runVX (As := [.int (nI 1)]) hX dL_law_947 k_L_111 (fun l9 hl9 => by cases hl9; exact cF_lostGrams (v := (ZS (z6 P M) (uz6 P M) []).1) rfl hF130 (AJz6).1 (hst := (by rw [hl]; exact hst))) hG (FS_recv hF130) rfl rfl (Nat.le_of_ble_eq_true rfl) (by decide) (by decide) (by decide) (by decide)) (fl_out 1 rfl) rfl rfl rfl (fun w9 u131 hp9 => ?_) ?_
                                  · obtain ⟨okq, rfl, hF131⟩ := hp9
                                    rw [show (qMet 6 (ZS (z6 P M) (uz6 P M) []).1 (nI 1) : Int32) = nI 0 from f6.2.2.1]
                                    change V X 3754 115088 (u131 ++ ((([wx, u130] : List va_W)).eraseIdx 1).flatten) [some (.ref (sa 90)), some (.ref x), some (.ref y), some (.int (nI (b 0 4))), some (.int (dg b)), some (.int c), some (.int (nI P)), some (.int (nI M)), some (.ref z), some (.int (nI (qz P M))), some (.int (nI g)), some (.int (nI j))] [.int (nI 0)] 950
                                    refine V_perm (fl_back (bs := ([wx, u130] : List va_W)) (bs' := ([wx, u131] : List va_W)) 1 rfl rfl) ?_
                                    change V X 3754 115088 (([wx, u131] : List va_W).flatten) [some (.ref (sa 90)), some (.ref x), some (.ref y), some (.int (nI (b 0 4))), some (.int (dg b)), some (.int c), some (.int (nI P)), some (.int (nI M)), some (.ref z), some (.int (nI (qz P M))), some (.int (nI g)), some (.int (nI j))] [.int (nI 0)] 950
                                    refine r_if_ne_N (tgt := 994) (pc' := 953) hX dL_law_950 (by decide) rfl (by omega) (fun c950 => ?_) (fun c950 => ?_)
                                    · exact absurd c950 (by omega)
                                    · refine r_aload (pc' := 955) hX dL_law_953 rfl rfl ?_
                                      refine r_iconst (pc' := 956) (v := nI 0) hX dL_law_955 rfl rfl ?_
                                      refine V_callX (k' := 3755) (n' := 115094) (pc' := 959) (wr := ((([wx, u131] : List va_W)).eraseIdx 1).flatten) hX (r_runVX (As := [.int (nI 0)]) hX dL_law_956 k_L_111 (fun l9 hl9 => by cases hl9; exact cF_lostGrams (v := (ZS (z6 P M) (uz6 P M) []).1) rfl hF131 (AJz6).1 (hst := (by rw [hl]; exact hst))) hG (FS_recv hF131) rfl rfl (Nat.le_of_ble_eq_true rfl) (by decide) (by decide) (by decide) (by decide)) (fl_out 1 rfl) rfl rfl rfl (fun w9 u132 hp9 => ?_) ?_
                                      · obtain ⟨okq, rfl, hF132⟩ := hp9
                                        rw [show (qMet 6 (ZS (z6 P M) (uz6 P M) []).1 (nI 0) : Int32) = nI 4 from f6.2.2.2.1]
                                        change V X 3755 115094 (u132 ++ ((([wx, u131] : List va_W)).eraseIdx 1).flatten) [some (.ref (sa 90)), some (.ref x), some (.ref y), some (.int (nI (b 0 4))), some (.int (dg b)), some (.int c), some (.int (nI P)), some (.int (nI M)), some (.ref z), some (.int (nI (qz P M))), some (.int (nI g)), some (.int (nI j))] [.int (nI 4)] 959
                                        refine V_perm (fl_back (bs := ([wx, u131] : List va_W)) (bs' := ([wx, u132] : List va_W)) 1 rfl rfl) ?_
                                        change V X 3755 115094 (([wx, u132] : List va_W).flatten) [some (.ref (sa 90)), some (.ref x), some (.ref y), some (.int (nI (b 0 4))), some (.int (dg b)), some (.int c), some (.int (nI P)), some (.int (nI M)), some (.ref z), some (.int (nI (qz P M))), some (.int (nI g)), some (.int (nI j))] [.int (nI 4)] 959
                                        refine r_iconst (pc' := 960) (v := nI 4) hX dL_law_959 rfl rfl ?_
                                        refine r_icmp_ne_N (tgt := 994) (pc' := 963) hX dL_law_960 (by decide) rfl (by omega) (by omega) (fun c960 => ?_) (fun c960 => ?_)
                                        · exact absurd c960 (by omega)
                                        · refine r_aload (pc' := 965) hX dL_law_963 rfl rfl ?_
                                          refine V_call (k' := 3755) (n' := 115094) (pc' := 968) (wr := ((([wx, u132] : List va_W)).eraseIdx 1).flatten) hX (r_runV (As := []) hX dL_law_965 k_L_99 (fun l9 hl9 => cF_meltedTotal (v := (ZS (z6 P M) (uz6 P M) []).1) rfl hF132 (AJz6).1) hG (FS_recv hF132) rfl rfl (Nat.le_of_ble_eq_true rfl) (by decide) (by decide) (by decide) (by decide)) (fl_out 1 rfl) rfl rfl rfl (fun w9 u133 hp9 => ?_)
                                          obtain ⟨okq, rfl, hF133⟩ := hp9
                                          rw [show (ZS (z6 P M) (uz6 P M) []).1 0 8 = 4 from f6.2.2.2.2.1]
                                          change V X 3755 115094 (u133 ++ ((([wx, u132] : List va_W)).eraseIdx 1).flatten) [some (.ref (sa 90)), some (.ref x), some (.ref y), some (.int (nI (b 0 4))), some (.int (dg b)), some (.int c), some (.int (nI P)), some (.int (nI M)), some (.ref z), some (.int (nI (qz P M))), some (.int (nI g)), some (.int (nI j))] [.int (nI 4)] 968
                                          refine V_perm (fl_back (bs := ([wx, u132] : List va_W)) (bs' := ([wx, u133] : List va_W)) 1 rfl rfl) ?_
                                          refine r_iconst (pc' := 969) (v := nI 4) hX dL_law_968 rfl rfl ?_
                                          refine r_icmp_ne_N (tgt := 994) (pc' := 972) hX dL_law_969 (by decide) rfl (by omega) (by omega) (fun c969 => ?_) (fun c969 => ?_)
                                          · exact absurd c969 (by omega)
                                          · refine r_aload (pc' := 974) hX dL_law_972 rfl rfl ?_
                                            refine V_call (k' := 3755) (n' := 115094) (pc' := 977) (wr := ((([wx, u133] : List va_W)).eraseIdx 1).flatten) hX (r_runV (As := []) hX dL_law_974 k_L_37 (fun l9 hl9 => cF_batchCount (v := (ZS (z6 P M) (uz6 P M) []).1) rfl hF133 (AJz6).1) hG (FS_recv hF133) rfl rfl (Nat.le_of_ble_eq_true rfl) (by decide) (by decide) (by decide) (by decide)) (fl_out 1 rfl) rfl rfl rfl (fun w9 u134 hp9 => ?_)
                                            obtain ⟨okq, rfl, hF134⟩ := hp9
                                            rw [show (ZS (z6 P M) (uz6 P M) []).1 0 4 = 0 from f6.2.2.2.2.2.1]
                                            change V X 3755 115094 (u134 ++ ((([wx, u133] : List va_W)).eraseIdx 1).flatten) [some (.ref (sa 90)), some (.ref x), some (.ref y), some (.int (nI (b 0 4))), some (.int (dg b)), some (.int c), some (.int (nI P)), some (.int (nI M)), some (.ref z), some (.int (nI (qz P M))), some (.int (nI g)), some (.int (nI j))] [.int (nI 0)] 977
                                            refine V_perm (fl_back (bs := ([wx, u133] : List va_W)) (bs' := ([wx, u134] : List va_W)) 1 rfl rfl) ?_
                                            refine r_if_ne_N (tgt := 994) (pc' := 980) hX dL_law_977 (by decide) rfl (by omega) (fun c977 => ?_) (fun c977 => ?_)
                                            · exact absurd c977 (by omega)
                                            · refine r_aload (pc' := 982) hX dL_law_980 rfl rfl ?_
                                              refine r_iconst (pc' := 983) (v := nI 5) hX dL_law_982 rfl rfl ?_
                                              refine r_iconst (pc' := 984) (v := nI 0) hX dL_law_983 rfl rfl ?_
                                              refine r_iconst (pc' := 985) (v := nI 0) hX dL_law_984 rfl rfl ?_
                                              refine r_iconst (pc' := 986) (v := nI 0) hX dL_law_985 rfl rfl ?_
                                              refine V_call (k' := 3756) (n' := 115100) (pc' := 989) (wr := ((([wx, u134] : List va_W)).eraseIdx 1).flatten) hX (r_runSW (As := [.ref z, .int (nI 5), .int (nI 0), .int (nI 0), .int (nI 0)]) hX dL_law_986 kw_L_30 (fun l9 hl9 => by cases hl9; exact cA_5 (S := (ZS (z6 P M) (uz6 P M) [])) (a := nI 0) (b := nI 0) (c := nI 0) hF134 (AJz6) (hst := (by rw [hl]; exact hst))) hG rfl rfl (Nat.le_of_ble_eq_true rfl) (by decide) (by decide) (by decide) (by decide)) (fl_out 1 rfl) rfl rfl rfl (fun w9 u135 hp9 => ?_)
                                              obtain ⟨rfl, hF135⟩ := hp9
                                              rw [aMut_no (S := ZS (z6 P M) (uz6 P M) []) (o := oMelt (ZS (z6 P M) (uz6 P M) []).1 (nI 0)) (by rw [show (oMelt (ZS (z6 P M) (uz6 P M) []).1 (nI 0)).1 = (-5) from f6.2.2.2.2.2.2.1]; decide)] at hF135
                                              rw [show ((oMelt (ZS (z6 P M) (uz6 P M) []).1 (nI 0)).1 : Int32) = (-5) from f6.2.2.2.2.2.2.1]
                                              change V X 3756 115100 (u135 ++ ((([wx, u134] : List va_W)).eraseIdx 1).flatten) [some (.ref (sa 90)), some (.ref x), some (.ref y), some (.int (nI (b 0 4))), some (.int (dg b)), some (.int c), some (.int (nI P)), some (.int (nI M)), some (.ref z), some (.int (nI (qz P M))), some (.int (nI g)), some (.int (nI j))] [.int (-5)] 989
                                              refine V_perm (fl_back (bs := ([wx, u134] : List va_W)) (bs' := ([wx, u135] : List va_W)) 1 rfl rfl) ?_
                                              refine r_bipush (pc' := 991) (v := (-5)) hX dL_law_989 rfl rfl ?_
                                              refine r_icmp_eq (tgt := 996) (pc' := 994) hX dL_law_991 (by decide) rfl (fun c991 => ?_) (fun c991 => ?_)
                                              · exact cont j g _ _ hx hF135
                                              · exact absurd rfl c991
                                      · intro E9 u9 hp9
                                        exact absurd hp9.1 (by rw [show (qMet 6 (ZS (z6 P M) (uz6 P M) []).1 (nI 0) : Int32) = nI 4 from f6.2.2.2.1]; exact okN (by first | decide | omega))
                                  · intro E9 u9 hp9
                                    exact absurd hp9.1 (by rw [show (qMet 6 (ZS (z6 P M) (uz6 P M) []).1 (nI 1) : Int32) = nI 0 from f6.2.2.1]; exact okN (by first | decide | omega))
                              · intro E9 u9 hp9
                                exact absurd hp9.1 (by rw [show (qMet 6 (ZS (z6 P M) (uz6 P M) []).1 (nI 2) : Int32) = nI 4 from f6.2.1]; exact okN (by first | decide | omega))
                          · intro E9 u9 hp9
                            exact absurd hp9.1 (by rw [show (qMet 3 (ZS (z6 P M) (uz6 P M) []).1 (nI 2) : Int32) = nI 16 from f6.1]; exact okN (by first | decide | omega))
                      · intro E9 u9 hp9
                        exact absurd hp9.1 (by rw [show ((oMelt (ZS (z5 P M) (uz5 P M) []).1 (nI 0)).1 : Int32) = nI ((4 * (P - 1)) + 4) from f5.2.2]; exact okN (by first | decide | omega))
                · intro E9 u9 hp9
                  exact absurd hp9.1 (by rw [show (qBat (bNum 4) (ZS (z5 P M) (uz5 P M) []).1 (nI 0) : Int32) = nI 1 from f5.1]; exact okN (by first | decide | omega))
            · intro E9 u9 hp9
              exact absurd hp9.1 (by rw [show (oExam (ZS (z4 P M) (uz4 P M) []).1 (nI 0)).1 = nI 0 from f4.2.2.2.2.2.2]; exact okN (by decide))
        · intro E9 u9 hp9
          exact absurd hp9.1 (by rw [show (qBat bGood (ZS (z4 P M) (uz4 P M) []).1 (nI 0) : Int32) = nI g from f4.2.2.2.2.2.1.trans (congrArg nI (by rw [hg, hj4]))]; exact okN (by first | decide | omega))
      · have hgl := gz_le (q := qz P M) j
        refine r_iload (pc' := 830) hX dL_law_828 rfl rfl ?_
        refine r_iload (pc' := 832) hX dL_law_830 rfl rfl ?_
        refine r_bipush (pc' := 834) (v := nI 13) hX dL_law_832 rfl rfl ?_
        refine r_iload (pc' := 836) hX dL_law_834 rfl rfl ?_
        refine r_imul_N (pc' := 837) hX dL_law_836  rfl ?_
        refine r_iadd_N (pc' := 838) hX dL_law_837  rfl ?_
        refine r_bipush (pc' := 840) (v := nI 100) hX dL_law_838 rfl rfl ?_
        refine r_irem_N (pc' := 841) hX dL_law_840 (by omega) (by omega) (by omega) rfl ?_
        refine r_iload (pc' := 843) hX dL_law_841 rfl rfl ?_
        refine r_bipush (pc' := 845) (v := nI 100) hX dL_law_843 rfl rfl ?_
        refine r_irem_N (pc' := 846) hX dL_law_845 (by omega) (by omega) (by omega) rfl ?_
        refine r_icmp_gt_N (tgt := 853) (pc' := 849) hX dL_law_846 (by decide) rfl (by omega) (by omega) (fun c846 => ?_) (fun c846 => ?_)
        · refine r_iconst (pc' := 854) (v := nI 0) hX dL_law_853 rfl rfl ?_
          refine r_iadd_N (pc' := 855) hX dL_law_854  rfl ?_
          refine r_istore (L' := [some (.ref (sa 90)), some (.ref x), some (.ref y), some (.int (nI (b 0 4))), some (.int (dg b)), some (.int c), some (.int (nI P)), some (.int (nI M)), some (.ref z), some (.int (nI (qz P M))), some (.int (nI (g + 0))), some (.int (nI j))]) (pc' := 857) hX dL_law_855 (nlt hnL (by decide)) rfl rfl rfl ?_
          refine r_iinc_N (b := 1) (L' := [some (.ref (sa 90)), some (.ref x), some (.ref y), some (.int (nI (b 0 4))), some (.int (dg b)), some (.int c), some (.int (nI P)), some (.int (nI M)), some (.ref z), some (.int (nI (qz P M))), some (.int (nI (g + 0))), some (.int (nI (j + 1)))]) (pc' := 860) hX dL_law_857 rfl (nlt hnL (by decide)) rfl rfl rfl ?_
          refine r_goto (tgt := 822) hX dL_law_860 (by decide) ?_
          exact ih822 (j + 1) (g + 0) (by omega) (by omega) (by rw [gz, hg]; first | rw [if_pos (by omega)] | rw [if_neg (by omega)])
        · refine r_iconst (pc' := 850) (v := nI 1) hX dL_law_849 rfl rfl ?_
          refine r_goto (tgt := 854) hX dL_law_850 (by decide) ?_
          refine r_iadd_N (pc' := 855) hX dL_law_854  rfl ?_
          refine r_istore (L' := [some (.ref (sa 90)), some (.ref x), some (.ref y), some (.int (nI (b 0 4))), some (.int (dg b)), some (.int c), some (.int (nI P)), some (.int (nI M)), some (.ref z), some (.int (nI (qz P M))), some (.int (nI (g + 1))), some (.int (nI j))]) (pc' := 857) hX dL_law_855 (nlt hnL (by decide)) rfl rfl rfl ?_
          refine r_iinc_N (b := 1) (L' := [some (.ref (sa 90)), some (.ref x), some (.ref y), some (.int (nI (b 0 4))), some (.int (dg b)), some (.int c), some (.int (nI P)), some (.int (nI M)), some (.ref z), some (.int (nI (qz P M))), some (.int (nI (g + 1))), some (.int (nI (j + 1)))]) (pc' := 860) hX dL_law_857 rfl (nlt hnL (by decide)) rfl rfl rfl ?_
          refine r_goto (tgt := 822) hX dL_law_860 (by decide) ?_
          exact ih822 (j + 1) (g + 1) (by omega) (by omega) (by rw [gz, hg]; first | rw [if_pos (by omega)] | rw [if_neg (by omega)])
  exact loop822 _ 0 0 (Nat.lt_succ_self _) (by omega) rfl

set_option maxRecDepth 20000 in
set_option maxHeartbeats 4000000 in
theorem k_10 {X : xC} {l : Launch} {D : va_G} {cy : Nat → ClassId} {sa : Nat → Nat} (hX : Ok SF X cL_law RL 20 5000 130000) (hG : c0_G X = (D, cy, sa)) (hcy : c0_cy X = cy) (hnL : c0_nL X = 12) (hl : c0_l X = l) (hst : l.stackTraces = false) {y g j P M : Nat} {b : SV} {SX : AS} {c : Int32} (hP : 1 ≤ P ∧ P ≤ 4) (hM : 1 ≤ M ∧ M ≤ 4) {x z : Nat} {wx wz : va_W} (hx : FS cy x SX wx) (hz : FS cy z (ZS (z6 P M) (uz6 P M) []) wz) (cont : ∀ (wx wz : va_W), FS cy x SX wx → FS cy z (ZS (z8 P M) ((uz8 P M).take 6) []) wz → V X 3771 115190 (([wx, wz] : List va_W).flatten) [some (.ref (sa 90)), some (.ref x), some (.ref y), some (.int (nI (b 0 4))), some (.int (dg b)), some (.int c), some (.int (nI P)), some (.int (nI M)), some (.ref z), some (.int (nI (qz P M))), some (.int (nI g)), some (.int (nI j))] [] 1186) : V X 3756 115100 (([wx, wz] : List va_W).flatten) [some (.ref (sa 90)), some (.ref x), some (.ref y), some (.int (nI (b 0 4))), some (.int (dg b)), some (.int c), some (.int (nI P)), some (.int (nI M)), some (.ref z), some (.int (nI (qz P M))), some (.int (nI g)), some (.int (nI j))] [] 996 := by
  have e1 : P - 1 + 1 = P := by omega
  have e2 : M - 1 + 1 = M := by omega
  have f1 := zf1 (P - 1) (by omega) (M - 1) (by omega)
  have f2 := zf2 (P - 1) (by omega) (M - 1) (by omega)
  have f3 := zf3 (P - 1) (by omega) (M - 1) (by omega)
  have f4 := zf4 (P - 1) (by omega) (M - 1) (by omega)
  have f5 := zf5 (P - 1) (by omega) (M - 1) (by omega)
  have f6 := zf6 (P - 1) (by omega) (M - 1) (by omega)
  have f7 := zf7 (P - 1) (by omega) (M - 1) (by omega)
  have f8 := zf8 (P - 1) (by omega) (M - 1) (by omega)
  have f9 := zf9 (P - 1) (by omega) (M - 1) (by omega)
  have fn := zn (p := P - 1) (l := M - 1) (by omega) (by omega)
  have fr := zs_run (p := P - 1) (l := M - 1) (by omega) (by omega)
  rw [e1, e2] at f1 f2 f3 f4 f5 f6 f7 f8 f9 fn fr
  have hqz : qz P M ≤ 54 := by unfold qz; omega
  have hstX : (c0_l X).stackTraces = false := by rw [hl]; exact hst
  have hsh9 : qShare ((ZS (z9 P M) (uz9 P M) []).1) = 1045220557 := by
    show qShare (z9 P M) = _
    unfold qShare
    rw [if_neg (by rw [f8.2.1]; decide), f8.1, f8.2.1]
    exact share5
  have hAu9 : AJ 20 (ZS (z9 P M) ((uz9 P M).take 7) []) := AJ_ZS ((IF_z (p := P) (l := M)).2.2.2.2.2.2.2.2.1.up (by decide)) (mtt (U_z (p := P) (l := M)).2.2.2.2.2.2.2.2.1) nil127
  have hAu8 : AJ 20 (ZS (z8 P M) ((uz8 P M).take 6) []) := AJ_ZS ((IF_z (p := P) (l := M)).2.2.2.2.2.2.2.1.up (by decide)) (mtt (U_z (p := P) (l := M)).2.2.2.2.2.2.2.1) nil127
  have hn7 := List.length_take_le 7 (uz9 P M)
  have hn6 := List.length_take_le 6 (uz8 P M)
  refine r_aload (pc' := 998) hX dL_law_996 rfl rfl ?_
  refine r_iconst (pc' := 999) (v := nI 0) hX dL_law_998 rfl rfl ?_
  refine r_iconst (pc' := 1000) (v := nI 0) hX dL_law_999 rfl rfl ?_
  refine r_iconst (pc' := 1001) (v := nI 1) hX dL_law_1000 rfl rfl ?_
  refine V_callX (k' := 3757) (n' := 115106) (pc' := 1004) (wr := ((([wx, wz] : List va_W)).eraseIdx 1).flatten) hX (r_runVX (As := [.int (nI 0), .int (nI 0), .int (nI 1)]) hX dL_law_1001 k_L_55 (fun l9 hl9 => by cases hl9; exact cF_cast (v := (ZS (z6 P M) (uz6 P M) []).1) rfl hz (AJz6).1 (hst := (by rw [hl]; exact hst))) hG (FS_recv hz) rfl rfl (Nat.le_of_ble_eq_true rfl) (by decide) (by decide) (by decide) (by decide)) (fl_out 1 rfl) rfl rfl rfl (fun w9 u136 hp9 => ?_) ?_
  · obtain ⟨okq, rfl, hF136⟩ := hp9
    rw [show ((oPour (ZS (z6 P M) (uz6 P M) []).1 (nI 0) (nI 0) (nI 1)).1 : Int32) = nI 1 from f6.2.2.2.2.2.2.2]
    change V X 3757 115106 (u136 ++ ((([wx, wz] : List va_W)).eraseIdx 1).flatten) [some (.ref (sa 90)), some (.ref x), some (.ref y), some (.int (nI (b 0 4))), some (.int (dg b)), some (.int c), some (.int (nI P)), some (.int (nI M)), some (.ref z), some (.int (nI (qz P M))), some (.int (nI g)), some (.int (nI j))] [.int (nI 1)] 1004
    refine V_perm (fl_back (bs := ([wx, wz] : List va_W)) (bs' := ([wx, u136] : List va_W)) 1 rfl rfl) ?_
    change V X 3757 115106 (([wx, u136] : List va_W).flatten) [some (.ref (sa 90)), some (.ref x), some (.ref y), some (.int (nI (b 0 4))), some (.int (dg b)), some (.int c), some (.int (nI P)), some (.int (nI M)), some (.ref z), some (.int (nI (qz P M))), some (.int (nI g)), some (.int (nI j))] [.int (nI 1)] 1004
    refine r_iconst (pc' := 1005) (v := nI 1) hX dL_law_1004 rfl rfl ?_
    refine r_icmp_ne_N (tgt := 1184) (pc' := 1008) hX dL_law_1005 (by decide) rfl (by omega) (by omega) (fun c1005 => ?_) (fun c1005 => ?_)
    · exact absurd c1005 (by omega)
    · refine r_aload (pc' := 1010) hX dL_law_1008 rfl rfl ?_
      refine r_iconst (pc' := 1011) (v := nI 1) hX dL_law_1010 rfl rfl ?_
      refine V_callX (k' := 3758) (n' := 115112) (pc' := 1014) (wr := ((([wx, u136] : List va_W)).eraseIdx 1).flatten) hX (r_runVX (As := [.int (nI 1)]) hX dL_law_1011 k_L_87 (fun l9 hl9 => by cases hl9; exact cF_firstBow (v := (ZS (z7 P M) (uz7 P M) []).1) rfl hF136 (AJz7).1 (hst := (by rw [hl]; exact hst))) hG (FS_recv hF136) rfl rfl (Nat.le_of_ble_eq_true rfl) (by decide) (by decide) (by decide) (by decide)) (fl_out 1 rfl) rfl rfl rfl (fun w9 u137 hp9 => ?_) ?_
      · obtain ⟨okq, rfl, hF137⟩ := hp9
        rw [show (qBat (bNum 1) (ZS (z7 P M) (uz7 P M) []).1 (nI 1) : Int32) = nI 4 from f7.1]
        change V X 3758 115112 (u137 ++ ((([wx, u136] : List va_W)).eraseIdx 1).flatten) [some (.ref (sa 90)), some (.ref x), some (.ref y), some (.int (nI (b 0 4))), some (.int (dg b)), some (.int c), some (.int (nI P)), some (.int (nI M)), some (.ref z), some (.int (nI (qz P M))), some (.int (nI g)), some (.int (nI j))] [.int (nI 4)] 1014
        refine V_perm (fl_back (bs := ([wx, u136] : List va_W)) (bs' := ([wx, u137] : List va_W)) 1 rfl rfl) ?_
        change V X 3758 115112 (([wx, u137] : List va_W).flatten) [some (.ref (sa 90)), some (.ref x), some (.ref y), some (.int (nI (b 0 4))), some (.int (dg b)), some (.int c), some (.int (nI P)), some (.int (nI M)), some (.ref z), some (.int (nI (qz P M))), some (.int (nI g)), some (.int (nI j))] [.int (nI 4)] 1014
        refine r_iconst (pc' := 1015) (v := nI 4) hX dL_law_1014 rfl rfl ?_
        refine r_icmp_ne_N (tgt := 1184) (pc' := 1018) hX dL_law_1015 (by decide) rfl (by omega) (by omega) (fun c1015 => ?_) (fun c1015 => ?_)
        · exact absurd c1015 (by omega)
        · refine r_aload (pc' := 1020) hX dL_law_1018 rfl rfl ?_
          refine r_iconst (pc' := 1021) (v := nI 4) hX dL_law_1020 rfl rfl ?_
          refine V_callX (k' := 3759) (n' := 115118) (pc' := 1024) (wr := ((([wx, u137] : List va_W)).eraseIdx 1).flatten) hX (r_runVX (As := [.int (nI 4)]) hX dL_law_1021 k_L_90 (fun l9 hl9 => by cases hl9; exact cF_squeak (v := (ZS (z7 P M) (uz7 P M) []).1) rfl hF137 (AJz7).1 (hst := (by rw [hl]; exact hst))) hG (FS_recv hF137) rfl rfl (Nat.le_of_ble_eq_true rfl) (by decide) (by decide) (by decide) (by decide)) (fl_out 1 rfl) rfl rfl rfl (fun w9 u138 hp9 => ?_) ?_
          · obtain ⟨okq, rfl, hF138⟩ := hp9
            rw [show (qSqk (ZS (z7 P M) (uz7 P M) []).1 (nI 4) : Int32) = nI (((qz P M) + 52) % 100) from f7.2.1]
            change V X 3759 115118 (u138 ++ ((([wx, u137] : List va_W)).eraseIdx 1).flatten) [some (.ref (sa 90)), some (.ref x), some (.ref y), some (.int (nI (b 0 4))), some (.int (dg b)), some (.int c), some (.int (nI P)), some (.int (nI M)), some (.ref z), some (.int (nI (qz P M))), some (.int (nI g)), some (.int (nI j))] [.int (nI (((qz P M) + 52) % 100))] 1024
            refine V_perm (fl_back (bs := ([wx, u137] : List va_W)) (bs' := ([wx, u138] : List va_W)) 1 rfl rfl) ?_
            change V X 3759 115118 (([wx, u138] : List va_W).flatten) [some (.ref (sa 90)), some (.ref x), some (.ref y), some (.int (nI (b 0 4))), some (.int (dg b)), some (.int c), some (.int (nI P)), some (.int (nI M)), some (.ref z), some (.int (nI (qz P M))), some (.int (nI g)), some (.int (nI j))] [.int (nI (((qz P M) + 52) % 100))] 1024
            refine r_iload (pc' := 1026) hX dL_law_1024 rfl rfl ?_
            refine r_bipush (pc' := 1028) (v := nI 52) hX dL_law_1026 rfl rfl ?_
            refine r_iadd_N (pc' := 1029) hX dL_law_1028  rfl ?_
            refine r_bipush (pc' := 1031) (v := nI 100) hX dL_law_1029 rfl rfl ?_
            refine r_irem_N (pc' := 1032) hX dL_law_1031 (by omega) (by omega) (by omega) rfl ?_
            refine r_icmp_ne_N (tgt := 1184) (pc' := 1035) hX dL_law_1032 (by decide) rfl (by omega) (by omega) (fun c1032 => ?_) (fun c1032 => ?_)
            · exact absurd c1032 (by omega)
            · refine r_aload (pc' := 1037) hX dL_law_1035 rfl rfl ?_
              refine r_bipush (pc' := 1039) (v := nI 99) hX dL_law_1037 rfl rfl ?_
              refine V_callX (k' := 3760) (n' := 115124) (pc' := 1042) (wr := ((([wx, u138] : List va_W)).eraseIdx 1).flatten) hX (r_runVX (As := [.int (nI 99)]) hX dL_law_1039 k_L_68 (fun l9 hl9 => by cases hl9; exact cF_setTolerance (v := (ZS (z7 P M) (uz7 P M) []).1) rfl hF138 (AJz7).1 (hst := (by rw [hl]; exact hst))) hG (FS_recv hF138) rfl rfl (Nat.le_of_ble_eq_true rfl) (by decide) (by decide) (by decide) (by decide)) (fl_out 1 rfl) rfl rfl rfl (fun w9 u139 hp9 => ?_) ?_
              · obtain ⟨okq, rfl, hF139⟩ := hp9
                rw [show ((oTol (ZS (z7 P M) (uz7 P M) []).1 (nI 99)).1 : Int32) = nI ((qz P M) % 100) from (tol_ok (v := z7 P M) (x := 99) (by decide)).trans (congrArg nI f7.2.2.1)]
                change V X 3760 115124 (u139 ++ ((([wx, u138] : List va_W)).eraseIdx 1).flatten) [some (.ref (sa 90)), some (.ref x), some (.ref y), some (.int (nI (b 0 4))), some (.int (dg b)), some (.int c), some (.int (nI P)), some (.int (nI M)), some (.ref z), some (.int (nI (qz P M))), some (.int (nI g)), some (.int (nI j))] [.int (nI ((qz P M) % 100))] 1042
                refine V_perm (fl_back (bs := ([wx, u138] : List va_W)) (bs' := ([wx, u139] : List va_W)) 1 rfl rfl) ?_
                change V X 3760 115124 (([wx, u139] : List va_W).flatten) [some (.ref (sa 90)), some (.ref x), some (.ref y), some (.int (nI (b 0 4))), some (.int (dg b)), some (.int c), some (.int (nI P)), some (.int (nI M)), some (.ref z), some (.int (nI (qz P M))), some (.int (nI g)), some (.int (nI j))] [.int (nI ((qz P M) % 100))] 1042
                refine r_iload (pc' := 1044) hX dL_law_1042 rfl rfl ?_
                refine r_bipush (pc' := 1046) (v := nI 100) hX dL_law_1044 rfl rfl ?_
                refine r_irem_N (pc' := 1047) hX dL_law_1046 (by omega) (by omega) (by omega) rfl ?_
                refine r_icmp_ne_N (tgt := 1184) (pc' := 1050) hX dL_law_1047 (by decide) rfl (by omega) (by omega) (fun c1047 => ?_) (fun c1047 => ?_)
                · exact absurd c1047 (by omega)
                · refine r_aload (pc' := 1052) hX dL_law_1050 rfl rfl ?_
                  refine r_iconst (pc' := 1053) (v := nI 1) hX dL_law_1052 rfl rfl ?_
                  refine V_callX (k' := 3761) (n' := 115130) (pc' := 1056) (wr := ((([wx, u139] : List va_W)).eraseIdx 1).flatten) hX (r_runVX (As := [.int (nI 1)]) hX dL_law_1053 k_L_58 (fun l9 hl9 => by cases hl9; exact cF_inspect (v := (ZS (z8 P M) (uz8 P M) []).1) rfl hF139 (AJz8).1 (hst := (by rw [hl]; exact hst))) hG (FS_recv hF139) rfl rfl (Nat.le_of_ble_eq_true rfl) (by decide) (by decide) (by decide) (by decide)) (fl_out 1 rfl) rfl rfl rfl (fun w9 u140 hp9 => ?_) ?_
                  · obtain ⟨okq, rfl, hF140⟩ := hp9
                    rw [bI_t (show (oExam (ZS (z8 P M) (uz8 P M) []).1 (nI 1)).1.toInt = 1 by rw [show (oExam (ZS (z8 P M) (uz8 P M) []).1 (nI 1)).1 = nI 1 from f7.2.2.2]; rfl)]
                    change V X 3761 115130 (u140 ++ ((([wx, u139] : List va_W)).eraseIdx 1).flatten) [some (.ref (sa 90)), some (.ref x), some (.ref y), some (.int (nI (b 0 4))), some (.int (dg b)), some (.int c), some (.int (nI P)), some (.int (nI M)), some (.ref z), some (.int (nI (qz P M))), some (.int (nI g)), some (.int (nI j))] [.int (nI 1)] 1056
                    refine V_perm (fl_back (bs := ([wx, u139] : List va_W)) (bs' := ([wx, u140] : List va_W)) 1 rfl rfl) ?_
                    change V X 3761 115130 (([wx, u140] : List va_W).flatten) [some (.ref (sa 90)), some (.ref x), some (.ref y), some (.int (nI (b 0 4))), some (.int (dg b)), some (.int c), some (.int (nI P)), some (.int (nI M)), some (.ref z), some (.int (nI (qz P M))), some (.int (nI g)), some (.int (nI j))] [.int (nI 1)] 1056
                    refine r_if_eq_N (tgt := 1184) (pc' := 1059) hX dL_law_1056 (by decide) rfl (by omega) (fun c1056 => ?_) (fun c1056 => ?_)
                    · exact absurd c1056 (by omega)
                    · refine r_aload (pc' := 1061) hX dL_law_1059 rfl rfl ?_
                      refine V_call (k' := 3761) (n' := 115130) (pc' := 1064) (wr := ((([wx, u140] : List va_W)).eraseIdx 1).flatten) hX (r_runV (As := []) hX dL_law_1061 k_L_96 (fun l9 hl9 => cF_soldTotal (v := (ZS (z9 P M) (uz9 P M) []).1) rfl hF140 (AJz9).1) hG (FS_recv hF140) rfl rfl (Nat.le_of_ble_eq_true rfl) (by decide) (by decide) (by decide) (by decide)) (fl_out 1 rfl) rfl rfl rfl (fun w9 u141 hp9 => ?_)
                      obtain ⟨okq, rfl, hF141⟩ := hp9
                      rw [show (ZS (z9 P M) (uz9 P M) []).1 0 7 = 1 from f8.1]
                      change V X 3761 115130 (u141 ++ ((([wx, u140] : List va_W)).eraseIdx 1).flatten) [some (.ref (sa 90)), some (.ref x), some (.ref y), some (.int (nI (b 0 4))), some (.int (dg b)), some (.int c), some (.int (nI P)), some (.int (nI M)), some (.ref z), some (.int (nI (qz P M))), some (.int (nI g)), some (.int (nI j))] [.int (nI 1)] 1064
                      refine V_perm (fl_back (bs := ([wx, u140] : List va_W)) (bs' := ([wx, u141] : List va_W)) 1 rfl rfl) ?_
                      refine r_iconst (pc' := 1065) (v := nI 1) hX dL_law_1064 rfl rfl ?_
                      refine r_icmp_ne_N (tgt := 1184) (pc' := 1068) hX dL_law_1065 (by decide) rfl (by omega) (by omega) (fun c1065 => ?_) (fun c1065 => ?_)
                      · exact absurd c1065 (by omega)
                      · refine r_aload (pc' := 1070) hX dL_law_1068 rfl rfl ?_
                        refine V_call (k' := 3761) (n' := 115130) (pc' := 1073) (wr := ((([wx, u141] : List va_W)).eraseIdx 1).flatten) hX (r_runV (As := []) hX dL_law_1070 k_L_93 (fun l9 hl9 => cF_castTotal (v := (ZS (z9 P M) (uz9 P M) []).1) rfl hF141 (AJz9).1) hG (FS_recv hF141) rfl rfl (Nat.le_of_ble_eq_true rfl) (by decide) (by decide) (by decide) (by decide)) (fl_out 1 rfl) rfl rfl rfl (fun w9 u142 hp9 => ?_)
                        obtain ⟨okq, rfl, hF142⟩ := hp9
                        rw [show (ZS (z9 P M) (uz9 P M) []).1 0 6 = 5 from f8.2.1]
                        change V X 3761 115130 (u142 ++ ((([wx, u141] : List va_W)).eraseIdx 1).flatten) [some (.ref (sa 90)), some (.ref x), some (.ref y), some (.int (nI (b 0 4))), some (.int (dg b)), some (.int c), some (.int (nI P)), some (.int (nI M)), some (.ref z), some (.int (nI (qz P M))), some (.int (nI g)), some (.int (nI j))] [.int (nI 5)] 1073
                        refine V_perm (fl_back (bs := ([wx, u141] : List va_W)) (bs' := ([wx, u142] : List va_W)) 1 rfl rfl) ?_
                        refine r_iconst (pc' := 1074) (v := nI 5) hX dL_law_1073 rfl rfl ?_
                        refine r_icmp_ne_N (tgt := 1184) (pc' := 1077) hX dL_law_1074 (by decide) rfl (by omega) (by omega) (fun c1074 => ?_) (fun c1074 => ?_)
                        · exact absurd c1074 (by omega)
                        · refine r_aload (pc' := 1079) hX dL_law_1077 rfl rfl ?_
                          refine V_callX (k' := 3762) (n' := 115136) (pc' := 1082) (wr := ((([wx, u142] : List va_W)).eraseIdx 1).flatten) hX (r_runVX (As := []) hX dL_law_1079 k_L_247 (fun l9 hl9 => by cases hl9; exact cF_soldShare (v := (ZS (z9 P M) (uz9 P M) []).1) rfl hF142 (AJz9).1 (hst := (by rw [hl]; exact hst))) hG (FS_recv hF142) rfl rfl (Nat.le_of_ble_eq_true rfl) (by decide) (by decide) (by decide) (by decide)) (fl_out 1 rfl) rfl rfl rfl (fun w9 u143 hp9 => ?_) ?_
                          · obtain ⟨hnz9, rfl, hF143⟩ := hp9
                            rw [hsh9]
                            change V X 3762 115136 (u143 ++ ((([wx, u142] : List va_W)).eraseIdx 1).flatten) [some (.ref (sa 90)), some (.ref x), some (.ref y), some (.int (nI (b 0 4))), some (.int (dg b)), some (.int c), some (.int (nI P)), some (.int (nI M)), some (.ref z), some (.int (nI (qz P M))), some (.int (nI g)), some (.int (nI j))] [.float 1045220557] 1082
                            refine V_perm (fl_back (bs := ([wx, u142] : List va_W)) (bs' := ([wx, u143] : List va_W)) 1 rfl rfl) ?_
                            change V X 3762 115136 (([wx, u143] : List va_W).flatten) [some (.ref (sa 90)), some (.ref x), some (.ref y), some (.int (nI (b 0 4))), some (.int (dg b)), some (.int c), some (.int (nI P)), some (.int (nI M)), some (.ref z), some (.int (nI (qz P M))), some (.int (nI g)), some (.int (nI j))] [.float 1045220557] 1082
                            refine r_ldcf (pc' := 1084) hX dL_law_1082 (m6 (j := 22) rfl rfl) rfl ?_
                            refine r_fcmp (pc' := 1085) hX dL_law_1084 rfl ?_
                            rw [share_c]
                            change V X 3762 115136 (([wx, u143] : List va_W).flatten) [some (.ref (sa 90)), some (.ref x), some (.ref y), some (.int (nI (b 0 4))), some (.int (dg b)), some (.int c), some (.int (nI P)), some (.int (nI M)), some (.ref z), some (.int (nI (qz P M))), some (.int (nI g)), some (.int (nI j))] [.int (nI 0)] 1085
                            refine r_if_ne_N (tgt := 1184) (pc' := 1088) hX dL_law_1085 (by decide) rfl (by omega) (fun c1085 => ?_) (fun c1085 => ?_)
                            · exact absurd c1085 (by omega)
                            · refine r_aload (pc' := 1090) hX dL_law_1088 rfl rfl ?_
                              refine r_iconst (pc' := 1091) (v := nI 0) hX dL_law_1090 rfl rfl ?_
                              refine V_callX (k' := 3763) (n' := 115142) (pc' := 1094) (wr := ((([wx, u143] : List va_W)).eraseIdx 1).flatten) hX (r_runVX (As := [.int (nI 0)]) hX dL_law_1091 k_L_224 (fun l9 hl9 => by cases hl9; exact cF_metalByAccounts (v := (ZS (z9 P M) (uz9 P M) []).1) rfl hF143 (AJz9).1 (hst := (by rw [hl]; exact hst))) hG (FS_recv hF143) rfl rfl (Nat.le_of_ble_eq_true rfl) (by decide) (by decide) (by decide) (by decide)) (fl_out 1 rfl) rfl rfl rfl (fun w9 u144 hp9 => ?_) ?_
                              · obtain ⟨okq, rfl, hF144⟩ := hp9
                                rw [show (qMib (ZS (z9 P M) (uz9 P M) []).1 (nI 0) : Int32) = nI 0 from f8.2.2.1]
                                change V X 3763 115142 (u144 ++ ((([wx, u143] : List va_W)).eraseIdx 1).flatten) [some (.ref (sa 90)), some (.ref x), some (.ref y), some (.int (nI (b 0 4))), some (.int (dg b)), some (.int c), some (.int (nI P)), some (.int (nI M)), some (.ref z), some (.int (nI (qz P M))), some (.int (nI g)), some (.int (nI j))] [.int (nI 0)] 1094
                                refine V_perm (fl_back (bs := ([wx, u143] : List va_W)) (bs' := ([wx, u144] : List va_W)) 1 rfl rfl) ?_
                                change V X 3763 115142 (([wx, u144] : List va_W).flatten) [some (.ref (sa 90)), some (.ref x), some (.ref y), some (.int (nI (b 0 4))), some (.int (dg b)), some (.int c), some (.int (nI P)), some (.int (nI M)), some (.ref z), some (.int (nI (qz P M))), some (.int (nI g)), some (.int (nI j))] [.int (nI 0)] 1094
                                refine r_if_ne_N (tgt := 1184) (pc' := 1097) hX dL_law_1094 (by decide) rfl (by omega) (fun c1094 => ?_) (fun c1094 => ?_)
                                · exact absurd c1094 (by omega)
                                · refine r_aload (pc' := 1099) hX dL_law_1097 rfl rfl ?_
                                  refine r_iconst (pc' := 1100) (v := nI 0) hX dL_law_1099 rfl rfl ?_
                                  refine V_callX (k' := 3764) (n' := 115148) (pc' := 1103) (wr := ((([wx, u144] : List va_W)).eraseIdx 1).flatten) hX (r_runVX (As := [.int (nI 0)]) hX dL_law_1100 k_L_65 (fun l9 hl9 => by cases hl9; exact cF_renewMould (v := (ZS (z9 P M) (uz9 P M) []).1) rfl hF144 (AJz9).1 (hst := (by rw [hl]; exact hst))) hG (FS_recv hF144) rfl rfl (Nat.le_of_ble_eq_true rfl) (by decide) (by decide) (by decide) (by decide)) (fl_out 1 rfl) rfl rfl rfl (fun w9 u145 hp9 => ?_) ?_
                                  · obtain ⟨okq, rfl, hF145⟩ := hp9
                                    rw [show ((oReset (ZS (z9 P M) (uz9 P M) []).1 (nI 0)).1 : Int32) = nI 5 from f8.2.2.2.1]
                                    change V X 3764 115148 (u145 ++ ((([wx, u144] : List va_W)).eraseIdx 1).flatten) [some (.ref (sa 90)), some (.ref x), some (.ref y), some (.int (nI (b 0 4))), some (.int (dg b)), some (.int c), some (.int (nI P)), some (.int (nI M)), some (.ref z), some (.int (nI (qz P M))), some (.int (nI g)), some (.int (nI j))] [.int (nI 5)] 1103
                                    refine V_perm (fl_back (bs := ([wx, u144] : List va_W)) (bs' := ([wx, u145] : List va_W)) 1 rfl rfl) ?_
                                    change V X 3764 115148 (([wx, u145] : List va_W).flatten) [some (.ref (sa 90)), some (.ref x), some (.ref y), some (.int (nI (b 0 4))), some (.int (dg b)), some (.int c), some (.int (nI P)), some (.int (nI M)), some (.ref z), some (.int (nI (qz P M))), some (.int (nI g)), some (.int (nI j))] [.int (nI 5)] 1103
                                    refine r_iconst (pc' := 1104) (v := nI 5) hX dL_law_1103 rfl rfl ?_
                                    refine r_icmp_ne_N (tgt := 1184) (pc' := 1107) hX dL_law_1104 (by decide) rfl (by omega) (by omega) (fun c1104 => ?_) (fun c1104 => ?_)
                                    · exact absurd c1104 (by omega)
                                    · refine r_aload (pc' := 1109) hX dL_law_1107 rfl rfl ?_
                                      refine r_iconst (pc' := 1110) (v := nI 0) hX dL_law_1109 rfl rfl ?_
                                      refine r_iconst (pc' := 1111) (v := nI 0) hX dL_law_1110 rfl rfl ?_
                                      refine V_callX (k' := 3765) (n' := 115154) (pc' := 1114) (wr := ((([wx, u145] : List va_W)).eraseIdx 1).flatten) hX (r_runVX (As := [.int (nI 0), .int (nI 0)]) hX dL_law_1111 k_L_218 (fun l9 hl9 => by cases hl9; exact cF_nextSqueak (v := (ZS (za10 P M) (uz10 P M) []).1) rfl hF145 (AJz10).1 (hst := (by rw [hl]; exact hst))) hG (FS_recv hF145) rfl rfl (Nat.le_of_ble_eq_true rfl) (by decide) (by decide) (by decide) (by decide)) (fl_out 1 rfl) rfl rfl rfl (fun w9 u146 hp9 => ?_) ?_
                                      · obtain ⟨okq, rfl, hF146⟩ := hp9
                                        rw [show (qNxt (ZS (za10 P M) (uz10 P M) []).1 (nI 0) (nI 0) : Int32) = nI ((qz P M) % 100) from f8.2.2.2.2.2]
                                        change V X 3765 115154 (u146 ++ ((([wx, u145] : List va_W)).eraseIdx 1).flatten) [some (.ref (sa 90)), some (.ref x), some (.ref y), some (.int (nI (b 0 4))), some (.int (dg b)), some (.int c), some (.int (nI P)), some (.int (nI M)), some (.ref z), some (.int (nI (qz P M))), some (.int (nI g)), some (.int (nI j))] [.int (nI ((qz P M) % 100))] 1114
                                        refine V_perm (fl_back (bs := ([wx, u145] : List va_W)) (bs' := ([wx, u146] : List va_W)) 1 rfl rfl) ?_
                                        change V X 3765 115154 (([wx, u146] : List va_W).flatten) [some (.ref (sa 90)), some (.ref x), some (.ref y), some (.int (nI (b 0 4))), some (.int (dg b)), some (.int c), some (.int (nI P)), some (.int (nI M)), some (.ref z), some (.int (nI (qz P M))), some (.int (nI g)), some (.int (nI j))] [.int (nI ((qz P M) % 100))] 1114
                                        refine r_iload (pc' := 1116) hX dL_law_1114 rfl rfl ?_
                                        refine r_bipush (pc' := 1118) (v := nI 100) hX dL_law_1116 rfl rfl ?_
                                        refine r_irem_N (pc' := 1119) hX dL_law_1118 (by omega) (by omega) (by omega) rfl ?_
                                        refine r_icmp_ne_N (tgt := 1184) (pc' := 1122) hX dL_law_1119 (by decide) rfl (by omega) (by omega) (fun c1119 => ?_) (fun c1119 => ?_)
                                        · exact absurd c1119 (by omega)
                                        · refine r_aload (pc' := 1124) hX dL_law_1122 rfl rfl ?_
                                          refine V_callX (k' := 3766) (n' := 115160) (pc' := 1127) (wr := ((([wx, u146] : List va_W)).eraseIdx 1).flatten) hX (r_runVX (As := []) hX dL_law_1124 k_L_153 (fun l9 hl9 => by cases hl9; exact cF_undo (v := (ZS (za10 P M) (uz10 P M) []).1) rfl hF146 (AJz10).1 (hst := (by rw [hl]; exact hst))) hG (FS_recv hF146) rfl rfl (Nat.le_of_ble_eq_true rfl) (by decide) (by decide) (by decide) (by decide)) (fl_out 1 rfl) rfl rfl rfl (fun w9 u147 hp9 => ?_) ?_
                                          · obtain ⟨okq, rfl, hF147⟩ := hp9
                                            rw [show (qUndo (ZS (za10 P M) (uz10 P M) []) : Int32) = nI (((uz9 P M).take 7).length) from (und (n := 7)).2]
                                            change V X 3766 115160 (u147 ++ ((([wx, u146] : List va_W)).eraseIdx 1).flatten) [some (.ref (sa 90)), some (.ref x), some (.ref y), some (.int (nI (b 0 4))), some (.int (dg b)), some (.int c), some (.int (nI P)), some (.int (nI M)), some (.ref z), some (.int (nI (qz P M))), some (.int (nI g)), some (.int (nI j))] [.int (nI (((uz9 P M).take 7).length))] 1127
                                            refine V_perm (fl_back (bs := ([wx, u146] : List va_W)) (bs' := ([wx, u147] : List va_W)) 1 rfl rfl) ?_
                                            change V X 3766 115160 (([wx, u147] : List va_W).flatten) [some (.ref (sa 90)), some (.ref x), some (.ref y), some (.int (nI (b 0 4))), some (.int (dg b)), some (.int c), some (.int (nI P)), some (.int (nI M)), some (.ref z), some (.int (nI (qz P M))), some (.int (nI g)), some (.int (nI j))] [.int (nI (((uz9 P M).take 7).length))] 1127
                                            refine r_if_lt_N (tgt := 1184) (pc' := 1130) hX dL_law_1127 (by decide) rfl (by omega) (fun c1127 => ?_) (fun c1127 => ?_)
                                            · exact absurd c1127 (by omega)
                                            · refine r_aload (pc' := 1132) hX dL_law_1130 rfl rfl ?_
                                              refine r_iconst (pc' := 1133) (v := nI 0) hX dL_law_1132 rfl rfl ?_
                                              refine V_callX (k' := 3767) (n' := 115166) (pc' := 1136) (wr := ((([wx, u147] : List va_W)).eraseIdx 1).flatten) hX (r_runVX (As := [.int (nI 0)]) hX dL_law_1133 k_L_123 (fun l9 hl9 => by cases hl9; exact cF_uses (v := (ZS (z9 P M) ((uz9 P M).take 7) []).1) rfl hF147 (hAu9).1 (hst := (by rw [hl]; exact hst))) hG (FS_recv hF147) rfl rfl (Nat.le_of_ble_eq_true rfl) (by decide) (by decide) (by decide) (by decide)) (fl_out 1 rfl) rfl rfl rfl (fun w9 u148 hp9 => ?_) ?_
                                              · obtain ⟨okq, rfl, hF148⟩ := hp9
                                                rw [show (qMld 2 (ZS (z9 P M) ((uz9 P M).take 7) []).1 (nI 0) : Int32) = nI 5 from f8.2.2.2.2.1]
                                                change V X 3767 115166 (u148 ++ ((([wx, u147] : List va_W)).eraseIdx 1).flatten) [some (.ref (sa 90)), some (.ref x), some (.ref y), some (.int (nI (b 0 4))), some (.int (dg b)), some (.int c), some (.int (nI P)), some (.int (nI M)), some (.ref z), some (.int (nI (qz P M))), some (.int (nI g)), some (.int (nI j))] [.int (nI 5)] 1136
                                                refine V_perm (fl_back (bs := ([wx, u147] : List va_W)) (bs' := ([wx, u148] : List va_W)) 1 rfl rfl) ?_
                                                change V X 3767 115166 (([wx, u148] : List va_W).flatten) [some (.ref (sa 90)), some (.ref x), some (.ref y), some (.int (nI (b 0 4))), some (.int (dg b)), some (.int c), some (.int (nI P)), some (.int (nI M)), some (.ref z), some (.int (nI (qz P M))), some (.int (nI g)), some (.int (nI j))] [.int (nI 5)] 1136
                                                refine r_iconst (pc' := 1137) (v := nI 5) hX dL_law_1136 rfl rfl ?_
                                                refine r_icmp_ne_N (tgt := 1184) (pc' := 1140) hX dL_law_1137 (by decide) rfl (by omega) (by omega) (fun c1137 => ?_) (fun c1137 => ?_)
                                                · exact absurd c1137 (by omega)
                                                · refine r_aload (pc' := 1142) hX dL_law_1140 rfl rfl ?_
                                                  refine V_callX (k' := 3768) (n' := 115172) (pc' := 1145) (wr := ((([wx, u148] : List va_W)).eraseIdx 1).flatten) hX (r_runVX (As := []) hX dL_law_1142 k_L_153 (fun l9 hl9 => by cases hl9; exact cF_undo (v := (ZS (z9 P M) ((uz9 P M).take 7) []).1) rfl hF148 (hAu9).1 (hst := (by rw [hl]; exact hst))) hG (FS_recv hF148) rfl rfl (Nat.le_of_ble_eq_true rfl) (by decide) (by decide) (by decide) (by decide)) (fl_out 1 rfl) rfl rfl rfl (fun w9 u149 hp9 => ?_) ?_
                                                  · obtain ⟨okq, rfl, hF149⟩ := hp9
                                                    replace hF149 := FS_und2 (n := 6) (m := 8) (by decide) hF149
                                                    rw [show (qUndo (ZS (z9 P M) ((uz9 P M).take 7) []) : Int32) = nI (((uz8 P M).take 6).length) from q_und2 (w := z9 P M) (v := z8 P M) (us := uz8 P M) (n := 6) (m := 8) (by decide)]
                                                    change V X 3768 115172 (u149 ++ ((([wx, u148] : List va_W)).eraseIdx 1).flatten) [some (.ref (sa 90)), some (.ref x), some (.ref y), some (.int (nI (b 0 4))), some (.int (dg b)), some (.int c), some (.int (nI P)), some (.int (nI M)), some (.ref z), some (.int (nI (qz P M))), some (.int (nI g)), some (.int (nI j))] [.int (nI (((uz8 P M).take 6).length))] 1145
                                                    refine V_perm (fl_back (bs := ([wx, u148] : List va_W)) (bs' := ([wx, u149] : List va_W)) 1 rfl rfl) ?_
                                                    change V X 3768 115172 (([wx, u149] : List va_W).flatten) [some (.ref (sa 90)), some (.ref x), some (.ref y), some (.int (nI (b 0 4))), some (.int (dg b)), some (.int c), some (.int (nI P)), some (.int (nI M)), some (.ref z), some (.int (nI (qz P M))), some (.int (nI g)), some (.int (nI j))] [.int (nI (((uz8 P M).take 6).length))] 1145
                                                    refine r_if_lt_N (tgt := 1184) (pc' := 1148) hX dL_law_1145 (by decide) rfl (by omega) (fun c1145 => ?_) (fun c1145 => ?_)
                                                    · exact absurd c1145 (by omega)
                                                    · refine r_aload (pc' := 1150) hX dL_law_1148 rfl rfl ?_
                                                      refine r_iconst (pc' := 1151) (v := nI 1) hX dL_law_1150 rfl rfl ?_
                                                      refine V_call (k' := 3769) (n' := 115178) (pc' := 1154) (wr := ((([wx, u149] : List va_W)).eraseIdx 1).flatten) hX (r_runS (As := [.ref z, .int (nI 1)]) hX dL_law_1151 k_L_252 (fun l9 hl9 => by cases hl9; exact cW_has (S := (ZS (z8 P M) ((uz8 P M).take 6) [])) f9.1 f9.2.1 hF149 (hAu8) hstX) hG rfl rfl (Nat.le_of_ble_eq_true rfl) (by decide) (by decide) (by decide) (by decide)) (fl_out 1 rfl) rfl rfl rfl (fun w9 u150 hp9 => ?_)
                                                      obtain ⟨rfl, hF150⟩ := hp9
                                                      change V X 3769 115178 (u150 ++ ((([wx, u149] : List va_W)).eraseIdx 1).flatten) [some (.ref (sa 90)), some (.ref x), some (.ref y), some (.int (nI (b 0 4))), some (.int (dg b)), some (.int c), some (.int (nI P)), some (.int (nI M)), some (.ref z), some (.int (nI (qz P M))), some (.int (nI g)), some (.int (nI j))] [.int (nI 1)] 1154
                                                      refine V_perm (fl_back (bs := ([wx, u149] : List va_W)) (bs' := ([wx, u150] : List va_W)) 1 rfl rfl) ?_
                                                      refine r_if_eq_N (tgt := 1184) (pc' := 1157) hX dL_law_1154 (by decide) rfl (by omega) (fun c1154 => ?_) (fun c1154 => ?_)
                                                      · exact absurd c1154 (by omega)
                                                      · refine r_aload (pc' := 1159) hX dL_law_1157 rfl rfl ?_
                                                        refine r_iconst (pc' := 1160) (v := nI 1) hX dL_law_1159 rfl rfl ?_
                                                        refine V_callX (k' := 3770) (n' := 115184) (pc' := 1163) (wr := ((([wx, u150] : List va_W)).eraseIdx 1).flatten) hX (r_runVX (As := [.int (nI 1)]) hX dL_law_1160 k_L_126 (fun l9 hl9 => by cases hl9; exact cF_isFailed (v := (ZS (z8 P M) ((uz8 P M).take 6) []).1) rfl hF150 (hAu8).1 (hst := (by rw [hl]; exact hst))) hG (FS_recv hF150) rfl rfl (Nat.le_of_ble_eq_true rfl) (by decide) (by decide) (by decide) (by decide)) (fl_out 1 rfl) rfl rfl rfl (fun w9 u151 hp9 => ?_) ?_
                                                        · obtain ⟨okq, rfl, hF151⟩ := hp9
                                                          rw [show (qBat (bNum 4) (ZS (z8 P M) ((uz8 P M).take 6) []).1 (nI 1) : Int32) = nI 0 from f9.2.2.1]
                                                          change V X 3770 115184 (u151 ++ ((([wx, u150] : List va_W)).eraseIdx 1).flatten) [some (.ref (sa 90)), some (.ref x), some (.ref y), some (.int (nI (b 0 4))), some (.int (dg b)), some (.int c), some (.int (nI P)), some (.int (nI M)), some (.ref z), some (.int (nI (qz P M))), some (.int (nI g)), some (.int (nI j))] [.int (nI 0)] 1163
                                                          refine V_perm (fl_back (bs := ([wx, u150] : List va_W)) (bs' := ([wx, u151] : List va_W)) 1 rfl rfl) ?_
                                                          change V X 3770 115184 (([wx, u151] : List va_W).flatten) [some (.ref (sa 90)), some (.ref x), some (.ref y), some (.int (nI (b 0 4))), some (.int (dg b)), some (.int c), some (.int (nI P)), some (.int (nI M)), some (.ref z), some (.int (nI (qz P M))), some (.int (nI g)), some (.int (nI j))] [.int (nI 0)] 1163
                                                          refine r_if_ne_N (tgt := 1184) (pc' := 1166) hX dL_law_1163 (by decide) rfl (by omega) (fun c1163 => ?_) (fun c1163 => ?_)
                                                          · exact absurd c1163 (by omega)
                                                          · refine r_aload (pc' := 1168) hX dL_law_1166 rfl rfl ?_
                                                            refine r_iconst (pc' := 1169) (v := nI 4) hX dL_law_1168 rfl rfl ?_
                                                            refine V_callX (k' := 3771) (n' := 115190) (pc' := 1172) (wr := ((([wx, u151] : List va_W)).eraseIdx 1).flatten) hX (r_runVX (As := [.int (nI 4)]) hX dL_law_1169 k_L_256 (fun l9 hl9 => by cases hl9; exact cF_batchOf (v := (ZS (z8 P M) ((uz8 P M).take 6) []).1) rfl hF151 (hAu8).1 (hst := (by rw [hl]; exact hst))) hG (FS_recv hF151) rfl rfl (Nat.le_of_ble_eq_true rfl) (by decide) (by decide) (by decide) (by decide)) (fl_out 1 rfl) rfl rfl rfl (fun w9 u152 hp9 => ?_) ?_
                                                            · obtain ⟨okq, rfl, hF152⟩ := hp9
                                                              rw [show (qBof (ZS (z8 P M) ((uz8 P M).take 6) []).1 (nI 4) : Int32) = nI 1 from f9.2.2.2]
                                                              change V X 3771 115190 (u152 ++ ((([wx, u151] : List va_W)).eraseIdx 1).flatten) [some (.ref (sa 90)), some (.ref x), some (.ref y), some (.int (nI (b 0 4))), some (.int (dg b)), some (.int c), some (.int (nI P)), some (.int (nI M)), some (.ref z), some (.int (nI (qz P M))), some (.int (nI g)), some (.int (nI j))] [.int (nI 1)] 1172
                                                              refine V_perm (fl_back (bs := ([wx, u151] : List va_W)) (bs' := ([wx, u152] : List va_W)) 1 rfl rfl) ?_
                                                              change V X 3771 115190 (([wx, u152] : List va_W).flatten) [some (.ref (sa 90)), some (.ref x), some (.ref y), some (.int (nI (b 0 4))), some (.int (dg b)), some (.int c), some (.int (nI P)), some (.int (nI M)), some (.ref z), some (.int (nI (qz P M))), some (.int (nI g)), some (.int (nI j))] [.int (nI 1)] 1172
                                                              refine r_iconst (pc' := 1173) (v := nI 1) hX dL_law_1172 rfl rfl ?_
                                                              refine r_icmp_ne_N (tgt := 1184) (pc' := 1176) hX dL_law_1173 (by decide) rfl (by omega) (by omega) (fun c1173 => ?_) (fun c1173 => ?_)
                                                              · exact absurd c1173 (by omega)
                                                              · refine r_aload (pc' := 1178) hX dL_law_1176 rfl rfl ?_
                                                                refine V_call (k' := 3771) (n' := 115190) (pc' := 1181) (wr := ((([wx, u152] : List va_W)).eraseIdx 1).flatten) hX (r_runV (As := []) hX dL_law_1178 k_L_191 (fun l9 hl9 => cF_isConsistent (v := (ZS (z8 P M) ((uz8 P M).take 6) []).1) rfl hF152 (hAu8).1) hG (FS_recv hF152) rfl rfl (Nat.le_of_ble_eq_true rfl) (by decide) (by decide) (by decide) (by decide)) (fl_out 1 rfl) rfl rfl rfl (fun w9 u153 hp9 => ?_)
                                                                obtain ⟨rfl, hF153⟩ := hp9
                                                                change V X 3771 115190 (u153 ++ ((([wx, u152] : List va_W)).eraseIdx 1).flatten) [some (.ref (sa 90)), some (.ref x), some (.ref y), some (.int (nI (b 0 4))), some (.int (dg b)), some (.int c), some (.int (nI P)), some (.int (nI M)), some (.ref z), some (.int (nI (qz P M))), some (.int (nI g)), some (.int (nI j))] [.int (nI 1)] 1181
                                                                refine V_perm (fl_back (bs := ([wx, u152] : List va_W)) (bs' := ([wx, u153] : List va_W)) 1 rfl rfl) ?_
                                                                refine r_if_ne_N (tgt := 1186) (pc' := 1184) hX dL_law_1181 (by decide) rfl (by omega) (fun c1181 => ?_) (fun c1181 => ?_)
                                                                · exact cont _ _ hx hF153
                                                                · exact absurd c1181 (by omega)
                                                            · intro E9 u9 hp9
                                                              exact absurd hp9.1 (by rw [show (qBof (ZS (z8 P M) ((uz8 P M).take 6) []).1 (nI 4) : Int32) = nI 1 from f9.2.2.2]; exact okN (by first | decide | omega))
                                                        · intro E9 u9 hp9
                                                          exact absurd hp9.1 (by rw [show (qBat (bNum 4) (ZS (z8 P M) ((uz8 P M).take 6) []).1 (nI 1) : Int32) = nI 0 from f9.2.2.1]; exact okN (by first | decide | omega))
                                                  · intro E9 u9 hp9
                                                    exact absurd hp9.1 (by rw [show (qUndo (ZS (z9 P M) ((uz9 P M).take 7) []) : Int32) = nI (((uz8 P M).take 6).length) from q_und2 (w := z9 P M) (v := z8 P M) (us := uz8 P M) (n := 6) (m := 8) (by decide)]; exact ok_len (by decide))
                                              · intro E9 u9 hp9
                                                exact absurd hp9.1 (by rw [show (qMld 2 (ZS (z9 P M) ((uz9 P M).take 7) []).1 (nI 0) : Int32) = nI 5 from f8.2.2.2.2.1]; exact okN (by first | decide | omega))
                                          · intro E9 u9 hp9
                                            exact absurd hp9.1 (by rw [show (qUndo (ZS (za10 P M) (uz10 P M) []) : Int32) = nI (((uz9 P M).take 7).length) from (und (n := 7)).2]; exact ok_len (by decide))
                                      · intro E9 u9 hp9
                                        exact absurd hp9.1 (by rw [show (qNxt (ZS (za10 P M) (uz10 P M) []).1 (nI 0) (nI 0) : Int32) = nI ((qz P M) % 100) from f8.2.2.2.2.2]; exact okN (by first | decide | omega))
                                  · intro E9 u9 hp9
                                    exact absurd hp9.1 (by rw [show ((oReset (ZS (z9 P M) (uz9 P M) []).1 (nI 0)).1 : Int32) = nI 5 from f8.2.2.2.1]; exact okN (by first | decide | omega))
                              · intro E9 u9 hp9
                                exact absurd hp9.1 (by rw [show (qMib (ZS (z9 P M) (uz9 P M) []).1 (nI 0) : Int32) = nI 0 from f8.2.2.1]; exact okN (by first | decide | omega))
                          · intro E9 u9 hp9
                            exact absurd (hp9.2.1.symm.trans f8.2.1) (by decide)
                  · intro E9 u9 hp9
                    exact absurd hp9.1 (by rw [show (oExam (ZS (z8 P M) (uz8 P M) []).1 (nI 1)).1 = nI 1 from f7.2.2.2]; exact okN (by decide))
              · intro E9 u9 hp9
                exact absurd hp9.1 (by rw [show ((oTol (ZS (z7 P M) (uz7 P M) []).1 (nI 99)).1 : Int32) = nI ((qz P M) % 100) from (tol_ok (v := z7 P M) (x := 99) (by decide)).trans (congrArg nI f7.2.2.1)]; exact okN (by first | decide | omega))
          · intro E9 u9 hp9
            exact absurd hp9.1 (by rw [show (qSqk (ZS (z7 P M) (uz7 P M) []).1 (nI 4) : Int32) = nI (((qz P M) + 52) % 100) from f7.2.1]; exact okN (by first | decide | omega))
      · intro E9 u9 hp9
        exact absurd hp9.1 (by rw [show (qBat (bNum 1) (ZS (z7 P M) (uz7 P M) []).1 (nI 1) : Int32) = nI 4 from f7.1]; exact okN (by first | decide | omega))
  · intro E9 u9 hp9
    exact absurd hp9.1 (by rw [show ((oPour (ZS (z6 P M) (uz6 P M) []).1 (nI 0) (nI 0) (nI 1)).1 : Int32) = nI 1 from f6.2.2.2.2.2.2.2]; exact okN (by first | decide | omega))
