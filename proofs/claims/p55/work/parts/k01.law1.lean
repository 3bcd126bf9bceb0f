/-! ===== the law's body ===== -/
set_option maxRecDepth 20000 in
set_option maxHeartbeats 4000000 in
theorem k_1 {X : xC} {l : Launch} {D : va_G} {cy : Nat → ClassId} {sa : Nat → Nat} (hX : Ok SF X cL_law RL 20 5000 130000) (hG : c0_G X = (D, cy, sa)) (hcy : c0_cy X = cy) (hnL : c0_nL X = 12) (hl : c0_l X = l) (hst : l.stackTraces = false) {b : SV} {us : List SV} (hB : BLD sa = YS b us) (hIb : IFB 120 b) (hus : ∀ u ∈ us, IFB 120 u) (h2 : b 0 1 = 2) (cont : ∀ (x : Nat) (y : Nat) (wx wy : va_W), FS cy x (XS b (v4x b) ((b :: us).take 8) [] (-1) (-1)) wx → FS cy y (YS (v4x b) ((v3x b :: ((v2x b :: ((v1x b :: ((b :: us).take 8)).take 8)).take 8)).take 8)) wy → V X 1654 16004 (([wx, wy] : List va_W).flatten) [some (.ref (sa 90)), some (.ref x), some (.ref y), some (.int (nI (b 0 4))), some (.int (dg b)), none, none, none, none, none, none, none] [] 81) : V X 0 0 (([] : List va_W).flatten) [some (.ref (sa 90)), none, none, none, none, none, none, none, none, none, none, none] [] 0 := by
  have hWb := hIb.1.1
  obtain ⟨hI1, hI2, hI3, hI4⟩ := IF_v hIb
  have hW1 := hI1.1.1
  have hW2 := hI2.1.1
  have hW3 := hI3.1.1
  have hb1 := hWb.2.2.2.2.1
  have hb2 := hW1.2.2.2.1
  have hb3 := (hW2.2.2.2.2.2.2.2.2.1 1 (by decide)).2
  have hb4 := (hW3.2.2.2.2.2.2.2.2.1 0 (by decide)).2
  have hq3 : (oReset (v2x b) (nI 1)).1 = nI (v2x b 2 1) := reset_ok (by rw [v2_1]; omega) (by rw [v2_1]; omega)
  have hq4 : (oReset (v3x b) (nI 0)).1 = nI (v3x b 2 0) := reset_ok (by rw [v3_1]; omega) (by rw [v3_1]; omega)
  have hb5 := hWb.2.2.1
  have hus4 : ∀ u ∈ us, IFB (120 + 4) u := fun u hu => (hus u hu).up (by decide)
  have hu1 : ∀ u ∈ (b :: us).take 8, IFB (120 + 4) u := mtc (hIb.up (by decide)) hus4
  have hAx0 : AJ 124 (XS b b us [] (-1) (-1)) := AJ_XS (hIb.up (by decide)) (hIb.up (by decide)) hus4 nil127 (Or.inl rfl) (Or.inl rfl)
  have hAx1 : AJ 124 (XS b b us (ltx 0) (-1) (-1)) := lit_buf (i := 0) (by decide) hAx0
  have hAx2 : AJ 124 (XS b (v4x b) ((b :: us).take 8) [] (-1) (-1)) := AJ_XS (hIb.up (by decide)) hI4 hu1 nil127 (Or.inl rfl) (Or.inl rfl)
  have hu2 : ∀ u ∈ ((v1x b :: ((b :: us).take 8)).take 8), IFB (120 + 4) u := mtc hI1 hu1
  have hu3 : ∀ u ∈ ((v2x b :: ((v1x b :: ((b :: us).take 8)).take 8)).take 8), IFB (120 + 4) u := mtc hI2 hu2
  have hu4 : ∀ u ∈ ((v3x b :: ((v2x b :: ((v1x b :: ((b :: us).take 8)).take 8)).take 8)).take 8), IFB (120 + 4) u := mtc hI3 hu3
  have hAy1 : AJ 124 (YS (v1x b) ((b :: us).take 8)) := AJ_YS hI1 hu1
  have hAy2 : AJ 124 (YS (v2x b) ((v1x b :: ((b :: us).take 8)).take 8)) := AJ_YS hI2 hu2
  have hAy3 : AJ 124 (YS (v3x b) ((v2x b :: ((v1x b :: ((b :: us).take 8)).take 8)).take 8)) := AJ_YS hI3 hu3
  have hAy4 : AJ 124 (YS (v4x b) ((v3x b :: ((v2x b :: ((v1x b :: ((b :: us).take 8)).take 8)).take 8)).take 8)) := AJ_YS hI4 hu4
  refine r_aload_n (pc' := 1) hX dL_law_0 rfl rfl ?_
  refine V_call (k' := 480) (n' := 2932) (pc' := 4) (wr := ([] : List va_W).flatten) hX (r_runS (As := [.ref (sa 90)]) hX dL_law_1 k_L_133 (fun l9 hl9 => by cases hl9; exact cW_build (hst := (by rw [hl]; exact hst))) hG rfl rfl (Nat.le_of_ble_eq_true rfl) (by decide) (by decide) (by decide) (by decide)) (List.Perm.refl _) rfl rfl rfl (fun w9 u44 hp9 => ?_)
  obtain ⟨x, rfl, hF44⟩ := hp9
  rw [hB] at hF44
  change V X 480 2932 (u44 ++ ([] : List va_W).flatten) [some (.ref (sa 90)), none, none, none, none, none, none, none, none, none, none, none] [.ref x] 4
  refine V_perm (fl_new (bs := ([] : List va_W))) ?_
  refine r_astore_n (L' := [some (.ref (sa 90)), some (.ref x), none, none, none, none, none, none, none, none, none, none]) (pc' := 5) hX dL_law_4 (nlt hnL (by decide)) rfl rfl rfl ?_
  refine r_aload_n (pc' := 6) hX dL_law_5 rfl rfl ?_
  refine V_call (k' := 960) (n' := 5864) (pc' := 9) (wr := ([u44] : List va_W).flatten) hX (r_runS (As := [.ref (sa 90)]) hX dL_law_6 k_L_133 (fun l9 hl9 => by cases hl9; exact cW_build (hst := (by rw [hl]; exact hst))) hG rfl rfl (Nat.le_of_ble_eq_true rfl) (by decide) (by decide) (by decide) (by decide)) (List.Perm.refl _) rfl rfl rfl (fun w9 u45 hp9 => ?_)
  obtain ⟨y, rfl, hF45⟩ := hp9
  rw [hB] at hF45
  change V X 960 5864 (u45 ++ ([u44] : List va_W).flatten) [some (.ref (sa 90)), some (.ref x), none, none, none, none, none, none, none, none, none, none] [.ref y] 9
  refine V_perm (fl_new (bs := ([u44] : List va_W))) ?_
  refine r_astore_n (L' := [some (.ref (sa 90)), some (.ref x), some (.ref y), none, none, none, none, none, none, none, none, none]) (pc' := 10) hX dL_law_9 (nlt hnL (by decide)) rfl rfl rfl ?_
  refine r_aload_n (pc' := 11) hX dL_law_10 rfl rfl ?_
  refine V_call (k' := 960) (n' := 5864) (pc' := 14) (wr := ((([u44, u45] : List va_W)).eraseIdx 0).flatten) hX (r_runV (As := []) hX dL_law_11 k_L_137 (fun l9 hl9 => cF_save (v := (YS b us).1) rfl hF44 ((AJ_YS hIb hus)).1) hG (FS_recv hF44) rfl rfl (Nat.le_of_ble_eq_true rfl) (by decide) (by decide) (by decide) (by decide)) (fl_out 0 rfl) rfl rfl rfl (fun w9 u46 hp9 => ?_)
  obtain ⟨rfl, hF46⟩ := hp9
  change V X 960 5864 (u46 ++ ((([u44, u45] : List va_W)).eraseIdx 0).flatten) [some (.ref (sa 90)), some (.ref x), some (.ref y), none, none, none, none, none, none, none, none, none] [.int (nI (b 0 4))] 14
  refine V_perm (fl_back (bs := ([u44, u45] : List va_W)) (bs' := ([u46, u45] : List va_W)) 0 rfl rfl) ?_
  refine r_istore_n (L' := [some (.ref (sa 90)), some (.ref x), some (.ref y), some (.int (nI (b 0 4))), none, none, none, none, none, none, none, none]) (pc' := 15) hX dL_law_14 (nlt hnL (by decide)) rfl rfl rfl ?_
  refine r_aload_n (pc' := 16) hX dL_law_15 rfl rfl ?_
  refine V_call (k' := 1176) (n' := 7184) (pc' := 19) (wr := ((([u46, u45] : List va_W)).eraseIdx 0).flatten) hX (r_runS (As := [.ref x]) hX dL_law_16 k_L_140 (fun l9 hl9 => by cases hl9; exact cW_state (S := (XS b b us [] (-1) (-1))) hF46 (hAx0) (by omega) (hst := (by rw [hl]; exact hst))) hG rfl rfl (Nat.le_of_ble_eq_true rfl) (by decide) (by decide) (by decide) (by decide)) (fl_out 0 rfl) rfl rfl rfl (fun w9 u47 hp9 => ?_)
  obtain ⟨rfl, hF47⟩ := hp9
  change V X 1176 7184 (u47 ++ ((([u46, u45] : List va_W)).eraseIdx 0).flatten) [some (.ref (sa 90)), some (.ref x), some (.ref y), some (.int (nI (b 0 4))), none, none, none, none, none, none, none, none] [.int (dg b)] 19
  refine V_perm (fl_back (bs := ([u46, u45] : List va_W)) (bs' := ([u47, u45] : List va_W)) 0 rfl rfl) ?_
  refine r_istore (L' := [some (.ref (sa 90)), some (.ref x), some (.ref y), some (.int (nI (b 0 4))), some (.int (dg b)), none, none, none, none, none, none, none]) (pc' := 21) hX dL_law_19 (nlt hnL (by decide)) rfl rfl rfl ?_
  refine r_aload_n (pc' := 22) hX dL_law_21 rfl rfl ?_
  refine r_ldcS (i := 0) (pc' := 24) hX hG dL_law_22 (by decide) rfl rfl ?_
  refine V_call (k' := 1216) (n' := 13184) (pc' := 27) (wr := ((([u47, u45] : List va_W)).eraseIdx 0).flatten) hX (r_runS (As := [.ref x, .ref (sa (100 + 0))]) hX dL_law_24 k_L_146 (fun l9 hl9 => by cases hl9; exact cW_put (i := 0) (S := (XS b b us [] (-1) (-1))) (by decide) hF47 (hAx0) (hst := (by rw [hl]; exact hst))) hG rfl rfl (Nat.le_of_ble_eq_true rfl) (by decide) (by decide) (by decide) (by decide)) (fl_out 0 rfl) rfl rfl rfl (fun w9 u48 hp9 => ?_)
  obtain ⟨rfl, hF48⟩ := hp9
  change V X 1216 13184 (u48 ++ ((([u47, u45] : List va_W)).eraseIdx 0).flatten) [some (.ref (sa 90)), some (.ref x), some (.ref y), some (.int (nI (b 0 4))), some (.int (dg b)), none, none, none, none, none, none, none] [] 27
  refine V_perm (fl_back (bs := ([u47, u45] : List va_W)) (bs' := ([u48, u45] : List va_W)) 0 rfl rfl) ?_
  refine r_aload_n (pc' := 28) hX dL_law_27 rfl rfl ?_
  refine V_callX (k' := 1218) (n' := 13340) (pc' := 31) (wr := ((([u48, u45] : List va_W)).eraseIdx 0).flatten) hX (r_runVX (As := []) hX dL_law_28 k_L_150 (fun l9 hl9 => by cases hl9; exact cF_runScript (v := (XS b b us (ltx 0) (-1) (-1)).1) rfl hF48 (hAx1).1 (hst := (by rw [hl]; exact hst)) (hK := (by omega))) hG (FS_recv hF48) rfl rfl (Nat.le_of_ble_eq_true rfl) (by decide) (by decide) (by decide) (by decide)) (fl_out 0 rfl) rfl rfl rfl (fun w9 u49 hp9 => ?_) ?_
  · obtain ⟨okq, rfl, hF49⟩ := hp9
    rw [(xs_run0 h2 hWb).2] at hF49
    rw [show (qRun (XS b b us (ltx 0) (-1) (-1)) : Int32) = nI 4 from (xs_run0 h2 hWb).1]
    change V X 1218 13340 (u49 ++ ((([u48, u45] : List va_W)).eraseIdx 0).flatten) [some (.ref (sa 90)), some (.ref x), some (.ref y), some (.int (nI (b 0 4))), some (.int (dg b)), none, none, none, none, none, none, none] [.int (nI 4)] 31
    refine V_perm (fl_back (bs := ([u48, u45] : List va_W)) (bs' := ([u49, u45] : List va_W)) 0 rfl rfl) ?_
    change V X 1218 13340 (([u49, u45] : List va_W).flatten) [some (.ref (sa 90)), some (.ref x), some (.ref y), some (.int (nI (b 0 4))), some (.int (dg b)), none, none, none, none, none, none, none] [.int (nI 4)] 31
    refine r_iconst (pc' := 32) (v := nI 4) hX dL_law_31 rfl rfl ?_
    refine r_icmp_ne_N (tgt := 79) (pc' := 35) hX dL_law_32 (by decide) rfl (by omega) (by omega) (fun c32 => ?_) (fun c32 => ?_)
    · exact absurd c32 (by omega)
    · refine r_aload_n (pc' := 36) hX dL_law_35 rfl rfl ?_
      refine r_bipush (pc' := 38) (v := nI 7) hX dL_law_36 rfl rfl ?_
      refine V_callX (k' := 1219) (n' := 13346) (pc' := 41) (wr := ((([u49, u45] : List va_W)).eraseIdx 1).flatten) hX (r_runVX (As := [.int (nI 7)]) hX dL_law_38 k_L_68 (fun l9 hl9 => by cases hl9; exact cF_setTolerance (v := (YS b us).1) rfl hF45 ((AJ_YS hIb hus)).1 (hst := (by rw [hl]; exact hst))) hG (FS_recv hF45) rfl rfl (Nat.le_of_ble_eq_true rfl) (by decide) (by decide) (by decide) (by decide)) (fl_out 1 rfl) rfl rfl rfl (fun w9 u50 hp9 => ?_) ?_
      · obtain ⟨okq, rfl, hF50⟩ := hp9
        rw [show ((oTol (YS b us).1 (nI 7)).1 : Int32) = nI (b 0 2) from tol_ok (by decide)]
        change V X 1219 13346 (u50 ++ ((([u49, u45] : List va_W)).eraseIdx 1).flatten) [some (.ref (sa 90)), some (.ref x), some (.ref y), some (.int (nI (b 0 4))), some (.int (dg b)), none, none, none, none, none, none, none] [.int (nI (b 0 2))] 41
        refine V_perm (fl_back (bs := ([u49, u45] : List va_W)) (bs' := ([u49, u50] : List va_W)) 1 rfl rfl) ?_
        change V X 1219 13346 (([u49, u50] : List va_W).flatten) [some (.ref (sa 90)), some (.ref x), some (.ref y), some (.int (nI (b 0 4))), some (.int (dg b)), none, none, none, none, none, none, none] [.int (nI (b 0 2))] 41
        refine r_if_lt_N (tgt := 79) (pc' := 44) hX dL_law_41 (by decide) rfl (by omega) (fun c41 => ?_) (fun c41 => ?_)
        · exact absurd c41 (by omega)
        · refine r_aload_n (pc' := 45) hX dL_law_44 rfl rfl ?_
          refine r_iconst (pc' := 46) (v := nI 5) hX dL_law_45 rfl rfl ?_
          refine V_callX (k' := 1220) (n' := 13352) (pc' := 49) (wr := ((([u49, u50] : List va_W)).eraseIdx 1).flatten) hX (r_runVX (As := [.int (nI 5)]) hX dL_law_46 k_L_71 (fun l9 hl9 => by cases hl9; exact cF_setStep (v := (YS (v1x b) ((b :: us).take 8)).1) rfl hF50 (hAy1).1 (hst := (by rw [hl]; exact hst))) hG (FS_recv hF50) rfl rfl (Nat.le_of_ble_eq_true rfl) (by decide) (by decide) (by decide) (by decide)) (fl_out 1 rfl) rfl rfl rfl (fun w9 u51 hp9 => ?_) ?_
          · obtain ⟨okq, rfl, hF51⟩ := hp9
            rw [show ((oStep (YS (v1x b) ((b :: us).take 8)).1 (nI 5)).1 : Int32) = nI (v1x b 0 3) from step_ok (by decide)]
            change V X 1220 13352 (u51 ++ ((([u49, u50] : List va_W)).eraseIdx 1).flatten) [some (.ref (sa 90)), some (.ref x), some (.ref y), some (.int (nI (b 0 4))), some (.int (dg b)), none, none, none, none, none, none, none] [.int (nI (v1x b 0 3))] 49
            refine V_perm (fl_back (bs := ([u49, u50] : List va_W)) (bs' := ([u49, u51] : List va_W)) 1 rfl rfl) ?_
            change V X 1220 13352 (([u49, u51] : List va_W).flatten) [some (.ref (sa 90)), some (.ref x), some (.ref y), some (.int (nI (b 0 4))), some (.int (dg b)), none, none, none, none, none, none, none] [.int (nI (v1x b 0 3))] 49
            refine r_if_lt_N (tgt := 79) (pc' := 52) hX dL_law_49 (by decide) rfl (by omega) (fun c49 => ?_) (fun c49 => ?_)
            · exact absurd c49 (by omega)
            · refine r_aload_n (pc' := 53) hX dL_law_52 rfl rfl ?_
              refine r_iconst (pc' := 54) (v := nI 1) hX dL_law_53 rfl rfl ?_
              refine V_callX (k' := 1221) (n' := 13358) (pc' := 57) (wr := ((([u49, u51] : List va_W)).eraseIdx 1).flatten) hX (r_runVX (As := [.int (nI 1)]) hX dL_law_54 k_L_65 (fun l9 hl9 => by cases hl9; exact cF_renewMould (v := (YS (v2x b) ((v1x b :: ((b :: us).take 8)).take 8)).1) rfl hF51 (hAy2).1 (hst := (by rw [hl]; exact hst))) hG (FS_recv hF51) rfl rfl (Nat.le_of_ble_eq_true rfl) (by decide) (by decide) (by decide) (by decide)) (fl_out 1 rfl) rfl rfl rfl (fun w9 u52 hp9 => ?_) ?_
              · obtain ⟨okq, rfl, hF52⟩ := hp9
                rw [show ((oReset (YS (v2x b) ((v1x b :: ((b :: us).take 8)).take 8)).1 (nI 1)).1 : Int32) = nI (v2x b 2 1) from hq3]
                change V X 1221 13358 (u52 ++ ((([u49, u51] : List va_W)).eraseIdx 1).flatten) [some (.ref (sa 90)), some (.ref x), some (.ref y), some (.int (nI (b 0 4))), some (.int (dg b)), none, none, none, none, none, none, none] [.int (nI (v2x b 2 1))] 57
                refine V_perm (fl_back (bs := ([u49, u51] : List va_W)) (bs' := ([u49, u52] : List va_W)) 1 rfl rfl) ?_
                change V X 1221 13358 (([u49, u52] : List va_W).flatten) [some (.ref (sa 90)), some (.ref x), some (.ref y), some (.int (nI (b 0 4))), some (.int (dg b)), none, none, none, none, none, none, none] [.int (nI (v2x b 2 1))] 57
                refine r_if_lt_N (tgt := 79) (pc' := 60) hX dL_law_57 (by decide) rfl (by omega) (fun c57 => ?_) (fun c57 => ?_)
                · exact absurd c57 (by omega)
                · refine r_aload_n (pc' := 61) hX dL_law_60 rfl rfl ?_
                  refine r_iconst (pc' := 62) (v := nI 0) hX dL_law_61 rfl rfl ?_
                  refine V_callX (k' := 1222) (n' := 13364) (pc' := 65) (wr := ((([u49, u52] : List va_W)).eraseIdx 1).flatten) hX (r_runVX (As := [.int (nI 0)]) hX dL_law_62 k_L_65 (fun l9 hl9 => by cases hl9; exact cF_renewMould (v := (YS (v3x b) ((v2x b :: ((v1x b :: ((b :: us).take 8)).take 8)).take 8)).1) rfl hF52 (hAy3).1 (hst := (by rw [hl]; exact hst))) hG (FS_recv hF52) rfl rfl (Nat.le_of_ble_eq_true rfl) (by decide) (by decide) (by decide) (by decide)) (fl_out 1 rfl) rfl rfl rfl (fun w9 u53 hp9 => ?_) ?_
                  · obtain ⟨okq, rfl, hF53⟩ := hp9
                    rw [show ((oReset (YS (v3x b) ((v2x b :: ((v1x b :: ((b :: us).take 8)).take 8)).take 8)).1 (nI 0)).1 : Int32) = nI (v3x b 2 0) from hq4]
                    change V X 1222 13364 (u53 ++ ((([u49, u52] : List va_W)).eraseIdx 1).flatten) [some (.ref (sa 90)), some (.ref x), some (.ref y), some (.int (nI (b 0 4))), some (.int (dg b)), none, none, none, none, none, none, none] [.int (nI (v3x b 2 0))] 65
                    refine V_perm (fl_back (bs := ([u49, u52] : List va_W)) (bs' := ([u49, u53] : List va_W)) 1 rfl rfl) ?_
                    change V X 1222 13364 (([u49, u53] : List va_W).flatten) [some (.ref (sa 90)), some (.ref x), some (.ref y), some (.int (nI (b 0 4))), some (.int (dg b)), none, none, none, none, none, none, none] [.int (nI (v3x b 2 0))] 65
                    refine r_if_lt_N (tgt := 79) (pc' := 68) hX dL_law_65 (by decide) rfl (by omega) (fun c65 => ?_) (fun c65 => ?_)
                    · exact absurd c65 (by omega)
                    · refine r_aload_n (pc' := 69) hX dL_law_68 rfl rfl ?_
                      refine V_call (k' := 1438) (n' := 14684) (pc' := 72) (wr := ((([u49, u53] : List va_W)).eraseIdx 0).flatten) hX (r_runS (As := [.ref x]) hX dL_law_69 k_L_140 (fun l9 hl9 => by cases hl9; exact cW_state (S := (XS b (v4x b) ((b :: us).take 8) [] (-1) (-1))) hF49 (hAx2) (by omega) (hst := (by rw [hl]; exact hst))) hG rfl rfl (Nat.le_of_ble_eq_true rfl) (by decide) (by decide) (by decide) (by decide)) (fl_out 0 rfl) rfl rfl rfl (fun w9 u54 hp9 => ?_)
                      obtain ⟨rfl, hF54⟩ := hp9
                      change V X 1438 14684 (u54 ++ ((([u49, u53] : List va_W)).eraseIdx 0).flatten) [some (.ref (sa 90)), some (.ref x), some (.ref y), some (.int (nI (b 0 4))), some (.int (dg b)), none, none, none, none, none, none, none] [.int (dg (v4x b))] 72
                      refine V_perm (fl_back (bs := ([u49, u53] : List va_W)) (bs' := ([u54, u53] : List va_W)) 0 rfl rfl) ?_
                      refine r_aload_n (pc' := 73) hX dL_law_72 rfl rfl ?_
                      refine V_call (k' := 1654) (n' := 16004) (pc' := 76) (wr := ((([u54, u53] : List va_W)).eraseIdx 1).flatten) hX (r_runS (As := [.ref y]) hX dL_law_73 k_L_140 (fun l9 hl9 => by cases hl9; exact cW_state (S := (YS (v4x b) ((v3x b :: ((v2x b :: ((v1x b :: ((b :: us).take 8)).take 8)).take 8)).take 8))) hF53 (hAy4) (by omega) (hst := (by rw [hl]; exact hst))) hG rfl rfl (Nat.le_of_ble_eq_true rfl) (by decide) (by decide) (by decide) (by decide)) (fl_out 1 rfl) rfl rfl rfl (fun w9 u55 hp9 => ?_)
                      obtain ⟨rfl, hF55⟩ := hp9
                      change V X 1654 16004 (u55 ++ ((([u54, u53] : List va_W)).eraseIdx 1).flatten) [some (.ref (sa 90)), some (.ref x), some (.ref y), some (.int (nI (b 0 4))), some (.int (dg b)), none, none, none, none, none, none, none] [.int (dg (v4x b)), .int (dg (v4x b))] 76
                      refine V_perm (fl_back (bs := ([u54, u53] : List va_W)) (bs' := ([u54, u55] : List va_W)) 1 rfl rfl) ?_
                      refine r_icmp_eq (tgt := 81) (pc' := 79) hX dL_law_76 (by decide) rfl (fun c76 => ?_) (fun c76 => ?_)
                      · exact cont x y _ _ hF54 hF55
                      · exact absurd rfl c76
                  · intro E9 u9 hp9
                    exact absurd hp9.1 (by rw [show ((oReset (YS (v3x b) ((v2x b :: ((v1x b :: ((b :: us).take 8)).take 8)).take 8)).1 (nI 0)).1 : Int32) = nI (v3x b 2 0) from hq4]; exact okN (by first | decide | omega))
              · intro E9 u9 hp9
                exact absurd hp9.1 (by rw [show ((oReset (YS (v2x b) ((v1x b :: ((b :: us).take 8)).take 8)).1 (nI 1)).1 : Int32) = nI (v2x b 2 1) from hq3]; exact okN (by first | decide | omega))
          · intro E9 u9 hp9
            exact absurd hp9.1 (by rw [show ((oStep (YS (v1x b) ((b :: us).take 8)).1 (nI 5)).1 : Int32) = nI (v1x b 0 3) from step_ok (by decide)]; exact okN (by first | decide | omega))
      · intro E9 u9 hp9
        exact absurd hp9.1 (by rw [show ((oTol (YS b us).1 (nI 7)).1 : Int32) = nI (b 0 2) from tol_ok (by decide)]; exact okN (by first | decide | omega))
  · intro E9 u9 hp9
    exact absurd hp9.1 (by rw [show (qRun (XS b b us (ltx 0) (-1) (-1)) : Int32) = nI 4 from (xs_run0 h2 hWb).1]; exact okN (by first | decide | omega))

set_option maxRecDepth 20000 in
set_option maxHeartbeats 4000000 in
theorem k_2 {X : xC} {l : Launch} {D : va_G} {cy : Nat → ClassId} {sa : Nat → Nat} (hX : Ok SF X cL_law RL 20 5000 130000) (hG : c0_G X = (D, cy, sa)) (hcy : c0_cy X = cy) (hnL : c0_nL X = 12) (hl : c0_l X = l) (hst : l.stackTraces = false) {b : SV} {us : List SV} (hB : BLD sa = YS b us) (hIb : IFB 120 b) (hus : ∀ u ∈ us, IFB 120 u) (h2 : b 0 1 = 2) {x y : Nat} {wx wy : va_W} (hx : FS cy x (XS b (v4x b) ((b :: us).take 8) [] (-1) (-1)) wx) (hy : FS cy y (YS (v4x b) ((v3x b :: ((v2x b :: ((v1x b :: ((b :: us).take 8)).take 8)).take 8)).take 8)) wy) (cont : ∀ (wx wy : va_W), FS cy x (XS b b (us.take 7) [] (-1) (-1)) wx → FS cy y (YS b (us.take 4)) wy → V X 2091 18674 (([wx, wy] : List va_W).flatten) [some (.ref (sa 90)), some (.ref x), some (.ref y), some (.int (nI (b 0 4))), some (.int (dg b)), none, none, none, none, none, none, none] [] 136) : V X 1654 16004 (([wx, wy] : List va_W).flatten) [some (.ref (sa 90)), some (.ref x), some (.ref y), some (.int (nI (b 0 4))), some (.int (dg b)), none, none, none, none, none, none, none] [] 81 := by
  have hWb := hIb.1.1
  obtain ⟨hI1, hI2, hI3, hI4⟩ := IF_v hIb
  have hW1 := hI1.1.1
  have hW2 := hI2.1.1
  have hW3 := hI3.1.1
  have hb1 := hWb.2.2.2.2.1
  have hb2 := hW1.2.2.2.1
  have hb3 := (hW2.2.2.2.2.2.2.2.2.1 1 (by decide)).2
  have hb4 := (hW3.2.2.2.2.2.2.2.2.1 0 (by decide)).2
  have hq3 : (oReset (v2x b) (nI 1)).1 = nI (v2x b 2 1) := reset_ok (by rw [v2_1]; omega) (by rw [v2_1]; omega)
  have hq4 : (oReset (v3x b) (nI 0)).1 = nI (v3x b 2 0) := reset_ok (by rw [v3_1]; omega) (by rw [v3_1]; omega)
  have hb5 := hWb.2.2.1
  have hus4 : ∀ u ∈ us, IFB (120 + 4) u := fun u hu => (hus u hu).up (by decide)
  have hu1 : ∀ u ∈ (b :: us).take 8, IFB (120 + 4) u := mtc (hIb.up (by decide)) hus4
  have hAx0 : AJ 124 (XS b b us [] (-1) (-1)) := AJ_XS (hIb.up (by decide)) (hIb.up (by decide)) hus4 nil127 (Or.inl rfl) (Or.inl rfl)
  have hAx1 : AJ 124 (XS b b us (ltx 0) (-1) (-1)) := lit_buf (i := 0) (by decide) hAx0
  have hAx2 : AJ 124 (XS b (v4x b) ((b :: us).take 8) [] (-1) (-1)) := AJ_XS (hIb.up (by decide)) hI4 hu1 nil127 (Or.inl rfl) (Or.inl rfl)
  have hu2 : ∀ u ∈ ((v1x b :: ((b :: us).take 8)).take 8), IFB (120 + 4) u := mtc hI1 hu1
  have hu3 : ∀ u ∈ ((v2x b :: ((v1x b :: ((b :: us).take 8)).take 8)).take 8), IFB (120 + 4) u := mtc hI2 hu2
  have hu4 : ∀ u ∈ ((v3x b :: ((v2x b :: ((v1x b :: ((b :: us).take 8)).take 8)).take 8)).take 8), IFB (120 + 4) u := mtc hI3 hu3
  have hAy1 : AJ 124 (YS (v1x b) ((b :: us).take 8)) := AJ_YS hI1 hu1
  have hAy2 : AJ 124 (YS (v2x b) ((v1x b :: ((b :: us).take 8)).take 8)) := AJ_YS hI2 hu2
  have hAy3 : AJ 124 (YS (v3x b) ((v2x b :: ((v1x b :: ((b :: us).take 8)).take 8)).take 8)) := AJ_YS hI3 hu3
  have hAy4 : AJ 124 (YS (v4x b) ((v3x b :: ((v2x b :: ((v1x b :: ((b :: us).take 8)).take 8)).take 8)).take 8)) := AJ_YS hI4 hu4
  have hn1 := List.length_take_le 7 us
  have hn2 := List.length_take_le 7 ((v2x b :: ((v1x b :: ((b :: us).take 8)).take 8)).take 8)
  have hn3 := List.length_take_le 6 ((v1x b :: ((b :: us).take 8)).take 8)
  have hn4 := List.length_take_le 5 ((b :: us).take 8)
  have hn5 := List.length_take_le 4 us
  have hAx3 : AJ 124 (XS b b (us.take 7) [] (-1) (-1)) := AJ_XS (hIb.up (by decide)) (hIb.up (by decide)) (mtt hus4) nil127 (Or.inl rfl) (Or.inl rfl)
  have hAy5 : AJ 124 (YS (v3x b) (((v2x b :: ((v1x b :: ((b :: us).take 8)).take 8)).take 8).take 7)) := AJ_YS hI3 (mtt hu3)
  have hAy6 : AJ 124 (YS (v2x b) (((v1x b :: ((b :: us).take 8)).take 8).take 6)) := AJ_YS hI2 (mtt hu2)
  have hAy7 : AJ 124 (YS (v1x b) (((b :: us).take 8).take 5)) := AJ_YS hI1 (mtt hu1)
  have hAy8 : AJ 124 (YS b (us.take 4)) := AJ_YS (hIb.up (by decide)) (mtt hus4)
  refine r_aload_n (pc' := 82) hX dL_law_81 rfl rfl ?_
  refine V_callX (k' := 1655) (n' := 16010) (pc' := 85) (wr := ((([wx, wy] : List va_W)).eraseIdx 0).flatten) hX (r_runVX (As := []) hX dL_law_82 k_L_153 (fun l9 hl9 => by cases hl9; exact cF_undo (v := (XS b (v4x b) ((b :: us).take 8) [] (-1) (-1)).1) rfl hx (hAx2).1 (hst := (by rw [hl]; exact hst))) hG (FS_recv hx) rfl rfl (Nat.le_of_ble_eq_true rfl) (by decide) (by decide) (by decide) (by decide)) (fl_out 0 rfl) rfl rfl rfl (fun w9 u56 hp9 => ?_) ?_
  · obtain ⟨okq, rfl, hF56⟩ := hp9
    rw [show (qUndo (XS b (v4x b) ((b :: us).take 8) [] (-1) (-1)) : Int32) = nI ((us.take 7).length) from (und (n := 7)).2]
    change V X 1655 16010 (u56 ++ ((([wx, wy] : List va_W)).eraseIdx 0).flatten) [some (.ref (sa 90)), some (.ref x), some (.ref y), some (.int (nI (b 0 4))), some (.int (dg b)), none, none, none, none, none, none, none] [.int (nI ((us.take 7).length))] 85
    refine V_perm (fl_back (bs := ([wx, wy] : List va_W)) (bs' := ([u56, wy] : List va_W)) 0 rfl rfl) ?_
    change V X 1655 16010 (([u56, wy] : List va_W).flatten) [some (.ref (sa 90)), some (.ref x), some (.ref y), some (.int (nI (b 0 4))), some (.int (dg b)), none, none, none, none, none, none, none] [.int (nI ((us.take 7).length))] 85
    refine r_if_lt_N (tgt := 134) (pc' := 88) hX dL_law_85 (by decide) rfl (by omega) (fun c85 => ?_) (fun c85 => ?_)
    · exact absurd c85 (by omega)
    · refine r_aload_n (pc' := 89) hX dL_law_88 rfl rfl ?_
      refine V_call (k' := 1871) (n' := 17330) (pc' := 92) (wr := ((([u56, wy] : List va_W)).eraseIdx 0).flatten) hX (r_runS (As := [.ref x]) hX dL_law_89 k_L_140 (fun l9 hl9 => by cases hl9; exact cW_state (S := (XS b b (us.take 7) [] (-1) (-1))) hF56 (hAx3) (by omega) (hst := (by rw [hl]; exact hst))) hG rfl rfl (Nat.le_of_ble_eq_true rfl) (by decide) (by decide) (by decide) (by decide)) (fl_out 0 rfl) rfl rfl rfl (fun w9 u57 hp9 => ?_)
      obtain ⟨rfl, hF57⟩ := hp9
      change V X 1871 17330 (u57 ++ ((([u56, wy] : List va_W)).eraseIdx 0).flatten) [some (.ref (sa 90)), some (.ref x), some (.ref y), some (.int (nI (b 0 4))), some (.int (dg b)), none, none, none, none, none, none, none] [.int (dg b)] 92
      refine V_perm (fl_back (bs := ([u56, wy] : List va_W)) (bs' := ([u57, wy] : List va_W)) 0 rfl rfl) ?_
      refine r_iload (pc' := 94) hX dL_law_92 rfl rfl ?_
      refine r_icmp_ne (tgt := 134) (pc' := 97) hX dL_law_94 (by decide) rfl (fun c94 => ?_) (fun c94 => ?_)
      · exact absurd rfl c94
      · refine r_aload_n (pc' := 98) hX dL_law_97 rfl rfl ?_
        refine V_callX (k' := 1872) (n' := 17336) (pc' := 101) (wr := ((([u57, wy] : List va_W)).eraseIdx 1).flatten) hX (r_runVX (As := []) hX dL_law_98 k_L_153 (fun l9 hl9 => by cases hl9; exact cF_undo (v := (YS (v4x b) ((v3x b :: ((v2x b :: ((v1x b :: ((b :: us).take 8)).take 8)).take 8)).take 8)).1) rfl hy (hAy4).1 (hst := (by rw [hl]; exact hst))) hG (FS_recv hy) rfl rfl (Nat.le_of_ble_eq_true rfl) (by decide) (by decide) (by decide) (by decide)) (fl_out 1 rfl) rfl rfl rfl (fun w9 u58 hp9 => ?_) ?_
        · obtain ⟨okq, rfl, hF58⟩ := hp9
          rw [show (qUndo (YS (v4x b) ((v3x b :: ((v2x b :: ((v1x b :: ((b :: us).take 8)).take 8)).take 8)).take 8)) : Int32) = nI ((((v2x b :: ((v1x b :: ((b :: us).take 8)).take 8)).take 8).take 7).length) from (und (n := 7)).2]
          change V X 1872 17336 (u58 ++ ((([u57, wy] : List va_W)).eraseIdx 1).flatten) [some (.ref (sa 90)), some (.ref x), some (.ref y), some (.int (nI (b 0 4))), some (.int (dg b)), none, none, none, none, none, none, none] [.int (nI ((((v2x b :: ((v1x b :: ((b :: us).take 8)).take 8)).take 8).take 7).length))] 101
          refine V_perm (fl_back (bs := ([u57, wy] : List va_W)) (bs' := ([u57, u58] : List va_W)) 1 rfl rfl) ?_
          change V X 1872 17336 (([u57, u58] : List va_W).flatten) [some (.ref (sa 90)), some (.ref x), some (.ref y), some (.int (nI (b 0 4))), some (.int (dg b)), none, none, none, none, none, none, none] [.int (nI ((((v2x b :: ((v1x b :: ((b :: us).take 8)).take 8)).take 8).take 7).length))] 101
          refine r_if_lt_N (tgt := 134) (pc' := 104) hX dL_law_101 (by decide) rfl (by omega) (fun c101 => ?_) (fun c101 => ?_)
          · exact absurd c101 (by omega)
          · refine r_aload_n (pc' := 105) hX dL_law_104 rfl rfl ?_
            refine V_callX (k' := 1873) (n' := 17342) (pc' := 108) (wr := ((([u57, u58] : List va_W)).eraseIdx 1).flatten) hX (r_runVX (As := []) hX dL_law_105 k_L_153 (fun l9 hl9 => by cases hl9; exact cF_undo (v := (YS (v3x b) (((v2x b :: ((v1x b :: ((b :: us).take 8)).take 8)).take 8).take 7)).1) rfl hF58 (hAy5).1 (hst := (by rw [hl]; exact hst))) hG (FS_recv hF58) rfl rfl (Nat.le_of_ble_eq_true rfl) (by decide) (by decide) (by decide) (by decide)) (fl_out 1 rfl) rfl rfl rfl (fun w9 u59 hp9 => ?_) ?_
            · obtain ⟨okq, rfl, hF59⟩ := hp9
              replace hF59 := FS_und2 (n := 6) (m := 8) (by decide) hF59
              rw [show (qUndo (YS (v3x b) (((v2x b :: ((v1x b :: ((b :: us).take 8)).take 8)).take 8).take 7)) : Int32) = nI ((((v1x b :: ((b :: us).take 8)).take 8).take 6).length) from q_und2 (by decide)]
              change V X 1873 17342 (u59 ++ ((([u57, u58] : List va_W)).eraseIdx 1).flatten) [some (.ref (sa 90)), some (.ref x), some (.ref y), some (.int (nI (b 0 4))), some (.int (dg b)), none, none, none, none, none, none, none] [.int (nI ((((v1x b :: ((b :: us).take 8)).take 8).take 6).length))] 108
              refine V_perm (fl_back (bs := ([u57, u58] : List va_W)) (bs' := ([u57, u59] : List va_W)) 1 rfl rfl) ?_
              change V X 1873 17342 (([u57, u59] : List va_W).flatten) [some (.ref (sa 90)), some (.ref x), some (.ref y), some (.int (nI (b 0 4))), some (.int (dg b)), none, none, none, none, none, none, none] [.int (nI ((((v1x b :: ((b :: us).take 8)).take 8).take 6).length))] 108
              refine r_if_lt_N (tgt := 134) (pc' := 111) hX dL_law_108 (by decide) rfl (by omega) (fun c108 => ?_) (fun c108 => ?_)
              · exact absurd c108 (by omega)
              · refine r_aload_n (pc' := 112) hX dL_law_111 rfl rfl ?_
                refine V_callX (k' := 1874) (n' := 17348) (pc' := 115) (wr := ((([u57, u59] : List va_W)).eraseIdx 1).flatten) hX (r_runVX (As := []) hX dL_law_112 k_L_153 (fun l9 hl9 => by cases hl9; exact cF_undo (v := (YS (v2x b) (((v1x b :: ((b :: us).take 8)).take 8).take 6)).1) rfl hF59 (hAy6).1 (hst := (by rw [hl]; exact hst))) hG (FS_recv hF59) rfl rfl (Nat.le_of_ble_eq_true rfl) (by decide) (by decide) (by decide) (by decide)) (fl_out 1 rfl) rfl rfl rfl (fun w9 u60 hp9 => ?_) ?_
                · obtain ⟨okq, rfl, hF60⟩ := hp9
                  replace hF60 := FS_und2 (n := 5) (m := 8) (by decide) hF60
                  rw [show (qUndo (YS (v2x b) (((v1x b :: ((b :: us).take 8)).take 8).take 6)) : Int32) = nI ((((b :: us).take 8).take 5).length) from q_und2 (by decide)]
                  change V X 1874 17348 (u60 ++ ((([u57, u59] : List va_W)).eraseIdx 1).flatten) [some (.ref (sa 90)), some (.ref x), some (.ref y), some (.int (nI (b 0 4))), some (.int (dg b)), none, none, none, none, none, none, none] [.int (nI ((((b :: us).take 8).take 5).length))] 115
                  refine V_perm (fl_back (bs := ([u57, u59] : List va_W)) (bs' := ([u57, u60] : List va_W)) 1 rfl rfl) ?_
                  change V X 1874 17348 (([u57, u60] : List va_W).flatten) [some (.ref (sa 90)), some (.ref x), some (.ref y), some (.int (nI (b 0 4))), some (.int (dg b)), none, none, none, none, none, none, none] [.int (nI ((((b :: us).take 8).take 5).length))] 115
                  refine r_if_lt_N (tgt := 134) (pc' := 118) hX dL_law_115 (by decide) rfl (by omega) (fun c115 => ?_) (fun c115 => ?_)
                  · exact absurd c115 (by omega)
                  · refine r_aload_n (pc' := 119) hX dL_law_118 rfl rfl ?_
                    refine V_callX (k' := 1875) (n' := 17354) (pc' := 122) (wr := ((([u57, u60] : List va_W)).eraseIdx 1).flatten) hX (r_runVX (As := []) hX dL_law_119 k_L_153 (fun l9 hl9 => by cases hl9; exact cF_undo (v := (YS (v1x b) (((b :: us).take 8).take 5)).1) rfl hF60 (hAy7).1 (hst := (by rw [hl]; exact hst))) hG (FS_recv hF60) rfl rfl (Nat.le_of_ble_eq_true rfl) (by decide) (by decide) (by decide) (by decide)) (fl_out 1 rfl) rfl rfl rfl (fun w9 u61 hp9 => ?_) ?_
                    · obtain ⟨okq, rfl, hF61⟩ := hp9
                      replace hF61 := FS_und2 (n := 4) (m := 8) (by decide) hF61
                      rw [show (qUndo (YS (v1x b) (((b :: us).take 8).take 5)) : Int32) = nI ((us.take 4).length) from q_und2 (by decide)]
                      change V X 1875 17354 (u61 ++ ((([u57, u60] : List va_W)).eraseIdx 1).flatten) [some (.ref (sa 90)), some (.ref x), some (.ref y), some (.int (nI (b 0 4))), some (.int (dg b)), none, none, none, none, none, none, none] [.int (nI ((us.take 4).length))] 122
                      refine V_perm (fl_back (bs := ([u57, u60] : List va_W)) (bs' := ([u57, u61] : List va_W)) 1 rfl rfl) ?_
                      change V X 1875 17354 (([u57, u61] : List va_W).flatten) [some (.ref (sa 90)), some (.ref x), some (.ref y), some (.int (nI (b 0 4))), some (.int (dg b)), none, none, none, none, none, none, none] [.int (nI ((us.take 4).length))] 122
                      refine r_if_lt_N (tgt := 134) (pc' := 125) hX dL_law_122 (by decide) rfl (by omega) (fun c122 => ?_) (fun c122 => ?_)
                      · exact absurd c122 (by omega)
                      · refine r_aload_n (pc' := 126) hX dL_law_125 rfl rfl ?_
                        refine V_call (k' := 2091) (n' := 18674) (pc' := 129) (wr := ((([u57, u61] : List va_W)).eraseIdx 1).flatten) hX (r_runS (As := [.ref y]) hX dL_law_126 k_L_140 (fun l9 hl9 => by cases hl9; exact cW_state (S := (YS b (us.take 4))) hF61 (hAy8) (by omega) (hst := (by rw [hl]; exact hst))) hG rfl rfl (Nat.le_of_ble_eq_true rfl) (by decide) (by decide) (by decide) (by decide)) (fl_out 1 rfl) rfl rfl rfl (fun w9 u62 hp9 => ?_)
                        obtain ⟨rfl, hF62⟩ := hp9
                        change V X 2091 18674 (u62 ++ ((([u57, u61] : List va_W)).eraseIdx 1).flatten) [some (.ref (sa 90)), some (.ref x), some (.ref y), some (.int (nI (b 0 4))), some (.int (dg b)), none, none, none, none, none, none, none] [.int (dg b)] 129
                        refine V_perm (fl_back (bs := ([u57, u61] : List va_W)) (bs' := ([u57, u62] : List va_W)) 1 rfl rfl) ?_
                        refine r_iload (pc' := 131) hX dL_law_129 rfl rfl ?_
                        refine r_icmp_eq (tgt := 136) (pc' := 134) hX dL_law_131 (by decide) rfl (fun c131 => ?_) (fun c131 => ?_)
                        · exact cont _ _ hF57 hF62
                        · exact absurd rfl c131
                    · intro E9 u9 hp9
                      exact absurd hp9.1 (by rw [show (qUndo (YS (v1x b) (((b :: us).take 8).take 5)) : Int32) = nI ((us.take 4).length) from q_und2 (by decide)]; exact ok_len (by decide))
                · intro E9 u9 hp9
                  exact absurd hp9.1 (by rw [show (qUndo (YS (v2x b) (((v1x b :: ((b :: us).take 8)).take 8).take 6)) : Int32) = nI ((((b :: us).take 8).take 5).length) from q_und2 (by decide)]; exact ok_len (by decide))
            · intro E9 u9 hp9
              exact absurd hp9.1 (by rw [show (qUndo (YS (v3x b) (((v2x b :: ((v1x b :: ((b :: us).take 8)).take 8)).take 8).take 7)) : Int32) = nI ((((v1x b :: ((b :: us).take 8)).take 8).take 6).length) from q_und2 (by decide)]; exact ok_len (by decide))
        · intro E9 u9 hp9
          exact absurd hp9.1 (by rw [show (qUndo (YS (v4x b) ((v3x b :: ((v2x b :: ((v1x b :: ((b :: us).take 8)).take 8)).take 8)).take 8)) : Int32) = nI ((((v2x b :: ((v1x b :: ((b :: us).take 8)).take 8)).take 8).take 7).length) from (und (n := 7)).2]; exact ok_len (by decide))
  · intro E9 u9 hp9
    exact absurd hp9.1 (by rw [show (qUndo (XS b (v4x b) ((b :: us).take 8) [] (-1) (-1)) : Int32) = nI ((us.take 7).length) from (und (n := 7)).2]; exact ok_len (by decide))

set_option maxRecDepth 20000 in
set_option maxHeartbeats 4000000 in
theorem k_3 {X : xC} {l : Launch} {D : va_G} {cy : Nat → ClassId} {sa : Nat → Nat} (hX : Ok SF X cL_law RL 20 5000 130000) (hG : c0_G X = (D, cy, sa)) (hcy : c0_cy X = cy) (hnL : c0_nL X = 12) (hl : c0_l X = l) (hst : l.stackTraces = false) {y : Nat} {b : SV} {u7 : List SV} (hIb : IFB 120 b) (hus : ∀ u ∈ u7, IFB 120 u) (h2 : b 0 1 = 2) {x : Nat} {wx : va_W} (hx : FS cy x (XS b b u7 [] (-1) (-1)) wx) (cont : ∀ (wx : va_W), FS cy x (XS b b u7 [] (-1) (nI 0)) wx → V X 2609 33638 (([wx] : List va_W).flatten) [some (.ref (sa 90)), some (.ref x), some (.ref y), some (.int (nI (b 0 4))), some (.int (dg b)), none, none, none, none, none, none, none] [] 203) : V X 2091 18674 (([wx] : List va_W).flatten) [some (.ref (sa 90)), some (.ref x), some (.ref y), some (.int (nI (b 0 4))), some (.int (dg b)), none, none, none, none, none, none, none] [] 136 := by
  have hWb := hIb.1.1
  have hb5 := hWb.2.2.1
  have hAe : ∀ (p : Nat), p < 100 → ∀ (q : Nat), q < 100 → AJ 120 (XS b b u7 [] (nI p) (nI q)) := fun p hp q hq => AJ_XS hIb hIb hus nil127 (nI_pos1 (by omega)) (nI_pos1 (by omega))
  have hAo : ∀ (q : Nat), q < 100 → AJ 120 (XS b b u7 [] (-1) (nI q)) := fun q hq => AJ_XS hIb hIb hus nil127 (Or.inl rfl) (nI_pos1 (by omega))
  have hA0 : AJ 120 (XS b b u7 [] (-1) (-1)) := AJ_XS hIb hIb hus nil127 (Or.inl rfl) (Or.inl rfl)
  refine r_aload_n (pc' := 137) hX dL_law_136 rfl rfl ?_
  refine r_ldcS (i := 1) (pc' := 139) hX hG dL_law_137 (by decide) rfl rfl ?_
  refine V_call (k' := 2131) (n' := 24674) (pc' := 142) (wr := ((([wx] : List va_W)).eraseIdx 0).flatten) hX (r_runS (As := [.ref x, .ref (sa (100 + 1))]) hX dL_law_139 k_L_146 (fun l9 hl9 => by cases hl9; exact cW_put (i := 1) (S := (XS b b u7 [] (-1) (-1))) (by decide) hx (hA0) (hst := (by rw [hl]; exact hst))) hG rfl rfl (Nat.le_of_ble_eq_true rfl) (by decide) (by decide) (by decide) (by decide)) (fl_out 0 rfl) rfl rfl rfl (fun w9 u63 hp9 => ?_)
  obtain ⟨rfl, hF63⟩ := hp9
  change V X 2131 24674 (u63 ++ ((([wx] : List va_W)).eraseIdx 0).flatten) [some (.ref (sa 90)), some (.ref x), some (.ref y), some (.int (nI (b 0 4))), some (.int (dg b)), none, none, none, none, none, none, none] [] 142
  refine V_perm (fl_back (bs := ([wx] : List va_W)) (bs' := ([u63] : List va_W)) 0 rfl rfl) ?_
  refine r_aload_n (pc' := 143) hX dL_law_142 rfl rfl ?_
  refine V_call (k' := 2133) (n' := 24830) (pc' := 146) (wr := ((([u63] : List va_W)).eraseIdx 0).flatten) hX (r_runSW (As := [.ref x]) hX dL_law_143 kw_L_158 (fun l9 hl9 => by cases hl9; exact cW_runs (S := (XS b b u7 (ltx 1) (-1) (-1))) hF63 ((lit_buf (i := 1) (by decide) hA0)) (by omega) (hst := (by rw [hl]; exact hst))) hG rfl rfl (Nat.le_of_ble_eq_true rfl) (by decide) (by decide) (by decide) (by decide)) (fl_out 0 rfl) rfl rfl rfl (fun w9 u64 hp9 => ?_)
  obtain ⟨rfl, hF64⟩ := hp9
  rw [(xs_run1 h2 hWb).2] at hF64
  rw [show (rnR (qRun (XS b b u7 (ltx 1) (-1) (-1))) : Int32) = (-2) from by rw [(xs_run1 h2 hWb).1]; rfl]
  change V X 2133 24830 (u64 ++ ((([u63] : List va_W)).eraseIdx 0).flatten) [some (.ref (sa 90)), some (.ref x), some (.ref y), some (.int (nI (b 0 4))), some (.int (dg b)), none, none, none, none, none, none, none] [.int (-2)] 146
  refine V_perm (fl_back (bs := ([u63] : List va_W)) (bs' := ([u64] : List va_W)) 0 rfl rfl) ?_
  refine r_bipush (pc' := 148) (v := (-2)) hX dL_law_146 rfl rfl ?_
  refine r_icmp_ne (tgt := 168) (pc' := 151) hX dL_law_148 (by decide) rfl (fun c148 => ?_) (fun c148 => ?_)
  · exact absurd rfl c148
  · refine r_aload_n (pc' := 152) hX dL_law_151 rfl rfl ?_
    refine V_callX (k' := 2134) (n' := 24836) (pc' := 155) (wr := ((([u64] : List va_W)).eraseIdx 0).flatten) hX (r_runVX (As := []) hX dL_law_152 k_L_161 (fun l9 hl9 => by cases hl9; exact cF_failedCommand (v := (XS b b u7 [] (-1) (nI 1)).1) rfl hF64 ((hAo 1 (by decide))).1 (hst := (by rw [hl]; exact hst)) (hlo := ((hAo 1 (by decide))).2.2.2)) hG (FS_recv hF64) rfl rfl (Nat.le_of_ble_eq_true rfl) (by decide) (by decide) (by decide) (by decide)) (fl_out 0 rfl) rfl rfl rfl (fun w9 u65 hp9 => ?_) ?_
    · obtain ⟨okq, rfl, hF65⟩ := hp9
      rw [show (qErr (XS b b u7 [] (-1) (nI 1)).2.2.2.2.2.2 : Int32) = nI 1 from qErr_nI (by decide)]
      change V X 2134 24836 (u65 ++ ((([u64] : List va_W)).eraseIdx 0).flatten) [some (.ref (sa 90)), some (.ref x), some (.ref y), some (.int (nI (b 0 4))), some (.int (dg b)), none, none, none, none, none, none, none] [.int (nI 1)] 155
      refine V_perm (fl_back (bs := ([u64] : List va_W)) (bs' := ([u65] : List va_W)) 0 rfl rfl) ?_
      change V X 2134 24836 (([u65] : List va_W).flatten) [some (.ref (sa 90)), some (.ref x), some (.ref y), some (.int (nI (b 0 4))), some (.int (dg b)), none, none, none, none, none, none, none] [.int (nI 1)] 155
      refine r_iconst (pc' := 156) (v := nI 1) hX dL_law_155 rfl rfl ?_
      refine r_icmp_ne_N (tgt := 168) (pc' := 159) hX dL_law_156 (by decide) rfl (by omega) (by omega) (fun c156 => ?_) (fun c156 => ?_)
      · exact absurd c156 (by omega)
      · refine r_aload_n (pc' := 160) hX dL_law_159 rfl rfl ?_
        refine V_call (k' := 2350) (n' := 26156) (pc' := 163) (wr := ((([u65] : List va_W)).eraseIdx 0).flatten) hX (r_runS (As := [.ref x]) hX dL_law_160 k_L_140 (fun l9 hl9 => by cases hl9; exact cW_state (S := (XS b b u7 [] (-1) (nI 1))) hF65 ((hAo 1 (by decide))) (by omega) (hst := (by rw [hl]; exact hst))) hG rfl rfl (Nat.le_of_ble_eq_true rfl) (by decide) (by decide) (by decide) (by decide)) (fl_out 0 rfl) rfl rfl rfl (fun w9 u66 hp9 => ?_)
        obtain ⟨rfl, hF66⟩ := hp9
        change V X 2350 26156 (u66 ++ ((([u65] : List va_W)).eraseIdx 0).flatten) [some (.ref (sa 90)), some (.ref x), some (.ref y), some (.int (nI (b 0 4))), some (.int (dg b)), none, none, none, none, none, none, none] [.int (dg b)] 163
        refine V_perm (fl_back (bs := ([u65] : List va_W)) (bs' := ([u66] : List va_W)) 0 rfl rfl) ?_
        refine r_iload (pc' := 165) hX dL_law_163 rfl rfl ?_
        refine r_icmp_eq (tgt := 170) (pc' := 168) hX dL_law_165 (by decide) rfl (fun c165 => ?_) (fun c165 => ?_)
        · refine r_aload_n (pc' := 171) hX dL_law_170 rfl rfl ?_
          refine r_ldcS (i := 2) (pc' := 173) hX hG dL_law_171 (by decide) rfl rfl ?_
          refine V_call (k' := 2390) (n' := 32156) (pc' := 176) (wr := ((([u66] : List va_W)).eraseIdx 0).flatten) hX (r_runS (As := [.ref x, .ref (sa (100 + 2))]) hX dL_law_173 k_L_146 (fun l9 hl9 => by cases hl9; exact cW_put (i := 2) (S := (XS b b u7 [] (-1) (nI 1))) (by decide) hF66 ((hAo 1 (by decide))) (hst := (by rw [hl]; exact hst))) hG rfl rfl (Nat.le_of_ble_eq_true rfl) (by decide) (by decide) (by decide) (by decide)) (fl_out 0 rfl) rfl rfl rfl (fun w9 u67 hp9 => ?_)
          obtain ⟨rfl, hF67⟩ := hp9
          change V X 2390 32156 (u67 ++ ((([u66] : List va_W)).eraseIdx 0).flatten) [some (.ref (sa 90)), some (.ref x), some (.ref y), some (.int (nI (b 0 4))), some (.int (dg b)), none, none, none, none, none, none, none] [] 176
          refine V_perm (fl_back (bs := ([u66] : List va_W)) (bs' := ([u67] : List va_W)) 0 rfl rfl) ?_
          refine r_aload_n (pc' := 177) hX dL_law_176 rfl rfl ?_
          refine V_call (k' := 2392) (n' := 32312) (pc' := 180) (wr := ((([u67] : List va_W)).eraseIdx 0).flatten) hX (r_runSW (As := [.ref x]) hX dL_law_177 kw_L_158 (fun l9 hl9 => by cases hl9; exact cW_runs (S := (XS b b u7 (ltx 2) (-1) (nI 1))) hF67 ((lit_buf (i := 2) (by decide) (hAo 1 (by decide)))) (by omega) (hst := (by rw [hl]; exact hst))) hG rfl rfl (Nat.le_of_ble_eq_true rfl) (by decide) (by decide) (by decide) (by decide)) (fl_out 0 rfl) rfl rfl rfl (fun w9 u68 hp9 => ?_)
          obtain ⟨rfl, hF68⟩ := hp9
          rw [xs_run2.2] at hF68
          rw [show (rnR (qRun (XS b b u7 (ltx 2) (-1) (nI 1))) : Int32) = (-2) from by rw [xs_run2.1]; rfl]
          change V X 2392 32312 (u68 ++ ((([u67] : List va_W)).eraseIdx 0).flatten) [some (.ref (sa 90)), some (.ref x), some (.ref y), some (.int (nI (b 0 4))), some (.int (dg b)), none, none, none, none, none, none, none] [.int (-2)] 180
          refine V_perm (fl_back (bs := ([u67] : List va_W)) (bs' := ([u68] : List va_W)) 0 rfl rfl) ?_
          refine r_bipush (pc' := 182) (v := (-2)) hX dL_law_180 rfl rfl ?_
          refine r_icmp_ne (tgt := 201) (pc' := 185) hX dL_law_182 (by decide) rfl (fun c182 => ?_) (fun c182 => ?_)
          · exact absurd rfl c182
          · refine r_aload_n (pc' := 186) hX dL_law_185 rfl rfl ?_
            refine V_callX (k' := 2393) (n' := 32318) (pc' := 189) (wr := ((([u68] : List va_W)).eraseIdx 0).flatten) hX (r_runVX (As := []) hX dL_law_186 k_L_161 (fun l9 hl9 => by cases hl9; exact cF_failedCommand (v := (XS b b u7 [] (-1) (nI 0)).1) rfl hF68 ((hAo 0 (by decide))).1 (hst := (by rw [hl]; exact hst)) (hlo := ((hAo 0 (by decide))).2.2.2)) hG (FS_recv hF68) rfl rfl (Nat.le_of_ble_eq_true rfl) (by decide) (by decide) (by decide) (by decide)) (fl_out 0 rfl) rfl rfl rfl (fun w9 u69 hp9 => ?_) ?_
            · obtain ⟨okq, rfl, hF69⟩ := hp9
              rw [show (qErr (XS b b u7 [] (-1) (nI 0)).2.2.2.2.2.2 : Int32) = nI 0 from qErr_nI (by decide)]
              change V X 2393 32318 (u69 ++ ((([u68] : List va_W)).eraseIdx 0).flatten) [some (.ref (sa 90)), some (.ref x), some (.ref y), some (.int (nI (b 0 4))), some (.int (dg b)), none, none, none, none, none, none, none] [.int (nI 0)] 189
              refine V_perm (fl_back (bs := ([u68] : List va_W)) (bs' := ([u69] : List va_W)) 0 rfl rfl) ?_
              change V X 2393 32318 (([u69] : List va_W).flatten) [some (.ref (sa 90)), some (.ref x), some (.ref y), some (.int (nI (b 0 4))), some (.int (dg b)), none, none, none, none, none, none, none] [.int (nI 0)] 189
              refine r_if_ne_N (tgt := 201) (pc' := 192) hX dL_law_189 (by decide) rfl (by omega) (fun c189 => ?_) (fun c189 => ?_)
              · exact absurd c189 (by omega)
              · refine r_aload_n (pc' := 193) hX dL_law_192 rfl rfl ?_
                refine V_call (k' := 2609) (n' := 33638) (pc' := 196) (wr := ((([u69] : List va_W)).eraseIdx 0).flatten) hX (r_runS (As := [.ref x]) hX dL_law_193 k_L_140 (fun l9 hl9 => by cases hl9; exact cW_state (S := (XS b b u7 [] (-1) (nI 0))) hF69 ((hAo 0 (by decide))) (by omega) (hst := (by rw [hl]; exact hst))) hG rfl rfl (Nat.le_of_ble_eq_true rfl) (by decide) (by decide) (by decide) (by decide)) (fl_out 0 rfl) rfl rfl rfl (fun w9 u70 hp9 => ?_)
                obtain ⟨rfl, hF70⟩ := hp9
                change V X 2609 33638 (u70 ++ ((([u69] : List va_W)).eraseIdx 0).flatten) [some (.ref (sa 90)), some (.ref x), some (.ref y), some (.int (nI (b 0 4))), some (.int (dg b)), none, none, none, none, none, none, none] [.int (dg b)] 196
                refine V_perm (fl_back (bs := ([u69] : List va_W)) (bs' := ([u70] : List va_W)) 0 rfl rfl) ?_
                refine r_iload (pc' := 198) hX dL_law_196 rfl rfl ?_
                refine r_icmp_eq (tgt := 203) (pc' := 201) hX dL_law_198 (by decide) rfl (fun c198 => ?_) (fun c198 => ?_)
                · exact cont _ hF70
                · exact absurd rfl c198
            · intro E9 u9 hp9
              exact absurd hp9.1 (by rw [show (qErr (XS b b u7 [] (-1) (nI 0)).2.2.2.2.2.2 : Int32) = nI 0 from qErr_nI (by decide)]; exact okN (by first | decide | omega))
        · exact absurd rfl c165
    · intro E9 u9 hp9
      exact absurd hp9.1 (by rw [show (qErr (XS b b u7 [] (-1) (nI 1)).2.2.2.2.2.2 : Int32) = nI 1 from qErr_nI (by decide)]; exact okN (by first | decide | omega))

set_option maxRecDepth 20000 in
set_option maxHeartbeats 4000000 in
theorem k_4 {X : xC} {l : Launch} {D : va_G} {cy : Nat → ClassId} {sa : Nat → Nat} (hX : Ok SF X cL_law RL 20 5000 130000) (hG : c0_G X = (D, cy, sa)) (hcy : c0_cy X = cy) (hnL : c0_nL X = 12) (hl : c0_l X = l) (hst : l.stackTraces = false) {y : Nat} {b : SV} {u7 : List SV} (hIb : IFB 120 b) (hus : ∀ u ∈ u7, IFB 120 u) (h2 : b 0 1 = 2) {x : Nat} {wx : va_W} (hx : FS cy x (XS b b u7 [] (-1) (nI 0)) wx) (cont : ∀ (wx : va_W), FS cy x (XS b b u7 [] (nI 0) (nI 0)) wx → V X 3299 102746 (([wx] : List va_W).flatten) [some (.ref (sa 90)), some (.ref x), some (.ref y), some (.int (nI (b 0 4))), some (.int (dg b)), none, none, none, none, none, none, none] [] 337) : V X 2609 33638 (([wx] : List va_W).flatten) [some (.ref (sa 90)), some (.ref x), some (.ref y), some (.int (nI (b 0 4))), some (.int (dg b)), none, none, none, none, none, none, none] [] 203 := by
  have hWb := hIb.1.1
  have hb5 := hWb.2.2.1
  have hAe : ∀ (p : Nat), p < 100 → ∀ (q : Nat), q < 100 → AJ 120 (XS b b u7 [] (nI p) (nI q)) := fun p hp q hq => AJ_XS hIb hIb hus nil127 (nI_pos1 (by omega)) (nI_pos1 (by omega))
  have hAo : ∀ (q : Nat), q < 100 → AJ 120 (XS b b u7 [] (-1) (nI q)) := fun q hq => AJ_XS hIb hIb hus nil127 (Or.inl rfl) (nI_pos1 (by omega))
  have hA0 : AJ 120 (XS b b u7 [] (-1) (-1)) := AJ_XS hIb hIb hus nil127 (Or.inl rfl) (Or.inl rfl)
  refine r_aload_n (pc' := 204) hX dL_law_203 rfl rfl ?_
  refine r_ldcS (i := 3) (pc' := 206) hX hG dL_law_204 (by decide) rfl rfl ?_
  refine r_iconst (pc' := 207) (v := nI 1) hX dL_law_206 rfl rfl ?_
  refine V_call (k' := 2652) (n' := 39800) (pc' := 210) (wr := ((([wx] : List va_W)).eraseIdx 0).flatten) hX (r_runS (As := [.ref x, .ref (sa (100 + 3)), .int (nI 1)]) hX dL_law_207 k_L_168 (fun l9 hl9 => by cases hl9; exact cW_fails (S := (XS b b u7 [] (-1) (nI 0))) (by decide) lf_3.1 lf_3.2 (by decide) hx ((hAo 0 (by decide))) (by omega) (hst := (by rw [hl]; exact hst))) hG rfl rfl (Nat.le_of_ble_eq_true rfl) (by decide) (by decide) (by decide) (by decide)) (fl_out 0 rfl) rfl rfl rfl (fun w9 u71 hp9 => ?_)
  obtain ⟨rfl, hF71⟩ := hp9
  change V X 2652 39800 (u71 ++ ((([wx] : List va_W)).eraseIdx 0).flatten) [some (.ref (sa 90)), some (.ref x), some (.ref y), some (.int (nI (b 0 4))), some (.int (dg b)), none, none, none, none, none, none, none] [.int (nI 1)] 210
  refine V_perm (fl_back (bs := ([wx] : List va_W)) (bs' := ([u71] : List va_W)) 0 rfl rfl) ?_
  refine r_if_eq_N (tgt := 335) (pc' := 213) hX dL_law_210 (by decide) rfl (by omega) (fun c210 => ?_) (fun c210 => ?_)
  · exact absurd c210 (by omega)
  · refine r_aload_n (pc' := 214) hX dL_law_213 rfl rfl ?_
    refine r_ldcS (i := 4) (pc' := 216) hX hG dL_law_214 (by decide) rfl rfl ?_
    refine r_bipush (pc' := 218) (v := nI 8) hX dL_law_216 rfl rfl ?_
    refine V_call (k' := 2695) (n' := 45962) (pc' := 221) (wr := ((([u71] : List va_W)).eraseIdx 0).flatten) hX (r_runS (As := [.ref x, .ref (sa (100 + 4)), .int (nI 8)]) hX dL_law_218 k_L_168 (fun l9 hl9 => by cases hl9; exact cW_fails (S := (XS b b u7 [] (nI 1) (nI 0))) (by decide) lf_4.1 lf_4.2 (by decide) hF71 ((hAe 1 (by decide) 0 (by decide))) (by omega) (hst := (by rw [hl]; exact hst))) hG rfl rfl (Nat.le_of_ble_eq_true rfl) (by decide) (by decide) (by decide) (by decide)) (fl_out 0 rfl) rfl rfl rfl (fun w9 u72 hp9 => ?_)
    obtain ⟨rfl, hF72⟩ := hp9
    change V X 2695 45962 (u72 ++ ((([u71] : List va_W)).eraseIdx 0).flatten) [some (.ref (sa 90)), some (.ref x), some (.ref y), some (.int (nI (b 0 4))), some (.int (dg b)), none, none, none, none, none, none, none] [.int (nI 1)] 221
    refine V_perm (fl_back (bs := ([u71] : List va_W)) (bs' := ([u72] : List va_W)) 0 rfl rfl) ?_
    refine r_if_eq_N (tgt := 335) (pc' := 224) hX dL_law_221 (by decide) rfl (by omega) (fun c221 => ?_) (fun c221 => ?_)
    · exact absurd c221 (by omega)
    · refine r_aload_n (pc' := 225) hX dL_law_224 rfl rfl ?_
      refine r_ldcS (i := 5) (pc' := 227) hX hG dL_law_225 (by decide) rfl rfl ?_
      refine r_bipush (pc' := 229) (v := nI 8) hX dL_law_227 rfl rfl ?_
      refine V_call (k' := 2738) (n' := 52124) (pc' := 232) (wr := ((([u72] : List va_W)).eraseIdx 0).flatten) hX (r_runS (As := [.ref x, .ref (sa (100 + 5)), .int (nI 8)]) hX dL_law_229 k_L_168 (fun l9 hl9 => by cases hl9; exact cW_fails (S := (XS b b u7 [] (nI 8) (nI 0))) (by decide) lf_5.1 lf_5.2 (by decide) hF72 ((hAe 8 (by decide) 0 (by decide))) (by omega) (hst := (by rw [hl]; exact hst))) hG rfl rfl (Nat.le_of_ble_eq_true rfl) (by decide) (by decide) (by decide) (by decide)) (fl_out 0 rfl) rfl rfl rfl (fun w9 u73 hp9 => ?_)
      obtain ⟨rfl, hF73⟩ := hp9
      change V X 2738 52124 (u73 ++ ((([u72] : List va_W)).eraseIdx 0).flatten) [some (.ref (sa 90)), some (.ref x), some (.ref y), some (.int (nI (b 0 4))), some (.int (dg b)), none, none, none, none, none, none, none] [.int (nI 1)] 232
      refine V_perm (fl_back (bs := ([u72] : List va_W)) (bs' := ([u73] : List va_W)) 0 rfl rfl) ?_
      refine r_if_eq_N (tgt := 335) (pc' := 235) hX dL_law_232 (by decide) rfl (by omega) (fun c232 => ?_) (fun c232 => ?_)
      · exact absurd c232 (by omega)
      · refine r_aload_n (pc' := 236) hX dL_law_235 rfl rfl ?_
        refine r_ldcS (i := 6) (pc' := 238) hX hG dL_law_236 (by decide) rfl rfl ?_
        refine r_bipush (pc' := 240) (v := nI 8) hX dL_law_238 rfl rfl ?_
        refine V_call (k' := 2781) (n' := 58286) (pc' := 243) (wr := ((([u73] : List va_W)).eraseIdx 0).flatten) hX (r_runS (As := [.ref x, .ref (sa (100 + 6)), .int (nI 8)]) hX dL_law_240 k_L_168 (fun l9 hl9 => by cases hl9; exact cW_fails (S := (XS b b u7 [] (nI 8) (nI 0))) (by decide) lf_6.1 lf_6.2 (by decide) hF73 ((hAe 8 (by decide) 0 (by decide))) (by omega) (hst := (by rw [hl]; exact hst))) hG rfl rfl (Nat.le_of_ble_eq_true rfl) (by decide) (by decide) (by decide) (by decide)) (fl_out 0 rfl) rfl rfl rfl (fun w9 u74 hp9 => ?_)
        obtain ⟨rfl, hF74⟩ := hp9
        change V X 2781 58286 (u74 ++ ((([u73] : List va_W)).eraseIdx 0).flatten) [some (.ref (sa 90)), some (.ref x), some (.ref y), some (.int (nI (b 0 4))), some (.int (dg b)), none, none, none, none, none, none, none] [.int (nI 1)] 243
        refine V_perm (fl_back (bs := ([u73] : List va_W)) (bs' := ([u74] : List va_W)) 0 rfl rfl) ?_
        refine r_if_eq_N (tgt := 335) (pc' := 246) hX dL_law_243 (by decide) rfl (by omega) (fun c243 => ?_) (fun c243 => ?_)
        · exact absurd c243 (by omega)
        · refine r_aload_n (pc' := 247) hX dL_law_246 rfl rfl ?_
          refine r_ldcS (i := 7) (pc' := 249) hX hG dL_law_247 (by decide) rfl rfl ?_
          refine r_bipush (pc' := 251) (v := nI 7) hX dL_law_249 rfl rfl ?_
          refine V_call (k' := 2824) (n' := 64448) (pc' := 254) (wr := ((([u74] : List va_W)).eraseIdx 0).flatten) hX (r_runS (As := [.ref x, .ref (sa (100 + 7)), .int (nI 7)]) hX dL_law_251 k_L_168 (fun l9 hl9 => by cases hl9; exact cW_fails (S := (XS b b u7 [] (nI 8) (nI 0))) (by decide) lf_7.1 lf_7.2 (by decide) hF74 ((hAe 8 (by decide) 0 (by decide))) (by omega) (hst := (by rw [hl]; exact hst))) hG rfl rfl (Nat.le_of_ble_eq_true rfl) (by decide) (by decide) (by decide) (by decide)) (fl_out 0 rfl) rfl rfl rfl (fun w9 u75 hp9 => ?_)
          obtain ⟨rfl, hF75⟩ := hp9
          change V X 2824 64448 (u75 ++ ((([u74] : List va_W)).eraseIdx 0).flatten) [some (.ref (sa 90)), some (.ref x), some (.ref y), some (.int (nI (b 0 4))), some (.int (dg b)), none, none, none, none, none, none, none] [.int (nI 1)] 254
          refine V_perm (fl_back (bs := ([u74] : List va_W)) (bs' := ([u75] : List va_W)) 0 rfl rfl) ?_
          refine r_if_eq_N (tgt := 335) (pc' := 257) hX dL_law_254 (by decide) rfl (by omega) (fun c254 => ?_) (fun c254 => ?_)
          · exact absurd c254 (by omega)
          · refine r_aload_n (pc' := 258) hX dL_law_257 rfl rfl ?_
            refine r_ldcS (i := 8) (pc' := 260) hX hG dL_law_258 (by decide) rfl rfl ?_
            refine r_iconst (pc' := 261) (v := nI 0) hX dL_law_260 rfl rfl ?_
            refine V_call (k' := 2867) (n' := 70610) (pc' := 264) (wr := ((([u75] : List va_W)).eraseIdx 0).flatten) hX (r_runS (As := [.ref x, .ref (sa (100 + 8)), .int (nI 0)]) hX dL_law_261 k_L_168 (fun l9 hl9 => by cases hl9; exact cW_fails (S := (XS b b u7 [] (nI 7) (nI 0))) (by decide) lf_8.1 lf_8.2 (by decide) hF75 ((hAe 7 (by decide) 0 (by decide))) (by omega) (hst := (by rw [hl]; exact hst))) hG rfl rfl (Nat.le_of_ble_eq_true rfl) (by decide) (by decide) (by decide) (by decide)) (fl_out 0 rfl) rfl rfl rfl (fun w9 u76 hp9 => ?_)
            obtain ⟨rfl, hF76⟩ := hp9
            change V X 2867 70610 (u76 ++ ((([u75] : List va_W)).eraseIdx 0).flatten) [some (.ref (sa 90)), some (.ref x), some (.ref y), some (.int (nI (b 0 4))), some (.int (dg b)), none, none, none, none, none, none, none] [.int (nI 1)] 264
            refine V_perm (fl_back (bs := ([u75] : List va_W)) (bs' := ([u76] : List va_W)) 0 rfl rfl) ?_
            refine r_if_eq_N (tgt := 335) (pc' := 267) hX dL_law_264 (by decide) rfl (by omega) (fun c264 => ?_) (fun c264 => ?_)
            · exact absurd c264 (by omega)
            · refine r_aload_n (pc' := 268) hX dL_law_267 rfl rfl ?_
              refine r_ldcS (i := 9) (pc' := 270) hX hG dL_law_268 (by decide) rfl rfl ?_
              refine r_bipush (pc' := 272) (v := nI 7) hX dL_law_270 rfl rfl ?_
              refine V_call (k' := 2910) (n' := 76772) (pc' := 275) (wr := ((([u76] : List va_W)).eraseIdx 0).flatten) hX (r_runS (As := [.ref x, .ref (sa (100 + 9)), .int (nI 7)]) hX dL_law_272 k_L_168 (fun l9 hl9 => by cases hl9; exact cW_fails (S := (XS b b u7 [] (nI 0) (nI 0))) (by decide) lf_9.1 lf_9.2 (by decide) hF76 ((hAe 0 (by decide) 0 (by decide))) (by omega) (hst := (by rw [hl]; exact hst))) hG rfl rfl (Nat.le_of_ble_eq_true rfl) (by decide) (by decide) (by decide) (by decide)) (fl_out 0 rfl) rfl rfl rfl (fun w9 u77 hp9 => ?_)
              obtain ⟨rfl, hF77⟩ := hp9
              change V X 2910 76772 (u77 ++ ((([u76] : List va_W)).eraseIdx 0).flatten) [some (.ref (sa 90)), some (.ref x), some (.ref y), some (.int (nI (b 0 4))), some (.int (dg b)), none, none, none, none, none, none, none] [.int (nI 1)] 275
              refine V_perm (fl_back (bs := ([u76] : List va_W)) (bs' := ([u77] : List va_W)) 0 rfl rfl) ?_
              refine r_if_eq_N (tgt := 335) (pc' := 278) hX dL_law_275 (by decide) rfl (by omega) (fun c275 => ?_) (fun c275 => ?_)
              · exact absurd c275 (by omega)
              · refine r_aload_n (pc' := 279) hX dL_law_278 rfl rfl ?_
                refine r_ldcS (i := 10) (pc' := 281) hX hG dL_law_279 (by decide) rfl rfl ?_
                refine r_iconst (pc' := 282) (v := nI 1) hX dL_law_281 rfl rfl ?_
                refine V_call (k' := 2953) (n' := 82934) (pc' := 285) (wr := ((([u77] : List va_W)).eraseIdx 0).flatten) hX (r_runS (As := [.ref x, .ref (sa (100 + 10)), .int (nI 1)]) hX dL_law_282 k_L_168 (fun l9 hl9 => by cases hl9; exact cW_fails (S := (XS b b u7 [] (nI 7) (nI 0))) (by decide) lf_10.1 lf_10.2 (by decide) hF77 ((hAe 7 (by decide) 0 (by decide))) (by omega) (hst := (by rw [hl]; exact hst))) hG rfl rfl (Nat.le_of_ble_eq_true rfl) (by decide) (by decide) (by decide) (by decide)) (fl_out 0 rfl) rfl rfl rfl (fun w9 u78 hp9 => ?_)
                obtain ⟨rfl, hF78⟩ := hp9
                change V X 2953 82934 (u78 ++ ((([u77] : List va_W)).eraseIdx 0).flatten) [some (.ref (sa 90)), some (.ref x), some (.ref y), some (.int (nI (b 0 4))), some (.int (dg b)), none, none, none, none, none, none, none] [.int (nI 1)] 285
                refine V_perm (fl_back (bs := ([u77] : List va_W)) (bs' := ([u78] : List va_W)) 0 rfl rfl) ?_
                refine r_if_eq_N (tgt := 335) (pc' := 288) hX dL_law_285 (by decide) rfl (by omega) (fun c285 => ?_) (fun c285 => ?_)
                · exact absurd c285 (by omega)
                · refine r_aload_n (pc' := 289) hX dL_law_288 rfl rfl ?_
                  refine r_ldcS (i := 11) (pc' := 291) hX hG dL_law_289 (by decide) rfl rfl ?_
                  refine r_bipush (pc' := 293) (v := nI 9) hX dL_law_291 rfl rfl ?_
                  refine V_call (k' := 2996) (n' := 89096) (pc' := 296) (wr := ((([u78] : List va_W)).eraseIdx 0).flatten) hX (r_runS (As := [.ref x, .ref (sa (100 + 11)), .int (nI 9)]) hX dL_law_293 k_L_168 (fun l9 hl9 => by cases hl9; exact cW_fails (S := (XS b b u7 [] (nI 1) (nI 0))) (by decide) lf_11.1 lf_11.2 (by decide) hF78 ((hAe 1 (by decide) 0 (by decide))) (by omega) (hst := (by rw [hl]; exact hst))) hG rfl rfl (Nat.le_of_ble_eq_true rfl) (by decide) (by decide) (by decide) (by decide)) (fl_out 0 rfl) rfl rfl rfl (fun w9 u79 hp9 => ?_)
                  obtain ⟨rfl, hF79⟩ := hp9
                  change V X 2996 89096 (u79 ++ ((([u78] : List va_W)).eraseIdx 0).flatten) [some (.ref (sa 90)), some (.ref x), some (.ref y), some (.int (nI (b 0 4))), some (.int (dg b)), none, none, none, none, none, none, none] [.int (nI 1)] 296
                  refine V_perm (fl_back (bs := ([u78] : List va_W)) (bs' := ([u79] : List va_W)) 0 rfl rfl) ?_
                  refine r_if_eq_N (tgt := 335) (pc' := 299) hX dL_law_296 (by decide) rfl (by omega) (fun c296 => ?_) (fun c296 => ?_)
                  · exact absurd c296 (by omega)
                  · refine r_aload_n (pc' := 300) hX dL_law_299 rfl rfl ?_
                    refine r_ldcS (i := 12) (pc' := 302) hX hG dL_law_300 (by decide) rfl rfl ?_
                    refine r_iconst (pc' := 303) (v := nI 4) hX dL_law_302 rfl rfl ?_
                    refine V_call (k' := 3039) (n' := 95258) (pc' := 306) (wr := ((([u79] : List va_W)).eraseIdx 0).flatten) hX (r_runS (As := [.ref x, .ref (sa (100 + 12)), .int (nI 4)]) hX dL_law_303 k_L_168 (fun l9 hl9 => by cases hl9; exact cW_fails (S := (XS b b u7 [] (nI 9) (nI 0))) (by decide) lf_12.1 lf_12.2 (by decide) hF79 ((hAe 9 (by decide) 0 (by decide))) (by omega) (hst := (by rw [hl]; exact hst))) hG rfl rfl (Nat.le_of_ble_eq_true rfl) (by decide) (by decide) (by decide) (by decide)) (fl_out 0 rfl) rfl rfl rfl (fun w9 u80 hp9 => ?_)
                    obtain ⟨rfl, hF80⟩ := hp9
                    change V X 3039 95258 (u80 ++ ((([u79] : List va_W)).eraseIdx 0).flatten) [some (.ref (sa 90)), some (.ref x), some (.ref y), some (.int (nI (b 0 4))), some (.int (dg b)), none, none, none, none, none, none, none] [.int (nI 1)] 306
                    refine V_perm (fl_back (bs := ([u79] : List va_W)) (bs' := ([u80] : List va_W)) 0 rfl rfl) ?_
                    refine r_if_eq_N (tgt := 335) (pc' := 309) hX dL_law_306 (by decide) rfl (by omega) (fun c306 => ?_) (fun c306 => ?_)
                    · exact absurd c306 (by omega)
                    · refine r_aload_n (pc' := 310) hX dL_law_309 rfl rfl ?_
                      refine r_ldcS (i := 13) (pc' := 312) hX hG dL_law_310 (by decide) rfl rfl ?_
                      refine r_iconst (pc' := 313) (v := nI 0) hX dL_law_312 rfl rfl ?_
                      refine V_call (k' := 3082) (n' := 101420) (pc' := 316) (wr := ((([u80] : List va_W)).eraseIdx 0).flatten) hX (r_runS (As := [.ref x, .ref (sa (100 + 13)), .int (nI 0)]) hX dL_law_313 k_L_168 (fun l9 hl9 => by cases hl9; exact cW_fails (S := (XS b b u7 [] (nI 4) (nI 0))) (by decide) lf_13.1 lf_13.2 (by decide) hF80 ((hAe 4 (by decide) 0 (by decide))) (by omega) (hst := (by rw [hl]; exact hst))) hG rfl rfl (Nat.le_of_ble_eq_true rfl) (by decide) (by decide) (by decide) (by decide)) (fl_out 0 rfl) rfl rfl rfl (fun w9 u81 hp9 => ?_)
                      obtain ⟨rfl, hF81⟩ := hp9
                      change V X 3082 101420 (u81 ++ ((([u80] : List va_W)).eraseIdx 0).flatten) [some (.ref (sa 90)), some (.ref x), some (.ref y), some (.int (nI (b 0 4))), some (.int (dg b)), none, none, none, none, none, none, none] [.int (nI 1)] 316
                      refine V_perm (fl_back (bs := ([u80] : List va_W)) (bs' := ([u81] : List va_W)) 0 rfl rfl) ?_
                      refine r_if_eq_N (tgt := 335) (pc' := 319) hX dL_law_316 (by decide) rfl (by omega) (fun c316 => ?_) (fun c316 => ?_)
                      · exact absurd c316 (by omega)
                      · refine r_aload_n (pc' := 320) hX dL_law_319 rfl rfl ?_
                        refine V_callX (k' := 3083) (n' := 101426) (pc' := 323) (wr := ((([u81] : List va_W)).eraseIdx 0).flatten) hX (r_runVX (As := []) hX dL_law_320 k_L_161 (fun l9 hl9 => by cases hl9; exact cF_failedCommand (v := (XS b b u7 [] (nI 0) (nI 0)).1) rfl hF81 ((hAe 0 (by decide) 0 (by decide))).1 (hst := (by rw [hl]; exact hst)) (hlo := ((hAe 0 (by decide) 0 (by decide))).2.2.2)) hG (FS_recv hF81) rfl rfl (Nat.le_of_ble_eq_true rfl) (by decide) (by decide) (by decide) (by decide)) (fl_out 0 rfl) rfl rfl rfl (fun w9 u82 hp9 => ?_) ?_
                        · obtain ⟨okq, rfl, hF82⟩ := hp9
                          rw [show (qErr (XS b b u7 [] (nI 0) (nI 0)).2.2.2.2.2.2 : Int32) = nI 0 from qErr_nI (by decide)]
                          change V X 3083 101426 (u82 ++ ((([u81] : List va_W)).eraseIdx 0).flatten) [some (.ref (sa 90)), some (.ref x), some (.ref y), some (.int (nI (b 0 4))), some (.int (dg b)), none, none, none, none, none, none, none] [.int (nI 0)] 323
                          refine V_perm (fl_back (bs := ([u81] : List va_W)) (bs' := ([u82] : List va_W)) 0 rfl rfl) ?_
                          change V X 3083 101426 (([u82] : List va_W).flatten) [some (.ref (sa 90)), some (.ref x), some (.ref y), some (.int (nI (b 0 4))), some (.int (dg b)), none, none, none, none, none, none, none] [.int (nI 0)] 323
                          refine r_if_ne_N (tgt := 335) (pc' := 326) hX dL_law_323 (by decide) rfl (by omega) (fun c323 => ?_) (fun c323 => ?_)
                          · exact absurd c323 (by omega)
                          · refine r_aload_n (pc' := 327) hX dL_law_326 rfl rfl ?_
                            refine V_call (k' := 3299) (n' := 102746) (pc' := 330) (wr := ((([u82] : List va_W)).eraseIdx 0).flatten) hX (r_runS (As := [.ref x]) hX dL_law_327 k_L_140 (fun l9 hl9 => by cases hl9; exact cW_state (S := (XS b b u7 [] (nI 0) (nI 0))) hF82 ((hAe 0 (by decide) 0 (by decide))) (by omega) (hst := (by rw [hl]; exact hst))) hG rfl rfl (Nat.le_of_ble_eq_true rfl) (by decide) (by decide) (by decide) (by decide)) (fl_out 0 rfl) rfl rfl rfl (fun w9 u83 hp9 => ?_)
                            obtain ⟨rfl, hF83⟩ := hp9
                            change V X 3299 102746 (u83 ++ ((([u82] : List va_W)).eraseIdx 0).flatten) [some (.ref (sa 90)), some (.ref x), some (.ref y), some (.int (nI (b 0 4))), some (.int (dg b)), none, none, none, none, none, none, none] [.int (dg b)] 330
                            refine V_perm (fl_back (bs := ([u82] : List va_W)) (bs' := ([u83] : List va_W)) 0 rfl rfl) ?_
                            refine r_iload (pc' := 332) hX dL_law_330 rfl rfl ?_
                            refine r_icmp_eq (tgt := 337) (pc' := 335) hX dL_law_332 (by decide) rfl (fun c332 => ?_) (fun c332 => ?_)
                            · exact cont _ hF83
                            · exact absurd rfl c332
                        · intro E9 u9 hp9
                          exact absurd hp9.1 (by rw [show (qErr (XS b b u7 [] (nI 0) (nI 0)).2.2.2.2.2.2 : Int32) = nI 0 from qErr_nI (by decide)]; exact okN (by first | decide | omega))
