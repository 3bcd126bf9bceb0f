/-! ===== the model: its changes ===== -/
set_option maxRecDepth 20000 in
set_option maxHeartbeats 4000000 in
theorem cM_addsAlloy {l : Launch} {D : va_G} {cy : Nat → ClassId} {sa : Nat → Nat} {ma : Nat → Nat} {r : Nat → Nat} {e : Nat → Int32} {g bf hy sv bu le : Nat → Nat} {pa : Nat → Int32} {v : SV} {x y z : Int32} (hv : Wf v) (hR : Rr v g)  : MG l yX6_addsAlloy cX6_addsAlloy 5 (some .int) 1 0 0 (D, cy, sa) [.ref (ma 0), .int x, .int y, .int z] (wM cy ma r e g bf hy sv bu le pa) (PM (oMix v x y z) 0 1 2 0 0 (fun t q => wM cy ma (up1 r 4 t) e q bf hy sv bu le pa)) := by
  have hv0 := hv
  obtain ⟨wa, wm, wb, ws, wt, wc, wB, wR, wL, wK, wP⟩ := hv
  refine MG_by (own := RX6) (L := [some (.ref (ma 0)), some (.int x), some (.int y), some (.int z), none]) (by decide +kernel) rfl rfl (Nat.le_of_ble_eq_true rfl) 1 rfl (fun X hX hE hnL hG hcy hnm => ?_)
  refine r_iload_n (pc' := 1) hX dX6_addsAlloy_0 rfl rfl ?_
  refine r_iconst (pc' := 2) (v := nI 0) hX dX6_addsAlloy_1 rfl rfl ?_
  refine r_bipush (pc' := 4) (v := nI 9) hX dX6_addsAlloy_2 rfl rfl ?_
  refine V_calln (k' := 0) (n' := 0) (pc' := 7) hX (r_runS (As := [.int x, .int (nI 0), .int (nI 9)]) hX dX6_addsAlloy_4 k_X6_49 (fun l9 hl9 => cM_in (x := x) (y := nI 0) (z := nI 9)) hG rfl rfl (Nat.le_of_ble_eq_true rfl) (by decide) (by decide) (by decide) (by decide)) rfl rfl rfl (fun w9 hp9 => ?_)
  obtain rfl := hp9
  rw [bI_congr (q := inR x 10) (by rw [nI_I (a := 0) (by omega), nI_I (a := 9) (by omega)]; unfold inR; omega)]
  change V X 0 0 (wM cy ma r e g bf hy sv bu le pa) [some (.ref (ma 0)), some (.int x), some (.int y), some (.int z), none] [.int (bI (inR x 10))] 7
  refine r_if_eq_B (tgt := 38) (pc' := 10) hX dX6_addsAlloy_7 (by decide) rfl (fun c7 => ?_) (fun c7 => ?_)
  · refine r_aload_n (pc' := 39) hX dX6_addsAlloy_38 rfl rfl ?_
    refine r_iconst (pc' := 40) (v := nI 1) hX dX6_addsAlloy_39 rfl rfl ?_
    refine V_call0 (k' := 0) (n' := 0) (pc' := 43) hX (r_runV (As := [.int (nI 1)]) hX dX6_addsAlloy_40 k_X6_67 (fun l9 hl9 => cM_fails (by omega)) hG ⟨8, _, TX6, 16, List.mem_cons_self, rfl⟩ rfl rfl (Nat.le_of_ble_eq_true rfl) (by decide) (by decide) (by decide) (by decide)) rfl rfl rfl (fun w9 u9 hp9 => ?_)
    obtain ⟨rfl, rfl⟩ := hp9
    change V X 0 0 (wM cy ma (up1 r 4 1) e g bf hy sv bu le pa) [some (.ref (ma 0)), some (.int x), some (.int y), some (.int z), none] [.int (nI 0)] 43
    have e9 : oMix v x y z = ((-2), v) := by unfold oMix; rw [if_neg (by rintro ⟨q1, q2, q3, q4⟩; first | exact c7 q1 | exact c17 q2 | exact c27 q3 | (rw [na, nb, nc] at q4; omega))]
    exact r_ireturn hX hE dX6_addsAlloy_43 rfl (PM_bad e9 (by decide) (by decide) hR rfl) (by decide) (by decide)
  · obtain ⟨a, ha, rfl⟩ := nat_of c7
    have ta : (nI a).toInt = (a : Int) := nI_I (by omega)
    have na : tn (nI a) = a := tn_nI (by omega)
    refine r_iload_n (pc' := 11) hX dX6_addsAlloy_10 rfl rfl ?_
    refine r_iconst (pc' := 12) (v := nI 0) hX dX6_addsAlloy_11 rfl rfl ?_
    refine r_bipush (pc' := 14) (v := nI 9) hX dX6_addsAlloy_12 rfl rfl ?_
    refine V_calln (k' := 0) (n' := 0) (pc' := 17) hX (r_runS (As := [.int y, .int (nI 0), .int (nI 9)]) hX dX6_addsAlloy_14 k_X6_49 (fun l9 hl9 => cM_in (x := y) (y := nI 0) (z := nI 9)) hG rfl rfl (Nat.le_of_ble_eq_true rfl) (by decide) (by decide) (by decide) (by decide)) rfl rfl rfl (fun w9 hp9 => ?_)
    obtain rfl := hp9
    rw [bI_congr (q := inR y 10) (by rw [nI_I (a := 0) (by omega), nI_I (a := 9) (by omega)]; unfold inR; omega)]
    change V X 0 0 (wM cy ma r e g bf hy sv bu le pa) [some (.ref (ma 0)), some (.int (nI a)), some (.int y), some (.int z), none] [.int (bI (inR y 10))] 17
    refine r_if_eq_B (tgt := 38) (pc' := 20) hX dX6_addsAlloy_17 (by decide) rfl (fun c17 => ?_) (fun c17 => ?_)
    · refine r_aload_n (pc' := 39) hX dX6_addsAlloy_38 rfl rfl ?_
      refine r_iconst (pc' := 40) (v := nI 1) hX dX6_addsAlloy_39 rfl rfl ?_
      refine V_call0 (k' := 0) (n' := 0) (pc' := 43) hX (r_runV (As := [.int (nI 1)]) hX dX6_addsAlloy_40 k_X6_67 (fun l9 hl9 => cM_fails (by omega)) hG ⟨8, _, TX6, 16, List.mem_cons_self, rfl⟩ rfl rfl (Nat.le_of_ble_eq_true rfl) (by decide) (by decide) (by decide) (by decide)) rfl rfl rfl (fun w9 u9 hp9 => ?_)
      obtain ⟨rfl, rfl⟩ := hp9
      change V X 0 0 (wM cy ma (up1 r 4 1) e g bf hy sv bu le pa) [some (.ref (ma 0)), some (.int (nI a)), some (.int y), some (.int z), none] [.int (nI 0)] 43
      have e9 : oMix v (nI a) y z = ((-2), v) := by unfold oMix; rw [if_neg (by rintro ⟨q1, q2, q3, q4⟩; first | exact c7 q1 | exact c17 q2 | exact c27 q3 | (rw [na, nb, nc] at q4; omega))]
      exact r_ireturn hX hE dX6_addsAlloy_43 rfl (PM_bad e9 (by decide) (by decide) hR rfl) (by decide) (by decide)
    · obtain ⟨b, hb, rfl⟩ := nat_of c17
      have tb : (nI b).toInt = (b : Int) := nI_I (by omega)
      have nb : tn (nI b) = b := tn_nI (by omega)
      refine r_iload_n (pc' := 21) hX dX6_addsAlloy_20 rfl rfl ?_
      refine r_iconst (pc' := 22) (v := nI 0) hX dX6_addsAlloy_21 rfl rfl ?_
      refine r_bipush (pc' := 24) (v := nI 9) hX dX6_addsAlloy_22 rfl rfl ?_
      refine V_calln (k' := 0) (n' := 0) (pc' := 27) hX (r_runS (As := [.int z, .int (nI 0), .int (nI 9)]) hX dX6_addsAlloy_24 k_X6_49 (fun l9 hl9 => cM_in (x := z) (y := nI 0) (z := nI 9)) hG rfl rfl (Nat.le_of_ble_eq_true rfl) (by decide) (by decide) (by decide) (by decide)) rfl rfl rfl (fun w9 hp9 => ?_)
      obtain rfl := hp9
      rw [bI_congr (q := inR z 10) (by rw [nI_I (a := 0) (by omega), nI_I (a := 9) (by omega)]; unfold inR; omega)]
      change V X 0 0 (wM cy ma r e g bf hy sv bu le pa) [some (.ref (ma 0)), some (.int (nI a)), some (.int (nI b)), some (.int z), none] [.int (bI (inR z 10))] 27
      refine r_if_eq_B (tgt := 38) (pc' := 30) hX dX6_addsAlloy_27 (by decide) rfl (fun c27 => ?_) (fun c27 => ?_)
      · refine r_aload_n (pc' := 39) hX dX6_addsAlloy_38 rfl rfl ?_
        refine r_iconst (pc' := 40) (v := nI 1) hX dX6_addsAlloy_39 rfl rfl ?_
        refine V_call0 (k' := 0) (n' := 0) (pc' := 43) hX (r_runV (As := [.int (nI 1)]) hX dX6_addsAlloy_40 k_X6_67 (fun l9 hl9 => cM_fails (by omega)) hG ⟨8, _, TX6, 16, List.mem_cons_self, rfl⟩ rfl rfl (Nat.le_of_ble_eq_true rfl) (by decide) (by decide) (by decide) (by decide)) rfl rfl rfl (fun w9 u9 hp9 => ?_)
        obtain ⟨rfl, rfl⟩ := hp9
        change V X 0 0 (wM cy ma (up1 r 4 1) e g bf hy sv bu le pa) [some (.ref (ma 0)), some (.int (nI a)), some (.int (nI b)), some (.int z), none] [.int (nI 0)] 43
        have e9 : oMix v (nI a) (nI b) z = ((-2), v) := by unfold oMix; rw [if_neg (by rintro ⟨q1, q2, q3, q4⟩; first | exact c7 q1 | exact c17 q2 | exact c27 q3 | (rw [na, nb, nc] at q4; omega))]
        exact r_ireturn hX hE dX6_addsAlloy_43 rfl (PM_bad e9 (by decide) (by decide) hR rfl) (by decide) (by decide)
      · obtain ⟨c, hc, rfl⟩ := nat_of c27
        have tc : (nI c).toInt = (c : Int) := nI_I (by omega)
        have nc : tn (nI c) = c := tn_nI (by omega)
        refine r_iload_n (pc' := 31) hX dX6_addsAlloy_30 rfl rfl ?_
        refine r_iload_n (pc' := 32) hX dX6_addsAlloy_31 rfl rfl ?_
        refine r_iadd_N (pc' := 33) hX dX6_addsAlloy_32  rfl ?_
        refine r_iload_n (pc' := 34) hX dX6_addsAlloy_33 rfl rfl ?_
        refine r_iadd_N (pc' := 35) hX dX6_addsAlloy_34  rfl ?_
        refine r_if_ne_N (tgt := 44) (pc' := 38) hX dX6_addsAlloy_35 (by decide) rfl (by omega) (fun c35 => ?_) (fun c35 => ?_)
        · refine r_aload_n (pc' := 45) hX dX6_addsAlloy_44 rfl rfl ?_
          refine r_get (pc' := 48) (v := .ref (ma 1)) hX dX6_addsAlloy_45 f_X6_7 0 rfl rfl rfl ?_
          refine r_iconst (pc' := 49) (v := nI 5) hX dX6_addsAlloy_48 rfl rfl ?_
          refine r_iald_N (pc' := 50) hX dX6_addsAlloy_49 (by rw [hcy]) 1 rfl (by omega) (by decide) rfl ?_
          change V X 0 0 (wM cy ma r e g bf hy sv bu le pa) [some (.ref (ma 0)), some (.int (nI a)), some (.int (nI b)), some (.int (nI c)), none] [.int (nI (g 5))] 50
          rw [hR.alo]
          refine r_istore (L' := [some (.ref (ma 0)), some (.int (nI a)), some (.int (nI b)), some (.int (nI c)), some (.int (nI (v 0 0)))]) (pc' := 52) hX dX6_addsAlloy_50 (nlt hnL (by decide)) rfl rfl rfl ?_
          refine r_iload (pc' := 54) hX dX6_addsAlloy_52 rfl rfl ?_
          refine r_bipush (pc' := 56) (v := nI 6) hX dX6_addsAlloy_54 rfl rfl ?_
          refine r_icmp_ne_N (tgt := 65) (pc' := 59) hX dX6_addsAlloy_56 (by decide) rfl (by omega) (by omega) (fun c56 => ?_) (fun c56 => ?_)
          · refine r_aload_n (pc' := 66) hX dX6_addsAlloy_65 rfl rfl ?_
            refine r_get (pc' := 69) (v := .ref (ma 1)) hX dX6_addsAlloy_66 f_X6_7 0 rfl rfl rfl ?_
            refine r_bipush (pc' := 71) (v := nI 21) hX dX6_addsAlloy_69 rfl rfl ?_
            refine r_iconst (pc' := 72) (v := nI 3) hX dX6_addsAlloy_71 rfl rfl ?_
            refine r_iload (pc' := 74) hX dX6_addsAlloy_72 rfl rfl ?_
            refine r_imul_N (pc' := 75) hX dX6_addsAlloy_74  rfl ?_
            refine r_iadd_N (pc' := 76) hX dX6_addsAlloy_75  rfl ?_
            refine r_iload_n (pc' := 77) hX dX6_addsAlloy_76 rfl rfl ?_
            refine r_iast_N (ws' := wM cy ma r e (up1 g (21 + (3 * (v 0 0))) a) bf hy sv bu le pa) (pc' := 78) hX dX6_addsAlloy_77 (by rw [hcy]) 1 rfl (by omega) (by decide) rfl rfl ?_
            refine r_aload_n (pc' := 79) hX dX6_addsAlloy_78 rfl rfl ?_
            refine r_get (pc' := 82) (v := .ref (ma 1)) hX dX6_addsAlloy_79 f_X6_7 0 rfl rfl rfl ?_
            refine r_bipush (pc' := 84) (v := nI 21) hX dX6_addsAlloy_82 rfl rfl ?_
            refine r_iconst (pc' := 85) (v := nI 3) hX dX6_addsAlloy_84 rfl rfl ?_
            refine r_iload (pc' := 87) hX dX6_addsAlloy_85 rfl rfl ?_
            refine r_imul_N (pc' := 88) hX dX6_addsAlloy_87  rfl ?_
            refine r_iadd_N (pc' := 89) hX dX6_addsAlloy_88  rfl ?_
            refine r_iconst (pc' := 90) (v := nI 1) hX dX6_addsAlloy_89 rfl rfl ?_
            refine r_iadd_N (pc' := 91) hX dX6_addsAlloy_90  rfl ?_
            refine r_iload_n (pc' := 92) hX dX6_addsAlloy_91 rfl rfl ?_
            refine r_iast_N (ws' := wM cy ma r e (up1 (up1 g (21 + (3 * (v 0 0))) a) ((21 + (3 * (v 0 0))) + 1) b) bf hy sv bu le pa) (pc' := 93) hX dX6_addsAlloy_92 (by rw [hcy]) 1 rfl (by omega) (by decide) rfl rfl ?_
            refine r_aload_n (pc' := 94) hX dX6_addsAlloy_93 rfl rfl ?_
            refine r_get (pc' := 97) (v := .ref (ma 1)) hX dX6_addsAlloy_94 f_X6_7 0 rfl rfl rfl ?_
            refine r_bipush (pc' := 99) (v := nI 21) hX dX6_addsAlloy_97 rfl rfl ?_
            refine r_iconst (pc' := 100) (v := nI 3) hX dX6_addsAlloy_99 rfl rfl ?_
            refine r_iload (pc' := 102) hX dX6_addsAlloy_100 rfl rfl ?_
            refine r_imul_N (pc' := 103) hX dX6_addsAlloy_102  rfl ?_
            refine r_iadd_N (pc' := 104) hX dX6_addsAlloy_103  rfl ?_
            refine r_iconst (pc' := 105) (v := nI 2) hX dX6_addsAlloy_104 rfl rfl ?_
            refine r_iadd_N (pc' := 106) hX dX6_addsAlloy_105  rfl ?_
            refine r_iload_n (pc' := 107) hX dX6_addsAlloy_106 rfl rfl ?_
            refine r_iast_N (ws' := wM cy ma r e (up1 (up1 (up1 g (21 + (3 * (v 0 0))) a) ((21 + (3 * (v 0 0))) + 1) b) ((21 + (3 * (v 0 0))) + 2) c) bf hy sv bu le pa) (pc' := 108) hX dX6_addsAlloy_107 (by rw [hcy]) 1 rfl (by omega) (by decide) rfl rfl ?_
            refine r_aload_n (pc' := 109) hX dX6_addsAlloy_108 rfl rfl ?_
            refine r_get (pc' := 112) (v := .ref (ma 1)) hX dX6_addsAlloy_109 f_X6_7 0 rfl rfl rfl ?_
            refine r_iconst (pc' := 113) (v := nI 5) hX dX6_addsAlloy_112 rfl rfl ?_
            refine r_dup2 (pc' := 114) hX dX6_addsAlloy_113 rfl rfl rfl ?_
            refine r_iald_N (pc' := 115) hX dX6_addsAlloy_114 (by rw [hcy]) 1 rfl (by omega) (by decide) rfl ?_
            change V X 0 0 (wM cy ma r e (up1 (up1 (up1 g (21 + (3 * (v 0 0))) a) ((21 + (3 * (v 0 0))) + 1) b) ((21 + (3 * (v 0 0))) + 2) c) bf hy sv bu le pa) [some (.ref (ma 0)), some (.int (nI a)), some (.int (nI b)), some (.int (nI c)), some (.int (nI (v 0 0)))] [.int (nI ((up1 (up1 (up1 g (21 + (3 * (v 0 0))) a) ((21 + (3 * (v 0 0))) + 1) b) ((21 + (3 * (v 0 0))) + 2) c) 5)), .int (nI 5), .ref (ma 1)] 115
            rw [show ((up1 (up1 (up1 g (21 + (3 * (v 0 0))) a) ((21 + (3 * (v 0 0))) + 1) b) ((21 + (3 * (v 0 0))) + 2) c) 5) = (g 5) from ((up1_ne (f := (up1 (up1 g (21 + (3 * (v 0 0))) a) ((21 + (3 * (v 0 0))) + 1) b)) (i := (21 + (3 * (v 0 0))) + 2) (x := c) (j := 5) (by omega)).trans ((up1_ne (f := (up1 g (21 + (3 * (v 0 0))) a)) (i := (21 + (3 * (v 0 0))) + 1) (x := b) (j := 5) (by omega)).trans (up1_ne (f := g) (i := 21 + (3 * (v 0 0))) (x := a) (j := 5) (by omega))))]
            rw [hR.alo]
            refine r_iconst (pc' := 116) (v := nI 1) hX dX6_addsAlloy_115 rfl rfl ?_
            refine r_iadd_N (pc' := 117) hX dX6_addsAlloy_116  rfl ?_
            refine r_iast_N (ws' := wM cy ma r e (up1 (up1 (up1 (up1 g (21 + (3 * (v 0 0))) a) ((21 + (3 * (v 0 0))) + 1) b) ((21 + (3 * (v 0 0))) + 2) c) 5 ((v 0 0) + 1)) bf hy sv bu le pa) (pc' := 118) hX dX6_addsAlloy_117 (by rw [hcy]) 1 rfl (by omega) (by decide) rfl rfl ?_
            refine r_aload_n (pc' := 119) hX dX6_addsAlloy_118 rfl rfl ?_
            refine r_iload (pc' := 121) hX dX6_addsAlloy_119 rfl rfl ?_
            refine V_call0 (k' := 0) (n' := 0) (pc' := 124) hX (r_runV (As := [.int (nI (v 0 0))]) hX dX6_addsAlloy_121 k_X6_70 (fun l9 hl9 => cM_done) hG ⟨8, _, TX6, 16, List.mem_cons_self, rfl⟩ rfl rfl (Nat.le_of_ble_eq_true rfl) (by decide) (by decide) (by decide) (by decide)) rfl rfl rfl (fun w9 u9 hp9 => ?_)
            obtain ⟨rfl, rfl⟩ := hp9
            change V X 0 0 (wM cy ma (up1 r 4 0) e (up1 (up1 (up1 (up1 g (21 + (3 * (v 0 0))) a) ((21 + (3 * (v 0 0))) + 1) b) ((21 + (3 * (v 0 0))) + 2) c) 5 ((v 0 0) + 1)) bf hy sv bu le pa) [some (.ref (ma 0)), some (.int (nI a)), some (.int (nI b)), some (.int (nI c)), some (.int (nI (v 0 0)))] [.int (nI (v 0 0))] 124
            have e9 : oMix v (nI a) (nI b) (nI c) = (nI (v 0 0), up2 (up2 (up2 (up2 v (7 + v 0 0) 0 a) (7 + v 0 0) 1 b) (7 + v 0 0) 2 c) 0 0 (v 0 0 + 1)) := by unfold oMix; rw [if_pos ⟨c7, c17, c27, by rw [na, nb, nc]; omega⟩, if_pos (by omega), na, nb, nc]
            exact r_ireturn hX hE dX6_addsAlloy_124 rfl (PM_good e9 (by omega) ((((hR.p3 (b := 7 + v 0 0) (k := 0) (x := a) (j := 21 + 3 * v 0 0) (by omega) (by omega) (ix_rec (a := v 0 0) (m := 0) (by omega)).symm).p3 (b := 7 + v 0 0) (k := 1) (x := b) (j := 21 + 3 * v 0 0 + 1) (by omega) (by omega) (ix_rec (a := v 0 0) (m := 1) (by omega)).symm).p3 (b := 7 + v 0 0) (k := 2) (x := c) (j := 21 + 3 * v 0 0 + 2) (by omega) (by omega) (ix_rec (a := v 0 0) (m := 2) (by omega)).symm).p0 (k := 0) (x := v 0 0 + 1) (by omega) (by omega) rfl) rfl) (by decide) (by decide)
          · refine r_aload_n (pc' := 60) hX dX6_addsAlloy_59 rfl rfl ?_
            refine r_iconst (pc' := 61) (v := nI 2) hX dX6_addsAlloy_60 rfl rfl ?_
            refine V_call0 (k' := 0) (n' := 0) (pc' := 64) hX (r_runV (As := [.int (nI 2)]) hX dX6_addsAlloy_61 k_X6_67 (fun l9 hl9 => cM_fails (by omega)) hG ⟨8, _, TX6, 16, List.mem_cons_self, rfl⟩ rfl rfl (Nat.le_of_ble_eq_true rfl) (by decide) (by decide) (by decide) (by decide)) rfl rfl rfl (fun w9 u9 hp9 => ?_)
            obtain ⟨rfl, rfl⟩ := hp9
            change V X 0 0 (wM cy ma (up1 r 4 2) e g bf hy sv bu le pa) [some (.ref (ma 0)), some (.int (nI a)), some (.int (nI b)), some (.int (nI c)), some (.int (nI (v 0 0)))] [.int (nI 0)] 64
            have e9 : oMix v (nI a) (nI b) (nI c) = ((-3), v) := by unfold oMix; rw [if_pos ⟨c7, c17, c27, by rw [na, nb, nc]; omega⟩, if_neg (by omega)]
            exact r_ireturn hX hE dX6_addsAlloy_64 rfl (PM_bad e9 (by decide) (by decide) hR rfl) (by decide) (by decide)
        · refine r_aload_n (pc' := 39) hX dX6_addsAlloy_38 rfl rfl ?_
          refine r_iconst (pc' := 40) (v := nI 1) hX dX6_addsAlloy_39 rfl rfl ?_
          refine V_call0 (k' := 0) (n' := 0) (pc' := 43) hX (r_runV (As := [.int (nI 1)]) hX dX6_addsAlloy_40 k_X6_67 (fun l9 hl9 => cM_fails (by omega)) hG ⟨8, _, TX6, 16, List.mem_cons_self, rfl⟩ rfl rfl (Nat.le_of_ble_eq_true rfl) (by decide) (by decide) (by decide) (by decide)) rfl rfl rfl (fun w9 u9 hp9 => ?_)
          obtain ⟨rfl, rfl⟩ := hp9
          change V X 0 0 (wM cy ma (up1 r 4 1) e g bf hy sv bu le pa) [some (.ref (ma 0)), some (.int (nI a)), some (.int (nI b)), some (.int (nI c)), none] [.int (nI 0)] 43
          have e9 : oMix v (nI a) (nI b) (nI c) = ((-2), v) := by unfold oMix; rw [if_neg (by rintro ⟨q1, q2, q3, q4⟩; first | exact c7 q1 | exact c17 q2 | exact c27 q3 | (rw [na, nb, nc] at q4; omega))]
          exact r_ireturn hX hE dX6_addsAlloy_43 rfl (PM_bad e9 (by decide) (by decide) hR rfl) (by decide) (by decide)

set_option maxRecDepth 20000 in
set_option maxHeartbeats 4000000 in
theorem cM_addsMould {l : Launch} {D : va_G} {cy : Nat → ClassId} {sa : Nat → Nat} {ma : Nat → Nat} {r : Nat → Nat} {e : Nat → Int32} {g bf hy sv bu le : Nat → Nat} {pa : Nat → Int32} {v : SV} {x : Int32} (hv : Wf v) (hR : Rr v g) (hz : ∀ i, v 0 1 ≤ i → i < 4 → v 2 i = 0) : MG l yX6_addsMould cX6_addsMould 3 (some .int) 1 0 0 (D, cy, sa) [.ref (ma 0), .int x] (wM cy ma r e g bf hy sv bu le pa) (PM (oMould v x) 0 1 2 0 0 (fun t q => wM cy ma (up1 r 4 t) e q bf hy sv bu le pa)) := by
  have hv0 := hv
  obtain ⟨wa, wm, wb, ws, wt, wc, wB, wR, wL, wK, wP⟩ := hv
  refine MG_by (own := RX6) (L := [some (.ref (ma 0)), some (.int x), none]) (by decide +kernel) rfl rfl (Nat.le_of_ble_eq_true rfl) 1 rfl (fun X hX hE hnL hG hcy hnm => ?_)
  refine r_iload_n (pc' := 1) hX dX6_addsMould_0 rfl rfl ?_
  refine r_iconst (pc' := 2) (v := nI 1) hX dX6_addsMould_1 rfl rfl ?_
  refine r_bipush (pc' := 4) (v := nI 50) hX dX6_addsMould_2 rfl rfl ?_
  refine V_calln (k' := 0) (n' := 0) (pc' := 7) hX (r_runS (As := [.int x, .int (nI 1), .int (nI 50)]) hX dX6_addsMould_4 k_X6_49 (fun l9 hl9 => cM_in (x := x) (y := nI 1) (z := nI 50)) hG rfl rfl (Nat.le_of_ble_eq_true rfl) (by decide) (by decide) (by decide) (by decide)) rfl rfl rfl (fun w9 hp9 => ?_)
  obtain rfl := hp9
  rw [bI_congr (q := 1 ≤ x.toInt ∧ x.toInt ≤ 50) (by rw [nI_I (a := 1) (by omega), nI_I (a := 50) (by omega)]; omega)]
  change V X 0 0 (wM cy ma r e g bf hy sv bu le pa) [some (.ref (ma 0)), some (.int x), none] [.int (bI (1 ≤ x.toInt ∧ x.toInt ≤ 50))] 7
  refine r_if_ne_B (tgt := 16) (pc' := 10) hX dX6_addsMould_7 (by decide) rfl (fun c7 => ?_) (fun c7 => ?_)
  · obtain ⟨a, ha, rfl⟩ := nat_of (x := x) (n := 51) ⟨by omega, by omega⟩
    have ta : (nI a).toInt = (a : Int) := nI_I (by omega)
    have na : tn (nI a) = a := tn_nI (by omega)
    refine r_aload_n (pc' := 17) hX dX6_addsMould_16 rfl rfl ?_
    refine r_get (pc' := 20) (v := .ref (ma 1)) hX dX6_addsMould_17 f_X6_7 0 rfl rfl rfl ?_
    refine r_bipush (pc' := 22) (v := nI 6) hX dX6_addsMould_20 rfl rfl ?_
    refine r_iald_N (pc' := 23) hX dX6_addsMould_22 (by rw [hcy]) 1 rfl (by omega) (by decide) rfl ?_
    change V X 0 0 (wM cy ma r e g bf hy sv bu le pa) [some (.ref (ma 0)), some (.int (nI a)), none] [.int (nI (g 6))] 23
    rw [hR.mou]
    refine r_istore_n (L' := [some (.ref (ma 0)), some (.int (nI a)), some (.int (nI (v 0 1)))]) (pc' := 24) hX dX6_addsMould_23 (nlt hnL (by decide)) rfl rfl rfl ?_
    refine r_iload_n (pc' := 25) hX dX6_addsMould_24 rfl rfl ?_
    refine r_iconst (pc' := 26) (v := nI 4) hX dX6_addsMould_25 rfl rfl ?_
    refine r_icmp_ne_N (tgt := 35) (pc' := 29) hX dX6_addsMould_26 (by decide) rfl (by omega) (by omega) (fun c26 => ?_) (fun c26 => ?_)
    · refine r_aload_n (pc' := 36) hX dX6_addsMould_35 rfl rfl ?_
      refine r_get (pc' := 39) (v := .ref (ma 1)) hX dX6_addsMould_36 f_X6_7 0 rfl rfl rfl ?_
      refine r_bipush (pc' := 41) (v := nI 39) hX dX6_addsMould_39 rfl rfl ?_
      refine r_iload_n (pc' := 42) hX dX6_addsMould_41 rfl rfl ?_
      refine r_iadd_N (pc' := 43) hX dX6_addsMould_42  rfl ?_
      refine r_iload_n (pc' := 44) hX dX6_addsMould_43 rfl rfl ?_
      refine r_iast_N (ws' := wM cy ma r e (up1 g (39 + (v 0 1)) a) bf hy sv bu le pa) (pc' := 45) hX dX6_addsMould_44 (by rw [hcy]) 1 rfl (by omega) (by decide) rfl rfl ?_
      refine r_aload_n (pc' := 46) hX dX6_addsMould_45 rfl rfl ?_
      refine r_get (pc' := 49) (v := .ref (ma 1)) hX dX6_addsMould_46 f_X6_7 0 rfl rfl rfl ?_
      refine r_bipush (pc' := 51) (v := nI 6) hX dX6_addsMould_49 rfl rfl ?_
      refine r_dup2 (pc' := 52) hX dX6_addsMould_51 rfl rfl rfl ?_
      refine r_iald_N (pc' := 53) hX dX6_addsMould_52 (by rw [hcy]) 1 rfl (by omega) (by decide) rfl ?_
      change V X 0 0 (wM cy ma r e (up1 g (39 + (v 0 1)) a) bf hy sv bu le pa) [some (.ref (ma 0)), some (.int (nI a)), some (.int (nI (v 0 1)))] [.int (nI ((up1 g (39 + (v 0 1)) a) 6)), .int (nI 6), .ref (ma 1)] 53
      rw [show ((up1 g (39 + (v 0 1)) a) 6) = (g 6) from (up1_ne (f := g) (i := 39 + (v 0 1)) (x := a) (j := 6) (by omega))]
      rw [hR.mou]
      refine r_iconst (pc' := 54) (v := nI 1) hX dX6_addsMould_53 rfl rfl ?_
      refine r_iadd_N (pc' := 55) hX dX6_addsMould_54  rfl ?_
      refine r_iast_N (ws' := wM cy ma r e (up1 (up1 g (39 + (v 0 1)) a) 6 ((v 0 1) + 1)) bf hy sv bu le pa) (pc' := 56) hX dX6_addsMould_55 (by rw [hcy]) 1 rfl (by omega) (by decide) rfl rfl ?_
      refine r_aload_n (pc' := 57) hX dX6_addsMould_56 rfl rfl ?_
      refine r_iload_n (pc' := 58) hX dX6_addsMould_57 rfl rfl ?_
      refine V_call0 (k' := 0) (n' := 0) (pc' := 61) hX (r_runV (As := [.int (nI (v 0 1))]) hX dX6_addsMould_58 k_X6_70 (fun l9 hl9 => cM_done) hG ⟨8, _, TX6, 16, List.mem_cons_self, rfl⟩ rfl rfl (Nat.le_of_ble_eq_true rfl) (by decide) (by decide) (by decide) (by decide)) rfl rfl rfl (fun w9 u9 hp9 => ?_)
      obtain ⟨rfl, rfl⟩ := hp9
      change V X 0 0 (wM cy ma (up1 r 4 0) e (up1 (up1 g (39 + (v 0 1)) a) 6 ((v 0 1) + 1)) bf hy sv bu le pa) [some (.ref (ma 0)), some (.int (nI a)), some (.int (nI (v 0 1)))] [.int (nI (v 0 1))] 61
      have eu : up2 (up2 v 1 (v 0 1) a) 2 (v 0 1) 0 = up2 v 1 (v 0 1) a := up2_idd (by rw [up2_at2 (by omega)]; exact hz _ (Nat.le_refl _) (by omega))
      have e9 : oMould v (nI a) = (nI (v 0 1), up2 (up2 v 1 (v 0 1) a) 0 1 (v 0 1 + 1)) := by unfold oMould; rw [if_pos c7, if_pos (by omega), na, eu]
      exact r_ireturn hX hE dX6_addsMould_61 rfl (PM_good e9 (by omega) ((hR.p1 (k := v 0 1) (x := a) (j := 39 + v 0 1) (by omega) rfl).p0 (k := 1) (x := v 0 1 + 1) (by omega) (by omega) rfl) rfl) (by decide) (by decide)
    · refine r_aload_n (pc' := 30) hX dX6_addsMould_29 rfl rfl ?_
      refine r_iconst (pc' := 31) (v := nI 2) hX dX6_addsMould_30 rfl rfl ?_
      refine V_call0 (k' := 0) (n' := 0) (pc' := 34) hX (r_runV (As := [.int (nI 2)]) hX dX6_addsMould_31 k_X6_67 (fun l9 hl9 => cM_fails (by omega)) hG ⟨8, _, TX6, 16, List.mem_cons_self, rfl⟩ rfl rfl (Nat.le_of_ble_eq_true rfl) (by decide) (by decide) (by decide) (by decide)) rfl rfl rfl (fun w9 u9 hp9 => ?_)
      obtain ⟨rfl, rfl⟩ := hp9
      change V X 0 0 (wM cy ma (up1 r 4 2) e g bf hy sv bu le pa) [some (.ref (ma 0)), some (.int (nI a)), some (.int (nI (v 0 1)))] [.int (nI 0)] 34
      have e9 : oMould v (nI a) = ((-3), v) := by unfold oMould; rw [if_pos c7, if_neg (by omega)]
      exact r_ireturn hX hE dX6_addsMould_34 rfl (PM_bad e9 (by decide) (by decide) hR rfl) (by decide) (by decide)
  · refine r_aload_n (pc' := 11) hX dX6_addsMould_10 rfl rfl ?_
    refine r_iconst (pc' := 12) (v := nI 1) hX dX6_addsMould_11 rfl rfl ?_
    refine V_call0 (k' := 0) (n' := 0) (pc' := 15) hX (r_runV (As := [.int (nI 1)]) hX dX6_addsMould_12 k_X6_67 (fun l9 hl9 => cM_fails (by omega)) hG ⟨8, _, TX6, 16, List.mem_cons_self, rfl⟩ rfl rfl (Nat.le_of_ble_eq_true rfl) (by decide) (by decide) (by decide) (by decide)) rfl rfl rfl (fun w9 u9 hp9 => ?_)
    obtain ⟨rfl, rfl⟩ := hp9
    change V X 0 0 (wM cy ma (up1 r 4 1) e g bf hy sv bu le pa) [some (.ref (ma 0)), some (.int x), none] [.int (nI 0)] 15
    have e9 : oMould v x = ((-2), v) := by unfold oMould; rw [if_neg c7]
    exact r_ireturn hX hE dX6_addsMould_15 rfl (PM_bad e9 (by decide) (by decide) hR rfl) (by decide) (by decide)

set_option maxRecDepth 20000 in
set_option maxHeartbeats 4000000 in
theorem cM_buys {l : Launch} {D : va_G} {cy : Nat → ClassId} {sa : Nat → Nat} {ma : Nat → Nat} {r : Nat → Nat} {e : Nat → Int32} {g bf hy sv bu le : Nat → Nat} {pa : Nat → Int32} {v : SV} {x y : Int32} (hv : Wf v) (hR : Rr v g)  : MG l yX6_buys cX6_buys 3 (some .int) 2 0 0 (D, cy, sa) [.ref (ma 0), .int x, .int y] (wM cy ma r e g bf hy sv bu le pa) (PM (oBuy v x y) 1 2 3 0 0 (fun t q => wM cy ma (up1 r 4 t) e q bf hy sv bu le pa)) := by
  have hv0 := hv
  obtain ⟨wa, wm, wb, ws, wt, wc, wB, wR, wL, wK, wP⟩ := hv
  refine MG_by (own := RX6) (L := [some (.ref (ma 0)), some (.int x), some (.int y)]) (by decide +kernel) rfl rfl (Nat.le_of_ble_eq_true rfl) 0 rfl (fun X hX hE hnL hG hcy hnm => ?_)
  refine r_iload_n (pc' := 1) hX dX6_buys_0 rfl rfl ?_
  refine V_calln (k' := 0) (n' := 0) (pc' := 4) hX (r_runS (As := [.int x]) hX dX6_buys_1 k_X6_86 (fun l9 hl9 => cM_isMetal) hG rfl rfl (Nat.le_of_ble_eq_true rfl) (by decide) (by decide) (by decide) (by decide)) rfl rfl rfl (fun w9 hp9 => ?_)
  obtain rfl := hp9
  change V X 0 0 (wM cy ma r e g bf hy sv bu le pa) [some (.ref (ma 0)), some (.int x), some (.int y)] [.int (bI (inR x 3))] 4
  refine r_if_ne_B (tgt := 13) (pc' := 7) hX dX6_buys_4 (by decide) rfl (fun c4 => ?_) (fun c4 => ?_)
  · obtain ⟨a, ha, rfl⟩ := nat_of c4
    have ta : (nI a).toInt = (a : Int) := nI_I (by omega)
    have na : tn (nI a) = a := tn_nI (by omega)
    refine r_iload_n (pc' := 14) hX dX6_buys_13 rfl rfl ?_
    refine r_iconst (pc' := 15) (v := nI 1) hX dX6_buys_14 rfl rfl ?_
    refine r_bipush (pc' := 17) (v := nI 99) hX dX6_buys_15 rfl rfl ?_
    refine V_calln (k' := 0) (n' := 0) (pc' := 20) hX (r_runS (As := [.int y, .int (nI 1), .int (nI 99)]) hX dX6_buys_17 k_X6_49 (fun l9 hl9 => cM_in (x := y) (y := nI 1) (z := nI 99)) hG rfl rfl (Nat.le_of_ble_eq_true rfl) (by decide) (by decide) (by decide) (by decide)) rfl rfl rfl (fun w9 hp9 => ?_)
    obtain rfl := hp9
    rw [bI_congr (q := 1 ≤ y.toInt ∧ y.toInt ≤ 99) (by rw [nI_I (a := 1) (by omega), nI_I (a := 99) (by omega)]; omega)]
    change V X 0 0 (wM cy ma r e g bf hy sv bu le pa) [some (.ref (ma 0)), some (.int (nI a)), some (.int y)] [.int (bI (1 ≤ y.toInt ∧ y.toInt ≤ 99))] 20
    refine r_if_ne_B (tgt := 29) (pc' := 23) hX dX6_buys_20 (by decide) rfl (fun c20 => ?_) (fun c20 => ?_)
    · obtain ⟨b, hb, rfl⟩ := nat_of (x := y) (n := 100) ⟨by omega, by omega⟩
      have tb : (nI b).toInt = (b : Int) := nI_I (by omega)
      have nb : tn (nI b) = b := tn_nI (by omega)
      have k0 := wK a (by omega)
      refine r_aload_n (pc' := 30) hX dX6_buys_29 rfl rfl ?_
      refine r_get (pc' := 33) (v := .ref (ma 1)) hX dX6_buys_30 f_X6_7 0 rfl rfl rfl ?_
      refine r_iconst (pc' := 34) (v := nI 0) hX dX6_buys_33 rfl rfl ?_
      refine r_iload_n (pc' := 35) hX dX6_buys_34 rfl rfl ?_
      refine r_iadd_N (pc' := 36) hX dX6_buys_35  rfl ?_
      refine r_iald_N (pc' := 37) hX dX6_buys_36 (by rw [hcy]) 1 rfl (by omega) (by decide) rfl ?_
      change V X 0 0 (wM cy ma r e g bf hy sv bu le pa) [some (.ref (ma 0)), some (.int (nI a)), some (.int (nI b))] [.int (nI (g (0 + a)))] 37
      rw [(hR.sto (by omega))]
      refine r_iload_n (pc' := 38) hX dX6_buys_37 rfl rfl ?_
      refine r_iadd_N (pc' := 39) hX dX6_buys_38  rfl ?_
      refine r_sipush (pc' := 42) (v := nI 999) hX dX6_buys_39 rfl rfl ?_
      refine r_icmp_le_N (tgt := 51) (pc' := 45) hX dX6_buys_42 (by decide) rfl (by omega) (by omega) (fun c42 => ?_) (fun c42 => ?_)
      · refine r_aload_n (pc' := 52) hX dX6_buys_51 rfl rfl ?_
        refine r_get (pc' := 55) (v := .ref (ma 1)) hX dX6_buys_52 f_X6_7 0 rfl rfl rfl ?_
        refine r_iconst (pc' := 56) (v := nI 0) hX dX6_buys_55 rfl rfl ?_
        refine r_iload_n (pc' := 57) hX dX6_buys_56 rfl rfl ?_
        refine r_iadd_N (pc' := 58) hX dX6_buys_57  rfl ?_
        refine r_dup2 (pc' := 59) hX dX6_buys_58 rfl rfl rfl ?_
        refine r_iald_N (pc' := 60) hX dX6_buys_59 (by rw [hcy]) 1 rfl (by omega) (by decide) rfl ?_
        change V X 0 0 (wM cy ma r e g bf hy sv bu le pa) [some (.ref (ma 0)), some (.int (nI a)), some (.int (nI b))] [.int (nI (g (0 + a))), .int (nI (0 + a)), .ref (ma 1)] 60
        rw [(hR.sto (by omega))]
        refine r_iload_n (pc' := 61) hX dX6_buys_60 rfl rfl ?_
        refine r_iadd_N (pc' := 62) hX dX6_buys_61  rfl ?_
        refine r_iast_N (ws' := wM cy ma r e (up1 g (0 + a) ((v 3 a) + b)) bf hy sv bu le pa) (pc' := 63) hX dX6_buys_62 (by rw [hcy]) 1 rfl (by omega) (by decide) rfl rfl ?_
        refine r_aload_n (pc' := 64) hX dX6_buys_63 rfl rfl ?_
        refine r_get (pc' := 67) (v := .ref (ma 1)) hX dX6_buys_64 f_X6_7 0 rfl rfl rfl ?_
        refine r_bipush (pc' := 69) (v := nI 12) hX dX6_buys_67 rfl rfl ?_
        refine r_iload_n (pc' := 70) hX dX6_buys_69 rfl rfl ?_
        refine r_iadd_N (pc' := 71) hX dX6_buys_70  rfl ?_
        refine r_dup2 (pc' := 72) hX dX6_buys_71 rfl rfl rfl ?_
        refine r_iald_N (pc' := 73) hX dX6_buys_72 (by rw [hcy]) 1 rfl (by omega) (by decide) rfl ?_
        change V X 0 0 (wM cy ma r e (up1 g (0 + a) ((v 3 a) + b)) bf hy sv bu le pa) [some (.ref (ma 0)), some (.int (nI a)), some (.int (nI b))] [.int (nI ((up1 g (0 + a) ((v 3 a) + b)) (12 + a))), .int (nI (12 + a)), .ref (ma 1)] 73
        rw [show ((up1 g (0 + a) ((v 3 a) + b)) (12 + a)) = (g (12 + a)) from (up1_ne (f := g) (i := 0 + a) (x := (v 3 a) + b) (j := 12 + a) (by omega))]
        rw [(hR.bou (by omega))]
        refine r_iload_n (pc' := 74) hX dX6_buys_73 rfl rfl ?_
        refine r_iadd_N (pc' := 75) hX dX6_buys_74  rfl ?_
        refine r_iast_N (ws' := wM cy ma r e (up1 (up1 g (0 + a) ((v 3 a) + b)) (12 + a) ((v 4 a) + b)) bf hy sv bu le pa) (pc' := 76) hX dX6_buys_75 (by rw [hcy]) 1 rfl (by omega) (by decide) rfl rfl ?_
        refine r_aload_n (pc' := 77) hX dX6_buys_76 rfl rfl ?_
        refine r_aload_n (pc' := 78) hX dX6_buys_77 rfl rfl ?_
        refine r_get (pc' := 81) (v := .ref (ma 1)) hX dX6_buys_78 f_X6_7 0 rfl rfl rfl ?_
        refine r_iconst (pc' := 82) (v := nI 0) hX dX6_buys_81 rfl rfl ?_
        refine r_iload_n (pc' := 83) hX dX6_buys_82 rfl rfl ?_
        refine r_iadd_N (pc' := 84) hX dX6_buys_83  rfl ?_
        refine r_iald_N (pc' := 85) hX dX6_buys_84 (by rw [hcy]) 1 rfl (by omega) (by decide) rfl ?_
        change V X 0 0 (wM cy ma r e (up1 (up1 g (0 + a) ((v 3 a) + b)) (12 + a) ((v 4 a) + b)) bf hy sv bu le pa) [some (.ref (ma 0)), some (.int (nI a)), some (.int (nI b))] [.int (nI ((up1 (up1 g (0 + a) ((v 3 a) + b)) (12 + a) ((v 4 a) + b)) (0 + a))), .ref (ma 0)] 85
        rw [show ((up1 (up1 g (0 + a) ((v 3 a) + b)) (12 + a) ((v 4 a) + b)) (0 + a)) = ((v 3 a) + b) from ((up1_ne (f := (up1 g (0 + a) ((v 3 a) + b))) (i := 12 + a) (x := (v 4 a) + b) (j := 0 + a) (by omega)).trans (up1_s (f := g) (i := 0 + a) (x := (v 3 a) + b)))]
        refine V_call0 (k' := 0) (n' := 0) (pc' := 88) hX (r_runV (As := [.int (nI ((v 3 a) + b))]) hX dX6_buys_85 k_X6_70 (fun l9 hl9 => cM_done) hG ⟨8, _, TX6, 16, List.mem_cons_self, rfl⟩ rfl rfl (Nat.le_of_ble_eq_true rfl) (by decide) (by decide) (by decide) (by decide)) rfl rfl rfl (fun w9 u9 hp9 => ?_)
        obtain ⟨rfl, rfl⟩ := hp9
        change V X 0 0 (wM cy ma (up1 r 4 0) e (up1 (up1 g (0 + a) ((v 3 a) + b)) (12 + a) ((v 4 a) + b)) bf hy sv bu le pa) [some (.ref (ma 0)), some (.int (nI a)), some (.int (nI b))] [.int (nI ((v 3 a) + b))] 88
        have e9 : oBuy v (nI a) (nI b) = (nI (v 3 a + b), up2 (up2 v 3 a (v 3 a + b)) 4 a (v 4 a + b)) := by unfold oBuy; rw [if_pos c4, if_pos c20, if_pos (by rw [na, nb]; omega), na, nb]
        exact r_ireturn hX hE dX6_buys_88 rfl (PM_good e9 (by omega) ((hR.p3 (b := 3) (k := a) (x := v 3 a + b) (j := 0 + a) (by omega) (by omega) (by rw [ix3, Nat.zero_add])).p3 (b := 4) (k := a) (x := v 4 a + b) (j := 12 + a) (by omega) (by omega) rfl) rfl) (by decide) (by decide)
      · refine r_aload_n (pc' := 46) hX dX6_buys_45 rfl rfl ?_
        refine r_iconst (pc' := 47) (v := nI 3) hX dX6_buys_46 rfl rfl ?_
        refine V_call0 (k' := 0) (n' := 0) (pc' := 50) hX (r_runV (As := [.int (nI 3)]) hX dX6_buys_47 k_X6_67 (fun l9 hl9 => cM_fails (by omega)) hG ⟨8, _, TX6, 16, List.mem_cons_self, rfl⟩ rfl rfl (Nat.le_of_ble_eq_true rfl) (by decide) (by decide) (by decide) (by decide)) rfl rfl rfl (fun w9 u9 hp9 => ?_)
        obtain ⟨rfl, rfl⟩ := hp9
        change V X 0 0 (wM cy ma (up1 r 4 3) e g bf hy sv bu le pa) [some (.ref (ma 0)), some (.int (nI a)), some (.int (nI b))] [.int (nI 0)] 50
        have e9 : oBuy v (nI a) (nI b) = ((-3), v) := by unfold oBuy; rw [if_pos c4, if_pos c20, if_neg (by rw [na, nb]; omega)]
        exact r_ireturn hX hE dX6_buys_50 rfl (PM_bad e9 (by decide) (by decide) hR rfl) (by decide) (by decide)
    · refine r_aload_n (pc' := 24) hX dX6_buys_23 rfl rfl ?_
      refine r_iconst (pc' := 25) (v := nI 2) hX dX6_buys_24 rfl rfl ?_
      refine V_call0 (k' := 0) (n' := 0) (pc' := 28) hX (r_runV (As := [.int (nI 2)]) hX dX6_buys_25 k_X6_67 (fun l9 hl9 => cM_fails (by omega)) hG ⟨8, _, TX6, 16, List.mem_cons_self, rfl⟩ rfl rfl (Nat.le_of_ble_eq_true rfl) (by decide) (by decide) (by decide) (by decide)) rfl rfl rfl (fun w9 u9 hp9 => ?_)
      obtain ⟨rfl, rfl⟩ := hp9
      change V X 0 0 (wM cy ma (up1 r 4 2) e g bf hy sv bu le pa) [some (.ref (ma 0)), some (.int (nI a)), some (.int y)] [.int (nI 0)] 28
      have e9 : oBuy v (nI a) y = ((-2), v) := by unfold oBuy; rw [if_pos c4, if_neg c20]
      exact r_ireturn hX hE dX6_buys_28 rfl (PM_bad e9 (by decide) (by decide) hR rfl) (by decide) (by decide)
  · refine r_aload_n (pc' := 8) hX dX6_buys_7 rfl rfl ?_
    refine r_iconst (pc' := 9) (v := nI 1) hX dX6_buys_8 rfl rfl ?_
    refine V_call0 (k' := 0) (n' := 0) (pc' := 12) hX (r_runV (As := [.int (nI 1)]) hX dX6_buys_9 k_X6_67 (fun l9 hl9 => cM_fails (by omega)) hG ⟨8, _, TX6, 16, List.mem_cons_self, rfl⟩ rfl rfl (Nat.le_of_ble_eq_true rfl) (by decide) (by decide) (by decide) (by decide)) rfl rfl rfl (fun w9 u9 hp9 => ?_)
    obtain ⟨rfl, rfl⟩ := hp9
    change V X 0 0 (wM cy ma (up1 r 4 1) e g bf hy sv bu le pa) [some (.ref (ma 0)), some (.int x), some (.int y)] [.int (nI 0)] 12
    have e9 : oBuy v x y = ((-1), v) := by unfold oBuy; rw [if_neg c4]
    exact r_ireturn hX hE dX6_buys_12 rfl (PM_bad e9 (by decide) (by decide) hR rfl) (by decide) (by decide)

set_option maxRecDepth 20000 in
set_option maxHeartbeats 4000000 in
theorem cM_renews {l : Launch} {D : va_G} {cy : Nat → ClassId} {sa : Nat → Nat} {ma : Nat → Nat} {r : Nat → Nat} {e : Nat → Int32} {g bf hy sv bu le : Nat → Nat} {pa : Nat → Int32} {v : SV} {x : Int32} (hv : Wf v) (hR : Rr v g)  : MG l yX6_renews cX6_renews 3 (some .int) 2 0 0 (D, cy, sa) [.ref (ma 0), .int x] (wM cy ma r e g bf hy sv bu le pa) (PM (oReset v x) 1 0 0 0 0 (fun t q => wM cy ma (up1 r 4 t) e q bf hy sv bu le pa)) := by
  have hv0 := hv
  obtain ⟨wa, wm, wb, ws, wt, wc, wB, wR, wL, wK, wP⟩ := hv
  refine MG_by (own := RX6) (L := [some (.ref (ma 0)), some (.int x), none]) (by decide +kernel) rfl rfl (Nat.le_of_ble_eq_true rfl) 1 rfl (fun X hX hE hnL hG hcy hnm => ?_)
  refine r_aload_n (pc' := 1) hX dX6_renews_0 rfl rfl ?_
  refine r_iload_n (pc' := 2) hX dX6_renews_1 rfl rfl ?_
  refine V_call0 (k' := 0) (n' := 0) (pc' := 5) hX (r_runV (As := [.int x]) hX dX6_renews_2 k_X6_96 (fun l9 hl9 => cM_isMould hv0 hR) hG ⟨8, _, TX6, 16, List.mem_cons_self, rfl⟩ rfl rfl (Nat.le_of_ble_eq_true rfl) (by decide) (by decide) (by decide) (by decide)) rfl rfl rfl (fun w9 u9 hp9 => ?_)
  obtain ⟨rfl, rfl⟩ := hp9
  change V X 0 0 (wM cy ma r e g bf hy sv bu le pa) [some (.ref (ma 0)), some (.int x), none] [.int (bI (inR x (v 0 1)))] 5
  refine r_if_ne_B (tgt := 14) (pc' := 8) hX dX6_renews_5 (by decide) rfl (fun c5 => ?_) (fun c5 => ?_)
  · obtain ⟨a, ha, rfl⟩ := nat_of c5
    have ta : (nI a).toInt = (a : Int) := nI_I (by omega)
    have na : tn (nI a) = a := tn_nI (by omega)
    obtain ⟨-, l2⟩ := wL a (by omega)
    refine r_aload_n (pc' := 15) hX dX6_renews_14 rfl rfl ?_
    refine r_get (pc' := 18) (v := .ref (ma 1)) hX dX6_renews_15 f_X6_7 0 rfl rfl rfl ?_
    refine r_bipush (pc' := 20) (v := nI 43) hX dX6_renews_18 rfl rfl ?_
    refine r_iload_n (pc' := 21) hX dX6_renews_20 rfl rfl ?_
    refine r_iadd_N (pc' := 22) hX dX6_renews_21  rfl ?_
    refine r_iald_N (pc' := 23) hX dX6_renews_22 (by rw [hcy]) 1 rfl (by omega) (by decide) rfl ?_
    change V X 0 0 (wM cy ma r e g bf hy sv bu le pa) [some (.ref (ma 0)), some (.int (nI a)), none] [.int (nI (g (43 + a)))] 23
    rw [(hR.use (by omega))]
    refine r_istore_n (L' := [some (.ref (ma 0)), some (.int (nI a)), some (.int (nI (v 2 a)))]) (pc' := 24) hX dX6_renews_23 (nlt hnL (by decide)) rfl rfl rfl ?_
    refine r_aload_n (pc' := 25) hX dX6_renews_24 rfl rfl ?_
    refine r_get (pc' := 28) (v := .ref (ma 1)) hX dX6_renews_25 f_X6_7 0 rfl rfl rfl ?_
    refine r_bipush (pc' := 30) (v := nI 43) hX dX6_renews_28 rfl rfl ?_
    refine r_iload_n (pc' := 31) hX dX6_renews_30 rfl rfl ?_
    refine r_iadd_N (pc' := 32) hX dX6_renews_31  rfl ?_
    refine r_iconst (pc' := 33) (v := nI 0) hX dX6_renews_32 rfl rfl ?_
    refine r_iast_N (ws' := wM cy ma r e (up1 g (43 + a) 0) bf hy sv bu le pa) (pc' := 34) hX dX6_renews_33 (by rw [hcy]) 1 rfl (by omega) (by decide) rfl rfl ?_
    refine r_aload_n (pc' := 35) hX dX6_renews_34 rfl rfl ?_
    refine r_iload_n (pc' := 36) hX dX6_renews_35 rfl rfl ?_
    refine V_call0 (k' := 0) (n' := 0) (pc' := 39) hX (r_runV (As := [.int (nI (v 2 a))]) hX dX6_renews_36 k_X6_70 (fun l9 hl9 => cM_done) hG ⟨8, _, TX6, 16, List.mem_cons_self, rfl⟩ rfl rfl (Nat.le_of_ble_eq_true rfl) (by decide) (by decide) (by decide) (by decide)) rfl rfl rfl (fun w9 u9 hp9 => ?_)
    obtain ⟨rfl, rfl⟩ := hp9
    change V X 0 0 (wM cy ma (up1 r 4 0) e (up1 g (43 + a) 0) bf hy sv bu le pa) [some (.ref (ma 0)), some (.int (nI a)), some (.int (nI (v 2 a)))] [.int (nI (v 2 a))] 39
    have e9 : oReset v (nI a) = (nI (v 2 a), up2 v 2 a 0) := by unfold oReset; rw [if_pos c5, na]
    exact r_ireturn hX hE dX6_renews_39 rfl (PM_good e9 (by omega) (hR.p2 (k := a) (x := 0) (j := 43 + a) (by omega) rfl) rfl) (by decide) (by decide)
  · refine r_aload_n (pc' := 9) hX dX6_renews_8 rfl rfl ?_
    refine r_iconst (pc' := 10) (v := nI 1) hX dX6_renews_9 rfl rfl ?_
    refine V_call0 (k' := 0) (n' := 0) (pc' := 13) hX (r_runV (As := [.int (nI 1)]) hX dX6_renews_10 k_X6_67 (fun l9 hl9 => cM_fails (by omega)) hG ⟨8, _, TX6, 16, List.mem_cons_self, rfl⟩ rfl rfl (Nat.le_of_ble_eq_true rfl) (by decide) (by decide) (by decide) (by decide)) rfl rfl rfl (fun w9 u9 hp9 => ?_)
    obtain ⟨rfl, rfl⟩ := hp9
    change V X 0 0 (wM cy ma (up1 r 4 1) e g bf hy sv bu le pa) [some (.ref (ma 0)), some (.int x), none] [.int (nI 0)] 13
    have e9 : oReset v x = ((-1), v) := by unfold oReset; rw [if_neg c5]
    exact r_ireturn hX hE dX6_renews_13 rfl (PM_bad e9 (by decide) (by decide) hR rfl) (by decide) (by decide)

set_option maxRecDepth 20000 in
set_option maxHeartbeats 4000000 in
theorem cM_setsTol {l : Launch} {D : va_G} {cy : Nat → ClassId} {sa : Nat → Nat} {ma : Nat → Nat} {r : Nat → Nat} {e : Nat → Int32} {g bf hy sv bu le : Nat → Nat} {pa : Nat → Int32} {v : SV} {x : Int32} (hv : Wf v) (hR : Rr v g)  : MG l yX6_sets cX6_sets 6 (some .int) 1 0 0 (D, cy, sa) [.ref (ma 0), .int (nI 3), .int x, .int (nI 0), .int (nI 99)] (wM cy ma r e g bf hy sv bu le pa) (PM (oTol v x) 0 1 0 0 0 (fun t q => wM cy ma (up1 r 4 t) e q bf hy sv bu le pa)) := by
  have hv0 := hv
  obtain ⟨wa, wm, wb, ws, wt, wc, wB, wR, wL, wK, wP⟩ := hv
  refine MG_by (own := RX6) (L := [some (.ref (ma 0)), some (.int (nI 3)), some (.int x), some (.int (nI 0)), some (.int (nI 99)), none]) (by decide +kernel) rfl rfl (Nat.le_of_ble_eq_true rfl) 1 rfl (fun X hX hE hnL hG hcy hnm => ?_)
  refine r_iload_n (pc' := 1) hX dX6_sets_0 rfl rfl ?_
  refine r_iload_n (pc' := 2) hX dX6_sets_1 rfl rfl ?_
  refine r_iload (pc' := 4) hX dX6_sets_2 rfl rfl ?_
  refine V_calln (k' := 0) (n' := 0) (pc' := 7) hX (r_runS (As := [.int x, .int (nI 0), .int (nI 99)]) hX dX6_sets_4 k_X6_49 (fun l9 hl9 => cM_in (x := x) (y := nI 0) (z := nI 99)) hG rfl rfl (Nat.le_of_ble_eq_true rfl) (by decide) (by decide) (by decide) (by decide)) rfl rfl rfl (fun w9 hp9 => ?_)
  obtain rfl := hp9
  rw [bI_congr (q := 0 ≤ x.toInt ∧ x.toInt ≤ 99) (by rw [nI_I (a := 0) (by omega), nI_I (a := 99) (by omega)]; omega)]
  change V X 0 0 (wM cy ma r e g bf hy sv bu le pa) [some (.ref (ma 0)), some (.int (nI 3)), some (.int x), some (.int (nI 0)), some (.int (nI 99)), none] [.int (bI (0 ≤ x.toInt ∧ x.toInt ≤ 99))] 7
  refine r_if_ne_B (tgt := 16) (pc' := 10) hX dX6_sets_7 (by decide) rfl (fun c7 => ?_) (fun c7 => ?_)
  · obtain ⟨a, ha, rfl⟩ := nat_of (x := x) (n := 100) ⟨by omega, by omega⟩
    have ta : (nI a).toInt = (a : Int) := nI_I (by omega)
    have na : tn (nI a) = a := tn_nI (by omega)
    refine r_aload_n (pc' := 17) hX dX6_sets_16 rfl rfl ?_
    refine r_get (pc' := 20) (v := .ref (ma 1)) hX dX6_sets_17 f_X6_7 0 rfl rfl rfl ?_
    refine r_iload_n (pc' := 21) hX dX6_sets_20 rfl rfl ?_
    refine r_iald_N (pc' := 22) hX dX6_sets_21 (by rw [hcy]) 1 rfl (by omega) (by decide) rfl ?_
    change V X 0 0 (wM cy ma r e g bf hy sv bu le pa) [some (.ref (ma 0)), some (.int (nI 3)), some (.int (nI a)), some (.int (nI 0)), some (.int (nI 99)), none] [.int (nI (g 3))] 22
    rw [hR.tol]
    refine r_istore (L' := [some (.ref (ma 0)), some (.int (nI 3)), some (.int (nI a)), some (.int (nI 0)), some (.int (nI 99)), some (.int (nI (v 0 2)))]) (pc' := 24) hX dX6_sets_22 (nlt hnL (by decide)) rfl rfl rfl ?_
    refine r_aload_n (pc' := 25) hX dX6_sets_24 rfl rfl ?_
    refine r_get (pc' := 28) (v := .ref (ma 1)) hX dX6_sets_25 f_X6_7 0 rfl rfl rfl ?_
    refine r_iload_n (pc' := 29) hX dX6_sets_28 rfl rfl ?_
    refine r_iload_n (pc' := 30) hX dX6_sets_29 rfl rfl ?_
    refine r_iast_N (ws' := wM cy ma r e (up1 g 3 a) bf hy sv bu le pa) (pc' := 31) hX dX6_sets_30 (by rw [hcy]) 1 rfl (by omega) (by decide) rfl rfl ?_
    refine r_aload_n (pc' := 32) hX dX6_sets_31 rfl rfl ?_
    refine r_iload (pc' := 34) hX dX6_sets_32 rfl rfl ?_
    refine V_call0 (k' := 0) (n' := 0) (pc' := 37) hX (r_runV (As := [.int (nI (v 0 2))]) hX dX6_sets_34 k_X6_70 (fun l9 hl9 => cM_done) hG ⟨8, _, TX6, 16, List.mem_cons_self, rfl⟩ rfl rfl (Nat.le_of_ble_eq_true rfl) (by decide) (by decide) (by decide) (by decide)) rfl rfl rfl (fun w9 u9 hp9 => ?_)
    obtain ⟨rfl, rfl⟩ := hp9
    change V X 0 0 (wM cy ma (up1 r 4 0) e (up1 g 3 a) bf hy sv bu le pa) [some (.ref (ma 0)), some (.int (nI 3)), some (.int (nI a)), some (.int (nI 0)), some (.int (nI 99)), some (.int (nI (v 0 2)))] [.int (nI (v 0 2))] 37
    have e9 : oTol v (nI a) = (nI (v 0 2), up2 v 0 2 a) := by unfold oTol; rw [if_pos c7, na]
    exact r_ireturn hX hE dX6_sets_37 rfl (PM_good e9 (by omega) (hR.p0 (k := 2) (x := a) (j := 3) (by omega) (by omega) rfl) rfl) (by decide) (by decide)
  · refine r_aload_n (pc' := 11) hX dX6_sets_10 rfl rfl ?_
    refine r_iconst (pc' := 12) (v := nI 1) hX dX6_sets_11 rfl rfl ?_
    refine V_call0 (k' := 0) (n' := 0) (pc' := 15) hX (r_runV (As := [.int (nI 1)]) hX dX6_sets_12 k_X6_67 (fun l9 hl9 => cM_fails (by omega)) hG ⟨8, _, TX6, 16, List.mem_cons_self, rfl⟩ rfl rfl (Nat.le_of_ble_eq_true rfl) (by decide) (by decide) (by decide) (by decide)) rfl rfl rfl (fun w9 u9 hp9 => ?_)
    obtain ⟨rfl, rfl⟩ := hp9
    change V X 0 0 (wM cy ma (up1 r 4 1) e g bf hy sv bu le pa) [some (.ref (ma 0)), some (.int (nI 3)), some (.int x), some (.int (nI 0)), some (.int (nI 99)), none] [.int (nI 0)] 15
    have e9 : oTol v x = ((-2), v) := by unfold oTol; rw [if_neg c7]
    exact r_ireturn hX hE dX6_sets_15 rfl (PM_bad e9 (by decide) (by decide) hR rfl) (by decide) (by decide)

set_option maxRecDepth 20000 in
set_option maxHeartbeats 4000000 in
theorem cM_setsStep {l : Launch} {D : va_G} {cy : Nat → ClassId} {sa : Nat → Nat} {ma : Nat → Nat} {r : Nat → Nat} {e : Nat → Int32} {g bf hy sv bu le : Nat → Nat} {pa : Nat → Int32} {v : SV} {x : Int32} (hv : Wf v) (hR : Rr v g)  : MG l yX6_sets cX6_sets 6 (some .int) 1 0 0 (D, cy, sa) [.ref (ma 0), .int (nI 4), .int x, .int (nI 1), .int (nI 5)] (wM cy ma r e g bf hy sv bu le pa) (PM (oStep v x) 0 1 0 0 0 (fun t q => wM cy ma (up1 r 4 t) e q bf hy sv bu le pa)) := by
  have hv0 := hv
  obtain ⟨wa, wm, wb, ws, wt, wc, wB, wR, wL, wK, wP⟩ := hv
  refine MG_by (own := RX6) (L := [some (.ref (ma 0)), some (.int (nI 4)), some (.int x), some (.int (nI 1)), some (.int (nI 5)), none]) (by decide +kernel) rfl rfl (Nat.le_of_ble_eq_true rfl) 1 rfl (fun X hX hE hnL hG hcy hnm => ?_)
  refine r_iload_n (pc' := 1) hX dX6_sets_0 rfl rfl ?_
  refine r_iload_n (pc' := 2) hX dX6_sets_1 rfl rfl ?_
  refine r_iload (pc' := 4) hX dX6_sets_2 rfl rfl ?_
  refine V_calln (k' := 0) (n' := 0) (pc' := 7) hX (r_runS (As := [.int x, .int (nI 1), .int (nI 5)]) hX dX6_sets_4 k_X6_49 (fun l9 hl9 => cM_in (x := x) (y := nI 1) (z := nI 5)) hG rfl rfl (Nat.le_of_ble_eq_true rfl) (by decide) (by decide) (by decide) (by decide)) rfl rfl rfl (fun w9 hp9 => ?_)
  obtain rfl := hp9
  rw [bI_congr (q := 1 ≤ x.toInt ∧ x.toInt ≤ 5) (by rw [nI_I (a := 1) (by omega), nI_I (a := 5) (by omega)]; omega)]
  change V X 0 0 (wM cy ma r e g bf hy sv bu le pa) [some (.ref (ma 0)), some (.int (nI 4)), some (.int x), some (.int (nI 1)), some (.int (nI 5)), none] [.int (bI (1 ≤ x.toInt ∧ x.toInt ≤ 5))] 7
  refine r_if_ne_B (tgt := 16) (pc' := 10) hX dX6_sets_7 (by decide) rfl (fun c7 => ?_) (fun c7 => ?_)
  · obtain ⟨a, ha, rfl⟩ := nat_of (x := x) (n := 6) ⟨by omega, by omega⟩
    have ta : (nI a).toInt = (a : Int) := nI_I (by omega)
    have na : tn (nI a) = a := tn_nI (by omega)
    refine r_aload_n (pc' := 17) hX dX6_sets_16 rfl rfl ?_
    refine r_get (pc' := 20) (v := .ref (ma 1)) hX dX6_sets_17 f_X6_7 0 rfl rfl rfl ?_
    refine r_iload_n (pc' := 21) hX dX6_sets_20 rfl rfl ?_
    refine r_iald_N (pc' := 22) hX dX6_sets_21 (by rw [hcy]) 1 rfl (by omega) (by decide) rfl ?_
    change V X 0 0 (wM cy ma r e g bf hy sv bu le pa) [some (.ref (ma 0)), some (.int (nI 4)), some (.int (nI a)), some (.int (nI 1)), some (.int (nI 5)), none] [.int (nI (g 4))] 22
    rw [hR.stp]
    refine r_istore (L' := [some (.ref (ma 0)), some (.int (nI 4)), some (.int (nI a)), some (.int (nI 1)), some (.int (nI 5)), some (.int (nI (v 0 3)))]) (pc' := 24) hX dX6_sets_22 (nlt hnL (by decide)) rfl rfl rfl ?_
    refine r_aload_n (pc' := 25) hX dX6_sets_24 rfl rfl ?_
    refine r_get (pc' := 28) (v := .ref (ma 1)) hX dX6_sets_25 f_X6_7 0 rfl rfl rfl ?_
    refine r_iload_n (pc' := 29) hX dX6_sets_28 rfl rfl ?_
    refine r_iload_n (pc' := 30) hX dX6_sets_29 rfl rfl ?_
    refine r_iast_N (ws' := wM cy ma r e (up1 g 4 a) bf hy sv bu le pa) (pc' := 31) hX dX6_sets_30 (by rw [hcy]) 1 rfl (by omega) (by decide) rfl rfl ?_
    refine r_aload_n (pc' := 32) hX dX6_sets_31 rfl rfl ?_
    refine r_iload (pc' := 34) hX dX6_sets_32 rfl rfl ?_
    refine V_call0 (k' := 0) (n' := 0) (pc' := 37) hX (r_runV (As := [.int (nI (v 0 3))]) hX dX6_sets_34 k_X6_70 (fun l9 hl9 => cM_done) hG ⟨8, _, TX6, 16, List.mem_cons_self, rfl⟩ rfl rfl (Nat.le_of_ble_eq_true rfl) (by decide) (by decide) (by decide) (by decide)) rfl rfl rfl (fun w9 u9 hp9 => ?_)
    obtain ⟨rfl, rfl⟩ := hp9
    change V X 0 0 (wM cy ma (up1 r 4 0) e (up1 g 4 a) bf hy sv bu le pa) [some (.ref (ma 0)), some (.int (nI 4)), some (.int (nI a)), some (.int (nI 1)), some (.int (nI 5)), some (.int (nI (v 0 3)))] [.int (nI (v 0 3))] 37
    have e9 : oStep v (nI a) = (nI (v 0 3), up2 v 0 3 a) := by unfold oStep; rw [if_pos c7, na]
    exact r_ireturn hX hE dX6_sets_37 rfl (PM_good e9 (by omega) (hR.p0 (k := 3) (x := a) (j := 4) (by omega) (by omega) rfl) rfl) (by decide) (by decide)
  · refine r_aload_n (pc' := 11) hX dX6_sets_10 rfl rfl ?_
    refine r_iconst (pc' := 12) (v := nI 1) hX dX6_sets_11 rfl rfl ?_
    refine V_call0 (k' := 0) (n' := 0) (pc' := 15) hX (r_runV (As := [.int (nI 1)]) hX dX6_sets_12 k_X6_67 (fun l9 hl9 => cM_fails (by omega)) hG ⟨8, _, TX6, 16, List.mem_cons_self, rfl⟩ rfl rfl (Nat.le_of_ble_eq_true rfl) (by decide) (by decide) (by decide) (by decide)) rfl rfl rfl (fun w9 u9 hp9 => ?_)
    obtain ⟨rfl, rfl⟩ := hp9
    change V X 0 0 (wM cy ma (up1 r 4 1) e g bf hy sv bu le pa) [some (.ref (ma 0)), some (.int (nI 4)), some (.int x), some (.int (nI 1)), some (.int (nI 5)), none] [.int (nI 0)] 15
    have e9 : oStep v x = ((-2), v) := by unfold oStep; rw [if_neg c7]
    exact r_ireturn hX hE dX6_sets_15 rfl (PM_bad e9 (by decide) (by decide) hR rfl) (by decide) (by decide)

set_option maxRecDepth 20000 in
set_option maxHeartbeats 4000000 in
theorem cM_hasMetal {l : Launch} {D : va_G} {cy : Nat → ClassId} {sa : Nat → Nat} {ma : Nat → Nat} {r : Nat → Nat} {e : Nat → Int32} {g bf hy sv bu le : Nat → Nat} {pa : Nat → Int32} {v : SV} (hv : Wf v) (hR : Rr v g) {a n : Nat} (ha : a < v 0 0) (hn : n ≤ 100000) : MG l yX6_hasMetal cX6_hasMetal 5 (some .boolean) 1 0 0 (D, cy, sa) [.ref (ma 0), .int (nI a), .int (nI n)] (wM cy ma r e g bf hy sv bu le pa) (fun w u => w = some (.int (bI (hasN v a n 3))) ∧ u = wM cy ma r e g bf hy sv bu le pa) := by
  have hv0 := hv
  obtain ⟨wa, wm, wb, ws, wt, wc, wB, wR, wL, wK, wP⟩ := hv
  refine MG_by (own := RX6) (L := [some (.ref (ma 0)), some (.int (nI a)), some (.int (nI n)), none, none]) (by decide +kernel) rfl rfl (Nat.le_of_ble_eq_true rfl) 2 rfl (fun X hX hE hnL hG hcy hnm => ?_)
  refine r_iconst (pc' := 1) (v := nI 1) hX dX6_hasMetal_0 rfl rfl ?_
  refine r_istore_n (L' := [some (.ref (ma 0)), some (.int (nI a)), some (.int (nI n)), some (.int (nI 1)), none]) (pc' := 2) hX dX6_hasMetal_1 (nlt hnL (by decide)) rfl rfl rfl ?_
  refine r_iconst (pc' := 3) (v := nI 0) hX dX6_hasMetal_2 rfl rfl ?_
  refine r_istore (L' := [some (.ref (ma 0)), some (.int (nI a)), some (.int (nI n)), some (.int (nI 1)), some (.int (nI 0))]) (pc' := 5) hX dX6_hasMetal_3 (nlt hnL (by decide)) rfl rfl rfl ?_
  have loop5 : ∀ (n9 : Nat) (t : Nat) (z : Int32), 3 - t < n9 → (t ≤ 3) → (z = bI (∀ m, m < t → n * v (7 + a) m ≤ v 3 m)) → V X 0 0 (wM cy ma r e g bf hy sv bu le pa) [some (.ref (ma 0)), some (.int (nI a)), some (.int (nI n)), some (.int z), some (.int (nI t))] [] 5 := by
    intro n9
    induction n9 with
    | zero => intro t z hm; exact absurd hm (Nat.not_lt_zero _)
    | succ n9 ih5 =>
      intro t z hm ht hz
      refine r_iload (pc' := 7) hX dX6_hasMetal_5 rfl rfl ?_
      refine r_iconst (pc' := 8) (v := nI 3) hX dX6_hasMetal_7 rfl rfl ?_
      refine r_icmp_ge_N (tgt := 48) (pc' := 11) hX dX6_hasMetal_8 (by decide) rfl (by omega) (by omega) (fun c8 => ?_) (fun c8 => ?_)
      · subst hz
        refine r_iload_n (pc' := 49) hX dX6_hasMetal_48 rfl rfl ?_
        exact r_zreturn hX hE dX6_hasMetal_49 rfl (bI_nar) ⟨rI (bI_congr (by rw [show t = 3 by omega])), rfl⟩ (by decide) (by decide)
      · subst hz
        refine r_iload_n (pc' := 12) hX dX6_hasMetal_11 rfl rfl ?_
        refine r_if_eq_B (tgt := 40) (pc' := 15) hX dX6_hasMetal_12 (by decide) rfl (fun c12 => ?_) (fun c12 => ?_)
        · refine r_iconst (pc' := 41) (v := nI 0) hX dX6_hasMetal_40 rfl rfl ?_
          refine r_istore_n (L' := [some (.ref (ma 0)), some (.int (nI a)), some (.int (nI n)), some (.int (nI 0)), some (.int (nI t))]) (pc' := 42) hX dX6_hasMetal_41 (nlt hnL (by decide)) rfl rfl rfl ?_
          refine r_iinc_N (b := 1) (L' := [some (.ref (ma 0)), some (.int (nI a)), some (.int (nI n)), some (.int (nI 0)), some (.int (nI (t + 1)))]) (pc' := 45) hX dX6_hasMetal_42 rfl (nlt hnL (by decide)) rfl rfl rfl ?_
          refine r_goto (tgt := 5) hX dX6_hasMetal_45 (by decide) ?_
          exact ih5 (t + 1) (nI 0) (by omega) (by omega) (bI_0 (fun q => by first | exact c12 (fun m hm => q m (by omega)) | (have := q t (Nat.lt_succ_self _); omega)))
        · have r0 := wR a t (by omega) (by omega)
          have k0 := wK t (by omega)
          have r9 := Nat.mul_le_mul hn r0
          refine r_aload_n (pc' := 16) hX dX6_hasMetal_15 rfl rfl ?_
          refine r_get (pc' := 19) (v := .ref (ma 1)) hX dX6_hasMetal_16 f_X6_7 0 rfl rfl rfl ?_
          refine r_iconst (pc' := 20) (v := nI 0) hX dX6_hasMetal_19 rfl rfl ?_
          refine r_iload (pc' := 22) hX dX6_hasMetal_20 rfl rfl ?_
          refine r_iadd_N (pc' := 23) hX dX6_hasMetal_22  rfl ?_
          refine r_iald_N (pc' := 24) hX dX6_hasMetal_23 (by rw [hcy]) 1 rfl (by omega) (by decide) rfl ?_
          change V X 0 0 (wM cy ma r e g bf hy sv bu le pa) [some (.ref (ma 0)), some (.int (nI a)), some (.int (nI n)), some (.int (bI (∀ m, m < t → n * v (7 + a) m ≤ v 3 m))), some (.int (nI t))] [.int (nI (g (0 + t)))] 24
          rw [(hR.sto (by omega))]
          refine r_iload_n (pc' := 25) hX dX6_hasMetal_24 rfl rfl ?_
          refine r_aload_n (pc' := 26) hX dX6_hasMetal_25 rfl rfl ?_
          refine r_iload_n (pc' := 27) hX dX6_hasMetal_26 rfl rfl ?_
          refine r_iload (pc' := 29) hX dX6_hasMetal_27 rfl rfl ?_
          refine V_call0 (k' := 0) (n' := 0) (pc' := 32) hX (r_runV (As := [.int (nI a), .int (nI t)]) hX dX6_hasMetal_29 k_X6_53 (fun l9 hl9 => cM_part hR (by omega) (by omega)) hG ⟨8, _, TX6, 16, List.mem_cons_self, rfl⟩ rfl rfl (Nat.le_of_ble_eq_true rfl) (by decide) (by decide) (by decide) (by decide)) rfl rfl rfl (fun w9 u9 hp9 => ?_)
          obtain ⟨rfl, rfl⟩ := hp9
          change V X 0 0 (wM cy ma r e g bf hy sv bu le pa) [some (.ref (ma 0)), some (.int (nI a)), some (.int (nI n)), some (.int (bI (∀ m, m < t → n * v (7 + a) m ≤ v 3 m))), some (.int (nI t))] [.int (nI (v (7 + a) t)), .int (nI n), .int (nI (v 3 t))] 32
          refine r_imul_N (pc' := 33) hX dX6_hasMetal_32  rfl ?_
          refine r_icmp_lt_N (tgt := 40) (pc' := 36) hX dX6_hasMetal_33 (by decide) rfl (by omega) (by omega) (fun c33 => ?_) (fun c33 => ?_)
          · refine r_iconst (pc' := 41) (v := nI 0) hX dX6_hasMetal_40 rfl rfl ?_
            refine r_istore_n (L' := [some (.ref (ma 0)), some (.int (nI a)), some (.int (nI n)), some (.int (nI 0)), some (.int (nI t))]) (pc' := 42) hX dX6_hasMetal_41 (nlt hnL (by decide)) rfl rfl rfl ?_
            refine r_iinc_N (b := 1) (L' := [some (.ref (ma 0)), some (.int (nI a)), some (.int (nI n)), some (.int (nI 0)), some (.int (nI (t + 1)))]) (pc' := 45) hX dX6_hasMetal_42 rfl (nlt hnL (by decide)) rfl rfl rfl ?_
            refine r_goto (tgt := 5) hX dX6_hasMetal_45 (by decide) ?_
            exact ih5 (t + 1) (nI 0) (by omega) (by omega) (bI_0 (fun q => by first | exact c12 (fun m hm => q m (by omega)) | (have := q t (Nat.lt_succ_self _); omega)))
          · refine r_iconst (pc' := 37) (v := nI 1) hX dX6_hasMetal_36 rfl rfl ?_
            refine r_goto (tgt := 41) hX dX6_hasMetal_37 (by decide) ?_
            refine r_istore_n (L' := [some (.ref (ma 0)), some (.int (nI a)), some (.int (nI n)), some (.int (nI 1)), some (.int (nI t))]) (pc' := 42) hX dX6_hasMetal_41 (nlt hnL (by decide)) rfl rfl rfl ?_
            refine r_iinc_N (b := 1) (L' := [some (.ref (ma 0)), some (.int (nI a)), some (.int (nI n)), some (.int (nI 1)), some (.int (nI (t + 1)))]) (pc' := 45) hX dX6_hasMetal_42 rfl (nlt hnL (by decide)) rfl rfl rfl ?_
            refine r_goto (tgt := 5) hX dX6_hasMetal_45 (by decide) ?_
            exact ih5 (t + 1) (nI 1) (by omega) (by omega) (bI_1 (fun m hm => (Nat.lt_succ_iff_lt_or_eq.mp hm).elim (c12 m) (fun e9 => by rw [e9]; omega)))
  exact loop5 _ 0 (nI 1) (Nat.lt_succ_self _) (by omega) (bI_1 (fun m hm => absurd hm (Nat.not_lt_zero _)))

set_option maxRecDepth 20000 in
set_option maxHeartbeats 4000000 in
theorem cM_casts {l : Launch} {D : va_G} {cy : Nat → ClassId} {sa : Nat → Nat} {ma : Nat → Nat} {r : Nat → Nat} {e : Nat → Int32} {g bf hy sv bu le : Nat → Nat} {pa : Nat → Int32} {v : SV} {x y z : Int32} (hv : Wf v) (hR : Rr v g)  : MG l yX6_casts cX6_casts 6 (some .int) 2 0 0 (D, cy, sa) [.ref (ma 0), .int x, .int y, .int z] (wM cy ma r e g bf hy sv bu le pa) (PM (oPour v x y z) 1 2 3 4 0 (fun t q => wM cy ma (up1 r 4 t) e q bf hy sv bu le pa)) := by
  have hv0 := hv
  obtain ⟨wa, wm, wb, ws, wt, wc, wB, wR, wL, wK, wP⟩ := hv
  refine MG_by (own := RX6) (L := [some (.ref (ma 0)), some (.int x), some (.int y), some (.int z), none, none]) (by decide +kernel) rfl rfl (Nat.le_of_ble_eq_true rfl) 2 rfl (fun X hX hE hnL hG hcy hnm => ?_)
  refine r_aload_n (pc' := 1) hX dX6_casts_0 rfl rfl ?_
  refine r_iload_n (pc' := 2) hX dX6_casts_1 rfl rfl ?_
  refine V_call0 (k' := 0) (n' := 0) (pc' := 5) hX (r_runV (As := [.int x]) hX dX6_casts_2 k_X6_93 (fun l9 hl9 => cM_isAlloy hv0 hR) hG ⟨8, _, TX6, 16, List.mem_cons_self, rfl⟩ rfl rfl (Nat.le_of_ble_eq_true rfl) (by decide) (by decide) (by decide) (by decide)) rfl rfl rfl (fun w9 u9 hp9 => ?_)
  obtain ⟨rfl, rfl⟩ := hp9
  change V X 0 0 (wM cy ma r e g bf hy sv bu le pa) [some (.ref (ma 0)), some (.int x), some (.int y), some (.int z), none, none] [.int (bI (inR x (v 0 0)))] 5
  refine r_if_eq_B (tgt := 16) (pc' := 8) hX dX6_casts_5 (by decide) rfl (fun c5 => ?_) (fun c5 => ?_)
  · refine r_aload_n (pc' := 17) hX dX6_casts_16 rfl rfl ?_
    refine r_iconst (pc' := 18) (v := nI 1) hX dX6_casts_17 rfl rfl ?_
    refine V_call0 (k' := 0) (n' := 0) (pc' := 21) hX (r_runV (As := [.int (nI 1)]) hX dX6_casts_18 k_X6_67 (fun l9 hl9 => cM_fails (by omega)) hG ⟨8, _, TX6, 16, List.mem_cons_self, rfl⟩ rfl rfl (Nat.le_of_ble_eq_true rfl) (by decide) (by decide) (by decide) (by decide)) rfl rfl rfl (fun w9 u9 hp9 => ?_)
    obtain ⟨rfl, rfl⟩ := hp9
    change V X 0 0 (wM cy ma (up1 r 4 1) e g bf hy sv bu le pa) [some (.ref (ma 0)), some (.int x), some (.int y), some (.int z), none, none] [.int (nI 0)] 21
    have e9 : oPour v x y z = ((-1), v) := by unfold oPour; rw [if_neg (by rintro ⟨q1, q2⟩; first | exact c5 q1 | exact c13 q2)]
    exact r_ireturn hX hE dX6_casts_21 rfl (PM_bad e9 (by decide) (by decide) hR rfl) (by decide) (by decide)
  · obtain ⟨a, ha, rfl⟩ := nat_of c5
    have ta : (nI a).toInt = (a : Int) := nI_I (by omega)
    have na : tn (nI a) = a := tn_nI (by omega)
    refine r_aload_n (pc' := 9) hX dX6_casts_8 rfl rfl ?_
    refine r_iload_n (pc' := 10) hX dX6_casts_9 rfl rfl ?_
    refine V_call0 (k' := 0) (n' := 0) (pc' := 13) hX (r_runV (As := [.int y]) hX dX6_casts_10 k_X6_96 (fun l9 hl9 => cM_isMould hv0 hR) hG ⟨8, _, TX6, 16, List.mem_cons_self, rfl⟩ rfl rfl (Nat.le_of_ble_eq_true rfl) (by decide) (by decide) (by decide) (by decide)) rfl rfl rfl (fun w9 u9 hp9 => ?_)
    obtain ⟨rfl, rfl⟩ := hp9
    change V X 0 0 (wM cy ma r e g bf hy sv bu le pa) [some (.ref (ma 0)), some (.int (nI a)), some (.int y), some (.int z), none, none] [.int (bI (inR y (v 0 1)))] 13
    refine r_if_ne_B (tgt := 22) (pc' := 16) hX dX6_casts_13 (by decide) rfl (fun c13 => ?_) (fun c13 => ?_)
    · obtain ⟨m, hm, rfl⟩ := nat_of c13
      have tm : (nI m).toInt = (m : Int) := nI_I (by omega)
      have nm : tn (nI m) = m := tn_nI (by omega)
      refine r_iload_n (pc' := 23) hX dX6_casts_22 rfl rfl ?_
      refine r_iconst (pc' := 24) (v := nI 1) hX dX6_casts_23 rfl rfl ?_
      refine r_bipush (pc' := 26) (v := nI 9) hX dX6_casts_24 rfl rfl ?_
      refine V_calln (k' := 0) (n' := 0) (pc' := 29) hX (r_runS (As := [.int z, .int (nI 1), .int (nI 9)]) hX dX6_casts_26 k_X6_49 (fun l9 hl9 => cM_in (x := z) (y := nI 1) (z := nI 9)) hG rfl rfl (Nat.le_of_ble_eq_true rfl) (by decide) (by decide) (by decide) (by decide)) rfl rfl rfl (fun w9 hp9 => ?_)
      obtain rfl := hp9
      rw [bI_congr (q := 1 ≤ z.toInt ∧ z.toInt ≤ 9) (by rw [nI_I (a := 1) (by omega), nI_I (a := 9) (by omega)]; omega)]
      change V X 0 0 (wM cy ma r e g bf hy sv bu le pa) [some (.ref (ma 0)), some (.int (nI a)), some (.int (nI m)), some (.int z), none, none] [.int (bI (1 ≤ z.toInt ∧ z.toInt ≤ 9))] 29
      refine r_if_ne_B (tgt := 38) (pc' := 32) hX dX6_casts_29 (by decide) rfl (fun c29 => ?_) (fun c29 => ?_)
      · obtain ⟨bw, hbw, rfl⟩ := nat_of (x := z) (n := 10) ⟨by omega, by omega⟩
        have tbw : (nI bw).toInt = (bw : Int) := nI_I (by omega)
        have nbw : tn (nI bw) = bw := tn_nI (by omega)
        obtain ⟨-, l2⟩ := wL m (by omega)
        refine r_aload_n (pc' := 39) hX dX6_casts_38 rfl rfl ?_
        refine r_get (pc' := 42) (v := .ref (ma 1)) hX dX6_casts_39 f_X6_7 0 rfl rfl rfl ?_
        refine r_bipush (pc' := 44) (v := nI 7) hX dX6_casts_42 rfl rfl ?_
        refine r_iald_N (pc' := 45) hX dX6_casts_44 (by rw [hcy]) 1 rfl (by omega) (by decide) rfl ?_
        change V X 0 0 (wM cy ma r e g bf hy sv bu le pa) [some (.ref (ma 0)), some (.int (nI a)), some (.int (nI m)), some (.int (nI bw)), none, none] [.int (nI (g 7))] 45
        rw [hR.bat]
        refine r_istore (L' := [some (.ref (ma 0)), some (.int (nI a)), some (.int (nI m)), some (.int (nI bw)), some (.int (nI (v 0 4))), none]) (pc' := 47) hX dX6_casts_45 (nlt hnL (by decide)) rfl rfl rfl ?_
        refine r_iload (pc' := 49) hX dX6_casts_47 rfl rfl ?_
        refine r_bipush (pc' := 51) (v := nI 8) hX dX6_casts_49 rfl rfl ?_
        refine r_icmp_eq_N (tgt := 70) (pc' := 54) hX dX6_casts_51 (by decide) rfl (by omega) (by omega) (fun c51 => ?_) (fun c51 => ?_)
        · refine r_aload_n (pc' := 71) hX dX6_casts_70 rfl rfl ?_
          refine r_iconst (pc' := 72) (v := nI 3) hX dX6_casts_71 rfl rfl ?_
          refine V_call0 (k' := 0) (n' := 0) (pc' := 75) hX (r_runV (As := [.int (nI 3)]) hX dX6_casts_72 k_X6_67 (fun l9 hl9 => cM_fails (by omega)) hG ⟨8, _, TX6, 16, List.mem_cons_self, rfl⟩ rfl rfl (Nat.le_of_ble_eq_true rfl) (by decide) (by decide) (by decide) (by decide)) rfl rfl rfl (fun w9 u9 hp9 => ?_)
          obtain ⟨rfl, rfl⟩ := hp9
          change V X 0 0 (wM cy ma (up1 r 4 3) e g bf hy sv bu le pa) [some (.ref (ma 0)), some (.int (nI a)), some (.int (nI m)), some (.int (nI bw)), some (.int (nI (v 0 4))), none] [.int (nI 0)] 75
          have e9 : oPour v (nI a) (nI m) (nI bw) = ((-3), v) := by unfold oPour; rw [if_pos ⟨c5, c13⟩, if_pos c29, if_neg (by rw [nm, nbw]; omega)]
          exact r_ireturn hX hE dX6_casts_75 rfl (PM_bad e9 (by decide) (by decide) hR rfl) (by decide) (by decide)
        · refine r_aload_n (pc' := 55) hX dX6_casts_54 rfl rfl ?_
          refine r_get (pc' := 58) (v := .ref (ma 1)) hX dX6_casts_55 f_X6_7 0 rfl rfl rfl ?_
          refine r_bipush (pc' := 60) (v := nI 43) hX dX6_casts_58 rfl rfl ?_
          refine r_iload_n (pc' := 61) hX dX6_casts_60 rfl rfl ?_
          refine r_iadd_N (pc' := 62) hX dX6_casts_61  rfl ?_
          refine r_iald_N (pc' := 63) hX dX6_casts_62 (by rw [hcy]) 1 rfl (by omega) (by decide) rfl ?_
          change V X 0 0 (wM cy ma r e g bf hy sv bu le pa) [some (.ref (ma 0)), some (.int (nI a)), some (.int (nI m)), some (.int (nI bw)), some (.int (nI (v 0 4))), none] [.int (nI (g (43 + m)))] 63
          rw [(hR.use (by omega))]
          refine r_iload_n (pc' := 64) hX dX6_casts_63 rfl rfl ?_
          refine r_iadd_N (pc' := 65) hX dX6_casts_64  rfl ?_
          refine r_bipush (pc' := 67) (v := nI 20) hX dX6_casts_65 rfl rfl ?_
          refine r_icmp_le_N (tgt := 76) (pc' := 70) hX dX6_casts_67 (by decide) rfl (by omega) (by omega) (fun c67 => ?_) (fun c67 => ?_)
          · refine r_aload_n (pc' := 77) hX dX6_casts_76 rfl rfl ?_
            refine r_iload_n (pc' := 78) hX dX6_casts_77 rfl rfl ?_
            refine r_iload_n (pc' := 79) hX dX6_casts_78 rfl rfl ?_
            refine V_call0 (k' := 0) (n' := 0) (pc' := 82) hX (r_runV (As := [.int (nI a), .int (nI bw)]) hX dX6_casts_79 k_X6_99 (fun l9 hl9 => cM_hasMetal hv0 hR (by omega) (by omega)) hG ⟨8, _, TX6, 16, List.mem_cons_self, rfl⟩ rfl rfl (Nat.le_of_ble_eq_true rfl) (by decide) (by decide) (by decide) (by decide)) rfl rfl rfl (fun w9 u9 hp9 => ?_)
            obtain ⟨rfl, rfl⟩ := hp9
            change V X 0 0 (wM cy ma r e g bf hy sv bu le pa) [some (.ref (ma 0)), some (.int (nI a)), some (.int (nI m)), some (.int (nI bw)), some (.int (nI (v 0 4))), none] [.int (bI (hasN v a bw 3))] 82
            refine r_if_ne_B (tgt := 91) (pc' := 85) hX dX6_casts_82 (by decide) rfl (fun c82 => ?_) (fun c82 => ?_)
            · have h49 : v 0 4 < 8 := by omega
              have hst9 : ∀ j, j < 3 → bw * v (7 + a) j ≤ v 3 j := c82
              refine r_iconst (pc' := 92) (v := nI 0) hX dX6_casts_91 rfl rfl ?_
              refine r_istore (L' := [some (.ref (ma 0)), some (.int (nI a)), some (.int (nI m)), some (.int (nI bw)), some (.int (nI (v 0 4))), some (.int (nI 0))]) (pc' := 94) hX dX6_casts_92 (nlt hnL (by decide)) rfl rfl rfl ?_
              have loop94 : ∀ (n9 : Nat) (t : Nat) (w : SV) (gs : Nat → Nat), 3 - t < n9 → (t ≤ 3) → (w = dStk v a bw t) → (Wf w) → (Rr w gs) → V X 0 0 (wM cy ma r e gs bf hy sv bu le pa) [some (.ref (ma 0)), some (.int (nI a)), some (.int (nI m)), some (.int (nI bw)), some (.int (nI (v 0 4))), some (.int (nI t))] [] 94 := by
                intro n9
                induction n9 with
                | zero => intro t w gs hm; exact absurd hm (Nat.not_lt_zero _)
                | succ n9 ih94 =>
                  intro t w gs hm ht hw hW hRs
                  refine r_iload (pc' := 96) hX dX6_casts_94 rfl rfl ?_
                  refine r_iconst (pc' := 97) (v := nI 3) hX dX6_casts_96 rfl rfl ?_
                  refine r_icmp_ge_N (tgt := 127) (pc' := 100) hX dX6_casts_97 (by decide) rfl (by omega) (by omega) (fun c97 => ?_) (fun c97 => ?_)
                  · have ht3 : t = 3 := by omega
                    subst ht3
                    refine r_iconst (pc' := 128) (v := nI 0) hX dX6_casts_127 rfl rfl ?_
                    refine r_istore (L' := [some (.ref (ma 0)), some (.int (nI a)), some (.int (nI m)), some (.int (nI bw)), some (.int (nI (v 0 4))), some (.int (nI 0))]) (pc' := 130) hX dX6_casts_128 (nlt hnL (by decide)) rfl rfl rfl ?_
                    have loop130 : ∀ (n9 : Nat) (k : Nat) (w : SV) (gs : Nat → Nat), bw - k < n9 → (k ≤ bw) → (w = up2 (dStk v a bw 3) 2 m (v 2 m + k)) → (Wf w) → (Rr w gs) → (∀ j, j < k → gs (87 + 9 * v 0 4 + j) = sqk (up2 v 2 m (v 2 m + j)) a m) → V X 0 0 (wM cy ma r e gs bf hy sv bu le pa) [some (.ref (ma 0)), some (.int (nI a)), some (.int (nI m)), some (.int (nI bw)), some (.int (nI (v 0 4))), some (.int (nI k))] [] 130 := by
                      intro n9
                      induction n9 with
                      | zero => intro k w gs hm; exact absurd hm (Nat.not_lt_zero _)
                      | succ n9 ih130 =>
                        intro k w gs hm hk hw hW hRs hq
                        refine r_iload (pc' := 132) hX dX6_casts_130 rfl rfl ?_
                        refine r_iload_n (pc' := 133) hX dX6_casts_132 rfl rfl ?_
                        refine r_icmp_ge_N (tgt := 177) (pc' := 136) hX dX6_casts_133 (by decide) rfl (by omega) (by omega) (fun c133 => ?_) (fun c133 => ?_)
                        · have e0 : ∀ j, w 0 j = v 0 j := fun j => by rw [hw, up2_ne (by decide), dStk_b (by decide)]
                          have g0 := e0 0
                          have g1 := e0 1
                          have g4 := e0 4
                          have g5 := e0 5
                          have g6 := e0 6
                          have hkn : k = bw := by omega
                          refine r_aload_n (pc' := 178) hX dX6_casts_177 rfl rfl ?_
                          refine r_get (pc' := 181) (v := .ref (ma 1)) hX dX6_casts_178 f_X6_7 0 rfl rfl rfl ?_
                          refine r_bipush (pc' := 183) (v := nI 47) hX dX6_casts_181 rfl rfl ?_
                          refine r_iload (pc' := 185) hX dX6_casts_183 rfl rfl ?_
                          refine r_iadd_N (pc' := 186) hX dX6_casts_185  rfl ?_
                          refine r_aload_n (pc' := 187) hX dX6_casts_186 rfl rfl ?_
                          refine r_get (pc' := 190) (v := .ref (ma 1)) hX dX6_casts_187 f_X6_7 0 rfl rfl rfl ?_
                          refine r_bipush (pc' := 192) (v := nI 8) hX dX6_casts_190 rfl rfl ?_
                          refine r_iald_N (pc' := 193) hX dX6_casts_192 (by rw [hcy]) 1 rfl (by omega) (by decide) rfl ?_
                          change V X 0 0 (wM cy ma r e gs bf hy sv bu le pa) [some (.ref (ma 0)), some (.int (nI a)), some (.int (nI m)), some (.int (nI bw)), some (.int (nI (v 0 4))), some (.int (nI k))] [.int (nI (gs 8)), .int (nI (47 + (v 0 4))), .ref (ma 1)] 193
                          rw [hRs.nxb]
                          refine r_iast_N (ws' := wM cy ma r e (up1 gs (47 + (v 0 4)) (w 0 5)) bf hy sv bu le pa) (pc' := 194) hX dX6_casts_193 (by rw [hcy]) 1 rfl (by omega) (by decide) rfl rfl ?_
                          refine r_aload_n (pc' := 195) hX dX6_casts_194 rfl rfl ?_
                          refine r_get (pc' := 198) (v := .ref (ma 1)) hX dX6_casts_195 f_X6_7 0 rfl rfl rfl ?_
                          refine r_bipush (pc' := 200) (v := nI 55) hX dX6_casts_198 rfl rfl ?_
                          refine r_iload (pc' := 202) hX dX6_casts_200 rfl rfl ?_
                          refine r_iadd_N (pc' := 203) hX dX6_casts_202  rfl ?_
                          refine r_iload_n (pc' := 204) hX dX6_casts_203 rfl rfl ?_
                          refine r_iast_N (ws' := wM cy ma r e (up1 (up1 gs (47 + (v 0 4)) (w 0 5)) (55 + (v 0 4)) a) bf hy sv bu le pa) (pc' := 205) hX dX6_casts_204 (by rw [hcy]) 1 rfl (by omega) (by decide) rfl rfl ?_
                          refine r_aload_n (pc' := 206) hX dX6_casts_205 rfl rfl ?_
                          refine r_get (pc' := 209) (v := .ref (ma 1)) hX dX6_casts_206 f_X6_7 0 rfl rfl rfl ?_
                          refine r_bipush (pc' := 211) (v := nI 63) hX dX6_casts_209 rfl rfl ?_
                          refine r_iload (pc' := 213) hX dX6_casts_211 rfl rfl ?_
                          refine r_iadd_N (pc' := 214) hX dX6_casts_213  rfl ?_
                          refine r_iload_n (pc' := 215) hX dX6_casts_214 rfl rfl ?_
                          refine r_iast_N (ws' := wM cy ma r e (up1 (up1 (up1 gs (47 + (v 0 4)) (w 0 5)) (55 + (v 0 4)) a) (63 + (v 0 4)) bw) bf hy sv bu le pa) (pc' := 216) hX dX6_casts_215 (by rw [hcy]) 1 rfl (by omega) (by decide) rfl rfl ?_
                          refine r_aload_n (pc' := 217) hX dX6_casts_216 rfl rfl ?_
                          refine r_get (pc' := 220) (v := .ref (ma 1)) hX dX6_casts_217 f_X6_7 0 rfl rfl rfl ?_
                          refine r_bipush (pc' := 222) (v := nI 71) hX dX6_casts_220 rfl rfl ?_
                          refine r_iload (pc' := 224) hX dX6_casts_222 rfl rfl ?_
                          refine r_iadd_N (pc' := 225) hX dX6_casts_224  rfl ?_
                          refine r_aload_n (pc' := 226) hX dX6_casts_225 rfl rfl ?_
                          refine r_get (pc' := 229) (v := .ref (ma 1)) hX dX6_casts_226 f_X6_7 0 rfl rfl rfl ?_
                          refine r_bipush (pc' := 231) (v := nI 9) hX dX6_casts_229 rfl rfl ?_
                          refine r_iald_N (pc' := 232) hX dX6_casts_231 (by rw [hcy]) 1 rfl (by omega) (by decide) rfl ?_
                          change V X 0 0 (wM cy ma r e (up1 (up1 (up1 gs (47 + (v 0 4)) (w 0 5)) (55 + (v 0 4)) a) (63 + (v 0 4)) bw) bf hy sv bu le pa) [some (.ref (ma 0)), some (.int (nI a)), some (.int (nI m)), some (.int (nI bw)), some (.int (nI (v 0 4))), some (.int (nI k))] [.int (nI ((up1 (up1 (up1 gs (47 + (v 0 4)) (w 0 5)) (55 + (v 0 4)) a) (63 + (v 0 4)) bw) 9)), .int (nI (71 + (v 0 4))), .ref (ma 1)] 232
                          rw [show ((up1 (up1 (up1 gs (47 + (v 0 4)) (w 0 5)) (55 + (v 0 4)) a) (63 + (v 0 4)) bw) 9) = (gs 9) from ((up1_ne (f := (up1 (up1 gs (47 + (v 0 4)) (w 0 5)) (55 + (v 0 4)) a)) (i := 63 + (v 0 4)) (x := bw) (j := 9) (by omega)).trans ((up1_ne (f := (up1 gs (47 + (v 0 4)) (w 0 5))) (i := 55 + (v 0 4)) (x := a) (j := 9) (by omega)).trans (up1_ne (f := gs) (i := 47 + (v 0 4)) (x := (w 0 5)) (j := 9) (by omega))))]
                          rw [hRs.cas]
                          refine r_iast_N (ws' := wM cy ma r e (up1 (up1 (up1 (up1 gs (47 + (v 0 4)) (w 0 5)) (55 + (v 0 4)) a) (63 + (v 0 4)) bw) (71 + (v 0 4)) (w 0 6)) bf hy sv bu le pa) (pc' := 233) hX dX6_casts_232 (by rw [hcy]) 1 rfl (by omega) (by decide) rfl rfl ?_
                          refine r_aload_n (pc' := 234) hX dX6_casts_233 rfl rfl ?_
                          refine r_get (pc' := 237) (v := .ref (ma 1)) hX dX6_casts_234 f_X6_7 0 rfl rfl rfl ?_
                          refine r_bipush (pc' := 239) (v := nI 79) hX dX6_casts_237 rfl rfl ?_
                          refine r_iload (pc' := 241) hX dX6_casts_239 rfl rfl ?_
                          refine r_iadd_N (pc' := 242) hX dX6_casts_241  rfl ?_
                          refine r_iconst (pc' := 243) (v := nI 0) hX dX6_casts_242 rfl rfl ?_
                          refine r_iast_N (ws' := wM cy ma r e (up1 (up1 (up1 (up1 (up1 gs (47 + (v 0 4)) (w 0 5)) (55 + (v 0 4)) a) (63 + (v 0 4)) bw) (71 + (v 0 4)) (w 0 6)) (79 + (v 0 4)) 0) bf hy sv bu le pa) (pc' := 244) hX dX6_casts_243 (by rw [hcy]) 1 rfl (by omega) (by decide) rfl rfl ?_
                          refine r_aload_n (pc' := 245) hX dX6_casts_244 rfl rfl ?_
                          refine r_get (pc' := 248) (v := .ref (ma 1)) hX dX6_casts_245 f_X6_7 0 rfl rfl rfl ?_
                          refine r_bipush (pc' := 250) (v := nI 7) hX dX6_casts_248 rfl rfl ?_
                          refine r_dup2 (pc' := 251) hX dX6_casts_250 rfl rfl rfl ?_
                          refine r_iald_N (pc' := 252) hX dX6_casts_251 (by rw [hcy]) 1 rfl (by omega) (by decide) rfl ?_
                          change V X 0 0 (wM cy ma r e (up1 (up1 (up1 (up1 (up1 gs (47 + (v 0 4)) (w 0 5)) (55 + (v 0 4)) a) (63 + (v 0 4)) bw) (71 + (v 0 4)) (w 0 6)) (79 + (v 0 4)) 0) bf hy sv bu le pa) [some (.ref (ma 0)), some (.int (nI a)), some (.int (nI m)), some (.int (nI bw)), some (.int (nI (v 0 4))), some (.int (nI k))] [.int (nI ((up1 (up1 (up1 (up1 (up1 gs (47 + (v 0 4)) (w 0 5)) (55 + (v 0 4)) a) (63 + (v 0 4)) bw) (71 + (v 0 4)) (w 0 6)) (79 + (v 0 4)) 0) 7)), .int (nI 7), .ref (ma 1)] 252
                          rw [show ((up1 (up1 (up1 (up1 (up1 gs (47 + (v 0 4)) (w 0 5)) (55 + (v 0 4)) a) (63 + (v 0 4)) bw) (71 + (v 0 4)) (w 0 6)) (79 + (v 0 4)) 0) 7) = (gs 7) from ((up1_ne (f := (up1 (up1 (up1 (up1 gs (47 + (v 0 4)) (w 0 5)) (55 + (v 0 4)) a) (63 + (v 0 4)) bw) (71 + (v 0 4)) (w 0 6))) (i := 79 + (v 0 4)) (x := 0) (j := 7) (by omega)).trans ((up1_ne (f := (up1 (up1 (up1 gs (47 + (v 0 4)) (w 0 5)) (55 + (v 0 4)) a) (63 + (v 0 4)) bw)) (i := 71 + (v 0 4)) (x := (w 0 6)) (j := 7) (by omega)).trans ((up1_ne (f := (up1 (up1 gs (47 + (v 0 4)) (w 0 5)) (55 + (v 0 4)) a)) (i := 63 + (v 0 4)) (x := bw) (j := 7) (by omega)).trans ((up1_ne (f := (up1 gs (47 + (v 0 4)) (w 0 5))) (i := 55 + (v 0 4)) (x := a) (j := 7) (by omega)).trans (up1_ne (f := gs) (i := 47 + (v 0 4)) (x := (w 0 5)) (j := 7) (by omega))))))]
                          rw [hRs.bat]
                          refine r_iconst (pc' := 253) (v := nI 1) hX dX6_casts_252 rfl rfl ?_
                          refine r_iadd_N (pc' := 254) hX dX6_casts_253  rfl ?_
                          refine r_iast_N (ws' := wM cy ma r e (up1 (up1 (up1 (up1 (up1 (up1 gs (47 + (v 0 4)) (w 0 5)) (55 + (v 0 4)) a) (63 + (v 0 4)) bw) (71 + (v 0 4)) (w 0 6)) (79 + (v 0 4)) 0) 7 ((w 0 4) + 1)) bf hy sv bu le pa) (pc' := 255) hX dX6_casts_254 (by rw [hcy]) 1 rfl (by omega) (by decide) rfl rfl ?_
                          refine r_aload_n (pc' := 256) hX dX6_casts_255 rfl rfl ?_
                          refine r_get (pc' := 259) (v := .ref (ma 1)) hX dX6_casts_256 f_X6_7 0 rfl rfl rfl ?_
                          refine r_bipush (pc' := 261) (v := nI 8) hX dX6_casts_259 rfl rfl ?_
                          refine r_dup2 (pc' := 262) hX dX6_casts_261 rfl rfl rfl ?_
                          refine r_iald_N (pc' := 263) hX dX6_casts_262 (by rw [hcy]) 1 rfl (by omega) (by decide) rfl ?_
                          change V X 0 0 (wM cy ma r e (up1 (up1 (up1 (up1 (up1 (up1 gs (47 + (v 0 4)) (w 0 5)) (55 + (v 0 4)) a) (63 + (v 0 4)) bw) (71 + (v 0 4)) (w 0 6)) (79 + (v 0 4)) 0) 7 ((w 0 4) + 1)) bf hy sv bu le pa) [some (.ref (ma 0)), some (.int (nI a)), some (.int (nI m)), some (.int (nI bw)), some (.int (nI (v 0 4))), some (.int (nI k))] [.int (nI ((up1 (up1 (up1 (up1 (up1 (up1 gs (47 + (v 0 4)) (w 0 5)) (55 + (v 0 4)) a) (63 + (v 0 4)) bw) (71 + (v 0 4)) (w 0 6)) (79 + (v 0 4)) 0) 7 ((w 0 4) + 1)) 8)), .int (nI 8), .ref (ma 1)] 263
                          rw [show ((up1 (up1 (up1 (up1 (up1 (up1 gs (47 + (v 0 4)) (w 0 5)) (55 + (v 0 4)) a) (63 + (v 0 4)) bw) (71 + (v 0 4)) (w 0 6)) (79 + (v 0 4)) 0) 7 ((w 0 4) + 1)) 8) = (gs 8) from ((up1_ne (f := (up1 (up1 (up1 (up1 gs (47 + (v 0 4)) (w 0 5)) (55 + (v 0 4)) a) (63 + (v 0 4)) bw) (71 + (v 0 4)) (w 0 6))) (i := 79 + (v 0 4)) (x := 0) (j := 8) (by omega)).trans ((up1_ne (f := (up1 (up1 (up1 gs (47 + (v 0 4)) (w 0 5)) (55 + (v 0 4)) a) (63 + (v 0 4)) bw)) (i := 71 + (v 0 4)) (x := (w 0 6)) (j := 8) (by omega)).trans ((up1_ne (f := (up1 (up1 gs (47 + (v 0 4)) (w 0 5)) (55 + (v 0 4)) a)) (i := 63 + (v 0 4)) (x := bw) (j := 8) (by omega)).trans ((up1_ne (f := (up1 gs (47 + (v 0 4)) (w 0 5))) (i := 55 + (v 0 4)) (x := a) (j := 8) (by omega)).trans (up1_ne (f := gs) (i := 47 + (v 0 4)) (x := (w 0 5)) (j := 8) (by omega))))))]
                          rw [hRs.nxb]
                          refine r_iconst (pc' := 264) (v := nI 1) hX dX6_casts_263 rfl rfl ?_
                          refine r_iadd_N (pc' := 265) hX dX6_casts_264  rfl ?_
                          refine r_iast_N (ws' := wM cy ma r e (up1 (up1 (up1 (up1 (up1 (up1 (up1 gs (47 + (v 0 4)) (w 0 5)) (55 + (v 0 4)) a) (63 + (v 0 4)) bw) (71 + (v 0 4)) (w 0 6)) (79 + (v 0 4)) 0) 7 ((w 0 4) + 1)) 8 ((w 0 5) + 1)) bf hy sv bu le pa) (pc' := 266) hX dX6_casts_265 (by rw [hcy]) 1 rfl (by omega) (by decide) rfl rfl ?_
                          refine r_aload_n (pc' := 267) hX dX6_casts_266 rfl rfl ?_
                          refine r_get (pc' := 270) (v := .ref (ma 1)) hX dX6_casts_267 f_X6_7 0 rfl rfl rfl ?_
                          refine r_bipush (pc' := 272) (v := nI 9) hX dX6_casts_270 rfl rfl ?_
                          refine r_dup2 (pc' := 273) hX dX6_casts_272 rfl rfl rfl ?_
                          refine r_iald_N (pc' := 274) hX dX6_casts_273 (by rw [hcy]) 1 rfl (by omega) (by decide) rfl ?_
                          change V X 0 0 (wM cy ma r e (up1 (up1 (up1 (up1 (up1 (up1 (up1 gs (47 + (v 0 4)) (w 0 5)) (55 + (v 0 4)) a) (63 + (v 0 4)) bw) (71 + (v 0 4)) (w 0 6)) (79 + (v 0 4)) 0) 7 ((w 0 4) + 1)) 8 ((w 0 5) + 1)) bf hy sv bu le pa) [some (.ref (ma 0)), some (.int (nI a)), some (.int (nI m)), some (.int (nI bw)), some (.int (nI (v 0 4))), some (.int (nI k))] [.int (nI ((up1 (up1 (up1 (up1 (up1 (up1 (up1 gs (47 + (v 0 4)) (w 0 5)) (55 + (v 0 4)) a) (63 + (v 0 4)) bw) (71 + (v 0 4)) (w 0 6)) (79 + (v 0 4)) 0) 7 ((w 0 4) + 1)) 8 ((w 0 5) + 1)) 9)), .int (nI 9), .ref (ma 1)] 274
                          rw [show ((up1 (up1 (up1 (up1 (up1 (up1 (up1 gs (47 + (v 0 4)) (w 0 5)) (55 + (v 0 4)) a) (63 + (v 0 4)) bw) (71 + (v 0 4)) (w 0 6)) (79 + (v 0 4)) 0) 7 ((w 0 4) + 1)) 8 ((w 0 5) + 1)) 9) = (gs 9) from ((up1_ne (f := (up1 (up1 (up1 (up1 gs (47 + (v 0 4)) (w 0 5)) (55 + (v 0 4)) a) (63 + (v 0 4)) bw) (71 + (v 0 4)) (w 0 6))) (i := 79 + (v 0 4)) (x := 0) (j := 9) (by omega)).trans ((up1_ne (f := (up1 (up1 (up1 gs (47 + (v 0 4)) (w 0 5)) (55 + (v 0 4)) a) (63 + (v 0 4)) bw)) (i := 71 + (v 0 4)) (x := (w 0 6)) (j := 9) (by omega)).trans ((up1_ne (f := (up1 (up1 gs (47 + (v 0 4)) (w 0 5)) (55 + (v 0 4)) a)) (i := 63 + (v 0 4)) (x := bw) (j := 9) (by omega)).trans ((up1_ne (f := (up1 gs (47 + (v 0 4)) (w 0 5))) (i := 55 + (v 0 4)) (x := a) (j := 9) (by omega)).trans (up1_ne (f := gs) (i := 47 + (v 0 4)) (x := (w 0 5)) (j := 9) (by omega))))))]
                          rw [hRs.cas]
                          refine r_iload_n (pc' := 275) hX dX6_casts_274 rfl rfl ?_
                          refine r_iadd_N (pc' := 276) hX dX6_casts_275  rfl ?_
                          refine r_iast_N (ws' := wM cy ma r e (up1 (up1 (up1 (up1 (up1 (up1 (up1 (up1 gs (47 + (v 0 4)) (w 0 5)) (55 + (v 0 4)) a) (63 + (v 0 4)) bw) (71 + (v 0 4)) (w 0 6)) (79 + (v 0 4)) 0) 7 ((w 0 4) + 1)) 8 ((w 0 5) + 1)) 9 ((w 0 6) + bw)) bf hy sv bu le pa) (pc' := 277) hX dX6_casts_276 (by rw [hcy]) 1 rfl (by omega) (by decide) rfl rfl ?_
                          refine r_aload_n (pc' := 278) hX dX6_casts_277 rfl rfl ?_
                          refine r_aload_n (pc' := 279) hX dX6_casts_278 rfl rfl ?_
                          refine r_get (pc' := 282) (v := .ref (ma 1)) hX dX6_casts_279 f_X6_7 0 rfl rfl rfl ?_
                          refine r_bipush (pc' := 284) (v := nI 47) hX dX6_casts_282 rfl rfl ?_
                          refine r_iload (pc' := 286) hX dX6_casts_284 rfl rfl ?_
                          refine r_iadd_N (pc' := 287) hX dX6_casts_286  rfl ?_
                          refine r_iald_N (pc' := 288) hX dX6_casts_287 (by rw [hcy]) 1 rfl (by omega) (by decide) rfl ?_
                          change V X 0 0 (wM cy ma r e (up1 (up1 (up1 (up1 (up1 (up1 (up1 (up1 gs (47 + (v 0 4)) (w 0 5)) (55 + (v 0 4)) a) (63 + (v 0 4)) bw) (71 + (v 0 4)) (w 0 6)) (79 + (v 0 4)) 0) 7 ((w 0 4) + 1)) 8 ((w 0 5) + 1)) 9 ((w 0 6) + bw)) bf hy sv bu le pa) [some (.ref (ma 0)), some (.int (nI a)), some (.int (nI m)), some (.int (nI bw)), some (.int (nI (v 0 4))), some (.int (nI k))] [.int (nI ((up1 (up1 (up1 (up1 (up1 (up1 (up1 (up1 gs (47 + (v 0 4)) (w 0 5)) (55 + (v 0 4)) a) (63 + (v 0 4)) bw) (71 + (v 0 4)) (w 0 6)) (79 + (v 0 4)) 0) 7 ((w 0 4) + 1)) 8 ((w 0 5) + 1)) 9 ((w 0 6) + bw)) (47 + (v 0 4)))), .ref (ma 0)] 288
                          rw [show ((up1 (up1 (up1 (up1 (up1 (up1 (up1 (up1 gs (47 + (v 0 4)) (w 0 5)) (55 + (v 0 4)) a) (63 + (v 0 4)) bw) (71 + (v 0 4)) (w 0 6)) (79 + (v 0 4)) 0) 7 ((w 0 4) + 1)) 8 ((w 0 5) + 1)) 9 ((w 0 6) + bw)) (47 + (v 0 4))) = (w 0 5) from ((up1_ne (f := (up1 (up1 (up1 (up1 (up1 (up1 (up1 gs (47 + (v 0 4)) (w 0 5)) (55 + (v 0 4)) a) (63 + (v 0 4)) bw) (71 + (v 0 4)) (w 0 6)) (79 + (v 0 4)) 0) 7 ((w 0 4) + 1)) 8 ((w 0 5) + 1))) (i := 9) (x := (w 0 6) + bw) (j := 47 + (v 0 4)) (by omega)).trans ((up1_ne (f := (up1 (up1 (up1 (up1 (up1 (up1 gs (47 + (v 0 4)) (w 0 5)) (55 + (v 0 4)) a) (63 + (v 0 4)) bw) (71 + (v 0 4)) (w 0 6)) (79 + (v 0 4)) 0) 7 ((w 0 4) + 1))) (i := 8) (x := (w 0 5) + 1) (j := 47 + (v 0 4)) (by omega)).trans ((up1_ne (f := (up1 (up1 (up1 (up1 (up1 gs (47 + (v 0 4)) (w 0 5)) (55 + (v 0 4)) a) (63 + (v 0 4)) bw) (71 + (v 0 4)) (w 0 6)) (79 + (v 0 4)) 0)) (i := 7) (x := (w 0 4) + 1) (j := 47 + (v 0 4)) (by omega)).trans ((up1_ne (f := (up1 (up1 (up1 (up1 gs (47 + (v 0 4)) (w 0 5)) (55 + (v 0 4)) a) (63 + (v 0 4)) bw) (71 + (v 0 4)) (w 0 6))) (i := 79 + (v 0 4)) (x := 0) (j := 47 + (v 0 4)) (by omega)).trans ((up1_ne (f := (up1 (up1 (up1 gs (47 + (v 0 4)) (w 0 5)) (55 + (v 0 4)) a) (63 + (v 0 4)) bw)) (i := 71 + (v 0 4)) (x := (w 0 6)) (j := 47 + (v 0 4)) (by omega)).trans ((up1_ne (f := (up1 (up1 gs (47 + (v 0 4)) (w 0 5)) (55 + (v 0 4)) a)) (i := 63 + (v 0 4)) (x := bw) (j := 47 + (v 0 4)) (by omega)).trans ((up1_ne (f := (up1 gs (47 + (v 0 4)) (w 0 5))) (i := 55 + (v 0 4)) (x := a) (j := 47 + (v 0 4)) (by omega)).trans (up1_s (f := gs) (i := 47 + (v 0 4)) (x := (w 0 5))))))))))]
                          refine V_call0 (k' := 0) (n' := 0) (pc' := 291) hX (r_runV (As := [.int (nI (w 0 5))]) hX dX6_casts_288 k_X6_70 (fun l9 hl9 => cM_done) hG ⟨8, _, TX6, 16, List.mem_cons_self, rfl⟩ rfl rfl (Nat.le_of_ble_eq_true rfl) (by decide) (by decide) (by decide) (by decide)) rfl rfl rfl (fun w9 u9 hp9 => ?_)
                          obtain ⟨rfl, rfl⟩ := hp9
                          change V X 0 0 (wM cy ma (up1 r 4 0) e (up1 (up1 (up1 (up1 (up1 (up1 (up1 (up1 gs (47 + (v 0 4)) (w 0 5)) (55 + (v 0 4)) a) (63 + (v 0 4)) bw) (71 + (v 0 4)) (w 0 6)) (79 + (v 0 4)) 0) 7 ((w 0 4) + 1)) 8 ((w 0 5) + 1)) 9 ((w 0 6) + bw)) bf hy sv bu le pa) [some (.ref (ma 0)), some (.int (nI a)), some (.int (nI m)), some (.int (nI bw)), some (.int (nI (v 0 4))), some (.int (nI k))] [.int (nI (w 0 5))] 291
                          have e9 : oPour v (nI a) (nI m) (nI bw) = (nI (w 0 5), pouW v a m bw) := by rw [g5]; unfold oPour; rw [if_pos ⟨c5, c13⟩, if_pos c29, if_pos (by rw [nm, nbw]; omega), if_pos (by rw [na, nbw, bst_iff (by omega)]; exact c82), na, nm, nbw]; rfl
                          exact r_ireturn hX hE dX6_casts_291 rfl (PM_good e9 (by omega) (Rr.pour h49 (by omega) (by omega) c29 (by rw [hw, hkn]) hRs (fun j hj => hq j (by omega))) rfl) (by decide) (by decide)
                        · have e0 : ∀ j, w 0 j = v 0 j := fun j => by rw [hw, up2_ne (by decide), dStk_b (by decide)]
                          have g0 := e0 0
                          have g1 := e0 1
                          have g4 := e0 4
                          refine r_aload_n (pc' := 137) hX dX6_casts_136 rfl rfl ?_
                          refine r_get (pc' := 140) (v := .ref (ma 1)) hX dX6_casts_137 f_X6_7 0 rfl rfl rfl ?_
                          refine r_bipush (pc' := 142) (v := nI 87) hX dX6_casts_140 rfl rfl ?_
                          refine r_bipush (pc' := 144) (v := nI 9) hX dX6_casts_142 rfl rfl ?_
                          refine r_iload (pc' := 146) hX dX6_casts_144 rfl rfl ?_
                          refine r_imul_N (pc' := 147) hX dX6_casts_146  rfl ?_
                          refine r_iadd_N (pc' := 148) hX dX6_casts_147  rfl ?_
                          refine r_iload (pc' := 150) hX dX6_casts_148 rfl rfl ?_
                          refine r_iadd_N (pc' := 151) hX dX6_casts_150  rfl ?_
                          refine r_aload_n (pc' := 152) hX dX6_casts_151 rfl rfl ?_
                          refine r_iload_n (pc' := 153) hX dX6_casts_152 rfl rfl ?_
                          refine r_iload_n (pc' := 154) hX dX6_casts_153 rfl rfl ?_
                          refine V_call0 (k' := 0) (n' := 0) (pc' := 157) hX (r_runV (As := [.int (nI a), .int (nI m)]) hX dX6_casts_154 k_X6_103 (fun l9 hl9 => cM_squeakOf hW hRs (by omega) (by omega)) hG ⟨8, _, TX6, 16, List.mem_cons_self, rfl⟩ rfl rfl (Nat.le_of_ble_eq_true rfl) (by decide) (by decide) (by decide) (by decide)) rfl rfl rfl (fun w9 u9 hp9 => ?_)
                          obtain ⟨rfl, rfl⟩ := hp9
                          change V X 0 0 (wM cy ma r e gs bf hy sv bu le pa) [some (.ref (ma 0)), some (.int (nI a)), some (.int (nI m)), some (.int (nI bw)), some (.int (nI (v 0 4))), some (.int (nI k))] [.int (nI (sqk w a m)), .int (nI ((87 + (9 * (v 0 4))) + k)), .ref (ma 1)] 157
                          refine r_iast_N (ws' := wM cy ma r e (up1 gs ((87 + (9 * (v 0 4))) + k) (sqk w a m)) bf hy sv bu le pa) (pc' := 158) hX dX6_casts_157 (by rw [hcy]) 1 rfl (by omega) (by decide) rfl rfl ?_
                          refine r_aload_n (pc' := 159) hX dX6_casts_158 rfl rfl ?_
                          refine r_get (pc' := 162) (v := .ref (ma 1)) hX dX6_casts_159 f_X6_7 0 rfl rfl rfl ?_
                          refine r_bipush (pc' := 164) (v := nI 43) hX dX6_casts_162 rfl rfl ?_
                          refine r_iload_n (pc' := 165) hX dX6_casts_164 rfl rfl ?_
                          refine r_iadd_N (pc' := 166) hX dX6_casts_165  rfl ?_
                          refine r_dup2 (pc' := 167) hX dX6_casts_166 rfl rfl rfl ?_
                          refine r_iald_N (pc' := 168) hX dX6_casts_167 (by rw [hcy]) 1 rfl (by omega) (by decide) rfl ?_
                          change V X 0 0 (wM cy ma r e (up1 gs ((87 + (9 * (v 0 4))) + k) (sqk w a m)) bf hy sv bu le pa) [some (.ref (ma 0)), some (.int (nI a)), some (.int (nI m)), some (.int (nI bw)), some (.int (nI (v 0 4))), some (.int (nI k))] [.int (nI ((up1 gs ((87 + (9 * (v 0 4))) + k) (sqk w a m)) (43 + m))), .int (nI (43 + m)), .ref (ma 1)] 168
                          rw [show ((up1 gs ((87 + (9 * (v 0 4))) + k) (sqk w a m)) (43 + m)) = (gs (43 + m)) from (up1_ne (f := gs) (i := (87 + (9 * (v 0 4))) + k) (x := sqk w a m) (j := 43 + m) (by omega))]
                          rw [(hRs.use (by omega))]
                          refine r_iconst (pc' := 169) (v := nI 1) hX dX6_casts_168 rfl rfl ?_
                          refine r_iadd_N (pc' := 170) hX dX6_casts_169  rfl ?_
                          refine r_iast_N (ws' := wM cy ma r e (up1 (up1 gs ((87 + (9 * (v 0 4))) + k) (sqk w a m)) (43 + m) ((w 2 m) + 1)) bf hy sv bu le pa) (pc' := 171) hX dX6_casts_170 (by rw [hcy]) 1 rfl (by omega) (by decide) rfl rfl ?_
                          refine r_iinc_N (b := 1) (L' := [some (.ref (ma 0)), some (.int (nI a)), some (.int (nI m)), some (.int (nI bw)), some (.int (nI (v 0 4))), some (.int (nI (k + 1)))]) (pc' := 174) hX dX6_casts_171 rfl (nlt hnL (by decide)) rfl rfl rfl ?_
                          refine r_goto (tgt := 130) hX dX6_casts_174 (by decide) ?_
                          have eW : up2 (dStk v a bw 3) 2 m (v 2 m + (k + 1)) = up2 w 2 m (w 2 m + 1) := by rw [hw, up2_same, up2_s]; rfl
                          have u9 : w 2 m = v 2 m + k := by rw [hw, up2_s]
                          exact ih130 (k + 1) (up2 (dStk v a bw 3) 2 m (v 2 m + (k + 1))) (up1 (up1 gs ((87 + (9 * (v 0 4))) + k) (sqk w a m)) (43 + m) ((w 2 m) + 1)) (by omega) (by omega) rfl (by rw [eW]; exact hW.use (by omega)) (by rw [eW]; exact (hRs.out (b := 21 + v 0 4) (k := k) (x := sqk w a m) (j := 87 + 9 * v 0 4 + k) (by omega) (by unfold dm; omega) ix_sq.symm).p2 (k := m) (x := w 2 m + 1) (j := 43 + m) (by omega) rfl) (fun j hj => by rw [up1_ne (by omega)]; by_cases e : j = k; (rw [e, up1_s, hw]; exact sqk_congr (by rw [up2_ne (by omega), up2_ne (by omega), dStk_b (by omega)]) (by rw [up2_ne (by omega), up2_ne (by omega), dStk_b (by omega)]) (by rw [up2_s, up2_s])); (rw [up1_ne (by omega)]; exact hq j (by omega)))
                    exact loop130 _ 0 w gs (Nat.lt_succ_self _) (by omega) (by rw [hw]; exact (up2_idd (by rw [dStk_b (by decide)]; rfl)).symm) hW hRs (fun j hj => absurd hj (Nat.not_lt_zero _))
                  · have e3 : w 3 t = v 3 t := by rw [hw]; exact dStk_3 (Nat.le_refl _)
                    have e7 : w (7 + a) t = v (7 + a) t := by rw [hw, dStk_b (by omega)]
                    have hs9 := hst9 t (by omega)
                    have e0 : w 0 0 = v 0 0 := by rw [hw, dStk_b (by decide)]
                    refine r_aload_n (pc' := 101) hX dX6_casts_100 rfl rfl ?_
                    refine r_get (pc' := 104) (v := .ref (ma 1)) hX dX6_casts_101 f_X6_7 0 rfl rfl rfl ?_
                    refine r_iconst (pc' := 105) (v := nI 0) hX dX6_casts_104 rfl rfl ?_
                    refine r_iload (pc' := 107) hX dX6_casts_105 rfl rfl ?_
                    refine r_iadd_N (pc' := 108) hX dX6_casts_107  rfl ?_
                    refine r_dup2 (pc' := 109) hX dX6_casts_108 rfl rfl rfl ?_
                    refine r_iald_N (pc' := 110) hX dX6_casts_109 (by rw [hcy]) 1 rfl (by omega) (by decide) rfl ?_
                    change V X 0 0 (wM cy ma r e gs bf hy sv bu le pa) [some (.ref (ma 0)), some (.int (nI a)), some (.int (nI m)), some (.int (nI bw)), some (.int (nI (v 0 4))), some (.int (nI t))] [.int (nI (gs (0 + t))), .int (nI (0 + t)), .ref (ma 1)] 110
                    rw [(hRs.sto (by omega))]
                    refine r_iload_n (pc' := 111) hX dX6_casts_110 rfl rfl ?_
                    refine r_aload_n (pc' := 112) hX dX6_casts_111 rfl rfl ?_
                    refine r_iload_n (pc' := 113) hX dX6_casts_112 rfl rfl ?_
                    refine r_iload (pc' := 115) hX dX6_casts_113 rfl rfl ?_
                    refine V_call0 (k' := 0) (n' := 0) (pc' := 118) hX (r_runV (As := [.int (nI a), .int (nI t)]) hX dX6_casts_115 k_X6_53 (fun l9 hl9 => cM_part hRs (by omega) (by omega)) hG ⟨8, _, TX6, 16, List.mem_cons_self, rfl⟩ rfl rfl (Nat.le_of_ble_eq_true rfl) (by decide) (by decide) (by decide) (by decide)) rfl rfl rfl (fun w9 u9 hp9 => ?_)
                    obtain ⟨rfl, rfl⟩ := hp9
                    change V X 0 0 (wM cy ma r e gs bf hy sv bu le pa) [some (.ref (ma 0)), some (.int (nI a)), some (.int (nI m)), some (.int (nI bw)), some (.int (nI (v 0 4))), some (.int (nI t))] [.int (nI (w (7 + a) t)), .int (nI bw), .int (nI (w 3 t)), .int (nI (0 + t)), .ref (ma 1)] 118
                    refine r_imul_N (pc' := 119) hX dX6_casts_118  rfl ?_
                    refine r_isub_N (pc' := 120) hX dX6_casts_119 (by rw [e3, e7]; exact hs9) rfl ?_
                    refine r_iast_N (ws' := wM cy ma r e (up1 gs (0 + t) ((w 3 t) - (bw * (w (7 + a) t)))) bf hy sv bu le pa) (pc' := 121) hX dX6_casts_120 (by rw [hcy]) 1 rfl (by omega) (by decide) rfl rfl ?_
                    refine r_iinc_N (b := 1) (L' := [some (.ref (ma 0)), some (.int (nI a)), some (.int (nI m)), some (.int (nI bw)), some (.int (nI (v 0 4))), some (.int (nI (t + 1)))]) (pc' := 124) hX dX6_casts_121 rfl (nlt hnL (by decide)) rfl rfl rfl ?_
                    refine r_goto (tgt := 94) hX dX6_casts_124 (by decide) ?_
                    have k9 := hW.2.2.2.2.2.2.2.2.2.1 t (by omega)
                    exact ih94 (t + 1) (up2 w 3 t (w 3 t - bw * w (7 + a) t)) (up1 gs (0 + t) ((w 3 t) - (bw * (w (7 + a) t)))) (by omega) (by omega) (by rw [hw]; rfl) (hW.stk (by omega)) (hRs.p3 (b := 3) (k := t) (j := 0 + t) (by omega) (by omega) (by rw [ix3, Nat.zero_add]))
              exact loop94 _ 0 v g (Nat.lt_succ_self _) (by omega) rfl hv0 hR
            · refine r_aload_n (pc' := 86) hX dX6_casts_85 rfl rfl ?_
              refine r_iconst (pc' := 87) (v := nI 4) hX dX6_casts_86 rfl rfl ?_
              refine V_call0 (k' := 0) (n' := 0) (pc' := 90) hX (r_runV (As := [.int (nI 4)]) hX dX6_casts_87 k_X6_67 (fun l9 hl9 => cM_fails (by omega)) hG ⟨8, _, TX6, 16, List.mem_cons_self, rfl⟩ rfl rfl (Nat.le_of_ble_eq_true rfl) (by decide) (by decide) (by decide) (by decide)) rfl rfl rfl (fun w9 u9 hp9 => ?_)
              obtain ⟨rfl, rfl⟩ := hp9
              change V X 0 0 (wM cy ma (up1 r 4 4) e g bf hy sv bu le pa) [some (.ref (ma 0)), some (.int (nI a)), some (.int (nI m)), some (.int (nI bw)), some (.int (nI (v 0 4))), none] [.int (nI 0)] 90
              have e9 : oPour v (nI a) (nI m) (nI bw) = ((-4), v) := by unfold oPour; rw [if_pos ⟨c5, c13⟩, if_pos c29, if_pos (by rw [nm, nbw]; omega), if_neg (by rw [na, nbw, bst_iff (by omega)]; exact c82)]
              exact r_ireturn hX hE dX6_casts_90 rfl (PM_bad e9 (by decide) (by decide) hR rfl) (by decide) (by decide)
          · refine r_aload_n (pc' := 71) hX dX6_casts_70 rfl rfl ?_
            refine r_iconst (pc' := 72) (v := nI 3) hX dX6_casts_71 rfl rfl ?_
            refine V_call0 (k' := 0) (n' := 0) (pc' := 75) hX (r_runV (As := [.int (nI 3)]) hX dX6_casts_72 k_X6_67 (fun l9 hl9 => cM_fails (by omega)) hG ⟨8, _, TX6, 16, List.mem_cons_self, rfl⟩ rfl rfl (Nat.le_of_ble_eq_true rfl) (by decide) (by decide) (by decide) (by decide)) rfl rfl rfl (fun w9 u9 hp9 => ?_)
            obtain ⟨rfl, rfl⟩ := hp9
            change V X 0 0 (wM cy ma (up1 r 4 3) e g bf hy sv bu le pa) [some (.ref (ma 0)), some (.int (nI a)), some (.int (nI m)), some (.int (nI bw)), some (.int (nI (v 0 4))), none] [.int (nI 0)] 75
            have e9 : oPour v (nI a) (nI m) (nI bw) = ((-3), v) := by unfold oPour; rw [if_pos ⟨c5, c13⟩, if_pos c29, if_neg (by rw [nm, nbw]; omega)]
            exact r_ireturn hX hE dX6_casts_75 rfl (PM_bad e9 (by decide) (by decide) hR rfl) (by decide) (by decide)
      · refine r_aload_n (pc' := 33) hX dX6_casts_32 rfl rfl ?_
        refine r_iconst (pc' := 34) (v := nI 2) hX dX6_casts_33 rfl rfl ?_
        refine V_call0 (k' := 0) (n' := 0) (pc' := 37) hX (r_runV (As := [.int (nI 2)]) hX dX6_casts_34 k_X6_67 (fun l9 hl9 => cM_fails (by omega)) hG ⟨8, _, TX6, 16, List.mem_cons_self, rfl⟩ rfl rfl (Nat.le_of_ble_eq_true rfl) (by decide) (by decide) (by decide) (by decide)) rfl rfl rfl (fun w9 u9 hp9 => ?_)
        obtain ⟨rfl, rfl⟩ := hp9
        change V X 0 0 (wM cy ma (up1 r 4 2) e g bf hy sv bu le pa) [some (.ref (ma 0)), some (.int (nI a)), some (.int (nI m)), some (.int z), none, none] [.int (nI 0)] 37
        have e9 : oPour v (nI a) (nI m) z = ((-2), v) := by unfold oPour; rw [if_pos ⟨c5, c13⟩, if_neg c29]
        exact r_ireturn hX hE dX6_casts_37 rfl (PM_bad e9 (by decide) (by decide) hR rfl) (by decide) (by decide)
    · refine r_aload_n (pc' := 17) hX dX6_casts_16 rfl rfl ?_
      refine r_iconst (pc' := 18) (v := nI 1) hX dX6_casts_17 rfl rfl ?_
      refine V_call0 (k' := 0) (n' := 0) (pc' := 21) hX (r_runV (As := [.int (nI 1)]) hX dX6_casts_18 k_X6_67 (fun l9 hl9 => cM_fails (by omega)) hG ⟨8, _, TX6, 16, List.mem_cons_self, rfl⟩ rfl rfl (Nat.le_of_ble_eq_true rfl) (by decide) (by decide) (by decide) (by decide)) rfl rfl rfl (fun w9 u9 hp9 => ?_)
      obtain ⟨rfl, rfl⟩ := hp9
      change V X 0 0 (wM cy ma (up1 r 4 1) e g bf hy sv bu le pa) [some (.ref (ma 0)), some (.int (nI a)), some (.int y), some (.int z), none, none] [.int (nI 0)] 21
      have e9 : oPour v (nI a) y z = ((-1), v) := by unfold oPour; rw [if_neg (by rintro ⟨q1, q2⟩; first | exact c5 q1 | exact c13 q2)]
      exact r_ireturn hX hE dX6_casts_21 rfl (PM_bad e9 (by decide) (by decide) hR rfl) (by decide) (by decide)

set_option maxRecDepth 20000 in
set_option maxHeartbeats 4000000 in
theorem cM_drops {l : Launch} {D : va_G} {cy : Nat → ClassId} {sa : Nat → Nat} {ma : Nat → Nat} {r : Nat → Nat} {e : Nat → Int32} {g bf hy sv bu le : Nat → Nat} {pa : Nat → Int32} {p : Nat} (hp : p < 8) (h7 : 1 ≤ g 7) : MG l yX6_drops cX6_drops 4 none 0 0 0 (D, cy, sa) [.ref (ma 0), .int (nI p)] (wM cy ma r e g bf hy sv bu le pa) (fun w u => w = none ∧ u = wM cy ma r e (drG g p) bf hy sv bu le pa) := by
  refine MG_by (own := RX6) (L := [some (.ref (ma 0)), some (.int (nI p)), none, none]) (by decide +kernel) rfl rfl (Nat.le_of_ble_eq_true rfl) 2 rfl (fun X hX hE hnL hG hcy hnm => ?_)
  refine r_bipush (pc' := 2) (v := nI 47) hX dX6_drops_0 rfl rfl ?_
  refine r_istore_n (L' := [some (.ref (ma 0)), some (.int (nI p)), some (.int (nI 47)), none]) (pc' := 3) hX dX6_drops_2 (nlt hnL (by decide)) rfl rfl rfl ?_
  have loop3 : ∀ (n9 : Nat) (u : Nat) (gs : Nat → Nat), 5 - u < n9 → (u ≤ 5) → (gs = drP g p (47 + 8 * u) p) → V X 0 0 (wM cy ma r e gs bf hy sv bu le pa) [some (.ref (ma 0)), some (.int (nI p)), some (.int (nI (47 + 8 * u))), none] [] 3 := by
    intro n9
    induction n9 with
    | zero => intro u gs hm; exact absurd hm (Nat.not_lt_zero _)
    | succ n9 ih3 =>
      intro u gs hm hu hg
      refine r_iload_n (pc' := 4) hX dX6_drops_3 rfl rfl ?_
      refine r_bipush (pc' := 6) (v := nI 87) hX dX6_drops_4 rfl rfl ?_
      refine r_icmp_ge_N (tgt := 47) (pc' := 9) hX dX6_drops_6 (by decide) rfl (by omega) (by omega) (fun c6 => ?_) (fun c6 => ?_)
      · refine r_bipush (pc' := 49) (v := nI 9) hX dX6_drops_47 rfl rfl ?_
        refine r_iload_n (pc' := 50) hX dX6_drops_49 rfl rfl ?_
        refine r_imul_N (pc' := 51) hX dX6_drops_50  rfl ?_
        refine r_istore_n (L' := [some (.ref (ma 0)), some (.int (nI p)), some (.int (nI (9 * p))), none]) (pc' := 52) hX dX6_drops_51 (nlt hnL (by decide)) rfl rfl rfl ?_
        have loop52 : ∀ (n9 : Nat) (x : Nat) (gs : Nat → Nat), 63 - x < n9 → (9 * p ≤ x) → (x ≤ 63) → (gs = drQ g p x) → V X 0 0 (wM cy ma r e gs bf hy sv bu le pa) [some (.ref (ma 0)), some (.int (nI p)), some (.int (nI x)), none] [] 52 := by
          intro n9
          induction n9 with
          | zero => intro x gs hm; exact absurd hm (Nat.not_lt_zero _)
          | succ n9 ih52 =>
            intro x gs hm hx hx2 hg
            refine r_iload_n (pc' := 53) hX dX6_drops_52 rfl rfl ?_
            refine r_bipush (pc' := 55) (v := nI 63) hX dX6_drops_53 rfl rfl ?_
            refine r_icmp_ge_N (tgt := 85) (pc' := 58) hX dX6_drops_55 (by decide) rfl (by omega) (by omega) (fun c55 => ?_) (fun c55 => ?_)
            · have h79 : gs 7 = g 7 := by rw [hg]; exact drQ_7
              refine r_aload_n (pc' := 86) hX dX6_drops_85 rfl rfl ?_
              refine r_get (pc' := 89) (v := .ref (ma 1)) hX dX6_drops_86 f_X6_7 0 rfl rfl rfl ?_
              refine r_bipush (pc' := 91) (v := nI 7) hX dX6_drops_89 rfl rfl ?_
              refine r_dup2 (pc' := 92) hX dX6_drops_91 rfl rfl rfl ?_
              refine r_iald_N (pc' := 93) hX dX6_drops_92 (by rw [hcy]) 1 rfl (by omega) (by decide) rfl ?_
              change V X 0 0 (wM cy ma r e gs bf hy sv bu le pa) [some (.ref (ma 0)), some (.int (nI p)), some (.int (nI x)), none] [.int (nI (gs 7)), .int (nI 7), .ref (ma 1)] 93
              refine r_iconst (pc' := 94) (v := nI 1) hX dX6_drops_93 rfl rfl ?_
              refine r_isub_N (pc' := 95) hX dX6_drops_94 (by omega) rfl ?_
              refine r_iast_N (ws' := wM cy ma r e (up1 gs 7 ((gs 7) - 1)) bf hy sv bu le pa) (pc' := 96) hX dX6_drops_95 (by rw [hcy]) 1 rfl (by omega) (by decide) rfl rfl ?_
              have e9 : up1 gs 7 (gs 7 - 1) = drG g p := by rw [h79, hg]; exact drQ_e (by omega)
              exact r_vreturn hX hE dX6_drops_96 rfl ⟨rfl, by rw [e9]⟩ (by decide) (by decide)
            · refine r_aload_n (pc' := 59) hX dX6_drops_58 rfl rfl ?_
              refine r_get (pc' := 62) (v := .ref (ma 1)) hX dX6_drops_59 f_X6_7 0 rfl rfl rfl ?_
              refine r_bipush (pc' := 64) (v := nI 87) hX dX6_drops_62 rfl rfl ?_
              refine r_iload_n (pc' := 65) hX dX6_drops_64 rfl rfl ?_
              refine r_iadd_N (pc' := 66) hX dX6_drops_65  rfl ?_
              refine r_aload_n (pc' := 67) hX dX6_drops_66 rfl rfl ?_
              refine r_get (pc' := 70) (v := .ref (ma 1)) hX dX6_drops_67 f_X6_7 0 rfl rfl rfl ?_
              refine r_bipush (pc' := 72) (v := nI 87) hX dX6_drops_70 rfl rfl ?_
              refine r_iload_n (pc' := 73) hX dX6_drops_72 rfl rfl ?_
              refine r_iadd_N (pc' := 74) hX dX6_drops_73  rfl ?_
              refine r_bipush (pc' := 76) (v := nI 9) hX dX6_drops_74 rfl rfl ?_
              refine r_iadd_N (pc' := 77) hX dX6_drops_76  rfl ?_
              refine r_iald_N (pc' := 78) hX dX6_drops_77 (by rw [hcy]) 1 rfl (by omega) (by decide) rfl ?_
              change V X 0 0 (wM cy ma r e gs bf hy sv bu le pa) [some (.ref (ma 0)), some (.int (nI p)), some (.int (nI x)), none] [.int (nI (gs ((87 + x) + 9))), .int (nI (87 + x)), .ref (ma 1)] 78
              refine r_iast_N (ws' := wM cy ma r e (up1 gs (87 + x) (gs ((87 + x) + 9))) bf hy sv bu le pa) (pc' := 79) hX dX6_drops_78 (by rw [hcy]) 1 rfl (by omega) (by decide) rfl rfl ?_
              refine r_iinc_N (b := 1) (L' := [some (.ref (ma 0)), some (.int (nI p)), some (.int (nI (x + 1))), none]) (pc' := 82) hX dX6_drops_79 rfl (nlt hnL (by decide)) rfl rfl rfl ?_
              refine r_goto (tgt := 52) hX dX6_drops_82 (by decide) ?_
              have hgk : gs (87 + x + 9) = g (87 + x + 9) := by rw [hg]; exact drQ_r
              exact ih52 (x + 1) (up1 gs (87 + x) (gs ((87 + x) + 9))) (by omega) (by omega) (by omega) (by rw [hgk, hg]; exact drQ_s hx)
        exact loop52 _ (9 * p) gs (Nat.lt_succ_self _) (by omega) (by omega) (by rw [hg, show u = 5 by omega]; exact drQ_0)
      · refine r_iload_n (pc' := 10) hX dX6_drops_9 rfl rfl ?_
        refine r_istore_n (L' := [some (.ref (ma 0)), some (.int (nI p)), some (.int (nI (47 + 8 * u))), some (.int (nI p))]) (pc' := 11) hX dX6_drops_10 (nlt hnL (by decide)) rfl rfl rfl ?_
        have loop11 : ∀ (n9 : Nat) (k : Nat) (gs : Nat → Nat), 7 - k < n9 → (p ≤ k) → (k ≤ max p 7) → (gs = drP g p (47 + 8 * u) k) → V X 0 0 (wM cy ma r e gs bf hy sv bu le pa) [some (.ref (ma 0)), some (.int (nI p)), some (.int (nI (47 + 8 * u))), some (.int (nI k))] [] 11 := by
          intro n9
          induction n9 with
          | zero => intro k gs hm; exact absurd hm (Nat.not_lt_zero _)
          | succ n9 ih11 =>
            intro k gs hm hk hk2 hg
            refine r_iload_n (pc' := 12) hX dX6_drops_11 rfl rfl ?_
            refine r_bipush (pc' := 14) (v := nI 7) hX dX6_drops_12 rfl rfl ?_
            refine r_icmp_ge_N (tgt := 41) (pc' := 17) hX dX6_drops_14 (by decide) rfl (by omega) (by omega) (fun c14 => ?_) (fun c14 => ?_)
            · refine r_iinc_N (b := 8) (L' := [some (.ref (ma 0)), some (.int (nI p)), some (.int (nI (47 + 8 * u + 8))), some (.int (nI k))]) (pc' := 44) hX dX6_drops_41 rfl (nlt hnL (by decide)) rfl rfl rfl ?_
              refine r_goto (tgt := 3) hX dX6_drops_44 (by decide) ?_
              refine V_loc (L' := [some (.ref (ma 0)), some (.int (nI p)), some (.int (nI (47 + 8 * u + 8))), none]) (lo_w ⟨.inr rfl, .inr rfl, .inr rfl, .inl rfl, trivial⟩) ?_
              exact ih3 (u + 1) gs (by omega) (by omega) (by rw [hg]; exact drP_n (by omega) hk2)
            · refine r_aload_n (pc' := 18) hX dX6_drops_17 rfl rfl ?_
              refine r_get (pc' := 21) (v := .ref (ma 1)) hX dX6_drops_18 f_X6_7 0 rfl rfl rfl ?_
              refine r_iload_n (pc' := 22) hX dX6_drops_21 rfl rfl ?_
              refine r_iload_n (pc' := 23) hX dX6_drops_22 rfl rfl ?_
              refine r_iadd_N (pc' := 24) hX dX6_drops_23  rfl ?_
              refine r_aload_n (pc' := 25) hX dX6_drops_24 rfl rfl ?_
              refine r_get (pc' := 28) (v := .ref (ma 1)) hX dX6_drops_25 f_X6_7 0 rfl rfl rfl ?_
              refine r_iload_n (pc' := 29) hX dX6_drops_28 rfl rfl ?_
              refine r_iload_n (pc' := 30) hX dX6_drops_29 rfl rfl ?_
              refine r_iadd_N (pc' := 31) hX dX6_drops_30  rfl ?_
              refine r_iconst (pc' := 32) (v := nI 1) hX dX6_drops_31 rfl rfl ?_
              refine r_iadd_N (pc' := 33) hX dX6_drops_32  rfl ?_
              refine r_iald_N (pc' := 34) hX dX6_drops_33 (by rw [hcy]) 1 rfl (by omega) (by decide) rfl ?_
              change V X 0 0 (wM cy ma r e gs bf hy sv bu le pa) [some (.ref (ma 0)), some (.int (nI p)), some (.int (nI (47 + 8 * u))), some (.int (nI k))] [.int (nI (gs (((47 + 8 * u) + k) + 1))), .int (nI ((47 + 8 * u) + k)), .ref (ma 1)] 34
              refine r_iast_N (ws' := wM cy ma r e (up1 gs ((47 + 8 * u) + k) (gs (((47 + 8 * u) + k) + 1))) bf hy sv bu le pa) (pc' := 35) hX dX6_drops_34 (by rw [hcy]) 1 rfl (by omega) (by decide) rfl rfl ?_
              refine r_iinc_N (b := 1) (L' := [some (.ref (ma 0)), some (.int (nI p)), some (.int (nI (47 + 8 * u))), some (.int (nI (k + 1)))]) (pc' := 38) hX dX6_drops_35 rfl (nlt hnL (by decide)) rfl rfl rfl ?_
              refine r_goto (tgt := 11) hX dX6_drops_38 (by decide) ?_
              have hgk : gs (47 + 8 * u + k + 1) = g (47 + 8 * u + k + 1) := by rw [hg]; exact drP_r hk
              exact ih11 (k + 1) (up1 gs ((47 + 8 * u) + k) (gs (((47 + 8 * u) + k) + 1))) (by omega) (by omega) (by omega) (by rw [hgk, hg]; exact drP_s hk (by omega))
        exact loop11 _ p gs (Nat.lt_succ_self _) (Nat.le_refl _) (by omega) hg
  exact loop3 _ 0 g (Nat.lt_succ_self _) (by omega) drP_0

set_option maxRecDepth 20000 in
set_option maxHeartbeats 4000000 in
theorem cM_sells {l : Launch} {D : va_G} {cy : Nat → ClassId} {sa : Nat → Nat} {ma : Nat → Nat} {r : Nat → Nat} {e : Nat → Int32} {g bf hy sv bu le : Nat → Nat} {pa : Nat → Int32} {v : SV} (hv : Wf v) (hR : Rr v g) {p : Nat} (hp : p < v 0 4) : MG l yX6_sells cX6_sells 3 none 1 0 0 (D, cy, sa) [.ref (ma 0), .int (nI p)] (wM cy ma r e g bf hy sv bu le pa) (fun w u => w = none ∧ ∃ g', u = wM cy ma r e g' bf hy sv bu le pa ∧ Rr (rmv (exT (exS v p 3) p) p) g') := by
  have hv0 := hv
  obtain ⟨wa, wm, wb, ws, wt, wc, wB, wR, wL, wK, wP⟩ := hv
  refine MG_by (own := RX6) (L := [some (.ref (ma 0)), some (.int (nI p)), none]) (by decide +kernel) rfl rfl (Nat.le_of_ble_eq_true rfl) 1 rfl (fun X hX hE hnL hG hcy hnm => ?_)
  obtain ⟨bz, ba, -, -, -, bq⟩ := wB p hp
  refine r_aload_n (pc' := 1) hX dX6_sells_0 rfl rfl ?_
  refine r_get (pc' := 4) (v := .ref (ma 1)) hX dX6_sells_1 f_X6_7 0 rfl rfl rfl ?_
  refine r_bipush (pc' := 6) (v := nI 10) hX dX6_sells_4 rfl rfl ?_
  refine r_dup2 (pc' := 7) hX dX6_sells_6 rfl rfl rfl ?_
  refine r_iald_N (pc' := 8) hX dX6_sells_7 (by rw [hcy]) 1 rfl (by omega) (by decide) rfl ?_
  change V X 0 0 (wM cy ma r e g bf hy sv bu le pa) [some (.ref (ma 0)), some (.int (nI p)), none] [.int (nI (g 10)), .int (nI 10), .ref (ma 1)] 8
  rw [hR.sol]
  refine r_aload_n (pc' := 9) hX dX6_sells_8 rfl rfl ?_
  refine r_get (pc' := 12) (v := .ref (ma 1)) hX dX6_sells_9 f_X6_7 0 rfl rfl rfl ?_
  refine r_bipush (pc' := 14) (v := nI 63) hX dX6_sells_12 rfl rfl ?_
  refine r_iload_n (pc' := 15) hX dX6_sells_14 rfl rfl ?_
  refine r_iadd_N (pc' := 16) hX dX6_sells_15  rfl ?_
  refine r_iald_N (pc' := 17) hX dX6_sells_16 (by rw [hcy]) 1 rfl (by omega) (by decide) rfl ?_
  change V X 0 0 (wM cy ma r e g bf hy sv bu le pa) [some (.ref (ma 0)), some (.int (nI p)), none] [.int (nI (g (63 + p))), .int (nI (v 0 7)), .int (nI 10), .ref (ma 1)] 17
  rw [(hR.man (by omega))]
  refine r_iadd_N (pc' := 18) hX dX6_sells_17  rfl ?_
  refine r_iast_N (ws' := wM cy ma r e (up1 g 10 ((v 0 7) + (v (13 + p) 2))) bf hy sv bu le pa) (pc' := 19) hX dX6_sells_18 (by rw [hcy]) 1 rfl (by omega) (by decide) rfl rfl ?_
  refine r_iconst (pc' := 20) (v := nI 0) hX dX6_sells_19 rfl rfl ?_
  refine r_istore_n (L' := [some (.ref (ma 0)), some (.int (nI p)), some (.int (nI 0))]) (pc' := 21) hX dX6_sells_20 (nlt hnL (by decide)) rfl rfl rfl ?_
  have loop21 : ∀ (n9 : Nat) (t : Nat) (w : SV) (gs : Nat → Nat), 3 - t < n9 → (t ≤ 3) → (w = exT (exS v p t) p) → (Rr w gs) → V X 0 0 (wM cy ma r e gs bf hy sv bu le pa) [some (.ref (ma 0)), some (.int (nI p)), some (.int (nI t))] [] 21 := by
    intro n9
    induction n9 with
    | zero => intro t w gs hm; exact absurd hm (Nat.not_lt_zero _)
    | succ n9 ih21 =>
      intro t w gs hm ht hw hRs
      refine r_iload_n (pc' := 22) hX dX6_sells_21 rfl rfl ?_
      refine r_iconst (pc' := 23) (v := nI 3) hX dX6_sells_22 rfl rfl ?_
      refine r_icmp_ge_N (tgt := 68) (pc' := 26) hX dX6_sells_23 (by decide) rfl (by omega) (by omega) (fun c23 => ?_) (fun c23 => ?_)
      · have e4 : w 0 4 = v 0 4 := by rw [hw]; exact (up2_at2 (by omega)).trans (congrFun (exS_b (by decide) t) 4)
        have e3 : w (13 + p) 3 = v (13 + p) 3 := by rw [hw]; exact (congrFun (up2_ne (by omega)) 3).trans (congrFun (exS_b (by omega) t) 3)
        have e7 : gs 7 = v 0 4 := hRs.bat.trans e4
        have ht3 : t = 3 := by omega
        refine r_aload_n (pc' := 69) hX dX6_sells_68 rfl rfl ?_
        refine r_iload_n (pc' := 70) hX dX6_sells_69 rfl rfl ?_
        refine V_call0 (k' := 0) (n' := 0) (pc' := 73) hX (r_runV (As := [.int (nI p)]) hX dX6_sells_70 k_X6_109 (fun l9 hl9 => cM_drops (by omega) (by omega)) hG ⟨8, _, TX6, 16, List.mem_cons_self, rfl⟩ rfl rfl (Nat.le_of_ble_eq_true rfl) (by decide) (by decide) (by decide) (by decide)) rfl rfl rfl (fun w9 u9 hp9 => ?_)
        obtain ⟨rfl, rfl⟩ := hp9
        change V X 0 0 (wM cy ma r e (drG gs p) bf hy sv bu le pa) [some (.ref (ma 0)), some (.int (nI p)), some (.int (nI t))] [] 73
        have hf := hRs.drop (p := p) (by omega) (by omega)
        rw [hw, ht3] at hf
        exact r_vreturn hX hE dX6_sells_73 rfl ⟨rfl, _, rfl, hf⟩ (by decide) (by decide)
      · have e4 : w 0 4 = v 0 4 := by rw [hw]; exact (up2_at2 (by omega)).trans (congrFun (exS_b (by decide) t) 4)
        have e3 : w (13 + p) 3 = v (13 + p) 3 := by rw [hw]; exact (congrFun (up2_ne (by omega)) 3).trans (congrFun (exS_b (by omega) t) 3)
        have e7 : gs 7 = v 0 4 := hRs.bat.trans e4
        refine r_aload_n (pc' := 27) hX dX6_sells_26 rfl rfl ?_
        refine r_get (pc' := 30) (v := .ref (ma 1)) hX dX6_sells_27 f_X6_7 0 rfl rfl rfl ?_
        refine r_bipush (pc' := 32) (v := nI 15) hX dX6_sells_30 rfl rfl ?_
        refine r_iload_n (pc' := 33) hX dX6_sells_32 rfl rfl ?_
        refine r_iadd_N (pc' := 34) hX dX6_sells_33  rfl ?_
        refine r_dup2 (pc' := 35) hX dX6_sells_34 rfl rfl rfl ?_
        refine r_iald_N (pc' := 36) hX dX6_sells_35 (by rw [hcy]) 1 rfl (by omega) (by decide) rfl ?_
        change V X 0 0 (wM cy ma r e gs bf hy sv bu le pa) [some (.ref (ma 0)), some (.int (nI p)), some (.int (nI t))] [.int (nI (gs (15 + t))), .int (nI (15 + t)), .ref (ma 1)] 36
        rw [(hRs.smt (by omega))]
        refine r_aload_n (pc' := 37) hX dX6_sells_36 rfl rfl ?_
        refine r_get (pc' := 40) (v := .ref (ma 1)) hX dX6_sells_37 f_X6_7 0 rfl rfl rfl ?_
        refine r_bipush (pc' := 42) (v := nI 63) hX dX6_sells_40 rfl rfl ?_
        refine r_iload_n (pc' := 43) hX dX6_sells_42 rfl rfl ?_
        refine r_iadd_N (pc' := 44) hX dX6_sells_43  rfl ?_
        refine r_iald_N (pc' := 45) hX dX6_sells_44 (by rw [hcy]) 1 rfl (by omega) (by decide) rfl ?_
        change V X 0 0 (wM cy ma r e gs bf hy sv bu le pa) [some (.ref (ma 0)), some (.int (nI p)), some (.int (nI t))] [.int (nI (gs (63 + p))), .int (nI (w 5 t)), .int (nI (15 + t)), .ref (ma 1)] 45
        rw [(hRs.man (by omega))]
        refine r_aload_n (pc' := 46) hX dX6_sells_45 rfl rfl ?_
        refine r_aload_n (pc' := 47) hX dX6_sells_46 rfl rfl ?_
        refine r_get (pc' := 50) (v := .ref (ma 1)) hX dX6_sells_47 f_X6_7 0 rfl rfl rfl ?_
        refine r_bipush (pc' := 52) (v := nI 55) hX dX6_sells_50 rfl rfl ?_
        refine r_iload_n (pc' := 53) hX dX6_sells_52 rfl rfl ?_
        refine r_iadd_N (pc' := 54) hX dX6_sells_53  rfl ?_
        refine r_iald_N (pc' := 55) hX dX6_sells_54 (by rw [hcy]) 1 rfl (by omega) (by decide) rfl ?_
        change V X 0 0 (wM cy ma r e gs bf hy sv bu le pa) [some (.ref (ma 0)), some (.int (nI p)), some (.int (nI t))] [.int (nI (gs (55 + p))), .ref (ma 0), .int (nI (w (13 + p) 2)), .int (nI (w 5 t)), .int (nI (15 + t)), .ref (ma 1)] 55
        rw [(hRs.aly (by omega))]
        refine r_iload_n (pc' := 56) hX dX6_sells_55 rfl rfl ?_
        refine V_call0 (k' := 0) (n' := 0) (pc' := 59) hX (r_runV (As := [.int (nI (w (13 + p) 3)), .int (nI t)]) hX dX6_sells_56 k_X6_53 (fun l9 hl9 => cM_part hRs (by omega) (by omega)) hG ⟨8, _, TX6, 16, List.mem_cons_self, rfl⟩ rfl rfl (Nat.le_of_ble_eq_true rfl) (by decide) (by decide) (by decide) (by decide)) rfl rfl rfl (fun w9 u9 hp9 => ?_)
        obtain ⟨rfl, rfl⟩ := hp9
        change V X 0 0 (wM cy ma r e gs bf hy sv bu le pa) [some (.ref (ma 0)), some (.int (nI p)), some (.int (nI t))] [.int (nI (w (7 + (w (13 + p) 3)) t)), .int (nI (w (13 + p) 2)), .int (nI (w 5 t)), .int (nI (15 + t)), .ref (ma 1)] 59
        refine r_imul_N (pc' := 60) hX dX6_sells_59  rfl ?_
        refine r_iadd_N (pc' := 61) hX dX6_sells_60  rfl ?_
        refine r_iast_N (ws' := wM cy ma r e (up1 gs (15 + t) ((w 5 t) + ((w (13 + p) 2) * (w (7 + (w (13 + p) 3)) t)))) bf hy sv bu le pa) (pc' := 62) hX dX6_sells_61 (by rw [hcy]) 1 rfl (by omega) (by decide) rfl rfl ?_
        refine r_iinc_N (b := 1) (L' := [some (.ref (ma 0)), some (.int (nI p)), some (.int (nI (t + 1)))]) (pc' := 65) hX dX6_sells_62 rfl (nlt hnL (by decide)) rfl rfl rfl ?_
        refine r_goto (tgt := 21) hX dX6_sells_65 (by decide) ?_
        exact ih21 (t + 1) (exT (exS v p (t + 1)) p) (up1 gs (15 + t) ((w 5 t) + ((w (13 + p) 2) * (w (7 + (w (13 + p) 3)) t)))) (by omega) (by omega) rfl (by rw [exam_step hw]; exact hRs.p3 (b := 5) (k := t) (j := 15 + t) (by omega) (by omega) rfl)
  exact loop21 _ 0 (exT v p) (up1 g 10 ((v 0 7) + (v (13 + p) 2))) (Nat.lt_succ_self _) (by omega) rfl (hR.p0 (k := 7) (x := v 0 7 + v (13 + p) 2) (by omega) (by omega) rfl)

set_option maxRecDepth 20000 in
set_option maxHeartbeats 4000000 in
theorem cM_inspects {l : Launch} {D : va_G} {cy : Nat → ClassId} {sa : Nat → Nat} {ma : Nat → Nat} {r : Nat → Nat} {e : Nat → Int32} {g bf hy sv bu le : Nat → Nat} {pa : Nat → Int32} {v : SV} {x : Int32} (hv : Wf v) (hR : Rr v g)  : MG l yX6_inspects cX6_inspects 4 (some .int) 3 0 0 (D, cy, sa) [.ref (ma 0), .int x] (wM cy ma r e g bf hy sv bu le pa) (PM (oExam v x) 0 0 2 0 1 (fun t q => wM cy ma (up1 r 4 t) e q bf hy sv bu le pa)) := by
  have hv0 := hv
  obtain ⟨wa, wm, wb, ws, wt, wc, wB, wR, wL, wK, wP⟩ := hv
  refine MG_by (own := RX6) (L := [some (.ref (ma 0)), some (.int x), none, none]) (by decide +kernel) rfl rfl (Nat.le_of_ble_eq_true rfl) 2 rfl (fun X hX hE hnL hG hcy hnm => ?_)
  refine r_aload_n (pc' := 1) hX dX6_inspects_0 rfl rfl ?_
  refine r_iload_n (pc' := 2) hX dX6_inspects_1 rfl rfl ?_
  refine V_call0 (k' := 0) (n' := 0) (pc' := 5) hX (r_runV (As := [.int x]) hX dX6_inspects_2 k_X6_113 (fun l9 hl9 => cM_placeOf hv0 hR) hG ⟨8, _, TX6, 16, List.mem_cons_self, rfl⟩ rfl rfl (Nat.le_of_ble_eq_true rfl) (by decide) (by decide) (by decide) (by decide)) rfl rfl rfl (fun w9 u9 hp9 => ?_)
  obtain ⟨rfl, rfl⟩ := hp9
  by_cases hs : plc v x.toInt < v 0 4
  · rw [if_pos hs]
    obtain ⟨pl, hpl⟩ : ∃ z, z = plc v x.toInt := ⟨_, rfl⟩
    rw [← hpl] at hs ⊢
    obtain ⟨bz, ba, bf9, b0, b1, bq⟩ := wB pl hs
    change V X 0 0 (wM cy ma r e g bf hy sv bu le pa) [some (.ref (ma 0)), some (.int x), none, none] [.int (nI pl)] 5
    refine r_istore_n (L' := [some (.ref (ma 0)), some (.int x), some (.int (nI pl)), none]) (pc' := 6) hX dX6_inspects_5 (nlt hnL (by decide)) rfl rfl rfl ?_
    refine r_iload_n (pc' := 7) hX dX6_inspects_6 rfl rfl ?_
    refine r_iconst (pc' := 8) (v := (-1)) hX dX6_inspects_7 rfl rfl ?_
    refine r_icmp_ne_I (tgt := 17) (pc' := 11) hX dX6_inspects_8 (by decide) rfl (nI_I (by omega)) (by decide : (-1 : Int32).toInt = -1) (fun c8 => ?_) (fun c8 => ?_)
    · refine r_aload_n (pc' := 18) hX dX6_inspects_17 rfl rfl ?_
      refine r_get (pc' := 21) (v := .ref (ma 1)) hX dX6_inspects_18 f_X6_7 0 rfl rfl rfl ?_
      refine r_bipush (pc' := 23) (v := nI 79) hX dX6_inspects_21 rfl rfl ?_
      refine r_iload_n (pc' := 24) hX dX6_inspects_23 rfl rfl ?_
      refine r_iadd_N (pc' := 25) hX dX6_inspects_24  rfl ?_
      refine r_iald_N (pc' := 26) hX dX6_inspects_25 (by rw [hcy]) 1 rfl (by omega) (by decide) rfl ?_
      change V X 0 0 (wM cy ma r e g bf hy sv bu le pa) [some (.ref (ma 0)), some (.int x), some (.int (nI pl)), none] [.int (nI (g (79 + pl)))] 26
      rw [(hR.fai (by omega))]
      refine r_iconst (pc' := 27) (v := nI 1) hX dX6_inspects_26 rfl rfl ?_
      refine r_icmp_ne_N (tgt := 36) (pc' := 30) hX dX6_inspects_27 (by decide) rfl (by omega) (by omega) (fun c27 => ?_) (fun c27 => ?_)
      · refine r_aload_n (pc' := 37) hX dX6_inspects_36 rfl rfl ?_
        refine r_iload_n (pc' := 38) hX dX6_inspects_37 rfl rfl ?_
        refine r_aload_n (pc' := 39) hX dX6_inspects_38 rfl rfl ?_
        refine r_get (pc' := 42) (v := .ref (ma 1)) hX dX6_inspects_39 f_X6_7 0 rfl rfl rfl ?_
        refine r_iconst (pc' := 43) (v := nI 3) hX dX6_inspects_42 rfl rfl ?_
        refine r_iald_N (pc' := 44) hX dX6_inspects_43 (by rw [hcy]) 1 rfl (by omega) (by decide) rfl ?_
        change V X 0 0 (wM cy ma r e g bf hy sv bu le pa) [some (.ref (ma 0)), some (.int x), some (.int (nI pl)), none] [.int (nI (g 3)), .int (nI pl), .ref (ma 0)] 44
        rw [hR.tol]
        refine V_call0 (k' := 0) (n' := 0) (pc' := 47) hX (r_runV (As := [.int (nI pl), .int (nI (v 0 2))]) hX dX6_inspects_44 k_X6_116 (fun l9 hl9 => cM_passes hv0 hR (by omega) (by omega)) hG ⟨8, _, TX6, 16, List.mem_cons_self, rfl⟩ rfl rfl (Nat.le_of_ble_eq_true rfl) (by decide) (by decide) (by decide) (by decide)) rfl rfl rfl (fun w9 u9 hp9 => ?_)
        obtain ⟨rfl, rfl⟩ := hp9
        change V X 0 0 (wM cy ma r e g bf hy sv bu le pa) [some (.ref (ma 0)), some (.int x), some (.int (nI pl)), none] [.int (bI (pas (v (21 + pl)) (v (13 + pl) 2) (v 0 3) (v 0 2)))] 47
        refine r_istore_n (L' := [some (.ref (ma 0)), some (.int x), some (.int (nI pl)), some (.int (bI (pas (v (21 + pl)) (v (13 + pl) 2) (v 0 3) (v 0 2))))]) (pc' := 48) hX dX6_inspects_47 (nlt hnL (by decide)) rfl rfl rfl ?_
        refine r_iload_n (pc' := 49) hX dX6_inspects_48 rfl rfl ?_
        refine r_if_eq_B (tgt := 60) (pc' := 52) hX dX6_inspects_49 (by decide) rfl (fun c49 => ?_) (fun c49 => ?_)
        · rw [show bI (pas (v (21 + pl)) (v (13 + pl) 2) (v 0 3) (v 0 2)) = nI 0 from (bI_0 c49).symm]
          have e9 : oExam v x = (nI 0, up2 v (13 + pl) 4 1) := by unfold oExam; rw [← hpl, if_pos hs, if_pos (by omega), if_neg c49]
          refine r_aload_n (pc' := 61) hX dX6_inspects_60 rfl rfl ?_
          refine r_get (pc' := 64) (v := .ref (ma 1)) hX dX6_inspects_61 f_X6_7 0 rfl rfl rfl ?_
          refine r_bipush (pc' := 66) (v := nI 79) hX dX6_inspects_64 rfl rfl ?_
          refine r_iload_n (pc' := 67) hX dX6_inspects_66 rfl rfl ?_
          refine r_iadd_N (pc' := 68) hX dX6_inspects_67  rfl ?_
          refine r_iconst (pc' := 69) (v := nI 1) hX dX6_inspects_68 rfl rfl ?_
          refine r_iast_N (ws' := wM cy ma r e (up1 g (79 + pl) 1) bf hy sv bu le pa) (pc' := 70) hX dX6_inspects_69 (by rw [hcy]) 1 rfl (by omega) (by decide) rfl rfl ?_
          refine r_aload_n (pc' := 71) hX dX6_inspects_70 rfl rfl ?_
          refine r_iload_n (pc' := 72) hX dX6_inspects_71 rfl rfl ?_
          refine r_if_eq_N (tgt := 79) (pc' := 75) hX dX6_inspects_72 (by decide) rfl (by omega) (fun c72 => ?_) (fun c72 => ?_)
          · refine r_iconst (pc' := 80) (v := nI 0) hX dX6_inspects_79 rfl rfl ?_
            refine V_call0 (k' := 0) (n' := 0) (pc' := 83) hX (r_runV (As := [.int (nI 0)]) hX dX6_inspects_80 k_X6_70 (fun l9 hl9 => cM_done) hG ⟨8, _, TX6, 16, List.mem_cons_self, rfl⟩ rfl rfl (Nat.le_of_ble_eq_true rfl) (by decide) (by decide) (by decide) (by decide)) rfl rfl rfl (fun w9 u9 hp9 => ?_)
            obtain ⟨rfl, rfl⟩ := hp9
            change V X 0 0 (wM cy ma (up1 r 4 0) e (up1 g (79 + pl) 1) bf hy sv bu le pa) [some (.ref (ma 0)), some (.int x), some (.int (nI pl)), some (.int (nI 0))] [.int (nI 0)] 83
            exact r_ireturn hX hE dX6_inspects_83 rfl (PM_good e9 (by omega) (hR.p13 (i := pl) (k := 4) (x := 1) (j := 79 + pl) (by omega) (by omega) (by omega) (ix_bat (k := 4) (by omega)).symm) rfl) (by decide) (by decide)
          · exact absurd c72 (by omega)
        · rw [show bI (pas (v (21 + pl)) (v (13 + pl) 2) (v 0 3) (v 0 2)) = nI 1 from (bI_1 c49).symm]
          have e9 : oExam v x = (nI 1, rmv (exT (exS v pl 3) pl) pl) := by unfold oExam; rw [← hpl, if_pos hs, if_pos (by omega), if_pos c49]
          refine r_aload_n (pc' := 53) hX dX6_inspects_52 rfl rfl ?_
          refine r_iload_n (pc' := 54) hX dX6_inspects_53 rfl rfl ?_
          refine V_call0 (k' := 0) (n' := 0) (pc' := 57) hX (r_runV (As := [.int (nI pl)]) hX dX6_inspects_54 k_X6_119 (fun l9 hl9 => cM_sells hv0 hR (by omega)) hG ⟨8, _, TX6, 16, List.mem_cons_self, rfl⟩ rfl rfl (Nat.le_of_ble_eq_true rfl) (by decide) (by decide) (by decide) (by decide)) rfl rfl rfl (fun w9 u9 hp9 => ?_)
          obtain ⟨rfl, g', rfl, hg'⟩ := hp9
          change V X 0 0 (wM cy ma r e g' bf hy sv bu le pa) [some (.ref (ma 0)), some (.int x), some (.int (nI pl)), some (.int (nI 1))] [] 57
          refine r_goto (tgt := 70) hX dX6_inspects_57 (by decide) ?_
          refine r_aload_n (pc' := 71) hX dX6_inspects_70 rfl rfl ?_
          refine r_iload_n (pc' := 72) hX dX6_inspects_71 rfl rfl ?_
          refine r_if_eq_N (tgt := 79) (pc' := 75) hX dX6_inspects_72 (by decide) rfl (by omega) (fun c72 => ?_) (fun c72 => ?_)
          · exact absurd c72 (by omega)
          · refine r_iconst (pc' := 76) (v := nI 1) hX dX6_inspects_75 rfl rfl ?_
            refine r_goto (tgt := 80) hX dX6_inspects_76 (by decide) ?_
            refine V_call0 (k' := 0) (n' := 0) (pc' := 83) hX (r_runV (As := [.int (nI 1)]) hX dX6_inspects_80 k_X6_70 (fun l9 hl9 => cM_done) hG ⟨8, _, TX6, 16, List.mem_cons_self, rfl⟩ rfl rfl (Nat.le_of_ble_eq_true rfl) (by decide) (by decide) (by decide) (by decide)) rfl rfl rfl (fun w9 u9 hp9 => ?_)
            obtain ⟨rfl, rfl⟩ := hp9
            change V X 0 0 (wM cy ma (up1 r 4 0) e g' bf hy sv bu le pa) [some (.ref (ma 0)), some (.int x), some (.int (nI pl)), some (.int (nI 1))] [.int (nI 1)] 83
            exact r_ireturn hX hE dX6_inspects_83 rfl (PM_good e9 (by omega) hg' rfl) (by decide) (by decide)
      · refine r_aload_n (pc' := 31) hX dX6_inspects_30 rfl rfl ?_
        refine r_iconst (pc' := 32) (v := nI 2) hX dX6_inspects_31 rfl rfl ?_
        refine V_call0 (k' := 0) (n' := 0) (pc' := 35) hX (r_runV (As := [.int (nI 2)]) hX dX6_inspects_32 k_X6_67 (fun l9 hl9 => cM_fails (by omega)) hG ⟨8, _, TX6, 16, List.mem_cons_self, rfl⟩ rfl rfl (Nat.le_of_ble_eq_true rfl) (by decide) (by decide) (by decide) (by decide)) rfl rfl rfl (fun w9 u9 hp9 => ?_)
        obtain ⟨rfl, rfl⟩ := hp9
        change V X 0 0 (wM cy ma (up1 r 4 2) e g bf hy sv bu le pa) [some (.ref (ma 0)), some (.int x), some (.int (nI pl)), none] [.int (nI 0)] 35
        have e9 : oExam v x = ((-3), v) := by unfold oExam; rw [← hpl, if_pos hs, if_neg (by omega)]
        exact r_ireturn hX hE dX6_inspects_35 rfl (PM_bad e9 (by decide) (by decide) hR rfl) (by decide) (by decide)
    · exact absurd c8 (by omega)
  · rw [if_neg hs]
    change V X 0 0 (wM cy ma r e g bf hy sv bu le pa) [some (.ref (ma 0)), some (.int x), none, none] [.int (-1)] 5
    refine r_istore_n (L' := [some (.ref (ma 0)), some (.int x), some (.int (-1)), none]) (pc' := 6) hX dX6_inspects_5 (nlt hnL (by decide)) rfl rfl rfl ?_
    refine r_iload_n (pc' := 7) hX dX6_inspects_6 rfl rfl ?_
    refine r_iconst (pc' := 8) (v := (-1)) hX dX6_inspects_7 rfl rfl ?_
    refine r_icmp_ne_I (tgt := 17) (pc' := 11) hX dX6_inspects_8 (by decide) rfl (by decide : (-1 : Int32).toInt = -1) (by decide : (-1 : Int32).toInt = -1) (fun c8 => ?_) (fun c8 => ?_)
    · exact absurd c8 (by omega)
    · refine r_aload_n (pc' := 12) hX dX6_inspects_11 rfl rfl ?_
      refine r_iconst (pc' := 13) (v := nI 1) hX dX6_inspects_12 rfl rfl ?_
      refine V_call0 (k' := 0) (n' := 0) (pc' := 16) hX (r_runV (As := [.int (nI 1)]) hX dX6_inspects_13 k_X6_67 (fun l9 hl9 => cM_fails (by omega)) hG ⟨8, _, TX6, 16, List.mem_cons_self, rfl⟩ rfl rfl (Nat.le_of_ble_eq_true rfl) (by decide) (by decide) (by decide) (by decide)) rfl rfl rfl (fun w9 u9 hp9 => ?_)
      obtain ⟨rfl, rfl⟩ := hp9
      change V X 0 0 (wM cy ma (up1 r 4 1) e g bf hy sv bu le pa) [some (.ref (ma 0)), some (.int x), some (.int (-1)), none] [.int (nI 0)] 16
      have e9 : oExam v x = ((-5), v) := by unfold oExam; rw [if_neg hs]
      exact r_ireturn hX hE dX6_inspects_16 rfl (PM_bad e9 (by decide) (by decide) hR rfl) (by decide) (by decide)

set_option maxRecDepth 20000 in
set_option maxHeartbeats 4000000 in
theorem cM_melts {l : Launch} {D : va_G} {cy : Nat → ClassId} {sa : Nat → Nat} {ma : Nat → Nat} {r : Nat → Nat} {e : Nat → Int32} {g bf hy sv bu le : Nat → Nat} {pa : Nat → Int32} {v : SV} {x : Int32} (hv : Wf v) (hR : Rr v g)  : MG l yX6_melts cX6_melts 7 (some .int) 1 0 0 (D, cy, sa) [.ref (ma 0), .int x] (wM cy ma r e g bf hy sv bu le pa) (PM (oMelt v x) 0 0 2 0 1 (fun t q => wM cy ma (up1 r 4 t) e q bf hy sv bu le pa)) := by
  have hv0 := hv
  obtain ⟨wa, wm, wb, ws, wt, wc, wB, wR, wL, wK, wP⟩ := hv
  refine MG_by (own := RX6) (L := [some (.ref (ma 0)), some (.int x), none, none, none, none, none]) (by decide +kernel) rfl rfl (Nat.le_of_ble_eq_true rfl) 5 rfl (fun X hX hE hnL hG hcy hnm => ?_)
  refine r_aload_n (pc' := 1) hX dX6_melts_0 rfl rfl ?_
  refine r_iload_n (pc' := 2) hX dX6_melts_1 rfl rfl ?_
  refine V_call0 (k' := 0) (n' := 0) (pc' := 5) hX (r_runV (As := [.int x]) hX dX6_melts_2 k_X6_113 (fun l9 hl9 => cM_placeOf hv0 hR) hG ⟨8, _, TX6, 16, List.mem_cons_self, rfl⟩ rfl rfl (Nat.le_of_ble_eq_true rfl) (by decide) (by decide) (by decide) (by decide)) rfl rfl rfl (fun w9 u9 hp9 => ?_)
  obtain ⟨rfl, rfl⟩ := hp9
  by_cases hs : plc v x.toInt < v 0 4
  · rw [if_pos hs]
    obtain ⟨pl, hpl⟩ : ∃ z, z = plc v x.toInt := ⟨_, rfl⟩
    rw [← hpl] at hs ⊢
    obtain ⟨bz, ba, bf9, b0, b1, bq⟩ := wB pl hs
    change V X 0 0 (wM cy ma r e g bf hy sv bu le pa) [some (.ref (ma 0)), some (.int x), none, none, none, none, none] [.int (nI pl)] 5
    refine r_istore_n (L' := [some (.ref (ma 0)), some (.int x), some (.int (nI pl)), none, none, none, none]) (pc' := 6) hX dX6_melts_5 (nlt hnL (by decide)) rfl rfl rfl ?_
    refine r_iload_n (pc' := 7) hX dX6_melts_6 rfl rfl ?_
    refine r_iconst (pc' := 8) (v := (-1)) hX dX6_melts_7 rfl rfl ?_
    refine r_icmp_ne_I (tgt := 17) (pc' := 11) hX dX6_melts_8 (by decide) rfl (nI_I (by omega)) (by decide : (-1 : Int32).toInt = -1) (fun c8 => ?_) (fun c8 => ?_)
    · refine r_aload_n (pc' := 18) hX dX6_melts_17 rfl rfl ?_
      refine r_get (pc' := 21) (v := .ref (ma 1)) hX dX6_melts_18 f_X6_7 0 rfl rfl rfl ?_
      refine r_bipush (pc' := 23) (v := nI 79) hX dX6_melts_21 rfl rfl ?_
      refine r_iload_n (pc' := 24) hX dX6_melts_23 rfl rfl ?_
      refine r_iadd_N (pc' := 25) hX dX6_melts_24  rfl ?_
      refine r_iald_N (pc' := 26) hX dX6_melts_25 (by rw [hcy]) 1 rfl (by omega) (by decide) rfl ?_
      change V X 0 0 (wM cy ma r e g bf hy sv bu le pa) [some (.ref (ma 0)), some (.int x), some (.int (nI pl)), none, none, none, none] [.int (nI (g (79 + pl)))] 26
      rw [(hR.fai (by omega))]
      refine r_if_ne_N (tgt := 35) (pc' := 29) hX dX6_melts_26 (by decide) rfl (by omega) (fun c26 => ?_) (fun c26 => ?_)
      · refine r_iconst (pc' := 36) (v := nI 0) hX dX6_melts_35 rfl rfl ?_
        refine r_istore_n (L' := [some (.ref (ma 0)), some (.int x), some (.int (nI pl)), some (.int (nI 0)), none, none, none]) (pc' := 37) hX dX6_melts_36 (nlt hnL (by decide)) rfl rfl rfl ?_
        refine r_iconst (pc' := 38) (v := nI 0) hX dX6_melts_37 rfl rfl ?_
        refine r_istore (L' := [some (.ref (ma 0)), some (.int x), some (.int (nI pl)), some (.int (nI 0)), some (.int (nI 0)), none, none]) (pc' := 40) hX dX6_melts_38 (nlt hnL (by decide)) rfl rfl rfl ?_
        have loop40 : ∀ (n9 : Nat) (t : Nat) (w : SV) (gs : Nat → Nat) (z : Nat), 3 - t < n9 → (t ≤ 3) → (w = meL v pl t) → (Rr w gs) → (z = meR v pl t) → (z ≤ t * 81) → V X 0 0 (wM cy ma r e gs bf hy sv bu le pa) [some (.ref (ma 0)), some (.int x), some (.int (nI pl)), some (.int (nI z)), some (.int (nI t)), none, none] [] 40 := by
          intro n9
          induction n9 with
          | zero => intro t w gs z hm; exact absurd hm (Nat.not_lt_zero _)
          | succ n9 ih40 =>
            intro t w gs z hm ht hw hRs hz hzb
            refine r_iload (pc' := 42) hX dX6_melts_40 rfl rfl ?_
            refine r_iconst (pc' := 43) (v := nI 3) hX dX6_melts_42 rfl rfl ?_
            refine r_icmp_ge_N (tgt := 151) (pc' := 46) hX dX6_melts_43 (by decide) rfl (by omega) (by omega) (fun c43 => ?_) (fun c43 => ?_)
            · have e4 : w 0 4 = v 0 4 := by rw [hw]; exact congrFun (meL_b (by decide) (by decide) t) 4
              have e3 : w (13 + pl) 3 = v (13 + pl) 3 := by rw [hw]; exact congrFun (meL_b (by omega) (by omega) t) 3
              have e2 : w (13 + pl) 2 = v (13 + pl) 2 := by rw [hw]; exact congrFun (meL_b (by omega) (by omega) t) 2
              have e7 : gs 7 = v 0 4 := hRs.bat.trans e4
              have ht3 : t = 3 := by omega
              have e8 : w 0 8 = v 0 8 := by rw [hw]; exact congrFun (meL_b (by decide) (by decide) t) 8
              refine r_aload_n (pc' := 152) hX dX6_melts_151 rfl rfl ?_
              refine r_get (pc' := 155) (v := .ref (ma 1)) hX dX6_melts_152 f_X6_7 0 rfl rfl rfl ?_
              refine r_bipush (pc' := 157) (v := nI 11) hX dX6_melts_155 rfl rfl ?_
              refine r_dup2 (pc' := 158) hX dX6_melts_157 rfl rfl rfl ?_
              refine r_iald_N (pc' := 159) hX dX6_melts_158 (by rw [hcy]) 1 rfl (by omega) (by decide) rfl ?_
              change V X 0 0 (wM cy ma r e gs bf hy sv bu le pa) [some (.ref (ma 0)), some (.int x), some (.int (nI pl)), some (.int (nI z)), some (.int (nI t)), none, none] [.int (nI (gs 11)), .int (nI 11), .ref (ma 1)] 159
              rw [hRs.mel]
              refine r_aload_n (pc' := 160) hX dX6_melts_159 rfl rfl ?_
              refine r_get (pc' := 163) (v := .ref (ma 1)) hX dX6_melts_160 f_X6_7 0 rfl rfl rfl ?_
              refine r_bipush (pc' := 165) (v := nI 63) hX dX6_melts_163 rfl rfl ?_
              refine r_iload_n (pc' := 166) hX dX6_melts_165 rfl rfl ?_
              refine r_iadd_N (pc' := 167) hX dX6_melts_166  rfl ?_
              refine r_iald_N (pc' := 168) hX dX6_melts_167 (by rw [hcy]) 1 rfl (by omega) (by decide) rfl ?_
              change V X 0 0 (wM cy ma r e gs bf hy sv bu le pa) [some (.ref (ma 0)), some (.int x), some (.int (nI pl)), some (.int (nI z)), some (.int (nI t)), none, none] [.int (nI (gs (63 + pl))), .int (nI (w 0 8)), .int (nI 11), .ref (ma 1)] 168
              rw [(hRs.man (by omega))]
              refine r_iadd_N (pc' := 169) hX dX6_melts_168  rfl ?_
              refine r_iast_N (ws' := wM cy ma r e (up1 gs 11 ((w 0 8) + (w (13 + pl) 2))) bf hy sv bu le pa) (pc' := 170) hX dX6_melts_169 (by rw [hcy]) 1 rfl (by omega) (by decide) rfl rfl ?_
              refine r_aload_n (pc' := 171) hX dX6_melts_170 rfl rfl ?_
              refine r_iload_n (pc' := 172) hX dX6_melts_171 rfl rfl ?_
              have hRt : Rr (meT w pl) (up1 gs 11 (w 0 8 + w (13 + pl) 2)) := hRs.p0 (k := 8) (x := w 0 8 + w (13 + pl) 2) (by omega) (by omega) rfl
              have e4t : meT w pl 0 4 = v 0 4 := (up2_at2 (by omega)).trans e4
              have e7t : (up1 gs 11 (w 0 8 + w (13 + pl) 2)) 7 = v 0 4 := (up1_ne (by decide)).trans e7
              refine V_call0 (k' := 0) (n' := 0) (pc' := 175) hX (r_runV (As := [.int (nI pl)]) hX dX6_melts_172 k_X6_109 (fun l9 hl9 => cM_drops (by omega) (by omega)) hG ⟨8, _, TX6, 16, List.mem_cons_self, rfl⟩ rfl rfl (Nat.le_of_ble_eq_true rfl) (by decide) (by decide) (by decide) (by decide)) rfl rfl rfl (fun w9 u9 hp9 => ?_)
              obtain ⟨rfl, rfl⟩ := hp9
              change V X 0 0 (wM cy ma r e (drG (up1 gs 11 ((w 0 8) + (w (13 + pl) 2))) pl) bf hy sv bu le pa) [some (.ref (ma 0)), some (.int x), some (.int (nI pl)), some (.int (nI z)), some (.int (nI t)), none, none] [] 175
              refine r_aload_n (pc' := 176) hX dX6_melts_175 rfl rfl ?_
              refine r_iload_n (pc' := 177) hX dX6_melts_176 rfl rfl ?_
              refine V_call0 (k' := 0) (n' := 0) (pc' := 180) hX (r_runV (As := [.int (nI z)]) hX dX6_melts_177 k_X6_70 (fun l9 hl9 => cM_done) hG ⟨8, _, TX6, 16, List.mem_cons_self, rfl⟩ rfl rfl (Nat.le_of_ble_eq_true rfl) (by decide) (by decide) (by decide) (by decide)) rfl rfl rfl (fun w9 u9 hp9 => ?_)
              obtain ⟨rfl, rfl⟩ := hp9
              change V X 0 0 (wM cy ma (up1 r 4 0) e (drG (up1 gs 11 ((w 0 8) + (w (13 + pl) 2))) pl) bf hy sv bu le pa) [some (.ref (ma 0)), some (.int x), some (.int (nI pl)), some (.int (nI z)), some (.int (nI t)), none, none] [.int (nI z)] 180
              have hf := hRt.drop (p := pl) (by omega) (by omega)
              have e9 : oMelt v x = (nI z, rmv (meT w pl) pl) := by unfold oMelt; rw [← hpl, if_pos hs, if_pos (by omega), hz, ht3, hw, ht3]
              exact r_ireturn hX hE dX6_melts_180 rfl (PM_good e9 (by omega) hf rfl) (by decide) (by decide)
            · have e4 : w 0 4 = v 0 4 := by rw [hw]; exact congrFun (meL_b (by decide) (by decide) t) 4
              have e3 : w (13 + pl) 3 = v (13 + pl) 3 := by rw [hw]; exact congrFun (meL_b (by omega) (by omega) t) 3
              have e2 : w (13 + pl) 2 = v (13 + pl) 2 := by rw [hw]; exact congrFun (meL_b (by omega) (by omega) t) 2
              have e7 : gs 7 = v 0 4 := hRs.bat.trans e4
              have pr9 : w (7 + w (13 + pl) 3) t ≤ 9 := by rw [e3, hw, meL_b (by omega) (by omega)]; exact wR _ t (by omega) (by omega)
              refine r_aload_n (pc' := 47) hX dX6_melts_46 rfl rfl ?_
              refine r_aload_n (pc' := 48) hX dX6_melts_47 rfl rfl ?_
              refine r_get (pc' := 51) (v := .ref (ma 1)) hX dX6_melts_48 f_X6_7 0 rfl rfl rfl ?_
              refine r_bipush (pc' := 53) (v := nI 55) hX dX6_melts_51 rfl rfl ?_
              refine r_iload_n (pc' := 54) hX dX6_melts_53 rfl rfl ?_
              refine r_iadd_N (pc' := 55) hX dX6_melts_54  rfl ?_
              refine r_iald_N (pc' := 56) hX dX6_melts_55 (by rw [hcy]) 1 rfl (by omega) (by decide) rfl ?_
              change V X 0 0 (wM cy ma r e gs bf hy sv bu le pa) [some (.ref (ma 0)), some (.int x), some (.int (nI pl)), some (.int (nI z)), some (.int (nI t)), none, none] [.int (nI (gs (55 + pl))), .ref (ma 0)] 56
              rw [(hRs.aly (by omega))]
              refine r_iload (pc' := 58) hX dX6_melts_56 rfl rfl ?_
              refine V_call0 (k' := 0) (n' := 0) (pc' := 61) hX (r_runV (As := [.int (nI (w (13 + pl) 3)), .int (nI t)]) hX dX6_melts_58 k_X6_53 (fun l9 hl9 => cM_part hRs (by omega) (by omega)) hG ⟨8, _, TX6, 16, List.mem_cons_self, rfl⟩ rfl rfl (Nat.le_of_ble_eq_true rfl) (by decide) (by decide) (by decide) (by decide)) rfl rfl rfl (fun w9 u9 hp9 => ?_)
              obtain ⟨rfl, rfl⟩ := hp9
              change V X 0 0 (wM cy ma r e gs bf hy sv bu le pa) [some (.ref (ma 0)), some (.int x), some (.int (nI pl)), some (.int (nI z)), some (.int (nI t)), none, none] [.int (nI (w (7 + (w (13 + pl) 3)) t))] 61
              refine r_istore (L' := [some (.ref (ma 0)), some (.int x), some (.int (nI pl)), some (.int (nI z)), some (.int (nI t)), some (.int (nI (w (7 + (w (13 + pl) 3)) t))), none]) (pc' := 63) hX dX6_melts_61 (nlt hnL (by decide)) rfl rfl rfl ?_
              refine r_iload (pc' := 65) hX dX6_melts_63 rfl rfl ?_
              refine r_if_le_N (tgt := 75) (pc' := 68) hX dX6_melts_65 (by decide) rfl (by omega) (fun c65 => ?_) (fun c65 => ?_)
              · refine r_iconst (pc' := 76) (v := nI 0) hX dX6_melts_75 rfl rfl ?_
                refine r_istore (L' := [some (.ref (ma 0)), some (.int x), some (.int (nI pl)), some (.int (nI z)), some (.int (nI t)), some (.int (nI (w (7 + (w (13 + pl) 3)) t))), some (.int (nI 0))]) (pc' := 78) hX dX6_melts_76 (nlt hnL (by decide)) rfl rfl rfl ?_
                refine r_aload_n (pc' := 79) hX dX6_melts_78 rfl rfl ?_
                refine r_get (pc' := 82) (v := .ref (ma 1)) hX dX6_melts_79 f_X6_7 0 rfl rfl rfl ?_
                refine r_iconst (pc' := 83) (v := nI 0) hX dX6_melts_82 rfl rfl ?_
                refine r_iload (pc' := 85) hX dX6_melts_83 rfl rfl ?_
                refine r_iadd_N (pc' := 86) hX dX6_melts_85  rfl ?_
                refine r_dup2 (pc' := 87) hX dX6_melts_86 rfl rfl rfl ?_
                refine r_iald_N (pc' := 88) hX dX6_melts_87 (by rw [hcy]) 1 rfl (by omega) (by decide) rfl ?_
                change V X 0 0 (wM cy ma r e gs bf hy sv bu le pa) [some (.ref (ma 0)), some (.int x), some (.int (nI pl)), some (.int (nI z)), some (.int (nI t)), some (.int (nI (w (7 + (w (13 + pl) 3)) t))), some (.int (nI 0))] [.int (nI (gs (0 + t))), .int (nI (0 + t)), .ref (ma 1)] 88
                rw [(hRs.sto (by omega))]
                refine r_aload_n (pc' := 89) hX dX6_melts_88 rfl rfl ?_
                refine r_get (pc' := 92) (v := .ref (ma 1)) hX dX6_melts_89 f_X6_7 0 rfl rfl rfl ?_
                refine r_bipush (pc' := 94) (v := nI 63) hX dX6_melts_92 rfl rfl ?_
                refine r_iload_n (pc' := 95) hX dX6_melts_94 rfl rfl ?_
                refine r_iadd_N (pc' := 96) hX dX6_melts_95  rfl ?_
                refine r_iald_N (pc' := 97) hX dX6_melts_96 (by rw [hcy]) 1 rfl (by omega) (by decide) rfl ?_
                change V X 0 0 (wM cy ma r e gs bf hy sv bu le pa) [some (.ref (ma 0)), some (.int x), some (.int (nI pl)), some (.int (nI z)), some (.int (nI t)), some (.int (nI (w (7 + (w (13 + pl) 3)) t))), some (.int (nI 0))] [.int (nI (gs (63 + pl))), .int (nI (w 3 t)), .int (nI (0 + t)), .ref (ma 1)] 97
                rw [(hRs.man (by omega))]
                refine r_iload (pc' := 99) hX dX6_melts_97 rfl rfl ?_
                refine r_imul_N (pc' := 100) hX dX6_melts_99  rfl ?_
                refine r_iadd_N (pc' := 101) hX dX6_melts_100  rfl ?_
                refine r_iast_N (ws' := wM cy ma r e (up1 gs (0 + t) ((w 3 t) + ((w (13 + pl) 2) * 0))) bf hy sv bu le pa) (pc' := 102) hX dX6_melts_101 (by rw [hcy]) 1 rfl (by omega) (by decide) rfl rfl ?_
                refine r_aload_n (pc' := 103) hX dX6_melts_102 rfl rfl ?_
                refine r_get (pc' := 106) (v := .ref (ma 1)) hX dX6_melts_103 f_X6_7 0 rfl rfl rfl ?_
                refine r_bipush (pc' := 108) (v := nI 18) hX dX6_melts_106 rfl rfl ?_
                refine r_iload (pc' := 110) hX dX6_melts_108 rfl rfl ?_
                refine r_iadd_N (pc' := 111) hX dX6_melts_110  rfl ?_
                refine r_dup2 (pc' := 112) hX dX6_melts_111 rfl rfl rfl ?_
                refine r_iald_N (pc' := 113) hX dX6_melts_112 (by rw [hcy]) 1 rfl (by omega) (by decide) rfl ?_
                change V X 0 0 (wM cy ma r e (up1 gs (0 + t) ((w 3 t) + ((w (13 + pl) 2) * 0))) bf hy sv bu le pa) [some (.ref (ma 0)), some (.int x), some (.int (nI pl)), some (.int (nI z)), some (.int (nI t)), some (.int (nI (w (7 + (w (13 + pl) 3)) t))), some (.int (nI 0))] [.int (nI ((up1 gs (0 + t) ((w 3 t) + ((w (13 + pl) 2) * 0))) (18 + t))), .int (nI (18 + t)), .ref (ma 1)] 113
                rw [show ((up1 gs (0 + t) ((w 3 t) + ((w (13 + pl) 2) * 0))) (18 + t)) = (gs (18 + t)) from (up1_ne (f := gs) (i := 0 + t) (x := (w 3 t) + ((w (13 + pl) 2) * 0)) (j := 18 + t) (by omega))]
                rw [(hRs.los (by omega))]
                refine r_aload_n (pc' := 114) hX dX6_melts_113 rfl rfl ?_
                refine r_get (pc' := 117) (v := .ref (ma 1)) hX dX6_melts_114 f_X6_7 0 rfl rfl rfl ?_
                refine r_bipush (pc' := 119) (v := nI 63) hX dX6_melts_117 rfl rfl ?_
                refine r_iload_n (pc' := 120) hX dX6_melts_119 rfl rfl ?_
                refine r_iadd_N (pc' := 121) hX dX6_melts_120  rfl ?_
                refine r_iald_N (pc' := 122) hX dX6_melts_121 (by rw [hcy]) 1 rfl (by omega) (by decide) rfl ?_
                change V X 0 0 (wM cy ma r e (up1 gs (0 + t) ((w 3 t) + ((w (13 + pl) 2) * 0))) bf hy sv bu le pa) [some (.ref (ma 0)), some (.int x), some (.int (nI pl)), some (.int (nI z)), some (.int (nI t)), some (.int (nI (w (7 + (w (13 + pl) 3)) t))), some (.int (nI 0))] [.int (nI ((up1 gs (0 + t) ((w 3 t) + ((w (13 + pl) 2) * 0))) (63 + pl))), .int (nI (w 6 t)), .int (nI (18 + t)), .ref (ma 1)] 122
                rw [show ((up1 gs (0 + t) ((w 3 t) + ((w (13 + pl) 2) * 0))) (63 + pl)) = (gs (63 + pl)) from (up1_ne (f := gs) (i := 0 + t) (x := (w 3 t) + ((w (13 + pl) 2) * 0)) (j := 63 + pl) (by omega))]
                rw [(hRs.man (by omega))]
                refine r_iload (pc' := 124) hX dX6_melts_122 rfl rfl ?_
                refine r_iload (pc' := 126) hX dX6_melts_124 rfl rfl ?_
                refine r_isub_N (pc' := 127) hX dX6_melts_126 (by omega) rfl ?_
                refine r_imul_N (pc' := 128) hX dX6_melts_127  rfl ?_
                refine r_iadd_N (pc' := 129) hX dX6_melts_128  rfl ?_
                refine r_iast_N (ws' := wM cy ma r e (up1 (up1 gs (0 + t) ((w 3 t) + ((w (13 + pl) 2) * 0))) (18 + t) ((w 6 t) + ((w (13 + pl) 2) * ((w (7 + (w (13 + pl) 3)) t) - 0)))) bf hy sv bu le pa) (pc' := 130) hX dX6_melts_129 (by rw [hcy]) 1 rfl (by omega) (by decide) rfl rfl ?_
                refine r_iload_n (pc' := 131) hX dX6_melts_130 rfl rfl ?_
                refine r_aload_n (pc' := 132) hX dX6_melts_131 rfl rfl ?_
                refine r_get (pc' := 135) (v := .ref (ma 1)) hX dX6_melts_132 f_X6_7 0 rfl rfl rfl ?_
                refine r_bipush (pc' := 137) (v := nI 63) hX dX6_melts_135 rfl rfl ?_
                refine r_iload_n (pc' := 138) hX dX6_melts_137 rfl rfl ?_
                refine r_iadd_N (pc' := 139) hX dX6_melts_138  rfl ?_
                refine r_iald_N (pc' := 140) hX dX6_melts_139 (by rw [hcy]) 1 rfl (by omega) (by decide) rfl ?_
                change V X 0 0 (wM cy ma r e (up1 (up1 gs (0 + t) ((w 3 t) + ((w (13 + pl) 2) * 0))) (18 + t) ((w 6 t) + ((w (13 + pl) 2) * ((w (7 + (w (13 + pl) 3)) t) - 0)))) bf hy sv bu le pa) [some (.ref (ma 0)), some (.int x), some (.int (nI pl)), some (.int (nI z)), some (.int (nI t)), some (.int (nI (w (7 + (w (13 + pl) 3)) t))), some (.int (nI 0))] [.int (nI ((up1 (up1 gs (0 + t) ((w 3 t) + ((w (13 + pl) 2) * 0))) (18 + t) ((w 6 t) + ((w (13 + pl) 2) * ((w (7 + (w (13 + pl) 3)) t) - 0)))) (63 + pl))), .int (nI z)] 140
                rw [show ((up1 (up1 gs (0 + t) ((w 3 t) + ((w (13 + pl) 2) * 0))) (18 + t) ((w 6 t) + ((w (13 + pl) 2) * ((w (7 + (w (13 + pl) 3)) t) - 0)))) (63 + pl)) = (gs (63 + pl)) from ((up1_ne (f := (up1 gs (0 + t) ((w 3 t) + ((w (13 + pl) 2) * 0)))) (i := 18 + t) (x := (w 6 t) + ((w (13 + pl) 2) * ((w (7 + (w (13 + pl) 3)) t) - 0))) (j := 63 + pl) (by omega)).trans (up1_ne (f := gs) (i := 0 + t) (x := (w 3 t) + ((w (13 + pl) 2) * 0)) (j := 63 + pl) (by omega)))]
                rw [(hRs.man (by omega))]
                refine r_iload (pc' := 142) hX dX6_melts_140 rfl rfl ?_
                refine r_imul_N (pc' := 143) hX dX6_melts_142  rfl ?_
                refine r_iadd_N (pc' := 144) hX dX6_melts_143  rfl ?_
                refine r_istore_n (L' := [some (.ref (ma 0)), some (.int x), some (.int (nI pl)), some (.int (nI (z + ((w (13 + pl) 2) * 0)))), some (.int (nI t)), some (.int (nI (w (7 + (w (13 + pl) 3)) t))), some (.int (nI 0))]) (pc' := 145) hX dX6_melts_144 (nlt hnL (by decide)) rfl rfl rfl ?_
                refine r_iinc_N (b := 1) (L' := [some (.ref (ma 0)), some (.int x), some (.int (nI pl)), some (.int (nI (z + ((w (13 + pl) 2) * 0)))), some (.int (nI (t + 1))), some (.int (nI (w (7 + (w (13 + pl) 3)) t))), some (.int (nI 0))]) (pc' := 148) hX dX6_melts_145 rfl (nlt hnL (by decide)) rfl rfl rfl ?_
                refine r_goto (tgt := 40) hX dX6_melts_148 (by decide) ?_
                refine V_loc (L' := [some (.ref (ma 0)), some (.int x), some (.int (nI pl)), some (.int (nI (z + ((w (13 + pl) 2) * 0)))), some (.int (nI (t + 1))), none, none]) (lo_w ⟨.inr rfl, .inr rfl, .inr rfl, .inr rfl, .inr rfl, .inl rfl, .inl rfl, trivial⟩) ?_
                exact ih40 (t + 1) (meL v pl (t + 1)) (up1 (up1 gs (0 + t) ((w 3 t) + ((w (13 + pl) 2) * 0))) (18 + t) ((w 6 t) + ((w (13 + pl) 2) * ((w (7 + (w (13 + pl) 3)) t) - 0)))) (z + ((w (13 + pl) 2) * 0)) (by omega) (by omega) rfl (by rw [melt_step (b := 0) hw (by omega)]; exact (hRs.p3 (b := 3) (k := t) (j := 0 + t) (by omega) (by omega) (by rw [ix3, Nat.zero_add])).p3 (b := 6) (k := t) (j := 18 + t) (by omega) (by omega) rfl) (by rw [meR, ← hz, ← hw]; unfold meB; rw [show 0 = w (7 + w (13 + pl) 3) t - 1 by omega]) (by have q1 : w (13 + pl) 2 * (0) ≤ 9 * 9 := Nat.mul_le_mul (by omega) (by omega); omega)
              · refine r_iload (pc' := 70) hX dX6_melts_68 rfl rfl ?_
                refine r_iconst (pc' := 71) (v := nI 1) hX dX6_melts_70 rfl rfl ?_
                refine r_isub_N (pc' := 72) hX dX6_melts_71 (by omega) rfl ?_
                refine r_goto (tgt := 76) hX dX6_melts_72 (by decide) ?_
                refine r_istore (L' := [some (.ref (ma 0)), some (.int x), some (.int (nI pl)), some (.int (nI z)), some (.int (nI t)), some (.int (nI (w (7 + (w (13 + pl) 3)) t))), some (.int (nI ((w (7 + (w (13 + pl) 3)) t) - 1)))]) (pc' := 78) hX dX6_melts_76 (nlt hnL (by decide)) rfl rfl rfl ?_
                refine r_aload_n (pc' := 79) hX dX6_melts_78 rfl rfl ?_
                refine r_get (pc' := 82) (v := .ref (ma 1)) hX dX6_melts_79 f_X6_7 0 rfl rfl rfl ?_
                refine r_iconst (pc' := 83) (v := nI 0) hX dX6_melts_82 rfl rfl ?_
                refine r_iload (pc' := 85) hX dX6_melts_83 rfl rfl ?_
                refine r_iadd_N (pc' := 86) hX dX6_melts_85  rfl ?_
                refine r_dup2 (pc' := 87) hX dX6_melts_86 rfl rfl rfl ?_
                refine r_iald_N (pc' := 88) hX dX6_melts_87 (by rw [hcy]) 1 rfl (by omega) (by decide) rfl ?_
                change V X 0 0 (wM cy ma r e gs bf hy sv bu le pa) [some (.ref (ma 0)), some (.int x), some (.int (nI pl)), some (.int (nI z)), some (.int (nI t)), some (.int (nI (w (7 + (w (13 + pl) 3)) t))), some (.int (nI ((w (7 + (w (13 + pl) 3)) t) - 1)))] [.int (nI (gs (0 + t))), .int (nI (0 + t)), .ref (ma 1)] 88
                rw [(hRs.sto (by omega))]
                refine r_aload_n (pc' := 89) hX dX6_melts_88 rfl rfl ?_
                refine r_get (pc' := 92) (v := .ref (ma 1)) hX dX6_melts_89 f_X6_7 0 rfl rfl rfl ?_
                refine r_bipush (pc' := 94) (v := nI 63) hX dX6_melts_92 rfl rfl ?_
                refine r_iload_n (pc' := 95) hX dX6_melts_94 rfl rfl ?_
                refine r_iadd_N (pc' := 96) hX dX6_melts_95  rfl ?_
                refine r_iald_N (pc' := 97) hX dX6_melts_96 (by rw [hcy]) 1 rfl (by omega) (by decide) rfl ?_
                change V X 0 0 (wM cy ma r e gs bf hy sv bu le pa) [some (.ref (ma 0)), some (.int x), some (.int (nI pl)), some (.int (nI z)), some (.int (nI t)), some (.int (nI (w (7 + (w (13 + pl) 3)) t))), some (.int (nI ((w (7 + (w (13 + pl) 3)) t) - 1)))] [.int (nI (gs (63 + pl))), .int (nI (w 3 t)), .int (nI (0 + t)), .ref (ma 1)] 97
                rw [(hRs.man (by omega))]
                refine r_iload (pc' := 99) hX dX6_melts_97 rfl rfl ?_
                refine r_imul_N (pc' := 100) hX dX6_melts_99  rfl ?_
                refine r_iadd_N (pc' := 101) hX dX6_melts_100  rfl ?_
                refine r_iast_N (ws' := wM cy ma r e (up1 gs (0 + t) ((w 3 t) + ((w (13 + pl) 2) * ((w (7 + (w (13 + pl) 3)) t) - 1)))) bf hy sv bu le pa) (pc' := 102) hX dX6_melts_101 (by rw [hcy]) 1 rfl (by omega) (by decide) rfl rfl ?_
                refine r_aload_n (pc' := 103) hX dX6_melts_102 rfl rfl ?_
                refine r_get (pc' := 106) (v := .ref (ma 1)) hX dX6_melts_103 f_X6_7 0 rfl rfl rfl ?_
                refine r_bipush (pc' := 108) (v := nI 18) hX dX6_melts_106 rfl rfl ?_
                refine r_iload (pc' := 110) hX dX6_melts_108 rfl rfl ?_
                refine r_iadd_N (pc' := 111) hX dX6_melts_110  rfl ?_
                refine r_dup2 (pc' := 112) hX dX6_melts_111 rfl rfl rfl ?_
                refine r_iald_N (pc' := 113) hX dX6_melts_112 (by rw [hcy]) 1 rfl (by omega) (by decide) rfl ?_
                change V X 0 0 (wM cy ma r e (up1 gs (0 + t) ((w 3 t) + ((w (13 + pl) 2) * ((w (7 + (w (13 + pl) 3)) t) - 1)))) bf hy sv bu le pa) [some (.ref (ma 0)), some (.int x), some (.int (nI pl)), some (.int (nI z)), some (.int (nI t)), some (.int (nI (w (7 + (w (13 + pl) 3)) t))), some (.int (nI ((w (7 + (w (13 + pl) 3)) t) - 1)))] [.int (nI ((up1 gs (0 + t) ((w 3 t) + ((w (13 + pl) 2) * ((w (7 + (w (13 + pl) 3)) t) - 1)))) (18 + t))), .int (nI (18 + t)), .ref (ma 1)] 113
                rw [show ((up1 gs (0 + t) ((w 3 t) + ((w (13 + pl) 2) * ((w (7 + (w (13 + pl) 3)) t) - 1)))) (18 + t)) = (gs (18 + t)) from (up1_ne (f := gs) (i := 0 + t) (x := (w 3 t) + ((w (13 + pl) 2) * ((w (7 + (w (13 + pl) 3)) t) - 1))) (j := 18 + t) (by omega))]
                rw [(hRs.los (by omega))]
                refine r_aload_n (pc' := 114) hX dX6_melts_113 rfl rfl ?_
                refine r_get (pc' := 117) (v := .ref (ma 1)) hX dX6_melts_114 f_X6_7 0 rfl rfl rfl ?_
                refine r_bipush (pc' := 119) (v := nI 63) hX dX6_melts_117 rfl rfl ?_
                refine r_iload_n (pc' := 120) hX dX6_melts_119 rfl rfl ?_
                refine r_iadd_N (pc' := 121) hX dX6_melts_120  rfl ?_
                refine r_iald_N (pc' := 122) hX dX6_melts_121 (by rw [hcy]) 1 rfl (by omega) (by decide) rfl ?_
                change V X 0 0 (wM cy ma r e (up1 gs (0 + t) ((w 3 t) + ((w (13 + pl) 2) * ((w (7 + (w (13 + pl) 3)) t) - 1)))) bf hy sv bu le pa) [some (.ref (ma 0)), some (.int x), some (.int (nI pl)), some (.int (nI z)), some (.int (nI t)), some (.int (nI (w (7 + (w (13 + pl) 3)) t))), some (.int (nI ((w (7 + (w (13 + pl) 3)) t) - 1)))] [.int (nI ((up1 gs (0 + t) ((w 3 t) + ((w (13 + pl) 2) * ((w (7 + (w (13 + pl) 3)) t) - 1)))) (63 + pl))), .int (nI (w 6 t)), .int (nI (18 + t)), .ref (ma 1)] 122
                rw [show ((up1 gs (0 + t) ((w 3 t) + ((w (13 + pl) 2) * ((w (7 + (w (13 + pl) 3)) t) - 1)))) (63 + pl)) = (gs (63 + pl)) from (up1_ne (f := gs) (i := 0 + t) (x := (w 3 t) + ((w (13 + pl) 2) * ((w (7 + (w (13 + pl) 3)) t) - 1))) (j := 63 + pl) (by omega))]
                rw [(hRs.man (by omega))]
                refine r_iload (pc' := 124) hX dX6_melts_122 rfl rfl ?_
                refine r_iload (pc' := 126) hX dX6_melts_124 rfl rfl ?_
                refine r_isub_N (pc' := 127) hX dX6_melts_126 (by omega) rfl ?_
                refine r_imul_N (pc' := 128) hX dX6_melts_127  rfl ?_
                refine r_iadd_N (pc' := 129) hX dX6_melts_128  rfl ?_
                refine r_iast_N (ws' := wM cy ma r e (up1 (up1 gs (0 + t) ((w 3 t) + ((w (13 + pl) 2) * ((w (7 + (w (13 + pl) 3)) t) - 1)))) (18 + t) ((w 6 t) + ((w (13 + pl) 2) * ((w (7 + (w (13 + pl) 3)) t) - ((w (7 + (w (13 + pl) 3)) t) - 1))))) bf hy sv bu le pa) (pc' := 130) hX dX6_melts_129 (by rw [hcy]) 1 rfl (by omega) (by decide) rfl rfl ?_
                refine r_iload_n (pc' := 131) hX dX6_melts_130 rfl rfl ?_
                refine r_aload_n (pc' := 132) hX dX6_melts_131 rfl rfl ?_
                refine r_get (pc' := 135) (v := .ref (ma 1)) hX dX6_melts_132 f_X6_7 0 rfl rfl rfl ?_
                refine r_bipush (pc' := 137) (v := nI 63) hX dX6_melts_135 rfl rfl ?_
                refine r_iload_n (pc' := 138) hX dX6_melts_137 rfl rfl ?_
                refine r_iadd_N (pc' := 139) hX dX6_melts_138  rfl ?_
                refine r_iald_N (pc' := 140) hX dX6_melts_139 (by rw [hcy]) 1 rfl (by omega) (by decide) rfl ?_
                change V X 0 0 (wM cy ma r e (up1 (up1 gs (0 + t) ((w 3 t) + ((w (13 + pl) 2) * ((w (7 + (w (13 + pl) 3)) t) - 1)))) (18 + t) ((w 6 t) + ((w (13 + pl) 2) * ((w (7 + (w (13 + pl) 3)) t) - ((w (7 + (w (13 + pl) 3)) t) - 1))))) bf hy sv bu le pa) [some (.ref (ma 0)), some (.int x), some (.int (nI pl)), some (.int (nI z)), some (.int (nI t)), some (.int (nI (w (7 + (w (13 + pl) 3)) t))), some (.int (nI ((w (7 + (w (13 + pl) 3)) t) - 1)))] [.int (nI ((up1 (up1 gs (0 + t) ((w 3 t) + ((w (13 + pl) 2) * ((w (7 + (w (13 + pl) 3)) t) - 1)))) (18 + t) ((w 6 t) + ((w (13 + pl) 2) * ((w (7 + (w (13 + pl) 3)) t) - ((w (7 + (w (13 + pl) 3)) t) - 1))))) (63 + pl))), .int (nI z)] 140
                rw [show ((up1 (up1 gs (0 + t) ((w 3 t) + ((w (13 + pl) 2) * ((w (7 + (w (13 + pl) 3)) t) - 1)))) (18 + t) ((w 6 t) + ((w (13 + pl) 2) * ((w (7 + (w (13 + pl) 3)) t) - ((w (7 + (w (13 + pl) 3)) t) - 1))))) (63 + pl)) = (gs (63 + pl)) from ((up1_ne (f := (up1 gs (0 + t) ((w 3 t) + ((w (13 + pl) 2) * ((w (7 + (w (13 + pl) 3)) t) - 1))))) (i := 18 + t) (x := (w 6 t) + ((w (13 + pl) 2) * ((w (7 + (w (13 + pl) 3)) t) - ((w (7 + (w (13 + pl) 3)) t) - 1)))) (j := 63 + pl) (by omega)).trans (up1_ne (f := gs) (i := 0 + t) (x := (w 3 t) + ((w (13 + pl) 2) * ((w (7 + (w (13 + pl) 3)) t) - 1))) (j := 63 + pl) (by omega)))]
                rw [(hRs.man (by omega))]
                refine r_iload (pc' := 142) hX dX6_melts_140 rfl rfl ?_
                refine r_imul_N (pc' := 143) hX dX6_melts_142  rfl ?_
                refine r_iadd_N (pc' := 144) hX dX6_melts_143  rfl ?_
                refine r_istore_n (L' := [some (.ref (ma 0)), some (.int x), some (.int (nI pl)), some (.int (nI (z + ((w (13 + pl) 2) * ((w (7 + (w (13 + pl) 3)) t) - 1))))), some (.int (nI t)), some (.int (nI (w (7 + (w (13 + pl) 3)) t))), some (.int (nI ((w (7 + (w (13 + pl) 3)) t) - 1)))]) (pc' := 145) hX dX6_melts_144 (nlt hnL (by decide)) rfl rfl rfl ?_
                refine r_iinc_N (b := 1) (L' := [some (.ref (ma 0)), some (.int x), some (.int (nI pl)), some (.int (nI (z + ((w (13 + pl) 2) * ((w (7 + (w (13 + pl) 3)) t) - 1))))), some (.int (nI (t + 1))), some (.int (nI (w (7 + (w (13 + pl) 3)) t))), some (.int (nI ((w (7 + (w (13 + pl) 3)) t) - 1)))]) (pc' := 148) hX dX6_melts_145 rfl (nlt hnL (by decide)) rfl rfl rfl ?_
                refine r_goto (tgt := 40) hX dX6_melts_148 (by decide) ?_
                refine V_loc (L' := [some (.ref (ma 0)), some (.int x), some (.int (nI pl)), some (.int (nI (z + ((w (13 + pl) 2) * ((w (7 + (w (13 + pl) 3)) t) - 1))))), some (.int (nI (t + 1))), none, none]) (lo_w ⟨.inr rfl, .inr rfl, .inr rfl, .inr rfl, .inr rfl, .inl rfl, .inl rfl, trivial⟩) ?_
                exact ih40 (t + 1) (meL v pl (t + 1)) (up1 (up1 gs (0 + t) ((w 3 t) + ((w (13 + pl) 2) * ((w (7 + (w (13 + pl) 3)) t) - 1)))) (18 + t) ((w 6 t) + ((w (13 + pl) 2) * ((w (7 + (w (13 + pl) 3)) t) - ((w (7 + (w (13 + pl) 3)) t) - 1))))) (z + ((w (13 + pl) 2) * ((w (7 + (w (13 + pl) 3)) t) - 1))) (by omega) (by omega) rfl (by rw [melt_step (b := ((w (7 + (w (13 + pl) 3)) t) - 1)) hw (by omega)]; exact (hRs.p3 (b := 3) (k := t) (j := 0 + t) (by omega) (by omega) (by rw [ix3, Nat.zero_add])).p3 (b := 6) (k := t) (j := 18 + t) (by omega) (by omega) rfl) (by rw [meR, ← hz, ← hw]; unfold meB; rw [show ((w (7 + (w (13 + pl) 3)) t) - 1) = w (7 + w (13 + pl) 3) t - 1 by omega]) (by have q1 : w (13 + pl) 2 * (((w (7 + (w (13 + pl) 3)) t) - 1)) ≤ 9 * 9 := Nat.mul_le_mul (by omega) (by omega); omega)
        exact loop40 _ 0 v g 0 (Nat.lt_succ_self _) (by omega) rfl hR rfl (by omega)
      · refine r_aload_n (pc' := 30) hX dX6_melts_29 rfl rfl ?_
        refine r_iconst (pc' := 31) (v := nI 2) hX dX6_melts_30 rfl rfl ?_
        refine V_call0 (k' := 0) (n' := 0) (pc' := 34) hX (r_runV (As := [.int (nI 2)]) hX dX6_melts_31 k_X6_67 (fun l9 hl9 => cM_fails (by omega)) hG ⟨8, _, TX6, 16, List.mem_cons_self, rfl⟩ rfl rfl (Nat.le_of_ble_eq_true rfl) (by decide) (by decide) (by decide) (by decide)) rfl rfl rfl (fun w9 u9 hp9 => ?_)
        obtain ⟨rfl, rfl⟩ := hp9
        change V X 0 0 (wM cy ma (up1 r 4 2) e g bf hy sv bu le pa) [some (.ref (ma 0)), some (.int x), some (.int (nI pl)), none, none, none, none] [.int (nI 0)] 34
        have e9 : oMelt v x = ((-3), v) := by unfold oMelt; rw [← hpl, if_pos hs, if_neg (by omega)]
        exact r_ireturn hX hE dX6_melts_34 rfl (PM_bad e9 (by decide) (by decide) hR rfl) (by decide) (by decide)
    · exact absurd c8 (by omega)
  · rw [if_neg hs]
    change V X 0 0 (wM cy ma r e g bf hy sv bu le pa) [some (.ref (ma 0)), some (.int x), none, none, none, none, none] [.int (-1)] 5
    refine r_istore_n (L' := [some (.ref (ma 0)), some (.int x), some (.int (-1)), none, none, none, none]) (pc' := 6) hX dX6_melts_5 (nlt hnL (by decide)) rfl rfl rfl ?_
    refine r_iload_n (pc' := 7) hX dX6_melts_6 rfl rfl ?_
    refine r_iconst (pc' := 8) (v := (-1)) hX dX6_melts_7 rfl rfl ?_
    refine r_icmp_ne_I (tgt := 17) (pc' := 11) hX dX6_melts_8 (by decide) rfl (by decide : (-1 : Int32).toInt = -1) (by decide : (-1 : Int32).toInt = -1) (fun c8 => ?_) (fun c8 => ?_)
    · exact absurd c8 (by omega)
    · refine r_aload_n (pc' := 12) hX dX6_melts_11 rfl rfl ?_
      refine r_iconst (pc' := 13) (v := nI 1) hX dX6_melts_12 rfl rfl ?_
      refine V_call0 (k' := 0) (n' := 0) (pc' := 16) hX (r_runV (As := [.int (nI 1)]) hX dX6_melts_13 k_X6_67 (fun l9 hl9 => cM_fails (by omega)) hG ⟨8, _, TX6, 16, List.mem_cons_self, rfl⟩ rfl rfl (Nat.le_of_ble_eq_true rfl) (by decide) (by decide) (by decide) (by decide)) rfl rfl rfl (fun w9 u9 hp9 => ?_)
      obtain ⟨rfl, rfl⟩ := hp9
      change V X 0 0 (wM cy ma (up1 r 4 1) e g bf hy sv bu le pa) [some (.ref (ma 0)), some (.int x), some (.int (-1)), none, none, none, none] [.int (nI 0)] 16
      have e9 : oMelt v x = ((-5), v) := by unfold oMelt; rw [if_neg hs]
      exact r_ireturn hX hE dX6_melts_16 rfl (PM_bad e9 (by decide) (by decide) hR rfl) (by decide) (by decide)
