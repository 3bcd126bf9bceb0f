set_option maxRecDepth 20000 in
set_option maxHeartbeats 1000000 in
theorem cF_runScript {l : Launch} {D : va_G} {cy : Nat → ClassId} {sa : Nat → Nat} {f K : Nat} {S : AS} {ws : va_W} {v : SV} (hvS : v = S.1) (hS : FS cy f S ws) (hI : AI K S) (hst : l.stackTraces = false) (hK : K + 61 ≤ 100000) : MX l yX5_runScript cX5_runScript 4 (some .int) 9 2 156 (D, cy, sa) [.ref f] (ws) (fun w u => okA (qRun S) ∧ w = some (.int (qRun S)) ∧ FS cy f (aRun S) u) (fun E u => noA (qRun S) ∧ E = exC (qRun S) ∧ FS cy f (aRun S) u) := by
  obtain ⟨fa, s, o, pr, un, hs, an, e1, e2, fc, SC, OB, sn, AD, VS, rfl, hF⟩ := hS
  obtain ⟨⟨hpr, hfc⟩, ⟨hv0, hul, hun, hus⟩, ⟨hh1, hh2⟩, hSC, hOB, he1, he2⟩ := id hF
  have hA0 : fc pr = AD 0 0 := by
    have := hfc 0 (by decide)
    rwa [show (pr + 0) % 10 = pr by omega] at this
  have hA1 : fc ((pr + 1) % 10) = AD 1 0 := hfc 1 (by decide)
  have hv : Wf (VS 0) := hv0 ▸ hI.1.1.1
  have hFB : FB (VS 0) := hv0 ▸ hI.1.2
  have hInv : Inv K (VS 0) := hv0 ▸ hI.1.1
  obtain rfl : v = VS 0 := hvS.trans hv0
  have h8 := hv.2.2.1
  have hFS : FS cy f S (wBF cy f fa s o an pr un hs e1 e2 fc SC OB sn AD VS) := ⟨fa, s, o, pr, un, hs, an, e1, e2, fc, SC, OB, sn, AD, VS, rfl, hF⟩
  have hst5 := hv.2.2.2.1
  have htol := hv.2.2.2.2.1
  obtain ⟨nq, t, q2, m2, ml2, c2, ct, po, co, g2, nb, rfl, hS1, hS2⟩ := hSC
  have hS3 : c2 = S.2.2.2.1.length := hS1.1.symm
  refine MX_by (own := RX5) (L := [some (.ref f), none, none, none]) hst (by decide +kernel) rfl rfl (Nat.le_of_ble_eq_true rfl) 3 rfl (fun X hX hE hO hnL hG hcy hnm => ?_)
  have hpl := pall_lenT (t := S.2.2.2.1) (f := 61) (p := 0)
  refine r_aload_n (pc' := 1) hX dX5_runScript_0 rfl rfl ?_
  refine r_get (pc' := 4) (v := .ref s) hX dX5_runScript_1 f_X5_23 0 rfl rfl rfl ?_
  refine V_call (k' := 0) (n' := 0) (pc' := 7) (wr := ((wBFl cy f fa s o an pr un hs e1 e2 fc (wScr cy s nq t q2 m2 ml2 c2 g2 nb ct po co) OB sn AD VS).eraseIdx 12).flatten) hX (r_runV (As := []) hX dX5_runScript_4 k_X5_258 (fun l9 hl9 => cP_error hS1 (by omega)) hG ⟨5, _, TX3, 5, List.mem_cons_self, rfl⟩ rfl rfl (Nat.le_of_ble_eq_true rfl) (by decide) (by decide) (by decide) (by decide)) (fl_out (bs := (wBFl cy f fa s o an pr un hs e1 e2 fc (wScr cy s nq t q2 m2 ml2 c2 g2 nb ct po co) OB sn AD VS)) 12 rfl) rfl rfl rfl (fun w9 u9 hp9 => ?_)
  obtain ⟨rfl, ct72, po72, co9, nb72, rfl, hco9⟩ := hp9
  change V X 0 0 (wScr cy s nq t q2 m2 ml2 c2 g2 nb72 ct72 po72 co9 ++ ((wBFl cy f fa s o an pr un hs e1 e2 fc (wScr cy s nq t q2 m2 ml2 c2 g2 nb ct po co) OB sn AD VS).eraseIdx 12).flatten) [some (.ref f), none, none, none] [.int (if (pall S.2.2.2.1 61 0).1 = true then nI (pall S.2.2.2.1 61 0).2.1 else -1)] 7
  refine V_perm (fl_back (bs := (wBFl cy f fa s o an pr un hs e1 e2 fc (wScr cy s nq t q2 m2 ml2 c2 g2 nb ct po co) OB sn AD VS)) (bs' := (wBFl cy f fa s o an pr un hs e1 e2 fc (wScr cy s nq t q2 m2 ml2 c2 g2 nb72 ct72 po72 co9) OB sn AD VS)) 12 rfl rfl) ?_
  by_cases hE7 : (pall S.2.2.2.1 61 0).1 = true
  · rw [if_pos hE7]
    change V X 0 0 (wBF cy f fa s o an pr un hs e1 e2 fc (wScr cy s nq t q2 m2 ml2 c2 g2 nb72 ct72 po72 co9) OB sn AD VS) [some (.ref f), none, none, none] [.int (nI ((pall S.2.2.2.1 61 0).2.1))] 7
    refine r_istore_n (L' := [some (.ref f), some (.int (nI ((pall S.2.2.2.1 61 0).2.1))), none, none]) (pc' := 8) hX dX5_runScript_7 (nlt hnL (by decide)) rfl rfl rfl ?_
    refine r_iload_n (pc' := 9) hX dX5_runScript_8 rfl rfl ?_
    refine r_iconst (pc' := 10) (v := (-1)) hX dX5_runScript_9 rfl rfl ?_
    refine r_icmp_eq_I (tgt := 36) (pc' := 13) hX dX5_runScript_10 (by decide) rfl (nI_I (by omega)) (by decide : (-1 : Int32).toInt = -1) (fun c10 => ?_) (fun c10 => ?_)
    · exact absurd c10 (by omega)
    · refine r_aload_n (pc' := 14) hX dX5_runScript_13 rfl rfl ?_
      refine r_get (pc' := 17) (v := .ref s) hX dX5_runScript_14 f_X5_23 0 rfl rfl rfl ?_
      refine V_call (k' := 1) (n' := 150) (pc' := 20) (wr := ((wBFl cy f fa s o an pr un hs e1 e2 fc (wScr cy s nq t q2 m2 ml2 c2 g2 nb72 ct72 po72 co9) OB sn AD VS).eraseIdx 12).flatten) hX (r_runV (As := []) hX dX5_runScript_17 k_X5_261 (fun l9 hl9 => cP_clear hS1 (by omega)) hG ⟨5, _, TX3, 5, List.mem_cons_self, rfl⟩ rfl rfl (Nat.le_of_ble_eq_true rfl) (by decide) (by decide) (by decide) (by decide)) (fl_out (bs := (wBFl cy f fa s o an pr un hs e1 e2 fc (wScr cy s nq t q2 m2 ml2 c2 g2 nb72 ct72 po72 co9) OB sn AD VS)) 12 rfl) rfl rfl rfl (fun w9 u9 hp9 => ?_)
      obtain ⟨rfl, q173, m173, ml173, g173, rfl, hz9⟩ := hp9
      change V X 1 150 (wScr cy s nq t q173 m173 ml173 0 g173 nb72 ct72 po72 co9 ++ ((wBFl cy f fa s o an pr un hs e1 e2 fc (wScr cy s nq t q2 m2 ml2 c2 g2 nb72 ct72 po72 co9) OB sn AD VS).eraseIdx 12).flatten) [some (.ref f), some (.int (nI ((pall S.2.2.2.1 61 0).2.1))), none, none] [] 20
      refine V_perm (fl_back (bs := (wBFl cy f fa s o an pr un hs e1 e2 fc (wScr cy s nq t q2 m2 ml2 c2 g2 nb72 ct72 po72 co9) OB sn AD VS)) (bs' := (wBFl cy f fa s o an pr un hs e1 e2 fc (wScr cy s nq t q173 m173 ml173 0 g173 nb72 ct72 po72 co9) OB sn AD VS)) 12 rfl rfl) ?_
      refine r_aload_n (pc' := 21) hX dX5_runScript_20 rfl rfl ?_
      refine r_iload_n (pc' := 22) hX dX5_runScript_21 rfl rfl ?_
      refine r_put (ws' := wBF cy f fa s o an pr un hs (nI ((pall S.2.2.2.1 61 0).2.1)) e2 fc (wScr cy s nq t q173 m173 ml173 0 g173 nb72 ct72 po72 co9) OB sn AD VS) (pc' := 25) hX dX5_runScript_22 f_X5_45 fw_X5_7 0 rfl rfl rfl (Nat.le_of_ble_eq_true rfl) rfl rfl ?_
      have hq9 : qRun S = -2 := if_pos hE7
      have hq8 : aRun S = (S.1, S.2.1, S.2.2.1, [], S.2.2.2.2.1, nI (pall S.2.2.2.1 61 0).2.1, e2) := (if_pos hE7).trans (by unfold aE; rw [he2])
      exact r_throwW hX hO th_IAE 11 (by decide) rfl dX5_runScript_25 dX5_runScript_28 dX5_runScript_29 dX5_runScript_32 dX5_runScript_35 (by decide) (by decide) ⟨by rw [hq9]; decide, by rw [hq9]; rfl, by rw [hq8]; exact ⟨fa, s, o, pr, un, hs, an, _, _, fc, _, OB, sn, _, _, rfl, FR_e (FR_scr hF hz9 (by omega))⟩⟩ (by decide) (by decide)
  · rw [if_neg hE7]
    have hA9 : (pall S.2.2.2.1 61 0).1 = false := by
      cases z9 : (pall S.2.2.2.1 61 0).1 with
      | true => exact absurd z9 hE7
      | false => rfl
    have hco := hco9 hA9
    have hcl := pall_len (t := S.2.2.2.1) (f := 61) (p := 0)
    change V X 0 0 (wBF cy f fa s o an pr un hs e1 e2 fc (wScr cy s nq t q2 m2 ml2 c2 g2 nb72 ct72 po72 co9) OB sn AD VS) [some (.ref f), none, none, none] [.int (-1)] 7
    refine r_istore_n (L' := [some (.ref f), some (.int (-1)), none, none]) (pc' := 8) hX dX5_runScript_7 (nlt hnL (by decide)) rfl rfl rfl ?_
    refine r_iload_n (pc' := 9) hX dX5_runScript_8 rfl rfl ?_
    refine r_iconst (pc' := 10) (v := (-1)) hX dX5_runScript_9 rfl rfl ?_
    refine r_icmp_eq_I (tgt := 36) (pc' := 13) hX dX5_runScript_10 (by decide) rfl (by decide : (-1 : Int32).toInt = -1) (by decide : (-1 : Int32).toInt = -1) (fun c10 => ?_) (fun c10 => ?_)
    · refine r_aload_n (pc' := 37) hX dX5_runScript_36 rfl rfl ?_
      refine r_get (pc' := 40) (v := .ref s) hX dX5_runScript_37 f_X5_23 0 rfl rfl rfl ?_
      refine r_aload_n (pc' := 41) hX dX5_runScript_40 rfl rfl ?_
      refine V_call0 (k' := 0) (n' := 0) (pc' := 44) hX (r_runV (As := []) hX dX5_runScript_41 k_X5_51 (fun l9 hl9 => cF_draft hpr hA0 hA1 hFB) hG ⟨7, _, TX5, 9, List.mem_cons_self, rfl⟩ rfl rfl (Nat.le_of_ble_eq_true rfl) (by decide) (by decide) (by decide) (by decide)) rfl rfl rfl (fun w9 u9 hp9 => ?_)
      obtain ⟨rfl, rfl⟩ := hp9
      change V X 0 0 (wBF cy f fa s o an pr un hs e1 e2 fc (wScr cy s nq t q2 m2 ml2 c2 g2 nb72 ct72 po72 co9) OB sn AD (upA VS 1 (VS 0))) [some (.ref f), some (.int (-1)), none, none] [.ref (AD 1 0), .ref s] 44
      refine V_call (k' := 0) (n' := 0) (pc' := 47) (wr := (((wBFl cy f fa s o an pr un hs e1 e2 fc (wScr cy s nq t q2 m2 ml2 c2 g2 nb72 ct72 po72 co9) OB sn AD (upA VS 1 (VS 0))).eraseIdx 12).eraseIdx 2).flatten) hX (r_runV (As := [.ref (AD 1 0)]) hX dX5_runScript_44 k_X5_266 (fun l9 hl9 => cP_fail (K := K) (v := VS 0) (ad := AD 1) hS1 hS2 hA9 hco hInv hK) hG ⟨5, _, TX3, 5, List.mem_append_left _ List.mem_cons_self, rfl⟩ rfl rfl (Nat.le_of_ble_eq_true rfl) (by decide) (by decide) (by decide) (by decide)) (fl_out2 (bs := (wBFl cy f fa s o an pr un hs e1 e2 fc (wScr cy s nq t q2 m2 ml2 c2 g2 nb72 ct72 po72 co9) OB sn AD (upA VS 1 (VS 0)))) 12 2 rfl rfl) rfl rfl rfl (fun w9 u9 hp9 => ?_)
      obtain ⟨rfl, ct74, po74, nb74, ad74, had9, rfl⟩ := hp9
      rw [mtI]
      change V X 0 0 ((wScr cy s nq t q2 m2 ml2 c2 g2 nb74 ct74 po74 co9 ++ wSt cy ad74 (rnC (pall S.2.2.2.1 61 0).2.2 (VS 0) 0).2) ++ (((wBFl cy f fa s o an pr un hs e1 e2 fc (wScr cy s nq t q2 m2 ml2 c2 g2 nb72 ct72 po72 co9) OB sn AD (upA VS 1 (VS 0))).eraseIdx 12).eraseIdx 2).flatten) [some (.ref f), some (.int (-1)), none, none] [.int (if (rnC (pall S.2.2.2.1 61 0).2.2 (VS 0) 0).1 = none then (-1 : Int32) else nI ((rnC (pall S.2.2.2.1 61 0).2.2 (VS 0) 0).1.getD 0))] 47
      refine V_perm (fl_back2 (bs := (wBFl cy f fa s o an pr un hs e1 e2 fc (wScr cy s nq t q2 m2 ml2 c2 g2 nb72 ct72 po72 co9) OB sn AD (upA VS 1 (VS 0)))) (bs' := (wBFl cy f fa s o an pr un hs e1 e2 fc (wScr cy s nq t q2 m2 ml2 c2 g2 nb74 ct74 po74 co9) OB sn (upA AD 1 ad74) (upA (upA VS 1 (VS 0)) 1 (rnC (pall S.2.2.2.1 61 0).2.2 (VS 0) 0).2))) 12 2 rfl rfl rfl) ?_
      by_cases hR : (rnC (pall S.2.2.2.1 61 0).2.2 (VS 0) 0).1 = none
      · rw [if_pos hR]
        change V X 0 0 (wBF cy f fa s o an pr un hs e1 e2 fc (wScr cy s nq t q2 m2 ml2 c2 g2 nb74 ct74 po74 co9) OB sn (upA AD 1 ad74) (upA (upA VS 1 (VS 0)) 1 (rnC (pall S.2.2.2.1 61 0).2.2 (VS 0) 0).2)) [some (.ref f), some (.int (-1)), none, none] [.int (-1)] 47
        refine r_istore_n (L' := [some (.ref f), some (.int (-1)), some (.int (-1)), none]) (pc' := 48) hX dX5_runScript_47 (nlt hnL (by decide)) rfl rfl rfl ?_
        refine r_aload_n (pc' := 49) hX dX5_runScript_48 rfl rfl ?_
        refine r_get (pc' := 52) (v := .ref s) hX dX5_runScript_49 f_X5_23 0 rfl rfl rfl ?_
        refine r_getNM (v := .int (nI co9)) (pc' := 55) hX dX5_runScript_52 f_X5_270 (BF_memS List.mem_cons_self) rfl rfl ?_
        refine r_istore_n (L' := [some (.ref f), some (.int (-1)), some (.int (-1)), some (.int (nI co9))]) (pc' := 56) hX dX5_runScript_55 (nlt hnL (by decide)) rfl rfl rfl ?_
        refine r_aload_n (pc' := 57) hX dX5_runScript_56 rfl rfl ?_
        refine r_get (pc' := 60) (v := .ref s) hX dX5_runScript_57 f_X5_23 0 rfl rfl rfl ?_
        refine V_call (k' := 1) (n' := 150) (pc' := 63) (wr := ((wBFl cy f fa s o an pr un hs e1 e2 fc (wScr cy s nq t q2 m2 ml2 c2 g2 nb74 ct74 po74 co9) OB sn (upA AD 1 ad74) (upA (upA VS 1 (VS 0)) 1 (rnC (pall S.2.2.2.1 61 0).2.2 (VS 0) 0).2)).eraseIdx 12).flatten) hX (r_runV (As := []) hX dX5_runScript_60 k_X5_261 (fun l9 hl9 => cP_clear hS1 (by omega)) hG ⟨5, _, TX3, 5, List.mem_cons_self, rfl⟩ rfl rfl (Nat.le_of_ble_eq_true rfl) (by decide) (by decide) (by decide) (by decide)) (fl_out (bs := (wBFl cy f fa s o an pr un hs e1 e2 fc (wScr cy s nq t q2 m2 ml2 c2 g2 nb74 ct74 po74 co9) OB sn (upA AD 1 ad74) (upA (upA VS 1 (VS 0)) 1 (rnC (pall S.2.2.2.1 61 0).2.2 (VS 0) 0).2))) 12 rfl) rfl rfl rfl (fun w9 u9 hp9 => ?_)
        obtain ⟨rfl, q175, m175, ml175, g175, rfl, hz9⟩ := hp9
        change V X 1 150 (wScr cy s nq t q175 m175 ml175 0 g175 nb74 ct74 po74 co9 ++ ((wBFl cy f fa s o an pr un hs e1 e2 fc (wScr cy s nq t q2 m2 ml2 c2 g2 nb74 ct74 po74 co9) OB sn (upA AD 1 ad74) (upA (upA VS 1 (VS 0)) 1 (rnC (pall S.2.2.2.1 61 0).2.2 (VS 0) 0).2)).eraseIdx 12).flatten) [some (.ref f), some (.int (-1)), some (.int (-1)), some (.int (nI co9))] [] 63
        refine V_perm (fl_back (bs := (wBFl cy f fa s o an pr un hs e1 e2 fc (wScr cy s nq t q2 m2 ml2 c2 g2 nb74 ct74 po74 co9) OB sn (upA AD 1 ad74) (upA (upA VS 1 (VS 0)) 1 (rnC (pall S.2.2.2.1 61 0).2.2 (VS 0) 0).2))) (bs' := (wBFl cy f fa s o an pr un hs e1 e2 fc (wScr cy s nq t q175 m175 ml175 0 g175 nb74 ct74 po74 co9) OB sn (upA AD 1 ad74) (upA (upA VS 1 (VS 0)) 1 (rnC (pall S.2.2.2.1 61 0).2.2 (VS 0) 0).2))) 12 rfl rfl) ?_
        refine r_iload_n (pc' := 64) hX dX5_runScript_63 rfl rfl ?_
        refine r_iconst (pc' := 65) (v := (-1)) hX dX5_runScript_64 rfl rfl ?_
        refine r_icmp_eq_I (tgt := 84) (pc' := 68) hX dX5_runScript_65 (by decide) rfl (by decide : (-1 : Int32).toInt = -1) (by decide : (-1 : Int32).toInt = -1) (fun c65 => ?_) (fun c65 => ?_)
        · refine r_aload_n (pc' := 85) hX dX5_runScript_84 rfl rfl ?_
          refine r_iload_n (pc' := 86) hX dX5_runScript_85 rfl rfl ?_
          refine V_call0X (k' := 1 + 1) (n' := 150 + 6) (pc' := 89) hX (r_runVX (As := [.int (nI co9)]) hX dX5_runScript_86 k_X5_59 (fun l9 hl9 => by cases hl9; exact cF_kept (Outs_nost hO) hpr hun) hG ⟨7, _, TX5, 9, List.mem_cons_self, rfl⟩ rfl rfl (Nat.le_of_ble_eq_true rfl) (by decide) (by decide) (by omega) (by omega)) (by omega) (by omega) rfl (fun w9 u9 hp9 => ?_) ?_
          · obtain ⟨rfl, hx9, rfl⟩ := hp9
            change V X (1 + 1) (150 + 6) (wBF cy f fa s o an ((pr + 1) % 10) (min (un + 1) 8) hs e1 e2 fc (wScr cy s nq t q175 m175 ml175 0 g175 nb74 ct74 po74 co9) OB sn (upA AD 1 ad74) (upA (upA VS 1 (VS 0)) 1 (rnC (pall S.2.2.2.1 61 0).2.2 (VS 0) 0).2)) [some (.ref f), some (.int (-1)), some (.int (-1)), some (.int (nI co9))] [.int (nI co9)] 89
            have hq9 : qRun S = nI co9 := by
              unfold qRun
              rw [if_neg hE7, hv0, hR, hco]
            have hq8 : aRun S = aBuf ((rnC (pall S.2.2.2.1 61 0).2.2 (VS 0) 0).2, (S.1 :: S.2.1).take 8, S.2.2) [] := by
              unfold aRun
              rw [if_neg hE7, hv0, hR]
            refine V_perm (fl_perm (bs := (wBFl cy f fa s o an ((pr + 1) % 10) (min (un + 1) 8) hs e1 e2 fc (wScr cy s nq t q175 m175 ml175 0 g175 nb74 ct74 po74 co9) OB sn (upA AD 1 ad74) (upA (upA VS 1 (VS 0)) 1 (rnC (pall S.2.2.2.1 61 0).2.2 (VS 0) 0).2))) (bs' := (wBFl cy f fa s o an ((pr + 1) % 10) (min (un + 1) 8) hs e1 e2 fc (wScr cy s nq t q175 m175 ml175 0 g175 nb74 ct74 po74 co9) OB sn (fun r => if r < 9 then (upA AD 1 ad74) (r + 1) else (upA AD 1 ad74) 0) (fun r => if r < 9 then (upA (upA VS 1 (VS 0)) 1 (rnC (pall S.2.2.2.1 61 0).2.2 (VS 0) 0).2) (r + 1) else (upA (upA VS 1 (VS 0)) 1 (rnC (pall S.2.2.2.1 61 0).2.2 (VS 0) 0).2) 0))) (n := 14) [0, 2, 3, 4, 5, 6, 7, 8, 9, 10, 1, 11, 12, 13] (by decide) rfl rfl) ?_
            exact r_ireturn hX hE dX5_runScript_89 rfl ⟨by rw [hq9]; exact hx9, by rw [hq9], by rw [hq8]; exact ⟨fa, s, o, _, _, hs, an, _, _, fc, _, OB, sn, _, _, rfl, FR_adv (FR_scr hF hz9 (by omega)) had9 (VS 0)⟩⟩ (by omega) (by omega)
          · intro E9 u9 hp9
            obtain ⟨hx9, hE9, rfl⟩ := hp9
            exact absurd hx9 (okN (by omega))
        · exact absurd c65 (by omega)
      · rw [if_neg hR]
        obtain ⟨i9, hi9⟩ : ∃ i9, (rnC (pall S.2.2.2.1 61 0).2.2 (VS 0) 0).1 = some i9 := by
          cases z9 : (rnC (pall S.2.2.2.1 61 0).2.2 (VS 0) 0).1 with
          | none => exact absurd z9 hR
          | some a => exact ⟨a, rfl⟩
        have hi8 := rnC_lt hi9
        rw [show (rnC (pall S.2.2.2.1 61 0).2.2 (VS 0) 0).1.getD 0 = i9 from by rw [hi9]; rfl]
        change V X 0 0 (wBF cy f fa s o an pr un hs e1 e2 fc (wScr cy s nq t q2 m2 ml2 c2 g2 nb74 ct74 po74 co9) OB sn (upA AD 1 ad74) (upA (upA VS 1 (VS 0)) 1 (rnC (pall S.2.2.2.1 61 0).2.2 (VS 0) 0).2)) [some (.ref f), some (.int (-1)), none, none] [.int (nI i9)] 47
        refine r_istore_n (L' := [some (.ref f), some (.int (-1)), some (.int (nI i9)), none]) (pc' := 48) hX dX5_runScript_47 (nlt hnL (by decide)) rfl rfl rfl ?_
        refine r_aload_n (pc' := 49) hX dX5_runScript_48 rfl rfl ?_
        refine r_get (pc' := 52) (v := .ref s) hX dX5_runScript_49 f_X5_23 0 rfl rfl rfl ?_
        refine r_getNM (v := .int (nI co9)) (pc' := 55) hX dX5_runScript_52 f_X5_270 (BF_memS List.mem_cons_self) rfl rfl ?_
        refine r_istore_n (L' := [some (.ref f), some (.int (-1)), some (.int (nI i9)), some (.int (nI co9))]) (pc' := 56) hX dX5_runScript_55 (nlt hnL (by decide)) rfl rfl rfl ?_
        refine r_aload_n (pc' := 57) hX dX5_runScript_56 rfl rfl ?_
        refine r_get (pc' := 60) (v := .ref s) hX dX5_runScript_57 f_X5_23 0 rfl rfl rfl ?_
        refine V_call (k' := 1) (n' := 150) (pc' := 63) (wr := ((wBFl cy f fa s o an pr un hs e1 e2 fc (wScr cy s nq t q2 m2 ml2 c2 g2 nb74 ct74 po74 co9) OB sn (upA AD 1 ad74) (upA (upA VS 1 (VS 0)) 1 (rnC (pall S.2.2.2.1 61 0).2.2 (VS 0) 0).2)).eraseIdx 12).flatten) hX (r_runV (As := []) hX dX5_runScript_60 k_X5_261 (fun l9 hl9 => cP_clear hS1 (by omega)) hG ⟨5, _, TX3, 5, List.mem_cons_self, rfl⟩ rfl rfl (Nat.le_of_ble_eq_true rfl) (by decide) (by decide) (by decide) (by decide)) (fl_out (bs := (wBFl cy f fa s o an pr un hs e1 e2 fc (wScr cy s nq t q2 m2 ml2 c2 g2 nb74 ct74 po74 co9) OB sn (upA AD 1 ad74) (upA (upA VS 1 (VS 0)) 1 (rnC (pall S.2.2.2.1 61 0).2.2 (VS 0) 0).2))) 12 rfl) rfl rfl rfl (fun w9 u9 hp9 => ?_)
        obtain ⟨rfl, q176, m176, ml176, g176, rfl, hz9⟩ := hp9
        change V X 1 150 (wScr cy s nq t q176 m176 ml176 0 g176 nb74 ct74 po74 co9 ++ ((wBFl cy f fa s o an pr un hs e1 e2 fc (wScr cy s nq t q2 m2 ml2 c2 g2 nb74 ct74 po74 co9) OB sn (upA AD 1 ad74) (upA (upA VS 1 (VS 0)) 1 (rnC (pall S.2.2.2.1 61 0).2.2 (VS 0) 0).2)).eraseIdx 12).flatten) [some (.ref f), some (.int (-1)), some (.int (nI i9)), some (.int (nI co9))] [] 63
        refine V_perm (fl_back (bs := (wBFl cy f fa s o an pr un hs e1 e2 fc (wScr cy s nq t q2 m2 ml2 c2 g2 nb74 ct74 po74 co9) OB sn (upA AD 1 ad74) (upA (upA VS 1 (VS 0)) 1 (rnC (pall S.2.2.2.1 61 0).2.2 (VS 0) 0).2))) (bs' := (wBFl cy f fa s o an pr un hs e1 e2 fc (wScr cy s nq t q176 m176 ml176 0 g176 nb74 ct74 po74 co9) OB sn (upA AD 1 ad74) (upA (upA VS 1 (VS 0)) 1 (rnC (pall S.2.2.2.1 61 0).2.2 (VS 0) 0).2))) 12 rfl rfl) ?_
        refine r_iload_n (pc' := 64) hX dX5_runScript_63 rfl rfl ?_
        refine r_iconst (pc' := 65) (v := (-1)) hX dX5_runScript_64 rfl rfl ?_
        refine r_icmp_eq_I (tgt := 84) (pc' := 68) hX dX5_runScript_65 (by decide) rfl (nI_I (by omega)) (by decide : (-1 : Int32).toInt = -1) (fun c65 => ?_) (fun c65 => ?_)
        · exact absurd c65 (by omega)
        · refine r_aload_n (pc' := 69) hX dX5_runScript_68 rfl rfl ?_
          refine r_iload_n (pc' := 70) hX dX5_runScript_69 rfl rfl ?_
          refine r_put (ws' := wBF cy f fa s o an pr un hs e1 (nI i9) fc (wScr cy s nq t q176 m176 ml176 0 g176 nb74 ct74 po74 co9) OB sn (upA AD 1 ad74) (upA (upA VS 1 (VS 0)) 1 (rnC (pall S.2.2.2.1 61 0).2.2 (VS 0) 0).2)) (pc' := 73) hX dX5_runScript_70 f_X5_48 fw_X5_8 0 rfl rfl rfl (Nat.le_of_ble_eq_true rfl) rfl rfl ?_
          have hq9 : qRun S = -3 := by
            unfold qRun
            rw [if_neg hE7, hv0, hi9]
          have hq8 : aRun S = (S.1, S.2.1, S.2.2.1, [], S.2.2.2.2.1, e1, nI i9) := by
            unfold aRun
            rw [if_neg hE7, hv0, hi9]
            unfold aF
            rw [he1, hv0]
          exact r_throwW hX hO th_ISE 12 (by decide) rfl dX5_runScript_73 dX5_runScript_76 dX5_runScript_77 dX5_runScript_80 dX5_runScript_83 (by decide) (by decide) ⟨by rw [hq9]; decide, by rw [hq9]; rfl, by rw [hq8]; exact ⟨fa, s, o, pr, un, hs, an, _, _, fc, _, OB, sn, _, _, rfl, FR_e (FR_dr (FR_scr hF hz9 (by omega)) had9 (VS 0) _)⟩⟩ (by decide) (by decide)
    · exact absurd c10 (by omega)
