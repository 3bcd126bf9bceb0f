theorem mtI (r : Option Nat) : mtF r = if r = none then (-1 : Int32) else nI (r.getD 0) := by
  cases r with
  | none => rfl
  | some a => rfl
theorem rnC_lt : ∀ {cs : List (Nat × List Nat)} {v : SV} {i j : Nat}, (rnC cs v i).1 = some j → i ≤ j ∧ j < i + cs.length
  | [], _, _, _, h => by cases h
  | c :: cs, v, i, j, h => by
    by_cases q : (oC c v).1.toInt < 0
    · rw [rnC_no q] at h
      cases h
      rw [List.length_cons]
      omega
    · rw [rnC_on q] at h
      have := rnC_lt h
      rw [List.length_cons]
      omega
theorem FR_undo {cy : Nat → ClassId} {s o pr un hs : Nat} {e1 e2 : Int32} {fc : Nat → Nat} {SC OB : va_W} {sn : SV} {AD : Nat → Nat → Nat} {VS : Nat → SV} {S : AS} (h : FR cy s o pr un hs e1 e2 fc SC OB sn AD VS S) (hu : ¬ un = 0) {p2 : Nat} (hp : p2 = (pr + 9) % 10) :
    FR cy s o p2 (un - 1) hs e1 e2 fc SC OB sn (fun r => if r = 0 then AD 9 else AD (r - 1)) (fun r => if r = 0 then VS 9 else VS (r - 1)) (aUndo S) ∧ qUndo S = nI (un - 1) := by
  obtain ⟨⟨hpr, hfc⟩, ⟨hv0, hul, hun, hus⟩, hr⟩ := h
  obtain ⟨v, us, rest⟩ := S
  cases us with
  | nil => exact absurd hul.symm hu
  | cons a us =>
    have hul : us.length + 1 = un := hul
    have h0 := hus 0 (by omega)
    refine ⟨⟨⟨by omega, fun r hr => ?_⟩, ⟨Option.some.inj h0, by show us.length = un - 1; omega, by omega, fun i hi => ?_⟩, hr⟩, ?_⟩
    · rw [hp]
      show fc (((pr + 9) % 10 + r) % 10) = (if r = 0 then AD 9 else AD (r - 1)) 0
      by_cases c : r = 0
      · rw [if_pos c, ← hfc 9 (by decide), c]
        congr 1
        omega
      · rw [if_neg c, ← hfc (r - 1) (by omega)]
        congr 1
        omega
    · have := hus (i + 1) (by omega)
      show us[i]? = some (if 9 - i = 0 then VS 9 else VS (9 - i - 1))
      rw [if_neg (by omega), show 9 - i - 1 = 9 - (i + 1) by omega]
      exact this
    · show nI us.length = nI (un - 1)
      congr 1
      omega
set_option maxRecDepth 20000 in
set_option maxHeartbeats 1000000 in
theorem cF_type {l : Launch} {D : va_G} {cy : Nat → ClassId} {sa : Nat → Nat} {f K : Nat} {S : AS} {ws : va_W} {v : SV} (hvS : v = S.1) (hS : FS cy f S ws) (hI : AI K S) {ch : Nat} (hch : ch < 65536) (hst : l.stackTraces = false) : MX l yX5_type cX5_type 2 (some .int) 7 1 150 (D, cy, sa) [.ref f, .int (nI ch)] (ws) (fun w u => okA (qType S ch) ∧ w = some (.int (qType S ch)) ∧ FS cy f (aType S ch) u) (fun E u => noA (qType S ch) ∧ E = exC (qType S ch) ∧ FS cy f S u) := by
  obtain ⟨fa, s, o, pr, un, hs, an, e1, e2, fc, SC, OB, sn, AD, VS, rfl, hF⟩ := hS
  obtain ⟨⟨hpr, hfc⟩, ⟨hv0, hul, hun, hus⟩, ⟨hh1, hh2⟩, hSC, hOB, he1, he2⟩ := id hF
  have hA0 : fc pr = AD 0 0 := by
    have := hfc 0 (by decide)
    rwa [show (pr + 0) % 10 = pr by omega] at this
  have hA1 : fc ((pr + 1) % 10) = AD 1 0 := hfc 1 (by decide)
  have hv : Wf (VS 0) := hv0 ▸ hI.1.1.1
  have hFB : FB (VS 0) := hv0 ▸ hI.1.2
  have hInv : Inv K (VS 0) := hv0 ▸ hI.1.1
  obtain rfl : v = VS 0 := hvS.trans hv0
  have h8 := hv.2.2.1
  have hFS : FS cy f S (wBF cy f fa s o an pr un hs e1 e2 fc SC OB sn AD VS) := ⟨fa, s, o, pr, un, hs, an, e1, e2, fc, SC, OB, sn, AD, VS, rfl, hF⟩
  have hst5 := hv.2.2.2.1
  have htol := hv.2.2.2.2.1
  obtain ⟨nq, t, q2, m2, ml2, c2, ct, po, co, g2, nb, rfl, hS1, hS2⟩ := hSC
  have hS3 : c2 = S.2.2.2.1.length := hS1.1.symm
  refine MX_by (own := RX5) (L := [some (.ref f), some (.int (nI ch))]) hst (by decide +kernel) rfl rfl (Nat.le_of_ble_eq_true rfl) 0 rfl (fun X hX hE hO hnL hG hcy hnm => ?_)
  refine r_iload_n (pc' := 1) hX dX5_type_0 rfl rfl ?_
  refine r_bipush (pc' := 3) (v := nI 32) hX dX5_type_1 rfl rfl ?_
  refine r_icmp_lt_N (tgt := 12) (pc' := 6) hX dX5_type_3 (by decide) rfl (by omega) (by omega) (fun c3 => ?_) (fun c3 => ?_)
  · have hq9 : qType S ch = -2 := if_neg (by omega)
    exact r_throw hX hO th_IAE 9 (by decide) rfl dX5_type_12 dX5_type_15 dX5_type_16 dX5_type_18 dX5_type_21 (by decide) (by decide) ⟨by rw [hq9]; decide, by rw [hq9]; rfl, hFS⟩ (by decide) (by decide)
  · refine r_iload_n (pc' := 7) hX dX5_type_6 rfl rfl ?_
    refine r_bipush (pc' := 9) (v := nI 126) hX dX5_type_7 rfl rfl ?_
    refine r_icmp_le_N (tgt := 22) (pc' := 12) hX dX5_type_9 (by decide) rfl (by omega) (by omega) (fun c9 => ?_) (fun c9 => ?_)
    · refine r_aload_n (pc' := 23) hX dX5_type_22 rfl rfl ?_
      refine r_get (pc' := 26) (v := .ref s) hX dX5_type_23 f_X5_23 0 rfl rfl rfl ?_
      refine V_call (k' := 0) (n' := 0) (pc' := 29) (wr := ((wBFl cy f fa s o an pr un hs e1 e2 fc (wScr cy s nq t q2 m2 ml2 c2 g2 nb ct po co) OB sn AD VS).eraseIdx 12).flatten) hX (r_runV (As := []) hX dX5_type_26 k_X5_248 (fun l9 hl9 => cP_length hS1) hG ⟨5, _, TX3, 5, List.mem_cons_self, rfl⟩ rfl rfl (Nat.le_of_ble_eq_true rfl) (by decide) (by decide) (by decide) (by decide)) (fl_out (bs := (wBFl cy f fa s o an pr un hs e1 e2 fc (wScr cy s nq t q2 m2 ml2 c2 g2 nb ct po co) OB sn AD VS)) 12 rfl) rfl rfl rfl (fun w9 u9 hp9 => ?_)
      obtain ⟨rfl, rfl⟩ := hp9
      change V X 0 0 (wScr cy s nq t q2 m2 ml2 c2 g2 nb ct po co ++ ((wBFl cy f fa s o an pr un hs e1 e2 fc (wScr cy s nq t q2 m2 ml2 c2 g2 nb ct po co) OB sn AD VS).eraseIdx 12).flatten) [some (.ref f), some (.int (nI ch))] [.int (nI c2)] 29
      refine V_perm (fl_back (bs := (wBFl cy f fa s o an pr un hs e1 e2 fc (wScr cy s nq t q2 m2 ml2 c2 g2 nb ct po co) OB sn AD VS)) (bs' := (wBFl cy f fa s o an pr un hs e1 e2 fc (wScr cy s nq t q2 m2 ml2 c2 g2 nb ct po co) OB sn AD VS)) 12 rfl rfl) ?_
      refine r_bipush (pc' := 31) (v := nI 60) hX dX5_type_29 rfl rfl ?_
      refine r_icmp_lt_N (tgt := 44) (pc' := 34) hX dX5_type_31 (by decide) rfl (by omega) (by omega) (fun c31 => ?_) (fun c31 => ?_)
      · refine r_aload_n (pc' := 45) hX dX5_type_44 rfl rfl ?_
        refine r_get (pc' := 48) (v := .ref s) hX dX5_type_45 f_X5_23 0 rfl rfl rfl ?_
        refine r_iload_n (pc' := 49) hX dX5_type_48 rfl rfl ?_
        refine V_call (k' := 1) (n' := 150) (pc' := 52) (wr := ((wBFl cy f fa s o an pr un hs e1 e2 fc (wScr cy s nq t q2 m2 ml2 c2 g2 nb ct po co) OB sn AD VS).eraseIdx 12).flatten) hX (r_runV (As := [.int (nI ch)]) hX dX5_type_49 k_X5_254 (fun l9 hl9 => cP_append hS1 (by omega) (by omega)) hG ⟨5, _, TX3, 5, List.mem_cons_self, rfl⟩ rfl rfl (Nat.le_of_ble_eq_true rfl) (by decide) (by decide) (by decide) (by decide)) (fl_out (bs := (wBFl cy f fa s o an pr un hs e1 e2 fc (wScr cy s nq t q2 m2 ml2 c2 g2 nb ct po co) OB sn AD VS)) 12 rfl) rfl rfl rfl (fun w9 u9 hp9 => ?_)
        obtain ⟨rfl, q171, m171, g171, rfl, h71⟩ := hp9
        change V X 1 150 (wScr cy s nq t q171 m171 ml2 (c2+1) g171 nb ct po co ++ ((wBFl cy f fa s o an pr un hs e1 e2 fc (wScr cy s nq t q2 m2 ml2 c2 g2 nb ct po co) OB sn AD VS).eraseIdx 12).flatten) [some (.ref f), some (.int (nI ch))] [.int (nI (c2 + 1))] 52
        refine V_perm (fl_back (bs := (wBFl cy f fa s o an pr un hs e1 e2 fc (wScr cy s nq t q2 m2 ml2 c2 g2 nb ct po co) OB sn AD VS)) (bs' := (wBFl cy f fa s o an pr un hs e1 e2 fc (wScr cy s nq t q171 m171 ml2 (c2+1) g171 nb ct po co) OB sn AD VS)) 12 rfl rfl) ?_
        have hq9 : qType S ch = nI (c2 + 1) := by
          unfold qType
          rw [if_pos (by omega), if_pos (by omega), hS3]
        have hq8 : aType S ch = aBuf S (S.2.2.2.1 ++ [ch]) := by
          unfold aType
          rw [if_pos (by omega), if_pos (by omega)]
        exact r_ireturn hX hE dX5_type_52 rfl ⟨by rw [hq9]; exact okN (by omega), by rw [hq9], by rw [hq8]; exact ⟨fa, s, o, pr, un, hs, an, e1, e2, fc, _, OB, sn, AD, VS, rfl, FR_scr hF h71 (by omega)⟩⟩ (by omega) (by omega)
      · have hq9 : qType S ch = -3 := by
          unfold qType
          rw [if_pos (by omega), if_neg (by omega)]
        exact r_throw hX hO th_ISE 10 (by decide) rfl dX5_type_34 dX5_type_37 dX5_type_38 dX5_type_40 dX5_type_43 (by decide) (by decide) ⟨by rw [hq9]; decide, by rw [hq9]; rfl, hFS⟩ (by decide) (by decide)
    · have hq9 : qType S ch = -2 := if_neg (by omega)
      exact r_throw hX hO th_IAE 9 (by decide) rfl dX5_type_12 dX5_type_15 dX5_type_16 dX5_type_18 dX5_type_21 (by decide) (by decide) ⟨by rw [hq9]; decide, by rw [hq9]; rfl, hFS⟩ (by decide) (by decide)

set_option maxRecDepth 20000 in
set_option maxHeartbeats 1000000 in
theorem cF_errorPosition {l : Launch} {D : va_G} {cy : Nat → ClassId} {sa : Nat → Nat} {f K : Nat} {S : AS} {ws : va_W} {v : SV} (hvS : v = S.1) (hS : FS cy f S ws) (hI : AI K S) (hst : l.stackTraces = false) (hlo : S.2.2.2.2.2.1 = -1 ∨ 0 ≤ (S.2.2.2.2.2.1).toInt) : MX l yX5_errorPosition cX5_errorPosition 1 (some .int) 6 1 6 (D, cy, sa) [.ref f] (ws) (fun w u => okA (qErr (S.2.2.2.2.2.1)) ∧ w = some (.int (qErr (S.2.2.2.2.2.1))) ∧ FS cy f S u) (fun E u => noA (qErr (S.2.2.2.2.2.1)) ∧ E = exC (qErr (S.2.2.2.2.2.1)) ∧ FS cy f S u) := by
  obtain ⟨fa, s, o, pr, un, hs, an, e1, e2, fc, SC, OB, sn, AD, VS, rfl, hF⟩ := hS
  obtain ⟨⟨hpr, hfc⟩, ⟨hv0, hul, hun, hus⟩, ⟨hh1, hh2⟩, hSC, hOB, he1, he2⟩ := id hF
  have hA0 : fc pr = AD 0 0 := by
    have := hfc 0 (by decide)
    rwa [show (pr + 0) % 10 = pr by omega] at this
  have hA1 : fc ((pr + 1) % 10) = AD 1 0 := hfc 1 (by decide)
  have hv : Wf (VS 0) := hv0 ▸ hI.1.1.1
  have hFB : FB (VS 0) := hv0 ▸ hI.1.2
  have hInv : Inv K (VS 0) := hv0 ▸ hI.1.1
  obtain rfl : v = VS 0 := hvS.trans hv0
  have h8 := hv.2.2.1
  have hFS : FS cy f S (wBF cy f fa s o an pr un hs e1 e2 fc SC OB sn AD VS) := ⟨fa, s, o, pr, un, hs, an, e1, e2, fc, SC, OB, sn, AD, VS, rfl, hF⟩
  refine MX_by (own := RX5) (L := [some (.ref f)]) hst (by decide +kernel) rfl rfl (Nat.le_of_ble_eq_true rfl) 0 rfl (fun X hX hE hO hnL hG hcy hnm => ?_)
  refine r_aload_n (pc' := 1) hX dX5_errorPosition_0 rfl rfl ?_
  refine r_get (pc' := 4) (v := .int e1) hX dX5_errorPosition_1 f_X5_45 0 rfl rfl rfl ?_
  refine r_iconst (pc' := 5) (v := (-1)) hX dX5_errorPosition_4 rfl rfl ?_
  refine r_icmp_ne_I (tgt := 19) (pc' := 8) hX dX5_errorPosition_5 (by decide) rfl rfl (by decide : (-1 : Int32).toInt = -1) (fun c5 => ?_) (fun c5 => ?_)
  · refine r_aload_n (pc' := 20) hX dX5_errorPosition_19 rfl rfl ?_
    refine r_get (pc' := 23) (v := .int e1) hX dX5_errorPosition_20 f_X5_45 0 rfl rfl rfl ?_
    have hq9 : qErr (S.2.2.2.2.2.1) = e1 := by
      unfold qErr
      rw [if_neg (by rw [← he1]; exact fun q => c5 (by rw [q]; rfl)), he1]
    exact r_ireturn hX hE dX5_errorPosition_23 rfl ⟨by rw [hq9]; intro z9; rw [← he1] at hlo; exact hlo.elim (fun z8 => c5 (by rw [z8]; rfl)) (fun z8 => by omega), by rw [hq9], hFS⟩ (by decide) (by decide)
  · have hq9 : qErr (S.2.2.2.2.2.1) = -5 := by
      unfold qErr
      rw [if_pos (by rw [← he1]; exact Int32.toInt_inj.mp c5)]
    exact r_throwW hX hO th_NSE 13 (by decide) rfl dX5_errorPosition_8 dX5_errorPosition_11 dX5_errorPosition_12 dX5_errorPosition_15 dX5_errorPosition_18 (by decide) (by decide) ⟨by rw [hq9]; decide, by rw [hq9]; rfl, hFS⟩ (by decide) (by decide)

set_option maxRecDepth 20000 in
set_option maxHeartbeats 1000000 in
theorem cF_failedCommand {l : Launch} {D : va_G} {cy : Nat → ClassId} {sa : Nat → Nat} {f K : Nat} {S : AS} {ws : va_W} {v : SV} (hvS : v = S.1) (hS : FS cy f S ws) (hI : AI K S) (hst : l.stackTraces = false) (hlo : S.2.2.2.2.2.2 = -1 ∨ 0 ≤ (S.2.2.2.2.2.2).toInt) : MX l yX5_failedCommand cX5_failedCommand 1 (some .int) 6 1 6 (D, cy, sa) [.ref f] (ws) (fun w u => okA (qErr (S.2.2.2.2.2.2)) ∧ w = some (.int (qErr (S.2.2.2.2.2.2))) ∧ FS cy f S u) (fun E u => noA (qErr (S.2.2.2.2.2.2)) ∧ E = exC (qErr (S.2.2.2.2.2.2)) ∧ FS cy f S u) := by
  obtain ⟨fa, s, o, pr, un, hs, an, e1, e2, fc, SC, OB, sn, AD, VS, rfl, hF⟩ := hS
  obtain ⟨⟨hpr, hfc⟩, ⟨hv0, hul, hun, hus⟩, ⟨hh1, hh2⟩, hSC, hOB, he1, he2⟩ := id hF
  have hA0 : fc pr = AD 0 0 := by
    have := hfc 0 (by decide)
    rwa [show (pr + 0) % 10 = pr by omega] at this
  have hA1 : fc ((pr + 1) % 10) = AD 1 0 := hfc 1 (by decide)
  have hv : Wf (VS 0) := hv0 ▸ hI.1.1.1
  have hFB : FB (VS 0) := hv0 ▸ hI.1.2
  have hInv : Inv K (VS 0) := hv0 ▸ hI.1.1
  obtain rfl : v = VS 0 := hvS.trans hv0
  have h8 := hv.2.2.1
  have hFS : FS cy f S (wBF cy f fa s o an pr un hs e1 e2 fc SC OB sn AD VS) := ⟨fa, s, o, pr, un, hs, an, e1, e2, fc, SC, OB, sn, AD, VS, rfl, hF⟩
  refine MX_by (own := RX5) (L := [some (.ref f)]) hst (by decide +kernel) rfl rfl (Nat.le_of_ble_eq_true rfl) 0 rfl (fun X hX hE hO hnL hG hcy hnm => ?_)
  refine r_aload_n (pc' := 1) hX dX5_failedCommand_0 rfl rfl ?_
  refine r_get (pc' := 4) (v := .int e2) hX dX5_failedCommand_1 f_X5_48 0 rfl rfl rfl ?_
  refine r_iconst (pc' := 5) (v := (-1)) hX dX5_failedCommand_4 rfl rfl ?_
  refine r_icmp_ne_I (tgt := 19) (pc' := 8) hX dX5_failedCommand_5 (by decide) rfl rfl (by decide : (-1 : Int32).toInt = -1) (fun c5 => ?_) (fun c5 => ?_)
  · refine r_aload_n (pc' := 20) hX dX5_failedCommand_19 rfl rfl ?_
    refine r_get (pc' := 23) (v := .int e2) hX dX5_failedCommand_20 f_X5_48 0 rfl rfl rfl ?_
    have hq9 : qErr (S.2.2.2.2.2.2) = e2 := by
      unfold qErr
      rw [if_neg (by rw [← he2]; exact fun q => c5 (by rw [q]; rfl)), he2]
    exact r_ireturn hX hE dX5_failedCommand_23 rfl ⟨by rw [hq9]; intro z9; rw [← he2] at hlo; exact hlo.elim (fun z8 => c5 (by rw [z8]; rfl)) (fun z8 => by omega), by rw [hq9], hFS⟩ (by decide) (by decide)
  · have hq9 : qErr (S.2.2.2.2.2.2) = -5 := by
      unfold qErr
      rw [if_pos (by rw [← he2]; exact Int32.toInt_inj.mp c5)]
    exact r_throwW hX hO th_NSE 14 (by decide) rfl dX5_failedCommand_8 dX5_failedCommand_11 dX5_failedCommand_12 dX5_failedCommand_15 dX5_failedCommand_18 (by decide) (by decide) ⟨by rw [hq9]; decide, by rw [hq9]; rfl, hFS⟩ (by decide) (by decide)

set_option maxRecDepth 20000 in
set_option maxHeartbeats 1000000 in
theorem cF_undo {l : Launch} {D : va_G} {cy : Nat → ClassId} {sa : Nat → Nat} {f K : Nat} {S : AS} {ws : va_W} {v : SV} (hvS : v = S.1) (hS : FS cy f S ws) (hI : AI K S) (hst : l.stackTraces = false) : MX l yX5_undo cX5_undo 1 (some .int) 6 1 6 (D, cy, sa) [.ref f] (ws) (fun w u => okA (qUndo S) ∧ w = some (.int (qUndo S)) ∧ FS cy f (aUndo S) u) (fun E u => noA (qUndo S) ∧ E = exC (qUndo S) ∧ FS cy f S u) := by
  obtain ⟨fa, s, o, pr, un, hs, an, e1, e2, fc, SC, OB, sn, AD, VS, rfl, hF⟩ := hS
  obtain ⟨⟨hpr, hfc⟩, ⟨hv0, hul, hun, hus⟩, ⟨hh1, hh2⟩, hSC, hOB, he1, he2⟩ := id hF
  have hA0 : fc pr = AD 0 0 := by
    have := hfc 0 (by decide)
    rwa [show (pr + 0) % 10 = pr by omega] at this
  have hA1 : fc ((pr + 1) % 10) = AD 1 0 := hfc 1 (by decide)
  have hv : Wf (VS 0) := hv0 ▸ hI.1.1.1
  have hFB : FB (VS 0) := hv0 ▸ hI.1.2
  have hInv : Inv K (VS 0) := hv0 ▸ hI.1.1
  obtain rfl : v = VS 0 := hvS.trans hv0
  have h8 := hv.2.2.1
  have hFS : FS cy f S (wBF cy f fa s o an pr un hs e1 e2 fc SC OB sn AD VS) := ⟨fa, s, o, pr, un, hs, an, e1, e2, fc, SC, OB, sn, AD, VS, rfl, hF⟩
  refine MX_by (own := RX5) (L := [some (.ref f)]) hst (by decide +kernel) rfl rfl (Nat.le_of_ble_eq_true rfl) 0 rfl (fun X hX hE hO hnL hG hcy hnm => ?_)
  refine r_aload_n (pc' := 1) hX dX5_undo_0 rfl rfl ?_
  refine r_get (pc' := 4) (v := .int (nI un)) hX dX5_undo_1 f_X5_38 0 rfl rfl rfl ?_
  refine r_if_ne_N (tgt := 18) (pc' := 7) hX dX5_undo_4 (by decide) rfl (by omega) (fun c4 => ?_) (fun c4 => ?_)
  · refine r_aload_n (pc' := 19) hX dX5_undo_18 rfl rfl ?_
    refine r_aload_n (pc' := 20) hX dX5_undo_19 rfl rfl ?_
    refine r_get (pc' := 23) (v := .int (nI pr)) hX dX5_undo_20 f_X5_34 0 rfl rfl rfl ?_
    refine r_if_ne_N (tgt := 31) (pc' := 26) hX dX5_undo_23 (by decide) rfl (by omega) (fun c23 => ?_) (fun c23 => ?_)
    · refine r_aload_n (pc' := 32) hX dX5_undo_31 rfl rfl ?_
      refine r_get (pc' := 35) (v := .int (nI pr)) hX dX5_undo_32 f_X5_34 0 rfl rfl rfl ?_
      refine r_iconst (pc' := 36) (v := nI 1) hX dX5_undo_35 rfl rfl ?_
      refine r_isub_N (pc' := 37) hX dX5_undo_36 (by omega) rfl ?_
      refine r_put (ws' := wBF cy f fa s o an (pr - 1) un hs e1 e2 fc SC OB sn AD VS) (pc' := 40) hX dX5_undo_37 f_X5_34 fw_X5_4 0 rfl rfl rfl (Nat.le_of_ble_eq_true rfl) rfl rfl ?_
      refine r_aload_n (pc' := 41) hX dX5_undo_40 rfl rfl ?_
      refine r_dup (pc' := 42) hX dX5_undo_41 rfl rfl ?_
      refine r_get (pc' := 45) (v := .int (nI un)) hX dX5_undo_42 f_X5_38 0 rfl rfl rfl ?_
      refine r_iconst (pc' := 46) (v := nI 1) hX dX5_undo_45 rfl rfl ?_
      refine r_isub_N (pc' := 47) hX dX5_undo_46 (by omega) rfl ?_
      refine r_put (ws' := wBF cy f fa s o an (pr - 1) (un - 1) hs e1 e2 fc SC OB sn AD VS) (pc' := 50) hX dX5_undo_47 f_X5_38 fw_X5_5 0 rfl rfl rfl (Nat.le_of_ble_eq_true rfl) rfl rfl ?_
      refine r_aload_n (pc' := 51) hX dX5_undo_50 rfl rfl ?_
      refine r_get (pc' := 54) (v := .int (nI (un - 1))) hX dX5_undo_51 f_X5_38 0 rfl rfl rfl ?_
      obtain ⟨z1, z2⟩ := FR_undo hF (by omega) (show pr - 1 = (pr + 9) % 10 by omega)
      refine V_perm (fl_perm (bs := (wBFl cy f fa s o an (pr - 1) (un - 1) hs e1 e2 fc SC OB sn AD VS)) (bs' := (wBFl cy f fa s o an (pr - 1) (un - 1) hs e1 e2 fc SC OB sn (fun r => if r = 0 then AD 9 else AD (r - 1)) (fun r => if r = 0 then VS 9 else VS (r - 1)))) (n := 14) [0, 10, 1, 2, 3, 4, 5, 6, 7, 8, 9, 11, 12, 13] (by decide) rfl rfl) ?_
      exact r_ireturn hX hE dX5_undo_54 rfl ⟨by rw [z2]; exact okN (by omega), by rw [z2], ⟨fa, s, o, _, _, hs, an, e1, e2, fc, SC, OB, sn, _, _, rfl, z1⟩⟩ (by decide) (by decide)
    · refine r_bipush (pc' := 28) (v := nI 9) hX dX5_undo_26 rfl rfl ?_
      refine r_goto (tgt := 37) hX dX5_undo_28 (by decide) ?_
      refine r_put (ws' := wBF cy f fa s o an 9 un hs e1 e2 fc SC OB sn AD VS) (pc' := 40) hX dX5_undo_37 f_X5_34 fw_X5_4 0 rfl rfl rfl (Nat.le_of_ble_eq_true rfl) rfl rfl ?_
      refine r_aload_n (pc' := 41) hX dX5_undo_40 rfl rfl ?_
      refine r_dup (pc' := 42) hX dX5_undo_41 rfl rfl ?_
      refine r_get (pc' := 45) (v := .int (nI un)) hX dX5_undo_42 f_X5_38 0 rfl rfl rfl ?_
      refine r_iconst (pc' := 46) (v := nI 1) hX dX5_undo_45 rfl rfl ?_
      refine r_isub_N (pc' := 47) hX dX5_undo_46 (by omega) rfl ?_
      refine r_put (ws' := wBF cy f fa s o an 9 (un - 1) hs e1 e2 fc SC OB sn AD VS) (pc' := 50) hX dX5_undo_47 f_X5_38 fw_X5_5 0 rfl rfl rfl (Nat.le_of_ble_eq_true rfl) rfl rfl ?_
      refine r_aload_n (pc' := 51) hX dX5_undo_50 rfl rfl ?_
      refine r_get (pc' := 54) (v := .int (nI (un - 1))) hX dX5_undo_51 f_X5_38 0 rfl rfl rfl ?_
      obtain ⟨z1, z2⟩ := FR_undo hF (by omega) (show 9 = (pr + 9) % 10 by omega)
      refine V_perm (fl_perm (bs := (wBFl cy f fa s o an 9 (un - 1) hs e1 e2 fc SC OB sn AD VS)) (bs' := (wBFl cy f fa s o an 9 (un - 1) hs e1 e2 fc SC OB sn (fun r => if r = 0 then AD 9 else AD (r - 1)) (fun r => if r = 0 then VS 9 else VS (r - 1)))) (n := 14) [0, 10, 1, 2, 3, 4, 5, 6, 7, 8, 9, 11, 12, 13] (by decide) rfl rfl) ?_
      exact r_ireturn hX hE dX5_undo_54 rfl ⟨by rw [z2]; exact okN (by omega), by rw [z2], ⟨fa, s, o, _, _, hs, an, e1, e2, fc, SC, OB, sn, _, _, rfl, z1⟩⟩ (by decide) (by decide)
  · have hq9 : qUndo S = -3 := by
      obtain ⟨v9, us9, r9⟩ := S
      have hul9 : us9.length = un := hul
      have hn9 : us9 = [] := List.eq_nil_of_length_eq_zero (by omega)
      subst hn9
      rfl
    exact r_throwW hX hO th_ISE 15 (by decide) rfl dX5_undo_7 dX5_undo_10 dX5_undo_11 dX5_undo_14 dX5_undo_17 (by decide) (by decide) ⟨by rw [hq9]; decide, by rw [hq9]; rfl, hFS⟩ (by decide) (by decide)

set_option maxRecDepth 20000 in
set_option maxHeartbeats 1000000 in
theorem cF_save {l : Launch} {D : va_G} {cy : Nat → ClassId} {sa : Nat → Nat} {f K : Nat} {S : AS} {ws : va_W} {v : SV} (hvS : v = S.1) (hS : FS cy f S ws) (hI : AI K S) : MG l yX5_save cX5_save 1 (some .int) 4 0 0 (D, cy, sa) [.ref f] (ws) (fun w u => w = some (.int (nI (v 0 4))) ∧ FS cy f (aSave S) u) := by
  obtain ⟨fa, s, o, pr, un, hs, an, e1, e2, fc, SC, OB, sn, AD, VS, rfl, hF⟩ := hS
  obtain ⟨⟨hpr, hfc⟩, ⟨hv0, hul, hun, hus⟩, ⟨hh1, hh2⟩, hSC, hOB, he1, he2⟩ := id hF
  have hA0 : fc pr = AD 0 0 := by
    have := hfc 0 (by decide)
    rwa [show (pr + 0) % 10 = pr by omega] at this
  have hA1 : fc ((pr + 1) % 10) = AD 1 0 := hfc 1 (by decide)
  have hv : Wf (VS 0) := hv0 ▸ hI.1.1.1
  have hFB : FB (VS 0) := hv0 ▸ hI.1.2
  have hInv : Inv K (VS 0) := hv0 ▸ hI.1.1
  obtain rfl : v = VS 0 := hvS.trans hv0
  have h8 := hv.2.2.1
  have hFS : FS cy f S (wBF cy f fa s o an pr un hs e1 e2 fc SC OB sn AD VS) := ⟨fa, s, o, pr, un, hs, an, e1, e2, fc, SC, OB, sn, AD, VS, rfl, hF⟩
  refine MG_by (own := RX5) (L := [some (.ref f)]) (by decide +kernel) rfl rfl (Nat.le_of_ble_eq_true rfl) 0 rfl (fun X hX hE hnL hG hcy hnm => ?_)
  refine r_aload_n (pc' := 1) hX dX5_save_0 rfl rfl ?_
  refine r_get (pc' := 4) (v := .ref (an 0)) hX dX5_save_1 f_X5_16 0 rfl rfl rfl ?_
  refine r_aload_n (pc' := 5) hX dX5_save_4 rfl rfl ?_
  refine V_call0 (k' := 0) (n' := 0) (pc' := 8) hX (r_runV (As := []) hX dX5_save_5 k_X5_88 (fun l9 hl9 => cF_now (by assumption) (by assumption)) hG ⟨7, _, TX5, 9, List.mem_cons_self, rfl⟩ rfl rfl (Nat.le_of_ble_eq_true rfl) (by decide) (by decide) (by decide) (by decide)) rfl rfl rfl (fun w9 u9 hp9 => ?_)
  obtain ⟨rfl, rfl⟩ := hp9
  change V X 0 0 (wBF cy f fa s o an pr un hs e1 e2 fc SC OB sn AD VS) [some (.ref f)] [.ref (AD 0 0), .ref (an 0)] 8
  refine V_call (k' := 0) (n' := 0) (pc' := 11) (wr := (((wBFl cy f fa s o an pr un hs e1 e2 fc SC OB sn AD VS).eraseIdx 11).eraseIdx 1).flatten) hX (r_runV (As := [.ref (AD 0 0)]) hX dX5_save_8 k_X5_281 (fun l9 hl9 => cS_copy (bd := an) (ad := AD 0) (v := VS 0) (w := sn) hFB) hG ⟨6, _, TX4, 17, List.mem_append_left _ List.mem_cons_self, rfl⟩ rfl rfl (Nat.le_of_ble_eq_true rfl) (by decide) (by decide) (by decide) (by decide)) (fl_out2 (bs := (wBFl cy f fa s o an pr un hs e1 e2 fc SC OB sn AD VS)) 11 1 rfl rfl) rfl rfl rfl (fun w9 u9 hp9 => ?_)
  obtain ⟨rfl, rfl⟩ := hp9
  change V X 0 0 ((wSt cy an (VS 0) ++ wSt cy (AD 0) (VS 0)) ++ (((wBFl cy f fa s o an pr un hs e1 e2 fc SC OB sn AD VS).eraseIdx 11).eraseIdx 1).flatten) [some (.ref f)] [] 11
  refine V_perm (fl_back2 (bs := (wBFl cy f fa s o an pr un hs e1 e2 fc SC OB sn AD VS)) (bs' := (wBFl cy f fa s o an pr un hs e1 e2 fc SC OB (VS 0) AD VS)) 11 1 rfl rfl rfl) ?_
  refine r_aload_n (pc' := 12) hX dX5_save_11 rfl rfl ?_
  refine r_iconst (pc' := 13) (v := nI 1) hX dX5_save_12 rfl rfl ?_
  refine r_put (ws' := wBF cy f fa s o an pr un 1 e1 e2 fc SC OB (VS 0) AD VS) (pc' := 16) hX dX5_save_13 f_X5_41 fw_X5_6 0 rfl rfl rfl (Nat.le_of_ble_eq_true rfl) rfl rfl ?_
  refine r_aload_n (pc' := 17) hX dX5_save_16 rfl rfl ?_
  refine r_get (pc' := 20) (v := .ref (an 0)) hX dX5_save_17 f_X5_16 0 rfl rfl rfl ?_
  refine r_getNM (v := .int (nI ((VS 0) 0 4))) (pc' := 23) hX dX5_save_20 f_X5_118 (BF_memN List.mem_cons_self) rfl rfl ?_
  exact r_ireturn hX hE dX5_save_23 rfl ⟨rfl, ⟨fa, s, o, pr, un, 1, an, e1, e2, fc, SC, OB, VS 0, AD, VS, rfl, ⟨⟨hpr, hfc⟩, ⟨hv0, hul, hun, hus⟩, ⟨by decide, by show some S.1 = _; rw [hv0]; rfl⟩, hSC, hOB, he1, he2⟩⟩⟩ (by decide) (by decide)

set_option maxRecDepth 20000 in
set_option maxHeartbeats 1000000 in
theorem cF_restore {l : Launch} {D : va_G} {cy : Nat → ClassId} {sa : Nat → Nat} {f K : Nat} {S : AS} {ws : va_W} {v : SV} (hvS : v = S.1) (hS : FS cy f S ws) (hI : AI K S) (hst : l.stackTraces = false) : MX l yX5_restore cX5_restore 1 (some .int) 6 1 6 (D, cy, sa) [.ref f] (ws) (fun w u => okA (qRest S) ∧ w = some (.int (qRest S)) ∧ FS cy f (aRest S) u) (fun E u => noA (qRest S) ∧ E = exC (qRest S) ∧ FS cy f S u) := by
  obtain ⟨fa, s, o, pr, un, hs, an, e1, e2, fc, SC, OB, sn, AD, VS, rfl, hF⟩ := hS
  obtain ⟨⟨hpr, hfc⟩, ⟨hv0, hul, hun, hus⟩, ⟨hh1, hh2⟩, hSC, hOB, he1, he2⟩ := id hF
  have hA0 : fc pr = AD 0 0 := by
    have := hfc 0 (by decide)
    rwa [show (pr + 0) % 10 = pr by omega] at this
  have hA1 : fc ((pr + 1) % 10) = AD 1 0 := hfc 1 (by decide)
  have hv : Wf (VS 0) := hv0 ▸ hI.1.1.1
  have hFB : FB (VS 0) := hv0 ▸ hI.1.2
  have hInv : Inv K (VS 0) := hv0 ▸ hI.1.1
  obtain rfl : v = VS 0 := hvS.trans hv0
  have h8 := hv.2.2.1
  have hFS : FS cy f S (wBF cy f fa s o an pr un hs e1 e2 fc SC OB sn AD VS) := ⟨fa, s, o, pr, un, hs, an, e1, e2, fc, SC, OB, sn, AD, VS, rfl, hF⟩
  refine MX_by (own := RX5) (L := [some (.ref f)]) hst (by decide +kernel) rfl rfl (Nat.le_of_ble_eq_true rfl) 0 rfl (fun X hX hE hO hnL hG hcy hnm => ?_)
  refine r_aload_n (pc' := 1) hX dX5_restore_0 rfl rfl ?_
  refine r_get (pc' := 4) (v := .int (nI hs)) hX dX5_restore_1 f_X5_41 0 rfl rfl rfl ?_
  refine r_if_ne_N (tgt := 18) (pc' := 7) hX dX5_restore_4 (by decide) rfl (by omega) (fun c4 => ?_) (fun c4 => ?_)
  · have hq8 : S.2.2.1 = some sn := by rw [hh2, if_pos (by omega)]
    have hq9 : qRest S = nI (sn 0 4) := by unfold qRest; rw [hq8]
    have hq7 : aRest S = (sn, [], S.2.2) := by unfold aRest; rw [hq8]
    have hIs := hI.2.2.1 sn hq8
    have hFBs : FB sn := hIs.2
    have h8s := hIs.1.1.2.2.1
    refine r_aload_n (pc' := 19) hX dX5_restore_18 rfl rfl ?_
    refine V_call0 (k' := 0) (n' := 0) (pc' := 22) hX (r_runV (As := []) hX dX5_restore_19 k_X5_88 (fun l9 hl9 => cF_now (by assumption) (by assumption)) hG ⟨7, _, TX5, 9, List.mem_cons_self, rfl⟩ rfl rfl (Nat.le_of_ble_eq_true rfl) (by decide) (by decide) (by decide) (by decide)) rfl rfl rfl (fun w9 u9 hp9 => ?_)
    obtain ⟨rfl, rfl⟩ := hp9
    change V X 0 0 (wBF cy f fa s o an pr un hs e1 e2 fc SC OB sn AD VS) [some (.ref f)] [.ref (AD 0 0)] 22
    refine r_aload_n (pc' := 23) hX dX5_restore_22 rfl rfl ?_
    refine r_get (pc' := 26) (v := .ref (an 0)) hX dX5_restore_23 f_X5_16 0 rfl rfl rfl ?_
    refine V_call (k' := 0) (n' := 0) (pc' := 29) (wr := (((wBFl cy f fa s o an pr un hs e1 e2 fc SC OB sn AD VS).eraseIdx 1).eraseIdx 10).flatten) hX (r_runV (As := [.ref (an 0)]) hX dX5_restore_26 k_X5_281 (fun l9 hl9 => cS_copy (bd := AD 0) (ad := an) (v := sn) (w := VS 0) hFBs) hG ⟨6, _, TX4, 17, List.mem_append_left _ List.mem_cons_self, rfl⟩ rfl rfl (Nat.le_of_ble_eq_true rfl) (by decide) (by decide) (by decide) (by decide)) (fl_out2 (bs := (wBFl cy f fa s o an pr un hs e1 e2 fc SC OB sn AD VS)) 1 10 rfl rfl) rfl rfl rfl (fun w9 u9 hp9 => ?_)
    obtain ⟨rfl, rfl⟩ := hp9
    change V X 0 0 ((wSt cy (AD 0) sn ++ wSt cy an sn) ++ (((wBFl cy f fa s o an pr un hs e1 e2 fc SC OB sn AD VS).eraseIdx 1).eraseIdx 10).flatten) [some (.ref f)] [] 29
    refine V_perm (fl_back2 (bs := (wBFl cy f fa s o an pr un hs e1 e2 fc SC OB sn AD VS)) (bs' := (wBFl cy f fa s o an pr un hs e1 e2 fc SC OB sn AD (upA VS 0 sn))) 1 10 rfl rfl rfl) ?_
    refine r_aload_n (pc' := 30) hX dX5_restore_29 rfl rfl ?_
    refine r_iconst (pc' := 31) (v := nI 0) hX dX5_restore_30 rfl rfl ?_
    refine r_put (ws' := wBF cy f fa s o an pr 0 hs e1 e2 fc SC OB sn AD (upA VS 0 sn)) (pc' := 34) hX dX5_restore_31 f_X5_38 fw_X5_5 0 rfl rfl rfl (Nat.le_of_ble_eq_true rfl) rfl rfl ?_
    refine r_aload_n (pc' := 35) hX dX5_restore_34 rfl rfl ?_
    refine r_get (pc' := 38) (v := .ref (an 0)) hX dX5_restore_35 f_X5_16 0 rfl rfl rfl ?_
    refine r_getNM (v := .int (nI (sn 0 4))) (pc' := 41) hX dX5_restore_38 f_X5_118 (BF_memN List.mem_cons_self) rfl rfl ?_
    exact r_ireturn hX hE dX5_restore_41 rfl ⟨by rw [hq9]; exact okN (by omega), by rw [hq9], by rw [hq7]; exact ⟨fa, s, o, pr, 0, hs, an, e1, e2, fc, SC, OB, sn, AD, _, rfl, ⟨⟨hpr, hfc⟩, ⟨rfl, rfl, by decide, fun i hi => absurd hi (Nat.not_lt_zero _)⟩, ⟨hh1, hh2⟩, hSC, hOB, he1, he2⟩⟩⟩ (by decide) (by decide)
  · have hq8 : S.2.2.1 = none := by rw [hh2, if_neg (by omega)]
    have hq9 : qRest S = -3 := by unfold qRest; rw [hq8]
    exact r_throwW hX hO th_ISE 16 (by decide) rfl dX5_restore_7 dX5_restore_10 dX5_restore_11 dX5_restore_14 dX5_restore_17 (by decide) (by decide) ⟨by rw [hq9]; decide, by rw [hq9]; rfl, hFS⟩ (by decide) (by decide)
