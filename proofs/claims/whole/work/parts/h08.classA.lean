theorem FR_out {cy : Nat → ClassId} {s o pr un hs : Nat} {e1 e2 : Int32} {fc : Nat → Nat} {SC OB : va_W} {sn : SV} {AD : Nat → Nat → Nat} {VS : Nat → SV} {S : AS} (h : FR cy s o pr un hs e1 e2 fc SC OB sn AD VS S) {q m ml c : Nat} {g : Nat → Nat} {t : List Nat} (hs9 : SBp m c g t) (hc : c ≤ 70) :
    FR cy s o pr un hs e1 e2 fc SC (wSB cy o q m ml c g) sn AD VS (aOut S t) := by
  obtain ⟨h1, h2, h3, h4, h5, h6, h7⟩ := h
  exact ⟨h1, h2, h3, h4, ⟨q, m, ml, c, g, rfl, hs9, hc⟩, h6, h7⟩
theorem FR_scr {cy : Nat → ClassId} {s o pr un hs : Nat} {e1 e2 : Int32} {fc : Nat → Nat} {SC OB : va_W} {sn : SV} {AD : Nat → Nat → Nat} {VS : Nat → SV} {S : AS} (h : FR cy s o pr un hs e1 e2 fc SC OB sn AD VS S) {nq t q m ml c ct po co : Nat} {g nb : Nat → Nat} {tx : List Nat} (hs9 : SBp m c g tx) (hc : c ≤ 60) :
    FR cy s o pr un hs e1 e2 fc (wScr cy s nq t q m ml c g nb ct po co) OB sn AD VS (aBuf S tx) := by
  obtain ⟨h1, h2, h3, h4, h5, h6, h7⟩ := h
  exact ⟨h1, h2, h3, ⟨nq, t, q, m, ml, c, ct, po, co, g, nb, rfl, hs9, hc⟩, h5, h6, h7⟩
theorem FR_e {cy : Nat → ClassId} {s o pr un hs : Nat} {e1 e2 x y : Int32} {fc : Nat → Nat} {SC OB : va_W} {sn : SV} {AD : Nat → Nat → Nat} {VS : Nat → SV} {S : AS} (h : FR cy s o pr un hs e1 e2 fc SC OB sn AD VS S) :
    FR cy s o pr un hs x y fc SC OB sn AD VS (S.1, S.2.1, S.2.2.1, S.2.2.2.1, S.2.2.2.2.1, x, y) := by
  obtain ⟨h1, h2, h3, h4, h5, h6, h7⟩ := h
  exact ⟨h1, h2, h3, h4, h5, rfl, rfl⟩
theorem BF_ob {cy : Nat → ClassId} {f fa s o pr un hs : Nat} {an : Nat → Nat} {e1 e2 : Int32} {fc : Nat → Nat} {SC OB : va_W} {sn : SV} {AD : Nat → Nat → Nat} {VS : Nat → SV} {i : Nat} (hi : i < 8) : (wBF cy f fa s o an pr un hs e1 e2 fc SC OB sn AD VS).Perm ((OB ++ wBat cy (AD 0 (15 + i)) (AD 0 (23 + i)) (VS 0 (13 + i)) (VS 0 (21 + i))) ++ ((wSt0 cy (AD 0) (VS 0) ++ wRest 8 i (wStB cy (AD 0) (VS 0))) ++ (((wBFl cy f fa s o an pr un hs e1 e2 fc SC OB sn AD VS).eraseIdx 13).eraseIdx 1).flatten)) := by
  have h1 : (wBF cy f fa s o an pr un hs e1 e2 fc SC OB sn AD VS).Perm ((OB ++ wSt cy (AD 0) (VS 0)) ++ (((wBFl cy f fa s o an pr un hs e1 e2 fc SC OB sn AD VS).eraseIdx 13).eraseIdx 1).flatten) := fl_out2 (bs := wBFl cy f fa s o an pr un hs e1 e2 fc SC OB sn AD VS) 13 1 rfl rfl
  refine h1.trans ?_
  generalize (((wBFl cy f fa s o an pr un hs e1 e2 fc SC OB sn AD VS).eraseIdx 13).eraseIdx 1).flatten = R
  have h2 := wSt_split (cy := cy) (ad := AD 0) (v := VS 0) hi
  have h3 := List.Perm.append_right R (List.Perm.append_left OB h2)
  refine h3.trans ?_
  rw [← List.append_assoc OB, List.append_assoc (OB ++ _)]
  exact List.Perm.refl _
theorem ctT_b {v : SV} {p k : Nat} (h : 1 ≤ k) : ctT v p k = btT v p k := by
  obtain ⟨j, rfl⟩ : ∃ j, k = j + 1 := ⟨k - 1, by omega⟩
  rfl
set_option maxRecDepth 20000 in
set_option maxHeartbeats 1000000 in
theorem cF_renderStore {l : Launch} {D : va_G} {cy : Nat → ClassId} {sa : Nat → Nat} {f K : Nat} {S : AS} {ws : va_W} {v : SV} (hvS : v = S.1) (hS : FS cy f S ws) (hI : AI K S) : MG l yX5_renderStore cX5_renderStore 1 (some .int) 7 23 3450 (D, cy, sa) [.ref f] (ws) (fun w u => w = some (.int (nI (stT v (v 0 1)).length)) ∧ FS cy f (aOut S (stT v (v 0 1))) u) := by
  obtain ⟨fa, s, o, pr, un, hs, an, e1, e2, fc, SC, OB, sn, AD, VS, rfl, hF⟩ := hS
  obtain ⟨⟨hpr, hfc⟩, ⟨hv0, hul, hun, hus⟩, ⟨hh1, hh2⟩, hSC, hOB, he1, he2⟩ := id hF
  have hA0 : fc pr = AD 0 0 := by
    have := hfc 0 (by decide)
    rwa [show (pr + 0) % 10 = pr by omega] at this
  have hA1 : fc ((pr + 1) % 10) = AD 1 0 := hfc 1 (by decide)
  have hv : Wf (VS 0) := hv0 ▸ hI.1.1.1
  have hFB : FB (VS 0) := hv0 ▸ hI.1.2
  have hInv : Inv K (VS 0) := hv0 ▸ hI.1.1
  obtain rfl : v = VS 0 := hvS.trans hv0
  have h8 := hv.2.2.1
  have hFS : FS cy f S (wBF cy f fa s o an pr un hs e1 e2 fc SC OB sn AD VS) := ⟨fa, s, o, pr, un, hs, an, e1, e2, fc, SC, OB, sn, AD, VS, rfl, hF⟩
  have hst5 := hv.2.2.2.1
  have htol := hv.2.2.2.2.1
  obtain ⟨q2, m2, ml2, c2, g2, rfl, hO1, hO2⟩ := hOB
  have hO3 : c2 = S.2.2.2.2.1.length := hO1.1.symm
  have hs3 : ∀ j, j < 3 → VS 0 3 j < 10000 := fun j hj => by have := hv.2.2.2.2.2.2.2.2.2.1 j hj; omega
  have hs4 : ∀ i, i < 4 → VS 0 1 i < 100 ∧ VS 0 2 i < 100 := fun i hi => by have := hv.2.2.2.2.2.2.2.2.1 i hi; omega
  refine MG_by (own := RX5) (L := [some (.ref f)]) (by decide +kernel) rfl rfl (Nat.le_of_ble_eq_true rfl) 0 rfl (fun X hX hE hnL hG hcy hnm => ?_)
  refine r_aload_n (pc' := 1) hX dX5_renderStore_0 rfl rfl ?_
  refine r_get (pc' := 4) (v := .ref o) hX dX5_renderStore_1 f_X5_30 0 rfl rfl rfl ?_
  refine r_iconst (pc' := 5) (v := nI 0) hX dX5_renderStore_4 rfl rfl ?_
  refine V_call (k' := 1) (n' := 150) (pc' := 8) (wr := ((wBFl cy f fa s o an pr un hs e1 e2 fc SC (wSB cy o q2 m2 ml2 c2 g2) sn AD VS).eraseIdx 13).flatten) hX (r_runV (As := [.int (nI 0)]) hX dX5_renderStore_5 k_X5_222 (fun l9 hl9 => cJ_setLen hO1 (by omega)) hG ⟨1, _, TJ4, 4, List.mem_cons_self, rfl⟩ rfl rfl (Nat.le_of_ble_eq_true rfl) (by decide) (by decide) (by decide) (by decide)) (fl_out (bs := (wBFl cy f fa s o an pr un hs e1 e2 fc SC (wSB cy o q2 m2 ml2 c2 g2) sn AD VS)) 13 rfl) rfl rfl rfl (fun w9 u9 hp9 => ?_)
  obtain ⟨rfl, q166, m166, ml66, g166, rfl, h66⟩ := hp9
  change V X 1 150 (wSB cy o q166 m166 ml66 0 g166 ++ ((wBFl cy f fa s o an pr un hs e1 e2 fc SC (wSB cy o q2 m2 ml2 c2 g2) sn AD VS).eraseIdx 13).flatten) [some (.ref f)] [] 8
  refine V_perm (fl_back (bs := (wBFl cy f fa s o an pr un hs e1 e2 fc SC (wSB cy o q2 m2 ml2 c2 g2) sn AD VS)) (bs' := (wBFl cy f fa s o an pr un hs e1 e2 fc SC (wSB cy o q166 m166 ml66 0 g166) sn AD VS)) 13 rfl rfl) ?_
  refine r_aload_n (pc' := 9) hX dX5_renderStore_8 rfl rfl ?_
  refine V_call0 (k' := 1) (n' := 150) (pc' := 12) hX (r_runV (As := []) hX dX5_renderStore_9 k_X5_88 (fun l9 hl9 => cF_now (by assumption) (by assumption)) hG ⟨7, _, TX5, 9, List.mem_cons_self, rfl⟩ rfl rfl (Nat.le_of_ble_eq_true rfl) (by decide) (by decide) (by decide) (by decide)) rfl rfl rfl (fun w9 u9 hp9 => ?_)
  obtain ⟨rfl, rfl⟩ := hp9
  change V X 1 150 (wBF cy f fa s o an pr un hs e1 e2 fc SC (wSB cy o q166 m166 ml66 0 g166) sn AD VS) [some (.ref f)] [.ref (AD 0 0)] 12
  refine r_aload_n (pc' := 13) hX dX5_renderStore_12 rfl rfl ?_
  refine r_get (pc' := 16) (v := .ref o) hX dX5_renderStore_13 f_X5_30 0 rfl rfl rfl ?_
  refine V_call (k' := 1 + 22) (n' := 150 + 3300) (pc' := 19) (wr := (((wBFl cy f fa s o an pr un hs e1 e2 fc SC (wSB cy o q166 m166 ml66 0 g166) sn AD VS).eraseIdx 13).eraseIdx 1).flatten) hX (r_runV (As := [.ref o]) hX dX5_renderStore_16 k_X5_233 (fun l9 hl9 => cS_descr (ad := AD 0) (v := VS 0) (by assumption) hv.2.1 hs3 hs4) hG ⟨6, _, TX4, 17, List.mem_append_right _ List.mem_cons_self, rfl⟩ rfl rfl (Nat.le_of_ble_eq_true rfl) (by decide) (by decide) (by omega) (by omega)) (fl_out2 (bs := (wBFl cy f fa s o an pr un hs e1 e2 fc SC (wSB cy o q166 m166 ml66 0 g166) sn AD VS)) 13 1 rfl rfl) (by omega) (by omega) rfl (fun w9 u9 hp9 => ?_)
  obtain ⟨rfl, q167, m167, c167, g167, rfl, h67⟩ := hp9
  change V X (1 + 22) (150 + 3300) ((wSB cy o q167 m167 ml66 c167 g167 ++ wSt cy (AD 0) (VS 0)) ++ (((wBFl cy f fa s o an pr un hs e1 e2 fc SC (wSB cy o q166 m166 ml66 0 g166) sn AD VS).eraseIdx 13).eraseIdx 1).flatten) [some (.ref f)] [] 19
  refine V_perm (fl_back2 (bs := (wBFl cy f fa s o an pr un hs e1 e2 fc SC (wSB cy o q166 m166 ml66 0 g166) sn AD VS)) (bs' := (wBFl cy f fa s o an pr un hs e1 e2 fc SC (wSB cy o q167 m167 ml66 c167 g167) sn AD VS)) 13 1 rfl rfl rfl) ?_
  refine r_aload_n (pc' := 20) hX dX5_renderStore_19 rfl rfl ?_
  refine r_get (pc' := 23) (v := .ref o) hX dX5_renderStore_20 f_X5_30 0 rfl rfl rfl ?_
  refine V_call (k' := 1 + 22) (n' := 150 + 3300) (pc' := 26) (wr := ((wBFl cy f fa s o an pr un hs e1 e2 fc SC (wSB cy o q167 m167 ml66 c167 g167) sn AD VS).eraseIdx 13).flatten) hX (r_runV (As := []) hX dX5_renderStore_23 k_X5_230 (fun l9 hl9 => cJ_len) hG ⟨1, _, TJ4, 4, List.mem_cons_self, rfl⟩ rfl rfl (Nat.le_of_ble_eq_true rfl) (by decide) (by decide) (by omega) (by omega)) (fl_out (bs := (wBFl cy f fa s o an pr un hs e1 e2 fc SC (wSB cy o q167 m167 ml66 c167 g167) sn AD VS)) 13 rfl) (by omega) (by omega) rfl (fun w9 u9 hp9 => ?_)
  obtain ⟨rfl, rfl⟩ := hp9
  change V X (1 + 22) (150 + 3300) (wSB cy o q167 m167 ml66 c167 g167 ++ ((wBFl cy f fa s o an pr un hs e1 e2 fc SC (wSB cy o q167 m167 ml66 c167 g167) sn AD VS).eraseIdx 13).flatten) [some (.ref f)] [.int (nI c167)] 26
  refine V_perm (fl_back (bs := (wBFl cy f fa s o an pr un hs e1 e2 fc SC (wSB cy o q167 m167 ml66 c167 g167) sn AD VS)) (bs' := (wBFl cy f fa s o an pr un hs e1 e2 fc SC (wSB cy o q167 m167 ml66 c167 g167) sn AD VS)) 13 rfl rfl) ?_
  have hm4 := hv.2.1
  have hl9 := stT_len hs3 hs4 (VS 0 0 1) hv.2.1
  obtain ⟨z1, z2, z3⟩ := h67.le
  exact r_ireturn hX hE dX5_renderStore_26 rfl ⟨by rw [← z3], ⟨fa, s, o, pr, un, hs, an, e1, e2, fc, SC, _, sn, AD, VS, rfl, FR_out hF h67 (by omega)⟩⟩ (by omega) (by omega)

set_option maxRecDepth 20000 in
set_option maxHeartbeats 1000000 in
theorem cF_renderBatch {l : Launch} {D : va_G} {cy : Nat → ClassId} {sa : Nat → Nat} {f K : Nat} {S : AS} {ws : va_W} {v : SV} (hvS : v = S.1) (hS : FS cy f S ws) (hI : AI K S) {x : Int32} (hK : K ≤ 100000) (hst : l.stackTraces = false) : MX l yX5_renderBatch cX5_renderBatch 3 (some .int) 8 23 3306 (D, cy, sa) [.ref f, .int x] (ws) (fun w u => okA (qRb v x) ∧ w = some (.int (qRb v x)) ∧ FS cy f (aRb S x) u) (fun E u => noA (qRb v x) ∧ E = exC (qRb v x) ∧ FS cy f S u) := by
  obtain ⟨fa, s, o, pr, un, hs, an, e1, e2, fc, SC, OB, sn, AD, VS, rfl, hF⟩ := hS
  obtain ⟨⟨hpr, hfc⟩, ⟨hv0, hul, hun, hus⟩, ⟨hh1, hh2⟩, hSC, hOB, he1, he2⟩ := id hF
  have hA0 : fc pr = AD 0 0 := by
    have := hfc 0 (by decide)
    rwa [show (pr + 0) % 10 = pr by omega] at this
  have hA1 : fc ((pr + 1) % 10) = AD 1 0 := hfc 1 (by decide)
  have hv : Wf (VS 0) := hv0 ▸ hI.1.1.1
  have hFB : FB (VS 0) := hv0 ▸ hI.1.2
  have hInv : Inv K (VS 0) := hv0 ▸ hI.1.1
  obtain rfl : v = VS 0 := hvS.trans hv0
  have h8 := hv.2.2.1
  have hFS : FS cy f S (wBF cy f fa s o an pr un hs e1 e2 fc SC OB sn AD VS) := ⟨fa, s, o, pr, un, hs, an, e1, e2, fc, SC, OB, sn, AD, VS, rfl, hF⟩
  have hst5 := hv.2.2.2.1
  have htol := hv.2.2.2.2.1
  obtain ⟨q2, m2, ml2, c2, g2, rfl, hO1, hO2⟩ := hOB
  have hO3 : c2 = S.2.2.2.2.1.length := hO1.1.symm
  refine MX_by (own := RX5) (L := [some (.ref f), some (.int x), none]) hst (by decide +kernel) rfl rfl (Nat.le_of_ble_eq_true rfl) 1 rfl (fun X hX hE hO hnL hG hcy hnm => ?_)
  refine r_aload_n (pc' := 1) hX dX5_renderBatch_0 rfl rfl ?_
  refine V_call0 (k' := 0) (n' := 0) (pc' := 4) hX (r_runV (As := []) hX dX5_renderBatch_1 k_X5_88 (fun l9 hl9 => cF_now (by assumption) (by assumption)) hG ⟨7, _, TX5, 9, List.mem_cons_self, rfl⟩ rfl rfl (Nat.le_of_ble_eq_true rfl) (by decide) (by decide) (by decide) (by decide)) rfl rfl rfl (fun w9 u9 hp9 => ?_)
  obtain ⟨rfl, rfl⟩ := hp9
  change V X 0 0 (wBF cy f fa s o an pr un hs e1 e2 fc SC (wSB cy o q2 m2 ml2 c2 g2) sn AD VS) [some (.ref f), some (.int x), none] [.ref (AD 0 0)] 4
  refine r_getN (pc' := 7) (v := .ref (AD 0 14)) hX dX5_renderBatch_4 f_X5_128 2 rfl rfl rfl ?_
  refine r_aload_n (pc' := 8) hX dX5_renderBatch_7 rfl rfl ?_
  refine r_iload_n (pc' := 9) hX dX5_renderBatch_8 rfl rfl ?_
  refine V_call0X (k' := 1) (n' := 6) (pc' := 12) hX (r_runVX (As := [.int x]) hX dX5_renderBatch_9 k_X5_137 (fun l9 hl9 => by cases hl9; exact cF_place (Outs_nost hO) hpr hA0 hv) hG ⟨7, _, TX5, 9, List.mem_cons_self, rfl⟩ rfl rfl (Nat.le_of_ble_eq_true rfl) (by decide) (by decide) (by decide) (by decide)) rfl rfl rfl (fun w9 u9 hp9 => ?_) ?_
  · obtain ⟨rfl, q9, rfl⟩ := hp9
    have hq9 : qRb (VS 0) x = nI (btT (VS 0) (plc (VS 0) x.toInt) (VS 0 (13 + plc (VS 0) x.toInt) 2)).length := if_pos q9
    obtain ⟨⟨b1, b2⟩, b3, b4, b5, b6, b7⟩ := hv.2.2.2.2.2.2.1 _ q9
    have b8 := hFB _ (show plc (VS 0) x.toInt < 8 by omega)
    have hnum : VS 0 (13 + plc (VS 0) x.toInt) 0 < 100000 := by have := (hInv.2.2.2.2.2.2 _ q9).1; have := hInv.2.2.2.2.1; omega
    change V X 1 6 (wBF cy f fa s o an pr un hs e1 e2 fc SC (wSB cy o q2 m2 ml2 c2 g2) sn AD VS) [some (.ref f), some (.int x), none] [.int (nI (plc (VS 0) x.toInt)), .ref (AD 0 14)] 12
    refine r_aald (pc' := 13) hX dX5_renderBatch_12 4 (by rw [hcy]; rfl) rfl (BF_mem0 (List.mem_append_left _ (List.mem_of_getElem? (i := 14) rfl))) (by omega) (by decide) (if_pos (by omega)) rfl ?_
    change V X 1 6 (wBF cy f fa s o an pr un hs e1 e2 fc SC (wSB cy o q2 m2 ml2 c2 g2) sn AD VS) [some (.ref f), some (.int x), none] [.ref (AD 0 (15 + (plc (VS 0) x.toInt)))] 13
    refine r_astore_n (L' := [some (.ref f), some (.int x), some (.ref (AD 0 (15 + (plc (VS 0) x.toInt))))]) (pc' := 14) hX dX5_renderBatch_13 (nlt hnL (by decide)) rfl rfl rfl ?_
    refine r_aload_n (pc' := 15) hX dX5_renderBatch_14 rfl rfl ?_
    refine r_get (pc' := 18) (v := .ref o) hX dX5_renderBatch_15 f_X5_30 0 rfl rfl rfl ?_
    refine r_iconst (pc' := 19) (v := nI 0) hX dX5_renderBatch_18 rfl rfl ?_
    refine V_call (k' := 1 + 1) (n' := 6 + 150) (pc' := 22) (wr := ((wBFl cy f fa s o an pr un hs e1 e2 fc SC (wSB cy o q2 m2 ml2 c2 g2) sn AD VS).eraseIdx 13).flatten) hX (r_runV (As := [.int (nI 0)]) hX dX5_renderBatch_19 k_X5_222 (fun l9 hl9 => cJ_setLen hO1 (by omega)) hG ⟨1, _, TJ4, 4, List.mem_cons_self, rfl⟩ rfl rfl (Nat.le_of_ble_eq_true rfl) (by decide) (by decide) (by omega) (by omega)) (fl_out (bs := (wBFl cy f fa s o an pr un hs e1 e2 fc SC (wSB cy o q2 m2 ml2 c2 g2) sn AD VS)) 13 rfl) (by omega) (by omega) rfl (fun w9 u9 hp9 => ?_)
    obtain ⟨rfl, q168, m168, ml68, g168, rfl, h68⟩ := hp9
    change V X (1 + 1) (6 + 150) (wSB cy o q168 m168 ml68 0 g168 ++ ((wBFl cy f fa s o an pr un hs e1 e2 fc SC (wSB cy o q2 m2 ml2 c2 g2) sn AD VS).eraseIdx 13).flatten) [some (.ref f), some (.int x), some (.ref (AD 0 (15 + (plc (VS 0) x.toInt))))] [] 22
    refine V_perm (fl_back (bs := (wBFl cy f fa s o an pr un hs e1 e2 fc SC (wSB cy o q2 m2 ml2 c2 g2) sn AD VS)) (bs' := (wBFl cy f fa s o an pr un hs e1 e2 fc SC (wSB cy o q168 m168 ml68 0 g168) sn AD VS)) 13 rfl rfl) ?_
    refine r_aload_n (pc' := 23) hX dX5_renderBatch_22 rfl rfl ?_
    refine r_aload_n (pc' := 24) hX dX5_renderBatch_23 rfl rfl ?_
    refine r_get (pc' := 27) (v := .ref o) hX dX5_renderBatch_24 f_X5_30 0 rfl rfl rfl ?_
    refine V_call (k' := 1 + 1 + 21) (n' := 6 + 150 + 3150) (pc' := 30) (wr := ((wSt0 cy (AD 0) (VS 0) ++ wRest 8 (plc (VS 0) x.toInt) (wStB cy (AD 0) (VS 0))) ++ (((wBFl cy f fa s o an pr un hs e1 e2 fc SC (wSB cy o q168 m168 ml68 0 g168) sn AD VS).eraseIdx 13).eraseIdx 1).flatten)) hX (r_runV (As := [.ref o]) hX dX5_renderBatch_27 k_X5_226 (fun l9 hl9 => cX_descr (p := (plc (VS 0) x.toInt)) (v := VS 0) (by assumption) hnum b2 (fun k hk => Nat.lt_succ_of_le (b7 k hk)) b8) hG ⟨4, _, TX1, 6, List.mem_append_right _ List.mem_cons_self, rfl⟩ rfl rfl (Nat.le_of_ble_eq_true rfl) (by decide) (by decide) (by omega) (by omega)) (BF_ob (by omega)) (by omega) (by omega) rfl (fun w9 u9 hp9 => ?_)
    obtain ⟨rfl, q169, m169, c169, g169, rfl, h69⟩ := hp9
    change V X (1 + 1 + 21) (6 + 150 + 3150) ((wSB cy o q169 m169 ml68 c169 g169 ++ wBat cy (AD 0 (15 + (plc (VS 0) x.toInt))) (AD 0 (23 + (plc (VS 0) x.toInt))) (VS 0 (13 + (plc (VS 0) x.toInt))) (VS 0 (21 + (plc (VS 0) x.toInt)))) ++ ((wSt0 cy (AD 0) (VS 0) ++ wRest 8 (plc (VS 0) x.toInt) (wStB cy (AD 0) (VS 0))) ++ (((wBFl cy f fa s o an pr un hs e1 e2 fc SC (wSB cy o q168 m168 ml68 0 g168) sn AD VS).eraseIdx 13).eraseIdx 1).flatten)) [some (.ref f), some (.int x), some (.ref (AD 0 (15 + (plc (VS 0) x.toInt))))] [] 30
    refine V_perm ((BF_ob (OB := (wSB cy o q169 m169 ml68 c169 g169)) (by omega)).symm) ?_
    refine r_aload_n (pc' := 31) hX dX5_renderBatch_30 rfl rfl ?_
    refine r_get (pc' := 34) (v := .ref o) hX dX5_renderBatch_31 f_X5_30 0 rfl rfl rfl ?_
    refine V_call (k' := 1 + 1 + 21) (n' := 6 + 150 + 3150) (pc' := 37) (wr := ((wBFl cy f fa s o an pr un hs e1 e2 fc SC (wSB cy o q169 m169 ml68 c169 g169) sn AD VS).eraseIdx 13).flatten) hX (r_runV (As := []) hX dX5_renderBatch_34 k_X5_230 (fun l9 hl9 => cJ_len) hG ⟨1, _, TJ4, 4, List.mem_cons_self, rfl⟩ rfl rfl (Nat.le_of_ble_eq_true rfl) (by decide) (by decide) (by omega) (by omega)) (fl_out (bs := (wBFl cy f fa s o an pr un hs e1 e2 fc SC (wSB cy o q169 m169 ml68 c169 g169) sn AD VS)) 13 rfl) (by omega) (by omega) rfl (fun w9 u9 hp9 => ?_)
    obtain ⟨rfl, rfl⟩ := hp9
    change V X (1 + 1 + 21) (6 + 150 + 3150) (wSB cy o q169 m169 ml68 c169 g169 ++ ((wBFl cy f fa s o an pr un hs e1 e2 fc SC (wSB cy o q169 m169 ml68 c169 g169) sn AD VS).eraseIdx 13).flatten) [some (.ref f), some (.int x), some (.ref (AD 0 (15 + (plc (VS 0) x.toInt))))] [.int (nI c169)] 37
    refine V_perm (fl_back (bs := (wBFl cy f fa s o an pr un hs e1 e2 fc SC (wSB cy o q169 m169 ml68 c169 g169) sn AD VS)) (bs' := (wBFl cy f fa s o an pr un hs e1 e2 fc SC (wSB cy o q169 m169 ml68 c169 g169) sn AD VS)) 13 rfl rfl) ?_
    obtain ⟨z1, z2, z3⟩ := h69.le
    have hl9 := ctT_len (v := VS 0) (p := plc (VS 0) x.toInt) (n := VS 0 (13 + plc (VS 0) x.toInt) 2) (fun k hk => Nat.lt_succ_of_le (b7 k hk)) _ (Nat.le_refl _)
    have hl8 : (btT (VS 0) (plc (VS 0) x.toInt) (VS 0 (13 + plc (VS 0) x.toInt) 2)).length ≤ 40 := by rw [← ctT_b b1]; omega
    exact r_ireturn hX hE dX5_renderBatch_37 rfl ⟨by rw [hq9]; exact okN (by omega), by rw [hq9, ← z3, ctT_b b1], by unfold aRb; rw [← hv0] at q9; rw [if_pos q9, hv0]; rw [ctT_b b1] at h69; exact ⟨fa, s, o, pr, un, hs, an, e1, e2, fc, SC, _, sn, AD, VS, rfl, FR_out hF h69 (by omega)⟩⟩ (by omega) (by omega)
  · intro E9 u9 hp9
    obtain ⟨hx9, hE9, rfl⟩ := hp9
    have hq9 : qRb (VS 0) x = -5 := if_neg hx9
    exact VX_out hX hO ⟨by rw [hq9]; decide, by rw [hq9]; exact hE9, hFS⟩ (by decide) (by decide)

set_option maxRecDepth 20000 in
set_option maxHeartbeats 1000000 in
theorem cF_outputAt {l : Launch} {D : va_G} {cy : Nat → ClassId} {sa : Nat → Nat} {f K : Nat} {S : AS} {ws : va_W} {v : SV} (hvS : v = S.1) (hS : FS cy f S ws) (hI : AI K S) {x : Int32} (hst : l.stackTraces = false) : MX l yX5_outputAt cX5_outputAt 2 (some .char) 6 1 6 (D, cy, sa) [.ref f, .int x] (ws) (fun w u => okA (qOut S x) ∧ w = some (.int (qOut S x)) ∧ FS cy f S u) (fun E u => noA (qOut S x) ∧ E = exC (qOut S x) ∧ FS cy f S u) := by
  obtain ⟨fa, s, o, pr, un, hs, an, e1, e2, fc, SC, OB, sn, AD, VS, rfl, hF⟩ := hS
  obtain ⟨⟨hpr, hfc⟩, ⟨hv0, hul, hun, hus⟩, ⟨hh1, hh2⟩, hSC, hOB, he1, he2⟩ := id hF
  have hA0 : fc pr = AD 0 0 := by
    have := hfc 0 (by decide)
    rwa [show (pr + 0) % 10 = pr by omega] at this
  have hA1 : fc ((pr + 1) % 10) = AD 1 0 := hfc 1 (by decide)
  have hv : Wf (VS 0) := hv0 ▸ hI.1.1.1
  have hFB : FB (VS 0) := hv0 ▸ hI.1.2
  have hInv : Inv K (VS 0) := hv0 ▸ hI.1.1
  obtain rfl : v = VS 0 := hvS.trans hv0
  have h8 := hv.2.2.1
  have hFS : FS cy f S (wBF cy f fa s o an pr un hs e1 e2 fc SC OB sn AD VS) := ⟨fa, s, o, pr, un, hs, an, e1, e2, fc, SC, OB, sn, AD, VS, rfl, hF⟩
  have hst5 := hv.2.2.2.1
  have htol := hv.2.2.2.2.1
  obtain ⟨q2, m2, ml2, c2, g2, rfl, hO1, hO2⟩ := hOB
  have hO3 : c2 = S.2.2.2.2.1.length := hO1.1.symm
  refine MX_by (own := RX5) (L := [some (.ref f), some (.int x)]) hst (by decide +kernel) rfl rfl (Nat.le_of_ble_eq_true rfl) 0 rfl (fun X hX hE hO hnL hG hcy hnm => ?_)
  refine r_iload_n (pc' := 1) hX dX5_outputAt_0 rfl rfl ?_
  refine r_if_lt_I (tgt := 15) (pc' := 4) hX dX5_outputAt_1 (by decide) rfl rfl (fun c1 => ?_) (fun c1 => ?_)
  · exact r_throw hX hO th_IOOB 8 (by decide) rfl dX5_outputAt_15 dX5_outputAt_18 dX5_outputAt_19 dX5_outputAt_21 dX5_outputAt_24 (by decide) (by decide) ⟨by rw [show qOut S x = -1 from if_neg (by omega)]; decide, by rw [show qOut S x = -1 from if_neg (by omega)]; rfl, hFS⟩ (by decide) (by decide)
  · refine r_iload_n (pc' := 5) hX dX5_outputAt_4 rfl rfl ?_
    refine r_aload_n (pc' := 6) hX dX5_outputAt_5 rfl rfl ?_
    refine r_get (pc' := 9) (v := .ref o) hX dX5_outputAt_6 f_X5_30 0 rfl rfl rfl ?_
    refine V_call (k' := 0) (n' := 0) (pc' := 12) (wr := ((wBFl cy f fa s o an pr un hs e1 e2 fc SC (wSB cy o q2 m2 ml2 c2 g2) sn AD VS).eraseIdx 13).flatten) hX (r_runV (As := []) hX dX5_outputAt_9 k_X5_230 (fun l9 hl9 => cJ_len) hG ⟨1, _, TJ4, 4, List.mem_cons_self, rfl⟩ rfl rfl (Nat.le_of_ble_eq_true rfl) (by decide) (by decide) (by decide) (by decide)) (fl_out (bs := (wBFl cy f fa s o an pr un hs e1 e2 fc SC (wSB cy o q2 m2 ml2 c2 g2) sn AD VS)) 13 rfl) rfl rfl rfl (fun w9 u9 hp9 => ?_)
    obtain ⟨rfl, rfl⟩ := hp9
    change V X 0 0 (wSB cy o q2 m2 ml2 c2 g2 ++ ((wBFl cy f fa s o an pr un hs e1 e2 fc SC (wSB cy o q2 m2 ml2 c2 g2) sn AD VS).eraseIdx 13).flatten) [some (.ref f), some (.int x)] [.int (nI c2), .int x] 12
    refine V_perm (fl_back (bs := (wBFl cy f fa s o an pr un hs e1 e2 fc SC (wSB cy o q2 m2 ml2 c2 g2) sn AD VS)) (bs' := (wBFl cy f fa s o an pr un hs e1 e2 fc SC (wSB cy o q2 m2 ml2 c2 g2) sn AD VS)) 13 rfl rfl) ?_
    refine r_icmp_lt_I (tgt := 25) (pc' := 15) hX dX5_outputAt_12 (by decide) rfl rfl (nI_I (by omega)) (fun c12 => ?_) (fun c12 => ?_)
    · obtain ⟨j, hj, rfl⟩ := nat_of (x := x) (n := c2) ⟨by omega, by omega⟩
      obtain ⟨e8, e9⟩ := hO1.at hj
      refine r_aload_n (pc' := 26) hX dX5_outputAt_25 rfl rfl ?_
      refine r_get (pc' := 29) (v := .ref o) hX dX5_outputAt_26 f_X5_30 0 rfl rfl rfl ?_
      refine r_iload_n (pc' := 30) hX dX5_outputAt_29 rfl rfl ?_
      refine V_call (k' := 0) (n' := 0) (pc' := 33) (wr := ((wBFl cy f fa s o an pr un hs e1 e2 fc SC (wSB cy o q2 m2 ml2 c2 g2) sn AD VS).eraseIdx 13).flatten) hX (r_runV (As := [.int (nI j)]) hX dX5_outputAt_30 k_X5_239 (fun l9 hl9 => cJ_at hO1 (by omega) (by omega)) hG ⟨1, _, TJ4, 4, List.mem_cons_self, rfl⟩ rfl rfl (Nat.le_of_ble_eq_true rfl) (by decide) (by decide) (by decide) (by decide)) (fl_out (bs := (wBFl cy f fa s o an pr un hs e1 e2 fc SC (wSB cy o q2 m2 ml2 c2 g2) sn AD VS)) 13 rfl) rfl rfl rfl (fun w9 u9 hp9 => ?_)
      obtain ⟨rfl, rfl⟩ := hp9
      change V X 0 0 (wSB cy o q2 m2 ml2 c2 g2 ++ ((wBFl cy f fa s o an pr un hs e1 e2 fc SC (wSB cy o q2 m2 ml2 c2 g2) sn AD VS).eraseIdx 13).flatten) [some (.ref f), some (.int (nI j))] [.int (nI (S.2.2.2.2.1.getD j 0))] 33
      refine V_perm (fl_back (bs := (wBFl cy f fa s o an pr un hs e1 e2 fc SC (wSB cy o q2 m2 ml2 c2 g2) sn AD VS)) (bs' := (wBFl cy f fa s o an pr un hs e1 e2 fc SC (wSB cy o q2 m2 ml2 c2 g2) sn AD VS)) 13 rfl rfl) ?_
      have hq9 : qOut S (nI j) = nI (S.2.2.2.2.1.getD j 0) := by
        unfold qOut
        rw [if_pos (by constructor <;> rw [nI_I (by omega)] <;> omega), tn_nI (by omega)]
      exact r_zreturn hX hE dX5_outputAt_33 rfl ((pk_charN (by omega)).1) ⟨by rw [hq9]; exact okN (by omega), by rw [hq9], hFS⟩ (by decide) (by decide)
    · exact r_throw hX hO th_IOOB 8 (by decide) rfl dX5_outputAt_15 dX5_outputAt_18 dX5_outputAt_19 dX5_outputAt_21 dX5_outputAt_24 (by decide) (by decide) ⟨by rw [show qOut S x = -1 from if_neg (by omega)]; decide, by rw [show qOut S x = -1 from if_neg (by omega)]; rfl, hFS⟩ (by decide) (by decide)
