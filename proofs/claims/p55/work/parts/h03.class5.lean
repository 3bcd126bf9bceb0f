/-- an answer that is no refusal -/
abbrev okA (q : Int32) : Prop := ¬ (q.toInt < 0 ∧ -5 ≤ q.toInt)
abbrev noA (q : Int32) : Prop := q.toInt < 0 ∧ -5 ≤ q.toInt
theorem FR_adv {cy : Nat → ClassId} {s o pr un hs : Nat} {e1 e2 : Int32} {fc : Nat → Nat} {SC OB : va_W} {sn : SV} {AD : Nat → Nat → Nat} {VS : Nat → SV} {S : AS} (h : FR cy s o pr un hs e1 e2 fc SC OB sn AD VS S) {ad : Nat → Nat} {w : SV} (had : ad 0 = AD 1 0) (x : SV) :
    FR cy s o ((pr + 1) % 10) (min (un + 1) 8) hs e1 e2 fc SC OB sn (fun r => if r < 9 then (upA AD 1 ad) (r + 1) else (upA AD 1 ad) 0) (fun r => if r < 9 then (upA (upA VS 1 x) 1 w) (r + 1) else (upA (upA VS 1 x) 1 w) 0) (w, (S.1 :: S.2.1).take 8, S.2.2) := by
  obtain ⟨⟨hpr, hfc⟩, ⟨hv0, hul, hun, hus⟩, hr⟩ := h
  refine ⟨⟨by omega, fun r hr => ?_⟩, ⟨rfl, ?_, by omega, fun i hi => ?_⟩, hr⟩
  · show fc (((pr + 1) % 10 + r) % 10) = (if r < 9 then (upA AD 1 ad) (r + 1) else (upA AD 1 ad) 0) 0
    by_cases c : r < 9
    · rw [if_pos c, show ((pr + 1) % 10 + r) % 10 = (pr + (r + 1)) % 10 by omega, hfc (r + 1) (by omega)]
      unfold upA
      by_cases c1 : r + 1 = 1
      · rw [if_pos c1, had, c1]
      · rw [if_neg c1]
    · rw [if_neg c, show ((pr + 1) % 10 + r) % 10 = (pr + 0) % 10 by omega, hfc 0 (by omega)]
      rfl
  · show ((S.1 :: S.2.1).take 8).length = _
    rw [List.length_take, List.length_cons, hul]
    omega
  · show ((S.1 :: S.2.1).take 8)[i]? = _
    rw [List.getElem?_take_of_lt (by omega)]
    by_cases c : i = 0
    · subst c
      show some S.1 = some (VS 0)
      rw [hv0]
    · obtain ⟨j, rfl⟩ : ∃ j, i = j + 1 := ⟨i - 1, by omega⟩
      show S.2.1[j]? = _
      rw [hus j (by omega)]
      show some (VS (9 - j)) = some (if 9 - (j + 1) < 9 then upA (upA VS 1 x) 1 w (9 - (j + 1) + 1) else _)
      rw [if_pos (by omega), show 9 - (j + 1) + 1 = 9 - j by omega]
      unfold upA
      rw [if_neg (by omega), if_neg (by omega)]
set_option maxRecDepth 20000 in
set_option maxHeartbeats 1000000 in
theorem cF_kept {l : Launch} {D : va_G} {cy : Nat → ClassId} {sa : Nat → Nat} {f fa s o pr un hs : Nat} {an : Nat → Nat} {e1 e2 : Int32} {fc : Nat → Nat} {SC OB : va_W} {sn : SV} {AD : Nat → Nat → Nat} {VS : Nat → SV} {x : Int32} (hst : l.stackTraces = false) (hpr : pr < 10) (hun : un ≤ 8) : MX l yX5_kept cX5_kept 3 (some .int) 7 1 6 (D, cy, sa) [.ref f, .int x] (wBF cy f fa s o an pr un hs e1 e2 fc SC OB sn AD VS) (fun w u => w = some (.int x) ∧ okA x ∧ u = wBF cy f fa s o an ((pr + 1) % 10) (min (un + 1) 8) hs e1 e2 fc SC OB sn AD VS) (fun E u => noA x ∧ E = exC x ∧ u = wBF cy f fa s o an pr un hs e1 e2 fc SC OB sn AD VS) := by
  refine MX_by (own := RX5) (L := [some (.ref f), some (.int x), none]) hst (by decide +kernel) rfl rfl (Nat.le_of_ble_eq_true rfl) 1 rfl (fun X hX hE hO hnL hG hcy hnm => ?_)
  refine r_iload_n (pc' := 1) hX dX5_kept_0 rfl rfl ?_
  refine V_callX (k' := 1) (n' := 6) (pc' := 4) (wr := (wBF cy f fa s o an pr un hs e1 e2 fc SC OB sn AD VS)) hX (r_runSX (As := [.int x]) hX dX5_kept_1 k_X5_97 (fun l9 hl9 => by cases hl9; exact cF_answered (Outs_nost hO)) hG rfl rfl (Nat.le_of_ble_eq_true rfl) (by decide) (by decide) (by decide) (by decide)) (List.Perm.refl _) rfl rfl rfl (fun w9 u9 hp9 => ?_) ?_
  · obtain ⟨rfl, hx9, rfl⟩ := hp9
    change V X 1 6 (wBF cy f fa s o an pr un hs e1 e2 fc SC OB sn AD VS) [some (.ref f), some (.int x), none] [.int x] 4
    refine r_istore_n (L' := [some (.ref f), some (.int x), some (.int x)]) (pc' := 5) hX dX5_kept_4 (nlt hnL (by decide)) rfl rfl rfl ?_
    refine r_aload_n (pc' := 6) hX dX5_kept_5 rfl rfl ?_
    refine r_aload_n (pc' := 7) hX dX5_kept_6 rfl rfl ?_
    refine V_call0 (k' := 1) (n' := 6) (pc' := 10) hX (r_runV (As := []) hX dX5_kept_7 k_X5_287 (fun l9 hl9 => cF_fol (by assumption)) hG ⟨7, _, TX5, 9, List.mem_cons_self, rfl⟩ rfl rfl (Nat.le_of_ble_eq_true rfl) (by decide) (by decide) (by decide) (by decide)) rfl rfl rfl (fun w9 u9 hp9 => ?_)
    obtain ⟨rfl, rfl⟩ := hp9
    change V X 1 6 (wBF cy f fa s o an pr un hs e1 e2 fc SC OB sn AD VS) [some (.ref f), some (.int x), some (.int x)] [.int (nI ((pr + 1) % 10)), .ref f] 10
    refine r_put (ws' := wBF cy f fa s o an ((pr + 1) % 10) un hs e1 e2 fc SC OB sn AD VS) (pc' := 13) hX dX5_kept_10 f_X5_34 fw_X5_4 0 rfl rfl rfl (Nat.le_of_ble_eq_true rfl) rfl rfl ?_
    refine r_aload_n (pc' := 14) hX dX5_kept_13 rfl rfl ?_
    refine r_aload_n (pc' := 15) hX dX5_kept_14 rfl rfl ?_
    refine r_get (pc' := 18) (v := .int (nI un)) hX dX5_kept_15 f_X5_38 0 rfl rfl rfl ?_
    refine r_iconst (pc' := 19) (v := nI 1) hX dX5_kept_18 rfl rfl ?_
    refine r_iadd_N (pc' := 20) hX dX5_kept_19  rfl ?_
    refine r_bipush (pc' := 22) (v := nI 8) hX dX5_kept_20 rfl rfl ?_
    refine r_mmin (pc' := 25) hX dX5_kept_22 k_X5_290 (by omega) (by omega) rfl (Nat.le_of_ble_eq_true rfl) (by decide) (by omega) (by omega) ?_
    refine r_put (ws' := wBF cy f fa s o an ((pr + 1) % 10) (min (un + 1) 8) hs e1 e2 fc SC OB sn AD VS) (pc' := 28) hX dX5_kept_25 f_X5_38 fw_X5_5 0 rfl rfl rfl (Nat.le_of_ble_eq_true rfl) rfl rfl ?_
    refine r_iload_n (pc' := 29) hX dX5_kept_28 rfl rfl ?_
    exact r_ireturn hX hE dX5_kept_29 rfl ⟨rfl, hx9, rfl⟩ (by omega) (by omega)
  · intro E9 u9 hp9
    obtain ⟨hx9, hE9, rfl⟩ := hp9
    exact VX_out hX hO ⟨hx9, hE9, rfl⟩ (by decide) (by decide)

set_option maxRecDepth 20000 in
set_option maxHeartbeats 1000000 in
theorem cF_place {l : Launch} {D : va_G} {cy : Nat → ClassId} {sa : Nat → Nat} {f fa s o pr un hs : Nat} {an : Nat → Nat} {e1 e2 : Int32} {fc : Nat → Nat} {SC OB : va_W} {sn : SV} {AD : Nat → Nat → Nat} {VS : Nat → SV} {x : Int32} (hst : l.stackTraces = false) (hpr : pr < 10) (hA0 : fc pr = AD 0 0) (hv : Wf (VS 0)) : MX l yX5_placeOf cX5_placeOf 2 (some .int) 7 1 6 (D, cy, sa) [.ref f, .int x] (wBF cy f fa s o an pr un hs e1 e2 fc SC OB sn AD VS) (fun w u => w = some (.int (nI (plc (VS 0) x.toInt))) ∧ plc (VS 0) x.toInt < VS 0 0 4 ∧ u = wBF cy f fa s o an pr un hs e1 e2 fc SC OB sn AD VS) (fun E u => ¬ plc (VS 0) x.toInt < VS 0 0 4 ∧ E = exC (-5) ∧ u = wBF cy f fa s o an pr un hs e1 e2 fc SC OB sn AD VS) := by
  refine MX_by (own := RX5) (L := [some (.ref f), some (.int x)]) hst (by decide +kernel) rfl rfl (Nat.le_of_ble_eq_true rfl) 0 rfl (fun X hX hE hO hnL hG hcy hnm => ?_)
  refine r_aload_n (pc' := 1) hX dX5_placeOf_0 rfl rfl ?_
  refine V_call0 (k' := 0) (n' := 0) (pc' := 4) hX (r_runV (As := []) hX dX5_placeOf_1 k_X5_88 (fun l9 hl9 => cF_now (by assumption) (by assumption)) hG ⟨7, _, TX5, 9, List.mem_cons_self, rfl⟩ rfl rfl (Nat.le_of_ble_eq_true rfl) (by decide) (by decide) (by decide) (by decide)) rfl rfl rfl (fun w9 u9 hp9 => ?_)
  obtain ⟨rfl, rfl⟩ := hp9
  change V X 0 0 (wBF cy f fa s o an pr un hs e1 e2 fc SC OB sn AD VS) [some (.ref f), some (.int x)] [.ref (AD 0 0)] 4
  refine r_iload_n (pc' := 5) hX dX5_placeOf_4 rfl rfl ?_
  refine V_call (k' := 0) (n' := 0) (pc' := 8) (wr := (((wBFl cy f fa s o an pr un hs e1 e2 fc SC OB sn AD VS)).eraseIdx 1).flatten) hX (r_runV (As := [.int x]) hX dX5_placeOf_5 k_X5_295 (fun l9 hl9 => cS_placeWith hv) hG ⟨6, _, TX4, 17, List.mem_cons_self, rfl⟩ rfl rfl (Nat.le_of_ble_eq_true rfl) (by decide) (by decide) (by decide) (by decide)) (fl_out (bs := (wBFl cy f fa s o an pr un hs e1 e2 fc SC OB sn AD VS)) 1 rfl) rfl rfl rfl (fun w9 u9 hp9 => ?_)
  obtain ⟨rfl, rfl⟩ := hp9
  change V X 0 0 (wSt cy (AD 0) (VS 0) ++ (((wBFl cy f fa s o an pr un hs e1 e2 fc SC OB sn AD VS)).eraseIdx 1).flatten) [some (.ref f), some (.int x)] [.int (if plc (VS 0) x.toInt < VS 0 0 4 then nI (plc (VS 0) x.toInt) else -5)] 8
  refine V_perm (fl_back (bs := (wBFl cy f fa s o an pr un hs e1 e2 fc SC OB sn AD VS)) (bs' := (wBFl cy f fa s o an pr un hs e1 e2 fc SC OB sn AD VS)) 1 rfl rfl) ?_
  refine V_callX (k' := 1) (n' := 6) (pc' := 11) (wr := (wBF cy f fa s o an pr un hs e1 e2 fc SC OB sn AD VS)) hX (r_runSX (As := [.int (if plc (VS 0) x.toInt < VS 0 0 4 then nI (plc (VS 0) x.toInt) else -5)]) hX dX5_placeOf_8 k_X5_97 (fun l9 hl9 => by cases hl9; exact cF_answered (Outs_nost hO)) hG rfl rfl (Nat.le_of_ble_eq_true rfl) (by decide) (by decide) (by decide) (by decide)) (List.Perm.refl _) rfl rfl rfl (fun w9 u9 hp9 => ?_) ?_
  · obtain ⟨rfl, hx9, rfl⟩ := hp9
    have q9 : plc (VS 0) x.toInt < VS 0 0 4 := by
      refine Classical.byContradiction fun q9 => ?_
      rw [if_neg q9] at hx9
      exact hx9 (by decide)
    rw [if_pos q9]
    change V X 1 6 (wBF cy f fa s o an pr un hs e1 e2 fc SC OB sn AD VS) [some (.ref f), some (.int x)] [.int (nI (plc (VS 0) x.toInt))] 11
    exact r_ireturn hX hE dX5_placeOf_11 rfl ⟨rfl, q9, rfl⟩ (by omega) (by omega)
  · intro E9 u9 hp9
    obtain ⟨hx9, hE9, rfl⟩ := hp9
    refine VX_out hX hO ⟨?_, ?_, rfl⟩ (by decide) (by decide)
    · intro q9; rw [if_pos q9, nI_I (by have := hv.2.2.1; omega)] at hx9; omega
    · rw [hE9]; by_cases q9 : plc (VS 0) x.toInt < VS 0 0 4
      · rw [if_pos q9, nI_I (by have := hv.2.2.1; omega)] at hx9; omega
      · rw [if_neg q9]
