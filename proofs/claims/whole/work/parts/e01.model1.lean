/-! ===== the model: its helpers ===== -/
set_option maxRecDepth 20000 in
set_option maxHeartbeats 4000000 in
theorem cM_in {l : Launch} {D : va_G} {cy : Nat → ClassId} {sa : Nat → Nat} {x y z : Int32} : MG l yX6_in cX6_in 3 (some .boolean) 0 0 0 (D, cy, sa) [.int x, .int y, .int z] ([]) (fun w u => w = some (.int (bI (y.toInt ≤ x.toInt ∧ x.toInt ≤ z.toInt))) ∧ u = []) := by
  refine MG_by (own := RX6) (L := [some (.int x), some (.int y), some (.int z)]) (by decide +kernel) rfl rfl (Nat.le_of_ble_eq_true rfl) 0 rfl (fun X hX hE hnL hG hcy hnm => ?_)
  refine r_iload_n (pc' := 1) hX dX6_in_0 rfl rfl ?_
  refine r_iload_n (pc' := 2) hX dX6_in_1 rfl rfl ?_
  refine r_icmp_lt_I (tgt := 14) (pc' := 5) hX dX6_in_2 (by decide) rfl rfl rfl (fun c2 => ?_) (fun c2 => ?_)
  · refine r_iconst (pc' := 15) (v := nI 0) hX dX6_in_14 rfl rfl ?_
    exact r_zreturn hX hE dX6_in_15 rfl rfl ⟨rB0 (by omega), rfl⟩ (by decide) (by decide)
  · refine r_iload_n (pc' := 6) hX dX6_in_5 rfl rfl ?_
    refine r_iload_n (pc' := 7) hX dX6_in_6 rfl rfl ?_
    refine r_icmp_gt_I (tgt := 14) (pc' := 10) hX dX6_in_7 (by decide) rfl rfl rfl (fun c7 => ?_) (fun c7 => ?_)
    · refine r_iconst (pc' := 15) (v := nI 0) hX dX6_in_14 rfl rfl ?_
      exact r_zreturn hX hE dX6_in_15 rfl rfl ⟨rB0 (by omega), rfl⟩ (by decide) (by decide)
    · refine r_iconst (pc' := 11) (v := nI 1) hX dX6_in_10 rfl rfl ?_
      refine r_goto (tgt := 15) hX dX6_in_11 (by decide) ?_
      exact r_zreturn hX hE dX6_in_15 rfl rfl ⟨rB1 (by omega), rfl⟩ (by decide) (by decide)

set_option maxRecDepth 20000 in
set_option maxHeartbeats 4000000 in
theorem cM_isAlloy {l : Launch} {D : va_G} {cy : Nat → ClassId} {sa : Nat → Nat} {ma : Nat → Nat} {r : Nat → Nat} {e : Nat → Int32} {g bf hy sv bu le : Nat → Nat} {pa : Nat → Int32} {v : SV} {x : Int32} (hv : Wf v) (hR : Rr v g)  : MG l yX6_isAlloy cX6_isAlloy 2 (some .boolean) 1 0 0 (D, cy, sa) [.ref (ma 0), .int x] (wM cy ma r e g bf hy sv bu le pa) (fun w u => w = some (.int (bI (inR x (v 0 0)))) ∧ u = wM cy ma r e g bf hy sv bu le pa) := by
  have hv0 := hv
  obtain ⟨wa, wm, wb, ws, wt, wc, wB, wR, wL, wK, wP⟩ := hv
  refine MG_by (own := RX6) (L := [some (.ref (ma 0)), some (.int x)]) (by decide +kernel) rfl rfl (Nat.le_of_ble_eq_true rfl) 0 rfl (fun X hX hE hnL hG hcy hnm => ?_)
  refine r_iload_n (pc' := 1) hX dX6_isAlloy_0 rfl rfl ?_
  refine r_iconst (pc' := 2) (v := nI 0) hX dX6_isAlloy_1 rfl rfl ?_
  refine r_aload_n (pc' := 3) hX dX6_isAlloy_2 rfl rfl ?_
  refine r_get (pc' := 6) (v := .ref (ma 1)) hX dX6_isAlloy_3 f_X6_7 0 rfl rfl rfl ?_
  refine r_iconst (pc' := 7) (v := nI 5) hX dX6_isAlloy_6 rfl rfl ?_
  refine r_iald_N (pc' := 8) hX dX6_isAlloy_7 (by rw [hcy]) 1 rfl (by omega) (by decide) rfl ?_
  change V X 0 0 (wM cy ma r e g bf hy sv bu le pa) [some (.ref (ma 0)), some (.int x)] [.int (nI (g 5)), .int (nI 0), .int x] 8
  rw [hR.alo]
  refine r_iconst (pc' := 9) (v := nI 1) hX dX6_isAlloy_8 rfl rfl ?_
  refine r_isub (pc' := 10) hX dX6_isAlloy_9 rfl ?_
  refine V_calln (k' := 0) (n' := 0) (pc' := 13) hX (r_runS (As := [.int x, .int (nI 0), .int ((nI (v 0 0)) - (nI 1))]) hX dX6_isAlloy_10 k_X6_49 (fun l9 hl9 => cM_in (x := x) (y := nI 0) (z := ((nI (v 0 0)) - (nI 1)))) hG rfl rfl (Nat.le_of_ble_eq_true rfl) (by decide) (by decide) (by decide) (by decide)) rfl rfl rfl (fun w9 hp9 => ?_)
  obtain rfl := hp9
  rw [bI_congr (q := inR x (v 0 0)) (by rw [pred_I (by omega), nI_I (by omega)]; unfold inR; omega)]
  change V X 0 0 (wM cy ma r e g bf hy sv bu le pa) [some (.ref (ma 0)), some (.int x)] [.int (bI (inR x (v 0 0)))] 13
  exact r_zreturn hX hE dX6_isAlloy_13 rfl (bI_nar) ⟨rfl, rfl⟩ (by decide) (by decide)

set_option maxRecDepth 20000 in
set_option maxHeartbeats 4000000 in
theorem cM_isMould {l : Launch} {D : va_G} {cy : Nat → ClassId} {sa : Nat → Nat} {ma : Nat → Nat} {r : Nat → Nat} {e : Nat → Int32} {g bf hy sv bu le : Nat → Nat} {pa : Nat → Int32} {v : SV} {x : Int32} (hv : Wf v) (hR : Rr v g)  : MG l yX6_isMould cX6_isMould 2 (some .boolean) 1 0 0 (D, cy, sa) [.ref (ma 0), .int x] (wM cy ma r e g bf hy sv bu le pa) (fun w u => w = some (.int (bI (inR x (v 0 1)))) ∧ u = wM cy ma r e g bf hy sv bu le pa) := by
  have hv0 := hv
  obtain ⟨wa, wm, wb, ws, wt, wc, wB, wR, wL, wK, wP⟩ := hv
  refine MG_by (own := RX6) (L := [some (.ref (ma 0)), some (.int x)]) (by decide +kernel) rfl rfl (Nat.le_of_ble_eq_true rfl) 0 rfl (fun X hX hE hnL hG hcy hnm => ?_)
  refine r_iload_n (pc' := 1) hX dX6_isMould_0 rfl rfl ?_
  refine r_iconst (pc' := 2) (v := nI 0) hX dX6_isMould_1 rfl rfl ?_
  refine r_aload_n (pc' := 3) hX dX6_isMould_2 rfl rfl ?_
  refine r_get (pc' := 6) (v := .ref (ma 1)) hX dX6_isMould_3 f_X6_7 0 rfl rfl rfl ?_
  refine r_bipush (pc' := 8) (v := nI 6) hX dX6_isMould_6 rfl rfl ?_
  refine r_iald_N (pc' := 9) hX dX6_isMould_8 (by rw [hcy]) 1 rfl (by omega) (by decide) rfl ?_
  change V X 0 0 (wM cy ma r e g bf hy sv bu le pa) [some (.ref (ma 0)), some (.int x)] [.int (nI (g 6)), .int (nI 0), .int x] 9
  rw [hR.mou]
  refine r_iconst (pc' := 10) (v := nI 1) hX dX6_isMould_9 rfl rfl ?_
  refine r_isub (pc' := 11) hX dX6_isMould_10 rfl ?_
  refine V_calln (k' := 0) (n' := 0) (pc' := 14) hX (r_runS (As := [.int x, .int (nI 0), .int ((nI (v 0 1)) - (nI 1))]) hX dX6_isMould_11 k_X6_49 (fun l9 hl9 => cM_in (x := x) (y := nI 0) (z := ((nI (v 0 1)) - (nI 1)))) hG rfl rfl (Nat.le_of_ble_eq_true rfl) (by decide) (by decide) (by decide) (by decide)) rfl rfl rfl (fun w9 hp9 => ?_)
  obtain rfl := hp9
  rw [bI_congr (q := inR x (v 0 1)) (by rw [pred_I (by omega), nI_I (by omega)]; unfold inR; omega)]
  change V X 0 0 (wM cy ma r e g bf hy sv bu le pa) [some (.ref (ma 0)), some (.int x)] [.int (bI (inR x (v 0 1)))] 14
  exact r_zreturn hX hE dX6_isMould_14 rfl (bI_nar) ⟨rfl, rfl⟩ (by decide) (by decide)

set_option maxRecDepth 20000 in
set_option maxHeartbeats 4000000 in
theorem cM_isMetal {l : Launch} {D : va_G} {cy : Nat → ClassId} {sa : Nat → Nat} {x : Int32} : MG l yX6_isMetal cX6_isMetal 1 (some .boolean) 1 0 0 (D, cy, sa) [.int x] ([]) (fun w u => w = some (.int (bI (inR x 3))) ∧ u = []) := by
  refine MG_by (own := RX6) (L := [some (.int x)]) (by decide +kernel) rfl rfl (Nat.le_of_ble_eq_true rfl) 0 rfl (fun X hX hE hnL hG hcy hnm => ?_)
  refine r_iload_n (pc' := 1) hX dX6_isMetal_0 rfl rfl ?_
  refine r_iconst (pc' := 2) (v := nI 0) hX dX6_isMetal_1 rfl rfl ?_
  refine r_iconst (pc' := 3) (v := nI 2) hX dX6_isMetal_2 rfl rfl ?_
  refine V_calln (k' := 0) (n' := 0) (pc' := 6) hX (r_runS (As := [.int x, .int (nI 0), .int (nI 2)]) hX dX6_isMetal_3 k_X6_49 (fun l9 hl9 => cM_in (x := x) (y := nI 0) (z := nI 2)) hG rfl rfl (Nat.le_of_ble_eq_true rfl) (by decide) (by decide) (by decide) (by decide)) rfl rfl rfl (fun w9 hp9 => ?_)
  obtain rfl := hp9
  rw [bI_congr (q := inR x 3) (by rw [nI_I (by omega), nI_I (by omega)]; unfold inR; omega)]
  change V X 0 0 ([]) [some (.int x)] [.int (bI (inR x 3))] 6
  exact r_zreturn hX hE dX6_isMetal_6 rfl (bI_nar) ⟨rfl, rfl⟩ (by decide) (by decide)

set_option maxRecDepth 20000 in
set_option maxHeartbeats 4000000 in
theorem cM_done {l : Launch} {D : va_G} {cy : Nat → ClassId} {sa : Nat → Nat} {ma : Nat → Nat} {r : Nat → Nat} {e : Nat → Int32} {g bf hy sv bu le : Nat → Nat} {pa : Nat → Int32} {x : Int32} : MG l yX6_done cX6_done 2 (some .int) 0 0 0 (D, cy, sa) [.ref (ma 0), .int x] (wM cy ma r e g bf hy sv bu le pa) (fun w u => w = some (.int (x)) ∧ u = wM cy ma (up1 r 4 0) e g bf hy sv bu le pa) := by
  refine MG_by (own := RX6) (L := [some (.ref (ma 0)), some (.int x)]) (by decide +kernel) rfl rfl (Nat.le_of_ble_eq_true rfl) 0 rfl (fun X hX hE hnL hG hcy hnm => ?_)
  refine r_aload_n (pc' := 1) hX dX6_done_0 rfl rfl ?_
  refine r_iconst (pc' := 2) (v := nI 0) hX dX6_done_1 rfl rfl ?_
  refine r_put (ws' := wM cy ma (up1 r 4 0) e g bf hy sv bu le pa) (pc' := 5) hX dX6_done_2 f_X6_39 fw_X6_12 0 rfl rfl rfl (Nat.le_of_ble_eq_true rfl) rfl rfl ?_
  refine r_iload_n (pc' := 6) hX dX6_done_5 rfl rfl ?_
  exact r_ireturn hX hE dX6_done_6 rfl ⟨rfl, rfl⟩ (by decide) (by decide)

set_option maxRecDepth 20000 in
set_option maxHeartbeats 4000000 in
theorem cM_fails {l : Launch} {D : va_G} {cy : Nat → ClassId} {sa : Nat → Nat} {ma : Nat → Nat} {r : Nat → Nat} {e : Nat → Int32} {g bf hy sv bu le : Nat → Nat} {pa : Nat → Int32} {n : Nat} (hn : n < 100) : MG l yX6_fails cX6_fails 2 (some .int) 0 0 0 (D, cy, sa) [.ref (ma 0), .int (nI n)] (wM cy ma r e g bf hy sv bu le pa) (fun w u => w = some (.int (nI 0)) ∧ u = wM cy ma (up1 r 4 n) e g bf hy sv bu le pa) := by
  refine MG_by (own := RX6) (L := [some (.ref (ma 0)), some (.int (nI n))]) (by decide +kernel) rfl rfl (Nat.le_of_ble_eq_true rfl) 0 rfl (fun X hX hE hnL hG hcy hnm => ?_)
  refine r_aload_n (pc' := 1) hX dX6_fails_0 rfl rfl ?_
  refine r_iload_n (pc' := 2) hX dX6_fails_1 rfl rfl ?_
  refine r_put (ws' := wM cy ma (up1 r 4 n) e g bf hy sv bu le pa) (pc' := 5) hX dX6_fails_2 f_X6_39 fw_X6_12 0 rfl rfl rfl (Nat.le_of_ble_eq_true rfl) rfl rfl ?_
  refine r_iconst (pc' := 6) (v := nI 0) hX dX6_fails_5 rfl rfl ?_
  exact r_ireturn hX hE dX6_fails_6 rfl ⟨rfl, rfl⟩ (by decide) (by decide)

set_option maxRecDepth 20000 in
set_option maxHeartbeats 4000000 in
theorem cM_part {l : Launch} {D : va_G} {cy : Nat → ClassId} {sa : Nat → Nat} {ma : Nat → Nat} {r : Nat → Nat} {e : Nat → Int32} {g bf hy sv bu le : Nat → Nat} {pa : Nat → Int32} {v : SV} (hR : Rr v g) {a m : Nat} (ha : a < 6) (hm : m < 3) : MG l yX6_part cX6_part 3 (some .int) 0 0 0 (D, cy, sa) [.ref (ma 0), .int (nI a), .int (nI m)] (wM cy ma r e g bf hy sv bu le pa) (fun w u => w = some (.int (nI (v (7 + a) m))) ∧ u = wM cy ma r e g bf hy sv bu le pa) := by
  refine MG_by (own := RX6) (L := [some (.ref (ma 0)), some (.int (nI a)), some (.int (nI m))]) (by decide +kernel) rfl rfl (Nat.le_of_ble_eq_true rfl) 0 rfl (fun X hX hE hnL hG hcy hnm => ?_)
  refine r_aload_n (pc' := 1) hX dX6_part_0 rfl rfl ?_
  refine r_get (pc' := 4) (v := .ref (ma 1)) hX dX6_part_1 f_X6_7 0 rfl rfl rfl ?_
  refine r_bipush (pc' := 6) (v := nI 21) hX dX6_part_4 rfl rfl ?_
  refine r_iconst (pc' := 7) (v := nI 3) hX dX6_part_6 rfl rfl ?_
  refine r_iload_n (pc' := 8) hX dX6_part_7 rfl rfl ?_
  refine r_imul_N (pc' := 9) hX dX6_part_8  rfl ?_
  refine r_iadd_N (pc' := 10) hX dX6_part_9  rfl ?_
  refine r_iload_n (pc' := 11) hX dX6_part_10 rfl rfl ?_
  refine r_iadd_N (pc' := 12) hX dX6_part_11  rfl ?_
  refine r_iald_N (pc' := 13) hX dX6_part_12 (by rw [hcy]) 1 rfl (by omega) (by decide) rfl ?_
  change V X 0 0 (wM cy ma r e g bf hy sv bu le pa) [some (.ref (ma 0)), some (.int (nI a)), some (.int (nI m))] [.int (nI (g ((21 + (3 * a)) + m)))] 13
  rw [(hR.rec (by omega) (by omega))]
  exact r_ireturn hX hE dX6_part_13 rfl ⟨rfl, rfl⟩ (by decide) (by decide)

set_option maxRecDepth 20000 in
set_option maxHeartbeats 4000000 in
theorem cM_squeakAt {l : Launch} {D : va_G} {cy : Nat → ClassId} {sa : Nat → Nat} {ma : Nat → Nat} {r : Nat → Nat} {e : Nat → Int32} {g bf hy sv bu le : Nat → Nat} {pa : Nat → Int32} {v : SV} (hv : Wf v) (hR : Rr v g) {i k : Nat} (hi : i < v 0 4) (hk : k < v (13 + i) 2) : MG l yX6_squeakAt cX6_squeakAt 3 (some .int) 0 0 0 (D, cy, sa) [.ref (ma 0), .int (nI i), .int (nI k)] (wM cy ma r e g bf hy sv bu le pa) (fun w u => w = some (.int (nI (v (21 + i) k))) ∧ u = wM cy ma r e g bf hy sv bu le pa) := by
  have hv0 := hv
  obtain ⟨wa, wm, wb, ws, wt, wc, wB, wR, wL, wK, wP⟩ := hv
  refine MG_by (own := RX6) (L := [some (.ref (ma 0)), some (.int (nI i)), some (.int (nI k))]) (by decide +kernel) rfl rfl (Nat.le_of_ble_eq_true rfl) 0 rfl (fun X hX hE hnL hG hcy hnm => ?_)
  obtain ⟨bz, -, -, -, -, -⟩ := wB i hi
  refine r_aload_n (pc' := 1) hX dX6_squeakAt_0 rfl rfl ?_
  refine r_get (pc' := 4) (v := .ref (ma 1)) hX dX6_squeakAt_1 f_X6_7 0 rfl rfl rfl ?_
  refine r_bipush (pc' := 6) (v := nI 87) hX dX6_squeakAt_4 rfl rfl ?_
  refine r_bipush (pc' := 8) (v := nI 9) hX dX6_squeakAt_6 rfl rfl ?_
  refine r_iload_n (pc' := 9) hX dX6_squeakAt_8 rfl rfl ?_
  refine r_imul_N (pc' := 10) hX dX6_squeakAt_9  rfl ?_
  refine r_iadd_N (pc' := 11) hX dX6_squeakAt_10  rfl ?_
  refine r_iload_n (pc' := 12) hX dX6_squeakAt_11 rfl rfl ?_
  refine r_iadd_N (pc' := 13) hX dX6_squeakAt_12  rfl ?_
  refine r_iald_N (pc' := 14) hX dX6_squeakAt_13 (by rw [hcy]) 1 rfl (by omega) (by decide) rfl ?_
  change V X 0 0 (wM cy ma r e g bf hy sv bu le pa) [some (.ref (ma 0)), some (.int (nI i)), some (.int (nI k))] [.int (nI (g ((87 + (9 * i)) + k)))] 14
  rw [(hR.sqs (by omega) (by omega))]
  exact r_ireturn hX hE dX6_squeakAt_14 rfl ⟨rfl, rfl⟩ (by decide) (by decide)

set_option maxRecDepth 20000 in
set_option maxHeartbeats 4000000 in
theorem cM_placeOf {l : Launch} {D : va_G} {cy : Nat → ClassId} {sa : Nat → Nat} {ma : Nat → Nat} {r : Nat → Nat} {e : Nat → Int32} {g bf hy sv bu le : Nat → Nat} {pa : Nat → Int32} {v : SV} {x : Int32} (hv : Wf v) (hR : Rr v g)  : MG l yX6_placeOf cX6_placeOf 3 (some .int) 0 0 0 (D, cy, sa) [.ref (ma 0), .int x] (wM cy ma r e g bf hy sv bu le pa) (fun w u => w = some (.int (if plc v x.toInt < v 0 4 then nI (plc v x.toInt) else -1)) ∧ u = wM cy ma r e g bf hy sv bu le pa) := by
  have hv0 := hv
  obtain ⟨wa, wm, wb, ws, wt, wc, wB, wR, wL, wK, wP⟩ := hv
  refine MG_by (own := RX6) (L := [some (.ref (ma 0)), some (.int x), none]) (by decide +kernel) rfl rfl (Nat.le_of_ble_eq_true rfl) 1 rfl (fun X hX hE hnL hG hcy hnm => ?_)
  refine r_iconst (pc' := 1) (v := nI 0) hX dX6_placeOf_0 rfl rfl ?_
  refine r_istore_n (L' := [some (.ref (ma 0)), some (.int x), some (.int (nI 0))]) (pc' := 2) hX dX6_placeOf_1 (nlt hnL (by decide)) rfl rfl rfl ?_
  have loop2 : ∀ (n9 : Nat) (i : Nat), v 0 4 - i < n9 → (i ≤ v 0 4) → (∀ j, j < i → ¬ (v (13 + j) 0 : Int) = x.toInt) → V X 0 0 (wM cy ma r e g bf hy sv bu le pa) [some (.ref (ma 0)), some (.int x), some (.int (nI i))] [] 2 := by
    intro n9
    induction n9 with
    | zero => intro i hm; exact absurd hm (Nat.not_lt_zero _)
    | succ n9 ih2 =>
      intro i hm hi hn
      refine r_iload_n (pc' := 3) hX dX6_placeOf_2 rfl rfl ?_
      refine r_aload_n (pc' := 4) hX dX6_placeOf_3 rfl rfl ?_
      refine r_get (pc' := 7) (v := .ref (ma 1)) hX dX6_placeOf_4 f_X6_7 0 rfl rfl rfl ?_
      refine r_bipush (pc' := 9) (v := nI 7) hX dX6_placeOf_7 rfl rfl ?_
      refine r_iald_N (pc' := 10) hX dX6_placeOf_9 (by rw [hcy]) 1 rfl (by omega) (by decide) rfl ?_
      change V X 0 0 (wM cy ma r e g bf hy sv bu le pa) [some (.ref (ma 0)), some (.int x), some (.int (nI i))] [.int (nI (g 7)), .int (nI i)] 10
      rw [hR.bat]
      refine r_icmp_ge_N (tgt := 34) (pc' := 13) hX dX6_placeOf_10 (by decide) rfl (by omega) (by omega) (fun c10 => ?_) (fun c10 => ?_)
      · refine r_iconst (pc' := 35) (v := (-1)) hX dX6_placeOf_34 rfl rfl ?_
        have e : plc v x.toInt = v 0 4 := lst_no (fun j hj => hn j (by omega))
        exact r_ireturn hX hE dX6_placeOf_35 rfl ⟨rI (by rw [e, if_neg (by omega)]), rfl⟩ (by decide) (by decide)
      · obtain ⟨-, -, -, b0, b1, -⟩ := wB i c10
        refine r_aload_n (pc' := 14) hX dX6_placeOf_13 rfl rfl ?_
        refine r_get (pc' := 17) (v := .ref (ma 1)) hX dX6_placeOf_14 f_X6_7 0 rfl rfl rfl ?_
        refine r_bipush (pc' := 19) (v := nI 47) hX dX6_placeOf_17 rfl rfl ?_
        refine r_iload_n (pc' := 20) hX dX6_placeOf_19 rfl rfl ?_
        refine r_iadd_N (pc' := 21) hX dX6_placeOf_20  rfl ?_
        refine r_iald_N (pc' := 22) hX dX6_placeOf_21 (by rw [hcy]) 1 rfl (by omega) (by decide) rfl ?_
        change V X 0 0 (wM cy ma r e g bf hy sv bu le pa) [some (.ref (ma 0)), some (.int x), some (.int (nI i))] [.int (nI (g (47 + i)))] 22
        rw [(hR.num (by omega))]
        refine r_iload_n (pc' := 23) hX dX6_placeOf_22 rfl rfl ?_
        refine r_icmp_ne_I (tgt := 28) (pc' := 26) hX dX6_placeOf_23 (by decide) rfl (nI_I (by omega)) rfl (fun c23 => ?_) (fun c23 => ?_)
        · refine r_iinc_N (b := 1) (L' := [some (.ref (ma 0)), some (.int x), some (.int (nI (i + 1)))]) (pc' := 31) hX dX6_placeOf_28 rfl (nlt hnL (by decide)) rfl rfl rfl ?_
          refine r_goto (tgt := 2) hX dX6_placeOf_31 (by decide) ?_
          exact ih2 (i + 1) (by omega) (by omega) (fun j hj => (Nat.lt_succ_iff_lt_or_eq.mp hj).elim (hn j) (fun e9 => by rw [e9]; exact c23))
        · refine r_iload_n (pc' := 27) hX dX6_placeOf_26 rfl rfl ?_
          have e : plc v x.toInt = i := lst_at c23 hn (by omega)
          exact r_ireturn hX hE dX6_placeOf_27 rfl ⟨rI (by rw [e, if_pos (by omega)]), rfl⟩ (by decide) (by decide)
  exact loop2 _ 0 (Nat.lt_succ_self _) (by omega) (fun j hj => absurd hj (Nat.not_lt_zero _))

set_option maxRecDepth 20000 in
set_option maxHeartbeats 4000000 in
theorem cM_placeWith {l : Launch} {D : va_G} {cy : Nat → ClassId} {sa : Nat → Nat} {ma : Nat → Nat} {r : Nat → Nat} {e : Nat → Int32} {g bf hy sv bu le : Nat → Nat} {pa : Nat → Int32} {v : SV} {x : Int32} (hv : Wf v) (hR : Rr v g)  : MG l yX6_placeWith cX6_placeWith 3 (some .int) 1 0 0 (D, cy, sa) [.ref (ma 0), .int x] (wM cy ma r e g bf hy sv bu le pa) (fun w u => w = some (.int (if plb v x.toInt < v 0 4 then nI (plb v x.toInt) else -1)) ∧ u = wM cy ma r e g bf hy sv bu le pa) := by
  have hv0 := hv
  obtain ⟨wa, wm, wb, ws, wt, wc, wB, wR, wL, wK, wP⟩ := hv
  refine MG_by (own := RX6) (L := [some (.ref (ma 0)), some (.int x), none]) (by decide +kernel) rfl rfl (Nat.le_of_ble_eq_true rfl) 1 rfl (fun X hX hE hnL hG hcy hnm => ?_)
  refine r_iconst (pc' := 1) (v := nI 0) hX dX6_placeWith_0 rfl rfl ?_
  refine r_istore_n (L' := [some (.ref (ma 0)), some (.int x), some (.int (nI 0))]) (pc' := 2) hX dX6_placeWith_1 (nlt hnL (by decide)) rfl rfl rfl ?_
  have loop2 : ∀ (n9 : Nat) (i : Nat), v 0 4 - i < n9 → (i ≤ v 0 4) → (∀ j, j < i → ¬ ((v (13 + j) 1 : Int) ≤ x.toInt ∧ x.toInt < (v (13 + j) 1 : Int) + (v (13 + j) 2 : Int))) → V X 0 0 (wM cy ma r e g bf hy sv bu le pa) [some (.ref (ma 0)), some (.int x), some (.int (nI i))] [] 2 := by
    intro n9
    induction n9 with
    | zero => intro i hm; exact absurd hm (Nat.not_lt_zero _)
    | succ n9 ih2 =>
      intro i hm hi hn
      refine r_iload_n (pc' := 3) hX dX6_placeWith_2 rfl rfl ?_
      refine r_aload_n (pc' := 4) hX dX6_placeWith_3 rfl rfl ?_
      refine r_get (pc' := 7) (v := .ref (ma 1)) hX dX6_placeWith_4 f_X6_7 0 rfl rfl rfl ?_
      refine r_bipush (pc' := 9) (v := nI 7) hX dX6_placeWith_7 rfl rfl ?_
      refine r_iald_N (pc' := 10) hX dX6_placeWith_9 (by rw [hcy]) 1 rfl (by omega) (by decide) rfl ?_
      change V X 0 0 (wM cy ma r e g bf hy sv bu le pa) [some (.ref (ma 0)), some (.int x), some (.int (nI i))] [.int (nI (g 7)), .int (nI i)] 10
      rw [hR.bat]
      refine r_icmp_ge_N (tgt := 50) (pc' := 13) hX dX6_placeWith_10 (by decide) rfl (by omega) (by omega) (fun c10 => ?_) (fun c10 => ?_)
      · refine r_iconst (pc' := 51) (v := (-1)) hX dX6_placeWith_50 rfl rfl ?_
        have e : plb v x.toInt = v 0 4 := lst_no (fun j hj => hn j (by omega))
        exact r_ireturn hX hE dX6_placeWith_51 rfl ⟨rI (by rw [e, if_neg (by omega)]), rfl⟩ (by decide) (by decide)
      · obtain ⟨bz, -, -, b0, b1, -⟩ := wB i c10
        refine r_iload_n (pc' := 14) hX dX6_placeWith_13 rfl rfl ?_
        refine r_aload_n (pc' := 15) hX dX6_placeWith_14 rfl rfl ?_
        refine r_get (pc' := 18) (v := .ref (ma 1)) hX dX6_placeWith_15 f_X6_7 0 rfl rfl rfl ?_
        refine r_bipush (pc' := 20) (v := nI 71) hX dX6_placeWith_18 rfl rfl ?_
        refine r_iload_n (pc' := 21) hX dX6_placeWith_20 rfl rfl ?_
        refine r_iadd_N (pc' := 22) hX dX6_placeWith_21  rfl ?_
        refine r_iald_N (pc' := 23) hX dX6_placeWith_22 (by rw [hcy]) 1 rfl (by omega) (by decide) rfl ?_
        change V X 0 0 (wM cy ma r e g bf hy sv bu le pa) [some (.ref (ma 0)), some (.int x), some (.int (nI i))] [.int (nI (g (71 + i))), .int x] 23
        rw [(hR.fir (by omega))]
        refine r_isub (pc' := 24) hX dX6_placeWith_23 rfl ?_
        refine r_iconst (pc' := 25) (v := nI 0) hX dX6_placeWith_24 rfl rfl ?_
        refine r_aload_n (pc' := 26) hX dX6_placeWith_25 rfl rfl ?_
        refine r_get (pc' := 29) (v := .ref (ma 1)) hX dX6_placeWith_26 f_X6_7 0 rfl rfl rfl ?_
        refine r_bipush (pc' := 31) (v := nI 63) hX dX6_placeWith_29 rfl rfl ?_
        refine r_iload_n (pc' := 32) hX dX6_placeWith_31 rfl rfl ?_
        refine r_iadd_N (pc' := 33) hX dX6_placeWith_32  rfl ?_
        refine r_iald_N (pc' := 34) hX dX6_placeWith_33 (by rw [hcy]) 1 rfl (by omega) (by decide) rfl ?_
        change V X 0 0 (wM cy ma r e g bf hy sv bu le pa) [some (.ref (ma 0)), some (.int x), some (.int (nI i))] [.int (nI (g (63 + i))), .int (nI 0), .int (x - (nI (v (13 + i) 1)))] 34
        rw [(hR.man (by omega))]
        refine r_iconst (pc' := 35) (v := nI 1) hX dX6_placeWith_34 rfl rfl ?_
        refine r_isub (pc' := 36) hX dX6_placeWith_35 rfl ?_
        refine V_calln (k' := 0) (n' := 0) (pc' := 39) hX (r_runS (As := [.int (x - (nI (v (13 + i) 1))), .int (nI 0), .int ((nI (v (13 + i) 2)) - (nI 1))]) hX dX6_placeWith_36 k_X6_49 (fun l9 hl9 => cM_in (x := (x - (nI (v (13 + i) 1)))) (y := nI 0) (z := ((nI (v (13 + i) 2)) - (nI 1)))) hG rfl rfl (Nat.le_of_ble_eq_true rfl) (by decide) (by decide) (by decide) (by decide)) rfl rfl rfl (fun w9 hp9 => ?_)
        obtain rfl := hp9
        rw [bI_congr (q := (v (13 + i) 1 : Int) ≤ x.toInt ∧ x.toInt < (v (13 + i) 1 : Int) + (v (13 + i) 2 : Int)) (by rw [pred_I (by omega), nI_I (by omega)]; exact sub_in (by omega) (by omega))]
        change V X 0 0 (wM cy ma r e g bf hy sv bu le pa) [some (.ref (ma 0)), some (.int x), some (.int (nI i))] [.int (bI ((v (13 + i) 1 : Int) ≤ x.toInt ∧ x.toInt < (v (13 + i) 1 : Int) + (v (13 + i) 2 : Int)))] 39
        refine r_if_eq_B (tgt := 44) (pc' := 42) hX dX6_placeWith_39 (by decide) rfl (fun c39 => ?_) (fun c39 => ?_)
        · refine r_iinc_N (b := 1) (L' := [some (.ref (ma 0)), some (.int x), some (.int (nI (i + 1)))]) (pc' := 47) hX dX6_placeWith_44 rfl (nlt hnL (by decide)) rfl rfl rfl ?_
          refine r_goto (tgt := 2) hX dX6_placeWith_47 (by decide) ?_
          exact ih2 (i + 1) (by omega) (by omega) (fun j hj => (Nat.lt_succ_iff_lt_or_eq.mp hj).elim (hn j) (fun e9 => by rw [e9]; exact c39))
        · refine r_iload_n (pc' := 43) hX dX6_placeWith_42 rfl rfl ?_
          have e : plb v x.toInt = i := lst_at c39 hn (by omega)
          exact r_ireturn hX hE dX6_placeWith_43 rfl ⟨rI (by rw [e, if_pos (by omega)]), rfl⟩ (by decide) (by decide)
  exact loop2 _ 0 (Nat.lt_succ_self _) (by omega) (fun j hj => absurd hj (Nat.not_lt_zero _))

set_option maxRecDepth 20000 in
set_option maxHeartbeats 4000000 in
theorem cM_squeakOf {l : Launch} {D : va_G} {cy : Nat → ClassId} {sa : Nat → Nat} {ma : Nat → Nat} {r : Nat → Nat} {e : Nat → Int32} {g bf hy sv bu le : Nat → Nat} {pa : Nat → Int32} {v : SV} (hv : Wf v) (hR : Rr v g) {a m : Nat} (ha : a < v 0 0) (hm : m < v 0 1) : MG l yX6_squeakOf cX6_squeakOf 4 (some .int) 1 0 0 (D, cy, sa) [.ref (ma 0), .int (nI a), .int (nI m)] (wM cy ma r e g bf hy sv bu le pa) (fun w u => w = some (.int (nI (sqk v a m))) ∧ u = wM cy ma r e g bf hy sv bu le pa) := by
  have hv0 := hv
  obtain ⟨wa, wm, wb, ws, wt, wc, wB, wR, wL, wK, wP⟩ := hv
  refine MG_by (own := RX6) (L := [some (.ref (ma 0)), some (.int (nI a)), some (.int (nI m)), none]) (by decide +kernel) rfl rfl (Nat.le_of_ble_eq_true rfl) 1 rfl (fun X hX hE hnL hG hcy hnm => ?_)
  have r0 := wR a 0 (by omega) (by omega)
  have r1 := wR a 1 (by omega) (by omega)
  have r2 := wR a 2 (by omega) (by omega)
  have rl := wL m (by omega)
  refine r_bipush (pc' := 2) (v := nI 7) hX dX6_squeakOf_0 rfl rfl ?_
  refine r_aload_n (pc' := 3) hX dX6_squeakOf_2 rfl rfl ?_
  refine r_iload_n (pc' := 4) hX dX6_squeakOf_3 rfl rfl ?_
  refine r_iconst (pc' := 5) (v := nI 0) hX dX6_squeakOf_4 rfl rfl ?_
  refine V_call0 (k' := 0) (n' := 0) (pc' := 8) hX (r_runV (As := [.int (nI a), .int (nI 0)]) hX dX6_squeakOf_5 k_X6_53 (fun l9 hl9 => cM_part hR (by omega) (by omega)) hG ⟨8, _, TX6, 16, List.mem_cons_self, rfl⟩ rfl rfl (Nat.le_of_ble_eq_true rfl) (by decide) (by decide) (by decide) (by decide)) rfl rfl rfl (fun w9 u9 hp9 => ?_)
  obtain ⟨rfl, rfl⟩ := hp9
  change V X 0 0 (wM cy ma r e g bf hy sv bu le pa) [some (.ref (ma 0)), some (.int (nI a)), some (.int (nI m)), none] [.int (nI (v (7 + a) 0)), .int (nI 7)] 8
  refine r_imul_N (pc' := 9) hX dX6_squeakOf_8  rfl ?_
  refine r_bipush (pc' := 11) (v := nI 11) hX dX6_squeakOf_9 rfl rfl ?_
  refine r_aload_n (pc' := 12) hX dX6_squeakOf_11 rfl rfl ?_
  refine r_iload_n (pc' := 13) hX dX6_squeakOf_12 rfl rfl ?_
  refine r_iconst (pc' := 14) (v := nI 1) hX dX6_squeakOf_13 rfl rfl ?_
  refine V_call0 (k' := 0) (n' := 0) (pc' := 17) hX (r_runV (As := [.int (nI a), .int (nI 1)]) hX dX6_squeakOf_14 k_X6_53 (fun l9 hl9 => cM_part hR (by omega) (by omega)) hG ⟨8, _, TX6, 16, List.mem_cons_self, rfl⟩ rfl rfl (Nat.le_of_ble_eq_true rfl) (by decide) (by decide) (by decide) (by decide)) rfl rfl rfl (fun w9 u9 hp9 => ?_)
  obtain ⟨rfl, rfl⟩ := hp9
  change V X 0 0 (wM cy ma r e g bf hy sv bu le pa) [some (.ref (ma 0)), some (.int (nI a)), some (.int (nI m)), none] [.int (nI (v (7 + a) 1)), .int (nI 11), .int (nI (7 * (v (7 + a) 0)))] 17
  refine r_imul_N (pc' := 18) hX dX6_squeakOf_17  rfl ?_
  refine r_iadd_N (pc' := 19) hX dX6_squeakOf_18  rfl ?_
  refine r_iconst (pc' := 20) (v := nI 3) hX dX6_squeakOf_19 rfl rfl ?_
  refine r_aload_n (pc' := 21) hX dX6_squeakOf_20 rfl rfl ?_
  refine r_iload_n (pc' := 22) hX dX6_squeakOf_21 rfl rfl ?_
  refine r_iconst (pc' := 23) (v := nI 2) hX dX6_squeakOf_22 rfl rfl ?_
  refine V_call0 (k' := 0) (n' := 0) (pc' := 26) hX (r_runV (As := [.int (nI a), .int (nI 2)]) hX dX6_squeakOf_23 k_X6_53 (fun l9 hl9 => cM_part hR (by omega) (by omega)) hG ⟨8, _, TX6, 16, List.mem_cons_self, rfl⟩ rfl rfl (Nat.le_of_ble_eq_true rfl) (by decide) (by decide) (by decide) (by decide)) rfl rfl rfl (fun w9 u9 hp9 => ?_)
  obtain ⟨rfl, rfl⟩ := hp9
  change V X 0 0 (wM cy ma r e g bf hy sv bu le pa) [some (.ref (ma 0)), some (.int (nI a)), some (.int (nI m)), none] [.int (nI (v (7 + a) 2)), .int (nI 3), .int (nI ((7 * (v (7 + a) 0)) + (11 * (v (7 + a) 1))))] 26
  refine r_imul_N (pc' := 27) hX dX6_squeakOf_26  rfl ?_
  refine r_iadd_N (pc' := 28) hX dX6_squeakOf_27  rfl ?_
  refine r_iconst (pc' := 29) (v := nI 5) hX dX6_squeakOf_28 rfl rfl ?_
  refine r_aload_n (pc' := 30) hX dX6_squeakOf_29 rfl rfl ?_
  refine r_get (pc' := 33) (v := .ref (ma 1)) hX dX6_squeakOf_30 f_X6_7 0 rfl rfl rfl ?_
  refine r_bipush (pc' := 35) (v := nI 39) hX dX6_squeakOf_33 rfl rfl ?_
  refine r_iload_n (pc' := 36) hX dX6_squeakOf_35 rfl rfl ?_
  refine r_iadd_N (pc' := 37) hX dX6_squeakOf_36  rfl ?_
  refine r_iald_N (pc' := 38) hX dX6_squeakOf_37 (by rw [hcy]) 1 rfl (by omega) (by decide) rfl ?_
  change V X 0 0 (wM cy ma r e g bf hy sv bu le pa) [some (.ref (ma 0)), some (.int (nI a)), some (.int (nI m)), none] [.int (nI (g (39 + m))), .int (nI 5), .int (nI (((7 * (v (7 + a) 0)) + (11 * (v (7 + a) 1))) + (3 * (v (7 + a) 2))))] 38
  rw [(hR.len (by omega))]
  refine r_imul_N (pc' := 39) hX dX6_squeakOf_38  rfl ?_
  refine r_iadd_N (pc' := 40) hX dX6_squeakOf_39  rfl ?_
  refine r_bipush (pc' := 42) (v := nI 13) hX dX6_squeakOf_40 rfl rfl ?_
  refine r_aload_n (pc' := 43) hX dX6_squeakOf_42 rfl rfl ?_
  refine r_get (pc' := 46) (v := .ref (ma 1)) hX dX6_squeakOf_43 f_X6_7 0 rfl rfl rfl ?_
  refine r_bipush (pc' := 48) (v := nI 43) hX dX6_squeakOf_46 rfl rfl ?_
  refine r_iload_n (pc' := 49) hX dX6_squeakOf_48 rfl rfl ?_
  refine r_iadd_N (pc' := 50) hX dX6_squeakOf_49  rfl ?_
  refine r_iald_N (pc' := 51) hX dX6_squeakOf_50 (by rw [hcy]) 1 rfl (by omega) (by decide) rfl ?_
  change V X 0 0 (wM cy ma r e g bf hy sv bu le pa) [some (.ref (ma 0)), some (.int (nI a)), some (.int (nI m)), none] [.int (nI (g (43 + m))), .int (nI 13), .int (nI ((((7 * (v (7 + a) 0)) + (11 * (v (7 + a) 1))) + (3 * (v (7 + a) 2))) + (5 * (v 1 m))))] 51
  rw [(hR.use (by omega))]
  refine r_imul_N (pc' := 52) hX dX6_squeakOf_51  rfl ?_
  refine r_iadd_N (pc' := 53) hX dX6_squeakOf_52  rfl ?_
  refine r_istore_n (L' := [some (.ref (ma 0)), some (.int (nI a)), some (.int (nI m)), some (.int (nI (((((7 * (v (7 + a) 0)) + (11 * (v (7 + a) 1))) + (3 * (v (7 + a) 2))) + (5 * (v 1 m))) + (13 * (v 2 m)))))]) (pc' := 54) hX dX6_squeakOf_53 (nlt hnL (by decide)) rfl rfl rfl ?_
  refine r_iload_n (pc' := 55) hX dX6_squeakOf_54 rfl rfl ?_
  refine r_bipush (pc' := 57) (v := nI 100) hX dX6_squeakOf_55 rfl rfl ?_
  refine r_irem_N (pc' := 58) hX dX6_squeakOf_57 (by omega) (by omega) (by omega) rfl ?_
  exact r_ireturn hX hE dX6_squeakOf_58 rfl ⟨rfl, rfl⟩ (by decide) (by decide)

set_option maxRecDepth 20000 in
set_option maxHeartbeats 4000000 in
theorem cM_sampled {l : Launch} {D : va_G} {cy : Nat → ClassId} {sa : Nat → Nat} {ma : Nat → Nat} {r : Nat → Nat} {e : Nat → Int32} {g bf hy sv bu le : Nat → Nat} {pa : Nat → Int32} {v : SV} (hv : Wf v) (hR : Rr v g) {i : Nat} (hi : i < v 0 4) : MG l yX6_sampled cX6_sampled 2 (some .int) 0 0 0 (D, cy, sa) [.ref (ma 0), .int (nI i)] (wM cy ma r e g bf hy sv bu le pa) (fun w u => w = some (.int (nI (cG (v (21 + i)) (v 0 3) 99 (v (13 + i) 2)))) ∧ u = wM cy ma r e g bf hy sv bu le pa) := by
  have hv0 := hv
  obtain ⟨wa, wm, wb, ws, wt, wc, wB, wR, wL, wK, wP⟩ := hv
  refine MG_by (own := RX6) (L := [some (.ref (ma 0)), some (.int (nI i))]) (by decide +kernel) rfl rfl (Nat.le_of_ble_eq_true rfl) 0 rfl (fun X hX hE hnL hG hcy hnm => ?_)
  obtain ⟨bz, -, -, -, -, bq⟩ := wB i hi
  refine r_aload_n (pc' := 1) hX dX6_sampled_0 rfl rfl ?_
  refine r_get (pc' := 4) (v := .ref (ma 1)) hX dX6_sampled_1 f_X6_7 0 rfl rfl rfl ?_
  refine r_bipush (pc' := 6) (v := nI 63) hX dX6_sampled_4 rfl rfl ?_
  refine r_iload_n (pc' := 7) hX dX6_sampled_6 rfl rfl ?_
  refine r_iadd_N (pc' := 8) hX dX6_sampled_7  rfl ?_
  refine r_iald_N (pc' := 9) hX dX6_sampled_8 (by rw [hcy]) 1 rfl (by omega) (by decide) rfl ?_
  change V X 0 0 (wM cy ma r e g bf hy sv bu le pa) [some (.ref (ma 0)), some (.int (nI i))] [.int (nI (g (63 + i)))] 9
  rw [(hR.man (by omega))]
  refine r_aload_n (pc' := 10) hX dX6_sampled_9 rfl rfl ?_
  refine r_get (pc' := 13) (v := .ref (ma 1)) hX dX6_sampled_10 f_X6_7 0 rfl rfl rfl ?_
  refine r_iconst (pc' := 14) (v := nI 4) hX dX6_sampled_13 rfl rfl ?_
  refine r_iald_N (pc' := 15) hX dX6_sampled_14 (by rw [hcy]) 1 rfl (by omega) (by decide) rfl ?_
  change V X 0 0 (wM cy ma r e g bf hy sv bu le pa) [some (.ref (ma 0)), some (.int (nI i))] [.int (nI (g 4)), .int (nI (v (13 + i) 2))] 15
  rw [hR.stp]
  refine r_iadd_N (pc' := 16) hX dX6_sampled_15  rfl ?_
  refine r_iconst (pc' := 17) (v := nI 1) hX dX6_sampled_16 rfl rfl ?_
  refine r_isub_N (pc' := 18) hX dX6_sampled_17 (by omega) rfl ?_
  refine r_aload_n (pc' := 19) hX dX6_sampled_18 rfl rfl ?_
  refine r_get (pc' := 22) (v := .ref (ma 1)) hX dX6_sampled_19 f_X6_7 0 rfl rfl rfl ?_
  refine r_iconst (pc' := 23) (v := nI 4) hX dX6_sampled_22 rfl rfl ?_
  refine r_iald_N (pc' := 24) hX dX6_sampled_23 (by rw [hcy]) 1 rfl (by omega) (by decide) rfl ?_
  change V X 0 0 (wM cy ma r e g bf hy sv bu le pa) [some (.ref (ma 0)), some (.int (nI i))] [.int (nI (g 4)), .int (nI (((v (13 + i) 2) + (v 0 3)) - 1))] 24
  rw [hR.stp]
  refine r_idiv_N (pc' := 25) hX dX6_sampled_24 (by omega) (by omega) (by omega) rfl ?_
  exact r_ireturn hX hE dX6_sampled_25 rfl ⟨rN (by rw [cG_all bq, smp_eq (by omega) (by omega) (by omega)]), rfl⟩ (by decide) (by decide)

set_option maxRecDepth 20000 in
set_option maxHeartbeats 4000000 in
theorem cM_goodOnes {l : Launch} {D : va_G} {cy : Nat → ClassId} {sa : Nat → Nat} {ma : Nat → Nat} {r : Nat → Nat} {e : Nat → Int32} {g bf hy sv bu le : Nat → Nat} {pa : Nat → Int32} {v : SV} (hv : Wf v) (hR : Rr v g) {i t : Nat} (hi : i < v 0 4) (ht : t ≤ 99) : MG l yX6_goodOnes cX6_goodOnes 5 (some .int) 1 0 0 (D, cy, sa) [.ref (ma 0), .int (nI i), .int (nI t)] (wM cy ma r e g bf hy sv bu le pa) (fun w u => w = some (.int (nI (cG (v (21 + i)) (v 0 3) t (v (13 + i) 2)))) ∧ u = wM cy ma r e g bf hy sv bu le pa) := by
  have hv0 := hv
  obtain ⟨wa, wm, wb, ws, wt, wc, wB, wR, wL, wK, wP⟩ := hv
  refine MG_by (own := RX6) (L := [some (.ref (ma 0)), some (.int (nI i)), some (.int (nI t)), none, none]) (by decide +kernel) rfl rfl (Nat.le_of_ble_eq_true rfl) 2 rfl (fun X hX hE hnL hG hcy hnm => ?_)
  obtain ⟨bz, -, -, -, -, bq⟩ := wB i hi
  refine r_iconst (pc' := 1) (v := nI 0) hX dX6_goodOnes_0 rfl rfl ?_
  refine r_istore_n (L' := [some (.ref (ma 0)), some (.int (nI i)), some (.int (nI t)), some (.int (nI 0)), none]) (pc' := 2) hX dX6_goodOnes_1 (nlt hnL (by decide)) rfl rfl rfl ?_
  refine r_iconst (pc' := 3) (v := nI 0) hX dX6_goodOnes_2 rfl rfl ?_
  refine r_istore (L' := [some (.ref (ma 0)), some (.int (nI i)), some (.int (nI t)), some (.int (nI 0)), some (.int (nI 0))]) (pc' := 5) hX dX6_goodOnes_3 (nlt hnL (by decide)) rfl rfl rfl ?_
  have loop5 : ∀ (n9 : Nat) (k : Nat) (c : Nat), 20 - k < n9 → (k < v (13 + i) 2 + v 0 3) → (k % v 0 3 = 0) → (c = cG (v (21 + i)) (v 0 3) t (min k (v (13 + i) 2))) → (c ≤ k) → V X 0 0 (wM cy ma r e g bf hy sv bu le pa) [some (.ref (ma 0)), some (.int (nI i)), some (.int (nI t)), some (.int (nI c)), some (.int (nI k))] [] 5 := by
    intro n9
    induction n9 with
    | zero => intro k c hm; exact absurd hm (Nat.not_lt_zero _)
    | succ n9 ih5 =>
      intro k c hm hk hm hc hb
      refine r_iload (pc' := 7) hX dX6_goodOnes_5 rfl rfl ?_
      refine r_aload_n (pc' := 8) hX dX6_goodOnes_7 rfl rfl ?_
      refine r_get (pc' := 11) (v := .ref (ma 1)) hX dX6_goodOnes_8 f_X6_7 0 rfl rfl rfl ?_
      refine r_bipush (pc' := 13) (v := nI 63) hX dX6_goodOnes_11 rfl rfl ?_
      refine r_iload_n (pc' := 14) hX dX6_goodOnes_13 rfl rfl ?_
      refine r_iadd_N (pc' := 15) hX dX6_goodOnes_14  rfl ?_
      refine r_iald_N (pc' := 16) hX dX6_goodOnes_15 (by rw [hcy]) 1 rfl (by omega) (by decide) rfl ?_
      change V X 0 0 (wM cy ma r e g bf hy sv bu le pa) [some (.ref (ma 0)), some (.int (nI i)), some (.int (nI t)), some (.int (nI c)), some (.int (nI k))] [.int (nI (g (63 + i))), .int (nI k)] 16
      rw [(hR.man (by omega))]
      refine r_icmp_ge_N (tgt := 52) (pc' := 19) hX dX6_goodOnes_16 (by decide) rfl (by omega) (by omega) (fun c16 => ?_) (fun c16 => ?_)
      · refine r_iload_n (pc' := 53) hX dX6_goodOnes_52 rfl rfl ?_
        exact r_ireturn hX hE dX6_goodOnes_53 rfl ⟨rN (by rw [hc, show min k (v (13 + i) 2) = v (13 + i) 2 by omega]), rfl⟩ (by decide) (by decide)
      · have hqi := bq k c16
        refine r_iload_n (pc' := 20) hX dX6_goodOnes_19 rfl rfl ?_
        refine r_aload_n (pc' := 21) hX dX6_goodOnes_20 rfl rfl ?_
        refine r_iload_n (pc' := 22) hX dX6_goodOnes_21 rfl rfl ?_
        refine r_iload (pc' := 24) hX dX6_goodOnes_22 rfl rfl ?_
        refine V_call0 (k' := 0) (n' := 0) (pc' := 27) hX (r_runV (As := [.int (nI i), .int (nI k)]) hX dX6_goodOnes_24 k_X6_57 (fun l9 hl9 => cM_squeakAt hv0 hR (by omega) (by omega)) hG ⟨8, _, TX6, 16, List.mem_cons_self, rfl⟩ rfl rfl (Nat.le_of_ble_eq_true rfl) (by decide) (by decide) (by decide) (by decide)) rfl rfl rfl (fun w9 u9 hp9 => ?_)
        obtain ⟨rfl, rfl⟩ := hp9
        change V X 0 0 (wM cy ma r e g bf hy sv bu le pa) [some (.ref (ma 0)), some (.int (nI i)), some (.int (nI t)), some (.int (nI c)), some (.int (nI k))] [.int (nI (v (21 + i) k)), .int (nI c)] 27
        refine r_iload_n (pc' := 28) hX dX6_goodOnes_27 rfl rfl ?_
        refine r_icmp_gt_N (tgt := 35) (pc' := 31) hX dX6_goodOnes_28 (by decide) rfl (by omega) (by omega) (fun c28 => ?_) (fun c28 => ?_)
        · refine r_iconst (pc' := 36) (v := nI 0) hX dX6_goodOnes_35 rfl rfl ?_
          refine r_iadd_N (pc' := 37) hX dX6_goodOnes_36  rfl ?_
          refine r_istore_n (L' := [some (.ref (ma 0)), some (.int (nI i)), some (.int (nI t)), some (.int (nI (c + 0))), some (.int (nI k))]) (pc' := 38) hX dX6_goodOnes_37 (nlt hnL (by decide)) rfl rfl rfl ?_
          refine r_iload (pc' := 40) hX dX6_goodOnes_38 rfl rfl ?_
          refine r_aload_n (pc' := 41) hX dX6_goodOnes_40 rfl rfl ?_
          refine r_get (pc' := 44) (v := .ref (ma 1)) hX dX6_goodOnes_41 f_X6_7 0 rfl rfl rfl ?_
          refine r_iconst (pc' := 45) (v := nI 4) hX dX6_goodOnes_44 rfl rfl ?_
          refine r_iald_N (pc' := 46) hX dX6_goodOnes_45 (by rw [hcy]) 1 rfl (by omega) (by decide) rfl ?_
          change V X 0 0 (wM cy ma r e g bf hy sv bu le pa) [some (.ref (ma 0)), some (.int (nI i)), some (.int (nI t)), some (.int (nI (c + 0))), some (.int (nI k))] [.int (nI (g 4)), .int (nI k)] 46
          rw [hR.stp]
          refine r_iadd_N (pc' := 47) hX dX6_goodOnes_46  rfl ?_
          refine r_istore (L' := [some (.ref (ma 0)), some (.int (nI i)), some (.int (nI t)), some (.int (nI (c + 0))), some (.int (nI (k + (v 0 3))))]) (pc' := 49) hX dX6_goodOnes_47 (nlt hnL (by decide)) rfl rfl rfl ?_
          refine r_goto (tgt := 5) hX dX6_goodOnes_49 (by decide) ?_
          have e8 : cG (v (21 + i)) (v 0 3) t (min (k + v 0 3) (v (13 + i) 2)) = cG (v (21 + i)) (v 0 3) t (k + 1) := cG_min hm (by omega) (by omega)
          have e7 : min k (v (13 + i) 2) = k := by omega
          exact ih5 (k + (v 0 3)) (c + 0) (by omega) (by omega) (by rw [Nat.add_mod_right]; exact hm) (by rw [e8, cG_succ, hc, e7]; split <;> omega) (by omega)
        · refine r_iconst (pc' := 32) (v := nI 1) hX dX6_goodOnes_31 rfl rfl ?_
          refine r_goto (tgt := 36) hX dX6_goodOnes_32 (by decide) ?_
          refine r_iadd_N (pc' := 37) hX dX6_goodOnes_36  rfl ?_
          refine r_istore_n (L' := [some (.ref (ma 0)), some (.int (nI i)), some (.int (nI t)), some (.int (nI (c + 1))), some (.int (nI k))]) (pc' := 38) hX dX6_goodOnes_37 (nlt hnL (by decide)) rfl rfl rfl ?_
          refine r_iload (pc' := 40) hX dX6_goodOnes_38 rfl rfl ?_
          refine r_aload_n (pc' := 41) hX dX6_goodOnes_40 rfl rfl ?_
          refine r_get (pc' := 44) (v := .ref (ma 1)) hX dX6_goodOnes_41 f_X6_7 0 rfl rfl rfl ?_
          refine r_iconst (pc' := 45) (v := nI 4) hX dX6_goodOnes_44 rfl rfl ?_
          refine r_iald_N (pc' := 46) hX dX6_goodOnes_45 (by rw [hcy]) 1 rfl (by omega) (by decide) rfl ?_
          change V X 0 0 (wM cy ma r e g bf hy sv bu le pa) [some (.ref (ma 0)), some (.int (nI i)), some (.int (nI t)), some (.int (nI (c + 1))), some (.int (nI k))] [.int (nI (g 4)), .int (nI k)] 46
          rw [hR.stp]
          refine r_iadd_N (pc' := 47) hX dX6_goodOnes_46  rfl ?_
          refine r_istore (L' := [some (.ref (ma 0)), some (.int (nI i)), some (.int (nI t)), some (.int (nI (c + 1))), some (.int (nI (k + (v 0 3))))]) (pc' := 49) hX dX6_goodOnes_47 (nlt hnL (by decide)) rfl rfl rfl ?_
          refine r_goto (tgt := 5) hX dX6_goodOnes_49 (by decide) ?_
          have e8 : cG (v (21 + i)) (v 0 3) t (min (k + v 0 3) (v (13 + i) 2)) = cG (v (21 + i)) (v 0 3) t (k + 1) := cG_min hm (by omega) (by omega)
          have e7 : min k (v (13 + i) 2) = k := by omega
          exact ih5 (k + (v 0 3)) (c + 1) (by omega) (by omega) (by rw [Nat.add_mod_right]; exact hm) (by rw [e8, cG_succ, hc, e7]; split <;> omega) (by omega)
  exact loop5 _ 0 0 (Nat.lt_succ_self _) (by omega) (Nat.zero_mod _) (by rw [Nat.zero_min]; rfl) (by omega)

set_option maxRecDepth 20000 in
set_option maxHeartbeats 4000000 in
theorem cM_passes {l : Launch} {D : va_G} {cy : Nat → ClassId} {sa : Nat → Nat} {ma : Nat → Nat} {r : Nat → Nat} {e : Nat → Int32} {g bf hy sv bu le : Nat → Nat} {pa : Nat → Int32} {v : SV} (hv : Wf v) (hR : Rr v g) {i t : Nat} (hi : i < v 0 4) (ht : t ≤ 99) : MG l yX6_passes cX6_passes 3 (some .boolean) 2 0 0 (D, cy, sa) [.ref (ma 0), .int (nI i), .int (nI t)] (wM cy ma r e g bf hy sv bu le pa) (fun w u => w = some (.int (bI (pas (v (21 + i)) (v (13 + i) 2) (v 0 3) t))) ∧ u = wM cy ma r e g bf hy sv bu le pa) := by
  have hv0 := hv
  obtain ⟨wa, wm, wb, ws, wt, wc, wB, wR, wL, wK, wP⟩ := hv
  refine MG_by (own := RX6) (L := [some (.ref (ma 0)), some (.int (nI i)), some (.int (nI t))]) (by decide +kernel) rfl rfl (Nat.le_of_ble_eq_true rfl) 0 rfl (fun X hX hE hnL hG hcy hnm => ?_)
  obtain ⟨bz, -, -, -, -, bq⟩ := wB i hi
  have e1 := cG_le (sq := v (21 + i)) (s := v 0 3) (t := t) (v (13 + i) 2)
  have e2 := cG_le (sq := v (21 + i)) (s := v 0 3) (t := 99) (v (13 + i) 2)
  refine r_iconst (pc' := 1) (v := nI 2) hX dX6_passes_0 rfl rfl ?_
  refine r_aload_n (pc' := 2) hX dX6_passes_1 rfl rfl ?_
  refine r_iload_n (pc' := 3) hX dX6_passes_2 rfl rfl ?_
  refine r_iload_n (pc' := 4) hX dX6_passes_3 rfl rfl ?_
  refine V_call0 (k' := 0) (n' := 0) (pc' := 7) hX (r_runV (As := [.int (nI i), .int (nI t)]) hX dX6_passes_4 k_X6_60 (fun l9 hl9 => cM_goodOnes hv0 hR (by omega) (by omega)) hG ⟨8, _, TX6, 16, List.mem_cons_self, rfl⟩ rfl rfl (Nat.le_of_ble_eq_true rfl) (by decide) (by decide) (by decide) (by decide)) rfl rfl rfl (fun w9 u9 hp9 => ?_)
  obtain ⟨rfl, rfl⟩ := hp9
  change V X 0 0 (wM cy ma r e g bf hy sv bu le pa) [some (.ref (ma 0)), some (.int (nI i)), some (.int (nI t))] [.int (nI (cG (v (21 + i)) (v 0 3) t (v (13 + i) 2))), .int (nI 2)] 7
  refine r_imul_N (pc' := 8) hX dX6_passes_7  rfl ?_
  refine r_aload_n (pc' := 9) hX dX6_passes_8 rfl rfl ?_
  refine r_iload_n (pc' := 10) hX dX6_passes_9 rfl rfl ?_
  refine V_call0 (k' := 0) (n' := 0) (pc' := 13) hX (r_runV (As := [.int (nI i)]) hX dX6_passes_10 k_X6_63 (fun l9 hl9 => cM_sampled hv0 hR (by omega)) hG ⟨8, _, TX6, 16, List.mem_cons_self, rfl⟩ rfl rfl (Nat.le_of_ble_eq_true rfl) (by decide) (by decide) (by decide) (by decide)) rfl rfl rfl (fun w9 u9 hp9 => ?_)
  obtain ⟨rfl, rfl⟩ := hp9
  change V X 0 0 (wM cy ma r e g bf hy sv bu le pa) [some (.ref (ma 0)), some (.int (nI i)), some (.int (nI t))] [.int (nI (cG (v (21 + i)) (v 0 3) 99 (v (13 + i) 2))), .int (nI (2 * (cG (v (21 + i)) (v 0 3) t (v (13 + i) 2))))] 13
  refine r_icmp_le_N (tgt := 20) (pc' := 16) hX dX6_passes_13 (by decide) rfl (by omega) (by omega) (fun c13 => ?_) (fun c13 => ?_)
  · refine r_iconst (pc' := 21) (v := nI 0) hX dX6_passes_20 rfl rfl ?_
    exact r_zreturn hX hE dX6_passes_21 rfl rfl ⟨rB0 (by unfold pas; omega), rfl⟩ (by decide) (by decide)
  · refine r_iconst (pc' := 17) (v := nI 1) hX dX6_passes_16 rfl rfl ?_
    refine r_goto (tgt := 21) hX dX6_passes_17 (by decide) ?_
    exact r_zreturn hX hE dX6_passes_21 rfl rfl ⟨rB1 (by unfold pas; omega), rfl⟩ (by decide) (by decide)

set_option maxRecDepth 20000 in
set_option maxHeartbeats 4000000 in
theorem cM_sumOf {l : Launch} {D : va_G} {cy : Nat → ClassId} {sa : Nat → Nat} {ma : Nat → Nat} {r : Nat → Nat} {e : Nat → Int32} {g bf hy sv bu le : Nat → Nat} {pa : Nat → Int32} {v : SV} (hv : Wf v) (hR : Rr v g) {i : Nat} (hi : i < v 0 4) : MG l yX6_sumOf cX6_sumOf 4 (some .int) 1 0 0 (D, cy, sa) [.ref (ma 0), .int (nI i)] (wM cy ma r e g bf hy sv bu le pa) (fun w u => w = some (.int (nI (sumB v i))) ∧ u = wM cy ma r e g bf hy sv bu le pa) := by
  have hv0 := hv
  obtain ⟨wa, wm, wb, ws, wt, wc, wB, wR, wL, wK, wP⟩ := hv
  refine MG_by (own := RX6) (L := [some (.ref (ma 0)), some (.int (nI i)), none, none]) (by decide +kernel) rfl rfl (Nat.le_of_ble_eq_true rfl) 2 rfl (fun X hX hE hnL hG hcy hnm => ?_)
  obtain ⟨bz, -, -, -, -, bq⟩ := wB i hi
  refine r_iconst (pc' := 1) (v := nI 0) hX dX6_sumOf_0 rfl rfl ?_
  refine r_istore_n (L' := [some (.ref (ma 0)), some (.int (nI i)), some (.int (nI 0)), none]) (pc' := 2) hX dX6_sumOf_1 (nlt hnL (by decide)) rfl rfl rfl ?_
  refine r_iconst (pc' := 3) (v := nI 0) hX dX6_sumOf_2 rfl rfl ?_
  refine r_istore_n (L' := [some (.ref (ma 0)), some (.int (nI i)), some (.int (nI 0)), some (.int (nI 0))]) (pc' := 4) hX dX6_sumOf_3 (nlt hnL (by decide)) rfl rfl rfl ?_
  have loop4 : ∀ (n9 : Nat) (k : Nat) (z : Nat), v (13 + i) 2 - k < n9 → (k ≤ v (13 + i) 2) → (z = sumT (v (21 + i)) k) → V X 0 0 (wM cy ma r e g bf hy sv bu le pa) [some (.ref (ma 0)), some (.int (nI i)), some (.int (nI z)), some (.int (nI k))] [] 4 := by
    intro n9
    induction n9 with
    | zero => intro k z hm; exact absurd hm (Nat.not_lt_zero _)
    | succ n9 ih4 =>
      intro k z hm hk hz
      refine r_iload_n (pc' := 5) hX dX6_sumOf_4 rfl rfl ?_
      refine r_aload_n (pc' := 6) hX dX6_sumOf_5 rfl rfl ?_
      refine r_get (pc' := 9) (v := .ref (ma 1)) hX dX6_sumOf_6 f_X6_7 0 rfl rfl rfl ?_
      refine r_bipush (pc' := 11) (v := nI 63) hX dX6_sumOf_9 rfl rfl ?_
      refine r_iload_n (pc' := 12) hX dX6_sumOf_11 rfl rfl ?_
      refine r_iadd_N (pc' := 13) hX dX6_sumOf_12  rfl ?_
      refine r_iald_N (pc' := 14) hX dX6_sumOf_13 (by rw [hcy]) 1 rfl (by omega) (by decide) rfl ?_
      change V X 0 0 (wM cy ma r e g bf hy sv bu le pa) [some (.ref (ma 0)), some (.int (nI i)), some (.int (nI z)), some (.int (nI k))] [.int (nI (g (63 + i))), .int (nI k)] 14
      rw [(hR.man (by omega))]
      refine r_icmp_ge_N (tgt := 32) (pc' := 17) hX dX6_sumOf_14 (by decide) rfl (by omega) (by omega) (fun c14 => ?_) (fun c14 => ?_)
      · refine r_iload_n (pc' := 33) hX dX6_sumOf_32 rfl rfl ?_
        exact r_ireturn hX hE dX6_sumOf_33 rfl ⟨rN (by rw [hz, show k = v (13 + i) 2 by omega]; rfl), rfl⟩ (by decide) (by decide)
      · refine r_iload_n (pc' := 18) hX dX6_sumOf_17 rfl rfl ?_
        refine r_aload_n (pc' := 19) hX dX6_sumOf_18 rfl rfl ?_
        refine r_iload_n (pc' := 20) hX dX6_sumOf_19 rfl rfl ?_
        refine r_iload_n (pc' := 21) hX dX6_sumOf_20 rfl rfl ?_
        refine V_call0 (k' := 0) (n' := 0) (pc' := 24) hX (r_runV (As := [.int (nI i), .int (nI k)]) hX dX6_sumOf_21 k_X6_57 (fun l9 hl9 => cM_squeakAt hv0 hR (by omega) (by omega)) hG ⟨8, _, TX6, 16, List.mem_cons_self, rfl⟩ rfl rfl (Nat.le_of_ble_eq_true rfl) (by decide) (by decide) (by decide) (by decide)) rfl rfl rfl (fun w9 u9 hp9 => ?_)
        obtain ⟨rfl, rfl⟩ := hp9
        change V X 0 0 (wM cy ma r e g bf hy sv bu le pa) [some (.ref (ma 0)), some (.int (nI i)), some (.int (nI z)), some (.int (nI k))] [.int (nI (v (21 + i) k)), .int (nI z)] 24
        refine r_iadd_N (pc' := 25) hX dX6_sumOf_24  rfl ?_
        refine r_istore_n (L' := [some (.ref (ma 0)), some (.int (nI i)), some (.int (nI (z + (v (21 + i) k)))), some (.int (nI k))]) (pc' := 26) hX dX6_sumOf_25 (nlt hnL (by decide)) rfl rfl rfl ?_
        refine r_iinc_N (b := 1) (L' := [some (.ref (ma 0)), some (.int (nI i)), some (.int (nI (z + (v (21 + i) k)))), some (.int (nI (k + 1)))]) (pc' := 29) hX dX6_sumOf_26 rfl (nlt hnL (by decide)) rfl rfl rfl ?_
        refine r_goto (tgt := 4) hX dX6_sumOf_29 (by decide) ?_
        exact ih4 (k + 1) (z + (v (21 + i) k)) (by omega) (by omega) (by rw [hz]; rfl)
  exact loop4 _ 0 0 (Nat.lt_succ_self _) (by omega) rfl
