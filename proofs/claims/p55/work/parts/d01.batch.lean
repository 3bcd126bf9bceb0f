/-! ===== Batch ===== -/
set_option maxRecDepth 20000 in
set_option maxHeartbeats 4000000 in
theorem cB_contains {l : Launch} {D : va_G} {cy : Nat → ClassId} {sa : Nat → Nat} {a q : Nat} {b sq : Nat → Nat} {x : Int32} (h1 : b 1 < 1000000000) (h2 : b 2 ≤ 9) : MG l yX1_contains cX1_contains 2 (some .boolean) 0 0 0 (D, cy, sa) [.ref a, .int x] (wBat cy a q b sq) (fun w u => w = some (.int (bI ((b 1 : Int) ≤ x.toInt ∧ x.toInt < (b 1 : Int) + (b 2 : Int)))) ∧ u = wBat cy a q b sq) := by
  refine MG_by (own := RX1) (L := [some (.ref a), some (.int x)]) (by decide +kernel) rfl rfl (Nat.le_of_ble_eq_true rfl) 0 rfl (fun X hX hE hnL hG hcy hnm => ?_)
  refine r_iload_n (pc' := 1) hX dX1_contains_0 rfl rfl ?_
  refine r_aload_n (pc' := 2) hX dX1_contains_1 rfl rfl ?_
  refine r_get (pc' := 5) (v := .int (nI (b 1))) hX dX1_contains_2 f_X1_15 0 rfl rfl rfl ?_
  refine r_icmp_lt_I (tgt := 25) (pc' := 8) hX dX1_contains_5 (by decide) rfl rfl (nI_I (by omega)) (fun c5 => ?_) (fun c5 => ?_)
  · refine r_iconst (pc' := 26) (v := nI 0) hX dX1_contains_25 rfl rfl ?_
    exact r_zreturn hX hE dX1_contains_26 rfl rfl ⟨rB0 (by omega), rfl⟩ (by decide) (by decide)
  · refine r_iload_n (pc' := 9) hX dX1_contains_8 rfl rfl ?_
    refine r_aload_n (pc' := 10) hX dX1_contains_9 rfl rfl ?_
    refine r_get (pc' := 13) (v := .int (nI (b 1))) hX dX1_contains_10 f_X1_15 0 rfl rfl rfl ?_
    refine r_aload_n (pc' := 14) hX dX1_contains_13 rfl rfl ?_
    refine r_get (pc' := 17) (v := .int (nI (b 2))) hX dX1_contains_14 f_X1_18 0 rfl rfl rfl ?_
    refine r_iadd_N (pc' := 18) hX dX1_contains_17  rfl ?_
    refine r_icmp_ge_I (tgt := 25) (pc' := 21) hX dX1_contains_18 (by decide) rfl rfl (nI_I (by omega)) (fun c18 => ?_) (fun c18 => ?_)
    · refine r_iconst (pc' := 26) (v := nI 0) hX dX1_contains_25 rfl rfl ?_
      exact r_zreturn hX hE dX1_contains_26 rfl rfl ⟨rB0 (by omega), rfl⟩ (by decide) (by decide)
    · refine r_iconst (pc' := 22) (v := nI 1) hX dX1_contains_21 rfl rfl ?_
      refine r_goto (tgt := 26) hX dX1_contains_22 (by decide) ?_
      exact r_zreturn hX hE dX1_contains_26 rfl rfl ⟨rB1 (by omega), rfl⟩ (by decide) (by decide)

set_option maxRecDepth 20000 in
set_option maxHeartbeats 4000000 in
theorem cB_goodSampled {l : Launch} {D : va_G} {cy : Nat → ClassId} {sa : Nat → Nat} {a q : Nat} {b sq : Nat → Nat} {s t : Nat} (h2 : b 2 ≤ 9) (hs : 1 ≤ s ∧ s ≤ 5) (ht : t ≤ 99) (hq : ∀ j, j < b 2 → sq j ≤ 99) : MG l yX1_goodSampled cX1_goodSampled 6 (some .int) 0 0 0 (D, cy, sa) [.ref a, .int (nI s), .int (nI t)] (wBat cy a q b sq) (fun w u => w = some (.int (nI (cG sq s t (b 2)))) ∧ u = wBat cy a q b sq) := by
  refine MG_by (own := RX1) (L := [some (.ref a), some (.int (nI s)), some (.int (nI t)), none, none, none]) (by decide +kernel) rfl rfl (Nat.le_of_ble_eq_true rfl) 3 rfl (fun X hX hE hnL hG hcy hnm => ?_)
  refine r_iconst (pc' := 1) (v := nI 0) hX dX1_goodSampled_0 rfl rfl ?_
  refine r_istore_n (L' := [some (.ref a), some (.int (nI s)), some (.int (nI t)), some (.int (nI 0)), none, none]) (pc' := 2) hX dX1_goodSampled_1 (nlt hnL (by decide)) rfl rfl rfl ?_
  refine r_iconst (pc' := 3) (v := nI 0) hX dX1_goodSampled_2 rfl rfl ?_
  refine r_istore (L' := [some (.ref a), some (.int (nI s)), some (.int (nI t)), some (.int (nI 0)), some (.int (nI 0)), none]) (pc' := 5) hX dX1_goodSampled_3 (nlt hnL (by decide)) rfl rfl rfl ?_
  refine r_iconst (pc' := 6) (v := nI 0) hX dX1_goodSampled_5 rfl rfl ?_
  refine r_istore (L' := [some (.ref a), some (.int (nI s)), some (.int (nI t)), some (.int (nI 0)), some (.int (nI 0)), some (.int (nI 0))]) (pc' := 8) hX dX1_goodSampled_6 (nlt hnL (by decide)) rfl rfl rfl ?_
  have loop8 : ∀ (n9 : Nat) (i : Nat) (g : Nat) (nx : Nat), b 2 - i < n9 → (i ≤ b 2) → (g = cG sq s t i) → (nx % s = 0) → (i ≤ nx) → (nx < i + s) → V X 0 0 (wBat cy a q b sq) [some (.ref a), some (.int (nI s)), some (.int (nI t)), some (.int (nI g)), some (.int (nI nx)), some (.int (nI i))] [] 8 := by
    intro n9
    induction n9 with
    | zero => intro i g nx hm; exact absurd hm (Nat.not_lt_zero _)
    | succ n9 ih8 =>
      intro i g nx hm hi hg n1 n2 n3
      refine r_iload (pc' := 10) hX dX1_goodSampled_8 rfl rfl ?_
      refine r_aload_n (pc' := 11) hX dX1_goodSampled_10 rfl rfl ?_
      refine r_get (pc' := 14) (v := .int (nI (b 2))) hX dX1_goodSampled_11 f_X1_18 0 rfl rfl rfl ?_
      refine r_icmp_ge_N (tgt := 55) (pc' := 17) hX dX1_goodSampled_14 (by decide) rfl (by omega) (by omega) (fun c14 => ?_) (fun c14 => ?_)
      · refine r_iload_n (pc' := 56) hX dX1_goodSampled_55 rfl rfl ?_
        exact r_ireturn hX hE dX1_goodSampled_56 rfl ⟨rN (by rw [hg, show i = b 2 by omega]), rfl⟩ (by decide) (by decide)
      · have hm := nx_eq n1 n2 n3
        refine r_iload (pc' := 19) hX dX1_goodSampled_17 rfl rfl ?_
        refine r_iload (pc' := 21) hX dX1_goodSampled_19 rfl rfl ?_
        refine r_icmp_ne_N (tgt := 49) (pc' := 24) hX dX1_goodSampled_21 (by decide) rfl (by omega) (by omega) (fun c21 => ?_) (fun c21 => ?_)
        · refine r_iinc_N (b := 1) (L' := [some (.ref a), some (.int (nI s)), some (.int (nI t)), some (.int (nI g)), some (.int (nI nx)), some (.int (nI (i + 1)))]) (pc' := 52) hX dX1_goodSampled_49 rfl (nlt hnL (by decide)) rfl rfl rfl ?_
          refine r_goto (tgt := 8) hX dX1_goodSampled_52 (by decide) ?_
          exact ih8 (i + 1) g nx (by omega) (by omega) (by rw [cG_succ]; split <;> omega) (by first | assumption | (rw [Nat.add_mod_right]; assumption)) (by omega) (by omega)
        · have hqi := hq i (by omega)
          refine r_iload (pc' := 26) hX dX1_goodSampled_24 rfl rfl ?_
          refine r_iload_n (pc' := 27) hX dX1_goodSampled_26 rfl rfl ?_
          refine r_iadd_N (pc' := 28) hX dX1_goodSampled_27  rfl ?_
          refine r_istore (L' := [some (.ref a), some (.int (nI s)), some (.int (nI t)), some (.int (nI g)), some (.int (nI (nx + s))), some (.int (nI i))]) (pc' := 30) hX dX1_goodSampled_28 (nlt hnL (by decide)) rfl rfl rfl ?_
          refine r_iload_n (pc' := 31) hX dX1_goodSampled_30 rfl rfl ?_
          refine r_aload_n (pc' := 32) hX dX1_goodSampled_31 rfl rfl ?_
          refine r_get (pc' := 35) (v := .ref q) hX dX1_goodSampled_32 f_X1_28 0 rfl rfl rfl ?_
          refine r_iload (pc' := 37) hX dX1_goodSampled_35 rfl rfl ?_
          refine r_iald_N (pc' := 38) hX dX1_goodSampled_37 (by rw [hcy]) 1 rfl (by omega) (by decide) rfl ?_
          change V X 0 0 (wBat cy a q b sq) [some (.ref a), some (.int (nI s)), some (.int (nI t)), some (.int (nI g)), some (.int (nI (nx + s))), some (.int (nI i))] [.int (nI (sq i)), .int (nI g)] 38
          refine r_iload_n (pc' := 39) hX dX1_goodSampled_38 rfl rfl ?_
          refine r_icmp_gt_N (tgt := 46) (pc' := 42) hX dX1_goodSampled_39 (by decide) rfl (by omega) (by omega) (fun c39 => ?_) (fun c39 => ?_)
          · refine r_iconst (pc' := 47) (v := nI 0) hX dX1_goodSampled_46 rfl rfl ?_
            refine r_iadd_N (pc' := 48) hX dX1_goodSampled_47  rfl ?_
            refine r_istore_n (L' := [some (.ref a), some (.int (nI s)), some (.int (nI t)), some (.int (nI (g + 0))), some (.int (nI (nx + s))), some (.int (nI i))]) (pc' := 49) hX dX1_goodSampled_48 (nlt hnL (by decide)) rfl rfl rfl ?_
            refine r_iinc_N (b := 1) (L' := [some (.ref a), some (.int (nI s)), some (.int (nI t)), some (.int (nI (g + 0))), some (.int (nI (nx + s))), some (.int (nI (i + 1)))]) (pc' := 52) hX dX1_goodSampled_49 rfl (nlt hnL (by decide)) rfl rfl rfl ?_
            refine r_goto (tgt := 8) hX dX1_goodSampled_52 (by decide) ?_
            exact ih8 (i + 1) (g + 0) (nx + s) (by omega) (by omega) (by rw [cG_succ]; split <;> omega) (by first | assumption | (rw [Nat.add_mod_right]; assumption)) (by omega) (by omega)
          · refine r_iconst (pc' := 43) (v := nI 1) hX dX1_goodSampled_42 rfl rfl ?_
            refine r_goto (tgt := 47) hX dX1_goodSampled_43 (by decide) ?_
            refine r_iadd_N (pc' := 48) hX dX1_goodSampled_47  rfl ?_
            refine r_istore_n (L' := [some (.ref a), some (.int (nI s)), some (.int (nI t)), some (.int (nI (g + 1))), some (.int (nI (nx + s))), some (.int (nI i))]) (pc' := 49) hX dX1_goodSampled_48 (nlt hnL (by decide)) rfl rfl rfl ?_
            refine r_iinc_N (b := 1) (L' := [some (.ref a), some (.int (nI s)), some (.int (nI t)), some (.int (nI (g + 1))), some (.int (nI (nx + s))), some (.int (nI (i + 1)))]) (pc' := 52) hX dX1_goodSampled_49 rfl (nlt hnL (by decide)) rfl rfl rfl ?_
            refine r_goto (tgt := 8) hX dX1_goodSampled_52 (by decide) ?_
            exact ih8 (i + 1) (g + 1) (nx + s) (by omega) (by omega) (by rw [cG_succ]; split <;> omega) (by first | assumption | (rw [Nat.add_mod_right]; assumption)) (by omega) (by omega)
  exact loop8 _ 0 0 0 (Nat.lt_succ_self _) (by omega) rfl (Nat.zero_mod s) (by omega) (by omega)

set_option maxRecDepth 20000 in
set_option maxHeartbeats 4000000 in
theorem cB_sampled {l : Launch} {D : va_G} {cy : Nat → ClassId} {sa : Nat → Nat} {a q : Nat} {b sq : Nat → Nat} {s : Nat} (h2 : b 2 ≤ 9) (hs : 1 ≤ s ∧ s ≤ 5) (hq : ∀ j, j < b 2 → sq j ≤ 99) : MG l yX1_sampled cX1_sampled 2 (some .int) 1 0 0 (D, cy, sa) [.ref a, .int (nI s)] (wBat cy a q b sq) (fun w u => w = some (.int (nI (cG sq s 99 (b 2)))) ∧ u = wBat cy a q b sq) := by
  refine MG_by (own := RX1) (L := [some (.ref a), some (.int (nI s))]) (by decide +kernel) rfl rfl (Nat.le_of_ble_eq_true rfl) 0 rfl (fun X hX hE hnL hG hcy hnm => ?_)
  refine r_aload_n (pc' := 1) hX dX1_sampled_0 rfl rfl ?_
  refine r_iload_n (pc' := 2) hX dX1_sampled_1 rfl rfl ?_
  refine r_bipush (pc' := 4) (v := nI 99) hX dX1_sampled_2 rfl rfl ?_
  refine V_call0 (k' := 0) (n' := 0) (pc' := 7) hX (r_runV (As := [.int (nI s), .int (nI 99)]) hX dX1_sampled_4 k_X1_36 (fun l9 hl9 => cB_goodSampled (by omega) (by omega) (by omega) hq) hG ⟨4, _, TX1, 6, List.mem_cons_self, rfl⟩ rfl rfl (Nat.le_of_ble_eq_true rfl) (by decide) (by decide) (by decide) (by decide)) rfl rfl rfl (fun w9 u9 hp9 => ?_)
  obtain ⟨rfl, rfl⟩ := hp9
  change V X 0 0 (wBat cy a q b sq) [some (.ref a), some (.int (nI s))] [.int (nI (cG sq s 99 (b 2)))] 7
  exact r_ireturn hX hE dX1_sampled_7 rfl ⟨rfl, rfl⟩ (by decide) (by decide)

set_option maxRecDepth 20000 in
set_option maxHeartbeats 4000000 in
theorem cB_passes {l : Launch} {D : va_G} {cy : Nat → ClassId} {sa : Nat → Nat} {a q : Nat} {b sq : Nat → Nat} {s t : Nat} (h2 : b 2 ≤ 9) (hs : 1 ≤ s ∧ s ≤ 5) (ht : t ≤ 99) (hq : ∀ j, j < b 2 → sq j ≤ 99) : MG l yX1_passes cX1_passes 3 (some .boolean) 2 0 0 (D, cy, sa) [.ref a, .int (nI s), .int (nI t)] (wBat cy a q b sq) (fun w u => w = some (.int (bI (pas sq (b 2) s t))) ∧ u = wBat cy a q b sq) := by
  refine MG_by (own := RX1) (L := [some (.ref a), some (.int (nI s)), some (.int (nI t))]) (by decide +kernel) rfl rfl (Nat.le_of_ble_eq_true rfl) 0 rfl (fun X hX hE hnL hG hcy hnm => ?_)
  have e1 := cG_le (sq := sq) (s := s) (t := t) (b 2)
  have e2 := cG_le (sq := sq) (s := s) (t := 99) (b 2)
  refine r_iconst (pc' := 1) (v := nI 2) hX dX1_passes_0 rfl rfl ?_
  refine r_aload_n (pc' := 2) hX dX1_passes_1 rfl rfl ?_
  refine r_iload_n (pc' := 3) hX dX1_passes_2 rfl rfl ?_
  refine r_iload_n (pc' := 4) hX dX1_passes_3 rfl rfl ?_
  refine V_call0 (k' := 0) (n' := 0) (pc' := 7) hX (r_runV (As := [.int (nI s), .int (nI t)]) hX dX1_passes_4 k_X1_36 (fun l9 hl9 => cB_goodSampled (by omega) (by omega) (by omega) hq) hG ⟨4, _, TX1, 6, List.mem_cons_self, rfl⟩ rfl rfl (Nat.le_of_ble_eq_true rfl) (by decide) (by decide) (by decide) (by decide)) rfl rfl rfl (fun w9 u9 hp9 => ?_)
  obtain ⟨rfl, rfl⟩ := hp9
  change V X 0 0 (wBat cy a q b sq) [some (.ref a), some (.int (nI s)), some (.int (nI t))] [.int (nI (cG sq s t (b 2))), .int (nI 2)] 7
  refine r_imul_N (pc' := 8) hX dX1_passes_7  rfl ?_
  refine r_aload_n (pc' := 9) hX dX1_passes_8 rfl rfl ?_
  refine r_iload_n (pc' := 10) hX dX1_passes_9 rfl rfl ?_
  refine V_call0 (k' := 0) (n' := 0) (pc' := 13) hX (r_runV (As := [.int (nI s)]) hX dX1_passes_10 k_X1_40 (fun l9 hl9 => cB_sampled (by omega) (by omega) hq) hG ⟨4, _, TX1, 6, List.mem_cons_self, rfl⟩ rfl rfl (Nat.le_of_ble_eq_true rfl) (by decide) (by decide) (by decide) (by decide)) rfl rfl rfl (fun w9 u9 hp9 => ?_)
  obtain ⟨rfl, rfl⟩ := hp9
  change V X 0 0 (wBat cy a q b sq) [some (.ref a), some (.int (nI s)), some (.int (nI t))] [.int (nI (cG sq s 99 (b 2))), .int (nI (2 * (cG sq s t (b 2))))] 13
  refine r_icmp_le_N (tgt := 20) (pc' := 16) hX dX1_passes_13 (by decide) rfl (by omega) (by omega) (fun c13 => ?_) (fun c13 => ?_)
  · refine r_iconst (pc' := 21) (v := nI 0) hX dX1_passes_20 rfl rfl ?_
    exact r_zreturn hX hE dX1_passes_21 rfl rfl ⟨rB0 (by unfold pas; omega), rfl⟩ (by decide) (by decide)
  · refine r_iconst (pc' := 17) (v := nI 1) hX dX1_passes_16 rfl rfl ?_
    refine r_goto (tgt := 21) hX dX1_passes_17 (by decide) ?_
    exact r_zreturn hX hE dX1_passes_21 rfl rfl ⟨rB1 (by unfold pas; omega), rfl⟩ (by decide) (by decide)

set_option maxRecDepth 20000 in
set_option maxHeartbeats 4000000 in
theorem cB_lps {l : Launch} {D : va_G} {cy : Nat → ClassId} {sa : Nat → Nat} {a q : Nat} {b sq : Nat → Nat} {s : Nat} (h2 : b 2 ≤ 9) (hs : 1 ≤ s ∧ s ≤ 5) (hq : ∀ j, j < b 2 → sq j ≤ 99) : MG l yX1_leastPassingSqueak cX1_leastPassingSqueak 5 (some .int) 3 0 0 (D, cy, sa) [.ref a, .int (nI s)] (wBat cy a q b sq) (fun w u => w = some (.int (nI (lps sq (b 2) s (b 2)))) ∧ u = wBat cy a q b sq) := by
  refine MG_by (own := RX1) (L := [some (.ref a), some (.int (nI s)), none, none, none]) (by decide +kernel) rfl rfl (Nat.le_of_ble_eq_true rfl) 3 rfl (fun X hX hE hnL hG hcy hnm => ?_)
  refine r_bipush (pc' := 2) (v := nI 99) hX dX1_leastPassingSqueak_0 rfl rfl ?_
  refine r_istore_n (L' := [some (.ref a), some (.int (nI s)), some (.int (nI 99)), none, none]) (pc' := 3) hX dX1_leastPassingSqueak_2 (nlt hnL (by decide)) rfl rfl rfl ?_
  refine r_iconst (pc' := 4) (v := nI 0) hX dX1_leastPassingSqueak_3 rfl rfl ?_
  refine r_istore_n (L' := [some (.ref a), some (.int (nI s)), some (.int (nI 99)), some (.int (nI 0)), none]) (pc' := 5) hX dX1_leastPassingSqueak_4 (nlt hnL (by decide)) rfl rfl rfl ?_
  refine r_iconst (pc' := 6) (v := nI 0) hX dX1_leastPassingSqueak_5 rfl rfl ?_
  refine r_istore (L' := [some (.ref a), some (.int (nI s)), some (.int (nI 99)), some (.int (nI 0)), some (.int (nI 0))]) (pc' := 8) hX dX1_leastPassingSqueak_6 (nlt hnL (by decide)) rfl rfl rfl ?_
  have loop8 : ∀ (n9 : Nat) (i : Nat) (g : Nat) (nx : Nat), b 2 - i < n9 → (i ≤ b 2) → (g = lps sq (b 2) s i) → (nx % s = 0) → (i ≤ nx) → (nx < i + s) → V X 0 0 (wBat cy a q b sq) [some (.ref a), some (.int (nI s)), some (.int (nI g)), some (.int (nI nx)), some (.int (nI i))] [] 8 := by
    intro n9
    induction n9 with
    | zero => intro i g nx hm; exact absurd hm (Nat.not_lt_zero _)
    | succ n9 ih8 =>
      intro i g nx hm hi hg n1 n2 n3
      refine r_iload (pc' := 10) hX dX1_leastPassingSqueak_8 rfl rfl ?_
      refine r_aload_n (pc' := 11) hX dX1_leastPassingSqueak_10 rfl rfl ?_
      refine r_get (pc' := 14) (v := .int (nI (b 2))) hX dX1_leastPassingSqueak_11 f_X1_18 0 rfl rfl rfl ?_
      refine r_icmp_ge_N (tgt := 67) (pc' := 17) hX dX1_leastPassingSqueak_14 (by decide) rfl (by omega) (by omega) (fun c14 => ?_) (fun c14 => ?_)
      · refine r_iload_n (pc' := 68) hX dX1_leastPassingSqueak_67 rfl rfl ?_
        exact r_ireturn hX hE dX1_leastPassingSqueak_68 rfl ⟨rN (by rw [hg, show i = b 2 by omega]), rfl⟩ (by decide) (by decide)
      · have hm := nx_eq n1 n2 n3
        have hl9 := lps_le (sq := sq) (n := b 2) (s := s) i
        refine r_iload (pc' := 19) hX dX1_leastPassingSqueak_17 rfl rfl ?_
        refine r_iload_n (pc' := 20) hX dX1_leastPassingSqueak_19 rfl rfl ?_
        refine r_icmp_ne_N (tgt := 61) (pc' := 23) hX dX1_leastPassingSqueak_20 (by decide) rfl (by omega) (by omega) (fun c20 => ?_) (fun c20 => ?_)
        · refine r_iinc_N (b := 1) (L' := [some (.ref a), some (.int (nI s)), some (.int (nI g)), some (.int (nI nx)), some (.int (nI (i + 1)))]) (pc' := 64) hX dX1_leastPassingSqueak_61 rfl (nlt hnL (by decide)) rfl rfl rfl ?_
          refine r_goto (tgt := 8) hX dX1_leastPassingSqueak_64 (by decide) ?_
          exact ih8 (i + 1) g nx (by omega) (by omega) (by rw [lps_succ]; split <;> omega) (by first | assumption | (rw [Nat.add_mod_right]; assumption)) (by omega) (by omega)
        · have hqi := hq i (by omega)
          refine r_iload_n (pc' := 24) hX dX1_leastPassingSqueak_23 rfl rfl ?_
          refine r_iload_n (pc' := 25) hX dX1_leastPassingSqueak_24 rfl rfl ?_
          refine r_iadd_N (pc' := 26) hX dX1_leastPassingSqueak_25  rfl ?_
          refine r_istore_n (L' := [some (.ref a), some (.int (nI s)), some (.int (nI g)), some (.int (nI (nx + s))), some (.int (nI i))]) (pc' := 27) hX dX1_leastPassingSqueak_26 (nlt hnL (by decide)) rfl rfl rfl ?_
          refine r_aload_n (pc' := 28) hX dX1_leastPassingSqueak_27 rfl rfl ?_
          refine r_get (pc' := 31) (v := .ref q) hX dX1_leastPassingSqueak_28 f_X1_28 0 rfl rfl rfl ?_
          refine r_iload (pc' := 33) hX dX1_leastPassingSqueak_31 rfl rfl ?_
          refine r_iald_N (pc' := 34) hX dX1_leastPassingSqueak_33 (by rw [hcy]) 1 rfl (by omega) (by decide) rfl ?_
          change V X 0 0 (wBat cy a q b sq) [some (.ref a), some (.int (nI s)), some (.int (nI g)), some (.int (nI (nx + s))), some (.int (nI i))] [.int (nI (sq i))] 34
          refine r_iload_n (pc' := 35) hX dX1_leastPassingSqueak_34 rfl rfl ?_
          refine r_icmp_ge_N (tgt := 61) (pc' := 38) hX dX1_leastPassingSqueak_35 (by decide) rfl (by omega) (by omega) (fun c35 => ?_) (fun c35 => ?_)
          · refine r_iinc_N (b := 1) (L' := [some (.ref a), some (.int (nI s)), some (.int (nI g)), some (.int (nI (nx + s))), some (.int (nI (i + 1)))]) (pc' := 64) hX dX1_leastPassingSqueak_61 rfl (nlt hnL (by decide)) rfl rfl rfl ?_
            refine r_goto (tgt := 8) hX dX1_leastPassingSqueak_64 (by decide) ?_
            exact ih8 (i + 1) g (nx + s) (by omega) (by omega) (by rw [lps_succ]; split <;> omega) (by first | assumption | (rw [Nat.add_mod_right]; assumption)) (by omega) (by omega)
          · refine r_aload_n (pc' := 39) hX dX1_leastPassingSqueak_38 rfl rfl ?_
            refine r_iload_n (pc' := 40) hX dX1_leastPassingSqueak_39 rfl rfl ?_
            refine r_aload_n (pc' := 41) hX dX1_leastPassingSqueak_40 rfl rfl ?_
            refine r_get (pc' := 44) (v := .ref q) hX dX1_leastPassingSqueak_41 f_X1_28 0 rfl rfl rfl ?_
            refine r_iload (pc' := 46) hX dX1_leastPassingSqueak_44 rfl rfl ?_
            refine r_iald_N (pc' := 47) hX dX1_leastPassingSqueak_46 (by rw [hcy]) 1 rfl (by omega) (by decide) rfl ?_
            change V X 0 0 (wBat cy a q b sq) [some (.ref a), some (.int (nI s)), some (.int (nI g)), some (.int (nI (nx + s))), some (.int (nI i))] [.int (nI (sq i)), .int (nI s), .ref a] 47
            refine V_call0 (k' := 0) (n' := 0) (pc' := 50) hX (r_runV (As := [.int (nI s), .int (nI (sq i))]) hX dX1_leastPassingSqueak_47 k_X1_44 (fun l9 hl9 => cB_passes (by omega) (by omega) (by omega) hq) hG ⟨4, _, TX1, 6, List.mem_cons_self, rfl⟩ rfl rfl (Nat.le_of_ble_eq_true rfl) (by decide) (by decide) (by decide) (by decide)) rfl rfl rfl (fun w9 u9 hp9 => ?_)
            obtain ⟨rfl, rfl⟩ := hp9
            change V X 0 0 (wBat cy a q b sq) [some (.ref a), some (.int (nI s)), some (.int (nI g)), some (.int (nI (nx + s))), some (.int (nI i))] [.int (bI (pas sq (b 2) s (sq i)))] 50
            refine r_if_eq_B (tgt := 61) (pc' := 53) hX dX1_leastPassingSqueak_50 (by decide) rfl (fun c50 => ?_) (fun c50 => ?_)
            · refine r_iinc_N (b := 1) (L' := [some (.ref a), some (.int (nI s)), some (.int (nI g)), some (.int (nI (nx + s))), some (.int (nI (i + 1)))]) (pc' := 64) hX dX1_leastPassingSqueak_61 rfl (nlt hnL (by decide)) rfl rfl rfl ?_
              refine r_goto (tgt := 8) hX dX1_leastPassingSqueak_64 (by decide) ?_
              exact ih8 (i + 1) g (nx + s) (by omega) (by omega) (by rw [lps_succ]; split <;> omega) (by first | assumption | (rw [Nat.add_mod_right]; assumption)) (by omega) (by omega)
            · refine r_aload_n (pc' := 54) hX dX1_leastPassingSqueak_53 rfl rfl ?_
              refine r_get (pc' := 57) (v := .ref q) hX dX1_leastPassingSqueak_54 f_X1_28 0 rfl rfl rfl ?_
              refine r_iload (pc' := 59) hX dX1_leastPassingSqueak_57 rfl rfl ?_
              refine r_iald_N (pc' := 60) hX dX1_leastPassingSqueak_59 (by rw [hcy]) 1 rfl (by omega) (by decide) rfl ?_
              change V X 0 0 (wBat cy a q b sq) [some (.ref a), some (.int (nI s)), some (.int (nI g)), some (.int (nI (nx + s))), some (.int (nI i))] [.int (nI (sq i))] 60
              refine r_istore_n (L' := [some (.ref a), some (.int (nI s)), some (.int (nI (sq i))), some (.int (nI (nx + s))), some (.int (nI i))]) (pc' := 61) hX dX1_leastPassingSqueak_60 (nlt hnL (by decide)) rfl rfl rfl ?_
              refine r_iinc_N (b := 1) (L' := [some (.ref a), some (.int (nI s)), some (.int (nI (sq i))), some (.int (nI (nx + s))), some (.int (nI (i + 1)))]) (pc' := 64) hX dX1_leastPassingSqueak_61 rfl (nlt hnL (by decide)) rfl rfl rfl ?_
              refine r_goto (tgt := 8) hX dX1_leastPassingSqueak_64 (by decide) ?_
              exact ih8 (i + 1) (sq i) (nx + s) (by omega) (by omega) (by rw [lps_succ]; split <;> omega) (by first | assumption | (rw [Nat.add_mod_right]; assumption)) (by omega) (by omega)
  exact loop8 _ 0 99 0 (Nat.lt_succ_self _) (by omega) rfl (Nat.zero_mod s) (by omega) (by omega)

set_option maxRecDepth 20000 in
set_option maxHeartbeats 4000000 in
theorem cB_lpt {l : Launch} {D : va_G} {cy : Nat → ClassId} {sa : Nat → Nat} {a q : Nat} {b sq : Nat → Nat} {s : Nat} (h2 : b 2 ≤ 9) (hs : 1 ≤ s ∧ s ≤ 5) (hq : ∀ j, j < b 2 → sq j ≤ 99) : MG l yX1_leastPassingTry cX1_leastPassingTry 3 (some .int) 3 0 0 (D, cy, sa) [.ref a, .int (nI s)] (wBat cy a q b sq) (fun w u => w = some (.int (nI (lst (pas sq (b 2) s) 99))) ∧ u = wBat cy a q b sq) := by
  refine MG_by (own := RX1) (L := [some (.ref a), some (.int (nI s)), none]) (by decide +kernel) rfl rfl (Nat.le_of_ble_eq_true rfl) 1 rfl (fun X hX hE hnL hG hcy hnm => ?_)
  refine r_iconst (pc' := 1) (v := nI 0) hX dX1_leastPassingTry_0 rfl rfl ?_
  refine r_istore_n (L' := [some (.ref a), some (.int (nI s)), some (.int (nI 0))]) (pc' := 2) hX dX1_leastPassingTry_1 (nlt hnL (by decide)) rfl rfl rfl ?_
  have loop2 : ∀ (n9 : Nat) (t : Nat), 99 - t < n9 → (t ≤ 99) → (∀ j, j < t → ¬ pas sq (b 2) s j) → V X 0 0 (wBat cy a q b sq) [some (.ref a), some (.int (nI s)), some (.int (nI t))] [] 2 := by
    intro n9
    induction n9 with
    | zero => intro t hm; exact absurd hm (Nat.not_lt_zero _)
    | succ n9 ih2 =>
      intro t hm hi hn
      refine r_iload_n (pc' := 3) hX dX1_leastPassingTry_2 rfl rfl ?_
      refine r_bipush (pc' := 5) (v := nI 99) hX dX1_leastPassingTry_3 rfl rfl ?_
      refine r_icmp_ge_N (tgt := 25) (pc' := 8) hX dX1_leastPassingTry_5 (by decide) rfl (by omega) (by omega) (fun c5 => ?_) (fun c5 => ?_)
      · refine r_bipush (pc' := 27) (v := nI 99) hX dX1_leastPassingTry_25 rfl rfl ?_
        exact r_ireturn hX hE dX1_leastPassingTry_27 rfl ⟨rN (by rw [lst_no (fun j hj => hn j (by omega))]), rfl⟩ (by decide) (by decide)
      · refine r_aload_n (pc' := 9) hX dX1_leastPassingTry_8 rfl rfl ?_
        refine r_iload_n (pc' := 10) hX dX1_leastPassingTry_9 rfl rfl ?_
        refine r_iload_n (pc' := 11) hX dX1_leastPassingTry_10 rfl rfl ?_
        refine V_call0 (k' := 0) (n' := 0) (pc' := 14) hX (r_runV (As := [.int (nI s), .int (nI t)]) hX dX1_leastPassingTry_11 k_X1_44 (fun l9 hl9 => cB_passes (by omega) (by omega) (by omega) hq) hG ⟨4, _, TX1, 6, List.mem_cons_self, rfl⟩ rfl rfl (Nat.le_of_ble_eq_true rfl) (by decide) (by decide) (by decide) (by decide)) rfl rfl rfl (fun w9 u9 hp9 => ?_)
        obtain ⟨rfl, rfl⟩ := hp9
        change V X 0 0 (wBat cy a q b sq) [some (.ref a), some (.int (nI s)), some (.int (nI t))] [.int (bI (pas sq (b 2) s t))] 14
        refine r_if_eq_B (tgt := 19) (pc' := 17) hX dX1_leastPassingTry_14 (by decide) rfl (fun c14 => ?_) (fun c14 => ?_)
        · refine r_iinc_N (b := 1) (L' := [some (.ref a), some (.int (nI s)), some (.int (nI (t + 1)))]) (pc' := 22) hX dX1_leastPassingTry_19 rfl (nlt hnL (by decide)) rfl rfl rfl ?_
          refine r_goto (tgt := 2) hX dX1_leastPassingTry_22 (by decide) ?_
          exact ih2 (t + 1) (by omega) (by omega) (fun j hj => (Nat.lt_succ_iff_lt_or_eq.mp hj).elim (hn j) (fun e9 => by rw [e9]; assumption))
        · refine r_iload_n (pc' := 18) hX dX1_leastPassingTry_17 rfl rfl ?_
          exact r_ireturn hX hE dX1_leastPassingTry_18 rfl ⟨rN (lst_at c14 hn (by omega)).symm, rfl⟩ (by decide) (by decide)
  exact loop2 _ 0 (Nat.lt_succ_self _) (by omega) (fun j hj => absurd hj (Nat.not_lt_zero _))
