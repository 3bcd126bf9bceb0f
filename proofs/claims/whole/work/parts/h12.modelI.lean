theorem Rr_ini : Rr vIni (up1 (up1 (fun _ => 0) 3 50) 4 2) := by
  have F : ∀ b, b < 13 → ∀ k, k < 9 → (b = 0 ∨ (b ≤ 2 ∧ k < 4) ∨ k < 3) → up1 (up1 (fun _ => 0) 3 50) 4 2 (ix b k) = vIni b k := by decide +kernel
  intro b k h
  rcases h with h | h | h | h | h
  · exact F b (by omega) k (by omega) (by omega)
  · exact F b (by omega) k (by omega) (by omega)
  · exact F b (by omega) k (by omega) (by omega)
  · have : b < 13 + 0 := h.1.2.1
    omega
  · have : b < 21 + 0 := h.1.2.1
    omega
set_option maxRecDepth 20000 in
set_option maxHeartbeats 1000000 in
theorem cM_init {l : Launch} {D : va_G} {cy : Nat → ClassId} {sa : Nat → Nat} {a : Nat} : MG l yX6_init cX6_init 1 none 1 7 2109 (D, cy, sa) [.ref a] ([(a, .inr (8, [.null, .null, .null, .int (nI 0), .null, .int (nI 0), .null, .int (nI 0), .int (nI 0), .int (nI 0), .null, .int (nI 0), .int (nI 0), .int (nI 0), .int (nI 0), .null]))]) (fun w u => w = none ∧ ∃ ma : Nat → Nat, ma 0 = a ∧ MS cy ma AS0 0 u) := by
  refine MG_by (own := RX6) (L := [some (.ref a)]) (by decide +kernel) rfl rfl (Nat.le_of_ble_eq_true rfl) 0 rfl (fun X hX hE hnL hG hcy hnm => ?_)
  refine r_aload_n (pc' := 1) hX dX6_init_0 rfl rfl ?_
  refine r_objInit (pc' := 4) hX dX6_init_1 (m6 (j := 159) rfl rfl) (by decide) (Nat.le_of_ble_eq_true rfl) rfl ?_
  refine r_aload_n (pc' := 5) hX dX6_init_4 rfl rfl ?_
  refine r_sipush (pc' := 8) (v := nI 159) hX dX6_init_5 rfl rfl ?_
  refine r_newI (N := 159) (k' := 1) (n' := 159) (pc' := 10) hX dX6_init_8 hcy (by omega) rfl rfl (by decide) (by decide) rfl (fun q8 => ?_)
  change V X 1 159 ([(a, .inr (8, [.null, .null, .null, .int (nI 0), .null, .int (nI 0), .null, .int (nI 0), .int (nI 0), .int (nI 0), .null, .int (nI 0), .int (nI 0), .int (nI 0), .int (nI 0), .null])), (q8, .inl (cy 0, aN 159 (fun _ => 0)))]) [some (.ref a)] [.ref q8, .ref a] 10
  refine r_putF (ws' := [(a, .inr (8, [.ref q8, .null, .null, .int (nI 0), .null, .int (nI 0), .null, .int (nI 0), .int (nI 0), .int (nI 0), .null, .int (nI 0), .int (nI 0), .int (nI 0), .int (nI 0), .null])), (q8, .inl (cy 0, aN 159 (fun _ => 0)))]) (pc' := 13) hX dX6_init_10 f_X6_7 fw_X6_0 hnm (fun C9 T9 N9 h9 => by cases h9; rfl) 0 rfl rfl rfl (Nat.le_of_ble_eq_true rfl) rfl rfl ?_
  refine r_aload_n (pc' := 14) hX dX6_init_13 rfl rfl ?_
  refine r_sipush (pc' := 17) (v := nI 159) hX dX6_init_14 rfl rfl ?_
  refine r_newI (N := 159) (k' := 2) (n' := 318) (pc' := 19) hX dX6_init_17 hcy (by omega) rfl rfl (by decide) (by decide) rfl (fun q17 => ?_)
  change V X 2 318 ([(a, .inr (8, [.ref q8, .null, .null, .int (nI 0), .null, .int (nI 0), .null, .int (nI 0), .int (nI 0), .int (nI 0), .null, .int (nI 0), .int (nI 0), .int (nI 0), .int (nI 0), .null])), (q8, .inl (cy 0, aN 159 (fun _ => 0))), (q17, .inl (cy 0, aN 159 (fun _ => 0)))]) [some (.ref a)] [.ref q17, .ref a] 19
  refine r_putF (ws' := [(a, .inr (8, [.ref q8, .ref q17, .null, .int (nI 0), .null, .int (nI 0), .null, .int (nI 0), .int (nI 0), .int (nI 0), .null, .int (nI 0), .int (nI 0), .int (nI 0), .int (nI 0), .null])), (q8, .inl (cy 0, aN 159 (fun _ => 0))), (q17, .inl (cy 0, aN 159 (fun _ => 0)))]) (pc' := 22) hX dX6_init_19 f_X6_13 fw_X6_1 hnm (fun C9 T9 N9 h9 => by cases h9; rfl) 0 rfl rfl rfl (Nat.le_of_ble_eq_true rfl) rfl rfl ?_
  refine r_aload_n (pc' := 23) hX dX6_init_22 rfl rfl ?_
  refine r_sipush (pc' := 26) (v := nI 1272) hX dX6_init_23 rfl rfl ?_
  refine r_newI (N := 1272) (k' := 3) (n' := 1590) (pc' := 28) hX dX6_init_26 hcy (by omega) rfl rfl (by decide) (by decide) rfl (fun q26 => ?_)
  change V X 3 1590 ([(a, .inr (8, [.ref q8, .ref q17, .null, .int (nI 0), .null, .int (nI 0), .null, .int (nI 0), .int (nI 0), .int (nI 0), .null, .int (nI 0), .int (nI 0), .int (nI 0), .int (nI 0), .null])), (q8, .inl (cy 0, aN 159 (fun _ => 0))), (q17, .inl (cy 0, aN 159 (fun _ => 0))), (q26, .inl (cy 0, aN 1272 (fun _ => 0)))]) [some (.ref a)] [.ref q26, .ref a] 28
  refine r_putF (ws' := [(a, .inr (8, [.ref q8, .ref q17, .ref q26, .int (nI 0), .null, .int (nI 0), .null, .int (nI 0), .int (nI 0), .int (nI 0), .null, .int (nI 0), .int (nI 0), .int (nI 0), .int (nI 0), .null])), (q8, .inl (cy 0, aN 159 (fun _ => 0))), (q17, .inl (cy 0, aN 159 (fun _ => 0))), (q26, .inl (cy 0, aN 1272 (fun _ => 0)))]) (pc' := 31) hX dX6_init_28 f_X6_16 fw_X6_2 hnm (fun C9 T9 N9 h9 => by cases h9; rfl) 0 rfl rfl rfl (Nat.le_of_ble_eq_true rfl) rfl rfl ?_
  refine r_aload_n (pc' := 32) hX dX6_init_31 rfl rfl ?_
  refine r_sipush (pc' := 35) (v := nI 159) hX dX6_init_32 rfl rfl ?_
  refine r_newI (N := 159) (k' := 4) (n' := 1749) (pc' := 37) hX dX6_init_35 hcy (by omega) rfl rfl (by decide) (by decide) rfl (fun q35 => ?_)
  change V X 4 1749 ([(a, .inr (8, [.ref q8, .ref q17, .ref q26, .int (nI 0), .null, .int (nI 0), .null, .int (nI 0), .int (nI 0), .int (nI 0), .null, .int (nI 0), .int (nI 0), .int (nI 0), .int (nI 0), .null])), (q8, .inl (cy 0, aN 159 (fun _ => 0))), (q17, .inl (cy 0, aN 159 (fun _ => 0))), (q26, .inl (cy 0, aN 1272 (fun _ => 0))), (q35, .inl (cy 0, aN 159 (fun _ => 0)))]) [some (.ref a)] [.ref q35, .ref a] 37
  refine r_putF (ws' := [(a, .inr (8, [.ref q8, .ref q17, .ref q26, .int (nI 0), .ref q35, .int (nI 0), .null, .int (nI 0), .int (nI 0), .int (nI 0), .null, .int (nI 0), .int (nI 0), .int (nI 0), .int (nI 0), .null])), (q8, .inl (cy 0, aN 159 (fun _ => 0))), (q17, .inl (cy 0, aN 159 (fun _ => 0))), (q26, .inl (cy 0, aN 1272 (fun _ => 0))), (q35, .inl (cy 0, aN 159 (fun _ => 0)))]) (pc' := 40) hX dX6_init_37 f_X6_19 fw_X6_4 hnm (fun C9 T9 N9 h9 => by cases h9; rfl) 0 rfl rfl rfl (Nat.le_of_ble_eq_true rfl) rfl rfl ?_
  refine r_aload_n (pc' := 41) hX dX6_init_40 rfl rfl ?_
  refine r_bipush (pc' := 43) (v := nI 60) hX dX6_init_41 rfl rfl ?_
  refine r_newC (N := 60) (k' := 5) (n' := 1809) (pc' := 45) hX dX6_init_43 hcy (by omega) rfl rfl (by decide) (by decide) rfl (fun q43 => ?_)
  change V X 5 1809 ([(a, .inr (8, [.ref q8, .ref q17, .ref q26, .int (nI 0), .ref q35, .int (nI 0), .null, .int (nI 0), .int (nI 0), .int (nI 0), .null, .int (nI 0), .int (nI 0), .int (nI 0), .int (nI 0), .null])), (q8, .inl (cy 0, aN 159 (fun _ => 0))), (q17, .inl (cy 0, aN 159 (fun _ => 0))), (q26, .inl (cy 0, aN 1272 (fun _ => 0))), (q35, .inl (cy 0, aN 159 (fun _ => 0))), (q43, .inl (cy 1, aN 60 (fun _ => 0)))]) [some (.ref a)] [.ref q43, .ref a] 45
  refine r_putF (ws' := [(a, .inr (8, [.ref q8, .ref q17, .ref q26, .int (nI 0), .ref q35, .int (nI 0), .ref q43, .int (nI 0), .int (nI 0), .int (nI 0), .null, .int (nI 0), .int (nI 0), .int (nI 0), .int (nI 0), .null])), (q8, .inl (cy 0, aN 159 (fun _ => 0))), (q17, .inl (cy 0, aN 159 (fun _ => 0))), (q26, .inl (cy 0, aN 1272 (fun _ => 0))), (q35, .inl (cy 0, aN 159 (fun _ => 0))), (q43, .inl (cy 1, aN 60 (fun _ => 0)))]) (pc' := 48) hX dX6_init_45 f_X6_22 fw_X6_6 hnm (fun C9 T9 N9 h9 => by cases h9; rfl) 0 rfl rfl rfl (Nat.le_of_ble_eq_true rfl) rfl rfl ?_
  refine r_aload_n (pc' := 49) hX dX6_init_48 rfl rfl ?_
  refine r_iconst (pc' := 50) (v := (-1)) hX dX6_init_49 rfl rfl ?_
  refine r_put (ws' := [(a, .inr (8, [.ref q8, .ref q17, .ref q26, .int (nI 0), .ref q35, .int (nI 0), .ref q43, .int (nI 0), .int (-1), .int (nI 0), .null, .int (nI 0), .int (nI 0), .int (nI 0), .int (nI 0), .null])), (q8, .inl (cy 0, aN 159 (fun _ => 0))), (q17, .inl (cy 0, aN 159 (fun _ => 0))), (q26, .inl (cy 0, aN 1272 (fun _ => 0))), (q35, .inl (cy 0, aN 159 (fun _ => 0))), (q43, .inl (cy 1, aN 60 (fun _ => 0)))]) (pc' := 53) hX dX6_init_50 f_X6_26 fw_X6_8 0 rfl rfl rfl (Nat.le_of_ble_eq_true rfl) rfl rfl ?_
  refine r_aload_n (pc' := 54) hX dX6_init_53 rfl rfl ?_
  refine r_iconst (pc' := 55) (v := (-1)) hX dX6_init_54 rfl rfl ?_
  refine r_put (ws' := [(a, .inr (8, [.ref q8, .ref q17, .ref q26, .int (nI 0), .ref q35, .int (nI 0), .ref q43, .int (nI 0), .int (-1), .int (-1), .null, .int (nI 0), .int (nI 0), .int (nI 0), .int (nI 0), .null])), (q8, .inl (cy 0, aN 159 (fun _ => 0))), (q17, .inl (cy 0, aN 159 (fun _ => 0))), (q26, .inl (cy 0, aN 1272 (fun _ => 0))), (q35, .inl (cy 0, aN 159 (fun _ => 0))), (q43, .inl (cy 1, aN 60 (fun _ => 0)))]) (pc' := 58) hX dX6_init_55 f_X6_30 fw_X6_9 0 rfl rfl rfl (Nat.le_of_ble_eq_true rfl) rfl rfl ?_
  refine r_aload_n (pc' := 59) hX dX6_init_58 rfl rfl ?_
  refine r_bipush (pc' := 61) (v := nI 60) hX dX6_init_59 rfl rfl ?_
  refine r_newC (N := 60) (k' := 6) (n' := 1869) (pc' := 63) hX dX6_init_61 hcy (by omega) rfl rfl (by decide) (by decide) rfl (fun q61 => ?_)
  change V X 6 1869 ([(a, .inr (8, [.ref q8, .ref q17, .ref q26, .int (nI 0), .ref q35, .int (nI 0), .ref q43, .int (nI 0), .int (-1), .int (-1), .null, .int (nI 0), .int (nI 0), .int (nI 0), .int (nI 0), .null])), (q8, .inl (cy 0, aN 159 (fun _ => 0))), (q17, .inl (cy 0, aN 159 (fun _ => 0))), (q26, .inl (cy 0, aN 1272 (fun _ => 0))), (q35, .inl (cy 0, aN 159 (fun _ => 0))), (q43, .inl (cy 1, aN 60 (fun _ => 0))), (q61, .inl (cy 1, aN 60 (fun _ => 0)))]) [some (.ref a)] [.ref q61, .ref a] 63
  refine r_putF (ws' := [(a, .inr (8, [.ref q8, .ref q17, .ref q26, .int (nI 0), .ref q35, .int (nI 0), .ref q43, .int (nI 0), .int (-1), .int (-1), .ref q61, .int (nI 0), .int (nI 0), .int (nI 0), .int (nI 0), .null])), (q8, .inl (cy 0, aN 159 (fun _ => 0))), (q17, .inl (cy 0, aN 159 (fun _ => 0))), (q26, .inl (cy 0, aN 1272 (fun _ => 0))), (q35, .inl (cy 0, aN 159 (fun _ => 0))), (q43, .inl (cy 1, aN 60 (fun _ => 0))), (q61, .inl (cy 1, aN 60 (fun _ => 0)))]) (pc' := 66) hX dX6_init_63 f_X6_33 fw_X6_10 hnm (fun C9 T9 N9 h9 => by cases h9; rfl) 0 rfl rfl rfl (Nat.le_of_ble_eq_true rfl) rfl rfl ?_
  refine r_aload_n (pc' := 67) hX dX6_init_66 rfl rfl ?_
  refine r_sipush (pc' := 70) (v := nI 240) hX dX6_init_67 rfl rfl ?_
  refine r_newI (N := 240) (k' := 7) (n' := 2109) (pc' := 72) hX dX6_init_70 hcy (by omega) rfl rfl (by decide) (by decide) rfl (fun q70 => ?_)
  change V X 7 2109 ([(a, .inr (8, [.ref q8, .ref q17, .ref q26, .int (nI 0), .ref q35, .int (nI 0), .ref q43, .int (nI 0), .int (-1), .int (-1), .ref q61, .int (nI 0), .int (nI 0), .int (nI 0), .int (nI 0), .null])), (q8, .inl (cy 0, aN 159 (fun _ => 0))), (q17, .inl (cy 0, aN 159 (fun _ => 0))), (q26, .inl (cy 0, aN 1272 (fun _ => 0))), (q35, .inl (cy 0, aN 159 (fun _ => 0))), (q43, .inl (cy 1, aN 60 (fun _ => 0))), (q61, .inl (cy 1, aN 60 (fun _ => 0))), (q70, .inl (cy 0, aN 240 (fun _ => 0)))]) [some (.ref a)] [.ref q70, .ref a] 72
  refine r_putF (ws' := [(a, .inr (8, [.ref q8, .ref q17, .ref q26, .int (nI 0), .ref q35, .int (nI 0), .ref q43, .int (nI 0), .int (-1), .int (-1), .ref q61, .int (nI 0), .int (nI 0), .int (nI 0), .int (nI 0), .ref q70])), (q8, .inl (cy 0, aN 159 (fun _ => 0))), (q17, .inl (cy 0, aN 159 (fun _ => 0))), (q26, .inl (cy 0, aN 1272 (fun _ => 0))), (q35, .inl (cy 0, aN 159 (fun _ => 0))), (q43, .inl (cy 1, aN 60 (fun _ => 0))), (q61, .inl (cy 1, aN 60 (fun _ => 0))), (q70, .inl (cy 0, aN 240 (fun _ => 0)))]) (pc' := 75) hX dX6_init_72 f_X6_36 fw_X6_15 hnm (fun C9 T9 N9 h9 => by cases h9; rfl) 0 rfl rfl rfl (Nat.le_of_ble_eq_true rfl) rfl rfl ?_
  refine r_aload_n (pc' := 76) hX dX6_init_75 rfl rfl ?_
  refine r_get (pc' := 79) (v := .ref q8) hX dX6_init_76 f_X6_7 0 rfl rfl rfl ?_
  refine r_iconst (pc' := 80) (v := nI 3) hX dX6_init_79 rfl rfl ?_
  refine r_bipush (pc' := 82) (v := nI 50) hX dX6_init_80 rfl rfl ?_
  refine r_iast_N (ws' := [(a, .inr (8, [.ref q8, .ref q17, .ref q26, .int (nI 0), .ref q35, .int (nI 0), .ref q43, .int (nI 0), .int (-1), .int (-1), .ref q61, .int (nI 0), .int (nI 0), .int (nI 0), .int (nI 0), .ref q70])), (q8, .inl (cy 0, aN 159 (up1 (fun _ => 0) 3 50))), (q17, .inl (cy 0, aN 159 (fun _ => 0))), (q26, .inl (cy 0, aN 1272 (fun _ => 0))), (q35, .inl (cy 0, aN 159 (fun _ => 0))), (q43, .inl (cy 1, aN 60 (fun _ => 0))), (q61, .inl (cy 1, aN 60 (fun _ => 0))), (q70, .inl (cy 0, aN 240 (fun _ => 0)))]) (pc' := 83) hX dX6_init_82 (by rw [hcy]) 1 rfl (by omega) (by decide) rfl rfl ?_
  refine r_aload_n (pc' := 84) hX dX6_init_83 rfl rfl ?_
  refine r_get (pc' := 87) (v := .ref q8) hX dX6_init_84 f_X6_7 0 rfl rfl rfl ?_
  refine r_iconst (pc' := 88) (v := nI 4) hX dX6_init_87 rfl rfl ?_
  refine r_iconst (pc' := 89) (v := nI 2) hX dX6_init_88 rfl rfl ?_
  refine r_iast_N (ws' := [(a, .inr (8, [.ref q8, .ref q17, .ref q26, .int (nI 0), .ref q35, .int (nI 0), .ref q43, .int (nI 0), .int (-1), .int (-1), .ref q61, .int (nI 0), .int (nI 0), .int (nI 0), .int (nI 0), .ref q70])), (q8, .inl (cy 0, aN 159 (up1 (up1 (fun _ => 0) 3 50) 4 2))), (q17, .inl (cy 0, aN 159 (fun _ => 0))), (q26, .inl (cy 0, aN 1272 (fun _ => 0))), (q35, .inl (cy 0, aN 159 (fun _ => 0))), (q43, .inl (cy 1, aN 60 (fun _ => 0))), (q61, .inl (cy 1, aN 60 (fun _ => 0))), (q70, .inl (cy 0, aN 240 (fun _ => 0)))]) (pc' := 90) hX dX6_init_89 (by rw [hcy]) 1 rfl (by omega) (by decide) rfl rfl ?_
  exact r_vreturn hX hE dX6_init_90 rfl ⟨rfl, (fun n => ([a, q8, q17, q26, q35, q43, q61, q70] : List Nat).getD n 0), rfl, ⟨fun _ => 0, fun _ => -1, _, _, _, _, _, _, fun _ => nI 0, rfl, rfl, Rr_ini, rfl, by decide, fun i h => absurd h (Nat.not_lt_zero _), Or.inl ⟨rfl, rfl⟩, ⟨rfl, by decide, fun i h => absurd h (Nat.not_lt_zero _)⟩, ⟨rfl, by decide, fun i h => absurd h (Nat.not_lt_zero _)⟩, rfl, rfl⟩⟩ (by omega) (by omega)
