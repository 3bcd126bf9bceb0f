/-! ===== the model: changes begun and kept ===== -/
set_option maxRecDepth 20000 in
set_option maxHeartbeats 4000000 in
theorem cM_copy {l : Launch} {D : va_G} {cy : Nat → ClassId} {sa : Nat → Nat} {x y a t n1 n2 : Nat} {f h : Nat → Nat} (h1 : a + 159 ≤ n1) (h2 : t + 159 ≤ n2) (h3 : n1 < 2000) (h4 : n2 < 2000) : MG l yX6_copy cX6_copy 5 none 0 0 0 (D, cy, sa) [.ref x, .int (nI a), .ref y, .int (nI t)] ([(x, .inl (cy 0, aN n1 f)), (y, .inl (cy 0, aN n2 h))]) (fun w u => w = none ∧ u = [(x, .inl (cy 0, aN n1 f)), (y, .inl (cy 0, aN n2 (cpy f a h t 159)))]) := by
  refine MG_by (own := RX6) (L := [some (.ref x), some (.int (nI a)), some (.ref y), some (.int (nI t)), none]) (by decide +kernel) rfl rfl (Nat.le_of_ble_eq_true rfl) 1 rfl (fun X hX hE hnL hG hcy hnm => ?_)
  refine r_iconst (pc' := 1) (v := nI 0) hX dX6_copy_0 rfl rfl ?_
  refine r_istore (L' := [some (.ref x), some (.int (nI a)), some (.ref y), some (.int (nI t)), some (.int (nI 0))]) (pc' := 3) hX dX6_copy_1 (nlt hnL (by decide)) rfl rfl rfl ?_
  have loop3 : ∀ (n9 : Nat) (k : Nat) (hs : Nat → Nat), 159 - k < n9 → (k ≤ 159) → (hs = cpy f a h t k) → V X 0 0 ([(x, .inl (cy 0, aN n1 f)), (y, .inl (cy 0, aN n2 hs))]) [some (.ref x), some (.int (nI a)), some (.ref y), some (.int (nI t)), some (.int (nI k))] [] 3 := by
    intro n9
    induction n9 with
    | zero => intro k hs hm; exact absurd hm (Nat.not_lt_zero _)
    | succ n9 ih3 =>
      intro k hs hm hk hh
      refine r_iload (pc' := 5) hX dX6_copy_3 rfl rfl ?_
      refine r_sipush (pc' := 8) (v := nI 159) hX dX6_copy_5 rfl rfl ?_
      refine r_icmp_ge_N (tgt := 29) (pc' := 11) hX dX6_copy_8 (by decide) rfl (by omega) (by omega) (fun c8 => ?_) (fun c8 => ?_)
      · have hk9 : k = 159 := by omega
        subst hk9
        exact r_vreturn hX hE dX6_copy_29 rfl ⟨rfl, by rw [hh]⟩ (by decide) (by decide)
      · refine r_aload_n (pc' := 12) hX dX6_copy_11 rfl rfl ?_
        refine r_iload_n (pc' := 13) hX dX6_copy_12 rfl rfl ?_
        refine r_iload (pc' := 15) hX dX6_copy_13 rfl rfl ?_
        refine r_iadd_N (pc' := 16) hX dX6_copy_15  rfl ?_
        refine r_aload_n (pc' := 17) hX dX6_copy_16 rfl rfl ?_
        refine r_iload_n (pc' := 18) hX dX6_copy_17 rfl rfl ?_
        refine r_iload (pc' := 20) hX dX6_copy_18 rfl rfl ?_
        refine r_iadd_N (pc' := 21) hX dX6_copy_20  rfl ?_
        refine r_iald_N (pc' := 22) hX dX6_copy_21 (by rw [hcy]) 0 rfl (by omega) (by omega) rfl ?_
        change V X 0 0 ([(x, .inl (cy 0, aN n1 f)), (y, .inl (cy 0, aN n2 hs))]) [some (.ref x), some (.int (nI a)), some (.ref y), some (.int (nI t)), some (.int (nI k))] [.int (nI (f (a + k))), .int (nI (t + k)), .ref y] 22
        refine r_iast_N (ws' := [(x, .inl (cy 0, aN n1 f)), (y, .inl (cy 0, aN n2 (up1 hs (t + k) (f (a + k)))))]) (pc' := 23) hX dX6_copy_22 (by rw [hcy]) 1 rfl (by omega) (by omega) rfl rfl ?_
        refine r_iinc_N (b := 1) (L' := [some (.ref x), some (.int (nI a)), some (.ref y), some (.int (nI t)), some (.int (nI (k + 1)))]) (pc' := 26) hX dX6_copy_23 rfl (nlt hnL (by decide)) rfl rfl rfl ?_
        refine r_goto (tgt := 3) hX dX6_copy_26 (by decide) ?_
        exact ih3 (k + 1) (up1 hs (t + k) (f (a + k))) (by omega) (by omega) (by rw [hh]; exact cpy_s)
  exact loop3 _ 0 h (Nat.lt_succ_self _) (by omega) cpy_0

set_option maxRecDepth 20000 in
set_option maxHeartbeats 4000000 in
theorem cM_begin {l : Launch} {D : va_G} {cy : Nat → ClassId} {sa : Nat → Nat} {ma : Nat → Nat} {r : Nat → Nat} {e : Nat → Int32} {g bf hy sv bu le : Nat → Nat} {pa : Nat → Int32}  : MG l yX6_begin cX6_begin 1 none 1 0 0 (D, cy, sa) [.ref (ma 0)] (wM cy ma r e g bf hy sv bu le pa) (fun w u => w = none ∧ u = wM cy ma r e g (cpy g 0 bf 0 159) hy sv bu le pa) := by
  refine MG_by (own := RX6) (L := [some (.ref (ma 0))]) (by decide +kernel) rfl rfl (Nat.le_of_ble_eq_true rfl) 0 rfl (fun X hX hE hnL hG hcy hnm => ?_)
  refine r_aload_n (pc' := 1) hX dX6_begin_0 rfl rfl ?_
  refine r_get (pc' := 4) (v := .ref (ma 1)) hX dX6_begin_1 f_X6_7 0 rfl rfl rfl ?_
  refine r_iconst (pc' := 5) (v := nI 0) hX dX6_begin_4 rfl rfl ?_
  refine r_aload_n (pc' := 6) hX dX6_begin_5 rfl rfl ?_
  refine r_get (pc' := 9) (v := .ref (ma 2)) hX dX6_begin_6 f_X6_13 0 rfl rfl rfl ?_
  refine r_iconst (pc' := 10) (v := nI 0) hX dX6_begin_9 rfl rfl ?_
  refine V_call (k' := 0) (n' := 0) (pc' := 13) (wr := (((wM cy ma r e g bf hy sv bu le pa).eraseIdx 1).eraseIdx 1)) hX (r_runS (As := [.ref (ma 1), .int (nI 0), .ref (ma 2), .int (nI 0)]) hX dX6_begin_10 k_X6_42 (fun l9 hl9 => cM_copy (x := ma 1) (y := ma 2) (n1 := 159) (n2 := 159) (f := g) (h := bf) (by omega) (by omega) (by omega) (by omega)) hG rfl rfl (Nat.le_of_ble_eq_true rfl) (by decide) (by decide) (by decide) (by decide)) (pick2 (i := 1) (j := 1) (Nat.le_of_ble_eq_true rfl) (Nat.le_of_ble_eq_true rfl)) rfl rfl rfl (fun w9 u9 hp9 => ?_)
  obtain ⟨rfl, rfl⟩ := hp9
  change V X 0 0 ([(ma 1, .inl (cy 0, aN 159 g)), (ma 2, .inl (cy 0, aN 159 (cpy g 0 bf 0 159)))] ++ (((wM cy ma r e g bf hy sv bu le pa).eraseIdx 1).eraseIdx 1)) [some (.ref (ma 0))] [] 13
  refine V_perm ((pick2 (ws := wM cy ma r e g (cpy g 0 bf 0 159) hy sv bu le pa) (i := 1) (j := 1) (Nat.le_of_ble_eq_true rfl) (Nat.le_of_ble_eq_true rfl)).symm) ?_
  exact r_vreturn hX hE dX6_begin_13 rfl ⟨rfl, rfl⟩ (by decide) (by decide)

set_option maxRecDepth 20000 in
set_option maxHeartbeats 4000000 in
theorem cM_kept {l : Launch} {D : va_G} {cy : Nat → ClassId} {sa : Nat → Nat} {ma : Nat → Nat} {r : Nat → Nat} {e : Nat → Int32} {g bf hy sv bu le : Nat → Nat} {pa : Nat → Int32} {x : Int32} (h8 : r 0 ≤ 8) (h4 : r 4 < 100) : MG l yX6_kept cX6_kept 3 (some .int) 1 0 0 (D, cy, sa) [.ref (ma 0), .int x] (wM cy ma r e g bf hy sv bu le pa) (fun w u => (¬ r 4 = 0 ∧ w = some (.int (nI 0)) ∧ u = wM cy ma r e (cpy bf 0 g 0 159) bf hy sv bu le pa) ∨ (r 4 = 0 ∧ w = some (.int x) ∧ u = wM cy ma (up1 r 0 (min (r 0) 7 + 1)) e g bf (khy (r 0) hy bf) sv bu le pa)) := by
  refine MG_by (own := RX6) (L := [some (.ref (ma 0)), some (.int x), none]) (by decide +kernel) rfl rfl (Nat.le_of_ble_eq_true rfl) 1 rfl (fun X hX hE hnL hG hcy hnm => ?_)
  refine r_aload_n (pc' := 1) hX dX6_kept_0 rfl rfl ?_
  refine r_get (pc' := 4) (v := .int (nI (r 4))) hX dX6_kept_1 f_X6_39 0 rfl rfl rfl ?_
  refine r_if_eq_N (tgt := 22) (pc' := 7) hX dX6_kept_4 (by decide) rfl (by omega) (fun c4 => ?_) (fun c4 => ?_)
  · refine r_aload_n (pc' := 23) hX dX6_kept_22 rfl rfl ?_
    refine r_get (pc' := 26) (v := .int (nI (r 0))) hX dX6_kept_23 f_X6_46 0 rfl rfl rfl ?_
    refine r_bipush (pc' := 28) (v := nI 8) hX dX6_kept_26 rfl rfl ?_
    refine r_icmp_ne_N (tgt := 72) (pc' := 31) hX dX6_kept_28 (by decide) rfl (by omega) (by omega) (fun c28 => ?_) (fun c28 => ?_)
    · refine r_aload_n (pc' := 73) hX dX6_kept_72 rfl rfl ?_
      refine r_get (pc' := 76) (v := .ref (ma 2)) hX dX6_kept_73 f_X6_13 0 rfl rfl rfl ?_
      refine r_iconst (pc' := 77) (v := nI 0) hX dX6_kept_76 rfl rfl ?_
      refine r_aload_n (pc' := 78) hX dX6_kept_77 rfl rfl ?_
      refine r_get (pc' := 81) (v := .ref (ma 3)) hX dX6_kept_78 f_X6_16 0 rfl rfl rfl ?_
      refine r_aload_n (pc' := 82) hX dX6_kept_81 rfl rfl ?_
      refine r_get (pc' := 85) (v := .int (nI (r 0))) hX dX6_kept_82 f_X6_46 0 rfl rfl rfl ?_
      refine r_sipush (pc' := 88) (v := nI 159) hX dX6_kept_85 rfl rfl ?_
      refine r_imul_N (pc' := 89) hX dX6_kept_88  rfl ?_
      refine V_call (k' := 0) (n' := 0) (pc' := 92) (wr := (((wM cy ma r e g bf hy sv bu le pa).eraseIdx 2).eraseIdx 2)) hX (r_runS (As := [.ref (ma 2), .int (nI 0), .ref (ma 3), .int (nI ((r 0) * 159))]) hX dX6_kept_89 k_X6_42 (fun l9 hl9 => cM_copy (x := ma 2) (y := ma 3) (n1 := 159) (n2 := 1272) (f := bf) (h := hy) (by omega) (by omega) (by omega) (by omega)) hG rfl rfl (Nat.le_of_ble_eq_true rfl) (by decide) (by decide) (by decide) (by decide)) (pick2 (i := 2) (j := 2) (Nat.le_of_ble_eq_true rfl) (Nat.le_of_ble_eq_true rfl)) rfl rfl rfl (fun w9 u9 hp9 => ?_)
      obtain ⟨rfl, rfl⟩ := hp9
      change V X 0 0 ([(ma 2, .inl (cy 0, aN 159 bf)), (ma 3, .inl (cy 0, aN 1272 (cpy bf 0 hy ((r 0) * 159) 159)))] ++ (((wM cy ma r e g bf hy sv bu le pa).eraseIdx 2).eraseIdx 2)) [some (.ref (ma 0)), some (.int x), none] [] 92
      refine V_perm ((pick2 (ws := wM cy ma r e g bf (cpy bf 0 hy ((r 0) * 159) 159) sv bu le pa) (i := 2) (j := 2) (Nat.le_of_ble_eq_true rfl) (Nat.le_of_ble_eq_true rfl)).symm) ?_
      refine r_aload_n (pc' := 93) hX dX6_kept_92 rfl rfl ?_
      refine r_dup (pc' := 94) hX dX6_kept_93 rfl rfl ?_
      refine r_get (pc' := 97) (v := .int (nI (r 0))) hX dX6_kept_94 f_X6_46 0 rfl rfl rfl ?_
      refine r_iconst (pc' := 98) (v := nI 1) hX dX6_kept_97 rfl rfl ?_
      refine r_iadd_N (pc' := 99) hX dX6_kept_98  rfl ?_
      refine r_put (ws' := wM cy ma (up1 r 0 ((r 0) + 1)) e g bf (cpy bf 0 hy ((r 0) * 159) 159) sv bu le pa) (pc' := 102) hX dX6_kept_99 f_X6_46 fw_X6_3 0 rfl rfl rfl (Nat.le_of_ble_eq_true rfl) rfl rfl ?_
      refine r_iload_n (pc' := 103) hX dX6_kept_102 rfl rfl ?_
      exact r_ireturn hX hE dX6_kept_103 rfl (.inr ⟨c4, rfl, by unfold khy; rw [if_neg (show ¬ r 0 = 8 by omega), show min (r 0) 7 = r 0 by omega]⟩) (by decide) (by decide)
    · refine r_iconst (pc' := 32) (v := nI 0) hX dX6_kept_31 rfl rfl ?_
      refine r_istore_n (L' := [some (.ref (ma 0)), some (.int x), some (.int (nI 0))]) (pc' := 33) hX dX6_kept_32 (nlt hnL (by decide)) rfl rfl rfl ?_
      have loop33 : ∀ (n9 : Nat) (k : Nat) (hs : Nat → Nat), 1113 - k < n9 → (k ≤ 1113) → (hs = shf hy k) → V X 0 0 (wM cy ma r e g bf hs sv bu le pa) [some (.ref (ma 0)), some (.int x), some (.int (nI k))] [] 33 := by
        intro n9
        induction n9 with
        | zero => intro k hs hm; exact absurd hm (Nat.not_lt_zero _)
        | succ n9 ih33 =>
          intro k hs hm hk hh
          refine r_iload_n (pc' := 34) hX dX6_kept_33 rfl rfl ?_
          refine r_sipush (pc' := 37) (v := nI 1113) hX dX6_kept_34 rfl rfl ?_
          refine r_icmp_ge_N (tgt := 62) (pc' := 40) hX dX6_kept_37 (by decide) rfl (by omega) (by omega) (fun c37 => ?_) (fun c37 => ?_)
          · have hk9 : k = 1113 := by omega
            subst hk9
            refine r_aload_n (pc' := 63) hX dX6_kept_62 rfl rfl ?_
            refine r_dup (pc' := 64) hX dX6_kept_63 rfl rfl ?_
            refine r_get (pc' := 67) (v := .int (nI (r 0))) hX dX6_kept_64 f_X6_46 0 rfl rfl rfl ?_
            refine r_iconst (pc' := 68) (v := nI 1) hX dX6_kept_67 rfl rfl ?_
            refine r_isub_N (pc' := 69) hX dX6_kept_68 (by omega) rfl ?_
            refine r_put (ws' := wM cy ma (up1 r 0 ((r 0) - 1)) e g bf hs sv bu le pa) (pc' := 72) hX dX6_kept_69 f_X6_46 fw_X6_3 0 rfl rfl rfl (Nat.le_of_ble_eq_true rfl) rfl rfl ?_
            refine r_aload_n (pc' := 73) hX dX6_kept_72 rfl rfl ?_
            refine r_get (pc' := 76) (v := .ref (ma 2)) hX dX6_kept_73 f_X6_13 0 rfl rfl rfl ?_
            refine r_iconst (pc' := 77) (v := nI 0) hX dX6_kept_76 rfl rfl ?_
            refine r_aload_n (pc' := 78) hX dX6_kept_77 rfl rfl ?_
            refine r_get (pc' := 81) (v := .ref (ma 3)) hX dX6_kept_78 f_X6_16 0 rfl rfl rfl ?_
            refine r_aload_n (pc' := 82) hX dX6_kept_81 rfl rfl ?_
            refine r_get (pc' := 85) (v := .int (nI ((r 0) - 1))) hX dX6_kept_82 f_X6_46 0 rfl rfl rfl ?_
            refine r_sipush (pc' := 88) (v := nI 159) hX dX6_kept_85 rfl rfl ?_
            refine r_imul_N (pc' := 89) hX dX6_kept_88  rfl ?_
            refine V_call (k' := 0) (n' := 0) (pc' := 92) (wr := (((wM cy ma (up1 r 0 ((r 0) - 1)) e g bf hs sv bu le pa).eraseIdx 2).eraseIdx 2)) hX (r_runS (As := [.ref (ma 2), .int (nI 0), .ref (ma 3), .int (nI (((r 0) - 1) * 159))]) hX dX6_kept_89 k_X6_42 (fun l9 hl9 => cM_copy (x := ma 2) (y := ma 3) (n1 := 159) (n2 := 1272) (f := bf) (h := hs) (by omega) (by omega) (by omega) (by omega)) hG rfl rfl (Nat.le_of_ble_eq_true rfl) (by decide) (by decide) (by decide) (by decide)) (pick2 (i := 2) (j := 2) (Nat.le_of_ble_eq_true rfl) (Nat.le_of_ble_eq_true rfl)) rfl rfl rfl (fun w9 u9 hp9 => ?_)
            obtain ⟨rfl, rfl⟩ := hp9
            change V X 0 0 ([(ma 2, .inl (cy 0, aN 159 bf)), (ma 3, .inl (cy 0, aN 1272 (cpy bf 0 hs (((r 0) - 1) * 159) 159)))] ++ (((wM cy ma (up1 r 0 ((r 0) - 1)) e g bf hs sv bu le pa).eraseIdx 2).eraseIdx 2)) [some (.ref (ma 0)), some (.int x), some (.int (nI 1113))] [] 92
            refine V_perm ((pick2 (ws := wM cy ma (up1 r 0 ((r 0) - 1)) e g bf (cpy bf 0 hs (((r 0) - 1) * 159) 159) sv bu le pa) (i := 2) (j := 2) (Nat.le_of_ble_eq_true rfl) (Nat.le_of_ble_eq_true rfl)).symm) ?_
            refine r_aload_n (pc' := 93) hX dX6_kept_92 rfl rfl ?_
            refine r_dup (pc' := 94) hX dX6_kept_93 rfl rfl ?_
            refine r_get (pc' := 97) (v := .int (nI ((r 0) - 1))) hX dX6_kept_94 f_X6_46 0 rfl rfl rfl ?_
            refine r_iconst (pc' := 98) (v := nI 1) hX dX6_kept_97 rfl rfl ?_
            refine r_iadd_N (pc' := 99) hX dX6_kept_98  rfl ?_
            refine r_put (ws' := wM cy ma (up1 (up1 r 0 ((r 0) - 1)) 0 (((r 0) - 1) + 1)) e g bf (cpy bf 0 hs (((r 0) - 1) * 159) 159) sv bu le pa) (pc' := 102) hX dX6_kept_99 f_X6_46 fw_X6_3 0 rfl rfl rfl (Nat.le_of_ble_eq_true rfl) rfl rfl ?_
            refine r_iload_n (pc' := 103) hX dX6_kept_102 rfl rfl ?_
            exact r_ireturn hX hE dX6_kept_103 rfl (.inr ⟨c4, rfl, by unfold khy; rw [if_pos (show r 0 = 8 by omega), up1_same, hh, show r 0 - 1 = min (r 0) 7 by omega]⟩) (by decide) (by decide)
          · refine r_aload_n (pc' := 41) hX dX6_kept_40 rfl rfl ?_
            refine r_get (pc' := 44) (v := .ref (ma 3)) hX dX6_kept_41 f_X6_16 0 rfl rfl rfl ?_
            refine r_iload_n (pc' := 45) hX dX6_kept_44 rfl rfl ?_
            refine r_aload_n (pc' := 46) hX dX6_kept_45 rfl rfl ?_
            refine r_get (pc' := 49) (v := .ref (ma 3)) hX dX6_kept_46 f_X6_16 0 rfl rfl rfl ?_
            refine r_iload_n (pc' := 50) hX dX6_kept_49 rfl rfl ?_
            refine r_sipush (pc' := 53) (v := nI 159) hX dX6_kept_50 rfl rfl ?_
            refine r_iadd_N (pc' := 54) hX dX6_kept_53  rfl ?_
            refine r_iald_N (pc' := 55) hX dX6_kept_54 (by rw [hcy]) 3 rfl (by omega) (by decide) rfl ?_
            change V X 0 0 (wM cy ma r e g bf hs sv bu le pa) [some (.ref (ma 0)), some (.int x), some (.int (nI k))] [.int (nI (hs (k + 159))), .int (nI k), .ref (ma 3)] 55
            refine r_iast_N (ws' := wM cy ma r e g bf (up1 hs k (hs (k + 159))) sv bu le pa) (pc' := 56) hX dX6_kept_55 (by rw [hcy]) 3 rfl (by omega) (by decide) rfl rfl ?_
            refine r_iinc_N (b := 1) (L' := [some (.ref (ma 0)), some (.int x), some (.int (nI (k + 1)))]) (pc' := 59) hX dX6_kept_56 rfl (nlt hnL (by decide)) rfl rfl rfl ?_
            refine r_goto (tgt := 33) hX dX6_kept_59 (by decide) ?_
            have hr9 : hs (k + 159) = hy (k + 159) := by rw [hh]; exact shf_r
            exact ih33 (k + 1) (up1 hs k (hs (k + 159))) (by omega) (by omega) (by rw [hr9, hh]; exact shf_s)
      exact loop33 _ 0 hy (Nat.lt_succ_self _) (by omega) shf_0
  · refine r_aload_n (pc' := 8) hX dX6_kept_7 rfl rfl ?_
    refine r_get (pc' := 11) (v := .ref (ma 2)) hX dX6_kept_8 f_X6_13 0 rfl rfl rfl ?_
    refine r_iconst (pc' := 12) (v := nI 0) hX dX6_kept_11 rfl rfl ?_
    refine r_aload_n (pc' := 13) hX dX6_kept_12 rfl rfl ?_
    refine r_get (pc' := 16) (v := .ref (ma 1)) hX dX6_kept_13 f_X6_7 0 rfl rfl rfl ?_
    refine r_iconst (pc' := 17) (v := nI 0) hX dX6_kept_16 rfl rfl ?_
    refine V_call (k' := 0) (n' := 0) (pc' := 20) (wr := (((wM cy ma r e g bf hy sv bu le pa).eraseIdx 2).eraseIdx 1)) hX (r_runS (As := [.ref (ma 2), .int (nI 0), .ref (ma 1), .int (nI 0)]) hX dX6_kept_17 k_X6_42 (fun l9 hl9 => cM_copy (x := ma 2) (y := ma 1) (n1 := 159) (n2 := 159) (f := bf) (h := g) (by omega) (by omega) (by omega) (by omega)) hG rfl rfl (Nat.le_of_ble_eq_true rfl) (by decide) (by decide) (by decide) (by decide)) (pick2 (i := 2) (j := 1) (Nat.le_of_ble_eq_true rfl) (Nat.le_of_ble_eq_true rfl)) rfl rfl rfl (fun w9 u9 hp9 => ?_)
    obtain ⟨rfl, rfl⟩ := hp9
    change V X 0 0 ([(ma 2, .inl (cy 0, aN 159 bf)), (ma 1, .inl (cy 0, aN 159 (cpy bf 0 g 0 159)))] ++ (((wM cy ma r e g bf hy sv bu le pa).eraseIdx 2).eraseIdx 1)) [some (.ref (ma 0)), some (.int x), none] [] 20
    refine V_perm ((pick2 (ws := wM cy ma r e (cpy bf 0 g 0 159) bf hy sv bu le pa) (i := 2) (j := 1) (Nat.le_of_ble_eq_true rfl) (Nat.le_of_ble_eq_true rfl)).symm) ?_
    refine r_iconst (pc' := 21) (v := nI 0) hX dX6_kept_20 rfl rfl ?_
    exact r_ireturn hX hE dX6_kept_21 rfl (.inl ⟨c4, rfl, rfl⟩) (by decide) (by decide)

set_option maxRecDepth 20000 in
set_option maxHeartbeats 4000000 in
theorem cMw_addAlloy {l : Launch} {D : va_G} {cy : Nat → ClassId} {sa : Nat → Nat} {ma : Nat → Nat} {S : AS} {t : Nat} {ws : va_W} (h : MS cy ma S t ws) (hv : Wf S.1) {x y z : Int32}  : MG l yX6_addAlloy cX6_addAlloy 4 (some .int) 2 0 0 (D, cy, sa) [.ref (ma 0), .int x, .int y, .int z] (ws) (fun w u => w = some (.int (mvl (oMix S.1 x y z).1)) ∧ MS cy ma (aMut S (oMix S.1 x y z)) (kd 0 1 2 0 0 (oMix S.1 x y z).1) u) := by
  obtain ⟨r, e, g, bf, hy, sv, bu, le, pa, rfl, hM⟩ := h
  have hM0 := hM
  obtain ⟨h4, hR, h0, h8, hH, hS, hT, hO, hE⟩ := hM
  obtain ⟨v, hvS⟩ : ∃ v, v = S.1 := ⟨_, rfl⟩
  rw [← hvS] at hv hR
  refine MG_by (own := RX6) (L := [some (.ref (ma 0)), some (.int x), some (.int y), some (.int z)]) (by decide +kernel) rfl rfl (Nat.le_of_ble_eq_true rfl) 0 rfl (fun X hX hE hnL hG hcy hnm => ?_)
  refine r_aload_n (pc' := 1) hX dX6_addAlloy_0 rfl rfl ?_
  refine V_call0 (k' := 0) (n' := 0) (pc' := 4) hX (r_runV (As := []) hX dX6_addAlloy_1 k_X6_73 (fun l9 hl9 => cM_begin) hG ⟨8, _, TX6, 16, List.mem_cons_self, rfl⟩ rfl rfl (Nat.le_of_ble_eq_true rfl) (by decide) (by decide) (by decide) (by decide)) rfl rfl rfl (fun w9 u9 hp9 => ?_)
  obtain ⟨rfl, rfl⟩ := hp9
  change V X 0 0 (wM cy ma r e g (cpy g 0 bf 0 159) hy sv bu le pa) [some (.ref (ma 0)), some (.int x), some (.int y), some (.int z)] [] 4
  refine r_aload_n (pc' := 5) hX dX6_addAlloy_4 rfl rfl ?_
  refine r_aload_n (pc' := 6) hX dX6_addAlloy_5 rfl rfl ?_
  refine r_iload_n (pc' := 7) hX dX6_addAlloy_6 rfl rfl ?_
  refine r_iload_n (pc' := 8) hX dX6_addAlloy_7 rfl rfl ?_
  refine r_iload_n (pc' := 9) hX dX6_addAlloy_8 rfl rfl ?_
  refine V_call0 (k' := 0) (n' := 0) (pc' := 12) hX (r_runV (As := [.int x, .int y, .int z]) hX dX6_addAlloy_9 k_X6_76 (fun l9 hl9 => cM_addsAlloy hv hR) hG ⟨8, _, TX6, 16, List.mem_cons_self, rfl⟩ rfl rfl (Nat.le_of_ble_eq_true rfl) (by decide) (by decide) (by decide) (by decide)) rfl rfl rfl (fun w9 u9 hp9 => ?_)
  obtain ⟨rfl, g', rfl, hg'⟩ := hp9
  change V X 0 0 (wM cy ma (up1 r 4 (kd 0 1 2 0 0 (oMix v x y z).1)) e g' (cpy g 0 bf 0 159) hy sv bu le pa) [some (.ref (ma 0)), some (.int x), some (.int y), some (.int z)] [.int (mvl (oMix v x y z).1), .ref (ma 0)] 12
  refine V_call0 (k' := 0) (n' := 0) (pc' := 15) hX (r_runV (As := [.int (mvl (oMix v x y z).1)]) hX dX6_addAlloy_12 k_X6_80 (fun l9 hl9 => cM_kept (by show up1 r 4 _ 0 ≤ 8; rw [up1_ne (by decide)]; omega) (by rw [up1_s]; exact kd_lt (by decide))) hG ⟨8, _, TX6, 16, List.mem_cons_self, rfl⟩ rfl rfl (Nat.le_of_ble_eq_true rfl) (by decide) (by decide) (by decide) (by decide)) rfl rfl rfl (fun w9 u9 hp9 => ?_)
  have hp9 := MS_mut (o := oMix v x y z) (S := S) (t := t) (by exact hM0) (oMix_co hv) hg' hp9 rfl
  obtain ⟨rfl, hMS⟩ := hp9
  change V X 0 0 (u9) [some (.ref (ma 0)), some (.int x), some (.int y), some (.int z)] [.int (mvl (oMix v x y z).1)] 15
  exact r_ireturn hX hE dX6_addAlloy_15 rfl ⟨by rw [hvS], by rw [← hvS]; exact hMS⟩ (by decide) (by decide)

set_option maxRecDepth 20000 in
set_option maxHeartbeats 4000000 in
theorem cMw_addMould {l : Launch} {D : va_G} {cy : Nat → ClassId} {sa : Nat → Nat} {ma : Nat → Nat} {S : AS} {t : Nat} {ws : va_W} (h : MS cy ma S t ws) (hv : Wf S.1) (hz : ∀ i, S.1 0 1 ≤ i → i < 4 → S.1 2 i = 0) {x : Int32}  : MG l yX6_addMould cX6_addMould 2 (some .int) 2 0 0 (D, cy, sa) [.ref (ma 0), .int x] (ws) (fun w u => w = some (.int (mvl (oMould S.1 x).1)) ∧ MS cy ma (aMut S (oMould S.1 x)) (kd 0 1 2 0 0 (oMould S.1 x).1) u) := by
  obtain ⟨r, e, g, bf, hy, sv, bu, le, pa, rfl, hM⟩ := h
  have hM0 := hM
  obtain ⟨h4, hR, h0, h8, hH, hS, hT, hO, hE⟩ := hM
  obtain ⟨v, hvS⟩ : ∃ v, v = S.1 := ⟨_, rfl⟩
  rw [← hvS] at hv hR
  rw [← hvS] at hz
  refine MG_by (own := RX6) (L := [some (.ref (ma 0)), some (.int x)]) (by decide +kernel) rfl rfl (Nat.le_of_ble_eq_true rfl) 0 rfl (fun X hX hE hnL hG hcy hnm => ?_)
  refine r_aload_n (pc' := 1) hX dX6_addMould_0 rfl rfl ?_
  refine V_call0 (k' := 0) (n' := 0) (pc' := 4) hX (r_runV (As := []) hX dX6_addMould_1 k_X6_73 (fun l9 hl9 => cM_begin) hG ⟨8, _, TX6, 16, List.mem_cons_self, rfl⟩ rfl rfl (Nat.le_of_ble_eq_true rfl) (by decide) (by decide) (by decide) (by decide)) rfl rfl rfl (fun w9 u9 hp9 => ?_)
  obtain ⟨rfl, rfl⟩ := hp9
  change V X 0 0 (wM cy ma r e g (cpy g 0 bf 0 159) hy sv bu le pa) [some (.ref (ma 0)), some (.int x)] [] 4
  refine r_aload_n (pc' := 5) hX dX6_addMould_4 rfl rfl ?_
  refine r_aload_n (pc' := 6) hX dX6_addMould_5 rfl rfl ?_
  refine r_iload_n (pc' := 7) hX dX6_addMould_6 rfl rfl ?_
  refine V_call0 (k' := 0) (n' := 0) (pc' := 10) hX (r_runV (As := [.int x]) hX dX6_addMould_7 k_X6_83 (fun l9 hl9 => cM_addsMould hv hR hz) hG ⟨8, _, TX6, 16, List.mem_cons_self, rfl⟩ rfl rfl (Nat.le_of_ble_eq_true rfl) (by decide) (by decide) (by decide) (by decide)) rfl rfl rfl (fun w9 u9 hp9 => ?_)
  obtain ⟨rfl, g', rfl, hg'⟩ := hp9
  change V X 0 0 (wM cy ma (up1 r 4 (kd 0 1 2 0 0 (oMould v x).1)) e g' (cpy g 0 bf 0 159) hy sv bu le pa) [some (.ref (ma 0)), some (.int x)] [.int (mvl (oMould v x).1), .ref (ma 0)] 10
  refine V_call0 (k' := 0) (n' := 0) (pc' := 13) hX (r_runV (As := [.int (mvl (oMould v x).1)]) hX dX6_addMould_10 k_X6_80 (fun l9 hl9 => cM_kept (by show up1 r 4 _ 0 ≤ 8; rw [up1_ne (by decide)]; omega) (by rw [up1_s]; exact kd_lt (by decide))) hG ⟨8, _, TX6, 16, List.mem_cons_self, rfl⟩ rfl rfl (Nat.le_of_ble_eq_true rfl) (by decide) (by decide) (by decide) (by decide)) rfl rfl rfl (fun w9 u9 hp9 => ?_)
  have hp9 := MS_mut (o := oMould v x) (S := S) (t := t) (by exact hM0) (oMould_co hv) hg' hp9 rfl
  obtain ⟨rfl, hMS⟩ := hp9
  change V X 0 0 (u9) [some (.ref (ma 0)), some (.int x)] [.int (mvl (oMould v x).1)] 13
  exact r_ireturn hX hE dX6_addMould_13 rfl ⟨by rw [hvS], by rw [← hvS]; exact hMS⟩ (by decide) (by decide)

set_option maxRecDepth 20000 in
set_option maxHeartbeats 4000000 in
theorem cMw_buy {l : Launch} {D : va_G} {cy : Nat → ClassId} {sa : Nat → Nat} {ma : Nat → Nat} {S : AS} {t : Nat} {ws : va_W} (h : MS cy ma S t ws) (hv : Wf S.1) {x y : Int32}  : MG l yX6_buy cX6_buy 3 (some .int) 3 0 0 (D, cy, sa) [.ref (ma 0), .int x, .int y] (ws) (fun w u => w = some (.int (mvl (oBuy S.1 x y).1)) ∧ MS cy ma (aMut S (oBuy S.1 x y)) (kd 1 2 3 0 0 (oBuy S.1 x y).1) u) := by
  obtain ⟨r, e, g, bf, hy, sv, bu, le, pa, rfl, hM⟩ := h
  have hM0 := hM
  obtain ⟨h4, hR, h0, h8, hH, hS, hT, hO, hE⟩ := hM
  obtain ⟨v, hvS⟩ : ∃ v, v = S.1 := ⟨_, rfl⟩
  rw [← hvS] at hv hR
  refine MG_by (own := RX6) (L := [some (.ref (ma 0)), some (.int x), some (.int y)]) (by decide +kernel) rfl rfl (Nat.le_of_ble_eq_true rfl) 0 rfl (fun X hX hE hnL hG hcy hnm => ?_)
  refine r_aload_n (pc' := 1) hX dX6_buy_0 rfl rfl ?_
  refine V_call0 (k' := 0) (n' := 0) (pc' := 4) hX (r_runV (As := []) hX dX6_buy_1 k_X6_73 (fun l9 hl9 => cM_begin) hG ⟨8, _, TX6, 16, List.mem_cons_self, rfl⟩ rfl rfl (Nat.le_of_ble_eq_true rfl) (by decide) (by decide) (by decide) (by decide)) rfl rfl rfl (fun w9 u9 hp9 => ?_)
  obtain ⟨rfl, rfl⟩ := hp9
  change V X 0 0 (wM cy ma r e g (cpy g 0 bf 0 159) hy sv bu le pa) [some (.ref (ma 0)), some (.int x), some (.int y)] [] 4
  refine r_aload_n (pc' := 5) hX dX6_buy_4 rfl rfl ?_
  refine r_aload_n (pc' := 6) hX dX6_buy_5 rfl rfl ?_
  refine r_iload_n (pc' := 7) hX dX6_buy_6 rfl rfl ?_
  refine r_iload_n (pc' := 8) hX dX6_buy_7 rfl rfl ?_
  refine V_call0 (k' := 0) (n' := 0) (pc' := 11) hX (r_runV (As := [.int x, .int y]) hX dX6_buy_8 k_X6_90 (fun l9 hl9 => cM_buys hv hR) hG ⟨8, _, TX6, 16, List.mem_cons_self, rfl⟩ rfl rfl (Nat.le_of_ble_eq_true rfl) (by decide) (by decide) (by decide) (by decide)) rfl rfl rfl (fun w9 u9 hp9 => ?_)
  obtain ⟨rfl, g', rfl, hg'⟩ := hp9
  change V X 0 0 (wM cy ma (up1 r 4 (kd 1 2 3 0 0 (oBuy v x y).1)) e g' (cpy g 0 bf 0 159) hy sv bu le pa) [some (.ref (ma 0)), some (.int x), some (.int y)] [.int (mvl (oBuy v x y).1), .ref (ma 0)] 11
  refine V_call0 (k' := 0) (n' := 0) (pc' := 14) hX (r_runV (As := [.int (mvl (oBuy v x y).1)]) hX dX6_buy_11 k_X6_80 (fun l9 hl9 => cM_kept (by show up1 r 4 _ 0 ≤ 8; rw [up1_ne (by decide)]; omega) (by rw [up1_s]; exact kd_lt (by decide))) hG ⟨8, _, TX6, 16, List.mem_cons_self, rfl⟩ rfl rfl (Nat.le_of_ble_eq_true rfl) (by decide) (by decide) (by decide) (by decide)) rfl rfl rfl (fun w9 u9 hp9 => ?_)
  have hp9 := MS_mut (o := oBuy v x y) (S := S) (t := t) (by exact hM0) (oBuy_co hv) hg' hp9 rfl
  obtain ⟨rfl, hMS⟩ := hp9
  change V X 0 0 (u9) [some (.ref (ma 0)), some (.int x), some (.int y)] [.int (mvl (oBuy v x y).1)] 14
  exact r_ireturn hX hE dX6_buy_14 rfl ⟨by rw [hvS], by rw [← hvS]; exact hMS⟩ (by decide) (by decide)

set_option maxRecDepth 20000 in
set_option maxHeartbeats 4000000 in
theorem cMw_cast {l : Launch} {D : va_G} {cy : Nat → ClassId} {sa : Nat → Nat} {ma : Nat → Nat} {S : AS} {t : Nat} {ws : va_W} (h : MS cy ma S t ws) (hv : Wf S.1) {x y z : Int32}  : MG l yX6_cast cX6_cast 4 (some .int) 3 0 0 (D, cy, sa) [.ref (ma 0), .int x, .int y, .int z] (ws) (fun w u => w = some (.int (mvl (oPour S.1 x y z).1)) ∧ MS cy ma (aMut S (oPour S.1 x y z)) (kd 1 2 3 4 0 (oPour S.1 x y z).1) u) := by
  obtain ⟨r, e, g, bf, hy, sv, bu, le, pa, rfl, hM⟩ := h
  have hM0 := hM
  obtain ⟨h4, hR, h0, h8, hH, hS, hT, hO, hE⟩ := hM
  obtain ⟨v, hvS⟩ : ∃ v, v = S.1 := ⟨_, rfl⟩
  rw [← hvS] at hv hR
  refine MG_by (own := RX6) (L := [some (.ref (ma 0)), some (.int x), some (.int y), some (.int z)]) (by decide +kernel) rfl rfl (Nat.le_of_ble_eq_true rfl) 0 rfl (fun X hX hE hnL hG hcy hnm => ?_)
  refine r_aload_n (pc' := 1) hX dX6_cast_0 rfl rfl ?_
  refine V_call0 (k' := 0) (n' := 0) (pc' := 4) hX (r_runV (As := []) hX dX6_cast_1 k_X6_73 (fun l9 hl9 => cM_begin) hG ⟨8, _, TX6, 16, List.mem_cons_self, rfl⟩ rfl rfl (Nat.le_of_ble_eq_true rfl) (by decide) (by decide) (by decide) (by decide)) rfl rfl rfl (fun w9 u9 hp9 => ?_)
  obtain ⟨rfl, rfl⟩ := hp9
  change V X 0 0 (wM cy ma r e g (cpy g 0 bf 0 159) hy sv bu le pa) [some (.ref (ma 0)), some (.int x), some (.int y), some (.int z)] [] 4
  refine r_aload_n (pc' := 5) hX dX6_cast_4 rfl rfl ?_
  refine r_aload_n (pc' := 6) hX dX6_cast_5 rfl rfl ?_
  refine r_iload_n (pc' := 7) hX dX6_cast_6 rfl rfl ?_
  refine r_iload_n (pc' := 8) hX dX6_cast_7 rfl rfl ?_
  refine r_iload_n (pc' := 9) hX dX6_cast_8 rfl rfl ?_
  refine V_call0 (k' := 0) (n' := 0) (pc' := 12) hX (r_runV (As := [.int x, .int y, .int z]) hX dX6_cast_9 k_X6_106 (fun l9 hl9 => cM_casts hv hR) hG ⟨8, _, TX6, 16, List.mem_cons_self, rfl⟩ rfl rfl (Nat.le_of_ble_eq_true rfl) (by decide) (by decide) (by decide) (by decide)) rfl rfl rfl (fun w9 u9 hp9 => ?_)
  obtain ⟨rfl, g', rfl, hg'⟩ := hp9
  change V X 0 0 (wM cy ma (up1 r 4 (kd 1 2 3 4 0 (oPour v x y z).1)) e g' (cpy g 0 bf 0 159) hy sv bu le pa) [some (.ref (ma 0)), some (.int x), some (.int y), some (.int z)] [.int (mvl (oPour v x y z).1), .ref (ma 0)] 12
  refine V_call0 (k' := 0) (n' := 0) (pc' := 15) hX (r_runV (As := [.int (mvl (oPour v x y z).1)]) hX dX6_cast_12 k_X6_80 (fun l9 hl9 => cM_kept (by show up1 r 4 _ 0 ≤ 8; rw [up1_ne (by decide)]; omega) (by rw [up1_s]; exact kd_lt (by decide))) hG ⟨8, _, TX6, 16, List.mem_cons_self, rfl⟩ rfl rfl (Nat.le_of_ble_eq_true rfl) (by decide) (by decide) (by decide) (by decide)) rfl rfl rfl (fun w9 u9 hp9 => ?_)
  have hp9 := MS_mut (o := oPour v x y z) (S := S) (t := t) (by exact hM0) (oPour_co hv) hg' hp9 rfl
  obtain ⟨rfl, hMS⟩ := hp9
  change V X 0 0 (u9) [some (.ref (ma 0)), some (.int x), some (.int y), some (.int z)] [.int (mvl (oPour v x y z).1)] 15
  exact r_ireturn hX hE dX6_cast_15 rfl ⟨by rw [hvS], by rw [← hvS]; exact hMS⟩ (by decide) (by decide)

set_option maxRecDepth 20000 in
set_option maxHeartbeats 4000000 in
theorem cMw_inspect {l : Launch} {D : va_G} {cy : Nat → ClassId} {sa : Nat → Nat} {ma : Nat → Nat} {S : AS} {t : Nat} {ws : va_W} (h : MS cy ma S t ws) (hv : Wf S.1) {x : Int32}  : MG l yX6_inspect cX6_inspect 2 (some .boolean) 4 0 0 (D, cy, sa) [.ref (ma 0), .int x] (ws) (fun w u => w = some (.int (bI (mvl (oExam S.1 x).1 = nI 1))) ∧ MS cy ma (aMut S (oExam S.1 x)) (kd 0 0 2 0 1 (oExam S.1 x).1) u) := by
  obtain ⟨r, e, g, bf, hy, sv, bu, le, pa, rfl, hM⟩ := h
  have hM0 := hM
  obtain ⟨h4, hR, h0, h8, hH, hS, hT, hO, hE⟩ := hM
  obtain ⟨v, hvS⟩ : ∃ v, v = S.1 := ⟨_, rfl⟩
  rw [← hvS] at hv hR
  refine MG_by (own := RX6) (L := [some (.ref (ma 0)), some (.int x)]) (by decide +kernel) rfl rfl (Nat.le_of_ble_eq_true rfl) 0 rfl (fun X hX hE hnL hG hcy hnm => ?_)
  refine r_aload_n (pc' := 1) hX dX6_inspect_0 rfl rfl ?_
  refine V_call0 (k' := 0) (n' := 0) (pc' := 4) hX (r_runV (As := []) hX dX6_inspect_1 k_X6_73 (fun l9 hl9 => cM_begin) hG ⟨8, _, TX6, 16, List.mem_cons_self, rfl⟩ rfl rfl (Nat.le_of_ble_eq_true rfl) (by decide) (by decide) (by decide) (by decide)) rfl rfl rfl (fun w9 u9 hp9 => ?_)
  obtain ⟨rfl, rfl⟩ := hp9
  change V X 0 0 (wM cy ma r e g (cpy g 0 bf 0 159) hy sv bu le pa) [some (.ref (ma 0)), some (.int x)] [] 4
  refine r_aload_n (pc' := 5) hX dX6_inspect_4 rfl rfl ?_
  refine r_aload_n (pc' := 6) hX dX6_inspect_5 rfl rfl ?_
  refine r_iload_n (pc' := 7) hX dX6_inspect_6 rfl rfl ?_
  refine V_call0 (k' := 0) (n' := 0) (pc' := 10) hX (r_runV (As := [.int x]) hX dX6_inspect_7 k_X6_122 (fun l9 hl9 => cM_inspects hv hR) hG ⟨8, _, TX6, 16, List.mem_cons_self, rfl⟩ rfl rfl (Nat.le_of_ble_eq_true rfl) (by decide) (by decide) (by decide) (by decide)) rfl rfl rfl (fun w9 u9 hp9 => ?_)
  obtain ⟨rfl, g', rfl, hg'⟩ := hp9
  change V X 0 0 (wM cy ma (up1 r 4 (kd 0 0 2 0 1 (oExam v x).1)) e g' (cpy g 0 bf 0 159) hy sv bu le pa) [some (.ref (ma 0)), some (.int x)] [.int (mvl (oExam v x).1), .ref (ma 0)] 10
  refine V_call0 (k' := 0) (n' := 0) (pc' := 13) hX (r_runV (As := [.int (mvl (oExam v x).1)]) hX dX6_inspect_10 k_X6_80 (fun l9 hl9 => cM_kept (by show up1 r 4 _ 0 ≤ 8; rw [up1_ne (by decide)]; omega) (by rw [up1_s]; exact kd_lt (by decide))) hG ⟨8, _, TX6, 16, List.mem_cons_self, rfl⟩ rfl rfl (Nat.le_of_ble_eq_true rfl) (by decide) (by decide) (by decide) (by decide)) rfl rfl rfl (fun w9 u9 hp9 => ?_)
  have hp9 := MS_mut (o := oExam v x) (S := S) (t := t) (by exact hM0) (oExam_co hv) hg' hp9 rfl
  obtain ⟨rfl, hMS⟩ := hp9
  change V X 0 0 (u9) [some (.ref (ma 0)), some (.int x)] [.int (mvl (oExam v x).1)] 13
  refine r_iconst (pc' := 14) (v := nI 1) hX dX6_inspect_13 rfl rfl ?_
  refine r_icmp_ne (tgt := 21) (pc' := 17) hX dX6_inspect_14 (by decide) rfl (fun c14 => ?_) (fun c14 => ?_)
  · refine r_iconst (pc' := 22) (v := nI 0) hX dX6_inspect_21 rfl rfl ?_
    exact r_zreturn hX hE dX6_inspect_22 rfl rfl ⟨by rw [← hvS]; exact rB0 c14, by rw [← hvS]; exact hMS⟩ (by decide) (by decide)
  · refine r_iconst (pc' := 18) (v := nI 1) hX dX6_inspect_17 rfl rfl ?_
    refine r_goto (tgt := 22) hX dX6_inspect_18 (by decide) ?_
    exact r_zreturn hX hE dX6_inspect_22 rfl rfl ⟨by rw [← hvS]; exact rB1 c14, by rw [← hvS]; exact hMS⟩ (by decide) (by decide)

set_option maxRecDepth 20000 in
set_option maxHeartbeats 4000000 in
theorem cMw_melt {l : Launch} {D : va_G} {cy : Nat → ClassId} {sa : Nat → Nat} {ma : Nat → Nat} {S : AS} {t : Nat} {ws : va_W} (h : MS cy ma S t ws) (hv : Wf S.1) {x : Int32}  : MG l yX6_melt cX6_melt 2 (some .int) 2 0 0 (D, cy, sa) [.ref (ma 0), .int x] (ws) (fun w u => w = some (.int (mvl (oMelt S.1 x).1)) ∧ MS cy ma (aMut S (oMelt S.1 x)) (kd 0 0 2 0 1 (oMelt S.1 x).1) u) := by
  obtain ⟨r, e, g, bf, hy, sv, bu, le, pa, rfl, hM⟩ := h
  have hM0 := hM
  obtain ⟨h4, hR, h0, h8, hH, hS, hT, hO, hE⟩ := hM
  obtain ⟨v, hvS⟩ : ∃ v, v = S.1 := ⟨_, rfl⟩
  rw [← hvS] at hv hR
  refine MG_by (own := RX6) (L := [some (.ref (ma 0)), some (.int x)]) (by decide +kernel) rfl rfl (Nat.le_of_ble_eq_true rfl) 0 rfl (fun X hX hE hnL hG hcy hnm => ?_)
  refine r_aload_n (pc' := 1) hX dX6_melt_0 rfl rfl ?_
  refine V_call0 (k' := 0) (n' := 0) (pc' := 4) hX (r_runV (As := []) hX dX6_melt_1 k_X6_73 (fun l9 hl9 => cM_begin) hG ⟨8, _, TX6, 16, List.mem_cons_self, rfl⟩ rfl rfl (Nat.le_of_ble_eq_true rfl) (by decide) (by decide) (by decide) (by decide)) rfl rfl rfl (fun w9 u9 hp9 => ?_)
  obtain ⟨rfl, rfl⟩ := hp9
  change V X 0 0 (wM cy ma r e g (cpy g 0 bf 0 159) hy sv bu le pa) [some (.ref (ma 0)), some (.int x)] [] 4
  refine r_aload_n (pc' := 5) hX dX6_melt_4 rfl rfl ?_
  refine r_aload_n (pc' := 6) hX dX6_melt_5 rfl rfl ?_
  refine r_iload_n (pc' := 7) hX dX6_melt_6 rfl rfl ?_
  refine V_call0 (k' := 0) (n' := 0) (pc' := 10) hX (r_runV (As := [.int x]) hX dX6_melt_7 k_X6_125 (fun l9 hl9 => cM_melts hv hR) hG ⟨8, _, TX6, 16, List.mem_cons_self, rfl⟩ rfl rfl (Nat.le_of_ble_eq_true rfl) (by decide) (by decide) (by decide) (by decide)) rfl rfl rfl (fun w9 u9 hp9 => ?_)
  obtain ⟨rfl, g', rfl, hg'⟩ := hp9
  change V X 0 0 (wM cy ma (up1 r 4 (kd 0 0 2 0 1 (oMelt v x).1)) e g' (cpy g 0 bf 0 159) hy sv bu le pa) [some (.ref (ma 0)), some (.int x)] [.int (mvl (oMelt v x).1), .ref (ma 0)] 10
  refine V_call0 (k' := 0) (n' := 0) (pc' := 13) hX (r_runV (As := [.int (mvl (oMelt v x).1)]) hX dX6_melt_10 k_X6_80 (fun l9 hl9 => cM_kept (by show up1 r 4 _ 0 ≤ 8; rw [up1_ne (by decide)]; omega) (by rw [up1_s]; exact kd_lt (by decide))) hG ⟨8, _, TX6, 16, List.mem_cons_self, rfl⟩ rfl rfl (Nat.le_of_ble_eq_true rfl) (by decide) (by decide) (by decide) (by decide)) rfl rfl rfl (fun w9 u9 hp9 => ?_)
  have hp9 := MS_mut (o := oMelt v x) (S := S) (t := t) (by exact hM0) (oMelt_co hv) hg' hp9 rfl
  obtain ⟨rfl, hMS⟩ := hp9
  change V X 0 0 (u9) [some (.ref (ma 0)), some (.int x)] [.int (mvl (oMelt v x).1)] 13
  exact r_ireturn hX hE dX6_melt_13 rfl ⟨by rw [hvS], by rw [← hvS]; exact hMS⟩ (by decide) (by decide)

set_option maxRecDepth 20000 in
set_option maxHeartbeats 4000000 in
theorem cMw_renewMould {l : Launch} {D : va_G} {cy : Nat → ClassId} {sa : Nat → Nat} {ma : Nat → Nat} {S : AS} {t : Nat} {ws : va_W} (h : MS cy ma S t ws) (hv : Wf S.1) {x : Int32}  : MG l yX6_renewMould cX6_renewMould 2 (some .int) 3 0 0 (D, cy, sa) [.ref (ma 0), .int x] (ws) (fun w u => w = some (.int (mvl (oReset S.1 x).1)) ∧ MS cy ma (aMut S (oReset S.1 x)) (kd 1 0 0 0 0 (oReset S.1 x).1) u) := by
  obtain ⟨r, e, g, bf, hy, sv, bu, le, pa, rfl, hM⟩ := h
  have hM0 := hM
  obtain ⟨h4, hR, h0, h8, hH, hS, hT, hO, hE⟩ := hM
  obtain ⟨v, hvS⟩ : ∃ v, v = S.1 := ⟨_, rfl⟩
  rw [← hvS] at hv hR
  refine MG_by (own := RX6) (L := [some (.ref (ma 0)), some (.int x)]) (by decide +kernel) rfl rfl (Nat.le_of_ble_eq_true rfl) 0 rfl (fun X hX hE hnL hG hcy hnm => ?_)
  refine r_aload_n (pc' := 1) hX dX6_renewMould_0 rfl rfl ?_
  refine V_call0 (k' := 0) (n' := 0) (pc' := 4) hX (r_runV (As := []) hX dX6_renewMould_1 k_X6_73 (fun l9 hl9 => cM_begin) hG ⟨8, _, TX6, 16, List.mem_cons_self, rfl⟩ rfl rfl (Nat.le_of_ble_eq_true rfl) (by decide) (by decide) (by decide) (by decide)) rfl rfl rfl (fun w9 u9 hp9 => ?_)
  obtain ⟨rfl, rfl⟩ := hp9
  change V X 0 0 (wM cy ma r e g (cpy g 0 bf 0 159) hy sv bu le pa) [some (.ref (ma 0)), some (.int x)] [] 4
  refine r_aload_n (pc' := 5) hX dX6_renewMould_4 rfl rfl ?_
  refine r_aload_n (pc' := 6) hX dX6_renewMould_5 rfl rfl ?_
  refine r_iload_n (pc' := 7) hX dX6_renewMould_6 rfl rfl ?_
  refine V_call0 (k' := 0) (n' := 0) (pc' := 10) hX (r_runV (As := [.int x]) hX dX6_renewMould_7 k_X6_128 (fun l9 hl9 => cM_renews hv hR) hG ⟨8, _, TX6, 16, List.mem_cons_self, rfl⟩ rfl rfl (Nat.le_of_ble_eq_true rfl) (by decide) (by decide) (by decide) (by decide)) rfl rfl rfl (fun w9 u9 hp9 => ?_)
  obtain ⟨rfl, g', rfl, hg'⟩ := hp9
  change V X 0 0 (wM cy ma (up1 r 4 (kd 1 0 0 0 0 (oReset v x).1)) e g' (cpy g 0 bf 0 159) hy sv bu le pa) [some (.ref (ma 0)), some (.int x)] [.int (mvl (oReset v x).1), .ref (ma 0)] 10
  refine V_call0 (k' := 0) (n' := 0) (pc' := 13) hX (r_runV (As := [.int (mvl (oReset v x).1)]) hX dX6_renewMould_10 k_X6_80 (fun l9 hl9 => cM_kept (by show up1 r 4 _ 0 ≤ 8; rw [up1_ne (by decide)]; omega) (by rw [up1_s]; exact kd_lt (by decide))) hG ⟨8, _, TX6, 16, List.mem_cons_self, rfl⟩ rfl rfl (Nat.le_of_ble_eq_true rfl) (by decide) (by decide) (by decide) (by decide)) rfl rfl rfl (fun w9 u9 hp9 => ?_)
  have hp9 := MS_mut (o := oReset v x) (S := S) (t := t) (by exact hM0) (oReset_co hv) hg' hp9 rfl
  obtain ⟨rfl, hMS⟩ := hp9
  change V X 0 0 (u9) [some (.ref (ma 0)), some (.int x)] [.int (mvl (oReset v x).1)] 13
  exact r_ireturn hX hE dX6_renewMould_13 rfl ⟨by rw [hvS], by rw [← hvS]; exact hMS⟩ (by decide) (by decide)

set_option maxRecDepth 20000 in
set_option maxHeartbeats 4000000 in
theorem cMw_setTolerance {l : Launch} {D : va_G} {cy : Nat → ClassId} {sa : Nat → Nat} {ma : Nat → Nat} {S : AS} {t : Nat} {ws : va_W} (h : MS cy ma S t ws) (hv : Wf S.1) {x : Int32}  : MG l yX6_setTolerance cX6_setTolerance 2 (some .int) 2 0 0 (D, cy, sa) [.ref (ma 0), .int x] (ws) (fun w u => w = some (.int (mvl (oTol S.1 x).1)) ∧ MS cy ma (aMut S (oTol S.1 x)) (kd 0 1 0 0 0 (oTol S.1 x).1) u) := by
  obtain ⟨r, e, g, bf, hy, sv, bu, le, pa, rfl, hM⟩ := h
  have hM0 := hM
  obtain ⟨h4, hR, h0, h8, hH, hS, hT, hO, hE⟩ := hM
  obtain ⟨v, hvS⟩ : ∃ v, v = S.1 := ⟨_, rfl⟩
  rw [← hvS] at hv hR
  refine MG_by (own := RX6) (L := [some (.ref (ma 0)), some (.int x)]) (by decide +kernel) rfl rfl (Nat.le_of_ble_eq_true rfl) 0 rfl (fun X hX hE hnL hG hcy hnm => ?_)
  refine r_aload_n (pc' := 1) hX dX6_setTolerance_0 rfl rfl ?_
  refine V_call0 (k' := 0) (n' := 0) (pc' := 4) hX (r_runV (As := []) hX dX6_setTolerance_1 k_X6_73 (fun l9 hl9 => cM_begin) hG ⟨8, _, TX6, 16, List.mem_cons_self, rfl⟩ rfl rfl (Nat.le_of_ble_eq_true rfl) (by decide) (by decide) (by decide) (by decide)) rfl rfl rfl (fun w9 u9 hp9 => ?_)
  obtain ⟨rfl, rfl⟩ := hp9
  change V X 0 0 (wM cy ma r e g (cpy g 0 bf 0 159) hy sv bu le pa) [some (.ref (ma 0)), some (.int x)] [] 4
  refine r_aload_n (pc' := 5) hX dX6_setTolerance_4 rfl rfl ?_
  refine r_aload_n (pc' := 6) hX dX6_setTolerance_5 rfl rfl ?_
  refine r_iconst (pc' := 7) (v := nI 3) hX dX6_setTolerance_6 rfl rfl ?_
  refine r_iload_n (pc' := 8) hX dX6_setTolerance_7 rfl rfl ?_
  refine r_iconst (pc' := 9) (v := nI 0) hX dX6_setTolerance_8 rfl rfl ?_
  refine r_bipush (pc' := 11) (v := nI 99) hX dX6_setTolerance_9 rfl rfl ?_
  refine V_call0 (k' := 0) (n' := 0) (pc' := 14) hX (r_runV (As := [.int (nI 3), .int x, .int (nI 0), .int (nI 99)]) hX dX6_setTolerance_11 k_X6_131 (fun l9 hl9 => cM_setsTol hv hR) hG ⟨8, _, TX6, 16, List.mem_cons_self, rfl⟩ rfl rfl (Nat.le_of_ble_eq_true rfl) (by decide) (by decide) (by decide) (by decide)) rfl rfl rfl (fun w9 u9 hp9 => ?_)
  obtain ⟨rfl, g', rfl, hg'⟩ := hp9
  change V X 0 0 (wM cy ma (up1 r 4 (kd 0 1 0 0 0 (oTol v x).1)) e g' (cpy g 0 bf 0 159) hy sv bu le pa) [some (.ref (ma 0)), some (.int x)] [.int (mvl (oTol v x).1), .ref (ma 0)] 14
  refine V_call0 (k' := 0) (n' := 0) (pc' := 17) hX (r_runV (As := [.int (mvl (oTol v x).1)]) hX dX6_setTolerance_14 k_X6_80 (fun l9 hl9 => cM_kept (by show up1 r 4 _ 0 ≤ 8; rw [up1_ne (by decide)]; omega) (by rw [up1_s]; exact kd_lt (by decide))) hG ⟨8, _, TX6, 16, List.mem_cons_self, rfl⟩ rfl rfl (Nat.le_of_ble_eq_true rfl) (by decide) (by decide) (by decide) (by decide)) rfl rfl rfl (fun w9 u9 hp9 => ?_)
  have hp9 := MS_mut (o := oTol v x) (S := S) (t := t) (by exact hM0) (oTol_co hv) hg' hp9 rfl
  obtain ⟨rfl, hMS⟩ := hp9
  change V X 0 0 (u9) [some (.ref (ma 0)), some (.int x)] [.int (mvl (oTol v x).1)] 17
  exact r_ireturn hX hE dX6_setTolerance_17 rfl ⟨by rw [hvS], by rw [← hvS]; exact hMS⟩ (by decide) (by decide)

set_option maxRecDepth 20000 in
set_option maxHeartbeats 4000000 in
theorem cMw_setStep {l : Launch} {D : va_G} {cy : Nat → ClassId} {sa : Nat → Nat} {ma : Nat → Nat} {S : AS} {t : Nat} {ws : va_W} (h : MS cy ma S t ws) (hv : Wf S.1) {x : Int32}  : MG l yX6_setStep cX6_setStep 2 (some .int) 2 0 0 (D, cy, sa) [.ref (ma 0), .int x] (ws) (fun w u => w = some (.int (mvl (oStep S.1 x).1)) ∧ MS cy ma (aMut S (oStep S.1 x)) (kd 0 1 0 0 0 (oStep S.1 x).1) u) := by
  obtain ⟨r, e, g, bf, hy, sv, bu, le, pa, rfl, hM⟩ := h
  have hM0 := hM
  obtain ⟨h4, hR, h0, h8, hH, hS, hT, hO, hE⟩ := hM
  obtain ⟨v, hvS⟩ : ∃ v, v = S.1 := ⟨_, rfl⟩
  rw [← hvS] at hv hR
  refine MG_by (own := RX6) (L := [some (.ref (ma 0)), some (.int x)]) (by decide +kernel) rfl rfl (Nat.le_of_ble_eq_true rfl) 0 rfl (fun X hX hE hnL hG hcy hnm => ?_)
  refine r_aload_n (pc' := 1) hX dX6_setStep_0 rfl rfl ?_
  refine V_call0 (k' := 0) (n' := 0) (pc' := 4) hX (r_runV (As := []) hX dX6_setStep_1 k_X6_73 (fun l9 hl9 => cM_begin) hG ⟨8, _, TX6, 16, List.mem_cons_self, rfl⟩ rfl rfl (Nat.le_of_ble_eq_true rfl) (by decide) (by decide) (by decide) (by decide)) rfl rfl rfl (fun w9 u9 hp9 => ?_)
  obtain ⟨rfl, rfl⟩ := hp9
  change V X 0 0 (wM cy ma r e g (cpy g 0 bf 0 159) hy sv bu le pa) [some (.ref (ma 0)), some (.int x)] [] 4
  refine r_aload_n (pc' := 5) hX dX6_setStep_4 rfl rfl ?_
  refine r_aload_n (pc' := 6) hX dX6_setStep_5 rfl rfl ?_
  refine r_iconst (pc' := 7) (v := nI 4) hX dX6_setStep_6 rfl rfl ?_
  refine r_iload_n (pc' := 8) hX dX6_setStep_7 rfl rfl ?_
  refine r_iconst (pc' := 9) (v := nI 1) hX dX6_setStep_8 rfl rfl ?_
  refine r_iconst (pc' := 10) (v := nI 5) hX dX6_setStep_9 rfl rfl ?_
  refine V_call0 (k' := 0) (n' := 0) (pc' := 13) hX (r_runV (As := [.int (nI 4), .int x, .int (nI 1), .int (nI 5)]) hX dX6_setStep_10 k_X6_131 (fun l9 hl9 => cM_setsStep hv hR) hG ⟨8, _, TX6, 16, List.mem_cons_self, rfl⟩ rfl rfl (Nat.le_of_ble_eq_true rfl) (by decide) (by decide) (by decide) (by decide)) rfl rfl rfl (fun w9 u9 hp9 => ?_)
  obtain ⟨rfl, g', rfl, hg'⟩ := hp9
  change V X 0 0 (wM cy ma (up1 r 4 (kd 0 1 0 0 0 (oStep v x).1)) e g' (cpy g 0 bf 0 159) hy sv bu le pa) [some (.ref (ma 0)), some (.int x)] [.int (mvl (oStep v x).1), .ref (ma 0)] 13
  refine V_call0 (k' := 0) (n' := 0) (pc' := 16) hX (r_runV (As := [.int (mvl (oStep v x).1)]) hX dX6_setStep_13 k_X6_80 (fun l9 hl9 => cM_kept (by show up1 r 4 _ 0 ≤ 8; rw [up1_ne (by decide)]; omega) (by rw [up1_s]; exact kd_lt (by decide))) hG ⟨8, _, TX6, 16, List.mem_cons_self, rfl⟩ rfl rfl (Nat.le_of_ble_eq_true rfl) (by decide) (by decide) (by decide) (by decide)) rfl rfl rfl (fun w9 u9 hp9 => ?_)
  have hp9 := MS_mut (o := oStep v x) (S := S) (t := t) (by exact hM0) (oStep_co hv) hg' hp9 rfl
  obtain ⟨rfl, hMS⟩ := hp9
  change V X 0 0 (u9) [some (.ref (ma 0)), some (.int x)] [.int (mvl (oStep v x).1)] 16
  exact r_ireturn hX hE dX6_setStep_16 rfl ⟨by rw [hvS], by rw [← hvS]; exact hMS⟩ (by decide) (by decide)
