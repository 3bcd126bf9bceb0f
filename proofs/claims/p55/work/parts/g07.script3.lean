theorem b_true {b : Bool} (h : ¬ b = false) : b = true := by
  cases b with
  | true => rfl
  | false => exact absurd rfl h
theorem pall_lenT {t : List Nat} : ∀ {f p : Nat}, (pall t f p).2.1 ≤ p + 41 * f
  | 0, p => Nat.le_refl _
  | f + 1, p => by
    have h1 := prs_hi (t := t) (p := p)
    rw [pall]
    split
    · show (prs t p).2.1 ≤ _; omega
    · split
      · show (prs t p).2.1 ≤ _; omega
      · split
        · have := pall_lenT (t := t) (f := f) (p := (prs t p).2.1 + 1)
          show (pall t f ((prs t p).2.1 + 1)).2.1 ≤ _
          omega
        · show (prs t p).2.1 ≤ _; omega
set_option maxRecDepth 20000 in
set_option maxHeartbeats 1000000 in
theorem cP_next {l : Launch} {D : va_G} {cy : Nat → ClassId} {sa : Nat → Nat} {s nq t q m ml c ct po co : Nat} {g nb : Nat → Nat} {tx : List Nat} (h : SBp m c g tx) (hc : c ≤ 60) (hpo : po ≤ 61) : MG l yX3_nextCommand cX3_nextCommand 4 (some (.object "BowFoundry$Command")) 7 0 0 (D, cy, sa) [.ref s] ((wScr cy s nq t q m ml c g nb ct po co)) (fun w u => w = some (if (prs tx po).1 = false then .ref (sa (10 + fi tx po)) else .null) ∧ ∃ (ct1 : Nat) (nb1 : Nat → Nat), u = wScr cy s nq t q m ml c g nb1 ct1 ((prs tx po).2.1) co ∧ ((prs tx po).1 = false → LT nb1 (prs tx po).2.2)) := by
  refine MG_by (own := RX3) (L := [some (.ref s), none, none, none]) (by decide +kernel) rfl rfl (Nat.le_of_ble_eq_true rfl) 3 rfl (fun X hX hE hnL hG hcy hnm => ?_)
  have hph := prs_hi (t := tx) (p := po)
  refine r_aload_n (pc' := 1) hX dX3_nextCommand_0 rfl rfl ?_
  refine r_get (pc' := 4) (v := .int (nI po)) hX dX3_nextCommand_1 f_X3_26 0 rfl rfl rfl ?_
  refine r_istore_n (L' := [some (.ref s), some (.int (nI po)), none, none]) (pc' := 5) hX dX3_nextCommand_4 (nlt hnL (by decide)) rfl rfl rfl ?_
  refine r_iload_n (pc' := 6) hX dX3_nextCommand_5 rfl rfl ?_
  refine r_istore_n (L' := [some (.ref s), some (.int (nI po)), some (.int (nI po)), none]) (pc' := 7) hX dX3_nextCommand_6 (nlt hnL (by decide)) rfl rfl rfl ?_
  refine r_iconst (pc' := 8) (v := nI 0) hX dX3_nextCommand_7 rfl rfl ?_
  refine r_istore_n (L' := [some (.ref s), some (.int (nI po)), some (.int (nI po)), some (.int (nI 0))]) (pc' := 9) hX dX3_nextCommand_8 (nlt hnL (by decide)) rfl rfl rfl ?_
  have loop9 : ∀ (n9 : Nat) (k5 : Nat) (far : Nat) (p5 : Nat) (ct5 : Nat) (nb5 : Nat → Nat), 9 - k5 < n9 → (k5 ≤ 9) → (po ≤ far) → (far ≤ (prs tx po).2.1) → (fi tx po < k5 → (prs tx po).1 = true ∧ far = (prs tx po).2.1) → V X 0 0 ([(s, .inr (5, [.ref t, .ref nq, .int (nI ct5), .int (nI p5), .int (nI co)])), (nq, .inl (cy 0, aN 3 nb5)), (t, .inr (1, [.ref q, .int (nI 0), .int (nI ml), .int (nI c)])), (q, .inl (cy 2, aN m g))]) [some (.ref s), some (.int (nI po)), some (.int (nI far)), some (.int (nI k5))] [] 9 := by
    intro n9
    induction n9 with
    | zero => intro k5 far p5 ct5 nb5 hm; exact absurd hm (Nat.not_lt_zero _)
    | succ n9 ih9 =>
      intro k5 far p5 ct5 nb5 hm hk9 h1 h2 h3
      refine r_iload_n (pc' := 10) hX dX3_nextCommand_9 rfl rfl ?_
      refine r_getsN (pc' := 13) (C := "BowFoundry") (n1 := "COMMANDS") (d1 := "[LBowFoundry$Command;") (v := .ref (sa 2)) hX dX3_nextCommand_10 (by rw [hG]; exact fun _ _ _ z => z.2.2.2.1.1) (n3 (j := 227) rfl rfl) rfl ?_
      refine r_tl (pc' := 14) hX dX3_nextCommand_13 (by rw [hG]; exact fun _ _ _ z => z.2.2.2.1.2) rfl ?_
      refine r_icmp_ge_N (tgt := 58) (pc' := 17) hX dX3_nextCommand_14 (by decide) rfl (by omega) (by omega) (fun c14 => ?_) (fun c14 => ?_)
      · obtain ⟨q1, q2⟩ := NC_end (t := tx) (p := po) (k := k5) (by omega) hk9 h1 h2 h3
        refine r_aload_n (pc' := 59) hX dX3_nextCommand_58 rfl rfl ?_
        refine r_iload_n (pc' := 60) hX dX3_nextCommand_59 rfl rfl ?_
        refine r_put (ws' := [(s, .inr (5, [.ref t, .ref nq, .int (nI ct5), .int (nI far), .int (nI co)])), (nq, .inl (cy 0, aN 3 nb5)), (t, .inr (1, [.ref q, .int (nI 0), .int (nI ml), .int (nI c)])), (q, .inl (cy 2, aN m g))]) (pc' := 63) hX dX3_nextCommand_60 f_X3_26 fw_X3_3 0 rfl rfl rfl (Nat.le_of_ble_eq_true rfl) rfl rfl ?_
        refine r_aconst_null (pc' := 64) hX dX3_nextCommand_63 rfl ?_
        exact r_areturn hX hE dX3_nextCommand_64 rfl (Or.inl ⟨_, rfl⟩) (Or.inl rfl) ⟨by rw [if_neg (by rw [q1]; exact fun z9 => absurd (show true = false from z9) (by decide))], _, _, by rw [← q2]; rfl, fun z9 => by rw [q1] at z9; exact absurd (show true = false from z9) (by decide)⟩ (by decide) (by decide)
      · have hk : k5 < 9 := by omega
        refine r_aload_n (pc' := 18) hX dX3_nextCommand_17 rfl rfl ?_
        refine r_iload_n (pc' := 19) hX dX3_nextCommand_18 rfl rfl ?_
        refine r_put (ws' := [(s, .inr (5, [.ref t, .ref nq, .int (nI ct5), .int (nI po), .int (nI co)])), (nq, .inl (cy 0, aN 3 nb5)), (t, .inr (1, [.ref q, .int (nI 0), .int (nI ml), .int (nI c)])), (q, .inl (cy 2, aN m g))]) (pc' := 22) hX dX3_nextCommand_19 f_X3_26 fw_X3_3 0 rfl rfl rfl (Nat.le_of_ble_eq_true rfl) rfl rfl ?_
        refine r_aload_n (pc' := 23) hX dX3_nextCommand_22 rfl rfl ?_
        refine r_getsN (pc' := 26) (C := "BowFoundry") (n1 := "COMMANDS") (d1 := "[LBowFoundry$Command;") (v := .ref (sa 2)) hX dX3_nextCommand_23 (by rw [hG]; exact fun _ _ _ z => z.2.2.2.1.1) (n3 (j := 227) rfl rfl) rfl ?_
        refine r_iload_n (pc' := 27) hX dX3_nextCommand_26 rfl rfl ?_
        refine r_tq (pc' := 28) hX dX3_nextCommand_27 (by rw [hG]; exact fun _ _ _ z => z.2.2.2.1.2) (by omega) (by omega) rfl ?_
        change V X 0 0 ([(s, .inr (5, [.ref t, .ref nq, .int (nI ct5), .int (nI po), .int (nI co)])), (nq, .inl (cy 0, aN 3 nb5)), (t, .inr (1, [.ref q, .int (nI 0), .int (nI ml), .int (nI c)])), (q, .inl (cy 2, aN m g))]) [some (.ref s), some (.int (nI po)), some (.int (nI far)), some (.int (nI k5))] [.ref (sa (10 + k5)), .ref s] 28
        refine r_getON (pc' := 31) (C := "BowFoundry$Command") (n1 := "form") (d1 := "Ljava/lang/String;") (v := .ref (sa (20 + k5))) hX dX3_nextCommand_28 (by rw [hG]; exact fun _ _ _ z => (z.2.2.2.2.2.1 k5 (by omega)).2.2.1) (n6 (j := 55) rfl rfl) rfl ?_
        refine V_call0 (k' := 0) (n' := 0) (pc' := 34) hX (r_runV (As := [.ref (sa (20 + k5))]) hX dX3_nextCommand_31 k_X3_106 (fun l9 hl9 => cP_takesForm (by assumption) (by omega) (by omega) (by omega)) hG ⟨5, _, TX3, 5, List.mem_of_getElem? (l := ([(s, .inr (5, [.ref t, .ref nq, .int (nI ct5), .int (nI po), .int (nI co)])), (nq, .inl (cy 0, aN 3 nb5)), (t, .inr (1, [.ref q, .int (nI 0), .int (nI ml), .int (nI c)])), (q, .inl (cy 2, aN m g))] : va_W)) (i := 0) rfl, rfl⟩ rfl rfl (Nat.le_of_ble_eq_true rfl) (by decide) (by decide) (by decide) (by decide)) rfl rfl rfl (fun w9 u9 hp9 => ?_)
        obtain ⟨rfl, ct144, nb144, rfl, hn44⟩ := hp9
        change V X 0 0 ([(s, .inr (5, [.ref t, .ref nq, .int (nI ct144), .int (nI ((tf tx (frm k5) (false, po, [])).2.1)), .int (nI co)])), (nq, .inl (cy 0, aN 3 nb144)), (t, .inr (1, [.ref q, .int (nI 0), .int (nI ml), .int (nI c)])), (q, .inl (cy 2, aN m g))]) [some (.ref s), some (.int (nI po)), some (.int (nI far)), some (.int (nI k5))] [.int (bI ((tf tx (frm k5) (false, po, [])).1 = false))] 34
        refine r_if_eq_B (tgt := 43) (pc' := 37) hX dX3_nextCommand_34 (by decide) rfl (fun c34 => ?_) (fun c34 => ?_)
        · obtain ⟨z1, z2, z3⟩ := NC_step hk c34 h1 h2 h3
          refine r_iload_n (pc' := 44) hX dX3_nextCommand_43 rfl rfl ?_
          refine r_aload_n (pc' := 45) hX dX3_nextCommand_44 rfl rfl ?_
          refine r_get (pc' := 48) (v := .int (nI ((tf tx (frm k5) (false, po, [])).2.1))) hX dX3_nextCommand_45 f_X3_26 0 rfl rfl rfl ?_
          refine r_mmax (pc' := 51) hX dX3_nextCommand_48 k_X3_110 (by omega) (by omega) rfl (Nat.le_of_ble_eq_true rfl) (by decide) (by omega) (by omega) ?_
          refine r_istore_n (L' := [some (.ref s), some (.int (nI po)), some (.int (nI (max far ((tf tx (frm k5) (false, po, [])).2.1)))), some (.int (nI k5))]) (pc' := 52) hX dX3_nextCommand_51 (nlt hnL (by decide)) rfl rfl rfl ?_
          refine r_iinc_N (b := 1) (L' := [some (.ref s), some (.int (nI po)), some (.int (nI (max far ((tf tx (frm k5) (false, po, [])).2.1)))), some (.int (nI (k5 + 1)))]) (pc' := 55) hX dX3_nextCommand_52 rfl (nlt hnL (by decide)) rfl rfl rfl ?_
          refine r_goto (tgt := 9) hX dX3_nextCommand_55 (by decide) ?_
          exact ih9 (k5 + 1) (max far ((tf tx (frm k5) (false, po, [])).2.1)) ((tf tx (frm k5) (false, po, [])).2.1) ct144 nb144 (by omega) (by omega) z1 z2 z3
        · obtain ⟨q3, q4⟩ := NC_ok hk c34
          refine r_getsN (pc' := 40) (C := "BowFoundry") (n1 := "COMMANDS") (d1 := "[LBowFoundry$Command;") (v := .ref (sa 2)) hX dX3_nextCommand_37 (by rw [hG]; exact fun _ _ _ z => z.2.2.2.1.1) (n3 (j := 227) rfl rfl) rfl ?_
          refine r_iload_n (pc' := 41) hX dX3_nextCommand_40 rfl rfl ?_
          refine r_tq (pc' := 42) hX dX3_nextCommand_41 (by rw [hG]; exact fun _ _ _ z => z.2.2.2.1.2) (by omega) (by omega) rfl ?_
          change V X 0 0 ([(s, .inr (5, [.ref t, .ref nq, .int (nI ct144), .int (nI ((tf tx (frm k5) (false, po, [])).2.1)), .int (nI co)])), (nq, .inl (cy 0, aN 3 nb144)), (t, .inr (1, [.ref q, .int (nI 0), .int (nI ml), .int (nI c)])), (q, .inl (cy 2, aN m g))]) [some (.ref s), some (.int (nI po)), some (.int (nI far)), some (.int (nI k5))] [.ref (sa (10 + k5))] 42
          exact r_areturn hX hE dX3_nextCommand_42 rfl (Or.inl ⟨_, rfl⟩) (Or.inr ⟨_, rfl⟩) ⟨by rw [q4, if_pos c34, q3], _, _, by rw [q4]; rfl, fun _ => by rw [q4]; exact (hn44 c34).2⟩ (by decide) (by decide)
  exact loop9 _ 0 po po ct nb (Nat.lt_succ_self _) (by omega) (Nat.le_refl _) prs_mo (fun z9 => absurd z9 (Nat.not_lt_zero _))

set_option maxRecDepth 20000 in
set_option maxHeartbeats 1000000 in
theorem cP_error {l : Launch} {D : va_G} {cy : Nat → ClassId} {sa : Nat → Nat} {s nq t q m ml c ct po co : Nat} {g nb : Nat → Nat} {tx : List Nat} (h : SBp m c g tx) (hc : c ≤ 60) : MG l yX3_firstError cX3_firstError 2 (some .int) 8 0 0 (D, cy, sa) [.ref s] ((wScr cy s nq t q m ml c g nb ct po co)) (fun w u => w = some (.int (if (pall tx 61 0).1 = true then nI (pall tx 61 0).2.1 else -1)) ∧ ∃ (ct1 po1 co1 : Nat) (nb1 : Nat → Nat), u = wScr cy s nq t q m ml c g nb1 ct1 po1 co1 ∧ ((pall tx 61 0).1 = false → co1 = (pall tx 61 0).2.2.length)) := by
  refine MG_by (own := RX3) (L := [some (.ref s), none]) (by decide +kernel) rfl rfl (Nat.le_of_ble_eq_true rfl) 1 rfl (fun X hX hE hnL hG hcy hnm => ?_)
  obtain ⟨e1, e2, e3⟩ := h.le
  refine r_aload_n (pc' := 1) hX dX3_firstError_0 rfl rfl ?_
  refine r_iconst (pc' := 2) (v := nI 0) hX dX3_firstError_1 rfl rfl ?_
  refine r_put (ws' := [(s, .inr (5, [.ref t, .ref nq, .int (nI ct), .int (nI 0), .int (nI co)])), (nq, .inl (cy 0, aN 3 nb)), (t, .inr (1, [.ref q, .int (nI 0), .int (nI ml), .int (nI c)])), (q, .inl (cy 2, aN m g))]) (pc' := 5) hX dX3_firstError_2 f_X3_26 fw_X3_3 0 rfl rfl rfl (Nat.le_of_ble_eq_true rfl) rfl rfl ?_
  refine r_aload_n (pc' := 6) hX dX3_firstError_5 rfl rfl ?_
  refine r_iconst (pc' := 7) (v := nI 0) hX dX3_firstError_6 rfl rfl ?_
  refine r_put (ws' := [(s, .inr (5, [.ref t, .ref nq, .int (nI ct), .int (nI 0), .int (nI 0)])), (nq, .inl (cy 0, aN 3 nb)), (t, .inr (1, [.ref q, .int (nI 0), .int (nI ml), .int (nI c)])), (q, .inl (cy 2, aN m g))]) (pc' := 10) hX dX3_firstError_7 f_X3_29 fw_X3_4 0 rfl rfl rfl (Nat.le_of_ble_eq_true rfl) rfl rfl ?_
  refine r_iconst (pc' := 11) (v := nI 0) hX dX3_firstError_10 rfl rfl ?_
  refine r_istore_n (L' := [some (.ref s), some (.int (nI 0))]) (pc' := 12) hX dX3_firstError_11 (nlt hnL (by decide)) rfl rfl rfl ?_
  have loop12 : ∀ (n9 : Nat) (j : Nat) (p : Nat) (ct5 : Nat) (nb5 : Nat → Nat), 61 - j < n9 → (j ≤ 61) → (p ≤ c + 1 ∧ p ≤ 61) → ((pall tx 61 0).1 = (pall tx (61 - j) p).1 ∧ (pall tx 61 0).2.1 = (pall tx (61 - j) p).2.1 ∧ (pall tx 61 0).2.2.length = j + (pall tx (61 - j) p).2.2.length) → V X 0 0 ([(s, .inr (5, [.ref t, .ref nq, .int (nI ct5), .int (nI p), .int (nI j)])), (nq, .inl (cy 0, aN 3 nb5)), (t, .inr (1, [.ref q, .int (nI 0), .int (nI ml), .int (nI c)])), (q, .inl (cy 2, aN m g))]) [some (.ref s), some (.int (nI j))] [] 12 := by
    intro n9
    induction n9 with
    | zero => intro j p ct5 nb5 hm; exact absurd hm (Nat.not_lt_zero _)
    | succ n9 ih12 =>
      intro j p ct5 nb5 hm hj hp5 hA
      refine r_iload_n (pc' := 13) hX dX3_firstError_12 rfl rfl ?_
      refine r_bipush (pc' := 15) (v := nI 60) hX dX3_firstError_13 rfl rfl ?_
      refine r_icmp_gt_N (tgt := 76) (pc' := 18) hX dX3_firstError_15 (by decide) rfl (by omega) (by omega) (fun c15 => ?_) (fun c15 => ?_)
      · have hj9 : 61 - j = 0 := by omega
        rw [hj9] at hA
        refine r_aload_n (pc' := 77) hX dX3_firstError_76 rfl rfl ?_
        refine r_get (pc' := 80) (v := .int (nI p)) hX dX3_firstError_77 f_X3_26 0 rfl rfl rfl ?_
        exact r_ireturn hX hE dX3_firstError_80 rfl ⟨by rw [if_pos (show (pall tx 61 0).1 = true from hA.1), hA.2.1]; rfl, _, _, _, _, rfl, fun z9 => absurd (show false = true from z9.symm.trans hA.1) (by decide)⟩ (by decide) (by decide)
      · obtain ⟨f9, hf9⟩ : ∃ f9, 61 - j = f9 + 1 := ⟨60 - j, by omega⟩
        have hf8 : 61 - (j + 1) = f9 := by omega
        rw [hf9] at hA
        have hph := prs_hi (t := tx) (p := p)
        refine r_aload_n (pc' := 19) hX dX3_firstError_18 rfl rfl ?_
        refine V_call0 (k' := 0) (n' := 0) (pc' := 22) hX (r_runV (As := []) hX dX3_firstError_19 k_X3_44 (fun l9 hl9 => cP_next (by assumption) (by omega) (by omega)) hG ⟨5, _, TX3, 5, List.mem_of_getElem? (l := ([(s, .inr (5, [.ref t, .ref nq, .int (nI ct5), .int (nI p), .int (nI j)])), (nq, .inl (cy 0, aN 3 nb5)), (t, .inr (1, [.ref q, .int (nI 0), .int (nI ml), .int (nI c)])), (q, .inl (cy 2, aN m g))] : va_W)) (i := 0) rfl, rfl⟩ rfl rfl (Nat.le_of_ble_eq_true rfl) (by decide) (by decide) (by decide) (by decide)) rfl rfl rfl (fun w9 u9 hp9 => ?_)
        obtain ⟨rfl, ct145, nb145, rfl, hn45⟩ := hp9
        by_cases hp : (prs tx p).1 = false
        · rw [if_pos hp]
          change V X 0 0 ([(s, .inr (5, [.ref t, .ref nq, .int (nI ct145), .int (nI ((prs tx p).2.1)), .int (nI j)])), (nq, .inl (cy 0, aN 3 nb145)), (t, .inr (1, [.ref q, .int (nI 0), .int (nI ml), .int (nI c)])), (q, .inl (cy 2, aN m g))]) [some (.ref s), some (.int (nI j))] [.ref (sa (10 + fi tx p))] 22
          refine r_ifnonnull (tgt := 30) hX dX3_firstError_22 (by decide) ?_
          refine r_aload_n (pc' := 31) hX dX3_firstError_30 rfl rfl ?_
          refine r_dup (pc' := 32) hX dX3_firstError_31 rfl rfl ?_
          refine r_get (pc' := 35) (v := .int (nI j)) hX dX3_firstError_32 f_X3_29 0 rfl rfl rfl ?_
          refine r_iconst (pc' := 36) (v := nI 1) hX dX3_firstError_35 rfl rfl ?_
          refine r_iadd_N (pc' := 37) hX dX3_firstError_36  rfl ?_
          refine r_put (ws' := [(s, .inr (5, [.ref t, .ref nq, .int (nI ct145), .int (nI ((prs tx p).2.1)), .int (nI (j + 1))])), (nq, .inl (cy 0, aN 3 nb145)), (t, .inr (1, [.ref q, .int (nI 0), .int (nI ml), .int (nI c)])), (q, .inl (cy 2, aN m g))]) (pc' := 40) hX dX3_firstError_37 f_X3_29 fw_X3_4 0 rfl rfl rfl (Nat.le_of_ble_eq_true rfl) rfl rfl ?_
          refine r_aload_n (pc' := 41) hX dX3_firstError_40 rfl rfl ?_
          refine r_get (pc' := 44) (v := .int (nI ((prs tx p).2.1))) hX dX3_firstError_41 f_X3_26 0 rfl rfl rfl ?_
          refine r_aload_n (pc' := 45) hX dX3_firstError_44 rfl rfl ?_
          refine r_get (pc' := 48) (v := .ref t) hX dX3_firstError_45 f_X3_12 0 rfl rfl rfl ?_
          refine V_call (k' := 0) (n' := 0) (pc' := 51) (wr := ([(s, .inr (5, [.ref t, .ref nq, .int (nI ct145), .int (nI ((prs tx p).2.1)), .int (nI (j + 1))])), (nq, .inl (cy 0, aN 3 nb145))] : va_W)) hX (r_runV (As := []) hX dX3_firstError_48 k_X3_32 (fun l9 hl9 => cJ_len) hG ⟨1, _, TJ4, 4, List.mem_cons_self, rfl⟩ rfl rfl (Nat.le_of_ble_eq_true rfl) (by decide) (by decide) (by decide) (by decide)) (perm2 2 2 rfl rfl rfl rfl) rfl rfl rfl (fun w9 u9 hp9 => ?_)
          obtain ⟨rfl, rfl⟩ := hp9
          change V X 0 0 ([(t, .inr (1, [.ref q, .int (nI 0), .int (nI ml), .int (nI c)])), (q, .inl (cy 2, aN m g)), (s, .inr (5, [.ref t, .ref nq, .int (nI ct145), .int (nI ((prs tx p).2.1)), .int (nI (j + 1))])), (nq, .inl (cy 0, aN 3 nb145))]) [some (.ref s), some (.int (nI j))] [.int (nI c), .int (nI ((prs tx p).2.1))] 51
          refine V_perm ((permI (n := 4) [2, 3, 0, 1] (by decide) rfl rfl : List.Perm _ [(s, .inr (5, [.ref t, .ref nq, .int (nI ct145), .int (nI ((prs tx p).2.1)), .int (nI (j + 1))])), (nq, .inl (cy 0, aN 3 nb145)), (t, .inr (1, [.ref q, .int (nI 0), .int (nI ml), .int (nI c)])), (q, .inl (cy 2, aN m g))])) ?_
          refine r_icmp_lt_N (tgt := 56) (pc' := 54) hX dX3_firstError_51 (by decide) rfl (by omega) (by omega) (fun c51 => ?_) (fun c51 => ?_)
          · have hgo := prs_go hp
            refine r_aload_n (pc' := 57) hX dX3_firstError_56 rfl rfl ?_
            refine r_bipush (pc' := 59) (v := nI 59) hX dX3_firstError_57 rfl rfl ?_
            refine V_call0 (k' := 0) (n' := 0) (pc' := 62) hX (r_runV (As := [.int (nI 59)]) hX dX3_firstError_59 k_X3_48 (fun l9 hl9 => cP_takes (by assumption) (by omega) (by omega) (by omega)) hG ⟨5, _, TX3, 5, List.mem_of_getElem? (l := ([(s, .inr (5, [.ref t, .ref nq, .int (nI ct145), .int (nI ((prs tx p).2.1)), .int (nI (j + 1))])), (nq, .inl (cy 0, aN 3 nb145)), (t, .inr (1, [.ref q, .int (nI 0), .int (nI ml), .int (nI c)])), (q, .inl (cy 2, aN m g))] : va_W)) (i := 0) rfl, rfl⟩ rfl rfl (Nat.le_of_ble_eq_true rfl) (by decide) (by decide) (by decide) (by decide)) rfl rfl rfl (fun w9 u9 hp9 => ?_)
            obtain ⟨rfl, rfl⟩ := hp9
            by_cases hk : hr tx (prs tx p).2.1 = 59
            · rw [if_pos hk]
              change V X 0 0 ([(s, .inr (5, [.ref t, .ref nq, .int (nI ct145), .int (nI ((prs tx p).2.1 + 1)), .int (nI (j + 1))])), (nq, .inl (cy 0, aN 3 nb145)), (t, .inr (1, [.ref q, .int (nI 0), .int (nI ml), .int (nI c)])), (q, .inl (cy 2, aN m g))]) [some (.ref s), some (.int (nI j))] [.int (bI (hr tx (prs tx p).2.1 = 59))] 62
              refine r_if_ne_B (tgt := 70) (pc' := 65) hX dX3_firstError_62 (by decide) rfl (fun c62 => ?_) (fun c62 => ?_)
              · have eB := pall_on (t := tx) (f := f9) hp (by omega) hk
                have hA9 : (pall tx 61 0).1 = (pall tx (61 - (j + 1)) ((prs tx p).2.1 + 1)).1 ∧ (pall tx 61 0).2.1 = (pall tx (61 - (j + 1)) ((prs tx p).2.1 + 1)).2.1 ∧ (pall tx 61 0).2.2.length = j + 1 + (pall tx (61 - (j + 1)) ((prs tx p).2.1 + 1)).2.2.length := by
                  rw [eB] at hA
                  rw [hf8]
                  exact ⟨hA.1, hA.2.1, by rw [hA.2.2, List.length_cons]; omega⟩
                refine r_iinc_N (b := 1) (L' := [some (.ref s), some (.int (nI (j + 1)))]) (pc' := 73) hX dX3_firstError_70 rfl (nlt hnL (by decide)) rfl rfl rfl ?_
                refine r_goto (tgt := 12) hX dX3_firstError_73 (by decide) ?_
                exact ih12 (j + 1) ((prs tx p).2.1 + 1) ct145 nb145 (by omega) (by omega) (by omega) hA9
              · exact absurd c62 (by omega)
            · rw [if_neg hk]
              change V X 0 0 ([(s, .inr (5, [.ref t, .ref nq, .int (nI ct145), .int (nI ((prs tx p).2.1)), .int (nI (j + 1))])), (nq, .inl (cy 0, aN 3 nb145)), (t, .inr (1, [.ref q, .int (nI 0), .int (nI ml), .int (nI c)])), (q, .inl (cy 2, aN m g))]) [some (.ref s), some (.int (nI j))] [.int (bI (hr tx (prs tx p).2.1 = 59))] 62
              refine r_if_ne_B (tgt := 70) (pc' := 65) hX dX3_firstError_62 (by decide) rfl (fun c62 => ?_) (fun c62 => ?_)
              · exact absurd c62 (by omega)
              · have eB := pall_no (t := tx) (f := f9) hp (by omega) hk
                rw [eB] at hA
                refine r_aload_n (pc' := 66) hX dX3_firstError_65 rfl rfl ?_
                refine r_get (pc' := 69) (v := .int (nI ((prs tx p).2.1))) hX dX3_firstError_66 f_X3_26 0 rfl rfl rfl ?_
                exact r_ireturn hX hE dX3_firstError_69 rfl ⟨by rw [if_pos hA.1, hA.2.1], _, _, _, _, rfl, fun z9 => absurd (show false = true from z9.symm.trans hA.1) (by decide)⟩ (by decide) (by decide)
          · have eB := pall_end (t := tx) (f := f9) hp (by omega)
            rw [eB] at hA
            refine r_iconst (pc' := 55) (v := (-1)) hX dX3_firstError_54 rfl rfl ?_
            exact r_ireturn hX hE dX3_firstError_55 rfl ⟨by rw [if_neg (by rw [hA.1]; exact fun z9 => absurd (show false = true from z9) (by decide))], _, _, _, _, rfl, fun _ => by rw [hA.2.2]; rfl⟩ (by decide) (by decide)
        · rw [if_neg hp]
          change V X 0 0 ([(s, .inr (5, [.ref t, .ref nq, .int (nI ct145), .int (nI ((prs tx p).2.1)), .int (nI j)])), (nq, .inl (cy 0, aN 3 nb145)), (t, .inr (1, [.ref q, .int (nI 0), .int (nI ml), .int (nI c)])), (q, .inl (cy 2, aN m g))]) [some (.ref s), some (.int (nI j))] [.null] 22
          refine r_ifnonnullN (pc' := 25) hX dX3_firstError_22 rfl ?_
          refine r_aload_n (pc' := 26) hX dX3_firstError_25 rfl rfl ?_
          refine r_get (pc' := 29) (v := .int (nI ((prs tx p).2.1))) hX dX3_firstError_26 f_X3_26 0 rfl rfl rfl ?_
          have eB := pall_bad (t := tx) (f := f9) (b_true hp)
          rw [eB] at hA
          exact r_ireturn hX hE dX3_firstError_29 rfl ⟨by rw [if_pos hA.1, hA.2.1], _, _, _, _, rfl, fun z9 => absurd (show false = true from z9.symm.trans hA.1) (by decide)⟩ (by decide) (by decide)
  exact loop12 _ 0 0 ct nb (Nat.lt_succ_self _) (by omega) (by omega) ⟨rfl, rfl, (Nat.zero_add _).symm⟩
