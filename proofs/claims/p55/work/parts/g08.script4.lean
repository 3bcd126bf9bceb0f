/-- the index of a refused command as a number -/
def mtF (r : Option Nat) : Int32 := match r with
  | some i => nI i
  | none => -1
theorem FF_ok {t : List Nat} {f p : Nat} (h : (pall t (f + 1) p).1 = false) : (prs t p).1 = false := by
  refine Classical.byContradiction fun q => ?_
  rw [pall_bad (b_true q)] at h
  exact absurd (show true = false from h) (by decide)
theorem FF_on {t : List Nat} {f p : Nat} (h : (pall t (f + 1) p).1 = false) (hk : hr t (prs t p).2.1 = 59) : (pall t (f + 1) p).2.2 = (fi t p, (prs t p).2.2) :: (pall t f ((prs t p).2.1 + 1)).2.2 ∧ (pall t f ((prs t p).2.1 + 1)).1 = false := by
  have hl : ¬ t.length ≤ (prs t p).2.1 := by
    intro q
    rw [hr_ge q] at hk
    omega
  have hp := FF_ok h
  rw [pall_on hp hl hk] at h ⊢
  exact ⟨rfl, h⟩
theorem FF_end {t : List Nat} {f p : Nat} (h : (pall t (f + 1) p).1 = false) (hk : ¬ hr t (prs t p).2.1 = 59) : (pall t (f + 1) p).2.2 = [(fi t p, (prs t p).2.2)] := by
  by_cases hl : t.length ≤ (prs t p).2.1
  · rw [pall_end (FF_ok h) hl]
  · have hp := FF_ok h
    rw [pall_no hp hl hk] at h
    exact absurd (show true = false from h) (by decide)
theorem cN_cons {c : Nat} {f : List Nat} : cN (c :: f) = (if c = 35 ∨ c = 42 then 1 else 0) + cN f := by
  unfold cN
  rw [List.filter_cons]
  by_cases q : c = 35 ∨ c = 42
  · rw [if_pos (by rcases q with q | q <;> rw [q] <;> rfl), if_pos q, List.length_cons]; omega
  · rw [if_neg (by simp only [Bool.or_eq_true, beq_iff_eq]; exact q), if_neg q]; omega
theorem tf_cn {t : List Nat} : ∀ {f : List Nat} {x : Bool × Nat × List Nat}, (tf t f x).2.2.length = x.2.2.length + cN f
  | [], _ => rfl
  | c :: f, x => by
    rw [tf_cons, tf_cn, cN_cons]
    unfold sgn
    by_cases q : c = 35
    · rw [if_pos q, if_pos (Or.inl q)]
      show (x.2.2 ++ [_]).length + _ = _
      rw [List.length_append]
      show x.2.2.length + 1 + _ = _
      omega
    · rw [if_neg q]
      by_cases q2 : c = 42
      · rw [if_pos q2, if_pos (Or.inr q2)]
        show (x.2.2 ++ [_]).length + _ = _
        rw [List.length_append]
        show x.2.2.length + 1 + _ = _
        omega
      · rw [if_neg q2, if_neg (fun z => z.elim q q2)]
        show x.2.2.length + _ = _
        omega
theorem oC_nums {t : List Nat} {p : Nat} {nb : Nat → Nat} {v : SV} (hp : (prs t p).1 = false) (hL : LT nb (prs t p).2.2) : oC (fi t p, [nb 0, nb 1, nb 2]) v = oC (fi t p, (prs t p).2.2) v := by
  have hi := (prs_go hp).1
  have hlen : (prs t p).2.2.length = cN (frm (fi t p)) := by
    rw [prs_i rfl hi, tf_cn]
    exact Nat.zero_add _
  have hg : ∀ k, k < (prs t p).2.2.length → (prs t p).2.2.getD k 0 = nb k := fun k hk => by rw [getD_at hk]; exact (hL k hk).symm
  generalize (prs t p).2.2 = ns at hlen hg
  generalize fi t p = i at hi hlen
  match i, hi with
  | 0, _ => show oMix v (nI (nb 0)) (nI (nb 1)) (nI (nb 2)) = oMix v (nI (ns.getD 0 0)) (nI (ns.getD 1 0)) (nI (ns.getD 2 0)); have e : cN (frm 0) = 3 := by decide +kernel
            rw [hg 0 (by omega), hg 1 (by omega), hg 2 (by omega)]
  | 1, _ => show oMould v (nI (nb 0)) = oMould v (nI (ns.getD 0 0)); have e : cN (frm 1) = 1 := by decide +kernel
            rw [hg 0 (by omega)]
  | 2, _ => show oBuy v (nI (nb 0)) (nI (nb 1)) = oBuy v (nI (ns.getD 0 0)) (nI (ns.getD 1 0)); have e : cN (frm 2) = 2 := by decide +kernel
            rw [hg 0 (by omega), hg 1 (by omega)]
  | 3, _ => show oPour v (nI (nb 0)) (nI (nb 1)) (nI (nb 2)) = oPour v (nI (ns.getD 0 0)) (nI (ns.getD 1 0)) (nI (ns.getD 2 0)); have e : cN (frm 3) = 3 := by decide +kernel
            rw [hg 0 (by omega), hg 1 (by omega), hg 2 (by omega)]
  | 4, _ => show oExam v (nI (nb 0)) = oExam v (nI (ns.getD 0 0)); have e : cN (frm 4) = 1 := by decide +kernel
            rw [hg 0 (by omega)]
  | 5, _ => show oMelt v (nI (nb 0)) = oMelt v (nI (ns.getD 0 0)); have e : cN (frm 5) = 1 := by decide +kernel
            rw [hg 0 (by omega)]
  | 6, _ => show oReset v (nI (nb 0)) = oReset v (nI (ns.getD 0 0)); have e : cN (frm 6) = 1 := by decide +kernel
            rw [hg 0 (by omega)]
  | 7, _ => show oTol v (nI (nb 0)) = oTol v (nI (ns.getD 0 0)); have e : cN (frm 7) = 1 := by decide +kernel
            rw [hg 0 (by omega)]
  | 8, _ => show oStep v (nI (nb 0)) = oStep v (nI (ns.getD 0 0)); have e : cN (frm 8) = 1 := by decide +kernel
            rw [hg 0 (by omega)]
  | j + 9, h => exact absurd h (by omega)
set_option maxRecDepth 20000 in
set_option maxHeartbeats 1000000 in
theorem cP_run {l : Launch} {D : va_G} {cy : Nat → ClassId} {sa : Nat → Nat} {s nq t q m ml c ct po co i : Nat} {g nb : Nat → Nat} {ad : Nat → Nat} {v : SV} (hv : Wf v) (hi : i < 9) : MG l yX3_run cX3_run 3 (some .int) 4 0 0 (D, cy, sa) [.ref s, .ref (sa (10 + i)), .ref (ad 0)] ((wScr cy s nq t q m ml c g nb ct po co ++ wSt cy ad v)) (fun w u => w = some (.int (oC (i, [nb 0, nb 1, nb 2]) v).1) ∧ ∃ ad1 : Nat → Nat, ad1 0 = ad 0 ∧ u = wScr cy s nq t q m ml c g nb ct po co ++ wSt cy ad1 (oC (i, [nb 0, nb 1, nb 2]) v).2) := by
  refine MG_by (own := RX3) (L := [some (.ref s), some (.ref (sa (10 + i))), some (.ref (ad 0))]) (by decide +kernel) rfl rfl (Nat.le_of_ble_eq_true rfl) 0 rfl (fun X hX hE hnL hG hcy hnm => ?_)
  refine r_gets (pc' := 3) (C := "BowFoundry$1") (n1 := "$SwitchMap$BowFoundry$Command") (d1 := "[I") (v := .ref (sa 3)) hX dX3_run_0 (by rw [hG]; exact fun _ _ _ z => z.2.2.2.2.1.1) (m5 (j := 83) rfl rfl) rfl ?_
  refine r_aload_n (pc' := 4) hX dX3_run_3 rfl rfl ?_
  refine r_ordinal (i := i) (pc' := 7) hX dX3_run_4 (by rw [hG]; exact fun _ _ _ z => ⟨(z.2.2.2.2.2.1 i (by omega)).1, (z.2.2.2.2.2.1 i (by omega)).2.1⟩) (by decide) (Nat.le_of_ble_eq_true rfl) rfl ?_
  refine r_ti (pc' := 8) hX dX3_run_7 (by rw [hG]; exact fun _ _ _ z => z.2.2.2.2.1.2) (by omega) (by omega) rfl ?_
  change V X 0 0 (([(s, .inr (5, [.ref t, .ref nq, .int (nI ct), .int (nI po), .int (nI co)])), (nq, .inl (cy 0, aN 3 nb)), (t, .inr (1, [.ref q, .int (nI 0), .int (nI ml), .int (nI c)])), (q, .inl (cy 2, aN m g))]) ++ wSt cy ad v) [some (.ref s), some (.ref (sa (10 + i))), some (.ref (ad 0))] [.int (nI (i + 1))] 8
  by_cases q1 : i = 0
  · have eI1 : nI (i + 1) = nI 1 := by exact congrArg nI (by omega)
    rw [eI1]
    refine r_tabN (tgt := 60) hX dX3_run_8 (by decide) (by decide) (by decide) rfl (by decide) ?_
    refine r_aload_n (pc' := 61) hX dX3_run_60 rfl rfl ?_
    refine r_aload_n (pc' := 62) hX dX3_run_61 rfl rfl ?_
    refine r_get (pc' := 65) (v := .ref nq) hX dX3_run_62 f_X3_18 0 rfl rfl rfl ?_
    refine r_iconst (pc' := 66) (v := nI 0) hX dX3_run_65 rfl rfl ?_
    refine r_iald_N (pc' := 67) hX dX3_run_66 (by rw [hcy]) 1 rfl (by omega) (by decide) rfl ?_
    change V X 0 0 (([(s, .inr (5, [.ref t, .ref nq, .int (nI ct), .int (nI po), .int (nI co)])), (nq, .inl (cy 0, aN 3 nb)), (t, .inr (1, [.ref q, .int (nI 0), .int (nI ml), .int (nI c)])), (q, .inl (cy 2, aN m g))]) ++ wSt cy ad v) [some (.ref s), some (.ref (sa (10 + i))), some (.ref (ad 0))] [.int (nI (nb 0)), .ref (ad 0)] 67
    refine r_aload_n (pc' := 68) hX dX3_run_67 rfl rfl ?_
    refine r_get (pc' := 71) (v := .ref nq) hX dX3_run_68 f_X3_18 0 rfl rfl rfl ?_
    refine r_iconst (pc' := 72) (v := nI 1) hX dX3_run_71 rfl rfl ?_
    refine r_iald_N (pc' := 73) hX dX3_run_72 (by rw [hcy]) 1 rfl (by omega) (by decide) rfl ?_
    change V X 0 0 (([(s, .inr (5, [.ref t, .ref nq, .int (nI ct), .int (nI po), .int (nI co)])), (nq, .inl (cy 0, aN 3 nb)), (t, .inr (1, [.ref q, .int (nI 0), .int (nI ml), .int (nI c)])), (q, .inl (cy 2, aN m g))]) ++ wSt cy ad v) [some (.ref s), some (.ref (sa (10 + i))), some (.ref (ad 0))] [.int (nI (nb 1)), .int (nI (nb 0)), .ref (ad 0)] 73
    refine r_aload_n (pc' := 74) hX dX3_run_73 rfl rfl ?_
    refine r_get (pc' := 77) (v := .ref nq) hX dX3_run_74 f_X3_18 0 rfl rfl rfl ?_
    refine r_iconst (pc' := 78) (v := nI 2) hX dX3_run_77 rfl rfl ?_
    refine r_iald_N (pc' := 79) hX dX3_run_78 (by rw [hcy]) 1 rfl (by omega) (by decide) rfl ?_
    change V X 0 0 (([(s, .inr (5, [.ref t, .ref nq, .int (nI ct), .int (nI po), .int (nI co)])), (nq, .inl (cy 0, aN 3 nb)), (t, .inr (1, [.ref q, .int (nI 0), .int (nI ml), .int (nI c)])), (q, .inl (cy 2, aN m g))]) ++ wSt cy ad v) [some (.ref s), some (.ref (sa (10 + i))), some (.ref (ad 0))] [.int (nI (nb 2)), .int (nI (nb 1)), .int (nI (nb 0)), .ref (ad 0)] 79
    refine V_call (k' := 0) (n' := 0) (pc' := 82) (wr := [(s, .inr (5, [.ref t, .ref nq, .int (nI ct), .int (nI po), .int (nI co)])), (nq, .inl (cy 0, aN 3 nb)), (t, .inr (1, [.ref q, .int (nI 0), .int (nI ml), .int (nI c)])), (q, .inl (cy 2, aN m g))]) hX (r_runV (As := [.int (nI (nb 0)), .int (nI (nb 1)), .int (nI (nb 2))]) hX dX3_run_79 k_X3_66 (fun l9 hl9 => cS_mixAlloy hv) hG ⟨6, _, TX4, 17, List.mem_cons_self, rfl⟩ rfl rfl (Nat.le_of_ble_eq_true rfl) (by decide) (by decide) (by decide) (by decide)) (List.perm_append_comm) rfl rfl rfl (fun w9 u9 hp9 => ?_)
    obtain ⟨rfl, rfl⟩ := hp9
    change V X 0 0 (wSt cy ad (oMix v (nI (nb 0)) (nI (nb 1)) (nI (nb 2))).2 ++ [(s, .inr (5, [.ref t, .ref nq, .int (nI ct), .int (nI po), .int (nI co)])), (nq, .inl (cy 0, aN 3 nb)), (t, .inr (1, [.ref q, .int (nI 0), .int (nI ml), .int (nI c)])), (q, .inl (cy 2, aN m g))]) [some (.ref s), some (.ref (sa (10 + i))), some (.ref (ad 0))] [.int ((oMix v (nI (nb 0)) (nI (nb 1)) (nI (nb 2))).1)] 82
    refine V_perm (List.perm_append_comm) ?_
    exact r_ireturn hX hE dX3_run_82 rfl ⟨by rw [q1]; rfl, _, rfl, by rw [q1]; rfl⟩ (by decide) (by decide)
  by_cases q2 : i = 1
  · have eI2 : nI (i + 1) = nI 2 := by exact congrArg nI (by omega)
    rw [eI2]
    refine r_tabN (tgt := 83) hX dX3_run_8 (by decide) (by decide) (by decide) rfl (by decide) ?_
    refine r_aload_n (pc' := 84) hX dX3_run_83 rfl rfl ?_
    refine r_aload_n (pc' := 85) hX dX3_run_84 rfl rfl ?_
    refine r_get (pc' := 88) (v := .ref nq) hX dX3_run_85 f_X3_18 0 rfl rfl rfl ?_
    refine r_iconst (pc' := 89) (v := nI 0) hX dX3_run_88 rfl rfl ?_
    refine r_iald_N (pc' := 90) hX dX3_run_89 (by rw [hcy]) 1 rfl (by omega) (by decide) rfl ?_
    change V X 0 0 (([(s, .inr (5, [.ref t, .ref nq, .int (nI ct), .int (nI po), .int (nI co)])), (nq, .inl (cy 0, aN 3 nb)), (t, .inr (1, [.ref q, .int (nI 0), .int (nI ml), .int (nI c)])), (q, .inl (cy 2, aN m g))]) ++ wSt cy ad v) [some (.ref s), some (.ref (sa (10 + i))), some (.ref (ad 0))] [.int (nI (nb 0)), .ref (ad 0)] 90
    refine V_call (k' := 0) (n' := 0) (pc' := 93) (wr := [(s, .inr (5, [.ref t, .ref nq, .int (nI ct), .int (nI po), .int (nI co)])), (nq, .inl (cy 0, aN 3 nb)), (t, .inr (1, [.ref q, .int (nI 0), .int (nI ml), .int (nI c)])), (q, .inl (cy 2, aN m g))]) hX (r_runV (As := [.int (nI (nb 0))]) hX dX3_run_90 k_X3_72 (fun l9 hl9 => cS_placeMould hv) hG ⟨6, _, TX4, 17, List.mem_cons_self, rfl⟩ rfl rfl (Nat.le_of_ble_eq_true rfl) (by decide) (by decide) (by decide) (by decide)) (List.perm_append_comm) rfl rfl rfl (fun w9 u9 hp9 => ?_)
    obtain ⟨rfl, rfl⟩ := hp9
    change V X 0 0 (wSt cy ad (oMould v (nI (nb 0))).2 ++ [(s, .inr (5, [.ref t, .ref nq, .int (nI ct), .int (nI po), .int (nI co)])), (nq, .inl (cy 0, aN 3 nb)), (t, .inr (1, [.ref q, .int (nI 0), .int (nI ml), .int (nI c)])), (q, .inl (cy 2, aN m g))]) [some (.ref s), some (.ref (sa (10 + i))), some (.ref (ad 0))] [.int ((oMould v (nI (nb 0))).1)] 93
    refine V_perm (List.perm_append_comm) ?_
    exact r_ireturn hX hE dX3_run_93 rfl ⟨by rw [q2]; rfl, _, rfl, by rw [q2]; rfl⟩ (by decide) (by decide)
  by_cases q3 : i = 2
  · have eI3 : nI (i + 1) = nI 3 := by exact congrArg nI (by omega)
    rw [eI3]
    refine r_tabN (tgt := 94) hX dX3_run_8 (by decide) (by decide) (by decide) rfl (by decide) ?_
    refine r_aload_n (pc' := 95) hX dX3_run_94 rfl rfl ?_
    refine r_aload_n (pc' := 96) hX dX3_run_95 rfl rfl ?_
    refine r_get (pc' := 99) (v := .ref nq) hX dX3_run_96 f_X3_18 0 rfl rfl rfl ?_
    refine r_iconst (pc' := 100) (v := nI 0) hX dX3_run_99 rfl rfl ?_
    refine r_iald_N (pc' := 101) hX dX3_run_100 (by rw [hcy]) 1 rfl (by omega) (by decide) rfl ?_
    change V X 0 0 (([(s, .inr (5, [.ref t, .ref nq, .int (nI ct), .int (nI po), .int (nI co)])), (nq, .inl (cy 0, aN 3 nb)), (t, .inr (1, [.ref q, .int (nI 0), .int (nI ml), .int (nI c)])), (q, .inl (cy 2, aN m g))]) ++ wSt cy ad v) [some (.ref s), some (.ref (sa (10 + i))), some (.ref (ad 0))] [.int (nI (nb 0)), .ref (ad 0)] 101
    refine r_aload_n (pc' := 102) hX dX3_run_101 rfl rfl ?_
    refine r_get (pc' := 105) (v := .ref nq) hX dX3_run_102 f_X3_18 0 rfl rfl rfl ?_
    refine r_iconst (pc' := 106) (v := nI 1) hX dX3_run_105 rfl rfl ?_
    refine r_iald_N (pc' := 107) hX dX3_run_106 (by rw [hcy]) 1 rfl (by omega) (by decide) rfl ?_
    change V X 0 0 (([(s, .inr (5, [.ref t, .ref nq, .int (nI ct), .int (nI po), .int (nI co)])), (nq, .inl (cy 0, aN 3 nb)), (t, .inr (1, [.ref q, .int (nI 0), .int (nI ml), .int (nI c)])), (q, .inl (cy 2, aN m g))]) ++ wSt cy ad v) [some (.ref s), some (.ref (sa (10 + i))), some (.ref (ad 0))] [.int (nI (nb 1)), .int (nI (nb 0)), .ref (ad 0)] 107
    refine V_call (k' := 0) (n' := 0) (pc' := 110) (wr := [(s, .inr (5, [.ref t, .ref nq, .int (nI ct), .int (nI po), .int (nI co)])), (nq, .inl (cy 0, aN 3 nb)), (t, .inr (1, [.ref q, .int (nI 0), .int (nI ml), .int (nI c)])), (q, .inl (cy 2, aN m g))]) hX (r_runV (As := [.int (nI (nb 0)), .int (nI (nb 1))]) hX dX3_run_107 k_X3_76 (fun l9 hl9 => cS_takeIn hv) hG ⟨6, _, TX4, 17, List.mem_cons_self, rfl⟩ rfl rfl (Nat.le_of_ble_eq_true rfl) (by decide) (by decide) (by decide) (by decide)) (List.perm_append_comm) rfl rfl rfl (fun w9 u9 hp9 => ?_)
    obtain ⟨rfl, rfl⟩ := hp9
    change V X 0 0 (wSt cy ad (oBuy v (nI (nb 0)) (nI (nb 1))).2 ++ [(s, .inr (5, [.ref t, .ref nq, .int (nI ct), .int (nI po), .int (nI co)])), (nq, .inl (cy 0, aN 3 nb)), (t, .inr (1, [.ref q, .int (nI 0), .int (nI ml), .int (nI c)])), (q, .inl (cy 2, aN m g))]) [some (.ref s), some (.ref (sa (10 + i))), some (.ref (ad 0))] [.int ((oBuy v (nI (nb 0)) (nI (nb 1))).1)] 110
    refine V_perm (List.perm_append_comm) ?_
    exact r_ireturn hX hE dX3_run_110 rfl ⟨by rw [q3]; rfl, _, rfl, by rw [q3]; rfl⟩ (by decide) (by decide)
  by_cases q4 : i = 3
  · have eI4 : nI (i + 1) = nI 4 := by exact congrArg nI (by omega)
    rw [eI4]
    refine r_tabN (tgt := 111) hX dX3_run_8 (by decide) (by decide) (by decide) rfl (by decide) ?_
    refine r_aload_n (pc' := 112) hX dX3_run_111 rfl rfl ?_
    refine r_aload_n (pc' := 113) hX dX3_run_112 rfl rfl ?_
    refine r_get (pc' := 116) (v := .ref nq) hX dX3_run_113 f_X3_18 0 rfl rfl rfl ?_
    refine r_iconst (pc' := 117) (v := nI 0) hX dX3_run_116 rfl rfl ?_
    refine r_iald_N (pc' := 118) hX dX3_run_117 (by rw [hcy]) 1 rfl (by omega) (by decide) rfl ?_
    change V X 0 0 (([(s, .inr (5, [.ref t, .ref nq, .int (nI ct), .int (nI po), .int (nI co)])), (nq, .inl (cy 0, aN 3 nb)), (t, .inr (1, [.ref q, .int (nI 0), .int (nI ml), .int (nI c)])), (q, .inl (cy 2, aN m g))]) ++ wSt cy ad v) [some (.ref s), some (.ref (sa (10 + i))), some (.ref (ad 0))] [.int (nI (nb 0)), .ref (ad 0)] 118
    refine r_aload_n (pc' := 119) hX dX3_run_118 rfl rfl ?_
    refine r_get (pc' := 122) (v := .ref nq) hX dX3_run_119 f_X3_18 0 rfl rfl rfl ?_
    refine r_iconst (pc' := 123) (v := nI 1) hX dX3_run_122 rfl rfl ?_
    refine r_iald_N (pc' := 124) hX dX3_run_123 (by rw [hcy]) 1 rfl (by omega) (by decide) rfl ?_
    change V X 0 0 (([(s, .inr (5, [.ref t, .ref nq, .int (nI ct), .int (nI po), .int (nI co)])), (nq, .inl (cy 0, aN 3 nb)), (t, .inr (1, [.ref q, .int (nI 0), .int (nI ml), .int (nI c)])), (q, .inl (cy 2, aN m g))]) ++ wSt cy ad v) [some (.ref s), some (.ref (sa (10 + i))), some (.ref (ad 0))] [.int (nI (nb 1)), .int (nI (nb 0)), .ref (ad 0)] 124
    refine r_aload_n (pc' := 125) hX dX3_run_124 rfl rfl ?_
    refine r_get (pc' := 128) (v := .ref nq) hX dX3_run_125 f_X3_18 0 rfl rfl rfl ?_
    refine r_iconst (pc' := 129) (v := nI 2) hX dX3_run_128 rfl rfl ?_
    refine r_iald_N (pc' := 130) hX dX3_run_129 (by rw [hcy]) 1 rfl (by omega) (by decide) rfl ?_
    change V X 0 0 (([(s, .inr (5, [.ref t, .ref nq, .int (nI ct), .int (nI po), .int (nI co)])), (nq, .inl (cy 0, aN 3 nb)), (t, .inr (1, [.ref q, .int (nI 0), .int (nI ml), .int (nI c)])), (q, .inl (cy 2, aN m g))]) ++ wSt cy ad v) [some (.ref s), some (.ref (sa (10 + i))), some (.ref (ad 0))] [.int (nI (nb 2)), .int (nI (nb 1)), .int (nI (nb 0)), .ref (ad 0)] 130
    refine V_call (k' := 0) (n' := 0) (pc' := 133) (wr := [(s, .inr (5, [.ref t, .ref nq, .int (nI ct), .int (nI po), .int (nI co)])), (nq, .inl (cy 0, aN 3 nb)), (t, .inr (1, [.ref q, .int (nI 0), .int (nI ml), .int (nI c)])), (q, .inl (cy 2, aN m g))]) hX (r_runV (As := [.int (nI (nb 0)), .int (nI (nb 1)), .int (nI (nb 2))]) hX dX3_run_130 k_X3_80 (fun l9 hl9 => cS_pour hv) hG ⟨6, _, TX4, 17, List.mem_cons_self, rfl⟩ rfl rfl (Nat.le_of_ble_eq_true rfl) (by decide) (by decide) (by decide) (by decide)) (List.perm_append_comm) rfl rfl rfl (fun w9 u9 hp9 => ?_)
    obtain ⟨rfl, rfl⟩ := hp9
    change V X 0 0 (wSt cy ad (oPour v (nI (nb 0)) (nI (nb 1)) (nI (nb 2))).2 ++ [(s, .inr (5, [.ref t, .ref nq, .int (nI ct), .int (nI po), .int (nI co)])), (nq, .inl (cy 0, aN 3 nb)), (t, .inr (1, [.ref q, .int (nI 0), .int (nI ml), .int (nI c)])), (q, .inl (cy 2, aN m g))]) [some (.ref s), some (.ref (sa (10 + i))), some (.ref (ad 0))] [.int ((oPour v (nI (nb 0)) (nI (nb 1)) (nI (nb 2))).1)] 133
    refine V_perm (List.perm_append_comm) ?_
    exact r_ireturn hX hE dX3_run_133 rfl ⟨by rw [q4]; rfl, _, rfl, by rw [q4]; rfl⟩ (by decide) (by decide)
  by_cases q5 : i = 4
  · have eI5 : nI (i + 1) = nI 5 := by exact congrArg nI (by omega)
    rw [eI5]
    refine r_tabN (tgt := 134) hX dX3_run_8 (by decide) (by decide) (by decide) rfl (by decide) ?_
    refine r_aload_n (pc' := 135) hX dX3_run_134 rfl rfl ?_
    refine r_aload_n (pc' := 136) hX dX3_run_135 rfl rfl ?_
    refine r_get (pc' := 139) (v := .ref nq) hX dX3_run_136 f_X3_18 0 rfl rfl rfl ?_
    refine r_iconst (pc' := 140) (v := nI 0) hX dX3_run_139 rfl rfl ?_
    refine r_iald_N (pc' := 141) hX dX3_run_140 (by rw [hcy]) 1 rfl (by omega) (by decide) rfl ?_
    change V X 0 0 (([(s, .inr (5, [.ref t, .ref nq, .int (nI ct), .int (nI po), .int (nI co)])), (nq, .inl (cy 0, aN 3 nb)), (t, .inr (1, [.ref q, .int (nI 0), .int (nI ml), .int (nI c)])), (q, .inl (cy 2, aN m g))]) ++ wSt cy ad v) [some (.ref s), some (.ref (sa (10 + i))), some (.ref (ad 0))] [.int (nI (nb 0)), .ref (ad 0)] 141
    refine V_call (k' := 0) (n' := 0) (pc' := 144) (wr := [(s, .inr (5, [.ref t, .ref nq, .int (nI ct), .int (nI po), .int (nI co)])), (nq, .inl (cy 0, aN 3 nb)), (t, .inr (1, [.ref q, .int (nI 0), .int (nI ml), .int (nI c)])), (q, .inl (cy 2, aN m g))]) hX (r_runV (As := [.int (nI (nb 0))]) hX dX3_run_141 k_X3_83 (fun l9 hl9 => cS_examine hv) hG ⟨6, _, TX4, 17, List.mem_cons_self, rfl⟩ rfl rfl (Nat.le_of_ble_eq_true rfl) (by decide) (by decide) (by decide) (by decide)) (List.perm_append_comm) rfl rfl rfl (fun w9 u9 hp9 => ?_)
    obtain ⟨rfl, ad950, had9, rfl⟩ := hp9
    change V X 0 0 (wSt cy ad950 (oExam v (nI (nb 0))).2 ++ [(s, .inr (5, [.ref t, .ref nq, .int (nI ct), .int (nI po), .int (nI co)])), (nq, .inl (cy 0, aN 3 nb)), (t, .inr (1, [.ref q, .int (nI 0), .int (nI ml), .int (nI c)])), (q, .inl (cy 2, aN m g))]) [some (.ref s), some (.ref (sa (10 + i))), some (.ref (ad 0))] [.int ((oExam v (nI (nb 0))).1)] 144
    refine V_perm (List.perm_append_comm) ?_
    exact r_ireturn hX hE dX3_run_144 rfl ⟨by rw [q5]; rfl, _, had9, by rw [q5]; rfl⟩ (by decide) (by decide)
  by_cases q6 : i = 5
  · have eI6 : nI (i + 1) = nI 6 := by exact congrArg nI (by omega)
    rw [eI6]
    refine r_tabN (tgt := 145) hX dX3_run_8 (by decide) (by decide) (by decide) rfl (by decide) ?_
    refine r_aload_n (pc' := 146) hX dX3_run_145 rfl rfl ?_
    refine r_aload_n (pc' := 147) hX dX3_run_146 rfl rfl ?_
    refine r_get (pc' := 150) (v := .ref nq) hX dX3_run_147 f_X3_18 0 rfl rfl rfl ?_
    refine r_iconst (pc' := 151) (v := nI 0) hX dX3_run_150 rfl rfl ?_
    refine r_iald_N (pc' := 152) hX dX3_run_151 (by rw [hcy]) 1 rfl (by omega) (by decide) rfl ?_
    change V X 0 0 (([(s, .inr (5, [.ref t, .ref nq, .int (nI ct), .int (nI po), .int (nI co)])), (nq, .inl (cy 0, aN 3 nb)), (t, .inr (1, [.ref q, .int (nI 0), .int (nI ml), .int (nI c)])), (q, .inl (cy 2, aN m g))]) ++ wSt cy ad v) [some (.ref s), some (.ref (sa (10 + i))), some (.ref (ad 0))] [.int (nI (nb 0)), .ref (ad 0)] 152
    refine V_call (k' := 0) (n' := 0) (pc' := 155) (wr := [(s, .inr (5, [.ref t, .ref nq, .int (nI ct), .int (nI po), .int (nI co)])), (nq, .inl (cy 0, aN 3 nb)), (t, .inr (1, [.ref q, .int (nI 0), .int (nI ml), .int (nI c)])), (q, .inl (cy 2, aN m g))]) hX (r_runV (As := [.int (nI (nb 0))]) hX dX3_run_152 k_X3_86 (fun l9 hl9 => cS_meltDown hv) hG ⟨6, _, TX4, 17, List.mem_cons_self, rfl⟩ rfl rfl (Nat.le_of_ble_eq_true rfl) (by decide) (by decide) (by decide) (by decide)) (List.perm_append_comm) rfl rfl rfl (fun w9 u9 hp9 => ?_)
    obtain ⟨rfl, ad951, had9, rfl⟩ := hp9
    change V X 0 0 (wSt cy ad951 (oMelt v (nI (nb 0))).2 ++ [(s, .inr (5, [.ref t, .ref nq, .int (nI ct), .int (nI po), .int (nI co)])), (nq, .inl (cy 0, aN 3 nb)), (t, .inr (1, [.ref q, .int (nI 0), .int (nI ml), .int (nI c)])), (q, .inl (cy 2, aN m g))]) [some (.ref s), some (.ref (sa (10 + i))), some (.ref (ad 0))] [.int ((oMelt v (nI (nb 0))).1)] 155
    refine V_perm (List.perm_append_comm) ?_
    exact r_ireturn hX hE dX3_run_155 rfl ⟨by rw [q6]; rfl, _, had9, by rw [q6]; rfl⟩ (by decide) (by decide)
  by_cases q7 : i = 6
  · have eI7 : nI (i + 1) = nI 7 := by exact congrArg nI (by omega)
    rw [eI7]
    refine r_tabN (tgt := 156) hX dX3_run_8 (by decide) (by decide) (by decide) rfl (by decide) ?_
    refine r_aload_n (pc' := 157) hX dX3_run_156 rfl rfl ?_
    refine r_aload_n (pc' := 158) hX dX3_run_157 rfl rfl ?_
    refine r_get (pc' := 161) (v := .ref nq) hX dX3_run_158 f_X3_18 0 rfl rfl rfl ?_
    refine r_iconst (pc' := 162) (v := nI 0) hX dX3_run_161 rfl rfl ?_
    refine r_iald_N (pc' := 163) hX dX3_run_162 (by rw [hcy]) 1 rfl (by omega) (by decide) rfl ?_
    change V X 0 0 (([(s, .inr (5, [.ref t, .ref nq, .int (nI ct), .int (nI po), .int (nI co)])), (nq, .inl (cy 0, aN 3 nb)), (t, .inr (1, [.ref q, .int (nI 0), .int (nI ml), .int (nI c)])), (q, .inl (cy 2, aN m g))]) ++ wSt cy ad v) [some (.ref s), some (.ref (sa (10 + i))), some (.ref (ad 0))] [.int (nI (nb 0)), .ref (ad 0)] 163
    refine V_call (k' := 0) (n' := 0) (pc' := 166) (wr := [(s, .inr (5, [.ref t, .ref nq, .int (nI ct), .int (nI po), .int (nI co)])), (nq, .inl (cy 0, aN 3 nb)), (t, .inr (1, [.ref q, .int (nI 0), .int (nI ml), .int (nI c)])), (q, .inl (cy 2, aN m g))]) hX (r_runV (As := [.int (nI (nb 0))]) hX dX3_run_163 k_X3_89 (fun l9 hl9 => cS_resetUses hv) hG ⟨6, _, TX4, 17, List.mem_cons_self, rfl⟩ rfl rfl (Nat.le_of_ble_eq_true rfl) (by decide) (by decide) (by decide) (by decide)) (List.perm_append_comm) rfl rfl rfl (fun w9 u9 hp9 => ?_)
    obtain ⟨rfl, rfl⟩ := hp9
    change V X 0 0 (wSt cy ad (oReset v (nI (nb 0))).2 ++ [(s, .inr (5, [.ref t, .ref nq, .int (nI ct), .int (nI po), .int (nI co)])), (nq, .inl (cy 0, aN 3 nb)), (t, .inr (1, [.ref q, .int (nI 0), .int (nI ml), .int (nI c)])), (q, .inl (cy 2, aN m g))]) [some (.ref s), some (.ref (sa (10 + i))), some (.ref (ad 0))] [.int ((oReset v (nI (nb 0))).1)] 166
    refine V_perm (List.perm_append_comm) ?_
    exact r_ireturn hX hE dX3_run_166 rfl ⟨by rw [q7]; rfl, _, rfl, by rw [q7]; rfl⟩ (by decide) (by decide)
  by_cases q8 : i = 7
  · have eI8 : nI (i + 1) = nI 8 := by exact congrArg nI (by omega)
    rw [eI8]
    refine r_tabN (tgt := 167) hX dX3_run_8 (by decide) (by decide) (by decide) rfl (by decide) ?_
    refine r_aload_n (pc' := 168) hX dX3_run_167 rfl rfl ?_
    refine r_aload_n (pc' := 169) hX dX3_run_168 rfl rfl ?_
    refine r_get (pc' := 172) (v := .ref nq) hX dX3_run_169 f_X3_18 0 rfl rfl rfl ?_
    refine r_iconst (pc' := 173) (v := nI 0) hX dX3_run_172 rfl rfl ?_
    refine r_iald_N (pc' := 174) hX dX3_run_173 (by rw [hcy]) 1 rfl (by omega) (by decide) rfl ?_
    change V X 0 0 (([(s, .inr (5, [.ref t, .ref nq, .int (nI ct), .int (nI po), .int (nI co)])), (nq, .inl (cy 0, aN 3 nb)), (t, .inr (1, [.ref q, .int (nI 0), .int (nI ml), .int (nI c)])), (q, .inl (cy 2, aN m g))]) ++ wSt cy ad v) [some (.ref s), some (.ref (sa (10 + i))), some (.ref (ad 0))] [.int (nI (nb 0)), .ref (ad 0)] 174
    refine V_call (k' := 0) (n' := 0) (pc' := 177) (wr := [(s, .inr (5, [.ref t, .ref nq, .int (nI ct), .int (nI po), .int (nI co)])), (nq, .inl (cy 0, aN 3 nb)), (t, .inr (1, [.ref q, .int (nI 0), .int (nI ml), .int (nI c)])), (q, .inl (cy 2, aN m g))]) hX (r_runV (As := [.int (nI (nb 0))]) hX dX3_run_174 k_X3_92 (fun l9 hl9 => cS_changeTolerance hv) hG ⟨6, _, TX4, 17, List.mem_cons_self, rfl⟩ rfl rfl (Nat.le_of_ble_eq_true rfl) (by decide) (by decide) (by decide) (by decide)) (List.perm_append_comm) rfl rfl rfl (fun w9 u9 hp9 => ?_)
    obtain ⟨rfl, rfl⟩ := hp9
    change V X 0 0 (wSt cy ad (oTol v (nI (nb 0))).2 ++ [(s, .inr (5, [.ref t, .ref nq, .int (nI ct), .int (nI po), .int (nI co)])), (nq, .inl (cy 0, aN 3 nb)), (t, .inr (1, [.ref q, .int (nI 0), .int (nI ml), .int (nI c)])), (q, .inl (cy 2, aN m g))]) [some (.ref s), some (.ref (sa (10 + i))), some (.ref (ad 0))] [.int ((oTol v (nI (nb 0))).1)] 177
    refine V_perm (List.perm_append_comm) ?_
    exact r_ireturn hX hE dX3_run_177 rfl ⟨by rw [q8]; rfl, _, rfl, by rw [q8]; rfl⟩ (by decide) (by decide)
  by_cases q9 : i = 8
  · have eI9 : nI (i + 1) = nI 9 := by exact congrArg nI (by omega)
    rw [eI9]
    refine r_tabN (tgt := 178) hX dX3_run_8 (by decide) (by decide) (by decide) rfl (by decide) ?_
    refine r_aload_n (pc' := 179) hX dX3_run_178 rfl rfl ?_
    refine r_aload_n (pc' := 180) hX dX3_run_179 rfl rfl ?_
    refine r_get (pc' := 183) (v := .ref nq) hX dX3_run_180 f_X3_18 0 rfl rfl rfl ?_
    refine r_iconst (pc' := 184) (v := nI 0) hX dX3_run_183 rfl rfl ?_
    refine r_iald_N (pc' := 185) hX dX3_run_184 (by rw [hcy]) 1 rfl (by omega) (by decide) rfl ?_
    change V X 0 0 (([(s, .inr (5, [.ref t, .ref nq, .int (nI ct), .int (nI po), .int (nI co)])), (nq, .inl (cy 0, aN 3 nb)), (t, .inr (1, [.ref q, .int (nI 0), .int (nI ml), .int (nI c)])), (q, .inl (cy 2, aN m g))]) ++ wSt cy ad v) [some (.ref s), some (.ref (sa (10 + i))), some (.ref (ad 0))] [.int (nI (nb 0)), .ref (ad 0)] 185
    refine V_call (k' := 0) (n' := 0) (pc' := 188) (wr := [(s, .inr (5, [.ref t, .ref nq, .int (nI ct), .int (nI po), .int (nI co)])), (nq, .inl (cy 0, aN 3 nb)), (t, .inr (1, [.ref q, .int (nI 0), .int (nI ml), .int (nI c)])), (q, .inl (cy 2, aN m g))]) hX (r_runV (As := [.int (nI (nb 0))]) hX dX3_run_185 k_X3_95 (fun l9 hl9 => cS_changeStep hv) hG ⟨6, _, TX4, 17, List.mem_cons_self, rfl⟩ rfl rfl (Nat.le_of_ble_eq_true rfl) (by decide) (by decide) (by decide) (by decide)) (List.perm_append_comm) rfl rfl rfl (fun w9 u9 hp9 => ?_)
    obtain ⟨rfl, rfl⟩ := hp9
    change V X 0 0 (wSt cy ad (oStep v (nI (nb 0))).2 ++ [(s, .inr (5, [.ref t, .ref nq, .int (nI ct), .int (nI po), .int (nI co)])), (nq, .inl (cy 0, aN 3 nb)), (t, .inr (1, [.ref q, .int (nI 0), .int (nI ml), .int (nI c)])), (q, .inl (cy 2, aN m g))]) [some (.ref s), some (.ref (sa (10 + i))), some (.ref (ad 0))] [.int ((oStep v (nI (nb 0))).1)] 188
    refine V_perm (List.perm_append_comm) ?_
    exact r_ireturn hX hE dX3_run_188 rfl ⟨by rw [q9]; rfl, _, rfl, by rw [q9]; rfl⟩ (by decide) (by decide)
  exact absurd hi (by omega)

set_option maxRecDepth 20000 in
set_option maxHeartbeats 1000000 in
theorem cP_fail {l : Launch} {D : va_G} {cy : Nat → ClassId} {sa : Nat → Nat} {s nq t q m ml c ct po co K : Nat} {g nb : Nat → Nat} {tx : List Nat} {ad : Nat → Nat} {v : SV} (h : SBp m c g tx) (hc : c ≤ 60) (hA : (pall tx 61 0).1 = false) (hco : co = (pall tx 61 0).2.2.length) (hv : Inv K v) (hK : K + 61 ≤ 100000) : MG l yX3_firstFailure cX3_firstFailure 4 (some .int) 8 0 0 (D, cy, sa) [.ref s, .ref (ad 0)] ((wScr cy s nq t q m ml c g nb ct po co ++ wSt cy ad v)) (fun w u => w = some (.int (mtF (rnC (pall tx 61 0).2.2 v 0).1)) ∧ ∃ (ct1 po1 : Nat) (nb1 ad1 : Nat → Nat), ad1 0 = ad 0 ∧ u = wScr cy s nq t q m ml c g nb1 ct1 po1 co ++ wSt cy ad1 (rnC (pall tx 61 0).2.2 v 0).2) := by
  refine MG_by (own := RX3) (L := [some (.ref s), some (.ref (ad 0)), none, none]) (by decide +kernel) rfl rfl (Nat.le_of_ble_eq_true rfl) 2 rfl (fun X hX hE hnL hG hcy hnm => ?_)
  obtain ⟨e1, e2, e3⟩ := h.le
  have hl61 := pall_len (t := tx) (f := 61) (p := 0)
  refine r_aload_n (pc' := 1) hX dX3_firstFailure_0 rfl rfl ?_
  refine r_iconst (pc' := 2) (v := nI 0) hX dX3_firstFailure_1 rfl rfl ?_
  refine r_put (ws' := ([(s, .inr (5, [.ref t, .ref nq, .int (nI ct), .int (nI 0), .int (nI co)])), (nq, .inl (cy 0, aN 3 nb)), (t, .inr (1, [.ref q, .int (nI 0), .int (nI ml), .int (nI c)])), (q, .inl (cy 2, aN m g))]) ++ wSt cy ad v) (pc' := 5) hX dX3_firstFailure_2 f_X3_26 fw_X3_3 0 rfl rfl rfl (Nat.le_of_ble_eq_true rfl) rfl rfl ?_
  refine r_iconst (pc' := 6) (v := nI 0) hX dX3_firstFailure_5 rfl rfl ?_
  refine r_istore_n (L' := [some (.ref s), some (.ref (ad 0)), some (.int (nI 0)), none]) (pc' := 7) hX dX3_firstFailure_6 (nlt hnL (by decide)) rfl rfl rfl ?_
  have loop7 : ∀ (n9 : Nat) (j : Nat) (p : Nat) (ct5 : Nat) (nb5 : Nat → Nat) (ad5 : Nat → Nat) (v5 : SV) (cs : List (Nat × List Nat)), co - j < n9 → (cs.length + j = co) → (p ≤ 61) → (ad5 0 = ad 0) → ((rnC (pall tx 61 0).2.2 v 0) = rnC cs v5 j) → (Inv (K + j) v5) → (cs ≠ [] → (pall tx (61 - j) p).1 = false ∧ (pall tx (61 - j) p).2.2 = cs) → V X 0 0 (([(s, .inr (5, [.ref t, .ref nq, .int (nI ct5), .int (nI p), .int (nI co)])), (nq, .inl (cy 0, aN 3 nb5)), (t, .inr (1, [.ref q, .int (nI 0), .int (nI ml), .int (nI c)])), (q, .inl (cy 2, aN m g))]) ++ wSt cy ad5 v5) [some (.ref s), some (.ref (ad 0)), some (.int (nI j)), none] [] 7 := by
    intro n9
    induction n9 with
    | zero => intro j p ct5 nb5 ad5 v5 cs hm; exact absurd hm (Nat.not_lt_zero _)
    | succ n9 ih7 =>
      intro j p ct5 nb5 ad5 v5 cs hm hj hp5 had hR hI hcs
      refine r_iload_n (pc' := 8) hX dX3_firstFailure_7 rfl rfl ?_
      refine r_aload_n (pc' := 9) hX dX3_firstFailure_8 rfl rfl ?_
      refine r_get (pc' := 12) (v := .int (nI co)) hX dX3_firstFailure_9 f_X3_29 0 rfl rfl rfl ?_
      refine r_icmp_ge_N (tgt := 48) (pc' := 15) hX dX3_firstFailure_12 (by decide) rfl (by omega) (by omega) (fun c12 => ?_) (fun c12 => ?_)
      · have hcs0 : cs = [] := List.eq_nil_of_length_eq_zero (by omega)
        subst hcs0
        refine r_iconst (pc' := 49) (v := (-1)) hX dX3_firstFailure_48 rfl rfl ?_
        exact r_ireturn hX hE dX3_firstFailure_49 rfl ⟨by rw [hR]; rfl, _, _, _, _, had, by rw [hR]; rfl⟩ (by decide) (by decide)
      · obtain ⟨hB, hC⟩ := hcs (fun z9 => by rw [z9] at hj; have hj : 0 + j = co := hj; omega)
        obtain ⟨f9, hf9⟩ : ∃ f9, 61 - j = f9 + 1 := ⟨60 - j, by omega⟩
        have hf8 : 61 - (j + 1) = f9 := by omega
        rw [hf9] at hB hC
        have hgo := prs_go (FF_ok hB)
        have hvW := hI.1
        refine r_aload_n (pc' := 16) hX dX3_firstFailure_15 rfl rfl ?_
        refine V_call (k' := 0) (n' := 0) (pc' := 19) (wr := (wSt cy ad5 v5)) hX (r_runV (As := []) hX dX3_firstFailure_16 k_X3_44 (fun l9 hl9 => cP_next (by assumption) (by omega) (by omega)) hG ⟨5, _, TX3, 5, List.mem_cons_self, rfl⟩ rfl rfl (Nat.le_of_ble_eq_true rfl) (by decide) (by decide) (by decide) (by decide)) (List.Perm.refl _) rfl rfl rfl (fun w9 u9 hp9 => ?_)
        obtain ⟨rfl, ct155, nb155, rfl, hn55⟩ := hp9
        by_cases hp : (prs tx p).1 = false
        · rw [if_pos hp]
          change V X 0 0 (([(s, .inr (5, [.ref t, .ref nq, .int (nI ct155), .int (nI ((prs tx p).2.1)), .int (nI co)])), (nq, .inl (cy 0, aN 3 nb155)), (t, .inr (1, [.ref q, .int (nI 0), .int (nI ml), .int (nI c)])), (q, .inl (cy 2, aN m g))]) ++ wSt cy ad5 v5) [some (.ref s), some (.ref (ad 0)), some (.int (nI j)), none] [.ref (sa (10 + fi tx p))] 19
          refine r_astore_n (L' := [some (.ref s), some (.ref (ad 0)), some (.int (nI j)), some (.ref (sa (10 + fi tx p)))]) (pc' := 20) hX dX3_firstFailure_19 (nlt hnL (by decide)) rfl rfl rfl ?_
          refine r_aload_n (pc' := 21) hX dX3_firstFailure_20 rfl rfl ?_
          refine r_ifnull (pc' := 24) hX dX3_firstFailure_21 rfl ?_
          refine r_aload_n (pc' := 25) hX dX3_firstFailure_24 rfl rfl ?_
          refine r_aload_n (pc' := 26) hX dX3_firstFailure_25 rfl rfl ?_
          refine r_aload_n (pc' := 27) hX dX3_firstFailure_26 rfl rfl ?_
          rw [← had]
          refine V_call0 (k' := 0) (n' := 0) (pc' := 30) hX (r_runV (As := [.ref (sa (10 + fi tx p)), .ref (ad5 0)]) (d9 := 4) (mc' := 0) (ms' := 0) hX dX3_firstFailure_27 k_X3_52 (fun l9 hl9 => cP_run (i := fi tx p) (v := v5) (ad := ad5) hvW hgo.1) hG ⟨5, _, TX3, 5, List.mem_cons_self, rfl⟩ rfl rfl (Nat.le_of_ble_eq_true rfl) (by decide) (by decide) (by decide) (by decide)) rfl rfl rfl (fun w9 u9 hp9 => ?_)
          obtain ⟨rfl, ad956, had9, rfl⟩ := hp9
          rw [oC_nums hp (hn55 hp), had]
          change V X 0 0 (([(s, .inr (5, [.ref t, .ref nq, .int (nI ct155), .int (nI ((prs tx p).2.1)), .int (nI co)])), (nq, .inl (cy 0, aN 3 nb155)), (t, .inr (1, [.ref q, .int (nI 0), .int (nI ml), .int (nI c)])), (q, .inl (cy 2, aN m g))]) ++ wSt cy ad956 (oC (fi tx p, (prs tx p).2.2) v5).2) [some (.ref s), some (.ref (ad 0)), some (.int (nI j)), some (.ref (sa (10 + fi tx p)))] [.int ((oC (fi tx p, (prs tx p).2.2) v5).1)] 30
          refine r_if_ge_I (tgt := 35) (pc' := 33) hX dX3_firstFailure_30 (by decide) rfl rfl (fun c30 => ?_) (fun c30 => ?_)
          · have hn9 : ¬ (oC (fi tx p, (prs tx p).2.2) v5).1.toInt < 0 := by omega
            have hI9 := oC_inv (c := (fi tx p, (prs tx p).2.2)) hI (by omega)
            refine r_aload_n (pc' := 36) hX dX3_firstFailure_35 rfl rfl ?_
            refine r_bipush (pc' := 38) (v := nI 59) hX dX3_firstFailure_36 rfl rfl ?_
            refine V_call (k' := 0) (n' := 0) (pc' := 41) (wr := (wSt cy ad956 (oC (fi tx p, (prs tx p).2.2) v5).2)) hX (r_runV (As := [.int (nI 59)]) hX dX3_firstFailure_38 k_X3_48 (fun l9 hl9 => cP_takes (by assumption) (by omega) (by omega) (by omega)) hG ⟨5, _, TX3, 5, List.mem_cons_self, rfl⟩ rfl rfl (Nat.le_of_ble_eq_true rfl) (by decide) (by decide) (by decide) (by decide)) (List.Perm.refl _) rfl rfl rfl (fun w9 u9 hp9 => ?_)
            obtain ⟨rfl, rfl⟩ := hp9
            by_cases hk : hr tx (prs tx p).2.1 = 59
            · rw [if_pos hk]
              change V X 0 0 (([(s, .inr (5, [.ref t, .ref nq, .int (nI ct155), .int (nI ((prs tx p).2.1 + 1)), .int (nI co)])), (nq, .inl (cy 0, aN 3 nb155)), (t, .inr (1, [.ref q, .int (nI 0), .int (nI ml), .int (nI c)])), (q, .inl (cy 2, aN m g))]) ++ wSt cy ad956 (oC (fi tx p, (prs tx p).2.2) v5).2) [some (.ref s), some (.ref (ad 0)), some (.int (nI j)), some (.ref (sa (10 + fi tx p)))] [.int (bI (hr tx (prs tx p).2.1 = 59))] 41
              obtain ⟨q1, q2⟩ := FF_on hB hk
              have hq9 := hr_in (t := tx) (p := (prs tx p).2.1) (by omega)
              obtain ⟨cs9, hcs8⟩ : ∃ cs9, cs9 = (pall tx f9 ((prs tx p).2.1 + 1)).2.2 := ⟨_, rfl⟩
              rw [hC, ← hcs8] at q1
              have hR9 : (rnC (pall tx 61 0).2.2 v 0) = rnC cs9 (oC (fi tx p, (prs tx p).2.2) v5).2 (j + 1) := by rw [hR, q1, rnC_on hn9]
              have hcs9 : cs9 ≠ [] → (pall tx (61 - (j + 1)) ((prs tx p).2.1 + 1)).1 = false ∧ (pall tx (61 - (j + 1)) ((prs tx p).2.1 + 1)).2.2 = cs9 := fun _ => by rw [hf8]; exact ⟨q2, hcs8.symm⟩
              have hj9 : cs9.length + 1 + j = co := by rw [q1, List.length_cons] at hj; exact hj
              refine r_pop (pc' := 42) hX dX3_firstFailure_41 rfl rfl ?_
              refine r_iinc_N (b := 1) (L' := [some (.ref s), some (.ref (ad 0)), some (.int (nI (j + 1))), some (.ref (sa (10 + fi tx p)))]) (pc' := 45) hX dX3_firstFailure_42 rfl (nlt hnL (by decide)) rfl rfl rfl ?_
              refine r_goto (tgt := 7) hX dX3_firstFailure_45 (by decide) ?_
              refine V_loc (L' := [some (.ref s), some (.ref (ad 0)), some (.int (nI (j + 1))), none]) (lo_w ⟨.inr rfl, .inr rfl, .inr rfl, .inl rfl, trivial⟩) ?_
              exact ih7 (j + 1) ((prs tx p).2.1 + 1) ct155 nb155 ad956 ((oC (fi tx p, (prs tx p).2.2) v5).2) cs9 (by omega) (by omega) (by omega) (had9.trans had) hR9 hI9 hcs9
            · rw [if_neg hk]
              change V X 0 0 (([(s, .inr (5, [.ref t, .ref nq, .int (nI ct155), .int (nI ((prs tx p).2.1)), .int (nI co)])), (nq, .inl (cy 0, aN 3 nb155)), (t, .inr (1, [.ref q, .int (nI 0), .int (nI ml), .int (nI c)])), (q, .inl (cy 2, aN m g))]) ++ wSt cy ad956 (oC (fi tx p, (prs tx p).2.2) v5).2) [some (.ref s), some (.ref (ad 0)), some (.int (nI j)), some (.ref (sa (10 + fi tx p)))] [.int (bI (hr tx (prs tx p).2.1 = 59))] 41
              have q1 := FF_end hB hk
              rw [hC] at q1
              obtain ⟨cs9, hcs8⟩ : ∃ cs9 : List (Nat × List Nat), cs9 = [] := ⟨_, rfl⟩
              rw [← hcs8] at q1
              have hR9 : (rnC (pall tx 61 0).2.2 v 0) = rnC cs9 (oC (fi tx p, (prs tx p).2.2) v5).2 (j + 1) := by rw [hR, q1, rnC_on hn9]
              have hcs9 : cs9 ≠ [] → (pall tx (61 - (j + 1)) (prs tx p).2.1).1 = false ∧ (pall tx (61 - (j + 1)) (prs tx p).2.1).2.2 = cs9 := fun z9 => absurd hcs8 z9
              have hj9 : cs9.length + 1 + j = co := by rw [q1, List.length_cons] at hj; exact hj
              refine r_pop (pc' := 42) hX dX3_firstFailure_41 rfl rfl ?_
              refine r_iinc_N (b := 1) (L' := [some (.ref s), some (.ref (ad 0)), some (.int (nI (j + 1))), some (.ref (sa (10 + fi tx p)))]) (pc' := 45) hX dX3_firstFailure_42 rfl (nlt hnL (by decide)) rfl rfl rfl ?_
              refine r_goto (tgt := 7) hX dX3_firstFailure_45 (by decide) ?_
              refine V_loc (L' := [some (.ref s), some (.ref (ad 0)), some (.int (nI (j + 1))), none]) (lo_w ⟨.inr rfl, .inr rfl, .inr rfl, .inl rfl, trivial⟩) ?_
              exact ih7 (j + 1) ((prs tx p).2.1) ct155 nb155 ad956 ((oC (fi tx p, (prs tx p).2.2) v5).2) cs9 (by omega) (by omega) (by omega) (had9.trans had) hR9 hI9 hcs9
          · have hR8 : (oC (fi tx p, (prs tx p).2.2) v5).1.toInt < 0 := c30
            refine r_iload_n (pc' := 34) hX dX3_firstFailure_33 rfl rfl ?_
            obtain ⟨c0, cs9, hce⟩ : ∃ c0 cs9, cs = c0 :: cs9 := by
              cases cs with
              | nil => exact absurd hj (by show ¬ 0 + j = co; omega)
              | cons a b => exact ⟨a, b, rfl⟩
            have hc0 : c0 = (fi tx p, (prs tx p).2.2) := by
              by_cases hk : hr tx (prs tx p).2.1 = 59
              · have := (FF_on hB hk).1; rw [hC, hce] at this; exact (List.cons.inj this).1
              · have := FF_end hB hk; rw [hC, hce] at this; exact (List.cons.inj this).1
            rw [hce, hc0, rnC_no hR8] at hR
            exact r_ireturn hX hE dX3_firstFailure_34 rfl ⟨by rw [hR]; rfl, _, _, _, _, had9.trans had, by rw [hR]; rfl⟩ (by decide) (by decide)
        · rw [if_neg hp]
          change V X 0 0 (([(s, .inr (5, [.ref t, .ref nq, .int (nI ct155), .int (nI ((prs tx p).2.1)), .int (nI co)])), (nq, .inl (cy 0, aN 3 nb155)), (t, .inr (1, [.ref q, .int (nI 0), .int (nI ml), .int (nI c)])), (q, .inl (cy 2, aN m g))]) ++ wSt cy ad5 v5) [some (.ref s), some (.ref (ad 0)), some (.int (nI j)), none] [.null] 19
          refine r_astore_nN (L' := [some (.ref s), some (.ref (ad 0)), some (.int (nI j)), some (.null)]) (pc' := 20) hX dX3_firstFailure_19 (nlt hnL (by decide)) rfl rfl rfl ?_
          exact absurd (FF_ok hB) hp
  exact loop7 _ 0 0 ct nb ad v ((pall tx 61 0).2.2) (Nat.lt_succ_self _) (by omega) (by omega) rfl rfl hv (fun _ => ⟨hA, rfl⟩)
