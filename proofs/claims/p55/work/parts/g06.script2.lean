/-- how many numbers a form has left -/
def cN (f : List Nat) : Nat := (f.filter (fun c => c == 35 || c == 42)).length
theorem frm_cN : ∀ i, i < 9 → cN (frm i) ≤ 3 := by decide +kernel
theorem drop_at {f : List Nat} {j : Nat} (h : j < f.length) : f.drop j = f.getD j 0 :: f.drop (j + 1) := by rw [List.drop_eq_getElem_cons h, getD_at h]
theorem cN_num {f : List Nat} {j : Nat} (h : j < f.length) (hc : f.getD j 0 = 35 ∨ f.getD j 0 = 42) : cN (f.drop j) = cN (f.drop (j + 1)) + 1 := by
  rw [drop_at h]
  unfold cN
  rw [List.filter_cons, if_pos (by rcases hc with q | q <;> rw [q] <;> rfl), List.length_cons]
theorem cN_chr {f : List Nat} {j : Nat} (h : j < f.length) : cN (f.drop (j + 1)) ≤ cN (f.drop j) := by
  rw [drop_at h]
  unfold cN
  rw [List.filter_cons]
  split
  · rw [List.length_cons]; omega
  · exact Nat.le_refl _
theorem tf_at {t f : List Nat} {j : Nat} {x : Bool × Nat × List Nat} (h : j < f.length) : tf t (f.drop j) x = tf t (f.drop (j + 1)) (sgn t x (f.getD j 0)) := by rw [drop_at h, tf_cons]
theorem sgn_num {t ns : List Nat} {p c z : Nat} (hc : c = if z = 0 then 35 else 42) (hz : z ≤ 1) : sgn t (false, p, ns) c = ((dgt t (z + 1) (false, p)).1.1, (dgt t (z + 1) (false, p)).1.2, ns ++ [(dgt t (z + 1) (false, p)).2]) := by
  unfold sgn
  match z, hz with
  | 0, _ => rw [if_pos (by simpa using hc)]
  | 1, _ => rw [if_neg (by rw [hc]; decide), if_pos (by simpa using hc)]
  | k + 2, h => exact absurd h (by omega)
theorem tfN_ok {t f ns : List Nat} {j p z : Nat} (h : j < f.length) (hc : f.getD j 0 = if z = 0 then 35 else 42) (hz : z ≤ 1) (hb : (dgt t (z + 1) (false, p)).1.1 = false) : tf t (f.drop j) (false, p, ns) = tf t (f.drop (j + 1)) (false, (dgt t (z + 1) (false, p)).1.2, ns ++ [(dgt t (z + 1) (false, p)).2]) := by
  rw [tf_at h, sgn_num hc hz, hb]
theorem tfN_bad {t f ns : List Nat} {j p z : Nat} (h : j < f.length) (hc : f.getD j 0 = if z = 0 then 35 else 42) (hz : z ≤ 1) (hb : ¬ (dgt t (z + 1) (false, p)).1.1 = false) : (tf t (f.drop j) (false, p, ns)).1 = true ∧ (tf t (f.drop j) (false, p, ns)).2.1 = (dgt t (z + 1) (false, p)).1.2 := by
  rw [tf_at h, sgn_num hc hz]
  have hb2 : (dgt t (z + 1) (false, p)).1.1 = true := by
    cases e : (dgt t (z + 1) (false, p)).1.1 with
    | true => rfl
    | false => exact absurd e hb
  exact tf_st (x := ((dgt t (z + 1) (false, p)).1.1, (dgt t (z + 1) (false, p)).1.2, ns ++ [(dgt t (z + 1) (false, p)).2])) hb2
theorem tfC_ok {t f ns : List Nat} {j p : Nat} (h : j < f.length) (h1 : f.getD j 0 ≠ 35) (h2 : f.getD j 0 ≠ 42) (hb : hr t p = f.getD j 0) : tf t (f.drop j) (false, p, ns) = tf t (f.drop (j + 1)) (false, p + 1, ns) := by
  rw [tf_at h, sgn_nd hb h1 h2]
theorem tfC_bad {t f ns : List Nat} {j p : Nat} (h : j < f.length) (h1 : f.getD j 0 ≠ 35) (h2 : f.getD j 0 ≠ 42) (hb : ¬ hr t p = f.getD j 0) : (tf t (f.drop j) (false, p, ns)).1 = true ∧ (tf t (f.drop j) (false, p, ns)).2.1 = p := by
  rw [tf_at h, sgn_bad hb h1 h2]
  exact tf_st rfl
theorem dgt_p {t : List Nat} {m : Nat} {s : Bool × Nat} : (dgt t m s).1.2 ≤ s.2 + 2 := by
  unfold dgt
  split
  · split
    · exact Nat.le_refl _
    · show s.2 + 1 ≤ s.2 + 2; omega
  · show s.2 ≤ s.2 + 2; omega
theorem nd_p {t : List Nat} {c : Nat} {s : Bool × Nat} : (nd t c s).2 ≤ s.2 + 2 := by
  unfold nd
  split
  · show s.2 + 1 ≤ s.2 + 2; omega
  · show s.2 ≤ s.2 + 2; omega
theorem sgn_p {t : List Nat} {x : Bool × Nat × List Nat} {c : Nat} : (sgn t x c).2.1 ≤ x.2.1 + 2 := by
  unfold sgn
  split
  · exact dgt_p (s := (x.1, x.2.1))
  · split
    · exact dgt_p (s := (x.1, x.2.1))
    · exact nd_p (s := (x.1, x.2.1))
theorem tf_hi {t : List Nat} : ∀ {f : List Nat} {x : Bool × Nat × List Nat}, (tf t f x).2.1 ≤ x.2.1 + 2 * f.length
  | [], _ => Nat.le_refl _
  | c :: f, x => by
    have h1 := tf_hi (t := t) (f := f) (x := sgn t x c)
    have h2 := sgn_p (t := t) (x := x) (c := c)
    rw [tf_cons, List.length_cons]
    omega
theorem prs_hi {t : List Nat} {p : Nat} : (prs t p).2.1 ≤ p + 40 := by
  by_cases q : fi t p = 9
  · rw [prs_9 q]; show p ≤ p + 40; omega
  · have hl := fi_le (t := t) (p := p)
    rw [prs_i rfl (by omega)]
    have := tf_hi (t := t) (f := frm (fi t p)) (x := (false, p, []))
    have h9 := frm_n (i := fi t p) (by omega)
    have this : (tf t (frm (fi t p)) (false, p, [])).2.1 ≤ p + 2 * (frm (fi t p)).length := this
    omega
theorem nx1 {t f : List Nat} {p c : Nat} (h : ¬ hr t p = c) (h1 : c ≠ 35) (h2 : c ≠ 42) : (tf t (c :: f) (false, p, [])).1 = true ∧ (tf t (c :: f) (false, p, [])).2.1 = p := by
  rw [tf_cons, sgn_bad h h1 h2]
  exact tf_st rfl
theorem nx2 {t f : List Nat} {p c e : Nat} (h : hr t p = c) (h1 : c ≠ 35) (h2 : c ≠ 42) (h3 : ¬ hr t (p + 1) = e) (h4 : e ≠ 35) (h5 : e ≠ 42) : (tf t (c :: e :: f) (false, p, [])).1 = true ∧ (tf t (c :: e :: f) (false, p, [])).2.1 = p + 1 := by
  rw [tf_cons, sgn_nd h h1 h2, tf_cons, sgn_bad h3 h4 h5]
  exact tf_st rfl
/-- a form that the letters don't begin fails, and no further than the right one -/
theorem NX {t : List Nat} {p : Nat} : ∀ {i : Nat}, i < 9 → i ≠ fi t p → (tf t (frm i) (false, p, [])).1 = true ∧ (tf t (frm i) (false, p, [])).2.1 ≤ (prs t p).2.1 := by
  have A : ∀ {i c : Nat} {f : List Nat}, frm i = c :: f → c ≠ 35 → c ≠ 42 → ¬ hr t p = c → (tf t (frm i) (false, p, [])).1 = true ∧ (tf t (frm i) (false, p, [])).2.1 ≤ (prs t p).2.1 := by
    intro i c f he h1 h2 h
    rw [he]
    obtain ⟨a, b⟩ := nx1 (t := t) (f := f) (p := p) h h1 h2
    exact ⟨a, by rw [b]; exact prs_mo⟩
  intro i hi hne
  match i, hi with
  | 0, _ =>
    by_cases q : hr t p = 97
    · exact absurd (fi_97 q).symm hne
    · exact A (i := 0) rfl (by decide) (by decide) q
  | 2, _ =>
    by_cases q : hr t p = 98
    · exact absurd (fi_98 q).symm hne
    · exact A (i := 2) rfl (by decide) (by decide) q
  | 3, _ =>
    by_cases q : hr t p = 99
    · exact absurd (fi_99 q).symm hne
    · exact A (i := 3) rfl (by decide) (by decide) q
  | 4, _ =>
    by_cases q : hr t p = 116
    · exact absurd (fi_116 q).symm hne
    · exact A (i := 4) rfl (by decide) (by decide) q
  | 6, _ =>
    by_cases q : hr t p = 114
    · exact absurd (fi_114 q).symm hne
    · exact A (i := 6) rfl (by decide) (by decide) q
  | 7, _ =>
    by_cases q : hr t p = 108
    · exact absurd (fi_108 q).symm hne
    · exact A (i := 7) rfl (by decide) (by decide) q
  | 8, _ =>
    by_cases q : hr t p = 115
    · exact absurd (fi_115 q).symm hne
    · exact A (i := 8) rfl (by decide) (by decide) q
  | 1, _ =>
    by_cases q : hr t p = 109
    · have q2 : hr t (p + 1) = 101 := by
        refine Classical.byContradiction fun q2 => hne (fi_mo q q2).symm
      obtain ⟨a, b⟩ := nx2 (t := t) (f := [117, 108, 100, 32, 42]) (p := p) (c := 109) (e := 111) q (by decide) (by decide) (by rw [q2]; decide) (by decide) (by decide)
      refine ⟨a, ?_⟩
      show (tf t (109 :: 111 :: [117, 108, 100, 32, 42]) (false, p, [])).2.1 ≤ _
      rw [b, prs_i (fi_me q q2) (by decide)]
      show p + 1 ≤ (tf t (109 :: 101 :: [108, 116, 32, 42]) (false, p, [])).2.1
      rw [tf_cons, sgn_nd q (by decide) (by decide)]
      exact tf_mo (x := (false, p + 1, [])) (by decide)
    · exact A (i := 1) rfl (by decide) (by decide) q
  | 5, _ =>
    by_cases q : hr t p = 109
    · have q2 : ¬ hr t (p + 1) = 101 := fun q2 => hne (fi_me q q2).symm
      obtain ⟨a, b⟩ := nx2 (t := t) (f := [108, 116, 32, 42]) (p := p) (c := 109) (e := 101) q (by decide) (by decide) q2 (by decide) (by decide)
      refine ⟨a, ?_⟩
      show (tf t (109 :: 101 :: [108, 116, 32, 42]) (false, p, [])).2.1 ≤ _
      rw [b, prs_i (fi_mo q q2) (by decide)]
      show p + 1 ≤ (tf t (109 :: [111, 117, 108, 100, 32, 42]) (false, p, [])).2.1
      rw [tf_cons, sgn_nd q (by decide) (by decide)]
      exact tf_mo (x := (false, p + 1, [])) (by decide)
    · exact A (i := 5) rfl (by decide) (by decide) q
  | j + 9, h => exact absurd h (by omega)
theorem NC_ok {t : List Nat} {p k : Nat} (hk : k < 9) (hb : (tf t (frm k) (false, p, [])).1 = false) : fi t p = k ∧ prs t p = tf t (frm k) (false, p, []) := by
  have e : fi t p = k := by
    refine Classical.byContradiction fun q => ?_
    rw [(NX hk (fun z => q z.symm)).1] at hb
    exact absurd hb (by decide)
  exact ⟨e, prs_i e hk⟩
theorem NC_step {t : List Nat} {p k far : Nat} (hk : k < 9) (hb : ¬ (tf t (frm k) (false, p, [])).1 = false) (h1 : p ≤ far) (h2 : far ≤ (prs t p).2.1) (h3 : fi t p < k → (prs t p).1 = true ∧ far = (prs t p).2.1) : p ≤ max far (tf t (frm k) (false, p, [])).2.1 ∧ max far (tf t (frm k) (false, p, [])).2.1 ≤ (prs t p).2.1 ∧ (fi t p < k + 1 → (prs t p).1 = true ∧ max far (tf t (frm k) (false, p, [])).2.1 = (prs t p).2.1) := by
  by_cases e : fi t p = k
  · have e2 := prs_i e hk
    have hb2 : (tf t (frm k) (false, p, [])).1 = true := by
      cases q : (tf t (frm k) (false, p, [])).1 with
      | true => rfl
      | false => exact absurd q hb
    rw [← e2] at hb2 ⊢
    exact ⟨by omega, by omega, fun _ => ⟨hb2, by omega⟩⟩
  · obtain ⟨a, b⟩ := NX hk (fun z => e z.symm)
    exact ⟨by omega, by omega, fun q => ⟨(h3 (by omega)).1, by have := (h3 (by omega)).2; omega⟩⟩
theorem NC_end {t : List Nat} {p k far : Nat} (hk : ¬ k < 9) (hk9 : k ≤ 9) (h1 : p ≤ far) (h2 : far ≤ (prs t p).2.1) (h3 : fi t p < k → (prs t p).1 = true ∧ far = (prs t p).2.1) : (prs t p).1 = true ∧ far = (prs t p).2.1 := by
  by_cases e : fi t p = 9
  · rw [prs_9 e] at h2 ⊢
    exact ⟨rfl, by have : far ≤ p := h2; show far = p; omega⟩
  · have := fi_le (t := t) (p := p)
    exact h3 (by omega)
theorem LT_snoc {g : Nat → Nat} {t : List Nat} {c j : Nat} (h : LT g t) (hj : j = t.length) : LT (up1 g j c) (t ++ [c]) := LT_push h hj
set_option maxRecDepth 20000 in
set_option maxHeartbeats 1000000 in
theorem cP_takesForm {l : Launch} {D : va_G} {cy : Nat → ClassId} {sa : Nat → Nat} {s nq t q m ml c ct po co : Nat} {g nb : Nat → Nat} {tx : List Nat} (h : SBp m c g tx) {i : Nat} (hi : i < 9) (hc : c ≤ 60) (hpo : po ≤ 61) : MG l yX3_takesForm cX3_takesForm 5 (some .boolean) 6 0 0 (D, cy, sa) [.ref s, .ref (sa (20 + i))] ((wScr cy s nq t q m ml c g nb ct po co)) (fun w u => w = some (.int (bI ((tf tx (frm i) (false, po, [])).1 = false))) ∧ ∃ (ct1 : Nat) (nb1 : Nat → Nat), u = wScr cy s nq t q m ml c g nb1 ct1 ((tf tx (frm i) (false, po, [])).2.1) co ∧ ((tf tx (frm i) (false, po, [])).1 = false → ct1 = (tf tx (frm i) (false, po, [])).2.2.length ∧ LT nb1 (tf tx (frm i) (false, po, [])).2.2)) := by
  refine MG_by (own := RX3) (L := [some (.ref s), some (.ref (sa (20 + i))), none, none, none]) (by decide +kernel) rfl rfl (Nat.le_of_ble_eq_true rfl) 3 rfl (fun X hX hE hnL hG hcy hnm => ?_)
  have hfn := frm_n hi
  have hcn := frm_cN i hi
  refine r_aload_n (pc' := 1) hX dX3_takesForm_0 rfl rfl ?_
  refine r_iconst (pc' := 2) (v := nI 0) hX dX3_takesForm_1 rfl rfl ?_
  refine r_put (ws' := [(s, .inr (5, [.ref t, .ref nq, .int (nI 0), .int (nI po), .int (nI co)])), (nq, .inl (cy 0, aN 3 nb)), (t, .inr (1, [.ref q, .int (nI 0), .int (nI ml), .int (nI c)])), (q, .inl (cy 2, aN m g))]) (pc' := 5) hX dX3_takesForm_2 f_X3_22 fw_X3_2 0 rfl rfl rfl (Nat.le_of_ble_eq_true rfl) rfl rfl ?_
  refine r_iconst (pc' := 6) (v := nI 0) hX dX3_takesForm_5 rfl rfl ?_
  refine r_istore_n (L' := [some (.ref s), some (.ref (sa (20 + i))), some (.int (nI 0)), none, none]) (pc' := 7) hX dX3_takesForm_6 (nlt hnL (by decide)) rfl rfl rfl ?_
  have loop7 : ∀ (n9 : Nat) (j : Nat) (p : Nat) (ct5 : Nat) (nb5 : Nat → Nat) (ns : List Nat), (frm i).length - j < n9 → (j ≤ (frm i).length) → (tf tx (frm i) (false, po, []) = tf tx ((frm i).drop j) (false, p, ns)) → (ct5 = ns.length) → (LT nb5 ns) → (cN ((frm i).drop j) + ns.length ≤ 3) → (p ≤ po + 2 * j) → V X 0 0 ([(s, .inr (5, [.ref t, .ref nq, .int (nI ct5), .int (nI p), .int (nI co)])), (nq, .inl (cy 0, aN 3 nb5)), (t, .inr (1, [.ref q, .int (nI 0), .int (nI ml), .int (nI c)])), (q, .inl (cy 2, aN m g))]) [some (.ref s), some (.ref (sa (20 + i))), some (.int (nI j)), none, none] [] 7 := by
    intro n9
    induction n9 with
    | zero => intro j p ct5 nb5 ns hm; exact absurd hm (Nat.not_lt_zero _)
    | succ n9 ih7 =>
      intro j p ct5 nb5 ns hm hj hT hct hL hN hp5
      refine r_iload_n (pc' := 8) hX dX3_takesForm_7 rfl rfl ?_
      refine r_aload_n (pc' := 9) hX dX3_takesForm_8 rfl rfl ?_
      refine V_calln (k' := 0) (n' := 0) (pc' := 12) hX (r_runVO (As := []) hX dX3_takesForm_9 k_X3_115 (fun l9 hl9 => cJ_slen (by omega)) hG (by rw [hG]; exact fun _ _ _ z => (z.2.2.2.2.2.1 i (by omega)).2.2.2.1) rfl rfl (Nat.le_of_ble_eq_true rfl) (by decide) (by decide) (by decide) (by decide)) rfl rfl rfl (fun w9 hp9 => ?_)
      obtain rfl := hp9
      change V X 0 0 ([(s, .inr (5, [.ref t, .ref nq, .int (nI ct5), .int (nI p), .int (nI co)])), (nq, .inl (cy 0, aN 3 nb5)), (t, .inr (1, [.ref q, .int (nI 0), .int (nI ml), .int (nI c)])), (q, .inl (cy 2, aN m g))]) [some (.ref s), some (.ref (sa (20 + i))), some (.int (nI j)), none, none] [.int (nI ((frm i).length)), .int (nI j)] 12
      refine r_icmp_ge_N (tgt := 82) (pc' := 15) hX dX3_takesForm_12 (by decide) rfl (by omega) (by omega) (fun c12 => ?_) (fun c12 => ?_)
      · have hT9 : tf tx (frm i) (false, po, []) = (false, p, ns) := by rw [hT, List.drop_eq_nil_of_le (by omega)]; rfl
        refine r_iconst (pc' := 83) (v := nI 1) hX dX3_takesForm_82 rfl rfl ?_
        exact r_zreturn hX hE dX3_takesForm_83 rfl rfl ⟨rB1 (by rw [hT9]), _, _, by rw [hT9]; rfl, fun _ => ⟨by rw [hT9]; exact hct, by rw [hT9]; exact hL⟩⟩ (by decide) (by decide)
      · have hjl : j < (frm i).length := by omega
        have hfb := frm_b i j
        refine r_aload_n (pc' := 16) hX dX3_takesForm_15 rfl rfl ?_
        refine r_iload_n (pc' := 17) hX dX3_takesForm_16 rfl rfl ?_
        refine V_calln (k' := 0) (n' := 0) (pc' := 20) hX (r_runVO (As := [.int (nI j)]) hX dX3_takesForm_17 k_X3_118 (fun l9 hl9 => cJ_sat (by omega) (by omega)) hG (by rw [hG]; exact fun _ _ _ z => (z.2.2.2.2.2.1 i (by omega)).2.2.2.1) rfl rfl (Nat.le_of_ble_eq_true rfl) (by decide) (by decide) (by decide) (by decide)) rfl rfl rfl (fun w9 hp9 => ?_)
        obtain rfl := hp9
        change V X 0 0 ([(s, .inr (5, [.ref t, .ref nq, .int (nI ct5), .int (nI p), .int (nI co)])), (nq, .inl (cy 0, aN 3 nb5)), (t, .inr (1, [.ref q, .int (nI 0), .int (nI ml), .int (nI c)])), (q, .inl (cy 2, aN m g))]) [some (.ref s), some (.ref (sa (20 + i))), some (.int (nI j)), none, none] [.int (nI ((frm i).getD j 0))] 20
        refine r_istore_n (L' := [some (.ref s), some (.ref (sa (20 + i))), some (.int (nI j)), some (.int (nI ((frm i).getD j 0))), none]) (pc' := 21) hX dX3_takesForm_20 (nlt hnL (by decide)) rfl rfl rfl ?_
        refine r_iload_n (pc' := 22) hX dX3_takesForm_21 rfl rfl ?_
        refine r_bipush (pc' := 24) (v := nI 35) hX dX3_takesForm_22 rfl rfl ?_
        refine r_icmp_eq_N (tgt := 33) (pc' := 27) hX dX3_takesForm_24 (by decide) rfl (by omega) (by omega) (fun c24 => ?_) (fun c24 => ?_)
        · refine r_iconst (pc' := 34) (v := nI 1) hX dX3_takesForm_33 rfl rfl ?_
          refine r_goto (tgt := 38) hX dX3_takesForm_34 (by decide) ?_
          refine r_istore (L' := [some (.ref s), some (.ref (sa (20 + i))), some (.int (nI j)), some (.int (nI ((frm i).getD j 0))), some (.int (nI 1))]) (pc' := 40) hX dX3_takesForm_38 (nlt hnL (by decide)) rfl rfl rfl ?_
          refine r_iload (pc' := 42) hX dX3_takesForm_40 rfl rfl ?_
          refine r_if_eq_N (tgt := 66) (pc' := 45) hX dX3_takesForm_42 (by decide) rfl (by omega) (fun c42 => ?_) (fun c42 => ?_)
          · exact absurd c42 (by omega)
          · refine r_aload_n (pc' := 46) hX dX3_takesForm_45 rfl rfl ?_
            refine r_iload_n (pc' := 47) hX dX3_takesForm_46 rfl rfl ?_
            refine r_bipush (pc' := 49) (v := nI 42) hX dX3_takesForm_47 rfl rfl ?_
            refine r_icmp_ne_N (tgt := 56) (pc' := 52) hX dX3_takesForm_49 (by decide) rfl (by omega) (by omega) (fun c49 => ?_) (fun c49 => ?_)
            · refine r_iconst (pc' := 57) (v := nI 0) hX dX3_takesForm_56 rfl rfl ?_
              refine V_call0 (k' := 0) (n' := 0) (pc' := 60) hX (r_runV (As := [.int (nI 0)]) hX dX3_takesForm_57 k_X3_122 (fun l9 hl9 => cP_takesNumber (by assumption) (by decide) (by omega) (by omega) (by omega)) hG ⟨5, _, TX3, 5, List.mem_of_getElem? (l := ([(s, .inr (5, [.ref t, .ref nq, .int (nI ct5), .int (nI p), .int (nI co)])), (nq, .inl (cy 0, aN 3 nb5)), (t, .inr (1, [.ref q, .int (nI 0), .int (nI ml), .int (nI c)])), (q, .inl (cy 2, aN m g))] : va_W)) (i := 0) rfl, rfl⟩ rfl rfl (Nat.le_of_ble_eq_true rfl) (by decide) (by decide) (by decide) (by decide)) rfl rfl rfl (fun w9 u9 hp9 => ?_)
              obtain ⟨rfl, ct142, nb142, rfl, hn1⟩ := hp9
              change V X 0 0 ([(s, .inr (5, [.ref t, .ref nq, .int (nI ct142), .int (nI ((dgt tx (0 + 1) (false, p)).1.2)), .int (nI co)])), (nq, .inl (cy 0, aN 3 nb142)), (t, .inr (1, [.ref q, .int (nI 0), .int (nI ml), .int (nI c)])), (q, .inl (cy 2, aN m g))]) [some (.ref s), some (.ref (sa (20 + i))), some (.int (nI j)), some (.int (nI ((frm i).getD j 0))), some (.int (nI 1))] [.int (bI ((dgt tx (0 + 1) (false, p)).1.1 = false))] 60
              refine r_if_ne_B (tgt := 76) (pc' := 63) hX dX3_takesForm_60 (by decide) rfl (fun c60 => ?_) (fun c60 => ?_)
              · have hcN := cN_num (f := frm i) hjl (by omega)
                obtain ⟨rfl, rfl⟩ := hn1 c60 (by omega)
                refine r_iinc_N (b := 1) (L' := [some (.ref s), some (.ref (sa (20 + i))), some (.int (nI (j + 1))), some (.int (nI ((frm i).getD j 0))), some (.int (nI 1))]) (pc' := 79) hX dX3_takesForm_76 rfl (nlt hnL (by decide)) rfl rfl rfl ?_
                refine r_goto (tgt := 7) hX dX3_takesForm_79 (by decide) ?_
                refine V_loc (L' := [some (.ref s), some (.ref (sa (20 + i))), some (.int (nI (j + 1))), none, none]) (lo_w ⟨.inr rfl, .inr rfl, .inr rfl, .inl rfl, .inl rfl, trivial⟩) ?_
                exact ih7 (j + 1) ((dgt tx (0 + 1) (false, p)).1.2) (ct5 + 1) (up1 nb5 ct5 (dgt tx (0 + 1) (false, p)).2) (ns ++ [(dgt tx (0 + 1) (false, p)).2]) (by omega) (by omega) (hT.trans (tfN_ok (z := 0) hjl c24 (by decide) c60)) (by rw [List.length_append, ← hct]; rfl) (LT_push hL hct) (by rw [List.length_append]; show _ + (ns.length + 1) ≤ 3; omega) (by have := dgt_p (t := tx) (m := 0 + 1) (s := (false, p)); have this : (dgt tx (0 + 1) (false, p)).1.2 ≤ p + 2 := this; omega)
              · refine r_goto (tgt := 74) hX dX3_takesForm_63 (by decide) ?_
                refine r_iconst (pc' := 75) (v := nI 0) hX dX3_takesForm_74 rfl rfl ?_
                obtain ⟨q1, q2⟩ := tfN_bad (t := tx) (ns := ns) (p := p) (z := 0) hjl c24 (by decide) c60
                rw [← hT] at q1 q2
                exact r_zreturn hX hE dX3_takesForm_75 rfl rfl ⟨rB0 (by rw [q1]; exact fun z9 => absurd (show true = false from z9) (by decide)), _, _, by rw [q2]; rfl, fun z9 => by rw [q1] at z9; exact absurd (show true = false from z9) (by decide)⟩ (by decide) (by decide)
            · exact absurd c49 (by omega)
        · refine r_iload_n (pc' := 28) hX dX3_takesForm_27 rfl rfl ?_
          refine r_bipush (pc' := 30) (v := nI 42) hX dX3_takesForm_28 rfl rfl ?_
          refine r_icmp_ne_N (tgt := 37) (pc' := 33) hX dX3_takesForm_30 (by decide) rfl (by omega) (by omega) (fun c30 => ?_) (fun c30 => ?_)
          · refine r_iconst (pc' := 38) (v := nI 0) hX dX3_takesForm_37 rfl rfl ?_
            refine r_istore (L' := [some (.ref s), some (.ref (sa (20 + i))), some (.int (nI j)), some (.int (nI ((frm i).getD j 0))), some (.int (nI 0))]) (pc' := 40) hX dX3_takesForm_38 (nlt hnL (by decide)) rfl rfl rfl ?_
            refine r_iload (pc' := 42) hX dX3_takesForm_40 rfl rfl ?_
            refine r_if_eq_N (tgt := 66) (pc' := 45) hX dX3_takesForm_42 (by decide) rfl (by omega) (fun c42 => ?_) (fun c42 => ?_)
            · refine r_aload_n (pc' := 67) hX dX3_takesForm_66 rfl rfl ?_
              refine r_iload_n (pc' := 68) hX dX3_takesForm_67 rfl rfl ?_
              refine V_call0 (k' := 0) (n' := 0) (pc' := 71) hX (r_runV (As := [.int (nI ((frm i).getD j 0))]) hX dX3_takesForm_68 k_X3_48 (fun l9 hl9 => cP_takes (by assumption) (by omega) (by omega) (by omega)) hG ⟨5, _, TX3, 5, List.mem_of_getElem? (l := ([(s, .inr (5, [.ref t, .ref nq, .int (nI ct5), .int (nI p), .int (nI co)])), (nq, .inl (cy 0, aN 3 nb5)), (t, .inr (1, [.ref q, .int (nI 0), .int (nI ml), .int (nI c)])), (q, .inl (cy 2, aN m g))] : va_W)) (i := 0) rfl, rfl⟩ rfl rfl (Nat.le_of_ble_eq_true rfl) (by decide) (by decide) (by decide) (by decide)) rfl rfl rfl (fun w9 u9 hp9 => ?_)
              obtain ⟨rfl, rfl⟩ := hp9
              by_cases hk : hr tx p = ((frm i).getD j 0)
              · rw [if_pos hk]
                change V X 0 0 ([(s, .inr (5, [.ref t, .ref nq, .int (nI ct5), .int (nI (p + 1)), .int (nI co)])), (nq, .inl (cy 0, aN 3 nb5)), (t, .inr (1, [.ref q, .int (nI 0), .int (nI ml), .int (nI c)])), (q, .inl (cy 2, aN m g))]) [some (.ref s), some (.ref (sa (20 + i))), some (.int (nI j)), some (.int (nI ((frm i).getD j 0))), some (.int (nI 0))] [.int (bI (hr tx p = ((frm i).getD j 0)))] 71
                refine r_if_ne_B (tgt := 76) (pc' := 74) hX dX3_takesForm_71 (by decide) rfl (fun c71 => ?_) (fun c71 => ?_)
                · refine r_iinc_N (b := 1) (L' := [some (.ref s), some (.ref (sa (20 + i))), some (.int (nI (j + 1))), some (.int (nI ((frm i).getD j 0))), some (.int (nI 0))]) (pc' := 79) hX dX3_takesForm_76 rfl (nlt hnL (by decide)) rfl rfl rfl ?_
                  refine r_goto (tgt := 7) hX dX3_takesForm_79 (by decide) ?_
                  refine V_loc (L' := [some (.ref s), some (.ref (sa (20 + i))), some (.int (nI (j + 1))), none, none]) (lo_w ⟨.inr rfl, .inr rfl, .inr rfl, .inl rfl, .inl rfl, trivial⟩) ?_
                  exact ih7 (j + 1) (p + 1) ct5 nb5 ns (by omega) (by omega) (hT.trans (tfC_ok hjl (by omega) (by omega) hk)) hct hL (by have := cN_chr hjl; omega) (by omega)
                · exact absurd c71 (by omega)
              · rw [if_neg hk]
                change V X 0 0 ([(s, .inr (5, [.ref t, .ref nq, .int (nI ct5), .int (nI p), .int (nI co)])), (nq, .inl (cy 0, aN 3 nb5)), (t, .inr (1, [.ref q, .int (nI 0), .int (nI ml), .int (nI c)])), (q, .inl (cy 2, aN m g))]) [some (.ref s), some (.ref (sa (20 + i))), some (.int (nI j)), some (.int (nI ((frm i).getD j 0))), some (.int (nI 0))] [.int (bI (hr tx p = ((frm i).getD j 0)))] 71
                refine r_if_ne_B (tgt := 76) (pc' := 74) hX dX3_takesForm_71 (by decide) rfl (fun c71 => ?_) (fun c71 => ?_)
                · exact absurd c71 (by omega)
                · refine r_iconst (pc' := 75) (v := nI 0) hX dX3_takesForm_74 rfl rfl ?_
                  obtain ⟨q1, q2⟩ := tfC_bad (t := tx) (ns := ns) (p := p) hjl (by omega) (by omega) hk
                  rw [← hT] at q1 q2
                  exact r_zreturn hX hE dX3_takesForm_75 rfl rfl ⟨rB0 (by rw [q1]; exact fun z9 => absurd (show true = false from z9) (by decide)), _, _, by rw [q2]; rfl, fun z9 => by rw [q1] at z9; exact absurd (show true = false from z9) (by decide)⟩ (by decide) (by decide)
            · exact absurd c42 (by omega)
          · refine r_iconst (pc' := 34) (v := nI 1) hX dX3_takesForm_33 rfl rfl ?_
            refine r_goto (tgt := 38) hX dX3_takesForm_34 (by decide) ?_
            refine r_istore (L' := [some (.ref s), some (.ref (sa (20 + i))), some (.int (nI j)), some (.int (nI ((frm i).getD j 0))), some (.int (nI 1))]) (pc' := 40) hX dX3_takesForm_38 (nlt hnL (by decide)) rfl rfl rfl ?_
            refine r_iload (pc' := 42) hX dX3_takesForm_40 rfl rfl ?_
            refine r_if_eq_N (tgt := 66) (pc' := 45) hX dX3_takesForm_42 (by decide) rfl (by omega) (fun c42 => ?_) (fun c42 => ?_)
            · exact absurd c42 (by omega)
            · refine r_aload_n (pc' := 46) hX dX3_takesForm_45 rfl rfl ?_
              refine r_iload_n (pc' := 47) hX dX3_takesForm_46 rfl rfl ?_
              refine r_bipush (pc' := 49) (v := nI 42) hX dX3_takesForm_47 rfl rfl ?_
              refine r_icmp_ne_N (tgt := 56) (pc' := 52) hX dX3_takesForm_49 (by decide) rfl (by omega) (by omega) (fun c49 => ?_) (fun c49 => ?_)
              · exact absurd c49 (by omega)
              · refine r_iconst (pc' := 53) (v := nI 1) hX dX3_takesForm_52 rfl rfl ?_
                refine r_goto (tgt := 57) hX dX3_takesForm_53 (by decide) ?_
                refine V_call0 (k' := 0) (n' := 0) (pc' := 60) hX (r_runV (As := [.int (nI 1)]) hX dX3_takesForm_57 k_X3_122 (fun l9 hl9 => cP_takesNumber (by assumption) (by decide) (by omega) (by omega) (by omega)) hG ⟨5, _, TX3, 5, List.mem_of_getElem? (l := ([(s, .inr (5, [.ref t, .ref nq, .int (nI ct5), .int (nI p), .int (nI co)])), (nq, .inl (cy 0, aN 3 nb5)), (t, .inr (1, [.ref q, .int (nI 0), .int (nI ml), .int (nI c)])), (q, .inl (cy 2, aN m g))] : va_W)) (i := 0) rfl, rfl⟩ rfl rfl (Nat.le_of_ble_eq_true rfl) (by decide) (by decide) (by decide) (by decide)) rfl rfl rfl (fun w9 u9 hp9 => ?_)
                obtain ⟨rfl, ct143, nb143, rfl, hn1⟩ := hp9
                change V X 0 0 ([(s, .inr (5, [.ref t, .ref nq, .int (nI ct143), .int (nI ((dgt tx (1 + 1) (false, p)).1.2)), .int (nI co)])), (nq, .inl (cy 0, aN 3 nb143)), (t, .inr (1, [.ref q, .int (nI 0), .int (nI ml), .int (nI c)])), (q, .inl (cy 2, aN m g))]) [some (.ref s), some (.ref (sa (20 + i))), some (.int (nI j)), some (.int (nI ((frm i).getD j 0))), some (.int (nI 1))] [.int (bI ((dgt tx (1 + 1) (false, p)).1.1 = false))] 60
                refine r_if_ne_B (tgt := 76) (pc' := 63) hX dX3_takesForm_60 (by decide) rfl (fun c60 => ?_) (fun c60 => ?_)
                · have hcN := cN_num (f := frm i) hjl (by omega)
                  obtain ⟨rfl, rfl⟩ := hn1 c60 (by omega)
                  refine r_iinc_N (b := 1) (L' := [some (.ref s), some (.ref (sa (20 + i))), some (.int (nI (j + 1))), some (.int (nI ((frm i).getD j 0))), some (.int (nI 1))]) (pc' := 79) hX dX3_takesForm_76 rfl (nlt hnL (by decide)) rfl rfl rfl ?_
                  refine r_goto (tgt := 7) hX dX3_takesForm_79 (by decide) ?_
                  refine V_loc (L' := [some (.ref s), some (.ref (sa (20 + i))), some (.int (nI (j + 1))), none, none]) (lo_w ⟨.inr rfl, .inr rfl, .inr rfl, .inl rfl, .inl rfl, trivial⟩) ?_
                  exact ih7 (j + 1) ((dgt tx (1 + 1) (false, p)).1.2) (ct5 + 1) (up1 nb5 ct5 (dgt tx (1 + 1) (false, p)).2) (ns ++ [(dgt tx (1 + 1) (false, p)).2]) (by omega) (by omega) (hT.trans (tfN_ok (z := 1) hjl c30 (by decide) c60)) (by rw [List.length_append, ← hct]; rfl) (LT_push hL hct) (by rw [List.length_append]; show _ + (ns.length + 1) ≤ 3; omega) (by have := dgt_p (t := tx) (m := 1 + 1) (s := (false, p)); have this : (dgt tx (1 + 1) (false, p)).1.2 ≤ p + 2 := this; omega)
                · refine r_goto (tgt := 74) hX dX3_takesForm_63 (by decide) ?_
                  refine r_iconst (pc' := 75) (v := nI 0) hX dX3_takesForm_74 rfl rfl ?_
                  obtain ⟨q1, q2⟩ := tfN_bad (t := tx) (ns := ns) (p := p) (z := 1) hjl c30 (by decide) c60
                  rw [← hT] at q1 q2
                  exact r_zreturn hX hE dX3_takesForm_75 rfl rfl ⟨rB0 (by rw [q1]; exact fun z9 => absurd (show true = false from z9) (by decide)), _, _, by rw [q2]; rfl, fun z9 => by rw [q1] at z9; exact absurd (show true = false from z9) (by decide)⟩ (by decide) (by decide)
  exact loop7 _ 0 po 0 nb ([]) (Nat.lt_succ_self _) (Nat.zero_le _) rfl rfl (fun i9 h9 => absurd h9 (Nat.not_lt_zero _)) hcn (by omega)
