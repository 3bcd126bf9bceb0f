/-! ===== the model: scripts run ===== -/
theorem CO_iff {a b c d e : Nat} {x : Int32} (h : CO a b c d e x) : kd a b c d e x = 0 ↔ 0 ≤ x.toInt := by
  rcases h with h | ⟨h, hn⟩
  · exact ⟨fun _ => h, fun _ => kd_pos h⟩
  · exact ⟨fun q => absurd q hn, fun q => absurd q (by omega)⟩
/-- pa holds the commands cs, four ints a command -/
def PA (pa : Nat → Int32) (cs : List (Nat × List Nat)) : Prop := ∀ i, (h : i < cs.length) → cs[i].1 < 9 ∧ pa (4 * i) = nI (cdf cs[i].1) ∧ ∀ j, j < nnf cs[i].1 → pa (4 * i + 1 + j) = nI (cs[i].2.getD j 0)
theorem nnf_le : ∀ i, i < 9 → nnf i ≤ 3 := by decide
theorem PA_push {t : List Nat} {q : Nat} {pa1 pa2 : Nat → Int32} {r1 r2 : Nat → Nat} {cs : List (Nat × List Nat)} (h : PA pa1 cs) (hCC : CC t q (4 * cs.length) pa1 pa2 r1 r2) (hok : (prs t q).1 = false) : PA pa2 (cs ++ [(fi t q, (prs t q).2.2)]) := by
  obtain ⟨-, hlow, hnew⟩ := hCC
  obtain ⟨n1, n2⟩ := hnew hok
  have h9 := (prs_go hok).1
  rw [prs_len h9] at n2
  intro i hi
  rw [List.length_append, List.length_singleton] at hi
  by_cases e : i = cs.length
  · subst e
    have e9 : (cs ++ [(fi t q, (prs t q).2.2)])[cs.length]'(by simp) = (fi t q, (prs t q).2.2) := by simp
    rw [e9]
    exact ⟨h9, n1, n2⟩
  · have e9 : (cs ++ [(fi t q, (prs t q).2.2)])[i]'(by simp; omega) = cs[i]'(by omega) := List.getElem_append_left (by omega)
    rw [e9]
    obtain ⟨g1, g2, g3⟩ := h i (by omega)
    have := nnf_le _ g1
    refine ⟨g1, (hlow _ (by omega)).trans g2, fun j hj => (hlow _ (by omega)).trans (g3 j hj)⟩
/-- the reading's loop: cnt commands read; mo: more to come -/
def LI (t : List Nat) (r r1 : Nat → Nat) (pa1 : Nat → Int32) (cnt mo : Nat) : Prop :=
  (mo = 1 ∧ ∃ (q : Nat) (cs : List (Nat × List Nat)), PS r r1 (false, q) ∧ cs.length = cnt ∧ 2 * cnt ≤ q ∧ q ≤ t.length ∧ PA pa1 cs ∧ pall t 61 0 = ((pall t (61 - cnt) q).1, (pall t (61 - cnt) q).2.1, cs ++ (pall t (61 - cnt) q).2.2)) ∨
  (mo = 0 ∧ ∃ b : Bool, PS r r1 (b, (pall t 61 0).2.1) ∧ ((pall t 61 0).1 = true ↔ b = true ∨ (pall t 61 0).2.1 < t.length) ∧ ((pall t 61 0).1 = false → (pall t 61 0).2.2.length = cnt ∧ PA pa1 (pall t 61 0).2.2))
theorem pall_len2 {t : List Nat} : ∀ {f p : Nat}, p ≤ t.length → 2 * (pall t f p).2.2.length ≤ t.length - p + 1
  | 0, p, _ => Nat.zero_le _
  | f + 1, p, hp => by
    rw [pall]
    split
    · exact Nat.zero_le _
    · rename_i h0
      have hok : (prs t p).1 = false := by
        cases e : (prs t p).1 with
        | false => rfl
        | true => exact absurd e h0
      obtain ⟨-, g1, g2⟩ := prs_go hok
      split
      · show 2 * 1 ≤ _
        omega
      · split
        · have := pall_len2 (t := t) (f := f) (p := (prs t p).2.1 + 1) (by omega)
          rw [List.length_cons]
          omega
        · exact Nat.zero_le _
section LIS
variable {t : List Nat} {r r1 r2 : Nat → Nat} {pa1 pa2 : Nat → Int32} {cnt q : Nat} {cs : List (Nat × List Nat)}
theorem LI_wrong (h60 : t.length ≤ 60) (hP : PS r r1 (false, q)) (hcl : cs.length = cnt) (h2 : 2 * cnt ≤ q) (hq : q ≤ t.length) (hpe : pall t 61 0 = ((pall t (61 - cnt) q).1, (pall t (61 - cnt) q).2.1, cs ++ (pall t (61 - cnt) q).2.2)) (hCC : CC t q (4 * cnt) pa1 pa2 r1 r2) (hw : (prs t q).1 = true) : LI t r (up1 r2 5 (r2 5 + 0)) pa2 (cnt + 1) 0 := by
  rw [show 61 - cnt = (60 - cnt) + 1 by omega, pall_bad hw] at hpe
  have h1 : (pall t 61 0).1 = true := by rw [hpe]
  have h2' : (pall t 61 0).2.1 = (prs t q).2.1 := by rw [hpe]
  have hP2 := PS_tr hP hCC.1
  refine Or.inr ⟨rfl, true, ?_, ⟨fun _ => Or.inl rfl, fun _ => h1⟩, fun z => by rw [h1] at z; exact absurd z (by decide)⟩
  rw [h2']
  rw [hw] at hP2
  exact PS_to hP2 (fun j q1 q2 => up1_ne q1) (by show up1 r2 5 _ 5 = _; rw [up1_s]; exact hP2.2.1) ((up1_ne (by decide)).trans hP2.2.2.1) hP2.2.2.2
theorem LI_stop (h60 : t.length ≤ 60) (hP : PS r r1 (false, q)) (hcl : cs.length = cnt) (h2 : 2 * cnt ≤ q) (hq : q ≤ t.length) (hPA : PA pa1 cs) (hpe : pall t 61 0 = ((pall t (61 - cnt) q).1, (pall t (61 - cnt) q).2.1, cs ++ (pall t (61 - cnt) q).2.2)) (hCC : CC t q (4 * cnt) pa1 pa2 r1 r2) (hok : (prs t q).1 = false) (hne : hr t (prs t q).2.1 ≠ 59) : LI t r (up1 r2 5 (r2 5 + 0)) pa2 (cnt + 1) 0 := by
  rw [show 61 - cnt = (60 - cnt) + 1 by omega] at hpe
  have hP2 := PS_tr hP hCC.1
  rw [hok] at hP2
  have hP3 : PS r (up1 r2 5 (r2 5 + 0)) (false, (prs t q).2.1) := PS_to hP2 (fun j q1 q2 => up1_ne q1) (by show up1 r2 5 _ 5 = _; rw [up1_s]; exact hP2.2.1) ((up1_ne (by decide)).trans hP2.2.2.1) hP2.2.2.2
  have hPn := PA_push hPA (by rw [hcl]; exact hCC) hok
  by_cases hl : t.length ≤ (prs t q).2.1
  · rw [pall_end hok hl] at hpe
    have h1 : (pall t 61 0).1 = false := by rw [hpe]
    have h2' : (pall t 61 0).2.1 = (prs t q).2.1 := by rw [hpe]
    have h3 : (pall t 61 0).2.2 = cs ++ [(fi t q, (prs t q).2.2)] := by rw [hpe]
    refine Or.inr ⟨rfl, false, by rw [h2']; exact hP3, ?_, fun _ => ⟨by rw [h3, List.length_append, hcl]; rfl, by rw [h3]; exact hPn⟩⟩
    rw [h1, h2']
    exact ⟨fun z => absurd z (by decide), fun z => z.elim (fun y => absurd y (by decide)) (fun y => absurd hl (by omega))⟩
  · rw [pall_no hok hl hne] at hpe
    have h1 : (pall t 61 0).1 = true := by rw [hpe]
    have h2' : (pall t 61 0).2.1 = (prs t q).2.1 := by rw [hpe]
    refine Or.inr ⟨rfl, false, by rw [h2']; exact hP3, ?_, fun z => by rw [h1] at z; exact absurd z (by decide)⟩
    rw [h1, h2']
    exact ⟨fun _ => Or.inr (by omega), fun _ => rfl⟩
theorem LI_on (h60 : t.length ≤ 60) (hP : PS r r1 (false, q)) (hcl : cs.length = cnt) (h2 : 2 * cnt ≤ q) (hq : q ≤ t.length) (hPA : PA pa1 cs) (hpe : pall t 61 0 = ((pall t (61 - cnt) q).1, (pall t (61 - cnt) q).2.1, cs ++ (pall t (61 - cnt) q).2.2)) (hCC : CC t q (4 * cnt) pa1 pa2 r1 r2) (hok : (prs t q).1 = false) (heq : hr t (prs t q).2.1 = 59) : LI t r (up1 r2 5 (r2 5 + 1)) pa2 (cnt + 1) 1 := by
  have hl := hr_in (t := t) (p := (prs t q).2.1) (by omega)
  have hgo := (prs_go hok).2.1
  rw [show 61 - cnt = (60 - cnt) + 1 by omega, pall_on hok (by omega) heq] at hpe
  have hP2 := PS_tr hP hCC.1
  rw [hok] at hP2
  refine Or.inl ⟨rfl, (prs t q).2.1 + 1, cs ++ [(fi t q, (prs t q).2.2)], PS_to hP2 (fun j q1 q2 => up1_ne q1) (by show up1 r2 5 _ 5 = _; rw [up1_s, hP2.2.1]) ((up1_ne (by decide)).trans hP2.2.2.1) (by show (prs t q).2.1 + 1 ≤ 61; omega), by rw [List.length_append, hcl]; rfl, by omega, by omega, PA_push hPA (by rw [hcl]; exact hCC) hok, ?_⟩
  rw [show 61 - (cnt + 1) = 60 - cnt by omega, hpe, List.append_assoc]
  rfl
end LIS
section MSR
variable {cy : Nat → ClassId} {ma : Nat → Nat} {S : AS} {th : Nat} {r : Nat → Nat} {e : Nat → Int32} {g bf hy sv bu le : Nat → Nat} {pa : Nat → Int32}
theorem MS_run (hM : r 4 = th ∧ Rr S.1 g ∧ r 0 = S.2.1.length ∧ S.2.1.length ≤ 8 ∧ HR S.2.1 hy ∧
    ((r 1 = 0 ∧ S.2.2.1 = none) ∨ (r 1 = 1 ∧ ∃ s, S.2.2.1 = some s ∧ Rr s sv)) ∧
    (r 2 = S.2.2.2.1.length ∧ S.2.2.2.1.length ≤ 60 ∧ ∀ i, (h : i < S.2.2.2.1.length) → bu i = S.2.2.2.1[i]) ∧
    (r 3 = S.2.2.2.2.1.length ∧ S.2.2.2.2.1.length ≤ 60 ∧ ∀ i, (h : i < S.2.2.2.2.1.length) → le i = S.2.2.2.2.1[i]) ∧
    e 0 = S.2.2.2.2.2.1 ∧ e 1 = S.2.2.2.2.2.2) {S' : AS} {r' : Nat → Nat} {e' : Nat → Int32} {g' bf' hy' : Nat → Nat} {pa' : Nat → Int32} {tau : Nat} (h0 : r' 0 = S'.2.1.length) (h8 : S'.2.1.length ≤ 8) (hH : HR S'.2.1 hy') (h1 : r' 1 = r 1) (h2 : r' 2 = 0) (h3 : r' 3 = r 3) (h4 : r' 4 = tau) (hg : Rr S'.1 g') (hs : S'.2.2.1 = S.2.2.1) (ht : S'.2.2.2.1 = []) (ho : S'.2.2.2.2.1 = S.2.2.2.2.1) (he0 : e' 0 = S'.2.2.2.2.2.1) (he1 : e' 1 = S'.2.2.2.2.2.2) : MS cy ma S' tau (wM cy ma r' e' g' bf' hy' sv bu le pa') := by
  obtain ⟨-, -, -, -, -, q1, q2, q3, -⟩ := hM
  refine ⟨_, _, _, _, _, _, _, _, _, rfl, h4, hg, h0, h8, hH, by rw [h1, hs]; exact q1, ⟨by rw [h2, ht]; rfl, by rw [ht]; exact Nat.zero_le _, fun i h => ?_⟩, by rw [h3, ho]; exact q3, he0, he1⟩
  rw [ht] at h
  exact absurd h (Nat.not_lt_zero _)
end MSR
set_option maxRecDepth 20000 in
set_option maxHeartbeats 1000000 in
theorem cM_co0 {l : Launch} {D : va_G} {cy : Nat → ClassId} {sa : Nat → Nat} {ma : Nat → Nat} {r : Nat → Nat} {e : Nat → Int32} {g bf hy sv bu le : Nat → Nat} {pa : Nat → Int32} {v : SV} {k : Nat} (hv : Wf v) (hR : Rr v g) (hz : ∀ i, v 0 1 ≤ i → i < 4 → v 2 i = 0) (hk : k ≤ 236) (hc : pa k = nI 97) : MG l yX6_carriesOut cX6_carriesOut 4 (some .int) 4 0 0 (D, cy, sa) [.ref (ma 0), .int (nI k)] (wM cy ma r e g bf hy sv bu le pa) (fun w u => w = some (.int (mvl (oMix v (pa (k + 1)) (pa (k + 2)) (pa (k + 3))).1)) ∧ ∃ (g' : Nat → Nat) (tau : Nat), u = wM cy ma (up1 r 4 tau) e g' bf hy sv bu le pa ∧ Rr (oMix v (pa (k + 1)) (pa (k + 2)) (pa (k + 3))).2 g' ∧ (tau = 0 ↔ 0 ≤ (oMix v (pa (k + 1)) (pa (k + 2)) (pa (k + 3))).1.toInt) ∧ tau < 100) := by
  refine MG_by (own := RX6) (L := [some (.ref (ma 0)), some (.int (nI k)), none, none]) (by decide +kernel) rfl rfl (Nat.le_of_ble_eq_true rfl) 2 rfl (fun X hX hE hnL hG hcy hnm => ?_)
  refine r_aload_n (pc' := 1) hX dX6_carriesOut_0 rfl rfl ?_
  refine r_get (pc' := 4) (v := .ref (ma 7)) hX dX6_carriesOut_1 f_X6_36 0 rfl rfl rfl ?_
  refine r_iload_n (pc' := 5) hX dX6_carriesOut_4 rfl rfl ?_
  refine r_iconst (pc' := 6) (v := nI 1) hX dX6_carriesOut_5 rfl rfl ?_
  refine r_iadd_N (pc' := 7) hX dX6_carriesOut_6  rfl ?_
  refine r_iald_I (pc' := 8) hX dX6_carriesOut_7 (by rw [hcy]) 7 rfl (by omega) (by decide) rfl ?_
  change V X 0 0 (wM cy ma r e g bf hy sv bu le pa) [some (.ref (ma 0)), some (.int (nI k)), none, none] [.int (pa (k + 1))] 8
  refine r_istore_n (L' := [some (.ref (ma 0)), some (.int (nI k)), some (.int (pa (k + 1))), none]) (pc' := 9) hX dX6_carriesOut_8 (nlt hnL (by decide)) rfl rfl rfl ?_
  refine r_aload_n (pc' := 10) hX dX6_carriesOut_9 rfl rfl ?_
  refine r_get (pc' := 13) (v := .ref (ma 7)) hX dX6_carriesOut_10 f_X6_36 0 rfl rfl rfl ?_
  refine r_iload_n (pc' := 14) hX dX6_carriesOut_13 rfl rfl ?_
  refine r_iconst (pc' := 15) (v := nI 2) hX dX6_carriesOut_14 rfl rfl ?_
  refine r_iadd_N (pc' := 16) hX dX6_carriesOut_15  rfl ?_
  refine r_iald_I (pc' := 17) hX dX6_carriesOut_16 (by rw [hcy]) 7 rfl (by omega) (by decide) rfl ?_
  change V X 0 0 (wM cy ma r e g bf hy sv bu le pa) [some (.ref (ma 0)), some (.int (nI k)), some (.int (pa (k + 1))), none] [.int (pa (k + 2))] 17
  refine r_istore_n (L' := [some (.ref (ma 0)), some (.int (nI k)), some (.int (pa (k + 1))), some (.int (pa (k + 2)))]) (pc' := 18) hX dX6_carriesOut_17 (nlt hnL (by decide)) rfl rfl rfl ?_
  refine r_aload_n (pc' := 19) hX dX6_carriesOut_18 rfl rfl ?_
  refine r_get (pc' := 22) (v := .ref (ma 7)) hX dX6_carriesOut_19 f_X6_36 0 rfl rfl rfl ?_
  refine r_iload_n (pc' := 23) hX dX6_carriesOut_22 rfl rfl ?_
  refine r_iald_I (pc' := 24) hX dX6_carriesOut_23 (by rw [hcy]) 7 rfl (by omega) (by decide) rfl ?_
  change V X 0 0 (wM cy ma r e g bf hy sv bu le pa) [some (.ref (ma 0)), some (.int (nI k)), some (.int (pa (k + 1))), some (.int (pa (k + 2)))] [.int (pa k)] 24
  rw [hc]
  refine r_tabN (tgt := 120) hX dX6_carriesOut_24 (by decide) (by decide) (by decide) rfl (by decide) ?_
  refine r_aload_n (pc' := 121) hX dX6_carriesOut_120 rfl rfl ?_
  refine r_iload_n (pc' := 122) hX dX6_carriesOut_121 rfl rfl ?_
  refine r_iload_n (pc' := 123) hX dX6_carriesOut_122 rfl rfl ?_
  refine r_aload_n (pc' := 124) hX dX6_carriesOut_123 rfl rfl ?_
  refine r_get (pc' := 127) (v := .ref (ma 7)) hX dX6_carriesOut_124 f_X6_36 0 rfl rfl rfl ?_
  refine r_iload_n (pc' := 128) hX dX6_carriesOut_127 rfl rfl ?_
  refine r_iconst (pc' := 129) (v := nI 3) hX dX6_carriesOut_128 rfl rfl ?_
  refine r_iadd_N (pc' := 130) hX dX6_carriesOut_129  rfl ?_
  refine r_iald_I (pc' := 131) hX dX6_carriesOut_130 (by rw [hcy]) 7 rfl (by omega) (by decide) rfl ?_
  change V X 0 0 (wM cy ma r e g bf hy sv bu le pa) [some (.ref (ma 0)), some (.int (nI k)), some (.int (pa (k + 1))), some (.int (pa (k + 2)))] [.int (pa (k + 3)), .int (pa (k + 2)), .int (pa (k + 1)), .ref (ma 0)] 131
  refine V_call0 (k' := 0) (n' := 0) (pc' := 134) hX (r_runV (As := [.int (pa (k + 1)), .int (pa (k + 2)), .int (pa (k + 3))]) hX dX6_carriesOut_131 k_X6_76 (fun l9 hl9 => cM_addsAlloy hv hR) hG ⟨8, _, TX6, 16, List.mem_cons_self, rfl⟩ rfl rfl (Nat.le_of_ble_eq_true rfl) (by decide) (by decide) (by decide) (by decide)) rfl rfl rfl (fun w9 u9 hp9 => ?_)
  obtain ⟨rfl, g', rfl, hg'⟩ := hp9
  change V X 0 0 (wM cy ma (up1 r 4 (kd 0 1 2 0 0 (oMix v (pa (k + 1)) (pa (k + 2)) (pa (k + 3))).1)) e g' bf hy sv bu le pa) [some (.ref (ma 0)), some (.int (nI k)), some (.int (pa (k + 1))), some (.int (pa (k + 2)))] [.int (mvl (oMix v (pa (k + 1)) (pa (k + 2)) (pa (k + 3))).1)] 134
  exact r_ireturn hX hE dX6_carriesOut_134 rfl ⟨rfl, g', _, rfl, hg', CO_iff (oMix_co hv), kd_lt (by decide)⟩ (by decide) (by decide)

set_option maxRecDepth 20000 in
set_option maxHeartbeats 1000000 in
theorem cM_co1 {l : Launch} {D : va_G} {cy : Nat → ClassId} {sa : Nat → Nat} {ma : Nat → Nat} {r : Nat → Nat} {e : Nat → Int32} {g bf hy sv bu le : Nat → Nat} {pa : Nat → Int32} {v : SV} {k : Nat} (hv : Wf v) (hR : Rr v g) (hz : ∀ i, v 0 1 ≤ i → i < 4 → v 2 i = 0) (hk : k ≤ 236) (hc : pa k = nI 109) : MG l yX6_carriesOut cX6_carriesOut 4 (some .int) 4 0 0 (D, cy, sa) [.ref (ma 0), .int (nI k)] (wM cy ma r e g bf hy sv bu le pa) (fun w u => w = some (.int (mvl (oMould v (pa (k + 1))).1)) ∧ ∃ (g' : Nat → Nat) (tau : Nat), u = wM cy ma (up1 r 4 tau) e g' bf hy sv bu le pa ∧ Rr (oMould v (pa (k + 1))).2 g' ∧ (tau = 0 ↔ 0 ≤ (oMould v (pa (k + 1))).1.toInt) ∧ tau < 100) := by
  refine MG_by (own := RX6) (L := [some (.ref (ma 0)), some (.int (nI k)), none, none]) (by decide +kernel) rfl rfl (Nat.le_of_ble_eq_true rfl) 2 rfl (fun X hX hE hnL hG hcy hnm => ?_)
  refine r_aload_n (pc' := 1) hX dX6_carriesOut_0 rfl rfl ?_
  refine r_get (pc' := 4) (v := .ref (ma 7)) hX dX6_carriesOut_1 f_X6_36 0 rfl rfl rfl ?_
  refine r_iload_n (pc' := 5) hX dX6_carriesOut_4 rfl rfl ?_
  refine r_iconst (pc' := 6) (v := nI 1) hX dX6_carriesOut_5 rfl rfl ?_
  refine r_iadd_N (pc' := 7) hX dX6_carriesOut_6  rfl ?_
  refine r_iald_I (pc' := 8) hX dX6_carriesOut_7 (by rw [hcy]) 7 rfl (by omega) (by decide) rfl ?_
  change V X 0 0 (wM cy ma r e g bf hy sv bu le pa) [some (.ref (ma 0)), some (.int (nI k)), none, none] [.int (pa (k + 1))] 8
  refine r_istore_n (L' := [some (.ref (ma 0)), some (.int (nI k)), some (.int (pa (k + 1))), none]) (pc' := 9) hX dX6_carriesOut_8 (nlt hnL (by decide)) rfl rfl rfl ?_
  refine r_aload_n (pc' := 10) hX dX6_carriesOut_9 rfl rfl ?_
  refine r_get (pc' := 13) (v := .ref (ma 7)) hX dX6_carriesOut_10 f_X6_36 0 rfl rfl rfl ?_
  refine r_iload_n (pc' := 14) hX dX6_carriesOut_13 rfl rfl ?_
  refine r_iconst (pc' := 15) (v := nI 2) hX dX6_carriesOut_14 rfl rfl ?_
  refine r_iadd_N (pc' := 16) hX dX6_carriesOut_15  rfl ?_
  refine r_iald_I (pc' := 17) hX dX6_carriesOut_16 (by rw [hcy]) 7 rfl (by omega) (by decide) rfl ?_
  change V X 0 0 (wM cy ma r e g bf hy sv bu le pa) [some (.ref (ma 0)), some (.int (nI k)), some (.int (pa (k + 1))), none] [.int (pa (k + 2))] 17
  refine r_istore_n (L' := [some (.ref (ma 0)), some (.int (nI k)), some (.int (pa (k + 1))), some (.int (pa (k + 2)))]) (pc' := 18) hX dX6_carriesOut_17 (nlt hnL (by decide)) rfl rfl rfl ?_
  refine r_aload_n (pc' := 19) hX dX6_carriesOut_18 rfl rfl ?_
  refine r_get (pc' := 22) (v := .ref (ma 7)) hX dX6_carriesOut_19 f_X6_36 0 rfl rfl rfl ?_
  refine r_iload_n (pc' := 23) hX dX6_carriesOut_22 rfl rfl ?_
  refine r_iald_I (pc' := 24) hX dX6_carriesOut_23 (by rw [hcy]) 7 rfl (by omega) (by decide) rfl ?_
  change V X 0 0 (wM cy ma r e g bf hy sv bu le pa) [some (.ref (ma 0)), some (.int (nI k)), some (.int (pa (k + 1))), some (.int (pa (k + 2)))] [.int (pa k)] 24
  rw [hc]
  refine r_tabN (tgt := 135) hX dX6_carriesOut_24 (by decide) (by decide) (by decide) rfl (by decide) ?_
  refine r_aload_n (pc' := 136) hX dX6_carriesOut_135 rfl rfl ?_
  refine r_iload_n (pc' := 137) hX dX6_carriesOut_136 rfl rfl ?_
  refine V_call0 (k' := 0) (n' := 0) (pc' := 140) hX (r_runV (As := [.int (pa (k + 1))]) hX dX6_carriesOut_137 k_X6_83 (fun l9 hl9 => cM_addsMould hv hR hz) hG ⟨8, _, TX6, 16, List.mem_cons_self, rfl⟩ rfl rfl (Nat.le_of_ble_eq_true rfl) (by decide) (by decide) (by decide) (by decide)) rfl rfl rfl (fun w9 u9 hp9 => ?_)
  obtain ⟨rfl, g', rfl, hg'⟩ := hp9
  change V X 0 0 (wM cy ma (up1 r 4 (kd 0 1 2 0 0 (oMould v (pa (k + 1))).1)) e g' bf hy sv bu le pa) [some (.ref (ma 0)), some (.int (nI k)), some (.int (pa (k + 1))), some (.int (pa (k + 2)))] [.int (mvl (oMould v (pa (k + 1))).1)] 140
  exact r_ireturn hX hE dX6_carriesOut_140 rfl ⟨rfl, g', _, rfl, hg', CO_iff (oMould_co hv), kd_lt (by decide)⟩ (by decide) (by decide)

set_option maxRecDepth 20000 in
set_option maxHeartbeats 1000000 in
theorem cM_co2 {l : Launch} {D : va_G} {cy : Nat → ClassId} {sa : Nat → Nat} {ma : Nat → Nat} {r : Nat → Nat} {e : Nat → Int32} {g bf hy sv bu le : Nat → Nat} {pa : Nat → Int32} {v : SV} {k : Nat} (hv : Wf v) (hR : Rr v g) (hz : ∀ i, v 0 1 ≤ i → i < 4 → v 2 i = 0) (hk : k ≤ 236) (hc : pa k = nI 98) : MG l yX6_carriesOut cX6_carriesOut 4 (some .int) 4 0 0 (D, cy, sa) [.ref (ma 0), .int (nI k)] (wM cy ma r e g bf hy sv bu le pa) (fun w u => w = some (.int (mvl (oBuy v (pa (k + 1)) (pa (k + 2))).1)) ∧ ∃ (g' : Nat → Nat) (tau : Nat), u = wM cy ma (up1 r 4 tau) e g' bf hy sv bu le pa ∧ Rr (oBuy v (pa (k + 1)) (pa (k + 2))).2 g' ∧ (tau = 0 ↔ 0 ≤ (oBuy v (pa (k + 1)) (pa (k + 2))).1.toInt) ∧ tau < 100) := by
  refine MG_by (own := RX6) (L := [some (.ref (ma 0)), some (.int (nI k)), none, none]) (by decide +kernel) rfl rfl (Nat.le_of_ble_eq_true rfl) 2 rfl (fun X hX hE hnL hG hcy hnm => ?_)
  refine r_aload_n (pc' := 1) hX dX6_carriesOut_0 rfl rfl ?_
  refine r_get (pc' := 4) (v := .ref (ma 7)) hX dX6_carriesOut_1 f_X6_36 0 rfl rfl rfl ?_
  refine r_iload_n (pc' := 5) hX dX6_carriesOut_4 rfl rfl ?_
  refine r_iconst (pc' := 6) (v := nI 1) hX dX6_carriesOut_5 rfl rfl ?_
  refine r_iadd_N (pc' := 7) hX dX6_carriesOut_6  rfl ?_
  refine r_iald_I (pc' := 8) hX dX6_carriesOut_7 (by rw [hcy]) 7 rfl (by omega) (by decide) rfl ?_
  change V X 0 0 (wM cy ma r e g bf hy sv bu le pa) [some (.ref (ma 0)), some (.int (nI k)), none, none] [.int (pa (k + 1))] 8
  refine r_istore_n (L' := [some (.ref (ma 0)), some (.int (nI k)), some (.int (pa (k + 1))), none]) (pc' := 9) hX dX6_carriesOut_8 (nlt hnL (by decide)) rfl rfl rfl ?_
  refine r_aload_n (pc' := 10) hX dX6_carriesOut_9 rfl rfl ?_
  refine r_get (pc' := 13) (v := .ref (ma 7)) hX dX6_carriesOut_10 f_X6_36 0 rfl rfl rfl ?_
  refine r_iload_n (pc' := 14) hX dX6_carriesOut_13 rfl rfl ?_
  refine r_iconst (pc' := 15) (v := nI 2) hX dX6_carriesOut_14 rfl rfl ?_
  refine r_iadd_N (pc' := 16) hX dX6_carriesOut_15  rfl ?_
  refine r_iald_I (pc' := 17) hX dX6_carriesOut_16 (by rw [hcy]) 7 rfl (by omega) (by decide) rfl ?_
  change V X 0 0 (wM cy ma r e g bf hy sv bu le pa) [some (.ref (ma 0)), some (.int (nI k)), some (.int (pa (k + 1))), none] [.int (pa (k + 2))] 17
  refine r_istore_n (L' := [some (.ref (ma 0)), some (.int (nI k)), some (.int (pa (k + 1))), some (.int (pa (k + 2)))]) (pc' := 18) hX dX6_carriesOut_17 (nlt hnL (by decide)) rfl rfl rfl ?_
  refine r_aload_n (pc' := 19) hX dX6_carriesOut_18 rfl rfl ?_
  refine r_get (pc' := 22) (v := .ref (ma 7)) hX dX6_carriesOut_19 f_X6_36 0 rfl rfl rfl ?_
  refine r_iload_n (pc' := 23) hX dX6_carriesOut_22 rfl rfl ?_
  refine r_iald_I (pc' := 24) hX dX6_carriesOut_23 (by rw [hcy]) 7 rfl (by omega) (by decide) rfl ?_
  change V X 0 0 (wM cy ma r e g bf hy sv bu le pa) [some (.ref (ma 0)), some (.int (nI k)), some (.int (pa (k + 1))), some (.int (pa (k + 2)))] [.int (pa k)] 24
  rw [hc]
  refine r_tabN (tgt := 141) hX dX6_carriesOut_24 (by decide) (by decide) (by decide) rfl (by decide) ?_
  refine r_aload_n (pc' := 142) hX dX6_carriesOut_141 rfl rfl ?_
  refine r_iload_n (pc' := 143) hX dX6_carriesOut_142 rfl rfl ?_
  refine r_iload_n (pc' := 144) hX dX6_carriesOut_143 rfl rfl ?_
  refine V_call0 (k' := 0) (n' := 0) (pc' := 147) hX (r_runV (As := [.int (pa (k + 1)), .int (pa (k + 2))]) hX dX6_carriesOut_144 k_X6_90 (fun l9 hl9 => cM_buys hv hR) hG ⟨8, _, TX6, 16, List.mem_cons_self, rfl⟩ rfl rfl (Nat.le_of_ble_eq_true rfl) (by decide) (by decide) (by decide) (by decide)) rfl rfl rfl (fun w9 u9 hp9 => ?_)
  obtain ⟨rfl, g', rfl, hg'⟩ := hp9
  change V X 0 0 (wM cy ma (up1 r 4 (kd 1 2 3 0 0 (oBuy v (pa (k + 1)) (pa (k + 2))).1)) e g' bf hy sv bu le pa) [some (.ref (ma 0)), some (.int (nI k)), some (.int (pa (k + 1))), some (.int (pa (k + 2)))] [.int (mvl (oBuy v (pa (k + 1)) (pa (k + 2))).1)] 147
  exact r_ireturn hX hE dX6_carriesOut_147 rfl ⟨rfl, g', _, rfl, hg', CO_iff (oBuy_co hv), kd_lt (by decide)⟩ (by decide) (by decide)

set_option maxRecDepth 20000 in
set_option maxHeartbeats 1000000 in
theorem cM_co3 {l : Launch} {D : va_G} {cy : Nat → ClassId} {sa : Nat → Nat} {ma : Nat → Nat} {r : Nat → Nat} {e : Nat → Int32} {g bf hy sv bu le : Nat → Nat} {pa : Nat → Int32} {v : SV} {k : Nat} (hv : Wf v) (hR : Rr v g) (hz : ∀ i, v 0 1 ≤ i → i < 4 → v 2 i = 0) (hk : k ≤ 236) (hc : pa k = nI 99) : MG l yX6_carriesOut cX6_carriesOut 4 (some .int) 4 0 0 (D, cy, sa) [.ref (ma 0), .int (nI k)] (wM cy ma r e g bf hy sv bu le pa) (fun w u => w = some (.int (mvl (oPour v (pa (k + 1)) (pa (k + 2)) (pa (k + 3))).1)) ∧ ∃ (g' : Nat → Nat) (tau : Nat), u = wM cy ma (up1 r 4 tau) e g' bf hy sv bu le pa ∧ Rr (oPour v (pa (k + 1)) (pa (k + 2)) (pa (k + 3))).2 g' ∧ (tau = 0 ↔ 0 ≤ (oPour v (pa (k + 1)) (pa (k + 2)) (pa (k + 3))).1.toInt) ∧ tau < 100) := by
  refine MG_by (own := RX6) (L := [some (.ref (ma 0)), some (.int (nI k)), none, none]) (by decide +kernel) rfl rfl (Nat.le_of_ble_eq_true rfl) 2 rfl (fun X hX hE hnL hG hcy hnm => ?_)
  refine r_aload_n (pc' := 1) hX dX6_carriesOut_0 rfl rfl ?_
  refine r_get (pc' := 4) (v := .ref (ma 7)) hX dX6_carriesOut_1 f_X6_36 0 rfl rfl rfl ?_
  refine r_iload_n (pc' := 5) hX dX6_carriesOut_4 rfl rfl ?_
  refine r_iconst (pc' := 6) (v := nI 1) hX dX6_carriesOut_5 rfl rfl ?_
  refine r_iadd_N (pc' := 7) hX dX6_carriesOut_6  rfl ?_
  refine r_iald_I (pc' := 8) hX dX6_carriesOut_7 (by rw [hcy]) 7 rfl (by omega) (by decide) rfl ?_
  change V X 0 0 (wM cy ma r e g bf hy sv bu le pa) [some (.ref (ma 0)), some (.int (nI k)), none, none] [.int (pa (k + 1))] 8
  refine r_istore_n (L' := [some (.ref (ma 0)), some (.int (nI k)), some (.int (pa (k + 1))), none]) (pc' := 9) hX dX6_carriesOut_8 (nlt hnL (by decide)) rfl rfl rfl ?_
  refine r_aload_n (pc' := 10) hX dX6_carriesOut_9 rfl rfl ?_
  refine r_get (pc' := 13) (v := .ref (ma 7)) hX dX6_carriesOut_10 f_X6_36 0 rfl rfl rfl ?_
  refine r_iload_n (pc' := 14) hX dX6_carriesOut_13 rfl rfl ?_
  refine r_iconst (pc' := 15) (v := nI 2) hX dX6_carriesOut_14 rfl rfl ?_
  refine r_iadd_N (pc' := 16) hX dX6_carriesOut_15  rfl ?_
  refine r_iald_I (pc' := 17) hX dX6_carriesOut_16 (by rw [hcy]) 7 rfl (by omega) (by decide) rfl ?_
  change V X 0 0 (wM cy ma r e g bf hy sv bu le pa) [some (.ref (ma 0)), some (.int (nI k)), some (.int (pa (k + 1))), none] [.int (pa (k + 2))] 17
  refine r_istore_n (L' := [some (.ref (ma 0)), some (.int (nI k)), some (.int (pa (k + 1))), some (.int (pa (k + 2)))]) (pc' := 18) hX dX6_carriesOut_17 (nlt hnL (by decide)) rfl rfl rfl ?_
  refine r_aload_n (pc' := 19) hX dX6_carriesOut_18 rfl rfl ?_
  refine r_get (pc' := 22) (v := .ref (ma 7)) hX dX6_carriesOut_19 f_X6_36 0 rfl rfl rfl ?_
  refine r_iload_n (pc' := 23) hX dX6_carriesOut_22 rfl rfl ?_
  refine r_iald_I (pc' := 24) hX dX6_carriesOut_23 (by rw [hcy]) 7 rfl (by omega) (by decide) rfl ?_
  change V X 0 0 (wM cy ma r e g bf hy sv bu le pa) [some (.ref (ma 0)), some (.int (nI k)), some (.int (pa (k + 1))), some (.int (pa (k + 2)))] [.int (pa k)] 24
  rw [hc]
  refine r_tabN (tgt := 148) hX dX6_carriesOut_24 (by decide) (by decide) (by decide) rfl (by decide) ?_
  refine r_aload_n (pc' := 149) hX dX6_carriesOut_148 rfl rfl ?_
  refine r_iload_n (pc' := 150) hX dX6_carriesOut_149 rfl rfl ?_
  refine r_iload_n (pc' := 151) hX dX6_carriesOut_150 rfl rfl ?_
  refine r_aload_n (pc' := 152) hX dX6_carriesOut_151 rfl rfl ?_
  refine r_get (pc' := 155) (v := .ref (ma 7)) hX dX6_carriesOut_152 f_X6_36 0 rfl rfl rfl ?_
  refine r_iload_n (pc' := 156) hX dX6_carriesOut_155 rfl rfl ?_
  refine r_iconst (pc' := 157) (v := nI 3) hX dX6_carriesOut_156 rfl rfl ?_
  refine r_iadd_N (pc' := 158) hX dX6_carriesOut_157  rfl ?_
  refine r_iald_I (pc' := 159) hX dX6_carriesOut_158 (by rw [hcy]) 7 rfl (by omega) (by decide) rfl ?_
  change V X 0 0 (wM cy ma r e g bf hy sv bu le pa) [some (.ref (ma 0)), some (.int (nI k)), some (.int (pa (k + 1))), some (.int (pa (k + 2)))] [.int (pa (k + 3)), .int (pa (k + 2)), .int (pa (k + 1)), .ref (ma 0)] 159
  refine V_call0 (k' := 0) (n' := 0) (pc' := 162) hX (r_runV (As := [.int (pa (k + 1)), .int (pa (k + 2)), .int (pa (k + 3))]) hX dX6_carriesOut_159 k_X6_106 (fun l9 hl9 => cM_casts hv hR) hG ⟨8, _, TX6, 16, List.mem_cons_self, rfl⟩ rfl rfl (Nat.le_of_ble_eq_true rfl) (by decide) (by decide) (by decide) (by decide)) rfl rfl rfl (fun w9 u9 hp9 => ?_)
  obtain ⟨rfl, g', rfl, hg'⟩ := hp9
  change V X 0 0 (wM cy ma (up1 r 4 (kd 1 2 3 4 0 (oPour v (pa (k + 1)) (pa (k + 2)) (pa (k + 3))).1)) e g' bf hy sv bu le pa) [some (.ref (ma 0)), some (.int (nI k)), some (.int (pa (k + 1))), some (.int (pa (k + 2)))] [.int (mvl (oPour v (pa (k + 1)) (pa (k + 2)) (pa (k + 3))).1)] 162
  exact r_ireturn hX hE dX6_carriesOut_162 rfl ⟨rfl, g', _, rfl, hg', CO_iff (oPour_co hv), kd_lt (by decide)⟩ (by decide) (by decide)

set_option maxRecDepth 20000 in
set_option maxHeartbeats 1000000 in
theorem cM_co4 {l : Launch} {D : va_G} {cy : Nat → ClassId} {sa : Nat → Nat} {ma : Nat → Nat} {r : Nat → Nat} {e : Nat → Int32} {g bf hy sv bu le : Nat → Nat} {pa : Nat → Int32} {v : SV} {k : Nat} (hv : Wf v) (hR : Rr v g) (hz : ∀ i, v 0 1 ≤ i → i < 4 → v 2 i = 0) (hk : k ≤ 236) (hc : pa k = nI 116) : MG l yX6_carriesOut cX6_carriesOut 4 (some .int) 4 0 0 (D, cy, sa) [.ref (ma 0), .int (nI k)] (wM cy ma r e g bf hy sv bu le pa) (fun w u => w = some (.int (mvl (oExam v (pa (k + 1))).1)) ∧ ∃ (g' : Nat → Nat) (tau : Nat), u = wM cy ma (up1 r 4 tau) e g' bf hy sv bu le pa ∧ Rr (oExam v (pa (k + 1))).2 g' ∧ (tau = 0 ↔ 0 ≤ (oExam v (pa (k + 1))).1.toInt) ∧ tau < 100) := by
  refine MG_by (own := RX6) (L := [some (.ref (ma 0)), some (.int (nI k)), none, none]) (by decide +kernel) rfl rfl (Nat.le_of_ble_eq_true rfl) 2 rfl (fun X hX hE hnL hG hcy hnm => ?_)
  refine r_aload_n (pc' := 1) hX dX6_carriesOut_0 rfl rfl ?_
  refine r_get (pc' := 4) (v := .ref (ma 7)) hX dX6_carriesOut_1 f_X6_36 0 rfl rfl rfl ?_
  refine r_iload_n (pc' := 5) hX dX6_carriesOut_4 rfl rfl ?_
  refine r_iconst (pc' := 6) (v := nI 1) hX dX6_carriesOut_5 rfl rfl ?_
  refine r_iadd_N (pc' := 7) hX dX6_carriesOut_6  rfl ?_
  refine r_iald_I (pc' := 8) hX dX6_carriesOut_7 (by rw [hcy]) 7 rfl (by omega) (by decide) rfl ?_
  change V X 0 0 (wM cy ma r e g bf hy sv bu le pa) [some (.ref (ma 0)), some (.int (nI k)), none, none] [.int (pa (k + 1))] 8
  refine r_istore_n (L' := [some (.ref (ma 0)), some (.int (nI k)), some (.int (pa (k + 1))), none]) (pc' := 9) hX dX6_carriesOut_8 (nlt hnL (by decide)) rfl rfl rfl ?_
  refine r_aload_n (pc' := 10) hX dX6_carriesOut_9 rfl rfl ?_
  refine r_get (pc' := 13) (v := .ref (ma 7)) hX dX6_carriesOut_10 f_X6_36 0 rfl rfl rfl ?_
  refine r_iload_n (pc' := 14) hX dX6_carriesOut_13 rfl rfl ?_
  refine r_iconst (pc' := 15) (v := nI 2) hX dX6_carriesOut_14 rfl rfl ?_
  refine r_iadd_N (pc' := 16) hX dX6_carriesOut_15  rfl ?_
  refine r_iald_I (pc' := 17) hX dX6_carriesOut_16 (by rw [hcy]) 7 rfl (by omega) (by decide) rfl ?_
  change V X 0 0 (wM cy ma r e g bf hy sv bu le pa) [some (.ref (ma 0)), some (.int (nI k)), some (.int (pa (k + 1))), none] [.int (pa (k + 2))] 17
  refine r_istore_n (L' := [some (.ref (ma 0)), some (.int (nI k)), some (.int (pa (k + 1))), some (.int (pa (k + 2)))]) (pc' := 18) hX dX6_carriesOut_17 (nlt hnL (by decide)) rfl rfl rfl ?_
  refine r_aload_n (pc' := 19) hX dX6_carriesOut_18 rfl rfl ?_
  refine r_get (pc' := 22) (v := .ref (ma 7)) hX dX6_carriesOut_19 f_X6_36 0 rfl rfl rfl ?_
  refine r_iload_n (pc' := 23) hX dX6_carriesOut_22 rfl rfl ?_
  refine r_iald_I (pc' := 24) hX dX6_carriesOut_23 (by rw [hcy]) 7 rfl (by omega) (by decide) rfl ?_
  change V X 0 0 (wM cy ma r e g bf hy sv bu le pa) [some (.ref (ma 0)), some (.int (nI k)), some (.int (pa (k + 1))), some (.int (pa (k + 2)))] [.int (pa k)] 24
  rw [hc]
  refine r_tabN (tgt := 163) hX dX6_carriesOut_24 (by decide) (by decide) (by decide) rfl (by decide) ?_
  refine r_aload_n (pc' := 164) hX dX6_carriesOut_163 rfl rfl ?_
  refine r_iload_n (pc' := 165) hX dX6_carriesOut_164 rfl rfl ?_
  refine V_call0 (k' := 0) (n' := 0) (pc' := 168) hX (r_runV (As := [.int (pa (k + 1))]) hX dX6_carriesOut_165 k_X6_122 (fun l9 hl9 => cM_inspects hv hR) hG ⟨8, _, TX6, 16, List.mem_cons_self, rfl⟩ rfl rfl (Nat.le_of_ble_eq_true rfl) (by decide) (by decide) (by decide) (by decide)) rfl rfl rfl (fun w9 u9 hp9 => ?_)
  obtain ⟨rfl, g', rfl, hg'⟩ := hp9
  change V X 0 0 (wM cy ma (up1 r 4 (kd 0 0 2 0 1 (oExam v (pa (k + 1))).1)) e g' bf hy sv bu le pa) [some (.ref (ma 0)), some (.int (nI k)), some (.int (pa (k + 1))), some (.int (pa (k + 2)))] [.int (mvl (oExam v (pa (k + 1))).1)] 168
  exact r_ireturn hX hE dX6_carriesOut_168 rfl ⟨rfl, g', _, rfl, hg', CO_iff (oExam_co hv), kd_lt (by decide)⟩ (by decide) (by decide)

set_option maxRecDepth 20000 in
set_option maxHeartbeats 1000000 in
theorem cM_co5 {l : Launch} {D : va_G} {cy : Nat → ClassId} {sa : Nat → Nat} {ma : Nat → Nat} {r : Nat → Nat} {e : Nat → Int32} {g bf hy sv bu le : Nat → Nat} {pa : Nat → Int32} {v : SV} {k : Nat} (hv : Wf v) (hR : Rr v g) (hz : ∀ i, v 0 1 ≤ i → i < 4 → v 2 i = 0) (hk : k ≤ 236) (hc : pa k = nI 101) : MG l yX6_carriesOut cX6_carriesOut 4 (some .int) 4 0 0 (D, cy, sa) [.ref (ma 0), .int (nI k)] (wM cy ma r e g bf hy sv bu le pa) (fun w u => w = some (.int (mvl (oMelt v (pa (k + 1))).1)) ∧ ∃ (g' : Nat → Nat) (tau : Nat), u = wM cy ma (up1 r 4 tau) e g' bf hy sv bu le pa ∧ Rr (oMelt v (pa (k + 1))).2 g' ∧ (tau = 0 ↔ 0 ≤ (oMelt v (pa (k + 1))).1.toInt) ∧ tau < 100) := by
  refine MG_by (own := RX6) (L := [some (.ref (ma 0)), some (.int (nI k)), none, none]) (by decide +kernel) rfl rfl (Nat.le_of_ble_eq_true rfl) 2 rfl (fun X hX hE hnL hG hcy hnm => ?_)
  refine r_aload_n (pc' := 1) hX dX6_carriesOut_0 rfl rfl ?_
  refine r_get (pc' := 4) (v := .ref (ma 7)) hX dX6_carriesOut_1 f_X6_36 0 rfl rfl rfl ?_
  refine r_iload_n (pc' := 5) hX dX6_carriesOut_4 rfl rfl ?_
  refine r_iconst (pc' := 6) (v := nI 1) hX dX6_carriesOut_5 rfl rfl ?_
  refine r_iadd_N (pc' := 7) hX dX6_carriesOut_6  rfl ?_
  refine r_iald_I (pc' := 8) hX dX6_carriesOut_7 (by rw [hcy]) 7 rfl (by omega) (by decide) rfl ?_
  change V X 0 0 (wM cy ma r e g bf hy sv bu le pa) [some (.ref (ma 0)), some (.int (nI k)), none, none] [.int (pa (k + 1))] 8
  refine r_istore_n (L' := [some (.ref (ma 0)), some (.int (nI k)), some (.int (pa (k + 1))), none]) (pc' := 9) hX dX6_carriesOut_8 (nlt hnL (by decide)) rfl rfl rfl ?_
  refine r_aload_n (pc' := 10) hX dX6_carriesOut_9 rfl rfl ?_
  refine r_get (pc' := 13) (v := .ref (ma 7)) hX dX6_carriesOut_10 f_X6_36 0 rfl rfl rfl ?_
  refine r_iload_n (pc' := 14) hX dX6_carriesOut_13 rfl rfl ?_
  refine r_iconst (pc' := 15) (v := nI 2) hX dX6_carriesOut_14 rfl rfl ?_
  refine r_iadd_N (pc' := 16) hX dX6_carriesOut_15  rfl ?_
  refine r_iald_I (pc' := 17) hX dX6_carriesOut_16 (by rw [hcy]) 7 rfl (by omega) (by decide) rfl ?_
  change V X 0 0 (wM cy ma r e g bf hy sv bu le pa) [some (.ref (ma 0)), some (.int (nI k)), some (.int (pa (k + 1))), none] [.int (pa (k + 2))] 17
  refine r_istore_n (L' := [some (.ref (ma 0)), some (.int (nI k)), some (.int (pa (k + 1))), some (.int (pa (k + 2)))]) (pc' := 18) hX dX6_carriesOut_17 (nlt hnL (by decide)) rfl rfl rfl ?_
  refine r_aload_n (pc' := 19) hX dX6_carriesOut_18 rfl rfl ?_
  refine r_get (pc' := 22) (v := .ref (ma 7)) hX dX6_carriesOut_19 f_X6_36 0 rfl rfl rfl ?_
  refine r_iload_n (pc' := 23) hX dX6_carriesOut_22 rfl rfl ?_
  refine r_iald_I (pc' := 24) hX dX6_carriesOut_23 (by rw [hcy]) 7 rfl (by omega) (by decide) rfl ?_
  change V X 0 0 (wM cy ma r e g bf hy sv bu le pa) [some (.ref (ma 0)), some (.int (nI k)), some (.int (pa (k + 1))), some (.int (pa (k + 2)))] [.int (pa k)] 24
  rw [hc]
  refine r_tabN (tgt := 169) hX dX6_carriesOut_24 (by decide) (by decide) (by decide) rfl (by decide) ?_
  refine r_aload_n (pc' := 170) hX dX6_carriesOut_169 rfl rfl ?_
  refine r_iload_n (pc' := 171) hX dX6_carriesOut_170 rfl rfl ?_
  refine V_call0 (k' := 0) (n' := 0) (pc' := 174) hX (r_runV (As := [.int (pa (k + 1))]) hX dX6_carriesOut_171 k_X6_125 (fun l9 hl9 => cM_melts hv hR) hG ⟨8, _, TX6, 16, List.mem_cons_self, rfl⟩ rfl rfl (Nat.le_of_ble_eq_true rfl) (by decide) (by decide) (by decide) (by decide)) rfl rfl rfl (fun w9 u9 hp9 => ?_)
  obtain ⟨rfl, g', rfl, hg'⟩ := hp9
  change V X 0 0 (wM cy ma (up1 r 4 (kd 0 0 2 0 1 (oMelt v (pa (k + 1))).1)) e g' bf hy sv bu le pa) [some (.ref (ma 0)), some (.int (nI k)), some (.int (pa (k + 1))), some (.int (pa (k + 2)))] [.int (mvl (oMelt v (pa (k + 1))).1)] 174
  exact r_ireturn hX hE dX6_carriesOut_174 rfl ⟨rfl, g', _, rfl, hg', CO_iff (oMelt_co hv), kd_lt (by decide)⟩ (by decide) (by decide)

set_option maxRecDepth 20000 in
set_option maxHeartbeats 1000000 in
theorem cM_co6 {l : Launch} {D : va_G} {cy : Nat → ClassId} {sa : Nat → Nat} {ma : Nat → Nat} {r : Nat → Nat} {e : Nat → Int32} {g bf hy sv bu le : Nat → Nat} {pa : Nat → Int32} {v : SV} {k : Nat} (hv : Wf v) (hR : Rr v g) (hz : ∀ i, v 0 1 ≤ i → i < 4 → v 2 i = 0) (hk : k ≤ 236) (hc : pa k = nI 114) : MG l yX6_carriesOut cX6_carriesOut 4 (some .int) 4 0 0 (D, cy, sa) [.ref (ma 0), .int (nI k)] (wM cy ma r e g bf hy sv bu le pa) (fun w u => w = some (.int (mvl (oReset v (pa (k + 1))).1)) ∧ ∃ (g' : Nat → Nat) (tau : Nat), u = wM cy ma (up1 r 4 tau) e g' bf hy sv bu le pa ∧ Rr (oReset v (pa (k + 1))).2 g' ∧ (tau = 0 ↔ 0 ≤ (oReset v (pa (k + 1))).1.toInt) ∧ tau < 100) := by
  refine MG_by (own := RX6) (L := [some (.ref (ma 0)), some (.int (nI k)), none, none]) (by decide +kernel) rfl rfl (Nat.le_of_ble_eq_true rfl) 2 rfl (fun X hX hE hnL hG hcy hnm => ?_)
  refine r_aload_n (pc' := 1) hX dX6_carriesOut_0 rfl rfl ?_
  refine r_get (pc' := 4) (v := .ref (ma 7)) hX dX6_carriesOut_1 f_X6_36 0 rfl rfl rfl ?_
  refine r_iload_n (pc' := 5) hX dX6_carriesOut_4 rfl rfl ?_
  refine r_iconst (pc' := 6) (v := nI 1) hX dX6_carriesOut_5 rfl rfl ?_
  refine r_iadd_N (pc' := 7) hX dX6_carriesOut_6  rfl ?_
  refine r_iald_I (pc' := 8) hX dX6_carriesOut_7 (by rw [hcy]) 7 rfl (by omega) (by decide) rfl ?_
  change V X 0 0 (wM cy ma r e g bf hy sv bu le pa) [some (.ref (ma 0)), some (.int (nI k)), none, none] [.int (pa (k + 1))] 8
  refine r_istore_n (L' := [some (.ref (ma 0)), some (.int (nI k)), some (.int (pa (k + 1))), none]) (pc' := 9) hX dX6_carriesOut_8 (nlt hnL (by decide)) rfl rfl rfl ?_
  refine r_aload_n (pc' := 10) hX dX6_carriesOut_9 rfl rfl ?_
  refine r_get (pc' := 13) (v := .ref (ma 7)) hX dX6_carriesOut_10 f_X6_36 0 rfl rfl rfl ?_
  refine r_iload_n (pc' := 14) hX dX6_carriesOut_13 rfl rfl ?_
  refine r_iconst (pc' := 15) (v := nI 2) hX dX6_carriesOut_14 rfl rfl ?_
  refine r_iadd_N (pc' := 16) hX dX6_carriesOut_15  rfl ?_
  refine r_iald_I (pc' := 17) hX dX6_carriesOut_16 (by rw [hcy]) 7 rfl (by omega) (by decide) rfl ?_
  change V X 0 0 (wM cy ma r e g bf hy sv bu le pa) [some (.ref (ma 0)), some (.int (nI k)), some (.int (pa (k + 1))), none] [.int (pa (k + 2))] 17
  refine r_istore_n (L' := [some (.ref (ma 0)), some (.int (nI k)), some (.int (pa (k + 1))), some (.int (pa (k + 2)))]) (pc' := 18) hX dX6_carriesOut_17 (nlt hnL (by decide)) rfl rfl rfl ?_
  refine r_aload_n (pc' := 19) hX dX6_carriesOut_18 rfl rfl ?_
  refine r_get (pc' := 22) (v := .ref (ma 7)) hX dX6_carriesOut_19 f_X6_36 0 rfl rfl rfl ?_
  refine r_iload_n (pc' := 23) hX dX6_carriesOut_22 rfl rfl ?_
  refine r_iald_I (pc' := 24) hX dX6_carriesOut_23 (by rw [hcy]) 7 rfl (by omega) (by decide) rfl ?_
  change V X 0 0 (wM cy ma r e g bf hy sv bu le pa) [some (.ref (ma 0)), some (.int (nI k)), some (.int (pa (k + 1))), some (.int (pa (k + 2)))] [.int (pa k)] 24
  rw [hc]
  refine r_tabN (tgt := 175) hX dX6_carriesOut_24 (by decide) (by decide) (by decide) rfl (by decide) ?_
  refine r_aload_n (pc' := 176) hX dX6_carriesOut_175 rfl rfl ?_
  refine r_iload_n (pc' := 177) hX dX6_carriesOut_176 rfl rfl ?_
  refine V_call0 (k' := 0) (n' := 0) (pc' := 180) hX (r_runV (As := [.int (pa (k + 1))]) hX dX6_carriesOut_177 k_X6_128 (fun l9 hl9 => cM_renews hv hR) hG ⟨8, _, TX6, 16, List.mem_cons_self, rfl⟩ rfl rfl (Nat.le_of_ble_eq_true rfl) (by decide) (by decide) (by decide) (by decide)) rfl rfl rfl (fun w9 u9 hp9 => ?_)
  obtain ⟨rfl, g', rfl, hg'⟩ := hp9
  change V X 0 0 (wM cy ma (up1 r 4 (kd 1 0 0 0 0 (oReset v (pa (k + 1))).1)) e g' bf hy sv bu le pa) [some (.ref (ma 0)), some (.int (nI k)), some (.int (pa (k + 1))), some (.int (pa (k + 2)))] [.int (mvl (oReset v (pa (k + 1))).1)] 180
  exact r_ireturn hX hE dX6_carriesOut_180 rfl ⟨rfl, g', _, rfl, hg', CO_iff (oReset_co hv), kd_lt (by decide)⟩ (by decide) (by decide)

set_option maxRecDepth 20000 in
set_option maxHeartbeats 1000000 in
theorem cM_co7 {l : Launch} {D : va_G} {cy : Nat → ClassId} {sa : Nat → Nat} {ma : Nat → Nat} {r : Nat → Nat} {e : Nat → Int32} {g bf hy sv bu le : Nat → Nat} {pa : Nat → Int32} {v : SV} {k : Nat} (hv : Wf v) (hR : Rr v g) (hz : ∀ i, v 0 1 ≤ i → i < 4 → v 2 i = 0) (hk : k ≤ 236) (hc : pa k = nI 108) : MG l yX6_carriesOut cX6_carriesOut 4 (some .int) 4 0 0 (D, cy, sa) [.ref (ma 0), .int (nI k)] (wM cy ma r e g bf hy sv bu le pa) (fun w u => w = some (.int (mvl (oTol v (pa (k + 1))).1)) ∧ ∃ (g' : Nat → Nat) (tau : Nat), u = wM cy ma (up1 r 4 tau) e g' bf hy sv bu le pa ∧ Rr (oTol v (pa (k + 1))).2 g' ∧ (tau = 0 ↔ 0 ≤ (oTol v (pa (k + 1))).1.toInt) ∧ tau < 100) := by
  refine MG_by (own := RX6) (L := [some (.ref (ma 0)), some (.int (nI k)), none, none]) (by decide +kernel) rfl rfl (Nat.le_of_ble_eq_true rfl) 2 rfl (fun X hX hE hnL hG hcy hnm => ?_)
  refine r_aload_n (pc' := 1) hX dX6_carriesOut_0 rfl rfl ?_
  refine r_get (pc' := 4) (v := .ref (ma 7)) hX dX6_carriesOut_1 f_X6_36 0 rfl rfl rfl ?_
  refine r_iload_n (pc' := 5) hX dX6_carriesOut_4 rfl rfl ?_
  refine r_iconst (pc' := 6) (v := nI 1) hX dX6_carriesOut_5 rfl rfl ?_
  refine r_iadd_N (pc' := 7) hX dX6_carriesOut_6  rfl ?_
  refine r_iald_I (pc' := 8) hX dX6_carriesOut_7 (by rw [hcy]) 7 rfl (by omega) (by decide) rfl ?_
  change V X 0 0 (wM cy ma r e g bf hy sv bu le pa) [some (.ref (ma 0)), some (.int (nI k)), none, none] [.int (pa (k + 1))] 8
  refine r_istore_n (L' := [some (.ref (ma 0)), some (.int (nI k)), some (.int (pa (k + 1))), none]) (pc' := 9) hX dX6_carriesOut_8 (nlt hnL (by decide)) rfl rfl rfl ?_
  refine r_aload_n (pc' := 10) hX dX6_carriesOut_9 rfl rfl ?_
  refine r_get (pc' := 13) (v := .ref (ma 7)) hX dX6_carriesOut_10 f_X6_36 0 rfl rfl rfl ?_
  refine r_iload_n (pc' := 14) hX dX6_carriesOut_13 rfl rfl ?_
  refine r_iconst (pc' := 15) (v := nI 2) hX dX6_carriesOut_14 rfl rfl ?_
  refine r_iadd_N (pc' := 16) hX dX6_carriesOut_15  rfl ?_
  refine r_iald_I (pc' := 17) hX dX6_carriesOut_16 (by rw [hcy]) 7 rfl (by omega) (by decide) rfl ?_
  change V X 0 0 (wM cy ma r e g bf hy sv bu le pa) [some (.ref (ma 0)), some (.int (nI k)), some (.int (pa (k + 1))), none] [.int (pa (k + 2))] 17
  refine r_istore_n (L' := [some (.ref (ma 0)), some (.int (nI k)), some (.int (pa (k + 1))), some (.int (pa (k + 2)))]) (pc' := 18) hX dX6_carriesOut_17 (nlt hnL (by decide)) rfl rfl rfl ?_
  refine r_aload_n (pc' := 19) hX dX6_carriesOut_18 rfl rfl ?_
  refine r_get (pc' := 22) (v := .ref (ma 7)) hX dX6_carriesOut_19 f_X6_36 0 rfl rfl rfl ?_
  refine r_iload_n (pc' := 23) hX dX6_carriesOut_22 rfl rfl ?_
  refine r_iald_I (pc' := 24) hX dX6_carriesOut_23 (by rw [hcy]) 7 rfl (by omega) (by decide) rfl ?_
  change V X 0 0 (wM cy ma r e g bf hy sv bu le pa) [some (.ref (ma 0)), some (.int (nI k)), some (.int (pa (k + 1))), some (.int (pa (k + 2)))] [.int (pa k)] 24
  rw [hc]
  refine r_tabN (tgt := 181) hX dX6_carriesOut_24 (by decide) (by decide) (by decide) rfl (by decide) ?_
  refine r_aload_n (pc' := 182) hX dX6_carriesOut_181 rfl rfl ?_
  refine r_iconst (pc' := 183) (v := nI 3) hX dX6_carriesOut_182 rfl rfl ?_
  refine r_iload_n (pc' := 184) hX dX6_carriesOut_183 rfl rfl ?_
  refine r_iconst (pc' := 185) (v := nI 0) hX dX6_carriesOut_184 rfl rfl ?_
  refine r_bipush (pc' := 187) (v := nI 99) hX dX6_carriesOut_185 rfl rfl ?_
  refine V_call0 (k' := 0) (n' := 0) (pc' := 190) hX (r_runV (As := [.int (nI 3), .int (pa (k + 1)), .int (nI 0), .int (nI 99)]) hX dX6_carriesOut_187 k_X6_131 (fun l9 hl9 => cM_setsTol hv hR) hG ⟨8, _, TX6, 16, List.mem_cons_self, rfl⟩ rfl rfl (Nat.le_of_ble_eq_true rfl) (by decide) (by decide) (by decide) (by decide)) rfl rfl rfl (fun w9 u9 hp9 => ?_)
  obtain ⟨rfl, g', rfl, hg'⟩ := hp9
  change V X 0 0 (wM cy ma (up1 r 4 (kd 0 1 0 0 0 (oTol v (pa (k + 1))).1)) e g' bf hy sv bu le pa) [some (.ref (ma 0)), some (.int (nI k)), some (.int (pa (k + 1))), some (.int (pa (k + 2)))] [.int (mvl (oTol v (pa (k + 1))).1)] 190
  exact r_ireturn hX hE dX6_carriesOut_190 rfl ⟨rfl, g', _, rfl, hg', CO_iff (oTol_co hv), kd_lt (by decide)⟩ (by decide) (by decide)

set_option maxRecDepth 20000 in
set_option maxHeartbeats 1000000 in
theorem cM_co8 {l : Launch} {D : va_G} {cy : Nat → ClassId} {sa : Nat → Nat} {ma : Nat → Nat} {r : Nat → Nat} {e : Nat → Int32} {g bf hy sv bu le : Nat → Nat} {pa : Nat → Int32} {v : SV} {k : Nat} (hv : Wf v) (hR : Rr v g) (hz : ∀ i, v 0 1 ≤ i → i < 4 → v 2 i = 0) (hk : k ≤ 236) (hc : pa k = nI 115) : MG l yX6_carriesOut cX6_carriesOut 4 (some .int) 4 0 0 (D, cy, sa) [.ref (ma 0), .int (nI k)] (wM cy ma r e g bf hy sv bu le pa) (fun w u => w = some (.int (mvl (oStep v (pa (k + 1))).1)) ∧ ∃ (g' : Nat → Nat) (tau : Nat), u = wM cy ma (up1 r 4 tau) e g' bf hy sv bu le pa ∧ Rr (oStep v (pa (k + 1))).2 g' ∧ (tau = 0 ↔ 0 ≤ (oStep v (pa (k + 1))).1.toInt) ∧ tau < 100) := by
  refine MG_by (own := RX6) (L := [some (.ref (ma 0)), some (.int (nI k)), none, none]) (by decide +kernel) rfl rfl (Nat.le_of_ble_eq_true rfl) 2 rfl (fun X hX hE hnL hG hcy hnm => ?_)
  refine r_aload_n (pc' := 1) hX dX6_carriesOut_0 rfl rfl ?_
  refine r_get (pc' := 4) (v := .ref (ma 7)) hX dX6_carriesOut_1 f_X6_36 0 rfl rfl rfl ?_
  refine r_iload_n (pc' := 5) hX dX6_carriesOut_4 rfl rfl ?_
  refine r_iconst (pc' := 6) (v := nI 1) hX dX6_carriesOut_5 rfl rfl ?_
  refine r_iadd_N (pc' := 7) hX dX6_carriesOut_6  rfl ?_
  refine r_iald_I (pc' := 8) hX dX6_carriesOut_7 (by rw [hcy]) 7 rfl (by omega) (by decide) rfl ?_
  change V X 0 0 (wM cy ma r e g bf hy sv bu le pa) [some (.ref (ma 0)), some (.int (nI k)), none, none] [.int (pa (k + 1))] 8
  refine r_istore_n (L' := [some (.ref (ma 0)), some (.int (nI k)), some (.int (pa (k + 1))), none]) (pc' := 9) hX dX6_carriesOut_8 (nlt hnL (by decide)) rfl rfl rfl ?_
  refine r_aload_n (pc' := 10) hX dX6_carriesOut_9 rfl rfl ?_
  refine r_get (pc' := 13) (v := .ref (ma 7)) hX dX6_carriesOut_10 f_X6_36 0 rfl rfl rfl ?_
  refine r_iload_n (pc' := 14) hX dX6_carriesOut_13 rfl rfl ?_
  refine r_iconst (pc' := 15) (v := nI 2) hX dX6_carriesOut_14 rfl rfl ?_
  refine r_iadd_N (pc' := 16) hX dX6_carriesOut_15  rfl ?_
  refine r_iald_I (pc' := 17) hX dX6_carriesOut_16 (by rw [hcy]) 7 rfl (by omega) (by decide) rfl ?_
  change V X 0 0 (wM cy ma r e g bf hy sv bu le pa) [some (.ref (ma 0)), some (.int (nI k)), some (.int (pa (k + 1))), none] [.int (pa (k + 2))] 17
  refine r_istore_n (L' := [some (.ref (ma 0)), some (.int (nI k)), some (.int (pa (k + 1))), some (.int (pa (k + 2)))]) (pc' := 18) hX dX6_carriesOut_17 (nlt hnL (by decide)) rfl rfl rfl ?_
  refine r_aload_n (pc' := 19) hX dX6_carriesOut_18 rfl rfl ?_
  refine r_get (pc' := 22) (v := .ref (ma 7)) hX dX6_carriesOut_19 f_X6_36 0 rfl rfl rfl ?_
  refine r_iload_n (pc' := 23) hX dX6_carriesOut_22 rfl rfl ?_
  refine r_iald_I (pc' := 24) hX dX6_carriesOut_23 (by rw [hcy]) 7 rfl (by omega) (by decide) rfl ?_
  change V X 0 0 (wM cy ma r e g bf hy sv bu le pa) [some (.ref (ma 0)), some (.int (nI k)), some (.int (pa (k + 1))), some (.int (pa (k + 2)))] [.int (pa k)] 24
  rw [hc]
  refine r_tabN (tgt := 191) hX dX6_carriesOut_24 (by decide) (by decide) (by decide) rfl (by decide) ?_
  refine r_aload_n (pc' := 192) hX dX6_carriesOut_191 rfl rfl ?_
  refine r_iconst (pc' := 193) (v := nI 4) hX dX6_carriesOut_192 rfl rfl ?_
  refine r_iload_n (pc' := 194) hX dX6_carriesOut_193 rfl rfl ?_
  refine r_iconst (pc' := 195) (v := nI 1) hX dX6_carriesOut_194 rfl rfl ?_
  refine r_iconst (pc' := 196) (v := nI 5) hX dX6_carriesOut_195 rfl rfl ?_
  refine V_call0 (k' := 0) (n' := 0) (pc' := 199) hX (r_runV (As := [.int (nI 4), .int (pa (k + 1)), .int (nI 1), .int (nI 5)]) hX dX6_carriesOut_196 k_X6_131 (fun l9 hl9 => cM_setsStep hv hR) hG ⟨8, _, TX6, 16, List.mem_cons_self, rfl⟩ rfl rfl (Nat.le_of_ble_eq_true rfl) (by decide) (by decide) (by decide) (by decide)) rfl rfl rfl (fun w9 u9 hp9 => ?_)
  obtain ⟨rfl, g', rfl, hg'⟩ := hp9
  change V X 0 0 (wM cy ma (up1 r 4 (kd 0 1 0 0 0 (oStep v (pa (k + 1))).1)) e g' bf hy sv bu le pa) [some (.ref (ma 0)), some (.int (nI k)), some (.int (pa (k + 1))), some (.int (pa (k + 2)))] [.int (mvl (oStep v (pa (k + 1))).1)] 199
  exact r_ireturn hX hE dX6_carriesOut_199 rfl ⟨rfl, g', _, rfl, hg', CO_iff (oStep_co hv), kd_lt (by decide)⟩ (by decide) (by decide)

set_option maxRecDepth 20000 in
theorem cM_carriesOut {l : Launch} {D : va_G} {cy : Nat → ClassId} {sa : Nat → Nat} {ma : Nat → Nat} {r : Nat → Nat} {e : Nat → Int32} {g bf hy sv bu le : Nat → Nat} {pa : Nat → Int32} {v : SV} {k : Nat} (hv : Wf v) (hR : Rr v g) (hz : ∀ i, v 0 1 ≤ i → i < 4 → v 2 i = 0) (hk : k ≤ 236) {c : Nat × List Nat} (h9 : c.1 < 9) (h0 : pa k = nI (cdf c.1)) (hn : ∀ j, j < nnf c.1 → pa (k + 1 + j) = nI (c.2.getD j 0)) : MG l yX6_carriesOut cX6_carriesOut 4 (some .int) 4 0 0 (D, cy, sa) [.ref (ma 0), .int (nI k)] (wM cy ma r e g bf hy sv bu le pa) (fun w u => w = some (.int (mvl (oC c v).1)) ∧ ∃ (g' : Nat → Nat) (tau : Nat), u = wM cy ma (up1 r 4 tau) e g' bf hy sv bu le pa ∧ Rr (oC c v).2 g' ∧ (tau = 0 ↔ 0 ≤ (oC c v).1.toInt) ∧ tau < 100) := by
  obtain ⟨i, ns⟩ := c
  match i, h9, h0, hn with
  | 0, _, h0, hn => exact (show _ from by
      have h := cM_co0 (l := l) (D := D) (cy := cy) (sa := sa) (ma := ma) (r := r) (e := e) (g := g) (bf := bf) (hy := hy) (sv := sv) (bu := bu) (le := le) (pa := pa) (v := v) (k := k) hv hR hz hk h0
      rw [show pa (k + 1) = nI (ns.getD 0 0) from hn 0 (show 0 < nnf 0 by decide), show pa (k + 2) = nI (ns.getD 1 0) from hn 1 (show 1 < nnf 0 by decide), show pa (k + 3) = nI (ns.getD 2 0) from hn 2 (show 2 < nnf 0 by decide)] at h
      exact h)
  | 1, _, h0, hn => exact (show _ from by
      have h := cM_co1 (l := l) (D := D) (cy := cy) (sa := sa) (ma := ma) (r := r) (e := e) (g := g) (bf := bf) (hy := hy) (sv := sv) (bu := bu) (le := le) (pa := pa) (v := v) (k := k) hv hR hz hk h0
      rw [show pa (k + 1) = nI (ns.getD 0 0) from hn 0 (show 0 < nnf 1 by decide)] at h
      exact h)
  | 2, _, h0, hn => exact (show _ from by
      have h := cM_co2 (l := l) (D := D) (cy := cy) (sa := sa) (ma := ma) (r := r) (e := e) (g := g) (bf := bf) (hy := hy) (sv := sv) (bu := bu) (le := le) (pa := pa) (v := v) (k := k) hv hR hz hk h0
      rw [show pa (k + 1) = nI (ns.getD 0 0) from hn 0 (show 0 < nnf 2 by decide), show pa (k + 2) = nI (ns.getD 1 0) from hn 1 (show 1 < nnf 2 by decide)] at h
      exact h)
  | 3, _, h0, hn => exact (show _ from by
      have h := cM_co3 (l := l) (D := D) (cy := cy) (sa := sa) (ma := ma) (r := r) (e := e) (g := g) (bf := bf) (hy := hy) (sv := sv) (bu := bu) (le := le) (pa := pa) (v := v) (k := k) hv hR hz hk h0
      rw [show pa (k + 1) = nI (ns.getD 0 0) from hn 0 (show 0 < nnf 3 by decide), show pa (k + 2) = nI (ns.getD 1 0) from hn 1 (show 1 < nnf 3 by decide), show pa (k + 3) = nI (ns.getD 2 0) from hn 2 (show 2 < nnf 3 by decide)] at h
      exact h)
  | 4, _, h0, hn => exact (show _ from by
      have h := cM_co4 (l := l) (D := D) (cy := cy) (sa := sa) (ma := ma) (r := r) (e := e) (g := g) (bf := bf) (hy := hy) (sv := sv) (bu := bu) (le := le) (pa := pa) (v := v) (k := k) hv hR hz hk h0
      rw [show pa (k + 1) = nI (ns.getD 0 0) from hn 0 (show 0 < nnf 4 by decide)] at h
      exact h)
  | 5, _, h0, hn => exact (show _ from by
      have h := cM_co5 (l := l) (D := D) (cy := cy) (sa := sa) (ma := ma) (r := r) (e := e) (g := g) (bf := bf) (hy := hy) (sv := sv) (bu := bu) (le := le) (pa := pa) (v := v) (k := k) hv hR hz hk h0
      rw [show pa (k + 1) = nI (ns.getD 0 0) from hn 0 (show 0 < nnf 5 by decide)] at h
      exact h)
  | 6, _, h0, hn => exact (show _ from by
      have h := cM_co6 (l := l) (D := D) (cy := cy) (sa := sa) (ma := ma) (r := r) (e := e) (g := g) (bf := bf) (hy := hy) (sv := sv) (bu := bu) (le := le) (pa := pa) (v := v) (k := k) hv hR hz hk h0
      rw [show pa (k + 1) = nI (ns.getD 0 0) from hn 0 (show 0 < nnf 6 by decide)] at h
      exact h)
  | 7, _, h0, hn => exact (show _ from by
      have h := cM_co7 (l := l) (D := D) (cy := cy) (sa := sa) (ma := ma) (r := r) (e := e) (g := g) (bf := bf) (hy := hy) (sv := sv) (bu := bu) (le := le) (pa := pa) (v := v) (k := k) hv hR hz hk h0
      rw [show pa (k + 1) = nI (ns.getD 0 0) from hn 0 (show 0 < nnf 7 by decide)] at h
      exact h)
  | 8, _, h0, hn => exact (show _ from by
      have h := cM_co8 (l := l) (D := D) (cy := cy) (sa := sa) (ma := ma) (r := r) (e := e) (g := g) (bf := bf) (hy := hy) (sv := sv) (bu := bu) (le := le) (pa := pa) (v := v) (k := k) hv hR hz hk h0
      rw [show pa (k + 1) = nI (ns.getD 0 0) from hn 0 (show 0 < nnf 8 by decide)] at h
      exact h)
  | i + 9, h, _, _ => exact absurd h (by show ¬ i + 9 < 9; omega)
