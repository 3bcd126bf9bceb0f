/-! ===== the model: what it reads of a script ===== -/
/-- r1 stands at x (gone wrong, place) of the parse; the other numbers are r's -/
def PS (r r1 : Nat → Nat) (x : Bool × Nat) : Prop := (∀ j, j ≠ 5 → j ≠ 6 → r1 j = r j) ∧ r1 5 = x.2 ∧ r1 6 = (if x.1 = true then 1 else 0) ∧ x.2 ≤ 61
theorem PS_to {r0 r r1 : Nat → Nat} {x y : Bool × Nat} (h : PS r0 r x) (hk : ∀ j, j ≠ 5 → j ≠ 6 → r1 j = r j) (h5 : r1 5 = y.2) (h6 : r1 6 = if y.1 = true then 1 else 0) (hl : y.2 ≤ 61) : PS r0 r1 y :=
  ⟨fun j q1 q2 => (hk j q1 q2).trans (h.1 j q1 q2), h5, h6, hl⟩
theorem PS_tr {r0 r r1 : Nat → Nat} {x y : Bool × Nat} (h : PS r0 r x) (g : PS r r1 y) : PS r0 r1 y :=
  ⟨fun j q1 q2 => (g.1 j q1 q2).trans (h.1 j q1 q2), g.2⟩
theorem PS_w {r0 r : Nat → Nat} {x : Bool × Nat} (h : PS r0 r x) : (r 6 = 0 ↔ x.1 = false) ∧ r 6 ≤ 1 := by
  rw [h.2.2.1]
  cases x.1 <;> decide
theorem up1_56 {r : Nat → Nat} {a b : Nat} {j : Nat} (q1 : j ≠ 5) (q2 : j ≠ 6) : up1 (up1 r 6 a) 5 b j = r j := by rw [up1_ne q1, up1_ne q2]
theorem up1_5 {r : Nat → Nat} {b : Nat} {j : Nat} (q1 : j ≠ 5) : up1 r 5 b j = r j := up1_ne q1
theorem hrI_in {t : List Nat} {bu : Nat → Nat} {p : Nat} (h : p < t.length) (hb : LT bu t) : hrI t p = nI (bu p) := by
  unfold hrI
  rw [if_pos h, hr_lt h, hb p h]
theorem hrI_out {t : List Nat} {p : Nat} (h : ¬ p < t.length) : hrI t p = -1 := if_neg h
set_option maxRecDepth 20000 in
set_option maxHeartbeats 1000000 in
theorem cM_here {l : Launch} {D : va_G} {cy : Nat → ClassId} {sa : Nat → Nat} {ma : Nat → Nat} {r : Nat → Nat} {e : Nat → Int32} {g bf hy sv bu le : Nat → Nat} {pa : Nat → Int32} {r0 : Nat → Nat} {t : List Nat} {x : Bool × Nat} (hB : r0 2 = t.length ∧ t.length ≤ 60 ∧ LT bu t) (hch : ∀ c ∈ t, c < 127) (hP : PS r0 r x)  : MG l yX6_here cX6_here 1 (some .int) 0 0 0 (D, cy, sa) [.ref (ma 0)] (wM cy ma r e g bf hy sv bu le pa) (fun w u => w = some (.int (hrI t x.2)) ∧ u = wM cy ma r e g bf hy sv bu le pa) := by
  have hPw := PS_w hP
  have hP0 := hP
  obtain ⟨hp0, hp5, hp6, hpl⟩ := hP0
  obtain ⟨hb1, hb2, hb3⟩ := hB
  have hr2 : r 2 = t.length := (hp0 2 (by decide) (by decide)).trans hb1
  have hB : r0 2 = t.length ∧ t.length ≤ 60 ∧ LT bu t := ⟨hb1, hb2, hb3⟩
  refine MG_by (own := RX6) (L := [some (.ref (ma 0))]) (by decide +kernel) rfl rfl (Nat.le_of_ble_eq_true rfl) 0 rfl (fun X hX hE hnL hG hcy hnm => ?_)
  refine r_aload_n (pc' := 1) hX dX6_here_0 rfl rfl ?_
  refine r_get (pc' := 4) (v := .int (nI (r 5))) hX dX6_here_1 f_X6_165 0 rfl rfl rfl ?_
  refine r_aload_n (pc' := 5) hX dX6_here_4 rfl rfl ?_
  refine r_get (pc' := 8) (v := .int (nI (r 2))) hX dX6_here_5 f_X6_162 0 rfl rfl rfl ?_
  refine r_icmp_ge_N (tgt := 23) (pc' := 11) hX dX6_here_8 (by decide) rfl (by omega) (by omega) (fun c8 => ?_) (fun c8 => ?_)
  · refine r_iconst (pc' := 24) (v := (-1)) hX dX6_here_23 rfl rfl ?_
    exact r_ireturn hX hE dX6_here_24 rfl ⟨rI (by rw [← hp5]; exact (hrI_out (by omega)).symm), rfl⟩ (by decide) (by decide)
  · refine r_aload_n (pc' := 12) hX dX6_here_11 rfl rfl ?_
    refine r_get (pc' := 15) (v := .ref (ma 5)) hX dX6_here_12 f_X6_22 0 rfl rfl rfl ?_
    refine r_aload_n (pc' := 16) hX dX6_here_15 rfl rfl ?_
    refine r_get (pc' := 19) (v := .int (nI (r 5))) hX dX6_here_16 f_X6_165 0 rfl rfl rfl ?_
    refine r_cald_N (pc' := 20) hX dX6_here_19 (by rw [hcy]) 5 rfl (by omega) (by decide) rfl ?_
    change V X 0 0 (wM cy ma r e g bf hy sv bu le pa) [some (.ref (ma 0))] [.int (nI (bu (r 5)))] 20
    refine r_goto (tgt := 24) hX dX6_here_20 (by decide) ?_
    exact r_ireturn hX hE dX6_here_24 rfl ⟨rI (by rw [← hp5]; exact (hrI_in (by omega) hb3).symm), rfl⟩ (by decide) (by decide)

set_option maxRecDepth 20000 in
set_option maxHeartbeats 1000000 in
theorem cM_needs {l : Launch} {D : va_G} {cy : Nat → ClassId} {sa : Nat → Nat} {ma : Nat → Nat} {r : Nat → Nat} {e : Nat → Int32} {g bf hy sv bu le : Nat → Nat} {pa : Nat → Int32} {r0 : Nat → Nat} {t : List Nat} {x : Bool × Nat} (hB : r0 2 = t.length ∧ t.length ≤ 60 ∧ LT bu t) (hch : ∀ c ∈ t, c < 127) (hP : PS r0 r x) {c : Nat} (hc : c < 1000) : MG l yX6_needs cX6_needs 2 none 1 0 0 (D, cy, sa) [.ref (ma 0), .int (nI c)] (wM cy ma r e g bf hy sv bu le pa) (fun w u => w = none ∧ ∃ r9 : Nat → Nat, u = wM cy ma r9 e g bf hy sv bu le pa ∧ PS r0 r9 (nd t c x)) := by
  have hPw := PS_w hP
  have hP0 := hP
  obtain ⟨hp0, hp5, hp6, hpl⟩ := hP0
  obtain ⟨hb1, hb2, hb3⟩ := hB
  have hr2 : r 2 = t.length := (hp0 2 (by decide) (by decide)).trans hb1
  have hB : r0 2 = t.length ∧ t.length ≤ 60 ∧ LT bu t := ⟨hb1, hb2, hb3⟩
  refine MG_by (own := RX6) (L := [some (.ref (ma 0)), some (.int (nI c))]) (by decide +kernel) rfl rfl (Nat.le_of_ble_eq_true rfl) 0 rfl (fun X hX hE hnL hG hcy hnm => ?_)
  refine r_aload_n (pc' := 1) hX dX6_needs_0 rfl rfl ?_
  refine r_aload_n (pc' := 2) hX dX6_needs_1 rfl rfl ?_
  refine r_get (pc' := 5) (v := .int (nI (r 6))) hX dX6_needs_2 f_X6_168 0 rfl rfl rfl ?_
  refine r_if_ne_N (tgt := 16) (pc' := 8) hX dX6_needs_5 (by decide) rfl (by omega) (fun c5 => ?_) (fun c5 => ?_)
  · refine r_iconst (pc' := 17) (v := nI 1) hX dX6_needs_16 rfl rfl ?_
    refine r_goto (tgt := 21) hX dX6_needs_17 (by decide) ?_
    refine r_put (ws' := wM cy ma (up1 r 6 1) e g bf hy sv bu le pa) (pc' := 24) hX dX6_needs_21 f_X6_168 fw_X6_14 0 rfl rfl rfl (Nat.le_of_ble_eq_true rfl) rfl rfl ?_
    refine r_aload_n (pc' := 25) hX dX6_needs_24 rfl rfl ?_
    refine r_dup (pc' := 26) hX dX6_needs_25 rfl rfl ?_
    refine r_get (pc' := 29) (v := .int (nI (r 5))) hX dX6_needs_26 f_X6_165 0 rfl rfl rfl ?_
    refine r_aload_n (pc' := 30) hX dX6_needs_29 rfl rfl ?_
    refine r_get (pc' := 33) (v := .int (nI 1)) hX dX6_needs_30 f_X6_168 0 rfl rfl rfl ?_
    refine r_if_eq_N (tgt := 40) (pc' := 36) hX dX6_needs_33 (by decide) rfl (by omega) (fun c33 => ?_) (fun c33 => ?_)
    · exact absurd c33 (by omega)
    · refine r_iconst (pc' := 37) (v := nI 0) hX dX6_needs_36 rfl rfl ?_
      refine r_goto (tgt := 41) hX dX6_needs_37 (by decide) ?_
      refine r_iadd_N (pc' := 42) hX dX6_needs_41  rfl ?_
      refine r_put (ws' := wM cy ma (up1 (up1 r 6 1) 5 ((r 5) + 0)) e g bf hy sv bu le pa) (pc' := 45) hX dX6_needs_42 f_X6_165 fw_X6_13 0 rfl rfl rfl (Nat.le_of_ble_eq_true rfl) rfl rfl ?_
      exact r_vreturn hX hE dX6_needs_45 rfl ⟨rfl, _, rfl, by rw [nd_bad (by rintro ⟨q1, q2⟩; first | exact c5 (hPw.1.mpr q1) | exact c13 ((hrI_eq hch (by omega)).mpr q2))]; exact PS_to hP (fun j q1 q2 => up1_56 q1 q2) (by show r 5 + 0 = x.2; omega) rfl hpl⟩ (by decide) (by decide)
  · refine r_aload_n (pc' := 9) hX dX6_needs_8 rfl rfl ?_
    refine V_call0 (k' := 0) (n' := 0) (pc' := 12) hX (r_runV (As := []) hX dX6_needs_9 k_X6_172 (fun l9 hl9 => cM_here (r0 := r0) (t := t) (x := x) hB hch hP) hG ⟨8, _, TX6, 16, List.mem_cons_self, rfl⟩ rfl rfl (Nat.le_of_ble_eq_true rfl) (by decide) (by decide) (by decide) (by decide)) rfl rfl rfl (fun w9 u9 hp9 => ?_)
    obtain ⟨rfl, rfl⟩ := hp9
    change V X 0 0 (wM cy ma r e g bf hy sv bu le pa) [some (.ref (ma 0)), some (.int (nI c))] [.int (hrI t x.2), .ref (ma 0)] 12
    refine r_iload_n (pc' := 13) hX dX6_needs_12 rfl rfl ?_
    refine r_icmp_eq_I (tgt := 20) (pc' := 16) hX dX6_needs_13 (by decide) rfl rfl (nI_I (by omega)) (fun c13 => ?_) (fun c13 => ?_)
    · refine r_iconst (pc' := 21) (v := nI 0) hX dX6_needs_20 rfl rfl ?_
      refine r_put (ws' := wM cy ma (up1 r 6 0) e g bf hy sv bu le pa) (pc' := 24) hX dX6_needs_21 f_X6_168 fw_X6_14 0 rfl rfl rfl (Nat.le_of_ble_eq_true rfl) rfl rfl ?_
      refine r_aload_n (pc' := 25) hX dX6_needs_24 rfl rfl ?_
      refine r_dup (pc' := 26) hX dX6_needs_25 rfl rfl ?_
      refine r_get (pc' := 29) (v := .int (nI (r 5))) hX dX6_needs_26 f_X6_165 0 rfl rfl rfl ?_
      refine r_aload_n (pc' := 30) hX dX6_needs_29 rfl rfl ?_
      refine r_get (pc' := 33) (v := .int (nI 0)) hX dX6_needs_30 f_X6_168 0 rfl rfl rfl ?_
      refine r_if_eq_N (tgt := 40) (pc' := 36) hX dX6_needs_33 (by decide) rfl (by omega) (fun c33 => ?_) (fun c33 => ?_)
      · refine r_iconst (pc' := 41) (v := nI 1) hX dX6_needs_40 rfl rfl ?_
        refine r_iadd_N (pc' := 42) hX dX6_needs_41  rfl ?_
        refine r_put (ws' := wM cy ma (up1 (up1 r 6 0) 5 ((r 5) + 1)) e g bf hy sv bu le pa) (pc' := 45) hX dX6_needs_42 f_X6_165 fw_X6_13 0 rfl rfl rfl (Nat.le_of_ble_eq_true rfl) rfl rfl ?_
        exact r_vreturn hX hE dX6_needs_45 rfl ⟨rfl, _, rfl, by have q9 : hr t x.2 = c := (hrI_eq hch (by omega)).mp c13; have q8 := hr_in (t := t) (p := x.2) (by omega); rw [nd_ok ⟨hPw.1.mp c5, q9⟩]; exact PS_to hP (fun j q1 q2 => up1_56 q1 q2) (by show r 5 + 1 = x.2 + 1; omega) rfl (by show x.2 + 1 ≤ 61; omega)⟩ (by decide) (by decide)
      · exact absurd c33 (by omega)
    · refine r_iconst (pc' := 17) (v := nI 1) hX dX6_needs_16 rfl rfl ?_
      refine r_goto (tgt := 21) hX dX6_needs_17 (by decide) ?_
      refine r_put (ws' := wM cy ma (up1 r 6 1) e g bf hy sv bu le pa) (pc' := 24) hX dX6_needs_21 f_X6_168 fw_X6_14 0 rfl rfl rfl (Nat.le_of_ble_eq_true rfl) rfl rfl ?_
      refine r_aload_n (pc' := 25) hX dX6_needs_24 rfl rfl ?_
      refine r_dup (pc' := 26) hX dX6_needs_25 rfl rfl ?_
      refine r_get (pc' := 29) (v := .int (nI (r 5))) hX dX6_needs_26 f_X6_165 0 rfl rfl rfl ?_
      refine r_aload_n (pc' := 30) hX dX6_needs_29 rfl rfl ?_
      refine r_get (pc' := 33) (v := .int (nI 1)) hX dX6_needs_30 f_X6_168 0 rfl rfl rfl ?_
      refine r_if_eq_N (tgt := 40) (pc' := 36) hX dX6_needs_33 (by decide) rfl (by omega) (fun c33 => ?_) (fun c33 => ?_)
      · exact absurd c33 (by omega)
      · refine r_iconst (pc' := 37) (v := nI 0) hX dX6_needs_36 rfl rfl ?_
        refine r_goto (tgt := 41) hX dX6_needs_37 (by decide) ?_
        refine r_iadd_N (pc' := 42) hX dX6_needs_41  rfl ?_
        refine r_put (ws' := wM cy ma (up1 (up1 r 6 1) 5 ((r 5) + 0)) e g bf hy sv bu le pa) (pc' := 45) hX dX6_needs_42 f_X6_165 fw_X6_13 0 rfl rfl rfl (Nat.le_of_ble_eq_true rfl) rfl rfl ?_
        exact r_vreturn hX hE dX6_needs_45 rfl ⟨rfl, _, rfl, by rw [nd_bad (by rintro ⟨q1, q2⟩; first | exact c5 (hPw.1.mpr q1) | exact c13 ((hrI_eq hch (by omega)).mpr q2))]; exact PS_to hP (fun j q1 q2 => up1_56 q1 q2) (by show r 5 + 0 = x.2; omega) rfl hpl⟩ (by decide) (by decide)

set_option maxRecDepth 20000 in
set_option maxHeartbeats 1000000 in
theorem cM_needsThree {l : Launch} {D : va_G} {cy : Nat → ClassId} {sa : Nat → Nat} {ma : Nat → Nat} {r : Nat → Nat} {e : Nat → Int32} {g bf hy sv bu le : Nat → Nat} {pa : Nat → Int32} {r0 : Nat → Nat} {t : List Nat} {x : Bool × Nat} (hB : r0 2 = t.length ∧ t.length ≤ 60 ∧ LT bu t) (hch : ∀ c ∈ t, c < 127) (hP : PS r0 r x) {a b c : Nat} (ha : a < 1000) (hb : b < 1000) (hc : c < 1000) : MG l yX6_needsThree cX6_needsThree 4 none 2 0 0 (D, cy, sa) [.ref (ma 0), .int (nI a), .int (nI b), .int (nI c)] (wM cy ma r e g bf hy sv bu le pa) (fun w u => w = none ∧ ∃ r9 : Nat → Nat, u = wM cy ma r9 e g bf hy sv bu le pa ∧ PS r0 r9 (nd t c (nd t b (nd t a x)))) := by
  have hPw := PS_w hP
  have hP0 := hP
  obtain ⟨hp0, hp5, hp6, hpl⟩ := hP0
  obtain ⟨hb1, hb2, hb3⟩ := hB
  have hr2 : r 2 = t.length := (hp0 2 (by decide) (by decide)).trans hb1
  have hB : r0 2 = t.length ∧ t.length ≤ 60 ∧ LT bu t := ⟨hb1, hb2, hb3⟩
  refine MG_by (own := RX6) (L := [some (.ref (ma 0)), some (.int (nI a)), some (.int (nI b)), some (.int (nI c))]) (by decide +kernel) rfl rfl (Nat.le_of_ble_eq_true rfl) 0 rfl (fun X hX hE hnL hG hcy hnm => ?_)
  refine r_aload_n (pc' := 1) hX dX6_needsThree_0 rfl rfl ?_
  refine r_iload_n (pc' := 2) hX dX6_needsThree_1 rfl rfl ?_
  refine V_call0 (k' := 0) (n' := 0) (pc' := 5) hX (r_runV (As := [.int (nI a)]) hX dX6_needsThree_2 k_X6_176 (fun l9 hl9 => cM_needs (r0 := r0) (t := t) (x := x) hB hch hP (by omega)) hG ⟨8, _, TX6, 16, List.mem_cons_self, rfl⟩ rfl rfl (Nat.le_of_ble_eq_true rfl) (by decide) (by decide) (by decide) (by decide)) rfl rfl rfl (fun w9 u9 hp9 => ?_)
  obtain ⟨rfl, rb1, rfl, hQ1⟩ := hp9
  change V X 0 0 (wM cy ma rb1 e g bf hy sv bu le pa) [some (.ref (ma 0)), some (.int (nI a)), some (.int (nI b)), some (.int (nI c))] [] 5
  refine r_aload_n (pc' := 6) hX dX6_needsThree_5 rfl rfl ?_
  refine r_iload_n (pc' := 7) hX dX6_needsThree_6 rfl rfl ?_
  refine V_call0 (k' := 0) (n' := 0) (pc' := 10) hX (r_runV (As := [.int (nI b)]) hX dX6_needsThree_7 k_X6_176 (fun l9 hl9 => cM_needs (r0 := r0) (t := t) (x := (nd t a x)) hB hch hQ1 (by omega)) hG ⟨8, _, TX6, 16, List.mem_cons_self, rfl⟩ rfl rfl (Nat.le_of_ble_eq_true rfl) (by decide) (by decide) (by decide) (by decide)) rfl rfl rfl (fun w9 u9 hp9 => ?_)
  obtain ⟨rfl, rb2, rfl, hQ2⟩ := hp9
  change V X 0 0 (wM cy ma rb2 e g bf hy sv bu le pa) [some (.ref (ma 0)), some (.int (nI a)), some (.int (nI b)), some (.int (nI c))] [] 10
  refine r_aload_n (pc' := 11) hX dX6_needsThree_10 rfl rfl ?_
  refine r_iload_n (pc' := 12) hX dX6_needsThree_11 rfl rfl ?_
  refine V_call0 (k' := 0) (n' := 0) (pc' := 15) hX (r_runV (As := [.int (nI c)]) hX dX6_needsThree_12 k_X6_176 (fun l9 hl9 => cM_needs (r0 := r0) (t := t) (x := (nd t b (nd t a x))) hB hch hQ2 (by omega)) hG ⟨8, _, TX6, 16, List.mem_cons_self, rfl⟩ rfl rfl (Nat.le_of_ble_eq_true rfl) (by decide) (by decide) (by decide) (by decide)) rfl rfl rfl (fun w9 u9 hp9 => ?_)
  obtain ⟨rfl, rb3, rfl, hQ3⟩ := hp9
  change V X 0 0 (wM cy ma rb3 e g bf hy sv bu le pa) [some (.ref (ma 0)), some (.int (nI a)), some (.int (nI b)), some (.int (nI c))] [] 15
  exact r_vreturn hX hE dX6_needsThree_15 rfl ⟨rfl, _, rfl, hQ3⟩ (by decide) (by decide)

set_option maxRecDepth 20000 in
set_option maxHeartbeats 1000000 in
theorem cM_digits1 {l : Launch} {D : va_G} {cy : Nat → ClassId} {sa : Nat → Nat} {ma : Nat → Nat} {r : Nat → Nat} {e : Nat → Int32} {g bf hy sv bu le : Nat → Nat} {pa : Nat → Int32} {r0 : Nat → Nat} {t : List Nat} {x : Bool × Nat} (hB : r0 2 = t.length ∧ t.length ≤ 60 ∧ LT bu t) (hch : ∀ c ∈ t, c < 127) (hP : PS r0 r x)  : MG l yX6_digits cX6_digits 4 (some .int) 1 0 0 (D, cy, sa) [.ref (ma 0), .int (nI 1)] (wM cy ma r e g bf hy sv bu le pa) (fun w u => w = some (.int (nI ((dgt t 1 x).2))) ∧ ∃ r9 : Nat → Nat, u = wM cy ma r9 e g bf hy sv bu le pa ∧ PS r0 r9 ((dgt t 1 x).1)) := by
  have hPw := PS_w hP
  have hP0 := hP
  obtain ⟨hp0, hp5, hp6, hpl⟩ := hP0
  obtain ⟨hb1, hb2, hb3⟩ := hB
  have hr2 : r 2 = t.length := (hp0 2 (by decide) (by decide)).trans hb1
  have hB : r0 2 = t.length ∧ t.length ≤ 60 ∧ LT bu t := ⟨hb1, hb2, hb3⟩
  refine MG_by (own := RX6) (L := [some (.ref (ma 0)), some (.int (nI 1)), none, none]) (by decide +kernel) rfl rfl (Nat.le_of_ble_eq_true rfl) 2 rfl (fun X hX hE hnL hG hcy hnm => ?_)
  refine r_aload_n (pc' := 1) hX dX6_digits_0 rfl rfl ?_
  refine r_aload_n (pc' := 2) hX dX6_digits_1 rfl rfl ?_
  refine r_get (pc' := 5) (v := .int (nI (r 6))) hX dX6_digits_2 f_X6_168 0 rfl rfl rfl ?_
  refine r_if_ne_N (tgt := 22) (pc' := 8) hX dX6_digits_5 (by decide) rfl (by omega) (fun c5 => ?_) (fun c5 => ?_)
  · refine r_iconst (pc' := 23) (v := nI 1) hX dX6_digits_22 rfl rfl ?_
    refine r_goto (tgt := 27) hX dX6_digits_23 (by decide) ?_
    refine r_put (ws' := wM cy ma (up1 r 6 1) e g bf hy sv bu le pa) (pc' := 30) hX dX6_digits_27 f_X6_168 fw_X6_14 0 rfl rfl rfl (Nat.le_of_ble_eq_true rfl) rfl rfl ?_
    have hin9 := hr_in (t := t) (p := x.2)
    refine r_iconst (pc' := 31) (v := nI 0) hX dX6_digits_30 rfl rfl ?_
    refine r_istore_n (L' := [some (.ref (ma 0)), some (.int (nI 1)), some (.int (nI 0)), none]) (pc' := 32) hX dX6_digits_31 (nlt hnL (by decide)) rfl rfl rfl ?_
    refine r_iconst (pc' := 33) (v := nI 0) hX dX6_digits_32 rfl rfl ?_
    refine r_istore_n (L' := [some (.ref (ma 0)), some (.int (nI 1)), some (.int (nI 0)), some (.int (nI 0))]) (pc' := 34) hX dX6_digits_33 (nlt hnL (by decide)) rfl rfl rfl ?_
    refine r_aload_n (pc' := 35) hX dX6_digits_34 rfl rfl ?_
    refine r_get (pc' := 38) (v := .int (nI 1)) hX dX6_digits_35 f_X6_168 0 rfl rfl rfl ?_
    refine r_if_ne_N (tgt := 89) (pc' := 41) hX dX6_digits_38 (by decide) rfl (by omega) (fun c38 => ?_) (fun c38 => ?_)
    · refine r_iload_n (pc' := 90) hX dX6_digits_89 rfl rfl ?_
      exact r_ireturn hX hE dX6_digits_90 rfl (by rw [dgt_bad (by rintro ⟨q1, q2⟩; first | exact c5 (hPw.1.mpr q1) | exact c19 q2)]; exact ⟨rfl, _, rfl, PS_to hP (fun j q1 q2 => up1_ne q2) hp5 rfl hpl⟩) (by decide) (by decide)
    · exact absurd c38 (by omega)
  · refine r_aload_n (pc' := 9) hX dX6_digits_8 rfl rfl ?_
    refine V_call0 (k' := 0) (n' := 0) (pc' := 12) hX (r_runV (As := []) hX dX6_digits_9 k_X6_172 (fun l9 hl9 => cM_here (r0 := r0) (t := t) (x := x) hB hch hP) hG ⟨8, _, TX6, 16, List.mem_cons_self, rfl⟩ rfl rfl (Nat.le_of_ble_eq_true rfl) (by decide) (by decide) (by decide) (by decide)) rfl rfl rfl (fun w9 u9 hp9 => ?_)
    obtain ⟨rfl, rfl⟩ := hp9
    change V X 0 0 (wM cy ma r e g bf hy sv bu le pa) [some (.ref (ma 0)), some (.int (nI 1)), none, none] [.int (hrI t x.2), .ref (ma 0)] 12
    refine r_bipush (pc' := 14) (v := nI 48) hX dX6_digits_12 rfl rfl ?_
    refine r_bipush (pc' := 16) (v := nI 57) hX dX6_digits_14 rfl rfl ?_
    refine V_calln (k' := 0) (n' := 0) (pc' := 19) hX (r_runS (As := [.int (hrI t x.2), .int (nI 48), .int (nI 57)]) hX dX6_digits_16 k_X6_49 (fun l9 hl9 => cM_in (x := (hrI t x.2)) (y := nI 48) (z := nI 57)) hG rfl rfl (Nat.le_of_ble_eq_true rfl) (by decide) (by decide) (by decide) (by decide)) rfl rfl rfl (fun w9 hp9 => ?_)
    obtain rfl := hp9
    rw [bI_congr (q := isd (hr t x.2)) (by rw [nI_I (by omega), nI_I (by omega)]; exact hrI_d hch)]
    change V X 0 0 (wM cy ma r e g bf hy sv bu le pa) [some (.ref (ma 0)), some (.int (nI 1)), none, none] [.int (bI (isd (hr t x.2))), .ref (ma 0)] 19
    refine r_if_ne_B (tgt := 26) (pc' := 22) hX dX6_digits_19 (by decide) rfl (fun c19 => ?_) (fun c19 => ?_)
    · refine r_iconst (pc' := 27) (v := nI 0) hX dX6_digits_26 rfl rfl ?_
      refine r_put (ws' := wM cy ma (up1 r 6 0) e g bf hy sv bu le pa) (pc' := 30) hX dX6_digits_27 f_X6_168 fw_X6_14 0 rfl rfl rfl (Nat.le_of_ble_eq_true rfl) rfl rfl ?_
      have hin9 := hr_in (t := t) (p := x.2)
      refine r_iconst (pc' := 31) (v := nI 0) hX dX6_digits_30 rfl rfl ?_
      refine r_istore_n (L' := [some (.ref (ma 0)), some (.int (nI 1)), some (.int (nI 0)), none]) (pc' := 32) hX dX6_digits_31 (nlt hnL (by decide)) rfl rfl rfl ?_
      refine r_iconst (pc' := 33) (v := nI 0) hX dX6_digits_32 rfl rfl ?_
      refine r_istore_n (L' := [some (.ref (ma 0)), some (.int (nI 1)), some (.int (nI 0)), some (.int (nI 0))]) (pc' := 34) hX dX6_digits_33 (nlt hnL (by decide)) rfl rfl rfl ?_
      refine r_aload_n (pc' := 35) hX dX6_digits_34 rfl rfl ?_
      refine r_get (pc' := 38) (v := .int (nI 0)) hX dX6_digits_35 f_X6_168 0 rfl rfl rfl ?_
      refine r_if_ne_N (tgt := 89) (pc' := 41) hX dX6_digits_38 (by decide) rfl (by omega) (fun c38 => ?_) (fun c38 => ?_)
      · exact absurd c38 (by omega)
      · refine r_iload_n (pc' := 42) hX dX6_digits_41 rfl rfl ?_
        refine r_iload_n (pc' := 43) hX dX6_digits_42 rfl rfl ?_
        refine r_icmp_ge_N (tgt := 89) (pc' := 46) hX dX6_digits_43 (by decide) rfl (by omega) (by omega) (fun c43 => ?_) (fun c43 => ?_)
        · exact absurd c43 (by omega)
        · have hP1 : PS r0 (up1 r 6 0) (false, x.2) := PS_to hP (fun j q1 q2 => up1_ne q2) hp5 rfl hpl
          refine r_aload_n (pc' := 47) hX dX6_digits_46 rfl rfl ?_
          refine V_call0 (k' := 0) (n' := 0) (pc' := 50) hX (r_runV (As := []) hX dX6_digits_47 k_X6_172 (fun l9 hl9 => cM_here (r0 := r0) (t := t) (x := (false, x.2)) hB hch hP1) hG ⟨8, _, TX6, 16, List.mem_cons_self, rfl⟩ rfl rfl (Nat.le_of_ble_eq_true rfl) (by decide) (by decide) (by decide) (by decide)) rfl rfl rfl (fun w9 u9 hp9 => ?_)
          obtain ⟨rfl, rfl⟩ := hp9
          change V X 0 0 (wM cy ma (up1 r 6 0) e g bf hy sv bu le pa) [some (.ref (ma 0)), some (.int (nI 1)), some (.int (nI 0)), some (.int (nI 0))] [.int (hrI t (false, x.2).2)] 50
          refine r_bipush (pc' := 52) (v := nI 48) hX dX6_digits_50 rfl rfl ?_
          refine r_bipush (pc' := 54) (v := nI 57) hX dX6_digits_52 rfl rfl ?_
          refine V_calln (k' := 0) (n' := 0) (pc' := 57) hX (r_runS (As := [.int (hrI t (false, x.2).2), .int (nI 48), .int (nI 57)]) hX dX6_digits_54 k_X6_49 (fun l9 hl9 => cM_in (x := (hrI t (false, x.2).2)) (y := nI 48) (z := nI 57)) hG rfl rfl (Nat.le_of_ble_eq_true rfl) (by decide) (by decide) (by decide) (by decide)) rfl rfl rfl (fun w9 hp9 => ?_)
          obtain rfl := hp9
          rw [bI_congr (q := isd (hr t x.2)) (by rw [nI_I (by omega), nI_I (by omega)]; exact hrI_d hch)]
          change V X 0 0 (wM cy ma (up1 r 6 0) e g bf hy sv bu le pa) [some (.ref (ma 0)), some (.int (nI 1)), some (.int (nI 0)), some (.int (nI 0))] [.int (bI (isd (hr t x.2)))] 57
          refine r_if_eq_B (tgt := 89) (pc' := 60) hX dX6_digits_57 (by decide) rfl (fun c57_0 => ?_) (fun c57_0 => ?_)
          · refine r_iload_n (pc' := 90) hX dX6_digits_89 rfl rfl ?_
            exact r_ireturn hX hE dX6_digits_90 rfl (absurd c19 c57_0) (by decide) (by decide)
          · refine r_bipush (pc' := 62) (v := nI 10) hX dX6_digits_60 rfl rfl ?_
            refine r_iload_n (pc' := 63) hX dX6_digits_62 rfl rfl ?_
            refine r_imul_N (pc' := 64) hX dX6_digits_63  rfl ?_
            refine r_aload_n (pc' := 65) hX dX6_digits_64 rfl rfl ?_
            refine V_call0 (k' := 0) (n' := 0) (pc' := 68) hX (r_runV (As := []) hX dX6_digits_65 k_X6_172 (fun l9 hl9 => cM_here (r0 := r0) (t := t) (x := (false, x.2)) hB hch hP1) hG ⟨8, _, TX6, 16, List.mem_cons_self, rfl⟩ rfl rfl (Nat.le_of_ble_eq_true rfl) (by decide) (by decide) (by decide) (by decide)) rfl rfl rfl (fun w9 u9 hp9 => ?_)
            obtain ⟨rfl, rfl⟩ := hp9
            have hn9 := hrI_n (p := x.2) hch (by omega)
            rw [show hrI t (false, x.2).2 = nI (hr t x.2) from hn9]
            change V X 0 0 (wM cy ma (up1 r 6 0) e g bf hy sv bu le pa) [some (.ref (ma 0)), some (.int (nI 1)), some (.int (nI 0)), some (.int (nI 0))] [.int (nI (hr t x.2)), .int (nI (10 * 0))] 68
            refine r_iadd_N (pc' := 69) hX dX6_digits_68  rfl ?_
            refine r_bipush (pc' := 71) (v := nI 48) hX dX6_digits_69 rfl rfl ?_
            refine r_isub_N (pc' := 72) hX dX6_digits_71 (by omega) rfl ?_
            refine r_istore_n (L' := [some (.ref (ma 0)), some (.int (nI 1)), some (.int (nI (((10 * 0) + (hr t x.2)) - 48))), some (.int (nI 0))]) (pc' := 73) hX dX6_digits_72 (nlt hnL (by decide)) rfl rfl rfl ?_
            refine r_aload_n (pc' := 74) hX dX6_digits_73 rfl rfl ?_
            refine r_dup (pc' := 75) hX dX6_digits_74 rfl rfl ?_
            refine r_get (pc' := 78) (v := .int (nI (r 5))) hX dX6_digits_75 f_X6_165 0 rfl rfl rfl ?_
            refine r_iconst (pc' := 79) (v := nI 1) hX dX6_digits_78 rfl rfl ?_
            refine r_iadd_N (pc' := 80) hX dX6_digits_79  rfl ?_
            refine r_put (ws' := wM cy ma (up1 (up1 r 6 0) 5 ((r 5) + 1)) e g bf hy sv bu le pa) (pc' := 83) hX dX6_digits_80 f_X6_165 fw_X6_13 0 rfl rfl rfl (Nat.le_of_ble_eq_true rfl) rfl rfl ?_
            refine r_iinc_N (b := 1) (L' := [some (.ref (ma 0)), some (.int (nI 1)), some (.int (nI (((10 * 0) + (hr t x.2)) - 48))), some (.int (nI 1))]) (pc' := 86) hX dX6_digits_83 rfl (nlt hnL (by decide)) rfl rfl rfl ?_
            refine r_goto (tgt := 34) hX dX6_digits_86 (by decide) ?_
            refine r_aload_n (pc' := 35) hX dX6_digits_34 rfl rfl ?_
            refine r_get (pc' := 38) (v := .int (nI 0)) hX dX6_digits_35 f_X6_168 0 rfl rfl rfl ?_
            refine r_if_ne_N (tgt := 89) (pc' := 41) hX dX6_digits_38 (by decide) rfl (by omega) (fun c38 => ?_) (fun c38 => ?_)
            · exact absurd c38 (by omega)
            · refine r_iload_n (pc' := 42) hX dX6_digits_41 rfl rfl ?_
              refine r_iload_n (pc' := 43) hX dX6_digits_42 rfl rfl ?_
              refine r_icmp_ge_N (tgt := 89) (pc' := 46) hX dX6_digits_43 (by decide) rfl (by omega) (by omega) (fun c43 => ?_) (fun c43 => ?_)
              · refine r_iload_n (pc' := 90) hX dX6_digits_89 rfl rfl ?_
                exact r_ireturn hX hE dX6_digits_90 rfl (by rw [dgt_1 ⟨hPw.1.mp c5, c19⟩ (by rintro ⟨q1, q2⟩; omega)]; exact ⟨rN (by show 10 * 0 + hr t x.2 - 48 = hr t x.2 - 48; omega), _, rfl, PS_to hP (fun j q1 q2 => up1_56 q1 q2) (by show r 5 + 1 = x.2 + 1; omega) rfl (by show x.2 + 1 ≤ 61; omega)⟩) (by decide) (by decide)
              · exact absurd c43 (by omega)
    · refine r_iconst (pc' := 23) (v := nI 1) hX dX6_digits_22 rfl rfl ?_
      refine r_goto (tgt := 27) hX dX6_digits_23 (by decide) ?_
      refine r_put (ws' := wM cy ma (up1 r 6 1) e g bf hy sv bu le pa) (pc' := 30) hX dX6_digits_27 f_X6_168 fw_X6_14 0 rfl rfl rfl (Nat.le_of_ble_eq_true rfl) rfl rfl ?_
      have hin9 := hr_in (t := t) (p := x.2)
      refine r_iconst (pc' := 31) (v := nI 0) hX dX6_digits_30 rfl rfl ?_
      refine r_istore_n (L' := [some (.ref (ma 0)), some (.int (nI 1)), some (.int (nI 0)), none]) (pc' := 32) hX dX6_digits_31 (nlt hnL (by decide)) rfl rfl rfl ?_
      refine r_iconst (pc' := 33) (v := nI 0) hX dX6_digits_32 rfl rfl ?_
      refine r_istore_n (L' := [some (.ref (ma 0)), some (.int (nI 1)), some (.int (nI 0)), some (.int (nI 0))]) (pc' := 34) hX dX6_digits_33 (nlt hnL (by decide)) rfl rfl rfl ?_
      refine r_aload_n (pc' := 35) hX dX6_digits_34 rfl rfl ?_
      refine r_get (pc' := 38) (v := .int (nI 1)) hX dX6_digits_35 f_X6_168 0 rfl rfl rfl ?_
      refine r_if_ne_N (tgt := 89) (pc' := 41) hX dX6_digits_38 (by decide) rfl (by omega) (fun c38 => ?_) (fun c38 => ?_)
      · refine r_iload_n (pc' := 90) hX dX6_digits_89 rfl rfl ?_
        exact r_ireturn hX hE dX6_digits_90 rfl (by rw [dgt_bad (by rintro ⟨q1, q2⟩; first | exact c5 (hPw.1.mpr q1) | exact c19 q2)]; exact ⟨rfl, _, rfl, PS_to hP (fun j q1 q2 => up1_ne q2) hp5 rfl hpl⟩) (by decide) (by decide)
      · exact absurd c38 (by omega)

set_option maxRecDepth 20000 in
set_option maxHeartbeats 1000000 in
theorem cM_digits2 {l : Launch} {D : va_G} {cy : Nat → ClassId} {sa : Nat → Nat} {ma : Nat → Nat} {r : Nat → Nat} {e : Nat → Int32} {g bf hy sv bu le : Nat → Nat} {pa : Nat → Int32} {r0 : Nat → Nat} {t : List Nat} {x : Bool × Nat} (hB : r0 2 = t.length ∧ t.length ≤ 60 ∧ LT bu t) (hch : ∀ c ∈ t, c < 127) (hP : PS r0 r x)  : MG l yX6_digits cX6_digits 4 (some .int) 1 0 0 (D, cy, sa) [.ref (ma 0), .int (nI 2)] (wM cy ma r e g bf hy sv bu le pa) (fun w u => w = some (.int (nI ((dgt t 2 x).2))) ∧ ∃ r9 : Nat → Nat, u = wM cy ma r9 e g bf hy sv bu le pa ∧ PS r0 r9 ((dgt t 2 x).1)) := by
  have hPw := PS_w hP
  have hP0 := hP
  obtain ⟨hp0, hp5, hp6, hpl⟩ := hP0
  obtain ⟨hb1, hb2, hb3⟩ := hB
  have hr2 : r 2 = t.length := (hp0 2 (by decide) (by decide)).trans hb1
  have hB : r0 2 = t.length ∧ t.length ≤ 60 ∧ LT bu t := ⟨hb1, hb2, hb3⟩
  refine MG_by (own := RX6) (L := [some (.ref (ma 0)), some (.int (nI 2)), none, none]) (by decide +kernel) rfl rfl (Nat.le_of_ble_eq_true rfl) 2 rfl (fun X hX hE hnL hG hcy hnm => ?_)
  refine r_aload_n (pc' := 1) hX dX6_digits_0 rfl rfl ?_
  refine r_aload_n (pc' := 2) hX dX6_digits_1 rfl rfl ?_
  refine r_get (pc' := 5) (v := .int (nI (r 6))) hX dX6_digits_2 f_X6_168 0 rfl rfl rfl ?_
  refine r_if_ne_N (tgt := 22) (pc' := 8) hX dX6_digits_5 (by decide) rfl (by omega) (fun c5 => ?_) (fun c5 => ?_)
  · refine r_iconst (pc' := 23) (v := nI 1) hX dX6_digits_22 rfl rfl ?_
    refine r_goto (tgt := 27) hX dX6_digits_23 (by decide) ?_
    refine r_put (ws' := wM cy ma (up1 r 6 1) e g bf hy sv bu le pa) (pc' := 30) hX dX6_digits_27 f_X6_168 fw_X6_14 0 rfl rfl rfl (Nat.le_of_ble_eq_true rfl) rfl rfl ?_
    have hin9 := hr_in (t := t) (p := x.2)
    refine r_iconst (pc' := 31) (v := nI 0) hX dX6_digits_30 rfl rfl ?_
    refine r_istore_n (L' := [some (.ref (ma 0)), some (.int (nI 2)), some (.int (nI 0)), none]) (pc' := 32) hX dX6_digits_31 (nlt hnL (by decide)) rfl rfl rfl ?_
    refine r_iconst (pc' := 33) (v := nI 0) hX dX6_digits_32 rfl rfl ?_
    refine r_istore_n (L' := [some (.ref (ma 0)), some (.int (nI 2)), some (.int (nI 0)), some (.int (nI 0))]) (pc' := 34) hX dX6_digits_33 (nlt hnL (by decide)) rfl rfl rfl ?_
    refine r_aload_n (pc' := 35) hX dX6_digits_34 rfl rfl ?_
    refine r_get (pc' := 38) (v := .int (nI 1)) hX dX6_digits_35 f_X6_168 0 rfl rfl rfl ?_
    refine r_if_ne_N (tgt := 89) (pc' := 41) hX dX6_digits_38 (by decide) rfl (by omega) (fun c38 => ?_) (fun c38 => ?_)
    · refine r_iload_n (pc' := 90) hX dX6_digits_89 rfl rfl ?_
      exact r_ireturn hX hE dX6_digits_90 rfl (by rw [dgt_bad (by rintro ⟨q1, q2⟩; first | exact c5 (hPw.1.mpr q1) | exact c19 q2)]; exact ⟨rfl, _, rfl, PS_to hP (fun j q1 q2 => up1_ne q2) hp5 rfl hpl⟩) (by decide) (by decide)
    · exact absurd c38 (by omega)
  · refine r_aload_n (pc' := 9) hX dX6_digits_8 rfl rfl ?_
    refine V_call0 (k' := 0) (n' := 0) (pc' := 12) hX (r_runV (As := []) hX dX6_digits_9 k_X6_172 (fun l9 hl9 => cM_here (r0 := r0) (t := t) (x := x) hB hch hP) hG ⟨8, _, TX6, 16, List.mem_cons_self, rfl⟩ rfl rfl (Nat.le_of_ble_eq_true rfl) (by decide) (by decide) (by decide) (by decide)) rfl rfl rfl (fun w9 u9 hp9 => ?_)
    obtain ⟨rfl, rfl⟩ := hp9
    change V X 0 0 (wM cy ma r e g bf hy sv bu le pa) [some (.ref (ma 0)), some (.int (nI 2)), none, none] [.int (hrI t x.2), .ref (ma 0)] 12
    refine r_bipush (pc' := 14) (v := nI 48) hX dX6_digits_12 rfl rfl ?_
    refine r_bipush (pc' := 16) (v := nI 57) hX dX6_digits_14 rfl rfl ?_
    refine V_calln (k' := 0) (n' := 0) (pc' := 19) hX (r_runS (As := [.int (hrI t x.2), .int (nI 48), .int (nI 57)]) hX dX6_digits_16 k_X6_49 (fun l9 hl9 => cM_in (x := (hrI t x.2)) (y := nI 48) (z := nI 57)) hG rfl rfl (Nat.le_of_ble_eq_true rfl) (by decide) (by decide) (by decide) (by decide)) rfl rfl rfl (fun w9 hp9 => ?_)
    obtain rfl := hp9
    rw [bI_congr (q := isd (hr t x.2)) (by rw [nI_I (by omega), nI_I (by omega)]; exact hrI_d hch)]
    change V X 0 0 (wM cy ma r e g bf hy sv bu le pa) [some (.ref (ma 0)), some (.int (nI 2)), none, none] [.int (bI (isd (hr t x.2))), .ref (ma 0)] 19
    refine r_if_ne_B (tgt := 26) (pc' := 22) hX dX6_digits_19 (by decide) rfl (fun c19 => ?_) (fun c19 => ?_)
    · refine r_iconst (pc' := 27) (v := nI 0) hX dX6_digits_26 rfl rfl ?_
      refine r_put (ws' := wM cy ma (up1 r 6 0) e g bf hy sv bu le pa) (pc' := 30) hX dX6_digits_27 f_X6_168 fw_X6_14 0 rfl rfl rfl (Nat.le_of_ble_eq_true rfl) rfl rfl ?_
      have hin9 := hr_in (t := t) (p := x.2)
      refine r_iconst (pc' := 31) (v := nI 0) hX dX6_digits_30 rfl rfl ?_
      refine r_istore_n (L' := [some (.ref (ma 0)), some (.int (nI 2)), some (.int (nI 0)), none]) (pc' := 32) hX dX6_digits_31 (nlt hnL (by decide)) rfl rfl rfl ?_
      refine r_iconst (pc' := 33) (v := nI 0) hX dX6_digits_32 rfl rfl ?_
      refine r_istore_n (L' := [some (.ref (ma 0)), some (.int (nI 2)), some (.int (nI 0)), some (.int (nI 0))]) (pc' := 34) hX dX6_digits_33 (nlt hnL (by decide)) rfl rfl rfl ?_
      refine r_aload_n (pc' := 35) hX dX6_digits_34 rfl rfl ?_
      refine r_get (pc' := 38) (v := .int (nI 0)) hX dX6_digits_35 f_X6_168 0 rfl rfl rfl ?_
      refine r_if_ne_N (tgt := 89) (pc' := 41) hX dX6_digits_38 (by decide) rfl (by omega) (fun c38 => ?_) (fun c38 => ?_)
      · exact absurd c38 (by omega)
      · refine r_iload_n (pc' := 42) hX dX6_digits_41 rfl rfl ?_
        refine r_iload_n (pc' := 43) hX dX6_digits_42 rfl rfl ?_
        refine r_icmp_ge_N (tgt := 89) (pc' := 46) hX dX6_digits_43 (by decide) rfl (by omega) (by omega) (fun c43 => ?_) (fun c43 => ?_)
        · exact absurd c43 (by omega)
        · have hP1 : PS r0 (up1 r 6 0) (false, x.2) := PS_to hP (fun j q1 q2 => up1_ne q2) hp5 rfl hpl
          refine r_aload_n (pc' := 47) hX dX6_digits_46 rfl rfl ?_
          refine V_call0 (k' := 0) (n' := 0) (pc' := 50) hX (r_runV (As := []) hX dX6_digits_47 k_X6_172 (fun l9 hl9 => cM_here (r0 := r0) (t := t) (x := (false, x.2)) hB hch hP1) hG ⟨8, _, TX6, 16, List.mem_cons_self, rfl⟩ rfl rfl (Nat.le_of_ble_eq_true rfl) (by decide) (by decide) (by decide) (by decide)) rfl rfl rfl (fun w9 u9 hp9 => ?_)
          obtain ⟨rfl, rfl⟩ := hp9
          change V X 0 0 (wM cy ma (up1 r 6 0) e g bf hy sv bu le pa) [some (.ref (ma 0)), some (.int (nI 2)), some (.int (nI 0)), some (.int (nI 0))] [.int (hrI t (false, x.2).2)] 50
          refine r_bipush (pc' := 52) (v := nI 48) hX dX6_digits_50 rfl rfl ?_
          refine r_bipush (pc' := 54) (v := nI 57) hX dX6_digits_52 rfl rfl ?_
          refine V_calln (k' := 0) (n' := 0) (pc' := 57) hX (r_runS (As := [.int (hrI t (false, x.2).2), .int (nI 48), .int (nI 57)]) hX dX6_digits_54 k_X6_49 (fun l9 hl9 => cM_in (x := (hrI t (false, x.2).2)) (y := nI 48) (z := nI 57)) hG rfl rfl (Nat.le_of_ble_eq_true rfl) (by decide) (by decide) (by decide) (by decide)) rfl rfl rfl (fun w9 hp9 => ?_)
          obtain rfl := hp9
          rw [bI_congr (q := isd (hr t x.2)) (by rw [nI_I (by omega), nI_I (by omega)]; exact hrI_d hch)]
          change V X 0 0 (wM cy ma (up1 r 6 0) e g bf hy sv bu le pa) [some (.ref (ma 0)), some (.int (nI 2)), some (.int (nI 0)), some (.int (nI 0))] [.int (bI (isd (hr t x.2)))] 57
          refine r_if_eq_B (tgt := 89) (pc' := 60) hX dX6_digits_57 (by decide) rfl (fun c57_0 => ?_) (fun c57_0 => ?_)
          · refine r_iload_n (pc' := 90) hX dX6_digits_89 rfl rfl ?_
            exact r_ireturn hX hE dX6_digits_90 rfl (absurd c19 c57_0) (by decide) (by decide)
          · refine r_bipush (pc' := 62) (v := nI 10) hX dX6_digits_60 rfl rfl ?_
            refine r_iload_n (pc' := 63) hX dX6_digits_62 rfl rfl ?_
            refine r_imul_N (pc' := 64) hX dX6_digits_63  rfl ?_
            refine r_aload_n (pc' := 65) hX dX6_digits_64 rfl rfl ?_
            refine V_call0 (k' := 0) (n' := 0) (pc' := 68) hX (r_runV (As := []) hX dX6_digits_65 k_X6_172 (fun l9 hl9 => cM_here (r0 := r0) (t := t) (x := (false, x.2)) hB hch hP1) hG ⟨8, _, TX6, 16, List.mem_cons_self, rfl⟩ rfl rfl (Nat.le_of_ble_eq_true rfl) (by decide) (by decide) (by decide) (by decide)) rfl rfl rfl (fun w9 u9 hp9 => ?_)
            obtain ⟨rfl, rfl⟩ := hp9
            have hn9 := hrI_n (p := x.2) hch (by omega)
            rw [show hrI t (false, x.2).2 = nI (hr t x.2) from hn9]
            change V X 0 0 (wM cy ma (up1 r 6 0) e g bf hy sv bu le pa) [some (.ref (ma 0)), some (.int (nI 2)), some (.int (nI 0)), some (.int (nI 0))] [.int (nI (hr t x.2)), .int (nI (10 * 0))] 68
            refine r_iadd_N (pc' := 69) hX dX6_digits_68  rfl ?_
            refine r_bipush (pc' := 71) (v := nI 48) hX dX6_digits_69 rfl rfl ?_
            refine r_isub_N (pc' := 72) hX dX6_digits_71 (by omega) rfl ?_
            refine r_istore_n (L' := [some (.ref (ma 0)), some (.int (nI 2)), some (.int (nI (((10 * 0) + (hr t x.2)) - 48))), some (.int (nI 0))]) (pc' := 73) hX dX6_digits_72 (nlt hnL (by decide)) rfl rfl rfl ?_
            refine r_aload_n (pc' := 74) hX dX6_digits_73 rfl rfl ?_
            refine r_dup (pc' := 75) hX dX6_digits_74 rfl rfl ?_
            refine r_get (pc' := 78) (v := .int (nI (r 5))) hX dX6_digits_75 f_X6_165 0 rfl rfl rfl ?_
            refine r_iconst (pc' := 79) (v := nI 1) hX dX6_digits_78 rfl rfl ?_
            refine r_iadd_N (pc' := 80) hX dX6_digits_79  rfl ?_
            refine r_put (ws' := wM cy ma (up1 (up1 r 6 0) 5 ((r 5) + 1)) e g bf hy sv bu le pa) (pc' := 83) hX dX6_digits_80 f_X6_165 fw_X6_13 0 rfl rfl rfl (Nat.le_of_ble_eq_true rfl) rfl rfl ?_
            refine r_iinc_N (b := 1) (L' := [some (.ref (ma 0)), some (.int (nI 2)), some (.int (nI (((10 * 0) + (hr t x.2)) - 48))), some (.int (nI 1))]) (pc' := 86) hX dX6_digits_83 rfl (nlt hnL (by decide)) rfl rfl rfl ?_
            refine r_goto (tgt := 34) hX dX6_digits_86 (by decide) ?_
            refine r_aload_n (pc' := 35) hX dX6_digits_34 rfl rfl ?_
            refine r_get (pc' := 38) (v := .int (nI 0)) hX dX6_digits_35 f_X6_168 0 rfl rfl rfl ?_
            refine r_if_ne_N (tgt := 89) (pc' := 41) hX dX6_digits_38 (by decide) rfl (by omega) (fun c38 => ?_) (fun c38 => ?_)
            · exact absurd c38 (by omega)
            · refine r_iload_n (pc' := 42) hX dX6_digits_41 rfl rfl ?_
              refine r_iload_n (pc' := 43) hX dX6_digits_42 rfl rfl ?_
              refine r_icmp_ge_N (tgt := 89) (pc' := 46) hX dX6_digits_43 (by decide) rfl (by omega) (by omega) (fun c43 => ?_) (fun c43 => ?_)
              · exact absurd c43 (by omega)
              · have hP2 : PS r0 (up1 (up1 r 6 0) 5 ((r 5) + 1)) (false, x.2 + 1) := PS_to hP (fun j q1 q2 => up1_56 q1 q2) (by show r 5 + 1 = x.2 + 1; omega) rfl (by show x.2 + 1 ≤ 61; omega)
                refine r_aload_n (pc' := 47) hX dX6_digits_46 rfl rfl ?_
                refine V_call0 (k' := 0) (n' := 0) (pc' := 50) hX (r_runV (As := []) hX dX6_digits_47 k_X6_172 (fun l9 hl9 => cM_here (r0 := r0) (t := t) (x := (false, x.2 + 1)) hB hch hP2) hG ⟨8, _, TX6, 16, List.mem_cons_self, rfl⟩ rfl rfl (Nat.le_of_ble_eq_true rfl) (by decide) (by decide) (by decide) (by decide)) rfl rfl rfl (fun w9 u9 hp9 => ?_)
                obtain ⟨rfl, rfl⟩ := hp9
                change V X 0 0 (wM cy ma (up1 (up1 r 6 0) 5 ((r 5) + 1)) e g bf hy sv bu le pa) [some (.ref (ma 0)), some (.int (nI 2)), some (.int (nI (((10 * 0) + (hr t x.2)) - 48))), some (.int (nI 1))] [.int (hrI t (false, x.2 + 1).2)] 50
                refine r_bipush (pc' := 52) (v := nI 48) hX dX6_digits_50 rfl rfl ?_
                refine r_bipush (pc' := 54) (v := nI 57) hX dX6_digits_52 rfl rfl ?_
                refine V_calln (k' := 0) (n' := 0) (pc' := 57) hX (r_runS (As := [.int (hrI t (false, x.2 + 1).2), .int (nI 48), .int (nI 57)]) hX dX6_digits_54 k_X6_49 (fun l9 hl9 => cM_in (x := (hrI t (false, x.2 + 1).2)) (y := nI 48) (z := nI 57)) hG rfl rfl (Nat.le_of_ble_eq_true rfl) (by decide) (by decide) (by decide) (by decide)) rfl rfl rfl (fun w9 hp9 => ?_)
                obtain rfl := hp9
                rw [bI_congr (q := isd (hr t (x.2 + 1))) (by rw [nI_I (by omega), nI_I (by omega)]; exact hrI_d hch)]
                change V X 0 0 (wM cy ma (up1 (up1 r 6 0) 5 ((r 5) + 1)) e g bf hy sv bu le pa) [some (.ref (ma 0)), some (.int (nI 2)), some (.int (nI (((10 * 0) + (hr t x.2)) - 48))), some (.int (nI 1))] [.int (bI (isd (hr t (x.2 + 1))))] 57
                refine r_if_eq_B (tgt := 89) (pc' := 60) hX dX6_digits_57 (by decide) rfl (fun c57_1 => ?_) (fun c57_1 => ?_)
                · refine r_iload_n (pc' := 90) hX dX6_digits_89 rfl rfl ?_
                  exact r_ireturn hX hE dX6_digits_90 rfl (by rw [dgt_1 ⟨hPw.1.mp c5, c19⟩ (by rintro ⟨q1, q2⟩; exact c57_1 q2)]; exact ⟨rN (by show 10 * 0 + hr t x.2 - 48 = hr t x.2 - 48; omega), _, rfl, PS_to hP (fun j q1 q2 => up1_56 q1 q2) (by show r 5 + 1 = x.2 + 1; omega) rfl (by show x.2 + 1 ≤ 61; omega)⟩) (by decide) (by decide)
                · refine r_bipush (pc' := 62) (v := nI 10) hX dX6_digits_60 rfl rfl ?_
                  refine r_iload_n (pc' := 63) hX dX6_digits_62 rfl rfl ?_
                  refine r_imul_N (pc' := 64) hX dX6_digits_63  rfl ?_
                  refine r_aload_n (pc' := 65) hX dX6_digits_64 rfl rfl ?_
                  refine V_call0 (k' := 0) (n' := 0) (pc' := 68) hX (r_runV (As := []) hX dX6_digits_65 k_X6_172 (fun l9 hl9 => cM_here (r0 := r0) (t := t) (x := (false, x.2 + 1)) hB hch hP2) hG ⟨8, _, TX6, 16, List.mem_cons_self, rfl⟩ rfl rfl (Nat.le_of_ble_eq_true rfl) (by decide) (by decide) (by decide) (by decide)) rfl rfl rfl (fun w9 u9 hp9 => ?_)
                  obtain ⟨rfl, rfl⟩ := hp9
                  have hn9 := hrI_n (p := (x.2 + 1)) hch (by omega)
                  rw [show hrI t (false, x.2 + 1).2 = nI (hr t (x.2 + 1)) from hn9]
                  change V X 0 0 (wM cy ma (up1 (up1 r 6 0) 5 ((r 5) + 1)) e g bf hy sv bu le pa) [some (.ref (ma 0)), some (.int (nI 2)), some (.int (nI (((10 * 0) + (hr t x.2)) - 48))), some (.int (nI 1))] [.int (nI (hr t (x.2 + 1))), .int (nI (10 * (((10 * 0) + (hr t x.2)) - 48)))] 68
                  refine r_iadd_N (pc' := 69) hX dX6_digits_68  rfl ?_
                  refine r_bipush (pc' := 71) (v := nI 48) hX dX6_digits_69 rfl rfl ?_
                  refine r_isub_N (pc' := 72) hX dX6_digits_71 (by omega) rfl ?_
                  refine r_istore_n (L' := [some (.ref (ma 0)), some (.int (nI 2)), some (.int (nI (((10 * (((10 * 0) + (hr t x.2)) - 48)) + (hr t (x.2 + 1))) - 48))), some (.int (nI 1))]) (pc' := 73) hX dX6_digits_72 (nlt hnL (by decide)) rfl rfl rfl ?_
                  refine r_aload_n (pc' := 74) hX dX6_digits_73 rfl rfl ?_
                  refine r_dup (pc' := 75) hX dX6_digits_74 rfl rfl ?_
                  refine r_get (pc' := 78) (v := .int (nI ((r 5) + 1))) hX dX6_digits_75 f_X6_165 0 rfl rfl rfl ?_
                  refine r_iconst (pc' := 79) (v := nI 1) hX dX6_digits_78 rfl rfl ?_
                  refine r_iadd_N (pc' := 80) hX dX6_digits_79  rfl ?_
                  refine r_put (ws' := wM cy ma (up1 (up1 (up1 r 6 0) 5 ((r 5) + 1)) 5 (((r 5) + 1) + 1)) e g bf hy sv bu le pa) (pc' := 83) hX dX6_digits_80 f_X6_165 fw_X6_13 0 rfl rfl rfl (Nat.le_of_ble_eq_true rfl) rfl rfl ?_
                  refine r_iinc_N (b := 1) (L' := [some (.ref (ma 0)), some (.int (nI 2)), some (.int (nI (((10 * (((10 * 0) + (hr t x.2)) - 48)) + (hr t (x.2 + 1))) - 48))), some (.int (nI 2))]) (pc' := 86) hX dX6_digits_83 rfl (nlt hnL (by decide)) rfl rfl rfl ?_
                  refine r_goto (tgt := 34) hX dX6_digits_86 (by decide) ?_
                  refine r_aload_n (pc' := 35) hX dX6_digits_34 rfl rfl ?_
                  refine r_get (pc' := 38) (v := .int (nI 0)) hX dX6_digits_35 f_X6_168 0 rfl rfl rfl ?_
                  refine r_if_ne_N (tgt := 89) (pc' := 41) hX dX6_digits_38 (by decide) rfl (by omega) (fun c38 => ?_) (fun c38 => ?_)
                  · exact absurd c38 (by omega)
                  · refine r_iload_n (pc' := 42) hX dX6_digits_41 rfl rfl ?_
                    refine r_iload_n (pc' := 43) hX dX6_digits_42 rfl rfl ?_
                    refine r_icmp_ge_N (tgt := 89) (pc' := 46) hX dX6_digits_43 (by decide) rfl (by omega) (by omega) (fun c43 => ?_) (fun c43 => ?_)
                    · refine r_iload_n (pc' := 90) hX dX6_digits_89 rfl rfl ?_
                      exact r_ireturn hX hE dX6_digits_90 rfl (by rw [dgt_2 ⟨hPw.1.mp c5, c19⟩ ⟨rfl, c57_1⟩]; exact ⟨rN (by show 10 * (10 * 0 + hr t x.2 - 48) + hr t (x.2 + 1) - 48 = 10 * (hr t x.2 - 48) + (hr t (x.2 + 1) - 48); omega), _, rfl, PS_to hP (fun j q1 q2 => by rw [up1_ne q1, up1_56 q1 q2]) (by show r 5 + 1 + 1 = x.2 + 2; omega) rfl (by have q8 := hr_in (t := t) (p := x.2 + 1) (by omega); show x.2 + 2 ≤ 61; omega)⟩) (by decide) (by decide)
                    · exact absurd c43 (by omega)
    · refine r_iconst (pc' := 23) (v := nI 1) hX dX6_digits_22 rfl rfl ?_
      refine r_goto (tgt := 27) hX dX6_digits_23 (by decide) ?_
      refine r_put (ws' := wM cy ma (up1 r 6 1) e g bf hy sv bu le pa) (pc' := 30) hX dX6_digits_27 f_X6_168 fw_X6_14 0 rfl rfl rfl (Nat.le_of_ble_eq_true rfl) rfl rfl ?_
      have hin9 := hr_in (t := t) (p := x.2)
      refine r_iconst (pc' := 31) (v := nI 0) hX dX6_digits_30 rfl rfl ?_
      refine r_istore_n (L' := [some (.ref (ma 0)), some (.int (nI 2)), some (.int (nI 0)), none]) (pc' := 32) hX dX6_digits_31 (nlt hnL (by decide)) rfl rfl rfl ?_
      refine r_iconst (pc' := 33) (v := nI 0) hX dX6_digits_32 rfl rfl ?_
      refine r_istore_n (L' := [some (.ref (ma 0)), some (.int (nI 2)), some (.int (nI 0)), some (.int (nI 0))]) (pc' := 34) hX dX6_digits_33 (nlt hnL (by decide)) rfl rfl rfl ?_
      refine r_aload_n (pc' := 35) hX dX6_digits_34 rfl rfl ?_
      refine r_get (pc' := 38) (v := .int (nI 1)) hX dX6_digits_35 f_X6_168 0 rfl rfl rfl ?_
      refine r_if_ne_N (tgt := 89) (pc' := 41) hX dX6_digits_38 (by decide) rfl (by omega) (fun c38 => ?_) (fun c38 => ?_)
      · refine r_iload_n (pc' := 90) hX dX6_digits_89 rfl rfl ?_
        exact r_ireturn hX hE dX6_digits_90 rfl (by rw [dgt_bad (by rintro ⟨q1, q2⟩; first | exact c5 (hPw.1.mpr q1) | exact c19 q2)]; exact ⟨rfl, _, rfl, PS_to hP (fun j q1 q2 => up1_ne q2) hp5 rfl hpl⟩) (by decide) (by decide)
      · exact absurd c38 (by omega)

set_option maxRecDepth 20000 in
set_option maxHeartbeats 1000000 in
theorem cM_behindBlank1 {l : Launch} {D : va_G} {cy : Nat → ClassId} {sa : Nat → Nat} {ma : Nat → Nat} {r : Nat → Nat} {e : Nat → Int32} {g bf hy sv bu le : Nat → Nat} {pa : Nat → Int32} {r0 : Nat → Nat} {t : List Nat} {x : Bool × Nat} (hB : r0 2 = t.length ∧ t.length ≤ 60 ∧ LT bu t) (hch : ∀ c ∈ t, c < 127) (hP : PS r0 r x)  : MG l yX6_behindBlank cX6_behindBlank 2 (some .int) 2 0 0 (D, cy, sa) [.ref (ma 0), .int (nI 1)] (wM cy ma r e g bf hy sv bu le pa) (fun w u => w = some (.int (nI ((dgt t 1 (nd t 32 x)).2))) ∧ ∃ r9 : Nat → Nat, u = wM cy ma r9 e g bf hy sv bu le pa ∧ PS r0 r9 ((dgt t 1 (nd t 32 x)).1)) := by
  have hPw := PS_w hP
  have hP0 := hP
  obtain ⟨hp0, hp5, hp6, hpl⟩ := hP0
  obtain ⟨hb1, hb2, hb3⟩ := hB
  have hr2 : r 2 = t.length := (hp0 2 (by decide) (by decide)).trans hb1
  have hB : r0 2 = t.length ∧ t.length ≤ 60 ∧ LT bu t := ⟨hb1, hb2, hb3⟩
  refine MG_by (own := RX6) (L := [some (.ref (ma 0)), some (.int (nI 1))]) (by decide +kernel) rfl rfl (Nat.le_of_ble_eq_true rfl) 0 rfl (fun X hX hE hnL hG hcy hnm => ?_)
  refine r_aload_n (pc' := 1) hX dX6_behindBlank_0 rfl rfl ?_
  refine r_bipush (pc' := 3) (v := nI 32) hX dX6_behindBlank_1 rfl rfl ?_
  refine V_call0 (k' := 0) (n' := 0) (pc' := 6) hX (r_runV (As := [.int (nI 32)]) hX dX6_behindBlank_3 k_X6_176 (fun l9 hl9 => cM_needs (r0 := r0) (t := t) (x := x) hB hch hP (by omega)) hG ⟨8, _, TX6, 16, List.mem_cons_self, rfl⟩ rfl rfl (Nat.le_of_ble_eq_true rfl) (by decide) (by decide) (by decide) (by decide)) rfl rfl rfl (fun w9 u9 hp9 => ?_)
  obtain ⟨rfl, rb4, rfl, hQ4⟩ := hp9
  change V X 0 0 (wM cy ma rb4 e g bf hy sv bu le pa) [some (.ref (ma 0)), some (.int (nI 1))] [] 6
  refine r_aload_n (pc' := 7) hX dX6_behindBlank_6 rfl rfl ?_
  refine r_iload_n (pc' := 8) hX dX6_behindBlank_7 rfl rfl ?_
  refine V_call0 (k' := 0) (n' := 0) (pc' := 11) hX (r_runV (As := [.int (nI 1)]) hX dX6_behindBlank_8 k_X6_179 (fun l9 hl9 => cM_digits1 (r0 := r0) (t := t) (x := (nd t 32 x)) hB hch hQ4) hG ⟨8, _, TX6, 16, List.mem_cons_self, rfl⟩ rfl rfl (Nat.le_of_ble_eq_true rfl) (by decide) (by decide) (by decide) (by decide)) rfl rfl rfl (fun w9 u9 hp9 => ?_)
  obtain ⟨rfl, rb5, rfl, hQ5⟩ := hp9
  change V X 0 0 (wM cy ma rb5 e g bf hy sv bu le pa) [some (.ref (ma 0)), some (.int (nI 1))] [.int (nI ((dgt t 1 (nd t 32 x)).2))] 11
  exact r_ireturn hX hE dX6_behindBlank_11 rfl ⟨rfl, _, rfl, hQ5⟩ (by decide) (by decide)

set_option maxRecDepth 20000 in
set_option maxHeartbeats 1000000 in
theorem cM_behindBlank2 {l : Launch} {D : va_G} {cy : Nat → ClassId} {sa : Nat → Nat} {ma : Nat → Nat} {r : Nat → Nat} {e : Nat → Int32} {g bf hy sv bu le : Nat → Nat} {pa : Nat → Int32} {r0 : Nat → Nat} {t : List Nat} {x : Bool × Nat} (hB : r0 2 = t.length ∧ t.length ≤ 60 ∧ LT bu t) (hch : ∀ c ∈ t, c < 127) (hP : PS r0 r x)  : MG l yX6_behindBlank cX6_behindBlank 2 (some .int) 2 0 0 (D, cy, sa) [.ref (ma 0), .int (nI 2)] (wM cy ma r e g bf hy sv bu le pa) (fun w u => w = some (.int (nI ((dgt t 2 (nd t 32 x)).2))) ∧ ∃ r9 : Nat → Nat, u = wM cy ma r9 e g bf hy sv bu le pa ∧ PS r0 r9 ((dgt t 2 (nd t 32 x)).1)) := by
  have hPw := PS_w hP
  have hP0 := hP
  obtain ⟨hp0, hp5, hp6, hpl⟩ := hP0
  obtain ⟨hb1, hb2, hb3⟩ := hB
  have hr2 : r 2 = t.length := (hp0 2 (by decide) (by decide)).trans hb1
  have hB : r0 2 = t.length ∧ t.length ≤ 60 ∧ LT bu t := ⟨hb1, hb2, hb3⟩
  refine MG_by (own := RX6) (L := [some (.ref (ma 0)), some (.int (nI 2))]) (by decide +kernel) rfl rfl (Nat.le_of_ble_eq_true rfl) 0 rfl (fun X hX hE hnL hG hcy hnm => ?_)
  refine r_aload_n (pc' := 1) hX dX6_behindBlank_0 rfl rfl ?_
  refine r_bipush (pc' := 3) (v := nI 32) hX dX6_behindBlank_1 rfl rfl ?_
  refine V_call0 (k' := 0) (n' := 0) (pc' := 6) hX (r_runV (As := [.int (nI 32)]) hX dX6_behindBlank_3 k_X6_176 (fun l9 hl9 => cM_needs (r0 := r0) (t := t) (x := x) hB hch hP (by omega)) hG ⟨8, _, TX6, 16, List.mem_cons_self, rfl⟩ rfl rfl (Nat.le_of_ble_eq_true rfl) (by decide) (by decide) (by decide) (by decide)) rfl rfl rfl (fun w9 u9 hp9 => ?_)
  obtain ⟨rfl, rb6, rfl, hQ6⟩ := hp9
  change V X 0 0 (wM cy ma rb6 e g bf hy sv bu le pa) [some (.ref (ma 0)), some (.int (nI 2))] [] 6
  refine r_aload_n (pc' := 7) hX dX6_behindBlank_6 rfl rfl ?_
  refine r_iload_n (pc' := 8) hX dX6_behindBlank_7 rfl rfl ?_
  refine V_call0 (k' := 0) (n' := 0) (pc' := 11) hX (r_runV (As := [.int (nI 2)]) hX dX6_behindBlank_8 k_X6_179 (fun l9 hl9 => cM_digits2 (r0 := r0) (t := t) (x := (nd t 32 x)) hB hch hQ6) hG ⟨8, _, TX6, 16, List.mem_cons_self, rfl⟩ rfl rfl (Nat.le_of_ble_eq_true rfl) (by decide) (by decide) (by decide) (by decide)) rfl rfl rfl (fun w9 u9 hp9 => ?_)
  obtain ⟨rfl, rb7, rfl, hQ7⟩ := hp9
  change V X 0 0 (wM cy ma rb7 e g bf hy sv bu le pa) [some (.ref (ma 0)), some (.int (nI 2))] [.int (nI ((dgt t 2 (nd t 32 x)).2))] 11
  exact r_ireturn hX hE dX6_behindBlank_11 rfl ⟨rfl, _, rfl, hQ7⟩ (by decide) (by decide)
