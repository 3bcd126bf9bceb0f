theorem hr_at {t : List Nat} {p : Nat} (h : p < t.length) : t.getD p 0 = hr t p := by rw [hr_lt h, getD_at h]
set_option maxRecDepth 20000 in
set_option maxHeartbeats 1000000 in
theorem cP_length {l : Launch} {D : va_G} {cy : Nat → ClassId} {sa : Nat → Nat} {s nq t q m ml c ct po co : Nat} {g nb : Nat → Nat} {tx : List Nat} (h : SBp m c g tx) : MG l yX3_length cX3_length 1 (some .int) 2 0 0 (D, cy, sa) [.ref s] ((wScr cy s nq t q m ml c g nb ct po co)) (fun w u => w = some (.int (nI c)) ∧ u = wScr cy s nq t q m ml c g nb ct po co) := by
  refine MG_by (own := RX3) (L := [some (.ref s)]) (by decide +kernel) rfl rfl (Nat.le_of_ble_eq_true rfl) 0 rfl (fun X hX hE hnL hG hcy hnm => ?_)
  refine r_aload_n (pc' := 1) hX dX3_length_0 rfl rfl ?_
  refine r_get (pc' := 4) (v := .ref t) hX dX3_length_1 f_X3_12 0 rfl rfl rfl ?_
  refine V_call (k' := 0) (n' := 0) (pc' := 7) (wr := ([(s, .inr (5, [.ref t, .ref nq, .int (nI ct), .int (nI po), .int (nI co)])), (nq, .inl (cy 0, aN 3 nb))] : va_W)) hX (r_runV (As := []) hX dX3_length_4 k_X3_32 (fun l9 hl9 => cJ_len) hG ⟨1, _, TJ4, 4, List.mem_cons_self, rfl⟩ rfl rfl (Nat.le_of_ble_eq_true rfl) (by decide) (by decide) (by decide) (by decide)) (perm2 2 2 rfl rfl rfl rfl) rfl rfl rfl (fun w9 u9 hp9 => ?_)
  obtain ⟨rfl, rfl⟩ := hp9
  change V X 0 0 ([(t, .inr (1, [.ref q, .int (nI 0), .int (nI ml), .int (nI c)])), (q, .inl (cy 2, aN m g)), (s, .inr (5, [.ref t, .ref nq, .int (nI ct), .int (nI po), .int (nI co)])), (nq, .inl (cy 0, aN 3 nb))]) [some (.ref s)] [.int (nI c)] 7
  refine V_perm ((permI (n := 4) [2, 3, 0, 1] (by decide) rfl rfl : List.Perm _ [(s, .inr (5, [.ref t, .ref nq, .int (nI ct), .int (nI po), .int (nI co)])), (nq, .inl (cy 0, aN 3 nb)), (t, .inr (1, [.ref q, .int (nI 0), .int (nI ml), .int (nI c)])), (q, .inl (cy 2, aN m g))])) ?_
  exact r_ireturn hX hE dX3_length_7 rfl ⟨rfl, rfl⟩ (by decide) (by decide)

set_option maxRecDepth 20000 in
set_option maxHeartbeats 1000000 in
theorem cP_append {l : Launch} {D : va_G} {cy : Nat → ClassId} {sa : Nat → Nat} {s nq t q m ml c ct po co : Nat} {g nb : Nat → Nat} {tx : List Nat} (h : SBp m c g tx) {x : Nat} (hx : x < 128) (hc : c < 60) : MG l yX3_append cX3_append 2 (some .int) 6 1 150 (D, cy, sa) [.ref s, .int (nI x)] ((wScr cy s nq t q m ml c g nb ct po co)) (fun w u => w = some (.int (nI (c + 1))) ∧ ∃ (q1 m1 : Nat) (g1 : Nat → Nat), u = wScr cy s nq t q1 m1 ml (c + 1) g1 nb ct po co ∧ SBp m1 (c + 1) g1 (tx ++ [x])) := by
  refine MG_by (own := RX3) (L := [some (.ref s), some (.int (nI x))]) (by decide +kernel) rfl rfl (Nat.le_of_ble_eq_true rfl) 0 rfl (fun X hX hE hnL hG hcy hnm => ?_)
  refine r_aload_n (pc' := 1) hX dX3_append_0 rfl rfl ?_
  refine r_get (pc' := 4) (v := .ref t) hX dX3_append_1 f_X3_12 0 rfl rfl rfl ?_
  refine r_iload_n (pc' := 5) hX dX3_append_4 rfl rfl ?_
  refine V_call (k' := 1) (n' := 150) (pc' := 8) (wr := ([(s, .inr (5, [.ref t, .ref nq, .int (nI ct), .int (nI po), .int (nI co)])), (nq, .inl (cy 0, aN 3 nb))] : va_W)) hX (r_runV (As := [.int (nI x)]) hX dX3_append_5 k_X3_36 (fun l9 hl9 => cJ_appC (by assumption) (by omega) (by omega)) hG ⟨1, _, TJ4, 4, List.mem_cons_self, rfl⟩ rfl rfl (Nat.le_of_ble_eq_true rfl) (by decide) (by decide) (by decide) (by decide)) (perm2 2 2 rfl rfl rfl rfl) rfl rfl rfl (fun w9 u9 hp9 => ?_)
  obtain ⟨rfl, q138, m138, g138, rfl, h38⟩ := hp9
  change V X 1 150 ([(t, .inr (1, [.ref q138, .int (nI 0), .int (nI ml), .int (nI (c + 1))])), (q138, .inl (cy 2, aN m138 g138)), (s, .inr (5, [.ref t, .ref nq, .int (nI ct), .int (nI po), .int (nI co)])), (nq, .inl (cy 0, aN 3 nb))]) [some (.ref s), some (.int (nI x))] [.ref t] 8
  refine r_pop (pc' := 9) hX dX3_append_8 rfl rfl ?_
  refine r_aload_n (pc' := 10) hX dX3_append_9 rfl rfl ?_
  refine r_get (pc' := 13) (v := .ref t) hX dX3_append_10 f_X3_12 2 rfl rfl rfl ?_
  refine V_call (k' := 1) (n' := 150) (pc' := 16) (wr := ([(s, .inr (5, [.ref t, .ref nq, .int (nI ct), .int (nI po), .int (nI co)])), (nq, .inl (cy 0, aN 3 nb))] : va_W)) hX (r_runV (As := []) hX dX3_append_13 k_X3_32 (fun l9 hl9 => cJ_len) hG ⟨1, _, TJ4, 4, List.mem_cons_self, rfl⟩ rfl rfl (Nat.le_of_ble_eq_true rfl) (by decide) (by decide) (by decide) (by decide)) (perm2 0 0 rfl rfl rfl rfl) rfl rfl rfl (fun w9 u9 hp9 => ?_)
  obtain ⟨rfl, rfl⟩ := hp9
  change V X 1 150 ([(t, .inr (1, [.ref q138, .int (nI 0), .int (nI ml), .int (nI (c + 1))])), (q138, .inl (cy 2, aN m138 g138)), (s, .inr (5, [.ref t, .ref nq, .int (nI ct), .int (nI po), .int (nI co)])), (nq, .inl (cy 0, aN 3 nb))]) [some (.ref s), some (.int (nI x))] [.int (nI (c + 1))] 16
  refine V_perm ((permI (n := 4) [0, 1, 2, 3] (by decide) rfl rfl : List.Perm _ [(t, .inr (1, [.ref q138, .int (nI 0), .int (nI ml), .int (nI (c + 1))])), (q138, .inl (cy 2, aN m138 g138)), (s, .inr (5, [.ref t, .ref nq, .int (nI ct), .int (nI po), .int (nI co)])), (nq, .inl (cy 0, aN 3 nb))])) ?_
  refine V_perm (permI (n := 4) [2, 3, 0, 1] (by decide) rfl rfl : List.Perm _ [(s, .inr (5, [.ref t, .ref nq, .int (nI ct), .int (nI po), .int (nI co)])), (nq, .inl (cy 0, aN 3 nb)), (t, .inr (1, [.ref q138, .int (nI 0), .int (nI ml), .int (nI (c + 1))])), (q138, .inl (cy 2, aN m138 g138))]) ?_
  exact r_ireturn hX hE dX3_append_16 rfl ⟨rfl, _, _, _, rfl, h38⟩ (by omega) (by omega)

set_option maxRecDepth 20000 in
set_option maxHeartbeats 1000000 in
theorem cP_clear {l : Launch} {D : va_G} {cy : Nat → ClassId} {sa : Nat → Nat} {s nq t q m ml c ct po co : Nat} {g nb : Nat → Nat} {tx : List Nat} (h : SBp m c g tx) (hc : c ≤ 60) : MG l yX3_clear cX3_clear 1 none 6 1 150 (D, cy, sa) [.ref s] ((wScr cy s nq t q m ml c g nb ct po co)) (fun w u => w = none ∧ ∃ (q1 m1 ml1 : Nat) (g1 : Nat → Nat), u = wScr cy s nq t q1 m1 ml1 0 g1 nb ct po co ∧ SBp m1 0 g1 []) := by
  refine MG_by (own := RX3) (L := [some (.ref s)]) (by decide +kernel) rfl rfl (Nat.le_of_ble_eq_true rfl) 0 rfl (fun X hX hE hnL hG hcy hnm => ?_)
  refine r_aload_n (pc' := 1) hX dX3_clear_0 rfl rfl ?_
  refine r_get (pc' := 4) (v := .ref t) hX dX3_clear_1 f_X3_12 0 rfl rfl rfl ?_
  refine r_iconst (pc' := 5) (v := nI 0) hX dX3_clear_4 rfl rfl ?_
  refine V_call (k' := 1) (n' := 150) (pc' := 8) (wr := ([(s, .inr (5, [.ref t, .ref nq, .int (nI ct), .int (nI po), .int (nI co)])), (nq, .inl (cy 0, aN 3 nb))] : va_W)) hX (r_runV (As := [.int (nI 0)]) hX dX3_clear_5 k_X3_40 (fun l9 hl9 => cJ_setLen (by assumption) (by omega)) hG ⟨1, _, TJ4, 4, List.mem_cons_self, rfl⟩ rfl rfl (Nat.le_of_ble_eq_true rfl) (by decide) (by decide) (by decide) (by decide)) (perm2 2 2 rfl rfl rfl rfl) rfl rfl rfl (fun w9 u9 hp9 => ?_)
  obtain ⟨rfl, q139, m139, ml39, g139, rfl, h39⟩ := hp9
  change V X 1 150 ([(t, .inr (1, [.ref q139, .int (nI 0), .int (nI ml39), .int (nI 0)])), (q139, .inl (cy 2, aN m139 g139)), (s, .inr (5, [.ref t, .ref nq, .int (nI ct), .int (nI po), .int (nI co)])), (nq, .inl (cy 0, aN 3 nb))]) [some (.ref s)] [] 8
  refine V_perm (permI (n := 4) [2, 3, 0, 1] (by decide) rfl rfl : List.Perm _ [(s, .inr (5, [.ref t, .ref nq, .int (nI ct), .int (nI po), .int (nI co)])), (nq, .inl (cy 0, aN 3 nb)), (t, .inr (1, [.ref q139, .int (nI 0), .int (nI ml39), .int (nI 0)])), (q139, .inl (cy 2, aN m139 g139))]) ?_
  exact r_vreturn hX hE dX3_clear_8 rfl ⟨rfl, _, _, _, _, rfl, h39⟩ (by omega) (by omega)

set_option maxRecDepth 20000 in
set_option maxHeartbeats 1000000 in
theorem cP_takes {l : Launch} {D : va_G} {cy : Nat → ClassId} {sa : Nat → Nat} {s nq t q m ml c ct po co : Nat} {g nb : Nat → Nat} {tx : List Nat} (h : SBp m c g tx) {x : Nat} (hx : x < 1000) (hc : c ≤ 60) (hp : po ≤ 150) : MG l yX3_takes cX3_takes 2 (some .boolean) 4 0 0 (D, cy, sa) [.ref s, .int (nI x)] ((wScr cy s nq t q m ml c g nb ct po co)) (fun w u => w = some (.int (bI (hr tx po = x))) ∧ u = wScr cy s nq t q m ml c g nb ct (if hr tx po = x then po + 1 else po) co) := by
  refine MG_by (own := RX3) (L := [some (.ref s), some (.int (nI x))]) (by decide +kernel) rfl rfl (Nat.le_of_ble_eq_true rfl) 0 rfl (fun X hX hE hnL hG hcy hnm => ?_)
  obtain ⟨e1, e2, e3⟩ := h.le
  refine r_aload_n (pc' := 1) hX dX3_takes_0 rfl rfl ?_
  refine r_get (pc' := 4) (v := .int (nI po)) hX dX3_takes_1 f_X3_26 0 rfl rfl rfl ?_
  refine r_aload_n (pc' := 5) hX dX3_takes_4 rfl rfl ?_
  refine r_get (pc' := 8) (v := .ref t) hX dX3_takes_5 f_X3_12 0 rfl rfl rfl ?_
  refine V_call (k' := 0) (n' := 0) (pc' := 11) (wr := ([(s, .inr (5, [.ref t, .ref nq, .int (nI ct), .int (nI po), .int (nI co)])), (nq, .inl (cy 0, aN 3 nb))] : va_W)) hX (r_runV (As := []) hX dX3_takes_8 k_X3_32 (fun l9 hl9 => cJ_len) hG ⟨1, _, TJ4, 4, List.mem_cons_self, rfl⟩ rfl rfl (Nat.le_of_ble_eq_true rfl) (by decide) (by decide) (by decide) (by decide)) (perm2 2 2 rfl rfl rfl rfl) rfl rfl rfl (fun w9 u9 hp9 => ?_)
  obtain ⟨rfl, rfl⟩ := hp9
  change V X 0 0 ([(t, .inr (1, [.ref q, .int (nI 0), .int (nI ml), .int (nI c)])), (q, .inl (cy 2, aN m g)), (s, .inr (5, [.ref t, .ref nq, .int (nI ct), .int (nI po), .int (nI co)])), (nq, .inl (cy 0, aN 3 nb))]) [some (.ref s), some (.int (nI x))] [.int (nI c), .int (nI po)] 11
  refine V_perm ((permI (n := 4) [2, 3, 0, 1] (by decide) rfl rfl : List.Perm _ [(s, .inr (5, [.ref t, .ref nq, .int (nI ct), .int (nI po), .int (nI co)])), (nq, .inl (cy 0, aN 3 nb)), (t, .inr (1, [.ref q, .int (nI 0), .int (nI ml), .int (nI c)])), (q, .inl (cy 2, aN m g))])) ?_
  refine r_icmp_ge_N (tgt := 29) (pc' := 14) hX dX3_takes_11 (by decide) rfl (by omega) (by omega) (fun c11 => ?_) (fun c11 => ?_)
  · have hq : ¬ hr tx po = x := by rw [hr_ge (by omega)]; omega
    refine r_iconst (pc' := 30) (v := nI 0) hX dX3_takes_29 rfl rfl ?_
    exact r_zreturn hX hE dX3_takes_30 rfl rfl ⟨rB0 hq, by rw [if_neg hq]; rfl⟩ (by decide) (by decide)
  · obtain ⟨e4, e5⟩ := h.at c11
    have e6 := hr_at (t := tx) (p := po) (by omega)
    refine r_aload_n (pc' := 15) hX dX3_takes_14 rfl rfl ?_
    refine r_get (pc' := 18) (v := .ref t) hX dX3_takes_15 f_X3_12 0 rfl rfl rfl ?_
    refine r_aload_n (pc' := 19) hX dX3_takes_18 rfl rfl ?_
    refine r_get (pc' := 22) (v := .int (nI po)) hX dX3_takes_19 f_X3_26 0 rfl rfl rfl ?_
    refine V_call (k' := 0) (n' := 0) (pc' := 25) (wr := ([(s, .inr (5, [.ref t, .ref nq, .int (nI ct), .int (nI po), .int (nI co)])), (nq, .inl (cy 0, aN 3 nb))] : va_W)) hX (r_runV (As := [.int (nI po)]) hX dX3_takes_22 k_X3_126 (fun l9 hl9 => cJ_at (by assumption) (by omega) (by omega)) hG ⟨1, _, TJ4, 4, List.mem_cons_self, rfl⟩ rfl rfl (Nat.le_of_ble_eq_true rfl) (by decide) (by decide) (by decide) (by decide)) (perm2 2 2 rfl rfl rfl rfl) rfl rfl rfl (fun w9 u9 hp9 => ?_)
    obtain ⟨rfl, rfl⟩ := hp9
    change V X 0 0 ([(t, .inr (1, [.ref q, .int (nI 0), .int (nI ml), .int (nI c)])), (q, .inl (cy 2, aN m g)), (s, .inr (5, [.ref t, .ref nq, .int (nI ct), .int (nI po), .int (nI co)])), (nq, .inl (cy 0, aN 3 nb))]) [some (.ref s), some (.int (nI x))] [.int (nI (tx.getD po 0))] 25
    refine V_perm ((permI (n := 4) [2, 3, 0, 1] (by decide) rfl rfl : List.Perm _ [(s, .inr (5, [.ref t, .ref nq, .int (nI ct), .int (nI po), .int (nI co)])), (nq, .inl (cy 0, aN 3 nb)), (t, .inr (1, [.ref q, .int (nI 0), .int (nI ml), .int (nI c)])), (q, .inl (cy 2, aN m g))])) ?_
    refine r_iload_n (pc' := 26) hX dX3_takes_25 rfl rfl ?_
    refine r_icmp_eq_N (tgt := 31) (pc' := 29) hX dX3_takes_26 (by decide) rfl (by omega) (by omega) (fun c26 => ?_) (fun c26 => ?_)
    · have hq : hr tx po = x := by omega
      refine r_aload_n (pc' := 32) hX dX3_takes_31 rfl rfl ?_
      refine r_dup (pc' := 33) hX dX3_takes_32 rfl rfl ?_
      refine r_get (pc' := 36) (v := .int (nI po)) hX dX3_takes_33 f_X3_26 0 rfl rfl rfl ?_
      refine r_iconst (pc' := 37) (v := nI 1) hX dX3_takes_36 rfl rfl ?_
      refine r_iadd_N (pc' := 38) hX dX3_takes_37  rfl ?_
      refine r_put (ws' := [(s, .inr (5, [.ref t, .ref nq, .int (nI ct), .int (nI (po + 1)), .int (nI co)])), (nq, .inl (cy 0, aN 3 nb)), (t, .inr (1, [.ref q, .int (nI 0), .int (nI ml), .int (nI c)])), (q, .inl (cy 2, aN m g))]) (pc' := 41) hX dX3_takes_38 f_X3_26 fw_X3_3 0 rfl rfl rfl (Nat.le_of_ble_eq_true rfl) rfl rfl ?_
      refine r_iconst (pc' := 42) (v := nI 1) hX dX3_takes_41 rfl rfl ?_
      exact r_zreturn hX hE dX3_takes_42 rfl rfl ⟨rB1 hq, by rw [if_pos hq]; rfl⟩ (by decide) (by decide)
    · have hq : ¬ hr tx po = x := by omega
      refine r_iconst (pc' := 30) (v := nI 0) hX dX3_takes_29 rfl rfl ?_
      exact r_zreturn hX hE dX3_takes_30 rfl rfl ⟨rB0 hq, by rw [if_neg hq]; rfl⟩ (by decide) (by decide)

set_option maxRecDepth 20000 in
set_option maxHeartbeats 1000000 in
theorem cP_digit {l : Launch} {D : va_G} {cy : Nat → ClassId} {sa : Nat → Nat} {s nq t q m ml c ct po co : Nat} {g nb : Nat → Nat} {tx : List Nat} (h : SBp m c g tx) (hc : c ≤ 60) (hp : po ≤ 150) : MG l yX3_digit cX3_digit 2 (some .int) 4 0 0 (D, cy, sa) [.ref s] ((wScr cy s nq t q m ml c g nb ct po co)) (fun w u => w = some (.int (if isd (hr tx po) then nI (hr tx po - 48) else -1)) ∧ u = wScr cy s nq t q m ml c g nb ct po co) := by
  refine MG_by (own := RX3) (L := [some (.ref s), none]) (by decide +kernel) rfl rfl (Nat.le_of_ble_eq_true rfl) 1 rfl (fun X hX hE hnL hG hcy hnm => ?_)
  obtain ⟨e1, e2, e3⟩ := h.le
  refine r_aload_n (pc' := 1) hX dX3_digit_0 rfl rfl ?_
  refine r_get (pc' := 4) (v := .int (nI po)) hX dX3_digit_1 f_X3_26 0 rfl rfl rfl ?_
  refine r_aload_n (pc' := 5) hX dX3_digit_4 rfl rfl ?_
  refine r_get (pc' := 8) (v := .ref t) hX dX3_digit_5 f_X3_12 0 rfl rfl rfl ?_
  refine V_call (k' := 0) (n' := 0) (pc' := 11) (wr := ([(s, .inr (5, [.ref t, .ref nq, .int (nI ct), .int (nI po), .int (nI co)])), (nq, .inl (cy 0, aN 3 nb))] : va_W)) hX (r_runV (As := []) hX dX3_digit_8 k_X3_32 (fun l9 hl9 => cJ_len) hG ⟨1, _, TJ4, 4, List.mem_cons_self, rfl⟩ rfl rfl (Nat.le_of_ble_eq_true rfl) (by decide) (by decide) (by decide) (by decide)) (perm2 2 2 rfl rfl rfl rfl) rfl rfl rfl (fun w9 u9 hp9 => ?_)
  obtain ⟨rfl, rfl⟩ := hp9
  change V X 0 0 ([(t, .inr (1, [.ref q, .int (nI 0), .int (nI ml), .int (nI c)])), (q, .inl (cy 2, aN m g)), (s, .inr (5, [.ref t, .ref nq, .int (nI ct), .int (nI po), .int (nI co)])), (nq, .inl (cy 0, aN 3 nb))]) [some (.ref s), none] [.int (nI c), .int (nI po)] 11
  refine V_perm ((permI (n := 4) [2, 3, 0, 1] (by decide) rfl rfl : List.Perm _ [(s, .inr (5, [.ref t, .ref nq, .int (nI ct), .int (nI po), .int (nI co)])), (nq, .inl (cy 0, aN 3 nb)), (t, .inr (1, [.ref q, .int (nI 0), .int (nI ml), .int (nI c)])), (q, .inl (cy 2, aN m g))])) ?_
  refine r_icmp_lt_N (tgt := 16) (pc' := 14) hX dX3_digit_11 (by decide) rfl (by omega) (by omega) (fun c11 => ?_) (fun c11 => ?_)
  · obtain ⟨e4, e5⟩ := h.at c11
    have e6 := hr_at (t := tx) (p := po) (by omega)
    refine r_aload_n (pc' := 17) hX dX3_digit_16 rfl rfl ?_
    refine r_get (pc' := 20) (v := .ref t) hX dX3_digit_17 f_X3_12 0 rfl rfl rfl ?_
    refine r_aload_n (pc' := 21) hX dX3_digit_20 rfl rfl ?_
    refine r_get (pc' := 24) (v := .int (nI po)) hX dX3_digit_21 f_X3_26 0 rfl rfl rfl ?_
    refine V_call (k' := 0) (n' := 0) (pc' := 27) (wr := ([(s, .inr (5, [.ref t, .ref nq, .int (nI ct), .int (nI po), .int (nI co)])), (nq, .inl (cy 0, aN 3 nb))] : va_W)) hX (r_runV (As := [.int (nI po)]) hX dX3_digit_24 k_X3_126 (fun l9 hl9 => cJ_at (by assumption) (by omega) (by omega)) hG ⟨1, _, TJ4, 4, List.mem_cons_self, rfl⟩ rfl rfl (Nat.le_of_ble_eq_true rfl) (by decide) (by decide) (by decide) (by decide)) (perm2 2 2 rfl rfl rfl rfl) rfl rfl rfl (fun w9 u9 hp9 => ?_)
    obtain ⟨rfl, rfl⟩ := hp9
    change V X 0 0 ([(t, .inr (1, [.ref q, .int (nI 0), .int (nI ml), .int (nI c)])), (q, .inl (cy 2, aN m g)), (s, .inr (5, [.ref t, .ref nq, .int (nI ct), .int (nI po), .int (nI co)])), (nq, .inl (cy 0, aN 3 nb))]) [some (.ref s), none] [.int (nI (tx.getD po 0))] 27
    refine V_perm ((permI (n := 4) [2, 3, 0, 1] (by decide) rfl rfl : List.Perm _ [(s, .inr (5, [.ref t, .ref nq, .int (nI ct), .int (nI po), .int (nI co)])), (nq, .inl (cy 0, aN 3 nb)), (t, .inr (1, [.ref q, .int (nI 0), .int (nI ml), .int (nI c)])), (q, .inl (cy 2, aN m g))])) ?_
    refine r_istore_n (L' := [some (.ref s), some (.int (nI (tx.getD po 0)))]) (pc' := 28) hX dX3_digit_27 (nlt hnL (by decide)) rfl rfl rfl ?_
    refine r_iload_n (pc' := 29) hX dX3_digit_28 rfl rfl ?_
    refine r_bipush (pc' := 31) (v := nI 48) hX dX3_digit_29 rfl rfl ?_
    refine r_icmp_lt_N (tgt := 47) (pc' := 34) hX dX3_digit_31 (by decide) rfl (by omega) (by omega) (fun c31 => ?_) (fun c31 => ?_)
    · have hq : ¬ isd (hr tx po) := by omega
      refine r_iconst (pc' := 48) (v := (-1)) hX dX3_digit_47 rfl rfl ?_
      exact r_ireturn hX hE dX3_digit_48 rfl ⟨by rw [if_neg hq], rfl⟩ (by decide) (by decide)
    · refine r_iload_n (pc' := 35) hX dX3_digit_34 rfl rfl ?_
      refine r_bipush (pc' := 37) (v := nI 57) hX dX3_digit_35 rfl rfl ?_
      refine r_icmp_gt_N (tgt := 47) (pc' := 40) hX dX3_digit_37 (by decide) rfl (by omega) (by omega) (fun c37 => ?_) (fun c37 => ?_)
      · have hq : ¬ isd (hr tx po) := by omega
        refine r_iconst (pc' := 48) (v := (-1)) hX dX3_digit_47 rfl rfl ?_
        exact r_ireturn hX hE dX3_digit_48 rfl ⟨by rw [if_neg hq], rfl⟩ (by decide) (by decide)
      · have hq : isd (hr tx po) := by omega
        refine r_iload_n (pc' := 41) hX dX3_digit_40 rfl rfl ?_
        refine r_bipush (pc' := 43) (v := nI 48) hX dX3_digit_41 rfl rfl ?_
        refine r_isub_N (pc' := 44) hX dX3_digit_43 (by omega) rfl ?_
        refine r_goto (tgt := 48) hX dX3_digit_44 (by decide) ?_
        exact r_ireturn hX hE dX3_digit_48 rfl ⟨by rw [if_pos hq, e6], rfl⟩ (by decide) (by decide)
  · have hq : ¬ isd (hr tx po) := by rw [hr_ge (by omega)]; decide
    refine r_iconst (pc' := 15) (v := (-1)) hX dX3_digit_14 rfl rfl ?_
    exact r_ireturn hX hE dX3_digit_15 rfl ⟨by rw [if_neg hq], rfl⟩ (by decide) (by decide)

set_option maxRecDepth 20000 in
set_option maxHeartbeats 1000000 in
theorem cP_takesNumber {l : Launch} {D : va_G} {cy : Nat → ClassId} {sa : Nat → Nat} {s nq t q m ml c ct po co : Nat} {g nb : Nat → Nat} {tx : List Nat} (h : SBp m c g tx) {z : Nat} (hz : z ≤ 1) (hc : c ≤ 60) (hp : po ≤ 140) (hct : ct ≤ 3) : MG l yX3_takesNumber cX3_takesNumber 4 (some .boolean) 5 0 0 (D, cy, sa) [.ref s, .int (nI z)] ((wScr cy s nq t q m ml c g nb ct po co)) (fun w u => w = some (.int (bI ((dgt tx (z + 1) (false, po)).1.1 = false))) ∧ ∃ (ct1 : Nat) (nb1 : Nat → Nat), u = wScr cy s nq t q m ml c g nb1 ct1 ((dgt tx (z + 1) (false, po)).1.2) co ∧ ((dgt tx (z + 1) (false, po)).1.1 = false → ct < 3 → ct1 = ct + 1 ∧ nb1 = up1 nb ct (dgt tx (z + 1) (false, po)).2)) := by
  refine MG_by (own := RX3) (L := [some (.ref s), some (.int (nI z)), none, none]) (by decide +kernel) rfl rfl (Nat.le_of_ble_eq_true rfl) 2 rfl (fun X hX hE hnL hG hcy hnm => ?_)
  refine r_aload_n (pc' := 1) hX dX3_takesNumber_0 rfl rfl ?_
  refine V_call0 (k' := 0) (n' := 0) (pc' := 4) hX (r_runV (As := []) hX dX3_takesNumber_1 k_X3_127 (fun l9 hl9 => cP_digit (by assumption) (by omega) (by omega)) hG ⟨5, _, TX3, 5, List.mem_of_getElem? (l := ([(s, .inr (5, [.ref t, .ref nq, .int (nI ct), .int (nI po), .int (nI co)])), (nq, .inl (cy 0, aN 3 nb)), (t, .inr (1, [.ref q, .int (nI 0), .int (nI ml), .int (nI c)])), (q, .inl (cy 2, aN m g))] : va_W)) (i := 0) rfl, rfl⟩ rfl rfl (Nat.le_of_ble_eq_true rfl) (by decide) (by decide) (by decide) (by decide)) rfl rfl rfl (fun w9 u9 hp9 => ?_)
  obtain ⟨rfl, rfl⟩ := hp9
  by_cases hd : isd (hr tx po)
  · rw [if_pos hd]
    change V X 0 0 ([(s, .inr (5, [.ref t, .ref nq, .int (nI ct), .int (nI po), .int (nI co)])), (nq, .inl (cy 0, aN 3 nb)), (t, .inr (1, [.ref q, .int (nI 0), .int (nI ml), .int (nI c)])), (q, .inl (cy 2, aN m g))]) [some (.ref s), some (.int (nI z)), none, none] [.int (nI (hr tx po - 48))] 4
    refine r_istore_n (L' := [some (.ref s), some (.int (nI z)), some (.int (nI (hr tx po - 48))), none]) (pc' := 5) hX dX3_takesNumber_4 (nlt hnL (by decide)) rfl rfl rfl ?_
    refine r_iload_n (pc' := 6) hX dX3_takesNumber_5 rfl rfl ?_
    refine r_if_ge_N (tgt := 11) (pc' := 9) hX dX3_takesNumber_6 (by decide) rfl (by omega) (fun c6 => ?_) (fun c6 => ?_)
    · refine r_aload_n (pc' := 12) hX dX3_takesNumber_11 rfl rfl ?_
      refine r_dup (pc' := 13) hX dX3_takesNumber_12 rfl rfl ?_
      refine r_get (pc' := 16) (v := .int (nI po)) hX dX3_takesNumber_13 f_X3_26 0 rfl rfl rfl ?_
      refine r_iconst (pc' := 17) (v := nI 1) hX dX3_takesNumber_16 rfl rfl ?_
      refine r_iadd_N (pc' := 18) hX dX3_takesNumber_17  rfl ?_
      refine r_put (ws' := [(s, .inr (5, [.ref t, .ref nq, .int (nI ct), .int (nI (po + 1)), .int (nI co)])), (nq, .inl (cy 0, aN 3 nb)), (t, .inr (1, [.ref q, .int (nI 0), .int (nI ml), .int (nI c)])), (q, .inl (cy 2, aN m g))]) (pc' := 21) hX dX3_takesNumber_18 f_X3_26 fw_X3_3 0 rfl rfl rfl (Nat.le_of_ble_eq_true rfl) rfl rfl ?_
      refine r_iload_n (pc' := 22) hX dX3_takesNumber_21 rfl rfl ?_
      refine r_if_eq_N (tgt := 32) (pc' := 25) hX dX3_takesNumber_22 (by decide) rfl (by omega) (fun c22 => ?_) (fun c22 => ?_)
      · have e9 := dgt_1 (t := tx) (m := z + 1) (s := (false, po)) ⟨rfl, hd⟩ (fun q => absurd q.1 (by omega))
        refine r_iconst (pc' := 33) (v := (-1)) hX dX3_takesNumber_32 rfl rfl ?_
        refine r_istore_n (L' := [some (.ref s), some (.int (nI z)), some (.int (nI (hr tx po - 48))), some (.int (-1))]) (pc' := 34) hX dX3_takesNumber_33 (nlt hnL (by decide)) rfl rfl rfl ?_
        refine r_iload_n (pc' := 35) hX dX3_takesNumber_34 rfl rfl ?_
        refine r_if_lt_I (tgt := 55) (pc' := 38) hX dX3_takesNumber_35 (by decide) rfl (by decide : (-1 : Int32).toInt = -1) (fun c35 => ?_) (fun c35 => ?_)
        · refine r_aload_n (pc' := 56) hX dX3_takesNumber_55 rfl rfl ?_
          refine r_get (pc' := 59) (v := .int (nI ct)) hX dX3_takesNumber_56 f_X3_22 0 rfl rfl rfl ?_
          refine r_aload_n (pc' := 60) hX dX3_takesNumber_59 rfl rfl ?_
          refine r_get (pc' := 63) (v := .ref nq) hX dX3_takesNumber_60 f_X3_18 0 rfl rfl rfl ?_
          refine r_alenN (n0 := 3) (pc' := 64) hX dX3_takesNumber_63 0 (by rw [hcy]; rfl) 1 rfl rfl ?_
          refine r_icmp_ge_N (tgt := 87) (pc' := 67) hX dX3_takesNumber_64 (by decide) rfl (by omega) (by omega) (fun c64 => ?_) (fun c64 => ?_)
          · refine r_iconst (pc' := 88) (v := nI 1) hX dX3_takesNumber_87 rfl rfl ?_
            exact r_zreturn hX hE dX3_takesNumber_88 rfl rfl ⟨rB1 (by rw [e9]), _, _, by rw [e9]; rfl, fun _ q => absurd q (by omega)⟩ (by decide) (by decide)
          · refine r_aload_n (pc' := 68) hX dX3_takesNumber_67 rfl rfl ?_
            refine r_get (pc' := 71) (v := .ref nq) hX dX3_takesNumber_68 f_X3_18 0 rfl rfl rfl ?_
            refine r_aload_n (pc' := 72) hX dX3_takesNumber_71 rfl rfl ?_
            refine r_get (pc' := 75) (v := .int (nI ct)) hX dX3_takesNumber_72 f_X3_22 0 rfl rfl rfl ?_
            refine r_iload_n (pc' := 76) hX dX3_takesNumber_75 rfl rfl ?_
            refine r_iast_N (ws' := [(s, .inr (5, [.ref t, .ref nq, .int (nI ct), .int (nI (po + 1)), .int (nI co)])), (nq, .inl (cy 0, aN 3 (up1 nb ct (hr tx po - 48)))), (t, .inr (1, [.ref q, .int (nI 0), .int (nI ml), .int (nI c)])), (q, .inl (cy 2, aN m g))]) (pc' := 77) hX dX3_takesNumber_76 (by rw [hcy]) 1 rfl (by omega) (by decide) rfl rfl ?_
            refine r_aload_n (pc' := 78) hX dX3_takesNumber_77 rfl rfl ?_
            refine r_dup (pc' := 79) hX dX3_takesNumber_78 rfl rfl ?_
            refine r_get (pc' := 82) (v := .int (nI ct)) hX dX3_takesNumber_79 f_X3_22 0 rfl rfl rfl ?_
            refine r_iconst (pc' := 83) (v := nI 1) hX dX3_takesNumber_82 rfl rfl ?_
            refine r_iadd_N (pc' := 84) hX dX3_takesNumber_83  rfl ?_
            refine r_put (ws' := [(s, .inr (5, [.ref t, .ref nq, .int (nI (ct + 1)), .int (nI (po + 1)), .int (nI co)])), (nq, .inl (cy 0, aN 3 (up1 nb ct (hr tx po - 48)))), (t, .inr (1, [.ref q, .int (nI 0), .int (nI ml), .int (nI c)])), (q, .inl (cy 2, aN m g))]) (pc' := 87) hX dX3_takesNumber_84 f_X3_22 fw_X3_2 0 rfl rfl rfl (Nat.le_of_ble_eq_true rfl) rfl rfl ?_
            refine r_iconst (pc' := 88) (v := nI 1) hX dX3_takesNumber_87 rfl rfl ?_
            exact r_zreturn hX hE dX3_takesNumber_88 rfl rfl ⟨rB1 (by rw [e9]), _, _, by rw [e9]; rfl, fun _ _ => ⟨rfl, by rw [e9]⟩⟩ (by decide) (by decide)
        · exact absurd c35 (by omega)
      · refine r_aload_n (pc' := 26) hX dX3_takesNumber_25 rfl rfl ?_
        refine V_call0 (k' := 0) (n' := 0) (pc' := 29) hX (r_runV (As := []) hX dX3_takesNumber_26 k_X3_127 (fun l9 hl9 => cP_digit (by assumption) (by omega) (by omega)) hG ⟨5, _, TX3, 5, List.mem_of_getElem? (l := ([(s, .inr (5, [.ref t, .ref nq, .int (nI ct), .int (nI (po + 1)), .int (nI co)])), (nq, .inl (cy 0, aN 3 nb)), (t, .inr (1, [.ref q, .int (nI 0), .int (nI ml), .int (nI c)])), (q, .inl (cy 2, aN m g))] : va_W)) (i := 0) rfl, rfl⟩ rfl rfl (Nat.le_of_ble_eq_true rfl) (by decide) (by decide) (by decide) (by decide)) rfl rfl rfl (fun w9 u9 hp9 => ?_)
        obtain ⟨rfl, rfl⟩ := hp9
        by_cases hd2 : isd (hr tx (po + 1))
        · rw [if_pos hd2]
          have e9 := dgt_2 (t := tx) (m := z + 1) (s := (false, po)) ⟨rfl, hd⟩ ⟨by omega, hd2⟩
          change V X 0 0 ([(s, .inr (5, [.ref t, .ref nq, .int (nI ct), .int (nI (po + 1)), .int (nI co)])), (nq, .inl (cy 0, aN 3 nb)), (t, .inr (1, [.ref q, .int (nI 0), .int (nI ml), .int (nI c)])), (q, .inl (cy 2, aN m g))]) [some (.ref s), some (.int (nI z)), some (.int (nI (hr tx po - 48))), none] [.int (nI (hr tx (po + 1) - 48))] 29
          refine r_goto (tgt := 33) hX dX3_takesNumber_29 (by decide) ?_
          refine r_istore_n (L' := [some (.ref s), some (.int (nI z)), some (.int (nI (hr tx po - 48))), some (.int (nI (hr tx (po + 1) - 48)))]) (pc' := 34) hX dX3_takesNumber_33 (nlt hnL (by decide)) rfl rfl rfl ?_
          refine r_iload_n (pc' := 35) hX dX3_takesNumber_34 rfl rfl ?_
          refine r_if_lt_N (tgt := 55) (pc' := 38) hX dX3_takesNumber_35 (by decide) rfl (by omega) (fun c35 => ?_) (fun c35 => ?_)
          · exact absurd c35 (by omega)
          · refine r_bipush (pc' := 40) (v := nI 10) hX dX3_takesNumber_38 rfl rfl ?_
            refine r_iload_n (pc' := 41) hX dX3_takesNumber_40 rfl rfl ?_
            refine r_imul_N (pc' := 42) hX dX3_takesNumber_41  rfl ?_
            refine r_iload_n (pc' := 43) hX dX3_takesNumber_42 rfl rfl ?_
            refine r_iadd_N (pc' := 44) hX dX3_takesNumber_43  rfl ?_
            refine r_istore_n (L' := [some (.ref s), some (.int (nI z)), some (.int (nI ((10 * (hr tx po - 48)) + (hr tx (po + 1) - 48)))), some (.int (nI (hr tx (po + 1) - 48)))]) (pc' := 45) hX dX3_takesNumber_44 (nlt hnL (by decide)) rfl rfl rfl ?_
            refine r_aload_n (pc' := 46) hX dX3_takesNumber_45 rfl rfl ?_
            refine r_dup (pc' := 47) hX dX3_takesNumber_46 rfl rfl ?_
            refine r_get (pc' := 50) (v := .int (nI (po + 1))) hX dX3_takesNumber_47 f_X3_26 0 rfl rfl rfl ?_
            refine r_iconst (pc' := 51) (v := nI 1) hX dX3_takesNumber_50 rfl rfl ?_
            refine r_iadd_N (pc' := 52) hX dX3_takesNumber_51  rfl ?_
            refine r_put (ws' := [(s, .inr (5, [.ref t, .ref nq, .int (nI ct), .int (nI ((po + 1) + 1)), .int (nI co)])), (nq, .inl (cy 0, aN 3 nb)), (t, .inr (1, [.ref q, .int (nI 0), .int (nI ml), .int (nI c)])), (q, .inl (cy 2, aN m g))]) (pc' := 55) hX dX3_takesNumber_52 f_X3_26 fw_X3_3 0 rfl rfl rfl (Nat.le_of_ble_eq_true rfl) rfl rfl ?_
            refine r_aload_n (pc' := 56) hX dX3_takesNumber_55 rfl rfl ?_
            refine r_get (pc' := 59) (v := .int (nI ct)) hX dX3_takesNumber_56 f_X3_22 0 rfl rfl rfl ?_
            refine r_aload_n (pc' := 60) hX dX3_takesNumber_59 rfl rfl ?_
            refine r_get (pc' := 63) (v := .ref nq) hX dX3_takesNumber_60 f_X3_18 0 rfl rfl rfl ?_
            refine r_alenN (n0 := 3) (pc' := 64) hX dX3_takesNumber_63 0 (by rw [hcy]; rfl) 1 rfl rfl ?_
            refine r_icmp_ge_N (tgt := 87) (pc' := 67) hX dX3_takesNumber_64 (by decide) rfl (by omega) (by omega) (fun c64 => ?_) (fun c64 => ?_)
            · refine r_iconst (pc' := 88) (v := nI 1) hX dX3_takesNumber_87 rfl rfl ?_
              exact r_zreturn hX hE dX3_takesNumber_88 rfl rfl ⟨rB1 (by rw [e9]), _, _, by rw [e9]; rfl, fun _ q => absurd q (by omega)⟩ (by decide) (by decide)
            · refine r_aload_n (pc' := 68) hX dX3_takesNumber_67 rfl rfl ?_
              refine r_get (pc' := 71) (v := .ref nq) hX dX3_takesNumber_68 f_X3_18 0 rfl rfl rfl ?_
              refine r_aload_n (pc' := 72) hX dX3_takesNumber_71 rfl rfl ?_
              refine r_get (pc' := 75) (v := .int (nI ct)) hX dX3_takesNumber_72 f_X3_22 0 rfl rfl rfl ?_
              refine r_iload_n (pc' := 76) hX dX3_takesNumber_75 rfl rfl ?_
              refine r_iast_N (ws' := [(s, .inr (5, [.ref t, .ref nq, .int (nI ct), .int (nI ((po + 1) + 1)), .int (nI co)])), (nq, .inl (cy 0, aN 3 (up1 nb ct ((10 * (hr tx po - 48)) + (hr tx (po + 1) - 48))))), (t, .inr (1, [.ref q, .int (nI 0), .int (nI ml), .int (nI c)])), (q, .inl (cy 2, aN m g))]) (pc' := 77) hX dX3_takesNumber_76 (by rw [hcy]) 1 rfl (by omega) (by decide) rfl rfl ?_
              refine r_aload_n (pc' := 78) hX dX3_takesNumber_77 rfl rfl ?_
              refine r_dup (pc' := 79) hX dX3_takesNumber_78 rfl rfl ?_
              refine r_get (pc' := 82) (v := .int (nI ct)) hX dX3_takesNumber_79 f_X3_22 0 rfl rfl rfl ?_
              refine r_iconst (pc' := 83) (v := nI 1) hX dX3_takesNumber_82 rfl rfl ?_
              refine r_iadd_N (pc' := 84) hX dX3_takesNumber_83  rfl ?_
              refine r_put (ws' := [(s, .inr (5, [.ref t, .ref nq, .int (nI (ct + 1)), .int (nI ((po + 1) + 1)), .int (nI co)])), (nq, .inl (cy 0, aN 3 (up1 nb ct ((10 * (hr tx po - 48)) + (hr tx (po + 1) - 48))))), (t, .inr (1, [.ref q, .int (nI 0), .int (nI ml), .int (nI c)])), (q, .inl (cy 2, aN m g))]) (pc' := 87) hX dX3_takesNumber_84 f_X3_22 fw_X3_2 0 rfl rfl rfl (Nat.le_of_ble_eq_true rfl) rfl rfl ?_
              refine r_iconst (pc' := 88) (v := nI 1) hX dX3_takesNumber_87 rfl rfl ?_
              exact r_zreturn hX hE dX3_takesNumber_88 rfl rfl ⟨rB1 (by rw [e9]), _, _, by rw [e9]; rfl, fun _ _ => ⟨rfl, by rw [e9]⟩⟩ (by decide) (by decide)
        · rw [if_neg hd2]
          have e9 := dgt_1 (t := tx) (m := z + 1) (s := (false, po)) ⟨rfl, hd⟩ (fun q => hd2 q.2)
          change V X 0 0 ([(s, .inr (5, [.ref t, .ref nq, .int (nI ct), .int (nI (po + 1)), .int (nI co)])), (nq, .inl (cy 0, aN 3 nb)), (t, .inr (1, [.ref q, .int (nI 0), .int (nI ml), .int (nI c)])), (q, .inl (cy 2, aN m g))]) [some (.ref s), some (.int (nI z)), some (.int (nI (hr tx po - 48))), none] [.int (-1)] 29
          refine r_goto (tgt := 33) hX dX3_takesNumber_29 (by decide) ?_
          refine r_istore_n (L' := [some (.ref s), some (.int (nI z)), some (.int (nI (hr tx po - 48))), some (.int (-1))]) (pc' := 34) hX dX3_takesNumber_33 (nlt hnL (by decide)) rfl rfl rfl ?_
          refine r_iload_n (pc' := 35) hX dX3_takesNumber_34 rfl rfl ?_
          refine r_if_lt_I (tgt := 55) (pc' := 38) hX dX3_takesNumber_35 (by decide) rfl (by decide : (-1 : Int32).toInt = -1) (fun c35 => ?_) (fun c35 => ?_)
          · refine r_aload_n (pc' := 56) hX dX3_takesNumber_55 rfl rfl ?_
            refine r_get (pc' := 59) (v := .int (nI ct)) hX dX3_takesNumber_56 f_X3_22 0 rfl rfl rfl ?_
            refine r_aload_n (pc' := 60) hX dX3_takesNumber_59 rfl rfl ?_
            refine r_get (pc' := 63) (v := .ref nq) hX dX3_takesNumber_60 f_X3_18 0 rfl rfl rfl ?_
            refine r_alenN (n0 := 3) (pc' := 64) hX dX3_takesNumber_63 0 (by rw [hcy]; rfl) 1 rfl rfl ?_
            refine r_icmp_ge_N (tgt := 87) (pc' := 67) hX dX3_takesNumber_64 (by decide) rfl (by omega) (by omega) (fun c64 => ?_) (fun c64 => ?_)
            · refine r_iconst (pc' := 88) (v := nI 1) hX dX3_takesNumber_87 rfl rfl ?_
              exact r_zreturn hX hE dX3_takesNumber_88 rfl rfl ⟨rB1 (by rw [e9]), _, _, by rw [e9]; rfl, fun _ q => absurd q (by omega)⟩ (by decide) (by decide)
            · refine r_aload_n (pc' := 68) hX dX3_takesNumber_67 rfl rfl ?_
              refine r_get (pc' := 71) (v := .ref nq) hX dX3_takesNumber_68 f_X3_18 0 rfl rfl rfl ?_
              refine r_aload_n (pc' := 72) hX dX3_takesNumber_71 rfl rfl ?_
              refine r_get (pc' := 75) (v := .int (nI ct)) hX dX3_takesNumber_72 f_X3_22 0 rfl rfl rfl ?_
              refine r_iload_n (pc' := 76) hX dX3_takesNumber_75 rfl rfl ?_
              refine r_iast_N (ws' := [(s, .inr (5, [.ref t, .ref nq, .int (nI ct), .int (nI (po + 1)), .int (nI co)])), (nq, .inl (cy 0, aN 3 (up1 nb ct (hr tx po - 48)))), (t, .inr (1, [.ref q, .int (nI 0), .int (nI ml), .int (nI c)])), (q, .inl (cy 2, aN m g))]) (pc' := 77) hX dX3_takesNumber_76 (by rw [hcy]) 1 rfl (by omega) (by decide) rfl rfl ?_
              refine r_aload_n (pc' := 78) hX dX3_takesNumber_77 rfl rfl ?_
              refine r_dup (pc' := 79) hX dX3_takesNumber_78 rfl rfl ?_
              refine r_get (pc' := 82) (v := .int (nI ct)) hX dX3_takesNumber_79 f_X3_22 0 rfl rfl rfl ?_
              refine r_iconst (pc' := 83) (v := nI 1) hX dX3_takesNumber_82 rfl rfl ?_
              refine r_iadd_N (pc' := 84) hX dX3_takesNumber_83  rfl ?_
              refine r_put (ws' := [(s, .inr (5, [.ref t, .ref nq, .int (nI (ct + 1)), .int (nI (po + 1)), .int (nI co)])), (nq, .inl (cy 0, aN 3 (up1 nb ct (hr tx po - 48)))), (t, .inr (1, [.ref q, .int (nI 0), .int (nI ml), .int (nI c)])), (q, .inl (cy 2, aN m g))]) (pc' := 87) hX dX3_takesNumber_84 f_X3_22 fw_X3_2 0 rfl rfl rfl (Nat.le_of_ble_eq_true rfl) rfl rfl ?_
              refine r_iconst (pc' := 88) (v := nI 1) hX dX3_takesNumber_87 rfl rfl ?_
              exact r_zreturn hX hE dX3_takesNumber_88 rfl rfl ⟨rB1 (by rw [e9]), _, _, by rw [e9]; rfl, fun _ _ => ⟨rfl, by rw [e9]⟩⟩ (by decide) (by decide)
          · exact absurd c35 (by omega)
    · exact absurd c6 (by omega)
  · rw [if_neg hd]
    have e9 := dgt_bad (t := tx) (m := z + 1) (s := (false, po)) (fun q => hd q.2)
    change V X 0 0 ([(s, .inr (5, [.ref t, .ref nq, .int (nI ct), .int (nI po), .int (nI co)])), (nq, .inl (cy 0, aN 3 nb)), (t, .inr (1, [.ref q, .int (nI 0), .int (nI ml), .int (nI c)])), (q, .inl (cy 2, aN m g))]) [some (.ref s), some (.int (nI z)), none, none] [.int (-1)] 4
    refine r_istore_n (L' := [some (.ref s), some (.int (nI z)), some (.int (-1)), none]) (pc' := 5) hX dX3_takesNumber_4 (nlt hnL (by decide)) rfl rfl rfl ?_
    refine r_iload_n (pc' := 6) hX dX3_takesNumber_5 rfl rfl ?_
    refine r_if_ge_I (tgt := 11) (pc' := 9) hX dX3_takesNumber_6 (by decide) rfl (by decide : (-1 : Int32).toInt = -1) (fun c6 => ?_) (fun c6 => ?_)
    · exact absurd c6 (by omega)
    · refine r_iconst (pc' := 10) (v := nI 0) hX dX3_takesNumber_9 rfl rfl ?_
      exact r_zreturn hX hE dX3_takesNumber_10 rfl rfl ⟨rB0 (by rw [e9]; exact fun q => absurd (show true = false from q) (by decide)), _, _, by rw [e9]; rfl, fun q => by rw [e9] at q; exact absurd (show true = false from q) (by decide)⟩ (by decide) (by decide)
