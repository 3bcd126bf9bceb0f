/-! ===== a String made at run time ===== -/
def wHS (cy : Nat → ClassId) (s q n : Nat) (g : Nat → Nat) : va_W := [(s, .inr (0, [.ref q, .int (nI 0), .int (nI 0), .int (nI 0)])), (q, .inl (cy 2, aN n g))]
/-- what its bytes hold -/
def STp (n : Nat) (g : Nat → Nat) (t : List Nat) : Prop := t.length = n ∧ n ≤ 100 ∧ ∀ i, i < n → g i = t.getD i 0 ∧ t.getD i 0 < 128
set_option maxRecDepth 20000 in
set_option maxHeartbeats 1000000 in
theorem cH_coder {l : Launch} {D : va_G} {cy : Nat → ClassId} {sa : Nat → Nat} {s q n : Nat} {g : Nat → Nat} : MG l yJ0_coder_7d493 cJ0_coder_7d493 1 (some .byte) 0 0 0 (D, cy, sa) [.ref s] ((wHS cy s q n g)) (fun w u => w = some (.int (nI 0)) ∧ u = wHS cy s q n g) := by
  refine MG_by (own := RJ0) (L := [some (.ref s)]) (by decide +kernel) rfl rfl (Nat.le_of_ble_eq_true rfl) 0 rfl (fun X hX hE hnL hG hcy hnm => ?_)
  refine r_gets (pc' := 3) (C := "java/lang/String") (n1 := "COMPACT_STRINGS") (d1 := "Z") (v := .int (nI 1)) hX dJ0_coder_7d493_0 (by rw [hG]; exact fun _ _ _ z => z.1) (m4 (j := 1) rfl rfl) rfl ?_
  refine r_if_eq_N (tgt := 13) (pc' := 6) hX dJ0_coder_7d493_3 (by decide) rfl (by omega) (fun c3 => ?_) (fun c3 => ?_)
  · exact absurd c3 (by omega)
  · refine r_aload_n (pc' := 7) hX dJ0_coder_7d493_6 rfl rfl ?_
    refine r_get (pc' := 10) (v := .int (nI 0)) hX dJ0_coder_7d493_7 f_J0_15 0 rfl rfl rfl ?_
    refine r_goto (tgt := 14) hX dJ0_coder_7d493_10 (by decide) ?_
    exact r_zreturn hX hE dJ0_coder_7d493_14 rfl rfl ⟨rfl, rfl⟩ (by decide) (by decide)

set_option maxRecDepth 20000 in
set_option maxHeartbeats 1000000 in
theorem cH_lat {l : Launch} {D : va_G} {cy : Nat → ClassId} {sa : Nat → Nat} {s q n : Nat} {g : Nat → Nat} : MG l yJ0_isLatin1_aae02 cJ0_isLatin1_aae02 1 (some .boolean) 0 0 0 (D, cy, sa) [.ref s] ((wHS cy s q n g)) (fun w u => w = some (.int (nI 1)) ∧ u = wHS cy s q n g) := by
  refine MG_by (own := RJ0) (L := [some (.ref s)]) (by decide +kernel) rfl rfl (Nat.le_of_ble_eq_true rfl) 0 rfl (fun X hX hE hnL hG hcy hnm => ?_)
  refine r_gets (pc' := 3) (C := "java/lang/String") (n1 := "COMPACT_STRINGS") (d1 := "Z") (v := .int (nI 1)) hX dJ0_isLatin1_aae02_0 (by rw [hG]; exact fun _ _ _ z => z.1) (m4 (j := 1) rfl rfl) rfl ?_
  refine r_if_eq_N (tgt := 17) (pc' := 6) hX dJ0_isLatin1_aae02_3 (by decide) rfl (by omega) (fun c3 => ?_) (fun c3 => ?_)
  · exact absurd c3 (by omega)
  · refine r_aload_n (pc' := 7) hX dJ0_isLatin1_aae02_6 rfl rfl ?_
    refine r_get (pc' := 10) (v := .int (nI 0)) hX dJ0_isLatin1_aae02_7 f_J0_15 0 rfl rfl rfl ?_
    refine r_if_ne_N (tgt := 17) (pc' := 13) hX dJ0_isLatin1_aae02_10 (by decide) rfl (by omega) (fun c10 => ?_) (fun c10 => ?_)
    · exact absurd c10 (by omega)
    · refine r_iconst (pc' := 14) (v := nI 1) hX dJ0_isLatin1_aae02_13 rfl rfl ?_
      refine r_goto (tgt := 18) hX dJ0_isLatin1_aae02_14 (by decide) ?_
      exact r_zreturn hX hE dJ0_isLatin1_aae02_18 rfl rfl ⟨rfl, rfl⟩ (by decide) (by decide)

set_option maxRecDepth 20000 in
set_option maxHeartbeats 1000000 in
theorem cH_len {l : Launch} {D : va_G} {cy : Nat → ClassId} {sa : Nat → Nat} {s q n : Nat} {g : Nat → Nat} : MG l yJ0_length_8abf5 cJ0_length_8abf5 1 (some .int) 1 0 0 (D, cy, sa) [.ref s] ((wHS cy s q n g)) (fun w u => w = some (.int (nI n)) ∧ u = wHS cy s q n g) := by
  refine MG_by (own := RJ0) (L := [some (.ref s)]) (by decide +kernel) rfl rfl (Nat.le_of_ble_eq_true rfl) 0 rfl (fun X hX hE hnL hG hcy hnm => ?_)
  refine r_aload_n (pc' := 1) hX dJ0_length_8abf5_0 rfl rfl ?_
  refine r_get (pc' := 4) (v := .ref q) hX dJ0_length_8abf5_1 f_J0_9 0 rfl rfl rfl ?_
  refine r_alenN (n0 := n) (pc' := 5) hX dJ0_length_8abf5_4 2 (by rw [hcy]; rfl) 1 rfl rfl ?_
  refine r_aload_n (pc' := 6) hX dJ0_length_8abf5_5 rfl rfl ?_
  refine V_call0 (k' := 0) (n' := 0) (pc' := 9) hX (r_runV (As := []) hX dJ0_length_8abf5_6 k_J0_335 (fun l9 hl9 => cH_coder) hG ⟨0, _, TJ0, 4, List.mem_of_getElem? (l := ([(s, .inr (0, [.ref q, .int (nI 0), .int (nI 0), .int (nI 0)])), (q, .inl (cy 2, aN n g))] : va_W)) (i := 0) rfl, rfl⟩ rfl rfl (Nat.le_of_ble_eq_true rfl) (by decide) (by decide) (by decide) (by decide)) rfl rfl rfl (fun w9 u9 hp9 => ?_)
  obtain ⟨rfl, rfl⟩ := hp9
  change V X 0 0 ([(s, .inr (0, [.ref q, .int (nI 0), .int (nI 0), .int (nI 0)])), (q, .inl (cy 2, aN n g))]) [some (.ref s)] [.int (nI 0), .int (nI n)] 9
  refine r_ishr_0 (pc' := 10) hX dJ0_length_8abf5_9 rfl ?_
  exact r_ireturn hX hE dJ0_length_8abf5_10 rfl ⟨rfl, rfl⟩ (by decide) (by decide)

set_option maxRecDepth 20000 in
set_option maxHeartbeats 1000000 in
theorem cH_at1 {l : Launch} {D : va_G} {cy : Nat → ClassId} {sa : Nat → Nat} {q n j : Nat} {g : Nat → Nat} (hj : j < n) (hn : n ≤ 100) (hb : g j < 128) : MG l yJ1_charAt_3b067 cJ1_charAt_3b067 2 (some .char) 2 0 0 (D, cy, sa) [.ref q, .int (nI j)] ([(q, .inl (cy 2, aN n g))]) (fun w u => w = some (.int (nI (g j))) ∧ u = [(q, .inl (cy 2, aN n g))]) := by
  refine MG_by (own := RJ1) (L := [some (.ref q), some (.int (nI j))]) (by decide +kernel) rfl rfl (Nat.le_of_ble_eq_true rfl) 0 rfl (fun X hX hE hnL hG hcy hnm => ?_)
  refine r_iload_n (pc' := 1) hX dJ1_charAt_3b067_0 rfl rfl ?_
  refine r_aload_n (pc' := 2) hX dJ1_charAt_3b067_1 rfl rfl ?_
  refine r_alenN (n0 := n) (pc' := 3) hX dJ1_charAt_3b067_2 2 (by rw [hcy]; rfl) 0 rfl rfl ?_
  refine V_calln (k' := 0) (n' := 0) (pc' := 6) hX (r_runS (As := [.int (nI j), .int (nI n)]) hX dJ1_charAt_3b067_3 k_J1_9 (fun l9 hl9 => cJ_chk (by omega) (by omega)) hG rfl rfl (Nat.le_of_ble_eq_true rfl) (by decide) (by decide) (by decide) (by decide)) rfl rfl rfl (fun w9 hp9 => ?_)
  obtain rfl := hp9
  change V X 0 0 ([(q, .inl (cy 2, aN n g))]) [some (.ref q), some (.int (nI j))] [] 6
  refine r_aload_n (pc' := 7) hX dJ1_charAt_3b067_6 rfl rfl ?_
  refine r_iload_n (pc' := 8) hX dJ1_charAt_3b067_7 rfl rfl ?_
  refine r_bald_N (pc' := 9) hX dJ1_charAt_3b067_8 (by rw [hcy]) 0 rfl (by omega) (by omega) rfl ?_
  change V X 0 0 ([(q, .inl (cy 2, aN n g))]) [some (.ref q), some (.int (nI j))] [.int (nI (g j))] 9
  refine r_sipush (pc' := 12) (v := nI 255) hX dJ1_charAt_3b067_9 rfl rfl ?_
  refine r_iand_255 (pc' := 13) hX dJ1_charAt_3b067_12 (by omega) rfl ?_
  refine r_i2c_N (pc' := 14) hX dJ1_charAt_3b067_13 (by omega) rfl ?_
  exact r_zreturn hX hE dJ1_charAt_3b067_14 rfl ((pk_charN (by omega)).1) ⟨rfl, rfl⟩ (by decide) (by decide)

set_option maxRecDepth 20000 in
set_option maxHeartbeats 1000000 in
theorem cH_at {l : Launch} {D : va_G} {cy : Nat → ClassId} {sa : Nat → Nat} {s q n : Nat} {g : Nat → Nat} {t : List Nat} (h : STp n g t) {j : Nat} (hj : j < n) : MG l yJ0_charAt_5068e cJ0_charAt_5068e 2 (some .char) 3 0 0 (D, cy, sa) [.ref s, .int (nI j)] ((wHS cy s q n g)) (fun w u => w = some (.int (nI (t.getD j 0))) ∧ u = wHS cy s q n g) := by
  refine MG_by (own := RJ0) (L := [some (.ref s), some (.int (nI j))]) (by decide +kernel) rfl rfl (Nat.le_of_ble_eq_true rfl) 0 rfl (fun X hX hE hnL hG hcy hnm => ?_)
  obtain ⟨e4, e5⟩ := h.2.2 j hj
  have hn9 := h.2.1
  have hgb : g j < 128 := by omega
  refine r_aload_n (pc' := 1) hX dJ0_charAt_5068e_0 rfl rfl ?_
  refine V_call0 (k' := 0) (n' := 0) (pc' := 4) hX (r_runV (As := []) hX dJ0_charAt_5068e_1 k_J0_492 (fun l9 hl9 => cH_lat) hG ⟨0, _, TJ0, 4, List.mem_of_getElem? (l := ([(s, .inr (0, [.ref q, .int (nI 0), .int (nI 0), .int (nI 0)])), (q, .inl (cy 2, aN n g))] : va_W)) (i := 0) rfl, rfl⟩ rfl rfl (Nat.le_of_ble_eq_true rfl) (by decide) (by decide) (by decide) (by decide)) rfl rfl rfl (fun w9 u9 hp9 => ?_)
  obtain ⟨rfl, rfl⟩ := hp9
  change V X 0 0 ([(s, .inr (0, [.ref q, .int (nI 0), .int (nI 0), .int (nI 0)])), (q, .inl (cy 2, aN n g))]) [some (.ref s), some (.int (nI j))] [.int (nI 1)] 4
  refine r_if_eq_N (tgt := 16) (pc' := 7) hX dJ0_charAt_5068e_4 (by decide) rfl (by omega) (fun c4 => ?_) (fun c4 => ?_)
  · exact absurd c4 (by omega)
  · refine r_aload_n (pc' := 8) hX dJ0_charAt_5068e_7 rfl rfl ?_
    refine r_get (pc' := 11) (v := .ref q) hX dJ0_charAt_5068e_8 f_J0_9 0 rfl rfl rfl ?_
    refine r_iload_n (pc' := 12) hX dJ0_charAt_5068e_11 rfl rfl ?_
    refine V_call (k' := 0) (n' := 0) (pc' := 15) (wr := [(s, .inr (0, [.ref q, .int (nI 0), .int (nI 0), .int (nI 0)]))]) hX (r_runS (As := [.ref q, .int (nI j)]) hX dJ0_charAt_5068e_12 k_J0_495 (fun l9 hl9 => cH_at1 (by omega) (by omega) (by omega)) hG rfl rfl (Nat.le_of_ble_eq_true rfl) (by decide) (by decide) (by decide) (by decide)) (List.Perm.swap _ _ []) rfl rfl rfl (fun w9 u9 hp9 => ?_)
    obtain ⟨rfl, rfl⟩ := hp9
    change V X 0 0 ([(q, .inl (cy 2, aN n g)), (s, .inr (0, [.ref q, .int (nI 0), .int (nI 0), .int (nI 0)]))]) [some (.ref s), some (.int (nI j))] [.int (nI (g j))] 15
    refine V_perm (List.Perm.swap _ _ []) ?_
    rw [e4]
    exact r_zreturn hX hE dJ0_charAt_5068e_15 rfl ((pk_charN (by omega)).1) ⟨rfl, rfl⟩ (by decide) (by decide)

set_option maxRecDepth 20000 in
set_option maxHeartbeats 1000000 in
theorem cT_val {l : Launch} {D : va_G} {cy : Nat → ClassId} {sa : Nat → Nat} {a q m ml c : Nat} {g : Nat → Nat} : MG l yJ5_getValue_6d5f1 cJ5_getValue_6d5f1 1 (some (.array .byte)) 0 0 0 (D, cy, sa) [.ref a] ((wSB cy a q m ml c g)) (fun w u => w = some (.ref q) ∧ u = wSB cy a q m ml c g) := by
  refine MG_by (own := RJ5) (L := [some (.ref a)]) (by decide +kernel) rfl rfl (Nat.le_of_ble_eq_true rfl) 0 rfl (fun X hX hE hnL hG hcy hnm => ?_)
  refine r_aload_n (pc' := 1) hX dJ5_getValue_6d5f1_0 rfl rfl ?_
  refine r_get (pc' := 4) (v := .ref q) hX dJ5_getValue_6d5f1_1 f_J5_15 0 rfl rfl rfl ?_
  exact r_areturn hX hE dJ5_getValue_6d5f1_4 rfl (Or.inr ⟨_, rfl⟩) (Or.inr ⟨_, rfl⟩) ⟨rfl, rfl⟩ (by decide) (by decide)

set_option maxRecDepth 20000 in
set_option maxHeartbeats 1000000 in
theorem cT_chkL {l : Launch} {D : va_G} {cy : Nat → ClassId} {sa : Nat → Nat} {x y : Nat} (h : x ≤ y) (hy : y < 1000) : MG l yJ7_checkLength_df160 cJ7_checkLength_df160 2 none 0 0 0 (D, cy, sa) [.int (nI x), .int (nI y)] ([]) (fun w u => w = none ∧ u = []) := by
  refine MG_by (own := RJ7) (L := [some (.int (nI x)), some (.int (nI y))]) (by decide +kernel) rfl rfl (Nat.le_of_ble_eq_true rfl) 0 rfl (fun X hX hE hnL hG hcy hnm => ?_)
  refine r_iload_n (pc' := 1) hX dJ7_checkLength_df160_0 rfl rfl ?_
  refine r_iload_n (pc' := 2) hX dJ7_checkLength_df160_1 rfl rfl ?_
  refine r_icmp_ge_N (tgt := 37) (pc' := 5) hX dJ7_checkLength_df160_2 (by decide) rfl (by omega) (by omega) (fun c2 => ?_) (fun c2 => ?_)
  · exact r_vreturn hX hE dJ7_checkLength_df160_37 rfl ⟨rfl, rfl⟩ (by decide) (by decide)
  · exact absurd c2 (by omega)

set_option maxRecDepth 20000 in
set_option maxHeartbeats 1000000 in
theorem cT_rngB {l : Launch} {D : va_G} {cy : Nat → ClassId} {sa : Nat → Nat} {q m c : Nat} {g : Nat → Nat} (hc : c ≤ m) (hm : m ≤ 150) (hb : ∀ i, i < m → g i < 128) : MG l yJ7_copyOfRangeByte_39247 cJ7_copyOfRangeByte_39247 5 (some (.array .byte)) 1 1 c (D, cy, sa) [.ref q, .int (nI 0), .int (nI c)] ([(q, .inl (cy 2, aN m g))]) (fun w u => ∃ (b : Nat) (g1 : Nat → Nat), w = some (.ref b) ∧ u = [(q, .inl (cy 2, aN m g)), (b, .inl (cy 2, aN c g1))] ∧ ∀ i, i < c → g1 i = g i) := by
  refine MG_by (own := RJ7) (L := [some (.ref q), some (.int (nI 0)), some (.int (nI c)), none, none]) (by decide +kernel) rfl rfl (Nat.le_of_ble_eq_true rfl) 2 rfl (fun X hX hE hnL hG hcy hnm => ?_)
  refine r_iload_n (pc' := 1) hX dJ7_copyOfRangeByte_39247_0 rfl rfl ?_
  refine r_iload_n (pc' := 2) hX dJ7_copyOfRangeByte_39247_1 rfl rfl ?_
  refine V_calln (k' := 0) (n' := 0) (pc' := 5) hX (r_runS (As := [.int (nI 0), .int (nI c)]) hX dJ7_copyOfRangeByte_39247_2 k_J7_343 (fun l9 hl9 => cT_chkL (by omega) (by omega)) hG rfl rfl (Nat.le_of_ble_eq_true rfl) (by decide) (by decide) (by omega) (by omega)) rfl rfl rfl (fun w9 hp9 => ?_)
  obtain rfl := hp9
  change V X 0 0 ([(q, .inl (cy 2, aN m g))]) [some (.ref q), some (.int (nI 0)), some (.int (nI c)), none, none] [] 5
  refine r_iload_n (pc' := 6) hX dJ7_copyOfRangeByte_39247_5 rfl rfl ?_
  refine r_iload_n (pc' := 7) hX dJ7_copyOfRangeByte_39247_6 rfl rfl ?_
  refine r_isub_N (pc' := 8) hX dJ7_copyOfRangeByte_39247_7 (by omega) rfl ?_
  refine r_istore_n (L' := [some (.ref q), some (.int (nI 0)), some (.int (nI c)), some (.int (nI (c - 0))), none]) (pc' := 9) hX dJ7_copyOfRangeByte_39247_8 (nlt hnL (by decide)) rfl rfl rfl ?_
  refine r_iload_n (pc' := 10) hX dJ7_copyOfRangeByte_39247_9 rfl rfl ?_
  refine r_newB (N := c - 0) (k' := 1) (n' := c - 0) (pc' := 12) hX dJ7_copyOfRangeByte_39247_10 hcy (by omega) (by omega) (by omega) (by omega) (by omega) rfl (fun q10 => ?_)
  change V X 1 (c - 0) ([(q, .inl (cy 2, aN m g)), (q10, .inl (cy 2, aN (c - 0) (fun _ => 0)))]) [some (.ref q), some (.int (nI 0)), some (.int (nI c)), some (.int (nI (c - 0))), none] [.ref q10] 12
  refine r_astore (L' := [some (.ref q), some (.int (nI 0)), some (.int (nI c)), some (.int (nI (c - 0))), some (.ref q10)]) (pc' := 14) hX dJ7_copyOfRangeByte_39247_12 (nlt hnL (by decide)) rfl rfl rfl ?_
  refine r_aload_n (pc' := 15) hX dJ7_copyOfRangeByte_39247_14 rfl rfl ?_
  refine r_iload_n (pc' := 16) hX dJ7_copyOfRangeByte_39247_15 rfl rfl ?_
  refine r_aload (pc' := 18) hX dJ7_copyOfRangeByte_39247_16 rfl rfl ?_
  refine r_iconst (pc' := 19) (v := nI 0) hX dJ7_copyOfRangeByte_39247_18 rfl rfl ?_
  refine r_aload_n (pc' := 20) hX dJ7_copyOfRangeByte_39247_19 rfl rfl ?_
  refine r_alenN (n0 := m) (pc' := 21) hX dJ7_copyOfRangeByte_39247_20 2 (by rw [hcy]; rfl) 0 rfl rfl ?_
  refine r_iload_n (pc' := 22) hX dJ7_copyOfRangeByte_39247_21 rfl rfl ?_
  refine r_isub_N (pc' := 23) hX dJ7_copyOfRangeByte_39247_22 (by omega) rfl ?_
  refine r_iload_n (pc' := 24) hX dJ7_copyOfRangeByte_39247_23 rfl rfl ?_
  refine r_mmin (pc' := 27) hX dJ7_copyOfRangeByte_39247_24 k_J7_304 (by omega) (by omega) rfl (Nat.le_of_ble_eq_true rfl) (by decide) (by omega) (by omega) ?_
  refine r_acopy (q0 := 0) (q1 := 1) (t0 := 2) (ws' := [(q, .inl (cy 2, aN m g)), (q10, .inl (cy 2, aN (c - 0) (cpy g 0 (fun _ => 0) 0 (min (m - 0) (c - 0)))))]) (pc' := 30) hX dJ7_copyOfRangeByte_39247_27 (m4 (j := 128) rfl rfl) (by rw [hcy]; rfl) rfl rfl rfl (by omega) (by omega) (by omega) (by omega) (fun i9 h9 => fit_b (hb _ (by omega))) (by decide) (Nat.le_of_ble_eq_true rfl) rfl rfl ?_
  refine r_aload (pc' := 32) hX dJ7_copyOfRangeByte_39247_30 rfl rfl ?_
  exact r_areturn hX hE dJ7_copyOfRangeByte_39247_32 rfl (Or.inr ⟨_, rfl⟩) (Or.inr ⟨_, rfl⟩) ⟨_, _, rfl, rfl, fun i hi => cpy_00 (by omega)⟩ (by omega) (by omega)

set_option maxRecDepth 20000 in
set_option maxHeartbeats 1000000 in
theorem cT_rng {l : Launch} {D : va_G} {cy : Nat → ClassId} {sa : Nat → Nat} {q m c : Nat} {g : Nat → Nat} (hc : c ≤ m) (hm : m ≤ 150) (hb : ∀ i, i < m → g i < 128) : MG l yJ7_copyOfRange_39247 cJ7_copyOfRange_39247 3 (some (.array .byte)) 2 1 c (D, cy, sa) [.ref q, .int (nI 0), .int (nI c)] ([(q, .inl (cy 2, aN m g))]) (fun w u => ∃ (b : Nat) (g1 : Nat → Nat), w = some (.ref b) ∧ u = [(q, .inl (cy 2, aN m g)), (b, .inl (cy 2, aN c g1))] ∧ ∀ i, i < c → g1 i = g i) := by
  refine MG_by (own := RJ7) (L := [some (.ref q), some (.int (nI 0)), some (.int (nI c))]) (by decide +kernel) rfl rfl (Nat.le_of_ble_eq_true rfl) 0 rfl (fun X hX hE hnL hG hcy hnm => ?_)
  refine r_iload_n (pc' := 1) hX dJ7_copyOfRange_39247_0 rfl rfl ?_
  refine r_if_ne_N (tgt := 10) (pc' := 4) hX dJ7_copyOfRange_39247_1 (by decide) rfl (by omega) (fun c1 => ?_) (fun c1 => ?_)
  · exact absurd c1 (by omega)
  · refine r_iload_n (pc' := 5) hX dJ7_copyOfRange_39247_4 rfl rfl ?_
    refine r_aload_n (pc' := 6) hX dJ7_copyOfRange_39247_5 rfl rfl ?_
    refine r_alenN (n0 := m) (pc' := 7) hX dJ7_copyOfRange_39247_6 2 (by rw [hcy]; rfl) 0 rfl rfl ?_
    refine r_icmp_eq_N (tgt := 17) (pc' := 10) hX dJ7_copyOfRange_39247_7 (by decide) rfl (by omega) (by omega) (fun c7 => ?_) (fun c7 => ?_)
    · obtain rfl : c = m := by omega
      refine r_aload_n (pc' := 18) hX dJ7_copyOfRange_39247_17 rfl rfl ?_
      refine r_cloneB (k' := 0 + 1) (n' := 0 + c) (pc' := 21) hX dJ7_copyOfRange_39247_18 (m4 (j := 120) rfl rfl) (by rw [hcy]) 0 rfl (fun i hi => fit_b (hb i hi)) (by decide) (by decide) rfl rfl (by omega) (by omega) rfl (fun b9 => ?_)
      refine r_castB (pc' := 24) hX dJ7_copyOfRange_39247_21 (m4 (j := 126) rfl rfl) (by rw [hcy]) 1 rfl rfl ?_
      exact r_areturn hX hE dJ7_copyOfRange_39247_24 rfl (Or.inr ⟨_, rfl⟩) (Or.inr ⟨_, rfl⟩) ⟨_, _, rfl, rfl, fun i hi => rfl⟩ (by omega) (by omega)
    · refine r_aload_n (pc' := 11) hX dJ7_copyOfRange_39247_10 rfl rfl ?_
      refine r_iload_n (pc' := 12) hX dJ7_copyOfRange_39247_11 rfl rfl ?_
      refine r_iload_n (pc' := 13) hX dJ7_copyOfRange_39247_12 rfl rfl ?_
      refine V_call0 (k' := 1) (n' := c) (pc' := 16) hX (r_runS (As := [.ref q, .int (nI 0), .int (nI c)]) hX dJ7_copyOfRange_39247_13 k_J7_339 (fun l9 hl9 => cT_rngB hc hm hb) hG rfl rfl (Nat.le_of_ble_eq_true rfl) (by decide) (by decide) (by omega) (by omega)) (by omega) (by omega) rfl (fun w9 u9 hp9 => ?_)
      obtain ⟨b9, g9, rfl, rfl, hcp⟩ := hp9
      change V X 1 c ([(q, .inl (cy 2, aN m g)), (b9, .inl (cy 2, aN c g9))]) [some (.ref q), some (.int (nI 0)), some (.int (nI c))] [.ref b9] 16
      exact r_areturn hX hE dJ7_copyOfRange_39247_16 rfl (Or.inr ⟨_, rfl⟩) (Or.inr ⟨_, rfl⟩) ⟨_, _, rfl, rfl, hcp⟩ (by omega) (by omega)

set_option maxRecDepth 20000 in
set_option maxHeartbeats 1000000 in
theorem cT_new2 {l : Launch} {D : va_G} {cy : Nat → ClassId} {sa : Nat → Nat} {s a q m ml c : Nat} {g : Nat → Nat} {t : List Nat} (h : SBp m c g t) (hc : c ≤ 100) : MG l yJ0_init_db425 cJ0_init_db425 5 none 3 1 c (D, cy, sa) [.ref s, .ref a, .null] (([(s, .inr (0, [.null, .int (nI 0), .int (nI 0), .int (nI 0)]))] ++ wSB cy a q m ml c g)) (fun w u => w = none ∧ ∃ (q2 : Nat) (g2 : Nat → Nat), u = wHS cy s q2 c g2 ++ wSB cy a q m ml c g ∧ STp c g2 t) := by
  refine MG_by (own := RJ0) (L := [some (.ref s), some (.ref a), some (.null), none, none]) (by decide +kernel) rfl rfl (Nat.le_of_ble_eq_true rfl) 2 rfl (fun X hX hE hnL hG hcy hnm => ?_)
  obtain ⟨e1, e2, e3⟩ := h.le
  refine r_aload_n (pc' := 1) hX dJ0_init_db425_0 rfl rfl ?_
  refine r_objInit (pc' := 4) hX dJ0_init_db425_1 (m4 (j := 221) rfl rfl) (by decide) (Nat.le_of_ble_eq_true rfl) rfl ?_
  refine r_aload_n (pc' := 5) hX dJ0_init_db425_4 rfl rfl ?_
  refine V_call (k' := 0) (n' := 0) (pc' := 8) (wr := ([(s, .inr (0, [.null, .int (nI 0), .int (nI 0), .int (nI 0)]))] : va_W)) hX (r_runU (As := []) hX dJ0_init_db425_5 ku_J0_552 (fun l9 hl9 => cT_val) hG ⟨1, _, TJ4, 4, List.mem_cons_self, rfl⟩ rfl rfl (Nat.le_of_ble_eq_true rfl) (by decide) (by decide) (by omega) (by omega)) (perm2 1 1 rfl rfl rfl rfl) rfl rfl rfl (fun w9 u9 hp9 => ?_)
  obtain ⟨rfl, rfl⟩ := hp9
  change V X 0 0 ([(a, .inr (1, [.ref q, .int (nI 0), .int (nI ml), .int (nI c)])), (q, .inl (cy 2, aN m g)), (s, .inr (0, [.null, .int (nI 0), .int (nI 0), .int (nI 0)]))]) [some (.ref s), some (.ref a), some (.null), none, none] [.ref q] 8
  refine r_astore_n (L' := [some (.ref s), some (.ref a), some (.null), some (.ref q), none]) (pc' := 9) hX dJ0_init_db425_8 (nlt hnL (by decide)) rfl rfl rfl ?_
  refine r_aload_n (pc' := 10) hX dJ0_init_db425_9 rfl rfl ?_
  refine V_call (k' := 0) (n' := 0) (pc' := 13) (wr := ([(s, .inr (0, [.null, .int (nI 0), .int (nI 0), .int (nI 0)]))] : va_W)) hX (r_runO (As := []) hX dJ0_init_db425_10 ko_J0_549 (fun l9 hl9 => cJ_len) hG ⟨1, _, TJ4, 4, List.mem_cons_self, rfl⟩ rfl rfl (Nat.le_of_ble_eq_true rfl) (by decide) (by decide) (by omega) (by omega)) (perm2 0 0 rfl rfl rfl rfl) rfl rfl rfl (fun w9 u9 hp9 => ?_)
  obtain ⟨rfl, rfl⟩ := hp9
  change V X 0 0 ([(a, .inr (1, [.ref q, .int (nI 0), .int (nI ml), .int (nI c)])), (q, .inl (cy 2, aN m g)), (s, .inr (0, [.null, .int (nI 0), .int (nI 0), .int (nI 0)]))]) [some (.ref s), some (.ref a), some (.null), some (.ref q), none] [.int (nI c)] 13
  refine r_istore (L' := [some (.ref s), some (.ref a), some (.null), some (.ref q), some (.int (nI c))]) (pc' := 15) hX dJ0_init_db425_13 (nlt hnL (by decide)) rfl rfl rfl ?_
  refine r_aload_n (pc' := 16) hX dJ0_init_db425_15 rfl rfl ?_
  refine V_call (k' := 0) (n' := 0) (pc' := 19) (wr := ([(s, .inr (0, [.null, .int (nI 0), .int (nI 0), .int (nI 0)]))] : va_W)) hX (r_runU (As := []) hX dJ0_init_db425_16 ku_J0_1047 (fun l9 hl9 => cJ_isLatin1) hG ⟨1, _, TJ4, 4, List.mem_cons_self, rfl⟩ rfl rfl (Nat.le_of_ble_eq_true rfl) (by decide) (by decide) (by omega) (by omega)) (perm2 0 0 rfl rfl rfl rfl) rfl rfl rfl (fun w9 u9 hp9 => ?_)
  obtain ⟨rfl, rfl⟩ := hp9
  change V X 0 0 ([(a, .inr (1, [.ref q, .int (nI 0), .int (nI ml), .int (nI c)])), (q, .inl (cy 2, aN m g)), (s, .inr (0, [.null, .int (nI 0), .int (nI 0), .int (nI 0)]))]) [some (.ref s), some (.ref a), some (.null), some (.ref q), some (.int (nI c))] [.int (nI 1)] 19
  refine r_if_eq_N (tgt := 41) (pc' := 22) hX dJ0_init_db425_19 (by decide) rfl (by omega) (fun c19 => ?_) (fun c19 => ?_)
  · exact absurd c19 (by omega)
  · refine r_aload_n (pc' := 23) hX dJ0_init_db425_22 rfl rfl ?_
    refine r_iconst (pc' := 24) (v := nI 0) hX dJ0_init_db425_23 rfl rfl ?_
    refine r_putF (ws' := [(a, .inr (1, [.ref q, .int (nI 0), .int (nI ml), .int (nI c)])), (q, .inl (cy 2, aN m g)), (s, .inr (0, [.null, .int (nI 0), .int (nI 0), .int (nI 0)]))]) (pc' := 27) hX dJ0_init_db425_24 f_J0_15 fw_J0_1 hnm (fun C9 T9 N9 h9 => by cases h9; rfl) 2 rfl rfl rfl (Nat.le_of_ble_eq_true rfl) rfl rfl ?_
    refine r_aload_n (pc' := 28) hX dJ0_init_db425_27 rfl rfl ?_
    refine r_aload_n (pc' := 29) hX dJ0_init_db425_28 rfl rfl ?_
    refine r_iconst (pc' := 30) (v := nI 0) hX dJ0_init_db425_29 rfl rfl ?_
    refine r_iload (pc' := 32) hX dJ0_init_db425_30 rfl rfl ?_
    refine V_call (k' := 1) (n' := c) (pc' := 35) (wr := ([(a, .inr (1, [.ref q, .int (nI 0), .int (nI ml), .int (nI c)])), (s, .inr (0, [.null, .int (nI 0), .int (nI 0), .int (nI 0)]))] : va_W)) hX (r_runS (As := [.ref q, .int (nI 0), .int (nI c)]) hX dJ0_init_db425_32 k_J0_54 (fun l9 hl9 => cT_rng (by omega) (by omega) (fun i hi => h.byte hi)) hG rfl rfl (Nat.le_of_ble_eq_true rfl) (by decide) (by decide) (by omega) (by omega)) (er_perm (i := 1) rfl) (by omega) (by omega) rfl (fun w9 u9 hp9 => ?_)
    obtain ⟨b11, g911, rfl, rfl, hcp11⟩ := hp9
    change V X 1 c ([(q, .inl (cy 2, aN m g)), (b11, .inl (cy 2, aN c g911)), (a, .inr (1, [.ref q, .int (nI 0), .int (nI ml), .int (nI c)])), (s, .inr (0, [.null, .int (nI 0), .int (nI 0), .int (nI 0)]))]) [some (.ref s), some (.ref a), some (.null), some (.ref q), some (.int (nI c))] [.ref b11, .ref s] 35
    refine r_putF (ws' := [(q, .inl (cy 2, aN m g)), (b11, .inl (cy 2, aN c g911)), (a, .inr (1, [.ref q, .int (nI 0), .int (nI ml), .int (nI c)])), (s, .inr (0, [.ref b11, .int (nI 0), .int (nI 0), .int (nI 0)]))]) (pc' := 38) hX dJ0_init_db425_35 f_J0_9 fw_J0_0 hnm (fun C9 T9 N9 h9 => by cases h9; rfl) 3 rfl rfl rfl (Nat.le_of_ble_eq_true rfl) rfl rfl ?_
    refine r_goto (tgt := 97) hX dJ0_init_db425_38 (by decide) ?_
    refine V_perm (permI (n := 4) [3, 1, 2, 0] (by decide) rfl rfl) ?_
    change V X 1 c ([(s, .inr (0, [.ref b11, .int (nI 0), .int (nI 0), .int (nI 0)])), (b11, .inl (cy 2, aN c g911)), (a, .inr (1, [.ref q, .int (nI 0), .int (nI ml), .int (nI c)])), (q, .inl (cy 2, aN m g))]) [some (.ref s), some (.ref a), some (.null), some (.ref q), some (.int (nI c))] [] 97
    exact r_vreturn hX hE dJ0_init_db425_97 rfl ⟨rfl, _, _, rfl, e3, hc, fun i hi => by rw [hcp11 i hi]; exact h.at hi⟩ (by omega) (by omega)

set_option maxRecDepth 20000 in
set_option maxHeartbeats 1000000 in
theorem cT_new1 {l : Launch} {D : va_G} {cy : Nat → ClassId} {sa : Nat → Nat} {s a q m ml c : Nat} {g : Nat → Nat} {t : List Nat} (h : SBp m c g t) (hc : c ≤ 100) : MG l yJ0_init_81219 cJ0_init_81219 2 none 4 1 c (D, cy, sa) [.ref s, .ref a] (([(s, .inr (0, [.null, .int (nI 0), .int (nI 0), .int (nI 0)]))] ++ wSB cy a q m ml c g)) (fun w u => w = none ∧ ∃ (q2 : Nat) (g2 : Nat → Nat), u = wHS cy s q2 c g2 ++ wSB cy a q m ml c g ∧ STp c g2 t) := by
  refine MG_by (own := RJ0) (L := [some (.ref s), some (.ref a)]) (by decide +kernel) rfl rfl (Nat.le_of_ble_eq_true rfl) 0 rfl (fun X hX hE hnL hG hcy hnm => ?_)
  refine r_aload_n (pc' := 1) hX dJ0_init_81219_0 rfl rfl ?_
  refine r_aload_n (pc' := 2) hX dJ0_init_81219_1 rfl rfl ?_
  refine r_aconst_null (pc' := 3) hX dJ0_init_81219_2 rfl ?_
  refine V_call0 (k' := 1) (n' := c) (pc' := 6) hX (r_runI (ret := none) (As := [.ref a, .null]) hX dJ0_init_81219_3 k_J0_489 (fun l9 hl9 => cT_new2 h hc) hG rfl rfl (Nat.le_of_ble_eq_true rfl) (by decide) (by decide) (by omega) (by omega)) (by omega) (by omega) rfl (fun w9 u9 hp9 => ?_)
  obtain ⟨rfl, q2, g2, rfl, hst2⟩ := hp9
  change V X 1 c ([(s, .inr (0, [.ref q2, .int (nI 0), .int (nI 0), .int (nI 0)])), (q2, .inl (cy 2, aN c g2)), (a, .inr (1, [.ref q, .int (nI 0), .int (nI ml), .int (nI c)])), (q, .inl (cy 2, aN m g))]) [some (.ref s), some (.ref a)] [] 6
  exact r_vreturn hX hE dJ0_init_81219_6 rfl ⟨rfl, _, _, rfl, hst2⟩ (by omega) (by omega)

set_option maxRecDepth 20000 in
set_option maxHeartbeats 1000000 in
theorem cT_str {l : Launch} {D : va_G} {cy : Nat → ClassId} {sa : Nat → Nat} {a q m ml c : Nat} {g : Nat → Nat} {t : List Nat} (h : SBp m c g t) (hc : c ≤ 100) : MG l yJ4_toString_0e30d cJ4_toString_0e30d 1 (some (.object "java/lang/String")) 5 2 (4 + c) (D, cy, sa) [.ref a] ((wSB cy a q m ml c g)) (fun w u => ∃ (s q2 : Nat) (g2 : Nat → Nat), w = some (.ref s) ∧ u = wHS cy s q2 c g2 ++ wSB cy a q m ml c g ∧ STp c g2 t) := by
  refine MG_by (own := RJ4) (L := [some (.ref a)]) (by decide +kernel) rfl rfl (Nat.le_of_ble_eq_true rfl) 0 rfl (fun X hX hE hnL hG hcy hnm => ?_)
  refine r_new (k' := 1) (n' := 4) (pc' := 3) hX dJ4_toString_0e30d_0 cl_J4_18 rfl rfl (by omega) (by omega) rfl (fun q0 => ?_)
  change V X 1 4 ([(a, .inr (1, [.ref q, .int (nI 0), .int (nI ml), .int (nI c)])), (q, .inl (cy 2, aN m g)), (q0, .inr (0, [.null, .int (nI 0), .int (nI 0), .int (nI 0)]))]) [some (.ref a)] [.ref q0] 3
  refine r_dup (pc' := 4) hX dJ4_toString_0e30d_3 rfl rfl ?_
  refine r_aload_n (pc' := 5) hX dJ4_toString_0e30d_4 rfl rfl ?_
  refine V_call (k' := 1 + 1) (n' := 4 + c) (pc' := 8) (wr := []) hX (r_runI (ret := none) (As := [.ref a]) hX dJ4_toString_0e30d_5 k_J4_137 (fun l9 hl9 => cT_new1 h hc) hG rfl rfl (Nat.le_of_ble_eq_true rfl) (by decide) (by decide) (by omega) (by omega)) (permI (n := 3) [2, 0, 1] (by decide) rfl rfl) (by omega) (by omega) rfl (fun w9 u9 hp9 => ?_)
  obtain ⟨rfl, q2, g2, rfl, hst2⟩ := hp9
  change V X (1 + 1) (4 + c) ([(q0, .inr (0, [.ref q2, .int (nI 0), .int (nI 0), .int (nI 0)])), (q2, .inl (cy 2, aN c g2)), (a, .inr (1, [.ref q, .int (nI 0), .int (nI ml), .int (nI c)])), (q, .inl (cy 2, aN m g))]) [some (.ref a)] [.ref q0] 8
  exact r_areturn hX hE dJ4_toString_0e30d_8 rfl (Or.inl ⟨_, rfl⟩) (Or.inr ⟨_, rfl⟩) ⟨_, _, _, rfl, rfl, hst2⟩ (by omega) (by omega)
