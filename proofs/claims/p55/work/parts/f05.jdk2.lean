/-- what a StringBuilder's cells hold: the text t in the first c of m bytes -/
def SBp (m c : Nat) (g : Nat → Nat) (t : List Nat) : Prop := t.length = c ∧ LT g t ∧ c ≤ m ∧ m ≤ 150 ∧ ∀ i, i < m → g i < 128
theorem SBp.le {m c : Nat} {g : Nat → Nat} {t : List Nat} (h : SBp m c g t) : c ≤ m ∧ m ≤ 150 ∧ t.length = c := ⟨h.2.2.1, h.2.2.2.1, h.1⟩
theorem SBp.byte {m c : Nat} {g : Nat → Nat} {t : List Nat} (h : SBp m c g t) {i : Nat} (hi : i < m) : g i < 128 := h.2.2.2.2 i hi
theorem SBp.grow {m c z : Nat} {g : Nat → Nat} {t : List Nat} (h : SBp m c g t) (hz : m < z) (hz9 : z ≤ 150) : SBp z c (cpy g 0 (fun _ => 0) 0 (min m z)) t := by
  obtain ⟨h1, h2, h3, h4, h5⟩ := h
  refine ⟨h1, fun i hi => ?_, by omega, hz9, fun i hi => ?_⟩
  · unfold cpy
    rw [if_pos (by omega)]
    show g (0 + (i - 0)) = _
    rw [show 0 + (i - 0) = i by omega]
    exact h2 i hi
  · unfold cpy
    by_cases c0 : i < m
    · rw [if_pos (by omega), show 0 + (i - 0) = i by omega]; exact h5 i c0
    · rw [if_neg (by omega)]; show 0 < 128; decide
theorem SBp.push {m c x : Nat} {g : Nat → Nat} {t : List Nat} (h : SBp m c g t) (hc : c < m) (hx : x < 128) : SBp m (c + 1) (up1 g c x) (t ++ [x]) := by
  obtain ⟨h1, h2, h3, h4, h5⟩ := h
  refine ⟨by rw [List.length_append, h1]; rfl, LT_push h2 h1.symm, by omega, h4, fun i hi => ?_⟩
  unfold up1
  split
  · exact hx
  · exact h5 i hi
theorem er_perm {α : Type} : ∀ {l : List α} {i : Nat} {x : α}, l[i]? = some x → l.Perm (x :: l.eraseIdx i)
  | [], _, _, h => by cases h
  | a :: l, 0, x, h => by cases h; exact List.Perm.refl _
  | a :: l, i + 1, x, h => ((er_perm (l := l) (i := i) h).cons a).trans (List.Perm.swap x a _)
theorem perm2 {α : Type} {l l1 l2 : List α} {x y : α} (i j : Nat) (h1 : l[i]? = some x) (h2 : l.eraseIdx i = l1) (h3 : l1[j]? = some y) (h4 : l1.eraseIdx j = l2) : l.Perm (x :: y :: l2) := by
  subst h2 h4
  exact (er_perm h1).trans (List.Perm.cons _ (er_perm h3))
theorem cba_perm {α : Type} (x y z : α) : [x, y, z].Perm ([z, y] ++ [x]) := (List.reverse_perm [x, y, z]).symm
set_option maxRecDepth 20000 in
set_option maxHeartbeats 1000000 in
theorem cJ_ensure {l : Launch} {D : va_G} {cy : Nat → ClassId} {sa : Nat → Nat} {a q m ml c : Nat} {g : Nat → Nat} {t : List Nat} (h : SBp m c g t) {z : Nat} (hz9 : z ≤ 71) : MG l yJ5_ensureCapacityInternal_d00df cJ5_ensureCapacityInternal_d00df 3 none 3 1 150 (D, cy, sa) [.ref a, .int (nI z)] ((wSB cy a q m ml c g)) (fun w u => w = none ∧ ∃ (q1 m1 : Nat) (g1 : Nat → Nat), u = wSB cy a q1 m1 ml c g1 ∧ SBp m1 c g1 t ∧ z ≤ m1) := by
  refine MG_by (own := RJ5) (L := [some (.ref a), some (.int (nI z)), none]) (by decide +kernel) rfl rfl (Nat.le_of_ble_eq_true rfl) 1 rfl (fun X hX hE hnL hG hcy hnm => ?_)
  obtain ⟨e1, e2, e3⟩ := h.le
  refine r_aload_n (pc' := 1) hX dJ5_ensureCapacityInternal_d00df_0 rfl rfl ?_
  refine r_get (pc' := 4) (v := .ref q) hX dJ5_ensureCapacityInternal_d00df_1 f_J5_15 0 rfl rfl rfl ?_
  refine r_alenN (n0 := m) (pc' := 5) hX dJ5_ensureCapacityInternal_d00df_4 2 (by rw [hcy]; rfl) 1 rfl rfl ?_
  refine r_aload_n (pc' := 6) hX dJ5_ensureCapacityInternal_d00df_5 rfl rfl ?_
  refine r_get (pc' := 9) (v := .int (nI 0)) hX dJ5_ensureCapacityInternal_d00df_6 f_J5_22 0 rfl rfl rfl ?_
  refine r_ishr_0 (pc' := 10) hX dJ5_ensureCapacityInternal_d00df_9 rfl ?_
  refine r_istore_n (L' := [some (.ref a), some (.int (nI z)), some (.int (nI m))]) (pc' := 11) hX dJ5_ensureCapacityInternal_d00df_10 (nlt hnL (by decide)) rfl rfl rfl ?_
  refine r_iload_n (pc' := 12) hX dJ5_ensureCapacityInternal_d00df_11 rfl rfl ?_
  refine r_iload_n (pc' := 13) hX dJ5_ensureCapacityInternal_d00df_12 rfl rfl ?_
  refine r_isub (pc' := 14) hX dJ5_ensureCapacityInternal_d00df_13 rfl ?_
  refine r_if_le_I (tgt := 38) (pc' := 17) hX dJ5_ensureCapacityInternal_d00df_14 (by decide) rfl (pk_sub_toInt (by omega) (by omega)) (fun c14 => ?_) (fun c14 => ?_)
  · have hge : z ≤ m := by omega
    exact r_vreturn hX hE dJ5_ensureCapacityInternal_d00df_38 rfl ⟨rfl, _, _, _, rfl, h, hge⟩ (by decide) (by decide)
  · have hlt : m < z := by omega
    refine r_aload_n (pc' := 18) hX dJ5_ensureCapacityInternal_d00df_17 rfl rfl ?_
    refine r_aload_n (pc' := 19) hX dJ5_ensureCapacityInternal_d00df_18 rfl rfl ?_
    refine r_get (pc' := 22) (v := .ref q) hX dJ5_ensureCapacityInternal_d00df_19 f_J5_15 0 rfl rfl rfl ?_
    refine r_aload_n (pc' := 23) hX dJ5_ensureCapacityInternal_d00df_22 rfl rfl ?_
    refine r_iload_n (pc' := 24) hX dJ5_ensureCapacityInternal_d00df_23 rfl rfl ?_
    refine V_call0 (k' := 0) (n' := 0) (pc' := 27) hX (r_runP (As := [.int (nI z)]) hX dJ5_ensureCapacityInternal_d00df_24 kp_J5_104 (fun l9 hl9 => cJ_newCapacity (by omega) (by omega) (by omega)) hG ⟨1, _, TJ4, 4, List.mem_of_getElem? (l := ([(a, .inr (1, [.ref q, .int (nI 0), .int (nI ml), .int (nI c)])), (q, .inl (cy 2, aN m g))] : va_W)) (i := 0) rfl, rfl⟩ rfl rfl (Nat.le_of_ble_eq_true rfl) (by decide) (by decide) (by decide) (by decide)) rfl rfl rfl (fun w9 u9 hp9 => ?_)
    obtain ⟨rfl, rfl⟩ := hp9
    change V X 0 0 ([(a, .inr (1, [.ref q, .int (nI 0), .int (nI ml), .int (nI c)])), (q, .inl (cy 2, aN m g))]) [some (.ref a), some (.int (nI z)), some (.int (nI m))] [.int (nI (m + max (z - m) (m + 2))), .ref q, .ref a] 27
    refine r_aload_n (pc' := 28) hX dJ5_ensureCapacityInternal_d00df_27 rfl rfl ?_
    refine r_get (pc' := 31) (v := .int (nI 0)) hX dJ5_ensureCapacityInternal_d00df_28 f_J5_22 0 rfl rfl rfl ?_
    refine r_ishl_0 (pc' := 32) hX dJ5_ensureCapacityInternal_d00df_31 rfl ?_
    refine V_call (k' := 1) (n' := m + max (z - m) (m + 2)) (pc' := 35) (wr := [(a, .inr (1, [.ref q, .int (nI 0), .int (nI ml), .int (nI c)]))]) hX (r_runS (As := [.ref q, .int (nI (m + max (z - m) (m + 2)))]) hX dJ5_ensureCapacityInternal_d00df_32 k_J5_108 (fun l9 hl9 => cJ_copyOf (by omega) (by omega) (fun i hi => h.byte hi)) hG rfl rfl (Nat.le_of_ble_eq_true rfl) (by decide) (by decide) (by omega) (by omega)) (List.Perm.swap _ _ []) (by omega) (by omega) rfl (fun w9 u9 hp9 => ?_)
    obtain ⟨b9, rfl, rfl⟩ := hp9
    change V X 1 (m + max (z - m) (m + 2)) ([(q, .inl (cy 2, aN m g)), (b9, .inl (cy 2, aN (m + max (z - m) (m + 2)) (cpy g 0 (fun _ => 0) 0 (min m (m + max (z - m) (m + 2)))))), (a, .inr (1, [.ref q, .int (nI 0), .int (nI ml), .int (nI c)]))]) [some (.ref a), some (.int (nI z)), some (.int (nI m))] [.ref b9, .ref a] 35
    refine r_put (ws' := [(q, .inl (cy 2, aN m g)), (b9, .inl (cy 2, aN (m + max (z - m) (m + 2)) (cpy g 0 (fun _ => 0) 0 (min m (m + max (z - m) (m + 2)))))), (a, .inr (1, [.ref b9, .int (nI 0), .int (nI ml), .int (nI c)]))]) (pc' := 38) hX dJ5_ensureCapacityInternal_d00df_35 f_J5_15 fw_J4_0 2 rfl rfl rfl (Nat.le_of_ble_eq_true rfl) rfl rfl ?_
    refine V_perm (cba_perm _ _ _) (V_drop (a := [(a, .inr (1, [.ref b9, .int (nI 0), .int (nI ml), .int (nI c)])), (b9, .inl (cy 2, aN (m + max (z - m) (m + 2)) (cpy g 0 (fun _ => 0) 0 (min m (m + max (z - m) (m + 2))))))]) (b := [(q, .inl (cy 2, aN m g))]) ?_)
    exact r_vreturn hX hE dJ5_ensureCapacityInternal_d00df_38 rfl ⟨rfl, _, _, _, rfl, h.grow (by omega) (by omega), by omega⟩ (by omega) (by omega)

set_option maxRecDepth 20000 in
set_option maxHeartbeats 1000000 in
theorem cJ_appC5 {l : Launch} {D : va_G} {cy : Nat → ClassId} {sa : Nat → Nat} {a q m ml c : Nat} {g : Nat → Nat} {t : List Nat} (h : SBp m c g t) {x : Nat} (hx : x < 128) (hc : c < 70) : MG l yJ5_append_3fe6f cJ5_append_3fe6f 2 (some (.object "java/lang/AbstractStringBuilder")) 4 1 150 (D, cy, sa) [.ref a, .int (nI x)] ((wSB cy a q m ml c g)) (fun w u => w = some (.ref a) ∧ ∃ (q1 m1 : Nat) (g1 : Nat → Nat), u = wSB cy a q1 m1 ml (c + 1) g1 ∧ SBp m1 (c + 1) g1 (t ++ [x])) := by
  refine MG_by (own := RJ5) (L := [some (.ref a), some (.int (nI x))]) (by decide +kernel) rfl rfl (Nat.le_of_ble_eq_true rfl) 0 rfl (fun X hX hE hnL hG hcy hnm => ?_)
  obtain ⟨e1, e2, e3⟩ := h.le
  refine r_aload_n (pc' := 1) hX dJ5_append_3fe6f_0 rfl rfl ?_
  refine r_aload_n (pc' := 2) hX dJ5_append_3fe6f_1 rfl rfl ?_
  refine r_get (pc' := 5) (v := .int (nI c)) hX dJ5_append_3fe6f_2 f_J5_79 0 rfl rfl rfl ?_
  refine r_iconst (pc' := 6) (v := nI 1) hX dJ5_append_3fe6f_5 rfl rfl ?_
  refine r_iadd_N (pc' := 7) hX dJ5_append_3fe6f_6  rfl ?_
  refine V_call0 (k' := 1) (n' := 150) (pc' := 10) hX (r_runP (As := [.int (nI (c + 1))]) hX dJ5_append_3fe6f_7 kp_J5_100 (fun l9 hl9 => cJ_ensure (by assumption) (by omega)) hG ⟨1, _, TJ4, 4, List.mem_of_getElem? (l := ([(a, .inr (1, [.ref q, .int (nI 0), .int (nI ml), .int (nI c)])), (q, .inl (cy 2, aN m g))] : va_W)) (i := 0) rfl, rfl⟩ rfl rfl (Nat.le_of_ble_eq_true rfl) (by decide) (by decide) (by decide) (by decide)) rfl rfl rfl (fun w9 u9 hp9 => ?_)
  obtain ⟨rfl, q11, m11, g11, rfl, h1, z1⟩ := hp9
  change V X 1 150 ([(a, .inr (1, [.ref q11, .int (nI 0), .int (nI ml), .int (nI c)])), (q11, .inl (cy 2, aN m11 g11))]) [some (.ref a), some (.int (nI x))] [] 10
  obtain ⟨e11, e12, e13⟩ := h1.le
  refine r_aload_n (pc' := 11) hX dJ5_append_3fe6f_10 rfl rfl ?_
  refine V_call0 (k' := 1) (n' := 150) (pc' := 14) hX (r_runU (As := []) hX dJ5_append_3fe6f_11 ku_J5_83 (fun l9 hl9 => cJ_isLatin1) hG ⟨1, _, TJ4, 4, List.mem_of_getElem? (l := ([(a, .inr (1, [.ref q11, .int (nI 0), .int (nI ml), .int (nI c)])), (q11, .inl (cy 2, aN m11 g11))] : va_W)) (i := 0) rfl, rfl⟩ rfl rfl (Nat.le_of_ble_eq_true rfl) (by decide) (by decide) (by decide) (by decide)) rfl rfl rfl (fun w9 u9 hp9 => ?_)
  obtain ⟨rfl, rfl⟩ := hp9
  change V X 1 150 ([(a, .inr (1, [.ref q11, .int (nI 0), .int (nI ml), .int (nI c)])), (q11, .inl (cy 2, aN m11 g11))]) [some (.ref a), some (.int (nI x))] [.int (nI 1)] 14
  refine r_if_eq_N (tgt := 45) (pc' := 17) hX dJ5_append_3fe6f_14 (by decide) rfl (by omega) (fun c14 => ?_) (fun c14 => ?_)
  · exact absurd c14 (by omega)
  · refine r_iload_n (pc' := 18) hX dJ5_append_3fe6f_17 rfl rfl ?_
    refine V_calln (k' := 1) (n' := 150) (pc' := 21) hX (r_runS (As := [.int (nI x)]) hX dJ5_append_3fe6f_18 k_J5_191 (fun l9 hl9 => cJ_canEncode (by omega)) hG rfl rfl (Nat.le_of_ble_eq_true rfl) (by decide) (by decide) (by decide) (by decide)) rfl rfl rfl (fun w9 hp9 => ?_)
    obtain rfl := hp9
    change V X 1 150 ([(a, .inr (1, [.ref q11, .int (nI 0), .int (nI ml), .int (nI c)])), (q11, .inl (cy 2, aN m11 g11))]) [some (.ref a), some (.int (nI x))] [.int (nI 1)] 21
    refine r_if_eq_N (tgt := 45) (pc' := 24) hX dJ5_append_3fe6f_21 (by decide) rfl (by omega) (fun c21 => ?_) (fun c21 => ?_)
    · exact absurd c21 (by omega)
    · refine r_aload_n (pc' := 25) hX dJ5_append_3fe6f_24 rfl rfl ?_
      refine r_get (pc' := 28) (v := .ref q11) hX dJ5_append_3fe6f_25 f_J5_15 0 rfl rfl rfl ?_
      refine r_aload_n (pc' := 29) hX dJ5_append_3fe6f_28 rfl rfl ?_
      refine r_dup (pc' := 30) hX dJ5_append_3fe6f_29 rfl rfl ?_
      refine r_get (pc' := 33) (v := .int (nI c)) hX dJ5_append_3fe6f_30 f_J5_79 0 rfl rfl rfl ?_
      refine r_dup_x1 (pc' := 34) hX dJ5_append_3fe6f_33 rfl rfl rfl ?_
      refine r_iconst (pc' := 35) (v := nI 1) hX dJ5_append_3fe6f_34 rfl rfl ?_
      refine r_iadd_N (pc' := 36) hX dJ5_append_3fe6f_35  rfl ?_
      refine r_put (ws' := [(a, .inr (1, [.ref q11, .int (nI 0), .int (nI ml), .int (nI (c + 1))])), (q11, .inl (cy 2, aN m11 g11))]) (pc' := 39) hX dJ5_append_3fe6f_36 f_J5_79 fw_J4_3 0 rfl rfl rfl (Nat.le_of_ble_eq_true rfl) rfl rfl ?_
      refine r_iload_n (pc' := 40) hX dJ5_append_3fe6f_39 rfl rfl ?_
      refine r_i2b_N (pc' := 41) hX dJ5_append_3fe6f_40 (by omega) rfl ?_
      refine r_bast_N (ws' := [(a, .inr (1, [.ref q11, .int (nI 0), .int (nI ml), .int (nI (c + 1))])), (q11, .inl (cy 2, aN m11 (up1 g11 c x)))]) (pc' := 42) hX dJ5_append_3fe6f_41 (by rw [hcy]) 1 rfl (by omega) (by omega) (by omega) rfl rfl ?_
      refine r_goto (tgt := 75) hX dJ5_append_3fe6f_42 (by decide) ?_
      refine r_aload_n (pc' := 76) hX dJ5_append_3fe6f_75 rfl rfl ?_
      exact r_areturn hX hE dJ5_append_3fe6f_76 rfl (Or.inl ⟨_, rfl⟩) (Or.inr ⟨_, rfl⟩) ⟨rfl, _, _, _, rfl, h1.push (by omega) hx⟩ (by omega) (by omega)

set_option maxRecDepth 20000 in
set_option maxHeartbeats 1000000 in
theorem cJ_appC {l : Launch} {D : va_G} {cy : Nat → ClassId} {sa : Nat → Nat} {a q m ml c : Nat} {g : Nat → Nat} {t : List Nat} (h : SBp m c g t) {x : Nat} (hx : x < 128) (hc : c < 70) : MG l yJ4_append_cf468 cJ4_append_cf468 2 (some (.object "java/lang/StringBuilder")) 5 1 150 (D, cy, sa) [.ref a, .int (nI x)] ((wSB cy a q m ml c g)) (fun w u => w = some (.ref a) ∧ ∃ (q1 m1 : Nat) (g1 : Nat → Nat), u = wSB cy a q1 m1 ml (c + 1) g1 ∧ SBp m1 (c + 1) g1 (t ++ [x])) := by
  refine MG_by (own := RJ4) (L := [some (.ref a), some (.int (nI x))]) (by decide +kernel) rfl rfl (Nat.le_of_ble_eq_true rfl) 0 rfl (fun X hX hE hnL hG hcy hnm => ?_)
  refine r_aload_n (pc' := 1) hX dJ4_append_cf468_0 rfl rfl ?_
  refine r_iload_n (pc' := 2) hX dJ4_append_cf468_1 rfl rfl ?_
  refine V_call0 (k' := 1) (n' := 150) (pc' := 5) hX (r_runSU (As := [.int (nI x)]) hX dJ4_append_cf468_2 ksu_J4_50 (fun l9 hl9 => cJ_appC5 (by assumption) (by omega) (by omega)) hG ⟨1, _, TJ4, 4, List.mem_of_getElem? (l := ([(a, .inr (1, [.ref q, .int (nI 0), .int (nI ml), .int (nI c)])), (q, .inl (cy 2, aN m g))] : va_W)) (i := 0) rfl, rfl⟩ rfl rfl (Nat.le_of_ble_eq_true rfl) (by decide) (by decide) (by decide) (by decide)) rfl rfl rfl (fun w9 u9 hp9 => ?_)
  obtain ⟨rfl, q12, m12, g12, rfl, h2⟩ := hp9
  change V X 1 150 ([(a, .inr (1, [.ref q12, .int (nI 0), .int (nI ml), .int (nI (c + 1))])), (q12, .inl (cy 2, aN m12 g12))]) [some (.ref a), some (.int (nI x))] [.ref a] 5
  refine r_pop (pc' := 6) hX dJ4_append_cf468_5 rfl rfl ?_
  refine r_aload_n (pc' := 7) hX dJ4_append_cf468_6 rfl rfl ?_
  exact r_areturn hX hE dJ4_append_cf468_7 rfl (Or.inl ⟨_, rfl⟩) (Or.inr ⟨_, rfl⟩) ⟨rfl, _, _, _, rfl, h2⟩ (by omega) (by omega)
