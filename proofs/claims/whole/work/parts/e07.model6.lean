/-! ===== the model: its texts ===== -/
set_option maxRecDepth 20000 in
set_option maxHeartbeats 1000000 in
theorem cM_writes {l : Launch} {D : va_G} {cy : Nat → ClassId} {sa : Nat → Nat} {ma : Nat → Nat} {r : Nat → Nat} {e : Nat → Int32} {g bf hy sv bu le : Nat → Nat} {pa : Nat → Int32} {r0 : Nat → Nat} {t : List Nat} {c : Nat} (hT : TX r0 r le t) (h6 : t.length < 60) (hc : c < 256) : MG l yX6_writes cX6_writes 2 none 0 0 0 (D, cy, sa) [.ref (ma 0), .int (nI c)] (wM cy ma r e g bf hy sv bu le pa) (fun w u => w = none ∧ ∃ r9 l9 : Nat → Nat, u = wM cy ma r9 e g bf hy sv bu l9 pa ∧ TX r0 r9 l9 (t ++ [c])) := by
  have h3 := hT.2.1
  refine MG_by (own := RX6) (L := [some (.ref (ma 0)), some (.int (nI c))]) (by decide +kernel) rfl rfl (Nat.le_of_ble_eq_true rfl) 0 rfl (fun X hX hE hnL hG hcy hnm => ?_)
  refine r_aload_n (pc' := 1) hX dX6_writes_0 rfl rfl ?_
  refine r_get (pc' := 4) (v := .ref (ma 6)) hX dX6_writes_1 f_X6_33 0 rfl rfl rfl ?_
  refine r_aload_n (pc' := 5) hX dX6_writes_4 rfl rfl ?_
  refine r_get (pc' := 8) (v := .int (nI (r 3))) hX dX6_writes_5 f_X6_153 0 rfl rfl rfl ?_
  refine r_iload_n (pc' := 9) hX dX6_writes_8 rfl rfl ?_
  refine r_i2c_N (pc' := 10) hX dX6_writes_9 (by omega) rfl ?_
  refine r_cast_N (ws' := wM cy ma r e g bf hy sv bu (up1 le (r 3) c) pa) (pc' := 11) hX dX6_writes_10 (by rw [hcy]) 6 rfl (by omega) (by decide) (by omega) rfl rfl ?_
  refine r_aload_n (pc' := 12) hX dX6_writes_11 rfl rfl ?_
  refine r_dup (pc' := 13) hX dX6_writes_12 rfl rfl ?_
  refine r_get (pc' := 16) (v := .int (nI (r 3))) hX dX6_writes_13 f_X6_153 0 rfl rfl rfl ?_
  refine r_iconst (pc' := 17) (v := nI 1) hX dX6_writes_16 rfl rfl ?_
  refine r_iadd_N (pc' := 18) hX dX6_writes_17  rfl ?_
  refine r_put (ws' := wM cy ma (up1 r 3 ((r 3) + 1)) e g bf hy sv bu (up1 le (r 3) c) pa) (pc' := 21) hX dX6_writes_18 f_X6_153 fw_X6_11 0 rfl rfl rfl (Nat.le_of_ble_eq_true rfl) rfl rfl ?_
  exact r_vreturn hX hE dX6_writes_21 rfl ⟨rfl, _, _, rfl, TX_put hT⟩ (by decide) (by decide)

set_option maxRecDepth 20000 in
set_option maxHeartbeats 1000000 in
theorem cM_writesNumber {l : Launch} {D : va_G} {cy : Nat → ClassId} {sa : Nat → Nat} {ma : Nat → Nat} {r : Nat → Nat} {e : Nat → Int32} {g bf hy sv bu le : Nat → Nat} {pa : Nat → Int32} {r0 : Nat → Nat} {t : List Nat} {v : Nat} (hT : TX r0 r le t) (h6 : t.length + ndg v ≤ 60) (hv : v < 100000) : MG l yX6_writesNumber cX6_writesNumber 3 none 1 0 0 (D, cy, sa) [.ref (ma 0), .int (nI v)] (wM cy ma r e g bf hy sv bu le pa) (fun w u => w = none ∧ ∃ r9 l9 : Nat → Nat, u = wM cy ma r9 e g bf hy sv bu l9 pa ∧ TX r0 r9 l9 (t ++ dgs v)) := by
  refine MG_by (own := RX6) (L := [some (.ref (ma 0)), some (.int (nI v)), none]) (by decide +kernel) rfl rfl (Nat.le_of_ble_eq_true rfl) 1 rfl (fun X hX hE hnL hG hcy hnm => ?_)
  refine r_sipush (pc' := 3) (v := nI 10000) hX dX6_writesNumber_0 rfl rfl ?_
  refine r_istore_n (L' := [some (.ref (ma 0)), some (.int (nI v)), some (.int (nI 10000))]) (pc' := 4) hX dX6_writesNumber_3 (nlt hnL (by decide)) rfl rfl rfl ?_
  have loop4 : ∀ (n9 : Nat) (k : Nat), k < n9 → (1 ≤ k ∧ k ≤ 5) → (v < pw (k + 1)) → V X 0 0 (wM cy ma r e g bf hy sv bu le pa) [some (.ref (ma 0)), some (.int (nI v)), some (.int (nI (pw k)))] [] 4 := by
    intro n9
    induction n9 with
    | zero => intro k hm; exact absurd hm (Nat.not_lt_zero _)
    | succ n9 ih4 =>
      intro k hm hk hv2
      have hp9 := pw_le (k := k) (by omega)
      have hg9 := pw_gt (k := k) (by omega)
      refine r_iload_n (pc' := 5) hX dX6_writesNumber_4 rfl rfl ?_
      refine r_iconst (pc' := 6) (v := nI 1) hX dX6_writesNumber_5 rfl rfl ?_
      refine r_icmp_le_N (tgt := 22) (pc' := 9) hX dX6_writesNumber_6 (by decide) rfl (by omega) (by omega) (fun c6 => ?_) (fun c6 => ?_)
      · have loop22 : ∀ (n9 : Nat) (j : Nat) (r1 : Nat → Nat) (l1 : Nat → Nat) (t1 : List Nat), j < n9 → (j ≤ 5) → (TX r0 r1 l1 t1) → (t1.length + j ≤ 60) → (t1 ++ dgk v j = t ++ dgs v) → V X 0 0 (wM cy ma r1 e g bf hy sv bu l1 pa) [some (.ref (ma 0)), some (.int (nI v)), some (.int (nI (pw j)))] [] 22 := by
          intro n9
          induction n9 with
          | zero => intro j r1 l1 t1 hm; exact absurd hm (Nat.not_lt_zero _)
          | succ n9 ih22 =>
            intro j r1 l1 t1 hm hj hT1 hL he
            have hp8 := pw_le (k := j) (by omega)
            have hg8 := pw_gt (k := j) (by omega)
            have hd8 : v / pw j ≤ v := Nat.div_le_self _ _
            refine r_iload_n (pc' := 23) hX dX6_writesNumber_22 rfl rfl ?_
            refine r_if_le_N (tgt := 47) (pc' := 26) hX dX6_writesNumber_23 (by decide) rfl (by omega) (fun c23 => ?_) (fun c23 => ?_)
            · have hj0 : j = 0 := by omega
              subst hj0
              have he9 : t1 = t ++ dgs v := (List.append_nil t1).symm.trans he
              exact r_vreturn hX hE dX6_writesNumber_47 rfl ⟨rfl, _, _, rfl, by rw [← he9]; exact hT1⟩ (by decide) (by decide)
            · refine r_aload_n (pc' := 27) hX dX6_writesNumber_26 rfl rfl ?_
              refine r_bipush (pc' := 29) (v := nI 48) hX dX6_writesNumber_27 rfl rfl ?_
              refine r_iload_n (pc' := 30) hX dX6_writesNumber_29 rfl rfl ?_
              refine r_iload_n (pc' := 31) hX dX6_writesNumber_30 rfl rfl ?_
              refine r_idiv_N (pc' := 32) hX dX6_writesNumber_31 (by omega) (by omega) (by omega) rfl ?_
              refine r_bipush (pc' := 34) (v := nI 10) hX dX6_writesNumber_32 rfl rfl ?_
              refine r_irem_N (pc' := 35) hX dX6_writesNumber_34 (by omega) (by omega) (by omega) rfl ?_
              refine r_iadd_N (pc' := 36) hX dX6_writesNumber_35  rfl ?_
              refine V_call0 (k' := 0) (n' := 0) (pc' := 39) hX (r_runV (As := [.int (nI (48 + ((v / (pw j)) % 10)))]) hX dX6_writesNumber_36 k_X6_156 (fun l9 hl9 => cM_writes (r0 := r0) (t := t1) hT1 (by (try simp only [List.length_append, List.length_cons, List.length_nil, dgs_len]); omega) (by omega)) hG ⟨8, _, TX6, 16, List.mem_cons_self, rfl⟩ rfl rfl (Nat.le_of_ble_eq_true rfl) (by decide) (by decide) (by decide) (by decide)) rfl rfl rfl (fun w9 u9 hp9 => ?_)
              obtain ⟨rfl, ra1, la1, rfl, hU1⟩ := hp9
              change V X 0 0 (wM cy ma ra1 e g bf hy sv bu la1 pa) [some (.ref (ma 0)), some (.int (nI v)), some (.int (nI (pw j)))] [] 39
              refine r_iload_n (pc' := 40) hX dX6_writesNumber_39 rfl rfl ?_
              refine r_bipush (pc' := 42) (v := nI 10) hX dX6_writesNumber_40 rfl rfl ?_
              refine r_idiv_N (pc' := 43) hX dX6_writesNumber_42 (by omega) (by omega) (by omega) rfl ?_
              refine r_istore_n (L' := [some (.ref (ma 0)), some (.int (nI v)), some (.int (nI ((pw j) / 10)))]) (pc' := 44) hX dX6_writesNumber_43 (nlt hnL (by decide)) rfl rfl rfl ?_
              refine r_goto (tgt := 22) hX dX6_writesNumber_44 (by decide) ?_
              rw [pw_div (by omega)]
              exact ih22 (j - 1) ra1 la1 (t1 ++ [(48 + ((v / (pw j)) % 10))]) (by omega) (by omega) hU1 (by (try simp only [List.length_append, List.length_cons, List.length_nil, dgs_len]); omega) (by rw [List.append_assoc, List.singleton_append, ← dgk_s (by omega)]; exact he)
        exact loop22 _ k r le t (Nat.lt_succ_self _) (by omega) hT (by have q9 := (ndg_is (v := v) (k := k) (by omega) (by omega) hv2 (by first | exact Or.inr c11 | exact Or.inl (by omega))); omega) (by unfold dgs; rw [(ndg_is (v := v) (k := k) (by omega) (by omega) hv2 (by first | exact Or.inr c11 | exact Or.inl (by omega)))])
      · refine r_iload_n (pc' := 10) hX dX6_writesNumber_9 rfl rfl ?_
        refine r_iload_n (pc' := 11) hX dX6_writesNumber_10 rfl rfl ?_
        refine r_icmp_ge_N (tgt := 22) (pc' := 14) hX dX6_writesNumber_11 (by decide) rfl (by omega) (by omega) (fun c11 => ?_) (fun c11 => ?_)
        · have loop22 : ∀ (n9 : Nat) (j : Nat) (r1 : Nat → Nat) (l1 : Nat → Nat) (t1 : List Nat), j < n9 → (j ≤ 5) → (TX r0 r1 l1 t1) → (t1.length + j ≤ 60) → (t1 ++ dgk v j = t ++ dgs v) → V X 0 0 (wM cy ma r1 e g bf hy sv bu l1 pa) [some (.ref (ma 0)), some (.int (nI v)), some (.int (nI (pw j)))] [] 22 := by
            intro n9
            induction n9 with
            | zero => intro j r1 l1 t1 hm; exact absurd hm (Nat.not_lt_zero _)
            | succ n9 ih22 =>
              intro j r1 l1 t1 hm hj hT1 hL he
              have hp8 := pw_le (k := j) (by omega)
              have hg8 := pw_gt (k := j) (by omega)
              have hd8 : v / pw j ≤ v := Nat.div_le_self _ _
              refine r_iload_n (pc' := 23) hX dX6_writesNumber_22 rfl rfl ?_
              refine r_if_le_N (tgt := 47) (pc' := 26) hX dX6_writesNumber_23 (by decide) rfl (by omega) (fun c23 => ?_) (fun c23 => ?_)
              · have hj0 : j = 0 := by omega
                subst hj0
                have he9 : t1 = t ++ dgs v := (List.append_nil t1).symm.trans he
                exact r_vreturn hX hE dX6_writesNumber_47 rfl ⟨rfl, _, _, rfl, by rw [← he9]; exact hT1⟩ (by decide) (by decide)
              · refine r_aload_n (pc' := 27) hX dX6_writesNumber_26 rfl rfl ?_
                refine r_bipush (pc' := 29) (v := nI 48) hX dX6_writesNumber_27 rfl rfl ?_
                refine r_iload_n (pc' := 30) hX dX6_writesNumber_29 rfl rfl ?_
                refine r_iload_n (pc' := 31) hX dX6_writesNumber_30 rfl rfl ?_
                refine r_idiv_N (pc' := 32) hX dX6_writesNumber_31 (by omega) (by omega) (by omega) rfl ?_
                refine r_bipush (pc' := 34) (v := nI 10) hX dX6_writesNumber_32 rfl rfl ?_
                refine r_irem_N (pc' := 35) hX dX6_writesNumber_34 (by omega) (by omega) (by omega) rfl ?_
                refine r_iadd_N (pc' := 36) hX dX6_writesNumber_35  rfl ?_
                refine V_call0 (k' := 0) (n' := 0) (pc' := 39) hX (r_runV (As := [.int (nI (48 + ((v / (pw j)) % 10)))]) hX dX6_writesNumber_36 k_X6_156 (fun l9 hl9 => cM_writes (r0 := r0) (t := t1) hT1 (by (try simp only [List.length_append, List.length_cons, List.length_nil, dgs_len]); omega) (by omega)) hG ⟨8, _, TX6, 16, List.mem_cons_self, rfl⟩ rfl rfl (Nat.le_of_ble_eq_true rfl) (by decide) (by decide) (by decide) (by decide)) rfl rfl rfl (fun w9 u9 hp9 => ?_)
                obtain ⟨rfl, ra2, la2, rfl, hU2⟩ := hp9
                change V X 0 0 (wM cy ma ra2 e g bf hy sv bu la2 pa) [some (.ref (ma 0)), some (.int (nI v)), some (.int (nI (pw j)))] [] 39
                refine r_iload_n (pc' := 40) hX dX6_writesNumber_39 rfl rfl ?_
                refine r_bipush (pc' := 42) (v := nI 10) hX dX6_writesNumber_40 rfl rfl ?_
                refine r_idiv_N (pc' := 43) hX dX6_writesNumber_42 (by omega) (by omega) (by omega) rfl ?_
                refine r_istore_n (L' := [some (.ref (ma 0)), some (.int (nI v)), some (.int (nI ((pw j) / 10)))]) (pc' := 44) hX dX6_writesNumber_43 (nlt hnL (by decide)) rfl rfl rfl ?_
                refine r_goto (tgt := 22) hX dX6_writesNumber_44 (by decide) ?_
                rw [pw_div (by omega)]
                exact ih22 (j - 1) ra2 la2 (t1 ++ [(48 + ((v / (pw j)) % 10))]) (by omega) (by omega) hU2 (by (try simp only [List.length_append, List.length_cons, List.length_nil, dgs_len]); omega) (by rw [List.append_assoc, List.singleton_append, ← dgk_s (by omega)]; exact he)
          exact loop22 _ k r le t (Nat.lt_succ_self _) (by omega) hT (by have q9 := (ndg_is (v := v) (k := k) (by omega) (by omega) hv2 (by first | exact Or.inr c11 | exact Or.inl (by omega))); omega) (by unfold dgs; rw [(ndg_is (v := v) (k := k) (by omega) (by omega) hv2 (by first | exact Or.inr c11 | exact Or.inl (by omega)))])
        · refine r_iload_n (pc' := 15) hX dX6_writesNumber_14 rfl rfl ?_
          refine r_bipush (pc' := 17) (v := nI 10) hX dX6_writesNumber_15 rfl rfl ?_
          refine r_idiv_N (pc' := 18) hX dX6_writesNumber_17 (by omega) (by omega) (by omega) rfl ?_
          refine r_istore_n (L' := [some (.ref (ma 0)), some (.int (nI v)), some (.int (nI ((pw k) / 10)))]) (pc' := 19) hX dX6_writesNumber_18 (nlt hnL (by decide)) rfl rfl rfl ?_
          refine r_goto (tgt := 4) hX dX6_writesNumber_19 (by decide) ?_
          rw [pw_div (by omega)]
          exact ih4 (k - 1) (by omega) (by omega) (by rw [show k - 1 + 1 = k by omega]; exact c11)
  exact loop4 _ 5 (Nat.lt_succ_self _) (by omega) hv

set_option maxRecDepth 20000 in
set_option maxHeartbeats 1000000 in
theorem cMw_renderStore {l : Launch} {D : va_G} {cy : Nat → ClassId} {sa : Nat → Nat} {ma : Nat → Nat} {S : AS} {t : Nat} {ws : va_W} {v : SV} (hvS : v = S.1) (h : MS cy ma S t ws) (hv : Wf v)  : MG l yX6_renderStore cX6_renderStore 2 (some .int) 2 0 0 (D, cy, sa) [.ref (ma 0)] (ws) (fun w u => w = some (.int (nI (stT v (v 0 1)).length)) ∧ MS cy ma (aOut S (stT v (v 0 1))) 0 u) := by
  obtain ⟨r, e, g, bf, hy, sv, bu, le, pa, rfl, hM⟩ := h
  have hM0 := hM
  obtain ⟨h4, hR, h0, h8, hH, hS, hT, hO, hE⟩ := hM
  rw [← hvS] at hR
  have hv0 := hv
  obtain ⟨wa, wm, wb, ws, wt, wc, wB, wR, wL, wK, wP⟩ := hv
  refine MG_by (own := RX6) (L := [some (.ref (ma 0)), none]) (by decide +kernel) rfl rfl (Nat.le_of_ble_eq_true rfl) 1 rfl (fun X hX hE hnL hG hcy hnm => ?_)
  have k3 : ∀ j, j < 3 → v 3 j < 10000 := fun j hj => by have := wK j hj; omega
  have k4 : ∀ i, i < 4 → v 1 i < 100 ∧ v 2 i < 100 := fun i hi => by have := wL i hi; omega
  have k30 := k3 0 (by decide)
  have k31 := k3 1 (by decide)
  have k32 := k3 2 (by decide)
  have d30 := ndg_4 k30
  have d31 := ndg_4 k31
  have d32 := ndg_4 k32
  refine r_aload_n (pc' := 1) hX dX6_renderStore_0 rfl rfl ?_
  refine r_iconst (pc' := 2) (v := nI 0) hX dX6_renderStore_1 rfl rfl ?_
  refine r_put (ws' := wM cy ma (up1 r 3 0) e g bf hy sv bu le pa) (pc' := 5) hX dX6_renderStore_2 f_X6_153 fw_X6_11 0 rfl rfl rfl (Nat.le_of_ble_eq_true rfl) rfl rfl ?_
  have hT0 : TX r (up1 r 3 0) le [] := TX_0
  refine r_aload_n (pc' := 6) hX dX6_renderStore_5 rfl rfl ?_
  refine r_bipush (pc' := 8) (v := nI 99) hX dX6_renderStore_6 rfl rfl ?_
  refine V_call0 (k' := 0) (n' := 0) (pc' := 11) hX (r_runV (As := [.int (nI 99)]) hX dX6_renderStore_8 k_X6_156 (fun l9 hl9 => cM_writes (r0 := r) (t := ([])) hT0 (by (try simp only [List.length_append, List.length_cons, List.length_nil, dgs_len]); omega) (by omega)) hG ⟨8, _, TX6, 16, List.mem_cons_self, rfl⟩ rfl rfl (Nat.le_of_ble_eq_true rfl) (by decide) (by decide) (by decide) (by decide)) rfl rfl rfl (fun w9 u9 hp9 => ?_)
  obtain ⟨rfl, ra3, la3, rfl, hU3⟩ := hp9
  change V X 0 0 (wM cy ma ra3 e g bf hy sv bu la3 pa) [some (.ref (ma 0)), none] [] 11
  refine r_aload_n (pc' := 12) hX dX6_renderStore_11 rfl rfl ?_
  refine r_aload_n (pc' := 13) hX dX6_renderStore_12 rfl rfl ?_
  refine r_get (pc' := 16) (v := .ref (ma 1)) hX dX6_renderStore_13 f_X6_7 0 rfl rfl rfl ?_
  refine r_iconst (pc' := 17) (v := nI 0) hX dX6_renderStore_16 rfl rfl ?_
  refine r_iald_N (pc' := 18) hX dX6_renderStore_17 (by rw [hcy]) 1 rfl (by omega) (by decide) rfl ?_
  change V X 0 0 (wM cy ma ra3 e g bf hy sv bu la3 pa) [some (.ref (ma 0)), none] [.int (nI (g 0)), .ref (ma 0)] 18
  rw [(hR.stk (i := 0) (by decide))]
  refine V_call0 (k' := 0) (n' := 0) (pc' := 21) hX (r_runV (As := [.int (nI (v 3 0))]) hX dX6_renderStore_18 k_X6_159 (fun l9 hl9 => cM_writesNumber (r0 := r) (t := ([] ++ [99])) hU3 (by (try simp only [List.length_append, List.length_cons, List.length_nil, dgs_len]); omega) (by omega)) hG ⟨8, _, TX6, 16, List.mem_cons_self, rfl⟩ rfl rfl (Nat.le_of_ble_eq_true rfl) (by decide) (by decide) (by decide) (by decide)) rfl rfl rfl (fun w9 u9 hp9 => ?_)
  obtain ⟨rfl, ra4, la4, rfl, hU4⟩ := hp9
  change V X 0 0 (wM cy ma ra4 e g bf hy sv bu la4 pa) [some (.ref (ma 0)), none] [] 21
  refine r_aload_n (pc' := 22) hX dX6_renderStore_21 rfl rfl ?_
  refine r_bipush (pc' := 24) (v := nI 116) hX dX6_renderStore_22 rfl rfl ?_
  refine V_call0 (k' := 0) (n' := 0) (pc' := 27) hX (r_runV (As := [.int (nI 116)]) hX dX6_renderStore_24 k_X6_156 (fun l9 hl9 => cM_writes (r0 := r) (t := (([] ++ [99]) ++ dgs (v 3 0))) hU4 (by (try simp only [List.length_append, List.length_cons, List.length_nil, dgs_len]); omega) (by omega)) hG ⟨8, _, TX6, 16, List.mem_cons_self, rfl⟩ rfl rfl (Nat.le_of_ble_eq_true rfl) (by decide) (by decide) (by decide) (by decide)) rfl rfl rfl (fun w9 u9 hp9 => ?_)
  obtain ⟨rfl, ra5, la5, rfl, hU5⟩ := hp9
  change V X 0 0 (wM cy ma ra5 e g bf hy sv bu la5 pa) [some (.ref (ma 0)), none] [] 27
  refine r_aload_n (pc' := 28) hX dX6_renderStore_27 rfl rfl ?_
  refine r_aload_n (pc' := 29) hX dX6_renderStore_28 rfl rfl ?_
  refine r_get (pc' := 32) (v := .ref (ma 1)) hX dX6_renderStore_29 f_X6_7 0 rfl rfl rfl ?_
  refine r_iconst (pc' := 33) (v := nI 1) hX dX6_renderStore_32 rfl rfl ?_
  refine r_iald_N (pc' := 34) hX dX6_renderStore_33 (by rw [hcy]) 1 rfl (by omega) (by decide) rfl ?_
  change V X 0 0 (wM cy ma ra5 e g bf hy sv bu la5 pa) [some (.ref (ma 0)), none] [.int (nI (g 1)), .ref (ma 0)] 34
  rw [(hR.stk (i := 1) (by decide))]
  refine V_call0 (k' := 0) (n' := 0) (pc' := 37) hX (r_runV (As := [.int (nI (v 3 1))]) hX dX6_renderStore_34 k_X6_159 (fun l9 hl9 => cM_writesNumber (r0 := r) (t := ((([] ++ [99]) ++ dgs (v 3 0)) ++ [116])) hU5 (by (try simp only [List.length_append, List.length_cons, List.length_nil, dgs_len]); omega) (by omega)) hG ⟨8, _, TX6, 16, List.mem_cons_self, rfl⟩ rfl rfl (Nat.le_of_ble_eq_true rfl) (by decide) (by decide) (by decide) (by decide)) rfl rfl rfl (fun w9 u9 hp9 => ?_)
  obtain ⟨rfl, ra6, la6, rfl, hU6⟩ := hp9
  change V X 0 0 (wM cy ma ra6 e g bf hy sv bu la6 pa) [some (.ref (ma 0)), none] [] 37
  refine r_aload_n (pc' := 38) hX dX6_renderStore_37 rfl rfl ?_
  refine r_bipush (pc' := 40) (v := nI 115) hX dX6_renderStore_38 rfl rfl ?_
  refine V_call0 (k' := 0) (n' := 0) (pc' := 43) hX (r_runV (As := [.int (nI 115)]) hX dX6_renderStore_40 k_X6_156 (fun l9 hl9 => cM_writes (r0 := r) (t := (((([] ++ [99]) ++ dgs (v 3 0)) ++ [116]) ++ dgs (v 3 1))) hU6 (by (try simp only [List.length_append, List.length_cons, List.length_nil, dgs_len]); omega) (by omega)) hG ⟨8, _, TX6, 16, List.mem_cons_self, rfl⟩ rfl rfl (Nat.le_of_ble_eq_true rfl) (by decide) (by decide) (by decide) (by decide)) rfl rfl rfl (fun w9 u9 hp9 => ?_)
  obtain ⟨rfl, ra7, la7, rfl, hU7⟩ := hp9
  change V X 0 0 (wM cy ma ra7 e g bf hy sv bu la7 pa) [some (.ref (ma 0)), none] [] 43
  refine r_aload_n (pc' := 44) hX dX6_renderStore_43 rfl rfl ?_
  refine r_aload_n (pc' := 45) hX dX6_renderStore_44 rfl rfl ?_
  refine r_get (pc' := 48) (v := .ref (ma 1)) hX dX6_renderStore_45 f_X6_7 0 rfl rfl rfl ?_
  refine r_iconst (pc' := 49) (v := nI 2) hX dX6_renderStore_48 rfl rfl ?_
  refine r_iald_N (pc' := 50) hX dX6_renderStore_49 (by rw [hcy]) 1 rfl (by omega) (by decide) rfl ?_
  change V X 0 0 (wM cy ma ra7 e g bf hy sv bu la7 pa) [some (.ref (ma 0)), none] [.int (nI (g 2)), .ref (ma 0)] 50
  rw [(hR.stk (i := 2) (by decide))]
  refine V_call0 (k' := 0) (n' := 0) (pc' := 53) hX (r_runV (As := [.int (nI (v 3 2))]) hX dX6_renderStore_50 k_X6_159 (fun l9 hl9 => cM_writesNumber (r0 := r) (t := ((((([] ++ [99]) ++ dgs (v 3 0)) ++ [116]) ++ dgs (v 3 1)) ++ [115])) hU7 (by (try simp only [List.length_append, List.length_cons, List.length_nil, dgs_len]); omega) (by omega)) hG ⟨8, _, TX6, 16, List.mem_cons_self, rfl⟩ rfl rfl (Nat.le_of_ble_eq_true rfl) (by decide) (by decide) (by decide) (by decide)) rfl rfl rfl (fun w9 u9 hp9 => ?_)
  obtain ⟨rfl, ra8, la8, rfl, hU8⟩ := hp9
  change V X 0 0 (wM cy ma ra8 e g bf hy sv bu la8 pa) [some (.ref (ma 0)), none] [] 53
  refine r_iconst (pc' := 54) (v := nI 0) hX dX6_renderStore_53 rfl rfl ?_
  refine r_istore_n (L' := [some (.ref (ma 0)), some (.int (nI 0))]) (pc' := 55) hX dX6_renderStore_54 (nlt hnL (by decide)) rfl rfl rfl ?_
  have loop55 : ∀ (n9 : Nat) (i : Nat) (r1 : Nat → Nat) (l1 : Nat → Nat), v 0 1 - i < n9 → (i ≤ v 0 1) → (TX r r1 l1 (stT v i)) → V X 0 0 (wM cy ma r1 e g bf hy sv bu l1 pa) [some (.ref (ma 0)), some (.int (nI i))] [] 55 := by
    intro n9
    induction n9 with
    | zero => intro i r1 l1 hm; exact absurd hm (Nat.not_lt_zero _)
    | succ n9 ih55 =>
      intro i r1 l1 hm hi hT1
      have hl9 := stT_len k3 k4 i (by omega)
      refine r_iload_n (pc' := 56) hX dX6_renderStore_55 rfl rfl ?_
      refine r_aload_n (pc' := 57) hX dX6_renderStore_56 rfl rfl ?_
      refine r_get (pc' := 60) (v := .ref (ma 1)) hX dX6_renderStore_57 f_X6_7 0 rfl rfl rfl ?_
      refine r_bipush (pc' := 62) (v := nI 6) hX dX6_renderStore_60 rfl rfl ?_
      refine r_iald_N (pc' := 63) hX dX6_renderStore_62 (by rw [hcy]) 1 rfl (by omega) (by decide) rfl ?_
      change V X 0 0 (wM cy ma r1 e g bf hy sv bu l1 pa) [some (.ref (ma 0)), some (.int (nI i))] [.int (nI (g 6)), .int (nI i)] 63
      rw [hR.mou]
      refine r_icmp_ge_N (tgt := 110) (pc' := 66) hX dX6_renderStore_63 (by decide) rfl (by omega) (by omega) (fun c63 => ?_) (fun c63 => ?_)
      · refine r_aload_n (pc' := 111) hX dX6_renderStore_110 rfl rfl ?_
        refine r_aload_n (pc' := 112) hX dX6_renderStore_111 rfl rfl ?_
        refine r_get (pc' := 115) (v := .int (nI (r1 3))) hX dX6_renderStore_112 f_X6_153 0 rfl rfl rfl ?_
        refine V_call0 (k' := 0) (n' := 0) (pc' := 118) hX (r_runV (As := [.int (nI (r1 3))]) hX dX6_renderStore_115 k_X6_70 (fun l9 hl9 => cM_done) hG ⟨8, _, TX6, 16, List.mem_cons_self, rfl⟩ rfl rfl (Nat.le_of_ble_eq_true rfl) (by decide) (by decide) (by decide) (by decide)) rfl rfl rfl (fun w9 u9 hp9 => ?_)
        obtain ⟨rfl, rfl⟩ := hp9
        change V X 0 0 (wM cy ma (up1 r1 4 0) e g bf hy sv bu l1 pa) [some (.ref (ma 0)), some (.int (nI i))] [.int (nI (r1 3))] 118
        have hi9 : i = v 0 1 := by omega
        rw [hi9] at hT1 hl9
        exact r_ireturn hX hE dX6_renderStore_118 rfl ⟨rN hT1.2.1, MS_out hM0 hT1 (by omega)⟩ (by decide) (by decide)
      · obtain ⟨k41, k42⟩ := k4 i (by omega)
        have d41 := ndg_2 k41
        have d42 := ndg_2 k42
        refine r_aload_n (pc' := 67) hX dX6_renderStore_66 rfl rfl ?_
        refine r_bipush (pc' := 69) (v := nI 32) hX dX6_renderStore_67 rfl rfl ?_
        refine V_call0 (k' := 0) (n' := 0) (pc' := 72) hX (r_runV (As := [.int (nI 32)]) hX dX6_renderStore_69 k_X6_156 (fun l9 hl9 => cM_writes (r0 := r) (t := (stT v i)) hT1 (by (try simp only [List.length_append, List.length_cons, List.length_nil, dgs_len]); omega) (by omega)) hG ⟨8, _, TX6, 16, List.mem_cons_self, rfl⟩ rfl rfl (Nat.le_of_ble_eq_true rfl) (by decide) (by decide) (by decide) (by decide)) rfl rfl rfl (fun w9 u9 hp9 => ?_)
        obtain ⟨rfl, ra9, la9, rfl, hU9⟩ := hp9
        change V X 0 0 (wM cy ma ra9 e g bf hy sv bu la9 pa) [some (.ref (ma 0)), some (.int (nI i))] [] 72
        refine r_aload_n (pc' := 73) hX dX6_renderStore_72 rfl rfl ?_
        refine r_aload_n (pc' := 74) hX dX6_renderStore_73 rfl rfl ?_
        refine r_get (pc' := 77) (v := .ref (ma 1)) hX dX6_renderStore_74 f_X6_7 0 rfl rfl rfl ?_
        refine r_bipush (pc' := 79) (v := nI 39) hX dX6_renderStore_77 rfl rfl ?_
        refine r_iload_n (pc' := 80) hX dX6_renderStore_79 rfl rfl ?_
        refine r_iadd_N (pc' := 81) hX dX6_renderStore_80  rfl ?_
        refine r_iald_N (pc' := 82) hX dX6_renderStore_81 (by rw [hcy]) 1 rfl (by omega) (by decide) rfl ?_
        change V X 0 0 (wM cy ma ra9 e g bf hy sv bu la9 pa) [some (.ref (ma 0)), some (.int (nI i))] [.int (nI (g (39 + i))), .ref (ma 0)] 82
        rw [(hR.len (by omega))]
        refine V_call0 (k' := 0) (n' := 0) (pc' := 85) hX (r_runV (As := [.int (nI (v 1 i))]) hX dX6_renderStore_82 k_X6_159 (fun l9 hl9 => cM_writesNumber (r0 := r) (t := (stT v i ++ [32])) hU9 (by (try simp only [List.length_append, List.length_cons, List.length_nil, dgs_len]); omega) (by omega)) hG ⟨8, _, TX6, 16, List.mem_cons_self, rfl⟩ rfl rfl (Nat.le_of_ble_eq_true rfl) (by decide) (by decide) (by decide) (by decide)) rfl rfl rfl (fun w9 u9 hp9 => ?_)
        obtain ⟨rfl, ra10, la10, rfl, hU10⟩ := hp9
        change V X 0 0 (wM cy ma ra10 e g bf hy sv bu la10 pa) [some (.ref (ma 0)), some (.int (nI i))] [] 85
        refine r_aload_n (pc' := 86) hX dX6_renderStore_85 rfl rfl ?_
        refine r_bipush (pc' := 88) (v := nI 120) hX dX6_renderStore_86 rfl rfl ?_
        refine V_call0 (k' := 0) (n' := 0) (pc' := 91) hX (r_runV (As := [.int (nI 120)]) hX dX6_renderStore_88 k_X6_156 (fun l9 hl9 => cM_writes (r0 := r) (t := ((stT v i ++ [32]) ++ dgs (v 1 i))) hU10 (by (try simp only [List.length_append, List.length_cons, List.length_nil, dgs_len]); omega) (by omega)) hG ⟨8, _, TX6, 16, List.mem_cons_self, rfl⟩ rfl rfl (Nat.le_of_ble_eq_true rfl) (by decide) (by decide) (by decide) (by decide)) rfl rfl rfl (fun w9 u9 hp9 => ?_)
        obtain ⟨rfl, ra11, la11, rfl, hU11⟩ := hp9
        change V X 0 0 (wM cy ma ra11 e g bf hy sv bu la11 pa) [some (.ref (ma 0)), some (.int (nI i))] [] 91
        refine r_aload_n (pc' := 92) hX dX6_renderStore_91 rfl rfl ?_
        refine r_aload_n (pc' := 93) hX dX6_renderStore_92 rfl rfl ?_
        refine r_get (pc' := 96) (v := .ref (ma 1)) hX dX6_renderStore_93 f_X6_7 0 rfl rfl rfl ?_
        refine r_bipush (pc' := 98) (v := nI 43) hX dX6_renderStore_96 rfl rfl ?_
        refine r_iload_n (pc' := 99) hX dX6_renderStore_98 rfl rfl ?_
        refine r_iadd_N (pc' := 100) hX dX6_renderStore_99  rfl ?_
        refine r_iald_N (pc' := 101) hX dX6_renderStore_100 (by rw [hcy]) 1 rfl (by omega) (by decide) rfl ?_
        change V X 0 0 (wM cy ma ra11 e g bf hy sv bu la11 pa) [some (.ref (ma 0)), some (.int (nI i))] [.int (nI (g (43 + i))), .ref (ma 0)] 101
        rw [(hR.use (by omega))]
        refine V_call0 (k' := 0) (n' := 0) (pc' := 104) hX (r_runV (As := [.int (nI (v 2 i))]) hX dX6_renderStore_101 k_X6_159 (fun l9 hl9 => cM_writesNumber (r0 := r) (t := (((stT v i ++ [32]) ++ dgs (v 1 i)) ++ [120])) hU11 (by (try simp only [List.length_append, List.length_cons, List.length_nil, dgs_len]); omega) (by omega)) hG ⟨8, _, TX6, 16, List.mem_cons_self, rfl⟩ rfl rfl (Nat.le_of_ble_eq_true rfl) (by decide) (by decide) (by decide) (by decide)) rfl rfl rfl (fun w9 u9 hp9 => ?_)
        obtain ⟨rfl, ra12, la12, rfl, hU12⟩ := hp9
        change V X 0 0 (wM cy ma ra12 e g bf hy sv bu la12 pa) [some (.ref (ma 0)), some (.int (nI i))] [] 104
        refine r_iinc_N (b := 1) (L' := [some (.ref (ma 0)), some (.int (nI (i + 1)))]) (pc' := 107) hX dX6_renderStore_104 rfl (nlt hnL (by decide)) rfl rfl rfl ?_
        refine r_goto (tgt := 55) hX dX6_renderStore_107 (by decide) ?_
        exact ih55 (i + 1) ra12 la12 (by omega) (by omega) hU12
  exact loop55 _ 0 ra8 la8 (Nat.lt_succ_self _) (by omega) hU8

set_option maxRecDepth 20000 in
set_option maxHeartbeats 1000000 in
theorem cMw_renderBatch {l : Launch} {D : va_G} {cy : Nat → ClassId} {sa : Nat → Nat} {ma : Nat → Nat} {S : AS} {t : Nat} {ws : va_W} {v : SV} (hvS : v = S.1) (h : MS cy ma S t ws) (hv : Wf v) {x : Int32} (hnb : ∀ i, i < v 0 4 → v (13 + i) 0 < 100000) : MG l yX6_renderBatch cX6_renderBatch 4 (some .int) 2 0 0 (D, cy, sa) [.ref (ma 0), .int x] (ws) (fun w u => w = some (.int (mvl (qRb v x))) ∧ MS cy ma (aRb S x) (kd 1 1 1 1 1 (qRb v x)) u) := by
  obtain ⟨r, e, g, bf, hy, sv, bu, le, pa, rfl, hM⟩ := h
  have hM0 := hM
  obtain ⟨h4, hR, h0, h8, hH, hS, hT, hO, hE⟩ := hM
  rw [← hvS] at hR
  have hv0 := hv
  obtain ⟨wa, wm, wb, ws, wt, wc, wB, wR, wL, wK, wP⟩ := hv
  refine MG_by (own := RX6) (L := [some (.ref (ma 0)), some (.int x), none, none]) (by decide +kernel) rfl rfl (Nat.le_of_ble_eq_true rfl) 2 rfl (fun X hX hE hnL hG hcy hnm => ?_)
  refine r_aload_n (pc' := 1) hX dX6_renderBatch_0 rfl rfl ?_
  refine r_iload_n (pc' := 2) hX dX6_renderBatch_1 rfl rfl ?_
  refine V_call0 (k' := 0) (n' := 0) (pc' := 5) hX (r_runV (As := [.int x]) hX dX6_renderBatch_2 k_X6_113 (fun l9 hl9 => cM_placeOf hv0 hR) hG ⟨8, _, TX6, 16, List.mem_cons_self, rfl⟩ rfl rfl (Nat.le_of_ble_eq_true rfl) (by decide) (by decide) (by decide) (by decide)) rfl rfl rfl (fun w9 u9 hp9 => ?_)
  obtain ⟨rfl, rfl⟩ := hp9
  by_cases hs : plc v x.toInt < v 0 4
  · rw [if_pos hs]
    obtain ⟨pl, hpl⟩ : ∃ z, z = plc v x.toInt := ⟨_, rfl⟩
    rw [← hpl] at hs ⊢
    obtain ⟨bz, ba, bf9, b0, b1, bq⟩ := wB pl hs
    change V X 0 0 (wM cy ma r e g bf hy sv bu le pa) [some (.ref (ma 0)), some (.int x), none, none] [.int (nI pl)] 5
    refine r_istore_n (L' := [some (.ref (ma 0)), some (.int x), some (.int (nI pl)), none]) (pc' := 6) hX dX6_renderBatch_5 (nlt hnL (by decide)) rfl rfl rfl ?_
    refine r_iload_n (pc' := 7) hX dX6_renderBatch_6 rfl rfl ?_
    refine r_iconst (pc' := 8) (v := (-1)) hX dX6_renderBatch_7 rfl rfl ?_
    refine r_icmp_ne_I (tgt := 17) (pc' := 11) hX dX6_renderBatch_8 (by decide) rfl (nI_I (by omega)) (by decide : (-1 : Int32).toInt = -1) (fun c8 => ?_) (fun c8 => ?_)
    · have hsp : (v (13 + pl) 0 : Int) = x.toInt := by rw [hpl]; exact lst_spec (n := v 0 4) (by rw [hpl] at hs; exact hs)
      have hnb9 := hnb pl hs
      have ex9 : x = nI (v (13 + pl) 0) := Int32.toInt_inj.mp (by rw [nI_I (by omega)]; exact hsp.symm)
      have hq9 : ∀ k, k < v (13 + pl) 2 → v (21 + pl) k < 100 := fun k hk => by have := bq k hk; omega
      rw [show (some (Value.int x) : Option Value) = some (Value.int (nI (v (13 + pl) 0))) by rw [← ex9]]
      have dn9 := ndg_le (v (13 + pl) 0)
      refine r_aload_n (pc' := 18) hX dX6_renderBatch_17 rfl rfl ?_
      refine r_iconst (pc' := 19) (v := nI 0) hX dX6_renderBatch_18 rfl rfl ?_
      refine r_put (ws' := wM cy ma (up1 r 3 0) e g bf hy sv bu le pa) (pc' := 22) hX dX6_renderBatch_19 f_X6_153 fw_X6_11 0 rfl rfl rfl (Nat.le_of_ble_eq_true rfl) rfl rfl ?_
      have hT0 : TX r (up1 r 3 0) le [] := TX_0
      refine r_aload_n (pc' := 23) hX dX6_renderBatch_22 rfl rfl ?_
      refine r_iload_n (pc' := 24) hX dX6_renderBatch_23 rfl rfl ?_
      refine V_call0 (k' := 0) (n' := 0) (pc' := 27) hX (r_runV (As := [.int (nI (v (13 + pl) 0))]) hX dX6_renderBatch_24 k_X6_159 (fun l9 hl9 => cM_writesNumber (r0 := r) (t := ([])) hT0 (by (try simp only [List.length_append, List.length_cons, List.length_nil, dgs_len]); omega) (by omega)) hG ⟨8, _, TX6, 16, List.mem_cons_self, rfl⟩ rfl rfl (Nat.le_of_ble_eq_true rfl) (by decide) (by decide) (by decide) (by decide)) rfl rfl rfl (fun w9 u9 hp9 => ?_)
      obtain ⟨rfl, ra13, la13, rfl, hU13⟩ := hp9
      change V X 0 0 (wM cy ma ra13 e g bf hy sv bu la13 pa) [some (.ref (ma 0)), some (.int (nI (v (13 + pl) 0))), some (.int (nI pl)), none] [] 27
      refine r_aload_n (pc' := 28) hX dX6_renderBatch_27 rfl rfl ?_
      refine r_aload_n (pc' := 29) hX dX6_renderBatch_28 rfl rfl ?_
      refine r_get (pc' := 32) (v := .ref (ma 1)) hX dX6_renderBatch_29 f_X6_7 0 rfl rfl rfl ?_
      refine r_bipush (pc' := 34) (v := nI 79) hX dX6_renderBatch_32 rfl rfl ?_
      refine r_iload_n (pc' := 35) hX dX6_renderBatch_34 rfl rfl ?_
      refine r_iadd_N (pc' := 36) hX dX6_renderBatch_35  rfl ?_
      refine r_iald_N (pc' := 37) hX dX6_renderBatch_36 (by rw [hcy]) 1 rfl (by omega) (by decide) rfl ?_
      change V X 0 0 (wM cy ma ra13 e g bf hy sv bu la13 pa) [some (.ref (ma 0)), some (.int (nI (v (13 + pl) 0))), some (.int (nI pl)), none] [.int (nI (g (79 + pl))), .ref (ma 0)] 37
      rw [(hR.fai (by omega))]
      refine r_iconst (pc' := 38) (v := nI 1) hX dX6_renderBatch_37 rfl rfl ?_
      refine r_icmp_ne_N (tgt := 46) (pc' := 41) hX dX6_renderBatch_38 (by decide) rfl (by omega) (by omega) (fun c38 => ?_) (fun c38 => ?_)
      · refine r_bipush (pc' := 48) (v := nI 63) hX dX6_renderBatch_46 rfl rfl ?_
        refine V_call0 (k' := 0) (n' := 0) (pc' := 51) hX (r_runV (As := [.int (nI 63)]) hX dX6_renderBatch_48 k_X6_156 (fun l9 hl9 => cM_writes (r0 := r) (t := ([] ++ dgs (v (13 + pl) 0))) hU13 (by (try simp only [List.length_append, List.length_cons, List.length_nil, dgs_len]); omega) (by omega)) hG ⟨8, _, TX6, 16, List.mem_cons_self, rfl⟩ rfl rfl (Nat.le_of_ble_eq_true rfl) (by decide) (by decide) (by decide) (by decide)) rfl rfl rfl (fun w9 u9 hp9 => ?_)
        obtain ⟨rfl, ra14, la14, rfl, hU14⟩ := hp9
        change V X 0 0 (wM cy ma ra14 e g bf hy sv bu la14 pa) [some (.ref (ma 0)), some (.int (nI (v (13 + pl) 0))), some (.int (nI pl)), none] [] 51
        refine r_iconst (pc' := 52) (v := nI 0) hX dX6_renderBatch_51 rfl rfl ?_
        refine r_istore_n (L' := [some (.ref (ma 0)), some (.int (nI (v (13 + pl) 0))), some (.int (nI pl)), some (.int (nI 0))]) (pc' := 53) hX dX6_renderBatch_52 (nlt hnL (by decide)) rfl rfl rfl ?_
        have loop53 : ∀ (n9 : Nat) (k : Nat) (r1 : Nat → Nat) (l1 : Nat → Nat), v (13 + pl) 2 - k < n9 → (k ≤ v (13 + pl) 2) → (TX r r1 l1 (btT v pl k)) → V X 0 0 (wM cy ma r1 e g bf hy sv bu l1 pa) [some (.ref (ma 0)), some (.int (nI (v (13 + pl) 0))), some (.int (nI pl)), some (.int (nI k))] [] 53 := by
          intro n9
          induction n9 with
          | zero => intro k r1 l1 hm; exact absurd hm (Nat.not_lt_zero _)
          | succ n9 ih53 =>
            intro k r1 l1 hm hk hT1
            have hl9 := btT_len hq9 k (by omega)
            refine r_iload_n (pc' := 54) hX dX6_renderBatch_53 rfl rfl ?_
            refine r_aload_n (pc' := 55) hX dX6_renderBatch_54 rfl rfl ?_
            refine r_get (pc' := 58) (v := .ref (ma 1)) hX dX6_renderBatch_55 f_X6_7 0 rfl rfl rfl ?_
            refine r_bipush (pc' := 60) (v := nI 63) hX dX6_renderBatch_58 rfl rfl ?_
            refine r_iload_n (pc' := 61) hX dX6_renderBatch_60 rfl rfl ?_
            refine r_iadd_N (pc' := 62) hX dX6_renderBatch_61  rfl ?_
            refine r_iald_N (pc' := 63) hX dX6_renderBatch_62 (by rw [hcy]) 1 rfl (by omega) (by decide) rfl ?_
            change V X 0 0 (wM cy ma r1 e g bf hy sv bu l1 pa) [some (.ref (ma 0)), some (.int (nI (v (13 + pl) 0))), some (.int (nI pl)), some (.int (nI k))] [.int (nI (g (63 + pl))), .int (nI k)] 63
            rw [(hR.man (by omega))]
            refine r_icmp_ge_N (tgt := 97) (pc' := 66) hX dX6_renderBatch_63 (by decide) rfl (by omega) (by omega) (fun c63 => ?_) (fun c63 => ?_)
            · refine r_aload_n (pc' := 98) hX dX6_renderBatch_97 rfl rfl ?_
              refine r_aload_n (pc' := 99) hX dX6_renderBatch_98 rfl rfl ?_
              refine r_get (pc' := 102) (v := .int (nI (r1 3))) hX dX6_renderBatch_99 f_X6_153 0 rfl rfl rfl ?_
              refine V_call0 (k' := 0) (n' := 0) (pc' := 105) hX (r_runV (As := [.int (nI (r1 3))]) hX dX6_renderBatch_102 k_X6_70 (fun l9 hl9 => cM_done) hG ⟨8, _, TX6, 16, List.mem_cons_self, rfl⟩ rfl rfl (Nat.le_of_ble_eq_true rfl) (by decide) (by decide) (by decide) (by decide)) rfl rfl rfl (fun w9 u9 hp9 => ?_)
              obtain ⟨rfl, rfl⟩ := hp9
              change V X 0 0 (wM cy ma (up1 r1 4 0) e g bf hy sv bu l1 pa) [some (.ref (ma 0)), some (.int (nI (v (13 + pl) 0))), some (.int (nI pl)), some (.int (nI k))] [.int (nI (r1 3))] 105
              have hi9 : k = v (13 + pl) 2 := by omega
              rw [hi9] at hT1 hl9
              have e9 : qRb v x = nI (btT v pl (v (13 + pl) 2)).length := by unfold qRb; rw [← hpl, if_pos hs]
              have a9 : aRb S x = aOut S (btT v pl (v (13 + pl) 2)) := by unfold aRb; rw [← hvS, ← hpl, if_pos hs]
              exact r_ireturn hX hE dX6_renderBatch_105 rfl (by rw [e9, a9, mvl_nI (by omega), kd_nI (by omega)]; exact ⟨rN hT1.2.1, MS_out hM0 hT1 (by omega)⟩) (by decide) (by decide)
            · have dk9 := ndg_2 (hq9 k (by omega))
              have hq8 := hq9 k (by omega)
              refine r_aload_n (pc' := 67) hX dX6_renderBatch_66 rfl rfl ?_
              refine r_iload_n (pc' := 68) hX dX6_renderBatch_67 rfl rfl ?_
              refine r_if_ne_N (tgt := 76) (pc' := 71) hX dX6_renderBatch_68 (by decide) rfl (by omega) (fun c68 => ?_) (fun c68 => ?_)
              · refine r_bipush (pc' := 78) (v := nI 44) hX dX6_renderBatch_76 rfl rfl ?_
                refine V_call0 (k' := 0) (n' := 0) (pc' := 81) hX (r_runV (As := [.int (nI 44)]) hX dX6_renderBatch_78 k_X6_156 (fun l9 hl9 => cM_writes (r0 := r) (t := (btT v pl k)) hT1 (by (try simp only [List.length_append, List.length_cons, List.length_nil, dgs_len]); omega) (by omega)) hG ⟨8, _, TX6, 16, List.mem_cons_self, rfl⟩ rfl rfl (Nat.le_of_ble_eq_true rfl) (by decide) (by decide) (by decide) (by decide)) rfl rfl rfl (fun w9 u9 hp9 => ?_)
                obtain ⟨rfl, ra15, la15, rfl, hU15⟩ := hp9
                change V X 0 0 (wM cy ma ra15 e g bf hy sv bu la15 pa) [some (.ref (ma 0)), some (.int (nI (v (13 + pl) 0))), some (.int (nI pl)), some (.int (nI k))] [] 81
                refine r_aload_n (pc' := 82) hX dX6_renderBatch_81 rfl rfl ?_
                refine r_aload_n (pc' := 83) hX dX6_renderBatch_82 rfl rfl ?_
                refine r_iload_n (pc' := 84) hX dX6_renderBatch_83 rfl rfl ?_
                refine r_iload_n (pc' := 85) hX dX6_renderBatch_84 rfl rfl ?_
                refine V_call0 (k' := 0) (n' := 0) (pc' := 88) hX (r_runV (As := [.int (nI pl), .int (nI k)]) hX dX6_renderBatch_85 k_X6_57 (fun l9 hl9 => cM_squeakAt hv0 hR (by omega) (by omega)) hG ⟨8, _, TX6, 16, List.mem_cons_self, rfl⟩ rfl rfl (Nat.le_of_ble_eq_true rfl) (by decide) (by decide) (by decide) (by decide)) rfl rfl rfl (fun w9 u9 hp9 => ?_)
                obtain ⟨rfl, rfl⟩ := hp9
                change V X 0 0 (wM cy ma ra15 e g bf hy sv bu la15 pa) [some (.ref (ma 0)), some (.int (nI (v (13 + pl) 0))), some (.int (nI pl)), some (.int (nI k))] [.int (nI (v (21 + pl) k)), .ref (ma 0)] 88
                refine V_call0 (k' := 0) (n' := 0) (pc' := 91) hX (r_runV (As := [.int (nI (v (21 + pl) k))]) hX dX6_renderBatch_88 k_X6_159 (fun l9 hl9 => cM_writesNumber (r0 := r) (t := (btT v pl k ++ [44])) hU15 (by (try simp only [List.length_append, List.length_cons, List.length_nil, dgs_len]); omega) (by omega)) hG ⟨8, _, TX6, 16, List.mem_cons_self, rfl⟩ rfl rfl (Nat.le_of_ble_eq_true rfl) (by decide) (by decide) (by decide) (by decide)) rfl rfl rfl (fun w9 u9 hp9 => ?_)
                obtain ⟨rfl, ra16, la16, rfl, hU16⟩ := hp9
                change V X 0 0 (wM cy ma ra16 e g bf hy sv bu la16 pa) [some (.ref (ma 0)), some (.int (nI (v (13 + pl) 0))), some (.int (nI pl)), some (.int (nI k))] [] 91
                refine r_iinc_N (b := 1) (L' := [some (.ref (ma 0)), some (.int (nI (v (13 + pl) 0))), some (.int (nI pl)), some (.int (nI (k + 1)))]) (pc' := 94) hX dX6_renderBatch_91 rfl (nlt hnL (by decide)) rfl rfl rfl ?_
                refine r_goto (tgt := 53) hX dX6_renderBatch_94 (by decide) ?_
                exact ih53 (k + 1) ra16 la16 (by omega) (by omega) (by rw [btT, if_neg c68]; exact hU16)
              · refine r_bipush (pc' := 73) (v := nI 58) hX dX6_renderBatch_71 rfl rfl ?_
                refine r_goto (tgt := 78) hX dX6_renderBatch_73 (by decide) ?_
                refine V_call0 (k' := 0) (n' := 0) (pc' := 81) hX (r_runV (As := [.int (nI 58)]) hX dX6_renderBatch_78 k_X6_156 (fun l9 hl9 => cM_writes (r0 := r) (t := (btT v pl k)) hT1 (by (try simp only [List.length_append, List.length_cons, List.length_nil, dgs_len]); omega) (by omega)) hG ⟨8, _, TX6, 16, List.mem_cons_self, rfl⟩ rfl rfl (Nat.le_of_ble_eq_true rfl) (by decide) (by decide) (by decide) (by decide)) rfl rfl rfl (fun w9 u9 hp9 => ?_)
                obtain ⟨rfl, ra17, la17, rfl, hU17⟩ := hp9
                change V X 0 0 (wM cy ma ra17 e g bf hy sv bu la17 pa) [some (.ref (ma 0)), some (.int (nI (v (13 + pl) 0))), some (.int (nI pl)), some (.int (nI k))] [] 81
                refine r_aload_n (pc' := 82) hX dX6_renderBatch_81 rfl rfl ?_
                refine r_aload_n (pc' := 83) hX dX6_renderBatch_82 rfl rfl ?_
                refine r_iload_n (pc' := 84) hX dX6_renderBatch_83 rfl rfl ?_
                refine r_iload_n (pc' := 85) hX dX6_renderBatch_84 rfl rfl ?_
                refine V_call0 (k' := 0) (n' := 0) (pc' := 88) hX (r_runV (As := [.int (nI pl), .int (nI k)]) hX dX6_renderBatch_85 k_X6_57 (fun l9 hl9 => cM_squeakAt hv0 hR (by omega) (by omega)) hG ⟨8, _, TX6, 16, List.mem_cons_self, rfl⟩ rfl rfl (Nat.le_of_ble_eq_true rfl) (by decide) (by decide) (by decide) (by decide)) rfl rfl rfl (fun w9 u9 hp9 => ?_)
                obtain ⟨rfl, rfl⟩ := hp9
                change V X 0 0 (wM cy ma ra17 e g bf hy sv bu la17 pa) [some (.ref (ma 0)), some (.int (nI (v (13 + pl) 0))), some (.int (nI pl)), some (.int (nI k))] [.int (nI (v (21 + pl) k)), .ref (ma 0)] 88
                refine V_call0 (k' := 0) (n' := 0) (pc' := 91) hX (r_runV (As := [.int (nI (v (21 + pl) k))]) hX dX6_renderBatch_88 k_X6_159 (fun l9 hl9 => cM_writesNumber (r0 := r) (t := (btT v pl k ++ [58])) hU17 (by (try simp only [List.length_append, List.length_cons, List.length_nil, dgs_len]); omega) (by omega)) hG ⟨8, _, TX6, 16, List.mem_cons_self, rfl⟩ rfl rfl (Nat.le_of_ble_eq_true rfl) (by decide) (by decide) (by decide) (by decide)) rfl rfl rfl (fun w9 u9 hp9 => ?_)
                obtain ⟨rfl, ra18, la18, rfl, hU18⟩ := hp9
                change V X 0 0 (wM cy ma ra18 e g bf hy sv bu la18 pa) [some (.ref (ma 0)), some (.int (nI (v (13 + pl) 0))), some (.int (nI pl)), some (.int (nI k))] [] 91
                refine r_iinc_N (b := 1) (L' := [some (.ref (ma 0)), some (.int (nI (v (13 + pl) 0))), some (.int (nI pl)), some (.int (nI (k + 1)))]) (pc' := 94) hX dX6_renderBatch_91 rfl (nlt hnL (by decide)) rfl rfl rfl ?_
                refine r_goto (tgt := 53) hX dX6_renderBatch_94 (by decide) ?_
                exact ih53 (k + 1) ra18 la18 (by omega) (by omega) (by rw [btT, if_pos c68]; exact hU18)
        exact loop53 _ 0 ra14 la14 (Nat.lt_succ_self _) (by omega) (by rw [btT, if_neg c38]; exact hU14)
      · refine r_bipush (pc' := 43) (v := nI 33) hX dX6_renderBatch_41 rfl rfl ?_
        refine r_goto (tgt := 48) hX dX6_renderBatch_43 (by decide) ?_
        refine V_call0 (k' := 0) (n' := 0) (pc' := 51) hX (r_runV (As := [.int (nI 33)]) hX dX6_renderBatch_48 k_X6_156 (fun l9 hl9 => cM_writes (r0 := r) (t := ([] ++ dgs (v (13 + pl) 0))) hU13 (by (try simp only [List.length_append, List.length_cons, List.length_nil, dgs_len]); omega) (by omega)) hG ⟨8, _, TX6, 16, List.mem_cons_self, rfl⟩ rfl rfl (Nat.le_of_ble_eq_true rfl) (by decide) (by decide) (by decide) (by decide)) rfl rfl rfl (fun w9 u9 hp9 => ?_)
        obtain ⟨rfl, ra19, la19, rfl, hU19⟩ := hp9
        change V X 0 0 (wM cy ma ra19 e g bf hy sv bu la19 pa) [some (.ref (ma 0)), some (.int (nI (v (13 + pl) 0))), some (.int (nI pl)), none] [] 51
        refine r_iconst (pc' := 52) (v := nI 0) hX dX6_renderBatch_51 rfl rfl ?_
        refine r_istore_n (L' := [some (.ref (ma 0)), some (.int (nI (v (13 + pl) 0))), some (.int (nI pl)), some (.int (nI 0))]) (pc' := 53) hX dX6_renderBatch_52 (nlt hnL (by decide)) rfl rfl rfl ?_
        have loop53 : ∀ (n9 : Nat) (k : Nat) (r1 : Nat → Nat) (l1 : Nat → Nat), v (13 + pl) 2 - k < n9 → (k ≤ v (13 + pl) 2) → (TX r r1 l1 (btT v pl k)) → V X 0 0 (wM cy ma r1 e g bf hy sv bu l1 pa) [some (.ref (ma 0)), some (.int (nI (v (13 + pl) 0))), some (.int (nI pl)), some (.int (nI k))] [] 53 := by
          intro n9
          induction n9 with
          | zero => intro k r1 l1 hm; exact absurd hm (Nat.not_lt_zero _)
          | succ n9 ih53 =>
            intro k r1 l1 hm hk hT1
            have hl9 := btT_len hq9 k (by omega)
            refine r_iload_n (pc' := 54) hX dX6_renderBatch_53 rfl rfl ?_
            refine r_aload_n (pc' := 55) hX dX6_renderBatch_54 rfl rfl ?_
            refine r_get (pc' := 58) (v := .ref (ma 1)) hX dX6_renderBatch_55 f_X6_7 0 rfl rfl rfl ?_
            refine r_bipush (pc' := 60) (v := nI 63) hX dX6_renderBatch_58 rfl rfl ?_
            refine r_iload_n (pc' := 61) hX dX6_renderBatch_60 rfl rfl ?_
            refine r_iadd_N (pc' := 62) hX dX6_renderBatch_61  rfl ?_
            refine r_iald_N (pc' := 63) hX dX6_renderBatch_62 (by rw [hcy]) 1 rfl (by omega) (by decide) rfl ?_
            change V X 0 0 (wM cy ma r1 e g bf hy sv bu l1 pa) [some (.ref (ma 0)), some (.int (nI (v (13 + pl) 0))), some (.int (nI pl)), some (.int (nI k))] [.int (nI (g (63 + pl))), .int (nI k)] 63
            rw [(hR.man (by omega))]
            refine r_icmp_ge_N (tgt := 97) (pc' := 66) hX dX6_renderBatch_63 (by decide) rfl (by omega) (by omega) (fun c63 => ?_) (fun c63 => ?_)
            · refine r_aload_n (pc' := 98) hX dX6_renderBatch_97 rfl rfl ?_
              refine r_aload_n (pc' := 99) hX dX6_renderBatch_98 rfl rfl ?_
              refine r_get (pc' := 102) (v := .int (nI (r1 3))) hX dX6_renderBatch_99 f_X6_153 0 rfl rfl rfl ?_
              refine V_call0 (k' := 0) (n' := 0) (pc' := 105) hX (r_runV (As := [.int (nI (r1 3))]) hX dX6_renderBatch_102 k_X6_70 (fun l9 hl9 => cM_done) hG ⟨8, _, TX6, 16, List.mem_cons_self, rfl⟩ rfl rfl (Nat.le_of_ble_eq_true rfl) (by decide) (by decide) (by decide) (by decide)) rfl rfl rfl (fun w9 u9 hp9 => ?_)
              obtain ⟨rfl, rfl⟩ := hp9
              change V X 0 0 (wM cy ma (up1 r1 4 0) e g bf hy sv bu l1 pa) [some (.ref (ma 0)), some (.int (nI (v (13 + pl) 0))), some (.int (nI pl)), some (.int (nI k))] [.int (nI (r1 3))] 105
              have hi9 : k = v (13 + pl) 2 := by omega
              rw [hi9] at hT1 hl9
              have e9 : qRb v x = nI (btT v pl (v (13 + pl) 2)).length := by unfold qRb; rw [← hpl, if_pos hs]
              have a9 : aRb S x = aOut S (btT v pl (v (13 + pl) 2)) := by unfold aRb; rw [← hvS, ← hpl, if_pos hs]
              exact r_ireturn hX hE dX6_renderBatch_105 rfl (by rw [e9, a9, mvl_nI (by omega), kd_nI (by omega)]; exact ⟨rN hT1.2.1, MS_out hM0 hT1 (by omega)⟩) (by decide) (by decide)
            · have dk9 := ndg_2 (hq9 k (by omega))
              have hq8 := hq9 k (by omega)
              refine r_aload_n (pc' := 67) hX dX6_renderBatch_66 rfl rfl ?_
              refine r_iload_n (pc' := 68) hX dX6_renderBatch_67 rfl rfl ?_
              refine r_if_ne_N (tgt := 76) (pc' := 71) hX dX6_renderBatch_68 (by decide) rfl (by omega) (fun c68 => ?_) (fun c68 => ?_)
              · refine r_bipush (pc' := 78) (v := nI 44) hX dX6_renderBatch_76 rfl rfl ?_
                refine V_call0 (k' := 0) (n' := 0) (pc' := 81) hX (r_runV (As := [.int (nI 44)]) hX dX6_renderBatch_78 k_X6_156 (fun l9 hl9 => cM_writes (r0 := r) (t := (btT v pl k)) hT1 (by (try simp only [List.length_append, List.length_cons, List.length_nil, dgs_len]); omega) (by omega)) hG ⟨8, _, TX6, 16, List.mem_cons_self, rfl⟩ rfl rfl (Nat.le_of_ble_eq_true rfl) (by decide) (by decide) (by decide) (by decide)) rfl rfl rfl (fun w9 u9 hp9 => ?_)
                obtain ⟨rfl, ra20, la20, rfl, hU20⟩ := hp9
                change V X 0 0 (wM cy ma ra20 e g bf hy sv bu la20 pa) [some (.ref (ma 0)), some (.int (nI (v (13 + pl) 0))), some (.int (nI pl)), some (.int (nI k))] [] 81
                refine r_aload_n (pc' := 82) hX dX6_renderBatch_81 rfl rfl ?_
                refine r_aload_n (pc' := 83) hX dX6_renderBatch_82 rfl rfl ?_
                refine r_iload_n (pc' := 84) hX dX6_renderBatch_83 rfl rfl ?_
                refine r_iload_n (pc' := 85) hX dX6_renderBatch_84 rfl rfl ?_
                refine V_call0 (k' := 0) (n' := 0) (pc' := 88) hX (r_runV (As := [.int (nI pl), .int (nI k)]) hX dX6_renderBatch_85 k_X6_57 (fun l9 hl9 => cM_squeakAt hv0 hR (by omega) (by omega)) hG ⟨8, _, TX6, 16, List.mem_cons_self, rfl⟩ rfl rfl (Nat.le_of_ble_eq_true rfl) (by decide) (by decide) (by decide) (by decide)) rfl rfl rfl (fun w9 u9 hp9 => ?_)
                obtain ⟨rfl, rfl⟩ := hp9
                change V X 0 0 (wM cy ma ra20 e g bf hy sv bu la20 pa) [some (.ref (ma 0)), some (.int (nI (v (13 + pl) 0))), some (.int (nI pl)), some (.int (nI k))] [.int (nI (v (21 + pl) k)), .ref (ma 0)] 88
                refine V_call0 (k' := 0) (n' := 0) (pc' := 91) hX (r_runV (As := [.int (nI (v (21 + pl) k))]) hX dX6_renderBatch_88 k_X6_159 (fun l9 hl9 => cM_writesNumber (r0 := r) (t := (btT v pl k ++ [44])) hU20 (by (try simp only [List.length_append, List.length_cons, List.length_nil, dgs_len]); omega) (by omega)) hG ⟨8, _, TX6, 16, List.mem_cons_self, rfl⟩ rfl rfl (Nat.le_of_ble_eq_true rfl) (by decide) (by decide) (by decide) (by decide)) rfl rfl rfl (fun w9 u9 hp9 => ?_)
                obtain ⟨rfl, ra21, la21, rfl, hU21⟩ := hp9
                change V X 0 0 (wM cy ma ra21 e g bf hy sv bu la21 pa) [some (.ref (ma 0)), some (.int (nI (v (13 + pl) 0))), some (.int (nI pl)), some (.int (nI k))] [] 91
                refine r_iinc_N (b := 1) (L' := [some (.ref (ma 0)), some (.int (nI (v (13 + pl) 0))), some (.int (nI pl)), some (.int (nI (k + 1)))]) (pc' := 94) hX dX6_renderBatch_91 rfl (nlt hnL (by decide)) rfl rfl rfl ?_
                refine r_goto (tgt := 53) hX dX6_renderBatch_94 (by decide) ?_
                exact ih53 (k + 1) ra21 la21 (by omega) (by omega) (by rw [btT, if_neg c68]; exact hU21)
              · refine r_bipush (pc' := 73) (v := nI 58) hX dX6_renderBatch_71 rfl rfl ?_
                refine r_goto (tgt := 78) hX dX6_renderBatch_73 (by decide) ?_
                refine V_call0 (k' := 0) (n' := 0) (pc' := 81) hX (r_runV (As := [.int (nI 58)]) hX dX6_renderBatch_78 k_X6_156 (fun l9 hl9 => cM_writes (r0 := r) (t := (btT v pl k)) hT1 (by (try simp only [List.length_append, List.length_cons, List.length_nil, dgs_len]); omega) (by omega)) hG ⟨8, _, TX6, 16, List.mem_cons_self, rfl⟩ rfl rfl (Nat.le_of_ble_eq_true rfl) (by decide) (by decide) (by decide) (by decide)) rfl rfl rfl (fun w9 u9 hp9 => ?_)
                obtain ⟨rfl, ra22, la22, rfl, hU22⟩ := hp9
                change V X 0 0 (wM cy ma ra22 e g bf hy sv bu la22 pa) [some (.ref (ma 0)), some (.int (nI (v (13 + pl) 0))), some (.int (nI pl)), some (.int (nI k))] [] 81
                refine r_aload_n (pc' := 82) hX dX6_renderBatch_81 rfl rfl ?_
                refine r_aload_n (pc' := 83) hX dX6_renderBatch_82 rfl rfl ?_
                refine r_iload_n (pc' := 84) hX dX6_renderBatch_83 rfl rfl ?_
                refine r_iload_n (pc' := 85) hX dX6_renderBatch_84 rfl rfl ?_
                refine V_call0 (k' := 0) (n' := 0) (pc' := 88) hX (r_runV (As := [.int (nI pl), .int (nI k)]) hX dX6_renderBatch_85 k_X6_57 (fun l9 hl9 => cM_squeakAt hv0 hR (by omega) (by omega)) hG ⟨8, _, TX6, 16, List.mem_cons_self, rfl⟩ rfl rfl (Nat.le_of_ble_eq_true rfl) (by decide) (by decide) (by decide) (by decide)) rfl rfl rfl (fun w9 u9 hp9 => ?_)
                obtain ⟨rfl, rfl⟩ := hp9
                change V X 0 0 (wM cy ma ra22 e g bf hy sv bu la22 pa) [some (.ref (ma 0)), some (.int (nI (v (13 + pl) 0))), some (.int (nI pl)), some (.int (nI k))] [.int (nI (v (21 + pl) k)), .ref (ma 0)] 88
                refine V_call0 (k' := 0) (n' := 0) (pc' := 91) hX (r_runV (As := [.int (nI (v (21 + pl) k))]) hX dX6_renderBatch_88 k_X6_159 (fun l9 hl9 => cM_writesNumber (r0 := r) (t := (btT v pl k ++ [58])) hU22 (by (try simp only [List.length_append, List.length_cons, List.length_nil, dgs_len]); omega) (by omega)) hG ⟨8, _, TX6, 16, List.mem_cons_self, rfl⟩ rfl rfl (Nat.le_of_ble_eq_true rfl) (by decide) (by decide) (by decide) (by decide)) rfl rfl rfl (fun w9 u9 hp9 => ?_)
                obtain ⟨rfl, ra23, la23, rfl, hU23⟩ := hp9
                change V X 0 0 (wM cy ma ra23 e g bf hy sv bu la23 pa) [some (.ref (ma 0)), some (.int (nI (v (13 + pl) 0))), some (.int (nI pl)), some (.int (nI k))] [] 91
                refine r_iinc_N (b := 1) (L' := [some (.ref (ma 0)), some (.int (nI (v (13 + pl) 0))), some (.int (nI pl)), some (.int (nI (k + 1)))]) (pc' := 94) hX dX6_renderBatch_91 rfl (nlt hnL (by decide)) rfl rfl rfl ?_
                refine r_goto (tgt := 53) hX dX6_renderBatch_94 (by decide) ?_
                exact ih53 (k + 1) ra23 la23 (by omega) (by omega) (by rw [btT, if_pos c68]; exact hU23)
        exact loop53 _ 0 ra19 la19 (Nat.lt_succ_self _) (by omega) (by rw [btT, if_pos c38]; exact hU19)
    · exact absurd c8 (by omega)
  · rw [if_neg hs]
    change V X 0 0 (wM cy ma r e g bf hy sv bu le pa) [some (.ref (ma 0)), some (.int x), none, none] [.int (-1)] 5
    refine r_istore_n (L' := [some (.ref (ma 0)), some (.int x), some (.int (-1)), none]) (pc' := 6) hX dX6_renderBatch_5 (nlt hnL (by decide)) rfl rfl rfl ?_
    refine r_iload_n (pc' := 7) hX dX6_renderBatch_6 rfl rfl ?_
    refine r_iconst (pc' := 8) (v := (-1)) hX dX6_renderBatch_7 rfl rfl ?_
    refine r_icmp_ne_I (tgt := 17) (pc' := 11) hX dX6_renderBatch_8 (by decide) rfl (by decide : (-1 : Int32).toInt = -1) (by decide : (-1 : Int32).toInt = -1) (fun c8 => ?_) (fun c8 => ?_)
    · exact absurd c8 (by omega)
    · refine r_aload_n (pc' := 12) hX dX6_renderBatch_11 rfl rfl ?_
      refine r_iconst (pc' := 13) (v := nI 1) hX dX6_renderBatch_12 rfl rfl ?_
      refine V_call0 (k' := 0) (n' := 0) (pc' := 16) hX (r_runV (As := [.int (nI 1)]) hX dX6_renderBatch_13 k_X6_67 (fun l9 hl9 => cM_fails (by omega)) hG ⟨8, _, TX6, 16, List.mem_cons_self, rfl⟩ rfl rfl (Nat.le_of_ble_eq_true rfl) (by decide) (by decide) (by decide) (by decide)) rfl rfl rfl (fun w9 u9 hp9 => ?_)
      obtain ⟨rfl, rfl⟩ := hp9
      change V X 0 0 (wM cy ma (up1 r 4 1) e g bf hy sv bu le pa) [some (.ref (ma 0)), some (.int x), some (.int (-1)), none] [.int (nI 0)] 16
      have e9 : qRb v x = -5 := by unfold qRb; rw [if_neg hs]
      have a9 : aRb S x = S := by unfold aRb; rw [← hvS, if_neg hs]
      exact r_ireturn hX hE dX6_renderBatch_16 rfl (by rw [a9]; exact MQ_bad hM0 e9 rfl rfl) (by decide) (by decide)

set_option maxRecDepth 20000 in
set_option maxHeartbeats 1000000 in
theorem cMw_outputAt {l : Launch} {D : va_G} {cy : Nat → ClassId} {sa : Nat → Nat} {ma : Nat → Nat} {S : AS} {t : Nat} {ws : va_W} (h : MS cy ma S t ws) {x : Int32} (hO9 : ∀ c ∈ S.2.2.2.2.1, c < 256) : MG l yX6_outputAt cX6_outputAt 2 (some .char) 1 0 0 (D, cy, sa) [.ref (ma 0), .int x] (ws) (fun w u => w = some (.int (mvl (qOut S x))) ∧ MS cy ma S (kd 1 1 1 1 1 (qOut S x)) u) := by
  obtain ⟨r, e, g, bf, hy, sv, bu, le, pa, rfl, hM⟩ := h
  have hM0 := hM
  obtain ⟨h4, hR, h0, h8, hH, hS, ⟨hb1, hb2, hb3⟩, ⟨ho1, ho2, ho3⟩, hEr⟩ := hM
  refine MG_by (own := RX6) (L := [some (.ref (ma 0)), some (.int x)]) (by decide +kernel) rfl rfl (Nat.le_of_ble_eq_true rfl) 0 rfl (fun X hX hE hnL hG hcy hnm => ?_)
  refine r_aload_n (pc' := 1) hX dX6_outputAt_0 rfl rfl ?_
  refine r_iload_n (pc' := 2) hX dX6_outputAt_1 rfl rfl ?_
  refine r_iconst (pc' := 3) (v := nI 0) hX dX6_outputAt_2 rfl rfl ?_
  refine r_aload_n (pc' := 4) hX dX6_outputAt_3 rfl rfl ?_
  refine r_get (pc' := 7) (v := .int (nI (r 3))) hX dX6_outputAt_4 f_X6_153 0 rfl rfl rfl ?_
  refine r_iconst (pc' := 8) (v := nI 1) hX dX6_outputAt_7 rfl rfl ?_
  refine r_isub (pc' := 9) hX dX6_outputAt_8 rfl ?_
  refine V_calln (k' := 0) (n' := 0) (pc' := 12) hX (r_runS (As := [.int x, .int (nI 0), .int ((nI (r 3)) - (nI 1))]) hX dX6_outputAt_9 k_X6_49 (fun l9 hl9 => cM_in (x := x) (y := nI 0) (z := ((nI (r 3)) - (nI 1)))) hG rfl rfl (Nat.le_of_ble_eq_true rfl) (by decide) (by decide) (by decide) (by decide)) rfl rfl rfl (fun w9 hp9 => ?_)
  obtain rfl := hp9
  rw [bI_congr (q := inR x (r 3)) (by rw [pred_I (by omega), nI_I (a := 0) (by omega)]; unfold inR; omega)]
  change V X 0 0 (wM cy ma r e g bf hy sv bu le pa) [some (.ref (ma 0)), some (.int x)] [.int (bI (inR x (r 3))), .ref (ma 0)] 12
  refine r_if_eq_B (tgt := 19) (pc' := 15) hX dX6_outputAt_12 (by decide) rfl (fun c12 => ?_) (fun c12 => ?_)
  · refine r_iconst (pc' := 20) (v := nI 1) hX dX6_outputAt_19 rfl rfl ?_
    refine r_put (ws' := wM cy ma (up1 r 4 1) e g bf hy sv bu le pa) (pc' := 23) hX dX6_outputAt_20 f_X6_39 fw_X6_12 0 rfl rfl rfl (Nat.le_of_ble_eq_true rfl) rfl rfl ?_
    refine r_aload_n (pc' := 24) hX dX6_outputAt_23 rfl rfl ?_
    refine r_get (pc' := 27) (v := .int (nI 1)) hX dX6_outputAt_24 f_X6_39 0 rfl rfl rfl ?_
    refine r_if_ne_N (tgt := 39) (pc' := 30) hX dX6_outputAt_27 (by decide) rfl (by omega) (fun c27 => ?_) (fun c27 => ?_)
    · refine r_iconst (pc' := 40) (v := nI 0) hX dX6_outputAt_39 rfl rfl ?_
      exact r_zreturn hX hE dX6_outputAt_40 rfl ((pk_charN (by omega)).1) (MQ_bad hM0 (by unfold qOut; rw [← ho1, if_neg c12]) rfl rfl) (by decide) (by decide)
    · exact absurd c27 (by omega)
  · obtain ⟨a, ha, rfl⟩ := nat_of c12
    have ta : (nI a).toInt = (a : Int) := nI_I (by omega)
    have na : tn (nI a) = a := tn_nI (by omega)
    refine r_iconst (pc' := 16) (v := nI 0) hX dX6_outputAt_15 rfl rfl ?_
    refine r_goto (tgt := 20) hX dX6_outputAt_16 (by decide) ?_
    refine r_put (ws' := wM cy ma (up1 r 4 0) e g bf hy sv bu le pa) (pc' := 23) hX dX6_outputAt_20 f_X6_39 fw_X6_12 0 rfl rfl rfl (Nat.le_of_ble_eq_true rfl) rfl rfl ?_
    refine r_aload_n (pc' := 24) hX dX6_outputAt_23 rfl rfl ?_
    refine r_get (pc' := 27) (v := .int (nI 0)) hX dX6_outputAt_24 f_X6_39 0 rfl rfl rfl ?_
    refine r_if_ne_N (tgt := 39) (pc' := 30) hX dX6_outputAt_27 (by decide) rfl (by omega) (fun c27 => ?_) (fun c27 => ?_)
    · exact absurd c27 (by omega)
    · have ha9 : a < S.2.2.2.2.1.length := by omega
      have hl9 := ho3 a ha9
      have hc9 : le a < 256 := by rw [hl9]; exact hO9 _ (List.getElem_mem ha9)
      refine r_aload_n (pc' := 31) hX dX6_outputAt_30 rfl rfl ?_
      refine r_get (pc' := 34) (v := .ref (ma 6)) hX dX6_outputAt_31 f_X6_33 0 rfl rfl rfl ?_
      refine r_iload_n (pc' := 35) hX dX6_outputAt_34 rfl rfl ?_
      refine r_cald_N (pc' := 36) hX dX6_outputAt_35 (by rw [hcy]) 6 rfl (by omega) (by decide) rfl ?_
      change V X 0 0 (wM cy ma (up1 r 4 0) e g bf hy sv bu le pa) [some (.ref (ma 0)), some (.int (nI a))] [.int (nI (le a))] 36
      refine r_goto (tgt := 40) hX dX6_outputAt_36 (by decide) ?_
      exact r_zreturn hX hE dX6_outputAt_40 rfl ((pk_charN (by omega)).1) (MQ_good hM0 (by unfold qOut; rw [← ho1, if_pos c12, na, getD_at ha9, hl9]) (by omega)) (by decide) (by decide)

set_option maxRecDepth 20000 in
set_option maxHeartbeats 1000000 in
theorem cMw_type {l : Launch} {D : va_G} {cy : Nat → ClassId} {sa : Nat → Nat} {ma : Nat → Nat} {S : AS} {t : Nat} {ws : va_W} (h : MS cy ma S t ws) {c : Nat} (hc : c < 65536) : MG l yX6_type cX6_type 2 (some .int) 1 0 0 (D, cy, sa) [.ref (ma 0), .int (nI c)] (ws) (fun w u => w = some (.int (mvl (qType S c))) ∧ MS cy ma (aType S c) (kd 0 1 2 0 0 (qType S c)) u) := by
  obtain ⟨r, e, g, bf, hy, sv, bu, le, pa, rfl, hM⟩ := h
  have hM0 := hM
  obtain ⟨h4, hR, h0, h8, hH, hS, ⟨hb1, hb2, hb3⟩, ⟨ho1, ho2, ho3⟩, hEr⟩ := hM
  refine MG_by (own := RX6) (L := [some (.ref (ma 0)), some (.int (nI c))]) (by decide +kernel) rfl rfl (Nat.le_of_ble_eq_true rfl) 0 rfl (fun X hX hE hnL hG hcy hnm => ?_)
  refine r_iload_n (pc' := 1) hX dX6_type_0 rfl rfl ?_
  refine r_bipush (pc' := 3) (v := nI 32) hX dX6_type_1 rfl rfl ?_
  refine r_bipush (pc' := 5) (v := nI 126) hX dX6_type_3 rfl rfl ?_
  refine V_calln (k' := 0) (n' := 0) (pc' := 8) hX (r_runS (As := [.int (nI c), .int (nI 32), .int (nI 126)]) hX dX6_type_5 k_X6_49 (fun l9 hl9 => cM_in (x := nI c) (y := nI 32) (z := nI 126)) hG rfl rfl (Nat.le_of_ble_eq_true rfl) (by decide) (by decide) (by decide) (by decide)) rfl rfl rfl (fun w9 hp9 => ?_)
  obtain rfl := hp9
  rw [bI_congr (q := 32 ≤ c ∧ c ≤ 126) (by rw [nI_I (by omega), nI_I (by omega), nI_I (by omega)]; omega)]
  change V X 0 0 (wM cy ma r e g bf hy sv bu le pa) [some (.ref (ma 0)), some (.int (nI c))] [.int (bI (32 ≤ c ∧ c ≤ 126))] 8
  refine r_if_ne_B (tgt := 17) (pc' := 11) hX dX6_type_8 (by decide) rfl (fun c8 => ?_) (fun c8 => ?_)
  · refine r_aload_n (pc' := 18) hX dX6_type_17 rfl rfl ?_
    refine r_get (pc' := 21) (v := .int (nI (r 2))) hX dX6_type_18 f_X6_162 0 rfl rfl rfl ?_
    refine r_bipush (pc' := 23) (v := nI 60) hX dX6_type_21 rfl rfl ?_
    refine r_icmp_ne_N (tgt := 32) (pc' := 26) hX dX6_type_23 (by decide) rfl (by omega) (by omega) (fun c23 => ?_) (fun c23 => ?_)
    · refine r_aload_n (pc' := 33) hX dX6_type_32 rfl rfl ?_
      refine r_get (pc' := 36) (v := .ref (ma 5)) hX dX6_type_33 f_X6_22 0 rfl rfl rfl ?_
      refine r_aload_n (pc' := 37) hX dX6_type_36 rfl rfl ?_
      refine r_get (pc' := 40) (v := .int (nI (r 2))) hX dX6_type_37 f_X6_162 0 rfl rfl rfl ?_
      refine r_iload_n (pc' := 41) hX dX6_type_40 rfl rfl ?_
      refine r_cast_N (ws' := wM cy ma r e g bf hy sv (up1 bu (r 2) c) le pa) (pc' := 42) hX dX6_type_41 (by rw [hcy]) 5 rfl (by omega) (by decide) (by omega) rfl rfl ?_
      refine r_aload_n (pc' := 43) hX dX6_type_42 rfl rfl ?_
      refine r_dup (pc' := 44) hX dX6_type_43 rfl rfl ?_
      refine r_get (pc' := 47) (v := .int (nI (r 2))) hX dX6_type_44 f_X6_162 0 rfl rfl rfl ?_
      refine r_iconst (pc' := 48) (v := nI 1) hX dX6_type_47 rfl rfl ?_
      refine r_iadd_N (pc' := 49) hX dX6_type_48  rfl ?_
      refine r_put (ws' := wM cy ma (up1 r 2 ((r 2) + 1)) e g bf hy sv (up1 bu (r 2) c) le pa) (pc' := 52) hX dX6_type_49 f_X6_162 fw_X6_7 0 rfl rfl rfl (Nat.le_of_ble_eq_true rfl) rfl rfl ?_
      refine r_aload_n (pc' := 53) hX dX6_type_52 rfl rfl ?_
      refine r_aload_n (pc' := 54) hX dX6_type_53 rfl rfl ?_
      refine r_get (pc' := 57) (v := .int (nI ((r 2) + 1))) hX dX6_type_54 f_X6_162 0 rfl rfl rfl ?_
      refine V_call0 (k' := 0) (n' := 0) (pc' := 60) hX (r_runV (As := [.int (nI ((r 2) + 1))]) hX dX6_type_57 k_X6_70 (fun l9 hl9 => cM_done) hG ⟨8, _, TX6, 16, List.mem_cons_self, rfl⟩ rfl rfl (Nat.le_of_ble_eq_true rfl) (by decide) (by decide) (by decide) (by decide)) rfl rfl rfl (fun w9 u9 hp9 => ?_)
      obtain ⟨rfl, rfl⟩ := hp9
      change V X 0 0 (wM cy ma (up1 (up1 r 2 ((r 2) + 1)) 4 0) e g bf hy sv (up1 bu (r 2) c) le pa) [some (.ref (ma 0)), some (.int (nI c))] [.int (nI ((r 2) + 1))] 60
      have e9 : qType S c = nI (r 2 + 1) := by unfold qType; rw [if_pos c8, if_pos (by omega), hb1]
      have a9 : aType S c = aBuf S (S.2.2.2.1 ++ [c]) := by unfold aType; rw [if_pos c8, if_pos (by omega)]
      exact r_ireturn hX hE dX6_type_60 rfl (by rw [e9, a9, mvl_nI (by omega), kd_nI (by omega)]; exact ⟨rfl, MS_type hM0 (by omega)⟩) (by decide) (by decide)
    · refine r_aload_n (pc' := 27) hX dX6_type_26 rfl rfl ?_
      refine r_iconst (pc' := 28) (v := nI 2) hX dX6_type_27 rfl rfl ?_
      refine V_call0 (k' := 0) (n' := 0) (pc' := 31) hX (r_runV (As := [.int (nI 2)]) hX dX6_type_28 k_X6_67 (fun l9 hl9 => cM_fails (by omega)) hG ⟨8, _, TX6, 16, List.mem_cons_self, rfl⟩ rfl rfl (Nat.le_of_ble_eq_true rfl) (by decide) (by decide) (by decide) (by decide)) rfl rfl rfl (fun w9 u9 hp9 => ?_)
      obtain ⟨rfl, rfl⟩ := hp9
      change V X 0 0 (wM cy ma (up1 r 4 2) e g bf hy sv bu le pa) [some (.ref (ma 0)), some (.int (nI c))] [.int (nI 0)] 31
      have e9 : qType S c = -3 := by unfold qType; rw [if_pos c8, if_neg (by omega)]
      have a9 : aType S c = S := by unfold aType; rw [if_pos c8, if_neg (by omega)]
      exact r_ireturn hX hE dX6_type_31 rfl (by rw [e9, a9]; exact ⟨rfl, MS_thr hM0⟩) (by decide) (by decide)
  · refine r_aload_n (pc' := 12) hX dX6_type_11 rfl rfl ?_
    refine r_iconst (pc' := 13) (v := nI 1) hX dX6_type_12 rfl rfl ?_
    refine V_call0 (k' := 0) (n' := 0) (pc' := 16) hX (r_runV (As := [.int (nI 1)]) hX dX6_type_13 k_X6_67 (fun l9 hl9 => cM_fails (by omega)) hG ⟨8, _, TX6, 16, List.mem_cons_self, rfl⟩ rfl rfl (Nat.le_of_ble_eq_true rfl) (by decide) (by decide) (by decide) (by decide)) rfl rfl rfl (fun w9 u9 hp9 => ?_)
    obtain ⟨rfl, rfl⟩ := hp9
    change V X 0 0 (wM cy ma (up1 r 4 1) e g bf hy sv bu le pa) [some (.ref (ma 0)), some (.int (nI c))] [.int (nI 0)] 16
    have e9 : qType S c = -2 := by unfold qType; rw [if_neg c8]
    have a9 : aType S c = S := by unfold aType; rw [if_neg c8]
    exact r_ireturn hX hE dX6_type_16 rfl (by rw [e9, a9]; exact ⟨rfl, MS_thr hM0⟩) (by decide) (by decide)
