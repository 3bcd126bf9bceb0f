/-! ===== the law's small methods ===== -/
def atS (sa : Nat → Nat) (k : Nat) : Int32 := if k < sa 91 then nI (sa (1000 + k)) else 0
theorem take_s {t : List Nat} {j : Nat} (hj : j < t.length) : t.take (j + 1) = t.take j ++ [t[j]] := by
  rw [List.take_add_one, List.getElem?_eq_getElem hj]
  rfl
theorem put_ok {S : AS} {t : List Nat} {j : Nat} (ht : ∀ x ∈ t, 32 ≤ x ∧ x ≤ 126) (hl : t.length ≤ 60) (hj : j < t.length) : qType (aBuf S (t.take j)) (t.getD j 0) = nI (j + 1) ∧ aType (aBuf S (t.take j)) (t.getD j 0) = aBuf S (t.take (j + 1)) := by
  have hc := ht _ (List.getElem_mem hj)
  have hlen : (t.take j).length = j := by rw [List.length_take]; omega
  rw [getD_at hj]
  unfold qType aType
  have h60 : (aBuf S (t.take j)).2.2.2.1.length < 60 := by show (t.take j).length < 60; omega
  rw [if_pos hc, if_pos h60, if_pos hc, if_pos h60]
  refine ⟨?_, ?_⟩
  · show nI ((t.take j).length + 1) = _
    rw [hlen]
  · rw [take_s hj]; rfl
theorem put_buf {K : Nat} {S : AS} {t : List Nat} {j : Nat} (h : AJ K S) (ht : ∀ x ∈ t, 32 ≤ x ∧ x ≤ 126) : AJ K (aBuf S (t.take j)) := h.buf (fun c hc => by have := ht c (List.mem_of_mem_take hc); omega)
theorem put_all {S : AS} {t : List Nat} {j : Nat} (hj : t.length ≤ j) : aBuf S (t.take j) = aBuf S t := by rw [List.take_of_length_le hj]
theorem ltx_ch : ∀ i, i < 17 → ∀ x ∈ ltx i, 32 ≤ x ∧ x ≤ 126 := by decide +kernel
set_option maxRecDepth 20000 in
set_option maxHeartbeats 1000000 in
theorem cW_at {l : Launch} {D : va_G} {cy : Nat → ClassId} {sa : Nat → Nat} {k : Nat} (hk : k < 2000) : MG l yL_at cL_at 2 (some .int) 0 0 0 (D, cy, sa) [.ref (sa 90), .int (nI k)] ([]) (fun w u => w = some (.int (atS sa k)) ∧ u = []) := by
  refine MGL_by (own := RL) (L := [some (.ref (sa 90)), some (.int (nI k))]) (by decide +kernel) rfl rfl (Nat.le_of_ble_eq_true rfl) 0 rfl (fun X hX hE hnL hG hcy hl => ?_)
  have hle := sc_le hX hG
  refine r_iload_n (pc' := 1) hX dL_at_0 rfl rfl ?_
  refine r_aload_n (pc' := 2) hX dL_at_1 rfl rfl ?_
  refine r_tl (pc' := 3) hX dL_at_2 (by rw [hG]; exact fun _ _ _ z => z.2.2.2.2.2.2.2.2.2.2.2.2.2) rfl ?_
  change V X 0 0 ([]) [some (.ref (sa 90)), some (.int (nI k))] [.int (nI (sa 91)), .int (nI k)] 3
  refine r_icmp_ge_N (tgt := 12) (pc' := 6) hX dL_at_3 (by decide) rfl (by omega) (by omega) (fun c3 => ?_) (fun c3 => ?_)
  · refine r_iconst (pc' := 13) (v := nI 0) hX dL_at_12 rfl rfl ?_
    exact r_ireturn hX hE dL_at_13 rfl ⟨by unfold atS; rw [if_neg (by omega)]; rfl, rfl⟩ (by decide) (by decide)
  · refine r_aload_n (pc' := 7) hX dL_at_6 rfl rfl ?_
    refine r_iload_n (pc' := 8) hX dL_at_7 rfl rfl ?_
    refine r_ti (N := sa 91) (f := fun j => sa (1000 + j)) (pc' := 9) hX dL_at_8 (by rw [hG]; exact fun _ _ _ z => z.2.2.2.2.2.2.2.2.2.2.2.2.2) (by omega) (by omega) rfl ?_
    change V X 0 0 ([]) [some (.ref (sa 90)), some (.int (nI k))] [.int (nI (sa (1000 + k)))] 9
    refine r_goto (tgt := 13) hX dL_at_9 (by decide) ?_
    exact r_ireturn hX hE dL_at_13 rfl ⟨by unfold atS; rw [if_pos (by omega)], rfl⟩ (by decide) (by decide)

set_option maxRecDepth 20000 in
set_option maxHeartbeats 1000000 in
theorem cW_put {l : Launch} {D : va_G} {cy : Nat → ClassId} {sa : Nat → Nat} {f K i : Nat} {S : AS} {ws : va_W} (hi : i < 17) (hF : FS cy f (aBuf S []) ws) (hA : AJ K S) (hst : l.stackTraces = false) : MG l yL_put cL_put 3 none 8 40 6000 (D, cy, sa) [.ref f, .ref (sa (100 + i))] (ws) (fun w u => w = none ∧ FS cy f (aBuf S (ltx i)) u) := by
  refine MGL_by (own := RL) (L := [some (.ref f), some (.ref (sa (100 + i))), none]) (by decide +kernel) rfl rfl (Nat.le_of_ble_eq_true rfl) 1 rfl (fun X hX hE hnL hG hcy hl => ?_)
  have hln := ltx_n hi
  have ht := ltx_ch i hi
  refine r_iconst (pc' := 1) (v := nI 0) hX dL_put_0 rfl rfl ?_
  refine r_istore_n (L' := [some (.ref f), some (.ref (sa (100 + i))), some (.int (nI 0))]) (pc' := 2) hX dL_put_1 (nlt hnL (by decide)) rfl rfl rfl ?_
  have loop2 : ∀ (n9 : Nat) (j : Nat) (w9 : va_W), (ltx i).length + 1 - j < n9 → (j ≤ (ltx i).length) → (FS cy f (aBuf S ((ltx i).take j)) w9) → V X j (150 * j) (w9) [some (.ref f), some (.ref (sa (100 + i))), some (.int (nI j))] [] 2 := by
    intro n9
    induction n9 with
    | zero => intro j w9 hm; exact absurd hm (Nat.not_lt_zero _)
    | succ n9 ih2 =>
      intro j w9 hm hj hF9
      refine r_iload_n (pc' := 3) hX dL_put_2 rfl rfl ?_
      refine r_aload_n (pc' := 4) hX dL_put_3 rfl rfl ?_
      refine V_calln (k' := j) (n' := 150 * j) (pc' := 7) hX (r_runVO (As := []) hX dL_put_4 k_L_7 (fun l9 hl9 => cT_slen (by omega)) hG (by rw [hG]; exact fun _ _ _ z => (z.2.2.2.2.2.2.2.2.2.2.2.1 i (by omega)).1) rfl rfl (Nat.le_of_ble_eq_true rfl) (by decide) (by decide) (by omega) (by omega)) (by omega) (by omega) rfl (fun w9 hp9 => ?_)
      obtain rfl := hp9
      change V X j (150 * j) (w9) [some (.ref f), some (.ref (sa (100 + i))), some (.int (nI j))] [.int (nI ((ltx i).length)), .int (nI j)] 7
      refine r_icmp_ge_N (tgt := 26) (pc' := 10) hX dL_put_7 (by decide) rfl (by omega) (by omega) (fun c7 => ?_) (fun c7 => ?_)
      · exact r_vreturn hX hE dL_put_26 rfl ⟨rfl, put_all (show (ltx i).length ≤ j by omega) ▸ hF9⟩ (by omega) (by omega)
      · have hpt := put_ok (S := S) ht (by omega) (show j < (ltx i).length by omega)
        have hb9 := ltx_b i j
        refine r_aload_n (pc' := 11) hX dL_put_10 rfl rfl ?_
        refine r_aload_n (pc' := 12) hX dL_put_11 rfl rfl ?_
        refine r_iload_n (pc' := 13) hX dL_put_12 rfl rfl ?_
        refine V_calln (k' := j) (n' := 150 * j) (pc' := 16) hX (r_runVO (As := [.int (nI j)]) hX dL_put_13 k_L_13 (fun l9 hl9 => cT_sat (by omega) (by omega)) hG (by rw [hG]; exact fun _ _ _ z => (z.2.2.2.2.2.2.2.2.2.2.2.1 i (by omega)).1) rfl rfl (Nat.le_of_ble_eq_true rfl) (by decide) (by decide) (by omega) (by omega)) (by omega) (by omega) rfl (fun w9 hp9 => ?_)
        obtain rfl := hp9
        change V X j (150 * j) (w9) [some (.ref f), some (.ref (sa (100 + i))), some (.int (nI j))] [.int (nI ((ltx i).getD j 0)), .ref f] 16
        refine V_call0X (k' := j + 1) (n' := 150 * j + 150) (pc' := 19) hX (r_runVX (As := [.int (nI ((ltx i).getD j 0))]) hX dL_put_16 k_L_17 (fun l9 hl9 => by cases hl9; exact cF_type (v := (aBuf S ((ltx i).take j)).1) rfl hF9 ((put_buf hA ht)).1 (ch := (ltx i).getD j 0) (hch := by omega) (hst := (by rw [hl]; exact hst))) hG (FS_recv hF9) rfl rfl (Nat.le_of_ble_eq_true rfl) (by decide) (by decide) (by omega) (by omega)) (by omega) (by omega) rfl (fun w9 u1 hp9 => ?_) ?_
        · obtain ⟨okq, rfl, hF1⟩ := hp9
          rw [show (qType (aBuf S ((ltx i).take j)) ((ltx i).getD j 0) : Int32) = nI (j + 1) from hpt.1]
          change V X (j + 1) (150 * j + 150) (u1) [some (.ref f), some (.ref (sa (100 + i))), some (.int (nI j))] [.int (nI (j + 1))] 19
          refine r_pop (pc' := 20) hX dL_put_19 rfl rfl ?_
          refine r_iinc_N (b := 1) (L' := [some (.ref f), some (.ref (sa (100 + i))), some (.int (nI (j + 1)))]) (pc' := 23) hX dL_put_20 rfl (nlt hnL (by decide)) rfl rfl rfl ?_
          refine r_goto (tgt := 2) hX dL_put_23 (by decide) ?_
          refine V_widen (k' := j + 1) (n' := 150 * (j + 1)) (by omega) (by omega) ?_
          exact ih2 (j + 1) u1 (by omega) (by omega) (hpt.2 ▸ hF1)
        · intro E9 u9 hp9
          exact absurd hp9.1 (by rw [show (qType (aBuf S ((ltx i).take j)) ((ltx i).getD j 0) : Int32) = nI (j + 1) from hpt.1]; exact okN (by first | decide | omega))
  exact loop2 _ 0 ws (Nat.lt_succ_self _) (by omega) hF
theorem lit_buf {K i : Nat} {S : AS} (hi : i < 17) (h : AJ K S) : AJ K (aBuf S (ltx i)) := h.buf (fun c hc => by have := ltx_ch i hi c hc; omega)
theorem run_bad {S : AS} (h : (scr S).1 = true) : qRun S = -2 ∧ aRun S = aE S (nI (scr S).2.1) := by
  unfold qRun aRun
  rw [if_pos h, if_pos h]
  exact ⟨rfl, rfl⟩
theorem qErr_nI {n : Nat} (h : n < 2147483648) : qErr (nI n) = nI n := by
  unfold qErr
  rw [if_neg]
  intro h9
  have := congrArg Int32.toInt h9
  rw [nI_I h] at this
  exact absurd this (by show ¬ (n : Int) = -1; omega)
theorem aE_buf {S : AS} {t : List Nat} {x : Int32} : aE (aBuf S t) x = aE S x := rfl
set_option maxRecDepth 20000 in
set_option maxHeartbeats 1000000 in
theorem cW_putH {l : Launch} {D : va_G} {cy : Nat → ClassId} {sa : Nat → Nat} {f K s q n : Nat} {g : Nat → Nat} {t : List Nat} {S : AS} {ws : va_W} (h : STp n g t) (ht : ∀ x ∈ t, 32 ≤ x ∧ x ≤ 126) (h60 : n ≤ 60) (hF : FS cy f (aBuf S []) ws) (hA : AJ K S) (hst : l.stackTraces = false) : MG l yL_put cL_put 3 none 8 60 9000 (D, cy, sa) [.ref f, .ref s] ((([ws, wHS cy s q n g] : List va_W).flatten)) (fun w u => w = none ∧ ∃ w1, FS cy f (aBuf S t) w1 ∧ u = ([w1, wHS cy s q n g] : List va_W).flatten) := by
  refine MGL_by (own := RL) (L := [some (.ref f), some (.ref s), none]) (by decide +kernel) rfl rfl (Nat.le_of_ble_eq_true rfl) 1 rfl (fun X hX hE hnL hG hcy hl => ?_)
  have hln := h.1
  refine r_iconst (pc' := 1) (v := nI 0) hX dL_put_0 rfl rfl ?_
  refine r_istore_n (L' := [some (.ref f), some (.ref s), some (.int (nI 0))]) (pc' := 2) hX dL_put_1 (nlt hnL (by decide)) rfl rfl rfl ?_
  have loop2 : ∀ (n9 : Nat) (j : Nat) (w9 : va_W), t.length + 1 - j < n9 → (j ≤ t.length) → (FS cy f (aBuf S (t.take j)) w9) → V X j (150 * j) (([w9, wHS cy s q n g] : List va_W).flatten) [some (.ref f), some (.ref s), some (.int (nI j))] [] 2 := by
    intro n9
    induction n9 with
    | zero => intro j w9 hm; exact absurd hm (Nat.not_lt_zero _)
    | succ n9 ih2 =>
      intro j w9 hm hj hF9
      refine r_iload_n (pc' := 3) hX dL_put_2 rfl rfl ?_
      refine r_aload_n (pc' := 4) hX dL_put_3 rfl rfl ?_
      refine V_call (k' := j) (n' := 150 * j) (pc' := 7) (wr := ((([w9, wHS cy s q n g] : List va_W)).eraseIdx 1).flatten) hX (r_runV (As := []) hX dL_put_4 k_L_7 (fun l9 hl9 => cH_len) hG ⟨0, _, TJ0, 4, List.mem_cons_self, rfl⟩ rfl rfl (Nat.le_of_ble_eq_true rfl) (by decide) (by decide) (by omega) (by omega)) (fl_out 1 rfl) (by omega) (by omega) rfl (fun w9 u9 hp9 => ?_)
      obtain ⟨rfl, rfl⟩ := hp9
      change V X j (150 * j) (wHS cy s q n g ++ ((([w9, wHS cy s q n g] : List va_W)).eraseIdx 1).flatten) [some (.ref f), some (.ref s), some (.int (nI j))] [.int (nI n), .int (nI j)] 7
      refine V_perm (fl_back (bs := ([w9, wHS cy s q n g] : List va_W)) (bs' := ([w9, wHS cy s q n g] : List va_W)) 1 rfl rfl) ?_
      refine r_icmp_ge_N (tgt := 26) (pc' := 10) hX dL_put_7 (by decide) rfl (by omega) (by omega) (fun c7 => ?_) (fun c7 => ?_)
      · exact r_vreturn hX hE dL_put_26 rfl ⟨rfl, _, put_all (show t.length ≤ j by omega) ▸ hF9, rfl⟩ (by omega) (by omega)
      · have hpt := put_ok (S := S) ht (by omega) (show j < t.length by omega)
        have hb9 := (h.2.2 j (by omega)).2
        refine r_aload_n (pc' := 11) hX dL_put_10 rfl rfl ?_
        refine r_aload_n (pc' := 12) hX dL_put_11 rfl rfl ?_
        refine r_iload_n (pc' := 13) hX dL_put_12 rfl rfl ?_
        refine V_call (k' := j) (n' := 150 * j) (pc' := 16) (wr := ((([w9, wHS cy s q n g] : List va_W)).eraseIdx 1).flatten) hX (r_runV (As := [.int (nI j)]) hX dL_put_13 k_L_13 (fun l9 hl9 => cH_at h (by omega)) hG ⟨0, _, TJ0, 4, List.mem_cons_self, rfl⟩ rfl rfl (Nat.le_of_ble_eq_true rfl) (by decide) (by decide) (by omega) (by omega)) (fl_out 1 rfl) (by omega) (by omega) rfl (fun w9 u9 hp9 => ?_)
        obtain ⟨rfl, rfl⟩ := hp9
        change V X j (150 * j) (wHS cy s q n g ++ ((([w9, wHS cy s q n g] : List va_W)).eraseIdx 1).flatten) [some (.ref f), some (.ref s), some (.int (nI j))] [.int (nI (t.getD j 0)), .ref f] 16
        refine V_perm (fl_back (bs := ([w9, wHS cy s q n g] : List va_W)) (bs' := ([w9, wHS cy s q n g] : List va_W)) 1 rfl rfl) ?_
        refine V_callX (k' := j + 1) (n' := 150 * j + 150) (pc' := 19) (wr := ((([w9, wHS cy s q n g] : List va_W)).eraseIdx 0).flatten) hX (r_runVX (As := [.int (nI (t.getD j 0))]) hX dL_put_16 k_L_17 (fun l9 hl9 => by cases hl9; exact cF_type (v := (aBuf S (t.take j)).1) rfl hF9 ((put_buf hA ht)).1 (ch := t.getD j 0) (hch := by omega) (hst := (by rw [hl]; exact hst))) hG (FS_recv hF9) rfl rfl (Nat.le_of_ble_eq_true rfl) (by decide) (by decide) (by omega) (by omega)) (fl_out 0 rfl) (by omega) (by omega) rfl (fun w9 u2 hp9 => ?_) ?_
        · obtain ⟨okq, rfl, hF2⟩ := hp9
          rw [show (qType (aBuf S (t.take j)) (t.getD j 0) : Int32) = nI (j + 1) from hpt.1]
          change V X (j + 1) (150 * j + 150) (u2 ++ ((([w9, wHS cy s q n g] : List va_W)).eraseIdx 0).flatten) [some (.ref f), some (.ref s), some (.int (nI j))] [.int (nI (j + 1))] 19
          refine V_perm (fl_back (bs := ([w9, wHS cy s q n g] : List va_W)) (bs' := ([u2, wHS cy s q n g] : List va_W)) 0 rfl rfl) ?_
          change V X (j + 1) (150 * j + 150) (([u2, wHS cy s q n g] : List va_W).flatten) [some (.ref f), some (.ref s), some (.int (nI j))] [.int (nI (j + 1))] 19
          refine r_pop (pc' := 20) hX dL_put_19 rfl rfl ?_
          refine r_iinc_N (b := 1) (L' := [some (.ref f), some (.ref s), some (.int (nI (j + 1)))]) (pc' := 23) hX dL_put_20 rfl (nlt hnL (by decide)) rfl rfl rfl ?_
          refine r_goto (tgt := 2) hX dL_put_23 (by decide) ?_
          refine V_widen (k' := j + 1) (n' := 150 * (j + 1)) (by omega) (by omega) ?_
          exact ih2 (j + 1) u2 (by omega) (by omega) (hpt.2 ▸ hF2)
        · intro E9 u9 hp9
          exact absurd hp9.1 (by rw [show (qType (aBuf S (t.take j)) (t.getD j 0) : Int32) = nI (j + 1) from hpt.1]; exact okN (by first | decide | omega))
  exact loop2 _ 0 ws (Nat.lt_succ_self _) (by omega) hF

set_option maxRecDepth 20000 in
set_option maxHeartbeats 1000000 in
theorem cW_fails {l : Launch} {D : va_G} {cy : Nat → ClassId} {sa : Nat → Nat} {f K i p : Nat} {S : AS} {ws : va_W} (hi : i < 17) (hsc : (pall (ltx i) 61 0).1 = true) (hps : (pall (ltx i) 61 0).2.1 = p) (hp9 : p < 100) (hF : FS cy f (aBuf S []) ws) (hA : AJ K S) (hK : K + 61 ≤ 100000) (hst : l.stackTraces = false) : MG l yL_fails cL_fails 3 (some .boolean) 11 43 6162 (D, cy, sa) [.ref f, .ref (sa (100 + i)), .int (nI p)] (ws) (fun w u => w = some (.int (nI 1)) ∧ FS cy f (aE S (nI p)) u) := by
  refine MGL_by (own := RL) (L := [some (.ref f), some (.ref (sa (100 + i))), some (.int (nI p))]) (by decide +kernel) rfl rfl (Nat.le_of_ble_eq_true rfl) 0 rfl (fun X hX hE hnL hG hcy hl => ?_)
  have hrb := run_bad (S := aBuf S (ltx i)) hsc
  have hrs : aRun (aBuf S (ltx i)) = aE S (nI p) := by rw [hrb.2, ← hps]; rfl
  have hA9 : AJ (K + 61) (aE S (nI p)) := by rw [← hrs]; exact (lit_buf hi hA).run hK
  refine r_aload_n (pc' := 1) hX dL_fails_0 rfl rfl ?_
  refine r_aload_n (pc' := 2) hX dL_fails_1 rfl rfl ?_
  refine V_call0 (k' := 40) (n' := 6000) (pc' := 5) hX (r_runS (As := [.ref f, .ref (sa (100 + i))]) hX dL_fails_2 k_L_146 (fun l9 hl9 => by cases hl9; exact cW_put hi hF hA (hst := (by rw [hl]; exact hst))) hG rfl rfl (Nat.le_of_ble_eq_true rfl) (by decide) (by decide) (by decide) (by decide)) rfl rfl rfl (fun w9 u3 hp9 => ?_)
  obtain ⟨rfl, hF3⟩ := hp9
  change V X 40 6000 (u3) [some (.ref f), some (.ref (sa (100 + i))), some (.int (nI p))] [] 5
  refine r_aload_n (pc' := 6) hX dL_fails_5 rfl rfl ?_
  refine V_call0 (k' := 40 + 2) (n' := 6000 + 156) (pc' := 9) hX (r_runSW (As := [.ref f]) hX dL_fails_6 kw_L_158 (fun l9 hl9 => by cases hl9; exact cW_runs (S := aBuf S (ltx i)) hF3 (lit_buf hi hA) hK (hst := (by rw [hl]; exact hst))) hG rfl rfl (Nat.le_of_ble_eq_true rfl) (by decide) (by decide) (by omega) (by omega)) (by omega) (by omega) rfl (fun w9 u4 hp9 => ?_)
  obtain ⟨rfl, hF4⟩ := hp9
  rw [show rnR (qRun (aBuf S (ltx i))) = -1 from by rw [hrb.1]; rfl]
  rw [hrs] at hF4
  change V X (40 + 2) (6000 + 156) (u4) [some (.ref f), some (.ref (sa (100 + i))), some (.int (nI p))] [.int (-1)] 9
  refine r_iconst (pc' := 10) (v := (-1)) hX dL_fails_9 rfl rfl ?_
  refine r_icmp_ne (tgt := 25) (pc' := 13) hX dL_fails_10 (by decide) rfl (fun c10 => ?_) (fun c10 => ?_)
  · exact absurd rfl c10
  · refine r_aload_n (pc' := 14) hX dL_fails_13 rfl rfl ?_
    refine V_call0X (k' := 40 + 2 + 1) (n' := 6000 + 156 + 6) (pc' := 17) hX (r_runVX (As := []) hX dL_fails_14 k_L_262 (fun l9 hl9 => by cases hl9; exact cF_errorPosition (v := (aE S (nI p)).1) rfl hF4 (hA9).1 (hst := (by rw [hl]; exact hst)) (hlo := (hA9 : AJ _ _).2.2.1)) hG (FS_recv hF4) rfl rfl (Nat.le_of_ble_eq_true rfl) (by decide) (by decide) (by omega) (by omega)) (by omega) (by omega) rfl (fun w9 u5 hp9 => ?_) ?_
    · obtain ⟨okq, rfl, hF5⟩ := hp9
      rw [show (qErr (aE S (nI p)).2.2.2.2.2.1 : Int32) = nI p from qErr_nI (by omega)]
      change V X (40 + 2 + 1) (6000 + 156 + 6) (u5) [some (.ref f), some (.ref (sa (100 + i))), some (.int (nI p))] [.int (nI p)] 17
      refine r_iload_n (pc' := 18) hX dL_fails_17 rfl rfl ?_
      refine r_icmp_ne_N (tgt := 25) (pc' := 21) hX dL_fails_18 (by decide) rfl (by omega) (by omega) (fun c18 => ?_) (fun c18 => ?_)
      · exact absurd c18 (by omega)
      · refine r_iconst (pc' := 22) (v := nI 1) hX dL_fails_21 rfl rfl ?_
        refine r_goto (tgt := 26) hX dL_fails_22 (by decide) ?_
        exact r_zreturn hX hE dL_fails_26 rfl rfl ⟨rfl, hF5⟩ (by omega) (by omega)
    · intro E9 u9 hp9
      exact absurd hp9.1 (by rw [show (qErr (aE S (nI p)).2.2.2.2.2.1 : Int32) = nI p from qErr_nI (by omega)]; exact okN (by first | decide | omega))

set_option maxRecDepth 20000 in
set_option maxHeartbeats 1000000 in
theorem cW_has {l : Launch} {D : va_G} {cy : Nat → ClassId} {sa : Nat → Nat} {f K : Nat} {S : AS} {ws : va_W} (h4 : S.1 0 4 = 1) (h0 : S.1 13 0 = 1) (hF : FS cy f S ws) (hA : AJ K S) (hst : l.stackTraces = false) : MG l yL_has cL_has 3 (some .boolean) 7 1 6 (D, cy, sa) [.ref f, .int (nI 1)] (ws) (fun w u => w = some (.int (nI 1)) ∧ FS cy f S u) := by
  refine MGL_by (own := RL) (L := [some (.ref f), some (.int (nI 1)), none]) (by decide +kernel) rfl rfl (Nat.le_of_ble_eq_true rfl) 1 rfl (fun X hX hE hnL hG hcy hl => ?_)
  refine r_iconst (pc' := 1) (v := nI 0) hX dL_has_0 rfl rfl ?_
  refine r_istore_n (L' := [some (.ref f), some (.int (nI 1)), some (.int (nI 0))]) (pc' := 2) hX dL_has_1 (nlt hnL (by decide)) rfl rfl rfl ?_
  refine r_iload_n (pc' := 3) hX dL_has_2 rfl rfl ?_
  refine r_aload_n (pc' := 4) hX dL_has_3 rfl rfl ?_
  refine V_call0 (k' := 0) (n' := 0) (pc' := 7) hX (r_runV (As := []) hX dL_has_4 k_L_37 (fun l9 hl9 => cF_batchCount (v := S.1) rfl hF (hA).1) hG (FS_recv hF) rfl rfl (Nat.le_of_ble_eq_true rfl) (by decide) (by decide) (by decide) (by decide)) rfl rfl rfl (fun w9 u6 hp9 => ?_)
  obtain ⟨okq, rfl, hF6⟩ := hp9
  rw [h4]
  change V X 0 0 (u6) [some (.ref f), some (.int (nI 1)), some (.int (nI 0))] [.int (nI 1), .int (nI 0)] 7
  refine r_icmp_ge_N (tgt := 27) (pc' := 10) hX dL_has_7 (by decide) rfl (by omega) (by omega) (fun c7 => ?_) (fun c7 => ?_)
  · exact absurd c7 (by omega)
  · refine r_aload_n (pc' := 11) hX dL_has_10 rfl rfl ?_
    refine r_iload_n (pc' := 12) hX dL_has_11 rfl rfl ?_
    refine V_call0X (k' := 1) (n' := 6) (pc' := 15) hX (r_runVX (As := [.int (nI 0)]) hX dL_has_12 k_L_40 (fun l9 hl9 => by cases hl9; exact cF_batchAt (v := S.1) rfl hF6 (hA).1 (hst := (by rw [hl]; exact hst))) hG (FS_recv hF6) rfl rfl (Nat.le_of_ble_eq_true rfl) (by decide) (by decide) (by decide) (by decide)) rfl rfl rfl (fun w9 u7 hp9 => ?_) ?_
    · obtain ⟨okq, rfl, hF7⟩ := hp9
      rw [show (qAt S.1 (nI 0) : Int32) = nI 1 from by unfold qAt; rw [if_pos ((inR_nI (by decide)).mpr (by omega)), tn_nI (by decide), h0]]
      change V X 1 6 (u7) [some (.ref f), some (.int (nI 1)), some (.int (nI 0))] [.int (nI 1)] 15
      refine r_iload_n (pc' := 16) hX dL_has_15 rfl rfl ?_
      refine r_icmp_ne_N (tgt := 21) (pc' := 19) hX dL_has_16 (by decide) rfl (by omega) (by omega) (fun c16 => ?_) (fun c16 => ?_)
      · exact absurd c16 (by omega)
      · refine r_iconst (pc' := 20) (v := nI 1) hX dL_has_19 rfl rfl ?_
        exact r_zreturn hX hE dL_has_20 rfl rfl ⟨rfl, hF7⟩ (by omega) (by omega)
    · intro E9 u9 hp9
      exact absurd hp9.1 (by rw [show (qAt S.1 (nI 0) : Int32) = nI 1 from by unfold qAt; rw [if_pos ((inR_nI (by decide)).mpr (by omega)), tn_nI (by decide), h0]]; exact okN (by first | decide | omega))
