/-! ===== the squeaks of a batch, the digest of a foundry ===== -/
theorem plc_lt {v : SV} {k : Nat} (hk : k < v 0 4) : plc v (v (13 + k) 0 : Int) < v 0 4 := by
  refine Classical.byContradiction fun h => ?_
  have h9 : lst (fun i => (v (13 + i) 0 : Int) = (v (13 + k) 0 : Int)) (v 0 4) ≤ k := by
    refine Classical.byContradiction fun h8 => ?_
    exact lst_min (p := fun i => (v (13 + i) 0 : Int) = (v (13 + k) 0 : Int)) (n := v 0 4) (j := k) (by omega) rfl
  exact h (Nat.lt_of_le_of_lt h9 hk)
theorem plb_lt {v : SV} {x p : Nat} (hp : p < v 0 4) (h1 : v (13 + p) 1 ≤ x) (h2 : x < v (13 + p) 1 + v (13 + p) 2) : plb v (x : Int) < v 0 4 := by
  refine Classical.byContradiction fun h => ?_
  have h9 : plb v (x : Int) ≤ p := by
    refine Classical.byContradiction fun h8 => ?_
    exact lst_min (p := fun i => (v (13 + i) 1 : Int) ≤ (x : Int) ∧ (x : Int) < (v (13 + i) 1 : Int) + (v (13 + i) 2 : Int)) (n := v 0 4) (j := p) (show p < plb v (x : Int) by omega) ⟨by omega, by omega⟩
  exact h (Nat.lt_of_le_of_lt h9 hp)
theorem ok_qN {c : Prop} [Decidable c] {n : Nat} {z : Int32} (hc : c) (h : n < 2147483648) : okA (if c then nI n else z) := by rw [if_pos hc]; exact okN h
section DG
variable {v : SV}
theorem bt_eq {f : SV → Nat → Nat} {b : Nat} (hb : b < 2147483648) (hp : plc v (b : Int) < v 0 4) : qBat f v (nI b) = nI (f v (plc v (b : Int))) := by
  unfold qBat
  rw [nI_I hb, if_pos hp]
theorem sq_ok (hv : Wf v) {x p : Nat} (hp : p < v 0 4) (h1 : v (13 + p) 1 ≤ x) (h2 : x < v (13 + p) 1 + v (13 + p) 2) (hx : x < 2147483648) : okA (qSqk v (nI x)) := by
  rcases qSqk_q (x := nI x) hv with h | h
  · exact fun q => by omega
  · exfalso
    have h9 := plb_lt hp h1 h2
    unfold qSqk at h
    rw [nI_I hx, if_pos h9] at h
    have h5 := qSqk_lo hv (nI x)
    have h8 : (qSqk v (nI x)).toInt = -5 := by unfold qSqk; rw [nI_I hx, if_pos h9, h]; rfl
    have hsp : (v (13 + plb v (x : Int)) 1 : Int) ≤ (x : Int) ∧ (x : Int) < (v (13 + plb v (x : Int)) 1 : Int) + (v (13 + plb v (x : Int)) 2 : Int) := lst_spec (n := v 0 4) h9
    have hb := (hv.2.2.2.2.2.2.1 _ h9).2.2.2.2.2 (tn (nI x) - v (13 + plb v (x : Int)) 1) (by rw [tn_nI hx]; omega)
    have h7 : (v (21 + plb v (x : Int)) (tn (nI x) - v (13 + plb v (x : Int)) 1) : Nat) < 2147483648 := by omega
    have h6 := congrArg Int32.toInt h
    rw [nI_I h7] at h6
    exact absurd h6 (by show ¬ ((v (21 + plb v (x : Int)) (tn (nI x) - v (13 + plb v (x : Int)) 1) : Nat) : Int) = -5; omega)
end DG
/-- the digest, as its loops go -/
def dg0 (v : SV) : Int32 := nI (31 * (31 * (31 * (31 * v 0 6 + v 0 7) + v 0 8) + v 0 2) + v 0 3)
def dg1 (v : SV) : Nat → Int32
  | 0 => dg0 v
  | j + 1 => nI 31 * (nI 31 * dg1 v j + qMet 3 v (nI j)) + qMet 6 v (nI j)
def dgP (v : SV) (a : Nat) (z : Int32) : Nat → Int32
  | 0 => z
  | i + 1 => nI 31 * dgP v a z i + qParts v (nI a) (nI i)
def dg2 (v : SV) : Nat → Int32
  | 0 => dg1 v 3
  | j + 1 => dgP v j (dg2 v j) 3
def dg3 (v : SV) : Nat → Int32
  | 0 => dg2 v (v 0 0)
  | j + 1 => nI 31 * (nI 31 * dg3 v j + qMld 1 v (nI j)) + qMld 2 v (nI j)
def dgQ (f : Nat → Int32) (z : Int32) : Nat → Int32
  | 0 => z
  | i + 1 => nI 31 * dgQ f z i + f i
/-- the place of the batch at place j (its number's) -/
def pj (v : SV) (j : Nat) : Nat := plc v (v (13 + j) 0 : Int)
def dgB (v : SV) (j : Nat) (z : Int32) : Int32 := nI 31 * (nI 31 * (nI 31 * z + nI (v (13 + j) 0)) + nI (v (13 + pj v j) 1)) + nI (if ¬ v (13 + pj v j) 4 = 0 then 1 else 0)
def dg4 (v : SV) : Nat → Int32
  | 0 => dg3 v (v 0 1)
  | j + 1 => dgQ (fun i => qSqk v (nI (v (13 + pj v j) 1 + i))) (dgB v j (dg4 v j)) (v (13 + pj v j) 2)
def dg (v : SV) : Int32 := nI 31 * dg4 v (v 0 4) + nI (v 0 4)
theorem dgQ_congr {f g : Nat → Int32} {z : Int32} : ∀ {n : Nat}, (∀ i, i < n → f i = g i) → dgQ f z n = dgQ g z n
  | 0, _ => rfl
  | n + 1, h => by rw [dgQ, dgQ, dgQ_congr (fun i hi => h i (by omega)), h n (by omega)]
set_option maxRecDepth 20000 in
set_option maxHeartbeats 1000000 in
theorem cW_squeaks {l : Launch} {D : va_G} {cy : Nat → ClassId} {sa : Nat → Nat} {f K bn : Nat} {S : AS} {ws : va_W} (hbn : bn < 2147483648) (hp : plc S.1 (bn : Int) < S.1 0 4) (hF : FS cy f S ws) (hA : AJ K S) (hst : l.stackTraces = false) : MG l yL_squeaks cL_squeaks 4 (some (.array .int)) 9 20 123 (D, cy, sa) [.ref f, .int (nI bn)] (ws) (fun w u => ∃ (q : Nat) (g : Nat → Int32) (w1 : va_W), w = some (.ref q) ∧ u = [(q, .inl (cy 0, aI (S.1 (13 + plc S.1 (bn : Int)) 2) g))] ++ w1 ∧ FS cy f S w1 ∧ ∀ i, i < S.1 (13 + plc S.1 (bn : Int)) 2 → g i = qSqk S.1 (nI (S.1 (13 + plc S.1 (bn : Int)) 1 + i))) := by
  refine MGL_by (own := RL) (L := [some (.ref f), some (.int (nI bn)), none, none]) (by decide +kernel) rfl rfl (Nat.le_of_ble_eq_true rfl) 2 rfl (fun X hX hE hnL hG hcy hl => ?_)
  have hv : Wf S.1 := hA.1.1.1.1
  obtain ⟨⟨hs1, hs9⟩, -, -, -, hf9, -⟩ := hv.2.2.2.2.2.2.1 _ hp
  obtain ⟨nq, hnq⟩ : ∃ nq, nq = S.1 (13 + plc S.1 (bn : Int)) 2 := ⟨_, rfl⟩
  obtain ⟨fq, hfq⟩ : ∃ fq, fq = S.1 (13 + plc S.1 (bn : Int)) 1 := ⟨_, rfl⟩
  rw [← hnq] at hs1 hs9
  rw [← hfq] at hf9
  refine r_aload_n (pc' := 1) hX dL_squeaks_0 rfl rfl ?_
  refine r_iload_n (pc' := 2) hX dL_squeaks_1 rfl rfl ?_
  refine V_call0X (k' := 1) (n' := 6) (pc' := 5) hX (r_runVX (As := [.int (nI bn)]) hX dL_squeaks_2 k_L_84 (fun l9 hl9 => by cases hl9; exact cF_batchSize (v := S.1) rfl hF (hA).1 (hst := (by rw [hl]; exact hst))) hG (FS_recv hF) rfl rfl (Nat.le_of_ble_eq_true rfl) (by decide) (by decide) (by decide) (by decide)) rfl rfl rfl (fun w9 u8 hp9 => ?_) ?_
  · obtain ⟨okq, rfl, hF8⟩ := hp9
    rw [show (qBat (bNum 2) S.1 (nI bn) : Int32) = nI nq from by rw [bt_eq hbn hp, hnq]; rfl]
    change V X 1 6 (u8) [some (.ref f), some (.int (nI bn)), none, none] [.int (nI nq)] 5
    refine r_newI (N := nq) (k' := 1 + 1) (n' := 6 + nq) (pc' := 7) hX dL_squeaks_5 hcy (by omega) rfl rfl (by omega) (by omega) rfl (fun q5 => ?_)
    refine V_perm List.perm_append_comm ?_
    change V X (1 + 1) (6 + nq) ([(q5, .inl (cy 0, aI nq (fun _ => nI 0)))] ++ u8) [some (.ref f), some (.int (nI bn)), none, none] [.ref q5] 7
    refine r_astore_n (L' := [some (.ref f), some (.int (nI bn)), some (.ref q5), none]) (pc' := 8) hX dL_squeaks_7 (nlt hnL (by decide)) rfl rfl rfl ?_
    refine r_iconst (pc' := 9) (v := nI 0) hX dL_squeaks_8 rfl rfl ?_
    refine r_istore_n (L' := [some (.ref f), some (.int (nI bn)), some (.ref q5), some (.int (nI 0))]) (pc' := 10) hX dL_squeaks_9 (nlt hnL (by decide)) rfl rfl rfl ?_
    have loop10 : ∀ (n9 : Nat) (j : Nat) (w9 : va_W) (g9 : Nat → Int32), nq + 1 - j < n9 → (j ≤ nq) → (FS cy f S w9) → (∀ i, i < j → g9 i = qSqk S.1 (nI (fq + i))) → V X (2 + 2 * j) (15 + 12 * j) ([(q5, .inl (cy 0, aI nq g9))] ++ w9) [some (.ref f), some (.int (nI bn)), some (.ref q5), some (.int (nI j))] [] 10 := by
      intro n9
      induction n9 with
      | zero => intro j w9 g9 hm; exact absurd hm (Nat.not_lt_zero _)
      | succ n9 ih10 =>
        intro j w9 g9 hm hj hF9 hg
        refine r_iload_n (pc' := 11) hX dL_squeaks_10 rfl rfl ?_
        refine r_aload_n (pc' := 12) hX dL_squeaks_11 rfl rfl ?_
        refine r_alen (n0 := nq) (pc' := 13) hX dL_squeaks_12 0 (by rw [hcy]; rfl) (List.mem_append_left _ List.mem_cons_self) rfl rfl ?_
        refine r_icmp_ge_N (tgt := 36) (pc' := 16) hX dL_squeaks_13 (by decide) rfl (by omega) (by omega) (fun c13 => ?_) (fun c13 => ?_)
        · refine r_aload_n (pc' := 37) hX dL_squeaks_36 rfl rfl ?_
          exact r_areturn hX hE dL_squeaks_37 rfl (Or.inr ⟨_, rfl⟩) (Or.inr ⟨_, rfl⟩) ⟨_, _, _, rfl, by rw [← hnq], hF9, fun i hi => by rw [← hfq]; exact hg i (by omega)⟩ (by omega) (by omega)
        · refine r_aload_n (pc' := 17) hX dL_squeaks_16 rfl rfl ?_
          refine r_iload_n (pc' := 18) hX dL_squeaks_17 rfl rfl ?_
          refine r_aload_n (pc' := 19) hX dL_squeaks_18 rfl rfl ?_
          refine r_aload_n (pc' := 20) hX dL_squeaks_19 rfl rfl ?_
          refine r_iload_n (pc' := 21) hX dL_squeaks_20 rfl rfl ?_
          refine V_callX (k' := 2 + 2 * j + 1) (n' := 15 + 12 * j + 6) (pc' := 24) (wr := [(q5, .inl (cy 0, aI nq g9))]) hX (r_runVX (As := [.int (nI bn)]) hX dL_squeaks_21 k_L_87 (fun l9 hl9 => by cases hl9; exact cF_firstBow (v := S.1) rfl hF9 (hA).1 (hst := (by rw [hl]; exact hst))) hG (FS_recv hF9) rfl rfl (Nat.le_of_ble_eq_true rfl) (by decide) (by decide) (by omega) (by omega)) (List.perm_append_comm) (by omega) (by omega) rfl (fun w9 u9 hp9 => ?_) ?_
          · obtain ⟨okq, rfl, hF9⟩ := hp9
            rw [show (qBat (bNum 1) S.1 (nI bn) : Int32) = nI fq from by rw [bt_eq hbn hp, hfq]; rfl]
            change V X (2 + 2 * j + 1) (15 + 12 * j + 6) (u9 ++ [(q5, .inl (cy 0, aI nq g9))]) [some (.ref f), some (.int (nI bn)), some (.ref q5), some (.int (nI j))] [.int (nI fq), .ref f, .int (nI j), .ref q5] 24
            refine V_perm (List.perm_append_comm) ?_
            change V X (2 + 2 * j + 1) (15 + 12 * j + 6) ([(q5, .inl (cy 0, aI nq g9))] ++ u9) [some (.ref f), some (.int (nI bn)), some (.ref q5), some (.int (nI j))] [.int (nI fq), .ref f, .int (nI j), .ref q5] 24
            refine r_iload_n (pc' := 25) hX dL_squeaks_24 rfl rfl ?_
            refine r_iadd_N (pc' := 26) hX dL_squeaks_25  rfl ?_
            refine V_callX (k' := 2 + 2 * j + 1 + 1) (n' := 15 + 12 * j + 6 + 6) (pc' := 29) (wr := [(q5, .inl (cy 0, aI nq g9))]) hX (r_runVX (As := [.int (nI (fq + j))]) hX dL_squeaks_26 k_L_90 (fun l9 hl9 => by cases hl9; exact cF_squeak (v := S.1) rfl hF9 (hA).1 (hst := (by rw [hl]; exact hst))) hG (FS_recv hF9) rfl rfl (Nat.le_of_ble_eq_true rfl) (by decide) (by decide) (by omega) (by omega)) (List.perm_append_comm) (by omega) (by omega) rfl (fun w9 u10 hp9 => ?_) ?_
            · obtain ⟨okq, rfl, hF10⟩ := hp9
              change V X (2 + 2 * j + 1 + 1) (15 + 12 * j + 6 + 6) (u10 ++ [(q5, .inl (cy 0, aI nq g9))]) [some (.ref f), some (.int (nI bn)), some (.ref q5), some (.int (nI j))] [.int (qSqk S.1 (nI (fq + j))), .int (nI j), .ref q5] 29
              refine V_perm (List.perm_append_comm) ?_
              change V X (2 + 2 * j + 1 + 1) (15 + 12 * j + 6 + 6) ([(q5, .inl (cy 0, aI nq g9))] ++ u10) [some (.ref f), some (.int (nI bn)), some (.ref q5), some (.int (nI j))] [.int (qSqk S.1 (nI (fq + j))), .int (nI j), .ref q5] 29
              refine r_iast (f := g9) (ws' := [(q5, .inl (cy 0, aI nq (upd g9 j (qSqk S.1 (nI (fq + j))))))] ++ u10) (pc' := 30) hX dL_squeaks_29 (by rw [hcy]) 0 rfl (by omega) (by omega) rfl rfl ?_
              refine r_iinc_N (b := 1) (L' := [some (.ref f), some (.int (nI bn)), some (.ref q5), some (.int (nI (j + 1)))]) (pc' := 33) hX dL_squeaks_30 rfl (nlt hnL (by decide)) rfl rfl rfl ?_
              refine r_goto (tgt := 10) hX dL_squeaks_33 (by decide) ?_
              refine V_widen (k' := 2 + 2 * (j + 1)) (n' := 15 + 12 * (j + 1)) (by omega) (by omega) ?_
              exact ih10 (j + 1) u10 (upd g9 j (qSqk S.1 (nI (fq + j)))) (by omega) (by omega) hF10 (fun i hi => by
                unfold upd
                by_cases e : i = j
                · rw [if_pos e, e]
                · rw [if_neg e]; exact hg i (by omega))
            · intro E9 u9 hp9
              exact absurd hp9.1 (sq_ok hv hp (by omega) (by omega) (by omega))
          · intro E9 u9 hp9
            exact absurd hp9.1 (by rw [show (qBat (bNum 1) S.1 (nI bn) : Int32) = nI fq from by rw [bt_eq hbn hp, hfq]; rfl]; exact okN (by first | decide | omega))
    refine V_widen (k' := 2 + 2 * 0) (n' := 15 + 12 * 0) (by omega) (by omega) ?_
    exact loop10 _ 0 u8 (fun _ => nI 0) (Nat.lt_succ_self _) (by omega) hF8 (fun i hi => absurd hi (Nat.not_lt_zero _))
  · intro E9 u9 hp9
    exact absurd hp9.1 (by rw [show (qBat (bNum 2) S.1 (nI bn) : Int32) = nI nq from by rw [bt_eq hbn hp, hnq]; rfl]; exact okN (by first | decide | omega))

set_option maxRecDepth 20000 in
set_option maxHeartbeats 1000000 in
theorem cW_state {l : Launch} {D : va_G} {cy : Nat → ClassId} {sa : Nat → Nat} {f K : Nat} {S : AS} {ws : va_W} (hF : FS cy f S ws) (hA : AJ K S) (hK : K ≤ 100000) (hst : l.stackTraces = false) : MG l yL_state cL_state 8 (some .int) 10 216 1320 (D, cy, sa) [.ref f] (ws) (fun w u => w = some (.int (dg S.1)) ∧ FS cy f S u) := by
  refine MGL_by (own := RL) (L := [some (.ref f), none, none, none, none, none, none, none]) (by decide +kernel) rfl rfl (Nat.le_of_ble_eq_true rfl) 7 rfl (fun X hX hE hnL hG hcy hl => ?_)
  have hv : Wf S.1 := hA.1.1.1.1
  have hI9 : Inv K S.1 := hA.1.1.1
  have h6 := hv.1
  have h4 := hv.2.1
  have h8 := hv.2.2.1
  refine r_bipush (pc' := 2) (v := nI 31) hX dL_state_0 rfl rfl ?_
  refine r_bipush (pc' := 4) (v := nI 31) hX dL_state_2 rfl rfl ?_
  refine r_bipush (pc' := 6) (v := nI 31) hX dL_state_4 rfl rfl ?_
  refine r_bipush (pc' := 8) (v := nI 31) hX dL_state_6 rfl rfl ?_
  refine r_aload_n (pc' := 9) hX dL_state_8 rfl rfl ?_
  refine V_call0 (k' := 0) (n' := 0) (pc' := 12) hX (r_runV (As := []) hX dL_state_9 k_L_93 (fun l9 hl9 => cF_castTotal (v := S.1) rfl hF (hA).1) hG (FS_recv hF) rfl rfl (Nat.le_of_ble_eq_true rfl) (by decide) (by decide) (by decide) (by decide)) rfl rfl rfl (fun w9 u11 hp9 => ?_)
  obtain ⟨okq, rfl, hF11⟩ := hp9
  change V X 0 0 (u11) [some (.ref f), none, none, none, none, none, none, none] [.int (nI (S.1 0 6)), .int (nI 31), .int (nI 31), .int (nI 31), .int (nI 31)] 12
  refine r_imul_N (pc' := 13) hX dL_state_12  rfl ?_
  refine r_aload_n (pc' := 14) hX dL_state_13 rfl rfl ?_
  refine V_call0 (k' := 0) (n' := 0) (pc' := 17) hX (r_runV (As := []) hX dL_state_14 k_L_96 (fun l9 hl9 => cF_soldTotal (v := S.1) rfl hF11 (hA).1) hG (FS_recv hF11) rfl rfl (Nat.le_of_ble_eq_true rfl) (by decide) (by decide) (by decide) (by decide)) rfl rfl rfl (fun w9 u12 hp9 => ?_)
  obtain ⟨okq, rfl, hF12⟩ := hp9
  change V X 0 0 (u12) [some (.ref f), none, none, none, none, none, none, none] [.int (nI (S.1 0 7)), .int (nI (31 * (S.1 0 6))), .int (nI 31), .int (nI 31), .int (nI 31)] 17
  refine r_iadd_N (pc' := 18) hX dL_state_17  rfl ?_
  refine r_imul_N (pc' := 19) hX dL_state_18  rfl ?_
  refine r_aload_n (pc' := 20) hX dL_state_19 rfl rfl ?_
  refine V_call0 (k' := 0) (n' := 0) (pc' := 23) hX (r_runV (As := []) hX dL_state_20 k_L_99 (fun l9 hl9 => cF_meltedTotal (v := S.1) rfl hF12 (hA).1) hG (FS_recv hF12) rfl rfl (Nat.le_of_ble_eq_true rfl) (by decide) (by decide) (by decide) (by decide)) rfl rfl rfl (fun w9 u13 hp9 => ?_)
  obtain ⟨okq, rfl, hF13⟩ := hp9
  change V X 0 0 (u13) [some (.ref f), none, none, none, none, none, none, none] [.int (nI (S.1 0 8)), .int (nI (31 * ((31 * (S.1 0 6)) + (S.1 0 7)))), .int (nI 31), .int (nI 31)] 23
  refine r_iadd_N (pc' := 24) hX dL_state_23  rfl ?_
  refine r_imul_N (pc' := 25) hX dL_state_24  rfl ?_
  refine r_aload_n (pc' := 26) hX dL_state_25 rfl rfl ?_
  refine V_call0 (k' := 0) (n' := 0) (pc' := 29) hX (r_runV (As := []) hX dL_state_26 k_L_102 (fun l9 hl9 => cF_tolerance (v := S.1) rfl hF13 (hA).1) hG (FS_recv hF13) rfl rfl (Nat.le_of_ble_eq_true rfl) (by decide) (by decide) (by decide) (by decide)) rfl rfl rfl (fun w9 u14 hp9 => ?_)
  obtain ⟨okq, rfl, hF14⟩ := hp9
  change V X 0 0 (u14) [some (.ref f), none, none, none, none, none, none, none] [.int (nI (S.1 0 2)), .int (nI (31 * ((31 * ((31 * (S.1 0 6)) + (S.1 0 7))) + (S.1 0 8)))), .int (nI 31)] 29
  refine r_iadd_N (pc' := 30) hX dL_state_29  rfl ?_
  refine r_imul_N (pc' := 31) hX dL_state_30  rfl ?_
  refine r_aload_n (pc' := 32) hX dL_state_31 rfl rfl ?_
  refine V_call0 (k' := 0) (n' := 0) (pc' := 35) hX (r_runV (As := []) hX dL_state_32 k_L_105 (fun l9 hl9 => cF_step (v := S.1) rfl hF14 (hA).1) hG (FS_recv hF14) rfl rfl (Nat.le_of_ble_eq_true rfl) (by decide) (by decide) (by decide) (by decide)) rfl rfl rfl (fun w9 u15 hp9 => ?_)
  obtain ⟨okq, rfl, hF15⟩ := hp9
  change V X 0 0 (u15) [some (.ref f), none, none, none, none, none, none, none] [.int (nI (S.1 0 3)), .int (nI (31 * ((31 * ((31 * ((31 * (S.1 0 6)) + (S.1 0 7))) + (S.1 0 8))) + (S.1 0 2))))] 35
  refine r_iadd_N (pc' := 36) hX dL_state_35  rfl ?_
  refine r_istore_n (L' := [some (.ref f), some (.int (nI ((31 * ((31 * ((31 * ((31 * (S.1 0 6)) + (S.1 0 7))) + (S.1 0 8))) + (S.1 0 2))) + (S.1 0 3)))), none, none, none, none, none, none]) (pc' := 37) hX dL_state_36 (nlt hnL (by decide)) rfl rfl rfl ?_
  refine r_iconst (pc' := 38) (v := nI 0) hX dL_state_37 rfl rfl ?_
  refine r_istore_n (L' := [some (.ref f), some (.int (nI ((31 * ((31 * ((31 * ((31 * (S.1 0 6)) + (S.1 0 7))) + (S.1 0 8))) + (S.1 0 2))) + (S.1 0 3)))), some (.int (nI 0)), none, none, none, none, none]) (pc' := 39) hX dL_state_38 (nlt hnL (by decide)) rfl rfl rfl ?_
  have loop39 : ∀ (n9 : Nat) (j : Nat) (z : Int32) (w9 : va_W), 3 + 1 - j < n9 → (j ≤ 3) → (z = dg1 S.1 j) → (FS cy f S w9) → V X (0 + 2 * j) (0 + 12 * j) (w9) [some (.ref f), some (.int z), some (.int (nI j)), none, none, none, none, none] [] 39 := by
    intro n9
    induction n9 with
    | zero => intro j z w9 hm; exact absurd hm (Nat.not_lt_zero _)
    | succ n9 ih39 =>
      intro j z w9 hm hjj hzj hF9
      refine r_iload_n (pc' := 40) hX dL_state_39 rfl rfl ?_
      refine r_iconst (pc' := 41) (v := nI 3) hX dL_state_40 rfl rfl ?_
      refine r_icmp_ge_N (tgt := 70) (pc' := 44) hX dL_state_41 (by decide) rfl (by omega) (by omega) (fun c41 => ?_) (fun c41 => ?_)
      · refine r_iconst (pc' := 71) (v := nI 0) hX dL_state_70 rfl rfl ?_
        refine r_istore_n (L' := [some (.ref f), some (.int z), some (.int (nI 0)), none, none, none, none, none]) (pc' := 72) hX dL_state_71 (nlt hnL (by decide)) rfl rfl rfl ?_
        have loop72 : ∀ (n9 : Nat) (j : Nat) (z : Int32) (w9 : va_W), (S.1 0 0) + 1 - j < n9 → (j ≤ S.1 0 0) → (z = dg2 S.1 j) → (FS cy f S w9) → V X (6 + 3 * j) (36 + 18 * j) (w9) [some (.ref f), some (.int z), some (.int (nI j)), none, none, none, none, none] [] 72 := by
          intro n9
          induction n9 with
          | zero => intro j z w9 hm; exact absurd hm (Nat.not_lt_zero _)
          | succ n9 ih72 =>
            intro j z w9 hm hjj hzj hF9
            refine r_iload_n (pc' := 73) hX dL_state_72 rfl rfl ?_
            refine r_aload_n (pc' := 74) hX dL_state_73 rfl rfl ?_
            refine V_call0 (k' := 6 + 3 * j) (n' := 36 + 18 * j) (pc' := 77) hX (r_runV (As := []) hX dL_state_74 k_L_34 (fun l9 hl9 => cF_alloyCount (v := S.1) rfl hF9 (hA).1) hG (FS_recv hF9) rfl rfl (Nat.le_of_ble_eq_true rfl) (by decide) (by decide) (by omega) (by omega)) (by omega) (by omega) rfl (fun w9 u16 hp9 => ?_)
            obtain ⟨okq, rfl, hF16⟩ := hp9
            change V X (6 + 3 * j) (36 + 18 * j) (u16) [some (.ref f), some (.int z), some (.int (nI j)), none, none, none, none, none] [.int (nI (S.1 0 0)), .int (nI j)] 77
            refine r_icmp_ge_N (tgt := 111) (pc' := 80) hX dL_state_77 (by decide) rfl (by omega) (by omega) (fun c77 => ?_) (fun c77 => ?_)
            · refine r_iconst (pc' := 112) (v := nI 0) hX dL_state_111 rfl rfl ?_
              refine r_istore_n (L' := [some (.ref f), some (.int z), some (.int (nI 0)), none, none, none, none, none]) (pc' := 113) hX dL_state_112 (nlt hnL (by decide)) rfl rfl rfl ?_
              have loop113 : ∀ (n9 : Nat) (j : Nat) (z : Int32) (w9 : va_W), (S.1 0 1) + 1 - j < n9 → (j ≤ S.1 0 1) → (z = dg3 S.1 j) → (FS cy f S w9) → V X (24 + 2 * j) (144 + 12 * j) (w9) [some (.ref f), some (.int z), some (.int (nI j)), none, none, none, none, none] [] 113 := by
                intro n9
                induction n9 with
                | zero => intro j z w9 hm; exact absurd hm (Nat.not_lt_zero _)
                | succ n9 ih113 =>
                  intro j z w9 hm hjj hzj hF9
                  refine r_iload_n (pc' := 114) hX dL_state_113 rfl rfl ?_
                  refine r_aload_n (pc' := 115) hX dL_state_114 rfl rfl ?_
                  refine V_call0 (k' := 24 + 2 * j) (n' := 144 + 12 * j) (pc' := 118) hX (r_runV (As := []) hX dL_state_115 k_L_117 (fun l9 hl9 => cF_mouldCount (v := S.1) rfl hF9 (hA).1) hG (FS_recv hF9) rfl rfl (Nat.le_of_ble_eq_true rfl) (by decide) (by decide) (by omega) (by omega)) (by omega) (by omega) rfl (fun w9 u17 hp9 => ?_)
                  obtain ⟨okq, rfl, hF17⟩ := hp9
                  change V X (24 + 2 * j) (144 + 12 * j) (u17) [some (.ref f), some (.int z), some (.int (nI j)), none, none, none, none, none] [.int (nI (S.1 0 1)), .int (nI j)] 118
                  refine r_icmp_ge_N (tgt := 147) (pc' := 121) hX dL_state_118 (by decide) rfl (by omega) (by omega) (fun c118 => ?_) (fun c118 => ?_)
                  · refine r_iconst (pc' := 148) (v := nI 0) hX dL_state_147 rfl rfl ?_
                    refine r_istore_n (L' := [some (.ref f), some (.int z), some (.int (nI 0)), none, none, none, none, none]) (pc' := 149) hX dL_state_148 (nlt hnL (by decide)) rfl rfl rfl ?_
                    have loop149 : ∀ (n9 : Nat) (j : Nat) (z : Int32) (w9 : va_W), (S.1 0 4) + 1 - j < n9 → (j ≤ S.1 0 4) → (z = dg4 S.1 j) → (FS cy f S w9) → V X (32 + 23 * j) (192 + 141 * j) (w9) [some (.ref f), some (.int z), some (.int (nI j)), none, none, none, none, none] [] 149 := by
                      intro n9
                      induction n9 with
                      | zero => intro j z w9 hm; exact absurd hm (Nat.not_lt_zero _)
                      | succ n9 ih149 =>
                        intro j z w9 hm hjj hzj hF9
                        refine r_iload_n (pc' := 150) hX dL_state_149 rfl rfl ?_
                        refine r_aload_n (pc' := 151) hX dL_state_150 rfl rfl ?_
                        refine V_call0 (k' := 32 + 23 * j) (n' := 192 + 141 * j) (pc' := 154) hX (r_runV (As := []) hX dL_state_151 k_L_37 (fun l9 hl9 => cF_batchCount (v := S.1) rfl hF9 (hA).1) hG (FS_recv hF9) rfl rfl (Nat.le_of_ble_eq_true rfl) (by decide) (by decide) (by omega) (by omega)) (by omega) (by omega) rfl (fun w9 u18 hp9 => ?_)
                        obtain ⟨okq, rfl, hF18⟩ := hp9
                        change V X (32 + 23 * j) (192 + 141 * j) (u18) [some (.ref f), some (.int z), some (.int (nI j)), none, none, none, none, none] [.int (nI (S.1 0 4)), .int (nI j)] 154
                        refine r_icmp_ge_N (tgt := 245) (pc' := 157) hX dL_state_154 (by decide) rfl (by omega) (by omega) (fun c154 => ?_) (fun c154 => ?_)
                        · refine r_bipush (pc' := 247) (v := nI 31) hX dL_state_245 rfl rfl ?_
                          refine r_iload_n (pc' := 248) hX dL_state_247 rfl rfl ?_
                          refine r_imul (pc' := 249) hX dL_state_248 rfl ?_
                          refine r_aload_n (pc' := 250) hX dL_state_249 rfl rfl ?_
                          refine V_call0 (k' := 32 + 23 * j) (n' := 192 + 141 * j) (pc' := 253) hX (r_runV (As := []) hX dL_state_250 k_L_37 (fun l9 hl9 => cF_batchCount (v := S.1) rfl hF18 (hA).1) hG (FS_recv hF18) rfl rfl (Nat.le_of_ble_eq_true rfl) (by decide) (by decide) (by omega) (by omega)) (by omega) (by omega) rfl (fun w9 u19 hp9 => ?_)
                          obtain ⟨okq, rfl, hF19⟩ := hp9
                          change V X (32 + 23 * j) (192 + 141 * j) (u19) [some (.ref f), some (.int z), some (.int (nI j)), none, none, none, none, none] [.int (nI (S.1 0 4)), .int ((nI 31) * z)] 253
                          refine r_iadd (pc' := 254) hX dL_state_253 rfl ?_
                          exact r_ireturn hX hE dL_state_254 rfl ⟨by rw [hzj, show j = S.1 0 4 by omega]; rfl, hF19⟩ (by omega) (by omega)
                        · have hpj : pj S.1 j < S.1 0 4 := plc_lt (by omega)
                          have hbn : S.1 (13 + j) 0 < 2147483648 := by have := (hv.2.2.2.2.2.2.1 j (by omega)).2.2.2.1; omega
                          obtain ⟨⟨hs1, hs9⟩, -, hfl, -, hff, -⟩ := hv.2.2.2.2.2.2.1 (pj S.1 j) hpj
                          refine r_aload_n (pc' := 158) hX dL_state_157 rfl rfl ?_
                          refine r_iload_n (pc' := 159) hX dL_state_158 rfl rfl ?_
                          refine V_call0X (k' := 32 + 23 * j + 1) (n' := 192 + 141 * j + 6) (pc' := 162) hX (r_runVX (As := [.int (nI j)]) hX dL_state_159 k_L_40 (fun l9 hl9 => by cases hl9; exact cF_batchAt (v := S.1) rfl hF18 (hA).1 (hst := (by rw [hl]; exact hst))) hG (FS_recv hF18) rfl rfl (Nat.le_of_ble_eq_true rfl) (by decide) (by decide) (by omega) (by omega)) (by omega) (by omega) rfl (fun w9 u20 hp9 => ?_) ?_
                          · obtain ⟨okq, rfl, hF20⟩ := hp9
                            rw [show (qAt S.1 (nI j) : Int32) = nI (S.1 (13 + j) 0) from by unfold qAt; rw [if_pos ((inR_nI (by omega)).mpr (by omega)), tn_nI (by omega)]]
                            change V X (32 + 23 * j + 1) (192 + 141 * j + 6) (u20) [some (.ref f), some (.int z), some (.int (nI j)), none, none, none, none, none] [.int (nI (S.1 (13 + j) 0))] 162
                            refine r_istore_n (L' := [some (.ref f), some (.int z), some (.int (nI j)), some (.int (nI (S.1 (13 + j) 0))), none, none, none, none]) (pc' := 163) hX dL_state_162 (nlt hnL (by decide)) rfl rfl rfl ?_
                            refine r_bipush (pc' := 165) (v := nI 31) hX dL_state_163 rfl rfl ?_
                            refine r_bipush (pc' := 167) (v := nI 31) hX dL_state_165 rfl rfl ?_
                            refine r_bipush (pc' := 169) (v := nI 31) hX dL_state_167 rfl rfl ?_
                            refine r_iload_n (pc' := 170) hX dL_state_169 rfl rfl ?_
                            refine r_imul (pc' := 171) hX dL_state_170 rfl ?_
                            refine r_iload_n (pc' := 172) hX dL_state_171 rfl rfl ?_
                            refine r_iadd (pc' := 173) hX dL_state_172 rfl ?_
                            refine r_imul (pc' := 174) hX dL_state_173 rfl ?_
                            refine r_aload_n (pc' := 175) hX dL_state_174 rfl rfl ?_
                            refine r_iload_n (pc' := 176) hX dL_state_175 rfl rfl ?_
                            refine V_call0X (k' := 32 + 23 * j + 1 + 1) (n' := 192 + 141 * j + 6 + 6) (pc' := 179) hX (r_runVX (As := [.int (nI (S.1 (13 + j) 0))]) hX dL_state_176 k_L_87 (fun l9 hl9 => by cases hl9; exact cF_firstBow (v := S.1) rfl hF20 (hA).1 (hst := (by rw [hl]; exact hst))) hG (FS_recv hF20) rfl rfl (Nat.le_of_ble_eq_true rfl) (by decide) (by decide) (by omega) (by omega)) (by omega) (by omega) rfl (fun w9 u21 hp9 => ?_) ?_
                            · obtain ⟨okq, rfl, hF21⟩ := hp9
                              rw [show (qBat (bNum 1) S.1 (nI (S.1 (13 + j) 0)) : Int32) = nI (S.1 (13 + pj S.1 j) 1) from by rw [bt_eq hbn hpj]; rfl]
                              change V X (32 + 23 * j + 1 + 1) (192 + 141 * j + 6 + 6) (u21) [some (.ref f), some (.int z), some (.int (nI j)), some (.int (nI (S.1 (13 + j) 0))), none, none, none, none] [.int (nI (S.1 (13 + pj S.1 j) 1)), .int ((nI 31) * (((nI 31) * z) + (nI (S.1 (13 + j) 0)))), .int (nI 31)] 179
                              refine r_iadd (pc' := 180) hX dL_state_179 rfl ?_
                              refine r_imul (pc' := 181) hX dL_state_180 rfl ?_
                              refine r_aload_n (pc' := 182) hX dL_state_181 rfl rfl ?_
                              refine r_iload_n (pc' := 183) hX dL_state_182 rfl rfl ?_
                              refine V_call0X (k' := 32 + 23 * j + 1 + 1 + 1) (n' := 192 + 141 * j + 6 + 6 + 6) (pc' := 186) hX (r_runVX (As := [.int (nI (S.1 (13 + j) 0))]) hX dL_state_183 k_L_126 (fun l9 hl9 => by cases hl9; exact cF_isFailed (v := S.1) rfl hF21 (hA).1 (hst := (by rw [hl]; exact hst))) hG (FS_recv hF21) rfl rfl (Nat.le_of_ble_eq_true rfl) (by decide) (by decide) (by omega) (by omega)) (by omega) (by omega) rfl (fun w9 u22 hp9 => ?_) ?_
                              · obtain ⟨okq, rfl, hF22⟩ := hp9
                                rw [show (qBat (bNum 4) S.1 (nI (S.1 (13 + j) 0)) : Int32) = nI (S.1 (13 + pj S.1 j) 4) from by rw [bt_eq hbn hpj]; rfl]
                                change V X (32 + 23 * j + 1 + 1 + 1) (192 + 141 * j + 6 + 6 + 6) (u22) [some (.ref f), some (.int z), some (.int (nI j)), some (.int (nI (S.1 (13 + j) 0))), none, none, none, none] [.int (nI (S.1 (13 + pj S.1 j) 4)), .int ((nI 31) * (((nI 31) * (((nI 31) * z) + (nI (S.1 (13 + j) 0)))) + (nI (S.1 (13 + pj S.1 j) 1))))] 186
                                have join194 : ∀ (b9 : Nat), (b9 = if ¬ S.1 (13 + pj S.1 j) 4 = 0 then 1 else 0) → V X (32 + 23 * j + 1 + 1 + 1) (192 + 141 * j + 6 + 6 + 6) (u22) [some (.ref f), some (.int z), some (.int (nI j)), some (.int (nI (S.1 (13 + j) 0))), none, none, none, none] [.int (nI b9), .int ((nI 31) * (((nI 31) * (((nI 31) * z) + (nI (S.1 (13 + j) 0)))) + (nI (S.1 (13 + pj S.1 j) 1))))] 194 := by
                                  intro b9 hb9
                                  refine r_iadd (pc' := 195) hX dL_state_194 rfl ?_
                                  refine r_istore_n (L' := [some (.ref f), some (.int (((nI 31) * (((nI 31) * (((nI 31) * z) + (nI (S.1 (13 + j) 0)))) + (nI (S.1 (13 + pj S.1 j) 1)))) + (nI b9))), some (.int (nI j)), some (.int (nI (S.1 (13 + j) 0))), none, none, none, none]) (pc' := 196) hX dL_state_195 (nlt hnL (by decide)) rfl rfl rfl ?_
                                  refine r_aload_n (pc' := 197) hX dL_state_196 rfl rfl ?_
                                  refine r_iload_n (pc' := 198) hX dL_state_197 rfl rfl ?_
                                  refine V_call0 (k' := 32 + 23 * j + 1 + 1 + 1 + 20) (n' := 192 + 141 * j + 6 + 6 + 6 + 123) (pc' := 201) hX (r_runS (As := [.ref f, .int (nI (S.1 (13 + j) 0))]) hX dL_state_198 k_L_129 (fun l9 hl9 => by cases hl9; exact cW_squeaks (bn := S.1 (13 + j) 0) hbn hpj hF22 hA (hst := (by rw [hl]; exact hst))) hG rfl rfl (Nat.le_of_ble_eq_true rfl) (by decide) (by decide) (by omega) (by omega)) (by omega) (by omega) rfl (fun w9 u24 hp9 => ?_)
                                  obtain ⟨q9, gq, v24, rfl, rfl, hF24, hgq⟩ := hp9
                                  change V X (32 + 23 * j + 1 + 1 + 1 + 20) (192 + 141 * j + 6 + 6 + 6 + 123) ([(q9, .inl (cy 0, aI (S.1 (13 + pj S.1 j) 2) gq))] ++ v24) [some (.ref f), some (.int (((nI 31) * (((nI 31) * (((nI 31) * z) + (nI (S.1 (13 + j) 0)))) + (nI (S.1 (13 + pj S.1 j) 1)))) + (nI b9))), some (.int (nI j)), some (.int (nI (S.1 (13 + j) 0))), none, none, none, none] [.ref q9] 201
                                  refine r_astore (L' := [some (.ref f), some (.int (((nI 31) * (((nI 31) * (((nI 31) * z) + (nI (S.1 (13 + j) 0)))) + (nI (S.1 (13 + pj S.1 j) 1)))) + (nI b9))), some (.int (nI j)), some (.int (nI (S.1 (13 + j) 0))), some (.ref q9), none, none, none]) (pc' := 203) hX dL_state_201 (nlt hnL (by decide)) rfl rfl rfl ?_
                                  refine r_aload (pc' := 205) hX dL_state_203 rfl rfl ?_
                                  refine r_alen (n0 := S.1 (13 + pj S.1 j) 2) (pc' := 206) hX dL_state_205 0 (by rw [hcy]; rfl) (List.mem_append_left _ List.mem_cons_self) rfl rfl ?_
                                  refine r_istore (L' := [some (.ref f), some (.int (((nI 31) * (((nI 31) * (((nI 31) * z) + (nI (S.1 (13 + j) 0)))) + (nI (S.1 (13 + pj S.1 j) 1)))) + (nI b9))), some (.int (nI j)), some (.int (nI (S.1 (13 + j) 0))), some (.ref q9), some (.int (nI (S.1 (13 + pj S.1 j) 2))), none, none]) (pc' := 208) hX dL_state_206 (nlt hnL (by decide)) rfl rfl rfl ?_
                                  refine r_iconst (pc' := 209) (v := nI 0) hX dL_state_208 rfl rfl ?_
                                  refine r_istore (L' := [some (.ref f), some (.int (((nI 31) * (((nI 31) * (((nI 31) * z) + (nI (S.1 (13 + j) 0)))) + (nI (S.1 (13 + pj S.1 j) 1)))) + (nI b9))), some (.int (nI j)), some (.int (nI (S.1 (13 + j) 0))), some (.ref q9), some (.int (nI (S.1 (13 + pj S.1 j) 2))), some (.int (nI 0)), none]) (pc' := 211) hX dL_state_209 (nlt hnL (by decide)) rfl rfl rfl ?_
                                  have loop211 : ∀ (n9 : Nat) (i : Nat) (y : Int32), S.1 (13 + pj S.1 j) 2 + 1 - i < n9 → (i ≤ S.1 (13 + pj S.1 j) 2) → (y = dgQ gq (((nI 31) * (((nI 31) * (((nI 31) * z) + (nI (S.1 (13 + j) 0)))) + (nI (S.1 (13 + pj S.1 j) 1)))) + (nI b9)) i) → V X (32 + 23 * j + 1 + 1 + 1 + 20) (192 + 141 * j + 6 + 6 + 6 + 123) ([(q9, .inl (cy 0, aI (S.1 (13 + pj S.1 j) 2) gq))] ++ v24) [some (.ref f), some (.int y), some (.int (nI j)), some (.int (nI (S.1 (13 + j) 0))), some (.ref q9), some (.int (nI (S.1 (13 + pj S.1 j) 2))), some (.int (nI i)), none] [] 211 := by
                                    intro n9
                                    induction n9 with
                                    | zero => intro i y hm; exact absurd hm (Nat.not_lt_zero _)
                                    | succ n9 ih211 =>
                                      intro i y hm hji hzi
                                      refine r_iload (pc' := 213) hX dL_state_211 rfl rfl ?_
                                      refine r_iload (pc' := 215) hX dL_state_213 rfl rfl ?_
                                      refine r_icmp_ge_N (tgt := 239) (pc' := 218) hX dL_state_215 (by decide) rfl (by omega) (by omega) (fun c215 => ?_) (fun c215 => ?_)
                                      · refine V_perm List.perm_append_comm (V_drop ?_)
                                        refine r_iinc_N (b := 1) (L' := [some (.ref f), some (.int y), some (.int (nI (j + 1))), some (.int (nI (S.1 (13 + j) 0))), some (.ref q9), some (.int (nI (S.1 (13 + pj S.1 j) 2))), some (.int (nI i)), none]) (pc' := 242) hX dL_state_239 rfl (nlt hnL (by decide)) rfl rfl rfl ?_
                                        refine r_goto (tgt := 149) hX dL_state_242 (by decide) ?_
                                        refine V_widen (k' := 32 + 23 * (j + 1)) (n' := 192 + 141 * (j + 1)) (by omega) (by omega) ?_
                                        refine V_loc (L' := [some (.ref f), some (.int y), some (.int (nI (j + 1))), none, none, none, none, none]) (lo_w ⟨.inr rfl, .inr rfl, .inr rfl, .inl rfl, .inl rfl, .inl rfl, .inl rfl, .inr rfl, trivial⟩) ?_
                                        exact ih149 (j + 1) y v24 (by omega) (by omega) (by rw [hzi, show i = S.1 (13 + pj S.1 j) 2 by omega, hb9, hzj]; exact dgQ_congr (g := fun i => qSqk S.1 (nI (S.1 (13 + pj S.1 j) 1 + i))) (fun i hi => hgq i hi)) hF24
                                      · refine r_aload (pc' := 220) hX dL_state_218 rfl rfl ?_
                                        refine r_iload (pc' := 222) hX dL_state_220 rfl rfl ?_
                                        refine r_iald (f := gq) (x := gq i) (pc' := 223) hX dL_state_222 (by rw [hcy]) (List.mem_append_left _ List.mem_cons_self) (by omega) (by omega) rfl rfl ?_
                                        refine r_istore (L' := [some (.ref f), some (.int y), some (.int (nI j)), some (.int (nI (S.1 (13 + j) 0))), some (.ref q9), some (.int (nI (S.1 (13 + pj S.1 j) 2))), some (.int (nI i)), some (.int (gq i))]) (pc' := 225) hX dL_state_223 (nlt hnL (by decide)) rfl rfl rfl ?_
                                        refine r_bipush (pc' := 227) (v := nI 31) hX dL_state_225 rfl rfl ?_
                                        refine r_iload_n (pc' := 228) hX dL_state_227 rfl rfl ?_
                                        refine r_imul (pc' := 229) hX dL_state_228 rfl ?_
                                        refine r_iload (pc' := 231) hX dL_state_229 rfl rfl ?_
                                        refine r_iadd (pc' := 232) hX dL_state_231 rfl ?_
                                        refine r_istore_n (L' := [some (.ref f), some (.int (((nI 31) * y) + (gq i))), some (.int (nI j)), some (.int (nI (S.1 (13 + j) 0))), some (.ref q9), some (.int (nI (S.1 (13 + pj S.1 j) 2))), some (.int (nI i)), some (.int (gq i))]) (pc' := 233) hX dL_state_232 (nlt hnL (by decide)) rfl rfl rfl ?_
                                        refine r_iinc_N (b := 1) (L' := [some (.ref f), some (.int (((nI 31) * y) + (gq i))), some (.int (nI j)), some (.int (nI (S.1 (13 + j) 0))), some (.ref q9), some (.int (nI (S.1 (13 + pj S.1 j) 2))), some (.int (nI (i + 1))), some (.int (gq i))]) (pc' := 236) hX dL_state_233 rfl (nlt hnL (by decide)) rfl rfl rfl ?_
                                        refine r_goto (tgt := 211) hX dL_state_236 (by decide) ?_
                                        refine V_loc (L' := [some (.ref f), some (.int (((nI 31) * y) + (gq i))), some (.int (nI j)), some (.int (nI (S.1 (13 + j) 0))), some (.ref q9), some (.int (nI (S.1 (13 + pj S.1 j) 2))), some (.int (nI (i + 1))), none]) (lo_w ⟨.inr rfl, .inr rfl, .inr rfl, .inr rfl, .inr rfl, .inr rfl, .inr rfl, .inl rfl, trivial⟩) ?_
                                        exact ih211 (i + 1) (((nI 31) * y) + (gq i)) (by omega) (by omega) (by rw [hzi]; rfl)
                                  exact loop211 _ 0 (((nI 31) * (((nI 31) * (((nI 31) * z) + (nI (S.1 (13 + j) 0)))) + (nI (S.1 (13 + pj S.1 j) 1)))) + (nI b9)) (Nat.lt_succ_self _) (by omega) rfl
                                refine r_if_eq_N (tgt := 193) (pc' := 189) hX dL_state_186 (by decide) rfl (by omega) (fun c186 => ?_) (fun c186 => ?_)
                                · refine r_iconst (pc' := 194) (v := nI 0) hX dL_state_193 rfl rfl ?_
                                  exact join194 0 (by first | exact (if_pos c186).symm | exact (if_neg (fun h9 => h9 c186)).symm)
                                · refine r_iconst (pc' := 190) (v := nI 1) hX dL_state_189 rfl rfl ?_
                                  refine r_goto (tgt := 194) hX dL_state_190 (by decide) ?_
                                  exact join194 1 (by first | exact (if_pos c186).symm | exact (if_neg (fun h9 => h9 c186)).symm)
                              · intro E9 u9 hp9
                                exact absurd hp9.1 (by rw [show (qBat (bNum 4) S.1 (nI (S.1 (13 + j) 0)) : Int32) = nI (S.1 (13 + pj S.1 j) 4) from by rw [bt_eq hbn hpj]; rfl]; exact okN (by first | decide | omega))
                            · intro E9 u9 hp9
                              exact absurd hp9.1 (by rw [show (qBat (bNum 1) S.1 (nI (S.1 (13 + j) 0)) : Int32) = nI (S.1 (13 + pj S.1 j) 1) from by rw [bt_eq hbn hpj]; rfl]; exact okN (by first | decide | omega))
                          · intro E9 u9 hp9
                            exact absurd hp9.1 (by rw [show (qAt S.1 (nI j) : Int32) = nI (S.1 (13 + j) 0) from by unfold qAt; rw [if_pos ((inR_nI (by omega)).mpr (by omega)), tn_nI (by omega)]]; exact okN (by first | decide | omega))
                    refine V_widen (k' := 32 + 23 * 0) (n' := 192 + 141 * 0) (by omega) (by omega) ?_
                    exact loop149 _ 0 z u17 (Nat.lt_succ_self _) (by omega) (by rw [hzj, show j = S.1 0 1 by omega]; rfl) hF17
                  · refine r_bipush (pc' := 123) (v := nI 31) hX dL_state_121 rfl rfl ?_
                    refine r_bipush (pc' := 125) (v := nI 31) hX dL_state_123 rfl rfl ?_
                    refine r_iload_n (pc' := 126) hX dL_state_125 rfl rfl ?_
                    refine r_imul (pc' := 127) hX dL_state_126 rfl ?_
                    refine r_aload_n (pc' := 128) hX dL_state_127 rfl rfl ?_
                    refine r_iload_n (pc' := 129) hX dL_state_128 rfl rfl ?_
                    refine V_call0X (k' := 24 + 2 * j + 1) (n' := 144 + 12 * j + 6) (pc' := 132) hX (r_runVX (As := [.int (nI j)]) hX dL_state_129 k_L_120 (fun l9 hl9 => by cases hl9; exact cF_mouldLength (v := S.1) rfl hF17 (hA).1 (hst := (by rw [hl]; exact hst))) hG (FS_recv hF17) rfl rfl (Nat.le_of_ble_eq_true rfl) (by decide) (by decide) (by omega) (by omega)) (by omega) (by omega) rfl (fun w9 u25 hp9 => ?_) ?_
                    · obtain ⟨okq, rfl, hF25⟩ := hp9
                      change V X (24 + 2 * j + 1) (144 + 12 * j + 6) (u25) [some (.ref f), some (.int z), some (.int (nI j)), none, none, none, none, none] [.int (qMld 1 S.1 (nI j)), .int ((nI 31) * z), .int (nI 31)] 132
                      refine r_iadd (pc' := 133) hX dL_state_132 rfl ?_
                      refine r_imul (pc' := 134) hX dL_state_133 rfl ?_
                      refine r_aload_n (pc' := 135) hX dL_state_134 rfl rfl ?_
                      refine r_iload_n (pc' := 136) hX dL_state_135 rfl rfl ?_
                      refine V_call0X (k' := 24 + 2 * j + 1 + 1) (n' := 144 + 12 * j + 6 + 6) (pc' := 139) hX (r_runVX (As := [.int (nI j)]) hX dL_state_136 k_L_123 (fun l9 hl9 => by cases hl9; exact cF_uses (v := S.1) rfl hF25 (hA).1 (hst := (by rw [hl]; exact hst))) hG (FS_recv hF25) rfl rfl (Nat.le_of_ble_eq_true rfl) (by decide) (by decide) (by omega) (by omega)) (by omega) (by omega) rfl (fun w9 u26 hp9 => ?_) ?_
                      · obtain ⟨okq, rfl, hF26⟩ := hp9
                        change V X (24 + 2 * j + 1 + 1) (144 + 12 * j + 6 + 6) (u26) [some (.ref f), some (.int z), some (.int (nI j)), none, none, none, none, none] [.int (qMld 2 S.1 (nI j)), .int ((nI 31) * (((nI 31) * z) + (qMld 1 S.1 (nI j))))] 139
                        refine r_iadd (pc' := 140) hX dL_state_139 rfl ?_
                        refine r_istore_n (L' := [some (.ref f), some (.int (((nI 31) * (((nI 31) * z) + (qMld 1 S.1 (nI j)))) + (qMld 2 S.1 (nI j)))), some (.int (nI j)), none, none, none, none, none]) (pc' := 141) hX dL_state_140 (nlt hnL (by decide)) rfl rfl rfl ?_
                        refine r_iinc_N (b := 1) (L' := [some (.ref f), some (.int (((nI 31) * (((nI 31) * z) + (qMld 1 S.1 (nI j)))) + (qMld 2 S.1 (nI j)))), some (.int (nI (j + 1))), none, none, none, none, none]) (pc' := 144) hX dL_state_141 rfl (nlt hnL (by decide)) rfl rfl rfl ?_
                        refine r_goto (tgt := 113) hX dL_state_144 (by decide) ?_
                        refine V_widen (k' := 24 + 2 * (j + 1)) (n' := 144 + 12 * (j + 1)) (by omega) (by omega) ?_
                        exact ih113 (j + 1) (((nI 31) * (((nI 31) * z) + (qMld 1 S.1 (nI j)))) + (qMld 2 S.1 (nI j))) u26 (by omega) (by omega) (by rw [hzj]; rfl) hF26
                      · intro E9 u9 hp9
                        exact absurd hp9.1 (ok_qN ((inR_nI (by omega)).mpr (by omega)) (by have := (hv.2.2.2.2.2.2.2.2.1 j (by omega)).2; rw [tn_nI (by omega)]; omega))
                    · intro E9 u9 hp9
                      exact absurd hp9.1 (ok_qN ((inR_nI (by omega)).mpr (by omega)) (by have := (hv.2.2.2.2.2.2.2.2.1 j (by omega)).1; rw [tn_nI (by omega)]; omega))
              refine V_widen (k' := 24 + 2 * 0) (n' := 144 + 12 * 0) (by omega) (by omega) ?_
              exact loop113 _ 0 z u16 (Nat.lt_succ_self _) (by omega) (by rw [hzj, show j = S.1 0 0 by omega]; rfl) hF16
            · refine r_iconst (pc' := 81) (v := nI 0) hX dL_state_80 rfl rfl ?_
              refine r_istore_n (L' := [some (.ref f), some (.int z), some (.int (nI j)), some (.int (nI 0)), none, none, none, none]) (pc' := 82) hX dL_state_81 (nlt hnL (by decide)) rfl rfl rfl ?_
              have loop82 : ∀ (n9 : Nat) (i : Nat) (y : Int32) (w9 : va_W), 3 + 1 - i < n9 → (i ≤ 3) → (y = dgP S.1 j (dg2 S.1 j) i) → (FS cy f S w9) → V X (6 + 3 * j + 1 * i) (36 + 18 * j + 6 * i) (w9) [some (.ref f), some (.int y), some (.int (nI j)), some (.int (nI i)), none, none, none, none] [] 82 := by
                intro n9
                induction n9 with
                | zero => intro i y w9 hm; exact absurd hm (Nat.not_lt_zero _)
                | succ n9 ih82 =>
                  intro i y w9 hm hji hzi hF9
                  refine r_iload_n (pc' := 83) hX dL_state_82 rfl rfl ?_
                  refine r_iconst (pc' := 84) (v := nI 3) hX dL_state_83 rfl rfl ?_
                  refine r_icmp_ge_N (tgt := 105) (pc' := 87) hX dL_state_84 (by decide) rfl (by omega) (by omega) (fun c84 => ?_) (fun c84 => ?_)
                  · refine r_iinc_N (b := 1) (L' := [some (.ref f), some (.int y), some (.int (nI (j + 1))), some (.int (nI i)), none, none, none, none]) (pc' := 108) hX dL_state_105 rfl (nlt hnL (by decide)) rfl rfl rfl ?_
                    refine r_goto (tgt := 72) hX dL_state_108 (by decide) ?_
                    refine V_widen (k' := 6 + 3 * (j + 1)) (n' := 36 + 18 * (j + 1)) (by omega) (by omega) ?_
                    refine V_loc (L' := [some (.ref f), some (.int y), some (.int (nI (j + 1))), none, none, none, none, none]) (lo_w ⟨.inr rfl, .inr rfl, .inr rfl, .inl rfl, .inr rfl, .inr rfl, .inr rfl, .inr rfl, trivial⟩) ?_
                    exact ih72 (j + 1) y w9 (by omega) (by omega) (by rw [hzi, show i = 3 by omega]; rfl) hF9
                  · refine r_bipush (pc' := 89) (v := nI 31) hX dL_state_87 rfl rfl ?_
                    refine r_iload_n (pc' := 90) hX dL_state_89 rfl rfl ?_
                    refine r_imul (pc' := 91) hX dL_state_90 rfl ?_
                    refine r_aload_n (pc' := 92) hX dL_state_91 rfl rfl ?_
                    refine r_iload_n (pc' := 93) hX dL_state_92 rfl rfl ?_
                    refine r_iload_n (pc' := 94) hX dL_state_93 rfl rfl ?_
                    refine V_call0X (k' := 6 + 3 * j + 1 * i + 1) (n' := 36 + 18 * j + 6 * i + 6) (pc' := 97) hX (r_runVX (As := [.int (nI j), .int (nI i)]) hX dL_state_94 k_L_114 (fun l9 hl9 => by cases hl9; exact cF_parts (v := S.1) rfl hF9 (hA).1 (hst := (by rw [hl]; exact hst))) hG (FS_recv hF9) rfl rfl (Nat.le_of_ble_eq_true rfl) (by decide) (by decide) (by omega) (by omega)) (by omega) (by omega) rfl (fun w9 u27 hp9 => ?_) ?_
                    · obtain ⟨okq, rfl, hF27⟩ := hp9
                      change V X (6 + 3 * j + 1 * i + 1) (36 + 18 * j + 6 * i + 6) (u27) [some (.ref f), some (.int y), some (.int (nI j)), some (.int (nI i)), none, none, none, none] [.int (qParts S.1 (nI j) (nI i)), .int ((nI 31) * y)] 97
                      refine r_iadd (pc' := 98) hX dL_state_97 rfl ?_
                      refine r_istore_n (L' := [some (.ref f), some (.int (((nI 31) * y) + (qParts S.1 (nI j) (nI i)))), some (.int (nI j)), some (.int (nI i)), none, none, none, none]) (pc' := 99) hX dL_state_98 (nlt hnL (by decide)) rfl rfl rfl ?_
                      refine r_iinc_N (b := 1) (L' := [some (.ref f), some (.int (((nI 31) * y) + (qParts S.1 (nI j) (nI i)))), some (.int (nI j)), some (.int (nI (i + 1))), none, none, none, none]) (pc' := 102) hX dL_state_99 rfl (nlt hnL (by decide)) rfl rfl rfl ?_
                      refine r_goto (tgt := 82) hX dL_state_102 (by decide) ?_
                      refine V_widen (k' := 6 + 3 * j + 1 * (i + 1)) (n' := 36 + 18 * j + 6 * (i + 1)) (by omega) (by omega) ?_
                      exact ih82 (i + 1) (((nI 31) * y) + (qParts S.1 (nI j) (nI i))) u27 (by omega) (by omega) (by rw [hzi]; rfl) hF27
                    · intro E9 u9 hp9
                      exact absurd hp9.1 (ok_qN ⟨(inR_nI (by omega)).mpr (by omega), (inR_nI (by omega)).mpr (by omega)⟩ (by have := hv.2.2.2.2.2.2.2.1 j i (by omega) (by omega); rw [tn_nI (by omega), tn_nI (by omega)]; omega))
              refine V_widen (k' := 6 + 3 * j + 1 * 0) (n' := 36 + 18 * j + 6 * 0) (by omega) (by omega) ?_
              exact loop82 _ 0 z u16 (Nat.lt_succ_self _) (by omega) hzj hF16
        refine V_widen (k' := 6 + 3 * 0) (n' := 36 + 18 * 0) (by omega) (by omega) ?_
        exact loop72 _ 0 z w9 (Nat.lt_succ_self _) (by omega) (by rw [hzj, show j = 3 by omega]; rfl) hF9
      · refine r_bipush (pc' := 46) (v := nI 31) hX dL_state_44 rfl rfl ?_
        refine r_bipush (pc' := 48) (v := nI 31) hX dL_state_46 rfl rfl ?_
        refine r_iload_n (pc' := 49) hX dL_state_48 rfl rfl ?_
        refine r_imul (pc' := 50) hX dL_state_49 rfl ?_
        refine r_aload_n (pc' := 51) hX dL_state_50 rfl rfl ?_
        refine r_iload_n (pc' := 52) hX dL_state_51 rfl rfl ?_
        refine V_call0X (k' := 0 + 2 * j + 1) (n' := 0 + 12 * j + 6) (pc' := 55) hX (r_runVX (As := [.int (nI j)]) hX dL_state_52 k_L_108 (fun l9 hl9 => by cases hl9; exact cF_stock (v := S.1) rfl hF9 (hA).1 (hst := (by rw [hl]; exact hst))) hG (FS_recv hF9) rfl rfl (Nat.le_of_ble_eq_true rfl) (by decide) (by decide) (by omega) (by omega)) (by omega) (by omega) rfl (fun w9 u28 hp9 => ?_) ?_
        · obtain ⟨okq, rfl, hF28⟩ := hp9
          change V X (0 + 2 * j + 1) (0 + 12 * j + 6) (u28) [some (.ref f), some (.int z), some (.int (nI j)), none, none, none, none, none] [.int (qMet 3 S.1 (nI j)), .int ((nI 31) * z), .int (nI 31)] 55
          refine r_iadd (pc' := 56) hX dL_state_55 rfl ?_
          refine r_imul (pc' := 57) hX dL_state_56 rfl ?_
          refine r_aload_n (pc' := 58) hX dL_state_57 rfl rfl ?_
          refine r_iload_n (pc' := 59) hX dL_state_58 rfl rfl ?_
          refine V_call0X (k' := 0 + 2 * j + 1 + 1) (n' := 0 + 12 * j + 6 + 6) (pc' := 62) hX (r_runVX (As := [.int (nI j)]) hX dL_state_59 k_L_111 (fun l9 hl9 => by cases hl9; exact cF_lostGrams (v := S.1) rfl hF28 (hA).1 (hst := (by rw [hl]; exact hst))) hG (FS_recv hF28) rfl rfl (Nat.le_of_ble_eq_true rfl) (by decide) (by decide) (by omega) (by omega)) (by omega) (by omega) rfl (fun w9 u29 hp9 => ?_) ?_
          · obtain ⟨okq, rfl, hF29⟩ := hp9
            change V X (0 + 2 * j + 1 + 1) (0 + 12 * j + 6 + 6) (u29) [some (.ref f), some (.int z), some (.int (nI j)), none, none, none, none, none] [.int (qMet 6 S.1 (nI j)), .int ((nI 31) * (((nI 31) * z) + (qMet 3 S.1 (nI j))))] 62
            refine r_iadd (pc' := 63) hX dL_state_62 rfl ?_
            refine r_istore_n (L' := [some (.ref f), some (.int (((nI 31) * (((nI 31) * z) + (qMet 3 S.1 (nI j)))) + (qMet 6 S.1 (nI j)))), some (.int (nI j)), none, none, none, none, none]) (pc' := 64) hX dL_state_63 (nlt hnL (by decide)) rfl rfl rfl ?_
            refine r_iinc_N (b := 1) (L' := [some (.ref f), some (.int (((nI 31) * (((nI 31) * z) + (qMet 3 S.1 (nI j)))) + (qMet 6 S.1 (nI j)))), some (.int (nI (j + 1))), none, none, none, none, none]) (pc' := 67) hX dL_state_64 rfl (nlt hnL (by decide)) rfl rfl rfl ?_
            refine r_goto (tgt := 39) hX dL_state_67 (by decide) ?_
            refine V_widen (k' := 0 + 2 * (j + 1)) (n' := 0 + 12 * (j + 1)) (by omega) (by omega) ?_
            exact ih39 (j + 1) (((nI 31) * (((nI 31) * z) + (qMet 3 S.1 (nI j)))) + (qMet 6 S.1 (nI j))) u29 (by omega) (by omega) (by rw [hzj]; rfl) hF29
          · intro E9 u9 hp9
            exact absurd hp9.1 (ok_qN ((inR_nI (by omega)).mpr (by omega)) (by have := lo_lt hI9 (by omega) j (by omega); rw [tn_nI (by omega)]; omega))
        · intro E9 u9 hp9
          exact absurd hp9.1 (ok_qN ((inR_nI (by omega)).mpr (by omega)) (by have := hv.2.2.2.2.2.2.2.2.2.1 j (by omega); rw [tn_nI (by omega)]; omega))
  refine V_widen (k' := 0 + 2 * 0) (n' := 0 + 12 * 0) (by omega) (by omega) ?_
  exact loop39 _ 0 (nI ((31 * ((31 * ((31 * ((31 * (S.1 0 6)) + (S.1 0 7))) + (S.1 0 8))) + (S.1 0 2))) + (S.1 0 3))) u15 (Nat.lt_succ_self _) (by omega) rfl hF15
