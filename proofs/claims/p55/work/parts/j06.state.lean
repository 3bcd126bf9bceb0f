/-! ===== the squeaks of a batch, the digest of a foundry ===== -/
theorem plc_lt {v : SV} {k : Nat} (hk : k < v 0 4) : plc v (v (13 + k) 0 : Int) < v 0 4 := by
  refine Classical.byContradiction fun h => ?_
  have h9 : lst (fun i => (v (13 + i) 0 : Int) = (v (13 + k) 0 : Int)) (v 0 4) ≤ k := by
    refine Classical.byContradiction fun h8 => ?_
    exact lst_min (p := fun i => (v (13 + i) 0 : Int) = (v (13 + k) 0 : Int)) (n := v 0 4) (j := k) (by omega) rfl
  exact h (Nat.lt_of_le_of_lt h9 hk)
theorem plb_lt {v : SV} {x p : Nat} (hp : p < v 0 4) (h1 : v (13 + p) 1 ≤ x) (h2 : x < v (13 + p) 1 + v (13 + p) 2) : plb v (x : Int) < v 0 4 := by
  refine Classical.byContradiction fun h => ?_
  have h9 : plb v (x : Int) ≤ p := by
    refine Classical.byContradiction fun h8 => ?_
    exact lst_min (p := fun i => (v (13 + i) 1 : Int) ≤ (x : Int) ∧ (x : Int) < (v (13 + i) 1 : Int) + (v (13 + i) 2 : Int)) (n := v 0 4) (j := p) (show p < plb v (x : Int) by omega) ⟨by omega, by omega⟩
  exact h (Nat.lt_of_le_of_lt h9 hp)
theorem ok_qN {c : Prop} [Decidable c] {n : Nat} {z : Int32} (hc : c) (h : n < 2147483648) : okA (if c then nI n else z) := by rw [if_pos hc]; exact okN h
section DG
variable {v : SV}
theorem bt_eq {f : SV → Nat → Nat} {b : Nat} (hb : b < 2147483648) (hp : plc v (b : Int) < v 0 4) : qBat f v (nI b) = nI (f v (plc v (b : Int))) := by
  unfold qBat
  rw [nI_I hb, if_pos hp]
theorem sq_ok (hv : Wf v) {x p : Nat} (hp : p < v 0 4) (h1 : v (13 + p) 1 ≤ x) (h2 : x < v (13 + p) 1 + v (13 + p) 2) (hx : x < 2147483648) : okA (qSqk v (nI x)) := by
  rcases qSqk_q (x := nI x) hv with h | h
  · exact fun q => by omega
  · exfalso
    have h9 := plb_lt hp h1 h2
    unfold qSqk at h
    rw [nI_I hx, if_pos h9] at h
    have h5 := qSqk_lo hv (nI x)
    have h8 : (qSqk v (nI x)).toInt = -5 := by unfold qSqk; rw [nI_I hx, if_pos h9, h]; rfl
    have hsp : (v (13 + plb v (x : Int)) 1 : Int) ≤ (x : Int) ∧ (x : Int) < (v (13 + plb v (x : Int)) 1 : Int) + (v (13 + plb v (x : Int)) 2 : Int) := lst_spec (n := v 0 4) h9
    have hb := (hv.2.2.2.2.2.2.1 _ h9).2.2.2.2.2 (tn (nI x) - v (13 + plb v (x : Int)) 1) (by rw [tn_nI hx]; omega)
    have h7 : (v (21 + plb v (x : Int)) (tn (nI x) - v (13 + plb v (x : Int)) 1) : Nat) < 2147483648 := by omega
    have h6 := congrArg Int32.toInt h
    rw [nI_I h7] at h6
    exact absurd h6 (by show ¬ ((v (21 + plb v (x : Int)) (tn (nI x) - v (13 + plb v (x : Int)) 1) : Nat) : Int) = -5; omega)
end DG
/-- the digest, as its loops go -/
def dg0 (v : SV) : Int32 := nI (31 * (31 * (31 * (31 * v 0 6 + v 0 7) + v 0 8) + v 0 2) + v 0 3)
def dg1 (v : SV) : Nat → Int32
  | 0 => dg0 v
  | j + 1 => nI 31 * (nI 31 * dg1 v j + qMet 3 v (nI j)) + qMet 6 v (nI j)
def dgP (v : SV) (a : Nat) (z : Int32) : Nat → Int32
  | 0 => z
  | i + 1 => nI 31 * dgP v a z i + qParts v (nI a) (nI i)
def dg2 (v : SV) : Nat → Int32
  | 0 => dg1 v 3
  | j + 1 => dgP v j (dg2 v j) 3
def dg3 (v : SV) : Nat → Int32
  | 0 => dg2 v (v 0 0)
  | j + 1 => nI 31 * (nI 31 * dg3 v j + qMld 1 v (nI j)) + qMld 2 v (nI j)
def dgQ (f : Nat → Int32) (z : Int32) : Nat → Int32
  | 0 => z
  | i + 1 => nI 31 * dgQ f z i + f i
/-- the place of the batch at place j (its number's) -/
def pj (v : SV) (j : Nat) : Nat := plc v (v (13 + j) 0 : Int)
def dgB (v : SV) (j : Nat) (z : Int32) : Int32 := nI 31 * (nI 31 * (nI 31 * z + nI (v (13 + j) 0)) + nI (v (13 + pj v j) 1)) + nI (if ¬ v (13 + pj v j) 4 = 0 then 1 else 0)
def dg4 (v : SV) : Nat → Int32
  | 0 => dg3 v (v 0 1)
  | j + 1 => dgQ (fun i => qSqk v (nI (v (13 + pj v j) 1 + i))) (dgB v j (dg4 v j)) (v (13 + pj v j) 2)
def dg (v : SV) : Int32 := nI 31 * dg4 v (v 0 4) + nI (v 0 4)
theorem dgQ_congr {f g : Nat → Int32} {z : Int32} : ∀ {n : Nat}, (∀ i, i < n → f i = g i) → dgQ f z n = dgQ g z n
  | 0, _ => rfl
  | n + 1, h => by rw [dgQ, dgQ, dgQ_congr (fun i hi => h i (by omega)), h n (by omega)]
set_option maxRecDepth 20000 in
set_option maxHeartbeats 1000000 in
theorem cW_squeaks {l : Launch} {D : va_G} {cy : Nat → ClassId} {sa : Nat → Nat} {f K bn : Nat} {S : AS} {ws : va_W} (hbn : bn < 2147483648) (hp : plc S.1 (bn : Int) < S.1 0 4) (hF : FS cy f S ws) (hA : AJ K S) (hst : l.stackTraces = false) : MG l yL_squeaks cL_squeaks 4 (some (.array .int)) 9 20 123 (D, cy, sa) [.ref f, .int (nI bn)] (ws) (fun w u => ∃ (q : Nat) (g : Nat → Int32) (w1 : va_W), w = some (.ref q) ∧ u = [(q, .inl (cy 0, aI (S.1 (13 + plc S.1 (bn : Int)) 2) g))] ++ w1 ∧ FS cy f S w1 ∧ ∀ i, i < S.1 (13 + plc S.1 (bn : Int)) 2 → g i = qSqk S.1 (nI (S.1 (13 + plc S.1 (bn : Int)) 1 + i))) := by
  refine MGL_by (own := RL) (L := [some (.ref f), some (.int (nI bn)), none, none]) (by decide +kernel) rfl rfl (Nat.le_of_ble_eq_true rfl) 2 rfl (fun X hX hE hnL hG hcy hl => ?_)
  have hv : Wf S.1 := hA.1.1.1.1
  obtain ⟨⟨hs1, hs9⟩, -, -, -, hf9, -⟩ := hv.2.2.2.2.2.2.1 _ hp
  obtain ⟨nq, hnq⟩ : ∃ nq, nq = S.1 (13 + plc S.1 (bn : Int)) 2 := ⟨_, rfl⟩
  obtain ⟨fq, hfq⟩ : ∃ fq, fq = S.1 (13 + plc S.1 (bn : Int)) 1 := ⟨_, rfl⟩
  rw [← hnq] at hs1 hs9
  rw [← hfq] at hf9
  refine r_aload_n (pc' := 1) hX dL_squeaks_0 rfl rfl ?_
  refine r_iload_n (pc' := 2) hX dL_squeaks_1 rfl rfl ?_
  refine V_call0X (k' := 1) (n' := 6) (pc' := 5) hX (r_runVX (As := [.int (nI bn)]) hX dL_squeaks_2 k_L_84 (fun l9 hl9 => by cases hl9; exact cF_batchSize (v := S.1) rfl hF (hA).1 (hst := (by rw [hl]; exact hst))) hG (FS_recv hF) rfl rfl (Nat.le_of_ble_eq_true rfl) (by decide) (by decide) (by decide) (by decide)) rfl rfl rfl (fun w9 u8 hp9 => ?_) ?_
  · obtain ⟨okq, rfl, hF8⟩ := hp9
    rw [show (qBat (bNum 2) S.1 (nI bn) : Int32) = nI nq from by rw [bt_eq hbn hp, hnq]; rfl]
    change V X 1 6 (u8) [some (.ref f), some (.int (nI bn)), none, none] [.int (nI nq)] 5
    refine r_newI (N := nq) (k' := 1 + 1) (n' := 6 + nq) (pc' := 7) hX dL_squeaks_5 hcy (by omega) rfl rfl (by omega) (by omega) rfl (fun q5 => ?_)
    refine V_perm List.perm_append_comm ?_
    change V X (1 + 1) (6 + nq) ([(q5, .inl (cy 0, aI nq (fun _ => nI 0)))] ++ u8) [some (.ref f), some (.int (nI bn)), none, none] [.ref q5] 7
    refine r_astore_n (L' := [some (.ref f), some (.int (nI bn)), some (.ref q5), none]) (pc' := 8) hX dL_squeaks_7 (nlt hnL (by decide)) rfl rfl rfl ?_
    refine r_iconst (pc' := 9) (v := nI 0) hX dL_squeaks_8 rfl rfl ?_
    refine r_istore_n (L' := [some (.ref f), some (.int (nI bn)), some (.ref q5), some (.int (nI 0))]) (pc' := 10) hX dL_squeaks_9 (nlt hnL (by decide)) rfl rfl rfl ?_
    have loop10 : ∀ (n9 : Nat) (j : Nat) (w9 : va_W) (g9 : Nat → Int32), nq + 1 - j < n9 → (j ≤ nq) → (FS cy f S w9) → (∀ i, i < j → g9 i = qSqk S.1 (nI (fq + i))) → V X (2 + 2 * j) (15 + 12 * j) ([(q5, .inl (cy 0, aI nq g9))] ++ w9) [some (.ref f), some (.int (nI bn)), some (.ref q5), some (.int (nI j))] [] 10 := by
      intro n9
      induction n9 with
      | zero => intro j w9 g9 hm; exact absurd hm (Nat.not_lt_zero _)
      | succ n9 ih10 =>
        intro j w9 g9 hm hj hF9 hg
        refine r_iload_n (pc' := 11) hX dL_squeaks_10 rfl rfl ?_
        refine r_aload_n (pc' := 12) hX dL_squeaks_11 rfl rfl ?_
        refine r_alen (pc' := 13) hX dL_squeaks_12 0 (by rw [hcy]; rfl) (List.mem_append_left _ List.mem_cons_self) rfl rfl ?_
        refine r_icmp_ge_N (tgt := 36) (pc' := 16) hX dL_squeaks_13 (by decide) rfl (by omega) (by omega) (fun c13 => ?_) (fun c13 => ?_)
        · refine r_aload_n (pc' := 37) hX dL_squeaks_36 rfl rfl ?_
          exact r_areturn hX hE dL_squeaks_37 rfl (Or.inr ⟨_, rfl⟩) (Or.inr ⟨_, rfl⟩) ⟨_, _, _, rfl, by rw [← hnq], hF9, fun i hi => by rw [← hfq]; exact hg i (by omega)⟩ (by omega) (by omega)
        · refine r_aload_n (pc' := 17) hX dL_squeaks_16 rfl rfl ?_
          refine r_iload_n (pc' := 18) hX dL_squeaks_17 rfl rfl ?_
          refine r_aload_n (pc' := 19) hX dL_squeaks_18 rfl rfl ?_
          refine r_aload_n (pc' := 20) hX dL_squeaks_19 rfl rfl ?_
          refine r_iload_n (pc' := 21) hX dL_squeaks_20 rfl rfl ?_
          refine V_callX (k' := 2 + 2 * j + 1) (n' := 15 + 12 * j + 6) (pc' := 24) (wr := [(q5, .inl (cy 0, aI nq g9))]) hX (r_runVX (As := [.int (nI bn)]) hX dL_squeaks_21 k_L_87 (fun l9 hl9 => by cases hl9; exact cF_firstBow (v := S.1) rfl hF9 (hA).1 (hst := (by rw [hl]; exact hst))) hG (FS_recv hF9) rfl rfl (Nat.le_of_ble_eq_true rfl) (by decide) (by decide) (by omega) (by omega)) (List.perm_append_comm) (by omega) (by omega) rfl (fun w9 u9 hp9 => ?_) ?_
          · obtain ⟨okq, rfl, hF9⟩ := hp9
            rw [show (qBat (bNum 1) S.1 (nI bn) : Int32) = nI fq from by rw [bt_eq hbn hp, hfq]; rfl]
            change V X (2 + 2 * j + 1) (15 + 12 * j + 6) (u9 ++ [(q5, .inl (cy 0, aI nq g9))]) [some (.ref f), some (.int (nI bn)), some (.ref q5), some (.int (nI j))] [.int (nI fq), .ref f, .int (nI j), .ref q5] 24
            refine V_perm (List.perm_append_comm) ?_
            change V X (2 + 2 * j + 1) (15 + 12 * j + 6) ([(q5, .inl (cy 0, aI nq g9))] ++ u9) [some (.ref f), some (.int (nI bn)), some (.ref q5), some (.int (nI j))] [.int (nI fq), .ref f, .int (nI j), .ref q5] 24
            refine r_iload_n (pc' := 25) hX dL_squeaks_24 rfl rfl ?_
            refine r_iadd_N (pc' := 26) hX dL_squeaks_25  rfl ?_
            refine V_callX (k' := 2 + 2 * j + 1 + 1) (n' := 15 + 12 * j + 6 + 6) (pc' := 29) (wr := [(q5, .inl (cy 0, aI nq g9))]) hX (r_runVX (As := [.int (nI (fq + j))]) hX dL_squeaks_26 k_L_90 (fun l9 hl9 => by cases hl9; exact cF_squeak (v := S.1) rfl hF9 (hA).1 (hst := (by rw [hl]; exact hst))) hG (FS_recv hF9) rfl rfl (Nat.le_of_ble_eq_true rfl) (by decide) (by decide) (by omega) (by omega)) (List.perm_append_comm) (by omega) (by omega) rfl (fun w9 u10 hp9 => ?_) ?_
            · obtain ⟨okq, rfl, hF10⟩ := hp9
              change V X (2 + 2 * j + 1 + 1) (15 + 12 * j + 6 + 6) (u10 ++ [(q5, .inl (cy 0, aI nq g9))]) [some (.ref f), some (.int (nI bn)), some (.ref q5), some (.int (nI j))] [.int (qSqk S.1 (nI (fq + j))), .int (nI j), .ref q5] 29
              refine V_perm (List.perm_append_comm) ?_
              change V X (2 + 2 * j + 1 + 1) (15 + 12 * j + 6 + 6) ([(q5, .inl (cy 0, aI nq g9))] ++ u10) [some (.ref f), some (.int (nI bn)), some (.ref q5), some (.int (nI j))] [.int (qSqk S.1 (nI (fq + j))), .int (nI j), .ref q5] 29
              refine r_iast (f := g9) (ws' := [(q5, .inl (cy 0, aI nq (upd g9 j (qSqk S.1 (nI (fq + j))))))] ++ u10) (pc' := 30) hX dL_squeaks_29 (by rw [hcy]) 0 rfl (by omega) (by omega) rfl rfl ?_
              refine r_iinc_N (b := 1) (L' := [some (.ref f), some (.int (nI bn)), some (.ref q5), some (.int (nI (j + 1)))]) (pc' := 33) hX dL_squeaks_30 rfl (nlt hnL (by decide)) rfl rfl rfl ?_
              refine r_goto (tgt := 10) hX dL_squeaks_33 (by decide) ?_
              refine V_widen (k' := 2 + 2 * (j + 1)) (n' := 15 + 12 * (j + 1)) (by omega) (by omega) ?_
              exact ih10 (j + 1) u10 (upd g9 j (qSqk S.1 (nI (fq + j)))) (by omega) (by omega) hF10 (fun i hi => by
                unfold upd
                by_cases e : i = j
                · rw [if_pos e, e]
                · rw [if_neg e]; exact hg i (by omega))
            · intro E9 u9 hp9
              exact absurd hp9.1 (sq_ok hv hp (by omega) (by omega) (by omega))
          · intro E9 u9 hp9
            exact absurd hp9.1 (by rw [show (qBat (bNum 1) S.1 (nI bn) : Int32) = nI fq from by rw [bt_eq hbn hp, hfq]; rfl]; exact okN (by first | decide | omega))
    refine V_widen (k' := 2 + 2 * 0) (n' := 15 + 12 * 0) (by omega) (by omega) ?_
    exact loop10 _ 0 u8 (fun _ => nI 0) (Nat.lt_succ_self _) (by omega) hF8 (fun i hi => absurd hi (Nat.not_lt_zero _))
  · intro E9 u9 hp9
    exact absurd hp9.1 (by rw [show (qBat (bNum 2) S.1 (nI bn) : Int32) = nI nq from by rw [bt_eq hbn hp, hnq]; rfl]; exact okN (by first | decide | omega))
