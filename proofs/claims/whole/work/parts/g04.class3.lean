/-- a batch's text as the class writes it: the colon ahead of all squeaks -/
def ctT (v : SV) (p : Nat) : Nat → List Nat
  | 0 => btT v p 0 ++ [58]
  | k + 1 => btT v p (k + 1)
theorem ctT_0 {v : SV} {p : Nat} : ctT v p 0 ++ dgs (v (21 + p) 0) = ctT v p 1 := rfl
theorem ctT_s {v : SV} {p i : Nat} (h : 0 < i) : (ctT v p i ++ [44]) ++ dgs (v (21 + p) i) = ctT v p (i + 1) := by
  obtain ⟨j, rfl⟩ : ∃ j, i = j + 1 := ⟨i - 1, by omega⟩
  show _ = (btT v p (j + 1) ++ [if j + 1 = 0 then 58 else 44]) ++ _
  rw [if_neg (by omega)]
  rfl
theorem ctT_len {v : SV} {p n : Nat} (hq : ∀ k, k < n → v (21 + p) k < 100) : ∀ k, k ≤ n → (ctT v p k).length ≤ 7 + 3 * k
  | 0, h => by
    have := btT_len (v := v) (p := p) hq 0 h
    show (btT v p 0 ++ [58]).length ≤ 7
    rw [List.length_append]
    show (btT v p 0).length + 1 ≤ 7
    omega
  | k + 1, h => by
    have := btT_len (v := v) (p := p) hq (k + 1) h
    show (btT v p (k + 1)).length ≤ _
    omega
theorem SBp.to {m c c' : Nat} {g : Nat → Nat} {t t' : List Nat} (h : SBp m c g t) (ht : t = t') (hc : c = c') : SBp m c' g t' := by subst ht hc; exact h
set_option maxRecDepth 20000 in
set_option maxHeartbeats 1000000 in
theorem cX_descr {l : Launch} {D : va_G} {cy : Nat → ClassId} {sa : Nat → Nat} {t q m ml a bq p : Nat} {g : Nat → Nat} {v : SV} (h : SBp m 0 g []) (hn : v (13 + p) 0 < 100000) (hs : v (13 + p) 2 ≤ 9) (hq : ∀ k, k < v (13 + p) 2 → v (21 + p) k < 100) (hf : v (13 + p) 4 ≤ 1) : MG l yX1_describe cX1_describe 3 none 6 21 3150 (D, cy, sa) [.ref a, .ref t] ((wSB cy t q m ml 0 g ++ wBat cy a bq (v (13 + p)) (v (21 + p)))) (fun w u => w = none ∧ ∃ (q1 m1 c1 : Nat) (g1 : Nat → Nat), u = wSB cy t q1 m1 ml c1 g1 ++ wBat cy a bq (v (13 + p)) (v (21 + p)) ∧ SBp m1 c1 g1 (ctT v p (v (13 + p) 2))) := by
  refine MG_by (own := RX1) (L := [some (.ref a), some (.ref t), none]) (by decide +kernel) rfl rfl (Nat.le_of_ble_eq_true rfl) 1 rfl (fun X hX hE hnL hG hcy hnm => ?_)
  have b1 := ndg_le (v (13 + p) 0)
  refine r_aload_n (pc' := 1) hX dX1_describe_0 rfl rfl ?_
  refine r_aload_n (pc' := 2) hX dX1_describe_1 rfl rfl ?_
  refine r_get (pc' := 5) (v := .int (nI (v (13 + p) 0))) hX dX1_describe_2 f_X1_9 2 rfl rfl rfl ?_
  refine V_call (k' := 1) (n' := 150) (pc' := 8) (wr := (wBat cy a bq (v (13 + p)) (v (21 + p)))) hX (r_runV (As := [.int (nI (v (13 + p) 0))]) hX dX1_describe_5 k_X1_48 (fun l9 hl9 => cJ_appI (by assumption) (by omega) (by omega)) hG ⟨1, _, TJ4, 4, List.mem_cons_self, rfl⟩ rfl rfl (Nat.le_of_ble_eq_true rfl) (by decide) (by decide) (by decide) (by decide)) (List.Perm.refl _) rfl rfl rfl (fun w9 u9 hp9 => ?_)
  obtain ⟨rfl, q117, m117, g117, rfl, h17⟩ := hp9
  change V X 1 150 (([(t, .inr (1, [.ref q117, .int (nI 0), .int (nI ml), .int (nI (0 + ndg (v (13 + p) 0)))])), (q117, .inl (cy 2, aN m117 g117))]) ++ wBat cy a bq (v (13 + p)) (v (21 + p))) [some (.ref a), some (.ref t), none] [.ref t] 8
  refine r_aload_n (pc' := 9) hX dX1_describe_8 rfl rfl ?_
  refine r_get (pc' := 12) (v := .int (nI (v (13 + p) 4))) hX dX1_describe_9 f_X1_24 2 rfl rfl rfl ?_
  refine r_if_eq_N (tgt := 20) (pc' := 15) hX dX1_describe_12 (by decide) rfl (by omega) (fun c12 => ?_) (fun c12 => ?_)
  · have hfl : (if v (13 + p) 4 = 1 then 33 else 63) = 63 := if_neg (by omega)
    refine r_bipush (pc' := 22) (v := nI 63) hX dX1_describe_20 rfl rfl ?_
    refine V_call (k' := 1 + 1) (n' := 150 + 150) (pc' := 25) (wr := (wBat cy a bq (v (13 + p)) (v (21 + p)))) hX (r_runV (As := [.int (nI 63)]) hX dX1_describe_22 k_X1_54 (fun l9 hl9 => cJ_appC (by assumption) (by omega) (by omega)) hG ⟨1, _, TJ4, 4, List.mem_cons_self, rfl⟩ rfl rfl (Nat.le_of_ble_eq_true rfl) (by decide) (by decide) (by omega) (by omega)) (List.Perm.refl _) (by omega) (by omega) rfl (fun w9 u9 hp9 => ?_)
    obtain ⟨rfl, q118, m118, g118, rfl, h18⟩ := hp9
    change V X (1 + 1) (150 + 150) (([(t, .inr (1, [.ref q118, .int (nI 0), .int (nI ml), .int (nI ((0 + ndg (v (13 + p) 0)) + 1))])), (q118, .inl (cy 2, aN m118 g118))]) ++ wBat cy a bq (v (13 + p)) (v (21 + p))) [some (.ref a), some (.ref t), none] [.ref t] 25
    refine r_bipush (pc' := 27) (v := nI 58) hX dX1_describe_25 rfl rfl ?_
    refine V_call (k' := 1 + 1 + 1) (n' := 150 + 150 + 150) (pc' := 30) (wr := (wBat cy a bq (v (13 + p)) (v (21 + p)))) hX (r_runV (As := [.int (nI 58)]) hX dX1_describe_27 k_X1_54 (fun l9 hl9 => cJ_appC (by assumption) (by omega) (by omega)) hG ⟨1, _, TJ4, 4, List.mem_cons_self, rfl⟩ rfl rfl (Nat.le_of_ble_eq_true rfl) (by decide) (by decide) (by omega) (by omega)) (List.Perm.refl _) (by omega) (by omega) rfl (fun w9 u9 hp9 => ?_)
    obtain ⟨rfl, q119, m119, g119, rfl, h19⟩ := hp9
    change V X (1 + 1 + 1) (150 + 150 + 150) (([(t, .inr (1, [.ref q119, .int (nI 0), .int (nI ml), .int (nI (((0 + ndg (v (13 + p) 0)) + 1) + 1))])), (q119, .inl (cy 2, aN m119 g119))]) ++ wBat cy a bq (v (13 + p)) (v (21 + p))) [some (.ref a), some (.ref t), none] [.ref t] 30
    refine r_pop (pc' := 31) hX dX1_describe_30 rfl rfl ?_
    refine r_iconst (pc' := 32) (v := nI 0) hX dX1_describe_31 rfl rfl ?_
    refine r_istore_n (L' := [some (.ref a), some (.ref t), some (.int (nI 0))]) (pc' := 33) hX dX1_describe_32 (nlt hnL (by decide)) rfl rfl rfl ?_
    have loop33 : ∀ (n9 : Nat) (i : Nat) (q5 : Nat) (m5 : Nat) (c5 : Nat) (g5 : Nat → Nat), v (13 + p) 2 - i < n9 → (i ≤ v (13 + p) 2) → (SBp m5 c5 g5 (ctT v p i)) → V X (3 + 2 * i) (450 + 300 * i) (([(t, .inr (1, [.ref q5, .int (nI 0), .int (nI ml), .int (nI c5)])), (q5, .inl (cy 2, aN m5 g5))]) ++ wBat cy a bq (v (13 + p)) (v (21 + p))) [some (.ref a), some (.ref t), some (.int (nI i))] [] 33 := by
      intro n9
      induction n9 with
      | zero => intro i q5 m5 c5 g5 hm; exact absurd hm (Nat.not_lt_zero _)
      | succ n9 ih33 =>
        intro i q5 m5 c5 g5 hm hi hS
        refine r_iload_n (pc' := 34) hX dX1_describe_33 rfl rfl ?_
        refine r_aload_n (pc' := 35) hX dX1_describe_34 rfl rfl ?_
        refine r_get (pc' := 38) (v := .int (nI (v (13 + p) 2))) hX dX1_describe_35 f_X1_18 2 rfl rfl rfl ?_
        refine r_icmp_ge_N (tgt := 69) (pc' := 41) hX dX1_describe_38 (by decide) rfl (by omega) (by omega) (fun c38 => ?_) (fun c38 => ?_)
        · exact r_vreturn hX hE dX1_describe_69 rfl ⟨rfl, _, _, _, _, rfl, hS.to (by rw [show i = v (13 + p) 2 by omega]) rfl⟩ (by omega) (by omega)
        · have hqi := hq i (by omega)
          have b2 := ndg_2 hqi
          obtain ⟨e1, e2, e3⟩ := hS.le
          have e4 := ctT_len (v := v) (p := p) hq i hi
          refine r_iload_n (pc' := 42) hX dX1_describe_41 rfl rfl ?_
          refine r_if_le_N (tgt := 52) (pc' := 45) hX dX1_describe_42 (by decide) rfl (by omega) (fun c42 => ?_) (fun c42 => ?_)
          · refine r_aload_n (pc' := 53) hX dX1_describe_52 rfl rfl ?_
            refine r_aload_n (pc' := 54) hX dX1_describe_53 rfl rfl ?_
            refine r_get (pc' := 57) (v := .ref bq) hX dX1_describe_54 f_X1_28 2 rfl rfl rfl ?_
            refine r_iload_n (pc' := 58) hX dX1_describe_57 rfl rfl ?_
            refine r_iald_N (pc' := 59) hX dX1_describe_58 (by rw [hcy]) 3 rfl (by omega) (by decide) rfl ?_
            change V X (3 + 2 * i) (450 + 300 * i) (([(t, .inr (1, [.ref q5, .int (nI 0), .int (nI ml), .int (nI c5)])), (q5, .inl (cy 2, aN m5 g5))]) ++ wBat cy a bq (v (13 + p)) (v (21 + p))) [some (.ref a), some (.ref t), some (.int (nI i))] [.int (nI (v (21 + p) i)), .ref t] 59
            refine V_call (k' := 3 + 2 * i + 1) (n' := 450 + 300 * i + 150) (pc' := 62) (wr := (wBat cy a bq (v (13 + p)) (v (21 + p)))) hX (r_runV (As := [.int (nI (v (21 + p) i))]) hX dX1_describe_59 k_X1_48 (fun l9 hl9 => cJ_appI (by assumption) (by omega) (by omega)) hG ⟨1, _, TJ4, 4, List.mem_cons_self, rfl⟩ rfl rfl (Nat.le_of_ble_eq_true rfl) (by decide) (by decide) (by omega) (by omega)) (List.Perm.refl _) (by omega) (by omega) rfl (fun w9 u9 hp9 => ?_)
            obtain ⟨rfl, q120, m120, g120, rfl, h20⟩ := hp9
            change V X (3 + 2 * i + 1) (450 + 300 * i + 150) (([(t, .inr (1, [.ref q120, .int (nI 0), .int (nI ml), .int (nI (c5 + ndg (v (21 + p) i)))])), (q120, .inl (cy 2, aN m120 g120))]) ++ wBat cy a bq (v (13 + p)) (v (21 + p))) [some (.ref a), some (.ref t), some (.int (nI i))] [.ref t] 62
            refine r_pop (pc' := 63) hX dX1_describe_62 rfl rfl ?_
            refine r_iinc_N (b := 1) (L' := [some (.ref a), some (.ref t), some (.int (nI (i + 1)))]) (pc' := 66) hX dX1_describe_63 rfl (nlt hnL (by decide)) rfl rfl rfl ?_
            refine r_goto (tgt := 33) hX dX1_describe_66 (by decide) ?_
            refine V_widen (k' := 3 + 2 * (i + 1)) (n' := 450 + 300 * (i + 1)) (by omega) (by omega) ?_
            exact ih33 (i + 1) q120 m120 (c5 + ndg (v (21 + p) i)) g120 (by omega) (by omega) (h20.to (by first | exact ctT_s (by omega) | (have hi0 : i = 0 := (by omega); subst hi0; exact ctT_0)) rfl)
          · refine r_aload_n (pc' := 46) hX dX1_describe_45 rfl rfl ?_
            refine r_bipush (pc' := 48) (v := nI 44) hX dX1_describe_46 rfl rfl ?_
            refine V_call (k' := 3 + 2 * i + 1) (n' := 450 + 300 * i + 150) (pc' := 51) (wr := (wBat cy a bq (v (13 + p)) (v (21 + p)))) hX (r_runV (As := [.int (nI 44)]) hX dX1_describe_48 k_X1_54 (fun l9 hl9 => cJ_appC (by assumption) (by omega) (by omega)) hG ⟨1, _, TJ4, 4, List.mem_cons_self, rfl⟩ rfl rfl (Nat.le_of_ble_eq_true rfl) (by decide) (by decide) (by omega) (by omega)) (List.Perm.refl _) (by omega) (by omega) rfl (fun w9 u9 hp9 => ?_)
            obtain ⟨rfl, q121, m121, g121, rfl, h21⟩ := hp9
            change V X (3 + 2 * i + 1) (450 + 300 * i + 150) (([(t, .inr (1, [.ref q121, .int (nI 0), .int (nI ml), .int (nI (c5 + 1))])), (q121, .inl (cy 2, aN m121 g121))]) ++ wBat cy a bq (v (13 + p)) (v (21 + p))) [some (.ref a), some (.ref t), some (.int (nI i))] [.ref t] 51
            refine r_pop (pc' := 52) hX dX1_describe_51 rfl rfl ?_
            refine r_aload_n (pc' := 53) hX dX1_describe_52 rfl rfl ?_
            refine r_aload_n (pc' := 54) hX dX1_describe_53 rfl rfl ?_
            refine r_get (pc' := 57) (v := .ref bq) hX dX1_describe_54 f_X1_28 2 rfl rfl rfl ?_
            refine r_iload_n (pc' := 58) hX dX1_describe_57 rfl rfl ?_
            refine r_iald_N (pc' := 59) hX dX1_describe_58 (by rw [hcy]) 3 rfl (by omega) (by decide) rfl ?_
            change V X (3 + 2 * i + 1) (450 + 300 * i + 150) (([(t, .inr (1, [.ref q121, .int (nI 0), .int (nI ml), .int (nI (c5 + 1))])), (q121, .inl (cy 2, aN m121 g121))]) ++ wBat cy a bq (v (13 + p)) (v (21 + p))) [some (.ref a), some (.ref t), some (.int (nI i))] [.int (nI (v (21 + p) i)), .ref t] 59
            refine V_call (k' := 3 + 2 * i + 1 + 1) (n' := 450 + 300 * i + 150 + 150) (pc' := 62) (wr := (wBat cy a bq (v (13 + p)) (v (21 + p)))) hX (r_runV (As := [.int (nI (v (21 + p) i))]) hX dX1_describe_59 k_X1_48 (fun l9 hl9 => cJ_appI (by assumption) (by omega) (by omega)) hG ⟨1, _, TJ4, 4, List.mem_cons_self, rfl⟩ rfl rfl (Nat.le_of_ble_eq_true rfl) (by decide) (by decide) (by omega) (by omega)) (List.Perm.refl _) (by omega) (by omega) rfl (fun w9 u9 hp9 => ?_)
            obtain ⟨rfl, q122, m122, g122, rfl, h22⟩ := hp9
            change V X (3 + 2 * i + 1 + 1) (450 + 300 * i + 150 + 150) (([(t, .inr (1, [.ref q122, .int (nI 0), .int (nI ml), .int (nI ((c5 + 1) + ndg (v (21 + p) i)))])), (q122, .inl (cy 2, aN m122 g122))]) ++ wBat cy a bq (v (13 + p)) (v (21 + p))) [some (.ref a), some (.ref t), some (.int (nI i))] [.ref t] 62
            refine r_pop (pc' := 63) hX dX1_describe_62 rfl rfl ?_
            refine r_iinc_N (b := 1) (L' := [some (.ref a), some (.ref t), some (.int (nI (i + 1)))]) (pc' := 66) hX dX1_describe_63 rfl (nlt hnL (by decide)) rfl rfl rfl ?_
            refine r_goto (tgt := 33) hX dX1_describe_66 (by decide) ?_
            refine V_widen (k' := 3 + 2 * (i + 1)) (n' := 450 + 300 * (i + 1)) (by omega) (by omega) ?_
            exact ih33 (i + 1) q122 m122 ((c5 + 1) + ndg (v (21 + p) i)) g122 (by omega) (by omega) (h22.to (by first | exact ctT_s (by omega) | (have hi0 : i = 0 := (by omega); subst hi0; exact ctT_0)) rfl)
    exact loop33 _ 0 q119 m119 (((0 + ndg (v (13 + p) 0)) + 1) + 1) g119 (Nat.lt_succ_self _) (by omega) (h19.to (by show _ = (([] ++ dgs (v (13 + p) 0)) ++ [if v (13 + p) 4 = 1 then 33 else 63]) ++ [58]; rw [hfl]) rfl)
  · have hfl : (if v (13 + p) 4 = 1 then 33 else 63) = 33 := if_pos (by omega)
    refine r_bipush (pc' := 17) (v := nI 33) hX dX1_describe_15 rfl rfl ?_
    refine r_goto (tgt := 22) hX dX1_describe_17 (by decide) ?_
    refine V_call (k' := 1 + 1) (n' := 150 + 150) (pc' := 25) (wr := (wBat cy a bq (v (13 + p)) (v (21 + p)))) hX (r_runV (As := [.int (nI 33)]) hX dX1_describe_22 k_X1_54 (fun l9 hl9 => cJ_appC (by assumption) (by omega) (by omega)) hG ⟨1, _, TJ4, 4, List.mem_cons_self, rfl⟩ rfl rfl (Nat.le_of_ble_eq_true rfl) (by decide) (by decide) (by omega) (by omega)) (List.Perm.refl _) (by omega) (by omega) rfl (fun w9 u9 hp9 => ?_)
    obtain ⟨rfl, q123, m123, g123, rfl, h23⟩ := hp9
    change V X (1 + 1) (150 + 150) (([(t, .inr (1, [.ref q123, .int (nI 0), .int (nI ml), .int (nI ((0 + ndg (v (13 + p) 0)) + 1))])), (q123, .inl (cy 2, aN m123 g123))]) ++ wBat cy a bq (v (13 + p)) (v (21 + p))) [some (.ref a), some (.ref t), none] [.ref t] 25
    refine r_bipush (pc' := 27) (v := nI 58) hX dX1_describe_25 rfl rfl ?_
    refine V_call (k' := 1 + 1 + 1) (n' := 150 + 150 + 150) (pc' := 30) (wr := (wBat cy a bq (v (13 + p)) (v (21 + p)))) hX (r_runV (As := [.int (nI 58)]) hX dX1_describe_27 k_X1_54 (fun l9 hl9 => cJ_appC (by assumption) (by omega) (by omega)) hG ⟨1, _, TJ4, 4, List.mem_cons_self, rfl⟩ rfl rfl (Nat.le_of_ble_eq_true rfl) (by decide) (by decide) (by omega) (by omega)) (List.Perm.refl _) (by omega) (by omega) rfl (fun w9 u9 hp9 => ?_)
    obtain ⟨rfl, q124, m124, g124, rfl, h24⟩ := hp9
    change V X (1 + 1 + 1) (150 + 150 + 150) (([(t, .inr (1, [.ref q124, .int (nI 0), .int (nI ml), .int (nI (((0 + ndg (v (13 + p) 0)) + 1) + 1))])), (q124, .inl (cy 2, aN m124 g124))]) ++ wBat cy a bq (v (13 + p)) (v (21 + p))) [some (.ref a), some (.ref t), none] [.ref t] 30
    refine r_pop (pc' := 31) hX dX1_describe_30 rfl rfl ?_
    refine r_iconst (pc' := 32) (v := nI 0) hX dX1_describe_31 rfl rfl ?_
    refine r_istore_n (L' := [some (.ref a), some (.ref t), some (.int (nI 0))]) (pc' := 33) hX dX1_describe_32 (nlt hnL (by decide)) rfl rfl rfl ?_
    have loop33 : ∀ (n9 : Nat) (i : Nat) (q5 : Nat) (m5 : Nat) (c5 : Nat) (g5 : Nat → Nat), v (13 + p) 2 - i < n9 → (i ≤ v (13 + p) 2) → (SBp m5 c5 g5 (ctT v p i)) → V X (3 + 2 * i) (450 + 300 * i) (([(t, .inr (1, [.ref q5, .int (nI 0), .int (nI ml), .int (nI c5)])), (q5, .inl (cy 2, aN m5 g5))]) ++ wBat cy a bq (v (13 + p)) (v (21 + p))) [some (.ref a), some (.ref t), some (.int (nI i))] [] 33 := by
      intro n9
      induction n9 with
      | zero => intro i q5 m5 c5 g5 hm; exact absurd hm (Nat.not_lt_zero _)
      | succ n9 ih33 =>
        intro i q5 m5 c5 g5 hm hi hS
        refine r_iload_n (pc' := 34) hX dX1_describe_33 rfl rfl ?_
        refine r_aload_n (pc' := 35) hX dX1_describe_34 rfl rfl ?_
        refine r_get (pc' := 38) (v := .int (nI (v (13 + p) 2))) hX dX1_describe_35 f_X1_18 2 rfl rfl rfl ?_
        refine r_icmp_ge_N (tgt := 69) (pc' := 41) hX dX1_describe_38 (by decide) rfl (by omega) (by omega) (fun c38 => ?_) (fun c38 => ?_)
        · exact r_vreturn hX hE dX1_describe_69 rfl ⟨rfl, _, _, _, _, rfl, hS.to (by rw [show i = v (13 + p) 2 by omega]) rfl⟩ (by omega) (by omega)
        · have hqi := hq i (by omega)
          have b2 := ndg_2 hqi
          obtain ⟨e1, e2, e3⟩ := hS.le
          have e4 := ctT_len (v := v) (p := p) hq i hi
          refine r_iload_n (pc' := 42) hX dX1_describe_41 rfl rfl ?_
          refine r_if_le_N (tgt := 52) (pc' := 45) hX dX1_describe_42 (by decide) rfl (by omega) (fun c42 => ?_) (fun c42 => ?_)
          · refine r_aload_n (pc' := 53) hX dX1_describe_52 rfl rfl ?_
            refine r_aload_n (pc' := 54) hX dX1_describe_53 rfl rfl ?_
            refine r_get (pc' := 57) (v := .ref bq) hX dX1_describe_54 f_X1_28 2 rfl rfl rfl ?_
            refine r_iload_n (pc' := 58) hX dX1_describe_57 rfl rfl ?_
            refine r_iald_N (pc' := 59) hX dX1_describe_58 (by rw [hcy]) 3 rfl (by omega) (by decide) rfl ?_
            change V X (3 + 2 * i) (450 + 300 * i) (([(t, .inr (1, [.ref q5, .int (nI 0), .int (nI ml), .int (nI c5)])), (q5, .inl (cy 2, aN m5 g5))]) ++ wBat cy a bq (v (13 + p)) (v (21 + p))) [some (.ref a), some (.ref t), some (.int (nI i))] [.int (nI (v (21 + p) i)), .ref t] 59
            refine V_call (k' := 3 + 2 * i + 1) (n' := 450 + 300 * i + 150) (pc' := 62) (wr := (wBat cy a bq (v (13 + p)) (v (21 + p)))) hX (r_runV (As := [.int (nI (v (21 + p) i))]) hX dX1_describe_59 k_X1_48 (fun l9 hl9 => cJ_appI (by assumption) (by omega) (by omega)) hG ⟨1, _, TJ4, 4, List.mem_cons_self, rfl⟩ rfl rfl (Nat.le_of_ble_eq_true rfl) (by decide) (by decide) (by omega) (by omega)) (List.Perm.refl _) (by omega) (by omega) rfl (fun w9 u9 hp9 => ?_)
            obtain ⟨rfl, q125, m125, g125, rfl, h25⟩ := hp9
            change V X (3 + 2 * i + 1) (450 + 300 * i + 150) (([(t, .inr (1, [.ref q125, .int (nI 0), .int (nI ml), .int (nI (c5 + ndg (v (21 + p) i)))])), (q125, .inl (cy 2, aN m125 g125))]) ++ wBat cy a bq (v (13 + p)) (v (21 + p))) [some (.ref a), some (.ref t), some (.int (nI i))] [.ref t] 62
            refine r_pop (pc' := 63) hX dX1_describe_62 rfl rfl ?_
            refine r_iinc_N (b := 1) (L' := [some (.ref a), some (.ref t), some (.int (nI (i + 1)))]) (pc' := 66) hX dX1_describe_63 rfl (nlt hnL (by decide)) rfl rfl rfl ?_
            refine r_goto (tgt := 33) hX dX1_describe_66 (by decide) ?_
            refine V_widen (k' := 3 + 2 * (i + 1)) (n' := 450 + 300 * (i + 1)) (by omega) (by omega) ?_
            exact ih33 (i + 1) q125 m125 (c5 + ndg (v (21 + p) i)) g125 (by omega) (by omega) (h25.to (by first | exact ctT_s (by omega) | (have hi0 : i = 0 := (by omega); subst hi0; exact ctT_0)) rfl)
          · refine r_aload_n (pc' := 46) hX dX1_describe_45 rfl rfl ?_
            refine r_bipush (pc' := 48) (v := nI 44) hX dX1_describe_46 rfl rfl ?_
            refine V_call (k' := 3 + 2 * i + 1) (n' := 450 + 300 * i + 150) (pc' := 51) (wr := (wBat cy a bq (v (13 + p)) (v (21 + p)))) hX (r_runV (As := [.int (nI 44)]) hX dX1_describe_48 k_X1_54 (fun l9 hl9 => cJ_appC (by assumption) (by omega) (by omega)) hG ⟨1, _, TJ4, 4, List.mem_cons_self, rfl⟩ rfl rfl (Nat.le_of_ble_eq_true rfl) (by decide) (by decide) (by omega) (by omega)) (List.Perm.refl _) (by omega) (by omega) rfl (fun w9 u9 hp9 => ?_)
            obtain ⟨rfl, q126, m126, g126, rfl, h26⟩ := hp9
            change V X (3 + 2 * i + 1) (450 + 300 * i + 150) (([(t, .inr (1, [.ref q126, .int (nI 0), .int (nI ml), .int (nI (c5 + 1))])), (q126, .inl (cy 2, aN m126 g126))]) ++ wBat cy a bq (v (13 + p)) (v (21 + p))) [some (.ref a), some (.ref t), some (.int (nI i))] [.ref t] 51
            refine r_pop (pc' := 52) hX dX1_describe_51 rfl rfl ?_
            refine r_aload_n (pc' := 53) hX dX1_describe_52 rfl rfl ?_
            refine r_aload_n (pc' := 54) hX dX1_describe_53 rfl rfl ?_
            refine r_get (pc' := 57) (v := .ref bq) hX dX1_describe_54 f_X1_28 2 rfl rfl rfl ?_
            refine r_iload_n (pc' := 58) hX dX1_describe_57 rfl rfl ?_
            refine r_iald_N (pc' := 59) hX dX1_describe_58 (by rw [hcy]) 3 rfl (by omega) (by decide) rfl ?_
            change V X (3 + 2 * i + 1) (450 + 300 * i + 150) (([(t, .inr (1, [.ref q126, .int (nI 0), .int (nI ml), .int (nI (c5 + 1))])), (q126, .inl (cy 2, aN m126 g126))]) ++ wBat cy a bq (v (13 + p)) (v (21 + p))) [some (.ref a), some (.ref t), some (.int (nI i))] [.int (nI (v (21 + p) i)), .ref t] 59
            refine V_call (k' := 3 + 2 * i + 1 + 1) (n' := 450 + 300 * i + 150 + 150) (pc' := 62) (wr := (wBat cy a bq (v (13 + p)) (v (21 + p)))) hX (r_runV (As := [.int (nI (v (21 + p) i))]) hX dX1_describe_59 k_X1_48 (fun l9 hl9 => cJ_appI (by assumption) (by omega) (by omega)) hG ⟨1, _, TJ4, 4, List.mem_cons_self, rfl⟩ rfl rfl (Nat.le_of_ble_eq_true rfl) (by decide) (by decide) (by omega) (by omega)) (List.Perm.refl _) (by omega) (by omega) rfl (fun w9 u9 hp9 => ?_)
            obtain ⟨rfl, q127, m127, g127, rfl, h27⟩ := hp9
            change V X (3 + 2 * i + 1 + 1) (450 + 300 * i + 150 + 150) (([(t, .inr (1, [.ref q127, .int (nI 0), .int (nI ml), .int (nI ((c5 + 1) + ndg (v (21 + p) i)))])), (q127, .inl (cy 2, aN m127 g127))]) ++ wBat cy a bq (v (13 + p)) (v (21 + p))) [some (.ref a), some (.ref t), some (.int (nI i))] [.ref t] 62
            refine r_pop (pc' := 63) hX dX1_describe_62 rfl rfl ?_
            refine r_iinc_N (b := 1) (L' := [some (.ref a), some (.ref t), some (.int (nI (i + 1)))]) (pc' := 66) hX dX1_describe_63 rfl (nlt hnL (by decide)) rfl rfl rfl ?_
            refine r_goto (tgt := 33) hX dX1_describe_66 (by decide) ?_
            refine V_widen (k' := 3 + 2 * (i + 1)) (n' := 450 + 300 * (i + 1)) (by omega) (by omega) ?_
            exact ih33 (i + 1) q127 m127 ((c5 + 1) + ndg (v (21 + p) i)) g127 (by omega) (by omega) (h27.to (by first | exact ctT_s (by omega) | (have hi0 : i = 0 := (by omega); subst hi0; exact ctT_0)) rfl)
    exact loop33 _ 0 q124 m124 (((0 + ndg (v (13 + p) 0)) + 1) + 1) g124 (Nat.lt_succ_self _) (by omega) (h24.to (by show _ = (([] ++ dgs (v (13 + p) 0)) ++ [if v (13 + p) 4 = 1 then 33 else 63]) ++ [58]; rw [hfl]) rfl)

set_option maxRecDepth 20000 in
set_option maxHeartbeats 1000000 in
theorem cS_descr {l : Launch} {D : va_G} {cy : Nat → ClassId} {sa : Nat → Nat} {t q m ml : Nat} {g : Nat → Nat} {ad : Nat → Nat} {v : SV} (h : SBp m 0 g []) (h1 : v 0 1 ≤ 4) (h3 : ∀ j, j < 3 → v 3 j < 10000) (h4 : ∀ i, i < 4 → v 1 i < 100 ∧ v 2 i < 100) : MG l yX4_describe cX4_describe 3 none 6 22 3300 (D, cy, sa) [.ref (ad 0), .ref t] ((wSB cy t q m ml 0 g ++ wSt cy ad v)) (fun w u => w = none ∧ ∃ (q1 m1 c1 : Nat) (g1 : Nat → Nat), u = wSB cy t q1 m1 ml c1 g1 ++ wSt cy ad v ∧ SBp m1 c1 g1 (stT v (v 0 1))) := by
  refine MG_by (own := RX4) (L := [some (.ref (ad 0)), some (.ref t), none]) (by decide +kernel) rfl rfl (Nat.le_of_ble_eq_true rfl) 1 rfl (fun X hX hE hnL hG hcy hnm => ?_)
  have b0 := ndg_4 (h3 0 (by decide))
  have b1 := ndg_4 (h3 1 (by decide))
  have b2 := ndg_4 (h3 2 (by decide))
  have s0 := h3 0 (by decide)
  have s1 := h3 1 (by decide)
  have s2 := h3 2 (by decide)
  refine r_aload_n (pc' := 1) hX dX4_describe_0 rfl rfl ?_
  refine r_bipush (pc' := 3) (v := nI 99) hX dX4_describe_1 rfl rfl ?_
  refine V_call (k' := 1) (n' := 150) (pc' := 6) (wr := (wSt cy ad v)) hX (r_runV (As := [.int (nI 99)]) hX dX4_describe_3 k_X4_172 (fun l9 hl9 => cJ_appC (by assumption) (by omega) (by omega)) hG ⟨1, _, TJ4, 4, List.mem_cons_self, rfl⟩ rfl rfl (Nat.le_of_ble_eq_true rfl) (by decide) (by decide) (by decide) (by decide)) (List.Perm.refl _) rfl rfl rfl (fun w9 u9 hp9 => ?_)
  obtain ⟨rfl, q128, m128, g128, rfl, h28⟩ := hp9
  change V X 1 150 (([(t, .inr (1, [.ref q128, .int (nI 0), .int (nI ml), .int (nI (0 + 1))])), (q128, .inl (cy 2, aN m128 g128))]) ++ wSt cy ad v) [some (.ref (ad 0)), some (.ref t), none] [.ref t] 6
  refine r_aload_n (pc' := 7) hX dX4_describe_6 rfl rfl ?_
  refine r_get (pc' := 10) (v := .ref (ad 10)) hX dX4_describe_7 f_X4_30 2 rfl rfl rfl ?_
  refine r_iconst (pc' := 11) (v := nI 0) hX dX4_describe_10 rfl rfl ?_
  refine r_iald_N (pc' := 12) hX dX4_describe_11 (by rw [hcy]) 12 rfl (by omega) (by decide) rfl ?_
  change V X 1 150 (([(t, .inr (1, [.ref q128, .int (nI 0), .int (nI ml), .int (nI (0 + 1))])), (q128, .inl (cy 2, aN m128 g128))]) ++ wSt cy ad v) [some (.ref (ad 0)), some (.ref t), none] [.int (nI (v 3 0)), .ref t] 12
  refine V_call (k' := 1 + 1) (n' := 150 + 150) (pc' := 15) (wr := (wSt cy ad v)) hX (r_runV (As := [.int (nI (v 3 0))]) hX dX4_describe_12 k_X4_178 (fun l9 hl9 => cJ_appI (by assumption) (by omega) (by omega)) hG ⟨1, _, TJ4, 4, List.mem_cons_self, rfl⟩ rfl rfl (Nat.le_of_ble_eq_true rfl) (by decide) (by decide) (by omega) (by omega)) (List.Perm.refl _) (by omega) (by omega) rfl (fun w9 u9 hp9 => ?_)
  obtain ⟨rfl, q129, m129, g129, rfl, h29⟩ := hp9
  change V X (1 + 1) (150 + 150) (([(t, .inr (1, [.ref q129, .int (nI 0), .int (nI ml), .int (nI ((0 + 1) + ndg (v 3 0)))])), (q129, .inl (cy 2, aN m129 g129))]) ++ wSt cy ad v) [some (.ref (ad 0)), some (.ref t), none] [.ref t] 15
  refine r_pop (pc' := 16) hX dX4_describe_15 rfl rfl ?_
  refine r_aload_n (pc' := 17) hX dX4_describe_16 rfl rfl ?_
  refine r_bipush (pc' := 19) (v := nI 116) hX dX4_describe_17 rfl rfl ?_
  refine V_call (k' := 1 + 1 + 1) (n' := 150 + 150 + 150) (pc' := 22) (wr := (wSt cy ad v)) hX (r_runV (As := [.int (nI 116)]) hX dX4_describe_19 k_X4_172 (fun l9 hl9 => cJ_appC (by assumption) (by omega) (by omega)) hG ⟨1, _, TJ4, 4, List.mem_cons_self, rfl⟩ rfl rfl (Nat.le_of_ble_eq_true rfl) (by decide) (by decide) (by omega) (by omega)) (List.Perm.refl _) (by omega) (by omega) rfl (fun w9 u9 hp9 => ?_)
  obtain ⟨rfl, q130, m130, g130, rfl, h30⟩ := hp9
  change V X (1 + 1 + 1) (150 + 150 + 150) (([(t, .inr (1, [.ref q130, .int (nI 0), .int (nI ml), .int (nI (((0 + 1) + ndg (v 3 0)) + 1))])), (q130, .inl (cy 2, aN m130 g130))]) ++ wSt cy ad v) [some (.ref (ad 0)), some (.ref t), none] [.ref t] 22
  refine r_aload_n (pc' := 23) hX dX4_describe_22 rfl rfl ?_
  refine r_get (pc' := 26) (v := .ref (ad 10)) hX dX4_describe_23 f_X4_30 2 rfl rfl rfl ?_
  refine r_iconst (pc' := 27) (v := nI 1) hX dX4_describe_26 rfl rfl ?_
  refine r_iald_N (pc' := 28) hX dX4_describe_27 (by rw [hcy]) 12 rfl (by omega) (by decide) rfl ?_
  change V X (1 + 1 + 1) (150 + 150 + 150) (([(t, .inr (1, [.ref q130, .int (nI 0), .int (nI ml), .int (nI (((0 + 1) + ndg (v 3 0)) + 1))])), (q130, .inl (cy 2, aN m130 g130))]) ++ wSt cy ad v) [some (.ref (ad 0)), some (.ref t), none] [.int (nI (v 3 1)), .ref t] 28
  refine V_call (k' := 1 + 1 + 1 + 1) (n' := 150 + 150 + 150 + 150) (pc' := 31) (wr := (wSt cy ad v)) hX (r_runV (As := [.int (nI (v 3 1))]) hX dX4_describe_28 k_X4_178 (fun l9 hl9 => cJ_appI (by assumption) (by omega) (by omega)) hG ⟨1, _, TJ4, 4, List.mem_cons_self, rfl⟩ rfl rfl (Nat.le_of_ble_eq_true rfl) (by decide) (by decide) (by omega) (by omega)) (List.Perm.refl _) (by omega) (by omega) rfl (fun w9 u9 hp9 => ?_)
  obtain ⟨rfl, q131, m131, g131, rfl, h31⟩ := hp9
  change V X (1 + 1 + 1 + 1) (150 + 150 + 150 + 150) (([(t, .inr (1, [.ref q131, .int (nI 0), .int (nI ml), .int (nI ((((0 + 1) + ndg (v 3 0)) + 1) + ndg (v 3 1)))])), (q131, .inl (cy 2, aN m131 g131))]) ++ wSt cy ad v) [some (.ref (ad 0)), some (.ref t), none] [.ref t] 31
  refine r_pop (pc' := 32) hX dX4_describe_31 rfl rfl ?_
  refine r_aload_n (pc' := 33) hX dX4_describe_32 rfl rfl ?_
  refine r_bipush (pc' := 35) (v := nI 115) hX dX4_describe_33 rfl rfl ?_
  refine V_call (k' := 1 + 1 + 1 + 1 + 1) (n' := 150 + 150 + 150 + 150 + 150) (pc' := 38) (wr := (wSt cy ad v)) hX (r_runV (As := [.int (nI 115)]) hX dX4_describe_35 k_X4_172 (fun l9 hl9 => cJ_appC (by assumption) (by omega) (by omega)) hG ⟨1, _, TJ4, 4, List.mem_cons_self, rfl⟩ rfl rfl (Nat.le_of_ble_eq_true rfl) (by decide) (by decide) (by omega) (by omega)) (List.Perm.refl _) (by omega) (by omega) rfl (fun w9 u9 hp9 => ?_)
  obtain ⟨rfl, q132, m132, g132, rfl, h32⟩ := hp9
  change V X (1 + 1 + 1 + 1 + 1) (150 + 150 + 150 + 150 + 150) (([(t, .inr (1, [.ref q132, .int (nI 0), .int (nI ml), .int (nI (((((0 + 1) + ndg (v 3 0)) + 1) + ndg (v 3 1)) + 1))])), (q132, .inl (cy 2, aN m132 g132))]) ++ wSt cy ad v) [some (.ref (ad 0)), some (.ref t), none] [.ref t] 38
  refine r_aload_n (pc' := 39) hX dX4_describe_38 rfl rfl ?_
  refine r_get (pc' := 42) (v := .ref (ad 10)) hX dX4_describe_39 f_X4_30 2 rfl rfl rfl ?_
  refine r_iconst (pc' := 43) (v := nI 2) hX dX4_describe_42 rfl rfl ?_
  refine r_iald_N (pc' := 44) hX dX4_describe_43 (by rw [hcy]) 12 rfl (by omega) (by decide) rfl ?_
  change V X (1 + 1 + 1 + 1 + 1) (150 + 150 + 150 + 150 + 150) (([(t, .inr (1, [.ref q132, .int (nI 0), .int (nI ml), .int (nI (((((0 + 1) + ndg (v 3 0)) + 1) + ndg (v 3 1)) + 1))])), (q132, .inl (cy 2, aN m132 g132))]) ++ wSt cy ad v) [some (.ref (ad 0)), some (.ref t), none] [.int (nI (v 3 2)), .ref t] 44
  refine V_call (k' := 1 + 1 + 1 + 1 + 1 + 1) (n' := 150 + 150 + 150 + 150 + 150 + 150) (pc' := 47) (wr := (wSt cy ad v)) hX (r_runV (As := [.int (nI (v 3 2))]) hX dX4_describe_44 k_X4_178 (fun l9 hl9 => cJ_appI (by assumption) (by omega) (by omega)) hG ⟨1, _, TJ4, 4, List.mem_cons_self, rfl⟩ rfl rfl (Nat.le_of_ble_eq_true rfl) (by decide) (by decide) (by omega) (by omega)) (List.Perm.refl _) (by omega) (by omega) rfl (fun w9 u9 hp9 => ?_)
  obtain ⟨rfl, q133, m133, g133, rfl, h33⟩ := hp9
  change V X (1 + 1 + 1 + 1 + 1 + 1) (150 + 150 + 150 + 150 + 150 + 150) (([(t, .inr (1, [.ref q133, .int (nI 0), .int (nI ml), .int (nI ((((((0 + 1) + ndg (v 3 0)) + 1) + ndg (v 3 1)) + 1) + ndg (v 3 2)))])), (q133, .inl (cy 2, aN m133 g133))]) ++ wSt cy ad v) [some (.ref (ad 0)), some (.ref t), none] [.ref t] 47
  refine r_pop (pc' := 48) hX dX4_describe_47 rfl rfl ?_
  refine r_iconst (pc' := 49) (v := nI 0) hX dX4_describe_48 rfl rfl ?_
  refine r_istore_n (L' := [some (.ref (ad 0)), some (.ref t), some (.int (nI 0))]) (pc' := 50) hX dX4_describe_49 (nlt hnL (by decide)) rfl rfl rfl ?_
  have loop50 : ∀ (n9 : Nat) (i : Nat) (q5 : Nat) (m5 : Nat) (c5 : Nat) (g5 : Nat → Nat), v 0 1 - i < n9 → (i ≤ v 0 1) → (SBp m5 c5 g5 (stT v i)) → V X (6 + 4 * i) (900 + 600 * i) (([(t, .inr (1, [.ref q5, .int (nI 0), .int (nI ml), .int (nI c5)])), (q5, .inl (cy 2, aN m5 g5))]) ++ wSt cy ad v) [some (.ref (ad 0)), some (.ref t), some (.int (nI i))] [] 50 := by
    intro n9
    induction n9 with
    | zero => intro i q5 m5 c5 g5 hm; exact absurd hm (Nat.not_lt_zero _)
    | succ n9 ih50 =>
      intro i q5 m5 c5 g5 hm hi hS
      refine r_iload_n (pc' := 51) hX dX4_describe_50 rfl rfl ?_
      refine r_aload_n (pc' := 52) hX dX4_describe_51 rfl rfl ?_
      refine r_get (pc' := 55) (v := .int (nI (v 0 1))) hX dX4_describe_52 f_X4_20 2 rfl rfl rfl ?_
      refine r_icmp_ge_N (tgt := 94) (pc' := 58) hX dX4_describe_55 (by decide) rfl (by omega) (by omega) (fun c55 => ?_) (fun c55 => ?_)
      · exact r_vreturn hX hE dX4_describe_94 rfl ⟨rfl, _, _, _, _, rfl, hS.to (by rw [show i = v 0 1 by omega]) rfl⟩ (by omega) (by omega)
      · obtain ⟨g1, g2⟩ := h4 i (by omega)
        have b3 := ndg_2 g1
        have b4 := ndg_2 g2
        obtain ⟨e1, e2, e3⟩ := hS.le
        have e4 := stT_len (v := v) h3 h4 i (by omega)
        refine r_aload_n (pc' := 59) hX dX4_describe_58 rfl rfl ?_
        refine r_bipush (pc' := 61) (v := nI 32) hX dX4_describe_59 rfl rfl ?_
        refine V_call (k' := 6 + 4 * i + 1) (n' := 900 + 600 * i + 150) (pc' := 64) (wr := (wSt cy ad v)) hX (r_runV (As := [.int (nI 32)]) hX dX4_describe_61 k_X4_172 (fun l9 hl9 => cJ_appC (by assumption) (by omega) (by omega)) hG ⟨1, _, TJ4, 4, List.mem_cons_self, rfl⟩ rfl rfl (Nat.le_of_ble_eq_true rfl) (by decide) (by decide) (by omega) (by omega)) (List.Perm.refl _) (by omega) (by omega) rfl (fun w9 u9 hp9 => ?_)
        obtain ⟨rfl, q134, m134, g134, rfl, h34⟩ := hp9
        change V X (6 + 4 * i + 1) (900 + 600 * i + 150) (([(t, .inr (1, [.ref q134, .int (nI 0), .int (nI ml), .int (nI (c5 + 1))])), (q134, .inl (cy 2, aN m134 g134))]) ++ wSt cy ad v) [some (.ref (ad 0)), some (.ref t), some (.int (nI i))] [.ref t] 64
        refine r_aload_n (pc' := 65) hX dX4_describe_64 rfl rfl ?_
        refine r_get (pc' := 68) (v := .ref (ad 8)) hX dX4_describe_65 f_X4_23 2 rfl rfl rfl ?_
        refine r_iload_n (pc' := 69) hX dX4_describe_68 rfl rfl ?_
        refine r_iald_N (pc' := 70) hX dX4_describe_69 (by rw [hcy]) 10 rfl (by omega) (by decide) rfl ?_
        change V X (6 + 4 * i + 1) (900 + 600 * i + 150) (([(t, .inr (1, [.ref q134, .int (nI 0), .int (nI ml), .int (nI (c5 + 1))])), (q134, .inl (cy 2, aN m134 g134))]) ++ wSt cy ad v) [some (.ref (ad 0)), some (.ref t), some (.int (nI i))] [.int (nI (v 1 i)), .ref t] 70
        refine V_call (k' := 6 + 4 * i + 1 + 1) (n' := 900 + 600 * i + 150 + 150) (pc' := 73) (wr := (wSt cy ad v)) hX (r_runV (As := [.int (nI (v 1 i))]) hX dX4_describe_70 k_X4_178 (fun l9 hl9 => cJ_appI (by assumption) (by omega) (by omega)) hG ⟨1, _, TJ4, 4, List.mem_cons_self, rfl⟩ rfl rfl (Nat.le_of_ble_eq_true rfl) (by decide) (by decide) (by omega) (by omega)) (List.Perm.refl _) (by omega) (by omega) rfl (fun w9 u9 hp9 => ?_)
        obtain ⟨rfl, q135, m135, g135, rfl, h35⟩ := hp9
        change V X (6 + 4 * i + 1 + 1) (900 + 600 * i + 150 + 150) (([(t, .inr (1, [.ref q135, .int (nI 0), .int (nI ml), .int (nI ((c5 + 1) + ndg (v 1 i)))])), (q135, .inl (cy 2, aN m135 g135))]) ++ wSt cy ad v) [some (.ref (ad 0)), some (.ref t), some (.int (nI i))] [.ref t] 73
        refine r_bipush (pc' := 75) (v := nI 120) hX dX4_describe_73 rfl rfl ?_
        refine V_call (k' := 6 + 4 * i + 1 + 1 + 1) (n' := 900 + 600 * i + 150 + 150 + 150) (pc' := 78) (wr := (wSt cy ad v)) hX (r_runV (As := [.int (nI 120)]) hX dX4_describe_75 k_X4_172 (fun l9 hl9 => cJ_appC (by assumption) (by omega) (by omega)) hG ⟨1, _, TJ4, 4, List.mem_cons_self, rfl⟩ rfl rfl (Nat.le_of_ble_eq_true rfl) (by decide) (by decide) (by omega) (by omega)) (List.Perm.refl _) (by omega) (by omega) rfl (fun w9 u9 hp9 => ?_)
        obtain ⟨rfl, q136, m136, g136, rfl, h36⟩ := hp9
        change V X (6 + 4 * i + 1 + 1 + 1) (900 + 600 * i + 150 + 150 + 150) (([(t, .inr (1, [.ref q136, .int (nI 0), .int (nI ml), .int (nI (((c5 + 1) + ndg (v 1 i)) + 1))])), (q136, .inl (cy 2, aN m136 g136))]) ++ wSt cy ad v) [some (.ref (ad 0)), some (.ref t), some (.int (nI i))] [.ref t] 78
        refine r_aload_n (pc' := 79) hX dX4_describe_78 rfl rfl ?_
        refine r_get (pc' := 82) (v := .ref (ad 9)) hX dX4_describe_79 f_X4_27 2 rfl rfl rfl ?_
        refine r_iload_n (pc' := 83) hX dX4_describe_82 rfl rfl ?_
        refine r_iald_N (pc' := 84) hX dX4_describe_83 (by rw [hcy]) 11 rfl (by omega) (by decide) rfl ?_
        change V X (6 + 4 * i + 1 + 1 + 1) (900 + 600 * i + 150 + 150 + 150) (([(t, .inr (1, [.ref q136, .int (nI 0), .int (nI ml), .int (nI (((c5 + 1) + ndg (v 1 i)) + 1))])), (q136, .inl (cy 2, aN m136 g136))]) ++ wSt cy ad v) [some (.ref (ad 0)), some (.ref t), some (.int (nI i))] [.int (nI (v 2 i)), .ref t] 84
        refine V_call (k' := 6 + 4 * i + 1 + 1 + 1 + 1) (n' := 900 + 600 * i + 150 + 150 + 150 + 150) (pc' := 87) (wr := (wSt cy ad v)) hX (r_runV (As := [.int (nI (v 2 i))]) hX dX4_describe_84 k_X4_178 (fun l9 hl9 => cJ_appI (by assumption) (by omega) (by omega)) hG ⟨1, _, TJ4, 4, List.mem_cons_self, rfl⟩ rfl rfl (Nat.le_of_ble_eq_true rfl) (by decide) (by decide) (by omega) (by omega)) (List.Perm.refl _) (by omega) (by omega) rfl (fun w9 u9 hp9 => ?_)
        obtain ⟨rfl, q137, m137, g137, rfl, h37⟩ := hp9
        change V X (6 + 4 * i + 1 + 1 + 1 + 1) (900 + 600 * i + 150 + 150 + 150 + 150) (([(t, .inr (1, [.ref q137, .int (nI 0), .int (nI ml), .int (nI ((((c5 + 1) + ndg (v 1 i)) + 1) + ndg (v 2 i)))])), (q137, .inl (cy 2, aN m137 g137))]) ++ wSt cy ad v) [some (.ref (ad 0)), some (.ref t), some (.int (nI i))] [.ref t] 87
        refine r_pop (pc' := 88) hX dX4_describe_87 rfl rfl ?_
        refine r_iinc_N (b := 1) (L' := [some (.ref (ad 0)), some (.ref t), some (.int (nI (i + 1)))]) (pc' := 91) hX dX4_describe_88 rfl (nlt hnL (by decide)) rfl rfl rfl ?_
        refine r_goto (tgt := 50) hX dX4_describe_91 (by decide) ?_
        refine V_widen (k' := 6 + 4 * (i + 1)) (n' := 900 + 600 * (i + 1)) (by omega) (by omega) ?_
        exact ih50 (i + 1) q137 m137 ((((c5 + 1) + ndg (v 1 i)) + 1) + ndg (v 2 i)) g137 (by omega) (by omega) (h37.to rfl rfl)
  exact loop50 _ 0 q133 m133 ((((((0 + 1) + ndg (v 3 0)) + 1) + ndg (v 3 1)) + 1) + ndg (v 3 2)) g133 (Nat.lt_succ_self _) (by omega) (h33.to (by unfold stT stH; simp only [List.nil_append, List.append_assoc]) rfl)
