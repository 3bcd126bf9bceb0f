/-! ===== the model: its questions ===== -/
set_option maxRecDepth 20000 in
set_option maxHeartbeats 1000000 in
theorem cMw_nextSqueak {l : Launch} {D : va_G} {cy : Nat → ClassId} {sa : Nat → Nat} {ma : Nat → Nat} {S : AS} {t : Nat} {ws : va_W} {v : SV} (hvS : v = S.1) (h : MS cy ma S t ws) (hv : Wf v) {x y : Int32}  : MG l yX6_nextSqueak cX6_nextSqueak 3 (some .int) 2 0 0 (D, cy, sa) [.ref (ma 0), .int x, .int y] (ws) (fun w u => w = some (.int (mvl (qNxt v x y))) ∧ MS cy ma S (kd 1 1 1 1 1 (qNxt v x y)) u) := by
  obtain ⟨r, e, g, bf, hy, sv, bu, le, pa, rfl, hM⟩ := h
  have hM0 := hM
  obtain ⟨h4, hR, h0, h8, hH, hS, hT, hO, hE⟩ := hM
  rw [← hvS] at hR
  have hv0 := hv
  obtain ⟨wa, wm, wb, ws, wt, wc, wB, wR, wL, wK, wP⟩ := hv
  refine MG_by (own := RX6) (L := [some (.ref (ma 0)), some (.int x), some (.int y)]) (by decide +kernel) rfl rfl (Nat.le_of_ble_eq_true rfl) 0 rfl (fun X hX hE hnL hG hcy hnm => ?_)
  refine r_aload_n (pc' := 1) hX dX6_nextSqueak_0 rfl rfl ?_
  refine r_iload_n (pc' := 2) hX dX6_nextSqueak_1 rfl rfl ?_
  refine V_call0 (k' := 0) (n' := 0) (pc' := 5) hX (r_runV (As := [.int x]) hX dX6_nextSqueak_2 k_X6_93 (fun l9 hl9 => cM_isAlloy hv0 hR) hG ⟨8, _, TX6, 16, List.mem_cons_self, rfl⟩ rfl rfl (Nat.le_of_ble_eq_true rfl) (by decide) (by decide) (by decide) (by decide)) rfl rfl rfl (fun w9 u9 hp9 => ?_)
  obtain ⟨rfl, rfl⟩ := hp9
  change V X 0 0 (wM cy ma r e g bf hy sv bu le pa) [some (.ref (ma 0)), some (.int x), some (.int y)] [.int (bI (inR x (v 0 0)))] 5
  refine r_if_eq_B (tgt := 29) (pc' := 8) hX dX6_nextSqueak_5 (by decide) rfl (fun c5 => ?_) (fun c5 => ?_)
  · refine r_aload_n (pc' := 30) hX dX6_nextSqueak_29 rfl rfl ?_
    refine r_iconst (pc' := 31) (v := nI 1) hX dX6_nextSqueak_30 rfl rfl ?_
    refine V_call0 (k' := 0) (n' := 0) (pc' := 34) hX (r_runV (As := [.int (nI 1)]) hX dX6_nextSqueak_31 k_X6_67 (fun l9 hl9 => cM_fails (by omega)) hG ⟨8, _, TX6, 16, List.mem_cons_self, rfl⟩ rfl rfl (Nat.le_of_ble_eq_true rfl) (by decide) (by decide) (by decide) (by decide)) rfl rfl rfl (fun w9 u9 hp9 => ?_)
    obtain ⟨rfl, rfl⟩ := hp9
    change V X 0 0 (wM cy ma (up1 r 4 1) e g bf hy sv bu le pa) [some (.ref (ma 0)), some (.int x), some (.int y)] [.int (nI 0)] 34
    have e9 : qNxt v x y = -1 := by unfold qNxt; rw [if_neg (by rintro ⟨q1, q2⟩; first | exact c5 q1 | exact c13 q2)]
    exact r_ireturn hX hE dX6_nextSqueak_34 rfl (MQ_bad hM0 e9 rfl rfl) (by decide) (by decide)
  · obtain ⟨a, ha, rfl⟩ := nat_of c5
    have ta : (nI a).toInt = (a : Int) := nI_I (by omega)
    have na : tn (nI a) = a := tn_nI (by omega)
    refine r_aload_n (pc' := 9) hX dX6_nextSqueak_8 rfl rfl ?_
    refine r_iload_n (pc' := 10) hX dX6_nextSqueak_9 rfl rfl ?_
    refine V_call0 (k' := 0) (n' := 0) (pc' := 13) hX (r_runV (As := [.int y]) hX dX6_nextSqueak_10 k_X6_96 (fun l9 hl9 => cM_isMould hv0 hR) hG ⟨8, _, TX6, 16, List.mem_cons_self, rfl⟩ rfl rfl (Nat.le_of_ble_eq_true rfl) (by decide) (by decide) (by decide) (by decide)) rfl rfl rfl (fun w9 u9 hp9 => ?_)
    obtain ⟨rfl, rfl⟩ := hp9
    change V X 0 0 (wM cy ma r e g bf hy sv bu le pa) [some (.ref (ma 0)), some (.int (nI a)), some (.int y)] [.int (bI (inR y (v 0 1)))] 13
    refine r_if_eq_B (tgt := 29) (pc' := 16) hX dX6_nextSqueak_13 (by decide) rfl (fun c13 => ?_) (fun c13 => ?_)
    · refine r_aload_n (pc' := 30) hX dX6_nextSqueak_29 rfl rfl ?_
      refine r_iconst (pc' := 31) (v := nI 1) hX dX6_nextSqueak_30 rfl rfl ?_
      refine V_call0 (k' := 0) (n' := 0) (pc' := 34) hX (r_runV (As := [.int (nI 1)]) hX dX6_nextSqueak_31 k_X6_67 (fun l9 hl9 => cM_fails (by omega)) hG ⟨8, _, TX6, 16, List.mem_cons_self, rfl⟩ rfl rfl (Nat.le_of_ble_eq_true rfl) (by decide) (by decide) (by decide) (by decide)) rfl rfl rfl (fun w9 u9 hp9 => ?_)
      obtain ⟨rfl, rfl⟩ := hp9
      change V X 0 0 (wM cy ma (up1 r 4 1) e g bf hy sv bu le pa) [some (.ref (ma 0)), some (.int (nI a)), some (.int y)] [.int (nI 0)] 34
      have e9 : qNxt v (nI a) y = -1 := by unfold qNxt; rw [if_neg (by rintro ⟨q1, q2⟩; first | exact c5 q1 | exact c13 q2)]
      exact r_ireturn hX hE dX6_nextSqueak_34 rfl (MQ_bad hM0 e9 rfl rfl) (by decide) (by decide)
    · obtain ⟨b, hb, rfl⟩ := nat_of c13
      have tb : (nI b).toInt = (b : Int) := nI_I (by omega)
      have nb : tn (nI b) = b := tn_nI (by omega)
      have hq9 : sqk v a b < 100 := Nat.mod_lt _ (by decide)
      refine r_aload_n (pc' := 17) hX dX6_nextSqueak_16 rfl rfl ?_
      refine r_aload_n (pc' := 18) hX dX6_nextSqueak_17 rfl rfl ?_
      refine r_iload_n (pc' := 19) hX dX6_nextSqueak_18 rfl rfl ?_
      refine r_iload_n (pc' := 20) hX dX6_nextSqueak_19 rfl rfl ?_
      refine V_call0 (k' := 0) (n' := 0) (pc' := 23) hX (r_runV (As := [.int (nI a), .int (nI b)]) hX dX6_nextSqueak_20 k_X6_103 (fun l9 hl9 => cM_squeakOf hv0 hR (by omega) (by omega)) hG ⟨8, _, TX6, 16, List.mem_cons_self, rfl⟩ rfl rfl (Nat.le_of_ble_eq_true rfl) (by decide) (by decide) (by decide) (by decide)) rfl rfl rfl (fun w9 u9 hp9 => ?_)
      obtain ⟨rfl, rfl⟩ := hp9
      change V X 0 0 (wM cy ma r e g bf hy sv bu le pa) [some (.ref (ma 0)), some (.int (nI a)), some (.int (nI b))] [.int (nI (sqk v a b)), .ref (ma 0)] 23
      refine V_call0 (k' := 0) (n' := 0) (pc' := 26) hX (r_runV (As := [.int (nI (sqk v a b))]) hX dX6_nextSqueak_23 k_X6_70 (fun l9 hl9 => cM_done) hG ⟨8, _, TX6, 16, List.mem_cons_self, rfl⟩ rfl rfl (Nat.le_of_ble_eq_true rfl) (by decide) (by decide) (by decide) (by decide)) rfl rfl rfl (fun w9 u9 hp9 => ?_)
      obtain ⟨rfl, rfl⟩ := hp9
      change V X 0 0 (wM cy ma (up1 r 4 0) e g bf hy sv bu le pa) [some (.ref (ma 0)), some (.int (nI a)), some (.int (nI b))] [.int (nI (sqk v a b))] 26
      refine r_goto (tgt := 34) hX dX6_nextSqueak_26 (by decide) ?_
      have e9 : qNxt v (nI a) (nI b) = nI (sqk v a b) := by unfold qNxt; rw [if_pos ⟨c5, c13⟩, na, nb]
      exact r_ireturn hX hE dX6_nextSqueak_34 rfl (MQ_good hM0 e9 (by omega)) (by decide) (by decide)

set_option maxRecDepth 20000 in
set_option maxHeartbeats 1000000 in
theorem cMw_possibleBows {l : Launch} {D : va_G} {cy : Nat → ClassId} {sa : Nat → Nat} {ma : Nat → Nat} {S : AS} {t : Nat} {ws : va_W} {v : SV} (hvS : v = S.1) (h : MS cy ma S t ws) (hv : Wf v) {x : Int32}  : MG l yX6_possibleBows cX6_possibleBows 3 (some .int) 2 0 0 (D, cy, sa) [.ref (ma 0), .int x] (ws) (fun w u => w = some (.int (mvl (qPos v x))) ∧ MS cy ma S (kd 1 1 1 1 1 (qPos v x)) u) := by
  obtain ⟨r, e, g, bf, hy, sv, bu, le, pa, rfl, hM⟩ := h
  have hM0 := hM
  obtain ⟨h4, hR, h0, h8, hH, hS, hT, hO, hE⟩ := hM
  rw [← hvS] at hR
  have hv0 := hv
  obtain ⟨wa, wm, wb, ws, wt, wc, wB, wR, wL, wK, wP⟩ := hv
  refine MG_by (own := RX6) (L := [some (.ref (ma 0)), some (.int x), none]) (by decide +kernel) rfl rfl (Nat.le_of_ble_eq_true rfl) 1 rfl (fun X hX hE hnL hG hcy hnm => ?_)
  refine r_aload_n (pc' := 1) hX dX6_possibleBows_0 rfl rfl ?_
  refine r_iload_n (pc' := 2) hX dX6_possibleBows_1 rfl rfl ?_
  refine V_call0 (k' := 0) (n' := 0) (pc' := 5) hX (r_runV (As := [.int x]) hX dX6_possibleBows_2 k_X6_93 (fun l9 hl9 => cM_isAlloy hv0 hR) hG ⟨8, _, TX6, 16, List.mem_cons_self, rfl⟩ rfl rfl (Nat.le_of_ble_eq_true rfl) (by decide) (by decide) (by decide) (by decide)) rfl rfl rfl (fun w9 u9 hp9 => ?_)
  obtain ⟨rfl, rfl⟩ := hp9
  change V X 0 0 (wM cy ma r e g bf hy sv bu le pa) [some (.ref (ma 0)), some (.int x), none] [.int (bI (inR x (v 0 0)))] 5
  refine r_if_ne_B (tgt := 14) (pc' := 8) hX dX6_possibleBows_5 (by decide) rfl (fun c5 => ?_) (fun c5 => ?_)
  · obtain ⟨a, ha, rfl⟩ := nat_of c5
    have ta : (nI a).toInt = (a : Int) := nI_I (by omega)
    have na : tn (nI a) = a := tn_nI (by omega)
    have hs9 := bst_small (v := v) (a := a) (c := 3000) wK (wP a (by omega))
    refine r_iconst (pc' := 15) (v := nI 0) hX dX6_possibleBows_14 rfl rfl ?_
    refine r_istore_n (L' := [some (.ref (ma 0)), some (.int (nI a)), some (.int (nI 0))]) (pc' := 16) hX dX6_possibleBows_15 (nlt hnL (by decide)) rfl rfl rfl ?_
    have loop16 : ∀ (n9 : Nat) (b : Nat), bst v a 3 - b < n9 → (hasN v a b 3) → (b ≤ 3000) → V X 0 0 (wM cy ma r e g bf hy sv bu le pa) [some (.ref (ma 0)), some (.int (nI a)), some (.int (nI b))] [] 16 := by
      intro n9
      induction n9 with
      | zero => intro b hm; exact absurd hm (Nat.not_lt_zero _)
      | succ n9 ih16 =>
        intro b hm hb hb2
        refine r_aload_n (pc' := 17) hX dX6_possibleBows_16 rfl rfl ?_
        refine r_iload_n (pc' := 18) hX dX6_possibleBows_17 rfl rfl ?_
        refine r_iload_n (pc' := 19) hX dX6_possibleBows_18 rfl rfl ?_
        refine r_iconst (pc' := 20) (v := nI 1) hX dX6_possibleBows_19 rfl rfl ?_
        refine r_iadd_N (pc' := 21) hX dX6_possibleBows_20  rfl ?_
        refine V_call0 (k' := 0) (n' := 0) (pc' := 24) hX (r_runV (As := [.int (nI a), .int (nI (b + 1))]) hX dX6_possibleBows_21 k_X6_99 (fun l9 hl9 => cM_hasMetal hv0 hR (by omega) (by omega)) hG ⟨8, _, TX6, 16, List.mem_cons_self, rfl⟩ rfl rfl (Nat.le_of_ble_eq_true rfl) (by decide) (by decide) (by decide) (by decide)) rfl rfl rfl (fun w9 u9 hp9 => ?_)
        obtain ⟨rfl, rfl⟩ := hp9
        change V X 0 0 (wM cy ma r e g bf hy sv bu le pa) [some (.ref (ma 0)), some (.int (nI a)), some (.int (nI b))] [.int (bI (hasN v a (b + 1) 3))] 24
        refine r_if_eq_B (tgt := 33) (pc' := 27) hX dX6_possibleBows_24 (by decide) rfl (fun c24 => ?_) (fun c24 => ?_)
        · refine r_aload_n (pc' := 34) hX dX6_possibleBows_33 rfl rfl ?_
          refine r_iload_n (pc' := 35) hX dX6_possibleBows_34 rfl rfl ?_
          refine V_call0 (k' := 0) (n' := 0) (pc' := 38) hX (r_runV (As := [.int (nI b)]) hX dX6_possibleBows_35 k_X6_70 (fun l9 hl9 => cM_done) hG ⟨8, _, TX6, 16, List.mem_cons_self, rfl⟩ rfl rfl (Nat.le_of_ble_eq_true rfl) (by decide) (by decide) (by decide) (by decide)) rfl rfl rfl (fun w9 u9 hp9 => ?_)
          obtain ⟨rfl, rfl⟩ := hp9
          change V X 0 0 (wM cy ma (up1 r 4 0) e g bf hy sv bu le pa) [some (.ref (ma 0)), some (.int (nI a)), some (.int (nI b))] [.int (nI b)] 38
          have e9 : qPos v (nI a) = nI b := by unfold qPos; rw [if_pos c5, na, bst_is (by omega) hb c24]
          exact r_ireturn hX hE dX6_possibleBows_38 rfl (MQ_good hM0 e9 (by omega)) (by decide) (by decide)
        · refine r_iinc_N (b := 1) (L' := [some (.ref (ma 0)), some (.int (nI a)), some (.int (nI (b + 1)))]) (pc' := 30) hX dX6_possibleBows_27 rfl (nlt hnL (by decide)) rfl rfl rfl ?_
          refine r_goto (tgt := 16) hX dX6_possibleBows_30 (by decide) ?_
          have hb3 : b + 1 ≤ bst v a 3 := (bst_iff (by omega) 3).mpr c24
          exact ih16 (b + 1) (by omega) c24 (by omega)
    exact loop16 _ 0 (Nat.lt_succ_self _) (fun m hm => by rw [Nat.zero_mul]; exact Nat.zero_le _) (by omega)
  · refine r_aload_n (pc' := 9) hX dX6_possibleBows_8 rfl rfl ?_
    refine r_iconst (pc' := 10) (v := nI 1) hX dX6_possibleBows_9 rfl rfl ?_
    refine V_call0 (k' := 0) (n' := 0) (pc' := 13) hX (r_runV (As := [.int (nI 1)]) hX dX6_possibleBows_10 k_X6_67 (fun l9 hl9 => cM_fails (by omega)) hG ⟨8, _, TX6, 16, List.mem_cons_self, rfl⟩ rfl rfl (Nat.le_of_ble_eq_true rfl) (by decide) (by decide) (by decide) (by decide)) rfl rfl rfl (fun w9 u9 hp9 => ?_)
    obtain ⟨rfl, rfl⟩ := hp9
    change V X 0 0 (wM cy ma (up1 r 4 1) e g bf hy sv bu le pa) [some (.ref (ma 0)), some (.int x), none] [.int (nI 0)] 13
    have e9 : qPos v x = -1 := by unfold qPos; rw [if_neg c5]
    exact r_ireturn hX hE dX6_possibleBows_13 rfl (MQ_bad hM0 e9 rfl rfl) (by decide) (by decide)

set_option maxRecDepth 20000 in
set_option maxHeartbeats 1000000 in
theorem cM_metalInBatches {l : Launch} {D : va_G} {cy : Nat → ClassId} {sa : Nat → Nat} {ma : Nat → Nat} {r : Nat → Nat} {e : Nat → Int32} {g bf hy sv bu le : Nat → Nat} {pa : Nat → Int32} {v : SV} (hv : Wf v) (hR : Rr v g) {x : Int32}  : MG l yX6_metalInBatches cX6_metalInBatches 4 (some .int) 2 0 0 (D, cy, sa) [.ref (ma 0), .int x] (wM cy ma r e g bf hy sv bu le pa) (fun w u => w = some (.int (mvl (qMib v x))) ∧ u = wM cy ma (up1 r 4 (kd 1 1 1 1 1 (qMib v x))) e g bf hy sv bu le pa) := by
  have hv0 := hv
  obtain ⟨wa, wm, wb, ws, wt, wc, wB, wR, wL, wK, wP⟩ := hv
  refine MG_by (own := RX6) (L := [some (.ref (ma 0)), some (.int x), none, none]) (by decide +kernel) rfl rfl (Nat.le_of_ble_eq_true rfl) 2 rfl (fun X hX hE hnL hG hcy hnm => ?_)
  refine r_iload_n (pc' := 1) hX dX6_metalInBatches_0 rfl rfl ?_
  refine V_calln (k' := 0) (n' := 0) (pc' := 4) hX (r_runS (As := [.int x]) hX dX6_metalInBatches_1 k_X6_86 (fun l9 hl9 => cM_isMetal) hG rfl rfl (Nat.le_of_ble_eq_true rfl) (by decide) (by decide) (by decide) (by decide)) rfl rfl rfl (fun w9 hp9 => ?_)
  obtain rfl := hp9
  change V X 0 0 (wM cy ma r e g bf hy sv bu le pa) [some (.ref (ma 0)), some (.int x), none, none] [.int (bI (inR x 3))] 4
  refine r_if_ne_B (tgt := 13) (pc' := 7) hX dX6_metalInBatches_4 (by decide) rfl (fun c4 => ?_) (fun c4 => ?_)
  · obtain ⟨a, ha, rfl⟩ := nat_of c4
    have ta : (nI a).toInt = (a : Int) := nI_I (by omega)
    have na : tn (nI a) = a := tn_nI (by omega)
    refine r_iconst (pc' := 14) (v := nI 0) hX dX6_metalInBatches_13 rfl rfl ?_
    refine r_istore_n (L' := [some (.ref (ma 0)), some (.int (nI a)), some (.int (nI 0)), none]) (pc' := 15) hX dX6_metalInBatches_14 (nlt hnL (by decide)) rfl rfl rfl ?_
    refine r_iconst (pc' := 16) (v := nI 0) hX dX6_metalInBatches_15 rfl rfl ?_
    refine r_istore_n (L' := [some (.ref (ma 0)), some (.int (nI a)), some (.int (nI 0)), some (.int (nI 0))]) (pc' := 17) hX dX6_metalInBatches_16 (nlt hnL (by decide)) rfl rfl rfl ?_
    have loop17 : ∀ (n9 : Nat) (i : Nat) (z : Nat), v 0 4 - i < n9 → (i ≤ v 0 4) → (z = mib v a i) → (z ≤ i * 81) → V X 0 0 (wM cy ma r e g bf hy sv bu le pa) [some (.ref (ma 0)), some (.int (nI a)), some (.int (nI z)), some (.int (nI i))] [] 17 := by
      intro n9
      induction n9 with
      | zero => intro i z hm; exact absurd hm (Nat.not_lt_zero _)
      | succ n9 ih17 =>
        intro i z hm hi hz hzb
        refine r_iload_n (pc' := 18) hX dX6_metalInBatches_17 rfl rfl ?_
        refine r_aload_n (pc' := 19) hX dX6_metalInBatches_18 rfl rfl ?_
        refine r_get (pc' := 22) (v := .ref (ma 1)) hX dX6_metalInBatches_19 f_X6_7 0 rfl rfl rfl ?_
        refine r_bipush (pc' := 24) (v := nI 7) hX dX6_metalInBatches_22 rfl rfl ?_
        refine r_iald_N (pc' := 25) hX dX6_metalInBatches_24 (by rw [hcy]) 1 rfl (by omega) (by decide) rfl ?_
        change V X 0 0 (wM cy ma r e g bf hy sv bu le pa) [some (.ref (ma 0)), some (.int (nI a)), some (.int (nI z)), some (.int (nI i))] [.int (nI (g 7)), .int (nI i)] 25
        rw [hR.bat]
        refine r_icmp_ge_N (tgt := 61) (pc' := 28) hX dX6_metalInBatches_25 (by decide) rfl (by omega) (by omega) (fun c25 => ?_) (fun c25 => ?_)
        · refine r_aload_n (pc' := 62) hX dX6_metalInBatches_61 rfl rfl ?_
          refine r_iload_n (pc' := 63) hX dX6_metalInBatches_62 rfl rfl ?_
          refine V_call0 (k' := 0) (n' := 0) (pc' := 66) hX (r_runV (As := [.int (nI z)]) hX dX6_metalInBatches_63 k_X6_70 (fun l9 hl9 => cM_done) hG ⟨8, _, TX6, 16, List.mem_cons_self, rfl⟩ rfl rfl (Nat.le_of_ble_eq_true rfl) (by decide) (by decide) (by decide) (by decide)) rfl rfl rfl (fun w9 u9 hp9 => ?_)
          obtain ⟨rfl, rfl⟩ := hp9
          change V X 0 0 (wM cy ma (up1 r 4 0) e g bf hy sv bu le pa) [some (.ref (ma 0)), some (.int (nI a)), some (.int (nI z)), some (.int (nI i))] [.int (nI z)] 66
          have e9 : qMib v (nI a) = nI z := by unfold qMib; rw [if_pos c4, na, hz, show i = v 0 4 by omega]
          exact r_ireturn hX hE dX6_metalInBatches_66 rfl (MW_good e9 (by omega)) (by decide) (by decide)
        · obtain ⟨bz, ba, -, -, -, bq⟩ := wB i c25
          refine r_iload_n (pc' := 29) hX dX6_metalInBatches_28 rfl rfl ?_
          refine r_aload_n (pc' := 30) hX dX6_metalInBatches_29 rfl rfl ?_
          refine r_get (pc' := 33) (v := .ref (ma 1)) hX dX6_metalInBatches_30 f_X6_7 0 rfl rfl rfl ?_
          refine r_bipush (pc' := 35) (v := nI 63) hX dX6_metalInBatches_33 rfl rfl ?_
          refine r_iload_n (pc' := 36) hX dX6_metalInBatches_35 rfl rfl ?_
          refine r_iadd_N (pc' := 37) hX dX6_metalInBatches_36  rfl ?_
          refine r_iald_N (pc' := 38) hX dX6_metalInBatches_37 (by rw [hcy]) 1 rfl (by omega) (by decide) rfl ?_
          change V X 0 0 (wM cy ma r e g bf hy sv bu le pa) [some (.ref (ma 0)), some (.int (nI a)), some (.int (nI z)), some (.int (nI i))] [.int (nI (g (63 + i))), .int (nI z)] 38
          rw [(hR.man (by omega))]
          refine r_aload_n (pc' := 39) hX dX6_metalInBatches_38 rfl rfl ?_
          refine r_aload_n (pc' := 40) hX dX6_metalInBatches_39 rfl rfl ?_
          refine r_get (pc' := 43) (v := .ref (ma 1)) hX dX6_metalInBatches_40 f_X6_7 0 rfl rfl rfl ?_
          refine r_bipush (pc' := 45) (v := nI 55) hX dX6_metalInBatches_43 rfl rfl ?_
          refine r_iload_n (pc' := 46) hX dX6_metalInBatches_45 rfl rfl ?_
          refine r_iadd_N (pc' := 47) hX dX6_metalInBatches_46  rfl ?_
          refine r_iald_N (pc' := 48) hX dX6_metalInBatches_47 (by rw [hcy]) 1 rfl (by omega) (by decide) rfl ?_
          change V X 0 0 (wM cy ma r e g bf hy sv bu le pa) [some (.ref (ma 0)), some (.int (nI a)), some (.int (nI z)), some (.int (nI i))] [.int (nI (g (55 + i))), .ref (ma 0), .int (nI (v (13 + i) 2)), .int (nI z)] 48
          rw [(hR.aly (by omega))]
          refine r_iload_n (pc' := 49) hX dX6_metalInBatches_48 rfl rfl ?_
          refine V_call0 (k' := 0) (n' := 0) (pc' := 52) hX (r_runV (As := [.int (nI (v (13 + i) 3)), .int (nI a)]) hX dX6_metalInBatches_49 k_X6_53 (fun l9 hl9 => cM_part hR (by omega) (by omega)) hG ⟨8, _, TX6, 16, List.mem_cons_self, rfl⟩ rfl rfl (Nat.le_of_ble_eq_true rfl) (by decide) (by decide) (by decide) (by decide)) rfl rfl rfl (fun w9 u9 hp9 => ?_)
          obtain ⟨rfl, rfl⟩ := hp9
          change V X 0 0 (wM cy ma r e g bf hy sv bu le pa) [some (.ref (ma 0)), some (.int (nI a)), some (.int (nI z)), some (.int (nI i))] [.int (nI (v (7 + (v (13 + i) 3)) a)), .int (nI (v (13 + i) 2)), .int (nI z)] 52
          refine r_imul_N (pc' := 53) hX dX6_metalInBatches_52  rfl ?_
          refine r_iadd_N (pc' := 54) hX dX6_metalInBatches_53  rfl ?_
          refine r_istore_n (L' := [some (.ref (ma 0)), some (.int (nI a)), some (.int (nI (z + ((v (13 + i) 2) * (v (7 + (v (13 + i) 3)) a))))), some (.int (nI i))]) (pc' := 55) hX dX6_metalInBatches_54 (nlt hnL (by decide)) rfl rfl rfl ?_
          refine r_iinc_N (b := 1) (L' := [some (.ref (ma 0)), some (.int (nI a)), some (.int (nI (z + ((v (13 + i) 2) * (v (7 + (v (13 + i) 3)) a))))), some (.int (nI (i + 1)))]) (pc' := 58) hX dX6_metalInBatches_55 rfl (nlt hnL (by decide)) rfl rfl rfl ?_
          refine r_goto (tgt := 17) hX dX6_metalInBatches_58 (by decide) ?_
          have q1 : v (13 + i) 2 * v (7 + v (13 + i) 3) a ≤ 9 * 9 := Nat.mul_le_mul (by omega) (wR _ a (by omega) (by omega))
          exact ih17 (i + 1) (z + ((v (13 + i) 2) * (v (7 + (v (13 + i) 3)) a))) (by omega) (by omega) (by rw [hz]; rfl) (by omega)
    exact loop17 _ 0 0 (Nat.lt_succ_self _) (by omega) rfl (by omega)
  · refine r_aload_n (pc' := 8) hX dX6_metalInBatches_7 rfl rfl ?_
    refine r_iconst (pc' := 9) (v := nI 1) hX dX6_metalInBatches_8 rfl rfl ?_
    refine V_call0 (k' := 0) (n' := 0) (pc' := 12) hX (r_runV (As := [.int (nI 1)]) hX dX6_metalInBatches_9 k_X6_67 (fun l9 hl9 => cM_fails (by omega)) hG ⟨8, _, TX6, 16, List.mem_cons_self, rfl⟩ rfl rfl (Nat.le_of_ble_eq_true rfl) (by decide) (by decide) (by decide) (by decide)) rfl rfl rfl (fun w9 u9 hp9 => ?_)
    obtain ⟨rfl, rfl⟩ := hp9
    change V X 0 0 (wM cy ma (up1 r 4 1) e g bf hy sv bu le pa) [some (.ref (ma 0)), some (.int x), none, none] [.int (nI 0)] 12
    have e9 : qMib v x = -1 := by unfold qMib; rw [if_neg c4]
    exact r_ireturn hX hE dX6_metalInBatches_12 rfl (MW_bad e9 rfl rfl) (by decide) (by decide)

set_option maxRecDepth 20000 in
set_option maxHeartbeats 1000000 in
theorem cMw_metalInBatches {l : Launch} {D : va_G} {cy : Nat → ClassId} {sa : Nat → Nat} {ma : Nat → Nat} {S : AS} {t : Nat} {ws : va_W} {v : SV} (hvS : v = S.1) (h : MS cy ma S t ws) (hv : Wf v) {x : Int32}  : MG l yX6_metalInBatches cX6_metalInBatches 4 (some .int) 2 0 0 (D, cy, sa) [.ref (ma 0), .int x] (ws) (fun w u => w = some (.int (mvl (qMib v x))) ∧ MS cy ma S (kd 1 1 1 1 1 (qMib v x)) u) := by
  obtain ⟨r, e, g, bf, hy, sv, bu, le, pa, rfl, hM⟩ := h
  have hM0 := hM
  obtain ⟨h4, hR, h0, h8, hH, hS, hT, hO, hE⟩ := hM
  rw [← hvS] at hR
  have hv0 := hv
  obtain ⟨wa, wm, wb, ws, wt, wc, wB, wR, wL, wK, wP⟩ := hv
  refine MG_by (own := RX6) (L := [some (.ref (ma 0)), some (.int x), none, none]) (by decide +kernel) rfl rfl (Nat.le_of_ble_eq_true rfl) 2 rfl (fun X hX hE hnL hG hcy hnm => ?_)
  refine r_iload_n (pc' := 1) hX dX6_metalInBatches_0 rfl rfl ?_
  refine V_calln (k' := 0) (n' := 0) (pc' := 4) hX (r_runS (As := [.int x]) hX dX6_metalInBatches_1 k_X6_86 (fun l9 hl9 => cM_isMetal) hG rfl rfl (Nat.le_of_ble_eq_true rfl) (by decide) (by decide) (by decide) (by decide)) rfl rfl rfl (fun w9 hp9 => ?_)
  obtain rfl := hp9
  change V X 0 0 (wM cy ma r e g bf hy sv bu le pa) [some (.ref (ma 0)), some (.int x), none, none] [.int (bI (inR x 3))] 4
  refine r_if_ne_B (tgt := 13) (pc' := 7) hX dX6_metalInBatches_4 (by decide) rfl (fun c4 => ?_) (fun c4 => ?_)
  · obtain ⟨a, ha, rfl⟩ := nat_of c4
    have ta : (nI a).toInt = (a : Int) := nI_I (by omega)
    have na : tn (nI a) = a := tn_nI (by omega)
    refine r_iconst (pc' := 14) (v := nI 0) hX dX6_metalInBatches_13 rfl rfl ?_
    refine r_istore_n (L' := [some (.ref (ma 0)), some (.int (nI a)), some (.int (nI 0)), none]) (pc' := 15) hX dX6_metalInBatches_14 (nlt hnL (by decide)) rfl rfl rfl ?_
    refine r_iconst (pc' := 16) (v := nI 0) hX dX6_metalInBatches_15 rfl rfl ?_
    refine r_istore_n (L' := [some (.ref (ma 0)), some (.int (nI a)), some (.int (nI 0)), some (.int (nI 0))]) (pc' := 17) hX dX6_metalInBatches_16 (nlt hnL (by decide)) rfl rfl rfl ?_
    have loop17 : ∀ (n9 : Nat) (i : Nat) (z : Nat), v 0 4 - i < n9 → (i ≤ v 0 4) → (z = mib v a i) → (z ≤ i * 81) → V X 0 0 (wM cy ma r e g bf hy sv bu le pa) [some (.ref (ma 0)), some (.int (nI a)), some (.int (nI z)), some (.int (nI i))] [] 17 := by
      intro n9
      induction n9 with
      | zero => intro i z hm; exact absurd hm (Nat.not_lt_zero _)
      | succ n9 ih17 =>
        intro i z hm hi hz hzb
        refine r_iload_n (pc' := 18) hX dX6_metalInBatches_17 rfl rfl ?_
        refine r_aload_n (pc' := 19) hX dX6_metalInBatches_18 rfl rfl ?_
        refine r_get (pc' := 22) (v := .ref (ma 1)) hX dX6_metalInBatches_19 f_X6_7 0 rfl rfl rfl ?_
        refine r_bipush (pc' := 24) (v := nI 7) hX dX6_metalInBatches_22 rfl rfl ?_
        refine r_iald_N (pc' := 25) hX dX6_metalInBatches_24 (by rw [hcy]) 1 rfl (by omega) (by decide) rfl ?_
        change V X 0 0 (wM cy ma r e g bf hy sv bu le pa) [some (.ref (ma 0)), some (.int (nI a)), some (.int (nI z)), some (.int (nI i))] [.int (nI (g 7)), .int (nI i)] 25
        rw [hR.bat]
        refine r_icmp_ge_N (tgt := 61) (pc' := 28) hX dX6_metalInBatches_25 (by decide) rfl (by omega) (by omega) (fun c25 => ?_) (fun c25 => ?_)
        · refine r_aload_n (pc' := 62) hX dX6_metalInBatches_61 rfl rfl ?_
          refine r_iload_n (pc' := 63) hX dX6_metalInBatches_62 rfl rfl ?_
          refine V_call0 (k' := 0) (n' := 0) (pc' := 66) hX (r_runV (As := [.int (nI z)]) hX dX6_metalInBatches_63 k_X6_70 (fun l9 hl9 => cM_done) hG ⟨8, _, TX6, 16, List.mem_cons_self, rfl⟩ rfl rfl (Nat.le_of_ble_eq_true rfl) (by decide) (by decide) (by decide) (by decide)) rfl rfl rfl (fun w9 u9 hp9 => ?_)
          obtain ⟨rfl, rfl⟩ := hp9
          change V X 0 0 (wM cy ma (up1 r 4 0) e g bf hy sv bu le pa) [some (.ref (ma 0)), some (.int (nI a)), some (.int (nI z)), some (.int (nI i))] [.int (nI z)] 66
          have e9 : qMib v (nI a) = nI z := by unfold qMib; rw [if_pos c4, na, hz, show i = v 0 4 by omega]
          exact r_ireturn hX hE dX6_metalInBatches_66 rfl (MQ_good hM0 e9 (by omega)) (by decide) (by decide)
        · obtain ⟨bz, ba, -, -, -, bq⟩ := wB i c25
          refine r_iload_n (pc' := 29) hX dX6_metalInBatches_28 rfl rfl ?_
          refine r_aload_n (pc' := 30) hX dX6_metalInBatches_29 rfl rfl ?_
          refine r_get (pc' := 33) (v := .ref (ma 1)) hX dX6_metalInBatches_30 f_X6_7 0 rfl rfl rfl ?_
          refine r_bipush (pc' := 35) (v := nI 63) hX dX6_metalInBatches_33 rfl rfl ?_
          refine r_iload_n (pc' := 36) hX dX6_metalInBatches_35 rfl rfl ?_
          refine r_iadd_N (pc' := 37) hX dX6_metalInBatches_36  rfl ?_
          refine r_iald_N (pc' := 38) hX dX6_metalInBatches_37 (by rw [hcy]) 1 rfl (by omega) (by decide) rfl ?_
          change V X 0 0 (wM cy ma r e g bf hy sv bu le pa) [some (.ref (ma 0)), some (.int (nI a)), some (.int (nI z)), some (.int (nI i))] [.int (nI (g (63 + i))), .int (nI z)] 38
          rw [(hR.man (by omega))]
          refine r_aload_n (pc' := 39) hX dX6_metalInBatches_38 rfl rfl ?_
          refine r_aload_n (pc' := 40) hX dX6_metalInBatches_39 rfl rfl ?_
          refine r_get (pc' := 43) (v := .ref (ma 1)) hX dX6_metalInBatches_40 f_X6_7 0 rfl rfl rfl ?_
          refine r_bipush (pc' := 45) (v := nI 55) hX dX6_metalInBatches_43 rfl rfl ?_
          refine r_iload_n (pc' := 46) hX dX6_metalInBatches_45 rfl rfl ?_
          refine r_iadd_N (pc' := 47) hX dX6_metalInBatches_46  rfl ?_
          refine r_iald_N (pc' := 48) hX dX6_metalInBatches_47 (by rw [hcy]) 1 rfl (by omega) (by decide) rfl ?_
          change V X 0 0 (wM cy ma r e g bf hy sv bu le pa) [some (.ref (ma 0)), some (.int (nI a)), some (.int (nI z)), some (.int (nI i))] [.int (nI (g (55 + i))), .ref (ma 0), .int (nI (v (13 + i) 2)), .int (nI z)] 48
          rw [(hR.aly (by omega))]
          refine r_iload_n (pc' := 49) hX dX6_metalInBatches_48 rfl rfl ?_
          refine V_call0 (k' := 0) (n' := 0) (pc' := 52) hX (r_runV (As := [.int (nI (v (13 + i) 3)), .int (nI a)]) hX dX6_metalInBatches_49 k_X6_53 (fun l9 hl9 => cM_part hR (by omega) (by omega)) hG ⟨8, _, TX6, 16, List.mem_cons_self, rfl⟩ rfl rfl (Nat.le_of_ble_eq_true rfl) (by decide) (by decide) (by decide) (by decide)) rfl rfl rfl (fun w9 u9 hp9 => ?_)
          obtain ⟨rfl, rfl⟩ := hp9
          change V X 0 0 (wM cy ma r e g bf hy sv bu le pa) [some (.ref (ma 0)), some (.int (nI a)), some (.int (nI z)), some (.int (nI i))] [.int (nI (v (7 + (v (13 + i) 3)) a)), .int (nI (v (13 + i) 2)), .int (nI z)] 52
          refine r_imul_N (pc' := 53) hX dX6_metalInBatches_52  rfl ?_
          refine r_iadd_N (pc' := 54) hX dX6_metalInBatches_53  rfl ?_
          refine r_istore_n (L' := [some (.ref (ma 0)), some (.int (nI a)), some (.int (nI (z + ((v (13 + i) 2) * (v (7 + (v (13 + i) 3)) a))))), some (.int (nI i))]) (pc' := 55) hX dX6_metalInBatches_54 (nlt hnL (by decide)) rfl rfl rfl ?_
          refine r_iinc_N (b := 1) (L' := [some (.ref (ma 0)), some (.int (nI a)), some (.int (nI (z + ((v (13 + i) 2) * (v (7 + (v (13 + i) 3)) a))))), some (.int (nI (i + 1)))]) (pc' := 58) hX dX6_metalInBatches_55 rfl (nlt hnL (by decide)) rfl rfl rfl ?_
          refine r_goto (tgt := 17) hX dX6_metalInBatches_58 (by decide) ?_
          have q1 : v (13 + i) 2 * v (7 + v (13 + i) 3) a ≤ 9 * 9 := Nat.mul_le_mul (by omega) (wR _ a (by omega) (by omega))
          exact ih17 (i + 1) (z + ((v (13 + i) 2) * (v (7 + (v (13 + i) 3)) a))) (by omega) (by omega) (by rw [hz]; rfl) (by omega)
    exact loop17 _ 0 0 (Nat.lt_succ_self _) (by omega) rfl (by omega)
  · refine r_aload_n (pc' := 8) hX dX6_metalInBatches_7 rfl rfl ?_
    refine r_iconst (pc' := 9) (v := nI 1) hX dX6_metalInBatches_8 rfl rfl ?_
    refine V_call0 (k' := 0) (n' := 0) (pc' := 12) hX (r_runV (As := [.int (nI 1)]) hX dX6_metalInBatches_9 k_X6_67 (fun l9 hl9 => cM_fails (by omega)) hG ⟨8, _, TX6, 16, List.mem_cons_self, rfl⟩ rfl rfl (Nat.le_of_ble_eq_true rfl) (by decide) (by decide) (by decide) (by decide)) rfl rfl rfl (fun w9 u9 hp9 => ?_)
    obtain ⟨rfl, rfl⟩ := hp9
    change V X 0 0 (wM cy ma (up1 r 4 1) e g bf hy sv bu le pa) [some (.ref (ma 0)), some (.int x), none, none] [.int (nI 0)] 12
    have e9 : qMib v x = -1 := by unfold qMib; rw [if_neg c4]
    exact r_ireturn hX hE dX6_metalInBatches_12 rfl (MQ_bad hM0 e9 rfl rfl) (by decide) (by decide)

set_option maxRecDepth 20000 in
set_option maxHeartbeats 1000000 in
theorem cMw_metalByAccounts {l : Launch} {D : va_G} {cy : Nat → ClassId} {sa : Nat → Nat} {ma : Nat → Nat} {S : AS} {t : Nat} {ws : va_W} {v : SV} (hvS : v = S.1) (h : MS cy ma S t ws) (hv : Wf v) {x : Int32}  : MG l yX6_metalByAccounts cX6_metalByAccounts 2 (some .int) 3 0 0 (D, cy, sa) [.ref (ma 0), .int x] (ws) (fun w u => w = some (.int (mvl (qMib v x))) ∧ MS cy ma S (kd 1 1 1 1 1 (qMib v x)) u) := by
  obtain ⟨r, e, g, bf, hy, sv, bu, le, pa, rfl, hM⟩ := h
  have hM0 := hM
  obtain ⟨h4, hR, h0, h8, hH, hS, hT, hO, hE⟩ := hM
  rw [← hvS] at hR
  have hv0 := hv
  obtain ⟨wa, wm, wb, ws, wt, wc, wB, wR, wL, wK, wP⟩ := hv
  refine MG_by (own := RX6) (L := [some (.ref (ma 0)), some (.int x)]) (by decide +kernel) rfl rfl (Nat.le_of_ble_eq_true rfl) 0 rfl (fun X hX hE hnL hG hcy hnm => ?_)
  refine r_aload_n (pc' := 1) hX dX6_metalByAccounts_0 rfl rfl ?_
  refine r_iload_n (pc' := 2) hX dX6_metalByAccounts_1 rfl rfl ?_
  refine V_call0 (k' := 0) (n' := 0) (pc' := 5) hX (r_runV (As := [.int x]) hX dX6_metalByAccounts_2 k_X6_147 (fun l9 hl9 => cM_metalInBatches hv0 hR) hG ⟨8, _, TX6, 16, List.mem_cons_self, rfl⟩ rfl rfl (Nat.le_of_ble_eq_true rfl) (by decide) (by decide) (by decide) (by decide)) rfl rfl rfl (fun w9 u9 hp9 => ?_)
  obtain ⟨rfl, rfl⟩ := hp9
  change V X 0 0 (wM cy ma (up1 r 4 (kd 1 1 1 1 1 (qMib v x))) e g bf hy sv bu le pa) [some (.ref (ma 0)), some (.int x)] [.int (mvl (qMib v x))] 5
  exact r_ireturn hX hE dX6_metalByAccounts_5 rfl ⟨rfl, MS_thr hM0⟩ (by decide) (by decide)

set_option maxRecDepth 20000 in
set_option maxHeartbeats 1000000 in
theorem cMw_batchBySqueak {l : Launch} {D : va_G} {cy : Nat → ClassId} {sa : Nat → Nat} {ma : Nat → Nat} {S : AS} {t : Nat} {ws : va_W} {v : SV} (hvS : v = S.1) (h : MS cy ma S t ws) (hv : Wf v) {x : Int32}  : MG l yX6_batchBySqueak cX6_batchBySqueak 5 (some .int) 2 0 0 (D, cy, sa) [.ref (ma 0), .int x] (ws) (fun w u => w = some (.int (mvl (qRnk v x))) ∧ MS cy ma S (kd 1 1 1 1 1 (qRnk v x)) u) := by
  obtain ⟨r, e, g, bf, hy, sv, bu, le, pa, rfl, hM⟩ := h
  have hM0 := hM
  obtain ⟨h4, hR, h0, h8, hH, hS, hT, hO, hE⟩ := hM
  rw [← hvS] at hR
  have hv0 := hv
  obtain ⟨wa, wm, wb, ws, wt, wc, wB, wR, wL, wK, wP⟩ := hv
  refine MG_by (own := RX6) (L := [some (.ref (ma 0)), some (.int x), none, none, none]) (by decide +kernel) rfl rfl (Nat.le_of_ble_eq_true rfl) 3 rfl (fun X hX hE hnL hG hcy hnm => ?_)
  refine r_iconst (pc' := 1) (v := nI 0) hX dX6_batchBySqueak_0 rfl rfl ?_
  refine r_istore_n (L' := [some (.ref (ma 0)), some (.int x), some (.int (nI 0)), none, none]) (pc' := 2) hX dX6_batchBySqueak_1 (nlt hnL (by decide)) rfl rfl rfl ?_
  have loop2 : ∀ (n9 : Nat) (i : Nat), v 0 4 - i < n9 → (i ≤ v 0 4) → (∀ j, j < i → ¬ (rnk v (v 0 4) j : Int) = x.toInt) → V X 0 0 (wM cy ma r e g bf hy sv bu le pa) [some (.ref (ma 0)), some (.int x), some (.int (nI i)), none, none] [] 2 := by
    intro n9
    induction n9 with
    | zero => intro i hm; exact absurd hm (Nat.not_lt_zero _)
    | succ n9 ih2 =>
      intro i hm hi hn
      refine r_iload_n (pc' := 3) hX dX6_batchBySqueak_2 rfl rfl ?_
      refine r_aload_n (pc' := 4) hX dX6_batchBySqueak_3 rfl rfl ?_
      refine r_get (pc' := 7) (v := .ref (ma 1)) hX dX6_batchBySqueak_4 f_X6_7 0 rfl rfl rfl ?_
      refine r_bipush (pc' := 9) (v := nI 7) hX dX6_batchBySqueak_7 rfl rfl ?_
      refine r_iald_N (pc' := 10) hX dX6_batchBySqueak_9 (by rw [hcy]) 1 rfl (by omega) (by decide) rfl ?_
      change V X 0 0 (wM cy ma r e g bf hy sv bu le pa) [some (.ref (ma 0)), some (.int x), some (.int (nI i)), none, none] [.int (nI (g 7)), .int (nI i)] 10
      rw [hR.bat]
      refine r_icmp_ge_N (tgt := 103) (pc' := 13) hX dX6_batchBySqueak_10 (by decide) rfl (by omega) (by omega) (fun c10 => ?_) (fun c10 => ?_)
      · refine r_aload_n (pc' := 104) hX dX6_batchBySqueak_103 rfl rfl ?_
        refine r_iconst (pc' := 105) (v := nI 1) hX dX6_batchBySqueak_104 rfl rfl ?_
        refine V_call0 (k' := 0) (n' := 0) (pc' := 108) hX (r_runV (As := [.int (nI 1)]) hX dX6_batchBySqueak_105 k_X6_67 (fun l9 hl9 => cM_fails (by omega)) hG ⟨8, _, TX6, 16, List.mem_cons_self, rfl⟩ rfl rfl (Nat.le_of_ble_eq_true rfl) (by decide) (by decide) (by decide) (by decide)) rfl rfl rfl (fun w9 u9 hp9 => ?_)
        obtain ⟨rfl, rfl⟩ := hp9
        change V X 0 0 (wM cy ma (up1 r 4 1) e g bf hy sv bu le pa) [some (.ref (ma 0)), some (.int x), some (.int (nI i)), none, none] [.int (nI 0)] 108
        have e9 : qRnk v x = -5 := by unfold qRnk; rw [lst_no (p := fun i => (rnk v (v 0 4) i : Int) = x.toInt) (fun j hj => hn j (by omega)), if_neg (by omega)]
        exact r_ireturn hX hE dX6_batchBySqueak_108 rfl (MQ_bad hM0 e9 rfl rfl) (by decide) (by decide)
      · obtain ⟨bz, ba, -, b0, -, bq⟩ := wB i c10
        have si := sumT_le (v (21 + i)) (wB i (by omega)).2.2.2.2.2
        have si9 : sumB v i ≤ 891 := by have := (wB i (by omega)).1; unfold sumB; omega
        refine r_iconst (pc' := 14) (v := nI 0) hX dX6_batchBySqueak_13 rfl rfl ?_
        refine r_istore_n (L' := [some (.ref (ma 0)), some (.int x), some (.int (nI i)), some (.int (nI 0)), none]) (pc' := 15) hX dX6_batchBySqueak_14 (nlt hnL (by decide)) rfl rfl rfl ?_
        refine r_iconst (pc' := 16) (v := nI 0) hX dX6_batchBySqueak_15 rfl rfl ?_
        refine r_istore (L' := [some (.ref (ma 0)), some (.int x), some (.int (nI i)), some (.int (nI 0)), some (.int (nI 0))]) (pc' := 18) hX dX6_batchBySqueak_16 (nlt hnL (by decide)) rfl rfl rfl ?_
        have loop18 : ∀ (n9 : Nat) (o : Nat) (c : Nat), v 0 4 - o < n9 → (o ≤ v 0 4) → (c = rnk v o i) → (c ≤ o) → V X 0 0 (wM cy ma r e g bf hy sv bu le pa) [some (.ref (ma 0)), some (.int x), some (.int (nI i)), some (.int (nI c)), some (.int (nI o))] [] 18 := by
          intro n9
          induction n9 with
          | zero => intro o c hm; exact absurd hm (Nat.not_lt_zero _)
          | succ n9 ih18 =>
            intro o c hm ho hc hcb
            refine r_iload (pc' := 20) hX dX6_batchBySqueak_18 rfl rfl ?_
            refine r_aload_n (pc' := 21) hX dX6_batchBySqueak_20 rfl rfl ?_
            refine r_get (pc' := 24) (v := .ref (ma 1)) hX dX6_batchBySqueak_21 f_X6_7 0 rfl rfl rfl ?_
            refine r_bipush (pc' := 26) (v := nI 7) hX dX6_batchBySqueak_24 rfl rfl ?_
            refine r_iald_N (pc' := 27) hX dX6_batchBySqueak_26 (by rw [hcy]) 1 rfl (by omega) (by decide) rfl ?_
            change V X 0 0 (wM cy ma r e g bf hy sv bu le pa) [some (.ref (ma 0)), some (.int x), some (.int (nI i)), some (.int (nI c)), some (.int (nI o))] [.int (nI (g 7)), .int (nI o)] 27
            rw [hR.bat]
            refine r_icmp_ge_N (tgt := 78) (pc' := 30) hX dX6_batchBySqueak_27 (by decide) rfl (by omega) (by omega) (fun c27 => ?_) (fun c27 => ?_)
            · have hrk0 : c = rnk v (v 0 4) i := by rw [hc, show o = v 0 4 by omega]
              refine r_iload_n (pc' := 79) hX dX6_batchBySqueak_78 rfl rfl ?_
              refine r_iload_n (pc' := 80) hX dX6_batchBySqueak_79 rfl rfl ?_
              refine r_icmp_ne_I (tgt := 97) (pc' := 83) hX dX6_batchBySqueak_80 (by decide) rfl (nI_I (by omega)) rfl (fun c80 => ?_) (fun c80 => ?_)
              · have hrk : ¬ (rnk v (v 0 4) i : Int) = x.toInt := by rw [← hrk0]; exact c80
                refine r_iinc_N (b := 1) (L' := [some (.ref (ma 0)), some (.int x), some (.int (nI (i + 1))), some (.int (nI c)), some (.int (nI o))]) (pc' := 100) hX dX6_batchBySqueak_97 rfl (nlt hnL (by decide)) rfl rfl rfl ?_
                refine r_goto (tgt := 2) hX dX6_batchBySqueak_100 (by decide) ?_
                refine V_loc (L' := [some (.ref (ma 0)), some (.int x), some (.int (nI (i + 1))), none, none]) (lo_w ⟨.inr rfl, .inr rfl, .inr rfl, .inl rfl, .inl rfl, trivial⟩) ?_
                exact ih2 (i + 1) (by omega) (by omega) (fun j hj => (Nat.lt_succ_iff_lt_or_eq.mp hj).elim (hn j) (fun e9 => by rw [e9]; exact hrk))
              · refine r_aload_n (pc' := 84) hX dX6_batchBySqueak_83 rfl rfl ?_
                refine r_aload_n (pc' := 85) hX dX6_batchBySqueak_84 rfl rfl ?_
                refine r_get (pc' := 88) (v := .ref (ma 1)) hX dX6_batchBySqueak_85 f_X6_7 0 rfl rfl rfl ?_
                refine r_bipush (pc' := 90) (v := nI 47) hX dX6_batchBySqueak_88 rfl rfl ?_
                refine r_iload_n (pc' := 91) hX dX6_batchBySqueak_90 rfl rfl ?_
                refine r_iadd_N (pc' := 92) hX dX6_batchBySqueak_91  rfl ?_
                refine r_iald_N (pc' := 93) hX dX6_batchBySqueak_92 (by rw [hcy]) 1 rfl (by omega) (by decide) rfl ?_
                change V X 0 0 (wM cy ma r e g bf hy sv bu le pa) [some (.ref (ma 0)), some (.int x), some (.int (nI i)), some (.int (nI c)), some (.int (nI o))] [.int (nI (g (47 + i))), .ref (ma 0)] 93
                rw [(hR.num (by omega))]
                refine V_call0 (k' := 0) (n' := 0) (pc' := 96) hX (r_runV (As := [.int (nI (v (13 + i) 0))]) hX dX6_batchBySqueak_93 k_X6_70 (fun l9 hl9 => cM_done) hG ⟨8, _, TX6, 16, List.mem_cons_self, rfl⟩ rfl rfl (Nat.le_of_ble_eq_true rfl) (by decide) (by decide) (by decide) (by decide)) rfl rfl rfl (fun w9 u9 hp9 => ?_)
                obtain ⟨rfl, rfl⟩ := hp9
                change V X 0 0 (wM cy ma (up1 r 4 0) e g bf hy sv bu le pa) [some (.ref (ma 0)), some (.int x), some (.int (nI i)), some (.int (nI c)), some (.int (nI o))] [.int (nI (v (13 + i) 0))] 96
                have hrk : (rnk v (v 0 4) i : Int) = x.toInt := by rw [← hrk0]; exact c80
                have e9 : qRnk v x = nI (v (13 + i) 0) := by unfold qRnk; rw [lst_at (p := fun i => (rnk v (v 0 4) i : Int) = x.toInt) hrk hn (by omega), if_pos (by omega)]
                exact r_ireturn hX hE dX6_batchBySqueak_96 rfl (MQ_good hM0 e9 (by omega)) (by decide) (by decide)
            · have so := sumT_le (v (21 + o)) (wB o (by omega)).2.2.2.2.2
              have so9 : sumB v o ≤ 891 := by have := (wB o (by omega)).1; unfold sumB; omega
              refine r_iload_n (pc' := 31) hX dX6_batchBySqueak_30 rfl rfl ?_
              refine r_aload_n (pc' := 32) hX dX6_batchBySqueak_31 rfl rfl ?_
              refine r_iload (pc' := 34) hX dX6_batchBySqueak_32 rfl rfl ?_
              refine V_call0 (k' := 0) (n' := 0) (pc' := 37) hX (r_runV (As := [.int (nI o)]) hX dX6_batchBySqueak_34 k_X6_150 (fun l9 hl9 => cM_sumOf hv0 hR (by omega)) hG ⟨8, _, TX6, 16, List.mem_cons_self, rfl⟩ rfl rfl (Nat.le_of_ble_eq_true rfl) (by decide) (by decide) (by decide) (by decide)) rfl rfl rfl (fun w9 u9 hp9 => ?_)
              obtain ⟨rfl, rfl⟩ := hp9
              change V X 0 0 (wM cy ma r e g bf hy sv bu le pa) [some (.ref (ma 0)), some (.int x), some (.int (nI i)), some (.int (nI c)), some (.int (nI o))] [.int (nI (sumB v o)), .int (nI c)] 37
              refine r_aload_n (pc' := 38) hX dX6_batchBySqueak_37 rfl rfl ?_
              refine r_iload_n (pc' := 39) hX dX6_batchBySqueak_38 rfl rfl ?_
              refine V_call0 (k' := 0) (n' := 0) (pc' := 42) hX (r_runV (As := [.int (nI i)]) hX dX6_batchBySqueak_39 k_X6_150 (fun l9 hl9 => cM_sumOf hv0 hR (by omega)) hG ⟨8, _, TX6, 16, List.mem_cons_self, rfl⟩ rfl rfl (Nat.le_of_ble_eq_true rfl) (by decide) (by decide) (by decide) (by decide)) rfl rfl rfl (fun w9 u9 hp9 => ?_)
              obtain ⟨rfl, rfl⟩ := hp9
              change V X 0 0 (wM cy ma r e g bf hy sv bu le pa) [some (.ref (ma 0)), some (.int x), some (.int (nI i)), some (.int (nI c)), some (.int (nI o))] [.int (nI (sumB v i)), .int (nI (sumB v o)), .int (nI c)] 42
              refine r_icmp_lt_N (tgt := 65) (pc' := 45) hX dX6_batchBySqueak_42 (by decide) rfl (by omega) (by omega) (fun c42 => ?_) (fun c42 => ?_)
              · refine r_iconst (pc' := 66) (v := nI 1) hX dX6_batchBySqueak_65 rfl rfl ?_
                refine r_goto (tgt := 70) hX dX6_batchBySqueak_66 (by decide) ?_
                refine r_iadd_N (pc' := 71) hX dX6_batchBySqueak_70  rfl ?_
                refine r_istore_n (L' := [some (.ref (ma 0)), some (.int x), some (.int (nI i)), some (.int (nI (c + 1))), some (.int (nI o))]) (pc' := 72) hX dX6_batchBySqueak_71 (nlt hnL (by decide)) rfl rfl rfl ?_
                refine r_iinc_N (b := 1) (L' := [some (.ref (ma 0)), some (.int x), some (.int (nI i)), some (.int (nI (c + 1))), some (.int (nI (o + 1)))]) (pc' := 75) hX dX6_batchBySqueak_72 rfl (nlt hnL (by decide)) rfl rfl rfl ?_
                refine r_goto (tgt := 18) hX dX6_batchBySqueak_75 (by decide) ?_
                exact ih18 (o + 1) (c + 1) (by omega) (by omega) (by unfold rnk at hc ⊢; rw [cnt_succ, ← hc]; split <;> omega) (by omega)
              · refine r_aload_n (pc' := 46) hX dX6_batchBySqueak_45 rfl rfl ?_
                refine r_iload (pc' := 48) hX dX6_batchBySqueak_46 rfl rfl ?_
                refine V_call0 (k' := 0) (n' := 0) (pc' := 51) hX (r_runV (As := [.int (nI o)]) hX dX6_batchBySqueak_48 k_X6_150 (fun l9 hl9 => cM_sumOf hv0 hR (by omega)) hG ⟨8, _, TX6, 16, List.mem_cons_self, rfl⟩ rfl rfl (Nat.le_of_ble_eq_true rfl) (by decide) (by decide) (by decide) (by decide)) rfl rfl rfl (fun w9 u9 hp9 => ?_)
                obtain ⟨rfl, rfl⟩ := hp9
                change V X 0 0 (wM cy ma r e g bf hy sv bu le pa) [some (.ref (ma 0)), some (.int x), some (.int (nI i)), some (.int (nI c)), some (.int (nI o))] [.int (nI (sumB v o)), .int (nI c)] 51
                refine r_aload_n (pc' := 52) hX dX6_batchBySqueak_51 rfl rfl ?_
                refine r_iload_n (pc' := 53) hX dX6_batchBySqueak_52 rfl rfl ?_
                refine V_call0 (k' := 0) (n' := 0) (pc' := 56) hX (r_runV (As := [.int (nI i)]) hX dX6_batchBySqueak_53 k_X6_150 (fun l9 hl9 => cM_sumOf hv0 hR (by omega)) hG ⟨8, _, TX6, 16, List.mem_cons_self, rfl⟩ rfl rfl (Nat.le_of_ble_eq_true rfl) (by decide) (by decide) (by decide) (by decide)) rfl rfl rfl (fun w9 u9 hp9 => ?_)
                obtain ⟨rfl, rfl⟩ := hp9
                change V X 0 0 (wM cy ma r e g bf hy sv bu le pa) [some (.ref (ma 0)), some (.int x), some (.int (nI i)), some (.int (nI c)), some (.int (nI o))] [.int (nI (sumB v i)), .int (nI (sumB v o)), .int (nI c)] 56
                refine r_icmp_ne_N (tgt := 69) (pc' := 59) hX dX6_batchBySqueak_56 (by decide) rfl (by omega) (by omega) (fun c56 => ?_) (fun c56 => ?_)
                · refine r_iconst (pc' := 70) (v := nI 0) hX dX6_batchBySqueak_69 rfl rfl ?_
                  refine r_iadd_N (pc' := 71) hX dX6_batchBySqueak_70  rfl ?_
                  refine r_istore_n (L' := [some (.ref (ma 0)), some (.int x), some (.int (nI i)), some (.int (nI (c + 0))), some (.int (nI o))]) (pc' := 72) hX dX6_batchBySqueak_71 (nlt hnL (by decide)) rfl rfl rfl ?_
                  refine r_iinc_N (b := 1) (L' := [some (.ref (ma 0)), some (.int x), some (.int (nI i)), some (.int (nI (c + 0))), some (.int (nI (o + 1)))]) (pc' := 75) hX dX6_batchBySqueak_72 rfl (nlt hnL (by decide)) rfl rfl rfl ?_
                  refine r_goto (tgt := 18) hX dX6_batchBySqueak_75 (by decide) ?_
                  exact ih18 (o + 1) (c + 0) (by omega) (by omega) (by unfold rnk at hc ⊢; rw [cnt_succ, ← hc]; split <;> omega) (by omega)
                · refine r_iload (pc' := 61) hX dX6_batchBySqueak_59 rfl rfl ?_
                  refine r_iload_n (pc' := 62) hX dX6_batchBySqueak_61 rfl rfl ?_
                  refine r_icmp_ge_N (tgt := 69) (pc' := 65) hX dX6_batchBySqueak_62 (by decide) rfl (by omega) (by omega) (fun c62 => ?_) (fun c62 => ?_)
                  · refine r_iconst (pc' := 70) (v := nI 0) hX dX6_batchBySqueak_69 rfl rfl ?_
                    refine r_iadd_N (pc' := 71) hX dX6_batchBySqueak_70  rfl ?_
                    refine r_istore_n (L' := [some (.ref (ma 0)), some (.int x), some (.int (nI i)), some (.int (nI (c + 0))), some (.int (nI o))]) (pc' := 72) hX dX6_batchBySqueak_71 (nlt hnL (by decide)) rfl rfl rfl ?_
                    refine r_iinc_N (b := 1) (L' := [some (.ref (ma 0)), some (.int x), some (.int (nI i)), some (.int (nI (c + 0))), some (.int (nI (o + 1)))]) (pc' := 75) hX dX6_batchBySqueak_72 rfl (nlt hnL (by decide)) rfl rfl rfl ?_
                    refine r_goto (tgt := 18) hX dX6_batchBySqueak_75 (by decide) ?_
                    exact ih18 (o + 1) (c + 0) (by omega) (by omega) (by unfold rnk at hc ⊢; rw [cnt_succ, ← hc]; split <;> omega) (by omega)
                  · refine r_iconst (pc' := 66) (v := nI 1) hX dX6_batchBySqueak_65 rfl rfl ?_
                    refine r_goto (tgt := 70) hX dX6_batchBySqueak_66 (by decide) ?_
                    refine r_iadd_N (pc' := 71) hX dX6_batchBySqueak_70  rfl ?_
                    refine r_istore_n (L' := [some (.ref (ma 0)), some (.int x), some (.int (nI i)), some (.int (nI (c + 1))), some (.int (nI o))]) (pc' := 72) hX dX6_batchBySqueak_71 (nlt hnL (by decide)) rfl rfl rfl ?_
                    refine r_iinc_N (b := 1) (L' := [some (.ref (ma 0)), some (.int x), some (.int (nI i)), some (.int (nI (c + 1))), some (.int (nI (o + 1)))]) (pc' := 75) hX dX6_batchBySqueak_72 rfl (nlt hnL (by decide)) rfl rfl rfl ?_
                    refine r_goto (tgt := 18) hX dX6_batchBySqueak_75 (by decide) ?_
                    exact ih18 (o + 1) (c + 1) (by omega) (by omega) (by unfold rnk at hc ⊢; rw [cnt_succ, ← hc]; split <;> omega) (by omega)
        exact loop18 _ 0 0 (Nat.lt_succ_self _) (by omega) rfl (by omega)
  exact loop2 _ 0 (Nat.lt_succ_self _) (by omega) (fun j hj => absurd hj (Nat.not_lt_zero _))

set_option maxRecDepth 20000 in
set_option maxHeartbeats 1000000 in
theorem cMw_isConsistent {l : Launch} {D : va_G} {cy : Nat → ClassId} {sa : Nat → Nat} {ma : Nat → Nat} {S : AS} {t : Nat} {ws : va_W} {v : SV} (hvS : v = S.1) (h : MS cy ma S t ws) (hv : Wf v)  : MG l yX6_isConsistent cX6_isConsistent 1 (some .boolean) 0 0 0 (D, cy, sa) [.ref (ma 0)] (ws) (fun w u => w = some (.int (nI 1)) ∧ MS cy ma S 0 u) := by
  obtain ⟨r, e, g, bf, hy, sv, bu, le, pa, rfl, hM⟩ := h
  have hM0 := hM
  obtain ⟨h4, hR, h0, h8, hH, hS, hT, hO, hE⟩ := hM
  rw [← hvS] at hR
  have hv0 := hv
  obtain ⟨wa, wm, wb, ws, wt, wc, wB, wR, wL, wK, wP⟩ := hv
  refine MG_by (own := RX6) (L := [some (.ref (ma 0))]) (by decide +kernel) rfl rfl (Nat.le_of_ble_eq_true rfl) 0 rfl (fun X hX hE hnL hG hcy hnm => ?_)
  refine r_aload_n (pc' := 1) hX dX6_isConsistent_0 rfl rfl ?_
  refine r_iconst (pc' := 2) (v := nI 0) hX dX6_isConsistent_1 rfl rfl ?_
  refine r_put (ws' := wM cy ma (up1 r 4 0) e g bf hy sv bu le pa) (pc' := 5) hX dX6_isConsistent_2 f_X6_39 fw_X6_12 0 rfl rfl rfl (Nat.le_of_ble_eq_true rfl) rfl rfl ?_
  refine r_iconst (pc' := 6) (v := nI 1) hX dX6_isConsistent_5 rfl rfl ?_
  exact r_zreturn hX hE dX6_isConsistent_6 rfl rfl ⟨rfl, MS_thr hM0⟩ (by decide) (by decide)

set_option maxRecDepth 20000 in
set_option maxHeartbeats 1000000 in
theorem cMw_thrown {l : Launch} {D : va_G} {cy : Nat → ClassId} {sa : Nat → Nat} {ma : Nat → Nat} {S : AS} {t : Nat} {ws : va_W} (h : MS cy ma S t ws) : MG l yX6_thrown cX6_thrown 1 (some .int) 0 0 0 (D, cy, sa) [.ref (ma 0)] (ws) (fun w u => w = some (.int (nI t)) ∧ MS cy ma S t u) := by
  obtain ⟨r, e, g, bf, hy, sv, bu, le, pa, rfl, hM⟩ := h
  have hM0 := hM
  obtain ⟨h4, hR, h0, h8, hH, hS, hT, hO, hE⟩ := hM
  refine MG_by (own := RX6) (L := [some (.ref (ma 0))]) (by decide +kernel) rfl rfl (Nat.le_of_ble_eq_true rfl) 0 rfl (fun X hX hE hnL hG hcy hnm => ?_)
  refine r_aload_n (pc' := 1) hX dX6_thrown_0 rfl rfl ?_
  refine r_get (pc' := 4) (v := .int (nI (r 4))) hX dX6_thrown_1 f_X6_39 0 rfl rfl rfl ?_
  exact r_ireturn hX hE dX6_thrown_4 rfl ⟨rN h4, _, _, _, _, _, _, _, _, _, rfl, hM0⟩ (by decide) (by decide)
