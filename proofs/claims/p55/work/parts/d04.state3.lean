/-! ===== State: casting, inspecting, melting ===== -/
set_option maxRecDepth 20000 in
set_option maxHeartbeats 4000000 in
theorem cS_fill {l : Launch} {D : va_G} {cy : Nat → ClassId} {sa : Nat → Nat} {ad : Nat → Nat} {v : SV} {i a m n : Nat} (hv : Wf v) (hi : i < 8) (hn : v 0 4 ≤ i) (ha : a < v 0 0) (hm9 : m < v 0 1) (h1 : 1 ≤ n ∧ n ≤ 9) (hu : v 2 m + n ≤ 20) : MG l yX4_fill cX4_fill 6 none 2 0 0 (D, cy, sa) [.ref (ad 0), .ref (ad (15 + i)), .int (nI a), .int (nI m), .int (nI n)] (wSt cy ad v) (fun w u => w = none ∧ u = wSt cy ad (fil v i a m n)) := by
  have hv0 := hv
  obtain ⟨wa, wm, wb, ws, wt, wc, wB, wR, wL, wK, wP⟩ := hv
  refine MG_by (own := RX4) (L := [some (.ref (ad 0)), some (.ref (ad (15 + i))), some (.int (nI a)), some (.int (nI m)), some (.int (nI n)), none]) (by decide +kernel) rfl rfl (Nat.le_of_ble_eq_true rfl) 1 rfl (fun X hX hE hnL hG hcy hnm => ?_)
  refine r_aload_n (pc' := 1) hX dX4_fill_0 rfl rfl ?_
  refine r_aload_n (pc' := 2) hX dX4_fill_1 rfl rfl ?_
  refine r_get (pc' := 5) (v := .int (nI (v 0 5))) hX dX4_fill_2 f_X4_57 0 rfl rfl rfl ?_
  refine r_putB (pc' := 8) hX dX4_fill_5 f_X4_99 fw_X1_0 (by omega) (by decide) rfl rfl rfl ?_
  refine r_aload_n (pc' := 9) hX dX4_fill_8 rfl rfl ?_
  refine r_aload_n (pc' := 10) hX dX4_fill_9 rfl rfl ?_
  refine r_get (pc' := 13) (v := .int (nI (v 0 6))) hX dX4_fill_10 f_X4_60 0 rfl (rN (congrFun (up2_ne (v := v) (b := 13 + i) (i := 0) (x := (v 0 5)) (b' := 0) (by omega)) 6)) rfl ?_
  refine r_putB (pc' := 16) hX dX4_fill_13 f_X4_102 fw_X1_1 (by omega) (by decide) rfl rfl rfl ?_
  refine r_aload_n (pc' := 17) hX dX4_fill_16 rfl rfl ?_
  refine r_iload (pc' := 19) hX dX4_fill_17 rfl rfl ?_
  refine r_putB (pc' := 22) hX dX4_fill_19 f_X4_105 fw_X1_2 (by omega) (by decide) rfl rfl rfl ?_
  refine r_aload_n (pc' := 23) hX dX4_fill_22 rfl rfl ?_
  refine r_iload_n (pc' := 24) hX dX4_fill_23 rfl rfl ?_
  refine r_putB (pc' := 27) hX dX4_fill_24 f_X4_108 fw_X1_3 (by omega) (by decide) rfl rfl rfl ?_
  refine r_aload_n (pc' := 28) hX dX4_fill_27 rfl rfl ?_
  refine r_iconst (pc' := 29) (v := nI 0) hX dX4_fill_28 rfl rfl ?_
  refine r_putB (pc' := 32) hX dX4_fill_29 f_X4_111 fw_X1_4 (by omega) (by decide) rfl rfl rfl ?_
  refine r_iconst (pc' := 33) (v := nI 0) hX dX4_fill_32 rfl rfl ?_
  refine r_istore (L' := [some (.ref (ad 0)), some (.ref (ad (15 + i))), some (.int (nI a)), some (.int (nI m)), some (.int (nI n)), some (.int (nI 0))]) (pc' := 35) hX dX4_fill_33 (nlt hnL (by decide)) rfl rfl rfl ?_
  have loop35 : ∀ (n9 : Nat) (k : Nat) (w : SV), n - k < n9 → (k ≤ n) → (w = filL (filB v i a n) i a m k) → (Wf w) → (∀ j, w 0 j = v 0 j) → (w 2 m = v 2 m + k) → V X 0 0 (wSt cy ad w) [some (.ref (ad 0)), some (.ref (ad (15 + i))), some (.int (nI a)), some (.int (nI m)), some (.int (nI n)), some (.int (nI k))] [] 35 := by
    intro n9
    induction n9 with
    | zero => intro k w hm; exact absurd hm (Nat.not_lt_zero _)
    | succ n9 ih35 =>
      intro k w hm hk hw hW h0 hu2
      refine r_iload (pc' := 37) hX dX4_fill_35 rfl rfl ?_
      refine r_iload (pc' := 39) hX dX4_fill_37 rfl rfl ?_
      refine r_icmp_ge_N (tgt := 71) (pc' := 42) hX dX4_fill_39 (by decide) rfl (by omega) (by omega) (fun c39 => ?_) (fun c39 => ?_)
      · have e9 : w = fil v i a m n := by rw [hw, show k = n by omega]; rfl
        exact r_vreturn hX hE dX4_fill_71 rfl ⟨rfl, by rw [e9]⟩ (by decide) (by decide)
      · refine r_aload_n (pc' := 43) hX dX4_fill_42 rfl rfl ?_
        refine r_getB (pc' := 46) (x := .ref (ad (23 + i))) hX dX4_fill_43 f_X4_115 (by omega) rfl rfl ?_
        refine r_iload (pc' := 48) hX dX4_fill_46 rfl rfl ?_
        refine r_aload_n (pc' := 49) hX dX4_fill_48 rfl rfl ?_
        refine r_iload_n (pc' := 50) hX dX4_fill_49 rfl rfl ?_
        refine r_iload_n (pc' := 51) hX dX4_fill_50 rfl rfl ?_
        refine V_call0 (k' := 0) (n' := 0) (pc' := 54) hX (r_runV (As := [.int (nI a), .int (nI m)]) hX dX4_fill_51 k_X4_118 (fun l9 hl9 => cS_squeakToCome hW) hG ⟨6, _, TX4, 17, List.mem_cons_self, rfl⟩ rfl rfl (Nat.le_of_ble_eq_true rfl) (by decide) (by decide) (by decide) (by decide)) rfl rfl rfl (fun w9 u9 hp9 => ?_)
        obtain ⟨rfl, rfl⟩ := hp9
        rw [if_pos ⟨(inR_nI (by omega)).mpr (by have := h0 0; omega), (inR_nI (by omega)).mpr (by have := h0 1; omega)⟩, tn_nI (by omega), tn_nI (by omega)]
        change V X 0 0 (wSt cy ad w) [some (.ref (ad 0)), some (.ref (ad (15 + i))), some (.int (nI a)), some (.int (nI m)), some (.int (nI n)), some (.int (nI k))] [.int (nI (sqk w a m)), .int (nI k), .ref (ad (23 + i))] 54
        refine r_iastB (pc' := 55) hX dX4_fill_54 (by rw [hcy]) (by omega) (by omega) rfl ?_
        refine r_aload_n (pc' := 56) hX dX4_fill_55 rfl rfl ?_
        refine r_get (pc' := 59) (v := .ref (ad 9)) hX dX4_fill_56 f_X4_27 0 rfl rfl rfl ?_
        refine r_iload_n (pc' := 60) hX dX4_fill_59 rfl rfl ?_
        refine r_dup2 (pc' := 61) hX dX4_fill_60 rfl rfl rfl ?_
        refine r_iald_N (pc' := 62) hX dX4_fill_61 (by rw [hcy]) 9 rfl (by omega) (by decide) rfl ?_
        change V X 0 0 (wSt cy ad (up2 w (21 + i) k (sqk w a m))) [some (.ref (ad 0)), some (.ref (ad (15 + i))), some (.int (nI a)), some (.int (nI m)), some (.int (nI n)), some (.int (nI k))] [.int (nI ((up2 w (21 + i) k (sqk w a m)) 2 m)), .int (nI m), .ref (ad 9)] 62
        rw [show ((up2 w (21 + i) k (sqk w a m)) 2 m) = (w 2 m) from (congrFun (up2_ne (v := w) (b := 21 + i) (i := k) (x := sqk w a m) (b' := 2) (by omega)) m)]
        refine r_iconst (pc' := 63) (v := nI 1) hX dX4_fill_62 rfl rfl ?_
        refine r_iadd_N (pc' := 64) hX dX4_fill_63  rfl ?_
        refine r_iast_N (ws' := wSt cy ad (up2 (up2 w (21 + i) k (sqk w a m)) 2 m ((w 2 m) + 1))) (pc' := 65) hX dX4_fill_64 (by rw [hcy]) 9 rfl (by omega) (by decide) rfl rfl ?_
        refine r_iinc_N (b := 1) (L' := [some (.ref (ad 0)), some (.ref (ad (15 + i))), some (.int (nI a)), some (.int (nI m)), some (.int (nI n)), some (.int (nI (k + 1)))]) (pc' := 68) hX dX4_fill_65 rfl (nlt hnL (by decide)) rfl rfl rfl ?_
        refine r_goto (tgt := 35) hX dX4_fill_68 (by decide) ?_
        exact ih35 (k + 1) (up2 (up2 w (21 + i) k (sqk w a m)) 2 m ((w 2 m) + 1)) (by omega) (by omega) (by rw [hw]; rfl) ((hW.sqr (by rw [h0]; exact hn) hi).use (by omega)) (fun j => by rw [up2_ne (by decide), up2_ne (by omega)]; exact h0 j) (by rw [up2_s]; omega)
  exact loop35 _ 0 (filB v i a n) (Nat.lt_succ_self _) (by omega) rfl (hv0.filB hn hi) (fun j => congrFun (filB_0 (by omega) hi) j) (by rw [filB_0 (by omega) hi]; rfl)

set_option maxRecDepth 20000 in
set_option maxHeartbeats 4000000 in
theorem cS_pour {l : Launch} {D : va_G} {cy : Nat → ClassId} {sa : Nat → Nat} {ad : Nat → Nat} {v : SV} {x y z : Int32} (hv : Wf v) : MG l yX4_pour cX4_pour 5 (some .int) 3 0 0 (D, cy, sa) [.ref (ad 0), .int x, .int y, .int z] (wSt cy ad v) (fun w u => w = some (.int (oPour v x y z).1) ∧ u = wSt cy ad (oPour v x y z).2) := by
  have hv0 := hv
  obtain ⟨wa, wm, wb, ws, wt, wc, wB, wR, wL, wK, wP⟩ := hv
  refine MG_by (own := RX4) (L := [some (.ref (ad 0)), some (.int x), some (.int y), some (.int z), none]) (by decide +kernel) rfl rfl (Nat.le_of_ble_eq_true rfl) 1 rfl (fun X hX hE hnL hG hcy hnm => ?_)
  refine r_aload_n (pc' := 1) hX dX4_pour_0 rfl rfl ?_
  refine r_iload_n (pc' := 2) hX dX4_pour_1 rfl rfl ?_
  refine V_call0 (k' := 0) (n' := 0) (pc' := 5) hX (r_runV (As := [.int x]) hX dX4_pour_2 k_X4_85 (fun l9 hl9 => cS_hasAlloy hv0) hG ⟨6, _, TX4, 17, List.mem_cons_self, rfl⟩ rfl rfl (Nat.le_of_ble_eq_true rfl) (by decide) (by decide) (by decide) (by decide)) rfl rfl rfl (fun w9 u9 hp9 => ?_)
  obtain ⟨rfl, rfl⟩ := hp9
  change V X 0 0 (wSt cy ad v) [some (.ref (ad 0)), some (.int x), some (.int y), some (.int z), none] [.int (bI (inR x (v 0 0)))] 5
  refine r_if_eq_B (tgt := 16) (pc' := 8) hX dX4_pour_5 (by decide) rfl (fun c5 => ?_) (fun c5 => ?_)
  · refine r_iconst (pc' := 17) (v := (-1)) hX dX4_pour_16 rfl rfl ?_
    have e9 : oPour v x y z = ((-1), v) := by unfold oPour; rw [if_neg (by rintro ⟨q1, q2⟩; first | exact c5 q1 | exact c13 q2)]
    exact r_ireturn hX hE dX4_pour_17 rfl ⟨by rw [e9], by rw [e9]⟩ (by decide) (by decide)
  · obtain ⟨a, ha, rfl⟩ := nat_of c5
    have ta : (nI a).toInt = (a : Int) := nI_I (by omega)
    have na : tn (nI a) = a := tn_nI (by omega)
    refine r_aload_n (pc' := 9) hX dX4_pour_8 rfl rfl ?_
    refine r_iload_n (pc' := 10) hX dX4_pour_9 rfl rfl ?_
    refine V_call0 (k' := 0) (n' := 0) (pc' := 13) hX (r_runV (As := [.int y]) hX dX4_pour_10 k_X4_88 (fun l9 hl9 => cS_hasMould hv0) hG ⟨6, _, TX4, 17, List.mem_cons_self, rfl⟩ rfl rfl (Nat.le_of_ble_eq_true rfl) (by decide) (by decide) (by decide) (by decide)) rfl rfl rfl (fun w9 u9 hp9 => ?_)
    obtain ⟨rfl, rfl⟩ := hp9
    change V X 0 0 (wSt cy ad v) [some (.ref (ad 0)), some (.int (nI a)), some (.int y), some (.int z), none] [.int (bI (inR y (v 0 1)))] 13
    refine r_if_ne_B (tgt := 18) (pc' := 16) hX dX4_pour_13 (by decide) rfl (fun c13 => ?_) (fun c13 => ?_)
    · obtain ⟨m, hm, rfl⟩ := nat_of c13
      have tm : (nI m).toInt = (m : Int) := nI_I (by omega)
      have nm : tn (nI m) = m := tn_nI (by omega)
      refine r_iload_n (pc' := 19) hX dX4_pour_18 rfl rfl ?_
      refine r_iconst (pc' := 20) (v := nI 1) hX dX4_pour_19 rfl rfl ?_
      refine r_icmp_lt_I (tgt := 29) (pc' := 23) hX dX4_pour_20 (by decide) rfl rfl (nI_I (by omega)) (fun c20 => ?_) (fun c20 => ?_)
      · refine r_bipush (pc' := 31) (v := (-2)) hX dX4_pour_29 rfl rfl ?_
        have e9 : oPour v (nI a) (nI m) z = ((-2), v) := by unfold oPour; rw [if_pos ⟨c5, c13⟩, if_neg (by omega)]
        exact r_ireturn hX hE dX4_pour_31 rfl ⟨by rw [e9], by rw [e9]⟩ (by decide) (by decide)
      · refine r_iload_n (pc' := 24) hX dX4_pour_23 rfl rfl ?_
        refine r_bipush (pc' := 26) (v := nI 9) hX dX4_pour_24 rfl rfl ?_
        refine r_icmp_le_I (tgt := 32) (pc' := 29) hX dX4_pour_26 (by decide) rfl rfl (nI_I (by omega)) (fun c26 => ?_) (fun c26 => ?_)
        · obtain ⟨bw, hbw, rfl⟩ := nat_of (x := z) (n := 10) ⟨by omega, by omega⟩
          have tbw : (nI bw).toInt = (bw : Int) := nI_I (by omega)
          have nbw : tn (nI bw) = bw := tn_nI (by omega)
          refine r_aload_n (pc' := 33) hX dX4_pour_32 rfl rfl ?_
          refine r_get (pc' := 36) (v := .int (nI (v 0 4))) hX dX4_pour_33 f_X4_48 0 rfl rfl rfl ?_
          refine r_bipush (pc' := 38) (v := nI 8) hX dX4_pour_36 rfl rfl ?_
          refine r_icmp_ge_N (tgt := 54) (pc' := 41) hX dX4_pour_38 (by decide) rfl (by omega) (by omega) (fun c38 => ?_) (fun c38 => ?_)
          · refine r_bipush (pc' := 56) (v := (-3)) hX dX4_pour_54 rfl rfl ?_
            have e9 : oPour v (nI a) (nI m) (nI bw) = ((-3), v) := by unfold oPour; rw [if_pos ⟨c5, c13⟩, if_pos (by omega), if_neg (by rw [nm, nbw]; omega)]
            exact r_ireturn hX hE dX4_pour_56 rfl ⟨by rw [e9], by rw [e9]⟩ (by decide) (by decide)
          · refine r_aload_n (pc' := 42) hX dX4_pour_41 rfl rfl ?_
            refine r_get (pc' := 45) (v := .ref (ad 9)) hX dX4_pour_42 f_X4_27 0 rfl rfl rfl ?_
            obtain ⟨-, l2⟩ := wL m (by omega)
            refine r_iload_n (pc' := 46) hX dX4_pour_45 rfl rfl ?_
            refine r_iald_N (pc' := 47) hX dX4_pour_46 (by rw [hcy]) 9 rfl (by omega) (by decide) rfl ?_
            change V X 0 0 (wSt cy ad v) [some (.ref (ad 0)), some (.int (nI a)), some (.int (nI m)), some (.int (nI bw)), none] [.int (nI (v 2 m))] 47
            refine r_iload_n (pc' := 48) hX dX4_pour_47 rfl rfl ?_
            refine r_iadd_N (pc' := 49) hX dX4_pour_48  rfl ?_
            refine r_bipush (pc' := 51) (v := nI 20) hX dX4_pour_49 rfl rfl ?_
            refine r_icmp_le_N (tgt := 57) (pc' := 54) hX dX4_pour_51 (by decide) rfl (by omega) (by omega) (fun c51 => ?_) (fun c51 => ?_)
            · refine r_iload_n (pc' := 58) hX dX4_pour_57 rfl rfl ?_
              refine r_aload_n (pc' := 59) hX dX4_pour_58 rfl rfl ?_
              refine r_iload_n (pc' := 60) hX dX4_pour_59 rfl rfl ?_
              refine V_call0 (k' := 0) (n' := 0) (pc' := 63) hX (r_runV (As := [.int (nI a)]) hX dX4_pour_60 k_X4_91 (fun l9 hl9 => cS_bowsInStore hv0) hG ⟨6, _, TX4, 17, List.mem_cons_self, rfl⟩ rfl rfl (Nat.le_of_ble_eq_true rfl) (by decide) (by decide) (by decide) (by decide)) rfl rfl rfl (fun w9 u9 hp9 => ?_)
              obtain ⟨rfl, rfl⟩ := hp9
              rw [if_pos c5, na]
              change V X 0 0 (wSt cy ad v) [some (.ref (ad 0)), some (.int (nI a)), some (.int (nI m)), some (.int (nI bw)), none] [.int (nI (bst v a 3)), .int (nI bw)] 63
              have hb9 : bst v a 3 < 2147483648 := bst_lt v a 3
              refine r_icmp_le_N (tgt := 69) (pc' := 66) hX dX4_pour_63 (by decide) rfl (by omega) (by omega) (fun c63 => ?_) (fun c63 => ?_)
              · have hst9 : ∀ j, j < 3 → bw * v (7 + a) j ≤ v 3 j := fun j hj => bst_le c63 hj
                refine r_iconst (pc' := 70) (v := nI 0) hX dX4_pour_69 rfl rfl ?_
                refine r_istore (L' := [some (.ref (ad 0)), some (.int (nI a)), some (.int (nI m)), some (.int (nI bw)), some (.int (nI 0))]) (pc' := 72) hX dX4_pour_70 (nlt hnL (by decide)) rfl rfl rfl ?_
                have loop72 : ∀ (n9 : Nat) (k : Nat) (w : SV), 3 - k < n9 → (k ≤ 3) → (w = dStk v a bw k) → (Wf w) → V X 0 0 (wSt cy ad w) [some (.ref (ad 0)), some (.int (nI a)), some (.int (nI m)), some (.int (nI bw)), some (.int (nI k))] [] 72 := by
                  intro n9
                  induction n9 with
                  | zero => intro k w hm; exact absurd hm (Nat.not_lt_zero _)
                  | succ n9 ih72 =>
                    intro k w hm hk hw hW
                    refine r_iload (pc' := 74) hX dX4_pour_72 rfl rfl ?_
                    refine r_iconst (pc' := 75) (v := nI 3) hX dX4_pour_74 rfl rfl ?_
                    refine r_icmp_ge_N (tgt := 105) (pc' := 78) hX dX4_pour_75 (by decide) rfl (by omega) (by omega) (fun c75 => ?_) (fun c75 => ?_)
                    · have h0 : ∀ j, w 0 j = v 0 j := fun j => by rw [hw, dStk_b (by decide)]
                      have h2 : ∀ j, w 2 j = v 2 j := fun j => by rw [hw, dStk_b (by decide)]
                      have g4 := h0 4
                      have g0 := h0 0
                      have g1 := h0 1
                      have hk3 : k = 3 := by omega
                      refine r_aload_n (pc' := 106) hX dX4_pour_105 rfl rfl ?_
                      refine r_aload_n (pc' := 107) hX dX4_pour_106 rfl rfl ?_
                      refine r_get (pc' := 110) (v := .ref (ad 14)) hX dX4_pour_107 f_X4_53 0 rfl rfl rfl ?_
                      refine r_aload_n (pc' := 111) hX dX4_pour_110 rfl rfl ?_
                      refine r_get (pc' := 114) (v := .int (nI (w 0 4))) hX dX4_pour_111 f_X4_48 0 rfl rfl rfl ?_
                      refine r_aaldB (pc' := 115) hX dX4_pour_114 hcy (by omega) rfl ?_
                      refine r_iload_n (pc' := 116) hX dX4_pour_115 rfl rfl ?_
                      refine r_iload_n (pc' := 117) hX dX4_pour_116 rfl rfl ?_
                      refine r_iload_n (pc' := 118) hX dX4_pour_117 rfl rfl ?_
                      refine V_call0 (k' := 0) (n' := 0) (pc' := 121) hX (r_runV (As := [.ref (ad (15 + (w 0 4))), .int (nI a), .int (nI m), .int (nI bw)]) hX dX4_pour_118 k_X4_95 (fun l9 hl9 => cS_fill (v := w) (i := w 0 4) (a := a) (m := m) (n := bw) hW (by omega) (Nat.le_refl _) (by omega) (by omega) (by omega) (by rw [h2]; omega)) hG ⟨6, _, TX4, 17, List.mem_cons_self, rfl⟩ rfl rfl (Nat.le_of_ble_eq_true rfl) (by decide) (by decide) (by decide) (by decide)) rfl rfl rfl (fun w9 u9 hp9 => ?_)
                      obtain ⟨rfl, rfl⟩ := hp9
                      change V X 0 0 (wSt cy ad (fil w (w 0 4) a m bw)) [some (.ref (ad 0)), some (.int (nI a)), some (.int (nI m)), some (.int (nI bw)), some (.int (nI k))] [] 121
                      refine r_aload_n (pc' := 122) hX dX4_pour_121 rfl rfl ?_
                      refine r_dup (pc' := 123) hX dX4_pour_122 rfl rfl ?_
                      refine r_get (pc' := 126) (v := .int (nI ((fil w (w 0 4) a m bw) 0 4))) hX dX4_pour_123 f_X4_48 0 rfl rfl rfl ?_
                      refine r_iconst (pc' := 127) (v := nI 1) hX dX4_pour_126 rfl rfl ?_
                      refine r_iadd_N (pc' := 128) hX dX4_pour_127  rfl ?_
                      refine r_put (ws' := wSt cy ad (up2 (fil w (w 0 4) a m bw) 0 4 (((fil w (w 0 4) a m bw) 0 4) + 1))) (pc' := 131) hX dX4_pour_128 f_X4_48 fw_X4_11 0 rfl rfl rfl (Nat.le_of_ble_eq_true rfl) rfl rfl ?_
                      refine r_aload_n (pc' := 132) hX dX4_pour_131 rfl rfl ?_
                      refine r_dup (pc' := 133) hX dX4_pour_132 rfl rfl ?_
                      refine r_get (pc' := 136) (v := .int (nI ((fil w (w 0 4) a m bw) 0 6))) hX dX4_pour_133 f_X4_60 0 rfl rfl rfl ?_
                      refine r_iload_n (pc' := 137) hX dX4_pour_136 rfl rfl ?_
                      refine r_iadd_N (pc' := 138) hX dX4_pour_137  rfl ?_
                      refine r_put (ws' := wSt cy ad (up2 (up2 (fil w (w 0 4) a m bw) 0 4 (((fil w (w 0 4) a m bw) 0 4) + 1)) 0 6 (((fil w (w 0 4) a m bw) 0 6) + bw))) (pc' := 141) hX dX4_pour_138 f_X4_60 fw_X4_14 0 rfl rfl rfl (Nat.le_of_ble_eq_true rfl) rfl rfl ?_
                      refine r_aload_n (pc' := 142) hX dX4_pour_141 rfl rfl ?_
                      refine r_dup (pc' := 143) hX dX4_pour_142 rfl rfl ?_
                      refine r_get (pc' := 146) (v := .int (nI ((fil w (w 0 4) a m bw) 0 5))) hX dX4_pour_143 f_X4_57 0 rfl rfl rfl ?_
                      refine r_iconst (pc' := 147) (v := nI 1) hX dX4_pour_146 rfl rfl ?_
                      refine r_iadd_N (pc' := 148) hX dX4_pour_147  rfl ?_
                      refine r_put (ws' := wSt cy ad (up2 (up2 (up2 (fil w (w 0 4) a m bw) 0 4 (((fil w (w 0 4) a m bw) 0 4) + 1)) 0 6 (((fil w (w 0 4) a m bw) 0 6) + bw)) 0 5 (((fil w (w 0 4) a m bw) 0 5) + 1))) (pc' := 151) hX dX4_pour_148 f_X4_57 fw_X4_13 0 rfl rfl rfl (Nat.le_of_ble_eq_true rfl) rfl rfl ?_
                      refine r_aload_n (pc' := 152) hX dX4_pour_151 rfl rfl ?_
                      refine r_get (pc' := 155) (v := .int (nI (((fil w (w 0 4) a m bw) 0 5) + 1))) hX dX4_pour_152 f_X4_57 0 rfl rfl rfl ?_
                      refine r_iconst (pc' := 156) (v := nI 1) hX dX4_pour_155 rfl rfl ?_
                      refine r_isub_N (pc' := 157) hX dX4_pour_156 (by omega) rfl ?_
                      have f5 : fil w (w 0 4) a m bw 0 5 = v 0 5 := by rw [fil_0 (by omega), h0]
                      have e9 : oPour v (nI a) (nI m) (nI bw) = (nI (fil w (w 0 4) a m bw 0 5 + 1 - 1), (up2 (up2 (up2 (fil w (w 0 4) a m bw) 0 4 (((fil w (w 0 4) a m bw) 0 4) + 1)) 0 6 (((fil w (w 0 4) a m bw) 0 6) + bw)) 0 5 (((fil w (w 0 4) a m bw) 0 5) + 1))) := by unfold oPour; rw [if_pos ⟨c5, c13⟩, if_pos (by omega), if_pos (by rw [nm, nbw]; omega), if_pos (by rw [na, nbw]; omega), na, nm, nbw, Nat.add_sub_cancel, ← h0 4, ← hk3, ← hw]; exact congrArg (fun z => (nI z, pourF (fil w (w 0 4) a m bw) bw)) f5.symm
                      exact r_ireturn hX hE dX4_pour_157 rfl ⟨by rw [e9], by rw [e9]⟩ (by decide) (by decide)
                    · have e3 : w 3 k = v 3 k := by rw [hw]; exact dStk_3 (Nat.le_refl _)
                      have e7 : w (7 + a) k = v (7 + a) k := by rw [hw, dStk_b (by omega)]
                      have hs9 := hst9 k (by omega)
                      refine r_aload_n (pc' := 79) hX dX4_pour_78 rfl rfl ?_
                      refine r_get (pc' := 82) (v := .ref (ad 10)) hX dX4_pour_79 f_X4_30 0 rfl rfl rfl ?_
                      refine r_iload (pc' := 84) hX dX4_pour_82 rfl rfl ?_
                      refine r_dup2 (pc' := 85) hX dX4_pour_84 rfl rfl rfl ?_
                      refine r_iald_N (pc' := 86) hX dX4_pour_85 (by rw [hcy]) 10 rfl (by omega) (by decide) rfl ?_
                      change V X 0 0 (wSt cy ad w) [some (.ref (ad 0)), some (.int (nI a)), some (.int (nI m)), some (.int (nI bw)), some (.int (nI k))] [.int (nI (w 3 k)), .int (nI k), .ref (ad 10)] 86
                      refine r_iload_n (pc' := 87) hX dX4_pour_86 rfl rfl ?_
                      refine r_aload_n (pc' := 88) hX dX4_pour_87 rfl rfl ?_
                      refine r_get (pc' := 91) (v := .ref (ad 1)) hX dX4_pour_88 f_X4_17 0 rfl rfl rfl ?_
                      refine r_iload_n (pc' := 92) hX dX4_pour_91 rfl rfl ?_
                      refine r_aaldR (pc' := 93) hX dX4_pour_92 hcy (by omega) rfl ?_
                      refine r_iload (pc' := 95) hX dX4_pour_93 rfl rfl ?_
                      refine r_ialdR (pc' := 96) hX dX4_pour_95 (by rw [hcy]) (by omega) (by omega) rfl ?_
                      change V X 0 0 (wSt cy ad w) [some (.ref (ad 0)), some (.int (nI a)), some (.int (nI m)), some (.int (nI bw)), some (.int (nI k))] [.int (nI (w (7 + a) k)), .int (nI bw), .int (nI (w 3 k)), .int (nI k), .ref (ad 10)] 96
                      refine r_imul_N (pc' := 97) hX dX4_pour_96  rfl ?_
                      refine r_isub_N (pc' := 98) hX dX4_pour_97 (by rw [e3, e7]; exact hs9) rfl ?_
                      refine r_iast_N (ws' := wSt cy ad (up2 w 3 k ((w 3 k) - (bw * (w (7 + a) k))))) (pc' := 99) hX dX4_pour_98 (by rw [hcy]) 10 rfl (by omega) (by decide) rfl rfl ?_
                      refine r_iinc_N (b := 1) (L' := [some (.ref (ad 0)), some (.int (nI a)), some (.int (nI m)), some (.int (nI bw)), some (.int (nI (k + 1)))]) (pc' := 102) hX dX4_pour_99 rfl (nlt hnL (by decide)) rfl rfl rfl ?_
                      refine r_goto (tgt := 72) hX dX4_pour_102 (by decide) ?_
                      have k9 := hW.2.2.2.2.2.2.2.2.2.1 k (by omega)
                      exact ih72 (k + 1) (up2 w 3 k ((w 3 k) - (bw * (w (7 + a) k)))) (by omega) (by omega) (by rw [hw]; rfl) (hW.stk (by omega))
                exact loop72 _ 0 v (Nat.lt_succ_self _) (by omega) rfl hv0
              · refine r_bipush (pc' := 68) (v := (-4)) hX dX4_pour_66 rfl rfl ?_
                have e9 : oPour v (nI a) (nI m) (nI bw) = ((-4), v) := by unfold oPour; rw [if_pos ⟨c5, c13⟩, if_pos (by omega), if_pos (by rw [nm, nbw]; omega), if_neg (by rw [na, nbw]; omega)]
                exact r_ireturn hX hE dX4_pour_68 rfl ⟨by rw [e9], by rw [e9]⟩ (by decide) (by decide)
            · refine r_bipush (pc' := 56) (v := (-3)) hX dX4_pour_54 rfl rfl ?_
              have e9 : oPour v (nI a) (nI m) (nI bw) = ((-3), v) := by unfold oPour; rw [if_pos ⟨c5, c13⟩, if_pos (by omega), if_neg (by rw [nm, nbw]; omega)]
              exact r_ireturn hX hE dX4_pour_56 rfl ⟨by rw [e9], by rw [e9]⟩ (by decide) (by decide)
        · refine r_bipush (pc' := 31) (v := (-2)) hX dX4_pour_29 rfl rfl ?_
          have e9 : oPour v (nI a) (nI m) z = ((-2), v) := by unfold oPour; rw [if_pos ⟨c5, c13⟩, if_neg (by omega)]
          exact r_ireturn hX hE dX4_pour_31 rfl ⟨by rw [e9], by rw [e9]⟩ (by decide) (by decide)
    · refine r_iconst (pc' := 17) (v := (-1)) hX dX4_pour_16 rfl rfl ?_
      have e9 : oPour v (nI a) y z = ((-1), v) := by unfold oPour; rw [if_neg (by rintro ⟨q1, q2⟩; first | exact c5 q1 | exact c13 q2)]
      exact r_ireturn hX hE dX4_pour_17 rfl ⟨by rw [e9], by rw [e9]⟩ (by decide) (by decide)

set_option maxRecDepth 20000 in
set_option maxHeartbeats 4000000 in
theorem cS_remove {l : Launch} {D : va_G} {cy : Nat → ClassId} {sa : Nat → Nat} {ad : Nat → Nat} {v : SV} {p : Nat} (hn : v 0 4 ≤ 8) (hp : p < v 0 4) : MG l yX4_remove cX4_remove 4 none 0 0 0 (D, cy, sa) [.ref (ad 0), .int (nI p)] (wSt cy ad v) (fun w u => w = none ∧ ∃ ad' : Nat → Nat, ad' 0 = ad 0 ∧ u = wSt cy ad' (rmv v p)) := by
  refine MG_by (own := RX4) (L := [some (.ref (ad 0)), some (.int (nI p)), none, none]) (by decide +kernel) rfl rfl (Nat.le_of_ble_eq_true rfl) 2 rfl (fun X hX hE hnL hG hcy hnm => ?_)
  refine r_aload_n (pc' := 1) hX dX4_remove_0 rfl rfl ?_
  refine r_get (pc' := 4) (v := .ref (ad 14)) hX dX4_remove_1 f_X4_53 0 rfl rfl rfl ?_
  refine r_iload_n (pc' := 5) hX dX4_remove_4 rfl rfl ?_
  refine r_aaldB (pc' := 6) hX dX4_remove_5 hcy (by omega) rfl ?_
  refine r_astore_n (L' := [some (.ref (ad 0)), some (.int (nI p)), some (.ref (ad (15 + p))), none]) (pc' := 7) hX dX4_remove_6 (nlt hnL (by decide)) rfl rfl rfl ?_
  refine V_eq (wStF_0 (p := p)) ?_
  refine r_iload_n (pc' := 8) hX dX4_remove_7 rfl rfl ?_
  refine r_istore_n (L' := [some (.ref (ad 0)), some (.int (nI p)), some (.ref (ad (15 + p))), some (.int (nI p))]) (pc' := 9) hX dX4_remove_8 (nlt hnL (by decide)) rfl rfl rfl ?_
  have loop9 : ∀ (n9 : Nat) (i : Nat), v 0 4 - i < n9 → (p ≤ i) → (i < v 0 4) → V X 0 0 (wStF cy ad v (fA ad p i)) [some (.ref (ad 0)), some (.int (nI p)), some (.ref (ad (15 + p))), some (.int (nI i))] [] 9 := by
    intro n9
    induction n9 with
    | zero => intro i hm; exact absurd hm (Nat.not_lt_zero _)
    | succ n9 ih9 =>
      intro i hm hi hi2
      refine r_iload_n (pc' := 10) hX dX4_remove_9 rfl rfl ?_
      refine r_aload_n (pc' := 11) hX dX4_remove_10 rfl rfl ?_
      refine r_get (pc' := 14) (v := .int (nI (v 0 4))) hX dX4_remove_11 f_X4_48 0 rfl rfl rfl ?_
      refine r_iconst (pc' := 15) (v := nI 1) hX dX4_remove_14 rfl rfl ?_
      refine r_isub_N (pc' := 16) hX dX4_remove_15 (by omega) rfl ?_
      refine r_icmp_ge_N (tgt := 39) (pc' := 19) hX dX4_remove_16 (by decide) rfl (by omega) (by omega) (fun c16 => ?_) (fun c16 => ?_)
      · refine r_aload_n (pc' := 40) hX dX4_remove_39 rfl rfl ?_
        refine r_dup (pc' := 41) hX dX4_remove_40 rfl rfl ?_
        refine r_get (pc' := 44) (v := .int (nI (v 0 4))) hX dX4_remove_41 f_X4_48 0 rfl rfl rfl ?_
        refine r_iconst (pc' := 45) (v := nI 1) hX dX4_remove_44 rfl rfl ?_
        refine r_isub_N (pc' := 46) hX dX4_remove_45 (by omega) rfl ?_
        refine r_put (ws' := wStF cy ad (up2 v 0 4 ((v 0 4) - 1)) (fA ad p i)) (pc' := 49) hX dX4_remove_46 f_X4_48 fw_X4_11 0 rfl rfl rfl (Nat.le_of_ble_eq_true rfl) rfl rfl ?_
        refine r_aload_n (pc' := 50) hX dX4_remove_49 rfl rfl ?_
        refine r_get (pc' := 53) (v := .ref (ad 14)) hX dX4_remove_50 f_X4_53 0 rfl rfl rfl ?_
        refine r_aload_n (pc' := 54) hX dX4_remove_53 rfl rfl ?_
        refine r_get (pc' := 57) (v := .int (nI ((v 0 4) - 1))) hX dX4_remove_54 f_X4_48 0 rfl rfl rfl ?_
        refine r_aload_n (pc' := 58) hX dX4_remove_57 rfl rfl ?_
        have hi3 : i = v 0 4 - 1 := by omega
        subst hi3
        refine r_aast (ci := 4) (r := (RX1, TX1, 6)) (ws' := wStF cy ad (up2 v 0 4 (v 0 4 - 1)) (fun i => if i < 8 then some (adR ad (v 0 4) p (15 + i)) else none)) (pc' := 59) hX dX4_remove_58 4 (by rw [hcy]; rfl) 14 rfl (wStF_bat (by omega)) rfl (by omega) (by decide) (by rw [fA_end hn hp]; rfl) rfl ?_
        refine V_perm (remove_perm hn hp) ?_
        exact r_vreturn hX hE dX4_remove_59 rfl ⟨rfl, _, adR_lo (by decide), rfl⟩ (by decide) (by decide)
      · refine r_aload_n (pc' := 20) hX dX4_remove_19 rfl rfl ?_
        refine r_get (pc' := 23) (v := .ref (ad 14)) hX dX4_remove_20 f_X4_53 0 rfl rfl rfl ?_
        refine r_iload_n (pc' := 24) hX dX4_remove_23 rfl rfl ?_
        refine r_aload_n (pc' := 25) hX dX4_remove_24 rfl rfl ?_
        refine r_get (pc' := 28) (v := .ref (ad 14)) hX dX4_remove_25 f_X4_53 0 rfl rfl rfl ?_
        refine r_iload_n (pc' := 29) hX dX4_remove_28 rfl rfl ?_
        refine r_iconst (pc' := 30) (v := nI 1) hX dX4_remove_29 rfl rfl ?_
        refine r_iadd_N (pc' := 31) hX dX4_remove_30  rfl ?_
        refine r_aald (pc' := 32) hX dX4_remove_31 4 (by rw [hcy]; rfl) rfl (List.mem_of_getElem? (i := 14) rfl) (by omega) (by decide) (fA_at (by omega)) rfl ?_
        refine r_aast (ci := 4) (r := (RX1, TX1, 6)) (ws' := wStF cy ad v (fA ad p (i + 1))) (pc' := 33) hX dX4_remove_32 4 (by rw [hcy]; rfl) 14 rfl (wStF_bat (by omega)) rfl (by omega) (by decide) (by rw [fA_step hi (by omega)]; rfl) rfl ?_
        refine r_iinc_N (b := 1) (L' := [some (.ref (ad 0)), some (.int (nI p)), some (.ref (ad (15 + p))), some (.int (nI (i + 1)))]) (pc' := 36) hX dX4_remove_33 rfl (nlt hnL (by decide)) rfl rfl rfl ?_
        refine r_goto (tgt := 9) hX dX4_remove_36 (by decide) ?_
        exact ih9 (i + 1) (by omega) (by omega) (by omega)
  exact loop9 _ p (Nat.lt_succ_self _) (Nat.le_refl _) hp

set_option maxRecDepth 20000 in
set_option maxHeartbeats 4000000 in
theorem cS_examine {l : Launch} {D : va_G} {cy : Nat → ClassId} {sa : Nat → Nat} {ad : Nat → Nat} {v : SV} {x : Int32} (hv : Wf v) : MG l yX4_examine cX4_examine 5 (some .int) 3 0 0 (D, cy, sa) [.ref (ad 0), .int x] (wSt cy ad v) (fun w u => w = some (.int (oExam v x).1) ∧ ∃ ad' : Nat → Nat, ad' 0 = ad 0 ∧ u = wSt cy ad' (oExam v x).2) := by
  have hv0 := hv
  obtain ⟨wa, wm, wb, ws, wt, wc, wB, wR, wL, wK, wP⟩ := hv
  refine MG_by (own := RX4) (L := [some (.ref (ad 0)), some (.int x), none, none, none]) (by decide +kernel) rfl rfl (Nat.le_of_ble_eq_true rfl) 3 rfl (fun X hX hE hnL hG hcy hnm => ?_)
  refine r_aload_n (pc' := 1) hX dX4_examine_0 rfl rfl ?_
  refine r_iload_n (pc' := 2) hX dX4_examine_1 rfl rfl ?_
  refine V_call0 (k' := 0) (n' := 0) (pc' := 5) hX (r_runV (As := [.int x]) hX dX4_examine_2 k_X4_122 (fun l9 hl9 => cS_placeWith hv0) hG ⟨6, _, TX4, 17, List.mem_cons_self, rfl⟩ rfl rfl (Nat.le_of_ble_eq_true rfl) (by decide) (by decide) (by decide) (by decide)) rfl rfl rfl (fun w9 u9 hp9 => ?_)
  obtain ⟨rfl, rfl⟩ := hp9
  by_cases hs : plc v x.toInt < v 0 4
  · rw [if_pos hs]
    obtain ⟨pl, hpl⟩ : ∃ z, z = plc v x.toInt := ⟨_, rfl⟩
    rw [← hpl] at hs ⊢
    change V X 0 0 (wSt cy ad v) [some (.ref (ad 0)), some (.int x), none, none, none] [.int (nI pl)] 5
    refine r_istore_n (L' := [some (.ref (ad 0)), some (.int x), some (.int (nI pl)), none, none]) (pc' := 6) hX dX4_examine_5 (nlt hnL (by decide)) rfl rfl rfl ?_
    refine r_iload_n (pc' := 7) hX dX4_examine_6 rfl rfl ?_
    refine r_if_ge_N (tgt := 13) (pc' := 10) hX dX4_examine_7 (by decide) rfl (by omega) (fun c7 => ?_) (fun c7 => ?_)
    · obtain ⟨bz, ba, bf, -, -, bq⟩ := wB pl hs
      refine r_aload_n (pc' := 14) hX dX4_examine_13 rfl rfl ?_
      refine r_get (pc' := 17) (v := .ref (ad 14)) hX dX4_examine_14 f_X4_53 0 rfl rfl rfl ?_
      refine r_iload_n (pc' := 18) hX dX4_examine_17 rfl rfl ?_
      refine r_aaldB (pc' := 19) hX dX4_examine_18 hcy (by omega) rfl ?_
      refine r_astore_n (L' := [some (.ref (ad 0)), some (.int x), some (.int (nI pl)), some (.ref (ad (15 + pl))), none]) (pc' := 20) hX dX4_examine_19 (nlt hnL (by decide)) rfl rfl rfl ?_
      refine r_aload_n (pc' := 21) hX dX4_examine_20 rfl rfl ?_
      refine r_getB (pc' := 24) (x := .int (nI (v (13 + pl) 4))) hX dX4_examine_21 f_X4_111 (by omega) rfl rfl ?_
      refine r_if_eq_N (tgt := 30) (pc' := 27) hX dX4_examine_24 (by decide) rfl (by omega) (fun c24 => ?_) (fun c24 => ?_)
      · refine r_aload_n (pc' := 31) hX dX4_examine_30 rfl rfl ?_
        refine r_aload_n (pc' := 32) hX dX4_examine_31 rfl rfl ?_
        refine r_get (pc' := 35) (v := .int (nI (v 0 3))) hX dX4_examine_32 f_X4_45 0 rfl rfl rfl ?_
        refine r_aload_n (pc' := 36) hX dX4_examine_35 rfl rfl ?_
        refine r_get (pc' := 39) (v := .int (nI (v 0 2))) hX dX4_examine_36 f_X4_42 0 rfl rfl rfl ?_
        refine V_call (k' := 0) (n' := 0) (pc' := 42) (wr := wSt0 cy ad v ++ wRest 8 pl (wStB cy ad v)) hX (r_runV (As := [.int (nI (v 0 3)), .int (nI (v 0 2))]) hX dX4_examine_39 k_X4_125 (fun l9 hl9 => cB_passes (a := (ad (15 + pl))) (q := (ad (23 + pl))) (b := (v (13 + pl))) (sq := (v (21 + pl))) (s := v 0 3) (t := v 0 2) (by omega) ws wt bq) hG ⟨4, _, TX1, 6, List.mem_cons_self, rfl⟩ rfl rfl (Nat.le_of_ble_eq_true rfl) (by decide) (by decide) (by decide) (by decide)) (wSt_split (by omega)) rfl rfl rfl (fun w9 u9 hp9 => ?_)
        obtain ⟨rfl, rfl⟩ := hp9
        change V X 0 0 (wStB cy ad v pl ++ (wSt0 cy ad v ++ wRest 8 pl (wStB cy ad v))) [some (.ref (ad 0)), some (.int x), some (.int (nI pl)), some (.ref (ad (15 + pl))), none] [.int (bI (pas (v (21 + pl)) (v (13 + pl) 2) (v 0 3) (v 0 2)))] 42
        refine V_perm ((wSt_split (by omega)).symm) ?_
        refine r_if_ne_B (tgt := 52) (pc' := 45) hX dX4_examine_42 (by decide) rfl (fun c42 => ?_) (fun c42 => ?_)
        · refine r_iconst (pc' := 53) (v := nI 0) hX dX4_examine_52 rfl rfl ?_
          refine r_istore (L' := [some (.ref (ad 0)), some (.int x), some (.int (nI pl)), some (.ref (ad (15 + pl))), some (.int (nI 0))]) (pc' := 55) hX dX4_examine_53 (nlt hnL (by decide)) rfl rfl rfl ?_
          have loop55 : ∀ (n9 : Nat) (k : Nat) (w : SV), 3 - k < n9 → (k ≤ 3) → (w = exS v pl k) → V X 0 0 (wSt cy ad w) [some (.ref (ad 0)), some (.int x), some (.int (nI pl)), some (.ref (ad (15 + pl))), some (.int (nI k))] [] 55 := by
            intro n9
            induction n9 with
            | zero => intro k w hm; exact absurd hm (Nat.not_lt_zero _)
            | succ n9 ih55 =>
              intro k w hm hk hw
              refine r_iload (pc' := 57) hX dX4_examine_55 rfl rfl ?_
              refine r_iconst (pc' := 58) (v := nI 3) hX dX4_examine_57 rfl rfl ?_
              refine r_icmp_ge_N (tgt := 94) (pc' := 61) hX dX4_examine_58 (by decide) rfl (by omega) (by omega) (fun c58 => ?_) (fun c58 => ?_)
              · have g4 : w 0 4 = v 0 4 := by rw [hw, exS_b (by decide)]
                have hk3 : k = 3 := by omega
                refine r_aload_n (pc' := 95) hX dX4_examine_94 rfl rfl ?_
                refine r_dup (pc' := 96) hX dX4_examine_95 rfl rfl ?_
                refine r_get (pc' := 99) (v := .int (nI (w 0 7))) hX dX4_examine_96 f_X4_63 0 rfl rfl rfl ?_
                refine r_aload_n (pc' := 100) hX dX4_examine_99 rfl rfl ?_
                refine r_getB (pc' := 103) (x := .int (nI (w (13 + pl) 2))) hX dX4_examine_100 f_X4_105 (by omega) rfl rfl ?_
                refine r_iadd_N (pc' := 104) hX dX4_examine_103  rfl ?_
                refine r_put (ws' := wSt cy ad (up2 w 0 7 ((w 0 7) + (w (13 + pl) 2)))) (pc' := 107) hX dX4_examine_104 f_X4_63 fw_X4_15 0 rfl rfl rfl (Nat.le_of_ble_eq_true rfl) rfl rfl ?_
                refine r_aload_n (pc' := 108) hX dX4_examine_107 rfl rfl ?_
                refine r_iload_n (pc' := 109) hX dX4_examine_108 rfl rfl ?_
                refine V_call0 (k' := 0) (n' := 0) (pc' := 112) hX (r_runV (As := [.int (nI pl)]) hX dX4_examine_109 k_X4_129 (fun l9 hl9 => cS_remove (v := (up2 w 0 7 ((w 0 7) + (w (13 + pl) 2)))) (p := pl) (by show w 0 4 ≤ 8; omega) (by show pl < w 0 4; omega)) hG ⟨6, _, TX4, 17, List.mem_cons_self, rfl⟩ rfl rfl (Nat.le_of_ble_eq_true rfl) (by decide) (by decide) (by decide) (by decide)) rfl rfl rfl (fun w9 u9 hp9 => ?_)
                obtain ⟨rfl, ad', had, rfl⟩ := hp9
                change V X 0 0 (wSt cy ad' (rmv (up2 w 0 7 ((w 0 7) + (w (13 + pl) 2))) pl)) [some (.ref (ad 0)), some (.int x), some (.int (nI pl)), some (.ref (ad (15 + pl))), some (.int (nI k))] [] 112
                refine r_iconst (pc' := 113) (v := nI 1) hX dX4_examine_112 rfl rfl ?_
                
                have e9 : oExam v x = (nI 1, (rmv (up2 w 0 7 ((w 0 7) + (w (13 + pl) 2))) pl)) := by unfold oExam; rw [← hpl, if_pos hs, if_pos c24, if_pos c42, ← hk3, ← hw]; rfl
                exact r_ireturn hX hE dX4_examine_113 rfl ⟨by rw [e9], ad', had, by rw [e9]⟩ (by decide) (by decide)
              · have e3 : w (13 + pl) 3 = v (13 + pl) 3 := by rw [hw, exS_b (by omega)]
                refine r_aload_n (pc' := 62) hX dX4_examine_61 rfl rfl ?_
                refine r_get (pc' := 65) (v := .ref (ad 12)) hX dX4_examine_62 f_X4_36 0 rfl rfl rfl ?_
                refine r_iload (pc' := 67) hX dX4_examine_65 rfl rfl ?_
                refine r_dup2 (pc' := 68) hX dX4_examine_67 rfl rfl rfl ?_
                refine r_iald_N (pc' := 69) hX dX4_examine_68 (by rw [hcy]) 12 rfl (by omega) (by decide) rfl ?_
                change V X 0 0 (wSt cy ad w) [some (.ref (ad 0)), some (.int x), some (.int (nI pl)), some (.ref (ad (15 + pl))), some (.int (nI k))] [.int (nI (w 5 k)), .int (nI k), .ref (ad 12)] 69
                refine r_aload_n (pc' := 70) hX dX4_examine_69 rfl rfl ?_
                refine r_getB (pc' := 73) (x := .int (nI (w (13 + pl) 2))) hX dX4_examine_70 f_X4_105 (by omega) rfl rfl ?_
                refine r_aload_n (pc' := 74) hX dX4_examine_73 rfl rfl ?_
                refine r_get (pc' := 77) (v := .ref (ad 1)) hX dX4_examine_74 f_X4_17 0 rfl rfl rfl ?_
                refine r_aload_n (pc' := 78) hX dX4_examine_77 rfl rfl ?_
                refine r_getB (pc' := 81) (x := .int (nI (w (13 + pl) 3))) hX dX4_examine_78 f_X4_108 (by omega) rfl rfl ?_
                refine r_aaldR (pc' := 82) hX dX4_examine_81 hcy (by omega) rfl ?_
                refine r_iload (pc' := 84) hX dX4_examine_82 rfl rfl ?_
                refine r_ialdR (pc' := 85) hX dX4_examine_84 (by rw [hcy]) (by omega) (by omega) rfl ?_
                change V X 0 0 (wSt cy ad w) [some (.ref (ad 0)), some (.int x), some (.int (nI pl)), some (.ref (ad (15 + pl))), some (.int (nI k))] [.int (nI (w (7 + (w (13 + pl) 3)) k)), .int (nI (w (13 + pl) 2)), .int (nI (w 5 k)), .int (nI k), .ref (ad 12)] 85
                refine r_imul_N (pc' := 86) hX dX4_examine_85  rfl ?_
                refine r_iadd_N (pc' := 87) hX dX4_examine_86  rfl ?_
                refine r_iast_N (ws' := wSt cy ad (up2 w 5 k ((w 5 k) + ((w (13 + pl) 2) * (w (7 + (w (13 + pl) 3)) k))))) (pc' := 88) hX dX4_examine_87 (by rw [hcy]) 12 rfl (by omega) (by decide) rfl rfl ?_
                refine r_iinc_N (b := 1) (L' := [some (.ref (ad 0)), some (.int x), some (.int (nI pl)), some (.ref (ad (15 + pl))), some (.int (nI (k + 1)))]) (pc' := 91) hX dX4_examine_88 rfl (nlt hnL (by decide)) rfl rfl rfl ?_
                refine r_goto (tgt := 55) hX dX4_examine_91 (by decide) ?_
                exact ih55 (k + 1) (up2 w 5 k ((w 5 k) + ((w (13 + pl) 2) * (w (7 + (w (13 + pl) 3)) k)))) (by omega) (by omega) (by rw [hw]; rfl)
          exact loop55 _ 0 v (Nat.lt_succ_self _) (by omega) rfl
        · refine r_aload_n (pc' := 46) hX dX4_examine_45 rfl rfl ?_
          refine r_iconst (pc' := 47) (v := nI 1) hX dX4_examine_46 rfl rfl ?_
          refine r_putB (pc' := 50) hX dX4_examine_47 f_X4_111 fw_X1_4 (by omega) (by decide) rfl rfl rfl ?_
          refine r_iconst (pc' := 51) (v := nI 0) hX dX4_examine_50 rfl rfl ?_
          have e9 : oExam v x = (nI 0, (up2 v (13 + pl) 4 1)) := by unfold oExam; rw [← hpl, if_pos hs, if_pos c24, if_neg c42]
          exact r_ireturn hX hE dX4_examine_51 rfl ⟨by rw [e9], _, rfl, by rw [e9]⟩ (by decide) (by decide)
      · refine r_bipush (pc' := 29) (v := (-3)) hX dX4_examine_27 rfl rfl ?_
        have e9 : oExam v x = ((-3), v) := by unfold oExam; rw [← hpl, if_pos hs, if_neg (by omega)]
        exact r_ireturn hX hE dX4_examine_29 rfl ⟨by rw [e9], _, rfl, by rw [e9]⟩ (by decide) (by decide)
    · exact absurd c7 (by omega)
  · rw [if_neg hs]
    change V X 0 0 (wSt cy ad v) [some (.ref (ad 0)), some (.int x), none, none, none] [.int (-5)] 5
    refine r_istore_n (L' := [some (.ref (ad 0)), some (.int x), some (.int (-5)), none, none]) (pc' := 6) hX dX4_examine_5 (nlt hnL (by decide)) rfl rfl rfl ?_
    refine r_iload_n (pc' := 7) hX dX4_examine_6 rfl rfl ?_
    refine r_if_ge_I (tgt := 13) (pc' := 10) hX dX4_examine_7 (by decide) rfl (by decide : (-5 : Int32).toInt = -5) (fun c7 => ?_) (fun c7 => ?_)
    · exact absurd c7 (by omega)
    · refine r_bipush (pc' := 12) (v := (-5)) hX dX4_examine_10 rfl rfl ?_
      have e9 : oExam v x = ((-5), v) := by unfold oExam; rw [if_neg hs]
      exact r_ireturn hX hE dX4_examine_12 rfl ⟨by rw [e9], _, rfl, by rw [e9]⟩ (by decide) (by decide)

set_option maxRecDepth 20000 in
set_option maxHeartbeats 4000000 in
theorem cS_meltDown {l : Launch} {D : va_G} {cy : Nat → ClassId} {sa : Nat → Nat} {ad : Nat → Nat} {v : SV} {x : Int32} (hv : Wf v) : MG l yX4_meltDown cX4_meltDown 8 (some .int) 1 0 0 (D, cy, sa) [.ref (ad 0), .int x] (wSt cy ad v) (fun w u => w = some (.int (oMelt v x).1) ∧ ∃ ad' : Nat → Nat, ad' 0 = ad 0 ∧ u = wSt cy ad' (oMelt v x).2) := by
  have hv0 := hv
  obtain ⟨wa, wm, wb, ws, wt, wc, wB, wR, wL, wK, wP⟩ := hv
  refine MG_by (own := RX4) (L := [some (.ref (ad 0)), some (.int x), none, none, none, none, none, none]) (by decide +kernel) rfl rfl (Nat.le_of_ble_eq_true rfl) 6 rfl (fun X hX hE hnL hG hcy hnm => ?_)
  refine r_aload_n (pc' := 1) hX dX4_meltDown_0 rfl rfl ?_
  refine r_iload_n (pc' := 2) hX dX4_meltDown_1 rfl rfl ?_
  refine V_call0 (k' := 0) (n' := 0) (pc' := 5) hX (r_runV (As := [.int x]) hX dX4_meltDown_2 k_X4_122 (fun l9 hl9 => cS_placeWith hv0) hG ⟨6, _, TX4, 17, List.mem_cons_self, rfl⟩ rfl rfl (Nat.le_of_ble_eq_true rfl) (by decide) (by decide) (by decide) (by decide)) rfl rfl rfl (fun w9 u9 hp9 => ?_)
  obtain ⟨rfl, rfl⟩ := hp9
  by_cases hs : plc v x.toInt < v 0 4
  · rw [if_pos hs]
    obtain ⟨pl, hpl⟩ : ∃ z, z = plc v x.toInt := ⟨_, rfl⟩
    rw [← hpl] at hs ⊢
    change V X 0 0 (wSt cy ad v) [some (.ref (ad 0)), some (.int x), none, none, none, none, none, none] [.int (nI pl)] 5
    refine r_istore_n (L' := [some (.ref (ad 0)), some (.int x), some (.int (nI pl)), none, none, none, none, none]) (pc' := 6) hX dX4_meltDown_5 (nlt hnL (by decide)) rfl rfl rfl ?_
    refine r_iload_n (pc' := 7) hX dX4_meltDown_6 rfl rfl ?_
    refine r_if_ge_N (tgt := 13) (pc' := 10) hX dX4_meltDown_7 (by decide) rfl (by omega) (fun c7 => ?_) (fun c7 => ?_)
    · obtain ⟨bz, ba, bf, -, -, bq⟩ := wB pl hs
      refine r_aload_n (pc' := 14) hX dX4_meltDown_13 rfl rfl ?_
      refine r_get (pc' := 17) (v := .ref (ad 14)) hX dX4_meltDown_14 f_X4_53 0 rfl rfl rfl ?_
      refine r_iload_n (pc' := 18) hX dX4_meltDown_17 rfl rfl ?_
      refine r_aaldB (pc' := 19) hX dX4_meltDown_18 hcy (by omega) rfl ?_
      refine r_astore_n (L' := [some (.ref (ad 0)), some (.int x), some (.int (nI pl)), some (.ref (ad (15 + pl))), none, none, none, none]) (pc' := 20) hX dX4_meltDown_19 (nlt hnL (by decide)) rfl rfl rfl ?_
      refine r_aload_n (pc' := 21) hX dX4_meltDown_20 rfl rfl ?_
      refine r_getB (pc' := 24) (x := .int (nI (v (13 + pl) 4))) hX dX4_meltDown_21 f_X4_111 (by omega) rfl rfl ?_
      refine r_if_ne_N (tgt := 30) (pc' := 27) hX dX4_meltDown_24 (by decide) rfl (by omega) (fun c24 => ?_) (fun c24 => ?_)
      · refine r_iconst (pc' := 31) (v := nI 0) hX dX4_meltDown_30 rfl rfl ?_
        refine r_istore (L' := [some (.ref (ad 0)), some (.int x), some (.int (nI pl)), some (.ref (ad (15 + pl))), some (.int (nI 0)), none, none, none]) (pc' := 33) hX dX4_meltDown_31 (nlt hnL (by decide)) rfl rfl rfl ?_
        refine r_iconst (pc' := 34) (v := nI 0) hX dX4_meltDown_33 rfl rfl ?_
        refine r_istore (L' := [some (.ref (ad 0)), some (.int x), some (.int (nI pl)), some (.ref (ad (15 + pl))), some (.int (nI 0)), some (.int (nI 0)), none, none]) (pc' := 36) hX dX4_meltDown_34 (nlt hnL (by decide)) rfl rfl rfl ?_
        have loop36 : ∀ (n9 : Nat) (k : Nat) (w : SV) (g : Nat), 3 - k < n9 → (k ≤ 3) → (w = meL v pl k) → (g = meR v pl k) → V X 0 0 (wSt cy ad w) [some (.ref (ad 0)), some (.int x), some (.int (nI pl)), some (.ref (ad (15 + pl))), some (.int (nI g)), some (.int (nI k)), none, none] [] 36 := by
          intro n9
          induction n9 with
          | zero => intro k w g hm; exact absurd hm (Nat.not_lt_zero _)
          | succ n9 ih36 =>
            intro k w g hm hk hw hg
            refine r_iload (pc' := 38) hX dX4_meltDown_36 rfl rfl ?_
            refine r_iconst (pc' := 39) (v := nI 3) hX dX4_meltDown_38 rfl rfl ?_
            refine r_icmp_ge_N (tgt := 116) (pc' := 42) hX dX4_meltDown_39 (by decide) rfl (by omega) (by omega) (fun c39 => ?_) (fun c39 => ?_)
            · have g4 : w 0 4 = v 0 4 := by rw [hw, meL_b (by decide) (by decide)]
              have hk3 : k = 3 := by omega
              refine r_aload_n (pc' := 117) hX dX4_meltDown_116 rfl rfl ?_
              refine r_dup (pc' := 118) hX dX4_meltDown_117 rfl rfl ?_
              refine r_get (pc' := 121) (v := .int (nI (w 0 8))) hX dX4_meltDown_118 f_X4_66 0 rfl rfl rfl ?_
              refine r_aload_n (pc' := 122) hX dX4_meltDown_121 rfl rfl ?_
              refine r_getB (pc' := 125) (x := .int (nI (w (13 + pl) 2))) hX dX4_meltDown_122 f_X4_105 (by omega) rfl rfl ?_
              refine r_iadd_N (pc' := 126) hX dX4_meltDown_125  rfl ?_
              refine r_put (ws' := wSt cy ad (up2 w 0 8 ((w 0 8) + (w (13 + pl) 2)))) (pc' := 129) hX dX4_meltDown_126 f_X4_66 fw_X4_16 0 rfl rfl rfl (Nat.le_of_ble_eq_true rfl) rfl rfl ?_
              refine r_aload_n (pc' := 130) hX dX4_meltDown_129 rfl rfl ?_
              refine r_iload_n (pc' := 131) hX dX4_meltDown_130 rfl rfl ?_
              refine V_call0 (k' := 0) (n' := 0) (pc' := 134) hX (r_runV (As := [.int (nI pl)]) hX dX4_meltDown_131 k_X4_129 (fun l9 hl9 => cS_remove (v := (up2 w 0 8 ((w 0 8) + (w (13 + pl) 2)))) (p := pl) (by show w 0 4 ≤ 8; omega) (by show pl < w 0 4; omega)) hG ⟨6, _, TX4, 17, List.mem_cons_self, rfl⟩ rfl rfl (Nat.le_of_ble_eq_true rfl) (by decide) (by decide) (by decide) (by decide)) rfl rfl rfl (fun w9 u9 hp9 => ?_)
              obtain ⟨rfl, ad', had, rfl⟩ := hp9
              change V X 0 0 (wSt cy ad' (rmv (up2 w 0 8 ((w 0 8) + (w (13 + pl) 2))) pl)) [some (.ref (ad 0)), some (.int x), some (.int (nI pl)), some (.ref (ad (15 + pl))), some (.int (nI g)), some (.int (nI k)), none, none] [] 134
              refine r_iload (pc' := 136) hX dX4_meltDown_134 rfl rfl ?_
              have e9 : oMelt v x = (nI g, (rmv (up2 w 0 8 ((w 0 8) + (w (13 + pl) 2))) pl)) := by unfold oMelt; rw [← hpl, if_pos hs, if_pos (by omega), hg, ← hk3, ← hw]; rfl
              exact r_ireturn hX hE dX4_meltDown_136 rfl ⟨by rw [e9], ad', had, by rw [e9]⟩ (by decide) (by decide)
            · have e3 : w (13 + pl) 3 = v (13 + pl) 3 := by rw [hw, meL_b (by omega) (by omega)]
              have e2 : w (13 + pl) 2 = v (13 + pl) 2 := by rw [hw, meL_b (by omega) (by omega)]
              have e7 : w (7 + w (13 + pl) 3) k ≤ 9 := by rw [e3, hw, meL_b (by omega) (by omega)]; exact wR _ k (by omega) (by omega)
              refine r_aload_n (pc' := 43) hX dX4_meltDown_42 rfl rfl ?_
              refine r_get (pc' := 46) (v := .ref (ad 1)) hX dX4_meltDown_43 f_X4_17 0 rfl rfl rfl ?_
              refine r_aload_n (pc' := 47) hX dX4_meltDown_46 rfl rfl ?_
              refine r_getB (pc' := 50) (x := .int (nI (w (13 + pl) 3))) hX dX4_meltDown_47 f_X4_108 (by omega) rfl rfl ?_
              refine r_aaldR (pc' := 51) hX dX4_meltDown_50 hcy (by omega) rfl ?_
              refine r_iload (pc' := 53) hX dX4_meltDown_51 rfl rfl ?_
              refine r_ialdR (pc' := 54) hX dX4_meltDown_53 (by rw [hcy]) (by omega) (by omega) rfl ?_
              change V X 0 0 (wSt cy ad w) [some (.ref (ad 0)), some (.int x), some (.int (nI pl)), some (.ref (ad (15 + pl))), some (.int (nI g)), some (.int (nI k)), none, none] [.int (nI (w (7 + (w (13 + pl) 3)) k))] 54
              refine r_istore (L' := [some (.ref (ad 0)), some (.int x), some (.int (nI pl)), some (.ref (ad (15 + pl))), some (.int (nI g)), some (.int (nI k)), some (.int (nI (w (7 + (w (13 + pl) 3)) k))), none]) (pc' := 56) hX dX4_meltDown_54 (nlt hnL (by decide)) rfl rfl rfl ?_
              refine r_aload_n (pc' := 57) hX dX4_meltDown_56 rfl rfl ?_
              refine r_getB (pc' := 60) (x := .int (nI (w (13 + pl) 2))) hX dX4_meltDown_57 f_X4_105 (by omega) rfl rfl ?_
              refine r_iload (pc' := 62) hX dX4_meltDown_60 rfl rfl ?_
              refine r_iconst (pc' := 63) (v := nI 1) hX dX4_meltDown_62 rfl rfl ?_
              refine r_isub (pc' := 64) hX dX4_meltDown_63 rfl ?_
              refine r_iconst (pc' := 65) (v := nI 0) hX dX4_meltDown_64 rfl rfl ?_
              refine r_mmaxP (pc' := 68) hX dX4_meltDown_65 k_X4_133 (by omega) rfl (Nat.le_of_ble_eq_true rfl) (by decide) (by omega) (by omega) ?_
              refine r_imul_N (pc' := 69) hX dX4_meltDown_68  rfl ?_
              refine r_istore (L' := [some (.ref (ad 0)), some (.int x), some (.int (nI pl)), some (.ref (ad (15 + pl))), some (.int (nI g)), some (.int (nI k)), some (.int (nI (w (7 + (w (13 + pl) 3)) k))), some (.int (nI ((w (13 + pl) 2) * (w (7 + w (13 + pl) 3) k - 1))))]) (pc' := 71) hX dX4_meltDown_69 (nlt hnL (by decide)) rfl rfl rfl ?_
              refine r_aload_n (pc' := 72) hX dX4_meltDown_71 rfl rfl ?_
              refine r_get (pc' := 75) (v := .ref (ad 10)) hX dX4_meltDown_72 f_X4_30 0 rfl rfl rfl ?_
              refine r_iload (pc' := 77) hX dX4_meltDown_75 rfl rfl ?_
              refine r_dup2 (pc' := 78) hX dX4_meltDown_77 rfl rfl rfl ?_
              refine r_iald_N (pc' := 79) hX dX4_meltDown_78 (by rw [hcy]) 10 rfl (by omega) (by decide) rfl ?_
              change V X 0 0 (wSt cy ad w) [some (.ref (ad 0)), some (.int x), some (.int (nI pl)), some (.ref (ad (15 + pl))), some (.int (nI g)), some (.int (nI k)), some (.int (nI (w (7 + (w (13 + pl) 3)) k))), some (.int (nI ((w (13 + pl) 2) * (w (7 + w (13 + pl) 3) k - 1))))] [.int (nI (w 3 k)), .int (nI k), .ref (ad 10)] 79
              refine r_iload (pc' := 81) hX dX4_meltDown_79 rfl rfl ?_
              refine r_iadd_N (pc' := 82) hX dX4_meltDown_81  rfl ?_
              refine r_iast_N (ws' := wSt cy ad (up2 w 3 k ((w 3 k) + ((w (13 + pl) 2) * (w (7 + w (13 + pl) 3) k - 1))))) (pc' := 83) hX dX4_meltDown_82 (by rw [hcy]) 10 rfl (by omega) (by decide) rfl rfl ?_
              refine r_aload_n (pc' := 84) hX dX4_meltDown_83 rfl rfl ?_
              refine r_get (pc' := 87) (v := .ref (ad 13)) hX dX4_meltDown_84 f_X4_39 0 rfl rfl rfl ?_
              refine r_iload (pc' := 89) hX dX4_meltDown_87 rfl rfl ?_
              refine r_dup2 (pc' := 90) hX dX4_meltDown_89 rfl rfl rfl ?_
              refine r_iald_N (pc' := 91) hX dX4_meltDown_90 (by rw [hcy]) 13 rfl (by omega) (by decide) rfl ?_
              change V X 0 0 (wSt cy ad (up2 w 3 k ((w 3 k) + ((w (13 + pl) 2) * (w (7 + w (13 + pl) 3) k - 1))))) [some (.ref (ad 0)), some (.int x), some (.int (nI pl)), some (.ref (ad (15 + pl))), some (.int (nI g)), some (.int (nI k)), some (.int (nI (w (7 + (w (13 + pl) 3)) k))), some (.int (nI ((w (13 + pl) 2) * (w (7 + w (13 + pl) 3) k - 1))))] [.int (nI (w 6 k)), .int (nI k), .ref (ad 13)] 91
              refine r_aload_n (pc' := 92) hX dX4_meltDown_91 rfl rfl ?_
              refine r_getB (pc' := 95) (x := .int (nI (w (13 + pl) 2))) hX dX4_meltDown_92 f_X4_105 (by omega) (rN (congrFun (up2_ne (v := w) (b := 3) (i := k) (x := (w 3 k) + ((w (13 + pl) 2) * (w (7 + w (13 + pl) 3) k - 1))) (b' := 13 + pl) (by omega)) 2)) rfl ?_
              refine r_iload (pc' := 97) hX dX4_meltDown_95 rfl rfl ?_
              refine r_imul_N (pc' := 98) hX dX4_meltDown_97  rfl ?_
              refine r_iload (pc' := 100) hX dX4_meltDown_98 rfl rfl ?_
              refine r_isub_N (pc' := 101) hX dX4_meltDown_100 (by exact Nat.mul_le_mul_left _ (Nat.sub_le _ _)) rfl ?_
              refine r_iadd_N (pc' := 102) hX dX4_meltDown_101  rfl ?_
              refine r_iast_N (ws' := wSt cy ad (up2 (up2 w 3 k ((w 3 k) + ((w (13 + pl) 2) * (w (7 + w (13 + pl) 3) k - 1)))) 6 k ((w 6 k) + (((w (13 + pl) 2) * (w (7 + (w (13 + pl) 3)) k)) - ((w (13 + pl) 2) * (w (7 + w (13 + pl) 3) k - 1)))))) (pc' := 103) hX dX4_meltDown_102 (by rw [hcy]) 13 rfl (by omega) (by decide) rfl rfl ?_
              refine r_iload (pc' := 105) hX dX4_meltDown_103 rfl rfl ?_
              refine r_iload (pc' := 107) hX dX4_meltDown_105 rfl rfl ?_
              refine r_iadd_N (pc' := 108) hX dX4_meltDown_107  rfl ?_
              refine r_istore (L' := [some (.ref (ad 0)), some (.int x), some (.int (nI pl)), some (.ref (ad (15 + pl))), some (.int (nI (g + ((w (13 + pl) 2) * (w (7 + w (13 + pl) 3) k - 1))))), some (.int (nI k)), some (.int (nI (w (7 + (w (13 + pl) 3)) k))), some (.int (nI ((w (13 + pl) 2) * (w (7 + w (13 + pl) 3) k - 1))))]) (pc' := 110) hX dX4_meltDown_108 (nlt hnL (by decide)) rfl rfl rfl ?_
              refine r_iinc_N (b := 1) (L' := [some (.ref (ad 0)), some (.int x), some (.int (nI pl)), some (.ref (ad (15 + pl))), some (.int (nI (g + ((w (13 + pl) 2) * (w (7 + w (13 + pl) 3) k - 1))))), some (.int (nI (k + 1))), some (.int (nI (w (7 + (w (13 + pl) 3)) k))), some (.int (nI ((w (13 + pl) 2) * (w (7 + w (13 + pl) 3) k - 1))))]) (pc' := 113) hX dX4_meltDown_110 rfl (nlt hnL (by decide)) rfl rfl rfl ?_
              refine r_goto (tgt := 36) hX dX4_meltDown_113 (by decide) ?_
              refine V_loc (L' := [some (.ref (ad 0)), some (.int x), some (.int (nI pl)), some (.ref (ad (15 + pl))), some (.int (nI (g + ((w (13 + pl) 2) * (w (7 + w (13 + pl) 3) k - 1))))), some (.int (nI (k + 1))), none, none]) (lo_w ⟨.inr rfl, .inr rfl, .inr rfl, .inr rfl, .inr rfl, .inr rfl, .inl rfl, .inl rfl, trivial⟩) ?_
              exact ih36 (k + 1) (up2 (up2 w 3 k ((w 3 k) + ((w (13 + pl) 2) * (w (7 + w (13 + pl) 3) k - 1)))) 6 k ((w 6 k) + (((w (13 + pl) 2) * (w (7 + (w (13 + pl) 3)) k)) - ((w (13 + pl) 2) * (w (7 + w (13 + pl) 3) k - 1))))) (g + ((w (13 + pl) 2) * (w (7 + w (13 + pl) 3) k - 1))) (by omega) (by omega) (by rw [hw]; rfl) (by rw [meR, ← hg, ← hw]; rfl)
        exact loop36 _ 0 v 0 (Nat.lt_succ_self _) (by omega) rfl rfl
      · refine r_bipush (pc' := 29) (v := (-3)) hX dX4_meltDown_27 rfl rfl ?_
        have e9 : oMelt v x = ((-3), v) := by unfold oMelt; rw [← hpl, if_pos hs, if_neg (by omega)]
        exact r_ireturn hX hE dX4_meltDown_29 rfl ⟨by rw [e9], _, rfl, by rw [e9]⟩ (by decide) (by decide)
    · exact absurd c7 (by omega)
  · rw [if_neg hs]
    change V X 0 0 (wSt cy ad v) [some (.ref (ad 0)), some (.int x), none, none, none, none, none, none] [.int (-5)] 5
    refine r_istore_n (L' := [some (.ref (ad 0)), some (.int x), some (.int (-5)), none, none, none, none, none]) (pc' := 6) hX dX4_meltDown_5 (nlt hnL (by decide)) rfl rfl rfl ?_
    refine r_iload_n (pc' := 7) hX dX4_meltDown_6 rfl rfl ?_
    refine r_if_ge_I (tgt := 13) (pc' := 10) hX dX4_meltDown_7 (by decide) rfl (by decide : (-5 : Int32).toInt = -5) (fun c7 => ?_) (fun c7 => ?_)
    · exact absurd c7 (by omega)
    · refine r_bipush (pc' := 12) (v := (-5)) hX dX4_meltDown_10 rfl rfl ?_
      have e9 : oMelt v x = ((-5), v) := by unfold oMelt; rw [if_neg hs]
      exact r_ireturn hX hE dX4_meltDown_12 rfl ⟨by rw [e9], _, rfl, by rw [e9]⟩ (by decide) (by decide)
