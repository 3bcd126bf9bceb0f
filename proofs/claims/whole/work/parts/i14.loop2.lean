theorem and63 (x : Int32) : ∃ c : Nat, c < 64 ∧ x &&& nI 63 = nI c := by
  refine ⟨(x.toUInt32 &&& 63).toNat, ?_, ?_⟩
  · rw [UInt32.toNat_and]
    exact Nat.lt_succ_of_le Nat.and_le_right
  · show x &&& nI 63 = (UInt32.ofNat (x.toUInt32 &&& 63).toNat).toInt32
    rw [UInt32.ofNat_toNat]
    rfl
set_option maxRecDepth 20000 in
set_option maxHeartbeats 2000000 in
theorem law_loop {X : xC} {l : Launch} {D : va_G} {cy : Nat → ClassId} {sa : Nat → Nat} {mc ms f o od b L9 : Nat} {ma : Nat → Nat} {xs : Nat → Int32} (hX : Ok SF X cL_law RL 16 mc ms) (hG : c0_G X = (D, cy, sa)) (hcy : c0_cy X = cy) (hnL : c0_nL X = 9) (hl : c0_l X = l) (hst : l.stackTraces = false) (hScr : Scr X b L9 xs) (hL9 : L9 ≤ 2048) (hmc : 12176 ≤ mc) (hms : 1770700 ≤ ms)
    (fin : ∀ (i k n : Nat) (fl : Nat → Int64) (fd : Nat → UInt64) (wf wm : va_W), k ≤ 12176 → n ≤ 1770700 → V X k n (LW cy o od fl fd wf wm) [some (.ref b), some (.ref f), some (.ref (ma 0)), some (.ref o), some (.ref od), some (.int (nI i)), none, none, none] [] 2786) :
    ∀ (n9 j : Nat) (S : AS) (t : Nat) (fl : Nat → Int64) (fd : Nat → UInt64) (wf wm : va_W), 513 - j < n9 → j ≤ 512 → FS cy f S wf → MS cy ma S t wm → AJ (61 * j) S → V X (400 + 23 * j) (4300 + 3450 * j) (LW cy o od fl fd wf wm) [some (.ref b), some (.ref f), some (.ref (ma 0)), some (.ref o), some (.ref od), some (.int (nI (4 * j))), none, none, none] [] 28 := by
  intro n9
  induction n9 with
  | zero => intro j S t fl fd wf wm hm; exact absurd hm (Nat.not_lt_zero _)
  | succ n9 ih =>
    intro j S t fl fd wf wm hm hj hF hM hA
    refine r_iload (pc' := 30) hX dL_law_28 rfl rfl ?_
    refine r_aload_n (pc' := 31) hX dL_law_30 rfl rfl ?_
    refine r_slen (pc' := 32) hX dL_law_31 hScr rfl ?_
    refine r_iconst (pc' := 33) (v := nI 4) hX dL_law_32 rfl rfl ?_
    refine r_isub (pc' := 34) hX dL_law_33 rfl ?_
    refine r_icmp_gt_I (tgt := 2786) (pc' := 37) hX dL_law_34 (by decide) rfl (nI_I (by omega)) (pk_sub_toInt (by omega) (by omega)) (fun c34 => fin _ _ _ _ _ _ _ (by omega) (by omega)) (fun c34 => ?_)
    have hi : 4 * j + 4 ≤ L9 := by omega
    refine r_aload_n (pc' := 38) hX dL_law_37 rfl rfl ?_
    refine r_iload (pc' := 40) hX dL_law_38 rfl rfl ?_
    refine r_sld (pc' := 41) hX dL_law_40 hScr (by omega) hL9 rfl ?_
    refine r_bipush (pc' := 43) (v := nI 63) hX dL_law_41 rfl rfl ?_
    refine r_iand (pc' := 44) hX dL_law_43 rfl ?_
    obtain ⟨c, hc, hce⟩ := and63 (xs (4 * j))
    rw [hce]
    have next : ∀ (S1 : AS) (t1 : Nat) (fl1 : Nat → Int64) (fd1 : Nat → UInt64) (wf1 wm1 : va_W), FS cy f S1 wf1 → MS cy ma S1 t1 wm1 → AJ (61 * j + 61) S1 → V X (400 + 23 * j + 23) (4300 + 3450 * j + 3450) (LW cy o od fl1 fd1 wf1 wm1) [some (.ref b), some (.ref f), some (.ref (ma 0)), some (.ref o), some (.ref od), some (.int (nI (4 * j))), none, none, none] [] 2780 := by
      intro S1 t1 fl1 fd1 wf1 wm1 hF1 hM1 hA1
      refine r_iinc_N (b := 4) (L' := [some (.ref b), some (.ref f), some (.ref (ma 0)), some (.ref o), some (.ref od), some (.int (nI (4 * j + 4))), none, none, none]) (pc' := 2783) hX dL_law_2780 rfl (nlt hnL (by decide)) rfl rfl rfl ?_
      refine r_goto (tgt := 28) hX dL_law_2783 (by decide) ?_
      refine V_widen (k' := 400 + 23 * (j + 1)) (n' := 4300 + 3450 * (j + 1)) (by omega) (by omega) ?_
      exact ih (j + 1) S1 t1 fl1 fd1 wf1 wm1 (by omega) (by omega) hF1 hM1 (hA1.mono (by omega))
    match c, hc with
    | 0, _ => exact r_tabN (tgt := 268) hX dL_law_44 (by decide) (by decide) (by decide) rfl (by decide) (lc_0 hX hG hcy hnL hl hst hScr hi hL9 hF hM hA (by omega) (by omega) (by omega) next)
    | 1, _ => exact r_tabN (tgt := 348) hX dL_law_44 (by decide) (by decide) (by decide) rfl (by decide) (lc_1 hX hG hcy hnL hl hst hScr hi hL9 hF hM hA (by omega) (by omega) (by omega) next)
    | 2, _ => exact r_tabN (tgt := 404) hX dL_law_44 (by decide) (by decide) (by decide) rfl (by decide) (lc_2 hX hG hcy hnL hl hst hScr hi hL9 hF hM hA (by omega) (by omega) (by omega) next)
    | 3, _ => exact r_tabN (tgt := 472) hX dL_law_44 (by decide) (by decide) (by decide) rfl (by decide) (lc_3 hX hG hcy hnL hl hst hScr hi hL9 hF hM hA (by omega) (by omega) (by omega) next)
    | 4, _ => exact r_tabN (tgt := 552) hX dL_law_44 (by decide) (by decide) (by decide) rfl (by decide) (lc_4 hX hG hcy hnL hl hst hScr hi hL9 hF hM hA (by omega) (by omega) (by omega) next)
    | 5, _ => exact r_tabN (tgt := 615) hX dL_law_44 (by decide) (by decide) (by decide) rfl (by decide) (lc_5 hX hG hcy hnL hl hst hScr hi hL9 hF hM hA (by omega) (by omega) (by omega) next)
    | 6, _ => exact r_tabN (tgt := 671) hX dL_law_44 (by decide) (by decide) (by decide) rfl (by decide) (lc_6 hX hG hcy hnL hl hst hScr hi hL9 hF hM hA (by omega) (by omega) (by omega) next)
    | 7, _ => exact r_tabN (tgt := 727) hX dL_law_44 (by decide) (by decide) (by decide) rfl (by decide) (lc_7 hX hG hcy hnL hl hst hScr hi hL9 hF hM hA (by omega) (by omega) (by omega) next)
    | 8, _ => exact r_tabN (tgt := 783) hX dL_law_44 (by decide) (by decide) (by decide) rfl (by decide) (lc_8 hX hG hcy hnL hl hst hScr hi hL9 hF hM hA (by omega) (by omega) (by omega) next)
    | 9, _ => exact r_tabN (tgt := 839) hX dL_law_44 (by decide) (by decide) (by decide) rfl (by decide) (lc_9 hX hG hcy hnL hl hst hScr hi hL9 hF hM hA (by omega) (by omega) (by omega) next)
    | 10, _ => exact r_tabN (tgt := 852) hX dL_law_44 (by decide) (by decide) (by decide) rfl (by decide) (lc_10 hX hG hcy hnL hl hst hScr hi hL9 hF hM hA (by omega) (by omega) (by omega) next)
    | 11, _ => exact r_tabN (tgt := 920) hX dL_law_44 (by decide) (by decide) (by decide) rfl (by decide) (lc_11 hX hG hcy hnL hl hst hScr hi hL9 hF hM hA (by omega) (by omega) (by omega) next)
    | 12, _ => exact r_tabN (tgt := 933) hX dL_law_44 (by decide) (by decide) (by decide) rfl (by decide) (lc_12 hX hG hcy hnL hl hst hScr hi hL9 hF hM hA (by omega) (by omega) (by omega) next)
    | 13, _ => exact r_tabN (tgt := 989) hX dL_law_44 (by decide) (by decide) (by decide) rfl (by decide) (lc_13 hX hG hcy hnL hl hst hScr hi hL9 hF hM hA (by omega) (by omega) (by omega) next)
    | 14, _ => exact r_tabN (tgt := 1045) hX dL_law_44 (by decide) (by decide) (by decide) rfl (by decide) (lc_14 hX hG hcy hnL hl hst hScr hi hL9 hF hM hA (by omega) (by omega) (by omega) next)
    | 15, _ => exact r_tabN (tgt := 1101) hX dL_law_44 (by decide) (by decide) (by decide) rfl (by decide) (lc_15 hX hG hcy hnL hl hst hScr hi hL9 hF hM hA (by omega) (by omega) (by omega) next)
    | 16, _ => exact r_tabN (tgt := 1114) hX dL_law_44 (by decide) (by decide) (by decide) rfl (by decide) (lc_16 hX hG hcy hnL hl hst hScr hi hL9 hF hM hA (by omega) (by omega) (by omega) next)
    | 17, _ => exact r_tabN (tgt := 1127) hX dL_law_44 (by decide) (by decide) (by decide) rfl (by decide) (lc_17 hX hG hcy hnL hl hst hScr hi hL9 hF hM hA (by omega) (by omega) (by omega) next)
    | 18, _ => exact r_tabN (tgt := 1140) hX dL_law_44 (by decide) (by decide) (by decide) rfl (by decide) (lc_18 hX hG hcy hnL hl hst hScr hi hL9 hF hM hA (by omega) (by omega) (by omega) next)
    | 19, _ => exact r_tabN (tgt := 1196) hX dL_law_44 (by decide) (by decide) (by decide) rfl (by decide) (lc_19 hX hG hcy hnL hl hst hScr hi hL9 hF hM hA (by omega) (by omega) (by omega) next)
    | 20, _ => exact r_tabN (tgt := 1259) hX dL_law_44 (by decide) (by decide) (by decide) rfl (by decide) (lc_20 hX hG hcy hnL hl hst hScr hi hL9 hF hM hA (by omega) (by omega) (by omega) next)
    | 21, _ => exact r_tabN (tgt := 1315) hX dL_law_44 (by decide) (by decide) (by decide) rfl (by decide) (lc_21 hX hG hcy hnL hl hst hScr hi hL9 hF hM hA (by omega) (by omega) (by omega) next)
    | 22, _ => exact r_tabN (tgt := 1371) hX dL_law_44 (by decide) (by decide) (by decide) rfl (by decide) (lc_22 hX hG hcy hnL hl hst hScr hi hL9 hF hM hA (by omega) (by omega) (by omega) next)
    | 23, _ => exact r_tabN (tgt := 1427) hX dL_law_44 (by decide) (by decide) (by decide) rfl (by decide) (lc_23 hX hG hcy hnL hl hst hScr hi hL9 hF hM hA (by omega) (by omega) (by omega) next)
    | 24, _ => exact r_tabN (tgt := 1490) hX dL_law_44 (by decide) (by decide) (by decide) rfl (by decide) (lc_24 hX hG hcy hnL hl hst hScr hi hL9 hF hM hA (by omega) (by omega) (by omega) next)
    | 25, _ => exact r_tabN (tgt := 1546) hX dL_law_44 (by decide) (by decide) (by decide) rfl (by decide) (lc_25 hX hG hcy hnL hl hst hScr hi hL9 hF hM hA (by omega) (by omega) (by omega) next)
    | 26, _ => exact r_tabN (tgt := 1602) hX dL_law_44 (by decide) (by decide) (by decide) rfl (by decide) (lc_26 hX hG hcy hnL hl hst hScr hi hL9 hF hM hA (by omega) (by omega) (by omega) next)
    | 27, _ => exact r_tabN (tgt := 1658) hX dL_law_44 (by decide) (by decide) (by decide) rfl (by decide) (lc_27 hX hG hcy hnL hl hst hScr hi hL9 hF hM hA (by omega) (by omega) (by omega) next)
    | 28, _ => exact r_tabN (tgt := 1721) hX dL_law_44 (by decide) (by decide) (by decide) rfl (by decide) (lc_28 hX hG hcy hnL hl hst hScr hi hL9 hF hM hA (by omega) (by omega) (by omega) next)
    | 29, _ => exact r_tabN (tgt := 1777) hX dL_law_44 (by decide) (by decide) (by decide) rfl (by decide) (lc_29 hX hG hcy hnL hl hst hScr hi hL9 hF hM hA (by omega) (by omega) (by omega) next)
    | 30, _ => exact r_tabN (tgt := 1833) hX dL_law_44 (by decide) (by decide) (by decide) rfl (by decide) (lc_30 hX hG hcy hnL hl hst hScr hi hL9 hF hM hA (by omega) (by omega) (by omega) next)
    | 31, _ => exact r_tabN (tgt := 1901) hX dL_law_44 (by decide) (by decide) (by decide) rfl (by decide) (lc_31 hX hG hcy hnL hl hst hScr hi hL9 hF hM hA (by omega) (by omega) (by omega) next)
    | 32, _ => exact r_tabN (tgt := 1957) hX dL_law_44 (by decide) (by decide) (by decide) rfl (by decide) (lc_32 hX hG hcy hnL hl hst hScr hi hL9 hF hM hA (by omega) (by omega) (by omega) next)
    | 33, _ => exact r_tabN (tgt := 2013) hX dL_law_44 (by decide) (by decide) (by decide) rfl (by decide) (lc_33 hX hG hcy hnL hl hst hScr hi hL9 hF hM hA (by omega) (by omega) (by omega) next)
    | 34, _ => exact r_tabN (tgt := 2069) hX dL_law_44 (by decide) (by decide) (by decide) rfl (by decide) (lc_34 hX hG hcy hnL hl hst hScr hi hL9 hF hM hA (by omega) (by omega) (by omega) next)
    | 35, _ => exact r_tabN (tgt := 2125) hX dL_law_44 (by decide) (by decide) (by decide) rfl (by decide) (lc_35 hX hG hcy hnL hl hst hScr hi hL9 hF hM hA (by omega) (by omega) (by omega) next)
    | 36, _ => exact r_tabN (tgt := 2138) hX dL_law_44 (by decide) (by decide) (by decide) rfl (by decide) (lc_36 hX hG hcy hnL hl hst hScr hi hL9 hF hM hA (by omega) (by omega) (by omega) next)
    | 37, _ => exact r_tabN (tgt := 2151) hX dL_law_44 (by decide) (by decide) (by decide) rfl (by decide) (lc_37 hX hG hcy hnL hl hst hScr hi hL9 hF hM hA (by omega) (by omega) (by omega) next)
    | 38, _ => exact r_tabN (tgt := 2164) hX dL_law_44 (by decide) (by decide) (by decide) rfl (by decide) (lc_38 hX hG hcy hnL hl hst hScr hi hL9 hF hM hA (by omega) (by omega) (by omega) next)
    | 39, _ => exact r_tabN (tgt := 2220) hX dL_law_44 (by decide) (by decide) (by decide) rfl (by decide) (lc_39 hX hG hcy hnL hl hst hScr hi hL9 hF hM hA (by omega) (by omega) (by omega) next)
    | 40, _ => exact r_tabN (tgt := 2285) hX dL_law_44 (by decide) (by decide) (by decide) rfl (by decide) (lc_40 hX hG hcy hnL hl hst hScr hi hL9 hF hM hA (by omega) (by omega) (by omega) next)
    | 41, _ => exact r_tabN (tgt := 2351) hX dL_law_44 (by decide) (by decide) (by decide) rfl (by decide) (lc_41 hX hG hcy hnL hl hst hScr hi hL9 hF hM hA (by omega) (by omega) (by omega) next)
    | 42, _ => exact r_tabN (tgt := 2364) hX dL_law_44 (by decide) (by decide) (by decide) rfl (by decide) (lc_42 hX hG hcy hnL hl hst hScr hi hL9 hF hM hA (by omega) (by omega) (by omega) next)
    | 43, _ => exact r_tabN (tgt := 2420) hX dL_law_44 (by decide) (by decide) (by decide) rfl (by decide) (lc_43 hX hG hcy hnL hl hst hScr hi hL9 hF hM hA (by omega) (by omega) (by omega) next)
    | 44, _ => exact r_tabN (tgt := 2433) hX dL_law_44 (by decide) (by decide) (by decide) rfl (by decide) (lc_44 hX hG hcy hnL hl hst hScr hi hL9 hF hM hA (by omega) (by omega) (by omega) next)
    | 45, _ => exact r_tabN (tgt := 2489) hX dL_law_44 (by decide) (by decide) (by decide) rfl (by decide) (lc_45 hX hG hcy hnL hl hst hScr hi hL9 hF hM hA (by omega) (by omega) (by omega) next)
    | 46, _ => exact r_tabN (tgt := 2547) hX dL_law_44 (by decide) (by decide) (by decide) rfl (by decide) (lc_46 hX hG hcy hnL hl hst hScr hi hL9 hF hM hA (by omega) (by omega) (by omega) next)
    | 47, _ => exact r_tabN (tgt := 2591) hX dL_law_44 (by decide) (by decide) (by decide) rfl (by decide) (lc_47 hX hG hcy hnL hl hst hScr hi hL9 hF hM hA (by omega) (by omega) (by omega) next)
    | 48, _ => exact r_tabN (tgt := 2635) hX dL_law_44 (by decide) (by decide) (by decide) rfl (by decide) (lc_48 hX hG hcy hnL hl hst hScr hi hL9 hF hM hA (by omega) (by omega) (by omega) next)
    | 49, _ => exact r_tabN (tgt := 2679) hX dL_law_44 (by decide) (by decide) (by decide) rfl (by decide) (lc_49 hX hG hcy hnL hl hst hScr hi hL9 hF hM hA (by omega) (by omega) (by omega) next)
    | 50, _ => exact r_tabN (tgt := 2723) hX dL_law_44 (by decide) (by decide) (by decide) rfl (by decide) (lc_50 hX hG hcy hnL hl hst hScr hi hL9 hF hM hA (by omega) (by omega) (by omega) next)
    | 51, _ => exact r_tabN (tgt := 2736) hX dL_law_44 (by decide) (by decide) (by decide) rfl (by decide) (lc_51 hX hG hcy hnL hl hst hScr hi hL9 hF hM hA (by omega) (by omega) (by omega) next)
    | c + 52, _ =>
      refine r_tabO (tgt := 2780) hX dL_law_44 (Or.inr (Or.inl (by rw [nI_I (by omega)]; omega))) (by decide) ?_
      refine V_widen (k' := 400 + 23 * j + 23) (n' := 4300 + 3450 * j + 3450) (by omega) (by omega) ?_
      exact next S t fl fd wf wm hF hM (hA.mono (by omega))
