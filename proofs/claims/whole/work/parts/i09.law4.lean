theorem MS_len_st {v : SV} (hv : Wf v) : (stT v (v 0 1)).length ≤ 39 := by
  have h := stT_len (v := v) (fun j hj => by have := hv.2.2.2.2.2.2.2.2.2.1 j hj; omega) (fun i hi => by have := hv.2.2.2.2.2.2.2.2.1 i hi; omega) (v 0 1) hv.2.1
  have := hv.2.1
  omega
set_option maxRecDepth 20000 in
set_option maxHeartbeats 1000000 in
theorem lc_9 {X : xC} {l : Launch} {D : va_G} {cy : Nat → ClassId} {sa : Nat → Nat} {mc ms k0 n0 f o od b L9 i K t : Nat} {ma : Nat → Nat} {xs : Nat → Int32} {S : AS} {fl : Nat → Int64} {fd : Nat → UInt64} {wf wm : va_W} (hX : Ok SF X cL_law RL 16 mc ms) (hG : c0_G X = (D, cy, sa)) (hcy : c0_cy X = cy) (hnL : c0_nL X = 9) (hl : c0_l X = l) (hst : l.stackTraces = false) (hScr : Scr X b L9 xs) (hi : i + 4 ≤ L9) (hL9 : L9 ≤ 2048) (hF : FS cy f S wf) (hM : MS cy ma S t wm) (hA : AJ K S) (hK : K + 61 ≤ 100000) (hk : k0 + 23 ≤ mc) (hn : n0 + 3450 ≤ ms) (cont : ∀ (S1 : AS) (t1 : Nat) (fl1 : Nat → Int64) (fd1 : Nat → UInt64) (wf1 wm1 : va_W), FS cy f S1 wf1 → MS cy ma S1 t1 wm1 → AJ (K + 61) S1 → V X (k0 + 23) (n0 + 3450) (LW cy o od fl1 fd1 wf1 wm1) [some (.ref b), some (.ref f), some (.ref (ma 0)), some (.ref o), some (.ref od), some (.int (nI i)), none, none, none] [] 2780) : V X k0 n0 (LW cy o od fl fd wf wm) [some (.ref b), some (.ref f), some (.ref (ma 0)), some (.ref o), some (.ref od), some (.int (nI i)), none, none, none] [] 839 := by
  have hv : Wf S.1 := hA.1.1.1.1
  have hInv : Inv K S.1 := hA.1.1.1
  have hbnd : S.1 0 0 < 2147483648 := by obtain ⟨wa, wm9, wb, ws9, wt, wc, -⟩ := hA.1.1.1.1; omega
  refine r_aload_n (pc' := 840) hX dL_law_839 rfl rfl ?_
  refine V_call (k' := k0) (n' := n0) (pc' := 843) (wr := ([(o, .inl (cy 6, aL 1 fl)), (od, .inl (cy 7, aD 1 fd))] ++ wm)) hX (r_runV (As := []) hX dL_law_840 k_L_192 (fun l9 hl9 => cF_alloyCount (v := S.1) rfl hF hA.1 ) hG (FS_recv hF) rfl rfl (Nat.le_of_ble_eq_true rfl) (by decide) (by decide) (by omega) (by omega)) (LW_f) (by omega) (by omega) rfl (fun w9 u69 hp9 => ?_)
  obtain ⟨ok9, rfl, hF1⟩ := hp9
  change V X k0 n0 (u69 ++ ([(o, .inl (cy 6, aL 1 fl)), (od, .inl (cy 7, aD 1 fd))] ++ wm)) [some (.ref b), some (.ref f), some (.ref (ma 0)), some (.ref o), some (.ref od), some (.int (nI i)), none, none, none] [.int (nI (S.1 0 0))] 843
  refine V_perm (LW_f.symm) ?_
  refine r_aload_n (pc' := 844) hX dL_law_843 rfl rfl ?_
  refine V_call (k' := k0) (n' := n0) (pc' := 847) (wr := ([(o, .inl (cy 6, aL 1 fl)), (od, .inl (cy 7, aD 1 fd))] ++ u69)) hX (r_runV (As := []) hX dL_law_844 k_L_195 (fun l9 hl9 => cMw_alloyCount (v := S.1) rfl hM hv) hG (MS_recv hM) rfl rfl (Nat.le_of_ble_eq_true rfl) (by decide) (by decide) (by omega) (by omega)) (LW_m) (by omega) (by omega) rfl (fun w9 u70 hp9 => ?_)
  obtain ⟨rfl, hM1⟩ := hp9
  rw [mvl_nI (by obtain ⟨wa, wm9, wb, ws9, wt, wc, -⟩ := hA.1.1.1.1; omega)]
  change V X k0 n0 (u70 ++ ([(o, .inl (cy 6, aL 1 fl)), (od, .inl (cy 7, aD 1 fd))] ++ u69)) [some (.ref b), some (.ref f), some (.ref (ma 0)), some (.ref o), some (.ref od), some (.int (nI i)), none, none, none] [.int (nI (S.1 0 0)), .int (nI (S.1 0 0))] 847
  refine V_perm (LW_m.symm) ?_
  refine r_icmp_eq_N (tgt := 2780) (pc' := 850) hX dL_law_847 (by decide) rfl (by have hvb := hbnd; omega) (by have hvb := hbnd; omega) (fun c847 => ?_) (fun c847 => ?_)
  · refine V_widen (k' := k0 + 23) (n' := n0 + 3450) (by omega) (by omega) ?_
    exact cont (S) _ _ _ _ _ hF1 hM1 (hA.mono (by omega))
  · exact absurd c847 (by omega)

set_option maxRecDepth 20000 in
set_option maxHeartbeats 1000000 in
theorem lc_11 {X : xC} {l : Launch} {D : va_G} {cy : Nat → ClassId} {sa : Nat → Nat} {mc ms k0 n0 f o od b L9 i K t : Nat} {ma : Nat → Nat} {xs : Nat → Int32} {S : AS} {fl : Nat → Int64} {fd : Nat → UInt64} {wf wm : va_W} (hX : Ok SF X cL_law RL 16 mc ms) (hG : c0_G X = (D, cy, sa)) (hcy : c0_cy X = cy) (hnL : c0_nL X = 9) (hl : c0_l X = l) (hst : l.stackTraces = false) (hScr : Scr X b L9 xs) (hi : i + 4 ≤ L9) (hL9 : L9 ≤ 2048) (hF : FS cy f S wf) (hM : MS cy ma S t wm) (hA : AJ K S) (hK : K + 61 ≤ 100000) (hk : k0 + 23 ≤ mc) (hn : n0 + 3450 ≤ ms) (cont : ∀ (S1 : AS) (t1 : Nat) (fl1 : Nat → Int64) (fd1 : Nat → UInt64) (wf1 wm1 : va_W), FS cy f S1 wf1 → MS cy ma S1 t1 wm1 → AJ (K + 61) S1 → V X (k0 + 23) (n0 + 3450) (LW cy o od fl1 fd1 wf1 wm1) [some (.ref b), some (.ref f), some (.ref (ma 0)), some (.ref o), some (.ref od), some (.int (nI i)), none, none, none] [] 2780) : V X k0 n0 (LW cy o od fl fd wf wm) [some (.ref b), some (.ref f), some (.ref (ma 0)), some (.ref o), some (.ref od), some (.int (nI i)), none, none, none] [] 920 := by
  have hv : Wf S.1 := hA.1.1.1.1
  have hInv : Inv K S.1 := hA.1.1.1
  have hbnd : S.1 0 1 < 2147483648 := by obtain ⟨wa, wm9, wb, ws9, wt, wc, -⟩ := hA.1.1.1.1; omega
  refine r_aload_n (pc' := 921) hX dL_law_920 rfl rfl ?_
  refine V_call (k' := k0) (n' := n0) (pc' := 924) (wr := ([(o, .inl (cy 6, aL 1 fl)), (od, .inl (cy 7, aD 1 fd))] ++ wm)) hX (r_runV (As := []) hX dL_law_921 k_L_199 (fun l9 hl9 => cF_mouldCount (v := S.1) rfl hF hA.1 ) hG (FS_recv hF) rfl rfl (Nat.le_of_ble_eq_true rfl) (by decide) (by decide) (by omega) (by omega)) (LW_f) (by omega) (by omega) rfl (fun w9 u71 hp9 => ?_)
  obtain ⟨ok9, rfl, hF1⟩ := hp9
  change V X k0 n0 (u71 ++ ([(o, .inl (cy 6, aL 1 fl)), (od, .inl (cy 7, aD 1 fd))] ++ wm)) [some (.ref b), some (.ref f), some (.ref (ma 0)), some (.ref o), some (.ref od), some (.int (nI i)), none, none, none] [.int (nI (S.1 0 1))] 924
  refine V_perm (LW_f.symm) ?_
  refine r_aload_n (pc' := 925) hX dL_law_924 rfl rfl ?_
  refine V_call (k' := k0) (n' := n0) (pc' := 928) (wr := ([(o, .inl (cy 6, aL 1 fl)), (od, .inl (cy 7, aD 1 fd))] ++ u71)) hX (r_runV (As := []) hX dL_law_925 k_L_202 (fun l9 hl9 => cMw_mouldCount (v := S.1) rfl hM hv) hG (MS_recv hM) rfl rfl (Nat.le_of_ble_eq_true rfl) (by decide) (by decide) (by omega) (by omega)) (LW_m) (by omega) (by omega) rfl (fun w9 u72 hp9 => ?_)
  obtain ⟨rfl, hM1⟩ := hp9
  rw [mvl_nI (by obtain ⟨wa, wm9, wb, ws9, wt, wc, -⟩ := hA.1.1.1.1; omega)]
  change V X k0 n0 (u72 ++ ([(o, .inl (cy 6, aL 1 fl)), (od, .inl (cy 7, aD 1 fd))] ++ u71)) [some (.ref b), some (.ref f), some (.ref (ma 0)), some (.ref o), some (.ref od), some (.int (nI i)), none, none, none] [.int (nI (S.1 0 1)), .int (nI (S.1 0 1))] 928
  refine V_perm (LW_m.symm) ?_
  refine r_icmp_eq_N (tgt := 2780) (pc' := 931) hX dL_law_928 (by decide) rfl (by have hvb := hbnd; omega) (by have hvb := hbnd; omega) (fun c928 => ?_) (fun c928 => ?_)
  · refine V_widen (k' := k0 + 23) (n' := n0 + 3450) (by omega) (by omega) ?_
    exact cont (S) _ _ _ _ _ hF1 hM1 (hA.mono (by omega))
  · exact absurd c928 (by omega)

set_option maxRecDepth 20000 in
set_option maxHeartbeats 1000000 in
theorem lc_15 {X : xC} {l : Launch} {D : va_G} {cy : Nat → ClassId} {sa : Nat → Nat} {mc ms k0 n0 f o od b L9 i K t : Nat} {ma : Nat → Nat} {xs : Nat → Int32} {S : AS} {fl : Nat → Int64} {fd : Nat → UInt64} {wf wm : va_W} (hX : Ok SF X cL_law RL 16 mc ms) (hG : c0_G X = (D, cy, sa)) (hcy : c0_cy X = cy) (hnL : c0_nL X = 9) (hl : c0_l X = l) (hst : l.stackTraces = false) (hScr : Scr X b L9 xs) (hi : i + 4 ≤ L9) (hL9 : L9 ≤ 2048) (hF : FS cy f S wf) (hM : MS cy ma S t wm) (hA : AJ K S) (hK : K + 61 ≤ 100000) (hk : k0 + 23 ≤ mc) (hn : n0 + 3450 ≤ ms) (cont : ∀ (S1 : AS) (t1 : Nat) (fl1 : Nat → Int64) (fd1 : Nat → UInt64) (wf1 wm1 : va_W), FS cy f S1 wf1 → MS cy ma S1 t1 wm1 → AJ (K + 61) S1 → V X (k0 + 23) (n0 + 3450) (LW cy o od fl1 fd1 wf1 wm1) [some (.ref b), some (.ref f), some (.ref (ma 0)), some (.ref o), some (.ref od), some (.int (nI i)), none, none, none] [] 2780) : V X k0 n0 (LW cy o od fl fd wf wm) [some (.ref b), some (.ref f), some (.ref (ma 0)), some (.ref o), some (.ref od), some (.int (nI i)), none, none, none] [] 1101 := by
  have hv : Wf S.1 := hA.1.1.1.1
  have hInv : Inv K S.1 := hA.1.1.1
  have hbnd : S.1 0 2 < 2147483648 := by obtain ⟨wa, wm9, wb, ws9, wt, wc, -⟩ := hA.1.1.1.1; omega
  refine r_aload_n (pc' := 1102) hX dL_law_1101 rfl rfl ?_
  refine V_call (k' := k0) (n' := n0) (pc' := 1105) (wr := ([(o, .inl (cy 6, aL 1 fl)), (od, .inl (cy 7, aD 1 fd))] ++ wm)) hX (r_runV (As := []) hX dL_law_1102 k_L_212 (fun l9 hl9 => cF_tolerance (v := S.1) rfl hF hA.1 ) hG (FS_recv hF) rfl rfl (Nat.le_of_ble_eq_true rfl) (by decide) (by decide) (by omega) (by omega)) (LW_f) (by omega) (by omega) rfl (fun w9 u73 hp9 => ?_)
  obtain ⟨ok9, rfl, hF1⟩ := hp9
  change V X k0 n0 (u73 ++ ([(o, .inl (cy 6, aL 1 fl)), (od, .inl (cy 7, aD 1 fd))] ++ wm)) [some (.ref b), some (.ref f), some (.ref (ma 0)), some (.ref o), some (.ref od), some (.int (nI i)), none, none, none] [.int (nI (S.1 0 2))] 1105
  refine V_perm (LW_f.symm) ?_
  refine r_aload_n (pc' := 1106) hX dL_law_1105 rfl rfl ?_
  refine V_call (k' := k0) (n' := n0) (pc' := 1109) (wr := ([(o, .inl (cy 6, aL 1 fl)), (od, .inl (cy 7, aD 1 fd))] ++ u73)) hX (r_runV (As := []) hX dL_law_1106 k_L_215 (fun l9 hl9 => cMw_tolerance (v := S.1) rfl hM hv) hG (MS_recv hM) rfl rfl (Nat.le_of_ble_eq_true rfl) (by decide) (by decide) (by omega) (by omega)) (LW_m) (by omega) (by omega) rfl (fun w9 u74 hp9 => ?_)
  obtain ⟨rfl, hM1⟩ := hp9
  rw [mvl_nI (by obtain ⟨wa, wm9, wb, ws9, wt, wc, -⟩ := hA.1.1.1.1; omega)]
  change V X k0 n0 (u74 ++ ([(o, .inl (cy 6, aL 1 fl)), (od, .inl (cy 7, aD 1 fd))] ++ u73)) [some (.ref b), some (.ref f), some (.ref (ma 0)), some (.ref o), some (.ref od), some (.int (nI i)), none, none, none] [.int (nI (S.1 0 2)), .int (nI (S.1 0 2))] 1109
  refine V_perm (LW_m.symm) ?_
  refine r_icmp_eq_N (tgt := 2780) (pc' := 1112) hX dL_law_1109 (by decide) rfl (by have hvb := hbnd; omega) (by have hvb := hbnd; omega) (fun c1109 => ?_) (fun c1109 => ?_)
  · refine V_widen (k' := k0 + 23) (n' := n0 + 3450) (by omega) (by omega) ?_
    exact cont (S) _ _ _ _ _ hF1 hM1 (hA.mono (by omega))
  · exact absurd c1109 (by omega)

set_option maxRecDepth 20000 in
set_option maxHeartbeats 1000000 in
theorem lc_16 {X : xC} {l : Launch} {D : va_G} {cy : Nat → ClassId} {sa : Nat → Nat} {mc ms k0 n0 f o od b L9 i K t : Nat} {ma : Nat → Nat} {xs : Nat → Int32} {S : AS} {fl : Nat → Int64} {fd : Nat → UInt64} {wf wm : va_W} (hX : Ok SF X cL_law RL 16 mc ms) (hG : c0_G X = (D, cy, sa)) (hcy : c0_cy X = cy) (hnL : c0_nL X = 9) (hl : c0_l X = l) (hst : l.stackTraces = false) (hScr : Scr X b L9 xs) (hi : i + 4 ≤ L9) (hL9 : L9 ≤ 2048) (hF : FS cy f S wf) (hM : MS cy ma S t wm) (hA : AJ K S) (hK : K + 61 ≤ 100000) (hk : k0 + 23 ≤ mc) (hn : n0 + 3450 ≤ ms) (cont : ∀ (S1 : AS) (t1 : Nat) (fl1 : Nat → Int64) (fd1 : Nat → UInt64) (wf1 wm1 : va_W), FS cy f S1 wf1 → MS cy ma S1 t1 wm1 → AJ (K + 61) S1 → V X (k0 + 23) (n0 + 3450) (LW cy o od fl1 fd1 wf1 wm1) [some (.ref b), some (.ref f), some (.ref (ma 0)), some (.ref o), some (.ref od), some (.int (nI i)), none, none, none] [] 2780) : V X k0 n0 (LW cy o od fl fd wf wm) [some (.ref b), some (.ref f), some (.ref (ma 0)), some (.ref o), some (.ref od), some (.int (nI i)), none, none, none] [] 1114 := by
  have hv : Wf S.1 := hA.1.1.1.1
  have hInv : Inv K S.1 := hA.1.1.1
  have hbnd : S.1 0 3 < 2147483648 := by obtain ⟨wa, wm9, wb, ws9, wt, wc, -⟩ := hA.1.1.1.1; omega
  refine r_aload_n (pc' := 1115) hX dL_law_1114 rfl rfl ?_
  refine V_call (k' := k0) (n' := n0) (pc' := 1118) (wr := ([(o, .inl (cy 6, aL 1 fl)), (od, .inl (cy 7, aD 1 fd))] ++ wm)) hX (r_runV (As := []) hX dL_law_1115 k_L_216 (fun l9 hl9 => cF_step (v := S.1) rfl hF hA.1 ) hG (FS_recv hF) rfl rfl (Nat.le_of_ble_eq_true rfl) (by decide) (by decide) (by omega) (by omega)) (LW_f) (by omega) (by omega) rfl (fun w9 u75 hp9 => ?_)
  obtain ⟨ok9, rfl, hF1⟩ := hp9
  change V X k0 n0 (u75 ++ ([(o, .inl (cy 6, aL 1 fl)), (od, .inl (cy 7, aD 1 fd))] ++ wm)) [some (.ref b), some (.ref f), some (.ref (ma 0)), some (.ref o), some (.ref od), some (.int (nI i)), none, none, none] [.int (nI (S.1 0 3))] 1118
  refine V_perm (LW_f.symm) ?_
  refine r_aload_n (pc' := 1119) hX dL_law_1118 rfl rfl ?_
  refine V_call (k' := k0) (n' := n0) (pc' := 1122) (wr := ([(o, .inl (cy 6, aL 1 fl)), (od, .inl (cy 7, aD 1 fd))] ++ u75)) hX (r_runV (As := []) hX dL_law_1119 k_L_219 (fun l9 hl9 => cMw_step (v := S.1) rfl hM hv) hG (MS_recv hM) rfl rfl (Nat.le_of_ble_eq_true rfl) (by decide) (by decide) (by omega) (by omega)) (LW_m) (by omega) (by omega) rfl (fun w9 u76 hp9 => ?_)
  obtain ⟨rfl, hM1⟩ := hp9
  rw [mvl_nI (by obtain ⟨wa, wm9, wb, ws9, wt, wc, -⟩ := hA.1.1.1.1; omega)]
  change V X k0 n0 (u76 ++ ([(o, .inl (cy 6, aL 1 fl)), (od, .inl (cy 7, aD 1 fd))] ++ u75)) [some (.ref b), some (.ref f), some (.ref (ma 0)), some (.ref o), some (.ref od), some (.int (nI i)), none, none, none] [.int (nI (S.1 0 3)), .int (nI (S.1 0 3))] 1122
  refine V_perm (LW_m.symm) ?_
  refine r_icmp_eq_N (tgt := 2780) (pc' := 1125) hX dL_law_1122 (by decide) rfl (by have hvb := hbnd; omega) (by have hvb := hbnd; omega) (fun c1122 => ?_) (fun c1122 => ?_)
  · refine V_widen (k' := k0 + 23) (n' := n0 + 3450) (by omega) (by omega) ?_
    exact cont (S) _ _ _ _ _ hF1 hM1 (hA.mono (by omega))
  · exact absurd c1122 (by omega)

set_option maxRecDepth 20000 in
set_option maxHeartbeats 1000000 in
theorem lc_17 {X : xC} {l : Launch} {D : va_G} {cy : Nat → ClassId} {sa : Nat → Nat} {mc ms k0 n0 f o od b L9 i K t : Nat} {ma : Nat → Nat} {xs : Nat → Int32} {S : AS} {fl : Nat → Int64} {fd : Nat → UInt64} {wf wm : va_W} (hX : Ok SF X cL_law RL 16 mc ms) (hG : c0_G X = (D, cy, sa)) (hcy : c0_cy X = cy) (hnL : c0_nL X = 9) (hl : c0_l X = l) (hst : l.stackTraces = false) (hScr : Scr X b L9 xs) (hi : i + 4 ≤ L9) (hL9 : L9 ≤ 2048) (hF : FS cy f S wf) (hM : MS cy ma S t wm) (hA : AJ K S) (hK : K + 61 ≤ 100000) (hk : k0 + 23 ≤ mc) (hn : n0 + 3450 ≤ ms) (cont : ∀ (S1 : AS) (t1 : Nat) (fl1 : Nat → Int64) (fd1 : Nat → UInt64) (wf1 wm1 : va_W), FS cy f S1 wf1 → MS cy ma S1 t1 wm1 → AJ (K + 61) S1 → V X (k0 + 23) (n0 + 3450) (LW cy o od fl1 fd1 wf1 wm1) [some (.ref b), some (.ref f), some (.ref (ma 0)), some (.ref o), some (.ref od), some (.int (nI i)), none, none, none] [] 2780) : V X k0 n0 (LW cy o od fl fd wf wm) [some (.ref b), some (.ref f), some (.ref (ma 0)), some (.ref o), some (.ref od), some (.int (nI i)), none, none, none] [] 1127 := by
  have hv : Wf S.1 := hA.1.1.1.1
  have hInv : Inv K S.1 := hA.1.1.1
  have hbnd : S.1 0 4 < 2147483648 := by obtain ⟨wa, wm9, wb, ws9, wt, wc, -⟩ := hA.1.1.1.1; omega
  refine r_aload_n (pc' := 1128) hX dL_law_1127 rfl rfl ?_
  refine V_call (k' := k0) (n' := n0) (pc' := 1131) (wr := ([(o, .inl (cy 6, aL 1 fl)), (od, .inl (cy 7, aD 1 fd))] ++ wm)) hX (r_runV (As := []) hX dL_law_1128 k_L_220 (fun l9 hl9 => cF_batchCount (v := S.1) rfl hF hA.1 ) hG (FS_recv hF) rfl rfl (Nat.le_of_ble_eq_true rfl) (by decide) (by decide) (by omega) (by omega)) (LW_f) (by omega) (by omega) rfl (fun w9 u77 hp9 => ?_)
  obtain ⟨ok9, rfl, hF1⟩ := hp9
  change V X k0 n0 (u77 ++ ([(o, .inl (cy 6, aL 1 fl)), (od, .inl (cy 7, aD 1 fd))] ++ wm)) [some (.ref b), some (.ref f), some (.ref (ma 0)), some (.ref o), some (.ref od), some (.int (nI i)), none, none, none] [.int (nI (S.1 0 4))] 1131
  refine V_perm (LW_f.symm) ?_
  refine r_aload_n (pc' := 1132) hX dL_law_1131 rfl rfl ?_
  refine V_call (k' := k0) (n' := n0) (pc' := 1135) (wr := ([(o, .inl (cy 6, aL 1 fl)), (od, .inl (cy 7, aD 1 fd))] ++ u77)) hX (r_runV (As := []) hX dL_law_1132 k_L_223 (fun l9 hl9 => cMw_batchCount (v := S.1) rfl hM hv) hG (MS_recv hM) rfl rfl (Nat.le_of_ble_eq_true rfl) (by decide) (by decide) (by omega) (by omega)) (LW_m) (by omega) (by omega) rfl (fun w9 u78 hp9 => ?_)
  obtain ⟨rfl, hM1⟩ := hp9
  rw [mvl_nI (by obtain ⟨wa, wm9, wb, ws9, wt, wc, -⟩ := hA.1.1.1.1; omega)]
  change V X k0 n0 (u78 ++ ([(o, .inl (cy 6, aL 1 fl)), (od, .inl (cy 7, aD 1 fd))] ++ u77)) [some (.ref b), some (.ref f), some (.ref (ma 0)), some (.ref o), some (.ref od), some (.int (nI i)), none, none, none] [.int (nI (S.1 0 4)), .int (nI (S.1 0 4))] 1135
  refine V_perm (LW_m.symm) ?_
  refine r_icmp_eq_N (tgt := 2780) (pc' := 1138) hX dL_law_1135 (by decide) rfl (by have hvb := hbnd; omega) (by have hvb := hbnd; omega) (fun c1135 => ?_) (fun c1135 => ?_)
  · refine V_widen (k' := k0 + 23) (n' := n0 + 3450) (by omega) (by omega) ?_
    exact cont (S) _ _ _ _ _ hF1 hM1 (hA.mono (by omega))
  · exact absurd c1135 (by omega)

set_option maxRecDepth 20000 in
set_option maxHeartbeats 1000000 in
theorem lc_35 {X : xC} {l : Launch} {D : va_G} {cy : Nat → ClassId} {sa : Nat → Nat} {mc ms k0 n0 f o od b L9 i K t : Nat} {ma : Nat → Nat} {xs : Nat → Int32} {S : AS} {fl : Nat → Int64} {fd : Nat → UInt64} {wf wm : va_W} (hX : Ok SF X cL_law RL 16 mc ms) (hG : c0_G X = (D, cy, sa)) (hcy : c0_cy X = cy) (hnL : c0_nL X = 9) (hl : c0_l X = l) (hst : l.stackTraces = false) (hScr : Scr X b L9 xs) (hi : i + 4 ≤ L9) (hL9 : L9 ≤ 2048) (hF : FS cy f S wf) (hM : MS cy ma S t wm) (hA : AJ K S) (hK : K + 61 ≤ 100000) (hk : k0 + 23 ≤ mc) (hn : n0 + 3450 ≤ ms) (cont : ∀ (S1 : AS) (t1 : Nat) (fl1 : Nat → Int64) (fd1 : Nat → UInt64) (wf1 wm1 : va_W), FS cy f S1 wf1 → MS cy ma S1 t1 wm1 → AJ (K + 61) S1 → V X (k0 + 23) (n0 + 3450) (LW cy o od fl1 fd1 wf1 wm1) [some (.ref b), some (.ref f), some (.ref (ma 0)), some (.ref o), some (.ref od), some (.int (nI i)), none, none, none] [] 2780) : V X k0 n0 (LW cy o od fl fd wf wm) [some (.ref b), some (.ref f), some (.ref (ma 0)), some (.ref o), some (.ref od), some (.int (nI i)), none, none, none] [] 2125 := by
  have hv : Wf S.1 := hA.1.1.1.1
  have hInv : Inv K S.1 := hA.1.1.1
  have hbnd : S.1 0 6 < 2147483648 := by obtain ⟨wa, wm9, wb, ws9, wt, wc, -⟩ := hA.1.1.1.1; omega
  refine r_aload_n (pc' := 2126) hX dL_law_2125 rfl rfl ?_
  refine V_call (k' := k0) (n' := n0) (pc' := 2129) (wr := ([(o, .inl (cy 6, aL 1 fl)), (od, .inl (cy 7, aD 1 fd))] ++ wm)) hX (r_runV (As := []) hX dL_law_2126 k_L_275 (fun l9 hl9 => cF_castTotal (v := S.1) rfl hF hA.1 ) hG (FS_recv hF) rfl rfl (Nat.le_of_ble_eq_true rfl) (by decide) (by decide) (by omega) (by omega)) (LW_f) (by omega) (by omega) rfl (fun w9 u79 hp9 => ?_)
  obtain ⟨ok9, rfl, hF1⟩ := hp9
  change V X k0 n0 (u79 ++ ([(o, .inl (cy 6, aL 1 fl)), (od, .inl (cy 7, aD 1 fd))] ++ wm)) [some (.ref b), some (.ref f), some (.ref (ma 0)), some (.ref o), some (.ref od), some (.int (nI i)), none, none, none] [.int (nI (S.1 0 6))] 2129
  refine V_perm (LW_f.symm) ?_
  refine r_aload_n (pc' := 2130) hX dL_law_2129 rfl rfl ?_
  refine V_call (k' := k0) (n' := n0) (pc' := 2133) (wr := ([(o, .inl (cy 6, aL 1 fl)), (od, .inl (cy 7, aD 1 fd))] ++ u79)) hX (r_runV (As := []) hX dL_law_2130 k_L_278 (fun l9 hl9 => cMw_castTotal (v := S.1) rfl hM hv) hG (MS_recv hM) rfl rfl (Nat.le_of_ble_eq_true rfl) (by decide) (by decide) (by omega) (by omega)) (LW_m) (by omega) (by omega) rfl (fun w9 u80 hp9 => ?_)
  obtain ⟨rfl, hM1⟩ := hp9
  rw [mvl_nI (by obtain ⟨wa, wm9, wb, ws9, wt, wc, -⟩ := hA.1.1.1.1; omega)]
  change V X k0 n0 (u80 ++ ([(o, .inl (cy 6, aL 1 fl)), (od, .inl (cy 7, aD 1 fd))] ++ u79)) [some (.ref b), some (.ref f), some (.ref (ma 0)), some (.ref o), some (.ref od), some (.int (nI i)), none, none, none] [.int (nI (S.1 0 6)), .int (nI (S.1 0 6))] 2133
  refine V_perm (LW_m.symm) ?_
  refine r_icmp_eq_N (tgt := 2780) (pc' := 2136) hX dL_law_2133 (by decide) rfl (by have hvb := hbnd; omega) (by have hvb := hbnd; omega) (fun c2133 => ?_) (fun c2133 => ?_)
  · refine V_widen (k' := k0 + 23) (n' := n0 + 3450) (by omega) (by omega) ?_
    exact cont (S) _ _ _ _ _ hF1 hM1 (hA.mono (by omega))
  · exact absurd c2133 (by omega)

set_option maxRecDepth 20000 in
set_option maxHeartbeats 1000000 in
theorem lc_36 {X : xC} {l : Launch} {D : va_G} {cy : Nat → ClassId} {sa : Nat → Nat} {mc ms k0 n0 f o od b L9 i K t : Nat} {ma : Nat → Nat} {xs : Nat → Int32} {S : AS} {fl : Nat → Int64} {fd : Nat → UInt64} {wf wm : va_W} (hX : Ok SF X cL_law RL 16 mc ms) (hG : c0_G X = (D, cy, sa)) (hcy : c0_cy X = cy) (hnL : c0_nL X = 9) (hl : c0_l X = l) (hst : l.stackTraces = false) (hScr : Scr X b L9 xs) (hi : i + 4 ≤ L9) (hL9 : L9 ≤ 2048) (hF : FS cy f S wf) (hM : MS cy ma S t wm) (hA : AJ K S) (hK : K + 61 ≤ 100000) (hk : k0 + 23 ≤ mc) (hn : n0 + 3450 ≤ ms) (cont : ∀ (S1 : AS) (t1 : Nat) (fl1 : Nat → Int64) (fd1 : Nat → UInt64) (wf1 wm1 : va_W), FS cy f S1 wf1 → MS cy ma S1 t1 wm1 → AJ (K + 61) S1 → V X (k0 + 23) (n0 + 3450) (LW cy o od fl1 fd1 wf1 wm1) [some (.ref b), some (.ref f), some (.ref (ma 0)), some (.ref o), some (.ref od), some (.int (nI i)), none, none, none] [] 2780) : V X k0 n0 (LW cy o od fl fd wf wm) [some (.ref b), some (.ref f), some (.ref (ma 0)), some (.ref o), some (.ref od), some (.int (nI i)), none, none, none] [] 2138 := by
  have hv : Wf S.1 := hA.1.1.1.1
  have hInv : Inv K S.1 := hA.1.1.1
  have hbnd : S.1 0 7 < 2147483648 := by obtain ⟨wa, wm9, wb, ws9, wt, wc, -⟩ := hA.1.1.1.1; omega
  refine r_aload_n (pc' := 2139) hX dL_law_2138 rfl rfl ?_
  refine V_call (k' := k0) (n' := n0) (pc' := 2142) (wr := ([(o, .inl (cy 6, aL 1 fl)), (od, .inl (cy 7, aD 1 fd))] ++ wm)) hX (r_runV (As := []) hX dL_law_2139 k_L_279 (fun l9 hl9 => cF_soldTotal (v := S.1) rfl hF hA.1 ) hG (FS_recv hF) rfl rfl (Nat.le_of_ble_eq_true rfl) (by decide) (by decide) (by omega) (by omega)) (LW_f) (by omega) (by omega) rfl (fun w9 u81 hp9 => ?_)
  obtain ⟨ok9, rfl, hF1⟩ := hp9
  change V X k0 n0 (u81 ++ ([(o, .inl (cy 6, aL 1 fl)), (od, .inl (cy 7, aD 1 fd))] ++ wm)) [some (.ref b), some (.ref f), some (.ref (ma 0)), some (.ref o), some (.ref od), some (.int (nI i)), none, none, none] [.int (nI (S.1 0 7))] 2142
  refine V_perm (LW_f.symm) ?_
  refine r_aload_n (pc' := 2143) hX dL_law_2142 rfl rfl ?_
  refine V_call (k' := k0) (n' := n0) (pc' := 2146) (wr := ([(o, .inl (cy 6, aL 1 fl)), (od, .inl (cy 7, aD 1 fd))] ++ u81)) hX (r_runV (As := []) hX dL_law_2143 k_L_282 (fun l9 hl9 => cMw_soldTotal (v := S.1) rfl hM hv) hG (MS_recv hM) rfl rfl (Nat.le_of_ble_eq_true rfl) (by decide) (by decide) (by omega) (by omega)) (LW_m) (by omega) (by omega) rfl (fun w9 u82 hp9 => ?_)
  obtain ⟨rfl, hM1⟩ := hp9
  rw [mvl_nI (by obtain ⟨wa, wm9, wb, ws9, wt, wc, -⟩ := hA.1.1.1.1; omega)]
  change V X k0 n0 (u82 ++ ([(o, .inl (cy 6, aL 1 fl)), (od, .inl (cy 7, aD 1 fd))] ++ u81)) [some (.ref b), some (.ref f), some (.ref (ma 0)), some (.ref o), some (.ref od), some (.int (nI i)), none, none, none] [.int (nI (S.1 0 7)), .int (nI (S.1 0 7))] 2146
  refine V_perm (LW_m.symm) ?_
  refine r_icmp_eq_N (tgt := 2780) (pc' := 2149) hX dL_law_2146 (by decide) rfl (by have hvb := hbnd; omega) (by have hvb := hbnd; omega) (fun c2146 => ?_) (fun c2146 => ?_)
  · refine V_widen (k' := k0 + 23) (n' := n0 + 3450) (by omega) (by omega) ?_
    exact cont (S) _ _ _ _ _ hF1 hM1 (hA.mono (by omega))
  · exact absurd c2146 (by omega)

set_option maxRecDepth 20000 in
set_option maxHeartbeats 1000000 in
theorem lc_37 {X : xC} {l : Launch} {D : va_G} {cy : Nat → ClassId} {sa : Nat → Nat} {mc ms k0 n0 f o od b L9 i K t : Nat} {ma : Nat → Nat} {xs : Nat → Int32} {S : AS} {fl : Nat → Int64} {fd : Nat → UInt64} {wf wm : va_W} (hX : Ok SF X cL_law RL 16 mc ms) (hG : c0_G X = (D, cy, sa)) (hcy : c0_cy X = cy) (hnL : c0_nL X = 9) (hl : c0_l X = l) (hst : l.stackTraces = false) (hScr : Scr X b L9 xs) (hi : i + 4 ≤ L9) (hL9 : L9 ≤ 2048) (hF : FS cy f S wf) (hM : MS cy ma S t wm) (hA : AJ K S) (hK : K + 61 ≤ 100000) (hk : k0 + 23 ≤ mc) (hn : n0 + 3450 ≤ ms) (cont : ∀ (S1 : AS) (t1 : Nat) (fl1 : Nat → Int64) (fd1 : Nat → UInt64) (wf1 wm1 : va_W), FS cy f S1 wf1 → MS cy ma S1 t1 wm1 → AJ (K + 61) S1 → V X (k0 + 23) (n0 + 3450) (LW cy o od fl1 fd1 wf1 wm1) [some (.ref b), some (.ref f), some (.ref (ma 0)), some (.ref o), some (.ref od), some (.int (nI i)), none, none, none] [] 2780) : V X k0 n0 (LW cy o od fl fd wf wm) [some (.ref b), some (.ref f), some (.ref (ma 0)), some (.ref o), some (.ref od), some (.int (nI i)), none, none, none] [] 2151 := by
  have hv : Wf S.1 := hA.1.1.1.1
  have hInv : Inv K S.1 := hA.1.1.1
  have hbnd : S.1 0 8 < 2147483648 := by obtain ⟨wa, wm9, wb, ws9, wt, wc, -⟩ := hA.1.1.1.1; omega
  refine r_aload_n (pc' := 2152) hX dL_law_2151 rfl rfl ?_
  refine V_call (k' := k0) (n' := n0) (pc' := 2155) (wr := ([(o, .inl (cy 6, aL 1 fl)), (od, .inl (cy 7, aD 1 fd))] ++ wm)) hX (r_runV (As := []) hX dL_law_2152 k_L_283 (fun l9 hl9 => cF_meltedTotal (v := S.1) rfl hF hA.1 ) hG (FS_recv hF) rfl rfl (Nat.le_of_ble_eq_true rfl) (by decide) (by decide) (by omega) (by omega)) (LW_f) (by omega) (by omega) rfl (fun w9 u83 hp9 => ?_)
  obtain ⟨ok9, rfl, hF1⟩ := hp9
  change V X k0 n0 (u83 ++ ([(o, .inl (cy 6, aL 1 fl)), (od, .inl (cy 7, aD 1 fd))] ++ wm)) [some (.ref b), some (.ref f), some (.ref (ma 0)), some (.ref o), some (.ref od), some (.int (nI i)), none, none, none] [.int (nI (S.1 0 8))] 2155
  refine V_perm (LW_f.symm) ?_
  refine r_aload_n (pc' := 2156) hX dL_law_2155 rfl rfl ?_
  refine V_call (k' := k0) (n' := n0) (pc' := 2159) (wr := ([(o, .inl (cy 6, aL 1 fl)), (od, .inl (cy 7, aD 1 fd))] ++ u83)) hX (r_runV (As := []) hX dL_law_2156 k_L_286 (fun l9 hl9 => cMw_meltedTotal (v := S.1) rfl hM hv) hG (MS_recv hM) rfl rfl (Nat.le_of_ble_eq_true rfl) (by decide) (by decide) (by omega) (by omega)) (LW_m) (by omega) (by omega) rfl (fun w9 u84 hp9 => ?_)
  obtain ⟨rfl, hM1⟩ := hp9
  rw [mvl_nI (by obtain ⟨wa, wm9, wb, ws9, wt, wc, -⟩ := hA.1.1.1.1; omega)]
  change V X k0 n0 (u84 ++ ([(o, .inl (cy 6, aL 1 fl)), (od, .inl (cy 7, aD 1 fd))] ++ u83)) [some (.ref b), some (.ref f), some (.ref (ma 0)), some (.ref o), some (.ref od), some (.int (nI i)), none, none, none] [.int (nI (S.1 0 8)), .int (nI (S.1 0 8))] 2159
  refine V_perm (LW_m.symm) ?_
  refine r_icmp_eq_N (tgt := 2780) (pc' := 2162) hX dL_law_2159 (by decide) rfl (by have hvb := hbnd; omega) (by have hvb := hbnd; omega) (fun c2159 => ?_) (fun c2159 => ?_)
  · refine V_widen (k' := k0 + 23) (n' := n0 + 3450) (by omega) (by omega) ?_
    exact cont (S) _ _ _ _ _ hF1 hM1 (hA.mono (by omega))
  · exact absurd c2159 (by omega)

set_option maxRecDepth 20000 in
set_option maxHeartbeats 1000000 in
theorem lc_41 {X : xC} {l : Launch} {D : va_G} {cy : Nat → ClassId} {sa : Nat → Nat} {mc ms k0 n0 f o od b L9 i K t : Nat} {ma : Nat → Nat} {xs : Nat → Int32} {S : AS} {fl : Nat → Int64} {fd : Nat → UInt64} {wf wm : va_W} (hX : Ok SF X cL_law RL 16 mc ms) (hG : c0_G X = (D, cy, sa)) (hcy : c0_cy X = cy) (hnL : c0_nL X = 9) (hl : c0_l X = l) (hst : l.stackTraces = false) (hScr : Scr X b L9 xs) (hi : i + 4 ≤ L9) (hL9 : L9 ≤ 2048) (hF : FS cy f S wf) (hM : MS cy ma S t wm) (hA : AJ K S) (hK : K + 61 ≤ 100000) (hk : k0 + 23 ≤ mc) (hn : n0 + 3450 ≤ ms) (cont : ∀ (S1 : AS) (t1 : Nat) (fl1 : Nat → Int64) (fd1 : Nat → UInt64) (wf1 wm1 : va_W), FS cy f S1 wf1 → MS cy ma S1 t1 wm1 → AJ (K + 61) S1 → V X (k0 + 23) (n0 + 3450) (LW cy o od fl1 fd1 wf1 wm1) [some (.ref b), some (.ref f), some (.ref (ma 0)), some (.ref o), some (.ref od), some (.int (nI i)), none, none, none] [] 2780) : V X k0 n0 (LW cy o od fl fd wf wm) [some (.ref b), some (.ref f), some (.ref (ma 0)), some (.ref o), some (.ref od), some (.int (nI i)), none, none, none] [] 2351 := by
  have hv : Wf S.1 := hA.1.1.1.1
  have hInv : Inv K S.1 := hA.1.1.1
  have hbnd : 1 < 2147483648 := by decide
  refine r_aload_n (pc' := 2352) hX dL_law_2351 rfl rfl ?_
  refine V_call (k' := k0) (n' := n0) (pc' := 2355) (wr := ([(o, .inl (cy 6, aL 1 fl)), (od, .inl (cy 7, aD 1 fd))] ++ wm)) hX (r_runV (As := []) hX dL_law_2352 k_L_297 (fun l9 hl9 => cF_isConsistent (v := S.1) rfl hF hA.1 ) hG (FS_recv hF) rfl rfl (Nat.le_of_ble_eq_true rfl) (by decide) (by decide) (by omega) (by omega)) (LW_f) (by omega) (by omega) rfl (fun w9 u85 hp9 => ?_)
  obtain ⟨rfl, hF1⟩ := hp9
  change V X k0 n0 (u85 ++ ([(o, .inl (cy 6, aL 1 fl)), (od, .inl (cy 7, aD 1 fd))] ++ wm)) [some (.ref b), some (.ref f), some (.ref (ma 0)), some (.ref o), some (.ref od), some (.int (nI i)), none, none, none] [.int (nI 1)] 2355
  refine V_perm (LW_f.symm) ?_
  refine r_aload_n (pc' := 2356) hX dL_law_2355 rfl rfl ?_
  refine V_call (k' := k0) (n' := n0) (pc' := 2359) (wr := ([(o, .inl (cy 6, aL 1 fl)), (od, .inl (cy 7, aD 1 fd))] ++ u85)) hX (r_runV (As := []) hX dL_law_2356 k_L_301 (fun l9 hl9 => cMw_isConsistent (v := S.1) rfl hM hv) hG (MS_recv hM) rfl rfl (Nat.le_of_ble_eq_true rfl) (by decide) (by decide) (by omega) (by omega)) (LW_m) (by omega) (by omega) rfl (fun w9 u86 hp9 => ?_)
  obtain ⟨rfl, hM1⟩ := hp9
  change V X k0 n0 (u86 ++ ([(o, .inl (cy 6, aL 1 fl)), (od, .inl (cy 7, aD 1 fd))] ++ u85)) [some (.ref b), some (.ref f), some (.ref (ma 0)), some (.ref o), some (.ref od), some (.int (nI i)), none, none, none] [.int (nI 1), .int (nI 1)] 2359
  refine V_perm (LW_m.symm) ?_
  refine r_icmp_eq_N (tgt := 2780) (pc' := 2362) hX dL_law_2359 (by decide) rfl (by have hvb := hbnd; omega) (by have hvb := hbnd; omega) (fun c2359 => ?_) (fun c2359 => ?_)
  · refine V_widen (k' := k0 + 23) (n' := n0 + 3450) (by omega) (by omega) ?_
    exact cont (S) _ _ _ _ _ hF1 hM1 (hA.mono (by omega))
  · exact absurd c2359 (by omega)

set_option maxRecDepth 20000 in
set_option maxHeartbeats 1000000 in
theorem lc_43 {X : xC} {l : Launch} {D : va_G} {cy : Nat → ClassId} {sa : Nat → Nat} {mc ms k0 n0 f o od b L9 i K t : Nat} {ma : Nat → Nat} {xs : Nat → Int32} {S : AS} {fl : Nat → Int64} {fd : Nat → UInt64} {wf wm : va_W} (hX : Ok SF X cL_law RL 16 mc ms) (hG : c0_G X = (D, cy, sa)) (hcy : c0_cy X = cy) (hnL : c0_nL X = 9) (hl : c0_l X = l) (hst : l.stackTraces = false) (hScr : Scr X b L9 xs) (hi : i + 4 ≤ L9) (hL9 : L9 ≤ 2048) (hF : FS cy f S wf) (hM : MS cy ma S t wm) (hA : AJ K S) (hK : K + 61 ≤ 100000) (hk : k0 + 23 ≤ mc) (hn : n0 + 3450 ≤ ms) (cont : ∀ (S1 : AS) (t1 : Nat) (fl1 : Nat → Int64) (fd1 : Nat → UInt64) (wf1 wm1 : va_W), FS cy f S1 wf1 → MS cy ma S1 t1 wm1 → AJ (K + 61) S1 → V X (k0 + 23) (n0 + 3450) (LW cy o od fl1 fd1 wf1 wm1) [some (.ref b), some (.ref f), some (.ref (ma 0)), some (.ref o), some (.ref od), some (.int (nI i)), none, none, none] [] 2780) : V X k0 n0 (LW cy o od fl fd wf wm) [some (.ref b), some (.ref f), some (.ref (ma 0)), some (.ref o), some (.ref od), some (.int (nI i)), none, none, none] [] 2420 := by
  have hv : Wf S.1 := hA.1.1.1.1
  have hInv : Inv K S.1 := hA.1.1.1
  have hbnd : (stT S.1 (S.1 0 1)).length < 2147483648 := Nat.lt_of_le_of_lt (MS_len_st hv) (by decide)
  refine r_aload_n (pc' := 2421) hX dL_law_2420 rfl rfl ?_
  refine V_call (k' := k0 + 23) (n' := n0 + 3450) (pc' := 2424) (wr := ([(o, .inl (cy 6, aL 1 fl)), (od, .inl (cy 7, aD 1 fd))] ++ wm)) hX (r_runV (As := []) hX dL_law_2421 k_L_305 (fun l9 hl9 => cF_renderStore (v := S.1) rfl hF hA.1 ) hG (FS_recv hF) rfl rfl (Nat.le_of_ble_eq_true rfl) (by decide) (by decide) (by omega) (by omega)) (LW_f) (by omega) (by omega) rfl (fun w9 u87 hp9 => ?_)
  obtain ⟨rfl, hF1⟩ := hp9
  change V X (k0 + 23) (n0 + 3450) (u87 ++ ([(o, .inl (cy 6, aL 1 fl)), (od, .inl (cy 7, aD 1 fd))] ++ wm)) [some (.ref b), some (.ref f), some (.ref (ma 0)), some (.ref o), some (.ref od), some (.int (nI i)), none, none, none] [.int (nI ((stT S.1 (S.1 0 1)).length))] 2424
  refine V_perm (LW_f.symm) ?_
  refine r_aload_n (pc' := 2425) hX dL_law_2424 rfl rfl ?_
  refine V_call (k' := k0 + 23) (n' := n0 + 3450) (pc' := 2428) (wr := ([(o, .inl (cy 6, aL 1 fl)), (od, .inl (cy 7, aD 1 fd))] ++ u87)) hX (r_runV (As := []) hX dL_law_2425 k_L_308 (fun l9 hl9 => cMw_renderStore (v := S.1) rfl hM hv) hG (MS_recv hM) rfl rfl (Nat.le_of_ble_eq_true rfl) (by decide) (by decide) (by omega) (by omega)) (LW_m) (by omega) (by omega) rfl (fun w9 u88 hp9 => ?_)
  obtain ⟨rfl, hM1⟩ := hp9
  change V X (k0 + 23) (n0 + 3450) (u88 ++ ([(o, .inl (cy 6, aL 1 fl)), (od, .inl (cy 7, aD 1 fd))] ++ u87)) [some (.ref b), some (.ref f), some (.ref (ma 0)), some (.ref o), some (.ref od), some (.int (nI i)), none, none, none] [.int (nI ((stT S.1 (S.1 0 1)).length)), .int (nI ((stT S.1 (S.1 0 1)).length))] 2428
  refine V_perm (LW_m.symm) ?_
  refine r_icmp_eq_N (tgt := 2780) (pc' := 2431) hX dL_law_2428 (by decide) rfl (by have hvb := hbnd; omega) (by have hvb := hbnd; omega) (fun c2428 => ?_) (fun c2428 => ?_)
  · refine V_widen (k' := k0 + 23) (n' := n0 + 3450) (by omega) (by omega) ?_
    exact cont (aOut S (stT S.1 (S.1 0 1))) _ _ _ _ _ hF1 hM1 ((hA.st (i := S.1 0 1)).mono (by omega))
  · exact absurd c2428 (by omega)

set_option maxRecDepth 20000 in
set_option maxHeartbeats 1000000 in
theorem lc_50 {X : xC} {l : Launch} {D : va_G} {cy : Nat → ClassId} {sa : Nat → Nat} {mc ms k0 n0 f o od b L9 i K t : Nat} {ma : Nat → Nat} {xs : Nat → Int32} {S : AS} {fl : Nat → Int64} {fd : Nat → UInt64} {wf wm : va_W} (hX : Ok SF X cL_law RL 16 mc ms) (hG : c0_G X = (D, cy, sa)) (hcy : c0_cy X = cy) (hnL : c0_nL X = 9) (hl : c0_l X = l) (hst : l.stackTraces = false) (hScr : Scr X b L9 xs) (hi : i + 4 ≤ L9) (hL9 : L9 ≤ 2048) (hF : FS cy f S wf) (hM : MS cy ma S t wm) (hA : AJ K S) (hK : K + 61 ≤ 100000) (hk : k0 + 23 ≤ mc) (hn : n0 + 3450 ≤ ms) (cont : ∀ (S1 : AS) (t1 : Nat) (fl1 : Nat → Int64) (fd1 : Nat → UInt64) (wf1 wm1 : va_W), FS cy f S1 wf1 → MS cy ma S1 t1 wm1 → AJ (K + 61) S1 → V X (k0 + 23) (n0 + 3450) (LW cy o od fl1 fd1 wf1 wm1) [some (.ref b), some (.ref f), some (.ref (ma 0)), some (.ref o), some (.ref od), some (.int (nI i)), none, none, none] [] 2780) : V X k0 n0 (LW cy o od fl fd wf wm) [some (.ref b), some (.ref f), some (.ref (ma 0)), some (.ref o), some (.ref od), some (.int (nI i)), none, none, none] [] 2723 := by
  have hv : Wf S.1 := hA.1.1.1.1
  have hInv : Inv K S.1 := hA.1.1.1
  have hbnd : S.1 0 4 < 2147483648 := by obtain ⟨wa, wm9, wb, ws9, wt, wc, -⟩ := hA.1.1.1.1; omega
  refine r_aload_n (pc' := 2724) hX dL_law_2723 rfl rfl ?_
  refine V_call (k' := k0) (n' := n0) (pc' := 2727) (wr := ([(o, .inl (cy 6, aL 1 fl)), (od, .inl (cy 7, aD 1 fd))] ++ wm)) hX (r_runV (As := []) hX dL_law_2724 k_L_329 (fun l9 hl9 => cF_save (v := S.1) rfl hF hA.1 ) hG (FS_recv hF) rfl rfl (Nat.le_of_ble_eq_true rfl) (by decide) (by decide) (by omega) (by omega)) (LW_f) (by omega) (by omega) rfl (fun w9 u89 hp9 => ?_)
  obtain ⟨rfl, hF1⟩ := hp9
  change V X k0 n0 (u89 ++ ([(o, .inl (cy 6, aL 1 fl)), (od, .inl (cy 7, aD 1 fd))] ++ wm)) [some (.ref b), some (.ref f), some (.ref (ma 0)), some (.ref o), some (.ref od), some (.int (nI i)), none, none, none] [.int (nI (S.1 0 4))] 2727
  refine V_perm (LW_f.symm) ?_
  refine r_aload_n (pc' := 2728) hX dL_law_2727 rfl rfl ?_
  refine V_call (k' := k0) (n' := n0) (pc' := 2731) (wr := ([(o, .inl (cy 6, aL 1 fl)), (od, .inl (cy 7, aD 1 fd))] ++ u89)) hX (r_runV (As := []) hX dL_law_2728 k_L_332 (fun l9 hl9 => cMw_save (v := S.1) rfl hM hv) hG (MS_recv hM) rfl rfl (Nat.le_of_ble_eq_true rfl) (by decide) (by decide) (by omega) (by omega)) (LW_m) (by omega) (by omega) rfl (fun w9 u90 hp9 => ?_)
  obtain ⟨rfl, hM1⟩ := hp9
  rw [mvl_nI (by obtain ⟨wa, wm9, wb, ws9, wt, wc, -⟩ := hA.1.1.1.1; omega)]
  change V X k0 n0 (u90 ++ ([(o, .inl (cy 6, aL 1 fl)), (od, .inl (cy 7, aD 1 fd))] ++ u89)) [some (.ref b), some (.ref f), some (.ref (ma 0)), some (.ref o), some (.ref od), some (.int (nI i)), none, none, none] [.int (nI (S.1 0 4)), .int (nI (S.1 0 4))] 2731
  refine V_perm (LW_m.symm) ?_
  refine r_icmp_eq_N (tgt := 2780) (pc' := 2734) hX dL_law_2731 (by decide) rfl (by have hvb := hbnd; omega) (by have hvb := hbnd; omega) (fun c2731 => ?_) (fun c2731 => ?_)
  · refine V_widen (k' := k0 + 23) (n' := n0 + 3450) (by omega) (by omega) ?_
    exact cont (aSave S) _ _ _ _ _ hF1 hM1 (hA.save.mono (by omega))
  · exact absurd c2731 (by omega)
