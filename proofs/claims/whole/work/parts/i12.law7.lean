theorem cmp0 {a : UInt64} (h : vf_n64 a) : Op.cmpValue (FP.dcmp a a) .l = nI 0 := by
  have h1 : a.toNat % 2 ^ 63 ≤ 9218868437227405312 := by
    have h2 : (a &&& 0x7fffffffffffffff).toNat ≤ (0x7ff0000000000000 : UInt64).toNat := UInt64.le_iff_toNat_le.mp h
    rw [UInt64.toNat_and] at h2
    have h3 : (0x7fffffffffffffff : UInt64).toNat = 2 ^ 63 - 1 := by decide
    rw [h3, Nat.and_two_pow_sub_one_eq_mod] at h2
    exact h2
  have h4 : FP.dcmp a a = some .eq := Jvm.FP.Core.dcmp_self ((Jvm.FP.Core.ne_nan a).mpr h1)
  rw [h4]
  rfl
theorem mean_num {v : SV} (h : ¬ sumT (fun i => v (13 + i) 2) (v 0 4) = 0) (hb : sumT (fun i => v (13 + i) 2) (v 0 4) < 1000000) : vf_n64 (qMean v) := by
  unfold qMean
  rw [if_neg h]
  exact nn64 (nI_ne0 (by omega) (by omega))
set_option maxRecDepth 20000 in
set_option maxHeartbeats 1000000 in
theorem lc_39 {X : xC} {l : Launch} {D : va_G} {cy : Nat → ClassId} {sa : Nat → Nat} {mc ms k0 n0 f o od b L9 i K t : Nat} {ma : Nat → Nat} {xs : Nat → Int32} {S : AS} {fl : Nat → Int64} {fd : Nat → UInt64} {wf wm : va_W} (hX : Ok SF X cL_law RL 16 mc ms) (hG : c0_G X = (D, cy, sa)) (hcy : c0_cy X = cy) (hnL : c0_nL X = 9) (hl : c0_l X = l) (hst : l.stackTraces = false) (hScr : Scr X b L9 xs) (hi : i + 4 ≤ L9) (hL9 : L9 ≤ 2048) (hF : FS cy f S wf) (hM : MS cy ma S t wm) (hA : AJ K S) (hK : K + 61 ≤ 100000) (hk : k0 + 23 ≤ mc) (hn : n0 + 3450 ≤ ms) (cont : ∀ (S1 : AS) (t1 : Nat) (fl1 : Nat → Int64) (fd1 : Nat → UInt64) (wf1 wm1 : va_W), FS cy f S1 wf1 → MS cy ma S1 t1 wm1 → AJ (K + 61) S1 → V X (k0 + 23) (n0 + 3450) (LW cy o od fl1 fd1 wf1 wm1) [some (.ref b), some (.ref f), some (.ref (ma 0)), some (.ref o), some (.ref od), some (.int (nI i)), none, none, none] [] 2780) : V X k0 n0 (LW cy o od fl fd wf wm) [some (.ref b), some (.ref f), some (.ref (ma 0)), some (.ref o), some (.ref od), some (.int (nI i)), none, none, none] [] 2220 := by
  have hv : Wf S.1 := hA.1.1.1.1
  have hInv : Inv K S.1 := hA.1.1.1
  have hsz : S.1 0 6 = S.1 0 7 + S.1 0 8 + sumT (fun i => S.1 (13 + i) 2) (S.1 0 4) := hInv.2.2.2.1
  have hc6 := hv.2.2.2.2.2.1.2.1
  refine r_aload_n (pc' := 2221) hX dL_law_2220 rfl rfl ?_
  refine r_aload (pc' := 2223) hX dL_law_2221 rfl rfl ?_
  refine V_call (k' := k0 + 1) (n' := n0 + 6) (pc' := 2226) (wr := ([(o, .inl (cy 6, aL 1 fl))] ++ wm)) hX (r_runSW (As := [.ref f, .ref od]) hX dL_law_2223 kw_L_290 (fun l9 hl9 => by cases hl9; exact cW_meanSqueak (v := S.1) rfl hF hA.1 (hst := (by rw [hl]; exact hst))) hG rfl rfl (Nat.le_of_ble_eq_true rfl) (by decide) (by decide) (by omega) (by omega)) (LW_d) (by omega) (by omega) rfl (fun w9 u9 hp9 => ?_)
  obtain ⟨fd1, ws1, rfl, rfl, hF1, hP1⟩ := hp9
  change V X (k0 + 1) (n0 + 6) (([(od, .inl (cy 7, aD 1 fd1))] ++ ws1) ++ ([(o, .inl (cy 6, aL 1 fl))] ++ wm)) [some (.ref b), some (.ref f), some (.ref (ma 0)), some (.ref o), some (.ref od), some (.int (nI i)), none, none, none] [.int (nI (if sumT (fun i => S.1 (13 + i) 2) (S.1 0 4) = 0 then 1 else 0))] 2226
  refine V_perm (LW_d.symm) ?_
  refine r_istore (L' := [some (.ref b), some (.ref f), some (.ref (ma 0)), some (.ref o), some (.ref od), some (.int (nI i)), some (.int (nI (if sumT (fun i => S.1 (13 + i) 2) (S.1 0 4) = 0 then 1 else 0))), none, none]) (pc' := 2228) hX dL_law_2226 (nlt hnL (by decide)) rfl rfl rfl ?_
  refine r_aload_n (pc' := 2229) hX dL_law_2228 rfl rfl ?_
  refine V_call (k' := k0 + 1) (n' := n0 + 6) (pc' := 2232) (wr := ([(o, .inl (cy 6, aL 1 fl)), (od, .inl (cy 7, aD 1 fd1))] ++ ws1)) hX (r_runV (As := []) hX dL_law_2229 k_L_293 (fun l9 hl9 => cMw_meanSqueak (v := S.1) rfl hM hv) hG (MS_recv hM) rfl rfl (Nat.le_of_ble_eq_true rfl) (by decide) (by decide) (by omega) (by omega)) (LW_m) (by omega) (by omega) rfl (fun w9 u101 hp9 => ?_)
  obtain ⟨rfl, hu101⟩ := hp9
  change V X (k0 + 1) (n0 + 6) (u101 ++ ([(o, .inl (cy 6, aL 1 fl)), (od, .inl (cy 7, aD 1 fd1))] ++ ws1)) [some (.ref b), some (.ref f), some (.ref (ma 0)), some (.ref o), some (.ref od), some (.int (nI i)), some (.int (nI (if sumT (fun i => S.1 (13 + i) 2) (S.1 0 4) = 0 then 1 else 0))), none, none] [.double (qMean S.1)] 2232
  refine V_perm (LW_m.symm) ?_
  refine r_dstore (L' := [some (.ref b), some (.ref f), some (.ref (ma 0)), some (.ref o), some (.ref od), some (.int (nI i)), some (.int (nI (if sumT (fun i => S.1 (13 + i) 2) (S.1 0 4) = 0 then 1 else 0))), some (.double (qMean S.1)), none]) (pc' := 2234) hX dL_law_2232 (nlt hnL (by decide)) rfl rfl rfl ?_
  refine r_aload_n (pc' := 2235) hX dL_law_2234 rfl rfl ?_
  refine V_call (k' := k0 + 1) (n' := n0 + 6) (pc' := 2238) (wr := ([(o, .inl (cy 6, aL 1 fl)), (od, .inl (cy 7, aD 1 fd1))] ++ ws1)) hX (r_runV (As := []) hX dL_law_2235 k_L_163 (fun l9 hl9 => cMw_thrown hu101) hG (MS_recv hu101) rfl rfl (Nat.le_of_ble_eq_true rfl) (by decide) (by decide) (by omega) (by omega)) (LW_m) (by omega) (by omega) rfl (fun w9 u102 hp9 => ?_)
  obtain ⟨rfl, hu102⟩ := hp9
  change V X (k0 + 1) (n0 + 6) (u102 ++ ([(o, .inl (cy 6, aL 1 fl)), (od, .inl (cy 7, aD 1 fd1))] ++ ws1)) [some (.ref b), some (.ref f), some (.ref (ma 0)), some (.ref o), some (.ref od), some (.int (nI i)), some (.int (nI (if sumT (fun i => S.1 (13 + i) 2) (S.1 0 4) = 0 then 1 else 0))), some (.double (qMean S.1)), none] [.int (nI (if sumT (fun i => S.1 (13 + i) 2) (S.1 0 4) = 0 then 1 else 0))] 2238
  refine V_perm (LW_m.symm) ?_
  refine r_iload (pc' := 2240) hX dL_law_2238 rfl rfl ?_
  have hkd : (if sumT (fun i => S.1 (13 + i) 2) (S.1 0 4) = 0 then 1 else 0) < 100 := by split <;> decide
  refine r_icmp_eq_N (tgt := 2245) (pc' := 2243) hX dL_law_2240 (by decide) rfl (by omega) (by omega) (fun c2240 => ?_) (fun c2240 => ?_)
  · refine r_iload (pc' := 2247) hX dL_law_2245 rfl rfl ?_
    refine r_if_ne_N (tgt := 2282) (pc' := 2250) hX dL_law_2247 (by decide) rfl (by omega) (fun c2247 => ?_) (fun c2247 => ?_)
    · refine r_goto (tgt := 2780) hX dL_law_2282 (by decide) ?_
      refine V_loc (L' := [some (.ref b), some (.ref f), some (.ref (ma 0)), some (.ref o), some (.ref od), some (.int (nI i)), none, none, none]) (lo_w ⟨.inr rfl, .inr rfl, .inr rfl, .inr rfl, .inr rfl, .inr rfl, .inl rfl, .inl rfl, .inr rfl, trivial⟩) ?_
      refine V_widen (k' := k0 + 23) (n' := n0 + 3450) (by omega) (by omega) ?_
      exact cont S _ _ _ _ _ hF1 hu102 (hA.mono (by omega))
    · have hnz : ¬ (sumT (fun i => S.1 (13 + i) 2) (S.1 0 4) = 0) := fun h9 => by rw [if_pos h9] at c2247; exact absurd c2247 (by decide)
      have hfd := hP1 hnz
      refine r_aload (pc' := 2252) hX dL_law_2250 rfl rfl ?_
      refine r_iconst (pc' := 2253) (v := nI 0) hX dL_law_2252 rfl rfl ?_
      refine r_dald (pc' := 2254) hX dL_law_2253 (by rw [hcy]) 1 rfl rfl ?_
      rw [hfd]
      change V X (k0 + 1) (n0 + 6) (LW cy o od fl fd1 ws1 u102) [some (.ref b), some (.ref f), some (.ref (ma 0)), some (.ref o), some (.ref od), some (.int (nI i)), some (.int (nI (if sumT (fun i => S.1 (13 + i) 2) (S.1 0 4) = 0 then 1 else 0))), some (.double (qMean S.1)), none] [.double (qMean S.1)] 2254
      refine r_dload (pc' := 2256) hX dL_law_2254 rfl rfl ?_
      refine r_dcmp (pc' := 2257) hX dL_law_2256 rfl ?_
      rw [cmp0 (mean_num hnz (by omega))]
      refine r_if_eq_N (tgt := 2282) (pc' := 2260) hX dL_law_2257 (by decide) rfl (by omega) (fun c2257 => ?_) (fun c2257 => ?_)
      · refine r_goto (tgt := 2780) hX dL_law_2282 (by decide) ?_
        refine V_loc (L' := [some (.ref b), some (.ref f), some (.ref (ma 0)), some (.ref o), some (.ref od), some (.int (nI i)), none, none, none]) (lo_w ⟨.inr rfl, .inr rfl, .inr rfl, .inr rfl, .inr rfl, .inr rfl, .inl rfl, .inl rfl, .inr rfl, trivial⟩) ?_
        refine V_widen (k' := k0 + 23) (n' := n0 + 3450) (by omega) (by omega) ?_
        exact cont S _ _ _ _ _ hF1 hu102 (hA.mono (by omega))
      · exact absurd c2257 (by omega)
  · exact absurd c2240 (by omega)

set_option maxRecDepth 20000 in
set_option maxHeartbeats 1000000 in
theorem lc_40 {X : xC} {l : Launch} {D : va_G} {cy : Nat → ClassId} {sa : Nat → Nat} {mc ms k0 n0 f o od b L9 i K t : Nat} {ma : Nat → Nat} {xs : Nat → Int32} {S : AS} {fl : Nat → Int64} {fd : Nat → UInt64} {wf wm : va_W} (hX : Ok SF X cL_law RL 16 mc ms) (hG : c0_G X = (D, cy, sa)) (hcy : c0_cy X = cy) (hnL : c0_nL X = 9) (hl : c0_l X = l) (hst : l.stackTraces = false) (hScr : Scr X b L9 xs) (hi : i + 4 ≤ L9) (hL9 : L9 ≤ 2048) (hF : FS cy f S wf) (hM : MS cy ma S t wm) (hA : AJ K S) (hK : K + 61 ≤ 100000) (hk : k0 + 23 ≤ mc) (hn : n0 + 3450 ≤ ms) (cont : ∀ (S1 : AS) (t1 : Nat) (fl1 : Nat → Int64) (fd1 : Nat → UInt64) (wf1 wm1 : va_W), FS cy f S1 wf1 → MS cy ma S1 t1 wm1 → AJ (K + 61) S1 → V X (k0 + 23) (n0 + 3450) (LW cy o od fl1 fd1 wf1 wm1) [some (.ref b), some (.ref f), some (.ref (ma 0)), some (.ref o), some (.ref od), some (.int (nI i)), none, none, none] [] 2780) : V X k0 n0 (LW cy o od fl fd wf wm) [some (.ref b), some (.ref f), some (.ref (ma 0)), some (.ref o), some (.ref od), some (.int (nI i)), none, none, none] [] 2285 := by
  have hv : Wf S.1 := hA.1.1.1.1
  have hInv : Inv K S.1 := hA.1.1.1
  have hsz : S.1 0 6 = S.1 0 7 + S.1 0 8 + sumT (fun i => S.1 (13 + i) 2) (S.1 0 4) := hInv.2.2.2.1
  have hc6 := hv.2.2.2.2.2.1.2.1
  refine r_aload_n (pc' := 2286) hX dL_law_2285 rfl rfl ?_
  refine r_aload (pc' := 2288) hX dL_law_2286 rfl rfl ?_
  refine V_call (k' := k0 + 1) (n' := n0 + 6) (pc' := 2291) (wr := ([(o, .inl (cy 6, aL 1 fl))] ++ wm)) hX (r_runSW (As := [.ref f, .ref od]) hX dL_law_2288 kw_L_294 (fun l9 hl9 => by cases hl9; exact cW_soldShare (v := S.1) rfl hF hA.1 (hst := (by rw [hl]; exact hst))) hG rfl rfl (Nat.le_of_ble_eq_true rfl) (by decide) (by decide) (by omega) (by omega)) (LW_d) (by omega) (by omega) rfl (fun w9 u9 hp9 => ?_)
  obtain ⟨fd1, ws1, rfl, rfl, hF1, hP1⟩ := hp9
  change V X (k0 + 1) (n0 + 6) (([(od, .inl (cy 7, aD 1 fd1))] ++ ws1) ++ ([(o, .inl (cy 6, aL 1 fl))] ++ wm)) [some (.ref b), some (.ref f), some (.ref (ma 0)), some (.ref o), some (.ref od), some (.int (nI i)), none, none, none] [.int (nI (if S.1 0 6 = 0 then 1 else 0))] 2291
  refine V_perm (LW_d.symm) ?_
  refine r_istore (L' := [some (.ref b), some (.ref f), some (.ref (ma 0)), some (.ref o), some (.ref od), some (.int (nI i)), some (.int (nI (if S.1 0 6 = 0 then 1 else 0))), none, none]) (pc' := 2293) hX dL_law_2291 (nlt hnL (by decide)) rfl rfl rfl ?_
  refine r_aload_n (pc' := 2294) hX dL_law_2293 rfl rfl ?_
  refine V_call (k' := k0 + 1) (n' := n0 + 6) (pc' := 2297) (wr := ([(o, .inl (cy 6, aL 1 fl)), (od, .inl (cy 7, aD 1 fd1))] ++ ws1)) hX (r_runV (As := []) hX dL_law_2294 k_L_296 (fun l9 hl9 => cMw_soldShare (v := S.1) rfl hM hv) hG (MS_recv hM) rfl rfl (Nat.le_of_ble_eq_true rfl) (by decide) (by decide) (by omega) (by omega)) (LW_m) (by omega) (by omega) rfl (fun w9 u103 hp9 => ?_)
  obtain ⟨rfl, hu103⟩ := hp9
  change V X (k0 + 1) (n0 + 6) (u103 ++ ([(o, .inl (cy 6, aL 1 fl)), (od, .inl (cy 7, aD 1 fd1))] ++ ws1)) [some (.ref b), some (.ref f), some (.ref (ma 0)), some (.ref o), some (.ref od), some (.int (nI i)), some (.int (nI (if S.1 0 6 = 0 then 1 else 0))), none, none] [.float (qShare S.1)] 2297
  refine V_perm (LW_m.symm) ?_
  refine r_fstore (L' := [some (.ref b), some (.ref f), some (.ref (ma 0)), some (.ref o), some (.ref od), some (.int (nI i)), some (.int (nI (if S.1 0 6 = 0 then 1 else 0))), some (.float (qShare S.1)), none]) (pc' := 2299) hX dL_law_2297 (nlt hnL (by decide)) rfl rfl rfl ?_
  refine r_aload_n (pc' := 2300) hX dL_law_2299 rfl rfl ?_
  refine V_call (k' := k0 + 1) (n' := n0 + 6) (pc' := 2303) (wr := ([(o, .inl (cy 6, aL 1 fl)), (od, .inl (cy 7, aD 1 fd1))] ++ ws1)) hX (r_runV (As := []) hX dL_law_2300 k_L_163 (fun l9 hl9 => cMw_thrown hu103) hG (MS_recv hu103) rfl rfl (Nat.le_of_ble_eq_true rfl) (by decide) (by decide) (by omega) (by omega)) (LW_m) (by omega) (by omega) rfl (fun w9 u104 hp9 => ?_)
  obtain ⟨rfl, hu104⟩ := hp9
  change V X (k0 + 1) (n0 + 6) (u104 ++ ([(o, .inl (cy 6, aL 1 fl)), (od, .inl (cy 7, aD 1 fd1))] ++ ws1)) [some (.ref b), some (.ref f), some (.ref (ma 0)), some (.ref o), some (.ref od), some (.int (nI i)), some (.int (nI (if S.1 0 6 = 0 then 1 else 0))), some (.float (qShare S.1)), none] [.int (nI (if S.1 0 6 = 0 then 1 else 0))] 2303
  refine V_perm (LW_m.symm) ?_
  refine r_iload (pc' := 2305) hX dL_law_2303 rfl rfl ?_
  have hkd : (if S.1 0 6 = 0 then 1 else 0) < 100 := by split <;> decide
  refine r_icmp_eq_N (tgt := 2310) (pc' := 2308) hX dL_law_2305 (by decide) rfl (by omega) (by omega) (fun c2305 => ?_) (fun c2305 => ?_)
  · refine r_iload (pc' := 2312) hX dL_law_2310 rfl rfl ?_
    refine r_if_ne_N (tgt := 2348) (pc' := 2315) hX dL_law_2312 (by decide) rfl (by omega) (fun c2312 => ?_) (fun c2312 => ?_)
    · refine r_goto (tgt := 2780) hX dL_law_2348 (by decide) ?_
      refine V_loc (L' := [some (.ref b), some (.ref f), some (.ref (ma 0)), some (.ref o), some (.ref od), some (.int (nI i)), none, none, none]) (lo_w ⟨.inr rfl, .inr rfl, .inr rfl, .inr rfl, .inr rfl, .inr rfl, .inl rfl, .inl rfl, .inr rfl, trivial⟩) ?_
      refine V_widen (k' := k0 + 23) (n' := n0 + 3450) (by omega) (by omega) ?_
      exact cont S _ _ _ _ _ hF1 hu104 (hA.mono (by omega))
    · have hnz : ¬ (S.1 0 6 = 0) := fun h9 => by rw [if_pos h9] at c2312; exact absurd c2312 (by decide)
      have hfd := hP1 hnz
      refine r_aload (pc' := 2317) hX dL_law_2315 rfl rfl ?_
      refine r_iconst (pc' := 2318) (v := nI 0) hX dL_law_2317 rfl rfl ?_
      refine r_dald (pc' := 2319) hX dL_law_2318 (by rw [hcy]) 1 rfl rfl ?_
      rw [hfd]
      change V X (k0 + 1) (n0 + 6) (LW cy o od fl fd1 ws1 u104) [some (.ref b), some (.ref f), some (.ref (ma 0)), some (.ref o), some (.ref od), some (.int (nI i)), some (.int (nI (if S.1 0 6 = 0 then 1 else 0))), some (.float (qShare S.1)), none] [.double (FP.f2d (qShare S.1))] 2319
      refine r_fload (pc' := 2321) hX dL_law_2319 rfl rfl ?_
      refine r_f2d (pc' := 2322) hX dL_law_2321 (share_num hnz (by omega)) rfl ?_
      refine r_dcmp (pc' := 2323) hX dL_law_2322 rfl ?_
      rw [cmp0 (share_num hnz (by omega))]
      refine r_if_eq_N (tgt := 2348) (pc' := 2326) hX dL_law_2323 (by decide) rfl (by omega) (fun c2323 => ?_) (fun c2323 => ?_)
      · refine r_goto (tgt := 2780) hX dL_law_2348 (by decide) ?_
        refine V_loc (L' := [some (.ref b), some (.ref f), some (.ref (ma 0)), some (.ref o), some (.ref od), some (.int (nI i)), none, none, none]) (lo_w ⟨.inr rfl, .inr rfl, .inr rfl, .inr rfl, .inr rfl, .inr rfl, .inl rfl, .inl rfl, .inr rfl, trivial⟩) ?_
        refine V_widen (k' := k0 + 23) (n' := n0 + 3450) (by omega) (by omega) ?_
        exact cont S _ _ _ _ _ hF1 hu104 (hA.mono (by omega))
      · exact absurd c2323 (by omega)
  · exact absurd c2305 (by omega)
