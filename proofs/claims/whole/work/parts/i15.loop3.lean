theorem LW_new {cy : Nat → ClassId} {o od : Nat} {fl : Nat → Int64} {fd : Nat → UInt64} {wf wm : va_W} : (((wm ++ wf) ++ [(o, Sum.inl (cy 6, aL 1 fl))]) ++ [(od, Sum.inl (cy 7, aD 1 fd))]).Perm (LW cy o od fl fd wf wm) := by
  unfold LW
  rw [List.append_assoc]
  exact List.perm_append_comm.trans (List.Perm.append_left _ List.perm_append_comm)
set_option maxRecDepth 20000 in
set_option maxHeartbeats 2000000 in
theorem law_head {X : xC} {l : Launch} {D : va_G} {cy : Nat → ClassId} {sa : Nat → Nat} {mc ms b L9 : Nat} {xs : Nat → Int32} (hX : Ok SF X cL_law RL 16 mc ms) (hG : c0_G X = (D, cy, sa)) (hcy : c0_cy X = cy) (hnL : c0_nL X = 9) (hl : c0_l X = l) (hst : l.stackTraces = false) (hScr : Scr X b L9 xs) (hL9 : L9 ≤ 2048) (hmc : 12176 ≤ mc) (hms : 1770700 ≤ ms)
    (fin : ∀ (f o od i k n : Nat) (ma : Nat → Nat) (fl : Nat → Int64) (fd : Nat → UInt64) (wf wm : va_W), k ≤ 12176 → n ≤ 1770700 → V X k n (LW cy o od fl fd wf wm) [some (.ref b), some (.ref f), some (.ref (ma 0)), some (.ref o), some (.ref od), some (.int (nI i)), none, none, none] [] 2786) :
    V X 0 0 [] [some (.ref b), none, none, none, none, none, none, none, none] [] 0 := by
  refine r_new (k' := 1) (n' := 9) (pc' := 3) hX dL_law_0 cl_L_8 rfl rfl (by omega) (by omega) rfl (fun f => ?_)
  refine r_dup (pc' := 4) hX dL_law_3 rfl rfl ?_
  refine V_call0 (k' := 349) (n' := 2146) (pc' := 7) hX (r_runI (ret := none) (As := []) hX dL_law_4 k_L_153 (fun l9 hl9 => cF_init) hG rfl rfl (Nat.le_of_ble_eq_true rfl) (by decide) (by decide) (by omega) (by omega)) rfl rfl rfl (fun w9 u9 hp9 => ?_)
  obtain ⟨rfl, hF⟩ := hp9
  change V X 349 2146 u9 [some (.ref b), none, none, none, none, none, none, none, none] [.ref f] 7
  refine r_astore_n (L' := [some (.ref b), some (.ref f), none, none, none, none, none, none, none]) (pc' := 8) hX dL_law_7 (nlt hnL (by decide)) rfl rfl rfl ?_
  refine r_new (k' := 350) (n' := 2162) (pc' := 11) hX dL_law_8 cl_L_154 rfl rfl (by omega) (by omega) rfl (fun a => ?_)
  refine r_dup (pc' := 12) hX dL_law_11 rfl rfl ?_
  refine V_call (k' := 357) (n' := 4271) (pc' := 15) (wr := u9) hX (r_runI (ret := none) (As := []) hX dL_law_12 k_L_156 (fun l9 hl9 => cM_init) hG rfl rfl (Nat.le_of_ble_eq_true rfl) (by decide) (by decide) (by omega) (by omega)) List.perm_append_comm rfl rfl rfl (fun w9 u8 hp9 => ?_)
  obtain ⟨rfl, ma, rfl, hM⟩ := hp9
  change V X 357 4271 (u8 ++ u9) [some (.ref b), some (.ref f), none, none, none, none, none, none, none] [.ref (ma 0)] 15
  refine r_astore_n (L' := [some (.ref b), some (.ref f), some (.ref (ma 0)), none, none, none, none, none, none]) (pc' := 16) hX dL_law_15 (nlt hnL (by decide)) rfl rfl rfl ?_
  refine r_iconst (pc' := 17) (v := nI 1) hX dL_law_16 rfl rfl ?_
  refine r_newa (t0 := 0) (N := 1) (k' := 358) (n' := 4272) (pc' := 19) (a0 := aL 1 (fun _ => 0)) (cA := cy 6) hX dL_law_17 (m8 (j := 110) rfl rfl) rfl 6 (by rw [hcy]; rfl) (fun U cA h => h) (fun cA => rfl) (by decide) (by decide) rfl rfl (by omega) (by omega) rfl (fun o => ?_)
  refine r_astore_n (L' := [some (.ref b), some (.ref f), some (.ref (ma 0)), some (.ref o), none, none, none, none, none]) (pc' := 20) hX dL_law_19 (nlt hnL (by decide)) rfl rfl rfl ?_
  refine r_iconst (pc' := 21) (v := nI 1) hX dL_law_20 rfl rfl ?_
  refine r_newa (t0 := 0) (N := 1) (k' := 359) (n' := 4273) (pc' := 23) (a0 := aD 1 (fun _ => 0)) (cA := cy 7) hX dL_law_21 (m8 (j := 111) rfl rfl) rfl 7 (by rw [hcy]; rfl) (fun U cA h => h) (fun cA => rfl) (by decide) (by decide) rfl rfl (by omega) (by omega) rfl (fun od => ?_)
  refine r_astore (L' := [some (.ref b), some (.ref f), some (.ref (ma 0)), some (.ref o), some (.ref od), none, none, none, none]) (pc' := 25) hX dL_law_23 (nlt hnL (by decide)) rfl rfl rfl ?_
  refine r_iconst (pc' := 26) (v := nI 0) hX dL_law_25 rfl rfl ?_
  refine r_istore (L' := [some (.ref b), some (.ref f), some (.ref (ma 0)), some (.ref o), some (.ref od), some (.int (nI 0)), none, none, none]) (pc' := 28) hX dL_law_26 (nlt hnL (by decide)) rfl rfl rfl ?_
  refine V_perm LW_new ?_
  refine V_widen (k' := 400 + 23 * 0) (n' := 4300 + 3450 * 0) (by omega) (by omega) ?_
  exact law_loop hX hG hcy hnL hl hst hScr hL9 hmc hms (fun i k n fl fd wf wm h1 h2 => fin _ _ _ i k n ma fl fd wf wm h1 h2) 514 0 AS0 0 _ _ _ _ (by omega) (by omega) hF hM AJ_ini
