set_option maxRecDepth 20000 in
set_option maxHeartbeats 1000000 in
theorem cF_now {l : Launch} {D : va_G} {cy : Nat → ClassId} {sa : Nat → Nat} {f fa s o pr un hs : Nat} {an : Nat → Nat} {e1 e2 : Int32} {fc : Nat → Nat} {SC OB : va_W} {sn : SV} {AD : Nat → Nat → Nat} {VS : Nat → SV} (hpr : pr < 10) (hA0 : fc pr = AD 0 0) : MG l yX5_now cX5_now 1 (some (.object "BowFoundry$State")) 0 0 0 (D, cy, sa) [.ref f] (wBF cy f fa s o an pr un hs e1 e2 fc SC OB sn AD VS) (fun w u => w = some (.ref (AD 0 0)) ∧ u = wBF cy f fa s o an pr un hs e1 e2 fc SC OB sn AD VS) := by
  refine MG_by (own := RX5) (L := [some (.ref f)]) (by decide +kernel) rfl rfl (Nat.le_of_ble_eq_true rfl) 0 rfl (fun X hX hE hnL hG hcy hnm => ?_)
  refine r_aload_n (pc' := 1) hX dX5_now_0 rfl rfl ?_
  refine r_get (pc' := 4) (v := .ref fa) hX dX5_now_1 f_X5_11 0 rfl rfl rfl ?_
  refine r_aload_n (pc' := 5) hX dX5_now_4 rfl rfl ?_
  refine r_get (pc' := 8) (v := .int (nI pr)) hX dX5_now_5 f_X5_34 0 rfl rfl rfl ?_
  refine r_aaldP (y := fc pr) (pc' := 9) hX dX5_now_8 5 (by rw [hcy]; rfl) rfl 1 rfl (by omega) (by decide) rfl rfl ?_
  change V X 0 0 (wBF cy f fa s o an pr un hs e1 e2 fc SC OB sn AD VS) [some (.ref f)] [.ref (fc pr)] 9
  exact r_areturn hX hE dX5_now_9 rfl (Or.inl ⟨_, rfl⟩) (Or.inr ⟨_, rfl⟩) ⟨by rw [← hA0], rfl⟩ (by decide) (by decide)

set_option maxRecDepth 20000 in
set_option maxHeartbeats 1000000 in
theorem cF_fol {l : Launch} {D : va_G} {cy : Nat → ClassId} {sa : Nat → Nat} {f fa s o pr un hs : Nat} {an : Nat → Nat} {e1 e2 : Int32} {fc : Nat → Nat} {SC OB : va_W} {sn : SV} {AD : Nat → Nat → Nat} {VS : Nat → SV} (hpr : pr < 10) : MG l yX5_following cX5_following 1 (some .int) 0 0 0 (D, cy, sa) [.ref f] (wBF cy f fa s o an pr un hs e1 e2 fc SC OB sn AD VS) (fun w u => w = some (.int (nI ((pr + 1) % 10))) ∧ u = wBF cy f fa s o an pr un hs e1 e2 fc SC OB sn AD VS) := by
  refine MG_by (own := RX5) (L := [some (.ref f)]) (by decide +kernel) rfl rfl (Nat.le_of_ble_eq_true rfl) 0 rfl (fun X hX hE hnL hG hcy hnm => ?_)
  refine r_aload_n (pc' := 1) hX dX5_following_0 rfl rfl ?_
  refine r_get (pc' := 4) (v := .int (nI pr)) hX dX5_following_1 f_X5_34 0 rfl rfl rfl ?_
  refine r_bipush (pc' := 6) (v := nI 9) hX dX5_following_4 rfl rfl ?_
  refine r_icmp_ne_N (tgt := 13) (pc' := 9) hX dX5_following_6 (by decide) rfl (by omega) (by omega) (fun c6 => ?_) (fun c6 => ?_)
  · refine r_aload_n (pc' := 14) hX dX5_following_13 rfl rfl ?_
    refine r_get (pc' := 17) (v := .int (nI pr)) hX dX5_following_14 f_X5_34 0 rfl rfl rfl ?_
    refine r_iconst (pc' := 18) (v := nI 1) hX dX5_following_17 rfl rfl ?_
    refine r_iadd_N (pc' := 19) hX dX5_following_18  rfl ?_
    exact r_ireturn hX hE dX5_following_19 rfl ⟨rN (by omega), rfl⟩ (by decide) (by decide)
  · refine r_iconst (pc' := 10) (v := nI 0) hX dX5_following_9 rfl rfl ?_
    refine r_goto (tgt := 19) hX dX5_following_10 (by decide) ?_
    exact r_ireturn hX hE dX5_following_19 rfl ⟨rN (by omega), rfl⟩ (by decide) (by decide)

set_option maxRecDepth 20000 in
set_option maxHeartbeats 1000000 in
theorem cF_draft {l : Launch} {D : va_G} {cy : Nat → ClassId} {sa : Nat → Nat} {f fa s o pr un hs : Nat} {an : Nat → Nat} {e1 e2 : Int32} {fc : Nat → Nat} {SC OB : va_W} {sn : SV} {AD : Nat → Nat → Nat} {VS : Nat → SV} (hpr : pr < 10) (hA0 : fc pr = AD 0 0) (hA1 : fc ((pr + 1) % 10) = AD 1 0) (hFB : FB (VS 0)) : MG l yX5_draft cX5_draft 2 (some (.object "BowFoundry$State")) 4 0 0 (D, cy, sa) [.ref f] (wBF cy f fa s o an pr un hs e1 e2 fc SC OB sn AD VS) (fun w u => w = some (.ref (AD 1 0)) ∧ u = wBF cy f fa s o an pr un hs e1 e2 fc SC OB sn AD (upA VS 1 (VS 0))) := by
  refine MG_by (own := RX5) (L := [some (.ref f), none]) (by decide +kernel) rfl rfl (Nat.le_of_ble_eq_true rfl) 1 rfl (fun X hX hE hnL hG hcy hnm => ?_)
  refine r_aload_n (pc' := 1) hX dX5_draft_0 rfl rfl ?_
  refine r_get (pc' := 4) (v := .ref fa) hX dX5_draft_1 f_X5_11 0 rfl rfl rfl ?_
  refine r_aload_n (pc' := 5) hX dX5_draft_4 rfl rfl ?_
  refine V_call0 (k' := 0) (n' := 0) (pc' := 8) hX (r_runV (As := []) hX dX5_draft_5 k_X5_287 (fun l9 hl9 => cF_fol (by assumption)) hG ⟨7, _, TX5, 9, List.mem_cons_self, rfl⟩ rfl rfl (Nat.le_of_ble_eq_true rfl) (by decide) (by decide) (by decide) (by decide)) rfl rfl rfl (fun w9 u9 hp9 => ?_)
  obtain ⟨rfl, rfl⟩ := hp9
  change V X 0 0 (wBF cy f fa s o an pr un hs e1 e2 fc SC OB sn AD VS) [some (.ref f), none] [.int (nI ((pr + 1) % 10)), .ref fa] 8
  refine r_aaldP (y := fc ((pr + 1) % 10)) (pc' := 9) hX dX5_draft_8 5 (by rw [hcy]; rfl) rfl 1 rfl (by omega) (by decide) rfl rfl ?_
  change V X 0 0 (wBF cy f fa s o an pr un hs e1 e2 fc SC OB sn AD VS) [some (.ref f), none] [.ref (fc ((pr + 1) % 10))] 9
  rw [hA1]
  refine r_astore_n (L' := [some (.ref f), some (.ref (AD 1 0))]) (pc' := 10) hX dX5_draft_9 (nlt hnL (by decide)) rfl rfl rfl ?_
  refine r_aload_n (pc' := 11) hX dX5_draft_10 rfl rfl ?_
  refine r_aload_n (pc' := 12) hX dX5_draft_11 rfl rfl ?_
  refine V_call0 (k' := 0) (n' := 0) (pc' := 15) hX (r_runV (As := []) hX dX5_draft_12 k_X5_88 (fun l9 hl9 => cF_now (by assumption) (by assumption)) hG ⟨7, _, TX5, 9, List.mem_cons_self, rfl⟩ rfl rfl (Nat.le_of_ble_eq_true rfl) (by decide) (by decide) (by decide) (by decide)) rfl rfl rfl (fun w9 u9 hp9 => ?_)
  obtain ⟨rfl, rfl⟩ := hp9
  change V X 0 0 (wBF cy f fa s o an pr un hs e1 e2 fc SC OB sn AD VS) [some (.ref f), some (.ref (AD 1 0))] [.ref (AD 0 0), .ref (AD 1 0)] 15
  refine V_call (k' := 0) (n' := 0) (pc' := 18) (wr := ((((wBFl cy f fa s o an pr un hs e1 e2 fc SC OB sn AD VS)).eraseIdx 2).eraseIdx 1).flatten) hX (r_runV (As := [.ref (AD 0 0)]) hX dX5_draft_15 k_X5_281 (fun l9 hl9 => cS_copy (bd := AD 1) (ad := AD 0) (v := VS 0) (w := VS 1) hFB) hG ⟨6, _, TX4, 17, List.mem_append_left _ List.mem_cons_self, rfl⟩ rfl rfl (Nat.le_of_ble_eq_true rfl) (by decide) (by decide) (by decide) (by decide)) (fl_out2 (bs := (wBFl cy f fa s o an pr un hs e1 e2 fc SC OB sn AD VS)) 2 1 rfl rfl) rfl rfl rfl (fun w9 u9 hp9 => ?_)
  obtain ⟨rfl, rfl⟩ := hp9
  change V X 0 0 ((wSt cy (AD 1) (VS 0) ++ wSt cy (AD 0) (VS 0)) ++ ((((wBFl cy f fa s o an pr un hs e1 e2 fc SC OB sn AD VS)).eraseIdx 2).eraseIdx 1).flatten) [some (.ref f), some (.ref (AD 1 0))] [] 18
  refine V_perm (fl_back2 (bs := (wBFl cy f fa s o an pr un hs e1 e2 fc SC OB sn AD VS)) (bs' := (wBFl cy f fa s o an pr un hs e1 e2 fc SC OB sn AD (upA VS 1 (VS 0)))) 2 1 rfl rfl rfl) ?_
  refine r_aload_n (pc' := 19) hX dX5_draft_18 rfl rfl ?_
  exact r_areturn hX hE dX5_draft_19 rfl (Or.inl ⟨_, rfl⟩) (Or.inr ⟨_, rfl⟩) ⟨rfl, rfl⟩ (by decide) (by decide)
