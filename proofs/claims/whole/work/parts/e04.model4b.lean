/-! ===== the model: its questions ===== -/
set_option maxRecDepth 20000 in
set_option maxHeartbeats 1000000 in
theorem cMw_isFailed {l : Launch} {D : va_G} {cy : Nat → ClassId} {sa : Nat → Nat} {ma : Nat → Nat} {S : AS} {t : Nat} {ws : va_W} {v : SV} (hvS : v = S.1) (h : MS cy ma S t ws) (hv : Wf v) {x : Int32} : MG l yX6_isFailed cX6_isFailed 2 (some .boolean) 2 0 0 (D, cy, sa) [.ref (ma 0), .int x] (ws) (fun w u => w = some (.int (bI (mvl (qBat (bNum 4) v x) = nI 1))) ∧ MS cy ma S (kd 1 1 1 1 1 (qBat (bNum 4) v x)) u) := by
  obtain ⟨r, e, g, bf, hy, sv, bu, le, pa, rfl, hM⟩ := h
  have hM0 := hM
  obtain ⟨h4, hR, h0, h8, hH, hS, hT, hO, hE⟩ := hM
  rw [← hvS] at hR
  have hv0 := hv
  obtain ⟨wa, wm, wb, ws, wt, wc, wB, wR, wL, wK, wP⟩ := hv
  refine MG_by (own := RX6) (L := [some (.ref (ma 0)), some (.int x)]) (by decide +kernel) rfl rfl (Nat.le_of_ble_eq_true rfl) 0 rfl (fun X hX hE hnL hG hcy hnm => ?_)
  refine r_aload_n (pc' := 1) hX dX6_isFailed_0 rfl rfl ?_
  refine r_bipush (pc' := 3) (v := nI 79) hX dX6_isFailed_1 rfl rfl ?_
  refine r_iload_n (pc' := 4) hX dX6_isFailed_3 rfl rfl ?_
  refine V_call0 (k' := 0) (n' := 0) (pc' := 7) hX (r_runV (As := [.int (nI 79), .int x]) hX dX6_isFailed_4 k_X6_135 (fun l9 hl9 => cM_bn4 hv0 hR) hG ⟨8, _, TX6, 16, List.mem_cons_self, rfl⟩ rfl rfl (Nat.le_of_ble_eq_true rfl) (by decide) (by decide) (by decide) (by decide)) rfl rfl rfl (fun w9 u9 hp9 => ?_)
  obtain ⟨rfl, rfl⟩ := hp9
  change V X 0 0 (wM cy ma (up1 r 4 (kd 1 1 1 1 1 (qBat (bNum 4) v x))) e g bf hy sv bu le pa) [some (.ref (ma 0)), some (.int x)] [.int (mvl (qBat (bNum 4) v x))] 7
  refine r_iconst (pc' := 8) (v := nI 1) hX dX6_isFailed_7 rfl rfl ?_
  refine r_icmp_ne (tgt := 15) (pc' := 11) hX dX6_isFailed_8 (by decide) rfl (fun c8 => ?_) (fun c8 => ?_)
  · refine r_iconst (pc' := 16) (v := nI 0) hX dX6_isFailed_15 rfl rfl ?_
    exact r_zreturn hX hE dX6_isFailed_16 rfl rfl ⟨rB0 c8, MS_thr hM0⟩ (by decide) (by decide)
  · refine r_iconst (pc' := 12) (v := nI 1) hX dX6_isFailed_11 rfl rfl ?_
    refine r_goto (tgt := 16) hX dX6_isFailed_12 (by decide) ?_
    exact r_zreturn hX hE dX6_isFailed_16 rfl rfl ⟨rB1 c8, MS_thr hM0⟩ (by decide) (by decide)
