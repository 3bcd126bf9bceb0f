/-! ===== the model: runScript ===== -/
set_option maxRecDepth 20000 in
set_option maxHeartbeats 1000000 in
theorem cMw_runScript {l : Launch} {D : va_G} {cy : Nat → ClassId} {sa : Nat → Nat} {ma : Nat → Nat} {S : AS} {th : Nat} {ws : va_W} {v : SV} {K : Nat} (hvS : v = S.1) (h : MS cy ma S th ws) (hI : Inv K v) (hK : K + 61 ≤ 100000) (hch0 : ∀ c ∈ S.2.2.2.1, c < 127) : MG l yX6_runScript cX6_runScript 5 (some .int) 5 0 0 (D, cy, sa) [.ref (ma 0)] (ws) (fun w u => w = some (.int (mvl (qRun S))) ∧ MS cy ma (aRun S) (kd 0 1 2 0 0 (qRun S)) u) := by
  obtain ⟨r, e, g, bf, hy, sv, bu, le, pa, rfl, hM⟩ := h
  have hM0 := hM
  obtain ⟨h4, hR, h0, h8, hH, hS, ⟨hb1, hb2, hb3⟩, ⟨ho1, ho2, ho3⟩, hE1, hE2⟩ := hM
  rw [← hvS] at hR
  obtain ⟨t, ht⟩ : ∃ z, z = S.2.2.2.1 := ⟨_, rfl⟩
  have hch : ∀ c ∈ t, c < 127 := by rw [ht]; exact hch0
  have hscr : scr S = pall t 61 0 := by rw [ht]
  have hb2 : t.length ≤ 60 := by rw [ht]; exact hb2
  have hb1 : r 2 = t.length := by rw [ht]; exact hb1
  have hb3 : LT bu t := by rw [ht]; exact hb3
  refine MG_by (own := RX6) (L := [some (.ref (ma 0)), none, none, none, none]) (by decide +kernel) rfl rfl (Nat.le_of_ble_eq_true rfl) 4 rfl (fun X hX hE hnL hG hcy hnm => ?_)
  refine r_aload_n (pc' := 1) hX dX6_runScript_0 rfl rfl ?_
  refine r_iconst (pc' := 2) (v := nI 0) hX dX6_runScript_1 rfl rfl ?_
  refine r_put (ws' := wM cy ma (up1 r 5 0) e g bf hy sv bu le pa) (pc' := 5) hX dX6_runScript_2 f_X6_165 fw_X6_13 0 rfl rfl rfl (Nat.le_of_ble_eq_true rfl) rfl rfl ?_
  refine r_aload_n (pc' := 6) hX dX6_runScript_5 rfl rfl ?_
  refine r_iconst (pc' := 7) (v := nI 0) hX dX6_runScript_6 rfl rfl ?_
  refine r_put (ws' := wM cy ma (up1 (up1 r 5 0) 6 0) e g bf hy sv bu le pa) (pc' := 10) hX dX6_runScript_7 f_X6_168 fw_X6_14 0 rfl rfl rfl (Nat.le_of_ble_eq_true rfl) rfl rfl ?_
  refine r_iconst (pc' := 11) (v := nI 0) hX dX6_runScript_10 rfl rfl ?_
  refine r_istore_n (L' := [some (.ref (ma 0)), some (.int (nI 0)), none, none, none]) (pc' := 12) hX dX6_runScript_11 (nlt hnL (by decide)) rfl rfl rfl ?_
  refine r_iconst (pc' := 13) (v := nI 1) hX dX6_runScript_12 rfl rfl ?_
  refine r_istore_n (L' := [some (.ref (ma 0)), some (.int (nI 0)), some (.int (nI 1)), none, none]) (pc' := 14) hX dX6_runScript_13 (nlt hnL (by decide)) rfl rfl rfl ?_
  have loop14 : ∀ (n9 : Nat) (cnt : Nat) (mo : Nat) (r1 : Nat → Nat) (pa1 : Nat → Int32), mo * (70 - cnt) < n9 → (LI t r r1 pa1 cnt mo) → V X 0 0 (wM cy ma r1 e g bf hy sv bu le pa1) [some (.ref (ma 0)), some (.int (nI cnt)), some (.int (nI mo)), none, none] [] 14 := by
    intro n9
    induction n9 with
    | zero => intro cnt mo r1 pa1 hm; exact absurd hm (Nat.not_lt_zero _)
    | succ n9 ih14 =>
      intro cnt mo r1 pa1 hm hD
      refine r_iload_n (pc' := 15) hX dX6_runScript_14 rfl rfl ?_
      refine r_if_eq_N (tgt := 71) (pc' := 18) hX dX6_runScript_15 (by decide) rfl (by rcases hD with ⟨z, -⟩ | ⟨z, -⟩ <;> omega) (fun c15 => ?_) (fun c15 => ?_)
      · obtain ⟨-, b, hPb, hb9, hcs9⟩ := hD.resolve_left (fun z => by rw [z.1] at c15; exact absurd c15 (by decide))
        subst c15
        have hwb : (r1 6 = 0 ↔ b = false) ∧ r1 6 ≤ 1 := PS_w hPb
        have hb15 : r1 5 = (pall t 61 0).2.1 := hPb.2.1
        have hbl : (pall t 61 0).2.1 ≤ 61 := hPb.2.2.2
        have hb12 : r1 2 = t.length := (hPb.1 2 (by decide) (by decide)).trans hb1
        refine r_aload_n (pc' := 72) hX dX6_runScript_71 rfl rfl ?_
        refine r_aload_n (pc' := 73) hX dX6_runScript_72 rfl rfl ?_
        refine r_get (pc' := 76) (v := .int (nI (r1 6))) hX dX6_runScript_73 f_X6_168 0 rfl rfl rfl ?_
        refine r_if_ne_N (tgt := 90) (pc' := 79) hX dX6_runScript_76 (by decide) rfl (by omega) (fun c76 => ?_) (fun c76 => ?_)
        · have hbx : b = true ∨ (pall t 61 0).2.1 < t.length := Or.inl (by cases e9 : b with | true => rfl | false => exact absurd (hwb.1.mpr e9) c76)
          refine r_iconst (pc' := 91) (v := nI 1) hX dX6_runScript_90 rfl rfl ?_
          refine r_goto (tgt := 95) hX dX6_runScript_91 (by decide) ?_
          refine r_put (ws' := wM cy ma (up1 r1 6 1) e g bf hy sv bu le pa1) (pc' := 98) hX dX6_runScript_95 f_X6_168 fw_X6_14 0 rfl rfl rfl (Nat.le_of_ble_eq_true rfl) rfl rfl ?_
          refine r_aload_n (pc' := 99) hX dX6_runScript_98 rfl rfl ?_
          refine r_iconst (pc' := 100) (v := nI 0) hX dX6_runScript_99 rfl rfl ?_
          refine r_put (ws' := wM cy ma (up1 (up1 r1 6 1) 2 0) e g bf hy sv bu le pa1) (pc' := 103) hX dX6_runScript_100 f_X6_162 fw_X6_7 0 rfl rfl rfl (Nat.le_of_ble_eq_true rfl) rfl rfl ?_
          refine r_aload_n (pc' := 104) hX dX6_runScript_103 rfl rfl ?_
          refine r_get (pc' := 107) (v := .int (nI 1)) hX dX6_runScript_104 f_X6_168 0 rfl rfl rfl ?_
          refine r_if_eq_N (tgt := 124) (pc' := 110) hX dX6_runScript_107 (by decide) rfl (by omega) (fun c107 => ?_) (fun c107 => ?_)
          · exact absurd c107 (by omega)
          · refine r_aload_n (pc' := 111) hX dX6_runScript_110 rfl rfl ?_
            refine r_aload_n (pc' := 112) hX dX6_runScript_111 rfl rfl ?_
            refine r_get (pc' := 115) (v := .int (nI (r1 5))) hX dX6_runScript_112 f_X6_165 0 rfl rfl rfl ?_
            refine r_put (ws' := wM cy ma (up1 (up1 r1 6 1) 2 0) (up1 e 0 (nI (r1 5))) g bf hy sv bu le pa1) (pc' := 118) hX dX6_runScript_115 f_X6_26 fw_X6_8 0 rfl rfl rfl (Nat.le_of_ble_eq_true rfl) rfl rfl ?_
            have hR1 : (pall t 61 0).1 = true := hb9.mpr hbx
            have e9 : qRun S = -2 := by unfold qRun; rw [hscr, if_pos hR1]
            have a9 : aRun S = aE S (nI (scr S).2.1) := by unfold aRun; rw [hscr, if_pos hR1]
            refine r_aload_n (pc' := 119) hX dX6_runScript_118 rfl rfl ?_
            refine r_iconst (pc' := 120) (v := nI 1) hX dX6_runScript_119 rfl rfl ?_
            refine V_call0 (k' := 0) (n' := 0) (pc' := 123) hX (r_runV (As := [.int (nI 1)]) hX dX6_runScript_120 k_X6_67 (fun l9 hl9 => cM_fails (by omega)) hG ⟨8, _, TX6, 16, List.mem_cons_self, rfl⟩ rfl rfl (Nat.le_of_ble_eq_true rfl) (by decide) (by decide) (by decide) (by decide)) rfl rfl rfl (fun w9 u9 hp9 => ?_)
            obtain ⟨rfl, rfl⟩ := hp9
            change V X 0 0 (wM cy ma (up1 (up1 (up1 r1 6 1) 2 0) 4 1) (up1 e 0 (nI (r1 5))) g bf hy sv bu le pa1) [some (.ref (ma 0)), some (.int (nI cnt)), some (.int (nI 0)), none, none] [.int (nI 0)] 123
            exact r_ireturn hX hE dX6_runScript_123 rfl (by rw [e9, a9]; exact ⟨rfl, MS_run hM0 (by rw [up1_ne (by decide), up1_ne (by decide), up1_ne (by decide)]; exact (hPb.1 0 (by decide) (by decide)).trans h0) h8 hH (by rw [up1_ne (by decide), up1_ne (by decide), up1_ne (by decide)]; exact hPb.1 1 (by decide) (by decide)) (by rw [up1_ne (by decide), up1_s]) (by rw [up1_ne (by decide), up1_ne (by decide), up1_ne (by decide)]; exact hPb.1 3 (by decide) (by decide)) up1_s (show Rr S.1 g from hvS ▸ hR) rfl rfl rfl (by show up1 e 0 _ 0 = nI (scr S).2.1; rw [hscr, ← hb15]; exact if_pos rfl) (by show up1 e 0 _ 1 = _; exact (if_neg (by decide)).trans hE2)⟩) (by decide) (by decide)
        · refine r_aload_n (pc' := 80) hX dX6_runScript_79 rfl rfl ?_
          refine r_get (pc' := 83) (v := .int (nI (r1 5))) hX dX6_runScript_80 f_X6_165 0 rfl rfl rfl ?_
          refine r_aload_n (pc' := 84) hX dX6_runScript_83 rfl rfl ?_
          refine r_get (pc' := 87) (v := .int (nI (r1 2))) hX dX6_runScript_84 f_X6_162 0 rfl rfl rfl ?_
          refine r_icmp_ge_N (tgt := 94) (pc' := 90) hX dX6_runScript_87 (by decide) rfl (by omega) (by omega) (fun c87 => ?_) (fun c87 => ?_)
          · refine r_iconst (pc' := 95) (v := nI 0) hX dX6_runScript_94 rfl rfl ?_
            refine r_put (ws' := wM cy ma (up1 r1 6 0) e g bf hy sv bu le pa1) (pc' := 98) hX dX6_runScript_95 f_X6_168 fw_X6_14 0 rfl rfl rfl (Nat.le_of_ble_eq_true rfl) rfl rfl ?_
            refine r_aload_n (pc' := 99) hX dX6_runScript_98 rfl rfl ?_
            refine r_iconst (pc' := 100) (v := nI 0) hX dX6_runScript_99 rfl rfl ?_
            refine r_put (ws' := wM cy ma (up1 (up1 r1 6 0) 2 0) e g bf hy sv bu le pa1) (pc' := 103) hX dX6_runScript_100 f_X6_162 fw_X6_7 0 rfl rfl rfl (Nat.le_of_ble_eq_true rfl) rfl rfl ?_
            refine r_aload_n (pc' := 104) hX dX6_runScript_103 rfl rfl ?_
            refine r_get (pc' := 107) (v := .int (nI 0)) hX dX6_runScript_104 f_X6_168 0 rfl rfl rfl ?_
            refine r_if_eq_N (tgt := 124) (pc' := 110) hX dX6_runScript_107 (by decide) rfl (by omega) (fun c107 => ?_) (fun c107 => ?_)
            · refine r_aload_n (pc' := 125) hX dX6_runScript_124 rfl rfl ?_
              refine V_call0 (k' := 0) (n' := 0) (pc' := 128) hX (r_runV (As := []) hX dX6_runScript_125 k_X6_73 (fun l9 hl9 => cM_begin) hG ⟨8, _, TX6, 16, List.mem_cons_self, rfl⟩ rfl rfl (Nat.le_of_ble_eq_true rfl) (by decide) (by decide) (by decide) (by decide)) rfl rfl rfl (fun w9 u9 hp9 => ?_)
              obtain ⟨rfl, rfl⟩ := hp9
              change V X 0 0 (wM cy ma (up1 (up1 r1 6 0) 2 0) e g (cpy g 0 bf 0 159) hy sv bu le pa1) [some (.ref (ma 0)), some (.int (nI cnt)), some (.int (nI 0)), none, none] [] 128
              have hR1 : (pall t 61 0).1 = false := by
                cases e9 : (pall t 61 0).1 with
                | false => rfl
                | true =>
                  rcases hb9.mp e9 with z | z
                  · rw [hwb.1.mp c76] at z; exact absurd z (by decide)
                  · omega
              obtain ⟨hcn, hPA⟩ := hcs9 hR1
              refine r_iconst (pc' := 129) (v := nI 0) hX dX6_runScript_128 rfl rfl ?_
              refine r_istore_n (L' := [some (.ref (ma 0)), some (.int (nI cnt)), some (.int (nI 0)), some (.int (nI 0)), none]) (pc' := 130) hX dX6_runScript_129 (nlt hnL (by decide)) rfl rfl rfl ?_
              have loop130 : ∀ (n9 : Nat) (i : Nat) (w : SV) (gs : Nat → Nat) (r3 : Nat → Nat), cnt - i < n9 → (i ≤ cnt) → (Inv (K + i) w) → (Rr w gs) → (∀ j, j ≠ 4 → r3 j = up1 (up1 r1 6 0) 2 0 j) → (rnC (pall t 61 0).2.2 v 0 = rnC ((pall t 61 0).2.2.drop i) w i) → V X 0 0 (wM cy ma r3 e gs (cpy g 0 bf 0 159) hy sv bu le pa1) [some (.ref (ma 0)), some (.int (nI cnt)), some (.int (nI 0)), some (.int (nI i)), none] [] 130 := by
                intro n9
                induction n9 with
                | zero => intro i w gs r3 hm; exact absurd hm (Nat.not_lt_zero _)
                | succ n9 ih130 =>
                  intro i w gs r3 hm hi hIw hRs hr3 hrn
                  refine r_iload_n (pc' := 131) hX dX6_runScript_130 rfl rfl ?_
                  have hcl9 := pall_len2 (t := t) (f := 61) (p := 0) (Nat.zero_le _)
                  have h30 : r3 0 = r 0 := by rw [hr3 0 (by decide), up1_ne (by decide), up1_ne (by decide)]; exact hPb.1 0 (by decide) (by decide)
                  have h31 : r3 1 = r 1 := by rw [hr3 1 (by decide), up1_ne (by decide), up1_ne (by decide)]; exact hPb.1 1 (by decide) (by decide)
                  have h33 : r3 3 = r 3 := by rw [hr3 3 (by decide), up1_ne (by decide), up1_ne (by decide)]; exact hPb.1 3 (by decide) (by decide)
                  have h32 : r3 2 = 0 := by rw [hr3 2 (by decide), up1_s]
                  refine r_iload_n (pc' := 132) hX dX6_runScript_131 rfl rfl ?_
                  refine r_icmp_ge_N (tgt := 174) (pc' := 135) hX dX6_runScript_132 (by decide) rfl (by omega) (by omega) (fun c132 => ?_) (fun c132 => ?_)
                  · refine r_aload_n (pc' := 175) hX dX6_runScript_174 rfl rfl ?_
                    refine r_aload_n (pc' := 176) hX dX6_runScript_175 rfl rfl ?_
                    refine r_iload_n (pc' := 177) hX dX6_runScript_176 rfl rfl ?_
                    refine V_call0 (k' := 0) (n' := 0) (pc' := 180) hX (r_runV (As := [.int (nI cnt)]) hX dX6_runScript_177 k_X6_70 (fun l9 hl9 => cM_done) hG ⟨8, _, TX6, 16, List.mem_cons_self, rfl⟩ rfl rfl (Nat.le_of_ble_eq_true rfl) (by decide) (by decide) (by decide) (by decide)) rfl rfl rfl (fun w9 u9 hp9 => ?_)
                    obtain ⟨rfl, rfl⟩ := hp9
                    change V X 0 0 (wM cy ma (up1 r3 4 0) e gs (cpy g 0 bf 0 159) hy sv bu le pa1) [some (.ref (ma 0)), some (.int (nI cnt)), some (.int (nI 0)), some (.int (nI i)), none] [.int (nI cnt), .ref (ma 0)] 180
                    refine V_call0 (k' := 0) (n' := 0) (pc' := 183) hX (r_runV (As := [.int (nI cnt)]) hX dX6_runScript_180 k_X6_80 (fun l9 hl9 => cM_kept (by (repeat rw [up1_ne (by decide)]); omega) (by rw [up1_s]; decide)) hG ⟨8, _, TX6, 16, List.mem_cons_self, rfl⟩ rfl rfl (Nat.le_of_ble_eq_true rfl) (by decide) (by decide) (by decide) (by decide)) rfl rfl rfl (fun w9 u9 hp9 => ?_)
                    have hp9 := (hp9.resolve_left (fun z => z.1 up1_s)).2
                    obtain ⟨rfl, rfl⟩ := hp9
                    change V X 0 0 (wM cy ma (up1 (up1 r3 4 0) 0 (min ((up1 r3 4 0) 0) 7 + 1)) e gs (cpy g 0 bf 0 159) (khy ((up1 r3 4 0) 0) hy (cpy g 0 bf 0 159)) sv bu le pa1) [some (.ref (ma 0)), some (.int (nI cnt)), some (.int (nI 0)), some (.int (nI i)), none] [.int (nI cnt)] 183
                    have hi9 : i = cnt := by omega
                    have hrn9 : rnC (pall t 61 0).2.2 v 0 = (none, w) := by rw [hrn, List.drop_of_length_le (by omega)]; rfl
                    have e9 : qRun S = nI cnt := by unfold qRun; rw [hscr, if_neg (by rw [hR1]; decide), ← hvS, hrn9, hcn]
                    have a9 : aRun S = aBuf (w, (S.1 :: S.2.1).take 8, S.2.2) [] := by unfold aRun; rw [hscr, if_neg (by rw [hR1]; decide), ← hvS, hrn9]
                    have hb : Rr S.1 (cpy g 0 bf 0 159) := by rw [← hvS]; exact hR.congr (fun j hj => cpy_00 hj)
                    have hp := hH.push h8 hb
                    exact r_ireturn hX hE dX6_runScript_183 rfl (by rw [e9, a9, mvl_nI (by omega), kd_nI (by omega)]; exact ⟨rfl, MS_run hM0 (by rw [up1_s, up1_ne (by decide), h30, h0]; exact hp.2.symm) (by show ((S.1 :: S.2.1).take 8).length ≤ 8; rw [hp.2]; omega) (by rw [up1_ne (by decide), h30, h0]; exact hp.1) (by rw [up1_ne (by decide), up1_ne (by decide)]; exact h31) (by rw [up1_ne (by decide), up1_ne (by decide)]; exact h32) (by rw [up1_ne (by decide), up1_ne (by decide)]; exact h33) (by rw [up1_ne (by decide), up1_s]) hRs rfl rfl rfl hE1 hE2⟩) (by decide) (by decide)
                  · obtain ⟨c, hc⟩ : ∃ c, c = (pall t 61 0).2.2[i]'(by omega) := ⟨_, rfl⟩
                    have hdr : (pall t 61 0).2.2.drop i = c :: (pall t 61 0).2.2.drop (i + 1) := by rw [hc]; exact List.drop_eq_getElem_cons (by omega)
                    obtain ⟨hc9, hc0, hcn9⟩ := hPA i (by omega)
                    rw [← hc] at hc9 hc0 hcn9
                    have hcn : ∀ j, j < nnf c.1 → pa1 (4 * i + 1 + j) = nI (c.2.getD j 0) := hcn9
                    refine r_aload_n (pc' := 136) hX dX6_runScript_135 rfl rfl ?_
                    refine r_iconst (pc' := 137) (v := nI 4) hX dX6_runScript_136 rfl rfl ?_
                    refine r_iload_n (pc' := 138) hX dX6_runScript_137 rfl rfl ?_
                    refine r_imul_N (pc' := 139) hX dX6_runScript_138  rfl ?_
                    refine V_call0 (k' := 0) (n' := 0) (pc' := 142) hX (r_runV (As := [.int (nI (4 * i))]) hX dX6_runScript_139 k_X6_201 (fun l9 hl9 => cM_carriesOut (v := w) (c := c) (k := 4 * i) hIw.1 hRs hIw.2.1 (by omega) hc9 hc0 hcn) hG ⟨8, _, TX6, 16, List.mem_cons_self, rfl⟩ rfl rfl (Nat.le_of_ble_eq_true rfl) (by decide) (by decide) (by decide) (by decide)) rfl rfl rfl (fun w9 u9 hp9 => ?_)
                    obtain ⟨rfl, g9, tau, rfl, hg9, htau, htl⟩ := hp9
                    change V X 0 0 (wM cy ma (up1 r3 4 tau) e g9 (cpy g 0 bf 0 159) hy sv bu le pa1) [some (.ref (ma 0)), some (.int (nI cnt)), some (.int (nI 0)), some (.int (nI i)), none] [.int (mvl (oC c w).1)] 142
                    refine r_istore (L' := [some (.ref (ma 0)), some (.int (nI cnt)), some (.int (nI 0)), some (.int (nI i)), some (.int (mvl (oC c w).1))]) (pc' := 144) hX dX6_runScript_142 (nlt hnL (by decide)) rfl rfl rfl ?_
                    refine r_aload_n (pc' := 145) hX dX6_runScript_144 rfl rfl ?_
                    refine r_get (pc' := 148) (v := .int (nI tau)) hX dX6_runScript_145 f_X6_39 0 rfl rfl rfl ?_
                    refine r_if_eq_N (tgt := 168) (pc' := 151) hX dX6_runScript_148 (by decide) rfl (by omega) (fun c148 => ?_) (fun c148 => ?_)
                    · refine r_iinc_N (b := 1) (L' := [some (.ref (ma 0)), some (.int (nI cnt)), some (.int (nI 0)), some (.int (nI (i + 1))), some (.int (mvl (oC c w).1))]) (pc' := 171) hX dX6_runScript_168 rfl (nlt hnL (by decide)) rfl rfl rfl ?_
                      refine r_goto (tgt := 130) hX dX6_runScript_171 (by decide) ?_
                      refine V_loc (L' := [some (.ref (ma 0)), some (.int (nI cnt)), some (.int (nI 0)), some (.int (nI (i + 1))), none]) (lo_w ⟨.inr rfl, .inr rfl, .inr rfl, .inr rfl, .inl rfl, trivial⟩) ?_
                      exact ih130 (i + 1) ((oC c w).2) g9 (up1 r3 4 tau) (by omega) (by omega) (show Inv (K + i + 1) _ from oC_inv hIw (by omega)) hg9 (fun j hj => (up1_ne hj).trans (hr3 j hj)) (by rw [hrn, hdr, rnC_on (by have := htau.mp c148; omega)])
                    · refine r_aload_n (pc' := 152) hX dX6_runScript_151 rfl rfl ?_
                      refine r_iload_n (pc' := 153) hX dX6_runScript_152 rfl rfl ?_
                      refine r_put (ws' := wM cy ma (up1 r3 4 tau) (up1 e 1 (nI i)) g9 (cpy g 0 bf 0 159) hy sv bu le pa1) (pc' := 156) hX dX6_runScript_153 f_X6_30 fw_X6_9 0 rfl rfl rfl (Nat.le_of_ble_eq_true rfl) rfl rfl ?_
                      refine r_aload_n (pc' := 157) hX dX6_runScript_156 rfl rfl ?_
                      refine r_iconst (pc' := 158) (v := nI 2) hX dX6_runScript_157 rfl rfl ?_
                      refine r_put (ws' := wM cy ma (up1 (up1 r3 4 tau) 4 2) (up1 e 1 (nI i)) g9 (cpy g 0 bf 0 159) hy sv bu le pa1) (pc' := 161) hX dX6_runScript_158 f_X6_39 fw_X6_12 0 rfl rfl rfl (Nat.le_of_ble_eq_true rfl) rfl rfl ?_
                      refine r_aload_n (pc' := 162) hX dX6_runScript_161 rfl rfl ?_
                      refine r_iload (pc' := 164) hX dX6_runScript_162 rfl rfl ?_
                      refine V_call0 (k' := 0) (n' := 0) (pc' := 167) hX (r_runV (As := [.int (mvl (oC c w).1)]) hX dX6_runScript_164 k_X6_80 (fun l9 hl9 => cM_kept (by (repeat rw [up1_ne (by decide)]); omega) (by rw [up1_s]; decide)) hG ⟨8, _, TX6, 16, List.mem_cons_self, rfl⟩ rfl rfl (Nat.le_of_ble_eq_true rfl) (by decide) (by decide) (by decide) (by decide)) rfl rfl rfl (fun w9 u9 hp9 => ?_)
                      have hp9 := (hp9.resolve_right (fun z => absurd (up1_s.symm.trans z.1) (by decide))).2
                      obtain ⟨rfl, rfl⟩ := hp9
                      change V X 0 0 (wM cy ma (up1 (up1 r3 4 tau) 4 2) (up1 e 1 (nI i)) (cpy (cpy g 0 bf 0 159) 0 g9 0 159) (cpy g 0 bf 0 159) hy sv bu le pa1) [some (.ref (ma 0)), some (.int (nI cnt)), some (.int (nI 0)), some (.int (nI i)), some (.int (mvl (oC c w).1))] [.int (nI 0)] 167
                      have hlt : (oC c w).1.toInt < 0 := by have := mt htau.mpr c148; omega
                      have hrn9 : rnC (pall t 61 0).2.2 v 0 = (some i, (oC c w).2) := by rw [hrn, hdr, rnC_no hlt]
                      have e9 : qRun S = -3 := by unfold qRun; rw [hscr, if_neg (by rw [hR1]; decide), ← hvS, hrn9]
                      have a9 : aRun S = aF S (nI i) := by unfold aRun; rw [hscr, if_neg (by rw [hR1]; decide), ← hvS, hrn9]
                      exact r_ireturn hX hE dX6_runScript_167 rfl (by rw [e9, a9]; exact ⟨rfl, MS_run hM0 (by rw [up1_ne (by decide), up1_ne (by decide), h30]; exact h0) h8 hH (by rw [up1_ne (by decide), up1_ne (by decide)]; exact h31) (by rw [up1_ne (by decide), up1_ne (by decide)]; exact h32) (by rw [up1_ne (by decide), up1_ne (by decide)]; exact h33) up1_s (by rw [show (aF S (nI i)).1 = v from hvS.symm]; exact (hR.congr (fun j hj => cpy_00 hj)).congr (fun j hj => cpy_00 hj)) rfl rfl rfl ((if_neg (by decide)).trans hE1) (if_pos rfl)⟩) (by decide) (by decide)
              exact loop130 _ 0 v g (up1 (up1 r1 6 0) 2 0) (Nat.lt_succ_self _) (Nat.zero_le _) hI hR (fun j hj => rfl) rfl
            · exact absurd c107 (by omega)
          · have hbx : b = true ∨ (pall t 61 0).2.1 < t.length := Or.inr (by omega)
            refine r_iconst (pc' := 91) (v := nI 1) hX dX6_runScript_90 rfl rfl ?_
            refine r_goto (tgt := 95) hX dX6_runScript_91 (by decide) ?_
            refine r_put (ws' := wM cy ma (up1 r1 6 1) e g bf hy sv bu le pa1) (pc' := 98) hX dX6_runScript_95 f_X6_168 fw_X6_14 0 rfl rfl rfl (Nat.le_of_ble_eq_true rfl) rfl rfl ?_
            refine r_aload_n (pc' := 99) hX dX6_runScript_98 rfl rfl ?_
            refine r_iconst (pc' := 100) (v := nI 0) hX dX6_runScript_99 rfl rfl ?_
            refine r_put (ws' := wM cy ma (up1 (up1 r1 6 1) 2 0) e g bf hy sv bu le pa1) (pc' := 103) hX dX6_runScript_100 f_X6_162 fw_X6_7 0 rfl rfl rfl (Nat.le_of_ble_eq_true rfl) rfl rfl ?_
            refine r_aload_n (pc' := 104) hX dX6_runScript_103 rfl rfl ?_
            refine r_get (pc' := 107) (v := .int (nI 1)) hX dX6_runScript_104 f_X6_168 0 rfl rfl rfl ?_
            refine r_if_eq_N (tgt := 124) (pc' := 110) hX dX6_runScript_107 (by decide) rfl (by omega) (fun c107 => ?_) (fun c107 => ?_)
            · exact absurd c107 (by omega)
            · refine r_aload_n (pc' := 111) hX dX6_runScript_110 rfl rfl ?_
              refine r_aload_n (pc' := 112) hX dX6_runScript_111 rfl rfl ?_
              refine r_get (pc' := 115) (v := .int (nI (r1 5))) hX dX6_runScript_112 f_X6_165 0 rfl rfl rfl ?_
              refine r_put (ws' := wM cy ma (up1 (up1 r1 6 1) 2 0) (up1 e 0 (nI (r1 5))) g bf hy sv bu le pa1) (pc' := 118) hX dX6_runScript_115 f_X6_26 fw_X6_8 0 rfl rfl rfl (Nat.le_of_ble_eq_true rfl) rfl rfl ?_
              have hR1 : (pall t 61 0).1 = true := hb9.mpr hbx
              have e9 : qRun S = -2 := by unfold qRun; rw [hscr, if_pos hR1]
              have a9 : aRun S = aE S (nI (scr S).2.1) := by unfold aRun; rw [hscr, if_pos hR1]
              refine r_aload_n (pc' := 119) hX dX6_runScript_118 rfl rfl ?_
              refine r_iconst (pc' := 120) (v := nI 1) hX dX6_runScript_119 rfl rfl ?_
              refine V_call0 (k' := 0) (n' := 0) (pc' := 123) hX (r_runV (As := [.int (nI 1)]) hX dX6_runScript_120 k_X6_67 (fun l9 hl9 => cM_fails (by omega)) hG ⟨8, _, TX6, 16, List.mem_cons_self, rfl⟩ rfl rfl (Nat.le_of_ble_eq_true rfl) (by decide) (by decide) (by decide) (by decide)) rfl rfl rfl (fun w9 u9 hp9 => ?_)
              obtain ⟨rfl, rfl⟩ := hp9
              change V X 0 0 (wM cy ma (up1 (up1 (up1 r1 6 1) 2 0) 4 1) (up1 e 0 (nI (r1 5))) g bf hy sv bu le pa1) [some (.ref (ma 0)), some (.int (nI cnt)), some (.int (nI 0)), none, none] [.int (nI 0)] 123
              exact r_ireturn hX hE dX6_runScript_123 rfl (by rw [e9, a9]; exact ⟨rfl, MS_run hM0 (by rw [up1_ne (by decide), up1_ne (by decide), up1_ne (by decide)]; exact (hPb.1 0 (by decide) (by decide)).trans h0) h8 hH (by rw [up1_ne (by decide), up1_ne (by decide), up1_ne (by decide)]; exact hPb.1 1 (by decide) (by decide)) (by rw [up1_ne (by decide), up1_s]) (by rw [up1_ne (by decide), up1_ne (by decide), up1_ne (by decide)]; exact hPb.1 3 (by decide) (by decide)) up1_s (show Rr S.1 g from hvS ▸ hR) rfl rfl rfl (by show up1 e 0 _ 0 = nI (scr S).2.1; rw [hscr, ← hb15]; exact if_pos rfl) (by show up1 e 0 _ 1 = _; exact (if_neg (by decide)).trans hE2)⟩) (by decide) (by decide)
      · obtain ⟨rfl, q, cs, hPq, hcl, h2q, hql, hPA, hpe⟩ := hD.resolve_right (fun z => c15 z.1)
        have hB1 : r1 2 = t.length ∧ t.length ≤ 60 ∧ LT bu t := ⟨(hPq.1 2 (by decide) (by decide)).trans hb1, hb2, hb3⟩
        have h61 : r1 6 = 0 := (PS_w hPq).1.mpr rfl
        refine r_aload_n (pc' := 19) hX dX6_runScript_18 rfl rfl ?_
        refine r_iconst (pc' := 20) (v := nI 4) hX dX6_runScript_19 rfl rfl ?_
        refine r_iload_n (pc' := 21) hX dX6_runScript_20 rfl rfl ?_
        refine r_imul_N (pc' := 22) hX dX6_runScript_21  rfl ?_
        refine V_call0 (k' := 0) (n' := 0) (pc' := 25) hX (r_runV (As := [.int (nI (4 * cnt))]) hX dX6_runScript_22 k_X6_198 (fun l9 hl9 => cM_parsesCommand (t := t) (p := q) (k := 4 * cnt) hB1 hch hPq.2.1 h61 (by omega) (by omega)) hG ⟨8, _, TX6, 16, List.mem_cons_self, rfl⟩ rfl rfl (Nat.le_of_ble_eq_true rfl) (by decide) (by decide) (by decide) (by decide)) rfl rfl rfl (fun w9 u9 hp9 => ?_)
        obtain ⟨rfl, r2, pa2, rfl, hCC⟩ := hp9
        change V X 0 0 (wM cy ma r2 e g bf hy sv bu le pa2) [some (.ref (ma 0)), some (.int (nI cnt)), some (.int (nI 1)), none, none] [] 25
        have hP2 := PS_tr hPq hCC.1
        have hw2 := PS_w hP2
        have hp2l : (prs t q).2.1 ≤ 61 := hP2.2.2.2
        have hp25 : r2 5 = (prs t q).2.1 := hP2.2.1
        refine r_iinc_N (b := 1) (L' := [some (.ref (ma 0)), some (.int (nI (cnt + 1))), some (.int (nI 1)), none, none]) (pc' := 28) hX dX6_runScript_25 rfl (nlt hnL (by decide)) rfl rfl rfl ?_
        refine r_aload_n (pc' := 29) hX dX6_runScript_28 rfl rfl ?_
        refine r_get (pc' := 32) (v := .int (nI (r2 6))) hX dX6_runScript_29 f_X6_168 0 rfl rfl rfl ?_
        refine r_if_ne_N (tgt := 48) (pc' := 35) hX dX6_runScript_32 (by decide) rfl (by omega) (fun c32 => ?_) (fun c32 => ?_)
        · have hLI : LI t r (up1 r2 5 (r2 5 + 0)) pa2 (cnt + 1) 0 := LI_wrong hb2 hPq hcl h2q hql hpe hCC (by cases e9 : (prs t q).1 with | true => rfl | false => exact absurd (hw2.1.mpr e9) c32)
          refine r_iconst (pc' := 49) (v := nI 0) hX dX6_runScript_48 rfl rfl ?_
          refine r_istore_n (L' := [some (.ref (ma 0)), some (.int (nI (cnt + 1))), some (.int (nI 0)), none, none]) (pc' := 50) hX dX6_runScript_49 (nlt hnL (by decide)) rfl rfl rfl ?_
          refine r_aload_n (pc' := 51) hX dX6_runScript_50 rfl rfl ?_
          refine r_dup (pc' := 52) hX dX6_runScript_51 rfl rfl ?_
          refine r_get (pc' := 55) (v := .int (nI (r2 5))) hX dX6_runScript_52 f_X6_165 0 rfl rfl rfl ?_
          refine r_iload_n (pc' := 56) hX dX6_runScript_55 rfl rfl ?_
          refine r_if_eq_N (tgt := 63) (pc' := 59) hX dX6_runScript_56 (by decide) rfl (by omega) (fun c56 => ?_) (fun c56 => ?_)
          · refine r_iconst (pc' := 64) (v := nI 0) hX dX6_runScript_63 rfl rfl ?_
            refine r_iadd_N (pc' := 65) hX dX6_runScript_64  rfl ?_
            refine r_put (ws' := wM cy ma (up1 r2 5 ((r2 5) + 0)) e g bf hy sv bu le pa2) (pc' := 68) hX dX6_runScript_65 f_X6_165 fw_X6_13 0 rfl rfl rfl (Nat.le_of_ble_eq_true rfl) rfl rfl ?_
            refine r_goto (tgt := 14) hX dX6_runScript_68 (by decide) ?_
            exact ih14 (cnt + 1) 0 (up1 r2 5 ((r2 5) + 0)) pa2 (by omega) hLI
          · exact absurd c56 (by omega)
        · refine r_aload_n (pc' := 36) hX dX6_runScript_35 rfl rfl ?_
          refine V_call0 (k' := 0) (n' := 0) (pc' := 39) hX (r_runV (As := []) hX dX6_runScript_36 k_X6_172 (fun l9 hl9 => cM_here (r0 := r) (t := t) (x := ((prs t q).1, (prs t q).2.1)) ⟨hb1, hb2, hb3⟩ hch hP2) hG ⟨8, _, TX6, 16, List.mem_cons_self, rfl⟩ rfl rfl (Nat.le_of_ble_eq_true rfl) (by decide) (by decide) (by decide) (by decide)) rfl rfl rfl (fun w9 u9 hp9 => ?_)
          obtain ⟨rfl, rfl⟩ := hp9
          change V X 0 0 (wM cy ma r2 e g bf hy sv bu le pa2) [some (.ref (ma 0)), some (.int (nI (cnt + 1))), some (.int (nI 1)), none, none] [.int (hrI t (prs t q).2.1)] 39
          refine r_bipush (pc' := 41) (v := nI 59) hX dX6_runScript_39 rfl rfl ?_
          refine r_icmp_ne_I (tgt := 48) (pc' := 44) hX dX6_runScript_41 (by decide) rfl rfl (nI_I (by omega)) (fun c41 => ?_) (fun c41 => ?_)
          · have hLI : LI t r (up1 r2 5 (r2 5 + 0)) pa2 (cnt + 1) 0 := LI_stop hb2 hPq hcl h2q hql hPA hpe hCC (hw2.1.mp c32) (fun z => c41 ((hrI_eq hch (by omega)).mpr z))
            refine r_iconst (pc' := 49) (v := nI 0) hX dX6_runScript_48 rfl rfl ?_
            refine r_istore_n (L' := [some (.ref (ma 0)), some (.int (nI (cnt + 1))), some (.int (nI 0)), none, none]) (pc' := 50) hX dX6_runScript_49 (nlt hnL (by decide)) rfl rfl rfl ?_
            refine r_aload_n (pc' := 51) hX dX6_runScript_50 rfl rfl ?_
            refine r_dup (pc' := 52) hX dX6_runScript_51 rfl rfl ?_
            refine r_get (pc' := 55) (v := .int (nI (r2 5))) hX dX6_runScript_52 f_X6_165 0 rfl rfl rfl ?_
            refine r_iload_n (pc' := 56) hX dX6_runScript_55 rfl rfl ?_
            refine r_if_eq_N (tgt := 63) (pc' := 59) hX dX6_runScript_56 (by decide) rfl (by omega) (fun c56 => ?_) (fun c56 => ?_)
            · refine r_iconst (pc' := 64) (v := nI 0) hX dX6_runScript_63 rfl rfl ?_
              refine r_iadd_N (pc' := 65) hX dX6_runScript_64  rfl ?_
              refine r_put (ws' := wM cy ma (up1 r2 5 ((r2 5) + 0)) e g bf hy sv bu le pa2) (pc' := 68) hX dX6_runScript_65 f_X6_165 fw_X6_13 0 rfl rfl rfl (Nat.le_of_ble_eq_true rfl) rfl rfl ?_
              refine r_goto (tgt := 14) hX dX6_runScript_68 (by decide) ?_
              exact ih14 (cnt + 1) 0 (up1 r2 5 ((r2 5) + 0)) pa2 (by omega) hLI
            · exact absurd c56 (by omega)
          · refine r_iconst (pc' := 45) (v := nI 1) hX dX6_runScript_44 rfl rfl ?_
            refine r_goto (tgt := 49) hX dX6_runScript_45 (by decide) ?_
            refine r_istore_n (L' := [some (.ref (ma 0)), some (.int (nI (cnt + 1))), some (.int (nI 1)), none, none]) (pc' := 50) hX dX6_runScript_49 (nlt hnL (by decide)) rfl rfl rfl ?_
            refine r_aload_n (pc' := 51) hX dX6_runScript_50 rfl rfl ?_
            refine r_dup (pc' := 52) hX dX6_runScript_51 rfl rfl ?_
            refine r_get (pc' := 55) (v := .int (nI (r2 5))) hX dX6_runScript_52 f_X6_165 0 rfl rfl rfl ?_
            refine r_iload_n (pc' := 56) hX dX6_runScript_55 rfl rfl ?_
            refine r_if_eq_N (tgt := 63) (pc' := 59) hX dX6_runScript_56 (by decide) rfl (by omega) (fun c56 => ?_) (fun c56 => ?_)
            · exact absurd c56 (by omega)
            · refine r_iconst (pc' := 60) (v := nI 1) hX dX6_runScript_59 rfl rfl ?_
              refine r_goto (tgt := 64) hX dX6_runScript_60 (by decide) ?_
              refine r_iadd_N (pc' := 65) hX dX6_runScript_64  rfl ?_
              refine r_put (ws' := wM cy ma (up1 r2 5 ((r2 5) + 1)) e g bf hy sv bu le pa2) (pc' := 68) hX dX6_runScript_65 f_X6_165 fw_X6_13 0 rfl rfl rfl (Nat.le_of_ble_eq_true rfl) rfl rfl ?_
              refine r_goto (tgt := 14) hX dX6_runScript_68 (by decide) ?_
              exact ih14 (cnt + 1) 1 (up1 r2 5 ((r2 5) + 1)) pa2 (by omega) (LI_on hb2 hPq hcl h2q hql hPA hpe hCC (hw2.1.mp c32) ((hrI_eq hch (by omega)).mp c41))
  exact loop14 _ 0 1 (up1 (up1 r 5 0) 6 0) pa (Nat.lt_succ_self _) (.inl ⟨rfl, 0, [], ⟨fun j q1 q2 => by rw [up1_ne q2, up1_ne q1], rfl, rfl, by decide⟩, rfl, by decide, Nat.zero_le _, fun i hi => absurd hi (Nat.not_lt_zero _), rfl⟩)
