theorem FS_recv {cy : Nat → ClassId} {f : Nat} {S : AS} {ws : va_W} (h : FS cy f S ws) : ∃ (ci : Nat) (fs : List Value) (T : u_T) (N : Nat), (f, Sum.inr (ci, fs)) ∈ ws ∧ vwCl[ci]? = some (RX5, T, N) := by
  obtain ⟨fa, s, o, pr, un, hs, an, e1, e2, fc, SC, OB, sn, AD, VS, rfl, hF⟩ := h
  exact ⟨7, _, TX5, 9, List.mem_cons_self, rfl⟩
theorem share_num {v : SV} (h : ¬ v 0 6 = 0) (hb : v 0 6 < 1000000) : vf_n64 (FP.f2d (qShare v)) := by
  unfold qShare
  rw [if_neg h]
  exact Jvm.Free.Fl.f2d_out (nn32 (nI_ne0 (by omega) (by omega)))
set_option maxRecDepth 20000 in
set_option maxHeartbeats 1000000 in
theorem cW_addAlloy {l : Launch} {D : va_G} {cy : Nat → ClassId} {sa : Nat → Nat} {f K o : Nat} {fl : Nat → Int64} {S : AS} {ws : va_W} {v : SV} (hvS : v = S.1) (hS : FS cy f S ws) (hI : AI K S) {x y z : Int32} (hst : l.stackTraces = false) (hq : 0 ≤ ((oMix v x y z).1).toInt ∨ (oMix v x y z).1 = -2 ∨ (oMix v x y z).1 = -3) : MGW l yL_addAlloy cL_addAlloy 6 (some .int) [(0, 12, 15, 13), (0, 12, 19, 15)] 9 1 6 (D, cy, sa) [.ref f, .int x, .int y, .int z, .ref o] (([(o, .inl (cy 6, aL 1 fl))] ++ ws)) (fun w u => ∃ (fl1 : Nat → Int64) (ws1 : va_W), w = some (.int (nI (kd 0 1 2 0 0 ((oMix v x y z).1)))) ∧ u = [(o, .inl (cy 6, aL 1 fl1))] ++ ws1 ∧ (0 ≤ ((oMix v x y z).1).toInt → FS cy f (((oMix v x y z).2, (S.1 :: S.2.1).take 8, S.2.2)) ws1 ∧ fl1 0 = ((oMix v x y z).1).toInt64) ∧ (((oMix v x y z).1).toInt < 0 → FS cy f (S) ws1)) := by
  refine MGW_by (own := RL) (L := [some (.ref f), some (.int x), some (.int y), some (.int z), some (.ref o), none]) (by decide +kernel) rfl rfl (Nat.le_of_ble_eq_true rfl) 1 rfl (fun X hX hE hT hnL hG hcy hl => ?_)
  refine r_aload (pc' := 2) hX dL_addAlloy_0 rfl rfl ?_
  refine r_iconst (pc' := 3) (v := nI 0) hX dL_addAlloy_2 rfl rfl ?_
  refine r_aload_n (pc' := 4) hX dL_addAlloy_3 rfl rfl ?_
  refine r_iload_n (pc' := 5) hX dL_addAlloy_4 rfl rfl ?_
  refine r_iload_n (pc' := 6) hX dL_addAlloy_5 rfl rfl ?_
  refine r_iload_n (pc' := 7) hX dL_addAlloy_6 rfl rfl ?_
  refine V_callX (k' := 1) (n' := 6) (pc' := 10) (wr := [(o, .inl (cy 6, aL 1 fl))]) hX (r_runVX (As := [.int x, .int y, .int z]) hX dL_addAlloy_7 k_L_7 (fun l9 hl9 => by cases hl9; exact cF_addAlloy hvS hS hI (hst := (by rw [hl]; exact hst)) ) hG (FS_recv hS) rfl rfl (Nat.le_of_ble_eq_true rfl) (by decide) (by decide) (by decide) (by decide)) (List.perm_append_comm) rfl rfl rfl (fun w9 u9 hp9 => ?_) ?_
  · obtain ⟨okq, rfl, hS9⟩ := hp9
    change V X 1 6 (u9 ++ [(o, .inl (cy 6, aL 1 fl))]) [some (.ref f), some (.int x), some (.int y), some (.int z), some (.ref o), none] [.int ((oMix v x y z).1), .int (nI 0), .ref o] 10
    refine V_perm (List.perm_append_comm) ?_
    change V X 1 6 ([(o, .inl (cy 6, aL 1 fl))] ++ u9) [some (.ref f), some (.int x), some (.int y), some (.int z), some (.ref o), none] [.int ((oMix v x y z).1), .int (nI 0), .ref o] 10
    refine r_i2l (pc' := 11) hX dL_addAlloy_10 rfl rfl ?_
    refine r_last (pc' := 12) hX dL_addAlloy_11 (by rw [hcy]) 0 rfl rfl (fun flq11 hflq11 => ?_)
    change V X 1 6 ([(o, .inl (cy 6, aL 1 flq11))] ++ u9) [some (.ref f), some (.int x), some (.int y), some (.int z), some (.ref o), none] [] 12
    refine r_goto (tgt := 23) hX dL_addAlloy_12 (by decide) ?_
    refine r_iconst (pc' := 24) (v := nI 0) hX dL_addAlloy_23 rfl rfl ?_
    have hq0 : 0 ≤ ((oMix v x y z).1).toInt := by
      rcases hq with hq | hq | hq
      · exact hq
      · exact absurd (show noA ((oMix v x y z).1) from by rw [hq]; decide) okq
      · exact absurd (show noA ((oMix v x y z).1) from by rw [hq]; decide) okq
    exact r_ireturn hX hE dL_addAlloy_24 rfl ⟨_, _, by rw [kd_pos hq0], rfl, fun _ => ⟨hS9, hflq11⟩, fun h9 => absurd hq0 (by omega)⟩ (by omega) (by omega)
  · intro E9 u9 hp9
    obtain ⟨hx9, hE9, hS9⟩ := hp9
    rcases hq with hq | hq | hq
    · exact absurd hq (by omega)
    · have hE8 : E9 = "java/lang/IllegalArgumentException" := by rw [hE9, hq]; rfl
      subst hE8
      refine VX_catch hX hT [] ⟨0, 12, 15, 13⟩ [⟨0, 12, 19, 15⟩] rfl (fun z hz => by cases hz) rfl (by decide) (m3 (j := 238) rfl rfl) ⟨n3 (j := 40) rfl rfl, rfl⟩ (fun q9 => ?_)
      refine V_perm (ws2 := [(o, .inl (cy 6, aL 1 fl))] ++ u9) List.perm_append_comm ?_
      refine r_astore (L' := [some (.ref f), some (.int x), some (.int y), some (.int z), some (.ref o), some (.ref q9)]) (pc' := 17) hX dL_addAlloy_15 (nlt hnL (by decide)) rfl rfl rfl ?_
      refine r_iconst (pc' := 18) (v := nI 1) hX dL_addAlloy_17 rfl rfl ?_
      exact r_ireturn hX hE dL_addAlloy_18 rfl ⟨_, _, by rw [hq]; rfl, rfl, fun h9 => absurd h9 (by rw [hq]; decide), fun _ => hS9⟩ (by decide) (by decide)
    · have hE8 : E9 = "java/lang/IllegalStateException" := by rw [hE9, hq]; rfl
      subst hE8
      refine VX_catch hX hT [⟨0, 12, 15, 13⟩] ⟨0, 12, 19, 15⟩ [] rfl (fun z hz => by
        simp only [List.mem_cons, List.not_mem_nil, or_false] at hz
        rcases hz with rfl
        · exact ⟨by decide, _, m3 (j := 238) rfl rfl, 1, 0, by decide, by decide, by decide, rfl, rfl⟩) rfl (by decide) (m3 (j := 239) rfl rfl) ⟨n4 (j := 44) rfl rfl, rfl⟩ (fun q9 => ?_)
      refine V_perm (ws2 := [(o, .inl (cy 6, aL 1 fl))] ++ u9) List.perm_append_comm ?_
      refine r_astore (L' := [some (.ref f), some (.int x), some (.int y), some (.int z), some (.ref o), some (.ref q9)]) (pc' := 21) hX dL_addAlloy_19 (nlt hnL (by decide)) rfl rfl rfl ?_
      refine r_iconst (pc' := 22) (v := nI 2) hX dL_addAlloy_21 rfl rfl ?_
      exact r_ireturn hX hE dL_addAlloy_22 rfl ⟨_, _, by rw [hq]; rfl, rfl, fun h9 => absurd h9 (by rw [hq]; decide), fun _ => hS9⟩ (by decide) (by decide)

set_option maxRecDepth 20000 in
set_option maxHeartbeats 1000000 in
theorem cW_addMould {l : Launch} {D : va_G} {cy : Nat → ClassId} {sa : Nat → Nat} {f K o : Nat} {fl : Nat → Int64} {S : AS} {ws : va_W} {v : SV} (hvS : v = S.1) (hS : FS cy f S ws) (hI : AI K S) {x : Int32} (hst : l.stackTraces = false) (hq : 0 ≤ ((oMould v x).1).toInt ∨ (oMould v x).1 = -2 ∨ (oMould v x).1 = -3) : MGW l yL_addMould cL_addMould 4 (some .int) [(0, 9, 12, 13), (0, 9, 15, 15)] 9 1 6 (D, cy, sa) [.ref f, .int x, .ref o] (([(o, .inl (cy 6, aL 1 fl))] ++ ws)) (fun w u => ∃ (fl1 : Nat → Int64) (ws1 : va_W), w = some (.int (nI (kd 0 1 2 0 0 ((oMould v x).1)))) ∧ u = [(o, .inl (cy 6, aL 1 fl1))] ++ ws1 ∧ (0 ≤ ((oMould v x).1).toInt → FS cy f (((oMould v x).2, (S.1 :: S.2.1).take 8, S.2.2)) ws1 ∧ fl1 0 = ((oMould v x).1).toInt64) ∧ (((oMould v x).1).toInt < 0 → FS cy f (S) ws1)) := by
  refine MGW_by (own := RL) (L := [some (.ref f), some (.int x), some (.ref o), none]) (by decide +kernel) rfl rfl (Nat.le_of_ble_eq_true rfl) 1 rfl (fun X hX hE hT hnL hG hcy hl => ?_)
  refine r_aload_n (pc' := 1) hX dL_addMould_0 rfl rfl ?_
  refine r_iconst (pc' := 2) (v := nI 0) hX dL_addMould_1 rfl rfl ?_
  refine r_aload_n (pc' := 3) hX dL_addMould_2 rfl rfl ?_
  refine r_iload_n (pc' := 4) hX dL_addMould_3 rfl rfl ?_
  refine V_callX (k' := 1) (n' := 6) (pc' := 7) (wr := [(o, .inl (cy 6, aL 1 fl))]) hX (r_runVX (As := [.int x]) hX dL_addMould_4 k_L_17 (fun l9 hl9 => by cases hl9; exact cF_addMould hvS hS hI (hst := (by rw [hl]; exact hst)) ) hG (FS_recv hS) rfl rfl (Nat.le_of_ble_eq_true rfl) (by decide) (by decide) (by decide) (by decide)) (List.perm_append_comm) rfl rfl rfl (fun w9 u9 hp9 => ?_) ?_
  · obtain ⟨okq, rfl, hS9⟩ := hp9
    change V X 1 6 (u9 ++ [(o, .inl (cy 6, aL 1 fl))]) [some (.ref f), some (.int x), some (.ref o), none] [.int ((oMould v x).1), .int (nI 0), .ref o] 7
    refine V_perm (List.perm_append_comm) ?_
    change V X 1 6 ([(o, .inl (cy 6, aL 1 fl))] ++ u9) [some (.ref f), some (.int x), some (.ref o), none] [.int ((oMould v x).1), .int (nI 0), .ref o] 7
    refine r_i2l (pc' := 8) hX dL_addMould_7 rfl rfl ?_
    refine r_last (pc' := 9) hX dL_addMould_8 (by rw [hcy]) 0 rfl rfl (fun flq8 hflq8 => ?_)
    change V X 1 6 ([(o, .inl (cy 6, aL 1 flq8))] ++ u9) [some (.ref f), some (.int x), some (.ref o), none] [] 9
    refine r_goto (tgt := 18) hX dL_addMould_9 (by decide) ?_
    refine r_iconst (pc' := 19) (v := nI 0) hX dL_addMould_18 rfl rfl ?_
    have hq0 : 0 ≤ ((oMould v x).1).toInt := by
      rcases hq with hq | hq | hq
      · exact hq
      · exact absurd (show noA ((oMould v x).1) from by rw [hq]; decide) okq
      · exact absurd (show noA ((oMould v x).1) from by rw [hq]; decide) okq
    exact r_ireturn hX hE dL_addMould_19 rfl ⟨_, _, by rw [kd_pos hq0], rfl, fun _ => ⟨hS9, hflq8⟩, fun h9 => absurd hq0 (by omega)⟩ (by omega) (by omega)
  · intro E9 u9 hp9
    obtain ⟨hx9, hE9, hS9⟩ := hp9
    rcases hq with hq | hq | hq
    · exact absurd hq (by omega)
    · have hE8 : E9 = "java/lang/IllegalArgumentException" := by rw [hE9, hq]; rfl
      subst hE8
      refine VX_catch hX hT [] ⟨0, 9, 12, 13⟩ [⟨0, 9, 15, 15⟩] rfl (fun z hz => by cases hz) rfl (by decide) (m3 (j := 238) rfl rfl) ⟨n3 (j := 40) rfl rfl, rfl⟩ (fun q9 => ?_)
      refine V_perm (ws2 := [(o, .inl (cy 6, aL 1 fl))] ++ u9) List.perm_append_comm ?_
      refine r_astore_n (L' := [some (.ref f), some (.int x), some (.ref o), some (.ref q9)]) (pc' := 13) hX dL_addMould_12 (nlt hnL (by decide)) rfl rfl rfl ?_
      refine r_iconst (pc' := 14) (v := nI 1) hX dL_addMould_13 rfl rfl ?_
      exact r_ireturn hX hE dL_addMould_14 rfl ⟨_, _, by rw [hq]; rfl, rfl, fun h9 => absurd h9 (by rw [hq]; decide), fun _ => hS9⟩ (by decide) (by decide)
    · have hE8 : E9 = "java/lang/IllegalStateException" := by rw [hE9, hq]; rfl
      subst hE8
      refine VX_catch hX hT [⟨0, 9, 12, 13⟩] ⟨0, 9, 15, 15⟩ [] rfl (fun z hz => by
        simp only [List.mem_cons, List.not_mem_nil, or_false] at hz
        rcases hz with rfl
        · exact ⟨by decide, _, m3 (j := 238) rfl rfl, 1, 0, by decide, by decide, by decide, rfl, rfl⟩) rfl (by decide) (m3 (j := 239) rfl rfl) ⟨n4 (j := 44) rfl rfl, rfl⟩ (fun q9 => ?_)
      refine V_perm (ws2 := [(o, .inl (cy 6, aL 1 fl))] ++ u9) List.perm_append_comm ?_
      refine r_astore_n (L' := [some (.ref f), some (.int x), some (.ref o), some (.ref q9)]) (pc' := 16) hX dL_addMould_15 (nlt hnL (by decide)) rfl rfl rfl ?_
      refine r_iconst (pc' := 17) (v := nI 2) hX dL_addMould_16 rfl rfl ?_
      exact r_ireturn hX hE dL_addMould_17 rfl ⟨_, _, by rw [hq]; rfl, rfl, fun h9 => absurd h9 (by rw [hq]; decide), fun _ => hS9⟩ (by decide) (by decide)

set_option maxRecDepth 20000 in
set_option maxHeartbeats 1000000 in
theorem cW_buy {l : Launch} {D : va_G} {cy : Nat → ClassId} {sa : Nat → Nat} {f K o : Nat} {fl : Nat → Int64} {S : AS} {ws : va_W} {v : SV} (hvS : v = S.1) (hS : FS cy f S ws) (hI : AI K S) {x y : Int32} (hst : l.stackTraces = false) (hq : 0 ≤ ((oBuy v x y).1).toInt ∨ (oBuy v x y).1 = -1 ∨ (oBuy v x y).1 = -2 ∨ (oBuy v x y).1 = -3) : MGW l yL_buy cL_buy 5 (some .int) [(0, 10, 13, 25), (0, 10, 17, 13), (0, 10, 21, 15)] 9 1 6 (D, cy, sa) [.ref f, .int x, .int y, .ref o] (([(o, .inl (cy 6, aL 1 fl))] ++ ws)) (fun w u => ∃ (fl1 : Nat → Int64) (ws1 : va_W), w = some (.int (nI (kd 1 2 3 0 0 ((oBuy v x y).1)))) ∧ u = [(o, .inl (cy 6, aL 1 fl1))] ++ ws1 ∧ (0 ≤ ((oBuy v x y).1).toInt → FS cy f (((oBuy v x y).2, (S.1 :: S.2.1).take 8, S.2.2)) ws1 ∧ fl1 0 = ((oBuy v x y).1).toInt64) ∧ (((oBuy v x y).1).toInt < 0 → FS cy f (S) ws1)) := by
  refine MGW_by (own := RL) (L := [some (.ref f), some (.int x), some (.int y), some (.ref o), none]) (by decide +kernel) rfl rfl (Nat.le_of_ble_eq_true rfl) 1 rfl (fun X hX hE hT hnL hG hcy hl => ?_)
  refine r_aload_n (pc' := 1) hX dL_buy_0 rfl rfl ?_
  refine r_iconst (pc' := 2) (v := nI 0) hX dL_buy_1 rfl rfl ?_
  refine r_aload_n (pc' := 3) hX dL_buy_2 rfl rfl ?_
  refine r_iload_n (pc' := 4) hX dL_buy_3 rfl rfl ?_
  refine r_iload_n (pc' := 5) hX dL_buy_4 rfl rfl ?_
  refine V_callX (k' := 1) (n' := 6) (pc' := 8) (wr := [(o, .inl (cy 6, aL 1 fl))]) hX (r_runVX (As := [.int x, .int y]) hX dL_buy_5 k_L_21 (fun l9 hl9 => by cases hl9; exact cF_buy hvS hS hI (hst := (by rw [hl]; exact hst)) ) hG (FS_recv hS) rfl rfl (Nat.le_of_ble_eq_true rfl) (by decide) (by decide) (by decide) (by decide)) (List.perm_append_comm) rfl rfl rfl (fun w9 u9 hp9 => ?_) ?_
  · obtain ⟨okq, rfl, hS9⟩ := hp9
    change V X 1 6 (u9 ++ [(o, .inl (cy 6, aL 1 fl))]) [some (.ref f), some (.int x), some (.int y), some (.ref o), none] [.int ((oBuy v x y).1), .int (nI 0), .ref o] 8
    refine V_perm (List.perm_append_comm) ?_
    change V X 1 6 ([(o, .inl (cy 6, aL 1 fl))] ++ u9) [some (.ref f), some (.int x), some (.int y), some (.ref o), none] [.int ((oBuy v x y).1), .int (nI 0), .ref o] 8
    refine r_i2l (pc' := 9) hX dL_buy_8 rfl rfl ?_
    refine r_last (pc' := 10) hX dL_buy_9 (by rw [hcy]) 0 rfl rfl (fun flq9 hflq9 => ?_)
    change V X 1 6 ([(o, .inl (cy 6, aL 1 flq9))] ++ u9) [some (.ref f), some (.int x), some (.int y), some (.ref o), none] [] 10
    refine r_goto (tgt := 25) hX dL_buy_10 (by decide) ?_
    refine r_iconst (pc' := 26) (v := nI 0) hX dL_buy_25 rfl rfl ?_
    have hq0 : 0 ≤ ((oBuy v x y).1).toInt := by
      rcases hq with hq | hq | hq | hq
      · exact hq
      · exact absurd (show noA ((oBuy v x y).1) from by rw [hq]; decide) okq
      · exact absurd (show noA ((oBuy v x y).1) from by rw [hq]; decide) okq
      · exact absurd (show noA ((oBuy v x y).1) from by rw [hq]; decide) okq
    exact r_ireturn hX hE dL_buy_26 rfl ⟨_, _, by rw [kd_pos hq0], rfl, fun _ => ⟨hS9, hflq9⟩, fun h9 => absurd hq0 (by omega)⟩ (by omega) (by omega)
  · intro E9 u9 hp9
    obtain ⟨hx9, hE9, hS9⟩ := hp9
    rcases hq with hq | hq | hq | hq
    · exact absurd hq (by omega)
    · have hE8 : E9 = "java/lang/IndexOutOfBoundsException" := by rw [hE9, hq]; rfl
      subst hE8
      refine VX_catch hX hT [] ⟨0, 10, 13, 25⟩ [⟨0, 10, 17, 13⟩, ⟨0, 10, 21, 15⟩] rfl (fun z hz => by cases hz) rfl (by decide) (m4 (j := 104) rfl rfl) ⟨n4 (j := 28) rfl rfl, rfl⟩ (fun q9 => ?_)
      refine V_perm (ws2 := [(o, .inl (cy 6, aL 1 fl))] ++ u9) List.perm_append_comm ?_
      refine r_astore (L' := [some (.ref f), some (.int x), some (.int y), some (.ref o), some (.ref q9)]) (pc' := 15) hX dL_buy_13 (nlt hnL (by decide)) rfl rfl rfl ?_
      refine r_iconst (pc' := 16) (v := nI 1) hX dL_buy_15 rfl rfl ?_
      exact r_ireturn hX hE dL_buy_16 rfl ⟨_, _, by rw [hq]; rfl, rfl, fun h9 => absurd h9 (by rw [hq]; decide), fun _ => hS9⟩ (by decide) (by decide)
    · have hE8 : E9 = "java/lang/IllegalArgumentException" := by rw [hE9, hq]; rfl
      subst hE8
      refine VX_catch hX hT [⟨0, 10, 13, 25⟩] ⟨0, 10, 17, 13⟩ [⟨0, 10, 21, 15⟩] rfl (fun z hz => by
        simp only [List.mem_cons, List.not_mem_nil, or_false] at hz
        rcases hz with rfl
        · exact ⟨by decide, _, m4 (j := 104) rfl rfl, 0, 2, by decide, by decide, by decide, rfl, rfl⟩) rfl (by decide) (m3 (j := 238) rfl rfl) ⟨n3 (j := 40) rfl rfl, rfl⟩ (fun q9 => ?_)
      refine V_perm (ws2 := [(o, .inl (cy 6, aL 1 fl))] ++ u9) List.perm_append_comm ?_
      refine r_astore (L' := [some (.ref f), some (.int x), some (.int y), some (.ref o), some (.ref q9)]) (pc' := 19) hX dL_buy_17 (nlt hnL (by decide)) rfl rfl rfl ?_
      refine r_iconst (pc' := 20) (v := nI 2) hX dL_buy_19 rfl rfl ?_
      exact r_ireturn hX hE dL_buy_20 rfl ⟨_, _, by rw [hq]; rfl, rfl, fun h9 => absurd h9 (by rw [hq]; decide), fun _ => hS9⟩ (by decide) (by decide)
    · have hE8 : E9 = "java/lang/IllegalStateException" := by rw [hE9, hq]; rfl
      subst hE8
      refine VX_catch hX hT [⟨0, 10, 13, 25⟩, ⟨0, 10, 17, 13⟩] ⟨0, 10, 21, 15⟩ [] rfl (fun z hz => by
        simp only [List.mem_cons, List.not_mem_nil, or_false] at hz
        rcases hz with rfl | rfl
        · exact ⟨by decide, _, m4 (j := 104) rfl rfl, 1, 2, by decide, by decide, by decide, rfl, rfl⟩
        · exact ⟨by decide, _, m3 (j := 238) rfl rfl, 1, 0, by decide, by decide, by decide, rfl, rfl⟩) rfl (by decide) (m3 (j := 239) rfl rfl) ⟨n4 (j := 44) rfl rfl, rfl⟩ (fun q9 => ?_)
      refine V_perm (ws2 := [(o, .inl (cy 6, aL 1 fl))] ++ u9) List.perm_append_comm ?_
      refine r_astore (L' := [some (.ref f), some (.int x), some (.int y), some (.ref o), some (.ref q9)]) (pc' := 23) hX dL_buy_21 (nlt hnL (by decide)) rfl rfl rfl ?_
      refine r_iconst (pc' := 24) (v := nI 3) hX dL_buy_23 rfl rfl ?_
      exact r_ireturn hX hE dL_buy_24 rfl ⟨_, _, by rw [hq]; rfl, rfl, fun h9 => absurd h9 (by rw [hq]; decide), fun _ => hS9⟩ (by decide) (by decide)

set_option maxRecDepth 20000 in
set_option maxHeartbeats 1000000 in
theorem cW_cast {l : Launch} {D : va_G} {cy : Nat → ClassId} {sa : Nat → Nat} {f K o : Nat} {fl : Nat → Int64} {S : AS} {ws : va_W} {v : SV} (hvS : v = S.1) (hS : FS cy f S ws) (hI : AI K S) {x y z : Int32} (hst : l.stackTraces = false) (hq : 0 ≤ ((oPour v x y z).1).toInt ∨ (oPour v x y z).1 = -1 ∨ (oPour v x y z).1 = -2 ∨ (oPour v x y z).1 = -3 ∨ (oPour v x y z).1 = -4) : MGW l yL_cast cL_cast 6 (some .int) [(0, 12, 15, 25), (0, 12, 19, 13), (0, 12, 23, 15), (0, 12, 27, 30)] 9 1 6 (D, cy, sa) [.ref f, .int x, .int y, .int z, .ref o] (([(o, .inl (cy 6, aL 1 fl))] ++ ws)) (fun w u => ∃ (fl1 : Nat → Int64) (ws1 : va_W), w = some (.int (nI (kd 1 2 3 4 0 ((oPour v x y z).1)))) ∧ u = [(o, .inl (cy 6, aL 1 fl1))] ++ ws1 ∧ (0 ≤ ((oPour v x y z).1).toInt → FS cy f (((oPour v x y z).2, (S.1 :: S.2.1).take 8, S.2.2)) ws1 ∧ fl1 0 = ((oPour v x y z).1).toInt64) ∧ (((oPour v x y z).1).toInt < 0 → FS cy f (S) ws1)) := by
  refine MGW_by (own := RL) (L := [some (.ref f), some (.int x), some (.int y), some (.int z), some (.ref o), none]) (by decide +kernel) rfl rfl (Nat.le_of_ble_eq_true rfl) 1 rfl (fun X hX hE hT hnL hG hcy hl => ?_)
  refine r_aload (pc' := 2) hX dL_cast_0 rfl rfl ?_
  refine r_iconst (pc' := 3) (v := nI 0) hX dL_cast_2 rfl rfl ?_
  refine r_aload_n (pc' := 4) hX dL_cast_3 rfl rfl ?_
  refine r_iload_n (pc' := 5) hX dL_cast_4 rfl rfl ?_
  refine r_iload_n (pc' := 6) hX dL_cast_5 rfl rfl ?_
  refine r_iload_n (pc' := 7) hX dL_cast_6 rfl rfl ?_
  refine V_callX (k' := 1) (n' := 6) (pc' := 10) (wr := [(o, .inl (cy 6, aL 1 fl))]) hX (r_runVX (As := [.int x, .int y, .int z]) hX dL_cast_7 k_L_27 (fun l9 hl9 => by cases hl9; exact cF_cast hvS hS hI (hst := (by rw [hl]; exact hst)) ) hG (FS_recv hS) rfl rfl (Nat.le_of_ble_eq_true rfl) (by decide) (by decide) (by decide) (by decide)) (List.perm_append_comm) rfl rfl rfl (fun w9 u9 hp9 => ?_) ?_
  · obtain ⟨okq, rfl, hS9⟩ := hp9
    change V X 1 6 (u9 ++ [(o, .inl (cy 6, aL 1 fl))]) [some (.ref f), some (.int x), some (.int y), some (.int z), some (.ref o), none] [.int ((oPour v x y z).1), .int (nI 0), .ref o] 10
    refine V_perm (List.perm_append_comm) ?_
    change V X 1 6 ([(o, .inl (cy 6, aL 1 fl))] ++ u9) [some (.ref f), some (.int x), some (.int y), some (.int z), some (.ref o), none] [.int ((oPour v x y z).1), .int (nI 0), .ref o] 10
    refine r_i2l (pc' := 11) hX dL_cast_10 rfl rfl ?_
    refine r_last (pc' := 12) hX dL_cast_11 (by rw [hcy]) 0 rfl rfl (fun flq11 hflq11 => ?_)
    change V X 1 6 ([(o, .inl (cy 6, aL 1 flq11))] ++ u9) [some (.ref f), some (.int x), some (.int y), some (.int z), some (.ref o), none] [] 12
    refine r_goto (tgt := 31) hX dL_cast_12 (by decide) ?_
    refine r_iconst (pc' := 32) (v := nI 0) hX dL_cast_31 rfl rfl ?_
    have hq0 : 0 ≤ ((oPour v x y z).1).toInt := by
      rcases hq with hq | hq | hq | hq | hq
      · exact hq
      · exact absurd (show noA ((oPour v x y z).1) from by rw [hq]; decide) okq
      · exact absurd (show noA ((oPour v x y z).1) from by rw [hq]; decide) okq
      · exact absurd (show noA ((oPour v x y z).1) from by rw [hq]; decide) okq
      · exact absurd (show noA ((oPour v x y z).1) from by rw [hq]; decide) okq
    exact r_ireturn hX hE dL_cast_32 rfl ⟨_, _, by rw [kd_pos hq0], rfl, fun _ => ⟨hS9, hflq11⟩, fun h9 => absurd hq0 (by omega)⟩ (by omega) (by omega)
  · intro E9 u9 hp9
    obtain ⟨hx9, hE9, hS9⟩ := hp9
    rcases hq with hq | hq | hq | hq | hq
    · exact absurd hq (by omega)
    · have hE8 : E9 = "java/lang/IndexOutOfBoundsException" := by rw [hE9, hq]; rfl
      subst hE8
      refine VX_catch hX hT [] ⟨0, 12, 15, 25⟩ [⟨0, 12, 19, 13⟩, ⟨0, 12, 23, 15⟩, ⟨0, 12, 27, 30⟩] rfl (fun z hz => by cases hz) rfl (by decide) (m4 (j := 104) rfl rfl) ⟨n4 (j := 28) rfl rfl, rfl⟩ (fun q9 => ?_)
      refine V_perm (ws2 := [(o, .inl (cy 6, aL 1 fl))] ++ u9) List.perm_append_comm ?_
      refine r_astore (L' := [some (.ref f), some (.int x), some (.int y), some (.int z), some (.ref o), some (.ref q9)]) (pc' := 17) hX dL_cast_15 (nlt hnL (by decide)) rfl rfl rfl ?_
      refine r_iconst (pc' := 18) (v := nI 1) hX dL_cast_17 rfl rfl ?_
      exact r_ireturn hX hE dL_cast_18 rfl ⟨_, _, by rw [hq]; rfl, rfl, fun h9 => absurd h9 (by rw [hq]; decide), fun _ => hS9⟩ (by decide) (by decide)
    · have hE8 : E9 = "java/lang/IllegalArgumentException" := by rw [hE9, hq]; rfl
      subst hE8
      refine VX_catch hX hT [⟨0, 12, 15, 25⟩] ⟨0, 12, 19, 13⟩ [⟨0, 12, 23, 15⟩, ⟨0, 12, 27, 30⟩] rfl (fun z hz => by
        simp only [List.mem_cons, List.not_mem_nil, or_false] at hz
        rcases hz with rfl
        · exact ⟨by decide, _, m4 (j := 104) rfl rfl, 0, 2, by decide, by decide, by decide, rfl, rfl⟩) rfl (by decide) (m3 (j := 238) rfl rfl) ⟨n3 (j := 40) rfl rfl, rfl⟩ (fun q9 => ?_)
      refine V_perm (ws2 := [(o, .inl (cy 6, aL 1 fl))] ++ u9) List.perm_append_comm ?_
      refine r_astore (L' := [some (.ref f), some (.int x), some (.int y), some (.int z), some (.ref o), some (.ref q9)]) (pc' := 21) hX dL_cast_19 (nlt hnL (by decide)) rfl rfl rfl ?_
      refine r_iconst (pc' := 22) (v := nI 2) hX dL_cast_21 rfl rfl ?_
      exact r_ireturn hX hE dL_cast_22 rfl ⟨_, _, by rw [hq]; rfl, rfl, fun h9 => absurd h9 (by rw [hq]; decide), fun _ => hS9⟩ (by decide) (by decide)
    · have hE8 : E9 = "java/lang/IllegalStateException" := by rw [hE9, hq]; rfl
      subst hE8
      refine VX_catch hX hT [⟨0, 12, 15, 25⟩, ⟨0, 12, 19, 13⟩] ⟨0, 12, 23, 15⟩ [⟨0, 12, 27, 30⟩] rfl (fun z hz => by
        simp only [List.mem_cons, List.not_mem_nil, or_false] at hz
        rcases hz with rfl | rfl
        · exact ⟨by decide, _, m4 (j := 104) rfl rfl, 1, 2, by decide, by decide, by decide, rfl, rfl⟩
        · exact ⟨by decide, _, m3 (j := 238) rfl rfl, 1, 0, by decide, by decide, by decide, rfl, rfl⟩) rfl (by decide) (m3 (j := 239) rfl rfl) ⟨n4 (j := 44) rfl rfl, rfl⟩ (fun q9 => ?_)
      refine V_perm (ws2 := [(o, .inl (cy 6, aL 1 fl))] ++ u9) List.perm_append_comm ?_
      refine r_astore (L' := [some (.ref f), some (.int x), some (.int y), some (.int z), some (.ref o), some (.ref q9)]) (pc' := 25) hX dL_cast_23 (nlt hnL (by decide)) rfl rfl rfl ?_
      refine r_iconst (pc' := 26) (v := nI 3) hX dL_cast_25 rfl rfl ?_
      exact r_ireturn hX hE dL_cast_26 rfl ⟨_, _, by rw [hq]; rfl, rfl, fun h9 => absurd h9 (by rw [hq]; decide), fun _ => hS9⟩ (by decide) (by decide)
    · have hE8 : E9 = "java/lang/UnsupportedOperationException" := by rw [hE9, hq]; rfl
      subst hE8
      refine VX_catch hX hT [⟨0, 12, 15, 25⟩, ⟨0, 12, 19, 13⟩, ⟨0, 12, 23, 15⟩] ⟨0, 12, 27, 30⟩ [] rfl (fun z hz => by
        simp only [List.mem_cons, List.not_mem_nil, or_false] at hz
        rcases hz with rfl | rfl | rfl
        · exact ⟨by decide, _, m4 (j := 104) rfl rfl, 3, 2, by decide, by decide, by decide, rfl, rfl⟩
        · exact ⟨by decide, _, m3 (j := 238) rfl rfl, 3, 0, by decide, by decide, by decide, rfl, rfl⟩
        · exact ⟨by decide, _, m3 (j := 239) rfl rfl, 3, 1, by decide, by decide, by decide, rfl, rfl⟩) rfl (by decide) (m4 (j := 118) rfl rfl) ⟨n4 (j := 60) rfl rfl, rfl⟩ (fun q9 => ?_)
      refine V_perm (ws2 := [(o, .inl (cy 6, aL 1 fl))] ++ u9) List.perm_append_comm ?_
      refine r_astore (L' := [some (.ref f), some (.int x), some (.int y), some (.int z), some (.ref o), some (.ref q9)]) (pc' := 29) hX dL_cast_27 (nlt hnL (by decide)) rfl rfl rfl ?_
      refine r_iconst (pc' := 30) (v := nI 4) hX dL_cast_29 rfl rfl ?_
      exact r_ireturn hX hE dL_cast_30 rfl ⟨_, _, by rw [hq]; rfl, rfl, fun h9 => absurd h9 (by rw [hq]; decide), fun _ => hS9⟩ (by decide) (by decide)

set_option maxRecDepth 20000 in
set_option maxHeartbeats 1000000 in
theorem cW_inspect {l : Launch} {D : va_G} {cy : Nat → ClassId} {sa : Nat → Nat} {f K o : Nat} {fl : Nat → Int64} {S : AS} {ws : va_W} {v : SV} (hvS : v = S.1) (hS : FS cy f S ws) (hI : AI K S) {x : Int32} (hst : l.stackTraces = false) (hq : 0 ≤ ((oExam v x).1).toInt ∨ (oExam v x).1 = -5 ∨ (oExam v x).1 = -3) : MGW l yL_inspect cL_inspect 4 (some .int) [(0, 16, 19, 36), (0, 16, 22, 15)] 9 1 6 (D, cy, sa) [.ref f, .int x, .ref o] (([(o, .inl (cy 6, aL 1 fl))] ++ ws)) (fun w u => ∃ (fl1 : Nat → Int64) (ws1 : va_W), w = some (.int (nI (kd 0 0 2 0 1 ((oExam v x).1)))) ∧ u = [(o, .inl (cy 6, aL 1 fl1))] ++ ws1 ∧ (0 ≤ ((oExam v x).1).toInt → FS cy f (((oExam v x).2, (S.1 :: S.2.1).take 8, S.2.2)) ws1 ∧ fl1 0 = if (oExam v x).1.toInt = 1 then 1 else 0) ∧ (((oExam v x).1).toInt < 0 → FS cy f (S) ws1)) := by
  refine MGW_by (own := RL) (L := [some (.ref f), some (.int x), some (.ref o), none]) (by decide +kernel) rfl rfl (Nat.le_of_ble_eq_true rfl) 1 rfl (fun X hX hE hT hnL hG hcy hl => ?_)
  refine r_aload_n (pc' := 1) hX dL_inspect_0 rfl rfl ?_
  refine r_iconst (pc' := 2) (v := nI 0) hX dL_inspect_1 rfl rfl ?_
  refine r_aload_n (pc' := 3) hX dL_inspect_2 rfl rfl ?_
  refine r_iload_n (pc' := 4) hX dL_inspect_3 rfl rfl ?_
  refine V_callX (k' := 1) (n' := 6) (pc' := 7) (wr := [(o, .inl (cy 6, aL 1 fl))]) hX (r_runVX (As := [.int x]) hX dL_inspect_4 k_L_32 (fun l9 hl9 => by cases hl9; exact cF_inspect hvS hS hI (hst := (by rw [hl]; exact hst)) ) hG (FS_recv hS) rfl rfl (Nat.le_of_ble_eq_true rfl) (by decide) (by decide) (by decide) (by decide)) (List.perm_append_comm) rfl rfl rfl (fun w9 u9 hp9 => ?_) ?_
  · obtain ⟨okq, rfl, hS9⟩ := hp9
    change V X 1 6 (u9 ++ [(o, .inl (cy 6, aL 1 fl))]) [some (.ref f), some (.int x), some (.ref o), none] [.int (bI ((oExam v x).1.toInt = 1)), .int (nI 0), .ref o] 7
    refine V_perm (List.perm_append_comm) ?_
    change V X 1 6 ([(o, .inl (cy 6, aL 1 fl))] ++ u9) [some (.ref f), some (.int x), some (.ref o), none] [.int (bI ((oExam v x).1.toInt = 1)), .int (nI 0), .ref o] 7
    refine r_if_eq_B (tgt := 14) (pc' := 10) hX dL_inspect_7 (by decide) rfl (fun c7 => ?_) (fun c7 => ?_)
    · refine r_lconst (pc' := 15) (v := 0) hX dL_inspect_14 rfl rfl ?_
      refine r_last (pc' := 16) hX dL_inspect_15 (by rw [hcy]) 0 rfl rfl (fun flq15 hflq15 => ?_)
      change V X 1 6 ([(o, .inl (cy 6, aL 1 flq15))] ++ u9) [some (.ref f), some (.int x), some (.ref o), none] [] 16
      refine r_goto (tgt := 25) hX dL_inspect_16 (by decide) ?_
      refine r_iconst (pc' := 26) (v := nI 0) hX dL_inspect_25 rfl rfl ?_
      have hq0 : 0 ≤ ((oExam v x).1).toInt := by
        rcases hq with hq | hq | hq
        · exact hq
        · exact absurd (show noA ((oExam v x).1) from by rw [hq]; decide) okq
        · exact absurd (show noA ((oExam v x).1) from by rw [hq]; decide) okq
      exact r_ireturn hX hE dL_inspect_26 rfl ⟨_, _, by rw [kd_pos hq0], rfl, fun _ => ⟨hS9, hflq15.trans (if_neg (by first | omega | assumption)).symm⟩, fun h9 => absurd hq0 (by omega)⟩ (by omega) (by omega)
    · refine r_lconst (pc' := 11) (v := 1) hX dL_inspect_10 rfl rfl ?_
      refine r_goto (tgt := 15) hX dL_inspect_11 (by decide) ?_
      refine r_last (pc' := 16) hX dL_inspect_15 (by rw [hcy]) 0 rfl rfl (fun flq15_2 hflq15_2 => ?_)
      change V X 1 6 ([(o, .inl (cy 6, aL 1 flq15_2))] ++ u9) [some (.ref f), some (.int x), some (.ref o), none] [] 16
      refine r_goto (tgt := 25) hX dL_inspect_16 (by decide) ?_
      refine r_iconst (pc' := 26) (v := nI 0) hX dL_inspect_25 rfl rfl ?_
      have hq0 : 0 ≤ ((oExam v x).1).toInt := by
        rcases hq with hq | hq | hq
        · exact hq
        · exact absurd (show noA ((oExam v x).1) from by rw [hq]; decide) okq
        · exact absurd (show noA ((oExam v x).1) from by rw [hq]; decide) okq
      exact r_ireturn hX hE dL_inspect_26 rfl ⟨_, _, by rw [kd_pos hq0], rfl, fun _ => ⟨hS9, hflq15_2.trans (if_pos (by first | omega | assumption)).symm⟩, fun h9 => absurd hq0 (by omega)⟩ (by omega) (by omega)
  · intro E9 u9 hp9
    obtain ⟨hx9, hE9, hS9⟩ := hp9
    rcases hq with hq | hq | hq
    · exact absurd hq (by omega)
    · have hE8 : E9 = "java/util/NoSuchElementException" := by rw [hE9, hq]; rfl
      subst hE8
      refine VX_catch hX hT [] ⟨0, 16, 19, 36⟩ [⟨0, 16, 22, 15⟩] rfl (fun z hz => by cases hz) rfl (by decide) (m4 (j := 152) rfl rfl) ⟨n4 (j := 76) rfl rfl, rfl⟩ (fun q9 => ?_)
      refine V_perm (ws2 := [(o, .inl (cy 6, aL 1 fl))] ++ u9) List.perm_append_comm ?_
      refine r_astore_n (L' := [some (.ref f), some (.int x), some (.ref o), some (.ref q9)]) (pc' := 20) hX dL_inspect_19 (nlt hnL (by decide)) rfl rfl rfl ?_
      refine r_iconst (pc' := 21) (v := nI 1) hX dL_inspect_20 rfl rfl ?_
      exact r_ireturn hX hE dL_inspect_21 rfl ⟨_, _, by rw [hq]; rfl, rfl, fun h9 => absurd h9 (by rw [hq]; decide), fun _ => hS9⟩ (by decide) (by decide)
    · have hE8 : E9 = "java/lang/IllegalStateException" := by rw [hE9, hq]; rfl
      subst hE8
      refine VX_catch hX hT [⟨0, 16, 19, 36⟩] ⟨0, 16, 22, 15⟩ [] rfl (fun z hz => by
        simp only [List.mem_cons, List.not_mem_nil, or_false] at hz
        rcases hz with rfl
        · exact ⟨by decide, _, m4 (j := 152) rfl rfl, 1, 4, by decide, by decide, by decide, rfl, rfl⟩) rfl (by decide) (m3 (j := 239) rfl rfl) ⟨n4 (j := 44) rfl rfl, rfl⟩ (fun q9 => ?_)
      refine V_perm (ws2 := [(o, .inl (cy 6, aL 1 fl))] ++ u9) List.perm_append_comm ?_
      refine r_astore_n (L' := [some (.ref f), some (.int x), some (.ref o), some (.ref q9)]) (pc' := 23) hX dL_inspect_22 (nlt hnL (by decide)) rfl rfl rfl ?_
      refine r_iconst (pc' := 24) (v := nI 2) hX dL_inspect_23 rfl rfl ?_
      exact r_ireturn hX hE dL_inspect_24 rfl ⟨_, _, by rw [hq]; rfl, rfl, fun h9 => absurd h9 (by rw [hq]; decide), fun _ => hS9⟩ (by decide) (by decide)

set_option maxRecDepth 20000 in
set_option maxHeartbeats 1000000 in
theorem cW_melt {l : Launch} {D : va_G} {cy : Nat → ClassId} {sa : Nat → Nat} {f K o : Nat} {fl : Nat → Int64} {S : AS} {ws : va_W} {v : SV} (hvS : v = S.1) (hS : FS cy f S ws) (hI : AI K S) {x : Int32} (hst : l.stackTraces = false) (hq : 0 ≤ ((oMelt v x).1).toInt ∨ (oMelt v x).1 = -5 ∨ (oMelt v x).1 = -3) : MGW l yL_melt cL_melt 4 (some .int) [(0, 9, 12, 36), (0, 9, 15, 15)] 9 1 6 (D, cy, sa) [.ref f, .int x, .ref o] (([(o, .inl (cy 6, aL 1 fl))] ++ ws)) (fun w u => ∃ (fl1 : Nat → Int64) (ws1 : va_W), w = some (.int (nI (kd 0 0 2 0 1 ((oMelt v x).1)))) ∧ u = [(o, .inl (cy 6, aL 1 fl1))] ++ ws1 ∧ (0 ≤ ((oMelt v x).1).toInt → FS cy f (((oMelt v x).2, (S.1 :: S.2.1).take 8, S.2.2)) ws1 ∧ fl1 0 = ((oMelt v x).1).toInt64) ∧ (((oMelt v x).1).toInt < 0 → FS cy f (S) ws1)) := by
  refine MGW_by (own := RL) (L := [some (.ref f), some (.int x), some (.ref o), none]) (by decide +kernel) rfl rfl (Nat.le_of_ble_eq_true rfl) 1 rfl (fun X hX hE hT hnL hG hcy hl => ?_)
  refine r_aload_n (pc' := 1) hX dL_melt_0 rfl rfl ?_
  refine r_iconst (pc' := 2) (v := nI 0) hX dL_melt_1 rfl rfl ?_
  refine r_aload_n (pc' := 3) hX dL_melt_2 rfl rfl ?_
  refine r_iload_n (pc' := 4) hX dL_melt_3 rfl rfl ?_
  refine V_callX (k' := 1) (n' := 6) (pc' := 7) (wr := [(o, .inl (cy 6, aL 1 fl))]) hX (r_runVX (As := [.int x]) hX dL_melt_4 k_L_38 (fun l9 hl9 => by cases hl9; exact cF_melt hvS hS hI (hst := (by rw [hl]; exact hst)) ) hG (FS_recv hS) rfl rfl (Nat.le_of_ble_eq_true rfl) (by decide) (by decide) (by decide) (by decide)) (List.perm_append_comm) rfl rfl rfl (fun w9 u9 hp9 => ?_) ?_
  · obtain ⟨okq, rfl, hS9⟩ := hp9
    change V X 1 6 (u9 ++ [(o, .inl (cy 6, aL 1 fl))]) [some (.ref f), some (.int x), some (.ref o), none] [.int ((oMelt v x).1), .int (nI 0), .ref o] 7
    refine V_perm (List.perm_append_comm) ?_
    change V X 1 6 ([(o, .inl (cy 6, aL 1 fl))] ++ u9) [some (.ref f), some (.int x), some (.ref o), none] [.int ((oMelt v x).1), .int (nI 0), .ref o] 7
    refine r_i2l (pc' := 8) hX dL_melt_7 rfl rfl ?_
    refine r_last (pc' := 9) hX dL_melt_8 (by rw [hcy]) 0 rfl rfl (fun flq8 hflq8 => ?_)
    change V X 1 6 ([(o, .inl (cy 6, aL 1 flq8))] ++ u9) [some (.ref f), some (.int x), some (.ref o), none] [] 9
    refine r_goto (tgt := 18) hX dL_melt_9 (by decide) ?_
    refine r_iconst (pc' := 19) (v := nI 0) hX dL_melt_18 rfl rfl ?_
    have hq0 : 0 ≤ ((oMelt v x).1).toInt := by
      rcases hq with hq | hq | hq
      · exact hq
      · exact absurd (show noA ((oMelt v x).1) from by rw [hq]; decide) okq
      · exact absurd (show noA ((oMelt v x).1) from by rw [hq]; decide) okq
    exact r_ireturn hX hE dL_melt_19 rfl ⟨_, _, by rw [kd_pos hq0], rfl, fun _ => ⟨hS9, hflq8⟩, fun h9 => absurd hq0 (by omega)⟩ (by omega) (by omega)
  · intro E9 u9 hp9
    obtain ⟨hx9, hE9, hS9⟩ := hp9
    rcases hq with hq | hq | hq
    · exact absurd hq (by omega)
    · have hE8 : E9 = "java/util/NoSuchElementException" := by rw [hE9, hq]; rfl
      subst hE8
      refine VX_catch hX hT [] ⟨0, 9, 12, 36⟩ [⟨0, 9, 15, 15⟩] rfl (fun z hz => by cases hz) rfl (by decide) (m4 (j := 152) rfl rfl) ⟨n4 (j := 76) rfl rfl, rfl⟩ (fun q9 => ?_)
      refine V_perm (ws2 := [(o, .inl (cy 6, aL 1 fl))] ++ u9) List.perm_append_comm ?_
      refine r_astore_n (L' := [some (.ref f), some (.int x), some (.ref o), some (.ref q9)]) (pc' := 13) hX dL_melt_12 (nlt hnL (by decide)) rfl rfl rfl ?_
      refine r_iconst (pc' := 14) (v := nI 1) hX dL_melt_13 rfl rfl ?_
      exact r_ireturn hX hE dL_melt_14 rfl ⟨_, _, by rw [hq]; rfl, rfl, fun h9 => absurd h9 (by rw [hq]; decide), fun _ => hS9⟩ (by decide) (by decide)
    · have hE8 : E9 = "java/lang/IllegalStateException" := by rw [hE9, hq]; rfl
      subst hE8
      refine VX_catch hX hT [⟨0, 9, 12, 36⟩] ⟨0, 9, 15, 15⟩ [] rfl (fun z hz => by
        simp only [List.mem_cons, List.not_mem_nil, or_false] at hz
        rcases hz with rfl
        · exact ⟨by decide, _, m4 (j := 152) rfl rfl, 1, 4, by decide, by decide, by decide, rfl, rfl⟩) rfl (by decide) (m3 (j := 239) rfl rfl) ⟨n4 (j := 44) rfl rfl, rfl⟩ (fun q9 => ?_)
      refine V_perm (ws2 := [(o, .inl (cy 6, aL 1 fl))] ++ u9) List.perm_append_comm ?_
      refine r_astore_n (L' := [some (.ref f), some (.int x), some (.ref o), some (.ref q9)]) (pc' := 16) hX dL_melt_15 (nlt hnL (by decide)) rfl rfl rfl ?_
      refine r_iconst (pc' := 17) (v := nI 2) hX dL_melt_16 rfl rfl ?_
      exact r_ireturn hX hE dL_melt_17 rfl ⟨_, _, by rw [hq]; rfl, rfl, fun h9 => absurd h9 (by rw [hq]; decide), fun _ => hS9⟩ (by decide) (by decide)

set_option maxRecDepth 20000 in
set_option maxHeartbeats 1000000 in
theorem cW_renewMould {l : Launch} {D : va_G} {cy : Nat → ClassId} {sa : Nat → Nat} {f K o : Nat} {fl : Nat → Int64} {S : AS} {ws : va_W} {v : SV} (hvS : v = S.1) (hS : FS cy f S ws) (hI : AI K S) {x : Int32} (hst : l.stackTraces = false) (hq : 0 ≤ ((oReset v x).1).toInt ∨ (oReset v x).1 = -1) : MGW l yL_renewMould cL_renewMould 4 (some .int) [(0, 9, 12, 25)] 9 1 6 (D, cy, sa) [.ref f, .int x, .ref o] (([(o, .inl (cy 6, aL 1 fl))] ++ ws)) (fun w u => ∃ (fl1 : Nat → Int64) (ws1 : va_W), w = some (.int (nI (kd 1 0 0 0 0 ((oReset v x).1)))) ∧ u = [(o, .inl (cy 6, aL 1 fl1))] ++ ws1 ∧ (0 ≤ ((oReset v x).1).toInt → FS cy f (((oReset v x).2, (S.1 :: S.2.1).take 8, S.2.2)) ws1 ∧ fl1 0 = ((oReset v x).1).toInt64) ∧ (((oReset v x).1).toInt < 0 → FS cy f (S) ws1)) := by
  refine MGW_by (own := RL) (L := [some (.ref f), some (.int x), some (.ref o), none]) (by decide +kernel) rfl rfl (Nat.le_of_ble_eq_true rfl) 1 rfl (fun X hX hE hT hnL hG hcy hl => ?_)
  refine r_aload_n (pc' := 1) hX dL_renewMould_0 rfl rfl ?_
  refine r_iconst (pc' := 2) (v := nI 0) hX dL_renewMould_1 rfl rfl ?_
  refine r_aload_n (pc' := 3) hX dL_renewMould_2 rfl rfl ?_
  refine r_iload_n (pc' := 4) hX dL_renewMould_3 rfl rfl ?_
  refine V_callX (k' := 1) (n' := 6) (pc' := 7) (wr := [(o, .inl (cy 6, aL 1 fl))]) hX (r_runVX (As := [.int x]) hX dL_renewMould_4 k_L_41 (fun l9 hl9 => by cases hl9; exact cF_renewMould hvS hS hI (hst := (by rw [hl]; exact hst)) ) hG (FS_recv hS) rfl rfl (Nat.le_of_ble_eq_true rfl) (by decide) (by decide) (by decide) (by decide)) (List.perm_append_comm) rfl rfl rfl (fun w9 u9 hp9 => ?_) ?_
  · obtain ⟨okq, rfl, hS9⟩ := hp9
    change V X 1 6 (u9 ++ [(o, .inl (cy 6, aL 1 fl))]) [some (.ref f), some (.int x), some (.ref o), none] [.int ((oReset v x).1), .int (nI 0), .ref o] 7
    refine V_perm (List.perm_append_comm) ?_
    change V X 1 6 ([(o, .inl (cy 6, aL 1 fl))] ++ u9) [some (.ref f), some (.int x), some (.ref o), none] [.int ((oReset v x).1), .int (nI 0), .ref o] 7
    refine r_i2l (pc' := 8) hX dL_renewMould_7 rfl rfl ?_
    refine r_last (pc' := 9) hX dL_renewMould_8 (by rw [hcy]) 0 rfl rfl (fun flq8 hflq8 => ?_)
    change V X 1 6 ([(o, .inl (cy 6, aL 1 flq8))] ++ u9) [some (.ref f), some (.int x), some (.ref o), none] [] 9
    refine r_goto (tgt := 15) hX dL_renewMould_9 (by decide) ?_
    refine r_iconst (pc' := 16) (v := nI 0) hX dL_renewMould_15 rfl rfl ?_
    have hq0 : 0 ≤ ((oReset v x).1).toInt := by
      rcases hq with hq | hq
      · exact hq
      · exact absurd (show noA ((oReset v x).1) from by rw [hq]; decide) okq
    exact r_ireturn hX hE dL_renewMould_16 rfl ⟨_, _, by rw [kd_pos hq0], rfl, fun _ => ⟨hS9, hflq8⟩, fun h9 => absurd hq0 (by omega)⟩ (by omega) (by omega)
  · intro E9 u9 hp9
    obtain ⟨hx9, hE9, hS9⟩ := hp9
    rcases hq with hq | hq
    · exact absurd hq (by omega)
    · have hE8 : E9 = "java/lang/IndexOutOfBoundsException" := by rw [hE9, hq]; rfl
      subst hE8
      refine VX_catch hX hT [] ⟨0, 9, 12, 25⟩ [] rfl (fun z hz => by cases hz) rfl (by decide) (m4 (j := 104) rfl rfl) ⟨n4 (j := 28) rfl rfl, rfl⟩ (fun q9 => ?_)
      refine V_perm (ws2 := [(o, .inl (cy 6, aL 1 fl))] ++ u9) List.perm_append_comm ?_
      refine r_astore_n (L' := [some (.ref f), some (.int x), some (.ref o), some (.ref q9)]) (pc' := 13) hX dL_renewMould_12 (nlt hnL (by decide)) rfl rfl rfl ?_
      refine r_iconst (pc' := 14) (v := nI 1) hX dL_renewMould_13 rfl rfl ?_
      exact r_ireturn hX hE dL_renewMould_14 rfl ⟨_, _, by rw [hq]; rfl, rfl, fun h9 => absurd h9 (by rw [hq]; decide), fun _ => hS9⟩ (by decide) (by decide)

set_option maxRecDepth 20000 in
set_option maxHeartbeats 1000000 in
theorem cW_setTolerance {l : Launch} {D : va_G} {cy : Nat → ClassId} {sa : Nat → Nat} {f K o : Nat} {fl : Nat → Int64} {S : AS} {ws : va_W} {v : SV} (hvS : v = S.1) (hS : FS cy f S ws) (hI : AI K S) {x : Int32} (hst : l.stackTraces = false) (hq : 0 ≤ ((oTol v x).1).toInt ∨ (oTol v x).1 = -2) : MGW l yL_setTolerance cL_setTolerance 4 (some .int) [(0, 9, 12, 13)] 9 1 6 (D, cy, sa) [.ref f, .int x, .ref o] (([(o, .inl (cy 6, aL 1 fl))] ++ ws)) (fun w u => ∃ (fl1 : Nat → Int64) (ws1 : va_W), w = some (.int (nI (kd 0 1 0 0 0 ((oTol v x).1)))) ∧ u = [(o, .inl (cy 6, aL 1 fl1))] ++ ws1 ∧ (0 ≤ ((oTol v x).1).toInt → FS cy f (((oTol v x).2, (S.1 :: S.2.1).take 8, S.2.2)) ws1 ∧ fl1 0 = ((oTol v x).1).toInt64) ∧ (((oTol v x).1).toInt < 0 → FS cy f (S) ws1)) := by
  refine MGW_by (own := RL) (L := [some (.ref f), some (.int x), some (.ref o), none]) (by decide +kernel) rfl rfl (Nat.le_of_ble_eq_true rfl) 1 rfl (fun X hX hE hT hnL hG hcy hl => ?_)
  refine r_aload_n (pc' := 1) hX dL_setTolerance_0 rfl rfl ?_
  refine r_iconst (pc' := 2) (v := nI 0) hX dL_setTolerance_1 rfl rfl ?_
  refine r_aload_n (pc' := 3) hX dL_setTolerance_2 rfl rfl ?_
  refine r_iload_n (pc' := 4) hX dL_setTolerance_3 rfl rfl ?_
  refine V_callX (k' := 1) (n' := 6) (pc' := 7) (wr := [(o, .inl (cy 6, aL 1 fl))]) hX (r_runVX (As := [.int x]) hX dL_setTolerance_4 k_L_44 (fun l9 hl9 => by cases hl9; exact cF_setTolerance hvS hS hI (hst := (by rw [hl]; exact hst)) ) hG (FS_recv hS) rfl rfl (Nat.le_of_ble_eq_true rfl) (by decide) (by decide) (by decide) (by decide)) (List.perm_append_comm) rfl rfl rfl (fun w9 u9 hp9 => ?_) ?_
  · obtain ⟨okq, rfl, hS9⟩ := hp9
    change V X 1 6 (u9 ++ [(o, .inl (cy 6, aL 1 fl))]) [some (.ref f), some (.int x), some (.ref o), none] [.int ((oTol v x).1), .int (nI 0), .ref o] 7
    refine V_perm (List.perm_append_comm) ?_
    change V X 1 6 ([(o, .inl (cy 6, aL 1 fl))] ++ u9) [some (.ref f), some (.int x), some (.ref o), none] [.int ((oTol v x).1), .int (nI 0), .ref o] 7
    refine r_i2l (pc' := 8) hX dL_setTolerance_7 rfl rfl ?_
    refine r_last (pc' := 9) hX dL_setTolerance_8 (by rw [hcy]) 0 rfl rfl (fun flq8 hflq8 => ?_)
    change V X 1 6 ([(o, .inl (cy 6, aL 1 flq8))] ++ u9) [some (.ref f), some (.int x), some (.ref o), none] [] 9
    refine r_goto (tgt := 15) hX dL_setTolerance_9 (by decide) ?_
    refine r_iconst (pc' := 16) (v := nI 0) hX dL_setTolerance_15 rfl rfl ?_
    have hq0 : 0 ≤ ((oTol v x).1).toInt := by
      rcases hq with hq | hq
      · exact hq
      · exact absurd (show noA ((oTol v x).1) from by rw [hq]; decide) okq
    exact r_ireturn hX hE dL_setTolerance_16 rfl ⟨_, _, by rw [kd_pos hq0], rfl, fun _ => ⟨hS9, hflq8⟩, fun h9 => absurd hq0 (by omega)⟩ (by omega) (by omega)
  · intro E9 u9 hp9
    obtain ⟨hx9, hE9, hS9⟩ := hp9
    rcases hq with hq | hq
    · exact absurd hq (by omega)
    · have hE8 : E9 = "java/lang/IllegalArgumentException" := by rw [hE9, hq]; rfl
      subst hE8
      refine VX_catch hX hT [] ⟨0, 9, 12, 13⟩ [] rfl (fun z hz => by cases hz) rfl (by decide) (m3 (j := 238) rfl rfl) ⟨n3 (j := 40) rfl rfl, rfl⟩ (fun q9 => ?_)
      refine V_perm (ws2 := [(o, .inl (cy 6, aL 1 fl))] ++ u9) List.perm_append_comm ?_
      refine r_astore_n (L' := [some (.ref f), some (.int x), some (.ref o), some (.ref q9)]) (pc' := 13) hX dL_setTolerance_12 (nlt hnL (by decide)) rfl rfl rfl ?_
      refine r_iconst (pc' := 14) (v := nI 1) hX dL_setTolerance_13 rfl rfl ?_
      exact r_ireturn hX hE dL_setTolerance_14 rfl ⟨_, _, by rw [hq]; rfl, rfl, fun h9 => absurd h9 (by rw [hq]; decide), fun _ => hS9⟩ (by decide) (by decide)

set_option maxRecDepth 20000 in
set_option maxHeartbeats 1000000 in
theorem cW_setStep {l : Launch} {D : va_G} {cy : Nat → ClassId} {sa : Nat → Nat} {f K o : Nat} {fl : Nat → Int64} {S : AS} {ws : va_W} {v : SV} (hvS : v = S.1) (hS : FS cy f S ws) (hI : AI K S) {x : Int32} (hst : l.stackTraces = false) (hq : 0 ≤ ((oStep v x).1).toInt ∨ (oStep v x).1 = -2) : MGW l yL_setStep cL_setStep 4 (some .int) [(0, 9, 12, 13)] 9 1 6 (D, cy, sa) [.ref f, .int x, .ref o] (([(o, .inl (cy 6, aL 1 fl))] ++ ws)) (fun w u => ∃ (fl1 : Nat → Int64) (ws1 : va_W), w = some (.int (nI (kd 0 1 0 0 0 ((oStep v x).1)))) ∧ u = [(o, .inl (cy 6, aL 1 fl1))] ++ ws1 ∧ (0 ≤ ((oStep v x).1).toInt → FS cy f (((oStep v x).2, (S.1 :: S.2.1).take 8, S.2.2)) ws1 ∧ fl1 0 = ((oStep v x).1).toInt64) ∧ (((oStep v x).1).toInt < 0 → FS cy f (S) ws1)) := by
  refine MGW_by (own := RL) (L := [some (.ref f), some (.int x), some (.ref o), none]) (by decide +kernel) rfl rfl (Nat.le_of_ble_eq_true rfl) 1 rfl (fun X hX hE hT hnL hG hcy hl => ?_)
  refine r_aload_n (pc' := 1) hX dL_setStep_0 rfl rfl ?_
  refine r_iconst (pc' := 2) (v := nI 0) hX dL_setStep_1 rfl rfl ?_
  refine r_aload_n (pc' := 3) hX dL_setStep_2 rfl rfl ?_
  refine r_iload_n (pc' := 4) hX dL_setStep_3 rfl rfl ?_
  refine V_callX (k' := 1) (n' := 6) (pc' := 7) (wr := [(o, .inl (cy 6, aL 1 fl))]) hX (r_runVX (As := [.int x]) hX dL_setStep_4 k_L_47 (fun l9 hl9 => by cases hl9; exact cF_setStep hvS hS hI (hst := (by rw [hl]; exact hst)) ) hG (FS_recv hS) rfl rfl (Nat.le_of_ble_eq_true rfl) (by decide) (by decide) (by decide) (by decide)) (List.perm_append_comm) rfl rfl rfl (fun w9 u9 hp9 => ?_) ?_
  · obtain ⟨okq, rfl, hS9⟩ := hp9
    change V X 1 6 (u9 ++ [(o, .inl (cy 6, aL 1 fl))]) [some (.ref f), some (.int x), some (.ref o), none] [.int ((oStep v x).1), .int (nI 0), .ref o] 7
    refine V_perm (List.perm_append_comm) ?_
    change V X 1 6 ([(o, .inl (cy 6, aL 1 fl))] ++ u9) [some (.ref f), some (.int x), some (.ref o), none] [.int ((oStep v x).1), .int (nI 0), .ref o] 7
    refine r_i2l (pc' := 8) hX dL_setStep_7 rfl rfl ?_
    refine r_last (pc' := 9) hX dL_setStep_8 (by rw [hcy]) 0 rfl rfl (fun flq8 hflq8 => ?_)
    change V X 1 6 ([(o, .inl (cy 6, aL 1 flq8))] ++ u9) [some (.ref f), some (.int x), some (.ref o), none] [] 9
    refine r_goto (tgt := 15) hX dL_setStep_9 (by decide) ?_
    refine r_iconst (pc' := 16) (v := nI 0) hX dL_setStep_15 rfl rfl ?_
    have hq0 : 0 ≤ ((oStep v x).1).toInt := by
      rcases hq with hq | hq
      · exact hq
      · exact absurd (show noA ((oStep v x).1) from by rw [hq]; decide) okq
    exact r_ireturn hX hE dL_setStep_16 rfl ⟨_, _, by rw [kd_pos hq0], rfl, fun _ => ⟨hS9, hflq8⟩, fun h9 => absurd hq0 (by omega)⟩ (by omega) (by omega)
  · intro E9 u9 hp9
    obtain ⟨hx9, hE9, hS9⟩ := hp9
    rcases hq with hq | hq
    · exact absurd hq (by omega)
    · have hE8 : E9 = "java/lang/IllegalArgumentException" := by rw [hE9, hq]; rfl
      subst hE8
      refine VX_catch hX hT [] ⟨0, 9, 12, 13⟩ [] rfl (fun z hz => by cases hz) rfl (by decide) (m3 (j := 238) rfl rfl) ⟨n3 (j := 40) rfl rfl, rfl⟩ (fun q9 => ?_)
      refine V_perm (ws2 := [(o, .inl (cy 6, aL 1 fl))] ++ u9) List.perm_append_comm ?_
      refine r_astore_n (L' := [some (.ref f), some (.int x), some (.ref o), some (.ref q9)]) (pc' := 13) hX dL_setStep_12 (nlt hnL (by decide)) rfl rfl rfl ?_
      refine r_iconst (pc' := 14) (v := nI 1) hX dL_setStep_13 rfl rfl ?_
      exact r_ireturn hX hE dL_setStep_14 rfl ⟨_, _, by rw [hq]; rfl, rfl, fun h9 => absurd h9 (by rw [hq]; decide), fun _ => hS9⟩ (by decide) (by decide)

set_option maxRecDepth 20000 in
set_option maxHeartbeats 1000000 in
theorem cW_parts {l : Launch} {D : va_G} {cy : Nat → ClassId} {sa : Nat → Nat} {f K o : Nat} {fl : Nat → Int64} {S : AS} {ws : va_W} {v : SV} (hvS : v = S.1) (hS : FS cy f S ws) (hI : AI K S) {x y : Int32} (hst : l.stackTraces = false) (hq : 0 ≤ (qParts v x y).toInt ∨ qParts v x y = -1) : MGW l yL_parts cL_parts 5 (some .int) [(0, 10, 13, 25)] 8 1 6 (D, cy, sa) [.ref f, .int x, .int y, .ref o] (([(o, .inl (cy 6, aL 1 fl))] ++ ws)) (fun w u => ∃ (fl1 : Nat → Int64) (ws1 : va_W), w = some (.int (nI (kd 1 0 0 0 0 (qParts v x y)))) ∧ u = [(o, .inl (cy 6, aL 1 fl1))] ++ ws1 ∧ (0 ≤ (qParts v x y).toInt → FS cy f (S) ws1 ∧ fl1 0 = (qParts v x y).toInt64) ∧ ((qParts v x y).toInt < 0 → FS cy f (S) ws1)) := by
  refine MGW_by (own := RL) (L := [some (.ref f), some (.int x), some (.int y), some (.ref o), none]) (by decide +kernel) rfl rfl (Nat.le_of_ble_eq_true rfl) 1 rfl (fun X hX hE hT hnL hG hcy hl => ?_)
  refine r_aload_n (pc' := 1) hX dL_parts_0 rfl rfl ?_
  refine r_iconst (pc' := 2) (v := nI 0) hX dL_parts_1 rfl rfl ?_
  refine r_aload_n (pc' := 3) hX dL_parts_2 rfl rfl ?_
  refine r_iload_n (pc' := 4) hX dL_parts_3 rfl rfl ?_
  refine r_iload_n (pc' := 5) hX dL_parts_4 rfl rfl ?_
  refine V_callX (k' := 1) (n' := 6) (pc' := 8) (wr := [(o, .inl (cy 6, aL 1 fl))]) hX (r_runVX (As := [.int x, .int y]) hX dL_parts_5 k_L_50 (fun l9 hl9 => by cases hl9; exact cF_parts hvS hS hI (hst := (by rw [hl]; exact hst)) ) hG (FS_recv hS) rfl rfl (Nat.le_of_ble_eq_true rfl) (by decide) (by decide) (by decide) (by decide)) (List.perm_append_comm) rfl rfl rfl (fun w9 u9 hp9 => ?_) ?_
  · obtain ⟨okq, rfl, hS9⟩ := hp9
    change V X 1 6 (u9 ++ [(o, .inl (cy 6, aL 1 fl))]) [some (.ref f), some (.int x), some (.int y), some (.ref o), none] [.int (qParts v x y), .int (nI 0), .ref o] 8
    refine V_perm (List.perm_append_comm) ?_
    change V X 1 6 ([(o, .inl (cy 6, aL 1 fl))] ++ u9) [some (.ref f), some (.int x), some (.int y), some (.ref o), none] [.int (qParts v x y), .int (nI 0), .ref o] 8
    refine r_i2l (pc' := 9) hX dL_parts_8 rfl rfl ?_
    refine r_last (pc' := 10) hX dL_parts_9 (by rw [hcy]) 0 rfl rfl (fun flq9 hflq9 => ?_)
    change V X 1 6 ([(o, .inl (cy 6, aL 1 flq9))] ++ u9) [some (.ref f), some (.int x), some (.int y), some (.ref o), none] [] 10
    refine r_goto (tgt := 17) hX dL_parts_10 (by decide) ?_
    refine r_iconst (pc' := 18) (v := nI 0) hX dL_parts_17 rfl rfl ?_
    have hq0 : 0 ≤ (qParts v x y).toInt := by
      rcases hq with hq | hq
      · exact hq
      · exact absurd (show noA (qParts v x y) from by rw [hq]; decide) okq
    exact r_ireturn hX hE dL_parts_18 rfl ⟨_, _, by rw [kd_pos hq0], rfl, fun _ => ⟨hS9, hflq9⟩, fun h9 => absurd hq0 (by omega)⟩ (by omega) (by omega)
  · intro E9 u9 hp9
    obtain ⟨hx9, hE9, hS9⟩ := hp9
    rcases hq with hq | hq
    · exact absurd hq (by omega)
    · have hE8 : E9 = "java/lang/IndexOutOfBoundsException" := by rw [hE9, hq]; rfl
      subst hE8
      refine VX_catch hX hT [] ⟨0, 10, 13, 25⟩ [] rfl (fun z hz => by cases hz) rfl (by decide) (m4 (j := 104) rfl rfl) ⟨n4 (j := 28) rfl rfl, rfl⟩ (fun q9 => ?_)
      refine V_perm (ws2 := [(o, .inl (cy 6, aL 1 fl))] ++ u9) List.perm_append_comm ?_
      refine r_astore (L' := [some (.ref f), some (.int x), some (.int y), some (.ref o), some (.ref q9)]) (pc' := 15) hX dL_parts_13 (nlt hnL (by decide)) rfl rfl rfl ?_
      refine r_iconst (pc' := 16) (v := nI 1) hX dL_parts_15 rfl rfl ?_
      exact r_ireturn hX hE dL_parts_16 rfl ⟨_, _, by rw [hq]; rfl, rfl, fun h9 => absurd h9 (by rw [hq]; decide), fun _ => hS9⟩ (by decide) (by decide)

set_option maxRecDepth 20000 in
set_option maxHeartbeats 1000000 in
theorem cW_mouldLength {l : Launch} {D : va_G} {cy : Nat → ClassId} {sa : Nat → Nat} {f K o : Nat} {fl : Nat → Int64} {S : AS} {ws : va_W} {v : SV} (hvS : v = S.1) (hS : FS cy f S ws) (hI : AI K S) {x : Int32} (hst : l.stackTraces = false) (hq : 0 ≤ (qMld 1 v x).toInt ∨ qMld 1 v x = -1) : MGW l yL_mouldLength cL_mouldLength 4 (some .int) [(0, 9, 12, 25)] 8 1 6 (D, cy, sa) [.ref f, .int x, .ref o] (([(o, .inl (cy 6, aL 1 fl))] ++ ws)) (fun w u => ∃ (fl1 : Nat → Int64) (ws1 : va_W), w = some (.int (nI (kd 1 0 0 0 0 (qMld 1 v x)))) ∧ u = [(o, .inl (cy 6, aL 1 fl1))] ++ ws1 ∧ (0 ≤ (qMld 1 v x).toInt → FS cy f (S) ws1 ∧ fl1 0 = (qMld 1 v x).toInt64) ∧ ((qMld 1 v x).toInt < 0 → FS cy f (S) ws1)) := by
  refine MGW_by (own := RL) (L := [some (.ref f), some (.int x), some (.ref o), none]) (by decide +kernel) rfl rfl (Nat.le_of_ble_eq_true rfl) 1 rfl (fun X hX hE hT hnL hG hcy hl => ?_)
  refine r_aload_n (pc' := 1) hX dL_mouldLength_0 rfl rfl ?_
  refine r_iconst (pc' := 2) (v := nI 0) hX dL_mouldLength_1 rfl rfl ?_
  refine r_aload_n (pc' := 3) hX dL_mouldLength_2 rfl rfl ?_
  refine r_iload_n (pc' := 4) hX dL_mouldLength_3 rfl rfl ?_
  refine V_callX (k' := 1) (n' := 6) (pc' := 7) (wr := [(o, .inl (cy 6, aL 1 fl))]) hX (r_runVX (As := [.int x]) hX dL_mouldLength_4 k_L_53 (fun l9 hl9 => by cases hl9; exact cF_mouldLength hvS hS hI (hst := (by rw [hl]; exact hst)) ) hG (FS_recv hS) rfl rfl (Nat.le_of_ble_eq_true rfl) (by decide) (by decide) (by decide) (by decide)) (List.perm_append_comm) rfl rfl rfl (fun w9 u9 hp9 => ?_) ?_
  · obtain ⟨okq, rfl, hS9⟩ := hp9
    change V X 1 6 (u9 ++ [(o, .inl (cy 6, aL 1 fl))]) [some (.ref f), some (.int x), some (.ref o), none] [.int (qMld 1 v x), .int (nI 0), .ref o] 7
    refine V_perm (List.perm_append_comm) ?_
    change V X 1 6 ([(o, .inl (cy 6, aL 1 fl))] ++ u9) [some (.ref f), some (.int x), some (.ref o), none] [.int (qMld 1 v x), .int (nI 0), .ref o] 7
    refine r_i2l (pc' := 8) hX dL_mouldLength_7 rfl rfl ?_
    refine r_last (pc' := 9) hX dL_mouldLength_8 (by rw [hcy]) 0 rfl rfl (fun flq8 hflq8 => ?_)
    change V X 1 6 ([(o, .inl (cy 6, aL 1 flq8))] ++ u9) [some (.ref f), some (.int x), some (.ref o), none] [] 9
    refine r_goto (tgt := 15) hX dL_mouldLength_9 (by decide) ?_
    refine r_iconst (pc' := 16) (v := nI 0) hX dL_mouldLength_15 rfl rfl ?_
    have hq0 : 0 ≤ (qMld 1 v x).toInt := by
      rcases hq with hq | hq
      · exact hq
      · exact absurd (show noA (qMld 1 v x) from by rw [hq]; decide) okq
    exact r_ireturn hX hE dL_mouldLength_16 rfl ⟨_, _, by rw [kd_pos hq0], rfl, fun _ => ⟨hS9, hflq8⟩, fun h9 => absurd hq0 (by omega)⟩ (by omega) (by omega)
  · intro E9 u9 hp9
    obtain ⟨hx9, hE9, hS9⟩ := hp9
    rcases hq with hq | hq
    · exact absurd hq (by omega)
    · have hE8 : E9 = "java/lang/IndexOutOfBoundsException" := by rw [hE9, hq]; rfl
      subst hE8
      refine VX_catch hX hT [] ⟨0, 9, 12, 25⟩ [] rfl (fun z hz => by cases hz) rfl (by decide) (m4 (j := 104) rfl rfl) ⟨n4 (j := 28) rfl rfl, rfl⟩ (fun q9 => ?_)
      refine V_perm (ws2 := [(o, .inl (cy 6, aL 1 fl))] ++ u9) List.perm_append_comm ?_
      refine r_astore_n (L' := [some (.ref f), some (.int x), some (.ref o), some (.ref q9)]) (pc' := 13) hX dL_mouldLength_12 (nlt hnL (by decide)) rfl rfl rfl ?_
      refine r_iconst (pc' := 14) (v := nI 1) hX dL_mouldLength_13 rfl rfl ?_
      exact r_ireturn hX hE dL_mouldLength_14 rfl ⟨_, _, by rw [hq]; rfl, rfl, fun h9 => absurd h9 (by rw [hq]; decide), fun _ => hS9⟩ (by decide) (by decide)

set_option maxRecDepth 20000 in
set_option maxHeartbeats 1000000 in
theorem cW_uses {l : Launch} {D : va_G} {cy : Nat → ClassId} {sa : Nat → Nat} {f K o : Nat} {fl : Nat → Int64} {S : AS} {ws : va_W} {v : SV} (hvS : v = S.1) (hS : FS cy f S ws) (hI : AI K S) {x : Int32} (hst : l.stackTraces = false) (hq : 0 ≤ (qMld 2 v x).toInt ∨ qMld 2 v x = -1) : MGW l yL_uses cL_uses 4 (some .int) [(0, 9, 12, 25)] 8 1 6 (D, cy, sa) [.ref f, .int x, .ref o] (([(o, .inl (cy 6, aL 1 fl))] ++ ws)) (fun w u => ∃ (fl1 : Nat → Int64) (ws1 : va_W), w = some (.int (nI (kd 1 0 0 0 0 (qMld 2 v x)))) ∧ u = [(o, .inl (cy 6, aL 1 fl1))] ++ ws1 ∧ (0 ≤ (qMld 2 v x).toInt → FS cy f (S) ws1 ∧ fl1 0 = (qMld 2 v x).toInt64) ∧ ((qMld 2 v x).toInt < 0 → FS cy f (S) ws1)) := by
  refine MGW_by (own := RL) (L := [some (.ref f), some (.int x), some (.ref o), none]) (by decide +kernel) rfl rfl (Nat.le_of_ble_eq_true rfl) 1 rfl (fun X hX hE hT hnL hG hcy hl => ?_)
  refine r_aload_n (pc' := 1) hX dL_uses_0 rfl rfl ?_
  refine r_iconst (pc' := 2) (v := nI 0) hX dL_uses_1 rfl rfl ?_
  refine r_aload_n (pc' := 3) hX dL_uses_2 rfl rfl ?_
  refine r_iload_n (pc' := 4) hX dL_uses_3 rfl rfl ?_
  refine V_callX (k' := 1) (n' := 6) (pc' := 7) (wr := [(o, .inl (cy 6, aL 1 fl))]) hX (r_runVX (As := [.int x]) hX dL_uses_4 k_L_56 (fun l9 hl9 => by cases hl9; exact cF_uses hvS hS hI (hst := (by rw [hl]; exact hst)) ) hG (FS_recv hS) rfl rfl (Nat.le_of_ble_eq_true rfl) (by decide) (by decide) (by decide) (by decide)) (List.perm_append_comm) rfl rfl rfl (fun w9 u9 hp9 => ?_) ?_
  · obtain ⟨okq, rfl, hS9⟩ := hp9
    change V X 1 6 (u9 ++ [(o, .inl (cy 6, aL 1 fl))]) [some (.ref f), some (.int x), some (.ref o), none] [.int (qMld 2 v x), .int (nI 0), .ref o] 7
    refine V_perm (List.perm_append_comm) ?_
    change V X 1 6 ([(o, .inl (cy 6, aL 1 fl))] ++ u9) [some (.ref f), some (.int x), some (.ref o), none] [.int (qMld 2 v x), .int (nI 0), .ref o] 7
    refine r_i2l (pc' := 8) hX dL_uses_7 rfl rfl ?_
    refine r_last (pc' := 9) hX dL_uses_8 (by rw [hcy]) 0 rfl rfl (fun flq8 hflq8 => ?_)
    change V X 1 6 ([(o, .inl (cy 6, aL 1 flq8))] ++ u9) [some (.ref f), some (.int x), some (.ref o), none] [] 9
    refine r_goto (tgt := 15) hX dL_uses_9 (by decide) ?_
    refine r_iconst (pc' := 16) (v := nI 0) hX dL_uses_15 rfl rfl ?_
    have hq0 : 0 ≤ (qMld 2 v x).toInt := by
      rcases hq with hq | hq
      · exact hq
      · exact absurd (show noA (qMld 2 v x) from by rw [hq]; decide) okq
    exact r_ireturn hX hE dL_uses_16 rfl ⟨_, _, by rw [kd_pos hq0], rfl, fun _ => ⟨hS9, hflq8⟩, fun h9 => absurd hq0 (by omega)⟩ (by omega) (by omega)
  · intro E9 u9 hp9
    obtain ⟨hx9, hE9, hS9⟩ := hp9
    rcases hq with hq | hq
    · exact absurd hq (by omega)
    · have hE8 : E9 = "java/lang/IndexOutOfBoundsException" := by rw [hE9, hq]; rfl
      subst hE8
      refine VX_catch hX hT [] ⟨0, 9, 12, 25⟩ [] rfl (fun z hz => by cases hz) rfl (by decide) (m4 (j := 104) rfl rfl) ⟨n4 (j := 28) rfl rfl, rfl⟩ (fun q9 => ?_)
      refine V_perm (ws2 := [(o, .inl (cy 6, aL 1 fl))] ++ u9) List.perm_append_comm ?_
      refine r_astore_n (L' := [some (.ref f), some (.int x), some (.ref o), some (.ref q9)]) (pc' := 13) hX dL_uses_12 (nlt hnL (by decide)) rfl rfl rfl ?_
      refine r_iconst (pc' := 14) (v := nI 1) hX dL_uses_13 rfl rfl ?_
      exact r_ireturn hX hE dL_uses_14 rfl ⟨_, _, by rw [hq]; rfl, rfl, fun h9 => absurd h9 (by rw [hq]; decide), fun _ => hS9⟩ (by decide) (by decide)

set_option maxRecDepth 20000 in
set_option maxHeartbeats 1000000 in
theorem cW_stock {l : Launch} {D : va_G} {cy : Nat → ClassId} {sa : Nat → Nat} {f K o : Nat} {fl : Nat → Int64} {S : AS} {ws : va_W} {v : SV} (hvS : v = S.1) (hS : FS cy f S ws) (hI : AI K S) {x : Int32} (hst : l.stackTraces = false) (hq : 0 ≤ (qMet 3 v x).toInt ∨ qMet 3 v x = -1) : MGW l yL_stock cL_stock 4 (some .int) [(0, 9, 12, 25)] 8 1 6 (D, cy, sa) [.ref f, .int x, .ref o] (([(o, .inl (cy 6, aL 1 fl))] ++ ws)) (fun w u => ∃ (fl1 : Nat → Int64) (ws1 : va_W), w = some (.int (nI (kd 1 0 0 0 0 (qMet 3 v x)))) ∧ u = [(o, .inl (cy 6, aL 1 fl1))] ++ ws1 ∧ (0 ≤ (qMet 3 v x).toInt → FS cy f (S) ws1 ∧ fl1 0 = (qMet 3 v x).toInt64) ∧ ((qMet 3 v x).toInt < 0 → FS cy f (S) ws1)) := by
  refine MGW_by (own := RL) (L := [some (.ref f), some (.int x), some (.ref o), none]) (by decide +kernel) rfl rfl (Nat.le_of_ble_eq_true rfl) 1 rfl (fun X hX hE hT hnL hG hcy hl => ?_)
  refine r_aload_n (pc' := 1) hX dL_stock_0 rfl rfl ?_
  refine r_iconst (pc' := 2) (v := nI 0) hX dL_stock_1 rfl rfl ?_
  refine r_aload_n (pc' := 3) hX dL_stock_2 rfl rfl ?_
  refine r_iload_n (pc' := 4) hX dL_stock_3 rfl rfl ?_
  refine V_callX (k' := 1) (n' := 6) (pc' := 7) (wr := [(o, .inl (cy 6, aL 1 fl))]) hX (r_runVX (As := [.int x]) hX dL_stock_4 k_L_59 (fun l9 hl9 => by cases hl9; exact cF_stock hvS hS hI (hst := (by rw [hl]; exact hst)) ) hG (FS_recv hS) rfl rfl (Nat.le_of_ble_eq_true rfl) (by decide) (by decide) (by decide) (by decide)) (List.perm_append_comm) rfl rfl rfl (fun w9 u9 hp9 => ?_) ?_
  · obtain ⟨okq, rfl, hS9⟩ := hp9
    change V X 1 6 (u9 ++ [(o, .inl (cy 6, aL 1 fl))]) [some (.ref f), some (.int x), some (.ref o), none] [.int (qMet 3 v x), .int (nI 0), .ref o] 7
    refine V_perm (List.perm_append_comm) ?_
    change V X 1 6 ([(o, .inl (cy 6, aL 1 fl))] ++ u9) [some (.ref f), some (.int x), some (.ref o), none] [.int (qMet 3 v x), .int (nI 0), .ref o] 7
    refine r_i2l (pc' := 8) hX dL_stock_7 rfl rfl ?_
    refine r_last (pc' := 9) hX dL_stock_8 (by rw [hcy]) 0 rfl rfl (fun flq8 hflq8 => ?_)
    change V X 1 6 ([(o, .inl (cy 6, aL 1 flq8))] ++ u9) [some (.ref f), some (.int x), some (.ref o), none] [] 9
    refine r_goto (tgt := 15) hX dL_stock_9 (by decide) ?_
    refine r_iconst (pc' := 16) (v := nI 0) hX dL_stock_15 rfl rfl ?_
    have hq0 : 0 ≤ (qMet 3 v x).toInt := by
      rcases hq with hq | hq
      · exact hq
      · exact absurd (show noA (qMet 3 v x) from by rw [hq]; decide) okq
    exact r_ireturn hX hE dL_stock_16 rfl ⟨_, _, by rw [kd_pos hq0], rfl, fun _ => ⟨hS9, hflq8⟩, fun h9 => absurd hq0 (by omega)⟩ (by omega) (by omega)
  · intro E9 u9 hp9
    obtain ⟨hx9, hE9, hS9⟩ := hp9
    rcases hq with hq | hq
    · exact absurd hq (by omega)
    · have hE8 : E9 = "java/lang/IndexOutOfBoundsException" := by rw [hE9, hq]; rfl
      subst hE8
      refine VX_catch hX hT [] ⟨0, 9, 12, 25⟩ [] rfl (fun z hz => by cases hz) rfl (by decide) (m4 (j := 104) rfl rfl) ⟨n4 (j := 28) rfl rfl, rfl⟩ (fun q9 => ?_)
      refine V_perm (ws2 := [(o, .inl (cy 6, aL 1 fl))] ++ u9) List.perm_append_comm ?_
      refine r_astore_n (L' := [some (.ref f), some (.int x), some (.ref o), some (.ref q9)]) (pc' := 13) hX dL_stock_12 (nlt hnL (by decide)) rfl rfl rfl ?_
      refine r_iconst (pc' := 14) (v := nI 1) hX dL_stock_13 rfl rfl ?_
      exact r_ireturn hX hE dL_stock_14 rfl ⟨_, _, by rw [hq]; rfl, rfl, fun h9 => absurd h9 (by rw [hq]; decide), fun _ => hS9⟩ (by decide) (by decide)

set_option maxRecDepth 20000 in
set_option maxHeartbeats 1000000 in
theorem cW_batchAt {l : Launch} {D : va_G} {cy : Nat → ClassId} {sa : Nat → Nat} {f K o : Nat} {fl : Nat → Int64} {S : AS} {ws : va_W} {v : SV} (hvS : v = S.1) (hS : FS cy f S ws) (hI : AI K S) {x : Int32} (hst : l.stackTraces = false) (hq : 0 ≤ (qAt v x).toInt ∨ qAt v x = -5) : MGW l yL_batchAt cL_batchAt 4 (some .int) [(0, 9, 12, 36)] 7 1 6 (D, cy, sa) [.ref f, .int x, .ref o] (([(o, .inl (cy 6, aL 1 fl))] ++ ws)) (fun w u => ∃ (fl1 : Nat → Int64) (ws1 : va_W), w = some (.int (nI (kd 0 0 0 0 1 (qAt v x)))) ∧ u = [(o, .inl (cy 6, aL 1 fl1))] ++ ws1 ∧ (0 ≤ (qAt v x).toInt → FS cy f (S) ws1 ∧ fl1 0 = (qAt v x).toInt64) ∧ ((qAt v x).toInt < 0 → FS cy f (S) ws1)) := by
  refine MGW_by (own := RL) (L := [some (.ref f), some (.int x), some (.ref o), none]) (by decide +kernel) rfl rfl (Nat.le_of_ble_eq_true rfl) 1 rfl (fun X hX hE hT hnL hG hcy hl => ?_)
  refine r_aload_n (pc' := 1) hX dL_batchAt_0 rfl rfl ?_
  refine r_iconst (pc' := 2) (v := nI 0) hX dL_batchAt_1 rfl rfl ?_
  refine r_aload_n (pc' := 3) hX dL_batchAt_2 rfl rfl ?_
  refine r_iload_n (pc' := 4) hX dL_batchAt_3 rfl rfl ?_
  refine V_callX (k' := 1) (n' := 6) (pc' := 7) (wr := [(o, .inl (cy 6, aL 1 fl))]) hX (r_runVX (As := [.int x]) hX dL_batchAt_4 k_L_62 (fun l9 hl9 => by cases hl9; exact cF_batchAt hvS hS hI (hst := (by rw [hl]; exact hst)) ) hG (FS_recv hS) rfl rfl (Nat.le_of_ble_eq_true rfl) (by decide) (by decide) (by decide) (by decide)) (List.perm_append_comm) rfl rfl rfl (fun w9 u9 hp9 => ?_) ?_
  · obtain ⟨okq, rfl, hS9⟩ := hp9
    change V X 1 6 (u9 ++ [(o, .inl (cy 6, aL 1 fl))]) [some (.ref f), some (.int x), some (.ref o), none] [.int (qAt v x), .int (nI 0), .ref o] 7
    refine V_perm (List.perm_append_comm) ?_
    change V X 1 6 ([(o, .inl (cy 6, aL 1 fl))] ++ u9) [some (.ref f), some (.int x), some (.ref o), none] [.int (qAt v x), .int (nI 0), .ref o] 7
    refine r_i2l (pc' := 8) hX dL_batchAt_7 rfl rfl ?_
    refine r_last (pc' := 9) hX dL_batchAt_8 (by rw [hcy]) 0 rfl rfl (fun flq8 hflq8 => ?_)
    change V X 1 6 ([(o, .inl (cy 6, aL 1 flq8))] ++ u9) [some (.ref f), some (.int x), some (.ref o), none] [] 9
    refine r_goto (tgt := 15) hX dL_batchAt_9 (by decide) ?_
    refine r_iconst (pc' := 16) (v := nI 0) hX dL_batchAt_15 rfl rfl ?_
    have hq0 : 0 ≤ (qAt v x).toInt := by
      rcases hq with hq | hq
      · exact hq
      · exact absurd (show noA (qAt v x) from by rw [hq]; decide) okq
    exact r_ireturn hX hE dL_batchAt_16 rfl ⟨_, _, by rw [kd_pos hq0], rfl, fun _ => ⟨hS9, hflq8⟩, fun h9 => absurd hq0 (by omega)⟩ (by omega) (by omega)
  · intro E9 u9 hp9
    obtain ⟨hx9, hE9, hS9⟩ := hp9
    rcases hq with hq | hq
    · exact absurd hq (by omega)
    · have hE8 : E9 = "java/util/NoSuchElementException" := by rw [hE9, hq]; rfl
      subst hE8
      refine VX_catch hX hT [] ⟨0, 9, 12, 36⟩ [] rfl (fun z hz => by cases hz) rfl (by decide) (m4 (j := 152) rfl rfl) ⟨n4 (j := 76) rfl rfl, rfl⟩ (fun q9 => ?_)
      refine V_perm (ws2 := [(o, .inl (cy 6, aL 1 fl))] ++ u9) List.perm_append_comm ?_
      refine r_astore_n (L' := [some (.ref f), some (.int x), some (.ref o), some (.ref q9)]) (pc' := 13) hX dL_batchAt_12 (nlt hnL (by decide)) rfl rfl rfl ?_
      refine r_iconst (pc' := 14) (v := nI 1) hX dL_batchAt_13 rfl rfl ?_
      exact r_ireturn hX hE dL_batchAt_14 rfl ⟨_, _, by rw [hq]; rfl, rfl, fun h9 => absurd h9 (by rw [hq]; decide), fun _ => hS9⟩ (by decide) (by decide)

set_option maxRecDepth 20000 in
set_option maxHeartbeats 1000000 in
theorem cW_isFailed {l : Launch} {D : va_G} {cy : Nat → ClassId} {sa : Nat → Nat} {f K o : Nat} {fl : Nat → Int64} {S : AS} {ws : va_W} {v : SV} (hvS : v = S.1) (hS : FS cy f S ws) (hI : AI K S) {x : Int32} (hst : l.stackTraces = false) (hq : 0 ≤ (qBat (bNum 4) v x).toInt ∨ qBat (bNum 4) v x = -5) : MGW l yL_isFailed cL_isFailed 4 (some .int) [(0, 16, 19, 36)] 9 1 6 (D, cy, sa) [.ref f, .int x, .ref o] (([(o, .inl (cy 6, aL 1 fl))] ++ ws)) (fun w u => ∃ (fl1 : Nat → Int64) (ws1 : va_W), w = some (.int (nI (kd 0 0 0 0 1 (qBat (bNum 4) v x)))) ∧ u = [(o, .inl (cy 6, aL 1 fl1))] ++ ws1 ∧ (0 ≤ (qBat (bNum 4) v x).toInt → FS cy f (S) ws1 ∧ fl1 0 = if ¬ (qBat (bNum 4) v x).toInt = 0 then 1 else 0) ∧ ((qBat (bNum 4) v x).toInt < 0 → FS cy f (S) ws1)) := by
  refine MGW_by (own := RL) (L := [some (.ref f), some (.int x), some (.ref o), none]) (by decide +kernel) rfl rfl (Nat.le_of_ble_eq_true rfl) 1 rfl (fun X hX hE hT hnL hG hcy hl => ?_)
  refine r_aload_n (pc' := 1) hX dL_isFailed_0 rfl rfl ?_
  refine r_iconst (pc' := 2) (v := nI 0) hX dL_isFailed_1 rfl rfl ?_
  refine r_aload_n (pc' := 3) hX dL_isFailed_2 rfl rfl ?_
  refine r_iload_n (pc' := 4) hX dL_isFailed_3 rfl rfl ?_
  refine V_callX (k' := 1) (n' := 6) (pc' := 7) (wr := [(o, .inl (cy 6, aL 1 fl))]) hX (r_runVX (As := [.int x]) hX dL_isFailed_4 k_L_65 (fun l9 hl9 => by cases hl9; exact cF_isFailed hvS hS hI (hst := (by rw [hl]; exact hst)) ) hG (FS_recv hS) rfl rfl (Nat.le_of_ble_eq_true rfl) (by decide) (by decide) (by decide) (by decide)) (List.perm_append_comm) rfl rfl rfl (fun w9 u9 hp9 => ?_) ?_
  · obtain ⟨okq, rfl, hS9⟩ := hp9
    change V X 1 6 (u9 ++ [(o, .inl (cy 6, aL 1 fl))]) [some (.ref f), some (.int x), some (.ref o), none] [.int (qBat (bNum 4) v x), .int (nI 0), .ref o] 7
    refine V_perm (List.perm_append_comm) ?_
    change V X 1 6 ([(o, .inl (cy 6, aL 1 fl))] ++ u9) [some (.ref f), some (.int x), some (.ref o), none] [.int (qBat (bNum 4) v x), .int (nI 0), .ref o] 7
    refine r_if_eq_I (tgt := 14) (pc' := 10) hX dL_isFailed_7 (by decide) rfl rfl (fun c7 => ?_) (fun c7 => ?_)
    · refine r_lconst (pc' := 15) (v := 0) hX dL_isFailed_14 rfl rfl ?_
      refine r_last (pc' := 16) hX dL_isFailed_15 (by rw [hcy]) 0 rfl rfl (fun flq15 hflq15 => ?_)
      change V X 1 6 ([(o, .inl (cy 6, aL 1 flq15))] ++ u9) [some (.ref f), some (.int x), some (.ref o), none] [] 16
      refine r_goto (tgt := 22) hX dL_isFailed_16 (by decide) ?_
      refine r_iconst (pc' := 23) (v := nI 0) hX dL_isFailed_22 rfl rfl ?_
      have hq0 : 0 ≤ (qBat (bNum 4) v x).toInt := by
        rcases hq with hq | hq
        · exact hq
        · exact absurd (show noA (qBat (bNum 4) v x) from by rw [hq]; decide) okq
      exact r_ireturn hX hE dL_isFailed_23 rfl ⟨_, _, by rw [kd_pos hq0], rfl, fun _ => ⟨hS9, hflq15.trans (if_neg (by first | omega | assumption)).symm⟩, fun h9 => absurd hq0 (by omega)⟩ (by omega) (by omega)
    · refine r_lconst (pc' := 11) (v := 1) hX dL_isFailed_10 rfl rfl ?_
      refine r_goto (tgt := 15) hX dL_isFailed_11 (by decide) ?_
      refine r_last (pc' := 16) hX dL_isFailed_15 (by rw [hcy]) 0 rfl rfl (fun flq15_2 hflq15_2 => ?_)
      change V X 1 6 ([(o, .inl (cy 6, aL 1 flq15_2))] ++ u9) [some (.ref f), some (.int x), some (.ref o), none] [] 16
      refine r_goto (tgt := 22) hX dL_isFailed_16 (by decide) ?_
      refine r_iconst (pc' := 23) (v := nI 0) hX dL_isFailed_22 rfl rfl ?_
      have hq0 : 0 ≤ (qBat (bNum 4) v x).toInt := by
        rcases hq with hq | hq
        · exact hq
        · exact absurd (show noA (qBat (bNum 4) v x) from by rw [hq]; decide) okq
      exact r_ireturn hX hE dL_isFailed_23 rfl ⟨_, _, by rw [kd_pos hq0], rfl, fun _ => ⟨hS9, hflq15_2.trans (if_pos (by first | omega | assumption)).symm⟩, fun h9 => absurd hq0 (by omega)⟩ (by omega) (by omega)
  · intro E9 u9 hp9
    obtain ⟨hx9, hE9, hS9⟩ := hp9
    rcases hq with hq | hq
    · exact absurd hq (by omega)
    · have hE8 : E9 = "java/util/NoSuchElementException" := by rw [hE9, hq]; rfl
      subst hE8
      refine VX_catch hX hT [] ⟨0, 16, 19, 36⟩ [] rfl (fun z hz => by cases hz) rfl (by decide) (m4 (j := 152) rfl rfl) ⟨n4 (j := 76) rfl rfl, rfl⟩ (fun q9 => ?_)
      refine V_perm (ws2 := [(o, .inl (cy 6, aL 1 fl))] ++ u9) List.perm_append_comm ?_
      refine r_astore_n (L' := [some (.ref f), some (.int x), some (.ref o), some (.ref q9)]) (pc' := 20) hX dL_isFailed_19 (nlt hnL (by decide)) rfl rfl rfl ?_
      refine r_iconst (pc' := 21) (v := nI 1) hX dL_isFailed_20 rfl rfl ?_
      exact r_ireturn hX hE dL_isFailed_21 rfl ⟨_, _, by rw [hq]; rfl, rfl, fun h9 => absurd h9 (by rw [hq]; decide), fun _ => hS9⟩ (by decide) (by decide)

set_option maxRecDepth 20000 in
set_option maxHeartbeats 1000000 in
theorem cW_batchSize {l : Launch} {D : va_G} {cy : Nat → ClassId} {sa : Nat → Nat} {f K o : Nat} {fl : Nat → Int64} {S : AS} {ws : va_W} {v : SV} (hvS : v = S.1) (hS : FS cy f S ws) (hI : AI K S) {x : Int32} (hst : l.stackTraces = false) (hq : 0 ≤ (qBat (bNum 2) v x).toInt ∨ qBat (bNum 2) v x = -5) : MGW l yL_batchSize cL_batchSize 4 (some .int) [(0, 9, 12, 36)] 9 1 6 (D, cy, sa) [.ref f, .int x, .ref o] (([(o, .inl (cy 6, aL 1 fl))] ++ ws)) (fun w u => ∃ (fl1 : Nat → Int64) (ws1 : va_W), w = some (.int (nI (kd 0 0 0 0 1 (qBat (bNum 2) v x)))) ∧ u = [(o, .inl (cy 6, aL 1 fl1))] ++ ws1 ∧ (0 ≤ (qBat (bNum 2) v x).toInt → FS cy f (S) ws1 ∧ fl1 0 = (qBat (bNum 2) v x).toInt64) ∧ ((qBat (bNum 2) v x).toInt < 0 → FS cy f (S) ws1)) := by
  refine MGW_by (own := RL) (L := [some (.ref f), some (.int x), some (.ref o), none]) (by decide +kernel) rfl rfl (Nat.le_of_ble_eq_true rfl) 1 rfl (fun X hX hE hT hnL hG hcy hl => ?_)
  refine r_aload_n (pc' := 1) hX dL_batchSize_0 rfl rfl ?_
  refine r_iconst (pc' := 2) (v := nI 0) hX dL_batchSize_1 rfl rfl ?_
  refine r_aload_n (pc' := 3) hX dL_batchSize_2 rfl rfl ?_
  refine r_iload_n (pc' := 4) hX dL_batchSize_3 rfl rfl ?_
  refine V_callX (k' := 1) (n' := 6) (pc' := 7) (wr := [(o, .inl (cy 6, aL 1 fl))]) hX (r_runVX (As := [.int x]) hX dL_batchSize_4 k_L_68 (fun l9 hl9 => by cases hl9; exact cF_batchSize hvS hS hI (hst := (by rw [hl]; exact hst)) ) hG (FS_recv hS) rfl rfl (Nat.le_of_ble_eq_true rfl) (by decide) (by decide) (by decide) (by decide)) (List.perm_append_comm) rfl rfl rfl (fun w9 u9 hp9 => ?_) ?_
  · obtain ⟨okq, rfl, hS9⟩ := hp9
    change V X 1 6 (u9 ++ [(o, .inl (cy 6, aL 1 fl))]) [some (.ref f), some (.int x), some (.ref o), none] [.int (qBat (bNum 2) v x), .int (nI 0), .ref o] 7
    refine V_perm (List.perm_append_comm) ?_
    change V X 1 6 ([(o, .inl (cy 6, aL 1 fl))] ++ u9) [some (.ref f), some (.int x), some (.ref o), none] [.int (qBat (bNum 2) v x), .int (nI 0), .ref o] 7
    refine r_i2l (pc' := 8) hX dL_batchSize_7 rfl rfl ?_
    refine r_last (pc' := 9) hX dL_batchSize_8 (by rw [hcy]) 0 rfl rfl (fun flq8 hflq8 => ?_)
    change V X 1 6 ([(o, .inl (cy 6, aL 1 flq8))] ++ u9) [some (.ref f), some (.int x), some (.ref o), none] [] 9
    refine r_goto (tgt := 15) hX dL_batchSize_9 (by decide) ?_
    refine r_iconst (pc' := 16) (v := nI 0) hX dL_batchSize_15 rfl rfl ?_
    have hq0 : 0 ≤ (qBat (bNum 2) v x).toInt := by
      rcases hq with hq | hq
      · exact hq
      · exact absurd (show noA (qBat (bNum 2) v x) from by rw [hq]; decide) okq
    exact r_ireturn hX hE dL_batchSize_16 rfl ⟨_, _, by rw [kd_pos hq0], rfl, fun _ => ⟨hS9, hflq8⟩, fun h9 => absurd hq0 (by omega)⟩ (by omega) (by omega)
  · intro E9 u9 hp9
    obtain ⟨hx9, hE9, hS9⟩ := hp9
    rcases hq with hq | hq
    · exact absurd hq (by omega)
    · have hE8 : E9 = "java/util/NoSuchElementException" := by rw [hE9, hq]; rfl
      subst hE8
      refine VX_catch hX hT [] ⟨0, 9, 12, 36⟩ [] rfl (fun z hz => by cases hz) rfl (by decide) (m4 (j := 152) rfl rfl) ⟨n4 (j := 76) rfl rfl, rfl⟩ (fun q9 => ?_)
      refine V_perm (ws2 := [(o, .inl (cy 6, aL 1 fl))] ++ u9) List.perm_append_comm ?_
      refine r_astore_n (L' := [some (.ref f), some (.int x), some (.ref o), some (.ref q9)]) (pc' := 13) hX dL_batchSize_12 (nlt hnL (by decide)) rfl rfl rfl ?_
      refine r_iconst (pc' := 14) (v := nI 1) hX dL_batchSize_13 rfl rfl ?_
      exact r_ireturn hX hE dL_batchSize_14 rfl ⟨_, _, by rw [hq]; rfl, rfl, fun h9 => absurd h9 (by rw [hq]; decide), fun _ => hS9⟩ (by decide) (by decide)

set_option maxRecDepth 20000 in
set_option maxHeartbeats 1000000 in
theorem cW_firstBow {l : Launch} {D : va_G} {cy : Nat → ClassId} {sa : Nat → Nat} {f K o : Nat} {fl : Nat → Int64} {S : AS} {ws : va_W} {v : SV} (hvS : v = S.1) (hS : FS cy f S ws) (hI : AI K S) {x : Int32} (hst : l.stackTraces = false) (hq : 0 ≤ (qBat (bNum 1) v x).toInt ∨ qBat (bNum 1) v x = -5) : MGW l yL_firstBow cL_firstBow 4 (some .int) [(0, 9, 12, 36)] 9 1 6 (D, cy, sa) [.ref f, .int x, .ref o] (([(o, .inl (cy 6, aL 1 fl))] ++ ws)) (fun w u => ∃ (fl1 : Nat → Int64) (ws1 : va_W), w = some (.int (nI (kd 0 0 0 0 1 (qBat (bNum 1) v x)))) ∧ u = [(o, .inl (cy 6, aL 1 fl1))] ++ ws1 ∧ (0 ≤ (qBat (bNum 1) v x).toInt → FS cy f (S) ws1 ∧ fl1 0 = (qBat (bNum 1) v x).toInt64) ∧ ((qBat (bNum 1) v x).toInt < 0 → FS cy f (S) ws1)) := by
  refine MGW_by (own := RL) (L := [some (.ref f), some (.int x), some (.ref o), none]) (by decide +kernel) rfl rfl (Nat.le_of_ble_eq_true rfl) 1 rfl (fun X hX hE hT hnL hG hcy hl => ?_)
  refine r_aload_n (pc' := 1) hX dL_firstBow_0 rfl rfl ?_
  refine r_iconst (pc' := 2) (v := nI 0) hX dL_firstBow_1 rfl rfl ?_
  refine r_aload_n (pc' := 3) hX dL_firstBow_2 rfl rfl ?_
  refine r_iload_n (pc' := 4) hX dL_firstBow_3 rfl rfl ?_
  refine V_callX (k' := 1) (n' := 6) (pc' := 7) (wr := [(o, .inl (cy 6, aL 1 fl))]) hX (r_runVX (As := [.int x]) hX dL_firstBow_4 k_L_71 (fun l9 hl9 => by cases hl9; exact cF_firstBow hvS hS hI (hst := (by rw [hl]; exact hst)) ) hG (FS_recv hS) rfl rfl (Nat.le_of_ble_eq_true rfl) (by decide) (by decide) (by decide) (by decide)) (List.perm_append_comm) rfl rfl rfl (fun w9 u9 hp9 => ?_) ?_
  · obtain ⟨okq, rfl, hS9⟩ := hp9
    change V X 1 6 (u9 ++ [(o, .inl (cy 6, aL 1 fl))]) [some (.ref f), some (.int x), some (.ref o), none] [.int (qBat (bNum 1) v x), .int (nI 0), .ref o] 7
    refine V_perm (List.perm_append_comm) ?_
    change V X 1 6 ([(o, .inl (cy 6, aL 1 fl))] ++ u9) [some (.ref f), some (.int x), some (.ref o), none] [.int (qBat (bNum 1) v x), .int (nI 0), .ref o] 7
    refine r_i2l (pc' := 8) hX dL_firstBow_7 rfl rfl ?_
    refine r_last (pc' := 9) hX dL_firstBow_8 (by rw [hcy]) 0 rfl rfl (fun flq8 hflq8 => ?_)
    change V X 1 6 ([(o, .inl (cy 6, aL 1 flq8))] ++ u9) [some (.ref f), some (.int x), some (.ref o), none] [] 9
    refine r_goto (tgt := 15) hX dL_firstBow_9 (by decide) ?_
    refine r_iconst (pc' := 16) (v := nI 0) hX dL_firstBow_15 rfl rfl ?_
    have hq0 : 0 ≤ (qBat (bNum 1) v x).toInt := by
      rcases hq with hq | hq
      · exact hq
      · exact absurd (show noA (qBat (bNum 1) v x) from by rw [hq]; decide) okq
    exact r_ireturn hX hE dL_firstBow_16 rfl ⟨_, _, by rw [kd_pos hq0], rfl, fun _ => ⟨hS9, hflq8⟩, fun h9 => absurd hq0 (by omega)⟩ (by omega) (by omega)
  · intro E9 u9 hp9
    obtain ⟨hx9, hE9, hS9⟩ := hp9
    rcases hq with hq | hq
    · exact absurd hq (by omega)
    · have hE8 : E9 = "java/util/NoSuchElementException" := by rw [hE9, hq]; rfl
      subst hE8
      refine VX_catch hX hT [] ⟨0, 9, 12, 36⟩ [] rfl (fun z hz => by cases hz) rfl (by decide) (m4 (j := 152) rfl rfl) ⟨n4 (j := 76) rfl rfl, rfl⟩ (fun q9 => ?_)
      refine V_perm (ws2 := [(o, .inl (cy 6, aL 1 fl))] ++ u9) List.perm_append_comm ?_
      refine r_astore_n (L' := [some (.ref f), some (.int x), some (.ref o), some (.ref q9)]) (pc' := 13) hX dL_firstBow_12 (nlt hnL (by decide)) rfl rfl rfl ?_
      refine r_iconst (pc' := 14) (v := nI 1) hX dL_firstBow_13 rfl rfl ?_
      exact r_ireturn hX hE dL_firstBow_14 rfl ⟨_, _, by rw [hq]; rfl, rfl, fun h9 => absurd h9 (by rw [hq]; decide), fun _ => hS9⟩ (by decide) (by decide)

set_option maxRecDepth 20000 in
set_option maxHeartbeats 1000000 in
theorem cW_squeak {l : Launch} {D : va_G} {cy : Nat → ClassId} {sa : Nat → Nat} {f K o : Nat} {fl : Nat → Int64} {S : AS} {ws : va_W} {v : SV} (hvS : v = S.1) (hS : FS cy f S ws) (hI : AI K S) {x : Int32} (hst : l.stackTraces = false) (hq : 0 ≤ (qSqk v x).toInt ∨ qSqk v x = -5) : MGW l yL_squeak cL_squeak 4 (some .int) [(0, 9, 12, 36)] 8 1 6 (D, cy, sa) [.ref f, .int x, .ref o] (([(o, .inl (cy 6, aL 1 fl))] ++ ws)) (fun w u => ∃ (fl1 : Nat → Int64) (ws1 : va_W), w = some (.int (nI (kd 0 0 0 0 1 (qSqk v x)))) ∧ u = [(o, .inl (cy 6, aL 1 fl1))] ++ ws1 ∧ (0 ≤ (qSqk v x).toInt → FS cy f (S) ws1 ∧ fl1 0 = (qSqk v x).toInt64) ∧ ((qSqk v x).toInt < 0 → FS cy f (S) ws1)) := by
  refine MGW_by (own := RL) (L := [some (.ref f), some (.int x), some (.ref o), none]) (by decide +kernel) rfl rfl (Nat.le_of_ble_eq_true rfl) 1 rfl (fun X hX hE hT hnL hG hcy hl => ?_)
  refine r_aload_n (pc' := 1) hX dL_squeak_0 rfl rfl ?_
  refine r_iconst (pc' := 2) (v := nI 0) hX dL_squeak_1 rfl rfl ?_
  refine r_aload_n (pc' := 3) hX dL_squeak_2 rfl rfl ?_
  refine r_iload_n (pc' := 4) hX dL_squeak_3 rfl rfl ?_
  refine V_callX (k' := 1) (n' := 6) (pc' := 7) (wr := [(o, .inl (cy 6, aL 1 fl))]) hX (r_runVX (As := [.int x]) hX dL_squeak_4 k_L_74 (fun l9 hl9 => by cases hl9; exact cF_squeak hvS hS hI (hst := (by rw [hl]; exact hst)) ) hG (FS_recv hS) rfl rfl (Nat.le_of_ble_eq_true rfl) (by decide) (by decide) (by decide) (by decide)) (List.perm_append_comm) rfl rfl rfl (fun w9 u9 hp9 => ?_) ?_
  · obtain ⟨okq, rfl, hS9⟩ := hp9
    change V X 1 6 (u9 ++ [(o, .inl (cy 6, aL 1 fl))]) [some (.ref f), some (.int x), some (.ref o), none] [.int (qSqk v x), .int (nI 0), .ref o] 7
    refine V_perm (List.perm_append_comm) ?_
    change V X 1 6 ([(o, .inl (cy 6, aL 1 fl))] ++ u9) [some (.ref f), some (.int x), some (.ref o), none] [.int (qSqk v x), .int (nI 0), .ref o] 7
    refine r_i2l (pc' := 8) hX dL_squeak_7 rfl rfl ?_
    refine r_last (pc' := 9) hX dL_squeak_8 (by rw [hcy]) 0 rfl rfl (fun flq8 hflq8 => ?_)
    change V X 1 6 ([(o, .inl (cy 6, aL 1 flq8))] ++ u9) [some (.ref f), some (.int x), some (.ref o), none] [] 9
    refine r_goto (tgt := 15) hX dL_squeak_9 (by decide) ?_
    refine r_iconst (pc' := 16) (v := nI 0) hX dL_squeak_15 rfl rfl ?_
    have hq0 : 0 ≤ (qSqk v x).toInt := by
      rcases hq with hq | hq
      · exact hq
      · exact absurd (show noA (qSqk v x) from by rw [hq]; decide) okq
    exact r_ireturn hX hE dL_squeak_16 rfl ⟨_, _, by rw [kd_pos hq0], rfl, fun _ => ⟨hS9, hflq8⟩, fun h9 => absurd hq0 (by omega)⟩ (by omega) (by omega)
  · intro E9 u9 hp9
    obtain ⟨hx9, hE9, hS9⟩ := hp9
    rcases hq with hq | hq
    · exact absurd hq (by omega)
    · have hE8 : E9 = "java/util/NoSuchElementException" := by rw [hE9, hq]; rfl
      subst hE8
      refine VX_catch hX hT [] ⟨0, 9, 12, 36⟩ [] rfl (fun z hz => by cases hz) rfl (by decide) (m4 (j := 152) rfl rfl) ⟨n4 (j := 76) rfl rfl, rfl⟩ (fun q9 => ?_)
      refine V_perm (ws2 := [(o, .inl (cy 6, aL 1 fl))] ++ u9) List.perm_append_comm ?_
      refine r_astore_n (L' := [some (.ref f), some (.int x), some (.ref o), some (.ref q9)]) (pc' := 13) hX dL_squeak_12 (nlt hnL (by decide)) rfl rfl rfl ?_
      refine r_iconst (pc' := 14) (v := nI 1) hX dL_squeak_13 rfl rfl ?_
      exact r_ireturn hX hE dL_squeak_14 rfl ⟨_, _, by rw [hq]; rfl, rfl, fun h9 => absurd h9 (by rw [hq]; decide), fun _ => hS9⟩ (by decide) (by decide)

set_option maxRecDepth 20000 in
set_option maxHeartbeats 1000000 in
theorem cW_isGood {l : Launch} {D : va_G} {cy : Nat → ClassId} {sa : Nat → Nat} {f K o : Nat} {fl : Nat → Int64} {S : AS} {ws : va_W} {v : SV} (hvS : v = S.1) (hS : FS cy f S ws) (hI : AI K S) {x : Int32} (hst : l.stackTraces = false) (hq : 0 ≤ (qSqk v x).toInt ∨ qSqk v x = -5) : MGW l yL_isGood cL_isGood 4 (some .int) [(0, 16, 19, 36)] 8 1 6 (D, cy, sa) [.ref f, .int x, .ref o] (([(o, .inl (cy 6, aL 1 fl))] ++ ws)) (fun w u => ∃ (fl1 : Nat → Int64) (ws1 : va_W), w = some (.int (nI (kd 0 0 0 0 1 (qSqk v x)))) ∧ u = [(o, .inl (cy 6, aL 1 fl1))] ++ ws1 ∧ (0 ≤ (qSqk v x).toInt → FS cy f (S) ws1 ∧ fl1 0 = if (qSqk v x).toInt ≤ (v 0 2 : Int) then 1 else 0) ∧ ((qSqk v x).toInt < 0 → FS cy f (S) ws1)) := by
  refine MGW_by (own := RL) (L := [some (.ref f), some (.int x), some (.ref o), none]) (by decide +kernel) rfl rfl (Nat.le_of_ble_eq_true rfl) 1 rfl (fun X hX hE hT hnL hG hcy hl => ?_)
  refine r_aload_n (pc' := 1) hX dL_isGood_0 rfl rfl ?_
  refine r_iconst (pc' := 2) (v := nI 0) hX dL_isGood_1 rfl rfl ?_
  refine r_aload_n (pc' := 3) hX dL_isGood_2 rfl rfl ?_
  refine r_iload_n (pc' := 4) hX dL_isGood_3 rfl rfl ?_
  refine V_callX (k' := 1) (n' := 6) (pc' := 7) (wr := [(o, .inl (cy 6, aL 1 fl))]) hX (r_runVX (As := [.int x]) hX dL_isGood_4 k_L_77 (fun l9 hl9 => by cases hl9; exact cF_isGood hvS hS hI (hst := (by rw [hl]; exact hst)) ) hG (FS_recv hS) rfl rfl (Nat.le_of_ble_eq_true rfl) (by decide) (by decide) (by decide) (by decide)) (List.perm_append_comm) rfl rfl rfl (fun w9 u9 hp9 => ?_) ?_
  · obtain ⟨okq, rfl, hS9⟩ := hp9
    change V X 1 6 (u9 ++ [(o, .inl (cy 6, aL 1 fl))]) [some (.ref f), some (.int x), some (.ref o), none] [.int (bI ((qSqk v x).toInt ≤ (v 0 2 : Int))), .int (nI 0), .ref o] 7
    refine V_perm (List.perm_append_comm) ?_
    change V X 1 6 ([(o, .inl (cy 6, aL 1 fl))] ++ u9) [some (.ref f), some (.int x), some (.ref o), none] [.int (bI ((qSqk v x).toInt ≤ (v 0 2 : Int))), .int (nI 0), .ref o] 7
    refine r_if_eq_B (tgt := 14) (pc' := 10) hX dL_isGood_7 (by decide) rfl (fun c7 => ?_) (fun c7 => ?_)
    · refine r_lconst (pc' := 15) (v := 0) hX dL_isGood_14 rfl rfl ?_
      refine r_last (pc' := 16) hX dL_isGood_15 (by rw [hcy]) 0 rfl rfl (fun flq15 hflq15 => ?_)
      change V X 1 6 ([(o, .inl (cy 6, aL 1 flq15))] ++ u9) [some (.ref f), some (.int x), some (.ref o), none] [] 16
      refine r_goto (tgt := 22) hX dL_isGood_16 (by decide) ?_
      refine r_iconst (pc' := 23) (v := nI 0) hX dL_isGood_22 rfl rfl ?_
      have hq0 : 0 ≤ (qSqk v x).toInt := by
        rcases hq with hq | hq
        · exact hq
        · exact absurd (show noA (qSqk v x) from by rw [hq]; decide) okq
      exact r_ireturn hX hE dL_isGood_23 rfl ⟨_, _, by rw [kd_pos hq0], rfl, fun _ => ⟨hS9, hflq15.trans (if_neg (by first | omega | assumption)).symm⟩, fun h9 => absurd hq0 (by omega)⟩ (by omega) (by omega)
    · refine r_lconst (pc' := 11) (v := 1) hX dL_isGood_10 rfl rfl ?_
      refine r_goto (tgt := 15) hX dL_isGood_11 (by decide) ?_
      refine r_last (pc' := 16) hX dL_isGood_15 (by rw [hcy]) 0 rfl rfl (fun flq15_2 hflq15_2 => ?_)
      change V X 1 6 ([(o, .inl (cy 6, aL 1 flq15_2))] ++ u9) [some (.ref f), some (.int x), some (.ref o), none] [] 16
      refine r_goto (tgt := 22) hX dL_isGood_16 (by decide) ?_
      refine r_iconst (pc' := 23) (v := nI 0) hX dL_isGood_22 rfl rfl ?_
      have hq0 : 0 ≤ (qSqk v x).toInt := by
        rcases hq with hq | hq
        · exact hq
        · exact absurd (show noA (qSqk v x) from by rw [hq]; decide) okq
      exact r_ireturn hX hE dL_isGood_23 rfl ⟨_, _, by rw [kd_pos hq0], rfl, fun _ => ⟨hS9, hflq15_2.trans (if_pos (by first | omega | assumption)).symm⟩, fun h9 => absurd hq0 (by omega)⟩ (by omega) (by omega)
  · intro E9 u9 hp9
    obtain ⟨hx9, hE9, hS9⟩ := hp9
    rcases hq with hq | hq
    · exact absurd hq (by omega)
    · have hE8 : E9 = "java/util/NoSuchElementException" := by rw [hE9, hq]; rfl
      subst hE8
      refine VX_catch hX hT [] ⟨0, 16, 19, 36⟩ [] rfl (fun z hz => by cases hz) rfl (by decide) (m4 (j := 152) rfl rfl) ⟨n4 (j := 76) rfl rfl, rfl⟩ (fun q9 => ?_)
      refine V_perm (ws2 := [(o, .inl (cy 6, aL 1 fl))] ++ u9) List.perm_append_comm ?_
      refine r_astore_n (L' := [some (.ref f), some (.int x), some (.ref o), some (.ref q9)]) (pc' := 20) hX dL_isGood_19 (nlt hnL (by decide)) rfl rfl rfl ?_
      refine r_iconst (pc' := 21) (v := nI 1) hX dL_isGood_20 rfl rfl ?_
      exact r_ireturn hX hE dL_isGood_21 rfl ⟨_, _, by rw [hq]; rfl, rfl, fun h9 => absurd h9 (by rw [hq]; decide), fun _ => hS9⟩ (by decide) (by decide)

set_option maxRecDepth 20000 in
set_option maxHeartbeats 1000000 in
theorem cW_batchOf {l : Launch} {D : va_G} {cy : Nat → ClassId} {sa : Nat → Nat} {f K o : Nat} {fl : Nat → Int64} {S : AS} {ws : va_W} {v : SV} (hvS : v = S.1) (hS : FS cy f S ws) (hI : AI K S) {x : Int32} (hst : l.stackTraces = false) (hq : 0 ≤ (qBof v x).toInt ∨ qBof v x = -5) : MGW l yL_batchOf cL_batchOf 4 (some .int) [(0, 9, 12, 36)] 8 1 6 (D, cy, sa) [.ref f, .int x, .ref o] (([(o, .inl (cy 6, aL 1 fl))] ++ ws)) (fun w u => ∃ (fl1 : Nat → Int64) (ws1 : va_W), w = some (.int (nI (kd 0 0 0 0 1 (qBof v x)))) ∧ u = [(o, .inl (cy 6, aL 1 fl1))] ++ ws1 ∧ (0 ≤ (qBof v x).toInt → FS cy f (S) ws1 ∧ fl1 0 = (qBof v x).toInt64) ∧ ((qBof v x).toInt < 0 → FS cy f (S) ws1)) := by
  refine MGW_by (own := RL) (L := [some (.ref f), some (.int x), some (.ref o), none]) (by decide +kernel) rfl rfl (Nat.le_of_ble_eq_true rfl) 1 rfl (fun X hX hE hT hnL hG hcy hl => ?_)
  refine r_aload_n (pc' := 1) hX dL_batchOf_0 rfl rfl ?_
  refine r_iconst (pc' := 2) (v := nI 0) hX dL_batchOf_1 rfl rfl ?_
  refine r_aload_n (pc' := 3) hX dL_batchOf_2 rfl rfl ?_
  refine r_iload_n (pc' := 4) hX dL_batchOf_3 rfl rfl ?_
  refine V_callX (k' := 1) (n' := 6) (pc' := 7) (wr := [(o, .inl (cy 6, aL 1 fl))]) hX (r_runVX (As := [.int x]) hX dL_batchOf_4 k_L_80 (fun l9 hl9 => by cases hl9; exact cF_batchOf hvS hS hI (hst := (by rw [hl]; exact hst)) ) hG (FS_recv hS) rfl rfl (Nat.le_of_ble_eq_true rfl) (by decide) (by decide) (by decide) (by decide)) (List.perm_append_comm) rfl rfl rfl (fun w9 u9 hp9 => ?_) ?_
  · obtain ⟨okq, rfl, hS9⟩ := hp9
    change V X 1 6 (u9 ++ [(o, .inl (cy 6, aL 1 fl))]) [some (.ref f), some (.int x), some (.ref o), none] [.int (qBof v x), .int (nI 0), .ref o] 7
    refine V_perm (List.perm_append_comm) ?_
    change V X 1 6 ([(o, .inl (cy 6, aL 1 fl))] ++ u9) [some (.ref f), some (.int x), some (.ref o), none] [.int (qBof v x), .int (nI 0), .ref o] 7
    refine r_i2l (pc' := 8) hX dL_batchOf_7 rfl rfl ?_
    refine r_last (pc' := 9) hX dL_batchOf_8 (by rw [hcy]) 0 rfl rfl (fun flq8 hflq8 => ?_)
    change V X 1 6 ([(o, .inl (cy 6, aL 1 flq8))] ++ u9) [some (.ref f), some (.int x), some (.ref o), none] [] 9
    refine r_goto (tgt := 15) hX dL_batchOf_9 (by decide) ?_
    refine r_iconst (pc' := 16) (v := nI 0) hX dL_batchOf_15 rfl rfl ?_
    have hq0 : 0 ≤ (qBof v x).toInt := by
      rcases hq with hq | hq
      · exact hq
      · exact absurd (show noA (qBof v x) from by rw [hq]; decide) okq
    exact r_ireturn hX hE dL_batchOf_16 rfl ⟨_, _, by rw [kd_pos hq0], rfl, fun _ => ⟨hS9, hflq8⟩, fun h9 => absurd hq0 (by omega)⟩ (by omega) (by omega)
  · intro E9 u9 hp9
    obtain ⟨hx9, hE9, hS9⟩ := hp9
    rcases hq with hq | hq
    · exact absurd hq (by omega)
    · have hE8 : E9 = "java/util/NoSuchElementException" := by rw [hE9, hq]; rfl
      subst hE8
      refine VX_catch hX hT [] ⟨0, 9, 12, 36⟩ [] rfl (fun z hz => by cases hz) rfl (by decide) (m4 (j := 152) rfl rfl) ⟨n4 (j := 76) rfl rfl, rfl⟩ (fun q9 => ?_)
      refine V_perm (ws2 := [(o, .inl (cy 6, aL 1 fl))] ++ u9) List.perm_append_comm ?_
      refine r_astore_n (L' := [some (.ref f), some (.int x), some (.ref o), some (.ref q9)]) (pc' := 13) hX dL_batchOf_12 (nlt hnL (by decide)) rfl rfl rfl ?_
      refine r_iconst (pc' := 14) (v := nI 1) hX dL_batchOf_13 rfl rfl ?_
      exact r_ireturn hX hE dL_batchOf_14 rfl ⟨_, _, by rw [hq]; rfl, rfl, fun h9 => absurd h9 (by rw [hq]; decide), fun _ => hS9⟩ (by decide) (by decide)

set_option maxRecDepth 20000 in
set_option maxHeartbeats 1000000 in
theorem cW_goodBows {l : Launch} {D : va_G} {cy : Nat → ClassId} {sa : Nat → Nat} {f K o : Nat} {fl : Nat → Int64} {S : AS} {ws : va_W} {v : SV} (hvS : v = S.1) (hS : FS cy f S ws) (hI : AI K S) {x : Int32} (hst : l.stackTraces = false) (hq : 0 ≤ (qBat bGood v x).toInt ∨ qBat bGood v x = -5) : MGW l yL_goodBows cL_goodBows 4 (some .int) [(0, 9, 12, 36)] 9 1 6 (D, cy, sa) [.ref f, .int x, .ref o] (([(o, .inl (cy 6, aL 1 fl))] ++ ws)) (fun w u => ∃ (fl1 : Nat → Int64) (ws1 : va_W), w = some (.int (nI (kd 0 0 0 0 1 (qBat bGood v x)))) ∧ u = [(o, .inl (cy 6, aL 1 fl1))] ++ ws1 ∧ (0 ≤ (qBat bGood v x).toInt → FS cy f (S) ws1 ∧ fl1 0 = (qBat bGood v x).toInt64) ∧ ((qBat bGood v x).toInt < 0 → FS cy f (S) ws1)) := by
  refine MGW_by (own := RL) (L := [some (.ref f), some (.int x), some (.ref o), none]) (by decide +kernel) rfl rfl (Nat.le_of_ble_eq_true rfl) 1 rfl (fun X hX hE hT hnL hG hcy hl => ?_)
  refine r_aload_n (pc' := 1) hX dL_goodBows_0 rfl rfl ?_
  refine r_iconst (pc' := 2) (v := nI 0) hX dL_goodBows_1 rfl rfl ?_
  refine r_aload_n (pc' := 3) hX dL_goodBows_2 rfl rfl ?_
  refine r_iload_n (pc' := 4) hX dL_goodBows_3 rfl rfl ?_
  refine V_callX (k' := 1) (n' := 6) (pc' := 7) (wr := [(o, .inl (cy 6, aL 1 fl))]) hX (r_runVX (As := [.int x]) hX dL_goodBows_4 k_L_83 (fun l9 hl9 => by cases hl9; exact cF_goodBows hvS hS hI (hst := (by rw [hl]; exact hst)) ) hG (FS_recv hS) rfl rfl (Nat.le_of_ble_eq_true rfl) (by decide) (by decide) (by decide) (by decide)) (List.perm_append_comm) rfl rfl rfl (fun w9 u9 hp9 => ?_) ?_
  · obtain ⟨okq, rfl, hS9⟩ := hp9
    change V X 1 6 (u9 ++ [(o, .inl (cy 6, aL 1 fl))]) [some (.ref f), some (.int x), some (.ref o), none] [.int (qBat bGood v x), .int (nI 0), .ref o] 7
    refine V_perm (List.perm_append_comm) ?_
    change V X 1 6 ([(o, .inl (cy 6, aL 1 fl))] ++ u9) [some (.ref f), some (.int x), some (.ref o), none] [.int (qBat bGood v x), .int (nI 0), .ref o] 7
    refine r_i2l (pc' := 8) hX dL_goodBows_7 rfl rfl ?_
    refine r_last (pc' := 9) hX dL_goodBows_8 (by rw [hcy]) 0 rfl rfl (fun flq8 hflq8 => ?_)
    change V X 1 6 ([(o, .inl (cy 6, aL 1 flq8))] ++ u9) [some (.ref f), some (.int x), some (.ref o), none] [] 9
    refine r_goto (tgt := 15) hX dL_goodBows_9 (by decide) ?_
    refine r_iconst (pc' := 16) (v := nI 0) hX dL_goodBows_15 rfl rfl ?_
    have hq0 : 0 ≤ (qBat bGood v x).toInt := by
      rcases hq with hq | hq
      · exact hq
      · exact absurd (show noA (qBat bGood v x) from by rw [hq]; decide) okq
    exact r_ireturn hX hE dL_goodBows_16 rfl ⟨_, _, by rw [kd_pos hq0], rfl, fun _ => ⟨hS9, hflq8⟩, fun h9 => absurd hq0 (by omega)⟩ (by omega) (by omega)
  · intro E9 u9 hp9
    obtain ⟨hx9, hE9, hS9⟩ := hp9
    rcases hq with hq | hq
    · exact absurd hq (by omega)
    · have hE8 : E9 = "java/util/NoSuchElementException" := by rw [hE9, hq]; rfl
      subst hE8
      refine VX_catch hX hT [] ⟨0, 9, 12, 36⟩ [] rfl (fun z hz => by cases hz) rfl (by decide) (m4 (j := 152) rfl rfl) ⟨n4 (j := 76) rfl rfl, rfl⟩ (fun q9 => ?_)
      refine V_perm (ws2 := [(o, .inl (cy 6, aL 1 fl))] ++ u9) List.perm_append_comm ?_
      refine r_astore_n (L' := [some (.ref f), some (.int x), some (.ref o), some (.ref q9)]) (pc' := 13) hX dL_goodBows_12 (nlt hnL (by decide)) rfl rfl rfl ?_
      refine r_iconst (pc' := 14) (v := nI 1) hX dL_goodBows_13 rfl rfl ?_
      exact r_ireturn hX hE dL_goodBows_14 rfl ⟨_, _, by rw [hq]; rfl, rfl, fun h9 => absurd h9 (by rw [hq]; decide), fun _ => hS9⟩ (by decide) (by decide)

set_option maxRecDepth 20000 in
set_option maxHeartbeats 1000000 in
theorem cW_sampleSize {l : Launch} {D : va_G} {cy : Nat → ClassId} {sa : Nat → Nat} {f K o : Nat} {fl : Nat → Int64} {S : AS} {ws : va_W} {v : SV} (hvS : v = S.1) (hS : FS cy f S ws) (hI : AI K S) {x : Int32} (hst : l.stackTraces = false) (hq : 0 ≤ (qBat bSam v x).toInt ∨ qBat bSam v x = -5) : MGW l yL_sampleSize cL_sampleSize 4 (some .int) [(0, 9, 12, 36)] 9 1 6 (D, cy, sa) [.ref f, .int x, .ref o] (([(o, .inl (cy 6, aL 1 fl))] ++ ws)) (fun w u => ∃ (fl1 : Nat → Int64) (ws1 : va_W), w = some (.int (nI (kd 0 0 0 0 1 (qBat bSam v x)))) ∧ u = [(o, .inl (cy 6, aL 1 fl1))] ++ ws1 ∧ (0 ≤ (qBat bSam v x).toInt → FS cy f (S) ws1 ∧ fl1 0 = (qBat bSam v x).toInt64) ∧ ((qBat bSam v x).toInt < 0 → FS cy f (S) ws1)) := by
  refine MGW_by (own := RL) (L := [some (.ref f), some (.int x), some (.ref o), none]) (by decide +kernel) rfl rfl (Nat.le_of_ble_eq_true rfl) 1 rfl (fun X hX hE hT hnL hG hcy hl => ?_)
  refine r_aload_n (pc' := 1) hX dL_sampleSize_0 rfl rfl ?_
  refine r_iconst (pc' := 2) (v := nI 0) hX dL_sampleSize_1 rfl rfl ?_
  refine r_aload_n (pc' := 3) hX dL_sampleSize_2 rfl rfl ?_
  refine r_iload_n (pc' := 4) hX dL_sampleSize_3 rfl rfl ?_
  refine V_callX (k' := 1) (n' := 6) (pc' := 7) (wr := [(o, .inl (cy 6, aL 1 fl))]) hX (r_runVX (As := [.int x]) hX dL_sampleSize_4 k_L_86 (fun l9 hl9 => by cases hl9; exact cF_sampleSize hvS hS hI (hst := (by rw [hl]; exact hst)) ) hG (FS_recv hS) rfl rfl (Nat.le_of_ble_eq_true rfl) (by decide) (by decide) (by decide) (by decide)) (List.perm_append_comm) rfl rfl rfl (fun w9 u9 hp9 => ?_) ?_
  · obtain ⟨okq, rfl, hS9⟩ := hp9
    change V X 1 6 (u9 ++ [(o, .inl (cy 6, aL 1 fl))]) [some (.ref f), some (.int x), some (.ref o), none] [.int (qBat bSam v x), .int (nI 0), .ref o] 7
    refine V_perm (List.perm_append_comm) ?_
    change V X 1 6 ([(o, .inl (cy 6, aL 1 fl))] ++ u9) [some (.ref f), some (.int x), some (.ref o), none] [.int (qBat bSam v x), .int (nI 0), .ref o] 7
    refine r_i2l (pc' := 8) hX dL_sampleSize_7 rfl rfl ?_
    refine r_last (pc' := 9) hX dL_sampleSize_8 (by rw [hcy]) 0 rfl rfl (fun flq8 hflq8 => ?_)
    change V X 1 6 ([(o, .inl (cy 6, aL 1 flq8))] ++ u9) [some (.ref f), some (.int x), some (.ref o), none] [] 9
    refine r_goto (tgt := 15) hX dL_sampleSize_9 (by decide) ?_
    refine r_iconst (pc' := 16) (v := nI 0) hX dL_sampleSize_15 rfl rfl ?_
    have hq0 : 0 ≤ (qBat bSam v x).toInt := by
      rcases hq with hq | hq
      · exact hq
      · exact absurd (show noA (qBat bSam v x) from by rw [hq]; decide) okq
    exact r_ireturn hX hE dL_sampleSize_16 rfl ⟨_, _, by rw [kd_pos hq0], rfl, fun _ => ⟨hS9, hflq8⟩, fun h9 => absurd hq0 (by omega)⟩ (by omega) (by omega)
  · intro E9 u9 hp9
    obtain ⟨hx9, hE9, hS9⟩ := hp9
    rcases hq with hq | hq
    · exact absurd hq (by omega)
    · have hE8 : E9 = "java/util/NoSuchElementException" := by rw [hE9, hq]; rfl
      subst hE8
      refine VX_catch hX hT [] ⟨0, 9, 12, 36⟩ [] rfl (fun z hz => by cases hz) rfl (by decide) (m4 (j := 152) rfl rfl) ⟨n4 (j := 76) rfl rfl, rfl⟩ (fun q9 => ?_)
      refine V_perm (ws2 := [(o, .inl (cy 6, aL 1 fl))] ++ u9) List.perm_append_comm ?_
      refine r_astore_n (L' := [some (.ref f), some (.int x), some (.ref o), some (.ref q9)]) (pc' := 13) hX dL_sampleSize_12 (nlt hnL (by decide)) rfl rfl rfl ?_
      refine r_iconst (pc' := 14) (v := nI 1) hX dL_sampleSize_13 rfl rfl ?_
      exact r_ireturn hX hE dL_sampleSize_14 rfl ⟨_, _, by rw [hq]; rfl, rfl, fun h9 => absurd h9 (by rw [hq]; decide), fun _ => hS9⟩ (by decide) (by decide)

set_option maxRecDepth 20000 in
set_option maxHeartbeats 1000000 in
theorem cW_wouldPass {l : Launch} {D : va_G} {cy : Nat → ClassId} {sa : Nat → Nat} {f K o : Nat} {fl : Nat → Int64} {S : AS} {ws : va_W} {v : SV} (hvS : v = S.1) (hS : FS cy f S ws) (hI : AI K S) {x : Int32} (hst : l.stackTraces = false) (hq : 0 ≤ ((if plc v x.toInt < v 0 4 then (0 : Int32) else -5)).toInt ∨ (if plc v x.toInt < v 0 4 then (0 : Int32) else -5) = -5) : MGW l yL_wouldPass cL_wouldPass 4 (some .int) [(0, 16, 19, 36)] 9 1 6 (D, cy, sa) [.ref f, .int x, .ref o] (([(o, .inl (cy 6, aL 1 fl))] ++ ws)) (fun w u => ∃ (fl1 : Nat → Int64) (ws1 : va_W), w = some (.int (nI (kd 0 0 0 0 1 ((if plc v x.toInt < v 0 4 then (0 : Int32) else -5))))) ∧ u = [(o, .inl (cy 6, aL 1 fl1))] ++ ws1 ∧ (0 ≤ ((if plc v x.toInt < v 0 4 then (0 : Int32) else -5)).toInt → FS cy f (S) ws1 ∧ fl1 0 = if pas (v (21 + plc v x.toInt)) (v (13 + plc v x.toInt) 2) (v 0 3) (v 0 2) then 1 else 0) ∧ (((if plc v x.toInt < v 0 4 then (0 : Int32) else -5)).toInt < 0 → FS cy f (S) ws1)) := by
  refine MGW_by (own := RL) (L := [some (.ref f), some (.int x), some (.ref o), none]) (by decide +kernel) rfl rfl (Nat.le_of_ble_eq_true rfl) 1 rfl (fun X hX hE hT hnL hG hcy hl => ?_)
  refine r_aload_n (pc' := 1) hX dL_wouldPass_0 rfl rfl ?_
  refine r_iconst (pc' := 2) (v := nI 0) hX dL_wouldPass_1 rfl rfl ?_
  refine r_aload_n (pc' := 3) hX dL_wouldPass_2 rfl rfl ?_
  refine r_iload_n (pc' := 4) hX dL_wouldPass_3 rfl rfl ?_
  refine V_callX (k' := 1) (n' := 6) (pc' := 7) (wr := [(o, .inl (cy 6, aL 1 fl))]) hX (r_runVX (As := [.int x]) hX dL_wouldPass_4 k_L_89 (fun l9 hl9 => by cases hl9; exact cF_wouldPass hvS hS hI (hst := (by rw [hl]; exact hst)) ) hG (FS_recv hS) rfl rfl (Nat.le_of_ble_eq_true rfl) (by decide) (by decide) (by decide) (by decide)) (List.perm_append_comm) rfl rfl rfl (fun w9 u9 hp9 => ?_) ?_
  · obtain ⟨okq, rfl, hS9⟩ := hp9
    have okp := okq
    replace okq : okA (if plc v x.toInt < v 0 4 then (0 : Int32) else -5) := by rw [if_pos okp]; decide
    change V X 1 6 (u9 ++ [(o, .inl (cy 6, aL 1 fl))]) [some (.ref f), some (.int x), some (.ref o), none] [.int (bI (pas (v (21 + plc v x.toInt)) (v (13 + plc v x.toInt) 2) (v 0 3) (v 0 2))), .int (nI 0), .ref o] 7
    refine V_perm (List.perm_append_comm) ?_
    change V X 1 6 ([(o, .inl (cy 6, aL 1 fl))] ++ u9) [some (.ref f), some (.int x), some (.ref o), none] [.int (bI (pas (v (21 + plc v x.toInt)) (v (13 + plc v x.toInt) 2) (v 0 3) (v 0 2))), .int (nI 0), .ref o] 7
    refine r_if_eq_B (tgt := 14) (pc' := 10) hX dL_wouldPass_7 (by decide) rfl (fun c7 => ?_) (fun c7 => ?_)
    · refine r_lconst (pc' := 15) (v := 0) hX dL_wouldPass_14 rfl rfl ?_
      refine r_last (pc' := 16) hX dL_wouldPass_15 (by rw [hcy]) 0 rfl rfl (fun flq15 hflq15 => ?_)
      change V X 1 6 ([(o, .inl (cy 6, aL 1 flq15))] ++ u9) [some (.ref f), some (.int x), some (.ref o), none] [] 16
      refine r_goto (tgt := 22) hX dL_wouldPass_16 (by decide) ?_
      refine r_iconst (pc' := 23) (v := nI 0) hX dL_wouldPass_22 rfl rfl ?_
      have hq0 : 0 ≤ ((if plc v x.toInt < v 0 4 then (0 : Int32) else -5)).toInt := by
        rcases hq with hq | hq
        · exact hq
        · exact absurd (show noA ((if plc v x.toInt < v 0 4 then (0 : Int32) else -5)) from by rw [hq]; decide) okq
      exact r_ireturn hX hE dL_wouldPass_23 rfl ⟨_, _, by rw [kd_pos hq0], rfl, fun _ => ⟨hS9, hflq15.trans (if_neg (by first | omega | assumption)).symm⟩, fun h9 => absurd hq0 (by omega)⟩ (by omega) (by omega)
    · refine r_lconst (pc' := 11) (v := 1) hX dL_wouldPass_10 rfl rfl ?_
      refine r_goto (tgt := 15) hX dL_wouldPass_11 (by decide) ?_
      refine r_last (pc' := 16) hX dL_wouldPass_15 (by rw [hcy]) 0 rfl rfl (fun flq15_2 hflq15_2 => ?_)
      change V X 1 6 ([(o, .inl (cy 6, aL 1 flq15_2))] ++ u9) [some (.ref f), some (.int x), some (.ref o), none] [] 16
      refine r_goto (tgt := 22) hX dL_wouldPass_16 (by decide) ?_
      refine r_iconst (pc' := 23) (v := nI 0) hX dL_wouldPass_22 rfl rfl ?_
      have hq0 : 0 ≤ ((if plc v x.toInt < v 0 4 then (0 : Int32) else -5)).toInt := by
        rcases hq with hq | hq
        · exact hq
        · exact absurd (show noA ((if plc v x.toInt < v 0 4 then (0 : Int32) else -5)) from by rw [hq]; decide) okq
      exact r_ireturn hX hE dL_wouldPass_23 rfl ⟨_, _, by rw [kd_pos hq0], rfl, fun _ => ⟨hS9, hflq15_2.trans (if_pos (by first | omega | assumption)).symm⟩, fun h9 => absurd hq0 (by omega)⟩ (by omega) (by omega)
  · intro E9 u9 hp9
    obtain ⟨hx9, hE9, hS9⟩ := hp9
    have hn9 := hx9
    replace hE9 : E9 = exC (if plc v x.toInt < v 0 4 then (0 : Int32) else -5) := by rw [if_neg hn9]; exact hE9
    replace hx9 : noA (if plc v x.toInt < v 0 4 then (0 : Int32) else -5) := by rw [if_neg hn9]; decide
    rcases hq with hq | hq
    · exact absurd hq (by omega)
    · have hE8 : E9 = "java/util/NoSuchElementException" := by rw [hE9, hq]; rfl
      subst hE8
      refine VX_catch hX hT [] ⟨0, 16, 19, 36⟩ [] rfl (fun z hz => by cases hz) rfl (by decide) (m4 (j := 152) rfl rfl) ⟨n4 (j := 76) rfl rfl, rfl⟩ (fun q9 => ?_)
      refine V_perm (ws2 := [(o, .inl (cy 6, aL 1 fl))] ++ u9) List.perm_append_comm ?_
      refine r_astore_n (L' := [some (.ref f), some (.int x), some (.ref o), some (.ref q9)]) (pc' := 20) hX dL_wouldPass_19 (nlt hnL (by decide)) rfl rfl rfl ?_
      refine r_iconst (pc' := 21) (v := nI 1) hX dL_wouldPass_20 rfl rfl ?_
      exact r_ireturn hX hE dL_wouldPass_21 rfl ⟨_, _, by rw [hq]; rfl, rfl, fun h9 => absurd h9 (by rw [hq]; decide), fun _ => hS9⟩ (by decide) (by decide)

set_option maxRecDepth 20000 in
set_option maxHeartbeats 1000000 in
theorem cW_neededTolerance {l : Launch} {D : va_G} {cy : Nat → ClassId} {sa : Nat → Nat} {f K o : Nat} {fl : Nat → Int64} {S : AS} {ws : va_W} {v : SV} (hvS : v = S.1) (hS : FS cy f S ws) (hI : AI K S) {x : Int32} (hst : l.stackTraces = false) (hq : 0 ≤ (qBat bNee v x).toInt ∨ qBat bNee v x = -5) : MGW l yL_neededTolerance cL_neededTolerance 4 (some .int) [(0, 9, 12, 36)] 9 1 6 (D, cy, sa) [.ref f, .int x, .ref o] (([(o, .inl (cy 6, aL 1 fl))] ++ ws)) (fun w u => ∃ (fl1 : Nat → Int64) (ws1 : va_W), w = some (.int (nI (kd 0 0 0 0 1 (qBat bNee v x)))) ∧ u = [(o, .inl (cy 6, aL 1 fl1))] ++ ws1 ∧ (0 ≤ (qBat bNee v x).toInt → FS cy f (S) ws1 ∧ fl1 0 = (qBat bNee v x).toInt64) ∧ ((qBat bNee v x).toInt < 0 → FS cy f (S) ws1)) := by
  refine MGW_by (own := RL) (L := [some (.ref f), some (.int x), some (.ref o), none]) (by decide +kernel) rfl rfl (Nat.le_of_ble_eq_true rfl) 1 rfl (fun X hX hE hT hnL hG hcy hl => ?_)
  refine r_aload_n (pc' := 1) hX dL_neededTolerance_0 rfl rfl ?_
  refine r_iconst (pc' := 2) (v := nI 0) hX dL_neededTolerance_1 rfl rfl ?_
  refine r_aload_n (pc' := 3) hX dL_neededTolerance_2 rfl rfl ?_
  refine r_iload_n (pc' := 4) hX dL_neededTolerance_3 rfl rfl ?_
  refine V_callX (k' := 1) (n' := 6) (pc' := 7) (wr := [(o, .inl (cy 6, aL 1 fl))]) hX (r_runVX (As := [.int x]) hX dL_neededTolerance_4 k_L_92 (fun l9 hl9 => by cases hl9; exact cF_neededTolerance hvS hS hI (hst := (by rw [hl]; exact hst)) ) hG (FS_recv hS) rfl rfl (Nat.le_of_ble_eq_true rfl) (by decide) (by decide) (by decide) (by decide)) (List.perm_append_comm) rfl rfl rfl (fun w9 u9 hp9 => ?_) ?_
  · obtain ⟨okq, rfl, hS9⟩ := hp9
    change V X 1 6 (u9 ++ [(o, .inl (cy 6, aL 1 fl))]) [some (.ref f), some (.int x), some (.ref o), none] [.int (qBat bNee v x), .int (nI 0), .ref o] 7
    refine V_perm (List.perm_append_comm) ?_
    change V X 1 6 ([(o, .inl (cy 6, aL 1 fl))] ++ u9) [some (.ref f), some (.int x), some (.ref o), none] [.int (qBat bNee v x), .int (nI 0), .ref o] 7
    refine r_i2l (pc' := 8) hX dL_neededTolerance_7 rfl rfl ?_
    refine r_last (pc' := 9) hX dL_neededTolerance_8 (by rw [hcy]) 0 rfl rfl (fun flq8 hflq8 => ?_)
    change V X 1 6 ([(o, .inl (cy 6, aL 1 flq8))] ++ u9) [some (.ref f), some (.int x), some (.ref o), none] [] 9
    refine r_goto (tgt := 15) hX dL_neededTolerance_9 (by decide) ?_
    refine r_iconst (pc' := 16) (v := nI 0) hX dL_neededTolerance_15 rfl rfl ?_
    have hq0 : 0 ≤ (qBat bNee v x).toInt := by
      rcases hq with hq | hq
      · exact hq
      · exact absurd (show noA (qBat bNee v x) from by rw [hq]; decide) okq
    exact r_ireturn hX hE dL_neededTolerance_16 rfl ⟨_, _, by rw [kd_pos hq0], rfl, fun _ => ⟨hS9, hflq8⟩, fun h9 => absurd hq0 (by omega)⟩ (by omega) (by omega)
  · intro E9 u9 hp9
    obtain ⟨hx9, hE9, hS9⟩ := hp9
    rcases hq with hq | hq
    · exact absurd hq (by omega)
    · have hE8 : E9 = "java/util/NoSuchElementException" := by rw [hE9, hq]; rfl
      subst hE8
      refine VX_catch hX hT [] ⟨0, 9, 12, 36⟩ [] rfl (fun z hz => by cases hz) rfl (by decide) (m4 (j := 152) rfl rfl) ⟨n4 (j := 76) rfl rfl, rfl⟩ (fun q9 => ?_)
      refine V_perm (ws2 := [(o, .inl (cy 6, aL 1 fl))] ++ u9) List.perm_append_comm ?_
      refine r_astore_n (L' := [some (.ref f), some (.int x), some (.ref o), some (.ref q9)]) (pc' := 13) hX dL_neededTolerance_12 (nlt hnL (by decide)) rfl rfl rfl ?_
      refine r_iconst (pc' := 14) (v := nI 1) hX dL_neededTolerance_13 rfl rfl ?_
      exact r_ireturn hX hE dL_neededTolerance_14 rfl ⟨_, _, by rw [hq]; rfl, rfl, fun h9 => absurd h9 (by rw [hq]; decide), fun _ => hS9⟩ (by decide) (by decide)

set_option maxRecDepth 20000 in
set_option maxHeartbeats 1000000 in
theorem cW_neededToleranceByTrying {l : Launch} {D : va_G} {cy : Nat → ClassId} {sa : Nat → Nat} {f K o : Nat} {fl : Nat → Int64} {S : AS} {ws : va_W} {v : SV} (hvS : v = S.1) (hS : FS cy f S ws) (hI : AI K S) {x : Int32} (hst : l.stackTraces = false) (hq : 0 ≤ (qBat bNee v x).toInt ∨ qBat bNee v x = -5) : MGW l yL_neededToleranceByTrying cL_neededToleranceByTrying 4 (some .int) [(0, 9, 12, 36)] 9 1 6 (D, cy, sa) [.ref f, .int x, .ref o] (([(o, .inl (cy 6, aL 1 fl))] ++ ws)) (fun w u => ∃ (fl1 : Nat → Int64) (ws1 : va_W), w = some (.int (nI (kd 0 0 0 0 1 (qBat bNee v x)))) ∧ u = [(o, .inl (cy 6, aL 1 fl1))] ++ ws1 ∧ (0 ≤ (qBat bNee v x).toInt → FS cy f (S) ws1 ∧ fl1 0 = (qBat bNee v x).toInt64) ∧ ((qBat bNee v x).toInt < 0 → FS cy f (S) ws1)) := by
  refine MGW_by (own := RL) (L := [some (.ref f), some (.int x), some (.ref o), none]) (by decide +kernel) rfl rfl (Nat.le_of_ble_eq_true rfl) 1 rfl (fun X hX hE hT hnL hG hcy hl => ?_)
  refine r_aload_n (pc' := 1) hX dL_neededToleranceByTrying_0 rfl rfl ?_
  refine r_iconst (pc' := 2) (v := nI 0) hX dL_neededToleranceByTrying_1 rfl rfl ?_
  refine r_aload_n (pc' := 3) hX dL_neededToleranceByTrying_2 rfl rfl ?_
  refine r_iload_n (pc' := 4) hX dL_neededToleranceByTrying_3 rfl rfl ?_
  refine V_callX (k' := 1) (n' := 6) (pc' := 7) (wr := [(o, .inl (cy 6, aL 1 fl))]) hX (r_runVX (As := [.int x]) hX dL_neededToleranceByTrying_4 k_L_95 (fun l9 hl9 => by cases hl9; exact cF_neededToleranceByTrying hvS hS hI (hst := (by rw [hl]; exact hst)) ) hG (FS_recv hS) rfl rfl (Nat.le_of_ble_eq_true rfl) (by decide) (by decide) (by decide) (by decide)) (List.perm_append_comm) rfl rfl rfl (fun w9 u9 hp9 => ?_) ?_
  · obtain ⟨okq, rfl, hS9⟩ := hp9
    change V X 1 6 (u9 ++ [(o, .inl (cy 6, aL 1 fl))]) [some (.ref f), some (.int x), some (.ref o), none] [.int (qBat bNee v x), .int (nI 0), .ref o] 7
    refine V_perm (List.perm_append_comm) ?_
    change V X 1 6 ([(o, .inl (cy 6, aL 1 fl))] ++ u9) [some (.ref f), some (.int x), some (.ref o), none] [.int (qBat bNee v x), .int (nI 0), .ref o] 7
    refine r_i2l (pc' := 8) hX dL_neededToleranceByTrying_7 rfl rfl ?_
    refine r_last (pc' := 9) hX dL_neededToleranceByTrying_8 (by rw [hcy]) 0 rfl rfl (fun flq8 hflq8 => ?_)
    change V X 1 6 ([(o, .inl (cy 6, aL 1 flq8))] ++ u9) [some (.ref f), some (.int x), some (.ref o), none] [] 9
    refine r_goto (tgt := 15) hX dL_neededToleranceByTrying_9 (by decide) ?_
    refine r_iconst (pc' := 16) (v := nI 0) hX dL_neededToleranceByTrying_15 rfl rfl ?_
    have hq0 : 0 ≤ (qBat bNee v x).toInt := by
      rcases hq with hq | hq
      · exact hq
      · exact absurd (show noA (qBat bNee v x) from by rw [hq]; decide) okq
    exact r_ireturn hX hE dL_neededToleranceByTrying_16 rfl ⟨_, _, by rw [kd_pos hq0], rfl, fun _ => ⟨hS9, hflq8⟩, fun h9 => absurd hq0 (by omega)⟩ (by omega) (by omega)
  · intro E9 u9 hp9
    obtain ⟨hx9, hE9, hS9⟩ := hp9
    rcases hq with hq | hq
    · exact absurd hq (by omega)
    · have hE8 : E9 = "java/util/NoSuchElementException" := by rw [hE9, hq]; rfl
      subst hE8
      refine VX_catch hX hT [] ⟨0, 9, 12, 36⟩ [] rfl (fun z hz => by cases hz) rfl (by decide) (m4 (j := 152) rfl rfl) ⟨n4 (j := 76) rfl rfl, rfl⟩ (fun q9 => ?_)
      refine V_perm (ws2 := [(o, .inl (cy 6, aL 1 fl))] ++ u9) List.perm_append_comm ?_
      refine r_astore_n (L' := [some (.ref f), some (.int x), some (.ref o), some (.ref q9)]) (pc' := 13) hX dL_neededToleranceByTrying_12 (nlt hnL (by decide)) rfl rfl rfl ?_
      refine r_iconst (pc' := 14) (v := nI 1) hX dL_neededToleranceByTrying_13 rfl rfl ?_
      exact r_ireturn hX hE dL_neededToleranceByTrying_14 rfl ⟨_, _, by rw [hq]; rfl, rfl, fun h9 => absurd h9 (by rw [hq]; decide), fun _ => hS9⟩ (by decide) (by decide)

set_option maxRecDepth 20000 in
set_option maxHeartbeats 1000000 in
theorem cW_nextSqueak {l : Launch} {D : va_G} {cy : Nat → ClassId} {sa : Nat → Nat} {f K o : Nat} {fl : Nat → Int64} {S : AS} {ws : va_W} {v : SV} (hvS : v = S.1) (hS : FS cy f S ws) (hI : AI K S) {x y : Int32} (hst : l.stackTraces = false) (hq : 0 ≤ (qNxt v x y).toInt ∨ qNxt v x y = -1) : MGW l yL_nextSqueak cL_nextSqueak 5 (some .int) [(0, 10, 13, 25)] 8 1 6 (D, cy, sa) [.ref f, .int x, .int y, .ref o] (([(o, .inl (cy 6, aL 1 fl))] ++ ws)) (fun w u => ∃ (fl1 : Nat → Int64) (ws1 : va_W), w = some (.int (nI (kd 1 0 0 0 0 (qNxt v x y)))) ∧ u = [(o, .inl (cy 6, aL 1 fl1))] ++ ws1 ∧ (0 ≤ (qNxt v x y).toInt → FS cy f (S) ws1 ∧ fl1 0 = (qNxt v x y).toInt64) ∧ ((qNxt v x y).toInt < 0 → FS cy f (S) ws1)) := by
  refine MGW_by (own := RL) (L := [some (.ref f), some (.int x), some (.int y), some (.ref o), none]) (by decide +kernel) rfl rfl (Nat.le_of_ble_eq_true rfl) 1 rfl (fun X hX hE hT hnL hG hcy hl => ?_)
  refine r_aload_n (pc' := 1) hX dL_nextSqueak_0 rfl rfl ?_
  refine r_iconst (pc' := 2) (v := nI 0) hX dL_nextSqueak_1 rfl rfl ?_
  refine r_aload_n (pc' := 3) hX dL_nextSqueak_2 rfl rfl ?_
  refine r_iload_n (pc' := 4) hX dL_nextSqueak_3 rfl rfl ?_
  refine r_iload_n (pc' := 5) hX dL_nextSqueak_4 rfl rfl ?_
  refine V_callX (k' := 1) (n' := 6) (pc' := 8) (wr := [(o, .inl (cy 6, aL 1 fl))]) hX (r_runVX (As := [.int x, .int y]) hX dL_nextSqueak_5 k_L_98 (fun l9 hl9 => by cases hl9; exact cF_nextSqueak hvS hS hI (hst := (by rw [hl]; exact hst)) ) hG (FS_recv hS) rfl rfl (Nat.le_of_ble_eq_true rfl) (by decide) (by decide) (by decide) (by decide)) (List.perm_append_comm) rfl rfl rfl (fun w9 u9 hp9 => ?_) ?_
  · obtain ⟨okq, rfl, hS9⟩ := hp9
    change V X 1 6 (u9 ++ [(o, .inl (cy 6, aL 1 fl))]) [some (.ref f), some (.int x), some (.int y), some (.ref o), none] [.int (qNxt v x y), .int (nI 0), .ref o] 8
    refine V_perm (List.perm_append_comm) ?_
    change V X 1 6 ([(o, .inl (cy 6, aL 1 fl))] ++ u9) [some (.ref f), some (.int x), some (.int y), some (.ref o), none] [.int (qNxt v x y), .int (nI 0), .ref o] 8
    refine r_i2l (pc' := 9) hX dL_nextSqueak_8 rfl rfl ?_
    refine r_last (pc' := 10) hX dL_nextSqueak_9 (by rw [hcy]) 0 rfl rfl (fun flq9 hflq9 => ?_)
    change V X 1 6 ([(o, .inl (cy 6, aL 1 flq9))] ++ u9) [some (.ref f), some (.int x), some (.int y), some (.ref o), none] [] 10
    refine r_goto (tgt := 17) hX dL_nextSqueak_10 (by decide) ?_
    refine r_iconst (pc' := 18) (v := nI 0) hX dL_nextSqueak_17 rfl rfl ?_
    have hq0 : 0 ≤ (qNxt v x y).toInt := by
      rcases hq with hq | hq
      · exact hq
      · exact absurd (show noA (qNxt v x y) from by rw [hq]; decide) okq
    exact r_ireturn hX hE dL_nextSqueak_18 rfl ⟨_, _, by rw [kd_pos hq0], rfl, fun _ => ⟨hS9, hflq9⟩, fun h9 => absurd hq0 (by omega)⟩ (by omega) (by omega)
  · intro E9 u9 hp9
    obtain ⟨hx9, hE9, hS9⟩ := hp9
    rcases hq with hq | hq
    · exact absurd hq (by omega)
    · have hE8 : E9 = "java/lang/IndexOutOfBoundsException" := by rw [hE9, hq]; rfl
      subst hE8
      refine VX_catch hX hT [] ⟨0, 10, 13, 25⟩ [] rfl (fun z hz => by cases hz) rfl (by decide) (m4 (j := 104) rfl rfl) ⟨n4 (j := 28) rfl rfl, rfl⟩ (fun q9 => ?_)
      refine V_perm (ws2 := [(o, .inl (cy 6, aL 1 fl))] ++ u9) List.perm_append_comm ?_
      refine r_astore (L' := [some (.ref f), some (.int x), some (.int y), some (.ref o), some (.ref q9)]) (pc' := 15) hX dL_nextSqueak_13 (nlt hnL (by decide)) rfl rfl rfl ?_
      refine r_iconst (pc' := 16) (v := nI 1) hX dL_nextSqueak_15 rfl rfl ?_
      exact r_ireturn hX hE dL_nextSqueak_16 rfl ⟨_, _, by rw [hq]; rfl, rfl, fun h9 => absurd h9 (by rw [hq]; decide), fun _ => hS9⟩ (by decide) (by decide)

set_option maxRecDepth 20000 in
set_option maxHeartbeats 1000000 in
theorem cW_possibleBows {l : Launch} {D : va_G} {cy : Nat → ClassId} {sa : Nat → Nat} {f K o : Nat} {fl : Nat → Int64} {S : AS} {ws : va_W} {v : SV} (hvS : v = S.1) (hS : FS cy f S ws) (hI : AI K S) {x : Int32} (hst : l.stackTraces = false) (hq : 0 ≤ (qPos v x).toInt ∨ qPos v x = -1) : MGW l yL_possibleBows cL_possibleBows 4 (some .int) [(0, 9, 12, 25)] 8 1 6 (D, cy, sa) [.ref f, .int x, .ref o] (([(o, .inl (cy 6, aL 1 fl))] ++ ws)) (fun w u => ∃ (fl1 : Nat → Int64) (ws1 : va_W), w = some (.int (nI (kd 1 0 0 0 0 (qPos v x)))) ∧ u = [(o, .inl (cy 6, aL 1 fl1))] ++ ws1 ∧ (0 ≤ (qPos v x).toInt → FS cy f (S) ws1 ∧ fl1 0 = (qPos v x).toInt64) ∧ ((qPos v x).toInt < 0 → FS cy f (S) ws1)) := by
  refine MGW_by (own := RL) (L := [some (.ref f), some (.int x), some (.ref o), none]) (by decide +kernel) rfl rfl (Nat.le_of_ble_eq_true rfl) 1 rfl (fun X hX hE hT hnL hG hcy hl => ?_)
  refine r_aload_n (pc' := 1) hX dL_possibleBows_0 rfl rfl ?_
  refine r_iconst (pc' := 2) (v := nI 0) hX dL_possibleBows_1 rfl rfl ?_
  refine r_aload_n (pc' := 3) hX dL_possibleBows_2 rfl rfl ?_
  refine r_iload_n (pc' := 4) hX dL_possibleBows_3 rfl rfl ?_
  refine V_callX (k' := 1) (n' := 6) (pc' := 7) (wr := [(o, .inl (cy 6, aL 1 fl))]) hX (r_runVX (As := [.int x]) hX dL_possibleBows_4 k_L_101 (fun l9 hl9 => by cases hl9; exact cF_possibleBows hvS hS hI (hst := (by rw [hl]; exact hst)) ) hG (FS_recv hS) rfl rfl (Nat.le_of_ble_eq_true rfl) (by decide) (by decide) (by decide) (by decide)) (List.perm_append_comm) rfl rfl rfl (fun w9 u9 hp9 => ?_) ?_
  · obtain ⟨okq, rfl, hS9⟩ := hp9
    change V X 1 6 (u9 ++ [(o, .inl (cy 6, aL 1 fl))]) [some (.ref f), some (.int x), some (.ref o), none] [.int (qPos v x), .int (nI 0), .ref o] 7
    refine V_perm (List.perm_append_comm) ?_
    change V X 1 6 ([(o, .inl (cy 6, aL 1 fl))] ++ u9) [some (.ref f), some (.int x), some (.ref o), none] [.int (qPos v x), .int (nI 0), .ref o] 7
    refine r_i2l (pc' := 8) hX dL_possibleBows_7 rfl rfl ?_
    refine r_last (pc' := 9) hX dL_possibleBows_8 (by rw [hcy]) 0 rfl rfl (fun flq8 hflq8 => ?_)
    change V X 1 6 ([(o, .inl (cy 6, aL 1 flq8))] ++ u9) [some (.ref f), some (.int x), some (.ref o), none] [] 9
    refine r_goto (tgt := 15) hX dL_possibleBows_9 (by decide) ?_
    refine r_iconst (pc' := 16) (v := nI 0) hX dL_possibleBows_15 rfl rfl ?_
    have hq0 : 0 ≤ (qPos v x).toInt := by
      rcases hq with hq | hq
      · exact hq
      · exact absurd (show noA (qPos v x) from by rw [hq]; decide) okq
    exact r_ireturn hX hE dL_possibleBows_16 rfl ⟨_, _, by rw [kd_pos hq0], rfl, fun _ => ⟨hS9, hflq8⟩, fun h9 => absurd hq0 (by omega)⟩ (by omega) (by omega)
  · intro E9 u9 hp9
    obtain ⟨hx9, hE9, hS9⟩ := hp9
    rcases hq with hq | hq
    · exact absurd hq (by omega)
    · have hE8 : E9 = "java/lang/IndexOutOfBoundsException" := by rw [hE9, hq]; rfl
      subst hE8
      refine VX_catch hX hT [] ⟨0, 9, 12, 25⟩ [] rfl (fun z hz => by cases hz) rfl (by decide) (m4 (j := 104) rfl rfl) ⟨n4 (j := 28) rfl rfl, rfl⟩ (fun q9 => ?_)
      refine V_perm (ws2 := [(o, .inl (cy 6, aL 1 fl))] ++ u9) List.perm_append_comm ?_
      refine r_astore_n (L' := [some (.ref f), some (.int x), some (.ref o), some (.ref q9)]) (pc' := 13) hX dL_possibleBows_12 (nlt hnL (by decide)) rfl rfl rfl ?_
      refine r_iconst (pc' := 14) (v := nI 1) hX dL_possibleBows_13 rfl rfl ?_
      exact r_ireturn hX hE dL_possibleBows_14 rfl ⟨_, _, by rw [hq]; rfl, rfl, fun h9 => absurd h9 (by rw [hq]; decide), fun _ => hS9⟩ (by decide) (by decide)

set_option maxRecDepth 20000 in
set_option maxHeartbeats 1000000 in
theorem cW_metalInBatches {l : Launch} {D : va_G} {cy : Nat → ClassId} {sa : Nat → Nat} {f K o : Nat} {fl : Nat → Int64} {S : AS} {ws : va_W} {v : SV} (hvS : v = S.1) (hS : FS cy f S ws) (hI : AI K S) {x : Int32} (hst : l.stackTraces = false) (hq : 0 ≤ (qMib v x).toInt ∨ qMib v x = -1) : MGW l yL_metalInBatches cL_metalInBatches 4 (some .int) [(0, 9, 12, 25)] 8 1 6 (D, cy, sa) [.ref f, .int x, .ref o] (([(o, .inl (cy 6, aL 1 fl))] ++ ws)) (fun w u => ∃ (fl1 : Nat → Int64) (ws1 : va_W), w = some (.int (nI (kd 1 0 0 0 0 (qMib v x)))) ∧ u = [(o, .inl (cy 6, aL 1 fl1))] ++ ws1 ∧ (0 ≤ (qMib v x).toInt → FS cy f (S) ws1 ∧ fl1 0 = (qMib v x).toInt64) ∧ ((qMib v x).toInt < 0 → FS cy f (S) ws1)) := by
  refine MGW_by (own := RL) (L := [some (.ref f), some (.int x), some (.ref o), none]) (by decide +kernel) rfl rfl (Nat.le_of_ble_eq_true rfl) 1 rfl (fun X hX hE hT hnL hG hcy hl => ?_)
  refine r_aload_n (pc' := 1) hX dL_metalInBatches_0 rfl rfl ?_
  refine r_iconst (pc' := 2) (v := nI 0) hX dL_metalInBatches_1 rfl rfl ?_
  refine r_aload_n (pc' := 3) hX dL_metalInBatches_2 rfl rfl ?_
  refine r_iload_n (pc' := 4) hX dL_metalInBatches_3 rfl rfl ?_
  refine V_callX (k' := 1) (n' := 6) (pc' := 7) (wr := [(o, .inl (cy 6, aL 1 fl))]) hX (r_runVX (As := [.int x]) hX dL_metalInBatches_4 k_L_104 (fun l9 hl9 => by cases hl9; exact cF_metalInBatches hvS hS hI (hst := (by rw [hl]; exact hst)) ) hG (FS_recv hS) rfl rfl (Nat.le_of_ble_eq_true rfl) (by decide) (by decide) (by decide) (by decide)) (List.perm_append_comm) rfl rfl rfl (fun w9 u9 hp9 => ?_) ?_
  · obtain ⟨okq, rfl, hS9⟩ := hp9
    change V X 1 6 (u9 ++ [(o, .inl (cy 6, aL 1 fl))]) [some (.ref f), some (.int x), some (.ref o), none] [.int (qMib v x), .int (nI 0), .ref o] 7
    refine V_perm (List.perm_append_comm) ?_
    change V X 1 6 ([(o, .inl (cy 6, aL 1 fl))] ++ u9) [some (.ref f), some (.int x), some (.ref o), none] [.int (qMib v x), .int (nI 0), .ref o] 7
    refine r_i2l (pc' := 8) hX dL_metalInBatches_7 rfl rfl ?_
    refine r_last (pc' := 9) hX dL_metalInBatches_8 (by rw [hcy]) 0 rfl rfl (fun flq8 hflq8 => ?_)
    change V X 1 6 ([(o, .inl (cy 6, aL 1 flq8))] ++ u9) [some (.ref f), some (.int x), some (.ref o), none] [] 9
    refine r_goto (tgt := 15) hX dL_metalInBatches_9 (by decide) ?_
    refine r_iconst (pc' := 16) (v := nI 0) hX dL_metalInBatches_15 rfl rfl ?_
    have hq0 : 0 ≤ (qMib v x).toInt := by
      rcases hq with hq | hq
      · exact hq
      · exact absurd (show noA (qMib v x) from by rw [hq]; decide) okq
    exact r_ireturn hX hE dL_metalInBatches_16 rfl ⟨_, _, by rw [kd_pos hq0], rfl, fun _ => ⟨hS9, hflq8⟩, fun h9 => absurd hq0 (by omega)⟩ (by omega) (by omega)
  · intro E9 u9 hp9
    obtain ⟨hx9, hE9, hS9⟩ := hp9
    rcases hq with hq | hq
    · exact absurd hq (by omega)
    · have hE8 : E9 = "java/lang/IndexOutOfBoundsException" := by rw [hE9, hq]; rfl
      subst hE8
      refine VX_catch hX hT [] ⟨0, 9, 12, 25⟩ [] rfl (fun z hz => by cases hz) rfl (by decide) (m4 (j := 104) rfl rfl) ⟨n4 (j := 28) rfl rfl, rfl⟩ (fun q9 => ?_)
      refine V_perm (ws2 := [(o, .inl (cy 6, aL 1 fl))] ++ u9) List.perm_append_comm ?_
      refine r_astore_n (L' := [some (.ref f), some (.int x), some (.ref o), some (.ref q9)]) (pc' := 13) hX dL_metalInBatches_12 (nlt hnL (by decide)) rfl rfl rfl ?_
      refine r_iconst (pc' := 14) (v := nI 1) hX dL_metalInBatches_13 rfl rfl ?_
      exact r_ireturn hX hE dL_metalInBatches_14 rfl ⟨_, _, by rw [hq]; rfl, rfl, fun h9 => absurd h9 (by rw [hq]; decide), fun _ => hS9⟩ (by decide) (by decide)

set_option maxRecDepth 20000 in
set_option maxHeartbeats 1000000 in
theorem cW_metalByAccounts {l : Launch} {D : va_G} {cy : Nat → ClassId} {sa : Nat → Nat} {f K o : Nat} {fl : Nat → Int64} {S : AS} {ws : va_W} {v : SV} (hvS : v = S.1) (hS : FS cy f S ws) (hI : AI K S) {x : Int32} (hst : l.stackTraces = false) (hq : 0 ≤ (qMib v x).toInt ∨ qMib v x = -1) : MGW l yL_metalByAccounts cL_metalByAccounts 4 (some .int) [(0, 9, 12, 25)] 8 1 6 (D, cy, sa) [.ref f, .int x, .ref o] (([(o, .inl (cy 6, aL 1 fl))] ++ ws)) (fun w u => ∃ (fl1 : Nat → Int64) (ws1 : va_W), w = some (.int (nI (kd 1 0 0 0 0 (qMib v x)))) ∧ u = [(o, .inl (cy 6, aL 1 fl1))] ++ ws1 ∧ (0 ≤ (qMib v x).toInt → FS cy f (S) ws1 ∧ fl1 0 = (qMib v x).toInt64) ∧ ((qMib v x).toInt < 0 → FS cy f (S) ws1)) := by
  refine MGW_by (own := RL) (L := [some (.ref f), some (.int x), some (.ref o), none]) (by decide +kernel) rfl rfl (Nat.le_of_ble_eq_true rfl) 1 rfl (fun X hX hE hT hnL hG hcy hl => ?_)
  refine r_aload_n (pc' := 1) hX dL_metalByAccounts_0 rfl rfl ?_
  refine r_iconst (pc' := 2) (v := nI 0) hX dL_metalByAccounts_1 rfl rfl ?_
  refine r_aload_n (pc' := 3) hX dL_metalByAccounts_2 rfl rfl ?_
  refine r_iload_n (pc' := 4) hX dL_metalByAccounts_3 rfl rfl ?_
  refine V_callX (k' := 1) (n' := 6) (pc' := 7) (wr := [(o, .inl (cy 6, aL 1 fl))]) hX (r_runVX (As := [.int x]) hX dL_metalByAccounts_4 k_L_107 (fun l9 hl9 => by cases hl9; exact cF_metalByAccounts hvS hS hI (hst := (by rw [hl]; exact hst)) ) hG (FS_recv hS) rfl rfl (Nat.le_of_ble_eq_true rfl) (by decide) (by decide) (by decide) (by decide)) (List.perm_append_comm) rfl rfl rfl (fun w9 u9 hp9 => ?_) ?_
  · obtain ⟨okq, rfl, hS9⟩ := hp9
    change V X 1 6 (u9 ++ [(o, .inl (cy 6, aL 1 fl))]) [some (.ref f), some (.int x), some (.ref o), none] [.int (qMib v x), .int (nI 0), .ref o] 7
    refine V_perm (List.perm_append_comm) ?_
    change V X 1 6 ([(o, .inl (cy 6, aL 1 fl))] ++ u9) [some (.ref f), some (.int x), some (.ref o), none] [.int (qMib v x), .int (nI 0), .ref o] 7
    refine r_i2l (pc' := 8) hX dL_metalByAccounts_7 rfl rfl ?_
    refine r_last (pc' := 9) hX dL_metalByAccounts_8 (by rw [hcy]) 0 rfl rfl (fun flq8 hflq8 => ?_)
    change V X 1 6 ([(o, .inl (cy 6, aL 1 flq8))] ++ u9) [some (.ref f), some (.int x), some (.ref o), none] [] 9
    refine r_goto (tgt := 15) hX dL_metalByAccounts_9 (by decide) ?_
    refine r_iconst (pc' := 16) (v := nI 0) hX dL_metalByAccounts_15 rfl rfl ?_
    have hq0 : 0 ≤ (qMib v x).toInt := by
      rcases hq with hq | hq
      · exact hq
      · exact absurd (show noA (qMib v x) from by rw [hq]; decide) okq
    exact r_ireturn hX hE dL_metalByAccounts_16 rfl ⟨_, _, by rw [kd_pos hq0], rfl, fun _ => ⟨hS9, hflq8⟩, fun h9 => absurd hq0 (by omega)⟩ (by omega) (by omega)
  · intro E9 u9 hp9
    obtain ⟨hx9, hE9, hS9⟩ := hp9
    rcases hq with hq | hq
    · exact absurd hq (by omega)
    · have hE8 : E9 = "java/lang/IndexOutOfBoundsException" := by rw [hE9, hq]; rfl
      subst hE8
      refine VX_catch hX hT [] ⟨0, 9, 12, 25⟩ [] rfl (fun z hz => by cases hz) rfl (by decide) (m4 (j := 104) rfl rfl) ⟨n4 (j := 28) rfl rfl, rfl⟩ (fun q9 => ?_)
      refine V_perm (ws2 := [(o, .inl (cy 6, aL 1 fl))] ++ u9) List.perm_append_comm ?_
      refine r_astore_n (L' := [some (.ref f), some (.int x), some (.ref o), some (.ref q9)]) (pc' := 13) hX dL_metalByAccounts_12 (nlt hnL (by decide)) rfl rfl rfl ?_
      refine r_iconst (pc' := 14) (v := nI 1) hX dL_metalByAccounts_13 rfl rfl ?_
      exact r_ireturn hX hE dL_metalByAccounts_14 rfl ⟨_, _, by rw [hq]; rfl, rfl, fun h9 => absurd h9 (by rw [hq]; decide), fun _ => hS9⟩ (by decide) (by decide)

set_option maxRecDepth 20000 in
set_option maxHeartbeats 1000000 in
theorem cW_batchBySqueak {l : Launch} {D : va_G} {cy : Nat → ClassId} {sa : Nat → Nat} {f K o : Nat} {fl : Nat → Int64} {S : AS} {ws : va_W} {v : SV} (hvS : v = S.1) (hS : FS cy f S ws) (hI : AI K S) {x : Int32} (hst : l.stackTraces = false) (hq : 0 ≤ (qRnk v x).toInt ∨ qRnk v x = -5) : MGW l yL_batchBySqueak cL_batchBySqueak 4 (some .int) [(0, 9, 12, 36)] 8 1 6 (D, cy, sa) [.ref f, .int x, .ref o] (([(o, .inl (cy 6, aL 1 fl))] ++ ws)) (fun w u => ∃ (fl1 : Nat → Int64) (ws1 : va_W), w = some (.int (nI (kd 0 0 0 0 1 (qRnk v x)))) ∧ u = [(o, .inl (cy 6, aL 1 fl1))] ++ ws1 ∧ (0 ≤ (qRnk v x).toInt → FS cy f (S) ws1 ∧ fl1 0 = (qRnk v x).toInt64) ∧ ((qRnk v x).toInt < 0 → FS cy f (S) ws1)) := by
  refine MGW_by (own := RL) (L := [some (.ref f), some (.int x), some (.ref o), none]) (by decide +kernel) rfl rfl (Nat.le_of_ble_eq_true rfl) 1 rfl (fun X hX hE hT hnL hG hcy hl => ?_)
  refine r_aload_n (pc' := 1) hX dL_batchBySqueak_0 rfl rfl ?_
  refine r_iconst (pc' := 2) (v := nI 0) hX dL_batchBySqueak_1 rfl rfl ?_
  refine r_aload_n (pc' := 3) hX dL_batchBySqueak_2 rfl rfl ?_
  refine r_iload_n (pc' := 4) hX dL_batchBySqueak_3 rfl rfl ?_
  refine V_callX (k' := 1) (n' := 6) (pc' := 7) (wr := [(o, .inl (cy 6, aL 1 fl))]) hX (r_runVX (As := [.int x]) hX dL_batchBySqueak_4 k_L_110 (fun l9 hl9 => by cases hl9; exact cF_batchBySqueak hvS hS hI (hst := (by rw [hl]; exact hst)) ) hG (FS_recv hS) rfl rfl (Nat.le_of_ble_eq_true rfl) (by decide) (by decide) (by decide) (by decide)) (List.perm_append_comm) rfl rfl rfl (fun w9 u9 hp9 => ?_) ?_
  · obtain ⟨okq, rfl, hS9⟩ := hp9
    change V X 1 6 (u9 ++ [(o, .inl (cy 6, aL 1 fl))]) [some (.ref f), some (.int x), some (.ref o), none] [.int (qRnk v x), .int (nI 0), .ref o] 7
    refine V_perm (List.perm_append_comm) ?_
    change V X 1 6 ([(o, .inl (cy 6, aL 1 fl))] ++ u9) [some (.ref f), some (.int x), some (.ref o), none] [.int (qRnk v x), .int (nI 0), .ref o] 7
    refine r_i2l (pc' := 8) hX dL_batchBySqueak_7 rfl rfl ?_
    refine r_last (pc' := 9) hX dL_batchBySqueak_8 (by rw [hcy]) 0 rfl rfl (fun flq8 hflq8 => ?_)
    change V X 1 6 ([(o, .inl (cy 6, aL 1 flq8))] ++ u9) [some (.ref f), some (.int x), some (.ref o), none] [] 9
    refine r_goto (tgt := 15) hX dL_batchBySqueak_9 (by decide) ?_
    refine r_iconst (pc' := 16) (v := nI 0) hX dL_batchBySqueak_15 rfl rfl ?_
    have hq0 : 0 ≤ (qRnk v x).toInt := by
      rcases hq with hq | hq
      · exact hq
      · exact absurd (show noA (qRnk v x) from by rw [hq]; decide) okq
    exact r_ireturn hX hE dL_batchBySqueak_16 rfl ⟨_, _, by rw [kd_pos hq0], rfl, fun _ => ⟨hS9, hflq8⟩, fun h9 => absurd hq0 (by omega)⟩ (by omega) (by omega)
  · intro E9 u9 hp9
    obtain ⟨hx9, hE9, hS9⟩ := hp9
    rcases hq with hq | hq
    · exact absurd hq (by omega)
    · have hE8 : E9 = "java/util/NoSuchElementException" := by rw [hE9, hq]; rfl
      subst hE8
      refine VX_catch hX hT [] ⟨0, 9, 12, 36⟩ [] rfl (fun z hz => by cases hz) rfl (by decide) (m4 (j := 152) rfl rfl) ⟨n4 (j := 76) rfl rfl, rfl⟩ (fun q9 => ?_)
      refine V_perm (ws2 := [(o, .inl (cy 6, aL 1 fl))] ++ u9) List.perm_append_comm ?_
      refine r_astore_n (L' := [some (.ref f), some (.int x), some (.ref o), some (.ref q9)]) (pc' := 13) hX dL_batchBySqueak_12 (nlt hnL (by decide)) rfl rfl rfl ?_
      refine r_iconst (pc' := 14) (v := nI 1) hX dL_batchBySqueak_13 rfl rfl ?_
      exact r_ireturn hX hE dL_batchBySqueak_14 rfl ⟨_, _, by rw [hq]; rfl, rfl, fun h9 => absurd h9 (by rw [hq]; decide), fun _ => hS9⟩ (by decide) (by decide)

set_option maxRecDepth 20000 in
set_option maxHeartbeats 1000000 in
theorem cW_lostGrams {l : Launch} {D : va_G} {cy : Nat → ClassId} {sa : Nat → Nat} {f K o : Nat} {fl : Nat → Int64} {S : AS} {ws : va_W} {v : SV} (hvS : v = S.1) (hS : FS cy f S ws) (hI : AI K S) {x : Int32} (hst : l.stackTraces = false) (hq : 0 ≤ (qMet 6 v x).toInt ∨ qMet 6 v x = -1) : MGW l yL_lostGrams cL_lostGrams 4 (some .int) [(0, 9, 12, 25)] 8 1 6 (D, cy, sa) [.ref f, .int x, .ref o] (([(o, .inl (cy 6, aL 1 fl))] ++ ws)) (fun w u => ∃ (fl1 : Nat → Int64) (ws1 : va_W), w = some (.int (nI (kd 1 0 0 0 0 (qMet 6 v x)))) ∧ u = [(o, .inl (cy 6, aL 1 fl1))] ++ ws1 ∧ (0 ≤ (qMet 6 v x).toInt → FS cy f (S) ws1 ∧ fl1 0 = (qMet 6 v x).toInt64) ∧ ((qMet 6 v x).toInt < 0 → FS cy f (S) ws1)) := by
  refine MGW_by (own := RL) (L := [some (.ref f), some (.int x), some (.ref o), none]) (by decide +kernel) rfl rfl (Nat.le_of_ble_eq_true rfl) 1 rfl (fun X hX hE hT hnL hG hcy hl => ?_)
  refine r_aload_n (pc' := 1) hX dL_lostGrams_0 rfl rfl ?_
  refine r_iconst (pc' := 2) (v := nI 0) hX dL_lostGrams_1 rfl rfl ?_
  refine r_aload_n (pc' := 3) hX dL_lostGrams_2 rfl rfl ?_
  refine r_iload_n (pc' := 4) hX dL_lostGrams_3 rfl rfl ?_
  refine V_callX (k' := 1) (n' := 6) (pc' := 7) (wr := [(o, .inl (cy 6, aL 1 fl))]) hX (r_runVX (As := [.int x]) hX dL_lostGrams_4 k_L_113 (fun l9 hl9 => by cases hl9; exact cF_lostGrams hvS hS hI (hst := (by rw [hl]; exact hst)) ) hG (FS_recv hS) rfl rfl (Nat.le_of_ble_eq_true rfl) (by decide) (by decide) (by decide) (by decide)) (List.perm_append_comm) rfl rfl rfl (fun w9 u9 hp9 => ?_) ?_
  · obtain ⟨okq, rfl, hS9⟩ := hp9
    change V X 1 6 (u9 ++ [(o, .inl (cy 6, aL 1 fl))]) [some (.ref f), some (.int x), some (.ref o), none] [.int (qMet 6 v x), .int (nI 0), .ref o] 7
    refine V_perm (List.perm_append_comm) ?_
    change V X 1 6 ([(o, .inl (cy 6, aL 1 fl))] ++ u9) [some (.ref f), some (.int x), some (.ref o), none] [.int (qMet 6 v x), .int (nI 0), .ref o] 7
    refine r_i2l (pc' := 8) hX dL_lostGrams_7 rfl rfl ?_
    refine r_last (pc' := 9) hX dL_lostGrams_8 (by rw [hcy]) 0 rfl rfl (fun flq8 hflq8 => ?_)
    change V X 1 6 ([(o, .inl (cy 6, aL 1 flq8))] ++ u9) [some (.ref f), some (.int x), some (.ref o), none] [] 9
    refine r_goto (tgt := 15) hX dL_lostGrams_9 (by decide) ?_
    refine r_iconst (pc' := 16) (v := nI 0) hX dL_lostGrams_15 rfl rfl ?_
    have hq0 : 0 ≤ (qMet 6 v x).toInt := by
      rcases hq with hq | hq
      · exact hq
      · exact absurd (show noA (qMet 6 v x) from by rw [hq]; decide) okq
    exact r_ireturn hX hE dL_lostGrams_16 rfl ⟨_, _, by rw [kd_pos hq0], rfl, fun _ => ⟨hS9, hflq8⟩, fun h9 => absurd hq0 (by omega)⟩ (by omega) (by omega)
  · intro E9 u9 hp9
    obtain ⟨hx9, hE9, hS9⟩ := hp9
    rcases hq with hq | hq
    · exact absurd hq (by omega)
    · have hE8 : E9 = "java/lang/IndexOutOfBoundsException" := by rw [hE9, hq]; rfl
      subst hE8
      refine VX_catch hX hT [] ⟨0, 9, 12, 25⟩ [] rfl (fun z hz => by cases hz) rfl (by decide) (m4 (j := 104) rfl rfl) ⟨n4 (j := 28) rfl rfl, rfl⟩ (fun q9 => ?_)
      refine V_perm (ws2 := [(o, .inl (cy 6, aL 1 fl))] ++ u9) List.perm_append_comm ?_
      refine r_astore_n (L' := [some (.ref f), some (.int x), some (.ref o), some (.ref q9)]) (pc' := 13) hX dL_lostGrams_12 (nlt hnL (by decide)) rfl rfl rfl ?_
      refine r_iconst (pc' := 14) (v := nI 1) hX dL_lostGrams_13 rfl rfl ?_
      exact r_ireturn hX hE dL_lostGrams_14 rfl ⟨_, _, by rw [hq]; rfl, rfl, fun h9 => absurd h9 (by rw [hq]; decide), fun _ => hS9⟩ (by decide) (by decide)

set_option maxRecDepth 20000 in
set_option maxHeartbeats 1000000 in
theorem cW_meanSqueak {l : Launch} {D : va_G} {cy : Nat → ClassId} {sa : Nat → Nat} {f K o : Nat} {fl : Nat → UInt64} {S : AS} {ws : va_W} {v : SV} (hvS : v = S.1) (hS : FS cy f S ws) (hI : AI K S) (hst : l.stackTraces = false) : MGW l yL_meanSqueak cL_meanSqueak 3 (some .int) [(0, 7, 10, 120)] 7 1 6 (D, cy, sa) [.ref f, .ref o] (([(o, .inl (cy 7, aD 1 fl))] ++ ws)) (fun w u => ∃ (fl1 : Nat → UInt64) (ws1 : va_W), w = some (.int (nI (if sumT (fun i => v (13 + i) 2) (v 0 4) = 0 then 1 else 0))) ∧ u = [(o, .inl (cy 7, aD 1 fl1))] ++ ws1 ∧ FS cy f S ws1 ∧ (¬ (sumT (fun i => v (13 + i) 2) (v 0 4) = 0) → fl1 0 = qMean v)) := by
  refine MGW_by (own := RL) (L := [some (.ref f), some (.ref o), none]) (by decide +kernel) rfl rfl (Nat.le_of_ble_eq_true rfl) 1 rfl (fun X hX hE hT hnL hG hcy hl => ?_)
  refine r_aload_n (pc' := 1) hX dL_meanSqueak_0 rfl rfl ?_
  refine r_iconst (pc' := 2) (v := nI 0) hX dL_meanSqueak_1 rfl rfl ?_
  refine r_aload_n (pc' := 3) hX dL_meanSqueak_2 rfl rfl ?_
  refine V_callX (k' := 1) (n' := 6) (pc' := 6) (wr := [(o, .inl (cy 7, aD 1 fl))]) hX (r_runVX (As := []) hX dL_meanSqueak_3 k_L_116 (fun l9 hl9 => by cases hl9; exact cF_meanSqueak hvS hS hI (hst := (by rw [hl]; exact hst)) ) hG (FS_recv hS) rfl rfl (Nat.le_of_ble_eq_true rfl) (by decide) (by decide) (by decide) (by decide)) (List.perm_append_comm) rfl rfl rfl (fun w9 u9 hp9 => ?_) ?_
  · obtain ⟨okq, rfl, hS9⟩ := hp9
    change V X 1 6 (u9 ++ [(o, .inl (cy 7, aD 1 fl))]) [some (.ref f), some (.ref o), none] [.double (qMean v), .int (nI 0), .ref o] 6
    refine V_perm (List.perm_append_comm) ?_
    change V X 1 6 ([(o, .inl (cy 7, aD 1 fl))] ++ u9) [some (.ref f), some (.ref o), none] [.double (qMean v), .int (nI 0), .ref o] 6
    refine r_dast (pc' := 7) hX dL_meanSqueak_6 (by rw [hcy]) 0 rfl rfl (fun flq6 hflq6 => ?_)
    change V X 1 6 ([(o, .inl (cy 7, aD 1 flq6))] ++ u9) [some (.ref f), some (.ref o), none] [] 7
    refine r_goto (tgt := 13) hX dL_meanSqueak_7 (by decide) ?_
    refine r_iconst (pc' := 14) (v := nI 0) hX dL_meanSqueak_13 rfl rfl ?_
    exact r_ireturn hX hE dL_meanSqueak_14 rfl ⟨_, _, by rw [if_neg okq], rfl, hS9, fun _ => hflq6⟩ (by omega) (by omega)
  · intro E9 u9 hp9
    obtain ⟨hE9, hc9, hS9⟩ := hp9
    subst hE9
    refine VX_catch hX hT [] ⟨0, 7, 10, 120⟩ [] rfl (fun z hz => by cases hz) rfl (by decide) (m5 (j := 195) rfl rfl) ⟨n5 (j := 207) rfl rfl, rfl⟩ (fun q9 => ?_)
    refine V_perm (ws2 := [(o, .inl (cy 7, aD 1 fl))] ++ u9) List.perm_append_comm ?_
    refine r_astore_n (L' := [some (.ref f), some (.ref o), some (.ref q9)]) (pc' := 11) hX dL_meanSqueak_10 (nlt hnL (by decide)) rfl rfl rfl ?_
    refine r_iconst (pc' := 12) (v := nI 1) hX dL_meanSqueak_11 rfl rfl ?_
    exact r_ireturn hX hE dL_meanSqueak_12 rfl ⟨_, _, by rw [if_pos hc9], rfl, hS9, fun h9 => absurd hc9 h9⟩ (by decide) (by decide)

set_option maxRecDepth 20000 in
set_option maxHeartbeats 1000000 in
theorem cW_soldShare {l : Launch} {D : va_G} {cy : Nat → ClassId} {sa : Nat → Nat} {f K o : Nat} {fl : Nat → UInt64} {S : AS} {ws : va_W} {v : SV} (hvS : v = S.1) (hS : FS cy f S ws) (hI : AI K S) (hst : l.stackTraces = false) : MGW l yL_soldShare cL_soldShare 3 (some .int) [(0, 8, 11, 120)] 7 1 6 (D, cy, sa) [.ref f, .ref o] (([(o, .inl (cy 7, aD 1 fl))] ++ ws)) (fun w u => ∃ (fl1 : Nat → UInt64) (ws1 : va_W), w = some (.int (nI (if v 0 6 = 0 then 1 else 0))) ∧ u = [(o, .inl (cy 7, aD 1 fl1))] ++ ws1 ∧ FS cy f S ws1 ∧ (¬ (v 0 6 = 0) → fl1 0 = FP.f2d (qShare v))) := by
  have hv6 : v 0 6 < 1000000 := by rw [hvS]; exact hI.1.1.1.2.2.2.2.2.1.2.1
  refine MGW_by (own := RL) (L := [some (.ref f), some (.ref o), none]) (by decide +kernel) rfl rfl (Nat.le_of_ble_eq_true rfl) 1 rfl (fun X hX hE hT hnL hG hcy hl => ?_)
  refine r_aload_n (pc' := 1) hX dL_soldShare_0 rfl rfl ?_
  refine r_iconst (pc' := 2) (v := nI 0) hX dL_soldShare_1 rfl rfl ?_
  refine r_aload_n (pc' := 3) hX dL_soldShare_2 rfl rfl ?_
  refine V_callX (k' := 1) (n' := 6) (pc' := 6) (wr := [(o, .inl (cy 7, aD 1 fl))]) hX (r_runVX (As := []) hX dL_soldShare_3 k_L_122 (fun l9 hl9 => by cases hl9; exact cF_soldShare hvS hS hI (hst := (by rw [hl]; exact hst)) ) hG (FS_recv hS) rfl rfl (Nat.le_of_ble_eq_true rfl) (by decide) (by decide) (by decide) (by decide)) (List.perm_append_comm) rfl rfl rfl (fun w9 u9 hp9 => ?_) ?_
  · obtain ⟨okq, rfl, hS9⟩ := hp9
    change V X 1 6 (u9 ++ [(o, .inl (cy 7, aD 1 fl))]) [some (.ref f), some (.ref o), none] [.float (qShare v), .int (nI 0), .ref o] 6
    refine V_perm (List.perm_append_comm) ?_
    change V X 1 6 ([(o, .inl (cy 7, aD 1 fl))] ++ u9) [some (.ref f), some (.ref o), none] [.float (qShare v), .int (nI 0), .ref o] 6
    refine r_f2d (pc' := 7) hX dL_soldShare_6 (share_num okq hv6) rfl ?_
    refine r_dast (pc' := 8) hX dL_soldShare_7 (by rw [hcy]) 0 rfl rfl (fun flq7 hflq7 => ?_)
    change V X 1 6 ([(o, .inl (cy 7, aD 1 flq7))] ++ u9) [some (.ref f), some (.ref o), none] [] 8
    refine r_goto (tgt := 14) hX dL_soldShare_8 (by decide) ?_
    refine r_iconst (pc' := 15) (v := nI 0) hX dL_soldShare_14 rfl rfl ?_
    exact r_ireturn hX hE dL_soldShare_15 rfl ⟨_, _, by rw [if_neg okq], rfl, hS9, fun _ => hflq7⟩ (by omega) (by omega)
  · intro E9 u9 hp9
    obtain ⟨hE9, hc9, hS9⟩ := hp9
    subst hE9
    refine VX_catch hX hT [] ⟨0, 8, 11, 120⟩ [] rfl (fun z hz => by cases hz) rfl (by decide) (m5 (j := 195) rfl rfl) ⟨n5 (j := 207) rfl rfl, rfl⟩ (fun q9 => ?_)
    refine V_perm (ws2 := [(o, .inl (cy 7, aD 1 fl))] ++ u9) List.perm_append_comm ?_
    refine r_astore_n (L' := [some (.ref f), some (.ref o), some (.ref q9)]) (pc' := 12) hX dL_soldShare_11 (nlt hnL (by decide)) rfl rfl rfl ?_
    refine r_iconst (pc' := 13) (v := nI 1) hX dL_soldShare_12 rfl rfl ?_
    exact r_ireturn hX hE dL_soldShare_13 rfl ⟨_, _, by rw [if_pos hc9], rfl, hS9, fun h9 => absurd hc9 h9⟩ (by decide) (by decide)

set_option maxRecDepth 20000 in
set_option maxHeartbeats 1000000 in
theorem cW_renderBatch {l : Launch} {D : va_G} {cy : Nat → ClassId} {sa : Nat → Nat} {f K o : Nat} {fl : Nat → Int64} {S : AS} {ws : va_W} {v : SV} (hvS : v = S.1) (hS : FS cy f S ws) (hI : AI K S) {x : Int32} (hK : K ≤ 100000) (hst : l.stackTraces = false) (hq : 0 ≤ (qRb v x).toInt ∨ qRb v x = -5) : MGW l yL_renderBatch cL_renderBatch 4 (some .int) [(0, 9, 12, 36)] 9 23 3306 (D, cy, sa) [.ref f, .int x, .ref o] (([(o, .inl (cy 6, aL 1 fl))] ++ ws)) (fun w u => ∃ (fl1 : Nat → Int64) (ws1 : va_W), w = some (.int (nI (kd 0 0 0 0 1 (qRb v x)))) ∧ u = [(o, .inl (cy 6, aL 1 fl1))] ++ ws1 ∧ (0 ≤ (qRb v x).toInt → FS cy f (aRb S x) ws1 ∧ fl1 0 = (qRb v x).toInt64) ∧ ((qRb v x).toInt < 0 → FS cy f (S) ws1)) := by
  refine MGW_by (own := RL) (L := [some (.ref f), some (.int x), some (.ref o), none]) (by decide +kernel) rfl rfl (Nat.le_of_ble_eq_true rfl) 1 rfl (fun X hX hE hT hnL hG hcy hl => ?_)
  refine r_aload_n (pc' := 1) hX dL_renderBatch_0 rfl rfl ?_
  refine r_iconst (pc' := 2) (v := nI 0) hX dL_renderBatch_1 rfl rfl ?_
  refine r_aload_n (pc' := 3) hX dL_renderBatch_2 rfl rfl ?_
  refine r_iload_n (pc' := 4) hX dL_renderBatch_3 rfl rfl ?_
  refine V_callX (k' := 23) (n' := 3306) (pc' := 7) (wr := [(o, .inl (cy 6, aL 1 fl))]) hX (r_runVX (As := [.int x]) hX dL_renderBatch_4 k_L_126 (fun l9 hl9 => by cases hl9; exact cF_renderBatch hvS hS hI (hst := (by rw [hl]; exact hst)) (hK := hK)) hG (FS_recv hS) rfl rfl (Nat.le_of_ble_eq_true rfl) (by decide) (by decide) (by decide) (by decide)) (List.perm_append_comm) rfl rfl rfl (fun w9 u9 hp9 => ?_) ?_
  · obtain ⟨okq, rfl, hS9⟩ := hp9
    change V X 23 3306 (u9 ++ [(o, .inl (cy 6, aL 1 fl))]) [some (.ref f), some (.int x), some (.ref o), none] [.int (qRb v x), .int (nI 0), .ref o] 7
    refine V_perm (List.perm_append_comm) ?_
    change V X 23 3306 ([(o, .inl (cy 6, aL 1 fl))] ++ u9) [some (.ref f), some (.int x), some (.ref o), none] [.int (qRb v x), .int (nI 0), .ref o] 7
    refine r_i2l (pc' := 8) hX dL_renderBatch_7 rfl rfl ?_
    refine r_last (pc' := 9) hX dL_renderBatch_8 (by rw [hcy]) 0 rfl rfl (fun flq8 hflq8 => ?_)
    change V X 23 3306 ([(o, .inl (cy 6, aL 1 flq8))] ++ u9) [some (.ref f), some (.int x), some (.ref o), none] [] 9
    refine r_goto (tgt := 15) hX dL_renderBatch_9 (by decide) ?_
    refine r_iconst (pc' := 16) (v := nI 0) hX dL_renderBatch_15 rfl rfl ?_
    have hq0 : 0 ≤ (qRb v x).toInt := by
      rcases hq with hq | hq
      · exact hq
      · exact absurd (show noA (qRb v x) from by rw [hq]; decide) okq
    exact r_ireturn hX hE dL_renderBatch_16 rfl ⟨_, _, by rw [kd_pos hq0], rfl, fun _ => ⟨hS9, hflq8⟩, fun h9 => absurd hq0 (by omega)⟩ (by omega) (by omega)
  · intro E9 u9 hp9
    obtain ⟨hx9, hE9, hS9⟩ := hp9
    rcases hq with hq | hq
    · exact absurd hq (by omega)
    · have hE8 : E9 = "java/util/NoSuchElementException" := by rw [hE9, hq]; rfl
      subst hE8
      refine VX_catch hX hT [] ⟨0, 9, 12, 36⟩ [] rfl (fun z hz => by cases hz) rfl (by decide) (m4 (j := 152) rfl rfl) ⟨n4 (j := 76) rfl rfl, rfl⟩ (fun q9 => ?_)
      refine V_perm (ws2 := [(o, .inl (cy 6, aL 1 fl))] ++ u9) List.perm_append_comm ?_
      refine r_astore_n (L' := [some (.ref f), some (.int x), some (.ref o), some (.ref q9)]) (pc' := 13) hX dL_renderBatch_12 (nlt hnL (by decide)) rfl rfl rfl ?_
      refine r_iconst (pc' := 14) (v := nI 1) hX dL_renderBatch_13 rfl rfl ?_
      exact r_ireturn hX hE dL_renderBatch_14 rfl ⟨_, _, by rw [hq]; rfl, rfl, fun h9 => absurd h9 (by rw [hq]; decide), fun _ => hS9⟩ (by decide) (by decide)

set_option maxRecDepth 20000 in
set_option maxHeartbeats 1000000 in
theorem cW_outputAt {l : Launch} {D : va_G} {cy : Nat → ClassId} {sa : Nat → Nat} {f K o : Nat} {fl : Nat → Int64} {S : AS} {ws : va_W} {v : SV} (hvS : v = S.1) (hS : FS cy f S ws) (hI : AI K S) {x : Int32} (hst : l.stackTraces = false) (hq : 0 ≤ (qOut S x).toInt ∨ qOut S x = -1) : MGW l yL_outputAt cL_outputAt 4 (some .int) [(0, 9, 12, 25)] 7 1 6 (D, cy, sa) [.ref f, .int x, .ref o] (([(o, .inl (cy 6, aL 1 fl))] ++ ws)) (fun w u => ∃ (fl1 : Nat → Int64) (ws1 : va_W), w = some (.int (nI (kd 1 0 0 0 0 (qOut S x)))) ∧ u = [(o, .inl (cy 6, aL 1 fl1))] ++ ws1 ∧ (0 ≤ (qOut S x).toInt → FS cy f (S) ws1 ∧ fl1 0 = (qOut S x).toInt64) ∧ ((qOut S x).toInt < 0 → FS cy f (S) ws1)) := by
  refine MGW_by (own := RL) (L := [some (.ref f), some (.int x), some (.ref o), none]) (by decide +kernel) rfl rfl (Nat.le_of_ble_eq_true rfl) 1 rfl (fun X hX hE hT hnL hG hcy hl => ?_)
  refine r_aload_n (pc' := 1) hX dL_outputAt_0 rfl rfl ?_
  refine r_iconst (pc' := 2) (v := nI 0) hX dL_outputAt_1 rfl rfl ?_
  refine r_aload_n (pc' := 3) hX dL_outputAt_2 rfl rfl ?_
  refine r_iload_n (pc' := 4) hX dL_outputAt_3 rfl rfl ?_
  refine V_callX (k' := 1) (n' := 6) (pc' := 7) (wr := [(o, .inl (cy 6, aL 1 fl))]) hX (r_runVX (As := [.int x]) hX dL_outputAt_4 k_L_129 (fun l9 hl9 => by cases hl9; exact cF_outputAt hvS hS hI (hst := (by rw [hl]; exact hst)) ) hG (FS_recv hS) rfl rfl (Nat.le_of_ble_eq_true rfl) (by decide) (by decide) (by decide) (by decide)) (List.perm_append_comm) rfl rfl rfl (fun w9 u9 hp9 => ?_) ?_
  · obtain ⟨okq, rfl, hS9⟩ := hp9
    change V X 1 6 (u9 ++ [(o, .inl (cy 6, aL 1 fl))]) [some (.ref f), some (.int x), some (.ref o), none] [.int (qOut S x), .int (nI 0), .ref o] 7
    refine V_perm (List.perm_append_comm) ?_
    change V X 1 6 ([(o, .inl (cy 6, aL 1 fl))] ++ u9) [some (.ref f), some (.int x), some (.ref o), none] [.int (qOut S x), .int (nI 0), .ref o] 7
    refine r_i2l (pc' := 8) hX dL_outputAt_7 rfl rfl ?_
    refine r_last (pc' := 9) hX dL_outputAt_8 (by rw [hcy]) 0 rfl rfl (fun flq8 hflq8 => ?_)
    change V X 1 6 ([(o, .inl (cy 6, aL 1 flq8))] ++ u9) [some (.ref f), some (.int x), some (.ref o), none] [] 9
    refine r_goto (tgt := 15) hX dL_outputAt_9 (by decide) ?_
    refine r_iconst (pc' := 16) (v := nI 0) hX dL_outputAt_15 rfl rfl ?_
    have hq0 : 0 ≤ (qOut S x).toInt := by
      rcases hq with hq | hq
      · exact hq
      · exact absurd (show noA (qOut S x) from by rw [hq]; decide) okq
    exact r_ireturn hX hE dL_outputAt_16 rfl ⟨_, _, by rw [kd_pos hq0], rfl, fun _ => ⟨hS9, hflq8⟩, fun h9 => absurd hq0 (by omega)⟩ (by omega) (by omega)
  · intro E9 u9 hp9
    obtain ⟨hx9, hE9, hS9⟩ := hp9
    rcases hq with hq | hq
    · exact absurd hq (by omega)
    · have hE8 : E9 = "java/lang/IndexOutOfBoundsException" := by rw [hE9, hq]; rfl
      subst hE8
      refine VX_catch hX hT [] ⟨0, 9, 12, 25⟩ [] rfl (fun z hz => by cases hz) rfl (by decide) (m4 (j := 104) rfl rfl) ⟨n4 (j := 28) rfl rfl, rfl⟩ (fun q9 => ?_)
      refine V_perm (ws2 := [(o, .inl (cy 6, aL 1 fl))] ++ u9) List.perm_append_comm ?_
      refine r_astore_n (L' := [some (.ref f), some (.int x), some (.ref o), some (.ref q9)]) (pc' := 13) hX dL_outputAt_12 (nlt hnL (by decide)) rfl rfl rfl ?_
      refine r_iconst (pc' := 14) (v := nI 1) hX dL_outputAt_13 rfl rfl ?_
      exact r_ireturn hX hE dL_outputAt_14 rfl ⟨_, _, by rw [hq]; rfl, rfl, fun h9 => absurd h9 (by rw [hq]; decide), fun _ => hS9⟩ (by decide) (by decide)

set_option maxRecDepth 20000 in
set_option maxHeartbeats 1000000 in
theorem cW_type {l : Launch} {D : va_G} {cy : Nat → ClassId} {sa : Nat → Nat} {f K o : Nat} {fl : Nat → Int64} {S : AS} {ws : va_W} {v : SV} (hvS : v = S.1) (hS : FS cy f S ws) (hI : AI K S) {ch : Nat} (hch : ch < 65536) (hst : l.stackTraces = false) (hq : 0 ≤ (qType S ch).toInt ∨ qType S ch = -2 ∨ qType S ch = -3) : MGW l yL_type cL_type 4 (some .int) [(0, 9, 12, 13), (0, 9, 15, 15)] 8 1 150 (D, cy, sa) [.ref f, .int (nI ch), .ref o] (([(o, .inl (cy 6, aL 1 fl))] ++ ws)) (fun w u => ∃ (fl1 : Nat → Int64) (ws1 : va_W), w = some (.int (nI (kd 0 1 2 0 0 (qType S ch)))) ∧ u = [(o, .inl (cy 6, aL 1 fl1))] ++ ws1 ∧ (0 ≤ (qType S ch).toInt → FS cy f (aType S ch) ws1 ∧ fl1 0 = (qType S ch).toInt64) ∧ ((qType S ch).toInt < 0 → FS cy f (S) ws1)) := by
  refine MGW_by (own := RL) (L := [some (.ref f), some (.int (nI ch)), some (.ref o), none]) (by decide +kernel) rfl rfl (Nat.le_of_ble_eq_true rfl) 1 rfl (fun X hX hE hT hnL hG hcy hl => ?_)
  refine r_aload_n (pc' := 1) hX dL_type_0 rfl rfl ?_
  refine r_iconst (pc' := 2) (v := nI 0) hX dL_type_1 rfl rfl ?_
  refine r_aload_n (pc' := 3) hX dL_type_2 rfl rfl ?_
  refine r_iload_n (pc' := 4) hX dL_type_3 rfl rfl ?_
  refine V_callX (k' := 1) (n' := 150) (pc' := 7) (wr := [(o, .inl (cy 6, aL 1 fl))]) hX (r_runVX (As := [.int (nI ch)]) hX dL_type_4 k_L_133 (fun l9 hl9 => by cases hl9; exact cF_type hvS hS hI (hst := (by rw [hl]; exact hst)) (hch := hch)) hG (FS_recv hS) rfl rfl (Nat.le_of_ble_eq_true rfl) (by decide) (by decide) (by decide) (by decide)) (List.perm_append_comm) rfl rfl rfl (fun w9 u9 hp9 => ?_) ?_
  · obtain ⟨okq, rfl, hS9⟩ := hp9
    change V X 1 150 (u9 ++ [(o, .inl (cy 6, aL 1 fl))]) [some (.ref f), some (.int (nI ch)), some (.ref o), none] [.int (qType S ch), .int (nI 0), .ref o] 7
    refine V_perm (List.perm_append_comm) ?_
    change V X 1 150 ([(o, .inl (cy 6, aL 1 fl))] ++ u9) [some (.ref f), some (.int (nI ch)), some (.ref o), none] [.int (qType S ch), .int (nI 0), .ref o] 7
    refine r_i2l (pc' := 8) hX dL_type_7 rfl rfl ?_
    refine r_last (pc' := 9) hX dL_type_8 (by rw [hcy]) 0 rfl rfl (fun flq8 hflq8 => ?_)
    change V X 1 150 ([(o, .inl (cy 6, aL 1 flq8))] ++ u9) [some (.ref f), some (.int (nI ch)), some (.ref o), none] [] 9
    refine r_goto (tgt := 18) hX dL_type_9 (by decide) ?_
    refine r_iconst (pc' := 19) (v := nI 0) hX dL_type_18 rfl rfl ?_
    have hq0 : 0 ≤ (qType S ch).toInt := by
      rcases hq with hq | hq | hq
      · exact hq
      · exact absurd (show noA (qType S ch) from by rw [hq]; decide) okq
      · exact absurd (show noA (qType S ch) from by rw [hq]; decide) okq
    exact r_ireturn hX hE dL_type_19 rfl ⟨_, _, by rw [kd_pos hq0], rfl, fun _ => ⟨hS9, hflq8⟩, fun h9 => absurd hq0 (by omega)⟩ (by omega) (by omega)
  · intro E9 u9 hp9
    obtain ⟨hx9, hE9, hS9⟩ := hp9
    rcases hq with hq | hq | hq
    · exact absurd hq (by omega)
    · have hE8 : E9 = "java/lang/IllegalArgumentException" := by rw [hE9, hq]; rfl
      subst hE8
      refine VX_catch hX hT [] ⟨0, 9, 12, 13⟩ [⟨0, 9, 15, 15⟩] rfl (fun z hz => by cases hz) rfl (by decide) (m3 (j := 238) rfl rfl) ⟨n3 (j := 40) rfl rfl, rfl⟩ (fun q9 => ?_)
      refine V_perm (ws2 := [(o, .inl (cy 6, aL 1 fl))] ++ u9) List.perm_append_comm ?_
      refine r_astore_n (L' := [some (.ref f), some (.int (nI ch)), some (.ref o), some (.ref q9)]) (pc' := 13) hX dL_type_12 (nlt hnL (by decide)) rfl rfl rfl ?_
      refine r_iconst (pc' := 14) (v := nI 1) hX dL_type_13 rfl rfl ?_
      exact r_ireturn hX hE dL_type_14 rfl ⟨_, _, by rw [hq]; rfl, rfl, fun h9 => absurd h9 (by rw [hq]; decide), fun _ => hS9⟩ (by decide) (by decide)
    · have hE8 : E9 = "java/lang/IllegalStateException" := by rw [hE9, hq]; rfl
      subst hE8
      refine VX_catch hX hT [⟨0, 9, 12, 13⟩] ⟨0, 9, 15, 15⟩ [] rfl (fun z hz => by
        simp only [List.mem_cons, List.not_mem_nil, or_false] at hz
        rcases hz with rfl
        · exact ⟨by decide, _, m3 (j := 238) rfl rfl, 1, 0, by decide, by decide, by decide, rfl, rfl⟩) rfl (by decide) (m3 (j := 239) rfl rfl) ⟨n4 (j := 44) rfl rfl, rfl⟩ (fun q9 => ?_)
      refine V_perm (ws2 := [(o, .inl (cy 6, aL 1 fl))] ++ u9) List.perm_append_comm ?_
      refine r_astore_n (L' := [some (.ref f), some (.int (nI ch)), some (.ref o), some (.ref q9)]) (pc' := 16) hX dL_type_15 (nlt hnL (by decide)) rfl rfl rfl ?_
      refine r_iconst (pc' := 17) (v := nI 2) hX dL_type_16 rfl rfl ?_
      exact r_ireturn hX hE dL_type_17 rfl ⟨_, _, by rw [hq]; rfl, rfl, fun h9 => absurd h9 (by rw [hq]; decide), fun _ => hS9⟩ (by decide) (by decide)

set_option maxRecDepth 20000 in
set_option maxHeartbeats 1000000 in
theorem cW_runScript {l : Launch} {D : va_G} {cy : Nat → ClassId} {sa : Nat → Nat} {f K o : Nat} {fl : Nat → Int64} {S : AS} {ws : va_W} {v : SV} (hvS : v = S.1) (hS : FS cy f S ws) (hI : AI K S) (hK : K + 61 ≤ 100000) (hst : l.stackTraces = false) (hq : 0 ≤ (qRun S).toInt ∨ qRun S = -2 ∨ qRun S = -3) : MGW l yL_runScript cL_runScript 3 (some .int) [(0, 8, 11, 13), (0, 8, 14, 15)] 10 2 156 (D, cy, sa) [.ref f, .ref o] (([(o, .inl (cy 6, aL 1 fl))] ++ ws)) (fun w u => ∃ (fl1 : Nat → Int64) (ws1 : va_W), w = some (.int (nI (kd 0 1 2 0 0 (qRun S)))) ∧ u = [(o, .inl (cy 6, aL 1 fl1))] ++ ws1 ∧ (0 ≤ (qRun S).toInt → FS cy f (aRun S) ws1 ∧ fl1 0 = (qRun S).toInt64) ∧ ((qRun S).toInt < 0 → FS cy f (aRun S) ws1)) := by
  refine MGW_by (own := RL) (L := [some (.ref f), some (.ref o), none]) (by decide +kernel) rfl rfl (Nat.le_of_ble_eq_true rfl) 1 rfl (fun X hX hE hT hnL hG hcy hl => ?_)
  refine r_aload_n (pc' := 1) hX dL_runScript_0 rfl rfl ?_
  refine r_iconst (pc' := 2) (v := nI 0) hX dL_runScript_1 rfl rfl ?_
  refine r_aload_n (pc' := 3) hX dL_runScript_2 rfl rfl ?_
  refine V_callX (k' := 2) (n' := 156) (pc' := 6) (wr := [(o, .inl (cy 6, aL 1 fl))]) hX (r_runVX (As := []) hX dL_runScript_3 k_L_137 (fun l9 hl9 => by cases hl9; exact cF_runScript hvS hS hI (hst := (by rw [hl]; exact hst)) (hK := hK)) hG (FS_recv hS) rfl rfl (Nat.le_of_ble_eq_true rfl) (by decide) (by decide) (by decide) (by decide)) (List.perm_append_comm) rfl rfl rfl (fun w9 u9 hp9 => ?_) ?_
  · obtain ⟨okq, rfl, hS9⟩ := hp9
    change V X 2 156 (u9 ++ [(o, .inl (cy 6, aL 1 fl))]) [some (.ref f), some (.ref o), none] [.int (qRun S), .int (nI 0), .ref o] 6
    refine V_perm (List.perm_append_comm) ?_
    change V X 2 156 ([(o, .inl (cy 6, aL 1 fl))] ++ u9) [some (.ref f), some (.ref o), none] [.int (qRun S), .int (nI 0), .ref o] 6
    refine r_i2l (pc' := 7) hX dL_runScript_6 rfl rfl ?_
    refine r_last (pc' := 8) hX dL_runScript_7 (by rw [hcy]) 0 rfl rfl (fun flq7 hflq7 => ?_)
    change V X 2 156 ([(o, .inl (cy 6, aL 1 flq7))] ++ u9) [some (.ref f), some (.ref o), none] [] 8
    refine r_goto (tgt := 17) hX dL_runScript_8 (by decide) ?_
    refine r_iconst (pc' := 18) (v := nI 0) hX dL_runScript_17 rfl rfl ?_
    have hq0 : 0 ≤ (qRun S).toInt := by
      rcases hq with hq | hq | hq
      · exact hq
      · exact absurd (show noA (qRun S) from by rw [hq]; decide) okq
      · exact absurd (show noA (qRun S) from by rw [hq]; decide) okq
    exact r_ireturn hX hE dL_runScript_18 rfl ⟨_, _, by rw [kd_pos hq0], rfl, fun _ => ⟨hS9, hflq7⟩, fun h9 => absurd hq0 (by omega)⟩ (by omega) (by omega)
  · intro E9 u9 hp9
    obtain ⟨hx9, hE9, hS9⟩ := hp9
    rcases hq with hq | hq | hq
    · exact absurd hq (by omega)
    · have hE8 : E9 = "java/lang/IllegalArgumentException" := by rw [hE9, hq]; rfl
      subst hE8
      refine VX_catch hX hT [] ⟨0, 8, 11, 13⟩ [⟨0, 8, 14, 15⟩] rfl (fun z hz => by cases hz) rfl (by decide) (m3 (j := 238) rfl rfl) ⟨n3 (j := 40) rfl rfl, rfl⟩ (fun q9 => ?_)
      refine V_perm (ws2 := [(o, .inl (cy 6, aL 1 fl))] ++ u9) List.perm_append_comm ?_
      refine r_astore_n (L' := [some (.ref f), some (.ref o), some (.ref q9)]) (pc' := 12) hX dL_runScript_11 (nlt hnL (by decide)) rfl rfl rfl ?_
      refine r_iconst (pc' := 13) (v := nI 1) hX dL_runScript_12 rfl rfl ?_
      exact r_ireturn hX hE dL_runScript_13 rfl ⟨_, _, by rw [hq]; rfl, rfl, fun h9 => absurd h9 (by rw [hq]; decide), fun _ => hS9⟩ (by decide) (by decide)
    · have hE8 : E9 = "java/lang/IllegalStateException" := by rw [hE9, hq]; rfl
      subst hE8
      refine VX_catch hX hT [⟨0, 8, 11, 13⟩] ⟨0, 8, 14, 15⟩ [] rfl (fun z hz => by
        simp only [List.mem_cons, List.not_mem_nil, or_false] at hz
        rcases hz with rfl
        · exact ⟨by decide, _, m3 (j := 238) rfl rfl, 1, 0, by decide, by decide, by decide, rfl, rfl⟩) rfl (by decide) (m3 (j := 239) rfl rfl) ⟨n4 (j := 44) rfl rfl, rfl⟩ (fun q9 => ?_)
      refine V_perm (ws2 := [(o, .inl (cy 6, aL 1 fl))] ++ u9) List.perm_append_comm ?_
      refine r_astore_n (L' := [some (.ref f), some (.ref o), some (.ref q9)]) (pc' := 15) hX dL_runScript_14 (nlt hnL (by decide)) rfl rfl rfl ?_
      refine r_iconst (pc' := 16) (v := nI 2) hX dL_runScript_15 rfl rfl ?_
      exact r_ireturn hX hE dL_runScript_16 rfl ⟨_, _, by rw [hq]; rfl, rfl, fun h9 => absurd h9 (by rw [hq]; decide), fun _ => hS9⟩ (by decide) (by decide)

set_option maxRecDepth 20000 in
set_option maxHeartbeats 1000000 in
theorem cW_errorPosition {l : Launch} {D : va_G} {cy : Nat → ClassId} {sa : Nat → Nat} {f K o : Nat} {fl : Nat → Int64} {S : AS} {ws : va_W} {v : SV} (hvS : v = S.1) (hS : FS cy f S ws) (hI : AI K S) (hlo : S.2.2.2.2.2.1 = -1 ∨ 0 ≤ (S.2.2.2.2.2.1).toInt) (hst : l.stackTraces = false) (hq : 0 ≤ (qErr (S.2.2.2.2.2.1)).toInt ∨ qErr (S.2.2.2.2.2.1) = -5) : MGW l yL_errorPosition cL_errorPosition 3 (some .int) [(0, 8, 11, 36)] 7 1 6 (D, cy, sa) [.ref f, .ref o] (([(o, .inl (cy 6, aL 1 fl))] ++ ws)) (fun w u => ∃ (fl1 : Nat → Int64) (ws1 : va_W), w = some (.int (nI (kd 0 0 0 0 1 (qErr (S.2.2.2.2.2.1))))) ∧ u = [(o, .inl (cy 6, aL 1 fl1))] ++ ws1 ∧ (0 ≤ (qErr (S.2.2.2.2.2.1)).toInt → FS cy f (S) ws1 ∧ fl1 0 = (qErr (S.2.2.2.2.2.1)).toInt64) ∧ ((qErr (S.2.2.2.2.2.1)).toInt < 0 → FS cy f (S) ws1)) := by
  refine MGW_by (own := RL) (L := [some (.ref f), some (.ref o), none]) (by decide +kernel) rfl rfl (Nat.le_of_ble_eq_true rfl) 1 rfl (fun X hX hE hT hnL hG hcy hl => ?_)
  refine r_aload_n (pc' := 1) hX dL_errorPosition_0 rfl rfl ?_
  refine r_iconst (pc' := 2) (v := nI 0) hX dL_errorPosition_1 rfl rfl ?_
  refine r_aload_n (pc' := 3) hX dL_errorPosition_2 rfl rfl ?_
  refine V_callX (k' := 1) (n' := 6) (pc' := 6) (wr := [(o, .inl (cy 6, aL 1 fl))]) hX (r_runVX (As := []) hX dL_errorPosition_3 k_L_141 (fun l9 hl9 => by cases hl9; exact cF_errorPosition hvS hS hI (hst := (by rw [hl]; exact hst)) (hlo := hlo)) hG (FS_recv hS) rfl rfl (Nat.le_of_ble_eq_true rfl) (by decide) (by decide) (by decide) (by decide)) (List.perm_append_comm) rfl rfl rfl (fun w9 u9 hp9 => ?_) ?_
  · obtain ⟨okq, rfl, hS9⟩ := hp9
    change V X 1 6 (u9 ++ [(o, .inl (cy 6, aL 1 fl))]) [some (.ref f), some (.ref o), none] [.int (qErr (S.2.2.2.2.2.1)), .int (nI 0), .ref o] 6
    refine V_perm (List.perm_append_comm) ?_
    change V X 1 6 ([(o, .inl (cy 6, aL 1 fl))] ++ u9) [some (.ref f), some (.ref o), none] [.int (qErr (S.2.2.2.2.2.1)), .int (nI 0), .ref o] 6
    refine r_i2l (pc' := 7) hX dL_errorPosition_6 rfl rfl ?_
    refine r_last (pc' := 8) hX dL_errorPosition_7 (by rw [hcy]) 0 rfl rfl (fun flq7 hflq7 => ?_)
    change V X 1 6 ([(o, .inl (cy 6, aL 1 flq7))] ++ u9) [some (.ref f), some (.ref o), none] [] 8
    refine r_goto (tgt := 14) hX dL_errorPosition_8 (by decide) ?_
    refine r_iconst (pc' := 15) (v := nI 0) hX dL_errorPosition_14 rfl rfl ?_
    have hq0 : 0 ≤ (qErr (S.2.2.2.2.2.1)).toInt := by
      rcases hq with hq | hq
      · exact hq
      · exact absurd (show noA (qErr (S.2.2.2.2.2.1)) from by rw [hq]; decide) okq
    exact r_ireturn hX hE dL_errorPosition_15 rfl ⟨_, _, by rw [kd_pos hq0], rfl, fun _ => ⟨hS9, hflq7⟩, fun h9 => absurd hq0 (by omega)⟩ (by omega) (by omega)
  · intro E9 u9 hp9
    obtain ⟨hx9, hE9, hS9⟩ := hp9
    rcases hq with hq | hq
    · exact absurd hq (by omega)
    · have hE8 : E9 = "java/util/NoSuchElementException" := by rw [hE9, hq]; rfl
      subst hE8
      refine VX_catch hX hT [] ⟨0, 8, 11, 36⟩ [] rfl (fun z hz => by cases hz) rfl (by decide) (m4 (j := 152) rfl rfl) ⟨n4 (j := 76) rfl rfl, rfl⟩ (fun q9 => ?_)
      refine V_perm (ws2 := [(o, .inl (cy 6, aL 1 fl))] ++ u9) List.perm_append_comm ?_
      refine r_astore_n (L' := [some (.ref f), some (.ref o), some (.ref q9)]) (pc' := 12) hX dL_errorPosition_11 (nlt hnL (by decide)) rfl rfl rfl ?_
      refine r_iconst (pc' := 13) (v := nI 1) hX dL_errorPosition_12 rfl rfl ?_
      exact r_ireturn hX hE dL_errorPosition_13 rfl ⟨_, _, by rw [hq]; rfl, rfl, fun h9 => absurd h9 (by rw [hq]; decide), fun _ => hS9⟩ (by decide) (by decide)

set_option maxRecDepth 20000 in
set_option maxHeartbeats 1000000 in
theorem cW_failedCommand {l : Launch} {D : va_G} {cy : Nat → ClassId} {sa : Nat → Nat} {f K o : Nat} {fl : Nat → Int64} {S : AS} {ws : va_W} {v : SV} (hvS : v = S.1) (hS : FS cy f S ws) (hI : AI K S) (hlo : S.2.2.2.2.2.2 = -1 ∨ 0 ≤ (S.2.2.2.2.2.2).toInt) (hst : l.stackTraces = false) (hq : 0 ≤ (qErr (S.2.2.2.2.2.2)).toInt ∨ qErr (S.2.2.2.2.2.2) = -5) : MGW l yL_failedCommand cL_failedCommand 3 (some .int) [(0, 8, 11, 36)] 7 1 6 (D, cy, sa) [.ref f, .ref o] (([(o, .inl (cy 6, aL 1 fl))] ++ ws)) (fun w u => ∃ (fl1 : Nat → Int64) (ws1 : va_W), w = some (.int (nI (kd 0 0 0 0 1 (qErr (S.2.2.2.2.2.2))))) ∧ u = [(o, .inl (cy 6, aL 1 fl1))] ++ ws1 ∧ (0 ≤ (qErr (S.2.2.2.2.2.2)).toInt → FS cy f (S) ws1 ∧ fl1 0 = (qErr (S.2.2.2.2.2.2)).toInt64) ∧ ((qErr (S.2.2.2.2.2.2)).toInt < 0 → FS cy f (S) ws1)) := by
  refine MGW_by (own := RL) (L := [some (.ref f), some (.ref o), none]) (by decide +kernel) rfl rfl (Nat.le_of_ble_eq_true rfl) 1 rfl (fun X hX hE hT hnL hG hcy hl => ?_)
  refine r_aload_n (pc' := 1) hX dL_failedCommand_0 rfl rfl ?_
  refine r_iconst (pc' := 2) (v := nI 0) hX dL_failedCommand_1 rfl rfl ?_
  refine r_aload_n (pc' := 3) hX dL_failedCommand_2 rfl rfl ?_
  refine V_callX (k' := 1) (n' := 6) (pc' := 6) (wr := [(o, .inl (cy 6, aL 1 fl))]) hX (r_runVX (As := []) hX dL_failedCommand_3 k_L_144 (fun l9 hl9 => by cases hl9; exact cF_failedCommand hvS hS hI (hst := (by rw [hl]; exact hst)) (hlo := hlo)) hG (FS_recv hS) rfl rfl (Nat.le_of_ble_eq_true rfl) (by decide) (by decide) (by decide) (by decide)) (List.perm_append_comm) rfl rfl rfl (fun w9 u9 hp9 => ?_) ?_
  · obtain ⟨okq, rfl, hS9⟩ := hp9
    change V X 1 6 (u9 ++ [(o, .inl (cy 6, aL 1 fl))]) [some (.ref f), some (.ref o), none] [.int (qErr (S.2.2.2.2.2.2)), .int (nI 0), .ref o] 6
    refine V_perm (List.perm_append_comm) ?_
    change V X 1 6 ([(o, .inl (cy 6, aL 1 fl))] ++ u9) [some (.ref f), some (.ref o), none] [.int (qErr (S.2.2.2.2.2.2)), .int (nI 0), .ref o] 6
    refine r_i2l (pc' := 7) hX dL_failedCommand_6 rfl rfl ?_
    refine r_last (pc' := 8) hX dL_failedCommand_7 (by rw [hcy]) 0 rfl rfl (fun flq7 hflq7 => ?_)
    change V X 1 6 ([(o, .inl (cy 6, aL 1 flq7))] ++ u9) [some (.ref f), some (.ref o), none] [] 8
    refine r_goto (tgt := 14) hX dL_failedCommand_8 (by decide) ?_
    refine r_iconst (pc' := 15) (v := nI 0) hX dL_failedCommand_14 rfl rfl ?_
    have hq0 : 0 ≤ (qErr (S.2.2.2.2.2.2)).toInt := by
      rcases hq with hq | hq
      · exact hq
      · exact absurd (show noA (qErr (S.2.2.2.2.2.2)) from by rw [hq]; decide) okq
    exact r_ireturn hX hE dL_failedCommand_15 rfl ⟨_, _, by rw [kd_pos hq0], rfl, fun _ => ⟨hS9, hflq7⟩, fun h9 => absurd hq0 (by omega)⟩ (by omega) (by omega)
  · intro E9 u9 hp9
    obtain ⟨hx9, hE9, hS9⟩ := hp9
    rcases hq with hq | hq
    · exact absurd hq (by omega)
    · have hE8 : E9 = "java/util/NoSuchElementException" := by rw [hE9, hq]; rfl
      subst hE8
      refine VX_catch hX hT [] ⟨0, 8, 11, 36⟩ [] rfl (fun z hz => by cases hz) rfl (by decide) (m4 (j := 152) rfl rfl) ⟨n4 (j := 76) rfl rfl, rfl⟩ (fun q9 => ?_)
      refine V_perm (ws2 := [(o, .inl (cy 6, aL 1 fl))] ++ u9) List.perm_append_comm ?_
      refine r_astore_n (L' := [some (.ref f), some (.ref o), some (.ref q9)]) (pc' := 12) hX dL_failedCommand_11 (nlt hnL (by decide)) rfl rfl rfl ?_
      refine r_iconst (pc' := 13) (v := nI 1) hX dL_failedCommand_12 rfl rfl ?_
      exact r_ireturn hX hE dL_failedCommand_13 rfl ⟨_, _, by rw [hq]; rfl, rfl, fun h9 => absurd h9 (by rw [hq]; decide), fun _ => hS9⟩ (by decide) (by decide)

set_option maxRecDepth 20000 in
set_option maxHeartbeats 1000000 in
theorem cW_undo {l : Launch} {D : va_G} {cy : Nat → ClassId} {sa : Nat → Nat} {f K o : Nat} {fl : Nat → Int64} {S : AS} {ws : va_W} {v : SV} (hvS : v = S.1) (hS : FS cy f S ws) (hI : AI K S) (hst : l.stackTraces = false) (hq : 0 ≤ (qUndo S).toInt ∨ qUndo S = -3) : MGW l yL_undo cL_undo 3 (some .int) [(0, 8, 11, 15)] 7 1 6 (D, cy, sa) [.ref f, .ref o] (([(o, .inl (cy 6, aL 1 fl))] ++ ws)) (fun w u => ∃ (fl1 : Nat → Int64) (ws1 : va_W), w = some (.int (nI (kd 0 0 1 0 0 (qUndo S)))) ∧ u = [(o, .inl (cy 6, aL 1 fl1))] ++ ws1 ∧ (0 ≤ (qUndo S).toInt → FS cy f (aUndo S) ws1 ∧ fl1 0 = (qUndo S).toInt64) ∧ ((qUndo S).toInt < 0 → FS cy f (S) ws1)) := by
  refine MGW_by (own := RL) (L := [some (.ref f), some (.ref o), none]) (by decide +kernel) rfl rfl (Nat.le_of_ble_eq_true rfl) 1 rfl (fun X hX hE hT hnL hG hcy hl => ?_)
  refine r_aload_n (pc' := 1) hX dL_undo_0 rfl rfl ?_
  refine r_iconst (pc' := 2) (v := nI 0) hX dL_undo_1 rfl rfl ?_
  refine r_aload_n (pc' := 3) hX dL_undo_2 rfl rfl ?_
  refine V_callX (k' := 1) (n' := 6) (pc' := 6) (wr := [(o, .inl (cy 6, aL 1 fl))]) hX (r_runVX (As := []) hX dL_undo_3 k_L_147 (fun l9 hl9 => by cases hl9; exact cF_undo hvS hS hI (hst := (by rw [hl]; exact hst)) ) hG (FS_recv hS) rfl rfl (Nat.le_of_ble_eq_true rfl) (by decide) (by decide) (by decide) (by decide)) (List.perm_append_comm) rfl rfl rfl (fun w9 u9 hp9 => ?_) ?_
  · obtain ⟨okq, rfl, hS9⟩ := hp9
    change V X 1 6 (u9 ++ [(o, .inl (cy 6, aL 1 fl))]) [some (.ref f), some (.ref o), none] [.int (qUndo S), .int (nI 0), .ref o] 6
    refine V_perm (List.perm_append_comm) ?_
    change V X 1 6 ([(o, .inl (cy 6, aL 1 fl))] ++ u9) [some (.ref f), some (.ref o), none] [.int (qUndo S), .int (nI 0), .ref o] 6
    refine r_i2l (pc' := 7) hX dL_undo_6 rfl rfl ?_
    refine r_last (pc' := 8) hX dL_undo_7 (by rw [hcy]) 0 rfl rfl (fun flq7 hflq7 => ?_)
    change V X 1 6 ([(o, .inl (cy 6, aL 1 flq7))] ++ u9) [some (.ref f), some (.ref o), none] [] 8
    refine r_goto (tgt := 14) hX dL_undo_8 (by decide) ?_
    refine r_iconst (pc' := 15) (v := nI 0) hX dL_undo_14 rfl rfl ?_
    have hq0 : 0 ≤ (qUndo S).toInt := by
      rcases hq with hq | hq
      · exact hq
      · exact absurd (show noA (qUndo S) from by rw [hq]; decide) okq
    exact r_ireturn hX hE dL_undo_15 rfl ⟨_, _, by rw [kd_pos hq0], rfl, fun _ => ⟨hS9, hflq7⟩, fun h9 => absurd hq0 (by omega)⟩ (by omega) (by omega)
  · intro E9 u9 hp9
    obtain ⟨hx9, hE9, hS9⟩ := hp9
    rcases hq with hq | hq
    · exact absurd hq (by omega)
    · have hE8 : E9 = "java/lang/IllegalStateException" := by rw [hE9, hq]; rfl
      subst hE8
      refine VX_catch hX hT [] ⟨0, 8, 11, 15⟩ [] rfl (fun z hz => by cases hz) rfl (by decide) (m3 (j := 239) rfl rfl) ⟨n4 (j := 44) rfl rfl, rfl⟩ (fun q9 => ?_)
      refine V_perm (ws2 := [(o, .inl (cy 6, aL 1 fl))] ++ u9) List.perm_append_comm ?_
      refine r_astore_n (L' := [some (.ref f), some (.ref o), some (.ref q9)]) (pc' := 12) hX dL_undo_11 (nlt hnL (by decide)) rfl rfl rfl ?_
      refine r_iconst (pc' := 13) (v := nI 1) hX dL_undo_12 rfl rfl ?_
      exact r_ireturn hX hE dL_undo_13 rfl ⟨_, _, by rw [hq]; rfl, rfl, fun h9 => absurd h9 (by rw [hq]; decide), fun _ => hS9⟩ (by decide) (by decide)

set_option maxRecDepth 20000 in
set_option maxHeartbeats 1000000 in
theorem cW_restore {l : Launch} {D : va_G} {cy : Nat → ClassId} {sa : Nat → Nat} {f K o : Nat} {fl : Nat → Int64} {S : AS} {ws : va_W} {v : SV} (hvS : v = S.1) (hS : FS cy f S ws) (hI : AI K S) (hst : l.stackTraces = false) (hq : 0 ≤ (qRest S).toInt ∨ qRest S = -3) : MGW l yL_restore cL_restore 3 (some .int) [(0, 8, 11, 15)] 7 1 6 (D, cy, sa) [.ref f, .ref o] (([(o, .inl (cy 6, aL 1 fl))] ++ ws)) (fun w u => ∃ (fl1 : Nat → Int64) (ws1 : va_W), w = some (.int (nI (kd 0 0 1 0 0 (qRest S)))) ∧ u = [(o, .inl (cy 6, aL 1 fl1))] ++ ws1 ∧ (0 ≤ (qRest S).toInt → FS cy f (aRest S) ws1 ∧ fl1 0 = (qRest S).toInt64) ∧ ((qRest S).toInt < 0 → FS cy f (S) ws1)) := by
  refine MGW_by (own := RL) (L := [some (.ref f), some (.ref o), none]) (by decide +kernel) rfl rfl (Nat.le_of_ble_eq_true rfl) 1 rfl (fun X hX hE hT hnL hG hcy hl => ?_)
  refine r_aload_n (pc' := 1) hX dL_restore_0 rfl rfl ?_
  refine r_iconst (pc' := 2) (v := nI 0) hX dL_restore_1 rfl rfl ?_
  refine r_aload_n (pc' := 3) hX dL_restore_2 rfl rfl ?_
  refine V_callX (k' := 1) (n' := 6) (pc' := 6) (wr := [(o, .inl (cy 6, aL 1 fl))]) hX (r_runVX (As := []) hX dL_restore_3 k_L_150 (fun l9 hl9 => by cases hl9; exact cF_restore hvS hS hI (hst := (by rw [hl]; exact hst)) ) hG (FS_recv hS) rfl rfl (Nat.le_of_ble_eq_true rfl) (by decide) (by decide) (by decide) (by decide)) (List.perm_append_comm) rfl rfl rfl (fun w9 u9 hp9 => ?_) ?_
  · obtain ⟨okq, rfl, hS9⟩ := hp9
    change V X 1 6 (u9 ++ [(o, .inl (cy 6, aL 1 fl))]) [some (.ref f), some (.ref o), none] [.int (qRest S), .int (nI 0), .ref o] 6
    refine V_perm (List.perm_append_comm) ?_
    change V X 1 6 ([(o, .inl (cy 6, aL 1 fl))] ++ u9) [some (.ref f), some (.ref o), none] [.int (qRest S), .int (nI 0), .ref o] 6
    refine r_i2l (pc' := 7) hX dL_restore_6 rfl rfl ?_
    refine r_last (pc' := 8) hX dL_restore_7 (by rw [hcy]) 0 rfl rfl (fun flq7 hflq7 => ?_)
    change V X 1 6 ([(o, .inl (cy 6, aL 1 flq7))] ++ u9) [some (.ref f), some (.ref o), none] [] 8
    refine r_goto (tgt := 14) hX dL_restore_8 (by decide) ?_
    refine r_iconst (pc' := 15) (v := nI 0) hX dL_restore_14 rfl rfl ?_
    have hq0 : 0 ≤ (qRest S).toInt := by
      rcases hq with hq | hq
      · exact hq
      · exact absurd (show noA (qRest S) from by rw [hq]; decide) okq
    exact r_ireturn hX hE dL_restore_15 rfl ⟨_, _, by rw [kd_pos hq0], rfl, fun _ => ⟨hS9, hflq7⟩, fun h9 => absurd hq0 (by omega)⟩ (by omega) (by omega)
  · intro E9 u9 hp9
    obtain ⟨hx9, hE9, hS9⟩ := hp9
    rcases hq with hq | hq
    · exact absurd hq (by omega)
    · have hE8 : E9 = "java/lang/IllegalStateException" := by rw [hE9, hq]; rfl
      subst hE8
      refine VX_catch hX hT [] ⟨0, 8, 11, 15⟩ [] rfl (fun z hz => by cases hz) rfl (by decide) (m3 (j := 239) rfl rfl) ⟨n4 (j := 44) rfl rfl, rfl⟩ (fun q9 => ?_)
      refine V_perm (ws2 := [(o, .inl (cy 6, aL 1 fl))] ++ u9) List.perm_append_comm ?_
      refine r_astore_n (L' := [some (.ref f), some (.ref o), some (.ref q9)]) (pc' := 12) hX dL_restore_11 (nlt hnL (by decide)) rfl rfl rfl ?_
      refine r_iconst (pc' := 13) (v := nI 1) hX dL_restore_12 rfl rfl ?_
      exact r_ireturn hX hE dL_restore_13 rfl ⟨_, _, by rw [hq]; rfl, rfl, fun h9 => absurd h9 (by rw [hq]; decide), fun _ => hS9⟩ (by decide) (by decide)
