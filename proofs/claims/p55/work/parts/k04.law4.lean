/-! ===== the law's body: its end; all of it ===== -/
set_option maxRecDepth 20000 in
set_option maxHeartbeats 4000000 in
theorem k_11 {X : xC} {l : Launch} {D : va_G} {cy : Nat → ClassId} {sa : Nat → Nat} (hX : Ok SF X cL_law RL 20 5000 130000) (hG : c0_G X = (D, cy, sa)) (hcy : c0_cy X = cy) (hnL : c0_nL X = 12) (hl : c0_l X = l) (hst : l.stackTraces = false) {y g j P M : Nat} {b : SV} {u7 : List SV} {SZ : AS} {c : Int32} (hIb : IFB 120 b) (hus : ∀ u ∈ u7, IFB 120 u) {x z : Nat} {wx wz : va_W} (hx : FS cy x (XS b b u7 [] (nI 0) (nI 0)) wx) (hz : FS cy z SZ wz) (fin : ∀ (k n : Nat) (ws : va_W) (L9 : List (Option Value)), k ≤ 5000 → n ≤ 130000 → V X k n ws L9 [.int (nI 1)] 1208) : V X 3771 115190 (([wx, wz] : List va_W).flatten) [some (.ref (sa 90)), some (.ref x), some (.ref y), some (.int (nI (b 0 4))), some (.int (dg b)), some (.int c), some (.int (nI P)), some (.int (nI M)), some (.ref z), some (.int (nI (qz P M))), some (.int (nI g)), some (.int (nI j))] [] 1186 := by
  have hb5 := hIb.1.1.2.2.1
  have hA1 : AJ 120 (XS b b u7 [] (nI 0) (nI 0)) := AJ_XS hIb hIb hus nil127 (nI_pos1 (by decide)) (nI_pos1 (by decide))
  have hA2 : AJ 120 (XS b b [] [] (nI 0) (nI 0)) := AJ_XS hIb hIb (fun u hu => absurd hu List.not_mem_nil) nil127 (nI_pos1 (by decide)) (nI_pos1 (by decide))
  refine r_aload_n (pc' := 1187) hX dL_law_1186 rfl rfl ?_
  refine V_callX (k' := 3772) (n' := 115196) (pc' := 1190) (wr := ((([wx, wz] : List va_W)).eraseIdx 0).flatten) hX (r_runVX (As := []) hX dL_law_1187 k_L_259 (fun l9 hl9 => by cases hl9; exact cF_restore (v := (XS b b u7 [] (nI 0) (nI 0)).1) rfl hx (hA1).1 (hst := (by rw [hl]; exact hst))) hG (FS_recv hx) rfl rfl (Nat.le_of_ble_eq_true rfl) (by decide) (by decide) (by decide) (by decide)) (fl_out 0 rfl) rfl rfl rfl (fun w9 u154 hp9 => ?_) ?_
  · obtain ⟨okq, rfl, hF154⟩ := hp9
    rw [show (qRest (XS b b u7 [] (nI 0) (nI 0)) : Int32) = nI (b 0 4) from rfl]
    change V X 3772 115196 (u154 ++ ((([wx, wz] : List va_W)).eraseIdx 0).flatten) [some (.ref (sa 90)), some (.ref x), some (.ref y), some (.int (nI (b 0 4))), some (.int (dg b)), some (.int c), some (.int (nI P)), some (.int (nI M)), some (.ref z), some (.int (nI (qz P M))), some (.int (nI g)), some (.int (nI j))] [.int (nI (b 0 4))] 1190
    refine V_perm (fl_back (bs := ([wx, wz] : List va_W)) (bs' := ([u154, wz] : List va_W)) 0 rfl rfl) ?_
    change V X 3772 115196 (([u154, wz] : List va_W).flatten) [some (.ref (sa 90)), some (.ref x), some (.ref y), some (.int (nI (b 0 4))), some (.int (dg b)), some (.int c), some (.int (nI P)), some (.int (nI M)), some (.ref z), some (.int (nI (qz P M))), some (.int (nI g)), some (.int (nI j))] [.int (nI (b 0 4))] 1190
    refine r_iload_n (pc' := 1191) hX dL_law_1190 rfl rfl ?_
    refine r_icmp_ne_N (tgt := 1207) (pc' := 1194) hX dL_law_1191 (by decide) rfl (by omega) (by omega) (fun c1191 => ?_) (fun c1191 => ?_)
    · exact absurd c1191 (by omega)
    · refine r_aload_n (pc' := 1195) hX dL_law_1194 rfl rfl ?_
      refine V_call (k' := 3988) (n' := 116516) (pc' := 1198) (wr := ((([u154, wz] : List va_W)).eraseIdx 0).flatten) hX (r_runS (As := [.ref x]) hX dL_law_1195 k_L_140 (fun l9 hl9 => by cases hl9; exact cW_state (S := (XS b b [] [] (nI 0) (nI 0))) hF154 (hA2) (by omega) (hst := (by rw [hl]; exact hst))) hG rfl rfl (Nat.le_of_ble_eq_true rfl) (by decide) (by decide) (by decide) (by decide)) (fl_out 0 rfl) rfl rfl rfl (fun w9 u155 hp9 => ?_)
      obtain ⟨rfl, hF155⟩ := hp9
      change V X 3988 116516 (u155 ++ ((([u154, wz] : List va_W)).eraseIdx 0).flatten) [some (.ref (sa 90)), some (.ref x), some (.ref y), some (.int (nI (b 0 4))), some (.int (dg b)), some (.int c), some (.int (nI P)), some (.int (nI M)), some (.ref z), some (.int (nI (qz P M))), some (.int (nI g)), some (.int (nI j))] [.int (dg b)] 1198
      refine V_perm (fl_back (bs := ([u154, wz] : List va_W)) (bs' := ([u155, wz] : List va_W)) 0 rfl rfl) ?_
      refine r_iload (pc' := 1200) hX dL_law_1198 rfl rfl ?_
      refine r_icmp_ne (tgt := 1207) (pc' := 1203) hX dL_law_1200 (by decide) rfl (fun c1200 => ?_) (fun c1200 => ?_)
      · exact absurd rfl c1200
      · refine r_iconst (pc' := 1204) (v := nI 1) hX dL_law_1203 rfl rfl ?_
        refine r_goto (tgt := 1208) hX dL_law_1204 (by decide) ?_
        exact fin _ _ _ _ (by decide) (by decide)
  · intro E9 u9 hp9
    exact absurd hp9.1 (by rw [show (qRest (XS b b u7 [] (nI 0) (nI 0)) : Int32) = nI (b 0 4) from rfl]; exact okN (by first | decide | omega))
theorem fl_two {a b : va_W} : (([a, b] : List va_W).flatten).Perm (([a] : List va_W).flatten ++ b) := by
  show (a ++ (b ++ [])).Perm ((a ++ []) ++ b)
  simp only [List.append_nil]
  exact List.Perm.refl _
set_option maxRecDepth 20000 in
set_option maxHeartbeats 4000000 in
theorem law_all {X : xC} {l : Launch} {D : va_G} {cy : Nat → ClassId} {sa : Nat → Nat} (hX : Ok SF X cL_law RL 20 5000 130000) (hG : c0_G X = (D, cy, sa)) (hcy : c0_cy X = cy) (hnL : c0_nL X = 12) (hl : c0_l X = l) (hst : l.stackTraces = false) (fin : ∀ (k n : Nat) (ws : va_W) (L9 : List (Option Value)), k ≤ 5000 → n ≤ 130000 → V X k n ws L9 [.int (nI 1)] 1208) : V X 0 0 [] [some (.ref (sa 90)), none, none, none, none, none, none, none, none, none, none, none] [] 0 := by
  obtain ⟨b, us, hB, hIb, hus, h2⟩ := bld_ok (sa := sa)
  refine k_1 hX hG hcy hnL hl hst hB hIb hus h2 (fun x y wx wy hx hy => ?_)
  refine k_2 hX hG hcy hnL hl hst hB hIb hus h2 hx hy (fun wx wy hx hy => ?_)
  refine V_perm fl_two (V_drop ?_)
  refine k_3 hX hG hcy hnL hl hst hIb (mtt hus) h2 hx (fun wx hx => ?_)
  refine k_4 hX hG hcy hnL hl hst hIb (mtt hus) h2 hx (fun wx hx => ?_)
  have hA9 : AJ 120 (XS b b (us.take 7) [] (nI 0) (nI 0)) := AJ_XS hIb hIb (mtt hus) nil127 (nI_pos1 (by decide)) (nI_pos1 (by decide))
  refine k_5 hX hG hcy hnL hl hst hA9 hx (fun c P M hP hM z wx wz hx hz => ?_)
  refine k_6 hX hG hcy hnL hl hst hP hM hx hz (fun wx wz hx hz => ?_)
  refine k_7 hX hG hcy hnL hl hst hP hM hx hz (fun wx wz hx hz => ?_)
  refine k_8 hX hG hcy hnL hl hst hP hM hx hz (fun wx wz hx hz => ?_)
  refine k_9 hX hG hcy hnL hl hst hP hM hx hz (fun j g wx wz hx hz => ?_)
  refine k_10 hX hG hcy hnL hl hst hP hM hx hz (fun wx wz hx hz => ?_)
  exact k_11 hX hG hcy hnL hl hst hIb (mtt hus) hx hz fin
