/-! ===== the start ===== -/
theorem start_cls {s : State} {args : Array Value} (hts : ∀ w ∈ T0, w.before args s = true) : ∃ (dC : Nat → ClassId) (dI : Nat → Nat → Nat), ∀ (k : Nat) (q : vw_C), vwCl[k]? = some q → u_Kn s q.1 q.2.1 q.2.2 (dC k) (dI k) := by
  obtain ⟨c0, i0, h0⟩ := u_known (C := RJ0) (T := TJ0) (N := 4) (n := 4) hts in_J0 (hts _ (m4 (j := 214) rfl rfl))
  obtain ⟨c1, i1, h1⟩ := u_known (C := RJ4) (T := TJ4) (N := 4) (n := 4) hts in_J4 (hts _ (m1 (j := 151) rfl rfl))
  obtain ⟨c2, i2, h2⟩ := u_known (C := RJx00060) (T := TJx00060) (N := 6) (n := 6) hts in_Jx00060 (hts _ (m5 (j := 48) rfl rfl))
  obtain ⟨c3, i3, h3⟩ := u_known (C := RJx7c733) (T := TJx7c733) (N := 6) (n := 6) hts in_Jx7c733 (hts _ (m4 (j := 82) rfl rfl))
  obtain ⟨c4, i4, h4⟩ := u_known (C := RX1) (T := TX1) (N := 6) (n := 6) hts in_X1 (hts _ (m1 (j := 48) rfl rfl))
  obtain ⟨c5, i5, h5⟩ := u_known (C := RX3) (T := TX3) (N := 5) (n := 5) hts in_X3 (hts _ (m1 (j := 145) rfl rfl))
  obtain ⟨c6, i6, h6⟩ := u_known (C := RX4) (T := TX4) (N := 17) (n := 17) hts in_X4 (hts _ (m1 (j := 39) rfl rfl))
  obtain ⟨c7, i7, h7⟩ := u_known (C := RX5) (T := TX5) (N := 9) (n := 9) hts in_X5 (hts _ (m1 (j := 30) rfl rfl))
  refine ⟨fun k => [c0, c1, c2, c3, c4, c5, c6, c7].getD k c0, fun k => [i0, i1, i2, i3, i4, i5, i6, i7].getD k i0, ?_⟩
  intro k q hq
  match k, hq with
  | 0, hq => cases hq; exact h0
  | 1, hq => cases hq; exact h1
  | 2, hq => cases hq; exact h2
  | 3, hq => cases hq; exact h3
  | 4, hq => cases hq; exact h4
  | 5, hq => cases hq; exact h5
  | 6, hq => cases hq; exact h6
  | 7, hq => cases hq; exact h7
  | k + 8, hq => simp [vwCl] at hq
/-- all that the walks know of classes and arrays -/
theorem start_K {s : State} {args : Array Value} (hts : ∀ w ∈ T0, w.before args s = true) (hNw : ∀ w ∈ N0, va_Nw w s) : ∃ (D : va_G) (cy : Nat → ClassId), va_K D vwCl (tysG cy) s := by
  obtain ⟨dC, dI, hc⟩ := start_cls hts
  obtain ⟨a0, x0, y0⟩ := start_prim (hts _ (m1 (j := 82) rfl rfl))
  obtain ⟨a2, x2, y2⟩ := start_prim (hts _ (m1 (j := 182) rfl rfl))
  obtain ⟨a3, x3, y3⟩ := start_arr (args := #[]) (hNw _ (n1 (j := 45) rfl rfl))
  obtain ⟨a4, x4, y4⟩ := start_obj (args := #[]) (hNw _ (n1 (j := 47) rfl rfl))
  obtain ⟨a5, x5, y5⟩ := start_obj (args := #[]) (hNw _ (n1 (j := 38) rfl rfl))
  refine ⟨(dC, dI), fun k => [a0, a0, a2, a3, a4, a5].getD k a0, hc, fun k q hq => ?_⟩
  match k, hq with
  | 0, hq => cases hq; exact ⟨x0, y0⟩
  | 1, hq => cases hq; exact ⟨x0, y0⟩
  | 2, hq => cases hq; exact ⟨x2, y2⟩
  | 3, hq => cases hq; exact ⟨x3, y3⟩
  | 4, hq => cases hq; exact ⟨x4, y4⟩
  | 5, hq => cases hq; exact ⟨x5, y5⟩
  | k + 6, hq => simp [tysG] at hq
