/-! ===== the start: what the tables say of the classes ===== -/
theorem in_J0 : ∀ w ∈ u_ws RJ0 TJ0 4, w ∈ T0 := by
  intro w h
  obtain ⟨k, hk, rfl⟩ := List.mem_map.mp h
  have hk := List.mem_range.mp hk
  match k, hk with
  | 0, _ => exact m3 (j := 130) rfl rfl
  | 1, _ => exact m3 (j := 132) rfl rfl
  | 2, _ => exact m3 (j := 134) rfl rfl
  | 3, _ => exact m3 (j := 136) rfl rfl
  | k + 4, h => exact absurd h (by omega)
theorem in_Jx00060 : ∀ w ∈ u_ws RJx00060 TJx00060 6, w ∈ T0 := by
  intro w h
  obtain ⟨k, hk, rfl⟩ := List.mem_map.mp h
  have hk := List.mem_range.mp hk
  match k, hk with
  | 0, _ => exact m3 (j := 168) rfl rfl
  | 1, _ => exact m3 (j := 169) rfl rfl
  | 2, _ => exact m3 (j := 170) rfl rfl
  | 3, _ => exact m3 (j := 171) rfl rfl
  | 4, _ => exact m3 (j := 172) rfl rfl
  | 5, _ => exact m3 (j := 183) rfl rfl
  | k + 6, h => exact absurd h (by omega)
theorem in_Jx7c733 : ∀ w ∈ u_ws RJx7c733 TJx7c733 6, w ∈ T0 := by
  intro w h
  obtain ⟨k, hk, rfl⟩ := List.mem_map.mp h
  have hk := List.mem_range.mp hk
  match k, hk with
  | 0, _ => exact m3 (j := 143) rfl rfl
  | 1, _ => exact m3 (j := 144) rfl rfl
  | 2, _ => exact m3 (j := 145) rfl rfl
  | 3, _ => exact m3 (j := 146) rfl rfl
  | 4, _ => exact m3 (j := 147) rfl rfl
  | 5, _ => exact m3 (j := 148) rfl rfl
  | k + 6, h => exact absurd h (by omega)
theorem start_cls {s : State} {args : Array Value} (hts : ∀ w ∈ T0, w.before args s = true) : ∃ (dC : Nat → ClassId) (dI : Nat → Nat → Nat), ∀ (k : Nat) (q : vw_C), vwCl[k]? = some q → u_Kn s q.1 q.2.1 q.2.2 (dC k) (dI k) := by
  obtain ⟨c0, i0, h0⟩ := u_known (C := RJ0) (T := TJ0) (N := 4) (n := 4) hts in_J0 (hts _ (m3 (j := 7) rfl rfl))
  obtain ⟨c1, i1, h1⟩ := u_known (C := RJ4) (T := TJ4) (N := 4) (n := 4) hts in_J4 (hts _ (m1 (j := 152) rfl rfl))
  obtain ⟨c2, i2, h2⟩ := u_known (C := RJx00060) (T := TJx00060) (N := 6) (n := 6) hts in_Jx00060 (hts _ (m3 (j := 163) rfl rfl))
  obtain ⟨c3, i3, h3⟩ := u_known (C := RJx7c733) (T := TJx7c733) (N := 6) (n := 6) hts in_Jx7c733 (hts _ (m2 (j := 90) rfl rfl))
  obtain ⟨c4, i4, h4⟩ := u_known (C := RX1) (T := TX1) (N := 6) (n := 6) hts in_X1 (hts _ (m1 (j := 49) rfl rfl))
  obtain ⟨c5, i5, h5⟩ := u_known (C := RX3) (T := TX3) (N := 5) (n := 5) hts in_X3 (hts _ (m1 (j := 146) rfl rfl))
  obtain ⟨c6, i6, h6⟩ := u_known (C := RX4) (T := TX4) (N := 17) (n := 17) hts in_X4 (hts _ (m1 (j := 40) rfl rfl))
  obtain ⟨c7, i7, h7⟩ := u_known (C := RX5) (T := TX5) (N := 9) (n := 9) hts in_X5 (hts _ (m1 (j := 31) rfl rfl))
  obtain ⟨c8, i8, h8⟩ := u_known (C := RX6) (T := TX6) (N := 16) (n := 16) hts in_X6 (hts _ (m6 (j := 155) rfl rfl))
  refine ⟨fun k => [c0, c1, c2, c3, c4, c5, c6, c7, c8].getD k c0, fun k => [i0, i1, i2, i3, i4, i5, i6, i7, i8].getD k i0, ?_⟩
  intro k q hq
  match k, hq with
  | 0, hq => cases hq; exact h0
  | 1, hq => cases hq; exact h1
  | 2, hq => cases hq; exact h2
  | 3, hq => cases hq; exact h3
  | 4, hq => cases hq; exact h4
  | 5, hq => cases hq; exact h5
  | 6, hq => cases hq; exact h6
  | 7, hq => cases hq; exact h7
  | 8, hq => cases hq; exact h8
  | k + 9, hq => simp [vwCl] at hq
