/-! ===== the start: what the tables say of the classes ===== -/
theorem in_J0 : ∀ w ∈ u_ws RJ0 TJ0 4, w ∈ T0 := by
  intro w h
  obtain ⟨k, hk, rfl⟩ := List.mem_map.mp h
  have hk := List.mem_range.mp hk
  match k, hk with
  | 0, _ => exact m5 (j := 18) rfl rfl
  | 1, _ => exact m5 (j := 20) rfl rfl
  | 2, _ => exact m5 (j := 22) rfl rfl
  | 3, _ => exact m5 (j := 24) rfl rfl
  | k + 4, h => exact absurd h (by omega)
theorem in_Jx00060 : ∀ w ∈ u_ws RJx00060 TJx00060 6, w ∈ T0 := by
  intro w h
  obtain ⟨k, hk, rfl⟩ := List.mem_map.mp h
  have hk := List.mem_range.mp hk
  match k, hk with
  | 0, _ => exact m5 (j := 53) rfl rfl
  | 1, _ => exact m5 (j := 54) rfl rfl
  | 2, _ => exact m5 (j := 55) rfl rfl
  | 3, _ => exact m5 (j := 56) rfl rfl
  | 4, _ => exact m5 (j := 57) rfl rfl
  | 5, _ => exact m5 (j := 68) rfl rfl
  | k + 6, h => exact absurd h (by omega)
theorem in_Jx7c733 : ∀ w ∈ u_ws RJx7c733 TJx7c733 6, w ∈ T0 := by
  intro w h
  obtain ⟨k, hk, rfl⟩ := List.mem_map.mp h
  have hk := List.mem_range.mp hk
  match k, hk with
  | 0, _ => exact m5 (j := 28) rfl rfl
  | 1, _ => exact m5 (j := 29) rfl rfl
  | 2, _ => exact m5 (j := 30) rfl rfl
  | 3, _ => exact m5 (j := 31) rfl rfl
  | 4, _ => exact m5 (j := 32) rfl rfl
  | 5, _ => exact m5 (j := 33) rfl rfl
  | k + 6, h => exact absurd h (by omega)