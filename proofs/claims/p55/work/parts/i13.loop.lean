/-! ===== the start: a new object's books ===== -/
theorem Wf_ini : Wf vIni := by
  refine ⟨by decide, by decide, by decide, by decide, by decide, by decide, fun i hi => absurd hi (by show ¬ i < 0; omega), fun i j _ _ => ?_, fun i _ => ⟨?_, ?_⟩, fun j _ => ?_, fun a ha => absurd ha (by show ¬ a < 0; omega)⟩
  · show (if 7 + i = 0 then _ else 0) ≤ 9
    rw [if_neg (by omega)]; decide
  · exact (by decide : (0 : Nat) ≤ 50)
  · exact (by decide : (0 : Nat) ≤ 20)
  · exact (by decide : (0 : Nat) ≤ 3000)
theorem Inv_ini : Inv 0 vIni := by
  refine ⟨Wf_ini, fun i _ _ => rfl, fun m hm => ⟨?_, ?_, ?_⟩, rfl, by decide, by decide, fun i hi => absurd hi (by show ¬ i < 0; omega)⟩
  · exact (by decide : (0 : Nat) ≤ 1647)
  · rfl
  · exact (by decide : (0 : Nat) ≤ 0)
theorem FB_ini : FB vIni := fun i hi => by
  show (if 13 + i = 0 then _ else 0) ≤ 1
  rw [if_neg (by omega)]; decide
theorem AJ_ini : AJ 0 AS0 := ⟨⟨⟨Inv_ini, FB_ini⟩, fun x hx => absurd hx List.not_mem_nil, fun x hx => (by cases hx), fun c hc => absurd hc List.not_mem_nil⟩, fun c hc => absurd hc List.not_mem_nil, Or.inl rfl, Or.inl rfl⟩
