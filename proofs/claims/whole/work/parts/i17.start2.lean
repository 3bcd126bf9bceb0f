theorem start_prim {s : State} {args : Array Value} {ty : FieldType} (h : (Cond.arrayClass ty).before args s = true) : ∃ c : ClassId, ArrOfT s c ty ∧ s.vm.findClass ("[" ++ ty.toString) = some c := by
  obtain ⟨c, k, comp, h1, h2, h3⟩ := Cond.arrayClass_spec h
  exact ⟨c, fun n z => ⟨(fun k h => by cases h), k, h2, comp, h3⟩, h1⟩
theorem start_obj {s : State} {args : Array Value} {C : String} (h : (Cond.arrayOver (.object C)).before args s = true) : ∃ c : ClassId, ArrOfT s c (.object C) ∧ va_RA s c (.object C) := by
  obtain ⟨comp, c, k, h1, h2, h3, h4, h5⟩ := Cond.arrayOver_spec h
  exact ⟨c, fun n z => ⟨(fun k h => by cases h), k, h3, comp, h4⟩, k, comp, h3, h4, h1, h5⟩
theorem start_arr {s : State} {args : Array Value} {t : FieldType} (h : (Cond.arrayOver (.array t)).before args s = true) : ∃ c : ClassId, ArrOfT s c (.array t) ∧ s.vm.findClass ("[" ++ (FieldType.array t).toString) = some c := by
  obtain ⟨comp, c, k, h1, h3, h4, h5⟩ := Cond.arrayOver_specA h
  exact ⟨c, fun n z => ⟨(fun k h => by cases h), k, h3, comp, h4⟩, h5⟩
/-- all that the walks know of classes and arrays -/
theorem start_K {s : State} {args : Array Value} (hts : ∀ w ∈ T0, w.before args s = true) (hNw : ∀ w ∈ N0, va_Nw w s) : ∃ (D : va_G) (cy : Nat → ClassId), va_K D vwCl (tysG cy) s := by
  obtain ⟨dC, dI, hc⟩ := start_cls hts
  obtain ⟨a0, x0, y0⟩ := start_prim (hts _ (m1 (j := 83) rfl rfl))
  obtain ⟨a1, x1, y1⟩ := start_prim (hts _ (m6 (j := 209) rfl rfl))
  obtain ⟨a2, x2, y2⟩ := start_prim (hts _ (m1 (j := 183) rfl rfl))
  obtain ⟨a3, x3, y3⟩ := start_arr (args := #[]) (hNw _ (n1 (j := 46) rfl rfl))
  obtain ⟨a4, x4, y4⟩ := start_obj (args := #[]) (hNw _ (n1 (j := 48) rfl rfl))
  obtain ⟨a5, x5, y5⟩ := start_obj (args := #[]) (hNw _ (n1 (j := 39) rfl rfl))
  obtain ⟨a6, x6, y6⟩ := start_prim (hts _ (m8 (j := 110) rfl rfl))
  obtain ⟨a7, x7, y7⟩ := start_prim (hts _ (m8 (j := 111) rfl rfl))
  refine ⟨(dC, dI), fun k => [a0, a1, a2, a3, a4, a5, a6, a7].getD k a0, hc, fun k q hq => ?_⟩
  match k, hq with
  | 0, hq => cases hq; exact ⟨x0, y0⟩
  | 1, hq => cases hq; exact ⟨x1, y1⟩
  | 2, hq => cases hq; exact ⟨x2, y2⟩
  | 3, hq => cases hq; exact ⟨x3, y3⟩
  | 4, hq => cases hq; exact ⟨x4, y4⟩
  | 5, hq => cases hq; exact ⟨x5, y5⟩
  | 6, hq => cases hq; exact ⟨x6, y6⟩
  | 7, hq => cases hq; exact ⟨x7, y7⟩
  | k + 8, hq => simp [tysG] at hq
