theorem kc_J2_20 : Cond.constant "java/lang/StringUTF16" 20 (1073741823 : Int32) ∈ T0 := m1 (j := 167) rfl rfl
theorem kc_X4_146 : Cond.constant "BowFoundry$State" 146 (2147483647 : Int32) ∈ T0 := m2 (j := 40) rfl rfl
theorem kc_J8_200 : Cond.constant "jdk/internal/util/ArraysSupport" 200 (2147483639 : Int32) ∈ T0 := m4 (j := 112) rfl rfl
theorem kc_J5_39 : Cond.constant "java/lang/AbstractStringBuilder" 39 (2147483647 : Int32) ∈ T0 := m4 (j := 116) rfl rfl
