/-! facts of the JDK's pool entries; calls of other kinds -/
theorem KU_of {own C owner : String} {index : Nat} {x y : MethodName} {cc : ByteArray} {maxL : Nat} {ret : Option FieldType} {na : Nat} (h1 : Cond.methodLink own index x ∈ T0) (h2 : Cond.sameMethod x.cls owner x.name x.desc ∈ T0) (h3 : Cond.selects C x y ∈ T0) (h4 : Cond.instanceMethod y ∈ T0) (h5 : Cond.initialized y.cls ∈ T0) (h6 : Cond.code y cc maxL ret ∈ T0) (h7 : y = ⟨owner, x.name, x.desc⟩) (h8 : owner ≠ "java/lang/invoke/MethodHandle" ∧ owner ≠ "java/lang/invoke/VarHandle" ∧ (parseMethodDescriptor x.desc).map (fun d => d.parameters.length) = some na) : KU own index C owner x y cc maxL ret na :=
  ⟨gT0 (fun w hw => by
    rcases List.mem_append.mp hw with h | h
    · simp only [List.mem_cons, List.not_mem_nil, or_false] at h
      rcases h with rfl | rfl | rfl | rfl | rfl <;> assumption
    · exact gO h6 w h), h7, h8⟩
theorem KP_of {own : String} {index : Nat} {y : MethodName} {cc : ByteArray} {maxL : Nat} {ret : Option FieldType} {na : Nat} (h1 : Cond.methodLink own index y ∈ T0) (h2 : Cond.sameMethod y.cls y.cls y.name y.desc ∈ T0) (h4 : Cond.instanceMethod y ∈ T0) (h5 : Cond.initialized y.cls ∈ T0) (h6 : Cond.code y cc maxL ret ∈ T0) (h7 : Cond.privateMethod y ∈ N0) (h8 : y.cls ≠ "java/lang/invoke/MethodHandle" ∧ y.cls ≠ "java/lang/invoke/VarHandle" ∧ (parseMethodDescriptor y.desc).map (fun d => d.parameters.length) = some na) : KP own index y cc maxL ret na :=
  ⟨gT0 (fun w hw => by
    rcases List.mem_append.mp hw with h | h
    · simp only [List.mem_cons, List.not_mem_nil, or_false] at h
      rcases h with rfl | rfl | rfl | rfl <;> assumption
    · exact gO h6 w h), h7, h8⟩
theorem KSU_of {own : String} {index : Nat} {y : MethodName} {cc : ByteArray} {maxL : Nat} {ret : Option FieldType} {na : Nat} (h1 : Cond.methodLink own index y ∈ T0) (h2 : Cond.sameMethod y.cls y.cls y.name y.desc ∈ T0) (h3 : Cond.superclass own y.cls ∈ T0) (h4 : Cond.instanceMethod y ∈ T0) (h5 : Cond.initialized y.cls ∈ T0) (h6 : Cond.code y cc maxL ret ∈ T0) (h8 : y.name ≠ "<init>" ∧ (parseMethodDescriptor y.desc).map (fun d => d.parameters.length) = some na) : KSU own index y cc maxL ret na :=
  ⟨gT0 (fun w hw => by
    rcases List.mem_append.mp hw with h | h
    · simp only [List.mem_cons, List.not_mem_nil, or_false] at h
      rcases h with rfl | rfl | rfl | rfl | rfl <;> assumption
    · exact gO h6 w h), h8⟩
theorem KSN_of {own host : String} {index : Nat} {y : MethodName} {cc : ByteArray} {maxL : Nat} {ret : Option FieldType} {na : Nat} (h1 : Cond.methodLinkNest own index y host ∈ N0) (h2 : Cond.initialized y.cls ∈ T0) (h3 : Cond.static y ∈ T0) (h6 : Cond.code y cc maxL ret ∈ T0) (h8 : y.cls ≠ "java/lang/invoke/MethodHandle" ∧ y.cls ≠ "java/lang/invoke/VarHandle" ∧ (parseMethodDescriptor y.desc).map (fun d => d.parameters.length) = some na) : KSN own index host y cc maxL ret na := ⟨gT0 (gO h6), h1, h2, h3, h8⟩
theorem KIN_of {own host : String} {index : Nat} {y : MethodName} {cc : ByteArray} {maxL : Nat} {na : Nat} (h1 : Cond.methodLinkNest own index y host ∈ N0) (h2 : Cond.initialized y.cls ∈ T0) (h3 : Cond.instanceMethod y ∈ T0) (h6 : Cond.code y cc maxL none ∈ T0) (h8 : y.name = "<init>" ∧ y.cls ≠ "java/lang/invoke/MethodHandle" ∧ y.cls ≠ "java/lang/invoke/VarHandle" ∧ (parseMethodDescriptor y.desc).map (fun d => d.parameters.length) = some na) : KIN own index host y cc maxL na := ⟨gT0 (gO h6), h1, h2, h3, h8⟩
theorem k_J4_1 : KI RJ4 1 yJ5_init_d00df cJ5_init_d00df 2 1 := KI_of (m1 (j := 155) rfl rfl) (m1 (j := 156) rfl rfl) (m1 (j := 5) rfl rfl) (m1 (j := 157) rfl rfl) (by decide +kernel)
theorem f_J5_15 : FL RJ5 15 1 0 := ⟨RJ4, TJ4, 4, rfl, in_J4, by decide, "java/lang/AbstractStringBuilder", m1 (j := 168) rfl rfl, rfl⟩
theorem f_J5_22 : FL RJ5 22 1 1 := ⟨RJ4, TJ4, 4, rfl, in_J4, by decide, "java/lang/AbstractStringBuilder", m1 (j := 169) rfl rfl, rfl⟩
theorem k_J5_26 : KS RJ5 26 yJ2_newBytesFor_77867 cJ2_newBytesFor_77867 1 (some (.array .byte)) 1 := KS_of (m1 (j := 161) rfl rfl) (m1 (j := 162) rfl rfl) (m1 (j := 8) rfl rfl) (m1 (j := 163) rfl rfl) (by decide +kernel)
theorem f_J5_79 : FL RJ5 79 1 3 := ⟨RJ4, TJ4, 4, rfl, in_J4, by decide, "java/lang/AbstractStringBuilder", m1 (j := 172) rfl rfl, rfl⟩
theorem k_J5_191 : KS RJ5 191 yJ1_canEncode_fc78d cJ1_canEncode_fc78d 1 (some .boolean) 1 := KS_of (m5 (j := 161) rfl rfl) (m5 (j := 162) rfl rfl) (m1 (j := 20) rfl rfl) (m5 (j := 163) rfl rfl) (by decide +kernel)
theorem k_J5_197 : KS RJ5 197 yJ2_putCharSB_b72d1 cJ2_putCharSB_b72d1 3 none 3 := KS_of (m5 (j := 164) rfl rfl) (m5 (j := 165) rfl rfl) (m1 (j := 8) rfl rfl) (m5 (j := 166) rfl rfl) (by decide +kernel)
theorem k_J5_108 : KS RJ5 108 yJ7_copyOf_9075b cJ7_copyOf_9075b 3 (some (.array .byte)) 2 := KS_of (m4 (j := 117) rfl rfl) (m4 (j := 118) rfl rfl) (m1 (j := 23) rfl rfl) (m4 (j := 119) rfl rfl) (by decide +kernel)
theorem k_J5_114 : KS RJ5 114 yJ8_newLength_cabcc cJ8_newLength_cabcc 4 (some .int) 3 := KS_of (m4 (j := 108) rfl rfl) (m4 (j := 109) rfl rfl) (m1 (j := 22) rfl rfl) (m4 (j := 110) rfl rfl) (by decide +kernel)
theorem k_J8_194 : KS RJ8 194 yJ9_max_7cf53 cJ9_max_7cf53 2 (some .int) 2 := KS_of (m4 (j := 111) rfl rfl) (m2 (j := 230) rfl rfl) (m1 (j := 14) rfl rfl) (m2 (j := 231) rfl rfl) (by decide +kernel)
theorem k_J8_201 : KS RJ8 201 yJ8_hugeLength_7cf53 cJ8_hugeLength_7cf53 3 (some .int) 2 := KS_of (m4 (j := 113) rfl rfl) (m4 (j := 114) rfl rfl) (m1 (j := 22) rfl rfl) (m4 (j := 115) rfl rfl) (by decide +kernel)
theorem k_J7_304 : KS RJ7 304 yJ9_min_7cf53 cJ9_min_7cf53 2 (some .int) 2 := KS_of (m4 (j := 127) rfl rfl) (m2 (j := 14) rfl rfl) (m1 (j := 14) rfl rfl) (m2 (j := 15) rfl rfl) (by decide +kernel)
theorem k_J5_245 : KS RJ5 245 yJ6_stringSize_0f7a4 cJ6_stringSize_0f7a4 4 (some .int) 1 := KS_of (m4 (j := 191) rfl rfl) (m4 (j := 192) rfl rfl) (m1 (j := 26) rfl rfl) (m4 (j := 193) rfl rfl) (by decide +kernel)
theorem k_J5_248 : KS RJ5 248 yJ6_getChars_ba4f3 cJ6_getChars_ba4f3 7 (some .int) 3 := KS_of (m4 (j := 194) rfl rfl) (m4 (j := 195) rfl rfl) (m1 (j := 26) rfl rfl) (m4 (j := 196) rfl rfl) (by decide +kernel)
theorem k_J5_251 : KS RJ5 251 yJ2_getChars_46870 cJ2_getChars_46870 5 (some .int) 4 := KS_of (m4 (j := 201) rfl rfl) (m4 (j := 202) rfl rfl) (m1 (j := 8) rfl rfl) (m4 (j := 203) rfl rfl) (by decide +kernel)
theorem k_J5_131 : KI RJ5 131 yJx7c733_init_d00df cJx7c733_init_d00df 2 1 := KI_of (m4 (j := 83) rfl rfl) (m4 (j := 84) rfl rfl) (m1 (j := 24) rfl rfl) (m4 (j := 85) rfl rfl) (by decide +kernel)
theorem k_J5_133 : KS RJ5 133 yJ1_fillNull_b72d1 cJ1_fillNull_b72d1 3 none 3 := KS_of (m5 (j := 35) rfl rfl) (m5 (j := 36) rfl rfl) (m1 (j := 20) rfl rfl) (m5 (j := 37) rfl rfl) (by decide +kernel)
theorem k_J5_137 : KS RJ5 137 yJ2_fillNull_b72d1 cJ2_fillNull_b72d1 3 none 3 := KS_of (m5 (j := 70) rfl rfl) (m5 (j := 71) rfl rfl) (m1 (j := 8) rfl rfl) (m5 (j := 72) rfl rfl) (by decide +kernel)
theorem f_J5_73 : FL RJ5 73 1 2 := ⟨RJ4, TJ4, 4, rfl, in_J4, by decide, "java/lang/AbstractStringBuilder", m1 (j := 170) rfl rfl, rfl⟩
theorem k_J5_138 : KS RJ5 138 yJ9_min_7cf53 cJ9_min_7cf53 2 (some .int) 2 := KS_of (m4 (j := 62) rfl rfl) (m2 (j := 14) rfl rfl) (m1 (j := 14) rfl rfl) (m2 (j := 15) rfl rfl) (by decide +kernel)
theorem k_J5_144 : KS RJ5 144 yJ0_checkIndex_df160 cJ0_checkIndex_df160 2 none 2 := KS_of (m4 (j := 63) rfl rfl) (m4 (j := 14) rfl rfl) (m1 (j := 7) rfl rfl) (m4 (j := 15) rfl rfl) (by decide +kernel)
theorem k_J5_148 : KS RJ5 148 yJ2_getChar_3b067 cJ2_getChar_3b067 2 (some .char) 2 := KS_of (m4 (j := 64) rfl rfl) (m4 (j := 32) rfl rfl) (m1 (j := 8) rfl rfl) (m4 (j := 33) rfl rfl) (by decide +kernel)
theorem k_J0_1059 : KS RJ0 1059 yJ3_checkIndex_8e157 cJ3_checkIndex_8e157 3 (some .int) 3 := KS_of (m4 (j := 18) rfl rfl) (m4 (j := 19) rfl rfl) (m1 (j := 21) rfl rfl) (m4 (j := 20) rfl rfl) (by decide +kernel)
theorem k_J1_9 : KS RJ1 9 yJ0_checkIndex_df160 cJ0_checkIndex_df160 2 none 2 := KS_of (m4 (j := 13) rfl rfl) (m4 (j := 14) rfl rfl) (m1 (j := 7) rfl rfl) (m4 (j := 15) rfl rfl) (by decide +kernel)
theorem k_J0_335 : KV RJ0 335 RJ0 yJ0_coder_7d493 cJ0_coder_7d493 1 (some .byte) 0 := KV_of (m3 (j := 237) rfl rfl) (m3 (j := 238) rfl rfl) (m3 (j := 239) rfl rfl) (m1 (j := 7) rfl rfl) (m4 (j := 0) rfl rfl) (by decide +kernel)
theorem k_J0_492 : KV RJ0 492 RJ0 yJ0_isLatin1_aae02 cJ0_isLatin1_aae02 1 (some .boolean) 0 := KV_of (m4 (j := 6) rfl rfl) (m4 (j := 7) rfl rfl) (m4 (j := 8) rfl rfl) (m1 (j := 7) rfl rfl) (m4 (j := 9) rfl rfl) (by decide +kernel)
theorem k_J0_495 : KS RJ0 495 yJ1_charAt_3b067 cJ1_charAt_3b067 2 (some .char) 2 := KS_of (m4 (j := 10) rfl rfl) (m4 (j := 11) rfl rfl) (m1 (j := 20) rfl rfl) (m4 (j := 12) rfl rfl) (by decide +kernel)
theorem k_J0_498 : KS RJ0 498 yJ2_charAt_3b067 cJ2_charAt_3b067 2 (some .char) 2 := KS_of (m4 (j := 21) rfl rfl) (m4 (j := 22) rfl rfl) (m1 (j := 8) rfl rfl) (m4 (j := 23) rfl rfl) (by decide +kernel)
theorem kp_J5_100 : KP RJ5 100 yJ5_ensureCapacityInternal_d00df cJ5_ensureCapacityInternal_d00df 3 none 1 := KP_of (m4 (j := 100) rfl rfl) (m6 (j := 29) rfl rfl) (m4 (j := 102) rfl rfl) (m1 (j := 5) rfl rfl) (m4 (j := 103) rfl rfl) (n4 (j := 101) rfl rfl) (by decide +kernel)
theorem kp_J5_104 : KP RJ5 104 yJ5_newCapacity_0f7a4 cJ5_newCapacity_0f7a4 6 (some .int) 1 := KP_of (m4 (j := 104) rfl rfl) (m6 (j := 30) rfl rfl) (m4 (j := 106) rfl rfl) (m1 (j := 5) rfl rfl) (m4 (j := 107) rfl rfl) (n4 (j := 105) rfl rfl) (by decide +kernel)
theorem ku_J5_83 : KU RJ5 83 "java/lang/StringBuilder" "java/lang/AbstractStringBuilder" ⟨"java/lang/AbstractStringBuilder", "isLatin1", "()Z"⟩ yJ5_isLatin1_aae02 cJ5_isLatin1_aae02 1 (some .boolean) 0 := KU_of (m4 (j := 129) rfl rfl) (m4 (j := 131) rfl rfl) (m4 (j := 132) rfl rfl) (m4 (j := 130) rfl rfl) (m1 (j := 5) rfl rfl) (m4 (j := 133) rfl rfl) rfl (by decide +kernel)
theorem ksu_J4_50 : KSU RJ4 50 yJ5_append_3fe6f cJ5_append_3fe6f 2 (some (.object "java/lang/AbstractStringBuilder")) 1 := KSU_of (m5 (j := 158) rfl rfl) (m6 (j := 36) rfl rfl) (m1 (j := 181) rfl rfl) (m5 (j := 159) rfl rfl) (m1 (j := 5) rfl rfl) (m5 (j := 160) rfl rfl) (by decide +kernel)
theorem ksu_J4_53 : KSU RJ4 53 yJ5_append_c97b9 cJ5_append_c97b9 4 (some (.object "java/lang/AbstractStringBuilder")) 1 := KSU_of (m4 (j := 188) rfl rfl) (m6 (j := 34) rfl rfl) (m1 (j := 181) rfl rfl) (m4 (j := 189) rfl rfl) (m1 (j := 5) rfl rfl) (m4 (j := 190) rfl rfl) (by decide +kernel)
theorem ksu_J4_333 : KSU RJ4 333 yJ5_setLength_d00df cJ5_setLength_d00df 2 none 1 := KSU_of (m4 (j := 78) rfl rfl) (m6 (j := 26) rfl rfl) (m1 (j := 181) rfl rfl) (m4 (j := 79) rfl rfl) (m1 (j := 5) rfl rfl) (m4 (j := 80) rfl rfl) (by decide +kernel)
theorem ksu_J4_343 : KSU RJ4 343 yJ5_length_8abf5 cJ5_length_8abf5 1 (some .int) 0 := KSU_of (m4 (j := 52) rfl rfl) (m6 (j := 24) rfl rfl) (m1 (j := 181) rfl rfl) (m4 (j := 53) rfl rfl) (m1 (j := 5) rfl rfl) (m4 (j := 54) rfl rfl) (by decide +kernel)
theorem ksu_J4_329 : KSU RJ4 329 yJ5_charAt_5068e cJ5_charAt_5068e 5 (some .char) 1 := KSU_of (m4 (j := 59) rfl rfl) (m6 (j := 25) rfl rfl) (m1 (j := 181) rfl rfl) (m4 (j := 60) rfl rfl) (m1 (j := 5) rfl rfl) (m4 (j := 61) rfl rfl) (by decide +kernel)
theorem ksn_X1_32 : KSN RX1 32 "BowFoundry" yX5_copyRow cX5_copyRow 2 none 2 := KSN_of (n2 (j := 23) rfl rfl) (m1 (j := 1) rfl rfl) (m2 (j := 11) rfl rfl) (m2 (j := 12) rfl rfl) (by decide +kernel)
theorem ksn_X4_70 : KSN RX4 70 "BowFoundry" yX5_copyRow cX5_copyRow 2 none 2 := KSN_of (n2 (j := 10) rfl rfl) (m1 (j := 1) rfl rfl) (m2 (j := 11) rfl rfl) (m2 (j := 12) rfl rfl) (by decide +kernel)
theorem kin_X4_69 : KIN RX4 69 "BowFoundry" yX1_init cX1_init 1 0 := KIN_of (n1 (j := 49) rfl rfl) (m1 (j := 3) rfl rfl) (m1 (j := 50) rfl rfl) (m1 (j := 51) rfl rfl) (by decide +kernel)
theorem kin_X5_22 : KIN RX5 22 "BowFoundry" yX3_init cX3_init 1 0 := KIN_of (n1 (j := 146) rfl rfl) (m1 (j := 4) rfl rfl) (m1 (j := 147) rfl rfl) (m1 (j := 148) rfl rfl) (by decide +kernel)
