/-! facts of String as an object -/
def KO (own : String) (index : Nat) (C owner : String) (x y : MethodName) (cc : ByteArray) (maxL : Nat) (ret : Option FieldType) (na : Nat) : Prop := GoodIn T0 (va_wsO own index C owner x y (wO y cc maxL ret)) ∧ (∃ (b0 : ByteArray) (m0 : Nat) (r0 : Option FieldType), Cond.code ⟨owner, x.name, x.desc⟩ b0 m0 r0 ∈ T0) ∧ owner ≠ "java/lang/invoke/MethodHandle" ∧ owner ≠ "java/lang/invoke/VarHandle" ∧ (parseMethodDescriptor x.desc).map (fun d => d.parameters.length) = some na
theorem KO_of {own C owner : String} {index : Nat} {x y : MethodName} {cc : ByteArray} {maxL : Nat} {ret : Option FieldType} {na : Nat} {b0 : ByteArray} {m0 : Nat} {r0 : Option FieldType} (h1 : Cond.methodLink own index x ∈ T0) (h2 : Cond.sameMethod x.cls owner x.name x.desc ∈ T0) (h9 : Cond.instanceMethod ⟨owner, x.name, x.desc⟩ ∈ T0) (h3 : Cond.selects C x y ∈ T0) (h4 : Cond.instanceMethod y ∈ T0) (h5 : Cond.initialized y.cls ∈ T0) (h6 : Cond.code y cc maxL ret ∈ T0) (h7 : Cond.code ⟨owner, x.name, x.desc⟩ b0 m0 r0 ∈ T0) (h8 : owner ≠ "java/lang/invoke/MethodHandle" ∧ owner ≠ "java/lang/invoke/VarHandle" ∧ (parseMethodDescriptor x.desc).map (fun d => d.parameters.length) = some na) : KO own index C owner x y cc maxL ret na :=
  ⟨gT0 (fun w hw => by
    rcases List.mem_append.mp hw with h | h
    · simp only [List.mem_cons, List.not_mem_nil, or_false] at h
      rcases h with rfl | rfl | rfl | rfl | rfl | rfl <;> assumption
    · exact gO h6 w h), ⟨_, _, _, h7⟩, h8⟩
theorem fw_J0_0 : FW 0 0 true (.array .byte) := ⟨RJ0, TJ0, 4, rfl, tyJ0, tyJ0_ok, nmJ0, rfl, by decide +kernel⟩
theorem fw_J0_1 : FW 0 1 true .byte := ⟨RJ0, TJ0, 4, rfl, tyJ0, tyJ0_ok, nmJ0, rfl, by decide +kernel⟩
theorem fw_J0_2 : FW 0 2 false .int := ⟨RJ0, TJ0, 4, rfl, tyJ0, tyJ0_ok, nmJ0, rfl, by decide +kernel⟩
theorem fw_J0_3 : FW 0 3 false .boolean := ⟨RJ0, TJ0, 4, rfl, tyJ0, tyJ0_ok, nmJ0, rfl, by decide +kernel⟩
theorem f_J0_15 : FL RJ0 15 0 1 := ⟨RJ0, TJ0, 4, rfl, in_J0, by decide, "java/lang/String", m5 (j := 17) rfl rfl, rfl⟩
theorem k_J0_54 : KS RJ0 54 yJ7_copyOfRange_39247 cJ7_copyOfRange_39247 3 (some (.array .byte)) 3 := KS_of (m4 (j := 229) rfl rfl) (m4 (j := 230) rfl rfl) (m1 (j := 23) rfl rfl) (m4 (j := 231) rfl rfl) (by decide +kernel)
theorem f_J0_9 : FL RJ0 9 0 0 := ⟨RJ0, TJ0, 4, rfl, in_J0, by decide, "java/lang/String", m5 (j := 16) rfl rfl, rfl⟩
theorem f_J0_1048 : FL RJ0 1048 1 2 := ⟨RJ4, TJ4, 4, rfl, in_J4, by decide, "java/lang/AbstractStringBuilder", m1 (j := 171) rfl rfl, rfl⟩
theorem k_J0_1051 : KS RJ0 1051 yJ2_compress_39247 cJ2_compress_39247 6 (some (.array .byte)) 3 := KS_of (m5 (j := 6) rfl rfl) (m5 (j := 7) rfl rfl) (m1 (j := 8) rfl rfl) (m5 (j := 8) rfl rfl) (by decide +kernel)
theorem k_J0_47 : KS RJ0 47 yJ2_coderFromArrayLen_85cad cJ2_coderFromArrayLen_85cad 2 (some .byte) 2 := KS_of (m5 (j := 13) rfl rfl) (m5 (j := 14) rfl rfl) (m1 (j := 8) rfl rfl) (m5 (j := 15) rfl rfl) (by decide +kernel)
theorem k_J0_489 : KI RJ0 489 yJ0_init_db425 cJ0_init_db425 5 2 := KI_of (m4 (j := 218) rfl rfl) (m4 (j := 219) rfl rfl) (m1 (j := 7) rfl rfl) (m4 (j := 220) rfl rfl) (by decide +kernel)
theorem cl_J4_18 : CL RJ4 18 0 4 [.null, .int 0, .int 0, .int 0] := ⟨RJ0, TJ0, rfl, in_J0, ⟨tyJ0, tyJ0_ok, fun j hj => by
  match j, hj with
  | 0, _ => rfl
  | 1, _ => rfl
  | 2, _ => rfl
  | 3, _ => rfl
  | j + 4, h => exact absurd h (by omega)⟩, m4 (j := 213) rfl rfl, m4 (j := 214) rfl rfl, m1 (j := 7) rfl rfl⟩
theorem k_J4_137 : KI RJ4 137 yJ0_init_81219 cJ0_init_81219 2 1 := KI_of (m4 (j := 215) rfl rfl) (m4 (j := 216) rfl rfl) (m1 (j := 7) rfl rfl) (m4 (j := 217) rfl rfl) (by decide +kernel)
theorem k_J5_32 : KV RJ5 32 RJ0 yJ0_length_8abf5 cJ0_length_8abf5 1 (some .int) 0 := KV_of (m4 (j := 149) rfl rfl) (m3 (j := 234) rfl rfl) (m3 (j := 235) rfl rfl) (m1 (j := 7) rfl rfl) (m3 (j := 236) rfl rfl) (by decide +kernel)
theorem k_J5_399 : KV RJ5 399 RJ0 yJ0_getBytes_840e7 cJ0_getBytes_840e7 4 none 3 := KV_of (m4 (j := 178) rfl rfl) (m4 (j := 179) rfl rfl) (m4 (j := 180) rfl rfl) (m1 (j := 7) rfl rfl) (m4 (j := 181) rfl rfl) (by decide +kernel)
theorem k_J5_40 : KV RJ5 40 RJ0 yJ0_coder_7d493 cJ0_coder_7d493 1 (some .byte) 0 := KV_of (m4 (j := 158) rfl rfl) (m3 (j := 238) rfl rfl) (m3 (j := 239) rfl rfl) (m1 (j := 7) rfl rfl) (m4 (j := 0) rfl rfl) (by decide +kernel)
theorem k_J0_106 : KS RJ0 106 yJ1_inflate_0e8fd cJ1_inflate_0e8fd 5 none 5 := KS_of (m4 (j := 183) rfl rfl) (m4 (j := 164) rfl rfl) (m1 (j := 20) rfl rfl) (m4 (j := 165) rfl rfl) (by decide +kernel)
theorem k_J7_339 : KS RJ7 339 yJ7_copyOfRangeByte_39247 cJ7_copyOfRangeByte_39247 5 (some (.array .byte)) 3 := KS_of (m4 (j := 232) rfl rfl) (m4 (j := 233) rfl rfl) (m1 (j := 23) rfl rfl) (m4 (j := 234) rfl rfl) (by decide +kernel)
theorem k_J7_343 : KS RJ7 343 yJ7_checkLength_df160 cJ7_checkLength_df160 2 none 2 := KS_of (m4 (j := 235) rfl rfl) (m4 (j := 236) rfl rfl) (m1 (j := 23) rfl rfl) (m4 (j := 237) rfl rfl) (by decide +kernel)
theorem k_J7_47 : KI RJ7 47 yJ4_init_da8c8 cJ4_init_da8c8 1 0 := KI_of (m5 (j := 0) rfl rfl) (m1 (j := 153) rfl rfl) (m1 (j := 6) rfl rfl) (m1 (j := 154) rfl rfl) (by decide +kernel)
theorem k_J7_54 : KV RJ7 54 RJ4 yJ4_append_bf812 cJ4_append_bf812 2 (some (.object "java/lang/StringBuilder")) 1 := KV_of (m5 (j := 1) rfl rfl) (m4 (j := 185) rfl rfl) (m4 (j := 186) rfl rfl) (m1 (j := 6) rfl rfl) (m4 (j := 187) rfl rfl) (by decide +kernel)
theorem k_J7_50 : KV RJ7 50 RJ4 yJ4_append_15ec4 cJ4_append_15ec4 2 (some (.object "java/lang/StringBuilder")) 1 := KV_of (m5 (j := 3) rfl rfl) (m4 (j := 90) rfl rfl) (m4 (j := 91) rfl rfl) (m1 (j := 6) rfl rfl) (m4 (j := 92) rfl rfl) (by decide +kernel)
theorem k_J7_61 : KV RJ7 61 RJ4 yJ4_toString_0e30d cJ4_toString_0e30d 1 (some (.object "java/lang/String")) 0 := KV_of (m5 (j := 4) rfl rfl) (m4 (j := 210) rfl rfl) (m4 (j := 211) rfl rfl) (m1 (j := 6) rfl rfl) (m4 (j := 212) rfl rfl) (by decide +kernel)
theorem ksu_J4_29 : KSU RJ4 29 yJ5_append_cf1ce cJ5_append_cf1ce 3 (some (.object "java/lang/AbstractStringBuilder")) 1 := KSU_of (m4 (j := 93) rfl rfl) (m6 (j := 27) rfl rfl) (m1 (j := 181) rfl rfl) (m4 (j := 94) rfl rfl) (m1 (j := 5) rfl rfl) (m4 (j := 95) rfl rfl) (by decide +kernel)
theorem kp_J5_208 : KP RJ5 208 yJ5_putStringAt_47b60 cJ5_putStringAt_47b60 3 none 2 := KP_of (m4 (j := 150) rfl rfl) (m6 (j := 31) rfl rfl) (m4 (j := 152) rfl rfl) (m1 (j := 5) rfl rfl) (m4 (j := 153) rfl rfl) (n4 (j := 151) rfl rfl) (by decide +kernel)
theorem kp_J5_397 : KP RJ5 397 yJ5_inflateIfNeededFor_a7421 cJ5_inflateIfNeededFor_a7421 2 none 1 := KP_of (m4 (j := 154) rfl rfl) (m6 (j := 32) rfl rfl) (m4 (j := 156) rfl rfl) (m1 (j := 5) rfl rfl) (m4 (j := 157) rfl rfl) (n4 (j := 155) rfl rfl) (by decide +kernel)
theorem ku_J0_552 : KU RJ0 552 "java/lang/StringBuilder" "java/lang/AbstractStringBuilder" ⟨"java/lang/AbstractStringBuilder", "getValue", "()[B"⟩ yJ5_getValue_6d5f1 cJ5_getValue_6d5f1 1 (some (.array .byte)) 0 := KU_of (m4 (j := 222) rfl rfl) (m4 (j := 224) rfl rfl) (m4 (j := 225) rfl rfl) (m4 (j := 223) rfl rfl) (m1 (j := 5) rfl rfl) (m4 (j := 226) rfl rfl) rfl (by decide +kernel)
theorem ku_J0_1047 : KU RJ0 1047 "java/lang/StringBuilder" "java/lang/AbstractStringBuilder" ⟨"java/lang/AbstractStringBuilder", "isLatin1", "()Z"⟩ yJ5_isLatin1_aae02 cJ5_isLatin1_aae02 1 (some .boolean) 0 := KU_of (m4 (j := 228) rfl rfl) (m4 (j := 131) rfl rfl) (m4 (j := 132) rfl rfl) (m4 (j := 130) rfl rfl) (m1 (j := 5) rfl rfl) (m4 (j := 133) rfl rfl) rfl (by decide +kernel)
theorem ko_J0_549 : KO RJ0 549 "java/lang/StringBuilder" "java/lang/AbstractStringBuilder" ⟨"java/lang/AbstractStringBuilder", "length", "()I"⟩ yJ4_length_8abf5 cJ4_length_8abf5 1 (some .int) 0 := KO_of (m4 (j := 227) rfl rfl) (m6 (j := 24) rfl rfl) (m4 (j := 53) rfl rfl) (m6 (j := 35) rfl rfl) (m4 (j := 49) rfl rfl) (m1 (j := 6) rfl rfl) (m4 (j := 51) rfl rfl) (m4 (j := 54) rfl rfl) (by decide +kernel)
