-- what the pool entries of the own classes mean (laid by a program)
theorem in_X1 : ∀ w ∈ u_ws RX1 TX1 6, w ∈ T0 := by
  intro w h
  obtain ⟨k, hk, rfl⟩ := List.mem_map.mp h
  have hk := List.mem_range.mp hk
  match k, hk with
  | 0, _ => exact m1 (j := 69) rfl rfl
  | 1, _ => exact m1 (j := 71) rfl rfl
  | 2, _ => exact m1 (j := 73) rfl rfl
  | 3, _ => exact m1 (j := 75) rfl rfl
  | 4, _ => exact m1 (j := 77) rfl rfl
  | 5, _ => exact m1 (j := 79) rfl rfl
  | k + 6, h => exact absurd h (by omega)
theorem fw_X1_0 : FW 4 0 false .int := ⟨RX1, TX1, 6, rfl, tyX1, tyX1_ok, nmX1, rfl, by decide +kernel⟩
theorem fw_X1_1 : FW 4 1 false .int := ⟨RX1, TX1, 6, rfl, tyX1, tyX1_ok, nmX1, rfl, by decide +kernel⟩
theorem fw_X1_2 : FW 4 2 false .int := ⟨RX1, TX1, 6, rfl, tyX1, tyX1_ok, nmX1, rfl, by decide +kernel⟩
theorem fw_X1_3 : FW 4 3 false .int := ⟨RX1, TX1, 6, rfl, tyX1, tyX1_ok, nmX1, rfl, by decide +kernel⟩
theorem fw_X1_4 : FW 4 4 false .boolean := ⟨RX1, TX1, 6, rfl, tyX1, tyX1_ok, nmX1, rfl, by decide +kernel⟩
theorem fw_X1_5 : FW 4 5 true (.array .int) := ⟨RX1, TX1, 6, rfl, tyX1, tyX1_ok, nmX1, rfl, by decide +kernel⟩
theorem in_X3 : ∀ w ∈ u_ws RX3 TX3 5, w ∈ T0 := by
  intro w h
  obtain ⟨k, hk, rfl⟩ := List.mem_map.mp h
  have hk := List.mem_range.mp hk
  match k, hk with
  | 0, _ => exact m1 (j := 189) rfl rfl
  | 1, _ => exact m1 (j := 191) rfl rfl
  | 2, _ => exact m1 (j := 193) rfl rfl
  | 3, _ => exact m1 (j := 195) rfl rfl
  | 4, _ => exact m1 (j := 197) rfl rfl
  | k + 5, h => exact absurd h (by omega)
theorem fw_X3_0 : FW 5 0 true (.object "java/lang/StringBuilder") := ⟨RX3, TX3, 5, rfl, tyX3, tyX3_ok, nmX3, rfl, by decide +kernel⟩
theorem fw_X3_1 : FW 5 1 true (.array .int) := ⟨RX3, TX3, 5, rfl, tyX3, tyX3_ok, nmX3, rfl, by decide +kernel⟩
theorem fw_X3_2 : FW 5 2 false .int := ⟨RX3, TX3, 5, rfl, tyX3, tyX3_ok, nmX3, rfl, by decide +kernel⟩
theorem fw_X3_3 : FW 5 3 false .int := ⟨RX3, TX3, 5, rfl, tyX3, tyX3_ok, nmX3, rfl, by decide +kernel⟩
theorem fw_X3_4 : FW 5 4 false .int := ⟨RX3, TX3, 5, rfl, tyX3, tyX3_ok, nmX3, rfl, by decide +kernel⟩
theorem in_X4 : ∀ w ∈ u_ws RX4 TX4 17, w ∈ T0 := by
  intro w h
  obtain ⟨k, hk, rfl⟩ := List.mem_map.mp h
  have hk := List.mem_range.mp hk
  match k, hk with
  | 0, _ => exact m1 (j := 109) rfl rfl
  | 1, _ => exact m1 (j := 111) rfl rfl
  | 2, _ => exact m1 (j := 113) rfl rfl
  | 3, _ => exact m1 (j := 115) rfl rfl
  | 4, _ => exact m1 (j := 117) rfl rfl
  | 5, _ => exact m1 (j := 119) rfl rfl
  | 6, _ => exact m1 (j := 121) rfl rfl
  | 7, _ => exact m1 (j := 123) rfl rfl
  | 8, _ => exact m1 (j := 125) rfl rfl
  | 9, _ => exact m1 (j := 127) rfl rfl
  | 10, _ => exact m1 (j := 129) rfl rfl
  | 11, _ => exact m1 (j := 131) rfl rfl
  | 12, _ => exact m1 (j := 133) rfl rfl
  | 13, _ => exact m1 (j := 135) rfl rfl
  | 14, _ => exact m1 (j := 137) rfl rfl
  | 15, _ => exact m1 (j := 139) rfl rfl
  | 16, _ => exact m1 (j := 141) rfl rfl
  | k + 17, h => exact absurd h (by omega)
theorem fw_X4_0 : FW 6 0 false .int := ⟨RX4, TX4, 17, rfl, tyX4, tyX4_ok, nmX4, rfl, by decide +kernel⟩
theorem fw_X4_1 : FW 6 1 true (.array (.array .int)) := ⟨RX4, TX4, 17, rfl, tyX4, tyX4_ok, nmX4, rfl, by decide +kernel⟩
theorem fw_X4_2 : FW 6 2 false .int := ⟨RX4, TX4, 17, rfl, tyX4, tyX4_ok, nmX4, rfl, by decide +kernel⟩
theorem fw_X4_3 : FW 6 3 true (.array .int) := ⟨RX4, TX4, 17, rfl, tyX4, tyX4_ok, nmX4, rfl, by decide +kernel⟩
theorem fw_X4_4 : FW 6 4 true (.array .int) := ⟨RX4, TX4, 17, rfl, tyX4, tyX4_ok, nmX4, rfl, by decide +kernel⟩
theorem fw_X4_5 : FW 6 5 true (.array .int) := ⟨RX4, TX4, 17, rfl, tyX4, tyX4_ok, nmX4, rfl, by decide +kernel⟩
theorem fw_X4_6 : FW 6 6 true (.array .int) := ⟨RX4, TX4, 17, rfl, tyX4, tyX4_ok, nmX4, rfl, by decide +kernel⟩
theorem fw_X4_7 : FW 6 7 true (.array .int) := ⟨RX4, TX4, 17, rfl, tyX4, tyX4_ok, nmX4, rfl, by decide +kernel⟩
theorem fw_X4_8 : FW 6 8 true (.array .int) := ⟨RX4, TX4, 17, rfl, tyX4, tyX4_ok, nmX4, rfl, by decide +kernel⟩
theorem fw_X4_9 : FW 6 9 false .int := ⟨RX4, TX4, 17, rfl, tyX4, tyX4_ok, nmX4, rfl, by decide +kernel⟩
theorem fw_X4_10 : FW 6 10 false .int := ⟨RX4, TX4, 17, rfl, tyX4, tyX4_ok, nmX4, rfl, by decide +kernel⟩
theorem fw_X4_11 : FW 6 11 false .int := ⟨RX4, TX4, 17, rfl, tyX4, tyX4_ok, nmX4, rfl, by decide +kernel⟩
theorem fw_X4_12 : FW 6 12 true (.array (.object "BowFoundry$Batch")) := ⟨RX4, TX4, 17, rfl, tyX4, tyX4_ok, nmX4, rfl, by decide +kernel⟩
theorem fw_X4_13 : FW 6 13 false .int := ⟨RX4, TX4, 17, rfl, tyX4, tyX4_ok, nmX4, rfl, by decide +kernel⟩
theorem fw_X4_14 : FW 6 14 false .int := ⟨RX4, TX4, 17, rfl, tyX4, tyX4_ok, nmX4, rfl, by decide +kernel⟩
theorem fw_X4_15 : FW 6 15 false .int := ⟨RX4, TX4, 17, rfl, tyX4, tyX4_ok, nmX4, rfl, by decide +kernel⟩
theorem fw_X4_16 : FW 6 16 false .int := ⟨RX4, TX4, 17, rfl, tyX4, tyX4_ok, nmX4, rfl, by decide +kernel⟩
theorem in_X5 : ∀ w ∈ u_ws RX5 TX5 9, w ∈ T0 := by
  intro w h
  obtain ⟨k, hk, rfl⟩ := List.mem_map.mp h
  have hk := List.mem_range.mp hk
  match k, hk with
  | 0, _ => exact m1 (j := 211) rfl rfl
  | 1, _ => exact m1 (j := 213) rfl rfl
  | 2, _ => exact m1 (j := 215) rfl rfl
  | 3, _ => exact m1 (j := 217) rfl rfl
  | 4, _ => exact m1 (j := 219) rfl rfl
  | 5, _ => exact m1 (j := 221) rfl rfl
  | 6, _ => exact m1 (j := 223) rfl rfl
  | 7, _ => exact m1 (j := 225) rfl rfl
  | 8, _ => exact m1 (j := 227) rfl rfl
  | k + 9, h => exact absurd h (by omega)
theorem fw_X5_0 : FW 7 0 true (.array (.object "BowFoundry$State")) := ⟨RX5, TX5, 9, rfl, tyX5, tyX5_ok, nmX5, rfl, by decide +kernel⟩
theorem fw_X5_1 : FW 7 1 true (.object "BowFoundry$State") := ⟨RX5, TX5, 9, rfl, tyX5, tyX5_ok, nmX5, rfl, by decide +kernel⟩
theorem fw_X5_2 : FW 7 2 true (.object "BowFoundry$Script") := ⟨RX5, TX5, 9, rfl, tyX5, tyX5_ok, nmX5, rfl, by decide +kernel⟩
theorem fw_X5_3 : FW 7 3 true (.object "java/lang/StringBuilder") := ⟨RX5, TX5, 9, rfl, tyX5, tyX5_ok, nmX5, rfl, by decide +kernel⟩
theorem fw_X5_4 : FW 7 4 false .int := ⟨RX5, TX5, 9, rfl, tyX5, tyX5_ok, nmX5, rfl, by decide +kernel⟩
theorem fw_X5_5 : FW 7 5 false .int := ⟨RX5, TX5, 9, rfl, tyX5, tyX5_ok, nmX5, rfl, by decide +kernel⟩
theorem fw_X5_6 : FW 7 6 false .boolean := ⟨RX5, TX5, 9, rfl, tyX5, tyX5_ok, nmX5, rfl, by decide +kernel⟩
theorem fw_X5_7 : FW 7 7 false .int := ⟨RX5, TX5, 9, rfl, tyX5, tyX5_ok, nmX5, rfl, by decide +kernel⟩
theorem fw_X5_8 : FW 7 8 false .int := ⟨RX5, TX5, 9, rfl, tyX5, tyX5_ok, nmX5, rfl, by decide +kernel⟩
theorem in_J4 : ∀ w ∈ u_ws RJ4 TJ4 4, w ∈ T0 := by
  intro w h
  obtain ⟨k, hk, rfl⟩ := List.mem_map.mp h
  have hk := List.mem_range.mp hk
  match k, hk with
  | 0, _ => exact m1 (j := 173) rfl rfl
  | 1, _ => exact m1 (j := 175) rfl rfl
  | 2, _ => exact m1 (j := 177) rfl rfl
  | 3, _ => exact m1 (j := 179) rfl rfl
  | k + 4, h => exact absurd h (by omega)
theorem fw_J4_0 : FW 1 0 false (.array .byte) := ⟨RJ4, TJ4, 4, rfl, tyJ4, tyJ4_ok, nmJ4, rfl, by decide +kernel⟩
theorem fw_J4_1 : FW 1 1 false .byte := ⟨RJ4, TJ4, 4, rfl, tyJ4, tyJ4_ok, nmJ4, rfl, by decide +kernel⟩
theorem fw_J4_2 : FW 1 2 false .boolean := ⟨RJ4, TJ4, 4, rfl, tyJ4, tyJ4_ok, nmJ4, rfl, by decide +kernel⟩
theorem fw_J4_3 : FW 1 3 false .int := ⟨RJ4, TJ4, 4, rfl, tyJ4, tyJ4_ok, nmJ4, rfl, by decide +kernel⟩
theorem f_X1_9 : FL RX1 9 4 0 := ⟨RX1, TX1, 6, rfl, in_X1, by decide, "BowFoundry$Batch", m1 (j := 53) rfl rfl, rfl⟩
theorem f_X1_15 : FL RX1 15 4 1 := ⟨RX1, TX1, 6, rfl, in_X1, by decide, "BowFoundry$Batch", m1 (j := 56) rfl rfl, rfl⟩
theorem f_X1_18 : FL RX1 18 4 2 := ⟨RX1, TX1, 6, rfl, in_X1, by decide, "BowFoundry$Batch", m1 (j := 59) rfl rfl, rfl⟩
theorem f_X1_21 : FL RX1 21 4 3 := ⟨RX1, TX1, 6, rfl, in_X1, by decide, "BowFoundry$Batch", m1 (j := 62) rfl rfl, rfl⟩
theorem f_X1_24 : FL RX1 24 4 4 := ⟨RX1, TX1, 6, rfl, in_X1, by decide, "BowFoundry$Batch", m1 (j := 64) rfl rfl, rfl⟩
theorem f_X1_28 : FL RX1 28 4 5 := ⟨RX1, TX1, 6, rfl, in_X1, by decide, "BowFoundry$Batch", m1 (j := 67) rfl rfl, rfl⟩
theorem k_X1_36 : KV RX1 36 RX1 yX1_goodSampled cX1_goodSampled 6 (some .int) 2 := KV_of (m2 (j := 209) rfl rfl) (m2 (j := 210) rfl rfl) (m2 (j := 211) rfl rfl) (m1 (j := 3) rfl rfl) (m2 (j := 212) rfl rfl) (by decide +kernel)
theorem k_X1_40 : KV RX1 40 RX1 yX1_sampled cX1_sampled 2 (some .int) 1 := KV_of (m2 (j := 213) rfl rfl) (m2 (j := 214) rfl rfl) (m2 (j := 215) rfl rfl) (m1 (j := 3) rfl rfl) (m2 (j := 216) rfl rfl) (by decide +kernel)
theorem k_X1_44 : KV RX1 44 RX1 yX1_passes cX1_passes 3 (some .boolean) 2 := KV_of (m3 (j := 116) rfl rfl) (m2 (j := 206) rfl rfl) (m2 (j := 207) rfl rfl) (m1 (j := 3) rfl rfl) (m2 (j := 208) rfl rfl) (by decide +kernel)
theorem cl_X3_9 : CL RX3 9 1 4 [.null, .int 0, .int 0, .int 0] := ⟨RJ4, TJ4, rfl, in_J4, ⟨tyJ4, tyJ4_ok, fun j hj => by
  match j, hj with
  | 0, _ => rfl
  | 1, _ => rfl
  | 2, _ => rfl
  | 3, _ => rfl
  | j + 4, h => exact absurd h (by omega)⟩, m1 (j := 150) rfl rfl, m1 (j := 151) rfl rfl, m1 (j := 6) rfl rfl⟩
theorem k_X3_11 : KI RX3 11 yJ4_init_da8c8 cJ4_init_da8c8 1 0 := KI_of (m1 (j := 152) rfl rfl) (m1 (j := 153) rfl rfl) (m1 (j := 6) rfl rfl) (m1 (j := 154) rfl rfl) (by decide +kernel)
theorem f_X3_12 : FL RX3 12 5 0 := ⟨RX3, TX3, 5, rfl, in_X3, by decide, "BowFoundry$Script", m1 (j := 183) rfl rfl, rfl⟩
theorem f_X3_18 : FL RX3 18 5 1 := ⟨RX3, TX3, 5, rfl, in_X3, by decide, "BowFoundry$Script", m1 (j := 184) rfl rfl, rfl⟩
theorem f_X3_22 : FL RX3 22 5 2 := ⟨RX3, TX3, 5, rfl, in_X3, by decide, "BowFoundry$Script", m1 (j := 185) rfl rfl, rfl⟩
theorem f_X3_26 : FL RX3 26 5 3 := ⟨RX3, TX3, 5, rfl, in_X3, by decide, "BowFoundry$Script", m1 (j := 186) rfl rfl, rfl⟩
theorem f_X3_29 : FL RX3 29 5 4 := ⟨RX3, TX3, 5, rfl, in_X3, by decide, "BowFoundry$Script", m1 (j := 187) rfl rfl, rfl⟩
theorem k_X3_32 : KV RX3 32 RJ4 yJ4_length_8abf5 cJ4_length_8abf5 1 (some .int) 0 := KV_of (m4 (j := 48) rfl rfl) (m4 (j := 49) rfl rfl) (m4 (j := 50) rfl rfl) (m1 (j := 6) rfl rfl) (m4 (j := 51) rfl rfl) (by decide +kernel)
theorem k_X3_36 : KV RX3 36 RJ4 yJ4_append_cf468 cJ4_append_cf468 2 (some (.object "java/lang/StringBuilder")) 1 := KV_of (m5 (j := 154) rfl rfl) (m5 (j := 155) rfl rfl) (m5 (j := 156) rfl rfl) (m1 (j := 6) rfl rfl) (m5 (j := 157) rfl rfl) (by decide +kernel)
theorem k_X3_40 : KV RX3 40 RJ4 yJ4_setLength_d00df cJ4_setLength_d00df 2 none 1 := KV_of (m4 (j := 74) rfl rfl) (m4 (j := 75) rfl rfl) (m4 (j := 76) rfl rfl) (m1 (j := 6) rfl rfl) (m4 (j := 77) rfl rfl) (by decide +kernel)
theorem k_X3_44 : KV RX3 44 RX3 yX3_nextCommand cX3_nextCommand 4 (some (.object "BowFoundry$Command")) 0 := KV_of (m3 (j := 223) rfl rfl) (m3 (j := 224) rfl rfl) (m3 (j := 225) rfl rfl) (m1 (j := 4) rfl rfl) (m3 (j := 226) rfl rfl) (by decide +kernel)
theorem k_X3_48 : KV RX3 48 RX3 yX3_takes cX3_takes 2 (some .boolean) 1 := KV_of (m4 (j := 65) rfl rfl) (m4 (j := 66) rfl rfl) (m4 (j := 67) rfl rfl) (m1 (j := 4) rfl rfl) (m4 (j := 68) rfl rfl) (by decide +kernel)
theorem k_X3_52 : KV RX3 52 RX3 yX3_run cX3_run 3 (some .int) 2 := KV_of (m5 (j := 79) rfl rfl) (m5 (j := 80) rfl rfl) (m5 (j := 81) rfl rfl) (m1 (j := 4) rfl rfl) (m5 (j := 82) rfl rfl) (by decide +kernel)
theorem k_X3_66 : KV RX3 66 RX4 yX4_mixAlloy cX4_mixAlloy 4 (some .int) 3 := KV_of (m5 (j := 91) rfl rfl) (m5 (j := 92) rfl rfl) (m5 (j := 93) rfl rfl) (m1 (j := 2) rfl rfl) (m5 (j := 94) rfl rfl) (by decide +kernel)
theorem k_X3_72 : KV RX3 72 RX4 yX4_placeMould cX4_placeMould 2 (some .int) 1 := KV_of (m5 (j := 98) rfl rfl) (m5 (j := 99) rfl rfl) (m5 (j := 100) rfl rfl) (m1 (j := 2) rfl rfl) (m5 (j := 101) rfl rfl) (by decide +kernel)
theorem k_X3_76 : KV RX3 76 RX4 yX4_takeIn cX4_takeIn 3 (some .int) 2 := KV_of (m5 (j := 102) rfl rfl) (m5 (j := 103) rfl rfl) (m5 (j := 104) rfl rfl) (m1 (j := 2) rfl rfl) (m5 (j := 105) rfl rfl) (by decide +kernel)
theorem k_X3_80 : KV RX3 80 RX4 yX4_pour cX4_pour 5 (some .int) 3 := KV_of (m5 (j := 106) rfl rfl) (m2 (j := 25) rfl rfl) (m2 (j := 26) rfl rfl) (m1 (j := 2) rfl rfl) (m2 (j := 27) rfl rfl) (by decide +kernel)
theorem k_X3_83 : KV RX3 83 RX4 yX4_examine cX4_examine 5 (some .int) 1 := KV_of (m5 (j := 107) rfl rfl) (m2 (j := 198) rfl rfl) (m2 (j := 199) rfl rfl) (m1 (j := 2) rfl rfl) (m2 (j := 200) rfl rfl) (by decide +kernel)
theorem k_X3_86 : KV RX3 86 RX4 yX4_meltDown cX4_meltDown 8 (some .int) 1 := KV_of (m5 (j := 108) rfl rfl) (m2 (j := 226) rfl rfl) (m2 (j := 227) rfl rfl) (m1 (j := 2) rfl rfl) (m2 (j := 228) rfl rfl) (by decide +kernel)
theorem k_X3_89 : KV RX3 89 RX4 yX4_resetUses cX4_resetUses 3 (some .int) 1 := KV_of (m5 (j := 109) rfl rfl) (m2 (j := 237) rfl rfl) (m2 (j := 238) rfl rfl) (m1 (j := 2) rfl rfl) (m2 (j := 239) rfl rfl) (by decide +kernel)
theorem k_X3_92 : KV RX3 92 RX4 yX4_changeTolerance cX4_changeTolerance 3 (some .int) 1 := KV_of (m5 (j := 110) rfl rfl) (m3 (j := 5) rfl rfl) (m3 (j := 6) rfl rfl) (m1 (j := 2) rfl rfl) (m3 (j := 7) rfl rfl) (by decide +kernel)
theorem k_X3_95 : KV RX3 95 RX4 yX4_changeStep cX4_changeStep 3 (some .int) 1 := KV_of (m5 (j := 111) rfl rfl) (m3 (j := 13) rfl rfl) (m3 (j := 14) rfl rfl) (m1 (j := 2) rfl rfl) (m3 (j := 15) rfl rfl) (by decide +kernel)
theorem k_X3_106 : KV RX3 106 RX3 yX3_takesForm cX3_takesForm 5 (some .boolean) 1 := KV_of (m3 (j := 229) rfl rfl) (m3 (j := 230) rfl rfl) (m3 (j := 231) rfl rfl) (m1 (j := 4) rfl rfl) (m3 (j := 232) rfl rfl) (by decide +kernel)
theorem k_X3_110 : KS RX3 110 yJ9_max_7cf53 cJ9_max_7cf53 2 (some .int) 2 := KS_of (m4 (j := 69) rfl rfl) (m2 (j := 230) rfl rfl) (m1 (j := 14) rfl rfl) (m2 (j := 231) rfl rfl) (by decide +kernel)
theorem k_X3_115 : KV RX3 115 RJ0 yJ0_length_8abf5 cJ0_length_8abf5 1 (some .int) 0 := KV_of (m3 (j := 233) rfl rfl) (m3 (j := 234) rfl rfl) (m3 (j := 235) rfl rfl) (m1 (j := 7) rfl rfl) (m3 (j := 236) rfl rfl) (by decide +kernel)
theorem k_X3_118 : KV RX3 118 RJ0 yJ0_charAt_5068e cJ0_charAt_5068e 2 (some .char) 1 := KV_of (m4 (j := 2) rfl rfl) (m4 (j := 3) rfl rfl) (m4 (j := 4) rfl rfl) (m1 (j := 7) rfl rfl) (m4 (j := 5) rfl rfl) (by decide +kernel)
theorem k_X3_122 : KV RX3 122 RX3 yX3_takesNumber cX3_takesNumber 4 (some .boolean) 1 := KV_of (m4 (j := 40) rfl rfl) (m4 (j := 41) rfl rfl) (m4 (j := 42) rfl rfl) (m1 (j := 4) rfl rfl) (m4 (j := 43) rfl rfl) (by decide +kernel)
theorem k_X3_126 : KV RX3 126 RJ4 yJ4_charAt_5068e cJ4_charAt_5068e 2 (some .char) 1 := KV_of (m4 (j := 55) rfl rfl) (m4 (j := 56) rfl rfl) (m4 (j := 57) rfl rfl) (m1 (j := 6) rfl rfl) (m4 (j := 58) rfl rfl) (by decide +kernel)
theorem k_X3_127 : KV RX3 127 RX3 yX3_digit cX3_digit 2 (some .int) 0 := KV_of (m4 (j := 44) rfl rfl) (m4 (j := 45) rfl rfl) (m4 (j := 46) rfl rfl) (m1 (j := 4) rfl rfl) (m4 (j := 47) rfl rfl) (by decide +kernel)
theorem f_X4_9 : FL RX4 9 6 0 := ⟨RX4, TX4, 17, rfl, in_X4, by decide, "BowFoundry$State", m1 (j := 83) rfl rfl, rfl⟩
theorem f_X4_17 : FL RX4 17 6 1 := ⟨RX4, TX4, 17, rfl, in_X4, by decide, "BowFoundry$State", m1 (j := 85) rfl rfl, rfl⟩
theorem f_X4_20 : FL RX4 20 6 2 := ⟨RX4, TX4, 17, rfl, in_X4, by decide, "BowFoundry$State", m1 (j := 86) rfl rfl, rfl⟩
theorem f_X4_23 : FL RX4 23 6 3 := ⟨RX4, TX4, 17, rfl, in_X4, by decide, "BowFoundry$State", m1 (j := 88) rfl rfl, rfl⟩
theorem f_X4_27 : FL RX4 27 6 4 := ⟨RX4, TX4, 17, rfl, in_X4, by decide, "BowFoundry$State", m1 (j := 89) rfl rfl, rfl⟩
theorem f_X4_30 : FL RX4 30 6 5 := ⟨RX4, TX4, 17, rfl, in_X4, by decide, "BowFoundry$State", m1 (j := 90) rfl rfl, rfl⟩
theorem f_X4_33 : FL RX4 33 6 6 := ⟨RX4, TX4, 17, rfl, in_X4, by decide, "BowFoundry$State", m1 (j := 91) rfl rfl, rfl⟩
theorem f_X4_36 : FL RX4 36 6 7 := ⟨RX4, TX4, 17, rfl, in_X4, by decide, "BowFoundry$State", m1 (j := 92) rfl rfl, rfl⟩
theorem f_X4_39 : FL RX4 39 6 8 := ⟨RX4, TX4, 17, rfl, in_X4, by decide, "BowFoundry$State", m1 (j := 93) rfl rfl, rfl⟩
theorem f_X4_42 : FL RX4 42 6 9 := ⟨RX4, TX4, 17, rfl, in_X4, by decide, "BowFoundry$State", m1 (j := 94) rfl rfl, rfl⟩
theorem f_X4_45 : FL RX4 45 6 10 := ⟨RX4, TX4, 17, rfl, in_X4, by decide, "BowFoundry$State", m1 (j := 96) rfl rfl, rfl⟩
theorem f_X4_48 : FL RX4 48 6 11 := ⟨RX4, TX4, 17, rfl, in_X4, by decide, "BowFoundry$State", m1 (j := 98) rfl rfl, rfl⟩
theorem f_X4_53 : FL RX4 53 6 12 := ⟨RX4, TX4, 17, rfl, in_X4, by decide, "BowFoundry$State", m1 (j := 100) rfl rfl, rfl⟩
theorem f_X4_57 : FL RX4 57 6 13 := ⟨RX4, TX4, 17, rfl, in_X4, by decide, "BowFoundry$State", m1 (j := 102) rfl rfl, rfl⟩
theorem f_X4_60 : FL RX4 60 6 14 := ⟨RX4, TX4, 17, rfl, in_X4, by decide, "BowFoundry$State", m1 (j := 103) rfl rfl, rfl⟩
theorem f_X4_63 : FL RX4 63 6 15 := ⟨RX4, TX4, 17, rfl, in_X4, by decide, "BowFoundry$State", m1 (j := 105) rfl rfl, rfl⟩
theorem f_X4_66 : FL RX4 66 6 16 := ⟨RX4, TX4, 17, rfl, in_X4, by decide, "BowFoundry$State", m1 (j := 107) rfl rfl, rfl⟩
theorem cl_X4_51 : CL RX4 51 4 6 [.int 0, .int 0, .int 0, .int 0, .int 0, .null] := ⟨RX1, TX1, rfl, in_X1, ⟨tyX1, tyX1_ok, fun j hj => by
  match j, hj with
  | 0, _ => rfl
  | 1, _ => rfl
  | 2, _ => rfl
  | 3, _ => rfl
  | 4, _ => rfl
  | 5, _ => rfl
  | j + 6, h => exact absurd h (by omega)⟩, m1 (j := 46) rfl rfl, m1 (j := 48) rfl rfl, m1 (j := 3) rfl rfl⟩
theorem k_X4_74 : KV RX4 74 RX1 yX1_copyFrom cX1_copyFrom 2 none 1 := KV_of (m2 (j := 19) rfl rfl) (m2 (j := 20) rfl rfl) (m2 (j := 21) rfl rfl) (m1 (j := 3) rfl rfl) (m2 (j := 22) rfl rfl) (by decide +kernel)
theorem k_X4_78 : KS RX4 78 yX4_isPart cX4_isPart 1 (some .boolean) 1 := KS_of (m5 (j := 95) rfl rfl) (m5 (j := 96) rfl rfl) (m1 (j := 2) rfl rfl) (m5 (j := 97) rfl rfl) (by decide +kernel)
theorem k_X4_82 : KS RX4 82 yX4_isMetal cX4_isMetal 1 (some .boolean) 1 := KS_of (m3 (j := 32) rfl rfl) (m3 (j := 33) rfl rfl) (m1 (j := 2) rfl rfl) (m3 (j := 34) rfl rfl) (by decide +kernel)
theorem k_X4_85 : KV RX4 85 RX4 yX4_hasAlloy cX4_hasAlloy 2 (some .boolean) 1 := KV_of (m2 (j := 28) rfl rfl) (m2 (j := 29) rfl rfl) (m2 (j := 30) rfl rfl) (m1 (j := 2) rfl rfl) (m2 (j := 31) rfl rfl) (by decide +kernel)
theorem k_X4_88 : KV RX4 88 RX4 yX4_hasMould cX4_hasMould 2 (some .boolean) 1 := KV_of (m2 (j := 32) rfl rfl) (m2 (j := 33) rfl rfl) (m2 (j := 34) rfl rfl) (m1 (j := 2) rfl rfl) (m2 (j := 35) rfl rfl) (by decide +kernel)
theorem k_X4_91 : KV RX4 91 RX4 yX4_bowsInStore cX4_bowsInStore 5 (some .int) 1 := KV_of (m2 (j := 36) rfl rfl) (m2 (j := 37) rfl rfl) (m2 (j := 38) rfl rfl) (m1 (j := 2) rfl rfl) (m2 (j := 39) rfl rfl) (by decide +kernel)
theorem k_X4_95 : KV RX4 95 RX4 yX4_fill cX4_fill 6 none 4 := KV_of (m2 (j := 42) rfl rfl) (m2 (j := 43) rfl rfl) (m2 (j := 44) rfl rfl) (m1 (j := 2) rfl rfl) (m2 (j := 45) rfl rfl) (by decide +kernel)
theorem f_X4_99 : FN RX4 99 4 0 := ⟨RX1, TX1, 6, rfl, in_X1, by decide, "BowFoundry$Batch", "BowFoundry", n1 (j := 54) rfl rfl, rfl⟩
theorem f_X4_102 : FN RX4 102 4 1 := ⟨RX1, TX1, 6, rfl, in_X1, by decide, "BowFoundry$Batch", "BowFoundry", n1 (j := 57) rfl rfl, rfl⟩
theorem f_X4_105 : FN RX4 105 4 2 := ⟨RX1, TX1, 6, rfl, in_X1, by decide, "BowFoundry$Batch", "BowFoundry", n1 (j := 60) rfl rfl, rfl⟩
theorem f_X4_108 : FN RX4 108 4 3 := ⟨RX1, TX1, 6, rfl, in_X1, by decide, "BowFoundry$Batch", "BowFoundry", n1 (j := 63) rfl rfl, rfl⟩
theorem f_X4_111 : FN RX4 111 4 4 := ⟨RX1, TX1, 6, rfl, in_X1, by decide, "BowFoundry$Batch", "BowFoundry", n1 (j := 65) rfl rfl, rfl⟩
theorem f_X4_115 : FN RX4 115 4 5 := ⟨RX1, TX1, 6, rfl, in_X1, by decide, "BowFoundry$Batch", "BowFoundry", n1 (j := 68) rfl rfl, rfl⟩
theorem k_X4_118 : KV RX4 118 RX4 yX4_squeakToCome cX4_squeakToCome 5 (some .int) 2 := KV_of (m2 (j := 46) rfl rfl) (m2 (j := 47) rfl rfl) (m2 (j := 48) rfl rfl) (m1 (j := 2) rfl rfl) (m2 (j := 49) rfl rfl) (by decide +kernel)
theorem k_X4_122 : KV RX4 122 RX4 yX4_placeWith cX4_placeWith 3 (some .int) 1 := KV_of (m2 (j := 201) rfl rfl) (m2 (j := 202) rfl rfl) (m2 (j := 203) rfl rfl) (m1 (j := 2) rfl rfl) (m2 (j := 204) rfl rfl) (by decide +kernel)
theorem k_X4_125 : KV RX4 125 RX1 yX1_passes cX1_passes 3 (some .boolean) 2 := KV_of (m2 (j := 205) rfl rfl) (m2 (j := 206) rfl rfl) (m2 (j := 207) rfl rfl) (m1 (j := 3) rfl rfl) (m2 (j := 208) rfl rfl) (by decide +kernel)
theorem k_X4_129 : KV RX4 129 RX4 yX4_remove cX4_remove 4 none 1 := KV_of (m2 (j := 217) rfl rfl) (m2 (j := 218) rfl rfl) (m2 (j := 219) rfl rfl) (m1 (j := 2) rfl rfl) (m2 (j := 220) rfl rfl) (by decide +kernel)
theorem k_X4_133 : KS RX4 133 yJ9_max_7cf53 cJ9_max_7cf53 2 (some .int) 2 := KS_of (m2 (j := 229) rfl rfl) (m2 (j := 230) rfl rfl) (m1 (j := 14) rfl rfl) (m2 (j := 231) rfl rfl) (by decide +kernel)
theorem k_X4_138 : KV RX4 138 RX1 yX1_contains cX1_contains 2 (some .boolean) 1 := KV_of (m3 (j := 81) rfl rfl) (m3 (j := 82) rfl rfl) (m3 (j := 83) rfl rfl) (m1 (j := 3) rfl rfl) (m3 (j := 84) rfl rfl) (by decide +kernel)
theorem k_X4_141 : KV RX4 141 RX4 yX4_placeWithBow cX4_placeWithBow 3 (some .int) 1 := KV_of (m3 (j := 77) rfl rfl) (m3 (j := 78) rfl rfl) (m3 (j := 79) rfl rfl) (m1 (j := 2) rfl rfl) (m3 (j := 80) rfl rfl) (by decide +kernel)
theorem k_X4_147 : KS RX4 147 yJ9_min_7cf53 cJ9_min_7cf53 2 (some .int) 2 := KS_of (m2 (j := 41) rfl rfl) (m2 (j := 14) rfl rfl) (m1 (j := 14) rfl rfl) (m2 (j := 15) rfl rfl) (by decide +kernel)
theorem k_X4_157 : KV RX4 157 RX1 yX1_leastPassingSqueak cX1_leastPassingSqueak 5 (some .int) 1 := KV_of (m3 (j := 199) rfl rfl) (m3 (j := 113) rfl rfl) (m3 (j := 114) rfl rfl) (m1 (j := 3) rfl rfl) (m3 (j := 115) rfl rfl) (by decide +kernel)
theorem k_X4_160 : KV RX4 160 RX1 yX1_leastPassingTry cX1_leastPassingTry 3 (some .int) 1 := KV_of (m3 (j := 200) rfl rfl) (m3 (j := 122) rfl rfl) (m3 (j := 123) rfl rfl) (m1 (j := 3) rfl rfl) (m3 (j := 124) rfl rfl) (by decide +kernel)
theorem k_X4_163 : KV RX4 163 RX4 yX4_metalByBows cX4_metalByBows 5 (some .int) 1 := KV_of (m3 (j := 205) rfl rfl) (m3 (j := 140) rfl rfl) (m3 (j := 141) rfl rfl) (m1 (j := 2) rfl rfl) (m3 (j := 142) rfl rfl) (by decide +kernel)
theorem k_X4_166 : KV RX4 166 RX4 yX4_metalByBooks cX4_metalByBooks 2 (some .int) 1 := KV_of (m3 (j := 206) rfl rfl) (m3 (j := 148) rfl rfl) (m3 (j := 149) rfl rfl) (m1 (j := 2) rfl rfl) (m3 (j := 150) rfl rfl) (by decide +kernel)
theorem k_X4_169 : KV RX4 169 RX4 yX4_bowsInBatches cX4_bowsInBatches 3 (some .int) 0 := KV_of (m3 (j := 211) rfl rfl) (m3 (j := 212) rfl rfl) (m3 (j := 213) rfl rfl) (m1 (j := 2) rfl rfl) (m3 (j := 214) rfl rfl) (by decide +kernel)
theorem f_X5_11 : FL RX5 11 7 0 := ⟨RX5, TX5, 9, rfl, in_X5, by decide, "BowFoundry", m1 (j := 202) rfl rfl, rfl⟩
theorem cl_X5_9 : CL RX5 9 6 17 [.int 0, .null, .int 0, .null, .null, .null, .null, .null, .null, .int 0, .int 0, .int 0, .null, .int 0, .int 0, .int 0, .int 0] := ⟨RX4, TX4, rfl, in_X4, ⟨tyX4, tyX4_ok, fun j hj => by
  match j, hj with
  | 0, _ => rfl
  | 1, _ => rfl
  | 2, _ => rfl
  | 3, _ => rfl
  | 4, _ => rfl
  | 5, _ => rfl
  | 6, _ => rfl
  | 7, _ => rfl
  | 8, _ => rfl
  | 9, _ => rfl
  | 10, _ => rfl
  | 11, _ => rfl
  | 12, _ => rfl
  | 13, _ => rfl
  | 14, _ => rfl
  | 15, _ => rfl
  | 16, _ => rfl
  | j + 17, h => exact absurd h (by omega)⟩, m1 (j := 37) rfl rfl, m1 (j := 39) rfl rfl, m1 (j := 2) rfl rfl⟩
theorem k_X5_15 : KI RX5 15 yX4_init cX4_init 2 0 := KI_of (m1 (j := 40) rfl rfl) (m1 (j := 41) rfl rfl) (m1 (j := 2) rfl rfl) (m1 (j := 42) rfl rfl) (by decide +kernel)
theorem f_X5_16 : FL RX5 16 7 1 := ⟨RX5, TX5, 9, rfl, in_X5, by decide, "BowFoundry", m1 (j := 203) rfl rfl, rfl⟩
theorem cl_X5_20 : CL RX5 20 5 5 [.null, .null, .int 0, .int 0, .int 0] := ⟨RX3, TX3, rfl, in_X3, ⟨tyX3, tyX3_ok, fun j hj => by
  match j, hj with
  | 0, _ => rfl
  | 1, _ => rfl
  | 2, _ => rfl
  | 3, _ => rfl
  | 4, _ => rfl
  | j + 5, h => exact absurd h (by omega)⟩, m1 (j := 144) rfl rfl, m1 (j := 145) rfl rfl, m1 (j := 4) rfl rfl⟩
theorem f_X5_23 : FL RX5 23 7 2 := ⟨RX5, TX5, 9, rfl, in_X5, by decide, "BowFoundry", m1 (j := 204) rfl rfl, rfl⟩
theorem cl_X5_27 : CL RX5 27 1 4 [.null, .int 0, .int 0, .int 0] := ⟨RJ4, TJ4, rfl, in_J4, ⟨tyJ4, tyJ4_ok, fun j hj => by
  match j, hj with
  | 0, _ => rfl
  | 1, _ => rfl
  | 2, _ => rfl
  | 3, _ => rfl
  | j + 4, h => exact absurd h (by omega)⟩, m1 (j := 200) rfl rfl, m1 (j := 151) rfl rfl, m1 (j := 6) rfl rfl⟩
theorem k_X5_29 : KI RX5 29 yJ4_init_da8c8 cJ4_init_da8c8 1 0 := KI_of (m1 (j := 201) rfl rfl) (m1 (j := 153) rfl rfl) (m1 (j := 6) rfl rfl) (m1 (j := 154) rfl rfl) (by decide +kernel)
theorem f_X5_30 : FL RX5 30 7 3 := ⟨RX5, TX5, 9, rfl, in_X5, by decide, "BowFoundry", m1 (j := 205) rfl rfl, rfl⟩
theorem f_X5_34 : FL RX5 34 7 4 := ⟨RX5, TX5, 9, rfl, in_X5, by decide, "BowFoundry", m1 (j := 206) rfl rfl, rfl⟩
theorem f_X5_38 : FL RX5 38 7 5 := ⟨RX5, TX5, 9, rfl, in_X5, by decide, "BowFoundry", m1 (j := 207) rfl rfl, rfl⟩
theorem f_X5_41 : FL RX5 41 7 6 := ⟨RX5, TX5, 9, rfl, in_X5, by decide, "BowFoundry", m1 (j := 208) rfl rfl, rfl⟩
theorem f_X5_45 : FL RX5 45 7 7 := ⟨RX5, TX5, 9, rfl, in_X5, by decide, "BowFoundry", m1 (j := 209) rfl rfl, rfl⟩
theorem f_X5_48 : FL RX5 48 7 8 := ⟨RX5, TX5, 9, rfl, in_X5, by decide, "BowFoundry", m1 (j := 210) rfl rfl, rfl⟩
theorem k_X5_51 : KV RX5 51 RX5 yX5_draft cX5_draft 2 (some (.object "BowFoundry$State")) 0 := KV_of (m1 (j := 234) rfl rfl) (m1 (j := 236) rfl rfl) (mp1 (j := 0) rfl) (m1 (j := 1) rfl rfl) (m1 (j := 237) rfl rfl) (by decide +kernel)
theorem k_X5_55 : KV RX5 55 RX4 yX4_mixAlloy cX4_mixAlloy 4 (some .int) 3 := KV_of (m5 (j := 184) rfl rfl) (m5 (j := 92) rfl rfl) (m5 (j := 93) rfl rfl) (m1 (j := 2) rfl rfl) (m5 (j := 94) rfl rfl) (by decide +kernel)
theorem k_X5_59 : KV RX5 59 RX5 yX5_kept cX5_kept 3 (some .int) 1 := KV_of (m2 (j := 50) rfl rfl) (m2 (j := 52) rfl rfl) (mp1 (j := 3) rfl) (m1 (j := 1) rfl rfl) (m2 (j := 53) rfl rfl) (by decide +kernel)
theorem k_X5_63 : KV RX5 63 RX4 yX4_placeMould cX4_placeMould 2 (some .int) 1 := KV_of (m5 (j := 189) rfl rfl) (m5 (j := 99) rfl rfl) (m5 (j := 100) rfl rfl) (m1 (j := 2) rfl rfl) (m5 (j := 101) rfl rfl) (by decide +kernel)
theorem k_X5_66 : KV RX5 66 RX4 yX4_takeIn cX4_takeIn 3 (some .int) 2 := KV_of (m5 (j := 194) rfl rfl) (m5 (j := 103) rfl rfl) (m5 (j := 104) rfl rfl) (m1 (j := 2) rfl rfl) (m5 (j := 105) rfl rfl) (by decide +kernel)
theorem k_X5_70 : KV RX5 70 RX4 yX4_pour cX4_pour 5 (some .int) 3 := KV_of (m2 (j := 24) rfl rfl) (m2 (j := 25) rfl rfl) (m2 (j := 26) rfl rfl) (m1 (j := 2) rfl rfl) (m2 (j := 27) rfl rfl) (by decide +kernel)
theorem k_X5_73 : KV RX5 73 RX4 yX4_examine cX4_examine 5 (some .int) 1 := KV_of (m2 (j := 197) rfl rfl) (m2 (j := 198) rfl rfl) (m2 (j := 199) rfl rfl) (m1 (j := 2) rfl rfl) (m2 (j := 200) rfl rfl) (by decide +kernel)
theorem k_X5_76 : KV RX5 76 RX4 yX4_meltDown cX4_meltDown 8 (some .int) 1 := KV_of (m2 (j := 225) rfl rfl) (m2 (j := 226) rfl rfl) (m2 (j := 227) rfl rfl) (m1 (j := 2) rfl rfl) (m2 (j := 228) rfl rfl) (by decide +kernel)
theorem k_X5_79 : KV RX5 79 RX4 yX4_resetUses cX4_resetUses 3 (some .int) 1 := KV_of (m2 (j := 236) rfl rfl) (m2 (j := 237) rfl rfl) (m2 (j := 238) rfl rfl) (m1 (j := 2) rfl rfl) (m2 (j := 239) rfl rfl) (by decide +kernel)
theorem k_X5_82 : KV RX5 82 RX4 yX4_changeTolerance cX4_changeTolerance 3 (some .int) 1 := KV_of (m3 (j := 4) rfl rfl) (m3 (j := 5) rfl rfl) (m3 (j := 6) rfl rfl) (m1 (j := 2) rfl rfl) (m3 (j := 7) rfl rfl) (by decide +kernel)
theorem k_X5_85 : KV RX5 85 RX4 yX4_changeStep cX4_changeStep 3 (some .int) 1 := KV_of (m3 (j := 12) rfl rfl) (m3 (j := 13) rfl rfl) (m3 (j := 14) rfl rfl) (m1 (j := 2) rfl rfl) (m3 (j := 15) rfl rfl) (by decide +kernel)
theorem k_X5_88 : KV RX5 88 RX5 yX5_now cX5_now 1 (some (.object "BowFoundry$State")) 0 := KV_of (m2 (j := 2) rfl rfl) (m2 (j := 4) rfl rfl) (mp1 (j := 2) rfl) (m1 (j := 1) rfl rfl) (m2 (j := 5) rfl rfl) (by decide +kernel)
theorem f_X5_91 : FN RX5 91 6 0 := ⟨RX4, TX4, 17, rfl, in_X4, by decide, "BowFoundry$State", "BowFoundry", n1 (j := 84) rfl rfl, rfl⟩
theorem k_X5_94 : KV RX5 94 RX4 yX4_partsOf cX4_partsOf 3 (some .int) 2 := KV_of (m5 (j := 209) rfl rfl) (m5 (j := 210) rfl rfl) (m5 (j := 211) rfl rfl) (m1 (j := 2) rfl rfl) (m5 (j := 212) rfl rfl) (by decide +kernel)
theorem k_X5_97 : KS RX5 97 yX5_answered cX5_answered 1 (some .int) 1 := KS_of (m2 (j := 54) rfl rfl) (m2 (j := 55) rfl rfl) (m1 (j := 1) rfl rfl) (m2 (j := 56) rfl rfl) (by decide +kernel)
theorem f_X5_100 : FN RX5 100 6 2 := ⟨RX4, TX4, 17, rfl, in_X4, by decide, "BowFoundry$State", "BowFoundry", n1 (j := 87) rfl rfl, rfl⟩
theorem k_X5_103 : KV RX5 103 RX4 yX4_lengthOf cX4_lengthOf 2 (some .int) 1 := KV_of (m5 (j := 221) rfl rfl) (m5 (j := 222) rfl rfl) (m5 (j := 223) rfl rfl) (m1 (j := 2) rfl rfl) (m5 (j := 224) rfl rfl) (by decide +kernel)
theorem k_X5_106 : KV RX5 106 RX4 yX4_usesOf cX4_usesOf 2 (some .int) 1 := KV_of (m3 (j := 20) rfl rfl) (m3 (j := 21) rfl rfl) (m3 (j := 22) rfl rfl) (m1 (j := 2) rfl rfl) (m3 (j := 23) rfl rfl) (by decide +kernel)
theorem k_X5_109 : KV RX5 109 RX4 yX4_stockOf cX4_stockOf 2 (some .int) 1 := KV_of (m3 (j := 28) rfl rfl) (m3 (j := 29) rfl rfl) (m3 (j := 30) rfl rfl) (m1 (j := 2) rfl rfl) (m3 (j := 31) rfl rfl) (by decide +kernel)
theorem f_X5_112 : FN RX5 112 6 9 := ⟨RX4, TX4, 17, rfl, in_X4, by decide, "BowFoundry$State", "BowFoundry", n1 (j := 95) rfl rfl, rfl⟩
theorem f_X5_115 : FN RX5 115 6 10 := ⟨RX4, TX4, 17, rfl, in_X4, by decide, "BowFoundry$State", "BowFoundry", n1 (j := 97) rfl rfl, rfl⟩
theorem f_X5_118 : FN RX5 118 6 11 := ⟨RX4, TX4, 17, rfl, in_X4, by decide, "BowFoundry$State", "BowFoundry", n1 (j := 99) rfl rfl, rfl⟩
theorem f_X5_128 : FN RX5 128 6 12 := ⟨RX4, TX4, 17, rfl, in_X4, by decide, "BowFoundry$State", "BowFoundry", n1 (j := 101) rfl rfl, rfl⟩
theorem f_X5_132 : FN RX5 132 4 0 := ⟨RX1, TX1, 6, rfl, in_X1, by decide, "BowFoundry$Batch", "BowFoundry", n1 (j := 55) rfl rfl, rfl⟩
theorem k_X5_137 : KV RX5 137 RX5 yX5_placeOf cX5_placeOf 2 (some .int) 1 := KV_of (m3 (j := 56) rfl rfl) (m3 (j := 58) rfl rfl) (mp1 (j := 5) rfl) (m1 (j := 1) rfl rfl) (m3 (j := 59) rfl rfl) (by decide +kernel)
theorem f_X5_140 : FN RX5 140 4 4 := ⟨RX1, TX1, 6, rfl, in_X1, by decide, "BowFoundry$Batch", "BowFoundry", n1 (j := 66) rfl rfl, rfl⟩
theorem f_X5_143 : FN RX5 143 4 2 := ⟨RX1, TX1, 6, rfl, in_X1, by decide, "BowFoundry$Batch", "BowFoundry", n1 (j := 61) rfl rfl, rfl⟩
theorem f_X5_146 : FN RX5 146 4 1 := ⟨RX1, TX1, 6, rfl, in_X1, by decide, "BowFoundry$Batch", "BowFoundry", n1 (j := 58) rfl rfl, rfl⟩
theorem k_X5_149 : KV RX5 149 RX4 yX4_squeakOf cX4_squeakOf 4 (some .int) 1 := KV_of (m3 (j := 73) rfl rfl) (m3 (j := 74) rfl rfl) (m3 (j := 75) rfl rfl) (m1 (j := 2) rfl rfl) (m3 (j := 76) rfl rfl) (by decide +kernel)
theorem k_X5_152 : KV RX5 152 RX4 yX4_batchWith cX4_batchWith 3 (some .int) 1 := KV_of (m3 (j := 89) rfl rfl) (m3 (j := 90) rfl rfl) (m3 (j := 91) rfl rfl) (m1 (j := 2) rfl rfl) (m3 (j := 92) rfl rfl) (by decide +kernel)
theorem k_X5_155 : KV RX5 155 RX1 yX1_goodSampled cX1_goodSampled 6 (some .int) 2 := KV_of (m3 (j := 97) rfl rfl) (m2 (j := 210) rfl rfl) (m2 (j := 211) rfl rfl) (m1 (j := 3) rfl rfl) (m2 (j := 212) rfl rfl) (by decide +kernel)
theorem k_X5_158 : KV RX5 158 RX1 yX1_sampled cX1_sampled 2 (some .int) 1 := KV_of (m3 (j := 102) rfl rfl) (m2 (j := 214) rfl rfl) (m2 (j := 215) rfl rfl) (m1 (j := 3) rfl rfl) (m2 (j := 216) rfl rfl) (by decide +kernel)
theorem k_X5_161 : KV RX5 161 RX1 yX1_passes cX1_passes 3 (some .boolean) 2 := KV_of (m3 (j := 107) rfl rfl) (m2 (j := 206) rfl rfl) (m2 (j := 207) rfl rfl) (m1 (j := 3) rfl rfl) (m2 (j := 208) rfl rfl) (by decide +kernel)
theorem k_X5_165 : KV RX5 165 RX1 yX1_leastPassingSqueak cX1_leastPassingSqueak 5 (some .int) 1 := KV_of (m3 (j := 112) rfl rfl) (m3 (j := 113) rfl rfl) (m3 (j := 114) rfl rfl) (m1 (j := 3) rfl rfl) (m3 (j := 115) rfl rfl) (by decide +kernel)
theorem k_X5_168 : KV RX5 168 RX1 yX1_leastPassingTry cX1_leastPassingTry 3 (some .int) 1 := KV_of (m3 (j := 121) rfl rfl) (m3 (j := 122) rfl rfl) (m3 (j := 123) rfl rfl) (m1 (j := 3) rfl rfl) (m3 (j := 124) rfl rfl) (by decide +kernel)
theorem k_X5_171 : KV RX5 171 RX4 yX4_squeakToCome cX4_squeakToCome 5 (some .int) 2 := KV_of (m3 (j := 129) rfl rfl) (m2 (j := 47) rfl rfl) (m2 (j := 48) rfl rfl) (m1 (j := 2) rfl rfl) (m2 (j := 49) rfl rfl) (by decide +kernel)
theorem k_X5_174 : KV RX5 174 RX4 yX4_bowsInStore cX4_bowsInStore 5 (some .int) 1 := KV_of (m3 (j := 134) rfl rfl) (m2 (j := 37) rfl rfl) (m2 (j := 38) rfl rfl) (m1 (j := 2) rfl rfl) (m2 (j := 39) rfl rfl) (by decide +kernel)
theorem k_X5_177 : KV RX5 177 RX4 yX4_metalByBows cX4_metalByBows 5 (some .int) 1 := KV_of (m3 (j := 139) rfl rfl) (m3 (j := 140) rfl rfl) (m3 (j := 141) rfl rfl) (m1 (j := 2) rfl rfl) (m3 (j := 142) rfl rfl) (by decide +kernel)
theorem k_X5_180 : KV RX5 180 RX4 yX4_metalByBooks cX4_metalByBooks 2 (some .int) 1 := KV_of (m3 (j := 147) rfl rfl) (m3 (j := 148) rfl rfl) (m3 (j := 149) rfl rfl) (m1 (j := 2) rfl rfl) (m3 (j := 150) rfl rfl) (by decide +kernel)
theorem f_X5_186 : FN RX5 186 6 14 := ⟨RX4, TX4, 17, rfl, in_X4, by decide, "BowFoundry$State", "BowFoundry", n1 (j := 104) rfl rfl, rfl⟩
theorem f_X5_189 : FN RX5 189 6 15 := ⟨RX4, TX4, 17, rfl, in_X4, by decide, "BowFoundry$State", "BowFoundry", n1 (j := 106) rfl rfl, rfl⟩
theorem f_X5_192 : FN RX5 192 6 16 := ⟨RX4, TX4, 17, rfl, in_X4, by decide, "BowFoundry$State", "BowFoundry", n1 (j := 108) rfl rfl, rfl⟩
theorem k_X5_195 : KV RX5 195 RX4 yX4_lostOf cX4_lostOf 2 (some .int) 1 := KV_of (m3 (j := 167) rfl rfl) (m3 (j := 168) rfl rfl) (m3 (j := 169) rfl rfl) (m1 (j := 2) rfl rfl) (m3 (j := 170) rfl rfl) (by decide +kernel)
theorem k_X5_212 : KV RX5 212 RX4 yX4_tolerancesAgree cX4_tolerancesAgree 2 (some .boolean) 0 := KV_of (m3 (j := 195) rfl rfl) (m3 (j := 196) rfl rfl) (m3 (j := 197) rfl rfl) (m1 (j := 2) rfl rfl) (m3 (j := 198) rfl rfl) (by decide +kernel)
theorem k_X5_216 : KV RX5 216 RX4 yX4_metalsAgree cX4_metalsAgree 2 (some .boolean) 0 := KV_of (m3 (j := 201) rfl rfl) (m3 (j := 202) rfl rfl) (m3 (j := 203) rfl rfl) (m1 (j := 2) rfl rfl) (m3 (j := 204) rfl rfl) (by decide +kernel)
theorem k_X5_219 : KV RX5 219 RX4 yX4_bowsAgree cX4_bowsAgree 1 (some .boolean) 0 := KV_of (m3 (j := 207) rfl rfl) (m3 (j := 208) rfl rfl) (m3 (j := 209) rfl rfl) (m1 (j := 2) rfl rfl) (m3 (j := 210) rfl rfl) (by decide +kernel)
theorem k_X5_248 : KV RX5 248 RX3 yX3_length cX3_length 1 (some .int) 0 := KV_of (m5 (j := 145) rfl rfl) (m5 (j := 146) rfl rfl) (m5 (j := 147) rfl rfl) (m1 (j := 4) rfl rfl) (m5 (j := 148) rfl rfl) (by decide +kernel)
theorem k_X5_254 : KV RX5 254 RX3 yX3_append cX3_append 2 (some .int) 1 := KV_of (m5 (j := 150) rfl rfl) (m5 (j := 151) rfl rfl) (m5 (j := 152) rfl rfl) (m1 (j := 4) rfl rfl) (m5 (j := 153) rfl rfl) (by decide +kernel)
theorem k_X5_258 : KV RX5 258 RX3 yX3_firstError cX3_firstError 2 (some .int) 0 := KV_of (m3 (j := 219) rfl rfl) (m3 (j := 220) rfl rfl) (m3 (j := 221) rfl rfl) (m1 (j := 4) rfl rfl) (m3 (j := 222) rfl rfl) (by decide +kernel)
theorem k_X5_261 : KV RX5 261 RX3 yX3_clear cX3_clear 1 none 0 := KV_of (m4 (j := 70) rfl rfl) (m4 (j := 71) rfl rfl) (m4 (j := 72) rfl rfl) (m1 (j := 4) rfl rfl) (m4 (j := 73) rfl rfl) (by decide +kernel)
theorem k_X5_266 : KV RX5 266 RX3 yX3_firstFailure cX3_firstFailure 4 (some .int) 1 := KV_of (m5 (j := 75) rfl rfl) (m5 (j := 76) rfl rfl) (m5 (j := 77) rfl rfl) (m1 (j := 4) rfl rfl) (m5 (j := 78) rfl rfl) (by decide +kernel)
theorem f_X5_270 : FN RX5 270 5 4 := ⟨RX3, TX3, 5, rfl, in_X3, by decide, "BowFoundry$Script", "BowFoundry", n1 (j := 188) rfl rfl, rfl⟩
theorem k_X5_281 : KV RX5 281 RX4 yX4_copyFrom cX4_copyFrom 3 none 1 := KV_of (m2 (j := 6) rfl rfl) (m2 (j := 7) rfl rfl) (m2 (j := 8) rfl rfl) (m1 (j := 2) rfl rfl) (m2 (j := 9) rfl rfl) (by decide +kernel)
theorem k_X5_287 : KV RX5 287 RX5 yX5_following cX5_following 1 (some .int) 0 := KV_of (m1 (j := 238) rfl rfl) (m2 (j := 0) rfl rfl) (mp1 (j := 1) rfl) (m1 (j := 1) rfl rfl) (m2 (j := 1) rfl rfl) (by decide +kernel)
theorem k_X5_290 : KS RX5 290 yJ9_min_7cf53 cJ9_min_7cf53 2 (some .int) 2 := KS_of (m2 (j := 13) rfl rfl) (m2 (j := 14) rfl rfl) (m1 (j := 14) rfl rfl) (m2 (j := 15) rfl rfl) (by decide +kernel)
theorem k_X5_295 : KV RX5 295 RX4 yX4_placeWith cX4_placeWith 3 (some .int) 1 := KV_of (m3 (j := 60) rfl rfl) (m2 (j := 202) rfl rfl) (m2 (j := 203) rfl rfl) (m1 (j := 2) rfl rfl) (m2 (j := 204) rfl rfl) (by decide +kernel)
theorem in_pos {ls : List Cond} (ps : List (Nat × Nat)) (h : ls.map some = ps.map (fun q => (match q.1 with | 1 => tables_1_1 | 2 => tables_1_2 | 3 => tables_1_3 | 4 => tables_1_4 | 5 => tables_1_5 | 6 => tables_1_6 | _ => k2_sels lw_privs)[q.2]?)) (hg : ls.all (fun w => goodWord w || (nwd w && w.onTables)) = true) : ∀ w ∈ ls, w ∈ T0 ∨ (w ∈ N0 ∧ w.onTables = true) := by
  intro w hw
  have g := List.all_eq_true.mp hg w hw
  have h1 : some w ∈ ls.map some := List.mem_map.mpr ⟨w, hw, rfl⟩
  rw [h] at h1
  obtain ⟨q, -, hq⟩ := List.mem_map.mp h1
  obtain ⟨a, b⟩ := q
  have hm : w ∈ lw_tbl := by
    match a, hq with
    | 1, hq => exact tm1 hq
    | 2, hq => exact tm2 hq
    | 3, hq => exact tm3 hq
    | 4, hq => exact tm4 hq
    | 5, hq => exact tm5 hq
    | 6, hq => exact tm6 hq
    | 0, hq => exact List.mem_append_left _ (List.mem_of_getElem? hq)
    | n + 7, hq => exact List.mem_append_left _ (List.mem_of_getElem? hq)
  rw [Bool.or_eq_true] at g
  exact g.elim (fun g => Or.inl (T0_of hm g)) (fun g => Or.inr ⟨N0_of hm (Bool.and_eq_true _ _ ▸ g).1, (Bool.and_eq_true _ _ ▸ g).2⟩)
theorem th_IOOB : TH "BowFoundry" 234 238 7 prog_21_method_2_code "java/lang/IndexOutOfBoundsException" := ⟨by decide +kernel, by decide +kernel, by decide +kernel, by decide +kernel, by decide +kernel, m2 (j := 57) rfl rfl, m1 (j := 12) rfl rfl, in_pos [(1, 9), (2, 79), (2, 88), (2, 97), (2, 100), (2, 102), (2, 80), (2, 81), (1, 35), (1, 36), (2, 82), (2, 87), (2, 98), (2, 118), (2, 69), (2, 119), (2, 71), (2, 120), (2, 73), (2, 83), (2, 85), (2, 75), (2, 114), (2, 115), (2, 117), (2, 75), (2, 105), (2, 106), (2, 107), (2, 108), (2, 61), (2, 108), (2, 109), (2, 110), (2, 111), (2, 63), (2, 111), (2, 112), (2, 113), (2, 114), (2, 65), (2, 104), (2, 58), (2, 59), (2, 66), (2, 67), (2, 68), (2, 70), (2, 72), (2, 74), (2, 78), (2, 77), (2, 76)] (by decide +kernel) (by decide +kernel), by decide +kernel⟩
theorem th_IAE : TH "BowFoundry" 243 247 7 prog_19_method_2_code "java/lang/IllegalArgumentException" := ⟨by decide +kernel, by decide +kernel, by decide +kernel, by decide +kernel, by decide +kernel, m2 (j := 129) rfl rfl, m1 (j := 16) rfl rfl, in_pos [(1, 9), (2, 79), (2, 88), (2, 97), (2, 100), (2, 102), (2, 80), (2, 81), (1, 35), (1, 36), (2, 82), (2, 87), (2, 98), (2, 118), (2, 69), (2, 119), (2, 71), (2, 120), (2, 73), (2, 83), (2, 85), (2, 75), (2, 114), (2, 115), (2, 117), (2, 75), (2, 140), (2, 141), (2, 142), (2, 108), (2, 61), (2, 108), (2, 109), (2, 110), (2, 111), (2, 63), (2, 111), (2, 112), (2, 113), (2, 114), (2, 65), (2, 139), (2, 130), (2, 131), (2, 132), (2, 92), (2, 133), (2, 134), (2, 135), (2, 136), (2, 78), (2, 77), (2, 137)] (by decide +kernel) (by decide +kernel), by decide +kernel⟩
theorem th_ISE : TH "BowFoundry" 249 253 7 prog_20_method_2_code "java/lang/IllegalStateException" := ⟨by decide +kernel, by decide +kernel, by decide +kernel, by decide +kernel, by decide +kernel, m2 (j := 145) rfl rfl, m1 (j := 17) rfl rfl, in_pos [(1, 9), (2, 79), (2, 88), (2, 97), (2, 100), (2, 102), (2, 80), (2, 81), (1, 35), (1, 36), (2, 82), (2, 87), (2, 98), (2, 118), (2, 69), (2, 119), (2, 71), (2, 120), (2, 73), (2, 83), (2, 85), (2, 75), (2, 114), (2, 115), (2, 117), (2, 75), (2, 156), (2, 157), (2, 158), (2, 108), (2, 61), (2, 108), (2, 109), (2, 110), (2, 111), (2, 63), (2, 111), (2, 112), (2, 113), (2, 114), (2, 65), (2, 155), (2, 146), (2, 147), (2, 148), (2, 93), (2, 149), (2, 150), (2, 151), (2, 152), (2, 78), (2, 77), (2, 153)] (by decide +kernel) (by decide +kernel), by decide +kernel⟩
theorem th_UOE : TH "BowFoundry" 304 308 7 prog_33_method_2_code "java/lang/UnsupportedOperationException" := ⟨by decide +kernel, by decide +kernel, by decide +kernel, by decide +kernel, by decide +kernel, m2 (j := 161) rfl rfl, m1 (j := 18) rfl rfl, in_pos [(1, 9), (2, 79), (2, 88), (2, 97), (2, 100), (2, 102), (2, 80), (2, 81), (1, 35), (1, 36), (2, 82), (2, 87), (2, 98), (2, 118), (2, 69), (2, 119), (2, 71), (2, 120), (2, 73), (2, 83), (2, 85), (2, 75), (2, 114), (2, 115), (2, 117), (2, 75), (2, 172), (2, 173), (2, 174), (2, 108), (2, 61), (2, 108), (2, 109), (2, 110), (2, 111), (2, 63), (2, 111), (2, 112), (2, 113), (2, 114), (2, 65), (2, 171), (2, 162), (2, 163), (2, 164), (2, 95), (2, 165), (2, 166), (2, 167), (2, 168), (2, 78), (2, 77), (2, 169)] (by decide +kernel) (by decide +kernel), by decide +kernel⟩
theorem th_NSE : TH "BowFoundry" 121 125 13 prog_37_method_4_code "java/util/NoSuchElementException" := ⟨by decide +kernel, by decide +kernel, by decide +kernel, by decide +kernel, by decide +kernel, m2 (j := 177) rfl rfl, m1 (j := 19) rfl rfl, in_pos [(1, 9), (2, 79), (2, 88), (2, 97), (2, 100), (2, 102), (2, 80), (2, 81), (1, 35), (1, 36), (2, 82), (2, 87), (2, 98), (2, 118), (2, 69), (2, 119), (2, 71), (2, 120), (2, 73), (2, 83), (2, 85), (2, 75), (2, 114), (2, 115), (2, 117), (2, 75), (2, 188), (2, 189), (2, 190), (2, 108), (2, 61), (2, 108), (2, 109), (2, 110), (2, 111), (2, 63), (2, 111), (2, 112), (2, 113), (2, 114), (2, 65), (2, 187), (2, 178), (2, 179), (2, 180), (2, 96), (2, 181), (2, 182), (2, 183), (2, 184), (2, 78), (2, 77), (2, 185)] (by decide +kernel) (by decide +kernel), by decide +kernel⟩
theorem th_AE : TH "BowFoundry" 202 206 7 prog_12_method_2_code "java/lang/ArithmeticException" := ⟨by decide +kernel, by decide +kernel, by decide +kernel, by decide +kernel, by decide +kernel, m3 (j := 175) rfl rfl, m1 (j := 28) rfl rfl, in_pos [(1, 9), (2, 79), (2, 88), (2, 97), (2, 100), (2, 102), (2, 80), (2, 81), (1, 35), (1, 36), (2, 82), (2, 87), (2, 98), (2, 118), (2, 69), (2, 119), (2, 71), (2, 120), (2, 73), (2, 83), (2, 85), (2, 75), (2, 114), (2, 115), (2, 117), (2, 75), (3, 186), (3, 187), (3, 188), (2, 108), (2, 61), (2, 108), (2, 109), (2, 110), (2, 111), (2, 63), (2, 111), (2, 112), (2, 113), (2, 114), (2, 65), (3, 185), (3, 176), (3, 177), (3, 178), (2, 90), (3, 179), (3, 180), (3, 181), (3, 182), (2, 78), (2, 77), (3, 183)] (by decide +kernel) (by decide +kernel), by decide +kernel⟩
