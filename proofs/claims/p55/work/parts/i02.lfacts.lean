/-! facts of the law's pool entries -/
theorem k_L_44 : KV RL 44 RX5 yX5_addAlloy cX5_addAlloy 4 (some .int) 3 := KV_of (m5 (j := 180) rfl rfl) (m5 (j := 181) rfl rfl) (m5 (j := 182) rfl rfl) (m1 (j := 1) rfl rfl) (m5 (j := 183) rfl rfl) (by decide +kernel)
theorem k_L_48 : KV RL 48 RX5 yX5_addMould cX5_addMould 2 (some .int) 1 := KV_of (m5 (j := 185) rfl rfl) (m5 (j := 186) rfl rfl) (m5 (j := 187) rfl rfl) (m1 (j := 1) rfl rfl) (m5 (j := 188) rfl rfl) (by decide +kernel)
theorem k_L_51 : KV RL 51 RX5 yX5_buy cX5_buy 3 (some .int) 2 := KV_of (m5 (j := 190) rfl rfl) (m5 (j := 191) rfl rfl) (m5 (j := 192) rfl rfl) (m1 (j := 1) rfl rfl) (m5 (j := 193) rfl rfl) (by decide +kernel)
theorem k_L_55 : KV RL 55 RX5 yX5_cast cX5_cast 4 (some .int) 3 := KV_of (m1 (j := 230) rfl rfl) (m1 (j := 231) rfl rfl) (m1 (j := 232) rfl rfl) (m1 (j := 1) rfl rfl) (m1 (j := 233) rfl rfl) (by decide +kernel)
theorem k_L_58 : KV RL 58 RX5 yX5_inspect cX5_inspect 2 (some .boolean) 1 := KV_of (m2 (j := 193) rfl rfl) (m2 (j := 194) rfl rfl) (m2 (j := 195) rfl rfl) (m1 (j := 1) rfl rfl) (m2 (j := 196) rfl rfl) (by decide +kernel)
theorem k_L_62 : KV RL 62 RX5 yX5_melt cX5_melt 2 (some .int) 1 := KV_of (m2 (j := 221) rfl rfl) (m2 (j := 222) rfl rfl) (m2 (j := 223) rfl rfl) (m1 (j := 1) rfl rfl) (m2 (j := 224) rfl rfl) (by decide +kernel)
theorem k_L_65 : KV RL 65 RX5 yX5_renewMould cX5_renewMould 2 (some .int) 1 := KV_of (m2 (j := 232) rfl rfl) (m2 (j := 233) rfl rfl) (m2 (j := 234) rfl rfl) (m1 (j := 1) rfl rfl) (m2 (j := 235) rfl rfl) (by decide +kernel)
theorem k_L_68 : KV RL 68 RX5 yX5_setTolerance cX5_setTolerance 2 (some .int) 1 := KV_of (m3 (j := 0) rfl rfl) (m3 (j := 1) rfl rfl) (m3 (j := 2) rfl rfl) (m1 (j := 1) rfl rfl) (m3 (j := 3) rfl rfl) (by decide +kernel)
theorem k_L_71 : KV RL 71 RX5 yX5_setStep cX5_setStep 2 (some .int) 1 := KV_of (m3 (j := 8) rfl rfl) (m3 (j := 9) rfl rfl) (m3 (j := 10) rfl rfl) (m1 (j := 1) rfl rfl) (m3 (j := 11) rfl rfl) (by decide +kernel)
theorem cl_L_18 : CL RL 18 7 9 [.null, .null, .null, .null, .int 0, .int 0, .int 0, .int 0, .int 0] := ⟨RX5, TX5, rfl, in_X5, ⟨tyX5, tyX5_ok, fun j hj => by
  match j, hj with
  | 0, _ => rfl
  | 1, _ => rfl
  | 2, _ => rfl
  | 3, _ => rfl
  | 4, _ => rfl
  | 5, _ => rfl
  | 6, _ => rfl
  | 7, _ => rfl
  | 8, _ => rfl
  | j + 9, h => exact absurd h (by omega)⟩, m1 (j := 29) rfl rfl, m1 (j := 30) rfl rfl, m1 (j := 1) rfl rfl⟩
theorem k_L_23 : KI RL 23 yX5_init cX5_init 2 0 := KI_of (m1 (j := 31) rfl rfl) (m1 (j := 32) rfl rfl) (m1 (j := 1) rfl rfl) (m1 (j := 33) rfl rfl) (by decide +kernel)
theorem k_L_24 : KS RL 24 yL_at cL_at 2 (some .int) 2 := KS_of (m5 (j := 132) rfl rfl) (m5 (j := 133) rfl rfl) (m1 (j := 0) rfl rfl) (m5 (j := 134) rfl rfl) (by decide +kernel)
theorem k_L_34 : KV RL 34 RX5 yX5_alloyCount cX5_alloyCount 1 (some .int) 0 := KV_of (m5 (j := 195) rfl rfl) (m5 (j := 196) rfl rfl) (m5 (j := 197) rfl rfl) (m1 (j := 1) rfl rfl) (m5 (j := 198) rfl rfl) (by decide +kernel)
theorem k_L_37 : KV RL 37 RX5 yX5_batchCount cX5_batchCount 1 (some .int) 0 := KV_of (m3 (j := 43) rfl rfl) (m3 (j := 44) rfl rfl) (m3 (j := 45) rfl rfl) (m1 (j := 1) rfl rfl) (m3 (j := 46) rfl rfl) (by decide +kernel)
theorem k_L_40 : KV RL 40 RX5 yX5_batchAt cX5_batchAt 3 (some .int) 1 := KV_of (m3 (j := 47) rfl rfl) (m3 (j := 48) rfl rfl) (m3 (j := 49) rfl rfl) (m1 (j := 1) rfl rfl) (m3 (j := 50) rfl rfl) (by decide +kernel)
theorem k_L_146 : KS RL 146 yL_put cL_put 3 none 2 := KS_of (m5 (j := 135) rfl rfl) (m5 (j := 136) rfl rfl) (m1 (j := 0) rfl rfl) (m5 (j := 137) rfl rfl) (by decide +kernel)
theorem k_L_262 : KV RL 262 RX5 yX5_errorPosition cX5_errorPosition 1 (some .int) 0 := KV_of (m5 (j := 234) rfl rfl) (m5 (j := 235) rfl rfl) (m5 (j := 236) rfl rfl) (m1 (j := 1) rfl rfl) (m5 (j := 237) rfl rfl) (by decide +kernel)
theorem k_L_133 : KS RL 133 yL_build cL_build 7 (some (.object "BowFoundry")) 1 := KS_of (m5 (j := 167) rfl rfl) (m5 (j := 168) rfl rfl) (m1 (j := 0) rfl rfl) (m5 (j := 169) rfl rfl) (by decide +kernel)
theorem k_L_137 : KV RL 137 RX5 yX5_save cX5_save 1 (some .int) 0 := KV_of (m5 (j := 123) rfl rfl) (m5 (j := 124) rfl rfl) (m5 (j := 125) rfl rfl) (m1 (j := 1) rfl rfl) (m5 (j := 126) rfl rfl) (by decide +kernel)
theorem k_L_140 : KS RL 140 yL_state cL_state 8 (some .int) 1 := KS_of (m5 (j := 202) rfl rfl) (m5 (j := 203) rfl rfl) (m1 (j := 0) rfl rfl) (m5 (j := 204) rfl rfl) (by decide +kernel)
theorem k_L_150 : KV RL 150 RX5 yX5_runScript cX5_runScript 4 (some .int) 0 := KV_of (m3 (j := 215) rfl rfl) (m3 (j := 216) rfl rfl) (m3 (j := 217) rfl rfl) (m1 (j := 1) rfl rfl) (m3 (j := 218) rfl rfl) (by decide +kernel)
theorem k_L_153 : KV RL 153 RX5 yX5_undo cX5_undo 1 (some .int) 0 := KV_of (m5 (j := 118) rfl rfl) (m5 (j := 119) rfl rfl) (m5 (j := 120) rfl rfl) (m1 (j := 1) rfl rfl) (m5 (j := 121) rfl rfl) (by decide +kernel)
theorem k_L_161 : KV RL 161 RX5 yX5_failedCommand cX5_failedCommand 1 (some .int) 0 := KV_of (m5 (j := 113) rfl rfl) (m5 (j := 114) rfl rfl) (m5 (j := 115) rfl rfl) (m1 (j := 1) rfl rfl) (m5 (j := 116) rfl rfl) (by decide +kernel)
theorem k_L_168 : KS RL 168 yL_fails cL_fails 3 (some .boolean) 3 := KS_of (m5 (j := 231) rfl rfl) (m5 (j := 232) rfl rfl) (m1 (j := 0) rfl rfl) (m5 (j := 233) rfl rfl) (by decide +kernel)
theorem k_L_191 : KV RL 191 RX5 yX5_isConsistent cX5_isConsistent 2 (some .boolean) 0 := KV_of (m3 (j := 191) rfl rfl) (m3 (j := 192) rfl rfl) (m3 (j := 193) rfl rfl) (m1 (j := 1) rfl rfl) (m3 (j := 194) rfl rfl) (by decide +kernel)
theorem k_L_102 : KV RL 102 RX5 yX5_tolerance cX5_tolerance 1 (some .int) 0 := KV_of (m3 (j := 35) rfl rfl) (m3 (j := 36) rfl rfl) (m3 (j := 37) rfl rfl) (m1 (j := 1) rfl rfl) (m3 (j := 38) rfl rfl) (by decide +kernel)
theorem k_L_105 : KV RL 105 RX5 yX5_step cX5_step 1 (some .int) 0 := KV_of (m3 (j := 39) rfl rfl) (m3 (j := 40) rfl rfl) (m3 (j := 41) rfl rfl) (m1 (j := 1) rfl rfl) (m3 (j := 42) rfl rfl) (by decide +kernel)
theorem k_L_93 : KV RL 93 RX5 yX5_castTotal cX5_castTotal 1 (some .int) 0 := KV_of (m3 (j := 151) rfl rfl) (m3 (j := 152) rfl rfl) (m3 (j := 153) rfl rfl) (m1 (j := 1) rfl rfl) (m3 (j := 154) rfl rfl) (by decide +kernel)
theorem cl_L_195 : CL RL 195 1 4 [.null, .int 0, .int 0, .int 0] := ⟨RJ4, TJ4, rfl, in_J4, ⟨tyJ4, tyJ4_ok, fun j hj => by
  match j, hj with
  | 0, _ => rfl
  | 1, _ => rfl
  | 2, _ => rfl
  | 3, _ => rfl
  | j + 4, h => exact absurd h (by omega)⟩, m6 (j := 0) rfl rfl, m1 (j := 151) rfl rfl, m1 (j := 6) rfl rfl⟩
theorem k_L_197 : KI RL 197 yJ4_init_da8c8 cJ4_init_da8c8 1 0 := KI_of (m6 (j := 1) rfl rfl) (m1 (j := 153) rfl rfl) (m1 (j := 6) rfl rfl) (m1 (j := 154) rfl rfl) (by decide +kernel)
theorem k_L_200 : KV RL 200 RJ4 yJ4_append_15ec4 cJ4_append_15ec4 2 (some (.object "java/lang/StringBuilder")) 1 := KV_of (m6 (j := 2) rfl rfl) (m4 (j := 90) rfl rfl) (m4 (j := 91) rfl rfl) (m1 (j := 6) rfl rfl) (m4 (j := 92) rfl rfl) (by decide +kernel)
theorem k_L_204 : KV RL 204 RJ4 yJ4_append_bf812 cJ4_append_bf812 2 (some (.object "java/lang/StringBuilder")) 1 := KV_of (m6 (j := 3) rfl rfl) (m4 (j := 185) rfl rfl) (m4 (j := 186) rfl rfl) (m1 (j := 6) rfl rfl) (m4 (j := 187) rfl rfl) (by decide +kernel)
theorem k_L_211 : KV RL 211 RJ4 yJ4_toString_0e30d cJ4_toString_0e30d 1 (some (.object "java/lang/String")) 0 := KV_of (m6 (j := 4) rfl rfl) (m4 (j := 210) rfl rfl) (m4 (j := 211) rfl rfl) (m1 (j := 6) rfl rfl) (m4 (j := 212) rfl rfl) (by decide +kernel)
theorem k_L_84 : KV RL 84 RX5 yX5_batchSize cX5_batchSize 2 (some .int) 1 := KV_of (m3 (j := 61) rfl rfl) (m3 (j := 62) rfl rfl) (m3 (j := 63) rfl rfl) (m1 (j := 1) rfl rfl) (m3 (j := 64) rfl rfl) (by decide +kernel)
theorem k_L_90 : KV RL 90 RX5 yX5_squeak cX5_squeak 2 (some .int) 1 := KV_of (m3 (j := 69) rfl rfl) (m3 (j := 70) rfl rfl) (m3 (j := 71) rfl rfl) (m1 (j := 1) rfl rfl) (m3 (j := 72) rfl rfl) (by decide +kernel)
theorem k_L_123 : KV RL 123 RX5 yX5_uses cX5_uses 2 (some .int) 1 := KV_of (m3 (j := 16) rfl rfl) (m3 (j := 17) rfl rfl) (m3 (j := 18) rfl rfl) (m1 (j := 1) rfl rfl) (m3 (j := 19) rfl rfl) (by decide +kernel)
theorem k_L_108 : KV RL 108 RX5 yX5_stock cX5_stock 2 (some .int) 1 := KV_of (m3 (j := 24) rfl rfl) (m3 (j := 25) rfl rfl) (m3 (j := 26) rfl rfl) (m1 (j := 1) rfl rfl) (m3 (j := 27) rfl rfl) (by decide +kernel)
theorem k_L_215 : KV RL 215 RX5 yX5_possibleBows cX5_possibleBows 2 (some .int) 1 := KV_of (m3 (j := 130) rfl rfl) (m3 (j := 131) rfl rfl) (m3 (j := 132) rfl rfl) (m1 (j := 1) rfl rfl) (m3 (j := 133) rfl rfl) (by decide +kernel)
theorem k_L_218 : KV RL 218 RX5 yX5_nextSqueak cX5_nextSqueak 3 (some .int) 2 := KV_of (m3 (j := 125) rfl rfl) (m3 (j := 126) rfl rfl) (m3 (j := 127) rfl rfl) (m1 (j := 1) rfl rfl) (m3 (j := 128) rfl rfl) (by decide +kernel)
theorem k_L_221 : KV RL 221 RX5 yX5_metalInBatches cX5_metalInBatches 2 (some .int) 1 := KV_of (m3 (j := 135) rfl rfl) (m3 (j := 136) rfl rfl) (m3 (j := 137) rfl rfl) (m1 (j := 1) rfl rfl) (m3 (j := 138) rfl rfl) (by decide +kernel)
theorem k_L_224 : KV RL 224 RX5 yX5_metalByAccounts cX5_metalByAccounts 2 (some .int) 1 := KV_of (m3 (j := 143) rfl rfl) (m3 (j := 144) rfl rfl) (m3 (j := 145) rfl rfl) (m1 (j := 1) rfl rfl) (m3 (j := 146) rfl rfl) (by decide +kernel)
theorem k_L_227 : KV RL 227 RX5 yX5_sampleSize cX5_sampleSize 2 (some .int) 1 := KV_of (m3 (j := 98) rfl rfl) (m3 (j := 99) rfl rfl) (m3 (j := 100) rfl rfl) (m1 (j := 1) rfl rfl) (m3 (j := 101) rfl rfl) (by decide +kernel)
theorem k_L_230 : KV RL 230 RX5 yX5_wouldPass cX5_wouldPass 2 (some .boolean) 1 := KV_of (m3 (j := 103) rfl rfl) (m3 (j := 104) rfl rfl) (m3 (j := 105) rfl rfl) (m1 (j := 1) rfl rfl) (m3 (j := 106) rfl rfl) (by decide +kernel)
theorem k_L_233 : KV RL 233 RX5 yX5_neededTolerance cX5_neededTolerance 2 (some .int) 1 := KV_of (m3 (j := 108) rfl rfl) (m3 (j := 109) rfl rfl) (m3 (j := 110) rfl rfl) (m1 (j := 1) rfl rfl) (m3 (j := 111) rfl rfl) (by decide +kernel)
theorem k_L_236 : KS RL 236 yJ9_max_7cf53 cJ9_max_7cf53 2 (some .int) 2 := KS_of (m5 (j := 239) rfl rfl) (m2 (j := 230) rfl rfl) (m1 (j := 14) rfl rfl) (m2 (j := 231) rfl rfl) (by decide +kernel)
theorem k_L_241 : KV RL 241 RX5 yX5_neededToleranceByTrying cX5_neededToleranceByTrying 2 (some .int) 1 := KV_of (m3 (j := 117) rfl rfl) (m3 (j := 118) rfl rfl) (m3 (j := 119) rfl rfl) (m1 (j := 1) rfl rfl) (m3 (j := 120) rfl rfl) (by decide +kernel)
theorem k_L_244 : KV RL 244 RX5 yX5_goodBows cX5_goodBows 2 (some .int) 1 := KV_of (m3 (j := 93) rfl rfl) (m3 (j := 94) rfl rfl) (m3 (j := 95) rfl rfl) (m1 (j := 1) rfl rfl) (m3 (j := 96) rfl rfl) (by decide +kernel)
theorem k_L_126 : KV RL 126 RX5 yX5_isFailed cX5_isFailed 2 (some .boolean) 1 := KV_of (m3 (j := 52) rfl rfl) (m3 (j := 53) rfl rfl) (m3 (j := 54) rfl rfl) (m1 (j := 1) rfl rfl) (m3 (j := 55) rfl rfl) (by decide +kernel)
theorem k_L_111 : KV RL 111 RX5 yX5_lostGrams cX5_lostGrams 2 (some .int) 1 := KV_of (m3 (j := 163) rfl rfl) (m3 (j := 164) rfl rfl) (m3 (j := 165) rfl rfl) (m1 (j := 1) rfl rfl) (m3 (j := 166) rfl rfl) (by decide +kernel)
theorem k_L_99 : KV RL 99 RX5 yX5_meltedTotal cX5_meltedTotal 1 (some .int) 0 := KV_of (m3 (j := 159) rfl rfl) (m3 (j := 160) rfl rfl) (m3 (j := 161) rfl rfl) (m1 (j := 1) rfl rfl) (m3 (j := 162) rfl rfl) (by decide +kernel)
theorem k_L_87 : KV RL 87 RX5 yX5_firstBow cX5_firstBow 2 (some .int) 1 := KV_of (m3 (j := 65) rfl rfl) (m3 (j := 66) rfl rfl) (m3 (j := 67) rfl rfl) (m1 (j := 1) rfl rfl) (m3 (j := 68) rfl rfl) (by decide +kernel)
theorem k_L_96 : KV RL 96 RX5 yX5_soldTotal cX5_soldTotal 1 (some .int) 0 := KV_of (m3 (j := 155) rfl rfl) (m3 (j := 156) rfl rfl) (m3 (j := 157) rfl rfl) (m1 (j := 1) rfl rfl) (m3 (j := 158) rfl rfl) (by decide +kernel)
theorem k_L_247 : KV RL 247 RX5 yX5_soldShare cX5_soldShare 2 (some .float) 0 := KV_of (m3 (j := 171) rfl rfl) (m3 (j := 172) rfl rfl) (m3 (j := 173) rfl rfl) (m1 (j := 1) rfl rfl) (m3 (j := 174) rfl rfl) (by decide +kernel)
theorem k_L_252 : KS RL 252 yL_has cL_has 3 (some .boolean) 2 := KS_of (m5 (j := 199) rfl rfl) (m5 (j := 200) rfl rfl) (m1 (j := 0) rfl rfl) (m5 (j := 201) rfl rfl) (by decide +kernel)
theorem k_L_256 : KV RL 256 RX5 yX5_batchOf cX5_batchOf 2 (some .int) 1 := KV_of (m3 (j := 85) rfl rfl) (m3 (j := 86) rfl rfl) (m3 (j := 87) rfl rfl) (m1 (j := 1) rfl rfl) (m3 (j := 88) rfl rfl) (by decide +kernel)
theorem k_L_259 : KV RL 259 RX5 yX5_restore cX5_restore 1 (some .int) 0 := KV_of (m5 (j := 127) rfl rfl) (m5 (j := 128) rfl rfl) (m5 (j := 129) rfl rfl) (m1 (j := 1) rfl rfl) (m5 (j := 130) rfl rfl) (by decide +kernel)
theorem k_L_7 : KV RL 7 RJ0 yJ0_length_8abf5 cJ0_length_8abf5 1 (some .int) 0 := KV_of (m5 (j := 138) rfl rfl) (m3 (j := 234) rfl rfl) (m3 (j := 235) rfl rfl) (m1 (j := 7) rfl rfl) (m3 (j := 236) rfl rfl) (by decide +kernel)
theorem k_L_13 : KV RL 13 RJ0 yJ0_charAt_5068e cJ0_charAt_5068e 2 (some .char) 1 := KV_of (m5 (j := 139) rfl rfl) (m4 (j := 3) rfl rfl) (m4 (j := 4) rfl rfl) (m1 (j := 7) rfl rfl) (m4 (j := 5) rfl rfl) (by decide +kernel)
theorem k_L_17 : KV RL 17 RX5 yX5_type cX5_type 2 (some .int) 1 := KV_of (m5 (j := 140) rfl rfl) (m5 (j := 141) rfl rfl) (m5 (j := 142) rfl rfl) (m1 (j := 1) rfl rfl) (m5 (j := 143) rfl rfl) (by decide +kernel)
theorem k_L_114 : KV RL 114 RX5 yX5_parts cX5_parts 3 (some .int) 2 := KV_of (m5 (j := 205) rfl rfl) (m5 (j := 206) rfl rfl) (m5 (j := 207) rfl rfl) (m1 (j := 1) rfl rfl) (m5 (j := 208) rfl rfl) (by decide +kernel)
theorem k_L_117 : KV RL 117 RX5 yX5_mouldCount cX5_mouldCount 1 (some .int) 0 := KV_of (m5 (j := 213) rfl rfl) (m5 (j := 214) rfl rfl) (m5 (j := 215) rfl rfl) (m1 (j := 1) rfl rfl) (m5 (j := 216) rfl rfl) (by decide +kernel)
theorem k_L_120 : KV RL 120 RX5 yX5_mouldLength cX5_mouldLength 2 (some .int) 1 := KV_of (m5 (j := 217) rfl rfl) (m5 (j := 218) rfl rfl) (m5 (j := 219) rfl rfl) (m1 (j := 1) rfl rfl) (m5 (j := 220) rfl rfl) (by decide +kernel)
theorem k_L_129 : KS RL 129 yL_squeaks cL_squeaks 4 (some (.array .int)) 2 := KS_of (m5 (j := 225) rfl rfl) (m5 (j := 226) rfl rfl) (m1 (j := 0) rfl rfl) (m5 (j := 227) rfl rfl) (by decide +kernel)
theorem kw_L_30 : KSW RL 30 yL_act cL_act 6 (some .int) [(0, 56, 117, 74), (57, 62, 117, 74), (63, 69, 117, 74), (70, 78, 117, 74), (79, 92, 117, 74), (93, 98, 117, 74), (99, 104, 117, 74), (105, 110, 117, 74), (111, 116, 117, 74), (0, 56, 121, 76), (57, 62, 121, 76), (63, 69, 121, 76), (70, 78, 121, 76), (79, 92, 121, 76), (93, 98, 121, 76), (99, 104, 121, 76), (105, 110, 121, 76), (111, 116, 121, 76), (0, 56, 126, 78), (57, 62, 126, 78), (63, 69, 126, 78), (70, 78, 126, 78), (79, 92, 126, 78), (93, 98, 126, 78), (99, 104, 126, 78), (105, 110, 126, 78), (111, 116, 126, 78), (0, 56, 131, 80), (57, 62, 131, 80), (63, 69, 131, 80), (70, 78, 131, 80), (79, 92, 131, 80), (93, 98, 131, 80), (99, 104, 131, 80), (105, 110, 131, 80), (111, 116, 131, 80), (0, 56, 136, 82), (57, 62, 136, 82), (63, 69, 136, 82), (70, 78, 136, 82), (79, 92, 136, 82), (93, 98, 136, 82), (99, 104, 136, 82), (105, 110, 136, 82), (111, 116, 136, 82)] 5 := KSW_of (m5 (j := 170) rfl rfl) (m5 (j := 171) rfl rfl) (m1 (j := 0) rfl rfl) (m5 (j := 172) rfl rfl) (by decide +kernel)
theorem kw_L_158 : KSW RL 158 yL_runs cL_runs 2 (some .int) [(0, 4, 5, 76), (0, 4, 8, 78)] 1 := KSW_of (m5 (j := 228) rfl rfl) (m5 (j := 229) rfl rfl) (m1 (j := 0) rfl rfl) (m5 (j := 230) rfl rfl) (by decide +kernel)
