-- decode rows, as printed
theorem dL_at_0 : decode cL_at 0 = .ok (.iload_n 1, 1) := by decide +kernel
theorem dL_at_1 : decode cL_at 1 = .ok (.aload_n 0, 1) := by decide +kernel
theorem dL_at_2 : decode cL_at 2 = .ok (.arraylength, 1) := by decide +kernel
theorem dL_at_3 : decode cL_at 3 = .ok (.if_icmp .ge 9, 3) := by decide +kernel
theorem dL_at_6 : decode cL_at 6 = .ok (.aload_n 0, 1) := by decide +kernel
theorem dL_at_7 : decode cL_at 7 = .ok (.iload_n 1, 1) := by decide +kernel
theorem dL_at_8 : decode cL_at 8 = .ok (.iaload, 1) := by decide +kernel
theorem dL_at_9 : decode cL_at 9 = .ok (.goto 4, 3) := by decide +kernel
theorem dL_at_12 : decode cL_at 12 = .ok (.iconst 0, 1) := by decide +kernel
theorem dL_at_13 : decode cL_at 13 = .ok (.ireturn, 1) := by decide +kernel
theorem dL_put_0 : decode cL_put 0 = .ok (.iconst 0, 1) := by decide +kernel
theorem dL_put_1 : decode cL_put 1 = .ok (.istore_n 2, 1) := by decide +kernel
theorem dL_put_2 : decode cL_put 2 = .ok (.iload_n 2, 1) := by decide +kernel
theorem dL_put_3 : decode cL_put 3 = .ok (.aload_n 1, 1) := by decide +kernel
theorem dL_put_4 : decode cL_put 4 = .ok (.invokevirtual 7, 3) := by decide +kernel
theorem dL_put_7 : decode cL_put 7 = .ok (.if_icmp .ge 19, 3) := by decide +kernel
theorem dL_put_10 : decode cL_put 10 = .ok (.aload_n 0, 1) := by decide +kernel
theorem dL_put_11 : decode cL_put 11 = .ok (.aload_n 1, 1) := by decide +kernel
theorem dL_put_12 : decode cL_put 12 = .ok (.iload_n 2, 1) := by decide +kernel
theorem dL_put_13 : decode cL_put 13 = .ok (.invokevirtual 13, 3) := by decide +kernel
theorem dL_put_16 : decode cL_put 16 = .ok (.invokevirtual 17, 3) := by decide +kernel
theorem dL_put_19 : decode cL_put 19 = .ok (.pop, 1) := by decide +kernel
theorem dL_put_20 : decode cL_put 20 = .ok (.iinc 2 1, 3) := by decide +kernel
theorem dL_put_23 : decode cL_put 23 = .ok (.goto (-21), 3) := by decide +kernel
theorem dL_put_26 : decode cL_put 26 = .ok (.return_, 1) := by decide +kernel
theorem dL_build_0 : decode cL_build 0 = .ok (.new 18, 3) := by decide +kernel
theorem dL_build_3 : decode cL_build 3 = .ok (.dup, 1) := by decide +kernel
theorem dL_build_4 : decode cL_build 4 = .ok (.invokespecial 23, 3) := by decide +kernel
theorem dL_build_7 : decode cL_build 7 = .ok (.astore_n 1, 1) := by decide +kernel
theorem dL_build_8 : decode cL_build 8 = .ok (.aload_n 0, 1) := by decide +kernel
theorem dL_build_9 : decode cL_build 9 = .ok (.iconst 0, 1) := by decide +kernel
theorem dL_build_10 : decode cL_build 10 = .ok (.invokestatic 24, 3) := by decide +kernel
theorem dL_build_13 : decode cL_build 13 = .ok (.istore_n 2, 1) := by decide +kernel
theorem dL_build_14 : decode cL_build 14 = .ok (.iconst 0, 1) := by decide +kernel
theorem dL_build_15 : decode cL_build 15 = .ok (.istore_n 3, 1) := by decide +kernel
theorem dL_build_16 : decode cL_build 16 = .ok (.iload_n 3, 1) := by decide +kernel
theorem dL_build_17 : decode cL_build 17 = .ok (.iconst 2, 1) := by decide +kernel
theorem dL_build_18 : decode cL_build 18 = .ok (.iload_n 2, 1) := by decide +kernel
theorem dL_build_19 : decode cL_build 19 = .ok (.iconst 1, 1) := by decide +kernel
theorem dL_build_20 : decode cL_build 20 = .ok (.iand, 1) := by decide +kernel
theorem dL_build_21 : decode cL_build 21 = .ok (.iadd, 1) := by decide +kernel
theorem dL_build_22 : decode cL_build 22 = .ok (.if_icmp .ge 47, 3) := by decide +kernel
theorem dL_build_25 : decode cL_build 25 = .ok (.aload_n 1, 1) := by decide +kernel
theorem dL_build_26 : decode cL_build 26 = .ok (.iconst 0, 1) := by decide +kernel
theorem dL_build_27 : decode cL_build 27 = .ok (.iload_n 2, 1) := by decide +kernel
theorem dL_build_28 : decode cL_build 28 = .ok (.iconst 1, 1) := by decide +kernel
theorem dL_build_29 : decode cL_build 29 = .ok (.iconst 3, 1) := by decide +kernel
theorem dL_build_30 : decode cL_build 30 = .ok (.iload_n 3, 1) := by decide +kernel
theorem dL_build_31 : decode cL_build 31 = .ok (.imul, 1) := by decide +kernel
theorem dL_build_32 : decode cL_build 32 = .ok (.iadd, 1) := by decide +kernel
theorem dL_build_33 : decode cL_build 33 = .ok (.ishr, 1) := by decide +kernel
theorem dL_build_34 : decode cL_build 34 = .ok (.bipush 7, 2) := by decide +kernel
theorem dL_build_36 : decode cL_build 36 = .ok (.iand, 1) := by decide +kernel
theorem dL_build_37 : decode cL_build 37 = .ok (.iconst 5, 1) := by decide +kernel
theorem dL_build_38 : decode cL_build 38 = .ok (.irem, 1) := by decide +kernel
theorem dL_build_39 : decode cL_build 39 = .ok (.iload_n 2, 1) := by decide +kernel
theorem dL_build_40 : decode cL_build 40 = .ok (.iconst 2, 1) := by decide +kernel
theorem dL_build_41 : decode cL_build 41 = .ok (.iconst 4, 1) := by decide +kernel
theorem dL_build_42 : decode cL_build 42 = .ok (.iload_n 3, 1) := by decide +kernel
theorem dL_build_43 : decode cL_build 43 = .ok (.imul, 1) := by decide +kernel
theorem dL_build_44 : decode cL_build 44 = .ok (.iadd, 1) := by decide +kernel
theorem dL_build_45 : decode cL_build 45 = .ok (.ishr, 1) := by decide +kernel
theorem dL_build_46 : decode cL_build 46 = .ok (.iconst 3, 1) := by decide +kernel
theorem dL_build_47 : decode cL_build 47 = .ok (.iand, 1) := by decide +kernel
theorem dL_build_48 : decode cL_build 48 = .ok (.iconst 1, 1) := by decide +kernel
theorem dL_build_49 : decode cL_build 49 = .ok (.iload_n 2, 1) := by decide +kernel
theorem dL_build_50 : decode cL_build 50 = .ok (.iconst 3, 1) := by decide +kernel
theorem dL_build_51 : decode cL_build 51 = .ok (.iconst 5, 1) := by decide +kernel
theorem dL_build_52 : decode cL_build 52 = .ok (.iload_n 3, 1) := by decide +kernel
theorem dL_build_53 : decode cL_build 53 = .ok (.imul, 1) := by decide +kernel
theorem dL_build_54 : decode cL_build 54 = .ok (.iadd, 1) := by decide +kernel
theorem dL_build_55 : decode cL_build 55 = .ok (.ishr, 1) := by decide +kernel
theorem dL_build_56 : decode cL_build 56 = .ok (.iconst 3, 1) := by decide +kernel
theorem dL_build_57 : decode cL_build 57 = .ok (.iand, 1) := by decide +kernel
theorem dL_build_58 : decode cL_build 58 = .ok (.iadd, 1) := by decide +kernel
theorem dL_build_59 : decode cL_build 59 = .ok (.invokestatic 30, 3) := by decide +kernel
theorem dL_build_62 : decode cL_build 62 = .ok (.pop, 1) := by decide +kernel
theorem dL_build_63 : decode cL_build 63 = .ok (.iinc 3 1, 3) := by decide +kernel
theorem dL_build_66 : decode cL_build 66 = .ok (.goto (-50), 3) := by decide +kernel
theorem dL_build_69 : decode cL_build 69 = .ok (.iconst 0, 1) := by decide +kernel
theorem dL_build_70 : decode cL_build 70 = .ok (.istore_n 3, 1) := by decide +kernel
theorem dL_build_71 : decode cL_build 71 = .ok (.iload_n 3, 1) := by decide +kernel
theorem dL_build_72 : decode cL_build 72 = .ok (.iconst 2, 1) := by decide +kernel
theorem dL_build_73 : decode cL_build 73 = .ok (.if_icmp .ge 31, 3) := by decide +kernel
theorem dL_build_76 : decode cL_build 76 = .ok (.aload_n 1, 1) := by decide +kernel
theorem dL_build_77 : decode cL_build 77 = .ok (.iconst 1, 1) := by decide +kernel
theorem dL_build_78 : decode cL_build 78 = .ok (.iconst 1, 1) := by decide +kernel
theorem dL_build_79 : decode cL_build 79 = .ok (.iload_n 2, 1) := by decide +kernel
theorem dL_build_80 : decode cL_build 80 = .ok (.bipush 7, 2) := by decide +kernel
theorem dL_build_82 : decode cL_build 82 = .ok (.iload_n 3, 1) := by decide +kernel
theorem dL_build_83 : decode cL_build 83 = .ok (.imul, 1) := by decide +kernel
theorem dL_build_84 : decode cL_build 84 = .ok (.ishr, 1) := by decide +kernel
theorem dL_build_85 : decode cL_build 85 = .ok (.bipush 63, 2) := by decide +kernel
theorem dL_build_87 : decode cL_build 87 = .ok (.iand, 1) := by decide +kernel
theorem dL_build_88 : decode cL_build 88 = .ok (.bipush 50, 2) := by decide +kernel
theorem dL_build_90 : decode cL_build 90 = .ok (.irem, 1) := by decide +kernel
theorem dL_build_91 : decode cL_build 91 = .ok (.iadd, 1) := by decide +kernel
theorem dL_build_92 : decode cL_build 92 = .ok (.iconst 0, 1) := by decide +kernel
theorem dL_build_93 : decode cL_build 93 = .ok (.iconst 0, 1) := by decide +kernel
theorem dL_build_94 : decode cL_build 94 = .ok (.invokestatic 30, 3) := by decide +kernel
theorem dL_build_97 : decode cL_build 97 = .ok (.pop, 1) := by decide +kernel
theorem dL_build_98 : decode cL_build 98 = .ok (.iinc 3 1, 3) := by decide +kernel
theorem dL_build_101 : decode cL_build 101 = .ok (.goto (-30), 3) := by decide +kernel
theorem dL_build_104 : decode cL_build 104 = .ok (.iconst 0, 1) := by decide +kernel
theorem dL_build_105 : decode cL_build 105 = .ok (.istore_n 3, 1) := by decide +kernel
theorem dL_build_106 : decode cL_build 106 = .ok (.iload_n 3, 1) := by decide +kernel
theorem dL_build_107 : decode cL_build 107 = .ok (.bipush 9, 2) := by decide +kernel
theorem dL_build_109 : decode cL_build 109 = .ok (.if_icmp .ge 28, 3) := by decide +kernel
theorem dL_build_112 : decode cL_build 112 = .ok (.aload_n 1, 1) := by decide +kernel
theorem dL_build_113 : decode cL_build 113 = .ok (.iconst 2, 1) := by decide +kernel
theorem dL_build_114 : decode cL_build 114 = .ok (.iload_n 3, 1) := by decide +kernel
theorem dL_build_115 : decode cL_build 115 = .ok (.iconst 3, 1) := by decide +kernel
theorem dL_build_116 : decode cL_build 116 = .ok (.irem, 1) := by decide +kernel
theorem dL_build_117 : decode cL_build 117 = .ok (.bipush 60, 2) := by decide +kernel
theorem dL_build_119 : decode cL_build 119 = .ok (.iload_n 2, 1) := by decide +kernel
theorem dL_build_120 : decode cL_build 120 = .ok (.iload_n 3, 1) := by decide +kernel
theorem dL_build_121 : decode cL_build 121 = .ok (.ishr, 1) := by decide +kernel
theorem dL_build_122 : decode cL_build 122 = .ok (.bipush 31, 2) := by decide +kernel
theorem dL_build_124 : decode cL_build 124 = .ok (.iand, 1) := by decide +kernel
theorem dL_build_125 : decode cL_build 125 = .ok (.iadd, 1) := by decide +kernel
theorem dL_build_126 : decode cL_build 126 = .ok (.iconst 0, 1) := by decide +kernel
theorem dL_build_127 : decode cL_build 127 = .ok (.invokestatic 30, 3) := by decide +kernel
theorem dL_build_130 : decode cL_build 130 = .ok (.pop, 1) := by decide +kernel
theorem dL_build_131 : decode cL_build 131 = .ok (.iinc 3 1, 3) := by decide +kernel
theorem dL_build_134 : decode cL_build 134 = .ok (.goto (-28), 3) := by decide +kernel
theorem dL_build_137 : decode cL_build 137 = .ok (.iconst 1, 1) := by decide +kernel
theorem dL_build_138 : decode cL_build 138 = .ok (.istore_n 3, 1) := by decide +kernel
theorem dL_build_139 : decode cL_build 139 = .ok (.iload_n 3, 1) := by decide +kernel
theorem dL_build_140 : decode cL_build 140 = .ok (.bipush 13, 2) := by decide +kernel
theorem dL_build_142 : decode cL_build 142 = .ok (.if_icmp .ge 282, 3) := by decide +kernel
theorem dL_build_145 : decode cL_build 145 = .ok (.aload_n 0, 1) := by decide +kernel
theorem dL_build_146 : decode cL_build 146 = .ok (.iload_n 3, 1) := by decide +kernel
theorem dL_build_147 : decode cL_build 147 = .ok (.invokestatic 24, 3) := by decide +kernel
theorem dL_build_150 : decode cL_build 150 = .ok (.istore 4, 2) := by decide +kernel
theorem dL_build_152 : decode cL_build 152 = .ok (.aload_n 1, 1) := by decide +kernel
theorem dL_build_153 : decode cL_build 153 = .ok (.iconst 2, 1) := by decide +kernel
theorem dL_build_154 : decode cL_build 154 = .ok (.iload 4, 2) := by decide +kernel
theorem dL_build_156 : decode cL_build 156 = .ok (.iconst 3, 1) := by decide +kernel
theorem dL_build_157 : decode cL_build 157 = .ok (.iand, 1) := by decide +kernel
theorem dL_build_158 : decode cL_build 158 = .ok (.iconst 3, 1) := by decide +kernel
theorem dL_build_159 : decode cL_build 159 = .ok (.irem, 1) := by decide +kernel
theorem dL_build_160 : decode cL_build 160 = .ok (.iconst 1, 1) := by decide +kernel
theorem dL_build_161 : decode cL_build 161 = .ok (.iload 4, 2) := by decide +kernel
theorem dL_build_163 : decode cL_build 163 = .ok (.iconst 2, 1) := by decide +kernel
theorem dL_build_164 : decode cL_build 164 = .ok (.ishr, 1) := by decide +kernel
theorem dL_build_165 : decode cL_build 165 = .ok (.bipush 63, 2) := by decide +kernel
theorem dL_build_167 : decode cL_build 167 = .ok (.iand, 1) := by decide +kernel
theorem dL_build_168 : decode cL_build 168 = .ok (.iadd, 1) := by decide +kernel
theorem dL_build_169 : decode cL_build 169 = .ok (.iconst 0, 1) := by decide +kernel
theorem dL_build_170 : decode cL_build 170 = .ok (.invokestatic 30, 3) := by decide +kernel
theorem dL_build_173 : decode cL_build 173 = .ok (.pop, 1) := by decide +kernel
theorem dL_build_174 : decode cL_build 174 = .ok (.aload_n 1, 1) := by decide +kernel
theorem dL_build_175 : decode cL_build 175 = .ok (.iconst 3, 1) := by decide +kernel
theorem dL_build_176 : decode cL_build 176 = .ok (.iload 4, 2) := by decide +kernel
theorem dL_build_178 : decode cL_build 178 = .ok (.bipush 8, 2) := by decide +kernel
theorem dL_build_180 : decode cL_build 180 = .ok (.ishr, 1) := by decide +kernel
theorem dL_build_181 : decode cL_build 181 = .ok (.bipush 7, 2) := by decide +kernel
theorem dL_build_183 : decode cL_build 183 = .ok (.iand, 1) := by decide +kernel
theorem dL_build_184 : decode cL_build 184 = .ok (.aload_n 1, 1) := by decide +kernel
theorem dL_build_185 : decode cL_build 185 = .ok (.invokevirtual 34, 3) := by decide +kernel
theorem dL_build_188 : decode cL_build 188 = .ok (.irem, 1) := by decide +kernel
theorem dL_build_189 : decode cL_build 189 = .ok (.iload 4, 2) := by decide +kernel
theorem dL_build_191 : decode cL_build 191 = .ok (.bipush 11, 2) := by decide +kernel
theorem dL_build_193 : decode cL_build 193 = .ok (.ishr, 1) := by decide +kernel
theorem dL_build_194 : decode cL_build 194 = .ok (.iconst 1, 1) := by decide +kernel
theorem dL_build_195 : decode cL_build 195 = .ok (.iand, 1) := by decide +kernel
theorem dL_build_196 : decode cL_build 196 = .ok (.iconst 1, 1) := by decide +kernel
theorem dL_build_197 : decode cL_build 197 = .ok (.iload 4, 2) := by decide +kernel
theorem dL_build_199 : decode cL_build 199 = .ok (.bipush 12, 2) := by decide +kernel
theorem dL_build_201 : decode cL_build 201 = .ok (.ishr, 1) := by decide +kernel
theorem dL_build_202 : decode cL_build 202 = .ok (.bipush 7, 2) := by decide +kernel
theorem dL_build_204 : decode cL_build 204 = .ok (.iand, 1) := by decide +kernel
theorem dL_build_205 : decode cL_build 205 = .ok (.iadd, 1) := by decide +kernel
theorem dL_build_206 : decode cL_build 206 = .ok (.invokestatic 30, 3) := by decide +kernel
theorem dL_build_209 : decode cL_build 209 = .ok (.pop, 1) := by decide +kernel
theorem dL_build_210 : decode cL_build 210 = .ok (.aload_n 1, 1) := by decide +kernel
theorem dL_build_211 : decode cL_build 211 = .ok (.invokevirtual 37, 3) := by decide +kernel
theorem dL_build_214 : decode cL_build 214 = .ok (.istore 5, 2) := by decide +kernel
theorem dL_build_216 : decode cL_build 216 = .ok (.iload 5, 2) := by decide +kernel
theorem dL_build_218 : decode cL_build 218 = .ok (.ifCond .le 21, 3) := by decide +kernel
theorem dL_build_221 : decode cL_build 221 = .ok (.aload_n 1, 1) := by decide +kernel
theorem dL_build_222 : decode cL_build 222 = .ok (.iload 4, 2) := by decide +kernel
theorem dL_build_224 : decode cL_build 224 = .ok (.bipush 15, 2) := by decide +kernel
theorem dL_build_226 : decode cL_build 226 = .ok (.ishr, 1) := by decide +kernel
theorem dL_build_227 : decode cL_build 227 = .ok (.bipush 7, 2) := by decide +kernel
theorem dL_build_229 : decode cL_build 229 = .ok (.iand, 1) := by decide +kernel
theorem dL_build_230 : decode cL_build 230 = .ok (.iload 5, 2) := by decide +kernel
theorem dL_build_232 : decode cL_build 232 = .ok (.irem, 1) := by decide +kernel
theorem dL_build_233 : decode cL_build 233 = .ok (.invokevirtual 40, 3) := by decide +kernel
theorem dL_build_236 : decode cL_build 236 = .ok (.goto 4, 3) := by decide +kernel
theorem dL_build_239 : decode cL_build 239 = .ok (.iconst 0, 1) := by decide +kernel
theorem dL_build_240 : decode cL_build 240 = .ok (.istore 6, 2) := by decide +kernel
theorem dL_build_242 : decode cL_build 242 = .ok (.iload 4, 2) := by decide +kernel
theorem dL_build_244 : decode cL_build 244 = .ok (.bipush 18, 2) := by decide +kernel
theorem dL_build_246 : decode cL_build 246 = .ok (.ishr, 1) := by decide +kernel
theorem dL_build_247 : decode cL_build 247 = .ok (.iconst 1, 1) := by decide +kernel
theorem dL_build_248 : decode cL_build 248 = .ok (.iand, 1) := by decide +kernel
theorem dL_build_249 : decode cL_build 249 = .ok (.ifCond .ne 13, 3) := by decide +kernel
theorem dL_build_252 : decode cL_build 252 = .ok (.aload_n 1, 1) := by decide +kernel
theorem dL_build_253 : decode cL_build 253 = .ok (.iconst 4, 1) := by decide +kernel
theorem dL_build_254 : decode cL_build 254 = .ok (.iload 6, 2) := by decide +kernel
theorem dL_build_256 : decode cL_build 256 = .ok (.iconst 0, 1) := by decide +kernel
theorem dL_build_257 : decode cL_build 257 = .ok (.iconst 0, 1) := by decide +kernel
theorem dL_build_258 : decode cL_build 258 = .ok (.invokestatic 30, 3) := by decide +kernel
theorem dL_build_261 : decode cL_build 261 = .ok (.pop, 1) := by decide +kernel
theorem dL_build_262 : decode cL_build 262 = .ok (.iload 4, 2) := by decide +kernel
theorem dL_build_264 : decode cL_build 264 = .ok (.bipush 18, 2) := by decide +kernel
theorem dL_build_266 : decode cL_build 266 = .ok (.ishr, 1) := by decide +kernel
theorem dL_build_267 : decode cL_build 267 = .ok (.iconst 3, 1) := by decide +kernel
theorem dL_build_268 : decode cL_build 268 = .ok (.iand, 1) := by decide +kernel
theorem dL_build_269 : decode cL_build 269 = .ok (.iconst 1, 1) := by decide +kernel
theorem dL_build_270 : decode cL_build 270 = .ok (.if_icmp .ne 13, 3) := by decide +kernel
theorem dL_build_273 : decode cL_build 273 = .ok (.aload_n 1, 1) := by decide +kernel
theorem dL_build_274 : decode cL_build 274 = .ok (.iconst 5, 1) := by decide +kernel
theorem dL_build_275 : decode cL_build 275 = .ok (.iload 6, 2) := by decide +kernel
theorem dL_build_277 : decode cL_build 277 = .ok (.iconst 0, 1) := by decide +kernel
theorem dL_build_278 : decode cL_build 278 = .ok (.iconst 0, 1) := by decide +kernel
theorem dL_build_279 : decode cL_build 279 = .ok (.invokestatic 30, 3) := by decide +kernel
theorem dL_build_282 : decode cL_build 282 = .ok (.pop, 1) := by decide +kernel
theorem dL_build_283 : decode cL_build 283 = .ok (.iload 4, 2) := by decide +kernel
theorem dL_build_285 : decode cL_build 285 = .ok (.bipush 20, 2) := by decide +kernel
theorem dL_build_287 : decode cL_build 287 = .ok (.ishr, 1) := by decide +kernel
theorem dL_build_288 : decode cL_build 288 = .ok (.iconst 3, 1) := by decide +kernel
theorem dL_build_289 : decode cL_build 289 = .ok (.iand, 1) := by decide +kernel
theorem dL_build_290 : decode cL_build 290 = .ok (.ifCond .ne 19, 3) := by decide +kernel
theorem dL_build_293 : decode cL_build 293 = .ok (.aload_n 1, 1) := by decide +kernel
theorem dL_build_294 : decode cL_build 294 = .ok (.bipush 6, 2) := by decide +kernel
theorem dL_build_296 : decode cL_build 296 = .ok (.iload 4, 2) := by decide +kernel
theorem dL_build_298 : decode cL_build 298 = .ok (.bipush 11, 2) := by decide +kernel
theorem dL_build_300 : decode cL_build 300 = .ok (.ishr, 1) := by decide +kernel
theorem dL_build_301 : decode cL_build 301 = .ok (.iconst 1, 1) := by decide +kernel
theorem dL_build_302 : decode cL_build 302 = .ok (.iand, 1) := by decide +kernel
theorem dL_build_303 : decode cL_build 303 = .ok (.iconst 0, 1) := by decide +kernel
theorem dL_build_304 : decode cL_build 304 = .ok (.iconst 0, 1) := by decide +kernel
theorem dL_build_305 : decode cL_build 305 = .ok (.invokestatic 30, 3) := by decide +kernel
theorem dL_build_308 : decode cL_build 308 = .ok (.pop, 1) := by decide +kernel
theorem dL_build_309 : decode cL_build 309 = .ok (.iload 4, 2) := by decide +kernel
theorem dL_build_311 : decode cL_build 311 = .ok (.bipush 20, 2) := by decide +kernel
theorem dL_build_313 : decode cL_build 313 = .ok (.ishr, 1) := by decide +kernel
theorem dL_build_314 : decode cL_build 314 = .ok (.bipush 7, 2) := by decide +kernel
theorem dL_build_316 : decode cL_build 316 = .ok (.iand, 1) := by decide +kernel
theorem dL_build_317 : decode cL_build 317 = .ok (.iconst 1, 1) := by decide +kernel
theorem dL_build_318 : decode cL_build 318 = .ok (.if_icmp .ne 23, 3) := by decide +kernel
theorem dL_build_321 : decode cL_build 321 = .ok (.aload_n 1, 1) := by decide +kernel
theorem dL_build_322 : decode cL_build 322 = .ok (.bipush 7, 2) := by decide +kernel
theorem dL_build_324 : decode cL_build 324 = .ok (.iload 4, 2) := by decide +kernel
theorem dL_build_326 : decode cL_build 326 = .ok (.bipush 23, 2) := by decide +kernel
theorem dL_build_328 : decode cL_build 328 = .ok (.ishr, 1) := by decide +kernel
theorem dL_build_329 : decode cL_build 329 = .ok (.bipush 127, 2) := by decide +kernel
theorem dL_build_331 : decode cL_build 331 = .ok (.iand, 1) := by decide +kernel
theorem dL_build_332 : decode cL_build 332 = .ok (.bipush 100, 2) := by decide +kernel
theorem dL_build_334 : decode cL_build 334 = .ok (.irem, 1) := by decide +kernel
theorem dL_build_335 : decode cL_build 335 = .ok (.iconst 0, 1) := by decide +kernel
theorem dL_build_336 : decode cL_build 336 = .ok (.iconst 0, 1) := by decide +kernel
theorem dL_build_337 : decode cL_build 337 = .ok (.invokestatic 30, 3) := by decide +kernel
theorem dL_build_340 : decode cL_build 340 = .ok (.pop, 1) := by decide +kernel
theorem dL_build_341 : decode cL_build 341 = .ok (.iload 4, 2) := by decide +kernel
theorem dL_build_343 : decode cL_build 343 = .ok (.bipush 20, 2) := by decide +kernel
theorem dL_build_345 : decode cL_build 345 = .ok (.ishr, 1) := by decide +kernel
theorem dL_build_346 : decode cL_build 346 = .ok (.bipush 7, 2) := by decide +kernel
theorem dL_build_348 : decode cL_build 348 = .ok (.iand, 1) := by decide +kernel
theorem dL_build_349 : decode cL_build 349 = .ok (.iconst 2, 1) := by decide +kernel
theorem dL_build_350 : decode cL_build 350 = .ok (.if_icmp .ne 24, 3) := by decide +kernel
theorem dL_build_353 : decode cL_build 353 = .ok (.aload_n 1, 1) := by decide +kernel
theorem dL_build_354 : decode cL_build 354 = .ok (.bipush 8, 2) := by decide +kernel
theorem dL_build_356 : decode cL_build 356 = .ok (.iconst 1, 1) := by decide +kernel
theorem dL_build_357 : decode cL_build 357 = .ok (.iload 4, 2) := by decide +kernel
theorem dL_build_359 : decode cL_build 359 = .ok (.bipush 23, 2) := by decide +kernel
theorem dL_build_361 : decode cL_build 361 = .ok (.ishr, 1) := by decide +kernel
theorem dL_build_362 : decode cL_build 362 = .ok (.bipush 7, 2) := by decide +kernel
theorem dL_build_364 : decode cL_build 364 = .ok (.iand, 1) := by decide +kernel
theorem dL_build_365 : decode cL_build 365 = .ok (.iconst 5, 1) := by decide +kernel
theorem dL_build_366 : decode cL_build 366 = .ok (.irem, 1) := by decide +kernel
theorem dL_build_367 : decode cL_build 367 = .ok (.iadd, 1) := by decide +kernel
theorem dL_build_368 : decode cL_build 368 = .ok (.iconst 0, 1) := by decide +kernel
theorem dL_build_369 : decode cL_build 369 = .ok (.iconst 0, 1) := by decide +kernel
theorem dL_build_370 : decode cL_build 370 = .ok (.invokestatic 30, 3) := by decide +kernel
theorem dL_build_373 : decode cL_build 373 = .ok (.pop, 1) := by decide +kernel
theorem dL_build_374 : decode cL_build 374 = .ok (.iload 4, 2) := by decide +kernel
theorem dL_build_376 : decode cL_build 376 = .ok (.bipush 20, 2) := by decide +kernel
theorem dL_build_378 : decode cL_build 378 = .ok (.ishr, 1) := by decide +kernel
theorem dL_build_379 : decode cL_build 379 = .ok (.bipush 7, 2) := by decide +kernel
theorem dL_build_381 : decode cL_build 381 = .ok (.iand, 1) := by decide +kernel
theorem dL_build_382 : decode cL_build 382 = .ok (.iconst 3, 1) := by decide +kernel
theorem dL_build_383 : decode cL_build 383 = .ok (.if_icmp .ne 35, 3) := by decide +kernel
theorem dL_build_386 : decode cL_build 386 = .ok (.aload_n 1, 1) := by decide +kernel
theorem dL_build_387 : decode cL_build 387 = .ok (.iconst 0, 1) := by decide +kernel
theorem dL_build_388 : decode cL_build 388 = .ok (.iload 4, 2) := by decide +kernel
theorem dL_build_390 : decode cL_build 390 = .ok (.bipush 23, 2) := by decide +kernel
theorem dL_build_392 : decode cL_build 392 = .ok (.ishr, 1) := by decide +kernel
theorem dL_build_393 : decode cL_build 393 = .ok (.bipush 15, 2) := by decide +kernel
theorem dL_build_395 : decode cL_build 395 = .ok (.iand, 1) := by decide +kernel
theorem dL_build_396 : decode cL_build 396 = .ok (.bipush 10, 2) := by decide +kernel
theorem dL_build_398 : decode cL_build 398 = .ok (.irem, 1) := by decide +kernel
theorem dL_build_399 : decode cL_build 399 = .ok (.iload 4, 2) := by decide +kernel
theorem dL_build_401 : decode cL_build 401 = .ok (.bipush 25, 2) := by decide +kernel
theorem dL_build_403 : decode cL_build 403 = .ok (.ishr, 1) := by decide +kernel
theorem dL_build_404 : decode cL_build 404 = .ok (.bipush 7, 2) := by decide +kernel
theorem dL_build_406 : decode cL_build 406 = .ok (.iand, 1) := by decide +kernel
theorem dL_build_407 : decode cL_build 407 = .ok (.iload 4, 2) := by decide +kernel
theorem dL_build_409 : decode cL_build 409 = .ok (.bipush 27, 2) := by decide +kernel
theorem dL_build_411 : decode cL_build 411 = .ok (.ishr, 1) := by decide +kernel
theorem dL_build_412 : decode cL_build 412 = .ok (.iconst 3, 1) := by decide +kernel
theorem dL_build_413 : decode cL_build 413 = .ok (.iand, 1) := by decide +kernel
theorem dL_build_414 : decode cL_build 414 = .ok (.invokestatic 30, 3) := by decide +kernel
theorem dL_build_417 : decode cL_build 417 = .ok (.pop, 1) := by decide +kernel
theorem dL_build_418 : decode cL_build 418 = .ok (.iinc 3 1, 3) := by decide +kernel
theorem dL_build_421 : decode cL_build 421 = .ok (.goto (-282), 3) := by decide +kernel
theorem dL_build_424 : decode cL_build 424 = .ok (.aload_n 1, 1) := by decide +kernel
theorem dL_build_425 : decode cL_build 425 = .ok (.areturn, 1) := by decide +kernel
theorem dL_act_0 : decode cL_act 0 = .ok (.iload_n 1, 1) := by decide +kernel
theorem dL_act_1 : decode cL_act 1 = .ok (.tableswitch 110 0 7 #[47, 56, 62, 69, 78, 92, 98, 104], 47) := by decide +kernel
theorem dL_act_48 : decode cL_act 48 = .ok (.aload_n 0, 1) := by decide +kernel
theorem dL_act_49 : decode cL_act 49 = .ok (.iload_n 2, 1) := by decide +kernel
theorem dL_act_50 : decode cL_act 50 = .ok (.iload_n 3, 1) := by decide +kernel
theorem dL_act_51 : decode cL_act 51 = .ok (.iload 4, 2) := by decide +kernel
theorem dL_act_53 : decode cL_act 53 = .ok (.invokevirtual 44, 3) := by decide +kernel
theorem dL_act_56 : decode cL_act 56 = .ok (.ireturn, 1) := by decide +kernel
theorem dL_act_57 : decode cL_act 57 = .ok (.aload_n 0, 1) := by decide +kernel
theorem dL_act_58 : decode cL_act 58 = .ok (.iload_n 2, 1) := by decide +kernel
theorem dL_act_59 : decode cL_act 59 = .ok (.invokevirtual 48, 3) := by decide +kernel
theorem dL_act_62 : decode cL_act 62 = .ok (.ireturn, 1) := by decide +kernel
theorem dL_act_63 : decode cL_act 63 = .ok (.aload_n 0, 1) := by decide +kernel
theorem dL_act_64 : decode cL_act 64 = .ok (.iload_n 2, 1) := by decide +kernel
theorem dL_act_65 : decode cL_act 65 = .ok (.iload_n 3, 1) := by decide +kernel
theorem dL_act_66 : decode cL_act 66 = .ok (.invokevirtual 51, 3) := by decide +kernel
theorem dL_act_69 : decode cL_act 69 = .ok (.ireturn, 1) := by decide +kernel
theorem dL_act_70 : decode cL_act 70 = .ok (.aload_n 0, 1) := by decide +kernel
theorem dL_act_71 : decode cL_act 71 = .ok (.iload_n 2, 1) := by decide +kernel
theorem dL_act_72 : decode cL_act 72 = .ok (.iload_n 3, 1) := by decide +kernel
theorem dL_act_73 : decode cL_act 73 = .ok (.iload 4, 2) := by decide +kernel
theorem dL_act_75 : decode cL_act 75 = .ok (.invokevirtual 55, 3) := by decide +kernel
theorem dL_act_78 : decode cL_act 78 = .ok (.ireturn, 1) := by decide +kernel
theorem dL_act_79 : decode cL_act 79 = .ok (.aload_n 0, 1) := by decide +kernel
theorem dL_act_80 : decode cL_act 80 = .ok (.iload_n 2, 1) := by decide +kernel
theorem dL_act_81 : decode cL_act 81 = .ok (.invokevirtual 58, 3) := by decide +kernel
theorem dL_act_84 : decode cL_act 84 = .ok (.ifCond .eq 7, 3) := by decide +kernel
theorem dL_act_87 : decode cL_act 87 = .ok (.iconst 1, 1) := by decide +kernel
theorem dL_act_88 : decode cL_act 88 = .ok (.goto 4, 3) := by decide +kernel
theorem dL_act_91 : decode cL_act 91 = .ok (.iconst 0, 1) := by decide +kernel
theorem dL_act_92 : decode cL_act 92 = .ok (.ireturn, 1) := by decide +kernel
theorem dL_act_93 : decode cL_act 93 = .ok (.aload_n 0, 1) := by decide +kernel
theorem dL_act_94 : decode cL_act 94 = .ok (.iload_n 2, 1) := by decide +kernel
theorem dL_act_95 : decode cL_act 95 = .ok (.invokevirtual 62, 3) := by decide +kernel
theorem dL_act_98 : decode cL_act 98 = .ok (.ireturn, 1) := by decide +kernel
theorem dL_act_99 : decode cL_act 99 = .ok (.aload_n 0, 1) := by decide +kernel
theorem dL_act_100 : decode cL_act 100 = .ok (.iload_n 2, 1) := by decide +kernel
theorem dL_act_101 : decode cL_act 101 = .ok (.invokevirtual 65, 3) := by decide +kernel
theorem dL_act_104 : decode cL_act 104 = .ok (.ireturn, 1) := by decide +kernel
theorem dL_act_105 : decode cL_act 105 = .ok (.aload_n 0, 1) := by decide +kernel
theorem dL_act_106 : decode cL_act 106 = .ok (.iload_n 2, 1) := by decide +kernel
theorem dL_act_107 : decode cL_act 107 = .ok (.invokevirtual 68, 3) := by decide +kernel
theorem dL_act_110 : decode cL_act 110 = .ok (.ireturn, 1) := by decide +kernel
theorem dL_act_111 : decode cL_act 111 = .ok (.aload_n 0, 1) := by decide +kernel
theorem dL_act_112 : decode cL_act 112 = .ok (.iload_n 2, 1) := by decide +kernel
theorem dL_act_113 : decode cL_act 113 = .ok (.invokevirtual 71, 3) := by decide +kernel
theorem dL_act_116 : decode cL_act 116 = .ok (.ireturn, 1) := by decide +kernel
theorem dL_act_117 : decode cL_act 117 = .ok (.astore 5, 2) := by decide +kernel
theorem dL_act_119 : decode cL_act 119 = .ok (.iconst (-1), 1) := by decide +kernel
theorem dL_act_120 : decode cL_act 120 = .ok (.ireturn, 1) := by decide +kernel
theorem dL_act_121 : decode cL_act 121 = .ok (.astore 5, 2) := by decide +kernel
theorem dL_act_123 : decode cL_act 123 = .ok (.bipush (-2), 2) := by decide +kernel
theorem dL_act_125 : decode cL_act 125 = .ok (.ireturn, 1) := by decide +kernel
theorem dL_act_126 : decode cL_act 126 = .ok (.astore 5, 2) := by decide +kernel
theorem dL_act_128 : decode cL_act 128 = .ok (.bipush (-3), 2) := by decide +kernel
theorem dL_act_130 : decode cL_act 130 = .ok (.ireturn, 1) := by decide +kernel
theorem dL_act_131 : decode cL_act 131 = .ok (.astore 5, 2) := by decide +kernel
theorem dL_act_133 : decode cL_act 133 = .ok (.bipush (-4), 2) := by decide +kernel
theorem dL_act_135 : decode cL_act 135 = .ok (.ireturn, 1) := by decide +kernel
theorem dL_act_136 : decode cL_act 136 = .ok (.astore 5, 2) := by decide +kernel
theorem dL_act_138 : decode cL_act 138 = .ok (.bipush (-5), 2) := by decide +kernel
theorem dL_act_140 : decode cL_act 140 = .ok (.ireturn, 1) := by decide +kernel
theorem dL_has_0 : decode cL_has 0 = .ok (.iconst 0, 1) := by decide +kernel
theorem dL_has_1 : decode cL_has 1 = .ok (.istore_n 2, 1) := by decide +kernel
theorem dL_has_2 : decode cL_has 2 = .ok (.iload_n 2, 1) := by decide +kernel
theorem dL_has_3 : decode cL_has 3 = .ok (.aload_n 0, 1) := by decide +kernel
theorem dL_has_4 : decode cL_has 4 = .ok (.invokevirtual 37, 3) := by decide +kernel
theorem dL_has_7 : decode cL_has 7 = .ok (.if_icmp .ge 20, 3) := by decide +kernel
theorem dL_has_10 : decode cL_has 10 = .ok (.aload_n 0, 1) := by decide +kernel
theorem dL_has_11 : decode cL_has 11 = .ok (.iload_n 2, 1) := by decide +kernel
theorem dL_has_12 : decode cL_has 12 = .ok (.invokevirtual 40, 3) := by decide +kernel
theorem dL_has_15 : decode cL_has 15 = .ok (.iload_n 1, 1) := by decide +kernel
theorem dL_has_16 : decode cL_has 16 = .ok (.if_icmp .ne 5, 3) := by decide +kernel
theorem dL_has_19 : decode cL_has 19 = .ok (.iconst 1, 1) := by decide +kernel
theorem dL_has_20 : decode cL_has 20 = .ok (.ireturn, 1) := by decide +kernel
theorem dL_has_21 : decode cL_has 21 = .ok (.iinc 2 1, 3) := by decide +kernel
theorem dL_has_24 : decode cL_has 24 = .ok (.goto (-22), 3) := by decide +kernel
theorem dL_has_27 : decode cL_has 27 = .ok (.iconst 0, 1) := by decide +kernel
theorem dL_has_28 : decode cL_has 28 = .ok (.ireturn, 1) := by decide +kernel
theorem dL_squeaks_0 : decode cL_squeaks 0 = .ok (.aload_n 0, 1) := by decide +kernel
theorem dL_squeaks_1 : decode cL_squeaks 1 = .ok (.iload_n 1, 1) := by decide +kernel
theorem dL_squeaks_2 : decode cL_squeaks 2 = .ok (.invokevirtual 84, 3) := by decide +kernel
theorem dL_squeaks_5 : decode cL_squeaks 5 = .ok (.newarray .int, 2) := by decide +kernel
theorem dL_squeaks_7 : decode cL_squeaks 7 = .ok (.astore_n 2, 1) := by decide +kernel
theorem dL_squeaks_8 : decode cL_squeaks 8 = .ok (.iconst 0, 1) := by decide +kernel
theorem dL_squeaks_9 : decode cL_squeaks 9 = .ok (.istore_n 3, 1) := by decide +kernel
theorem dL_squeaks_10 : decode cL_squeaks 10 = .ok (.iload_n 3, 1) := by decide +kernel
theorem dL_squeaks_11 : decode cL_squeaks 11 = .ok (.aload_n 2, 1) := by decide +kernel
theorem dL_squeaks_12 : decode cL_squeaks 12 = .ok (.arraylength, 1) := by decide +kernel
theorem dL_squeaks_13 : decode cL_squeaks 13 = .ok (.if_icmp .ge 23, 3) := by decide +kernel
theorem dL_squeaks_16 : decode cL_squeaks 16 = .ok (.aload_n 2, 1) := by decide +kernel
theorem dL_squeaks_17 : decode cL_squeaks 17 = .ok (.iload_n 3, 1) := by decide +kernel
theorem dL_squeaks_18 : decode cL_squeaks 18 = .ok (.aload_n 0, 1) := by decide +kernel
theorem dL_squeaks_19 : decode cL_squeaks 19 = .ok (.aload_n 0, 1) := by decide +kernel
theorem dL_squeaks_20 : decode cL_squeaks 20 = .ok (.iload_n 1, 1) := by decide +kernel
theorem dL_squeaks_21 : decode cL_squeaks 21 = .ok (.invokevirtual 87, 3) := by decide +kernel
theorem dL_squeaks_24 : decode cL_squeaks 24 = .ok (.iload_n 3, 1) := by decide +kernel
theorem dL_squeaks_25 : decode cL_squeaks 25 = .ok (.iadd, 1) := by decide +kernel
theorem dL_squeaks_26 : decode cL_squeaks 26 = .ok (.invokevirtual 90, 3) := by decide +kernel
theorem dL_squeaks_29 : decode cL_squeaks 29 = .ok (.iastore, 1) := by decide +kernel
theorem dL_squeaks_30 : decode cL_squeaks 30 = .ok (.iinc 3 1, 3) := by decide +kernel
theorem dL_squeaks_33 : decode cL_squeaks 33 = .ok (.goto (-23), 3) := by decide +kernel
theorem dL_squeaks_36 : decode cL_squeaks 36 = .ok (.aload_n 2, 1) := by decide +kernel
theorem dL_squeaks_37 : decode cL_squeaks 37 = .ok (.areturn, 1) := by decide +kernel
theorem dL_state_0 : decode cL_state 0 = .ok (.bipush 31, 2) := by decide +kernel
theorem dL_state_2 : decode cL_state 2 = .ok (.bipush 31, 2) := by decide +kernel
theorem dL_state_4 : decode cL_state 4 = .ok (.bipush 31, 2) := by decide +kernel
theorem dL_state_6 : decode cL_state 6 = .ok (.bipush 31, 2) := by decide +kernel
theorem dL_state_8 : decode cL_state 8 = .ok (.aload_n 0, 1) := by decide +kernel
theorem dL_state_9 : decode cL_state 9 = .ok (.invokevirtual 93, 3) := by decide +kernel
theorem dL_state_12 : decode cL_state 12 = .ok (.imul, 1) := by decide +kernel
theorem dL_state_13 : decode cL_state 13 = .ok (.aload_n 0, 1) := by decide +kernel
theorem dL_state_14 : decode cL_state 14 = .ok (.invokevirtual 96, 3) := by decide +kernel
theorem dL_state_17 : decode cL_state 17 = .ok (.iadd, 1) := by decide +kernel
theorem dL_state_18 : decode cL_state 18 = .ok (.imul, 1) := by decide +kernel
theorem dL_state_19 : decode cL_state 19 = .ok (.aload_n 0, 1) := by decide +kernel
theorem dL_state_20 : decode cL_state 20 = .ok (.invokevirtual 99, 3) := by decide +kernel
theorem dL_state_23 : decode cL_state 23 = .ok (.iadd, 1) := by decide +kernel
theorem dL_state_24 : decode cL_state 24 = .ok (.imul, 1) := by decide +kernel
theorem dL_state_25 : decode cL_state 25 = .ok (.aload_n 0, 1) := by decide +kernel
theorem dL_state_26 : decode cL_state 26 = .ok (.invokevirtual 102, 3) := by decide +kernel
theorem dL_state_29 : decode cL_state 29 = .ok (.iadd, 1) := by decide +kernel
theorem dL_state_30 : decode cL_state 30 = .ok (.imul, 1) := by decide +kernel
theorem dL_state_31 : decode cL_state 31 = .ok (.aload_n 0, 1) := by decide +kernel
theorem dL_state_32 : decode cL_state 32 = .ok (.invokevirtual 105, 3) := by decide +kernel
theorem dL_state_35 : decode cL_state 35 = .ok (.iadd, 1) := by decide +kernel
theorem dL_state_36 : decode cL_state 36 = .ok (.istore_n 1, 1) := by decide +kernel
theorem dL_state_37 : decode cL_state 37 = .ok (.iconst 0, 1) := by decide +kernel
theorem dL_state_38 : decode cL_state 38 = .ok (.istore_n 2, 1) := by decide +kernel
theorem dL_state_39 : decode cL_state 39 = .ok (.iload_n 2, 1) := by decide +kernel
theorem dL_state_40 : decode cL_state 40 = .ok (.iconst 3, 1) := by decide +kernel
theorem dL_state_41 : decode cL_state 41 = .ok (.if_icmp .ge 29, 3) := by decide +kernel
theorem dL_state_44 : decode cL_state 44 = .ok (.bipush 31, 2) := by decide +kernel
theorem dL_state_46 : decode cL_state 46 = .ok (.bipush 31, 2) := by decide +kernel
theorem dL_state_48 : decode cL_state 48 = .ok (.iload_n 1, 1) := by decide +kernel
theorem dL_state_49 : decode cL_state 49 = .ok (.imul, 1) := by decide +kernel
theorem dL_state_50 : decode cL_state 50 = .ok (.aload_n 0, 1) := by decide +kernel
theorem dL_state_51 : decode cL_state 51 = .ok (.iload_n 2, 1) := by decide +kernel
theorem dL_state_52 : decode cL_state 52 = .ok (.invokevirtual 108, 3) := by decide +kernel
theorem dL_state_55 : decode cL_state 55 = .ok (.iadd, 1) := by decide +kernel
theorem dL_state_56 : decode cL_state 56 = .ok (.imul, 1) := by decide +kernel
theorem dL_state_57 : decode cL_state 57 = .ok (.aload_n 0, 1) := by decide +kernel
theorem dL_state_58 : decode cL_state 58 = .ok (.iload_n 2, 1) := by decide +kernel
theorem dL_state_59 : decode cL_state 59 = .ok (.invokevirtual 111, 3) := by decide +kernel
theorem dL_state_62 : decode cL_state 62 = .ok (.iadd, 1) := by decide +kernel
theorem dL_state_63 : decode cL_state 63 = .ok (.istore_n 1, 1) := by decide +kernel
theorem dL_state_64 : decode cL_state 64 = .ok (.iinc 2 1, 3) := by decide +kernel
theorem dL_state_67 : decode cL_state 67 = .ok (.goto (-28), 3) := by decide +kernel
theorem dL_state_70 : decode cL_state 70 = .ok (.iconst 0, 1) := by decide +kernel
theorem dL_state_71 : decode cL_state 71 = .ok (.istore_n 2, 1) := by decide +kernel
theorem dL_state_72 : decode cL_state 72 = .ok (.iload_n 2, 1) := by decide +kernel
theorem dL_state_73 : decode cL_state 73 = .ok (.aload_n 0, 1) := by decide +kernel
theorem dL_state_74 : decode cL_state 74 = .ok (.invokevirtual 34, 3) := by decide +kernel
theorem dL_state_77 : decode cL_state 77 = .ok (.if_icmp .ge 34, 3) := by decide +kernel
theorem dL_state_80 : decode cL_state 80 = .ok (.iconst 0, 1) := by decide +kernel
theorem dL_state_81 : decode cL_state 81 = .ok (.istore_n 3, 1) := by decide +kernel
theorem dL_state_82 : decode cL_state 82 = .ok (.iload_n 3, 1) := by decide +kernel
theorem dL_state_83 : decode cL_state 83 = .ok (.iconst 3, 1) := by decide +kernel
theorem dL_state_84 : decode cL_state 84 = .ok (.if_icmp .ge 21, 3) := by decide +kernel
theorem dL_state_87 : decode cL_state 87 = .ok (.bipush 31, 2) := by decide +kernel
theorem dL_state_89 : decode cL_state 89 = .ok (.iload_n 1, 1) := by decide +kernel
theorem dL_state_90 : decode cL_state 90 = .ok (.imul, 1) := by decide +kernel
theorem dL_state_91 : decode cL_state 91 = .ok (.aload_n 0, 1) := by decide +kernel
theorem dL_state_92 : decode cL_state 92 = .ok (.iload_n 2, 1) := by decide +kernel
theorem dL_state_93 : decode cL_state 93 = .ok (.iload_n 3, 1) := by decide +kernel
theorem dL_state_94 : decode cL_state 94 = .ok (.invokevirtual 114, 3) := by decide +kernel
theorem dL_state_97 : decode cL_state 97 = .ok (.iadd, 1) := by decide +kernel
theorem dL_state_98 : decode cL_state 98 = .ok (.istore_n 1, 1) := by decide +kernel
theorem dL_state_99 : decode cL_state 99 = .ok (.iinc 3 1, 3) := by decide +kernel
theorem dL_state_102 : decode cL_state 102 = .ok (.goto (-20), 3) := by decide +kernel
theorem dL_state_105 : decode cL_state 105 = .ok (.iinc 2 1, 3) := by decide +kernel
theorem dL_state_108 : decode cL_state 108 = .ok (.goto (-36), 3) := by decide +kernel
theorem dL_state_111 : decode cL_state 111 = .ok (.iconst 0, 1) := by decide +kernel
theorem dL_state_112 : decode cL_state 112 = .ok (.istore_n 2, 1) := by decide +kernel
theorem dL_state_113 : decode cL_state 113 = .ok (.iload_n 2, 1) := by decide +kernel
theorem dL_state_114 : decode cL_state 114 = .ok (.aload_n 0, 1) := by decide +kernel
theorem dL_state_115 : decode cL_state 115 = .ok (.invokevirtual 117, 3) := by decide +kernel
theorem dL_state_118 : decode cL_state 118 = .ok (.if_icmp .ge 29, 3) := by decide +kernel
theorem dL_state_121 : decode cL_state 121 = .ok (.bipush 31, 2) := by decide +kernel
theorem dL_state_123 : decode cL_state 123 = .ok (.bipush 31, 2) := by decide +kernel
theorem dL_state_125 : decode cL_state 125 = .ok (.iload_n 1, 1) := by decide +kernel
theorem dL_state_126 : decode cL_state 126 = .ok (.imul, 1) := by decide +kernel
theorem dL_state_127 : decode cL_state 127 = .ok (.aload_n 0, 1) := by decide +kernel
theorem dL_state_128 : decode cL_state 128 = .ok (.iload_n 2, 1) := by decide +kernel
theorem dL_state_129 : decode cL_state 129 = .ok (.invokevirtual 120, 3) := by decide +kernel
theorem dL_state_132 : decode cL_state 132 = .ok (.iadd, 1) := by decide +kernel
theorem dL_state_133 : decode cL_state 133 = .ok (.imul, 1) := by decide +kernel
theorem dL_state_134 : decode cL_state 134 = .ok (.aload_n 0, 1) := by decide +kernel
theorem dL_state_135 : decode cL_state 135 = .ok (.iload_n 2, 1) := by decide +kernel
theorem dL_state_136 : decode cL_state 136 = .ok (.invokevirtual 123, 3) := by decide +kernel
theorem dL_state_139 : decode cL_state 139 = .ok (.iadd, 1) := by decide +kernel
theorem dL_state_140 : decode cL_state 140 = .ok (.istore_n 1, 1) := by decide +kernel
theorem dL_state_141 : decode cL_state 141 = .ok (.iinc 2 1, 3) := by decide +kernel
theorem dL_state_144 : decode cL_state 144 = .ok (.goto (-31), 3) := by decide +kernel
theorem dL_state_147 : decode cL_state 147 = .ok (.iconst 0, 1) := by decide +kernel
theorem dL_state_148 : decode cL_state 148 = .ok (.istore_n 2, 1) := by decide +kernel
theorem dL_state_149 : decode cL_state 149 = .ok (.iload_n 2, 1) := by decide +kernel
theorem dL_state_150 : decode cL_state 150 = .ok (.aload_n 0, 1) := by decide +kernel
theorem dL_state_151 : decode cL_state 151 = .ok (.invokevirtual 37, 3) := by decide +kernel
theorem dL_state_154 : decode cL_state 154 = .ok (.if_icmp .ge 91, 3) := by decide +kernel
theorem dL_state_157 : decode cL_state 157 = .ok (.aload_n 0, 1) := by decide +kernel
theorem dL_state_158 : decode cL_state 158 = .ok (.iload_n 2, 1) := by decide +kernel
theorem dL_state_159 : decode cL_state 159 = .ok (.invokevirtual 40, 3) := by decide +kernel
theorem dL_state_162 : decode cL_state 162 = .ok (.istore_n 3, 1) := by decide +kernel
theorem dL_state_163 : decode cL_state 163 = .ok (.bipush 31, 2) := by decide +kernel
theorem dL_state_165 : decode cL_state 165 = .ok (.bipush 31, 2) := by decide +kernel
theorem dL_state_167 : decode cL_state 167 = .ok (.bipush 31, 2) := by decide +kernel
theorem dL_state_169 : decode cL_state 169 = .ok (.iload_n 1, 1) := by decide +kernel
theorem dL_state_170 : decode cL_state 170 = .ok (.imul, 1) := by decide +kernel
theorem dL_state_171 : decode cL_state 171 = .ok (.iload_n 3, 1) := by decide +kernel
theorem dL_state_172 : decode cL_state 172 = .ok (.iadd, 1) := by decide +kernel
theorem dL_state_173 : decode cL_state 173 = .ok (.imul, 1) := by decide +kernel
theorem dL_state_174 : decode cL_state 174 = .ok (.aload_n 0, 1) := by decide +kernel
theorem dL_state_175 : decode cL_state 175 = .ok (.iload_n 3, 1) := by decide +kernel
theorem dL_state_176 : decode cL_state 176 = .ok (.invokevirtual 87, 3) := by decide +kernel
theorem dL_state_179 : decode cL_state 179 = .ok (.iadd, 1) := by decide +kernel
theorem dL_state_180 : decode cL_state 180 = .ok (.imul, 1) := by decide +kernel
theorem dL_state_181 : decode cL_state 181 = .ok (.aload_n 0, 1) := by decide +kernel
theorem dL_state_182 : decode cL_state 182 = .ok (.iload_n 3, 1) := by decide +kernel
theorem dL_state_183 : decode cL_state 183 = .ok (.invokevirtual 126, 3) := by decide +kernel
theorem dL_state_186 : decode cL_state 186 = .ok (.ifCond .eq 7, 3) := by decide +kernel
theorem dL_state_189 : decode cL_state 189 = .ok (.iconst 1, 1) := by decide +kernel
theorem dL_state_190 : decode cL_state 190 = .ok (.goto 4, 3) := by decide +kernel
theorem dL_state_193 : decode cL_state 193 = .ok (.iconst 0, 1) := by decide +kernel
theorem dL_state_194 : decode cL_state 194 = .ok (.iadd, 1) := by decide +kernel
theorem dL_state_195 : decode cL_state 195 = .ok (.istore_n 1, 1) := by decide +kernel
theorem dL_state_196 : decode cL_state 196 = .ok (.aload_n 0, 1) := by decide +kernel
theorem dL_state_197 : decode cL_state 197 = .ok (.iload_n 3, 1) := by decide +kernel
theorem dL_state_198 : decode cL_state 198 = .ok (.invokestatic 129, 3) := by decide +kernel
theorem dL_state_201 : decode cL_state 201 = .ok (.astore 4, 2) := by decide +kernel
theorem dL_state_203 : decode cL_state 203 = .ok (.aload 4, 2) := by decide +kernel
theorem dL_state_205 : decode cL_state 205 = .ok (.arraylength, 1) := by decide +kernel
theorem dL_state_206 : decode cL_state 206 = .ok (.istore 5, 2) := by decide +kernel
theorem dL_state_208 : decode cL_state 208 = .ok (.iconst 0, 1) := by decide +kernel
theorem dL_state_209 : decode cL_state 209 = .ok (.istore 6, 2) := by decide +kernel
theorem dL_state_211 : decode cL_state 211 = .ok (.iload 6, 2) := by decide +kernel
theorem dL_state_213 : decode cL_state 213 = .ok (.iload 5, 2) := by decide +kernel
theorem dL_state_215 : decode cL_state 215 = .ok (.if_icmp .ge 24, 3) := by decide +kernel
theorem dL_state_218 : decode cL_state 218 = .ok (.aload 4, 2) := by decide +kernel
theorem dL_state_220 : decode cL_state 220 = .ok (.iload 6, 2) := by decide +kernel
theorem dL_state_222 : decode cL_state 222 = .ok (.iaload, 1) := by decide +kernel
theorem dL_state_223 : decode cL_state 223 = .ok (.istore 7, 2) := by decide +kernel
theorem dL_state_225 : decode cL_state 225 = .ok (.bipush 31, 2) := by decide +kernel
theorem dL_state_227 : decode cL_state 227 = .ok (.iload_n 1, 1) := by decide +kernel
theorem dL_state_228 : decode cL_state 228 = .ok (.imul, 1) := by decide +kernel
theorem dL_state_229 : decode cL_state 229 = .ok (.iload 7, 2) := by decide +kernel
theorem dL_state_231 : decode cL_state 231 = .ok (.iadd, 1) := by decide +kernel
theorem dL_state_232 : decode cL_state 232 = .ok (.istore_n 1, 1) := by decide +kernel
theorem dL_state_233 : decode cL_state 233 = .ok (.iinc 6 1, 3) := by decide +kernel
theorem dL_state_236 : decode cL_state 236 = .ok (.goto (-25), 3) := by decide +kernel
theorem dL_state_239 : decode cL_state 239 = .ok (.iinc 2 1, 3) := by decide +kernel
theorem dL_state_242 : decode cL_state 242 = .ok (.goto (-93), 3) := by decide +kernel
theorem dL_state_245 : decode cL_state 245 = .ok (.bipush 31, 2) := by decide +kernel
theorem dL_state_247 : decode cL_state 247 = .ok (.iload_n 1, 1) := by decide +kernel
theorem dL_state_248 : decode cL_state 248 = .ok (.imul, 1) := by decide +kernel
theorem dL_state_249 : decode cL_state 249 = .ok (.aload_n 0, 1) := by decide +kernel
theorem dL_state_250 : decode cL_state 250 = .ok (.invokevirtual 37, 3) := by decide +kernel
theorem dL_state_253 : decode cL_state 253 = .ok (.iadd, 1) := by decide +kernel
theorem dL_state_254 : decode cL_state 254 = .ok (.ireturn, 1) := by decide +kernel
theorem dL_runs_0 : decode cL_runs 0 = .ok (.aload_n 0, 1) := by decide +kernel
theorem dL_runs_1 : decode cL_runs 1 = .ok (.invokevirtual 150, 3) := by decide +kernel
theorem dL_runs_4 : decode cL_runs 4 = .ok (.ireturn, 1) := by decide +kernel
theorem dL_runs_5 : decode cL_runs 5 = .ok (.astore_n 1, 1) := by decide +kernel
theorem dL_runs_6 : decode cL_runs 6 = .ok (.iconst (-1), 1) := by decide +kernel
theorem dL_runs_7 : decode cL_runs 7 = .ok (.ireturn, 1) := by decide +kernel
theorem dL_runs_8 : decode cL_runs 8 = .ok (.astore_n 1, 1) := by decide +kernel
theorem dL_runs_9 : decode cL_runs 9 = .ok (.bipush (-2), 2) := by decide +kernel
theorem dL_runs_11 : decode cL_runs 11 = .ok (.ireturn, 1) := by decide +kernel
theorem dL_fails_0 : decode cL_fails 0 = .ok (.aload_n 0, 1) := by decide +kernel
theorem dL_fails_1 : decode cL_fails 1 = .ok (.aload_n 1, 1) := by decide +kernel
theorem dL_fails_2 : decode cL_fails 2 = .ok (.invokestatic 146, 3) := by decide +kernel
theorem dL_fails_5 : decode cL_fails 5 = .ok (.aload_n 0, 1) := by decide +kernel
theorem dL_fails_6 : decode cL_fails 6 = .ok (.invokestatic 158, 3) := by decide +kernel
theorem dL_fails_9 : decode cL_fails 9 = .ok (.iconst (-1), 1) := by decide +kernel
theorem dL_fails_10 : decode cL_fails 10 = .ok (.if_icmp .ne 15, 3) := by decide +kernel
theorem dL_fails_13 : decode cL_fails 13 = .ok (.aload_n 0, 1) := by decide +kernel
theorem dL_fails_14 : decode cL_fails 14 = .ok (.invokevirtual 262, 3) := by decide +kernel
theorem dL_fails_17 : decode cL_fails 17 = .ok (.iload_n 2, 1) := by decide +kernel
theorem dL_fails_18 : decode cL_fails 18 = .ok (.if_icmp .ne 7, 3) := by decide +kernel
theorem dL_fails_21 : decode cL_fails 21 = .ok (.iconst 1, 1) := by decide +kernel
theorem dL_fails_22 : decode cL_fails 22 = .ok (.goto 4, 3) := by decide +kernel
theorem dL_fails_25 : decode cL_fails 25 = .ok (.iconst 0, 1) := by decide +kernel
theorem dL_fails_26 : decode cL_fails 26 = .ok (.ireturn, 1) := by decide +kernel
