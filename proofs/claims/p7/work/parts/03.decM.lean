/-! rows that decode: by program -/
theorem d_Model_init_0 : decode prog_13_method_1_code 0 = .ok (.aload_n 0, 1) := by decide +kernel
theorem d_Model_init_1 : decode prog_13_method_1_code 1 = .ok (.invokespecial 1, 3) := by decide +kernel
theorem d_Model_init_4 : decode prog_13_method_1_code 4 = .ok (.aload_n 0, 1) := by decide +kernel
theorem d_Model_init_5 : decode prog_13_method_1_code 5 = .ok (.iconst 3, 1) := by decide +kernel
theorem d_Model_init_6 : decode prog_13_method_1_code 6 = .ok (.putfield 7, 3) := by decide +kernel
theorem d_Model_init_9 : decode prog_13_method_1_code 9 = .ok (.aload_n 0, 1) := by decide +kernel
theorem d_Model_init_10 : decode prog_13_method_1_code 10 = .ok (.bipush 20, 2) := by decide +kernel
theorem d_Model_init_12 : decode prog_13_method_1_code 12 = .ok (.putfield 13, 3) := by decide +kernel
theorem d_Model_init_15 : decode prog_13_method_1_code 15 = .ok (.aload_n 0, 1) := by decide +kernel
theorem d_Model_init_16 : decode prog_13_method_1_code 16 = .ok (.bipush 96, 2) := by decide +kernel
theorem d_Model_init_18 : decode prog_13_method_1_code 18 = .ok (.newarray .int, 2) := by decide +kernel
theorem d_Model_init_20 : decode prog_13_method_1_code 20 = .ok (.putfield 16, 3) := by decide +kernel
theorem d_Model_init_23 : decode prog_13_method_1_code 23 = .ok (.aload_n 0, 1) := by decide +kernel
theorem d_Model_init_24 : decode prog_13_method_1_code 24 = .ok (.bipush 96, 2) := by decide +kernel
theorem d_Model_init_26 : decode prog_13_method_1_code 26 = .ok (.newarray .int, 2) := by decide +kernel
theorem d_Model_init_28 : decode prog_13_method_1_code 28 = .ok (.putfield 20, 3) := by decide +kernel
theorem d_Model_init_31 : decode prog_13_method_1_code 31 = .ok (.aload_n 0, 1) := by decide +kernel
theorem d_Model_init_32 : decode prog_13_method_1_code 32 = .ok (.bipush 96, 2) := by decide +kernel
theorem d_Model_init_34 : decode prog_13_method_1_code 34 = .ok (.newarray .int, 2) := by decide +kernel
theorem d_Model_init_36 : decode prog_13_method_1_code 36 = .ok (.putfield 23, 3) := by decide +kernel
theorem d_Model_init_39 : decode prog_13_method_1_code 39 = .ok (.aload_n 0, 1) := by decide +kernel
theorem d_Model_init_40 : decode prog_13_method_1_code 40 = .ok (.iconst 2, 1) := by decide +kernel
theorem d_Model_init_41 : decode prog_13_method_1_code 41 = .ok (.newarray .int, 2) := by decide +kernel
theorem d_Model_init_43 : decode prog_13_method_1_code 43 = .ok (.putfield 26, 3) := by decide +kernel
theorem d_Model_init_46 : decode prog_13_method_1_code 46 = .ok (.aload_n 0, 1) := by decide +kernel
theorem d_Model_init_47 : decode prog_13_method_1_code 47 = .ok (.sipush 2304, 3) := by decide +kernel
theorem d_Model_init_50 : decode prog_13_method_1_code 50 = .ok (.newarray .int, 2) := by decide +kernel
theorem d_Model_init_52 : decode prog_13_method_1_code 52 = .ok (.putfield 29, 3) := by decide +kernel
theorem d_Model_init_55 : decode prog_13_method_1_code 55 = .ok (.aload_n 0, 1) := by decide +kernel
theorem d_Model_init_56 : decode prog_13_method_1_code 56 = .ok (.bipush 48, 2) := by decide +kernel
theorem d_Model_init_58 : decode prog_13_method_1_code 58 = .ok (.newarray .int, 2) := by decide +kernel
theorem d_Model_init_60 : decode prog_13_method_1_code 60 = .ok (.putfield 32, 3) := by decide +kernel
theorem d_Model_init_63 : decode prog_13_method_1_code 63 = .ok (.aload_n 0, 1) := by decide +kernel
theorem d_Model_init_64 : decode prog_13_method_1_code 64 = .ok (.iconst 2, 1) := by decide +kernel
theorem d_Model_init_65 : decode prog_13_method_1_code 65 = .ok (.newarray .int, 2) := by decide +kernel
theorem d_Model_init_67 : decode prog_13_method_1_code 67 = .ok (.putfield 35, 3) := by decide +kernel
theorem d_Model_init_70 : decode prog_13_method_1_code 70 = .ok (.aload_n 0, 1) := by decide +kernel
theorem d_Model_init_71 : decode prog_13_method_1_code 71 = .ok (.sipush 600, 3) := by decide +kernel
theorem d_Model_init_74 : decode prog_13_method_1_code 74 = .ok (.newarray .int, 2) := by decide +kernel
theorem d_Model_init_76 : decode prog_13_method_1_code 76 = .ok (.putfield 38, 3) := by decide +kernel
theorem d_Model_init_79 : decode prog_13_method_1_code 79 = .ok (.aload_n 0, 1) := by decide +kernel
theorem d_Model_init_80 : decode prog_13_method_1_code 80 = .ok (.sipush 600, 3) := by decide +kernel
theorem d_Model_init_83 : decode prog_13_method_1_code 83 = .ok (.newarray .int, 2) := by decide +kernel
theorem d_Model_init_85 : decode prog_13_method_1_code 85 = .ok (.putfield 41, 3) := by decide +kernel
theorem d_Model_init_88 : decode prog_13_method_1_code 88 = .ok (.aload_n 0, 1) := by decide +kernel
theorem d_Model_init_89 : decode prog_13_method_1_code 89 = .ok (.bipush 24, 2) := by decide +kernel
theorem d_Model_init_91 : decode prog_13_method_1_code 91 = .ok (.newarray .int, 2) := by decide +kernel
theorem d_Model_init_93 : decode prog_13_method_1_code 93 = .ok (.putfield 44, 3) := by decide +kernel
theorem d_Model_init_96 : decode prog_13_method_1_code 96 = .ok (.aload_n 0, 1) := by decide +kernel
theorem d_Model_init_97 : decode prog_13_method_1_code 97 = .ok (.sipush 600, 3) := by decide +kernel
theorem d_Model_init_100 : decode prog_13_method_1_code 100 = .ok (.newarray .int, 2) := by decide +kernel
theorem d_Model_init_102 : decode prog_13_method_1_code 102 = .ok (.putfield 47, 3) := by decide +kernel
theorem d_Model_init_105 : decode prog_13_method_1_code 105 = .ok (.aload_n 0, 1) := by decide +kernel
theorem d_Model_init_106 : decode prog_13_method_1_code 106 = .ok (.sipush 1300, 3) := by decide +kernel
theorem d_Model_init_109 : decode prog_13_method_1_code 109 = .ok (.newarray .int, 2) := by decide +kernel
theorem d_Model_init_111 : decode prog_13_method_1_code 111 = .ok (.putfield 50, 3) := by decide +kernel
theorem d_Model_init_114 : decode prog_13_method_1_code 114 = .ok (.aload_n 0, 1) := by decide +kernel
theorem d_Model_init_115 : decode prog_13_method_1_code 115 = .ok (.sipush 2304, 3) := by decide +kernel
theorem d_Model_init_118 : decode prog_13_method_1_code 118 = .ok (.newarray .int, 2) := by decide +kernel
theorem d_Model_init_120 : decode prog_13_method_1_code 120 = .ok (.putfield 53, 3) := by decide +kernel
theorem d_Model_init_123 : decode prog_13_method_1_code 123 = .ok (.aload_n 0, 1) := by decide +kernel
theorem d_Model_init_124 : decode prog_13_method_1_code 124 = .ok (.bipush 48, 2) := by decide +kernel
theorem d_Model_init_126 : decode prog_13_method_1_code 126 = .ok (.newarray .int, 2) := by decide +kernel
theorem d_Model_init_128 : decode prog_13_method_1_code 128 = .ok (.putfield 56, 3) := by decide +kernel
theorem d_Model_init_131 : decode prog_13_method_1_code 131 = .ok (.aload_n 0, 1) := by decide +kernel
theorem d_Model_init_132 : decode prog_13_method_1_code 132 = .ok (.sipush 600, 3) := by decide +kernel
theorem d_Model_init_135 : decode prog_13_method_1_code 135 = .ok (.newarray .int, 2) := by decide +kernel
theorem d_Model_init_137 : decode prog_13_method_1_code 137 = .ok (.putfield 59, 3) := by decide +kernel
theorem d_Model_init_140 : decode prog_13_method_1_code 140 = .ok (.aload_n 0, 1) := by decide +kernel
theorem d_Model_init_141 : decode prog_13_method_1_code 141 = .ok (.bipush 24, 2) := by decide +kernel
theorem d_Model_init_143 : decode prog_13_method_1_code 143 = .ok (.newarray .int, 2) := by decide +kernel
theorem d_Model_init_145 : decode prog_13_method_1_code 145 = .ok (.putfield 62, 3) := by decide +kernel
theorem d_Model_init_148 : decode prog_13_method_1_code 148 = .ok (.aload_n 0, 1) := by decide +kernel
theorem d_Model_init_149 : decode prog_13_method_1_code 149 = .ok (.sipush 600, 3) := by decide +kernel
theorem d_Model_init_152 : decode prog_13_method_1_code 152 = .ok (.newarray .int, 2) := by decide +kernel
theorem d_Model_init_154 : decode prog_13_method_1_code 154 = .ok (.putfield 65, 3) := by decide +kernel
theorem d_Model_init_157 : decode prog_13_method_1_code 157 = .ok (.aload_n 0, 1) := by decide +kernel
theorem d_Model_init_158 : decode prog_13_method_1_code 158 = .ok (.iconst (-1), 1) := by decide +kernel
theorem d_Model_init_159 : decode prog_13_method_1_code 159 = .ok (.putfield 68, 3) := by decide +kernel
theorem d_Model_init_162 : decode prog_13_method_1_code 162 = .ok (.aload_n 0, 1) := by decide +kernel
theorem d_Model_init_163 : decode prog_13_method_1_code 163 = .ok (.iconst (-1), 1) := by decide +kernel
theorem d_Model_init_164 : decode prog_13_method_1_code 164 = .ok (.putfield 71, 3) := by decide +kernel
theorem d_Model_init_167 : decode prog_13_method_1_code 167 = .ok (.aload_n 0, 1) := by decide +kernel
theorem d_Model_init_168 : decode prog_13_method_1_code 168 = .ok (.bipush 13, 2) := by decide +kernel
theorem d_Model_init_170 : decode prog_13_method_1_code 170 = .ok (.newarray .int, 2) := by decide +kernel
theorem d_Model_init_172 : decode prog_13_method_1_code 172 = .ok (.putfield 74, 3) := by decide +kernel
theorem d_Model_init_175 : decode prog_13_method_1_code 175 = .ok (.aload_n 0, 1) := by decide +kernel
theorem d_Model_init_176 : decode prog_13_method_1_code 176 = .ok (.bipush 13, 2) := by decide +kernel
theorem d_Model_init_178 : decode prog_13_method_1_code 178 = .ok (.newarray .int, 2) := by decide +kernel
theorem d_Model_init_180 : decode prog_13_method_1_code 180 = .ok (.putfield 77, 3) := by decide +kernel
theorem d_Model_init_183 : decode prog_13_method_1_code 183 = .ok (.aload_n 0, 1) := by decide +kernel
theorem d_Model_init_184 : decode prog_13_method_1_code 184 = .ok (.bipush 60, 2) := by decide +kernel
theorem d_Model_init_186 : decode prog_13_method_1_code 186 = .ok (.newarray .int, 2) := by decide +kernel
theorem d_Model_init_188 : decode prog_13_method_1_code 188 = .ok (.putfield 80, 3) := by decide +kernel
theorem d_Model_init_191 : decode prog_13_method_1_code 191 = .ok (.aload_n 0, 1) := by decide +kernel
theorem d_Model_init_192 : decode prog_13_method_1_code 192 = .ok (.bipush 60, 2) := by decide +kernel
theorem d_Model_init_194 : decode prog_13_method_1_code 194 = .ok (.newarray .int, 2) := by decide +kernel
theorem d_Model_init_196 : decode prog_13_method_1_code 196 = .ok (.putfield 83, 3) := by decide +kernel
theorem d_Model_init_199 : decode prog_13_method_1_code 199 = .ok (.aload_n 0, 1) := by decide +kernel
theorem d_Model_init_200 : decode prog_13_method_1_code 200 = .ok (.bipush 13, 2) := by decide +kernel
theorem d_Model_init_202 : decode prog_13_method_1_code 202 = .ok (.newarray .int, 2) := by decide +kernel
theorem d_Model_init_204 : decode prog_13_method_1_code 204 = .ok (.putfield 86, 3) := by decide +kernel
theorem d_Model_init_207 : decode prog_13_method_1_code 207 = .ok (.aload_n 0, 1) := by decide +kernel
theorem d_Model_init_208 : decode prog_13_method_1_code 208 = .ok (.bipush 13, 2) := by decide +kernel
theorem d_Model_init_210 : decode prog_13_method_1_code 210 = .ok (.newarray .int, 2) := by decide +kernel
theorem d_Model_init_212 : decode prog_13_method_1_code 212 = .ok (.putfield 89, 3) := by decide +kernel
theorem d_Model_init_215 : decode prog_13_method_1_code 215 = .ok (.aload_n 0, 1) := by decide +kernel
theorem d_Model_init_216 : decode prog_13_method_1_code 216 = .ok (.bipush 13, 2) := by decide +kernel
theorem d_Model_init_218 : decode prog_13_method_1_code 218 = .ok (.newarray .int, 2) := by decide +kernel
theorem d_Model_init_220 : decode prog_13_method_1_code 220 = .ok (.putfield 92, 3) := by decide +kernel
theorem d_Model_init_223 : decode prog_13_method_1_code 223 = .ok (.aload_n 0, 1) := by decide +kernel
theorem d_Model_init_224 : decode prog_13_method_1_code 224 = .ok (.bipush 13, 2) := by decide +kernel
theorem d_Model_init_226 : decode prog_13_method_1_code 226 = .ok (.newarray .int, 2) := by decide +kernel
theorem d_Model_init_228 : decode prog_13_method_1_code 228 = .ok (.putfield 95, 3) := by decide +kernel
theorem d_Model_init_231 : decode prog_13_method_1_code 231 = .ok (.aload_n 0, 1) := by decide +kernel
theorem d_Model_init_232 : decode prog_13_method_1_code 232 = .ok (.bipush 13, 2) := by decide +kernel
theorem d_Model_init_234 : decode prog_13_method_1_code 234 = .ok (.newarray .int, 2) := by decide +kernel
theorem d_Model_init_236 : decode prog_13_method_1_code 236 = .ok (.putfield 98, 3) := by decide +kernel
theorem d_Model_init_239 : decode prog_13_method_1_code 239 = .ok (.aload_n 0, 1) := by decide +kernel
theorem d_Model_init_240 : decode prog_13_method_1_code 240 = .ok (.bipush 60, 2) := by decide +kernel
theorem d_Model_init_242 : decode prog_13_method_1_code 242 = .ok (.newarray .int, 2) := by decide +kernel
theorem d_Model_init_244 : decode prog_13_method_1_code 244 = .ok (.putfield 101, 3) := by decide +kernel
theorem d_Model_init_247 : decode prog_13_method_1_code 247 = .ok (.aload_n 0, 1) := by decide +kernel
theorem d_Model_init_248 : decode prog_13_method_1_code 248 = .ok (.bipush 60, 2) := by decide +kernel
theorem d_Model_init_250 : decode prog_13_method_1_code 250 = .ok (.newarray .int, 2) := by decide +kernel
theorem d_Model_init_252 : decode prog_13_method_1_code 252 = .ok (.putfield 104, 3) := by decide +kernel
theorem d_Model_init_255 : decode prog_13_method_1_code 255 = .ok (.aload_n 0, 1) := by decide +kernel
theorem d_Model_init_256 : decode prog_13_method_1_code 256 = .ok (.bipush 60, 2) := by decide +kernel
theorem d_Model_init_258 : decode prog_13_method_1_code 258 = .ok (.newarray .int, 2) := by decide +kernel
theorem d_Model_init_260 : decode prog_13_method_1_code 260 = .ok (.putfield 107, 3) := by decide +kernel
theorem d_Model_init_263 : decode prog_13_method_1_code 263 = .ok (.aload_n 0, 1) := by decide +kernel
theorem d_Model_init_264 : decode prog_13_method_1_code 264 = .ok (.bipush 24, 2) := by decide +kernel
theorem d_Model_init_266 : decode prog_13_method_1_code 266 = .ok (.newarray .int, 2) := by decide +kernel
theorem d_Model_init_268 : decode prog_13_method_1_code 268 = .ok (.putfield 110, 3) := by decide +kernel
theorem d_Model_init_271 : decode prog_13_method_1_code 271 = .ok (.aload_n 0, 1) := by decide +kernel
theorem d_Model_init_272 : decode prog_13_method_1_code 272 = .ok (.bipush 24, 2) := by decide +kernel
theorem d_Model_init_274 : decode prog_13_method_1_code 274 = .ok (.newarray .int, 2) := by decide +kernel
theorem d_Model_init_276 : decode prog_13_method_1_code 276 = .ok (.putfield 113, 3) := by decide +kernel
theorem d_Model_init_279 : decode prog_13_method_1_code 279 = .ok (.aload_n 0, 1) := by decide +kernel
theorem d_Model_init_280 : decode prog_13_method_1_code 280 = .ok (.bipush 60, 2) := by decide +kernel
theorem d_Model_init_282 : decode prog_13_method_1_code 282 = .ok (.newarray .boolean, 2) := by decide +kernel
theorem d_Model_init_284 : decode prog_13_method_1_code 284 = .ok (.putfield 116, 3) := by decide +kernel
theorem d_Model_init_287 : decode prog_13_method_1_code 287 = .ok (.aload_n 0, 1) := by decide +kernel
theorem d_Model_init_288 : decode prog_13_method_1_code 288 = .ok (.bipush 24, 2) := by decide +kernel
theorem d_Model_init_290 : decode prog_13_method_1_code 290 = .ok (.newarray .int, 2) := by decide +kernel
theorem d_Model_init_292 : decode prog_13_method_1_code 292 = .ok (.putfield 120, 3) := by decide +kernel
theorem d_Model_init_295 : decode prog_13_method_1_code 295 = .ok (.aload_n 0, 1) := by decide +kernel
theorem d_Model_init_296 : decode prog_13_method_1_code 296 = .ok (.bipush 24, 2) := by decide +kernel
theorem d_Model_init_298 : decode prog_13_method_1_code 298 = .ok (.newarray .int, 2) := by decide +kernel
theorem d_Model_init_300 : decode prog_13_method_1_code 300 = .ok (.putfield 123, 3) := by decide +kernel
theorem d_Model_init_303 : decode prog_13_method_1_code 303 = .ok (.aload_n 0, 1) := by decide +kernel
theorem d_Model_init_304 : decode prog_13_method_1_code 304 = .ok (.bipush 24, 2) := by decide +kernel
theorem d_Model_init_306 : decode prog_13_method_1_code 306 = .ok (.newarray .double, 2) := by decide +kernel
theorem d_Model_init_308 : decode prog_13_method_1_code 308 = .ok (.putfield 126, 3) := by decide +kernel
theorem d_Model_init_311 : decode prog_13_method_1_code 311 = .ok (.aload_n 0, 1) := by decide +kernel
theorem d_Model_init_312 : decode prog_13_method_1_code 312 = .ok (.getfield 35, 3) := by decide +kernel
theorem d_Model_init_315 : decode prog_13_method_1_code 315 = .ok (.iconst 0, 1) := by decide +kernel
theorem d_Model_init_316 : decode prog_13_method_1_code 316 = .ok (.iconst 1, 1) := by decide +kernel
theorem d_Model_init_317 : decode prog_13_method_1_code 317 = .ok (.iastore, 1) := by decide +kernel
theorem d_Model_init_318 : decode prog_13_method_1_code 318 = .ok (.aload_n 0, 1) := by decide +kernel
theorem d_Model_init_319 : decode prog_13_method_1_code 319 = .ok (.getfield 35, 3) := by decide +kernel
theorem d_Model_init_322 : decode prog_13_method_1_code 322 = .ok (.iconst 1, 1) := by decide +kernel
theorem d_Model_init_323 : decode prog_13_method_1_code 323 = .ok (.iconst 1, 1) := by decide +kernel
theorem d_Model_init_324 : decode prog_13_method_1_code 324 = .ok (.iastore, 1) := by decide +kernel
theorem d_Model_init_325 : decode prog_13_method_1_code 325 = .ok (.iconst 0, 1) := by decide +kernel
theorem d_Model_init_326 : decode prog_13_method_1_code 326 = .ok (.istore_n 1, 1) := by decide +kernel
theorem d_Model_init_327 : decode prog_13_method_1_code 327 = .ok (.iload_n 1, 1) := by decide +kernel
theorem d_Model_init_328 : decode prog_13_method_1_code 328 = .ok (.bipush 24, 2) := by decide +kernel
theorem d_Model_init_330 : decode prog_13_method_1_code 330 = .ok (.if_icmp .ge 16, 3) := by decide +kernel
theorem d_Model_init_333 : decode prog_13_method_1_code 333 = .ok (.aload_n 0, 1) := by decide +kernel
theorem d_Model_init_334 : decode prog_13_method_1_code 334 = .ok (.getfield 44, 3) := by decide +kernel
theorem d_Model_init_337 : decode prog_13_method_1_code 337 = .ok (.iload_n 1, 1) := by decide +kernel
theorem d_Model_init_338 : decode prog_13_method_1_code 338 = .ok (.iconst (-1), 1) := by decide +kernel
theorem d_Model_init_339 : decode prog_13_method_1_code 339 = .ok (.iastore, 1) := by decide +kernel
theorem d_Model_init_340 : decode prog_13_method_1_code 340 = .ok (.iinc 1 1, 3) := by decide +kernel
theorem d_Model_init_343 : decode prog_13_method_1_code 343 = .ok (.goto (-16), 3) := by decide +kernel
theorem d_Model_init_346 : decode prog_13_method_1_code 346 = .ok (.return_, 1) := by decide +kernel
theorem d_Model_thrown_0 : decode prog_13_method_2_code 0 = .ok (.aload_n 0, 1) := by decide +kernel
theorem d_Model_thrown_1 : decode prog_13_method_2_code 1 = .ok (.getfield 130, 3) := by decide +kernel
theorem d_Model_thrown_4 : decode prog_13_method_2_code 4 = .ok (.ireturn, 1) := by decide +kernel
theorem d_Model_letters_0 : decode prog_13_method_7_code 0 = .ok (.aload_n 0, 1) := by decide +kernel
theorem d_Model_letters_1 : decode prog_13_method_7_code 1 = .ok (.iconst 0, 1) := by decide +kernel
theorem d_Model_letters_2 : decode prog_13_method_7_code 2 = .ok (.putfield 130, 3) := by decide +kernel
theorem d_Model_letters_5 : decode prog_13_method_7_code 5 = .ok (.iconst 0, 1) := by decide +kernel
theorem d_Model_letters_6 : decode prog_13_method_7_code 6 = .ok (.istore_n 3, 1) := by decide +kernel
theorem d_Model_letters_7 : decode prog_13_method_7_code 7 = .ok (.iconst 0, 1) := by decide +kernel
theorem d_Model_letters_8 : decode prog_13_method_7_code 8 = .ok (.istore 4, 2) := by decide +kernel
theorem d_Model_letters_10 : decode prog_13_method_7_code 10 = .ok (.iload 4, 2) := by decide +kernel
theorem d_Model_letters_12 : decode prog_13_method_7_code 12 = .ok (.bipush 8, 2) := by decide +kernel
theorem d_Model_letters_14 : decode prog_13_method_7_code 14 = .ok (.if_icmp .ge 69, 3) := by decide +kernel
theorem d_Model_letters_17 : decode prog_13_method_7_code 17 = .ok (.iload_n 3, 1) := by decide +kernel
theorem d_Model_letters_18 : decode prog_13_method_7_code 18 = .ok (.iload 4, 2) := by decide +kernel
theorem d_Model_letters_20 : decode prog_13_method_7_code 20 = .ok (.if_icmp .ne 63, 3) := by decide +kernel
theorem d_Model_letters_23 : decode prog_13_method_7_code 23 = .ok (.lload_n 1, 1) := by decide +kernel
theorem d_Model_letters_24 : decode prog_13_method_7_code 24 = .ok (.bipush 8, 2) := by decide +kernel
theorem d_Model_letters_26 : decode prog_13_method_7_code 26 = .ok (.iload 4, 2) := by decide +kernel
theorem d_Model_letters_28 : decode prog_13_method_7_code 28 = .ok (.imul, 1) := by decide +kernel
theorem d_Model_letters_29 : decode prog_13_method_7_code 29 = .ok (.lushr, 1) := by decide +kernel
theorem d_Model_letters_30 : decode prog_13_method_7_code 30 = .ok (.ldc2_w 137, 3) := by decide +kernel
theorem d_Model_letters_33 : decode prog_13_method_7_code 33 = .ok (.land, 1) := by decide +kernel
theorem d_Model_letters_34 : decode prog_13_method_7_code 34 = .ok (.l2i, 1) := by decide +kernel
theorem d_Model_letters_35 : decode prog_13_method_7_code 35 = .ok (.istore 5, 2) := by decide +kernel
theorem d_Model_letters_37 : decode prog_13_method_7_code 37 = .ok (.aload_n 0, 1) := by decide +kernel
theorem d_Model_letters_38 : decode prog_13_method_7_code 38 = .ok (.iload 5, 2) := by decide +kernel
theorem d_Model_letters_40 : decode prog_13_method_7_code 40 = .ok (.ifCond .eq 19, 3) := by decide +kernel
theorem d_Model_letters_43 : decode prog_13_method_7_code 43 = .ok (.iload 5, 2) := by decide +kernel
theorem d_Model_letters_45 : decode prog_13_method_7_code 45 = .ok (.bipush 32, 2) := by decide +kernel
theorem d_Model_letters_47 : decode prog_13_method_7_code 47 = .ok (.bipush 126, 2) := by decide +kernel
theorem d_Model_letters_49 : decode prog_13_method_7_code 49 = .ok (.invokestatic 133, 3) := by decide +kernel
theorem d_Model_letters_52 : decode prog_13_method_7_code 52 = .ok (.ifCond .ne 7, 3) := by decide +kernel
theorem d_Model_letters_55 : decode prog_13_method_7_code 55 = .ok (.iconst 1, 1) := by decide +kernel
theorem d_Model_letters_56 : decode prog_13_method_7_code 56 = .ok (.goto 4, 3) := by decide +kernel
theorem d_Model_letters_59 : decode prog_13_method_7_code 59 = .ok (.iconst 0, 1) := by decide +kernel
theorem d_Model_letters_60 : decode prog_13_method_7_code 60 = .ok (.iconst 1, 1) := by decide +kernel
theorem d_Model_letters_61 : decode prog_13_method_7_code 61 = .ok (.invokevirtual 139, 3) := by decide +kernel
theorem d_Model_letters_64 : decode prog_13_method_7_code 64 = .ok (.ifCond .eq 5, 3) := by decide +kernel
theorem d_Model_letters_67 : decode prog_13_method_7_code 67 = .ok (.iconst 0, 1) := by decide +kernel
theorem d_Model_letters_68 : decode prog_13_method_7_code 68 = .ok (.ireturn, 1) := by decide +kernel
theorem d_Model_letters_69 : decode prog_13_method_7_code 69 = .ok (.iload 5, 2) := by decide +kernel
theorem d_Model_letters_71 : decode prog_13_method_7_code 71 = .ok (.ifCond .eq 6, 3) := by decide +kernel
theorem d_Model_letters_74 : decode prog_13_method_7_code 74 = .ok (.iinc 3 1, 3) := by decide +kernel
theorem d_Model_letters_77 : decode prog_13_method_7_code 77 = .ok (.iinc 4 1, 3) := by decide +kernel
theorem d_Model_letters_80 : decode prog_13_method_7_code 80 = .ok (.goto (-70), 3) := by decide +kernel
theorem d_Model_letters_83 : decode prog_13_method_7_code 83 = .ok (.aload_n 0, 1) := by decide +kernel
theorem d_Model_letters_84 : decode prog_13_method_7_code 84 = .ok (.iload_n 3, 1) := by decide +kernel
theorem d_Model_letters_85 : decode prog_13_method_7_code 85 = .ok (.ifCond .ne 7, 3) := by decide +kernel
theorem d_Model_letters_88 : decode prog_13_method_7_code 88 = .ok (.iconst 1, 1) := by decide +kernel
theorem d_Model_letters_89 : decode prog_13_method_7_code 89 = .ok (.goto 4, 3) := by decide +kernel
theorem d_Model_letters_92 : decode prog_13_method_7_code 92 = .ok (.iconst 0, 1) := by decide +kernel
theorem d_Model_letters_93 : decode prog_13_method_7_code 93 = .ok (.iconst 1, 1) := by decide +kernel
theorem d_Model_letters_94 : decode prog_13_method_7_code 94 = .ok (.invokevirtual 139, 3) := by decide +kernel
theorem d_Model_letters_97 : decode prog_13_method_7_code 97 = .ok (.ifCond .ne 27, 3) := by decide +kernel
theorem d_Model_letters_100 : decode prog_13_method_7_code 100 = .ok (.aload_n 0, 1) := by decide +kernel
theorem d_Model_letters_101 : decode prog_13_method_7_code 101 = .ok (.aload_n 0, 1) := by decide +kernel
theorem d_Model_letters_102 : decode prog_13_method_7_code 102 = .ok (.getfield 143, 3) := by decide +kernel
theorem d_Model_letters_105 : decode prog_13_method_7_code 105 = .ok (.iload_n 3, 1) := by decide +kernel
theorem d_Model_letters_106 : decode prog_13_method_7_code 106 = .ok (.iadd, 1) := by decide +kernel
theorem d_Model_letters_107 : decode prog_13_method_7_code 107 = .ok (.bipush 96, 2) := by decide +kernel
theorem d_Model_letters_109 : decode prog_13_method_7_code 109 = .ok (.if_icmp .le 7, 3) := by decide +kernel
theorem d_Model_letters_112 : decode prog_13_method_7_code 112 = .ok (.iconst 1, 1) := by decide +kernel
theorem d_Model_letters_113 : decode prog_13_method_7_code 113 = .ok (.goto 4, 3) := by decide +kernel
theorem d_Model_letters_116 : decode prog_13_method_7_code 116 = .ok (.iconst 0, 1) := by decide +kernel
theorem d_Model_letters_117 : decode prog_13_method_7_code 117 = .ok (.iconst 2, 1) := by decide +kernel
theorem d_Model_letters_118 : decode prog_13_method_7_code 118 = .ok (.invokevirtual 139, 3) := by decide +kernel
theorem d_Model_letters_121 : decode prog_13_method_7_code 121 = .ok (.ifCond .eq 5, 3) := by decide +kernel
theorem d_Model_letters_124 : decode prog_13_method_7_code 124 = .ok (.iconst 0, 1) := by decide +kernel
theorem d_Model_letters_125 : decode prog_13_method_7_code 125 = .ok (.ireturn, 1) := by decide +kernel
theorem d_Model_letters_126 : decode prog_13_method_7_code 126 = .ok (.iconst 0, 1) := by decide +kernel
theorem d_Model_letters_127 : decode prog_13_method_7_code 127 = .ok (.istore 4, 2) := by decide +kernel
theorem d_Model_letters_129 : decode prog_13_method_7_code 129 = .ok (.iload 4, 2) := by decide +kernel
theorem d_Model_letters_131 : decode prog_13_method_7_code 131 = .ok (.iload_n 3, 1) := by decide +kernel
theorem d_Model_letters_132 : decode prog_13_method_7_code 132 = .ok (.if_icmp .ge 33, 3) := by decide +kernel
theorem d_Model_letters_135 : decode prog_13_method_7_code 135 = .ok (.aload_n 0, 1) := by decide +kernel
theorem d_Model_letters_136 : decode prog_13_method_7_code 136 = .ok (.getfield 16, 3) := by decide +kernel
theorem d_Model_letters_139 : decode prog_13_method_7_code 139 = .ok (.aload_n 0, 1) := by decide +kernel
theorem d_Model_letters_140 : decode prog_13_method_7_code 140 = .ok (.getfield 143, 3) := by decide +kernel
theorem d_Model_letters_143 : decode prog_13_method_7_code 143 = .ok (.iload 4, 2) := by decide +kernel
theorem d_Model_letters_145 : decode prog_13_method_7_code 145 = .ok (.iadd, 1) := by decide +kernel
theorem d_Model_letters_146 : decode prog_13_method_7_code 146 = .ok (.lload_n 1, 1) := by decide +kernel
theorem d_Model_letters_147 : decode prog_13_method_7_code 147 = .ok (.bipush 8, 2) := by decide +kernel
theorem d_Model_letters_149 : decode prog_13_method_7_code 149 = .ok (.iload 4, 2) := by decide +kernel
theorem d_Model_letters_151 : decode prog_13_method_7_code 151 = .ok (.imul, 1) := by decide +kernel
theorem d_Model_letters_152 : decode prog_13_method_7_code 152 = .ok (.lushr, 1) := by decide +kernel
theorem d_Model_letters_153 : decode prog_13_method_7_code 153 = .ok (.ldc2_w 137, 3) := by decide +kernel
theorem d_Model_letters_156 : decode prog_13_method_7_code 156 = .ok (.land, 1) := by decide +kernel
theorem d_Model_letters_157 : decode prog_13_method_7_code 157 = .ok (.l2i, 1) := by decide +kernel
theorem d_Model_letters_158 : decode prog_13_method_7_code 158 = .ok (.iastore, 1) := by decide +kernel
theorem d_Model_letters_159 : decode prog_13_method_7_code 159 = .ok (.iinc 4 1, 3) := by decide +kernel
theorem d_Model_letters_162 : decode prog_13_method_7_code 162 = .ok (.goto (-33), 3) := by decide +kernel
theorem d_Model_letters_165 : decode prog_13_method_7_code 165 = .ok (.aload_n 0, 1) := by decide +kernel
theorem d_Model_letters_166 : decode prog_13_method_7_code 166 = .ok (.dup, 1) := by decide +kernel
theorem d_Model_letters_167 : decode prog_13_method_7_code 167 = .ok (.getfield 143, 3) := by decide +kernel
theorem d_Model_letters_170 : decode prog_13_method_7_code 170 = .ok (.iload_n 3, 1) := by decide +kernel
theorem d_Model_letters_171 : decode prog_13_method_7_code 171 = .ok (.iadd, 1) := by decide +kernel
theorem d_Model_letters_172 : decode prog_13_method_7_code 172 = .ok (.putfield 143, 3) := by decide +kernel
theorem d_Model_letters_175 : decode prog_13_method_7_code 175 = .ok (.aload_n 0, 1) := by decide +kernel
theorem d_Model_letters_176 : decode prog_13_method_7_code 176 = .ok (.getfield 143, 3) := by decide +kernel
theorem d_Model_letters_179 : decode prog_13_method_7_code 179 = .ok (.ireturn, 1) := by decide +kernel
theorem d_Model_in_0 : decode prog_13_method_3_code 0 = .ok (.iload_n 0, 1) := by decide +kernel
theorem d_Model_in_1 : decode prog_13_method_3_code 1 = .ok (.iload_n 1, 1) := by decide +kernel
theorem d_Model_in_2 : decode prog_13_method_3_code 2 = .ok (.if_icmp .lt 12, 3) := by decide +kernel
theorem d_Model_in_5 : decode prog_13_method_3_code 5 = .ok (.iload_n 0, 1) := by decide +kernel
theorem d_Model_in_6 : decode prog_13_method_3_code 6 = .ok (.iload_n 2, 1) := by decide +kernel
theorem d_Model_in_7 : decode prog_13_method_3_code 7 = .ok (.if_icmp .gt 7, 3) := by decide +kernel
theorem d_Model_in_10 : decode prog_13_method_3_code 10 = .ok (.iconst 1, 1) := by decide +kernel
theorem d_Model_in_11 : decode prog_13_method_3_code 11 = .ok (.goto 4, 3) := by decide +kernel
theorem d_Model_in_14 : decode prog_13_method_3_code 14 = .ok (.iconst 0, 1) := by decide +kernel
theorem d_Model_in_15 : decode prog_13_method_3_code 15 = .ok (.ireturn, 1) := by decide +kernel
theorem d_Model_fails_0 : decode prog_13_method_4_code 0 = .ok (.iload_n 1, 1) := by decide +kernel
theorem d_Model_fails_1 : decode prog_13_method_4_code 1 = .ok (.ifCond .eq 15, 3) := by decide +kernel
theorem d_Model_fails_4 : decode prog_13_method_4_code 4 = .ok (.aload_n 0, 1) := by decide +kernel
theorem d_Model_fails_5 : decode prog_13_method_4_code 5 = .ok (.getfield 130, 3) := by decide +kernel
theorem d_Model_fails_8 : decode prog_13_method_4_code 8 = .ok (.ifCond .ne 8, 3) := by decide +kernel
theorem d_Model_fails_11 : decode prog_13_method_4_code 11 = .ok (.aload_n 0, 1) := by decide +kernel
theorem d_Model_fails_12 : decode prog_13_method_4_code 12 = .ok (.iload_n 2, 1) := by decide +kernel
theorem d_Model_fails_13 : decode prog_13_method_4_code 13 = .ok (.putfield 130, 3) := by decide +kernel
theorem d_Model_fails_16 : decode prog_13_method_4_code 16 = .ok (.aload_n 0, 1) := by decide +kernel
theorem d_Model_fails_17 : decode prog_13_method_4_code 17 = .ok (.getfield 130, 3) := by decide +kernel
theorem d_Model_fails_20 : decode prog_13_method_4_code 20 = .ok (.ifCond .eq 7, 3) := by decide +kernel
theorem d_Model_fails_23 : decode prog_13_method_4_code 23 = .ok (.iconst 1, 1) := by decide +kernel
theorem d_Model_fails_24 : decode prog_13_method_4_code 24 = .ok (.goto 4, 3) := by decide +kernel
theorem d_Model_fails_27 : decode prog_13_method_4_code 27 = .ok (.iconst 0, 1) := by decide +kernel
theorem d_Model_fails_28 : decode prog_13_method_4_code 28 = .ok (.ireturn, 1) := by decide +kernel
theorem d_Model_drop_0 : decode prog_13_method_8_code 0 = .ok (.aload_n 0, 1) := by decide +kernel
theorem d_Model_drop_1 : decode prog_13_method_8_code 1 = .ok (.iconst 0, 1) := by decide +kernel
theorem d_Model_drop_2 : decode prog_13_method_8_code 2 = .ok (.putfield 130, 3) := by decide +kernel
theorem d_Model_drop_5 : decode prog_13_method_8_code 5 = .ok (.aload_n 0, 1) := by decide +kernel
theorem d_Model_drop_6 : decode prog_13_method_8_code 6 = .ok (.getfield 143, 3) := by decide +kernel
theorem d_Model_drop_9 : decode prog_13_method_8_code 9 = .ok (.istore_n 1, 1) := by decide +kernel
theorem d_Model_drop_10 : decode prog_13_method_8_code 10 = .ok (.aload_n 0, 1) := by decide +kernel
theorem d_Model_drop_11 : decode prog_13_method_8_code 11 = .ok (.iconst 0, 1) := by decide +kernel
theorem d_Model_drop_12 : decode prog_13_method_8_code 12 = .ok (.putfield 143, 3) := by decide +kernel
theorem d_Model_drop_15 : decode prog_13_method_8_code 15 = .ok (.iload_n 1, 1) := by decide +kernel
theorem d_Model_drop_16 : decode prog_13_method_8_code 16 = .ok (.ireturn, 1) := by decide +kernel
theorem d_Model_set_0 : decode prog_13_method_9_code 0 = .ok (.aload_n 0, 1) := by decide +kernel
theorem d_Model_set_1 : decode prog_13_method_9_code 1 = .ok (.iconst 0, 1) := by decide +kernel
theorem d_Model_set_2 : decode prog_13_method_9_code 2 = .ok (.putfield 130, 3) := by decide +kernel
theorem d_Model_set_5 : decode prog_13_method_9_code 5 = .ok (.aload_n 0, 1) := by decide +kernel
theorem d_Model_set_6 : decode prog_13_method_9_code 6 = .ok (.iload_n 1, 1) := by decide +kernel
theorem d_Model_set_7 : decode prog_13_method_9_code 7 = .ok (.iconst 0, 1) := by decide +kernel
theorem d_Model_set_8 : decode prog_13_method_9_code 8 = .ok (.iconst 1, 1) := by decide +kernel
theorem d_Model_set_9 : decode prog_13_method_9_code 9 = .ok (.invokestatic 133, 3) := by decide +kernel
theorem d_Model_set_12 : decode prog_13_method_9_code 12 = .ok (.ifCond .ne 7, 3) := by decide +kernel
theorem d_Model_set_15 : decode prog_13_method_9_code 15 = .ok (.iconst 1, 1) := by decide +kernel
theorem d_Model_set_16 : decode prog_13_method_9_code 16 = .ok (.goto 4, 3) := by decide +kernel
theorem d_Model_set_19 : decode prog_13_method_9_code 19 = .ok (.iconst 0, 1) := by decide +kernel
theorem d_Model_set_20 : decode prog_13_method_9_code 20 = .ok (.iconst 1, 1) := by decide +kernel
theorem d_Model_set_21 : decode prog_13_method_9_code 21 = .ok (.invokevirtual 139, 3) := by decide +kernel
theorem d_Model_set_24 : decode prog_13_method_9_code 24 = .ok (.ifCond .ne 25, 3) := by decide +kernel
theorem d_Model_set_27 : decode prog_13_method_9_code 27 = .ok (.aload_n 0, 1) := by decide +kernel
theorem d_Model_set_28 : decode prog_13_method_9_code 28 = .ok (.aload_n 0, 1) := by decide +kernel
theorem d_Model_set_29 : decode prog_13_method_9_code 29 = .ok (.getfield 143, 3) := by decide +kernel
theorem d_Model_set_32 : decode prog_13_method_9_code 32 = .ok (.bipush 48, 2) := by decide +kernel
theorem d_Model_set_34 : decode prog_13_method_9_code 34 = .ok (.if_icmp .le 7, 3) := by decide +kernel
theorem d_Model_set_37 : decode prog_13_method_9_code 37 = .ok (.iconst 1, 1) := by decide +kernel
theorem d_Model_set_38 : decode prog_13_method_9_code 38 = .ok (.goto 4, 3) := by decide +kernel
theorem d_Model_set_41 : decode prog_13_method_9_code 41 = .ok (.iconst 0, 1) := by decide +kernel
theorem d_Model_set_42 : decode prog_13_method_9_code 42 = .ok (.iconst 2, 1) := by decide +kernel
theorem d_Model_set_43 : decode prog_13_method_9_code 43 = .ok (.invokevirtual 139, 3) := by decide +kernel
theorem d_Model_set_46 : decode prog_13_method_9_code 46 = .ok (.ifCond .eq 5, 3) := by decide +kernel
theorem d_Model_set_49 : decode prog_13_method_9_code 49 = .ok (.iconst 0, 1) := by decide +kernel
theorem d_Model_set_50 : decode prog_13_method_9_code 50 = .ok (.ireturn, 1) := by decide +kernel
theorem d_Model_set_51 : decode prog_13_method_9_code 51 = .ok (.iconst 0, 1) := by decide +kernel
theorem d_Model_set_52 : decode prog_13_method_9_code 52 = .ok (.istore_n 2, 1) := by decide +kernel
theorem d_Model_set_53 : decode prog_13_method_9_code 53 = .ok (.iload_n 2, 1) := by decide +kernel
theorem d_Model_set_54 : decode prog_13_method_9_code 54 = .ok (.aload_n 0, 1) := by decide +kernel
theorem d_Model_set_55 : decode prog_13_method_9_code 55 = .ok (.getfield 143, 3) := by decide +kernel
theorem d_Model_set_58 : decode prog_13_method_9_code 58 = .ok (.if_icmp .ge 26, 3) := by decide +kernel
theorem d_Model_set_61 : decode prog_13_method_9_code 61 = .ok (.aload_n 0, 1) := by decide +kernel
theorem d_Model_set_62 : decode prog_13_method_9_code 62 = .ok (.getfield 23, 3) := by decide +kernel
theorem d_Model_set_65 : decode prog_13_method_9_code 65 = .ok (.bipush 48, 2) := by decide +kernel
theorem d_Model_set_67 : decode prog_13_method_9_code 67 = .ok (.iload_n 1, 1) := by decide +kernel
theorem d_Model_set_68 : decode prog_13_method_9_code 68 = .ok (.imul, 1) := by decide +kernel
theorem d_Model_set_69 : decode prog_13_method_9_code 69 = .ok (.iload_n 2, 1) := by decide +kernel
theorem d_Model_set_70 : decode prog_13_method_9_code 70 = .ok (.iadd, 1) := by decide +kernel
theorem d_Model_set_71 : decode prog_13_method_9_code 71 = .ok (.aload_n 0, 1) := by decide +kernel
theorem d_Model_set_72 : decode prog_13_method_9_code 72 = .ok (.getfield 16, 3) := by decide +kernel
theorem d_Model_set_75 : decode prog_13_method_9_code 75 = .ok (.iload_n 2, 1) := by decide +kernel
theorem d_Model_set_76 : decode prog_13_method_9_code 76 = .ok (.iaload, 1) := by decide +kernel
theorem d_Model_set_77 : decode prog_13_method_9_code 77 = .ok (.iastore, 1) := by decide +kernel
theorem d_Model_set_78 : decode prog_13_method_9_code 78 = .ok (.iinc 2 1, 3) := by decide +kernel
theorem d_Model_set_81 : decode prog_13_method_9_code 81 = .ok (.goto (-28), 3) := by decide +kernel
theorem d_Model_set_84 : decode prog_13_method_9_code 84 = .ok (.aload_n 0, 1) := by decide +kernel
theorem d_Model_set_85 : decode prog_13_method_9_code 85 = .ok (.getfield 26, 3) := by decide +kernel
theorem d_Model_set_88 : decode prog_13_method_9_code 88 = .ok (.iload_n 1, 1) := by decide +kernel
theorem d_Model_set_89 : decode prog_13_method_9_code 89 = .ok (.aload_n 0, 1) := by decide +kernel
theorem d_Model_set_90 : decode prog_13_method_9_code 90 = .ok (.getfield 143, 3) := by decide +kernel
theorem d_Model_set_93 : decode prog_13_method_9_code 93 = .ok (.iastore, 1) := by decide +kernel
theorem d_Model_set_94 : decode prog_13_method_9_code 94 = .ok (.iconst 0, 1) := by decide +kernel
theorem d_Model_set_95 : decode prog_13_method_9_code 95 = .ok (.istore_n 2, 1) := by decide +kernel
theorem d_Model_set_96 : decode prog_13_method_9_code 96 = .ok (.iconst 0, 1) := by decide +kernel
theorem d_Model_set_97 : decode prog_13_method_9_code 97 = .ok (.istore_n 3, 1) := by decide +kernel
theorem d_Model_set_98 : decode prog_13_method_9_code 98 = .ok (.iload_n 3, 1) := by decide +kernel
theorem d_Model_set_99 : decode prog_13_method_9_code 99 = .ok (.aload_n 0, 1) := by decide +kernel
theorem d_Model_set_100 : decode prog_13_method_9_code 100 = .ok (.getfield 143, 3) := by decide +kernel
theorem d_Model_set_103 : decode prog_13_method_9_code 103 = .ok (.if_icmp .ge 42, 3) := by decide +kernel
theorem d_Model_set_106 : decode prog_13_method_9_code 106 = .ok (.aload_n 0, 1) := by decide +kernel
theorem d_Model_set_107 : decode prog_13_method_9_code 107 = .ok (.getfield 16, 3) := by decide +kernel
theorem d_Model_set_110 : decode prog_13_method_9_code 110 = .ok (.iload_n 3, 1) := by decide +kernel
theorem d_Model_set_111 : decode prog_13_method_9_code 111 = .ok (.iaload, 1) := by decide +kernel
theorem d_Model_set_112 : decode prog_13_method_9_code 112 = .ok (.invokestatic 146, 3) := by decide +kernel
theorem d_Model_set_115 : decode prog_13_method_9_code 115 = .ok (.ifCond .eq 24, 3) := by decide +kernel
theorem d_Model_set_118 : decode prog_13_method_9_code 118 = .ok (.iload_n 3, 1) := by decide +kernel
theorem d_Model_set_119 : decode prog_13_method_9_code 119 = .ok (.ifCond .eq 17, 3) := by decide +kernel
theorem d_Model_set_122 : decode prog_13_method_9_code 122 = .ok (.aload_n 0, 1) := by decide +kernel
theorem d_Model_set_123 : decode prog_13_method_9_code 123 = .ok (.getfield 16, 3) := by decide +kernel
theorem d_Model_set_126 : decode prog_13_method_9_code 126 = .ok (.iload_n 3, 1) := by decide +kernel
theorem d_Model_set_127 : decode prog_13_method_9_code 127 = .ok (.iconst 1, 1) := by decide +kernel
theorem d_Model_set_128 : decode prog_13_method_9_code 128 = .ok (.isub, 1) := by decide +kernel
theorem d_Model_set_129 : decode prog_13_method_9_code 129 = .ok (.iaload, 1) := by decide +kernel
theorem d_Model_set_130 : decode prog_13_method_9_code 130 = .ok (.invokestatic 146, 3) := by decide +kernel
theorem d_Model_set_133 : decode prog_13_method_9_code 133 = .ok (.ifCond .ne 6, 3) := by decide +kernel
theorem d_Model_set_136 : decode prog_13_method_9_code 136 = .ok (.iinc 2 1, 3) := by decide +kernel
theorem d_Model_set_139 : decode prog_13_method_9_code 139 = .ok (.iinc 3 1, 3) := by decide +kernel
theorem d_Model_set_142 : decode prog_13_method_9_code 142 = .ok (.goto (-44), 3) := by decide +kernel
theorem d_Model_set_145 : decode prog_13_method_9_code 145 = .ok (.aload_n 0, 1) := by decide +kernel
theorem d_Model_set_146 : decode prog_13_method_9_code 146 = .ok (.iconst 0, 1) := by decide +kernel
theorem d_Model_set_147 : decode prog_13_method_9_code 147 = .ok (.putfield 143, 3) := by decide +kernel
theorem d_Model_set_150 : decode prog_13_method_9_code 150 = .ok (.iload_n 2, 1) := by decide +kernel
theorem d_Model_set_151 : decode prog_13_method_9_code 151 = .ok (.ireturn, 1) := by decide +kernel
theorem d_Model_isSign_0 : decode prog_13_method_5_code 0 = .ok (.iload_n 0, 1) := by decide +kernel
theorem d_Model_isSign_1 : decode prog_13_method_5_code 1 = .ok (.bipush 97, 2) := by decide +kernel
theorem d_Model_isSign_3 : decode prog_13_method_5_code 3 = .ok (.bipush 122, 2) := by decide +kernel
theorem d_Model_isSign_5 : decode prog_13_method_5_code 5 = .ok (.invokestatic 133, 3) := by decide +kernel
theorem d_Model_isSign_8 : decode prog_13_method_5_code 8 = .ok (.ifCond .ne 25, 3) := by decide +kernel
theorem d_Model_isSign_11 : decode prog_13_method_5_code 11 = .ok (.iload_n 0, 1) := by decide +kernel
theorem d_Model_isSign_12 : decode prog_13_method_5_code 12 = .ok (.bipush 65, 2) := by decide +kernel
theorem d_Model_isSign_14 : decode prog_13_method_5_code 14 = .ok (.bipush 90, 2) := by decide +kernel
theorem d_Model_isSign_16 : decode prog_13_method_5_code 16 = .ok (.invokestatic 133, 3) := by decide +kernel
theorem d_Model_isSign_19 : decode prog_13_method_5_code 19 = .ok (.ifCond .ne 14, 3) := by decide +kernel
theorem d_Model_isSign_22 : decode prog_13_method_5_code 22 = .ok (.iload_n 0, 1) := by decide +kernel
theorem d_Model_isSign_23 : decode prog_13_method_5_code 23 = .ok (.bipush 48, 2) := by decide +kernel
theorem d_Model_isSign_25 : decode prog_13_method_5_code 25 = .ok (.bipush 57, 2) := by decide +kernel
theorem d_Model_isSign_27 : decode prog_13_method_5_code 27 = .ok (.invokestatic 133, 3) := by decide +kernel
theorem d_Model_isSign_30 : decode prog_13_method_5_code 30 = .ok (.ifCond .eq 7, 3) := by decide +kernel
theorem d_Model_isSign_33 : decode prog_13_method_5_code 33 = .ok (.iconst 1, 1) := by decide +kernel
theorem d_Model_isSign_34 : decode prog_13_method_5_code 34 = .ok (.goto 4, 3) := by decide +kernel
theorem d_Model_isSign_37 : decode prog_13_method_5_code 37 = .ok (.iconst 0, 1) := by decide +kernel
theorem d_Model_isSign_38 : decode prog_13_method_5_code 38 = .ok (.ireturn, 1) := by decide +kernel
theorem d_Model_insert_0 : decode prog_13_method_18_code 0 = .ok (.aload_n 0, 1) := by decide +kernel
theorem d_Model_insert_1 : decode prog_13_method_18_code 1 = .ok (.iconst 0, 1) := by decide +kernel
theorem d_Model_insert_2 : decode prog_13_method_18_code 2 = .ok (.putfield 130, 3) := by decide +kernel
theorem d_Model_insert_5 : decode prog_13_method_18_code 5 = .ok (.iconst 0, 1) := by decide +kernel
theorem d_Model_insert_6 : decode prog_13_method_18_code 6 = .ok (.istore_n 1, 1) := by decide +kernel
theorem d_Model_insert_7 : decode prog_13_method_18_code 7 = .ok (.iload_n 1, 1) := by decide +kernel
theorem d_Model_insert_8 : decode prog_13_method_18_code 8 = .ok (.bipush 24, 2) := by decide +kernel
theorem d_Model_insert_10 : decode prog_13_method_18_code 10 = .ok (.if_icmp .ge 18, 3) := by decide +kernel
theorem d_Model_insert_13 : decode prog_13_method_18_code 13 = .ok (.aload_n 0, 1) := by decide +kernel
theorem d_Model_insert_14 : decode prog_13_method_18_code 14 = .ok (.getfield 44, 3) := by decide +kernel
theorem d_Model_insert_17 : decode prog_13_method_18_code 17 = .ok (.iload_n 1, 1) := by decide +kernel
theorem d_Model_insert_18 : decode prog_13_method_18_code 18 = .ok (.iaload, 1) := by decide +kernel
theorem d_Model_insert_19 : decode prog_13_method_18_code 19 = .ok (.ifCond .lt 9, 3) := by decide +kernel
theorem d_Model_insert_22 : decode prog_13_method_18_code 22 = .ok (.iinc 1 1, 3) := by decide +kernel
theorem d_Model_insert_25 : decode prog_13_method_18_code 25 = .ok (.goto (-18), 3) := by decide +kernel
theorem d_Model_insert_28 : decode prog_13_method_18_code 28 = .ok (.aload_n 0, 1) := by decide +kernel
theorem d_Model_insert_29 : decode prog_13_method_18_code 29 = .ok (.iload_n 1, 1) := by decide +kernel
theorem d_Model_insert_30 : decode prog_13_method_18_code 30 = .ok (.bipush 24, 2) := by decide +kernel
theorem d_Model_insert_32 : decode prog_13_method_18_code 32 = .ok (.if_icmp .ne 7, 3) := by decide +kernel
theorem d_Model_insert_35 : decode prog_13_method_18_code 35 = .ok (.iconst 1, 1) := by decide +kernel
theorem d_Model_insert_36 : decode prog_13_method_18_code 36 = .ok (.goto 4, 3) := by decide +kernel
theorem d_Model_insert_39 : decode prog_13_method_18_code 39 = .ok (.iconst 0, 1) := by decide +kernel
theorem d_Model_insert_40 : decode prog_13_method_18_code 40 = .ok (.iconst 1, 1) := by decide +kernel
theorem d_Model_insert_41 : decode prog_13_method_18_code 41 = .ok (.invokevirtual 139, 3) := by decide +kernel
theorem d_Model_insert_44 : decode prog_13_method_18_code 44 = .ok (.ifCond .eq 5, 3) := by decide +kernel
theorem d_Model_insert_47 : decode prog_13_method_18_code 47 = .ok (.iconst 0, 1) := by decide +kernel
theorem d_Model_insert_48 : decode prog_13_method_18_code 48 = .ok (.ireturn, 1) := by decide +kernel
theorem d_Model_insert_49 : decode prog_13_method_18_code 49 = .ok (.aload_n 0, 1) := by decide +kernel
theorem d_Model_insert_50 : decode prog_13_method_18_code 50 = .ok (.iload_n 1, 1) := by decide +kernel
theorem d_Model_insert_51 : decode prog_13_method_18_code 51 = .ok (.invokevirtual 178, 3) := by decide +kernel
theorem d_Model_insert_54 : decode prog_13_method_18_code 54 = .ok (.pop, 1) := by decide +kernel
theorem d_Model_insert_55 : decode prog_13_method_18_code 55 = .ok (.iload_n 1, 1) := by decide +kernel
theorem d_Model_insert_56 : decode prog_13_method_18_code 56 = .ok (.iconst 1, 1) := by decide +kernel
theorem d_Model_insert_57 : decode prog_13_method_18_code 57 = .ok (.iadd, 1) := by decide +kernel
theorem d_Model_insert_58 : decode prog_13_method_18_code 58 = .ok (.ireturn, 1) := by decide +kernel
theorem d_Model_gets_0 : decode prog_13_method_15_code 0 = .ok (.iconst 0, 1) := by decide +kernel
theorem d_Model_gets_1 : decode prog_13_method_15_code 1 = .ok (.istore_n 2, 1) := by decide +kernel
theorem d_Model_gets_2 : decode prog_13_method_15_code 2 = .ok (.iload_n 2, 1) := by decide +kernel
theorem d_Model_gets_3 : decode prog_13_method_15_code 3 = .ok (.iconst 2, 1) := by decide +kernel
theorem d_Model_gets_4 : decode prog_13_method_15_code 4 = .ok (.if_icmp .ge 66, 3) := by decide +kernel
theorem d_Model_gets_7 : decode prog_13_method_15_code 7 = .ok (.aload_n 0, 1) := by decide +kernel
theorem d_Model_gets_8 : decode prog_13_method_15_code 8 = .ok (.getfield 32, 3) := by decide +kernel
theorem d_Model_gets_11 : decode prog_13_method_15_code 11 = .ok (.iconst 2, 1) := by decide +kernel
theorem d_Model_gets_12 : decode prog_13_method_15_code 12 = .ok (.iload_n 1, 1) := by decide +kernel
theorem d_Model_gets_13 : decode prog_13_method_15_code 13 = .ok (.imul, 1) := by decide +kernel
theorem d_Model_gets_14 : decode prog_13_method_15_code 14 = .ok (.iload_n 2, 1) := by decide +kernel
theorem d_Model_gets_15 : decode prog_13_method_15_code 15 = .ok (.iadd, 1) := by decide +kernel
theorem d_Model_gets_16 : decode prog_13_method_15_code 16 = .ok (.aload_n 0, 1) := by decide +kernel
theorem d_Model_gets_17 : decode prog_13_method_15_code 17 = .ok (.getfield 26, 3) := by decide +kernel
theorem d_Model_gets_20 : decode prog_13_method_15_code 20 = .ok (.iload_n 2, 1) := by decide +kernel
theorem d_Model_gets_21 : decode prog_13_method_15_code 21 = .ok (.iaload, 1) := by decide +kernel
theorem d_Model_gets_22 : decode prog_13_method_15_code 22 = .ok (.iastore, 1) := by decide +kernel
theorem d_Model_gets_23 : decode prog_13_method_15_code 23 = .ok (.iconst 0, 1) := by decide +kernel
theorem d_Model_gets_24 : decode prog_13_method_15_code 24 = .ok (.istore_n 3, 1) := by decide +kernel
theorem d_Model_gets_25 : decode prog_13_method_15_code 25 = .ok (.iload_n 3, 1) := by decide +kernel
theorem d_Model_gets_26 : decode prog_13_method_15_code 26 = .ok (.bipush 48, 2) := by decide +kernel
theorem d_Model_gets_28 : decode prog_13_method_15_code 28 = .ok (.if_icmp .ge 36, 3) := by decide +kernel
theorem d_Model_gets_31 : decode prog_13_method_15_code 31 = .ok (.aload_n 0, 1) := by decide +kernel
theorem d_Model_gets_32 : decode prog_13_method_15_code 32 = .ok (.getfield 29, 3) := by decide +kernel
theorem d_Model_gets_35 : decode prog_13_method_15_code 35 = .ok (.bipush 96, 2) := by decide +kernel
theorem d_Model_gets_37 : decode prog_13_method_15_code 37 = .ok (.iload_n 1, 1) := by decide +kernel
theorem d_Model_gets_38 : decode prog_13_method_15_code 38 = .ok (.imul, 1) := by decide +kernel
theorem d_Model_gets_39 : decode prog_13_method_15_code 39 = .ok (.bipush 48, 2) := by decide +kernel
theorem d_Model_gets_41 : decode prog_13_method_15_code 41 = .ok (.iload_n 2, 1) := by decide +kernel
theorem d_Model_gets_42 : decode prog_13_method_15_code 42 = .ok (.imul, 1) := by decide +kernel
theorem d_Model_gets_43 : decode prog_13_method_15_code 43 = .ok (.iadd, 1) := by decide +kernel
theorem d_Model_gets_44 : decode prog_13_method_15_code 44 = .ok (.iload_n 3, 1) := by decide +kernel
theorem d_Model_gets_45 : decode prog_13_method_15_code 45 = .ok (.iadd, 1) := by decide +kernel
theorem d_Model_gets_46 : decode prog_13_method_15_code 46 = .ok (.aload_n 0, 1) := by decide +kernel
theorem d_Model_gets_47 : decode prog_13_method_15_code 47 = .ok (.getfield 23, 3) := by decide +kernel
theorem d_Model_gets_50 : decode prog_13_method_15_code 50 = .ok (.bipush 48, 2) := by decide +kernel
theorem d_Model_gets_52 : decode prog_13_method_15_code 52 = .ok (.iload_n 2, 1) := by decide +kernel
theorem d_Model_gets_53 : decode prog_13_method_15_code 53 = .ok (.imul, 1) := by decide +kernel
theorem d_Model_gets_54 : decode prog_13_method_15_code 54 = .ok (.iload_n 3, 1) := by decide +kernel
theorem d_Model_gets_55 : decode prog_13_method_15_code 55 = .ok (.iadd, 1) := by decide +kernel
theorem d_Model_gets_56 : decode prog_13_method_15_code 56 = .ok (.iaload, 1) := by decide +kernel
theorem d_Model_gets_57 : decode prog_13_method_15_code 57 = .ok (.iastore, 1) := by decide +kernel
theorem d_Model_gets_58 : decode prog_13_method_15_code 58 = .ok (.iinc 3 1, 3) := by decide +kernel
theorem d_Model_gets_61 : decode prog_13_method_15_code 61 = .ok (.goto (-36), 3) := by decide +kernel
theorem d_Model_gets_64 : decode prog_13_method_15_code 64 = .ok (.iinc 2 1, 3) := by decide +kernel
theorem d_Model_gets_67 : decode prog_13_method_15_code 67 = .ok (.goto (-65), 3) := by decide +kernel
theorem d_Model_gets_70 : decode prog_13_method_15_code 70 = .ok (.aload_n 0, 1) := by decide +kernel
theorem d_Model_gets_71 : decode prog_13_method_15_code 71 = .ok (.getfield 165, 3) := by decide +kernel
theorem d_Model_gets_74 : decode prog_13_method_15_code 74 = .ok (.istore_n 2, 1) := by decide +kernel
theorem d_Model_gets_75 : decode prog_13_method_15_code 75 = .ok (.aload_n 0, 1) := by decide +kernel
theorem d_Model_gets_76 : decode prog_13_method_15_code 76 = .ok (.dup, 1) := by decide +kernel
theorem d_Model_gets_77 : decode prog_13_method_15_code 77 = .ok (.getfield 165, 3) := by decide +kernel
theorem d_Model_gets_80 : decode prog_13_method_15_code 80 = .ok (.iconst 1, 1) := by decide +kernel
theorem d_Model_gets_81 : decode prog_13_method_15_code 81 = .ok (.iadd, 1) := by decide +kernel
theorem d_Model_gets_82 : decode prog_13_method_15_code 82 = .ok (.putfield 165, 3) := by decide +kernel
theorem d_Model_gets_85 : decode prog_13_method_15_code 85 = .ok (.aload_n 0, 1) := by decide +kernel
theorem d_Model_gets_86 : decode prog_13_method_15_code 86 = .ok (.getfield 38, 3) := by decide +kernel
theorem d_Model_gets_89 : decode prog_13_method_15_code 89 = .ok (.iload_n 2, 1) := by decide +kernel
theorem d_Model_gets_90 : decode prog_13_method_15_code 90 = .ok (.aload_n 0, 1) := by decide +kernel
theorem d_Model_gets_91 : decode prog_13_method_15_code 91 = .ok (.iload_n 1, 1) := by decide +kernel
theorem d_Model_gets_92 : decode prog_13_method_15_code 92 = .ok (.invokevirtual 168, 3) := by decide +kernel
theorem d_Model_gets_95 : decode prog_13_method_15_code 95 = .ok (.iastore, 1) := by decide +kernel
theorem d_Model_gets_96 : decode prog_13_method_15_code 96 = .ok (.aload_n 0, 1) := by decide +kernel
theorem d_Model_gets_97 : decode prog_13_method_15_code 97 = .ok (.getfield 41, 3) := by decide +kernel
theorem d_Model_gets_100 : decode prog_13_method_15_code 100 = .ok (.iload_n 2, 1) := by decide +kernel
theorem d_Model_gets_101 : decode prog_13_method_15_code 101 = .ok (.bipush (-2), 2) := by decide +kernel
theorem d_Model_gets_103 : decode prog_13_method_15_code 103 = .ok (.iastore, 1) := by decide +kernel
theorem d_Model_gets_104 : decode prog_13_method_15_code 104 = .ok (.aload_n 0, 1) := by decide +kernel
theorem d_Model_gets_105 : decode prog_13_method_15_code 105 = .ok (.getfield 44, 3) := by decide +kernel
theorem d_Model_gets_108 : decode prog_13_method_15_code 108 = .ok (.iload_n 1, 1) := by decide +kernel
theorem d_Model_gets_109 : decode prog_13_method_15_code 109 = .ok (.iload_n 2, 1) := by decide +kernel
theorem d_Model_gets_110 : decode prog_13_method_15_code 110 = .ok (.iastore, 1) := by decide +kernel
theorem d_Model_gets_111 : decode prog_13_method_15_code 111 = .ok (.aload_n 0, 1) := by decide +kernel
theorem d_Model_gets_112 : decode prog_13_method_15_code 112 = .ok (.invokevirtual 171, 3) := by decide +kernel
theorem d_Model_gets_115 : decode prog_13_method_15_code 115 = .ok (.aload_n 0, 1) := by decide +kernel
theorem d_Model_gets_116 : decode prog_13_method_15_code 116 = .ok (.getfield 13, 3) := by decide +kernel
theorem d_Model_gets_119 : decode prog_13_method_15_code 119 = .ok (.if_icmp .le 7, 3) := by decide +kernel
theorem d_Model_gets_122 : decode prog_13_method_15_code 122 = .ok (.aload_n 0, 1) := by decide +kernel
theorem d_Model_gets_123 : decode prog_13_method_15_code 123 = .ok (.invokevirtual 175, 3) := by decide +kernel
theorem d_Model_gets_126 : decode prog_13_method_15_code 126 = .ok (.aload_n 0, 1) := by decide +kernel
theorem d_Model_gets_127 : decode prog_13_method_15_code 127 = .ok (.getfield 38, 3) := by decide +kernel
theorem d_Model_gets_130 : decode prog_13_method_15_code 130 = .ok (.iload_n 2, 1) := by decide +kernel
theorem d_Model_gets_131 : decode prog_13_method_15_code 131 = .ok (.iaload, 1) := by decide +kernel
theorem d_Model_gets_132 : decode prog_13_method_15_code 132 = .ok (.ireturn, 1) := by decide +kernel
theorem d_Model_entriesOf_0 : decode prog_13_method_13_code 0 = .ok (.iconst 0, 1) := by decide +kernel
theorem d_Model_entriesOf_1 : decode prog_13_method_13_code 1 = .ok (.istore_n 2, 1) := by decide +kernel
theorem d_Model_entriesOf_2 : decode prog_13_method_13_code 2 = .ok (.iconst 0, 1) := by decide +kernel
theorem d_Model_entriesOf_3 : decode prog_13_method_13_code 3 = .ok (.istore_n 3, 1) := by decide +kernel
theorem d_Model_entriesOf_4 : decode prog_13_method_13_code 4 = .ok (.iload_n 3, 1) := by decide +kernel
theorem d_Model_entriesOf_5 : decode prog_13_method_13_code 5 = .ok (.iconst 2, 1) := by decide +kernel
theorem d_Model_entriesOf_6 : decode prog_13_method_13_code 6 = .ok (.if_icmp .ge 81, 3) := by decide +kernel
theorem d_Model_entriesOf_9 : decode prog_13_method_13_code 9 = .ok (.aload_n 0, 1) := by decide +kernel
theorem d_Model_entriesOf_10 : decode prog_13_method_13_code 10 = .ok (.iload_n 1, 1) := by decide +kernel
theorem d_Model_entriesOf_11 : decode prog_13_method_13_code 11 = .ok (.iload_n 3, 1) := by decide +kernel
theorem d_Model_entriesOf_12 : decode prog_13_method_13_code 12 = .ok (.invokevirtual 153, 3) := by decide +kernel
theorem d_Model_entriesOf_15 : decode prog_13_method_13_code 15 = .ok (.iconst 0, 1) := by decide +kernel
theorem d_Model_entriesOf_16 : decode prog_13_method_13_code 16 = .ok (.istore 4, 2) := by decide +kernel
theorem d_Model_entriesOf_18 : decode prog_13_method_13_code 18 = .ok (.iload 4, 2) := by decide +kernel
theorem d_Model_entriesOf_20 : decode prog_13_method_13_code 20 = .ok (.aload_n 0, 1) := by decide +kernel
theorem d_Model_entriesOf_21 : decode prog_13_method_13_code 21 = .ok (.getfield 150, 3) := by decide +kernel
theorem d_Model_entriesOf_24 : decode prog_13_method_13_code 24 = .ok (.if_icmp .ge 57, 3) := by decide +kernel
theorem d_Model_entriesOf_27 : decode prog_13_method_13_code 27 = .ok (.iconst 1, 1) := by decide +kernel
theorem d_Model_entriesOf_28 : decode prog_13_method_13_code 28 = .ok (.istore 5, 2) := by decide +kernel
theorem d_Model_entriesOf_30 : decode prog_13_method_13_code 30 = .ok (.iconst 0, 1) := by decide +kernel
theorem d_Model_entriesOf_31 : decode prog_13_method_13_code 31 = .ok (.istore 6, 2) := by decide +kernel
theorem d_Model_entriesOf_33 : decode prog_13_method_13_code 33 = .ok (.iload 6, 2) := by decide +kernel
theorem d_Model_entriesOf_35 : decode prog_13_method_13_code 35 = .ok (.iload 4, 2) := by decide +kernel
theorem d_Model_entriesOf_37 : decode prog_13_method_13_code 37 = .ok (.if_icmp .ge 30, 3) := by decide +kernel
theorem d_Model_entriesOf_40 : decode prog_13_method_13_code 40 = .ok (.iload 5, 2) := by decide +kernel
theorem d_Model_entriesOf_42 : decode prog_13_method_13_code 42 = .ok (.aload_n 0, 1) := by decide +kernel
theorem d_Model_entriesOf_43 : decode prog_13_method_13_code 43 = .ok (.iload 4, 2) := by decide +kernel
theorem d_Model_entriesOf_45 : decode prog_13_method_13_code 45 = .ok (.iload 6, 2) := by decide +kernel
theorem d_Model_entriesOf_47 : decode prog_13_method_13_code 47 = .ok (.invokevirtual 161, 3) := by decide +kernel
theorem d_Model_entriesOf_50 : decode prog_13_method_13_code 50 = .ok (.ifCond .ne 7, 3) := by decide +kernel
theorem d_Model_entriesOf_53 : decode prog_13_method_13_code 53 = .ok (.iconst 1, 1) := by decide +kernel
theorem d_Model_entriesOf_54 : decode prog_13_method_13_code 54 = .ok (.goto 4, 3) := by decide +kernel
theorem d_Model_entriesOf_57 : decode prog_13_method_13_code 57 = .ok (.iconst 0, 1) := by decide +kernel
theorem d_Model_entriesOf_58 : decode prog_13_method_13_code 58 = .ok (.iand, 1) := by decide +kernel
theorem d_Model_entriesOf_59 : decode prog_13_method_13_code 59 = .ok (.istore 5, 2) := by decide +kernel
theorem d_Model_entriesOf_61 : decode prog_13_method_13_code 61 = .ok (.iinc 6 1, 3) := by decide +kernel
theorem d_Model_entriesOf_64 : decode prog_13_method_13_code 64 = .ok (.goto (-31), 3) := by decide +kernel
theorem d_Model_entriesOf_67 : decode prog_13_method_13_code 67 = .ok (.iload 5, 2) := by decide +kernel
theorem d_Model_entriesOf_69 : decode prog_13_method_13_code 69 = .ok (.ifCond .eq 6, 3) := by decide +kernel
theorem d_Model_entriesOf_72 : decode prog_13_method_13_code 72 = .ok (.iinc 2 1, 3) := by decide +kernel
theorem d_Model_entriesOf_75 : decode prog_13_method_13_code 75 = .ok (.iinc 4 1, 3) := by decide +kernel
theorem d_Model_entriesOf_78 : decode prog_13_method_13_code 78 = .ok (.goto (-60), 3) := by decide +kernel
theorem d_Model_entriesOf_81 : decode prog_13_method_13_code 81 = .ok (.iinc 3 1, 3) := by decide +kernel
theorem d_Model_entriesOf_84 : decode prog_13_method_13_code 84 = .ok (.goto (-80), 3) := by decide +kernel
theorem d_Model_entriesOf_87 : decode prog_13_method_13_code 87 = .ok (.iload_n 2, 1) := by decide +kernel
theorem d_Model_entriesOf_88 : decode prog_13_method_13_code 88 = .ok (.ireturn, 1) := by decide +kernel
theorem d_Model_opens_0 : decode prog_13_method_10_code 0 = .ok (.bipush 96, 2) := by decide +kernel
theorem d_Model_opens_2 : decode prog_13_method_10_code 2 = .ok (.iload_n 1, 1) := by decide +kernel
theorem d_Model_opens_3 : decode prog_13_method_10_code 3 = .ok (.imul, 1) := by decide +kernel
theorem d_Model_opens_4 : decode prog_13_method_10_code 4 = .ok (.bipush 48, 2) := by decide +kernel
theorem d_Model_opens_6 : decode prog_13_method_10_code 6 = .ok (.iload_n 2, 1) := by decide +kernel
theorem d_Model_opens_7 : decode prog_13_method_10_code 7 = .ok (.imul, 1) := by decide +kernel
theorem d_Model_opens_8 : decode prog_13_method_10_code 8 = .ok (.iadd, 1) := by decide +kernel
theorem d_Model_opens_9 : decode prog_13_method_10_code 9 = .ok (.istore_n 3, 1) := by decide +kernel
theorem d_Model_opens_10 : decode prog_13_method_10_code 10 = .ok (.aload_n 0, 1) := by decide +kernel
theorem d_Model_opens_11 : decode prog_13_method_10_code 11 = .ok (.getfield 32, 3) := by decide +kernel
theorem d_Model_opens_14 : decode prog_13_method_10_code 14 = .ok (.iconst 2, 1) := by decide +kernel
theorem d_Model_opens_15 : decode prog_13_method_10_code 15 = .ok (.iload_n 1, 1) := by decide +kernel
theorem d_Model_opens_16 : decode prog_13_method_10_code 16 = .ok (.imul, 1) := by decide +kernel
theorem d_Model_opens_17 : decode prog_13_method_10_code 17 = .ok (.iload_n 2, 1) := by decide +kernel
theorem d_Model_opens_18 : decode prog_13_method_10_code 18 = .ok (.iadd, 1) := by decide +kernel
theorem d_Model_opens_19 : decode prog_13_method_10_code 19 = .ok (.iaload, 1) := by decide +kernel
theorem d_Model_opens_20 : decode prog_13_method_10_code 20 = .ok (.istore 4, 2) := by decide +kernel
theorem d_Model_opens_22 : decode prog_13_method_10_code 22 = .ok (.aload_n 0, 1) := by decide +kernel
theorem d_Model_opens_23 : decode prog_13_method_10_code 23 = .ok (.iconst 0, 1) := by decide +kernel
theorem d_Model_opens_24 : decode prog_13_method_10_code 24 = .ok (.putfield 150, 3) := by decide +kernel
theorem d_Model_opens_27 : decode prog_13_method_10_code 27 = .ok (.iconst 0, 1) := by decide +kernel
theorem d_Model_opens_28 : decode prog_13_method_10_code 28 = .ok (.istore 5, 2) := by decide +kernel
theorem d_Model_opens_30 : decode prog_13_method_10_code 30 = .ok (.iload 5, 2) := by decide +kernel
theorem d_Model_opens_32 : decode prog_13_method_10_code 32 = .ok (.iload 4, 2) := by decide +kernel
theorem d_Model_opens_34 : decode prog_13_method_10_code 34 = .ok (.if_icmp .ge 89, 3) := by decide +kernel
theorem d_Model_opens_37 : decode prog_13_method_10_code 37 = .ok (.aload_n 0, 1) := by decide +kernel
theorem d_Model_opens_38 : decode prog_13_method_10_code 38 = .ok (.getfield 29, 3) := by decide +kernel
theorem d_Model_opens_41 : decode prog_13_method_10_code 41 = .ok (.iload_n 3, 1) := by decide +kernel
theorem d_Model_opens_42 : decode prog_13_method_10_code 42 = .ok (.iload 5, 2) := by decide +kernel
theorem d_Model_opens_44 : decode prog_13_method_10_code 44 = .ok (.iadd, 1) := by decide +kernel
theorem d_Model_opens_45 : decode prog_13_method_10_code 45 = .ok (.iaload, 1) := by decide +kernel
theorem d_Model_opens_46 : decode prog_13_method_10_code 46 = .ok (.invokestatic 146, 3) := by decide +kernel
theorem d_Model_opens_49 : decode prog_13_method_10_code 49 = .ok (.ifCond .ne 6, 3) := by decide +kernel
theorem d_Model_opens_52 : decode prog_13_method_10_code 52 = .ok (.goto 65, 3) := by decide +kernel
theorem d_Model_opens_55 : decode prog_13_method_10_code 55 = .ok (.iload 5, 2) := by decide +kernel
theorem d_Model_opens_57 : decode prog_13_method_10_code 57 = .ok (.ifCond .eq 20, 3) := by decide +kernel
theorem d_Model_opens_60 : decode prog_13_method_10_code 60 = .ok (.aload_n 0, 1) := by decide +kernel
theorem d_Model_opens_61 : decode prog_13_method_10_code 61 = .ok (.getfield 29, 3) := by decide +kernel
theorem d_Model_opens_64 : decode prog_13_method_10_code 64 = .ok (.iload_n 3, 1) := by decide +kernel
theorem d_Model_opens_65 : decode prog_13_method_10_code 65 = .ok (.iload 5, 2) := by decide +kernel
theorem d_Model_opens_67 : decode prog_13_method_10_code 67 = .ok (.iadd, 1) := by decide +kernel
theorem d_Model_opens_68 : decode prog_13_method_10_code 68 = .ok (.iconst 1, 1) := by decide +kernel
theorem d_Model_opens_69 : decode prog_13_method_10_code 69 = .ok (.isub, 1) := by decide +kernel
theorem d_Model_opens_70 : decode prog_13_method_10_code 70 = .ok (.iaload, 1) := by decide +kernel
theorem d_Model_opens_71 : decode prog_13_method_10_code 71 = .ok (.invokestatic 146, 3) := by decide +kernel
theorem d_Model_opens_74 : decode prog_13_method_10_code 74 = .ok (.ifCond .ne 26, 3) := by decide +kernel
theorem d_Model_opens_77 : decode prog_13_method_10_code 77 = .ok (.aload_n 0, 1) := by decide +kernel
theorem d_Model_opens_78 : decode prog_13_method_10_code 78 = .ok (.getfield 110, 3) := by decide +kernel
theorem d_Model_opens_81 : decode prog_13_method_10_code 81 = .ok (.aload_n 0, 1) := by decide +kernel
theorem d_Model_opens_82 : decode prog_13_method_10_code 82 = .ok (.getfield 150, 3) := by decide +kernel
theorem d_Model_opens_85 : decode prog_13_method_10_code 85 = .ok (.iload_n 3, 1) := by decide +kernel
theorem d_Model_opens_86 : decode prog_13_method_10_code 86 = .ok (.iload 5, 2) := by decide +kernel
theorem d_Model_opens_88 : decode prog_13_method_10_code 88 = .ok (.iadd, 1) := by decide +kernel
theorem d_Model_opens_89 : decode prog_13_method_10_code 89 = .ok (.iastore, 1) := by decide +kernel
theorem d_Model_opens_90 : decode prog_13_method_10_code 90 = .ok (.aload_n 0, 1) := by decide +kernel
theorem d_Model_opens_91 : decode prog_13_method_10_code 91 = .ok (.dup, 1) := by decide +kernel
theorem d_Model_opens_92 : decode prog_13_method_10_code 92 = .ok (.getfield 150, 3) := by decide +kernel
theorem d_Model_opens_95 : decode prog_13_method_10_code 95 = .ok (.iconst 1, 1) := by decide +kernel
theorem d_Model_opens_96 : decode prog_13_method_10_code 96 = .ok (.iadd, 1) := by decide +kernel
theorem d_Model_opens_97 : decode prog_13_method_10_code 97 = .ok (.putfield 150, 3) := by decide +kernel
theorem d_Model_opens_100 : decode prog_13_method_10_code 100 = .ok (.aload_n 0, 1) := by decide +kernel
theorem d_Model_opens_101 : decode prog_13_method_10_code 101 = .ok (.getfield 113, 3) := by decide +kernel
theorem d_Model_opens_104 : decode prog_13_method_10_code 104 = .ok (.aload_n 0, 1) := by decide +kernel
theorem d_Model_opens_105 : decode prog_13_method_10_code 105 = .ok (.getfield 150, 3) := by decide +kernel
theorem d_Model_opens_108 : decode prog_13_method_10_code 108 = .ok (.iconst 1, 1) := by decide +kernel
theorem d_Model_opens_109 : decode prog_13_method_10_code 109 = .ok (.isub, 1) := by decide +kernel
theorem d_Model_opens_110 : decode prog_13_method_10_code 110 = .ok (.iload_n 3, 1) := by decide +kernel
theorem d_Model_opens_111 : decode prog_13_method_10_code 111 = .ok (.iload 5, 2) := by decide +kernel
theorem d_Model_opens_113 : decode prog_13_method_10_code 113 = .ok (.iadd, 1) := by decide +kernel
theorem d_Model_opens_114 : decode prog_13_method_10_code 114 = .ok (.iconst 1, 1) := by decide +kernel
theorem d_Model_opens_115 : decode prog_13_method_10_code 115 = .ok (.iadd, 1) := by decide +kernel
theorem d_Model_opens_116 : decode prog_13_method_10_code 116 = .ok (.iastore, 1) := by decide +kernel
theorem d_Model_opens_117 : decode prog_13_method_10_code 117 = .ok (.iinc 5 1, 3) := by decide +kernel
theorem d_Model_opens_120 : decode prog_13_method_10_code 120 = .ok (.goto (-90), 3) := by decide +kernel
theorem d_Model_opens_123 : decode prog_13_method_10_code 123 = .ok (.return_, 1) := by decide +kernel
theorem d_Model_alike_0 : decode prog_13_method_12_code 0 = .ok (.aload_n 0, 1) := by decide +kernel
theorem d_Model_alike_1 : decode prog_13_method_12_code 1 = .ok (.getfield 113, 3) := by decide +kernel
theorem d_Model_alike_4 : decode prog_13_method_12_code 4 = .ok (.iload_n 1, 1) := by decide +kernel
theorem d_Model_alike_5 : decode prog_13_method_12_code 5 = .ok (.iaload, 1) := by decide +kernel
theorem d_Model_alike_6 : decode prog_13_method_12_code 6 = .ok (.aload_n 0, 1) := by decide +kernel
theorem d_Model_alike_7 : decode prog_13_method_12_code 7 = .ok (.getfield 110, 3) := by decide +kernel
theorem d_Model_alike_10 : decode prog_13_method_12_code 10 = .ok (.iload_n 1, 1) := by decide +kernel
theorem d_Model_alike_11 : decode prog_13_method_12_code 11 = .ok (.iaload, 1) := by decide +kernel
theorem d_Model_alike_12 : decode prog_13_method_12_code 12 = .ok (.isub, 1) := by decide +kernel
theorem d_Model_alike_13 : decode prog_13_method_12_code 13 = .ok (.istore_n 3, 1) := by decide +kernel
theorem d_Model_alike_14 : decode prog_13_method_12_code 14 = .ok (.aload_n 0, 1) := by decide +kernel
theorem d_Model_alike_15 : decode prog_13_method_12_code 15 = .ok (.getfield 113, 3) := by decide +kernel
theorem d_Model_alike_18 : decode prog_13_method_12_code 18 = .ok (.iload_n 2, 1) := by decide +kernel
theorem d_Model_alike_19 : decode prog_13_method_12_code 19 = .ok (.iaload, 1) := by decide +kernel
theorem d_Model_alike_20 : decode prog_13_method_12_code 20 = .ok (.aload_n 0, 1) := by decide +kernel
theorem d_Model_alike_21 : decode prog_13_method_12_code 21 = .ok (.getfield 110, 3) := by decide +kernel
theorem d_Model_alike_24 : decode prog_13_method_12_code 24 = .ok (.iload_n 2, 1) := by decide +kernel
theorem d_Model_alike_25 : decode prog_13_method_12_code 25 = .ok (.iaload, 1) := by decide +kernel
theorem d_Model_alike_26 : decode prog_13_method_12_code 26 = .ok (.isub, 1) := by decide +kernel
theorem d_Model_alike_27 : decode prog_13_method_12_code 27 = .ok (.iload_n 3, 1) := by decide +kernel
theorem d_Model_alike_28 : decode prog_13_method_12_code 28 = .ok (.if_icmp .eq 5, 3) := by decide +kernel
theorem d_Model_alike_31 : decode prog_13_method_12_code 31 = .ok (.iconst 0, 1) := by decide +kernel
theorem d_Model_alike_32 : decode prog_13_method_12_code 32 = .ok (.ireturn, 1) := by decide +kernel
theorem d_Model_alike_33 : decode prog_13_method_12_code 33 = .ok (.iconst 0, 1) := by decide +kernel
theorem d_Model_alike_34 : decode prog_13_method_12_code 34 = .ok (.istore 4, 2) := by decide +kernel
theorem d_Model_alike_36 : decode prog_13_method_12_code 36 = .ok (.iload 4, 2) := by decide +kernel
theorem d_Model_alike_38 : decode prog_13_method_12_code 38 = .ok (.iload_n 3, 1) := by decide +kernel
theorem d_Model_alike_39 : decode prog_13_method_12_code 39 = .ok (.if_icmp .ge 48, 3) := by decide +kernel
theorem d_Model_alike_42 : decode prog_13_method_12_code 42 = .ok (.aload_n 0, 1) := by decide +kernel
theorem d_Model_alike_43 : decode prog_13_method_12_code 43 = .ok (.getfield 29, 3) := by decide +kernel
theorem d_Model_alike_46 : decode prog_13_method_12_code 46 = .ok (.aload_n 0, 1) := by decide +kernel
theorem d_Model_alike_47 : decode prog_13_method_12_code 47 = .ok (.getfield 110, 3) := by decide +kernel
theorem d_Model_alike_50 : decode prog_13_method_12_code 50 = .ok (.iload_n 1, 1) := by decide +kernel
theorem d_Model_alike_51 : decode prog_13_method_12_code 51 = .ok (.iaload, 1) := by decide +kernel
theorem d_Model_alike_52 : decode prog_13_method_12_code 52 = .ok (.iload 4, 2) := by decide +kernel
theorem d_Model_alike_54 : decode prog_13_method_12_code 54 = .ok (.iadd, 1) := by decide +kernel
theorem d_Model_alike_55 : decode prog_13_method_12_code 55 = .ok (.iaload, 1) := by decide +kernel
theorem d_Model_alike_56 : decode prog_13_method_12_code 56 = .ok (.invokestatic 157, 3) := by decide +kernel
theorem d_Model_alike_59 : decode prog_13_method_12_code 59 = .ok (.aload_n 0, 1) := by decide +kernel
theorem d_Model_alike_60 : decode prog_13_method_12_code 60 = .ok (.getfield 29, 3) := by decide +kernel
theorem d_Model_alike_63 : decode prog_13_method_12_code 63 = .ok (.aload_n 0, 1) := by decide +kernel
theorem d_Model_alike_64 : decode prog_13_method_12_code 64 = .ok (.getfield 110, 3) := by decide +kernel
theorem d_Model_alike_67 : decode prog_13_method_12_code 67 = .ok (.iload_n 2, 1) := by decide +kernel
theorem d_Model_alike_68 : decode prog_13_method_12_code 68 = .ok (.iaload, 1) := by decide +kernel
theorem d_Model_alike_69 : decode prog_13_method_12_code 69 = .ok (.iload 4, 2) := by decide +kernel
theorem d_Model_alike_71 : decode prog_13_method_12_code 71 = .ok (.iadd, 1) := by decide +kernel
theorem d_Model_alike_72 : decode prog_13_method_12_code 72 = .ok (.iaload, 1) := by decide +kernel
theorem d_Model_alike_73 : decode prog_13_method_12_code 73 = .ok (.invokestatic 157, 3) := by decide +kernel
theorem d_Model_alike_76 : decode prog_13_method_12_code 76 = .ok (.if_icmp .eq 5, 3) := by decide +kernel
theorem d_Model_alike_79 : decode prog_13_method_12_code 79 = .ok (.iconst 0, 1) := by decide +kernel
theorem d_Model_alike_80 : decode prog_13_method_12_code 80 = .ok (.ireturn, 1) := by decide +kernel
theorem d_Model_alike_81 : decode prog_13_method_12_code 81 = .ok (.iinc 4 1, 3) := by decide +kernel
theorem d_Model_alike_84 : decode prog_13_method_12_code 84 = .ok (.goto (-48), 3) := by decide +kernel
theorem d_Model_alike_87 : decode prog_13_method_12_code 87 = .ok (.iconst 1, 1) := by decide +kernel
theorem d_Model_alike_88 : decode prog_13_method_12_code 88 = .ok (.ireturn, 1) := by decide +kernel
theorem d_Model_small_0 : decode prog_13_method_6_code 0 = .ok (.iload_n 0, 1) := by decide +kernel
theorem d_Model_small_1 : decode prog_13_method_6_code 1 = .ok (.bipush 65, 2) := by decide +kernel
theorem d_Model_small_3 : decode prog_13_method_6_code 3 = .ok (.bipush 90, 2) := by decide +kernel
theorem d_Model_small_5 : decode prog_13_method_6_code 5 = .ok (.invokestatic 133, 3) := by decide +kernel
theorem d_Model_small_8 : decode prog_13_method_6_code 8 = .ok (.ifCond .eq 10, 3) := by decide +kernel
theorem d_Model_small_11 : decode prog_13_method_6_code 11 = .ok (.iload_n 0, 1) := by decide +kernel
theorem d_Model_small_12 : decode prog_13_method_6_code 12 = .ok (.bipush 32, 2) := by decide +kernel
theorem d_Model_small_14 : decode prog_13_method_6_code 14 = .ok (.iadd, 1) := by decide +kernel
theorem d_Model_small_15 : decode prog_13_method_6_code 15 = .ok (.goto 4, 3) := by decide +kernel
theorem d_Model_small_18 : decode prog_13_method_6_code 18 = .ok (.iload_n 0, 1) := by decide +kernel
theorem d_Model_small_19 : decode prog_13_method_6_code 19 = .ok (.ireturn, 1) := by decide +kernel
theorem d_Model_pending_0 : decode prog_13_method_16_code 0 = .ok (.iconst 0, 1) := by decide +kernel
theorem d_Model_pending_1 : decode prog_13_method_16_code 1 = .ok (.istore_n 1, 1) := by decide +kernel
theorem d_Model_pending_2 : decode prog_13_method_16_code 2 = .ok (.iconst 0, 1) := by decide +kernel
theorem d_Model_pending_3 : decode prog_13_method_16_code 3 = .ok (.istore_n 2, 1) := by decide +kernel
theorem d_Model_pending_4 : decode prog_13_method_16_code 4 = .ok (.iload_n 2, 1) := by decide +kernel
theorem d_Model_pending_5 : decode prog_13_method_16_code 5 = .ok (.aload_n 0, 1) := by decide +kernel
theorem d_Model_pending_6 : decode prog_13_method_16_code 6 = .ok (.getfield 165, 3) := by decide +kernel
theorem d_Model_pending_9 : decode prog_13_method_16_code 9 = .ok (.if_icmp .ge 29, 3) := by decide +kernel
theorem d_Model_pending_12 : decode prog_13_method_16_code 12 = .ok (.aload_n 0, 1) := by decide +kernel
theorem d_Model_pending_13 : decode prog_13_method_16_code 13 = .ok (.getfield 41, 3) := by decide +kernel
theorem d_Model_pending_16 : decode prog_13_method_16_code 16 = .ok (.iload_n 2, 1) := by decide +kernel
theorem d_Model_pending_17 : decode prog_13_method_16_code 17 = .ok (.iaload, 1) := by decide +kernel
theorem d_Model_pending_18 : decode prog_13_method_16_code 18 = .ok (.bipush (-2), 2) := by decide +kernel
theorem d_Model_pending_20 : decode prog_13_method_16_code 20 = .ok (.if_icmp .ne 12, 3) := by decide +kernel
theorem d_Model_pending_23 : decode prog_13_method_16_code 23 = .ok (.iload_n 1, 1) := by decide +kernel
theorem d_Model_pending_24 : decode prog_13_method_16_code 24 = .ok (.aload_n 0, 1) := by decide +kernel
theorem d_Model_pending_25 : decode prog_13_method_16_code 25 = .ok (.getfield 38, 3) := by decide +kernel
theorem d_Model_pending_28 : decode prog_13_method_16_code 28 = .ok (.iload_n 2, 1) := by decide +kernel
theorem d_Model_pending_29 : decode prog_13_method_16_code 29 = .ok (.iaload, 1) := by decide +kernel
theorem d_Model_pending_30 : decode prog_13_method_16_code 30 = .ok (.iadd, 1) := by decide +kernel
theorem d_Model_pending_31 : decode prog_13_method_16_code 31 = .ok (.istore_n 1, 1) := by decide +kernel
theorem d_Model_pending_32 : decode prog_13_method_16_code 32 = .ok (.iinc 2 1, 3) := by decide +kernel
theorem d_Model_pending_35 : decode prog_13_method_16_code 35 = .ok (.goto (-31), 3) := by decide +kernel
theorem d_Model_pending_38 : decode prog_13_method_16_code 38 = .ok (.iload_n 1, 1) := by decide +kernel
theorem d_Model_pending_39 : decode prog_13_method_16_code 39 = .ok (.ireturn, 1) := by decide +kernel
theorem d_Model_flushes_0 : decode prog_13_method_22_code 0 = .ok (.aload_n 0, 1) := by decide +kernel
theorem d_Model_flushes_1 : decode prog_13_method_22_code 1 = .ok (.bipush (-2), 2) := by decide +kernel
theorem d_Model_flushes_3 : decode prog_13_method_22_code 3 = .ok (.iconst 0, 1) := by decide +kernel
theorem d_Model_flushes_4 : decode prog_13_method_22_code 4 = .ok (.invokevirtual 196, 3) := by decide +kernel
theorem d_Model_flushes_7 : decode prog_13_method_22_code 7 = .ok (.iconst 0, 1) := by decide +kernel
theorem d_Model_flushes_8 : decode prog_13_method_22_code 8 = .ok (.istore_n 1, 1) := by decide +kernel
theorem d_Model_flushes_9 : decode prog_13_method_22_code 9 = .ok (.iload_n 1, 1) := by decide +kernel
theorem d_Model_flushes_10 : decode prog_13_method_22_code 10 = .ok (.iconst 5, 1) := by decide +kernel
theorem d_Model_flushes_11 : decode prog_13_method_22_code 11 = .ok (.if_icmp .ge 61, 3) := by decide +kernel
theorem d_Model_flushes_14 : decode prog_13_method_22_code 14 = .ok (.iconst 0, 1) := by decide +kernel
theorem d_Model_flushes_15 : decode prog_13_method_22_code 15 = .ok (.istore_n 2, 1) := by decide +kernel
theorem d_Model_flushes_16 : decode prog_13_method_22_code 16 = .ok (.iconst 0, 1) := by decide +kernel
theorem d_Model_flushes_17 : decode prog_13_method_22_code 17 = .ok (.istore_n 3, 1) := by decide +kernel
theorem d_Model_flushes_18 : decode prog_13_method_22_code 18 = .ok (.iload_n 3, 1) := by decide +kernel
theorem d_Model_flushes_19 : decode prog_13_method_22_code 19 = .ok (.aload_n 0, 1) := by decide +kernel
theorem d_Model_flushes_20 : decode prog_13_method_22_code 20 = .ok (.getfield 193, 3) := by decide +kernel
theorem d_Model_flushes_23 : decode prog_13_method_22_code 23 = .ok (.if_icmp .ge 27, 3) := by decide +kernel
theorem d_Model_flushes_26 : decode prog_13_method_22_code 26 = .ok (.aload_n 0, 1) := by decide +kernel
theorem d_Model_flushes_27 : decode prog_13_method_22_code 27 = .ok (.getfield 50, 3) := by decide +kernel
theorem d_Model_flushes_30 : decode prog_13_method_22_code 30 = .ok (.aload_n 0, 1) := by decide +kernel
theorem d_Model_flushes_31 : decode prog_13_method_22_code 31 = .ok (.getfield 47, 3) := by decide +kernel
theorem d_Model_flushes_34 : decode prog_13_method_22_code 34 = .ok (.iload_n 3, 1) := by decide +kernel
theorem d_Model_flushes_35 : decode prog_13_method_22_code 35 = .ok (.iaload, 1) := by decide +kernel
theorem d_Model_flushes_36 : decode prog_13_method_22_code 36 = .ok (.iaload, 1) := by decide +kernel
theorem d_Model_flushes_37 : decode prog_13_method_22_code 37 = .ok (.iload_n 1, 1) := by decide +kernel
theorem d_Model_flushes_38 : decode prog_13_method_22_code 38 = .ok (.if_icmp .ne 6, 3) := by decide +kernel
theorem d_Model_flushes_41 : decode prog_13_method_22_code 41 = .ok (.iinc 2 1, 3) := by decide +kernel
theorem d_Model_flushes_44 : decode prog_13_method_22_code 44 = .ok (.iinc 3 1, 3) := by decide +kernel
theorem d_Model_flushes_47 : decode prog_13_method_22_code 47 = .ok (.goto (-29), 3) := by decide +kernel
theorem d_Model_flushes_50 : decode prog_13_method_22_code 50 = .ok (.iload_n 2, 1) := by decide +kernel
theorem d_Model_flushes_51 : decode prog_13_method_22_code 51 = .ok (.aload_n 0, 1) := by decide +kernel
theorem d_Model_flushes_52 : decode prog_13_method_22_code 52 = .ok (.getfield 7, 3) := by decide +kernel
theorem d_Model_flushes_55 : decode prog_13_method_22_code 55 = .ok (.if_icmp .le 11, 3) := by decide +kernel
theorem d_Model_flushes_58 : decode prog_13_method_22_code 58 = .ok (.aload_n 0, 1) := by decide +kernel
theorem d_Model_flushes_59 : decode prog_13_method_22_code 59 = .ok (.iload_n 1, 1) := by decide +kernel
theorem d_Model_flushes_60 : decode prog_13_method_22_code 60 = .ok (.iload_n 1, 1) := by decide +kernel
theorem d_Model_flushes_61 : decode prog_13_method_22_code 61 = .ok (.iconst 1, 1) := by decide +kernel
theorem d_Model_flushes_62 : decode prog_13_method_22_code 62 = .ok (.iadd, 1) := by decide +kernel
theorem d_Model_flushes_63 : decode prog_13_method_22_code 63 = .ok (.invokevirtual 196, 3) := by decide +kernel
theorem d_Model_flushes_66 : decode prog_13_method_22_code 66 = .ok (.iinc 1 1, 3) := by decide +kernel
theorem d_Model_flushes_69 : decode prog_13_method_22_code 69 = .ok (.goto (-60), 3) := by decide +kernel
theorem d_Model_flushes_72 : decode prog_13_method_22_code 72 = .ok (.return_, 1) := by decide +kernel
theorem d_Model_gathers_0 : decode prog_13_method_21_code 0 = .ok (.aload_n 0, 1) := by decide +kernel
theorem d_Model_gathers_1 : decode prog_13_method_21_code 1 = .ok (.getfield 187, 3) := by decide +kernel
theorem d_Model_gathers_4 : decode prog_13_method_21_code 4 = .ok (.istore_n 3, 1) := by decide +kernel
theorem d_Model_gathers_5 : decode prog_13_method_21_code 5 = .ok (.iconst 0, 1) := by decide +kernel
theorem d_Model_gathers_6 : decode prog_13_method_21_code 6 = .ok (.istore 4, 2) := by decide +kernel
theorem d_Model_gathers_8 : decode prog_13_method_21_code 8 = .ok (.iconst 0, 1) := by decide +kernel
theorem d_Model_gathers_9 : decode prog_13_method_21_code 9 = .ok (.istore 5, 2) := by decide +kernel
theorem d_Model_gathers_11 : decode prog_13_method_21_code 11 = .ok (.iload 5, 2) := by decide +kernel
theorem d_Model_gathers_13 : decode prog_13_method_21_code 13 = .ok (.aload_n 0, 1) := by decide +kernel
theorem d_Model_gathers_14 : decode prog_13_method_21_code 14 = .ok (.getfield 165, 3) := by decide +kernel
theorem d_Model_gathers_17 : decode prog_13_method_21_code 17 = .ok (.if_icmp .ge 131, 3) := by decide +kernel
theorem d_Model_gathers_20 : decode prog_13_method_21_code 20 = .ok (.iload_n 1, 1) := by decide +kernel
theorem d_Model_gathers_21 : decode prog_13_method_21_code 21 = .ok (.bipush (-2), 2) := by decide +kernel
theorem d_Model_gathers_23 : decode prog_13_method_21_code 23 = .ok (.if_icmp .ne 23, 3) := by decide +kernel
theorem d_Model_gathers_26 : decode prog_13_method_21_code 26 = .ok (.aload_n 0, 1) := by decide +kernel
theorem d_Model_gathers_27 : decode prog_13_method_21_code 27 = .ok (.getfield 41, 3) := by decide +kernel
theorem d_Model_gathers_30 : decode prog_13_method_21_code 30 = .ok (.iload 5, 2) := by decide +kernel
theorem d_Model_gathers_32 : decode prog_13_method_21_code 32 = .ok (.iaload, 1) := by decide +kernel
theorem d_Model_gathers_33 : decode prog_13_method_21_code 33 = .ok (.bipush (-2), 2) := by decide +kernel
theorem d_Model_gathers_35 : decode prog_13_method_21_code 35 = .ok (.if_icmp .ne 7, 3) := by decide +kernel
theorem d_Model_gathers_38 : decode prog_13_method_21_code 38 = .ok (.iconst 1, 1) := by decide +kernel
theorem d_Model_gathers_39 : decode prog_13_method_21_code 39 = .ok (.goto 42, 3) := by decide +kernel
theorem d_Model_gathers_42 : decode prog_13_method_21_code 42 = .ok (.iconst 0, 1) := by decide +kernel
theorem d_Model_gathers_43 : decode prog_13_method_21_code 43 = .ok (.goto 38, 3) := by decide +kernel
theorem d_Model_gathers_46 : decode prog_13_method_21_code 46 = .ok (.aload_n 0, 1) := by decide +kernel
theorem d_Model_gathers_47 : decode prog_13_method_21_code 47 = .ok (.getfield 41, 3) := by decide +kernel
theorem d_Model_gathers_50 : decode prog_13_method_21_code 50 = .ok (.iload 5, 2) := by decide +kernel
theorem d_Model_gathers_52 : decode prog_13_method_21_code 52 = .ok (.iaload, 1) := by decide +kernel
theorem d_Model_gathers_53 : decode prog_13_method_21_code 53 = .ok (.ifCond .lt 27, 3) := by decide +kernel
theorem d_Model_gathers_56 : decode prog_13_method_21_code 56 = .ok (.iload_n 1, 1) := by decide +kernel
theorem d_Model_gathers_57 : decode prog_13_method_21_code 57 = .ok (.ifCond .lt 19, 3) := by decide +kernel
theorem d_Model_gathers_60 : decode prog_13_method_21_code 60 = .ok (.aload_n 0, 1) := by decide +kernel
theorem d_Model_gathers_61 : decode prog_13_method_21_code 61 = .ok (.getfield 50, 3) := by decide +kernel
theorem d_Model_gathers_64 : decode prog_13_method_21_code 64 = .ok (.aload_n 0, 1) := by decide +kernel
theorem d_Model_gathers_65 : decode prog_13_method_21_code 65 = .ok (.getfield 41, 3) := by decide +kernel
theorem d_Model_gathers_68 : decode prog_13_method_21_code 68 = .ok (.iload 5, 2) := by decide +kernel
theorem d_Model_gathers_70 : decode prog_13_method_21_code 70 = .ok (.iaload, 1) := by decide +kernel
theorem d_Model_gathers_71 : decode prog_13_method_21_code 71 = .ok (.iaload, 1) := by decide +kernel
theorem d_Model_gathers_72 : decode prog_13_method_21_code 72 = .ok (.iload_n 1, 1) := by decide +kernel
theorem d_Model_gathers_73 : decode prog_13_method_21_code 73 = .ok (.if_icmp .ne 7, 3) := by decide +kernel
theorem d_Model_gathers_76 : decode prog_13_method_21_code 76 = .ok (.iconst 1, 1) := by decide +kernel
theorem d_Model_gathers_77 : decode prog_13_method_21_code 77 = .ok (.goto 4, 3) := by decide +kernel
theorem d_Model_gathers_80 : decode prog_13_method_21_code 80 = .ok (.iconst 0, 1) := by decide +kernel
theorem d_Model_gathers_81 : decode prog_13_method_21_code 81 = .ok (.istore 6, 2) := by decide +kernel
theorem d_Model_gathers_83 : decode prog_13_method_21_code 83 = .ok (.iload 6, 2) := by decide +kernel
theorem d_Model_gathers_85 : decode prog_13_method_21_code 85 = .ok (.ifCond .ne 6, 3) := by decide +kernel
theorem d_Model_gathers_88 : decode prog_13_method_21_code 88 = .ok (.goto 54, 3) := by decide +kernel
theorem d_Model_gathers_91 : decode prog_13_method_21_code 91 = .ok (.aload_n 0, 1) := by decide +kernel
theorem d_Model_gathers_92 : decode prog_13_method_21_code 92 = .ok (.iload 5, 2) := by decide +kernel
theorem d_Model_gathers_94 : decode prog_13_method_21_code 94 = .ok (.invokevirtual 190, 3) := by decide +kernel
theorem d_Model_gathers_97 : decode prog_13_method_21_code 97 = .ok (.ifCond .eq 17, 3) := by decide +kernel
theorem d_Model_gathers_100 : decode prog_13_method_21_code 100 = .ok (.aload_n 0, 1) := by decide +kernel
theorem d_Model_gathers_101 : decode prog_13_method_21_code 101 = .ok (.getfield 38, 3) := by decide +kernel
theorem d_Model_gathers_104 : decode prog_13_method_21_code 104 = .ok (.iload 5, 2) := by decide +kernel
theorem d_Model_gathers_106 : decode prog_13_method_21_code 106 = .ok (.iaload, 1) := by decide +kernel
theorem d_Model_gathers_107 : decode prog_13_method_21_code 107 = .ok (.ifCond .le 7, 3) := by decide +kernel
theorem d_Model_gathers_110 : decode prog_13_method_21_code 110 = .ok (.iconst 1, 1) := by decide +kernel
theorem d_Model_gathers_111 : decode prog_13_method_21_code 111 = .ok (.goto 4, 3) := by decide +kernel
theorem d_Model_gathers_114 : decode prog_13_method_21_code 114 = .ok (.iconst 0, 1) := by decide +kernel
theorem d_Model_gathers_115 : decode prog_13_method_21_code 115 = .ok (.istore 7, 2) := by decide +kernel
theorem d_Model_gathers_117 : decode prog_13_method_21_code 117 = .ok (.aload_n 0, 1) := by decide +kernel
theorem d_Model_gathers_118 : decode prog_13_method_21_code 118 = .ok (.getfield 41, 3) := by decide +kernel
theorem d_Model_gathers_121 : decode prog_13_method_21_code 121 = .ok (.iload 5, 2) := by decide +kernel
theorem d_Model_gathers_123 : decode prog_13_method_21_code 123 = .ok (.iload 7, 2) := by decide +kernel
theorem d_Model_gathers_125 : decode prog_13_method_21_code 125 = .ok (.ifCond .eq 7, 3) := by decide +kernel
theorem d_Model_gathers_128 : decode prog_13_method_21_code 128 = .ok (.iload_n 3, 1) := by decide +kernel
theorem d_Model_gathers_129 : decode prog_13_method_21_code 129 = .ok (.goto 4, 3) := by decide +kernel
theorem d_Model_gathers_132 : decode prog_13_method_21_code 132 = .ok (.iconst (-1), 1) := by decide +kernel
theorem d_Model_gathers_133 : decode prog_13_method_21_code 133 = .ok (.iastore, 1) := by decide +kernel
theorem d_Model_gathers_134 : decode prog_13_method_21_code 134 = .ok (.iload 7, 2) := by decide +kernel
theorem d_Model_gathers_136 : decode prog_13_method_21_code 136 = .ok (.ifCond .eq 6, 3) := by decide +kernel
theorem d_Model_gathers_139 : decode prog_13_method_21_code 139 = .ok (.iinc 4 1, 3) := by decide +kernel
theorem d_Model_gathers_142 : decode prog_13_method_21_code 142 = .ok (.iinc 5 1, 3) := by decide +kernel
theorem d_Model_gathers_145 : decode prog_13_method_21_code 145 = .ok (.goto (-134), 3) := by decide +kernel
theorem d_Model_gathers_148 : decode prog_13_method_21_code 148 = .ok (.iconst 0, 1) := by decide +kernel
theorem d_Model_gathers_149 : decode prog_13_method_21_code 149 = .ok (.istore 5, 2) := by decide +kernel
theorem d_Model_gathers_151 : decode prog_13_method_21_code 151 = .ok (.iconst 0, 1) := by decide +kernel
theorem d_Model_gathers_152 : decode prog_13_method_21_code 152 = .ok (.istore 6, 2) := by decide +kernel
theorem d_Model_gathers_154 : decode prog_13_method_21_code 154 = .ok (.iload 6, 2) := by decide +kernel
theorem d_Model_gathers_156 : decode prog_13_method_21_code 156 = .ok (.aload_n 0, 1) := by decide +kernel
theorem d_Model_gathers_157 : decode prog_13_method_21_code 157 = .ok (.getfield 193, 3) := by decide +kernel
theorem d_Model_gathers_160 : decode prog_13_method_21_code 160 = .ok (.if_icmp .ge 52, 3) := by decide +kernel
theorem d_Model_gathers_163 : decode prog_13_method_21_code 163 = .ok (.iload_n 1, 1) := by decide +kernel
theorem d_Model_gathers_164 : decode prog_13_method_21_code 164 = .ok (.bipush (-2), 2) := by decide +kernel
theorem d_Model_gathers_166 : decode prog_13_method_21_code 166 = .ok (.if_icmp .eq 23, 3) := by decide +kernel
theorem d_Model_gathers_169 : decode prog_13_method_21_code 169 = .ok (.iload_n 1, 1) := by decide +kernel
theorem d_Model_gathers_170 : decode prog_13_method_21_code 170 = .ok (.ifCond .lt 36, 3) := by decide +kernel
theorem d_Model_gathers_173 : decode prog_13_method_21_code 173 = .ok (.aload_n 0, 1) := by decide +kernel
theorem d_Model_gathers_174 : decode prog_13_method_21_code 174 = .ok (.getfield 50, 3) := by decide +kernel
theorem d_Model_gathers_177 : decode prog_13_method_21_code 177 = .ok (.aload_n 0, 1) := by decide +kernel
theorem d_Model_gathers_178 : decode prog_13_method_21_code 178 = .ok (.getfield 47, 3) := by decide +kernel
theorem d_Model_gathers_181 : decode prog_13_method_21_code 181 = .ok (.iload 6, 2) := by decide +kernel
theorem d_Model_gathers_183 : decode prog_13_method_21_code 183 = .ok (.iaload, 1) := by decide +kernel
theorem d_Model_gathers_184 : decode prog_13_method_21_code 184 = .ok (.iaload, 1) := by decide +kernel
theorem d_Model_gathers_185 : decode prog_13_method_21_code 185 = .ok (.iload_n 1, 1) := by decide +kernel
theorem d_Model_gathers_186 : decode prog_13_method_21_code 186 = .ok (.if_icmp .eq 20, 3) := by decide +kernel
theorem d_Model_gathers_189 : decode prog_13_method_21_code 189 = .ok (.aload_n 0, 1) := by decide +kernel
theorem d_Model_gathers_190 : decode prog_13_method_21_code 190 = .ok (.getfield 47, 3) := by decide +kernel
theorem d_Model_gathers_193 : decode prog_13_method_21_code 193 = .ok (.iload 5, 2) := by decide +kernel
theorem d_Model_gathers_195 : decode prog_13_method_21_code 195 = .ok (.aload_n 0, 1) := by decide +kernel
theorem d_Model_gathers_196 : decode prog_13_method_21_code 196 = .ok (.getfield 47, 3) := by decide +kernel
theorem d_Model_gathers_199 : decode prog_13_method_21_code 199 = .ok (.iload 6, 2) := by decide +kernel
theorem d_Model_gathers_201 : decode prog_13_method_21_code 201 = .ok (.iaload, 1) := by decide +kernel
theorem d_Model_gathers_202 : decode prog_13_method_21_code 202 = .ok (.iastore, 1) := by decide +kernel
theorem d_Model_gathers_203 : decode prog_13_method_21_code 203 = .ok (.iinc 5 1, 3) := by decide +kernel
theorem d_Model_gathers_206 : decode prog_13_method_21_code 206 = .ok (.iinc 6 1, 3) := by decide +kernel
theorem d_Model_gathers_209 : decode prog_13_method_21_code 209 = .ok (.goto (-55), 3) := by decide +kernel
theorem d_Model_gathers_212 : decode prog_13_method_21_code 212 = .ok (.aload_n 0, 1) := by decide +kernel
theorem d_Model_gathers_213 : decode prog_13_method_21_code 213 = .ok (.iload 5, 2) := by decide +kernel
theorem d_Model_gathers_215 : decode prog_13_method_21_code 215 = .ok (.putfield 193, 3) := by decide +kernel
theorem d_Model_gathers_218 : decode prog_13_method_21_code 218 = .ok (.iload 4, 2) := by decide +kernel
theorem d_Model_gathers_220 : decode prog_13_method_21_code 220 = .ok (.ifCond .ne 4, 3) := by decide +kernel
theorem d_Model_gathers_223 : decode prog_13_method_21_code 223 = .ok (.return_, 1) := by decide +kernel
theorem d_Model_gathers_224 : decode prog_13_method_21_code 224 = .ok (.aload_n 0, 1) := by decide +kernel
theorem d_Model_gathers_225 : decode prog_13_method_21_code 225 = .ok (.getfield 50, 3) := by decide +kernel
theorem d_Model_gathers_228 : decode prog_13_method_21_code 228 = .ok (.iload_n 3, 1) := by decide +kernel
theorem d_Model_gathers_229 : decode prog_13_method_21_code 229 = .ok (.iload_n 2, 1) := by decide +kernel
theorem d_Model_gathers_230 : decode prog_13_method_21_code 230 = .ok (.iastore, 1) := by decide +kernel
theorem d_Model_gathers_231 : decode prog_13_method_21_code 231 = .ok (.aload_n 0, 1) := by decide +kernel
theorem d_Model_gathers_232 : decode prog_13_method_21_code 232 = .ok (.getfield 47, 3) := by decide +kernel
theorem d_Model_gathers_235 : decode prog_13_method_21_code 235 = .ok (.aload_n 0, 1) := by decide +kernel
theorem d_Model_gathers_236 : decode prog_13_method_21_code 236 = .ok (.getfield 193, 3) := by decide +kernel
theorem d_Model_gathers_239 : decode prog_13_method_21_code 239 = .ok (.iload_n 3, 1) := by decide +kernel
theorem d_Model_gathers_240 : decode prog_13_method_21_code 240 = .ok (.iastore, 1) := by decide +kernel
theorem d_Model_gathers_241 : decode prog_13_method_21_code 241 = .ok (.aload_n 0, 1) := by decide +kernel
theorem d_Model_gathers_242 : decode prog_13_method_21_code 242 = .ok (.dup, 1) := by decide +kernel
theorem d_Model_gathers_243 : decode prog_13_method_21_code 243 = .ok (.getfield 193, 3) := by decide +kernel
theorem d_Model_gathers_246 : decode prog_13_method_21_code 246 = .ok (.iconst 1, 1) := by decide +kernel
theorem d_Model_gathers_247 : decode prog_13_method_21_code 247 = .ok (.iadd, 1) := by decide +kernel
theorem d_Model_gathers_248 : decode prog_13_method_21_code 248 = .ok (.putfield 193, 3) := by decide +kernel
theorem d_Model_gathers_251 : decode prog_13_method_21_code 251 = .ok (.aload_n 0, 1) := by decide +kernel
theorem d_Model_gathers_252 : decode prog_13_method_21_code 252 = .ok (.dup, 1) := by decide +kernel
theorem d_Model_gathers_253 : decode prog_13_method_21_code 253 = .ok (.getfield 187, 3) := by decide +kernel
theorem d_Model_gathers_256 : decode prog_13_method_21_code 256 = .ok (.iconst 1, 1) := by decide +kernel
theorem d_Model_gathers_257 : decode prog_13_method_21_code 257 = .ok (.iadd, 1) := by decide +kernel
theorem d_Model_gathers_258 : decode prog_13_method_21_code 258 = .ok (.putfield 187, 3) := by decide +kernel
theorem d_Model_gathers_261 : decode prog_13_method_21_code 261 = .ok (.return_, 1) := by decide +kernel
theorem d_Model_isLive_0 : decode prog_13_method_17_code 0 = .ok (.iconst 0, 1) := by decide +kernel
theorem d_Model_isLive_1 : decode prog_13_method_17_code 1 = .ok (.istore_n 2, 1) := by decide +kernel
theorem d_Model_isLive_2 : decode prog_13_method_17_code 2 = .ok (.iload_n 2, 1) := by decide +kernel
theorem d_Model_isLive_3 : decode prog_13_method_17_code 3 = .ok (.bipush 24, 2) := by decide +kernel
theorem d_Model_isLive_5 : decode prog_13_method_17_code 5 = .ok (.if_icmp .ge 21, 3) := by decide +kernel
theorem d_Model_isLive_8 : decode prog_13_method_17_code 8 = .ok (.aload_n 0, 1) := by decide +kernel
theorem d_Model_isLive_9 : decode prog_13_method_17_code 9 = .ok (.getfield 44, 3) := by decide +kernel
theorem d_Model_isLive_12 : decode prog_13_method_17_code 12 = .ok (.iload_n 2, 1) := by decide +kernel
theorem d_Model_isLive_13 : decode prog_13_method_17_code 13 = .ok (.iaload, 1) := by decide +kernel
theorem d_Model_isLive_14 : decode prog_13_method_17_code 14 = .ok (.iload_n 1, 1) := by decide +kernel
theorem d_Model_isLive_15 : decode prog_13_method_17_code 15 = .ok (.if_icmp .ne 5, 3) := by decide +kernel
theorem d_Model_isLive_18 : decode prog_13_method_17_code 18 = .ok (.iconst 1, 1) := by decide +kernel
theorem d_Model_isLive_19 : decode prog_13_method_17_code 19 = .ok (.ireturn, 1) := by decide +kernel
theorem d_Model_isLive_20 : decode prog_13_method_17_code 20 = .ok (.iinc 2 1, 3) := by decide +kernel
theorem d_Model_isLive_23 : decode prog_13_method_17_code 23 = .ok (.goto (-21), 3) := by decide +kernel
theorem d_Model_isLive_26 : decode prog_13_method_17_code 26 = .ok (.iconst 0, 1) := by decide +kernel
theorem d_Model_isLive_27 : decode prog_13_method_17_code 27 = .ok (.ireturn, 1) := by decide +kernel
theorem d_Model_replace_0 : decode prog_13_method_19_code 0 = .ok (.aload_n 0, 1) := by decide +kernel
theorem d_Model_replace_1 : decode prog_13_method_19_code 1 = .ok (.iconst 0, 1) := by decide +kernel
theorem d_Model_replace_2 : decode prog_13_method_19_code 2 = .ok (.putfield 130, 3) := by decide +kernel
theorem d_Model_replace_5 : decode prog_13_method_19_code 5 = .ok (.aload_n 0, 1) := by decide +kernel
theorem d_Model_replace_6 : decode prog_13_method_19_code 6 = .ok (.aload_n 0, 1) := by decide +kernel
theorem d_Model_replace_7 : decode prog_13_method_19_code 7 = .ok (.iload_n 1, 1) := by decide +kernel
theorem d_Model_replace_8 : decode prog_13_method_19_code 8 = .ok (.invokevirtual 181, 3) := by decide +kernel
theorem d_Model_replace_11 : decode prog_13_method_19_code 11 = .ok (.ifCond .ne 7, 3) := by decide +kernel
theorem d_Model_replace_14 : decode prog_13_method_19_code 14 = .ok (.iconst 1, 1) := by decide +kernel
theorem d_Model_replace_15 : decode prog_13_method_19_code 15 = .ok (.goto 4, 3) := by decide +kernel
theorem d_Model_replace_18 : decode prog_13_method_19_code 18 = .ok (.iconst 0, 1) := by decide +kernel
theorem d_Model_replace_19 : decode prog_13_method_19_code 19 = .ok (.iconst 1, 1) := by decide +kernel
theorem d_Model_replace_20 : decode prog_13_method_19_code 20 = .ok (.invokevirtual 139, 3) := by decide +kernel
theorem d_Model_replace_23 : decode prog_13_method_19_code 23 = .ok (.ifCond .eq 7, 3) := by decide +kernel
theorem d_Model_replace_26 : decode prog_13_method_19_code 26 = .ok (.iconst 0, 1) := by decide +kernel
theorem d_Model_replace_27 : decode prog_13_method_19_code 27 = .ok (.goto 10, 3) := by decide +kernel
theorem d_Model_replace_30 : decode prog_13_method_19_code 30 = .ok (.aload_n 0, 1) := by decide +kernel
theorem d_Model_replace_31 : decode prog_13_method_19_code 31 = .ok (.iload_n 1, 1) := by decide +kernel
theorem d_Model_replace_32 : decode prog_13_method_19_code 32 = .ok (.iconst 1, 1) := by decide +kernel
theorem d_Model_replace_33 : decode prog_13_method_19_code 33 = .ok (.isub, 1) := by decide +kernel
theorem d_Model_replace_34 : decode prog_13_method_19_code 34 = .ok (.invokevirtual 178, 3) := by decide +kernel
theorem d_Model_replace_37 : decode prog_13_method_19_code 37 = .ok (.ireturn, 1) := by decide +kernel
theorem d_Model_has_0 : decode prog_13_method_14_code 0 = .ok (.iload_n 1, 1) := by decide +kernel
theorem d_Model_has_1 : decode prog_13_method_14_code 1 = .ok (.iconst 1, 1) := by decide +kernel
theorem d_Model_has_2 : decode prog_13_method_14_code 2 = .ok (.bipush 24, 2) := by decide +kernel
theorem d_Model_has_4 : decode prog_13_method_14_code 4 = .ok (.invokestatic 133, 3) := by decide +kernel
theorem d_Model_has_7 : decode prog_13_method_14_code 7 = .ok (.ifCond .eq 18, 3) := by decide +kernel
theorem d_Model_has_10 : decode prog_13_method_14_code 10 = .ok (.aload_n 0, 1) := by decide +kernel
theorem d_Model_has_11 : decode prog_13_method_14_code 11 = .ok (.getfield 44, 3) := by decide +kernel
theorem d_Model_has_14 : decode prog_13_method_14_code 14 = .ok (.iload_n 1, 1) := by decide +kernel
theorem d_Model_has_15 : decode prog_13_method_14_code 15 = .ok (.iconst 1, 1) := by decide +kernel
theorem d_Model_has_16 : decode prog_13_method_14_code 16 = .ok (.isub, 1) := by decide +kernel
theorem d_Model_has_17 : decode prog_13_method_14_code 17 = .ok (.iaload, 1) := by decide +kernel
theorem d_Model_has_18 : decode prog_13_method_14_code 18 = .ok (.ifCond .lt 7, 3) := by decide +kernel
theorem d_Model_has_21 : decode prog_13_method_14_code 21 = .ok (.iconst 1, 1) := by decide +kernel
theorem d_Model_has_22 : decode prog_13_method_14_code 22 = .ok (.goto 4, 3) := by decide +kernel
theorem d_Model_has_25 : decode prog_13_method_14_code 25 = .ok (.iconst 0, 1) := by decide +kernel
theorem d_Model_has_26 : decode prog_13_method_14_code 26 = .ok (.ireturn, 1) := by decide +kernel
theorem d_Model_delete_0 : decode prog_13_method_20_code 0 = .ok (.aload_n 0, 1) := by decide +kernel
theorem d_Model_delete_1 : decode prog_13_method_20_code 1 = .ok (.iconst 0, 1) := by decide +kernel
theorem d_Model_delete_2 : decode prog_13_method_20_code 2 = .ok (.putfield 130, 3) := by decide +kernel
theorem d_Model_delete_5 : decode prog_13_method_20_code 5 = .ok (.aload_n 0, 1) := by decide +kernel
theorem d_Model_delete_6 : decode prog_13_method_20_code 6 = .ok (.aload_n 0, 1) := by decide +kernel
theorem d_Model_delete_7 : decode prog_13_method_20_code 7 = .ok (.iload_n 1, 1) := by decide +kernel
theorem d_Model_delete_8 : decode prog_13_method_20_code 8 = .ok (.invokevirtual 181, 3) := by decide +kernel
theorem d_Model_delete_11 : decode prog_13_method_20_code 11 = .ok (.ifCond .ne 7, 3) := by decide +kernel
theorem d_Model_delete_14 : decode prog_13_method_20_code 14 = .ok (.iconst 1, 1) := by decide +kernel
theorem d_Model_delete_15 : decode prog_13_method_20_code 15 = .ok (.goto 4, 3) := by decide +kernel
theorem d_Model_delete_18 : decode prog_13_method_20_code 18 = .ok (.iconst 0, 1) := by decide +kernel
theorem d_Model_delete_19 : decode prog_13_method_20_code 19 = .ok (.iconst 1, 1) := by decide +kernel
theorem d_Model_delete_20 : decode prog_13_method_20_code 20 = .ok (.invokevirtual 139, 3) := by decide +kernel
theorem d_Model_delete_23 : decode prog_13_method_20_code 23 = .ok (.ifCond .eq 5, 3) := by decide +kernel
theorem d_Model_delete_26 : decode prog_13_method_20_code 26 = .ok (.iconst 0, 1) := by decide +kernel
theorem d_Model_delete_27 : decode prog_13_method_20_code 27 = .ok (.ireturn, 1) := by decide +kernel
theorem d_Model_delete_28 : decode prog_13_method_20_code 28 = .ok (.aload_n 0, 1) := by decide +kernel
theorem d_Model_delete_29 : decode prog_13_method_20_code 29 = .ok (.iload_n 1, 1) := by decide +kernel
theorem d_Model_delete_30 : decode prog_13_method_20_code 30 = .ok (.iconst 1, 1) := by decide +kernel
theorem d_Model_delete_31 : decode prog_13_method_20_code 31 = .ok (.isub, 1) := by decide +kernel
theorem d_Model_delete_32 : decode prog_13_method_20_code 32 = .ok (.invokevirtual 184, 3) := by decide +kernel
theorem d_Model_delete_35 : decode prog_13_method_20_code 35 = .ok (.istore_n 2, 1) := by decide +kernel
theorem d_Model_delete_36 : decode prog_13_method_20_code 36 = .ok (.aload_n 0, 1) := by decide +kernel
theorem d_Model_delete_37 : decode prog_13_method_20_code 37 = .ok (.getfield 44, 3) := by decide +kernel
theorem d_Model_delete_40 : decode prog_13_method_20_code 40 = .ok (.iload_n 1, 1) := by decide +kernel
theorem d_Model_delete_41 : decode prog_13_method_20_code 41 = .ok (.iconst 1, 1) := by decide +kernel
theorem d_Model_delete_42 : decode prog_13_method_20_code 42 = .ok (.isub, 1) := by decide +kernel
theorem d_Model_delete_43 : decode prog_13_method_20_code 43 = .ok (.iconst (-1), 1) := by decide +kernel
theorem d_Model_delete_44 : decode prog_13_method_20_code 44 = .ok (.iastore, 1) := by decide +kernel
theorem d_Model_delete_45 : decode prog_13_method_20_code 45 = .ok (.iload_n 2, 1) := by decide +kernel
theorem d_Model_delete_46 : decode prog_13_method_20_code 46 = .ok (.ireturn, 1) := by decide +kernel
theorem d_Model_tokensOf_0 : decode prog_13_method_11_code 0 = .ok (.aload_n 0, 1) := by decide +kernel
theorem d_Model_tokensOf_1 : decode prog_13_method_11_code 1 = .ok (.iload_n 1, 1) := by decide +kernel
theorem d_Model_tokensOf_2 : decode prog_13_method_11_code 2 = .ok (.iconst 0, 1) := by decide +kernel
theorem d_Model_tokensOf_3 : decode prog_13_method_11_code 3 = .ok (.invokevirtual 153, 3) := by decide +kernel
theorem d_Model_tokensOf_6 : decode prog_13_method_11_code 6 = .ok (.aload_n 0, 1) := by decide +kernel
theorem d_Model_tokensOf_7 : decode prog_13_method_11_code 7 = .ok (.getfield 150, 3) := by decide +kernel
theorem d_Model_tokensOf_10 : decode prog_13_method_11_code 10 = .ok (.istore_n 2, 1) := by decide +kernel
theorem d_Model_tokensOf_11 : decode prog_13_method_11_code 11 = .ok (.aload_n 0, 1) := by decide +kernel
theorem d_Model_tokensOf_12 : decode prog_13_method_11_code 12 = .ok (.iload_n 1, 1) := by decide +kernel
theorem d_Model_tokensOf_13 : decode prog_13_method_11_code 13 = .ok (.iconst 1, 1) := by decide +kernel
theorem d_Model_tokensOf_14 : decode prog_13_method_11_code 14 = .ok (.invokevirtual 153, 3) := by decide +kernel
theorem d_Model_tokensOf_17 : decode prog_13_method_11_code 17 = .ok (.iload_n 2, 1) := by decide +kernel
theorem d_Model_tokensOf_18 : decode prog_13_method_11_code 18 = .ok (.aload_n 0, 1) := by decide +kernel
theorem d_Model_tokensOf_19 : decode prog_13_method_11_code 19 = .ok (.getfield 150, 3) := by decide +kernel
theorem d_Model_tokensOf_22 : decode prog_13_method_11_code 22 = .ok (.iadd, 1) := by decide +kernel
theorem d_Model_tokensOf_23 : decode prog_13_method_11_code 23 = .ok (.ireturn, 1) := by decide +kernel
theorem d_Model_flush_0 : decode prog_13_method_23_code 0 = .ok (.aload_n 0, 1) := by decide +kernel
theorem d_Model_flush_1 : decode prog_13_method_23_code 1 = .ok (.iconst 0, 1) := by decide +kernel
theorem d_Model_flush_2 : decode prog_13_method_23_code 2 = .ok (.putfield 130, 3) := by decide +kernel
theorem d_Model_flush_5 : decode prog_13_method_23_code 5 = .ok (.aload_n 0, 1) := by decide +kernel
theorem d_Model_flush_6 : decode prog_13_method_23_code 6 = .ok (.invokevirtual 175, 3) := by decide +kernel
theorem d_Model_flush_9 : decode prog_13_method_23_code 9 = .ok (.aload_n 0, 1) := by decide +kernel
theorem d_Model_flush_10 : decode prog_13_method_23_code 10 = .ok (.getfield 193, 3) := by decide +kernel
theorem d_Model_flush_13 : decode prog_13_method_23_code 13 = .ok (.ireturn, 1) := by decide +kernel
theorem d_Model_optimize_0 : decode prog_13_method_24_code 0 = .ok (.aload_n 0, 1) := by decide +kernel
theorem d_Model_optimize_1 : decode prog_13_method_24_code 1 = .ok (.iconst 0, 1) := by decide +kernel
theorem d_Model_optimize_2 : decode prog_13_method_24_code 2 = .ok (.putfield 130, 3) := by decide +kernel
theorem d_Model_optimize_5 : decode prog_13_method_24_code 5 = .ok (.aload_n 0, 1) := by decide +kernel
theorem d_Model_optimize_6 : decode prog_13_method_24_code 6 = .ok (.getfield 193, 3) := by decide +kernel
theorem d_Model_optimize_9 : decode prog_13_method_24_code 9 = .ok (.istore_n 1, 1) := by decide +kernel
theorem d_Model_optimize_10 : decode prog_13_method_24_code 10 = .ok (.iconst 0, 1) := by decide +kernel
theorem d_Model_optimize_11 : decode prog_13_method_24_code 11 = .ok (.istore_n 2, 1) := by decide +kernel
theorem d_Model_optimize_12 : decode prog_13_method_24_code 12 = .ok (.iconst 0, 1) := by decide +kernel
theorem d_Model_optimize_13 : decode prog_13_method_24_code 13 = .ok (.istore_n 3, 1) := by decide +kernel
theorem d_Model_optimize_14 : decode prog_13_method_24_code 14 = .ok (.iload_n 3, 1) := by decide +kernel
theorem d_Model_optimize_15 : decode prog_13_method_24_code 15 = .ok (.aload_n 0, 1) := by decide +kernel
theorem d_Model_optimize_16 : decode prog_13_method_24_code 16 = .ok (.getfield 193, 3) := by decide +kernel
theorem d_Model_optimize_19 : decode prog_13_method_24_code 19 = .ok (.if_icmp .ge 36, 3) := by decide +kernel
theorem d_Model_optimize_22 : decode prog_13_method_24_code 22 = .ok (.aload_n 0, 1) := by decide +kernel
theorem d_Model_optimize_23 : decode prog_13_method_24_code 23 = .ok (.getfield 50, 3) := by decide +kernel
theorem d_Model_optimize_26 : decode prog_13_method_24_code 26 = .ok (.aload_n 0, 1) := by decide +kernel
theorem d_Model_optimize_27 : decode prog_13_method_24_code 27 = .ok (.getfield 47, 3) := by decide +kernel
theorem d_Model_optimize_30 : decode prog_13_method_24_code 30 = .ok (.iload_n 3, 1) := by decide +kernel
theorem d_Model_optimize_31 : decode prog_13_method_24_code 31 = .ok (.iaload, 1) := by decide +kernel
theorem d_Model_optimize_32 : decode prog_13_method_24_code 32 = .ok (.iaload, 1) := by decide +kernel
theorem d_Model_optimize_33 : decode prog_13_method_24_code 33 = .ok (.iload_n 2, 1) := by decide +kernel
theorem d_Model_optimize_34 : decode prog_13_method_24_code 34 = .ok (.if_icmp .le 15, 3) := by decide +kernel
theorem d_Model_optimize_37 : decode prog_13_method_24_code 37 = .ok (.aload_n 0, 1) := by decide +kernel
theorem d_Model_optimize_38 : decode prog_13_method_24_code 38 = .ok (.getfield 50, 3) := by decide +kernel
theorem d_Model_optimize_41 : decode prog_13_method_24_code 41 = .ok (.aload_n 0, 1) := by decide +kernel
theorem d_Model_optimize_42 : decode prog_13_method_24_code 42 = .ok (.getfield 47, 3) := by decide +kernel
theorem d_Model_optimize_45 : decode prog_13_method_24_code 45 = .ok (.iload_n 3, 1) := by decide +kernel
theorem d_Model_optimize_46 : decode prog_13_method_24_code 46 = .ok (.iaload, 1) := by decide +kernel
theorem d_Model_optimize_47 : decode prog_13_method_24_code 47 = .ok (.iaload, 1) := by decide +kernel
theorem d_Model_optimize_48 : decode prog_13_method_24_code 48 = .ok (.istore_n 2, 1) := by decide +kernel
theorem d_Model_optimize_49 : decode prog_13_method_24_code 49 = .ok (.iinc 3 1, 3) := by decide +kernel
theorem d_Model_optimize_52 : decode prog_13_method_24_code 52 = .ok (.goto (-38), 3) := by decide +kernel
theorem d_Model_optimize_55 : decode prog_13_method_24_code 55 = .ok (.iload_n 1, 1) := by decide +kernel
theorem d_Model_optimize_56 : decode prog_13_method_24_code 56 = .ok (.ifCond .le 9, 3) := by decide +kernel
theorem d_Model_optimize_59 : decode prog_13_method_24_code 59 = .ok (.aload_n 0, 1) := by decide +kernel
theorem d_Model_optimize_60 : decode prog_13_method_24_code 60 = .ok (.iconst (-1), 1) := by decide +kernel
theorem d_Model_optimize_61 : decode prog_13_method_24_code 61 = .ok (.iload_n 2, 1) := by decide +kernel
theorem d_Model_optimize_62 : decode prog_13_method_24_code 62 = .ok (.invokevirtual 196, 3) := by decide +kernel
theorem d_Model_optimize_65 : decode prog_13_method_24_code 65 = .ok (.iload_n 1, 1) := by decide +kernel
theorem d_Model_optimize_66 : decode prog_13_method_24_code 66 = .ok (.ireturn, 1) := by decide +kernel
theorem d_Model_begin_0 : decode prog_13_method_25_code 0 = .ok (.aload_n 0, 1) := by decide +kernel
theorem d_Model_begin_1 : decode prog_13_method_25_code 1 = .ok (.iconst 0, 1) := by decide +kernel
theorem d_Model_begin_2 : decode prog_13_method_25_code 2 = .ok (.putfield 130, 3) := by decide +kernel
theorem d_Model_begin_5 : decode prog_13_method_25_code 5 = .ok (.aload_n 0, 1) := by decide +kernel
theorem d_Model_begin_6 : decode prog_13_method_25_code 6 = .ok (.aload_n 0, 1) := by decide +kernel
theorem d_Model_begin_7 : decode prog_13_method_25_code 7 = .ok (.getfield 199, 3) := by decide +kernel
theorem d_Model_begin_10 : decode prog_13_method_25_code 10 = .ok (.iconst 1, 1) := by decide +kernel
theorem d_Model_begin_11 : decode prog_13_method_25_code 11 = .ok (.invokevirtual 139, 3) := by decide +kernel
theorem d_Model_begin_14 : decode prog_13_method_25_code 14 = .ok (.ifCond .eq 4, 3) := by decide +kernel
theorem d_Model_begin_17 : decode prog_13_method_25_code 17 = .ok (.return_, 1) := by decide +kernel
theorem d_Model_begin_18 : decode prog_13_method_25_code 18 = .ok (.aload_n 0, 1) := by decide +kernel
theorem d_Model_begin_19 : decode prog_13_method_25_code 19 = .ok (.iconst 1, 1) := by decide +kernel
theorem d_Model_begin_20 : decode prog_13_method_25_code 20 = .ok (.putfield 199, 3) := by decide +kernel
theorem d_Model_begin_23 : decode prog_13_method_25_code 23 = .ok (.iconst 0, 1) := by decide +kernel
theorem d_Model_begin_24 : decode prog_13_method_25_code 24 = .ok (.istore_n 1, 1) := by decide +kernel
theorem d_Model_begin_25 : decode prog_13_method_25_code 25 = .ok (.iload_n 1, 1) := by decide +kernel
theorem d_Model_begin_26 : decode prog_13_method_25_code 26 = .ok (.sipush 2304, 3) := by decide +kernel
theorem d_Model_begin_29 : decode prog_13_method_25_code 29 = .ok (.if_icmp .ge 21, 3) := by decide +kernel
theorem d_Model_begin_32 : decode prog_13_method_25_code 32 = .ok (.aload_n 0, 1) := by decide +kernel
theorem d_Model_begin_33 : decode prog_13_method_25_code 33 = .ok (.getfield 53, 3) := by decide +kernel
theorem d_Model_begin_36 : decode prog_13_method_25_code 36 = .ok (.iload_n 1, 1) := by decide +kernel
theorem d_Model_begin_37 : decode prog_13_method_25_code 37 = .ok (.aload_n 0, 1) := by decide +kernel
theorem d_Model_begin_38 : decode prog_13_method_25_code 38 = .ok (.getfield 29, 3) := by decide +kernel
theorem d_Model_begin_41 : decode prog_13_method_25_code 41 = .ok (.iload_n 1, 1) := by decide +kernel
theorem d_Model_begin_42 : decode prog_13_method_25_code 42 = .ok (.iaload, 1) := by decide +kernel
theorem d_Model_begin_43 : decode prog_13_method_25_code 43 = .ok (.iastore, 1) := by decide +kernel
theorem d_Model_begin_44 : decode prog_13_method_25_code 44 = .ok (.iinc 1 1, 3) := by decide +kernel
theorem d_Model_begin_47 : decode prog_13_method_25_code 47 = .ok (.goto (-22), 3) := by decide +kernel
theorem d_Model_begin_50 : decode prog_13_method_25_code 50 = .ok (.iconst 0, 1) := by decide +kernel
theorem d_Model_begin_51 : decode prog_13_method_25_code 51 = .ok (.istore_n 1, 1) := by decide +kernel
theorem d_Model_begin_52 : decode prog_13_method_25_code 52 = .ok (.iload_n 1, 1) := by decide +kernel
theorem d_Model_begin_53 : decode prog_13_method_25_code 53 = .ok (.bipush 48, 2) := by decide +kernel
theorem d_Model_begin_55 : decode prog_13_method_25_code 55 = .ok (.if_icmp .ge 21, 3) := by decide +kernel
theorem d_Model_begin_58 : decode prog_13_method_25_code 58 = .ok (.aload_n 0, 1) := by decide +kernel
theorem d_Model_begin_59 : decode prog_13_method_25_code 59 = .ok (.getfield 56, 3) := by decide +kernel
theorem d_Model_begin_62 : decode prog_13_method_25_code 62 = .ok (.iload_n 1, 1) := by decide +kernel
theorem d_Model_begin_63 : decode prog_13_method_25_code 63 = .ok (.aload_n 0, 1) := by decide +kernel
theorem d_Model_begin_64 : decode prog_13_method_25_code 64 = .ok (.getfield 32, 3) := by decide +kernel
theorem d_Model_begin_67 : decode prog_13_method_25_code 67 = .ok (.iload_n 1, 1) := by decide +kernel
theorem d_Model_begin_68 : decode prog_13_method_25_code 68 = .ok (.iaload, 1) := by decide +kernel
theorem d_Model_begin_69 : decode prog_13_method_25_code 69 = .ok (.iastore, 1) := by decide +kernel
theorem d_Model_begin_70 : decode prog_13_method_25_code 70 = .ok (.iinc 1 1, 3) := by decide +kernel
theorem d_Model_begin_73 : decode prog_13_method_25_code 73 = .ok (.goto (-21), 3) := by decide +kernel
theorem d_Model_begin_76 : decode prog_13_method_25_code 76 = .ok (.iconst 0, 1) := by decide +kernel
theorem d_Model_begin_77 : decode prog_13_method_25_code 77 = .ok (.istore_n 1, 1) := by decide +kernel
theorem d_Model_begin_78 : decode prog_13_method_25_code 78 = .ok (.iload_n 1, 1) := by decide +kernel
theorem d_Model_begin_79 : decode prog_13_method_25_code 79 = .ok (.bipush 24, 2) := by decide +kernel
theorem d_Model_begin_81 : decode prog_13_method_25_code 81 = .ok (.if_icmp .ge 21, 3) := by decide +kernel
theorem d_Model_begin_84 : decode prog_13_method_25_code 84 = .ok (.aload_n 0, 1) := by decide +kernel
theorem d_Model_begin_85 : decode prog_13_method_25_code 85 = .ok (.getfield 62, 3) := by decide +kernel
theorem d_Model_begin_88 : decode prog_13_method_25_code 88 = .ok (.iload_n 1, 1) := by decide +kernel
theorem d_Model_begin_89 : decode prog_13_method_25_code 89 = .ok (.aload_n 0, 1) := by decide +kernel
theorem d_Model_begin_90 : decode prog_13_method_25_code 90 = .ok (.getfield 44, 3) := by decide +kernel
theorem d_Model_begin_93 : decode prog_13_method_25_code 93 = .ok (.iload_n 1, 1) := by decide +kernel
theorem d_Model_begin_94 : decode prog_13_method_25_code 94 = .ok (.iaload, 1) := by decide +kernel
theorem d_Model_begin_95 : decode prog_13_method_25_code 95 = .ok (.iastore, 1) := by decide +kernel
theorem d_Model_begin_96 : decode prog_13_method_25_code 96 = .ok (.iinc 1 1, 3) := by decide +kernel
theorem d_Model_begin_99 : decode prog_13_method_25_code 99 = .ok (.goto (-21), 3) := by decide +kernel
theorem d_Model_begin_102 : decode prog_13_method_25_code 102 = .ok (.iconst 0, 1) := by decide +kernel
theorem d_Model_begin_103 : decode prog_13_method_25_code 103 = .ok (.istore_n 1, 1) := by decide +kernel
theorem d_Model_begin_104 : decode prog_13_method_25_code 104 = .ok (.iload_n 1, 1) := by decide +kernel
theorem d_Model_begin_105 : decode prog_13_method_25_code 105 = .ok (.sipush 600, 3) := by decide +kernel
theorem d_Model_begin_108 : decode prog_13_method_25_code 108 = .ok (.if_icmp .ge 33, 3) := by decide +kernel
theorem d_Model_begin_111 : decode prog_13_method_25_code 111 = .ok (.aload_n 0, 1) := by decide +kernel
theorem d_Model_begin_112 : decode prog_13_method_25_code 112 = .ok (.getfield 59, 3) := by decide +kernel
theorem d_Model_begin_115 : decode prog_13_method_25_code 115 = .ok (.iload_n 1, 1) := by decide +kernel
theorem d_Model_begin_116 : decode prog_13_method_25_code 116 = .ok (.aload_n 0, 1) := by decide +kernel
theorem d_Model_begin_117 : decode prog_13_method_25_code 117 = .ok (.getfield 41, 3) := by decide +kernel
theorem d_Model_begin_120 : decode prog_13_method_25_code 120 = .ok (.iload_n 1, 1) := by decide +kernel
theorem d_Model_begin_121 : decode prog_13_method_25_code 121 = .ok (.iaload, 1) := by decide +kernel
theorem d_Model_begin_122 : decode prog_13_method_25_code 122 = .ok (.iastore, 1) := by decide +kernel
theorem d_Model_begin_123 : decode prog_13_method_25_code 123 = .ok (.aload_n 0, 1) := by decide +kernel
theorem d_Model_begin_124 : decode prog_13_method_25_code 124 = .ok (.getfield 65, 3) := by decide +kernel
theorem d_Model_begin_127 : decode prog_13_method_25_code 127 = .ok (.iload_n 1, 1) := by decide +kernel
theorem d_Model_begin_128 : decode prog_13_method_25_code 128 = .ok (.aload_n 0, 1) := by decide +kernel
theorem d_Model_begin_129 : decode prog_13_method_25_code 129 = .ok (.getfield 47, 3) := by decide +kernel
theorem d_Model_begin_132 : decode prog_13_method_25_code 132 = .ok (.iload_n 1, 1) := by decide +kernel
theorem d_Model_begin_133 : decode prog_13_method_25_code 133 = .ok (.iaload, 1) := by decide +kernel
theorem d_Model_begin_134 : decode prog_13_method_25_code 134 = .ok (.iastore, 1) := by decide +kernel
theorem d_Model_begin_135 : decode prog_13_method_25_code 135 = .ok (.iinc 1 1, 3) := by decide +kernel
theorem d_Model_begin_138 : decode prog_13_method_25_code 138 = .ok (.goto (-34), 3) := by decide +kernel
theorem d_Model_begin_141 : decode prog_13_method_25_code 141 = .ok (.aload_n 0, 1) := by decide +kernel
theorem d_Model_begin_142 : decode prog_13_method_25_code 142 = .ok (.aload_n 0, 1) := by decide +kernel
theorem d_Model_begin_143 : decode prog_13_method_25_code 143 = .ok (.getfield 165, 3) := by decide +kernel
theorem d_Model_begin_146 : decode prog_13_method_25_code 146 = .ok (.putfield 203, 3) := by decide +kernel
theorem d_Model_begin_149 : decode prog_13_method_25_code 149 = .ok (.aload_n 0, 1) := by decide +kernel
theorem d_Model_begin_150 : decode prog_13_method_25_code 150 = .ok (.aload_n 0, 1) := by decide +kernel
theorem d_Model_begin_151 : decode prog_13_method_25_code 151 = .ok (.getfield 193, 3) := by decide +kernel
theorem d_Model_begin_154 : decode prog_13_method_25_code 154 = .ok (.putfield 206, 3) := by decide +kernel
theorem d_Model_begin_157 : decode prog_13_method_25_code 157 = .ok (.return_, 1) := by decide +kernel
theorem d_Model_commit_0 : decode prog_13_method_26_code 0 = .ok (.aload_n 0, 1) := by decide +kernel
theorem d_Model_commit_1 : decode prog_13_method_26_code 1 = .ok (.iconst 0, 1) := by decide +kernel
theorem d_Model_commit_2 : decode prog_13_method_26_code 2 = .ok (.putfield 130, 3) := by decide +kernel
theorem d_Model_commit_5 : decode prog_13_method_26_code 5 = .ok (.aload_n 0, 1) := by decide +kernel
theorem d_Model_commit_6 : decode prog_13_method_26_code 6 = .ok (.aload_n 0, 1) := by decide +kernel
theorem d_Model_commit_7 : decode prog_13_method_26_code 7 = .ok (.getfield 199, 3) := by decide +kernel
theorem d_Model_commit_10 : decode prog_13_method_26_code 10 = .ok (.ifCond .ne 7, 3) := by decide +kernel
theorem d_Model_commit_13 : decode prog_13_method_26_code 13 = .ok (.iconst 1, 1) := by decide +kernel
theorem d_Model_commit_14 : decode prog_13_method_26_code 14 = .ok (.goto 4, 3) := by decide +kernel
theorem d_Model_commit_17 : decode prog_13_method_26_code 17 = .ok (.iconst 0, 1) := by decide +kernel
theorem d_Model_commit_18 : decode prog_13_method_26_code 18 = .ok (.iconst 1, 1) := by decide +kernel
theorem d_Model_commit_19 : decode prog_13_method_26_code 19 = .ok (.invokevirtual 139, 3) := by decide +kernel
theorem d_Model_commit_22 : decode prog_13_method_26_code 22 = .ok (.ifCond .eq 5, 3) := by decide +kernel
theorem d_Model_commit_25 : decode prog_13_method_26_code 25 = .ok (.iconst 0, 1) := by decide +kernel
theorem d_Model_commit_26 : decode prog_13_method_26_code 26 = .ok (.ireturn, 1) := by decide +kernel
theorem d_Model_commit_27 : decode prog_13_method_26_code 27 = .ok (.aload_n 0, 1) := by decide +kernel
theorem d_Model_commit_28 : decode prog_13_method_26_code 28 = .ok (.iconst 0, 1) := by decide +kernel
theorem d_Model_commit_29 : decode prog_13_method_26_code 29 = .ok (.putfield 199, 3) := by decide +kernel
theorem d_Model_commit_32 : decode prog_13_method_26_code 32 = .ok (.aload_n 0, 1) := by decide +kernel
theorem d_Model_commit_33 : decode prog_13_method_26_code 33 = .ok (.invokevirtual 175, 3) := by decide +kernel
theorem d_Model_commit_36 : decode prog_13_method_26_code 36 = .ok (.aload_n 0, 1) := by decide +kernel
theorem d_Model_commit_37 : decode prog_13_method_26_code 37 = .ok (.getfield 193, 3) := by decide +kernel
theorem d_Model_commit_40 : decode prog_13_method_26_code 40 = .ok (.ireturn, 1) := by decide +kernel
theorem d_Model_rollback_0 : decode prog_13_method_27_code 0 = .ok (.aload_n 0, 1) := by decide +kernel
theorem d_Model_rollback_1 : decode prog_13_method_27_code 1 = .ok (.iconst 0, 1) := by decide +kernel
theorem d_Model_rollback_2 : decode prog_13_method_27_code 2 = .ok (.putfield 130, 3) := by decide +kernel
theorem d_Model_rollback_5 : decode prog_13_method_27_code 5 = .ok (.aload_n 0, 1) := by decide +kernel
theorem d_Model_rollback_6 : decode prog_13_method_27_code 6 = .ok (.aload_n 0, 1) := by decide +kernel
theorem d_Model_rollback_7 : decode prog_13_method_27_code 7 = .ok (.getfield 199, 3) := by decide +kernel
theorem d_Model_rollback_10 : decode prog_13_method_27_code 10 = .ok (.ifCond .ne 7, 3) := by decide +kernel
theorem d_Model_rollback_13 : decode prog_13_method_27_code 13 = .ok (.iconst 1, 1) := by decide +kernel
theorem d_Model_rollback_14 : decode prog_13_method_27_code 14 = .ok (.goto 4, 3) := by decide +kernel
theorem d_Model_rollback_17 : decode prog_13_method_27_code 17 = .ok (.iconst 0, 1) := by decide +kernel
theorem d_Model_rollback_18 : decode prog_13_method_27_code 18 = .ok (.iconst 1, 1) := by decide +kernel
theorem d_Model_rollback_19 : decode prog_13_method_27_code 19 = .ok (.invokevirtual 139, 3) := by decide +kernel
theorem d_Model_rollback_22 : decode prog_13_method_27_code 22 = .ok (.ifCond .eq 5, 3) := by decide +kernel
theorem d_Model_rollback_25 : decode prog_13_method_27_code 25 = .ok (.iconst 0, 1) := by decide +kernel
theorem d_Model_rollback_26 : decode prog_13_method_27_code 26 = .ok (.ireturn, 1) := by decide +kernel
theorem d_Model_rollback_27 : decode prog_13_method_27_code 27 = .ok (.aload_n 0, 1) := by decide +kernel
theorem d_Model_rollback_28 : decode prog_13_method_27_code 28 = .ok (.iconst 0, 1) := by decide +kernel
theorem d_Model_rollback_29 : decode prog_13_method_27_code 29 = .ok (.putfield 199, 3) := by decide +kernel
theorem d_Model_rollback_32 : decode prog_13_method_27_code 32 = .ok (.iconst 0, 1) := by decide +kernel
theorem d_Model_rollback_33 : decode prog_13_method_27_code 33 = .ok (.istore_n 1, 1) := by decide +kernel
theorem d_Model_rollback_34 : decode prog_13_method_27_code 34 = .ok (.iload_n 1, 1) := by decide +kernel
theorem d_Model_rollback_35 : decode prog_13_method_27_code 35 = .ok (.sipush 2304, 3) := by decide +kernel
theorem d_Model_rollback_38 : decode prog_13_method_27_code 38 = .ok (.if_icmp .ge 21, 3) := by decide +kernel
theorem d_Model_rollback_41 : decode prog_13_method_27_code 41 = .ok (.aload_n 0, 1) := by decide +kernel
theorem d_Model_rollback_42 : decode prog_13_method_27_code 42 = .ok (.getfield 29, 3) := by decide +kernel
theorem d_Model_rollback_45 : decode prog_13_method_27_code 45 = .ok (.iload_n 1, 1) := by decide +kernel
theorem d_Model_rollback_46 : decode prog_13_method_27_code 46 = .ok (.aload_n 0, 1) := by decide +kernel
theorem d_Model_rollback_47 : decode prog_13_method_27_code 47 = .ok (.getfield 53, 3) := by decide +kernel
theorem d_Model_rollback_50 : decode prog_13_method_27_code 50 = .ok (.iload_n 1, 1) := by decide +kernel
theorem d_Model_rollback_51 : decode prog_13_method_27_code 51 = .ok (.iaload, 1) := by decide +kernel
theorem d_Model_rollback_52 : decode prog_13_method_27_code 52 = .ok (.iastore, 1) := by decide +kernel
theorem d_Model_rollback_53 : decode prog_13_method_27_code 53 = .ok (.iinc 1 1, 3) := by decide +kernel
theorem d_Model_rollback_56 : decode prog_13_method_27_code 56 = .ok (.goto (-22), 3) := by decide +kernel
theorem d_Model_rollback_59 : decode prog_13_method_27_code 59 = .ok (.iconst 0, 1) := by decide +kernel
theorem d_Model_rollback_60 : decode prog_13_method_27_code 60 = .ok (.istore_n 1, 1) := by decide +kernel
theorem d_Model_rollback_61 : decode prog_13_method_27_code 61 = .ok (.iload_n 1, 1) := by decide +kernel
theorem d_Model_rollback_62 : decode prog_13_method_27_code 62 = .ok (.bipush 48, 2) := by decide +kernel
theorem d_Model_rollback_64 : decode prog_13_method_27_code 64 = .ok (.if_icmp .ge 21, 3) := by decide +kernel
theorem d_Model_rollback_67 : decode prog_13_method_27_code 67 = .ok (.aload_n 0, 1) := by decide +kernel
theorem d_Model_rollback_68 : decode prog_13_method_27_code 68 = .ok (.getfield 32, 3) := by decide +kernel
theorem d_Model_rollback_71 : decode prog_13_method_27_code 71 = .ok (.iload_n 1, 1) := by decide +kernel
theorem d_Model_rollback_72 : decode prog_13_method_27_code 72 = .ok (.aload_n 0, 1) := by decide +kernel
theorem d_Model_rollback_73 : decode prog_13_method_27_code 73 = .ok (.getfield 56, 3) := by decide +kernel
theorem d_Model_rollback_76 : decode prog_13_method_27_code 76 = .ok (.iload_n 1, 1) := by decide +kernel
theorem d_Model_rollback_77 : decode prog_13_method_27_code 77 = .ok (.iaload, 1) := by decide +kernel
theorem d_Model_rollback_78 : decode prog_13_method_27_code 78 = .ok (.iastore, 1) := by decide +kernel
theorem d_Model_rollback_79 : decode prog_13_method_27_code 79 = .ok (.iinc 1 1, 3) := by decide +kernel
theorem d_Model_rollback_82 : decode prog_13_method_27_code 82 = .ok (.goto (-21), 3) := by decide +kernel
theorem d_Model_rollback_85 : decode prog_13_method_27_code 85 = .ok (.iconst 0, 1) := by decide +kernel
theorem d_Model_rollback_86 : decode prog_13_method_27_code 86 = .ok (.istore_n 1, 1) := by decide +kernel
theorem d_Model_rollback_87 : decode prog_13_method_27_code 87 = .ok (.iload_n 1, 1) := by decide +kernel
theorem d_Model_rollback_88 : decode prog_13_method_27_code 88 = .ok (.bipush 24, 2) := by decide +kernel
theorem d_Model_rollback_90 : decode prog_13_method_27_code 90 = .ok (.if_icmp .ge 21, 3) := by decide +kernel
theorem d_Model_rollback_93 : decode prog_13_method_27_code 93 = .ok (.aload_n 0, 1) := by decide +kernel
theorem d_Model_rollback_94 : decode prog_13_method_27_code 94 = .ok (.getfield 44, 3) := by decide +kernel
theorem d_Model_rollback_97 : decode prog_13_method_27_code 97 = .ok (.iload_n 1, 1) := by decide +kernel
theorem d_Model_rollback_98 : decode prog_13_method_27_code 98 = .ok (.aload_n 0, 1) := by decide +kernel
theorem d_Model_rollback_99 : decode prog_13_method_27_code 99 = .ok (.getfield 62, 3) := by decide +kernel
theorem d_Model_rollback_102 : decode prog_13_method_27_code 102 = .ok (.iload_n 1, 1) := by decide +kernel
theorem d_Model_rollback_103 : decode prog_13_method_27_code 103 = .ok (.iaload, 1) := by decide +kernel
theorem d_Model_rollback_104 : decode prog_13_method_27_code 104 = .ok (.iastore, 1) := by decide +kernel
theorem d_Model_rollback_105 : decode prog_13_method_27_code 105 = .ok (.iinc 1 1, 3) := by decide +kernel
theorem d_Model_rollback_108 : decode prog_13_method_27_code 108 = .ok (.goto (-21), 3) := by decide +kernel
theorem d_Model_rollback_111 : decode prog_13_method_27_code 111 = .ok (.iconst 0, 1) := by decide +kernel
theorem d_Model_rollback_112 : decode prog_13_method_27_code 112 = .ok (.istore_n 1, 1) := by decide +kernel
theorem d_Model_rollback_113 : decode prog_13_method_27_code 113 = .ok (.iload_n 1, 1) := by decide +kernel
theorem d_Model_rollback_114 : decode prog_13_method_27_code 114 = .ok (.sipush 600, 3) := by decide +kernel
theorem d_Model_rollback_117 : decode prog_13_method_27_code 117 = .ok (.if_icmp .ge 45, 3) := by decide +kernel
theorem d_Model_rollback_120 : decode prog_13_method_27_code 120 = .ok (.aload_n 0, 1) := by decide +kernel
theorem d_Model_rollback_121 : decode prog_13_method_27_code 121 = .ok (.getfield 41, 3) := by decide +kernel
theorem d_Model_rollback_124 : decode prog_13_method_27_code 124 = .ok (.iload_n 1, 1) := by decide +kernel
theorem d_Model_rollback_125 : decode prog_13_method_27_code 125 = .ok (.iload_n 1, 1) := by decide +kernel
theorem d_Model_rollback_126 : decode prog_13_method_27_code 126 = .ok (.aload_n 0, 1) := by decide +kernel
theorem d_Model_rollback_127 : decode prog_13_method_27_code 127 = .ok (.getfield 203, 3) := by decide +kernel
theorem d_Model_rollback_130 : decode prog_13_method_27_code 130 = .ok (.if_icmp .ge 12, 3) := by decide +kernel
theorem d_Model_rollback_133 : decode prog_13_method_27_code 133 = .ok (.aload_n 0, 1) := by decide +kernel
theorem d_Model_rollback_134 : decode prog_13_method_27_code 134 = .ok (.getfield 59, 3) := by decide +kernel
theorem d_Model_rollback_137 : decode prog_13_method_27_code 137 = .ok (.iload_n 1, 1) := by decide +kernel
theorem d_Model_rollback_138 : decode prog_13_method_27_code 138 = .ok (.iaload, 1) := by decide +kernel
theorem d_Model_rollback_139 : decode prog_13_method_27_code 139 = .ok (.goto 4, 3) := by decide +kernel
theorem d_Model_rollback_142 : decode prog_13_method_27_code 142 = .ok (.iconst (-1), 1) := by decide +kernel
theorem d_Model_rollback_143 : decode prog_13_method_27_code 143 = .ok (.iastore, 1) := by decide +kernel
theorem d_Model_rollback_144 : decode prog_13_method_27_code 144 = .ok (.aload_n 0, 1) := by decide +kernel
theorem d_Model_rollback_145 : decode prog_13_method_27_code 145 = .ok (.getfield 47, 3) := by decide +kernel
theorem d_Model_rollback_148 : decode prog_13_method_27_code 148 = .ok (.iload_n 1, 1) := by decide +kernel
theorem d_Model_rollback_149 : decode prog_13_method_27_code 149 = .ok (.aload_n 0, 1) := by decide +kernel
theorem d_Model_rollback_150 : decode prog_13_method_27_code 150 = .ok (.getfield 65, 3) := by decide +kernel
theorem d_Model_rollback_153 : decode prog_13_method_27_code 153 = .ok (.iload_n 1, 1) := by decide +kernel
theorem d_Model_rollback_154 : decode prog_13_method_27_code 154 = .ok (.iaload, 1) := by decide +kernel
theorem d_Model_rollback_155 : decode prog_13_method_27_code 155 = .ok (.iastore, 1) := by decide +kernel
theorem d_Model_rollback_156 : decode prog_13_method_27_code 156 = .ok (.iinc 1 1, 3) := by decide +kernel
theorem d_Model_rollback_159 : decode prog_13_method_27_code 159 = .ok (.goto (-46), 3) := by decide +kernel
theorem d_Model_rollback_162 : decode prog_13_method_27_code 162 = .ok (.aload_n 0, 1) := by decide +kernel
theorem d_Model_rollback_163 : decode prog_13_method_27_code 163 = .ok (.aload_n 0, 1) := by decide +kernel
theorem d_Model_rollback_164 : decode prog_13_method_27_code 164 = .ok (.getfield 206, 3) := by decide +kernel
theorem d_Model_rollback_167 : decode prog_13_method_27_code 167 = .ok (.putfield 193, 3) := by decide +kernel
theorem d_Model_rollback_170 : decode prog_13_method_27_code 170 = .ok (.aload_n 0, 1) := by decide +kernel
theorem d_Model_rollback_171 : decode prog_13_method_27_code 171 = .ok (.invokevirtual 209, 3) := by decide +kernel
theorem d_Model_rollback_174 : decode prog_13_method_27_code 174 = .ok (.ireturn, 1) := by decide +kernel
theorem d_Model_rows_0 : decode prog_13_method_28_code 0 = .ok (.iconst 0, 1) := by decide +kernel
theorem d_Model_rows_1 : decode prog_13_method_28_code 1 = .ok (.istore_n 1, 1) := by decide +kernel
theorem d_Model_rows_2 : decode prog_13_method_28_code 2 = .ok (.iconst 0, 1) := by decide +kernel
theorem d_Model_rows_3 : decode prog_13_method_28_code 3 = .ok (.istore_n 2, 1) := by decide +kernel
theorem d_Model_rows_4 : decode prog_13_method_28_code 4 = .ok (.iload_n 2, 1) := by decide +kernel
theorem d_Model_rows_5 : decode prog_13_method_28_code 5 = .ok (.bipush 24, 2) := by decide +kernel
theorem d_Model_rows_7 : decode prog_13_method_28_code 7 = .ok (.if_icmp .ge 21, 3) := by decide +kernel
theorem d_Model_rows_10 : decode prog_13_method_28_code 10 = .ok (.aload_n 0, 1) := by decide +kernel
theorem d_Model_rows_11 : decode prog_13_method_28_code 11 = .ok (.getfield 44, 3) := by decide +kernel
theorem d_Model_rows_14 : decode prog_13_method_28_code 14 = .ok (.iload_n 2, 1) := by decide +kernel
theorem d_Model_rows_15 : decode prog_13_method_28_code 15 = .ok (.iaload, 1) := by decide +kernel
theorem d_Model_rows_16 : decode prog_13_method_28_code 16 = .ok (.ifCond .lt 6, 3) := by decide +kernel
theorem d_Model_rows_19 : decode prog_13_method_28_code 19 = .ok (.iinc 1 1, 3) := by decide +kernel
theorem d_Model_rows_22 : decode prog_13_method_28_code 22 = .ok (.iinc 2 1, 3) := by decide +kernel
theorem d_Model_rows_25 : decode prog_13_method_28_code 25 = .ok (.goto (-21), 3) := by decide +kernel
theorem d_Model_rows_28 : decode prog_13_method_28_code 28 = .ok (.iload_n 1, 1) := by decide +kernel
theorem d_Model_rows_29 : decode prog_13_method_28_code 29 = .ok (.ireturn, 1) := by decide +kernel
theorem d_Model_ways_0 : decode prog_13_method_29_code 0 = .ok (.aload_n 0, 1) := by decide +kernel
theorem d_Model_ways_1 : decode prog_13_method_29_code 1 = .ok (.iconst 0, 1) := by decide +kernel
theorem d_Model_ways_2 : decode prog_13_method_29_code 2 = .ok (.putfield 130, 3) := by decide +kernel
theorem d_Model_ways_5 : decode prog_13_method_29_code 5 = .ok (.aload_n 0, 1) := by decide +kernel
theorem d_Model_ways_6 : decode prog_13_method_29_code 6 = .ok (.iload_n 1, 1) := by decide +kernel
theorem d_Model_ways_7 : decode prog_13_method_29_code 7 = .ok (.iconst 1, 1) := by decide +kernel
theorem d_Model_ways_8 : decode prog_13_method_29_code 8 = .ok (.bipush 9, 2) := by decide +kernel
theorem d_Model_ways_10 : decode prog_13_method_29_code 10 = .ok (.invokestatic 133, 3) := by decide +kernel
theorem d_Model_ways_13 : decode prog_13_method_29_code 13 = .ok (.ifCond .eq 14, 3) := by decide +kernel
theorem d_Model_ways_16 : decode prog_13_method_29_code 16 = .ok (.iload_n 2, 1) := by decide +kernel
theorem d_Model_ways_17 : decode prog_13_method_29_code 17 = .ok (.iconst 0, 1) := by decide +kernel
theorem d_Model_ways_18 : decode prog_13_method_29_code 18 = .ok (.sipush 200, 3) := by decide +kernel
theorem d_Model_ways_21 : decode prog_13_method_29_code 21 = .ok (.invokestatic 133, 3) := by decide +kernel
theorem d_Model_ways_24 : decode prog_13_method_29_code 24 = .ok (.ifCond .ne 7, 3) := by decide +kernel
theorem d_Model_ways_27 : decode prog_13_method_29_code 27 = .ok (.iconst 1, 1) := by decide +kernel
theorem d_Model_ways_28 : decode prog_13_method_29_code 28 = .ok (.goto 4, 3) := by decide +kernel
theorem d_Model_ways_31 : decode prog_13_method_29_code 31 = .ok (.iconst 0, 1) := by decide +kernel
theorem d_Model_ways_32 : decode prog_13_method_29_code 32 = .ok (.iconst 1, 1) := by decide +kernel
theorem d_Model_ways_33 : decode prog_13_method_29_code 33 = .ok (.invokevirtual 139, 3) := by decide +kernel
theorem d_Model_ways_36 : decode prog_13_method_29_code 36 = .ok (.ifCond .eq 4, 3) := by decide +kernel
theorem d_Model_ways_39 : decode prog_13_method_29_code 39 = .ok (.return_, 1) := by decide +kernel
theorem d_Model_ways_40 : decode prog_13_method_29_code 40 = .ok (.aload_n 0, 1) := by decide +kernel
theorem d_Model_ways_41 : decode prog_13_method_29_code 41 = .ok (.iload_n 1, 1) := by decide +kernel
theorem d_Model_ways_42 : decode prog_13_method_29_code 42 = .ok (.putfield 7, 3) := by decide +kernel
theorem d_Model_ways_45 : decode prog_13_method_29_code 45 = .ok (.aload_n 0, 1) := by decide +kernel
theorem d_Model_ways_46 : decode prog_13_method_29_code 46 = .ok (.iload_n 2, 1) := by decide +kernel
theorem d_Model_ways_47 : decode prog_13_method_29_code 47 = .ok (.putfield 13, 3) := by decide +kernel
theorem d_Model_ways_50 : decode prog_13_method_29_code 50 = .ok (.return_, 1) := by decide +kernel
theorem d_Model_weight_0 : decode prog_13_method_30_code 0 = .ok (.aload_n 0, 1) := by decide +kernel
theorem d_Model_weight_1 : decode prog_13_method_30_code 1 = .ok (.iconst 0, 1) := by decide +kernel
theorem d_Model_weight_2 : decode prog_13_method_30_code 2 = .ok (.putfield 130, 3) := by decide +kernel
theorem d_Model_weight_5 : decode prog_13_method_30_code 5 = .ok (.aload_n 0, 1) := by decide +kernel
theorem d_Model_weight_6 : decode prog_13_method_30_code 6 = .ok (.iload_n 1, 1) := by decide +kernel
theorem d_Model_weight_7 : decode prog_13_method_30_code 7 = .ok (.iconst 0, 1) := by decide +kernel
theorem d_Model_weight_8 : decode prog_13_method_30_code 8 = .ok (.iconst 1, 1) := by decide +kernel
theorem d_Model_weight_9 : decode prog_13_method_30_code 9 = .ok (.invokestatic 133, 3) := by decide +kernel
theorem d_Model_weight_12 : decode prog_13_method_30_code 12 = .ok (.ifCond .eq 13, 3) := by decide +kernel
theorem d_Model_weight_15 : decode prog_13_method_30_code 15 = .ok (.iload_n 2, 1) := by decide +kernel
theorem d_Model_weight_16 : decode prog_13_method_30_code 16 = .ok (.iconst 0, 1) := by decide +kernel
theorem d_Model_weight_17 : decode prog_13_method_30_code 17 = .ok (.bipush 9, 2) := by decide +kernel
theorem d_Model_weight_19 : decode prog_13_method_30_code 19 = .ok (.invokestatic 133, 3) := by decide +kernel
theorem d_Model_weight_22 : decode prog_13_method_30_code 22 = .ok (.ifCond .ne 7, 3) := by decide +kernel
theorem d_Model_weight_25 : decode prog_13_method_30_code 25 = .ok (.iconst 1, 1) := by decide +kernel
theorem d_Model_weight_26 : decode prog_13_method_30_code 26 = .ok (.goto 4, 3) := by decide +kernel
theorem d_Model_weight_29 : decode prog_13_method_30_code 29 = .ok (.iconst 0, 1) := by decide +kernel
theorem d_Model_weight_30 : decode prog_13_method_30_code 30 = .ok (.iconst 1, 1) := by decide +kernel
theorem d_Model_weight_31 : decode prog_13_method_30_code 31 = .ok (.invokevirtual 139, 3) := by decide +kernel
theorem d_Model_weight_34 : decode prog_13_method_30_code 34 = .ok (.ifCond .eq 5, 3) := by decide +kernel
theorem d_Model_weight_37 : decode prog_13_method_30_code 37 = .ok (.iconst 0, 1) := by decide +kernel
theorem d_Model_weight_38 : decode prog_13_method_30_code 38 = .ok (.ireturn, 1) := by decide +kernel
theorem d_Model_weight_39 : decode prog_13_method_30_code 39 = .ok (.aload_n 0, 1) := by decide +kernel
theorem d_Model_weight_40 : decode prog_13_method_30_code 40 = .ok (.getfield 35, 3) := by decide +kernel
theorem d_Model_weight_43 : decode prog_13_method_30_code 43 = .ok (.iload_n 1, 1) := by decide +kernel
theorem d_Model_weight_44 : decode prog_13_method_30_code 44 = .ok (.iaload, 1) := by decide +kernel
theorem d_Model_weight_45 : decode prog_13_method_30_code 45 = .ok (.istore_n 3, 1) := by decide +kernel
theorem d_Model_weight_46 : decode prog_13_method_30_code 46 = .ok (.aload_n 0, 1) := by decide +kernel
theorem d_Model_weight_47 : decode prog_13_method_30_code 47 = .ok (.getfield 35, 3) := by decide +kernel
theorem d_Model_weight_50 : decode prog_13_method_30_code 50 = .ok (.iload_n 1, 1) := by decide +kernel
theorem d_Model_weight_51 : decode prog_13_method_30_code 51 = .ok (.iload_n 2, 1) := by decide +kernel
theorem d_Model_weight_52 : decode prog_13_method_30_code 52 = .ok (.iastore, 1) := by decide +kernel
theorem d_Model_weight_53 : decode prog_13_method_30_code 53 = .ok (.iload_n 3, 1) := by decide +kernel
theorem d_Model_weight_54 : decode prog_13_method_30_code 54 = .ok (.ireturn, 1) := by decide +kernel
theorem d_Model_ask_0 : decode prog_13_method_61_code 0 = .ok (.aload_n 0, 1) := by decide +kernel
theorem d_Model_ask_1 : decode prog_13_method_61_code 1 = .ok (.iconst 0, 1) := by decide +kernel
theorem d_Model_ask_2 : decode prog_13_method_61_code 2 = .ok (.putfield 130, 3) := by decide +kernel
theorem d_Model_ask_5 : decode prog_13_method_61_code 5 = .ok (.iconst 0, 1) := by decide +kernel
theorem d_Model_ask_6 : decode prog_13_method_61_code 6 = .ok (.istore_n 1, 1) := by decide +kernel
theorem d_Model_ask_7 : decode prog_13_method_61_code 7 = .ok (.iload_n 1, 1) := by decide +kernel
theorem d_Model_ask_8 : decode prog_13_method_61_code 8 = .ok (.aload_n 0, 1) := by decide +kernel
theorem d_Model_ask_9 : decode prog_13_method_61_code 9 = .ok (.getfield 143, 3) := by decide +kernel
theorem d_Model_ask_12 : decode prog_13_method_61_code 12 = .ok (.if_icmp .ge 21, 3) := by decide +kernel
theorem d_Model_ask_15 : decode prog_13_method_61_code 15 = .ok (.aload_n 0, 1) := by decide +kernel
theorem d_Model_ask_16 : decode prog_13_method_61_code 16 = .ok (.getfield 20, 3) := by decide +kernel
theorem d_Model_ask_19 : decode prog_13_method_61_code 19 = .ok (.iload_n 1, 1) := by decide +kernel
theorem d_Model_ask_20 : decode prog_13_method_61_code 20 = .ok (.aload_n 0, 1) := by decide +kernel
theorem d_Model_ask_21 : decode prog_13_method_61_code 21 = .ok (.getfield 16, 3) := by decide +kernel
theorem d_Model_ask_24 : decode prog_13_method_61_code 24 = .ok (.iload_n 1, 1) := by decide +kernel
theorem d_Model_ask_25 : decode prog_13_method_61_code 25 = .ok (.iaload, 1) := by decide +kernel
theorem d_Model_ask_26 : decode prog_13_method_61_code 26 = .ok (.iastore, 1) := by decide +kernel
theorem d_Model_ask_27 : decode prog_13_method_61_code 27 = .ok (.iinc 1 1, 3) := by decide +kernel
theorem d_Model_ask_30 : decode prog_13_method_61_code 30 = .ok (.goto (-23), 3) := by decide +kernel
theorem d_Model_ask_33 : decode prog_13_method_61_code 33 = .ok (.aload_n 0, 1) := by decide +kernel
theorem d_Model_ask_34 : decode prog_13_method_61_code 34 = .ok (.aload_n 0, 1) := by decide +kernel
theorem d_Model_ask_35 : decode prog_13_method_61_code 35 = .ok (.getfield 143, 3) := by decide +kernel
theorem d_Model_ask_38 : decode prog_13_method_61_code 38 = .ok (.putfield 212, 3) := by decide +kernel
theorem d_Model_ask_41 : decode prog_13_method_61_code 41 = .ok (.aload_n 0, 1) := by decide +kernel
theorem d_Model_ask_42 : decode prog_13_method_61_code 42 = .ok (.iconst 0, 1) := by decide +kernel
theorem d_Model_ask_43 : decode prog_13_method_61_code 43 = .ok (.putfield 143, 3) := by decide +kernel
theorem d_Model_ask_46 : decode prog_13_method_61_code 46 = .ok (.aload_n 0, 1) := by decide +kernel
theorem d_Model_ask_47 : decode prog_13_method_61_code 47 = .ok (.invokevirtual 354, 3) := by decide +kernel
theorem d_Model_ask_50 : decode prog_13_method_61_code 50 = .ok (.aload_n 0, 1) := by decide +kernel
theorem d_Model_ask_51 : decode prog_13_method_61_code 51 = .ok (.aload_n 0, 1) := by decide +kernel
theorem d_Model_ask_52 : decode prog_13_method_61_code 52 = .ok (.getfield 71, 3) := by decide +kernel
theorem d_Model_ask_55 : decode prog_13_method_61_code 55 = .ok (.putfield 68, 3) := by decide +kernel
theorem d_Model_ask_58 : decode prog_13_method_61_code 58 = .ok (.aload_n 0, 1) := by decide +kernel
theorem d_Model_ask_59 : decode prog_13_method_61_code 59 = .ok (.aload_n 0, 1) := by decide +kernel
theorem d_Model_ask_60 : decode prog_13_method_61_code 60 = .ok (.getfield 71, 3) := by decide +kernel
theorem d_Model_ask_63 : decode prog_13_method_61_code 63 = .ok (.ifCond .lt 7, 3) := by decide +kernel
theorem d_Model_ask_66 : decode prog_13_method_61_code 66 = .ok (.iconst 1, 1) := by decide +kernel
theorem d_Model_ask_67 : decode prog_13_method_61_code 67 = .ok (.goto 4, 3) := by decide +kernel
theorem d_Model_ask_70 : decode prog_13_method_61_code 70 = .ok (.iconst 0, 1) := by decide +kernel
theorem d_Model_ask_71 : decode prog_13_method_61_code 71 = .ok (.iconst 1, 1) := by decide +kernel
theorem d_Model_ask_72 : decode prog_13_method_61_code 72 = .ok (.invokevirtual 139, 3) := by decide +kernel
theorem d_Model_ask_75 : decode prog_13_method_61_code 75 = .ok (.ifCond .eq 5, 3) := by decide +kernel
theorem d_Model_ask_78 : decode prog_13_method_61_code 78 = .ok (.iconst 0, 1) := by decide +kernel
theorem d_Model_ask_79 : decode prog_13_method_61_code 79 = .ok (.ireturn, 1) := by decide +kernel
theorem d_Model_ask_80 : decode prog_13_method_61_code 80 = .ok (.aload_n 0, 1) := by decide +kernel
theorem d_Model_ask_81 : decode prog_13_method_61_code 81 = .ok (.aload_n 0, 1) := by decide +kernel
theorem d_Model_ask_82 : decode prog_13_method_61_code 82 = .ok (.getfield 247, 3) := by decide +kernel
theorem d_Model_ask_85 : decode prog_13_method_61_code 85 = .ok (.putfield 357, 3) := by decide +kernel
theorem d_Model_ask_88 : decode prog_13_method_61_code 88 = .ok (.aload_n 0, 1) := by decide +kernel
theorem d_Model_ask_89 : decode prog_13_method_61_code 89 = .ok (.iconst 0, 1) := by decide +kernel
theorem d_Model_ask_90 : decode prog_13_method_61_code 90 = .ok (.putfield 360, 3) := by decide +kernel
theorem d_Model_ask_93 : decode prog_13_method_61_code 93 = .ok (.iconst 0, 1) := by decide +kernel
theorem d_Model_ask_94 : decode prog_13_method_61_code 94 = .ok (.istore_n 1, 1) := by decide +kernel
theorem d_Model_ask_95 : decode prog_13_method_61_code 95 = .ok (.iload_n 1, 1) := by decide +kernel
theorem d_Model_ask_96 : decode prog_13_method_61_code 96 = .ok (.bipush 24, 2) := by decide +kernel
theorem d_Model_ask_98 : decode prog_13_method_61_code 98 = .ok (.if_icmp .ge 127, 3) := by decide +kernel
theorem d_Model_ask_101 : decode prog_13_method_61_code 101 = .ok (.aload_n 0, 1) := by decide +kernel
theorem d_Model_ask_102 : decode prog_13_method_61_code 102 = .ok (.getfield 44, 3) := by decide +kernel
theorem d_Model_ask_105 : decode prog_13_method_61_code 105 = .ok (.iload_n 1, 1) := by decide +kernel
theorem d_Model_ask_106 : decode prog_13_method_61_code 106 = .ok (.iaload, 1) := by decide +kernel
theorem d_Model_ask_107 : decode prog_13_method_61_code 107 = .ok (.ifCond .lt 112, 3) := by decide +kernel
theorem d_Model_ask_110 : decode prog_13_method_61_code 110 = .ok (.aload_n 0, 1) := by decide +kernel
theorem d_Model_ask_111 : decode prog_13_method_61_code 111 = .ok (.iload_n 1, 1) := by decide +kernel
theorem d_Model_ask_112 : decode prog_13_method_61_code 112 = .ok (.invokevirtual 363, 3) := by decide +kernel
theorem d_Model_ask_115 : decode prog_13_method_61_code 115 = .ok (.ifCond .eq 104, 3) := by decide +kernel
theorem d_Model_ask_118 : decode prog_13_method_61_code 118 = .ok (.aload_n 0, 1) := by decide +kernel
theorem d_Model_ask_119 : decode prog_13_method_61_code 119 = .ok (.getfield 120, 3) := by decide +kernel
theorem d_Model_ask_122 : decode prog_13_method_61_code 122 = .ok (.aload_n 0, 1) := by decide +kernel
theorem d_Model_ask_123 : decode prog_13_method_61_code 123 = .ok (.getfield 360, 3) := by decide +kernel
theorem d_Model_ask_126 : decode prog_13_method_61_code 126 = .ok (.iload_n 1, 1) := by decide +kernel
theorem d_Model_ask_127 : decode prog_13_method_61_code 127 = .ok (.iconst 1, 1) := by decide +kernel
theorem d_Model_ask_128 : decode prog_13_method_61_code 128 = .ok (.iadd, 1) := by decide +kernel
theorem d_Model_ask_129 : decode prog_13_method_61_code 129 = .ok (.iastore, 1) := by decide +kernel
theorem d_Model_ask_130 : decode prog_13_method_61_code 130 = .ok (.aload_n 0, 1) := by decide +kernel
theorem d_Model_ask_131 : decode prog_13_method_61_code 131 = .ok (.getfield 126, 3) := by decide +kernel
theorem d_Model_ask_134 : decode prog_13_method_61_code 134 = .ok (.aload_n 0, 1) := by decide +kernel
theorem d_Model_ask_135 : decode prog_13_method_61_code 135 = .ok (.getfield 360, 3) := by decide +kernel
theorem d_Model_ask_138 : decode prog_13_method_61_code 138 = .ok (.aload_n 0, 1) := by decide +kernel
theorem d_Model_ask_139 : decode prog_13_method_61_code 139 = .ok (.iload_n 1, 1) := by decide +kernel
theorem d_Model_ask_140 : decode prog_13_method_61_code 140 = .ok (.invokevirtual 366, 3) := by decide +kernel
theorem d_Model_ask_143 : decode prog_13_method_61_code 143 = .ok (.dastore, 1) := by decide +kernel
theorem d_Model_ask_144 : decode prog_13_method_61_code 144 = .ok (.aload_n 0, 1) := by decide +kernel
theorem d_Model_ask_145 : decode prog_13_method_61_code 145 = .ok (.getfield 360, 3) := by decide +kernel
theorem d_Model_ask_148 : decode prog_13_method_61_code 148 = .ok (.istore_n 2, 1) := by decide +kernel
theorem d_Model_ask_149 : decode prog_13_method_61_code 149 = .ok (.iload_n 2, 1) := by decide +kernel
theorem d_Model_ask_150 : decode prog_13_method_61_code 150 = .ok (.ifCond .le 49, 3) := by decide +kernel
theorem d_Model_ask_153 : decode prog_13_method_61_code 153 = .ok (.aload_n 0, 1) := by decide +kernel
theorem d_Model_ask_154 : decode prog_13_method_61_code 154 = .ok (.getfield 126, 3) := by decide +kernel
theorem d_Model_ask_157 : decode prog_13_method_61_code 157 = .ok (.aload_n 0, 1) := by decide +kernel
theorem d_Model_ask_158 : decode prog_13_method_61_code 158 = .ok (.getfield 123, 3) := by decide +kernel
theorem d_Model_ask_161 : decode prog_13_method_61_code 161 = .ok (.iload_n 2, 1) := by decide +kernel
theorem d_Model_ask_162 : decode prog_13_method_61_code 162 = .ok (.iconst 1, 1) := by decide +kernel
theorem d_Model_ask_163 : decode prog_13_method_61_code 163 = .ok (.isub, 1) := by decide +kernel
theorem d_Model_ask_164 : decode prog_13_method_61_code 164 = .ok (.iaload, 1) := by decide +kernel
theorem d_Model_ask_165 : decode prog_13_method_61_code 165 = .ok (.daload, 1) := by decide +kernel
theorem d_Model_ask_166 : decode prog_13_method_61_code 166 = .ok (.aload_n 0, 1) := by decide +kernel
theorem d_Model_ask_167 : decode prog_13_method_61_code 167 = .ok (.getfield 126, 3) := by decide +kernel
theorem d_Model_ask_170 : decode prog_13_method_61_code 170 = .ok (.aload_n 0, 1) := by decide +kernel
theorem d_Model_ask_171 : decode prog_13_method_61_code 171 = .ok (.getfield 360, 3) := by decide +kernel
theorem d_Model_ask_174 : decode prog_13_method_61_code 174 = .ok (.daload, 1) := by decide +kernel
theorem d_Model_ask_175 : decode prog_13_method_61_code 175 = .ok (.dcmp .g, 1) := by decide +kernel
theorem d_Model_ask_176 : decode prog_13_method_61_code 176 = .ok (.ifCond .ge 23, 3) := by decide +kernel
theorem d_Model_ask_179 : decode prog_13_method_61_code 179 = .ok (.aload_n 0, 1) := by decide +kernel
theorem d_Model_ask_180 : decode prog_13_method_61_code 180 = .ok (.getfield 123, 3) := by decide +kernel
theorem d_Model_ask_183 : decode prog_13_method_61_code 183 = .ok (.iload_n 2, 1) := by decide +kernel
theorem d_Model_ask_184 : decode prog_13_method_61_code 184 = .ok (.aload_n 0, 1) := by decide +kernel
theorem d_Model_ask_185 : decode prog_13_method_61_code 185 = .ok (.getfield 123, 3) := by decide +kernel
theorem d_Model_ask_188 : decode prog_13_method_61_code 188 = .ok (.iload_n 2, 1) := by decide +kernel
theorem d_Model_ask_189 : decode prog_13_method_61_code 189 = .ok (.iconst 1, 1) := by decide +kernel
theorem d_Model_ask_190 : decode prog_13_method_61_code 190 = .ok (.isub, 1) := by decide +kernel
theorem d_Model_ask_191 : decode prog_13_method_61_code 191 = .ok (.iaload, 1) := by decide +kernel
theorem d_Model_ask_192 : decode prog_13_method_61_code 192 = .ok (.iastore, 1) := by decide +kernel
theorem d_Model_ask_193 : decode prog_13_method_61_code 193 = .ok (.iinc 2 (-1), 3) := by decide +kernel
theorem d_Model_ask_196 : decode prog_13_method_61_code 196 = .ok (.goto (-47), 3) := by decide +kernel
theorem d_Model_ask_199 : decode prog_13_method_61_code 199 = .ok (.aload_n 0, 1) := by decide +kernel
theorem d_Model_ask_200 : decode prog_13_method_61_code 200 = .ok (.getfield 123, 3) := by decide +kernel
theorem d_Model_ask_203 : decode prog_13_method_61_code 203 = .ok (.iload_n 2, 1) := by decide +kernel
theorem d_Model_ask_204 : decode prog_13_method_61_code 204 = .ok (.aload_n 0, 1) := by decide +kernel
theorem d_Model_ask_205 : decode prog_13_method_61_code 205 = .ok (.getfield 360, 3) := by decide +kernel
theorem d_Model_ask_208 : decode prog_13_method_61_code 208 = .ok (.iastore, 1) := by decide +kernel
theorem d_Model_ask_209 : decode prog_13_method_61_code 209 = .ok (.aload_n 0, 1) := by decide +kernel
theorem d_Model_ask_210 : decode prog_13_method_61_code 210 = .ok (.dup, 1) := by decide +kernel
theorem d_Model_ask_211 : decode prog_13_method_61_code 211 = .ok (.getfield 360, 3) := by decide +kernel
theorem d_Model_ask_214 : decode prog_13_method_61_code 214 = .ok (.iconst 1, 1) := by decide +kernel
theorem d_Model_ask_215 : decode prog_13_method_61_code 215 = .ok (.iadd, 1) := by decide +kernel
theorem d_Model_ask_216 : decode prog_13_method_61_code 216 = .ok (.putfield 360, 3) := by decide +kernel
theorem d_Model_ask_219 : decode prog_13_method_61_code 219 = .ok (.iinc 1 1, 3) := by decide +kernel
theorem d_Model_ask_222 : decode prog_13_method_61_code 222 = .ok (.goto (-127), 3) := by decide +kernel
theorem d_Model_ask_225 : decode prog_13_method_61_code 225 = .ok (.aload_n 0, 1) := by decide +kernel
theorem d_Model_ask_226 : decode prog_13_method_61_code 226 = .ok (.getfield 360, 3) := by decide +kernel
theorem d_Model_ask_229 : decode prog_13_method_61_code 229 = .ok (.ireturn, 1) := by decide +kernel
theorem d_Model_reads_0 : decode prog_13_method_50_code 0 = .ok (.aload_n 0, 1) := by decide +kernel
theorem d_Model_reads_1 : decode prog_13_method_50_code 1 = .ok (.iconst 0, 1) := by decide +kernel
theorem d_Model_reads_2 : decode prog_13_method_50_code 2 = .ok (.putfield 224, 3) := by decide +kernel
theorem d_Model_reads_5 : decode prog_13_method_50_code 5 = .ok (.aload_n 0, 1) := by decide +kernel
theorem d_Model_reads_6 : decode prog_13_method_50_code 6 = .ok (.iconst (-1), 1) := by decide +kernel
theorem d_Model_reads_7 : decode prog_13_method_50_code 7 = .ok (.putfield 71, 3) := by decide +kernel
theorem d_Model_reads_10 : decode prog_13_method_50_code 10 = .ok (.aload_n 0, 1) := by decide +kernel
theorem d_Model_reads_11 : decode prog_13_method_50_code 11 = .ok (.iconst 0, 1) := by decide +kernel
theorem d_Model_reads_12 : decode prog_13_method_50_code 12 = .ok (.putfield 247, 3) := by decide +kernel
theorem d_Model_reads_15 : decode prog_13_method_50_code 15 = .ok (.aload_n 0, 1) := by decide +kernel
theorem d_Model_reads_16 : decode prog_13_method_50_code 16 = .ok (.iconst 0, 1) := by decide +kernel
theorem d_Model_reads_17 : decode prog_13_method_50_code 17 = .ok (.putfield 241, 3) := by decide +kernel
theorem d_Model_reads_20 : decode prog_13_method_50_code 20 = .ok (.aload_n 0, 1) := by decide +kernel
theorem d_Model_reads_21 : decode prog_13_method_50_code 21 = .ok (.iconst 0, 1) := by decide +kernel
theorem d_Model_reads_22 : decode prog_13_method_50_code 22 = .ok (.putfield 263, 3) := by decide +kernel
theorem d_Model_reads_25 : decode prog_13_method_50_code 25 = .ok (.aload_n 0, 1) := by decide +kernel
theorem d_Model_reads_26 : decode prog_13_method_50_code 26 = .ok (.iconst 0, 1) := by decide +kernel
theorem d_Model_reads_27 : decode prog_13_method_50_code 27 = .ok (.putfield 272, 3) := by decide +kernel
theorem d_Model_reads_30 : decode prog_13_method_50_code 30 = .ok (.aload_n 0, 1) := by decide +kernel
theorem d_Model_reads_31 : decode prog_13_method_50_code 31 = .ok (.iconst 0, 1) := by decide +kernel
theorem d_Model_reads_32 : decode prog_13_method_50_code 32 = .ok (.putfield 278, 3) := by decide +kernel
theorem d_Model_reads_35 : decode prog_13_method_50_code 35 = .ok (.aload_n 0, 1) := by decide +kernel
theorem d_Model_reads_36 : decode prog_13_method_50_code 36 = .ok (.iconst 3, 1) := by decide +kernel
theorem d_Model_reads_37 : decode prog_13_method_50_code 37 = .ok (.putfield 266, 3) := by decide +kernel
theorem d_Model_reads_40 : decode prog_13_method_50_code 40 = .ok (.aload_n 0, 1) := by decide +kernel
theorem d_Model_reads_41 : decode prog_13_method_50_code 41 = .ok (.iconst 0, 1) := by decide +kernel
theorem d_Model_reads_42 : decode prog_13_method_50_code 42 = .ok (.putfield 297, 3) := by decide +kernel
theorem d_Model_reads_45 : decode prog_13_method_50_code 45 = .ok (.aload_n 0, 1) := by decide +kernel
theorem d_Model_reads_46 : decode prog_13_method_50_code 46 = .ok (.invokevirtual 234, 3) := by decide +kernel
theorem d_Model_reads_49 : decode prog_13_method_50_code 49 = .ok (.aload_n 0, 1) := by decide +kernel
theorem d_Model_reads_50 : decode prog_13_method_50_code 50 = .ok (.getfield 71, 3) := by decide +kernel
theorem d_Model_reads_53 : decode prog_13_method_50_code 53 = .ok (.ifCond .ge 38, 3) := by decide +kernel
theorem d_Model_reads_56 : decode prog_13_method_50_code 56 = .ok (.aload_n 0, 1) := by decide +kernel
theorem d_Model_reads_57 : decode prog_13_method_50_code 57 = .ok (.getfield 227, 3) := by decide +kernel
theorem d_Model_reads_60 : decode prog_13_method_50_code 60 = .ok (.ifCond .ne 10, 3) := by decide +kernel
theorem d_Model_reads_63 : decode prog_13_method_50_code 63 = .ok (.aload_n 0, 1) := by decide +kernel
theorem d_Model_reads_64 : decode prog_13_method_50_code 64 = .ok (.getfield 297, 3) := by decide +kernel
theorem d_Model_reads_67 : decode prog_13_method_50_code 67 = .ok (.ifCond .ne 24, 3) := by decide +kernel
theorem d_Model_reads_70 : decode prog_13_method_50_code 70 = .ok (.aload_n 0, 1) := by decide +kernel
theorem d_Model_reads_71 : decode prog_13_method_50_code 71 = .ok (.getfield 297, 3) := by decide +kernel
theorem d_Model_reads_74 : decode prog_13_method_50_code 74 = .ok (.ifCond .eq 10, 3) := by decide +kernel
theorem d_Model_reads_77 : decode prog_13_method_50_code 77 = .ok (.aload_n 0, 1) := by decide +kernel
theorem d_Model_reads_78 : decode prog_13_method_50_code 78 = .ok (.invokevirtual 303, 3) := by decide +kernel
theorem d_Model_reads_81 : decode prog_13_method_50_code 81 = .ok (.goto (-32), 3) := by decide +kernel
theorem d_Model_reads_84 : decode prog_13_method_50_code 84 = .ok (.aload_n 0, 1) := by decide +kernel
theorem d_Model_reads_85 : decode prog_13_method_50_code 85 = .ok (.invokevirtual 306, 3) := by decide +kernel
theorem d_Model_reads_88 : decode prog_13_method_50_code 88 = .ok (.goto (-39), 3) := by decide +kernel
theorem d_Model_reads_91 : decode prog_13_method_50_code 91 = .ok (.aload_n 0, 1) := by decide +kernel
theorem d_Model_reads_92 : decode prog_13_method_50_code 92 = .ok (.iconst 1, 1) := by decide +kernel
theorem d_Model_reads_93 : decode prog_13_method_50_code 93 = .ok (.invokevirtual 281, 3) := by decide +kernel
theorem d_Model_reads_96 : decode prog_13_method_50_code 96 = .ok (.aload_n 0, 1) := by decide +kernel
theorem d_Model_reads_97 : decode prog_13_method_50_code 97 = .ok (.aload_n 0, 1) := by decide +kernel
theorem d_Model_reads_98 : decode prog_13_method_50_code 98 = .ok (.getfield 278, 3) := by decide +kernel
theorem d_Model_reads_101 : decode prog_13_method_50_code 101 = .ok (.ifCond .le 7, 3) := by decide +kernel
theorem d_Model_reads_104 : decode prog_13_method_50_code 104 = .ok (.iconst 1, 1) := by decide +kernel
theorem d_Model_reads_105 : decode prog_13_method_50_code 105 = .ok (.goto 4, 3) := by decide +kernel
theorem d_Model_reads_108 : decode prog_13_method_50_code 108 = .ok (.iconst 0, 1) := by decide +kernel
theorem d_Model_reads_109 : decode prog_13_method_50_code 109 = .ok (.aload_n 0, 1) := by decide +kernel
theorem d_Model_reads_110 : decode prog_13_method_50_code 110 = .ok (.getfield 212, 3) := by decide +kernel
theorem d_Model_reads_113 : decode prog_13_method_50_code 113 = .ok (.invokevirtual 250, 3) := by decide +kernel
theorem d_Model_reads_116 : decode prog_13_method_50_code 116 = .ok (.return_, 1) := by decide +kernel
theorem d_Model_part_0 : decode prog_13_method_33_code 0 = .ok (.aload_n 0, 1) := by decide +kernel
theorem d_Model_part_1 : decode prog_13_method_33_code 1 = .ok (.aload_n 0, 1) := by decide +kernel
theorem d_Model_part_2 : decode prog_13_method_33_code 2 = .ok (.getfield 224, 3) := by decide +kernel
theorem d_Model_part_5 : decode prog_13_method_33_code 5 = .ok (.invokevirtual 221, 3) := by decide +kernel
theorem d_Model_part_8 : decode prog_13_method_33_code 8 = .ok (.bipush 32, 2) := by decide +kernel
theorem d_Model_part_10 : decode prog_13_method_33_code 10 = .ok (.if_icmp .ne 16, 3) := by decide +kernel
theorem d_Model_part_13 : decode prog_13_method_33_code 13 = .ok (.aload_n 0, 1) := by decide +kernel
theorem d_Model_part_14 : decode prog_13_method_33_code 14 = .ok (.dup, 1) := by decide +kernel
theorem d_Model_part_15 : decode prog_13_method_33_code 15 = .ok (.getfield 224, 3) := by decide +kernel
theorem d_Model_part_18 : decode prog_13_method_33_code 18 = .ok (.iconst 1, 1) := by decide +kernel
theorem d_Model_part_19 : decode prog_13_method_33_code 19 = .ok (.iadd, 1) := by decide +kernel
theorem d_Model_part_20 : decode prog_13_method_33_code 20 = .ok (.putfield 224, 3) := by decide +kernel
theorem d_Model_part_23 : decode prog_13_method_33_code 23 = .ok (.goto (-23), 3) := by decide +kernel
theorem d_Model_part_26 : decode prog_13_method_33_code 26 = .ok (.aload_n 0, 1) := by decide +kernel
theorem d_Model_part_27 : decode prog_13_method_33_code 27 = .ok (.aload_n 0, 1) := by decide +kernel
theorem d_Model_part_28 : decode prog_13_method_33_code 28 = .ok (.getfield 224, 3) := by decide +kernel
theorem d_Model_part_31 : decode prog_13_method_33_code 31 = .ok (.putfield 218, 3) := by decide +kernel
theorem d_Model_part_34 : decode prog_13_method_33_code 34 = .ok (.aload_n 0, 1) := by decide +kernel
theorem d_Model_part_35 : decode prog_13_method_33_code 35 = .ok (.aload_n 0, 1) := by decide +kernel
theorem d_Model_part_36 : decode prog_13_method_33_code 36 = .ok (.getfield 224, 3) := by decide +kernel
theorem d_Model_part_39 : decode prog_13_method_33_code 39 = .ok (.iconst 1, 1) := by decide +kernel
theorem d_Model_part_40 : decode prog_13_method_33_code 40 = .ok (.iadd, 1) := by decide +kernel
theorem d_Model_part_41 : decode prog_13_method_33_code 41 = .ok (.putfield 215, 3) := by decide +kernel
theorem d_Model_part_44 : decode prog_13_method_33_code 44 = .ok (.aload_n 0, 1) := by decide +kernel
theorem d_Model_part_45 : decode prog_13_method_33_code 45 = .ok (.aload_n 0, 1) := by decide +kernel
theorem d_Model_part_46 : decode prog_13_method_33_code 46 = .ok (.getfield 224, 3) := by decide +kernel
theorem d_Model_part_49 : decode prog_13_method_33_code 49 = .ok (.invokevirtual 221, 3) := by decide +kernel
theorem d_Model_part_52 : decode prog_13_method_33_code 52 = .ok (.istore_n 1, 1) := by decide +kernel
theorem d_Model_part_53 : decode prog_13_method_33_code 53 = .ok (.aload_n 0, 1) := by decide +kernel
theorem d_Model_part_54 : decode prog_13_method_33_code 54 = .ok (.getfield 224, 3) := by decide +kernel
theorem d_Model_part_57 : decode prog_13_method_33_code 57 = .ok (.aload_n 0, 1) := by decide +kernel
theorem d_Model_part_58 : decode prog_13_method_33_code 58 = .ok (.getfield 212, 3) := by decide +kernel
theorem d_Model_part_61 : decode prog_13_method_33_code 61 = .ok (.if_icmp .lt 19, 3) := by decide +kernel
theorem d_Model_part_64 : decode prog_13_method_33_code 64 = .ok (.aload_n 0, 1) := by decide +kernel
theorem d_Model_part_65 : decode prog_13_method_33_code 65 = .ok (.iconst 0, 1) := by decide +kernel
theorem d_Model_part_66 : decode prog_13_method_33_code 66 = .ok (.putfield 227, 3) := by decide +kernel
theorem d_Model_part_69 : decode prog_13_method_33_code 69 = .ok (.aload_n 0, 1) := by decide +kernel
theorem d_Model_part_70 : decode prog_13_method_33_code 70 = .ok (.aload_n 0, 1) := by decide +kernel
theorem d_Model_part_71 : decode prog_13_method_33_code 71 = .ok (.getfield 224, 3) := by decide +kernel
theorem d_Model_part_74 : decode prog_13_method_33_code 74 = .ok (.putfield 215, 3) := by decide +kernel
theorem d_Model_part_77 : decode prog_13_method_33_code 77 = .ok (.goto 289, 3) := by decide +kernel
theorem d_Model_part_80 : decode prog_13_method_33_code 80 = .ok (.iload_n 1, 1) := by decide +kernel
theorem d_Model_part_81 : decode prog_13_method_33_code 81 = .ok (.invokestatic 146, 3) := by decide +kernel
theorem d_Model_part_84 : decode prog_13_method_33_code 84 = .ok (.ifCond .eq 114, 3) := by decide +kernel
theorem d_Model_part_87 : decode prog_13_method_33_code 87 = .ok (.aload_n 0, 1) := by decide +kernel
theorem d_Model_part_88 : decode prog_13_method_33_code 88 = .ok (.aload_n 0, 1) := by decide +kernel
theorem d_Model_part_89 : decode prog_13_method_33_code 89 = .ok (.getfield 215, 3) := by decide +kernel
theorem d_Model_part_92 : decode prog_13_method_33_code 92 = .ok (.invokevirtual 221, 3) := by decide +kernel
theorem d_Model_part_95 : decode prog_13_method_33_code 95 = .ok (.invokestatic 146, 3) := by decide +kernel
theorem d_Model_part_98 : decode prog_13_method_33_code 98 = .ok (.ifCond .eq 16, 3) := by decide +kernel
theorem d_Model_part_101 : decode prog_13_method_33_code 101 = .ok (.aload_n 0, 1) := by decide +kernel
theorem d_Model_part_102 : decode prog_13_method_33_code 102 = .ok (.dup, 1) := by decide +kernel
theorem d_Model_part_103 : decode prog_13_method_33_code 103 = .ok (.getfield 215, 3) := by decide +kernel
theorem d_Model_part_106 : decode prog_13_method_33_code 106 = .ok (.iconst 1, 1) := by decide +kernel
theorem d_Model_part_107 : decode prog_13_method_33_code 107 = .ok (.iadd, 1) := by decide +kernel
theorem d_Model_part_108 : decode prog_13_method_33_code 108 = .ok (.putfield 215, 3) := by decide +kernel
theorem d_Model_part_111 : decode prog_13_method_33_code 111 = .ok (.goto (-24), 3) := by decide +kernel
theorem d_Model_part_114 : decode prog_13_method_33_code 114 = .ok (.aload_n 0, 1) := by decide +kernel
theorem d_Model_part_115 : decode prog_13_method_33_code 115 = .ok (.aload_n 0, 1) := by decide +kernel
theorem d_Model_part_116 : decode prog_13_method_33_code 116 = .ok (.bipush 65, 2) := by decide +kernel
theorem d_Model_part_118 : decode prog_13_method_33_code 118 = .ok (.bipush 78, 2) := by decide +kernel
theorem d_Model_part_120 : decode prog_13_method_33_code 120 = .ok (.bipush 68, 2) := by decide +kernel
theorem d_Model_part_122 : decode prog_13_method_33_code 122 = .ok (.iconst 0, 1) := by decide +kernel
theorem d_Model_part_123 : decode prog_13_method_33_code 123 = .ok (.invokevirtual 230, 3) := by decide +kernel
theorem d_Model_part_126 : decode prog_13_method_33_code 126 = .ok (.ifCond .eq 8, 3) := by decide +kernel
theorem d_Model_part_129 : decode prog_13_method_33_code 129 = .ok (.bipush 11, 2) := by decide +kernel
theorem d_Model_part_131 : decode prog_13_method_33_code 131 = .ok (.goto 61, 3) := by decide +kernel
theorem d_Model_part_134 : decode prog_13_method_33_code 134 = .ok (.aload_n 0, 1) := by decide +kernel
theorem d_Model_part_135 : decode prog_13_method_33_code 135 = .ok (.bipush 79, 2) := by decide +kernel
theorem d_Model_part_137 : decode prog_13_method_33_code 137 = .ok (.bipush 82, 2) := by decide +kernel
theorem d_Model_part_139 : decode prog_13_method_33_code 139 = .ok (.iconst 0, 1) := by decide +kernel
theorem d_Model_part_140 : decode prog_13_method_33_code 140 = .ok (.iconst 0, 1) := by decide +kernel
theorem d_Model_part_141 : decode prog_13_method_33_code 141 = .ok (.invokevirtual 230, 3) := by decide +kernel
theorem d_Model_part_144 : decode prog_13_method_33_code 144 = .ok (.ifCond .eq 8, 3) := by decide +kernel
theorem d_Model_part_147 : decode prog_13_method_33_code 147 = .ok (.bipush 12, 2) := by decide +kernel
theorem d_Model_part_149 : decode prog_13_method_33_code 149 = .ok (.goto 43, 3) := by decide +kernel
theorem d_Model_part_152 : decode prog_13_method_33_code 152 = .ok (.aload_n 0, 1) := by decide +kernel
theorem d_Model_part_153 : decode prog_13_method_33_code 153 = .ok (.bipush 78, 2) := by decide +kernel
theorem d_Model_part_155 : decode prog_13_method_33_code 155 = .ok (.bipush 79, 2) := by decide +kernel
theorem d_Model_part_157 : decode prog_13_method_33_code 157 = .ok (.bipush 84, 2) := by decide +kernel
theorem d_Model_part_159 : decode prog_13_method_33_code 159 = .ok (.iconst 0, 1) := by decide +kernel
theorem d_Model_part_160 : decode prog_13_method_33_code 160 = .ok (.invokevirtual 230, 3) := by decide +kernel
theorem d_Model_part_163 : decode prog_13_method_33_code 163 = .ok (.ifCond .eq 8, 3) := by decide +kernel
theorem d_Model_part_166 : decode prog_13_method_33_code 166 = .ok (.bipush 13, 2) := by decide +kernel
theorem d_Model_part_168 : decode prog_13_method_33_code 168 = .ok (.goto 24, 3) := by decide +kernel
theorem d_Model_part_171 : decode prog_13_method_33_code 171 = .ok (.aload_n 0, 1) := by decide +kernel
theorem d_Model_part_172 : decode prog_13_method_33_code 172 = .ok (.bipush 78, 2) := by decide +kernel
theorem d_Model_part_174 : decode prog_13_method_33_code 174 = .ok (.bipush 69, 2) := by decide +kernel
theorem d_Model_part_176 : decode prog_13_method_33_code 176 = .ok (.bipush 65, 2) := by decide +kernel
theorem d_Model_part_178 : decode prog_13_method_33_code 178 = .ok (.bipush 82, 2) := by decide +kernel
theorem d_Model_part_180 : decode prog_13_method_33_code 180 = .ok (.invokevirtual 230, 3) := by decide +kernel
theorem d_Model_part_183 : decode prog_13_method_33_code 183 = .ok (.ifCond .eq 8, 3) := by decide +kernel
theorem d_Model_part_186 : decode prog_13_method_33_code 186 = .ok (.bipush 14, 2) := by decide +kernel
theorem d_Model_part_188 : decode prog_13_method_33_code 188 = .ok (.goto 4, 3) := by decide +kernel
theorem d_Model_part_191 : decode prog_13_method_33_code 191 = .ok (.iconst 1, 1) := by decide +kernel
theorem d_Model_part_192 : decode prog_13_method_33_code 192 = .ok (.putfield 227, 3) := by decide +kernel
theorem d_Model_part_195 : decode prog_13_method_33_code 195 = .ok (.goto 171, 3) := by decide +kernel
theorem d_Model_part_198 : decode prog_13_method_33_code 198 = .ok (.iload_n 1, 1) := by decide +kernel
theorem d_Model_part_199 : decode prog_13_method_33_code 199 = .ok (.bipush 34, 2) := by decide +kernel
theorem d_Model_part_201 : decode prog_13_method_33_code 201 = .ok (.if_icmp .ne 74, 3) := by decide +kernel
theorem d_Model_part_204 : decode prog_13_method_33_code 204 = .ok (.aload_n 0, 1) := by decide +kernel
theorem d_Model_part_205 : decode prog_13_method_33_code 205 = .ok (.getfield 215, 3) := by decide +kernel
theorem d_Model_part_208 : decode prog_13_method_33_code 208 = .ok (.aload_n 0, 1) := by decide +kernel
theorem d_Model_part_209 : decode prog_13_method_33_code 209 = .ok (.getfield 212, 3) := by decide +kernel
theorem d_Model_part_212 : decode prog_13_method_33_code 212 = .ok (.if_icmp .ge 29, 3) := by decide +kernel
theorem d_Model_part_215 : decode prog_13_method_33_code 215 = .ok (.aload_n 0, 1) := by decide +kernel
theorem d_Model_part_216 : decode prog_13_method_33_code 216 = .ok (.aload_n 0, 1) := by decide +kernel
theorem d_Model_part_217 : decode prog_13_method_33_code 217 = .ok (.getfield 215, 3) := by decide +kernel
theorem d_Model_part_220 : decode prog_13_method_33_code 220 = .ok (.invokevirtual 221, 3) := by decide +kernel
theorem d_Model_part_223 : decode prog_13_method_33_code 223 = .ok (.bipush 34, 2) := by decide +kernel
theorem d_Model_part_225 : decode prog_13_method_33_code 225 = .ok (.if_icmp .eq 16, 3) := by decide +kernel
theorem d_Model_part_228 : decode prog_13_method_33_code 228 = .ok (.aload_n 0, 1) := by decide +kernel
theorem d_Model_part_229 : decode prog_13_method_33_code 229 = .ok (.dup, 1) := by decide +kernel
theorem d_Model_part_230 : decode prog_13_method_33_code 230 = .ok (.getfield 215, 3) := by decide +kernel
theorem d_Model_part_233 : decode prog_13_method_33_code 233 = .ok (.iconst 1, 1) := by decide +kernel
theorem d_Model_part_234 : decode prog_13_method_33_code 234 = .ok (.iadd, 1) := by decide +kernel
theorem d_Model_part_235 : decode prog_13_method_33_code 235 = .ok (.putfield 215, 3) := by decide +kernel
theorem d_Model_part_238 : decode prog_13_method_33_code 238 = .ok (.goto (-34), 3) := by decide +kernel
theorem d_Model_part_241 : decode prog_13_method_33_code 241 = .ok (.aload_n 0, 1) := by decide +kernel
theorem d_Model_part_242 : decode prog_13_method_33_code 242 = .ok (.aload_n 0, 1) := by decide +kernel
theorem d_Model_part_243 : decode prog_13_method_33_code 243 = .ok (.getfield 215, 3) := by decide +kernel
theorem d_Model_part_246 : decode prog_13_method_33_code 246 = .ok (.aload_n 0, 1) := by decide +kernel
theorem d_Model_part_247 : decode prog_13_method_33_code 247 = .ok (.getfield 212, 3) := by decide +kernel
theorem d_Model_part_250 : decode prog_13_method_33_code 250 = .ok (.if_icmp .ge 7, 3) := by decide +kernel
theorem d_Model_part_253 : decode prog_13_method_33_code 253 = .ok (.iconst 2, 1) := by decide +kernel
theorem d_Model_part_254 : decode prog_13_method_33_code 254 = .ok (.goto 5, 3) := by decide +kernel
theorem d_Model_part_257 : decode prog_13_method_33_code 257 = .ok (.bipush 15, 2) := by decide +kernel
theorem d_Model_part_259 : decode prog_13_method_33_code 259 = .ok (.putfield 227, 3) := by decide +kernel
theorem d_Model_part_262 : decode prog_13_method_33_code 262 = .ok (.aload_n 0, 1) := by decide +kernel
theorem d_Model_part_263 : decode prog_13_method_33_code 263 = .ok (.dup, 1) := by decide +kernel
theorem d_Model_part_264 : decode prog_13_method_33_code 264 = .ok (.getfield 215, 3) := by decide +kernel
theorem d_Model_part_267 : decode prog_13_method_33_code 267 = .ok (.iconst 1, 1) := by decide +kernel
theorem d_Model_part_268 : decode prog_13_method_33_code 268 = .ok (.iadd, 1) := by decide +kernel
theorem d_Model_part_269 : decode prog_13_method_33_code 269 = .ok (.putfield 215, 3) := by decide +kernel
theorem d_Model_part_272 : decode prog_13_method_33_code 272 = .ok (.goto 94, 3) := by decide +kernel
theorem d_Model_part_275 : decode prog_13_method_33_code 275 = .ok (.aload_n 0, 1) := by decide +kernel
theorem d_Model_part_276 : decode prog_13_method_33_code 276 = .ok (.iload_n 1, 1) := by decide +kernel
theorem d_Model_part_277 : decode prog_13_method_33_code 277 = .ok (.bipush 40, 2) := by decide +kernel
theorem d_Model_part_279 : decode prog_13_method_33_code 279 = .ok (.if_icmp .ne 7, 3) := by decide +kernel
theorem d_Model_part_282 : decode prog_13_method_33_code 282 = .ok (.iconst 3, 1) := by decide +kernel
theorem d_Model_part_283 : decode prog_13_method_33_code 283 = .ok (.goto 80, 3) := by decide +kernel
theorem d_Model_part_286 : decode prog_13_method_33_code 286 = .ok (.iload_n 1, 1) := by decide +kernel
theorem d_Model_part_287 : decode prog_13_method_33_code 287 = .ok (.bipush 41, 2) := by decide +kernel
theorem d_Model_part_289 : decode prog_13_method_33_code 289 = .ok (.if_icmp .ne 7, 3) := by decide +kernel
theorem d_Model_part_292 : decode prog_13_method_33_code 292 = .ok (.iconst 4, 1) := by decide +kernel
theorem d_Model_part_293 : decode prog_13_method_33_code 293 = .ok (.goto 70, 3) := by decide +kernel
theorem d_Model_part_296 : decode prog_13_method_33_code 296 = .ok (.iload_n 1, 1) := by decide +kernel
theorem d_Model_part_297 : decode prog_13_method_33_code 297 = .ok (.bipush 58, 2) := by decide +kernel
theorem d_Model_part_299 : decode prog_13_method_33_code 299 = .ok (.if_icmp .ne 7, 3) := by decide +kernel
theorem d_Model_part_302 : decode prog_13_method_33_code 302 = .ok (.iconst 5, 1) := by decide +kernel
theorem d_Model_part_303 : decode prog_13_method_33_code 303 = .ok (.goto 60, 3) := by decide +kernel
theorem d_Model_part_306 : decode prog_13_method_33_code 306 = .ok (.iload_n 1, 1) := by decide +kernel
theorem d_Model_part_307 : decode prog_13_method_33_code 307 = .ok (.bipush 45, 2) := by decide +kernel
theorem d_Model_part_309 : decode prog_13_method_33_code 309 = .ok (.if_icmp .ne 8, 3) := by decide +kernel
theorem d_Model_part_312 : decode prog_13_method_33_code 312 = .ok (.bipush 6, 2) := by decide +kernel
theorem d_Model_part_314 : decode prog_13_method_33_code 314 = .ok (.goto 49, 3) := by decide +kernel
theorem d_Model_part_317 : decode prog_13_method_33_code 317 = .ok (.iload_n 1, 1) := by decide +kernel
theorem d_Model_part_318 : decode prog_13_method_33_code 318 = .ok (.bipush 94, 2) := by decide +kernel
theorem d_Model_part_320 : decode prog_13_method_33_code 320 = .ok (.if_icmp .ne 8, 3) := by decide +kernel
theorem d_Model_part_323 : decode prog_13_method_33_code 323 = .ok (.bipush 7, 2) := by decide +kernel
theorem d_Model_part_325 : decode prog_13_method_33_code 325 = .ok (.goto 38, 3) := by decide +kernel
theorem d_Model_part_328 : decode prog_13_method_33_code 328 = .ok (.iload_n 1, 1) := by decide +kernel
theorem d_Model_part_329 : decode prog_13_method_33_code 329 = .ok (.bipush 43, 2) := by decide +kernel
theorem d_Model_part_331 : decode prog_13_method_33_code 331 = .ok (.if_icmp .ne 8, 3) := by decide +kernel
theorem d_Model_part_334 : decode prog_13_method_33_code 334 = .ok (.bipush 8, 2) := by decide +kernel
theorem d_Model_part_336 : decode prog_13_method_33_code 336 = .ok (.goto 27, 3) := by decide +kernel
theorem d_Model_part_339 : decode prog_13_method_33_code 339 = .ok (.iload_n 1, 1) := by decide +kernel
theorem d_Model_part_340 : decode prog_13_method_33_code 340 = .ok (.bipush 42, 2) := by decide +kernel
theorem d_Model_part_342 : decode prog_13_method_33_code 342 = .ok (.if_icmp .ne 8, 3) := by decide +kernel
theorem d_Model_part_345 : decode prog_13_method_33_code 345 = .ok (.bipush 9, 2) := by decide +kernel
theorem d_Model_part_347 : decode prog_13_method_33_code 347 = .ok (.goto 16, 3) := by decide +kernel
theorem d_Model_part_350 : decode prog_13_method_33_code 350 = .ok (.iload_n 1, 1) := by decide +kernel
theorem d_Model_part_351 : decode prog_13_method_33_code 351 = .ok (.bipush 44, 2) := by decide +kernel
theorem d_Model_part_353 : decode prog_13_method_33_code 353 = .ok (.if_icmp .ne 8, 3) := by decide +kernel
theorem d_Model_part_356 : decode prog_13_method_33_code 356 = .ok (.bipush 10, 2) := by decide +kernel
theorem d_Model_part_358 : decode prog_13_method_33_code 358 = .ok (.goto 5, 3) := by decide +kernel
theorem d_Model_part_361 : decode prog_13_method_33_code 361 = .ok (.bipush 15, 2) := by decide +kernel
theorem d_Model_part_363 : decode prog_13_method_33_code 363 = .ok (.putfield 227, 3) := by decide +kernel
theorem d_Model_part_366 : decode prog_13_method_33_code 366 = .ok (.return_, 1) := by decide +kernel
theorem d_Model_q_0 : decode prog_13_method_31_code 0 = .ok (.iload_n 1, 1) := by decide +kernel
theorem d_Model_q_1 : decode prog_13_method_31_code 1 = .ok (.aload_n 0, 1) := by decide +kernel
theorem d_Model_q_2 : decode prog_13_method_31_code 2 = .ok (.getfield 212, 3) := by decide +kernel
theorem d_Model_q_5 : decode prog_13_method_31_code 5 = .ok (.if_icmp .ge 12, 3) := by decide +kernel
theorem d_Model_q_8 : decode prog_13_method_31_code 8 = .ok (.aload_n 0, 1) := by decide +kernel
theorem d_Model_q_9 : decode prog_13_method_31_code 9 = .ok (.getfield 20, 3) := by decide +kernel
theorem d_Model_q_12 : decode prog_13_method_31_code 12 = .ok (.iload_n 1, 1) := by decide +kernel
theorem d_Model_q_13 : decode prog_13_method_31_code 13 = .ok (.iaload, 1) := by decide +kernel
theorem d_Model_q_14 : decode prog_13_method_31_code 14 = .ok (.goto 4, 3) := by decide +kernel
theorem d_Model_q_17 : decode prog_13_method_31_code 17 = .ok (.iconst 0, 1) := by decide +kernel
theorem d_Model_q_18 : decode prog_13_method_31_code 18 = .ok (.ireturn, 1) := by decide +kernel
theorem d_Model_spells_0 : decode prog_13_method_32_code 0 = .ok (.iload 4, 2) := by decide +kernel
theorem d_Model_spells_2 : decode prog_13_method_32_code 2 = .ok (.ifCond .le 7, 3) := by decide +kernel
theorem d_Model_spells_5 : decode prog_13_method_32_code 5 = .ok (.iconst 4, 1) := by decide +kernel
theorem d_Model_spells_6 : decode prog_13_method_32_code 6 = .ok (.goto 12, 3) := by decide +kernel
theorem d_Model_spells_9 : decode prog_13_method_32_code 9 = .ok (.iload_n 3, 1) := by decide +kernel
theorem d_Model_spells_10 : decode prog_13_method_32_code 10 = .ok (.ifCond .le 7, 3) := by decide +kernel
theorem d_Model_spells_13 : decode prog_13_method_32_code 13 = .ok (.iconst 3, 1) := by decide +kernel
theorem d_Model_spells_14 : decode prog_13_method_32_code 14 = .ok (.goto 4, 3) := by decide +kernel
theorem d_Model_spells_17 : decode prog_13_method_32_code 17 = .ok (.iconst 2, 1) := by decide +kernel
theorem d_Model_spells_18 : decode prog_13_method_32_code 18 = .ok (.istore 5, 2) := by decide +kernel
theorem d_Model_spells_20 : decode prog_13_method_32_code 20 = .ok (.aload_n 0, 1) := by decide +kernel
theorem d_Model_spells_21 : decode prog_13_method_32_code 21 = .ok (.getfield 215, 3) := by decide +kernel
theorem d_Model_spells_24 : decode prog_13_method_32_code 24 = .ok (.aload_n 0, 1) := by decide +kernel
theorem d_Model_spells_25 : decode prog_13_method_32_code 25 = .ok (.getfield 218, 3) := by decide +kernel
theorem d_Model_spells_28 : decode prog_13_method_32_code 28 = .ok (.isub, 1) := by decide +kernel
theorem d_Model_spells_29 : decode prog_13_method_32_code 29 = .ok (.iload 5, 2) := by decide +kernel
theorem d_Model_spells_31 : decode prog_13_method_32_code 31 = .ok (.if_icmp .ne 74, 3) := by decide +kernel
theorem d_Model_spells_34 : decode prog_13_method_32_code 34 = .ok (.aload_n 0, 1) := by decide +kernel
theorem d_Model_spells_35 : decode prog_13_method_32_code 35 = .ok (.aload_n 0, 1) := by decide +kernel
theorem d_Model_spells_36 : decode prog_13_method_32_code 36 = .ok (.getfield 218, 3) := by decide +kernel
theorem d_Model_spells_39 : decode prog_13_method_32_code 39 = .ok (.invokevirtual 221, 3) := by decide +kernel
theorem d_Model_spells_42 : decode prog_13_method_32_code 42 = .ok (.iload_n 1, 1) := by decide +kernel
theorem d_Model_spells_43 : decode prog_13_method_32_code 43 = .ok (.if_icmp .ne 62, 3) := by decide +kernel
theorem d_Model_spells_46 : decode prog_13_method_32_code 46 = .ok (.aload_n 0, 1) := by decide +kernel
theorem d_Model_spells_47 : decode prog_13_method_32_code 47 = .ok (.aload_n 0, 1) := by decide +kernel
theorem d_Model_spells_48 : decode prog_13_method_32_code 48 = .ok (.getfield 218, 3) := by decide +kernel
theorem d_Model_spells_51 : decode prog_13_method_32_code 51 = .ok (.iconst 1, 1) := by decide +kernel
theorem d_Model_spells_52 : decode prog_13_method_32_code 52 = .ok (.iadd, 1) := by decide +kernel
theorem d_Model_spells_53 : decode prog_13_method_32_code 53 = .ok (.invokevirtual 221, 3) := by decide +kernel
theorem d_Model_spells_56 : decode prog_13_method_32_code 56 = .ok (.iload_n 2, 1) := by decide +kernel
theorem d_Model_spells_57 : decode prog_13_method_32_code 57 = .ok (.if_icmp .ne 48, 3) := by decide +kernel
theorem d_Model_spells_60 : decode prog_13_method_32_code 60 = .ok (.iload 5, 2) := by decide +kernel
theorem d_Model_spells_62 : decode prog_13_method_32_code 62 = .ok (.iconst 3, 1) := by decide +kernel
theorem d_Model_spells_63 : decode prog_13_method_32_code 63 = .ok (.if_icmp .lt 17, 3) := by decide +kernel
theorem d_Model_spells_66 : decode prog_13_method_32_code 66 = .ok (.aload_n 0, 1) := by decide +kernel
theorem d_Model_spells_67 : decode prog_13_method_32_code 67 = .ok (.aload_n 0, 1) := by decide +kernel
theorem d_Model_spells_68 : decode prog_13_method_32_code 68 = .ok (.getfield 218, 3) := by decide +kernel
theorem d_Model_spells_71 : decode prog_13_method_32_code 71 = .ok (.iconst 2, 1) := by decide +kernel
theorem d_Model_spells_72 : decode prog_13_method_32_code 72 = .ok (.iadd, 1) := by decide +kernel
theorem d_Model_spells_73 : decode prog_13_method_32_code 73 = .ok (.invokevirtual 221, 3) := by decide +kernel
theorem d_Model_spells_76 : decode prog_13_method_32_code 76 = .ok (.iload_n 3, 1) := by decide +kernel
theorem d_Model_spells_77 : decode prog_13_method_32_code 77 = .ok (.if_icmp .ne 28, 3) := by decide +kernel
theorem d_Model_spells_80 : decode prog_13_method_32_code 80 = .ok (.iload 5, 2) := by decide +kernel
theorem d_Model_spells_82 : decode prog_13_method_32_code 82 = .ok (.iconst 4, 1) := by decide +kernel
theorem d_Model_spells_83 : decode prog_13_method_32_code 83 = .ok (.if_icmp .lt 18, 3) := by decide +kernel
theorem d_Model_spells_86 : decode prog_13_method_32_code 86 = .ok (.aload_n 0, 1) := by decide +kernel
theorem d_Model_spells_87 : decode prog_13_method_32_code 87 = .ok (.aload_n 0, 1) := by decide +kernel
theorem d_Model_spells_88 : decode prog_13_method_32_code 88 = .ok (.getfield 218, 3) := by decide +kernel
theorem d_Model_spells_91 : decode prog_13_method_32_code 91 = .ok (.iconst 3, 1) := by decide +kernel
theorem d_Model_spells_92 : decode prog_13_method_32_code 92 = .ok (.iadd, 1) := by decide +kernel
theorem d_Model_spells_93 : decode prog_13_method_32_code 93 = .ok (.invokevirtual 221, 3) := by decide +kernel
theorem d_Model_spells_96 : decode prog_13_method_32_code 96 = .ok (.iload 4, 2) := by decide +kernel
theorem d_Model_spells_98 : decode prog_13_method_32_code 98 = .ok (.if_icmp .ne 7, 3) := by decide +kernel
theorem d_Model_spells_101 : decode prog_13_method_32_code 101 = .ok (.iconst 1, 1) := by decide +kernel
theorem d_Model_spells_102 : decode prog_13_method_32_code 102 = .ok (.goto 4, 3) := by decide +kernel
theorem d_Model_spells_105 : decode prog_13_method_32_code 105 = .ok (.iconst 0, 1) := by decide +kernel
theorem d_Model_spells_106 : decode prog_13_method_32_code 106 = .ok (.ireturn, 1) := by decide +kernel
theorem d_Model_follows_0 : decode prog_13_method_49_code 0 = .ok (.aload_n 0, 1) := by decide +kernel
theorem d_Model_follows_1 : decode prog_13_method_49_code 1 = .ok (.getfield 227, 3) := by decide +kernel
theorem d_Model_follows_4 : decode prog_13_method_49_code 4 = .ok (.iconst 4, 1) := by decide +kernel
theorem d_Model_follows_5 : decode prog_13_method_49_code 5 = .ok (.if_icmp .ne 68, 3) := by decide +kernel
theorem d_Model_follows_8 : decode prog_13_method_49_code 8 = .ok (.aload_n 0, 1) := by decide +kernel
theorem d_Model_follows_9 : decode prog_13_method_49_code 9 = .ok (.iconst 1, 1) := by decide +kernel
theorem d_Model_follows_10 : decode prog_13_method_49_code 10 = .ok (.invokevirtual 281, 3) := by decide +kernel
theorem d_Model_follows_13 : decode prog_13_method_49_code 13 = .ok (.aload_n 0, 1) := by decide +kernel
theorem d_Model_follows_14 : decode prog_13_method_49_code 14 = .ok (.aload_n 0, 1) := by decide +kernel
theorem d_Model_follows_15 : decode prog_13_method_49_code 15 = .ok (.getfield 278, 3) := by decide +kernel
theorem d_Model_follows_18 : decode prog_13_method_49_code 18 = .ok (.ifCond .ne 7, 3) := by decide +kernel
theorem d_Model_follows_21 : decode prog_13_method_49_code 21 = .ok (.iconst 1, 1) := by decide +kernel
theorem d_Model_follows_22 : decode prog_13_method_49_code 22 = .ok (.goto 4, 3) := by decide +kernel
theorem d_Model_follows_25 : decode prog_13_method_49_code 25 = .ok (.iconst 0, 1) := by decide +kernel
theorem d_Model_follows_26 : decode prog_13_method_49_code 26 = .ok (.aload_n 0, 1) := by decide +kernel
theorem d_Model_follows_27 : decode prog_13_method_49_code 27 = .ok (.getfield 218, 3) := by decide +kernel
theorem d_Model_follows_30 : decode prog_13_method_49_code 30 = .ok (.invokevirtual 250, 3) := by decide +kernel
theorem d_Model_follows_33 : decode prog_13_method_49_code 33 = .ok (.aload_n 0, 1) := by decide +kernel
theorem d_Model_follows_34 : decode prog_13_method_49_code 34 = .ok (.getfield 71, 3) := by decide +kernel
theorem d_Model_follows_37 : decode prog_13_method_49_code 37 = .ok (.ifCond .lt 4, 3) := by decide +kernel
theorem d_Model_follows_40 : decode prog_13_method_49_code 40 = .ok (.return_, 1) := by decide +kernel
theorem d_Model_follows_41 : decode prog_13_method_49_code 41 = .ok (.aload_n 0, 1) := by decide +kernel
theorem d_Model_follows_42 : decode prog_13_method_49_code 42 = .ok (.dup, 1) := by decide +kernel
theorem d_Model_follows_43 : decode prog_13_method_49_code 43 = .ok (.getfield 278, 3) := by decide +kernel
theorem d_Model_follows_46 : decode prog_13_method_49_code 46 = .ok (.iconst 1, 1) := by decide +kernel
theorem d_Model_follows_47 : decode prog_13_method_49_code 47 = .ok (.isub, 1) := by decide +kernel
theorem d_Model_follows_48 : decode prog_13_method_49_code 48 = .ok (.putfield 278, 3) := by decide +kernel
theorem d_Model_follows_51 : decode prog_13_method_49_code 51 = .ok (.aload_n 0, 1) := by decide +kernel
theorem d_Model_follows_52 : decode prog_13_method_49_code 52 = .ok (.aload_n 0, 1) := by decide +kernel
theorem d_Model_follows_53 : decode prog_13_method_49_code 53 = .ok (.getfield 107, 3) := by decide +kernel
theorem d_Model_follows_56 : decode prog_13_method_49_code 56 = .ok (.aload_n 0, 1) := by decide +kernel
theorem d_Model_follows_57 : decode prog_13_method_49_code 57 = .ok (.getfield 278, 3) := by decide +kernel
theorem d_Model_follows_60 : decode prog_13_method_49_code 60 = .ok (.iaload, 1) := by decide +kernel
theorem d_Model_follows_61 : decode prog_13_method_49_code 61 = .ok (.putfield 266, 3) := by decide +kernel
theorem d_Model_follows_64 : decode prog_13_method_49_code 64 = .ok (.aload_n 0, 1) := by decide +kernel
theorem d_Model_follows_65 : decode prog_13_method_49_code 65 = .ok (.invokevirtual 275, 3) := by decide +kernel
theorem d_Model_follows_68 : decode prog_13_method_49_code 68 = .ok (.aload_n 0, 1) := by decide +kernel
theorem d_Model_follows_69 : decode prog_13_method_49_code 69 = .ok (.invokevirtual 257, 3) := by decide +kernel
theorem d_Model_follows_72 : decode prog_13_method_49_code 72 = .ok (.return_, 1) := by decide +kernel
theorem d_Model_follows_73 : decode prog_13_method_49_code 73 = .ok (.aload_n 0, 1) := by decide +kernel
theorem d_Model_follows_74 : decode prog_13_method_49_code 74 = .ok (.getfield 227, 3) := by decide +kernel
theorem d_Model_follows_77 : decode prog_13_method_49_code 77 = .ok (.bipush 12, 2) := by decide +kernel
theorem d_Model_follows_79 : decode prog_13_method_49_code 79 = .ok (.if_icmp .ne 7, 3) := by decide +kernel
theorem d_Model_follows_82 : decode prog_13_method_49_code 82 = .ok (.iconst 1, 1) := by decide +kernel
theorem d_Model_follows_83 : decode prog_13_method_49_code 83 = .ok (.goto 30, 3) := by decide +kernel
theorem d_Model_follows_86 : decode prog_13_method_49_code 86 = .ok (.aload_n 0, 1) := by decide +kernel
theorem d_Model_follows_87 : decode prog_13_method_49_code 87 = .ok (.getfield 227, 3) := by decide +kernel
theorem d_Model_follows_90 : decode prog_13_method_49_code 90 = .ok (.bipush 11, 2) := by decide +kernel
theorem d_Model_follows_92 : decode prog_13_method_49_code 92 = .ok (.if_icmp .ne 7, 3) := by decide +kernel
theorem d_Model_follows_95 : decode prog_13_method_49_code 95 = .ok (.iconst 2, 1) := by decide +kernel
theorem d_Model_follows_96 : decode prog_13_method_49_code 96 = .ok (.goto 17, 3) := by decide +kernel
theorem d_Model_follows_99 : decode prog_13_method_49_code 99 = .ok (.aload_n 0, 1) := by decide +kernel
theorem d_Model_follows_100 : decode prog_13_method_49_code 100 = .ok (.getfield 227, 3) := by decide +kernel
theorem d_Model_follows_103 : decode prog_13_method_49_code 103 = .ok (.bipush 13, 2) := by decide +kernel
theorem d_Model_follows_105 : decode prog_13_method_49_code 105 = .ok (.if_icmp .ne 7, 3) := by decide +kernel
theorem d_Model_follows_108 : decode prog_13_method_49_code 108 = .ok (.iconst 3, 1) := by decide +kernel
theorem d_Model_follows_109 : decode prog_13_method_49_code 109 = .ok (.goto 4, 3) := by decide +kernel
theorem d_Model_follows_112 : decode prog_13_method_49_code 112 = .ok (.iconst 4, 1) := by decide +kernel
theorem d_Model_follows_113 : decode prog_13_method_49_code 113 = .ok (.istore_n 1, 1) := by decide +kernel
theorem d_Model_follows_114 : decode prog_13_method_49_code 114 = .ok (.aload_n 0, 1) := by decide +kernel
theorem d_Model_follows_115 : decode prog_13_method_49_code 115 = .ok (.getfield 227, 3) := by decide +kernel
theorem d_Model_follows_118 : decode prog_13_method_49_code 118 = .ok (.iconst 3, 1) := by decide +kernel
theorem d_Model_follows_119 : decode prog_13_method_49_code 119 = .ok (.if_icmp .eq 46, 3) := by decide +kernel
theorem d_Model_follows_122 : decode prog_13_method_49_code 122 = .ok (.aload_n 0, 1) := by decide +kernel
theorem d_Model_follows_123 : decode prog_13_method_49_code 123 = .ok (.getfield 227, 3) := by decide +kernel
theorem d_Model_follows_126 : decode prog_13_method_49_code 126 = .ok (.bipush 6, 2) := by decide +kernel
theorem d_Model_follows_128 : decode prog_13_method_49_code 128 = .ok (.if_icmp .eq 37, 3) := by decide +kernel
theorem d_Model_follows_131 : decode prog_13_method_49_code 131 = .ok (.aload_n 0, 1) := by decide +kernel
theorem d_Model_follows_132 : decode prog_13_method_49_code 132 = .ok (.getfield 227, 3) := by decide +kernel
theorem d_Model_follows_135 : decode prog_13_method_49_code 135 = .ok (.bipush 7, 2) := by decide +kernel
theorem d_Model_follows_137 : decode prog_13_method_49_code 137 = .ok (.if_icmp .eq 28, 3) := by decide +kernel
theorem d_Model_follows_140 : decode prog_13_method_49_code 140 = .ok (.aload_n 0, 1) := by decide +kernel
theorem d_Model_follows_141 : decode prog_13_method_49_code 141 = .ok (.getfield 227, 3) := by decide +kernel
theorem d_Model_follows_144 : decode prog_13_method_49_code 144 = .ok (.bipush 14, 2) := by decide +kernel
theorem d_Model_follows_146 : decode prog_13_method_49_code 146 = .ok (.if_icmp .eq 19, 3) := by decide +kernel
theorem d_Model_follows_149 : decode prog_13_method_49_code 149 = .ok (.aload_n 0, 1) := by decide +kernel
theorem d_Model_follows_150 : decode prog_13_method_49_code 150 = .ok (.getfield 227, 3) := by decide +kernel
theorem d_Model_follows_153 : decode prog_13_method_49_code 153 = .ok (.iconst 1, 1) := by decide +kernel
theorem d_Model_follows_154 : decode prog_13_method_49_code 154 = .ok (.if_icmp .eq 11, 3) := by decide +kernel
theorem d_Model_follows_157 : decode prog_13_method_49_code 157 = .ok (.aload_n 0, 1) := by decide +kernel
theorem d_Model_follows_158 : decode prog_13_method_49_code 158 = .ok (.getfield 227, 3) := by decide +kernel
theorem d_Model_follows_161 : decode prog_13_method_49_code 161 = .ok (.iconst 2, 1) := by decide +kernel
theorem d_Model_follows_162 : decode prog_13_method_49_code 162 = .ok (.if_icmp .ne 7, 3) := by decide +kernel
theorem d_Model_follows_165 : decode prog_13_method_49_code 165 = .ok (.iconst 1, 1) := by decide +kernel
theorem d_Model_follows_166 : decode prog_13_method_49_code 166 = .ok (.goto 4, 3) := by decide +kernel
theorem d_Model_follows_169 : decode prog_13_method_49_code 169 = .ok (.iconst 0, 1) := by decide +kernel
theorem d_Model_follows_170 : decode prog_13_method_49_code 170 = .ok (.istore_n 2, 1) := by decide +kernel
theorem d_Model_follows_171 : decode prog_13_method_49_code 171 = .ok (.aload_n 0, 1) := by decide +kernel
theorem d_Model_follows_172 : decode prog_13_method_49_code 172 = .ok (.iload_n 1, 1) := by decide +kernel
theorem d_Model_follows_173 : decode prog_13_method_49_code 173 = .ok (.iconst 4, 1) := by decide +kernel
theorem d_Model_follows_174 : decode prog_13_method_49_code 174 = .ok (.if_icmp .ne 11, 3) := by decide +kernel
theorem d_Model_follows_177 : decode prog_13_method_49_code 177 = .ok (.iload_n 2, 1) := by decide +kernel
theorem d_Model_follows_178 : decode prog_13_method_49_code 178 = .ok (.ifCond .ne 7, 3) := by decide +kernel
theorem d_Model_follows_181 : decode prog_13_method_49_code 181 = .ok (.iconst 1, 1) := by decide +kernel
theorem d_Model_follows_182 : decode prog_13_method_49_code 182 = .ok (.goto 4, 3) := by decide +kernel
theorem d_Model_follows_185 : decode prog_13_method_49_code 185 = .ok (.iconst 0, 1) := by decide +kernel
theorem d_Model_follows_186 : decode prog_13_method_49_code 186 = .ok (.aload_n 0, 1) := by decide +kernel
theorem d_Model_follows_187 : decode prog_13_method_49_code 187 = .ok (.getfield 218, 3) := by decide +kernel
theorem d_Model_follows_190 : decode prog_13_method_49_code 190 = .ok (.invokevirtual 250, 3) := by decide +kernel
theorem d_Model_follows_193 : decode prog_13_method_49_code 193 = .ok (.aload_n 0, 1) := by decide +kernel
theorem d_Model_follows_194 : decode prog_13_method_49_code 194 = .ok (.getfield 71, 3) := by decide +kernel
theorem d_Model_follows_197 : decode prog_13_method_49_code 197 = .ok (.ifCond .lt 4, 3) := by decide +kernel
theorem d_Model_follows_200 : decode prog_13_method_49_code 200 = .ok (.return_, 1) := by decide +kernel
theorem d_Model_follows_201 : decode prog_13_method_49_code 201 = .ok (.aload_n 0, 1) := by decide +kernel
theorem d_Model_follows_202 : decode prog_13_method_49_code 202 = .ok (.iload_n 1, 1) := by decide +kernel
theorem d_Model_follows_203 : decode prog_13_method_49_code 203 = .ok (.invokevirtual 300, 3) := by decide +kernel
theorem d_Model_follows_206 : decode prog_13_method_49_code 206 = .ok (.iload_n 1, 1) := by decide +kernel
theorem d_Model_follows_207 : decode prog_13_method_49_code 207 = .ok (.iconst 4, 1) := by decide +kernel
theorem d_Model_follows_208 : decode prog_13_method_49_code 208 = .ok (.if_icmp .eq 7, 3) := by decide +kernel
theorem d_Model_follows_211 : decode prog_13_method_49_code 211 = .ok (.aload_n 0, 1) := by decide +kernel
theorem d_Model_follows_212 : decode prog_13_method_49_code 212 = .ok (.invokevirtual 257, 3) := by decide +kernel
theorem d_Model_follows_215 : decode prog_13_method_49_code 215 = .ok (.aload_n 0, 1) := by decide +kernel
theorem d_Model_follows_216 : decode prog_13_method_49_code 216 = .ok (.iconst 0, 1) := by decide +kernel
theorem d_Model_follows_217 : decode prog_13_method_49_code 217 = .ok (.putfield 297, 3) := by decide +kernel
theorem d_Model_follows_220 : decode prog_13_method_49_code 220 = .ok (.return_, 1) := by decide +kernel
theorem d_Model_reduces_0 : decode prog_13_method_45_code 0 = .ok (.aload_n 0, 1) := by decide +kernel
theorem d_Model_reduces_1 : decode prog_13_method_45_code 1 = .ok (.getfield 278, 3) := by decide +kernel
theorem d_Model_reduces_4 : decode prog_13_method_45_code 4 = .ok (.ifCond .le 75, 3) := by decide +kernel
theorem d_Model_reduces_7 : decode prog_13_method_45_code 7 = .ok (.aload_n 0, 1) := by decide +kernel
theorem d_Model_reduces_8 : decode prog_13_method_45_code 8 = .ok (.getfield 104, 3) := by decide +kernel
theorem d_Model_reduces_11 : decode prog_13_method_45_code 11 = .ok (.aload_n 0, 1) := by decide +kernel
theorem d_Model_reduces_12 : decode prog_13_method_45_code 12 = .ok (.getfield 278, 3) := by decide +kernel
theorem d_Model_reduces_15 : decode prog_13_method_45_code 15 = .ok (.iconst 1, 1) := by decide +kernel
theorem d_Model_reduces_16 : decode prog_13_method_45_code 16 = .ok (.isub, 1) := by decide +kernel
theorem d_Model_reduces_17 : decode prog_13_method_45_code 17 = .ok (.iaload, 1) := by decide +kernel
theorem d_Model_reduces_18 : decode prog_13_method_45_code 18 = .ok (.iconst 5, 1) := by decide +kernel
theorem d_Model_reduces_19 : decode prog_13_method_45_code 19 = .ok (.if_icmp .ge 60, 3) := by decide +kernel
theorem d_Model_reduces_22 : decode prog_13_method_45_code 22 = .ok (.aload_n 0, 1) := by decide +kernel
theorem d_Model_reduces_23 : decode prog_13_method_45_code 23 = .ok (.getfield 104, 3) := by decide +kernel
theorem d_Model_reduces_26 : decode prog_13_method_45_code 26 = .ok (.aload_n 0, 1) := by decide +kernel
theorem d_Model_reduces_27 : decode prog_13_method_45_code 27 = .ok (.getfield 278, 3) := by decide +kernel
theorem d_Model_reduces_30 : decode prog_13_method_45_code 30 = .ok (.iconst 1, 1) := by decide +kernel
theorem d_Model_reduces_31 : decode prog_13_method_45_code 31 = .ok (.isub, 1) := by decide +kernel
theorem d_Model_reduces_32 : decode prog_13_method_45_code 32 = .ok (.iaload, 1) := by decide +kernel
theorem d_Model_reduces_33 : decode prog_13_method_45_code 33 = .ok (.iload_n 1, 1) := by decide +kernel
theorem d_Model_reduces_34 : decode prog_13_method_45_code 34 = .ok (.if_icmp .lt 45, 3) := by decide +kernel
theorem d_Model_reduces_37 : decode prog_13_method_45_code 37 = .ok (.aload_n 0, 1) := by decide +kernel
theorem d_Model_reduces_38 : decode prog_13_method_45_code 38 = .ok (.dup, 1) := by decide +kernel
theorem d_Model_reduces_39 : decode prog_13_method_45_code 39 = .ok (.getfield 278, 3) := by decide +kernel
theorem d_Model_reduces_42 : decode prog_13_method_45_code 42 = .ok (.iconst 1, 1) := by decide +kernel
theorem d_Model_reduces_43 : decode prog_13_method_45_code 43 = .ok (.isub, 1) := by decide +kernel
theorem d_Model_reduces_44 : decode prog_13_method_45_code 44 = .ok (.putfield 278, 3) := by decide +kernel
theorem d_Model_reduces_47 : decode prog_13_method_45_code 47 = .ok (.aload_n 0, 1) := by decide +kernel
theorem d_Model_reduces_48 : decode prog_13_method_45_code 48 = .ok (.getfield 101, 3) := by decide +kernel
theorem d_Model_reduces_51 : decode prog_13_method_45_code 51 = .ok (.aload_n 0, 1) := by decide +kernel
theorem d_Model_reduces_52 : decode prog_13_method_45_code 52 = .ok (.getfield 272, 3) := by decide +kernel
theorem d_Model_reduces_55 : decode prog_13_method_45_code 55 = .ok (.aload_n 0, 1) := by decide +kernel
theorem d_Model_reduces_56 : decode prog_13_method_45_code 56 = .ok (.getfield 104, 3) := by decide +kernel
theorem d_Model_reduces_59 : decode prog_13_method_45_code 59 = .ok (.aload_n 0, 1) := by decide +kernel
theorem d_Model_reduces_60 : decode prog_13_method_45_code 60 = .ok (.getfield 278, 3) := by decide +kernel
theorem d_Model_reduces_63 : decode prog_13_method_45_code 63 = .ok (.iaload, 1) := by decide +kernel
theorem d_Model_reduces_64 : decode prog_13_method_45_code 64 = .ok (.ineg, 1) := by decide +kernel
theorem d_Model_reduces_65 : decode prog_13_method_45_code 65 = .ok (.iastore, 1) := by decide +kernel
theorem d_Model_reduces_66 : decode prog_13_method_45_code 66 = .ok (.aload_n 0, 1) := by decide +kernel
theorem d_Model_reduces_67 : decode prog_13_method_45_code 67 = .ok (.dup, 1) := by decide +kernel
theorem d_Model_reduces_68 : decode prog_13_method_45_code 68 = .ok (.getfield 272, 3) := by decide +kernel
theorem d_Model_reduces_71 : decode prog_13_method_45_code 71 = .ok (.iconst 1, 1) := by decide +kernel
theorem d_Model_reduces_72 : decode prog_13_method_45_code 72 = .ok (.iadd, 1) := by decide +kernel
theorem d_Model_reduces_73 : decode prog_13_method_45_code 73 = .ok (.putfield 272, 3) := by decide +kernel
theorem d_Model_reduces_76 : decode prog_13_method_45_code 76 = .ok (.goto (-76), 3) := by decide +kernel
theorem d_Model_reduces_79 : decode prog_13_method_45_code 79 = .ok (.return_, 1) := by decide +kernel
theorem d_Model_wrongs_0 : decode prog_13_method_35_code 0 = .ok (.iload_n 1, 1) := by decide +kernel
theorem d_Model_wrongs_1 : decode prog_13_method_35_code 1 = .ok (.ifCond .eq 15, 3) := by decide +kernel
theorem d_Model_wrongs_4 : decode prog_13_method_35_code 4 = .ok (.aload_n 0, 1) := by decide +kernel
theorem d_Model_wrongs_5 : decode prog_13_method_35_code 5 = .ok (.getfield 71, 3) := by decide +kernel
theorem d_Model_wrongs_8 : decode prog_13_method_35_code 8 = .ok (.ifCond .ge 8, 3) := by decide +kernel
theorem d_Model_wrongs_11 : decode prog_13_method_35_code 11 = .ok (.aload_n 0, 1) := by decide +kernel
theorem d_Model_wrongs_12 : decode prog_13_method_35_code 12 = .ok (.iload_n 2, 1) := by decide +kernel
theorem d_Model_wrongs_13 : decode prog_13_method_35_code 13 = .ok (.putfield 71, 3) := by decide +kernel
theorem d_Model_wrongs_16 : decode prog_13_method_35_code 16 = .ok (.return_, 1) := by decide +kernel
theorem d_Model_closesFilters_0 : decode prog_13_method_43_code 0 = .ok (.aload_n 0, 1) := by decide +kernel
theorem d_Model_closesFilters_1 : decode prog_13_method_43_code 1 = .ok (.getfield 278, 3) := by decide +kernel
theorem d_Model_closesFilters_4 : decode prog_13_method_43_code 4 = .ok (.ifCond .le 45, 3) := by decide +kernel
theorem d_Model_closesFilters_7 : decode prog_13_method_43_code 7 = .ok (.aload_n 0, 1) := by decide +kernel
theorem d_Model_closesFilters_8 : decode prog_13_method_43_code 8 = .ok (.getfield 104, 3) := by decide +kernel
theorem d_Model_closesFilters_11 : decode prog_13_method_43_code 11 = .ok (.aload_n 0, 1) := by decide +kernel
theorem d_Model_closesFilters_12 : decode prog_13_method_43_code 12 = .ok (.getfield 278, 3) := by decide +kernel
theorem d_Model_closesFilters_15 : decode prog_13_method_43_code 15 = .ok (.iconst 1, 1) := by decide +kernel
theorem d_Model_closesFilters_16 : decode prog_13_method_43_code 16 = .ok (.isub, 1) := by decide +kernel
theorem d_Model_closesFilters_17 : decode prog_13_method_43_code 17 = .ok (.iaload, 1) := by decide +kernel
theorem d_Model_closesFilters_18 : decode prog_13_method_43_code 18 = .ok (.bipush 6, 2) := by decide +kernel
theorem d_Model_closesFilters_20 : decode prog_13_method_43_code 20 = .ok (.if_icmp .ne 29, 3) := by decide +kernel
theorem d_Model_closesFilters_23 : decode prog_13_method_43_code 23 = .ok (.aload_n 0, 1) := by decide +kernel
theorem d_Model_closesFilters_24 : decode prog_13_method_43_code 24 = .ok (.dup, 1) := by decide +kernel
theorem d_Model_closesFilters_25 : decode prog_13_method_43_code 25 = .ok (.getfield 278, 3) := by decide +kernel
theorem d_Model_closesFilters_28 : decode prog_13_method_43_code 28 = .ok (.iconst 1, 1) := by decide +kernel
theorem d_Model_closesFilters_29 : decode prog_13_method_43_code 29 = .ok (.isub, 1) := by decide +kernel
theorem d_Model_closesFilters_30 : decode prog_13_method_43_code 30 = .ok (.putfield 278, 3) := by decide +kernel
theorem d_Model_closesFilters_33 : decode prog_13_method_43_code 33 = .ok (.aload_n 0, 1) := by decide +kernel
theorem d_Model_closesFilters_34 : decode prog_13_method_43_code 34 = .ok (.aload_n 0, 1) := by decide +kernel
theorem d_Model_closesFilters_35 : decode prog_13_method_43_code 35 = .ok (.getfield 107, 3) := by decide +kernel
theorem d_Model_closesFilters_38 : decode prog_13_method_43_code 38 = .ok (.aload_n 0, 1) := by decide +kernel
theorem d_Model_closesFilters_39 : decode prog_13_method_43_code 39 = .ok (.getfield 278, 3) := by decide +kernel
theorem d_Model_closesFilters_42 : decode prog_13_method_43_code 42 = .ok (.iaload, 1) := by decide +kernel
theorem d_Model_closesFilters_43 : decode prog_13_method_43_code 43 = .ok (.putfield 266, 3) := by decide +kernel
theorem d_Model_closesFilters_46 : decode prog_13_method_43_code 46 = .ok (.goto (-46), 3) := by decide +kernel
theorem d_Model_closesFilters_49 : decode prog_13_method_43_code 49 = .ok (.return_, 1) := by decide +kernel
theorem d_Model_next_0 : decode prog_13_method_34_code 0 = .ok (.aload_n 0, 1) := by decide +kernel
theorem d_Model_next_1 : decode prog_13_method_34_code 1 = .ok (.aload_n 0, 1) := by decide +kernel
theorem d_Model_next_2 : decode prog_13_method_34_code 2 = .ok (.getfield 215, 3) := by decide +kernel
theorem d_Model_next_5 : decode prog_13_method_34_code 5 = .ok (.putfield 224, 3) := by decide +kernel
theorem d_Model_next_8 : decode prog_13_method_34_code 8 = .ok (.aload_n 0, 1) := by decide +kernel
theorem d_Model_next_9 : decode prog_13_method_34_code 9 = .ok (.invokevirtual 234, 3) := by decide +kernel
theorem d_Model_next_12 : decode prog_13_method_34_code 12 = .ok (.return_, 1) := by decide +kernel
theorem d_Model_joins_0 : decode prog_13_method_46_code 0 = .ok (.aload_n 0, 1) := by decide +kernel
theorem d_Model_joins_1 : decode prog_13_method_46_code 1 = .ok (.iload_n 1, 1) := by decide +kernel
theorem d_Model_joins_2 : decode prog_13_method_46_code 2 = .ok (.invokevirtual 281, 3) := by decide +kernel
theorem d_Model_joins_5 : decode prog_13_method_46_code 5 = .ok (.aload_n 0, 1) := by decide +kernel
theorem d_Model_joins_6 : decode prog_13_method_46_code 6 = .ok (.iload_n 1, 1) := by decide +kernel
theorem d_Model_joins_7 : decode prog_13_method_46_code 7 = .ok (.invokevirtual 285, 3) := by decide +kernel
theorem d_Model_joins_10 : decode prog_13_method_46_code 10 = .ok (.return_, 1) := by decide +kernel
theorem d_Model_pushes_0 : decode prog_13_method_42_code 0 = .ok (.aload_n 0, 1) := by decide +kernel
theorem d_Model_pushes_1 : decode prog_13_method_42_code 1 = .ok (.getfield 104, 3) := by decide +kernel
theorem d_Model_pushes_4 : decode prog_13_method_42_code 4 = .ok (.aload_n 0, 1) := by decide +kernel
theorem d_Model_pushes_5 : decode prog_13_method_42_code 5 = .ok (.getfield 278, 3) := by decide +kernel
theorem d_Model_pushes_8 : decode prog_13_method_42_code 8 = .ok (.iload_n 1, 1) := by decide +kernel
theorem d_Model_pushes_9 : decode prog_13_method_42_code 9 = .ok (.iastore, 1) := by decide +kernel
theorem d_Model_pushes_10 : decode prog_13_method_42_code 10 = .ok (.aload_n 0, 1) := by decide +kernel
theorem d_Model_pushes_11 : decode prog_13_method_42_code 11 = .ok (.getfield 107, 3) := by decide +kernel
theorem d_Model_pushes_14 : decode prog_13_method_42_code 14 = .ok (.aload_n 0, 1) := by decide +kernel
theorem d_Model_pushes_15 : decode prog_13_method_42_code 15 = .ok (.getfield 278, 3) := by decide +kernel
theorem d_Model_pushes_18 : decode prog_13_method_42_code 18 = .ok (.aload_n 0, 1) := by decide +kernel
theorem d_Model_pushes_19 : decode prog_13_method_42_code 19 = .ok (.getfield 266, 3) := by decide +kernel
theorem d_Model_pushes_22 : decode prog_13_method_42_code 22 = .ok (.iastore, 1) := by decide +kernel
theorem d_Model_pushes_23 : decode prog_13_method_42_code 23 = .ok (.aload_n 0, 1) := by decide +kernel
theorem d_Model_pushes_24 : decode prog_13_method_42_code 24 = .ok (.dup, 1) := by decide +kernel
theorem d_Model_pushes_25 : decode prog_13_method_42_code 25 = .ok (.getfield 278, 3) := by decide +kernel
theorem d_Model_pushes_28 : decode prog_13_method_42_code 28 = .ok (.iconst 1, 1) := by decide +kernel
theorem d_Model_pushes_29 : decode prog_13_method_42_code 29 = .ok (.iadd, 1) := by decide +kernel
theorem d_Model_pushes_30 : decode prog_13_method_42_code 30 = .ok (.putfield 278, 3) := by decide +kernel
theorem d_Model_pushes_33 : decode prog_13_method_42_code 33 = .ok (.return_, 1) := by decide +kernel
theorem d_Model_atom_0 : decode prog_13_method_48_code 0 = .ok (.aload_n 0, 1) := by decide +kernel
theorem d_Model_atom_1 : decode prog_13_method_48_code 1 = .ok (.getfield 227, 3) := by decide +kernel
theorem d_Model_atom_4 : decode prog_13_method_48_code 4 = .ok (.iconst 3, 1) := by decide +kernel
theorem d_Model_atom_5 : decode prog_13_method_48_code 5 = .ok (.if_icmp .ne 37, 3) := by decide +kernel
theorem d_Model_atom_8 : decode prog_13_method_48_code 8 = .ok (.aload_n 0, 1) := by decide +kernel
theorem d_Model_atom_9 : decode prog_13_method_48_code 9 = .ok (.aload_n 0, 1) := by decide +kernel
theorem d_Model_atom_10 : decode prog_13_method_48_code 10 = .ok (.invokevirtual 288, 3) := by decide +kernel
theorem d_Model_atom_13 : decode prog_13_method_48_code 13 = .ok (.bipush 8, 2) := by decide +kernel
theorem d_Model_atom_15 : decode prog_13_method_48_code 15 = .ok (.if_icmp .ne 7, 3) := by decide +kernel
theorem d_Model_atom_18 : decode prog_13_method_48_code 18 = .ok (.iconst 1, 1) := by decide +kernel
theorem d_Model_atom_19 : decode prog_13_method_48_code 19 = .ok (.goto 4, 3) := by decide +kernel
theorem d_Model_atom_22 : decode prog_13_method_48_code 22 = .ok (.iconst 0, 1) := by decide +kernel
theorem d_Model_atom_23 : decode prog_13_method_48_code 23 = .ok (.aload_n 0, 1) := by decide +kernel
theorem d_Model_atom_24 : decode prog_13_method_48_code 24 = .ok (.getfield 218, 3) := by decide +kernel
theorem d_Model_atom_27 : decode prog_13_method_48_code 27 = .ok (.invokevirtual 250, 3) := by decide +kernel
theorem d_Model_atom_30 : decode prog_13_method_48_code 30 = .ok (.aload_n 0, 1) := by decide +kernel
theorem d_Model_atom_31 : decode prog_13_method_48_code 31 = .ok (.iconst 5, 1) := by decide +kernel
theorem d_Model_atom_32 : decode prog_13_method_48_code 32 = .ok (.invokevirtual 285, 3) := by decide +kernel
theorem d_Model_atom_35 : decode prog_13_method_48_code 35 = .ok (.aload_n 0, 1) := by decide +kernel
theorem d_Model_atom_36 : decode prog_13_method_48_code 36 = .ok (.invokevirtual 257, 3) := by decide +kernel
theorem d_Model_atom_39 : decode prog_13_method_48_code 39 = .ok (.goto 72, 3) := by decide +kernel
theorem d_Model_atom_42 : decode prog_13_method_48_code 42 = .ok (.aload_n 0, 1) := by decide +kernel
theorem d_Model_atom_43 : decode prog_13_method_48_code 43 = .ok (.getfield 227, 3) := by decide +kernel
theorem d_Model_atom_46 : decode prog_13_method_48_code 46 = .ok (.bipush 6, 2) := by decide +kernel
theorem d_Model_atom_48 : decode prog_13_method_48_code 48 = .ok (.if_icmp .eq 10, 3) := by decide +kernel
theorem d_Model_atom_51 : decode prog_13_method_48_code 51 = .ok (.aload_n 0, 1) := by decide +kernel
theorem d_Model_atom_52 : decode prog_13_method_48_code 52 = .ok (.invokevirtual 237, 3) := by decide +kernel
theorem d_Model_atom_55 : decode prog_13_method_48_code 55 = .ok (.ifCond .eq 10, 3) := by decide +kernel
theorem d_Model_atom_58 : decode prog_13_method_48_code 58 = .ok (.aload_n 0, 1) := by decide +kernel
theorem d_Model_atom_59 : decode prog_13_method_48_code 59 = .ok (.invokevirtual 291, 3) := by decide +kernel
theorem d_Model_atom_62 : decode prog_13_method_48_code 62 = .ok (.goto 49, 3) := by decide +kernel
theorem d_Model_atom_65 : decode prog_13_method_48_code 65 = .ok (.aload_n 0, 1) := by decide +kernel
theorem d_Model_atom_66 : decode prog_13_method_48_code 66 = .ok (.getfield 227, 3) := by decide +kernel
theorem d_Model_atom_69 : decode prog_13_method_48_code 69 = .ok (.bipush 7, 2) := by decide +kernel
theorem d_Model_atom_71 : decode prog_13_method_48_code 71 = .ok (.if_icmp .eq 19, 3) := by decide +kernel
theorem d_Model_atom_74 : decode prog_13_method_48_code 74 = .ok (.aload_n 0, 1) := by decide +kernel
theorem d_Model_atom_75 : decode prog_13_method_48_code 75 = .ok (.getfield 227, 3) := by decide +kernel
theorem d_Model_atom_78 : decode prog_13_method_48_code 78 = .ok (.bipush 14, 2) := by decide +kernel
theorem d_Model_atom_80 : decode prog_13_method_48_code 80 = .ok (.if_icmp .eq 10, 3) := by decide +kernel
theorem d_Model_atom_83 : decode prog_13_method_48_code 83 = .ok (.aload_n 0, 1) := by decide +kernel
theorem d_Model_atom_84 : decode prog_13_method_48_code 84 = .ok (.invokevirtual 244, 3) := by decide +kernel
theorem d_Model_atom_87 : decode prog_13_method_48_code 87 = .ok (.ifCond .eq 15, 3) := by decide +kernel
theorem d_Model_atom_90 : decode prog_13_method_48_code 90 = .ok (.aload_n 0, 1) := by decide +kernel
theorem d_Model_atom_91 : decode prog_13_method_48_code 91 = .ok (.invokevirtual 294, 3) := by decide +kernel
theorem d_Model_atom_94 : decode prog_13_method_48_code 94 = .ok (.aload_n 0, 1) := by decide +kernel
theorem d_Model_atom_95 : decode prog_13_method_48_code 95 = .ok (.iconst 1, 1) := by decide +kernel
theorem d_Model_atom_96 : decode prog_13_method_48_code 96 = .ok (.putfield 297, 3) := by decide +kernel
theorem d_Model_atom_99 : decode prog_13_method_48_code 99 = .ok (.goto 12, 3) := by decide +kernel
theorem d_Model_atom_102 : decode prog_13_method_48_code 102 = .ok (.aload_n 0, 1) := by decide +kernel
theorem d_Model_atom_103 : decode prog_13_method_48_code 103 = .ok (.iconst 1, 1) := by decide +kernel
theorem d_Model_atom_104 : decode prog_13_method_48_code 104 = .ok (.aload_n 0, 1) := by decide +kernel
theorem d_Model_atom_105 : decode prog_13_method_48_code 105 = .ok (.getfield 218, 3) := by decide +kernel
theorem d_Model_atom_108 : decode prog_13_method_48_code 108 = .ok (.invokevirtual 250, 3) := by decide +kernel
theorem d_Model_atom_111 : decode prog_13_method_48_code 111 = .ok (.return_, 1) := by decide +kernel
theorem d_Model_depth_0 : decode prog_13_method_44_code 0 = .ok (.iconst 0, 1) := by decide +kernel
theorem d_Model_depth_1 : decode prog_13_method_44_code 1 = .ok (.istore_n 1, 1) := by decide +kernel
theorem d_Model_depth_2 : decode prog_13_method_44_code 2 = .ok (.iconst 0, 1) := by decide +kernel
theorem d_Model_depth_3 : decode prog_13_method_44_code 3 = .ok (.istore_n 2, 1) := by decide +kernel
theorem d_Model_depth_4 : decode prog_13_method_44_code 4 = .ok (.iload_n 2, 1) := by decide +kernel
theorem d_Model_depth_5 : decode prog_13_method_44_code 5 = .ok (.aload_n 0, 1) := by decide +kernel
theorem d_Model_depth_6 : decode prog_13_method_44_code 6 = .ok (.getfield 278, 3) := by decide +kernel
theorem d_Model_depth_9 : decode prog_13_method_44_code 9 = .ok (.if_icmp .ge 22, 3) := by decide +kernel
theorem d_Model_depth_12 : decode prog_13_method_44_code 12 = .ok (.aload_n 0, 1) := by decide +kernel
theorem d_Model_depth_13 : decode prog_13_method_44_code 13 = .ok (.getfield 104, 3) := by decide +kernel
theorem d_Model_depth_16 : decode prog_13_method_44_code 16 = .ok (.iload_n 2, 1) := by decide +kernel
theorem d_Model_depth_17 : decode prog_13_method_44_code 17 = .ok (.iaload, 1) := by decide +kernel
theorem d_Model_depth_18 : decode prog_13_method_44_code 18 = .ok (.iconst 5, 1) := by decide +kernel
theorem d_Model_depth_19 : decode prog_13_method_44_code 19 = .ok (.if_icmp .lt 6, 3) := by decide +kernel
theorem d_Model_depth_22 : decode prog_13_method_44_code 22 = .ok (.iinc 1 1, 3) := by decide +kernel
theorem d_Model_depth_25 : decode prog_13_method_44_code 25 = .ok (.iinc 2 1, 3) := by decide +kernel
theorem d_Model_depth_28 : decode prog_13_method_44_code 28 = .ok (.goto (-24), 3) := by decide +kernel
theorem d_Model_depth_31 : decode prog_13_method_44_code 31 = .ok (.iload_n 1, 1) := by decide +kernel
theorem d_Model_depth_32 : decode prog_13_method_44_code 32 = .ok (.ireturn, 1) := by decide +kernel
theorem d_Model_isFilter_0 : decode prog_13_method_36_code 0 = .ok (.aload_n 0, 1) := by decide +kernel
theorem d_Model_isFilter_1 : decode prog_13_method_36_code 1 = .ok (.getfield 227, 3) := by decide +kernel
theorem d_Model_isFilter_4 : decode prog_13_method_36_code 4 = .ok (.iconst 1, 1) := by decide +kernel
theorem d_Model_isFilter_5 : decode prog_13_method_36_code 5 = .ok (.if_icmp .ne 20, 3) := by decide +kernel
theorem d_Model_isFilter_8 : decode prog_13_method_36_code 8 = .ok (.aload_n 0, 1) := by decide +kernel
theorem d_Model_isFilter_9 : decode prog_13_method_36_code 9 = .ok (.aload_n 0, 1) := by decide +kernel
theorem d_Model_isFilter_10 : decode prog_13_method_36_code 10 = .ok (.getfield 215, 3) := by decide +kernel
theorem d_Model_isFilter_13 : decode prog_13_method_36_code 13 = .ok (.invokevirtual 221, 3) := by decide +kernel
theorem d_Model_isFilter_16 : decode prog_13_method_36_code 16 = .ok (.bipush 58, 2) := by decide +kernel
theorem d_Model_isFilter_18 : decode prog_13_method_36_code 18 = .ok (.if_icmp .ne 7, 3) := by decide +kernel
theorem d_Model_isFilter_21 : decode prog_13_method_36_code 21 = .ok (.iconst 1, 1) := by decide +kernel
theorem d_Model_isFilter_22 : decode prog_13_method_36_code 22 = .ok (.goto 4, 3) := by decide +kernel
theorem d_Model_isFilter_25 : decode prog_13_method_36_code 25 = .ok (.iconst 0, 1) := by decide +kernel
theorem d_Model_isFilter_26 : decode prog_13_method_36_code 26 = .ok (.ireturn, 1) := by decide +kernel
theorem d_Model_filter_0 : decode prog_13_method_47_code 0 = .ok (.aload_n 0, 1) := by decide +kernel
theorem d_Model_filter_1 : decode prog_13_method_47_code 1 = .ok (.getfield 218, 3) := by decide +kernel
theorem d_Model_filter_4 : decode prog_13_method_47_code 4 = .ok (.istore_n 1, 1) := by decide +kernel
theorem d_Model_filter_5 : decode prog_13_method_47_code 5 = .ok (.aload_n 0, 1) := by decide +kernel
theorem d_Model_filter_6 : decode prog_13_method_47_code 6 = .ok (.getfield 227, 3) := by decide +kernel
theorem d_Model_filter_9 : decode prog_13_method_47_code 9 = .ok (.bipush 6, 2) := by decide +kernel
theorem d_Model_filter_11 : decode prog_13_method_47_code 11 = .ok (.if_icmp .ne 7, 3) := by decide +kernel
theorem d_Model_filter_14 : decode prog_13_method_47_code 14 = .ok (.iconst 1, 1) := by decide +kernel
theorem d_Model_filter_15 : decode prog_13_method_47_code 15 = .ok (.goto 4, 3) := by decide +kernel
theorem d_Model_filter_18 : decode prog_13_method_47_code 18 = .ok (.iconst 0, 1) := by decide +kernel
theorem d_Model_filter_19 : decode prog_13_method_47_code 19 = .ok (.istore_n 2, 1) := by decide +kernel
theorem d_Model_filter_20 : decode prog_13_method_47_code 20 = .ok (.iload_n 2, 1) := by decide +kernel
theorem d_Model_filter_21 : decode prog_13_method_47_code 21 = .ok (.ifCond .eq 7, 3) := by decide +kernel
theorem d_Model_filter_24 : decode prog_13_method_47_code 24 = .ok (.aload_n 0, 1) := by decide +kernel
theorem d_Model_filter_25 : decode prog_13_method_47_code 25 = .ok (.invokevirtual 257, 3) := by decide +kernel
theorem d_Model_filter_28 : decode prog_13_method_47_code 28 = .ok (.aload_n 0, 1) := by decide +kernel
theorem d_Model_filter_29 : decode prog_13_method_47_code 29 = .ok (.invokevirtual 237, 3) := by decide +kernel
theorem d_Model_filter_32 : decode prog_13_method_47_code 32 = .ok (.ifCond .eq 46, 3) := by decide +kernel
theorem d_Model_filter_35 : decode prog_13_method_47_code 35 = .ok (.aload_n 0, 1) := by decide +kernel
theorem d_Model_filter_36 : decode prog_13_method_47_code 36 = .ok (.getfield 215, 3) := by decide +kernel
theorem d_Model_filter_39 : decode prog_13_method_47_code 39 = .ok (.aload_n 0, 1) := by decide +kernel
theorem d_Model_filter_40 : decode prog_13_method_47_code 40 = .ok (.getfield 218, 3) := by decide +kernel
theorem d_Model_filter_43 : decode prog_13_method_47_code 43 = .ok (.isub, 1) := by decide +kernel
theorem d_Model_filter_44 : decode prog_13_method_47_code 44 = .ok (.iconst 1, 1) := by decide +kernel
theorem d_Model_filter_45 : decode prog_13_method_47_code 45 = .ok (.if_icmp .ne 33, 3) := by decide +kernel
theorem d_Model_filter_48 : decode prog_13_method_47_code 48 = .ok (.aload_n 0, 1) := by decide +kernel
theorem d_Model_filter_49 : decode prog_13_method_47_code 49 = .ok (.aload_n 0, 1) := by decide +kernel
theorem d_Model_filter_50 : decode prog_13_method_47_code 50 = .ok (.getfield 218, 3) := by decide +kernel
theorem d_Model_filter_53 : decode prog_13_method_47_code 53 = .ok (.invokevirtual 221, 3) := by decide +kernel
theorem d_Model_filter_56 : decode prog_13_method_47_code 56 = .ok (.bipush 97, 2) := by decide +kernel
theorem d_Model_filter_58 : decode prog_13_method_47_code 58 = .ok (.if_icmp .eq 16, 3) := by decide +kernel
theorem d_Model_filter_61 : decode prog_13_method_47_code 61 = .ok (.aload_n 0, 1) := by decide +kernel
theorem d_Model_filter_62 : decode prog_13_method_47_code 62 = .ok (.aload_n 0, 1) := by decide +kernel
theorem d_Model_filter_63 : decode prog_13_method_47_code 63 = .ok (.getfield 218, 3) := by decide +kernel
theorem d_Model_filter_66 : decode prog_13_method_47_code 66 = .ok (.invokevirtual 221, 3) := by decide +kernel
theorem d_Model_filter_69 : decode prog_13_method_47_code 69 = .ok (.bipush 98, 2) := by decide +kernel
theorem d_Model_filter_71 : decode prog_13_method_47_code 71 = .ok (.if_icmp .ne 7, 3) := by decide +kernel
theorem d_Model_filter_74 : decode prog_13_method_47_code 74 = .ok (.iconst 1, 1) := by decide +kernel
theorem d_Model_filter_75 : decode prog_13_method_47_code 75 = .ok (.goto 4, 3) := by decide +kernel
theorem d_Model_filter_78 : decode prog_13_method_47_code 78 = .ok (.iconst 0, 1) := by decide +kernel
theorem d_Model_filter_79 : decode prog_13_method_47_code 79 = .ok (.istore_n 3, 1) := by decide +kernel
theorem d_Model_filter_80 : decode prog_13_method_47_code 80 = .ok (.aload_n 0, 1) := by decide +kernel
theorem d_Model_filter_81 : decode prog_13_method_47_code 81 = .ok (.iload_n 3, 1) := by decide +kernel
theorem d_Model_filter_82 : decode prog_13_method_47_code 82 = .ok (.ifCond .ne 7, 3) := by decide +kernel
theorem d_Model_filter_85 : decode prog_13_method_47_code 85 = .ok (.iconst 1, 1) := by decide +kernel
theorem d_Model_filter_86 : decode prog_13_method_47_code 86 = .ok (.goto 4, 3) := by decide +kernel
theorem d_Model_filter_89 : decode prog_13_method_47_code 89 = .ok (.iconst 0, 1) := by decide +kernel
theorem d_Model_filter_90 : decode prog_13_method_47_code 90 = .ok (.aload_n 0, 1) := by decide +kernel
theorem d_Model_filter_91 : decode prog_13_method_47_code 91 = .ok (.getfield 218, 3) := by decide +kernel
theorem d_Model_filter_94 : decode prog_13_method_47_code 94 = .ok (.invokevirtual 250, 3) := by decide +kernel
theorem d_Model_filter_97 : decode prog_13_method_47_code 97 = .ok (.aload_n 0, 1) := by decide +kernel
theorem d_Model_filter_98 : decode prog_13_method_47_code 98 = .ok (.aload_n 0, 1) := by decide +kernel
theorem d_Model_filter_99 : decode prog_13_method_47_code 99 = .ok (.invokevirtual 288, 3) := by decide +kernel
theorem d_Model_filter_102 : decode prog_13_method_47_code 102 = .ok (.bipush 8, 2) := by decide +kernel
theorem d_Model_filter_104 : decode prog_13_method_47_code 104 = .ok (.if_icmp .ne 7, 3) := by decide +kernel
theorem d_Model_filter_107 : decode prog_13_method_47_code 107 = .ok (.iconst 1, 1) := by decide +kernel
theorem d_Model_filter_108 : decode prog_13_method_47_code 108 = .ok (.goto 4, 3) := by decide +kernel
theorem d_Model_filter_111 : decode prog_13_method_47_code 111 = .ok (.iconst 0, 1) := by decide +kernel
theorem d_Model_filter_112 : decode prog_13_method_47_code 112 = .ok (.iload_n 1, 1) := by decide +kernel
theorem d_Model_filter_113 : decode prog_13_method_47_code 113 = .ok (.invokevirtual 250, 3) := by decide +kernel
theorem d_Model_filter_116 : decode prog_13_method_47_code 116 = .ok (.aload_n 0, 1) := by decide +kernel
theorem d_Model_filter_117 : decode prog_13_method_47_code 117 = .ok (.getfield 71, 3) := by decide +kernel
theorem d_Model_filter_120 : decode prog_13_method_47_code 120 = .ok (.ifCond .lt 4, 3) := by decide +kernel
theorem d_Model_filter_123 : decode prog_13_method_47_code 123 = .ok (.return_, 1) := by decide +kernel
theorem d_Model_filter_124 : decode prog_13_method_47_code 124 = .ok (.aload_n 0, 1) := by decide +kernel
theorem d_Model_filter_125 : decode prog_13_method_47_code 125 = .ok (.bipush 6, 2) := by decide +kernel
theorem d_Model_filter_127 : decode prog_13_method_47_code 127 = .ok (.invokevirtual 285, 3) := by decide +kernel
theorem d_Model_filter_130 : decode prog_13_method_47_code 130 = .ok (.aload_n 0, 1) := by decide +kernel
theorem d_Model_filter_131 : decode prog_13_method_47_code 131 = .ok (.dup, 1) := by decide +kernel
theorem d_Model_filter_132 : decode prog_13_method_47_code 132 = .ok (.getfield 266, 3) := by decide +kernel
theorem d_Model_filter_135 : decode prog_13_method_47_code 135 = .ok (.aload_n 0, 1) := by decide +kernel
theorem d_Model_filter_136 : decode prog_13_method_47_code 136 = .ok (.aload_n 0, 1) := by decide +kernel
theorem d_Model_filter_137 : decode prog_13_method_47_code 137 = .ok (.getfield 218, 3) := by decide +kernel
theorem d_Model_filter_140 : decode prog_13_method_47_code 140 = .ok (.invokevirtual 221, 3) := by decide +kernel
theorem d_Model_filter_143 : decode prog_13_method_47_code 143 = .ok (.bipush 97, 2) := by decide +kernel
theorem d_Model_filter_145 : decode prog_13_method_47_code 145 = .ok (.if_icmp .ne 7, 3) := by decide +kernel
theorem d_Model_filter_148 : decode prog_13_method_47_code 148 = .ok (.iconst 1, 1) := by decide +kernel
theorem d_Model_filter_149 : decode prog_13_method_47_code 149 = .ok (.goto 4, 3) := by decide +kernel
theorem d_Model_filter_152 : decode prog_13_method_47_code 152 = .ok (.iconst 0, 1) := by decide +kernel
theorem d_Model_filter_153 : decode prog_13_method_47_code 153 = .ok (.iload_n 2, 1) := by decide +kernel
theorem d_Model_filter_154 : decode prog_13_method_47_code 154 = .ok (.if_icmp .eq 7, 3) := by decide +kernel
theorem d_Model_filter_157 : decode prog_13_method_47_code 157 = .ok (.iconst 1, 1) := by decide +kernel
theorem d_Model_filter_158 : decode prog_13_method_47_code 158 = .ok (.goto 4, 3) := by decide +kernel
theorem d_Model_filter_161 : decode prog_13_method_47_code 161 = .ok (.iconst 2, 1) := by decide +kernel
theorem d_Model_filter_162 : decode prog_13_method_47_code 162 = .ok (.iand, 1) := by decide +kernel
theorem d_Model_filter_163 : decode prog_13_method_47_code 163 = .ok (.putfield 266, 3) := by decide +kernel
theorem d_Model_filter_166 : decode prog_13_method_47_code 166 = .ok (.aload_n 0, 1) := by decide +kernel
theorem d_Model_filter_167 : decode prog_13_method_47_code 167 = .ok (.invokevirtual 257, 3) := by decide +kernel
theorem d_Model_filter_170 : decode prog_13_method_47_code 170 = .ok (.aload_n 0, 1) := by decide +kernel
theorem d_Model_filter_171 : decode prog_13_method_47_code 171 = .ok (.invokevirtual 257, 3) := by decide +kernel
theorem d_Model_filter_174 : decode prog_13_method_47_code 174 = .ok (.return_, 1) := by decide +kernel
theorem d_Model_isString_0 : decode prog_13_method_37_code 0 = .ok (.aload_n 0, 1) := by decide +kernel
theorem d_Model_isString_1 : decode prog_13_method_37_code 1 = .ok (.getfield 227, 3) := by decide +kernel
theorem d_Model_isString_4 : decode prog_13_method_37_code 4 = .ok (.iconst 2, 1) := by decide +kernel
theorem d_Model_isString_5 : decode prog_13_method_37_code 5 = .ok (.if_icmp .eq 18, 3) := by decide +kernel
theorem d_Model_isString_8 : decode prog_13_method_37_code 8 = .ok (.aload_n 0, 1) := by decide +kernel
theorem d_Model_isString_9 : decode prog_13_method_37_code 9 = .ok (.getfield 227, 3) := by decide +kernel
theorem d_Model_isString_12 : decode prog_13_method_37_code 12 = .ok (.iconst 1, 1) := by decide +kernel
theorem d_Model_isString_13 : decode prog_13_method_37_code 13 = .ok (.if_icmp .ne 14, 3) := by decide +kernel
theorem d_Model_isString_16 : decode prog_13_method_37_code 16 = .ok (.aload_n 0, 1) := by decide +kernel
theorem d_Model_isString_17 : decode prog_13_method_37_code 17 = .ok (.invokevirtual 237, 3) := by decide +kernel
theorem d_Model_isString_20 : decode prog_13_method_37_code 20 = .ok (.ifCond .ne 7, 3) := by decide +kernel
theorem d_Model_isString_23 : decode prog_13_method_37_code 23 = .ok (.iconst 1, 1) := by decide +kernel
theorem d_Model_isString_24 : decode prog_13_method_37_code 24 = .ok (.goto 4, 3) := by decide +kernel
theorem d_Model_isString_27 : decode prog_13_method_37_code 27 = .ok (.iconst 0, 1) := by decide +kernel
theorem d_Model_isString_28 : decode prog_13_method_37_code 28 = .ok (.ireturn, 1) := by decide +kernel
theorem d_Model_group_0 : decode prog_13_method_41_code 0 = .ok (.aload_n 0, 1) := by decide +kernel
theorem d_Model_group_1 : decode prog_13_method_41_code 1 = .ok (.getfield 86, 3) := by decide +kernel
theorem d_Model_group_4 : decode prog_13_method_41_code 4 = .ok (.aload_n 0, 1) := by decide +kernel
theorem d_Model_group_5 : decode prog_13_method_41_code 5 = .ok (.getfield 263, 3) := by decide +kernel
theorem d_Model_group_8 : decode prog_13_method_41_code 8 = .ok (.aload_n 0, 1) := by decide +kernel
theorem d_Model_group_9 : decode prog_13_method_41_code 9 = .ok (.getfield 227, 3) := by decide +kernel
theorem d_Model_group_12 : decode prog_13_method_41_code 12 = .ok (.bipush 7, 2) := by decide +kernel
theorem d_Model_group_14 : decode prog_13_method_41_code 14 = .ok (.if_icmp .ne 7, 3) := by decide +kernel
theorem d_Model_group_17 : decode prog_13_method_41_code 17 = .ok (.iconst 1, 1) := by decide +kernel
theorem d_Model_group_18 : decode prog_13_method_41_code 18 = .ok (.goto 17, 3) := by decide +kernel
theorem d_Model_group_21 : decode prog_13_method_41_code 21 = .ok (.aload_n 0, 1) := by decide +kernel
theorem d_Model_group_22 : decode prog_13_method_41_code 22 = .ok (.getfield 227, 3) := by decide +kernel
theorem d_Model_group_25 : decode prog_13_method_41_code 25 = .ok (.bipush 14, 2) := by decide +kernel
theorem d_Model_group_27 : decode prog_13_method_41_code 27 = .ok (.if_icmp .ne 7, 3) := by decide +kernel
theorem d_Model_group_30 : decode prog_13_method_41_code 30 = .ok (.iconst 2, 1) := by decide +kernel
theorem d_Model_group_31 : decode prog_13_method_41_code 31 = .ok (.goto 4, 3) := by decide +kernel
theorem d_Model_group_34 : decode prog_13_method_41_code 34 = .ok (.iconst 0, 1) := by decide +kernel
theorem d_Model_group_35 : decode prog_13_method_41_code 35 = .ok (.iastore, 1) := by decide +kernel
theorem d_Model_group_36 : decode prog_13_method_41_code 36 = .ok (.aload_n 0, 1) := by decide +kernel
theorem d_Model_group_37 : decode prog_13_method_41_code 37 = .ok (.getfield 89, 3) := by decide +kernel
theorem d_Model_group_40 : decode prog_13_method_41_code 40 = .ok (.aload_n 0, 1) := by decide +kernel
theorem d_Model_group_41 : decode prog_13_method_41_code 41 = .ok (.getfield 263, 3) := by decide +kernel
theorem d_Model_group_44 : decode prog_13_method_41_code 44 = .ok (.aload_n 0, 1) := by decide +kernel
theorem d_Model_group_45 : decode prog_13_method_41_code 45 = .ok (.getfield 247, 3) := by decide +kernel
theorem d_Model_group_48 : decode prog_13_method_41_code 48 = .ok (.iastore, 1) := by decide +kernel
theorem d_Model_group_49 : decode prog_13_method_41_code 49 = .ok (.aload_n 0, 1) := by decide +kernel
theorem d_Model_group_50 : decode prog_13_method_41_code 50 = .ok (.getfield 95, 3) := by decide +kernel
theorem d_Model_group_53 : decode prog_13_method_41_code 53 = .ok (.aload_n 0, 1) := by decide +kernel
theorem d_Model_group_54 : decode prog_13_method_41_code 54 = .ok (.getfield 263, 3) := by decide +kernel
theorem d_Model_group_57 : decode prog_13_method_41_code 57 = .ok (.aload_n 0, 1) := by decide +kernel
theorem d_Model_group_58 : decode prog_13_method_41_code 58 = .ok (.getfield 266, 3) := by decide +kernel
theorem d_Model_group_61 : decode prog_13_method_41_code 61 = .ok (.iastore, 1) := by decide +kernel
theorem d_Model_group_62 : decode prog_13_method_41_code 62 = .ok (.aload_n 0, 1) := by decide +kernel
theorem d_Model_group_63 : decode prog_13_method_41_code 63 = .ok (.getfield 98, 3) := by decide +kernel
theorem d_Model_group_66 : decode prog_13_method_41_code 66 = .ok (.aload_n 0, 1) := by decide +kernel
theorem d_Model_group_67 : decode prog_13_method_41_code 67 = .ok (.getfield 263, 3) := by decide +kernel
theorem d_Model_group_70 : decode prog_13_method_41_code 70 = .ok (.bipush 10, 2) := by decide +kernel
theorem d_Model_group_72 : decode prog_13_method_41_code 72 = .ok (.iastore, 1) := by decide +kernel
theorem d_Model_group_73 : decode prog_13_method_41_code 73 = .ok (.aload_n 0, 1) := by decide +kernel
theorem d_Model_group_74 : decode prog_13_method_41_code 74 = .ok (.getfield 227, 3) := by decide +kernel
theorem d_Model_group_77 : decode prog_13_method_41_code 77 = .ok (.bipush 14, 2) := by decide +kernel
theorem d_Model_group_79 : decode prog_13_method_41_code 79 = .ok (.if_icmp .ne 10, 3) := by decide +kernel
theorem d_Model_group_82 : decode prog_13_method_41_code 82 = .ok (.aload_n 0, 1) := by decide +kernel
theorem d_Model_group_83 : decode prog_13_method_41_code 83 = .ok (.invokevirtual 269, 3) := by decide +kernel
theorem d_Model_group_86 : decode prog_13_method_41_code 86 = .ok (.goto 20, 3) := by decide +kernel
theorem d_Model_group_89 : decode prog_13_method_41_code 89 = .ok (.aload_n 0, 1) := by decide +kernel
theorem d_Model_group_90 : decode prog_13_method_41_code 90 = .ok (.getfield 227, 3) := by decide +kernel
theorem d_Model_group_93 : decode prog_13_method_41_code 93 = .ok (.bipush 7, 2) := by decide +kernel
theorem d_Model_group_95 : decode prog_13_method_41_code 95 = .ok (.if_icmp .ne 7, 3) := by decide +kernel
theorem d_Model_group_98 : decode prog_13_method_41_code 98 = .ok (.aload_n 0, 1) := by decide +kernel
theorem d_Model_group_99 : decode prog_13_method_41_code 99 = .ok (.invokevirtual 257, 3) := by decide +kernel
theorem d_Model_group_102 : decode prog_13_method_41_code 102 = .ok (.aload_n 0, 1) := by decide +kernel
theorem d_Model_group_103 : decode prog_13_method_41_code 103 = .ok (.invokevirtual 260, 3) := by decide +kernel
theorem d_Model_group_106 : decode prog_13_method_41_code 106 = .ok (.aload_n 0, 1) := by decide +kernel
theorem d_Model_group_107 : decode prog_13_method_41_code 107 = .ok (.getfield 71, 3) := by decide +kernel
theorem d_Model_group_110 : decode prog_13_method_41_code 110 = .ok (.ifCond .lt 4, 3) := by decide +kernel
theorem d_Model_group_113 : decode prog_13_method_41_code 113 = .ok (.return_, 1) := by decide +kernel
theorem d_Model_group_114 : decode prog_13_method_41_code 114 = .ok (.aload_n 0, 1) := by decide +kernel
theorem d_Model_group_115 : decode prog_13_method_41_code 115 = .ok (.getfield 92, 3) := by decide +kernel
theorem d_Model_group_118 : decode prog_13_method_41_code 118 = .ok (.aload_n 0, 1) := by decide +kernel
theorem d_Model_group_119 : decode prog_13_method_41_code 119 = .ok (.getfield 263, 3) := by decide +kernel
theorem d_Model_group_122 : decode prog_13_method_41_code 122 = .ok (.aload_n 0, 1) := by decide +kernel
theorem d_Model_group_123 : decode prog_13_method_41_code 123 = .ok (.getfield 247, 3) := by decide +kernel
theorem d_Model_group_126 : decode prog_13_method_41_code 126 = .ok (.aload_n 0, 1) := by decide +kernel
theorem d_Model_group_127 : decode prog_13_method_41_code 127 = .ok (.getfield 89, 3) := by decide +kernel
theorem d_Model_group_130 : decode prog_13_method_41_code 130 = .ok (.aload_n 0, 1) := by decide +kernel
theorem d_Model_group_131 : decode prog_13_method_41_code 131 = .ok (.getfield 263, 3) := by decide +kernel
theorem d_Model_group_134 : decode prog_13_method_41_code 134 = .ok (.iaload, 1) := by decide +kernel
theorem d_Model_group_135 : decode prog_13_method_41_code 135 = .ok (.isub, 1) := by decide +kernel
theorem d_Model_group_136 : decode prog_13_method_41_code 136 = .ok (.iastore, 1) := by decide +kernel
theorem d_Model_group_137 : decode prog_13_method_41_code 137 = .ok (.aload_n 0, 1) := by decide +kernel
theorem d_Model_group_138 : decode prog_13_method_41_code 138 = .ok (.getfield 101, 3) := by decide +kernel
theorem d_Model_group_141 : decode prog_13_method_41_code 141 = .ok (.aload_n 0, 1) := by decide +kernel
theorem d_Model_group_142 : decode prog_13_method_41_code 142 = .ok (.getfield 272, 3) := by decide +kernel
theorem d_Model_group_145 : decode prog_13_method_41_code 145 = .ok (.aload_n 0, 1) := by decide +kernel
theorem d_Model_group_146 : decode prog_13_method_41_code 146 = .ok (.getfield 263, 3) := by decide +kernel
theorem d_Model_group_149 : decode prog_13_method_41_code 149 = .ok (.iastore, 1) := by decide +kernel
theorem d_Model_group_150 : decode prog_13_method_41_code 150 = .ok (.aload_n 0, 1) := by decide +kernel
theorem d_Model_group_151 : decode prog_13_method_41_code 151 = .ok (.dup, 1) := by decide +kernel
theorem d_Model_group_152 : decode prog_13_method_41_code 152 = .ok (.getfield 272, 3) := by decide +kernel
theorem d_Model_group_155 : decode prog_13_method_41_code 155 = .ok (.iconst 1, 1) := by decide +kernel
theorem d_Model_group_156 : decode prog_13_method_41_code 156 = .ok (.iadd, 1) := by decide +kernel
theorem d_Model_group_157 : decode prog_13_method_41_code 157 = .ok (.putfield 272, 3) := by decide +kernel
theorem d_Model_group_160 : decode prog_13_method_41_code 160 = .ok (.aload_n 0, 1) := by decide +kernel
theorem d_Model_group_161 : decode prog_13_method_41_code 161 = .ok (.dup, 1) := by decide +kernel
theorem d_Model_group_162 : decode prog_13_method_41_code 162 = .ok (.getfield 263, 3) := by decide +kernel
theorem d_Model_group_165 : decode prog_13_method_41_code 165 = .ok (.iconst 1, 1) := by decide +kernel
theorem d_Model_group_166 : decode prog_13_method_41_code 166 = .ok (.iadd, 1) := by decide +kernel
theorem d_Model_group_167 : decode prog_13_method_41_code 167 = .ok (.putfield 263, 3) := by decide +kernel
theorem d_Model_group_170 : decode prog_13_method_41_code 170 = .ok (.aload_n 0, 1) := by decide +kernel
theorem d_Model_group_171 : decode prog_13_method_41_code 171 = .ok (.invokevirtual 275, 3) := by decide +kernel
theorem d_Model_group_174 : decode prog_13_method_41_code 174 = .ok (.return_, 1) := by decide +kernel
theorem d_Model_near_0 : decode prog_13_method_40_code 0 = .ok (.aload_n 0, 1) := by decide +kernel
theorem d_Model_near_1 : decode prog_13_method_40_code 1 = .ok (.invokevirtual 257, 3) := by decide +kernel
theorem d_Model_near_4 : decode prog_13_method_40_code 4 = .ok (.aload_n 0, 1) := by decide +kernel
theorem d_Model_near_5 : decode prog_13_method_40_code 5 = .ok (.aload_n 0, 1) := by decide +kernel
theorem d_Model_near_6 : decode prog_13_method_40_code 6 = .ok (.getfield 227, 3) := by decide +kernel
theorem d_Model_near_9 : decode prog_13_method_40_code 9 = .ok (.iconst 3, 1) := by decide +kernel
theorem d_Model_near_10 : decode prog_13_method_40_code 10 = .ok (.if_icmp .eq 7, 3) := by decide +kernel
theorem d_Model_near_13 : decode prog_13_method_40_code 13 = .ok (.iconst 1, 1) := by decide +kernel
theorem d_Model_near_14 : decode prog_13_method_40_code 14 = .ok (.goto 4, 3) := by decide +kernel
theorem d_Model_near_17 : decode prog_13_method_40_code 17 = .ok (.iconst 0, 1) := by decide +kernel
theorem d_Model_near_18 : decode prog_13_method_40_code 18 = .ok (.aload_n 0, 1) := by decide +kernel
theorem d_Model_near_19 : decode prog_13_method_40_code 19 = .ok (.getfield 218, 3) := by decide +kernel
theorem d_Model_near_22 : decode prog_13_method_40_code 22 = .ok (.invokevirtual 250, 3) := by decide +kernel
theorem d_Model_near_25 : decode prog_13_method_40_code 25 = .ok (.aload_n 0, 1) := by decide +kernel
theorem d_Model_near_26 : decode prog_13_method_40_code 26 = .ok (.getfield 71, 3) := by decide +kernel
theorem d_Model_near_29 : decode prog_13_method_40_code 29 = .ok (.ifCond .lt 4, 3) := by decide +kernel
theorem d_Model_near_32 : decode prog_13_method_40_code 32 = .ok (.return_, 1) := by decide +kernel
theorem d_Model_near_33 : decode prog_13_method_40_code 33 = .ok (.aload_n 0, 1) := by decide +kernel
theorem d_Model_near_34 : decode prog_13_method_40_code 34 = .ok (.invokevirtual 257, 3) := by decide +kernel
theorem d_Model_near_37 : decode prog_13_method_40_code 37 = .ok (.aload_n 0, 1) := by decide +kernel
theorem d_Model_near_38 : decode prog_13_method_40_code 38 = .ok (.invokevirtual 260, 3) := by decide +kernel
theorem d_Model_near_41 : decode prog_13_method_40_code 41 = .ok (.aload_n 0, 1) := by decide +kernel
theorem d_Model_near_42 : decode prog_13_method_40_code 42 = .ok (.getfield 71, 3) := by decide +kernel
theorem d_Model_near_45 : decode prog_13_method_40_code 45 = .ok (.ifCond .ge 27, 3) := by decide +kernel
theorem d_Model_near_48 : decode prog_13_method_40_code 48 = .ok (.aload_n 0, 1) := by decide +kernel
theorem d_Model_near_49 : decode prog_13_method_40_code 49 = .ok (.getfield 227, 3) := by decide +kernel
theorem d_Model_near_52 : decode prog_13_method_40_code 52 = .ok (.iconst 4, 1) := by decide +kernel
theorem d_Model_near_53 : decode prog_13_method_40_code 53 = .ok (.if_icmp .eq 19, 3) := by decide +kernel
theorem d_Model_near_56 : decode prog_13_method_40_code 56 = .ok (.aload_n 0, 1) := by decide +kernel
theorem d_Model_near_57 : decode prog_13_method_40_code 57 = .ok (.getfield 227, 3) := by decide +kernel
theorem d_Model_near_60 : decode prog_13_method_40_code 60 = .ok (.bipush 10, 2) := by decide +kernel
theorem d_Model_near_62 : decode prog_13_method_40_code 62 = .ok (.if_icmp .eq 10, 3) := by decide +kernel
theorem d_Model_near_65 : decode prog_13_method_40_code 65 = .ok (.aload_n 0, 1) := by decide +kernel
theorem d_Model_near_66 : decode prog_13_method_40_code 66 = .ok (.invokevirtual 260, 3) := by decide +kernel
theorem d_Model_near_69 : decode prog_13_method_40_code 69 = .ok (.goto (-28), 3) := by decide +kernel
theorem d_Model_near_72 : decode prog_13_method_40_code 72 = .ok (.aload_n 0, 1) := by decide +kernel
theorem d_Model_near_73 : decode prog_13_method_40_code 73 = .ok (.getfield 71, 3) := by decide +kernel
theorem d_Model_near_76 : decode prog_13_method_40_code 76 = .ok (.ifCond .lt 4, 3) := by decide +kernel
theorem d_Model_near_79 : decode prog_13_method_40_code 79 = .ok (.return_, 1) := by decide +kernel
theorem d_Model_near_80 : decode prog_13_method_40_code 80 = .ok (.aload_n 0, 1) := by decide +kernel
theorem d_Model_near_81 : decode prog_13_method_40_code 81 = .ok (.getfield 227, 3) := by decide +kernel
theorem d_Model_near_84 : decode prog_13_method_40_code 84 = .ok (.bipush 10, 2) := by decide +kernel
theorem d_Model_near_86 : decode prog_13_method_40_code 86 = .ok (.if_icmp .ne 183, 3) := by decide +kernel
theorem d_Model_near_89 : decode prog_13_method_40_code 89 = .ok (.aload_n 0, 1) := by decide +kernel
theorem d_Model_near_90 : decode prog_13_method_40_code 90 = .ok (.invokevirtual 257, 3) := by decide +kernel
theorem d_Model_near_93 : decode prog_13_method_40_code 93 = .ok (.aload_n 0, 1) := by decide +kernel
theorem d_Model_near_94 : decode prog_13_method_40_code 94 = .ok (.aload_n 0, 1) := by decide +kernel
theorem d_Model_near_95 : decode prog_13_method_40_code 95 = .ok (.getfield 218, 3) := by decide +kernel
theorem d_Model_near_98 : decode prog_13_method_40_code 98 = .ok (.invokevirtual 221, 3) := by decide +kernel
theorem d_Model_near_101 : decode prog_13_method_40_code 101 = .ok (.bipush 48, 2) := by decide +kernel
theorem d_Model_near_103 : decode prog_13_method_40_code 103 = .ok (.isub, 1) := by decide +kernel
theorem d_Model_near_104 : decode prog_13_method_40_code 104 = .ok (.istore_n 1, 1) := by decide +kernel
theorem d_Model_near_105 : decode prog_13_method_40_code 105 = .ok (.aload_n 0, 1) := by decide +kernel
theorem d_Model_near_106 : decode prog_13_method_40_code 106 = .ok (.aload_n 0, 1) := by decide +kernel
theorem d_Model_near_107 : decode prog_13_method_40_code 107 = .ok (.getfield 218, 3) := by decide +kernel
theorem d_Model_near_110 : decode prog_13_method_40_code 110 = .ok (.iconst 1, 1) := by decide +kernel
theorem d_Model_near_111 : decode prog_13_method_40_code 111 = .ok (.iadd, 1) := by decide +kernel
theorem d_Model_near_112 : decode prog_13_method_40_code 112 = .ok (.invokevirtual 221, 3) := by decide +kernel
theorem d_Model_near_115 : decode prog_13_method_40_code 115 = .ok (.bipush 48, 2) := by decide +kernel
theorem d_Model_near_117 : decode prog_13_method_40_code 117 = .ok (.isub, 1) := by decide +kernel
theorem d_Model_near_118 : decode prog_13_method_40_code 118 = .ok (.istore_n 2, 1) := by decide +kernel
theorem d_Model_near_119 : decode prog_13_method_40_code 119 = .ok (.aload_n 0, 1) := by decide +kernel
theorem d_Model_near_120 : decode prog_13_method_40_code 120 = .ok (.getfield 227, 3) := by decide +kernel
theorem d_Model_near_123 : decode prog_13_method_40_code 123 = .ok (.iconst 1, 1) := by decide +kernel
theorem d_Model_near_124 : decode prog_13_method_40_code 124 = .ok (.if_icmp .ne 53, 3) := by decide +kernel
theorem d_Model_near_127 : decode prog_13_method_40_code 127 = .ok (.iload_n 1, 1) := by decide +kernel
theorem d_Model_near_128 : decode prog_13_method_40_code 128 = .ok (.iconst 0, 1) := by decide +kernel
theorem d_Model_near_129 : decode prog_13_method_40_code 129 = .ok (.bipush 9, 2) := by decide +kernel
theorem d_Model_near_131 : decode prog_13_method_40_code 131 = .ok (.invokestatic 133, 3) := by decide +kernel
theorem d_Model_near_134 : decode prog_13_method_40_code 134 = .ok (.ifCond .eq 43, 3) := by decide +kernel
theorem d_Model_near_137 : decode prog_13_method_40_code 137 = .ok (.aload_n 0, 1) := by decide +kernel
theorem d_Model_near_138 : decode prog_13_method_40_code 138 = .ok (.getfield 215, 3) := by decide +kernel
theorem d_Model_near_141 : decode prog_13_method_40_code 141 = .ok (.aload_n 0, 1) := by decide +kernel
theorem d_Model_near_142 : decode prog_13_method_40_code 142 = .ok (.getfield 218, 3) := by decide +kernel
theorem d_Model_near_145 : decode prog_13_method_40_code 145 = .ok (.isub, 1) := by decide +kernel
theorem d_Model_near_146 : decode prog_13_method_40_code 146 = .ok (.iconst 1, 1) := by decide +kernel
theorem d_Model_near_147 : decode prog_13_method_40_code 147 = .ok (.if_icmp .eq 26, 3) := by decide +kernel
theorem d_Model_near_150 : decode prog_13_method_40_code 150 = .ok (.aload_n 0, 1) := by decide +kernel
theorem d_Model_near_151 : decode prog_13_method_40_code 151 = .ok (.getfield 215, 3) := by decide +kernel
theorem d_Model_near_154 : decode prog_13_method_40_code 154 = .ok (.aload_n 0, 1) := by decide +kernel
theorem d_Model_near_155 : decode prog_13_method_40_code 155 = .ok (.getfield 218, 3) := by decide +kernel
theorem d_Model_near_158 : decode prog_13_method_40_code 158 = .ok (.isub, 1) := by decide +kernel
theorem d_Model_near_159 : decode prog_13_method_40_code 159 = .ok (.iconst 2, 1) := by decide +kernel
theorem d_Model_near_160 : decode prog_13_method_40_code 160 = .ok (.if_icmp .ne 17, 3) := by decide +kernel
theorem d_Model_near_163 : decode prog_13_method_40_code 163 = .ok (.iload_n 2, 1) := by decide +kernel
theorem d_Model_near_164 : decode prog_13_method_40_code 164 = .ok (.iconst 0, 1) := by decide +kernel
theorem d_Model_near_165 : decode prog_13_method_40_code 165 = .ok (.bipush 9, 2) := by decide +kernel
theorem d_Model_near_167 : decode prog_13_method_40_code 167 = .ok (.invokestatic 133, 3) := by decide +kernel
theorem d_Model_near_170 : decode prog_13_method_40_code 170 = .ok (.ifCond .eq 7, 3) := by decide +kernel
theorem d_Model_near_173 : decode prog_13_method_40_code 173 = .ok (.iconst 1, 1) := by decide +kernel
theorem d_Model_near_174 : decode prog_13_method_40_code 174 = .ok (.goto 4, 3) := by decide +kernel
theorem d_Model_near_177 : decode prog_13_method_40_code 177 = .ok (.iconst 0, 1) := by decide +kernel
theorem d_Model_near_178 : decode prog_13_method_40_code 178 = .ok (.istore_n 3, 1) := by decide +kernel
theorem d_Model_near_179 : decode prog_13_method_40_code 179 = .ok (.aload_n 0, 1) := by decide +kernel
theorem d_Model_near_180 : decode prog_13_method_40_code 180 = .ok (.iload_n 3, 1) := by decide +kernel
theorem d_Model_near_181 : decode prog_13_method_40_code 181 = .ok (.ifCond .ne 7, 3) := by decide +kernel
theorem d_Model_near_184 : decode prog_13_method_40_code 184 = .ok (.iconst 1, 1) := by decide +kernel
theorem d_Model_near_185 : decode prog_13_method_40_code 185 = .ok (.goto 4, 3) := by decide +kernel
theorem d_Model_near_188 : decode prog_13_method_40_code 188 = .ok (.iconst 0, 1) := by decide +kernel
theorem d_Model_near_189 : decode prog_13_method_40_code 189 = .ok (.aload_n 0, 1) := by decide +kernel
theorem d_Model_near_190 : decode prog_13_method_40_code 190 = .ok (.getfield 218, 3) := by decide +kernel
theorem d_Model_near_193 : decode prog_13_method_40_code 193 = .ok (.invokevirtual 250, 3) := by decide +kernel
theorem d_Model_near_196 : decode prog_13_method_40_code 196 = .ok (.aload_n 0, 1) := by decide +kernel
theorem d_Model_near_197 : decode prog_13_method_40_code 197 = .ok (.getfield 71, 3) := by decide +kernel
theorem d_Model_near_200 : decode prog_13_method_40_code 200 = .ok (.ifCond .lt 4, 3) := by decide +kernel
theorem d_Model_near_203 : decode prog_13_method_40_code 203 = .ok (.return_, 1) := by decide +kernel
theorem d_Model_near_204 : decode prog_13_method_40_code 204 = .ok (.aload_n 0, 1) := by decide +kernel
theorem d_Model_near_205 : decode prog_13_method_40_code 205 = .ok (.getfield 98, 3) := by decide +kernel
theorem d_Model_near_208 : decode prog_13_method_40_code 208 = .ok (.aload_n 0, 1) := by decide +kernel
theorem d_Model_near_209 : decode prog_13_method_40_code 209 = .ok (.getfield 263, 3) := by decide +kernel
theorem d_Model_near_212 : decode prog_13_method_40_code 212 = .ok (.aload_n 0, 1) := by decide +kernel
theorem d_Model_near_213 : decode prog_13_method_40_code 213 = .ok (.getfield 215, 3) := by decide +kernel
theorem d_Model_near_216 : decode prog_13_method_40_code 216 = .ok (.aload_n 0, 1) := by decide +kernel
theorem d_Model_near_217 : decode prog_13_method_40_code 217 = .ok (.getfield 218, 3) := by decide +kernel
theorem d_Model_near_220 : decode prog_13_method_40_code 220 = .ok (.isub, 1) := by decide +kernel
theorem d_Model_near_221 : decode prog_13_method_40_code 221 = .ok (.iconst 1, 1) := by decide +kernel
theorem d_Model_near_222 : decode prog_13_method_40_code 222 = .ok (.if_icmp .ne 7, 3) := by decide +kernel
theorem d_Model_near_225 : decode prog_13_method_40_code 225 = .ok (.iload_n 1, 1) := by decide +kernel
theorem d_Model_near_226 : decode prog_13_method_40_code 226 = .ok (.goto 9, 3) := by decide +kernel
theorem d_Model_near_229 : decode prog_13_method_40_code 229 = .ok (.bipush 10, 2) := by decide +kernel
theorem d_Model_near_231 : decode prog_13_method_40_code 231 = .ok (.iload_n 1, 1) := by decide +kernel
theorem d_Model_near_232 : decode prog_13_method_40_code 232 = .ok (.imul, 1) := by decide +kernel
theorem d_Model_near_233 : decode prog_13_method_40_code 233 = .ok (.iload_n 2, 1) := by decide +kernel
theorem d_Model_near_234 : decode prog_13_method_40_code 234 = .ok (.iadd, 1) := by decide +kernel
theorem d_Model_near_235 : decode prog_13_method_40_code 235 = .ok (.iastore, 1) := by decide +kernel
theorem d_Model_near_236 : decode prog_13_method_40_code 236 = .ok (.aload_n 0, 1) := by decide +kernel
theorem d_Model_near_237 : decode prog_13_method_40_code 237 = .ok (.invokevirtual 257, 3) := by decide +kernel
theorem d_Model_near_240 : decode prog_13_method_40_code 240 = .ok (.aload_n 0, 1) := by decide +kernel
theorem d_Model_near_241 : decode prog_13_method_40_code 241 = .ok (.aload_n 0, 1) := by decide +kernel
theorem d_Model_near_242 : decode prog_13_method_40_code 242 = .ok (.getfield 227, 3) := by decide +kernel
theorem d_Model_near_245 : decode prog_13_method_40_code 245 = .ok (.iconst 4, 1) := by decide +kernel
theorem d_Model_near_246 : decode prog_13_method_40_code 246 = .ok (.if_icmp .eq 7, 3) := by decide +kernel
theorem d_Model_near_249 : decode prog_13_method_40_code 249 = .ok (.iconst 1, 1) := by decide +kernel
theorem d_Model_near_250 : decode prog_13_method_40_code 250 = .ok (.goto 4, 3) := by decide +kernel
theorem d_Model_near_253 : decode prog_13_method_40_code 253 = .ok (.iconst 0, 1) := by decide +kernel
theorem d_Model_near_254 : decode prog_13_method_40_code 254 = .ok (.aload_n 0, 1) := by decide +kernel
theorem d_Model_near_255 : decode prog_13_method_40_code 255 = .ok (.getfield 218, 3) := by decide +kernel
theorem d_Model_near_258 : decode prog_13_method_40_code 258 = .ok (.invokevirtual 250, 3) := by decide +kernel
theorem d_Model_near_261 : decode prog_13_method_40_code 261 = .ok (.aload_n 0, 1) := by decide +kernel
theorem d_Model_near_262 : decode prog_13_method_40_code 262 = .ok (.getfield 71, 3) := by decide +kernel
theorem d_Model_near_265 : decode prog_13_method_40_code 265 = .ok (.ifCond .lt 4, 3) := by decide +kernel
theorem d_Model_near_268 : decode prog_13_method_40_code 268 = .ok (.return_, 1) := by decide +kernel
theorem d_Model_near_269 : decode prog_13_method_40_code 269 = .ok (.aload_n 0, 1) := by decide +kernel
theorem d_Model_near_270 : decode prog_13_method_40_code 270 = .ok (.invokevirtual 257, 3) := by decide +kernel
theorem d_Model_near_273 : decode prog_13_method_40_code 273 = .ok (.return_, 1) := by decide +kernel
theorem d_Model_phrase_0 : decode prog_13_method_39_code 0 = .ok (.aload_n 0, 1) := by decide +kernel
theorem d_Model_phrase_1 : decode prog_13_method_39_code 1 = .ok (.aload_n 0, 1) := by decide +kernel
theorem d_Model_phrase_2 : decode prog_13_method_39_code 2 = .ok (.invokevirtual 244, 3) := by decide +kernel
theorem d_Model_phrase_5 : decode prog_13_method_39_code 5 = .ok (.ifCond .eq 12, 3) := by decide +kernel
theorem d_Model_phrase_8 : decode prog_13_method_39_code 8 = .ok (.aload_n 0, 1) := by decide +kernel
theorem d_Model_phrase_9 : decode prog_13_method_39_code 9 = .ok (.getfield 247, 3) := by decide +kernel
theorem d_Model_phrase_12 : decode prog_13_method_39_code 12 = .ok (.bipush 12, 2) := by decide +kernel
theorem d_Model_phrase_14 : decode prog_13_method_39_code 14 = .ok (.if_icmp .ne 7, 3) := by decide +kernel
theorem d_Model_phrase_17 : decode prog_13_method_39_code 17 = .ok (.iconst 1, 1) := by decide +kernel
theorem d_Model_phrase_18 : decode prog_13_method_39_code 18 = .ok (.goto 4, 3) := by decide +kernel
theorem d_Model_phrase_21 : decode prog_13_method_39_code 21 = .ok (.iconst 0, 1) := by decide +kernel
theorem d_Model_phrase_22 : decode prog_13_method_39_code 22 = .ok (.aload_n 0, 1) := by decide +kernel
theorem d_Model_phrase_23 : decode prog_13_method_39_code 23 = .ok (.getfield 218, 3) := by decide +kernel
theorem d_Model_phrase_26 : decode prog_13_method_39_code 26 = .ok (.invokevirtual 250, 3) := by decide +kernel
theorem d_Model_phrase_29 : decode prog_13_method_39_code 29 = .ok (.aload_n 0, 1) := by decide +kernel
theorem d_Model_phrase_30 : decode prog_13_method_39_code 30 = .ok (.getfield 71, 3) := by decide +kernel
theorem d_Model_phrase_33 : decode prog_13_method_39_code 33 = .ok (.ifCond .lt 4, 3) := by decide +kernel
theorem d_Model_phrase_36 : decode prog_13_method_39_code 36 = .ok (.return_, 1) := by decide +kernel
theorem d_Model_phrase_37 : decode prog_13_method_39_code 37 = .ok (.aload_n 0, 1) := by decide +kernel
theorem d_Model_phrase_38 : decode prog_13_method_39_code 38 = .ok (.getfield 74, 3) := by decide +kernel
theorem d_Model_phrase_41 : decode prog_13_method_39_code 41 = .ok (.aload_n 0, 1) := by decide +kernel
theorem d_Model_phrase_42 : decode prog_13_method_39_code 42 = .ok (.getfield 247, 3) := by decide +kernel
theorem d_Model_phrase_45 : decode prog_13_method_39_code 45 = .ok (.aload_n 0, 1) := by decide +kernel
theorem d_Model_phrase_46 : decode prog_13_method_39_code 46 = .ok (.getfield 241, 3) := by decide +kernel
theorem d_Model_phrase_49 : decode prog_13_method_39_code 49 = .ok (.iastore, 1) := by decide +kernel
theorem d_Model_phrase_50 : decode prog_13_method_39_code 50 = .ok (.aload_n 0, 1) := by decide +kernel
theorem d_Model_phrase_51 : decode prog_13_method_39_code 51 = .ok (.getfield 77, 3) := by decide +kernel
theorem d_Model_phrase_54 : decode prog_13_method_39_code 54 = .ok (.aload_n 0, 1) := by decide +kernel
theorem d_Model_phrase_55 : decode prog_13_method_39_code 55 = .ok (.getfield 247, 3) := by decide +kernel
theorem d_Model_phrase_58 : decode prog_13_method_39_code 58 = .ok (.iconst 0, 1) := by decide +kernel
theorem d_Model_phrase_59 : decode prog_13_method_39_code 59 = .ok (.iastore, 1) := by decide +kernel
theorem d_Model_phrase_60 : decode prog_13_method_39_code 60 = .ok (.aload_n 0, 1) := by decide +kernel
theorem d_Model_phrase_61 : decode prog_13_method_39_code 61 = .ok (.dup, 1) := by decide +kernel
theorem d_Model_phrase_62 : decode prog_13_method_39_code 62 = .ok (.getfield 247, 3) := by decide +kernel
theorem d_Model_phrase_65 : decode prog_13_method_39_code 65 = .ok (.iconst 1, 1) := by decide +kernel
theorem d_Model_phrase_66 : decode prog_13_method_39_code 66 = .ok (.iadd, 1) := by decide +kernel
theorem d_Model_phrase_67 : decode prog_13_method_39_code 67 = .ok (.putfield 247, 3) := by decide +kernel
theorem d_Model_phrase_70 : decode prog_13_method_39_code 70 = .ok (.aload_n 0, 1) := by decide +kernel
theorem d_Model_phrase_71 : decode prog_13_method_39_code 71 = .ok (.invokevirtual 254, 3) := by decide +kernel
theorem d_Model_phrase_74 : decode prog_13_method_39_code 74 = .ok (.aload_n 0, 1) := by decide +kernel
theorem d_Model_phrase_75 : decode prog_13_method_39_code 75 = .ok (.invokevirtual 257, 3) := by decide +kernel
theorem d_Model_phrase_78 : decode prog_13_method_39_code 78 = .ok (.aload_n 0, 1) := by decide +kernel
theorem d_Model_phrase_79 : decode prog_13_method_39_code 79 = .ok (.getfield 227, 3) := by decide +kernel
theorem d_Model_phrase_82 : decode prog_13_method_39_code 82 = .ok (.bipush 8, 2) := by decide +kernel
theorem d_Model_phrase_84 : decode prog_13_method_39_code 84 = .ok (.if_icmp .ne 53, 3) := by decide +kernel
theorem d_Model_phrase_87 : decode prog_13_method_39_code 87 = .ok (.aload_n 0, 1) := by decide +kernel
theorem d_Model_phrase_88 : decode prog_13_method_39_code 88 = .ok (.getfield 71, 3) := by decide +kernel
theorem d_Model_phrase_91 : decode prog_13_method_39_code 91 = .ok (.ifCond .ge 46, 3) := by decide +kernel
theorem d_Model_phrase_94 : decode prog_13_method_39_code 94 = .ok (.aload_n 0, 1) := by decide +kernel
theorem d_Model_phrase_95 : decode prog_13_method_39_code 95 = .ok (.invokevirtual 257, 3) := by decide +kernel
theorem d_Model_phrase_98 : decode prog_13_method_39_code 98 = .ok (.aload_n 0, 1) := by decide +kernel
theorem d_Model_phrase_99 : decode prog_13_method_39_code 99 = .ok (.aload_n 0, 1) := by decide +kernel
theorem d_Model_phrase_100 : decode prog_13_method_39_code 100 = .ok (.invokevirtual 244, 3) := by decide +kernel
theorem d_Model_phrase_103 : decode prog_13_method_39_code 103 = .ok (.ifCond .ne 7, 3) := by decide +kernel
theorem d_Model_phrase_106 : decode prog_13_method_39_code 106 = .ok (.iconst 1, 1) := by decide +kernel
theorem d_Model_phrase_107 : decode prog_13_method_39_code 107 = .ok (.goto 4, 3) := by decide +kernel
theorem d_Model_phrase_110 : decode prog_13_method_39_code 110 = .ok (.iconst 0, 1) := by decide +kernel
theorem d_Model_phrase_111 : decode prog_13_method_39_code 111 = .ok (.aload_n 0, 1) := by decide +kernel
theorem d_Model_phrase_112 : decode prog_13_method_39_code 112 = .ok (.getfield 218, 3) := by decide +kernel
theorem d_Model_phrase_115 : decode prog_13_method_39_code 115 = .ok (.invokevirtual 250, 3) := by decide +kernel
theorem d_Model_phrase_118 : decode prog_13_method_39_code 118 = .ok (.aload_n 0, 1) := by decide +kernel
theorem d_Model_phrase_119 : decode prog_13_method_39_code 119 = .ok (.getfield 71, 3) := by decide +kernel
theorem d_Model_phrase_122 : decode prog_13_method_39_code 122 = .ok (.ifCond .lt 4, 3) := by decide +kernel
theorem d_Model_phrase_125 : decode prog_13_method_39_code 125 = .ok (.return_, 1) := by decide +kernel
theorem d_Model_phrase_126 : decode prog_13_method_39_code 126 = .ok (.aload_n 0, 1) := by decide +kernel
theorem d_Model_phrase_127 : decode prog_13_method_39_code 127 = .ok (.invokevirtual 254, 3) := by decide +kernel
theorem d_Model_phrase_130 : decode prog_13_method_39_code 130 = .ok (.aload_n 0, 1) := by decide +kernel
theorem d_Model_phrase_131 : decode prog_13_method_39_code 131 = .ok (.invokevirtual 257, 3) := by decide +kernel
theorem d_Model_phrase_134 : decode prog_13_method_39_code 134 = .ok (.goto (-56), 3) := by decide +kernel
theorem d_Model_phrase_137 : decode prog_13_method_39_code 137 = .ok (.aload_n 0, 1) := by decide +kernel
theorem d_Model_phrase_138 : decode prog_13_method_39_code 138 = .ok (.getfield 227, 3) := by decide +kernel
theorem d_Model_phrase_141 : decode prog_13_method_39_code 141 = .ok (.bipush 9, 2) := by decide +kernel
theorem d_Model_phrase_143 : decode prog_13_method_39_code 143 = .ok (.if_icmp .ne 19, 3) := by decide +kernel
theorem d_Model_phrase_146 : decode prog_13_method_39_code 146 = .ok (.aload_n 0, 1) := by decide +kernel
theorem d_Model_phrase_147 : decode prog_13_method_39_code 147 = .ok (.getfield 77, 3) := by decide +kernel
theorem d_Model_phrase_150 : decode prog_13_method_39_code 150 = .ok (.aload_n 0, 1) := by decide +kernel
theorem d_Model_phrase_151 : decode prog_13_method_39_code 151 = .ok (.getfield 247, 3) := by decide +kernel
theorem d_Model_phrase_154 : decode prog_13_method_39_code 154 = .ok (.iconst 1, 1) := by decide +kernel
theorem d_Model_phrase_155 : decode prog_13_method_39_code 155 = .ok (.isub, 1) := by decide +kernel
theorem d_Model_phrase_156 : decode prog_13_method_39_code 156 = .ok (.iconst 1, 1) := by decide +kernel
theorem d_Model_phrase_157 : decode prog_13_method_39_code 157 = .ok (.iastore, 1) := by decide +kernel
theorem d_Model_phrase_158 : decode prog_13_method_39_code 158 = .ok (.aload_n 0, 1) := by decide +kernel
theorem d_Model_phrase_159 : decode prog_13_method_39_code 159 = .ok (.invokevirtual 257, 3) := by decide +kernel
theorem d_Model_phrase_162 : decode prog_13_method_39_code 162 = .ok (.aload_n 0, 1) := by decide +kernel
theorem d_Model_phrase_163 : decode prog_13_method_39_code 163 = .ok (.getfield 74, 3) := by decide +kernel
theorem d_Model_phrase_166 : decode prog_13_method_39_code 166 = .ok (.aload_n 0, 1) := by decide +kernel
theorem d_Model_phrase_167 : decode prog_13_method_39_code 167 = .ok (.getfield 247, 3) := by decide +kernel
theorem d_Model_phrase_170 : decode prog_13_method_39_code 170 = .ok (.aload_n 0, 1) := by decide +kernel
theorem d_Model_phrase_171 : decode prog_13_method_39_code 171 = .ok (.getfield 241, 3) := by decide +kernel
theorem d_Model_phrase_174 : decode prog_13_method_39_code 174 = .ok (.iastore, 1) := by decide +kernel
theorem d_Model_phrase_175 : decode prog_13_method_39_code 175 = .ok (.return_, 1) := by decide +kernel
theorem d_Model_takeTokens_0 : decode prog_13_method_38_code 0 = .ok (.aload_n 0, 1) := by decide +kernel
theorem d_Model_takeTokens_1 : decode prog_13_method_38_code 1 = .ok (.getfield 218, 3) := by decide +kernel
theorem d_Model_takeTokens_4 : decode prog_13_method_38_code 4 = .ok (.istore_n 1, 1) := by decide +kernel
theorem d_Model_takeTokens_5 : decode prog_13_method_38_code 5 = .ok (.iload_n 1, 1) := by decide +kernel
theorem d_Model_takeTokens_6 : decode prog_13_method_38_code 6 = .ok (.aload_n 0, 1) := by decide +kernel
theorem d_Model_takeTokens_7 : decode prog_13_method_38_code 7 = .ok (.getfield 215, 3) := by decide +kernel
theorem d_Model_takeTokens_10 : decode prog_13_method_38_code 10 = .ok (.if_icmp .ge 86, 3) := by decide +kernel
theorem d_Model_takeTokens_13 : decode prog_13_method_38_code 13 = .ok (.aload_n 0, 1) := by decide +kernel
theorem d_Model_takeTokens_14 : decode prog_13_method_38_code 14 = .ok (.iload_n 1, 1) := by decide +kernel
theorem d_Model_takeTokens_15 : decode prog_13_method_38_code 15 = .ok (.invokevirtual 221, 3) := by decide +kernel
theorem d_Model_takeTokens_18 : decode prog_13_method_38_code 18 = .ok (.invokestatic 146, 3) := by decide +kernel
theorem d_Model_takeTokens_21 : decode prog_13_method_38_code 21 = .ok (.ifCond .eq 69, 3) := by decide +kernel
theorem d_Model_takeTokens_24 : decode prog_13_method_38_code 24 = .ok (.iload_n 1, 1) := by decide +kernel
theorem d_Model_takeTokens_25 : decode prog_13_method_38_code 25 = .ok (.aload_n 0, 1) := by decide +kernel
theorem d_Model_takeTokens_26 : decode prog_13_method_38_code 26 = .ok (.getfield 218, 3) := by decide +kernel
theorem d_Model_takeTokens_29 : decode prog_13_method_38_code 29 = .ok (.if_icmp .eq 16, 3) := by decide +kernel
theorem d_Model_takeTokens_32 : decode prog_13_method_38_code 32 = .ok (.aload_n 0, 1) := by decide +kernel
theorem d_Model_takeTokens_33 : decode prog_13_method_38_code 33 = .ok (.iload_n 1, 1) := by decide +kernel
theorem d_Model_takeTokens_34 : decode prog_13_method_38_code 34 = .ok (.iconst 1, 1) := by decide +kernel
theorem d_Model_takeTokens_35 : decode prog_13_method_38_code 35 = .ok (.isub, 1) := by decide +kernel
theorem d_Model_takeTokens_36 : decode prog_13_method_38_code 36 = .ok (.invokevirtual 221, 3) := by decide +kernel
theorem d_Model_takeTokens_39 : decode prog_13_method_38_code 39 = .ok (.invokestatic 146, 3) := by decide +kernel
theorem d_Model_takeTokens_42 : decode prog_13_method_38_code 42 = .ok (.ifCond .ne 33, 3) := by decide +kernel
theorem d_Model_takeTokens_45 : decode prog_13_method_38_code 45 = .ok (.aload_n 0, 1) := by decide +kernel
theorem d_Model_takeTokens_46 : decode prog_13_method_38_code 46 = .ok (.getfield 80, 3) := by decide +kernel
theorem d_Model_takeTokens_49 : decode prog_13_method_38_code 49 = .ok (.aload_n 0, 1) := by decide +kernel
theorem d_Model_takeTokens_50 : decode prog_13_method_38_code 50 = .ok (.getfield 241, 3) := by decide +kernel
theorem d_Model_takeTokens_53 : decode prog_13_method_38_code 53 = .ok (.iload_n 1, 1) := by decide +kernel
theorem d_Model_takeTokens_54 : decode prog_13_method_38_code 54 = .ok (.iastore, 1) := by decide +kernel
theorem d_Model_takeTokens_55 : decode prog_13_method_38_code 55 = .ok (.aload_n 0, 1) := by decide +kernel
theorem d_Model_takeTokens_56 : decode prog_13_method_38_code 56 = .ok (.getfield 83, 3) := by decide +kernel
theorem d_Model_takeTokens_59 : decode prog_13_method_38_code 59 = .ok (.aload_n 0, 1) := by decide +kernel
theorem d_Model_takeTokens_60 : decode prog_13_method_38_code 60 = .ok (.getfield 241, 3) := by decide +kernel
theorem d_Model_takeTokens_63 : decode prog_13_method_38_code 63 = .ok (.iconst 0, 1) := by decide +kernel
theorem d_Model_takeTokens_64 : decode prog_13_method_38_code 64 = .ok (.iastore, 1) := by decide +kernel
theorem d_Model_takeTokens_65 : decode prog_13_method_38_code 65 = .ok (.aload_n 0, 1) := by decide +kernel
theorem d_Model_takeTokens_66 : decode prog_13_method_38_code 66 = .ok (.dup, 1) := by decide +kernel
theorem d_Model_takeTokens_67 : decode prog_13_method_38_code 67 = .ok (.getfield 241, 3) := by decide +kernel
theorem d_Model_takeTokens_70 : decode prog_13_method_38_code 70 = .ok (.iconst 1, 1) := by decide +kernel
theorem d_Model_takeTokens_71 : decode prog_13_method_38_code 71 = .ok (.iadd, 1) := by decide +kernel
theorem d_Model_takeTokens_72 : decode prog_13_method_38_code 72 = .ok (.putfield 241, 3) := by decide +kernel
theorem d_Model_takeTokens_75 : decode prog_13_method_38_code 75 = .ok (.aload_n 0, 1) := by decide +kernel
theorem d_Model_takeTokens_76 : decode prog_13_method_38_code 76 = .ok (.getfield 83, 3) := by decide +kernel
theorem d_Model_takeTokens_79 : decode prog_13_method_38_code 79 = .ok (.aload_n 0, 1) := by decide +kernel
theorem d_Model_takeTokens_80 : decode prog_13_method_38_code 80 = .ok (.getfield 241, 3) := by decide +kernel
theorem d_Model_takeTokens_83 : decode prog_13_method_38_code 83 = .ok (.iconst 1, 1) := by decide +kernel
theorem d_Model_takeTokens_84 : decode prog_13_method_38_code 84 = .ok (.isub, 1) := by decide +kernel
theorem d_Model_takeTokens_85 : decode prog_13_method_38_code 85 = .ok (.dup2, 1) := by decide +kernel
theorem d_Model_takeTokens_86 : decode prog_13_method_38_code 86 = .ok (.iaload, 1) := by decide +kernel
theorem d_Model_takeTokens_87 : decode prog_13_method_38_code 87 = .ok (.iconst 1, 1) := by decide +kernel
theorem d_Model_takeTokens_88 : decode prog_13_method_38_code 88 = .ok (.iadd, 1) := by decide +kernel
theorem d_Model_takeTokens_89 : decode prog_13_method_38_code 89 = .ok (.iastore, 1) := by decide +kernel
theorem d_Model_takeTokens_90 : decode prog_13_method_38_code 90 = .ok (.iinc 1 1, 3) := by decide +kernel
theorem d_Model_takeTokens_93 : decode prog_13_method_38_code 93 = .ok (.goto (-88), 3) := by decide +kernel
theorem d_Model_takeTokens_96 : decode prog_13_method_38_code 96 = .ok (.return_, 1) := by decide +kernel
theorem d_Model_finds_0 : decode prog_13_method_57_code 0 = .ok (.iconst 0, 1) := by decide +kernel
theorem d_Model_finds_1 : decode prog_13_method_57_code 1 = .ok (.istore_n 2, 1) := by decide +kernel
theorem d_Model_finds_2 : decode prog_13_method_57_code 2 = .ok (.iconst 0, 1) := by decide +kernel
theorem d_Model_finds_3 : decode prog_13_method_57_code 3 = .ok (.istore_n 3, 1) := by decide +kernel
theorem d_Model_finds_4 : decode prog_13_method_57_code 4 = .ok (.iload_n 3, 1) := by decide +kernel
theorem d_Model_finds_5 : decode prog_13_method_57_code 5 = .ok (.aload_n 0, 1) := by decide +kernel
theorem d_Model_finds_6 : decode prog_13_method_57_code 6 = .ok (.getfield 272, 3) := by decide +kernel
theorem d_Model_finds_9 : decode prog_13_method_57_code 9 = .ok (.if_icmp .ge 142, 3) := by decide +kernel
theorem d_Model_finds_12 : decode prog_13_method_57_code 12 = .ok (.aload_n 0, 1) := by decide +kernel
theorem d_Model_finds_13 : decode prog_13_method_57_code 13 = .ok (.getfield 101, 3) := by decide +kernel
theorem d_Model_finds_16 : decode prog_13_method_57_code 16 = .ok (.iload_n 3, 1) := by decide +kernel
theorem d_Model_finds_17 : decode prog_13_method_57_code 17 = .ok (.iaload, 1) := by decide +kernel
theorem d_Model_finds_18 : decode prog_13_method_57_code 18 = .ok (.ifCond .lt 26, 3) := by decide +kernel
theorem d_Model_finds_21 : decode prog_13_method_57_code 21 = .ok (.aload_n 0, 1) := by decide +kernel
theorem d_Model_finds_22 : decode prog_13_method_57_code 22 = .ok (.getfield 116, 3) := by decide +kernel
theorem d_Model_finds_25 : decode prog_13_method_57_code 25 = .ok (.iload_n 2, 1) := by decide +kernel
theorem d_Model_finds_26 : decode prog_13_method_57_code 26 = .ok (.aload_n 0, 1) := by decide +kernel
theorem d_Model_finds_27 : decode prog_13_method_57_code 27 = .ok (.aload_n 0, 1) := by decide +kernel
theorem d_Model_finds_28 : decode prog_13_method_57_code 28 = .ok (.getfield 101, 3) := by decide +kernel
theorem d_Model_finds_31 : decode prog_13_method_57_code 31 = .ok (.iload_n 3, 1) := by decide +kernel
theorem d_Model_finds_32 : decode prog_13_method_57_code 32 = .ok (.iaload, 1) := by decide +kernel
theorem d_Model_finds_33 : decode prog_13_method_57_code 33 = .ok (.iload_n 1, 1) := by decide +kernel
theorem d_Model_finds_34 : decode prog_13_method_57_code 34 = .ok (.invokevirtual 325, 3) := by decide +kernel
theorem d_Model_finds_37 : decode prog_13_method_57_code 37 = .ok (.bastore, 1) := by decide +kernel
theorem d_Model_finds_38 : decode prog_13_method_57_code 38 = .ok (.iinc 2 1, 3) := by decide +kernel
theorem d_Model_finds_41 : decode prog_13_method_57_code 41 = .ok (.goto 104, 3) := by decide +kernel
theorem d_Model_finds_44 : decode prog_13_method_57_code 44 = .ok (.iinc 2 (-1), 3) := by decide +kernel
theorem d_Model_finds_47 : decode prog_13_method_57_code 47 = .ok (.aload_n 0, 1) := by decide +kernel
theorem d_Model_finds_48 : decode prog_13_method_57_code 48 = .ok (.getfield 116, 3) := by decide +kernel
theorem d_Model_finds_51 : decode prog_13_method_57_code 51 = .ok (.iload_n 2, 1) := by decide +kernel
theorem d_Model_finds_52 : decode prog_13_method_57_code 52 = .ok (.iconst 1, 1) := by decide +kernel
theorem d_Model_finds_53 : decode prog_13_method_57_code 53 = .ok (.isub, 1) := by decide +kernel
theorem d_Model_finds_54 : decode prog_13_method_57_code 54 = .ok (.baload, 1) := by decide +kernel
theorem d_Model_finds_55 : decode prog_13_method_57_code 55 = .ok (.istore 4, 2) := by decide +kernel
theorem d_Model_finds_57 : decode prog_13_method_57_code 57 = .ok (.aload_n 0, 1) := by decide +kernel
theorem d_Model_finds_58 : decode prog_13_method_57_code 58 = .ok (.getfield 116, 3) := by decide +kernel
theorem d_Model_finds_61 : decode prog_13_method_57_code 61 = .ok (.iload_n 2, 1) := by decide +kernel
theorem d_Model_finds_62 : decode prog_13_method_57_code 62 = .ok (.baload, 1) := by decide +kernel
theorem d_Model_finds_63 : decode prog_13_method_57_code 63 = .ok (.istore 5, 2) := by decide +kernel
theorem d_Model_finds_65 : decode prog_13_method_57_code 65 = .ok (.aload_n 0, 1) := by decide +kernel
theorem d_Model_finds_66 : decode prog_13_method_57_code 66 = .ok (.getfield 116, 3) := by decide +kernel
theorem d_Model_finds_69 : decode prog_13_method_57_code 69 = .ok (.iload_n 2, 1) := by decide +kernel
theorem d_Model_finds_70 : decode prog_13_method_57_code 70 = .ok (.iconst 1, 1) := by decide +kernel
theorem d_Model_finds_71 : decode prog_13_method_57_code 71 = .ok (.isub, 1) := by decide +kernel
theorem d_Model_finds_72 : decode prog_13_method_57_code 72 = .ok (.aload_n 0, 1) := by decide +kernel
theorem d_Model_finds_73 : decode prog_13_method_57_code 73 = .ok (.getfield 101, 3) := by decide +kernel
theorem d_Model_finds_76 : decode prog_13_method_57_code 76 = .ok (.iload_n 3, 1) := by decide +kernel
theorem d_Model_finds_77 : decode prog_13_method_57_code 77 = .ok (.iaload, 1) := by decide +kernel
theorem d_Model_finds_78 : decode prog_13_method_57_code 78 = .ok (.iconst (-1), 1) := by decide +kernel
theorem d_Model_finds_79 : decode prog_13_method_57_code 79 = .ok (.if_icmp .ne 21, 3) := by decide +kernel
theorem d_Model_finds_82 : decode prog_13_method_57_code 82 = .ok (.iload 4, 2) := by decide +kernel
theorem d_Model_finds_84 : decode prog_13_method_57_code 84 = .ok (.ifCond .ne 8, 3) := by decide +kernel
theorem d_Model_finds_87 : decode prog_13_method_57_code 87 = .ok (.iload 5, 2) := by decide +kernel
theorem d_Model_finds_89 : decode prog_13_method_57_code 89 = .ok (.ifCond .eq 7, 3) := by decide +kernel
theorem d_Model_finds_92 : decode prog_13_method_57_code 92 = .ok (.iconst 1, 1) := by decide +kernel
theorem d_Model_finds_93 : decode prog_13_method_57_code 93 = .ok (.goto 51, 3) := by decide +kernel
theorem d_Model_finds_96 : decode prog_13_method_57_code 96 = .ok (.iconst 0, 1) := by decide +kernel
theorem d_Model_finds_97 : decode prog_13_method_57_code 97 = .ok (.goto 47, 3) := by decide +kernel
theorem d_Model_finds_100 : decode prog_13_method_57_code 100 = .ok (.aload_n 0, 1) := by decide +kernel
theorem d_Model_finds_101 : decode prog_13_method_57_code 101 = .ok (.getfield 101, 3) := by decide +kernel
theorem d_Model_finds_104 : decode prog_13_method_57_code 104 = .ok (.iload_n 3, 1) := by decide +kernel
theorem d_Model_finds_105 : decode prog_13_method_57_code 105 = .ok (.iaload, 1) := by decide +kernel
theorem d_Model_finds_106 : decode prog_13_method_57_code 106 = .ok (.bipush (-3), 2) := by decide +kernel
theorem d_Model_finds_108 : decode prog_13_method_57_code 108 = .ok (.if_icmp .ne 21, 3) := by decide +kernel
theorem d_Model_finds_111 : decode prog_13_method_57_code 111 = .ok (.iload 4, 2) := by decide +kernel
theorem d_Model_finds_113 : decode prog_13_method_57_code 113 = .ok (.ifCond .eq 12, 3) := by decide +kernel
theorem d_Model_finds_116 : decode prog_13_method_57_code 116 = .ok (.iload 5, 2) := by decide +kernel
theorem d_Model_finds_118 : decode prog_13_method_57_code 118 = .ok (.ifCond .ne 7, 3) := by decide +kernel
theorem d_Model_finds_121 : decode prog_13_method_57_code 121 = .ok (.iconst 1, 1) := by decide +kernel
theorem d_Model_finds_122 : decode prog_13_method_57_code 122 = .ok (.goto 22, 3) := by decide +kernel
theorem d_Model_finds_125 : decode prog_13_method_57_code 125 = .ok (.iconst 0, 1) := by decide +kernel
theorem d_Model_finds_126 : decode prog_13_method_57_code 126 = .ok (.goto 18, 3) := by decide +kernel
theorem d_Model_finds_129 : decode prog_13_method_57_code 129 = .ok (.iload 4, 2) := by decide +kernel
theorem d_Model_finds_131 : decode prog_13_method_57_code 131 = .ok (.ifCond .eq 12, 3) := by decide +kernel
theorem d_Model_finds_134 : decode prog_13_method_57_code 134 = .ok (.iload 5, 2) := by decide +kernel
theorem d_Model_finds_136 : decode prog_13_method_57_code 136 = .ok (.ifCond .eq 7, 3) := by decide +kernel
theorem d_Model_finds_139 : decode prog_13_method_57_code 139 = .ok (.iconst 1, 1) := by decide +kernel
theorem d_Model_finds_140 : decode prog_13_method_57_code 140 = .ok (.goto 4, 3) := by decide +kernel
theorem d_Model_finds_143 : decode prog_13_method_57_code 143 = .ok (.iconst 0, 1) := by decide +kernel
theorem d_Model_finds_144 : decode prog_13_method_57_code 144 = .ok (.bastore, 1) := by decide +kernel
theorem d_Model_finds_145 : decode prog_13_method_57_code 145 = .ok (.iinc 3 1, 3) := by decide +kernel
theorem d_Model_finds_148 : decode prog_13_method_57_code 148 = .ok (.goto (-144), 3) := by decide +kernel
theorem d_Model_finds_151 : decode prog_13_method_57_code 151 = .ok (.aload_n 0, 1) := by decide +kernel
theorem d_Model_finds_152 : decode prog_13_method_57_code 152 = .ok (.getfield 116, 3) := by decide +kernel
theorem d_Model_finds_155 : decode prog_13_method_57_code 155 = .ok (.iconst 0, 1) := by decide +kernel
theorem d_Model_finds_156 : decode prog_13_method_57_code 156 = .ok (.baload, 1) := by decide +kernel
theorem d_Model_finds_157 : decode prog_13_method_57_code 157 = .ok (.ireturn, 1) := by decide +kernel
theorem d_Model_holds_0 : decode prog_13_method_56_code 0 = .ok (.iconst 0, 1) := by decide +kernel
theorem d_Model_holds_1 : decode prog_13_method_56_code 1 = .ok (.istore_n 3, 1) := by decide +kernel
theorem d_Model_holds_2 : decode prog_13_method_56_code 2 = .ok (.iload_n 3, 1) := by decide +kernel
theorem d_Model_holds_3 : decode prog_13_method_56_code 3 = .ok (.iconst 2, 1) := by decide +kernel
theorem d_Model_holds_4 : decode prog_13_method_56_code 4 = .ok (.if_icmp .ge 39, 3) := by decide +kernel
theorem d_Model_holds_7 : decode prog_13_method_56_code 7 = .ok (.aload_n 0, 1) := by decide +kernel
theorem d_Model_holds_8 : decode prog_13_method_56_code 8 = .ok (.getfield 95, 3) := by decide +kernel
theorem d_Model_holds_11 : decode prog_13_method_56_code 11 = .ok (.iload_n 1, 1) := by decide +kernel
theorem d_Model_holds_12 : decode prog_13_method_56_code 12 = .ok (.iaload, 1) := by decide +kernel
theorem d_Model_holds_13 : decode prog_13_method_56_code 13 = .ok (.iload_n 3, 1) := by decide +kernel
theorem d_Model_holds_14 : decode prog_13_method_56_code 14 = .ok (.ishr, 1) := by decide +kernel
theorem d_Model_holds_15 : decode prog_13_method_56_code 15 = .ok (.iconst 1, 1) := by decide +kernel
theorem d_Model_holds_16 : decode prog_13_method_56_code 16 = .ok (.iand, 1) := by decide +kernel
theorem d_Model_holds_17 : decode prog_13_method_56_code 17 = .ok (.iconst 1, 1) := by decide +kernel
theorem d_Model_holds_18 : decode prog_13_method_56_code 18 = .ok (.if_icmp .ne 19, 3) := by decide +kernel
theorem d_Model_holds_21 : decode prog_13_method_56_code 21 = .ok (.aload_n 0, 1) := by decide +kernel
theorem d_Model_holds_22 : decode prog_13_method_56_code 22 = .ok (.iload_n 2, 1) := by decide +kernel
theorem d_Model_holds_23 : decode prog_13_method_56_code 23 = .ok (.iload_n 3, 1) := by decide +kernel
theorem d_Model_holds_24 : decode prog_13_method_56_code 24 = .ok (.invokevirtual 153, 3) := by decide +kernel
theorem d_Model_holds_27 : decode prog_13_method_56_code 27 = .ok (.aload_n 0, 1) := by decide +kernel
theorem d_Model_holds_28 : decode prog_13_method_56_code 28 = .ok (.iload_n 1, 1) := by decide +kernel
theorem d_Model_holds_29 : decode prog_13_method_56_code 29 = .ok (.invokevirtual 322, 3) := by decide +kernel
theorem d_Model_holds_32 : decode prog_13_method_56_code 32 = .ok (.ifCond .eq 5, 3) := by decide +kernel
theorem d_Model_holds_35 : decode prog_13_method_56_code 35 = .ok (.iconst 1, 1) := by decide +kernel
theorem d_Model_holds_36 : decode prog_13_method_56_code 36 = .ok (.ireturn, 1) := by decide +kernel
theorem d_Model_holds_37 : decode prog_13_method_56_code 37 = .ok (.iinc 3 1, 3) := by decide +kernel
theorem d_Model_holds_40 : decode prog_13_method_56_code 40 = .ok (.goto (-38), 3) := by decide +kernel
theorem d_Model_holds_43 : decode prog_13_method_56_code 43 = .ok (.iconst 0, 1) := by decide +kernel
theorem d_Model_holds_44 : decode prog_13_method_56_code 44 = .ok (.ireturn, 1) := by decide +kernel
theorem d_Model_holdsHere_0 : decode prog_13_method_55_code 0 = .ok (.aload_n 0, 1) := by decide +kernel
theorem d_Model_holdsHere_1 : decode prog_13_method_55_code 1 = .ok (.getfield 89, 3) := by decide +kernel
theorem d_Model_holdsHere_4 : decode prog_13_method_55_code 4 = .ok (.iload_n 1, 1) := by decide +kernel
theorem d_Model_holdsHere_5 : decode prog_13_method_55_code 5 = .ok (.iaload, 1) := by decide +kernel
theorem d_Model_holdsHere_6 : decode prog_13_method_55_code 6 = .ok (.istore_n 2, 1) := by decide +kernel
theorem d_Model_holdsHere_7 : decode prog_13_method_55_code 7 = .ok (.aload_n 0, 1) := by decide +kernel
theorem d_Model_holdsHere_8 : decode prog_13_method_55_code 8 = .ok (.getfield 86, 3) := by decide +kernel
theorem d_Model_holdsHere_11 : decode prog_13_method_55_code 11 = .ok (.iload_n 1, 1) := by decide +kernel
theorem d_Model_holdsHere_12 : decode prog_13_method_55_code 12 = .ok (.iaload, 1) := by decide +kernel
theorem d_Model_holdsHere_13 : decode prog_13_method_55_code 13 = .ok (.iconst 1, 1) := by decide +kernel
theorem d_Model_holdsHere_14 : decode prog_13_method_55_code 14 = .ok (.if_icmp .ne 10, 3) := by decide +kernel
theorem d_Model_holdsHere_17 : decode prog_13_method_55_code 17 = .ok (.aload_n 0, 1) := by decide +kernel
theorem d_Model_holdsHere_18 : decode prog_13_method_55_code 18 = .ok (.iload_n 2, 1) := by decide +kernel
theorem d_Model_holdsHere_19 : decode prog_13_method_55_code 19 = .ok (.iconst 0, 1) := by decide +kernel
theorem d_Model_holdsHere_20 : decode prog_13_method_55_code 20 = .ok (.invokevirtual 316, 3) := by decide +kernel
theorem d_Model_holdsHere_23 : decode prog_13_method_55_code 23 = .ok (.ireturn, 1) := by decide +kernel
theorem d_Model_holdsHere_24 : decode prog_13_method_55_code 24 = .ok (.aload_n 0, 1) := by decide +kernel
theorem d_Model_holdsHere_25 : decode prog_13_method_55_code 25 = .ok (.getfield 86, 3) := by decide +kernel
theorem d_Model_holdsHere_28 : decode prog_13_method_55_code 28 = .ok (.iload_n 1, 1) := by decide +kernel
theorem d_Model_holdsHere_29 : decode prog_13_method_55_code 29 = .ok (.iaload, 1) := by decide +kernel
theorem d_Model_holdsHere_30 : decode prog_13_method_55_code 30 = .ok (.ifCond .ne 12, 3) := by decide +kernel
theorem d_Model_holdsHere_33 : decode prog_13_method_55_code 33 = .ok (.aload_n 0, 1) := by decide +kernel
theorem d_Model_holdsHere_34 : decode prog_13_method_55_code 34 = .ok (.iload_n 2, 1) := by decide +kernel
theorem d_Model_holdsHere_35 : decode prog_13_method_55_code 35 = .ok (.iconst 0, 1) := by decide +kernel
theorem d_Model_holdsHere_36 : decode prog_13_method_55_code 36 = .ok (.bipush 48, 2) := by decide +kernel
theorem d_Model_holdsHere_38 : decode prog_13_method_55_code 38 = .ok (.invokevirtual 319, 3) := by decide +kernel
theorem d_Model_holdsHere_41 : decode prog_13_method_55_code 41 = .ok (.ireturn, 1) := by decide +kernel
theorem d_Model_holdsHere_42 : decode prog_13_method_55_code 42 = .ok (.iconst 0, 1) := by decide +kernel
theorem d_Model_holdsHere_43 : decode prog_13_method_55_code 43 = .ok (.istore_n 3, 1) := by decide +kernel
theorem d_Model_holdsHere_44 : decode prog_13_method_55_code 44 = .ok (.iload_n 3, 1) := by decide +kernel
theorem d_Model_holdsHere_45 : decode prog_13_method_55_code 45 = .ok (.aload_n 0, 1) := by decide +kernel
theorem d_Model_holdsHere_46 : decode prog_13_method_55_code 46 = .ok (.getfield 150, 3) := by decide +kernel
theorem d_Model_holdsHere_49 : decode prog_13_method_55_code 49 = .ok (.if_icmp .gt 61, 3) := by decide +kernel
theorem d_Model_holdsHere_52 : decode prog_13_method_55_code 52 = .ok (.iconst 1, 1) := by decide +kernel
theorem d_Model_holdsHere_53 : decode prog_13_method_55_code 53 = .ok (.istore 4, 2) := by decide +kernel
theorem d_Model_holdsHere_55 : decode prog_13_method_55_code 55 = .ok (.iconst 0, 1) := by decide +kernel
theorem d_Model_holdsHere_56 : decode prog_13_method_55_code 56 = .ok (.istore 5, 2) := by decide +kernel
theorem d_Model_holdsHere_58 : decode prog_13_method_55_code 58 = .ok (.iload 5, 2) := by decide +kernel
theorem d_Model_holdsHere_60 : decode prog_13_method_55_code 60 = .ok (.aload_n 0, 1) := by decide +kernel
theorem d_Model_holdsHere_61 : decode prog_13_method_55_code 61 = .ok (.getfield 92, 3) := by decide +kernel
theorem d_Model_holdsHere_64 : decode prog_13_method_55_code 64 = .ok (.iload_n 1, 1) := by decide +kernel
theorem d_Model_holdsHere_65 : decode prog_13_method_55_code 65 = .ok (.iaload, 1) := by decide +kernel
theorem d_Model_holdsHere_66 : decode prog_13_method_55_code 66 = .ok (.if_icmp .ge 31, 3) := by decide +kernel
theorem d_Model_holdsHere_69 : decode prog_13_method_55_code 69 = .ok (.iload 4, 2) := by decide +kernel
theorem d_Model_holdsHere_71 : decode prog_13_method_55_code 71 = .ok (.aload_n 0, 1) := by decide +kernel
theorem d_Model_holdsHere_72 : decode prog_13_method_55_code 72 = .ok (.iload_n 2, 1) := by decide +kernel
theorem d_Model_holdsHere_73 : decode prog_13_method_55_code 73 = .ok (.iload 5, 2) := by decide +kernel
theorem d_Model_holdsHere_75 : decode prog_13_method_55_code 75 = .ok (.iadd, 1) := by decide +kernel
theorem d_Model_holdsHere_76 : decode prog_13_method_55_code 76 = .ok (.iload_n 3, 1) := by decide +kernel
theorem d_Model_holdsHere_77 : decode prog_13_method_55_code 77 = .ok (.iload_n 3, 1) := by decide +kernel
theorem d_Model_holdsHere_78 : decode prog_13_method_55_code 78 = .ok (.aload_n 0, 1) := by decide +kernel
theorem d_Model_holdsHere_79 : decode prog_13_method_55_code 79 = .ok (.getfield 98, 3) := by decide +kernel
theorem d_Model_holdsHere_82 : decode prog_13_method_55_code 82 = .ok (.iload_n 1, 1) := by decide +kernel
theorem d_Model_holdsHere_83 : decode prog_13_method_55_code 83 = .ok (.iaload, 1) := by decide +kernel
theorem d_Model_holdsHere_84 : decode prog_13_method_55_code 84 = .ok (.iadd, 1) := by decide +kernel
theorem d_Model_holdsHere_85 : decode prog_13_method_55_code 85 = .ok (.invokevirtual 319, 3) := by decide +kernel
theorem d_Model_holdsHere_88 : decode prog_13_method_55_code 88 = .ok (.iand, 1) := by decide +kernel
theorem d_Model_holdsHere_89 : decode prog_13_method_55_code 89 = .ok (.istore 4, 2) := by decide +kernel
theorem d_Model_holdsHere_91 : decode prog_13_method_55_code 91 = .ok (.iinc 5 1, 3) := by decide +kernel
theorem d_Model_holdsHere_94 : decode prog_13_method_55_code 94 = .ok (.goto (-36), 3) := by decide +kernel
theorem d_Model_holdsHere_97 : decode prog_13_method_55_code 97 = .ok (.iload 4, 2) := by decide +kernel
theorem d_Model_holdsHere_99 : decode prog_13_method_55_code 99 = .ok (.ifCond .eq 5, 3) := by decide +kernel
theorem d_Model_holdsHere_102 : decode prog_13_method_55_code 102 = .ok (.iconst 1, 1) := by decide +kernel
theorem d_Model_holdsHere_103 : decode prog_13_method_55_code 103 = .ok (.ireturn, 1) := by decide +kernel
theorem d_Model_holdsHere_104 : decode prog_13_method_55_code 104 = .ok (.iinc 3 1, 3) := by decide +kernel
theorem d_Model_holdsHere_107 : decode prog_13_method_55_code 107 = .ok (.goto (-63), 3) := by decide +kernel
theorem d_Model_holdsHere_110 : decode prog_13_method_55_code 110 = .ok (.iconst 0, 1) := by decide +kernel
theorem d_Model_holdsHere_111 : decode prog_13_method_55_code 111 = .ok (.ireturn, 1) := by decide +kernel
theorem d_Model_stands_0 : decode prog_13_method_53_code 0 = .ok (.aload_n 0, 1) := by decide +kernel
theorem d_Model_stands_1 : decode prog_13_method_53_code 1 = .ok (.iload_n 1, 1) := by decide +kernel
theorem d_Model_stands_2 : decode prog_13_method_53_code 2 = .ok (.invokevirtual 309, 3) := by decide +kernel
theorem d_Model_stands_5 : decode prog_13_method_53_code 5 = .ok (.istore_n 3, 1) := by decide +kernel
theorem d_Model_stands_6 : decode prog_13_method_53_code 6 = .ok (.iload_n 3, 1) := by decide +kernel
theorem d_Model_stands_7 : decode prog_13_method_53_code 7 = .ok (.ifCond .eq 13, 3) := by decide +kernel
theorem d_Model_stands_10 : decode prog_13_method_53_code 10 = .ok (.iload_n 2, 1) := by decide +kernel
theorem d_Model_stands_11 : decode prog_13_method_53_code 11 = .ok (.iload_n 3, 1) := by decide +kernel
theorem d_Model_stands_12 : decode prog_13_method_53_code 12 = .ok (.iadd, 1) := by decide +kernel
theorem d_Model_stands_13 : decode prog_13_method_53_code 13 = .ok (.aload_n 0, 1) := by decide +kernel
theorem d_Model_stands_14 : decode prog_13_method_53_code 14 = .ok (.getfield 150, 3) := by decide +kernel
theorem d_Model_stands_17 : decode prog_13_method_53_code 17 = .ok (.if_icmp .le 5, 3) := by decide +kernel
theorem d_Model_stands_20 : decode prog_13_method_53_code 20 = .ok (.iconst 0, 1) := by decide +kernel
theorem d_Model_stands_21 : decode prog_13_method_53_code 21 = .ok (.ireturn, 1) := by decide +kernel
theorem d_Model_stands_22 : decode prog_13_method_53_code 22 = .ok (.iconst 0, 1) := by decide +kernel
theorem d_Model_stands_23 : decode prog_13_method_53_code 23 = .ok (.istore 4, 2) := by decide +kernel
theorem d_Model_stands_25 : decode prog_13_method_53_code 25 = .ok (.iload 4, 2) := by decide +kernel
theorem d_Model_stands_27 : decode prog_13_method_53_code 27 = .ok (.iload_n 3, 1) := by decide +kernel
theorem d_Model_stands_28 : decode prog_13_method_53_code 28 = .ok (.if_icmp .ge 58, 3) := by decide +kernel
theorem d_Model_stands_31 : decode prog_13_method_53_code 31 = .ok (.aload_n 0, 1) := by decide +kernel
theorem d_Model_stands_32 : decode prog_13_method_53_code 32 = .ok (.iload_n 2, 1) := by decide +kernel
theorem d_Model_stands_33 : decode prog_13_method_53_code 33 = .ok (.iload 4, 2) := by decide +kernel
theorem d_Model_stands_35 : decode prog_13_method_53_code 35 = .ok (.iadd, 1) := by decide +kernel
theorem d_Model_stands_36 : decode prog_13_method_53_code 36 = .ok (.aload_n 0, 1) := by decide +kernel
theorem d_Model_stands_37 : decode prog_13_method_53_code 37 = .ok (.getfield 74, 3) := by decide +kernel
theorem d_Model_stands_40 : decode prog_13_method_53_code 40 = .ok (.iload_n 1, 1) := by decide +kernel
theorem d_Model_stands_41 : decode prog_13_method_53_code 41 = .ok (.iaload, 1) := by decide +kernel
theorem d_Model_stands_42 : decode prog_13_method_53_code 42 = .ok (.iload 4, 2) := by decide +kernel
theorem d_Model_stands_44 : decode prog_13_method_53_code 44 = .ok (.iadd, 1) := by decide +kernel
theorem d_Model_stands_45 : decode prog_13_method_53_code 45 = .ok (.aload_n 0, 1) := by decide +kernel
theorem d_Model_stands_46 : decode prog_13_method_53_code 46 = .ok (.getfield 77, 3) := by decide +kernel
theorem d_Model_stands_49 : decode prog_13_method_53_code 49 = .ok (.iload_n 1, 1) := by decide +kernel
theorem d_Model_stands_50 : decode prog_13_method_53_code 50 = .ok (.iaload, 1) := by decide +kernel
theorem d_Model_stands_51 : decode prog_13_method_53_code 51 = .ok (.iconst 1, 1) := by decide +kernel
theorem d_Model_stands_52 : decode prog_13_method_53_code 52 = .ok (.if_icmp .ne 15, 3) := by decide +kernel
theorem d_Model_stands_55 : decode prog_13_method_53_code 55 = .ok (.iload 4, 2) := by decide +kernel
theorem d_Model_stands_57 : decode prog_13_method_53_code 57 = .ok (.iload_n 3, 1) := by decide +kernel
theorem d_Model_stands_58 : decode prog_13_method_53_code 58 = .ok (.iconst 1, 1) := by decide +kernel
theorem d_Model_stands_59 : decode prog_13_method_53_code 59 = .ok (.isub, 1) := by decide +kernel
theorem d_Model_stands_60 : decode prog_13_method_53_code 60 = .ok (.if_icmp .ne 7, 3) := by decide +kernel
theorem d_Model_stands_63 : decode prog_13_method_53_code 63 = .ok (.iconst 1, 1) := by decide +kernel
theorem d_Model_stands_64 : decode prog_13_method_53_code 64 = .ok (.goto 4, 3) := by decide +kernel
theorem d_Model_stands_67 : decode prog_13_method_53_code 67 = .ok (.iconst 0, 1) := by decide +kernel
theorem d_Model_stands_68 : decode prog_13_method_53_code 68 = .ok (.invokevirtual 312, 3) := by decide +kernel
theorem d_Model_stands_71 : decode prog_13_method_53_code 71 = .ok (.istore 5, 2) := by decide +kernel
theorem d_Model_stands_73 : decode prog_13_method_53_code 73 = .ok (.iload 5, 2) := by decide +kernel
theorem d_Model_stands_75 : decode prog_13_method_53_code 75 = .ok (.ifCond .ne 5, 3) := by decide +kernel
theorem d_Model_stands_78 : decode prog_13_method_53_code 78 = .ok (.iconst 0, 1) := by decide +kernel
theorem d_Model_stands_79 : decode prog_13_method_53_code 79 = .ok (.ireturn, 1) := by decide +kernel
theorem d_Model_stands_80 : decode prog_13_method_53_code 80 = .ok (.iinc 4 1, 3) := by decide +kernel
theorem d_Model_stands_83 : decode prog_13_method_53_code 83 = .ok (.goto (-58), 3) := by decide +kernel
theorem d_Model_stands_86 : decode prog_13_method_53_code 86 = .ok (.iconst 1, 1) := by decide +kernel
theorem d_Model_stands_87 : decode prog_13_method_53_code 87 = .ok (.ireturn, 1) := by decide +kernel
theorem d_Model_length_0 : decode prog_13_method_52_code 0 = .ok (.aload_n 0, 1) := by decide +kernel
theorem d_Model_length_1 : decode prog_13_method_52_code 1 = .ok (.getfield 74, 3) := by decide +kernel
theorem d_Model_length_4 : decode prog_13_method_52_code 4 = .ok (.iload_n 1, 1) := by decide +kernel
theorem d_Model_length_5 : decode prog_13_method_52_code 5 = .ok (.iconst 1, 1) := by decide +kernel
theorem d_Model_length_6 : decode prog_13_method_52_code 6 = .ok (.iadd, 1) := by decide +kernel
theorem d_Model_length_7 : decode prog_13_method_52_code 7 = .ok (.iaload, 1) := by decide +kernel
theorem d_Model_length_8 : decode prog_13_method_52_code 8 = .ok (.aload_n 0, 1) := by decide +kernel
theorem d_Model_length_9 : decode prog_13_method_52_code 9 = .ok (.getfield 74, 3) := by decide +kernel
theorem d_Model_length_12 : decode prog_13_method_52_code 12 = .ok (.iload_n 1, 1) := by decide +kernel
theorem d_Model_length_13 : decode prog_13_method_52_code 13 = .ok (.iaload, 1) := by decide +kernel
theorem d_Model_length_14 : decode prog_13_method_52_code 14 = .ok (.isub, 1) := by decide +kernel
theorem d_Model_length_15 : decode prog_13_method_52_code 15 = .ok (.ireturn, 1) := by decide +kernel
theorem d_Model_matches_0 : decode prog_13_method_51_code 0 = .ok (.aload_n 0, 1) := by decide +kernel
theorem d_Model_matches_1 : decode prog_13_method_51_code 1 = .ok (.getfield 113, 3) := by decide +kernel
theorem d_Model_matches_4 : decode prog_13_method_51_code 4 = .ok (.iload_n 1, 1) := by decide +kernel
theorem d_Model_matches_5 : decode prog_13_method_51_code 5 = .ok (.iaload, 1) := by decide +kernel
theorem d_Model_matches_6 : decode prog_13_method_51_code 6 = .ok (.aload_n 0, 1) := by decide +kernel
theorem d_Model_matches_7 : decode prog_13_method_51_code 7 = .ok (.getfield 110, 3) := by decide +kernel
theorem d_Model_matches_10 : decode prog_13_method_51_code 10 = .ok (.iload_n 1, 1) := by decide +kernel
theorem d_Model_matches_11 : decode prog_13_method_51_code 11 = .ok (.iaload, 1) := by decide +kernel
theorem d_Model_matches_12 : decode prog_13_method_51_code 12 = .ok (.isub, 1) := by decide +kernel
theorem d_Model_matches_13 : decode prog_13_method_51_code 13 = .ok (.istore 4, 2) := by decide +kernel
theorem d_Model_matches_15 : decode prog_13_method_51_code 15 = .ok (.iload_n 3, 1) := by decide +kernel
theorem d_Model_matches_16 : decode prog_13_method_51_code 16 = .ok (.ifCond .eq 17, 3) := by decide +kernel
theorem d_Model_matches_19 : decode prog_13_method_51_code 19 = .ok (.aload_n 0, 1) := by decide +kernel
theorem d_Model_matches_20 : decode prog_13_method_51_code 20 = .ok (.getfield 83, 3) := by decide +kernel
theorem d_Model_matches_23 : decode prog_13_method_51_code 23 = .ok (.iload_n 2, 1) := by decide +kernel
theorem d_Model_matches_24 : decode prog_13_method_51_code 24 = .ok (.iaload, 1) := by decide +kernel
theorem d_Model_matches_25 : decode prog_13_method_51_code 25 = .ok (.iload 4, 2) := by decide +kernel
theorem d_Model_matches_27 : decode prog_13_method_51_code 27 = .ok (.if_icmp .le 19, 3) := by decide +kernel
theorem d_Model_matches_30 : decode prog_13_method_51_code 30 = .ok (.goto 14, 3) := by decide +kernel
theorem d_Model_matches_33 : decode prog_13_method_51_code 33 = .ok (.aload_n 0, 1) := by decide +kernel
theorem d_Model_matches_34 : decode prog_13_method_51_code 34 = .ok (.getfield 83, 3) := by decide +kernel
theorem d_Model_matches_37 : decode prog_13_method_51_code 37 = .ok (.iload_n 2, 1) := by decide +kernel
theorem d_Model_matches_38 : decode prog_13_method_51_code 38 = .ok (.iaload, 1) := by decide +kernel
theorem d_Model_matches_39 : decode prog_13_method_51_code 39 = .ok (.iload 4, 2) := by decide +kernel
theorem d_Model_matches_41 : decode prog_13_method_51_code 41 = .ok (.if_icmp .eq 5, 3) := by decide +kernel
theorem d_Model_matches_44 : decode prog_13_method_51_code 44 = .ok (.iconst 0, 1) := by decide +kernel
theorem d_Model_matches_45 : decode prog_13_method_51_code 45 = .ok (.ireturn, 1) := by decide +kernel
theorem d_Model_matches_46 : decode prog_13_method_51_code 46 = .ok (.iconst 0, 1) := by decide +kernel
theorem d_Model_matches_47 : decode prog_13_method_51_code 47 = .ok (.istore 5, 2) := by decide +kernel
theorem d_Model_matches_49 : decode prog_13_method_51_code 49 = .ok (.iload 5, 2) := by decide +kernel
theorem d_Model_matches_51 : decode prog_13_method_51_code 51 = .ok (.aload_n 0, 1) := by decide +kernel
theorem d_Model_matches_52 : decode prog_13_method_51_code 52 = .ok (.getfield 83, 3) := by decide +kernel
theorem d_Model_matches_55 : decode prog_13_method_51_code 55 = .ok (.iload_n 2, 1) := by decide +kernel
theorem d_Model_matches_56 : decode prog_13_method_51_code 56 = .ok (.iaload, 1) := by decide +kernel
theorem d_Model_matches_57 : decode prog_13_method_51_code 57 = .ok (.if_icmp .ge 48, 3) := by decide +kernel
theorem d_Model_matches_60 : decode prog_13_method_51_code 60 = .ok (.aload_n 0, 1) := by decide +kernel
theorem d_Model_matches_61 : decode prog_13_method_51_code 61 = .ok (.getfield 29, 3) := by decide +kernel
theorem d_Model_matches_64 : decode prog_13_method_51_code 64 = .ok (.aload_n 0, 1) := by decide +kernel
theorem d_Model_matches_65 : decode prog_13_method_51_code 65 = .ok (.getfield 110, 3) := by decide +kernel
theorem d_Model_matches_68 : decode prog_13_method_51_code 68 = .ok (.iload_n 1, 1) := by decide +kernel
theorem d_Model_matches_69 : decode prog_13_method_51_code 69 = .ok (.iaload, 1) := by decide +kernel
theorem d_Model_matches_70 : decode prog_13_method_51_code 70 = .ok (.iload 5, 2) := by decide +kernel
theorem d_Model_matches_72 : decode prog_13_method_51_code 72 = .ok (.iadd, 1) := by decide +kernel
theorem d_Model_matches_73 : decode prog_13_method_51_code 73 = .ok (.iaload, 1) := by decide +kernel
theorem d_Model_matches_74 : decode prog_13_method_51_code 74 = .ok (.invokestatic 157, 3) := by decide +kernel
theorem d_Model_matches_77 : decode prog_13_method_51_code 77 = .ok (.aload_n 0, 1) := by decide +kernel
theorem d_Model_matches_78 : decode prog_13_method_51_code 78 = .ok (.getfield 20, 3) := by decide +kernel
theorem d_Model_matches_81 : decode prog_13_method_51_code 81 = .ok (.aload_n 0, 1) := by decide +kernel
theorem d_Model_matches_82 : decode prog_13_method_51_code 82 = .ok (.getfield 80, 3) := by decide +kernel
theorem d_Model_matches_85 : decode prog_13_method_51_code 85 = .ok (.iload_n 2, 1) := by decide +kernel
theorem d_Model_matches_86 : decode prog_13_method_51_code 86 = .ok (.iaload, 1) := by decide +kernel
theorem d_Model_matches_87 : decode prog_13_method_51_code 87 = .ok (.iload 5, 2) := by decide +kernel
theorem d_Model_matches_89 : decode prog_13_method_51_code 89 = .ok (.iadd, 1) := by decide +kernel
theorem d_Model_matches_90 : decode prog_13_method_51_code 90 = .ok (.iaload, 1) := by decide +kernel
theorem d_Model_matches_91 : decode prog_13_method_51_code 91 = .ok (.invokestatic 157, 3) := by decide +kernel
theorem d_Model_matches_94 : decode prog_13_method_51_code 94 = .ok (.if_icmp .eq 5, 3) := by decide +kernel
theorem d_Model_matches_97 : decode prog_13_method_51_code 97 = .ok (.iconst 0, 1) := by decide +kernel
theorem d_Model_matches_98 : decode prog_13_method_51_code 98 = .ok (.ireturn, 1) := by decide +kernel
theorem d_Model_matches_99 : decode prog_13_method_51_code 99 = .ok (.iinc 5 1, 3) := by decide +kernel
theorem d_Model_matches_102 : decode prog_13_method_51_code 102 = .ok (.goto (-53), 3) := by decide +kernel
theorem d_Model_matches_105 : decode prog_13_method_51_code 105 = .ok (.iconst 1, 1) := by decide +kernel
theorem d_Model_matches_106 : decode prog_13_method_51_code 106 = .ok (.ireturn, 1) := by decide +kernel
theorem d_Model_standsBetween_0 : decode prog_13_method_54_code 0 = .ok (.iconst 0, 1) := by decide +kernel
theorem d_Model_standsBetween_1 : decode prog_13_method_54_code 1 = .ok (.istore 4, 2) := by decide +kernel
theorem d_Model_standsBetween_3 : decode prog_13_method_54_code 3 = .ok (.iload 4, 2) := by decide +kernel
theorem d_Model_standsBetween_5 : decode prog_13_method_54_code 5 = .ok (.aload_n 0, 1) := by decide +kernel
theorem d_Model_standsBetween_6 : decode prog_13_method_54_code 6 = .ok (.getfield 150, 3) := by decide +kernel
theorem d_Model_standsBetween_9 : decode prog_13_method_54_code 9 = .ok (.if_icmp .ge 39, 3) := by decide +kernel
theorem d_Model_standsBetween_12 : decode prog_13_method_54_code 12 = .ok (.iload 4, 2) := by decide +kernel
theorem d_Model_standsBetween_14 : decode prog_13_method_54_code 14 = .ok (.iload_n 3, 1) := by decide +kernel
theorem d_Model_standsBetween_15 : decode prog_13_method_54_code 15 = .ok (.if_icmp .gt 33, 3) := by decide +kernel
theorem d_Model_standsBetween_18 : decode prog_13_method_54_code 18 = .ok (.iload 4, 2) := by decide +kernel
theorem d_Model_standsBetween_20 : decode prog_13_method_54_code 20 = .ok (.aload_n 0, 1) := by decide +kernel
theorem d_Model_standsBetween_21 : decode prog_13_method_54_code 21 = .ok (.iload_n 1, 1) := by decide +kernel
theorem d_Model_standsBetween_22 : decode prog_13_method_54_code 22 = .ok (.invokevirtual 309, 3) := by decide +kernel
theorem d_Model_standsBetween_25 : decode prog_13_method_54_code 25 = .ok (.iadd, 1) := by decide +kernel
theorem d_Model_standsBetween_26 : decode prog_13_method_54_code 26 = .ok (.iload_n 2, 1) := by decide +kernel
theorem d_Model_standsBetween_27 : decode prog_13_method_54_code 27 = .ok (.if_icmp .lt 15, 3) := by decide +kernel
theorem d_Model_standsBetween_30 : decode prog_13_method_54_code 30 = .ok (.aload_n 0, 1) := by decide +kernel
theorem d_Model_standsBetween_31 : decode prog_13_method_54_code 31 = .ok (.iload_n 1, 1) := by decide +kernel
theorem d_Model_standsBetween_32 : decode prog_13_method_54_code 32 = .ok (.iload 4, 2) := by decide +kernel
theorem d_Model_standsBetween_34 : decode prog_13_method_54_code 34 = .ok (.invokevirtual 316, 3) := by decide +kernel
theorem d_Model_standsBetween_37 : decode prog_13_method_54_code 37 = .ok (.ifCond .eq 5, 3) := by decide +kernel
theorem d_Model_standsBetween_40 : decode prog_13_method_54_code 40 = .ok (.iconst 1, 1) := by decide +kernel
theorem d_Model_standsBetween_41 : decode prog_13_method_54_code 41 = .ok (.ireturn, 1) := by decide +kernel
theorem d_Model_standsBetween_42 : decode prog_13_method_54_code 42 = .ok (.iinc 4 1, 3) := by decide +kernel
theorem d_Model_standsBetween_45 : decode prog_13_method_54_code 45 = .ok (.goto (-42), 3) := by decide +kernel
theorem d_Model_standsBetween_48 : decode prog_13_method_54_code 48 = .ok (.iconst 0, 1) := by decide +kernel
theorem d_Model_standsBetween_49 : decode prog_13_method_54_code 49 = .ok (.ireturn, 1) := by decide +kernel
theorem d_Model_scoreOf_0 : decode prog_13_method_60_code 0 = .ok (.dconst 0, 1) := by decide +kernel
theorem d_Model_scoreOf_1 : decode prog_13_method_60_code 1 = .ok (.dstore_n 2, 1) := by decide +kernel
theorem d_Model_scoreOf_2 : decode prog_13_method_60_code 2 = .ok (.iconst 0, 1) := by decide +kernel
theorem d_Model_scoreOf_3 : decode prog_13_method_60_code 3 = .ok (.istore 4, 2) := by decide +kernel
theorem d_Model_scoreOf_5 : decode prog_13_method_60_code 5 = .ok (.aload_n 0, 1) := by decide +kernel
theorem d_Model_scoreOf_6 : decode prog_13_method_60_code 6 = .ok (.invokevirtual 209, 3) := by decide +kernel
theorem d_Model_scoreOf_9 : decode prog_13_method_60_code 9 = .ok (.istore 5, 2) := by decide +kernel
theorem d_Model_scoreOf_11 : decode prog_13_method_60_code 11 = .ok (.iconst 0, 1) := by decide +kernel
theorem d_Model_scoreOf_12 : decode prog_13_method_60_code 12 = .ok (.istore 6, 2) := by decide +kernel
theorem d_Model_scoreOf_14 : decode prog_13_method_60_code 14 = .ok (.iload 6, 2) := by decide +kernel
theorem d_Model_scoreOf_16 : decode prog_13_method_60_code 16 = .ok (.bipush 24, 2) := by decide +kernel
theorem d_Model_scoreOf_18 : decode prog_13_method_60_code 18 = .ok (.if_icmp .ge 30, 3) := by decide +kernel
theorem d_Model_scoreOf_21 : decode prog_13_method_60_code 21 = .ok (.aload_n 0, 1) := by decide +kernel
theorem d_Model_scoreOf_22 : decode prog_13_method_60_code 22 = .ok (.getfield 44, 3) := by decide +kernel
theorem d_Model_scoreOf_25 : decode prog_13_method_60_code 25 = .ok (.iload 6, 2) := by decide +kernel
theorem d_Model_scoreOf_27 : decode prog_13_method_60_code 27 = .ok (.iaload, 1) := by decide +kernel
theorem d_Model_scoreOf_28 : decode prog_13_method_60_code 28 = .ok (.ifCond .lt 14, 3) := by decide +kernel
theorem d_Model_scoreOf_31 : decode prog_13_method_60_code 31 = .ok (.iload 4, 2) := by decide +kernel
theorem d_Model_scoreOf_33 : decode prog_13_method_60_code 33 = .ok (.aload_n 0, 1) := by decide +kernel
theorem d_Model_scoreOf_34 : decode prog_13_method_60_code 34 = .ok (.iload 6, 2) := by decide +kernel
theorem d_Model_scoreOf_36 : decode prog_13_method_60_code 36 = .ok (.invokevirtual 184, 3) := by decide +kernel
theorem d_Model_scoreOf_39 : decode prog_13_method_60_code 39 = .ok (.iadd, 1) := by decide +kernel
theorem d_Model_scoreOf_40 : decode prog_13_method_60_code 40 = .ok (.istore 4, 2) := by decide +kernel
theorem d_Model_scoreOf_42 : decode prog_13_method_60_code 42 = .ok (.iinc 6 1, 3) := by decide +kernel
theorem d_Model_scoreOf_45 : decode prog_13_method_60_code 45 = .ok (.goto (-31), 3) := by decide +kernel
theorem d_Model_scoreOf_48 : decode prog_13_method_60_code 48 = .ok (.iconst 0, 1) := by decide +kernel
theorem d_Model_scoreOf_49 : decode prog_13_method_60_code 49 = .ok (.istore 6, 2) := by decide +kernel
theorem d_Model_scoreOf_51 : decode prog_13_method_60_code 51 = .ok (.iload 6, 2) := by decide +kernel
theorem d_Model_scoreOf_53 : decode prog_13_method_60_code 53 = .ok (.aload_n 0, 1) := by decide +kernel
theorem d_Model_scoreOf_54 : decode prog_13_method_60_code 54 = .ok (.getfield 247, 3) := by decide +kernel
theorem d_Model_scoreOf_57 : decode prog_13_method_60_code 57 = .ok (.if_icmp .ge 192, 3) := by decide +kernel
theorem d_Model_scoreOf_60 : decode prog_13_method_60_code 60 = .ok (.iconst 0, 1) := by decide +kernel
theorem d_Model_scoreOf_61 : decode prog_13_method_60_code 61 = .ok (.istore 7, 2) := by decide +kernel
theorem d_Model_scoreOf_63 : decode prog_13_method_60_code 63 = .ok (.iconst 0, 1) := by decide +kernel
theorem d_Model_scoreOf_64 : decode prog_13_method_60_code 64 = .ok (.istore 8, 2) := by decide +kernel
theorem d_Model_scoreOf_66 : decode prog_13_method_60_code 66 = .ok (.iload 8, 2) := by decide +kernel
theorem d_Model_scoreOf_68 : decode prog_13_method_60_code 68 = .ok (.bipush 24, 2) := by decide +kernel
theorem d_Model_scoreOf_70 : decode prog_13_method_60_code 70 = .ok (.if_icmp .ge 44, 3) := by decide +kernel
theorem d_Model_scoreOf_73 : decode prog_13_method_60_code 73 = .ok (.aload_n 0, 1) := by decide +kernel
theorem d_Model_scoreOf_74 : decode prog_13_method_60_code 74 = .ok (.getfield 44, 3) := by decide +kernel
theorem d_Model_scoreOf_77 : decode prog_13_method_60_code 77 = .ok (.iload 8, 2) := by decide +kernel
theorem d_Model_scoreOf_79 : decode prog_13_method_60_code 79 = .ok (.iaload, 1) := by decide +kernel
theorem d_Model_scoreOf_80 : decode prog_13_method_60_code 80 = .ok (.ifCond .lt 28, 3) := by decide +kernel
theorem d_Model_scoreOf_83 : decode prog_13_method_60_code 83 = .ok (.aload_n 0, 1) := by decide +kernel
theorem d_Model_scoreOf_84 : decode prog_13_method_60_code 84 = .ok (.iload 6, 2) := by decide +kernel
theorem d_Model_scoreOf_86 : decode prog_13_method_60_code 86 = .ok (.iload 8, 2) := by decide +kernel
theorem d_Model_scoreOf_88 : decode prog_13_method_60_code 88 = .ok (.iconst 0, 1) := by decide +kernel
theorem d_Model_scoreOf_89 : decode prog_13_method_60_code 89 = .ok (.invokevirtual 336, 3) := by decide +kernel
theorem d_Model_scoreOf_92 : decode prog_13_method_60_code 92 = .ok (.aload_n 0, 1) := by decide +kernel
theorem d_Model_scoreOf_93 : decode prog_13_method_60_code 93 = .ok (.iload 6, 2) := by decide +kernel
theorem d_Model_scoreOf_95 : decode prog_13_method_60_code 95 = .ok (.iload 8, 2) := by decide +kernel
theorem d_Model_scoreOf_97 : decode prog_13_method_60_code 97 = .ok (.iconst 1, 1) := by decide +kernel
theorem d_Model_scoreOf_98 : decode prog_13_method_60_code 98 = .ok (.invokevirtual 336, 3) := by decide +kernel
theorem d_Model_scoreOf_101 : decode prog_13_method_60_code 101 = .ok (.iadd, 1) := by decide +kernel
theorem d_Model_scoreOf_102 : decode prog_13_method_60_code 102 = .ok (.ifCond .le 6, 3) := by decide +kernel
theorem d_Model_scoreOf_105 : decode prog_13_method_60_code 105 = .ok (.iinc 7 1, 3) := by decide +kernel
theorem d_Model_scoreOf_108 : decode prog_13_method_60_code 108 = .ok (.iinc 8 1, 3) := by decide +kernel
theorem d_Model_scoreOf_111 : decode prog_13_method_60_code 111 = .ok (.goto (-45), 3) := by decide +kernel
theorem d_Model_scoreOf_114 : decode prog_13_method_60_code 114 = .ok (.aload_n 0, 1) := by decide +kernel
theorem d_Model_scoreOf_115 : decode prog_13_method_60_code 115 = .ok (.getfield 35, 3) := by decide +kernel
theorem d_Model_scoreOf_118 : decode prog_13_method_60_code 118 = .ok (.iconst 0, 1) := by decide +kernel
theorem d_Model_scoreOf_119 : decode prog_13_method_60_code 119 = .ok (.iaload, 1) := by decide +kernel
theorem d_Model_scoreOf_120 : decode prog_13_method_60_code 120 = .ok (.aload_n 0, 1) := by decide +kernel
theorem d_Model_scoreOf_121 : decode prog_13_method_60_code 121 = .ok (.iload 6, 2) := by decide +kernel
theorem d_Model_scoreOf_123 : decode prog_13_method_60_code 123 = .ok (.iload_n 1, 1) := by decide +kernel
theorem d_Model_scoreOf_124 : decode prog_13_method_60_code 124 = .ok (.iconst 0, 1) := by decide +kernel
theorem d_Model_scoreOf_125 : decode prog_13_method_60_code 125 = .ok (.invokevirtual 336, 3) := by decide +kernel
theorem d_Model_scoreOf_128 : decode prog_13_method_60_code 128 = .ok (.imul, 1) := by decide +kernel
theorem d_Model_scoreOf_129 : decode prog_13_method_60_code 129 = .ok (.aload_n 0, 1) := by decide +kernel
theorem d_Model_scoreOf_130 : decode prog_13_method_60_code 130 = .ok (.getfield 35, 3) := by decide +kernel
theorem d_Model_scoreOf_133 : decode prog_13_method_60_code 133 = .ok (.iconst 1, 1) := by decide +kernel
theorem d_Model_scoreOf_134 : decode prog_13_method_60_code 134 = .ok (.iaload, 1) := by decide +kernel
theorem d_Model_scoreOf_135 : decode prog_13_method_60_code 135 = .ok (.aload_n 0, 1) := by decide +kernel
theorem d_Model_scoreOf_136 : decode prog_13_method_60_code 136 = .ok (.iload 6, 2) := by decide +kernel
theorem d_Model_scoreOf_138 : decode prog_13_method_60_code 138 = .ok (.iload_n 1, 1) := by decide +kernel
theorem d_Model_scoreOf_139 : decode prog_13_method_60_code 139 = .ok (.iconst 1, 1) := by decide +kernel
theorem d_Model_scoreOf_140 : decode prog_13_method_60_code 140 = .ok (.invokevirtual 336, 3) := by decide +kernel
theorem d_Model_scoreOf_143 : decode prog_13_method_60_code 143 = .ok (.imul, 1) := by decide +kernel
theorem d_Model_scoreOf_144 : decode prog_13_method_60_code 144 = .ok (.iadd, 1) := by decide +kernel
theorem d_Model_scoreOf_145 : decode prog_13_method_60_code 145 = .ok (.i2d, 1) := by decide +kernel
theorem d_Model_scoreOf_146 : decode prog_13_method_60_code 146 = .ok (.dstore 8, 2) := by decide +kernel
theorem d_Model_scoreOf_148 : decode prog_13_method_60_code 148 = .ok (.aload_n 0, 1) := by decide +kernel
theorem d_Model_scoreOf_149 : decode prog_13_method_60_code 149 = .ok (.iload_n 1, 1) := by decide +kernel
theorem d_Model_scoreOf_150 : decode prog_13_method_60_code 150 = .ok (.invokevirtual 184, 3) := by decide +kernel
theorem d_Model_scoreOf_153 : decode prog_13_method_60_code 153 = .ok (.i2d, 1) := by decide +kernel
theorem d_Model_scoreOf_154 : decode prog_13_method_60_code 154 = .ok (.dstore 10, 2) := by decide +kernel
theorem d_Model_scoreOf_156 : decode prog_13_method_60_code 156 = .ok (.iload 4, 2) := by decide +kernel
theorem d_Model_scoreOf_158 : decode prog_13_method_60_code 158 = .ok (.i2d, 1) := by decide +kernel
theorem d_Model_scoreOf_159 : decode prog_13_method_60_code 159 = .ok (.iload 5, 2) := by decide +kernel
theorem d_Model_scoreOf_161 : decode prog_13_method_60_code 161 = .ok (.i2d, 1) := by decide +kernel
theorem d_Model_scoreOf_162 : decode prog_13_method_60_code 162 = .ok (.ddiv, 1) := by decide +kernel
theorem d_Model_scoreOf_163 : decode prog_13_method_60_code 163 = .ok (.dstore 12, 2) := by decide +kernel
theorem d_Model_scoreOf_165 : decode prog_13_method_60_code 165 = .ok (.dload 8, 2) := by decide +kernel
theorem d_Model_scoreOf_167 : decode prog_13_method_60_code 167 = .ok (.dconst 0, 1) := by decide +kernel
theorem d_Model_scoreOf_168 : decode prog_13_method_60_code 168 = .ok (.dcmp .l, 1) := by decide +kernel
theorem d_Model_scoreOf_169 : decode prog_13_method_60_code 169 = .ok (.ifCond .ne 6, 3) := by decide +kernel
theorem d_Model_scoreOf_172 : decode prog_13_method_60_code 172 = .ok (.goto 71, 3) := by decide +kernel
theorem d_Model_scoreOf_175 : decode prog_13_method_60_code 175 = .ok (.iload 5, 2) := by decide +kernel
theorem d_Model_scoreOf_177 : decode prog_13_method_60_code 177 = .ok (.iload 7, 2) := by decide +kernel
theorem d_Model_scoreOf_179 : decode prog_13_method_60_code 179 = .ok (.isub, 1) := by decide +kernel
theorem d_Model_scoreOf_180 : decode prog_13_method_60_code 180 = .ok (.i2d, 1) := by decide +kernel
theorem d_Model_scoreOf_181 : decode prog_13_method_60_code 181 = .ok (.ldc2_w 340, 3) := by decide +kernel
theorem d_Model_scoreOf_184 : decode prog_13_method_60_code 184 = .ok (.dadd, 1) := by decide +kernel
theorem d_Model_scoreOf_185 : decode prog_13_method_60_code 185 = .ok (.iload 7, 2) := by decide +kernel
theorem d_Model_scoreOf_187 : decode prog_13_method_60_code 187 = .ok (.i2d, 1) := by decide +kernel
theorem d_Model_scoreOf_188 : decode prog_13_method_60_code 188 = .ok (.ldc2_w 340, 3) := by decide +kernel
theorem d_Model_scoreOf_191 : decode prog_13_method_60_code 191 = .ok (.dadd, 1) := by decide +kernel
theorem d_Model_scoreOf_192 : decode prog_13_method_60_code 192 = .ok (.ddiv, 1) := by decide +kernel
theorem d_Model_scoreOf_193 : decode prog_13_method_60_code 193 = .ok (.invokestatic 342, 3) := by decide +kernel
theorem d_Model_scoreOf_196 : decode prog_13_method_60_code 196 = .ok (.dstore 14, 2) := by decide +kernel
theorem d_Model_scoreOf_198 : decode prog_13_method_60_code 198 = .ok (.dload 14, 2) := by decide +kernel
theorem d_Model_scoreOf_200 : decode prog_13_method_60_code 200 = .ok (.dconst 0, 1) := by decide +kernel
theorem d_Model_scoreOf_201 : decode prog_13_method_60_code 201 = .ok (.dcmp .l, 1) := by decide +kernel
theorem d_Model_scoreOf_202 : decode prog_13_method_60_code 202 = .ok (.ifCond .gt 8, 3) := by decide +kernel
theorem d_Model_scoreOf_205 : decode prog_13_method_60_code 205 = .ok (.ldc2_w 346, 3) := by decide +kernel
theorem d_Model_scoreOf_208 : decode prog_13_method_60_code 208 = .ok (.dstore 14, 2) := by decide +kernel
theorem d_Model_scoreOf_210 : decode prog_13_method_60_code 210 = .ok (.dload_n 2, 1) := by decide +kernel
theorem d_Model_scoreOf_211 : decode prog_13_method_60_code 211 = .ok (.dload 14, 2) := by decide +kernel
theorem d_Model_scoreOf_213 : decode prog_13_method_60_code 213 = .ok (.dload 8, 2) := by decide +kernel
theorem d_Model_scoreOf_215 : decode prog_13_method_60_code 215 = .ok (.ldc2_w 348, 3) := by decide +kernel
theorem d_Model_scoreOf_218 : decode prog_13_method_60_code 218 = .ok (.dmul, 1) := by decide +kernel
theorem d_Model_scoreOf_219 : decode prog_13_method_60_code 219 = .ok (.dmul, 1) := by decide +kernel
theorem d_Model_scoreOf_220 : decode prog_13_method_60_code 220 = .ok (.dload 8, 2) := by decide +kernel
theorem d_Model_scoreOf_222 : decode prog_13_method_60_code 222 = .ok (.ldc2_w 350, 3) := by decide +kernel
theorem d_Model_scoreOf_225 : decode prog_13_method_60_code 225 = .ok (.ldc2_w 352, 3) := by decide +kernel
theorem d_Model_scoreOf_228 : decode prog_13_method_60_code 228 = .ok (.ldc2_w 332, 3) := by decide +kernel
theorem d_Model_scoreOf_231 : decode prog_13_method_60_code 231 = .ok (.dload 10, 2) := by decide +kernel
theorem d_Model_scoreOf_233 : decode prog_13_method_60_code 233 = .ok (.dmul, 1) := by decide +kernel
theorem d_Model_scoreOf_234 : decode prog_13_method_60_code 234 = .ok (.dload 12, 2) := by decide +kernel
theorem d_Model_scoreOf_236 : decode prog_13_method_60_code 236 = .ok (.ddiv, 1) := by decide +kernel
theorem d_Model_scoreOf_237 : decode prog_13_method_60_code 237 = .ok (.dadd, 1) := by decide +kernel
theorem d_Model_scoreOf_238 : decode prog_13_method_60_code 238 = .ok (.dmul, 1) := by decide +kernel
theorem d_Model_scoreOf_239 : decode prog_13_method_60_code 239 = .ok (.dadd, 1) := by decide +kernel
theorem d_Model_scoreOf_240 : decode prog_13_method_60_code 240 = .ok (.ddiv, 1) := by decide +kernel
theorem d_Model_scoreOf_241 : decode prog_13_method_60_code 241 = .ok (.dadd, 1) := by decide +kernel
theorem d_Model_scoreOf_242 : decode prog_13_method_60_code 242 = .ok (.dstore_n 2, 1) := by decide +kernel
theorem d_Model_scoreOf_243 : decode prog_13_method_60_code 243 = .ok (.iinc 6 1, 3) := by decide +kernel
theorem d_Model_scoreOf_246 : decode prog_13_method_60_code 246 = .ok (.goto (-195), 3) := by decide +kernel
theorem d_Model_scoreOf_249 : decode prog_13_method_60_code 249 = .ok (.dload_n 2, 1) := by decide +kernel
theorem d_Model_scoreOf_250 : decode prog_13_method_60_code 250 = .ok (.dreturn, 1) := by decide +kernel
theorem d_Model_countIn_0 : decode prog_13_method_58_code 0 = .ok (.aload_n 0, 1) := by decide +kernel
theorem d_Model_countIn_1 : decode prog_13_method_58_code 1 = .ok (.iload_n 2, 1) := by decide +kernel
theorem d_Model_countIn_2 : decode prog_13_method_58_code 2 = .ok (.iload_n 3, 1) := by decide +kernel
theorem d_Model_countIn_3 : decode prog_13_method_58_code 3 = .ok (.invokevirtual 153, 3) := by decide +kernel
theorem d_Model_countIn_6 : decode prog_13_method_58_code 6 = .ok (.iconst 0, 1) := by decide +kernel
theorem d_Model_countIn_7 : decode prog_13_method_58_code 7 = .ok (.istore 4, 2) := by decide +kernel
theorem d_Model_countIn_9 : decode prog_13_method_58_code 9 = .ok (.iconst 0, 1) := by decide +kernel
theorem d_Model_countIn_10 : decode prog_13_method_58_code 10 = .ok (.istore 5, 2) := by decide +kernel
theorem d_Model_countIn_12 : decode prog_13_method_58_code 12 = .ok (.iload 5, 2) := by decide +kernel
theorem d_Model_countIn_14 : decode prog_13_method_58_code 14 = .ok (.aload_n 0, 1) := by decide +kernel
theorem d_Model_countIn_15 : decode prog_13_method_58_code 15 = .ok (.getfield 150, 3) := by decide +kernel
theorem d_Model_countIn_18 : decode prog_13_method_58_code 18 = .ok (.if_icmp .ge 22, 3) := by decide +kernel
theorem d_Model_countIn_21 : decode prog_13_method_58_code 21 = .ok (.aload_n 0, 1) := by decide +kernel
theorem d_Model_countIn_22 : decode prog_13_method_58_code 22 = .ok (.iload_n 1, 1) := by decide +kernel
theorem d_Model_countIn_23 : decode prog_13_method_58_code 23 = .ok (.iload 5, 2) := by decide +kernel
theorem d_Model_countIn_25 : decode prog_13_method_58_code 25 = .ok (.invokevirtual 316, 3) := by decide +kernel
theorem d_Model_countIn_28 : decode prog_13_method_58_code 28 = .ok (.ifCond .eq 6, 3) := by decide +kernel
theorem d_Model_countIn_31 : decode prog_13_method_58_code 31 = .ok (.iinc 4 1, 3) := by decide +kernel
theorem d_Model_countIn_34 : decode prog_13_method_58_code 34 = .ok (.iinc 5 1, 3) := by decide +kernel
theorem d_Model_countIn_37 : decode prog_13_method_58_code 37 = .ok (.goto (-25), 3) := by decide +kernel
theorem d_Model_countIn_40 : decode prog_13_method_58_code 40 = .ok (.iload 4, 2) := by decide +kernel
theorem d_Model_countIn_42 : decode prog_13_method_58_code 42 = .ok (.ireturn, 1) := by decide +kernel
theorem d_Model_logarithm_0 : decode prog_13_method_59_code 0 = .ok (.dload_n 0, 1) := by decide +kernel
theorem d_Model_logarithm_1 : decode prog_13_method_59_code 1 = .ok (.dstore_n 2, 1) := by decide +kernel
theorem d_Model_logarithm_2 : decode prog_13_method_59_code 2 = .ok (.iconst 0, 1) := by decide +kernel
theorem d_Model_logarithm_3 : decode prog_13_method_59_code 3 = .ok (.istore 4, 2) := by decide +kernel
theorem d_Model_logarithm_5 : decode prog_13_method_59_code 5 = .ok (.dload_n 2, 1) := by decide +kernel
theorem d_Model_logarithm_6 : decode prog_13_method_59_code 6 = .ok (.ldc2_w 328, 3) := by decide +kernel
theorem d_Model_logarithm_9 : decode prog_13_method_59_code 9 = .ok (.dcmp .l, 1) := by decide +kernel
theorem d_Model_logarithm_10 : decode prog_13_method_59_code 10 = .ok (.ifCond .lt 15, 3) := by decide +kernel
theorem d_Model_logarithm_13 : decode prog_13_method_59_code 13 = .ok (.dload_n 2, 1) := by decide +kernel
theorem d_Model_logarithm_14 : decode prog_13_method_59_code 14 = .ok (.ldc2_w 330, 3) := by decide +kernel
theorem d_Model_logarithm_17 : decode prog_13_method_59_code 17 = .ok (.ddiv, 1) := by decide +kernel
theorem d_Model_logarithm_18 : decode prog_13_method_59_code 18 = .ok (.dstore_n 2, 1) := by decide +kernel
theorem d_Model_logarithm_19 : decode prog_13_method_59_code 19 = .ok (.iinc 4 1, 3) := by decide +kernel
theorem d_Model_logarithm_22 : decode prog_13_method_59_code 22 = .ok (.goto (-17), 3) := by decide +kernel
theorem d_Model_logarithm_25 : decode prog_13_method_59_code 25 = .ok (.dload_n 2, 1) := by decide +kernel
theorem d_Model_logarithm_26 : decode prog_13_method_59_code 26 = .ok (.ldc2_w 332, 3) := by decide +kernel
theorem d_Model_logarithm_29 : decode prog_13_method_59_code 29 = .ok (.dcmp .g, 1) := by decide +kernel
theorem d_Model_logarithm_30 : decode prog_13_method_59_code 30 = .ok (.ifCond .ge 15, 3) := by decide +kernel
theorem d_Model_logarithm_33 : decode prog_13_method_59_code 33 = .ok (.dload_n 2, 1) := by decide +kernel
theorem d_Model_logarithm_34 : decode prog_13_method_59_code 34 = .ok (.ldc2_w 330, 3) := by decide +kernel
theorem d_Model_logarithm_37 : decode prog_13_method_59_code 37 = .ok (.dmul, 1) := by decide +kernel
theorem d_Model_logarithm_38 : decode prog_13_method_59_code 38 = .ok (.dstore_n 2, 1) := by decide +kernel
theorem d_Model_logarithm_39 : decode prog_13_method_59_code 39 = .ok (.iinc 4 (-1), 3) := by decide +kernel
theorem d_Model_logarithm_42 : decode prog_13_method_59_code 42 = .ok (.goto (-17), 3) := by decide +kernel
theorem d_Model_logarithm_45 : decode prog_13_method_59_code 45 = .ok (.dload_n 2, 1) := by decide +kernel
theorem d_Model_logarithm_46 : decode prog_13_method_59_code 46 = .ok (.dconst 1, 1) := by decide +kernel
theorem d_Model_logarithm_47 : decode prog_13_method_59_code 47 = .ok (.dsub, 1) := by decide +kernel
theorem d_Model_logarithm_48 : decode prog_13_method_59_code 48 = .ok (.dload_n 2, 1) := by decide +kernel
theorem d_Model_logarithm_49 : decode prog_13_method_59_code 49 = .ok (.dconst 1, 1) := by decide +kernel
theorem d_Model_logarithm_50 : decode prog_13_method_59_code 50 = .ok (.dadd, 1) := by decide +kernel
theorem d_Model_logarithm_51 : decode prog_13_method_59_code 51 = .ok (.ddiv, 1) := by decide +kernel
theorem d_Model_logarithm_52 : decode prog_13_method_59_code 52 = .ok (.dstore 5, 2) := by decide +kernel
theorem d_Model_logarithm_54 : decode prog_13_method_59_code 54 = .ok (.dload 5, 2) := by decide +kernel
theorem d_Model_logarithm_56 : decode prog_13_method_59_code 56 = .ok (.dload 5, 2) := by decide +kernel
theorem d_Model_logarithm_58 : decode prog_13_method_59_code 58 = .ok (.dmul, 1) := by decide +kernel
theorem d_Model_logarithm_59 : decode prog_13_method_59_code 59 = .ok (.dstore 7, 2) := by decide +kernel
theorem d_Model_logarithm_61 : decode prog_13_method_59_code 61 = .ok (.dconst 0, 1) := by decide +kernel
theorem d_Model_logarithm_62 : decode prog_13_method_59_code 62 = .ok (.dstore 9, 2) := by decide +kernel
theorem d_Model_logarithm_64 : decode prog_13_method_59_code 64 = .ok (.bipush 19, 2) := by decide +kernel
theorem d_Model_logarithm_66 : decode prog_13_method_59_code 66 = .ok (.istore 11, 2) := by decide +kernel
theorem d_Model_logarithm_68 : decode prog_13_method_59_code 68 = .ok (.iload 11, 2) := by decide +kernel
theorem d_Model_logarithm_70 : decode prog_13_method_59_code 70 = .ok (.ifCond .le 22, 3) := by decide +kernel
theorem d_Model_logarithm_73 : decode prog_13_method_59_code 73 = .ok (.dload 9, 2) := by decide +kernel
theorem d_Model_logarithm_75 : decode prog_13_method_59_code 75 = .ok (.dload 7, 2) := by decide +kernel
theorem d_Model_logarithm_77 : decode prog_13_method_59_code 77 = .ok (.dmul, 1) := by decide +kernel
theorem d_Model_logarithm_78 : decode prog_13_method_59_code 78 = .ok (.dconst 1, 1) := by decide +kernel
theorem d_Model_logarithm_79 : decode prog_13_method_59_code 79 = .ok (.iload 11, 2) := by decide +kernel
theorem d_Model_logarithm_81 : decode prog_13_method_59_code 81 = .ok (.i2d, 1) := by decide +kernel
theorem d_Model_logarithm_82 : decode prog_13_method_59_code 82 = .ok (.ddiv, 1) := by decide +kernel
theorem d_Model_logarithm_83 : decode prog_13_method_59_code 83 = .ok (.dadd, 1) := by decide +kernel
theorem d_Model_logarithm_84 : decode prog_13_method_59_code 84 = .ok (.dstore 9, 2) := by decide +kernel
theorem d_Model_logarithm_86 : decode prog_13_method_59_code 86 = .ok (.iinc 11 (-2), 3) := by decide +kernel
theorem d_Model_logarithm_89 : decode prog_13_method_59_code 89 = .ok (.goto (-21), 3) := by decide +kernel
theorem d_Model_logarithm_92 : decode prog_13_method_59_code 92 = .ok (.ldc2_w 330, 3) := by decide +kernel
theorem d_Model_logarithm_95 : decode prog_13_method_59_code 95 = .ok (.dload 5, 2) := by decide +kernel
theorem d_Model_logarithm_97 : decode prog_13_method_59_code 97 = .ok (.dmul, 1) := by decide +kernel
theorem d_Model_logarithm_98 : decode prog_13_method_59_code 98 = .ok (.dload 9, 2) := by decide +kernel
theorem d_Model_logarithm_100 : decode prog_13_method_59_code 100 = .ok (.dmul, 1) := by decide +kernel
theorem d_Model_logarithm_101 : decode prog_13_method_59_code 101 = .ok (.iload 4, 2) := by decide +kernel
theorem d_Model_logarithm_103 : decode prog_13_method_59_code 103 = .ok (.i2d, 1) := by decide +kernel
theorem d_Model_logarithm_104 : decode prog_13_method_59_code 104 = .ok (.ldc2_w 334, 3) := by decide +kernel
theorem d_Model_logarithm_107 : decode prog_13_method_59_code 107 = .ok (.dmul, 1) := by decide +kernel
theorem d_Model_logarithm_108 : decode prog_13_method_59_code 108 = .ok (.dadd, 1) := by decide +kernel
theorem d_Model_logarithm_109 : decode prog_13_method_59_code 109 = .ok (.dreturn, 1) := by decide +kernel
theorem d_Model_wrong_0 : decode prog_13_method_62_code 0 = .ok (.aload_n 0, 1) := by decide +kernel
theorem d_Model_wrong_1 : decode prog_13_method_62_code 1 = .ok (.aload_n 0, 1) := by decide +kernel
theorem d_Model_wrong_2 : decode prog_13_method_62_code 2 = .ok (.getfield 68, 3) := by decide +kernel
theorem d_Model_wrong_5 : decode prog_13_method_62_code 5 = .ok (.invokevirtual 370, 3) := by decide +kernel
theorem d_Model_wrong_8 : decode prog_13_method_62_code 8 = .ok (.ireturn, 1) := by decide +kernel
theorem d_Model_clean_0 : decode prog_13_method_63_code 0 = .ok (.aload_n 0, 1) := by decide +kernel
theorem d_Model_clean_1 : decode prog_13_method_63_code 1 = .ok (.iconst 0, 1) := by decide +kernel
theorem d_Model_clean_2 : decode prog_13_method_63_code 2 = .ok (.putfield 130, 3) := by decide +kernel
theorem d_Model_clean_5 : decode prog_13_method_63_code 5 = .ok (.iload_n 1, 1) := by decide +kernel
theorem d_Model_clean_6 : decode prog_13_method_63_code 6 = .ok (.ireturn, 1) := by decide +kernel
theorem d_Model_answer_0 : decode prog_13_method_64_code 0 = .ok (.aload_n 0, 1) := by decide +kernel
theorem d_Model_answer_1 : decode prog_13_method_64_code 1 = .ok (.iconst 0, 1) := by decide +kernel
theorem d_Model_answer_2 : decode prog_13_method_64_code 2 = .ok (.putfield 130, 3) := by decide +kernel
theorem d_Model_answer_5 : decode prog_13_method_64_code 5 = .ok (.aload_n 0, 1) := by decide +kernel
theorem d_Model_answer_6 : decode prog_13_method_64_code 6 = .ok (.iload_n 1, 1) := by decide +kernel
theorem d_Model_answer_7 : decode prog_13_method_64_code 7 = .ok (.iconst 0, 1) := by decide +kernel
theorem d_Model_answer_8 : decode prog_13_method_64_code 8 = .ok (.aload_n 0, 1) := by decide +kernel
theorem d_Model_answer_9 : decode prog_13_method_64_code 9 = .ok (.getfield 360, 3) := by decide +kernel
theorem d_Model_answer_12 : decode prog_13_method_64_code 12 = .ok (.iconst 1, 1) := by decide +kernel
theorem d_Model_answer_13 : decode prog_13_method_64_code 13 = .ok (.isub, 1) := by decide +kernel
theorem d_Model_answer_14 : decode prog_13_method_64_code 14 = .ok (.invokestatic 133, 3) := by decide +kernel
theorem d_Model_answer_17 : decode prog_13_method_64_code 17 = .ok (.ifCond .ne 7, 3) := by decide +kernel
theorem d_Model_answer_20 : decode prog_13_method_64_code 20 = .ok (.iconst 1, 1) := by decide +kernel
theorem d_Model_answer_21 : decode prog_13_method_64_code 21 = .ok (.goto 4, 3) := by decide +kernel
theorem d_Model_answer_24 : decode prog_13_method_64_code 24 = .ok (.iconst 0, 1) := by decide +kernel
theorem d_Model_answer_25 : decode prog_13_method_64_code 25 = .ok (.iconst 1, 1) := by decide +kernel
theorem d_Model_answer_26 : decode prog_13_method_64_code 26 = .ok (.invokevirtual 139, 3) := by decide +kernel
theorem d_Model_answer_29 : decode prog_13_method_64_code 29 = .ok (.ifCond .eq 5, 3) := by decide +kernel
theorem d_Model_answer_32 : decode prog_13_method_64_code 32 = .ok (.iconst 0, 1) := by decide +kernel
theorem d_Model_answer_33 : decode prog_13_method_64_code 33 = .ok (.ireturn, 1) := by decide +kernel
theorem d_Model_answer_34 : decode prog_13_method_64_code 34 = .ok (.aload_n 0, 1) := by decide +kernel
theorem d_Model_answer_35 : decode prog_13_method_64_code 35 = .ok (.getfield 120, 3) := by decide +kernel
theorem d_Model_answer_38 : decode prog_13_method_64_code 38 = .ok (.iload_n 2, 1) := by decide +kernel
theorem d_Model_answer_39 : decode prog_13_method_64_code 39 = .ok (.ifCond .eq 12, 3) := by decide +kernel
theorem d_Model_answer_42 : decode prog_13_method_64_code 42 = .ok (.aload_n 0, 1) := by decide +kernel
theorem d_Model_answer_43 : decode prog_13_method_64_code 43 = .ok (.getfield 123, 3) := by decide +kernel
theorem d_Model_answer_46 : decode prog_13_method_64_code 46 = .ok (.iload_n 1, 1) := by decide +kernel
theorem d_Model_answer_47 : decode prog_13_method_64_code 47 = .ok (.iaload, 1) := by decide +kernel
theorem d_Model_answer_48 : decode prog_13_method_64_code 48 = .ok (.goto 4, 3) := by decide +kernel
theorem d_Model_answer_51 : decode prog_13_method_64_code 51 = .ok (.iload_n 1, 1) := by decide +kernel
theorem d_Model_answer_52 : decode prog_13_method_64_code 52 = .ok (.iaload, 1) := by decide +kernel
theorem d_Model_answer_53 : decode prog_13_method_64_code 53 = .ok (.ireturn, 1) := by decide +kernel
theorem d_Model_score_0 : decode prog_13_method_65_code 0 = .ok (.aload_n 0, 1) := by decide +kernel
theorem d_Model_score_1 : decode prog_13_method_65_code 1 = .ok (.iconst 0, 1) := by decide +kernel
theorem d_Model_score_2 : decode prog_13_method_65_code 2 = .ok (.putfield 130, 3) := by decide +kernel
theorem d_Model_score_5 : decode prog_13_method_65_code 5 = .ok (.aload_n 0, 1) := by decide +kernel
theorem d_Model_score_6 : decode prog_13_method_65_code 6 = .ok (.iload_n 1, 1) := by decide +kernel
theorem d_Model_score_7 : decode prog_13_method_65_code 7 = .ok (.iconst 0, 1) := by decide +kernel
theorem d_Model_score_8 : decode prog_13_method_65_code 8 = .ok (.aload_n 0, 1) := by decide +kernel
theorem d_Model_score_9 : decode prog_13_method_65_code 9 = .ok (.getfield 360, 3) := by decide +kernel
theorem d_Model_score_12 : decode prog_13_method_65_code 12 = .ok (.iconst 1, 1) := by decide +kernel
theorem d_Model_score_13 : decode prog_13_method_65_code 13 = .ok (.isub, 1) := by decide +kernel
theorem d_Model_score_14 : decode prog_13_method_65_code 14 = .ok (.invokestatic 133, 3) := by decide +kernel
theorem d_Model_score_17 : decode prog_13_method_65_code 17 = .ok (.ifCond .ne 7, 3) := by decide +kernel
theorem d_Model_score_20 : decode prog_13_method_65_code 20 = .ok (.iconst 1, 1) := by decide +kernel
theorem d_Model_score_21 : decode prog_13_method_65_code 21 = .ok (.goto 4, 3) := by decide +kernel
theorem d_Model_score_24 : decode prog_13_method_65_code 24 = .ok (.iconst 0, 1) := by decide +kernel
theorem d_Model_score_25 : decode prog_13_method_65_code 25 = .ok (.iconst 1, 1) := by decide +kernel
theorem d_Model_score_26 : decode prog_13_method_65_code 26 = .ok (.invokevirtual 139, 3) := by decide +kernel
theorem d_Model_score_29 : decode prog_13_method_65_code 29 = .ok (.ifCond .eq 5, 3) := by decide +kernel
theorem d_Model_score_32 : decode prog_13_method_65_code 32 = .ok (.dconst 0, 1) := by decide +kernel
theorem d_Model_score_33 : decode prog_13_method_65_code 33 = .ok (.dreturn, 1) := by decide +kernel
theorem d_Model_score_34 : decode prog_13_method_65_code 34 = .ok (.aload_n 0, 1) := by decide +kernel
theorem d_Model_score_35 : decode prog_13_method_65_code 35 = .ok (.getfield 126, 3) := by decide +kernel
theorem d_Model_score_38 : decode prog_13_method_65_code 38 = .ok (.iload_n 2, 1) := by decide +kernel
theorem d_Model_score_39 : decode prog_13_method_65_code 39 = .ok (.ifCond .eq 12, 3) := by decide +kernel
theorem d_Model_score_42 : decode prog_13_method_65_code 42 = .ok (.aload_n 0, 1) := by decide +kernel
theorem d_Model_score_43 : decode prog_13_method_65_code 43 = .ok (.getfield 123, 3) := by decide +kernel
theorem d_Model_score_46 : decode prog_13_method_65_code 46 = .ok (.iload_n 1, 1) := by decide +kernel
theorem d_Model_score_47 : decode prog_13_method_65_code 47 = .ok (.iaload, 1) := by decide +kernel
theorem d_Model_score_48 : decode prog_13_method_65_code 48 = .ok (.goto 4, 3) := by decide +kernel
theorem d_Model_score_51 : decode prog_13_method_65_code 51 = .ok (.iload_n 1, 1) := by decide +kernel
theorem d_Model_score_52 : decode prog_13_method_65_code 52 = .ok (.daload, 1) := by decide +kernel
theorem d_Model_score_53 : decode prog_13_method_65_code 53 = .ok (.dreturn, 1) := by decide +kernel
theorem d_Model_look_0 : decode prog_13_method_66_code 0 = .ok (.aload_n 0, 1) := by decide +kernel
theorem d_Model_look_1 : decode prog_13_method_66_code 1 = .ok (.iconst 0, 1) := by decide +kernel
theorem d_Model_look_2 : decode prog_13_method_66_code 2 = .ok (.putfield 130, 3) := by decide +kernel
theorem d_Model_look_5 : decode prog_13_method_66_code 5 = .ok (.aload_n 0, 1) := by decide +kernel
theorem d_Model_look_6 : decode prog_13_method_66_code 6 = .ok (.aload_n 0, 1) := by decide +kernel
theorem d_Model_look_7 : decode prog_13_method_66_code 7 = .ok (.iload_n 1, 1) := by decide +kernel
theorem d_Model_look_8 : decode prog_13_method_66_code 8 = .ok (.invokevirtual 181, 3) := by decide +kernel
theorem d_Model_look_11 : decode prog_13_method_66_code 11 = .ok (.ifCond .ne 7, 3) := by decide +kernel
theorem d_Model_look_14 : decode prog_13_method_66_code 14 = .ok (.iconst 1, 1) := by decide +kernel
theorem d_Model_look_15 : decode prog_13_method_66_code 15 = .ok (.goto 4, 3) := by decide +kernel
theorem d_Model_look_18 : decode prog_13_method_66_code 18 = .ok (.iconst 0, 1) := by decide +kernel
theorem d_Model_look_19 : decode prog_13_method_66_code 19 = .ok (.iconst 1, 1) := by decide +kernel
theorem d_Model_look_20 : decode prog_13_method_66_code 20 = .ok (.invokevirtual 139, 3) := by decide +kernel
theorem d_Model_look_23 : decode prog_13_method_66_code 23 = .ok (.ifCond .ne 25, 3) := by decide +kernel
theorem d_Model_look_26 : decode prog_13_method_66_code 26 = .ok (.aload_n 0, 1) := by decide +kernel
theorem d_Model_look_27 : decode prog_13_method_66_code 27 = .ok (.iload_n 2, 1) := by decide +kernel
theorem d_Model_look_28 : decode prog_13_method_66_code 28 = .ok (.iconst 0, 1) := by decide +kernel
theorem d_Model_look_29 : decode prog_13_method_66_code 29 = .ok (.iconst 2, 1) := by decide +kernel
theorem d_Model_look_30 : decode prog_13_method_66_code 30 = .ok (.invokestatic 133, 3) := by decide +kernel
theorem d_Model_look_33 : decode prog_13_method_66_code 33 = .ok (.ifCond .ne 7, 3) := by decide +kernel
theorem d_Model_look_36 : decode prog_13_method_66_code 36 = .ok (.iconst 1, 1) := by decide +kernel
theorem d_Model_look_37 : decode prog_13_method_66_code 37 = .ok (.goto 4, 3) := by decide +kernel
theorem d_Model_look_40 : decode prog_13_method_66_code 40 = .ok (.iconst 0, 1) := by decide +kernel
theorem d_Model_look_41 : decode prog_13_method_66_code 41 = .ok (.iconst 2, 1) := by decide +kernel
theorem d_Model_look_42 : decode prog_13_method_66_code 42 = .ok (.invokevirtual 139, 3) := by decide +kernel
theorem d_Model_look_45 : decode prog_13_method_66_code 45 = .ok (.ifCond .eq 5, 3) := by decide +kernel
theorem d_Model_look_48 : decode prog_13_method_66_code 48 = .ok (.iconst 0, 1) := by decide +kernel
theorem d_Model_look_49 : decode prog_13_method_66_code 49 = .ok (.ireturn, 1) := by decide +kernel
theorem d_Model_look_50 : decode prog_13_method_66_code 50 = .ok (.iload_n 2, 1) := by decide +kernel
theorem d_Model_look_51 : decode prog_13_method_66_code 51 = .ok (.iconst 2, 1) := by decide +kernel
theorem d_Model_look_52 : decode prog_13_method_66_code 52 = .ok (.if_icmp .ne 17, 3) := by decide +kernel
theorem d_Model_look_55 : decode prog_13_method_66_code 55 = .ok (.aload_n 0, 1) := by decide +kernel
theorem d_Model_look_56 : decode prog_13_method_66_code 56 = .ok (.getfield 38, 3) := by decide +kernel
theorem d_Model_look_59 : decode prog_13_method_66_code 59 = .ok (.aload_n 0, 1) := by decide +kernel
theorem d_Model_look_60 : decode prog_13_method_66_code 60 = .ok (.getfield 44, 3) := by decide +kernel
theorem d_Model_look_63 : decode prog_13_method_66_code 63 = .ok (.iload_n 1, 1) := by decide +kernel
theorem d_Model_look_64 : decode prog_13_method_66_code 64 = .ok (.iconst 1, 1) := by decide +kernel
theorem d_Model_look_65 : decode prog_13_method_66_code 65 = .ok (.isub, 1) := by decide +kernel
theorem d_Model_look_66 : decode prog_13_method_66_code 66 = .ok (.iaload, 1) := by decide +kernel
theorem d_Model_look_67 : decode prog_13_method_66_code 67 = .ok (.iaload, 1) := by decide +kernel
theorem d_Model_look_68 : decode prog_13_method_66_code 68 = .ok (.ireturn, 1) := by decide +kernel
theorem d_Model_look_69 : decode prog_13_method_66_code 69 = .ok (.aload_n 0, 1) := by decide +kernel
theorem d_Model_look_70 : decode prog_13_method_66_code 70 = .ok (.iload_n 1, 1) := by decide +kernel
theorem d_Model_look_71 : decode prog_13_method_66_code 71 = .ok (.iconst 1, 1) := by decide +kernel
theorem d_Model_look_72 : decode prog_13_method_66_code 72 = .ok (.isub, 1) := by decide +kernel
theorem d_Model_look_73 : decode prog_13_method_66_code 73 = .ok (.iload_n 2, 1) := by decide +kernel
theorem d_Model_look_74 : decode prog_13_method_66_code 74 = .ok (.invokevirtual 153, 3) := by decide +kernel
theorem d_Model_look_77 : decode prog_13_method_66_code 77 = .ok (.aload_n 0, 1) := by decide +kernel
theorem d_Model_look_78 : decode prog_13_method_66_code 78 = .ok (.getfield 150, 3) := by decide +kernel
theorem d_Model_look_81 : decode prog_13_method_66_code 81 = .ok (.ireturn, 1) := by decide +kernel
theorem d_Model_segment_0 : decode prog_13_method_67_code 0 = .ok (.aload_n 0, 1) := by decide +kernel
theorem d_Model_segment_1 : decode prog_13_method_67_code 1 = .ok (.iconst 0, 1) := by decide +kernel
theorem d_Model_segment_2 : decode prog_13_method_67_code 2 = .ok (.putfield 130, 3) := by decide +kernel
theorem d_Model_segment_5 : decode prog_13_method_67_code 5 = .ok (.aload_n 0, 1) := by decide +kernel
theorem d_Model_segment_6 : decode prog_13_method_67_code 6 = .ok (.iload_n 1, 1) := by decide +kernel
theorem d_Model_segment_7 : decode prog_13_method_67_code 7 = .ok (.iconst 0, 1) := by decide +kernel
theorem d_Model_segment_8 : decode prog_13_method_67_code 8 = .ok (.aload_n 0, 1) := by decide +kernel
theorem d_Model_segment_9 : decode prog_13_method_67_code 9 = .ok (.getfield 193, 3) := by decide +kernel
theorem d_Model_segment_12 : decode prog_13_method_67_code 12 = .ok (.iconst 1, 1) := by decide +kernel
theorem d_Model_segment_13 : decode prog_13_method_67_code 13 = .ok (.isub, 1) := by decide +kernel
theorem d_Model_segment_14 : decode prog_13_method_67_code 14 = .ok (.invokestatic 133, 3) := by decide +kernel
theorem d_Model_segment_17 : decode prog_13_method_67_code 17 = .ok (.ifCond .ne 7, 3) := by decide +kernel
theorem d_Model_segment_20 : decode prog_13_method_67_code 20 = .ok (.iconst 1, 1) := by decide +kernel
theorem d_Model_segment_21 : decode prog_13_method_67_code 21 = .ok (.goto 4, 3) := by decide +kernel
theorem d_Model_segment_24 : decode prog_13_method_67_code 24 = .ok (.iconst 0, 1) := by decide +kernel
theorem d_Model_segment_25 : decode prog_13_method_67_code 25 = .ok (.iconst 1, 1) := by decide +kernel
theorem d_Model_segment_26 : decode prog_13_method_67_code 26 = .ok (.invokevirtual 139, 3) := by decide +kernel
theorem d_Model_segment_29 : decode prog_13_method_67_code 29 = .ok (.ifCond .ne 25, 3) := by decide +kernel
theorem d_Model_segment_32 : decode prog_13_method_67_code 32 = .ok (.aload_n 0, 1) := by decide +kernel
theorem d_Model_segment_33 : decode prog_13_method_67_code 33 = .ok (.iload_n 2, 1) := by decide +kernel
theorem d_Model_segment_34 : decode prog_13_method_67_code 34 = .ok (.iconst 0, 1) := by decide +kernel
theorem d_Model_segment_35 : decode prog_13_method_67_code 35 = .ok (.iconst 2, 1) := by decide +kernel
theorem d_Model_segment_36 : decode prog_13_method_67_code 36 = .ok (.invokestatic 133, 3) := by decide +kernel
theorem d_Model_segment_39 : decode prog_13_method_67_code 39 = .ok (.ifCond .ne 7, 3) := by decide +kernel
theorem d_Model_segment_42 : decode prog_13_method_67_code 42 = .ok (.iconst 1, 1) := by decide +kernel
theorem d_Model_segment_43 : decode prog_13_method_67_code 43 = .ok (.goto 4, 3) := by decide +kernel
theorem d_Model_segment_46 : decode prog_13_method_67_code 46 = .ok (.iconst 0, 1) := by decide +kernel
theorem d_Model_segment_47 : decode prog_13_method_67_code 47 = .ok (.iconst 2, 1) := by decide +kernel
theorem d_Model_segment_48 : decode prog_13_method_67_code 48 = .ok (.invokevirtual 139, 3) := by decide +kernel
theorem d_Model_segment_51 : decode prog_13_method_67_code 51 = .ok (.ifCond .eq 5, 3) := by decide +kernel
theorem d_Model_segment_54 : decode prog_13_method_67_code 54 = .ok (.iconst 0, 1) := by decide +kernel
theorem d_Model_segment_55 : decode prog_13_method_67_code 55 = .ok (.ireturn, 1) := by decide +kernel
theorem d_Model_segment_56 : decode prog_13_method_67_code 56 = .ok (.iload_n 2, 1) := by decide +kernel
theorem d_Model_segment_57 : decode prog_13_method_67_code 57 = .ok (.ifCond .ne 15, 3) := by decide +kernel
theorem d_Model_segment_60 : decode prog_13_method_67_code 60 = .ok (.aload_n 0, 1) := by decide +kernel
theorem d_Model_segment_61 : decode prog_13_method_67_code 61 = .ok (.getfield 50, 3) := by decide +kernel
theorem d_Model_segment_64 : decode prog_13_method_67_code 64 = .ok (.aload_n 0, 1) := by decide +kernel
theorem d_Model_segment_65 : decode prog_13_method_67_code 65 = .ok (.getfield 47, 3) := by decide +kernel
theorem d_Model_segment_68 : decode prog_13_method_67_code 68 = .ok (.iload_n 1, 1) := by decide +kernel
theorem d_Model_segment_69 : decode prog_13_method_67_code 69 = .ok (.iaload, 1) := by decide +kernel
theorem d_Model_segment_70 : decode prog_13_method_67_code 70 = .ok (.iaload, 1) := by decide +kernel
theorem d_Model_segment_71 : decode prog_13_method_67_code 71 = .ok (.ireturn, 1) := by decide +kernel
theorem d_Model_segment_72 : decode prog_13_method_67_code 72 = .ok (.iconst 0, 1) := by decide +kernel
theorem d_Model_segment_73 : decode prog_13_method_67_code 73 = .ok (.istore_n 3, 1) := by decide +kernel
theorem d_Model_segment_74 : decode prog_13_method_67_code 74 = .ok (.iconst 0, 1) := by decide +kernel
theorem d_Model_segment_75 : decode prog_13_method_67_code 75 = .ok (.istore 4, 2) := by decide +kernel
theorem d_Model_segment_77 : decode prog_13_method_67_code 77 = .ok (.iload 4, 2) := by decide +kernel
theorem d_Model_segment_79 : decode prog_13_method_67_code 79 = .ok (.aload_n 0, 1) := by decide +kernel
theorem d_Model_segment_80 : decode prog_13_method_67_code 80 = .ok (.getfield 165, 3) := by decide +kernel
theorem d_Model_segment_83 : decode prog_13_method_67_code 83 = .ok (.if_icmp .ge 44, 3) := by decide +kernel
theorem d_Model_segment_86 : decode prog_13_method_67_code 86 = .ok (.aload_n 0, 1) := by decide +kernel
theorem d_Model_segment_87 : decode prog_13_method_67_code 87 = .ok (.getfield 41, 3) := by decide +kernel
theorem d_Model_segment_90 : decode prog_13_method_67_code 90 = .ok (.iload 4, 2) := by decide +kernel
theorem d_Model_segment_92 : decode prog_13_method_67_code 92 = .ok (.iaload, 1) := by decide +kernel
theorem d_Model_segment_93 : decode prog_13_method_67_code 93 = .ok (.aload_n 0, 1) := by decide +kernel
theorem d_Model_segment_94 : decode prog_13_method_67_code 94 = .ok (.getfield 47, 3) := by decide +kernel
theorem d_Model_segment_97 : decode prog_13_method_67_code 97 = .ok (.iload_n 1, 1) := by decide +kernel
theorem d_Model_segment_98 : decode prog_13_method_67_code 98 = .ok (.iaload, 1) := by decide +kernel
theorem d_Model_segment_99 : decode prog_13_method_67_code 99 = .ok (.if_icmp .ne 22, 3) := by decide +kernel
theorem d_Model_segment_102 : decode prog_13_method_67_code 102 = .ok (.iload_n 3, 1) := by decide +kernel
theorem d_Model_segment_103 : decode prog_13_method_67_code 103 = .ok (.iload_n 2, 1) := by decide +kernel
theorem d_Model_segment_104 : decode prog_13_method_67_code 104 = .ok (.iconst 1, 1) := by decide +kernel
theorem d_Model_segment_105 : decode prog_13_method_67_code 105 = .ok (.if_icmp .ne 7, 3) := by decide +kernel
theorem d_Model_segment_108 : decode prog_13_method_67_code 108 = .ok (.iconst 1, 1) := by decide +kernel
theorem d_Model_segment_109 : decode prog_13_method_67_code 109 = .ok (.goto 10, 3) := by decide +kernel
theorem d_Model_segment_112 : decode prog_13_method_67_code 112 = .ok (.aload_n 0, 1) := by decide +kernel
theorem d_Model_segment_113 : decode prog_13_method_67_code 113 = .ok (.getfield 38, 3) := by decide +kernel
theorem d_Model_segment_116 : decode prog_13_method_67_code 116 = .ok (.iload 4, 2) := by decide +kernel
theorem d_Model_segment_118 : decode prog_13_method_67_code 118 = .ok (.iaload, 1) := by decide +kernel
theorem d_Model_segment_119 : decode prog_13_method_67_code 119 = .ok (.iadd, 1) := by decide +kernel
theorem d_Model_segment_120 : decode prog_13_method_67_code 120 = .ok (.istore_n 3, 1) := by decide +kernel
theorem d_Model_segment_121 : decode prog_13_method_67_code 121 = .ok (.iinc 4 1, 3) := by decide +kernel
theorem d_Model_segment_124 : decode prog_13_method_67_code 124 = .ok (.goto (-47), 3) := by decide +kernel
theorem d_Model_segment_127 : decode prog_13_method_67_code 127 = .ok (.iload_n 3, 1) := by decide +kernel
theorem d_Model_segment_128 : decode prog_13_method_67_code 128 = .ok (.ireturn, 1) := by decide +kernel
theorem d_Model_count_0 : decode prog_13_method_68_code 0 = .ok (.aload_n 0, 1) := by decide +kernel
theorem d_Model_count_1 : decode prog_13_method_68_code 1 = .ok (.iconst 0, 1) := by decide +kernel
theorem d_Model_count_2 : decode prog_13_method_68_code 2 = .ok (.putfield 130, 3) := by decide +kernel
theorem d_Model_count_5 : decode prog_13_method_68_code 5 = .ok (.aload_n 0, 1) := by decide +kernel
theorem d_Model_count_6 : decode prog_13_method_68_code 6 = .ok (.iload_n 1, 1) := by decide +kernel
theorem d_Model_count_7 : decode prog_13_method_68_code 7 = .ok (.iconst 0, 1) := by decide +kernel
theorem d_Model_count_8 : decode prog_13_method_68_code 8 = .ok (.bipush 8, 2) := by decide +kernel
theorem d_Model_count_10 : decode prog_13_method_68_code 10 = .ok (.invokestatic 133, 3) := by decide +kernel
theorem d_Model_count_13 : decode prog_13_method_68_code 13 = .ok (.ifCond .ne 7, 3) := by decide +kernel
theorem d_Model_count_16 : decode prog_13_method_68_code 16 = .ok (.iconst 1, 1) := by decide +kernel
theorem d_Model_count_17 : decode prog_13_method_68_code 17 = .ok (.goto 4, 3) := by decide +kernel
theorem d_Model_count_20 : decode prog_13_method_68_code 20 = .ok (.iconst 0, 1) := by decide +kernel
theorem d_Model_count_21 : decode prog_13_method_68_code 21 = .ok (.iconst 1, 1) := by decide +kernel
theorem d_Model_count_22 : decode prog_13_method_68_code 22 = .ok (.invokevirtual 139, 3) := by decide +kernel
theorem d_Model_count_25 : decode prog_13_method_68_code 25 = .ok (.ifCond .eq 5, 3) := by decide +kernel
theorem d_Model_count_28 : decode prog_13_method_68_code 28 = .ok (.iconst 0, 1) := by decide +kernel
theorem d_Model_count_29 : decode prog_13_method_68_code 29 = .ok (.ireturn, 1) := by decide +kernel
theorem d_Model_count_30 : decode prog_13_method_68_code 30 = .ok (.iload_n 1, 1) := by decide +kernel
theorem d_Model_count_31 : decode prog_13_method_68_code 31 = .ok (.tableswitch 93 0 7 #[45, 50, 55, 60, 65, 70, 75, 80], 45) := by decide +kernel
theorem d_Model_count_76 : decode prog_13_method_68_code 76 = .ok (.aload_n 0, 1) := by decide +kernel
theorem d_Model_count_77 : decode prog_13_method_68_code 77 = .ok (.invokevirtual 209, 3) := by decide +kernel
theorem d_Model_count_80 : decode prog_13_method_68_code 80 = .ok (.ireturn, 1) := by decide +kernel
theorem d_Model_count_81 : decode prog_13_method_68_code 81 = .ok (.aload_n 0, 1) := by decide +kernel
theorem d_Model_count_82 : decode prog_13_method_68_code 82 = .ok (.getfield 193, 3) := by decide +kernel
theorem d_Model_count_85 : decode prog_13_method_68_code 85 = .ok (.ireturn, 1) := by decide +kernel
theorem d_Model_count_86 : decode prog_13_method_68_code 86 = .ok (.aload_n 0, 1) := by decide +kernel
theorem d_Model_count_87 : decode prog_13_method_68_code 87 = .ok (.invokevirtual 171, 3) := by decide +kernel
theorem d_Model_count_90 : decode prog_13_method_68_code 90 = .ok (.ireturn, 1) := by decide +kernel
theorem d_Model_count_91 : decode prog_13_method_68_code 91 = .ok (.aload_n 0, 1) := by decide +kernel
theorem d_Model_count_92 : decode prog_13_method_68_code 92 = .ok (.getfield 165, 3) := by decide +kernel
theorem d_Model_count_95 : decode prog_13_method_68_code 95 = .ok (.ireturn, 1) := by decide +kernel
theorem d_Model_count_96 : decode prog_13_method_68_code 96 = .ok (.aload_n 0, 1) := by decide +kernel
theorem d_Model_count_97 : decode prog_13_method_68_code 97 = .ok (.getfield 187, 3) := by decide +kernel
theorem d_Model_count_100 : decode prog_13_method_68_code 100 = .ok (.ireturn, 1) := by decide +kernel
theorem d_Model_count_101 : decode prog_13_method_68_code 101 = .ok (.aload_n 0, 1) := by decide +kernel
theorem d_Model_count_102 : decode prog_13_method_68_code 102 = .ok (.getfield 360, 3) := by decide +kernel
theorem d_Model_count_105 : decode prog_13_method_68_code 105 = .ok (.ireturn, 1) := by decide +kernel
theorem d_Model_count_106 : decode prog_13_method_68_code 106 = .ok (.aload_n 0, 1) := by decide +kernel
theorem d_Model_count_107 : decode prog_13_method_68_code 107 = .ok (.getfield 357, 3) := by decide +kernel
theorem d_Model_count_110 : decode prog_13_method_68_code 110 = .ok (.ireturn, 1) := by decide +kernel
theorem d_Model_count_111 : decode prog_13_method_68_code 111 = .ok (.aload_n 0, 1) := by decide +kernel
theorem d_Model_count_112 : decode prog_13_method_68_code 112 = .ok (.getfield 199, 3) := by decide +kernel
theorem d_Model_count_115 : decode prog_13_method_68_code 115 = .ok (.ifCond .eq 7, 3) := by decide +kernel
theorem d_Model_count_118 : decode prog_13_method_68_code 118 = .ok (.iconst 1, 1) := by decide +kernel
theorem d_Model_count_119 : decode prog_13_method_68_code 119 = .ok (.goto 4, 3) := by decide +kernel
theorem d_Model_count_122 : decode prog_13_method_68_code 122 = .ok (.iconst 0, 1) := by decide +kernel
theorem d_Model_count_123 : decode prog_13_method_68_code 123 = .ok (.ireturn, 1) := by decide +kernel
theorem d_Model_count_124 : decode prog_13_method_68_code 124 = .ok (.aload_n 0, 1) := by decide +kernel
theorem d_Model_count_125 : decode prog_13_method_68_code 125 = .ok (.getfield 143, 3) := by decide +kernel
theorem d_Model_count_128 : decode prog_13_method_68_code 128 = .ok (.ireturn, 1) := by decide +kernel
