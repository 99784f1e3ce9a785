/-! L_build -/
theorem dL_build_0 : decode cL_build 0 = .ok (.new 18, 3) := by decide +kernel
theorem dL_build_3 : decode cL_build 3 = .ok (.dup, 1) := by decide +kernel
theorem dL_build_4 : decode cL_build 4 = .ok (.invokespecial 23, 3) := by decide +kernel
theorem dL_build_7 : decode cL_build 7 = .ok (.astore_n 1, 1) := by decide +kernel
theorem dL_build_8 : decode cL_build 8 = .ok (.aload_n 0, 1) := by decide +kernel
theorem dL_build_9 : decode cL_build 9 = .ok (.iconst 0, 1) := by decide +kernel
theorem dL_build_10 : decode cL_build 10 = .ok (.invokestatic 24, 3) := by decide +kernel
theorem dL_build_13 : decode cL_build 13 = .ok (.istore_n 2, 1) := by decide +kernel
theorem dL_build_14 : decode cL_build 14 = .ok (.iconst 0, 1) := by decide +kernel
theorem dL_build_15 : decode cL_build 15 = .ok (.istore_n 3, 1) := by decide +kernel
theorem dL_build_16 : decode cL_build 16 = .ok (.iload_n 3, 1) := by decide +kernel
theorem dL_build_17 : decode cL_build 17 = .ok (.iconst 3, 1) := by decide +kernel
theorem dL_build_18 : decode cL_build 18 = .ok (.iload_n 2, 1) := by decide +kernel
theorem dL_build_19 : decode cL_build 19 = .ok (.iconst 3, 1) := by decide +kernel
theorem dL_build_20 : decode cL_build 20 = .ok (.iand, 1) := by decide +kernel
theorem dL_build_21 : decode cL_build 21 = .ok (.iadd, 1) := by decide +kernel
theorem dL_build_22 : decode cL_build 22 = .ok (.if_icmp .ge 54, 3) := by decide +kernel
theorem dL_build_25 : decode cL_build 25 = .ok (.aload_n 1, 1) := by decide +kernel
theorem dL_build_26 : decode cL_build 26 = .ok (.iconst 0, 1) := by decide +kernel
theorem dL_build_27 : decode cL_build 27 = .ok (.iload_n 2, 1) := by decide +kernel
theorem dL_build_28 : decode cL_build 28 = .ok (.iconst 2, 1) := by decide +kernel
theorem dL_build_29 : decode cL_build 29 = .ok (.iconst 2, 1) := by decide +kernel
theorem dL_build_30 : decode cL_build 30 = .ok (.iload_n 3, 1) := by decide +kernel
theorem dL_build_31 : decode cL_build 31 = .ok (.imul, 1) := by decide +kernel
theorem dL_build_32 : decode cL_build 32 = .ok (.iadd, 1) := by decide +kernel
theorem dL_build_33 : decode cL_build 33 = .ok (.ishr, 1) := by decide +kernel
theorem dL_build_34 : decode cL_build 34 = .ok (.iconst 3, 1) := by decide +kernel
theorem dL_build_35 : decode cL_build 35 = .ok (.iand, 1) := by decide +kernel
theorem dL_build_36 : decode cL_build 36 = .ok (.sipush 4800, 3) := by decide +kernel
theorem dL_build_39 : decode cL_build 39 = .ok (.bipush 100, 2) := by decide +kernel
theorem dL_build_41 : decode cL_build 41 = .ok (.iload_n 2, 1) := by decide +kernel
theorem dL_build_42 : decode cL_build 42 = .ok (.iconst 3, 1) := by decide +kernel
theorem dL_build_43 : decode cL_build 43 = .ok (.iconst 3, 1) := by decide +kernel
theorem dL_build_44 : decode cL_build 44 = .ok (.iload_n 3, 1) := by decide +kernel
theorem dL_build_45 : decode cL_build 45 = .ok (.imul, 1) := by decide +kernel
theorem dL_build_46 : decode cL_build 46 = .ok (.iadd, 1) := by decide +kernel
theorem dL_build_47 : decode cL_build 47 = .ok (.ishr, 1) := by decide +kernel
theorem dL_build_48 : decode cL_build 48 = .ok (.bipush 31, 2) := by decide +kernel
theorem dL_build_50 : decode cL_build 50 = .ok (.iand, 1) := by decide +kernel
theorem dL_build_51 : decode cL_build 51 = .ok (.bipush 30, 2) := by decide +kernel
theorem dL_build_53 : decode cL_build 53 = .ok (.irem, 1) := by decide +kernel
theorem dL_build_54 : decode cL_build 54 = .ok (.imul, 1) := by decide +kernel
theorem dL_build_55 : decode cL_build 55 = .ok (.iadd, 1) := by decide +kernel
theorem dL_build_56 : decode cL_build 56 = .ok (.iload_n 2, 1) := by decide +kernel
theorem dL_build_57 : decode cL_build 57 = .ok (.iload_n 3, 1) := by decide +kernel
theorem dL_build_58 : decode cL_build 58 = .ok (.ishr, 1) := by decide +kernel
theorem dL_build_59 : decode cL_build 59 = .ok (.bipush 63, 2) := by decide +kernel
theorem dL_build_61 : decode cL_build 61 = .ok (.iand, 1) := by decide +kernel
theorem dL_build_62 : decode cL_build 62 = .ok (.iadd, 1) := by decide +kernel
theorem dL_build_63 : decode cL_build 63 = .ok (.bipush 30, 2) := by decide +kernel
theorem dL_build_65 : decode cL_build 65 = .ok (.isub, 1) := by decide +kernel
theorem dL_build_66 : decode cL_build 66 = .ok (.invokestatic 30, 3) := by decide +kernel
theorem dL_build_69 : decode cL_build 69 = .ok (.pop, 1) := by decide +kernel
theorem dL_build_70 : decode cL_build 70 = .ok (.iinc 3 1, 3) := by decide +kernel
theorem dL_build_73 : decode cL_build 73 = .ok (.goto (-57), 3) := by decide +kernel
theorem dL_build_76 : decode cL_build 76 = .ok (.iconst 1, 1) := by decide +kernel
theorem dL_build_77 : decode cL_build 77 = .ok (.istore_n 3, 1) := by decide +kernel
theorem dL_build_78 : decode cL_build 78 = .ok (.iload_n 3, 1) := by decide +kernel
theorem dL_build_79 : decode cL_build 79 = .ok (.bipush 13, 2) := by decide +kernel
theorem dL_build_81 : decode cL_build 81 = .ok (.if_icmp .ge 464, 3) := by decide +kernel
theorem dL_build_84 : decode cL_build 84 = .ok (.aload_n 0, 1) := by decide +kernel
theorem dL_build_85 : decode cL_build 85 = .ok (.iload_n 3, 1) := by decide +kernel
theorem dL_build_86 : decode cL_build 86 = .ok (.invokestatic 24, 3) := by decide +kernel
theorem dL_build_89 : decode cL_build 89 = .ok (.istore 4, 2) := by decide +kernel
theorem dL_build_91 : decode cL_build 91 = .ok (.iconst 1, 1) := by decide +kernel
theorem dL_build_92 : decode cL_build 92 = .ok (.aload_n 1, 1) := by decide +kernel
theorem dL_build_93 : decode cL_build 93 = .ok (.invokevirtual 34, 3) := by decide +kernel
theorem dL_build_96 : decode cL_build 96 = .ok (.invokestatic 37, 3) := by decide +kernel
theorem dL_build_99 : decode cL_build 99 = .ok (.istore 5, 2) := by decide +kernel
theorem dL_build_101 : decode cL_build 101 = .ok (.iload 4, 2) := by decide +kernel
theorem dL_build_103 : decode cL_build 103 = .ok (.bipush 15, 2) := by decide +kernel
theorem dL_build_105 : decode cL_build 105 = .ok (.iand, 1) := by decide +kernel
theorem dL_build_106 : decode cL_build 106 = .ok (.iload 5, 2) := by decide +kernel
theorem dL_build_108 : decode cL_build 108 = .ok (.irem, 1) := by decide +kernel
theorem dL_build_109 : decode cL_build 109 = .ok (.istore 6, 2) := by decide +kernel
theorem dL_build_111 : decode cL_build 111 = .ok (.aload_n 1, 1) := by decide +kernel
theorem dL_build_112 : decode cL_build 112 = .ok (.bipush 6, 2) := by decide +kernel
theorem dL_build_114 : decode cL_build 114 = .ok (.iload 4, 2) := by decide +kernel
theorem dL_build_116 : decode cL_build 116 = .ok (.iconst 4, 1) := by decide +kernel
theorem dL_build_117 : decode cL_build 117 = .ok (.ishr, 1) := by decide +kernel
theorem dL_build_118 : decode cL_build 118 = .ok (.iconst 3, 1) := by decide +kernel
theorem dL_build_119 : decode cL_build 119 = .ok (.iand, 1) := by decide +kernel
theorem dL_build_120 : decode cL_build 120 = .ok (.iload 6, 2) := by decide +kernel
theorem dL_build_122 : decode cL_build 122 = .ok (.invokestatic 30, 3) := by decide +kernel
theorem dL_build_125 : decode cL_build 125 = .ok (.pop, 1) := by decide +kernel
theorem dL_build_126 : decode cL_build 126 = .ok (.aload_n 1, 1) := by decide +kernel
theorem dL_build_127 : decode cL_build 127 = .ok (.bipush 6, 2) := by decide +kernel
theorem dL_build_129 : decode cL_build 129 = .ok (.iload 4, 2) := by decide +kernel
theorem dL_build_131 : decode cL_build 131 = .ok (.bipush 6, 2) := by decide +kernel
theorem dL_build_133 : decode cL_build 133 = .ok (.ishr, 1) := by decide +kernel
theorem dL_build_134 : decode cL_build 134 = .ok (.iconst 1, 1) := by decide +kernel
theorem dL_build_135 : decode cL_build 135 = .ok (.iand, 1) := by decide +kernel
theorem dL_build_136 : decode cL_build 136 = .ok (.iload 4, 2) := by decide +kernel
theorem dL_build_138 : decode cL_build 138 = .ok (.bipush 7, 2) := by decide +kernel
theorem dL_build_140 : decode cL_build 140 = .ok (.ishr, 1) := by decide +kernel
theorem dL_build_141 : decode cL_build 141 = .ok (.bipush 15, 2) := by decide +kernel
theorem dL_build_143 : decode cL_build 143 = .ok (.iand, 1) := by decide +kernel
theorem dL_build_144 : decode cL_build 144 = .ok (.iload 5, 2) := by decide +kernel
theorem dL_build_146 : decode cL_build 146 = .ok (.irem, 1) := by decide +kernel
theorem dL_build_147 : decode cL_build 147 = .ok (.invokestatic 30, 3) := by decide +kernel
theorem dL_build_150 : decode cL_build 150 = .ok (.pop, 1) := by decide +kernel
theorem dL_build_151 : decode cL_build 151 = .ok (.iload 4, 2) := by decide +kernel
theorem dL_build_153 : decode cL_build 153 = .ok (.bipush 11, 2) := by decide +kernel
theorem dL_build_155 : decode cL_build 155 = .ok (.ishr, 1) := by decide +kernel
theorem dL_build_156 : decode cL_build 156 = .ok (.iconst 3, 1) := by decide +kernel
theorem dL_build_157 : decode cL_build 157 = .ok (.iand, 1) := by decide +kernel
theorem dL_build_158 : decode cL_build 158 = .ok (.ifCond .ne 34, 3) := by decide +kernel
theorem dL_build_161 : decode cL_build 161 = .ok (.aload_n 1, 1) := by decide +kernel
theorem dL_build_162 : decode cL_build 162 = .ok (.iconst 2, 1) := by decide +kernel
theorem dL_build_163 : decode cL_build 163 = .ok (.iload 4, 2) := by decide +kernel
theorem dL_build_165 : decode cL_build 165 = .ok (.bipush 13, 2) := by decide +kernel
theorem dL_build_167 : decode cL_build 167 = .ok (.ishr, 1) := by decide +kernel
theorem dL_build_168 : decode cL_build 168 = .ok (.bipush 15, 2) := by decide +kernel
theorem dL_build_170 : decode cL_build 170 = .ok (.iand, 1) := by decide +kernel
theorem dL_build_171 : decode cL_build 171 = .ok (.iload 5, 2) := by decide +kernel
theorem dL_build_173 : decode cL_build 173 = .ok (.irem, 1) := by decide +kernel
theorem dL_build_174 : decode cL_build 174 = .ok (.iload 4, 2) := by decide +kernel
theorem dL_build_176 : decode cL_build 176 = .ok (.bipush 17, 2) := by decide +kernel
theorem dL_build_178 : decode cL_build 178 = .ok (.ishr, 1) := by decide +kernel
theorem dL_build_179 : decode cL_build 179 = .ok (.bipush 127, 2) := by decide +kernel
theorem dL_build_181 : decode cL_build 181 = .ok (.iand, 1) := by decide +kernel
theorem dL_build_182 : decode cL_build 182 = .ok (.bipush 100, 2) := by decide +kernel
theorem dL_build_184 : decode cL_build 184 = .ok (.irem, 1) := by decide +kernel
theorem dL_build_185 : decode cL_build 185 = .ok (.bipush 50, 2) := by decide +kernel
theorem dL_build_187 : decode cL_build 187 = .ok (.isub, 1) := by decide +kernel
theorem dL_build_188 : decode cL_build 188 = .ok (.invokestatic 30, 3) := by decide +kernel
theorem dL_build_191 : decode cL_build 191 = .ok (.pop, 1) := by decide +kernel
theorem dL_build_192 : decode cL_build 192 = .ok (.iload 4, 2) := by decide +kernel
theorem dL_build_194 : decode cL_build 194 = .ok (.bipush 11, 2) := by decide +kernel
theorem dL_build_196 : decode cL_build 196 = .ok (.ishr, 1) := by decide +kernel
theorem dL_build_197 : decode cL_build 197 = .ok (.bipush 7, 2) := by decide +kernel
theorem dL_build_199 : decode cL_build 199 = .ok (.iand, 1) := by decide +kernel
theorem dL_build_200 : decode cL_build 200 = .ok (.iconst 1, 1) := by decide +kernel
theorem dL_build_201 : decode cL_build 201 = .ok (.if_icmp .ne 27, 3) := by decide +kernel
theorem dL_build_204 : decode cL_build 204 = .ok (.aload_n 1, 1) := by decide +kernel
theorem dL_build_205 : decode cL_build 205 = .ok (.iconst 4, 1) := by decide +kernel
theorem dL_build_206 : decode cL_build 206 = .ok (.iload 4, 2) := by decide +kernel
theorem dL_build_208 : decode cL_build 208 = .ok (.bipush 14, 2) := by decide +kernel
theorem dL_build_210 : decode cL_build 210 = .ok (.ishr, 1) := by decide +kernel
theorem dL_build_211 : decode cL_build 211 = .ok (.bipush 15, 2) := by decide +kernel
theorem dL_build_213 : decode cL_build 213 = .ok (.iand, 1) := by decide +kernel
theorem dL_build_214 : decode cL_build 214 = .ok (.bipush 12, 2) := by decide +kernel
theorem dL_build_216 : decode cL_build 216 = .ok (.irem, 1) := by decide +kernel
theorem dL_build_217 : decode cL_build 217 = .ok (.iload 4, 2) := by decide +kernel
theorem dL_build_219 : decode cL_build 219 = .ok (.bipush 18, 2) := by decide +kernel
theorem dL_build_221 : decode cL_build 221 = .ok (.ishr, 1) := by decide +kernel
theorem dL_build_222 : decode cL_build 222 = .ok (.iconst 1, 1) := by decide +kernel
theorem dL_build_223 : decode cL_build 223 = .ok (.iand, 1) := by decide +kernel
theorem dL_build_224 : decode cL_build 224 = .ok (.invokestatic 30, 3) := by decide +kernel
theorem dL_build_227 : decode cL_build 227 = .ok (.pop, 1) := by decide +kernel
theorem dL_build_228 : decode cL_build 228 = .ok (.iload 4, 2) := by decide +kernel
theorem dL_build_230 : decode cL_build 230 = .ok (.bipush 11, 2) := by decide +kernel
theorem dL_build_232 : decode cL_build 232 = .ok (.ishr, 1) := by decide +kernel
theorem dL_build_233 : decode cL_build 233 = .ok (.bipush 7, 2) := by decide +kernel
theorem dL_build_235 : decode cL_build 235 = .ok (.iand, 1) := by decide +kernel
theorem dL_build_236 : decode cL_build 236 = .ok (.iconst 2, 1) := by decide +kernel
theorem dL_build_237 : decode cL_build 237 = .ok (.if_icmp .ne 25, 3) := by decide +kernel
theorem dL_build_240 : decode cL_build 240 = .ok (.aload_n 1, 1) := by decide +kernel
theorem dL_build_241 : decode cL_build 241 = .ok (.bipush 8, 2) := by decide +kernel
theorem dL_build_243 : decode cL_build 243 = .ok (.iload 4, 2) := by decide +kernel
theorem dL_build_245 : decode cL_build 245 = .ok (.bipush 14, 2) := by decide +kernel
theorem dL_build_247 : decode cL_build 247 = .ok (.ishr, 1) := by decide +kernel
theorem dL_build_248 : decode cL_build 248 = .ok (.iconst 3, 1) := by decide +kernel
theorem dL_build_249 : decode cL_build 249 = .ok (.iand, 1) := by decide +kernel
theorem dL_build_250 : decode cL_build 250 = .ok (.iload 4, 2) := by decide +kernel
theorem dL_build_252 : decode cL_build 252 = .ok (.bipush 16, 2) := by decide +kernel
theorem dL_build_254 : decode cL_build 254 = .ok (.ishr, 1) := by decide +kernel
theorem dL_build_255 : decode cL_build 255 = .ok (.bipush 15, 2) := by decide +kernel
theorem dL_build_257 : decode cL_build 257 = .ok (.iand, 1) := by decide +kernel
theorem dL_build_258 : decode cL_build 258 = .ok (.invokestatic 30, 3) := by decide +kernel
theorem dL_build_261 : decode cL_build 261 = .ok (.pop, 1) := by decide +kernel
theorem dL_build_262 : decode cL_build 262 = .ok (.iload 4, 2) := by decide +kernel
theorem dL_build_264 : decode cL_build 264 = .ok (.bipush 11, 2) := by decide +kernel
theorem dL_build_266 : decode cL_build 266 = .ok (.ishr, 1) := by decide +kernel
theorem dL_build_267 : decode cL_build 267 = .ok (.bipush 7, 2) := by decide +kernel
theorem dL_build_269 : decode cL_build 269 = .ok (.iand, 1) := by decide +kernel
theorem dL_build_270 : decode cL_build 270 = .ok (.iconst 3, 1) := by decide +kernel
theorem dL_build_271 : decode cL_build 271 = .ok (.if_icmp .ne 31, 3) := by decide +kernel
theorem dL_build_274 : decode cL_build 274 = .ok (.aload_n 1, 1) := by decide +kernel
theorem dL_build_275 : decode cL_build 275 = .ok (.bipush 9, 2) := by decide +kernel
theorem dL_build_277 : decode cL_build 277 = .ok (.iconst 1, 1) := by decide +kernel
theorem dL_build_278 : decode cL_build 278 = .ok (.iload 4, 2) := by decide +kernel
theorem dL_build_280 : decode cL_build 280 = .ok (.bipush 14, 2) := by decide +kernel
theorem dL_build_282 : decode cL_build 282 = .ok (.ishr, 1) := by decide +kernel
theorem dL_build_283 : decode cL_build 283 = .ok (.bipush 7, 2) := by decide +kernel
theorem dL_build_285 : decode cL_build 285 = .ok (.iand, 1) := by decide +kernel
theorem dL_build_286 : decode cL_build 286 = .ok (.iadd, 1) := by decide +kernel
theorem dL_build_287 : decode cL_build 287 = .ok (.iload 4, 2) := by decide +kernel
theorem dL_build_289 : decode cL_build 289 = .ok (.bipush 17, 2) := by decide +kernel
theorem dL_build_291 : decode cL_build 291 = .ok (.ishr, 1) := by decide +kernel
theorem dL_build_292 : decode cL_build 292 = .ok (.bipush 15, 2) := by decide +kernel
theorem dL_build_294 : decode cL_build 294 = .ok (.iand, 1) := by decide +kernel
theorem dL_build_295 : decode cL_build 295 = .ok (.bipush 8, 2) := by decide +kernel
theorem dL_build_297 : decode cL_build 297 = .ok (.isub, 1) := by decide +kernel
theorem dL_build_298 : decode cL_build 298 = .ok (.invokestatic 30, 3) := by decide +kernel
theorem dL_build_301 : decode cL_build 301 = .ok (.pop, 1) := by decide +kernel
theorem dL_build_302 : decode cL_build 302 = .ok (.iload 4, 2) := by decide +kernel
theorem dL_build_304 : decode cL_build 304 = .ok (.bipush 11, 2) := by decide +kernel
theorem dL_build_306 : decode cL_build 306 = .ok (.ishr, 1) := by decide +kernel
theorem dL_build_307 : decode cL_build 307 = .ok (.bipush 7, 2) := by decide +kernel
theorem dL_build_309 : decode cL_build 309 = .ok (.iand, 1) := by decide +kernel
theorem dL_build_310 : decode cL_build 310 = .ok (.iconst 5, 1) := by decide +kernel
theorem dL_build_311 : decode cL_build 311 = .ok (.if_icmp .ne 21, 3) := by decide +kernel
theorem dL_build_314 : decode cL_build 314 = .ok (.aload_n 1, 1) := by decide +kernel
theorem dL_build_315 : decode cL_build 315 = .ok (.iconst 5, 1) := by decide +kernel
theorem dL_build_316 : decode cL_build 316 = .ok (.iload 4, 2) := by decide +kernel
theorem dL_build_318 : decode cL_build 318 = .ok (.bipush 14, 2) := by decide +kernel
theorem dL_build_320 : decode cL_build 320 = .ok (.ishr, 1) := by decide +kernel
theorem dL_build_321 : decode cL_build 321 = .ok (.bipush 63, 2) := by decide +kernel
theorem dL_build_323 : decode cL_build 323 = .ok (.iand, 1) := by decide +kernel
theorem dL_build_324 : decode cL_build 324 = .ok (.bipush 51, 2) := by decide +kernel
theorem dL_build_326 : decode cL_build 326 = .ok (.irem, 1) := by decide +kernel
theorem dL_build_327 : decode cL_build 327 = .ok (.iconst 0, 1) := by decide +kernel
theorem dL_build_328 : decode cL_build 328 = .ok (.invokestatic 30, 3) := by decide +kernel
theorem dL_build_331 : decode cL_build 331 = .ok (.pop, 1) := by decide +kernel
theorem dL_build_332 : decode cL_build 332 = .ok (.iload 4, 2) := by decide +kernel
theorem dL_build_334 : decode cL_build 334 = .ok (.bipush 11, 2) := by decide +kernel
theorem dL_build_336 : decode cL_build 336 = .ok (.ishr, 1) := by decide +kernel
theorem dL_build_337 : decode cL_build 337 = .ok (.bipush 7, 2) := by decide +kernel
theorem dL_build_339 : decode cL_build 339 = .ok (.iand, 1) := by decide +kernel
theorem dL_build_340 : decode cL_build 340 = .ok (.bipush 6, 2) := by decide +kernel
theorem dL_build_342 : decode cL_build 342 = .ok (.if_icmp .ne 27, 3) := by decide +kernel
theorem dL_build_345 : decode cL_build 345 = .ok (.aload_n 1, 1) := by decide +kernel
theorem dL_build_346 : decode cL_build 346 = .ok (.iconst 3, 1) := by decide +kernel
theorem dL_build_347 : decode cL_build 347 = .ok (.iload 4, 2) := by decide +kernel
theorem dL_build_349 : decode cL_build 349 = .ok (.bipush 14, 2) := by decide +kernel
theorem dL_build_351 : decode cL_build 351 = .ok (.ishr, 1) := by decide +kernel
theorem dL_build_352 : decode cL_build 352 = .ok (.bipush 15, 2) := by decide +kernel
theorem dL_build_354 : decode cL_build 354 = .ok (.iand, 1) := by decide +kernel
theorem dL_build_355 : decode cL_build 355 = .ok (.iload 5, 2) := by decide +kernel
theorem dL_build_357 : decode cL_build 357 = .ok (.irem, 1) := by decide +kernel
theorem dL_build_358 : decode cL_build 358 = .ok (.iload 4, 2) := by decide +kernel
theorem dL_build_360 : decode cL_build 360 = .ok (.bipush 18, 2) := by decide +kernel
theorem dL_build_362 : decode cL_build 362 = .ok (.ishr, 1) := by decide +kernel
theorem dL_build_363 : decode cL_build 363 = .ok (.iconst 3, 1) := by decide +kernel
theorem dL_build_364 : decode cL_build 364 = .ok (.iand, 1) := by decide +kernel
theorem dL_build_365 : decode cL_build 365 = .ok (.invokestatic 30, 3) := by decide +kernel
theorem dL_build_368 : decode cL_build 368 = .ok (.pop, 1) := by decide +kernel
theorem dL_build_369 : decode cL_build 369 = .ok (.iload 4, 2) := by decide +kernel
theorem dL_build_371 : decode cL_build 371 = .ok (.bipush 11, 2) := by decide +kernel
theorem dL_build_373 : decode cL_build 373 = .ok (.ishr, 1) := by decide +kernel
theorem dL_build_374 : decode cL_build 374 = .ok (.bipush 15, 2) := by decide +kernel
theorem dL_build_376 : decode cL_build 376 = .ok (.iand, 1) := by decide +kernel
theorem dL_build_377 : decode cL_build 377 = .ok (.bipush 7, 2) := by decide +kernel
theorem dL_build_379 : decode cL_build 379 = .ok (.if_icmp .ne 27, 3) := by decide +kernel
theorem dL_build_382 : decode cL_build 382 = .ok (.aload_n 1, 1) := by decide +kernel
theorem dL_build_383 : decode cL_build 383 = .ok (.bipush 11, 2) := by decide +kernel
theorem dL_build_385 : decode cL_build 385 = .ok (.iload 4, 2) := by decide +kernel
theorem dL_build_387 : decode cL_build 387 = .ok (.bipush 15, 2) := by decide +kernel
theorem dL_build_389 : decode cL_build 389 = .ok (.ishr, 1) := by decide +kernel
theorem dL_build_390 : decode cL_build 390 = .ok (.iconst 3, 1) := by decide +kernel
theorem dL_build_391 : decode cL_build 391 = .ok (.iand, 1) := by decide +kernel
theorem dL_build_392 : decode cL_build 392 = .ok (.iconst 1, 1) := by decide +kernel
theorem dL_build_393 : decode cL_build 393 = .ok (.iload 4, 2) := by decide +kernel
theorem dL_build_395 : decode cL_build 395 = .ok (.bipush 17, 2) := by decide +kernel
theorem dL_build_397 : decode cL_build 397 = .ok (.ishr, 1) := by decide +kernel
theorem dL_build_398 : decode cL_build 398 = .ok (.bipush 31, 2) := by decide +kernel
theorem dL_build_400 : decode cL_build 400 = .ok (.iand, 1) := by decide +kernel
theorem dL_build_401 : decode cL_build 401 = .ok (.iadd, 1) := by decide +kernel
theorem dL_build_402 : decode cL_build 402 = .ok (.invokestatic 30, 3) := by decide +kernel
theorem dL_build_405 : decode cL_build 405 = .ok (.pop, 1) := by decide +kernel
theorem dL_build_406 : decode cL_build 406 = .ok (.iload 4, 2) := by decide +kernel
theorem dL_build_408 : decode cL_build 408 = .ok (.bipush 11, 2) := by decide +kernel
theorem dL_build_410 : decode cL_build 410 = .ok (.ishr, 1) := by decide +kernel
theorem dL_build_411 : decode cL_build 411 = .ok (.bipush 31, 2) := by decide +kernel
theorem dL_build_413 : decode cL_build 413 = .ok (.iand, 1) := by decide +kernel
theorem dL_build_414 : decode cL_build 414 = .ok (.bipush 15, 2) := by decide +kernel
theorem dL_build_416 : decode cL_build 416 = .ok (.if_icmp .ne 21, 3) := by decide +kernel
theorem dL_build_419 : decode cL_build 419 = .ok (.aload_n 1, 1) := by decide +kernel
theorem dL_build_420 : decode cL_build 420 = .ok (.iconst 1, 1) := by decide +kernel
theorem dL_build_421 : decode cL_build 421 = .ok (.iload 4, 2) := by decide +kernel
theorem dL_build_423 : decode cL_build 423 = .ok (.bipush 16, 2) := by decide +kernel
theorem dL_build_425 : decode cL_build 425 = .ok (.ishr, 1) := by decide +kernel
theorem dL_build_426 : decode cL_build 426 = .ok (.bipush 15, 2) := by decide +kernel
theorem dL_build_428 : decode cL_build 428 = .ok (.iand, 1) := by decide +kernel
theorem dL_build_429 : decode cL_build 429 = .ok (.iload 5, 2) := by decide +kernel
theorem dL_build_431 : decode cL_build 431 = .ok (.irem, 1) := by decide +kernel
theorem dL_build_432 : decode cL_build 432 = .ok (.iconst 0, 1) := by decide +kernel
theorem dL_build_433 : decode cL_build 433 = .ok (.invokestatic 30, 3) := by decide +kernel
theorem dL_build_436 : decode cL_build 436 = .ok (.pop, 1) := by decide +kernel
theorem dL_build_437 : decode cL_build 437 = .ok (.iload 4, 2) := by decide +kernel
theorem dL_build_439 : decode cL_build 439 = .ok (.bipush 11, 2) := by decide +kernel
theorem dL_build_441 : decode cL_build 441 = .ok (.ishr, 1) := by decide +kernel
theorem dL_build_442 : decode cL_build 442 = .ok (.bipush 31, 2) := by decide +kernel
theorem dL_build_444 : decode cL_build 444 = .ok (.iand, 1) := by decide +kernel
theorem dL_build_445 : decode cL_build 445 = .ok (.bipush 31, 2) := by decide +kernel
theorem dL_build_447 : decode cL_build 447 = .ok (.if_icmp .ne 18, 3) := by decide +kernel
theorem dL_build_450 : decode cL_build 450 = .ok (.aload_n 1, 1) := by decide +kernel
theorem dL_build_451 : decode cL_build 451 = .ok (.bipush 7, 2) := by decide +kernel
theorem dL_build_453 : decode cL_build 453 = .ok (.iload 4, 2) := by decide +kernel
theorem dL_build_455 : decode cL_build 455 = .ok (.bipush 16, 2) := by decide +kernel
theorem dL_build_457 : decode cL_build 457 = .ok (.ishr, 1) := by decide +kernel
theorem dL_build_458 : decode cL_build 458 = .ok (.iconst 3, 1) := by decide +kernel
theorem dL_build_459 : decode cL_build 459 = .ok (.iand, 1) := by decide +kernel
theorem dL_build_460 : decode cL_build 460 = .ok (.iconst 0, 1) := by decide +kernel
theorem dL_build_461 : decode cL_build 461 = .ok (.invokestatic 30, 3) := by decide +kernel
theorem dL_build_464 : decode cL_build 464 = .ok (.pop, 1) := by decide +kernel
theorem dL_build_465 : decode cL_build 465 = .ok (.iload 4, 2) := by decide +kernel
theorem dL_build_467 : decode cL_build 467 = .ok (.bipush 21, 2) := by decide +kernel
theorem dL_build_469 : decode cL_build 469 = .ok (.ishr, 1) := by decide +kernel
theorem dL_build_470 : decode cL_build 470 = .ok (.bipush 7, 2) := by decide +kernel
theorem dL_build_472 : decode cL_build 472 = .ok (.iand, 1) := by decide +kernel
theorem dL_build_473 : decode cL_build 473 = .ok (.ifCond .ne 30, 3) := by decide +kernel
theorem dL_build_476 : decode cL_build 476 = .ok (.aload_n 1, 1) := by decide +kernel
theorem dL_build_477 : decode cL_build 477 = .ok (.iconst 0, 1) := by decide +kernel
theorem dL_build_478 : decode cL_build 478 = .ok (.iload 4, 2) := by decide +kernel
theorem dL_build_480 : decode cL_build 480 = .ok (.bipush 24, 2) := by decide +kernel
theorem dL_build_482 : decode cL_build 482 = .ok (.ishr, 1) := by decide +kernel
theorem dL_build_483 : decode cL_build 483 = .ok (.iconst 3, 1) := by decide +kernel
theorem dL_build_484 : decode cL_build 484 = .ok (.iand, 1) := by decide +kernel
theorem dL_build_485 : decode cL_build 485 = .ok (.sipush 3600, 3) := by decide +kernel
theorem dL_build_488 : decode cL_build 488 = .ok (.bipush 50, 2) := by decide +kernel
theorem dL_build_490 : decode cL_build 490 = .ok (.iload 4, 2) := by decide +kernel
theorem dL_build_492 : decode cL_build 492 = .ok (.iconst 5, 1) := by decide +kernel
theorem dL_build_493 : decode cL_build 493 = .ok (.ishr, 1) := by decide +kernel
theorem dL_build_494 : decode cL_build 494 = .ok (.bipush 63, 2) := by decide +kernel
theorem dL_build_496 : decode cL_build 496 = .ok (.iand, 1) := by decide +kernel
theorem dL_build_497 : decode cL_build 497 = .ok (.imul, 1) := by decide +kernel
theorem dL_build_498 : decode cL_build 498 = .ok (.iadd, 1) := by decide +kernel
theorem dL_build_499 : decode cL_build 499 = .ok (.invokestatic 30, 3) := by decide +kernel
theorem dL_build_502 : decode cL_build 502 = .ok (.pop, 1) := by decide +kernel
theorem dL_build_503 : decode cL_build 503 = .ok (.iload 4, 2) := by decide +kernel
theorem dL_build_505 : decode cL_build 505 = .ok (.bipush 21, 2) := by decide +kernel
theorem dL_build_507 : decode cL_build 507 = .ok (.ishr, 1) := by decide +kernel
theorem dL_build_508 : decode cL_build 508 = .ok (.bipush 15, 2) := by decide +kernel
theorem dL_build_510 : decode cL_build 510 = .ok (.iand, 1) := by decide +kernel
theorem dL_build_511 : decode cL_build 511 = .ok (.iconst 1, 1) := by decide +kernel
theorem dL_build_512 : decode cL_build 512 = .ok (.if_icmp .ne 27, 3) := by decide +kernel
theorem dL_build_515 : decode cL_build 515 = .ok (.aload_n 1, 1) := by decide +kernel
theorem dL_build_516 : decode cL_build 516 = .ok (.bipush 10, 2) := by decide +kernel
theorem dL_build_518 : decode cL_build 518 = .ok (.iload 4, 2) := by decide +kernel
theorem dL_build_520 : decode cL_build 520 = .ok (.bipush 25, 2) := by decide +kernel
theorem dL_build_522 : decode cL_build 522 = .ok (.ishr, 1) := by decide +kernel
theorem dL_build_523 : decode cL_build 523 = .ok (.iconst 3, 1) := by decide +kernel
theorem dL_build_524 : decode cL_build 524 = .ok (.iand, 1) := by decide +kernel
theorem dL_build_525 : decode cL_build 525 = .ok (.iconst 1, 1) := by decide +kernel
theorem dL_build_526 : decode cL_build 526 = .ok (.aload_n 1, 1) := by decide +kernel
theorem dL_build_527 : decode cL_build 527 = .ok (.invokevirtual 43, 3) := by decide +kernel
theorem dL_build_530 : decode cL_build 530 = .ok (.invokestatic 37, 3) := by decide +kernel
theorem dL_build_533 : decode cL_build 533 = .ok (.irem, 1) := by decide +kernel
theorem dL_build_534 : decode cL_build 534 = .ok (.iconst 0, 1) := by decide +kernel
theorem dL_build_535 : decode cL_build 535 = .ok (.invokestatic 30, 3) := by decide +kernel
theorem dL_build_538 : decode cL_build 538 = .ok (.pop, 1) := by decide +kernel
theorem dL_build_539 : decode cL_build 539 = .ok (.iinc 3 1, 3) := by decide +kernel
theorem dL_build_542 : decode cL_build 542 = .ok (.goto (-464), 3) := by decide +kernel
theorem dL_build_545 : decode cL_build 545 = .ok (.aload_n 1, 1) := by decide +kernel
theorem dL_build_546 : decode cL_build 546 = .ok (.areturn, 1) := by decide +kernel
def f_L_build_L16 (q1 : Int32) (K16 : VB_t → Option (VB_t)) : Nat → Int32 → VB_t → Option (VB_t)
  | 0, _, _ => none
  | n16 + 1, i2, i3 =>
    q_br ((3 + (q1 &&& 3)) ≤ i2) (
  K16 i3) (
  q_bd (f_L_act i3 0 ((q1 >>> ((2 + (2 * i2)) &&& 31)) &&& 3) (((4800 + (100 * (((q1 >>> ((3 + (3 * i2)) &&& 31)) &&& 31) - ((q1 >>> ((3 + (3 * i2)) &&& 31)) &&& 31) / 30 * 30))) + ((q1 >>> (i2 &&& 31)) &&& 63)) - 30)) (fun q5 =>
  q_lt (i2 + 1 : Int32) (fun v6 =>
  f_L_build_L16 q1 K16 n16 v6 q5.2)))
def f_L_build_L78 (ns : Nat) (xs : (Nat → Int32)) (K78 : VB_t → Option (VB_t)) : Nat → Int32 → VB_t → Option (VB_t)
  | 0, _, _ => none
  | n78 + 1, i7, i8 =>
    q_br (13 ≤ i7) (
  K78 i8) (
  q_bd (f_L_at ns xs i7) (fun q10 =>
  q_bd (g_X10_bellCount i8) (fun q11 =>
  q_lt (if 1 < q11 then q11 else 1 : Int32) (fun v12 =>
  q_gd (¬ v12 = 0) (
  q_lt ((q10 &&& 15) - (q10 &&& 15) / v12 * v12 : Int32) (fun v14 =>
  q_bd (f_L_act i8 6 ((q10 >>> ((4 : Int32) &&& 31)) &&& 3) v14) (fun q15 =>
  q_gd (¬ v12 = 0) (
  q_bd (f_L_act q15.2 6 ((q10 >>> ((6 : Int32) &&& 31)) &&& 1) (((q10 >>> ((7 : Int32) &&& 31)) &&& 15) - ((q10 >>> ((7 : Int32) &&& 31)) &&& 15) / v12 * v12)) (fun q17 =>
  q_lt (fun (j18 : VB_t) =>
  q_lt (fun (j19 : VB_t) =>
  q_lt (fun (j20 : VB_t) =>
  q_lt (fun (j21 : VB_t) =>
  q_lt (fun (j22 : VB_t) =>
  q_lt (fun (j23 : VB_t) =>
  q_lt (fun (j24 : VB_t) =>
  q_lt (fun (j25 : VB_t) =>
  q_lt (fun (j26 : VB_t) =>
  q_lt (fun (j27 : VB_t) =>
  q_lt (fun (j28 : VB_t) =>
  q_lt (i7 + 1 : Int32) (fun v29 =>
  f_L_build_L78 ns xs K78 n78 v29 j28)) (fun (J539 : VB_t → Option (VB_t)) =>
  q_br (((q10 >>> ((21 : Int32) &&& 31)) &&& 15) = 1) (
  q_bd (g_X10_cliffCount j27) (fun q30 =>
  q_gd (¬ (if 1 < q30 then q30 else 1) = 0) (
  q_bd (f_L_act j27 10 (((q10 >>> ((25 : Int32) &&& 31)) &&& 3) - ((q10 >>> ((25 : Int32) &&& 31)) &&& 3) / (if 1 < q30 then q30 else 1) * (if 1 < q30 then q30 else 1)) 0) (fun q32 =>
  J539 q32.2)))) (
  J539 j27))) (fun (J503 : VB_t → Option (VB_t)) =>
  q_br (((q10 >>> ((21 : Int32) &&& 31)) &&& 7) = 0) (
  q_bd (f_L_act j26 0 ((q10 >>> ((24 : Int32) &&& 31)) &&& 3) (3600 + (50 * ((q10 >>> ((5 : Int32) &&& 31)) &&& 63)))) (fun q33 =>
  J503 q33.2)) (
  J503 j26))) (fun (J465 : VB_t → Option (VB_t)) =>
  q_br (((q10 >>> ((11 : Int32) &&& 31)) &&& 31) = 31) (
  q_bd (f_L_act j25 7 ((q10 >>> ((16 : Int32) &&& 31)) &&& 3) 0) (fun q34 =>
  J465 q34.2)) (
  J465 j25))) (fun (J437 : VB_t → Option (VB_t)) =>
  q_br (((q10 >>> ((11 : Int32) &&& 31)) &&& 31) = 15) (
  q_gd (¬ v12 = 0) (
  q_bd (f_L_act j24 1 (((q10 >>> ((16 : Int32) &&& 31)) &&& 15) - ((q10 >>> ((16 : Int32) &&& 31)) &&& 15) / v12 * v12) 0) (fun q36 =>
  J437 q36.2))) (
  J437 j24))) (fun (J406 : VB_t → Option (VB_t)) =>
  q_br (((q10 >>> ((11 : Int32) &&& 31)) &&& 15) = 7) (
  q_bd (f_L_act j23 11 ((q10 >>> ((15 : Int32) &&& 31)) &&& 3) (1 + ((q10 >>> ((17 : Int32) &&& 31)) &&& 31))) (fun q37 =>
  J406 q37.2)) (
  J406 j23))) (fun (J369 : VB_t → Option (VB_t)) =>
  q_br (((q10 >>> ((11 : Int32) &&& 31)) &&& 7) = 6) (
  q_gd (¬ v12 = 0) (
  q_bd (f_L_act j22 3 (((q10 >>> ((14 : Int32) &&& 31)) &&& 15) - ((q10 >>> ((14 : Int32) &&& 31)) &&& 15) / v12 * v12) ((q10 >>> ((18 : Int32) &&& 31)) &&& 3)) (fun q39 =>
  J369 q39.2))) (
  J369 j22))) (fun (J332 : VB_t → Option (VB_t)) =>
  q_br (((q10 >>> ((11 : Int32) &&& 31)) &&& 7) = 5) (
  q_bd (f_L_act j21 5 (((q10 >>> ((14 : Int32) &&& 31)) &&& 63) - ((q10 >>> ((14 : Int32) &&& 31)) &&& 63) / 51 * 51) 0) (fun q40 =>
  J332 q40.2)) (
  J332 j21))) (fun (J302 : VB_t → Option (VB_t)) =>
  q_br (((q10 >>> ((11 : Int32) &&& 31)) &&& 7) = 3) (
  q_bd (f_L_act j20 9 (1 + ((q10 >>> ((14 : Int32) &&& 31)) &&& 7)) (((q10 >>> ((17 : Int32) &&& 31)) &&& 15) - 8)) (fun q41 =>
  J302 q41.2)) (
  J302 j20))) (fun (J262 : VB_t → Option (VB_t)) =>
  q_br (((q10 >>> ((11 : Int32) &&& 31)) &&& 7) = 2) (
  q_bd (f_L_act j19 8 ((q10 >>> ((14 : Int32) &&& 31)) &&& 3) ((q10 >>> ((16 : Int32) &&& 31)) &&& 15)) (fun q42 =>
  J262 q42.2)) (
  J262 j19))) (fun (J228 : VB_t → Option (VB_t)) =>
  q_br (((q10 >>> ((11 : Int32) &&& 31)) &&& 7) = 1) (
  q_bd (f_L_act j18 4 (((q10 >>> ((14 : Int32) &&& 31)) &&& 15) - ((q10 >>> ((14 : Int32) &&& 31)) &&& 15) / 12 * 12) ((q10 >>> ((18 : Int32) &&& 31)) &&& 1)) (fun q43 =>
  J228 q43.2)) (
  J228 j18))) (fun (J192 : VB_t → Option (VB_t)) =>
  q_br (((q10 >>> ((11 : Int32) &&& 31)) &&& 3) = 0) (
  q_gd (¬ v12 = 0) (
  q_bd (f_L_act q17.2 2 (((q10 >>> ((13 : Int32) &&& 31)) &&& 15) - ((q10 >>> ((13 : Int32) &&& 31)) &&& 15) / v12 * v12) ((((q10 >>> ((17 : Int32) &&& 31)) &&& 127) - ((q10 >>> ((17 : Int32) &&& 31)) &&& 127) / 100 * 100) - 50)) (fun q45 =>
  J192 q45.2))) (
  J192 q17.2)))))))))))
def f_L_build (ns : Nat) (xs : (Nat → Int32)) : Option (VB_t) :=
  q_bd (f_L_at ns xs 0) (fun q1 =>
  f_L_build_L16 q1 (fun y4 =>
  f_L_build_L78 ns xs (fun y9 =>
  some y9) 16 1 y4) 8 0 vbi)
theorem hv_L_build : yL_build.cls = RL ∧ yL_build.cls ≠ "java/lang/invoke/MethodHandle" ∧ yL_build.cls ≠ "java/lang/invoke/VarHandle" ∧ (parseMethodDescriptor yL_build.desc).map (fun d => d.parameters.length) = some 1 := by decide +kernel
abbrev rm_L_build : Room := { frames := 9, cells := 379, slots := 2693, locals := 204 }
set_option maxHeartbeats 4000000 in
set_option maxRecDepth 100000 in
theorem k_L_build (l : Launch) (E : ET) (res : VB_t) (hF : f_L_build (E.2 19) (sx E) = some res) (sz : Nat) (hlt : l.stackTraces = false) : CtB l yL_build (mws yL_build cL_build 7 (some (.object "ValleyBells"))) rm_L_build 379 2693 [.ref (E.2 18)] E res sz := by
  refine mk_M (by decide +kernel) (Nat.le_of_ble_eq_true rfl) ?_
  intro p e s m below meth c A args Q ls hAe hsz hQ hx hb hr hml hin ha hown hlocks hA hz hzs hst hP hD hS hl
  have hown : s.vm.findClass RL = some m.cls := hown
  rw [hAe] at hQ
  subst hsz
  have hP : va_P E.1 vwCl (List.flatten []) s.heap := hP
  have hD : va_D A (List.flatten []) := hD
  have hl : lv_has ls 7 [(0, .ref (E.2 18))] := hl
  generalize hHe : s.heap = H at hP
  have hS : va_S A s.heap H [] := by rw [← hHe]; exact hS
  generalize ([] : List Loc) = locs at hS ⊢
  unfold f_L_build at hF
  refine vi_new (C := RX10) (T := TX10) (N := 10) (ci := 11) (fs := [.null, .null, .null, .null, .null, .null, .null, .int 0, .int 0, .int 0]) hx hb hst ha in_X10 tyX10 tyX10_ok hown mw56 mw57 mw26 hP hD hS hA rfl (by decide +kernel) (Nat.le_of_ble_eq_true rfl) (Nat.le_of_ble_eq_true rfl) dL_build_0 (fun q901 H hP hD hS => ?_)
  have hP : va_P E.1 vwCl (List.flatten [[(q901, .inr (11, [.null, .null, .null, .null, .null, .null, .null, .int 0, .int 0, .int 0]))]]) H := hP
  have hD : va_D A (List.flatten [[(q901, .inr (11, [.null, .null, .null, .null, .null, .null, .null, .int 0, .int 0, .int 0]))]]) := hD
  refine lv_dup hx hb dL_build_3 rfl ?_
  refine cl_c (L0 := []) (Lc := [[(q901, .inr (11, [.null, .null, .null, .null, .null, .null, .null, .int 0, .int 0, .int 0]))]]) (a0 := q901) (Lf := fun aN => bl_VB E aN 0 ((v_init, v_init, (fun _ => v_init, 0, 0), ((fun _ => 0, 0, fun _ => none, fun _ => 0), (fun _ => 0, 0, fun _ => 0, 0), (1, 0, 0)), (fun _ => 0, fun _ => 0, 0)), ((0, 0, 10), (fun _ => 0, 16, (aN 36), 0, 0), 0, (-1), (-1)))) (va_runI (As := []) (rest := [.ref q901]) ⟨hx, hb, hml, hown, ha⟩ (k_X10_init l E q901 H.size) (cwI 0 ha (gi_B (fun _ h => h) mw60) rfl rfl rfl (ha _ mw26) (ha _ mw58) (ha _ mw59) rfl hv_X10_init ⟨(Nat.le_of_ble_eq_true rfl), (Nat.le_of_ble_eq_true rfl)⟩) ⟨pre_blind, pre_at (L := [[(q901, .inr (11, [.null, .null, .null, .null, .null, .null, .null, .int 0, .int 0, .int 0]))]]) hP hD hS hz hzs hst [0] (by decide) rfl rfl⟩ rfl rfl hl.1 rfl (lv_room (Nat.le_of_ble_eq_true rfl)) dL_build_4 ⟨(Nat.le_of_ble_eq_true rfl), (Nat.le_of_ble_eq_true rfl)⟩) hP hD hS hA (fun b902 Hn ln ha0 hPn hDn hSn => ?_)
  clear hP hD hS
  subst ha0
  revert hPn hDn hSn; revert ln; revert Hn; intro H locs hP hD hS
  have hP : va_P E.1 vwCl (List.flatten [w_VB1 E b902 0 vbi]) H := P_one (L0 := []) (X := bl_VB E b902 0 ((v_init, v_init, (fun _ => v_init, 0, 0), ((fun _ => 0, 0, fun _ => none, fun _ => 0), (fun _ => 0, 0, fun _ => 0, 0), (1, 0, 0)), (fun _ => 0, fun _ => 0, 0)), ((0, 0, 10), (fun _ => 0, 16, (b902 36), 0, 0), 0, (-1), (-1)))) hP
  have hD : va_D A (List.flatten [w_VB1 E b902 0 vbi]) := D_one (L0 := []) (X := bl_VB E b902 0 ((v_init, v_init, (fun _ => v_init, 0, 0), ((fun _ => 0, 0, fun _ => none, fun _ => 0), (fun _ => 0, 0, fun _ => 0, 0), (1, 0, 0)), (fun _ => 0, fun _ => 0, 0)), ((0, 0, 10), (fun _ => 0, 16, (b902 36), 0, 0), 0, (-1), (-1)))) hD
  refine lv_astore_n (lv' := [(1, .ref (b902 0)), (0, .ref (E.2 18))]) hx hb dL_build_7 rfl hl (by decide) rfl (fun ls hl => ?_)
  refine lv_aload_n hx hb dL_build_8 rfl (lv_at hl 1 rfl) ?_
  refine lv_iconst (v := 0) hx hb dL_build_9 (by decide) ?_
  obtain ⟨q1, hq1, hF⟩ := q_bdi hF
  refine cl_i (Lc := []) (Lc' := []) (L' := [w_VB1 E b902 0 (vbi)]) (rv := q1) (va_runS (As := [.ref (E.2 18), .int 0]) (rest := []) ⟨hx, hb, hml, hown, ha⟩ (k_L_at l E 0 q1 hq1 H.size hlt) (cwS 2 ha (gi_S (fun _ h => h) mw1086 mw1087 mw25 mw1088) rfl rfl rfl hv_L_at ⟨(Nat.le_of_ble_eq_true rfl), (Nat.le_of_ble_eq_true rfl)⟩) ⟨pre_blind, pre_at hP hD hS hz hzs hst [] (by decide) rfl rfl⟩ rfl rfl hl.1 rfl (lv_room (Nat.le_of_ble_eq_true rfl)) dL_build_10 ⟨(Nat.le_of_ble_eq_true rfl), (Nat.le_of_ble_eq_true rfl)⟩) hP hD hS hA [] (by decide) rfl rfl rfl rfl (fun H locs hP hD hS => ?_)
  refine lv_istore_n (lv' := [(2, .int q1), (1, .ref (b902 0)), (0, .ref (E.2 18))]) hx hb dL_build_13 rfl hl (by decide) rfl (fun ls hl => ?_)
  refine lv_iconst (v := 0) hx hb dL_build_14 (by decide) ?_
  refine lv_istore_n (lv' := [(3, .int 0), (2, .int q1), (1, .ref (b902 0)), (0, .ref (E.2 18))]) hx hb dL_build_15 rfl hl (by decide) rfl (fun ls hl => ?_)
  have key16 : ∀ (K : VB_t → Option (VB_t)), (∀ (y4 : VB_t) (H : Heap) (locs : List Loc) (ls : Array Slot), K y4 = some res → va_P E.1 vwCl (List.flatten [w_VB1 E b902 0 (y4)]) H → va_D A (List.flatten [w_VB1 E b902 0 (y4)]) → va_S A s.heap H locs → lv_has ls 7 [(1, .ref (b902 0)), (0, .ref (E.2 18))] → W p l e rm_L_build s m args below meth c H locs 155 1349 Q (F0 m 76 ls [])) → ∀ (n : Nat) (i2 : Int32) (i3 : VB_t) (cv sv : Nat) (H : Heap) (locs : List Loc) (ls : Array Slot), cv + n * 1 ≤ 155 → sv + n * 6 ≤ 1349 → f_L_build_L16 q1 K n i2 i3 = some res → va_P E.1 vwCl (List.flatten [w_VB1 E b902 0 (i3)]) H → va_D A (List.flatten [w_VB1 E b902 0 (i3)]) → va_S A s.heap H locs → lv_has ls 7 [(3, .int i2), (2, .int q1), (1, .ref (b902 0)), (0, .ref (E.2 18))] → W p l e rm_L_build s m args below meth c H locs cv sv Q (F0 m 16 ls []) := by
    intro K16 hK16 n16
    induction n16 with
    | zero => intro i2 i3 cv sv H locs ls _ _ hF; exact absurd hF (by simp [f_L_build_L16])
    | succ n16 ih16 =>
      intro i2 i3 cv sv H locs ls hcv hsv hF hP hD hS hl
      rw [f_L_build_L16] at hF
      refine lv_iload_n hx hb dL_build_16 rfl (lv_at hl 0 rfl) ?_
      refine lv_iconst (v := 3) hx hb dL_build_17 (by decide) ?_
      refine lv_iload_n hx hb dL_build_18 rfl (lv_at hl 1 rfl) ?_
      refine lv_iconst (v := 3) hx hb dL_build_19 (by decide) ?_
      refine lv_iand hx hb dL_build_20 ?_
      refine lv_iadd hx hb dL_build_21 ?_
      refine lv_icmp_ge (tgt := 76) hx hb dL_build_22 (by decide) (fun c22 => ?_) (fun c22 => ?_)
      · have hF := q_brp c22 hF
        refine W.widen (k := 155) (n := 1349) (by omega) (by omega) ?_
        exact hK16 i3 H locs ls hF hP hD hS (lv_sub hl [2, 3] rfl)
      · have hF := q_brn c22 hF
        refine lv_aload_n hx hb dL_build_25 rfl (lv_at hl 2 rfl) ?_
        refine lv_iconst (v := 0) hx hb dL_build_26 (by decide) ?_
        refine lv_iload_n hx hb dL_build_27 rfl (lv_at hl 1 rfl) ?_
        refine lv_iconst (v := 2) hx hb dL_build_28 (by decide) ?_
        refine lv_iconst (v := 2) hx hb dL_build_29 (by decide) ?_
        refine lv_iload_n hx hb dL_build_30 rfl (lv_at hl 0 rfl) ?_
        refine lv_imul hx hb dL_build_31 ?_
        refine lv_iadd hx hb dL_build_32 ?_
        refine lv_ishr hx hb dL_build_33 ?_
        refine lv_iconst (v := 3) hx hb dL_build_34 (by decide) ?_
        refine lv_iand hx hb dL_build_35 ?_
        refine lv_sipush (v := 4800) hx hb dL_build_36 (by decide) ?_
        refine lv_bipush (v := 100) hx hb dL_build_39 (by decide) ?_
        refine lv_iload_n hx hb dL_build_41 rfl (lv_at hl 1 rfl) ?_
        refine lv_iconst (v := 3) hx hb dL_build_42 (by decide) ?_
        refine lv_iconst (v := 3) hx hb dL_build_43 (by decide) ?_
        refine lv_iload_n hx hb dL_build_44 rfl (lv_at hl 0 rfl) ?_
        refine lv_imul hx hb dL_build_45 ?_
        refine lv_iadd hx hb dL_build_46 ?_
        refine lv_ishr hx hb dL_build_47 ?_
        refine lv_bipush (v := 31) hx hb dL_build_48 (by decide) ?_
        refine lv_iand hx hb dL_build_50 ?_
        refine lv_bipush (v := 30) hx hb dL_build_51 (by decide) ?_
        refine lv_irem hx hb dL_build_53 (by decide) ?_
        refine lv_imul hx hb dL_build_54 ?_
        refine lv_iadd hx hb dL_build_55 ?_
        refine lv_iload_n hx hb dL_build_56 rfl (lv_at hl 1 rfl) ?_
        refine lv_iload_n hx hb dL_build_57 rfl (lv_at hl 0 rfl) ?_
        refine lv_ishr hx hb dL_build_58 ?_
        refine lv_bipush (v := 63) hx hb dL_build_59 (by decide) ?_
        refine lv_iand hx hb dL_build_61 ?_
        refine lv_iadd hx hb dL_build_62 ?_
        refine lv_bipush (v := 30) hx hb dL_build_63 (by decide) ?_
        refine lv_isub hx hb dL_build_65 ?_
        obtain ⟨q5, hq5, hF⟩ := q_bdi hF
        refine cl_i (Lc := [w_VB1 E b902 0 (i3)]) (Lc' := [w_VB1 E b902 0 (q5.2)]) (L' := [w_VB1 E b902 0 (q5.2)]) (rv := q5.1) (vx_runSW (As := [.ref (b902 0), .int 0, .int ((q1 >>> ((2 + (2 * i2)) &&& 31)) &&& 3), .int (((4800 + (100 * (((q1 >>> ((3 + (3 * i2)) &&& 31)) &&& 31) - ((q1 >>> ((3 + (3 * i2)) &&& 31)) &&& 31) / 30 * 30))) + ((q1 >>> (i2 &&& 31)) &&& 63)) - 30)]) (rest := []) ⟨hx, hb, hml, hown, ha⟩ (k_L_act l E b902 0 (i3) 0 ((q1 >>> ((2 + (2 * i2)) &&& 31)) &&& 3) (((4800 + (100 * (((q1 >>> ((3 + (3 * i2)) &&& 31)) &&& 31) - ((q1 >>> ((3 + (3 * i2)) &&& 31)) &&& 31) / 30 * 30))) + ((q1 >>> (i2 &&& 31)) &&& 63)) - 30) q5 hq5 H.size hlt) (vx_cwSW 4 ha (gi_TH (fun _ h => h) mw1111 mw1112 mw25 mw1113) rfl rfl rfl hv_L_act.2 ⟨(Nat.le_of_ble_eq_true rfl), (Nat.le_of_ble_eq_true rfl)⟩) ⟨pre_blind, pre_at hP hD hS hz hzs hst [0] (by decide) rfl rfl⟩ rfl rfl hl.1 rfl (lv_room (Nat.le_of_ble_eq_true rfl)) dL_build_66 ⟨by show cv + 1 ≤ 379; omega, by show sv + 6 ≤ 2693; omega⟩) hP hD hS hA [0] (by decide) rfl rfl rfl rfl (fun H locs hP hD hS => ?_)
        refine lv_pop hx hb dL_build_69 rfl ?_
        obtain ⟨v6, ev6⟩ : ∃ y : Int32, y = i2 + 1 := ⟨_, rfl⟩
        have hF := q_lti ev6 hF
        refine lv_iinc (v := v6) (lv' := [(3, .int v6), (2, .int q1), (1, .ref (b902 0)), (0, .ref (E.2 18))]) hx hb dL_build_70 hl (k := 0) rfl (by rw [ev6]; rfl) (by decide) rfl (fun ls hl => ?_)
        refine lv_goto (tgt := 16) hx hb dL_build_73 (by decide) ?_
        exact ih16 v6 q5.2 (cv + 1) (sv + 6) H locs ls (by omega) (by omega) hF hP hD hS (lv_sub hl [0, 1, 2, 3] rfl)
  refine key16 _ ?_ 8 0 vbi 147 1301 H locs ls (by omega) (by omega) hF hP hD hS (lv_sub hl [0, 1, 2, 3] rfl)
  intro y4 H locs ls hF hP hD hS hl
  refine lv_iconst (v := 1) hx hb dL_build_76 (by decide) ?_
  refine lv_istore_n (lv' := [(3, .int 1), (1, .ref (b902 0)), (0, .ref (E.2 18))]) hx hb dL_build_77 rfl hl (by decide) rfl (fun ls hl => ?_)
  have key78 : ∀ (K : VB_t → Option (VB_t)), (∀ (y9 : VB_t) (H : Heap) (locs : List Loc) (ls : Array Slot), K y9 = some res → va_P E.1 vwCl (List.flatten [w_VB1 E b902 0 (y9)]) H → va_D A (List.flatten [w_VB1 E b902 0 (y9)]) → va_S A s.heap H locs → lv_has ls 7 [(1, .ref (b902 0))] → W p l e rm_L_build s m args below meth c H locs 379 2693 Q (F0 m 545 ls [])) → ∀ (n : Nat) (i7 : Int32) (i8 : VB_t) (cv sv : Nat) (H : Heap) (locs : List Loc) (ls : Array Slot), cv + n * 14 ≤ 379 → sv + n * 84 ≤ 2693 → f_L_build_L78 (E.2 19) (sx E) K n i7 i8 = some res → va_P E.1 vwCl (List.flatten [w_VB1 E b902 0 (i8)]) H → va_D A (List.flatten [w_VB1 E b902 0 (i8)]) → va_S A s.heap H locs → lv_has ls 7 [(3, .int i7), (1, .ref (b902 0)), (0, .ref (E.2 18))] → W p l e rm_L_build s m args below meth c H locs cv sv Q (F0 m 78 ls []) := by
    intro K78 hK78 n78
    induction n78 with
    | zero => intro i7 i8 cv sv H locs ls _ _ hF; exact absurd hF (by simp [f_L_build_L78])
    | succ n78 ih78 =>
      intro i7 i8 cv sv H locs ls hcv hsv hF hP hD hS hl
      rw [f_L_build_L78] at hF
      refine lv_iload_n hx hb dL_build_78 rfl (lv_at hl 0 rfl) ?_
      refine lv_bipush (v := 13) hx hb dL_build_79 (by decide) ?_
      refine lv_icmp_ge (tgt := 545) hx hb dL_build_81 (by decide) (fun c81 => ?_) (fun c81 => ?_)
      · have hF := q_brp c81 hF
        refine W.widen (k := 379) (n := 2693) (by omega) (by omega) ?_
        exact hK78 i8 H locs ls hF hP hD hS (lv_sub hl [1] rfl)
      · have hF := q_brn c81 hF
        refine lv_aload_n hx hb dL_build_84 rfl (lv_at hl 2 rfl) ?_
        refine lv_iload_n hx hb dL_build_85 rfl (lv_at hl 0 rfl) ?_
        obtain ⟨q10, hq10, hF⟩ := q_bdi hF
        refine cl_i (Lc := []) (Lc' := []) (L' := [w_VB1 E b902 0 (i8)]) (rv := q10) (va_runS (As := [.ref (E.2 18), .int i7]) (rest := []) ⟨hx, hb, hml, hown, ha⟩ (k_L_at l E i7 q10 hq10 H.size hlt) (cwS 2 ha (gi_S (fun _ h => h) mw1086 mw1087 mw25 mw1088) rfl rfl rfl hv_L_at ⟨(Nat.le_of_ble_eq_true rfl), (Nat.le_of_ble_eq_true rfl)⟩) ⟨pre_blind, pre_at hP hD hS hz hzs hst [] (by decide) rfl rfl⟩ rfl rfl hl.1 rfl (lv_room (Nat.le_of_ble_eq_true rfl)) dL_build_86 ⟨by show cv + 0 ≤ 379; omega, by show sv + 0 ≤ 2693; omega⟩) hP hD hS hA [] (by decide) rfl rfl rfl rfl (fun H locs hP hD hS => ?_)
        refine lv_istore (lv' := [(4, .int q10), (3, .int i7), (1, .ref (b902 0)), (0, .ref (E.2 18))]) hx hb dL_build_89 hl (by decide) rfl (fun ls hl => ?_)
        refine lv_iconst (v := 1) hx hb dL_build_91 (by decide) ?_
        refine lv_aload_n hx hb dL_build_92 rfl (lv_at hl 2 rfl) ?_
        obtain ⟨q11, hq11, hF⟩ := q_bdi hF
        refine cl_i (Lc := [w_VB1 E b902 0 (i8)]) (Lc' := [w_VB1 E b902 0 (i8)]) (L' := [w_VB1 E b902 0 (i8)]) (rv := q11) (va_runV (As := []) (rest := [.int 1]) ⟨hx, hb, hml, hown, ha⟩ (kg_X10_bellCount l E b902 0 (i8) q11 hq11 H.size) (cwV 0 ha (gi_V (fun _ h => h) mw1143 mw1144 mw1145 mw26 mw1146) rfl rfl rfl hv_X10_bellCount ⟨(Nat.le_of_ble_eq_true rfl), (Nat.le_of_ble_eq_true rfl)⟩) ⟨pre_blind, va_recv hst.k (fr_P hP [0] rfl) (ci := 11) (q0 := 0) rfl rfl, pre_at hP hD hS hz hzs hst [0] (by decide) rfl rfl⟩ rfl rfl hl.1 rfl (lv_room (Nat.le_of_ble_eq_true rfl)) dL_build_93 ⟨by show cv + 0 ≤ 379; omega, by show sv + 0 ≤ 2693; omega⟩) hP hD hS hA [0] (by decide) rfl rfl rfl rfl (fun H locs hP hD hS => ?_)
        refine va_mmax hx hb (hml.trans hl.1.symm) hown (ha _ mw1147) (ha _ mw483) (ha _ mw48) (ha _ mw484) (Nat.le_of_ble_eq_true rfl) (Nat.le_of_ble_eq_true rfl) (by show cv ≤ 379; omega) (by show sv ≤ 2693; omega) dL_build_96 ?_
        refine lv_topi (fun v12 ev12 => ?_)
        have hF := q_lti ev12 hF
        refine lv_istore (lv' := [(5, .int v12), (4, .int q10), (3, .int i7), (1, .ref (b902 0)), (0, .ref (E.2 18))]) hx hb dL_build_99 hl (by decide) rfl (fun ls hl => ?_)
        refine lv_iload hx hb dL_build_101 (lv_at hl 1 rfl) ?_
        refine lv_bipush (v := 15) hx hb dL_build_103 (by decide) ?_
        refine lv_iand hx hb dL_build_105 ?_
        refine lv_iload hx hb dL_build_106 (lv_at hl 0 rfl) ?_
        obtain ⟨g13, hF⟩ := q_gdi hF
        refine lv_irem hx hb dL_build_108 g13 ?_
        refine lv_topi (fun v14 ev14 => ?_)
        have hF := q_lti ev14 hF
        refine lv_istore (lv' := [(6, .int v14), (5, .int v12), (4, .int q10), (3, .int i7), (1, .ref (b902 0)), (0, .ref (E.2 18))]) hx hb dL_build_109 hl (by decide) rfl (fun ls hl => ?_)
        refine lv_aload_n hx hb dL_build_111 rfl (lv_at hl 4 rfl) ?_
        refine lv_bipush (v := 6) hx hb dL_build_112 (by decide) ?_
        refine lv_iload hx hb dL_build_114 (lv_at hl 2 rfl) ?_
        refine lv_iconst (v := 4) hx hb dL_build_116 (by decide) ?_
        refine lv_ishr hx hb dL_build_117 ?_
        refine lv_iconst (v := 3) hx hb dL_build_118 (by decide) ?_
        refine lv_iand hx hb dL_build_119 ?_
        refine lv_iload hx hb dL_build_120 (lv_at hl 0 rfl) ?_
        obtain ⟨q15, hq15, hF⟩ := q_bdi hF
        refine cl_i (Lc := [w_VB1 E b902 0 (i8)]) (Lc' := [w_VB1 E b902 0 (q15.2)]) (L' := [w_VB1 E b902 0 (q15.2)]) (rv := q15.1) (vx_runSW (As := [.ref (b902 0), .int 6, .int ((q10 >>> ((4 : Int32) &&& 31)) &&& 3), .int v14]) (rest := []) ⟨hx, hb, hml, hown, ha⟩ (k_L_act l E b902 0 (i8) 6 ((q10 >>> ((4 : Int32) &&& 31)) &&& 3) v14 q15 hq15 H.size hlt) (vx_cwSW 4 ha (gi_TH (fun _ h => h) mw1111 mw1112 mw25 mw1113) rfl rfl rfl hv_L_act.2 ⟨(Nat.le_of_ble_eq_true rfl), (Nat.le_of_ble_eq_true rfl)⟩) ⟨pre_blind, pre_at hP hD hS hz hzs hst [0] (by decide) rfl rfl⟩ rfl rfl hl.1 rfl (lv_room (Nat.le_of_ble_eq_true rfl)) dL_build_122 ⟨by show cv + 1 ≤ 379; omega, by show sv + 6 ≤ 2693; omega⟩) hP hD hS hA [0] (by decide) rfl rfl rfl rfl (fun H locs hP hD hS => ?_)
        refine lv_pop hx hb dL_build_125 rfl ?_
        refine lv_aload_n hx hb dL_build_126 rfl (lv_at hl 4 rfl) ?_
        refine lv_bipush (v := 6) hx hb dL_build_127 (by decide) ?_
        refine lv_iload hx hb dL_build_129 (lv_at hl 2 rfl) ?_
        refine lv_bipush (v := 6) hx hb dL_build_131 (by decide) ?_
        refine lv_ishr hx hb dL_build_133 ?_
        refine lv_iconst (v := 1) hx hb dL_build_134 (by decide) ?_
        refine lv_iand hx hb dL_build_135 ?_
        refine lv_iload hx hb dL_build_136 (lv_at hl 2 rfl) ?_
        refine lv_bipush (v := 7) hx hb dL_build_138 (by decide) ?_
        refine lv_ishr hx hb dL_build_140 ?_
        refine lv_bipush (v := 15) hx hb dL_build_141 (by decide) ?_
        refine lv_iand hx hb dL_build_143 ?_
        refine lv_iload hx hb dL_build_144 (lv_at hl 1 rfl) ?_
        obtain ⟨g16, hF⟩ := q_gdi hF
        refine lv_irem hx hb dL_build_146 g16 ?_
        obtain ⟨q17, hq17, hF⟩ := q_bdi hF
        refine cl_i (Lc := [w_VB1 E b902 0 (q15.2)]) (Lc' := [w_VB1 E b902 0 (q17.2)]) (L' := [w_VB1 E b902 0 (q17.2)]) (rv := q17.1) (vx_runSW (As := [.ref (b902 0), .int 6, .int ((q10 >>> ((6 : Int32) &&& 31)) &&& 1), .int (((q10 >>> ((7 : Int32) &&& 31)) &&& 15) - ((q10 >>> ((7 : Int32) &&& 31)) &&& 15) / v12 * v12)]) (rest := []) ⟨hx, hb, hml, hown, ha⟩ (k_L_act l E b902 0 (q15.2) 6 ((q10 >>> ((6 : Int32) &&& 31)) &&& 1) (((q10 >>> ((7 : Int32) &&& 31)) &&& 15) - ((q10 >>> ((7 : Int32) &&& 31)) &&& 15) / v12 * v12) q17 hq17 H.size hlt) (vx_cwSW 4 ha (gi_TH (fun _ h => h) mw1111 mw1112 mw25 mw1113) rfl rfl rfl hv_L_act.2 ⟨(Nat.le_of_ble_eq_true rfl), (Nat.le_of_ble_eq_true rfl)⟩) ⟨pre_blind, pre_at hP hD hS hz hzs hst [0] (by decide) rfl rfl⟩ rfl rfl hl.1 rfl (lv_room (Nat.le_of_ble_eq_true rfl)) dL_build_147 ⟨by show cv + 1 + 1 ≤ 379; omega, by show sv + 6 + 6 ≤ 2693; omega⟩) hP hD hS hA [0] (by decide) rfl rfl rfl rfl (fun H locs hP hD hS => ?_)
        refine lv_pop hx hb dL_build_150 rfl ?_
        refine lv_iload hx hb dL_build_151 (lv_at hl 2 rfl) ?_
        refine lv_bipush (v := 11) hx hb dL_build_153 (by decide) ?_
        refine lv_ishr hx hb dL_build_155 ?_
        refine lv_iconst (v := 3) hx hb dL_build_156 (by decide) ?_
        refine lv_iand hx hb dL_build_157 ?_
        obtain ⟨J192, hJ192, hF⟩ := q_jn hF
        have jJ192 : ∀ (j18 : VB_t), ∀ (H : Heap) (locs : List Loc) (ls : Array Slot), J192 j18 = some res → va_P E.1 vwCl (List.flatten [w_VB1 E b902 0 (j18)]) H → va_D A (List.flatten [w_VB1 E b902 0 (j18)]) → va_S A s.heap H locs → lv_has ls 7 [(5, .int v12), (4, .int q10), (3, .int i7), (1, .ref (b902 0)), (0, .ref (E.2 18))] → W p l e rm_L_build s m args below meth c H locs (cv + 3) (sv + 18) Q (F0 m 192 ls []) := by
          intro j18 H locs ls hF hP hD hS hl
          rw [hJ192] at hF
          refine lv_iload hx hb dL_build_192 (lv_at hl 1 rfl) ?_
          refine lv_bipush (v := 11) hx hb dL_build_194 (by decide) ?_
          refine lv_ishr hx hb dL_build_196 ?_
          refine lv_bipush (v := 7) hx hb dL_build_197 (by decide) ?_
          refine lv_iand hx hb dL_build_199 ?_
          refine lv_iconst (v := 1) hx hb dL_build_200 (by decide) ?_
          obtain ⟨J228, hJ228, hF⟩ := q_jn hF
          have jJ228 : ∀ (j19 : VB_t), ∀ (H : Heap) (locs : List Loc) (ls : Array Slot), J228 j19 = some res → va_P E.1 vwCl (List.flatten [w_VB1 E b902 0 (j19)]) H → va_D A (List.flatten [w_VB1 E b902 0 (j19)]) → va_S A s.heap H locs → lv_has ls 7 [(5, .int v12), (4, .int q10), (3, .int i7), (1, .ref (b902 0)), (0, .ref (E.2 18))] → W p l e rm_L_build s m args below meth c H locs (cv + 4) (sv + 24) Q (F0 m 228 ls []) := by
            intro j19 H locs ls hF hP hD hS hl
            rw [hJ228] at hF
            refine lv_iload hx hb dL_build_228 (lv_at hl 1 rfl) ?_
            refine lv_bipush (v := 11) hx hb dL_build_230 (by decide) ?_
            refine lv_ishr hx hb dL_build_232 ?_
            refine lv_bipush (v := 7) hx hb dL_build_233 (by decide) ?_
            refine lv_iand hx hb dL_build_235 ?_
            refine lv_iconst (v := 2) hx hb dL_build_236 (by decide) ?_
            obtain ⟨J262, hJ262, hF⟩ := q_jn hF
            have jJ262 : ∀ (j20 : VB_t), ∀ (H : Heap) (locs : List Loc) (ls : Array Slot), J262 j20 = some res → va_P E.1 vwCl (List.flatten [w_VB1 E b902 0 (j20)]) H → va_D A (List.flatten [w_VB1 E b902 0 (j20)]) → va_S A s.heap H locs → lv_has ls 7 [(5, .int v12), (4, .int q10), (3, .int i7), (1, .ref (b902 0)), (0, .ref (E.2 18))] → W p l e rm_L_build s m args below meth c H locs (cv + 5) (sv + 30) Q (F0 m 262 ls []) := by
              intro j20 H locs ls hF hP hD hS hl
              rw [hJ262] at hF
              refine lv_iload hx hb dL_build_262 (lv_at hl 1 rfl) ?_
              refine lv_bipush (v := 11) hx hb dL_build_264 (by decide) ?_
              refine lv_ishr hx hb dL_build_266 ?_
              refine lv_bipush (v := 7) hx hb dL_build_267 (by decide) ?_
              refine lv_iand hx hb dL_build_269 ?_
              refine lv_iconst (v := 3) hx hb dL_build_270 (by decide) ?_
              obtain ⟨J302, hJ302, hF⟩ := q_jn hF
              have jJ302 : ∀ (j21 : VB_t), ∀ (H : Heap) (locs : List Loc) (ls : Array Slot), J302 j21 = some res → va_P E.1 vwCl (List.flatten [w_VB1 E b902 0 (j21)]) H → va_D A (List.flatten [w_VB1 E b902 0 (j21)]) → va_S A s.heap H locs → lv_has ls 7 [(5, .int v12), (4, .int q10), (3, .int i7), (1, .ref (b902 0)), (0, .ref (E.2 18))] → W p l e rm_L_build s m args below meth c H locs (cv + 6) (sv + 36) Q (F0 m 302 ls []) := by
                intro j21 H locs ls hF hP hD hS hl
                rw [hJ302] at hF
                refine lv_iload hx hb dL_build_302 (lv_at hl 1 rfl) ?_
                refine lv_bipush (v := 11) hx hb dL_build_304 (by decide) ?_
                refine lv_ishr hx hb dL_build_306 ?_
                refine lv_bipush (v := 7) hx hb dL_build_307 (by decide) ?_
                refine lv_iand hx hb dL_build_309 ?_
                refine lv_iconst (v := 5) hx hb dL_build_310 (by decide) ?_
                obtain ⟨J332, hJ332, hF⟩ := q_jn hF
                have jJ332 : ∀ (j22 : VB_t), ∀ (H : Heap) (locs : List Loc) (ls : Array Slot), J332 j22 = some res → va_P E.1 vwCl (List.flatten [w_VB1 E b902 0 (j22)]) H → va_D A (List.flatten [w_VB1 E b902 0 (j22)]) → va_S A s.heap H locs → lv_has ls 7 [(5, .int v12), (4, .int q10), (3, .int i7), (1, .ref (b902 0)), (0, .ref (E.2 18))] → W p l e rm_L_build s m args below meth c H locs (cv + 7) (sv + 42) Q (F0 m 332 ls []) := by
                  intro j22 H locs ls hF hP hD hS hl
                  rw [hJ332] at hF
                  refine lv_iload hx hb dL_build_332 (lv_at hl 1 rfl) ?_
                  refine lv_bipush (v := 11) hx hb dL_build_334 (by decide) ?_
                  refine lv_ishr hx hb dL_build_336 ?_
                  refine lv_bipush (v := 7) hx hb dL_build_337 (by decide) ?_
                  refine lv_iand hx hb dL_build_339 ?_
                  refine lv_bipush (v := 6) hx hb dL_build_340 (by decide) ?_
                  obtain ⟨J369, hJ369, hF⟩ := q_jn hF
                  have jJ369 : ∀ (j23 : VB_t), ∀ (H : Heap) (locs : List Loc) (ls : Array Slot), J369 j23 = some res → va_P E.1 vwCl (List.flatten [w_VB1 E b902 0 (j23)]) H → va_D A (List.flatten [w_VB1 E b902 0 (j23)]) → va_S A s.heap H locs → lv_has ls 7 [(5, .int v12), (4, .int q10), (3, .int i7), (1, .ref (b902 0)), (0, .ref (E.2 18))] → W p l e rm_L_build s m args below meth c H locs (cv + 8) (sv + 48) Q (F0 m 369 ls []) := by
                    intro j23 H locs ls hF hP hD hS hl
                    rw [hJ369] at hF
                    refine lv_iload hx hb dL_build_369 (lv_at hl 1 rfl) ?_
                    refine lv_bipush (v := 11) hx hb dL_build_371 (by decide) ?_
                    refine lv_ishr hx hb dL_build_373 ?_
                    refine lv_bipush (v := 15) hx hb dL_build_374 (by decide) ?_
                    refine lv_iand hx hb dL_build_376 ?_
                    refine lv_bipush (v := 7) hx hb dL_build_377 (by decide) ?_
                    obtain ⟨J406, hJ406, hF⟩ := q_jn hF
                    have jJ406 : ∀ (j24 : VB_t), ∀ (H : Heap) (locs : List Loc) (ls : Array Slot), J406 j24 = some res → va_P E.1 vwCl (List.flatten [w_VB1 E b902 0 (j24)]) H → va_D A (List.flatten [w_VB1 E b902 0 (j24)]) → va_S A s.heap H locs → lv_has ls 7 [(5, .int v12), (4, .int q10), (3, .int i7), (1, .ref (b902 0)), (0, .ref (E.2 18))] → W p l e rm_L_build s m args below meth c H locs (cv + 9) (sv + 54) Q (F0 m 406 ls []) := by
                      intro j24 H locs ls hF hP hD hS hl
                      rw [hJ406] at hF
                      refine lv_iload hx hb dL_build_406 (lv_at hl 1 rfl) ?_
                      refine lv_bipush (v := 11) hx hb dL_build_408 (by decide) ?_
                      refine lv_ishr hx hb dL_build_410 ?_
                      refine lv_bipush (v := 31) hx hb dL_build_411 (by decide) ?_
                      refine lv_iand hx hb dL_build_413 ?_
                      refine lv_bipush (v := 15) hx hb dL_build_414 (by decide) ?_
                      obtain ⟨J437, hJ437, hF⟩ := q_jn hF
                      have jJ437 : ∀ (j25 : VB_t), ∀ (H : Heap) (locs : List Loc) (ls : Array Slot), J437 j25 = some res → va_P E.1 vwCl (List.flatten [w_VB1 E b902 0 (j25)]) H → va_D A (List.flatten [w_VB1 E b902 0 (j25)]) → va_S A s.heap H locs → lv_has ls 7 [(4, .int q10), (3, .int i7), (1, .ref (b902 0)), (0, .ref (E.2 18))] → W p l e rm_L_build s m args below meth c H locs (cv + 10) (sv + 60) Q (F0 m 437 ls []) := by
                        intro j25 H locs ls hF hP hD hS hl
                        rw [hJ437] at hF
                        refine lv_iload hx hb dL_build_437 (lv_at hl 0 rfl) ?_
                        refine lv_bipush (v := 11) hx hb dL_build_439 (by decide) ?_
                        refine lv_ishr hx hb dL_build_441 ?_
                        refine lv_bipush (v := 31) hx hb dL_build_442 (by decide) ?_
                        refine lv_iand hx hb dL_build_444 ?_
                        refine lv_bipush (v := 31) hx hb dL_build_445 (by decide) ?_
                        obtain ⟨J465, hJ465, hF⟩ := q_jn hF
                        have jJ465 : ∀ (j26 : VB_t), ∀ (H : Heap) (locs : List Loc) (ls : Array Slot), J465 j26 = some res → va_P E.1 vwCl (List.flatten [w_VB1 E b902 0 (j26)]) H → va_D A (List.flatten [w_VB1 E b902 0 (j26)]) → va_S A s.heap H locs → lv_has ls 7 [(4, .int q10), (3, .int i7), (1, .ref (b902 0)), (0, .ref (E.2 18))] → W p l e rm_L_build s m args below meth c H locs (cv + 11) (sv + 66) Q (F0 m 465 ls []) := by
                          intro j26 H locs ls hF hP hD hS hl
                          rw [hJ465] at hF
                          refine lv_iload hx hb dL_build_465 (lv_at hl 0 rfl) ?_
                          refine lv_bipush (v := 21) hx hb dL_build_467 (by decide) ?_
                          refine lv_ishr hx hb dL_build_469 ?_
                          refine lv_bipush (v := 7) hx hb dL_build_470 (by decide) ?_
                          refine lv_iand hx hb dL_build_472 ?_
                          obtain ⟨J503, hJ503, hF⟩ := q_jn hF
                          have jJ503 : ∀ (j27 : VB_t), ∀ (H : Heap) (locs : List Loc) (ls : Array Slot), J503 j27 = some res → va_P E.1 vwCl (List.flatten [w_VB1 E b902 0 (j27)]) H → va_D A (List.flatten [w_VB1 E b902 0 (j27)]) → va_S A s.heap H locs → lv_has ls 7 [(4, .int q10), (3, .int i7), (1, .ref (b902 0)), (0, .ref (E.2 18))] → W p l e rm_L_build s m args below meth c H locs (cv + 12) (sv + 72) Q (F0 m 503 ls []) := by
                            intro j27 H locs ls hF hP hD hS hl
                            rw [hJ503] at hF
                            refine lv_iload hx hb dL_build_503 (lv_at hl 0 rfl) ?_
                            refine lv_bipush (v := 21) hx hb dL_build_505 (by decide) ?_
                            refine lv_ishr hx hb dL_build_507 ?_
                            refine lv_bipush (v := 15) hx hb dL_build_508 (by decide) ?_
                            refine lv_iand hx hb dL_build_510 ?_
                            refine lv_iconst (v := 1) hx hb dL_build_511 (by decide) ?_
                            obtain ⟨J539, hJ539, hF⟩ := q_jn hF
                            have jJ539 : ∀ (j28 : VB_t), ∀ (H : Heap) (locs : List Loc) (ls : Array Slot), J539 j28 = some res → va_P E.1 vwCl (List.flatten [w_VB1 E b902 0 (j28)]) H → va_D A (List.flatten [w_VB1 E b902 0 (j28)]) → va_S A s.heap H locs → lv_has ls 7 [(3, .int i7), (1, .ref (b902 0)), (0, .ref (E.2 18))] → W p l e rm_L_build s m args below meth c H locs (cv + 13) (sv + 78) Q (F0 m 539 ls []) := by
                              intro j28 H locs ls hF hP hD hS hl
                              rw [hJ539] at hF
                              obtain ⟨v29, ev29⟩ : ∃ y : Int32, y = i7 + 1 := ⟨_, rfl⟩
                              have hF := q_lti ev29 hF
                              refine lv_iinc (v := v29) (lv' := [(3, .int v29), (1, .ref (b902 0)), (0, .ref (E.2 18))]) hx hb dL_build_539 hl (k := 0) rfl (by rw [ev29]; rfl) (by decide) rfl (fun ls hl => ?_)
                              refine lv_goto (tgt := 78) hx hb dL_build_542 (by decide) ?_
                              exact ih78 v29 j28 (cv + 13) (sv + 78) H locs ls (by omega) (by omega) hF hP hD hS (lv_sub hl [0, 1, 2] rfl)
                            refine lv_icmp_ne (tgt := 539) hx hb dL_build_512 (by decide) (fun c512 => ?_) (fun c512 => ?_)
                            · have hF := q_brn c512 hF
                              refine W.widen (k := cv + 13) (n := sv + 78) (by omega) (by omega) ?_
                              exact jJ539 j27 H locs ls hF hP hD hS (lv_sub hl [1, 2, 3] rfl)
                            · have hF := q_brp c512 hF
                              refine lv_aload_n hx hb dL_build_515 rfl (lv_at hl 2 rfl) ?_
                              refine lv_bipush (v := 10) hx hb dL_build_516 (by decide) ?_
                              refine lv_iload hx hb dL_build_518 (lv_at hl 0 rfl) ?_
                              refine lv_bipush (v := 25) hx hb dL_build_520 (by decide) ?_
                              refine lv_ishr hx hb dL_build_522 ?_
                              refine lv_iconst (v := 3) hx hb dL_build_523 (by decide) ?_
                              refine lv_iand hx hb dL_build_524 ?_
                              refine lv_iconst (v := 1) hx hb dL_build_525 (by decide) ?_
                              refine lv_aload_n hx hb dL_build_526 rfl (lv_at hl 2 rfl) ?_
                              obtain ⟨q30, hq30, hF⟩ := q_bdi hF
                              refine cl_i (Lc := [w_VB1 E b902 0 (j27)]) (Lc' := [w_VB1 E b902 0 (j27)]) (L' := [w_VB1 E b902 0 (j27)]) (rv := q30) (va_runV (As := []) (rest := [.int 1, .int ((q10 >>> ((25 : Int32) &&& 31)) &&& 3), .int 10, .ref (b902 0)]) ⟨hx, hb, hml, hown, ha⟩ (kg_X10_cliffCount l E b902 0 (j27) q30 hq30 H.size) (cwV 0 ha (gi_V (fun _ h => h) mw1148 mw1149 mw1150 mw26 mw1151) rfl rfl rfl hv_X10_cliffCount ⟨(Nat.le_of_ble_eq_true rfl), (Nat.le_of_ble_eq_true rfl)⟩) ⟨pre_blind, va_recv hst.k (fr_P hP [0] rfl) (ci := 11) (q0 := 0) rfl rfl, pre_at hP hD hS hz hzs hst [0] (by decide) rfl rfl⟩ rfl rfl hl.1 rfl (lv_room (Nat.le_of_ble_eq_true rfl)) dL_build_527 ⟨by show cv + 12 + 0 ≤ 379; omega, by show sv + 72 + 0 ≤ 2693; omega⟩) hP hD hS hA [0] (by decide) rfl rfl rfl rfl (fun H locs hP hD hS => ?_)
                              refine va_mmax hx hb (hml.trans hl.1.symm) hown (ha _ mw1147) (ha _ mw483) (ha _ mw48) (ha _ mw484) (Nat.le_of_ble_eq_true rfl) (Nat.le_of_ble_eq_true rfl) (by show cv + 12 ≤ 379; omega) (by show sv + 72 ≤ 2693; omega) dL_build_530 ?_
                              obtain ⟨g31, hF⟩ := q_gdi hF
                              refine lv_irem hx hb dL_build_533 g31 ?_
                              refine lv_iconst (v := 0) hx hb dL_build_534 (by decide) ?_
                              obtain ⟨q32, hq32, hF⟩ := q_bdi hF
                              refine cl_i (Lc := [w_VB1 E b902 0 (j27)]) (Lc' := [w_VB1 E b902 0 (q32.2)]) (L' := [w_VB1 E b902 0 (q32.2)]) (rv := q32.1) (vx_runSW (As := [.ref (b902 0), .int 10, .int (((q10 >>> ((25 : Int32) &&& 31)) &&& 3) - ((q10 >>> ((25 : Int32) &&& 31)) &&& 3) / (if 1 < q30 then q30 else 1) * (if 1 < q30 then q30 else 1)), .int 0]) (rest := []) ⟨hx, hb, hml, hown, ha⟩ (k_L_act l E b902 0 (j27) 10 (((q10 >>> ((25 : Int32) &&& 31)) &&& 3) - ((q10 >>> ((25 : Int32) &&& 31)) &&& 3) / (if 1 < q30 then q30 else 1) * (if 1 < q30 then q30 else 1)) 0 q32 hq32 H.size hlt) (vx_cwSW 4 ha (gi_TH (fun _ h => h) mw1111 mw1112 mw25 mw1113) rfl rfl rfl hv_L_act.2 ⟨(Nat.le_of_ble_eq_true rfl), (Nat.le_of_ble_eq_true rfl)⟩) ⟨pre_blind, pre_at hP hD hS hz hzs hst [0] (by decide) rfl rfl⟩ rfl rfl hl.1 rfl (lv_room (Nat.le_of_ble_eq_true rfl)) dL_build_535 ⟨by show cv + 12 + 1 ≤ 379; omega, by show sv + 72 + 6 ≤ 2693; omega⟩) hP hD hS hA [0] (by decide) rfl rfl rfl rfl (fun H locs hP hD hS => ?_)
                              refine lv_pop hx hb dL_build_538 rfl ?_
                              exact jJ539 q32.2 H locs ls hF hP hD hS (lv_sub hl [1, 2, 3] rfl)
                          refine lv_if_ne (tgt := 503) hx hb dL_build_473 (by decide) (fun c473 => ?_) (fun c473 => ?_)
                          · have hF := q_brn c473 hF
                            refine W.widen (k := cv + 12) (n := sv + 72) (by omega) (by omega) ?_
                            exact jJ503 j26 H locs ls hF hP hD hS (lv_sub hl [0, 1, 2, 3] rfl)
                          · have hF := q_brp c473 hF
                            refine lv_aload_n hx hb dL_build_476 rfl (lv_at hl 2 rfl) ?_
                            refine lv_iconst (v := 0) hx hb dL_build_477 (by decide) ?_
                            refine lv_iload hx hb dL_build_478 (lv_at hl 0 rfl) ?_
                            refine lv_bipush (v := 24) hx hb dL_build_480 (by decide) ?_
                            refine lv_ishr hx hb dL_build_482 ?_
                            refine lv_iconst (v := 3) hx hb dL_build_483 (by decide) ?_
                            refine lv_iand hx hb dL_build_484 ?_
                            refine lv_sipush (v := 3600) hx hb dL_build_485 (by decide) ?_
                            refine lv_bipush (v := 50) hx hb dL_build_488 (by decide) ?_
                            refine lv_iload hx hb dL_build_490 (lv_at hl 0 rfl) ?_
                            refine lv_iconst (v := 5) hx hb dL_build_492 (by decide) ?_
                            refine lv_ishr hx hb dL_build_493 ?_
                            refine lv_bipush (v := 63) hx hb dL_build_494 (by decide) ?_
                            refine lv_iand hx hb dL_build_496 ?_
                            refine lv_imul hx hb dL_build_497 ?_
                            refine lv_iadd hx hb dL_build_498 ?_
                            obtain ⟨q33, hq33, hF⟩ := q_bdi hF
                            refine cl_i (Lc := [w_VB1 E b902 0 (j26)]) (Lc' := [w_VB1 E b902 0 (q33.2)]) (L' := [w_VB1 E b902 0 (q33.2)]) (rv := q33.1) (vx_runSW (As := [.ref (b902 0), .int 0, .int ((q10 >>> ((24 : Int32) &&& 31)) &&& 3), .int (3600 + (50 * ((q10 >>> ((5 : Int32) &&& 31)) &&& 63)))]) (rest := []) ⟨hx, hb, hml, hown, ha⟩ (k_L_act l E b902 0 (j26) 0 ((q10 >>> ((24 : Int32) &&& 31)) &&& 3) (3600 + (50 * ((q10 >>> ((5 : Int32) &&& 31)) &&& 63))) q33 hq33 H.size hlt) (vx_cwSW 4 ha (gi_TH (fun _ h => h) mw1111 mw1112 mw25 mw1113) rfl rfl rfl hv_L_act.2 ⟨(Nat.le_of_ble_eq_true rfl), (Nat.le_of_ble_eq_true rfl)⟩) ⟨pre_blind, pre_at hP hD hS hz hzs hst [0] (by decide) rfl rfl⟩ rfl rfl hl.1 rfl (lv_room (Nat.le_of_ble_eq_true rfl)) dL_build_499 ⟨by show cv + 11 + 1 ≤ 379; omega, by show sv + 66 + 6 ≤ 2693; omega⟩) hP hD hS hA [0] (by decide) rfl rfl rfl rfl (fun H locs hP hD hS => ?_)
                            refine lv_pop hx hb dL_build_502 rfl ?_
                            exact jJ503 q33.2 H locs ls hF hP hD hS (lv_sub hl [0, 1, 2, 3] rfl)
                        refine lv_icmp_ne (tgt := 465) hx hb dL_build_447 (by decide) (fun c447 => ?_) (fun c447 => ?_)
                        · have hF := q_brn c447 hF
                          refine W.widen (k := cv + 11) (n := sv + 66) (by omega) (by omega) ?_
                          exact jJ465 j25 H locs ls hF hP hD hS (lv_sub hl [0, 1, 2, 3] rfl)
                        · have hF := q_brp c447 hF
                          refine lv_aload_n hx hb dL_build_450 rfl (lv_at hl 2 rfl) ?_
                          refine lv_bipush (v := 7) hx hb dL_build_451 (by decide) ?_
                          refine lv_iload hx hb dL_build_453 (lv_at hl 0 rfl) ?_
                          refine lv_bipush (v := 16) hx hb dL_build_455 (by decide) ?_
                          refine lv_ishr hx hb dL_build_457 ?_
                          refine lv_iconst (v := 3) hx hb dL_build_458 (by decide) ?_
                          refine lv_iand hx hb dL_build_459 ?_
                          refine lv_iconst (v := 0) hx hb dL_build_460 (by decide) ?_
                          obtain ⟨q34, hq34, hF⟩ := q_bdi hF
                          refine cl_i (Lc := [w_VB1 E b902 0 (j25)]) (Lc' := [w_VB1 E b902 0 (q34.2)]) (L' := [w_VB1 E b902 0 (q34.2)]) (rv := q34.1) (vx_runSW (As := [.ref (b902 0), .int 7, .int ((q10 >>> ((16 : Int32) &&& 31)) &&& 3), .int 0]) (rest := []) ⟨hx, hb, hml, hown, ha⟩ (k_L_act l E b902 0 (j25) 7 ((q10 >>> ((16 : Int32) &&& 31)) &&& 3) 0 q34 hq34 H.size hlt) (vx_cwSW 4 ha (gi_TH (fun _ h => h) mw1111 mw1112 mw25 mw1113) rfl rfl rfl hv_L_act.2 ⟨(Nat.le_of_ble_eq_true rfl), (Nat.le_of_ble_eq_true rfl)⟩) ⟨pre_blind, pre_at hP hD hS hz hzs hst [0] (by decide) rfl rfl⟩ rfl rfl hl.1 rfl (lv_room (Nat.le_of_ble_eq_true rfl)) dL_build_461 ⟨by show cv + 10 + 1 ≤ 379; omega, by show sv + 60 + 6 ≤ 2693; omega⟩) hP hD hS hA [0] (by decide) rfl rfl rfl rfl (fun H locs hP hD hS => ?_)
                          refine lv_pop hx hb dL_build_464 rfl ?_
                          exact jJ465 q34.2 H locs ls hF hP hD hS (lv_sub hl [0, 1, 2, 3] rfl)
                      refine lv_icmp_ne (tgt := 437) hx hb dL_build_416 (by decide) (fun c416 => ?_) (fun c416 => ?_)
                      · have hF := q_brn c416 hF
                        refine W.widen (k := cv + 10) (n := sv + 60) (by omega) (by omega) ?_
                        exact jJ437 j24 H locs ls hF hP hD hS (lv_sub hl [1, 2, 3, 4] rfl)
                      · have hF := q_brp c416 hF
                        refine lv_aload_n hx hb dL_build_419 rfl (lv_at hl 3 rfl) ?_
                        refine lv_iconst (v := 1) hx hb dL_build_420 (by decide) ?_
                        refine lv_iload hx hb dL_build_421 (lv_at hl 1 rfl) ?_
                        refine lv_bipush (v := 16) hx hb dL_build_423 (by decide) ?_
                        refine lv_ishr hx hb dL_build_425 ?_
                        refine lv_bipush (v := 15) hx hb dL_build_426 (by decide) ?_
                        refine lv_iand hx hb dL_build_428 ?_
                        refine lv_iload hx hb dL_build_429 (lv_at hl 0 rfl) ?_
                        obtain ⟨g35, hF⟩ := q_gdi hF
                        refine lv_irem hx hb dL_build_431 g35 ?_
                        refine lv_iconst (v := 0) hx hb dL_build_432 (by decide) ?_
                        obtain ⟨q36, hq36, hF⟩ := q_bdi hF
                        refine cl_i (Lc := [w_VB1 E b902 0 (j24)]) (Lc' := [w_VB1 E b902 0 (q36.2)]) (L' := [w_VB1 E b902 0 (q36.2)]) (rv := q36.1) (vx_runSW (As := [.ref (b902 0), .int 1, .int (((q10 >>> ((16 : Int32) &&& 31)) &&& 15) - ((q10 >>> ((16 : Int32) &&& 31)) &&& 15) / v12 * v12), .int 0]) (rest := []) ⟨hx, hb, hml, hown, ha⟩ (k_L_act l E b902 0 (j24) 1 (((q10 >>> ((16 : Int32) &&& 31)) &&& 15) - ((q10 >>> ((16 : Int32) &&& 31)) &&& 15) / v12 * v12) 0 q36 hq36 H.size hlt) (vx_cwSW 4 ha (gi_TH (fun _ h => h) mw1111 mw1112 mw25 mw1113) rfl rfl rfl hv_L_act.2 ⟨(Nat.le_of_ble_eq_true rfl), (Nat.le_of_ble_eq_true rfl)⟩) ⟨pre_blind, pre_at hP hD hS hz hzs hst [0] (by decide) rfl rfl⟩ rfl rfl hl.1 rfl (lv_room (Nat.le_of_ble_eq_true rfl)) dL_build_433 ⟨by show cv + 9 + 1 ≤ 379; omega, by show sv + 54 + 6 ≤ 2693; omega⟩) hP hD hS hA [0] (by decide) rfl rfl rfl rfl (fun H locs hP hD hS => ?_)
                        refine lv_pop hx hb dL_build_436 rfl ?_
                        exact jJ437 q36.2 H locs ls hF hP hD hS (lv_sub hl [1, 2, 3, 4] rfl)
                    refine lv_icmp_ne (tgt := 406) hx hb dL_build_379 (by decide) (fun c379 => ?_) (fun c379 => ?_)
                    · have hF := q_brn c379 hF
                      refine W.widen (k := cv + 9) (n := sv + 54) (by omega) (by omega) ?_
                      exact jJ406 j23 H locs ls hF hP hD hS (lv_sub hl [0, 1, 2, 3, 4] rfl)
                    · have hF := q_brp c379 hF
                      refine lv_aload_n hx hb dL_build_382 rfl (lv_at hl 3 rfl) ?_
                      refine lv_bipush (v := 11) hx hb dL_build_383 (by decide) ?_
                      refine lv_iload hx hb dL_build_385 (lv_at hl 1 rfl) ?_
                      refine lv_bipush (v := 15) hx hb dL_build_387 (by decide) ?_
                      refine lv_ishr hx hb dL_build_389 ?_
                      refine lv_iconst (v := 3) hx hb dL_build_390 (by decide) ?_
                      refine lv_iand hx hb dL_build_391 ?_
                      refine lv_iconst (v := 1) hx hb dL_build_392 (by decide) ?_
                      refine lv_iload hx hb dL_build_393 (lv_at hl 1 rfl) ?_
                      refine lv_bipush (v := 17) hx hb dL_build_395 (by decide) ?_
                      refine lv_ishr hx hb dL_build_397 ?_
                      refine lv_bipush (v := 31) hx hb dL_build_398 (by decide) ?_
                      refine lv_iand hx hb dL_build_400 ?_
                      refine lv_iadd hx hb dL_build_401 ?_
                      obtain ⟨q37, hq37, hF⟩ := q_bdi hF
                      refine cl_i (Lc := [w_VB1 E b902 0 (j23)]) (Lc' := [w_VB1 E b902 0 (q37.2)]) (L' := [w_VB1 E b902 0 (q37.2)]) (rv := q37.1) (vx_runSW (As := [.ref (b902 0), .int 11, .int ((q10 >>> ((15 : Int32) &&& 31)) &&& 3), .int (1 + ((q10 >>> ((17 : Int32) &&& 31)) &&& 31))]) (rest := []) ⟨hx, hb, hml, hown, ha⟩ (k_L_act l E b902 0 (j23) 11 ((q10 >>> ((15 : Int32) &&& 31)) &&& 3) (1 + ((q10 >>> ((17 : Int32) &&& 31)) &&& 31)) q37 hq37 H.size hlt) (vx_cwSW 4 ha (gi_TH (fun _ h => h) mw1111 mw1112 mw25 mw1113) rfl rfl rfl hv_L_act.2 ⟨(Nat.le_of_ble_eq_true rfl), (Nat.le_of_ble_eq_true rfl)⟩) ⟨pre_blind, pre_at hP hD hS hz hzs hst [0] (by decide) rfl rfl⟩ rfl rfl hl.1 rfl (lv_room (Nat.le_of_ble_eq_true rfl)) dL_build_402 ⟨by show cv + 8 + 1 ≤ 379; omega, by show sv + 48 + 6 ≤ 2693; omega⟩) hP hD hS hA [0] (by decide) rfl rfl rfl rfl (fun H locs hP hD hS => ?_)
                      refine lv_pop hx hb dL_build_405 rfl ?_
                      exact jJ406 q37.2 H locs ls hF hP hD hS (lv_sub hl [0, 1, 2, 3, 4] rfl)
                  refine lv_icmp_ne (tgt := 369) hx hb dL_build_342 (by decide) (fun c342 => ?_) (fun c342 => ?_)
                  · have hF := q_brn c342 hF
                    refine W.widen (k := cv + 8) (n := sv + 48) (by omega) (by omega) ?_
                    exact jJ369 j22 H locs ls hF hP hD hS (lv_sub hl [0, 1, 2, 3, 4] rfl)
                  · have hF := q_brp c342 hF
                    refine lv_aload_n hx hb dL_build_345 rfl (lv_at hl 3 rfl) ?_
                    refine lv_iconst (v := 3) hx hb dL_build_346 (by decide) ?_
                    refine lv_iload hx hb dL_build_347 (lv_at hl 1 rfl) ?_
                    refine lv_bipush (v := 14) hx hb dL_build_349 (by decide) ?_
                    refine lv_ishr hx hb dL_build_351 ?_
                    refine lv_bipush (v := 15) hx hb dL_build_352 (by decide) ?_
                    refine lv_iand hx hb dL_build_354 ?_
                    refine lv_iload hx hb dL_build_355 (lv_at hl 0 rfl) ?_
                    obtain ⟨g38, hF⟩ := q_gdi hF
                    refine lv_irem hx hb dL_build_357 g38 ?_
                    refine lv_iload hx hb dL_build_358 (lv_at hl 1 rfl) ?_
                    refine lv_bipush (v := 18) hx hb dL_build_360 (by decide) ?_
                    refine lv_ishr hx hb dL_build_362 ?_
                    refine lv_iconst (v := 3) hx hb dL_build_363 (by decide) ?_
                    refine lv_iand hx hb dL_build_364 ?_
                    obtain ⟨q39, hq39, hF⟩ := q_bdi hF
                    refine cl_i (Lc := [w_VB1 E b902 0 (j22)]) (Lc' := [w_VB1 E b902 0 (q39.2)]) (L' := [w_VB1 E b902 0 (q39.2)]) (rv := q39.1) (vx_runSW (As := [.ref (b902 0), .int 3, .int (((q10 >>> ((14 : Int32) &&& 31)) &&& 15) - ((q10 >>> ((14 : Int32) &&& 31)) &&& 15) / v12 * v12), .int ((q10 >>> ((18 : Int32) &&& 31)) &&& 3)]) (rest := []) ⟨hx, hb, hml, hown, ha⟩ (k_L_act l E b902 0 (j22) 3 (((q10 >>> ((14 : Int32) &&& 31)) &&& 15) - ((q10 >>> ((14 : Int32) &&& 31)) &&& 15) / v12 * v12) ((q10 >>> ((18 : Int32) &&& 31)) &&& 3) q39 hq39 H.size hlt) (vx_cwSW 4 ha (gi_TH (fun _ h => h) mw1111 mw1112 mw25 mw1113) rfl rfl rfl hv_L_act.2 ⟨(Nat.le_of_ble_eq_true rfl), (Nat.le_of_ble_eq_true rfl)⟩) ⟨pre_blind, pre_at hP hD hS hz hzs hst [0] (by decide) rfl rfl⟩ rfl rfl hl.1 rfl (lv_room (Nat.le_of_ble_eq_true rfl)) dL_build_365 ⟨by show cv + 7 + 1 ≤ 379; omega, by show sv + 42 + 6 ≤ 2693; omega⟩) hP hD hS hA [0] (by decide) rfl rfl rfl rfl (fun H locs hP hD hS => ?_)
                    refine lv_pop hx hb dL_build_368 rfl ?_
                    exact jJ369 q39.2 H locs ls hF hP hD hS (lv_sub hl [0, 1, 2, 3, 4] rfl)
                refine lv_icmp_ne (tgt := 332) hx hb dL_build_311 (by decide) (fun c311 => ?_) (fun c311 => ?_)
                · have hF := q_brn c311 hF
                  refine W.widen (k := cv + 7) (n := sv + 42) (by omega) (by omega) ?_
                  exact jJ332 j21 H locs ls hF hP hD hS (lv_sub hl [0, 1, 2, 3, 4] rfl)
                · have hF := q_brp c311 hF
                  refine lv_aload_n hx hb dL_build_314 rfl (lv_at hl 3 rfl) ?_
                  refine lv_iconst (v := 5) hx hb dL_build_315 (by decide) ?_
                  refine lv_iload hx hb dL_build_316 (lv_at hl 1 rfl) ?_
                  refine lv_bipush (v := 14) hx hb dL_build_318 (by decide) ?_
                  refine lv_ishr hx hb dL_build_320 ?_
                  refine lv_bipush (v := 63) hx hb dL_build_321 (by decide) ?_
                  refine lv_iand hx hb dL_build_323 ?_
                  refine lv_bipush (v := 51) hx hb dL_build_324 (by decide) ?_
                  refine lv_irem hx hb dL_build_326 (by decide) ?_
                  refine lv_iconst (v := 0) hx hb dL_build_327 (by decide) ?_
                  obtain ⟨q40, hq40, hF⟩ := q_bdi hF
                  refine cl_i (Lc := [w_VB1 E b902 0 (j21)]) (Lc' := [w_VB1 E b902 0 (q40.2)]) (L' := [w_VB1 E b902 0 (q40.2)]) (rv := q40.1) (vx_runSW (As := [.ref (b902 0), .int 5, .int (((q10 >>> ((14 : Int32) &&& 31)) &&& 63) - ((q10 >>> ((14 : Int32) &&& 31)) &&& 63) / 51 * 51), .int 0]) (rest := []) ⟨hx, hb, hml, hown, ha⟩ (k_L_act l E b902 0 (j21) 5 (((q10 >>> ((14 : Int32) &&& 31)) &&& 63) - ((q10 >>> ((14 : Int32) &&& 31)) &&& 63) / 51 * 51) 0 q40 hq40 H.size hlt) (vx_cwSW 4 ha (gi_TH (fun _ h => h) mw1111 mw1112 mw25 mw1113) rfl rfl rfl hv_L_act.2 ⟨(Nat.le_of_ble_eq_true rfl), (Nat.le_of_ble_eq_true rfl)⟩) ⟨pre_blind, pre_at hP hD hS hz hzs hst [0] (by decide) rfl rfl⟩ rfl rfl hl.1 rfl (lv_room (Nat.le_of_ble_eq_true rfl)) dL_build_328 ⟨by show cv + 6 + 1 ≤ 379; omega, by show sv + 36 + 6 ≤ 2693; omega⟩) hP hD hS hA [0] (by decide) rfl rfl rfl rfl (fun H locs hP hD hS => ?_)
                  refine lv_pop hx hb dL_build_331 rfl ?_
                  exact jJ332 q40.2 H locs ls hF hP hD hS (lv_sub hl [0, 1, 2, 3, 4] rfl)
              refine lv_icmp_ne (tgt := 302) hx hb dL_build_271 (by decide) (fun c271 => ?_) (fun c271 => ?_)
              · have hF := q_brn c271 hF
                refine W.widen (k := cv + 6) (n := sv + 36) (by omega) (by omega) ?_
                exact jJ302 j20 H locs ls hF hP hD hS (lv_sub hl [0, 1, 2, 3, 4] rfl)
              · have hF := q_brp c271 hF
                refine lv_aload_n hx hb dL_build_274 rfl (lv_at hl 3 rfl) ?_
                refine lv_bipush (v := 9) hx hb dL_build_275 (by decide) ?_
                refine lv_iconst (v := 1) hx hb dL_build_277 (by decide) ?_
                refine lv_iload hx hb dL_build_278 (lv_at hl 1 rfl) ?_
                refine lv_bipush (v := 14) hx hb dL_build_280 (by decide) ?_
                refine lv_ishr hx hb dL_build_282 ?_
                refine lv_bipush (v := 7) hx hb dL_build_283 (by decide) ?_
                refine lv_iand hx hb dL_build_285 ?_
                refine lv_iadd hx hb dL_build_286 ?_
                refine lv_iload hx hb dL_build_287 (lv_at hl 1 rfl) ?_
                refine lv_bipush (v := 17) hx hb dL_build_289 (by decide) ?_
                refine lv_ishr hx hb dL_build_291 ?_
                refine lv_bipush (v := 15) hx hb dL_build_292 (by decide) ?_
                refine lv_iand hx hb dL_build_294 ?_
                refine lv_bipush (v := 8) hx hb dL_build_295 (by decide) ?_
                refine lv_isub hx hb dL_build_297 ?_
                obtain ⟨q41, hq41, hF⟩ := q_bdi hF
                refine cl_i (Lc := [w_VB1 E b902 0 (j20)]) (Lc' := [w_VB1 E b902 0 (q41.2)]) (L' := [w_VB1 E b902 0 (q41.2)]) (rv := q41.1) (vx_runSW (As := [.ref (b902 0), .int 9, .int (1 + ((q10 >>> ((14 : Int32) &&& 31)) &&& 7)), .int (((q10 >>> ((17 : Int32) &&& 31)) &&& 15) - 8)]) (rest := []) ⟨hx, hb, hml, hown, ha⟩ (k_L_act l E b902 0 (j20) 9 (1 + ((q10 >>> ((14 : Int32) &&& 31)) &&& 7)) (((q10 >>> ((17 : Int32) &&& 31)) &&& 15) - 8) q41 hq41 H.size hlt) (vx_cwSW 4 ha (gi_TH (fun _ h => h) mw1111 mw1112 mw25 mw1113) rfl rfl rfl hv_L_act.2 ⟨(Nat.le_of_ble_eq_true rfl), (Nat.le_of_ble_eq_true rfl)⟩) ⟨pre_blind, pre_at hP hD hS hz hzs hst [0] (by decide) rfl rfl⟩ rfl rfl hl.1 rfl (lv_room (Nat.le_of_ble_eq_true rfl)) dL_build_298 ⟨by show cv + 5 + 1 ≤ 379; omega, by show sv + 30 + 6 ≤ 2693; omega⟩) hP hD hS hA [0] (by decide) rfl rfl rfl rfl (fun H locs hP hD hS => ?_)
                refine lv_pop hx hb dL_build_301 rfl ?_
                exact jJ302 q41.2 H locs ls hF hP hD hS (lv_sub hl [0, 1, 2, 3, 4] rfl)
            refine lv_icmp_ne (tgt := 262) hx hb dL_build_237 (by decide) (fun c237 => ?_) (fun c237 => ?_)
            · have hF := q_brn c237 hF
              refine W.widen (k := cv + 5) (n := sv + 30) (by omega) (by omega) ?_
              exact jJ262 j19 H locs ls hF hP hD hS (lv_sub hl [0, 1, 2, 3, 4] rfl)
            · have hF := q_brp c237 hF
              refine lv_aload_n hx hb dL_build_240 rfl (lv_at hl 3 rfl) ?_
              refine lv_bipush (v := 8) hx hb dL_build_241 (by decide) ?_
              refine lv_iload hx hb dL_build_243 (lv_at hl 1 rfl) ?_
              refine lv_bipush (v := 14) hx hb dL_build_245 (by decide) ?_
              refine lv_ishr hx hb dL_build_247 ?_
              refine lv_iconst (v := 3) hx hb dL_build_248 (by decide) ?_
              refine lv_iand hx hb dL_build_249 ?_
              refine lv_iload hx hb dL_build_250 (lv_at hl 1 rfl) ?_
              refine lv_bipush (v := 16) hx hb dL_build_252 (by decide) ?_
              refine lv_ishr hx hb dL_build_254 ?_
              refine lv_bipush (v := 15) hx hb dL_build_255 (by decide) ?_
              refine lv_iand hx hb dL_build_257 ?_
              obtain ⟨q42, hq42, hF⟩ := q_bdi hF
              refine cl_i (Lc := [w_VB1 E b902 0 (j19)]) (Lc' := [w_VB1 E b902 0 (q42.2)]) (L' := [w_VB1 E b902 0 (q42.2)]) (rv := q42.1) (vx_runSW (As := [.ref (b902 0), .int 8, .int ((q10 >>> ((14 : Int32) &&& 31)) &&& 3), .int ((q10 >>> ((16 : Int32) &&& 31)) &&& 15)]) (rest := []) ⟨hx, hb, hml, hown, ha⟩ (k_L_act l E b902 0 (j19) 8 ((q10 >>> ((14 : Int32) &&& 31)) &&& 3) ((q10 >>> ((16 : Int32) &&& 31)) &&& 15) q42 hq42 H.size hlt) (vx_cwSW 4 ha (gi_TH (fun _ h => h) mw1111 mw1112 mw25 mw1113) rfl rfl rfl hv_L_act.2 ⟨(Nat.le_of_ble_eq_true rfl), (Nat.le_of_ble_eq_true rfl)⟩) ⟨pre_blind, pre_at hP hD hS hz hzs hst [0] (by decide) rfl rfl⟩ rfl rfl hl.1 rfl (lv_room (Nat.le_of_ble_eq_true rfl)) dL_build_258 ⟨by show cv + 4 + 1 ≤ 379; omega, by show sv + 24 + 6 ≤ 2693; omega⟩) hP hD hS hA [0] (by decide) rfl rfl rfl rfl (fun H locs hP hD hS => ?_)
              refine lv_pop hx hb dL_build_261 rfl ?_
              exact jJ262 q42.2 H locs ls hF hP hD hS (lv_sub hl [0, 1, 2, 3, 4] rfl)
          refine lv_icmp_ne (tgt := 228) hx hb dL_build_201 (by decide) (fun c201 => ?_) (fun c201 => ?_)
          · have hF := q_brn c201 hF
            refine W.widen (k := cv + 4) (n := sv + 24) (by omega) (by omega) ?_
            exact jJ228 j18 H locs ls hF hP hD hS (lv_sub hl [0, 1, 2, 3, 4] rfl)
          · have hF := q_brp c201 hF
            refine lv_aload_n hx hb dL_build_204 rfl (lv_at hl 3 rfl) ?_
            refine lv_iconst (v := 4) hx hb dL_build_205 (by decide) ?_
            refine lv_iload hx hb dL_build_206 (lv_at hl 1 rfl) ?_
            refine lv_bipush (v := 14) hx hb dL_build_208 (by decide) ?_
            refine lv_ishr hx hb dL_build_210 ?_
            refine lv_bipush (v := 15) hx hb dL_build_211 (by decide) ?_
            refine lv_iand hx hb dL_build_213 ?_
            refine lv_bipush (v := 12) hx hb dL_build_214 (by decide) ?_
            refine lv_irem hx hb dL_build_216 (by decide) ?_
            refine lv_iload hx hb dL_build_217 (lv_at hl 1 rfl) ?_
            refine lv_bipush (v := 18) hx hb dL_build_219 (by decide) ?_
            refine lv_ishr hx hb dL_build_221 ?_
            refine lv_iconst (v := 1) hx hb dL_build_222 (by decide) ?_
            refine lv_iand hx hb dL_build_223 ?_
            obtain ⟨q43, hq43, hF⟩ := q_bdi hF
            refine cl_i (Lc := [w_VB1 E b902 0 (j18)]) (Lc' := [w_VB1 E b902 0 (q43.2)]) (L' := [w_VB1 E b902 0 (q43.2)]) (rv := q43.1) (vx_runSW (As := [.ref (b902 0), .int 4, .int (((q10 >>> ((14 : Int32) &&& 31)) &&& 15) - ((q10 >>> ((14 : Int32) &&& 31)) &&& 15) / 12 * 12), .int ((q10 >>> ((18 : Int32) &&& 31)) &&& 1)]) (rest := []) ⟨hx, hb, hml, hown, ha⟩ (k_L_act l E b902 0 (j18) 4 (((q10 >>> ((14 : Int32) &&& 31)) &&& 15) - ((q10 >>> ((14 : Int32) &&& 31)) &&& 15) / 12 * 12) ((q10 >>> ((18 : Int32) &&& 31)) &&& 1) q43 hq43 H.size hlt) (vx_cwSW 4 ha (gi_TH (fun _ h => h) mw1111 mw1112 mw25 mw1113) rfl rfl rfl hv_L_act.2 ⟨(Nat.le_of_ble_eq_true rfl), (Nat.le_of_ble_eq_true rfl)⟩) ⟨pre_blind, pre_at hP hD hS hz hzs hst [0] (by decide) rfl rfl⟩ rfl rfl hl.1 rfl (lv_room (Nat.le_of_ble_eq_true rfl)) dL_build_224 ⟨by show cv + 3 + 1 ≤ 379; omega, by show sv + 18 + 6 ≤ 2693; omega⟩) hP hD hS hA [0] (by decide) rfl rfl rfl rfl (fun H locs hP hD hS => ?_)
            refine lv_pop hx hb dL_build_227 rfl ?_
            exact jJ228 q43.2 H locs ls hF hP hD hS (lv_sub hl [0, 1, 2, 3, 4] rfl)
        refine lv_if_ne (tgt := 192) hx hb dL_build_158 (by decide) (fun c158 => ?_) (fun c158 => ?_)
        · have hF := q_brn c158 hF
          refine W.widen (k := cv + 3) (n := sv + 18) (by omega) (by omega) ?_
          exact jJ192 q17.2 H locs ls hF hP hD hS (lv_sub hl [1, 2, 3, 4, 5] rfl)
        · have hF := q_brp c158 hF
          refine lv_aload_n hx hb dL_build_161 rfl (lv_at hl 4 rfl) ?_
          refine lv_iconst (v := 2) hx hb dL_build_162 (by decide) ?_
          refine lv_iload hx hb dL_build_163 (lv_at hl 2 rfl) ?_
          refine lv_bipush (v := 13) hx hb dL_build_165 (by decide) ?_
          refine lv_ishr hx hb dL_build_167 ?_
          refine lv_bipush (v := 15) hx hb dL_build_168 (by decide) ?_
          refine lv_iand hx hb dL_build_170 ?_
          refine lv_iload hx hb dL_build_171 (lv_at hl 1 rfl) ?_
          obtain ⟨g44, hF⟩ := q_gdi hF
          refine lv_irem hx hb dL_build_173 g44 ?_
          refine lv_iload hx hb dL_build_174 (lv_at hl 2 rfl) ?_
          refine lv_bipush (v := 17) hx hb dL_build_176 (by decide) ?_
          refine lv_ishr hx hb dL_build_178 ?_
          refine lv_bipush (v := 127) hx hb dL_build_179 (by decide) ?_
          refine lv_iand hx hb dL_build_181 ?_
          refine lv_bipush (v := 100) hx hb dL_build_182 (by decide) ?_
          refine lv_irem hx hb dL_build_184 (by decide) ?_
          refine lv_bipush (v := 50) hx hb dL_build_185 (by decide) ?_
          refine lv_isub hx hb dL_build_187 ?_
          obtain ⟨q45, hq45, hF⟩ := q_bdi hF
          refine cl_i (Lc := [w_VB1 E b902 0 (q17.2)]) (Lc' := [w_VB1 E b902 0 (q45.2)]) (L' := [w_VB1 E b902 0 (q45.2)]) (rv := q45.1) (vx_runSW (As := [.ref (b902 0), .int 2, .int (((q10 >>> ((13 : Int32) &&& 31)) &&& 15) - ((q10 >>> ((13 : Int32) &&& 31)) &&& 15) / v12 * v12), .int ((((q10 >>> ((17 : Int32) &&& 31)) &&& 127) - ((q10 >>> ((17 : Int32) &&& 31)) &&& 127) / 100 * 100) - 50)]) (rest := []) ⟨hx, hb, hml, hown, ha⟩ (k_L_act l E b902 0 (q17.2) 2 (((q10 >>> ((13 : Int32) &&& 31)) &&& 15) - ((q10 >>> ((13 : Int32) &&& 31)) &&& 15) / v12 * v12) ((((q10 >>> ((17 : Int32) &&& 31)) &&& 127) - ((q10 >>> ((17 : Int32) &&& 31)) &&& 127) / 100 * 100) - 50) q45 hq45 H.size hlt) (vx_cwSW 4 ha (gi_TH (fun _ h => h) mw1111 mw1112 mw25 mw1113) rfl rfl rfl hv_L_act.2 ⟨(Nat.le_of_ble_eq_true rfl), (Nat.le_of_ble_eq_true rfl)⟩) ⟨pre_blind, pre_at hP hD hS hz hzs hst [0] (by decide) rfl rfl⟩ rfl rfl hl.1 rfl (lv_room (Nat.le_of_ble_eq_true rfl)) dL_build_188 ⟨by show cv + 2 + 1 ≤ 379; omega, by show sv + 12 + 6 ≤ 2693; omega⟩) hP hD hS hA [0] (by decide) rfl rfl rfl rfl (fun H locs hP hD hS => ?_)
          refine lv_pop hx hb dL_build_191 rfl ?_
          exact jJ192 q45.2 H locs ls hF hP hD hS (lv_sub hl [1, 2, 3, 4, 5] rfl)
  refine key78 _ ?_ 16 1 y4 155 1349 H locs ls (by omega) (by omega) hF hP hD hS (lv_sub hl [0, 1, 2] rfl)
  intro y9 H locs ls hF hP hD hS hl
  refine lv_aload_n hx hb dL_build_545 rfl (lv_at hl 0 rfl) ?_
  have hF := Option.some.inj hF
  exact en_b (aN := b902) hQ (Nat.le_of_ble_eq_true rfl) (Nat.le_of_ble_eq_true rfl) hx hb hr (Or.inl ⟨_, rfl⟩) hlocks rfl (by rw [← hF]; exact hP) (by rw [← hF]; exact hD) hS dL_build_546
