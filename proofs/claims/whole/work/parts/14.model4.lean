/-! X11_parsesCommand -/
theorem dX11_parsesCommand_0 : decode cX11_parsesCommand 0 = .ok (.aload_n 0, 1) := by decide +kernel
theorem dX11_parsesCommand_1 : decode cX11_parsesCommand 1 = .ok (.invokevirtual 194, 3) := by decide +kernel
theorem dX11_parsesCommand_4 : decode cX11_parsesCommand 4 = .ok (.istore_n 2, 1) := by decide +kernel
theorem dX11_parsesCommand_5 : decode cX11_parsesCommand 5 = .ok (.aload_n 0, 1) := by decide +kernel
theorem dX11_parsesCommand_6 : decode cX11_parsesCommand 6 = .ok (.dup, 1) := by decide +kernel
theorem dX11_parsesCommand_7 : decode cX11_parsesCommand 7 = .ok (.getfield 187, 3) := by decide +kernel
theorem dX11_parsesCommand_10 : decode cX11_parsesCommand 10 = .ok (.iconst 1, 1) := by decide +kernel
theorem dX11_parsesCommand_11 : decode cX11_parsesCommand 11 = .ok (.iadd, 1) := by decide +kernel
theorem dX11_parsesCommand_12 : decode cX11_parsesCommand 12 = .ok (.putfield 187, 3) := by decide +kernel
theorem dX11_parsesCommand_15 : decode cX11_parsesCommand 15 = .ok (.aload_n 0, 1) := by decide +kernel
theorem dX11_parsesCommand_16 : decode cX11_parsesCommand 16 = .ok (.getfield 39, 3) := by decide +kernel
theorem dX11_parsesCommand_19 : decode cX11_parsesCommand 19 = .ok (.iload_n 1, 1) := by decide +kernel
theorem dX11_parsesCommand_20 : decode cX11_parsesCommand 20 = .ok (.iload_n 2, 1) := by decide +kernel
theorem dX11_parsesCommand_21 : decode cX11_parsesCommand 21 = .ok (.iastore, 1) := by decide +kernel
theorem dX11_parsesCommand_22 : decode cX11_parsesCommand 22 = .ok (.iload_n 2, 1) := by decide +kernel
theorem dX11_parsesCommand_23 : decode cX11_parsesCommand 23 = .ok (.tableswitch 355 98 116 #[89, 226, 355, 234, 281, 308, 355, 355, 355, 218, 355, 177, 355, 355, 355, 355, 130, 355, 169], 89) := by decide +kernel
theorem dX11_parsesCommand_112 : decode cX11_parsesCommand 112 = .ok (.aload_n 0, 1) := by decide +kernel
theorem dX11_parsesCommand_113 : decode cX11_parsesCommand 113 = .ok (.bipush 101, 2) := by decide +kernel
theorem dX11_parsesCommand_115 : decode cX11_parsesCommand 115 = .ok (.bipush 108, 2) := by decide +kernel
theorem dX11_parsesCommand_117 : decode cX11_parsesCommand 117 = .ok (.bipush 108, 2) := by decide +kernel
theorem dX11_parsesCommand_119 : decode cX11_parsesCommand 119 = .ok (.invokevirtual 204, 3) := by decide +kernel
theorem dX11_parsesCommand_122 : decode cX11_parsesCommand 122 = .ok (.aload_n 0, 1) := by decide +kernel
theorem dX11_parsesCommand_123 : decode cX11_parsesCommand 123 = .ok (.getfield 39, 3) := by decide +kernel
theorem dX11_parsesCommand_126 : decode cX11_parsesCommand 126 = .ok (.iload_n 1, 1) := by decide +kernel
theorem dX11_parsesCommand_127 : decode cX11_parsesCommand 127 = .ok (.iconst 1, 1) := by decide +kernel
theorem dX11_parsesCommand_128 : decode cX11_parsesCommand 128 = .ok (.iadd, 1) := by decide +kernel
theorem dX11_parsesCommand_129 : decode cX11_parsesCommand 129 = .ok (.aload_n 0, 1) := by decide +kernel
theorem dX11_parsesCommand_130 : decode cX11_parsesCommand 130 = .ok (.iconst 1, 1) := by decide +kernel
theorem dX11_parsesCommand_131 : decode cX11_parsesCommand 131 = .ok (.iconst 1, 1) := by decide +kernel
theorem dX11_parsesCommand_132 : decode cX11_parsesCommand 132 = .ok (.invokevirtual 208, 3) := by decide +kernel
theorem dX11_parsesCommand_135 : decode cX11_parsesCommand 135 = .ok (.iastore, 1) := by decide +kernel
theorem dX11_parsesCommand_136 : decode cX11_parsesCommand 136 = .ok (.aload_n 0, 1) := by decide +kernel
theorem dX11_parsesCommand_137 : decode cX11_parsesCommand 137 = .ok (.getfield 39, 3) := by decide +kernel
theorem dX11_parsesCommand_140 : decode cX11_parsesCommand 140 = .ok (.iload_n 1, 1) := by decide +kernel
theorem dX11_parsesCommand_141 : decode cX11_parsesCommand 141 = .ok (.iconst 2, 1) := by decide +kernel
theorem dX11_parsesCommand_142 : decode cX11_parsesCommand 142 = .ok (.iadd, 1) := by decide +kernel
theorem dX11_parsesCommand_143 : decode cX11_parsesCommand 143 = .ok (.aload_n 0, 1) := by decide +kernel
theorem dX11_parsesCommand_144 : decode cX11_parsesCommand 144 = .ok (.iconst 4, 1) := by decide +kernel
theorem dX11_parsesCommand_145 : decode cX11_parsesCommand 145 = .ok (.iconst 4, 1) := by decide +kernel
theorem dX11_parsesCommand_146 : decode cX11_parsesCommand 146 = .ok (.invokevirtual 208, 3) := by decide +kernel
theorem dX11_parsesCommand_149 : decode cX11_parsesCommand 149 = .ok (.iastore, 1) := by decide +kernel
theorem dX11_parsesCommand_150 : decode cX11_parsesCommand 150 = .ok (.goto 243, 3) := by decide +kernel
theorem dX11_parsesCommand_153 : decode cX11_parsesCommand 153 = .ok (.aload_n 0, 1) := by decide +kernel
theorem dX11_parsesCommand_154 : decode cX11_parsesCommand 154 = .ok (.bipush 101, 2) := by decide +kernel
theorem dX11_parsesCommand_156 : decode cX11_parsesCommand 156 = .ok (.bipush 109, 2) := by decide +kernel
theorem dX11_parsesCommand_158 : decode cX11_parsesCommand 158 = .ok (.bipush 111, 2) := by decide +kernel
theorem dX11_parsesCommand_160 : decode cX11_parsesCommand 160 = .ok (.invokevirtual 204, 3) := by decide +kernel
theorem dX11_parsesCommand_163 : decode cX11_parsesCommand 163 = .ok (.aload_n 0, 1) := by decide +kernel
theorem dX11_parsesCommand_164 : decode cX11_parsesCommand 164 = .ok (.bipush 118, 2) := by decide +kernel
theorem dX11_parsesCommand_166 : decode cX11_parsesCommand 166 = .ok (.invokevirtual 198, 3) := by decide +kernel
theorem dX11_parsesCommand_169 : decode cX11_parsesCommand 169 = .ok (.aload_n 0, 1) := by decide +kernel
theorem dX11_parsesCommand_170 : decode cX11_parsesCommand 170 = .ok (.bipush 101, 2) := by decide +kernel
theorem dX11_parsesCommand_172 : decode cX11_parsesCommand 172 = .ok (.invokevirtual 198, 3) := by decide +kernel
theorem dX11_parsesCommand_175 : decode cX11_parsesCommand 175 = .ok (.aload_n 0, 1) := by decide +kernel
theorem dX11_parsesCommand_176 : decode cX11_parsesCommand 176 = .ok (.getfield 39, 3) := by decide +kernel
theorem dX11_parsesCommand_179 : decode cX11_parsesCommand 179 = .ok (.iload_n 1, 1) := by decide +kernel
theorem dX11_parsesCommand_180 : decode cX11_parsesCommand 180 = .ok (.iconst 1, 1) := by decide +kernel
theorem dX11_parsesCommand_181 : decode cX11_parsesCommand 181 = .ok (.iadd, 1) := by decide +kernel
theorem dX11_parsesCommand_182 : decode cX11_parsesCommand 182 = .ok (.aload_n 0, 1) := by decide +kernel
theorem dX11_parsesCommand_183 : decode cX11_parsesCommand 183 = .ok (.iconst 1, 1) := by decide +kernel
theorem dX11_parsesCommand_184 : decode cX11_parsesCommand 184 = .ok (.iconst 2, 1) := by decide +kernel
theorem dX11_parsesCommand_185 : decode cX11_parsesCommand 185 = .ok (.invokevirtual 208, 3) := by decide +kernel
theorem dX11_parsesCommand_188 : decode cX11_parsesCommand 188 = .ok (.iastore, 1) := by decide +kernel
theorem dX11_parsesCommand_189 : decode cX11_parsesCommand 189 = .ok (.goto 204, 3) := by decide +kernel
theorem dX11_parsesCommand_192 : decode cX11_parsesCommand 192 = .ok (.aload_n 0, 1) := by decide +kernel
theorem dX11_parsesCommand_193 : decode cX11_parsesCommand 193 = .ok (.iload_n 1, 1) := by decide +kernel
theorem dX11_parsesCommand_194 : decode cX11_parsesCommand 194 = .ok (.invokevirtual 214, 3) := by decide +kernel
theorem dX11_parsesCommand_197 : decode cX11_parsesCommand 197 = .ok (.goto 196, 3) := by decide +kernel
theorem dX11_parsesCommand_200 : decode cX11_parsesCommand 200 = .ok (.aload_n 0, 1) := by decide +kernel
theorem dX11_parsesCommand_201 : decode cX11_parsesCommand 201 = .ok (.bipush 111, 2) := by decide +kernel
theorem dX11_parsesCommand_203 : decode cX11_parsesCommand 203 = .ok (.bipush 118, 2) := by decide +kernel
theorem dX11_parsesCommand_205 : decode cX11_parsesCommand 205 = .ok (.bipush 101, 2) := by decide +kernel
theorem dX11_parsesCommand_207 : decode cX11_parsesCommand 207 = .ok (.invokevirtual 204, 3) := by decide +kernel
theorem dX11_parsesCommand_210 : decode cX11_parsesCommand 210 = .ok (.aload_n 0, 1) := by decide +kernel
theorem dX11_parsesCommand_211 : decode cX11_parsesCommand 211 = .ok (.getfield 39, 3) := by decide +kernel
theorem dX11_parsesCommand_214 : decode cX11_parsesCommand 214 = .ok (.iload_n 1, 1) := by decide +kernel
theorem dX11_parsesCommand_215 : decode cX11_parsesCommand 215 = .ok (.iconst 1, 1) := by decide +kernel
theorem dX11_parsesCommand_216 : decode cX11_parsesCommand 216 = .ok (.iadd, 1) := by decide +kernel
theorem dX11_parsesCommand_217 : decode cX11_parsesCommand 217 = .ok (.aload_n 0, 1) := by decide +kernel
theorem dX11_parsesCommand_218 : decode cX11_parsesCommand 218 = .ok (.iconst 1, 1) := by decide +kernel
theorem dX11_parsesCommand_219 : decode cX11_parsesCommand 219 = .ok (.iconst 2, 1) := by decide +kernel
theorem dX11_parsesCommand_220 : decode cX11_parsesCommand 220 = .ok (.invokevirtual 208, 3) := by decide +kernel
theorem dX11_parsesCommand_223 : decode cX11_parsesCommand 223 = .ok (.iastore, 1) := by decide +kernel
theorem dX11_parsesCommand_224 : decode cX11_parsesCommand 224 = .ok (.aload_n 0, 1) := by decide +kernel
theorem dX11_parsesCommand_225 : decode cX11_parsesCommand 225 = .ok (.getfield 39, 3) := by decide +kernel
theorem dX11_parsesCommand_228 : decode cX11_parsesCommand 228 = .ok (.iload_n 1, 1) := by decide +kernel
theorem dX11_parsesCommand_229 : decode cX11_parsesCommand 229 = .ok (.iconst 2, 1) := by decide +kernel
theorem dX11_parsesCommand_230 : decode cX11_parsesCommand 230 = .ok (.iadd, 1) := by decide +kernel
theorem dX11_parsesCommand_231 : decode cX11_parsesCommand 231 = .ok (.aload_n 0, 1) := by decide +kernel
theorem dX11_parsesCommand_232 : decode cX11_parsesCommand 232 = .ok (.iconst 1, 1) := by decide +kernel
theorem dX11_parsesCommand_233 : decode cX11_parsesCommand 233 = .ok (.iconst 1, 1) := by decide +kernel
theorem dX11_parsesCommand_234 : decode cX11_parsesCommand 234 = .ok (.invokevirtual 208, 3) := by decide +kernel
theorem dX11_parsesCommand_237 : decode cX11_parsesCommand 237 = .ok (.iastore, 1) := by decide +kernel
theorem dX11_parsesCommand_238 : decode cX11_parsesCommand 238 = .ok (.goto 155, 3) := by decide +kernel
theorem dX11_parsesCommand_241 : decode cX11_parsesCommand 241 = .ok (.aload_n 0, 1) := by decide +kernel
theorem dX11_parsesCommand_242 : decode cX11_parsesCommand 242 = .ok (.iload_n 1, 1) := by decide +kernel
theorem dX11_parsesCommand_243 : decode cX11_parsesCommand 243 = .ok (.invokevirtual 217, 3) := by decide +kernel
theorem dX11_parsesCommand_246 : decode cX11_parsesCommand 246 = .ok (.goto 147, 3) := by decide +kernel
theorem dX11_parsesCommand_249 : decode cX11_parsesCommand 249 = .ok (.aload_n 0, 1) := by decide +kernel
theorem dX11_parsesCommand_250 : decode cX11_parsesCommand 250 = .ok (.iload_n 1, 1) := by decide +kernel
theorem dX11_parsesCommand_251 : decode cX11_parsesCommand 251 = .ok (.invokevirtual 220, 3) := by decide +kernel
theorem dX11_parsesCommand_254 : decode cX11_parsesCommand 254 = .ok (.goto 139, 3) := by decide +kernel
theorem dX11_parsesCommand_257 : decode cX11_parsesCommand 257 = .ok (.aload_n 0, 1) := by decide +kernel
theorem dX11_parsesCommand_258 : decode cX11_parsesCommand 258 = .ok (.bipush 110, 2) := by decide +kernel
theorem dX11_parsesCommand_260 : decode cX11_parsesCommand 260 = .ok (.bipush 116, 2) := by decide +kernel
theorem dX11_parsesCommand_262 : decode cX11_parsesCommand 262 = .ok (.bipush 114, 2) := by decide +kernel
theorem dX11_parsesCommand_264 : decode cX11_parsesCommand 264 = .ok (.invokevirtual 204, 3) := by decide +kernel
theorem dX11_parsesCommand_267 : decode cX11_parsesCommand 267 = .ok (.aload_n 0, 1) := by decide +kernel
theorem dX11_parsesCommand_268 : decode cX11_parsesCommand 268 = .ok (.bipush 121, 2) := by decide +kernel
theorem dX11_parsesCommand_270 : decode cX11_parsesCommand 270 = .ok (.invokevirtual 198, 3) := by decide +kernel
theorem dX11_parsesCommand_273 : decode cX11_parsesCommand 273 = .ok (.aload_n 0, 1) := by decide +kernel
theorem dX11_parsesCommand_274 : decode cX11_parsesCommand 274 = .ok (.getfield 39, 3) := by decide +kernel
theorem dX11_parsesCommand_277 : decode cX11_parsesCommand 277 = .ok (.iload_n 1, 1) := by decide +kernel
theorem dX11_parsesCommand_278 : decode cX11_parsesCommand 278 = .ok (.iconst 1, 1) := by decide +kernel
theorem dX11_parsesCommand_279 : decode cX11_parsesCommand 279 = .ok (.iadd, 1) := by decide +kernel
theorem dX11_parsesCommand_280 : decode cX11_parsesCommand 280 = .ok (.aload_n 0, 1) := by decide +kernel
theorem dX11_parsesCommand_281 : decode cX11_parsesCommand 281 = .ok (.iconst 1, 1) := by decide +kernel
theorem dX11_parsesCommand_282 : decode cX11_parsesCommand 282 = .ok (.iconst 1, 1) := by decide +kernel
theorem dX11_parsesCommand_283 : decode cX11_parsesCommand 283 = .ok (.invokevirtual 208, 3) := by decide +kernel
theorem dX11_parsesCommand_286 : decode cX11_parsesCommand 286 = .ok (.iastore, 1) := by decide +kernel
theorem dX11_parsesCommand_287 : decode cX11_parsesCommand 287 = .ok (.aload_n 0, 1) := by decide +kernel
theorem dX11_parsesCommand_288 : decode cX11_parsesCommand 288 = .ok (.getfield 39, 3) := by decide +kernel
theorem dX11_parsesCommand_291 : decode cX11_parsesCommand 291 = .ok (.iload_n 1, 1) := by decide +kernel
theorem dX11_parsesCommand_292 : decode cX11_parsesCommand 292 = .ok (.iconst 2, 1) := by decide +kernel
theorem dX11_parsesCommand_293 : decode cX11_parsesCommand 293 = .ok (.iadd, 1) := by decide +kernel
theorem dX11_parsesCommand_294 : decode cX11_parsesCommand 294 = .ok (.aload_n 0, 1) := by decide +kernel
theorem dX11_parsesCommand_295 : decode cX11_parsesCommand 295 = .ok (.iconst 1, 1) := by decide +kernel
theorem dX11_parsesCommand_296 : decode cX11_parsesCommand 296 = .ok (.iconst 2, 1) := by decide +kernel
theorem dX11_parsesCommand_297 : decode cX11_parsesCommand 297 = .ok (.invokevirtual 208, 3) := by decide +kernel
theorem dX11_parsesCommand_300 : decode cX11_parsesCommand 300 = .ok (.iastore, 1) := by decide +kernel
theorem dX11_parsesCommand_301 : decode cX11_parsesCommand 301 = .ok (.goto 92, 3) := by decide +kernel
theorem dX11_parsesCommand_304 : decode cX11_parsesCommand 304 = .ok (.aload_n 0, 1) := by decide +kernel
theorem dX11_parsesCommand_305 : decode cX11_parsesCommand 305 = .ok (.bipush 101, 2) := by decide +kernel
theorem dX11_parsesCommand_307 : decode cX11_parsesCommand 307 = .ok (.bipush 108, 2) := by decide +kernel
theorem dX11_parsesCommand_309 : decode cX11_parsesCommand 309 = .ok (.bipush 108, 2) := by decide +kernel
theorem dX11_parsesCommand_311 : decode cX11_parsesCommand 311 = .ok (.invokevirtual 204, 3) := by decide +kernel
theorem dX11_parsesCommand_314 : decode cX11_parsesCommand 314 = .ok (.aload_n 0, 1) := by decide +kernel
theorem dX11_parsesCommand_315 : decode cX11_parsesCommand 315 = .ok (.getfield 39, 3) := by decide +kernel
theorem dX11_parsesCommand_318 : decode cX11_parsesCommand 318 = .ok (.iload_n 1, 1) := by decide +kernel
theorem dX11_parsesCommand_319 : decode cX11_parsesCommand 319 = .ok (.iconst 1, 1) := by decide +kernel
theorem dX11_parsesCommand_320 : decode cX11_parsesCommand 320 = .ok (.iadd, 1) := by decide +kernel
theorem dX11_parsesCommand_321 : decode cX11_parsesCommand 321 = .ok (.aload_n 0, 1) := by decide +kernel
theorem dX11_parsesCommand_322 : decode cX11_parsesCommand 322 = .ok (.iconst 1, 1) := by decide +kernel
theorem dX11_parsesCommand_323 : decode cX11_parsesCommand 323 = .ok (.iconst 1, 1) := by decide +kernel
theorem dX11_parsesCommand_324 : decode cX11_parsesCommand 324 = .ok (.invokevirtual 208, 3) := by decide +kernel
theorem dX11_parsesCommand_327 : decode cX11_parsesCommand 327 = .ok (.iastore, 1) := by decide +kernel
theorem dX11_parsesCommand_328 : decode cX11_parsesCommand 328 = .ok (.goto 65, 3) := by decide +kernel
theorem dX11_parsesCommand_331 : decode cX11_parsesCommand 331 = .ok (.aload_n 0, 1) := by decide +kernel
theorem dX11_parsesCommand_332 : decode cX11_parsesCommand 332 = .ok (.bipush 114, 2) := by decide +kernel
theorem dX11_parsesCommand_334 : decode cX11_parsesCommand 334 = .ok (.bipush 97, 2) := by decide +kernel
theorem dX11_parsesCommand_336 : decode cX11_parsesCommand 336 = .ok (.bipush 122, 2) := by decide +kernel
theorem dX11_parsesCommand_338 : decode cX11_parsesCommand 338 = .ok (.invokevirtual 204, 3) := by decide +kernel
theorem dX11_parsesCommand_341 : decode cX11_parsesCommand 341 = .ok (.aload_n 0, 1) := by decide +kernel
theorem dX11_parsesCommand_342 : decode cX11_parsesCommand 342 = .ok (.bipush 101, 2) := by decide +kernel
theorem dX11_parsesCommand_344 : decode cX11_parsesCommand 344 = .ok (.invokevirtual 198, 3) := by decide +kernel
theorem dX11_parsesCommand_347 : decode cX11_parsesCommand 347 = .ok (.aload_n 0, 1) := by decide +kernel
theorem dX11_parsesCommand_348 : decode cX11_parsesCommand 348 = .ok (.getfield 39, 3) := by decide +kernel
theorem dX11_parsesCommand_351 : decode cX11_parsesCommand 351 = .ok (.iload_n 1, 1) := by decide +kernel
theorem dX11_parsesCommand_352 : decode cX11_parsesCommand 352 = .ok (.iconst 1, 1) := by decide +kernel
theorem dX11_parsesCommand_353 : decode cX11_parsesCommand 353 = .ok (.iadd, 1) := by decide +kernel
theorem dX11_parsesCommand_354 : decode cX11_parsesCommand 354 = .ok (.aload_n 0, 1) := by decide +kernel
theorem dX11_parsesCommand_355 : decode cX11_parsesCommand 355 = .ok (.iconst 1, 1) := by decide +kernel
theorem dX11_parsesCommand_356 : decode cX11_parsesCommand 356 = .ok (.iconst 1, 1) := by decide +kernel
theorem dX11_parsesCommand_357 : decode cX11_parsesCommand 357 = .ok (.invokevirtual 208, 3) := by decide +kernel
theorem dX11_parsesCommand_360 : decode cX11_parsesCommand 360 = .ok (.iastore, 1) := by decide +kernel
theorem dX11_parsesCommand_361 : decode cX11_parsesCommand 361 = .ok (.aload_n 0, 1) := by decide +kernel
theorem dX11_parsesCommand_362 : decode cX11_parsesCommand 362 = .ok (.getfield 39, 3) := by decide +kernel
theorem dX11_parsesCommand_365 : decode cX11_parsesCommand 365 = .ok (.iload_n 1, 1) := by decide +kernel
theorem dX11_parsesCommand_366 : decode cX11_parsesCommand 366 = .ok (.iconst 2, 1) := by decide +kernel
theorem dX11_parsesCommand_367 : decode cX11_parsesCommand 367 = .ok (.iadd, 1) := by decide +kernel
theorem dX11_parsesCommand_368 : decode cX11_parsesCommand 368 = .ok (.aload_n 0, 1) := by decide +kernel
theorem dX11_parsesCommand_369 : decode cX11_parsesCommand 369 = .ok (.iconst 1, 1) := by decide +kernel
theorem dX11_parsesCommand_370 : decode cX11_parsesCommand 370 = .ok (.iconst 2, 1) := by decide +kernel
theorem dX11_parsesCommand_371 : decode cX11_parsesCommand 371 = .ok (.invokevirtual 208, 3) := by decide +kernel
theorem dX11_parsesCommand_374 : decode cX11_parsesCommand 374 = .ok (.iastore, 1) := by decide +kernel
theorem dX11_parsesCommand_375 : decode cX11_parsesCommand 375 = .ok (.goto 18, 3) := by decide +kernel
theorem dX11_parsesCommand_378 : decode cX11_parsesCommand 378 = .ok (.aload_n 0, 1) := by decide +kernel
theorem dX11_parsesCommand_379 : decode cX11_parsesCommand 379 = .ok (.iconst 1, 1) := by decide +kernel
theorem dX11_parsesCommand_380 : decode cX11_parsesCommand 380 = .ok (.putfield 190, 3) := by decide +kernel
theorem dX11_parsesCommand_383 : decode cX11_parsesCommand 383 = .ok (.aload_n 0, 1) := by decide +kernel
theorem dX11_parsesCommand_384 : decode cX11_parsesCommand 384 = .ok (.dup, 1) := by decide +kernel
theorem dX11_parsesCommand_385 : decode cX11_parsesCommand 385 = .ok (.getfield 187, 3) := by decide +kernel
theorem dX11_parsesCommand_388 : decode cX11_parsesCommand 388 = .ok (.iconst 1, 1) := by decide +kernel
theorem dX11_parsesCommand_389 : decode cX11_parsesCommand 389 = .ok (.isub, 1) := by decide +kernel
theorem dX11_parsesCommand_390 : decode cX11_parsesCommand 390 = .ok (.putfield 187, 3) := by decide +kernel
theorem dX11_parsesCommand_393 : decode cX11_parsesCommand 393 = .ok (.return_, 1) := by decide +kernel
def f_X11_parsesCommand (x_buffer : (Nat → Int32)) (x_typed : Int32) (x_spot : Int32) (x_isWrong : Int32) (x_parsed : (Nat → Int32)) (p1 : Int32) : Option (Int32 × Int32 × (Nat → Int32)) :=
  q_bd (f_X11_here x_buffer x_typed x_spot) (fun q1 =>
  q_gd (q_in p1 180) (
  q_lt (fun (_ : Unit) =>
  some ((x_spot + 1) - 1, 1, upd x_parsed (p1.toNatClampNeg) q1)) (fun (J378 : Unit → Option (Int32 × Int32 × (Nat → Int32))) =>
  q_br (q1 = 98) (
  q_bd (f_X11_needsThree x_buffer x_typed (x_spot + 1) x_isWrong 101 108 108) (fun q3 =>
  q_bd (f_X11_afterBlank x_buffer x_typed q3.1 q3.2 1 1) (fun q4 =>
  q_gd (q_in (p1 + 1) 180) (
  q_bd (f_X11_afterBlank x_buffer x_typed q4.2.1 q4.2.2 4 4) (fun q6 =>
  q_gd (q_in (p1 + 2) 180) (
  some (q6.2.1, q6.2.2, upd (upd (upd x_parsed (p1.toNatClampNeg) q1) ((p1 + 1).toNatClampNeg) q4.1) ((p1 + 2).toNatClampNeg) q6.1))))))) (
  q_br (q1 = 99) (
  q_bd (f_X11_parsesC x_buffer x_typed (x_spot + 1) x_isWrong (upd x_parsed (p1.toNatClampNeg) q1) p1) (fun q8 =>
  some (q8.1, q8.2.1, q8.2.2))) (
  q_br (q1 = 100) (
  J378 (())) (
  q_br (q1 = 101) (
  q_bd (f_X11_needsThree x_buffer x_typed (x_spot + 1) x_isWrong 110 116 114) (fun q9 =>
  q_bd (f_X11_needs x_buffer x_typed q9.1 q9.2 121) (fun q10 =>
  q_bd (f_X11_afterBlank x_buffer x_typed q10.1 q10.2 1 1) (fun q11 =>
  q_gd (q_in (p1 + 1) 180) (
  q_bd (f_X11_afterBlank x_buffer x_typed q11.2.1 q11.2.2 1 2) (fun q13 =>
  q_gd (q_in (p1 + 2) 180) (
  some (q13.2.1, q13.2.2, upd (upd (upd x_parsed (p1.toNatClampNeg) q1) ((p1 + 1).toNatClampNeg) q11.1) ((p1 + 2).toNatClampNeg) q13.1)))))))) (
  q_br (q1 = 102) (
  q_bd (f_X11_needsThree x_buffer x_typed (x_spot + 1) x_isWrong 101 108 108) (fun q15 =>
  q_bd (f_X11_afterBlank x_buffer x_typed q15.1 q15.2 1 1) (fun q16 =>
  q_gd (q_in (p1 + 1) 180) (
  some (q16.2.1, q16.2.2, upd (upd x_parsed (p1.toNatClampNeg) q1) ((p1 + 1).toNatClampNeg) q16.1))))) (
  q_br (q1 = 103) (
  q_bd (f_X11_needsThree x_buffer x_typed (x_spot + 1) x_isWrong 114 97 122) (fun q18 =>
  q_bd (f_X11_needs x_buffer x_typed q18.1 q18.2 101) (fun q19 =>
  q_bd (f_X11_afterBlank x_buffer x_typed q19.1 q19.2 1 1) (fun q20 =>
  q_gd (q_in (p1 + 1) 180) (
  q_bd (f_X11_afterBlank x_buffer x_typed q20.2.1 q20.2.2 1 2) (fun q22 =>
  q_gd (q_in (p1 + 2) 180) (
  some (q22.2.1, q22.2.2, upd (upd (upd x_parsed (p1.toNatClampNeg) q1) ((p1 + 1).toNatClampNeg) q20.1) ((p1 + 2).toNatClampNeg) q22.1)))))))) (
  q_br (q1 = 104) (
  J378 (())) (
  q_br (q1 = 105) (
  J378 (())) (
  q_br (q1 = 106) (
  J378 (())) (
  q_br (q1 = 107) (
  q_bd (f_X11_parsesKey x_buffer x_typed (x_spot + 1) x_isWrong (upd x_parsed (p1.toNatClampNeg) q1) p1) (fun q24 =>
  some (q24.1, q24.2.1, q24.2.2))) (
  q_br (q1 = 108) (
  J378 (())) (
  q_br (q1 = 109) (
  q_bd (f_X11_needsThree x_buffer x_typed (x_spot + 1) x_isWrong 111 118 101) (fun q25 =>
  q_bd (f_X11_afterBlank x_buffer x_typed q25.1 q25.2 1 2) (fun q26 =>
  q_gd (q_in (p1 + 1) 180) (
  q_bd (f_X11_afterBlank x_buffer x_typed q26.2.1 q26.2.2 1 1) (fun q28 =>
  q_gd (q_in (p1 + 2) 180) (
  some (q28.2.1, q28.2.2, upd (upd (upd x_parsed (p1.toNatClampNeg) q1) ((p1 + 1).toNatClampNeg) q26.1) ((p1 + 2).toNatClampNeg) q28.1))))))) (
  q_br (q1 = 110) (
  J378 (())) (
  q_br (q1 = 111) (
  J378 (())) (
  q_br (q1 = 112) (
  J378 (())) (
  q_br (q1 = 113) (
  J378 (())) (
  q_br (q1 = 114) (
  q_bd (f_X11_needsThree x_buffer x_typed (x_spot + 1) x_isWrong 101 109 111) (fun q30 =>
  q_bd (f_X11_needs x_buffer x_typed q30.1 q30.2 118) (fun q31 =>
  q_bd (f_X11_needs x_buffer x_typed q31.1 q31.2 101) (fun q32 =>
  q_bd (f_X11_afterBlank x_buffer x_typed q32.1 q32.2 1 2) (fun q33 =>
  q_gd (q_in (p1 + 1) 180) (
  some (q33.2.1, q33.2.2, upd (upd x_parsed (p1.toNatClampNeg) q1) ((p1 + 1).toNatClampNeg) q33.1))))))) (
  q_br (q1 = 115) (
  J378 (())) (
  q_br (q1 = 116) (
  q_bd (f_X11_parsesT x_buffer x_typed (x_spot + 1) x_isWrong (upd x_parsed (p1.toNatClampNeg) q1) p1) (fun q35 =>
  some (q35.1, q35.2.1, q35.2.2))) (
  J378 (())))))))))))))))))))))))
theorem hv_X11_parsesCommand : yX11_parsesCommand.cls = RX11 ∧ yX11_parsesCommand.cls ≠ "java/lang/invoke/MethodHandle" ∧ yX11_parsesCommand.cls ≠ "java/lang/invoke/VarHandle" ∧ (parseMethodDescriptor yX11_parsesCommand.desc).map (fun d => d.parameters.length) = some 1 := by decide +kernel
abbrev rm_X11_parsesCommand : Room := { frames := 4, cells := 0, slots := 0, locals := 90 }
set_option maxHeartbeats 4000000 in
set_option maxRecDepth 100000 in
theorem k_X11_parsesCommand (l : Launch) (E : ET) (a : Nat → Nat) (o : Nat) (x : Model_t) (p1 : Int32) (res : Int32 × Int32 × (Nat → Int32)) (hF : f_X11_parsesCommand x.2.2.2.2.2.2.1 x.2.2.2.2.2.2.2.1 x.2.2.2.2.2.2.2.2.2.2.2.2.2.2.2.1 x.2.2.2.2.2.2.2.2.2.2.2.2.2.2.2.2.1 x.2.2.2.2.2.2.2.2.2.2.2.2.2.2.2.2.2 p1 = some res) (sz : Nat) : CtV l yX11_parsesCommand (mws yX11_parsesCommand cX11_parsesCommand 3 none) rm_X11_parsesCommand 0 0 [.ref (a o), .int p1] E (bl_Model E a o x) (bl_Model E a o (x.1, x.2.1, x.2.2.1, x.2.2.2.1, x.2.2.2.2.1, x.2.2.2.2.2.1, x.2.2.2.2.2.2.1, x.2.2.2.2.2.2.2.1, x.2.2.2.2.2.2.2.2.1, x.2.2.2.2.2.2.2.2.2.1, x.2.2.2.2.2.2.2.2.2.2.1, x.2.2.2.2.2.2.2.2.2.2.2.1, x.2.2.2.2.2.2.2.2.2.2.2.2.1, x.2.2.2.2.2.2.2.2.2.2.2.2.2.1, x.2.2.2.2.2.2.2.2.2.2.2.2.2.2.1, res.1, res.2.1, res.2.2)) sz := by
  refine mk_M (by decide +kernel) (Nat.le_of_ble_eq_true rfl) ?_
  intro p e s m below meth c A args Q ls hAe hsz hQ hx hb hr hml hin ha hown hlocks hA hz hzs hst hP hD hS hl
  have hown : s.vm.findClass RX11 = some m.cls := hown
  rw [hAe] at hQ
  subst hsz
  have hP : va_P E.1 vwCl (List.flatten [w_Model E a o x]) s.heap := hP
  have hD : va_D A (List.flatten [w_Model E a o x]) := hD
  have hl : lv_has ls 3 [(0, .ref (a o)), (1, .int p1)] := hl
  generalize hHe : s.heap = H at hP
  have hS : va_S A s.heap H [] := by rw [← hHe]; exact hS
  generalize ([] : List Loc) = locs at hS ⊢
  unfold f_X11_parsesCommand at hF
  refine lv_aload_n hx hb dX11_parsesCommand_0 rfl (lv_at hl 0 rfl) ?_
  obtain ⟨q1, hq1, hF⟩ := q_bdi hF
  refine cl_i (Lc := [w_Model E a o x]) (Lc' := [w_Model E a o x]) (L' := [w_Model E a o x]) (rv := q1) (va_runV (As := []) (rest := []) ⟨hx, hb, hml, hown, ha⟩ (k_X11_here l E a o x q1 hq1 H.size) (cwV 0 ha (gi_V (fun _ h => h) mw2038 mw2040 mw60 mw87 mw2041) rfl rfl rfl hv_X11_here ⟨(Nat.le_of_ble_eq_true rfl), (Nat.le_of_ble_eq_true rfl)⟩) ⟨pre_blind, va_recv hst.k (fr_P hP [0] rfl) (ci := 13) (q0 := 0) rfl rfl, pre_at hP hD hS hz hzs hst [0] (by decide) rfl rfl⟩ rfl rfl hl.1 rfl (lv_room (Nat.le_of_ble_eq_true rfl)) dX11_parsesCommand_1 ⟨(Nat.le_of_ble_eq_true rfl), (Nat.le_of_ble_eq_true rfl)⟩) hP hD hS hA [0] (by decide) rfl rfl rfl rfl (fun H locs hP hD hS => ?_)
  refine lv_istore_n (lv' := [(2, .int q1), (0, .ref (a o)), (1, .int p1)]) hx hb dX11_parsesCommand_4 rfl hl (by decide) rfl (fun ls hl => ?_)
  refine lv_aload_n hx hb dX11_parsesCommand_5 rfl (lv_at hl 1 rfl) ?_
  refine lv_dup hx hb dX11_parsesCommand_6 rfl ?_
  refine va_get (D := E.1) (ci := 13) (v := .int x.2.2.2.2.2.2.2.2.2.2.2.2.2.2.2.1) (C := RX11) (T := TX11) (N := 18) hx hb ha in_X11 hown hst.k hP 0 rfl rfl 15 (by decide) (ha _ mw1651) (fun _ h9 => h9) rfl dX11_parsesCommand_7 ?_
  refine lv_iconst (v := 1) hx hb dX11_parsesCommand_10 (by decide) ?_
  refine lv_iadd hx hb dX11_parsesCommand_11 ?_
  refine va_put (D := E.1) (ci := 13) (v := .int (x.2.2.2.2.2.2.2.2.2.2.2.2.2.2.2.1 + 1)) (ty := .int) (C := RX11) (T := TX11) (N := 18) hx hb ha in_X11 tyX11 tyX11_ok nmX11 hown hst.k hP hD hS 0 rfl rfl 15 (by decide) (ha _ mw1651) (fun _ h9 => h9) rfl (tyX11_ok 15 (by decide)) rfl rfl (Nat.le_of_ble_eq_true rfl) dX11_parsesCommand_12 (fun H locs hP hD hS => ?_)
  have hP : va_P E.1 vwCl (List.flatten [w_Model E a o (x.1, x.2.1, x.2.2.1, x.2.2.2.1, x.2.2.2.2.1, x.2.2.2.2.2.1, x.2.2.2.2.2.2.1, x.2.2.2.2.2.2.2.1, x.2.2.2.2.2.2.2.2.1, x.2.2.2.2.2.2.2.2.2.1, x.2.2.2.2.2.2.2.2.2.2.1, x.2.2.2.2.2.2.2.2.2.2.2.1, x.2.2.2.2.2.2.2.2.2.2.2.2.1, x.2.2.2.2.2.2.2.2.2.2.2.2.2.1, x.2.2.2.2.2.2.2.2.2.2.2.2.2.2.1, x.2.2.2.2.2.2.2.2.2.2.2.2.2.2.2.1 + 1, x.2.2.2.2.2.2.2.2.2.2.2.2.2.2.2.2.1, x.2.2.2.2.2.2.2.2.2.2.2.2.2.2.2.2.2)]) H := hP
  have hD : va_D A (List.flatten [w_Model E a o (x.1, x.2.1, x.2.2.1, x.2.2.2.1, x.2.2.2.2.1, x.2.2.2.2.2.1, x.2.2.2.2.2.2.1, x.2.2.2.2.2.2.2.1, x.2.2.2.2.2.2.2.2.1, x.2.2.2.2.2.2.2.2.2.1, x.2.2.2.2.2.2.2.2.2.2.1, x.2.2.2.2.2.2.2.2.2.2.2.1, x.2.2.2.2.2.2.2.2.2.2.2.2.1, x.2.2.2.2.2.2.2.2.2.2.2.2.2.1, x.2.2.2.2.2.2.2.2.2.2.2.2.2.2.1, x.2.2.2.2.2.2.2.2.2.2.2.2.2.2.2.1 + 1, x.2.2.2.2.2.2.2.2.2.2.2.2.2.2.2.2.1, x.2.2.2.2.2.2.2.2.2.2.2.2.2.2.2.2.2)]) := hD
  refine lv_aload_n hx hb dX11_parsesCommand_15 rfl (lv_at hl 1 rfl) ?_
  refine va_get (D := E.1) (ci := 13) (v := .ref (a (o + 8))) (C := RX11) (T := TX11) (N := 18) hx hb ha in_X11 hown hst.k hP 0 rfl rfl 17 (by decide) (ha _ mw1653) (fun _ h9 => h9) rfl dX11_parsesCommand_16 ?_
  refine lv_iload_n hx hb dX11_parsesCommand_19 rfl (lv_at hl 2 rfl) ?_
  refine lv_iload_n hx hb dX11_parsesCommand_20 rfl (lv_at hl 0 rfl) ?_
  obtain ⟨g2, hF⟩ := q_gdi hF
  refine vi_iast hx hb hst.k hP hD hS 8 0 rfl rfl (k := p1.toNatClampNeg) rfl g2 dX11_parsesCommand_21 (fun H locs hP hD hS => ?_)
  have hP : va_P E.1 vwCl (List.flatten [w_Model E a o (x.1, x.2.1, x.2.2.1, x.2.2.2.1, x.2.2.2.2.1, x.2.2.2.2.2.1, x.2.2.2.2.2.2.1, x.2.2.2.2.2.2.2.1, x.2.2.2.2.2.2.2.2.1, x.2.2.2.2.2.2.2.2.2.1, x.2.2.2.2.2.2.2.2.2.2.1, x.2.2.2.2.2.2.2.2.2.2.2.1, x.2.2.2.2.2.2.2.2.2.2.2.2.1, x.2.2.2.2.2.2.2.2.2.2.2.2.2.1, x.2.2.2.2.2.2.2.2.2.2.2.2.2.2.1, x.2.2.2.2.2.2.2.2.2.2.2.2.2.2.2.1 + 1, x.2.2.2.2.2.2.2.2.2.2.2.2.2.2.2.2.1, upd x.2.2.2.2.2.2.2.2.2.2.2.2.2.2.2.2.2 (p1.toNatClampNeg) q1)]) H := hP
  have hD : va_D A (List.flatten [w_Model E a o (x.1, x.2.1, x.2.2.1, x.2.2.2.1, x.2.2.2.2.1, x.2.2.2.2.2.1, x.2.2.2.2.2.2.1, x.2.2.2.2.2.2.2.1, x.2.2.2.2.2.2.2.2.1, x.2.2.2.2.2.2.2.2.2.1, x.2.2.2.2.2.2.2.2.2.2.1, x.2.2.2.2.2.2.2.2.2.2.2.1, x.2.2.2.2.2.2.2.2.2.2.2.2.1, x.2.2.2.2.2.2.2.2.2.2.2.2.2.1, x.2.2.2.2.2.2.2.2.2.2.2.2.2.2.1, x.2.2.2.2.2.2.2.2.2.2.2.2.2.2.2.1 + 1, x.2.2.2.2.2.2.2.2.2.2.2.2.2.2.2.2.1, upd x.2.2.2.2.2.2.2.2.2.2.2.2.2.2.2.2.2 (p1.toNatClampNeg) q1)]) := hD
  refine lv_iload_n hx hb dX11_parsesCommand_22 rfl (lv_at hl 0 rfl) ?_
  obtain ⟨J378, hJ378, hF⟩ := q_jn hF
  have jJ378 : ∀ (H : Heap) (locs : List Loc) (ls : Array Slot), J378 () = some res → va_P E.1 vwCl (List.flatten [w_Model E a o (x.1, x.2.1, x.2.2.1, x.2.2.2.1, x.2.2.2.2.1, x.2.2.2.2.2.1, x.2.2.2.2.2.2.1, x.2.2.2.2.2.2.2.1, x.2.2.2.2.2.2.2.2.1, x.2.2.2.2.2.2.2.2.2.1, x.2.2.2.2.2.2.2.2.2.2.1, x.2.2.2.2.2.2.2.2.2.2.2.1, x.2.2.2.2.2.2.2.2.2.2.2.2.1, x.2.2.2.2.2.2.2.2.2.2.2.2.2.1, x.2.2.2.2.2.2.2.2.2.2.2.2.2.2.1, x.2.2.2.2.2.2.2.2.2.2.2.2.2.2.2.1 + 1, x.2.2.2.2.2.2.2.2.2.2.2.2.2.2.2.2.1, upd x.2.2.2.2.2.2.2.2.2.2.2.2.2.2.2.2.2 (p1.toNatClampNeg) q1)]) H → va_D A (List.flatten [w_Model E a o (x.1, x.2.1, x.2.2.1, x.2.2.2.1, x.2.2.2.2.1, x.2.2.2.2.2.1, x.2.2.2.2.2.2.1, x.2.2.2.2.2.2.2.1, x.2.2.2.2.2.2.2.2.1, x.2.2.2.2.2.2.2.2.2.1, x.2.2.2.2.2.2.2.2.2.2.1, x.2.2.2.2.2.2.2.2.2.2.2.1, x.2.2.2.2.2.2.2.2.2.2.2.2.1, x.2.2.2.2.2.2.2.2.2.2.2.2.2.1, x.2.2.2.2.2.2.2.2.2.2.2.2.2.2.1, x.2.2.2.2.2.2.2.2.2.2.2.2.2.2.2.1 + 1, x.2.2.2.2.2.2.2.2.2.2.2.2.2.2.2.2.1, upd x.2.2.2.2.2.2.2.2.2.2.2.2.2.2.2.2.2 (p1.toNatClampNeg) q1)]) → va_S A s.heap H locs → lv_has ls 3 [(0, .ref (a o))] → W p l e rm_X11_parsesCommand s m args below meth c H locs 0 0 Q (F0 m 378 ls []) := by
    intro  H locs ls hF hP hD hS hl
    rw [hJ378] at hF
    refine lv_aload_n hx hb dX11_parsesCommand_378 rfl (lv_at hl 0 rfl) ?_
    refine lv_iconst (v := 1) hx hb dX11_parsesCommand_379 (by decide) ?_
    refine va_put (D := E.1) (ci := 13) (v := .int 1) (ty := .boolean) (C := RX11) (T := TX11) (N := 18) hx hb ha in_X11 tyX11 tyX11_ok nmX11 hown hst.k hP hD hS 0 rfl rfl 16 (by decide) (ha _ mw1652) (fun _ h9 => h9) rfl (tyX11_ok 16 (by decide)) (by decide) (by decide) (Nat.le_of_ble_eq_true rfl) dX11_parsesCommand_380 (fun H locs hP hD hS => ?_)
    have hP : va_P E.1 vwCl (List.flatten [w_Model E a o (x.1, x.2.1, x.2.2.1, x.2.2.2.1, x.2.2.2.2.1, x.2.2.2.2.2.1, x.2.2.2.2.2.2.1, x.2.2.2.2.2.2.2.1, x.2.2.2.2.2.2.2.2.1, x.2.2.2.2.2.2.2.2.2.1, x.2.2.2.2.2.2.2.2.2.2.1, x.2.2.2.2.2.2.2.2.2.2.2.1, x.2.2.2.2.2.2.2.2.2.2.2.2.1, x.2.2.2.2.2.2.2.2.2.2.2.2.2.1, x.2.2.2.2.2.2.2.2.2.2.2.2.2.2.1, x.2.2.2.2.2.2.2.2.2.2.2.2.2.2.2.1 + 1, 1, upd x.2.2.2.2.2.2.2.2.2.2.2.2.2.2.2.2.2 (p1.toNatClampNeg) q1)]) H := hP
    have hD : va_D A (List.flatten [w_Model E a o (x.1, x.2.1, x.2.2.1, x.2.2.2.1, x.2.2.2.2.1, x.2.2.2.2.2.1, x.2.2.2.2.2.2.1, x.2.2.2.2.2.2.2.1, x.2.2.2.2.2.2.2.2.1, x.2.2.2.2.2.2.2.2.2.1, x.2.2.2.2.2.2.2.2.2.2.1, x.2.2.2.2.2.2.2.2.2.2.2.1, x.2.2.2.2.2.2.2.2.2.2.2.2.1, x.2.2.2.2.2.2.2.2.2.2.2.2.2.1, x.2.2.2.2.2.2.2.2.2.2.2.2.2.2.1, x.2.2.2.2.2.2.2.2.2.2.2.2.2.2.2.1 + 1, 1, upd x.2.2.2.2.2.2.2.2.2.2.2.2.2.2.2.2.2 (p1.toNatClampNeg) q1)]) := hD
    refine lv_aload_n hx hb dX11_parsesCommand_383 rfl (lv_at hl 0 rfl) ?_
    refine lv_dup hx hb dX11_parsesCommand_384 rfl ?_
    refine va_get (D := E.1) (ci := 13) (v := .int (x.2.2.2.2.2.2.2.2.2.2.2.2.2.2.2.1 + 1)) (C := RX11) (T := TX11) (N := 18) hx hb ha in_X11 hown hst.k hP 0 rfl rfl 15 (by decide) (ha _ mw1651) (fun _ h9 => h9) rfl dX11_parsesCommand_385 ?_
    refine lv_iconst (v := 1) hx hb dX11_parsesCommand_388 (by decide) ?_
    refine lv_isub hx hb dX11_parsesCommand_389 ?_
    refine va_put (D := E.1) (ci := 13) (v := .int ((x.2.2.2.2.2.2.2.2.2.2.2.2.2.2.2.1 + 1) - 1)) (ty := .int) (C := RX11) (T := TX11) (N := 18) hx hb ha in_X11 tyX11 tyX11_ok nmX11 hown hst.k hP hD hS 0 rfl rfl 15 (by decide) (ha _ mw1651) (fun _ h9 => h9) rfl (tyX11_ok 15 (by decide)) rfl rfl (Nat.le_of_ble_eq_true rfl) dX11_parsesCommand_390 (fun H locs hP hD hS => ?_)
    have hP : va_P E.1 vwCl (List.flatten [w_Model E a o (x.1, x.2.1, x.2.2.1, x.2.2.2.1, x.2.2.2.2.1, x.2.2.2.2.2.1, x.2.2.2.2.2.2.1, x.2.2.2.2.2.2.2.1, x.2.2.2.2.2.2.2.2.1, x.2.2.2.2.2.2.2.2.2.1, x.2.2.2.2.2.2.2.2.2.2.1, x.2.2.2.2.2.2.2.2.2.2.2.1, x.2.2.2.2.2.2.2.2.2.2.2.2.1, x.2.2.2.2.2.2.2.2.2.2.2.2.2.1, x.2.2.2.2.2.2.2.2.2.2.2.2.2.2.1, (x.2.2.2.2.2.2.2.2.2.2.2.2.2.2.2.1 + 1) - 1, 1, upd x.2.2.2.2.2.2.2.2.2.2.2.2.2.2.2.2.2 (p1.toNatClampNeg) q1)]) H := hP
    have hD : va_D A (List.flatten [w_Model E a o (x.1, x.2.1, x.2.2.1, x.2.2.2.1, x.2.2.2.2.1, x.2.2.2.2.2.1, x.2.2.2.2.2.2.1, x.2.2.2.2.2.2.2.1, x.2.2.2.2.2.2.2.2.1, x.2.2.2.2.2.2.2.2.2.1, x.2.2.2.2.2.2.2.2.2.2.1, x.2.2.2.2.2.2.2.2.2.2.2.1, x.2.2.2.2.2.2.2.2.2.2.2.2.1, x.2.2.2.2.2.2.2.2.2.2.2.2.2.1, x.2.2.2.2.2.2.2.2.2.2.2.2.2.2.1, (x.2.2.2.2.2.2.2.2.2.2.2.2.2.2.2.1 + 1) - 1, 1, upd x.2.2.2.2.2.2.2.2.2.2.2.2.2.2.2.2.2 (p1.toNatClampNeg) q1)]) := hD
    obtain rfl := Option.some.inj hF
    exact en_v hQ (Nat.le_of_ble_eq_true rfl) (Nat.le_of_ble_eq_true rfl) hx hb hr hlocks hP hD hS dX11_parsesCommand_393
  by_cases w23_0 : q1 = 98
  · have hF := q_brp w23_0 hF
    refine lv_tableIn (off := 89) (tgt := 112) hx hb dX11_parsesCommand_23 (by rw [w23_0]; decide) (by rw [w23_0]; decide) (by rw [w23_0]; decide) (by decide) ?_
    refine lv_aload_n hx hb dX11_parsesCommand_112 rfl (lv_at hl 1 rfl) ?_
    refine lv_bipush (v := 101) hx hb dX11_parsesCommand_113 (by decide) ?_
    refine lv_bipush (v := 108) hx hb dX11_parsesCommand_115 (by decide) ?_
    refine lv_bipush (v := 108) hx hb dX11_parsesCommand_117 (by decide) ?_
    obtain ⟨q3, hq3, hF⟩ := q_bdi hF
    refine cl_v (Lc := [w_Model E a o (x.1, x.2.1, x.2.2.1, x.2.2.2.1, x.2.2.2.2.1, x.2.2.2.2.2.1, x.2.2.2.2.2.2.1, x.2.2.2.2.2.2.2.1, x.2.2.2.2.2.2.2.2.1, x.2.2.2.2.2.2.2.2.2.1, x.2.2.2.2.2.2.2.2.2.2.1, x.2.2.2.2.2.2.2.2.2.2.2.1, x.2.2.2.2.2.2.2.2.2.2.2.2.1, x.2.2.2.2.2.2.2.2.2.2.2.2.2.1, x.2.2.2.2.2.2.2.2.2.2.2.2.2.2.1, x.2.2.2.2.2.2.2.2.2.2.2.2.2.2.2.1 + 1, x.2.2.2.2.2.2.2.2.2.2.2.2.2.2.2.2.1, upd x.2.2.2.2.2.2.2.2.2.2.2.2.2.2.2.2.2 (p1.toNatClampNeg) q1)]) (Lc' := [w_Model E a o (x.1, x.2.1, x.2.2.1, x.2.2.2.1, x.2.2.2.2.1, x.2.2.2.2.2.1, x.2.2.2.2.2.2.1, x.2.2.2.2.2.2.2.1, x.2.2.2.2.2.2.2.2.1, x.2.2.2.2.2.2.2.2.2.1, x.2.2.2.2.2.2.2.2.2.2.1, x.2.2.2.2.2.2.2.2.2.2.2.1, x.2.2.2.2.2.2.2.2.2.2.2.2.1, x.2.2.2.2.2.2.2.2.2.2.2.2.2.1, x.2.2.2.2.2.2.2.2.2.2.2.2.2.2.1, q3.1, q3.2, upd x.2.2.2.2.2.2.2.2.2.2.2.2.2.2.2.2.2 (p1.toNatClampNeg) q1)]) (L' := [w_Model E a o (x.1, x.2.1, x.2.2.1, x.2.2.2.1, x.2.2.2.2.1, x.2.2.2.2.2.1, x.2.2.2.2.2.2.1, x.2.2.2.2.2.2.2.1, x.2.2.2.2.2.2.2.2.1, x.2.2.2.2.2.2.2.2.2.1, x.2.2.2.2.2.2.2.2.2.2.1, x.2.2.2.2.2.2.2.2.2.2.2.1, x.2.2.2.2.2.2.2.2.2.2.2.2.1, x.2.2.2.2.2.2.2.2.2.2.2.2.2.1, x.2.2.2.2.2.2.2.2.2.2.2.2.2.2.1, q3.1, q3.2, upd x.2.2.2.2.2.2.2.2.2.2.2.2.2.2.2.2.2 (p1.toNatClampNeg) q1)]) (va_runV (As := [.int 101, .int 108, .int 108]) (rest := []) ⟨hx, hb, hml, hown, ha⟩ (k_X11_needsThree l E a o (x.1, x.2.1, x.2.2.1, x.2.2.2.1, x.2.2.2.2.1, x.2.2.2.2.2.1, x.2.2.2.2.2.2.1, x.2.2.2.2.2.2.2.1, x.2.2.2.2.2.2.2.2.1, x.2.2.2.2.2.2.2.2.2.1, x.2.2.2.2.2.2.2.2.2.2.1, x.2.2.2.2.2.2.2.2.2.2.2.1, x.2.2.2.2.2.2.2.2.2.2.2.2.1, x.2.2.2.2.2.2.2.2.2.2.2.2.2.1, x.2.2.2.2.2.2.2.2.2.2.2.2.2.2.1, x.2.2.2.2.2.2.2.2.2.2.2.2.2.2.2.1 + 1, x.2.2.2.2.2.2.2.2.2.2.2.2.2.2.2.2.1, upd x.2.2.2.2.2.2.2.2.2.2.2.2.2.2.2.2.2 (p1.toNatClampNeg) q1) 101 108 108 q3 hq3 H.size) (cwV 3 ha (gi_V (fun _ h => h) mw2042 mw2044 mw61 mw87 mw2045) rfl rfl rfl hv_X11_needsThree ⟨(Nat.le_of_ble_eq_true rfl), (Nat.le_of_ble_eq_true rfl)⟩) ⟨pre_blind, va_recv hst.k (fr_P hP [0] rfl) (ci := 13) (q0 := 0) rfl rfl, pre_at hP hD hS hz hzs hst [0] (by decide) rfl rfl⟩ rfl rfl hl.1 rfl (lv_room (Nat.le_of_ble_eq_true rfl)) dX11_parsesCommand_119 ⟨(Nat.le_of_ble_eq_true rfl), (Nat.le_of_ble_eq_true rfl)⟩) hP hD hS hA [0] (by decide) rfl rfl rfl rfl (fun H locs hP hD hS => ?_)
    refine lv_aload_n hx hb dX11_parsesCommand_122 rfl (lv_at hl 1 rfl) ?_
    refine va_get (D := E.1) (ci := 13) (v := .ref (a (o + 8))) (C := RX11) (T := TX11) (N := 18) hx hb ha in_X11 hown hst.k hP 0 rfl rfl 17 (by decide) (ha _ mw1653) (fun _ h9 => h9) rfl dX11_parsesCommand_123 ?_
    refine lv_iload_n hx hb dX11_parsesCommand_126 rfl (lv_at hl 2 rfl) ?_
    refine lv_iconst (v := 1) hx hb dX11_parsesCommand_127 (by decide) ?_
    refine lv_iadd hx hb dX11_parsesCommand_128 ?_
    refine lv_aload_n hx hb dX11_parsesCommand_129 rfl (lv_at hl 1 rfl) ?_
    refine lv_iconst (v := 1) hx hb dX11_parsesCommand_130 (by decide) ?_
    refine lv_iconst (v := 1) hx hb dX11_parsesCommand_131 (by decide) ?_
    obtain ⟨q4, hq4, hF⟩ := q_bdi hF
    refine cl_i (Lc := [w_Model E a o (x.1, x.2.1, x.2.2.1, x.2.2.2.1, x.2.2.2.2.1, x.2.2.2.2.2.1, x.2.2.2.2.2.2.1, x.2.2.2.2.2.2.2.1, x.2.2.2.2.2.2.2.2.1, x.2.2.2.2.2.2.2.2.2.1, x.2.2.2.2.2.2.2.2.2.2.1, x.2.2.2.2.2.2.2.2.2.2.2.1, x.2.2.2.2.2.2.2.2.2.2.2.2.1, x.2.2.2.2.2.2.2.2.2.2.2.2.2.1, x.2.2.2.2.2.2.2.2.2.2.2.2.2.2.1, q3.1, q3.2, upd x.2.2.2.2.2.2.2.2.2.2.2.2.2.2.2.2.2 (p1.toNatClampNeg) q1)]) (Lc' := [w_Model E a o (x.1, x.2.1, x.2.2.1, x.2.2.2.1, x.2.2.2.2.1, x.2.2.2.2.2.1, x.2.2.2.2.2.2.1, x.2.2.2.2.2.2.2.1, x.2.2.2.2.2.2.2.2.1, x.2.2.2.2.2.2.2.2.2.1, x.2.2.2.2.2.2.2.2.2.2.1, x.2.2.2.2.2.2.2.2.2.2.2.1, x.2.2.2.2.2.2.2.2.2.2.2.2.1, x.2.2.2.2.2.2.2.2.2.2.2.2.2.1, x.2.2.2.2.2.2.2.2.2.2.2.2.2.2.1, q4.2.1, q4.2.2, upd x.2.2.2.2.2.2.2.2.2.2.2.2.2.2.2.2.2 (p1.toNatClampNeg) q1)]) (L' := [w_Model E a o (x.1, x.2.1, x.2.2.1, x.2.2.2.1, x.2.2.2.2.1, x.2.2.2.2.2.1, x.2.2.2.2.2.2.1, x.2.2.2.2.2.2.2.1, x.2.2.2.2.2.2.2.2.1, x.2.2.2.2.2.2.2.2.2.1, x.2.2.2.2.2.2.2.2.2.2.1, x.2.2.2.2.2.2.2.2.2.2.2.1, x.2.2.2.2.2.2.2.2.2.2.2.2.1, x.2.2.2.2.2.2.2.2.2.2.2.2.2.1, x.2.2.2.2.2.2.2.2.2.2.2.2.2.2.1, q4.2.1, q4.2.2, upd x.2.2.2.2.2.2.2.2.2.2.2.2.2.2.2.2.2 (p1.toNatClampNeg) q1)]) (rv := q4.1) (va_runV (As := [.int 1, .int 1]) (rest := [.int (p1 + 1), .ref (a (o + 8))]) ⟨hx, hb, hml, hown, ha⟩ (k_X11_afterBlank l E a o (x.1, x.2.1, x.2.2.1, x.2.2.2.1, x.2.2.2.2.1, x.2.2.2.2.2.1, x.2.2.2.2.2.2.1, x.2.2.2.2.2.2.2.1, x.2.2.2.2.2.2.2.2.1, x.2.2.2.2.2.2.2.2.2.1, x.2.2.2.2.2.2.2.2.2.2.1, x.2.2.2.2.2.2.2.2.2.2.2.1, x.2.2.2.2.2.2.2.2.2.2.2.2.1, x.2.2.2.2.2.2.2.2.2.2.2.2.2.1, x.2.2.2.2.2.2.2.2.2.2.2.2.2.2.1, q3.1, q3.2, upd x.2.2.2.2.2.2.2.2.2.2.2.2.2.2.2.2.2 (p1.toNatClampNeg) q1) 1 1 q4 hq4 H.size) (cwV 2 ha (gi_V (fun _ h => h) mw2050 mw2052 mw63 mw87 mw2053) rfl rfl rfl hv_X11_afterBlank ⟨(Nat.le_of_ble_eq_true rfl), (Nat.le_of_ble_eq_true rfl)⟩) ⟨pre_blind, va_recv hst.k (fr_P hP [0] rfl) (ci := 13) (q0 := 0) rfl rfl, pre_at hP hD hS hz hzs hst [0] (by decide) rfl rfl⟩ rfl rfl hl.1 rfl (lv_room (Nat.le_of_ble_eq_true rfl)) dX11_parsesCommand_132 ⟨(Nat.le_of_ble_eq_true rfl), (Nat.le_of_ble_eq_true rfl)⟩) hP hD hS hA [0] (by decide) rfl rfl rfl rfl (fun H locs hP hD hS => ?_)
    obtain ⟨g5, hF⟩ := q_gdi hF
    refine vi_iast hx hb hst.k hP hD hS 8 0 rfl rfl (k := (p1 + 1).toNatClampNeg) rfl g5 dX11_parsesCommand_135 (fun H locs hP hD hS => ?_)
    have hP : va_P E.1 vwCl (List.flatten [w_Model E a o (x.1, x.2.1, x.2.2.1, x.2.2.2.1, x.2.2.2.2.1, x.2.2.2.2.2.1, x.2.2.2.2.2.2.1, x.2.2.2.2.2.2.2.1, x.2.2.2.2.2.2.2.2.1, x.2.2.2.2.2.2.2.2.2.1, x.2.2.2.2.2.2.2.2.2.2.1, x.2.2.2.2.2.2.2.2.2.2.2.1, x.2.2.2.2.2.2.2.2.2.2.2.2.1, x.2.2.2.2.2.2.2.2.2.2.2.2.2.1, x.2.2.2.2.2.2.2.2.2.2.2.2.2.2.1, q4.2.1, q4.2.2, upd (upd x.2.2.2.2.2.2.2.2.2.2.2.2.2.2.2.2.2 (p1.toNatClampNeg) q1) ((p1 + 1).toNatClampNeg) q4.1)]) H := hP
    have hD : va_D A (List.flatten [w_Model E a o (x.1, x.2.1, x.2.2.1, x.2.2.2.1, x.2.2.2.2.1, x.2.2.2.2.2.1, x.2.2.2.2.2.2.1, x.2.2.2.2.2.2.2.1, x.2.2.2.2.2.2.2.2.1, x.2.2.2.2.2.2.2.2.2.1, x.2.2.2.2.2.2.2.2.2.2.1, x.2.2.2.2.2.2.2.2.2.2.2.1, x.2.2.2.2.2.2.2.2.2.2.2.2.1, x.2.2.2.2.2.2.2.2.2.2.2.2.2.1, x.2.2.2.2.2.2.2.2.2.2.2.2.2.2.1, q4.2.1, q4.2.2, upd (upd x.2.2.2.2.2.2.2.2.2.2.2.2.2.2.2.2.2 (p1.toNatClampNeg) q1) ((p1 + 1).toNatClampNeg) q4.1)]) := hD
    refine lv_aload_n hx hb dX11_parsesCommand_136 rfl (lv_at hl 1 rfl) ?_
    refine va_get (D := E.1) (ci := 13) (v := .ref (a (o + 8))) (C := RX11) (T := TX11) (N := 18) hx hb ha in_X11 hown hst.k hP 0 rfl rfl 17 (by decide) (ha _ mw1653) (fun _ h9 => h9) rfl dX11_parsesCommand_137 ?_
    refine lv_iload_n hx hb dX11_parsesCommand_140 rfl (lv_at hl 2 rfl) ?_
    refine lv_iconst (v := 2) hx hb dX11_parsesCommand_141 (by decide) ?_
    refine lv_iadd hx hb dX11_parsesCommand_142 ?_
    refine lv_aload_n hx hb dX11_parsesCommand_143 rfl (lv_at hl 1 rfl) ?_
    refine lv_iconst (v := 4) hx hb dX11_parsesCommand_144 (by decide) ?_
    refine lv_iconst (v := 4) hx hb dX11_parsesCommand_145 (by decide) ?_
    obtain ⟨q6, hq6, hF⟩ := q_bdi hF
    refine cl_i (Lc := [w_Model E a o (x.1, x.2.1, x.2.2.1, x.2.2.2.1, x.2.2.2.2.1, x.2.2.2.2.2.1, x.2.2.2.2.2.2.1, x.2.2.2.2.2.2.2.1, x.2.2.2.2.2.2.2.2.1, x.2.2.2.2.2.2.2.2.2.1, x.2.2.2.2.2.2.2.2.2.2.1, x.2.2.2.2.2.2.2.2.2.2.2.1, x.2.2.2.2.2.2.2.2.2.2.2.2.1, x.2.2.2.2.2.2.2.2.2.2.2.2.2.1, x.2.2.2.2.2.2.2.2.2.2.2.2.2.2.1, q4.2.1, q4.2.2, upd (upd x.2.2.2.2.2.2.2.2.2.2.2.2.2.2.2.2.2 (p1.toNatClampNeg) q1) ((p1 + 1).toNatClampNeg) q4.1)]) (Lc' := [w_Model E a o (x.1, x.2.1, x.2.2.1, x.2.2.2.1, x.2.2.2.2.1, x.2.2.2.2.2.1, x.2.2.2.2.2.2.1, x.2.2.2.2.2.2.2.1, x.2.2.2.2.2.2.2.2.1, x.2.2.2.2.2.2.2.2.2.1, x.2.2.2.2.2.2.2.2.2.2.1, x.2.2.2.2.2.2.2.2.2.2.2.1, x.2.2.2.2.2.2.2.2.2.2.2.2.1, x.2.2.2.2.2.2.2.2.2.2.2.2.2.1, x.2.2.2.2.2.2.2.2.2.2.2.2.2.2.1, q6.2.1, q6.2.2, upd (upd x.2.2.2.2.2.2.2.2.2.2.2.2.2.2.2.2.2 (p1.toNatClampNeg) q1) ((p1 + 1).toNatClampNeg) q4.1)]) (L' := [w_Model E a o (x.1, x.2.1, x.2.2.1, x.2.2.2.1, x.2.2.2.2.1, x.2.2.2.2.2.1, x.2.2.2.2.2.2.1, x.2.2.2.2.2.2.2.1, x.2.2.2.2.2.2.2.2.1, x.2.2.2.2.2.2.2.2.2.1, x.2.2.2.2.2.2.2.2.2.2.1, x.2.2.2.2.2.2.2.2.2.2.2.1, x.2.2.2.2.2.2.2.2.2.2.2.2.1, x.2.2.2.2.2.2.2.2.2.2.2.2.2.1, x.2.2.2.2.2.2.2.2.2.2.2.2.2.2.1, q6.2.1, q6.2.2, upd (upd x.2.2.2.2.2.2.2.2.2.2.2.2.2.2.2.2.2 (p1.toNatClampNeg) q1) ((p1 + 1).toNatClampNeg) q4.1)]) (rv := q6.1) (va_runV (As := [.int 4, .int 4]) (rest := [.int (p1 + 2), .ref (a (o + 8))]) ⟨hx, hb, hml, hown, ha⟩ (k_X11_afterBlank l E a o (x.1, x.2.1, x.2.2.1, x.2.2.2.1, x.2.2.2.2.1, x.2.2.2.2.2.1, x.2.2.2.2.2.2.1, x.2.2.2.2.2.2.2.1, x.2.2.2.2.2.2.2.2.1, x.2.2.2.2.2.2.2.2.2.1, x.2.2.2.2.2.2.2.2.2.2.1, x.2.2.2.2.2.2.2.2.2.2.2.1, x.2.2.2.2.2.2.2.2.2.2.2.2.1, x.2.2.2.2.2.2.2.2.2.2.2.2.2.1, x.2.2.2.2.2.2.2.2.2.2.2.2.2.2.1, q4.2.1, q4.2.2, upd (upd x.2.2.2.2.2.2.2.2.2.2.2.2.2.2.2.2.2 (p1.toNatClampNeg) q1) ((p1 + 1).toNatClampNeg) q4.1) 4 4 q6 hq6 H.size) (cwV 2 ha (gi_V (fun _ h => h) mw2050 mw2052 mw63 mw87 mw2053) rfl rfl rfl hv_X11_afterBlank ⟨(Nat.le_of_ble_eq_true rfl), (Nat.le_of_ble_eq_true rfl)⟩) ⟨pre_blind, va_recv hst.k (fr_P hP [0] rfl) (ci := 13) (q0 := 0) rfl rfl, pre_at hP hD hS hz hzs hst [0] (by decide) rfl rfl⟩ rfl rfl hl.1 rfl (lv_room (Nat.le_of_ble_eq_true rfl)) dX11_parsesCommand_146 ⟨(Nat.le_of_ble_eq_true rfl), (Nat.le_of_ble_eq_true rfl)⟩) hP hD hS hA [0] (by decide) rfl rfl rfl rfl (fun H locs hP hD hS => ?_)
    obtain ⟨g7, hF⟩ := q_gdi hF
    refine vi_iast hx hb hst.k hP hD hS 8 0 rfl rfl (k := (p1 + 2).toNatClampNeg) rfl g7 dX11_parsesCommand_149 (fun H locs hP hD hS => ?_)
    have hP : va_P E.1 vwCl (List.flatten [w_Model E a o (x.1, x.2.1, x.2.2.1, x.2.2.2.1, x.2.2.2.2.1, x.2.2.2.2.2.1, x.2.2.2.2.2.2.1, x.2.2.2.2.2.2.2.1, x.2.2.2.2.2.2.2.2.1, x.2.2.2.2.2.2.2.2.2.1, x.2.2.2.2.2.2.2.2.2.2.1, x.2.2.2.2.2.2.2.2.2.2.2.1, x.2.2.2.2.2.2.2.2.2.2.2.2.1, x.2.2.2.2.2.2.2.2.2.2.2.2.2.1, x.2.2.2.2.2.2.2.2.2.2.2.2.2.2.1, q6.2.1, q6.2.2, upd (upd (upd x.2.2.2.2.2.2.2.2.2.2.2.2.2.2.2.2.2 (p1.toNatClampNeg) q1) ((p1 + 1).toNatClampNeg) q4.1) ((p1 + 2).toNatClampNeg) q6.1)]) H := hP
    have hD : va_D A (List.flatten [w_Model E a o (x.1, x.2.1, x.2.2.1, x.2.2.2.1, x.2.2.2.2.1, x.2.2.2.2.2.1, x.2.2.2.2.2.2.1, x.2.2.2.2.2.2.2.1, x.2.2.2.2.2.2.2.2.1, x.2.2.2.2.2.2.2.2.2.1, x.2.2.2.2.2.2.2.2.2.2.1, x.2.2.2.2.2.2.2.2.2.2.2.1, x.2.2.2.2.2.2.2.2.2.2.2.2.1, x.2.2.2.2.2.2.2.2.2.2.2.2.2.1, x.2.2.2.2.2.2.2.2.2.2.2.2.2.2.1, q6.2.1, q6.2.2, upd (upd (upd x.2.2.2.2.2.2.2.2.2.2.2.2.2.2.2.2.2 (p1.toNatClampNeg) q1) ((p1 + 1).toNatClampNeg) q4.1) ((p1 + 2).toNatClampNeg) q6.1)]) := hD
    refine lv_goto (tgt := 393) hx hb dX11_parsesCommand_150 (by decide) ?_
    obtain rfl := Option.some.inj hF
    exact en_v hQ (Nat.le_of_ble_eq_true rfl) (Nat.le_of_ble_eq_true rfl) hx hb hr hlocks hP hD hS dX11_parsesCommand_393
  have hF := q_brn w23_0 hF
  by_cases w23_1 : q1 = 99
  · have hF := q_brp w23_1 hF
    refine lv_tableIn (off := 226) (tgt := 249) hx hb dX11_parsesCommand_23 (by rw [w23_1]; decide) (by rw [w23_1]; decide) (by rw [w23_1]; decide) (by decide) ?_
    refine lv_aload_n hx hb dX11_parsesCommand_249 rfl (lv_at hl 1 rfl) ?_
    refine lv_iload_n hx hb dX11_parsesCommand_250 rfl (lv_at hl 2 rfl) ?_
    obtain ⟨q8, hq8, hF⟩ := q_bdi hF
    refine cl_v (Lc := [w_Model E a o (x.1, x.2.1, x.2.2.1, x.2.2.2.1, x.2.2.2.2.1, x.2.2.2.2.2.1, x.2.2.2.2.2.2.1, x.2.2.2.2.2.2.2.1, x.2.2.2.2.2.2.2.2.1, x.2.2.2.2.2.2.2.2.2.1, x.2.2.2.2.2.2.2.2.2.2.1, x.2.2.2.2.2.2.2.2.2.2.2.1, x.2.2.2.2.2.2.2.2.2.2.2.2.1, x.2.2.2.2.2.2.2.2.2.2.2.2.2.1, x.2.2.2.2.2.2.2.2.2.2.2.2.2.2.1, x.2.2.2.2.2.2.2.2.2.2.2.2.2.2.2.1 + 1, x.2.2.2.2.2.2.2.2.2.2.2.2.2.2.2.2.1, upd x.2.2.2.2.2.2.2.2.2.2.2.2.2.2.2.2.2 (p1.toNatClampNeg) q1)]) (Lc' := [w_Model E a o (x.1, x.2.1, x.2.2.1, x.2.2.2.1, x.2.2.2.2.1, x.2.2.2.2.2.1, x.2.2.2.2.2.2.1, x.2.2.2.2.2.2.2.1, x.2.2.2.2.2.2.2.2.1, x.2.2.2.2.2.2.2.2.2.1, x.2.2.2.2.2.2.2.2.2.2.1, x.2.2.2.2.2.2.2.2.2.2.2.1, x.2.2.2.2.2.2.2.2.2.2.2.2.1, x.2.2.2.2.2.2.2.2.2.2.2.2.2.1, x.2.2.2.2.2.2.2.2.2.2.2.2.2.2.1, q8.1, q8.2.1, q8.2.2)]) (L' := [w_Model E a o (x.1, x.2.1, x.2.2.1, x.2.2.2.1, x.2.2.2.2.1, x.2.2.2.2.2.1, x.2.2.2.2.2.2.1, x.2.2.2.2.2.2.2.1, x.2.2.2.2.2.2.2.2.1, x.2.2.2.2.2.2.2.2.2.1, x.2.2.2.2.2.2.2.2.2.2.1, x.2.2.2.2.2.2.2.2.2.2.2.1, x.2.2.2.2.2.2.2.2.2.2.2.2.1, x.2.2.2.2.2.2.2.2.2.2.2.2.2.1, x.2.2.2.2.2.2.2.2.2.2.2.2.2.2.1, q8.1, q8.2.1, q8.2.2)]) (va_runV (As := [.int p1]) (rest := []) ⟨hx, hb, hml, hown, ha⟩ (k_X11_parsesC l E a o (x.1, x.2.1, x.2.2.1, x.2.2.2.1, x.2.2.2.2.1, x.2.2.2.2.2.1, x.2.2.2.2.2.2.1, x.2.2.2.2.2.2.2.1, x.2.2.2.2.2.2.2.2.1, x.2.2.2.2.2.2.2.2.2.1, x.2.2.2.2.2.2.2.2.2.2.1, x.2.2.2.2.2.2.2.2.2.2.2.1, x.2.2.2.2.2.2.2.2.2.2.2.2.1, x.2.2.2.2.2.2.2.2.2.2.2.2.2.1, x.2.2.2.2.2.2.2.2.2.2.2.2.2.2.1, x.2.2.2.2.2.2.2.2.2.2.2.2.2.2.2.1 + 1, x.2.2.2.2.2.2.2.2.2.2.2.2.2.2.2.2.1, upd x.2.2.2.2.2.2.2.2.2.2.2.2.2.2.2.2.2 (p1.toNatClampNeg) q1) p1 q8 hq8 H.size) (cwV 1 ha (gi_V (fun _ h => h) mw2070 mw2072 mw68 mw87 mw2073) rfl rfl rfl hv_X11_parsesC ⟨(Nat.le_of_ble_eq_true rfl), (Nat.le_of_ble_eq_true rfl)⟩) ⟨pre_blind, va_recv hst.k (fr_P hP [0] rfl) (ci := 13) (q0 := 0) rfl rfl, pre_at hP hD hS hz hzs hst [0] (by decide) rfl rfl⟩ rfl rfl hl.1 rfl (lv_room (Nat.le_of_ble_eq_true rfl)) dX11_parsesCommand_251 ⟨(Nat.le_of_ble_eq_true rfl), (Nat.le_of_ble_eq_true rfl)⟩) hP hD hS hA [0] (by decide) rfl rfl rfl rfl (fun H locs hP hD hS => ?_)
    refine lv_goto (tgt := 393) hx hb dX11_parsesCommand_254 (by decide) ?_
    obtain rfl := Option.some.inj hF
    exact en_v hQ (Nat.le_of_ble_eq_true rfl) (Nat.le_of_ble_eq_true rfl) hx hb hr hlocks hP hD hS dX11_parsesCommand_393
  have hF := q_brn w23_1 hF
  by_cases w23_2 : q1 = 100
  · have hF := q_brp w23_2 hF
    refine lv_tableIn (off := 355) (tgt := 378) hx hb dX11_parsesCommand_23 (by rw [w23_2]; decide) (by rw [w23_2]; decide) (by rw [w23_2]; decide) (by decide) ?_
    exact jJ378 H locs ls hF hP hD hS (lv_sub hl [1] rfl)
  have hF := q_brn w23_2 hF
  by_cases w23_3 : q1 = 101
  · have hF := q_brp w23_3 hF
    refine lv_tableIn (off := 234) (tgt := 257) hx hb dX11_parsesCommand_23 (by rw [w23_3]; decide) (by rw [w23_3]; decide) (by rw [w23_3]; decide) (by decide) ?_
    refine lv_aload_n hx hb dX11_parsesCommand_257 rfl (lv_at hl 1 rfl) ?_
    refine lv_bipush (v := 110) hx hb dX11_parsesCommand_258 (by decide) ?_
    refine lv_bipush (v := 116) hx hb dX11_parsesCommand_260 (by decide) ?_
    refine lv_bipush (v := 114) hx hb dX11_parsesCommand_262 (by decide) ?_
    obtain ⟨q9, hq9, hF⟩ := q_bdi hF
    refine cl_v (Lc := [w_Model E a o (x.1, x.2.1, x.2.2.1, x.2.2.2.1, x.2.2.2.2.1, x.2.2.2.2.2.1, x.2.2.2.2.2.2.1, x.2.2.2.2.2.2.2.1, x.2.2.2.2.2.2.2.2.1, x.2.2.2.2.2.2.2.2.2.1, x.2.2.2.2.2.2.2.2.2.2.1, x.2.2.2.2.2.2.2.2.2.2.2.1, x.2.2.2.2.2.2.2.2.2.2.2.2.1, x.2.2.2.2.2.2.2.2.2.2.2.2.2.1, x.2.2.2.2.2.2.2.2.2.2.2.2.2.2.1, x.2.2.2.2.2.2.2.2.2.2.2.2.2.2.2.1 + 1, x.2.2.2.2.2.2.2.2.2.2.2.2.2.2.2.2.1, upd x.2.2.2.2.2.2.2.2.2.2.2.2.2.2.2.2.2 (p1.toNatClampNeg) q1)]) (Lc' := [w_Model E a o (x.1, x.2.1, x.2.2.1, x.2.2.2.1, x.2.2.2.2.1, x.2.2.2.2.2.1, x.2.2.2.2.2.2.1, x.2.2.2.2.2.2.2.1, x.2.2.2.2.2.2.2.2.1, x.2.2.2.2.2.2.2.2.2.1, x.2.2.2.2.2.2.2.2.2.2.1, x.2.2.2.2.2.2.2.2.2.2.2.1, x.2.2.2.2.2.2.2.2.2.2.2.2.1, x.2.2.2.2.2.2.2.2.2.2.2.2.2.1, x.2.2.2.2.2.2.2.2.2.2.2.2.2.2.1, q9.1, q9.2, upd x.2.2.2.2.2.2.2.2.2.2.2.2.2.2.2.2.2 (p1.toNatClampNeg) q1)]) (L' := [w_Model E a o (x.1, x.2.1, x.2.2.1, x.2.2.2.1, x.2.2.2.2.1, x.2.2.2.2.2.1, x.2.2.2.2.2.2.1, x.2.2.2.2.2.2.2.1, x.2.2.2.2.2.2.2.2.1, x.2.2.2.2.2.2.2.2.2.1, x.2.2.2.2.2.2.2.2.2.2.1, x.2.2.2.2.2.2.2.2.2.2.2.1, x.2.2.2.2.2.2.2.2.2.2.2.2.1, x.2.2.2.2.2.2.2.2.2.2.2.2.2.1, x.2.2.2.2.2.2.2.2.2.2.2.2.2.2.1, q9.1, q9.2, upd x.2.2.2.2.2.2.2.2.2.2.2.2.2.2.2.2.2 (p1.toNatClampNeg) q1)]) (va_runV (As := [.int 110, .int 116, .int 114]) (rest := []) ⟨hx, hb, hml, hown, ha⟩ (k_X11_needsThree l E a o (x.1, x.2.1, x.2.2.1, x.2.2.2.1, x.2.2.2.2.1, x.2.2.2.2.2.1, x.2.2.2.2.2.2.1, x.2.2.2.2.2.2.2.1, x.2.2.2.2.2.2.2.2.1, x.2.2.2.2.2.2.2.2.2.1, x.2.2.2.2.2.2.2.2.2.2.1, x.2.2.2.2.2.2.2.2.2.2.2.1, x.2.2.2.2.2.2.2.2.2.2.2.2.1, x.2.2.2.2.2.2.2.2.2.2.2.2.2.1, x.2.2.2.2.2.2.2.2.2.2.2.2.2.2.1, x.2.2.2.2.2.2.2.2.2.2.2.2.2.2.2.1 + 1, x.2.2.2.2.2.2.2.2.2.2.2.2.2.2.2.2.1, upd x.2.2.2.2.2.2.2.2.2.2.2.2.2.2.2.2.2 (p1.toNatClampNeg) q1) 110 116 114 q9 hq9 H.size) (cwV 3 ha (gi_V (fun _ h => h) mw2042 mw2044 mw61 mw87 mw2045) rfl rfl rfl hv_X11_needsThree ⟨(Nat.le_of_ble_eq_true rfl), (Nat.le_of_ble_eq_true rfl)⟩) ⟨pre_blind, va_recv hst.k (fr_P hP [0] rfl) (ci := 13) (q0 := 0) rfl rfl, pre_at hP hD hS hz hzs hst [0] (by decide) rfl rfl⟩ rfl rfl hl.1 rfl (lv_room (Nat.le_of_ble_eq_true rfl)) dX11_parsesCommand_264 ⟨(Nat.le_of_ble_eq_true rfl), (Nat.le_of_ble_eq_true rfl)⟩) hP hD hS hA [0] (by decide) rfl rfl rfl rfl (fun H locs hP hD hS => ?_)
    refine lv_aload_n hx hb dX11_parsesCommand_267 rfl (lv_at hl 1 rfl) ?_
    refine lv_bipush (v := 121) hx hb dX11_parsesCommand_268 (by decide) ?_
    obtain ⟨q10, hq10, hF⟩ := q_bdi hF
    refine cl_v (Lc := [w_Model E a o (x.1, x.2.1, x.2.2.1, x.2.2.2.1, x.2.2.2.2.1, x.2.2.2.2.2.1, x.2.2.2.2.2.2.1, x.2.2.2.2.2.2.2.1, x.2.2.2.2.2.2.2.2.1, x.2.2.2.2.2.2.2.2.2.1, x.2.2.2.2.2.2.2.2.2.2.1, x.2.2.2.2.2.2.2.2.2.2.2.1, x.2.2.2.2.2.2.2.2.2.2.2.2.1, x.2.2.2.2.2.2.2.2.2.2.2.2.2.1, x.2.2.2.2.2.2.2.2.2.2.2.2.2.2.1, q9.1, q9.2, upd x.2.2.2.2.2.2.2.2.2.2.2.2.2.2.2.2.2 (p1.toNatClampNeg) q1)]) (Lc' := [w_Model E a o (x.1, x.2.1, x.2.2.1, x.2.2.2.1, x.2.2.2.2.1, x.2.2.2.2.2.1, x.2.2.2.2.2.2.1, x.2.2.2.2.2.2.2.1, x.2.2.2.2.2.2.2.2.1, x.2.2.2.2.2.2.2.2.2.1, x.2.2.2.2.2.2.2.2.2.2.1, x.2.2.2.2.2.2.2.2.2.2.2.1, x.2.2.2.2.2.2.2.2.2.2.2.2.1, x.2.2.2.2.2.2.2.2.2.2.2.2.2.1, x.2.2.2.2.2.2.2.2.2.2.2.2.2.2.1, q10.1, q10.2, upd x.2.2.2.2.2.2.2.2.2.2.2.2.2.2.2.2.2 (p1.toNatClampNeg) q1)]) (L' := [w_Model E a o (x.1, x.2.1, x.2.2.1, x.2.2.2.1, x.2.2.2.2.1, x.2.2.2.2.2.1, x.2.2.2.2.2.2.1, x.2.2.2.2.2.2.2.1, x.2.2.2.2.2.2.2.2.1, x.2.2.2.2.2.2.2.2.2.1, x.2.2.2.2.2.2.2.2.2.2.1, x.2.2.2.2.2.2.2.2.2.2.2.1, x.2.2.2.2.2.2.2.2.2.2.2.2.1, x.2.2.2.2.2.2.2.2.2.2.2.2.2.1, x.2.2.2.2.2.2.2.2.2.2.2.2.2.2.1, q10.1, q10.2, upd x.2.2.2.2.2.2.2.2.2.2.2.2.2.2.2.2.2 (p1.toNatClampNeg) q1)]) (va_runV (As := [.int 121]) (rest := []) ⟨hx, hb, hml, hown, ha⟩ (k_X11_needs l E a o (x.1, x.2.1, x.2.2.1, x.2.2.2.1, x.2.2.2.2.1, x.2.2.2.2.2.1, x.2.2.2.2.2.2.1, x.2.2.2.2.2.2.2.1, x.2.2.2.2.2.2.2.2.1, x.2.2.2.2.2.2.2.2.2.1, x.2.2.2.2.2.2.2.2.2.2.1, x.2.2.2.2.2.2.2.2.2.2.2.1, x.2.2.2.2.2.2.2.2.2.2.2.2.1, x.2.2.2.2.2.2.2.2.2.2.2.2.2.1, x.2.2.2.2.2.2.2.2.2.2.2.2.2.2.1, q9.1, q9.2, upd x.2.2.2.2.2.2.2.2.2.2.2.2.2.2.2.2.2 (p1.toNatClampNeg) q1) 121 q10 hq10 H.size) (cwV 1 ha (gi_V (fun _ h => h) mw2046 mw2048 mw62 mw87 mw2049) rfl rfl rfl hv_X11_needs ⟨(Nat.le_of_ble_eq_true rfl), (Nat.le_of_ble_eq_true rfl)⟩) ⟨pre_blind, va_recv hst.k (fr_P hP [0] rfl) (ci := 13) (q0 := 0) rfl rfl, pre_at hP hD hS hz hzs hst [0] (by decide) rfl rfl⟩ rfl rfl hl.1 rfl (lv_room (Nat.le_of_ble_eq_true rfl)) dX11_parsesCommand_270 ⟨(Nat.le_of_ble_eq_true rfl), (Nat.le_of_ble_eq_true rfl)⟩) hP hD hS hA [0] (by decide) rfl rfl rfl rfl (fun H locs hP hD hS => ?_)
    refine lv_aload_n hx hb dX11_parsesCommand_273 rfl (lv_at hl 1 rfl) ?_
    refine va_get (D := E.1) (ci := 13) (v := .ref (a (o + 8))) (C := RX11) (T := TX11) (N := 18) hx hb ha in_X11 hown hst.k hP 0 rfl rfl 17 (by decide) (ha _ mw1653) (fun _ h9 => h9) rfl dX11_parsesCommand_274 ?_
    refine lv_iload_n hx hb dX11_parsesCommand_277 rfl (lv_at hl 2 rfl) ?_
    refine lv_iconst (v := 1) hx hb dX11_parsesCommand_278 (by decide) ?_
    refine lv_iadd hx hb dX11_parsesCommand_279 ?_
    refine lv_aload_n hx hb dX11_parsesCommand_280 rfl (lv_at hl 1 rfl) ?_
    refine lv_iconst (v := 1) hx hb dX11_parsesCommand_281 (by decide) ?_
    refine lv_iconst (v := 1) hx hb dX11_parsesCommand_282 (by decide) ?_
    obtain ⟨q11, hq11, hF⟩ := q_bdi hF
    refine cl_i (Lc := [w_Model E a o (x.1, x.2.1, x.2.2.1, x.2.2.2.1, x.2.2.2.2.1, x.2.2.2.2.2.1, x.2.2.2.2.2.2.1, x.2.2.2.2.2.2.2.1, x.2.2.2.2.2.2.2.2.1, x.2.2.2.2.2.2.2.2.2.1, x.2.2.2.2.2.2.2.2.2.2.1, x.2.2.2.2.2.2.2.2.2.2.2.1, x.2.2.2.2.2.2.2.2.2.2.2.2.1, x.2.2.2.2.2.2.2.2.2.2.2.2.2.1, x.2.2.2.2.2.2.2.2.2.2.2.2.2.2.1, q10.1, q10.2, upd x.2.2.2.2.2.2.2.2.2.2.2.2.2.2.2.2.2 (p1.toNatClampNeg) q1)]) (Lc' := [w_Model E a o (x.1, x.2.1, x.2.2.1, x.2.2.2.1, x.2.2.2.2.1, x.2.2.2.2.2.1, x.2.2.2.2.2.2.1, x.2.2.2.2.2.2.2.1, x.2.2.2.2.2.2.2.2.1, x.2.2.2.2.2.2.2.2.2.1, x.2.2.2.2.2.2.2.2.2.2.1, x.2.2.2.2.2.2.2.2.2.2.2.1, x.2.2.2.2.2.2.2.2.2.2.2.2.1, x.2.2.2.2.2.2.2.2.2.2.2.2.2.1, x.2.2.2.2.2.2.2.2.2.2.2.2.2.2.1, q11.2.1, q11.2.2, upd x.2.2.2.2.2.2.2.2.2.2.2.2.2.2.2.2.2 (p1.toNatClampNeg) q1)]) (L' := [w_Model E a o (x.1, x.2.1, x.2.2.1, x.2.2.2.1, x.2.2.2.2.1, x.2.2.2.2.2.1, x.2.2.2.2.2.2.1, x.2.2.2.2.2.2.2.1, x.2.2.2.2.2.2.2.2.1, x.2.2.2.2.2.2.2.2.2.1, x.2.2.2.2.2.2.2.2.2.2.1, x.2.2.2.2.2.2.2.2.2.2.2.1, x.2.2.2.2.2.2.2.2.2.2.2.2.1, x.2.2.2.2.2.2.2.2.2.2.2.2.2.1, x.2.2.2.2.2.2.2.2.2.2.2.2.2.2.1, q11.2.1, q11.2.2, upd x.2.2.2.2.2.2.2.2.2.2.2.2.2.2.2.2.2 (p1.toNatClampNeg) q1)]) (rv := q11.1) (va_runV (As := [.int 1, .int 1]) (rest := [.int (p1 + 1), .ref (a (o + 8))]) ⟨hx, hb, hml, hown, ha⟩ (k_X11_afterBlank l E a o (x.1, x.2.1, x.2.2.1, x.2.2.2.1, x.2.2.2.2.1, x.2.2.2.2.2.1, x.2.2.2.2.2.2.1, x.2.2.2.2.2.2.2.1, x.2.2.2.2.2.2.2.2.1, x.2.2.2.2.2.2.2.2.2.1, x.2.2.2.2.2.2.2.2.2.2.1, x.2.2.2.2.2.2.2.2.2.2.2.1, x.2.2.2.2.2.2.2.2.2.2.2.2.1, x.2.2.2.2.2.2.2.2.2.2.2.2.2.1, x.2.2.2.2.2.2.2.2.2.2.2.2.2.2.1, q10.1, q10.2, upd x.2.2.2.2.2.2.2.2.2.2.2.2.2.2.2.2.2 (p1.toNatClampNeg) q1) 1 1 q11 hq11 H.size) (cwV 2 ha (gi_V (fun _ h => h) mw2050 mw2052 mw63 mw87 mw2053) rfl rfl rfl hv_X11_afterBlank ⟨(Nat.le_of_ble_eq_true rfl), (Nat.le_of_ble_eq_true rfl)⟩) ⟨pre_blind, va_recv hst.k (fr_P hP [0] rfl) (ci := 13) (q0 := 0) rfl rfl, pre_at hP hD hS hz hzs hst [0] (by decide) rfl rfl⟩ rfl rfl hl.1 rfl (lv_room (Nat.le_of_ble_eq_true rfl)) dX11_parsesCommand_283 ⟨(Nat.le_of_ble_eq_true rfl), (Nat.le_of_ble_eq_true rfl)⟩) hP hD hS hA [0] (by decide) rfl rfl rfl rfl (fun H locs hP hD hS => ?_)
    obtain ⟨g12, hF⟩ := q_gdi hF
    refine vi_iast hx hb hst.k hP hD hS 8 0 rfl rfl (k := (p1 + 1).toNatClampNeg) rfl g12 dX11_parsesCommand_286 (fun H locs hP hD hS => ?_)
    have hP : va_P E.1 vwCl (List.flatten [w_Model E a o (x.1, x.2.1, x.2.2.1, x.2.2.2.1, x.2.2.2.2.1, x.2.2.2.2.2.1, x.2.2.2.2.2.2.1, x.2.2.2.2.2.2.2.1, x.2.2.2.2.2.2.2.2.1, x.2.2.2.2.2.2.2.2.2.1, x.2.2.2.2.2.2.2.2.2.2.1, x.2.2.2.2.2.2.2.2.2.2.2.1, x.2.2.2.2.2.2.2.2.2.2.2.2.1, x.2.2.2.2.2.2.2.2.2.2.2.2.2.1, x.2.2.2.2.2.2.2.2.2.2.2.2.2.2.1, q11.2.1, q11.2.2, upd (upd x.2.2.2.2.2.2.2.2.2.2.2.2.2.2.2.2.2 (p1.toNatClampNeg) q1) ((p1 + 1).toNatClampNeg) q11.1)]) H := hP
    have hD : va_D A (List.flatten [w_Model E a o (x.1, x.2.1, x.2.2.1, x.2.2.2.1, x.2.2.2.2.1, x.2.2.2.2.2.1, x.2.2.2.2.2.2.1, x.2.2.2.2.2.2.2.1, x.2.2.2.2.2.2.2.2.1, x.2.2.2.2.2.2.2.2.2.1, x.2.2.2.2.2.2.2.2.2.2.1, x.2.2.2.2.2.2.2.2.2.2.2.1, x.2.2.2.2.2.2.2.2.2.2.2.2.1, x.2.2.2.2.2.2.2.2.2.2.2.2.2.1, x.2.2.2.2.2.2.2.2.2.2.2.2.2.2.1, q11.2.1, q11.2.2, upd (upd x.2.2.2.2.2.2.2.2.2.2.2.2.2.2.2.2.2 (p1.toNatClampNeg) q1) ((p1 + 1).toNatClampNeg) q11.1)]) := hD
    refine lv_aload_n hx hb dX11_parsesCommand_287 rfl (lv_at hl 1 rfl) ?_
    refine va_get (D := E.1) (ci := 13) (v := .ref (a (o + 8))) (C := RX11) (T := TX11) (N := 18) hx hb ha in_X11 hown hst.k hP 0 rfl rfl 17 (by decide) (ha _ mw1653) (fun _ h9 => h9) rfl dX11_parsesCommand_288 ?_
    refine lv_iload_n hx hb dX11_parsesCommand_291 rfl (lv_at hl 2 rfl) ?_
    refine lv_iconst (v := 2) hx hb dX11_parsesCommand_292 (by decide) ?_
    refine lv_iadd hx hb dX11_parsesCommand_293 ?_
    refine lv_aload_n hx hb dX11_parsesCommand_294 rfl (lv_at hl 1 rfl) ?_
    refine lv_iconst (v := 1) hx hb dX11_parsesCommand_295 (by decide) ?_
    refine lv_iconst (v := 2) hx hb dX11_parsesCommand_296 (by decide) ?_
    obtain ⟨q13, hq13, hF⟩ := q_bdi hF
    refine cl_i (Lc := [w_Model E a o (x.1, x.2.1, x.2.2.1, x.2.2.2.1, x.2.2.2.2.1, x.2.2.2.2.2.1, x.2.2.2.2.2.2.1, x.2.2.2.2.2.2.2.1, x.2.2.2.2.2.2.2.2.1, x.2.2.2.2.2.2.2.2.2.1, x.2.2.2.2.2.2.2.2.2.2.1, x.2.2.2.2.2.2.2.2.2.2.2.1, x.2.2.2.2.2.2.2.2.2.2.2.2.1, x.2.2.2.2.2.2.2.2.2.2.2.2.2.1, x.2.2.2.2.2.2.2.2.2.2.2.2.2.2.1, q11.2.1, q11.2.2, upd (upd x.2.2.2.2.2.2.2.2.2.2.2.2.2.2.2.2.2 (p1.toNatClampNeg) q1) ((p1 + 1).toNatClampNeg) q11.1)]) (Lc' := [w_Model E a o (x.1, x.2.1, x.2.2.1, x.2.2.2.1, x.2.2.2.2.1, x.2.2.2.2.2.1, x.2.2.2.2.2.2.1, x.2.2.2.2.2.2.2.1, x.2.2.2.2.2.2.2.2.1, x.2.2.2.2.2.2.2.2.2.1, x.2.2.2.2.2.2.2.2.2.2.1, x.2.2.2.2.2.2.2.2.2.2.2.1, x.2.2.2.2.2.2.2.2.2.2.2.2.1, x.2.2.2.2.2.2.2.2.2.2.2.2.2.1, x.2.2.2.2.2.2.2.2.2.2.2.2.2.2.1, q13.2.1, q13.2.2, upd (upd x.2.2.2.2.2.2.2.2.2.2.2.2.2.2.2.2.2 (p1.toNatClampNeg) q1) ((p1 + 1).toNatClampNeg) q11.1)]) (L' := [w_Model E a o (x.1, x.2.1, x.2.2.1, x.2.2.2.1, x.2.2.2.2.1, x.2.2.2.2.2.1, x.2.2.2.2.2.2.1, x.2.2.2.2.2.2.2.1, x.2.2.2.2.2.2.2.2.1, x.2.2.2.2.2.2.2.2.2.1, x.2.2.2.2.2.2.2.2.2.2.1, x.2.2.2.2.2.2.2.2.2.2.2.1, x.2.2.2.2.2.2.2.2.2.2.2.2.1, x.2.2.2.2.2.2.2.2.2.2.2.2.2.1, x.2.2.2.2.2.2.2.2.2.2.2.2.2.2.1, q13.2.1, q13.2.2, upd (upd x.2.2.2.2.2.2.2.2.2.2.2.2.2.2.2.2.2 (p1.toNatClampNeg) q1) ((p1 + 1).toNatClampNeg) q11.1)]) (rv := q13.1) (va_runV (As := [.int 1, .int 2]) (rest := [.int (p1 + 2), .ref (a (o + 8))]) ⟨hx, hb, hml, hown, ha⟩ (k_X11_afterBlank l E a o (x.1, x.2.1, x.2.2.1, x.2.2.2.1, x.2.2.2.2.1, x.2.2.2.2.2.1, x.2.2.2.2.2.2.1, x.2.2.2.2.2.2.2.1, x.2.2.2.2.2.2.2.2.1, x.2.2.2.2.2.2.2.2.2.1, x.2.2.2.2.2.2.2.2.2.2.1, x.2.2.2.2.2.2.2.2.2.2.2.1, x.2.2.2.2.2.2.2.2.2.2.2.2.1, x.2.2.2.2.2.2.2.2.2.2.2.2.2.1, x.2.2.2.2.2.2.2.2.2.2.2.2.2.2.1, q11.2.1, q11.2.2, upd (upd x.2.2.2.2.2.2.2.2.2.2.2.2.2.2.2.2.2 (p1.toNatClampNeg) q1) ((p1 + 1).toNatClampNeg) q11.1) 1 2 q13 hq13 H.size) (cwV 2 ha (gi_V (fun _ h => h) mw2050 mw2052 mw63 mw87 mw2053) rfl rfl rfl hv_X11_afterBlank ⟨(Nat.le_of_ble_eq_true rfl), (Nat.le_of_ble_eq_true rfl)⟩) ⟨pre_blind, va_recv hst.k (fr_P hP [0] rfl) (ci := 13) (q0 := 0) rfl rfl, pre_at hP hD hS hz hzs hst [0] (by decide) rfl rfl⟩ rfl rfl hl.1 rfl (lv_room (Nat.le_of_ble_eq_true rfl)) dX11_parsesCommand_297 ⟨(Nat.le_of_ble_eq_true rfl), (Nat.le_of_ble_eq_true rfl)⟩) hP hD hS hA [0] (by decide) rfl rfl rfl rfl (fun H locs hP hD hS => ?_)
    obtain ⟨g14, hF⟩ := q_gdi hF
    refine vi_iast hx hb hst.k hP hD hS 8 0 rfl rfl (k := (p1 + 2).toNatClampNeg) rfl g14 dX11_parsesCommand_300 (fun H locs hP hD hS => ?_)
    have hP : va_P E.1 vwCl (List.flatten [w_Model E a o (x.1, x.2.1, x.2.2.1, x.2.2.2.1, x.2.2.2.2.1, x.2.2.2.2.2.1, x.2.2.2.2.2.2.1, x.2.2.2.2.2.2.2.1, x.2.2.2.2.2.2.2.2.1, x.2.2.2.2.2.2.2.2.2.1, x.2.2.2.2.2.2.2.2.2.2.1, x.2.2.2.2.2.2.2.2.2.2.2.1, x.2.2.2.2.2.2.2.2.2.2.2.2.1, x.2.2.2.2.2.2.2.2.2.2.2.2.2.1, x.2.2.2.2.2.2.2.2.2.2.2.2.2.2.1, q13.2.1, q13.2.2, upd (upd (upd x.2.2.2.2.2.2.2.2.2.2.2.2.2.2.2.2.2 (p1.toNatClampNeg) q1) ((p1 + 1).toNatClampNeg) q11.1) ((p1 + 2).toNatClampNeg) q13.1)]) H := hP
    have hD : va_D A (List.flatten [w_Model E a o (x.1, x.2.1, x.2.2.1, x.2.2.2.1, x.2.2.2.2.1, x.2.2.2.2.2.1, x.2.2.2.2.2.2.1, x.2.2.2.2.2.2.2.1, x.2.2.2.2.2.2.2.2.1, x.2.2.2.2.2.2.2.2.2.1, x.2.2.2.2.2.2.2.2.2.2.1, x.2.2.2.2.2.2.2.2.2.2.2.1, x.2.2.2.2.2.2.2.2.2.2.2.2.1, x.2.2.2.2.2.2.2.2.2.2.2.2.2.1, x.2.2.2.2.2.2.2.2.2.2.2.2.2.2.1, q13.2.1, q13.2.2, upd (upd (upd x.2.2.2.2.2.2.2.2.2.2.2.2.2.2.2.2.2 (p1.toNatClampNeg) q1) ((p1 + 1).toNatClampNeg) q11.1) ((p1 + 2).toNatClampNeg) q13.1)]) := hD
    refine lv_goto (tgt := 393) hx hb dX11_parsesCommand_301 (by decide) ?_
    obtain rfl := Option.some.inj hF
    exact en_v hQ (Nat.le_of_ble_eq_true rfl) (Nat.le_of_ble_eq_true rfl) hx hb hr hlocks hP hD hS dX11_parsesCommand_393
  have hF := q_brn w23_3 hF
  by_cases w23_4 : q1 = 102
  · have hF := q_brp w23_4 hF
    refine lv_tableIn (off := 281) (tgt := 304) hx hb dX11_parsesCommand_23 (by rw [w23_4]; decide) (by rw [w23_4]; decide) (by rw [w23_4]; decide) (by decide) ?_
    refine lv_aload_n hx hb dX11_parsesCommand_304 rfl (lv_at hl 1 rfl) ?_
    refine lv_bipush (v := 101) hx hb dX11_parsesCommand_305 (by decide) ?_
    refine lv_bipush (v := 108) hx hb dX11_parsesCommand_307 (by decide) ?_
    refine lv_bipush (v := 108) hx hb dX11_parsesCommand_309 (by decide) ?_
    obtain ⟨q15, hq15, hF⟩ := q_bdi hF
    refine cl_v (Lc := [w_Model E a o (x.1, x.2.1, x.2.2.1, x.2.2.2.1, x.2.2.2.2.1, x.2.2.2.2.2.1, x.2.2.2.2.2.2.1, x.2.2.2.2.2.2.2.1, x.2.2.2.2.2.2.2.2.1, x.2.2.2.2.2.2.2.2.2.1, x.2.2.2.2.2.2.2.2.2.2.1, x.2.2.2.2.2.2.2.2.2.2.2.1, x.2.2.2.2.2.2.2.2.2.2.2.2.1, x.2.2.2.2.2.2.2.2.2.2.2.2.2.1, x.2.2.2.2.2.2.2.2.2.2.2.2.2.2.1, x.2.2.2.2.2.2.2.2.2.2.2.2.2.2.2.1 + 1, x.2.2.2.2.2.2.2.2.2.2.2.2.2.2.2.2.1, upd x.2.2.2.2.2.2.2.2.2.2.2.2.2.2.2.2.2 (p1.toNatClampNeg) q1)]) (Lc' := [w_Model E a o (x.1, x.2.1, x.2.2.1, x.2.2.2.1, x.2.2.2.2.1, x.2.2.2.2.2.1, x.2.2.2.2.2.2.1, x.2.2.2.2.2.2.2.1, x.2.2.2.2.2.2.2.2.1, x.2.2.2.2.2.2.2.2.2.1, x.2.2.2.2.2.2.2.2.2.2.1, x.2.2.2.2.2.2.2.2.2.2.2.1, x.2.2.2.2.2.2.2.2.2.2.2.2.1, x.2.2.2.2.2.2.2.2.2.2.2.2.2.1, x.2.2.2.2.2.2.2.2.2.2.2.2.2.2.1, q15.1, q15.2, upd x.2.2.2.2.2.2.2.2.2.2.2.2.2.2.2.2.2 (p1.toNatClampNeg) q1)]) (L' := [w_Model E a o (x.1, x.2.1, x.2.2.1, x.2.2.2.1, x.2.2.2.2.1, x.2.2.2.2.2.1, x.2.2.2.2.2.2.1, x.2.2.2.2.2.2.2.1, x.2.2.2.2.2.2.2.2.1, x.2.2.2.2.2.2.2.2.2.1, x.2.2.2.2.2.2.2.2.2.2.1, x.2.2.2.2.2.2.2.2.2.2.2.1, x.2.2.2.2.2.2.2.2.2.2.2.2.1, x.2.2.2.2.2.2.2.2.2.2.2.2.2.1, x.2.2.2.2.2.2.2.2.2.2.2.2.2.2.1, q15.1, q15.2, upd x.2.2.2.2.2.2.2.2.2.2.2.2.2.2.2.2.2 (p1.toNatClampNeg) q1)]) (va_runV (As := [.int 101, .int 108, .int 108]) (rest := []) ⟨hx, hb, hml, hown, ha⟩ (k_X11_needsThree l E a o (x.1, x.2.1, x.2.2.1, x.2.2.2.1, x.2.2.2.2.1, x.2.2.2.2.2.1, x.2.2.2.2.2.2.1, x.2.2.2.2.2.2.2.1, x.2.2.2.2.2.2.2.2.1, x.2.2.2.2.2.2.2.2.2.1, x.2.2.2.2.2.2.2.2.2.2.1, x.2.2.2.2.2.2.2.2.2.2.2.1, x.2.2.2.2.2.2.2.2.2.2.2.2.1, x.2.2.2.2.2.2.2.2.2.2.2.2.2.1, x.2.2.2.2.2.2.2.2.2.2.2.2.2.2.1, x.2.2.2.2.2.2.2.2.2.2.2.2.2.2.2.1 + 1, x.2.2.2.2.2.2.2.2.2.2.2.2.2.2.2.2.1, upd x.2.2.2.2.2.2.2.2.2.2.2.2.2.2.2.2.2 (p1.toNatClampNeg) q1) 101 108 108 q15 hq15 H.size) (cwV 3 ha (gi_V (fun _ h => h) mw2042 mw2044 mw61 mw87 mw2045) rfl rfl rfl hv_X11_needsThree ⟨(Nat.le_of_ble_eq_true rfl), (Nat.le_of_ble_eq_true rfl)⟩) ⟨pre_blind, va_recv hst.k (fr_P hP [0] rfl) (ci := 13) (q0 := 0) rfl rfl, pre_at hP hD hS hz hzs hst [0] (by decide) rfl rfl⟩ rfl rfl hl.1 rfl (lv_room (Nat.le_of_ble_eq_true rfl)) dX11_parsesCommand_311 ⟨(Nat.le_of_ble_eq_true rfl), (Nat.le_of_ble_eq_true rfl)⟩) hP hD hS hA [0] (by decide) rfl rfl rfl rfl (fun H locs hP hD hS => ?_)
    refine lv_aload_n hx hb dX11_parsesCommand_314 rfl (lv_at hl 1 rfl) ?_
    refine va_get (D := E.1) (ci := 13) (v := .ref (a (o + 8))) (C := RX11) (T := TX11) (N := 18) hx hb ha in_X11 hown hst.k hP 0 rfl rfl 17 (by decide) (ha _ mw1653) (fun _ h9 => h9) rfl dX11_parsesCommand_315 ?_
    refine lv_iload_n hx hb dX11_parsesCommand_318 rfl (lv_at hl 2 rfl) ?_
    refine lv_iconst (v := 1) hx hb dX11_parsesCommand_319 (by decide) ?_
    refine lv_iadd hx hb dX11_parsesCommand_320 ?_
    refine lv_aload_n hx hb dX11_parsesCommand_321 rfl (lv_at hl 1 rfl) ?_
    refine lv_iconst (v := 1) hx hb dX11_parsesCommand_322 (by decide) ?_
    refine lv_iconst (v := 1) hx hb dX11_parsesCommand_323 (by decide) ?_
    obtain ⟨q16, hq16, hF⟩ := q_bdi hF
    refine cl_i (Lc := [w_Model E a o (x.1, x.2.1, x.2.2.1, x.2.2.2.1, x.2.2.2.2.1, x.2.2.2.2.2.1, x.2.2.2.2.2.2.1, x.2.2.2.2.2.2.2.1, x.2.2.2.2.2.2.2.2.1, x.2.2.2.2.2.2.2.2.2.1, x.2.2.2.2.2.2.2.2.2.2.1, x.2.2.2.2.2.2.2.2.2.2.2.1, x.2.2.2.2.2.2.2.2.2.2.2.2.1, x.2.2.2.2.2.2.2.2.2.2.2.2.2.1, x.2.2.2.2.2.2.2.2.2.2.2.2.2.2.1, q15.1, q15.2, upd x.2.2.2.2.2.2.2.2.2.2.2.2.2.2.2.2.2 (p1.toNatClampNeg) q1)]) (Lc' := [w_Model E a o (x.1, x.2.1, x.2.2.1, x.2.2.2.1, x.2.2.2.2.1, x.2.2.2.2.2.1, x.2.2.2.2.2.2.1, x.2.2.2.2.2.2.2.1, x.2.2.2.2.2.2.2.2.1, x.2.2.2.2.2.2.2.2.2.1, x.2.2.2.2.2.2.2.2.2.2.1, x.2.2.2.2.2.2.2.2.2.2.2.1, x.2.2.2.2.2.2.2.2.2.2.2.2.1, x.2.2.2.2.2.2.2.2.2.2.2.2.2.1, x.2.2.2.2.2.2.2.2.2.2.2.2.2.2.1, q16.2.1, q16.2.2, upd x.2.2.2.2.2.2.2.2.2.2.2.2.2.2.2.2.2 (p1.toNatClampNeg) q1)]) (L' := [w_Model E a o (x.1, x.2.1, x.2.2.1, x.2.2.2.1, x.2.2.2.2.1, x.2.2.2.2.2.1, x.2.2.2.2.2.2.1, x.2.2.2.2.2.2.2.1, x.2.2.2.2.2.2.2.2.1, x.2.2.2.2.2.2.2.2.2.1, x.2.2.2.2.2.2.2.2.2.2.1, x.2.2.2.2.2.2.2.2.2.2.2.1, x.2.2.2.2.2.2.2.2.2.2.2.2.1, x.2.2.2.2.2.2.2.2.2.2.2.2.2.1, x.2.2.2.2.2.2.2.2.2.2.2.2.2.2.1, q16.2.1, q16.2.2, upd x.2.2.2.2.2.2.2.2.2.2.2.2.2.2.2.2.2 (p1.toNatClampNeg) q1)]) (rv := q16.1) (va_runV (As := [.int 1, .int 1]) (rest := [.int (p1 + 1), .ref (a (o + 8))]) ⟨hx, hb, hml, hown, ha⟩ (k_X11_afterBlank l E a o (x.1, x.2.1, x.2.2.1, x.2.2.2.1, x.2.2.2.2.1, x.2.2.2.2.2.1, x.2.2.2.2.2.2.1, x.2.2.2.2.2.2.2.1, x.2.2.2.2.2.2.2.2.1, x.2.2.2.2.2.2.2.2.2.1, x.2.2.2.2.2.2.2.2.2.2.1, x.2.2.2.2.2.2.2.2.2.2.2.1, x.2.2.2.2.2.2.2.2.2.2.2.2.1, x.2.2.2.2.2.2.2.2.2.2.2.2.2.1, x.2.2.2.2.2.2.2.2.2.2.2.2.2.2.1, q15.1, q15.2, upd x.2.2.2.2.2.2.2.2.2.2.2.2.2.2.2.2.2 (p1.toNatClampNeg) q1) 1 1 q16 hq16 H.size) (cwV 2 ha (gi_V (fun _ h => h) mw2050 mw2052 mw63 mw87 mw2053) rfl rfl rfl hv_X11_afterBlank ⟨(Nat.le_of_ble_eq_true rfl), (Nat.le_of_ble_eq_true rfl)⟩) ⟨pre_blind, va_recv hst.k (fr_P hP [0] rfl) (ci := 13) (q0 := 0) rfl rfl, pre_at hP hD hS hz hzs hst [0] (by decide) rfl rfl⟩ rfl rfl hl.1 rfl (lv_room (Nat.le_of_ble_eq_true rfl)) dX11_parsesCommand_324 ⟨(Nat.le_of_ble_eq_true rfl), (Nat.le_of_ble_eq_true rfl)⟩) hP hD hS hA [0] (by decide) rfl rfl rfl rfl (fun H locs hP hD hS => ?_)
    obtain ⟨g17, hF⟩ := q_gdi hF
    refine vi_iast hx hb hst.k hP hD hS 8 0 rfl rfl (k := (p1 + 1).toNatClampNeg) rfl g17 dX11_parsesCommand_327 (fun H locs hP hD hS => ?_)
    have hP : va_P E.1 vwCl (List.flatten [w_Model E a o (x.1, x.2.1, x.2.2.1, x.2.2.2.1, x.2.2.2.2.1, x.2.2.2.2.2.1, x.2.2.2.2.2.2.1, x.2.2.2.2.2.2.2.1, x.2.2.2.2.2.2.2.2.1, x.2.2.2.2.2.2.2.2.2.1, x.2.2.2.2.2.2.2.2.2.2.1, x.2.2.2.2.2.2.2.2.2.2.2.1, x.2.2.2.2.2.2.2.2.2.2.2.2.1, x.2.2.2.2.2.2.2.2.2.2.2.2.2.1, x.2.2.2.2.2.2.2.2.2.2.2.2.2.2.1, q16.2.1, q16.2.2, upd (upd x.2.2.2.2.2.2.2.2.2.2.2.2.2.2.2.2.2 (p1.toNatClampNeg) q1) ((p1 + 1).toNatClampNeg) q16.1)]) H := hP
    have hD : va_D A (List.flatten [w_Model E a o (x.1, x.2.1, x.2.2.1, x.2.2.2.1, x.2.2.2.2.1, x.2.2.2.2.2.1, x.2.2.2.2.2.2.1, x.2.2.2.2.2.2.2.1, x.2.2.2.2.2.2.2.2.1, x.2.2.2.2.2.2.2.2.2.1, x.2.2.2.2.2.2.2.2.2.2.1, x.2.2.2.2.2.2.2.2.2.2.2.1, x.2.2.2.2.2.2.2.2.2.2.2.2.1, x.2.2.2.2.2.2.2.2.2.2.2.2.2.1, x.2.2.2.2.2.2.2.2.2.2.2.2.2.2.1, q16.2.1, q16.2.2, upd (upd x.2.2.2.2.2.2.2.2.2.2.2.2.2.2.2.2.2 (p1.toNatClampNeg) q1) ((p1 + 1).toNatClampNeg) q16.1)]) := hD
    refine lv_goto (tgt := 393) hx hb dX11_parsesCommand_328 (by decide) ?_
    obtain rfl := Option.some.inj hF
    exact en_v hQ (Nat.le_of_ble_eq_true rfl) (Nat.le_of_ble_eq_true rfl) hx hb hr hlocks hP hD hS dX11_parsesCommand_393
  have hF := q_brn w23_4 hF
  by_cases w23_5 : q1 = 103
  · have hF := q_brp w23_5 hF
    refine lv_tableIn (off := 308) (tgt := 331) hx hb dX11_parsesCommand_23 (by rw [w23_5]; decide) (by rw [w23_5]; decide) (by rw [w23_5]; decide) (by decide) ?_
    refine lv_aload_n hx hb dX11_parsesCommand_331 rfl (lv_at hl 1 rfl) ?_
    refine lv_bipush (v := 114) hx hb dX11_parsesCommand_332 (by decide) ?_
    refine lv_bipush (v := 97) hx hb dX11_parsesCommand_334 (by decide) ?_
    refine lv_bipush (v := 122) hx hb dX11_parsesCommand_336 (by decide) ?_
    obtain ⟨q18, hq18, hF⟩ := q_bdi hF
    refine cl_v (Lc := [w_Model E a o (x.1, x.2.1, x.2.2.1, x.2.2.2.1, x.2.2.2.2.1, x.2.2.2.2.2.1, x.2.2.2.2.2.2.1, x.2.2.2.2.2.2.2.1, x.2.2.2.2.2.2.2.2.1, x.2.2.2.2.2.2.2.2.2.1, x.2.2.2.2.2.2.2.2.2.2.1, x.2.2.2.2.2.2.2.2.2.2.2.1, x.2.2.2.2.2.2.2.2.2.2.2.2.1, x.2.2.2.2.2.2.2.2.2.2.2.2.2.1, x.2.2.2.2.2.2.2.2.2.2.2.2.2.2.1, x.2.2.2.2.2.2.2.2.2.2.2.2.2.2.2.1 + 1, x.2.2.2.2.2.2.2.2.2.2.2.2.2.2.2.2.1, upd x.2.2.2.2.2.2.2.2.2.2.2.2.2.2.2.2.2 (p1.toNatClampNeg) q1)]) (Lc' := [w_Model E a o (x.1, x.2.1, x.2.2.1, x.2.2.2.1, x.2.2.2.2.1, x.2.2.2.2.2.1, x.2.2.2.2.2.2.1, x.2.2.2.2.2.2.2.1, x.2.2.2.2.2.2.2.2.1, x.2.2.2.2.2.2.2.2.2.1, x.2.2.2.2.2.2.2.2.2.2.1, x.2.2.2.2.2.2.2.2.2.2.2.1, x.2.2.2.2.2.2.2.2.2.2.2.2.1, x.2.2.2.2.2.2.2.2.2.2.2.2.2.1, x.2.2.2.2.2.2.2.2.2.2.2.2.2.2.1, q18.1, q18.2, upd x.2.2.2.2.2.2.2.2.2.2.2.2.2.2.2.2.2 (p1.toNatClampNeg) q1)]) (L' := [w_Model E a o (x.1, x.2.1, x.2.2.1, x.2.2.2.1, x.2.2.2.2.1, x.2.2.2.2.2.1, x.2.2.2.2.2.2.1, x.2.2.2.2.2.2.2.1, x.2.2.2.2.2.2.2.2.1, x.2.2.2.2.2.2.2.2.2.1, x.2.2.2.2.2.2.2.2.2.2.1, x.2.2.2.2.2.2.2.2.2.2.2.1, x.2.2.2.2.2.2.2.2.2.2.2.2.1, x.2.2.2.2.2.2.2.2.2.2.2.2.2.1, x.2.2.2.2.2.2.2.2.2.2.2.2.2.2.1, q18.1, q18.2, upd x.2.2.2.2.2.2.2.2.2.2.2.2.2.2.2.2.2 (p1.toNatClampNeg) q1)]) (va_runV (As := [.int 114, .int 97, .int 122]) (rest := []) ⟨hx, hb, hml, hown, ha⟩ (k_X11_needsThree l E a o (x.1, x.2.1, x.2.2.1, x.2.2.2.1, x.2.2.2.2.1, x.2.2.2.2.2.1, x.2.2.2.2.2.2.1, x.2.2.2.2.2.2.2.1, x.2.2.2.2.2.2.2.2.1, x.2.2.2.2.2.2.2.2.2.1, x.2.2.2.2.2.2.2.2.2.2.1, x.2.2.2.2.2.2.2.2.2.2.2.1, x.2.2.2.2.2.2.2.2.2.2.2.2.1, x.2.2.2.2.2.2.2.2.2.2.2.2.2.1, x.2.2.2.2.2.2.2.2.2.2.2.2.2.2.1, x.2.2.2.2.2.2.2.2.2.2.2.2.2.2.2.1 + 1, x.2.2.2.2.2.2.2.2.2.2.2.2.2.2.2.2.1, upd x.2.2.2.2.2.2.2.2.2.2.2.2.2.2.2.2.2 (p1.toNatClampNeg) q1) 114 97 122 q18 hq18 H.size) (cwV 3 ha (gi_V (fun _ h => h) mw2042 mw2044 mw61 mw87 mw2045) rfl rfl rfl hv_X11_needsThree ⟨(Nat.le_of_ble_eq_true rfl), (Nat.le_of_ble_eq_true rfl)⟩) ⟨pre_blind, va_recv hst.k (fr_P hP [0] rfl) (ci := 13) (q0 := 0) rfl rfl, pre_at hP hD hS hz hzs hst [0] (by decide) rfl rfl⟩ rfl rfl hl.1 rfl (lv_room (Nat.le_of_ble_eq_true rfl)) dX11_parsesCommand_338 ⟨(Nat.le_of_ble_eq_true rfl), (Nat.le_of_ble_eq_true rfl)⟩) hP hD hS hA [0] (by decide) rfl rfl rfl rfl (fun H locs hP hD hS => ?_)
    refine lv_aload_n hx hb dX11_parsesCommand_341 rfl (lv_at hl 1 rfl) ?_
    refine lv_bipush (v := 101) hx hb dX11_parsesCommand_342 (by decide) ?_
    obtain ⟨q19, hq19, hF⟩ := q_bdi hF
    refine cl_v (Lc := [w_Model E a o (x.1, x.2.1, x.2.2.1, x.2.2.2.1, x.2.2.2.2.1, x.2.2.2.2.2.1, x.2.2.2.2.2.2.1, x.2.2.2.2.2.2.2.1, x.2.2.2.2.2.2.2.2.1, x.2.2.2.2.2.2.2.2.2.1, x.2.2.2.2.2.2.2.2.2.2.1, x.2.2.2.2.2.2.2.2.2.2.2.1, x.2.2.2.2.2.2.2.2.2.2.2.2.1, x.2.2.2.2.2.2.2.2.2.2.2.2.2.1, x.2.2.2.2.2.2.2.2.2.2.2.2.2.2.1, q18.1, q18.2, upd x.2.2.2.2.2.2.2.2.2.2.2.2.2.2.2.2.2 (p1.toNatClampNeg) q1)]) (Lc' := [w_Model E a o (x.1, x.2.1, x.2.2.1, x.2.2.2.1, x.2.2.2.2.1, x.2.2.2.2.2.1, x.2.2.2.2.2.2.1, x.2.2.2.2.2.2.2.1, x.2.2.2.2.2.2.2.2.1, x.2.2.2.2.2.2.2.2.2.1, x.2.2.2.2.2.2.2.2.2.2.1, x.2.2.2.2.2.2.2.2.2.2.2.1, x.2.2.2.2.2.2.2.2.2.2.2.2.1, x.2.2.2.2.2.2.2.2.2.2.2.2.2.1, x.2.2.2.2.2.2.2.2.2.2.2.2.2.2.1, q19.1, q19.2, upd x.2.2.2.2.2.2.2.2.2.2.2.2.2.2.2.2.2 (p1.toNatClampNeg) q1)]) (L' := [w_Model E a o (x.1, x.2.1, x.2.2.1, x.2.2.2.1, x.2.2.2.2.1, x.2.2.2.2.2.1, x.2.2.2.2.2.2.1, x.2.2.2.2.2.2.2.1, x.2.2.2.2.2.2.2.2.1, x.2.2.2.2.2.2.2.2.2.1, x.2.2.2.2.2.2.2.2.2.2.1, x.2.2.2.2.2.2.2.2.2.2.2.1, x.2.2.2.2.2.2.2.2.2.2.2.2.1, x.2.2.2.2.2.2.2.2.2.2.2.2.2.1, x.2.2.2.2.2.2.2.2.2.2.2.2.2.2.1, q19.1, q19.2, upd x.2.2.2.2.2.2.2.2.2.2.2.2.2.2.2.2.2 (p1.toNatClampNeg) q1)]) (va_runV (As := [.int 101]) (rest := []) ⟨hx, hb, hml, hown, ha⟩ (k_X11_needs l E a o (x.1, x.2.1, x.2.2.1, x.2.2.2.1, x.2.2.2.2.1, x.2.2.2.2.2.1, x.2.2.2.2.2.2.1, x.2.2.2.2.2.2.2.1, x.2.2.2.2.2.2.2.2.1, x.2.2.2.2.2.2.2.2.2.1, x.2.2.2.2.2.2.2.2.2.2.1, x.2.2.2.2.2.2.2.2.2.2.2.1, x.2.2.2.2.2.2.2.2.2.2.2.2.1, x.2.2.2.2.2.2.2.2.2.2.2.2.2.1, x.2.2.2.2.2.2.2.2.2.2.2.2.2.2.1, q18.1, q18.2, upd x.2.2.2.2.2.2.2.2.2.2.2.2.2.2.2.2.2 (p1.toNatClampNeg) q1) 101 q19 hq19 H.size) (cwV 1 ha (gi_V (fun _ h => h) mw2046 mw2048 mw62 mw87 mw2049) rfl rfl rfl hv_X11_needs ⟨(Nat.le_of_ble_eq_true rfl), (Nat.le_of_ble_eq_true rfl)⟩) ⟨pre_blind, va_recv hst.k (fr_P hP [0] rfl) (ci := 13) (q0 := 0) rfl rfl, pre_at hP hD hS hz hzs hst [0] (by decide) rfl rfl⟩ rfl rfl hl.1 rfl (lv_room (Nat.le_of_ble_eq_true rfl)) dX11_parsesCommand_344 ⟨(Nat.le_of_ble_eq_true rfl), (Nat.le_of_ble_eq_true rfl)⟩) hP hD hS hA [0] (by decide) rfl rfl rfl rfl (fun H locs hP hD hS => ?_)
    refine lv_aload_n hx hb dX11_parsesCommand_347 rfl (lv_at hl 1 rfl) ?_
    refine va_get (D := E.1) (ci := 13) (v := .ref (a (o + 8))) (C := RX11) (T := TX11) (N := 18) hx hb ha in_X11 hown hst.k hP 0 rfl rfl 17 (by decide) (ha _ mw1653) (fun _ h9 => h9) rfl dX11_parsesCommand_348 ?_
    refine lv_iload_n hx hb dX11_parsesCommand_351 rfl (lv_at hl 2 rfl) ?_
    refine lv_iconst (v := 1) hx hb dX11_parsesCommand_352 (by decide) ?_
    refine lv_iadd hx hb dX11_parsesCommand_353 ?_
    refine lv_aload_n hx hb dX11_parsesCommand_354 rfl (lv_at hl 1 rfl) ?_
    refine lv_iconst (v := 1) hx hb dX11_parsesCommand_355 (by decide) ?_
    refine lv_iconst (v := 1) hx hb dX11_parsesCommand_356 (by decide) ?_
    obtain ⟨q20, hq20, hF⟩ := q_bdi hF
    refine cl_i (Lc := [w_Model E a o (x.1, x.2.1, x.2.2.1, x.2.2.2.1, x.2.2.2.2.1, x.2.2.2.2.2.1, x.2.2.2.2.2.2.1, x.2.2.2.2.2.2.2.1, x.2.2.2.2.2.2.2.2.1, x.2.2.2.2.2.2.2.2.2.1, x.2.2.2.2.2.2.2.2.2.2.1, x.2.2.2.2.2.2.2.2.2.2.2.1, x.2.2.2.2.2.2.2.2.2.2.2.2.1, x.2.2.2.2.2.2.2.2.2.2.2.2.2.1, x.2.2.2.2.2.2.2.2.2.2.2.2.2.2.1, q19.1, q19.2, upd x.2.2.2.2.2.2.2.2.2.2.2.2.2.2.2.2.2 (p1.toNatClampNeg) q1)]) (Lc' := [w_Model E a o (x.1, x.2.1, x.2.2.1, x.2.2.2.1, x.2.2.2.2.1, x.2.2.2.2.2.1, x.2.2.2.2.2.2.1, x.2.2.2.2.2.2.2.1, x.2.2.2.2.2.2.2.2.1, x.2.2.2.2.2.2.2.2.2.1, x.2.2.2.2.2.2.2.2.2.2.1, x.2.2.2.2.2.2.2.2.2.2.2.1, x.2.2.2.2.2.2.2.2.2.2.2.2.1, x.2.2.2.2.2.2.2.2.2.2.2.2.2.1, x.2.2.2.2.2.2.2.2.2.2.2.2.2.2.1, q20.2.1, q20.2.2, upd x.2.2.2.2.2.2.2.2.2.2.2.2.2.2.2.2.2 (p1.toNatClampNeg) q1)]) (L' := [w_Model E a o (x.1, x.2.1, x.2.2.1, x.2.2.2.1, x.2.2.2.2.1, x.2.2.2.2.2.1, x.2.2.2.2.2.2.1, x.2.2.2.2.2.2.2.1, x.2.2.2.2.2.2.2.2.1, x.2.2.2.2.2.2.2.2.2.1, x.2.2.2.2.2.2.2.2.2.2.1, x.2.2.2.2.2.2.2.2.2.2.2.1, x.2.2.2.2.2.2.2.2.2.2.2.2.1, x.2.2.2.2.2.2.2.2.2.2.2.2.2.1, x.2.2.2.2.2.2.2.2.2.2.2.2.2.2.1, q20.2.1, q20.2.2, upd x.2.2.2.2.2.2.2.2.2.2.2.2.2.2.2.2.2 (p1.toNatClampNeg) q1)]) (rv := q20.1) (va_runV (As := [.int 1, .int 1]) (rest := [.int (p1 + 1), .ref (a (o + 8))]) ⟨hx, hb, hml, hown, ha⟩ (k_X11_afterBlank l E a o (x.1, x.2.1, x.2.2.1, x.2.2.2.1, x.2.2.2.2.1, x.2.2.2.2.2.1, x.2.2.2.2.2.2.1, x.2.2.2.2.2.2.2.1, x.2.2.2.2.2.2.2.2.1, x.2.2.2.2.2.2.2.2.2.1, x.2.2.2.2.2.2.2.2.2.2.1, x.2.2.2.2.2.2.2.2.2.2.2.1, x.2.2.2.2.2.2.2.2.2.2.2.2.1, x.2.2.2.2.2.2.2.2.2.2.2.2.2.1, x.2.2.2.2.2.2.2.2.2.2.2.2.2.2.1, q19.1, q19.2, upd x.2.2.2.2.2.2.2.2.2.2.2.2.2.2.2.2.2 (p1.toNatClampNeg) q1) 1 1 q20 hq20 H.size) (cwV 2 ha (gi_V (fun _ h => h) mw2050 mw2052 mw63 mw87 mw2053) rfl rfl rfl hv_X11_afterBlank ⟨(Nat.le_of_ble_eq_true rfl), (Nat.le_of_ble_eq_true rfl)⟩) ⟨pre_blind, va_recv hst.k (fr_P hP [0] rfl) (ci := 13) (q0 := 0) rfl rfl, pre_at hP hD hS hz hzs hst [0] (by decide) rfl rfl⟩ rfl rfl hl.1 rfl (lv_room (Nat.le_of_ble_eq_true rfl)) dX11_parsesCommand_357 ⟨(Nat.le_of_ble_eq_true rfl), (Nat.le_of_ble_eq_true rfl)⟩) hP hD hS hA [0] (by decide) rfl rfl rfl rfl (fun H locs hP hD hS => ?_)
    obtain ⟨g21, hF⟩ := q_gdi hF
    refine vi_iast hx hb hst.k hP hD hS 8 0 rfl rfl (k := (p1 + 1).toNatClampNeg) rfl g21 dX11_parsesCommand_360 (fun H locs hP hD hS => ?_)
    have hP : va_P E.1 vwCl (List.flatten [w_Model E a o (x.1, x.2.1, x.2.2.1, x.2.2.2.1, x.2.2.2.2.1, x.2.2.2.2.2.1, x.2.2.2.2.2.2.1, x.2.2.2.2.2.2.2.1, x.2.2.2.2.2.2.2.2.1, x.2.2.2.2.2.2.2.2.2.1, x.2.2.2.2.2.2.2.2.2.2.1, x.2.2.2.2.2.2.2.2.2.2.2.1, x.2.2.2.2.2.2.2.2.2.2.2.2.1, x.2.2.2.2.2.2.2.2.2.2.2.2.2.1, x.2.2.2.2.2.2.2.2.2.2.2.2.2.2.1, q20.2.1, q20.2.2, upd (upd x.2.2.2.2.2.2.2.2.2.2.2.2.2.2.2.2.2 (p1.toNatClampNeg) q1) ((p1 + 1).toNatClampNeg) q20.1)]) H := hP
    have hD : va_D A (List.flatten [w_Model E a o (x.1, x.2.1, x.2.2.1, x.2.2.2.1, x.2.2.2.2.1, x.2.2.2.2.2.1, x.2.2.2.2.2.2.1, x.2.2.2.2.2.2.2.1, x.2.2.2.2.2.2.2.2.1, x.2.2.2.2.2.2.2.2.2.1, x.2.2.2.2.2.2.2.2.2.2.1, x.2.2.2.2.2.2.2.2.2.2.2.1, x.2.2.2.2.2.2.2.2.2.2.2.2.1, x.2.2.2.2.2.2.2.2.2.2.2.2.2.1, x.2.2.2.2.2.2.2.2.2.2.2.2.2.2.1, q20.2.1, q20.2.2, upd (upd x.2.2.2.2.2.2.2.2.2.2.2.2.2.2.2.2.2 (p1.toNatClampNeg) q1) ((p1 + 1).toNatClampNeg) q20.1)]) := hD
    refine lv_aload_n hx hb dX11_parsesCommand_361 rfl (lv_at hl 1 rfl) ?_
    refine va_get (D := E.1) (ci := 13) (v := .ref (a (o + 8))) (C := RX11) (T := TX11) (N := 18) hx hb ha in_X11 hown hst.k hP 0 rfl rfl 17 (by decide) (ha _ mw1653) (fun _ h9 => h9) rfl dX11_parsesCommand_362 ?_
    refine lv_iload_n hx hb dX11_parsesCommand_365 rfl (lv_at hl 2 rfl) ?_
    refine lv_iconst (v := 2) hx hb dX11_parsesCommand_366 (by decide) ?_
    refine lv_iadd hx hb dX11_parsesCommand_367 ?_
    refine lv_aload_n hx hb dX11_parsesCommand_368 rfl (lv_at hl 1 rfl) ?_
    refine lv_iconst (v := 1) hx hb dX11_parsesCommand_369 (by decide) ?_
    refine lv_iconst (v := 2) hx hb dX11_parsesCommand_370 (by decide) ?_
    obtain ⟨q22, hq22, hF⟩ := q_bdi hF
    refine cl_i (Lc := [w_Model E a o (x.1, x.2.1, x.2.2.1, x.2.2.2.1, x.2.2.2.2.1, x.2.2.2.2.2.1, x.2.2.2.2.2.2.1, x.2.2.2.2.2.2.2.1, x.2.2.2.2.2.2.2.2.1, x.2.2.2.2.2.2.2.2.2.1, x.2.2.2.2.2.2.2.2.2.2.1, x.2.2.2.2.2.2.2.2.2.2.2.1, x.2.2.2.2.2.2.2.2.2.2.2.2.1, x.2.2.2.2.2.2.2.2.2.2.2.2.2.1, x.2.2.2.2.2.2.2.2.2.2.2.2.2.2.1, q20.2.1, q20.2.2, upd (upd x.2.2.2.2.2.2.2.2.2.2.2.2.2.2.2.2.2 (p1.toNatClampNeg) q1) ((p1 + 1).toNatClampNeg) q20.1)]) (Lc' := [w_Model E a o (x.1, x.2.1, x.2.2.1, x.2.2.2.1, x.2.2.2.2.1, x.2.2.2.2.2.1, x.2.2.2.2.2.2.1, x.2.2.2.2.2.2.2.1, x.2.2.2.2.2.2.2.2.1, x.2.2.2.2.2.2.2.2.2.1, x.2.2.2.2.2.2.2.2.2.2.1, x.2.2.2.2.2.2.2.2.2.2.2.1, x.2.2.2.2.2.2.2.2.2.2.2.2.1, x.2.2.2.2.2.2.2.2.2.2.2.2.2.1, x.2.2.2.2.2.2.2.2.2.2.2.2.2.2.1, q22.2.1, q22.2.2, upd (upd x.2.2.2.2.2.2.2.2.2.2.2.2.2.2.2.2.2 (p1.toNatClampNeg) q1) ((p1 + 1).toNatClampNeg) q20.1)]) (L' := [w_Model E a o (x.1, x.2.1, x.2.2.1, x.2.2.2.1, x.2.2.2.2.1, x.2.2.2.2.2.1, x.2.2.2.2.2.2.1, x.2.2.2.2.2.2.2.1, x.2.2.2.2.2.2.2.2.1, x.2.2.2.2.2.2.2.2.2.1, x.2.2.2.2.2.2.2.2.2.2.1, x.2.2.2.2.2.2.2.2.2.2.2.1, x.2.2.2.2.2.2.2.2.2.2.2.2.1, x.2.2.2.2.2.2.2.2.2.2.2.2.2.1, x.2.2.2.2.2.2.2.2.2.2.2.2.2.2.1, q22.2.1, q22.2.2, upd (upd x.2.2.2.2.2.2.2.2.2.2.2.2.2.2.2.2.2 (p1.toNatClampNeg) q1) ((p1 + 1).toNatClampNeg) q20.1)]) (rv := q22.1) (va_runV (As := [.int 1, .int 2]) (rest := [.int (p1 + 2), .ref (a (o + 8))]) ⟨hx, hb, hml, hown, ha⟩ (k_X11_afterBlank l E a o (x.1, x.2.1, x.2.2.1, x.2.2.2.1, x.2.2.2.2.1, x.2.2.2.2.2.1, x.2.2.2.2.2.2.1, x.2.2.2.2.2.2.2.1, x.2.2.2.2.2.2.2.2.1, x.2.2.2.2.2.2.2.2.2.1, x.2.2.2.2.2.2.2.2.2.2.1, x.2.2.2.2.2.2.2.2.2.2.2.1, x.2.2.2.2.2.2.2.2.2.2.2.2.1, x.2.2.2.2.2.2.2.2.2.2.2.2.2.1, x.2.2.2.2.2.2.2.2.2.2.2.2.2.2.1, q20.2.1, q20.2.2, upd (upd x.2.2.2.2.2.2.2.2.2.2.2.2.2.2.2.2.2 (p1.toNatClampNeg) q1) ((p1 + 1).toNatClampNeg) q20.1) 1 2 q22 hq22 H.size) (cwV 2 ha (gi_V (fun _ h => h) mw2050 mw2052 mw63 mw87 mw2053) rfl rfl rfl hv_X11_afterBlank ⟨(Nat.le_of_ble_eq_true rfl), (Nat.le_of_ble_eq_true rfl)⟩) ⟨pre_blind, va_recv hst.k (fr_P hP [0] rfl) (ci := 13) (q0 := 0) rfl rfl, pre_at hP hD hS hz hzs hst [0] (by decide) rfl rfl⟩ rfl rfl hl.1 rfl (lv_room (Nat.le_of_ble_eq_true rfl)) dX11_parsesCommand_371 ⟨(Nat.le_of_ble_eq_true rfl), (Nat.le_of_ble_eq_true rfl)⟩) hP hD hS hA [0] (by decide) rfl rfl rfl rfl (fun H locs hP hD hS => ?_)
    obtain ⟨g23, hF⟩ := q_gdi hF
    refine vi_iast hx hb hst.k hP hD hS 8 0 rfl rfl (k := (p1 + 2).toNatClampNeg) rfl g23 dX11_parsesCommand_374 (fun H locs hP hD hS => ?_)
    have hP : va_P E.1 vwCl (List.flatten [w_Model E a o (x.1, x.2.1, x.2.2.1, x.2.2.2.1, x.2.2.2.2.1, x.2.2.2.2.2.1, x.2.2.2.2.2.2.1, x.2.2.2.2.2.2.2.1, x.2.2.2.2.2.2.2.2.1, x.2.2.2.2.2.2.2.2.2.1, x.2.2.2.2.2.2.2.2.2.2.1, x.2.2.2.2.2.2.2.2.2.2.2.1, x.2.2.2.2.2.2.2.2.2.2.2.2.1, x.2.2.2.2.2.2.2.2.2.2.2.2.2.1, x.2.2.2.2.2.2.2.2.2.2.2.2.2.2.1, q22.2.1, q22.2.2, upd (upd (upd x.2.2.2.2.2.2.2.2.2.2.2.2.2.2.2.2.2 (p1.toNatClampNeg) q1) ((p1 + 1).toNatClampNeg) q20.1) ((p1 + 2).toNatClampNeg) q22.1)]) H := hP
    have hD : va_D A (List.flatten [w_Model E a o (x.1, x.2.1, x.2.2.1, x.2.2.2.1, x.2.2.2.2.1, x.2.2.2.2.2.1, x.2.2.2.2.2.2.1, x.2.2.2.2.2.2.2.1, x.2.2.2.2.2.2.2.2.1, x.2.2.2.2.2.2.2.2.2.1, x.2.2.2.2.2.2.2.2.2.2.1, x.2.2.2.2.2.2.2.2.2.2.2.1, x.2.2.2.2.2.2.2.2.2.2.2.2.1, x.2.2.2.2.2.2.2.2.2.2.2.2.2.1, x.2.2.2.2.2.2.2.2.2.2.2.2.2.2.1, q22.2.1, q22.2.2, upd (upd (upd x.2.2.2.2.2.2.2.2.2.2.2.2.2.2.2.2.2 (p1.toNatClampNeg) q1) ((p1 + 1).toNatClampNeg) q20.1) ((p1 + 2).toNatClampNeg) q22.1)]) := hD
    refine lv_goto (tgt := 393) hx hb dX11_parsesCommand_375 (by decide) ?_
    obtain rfl := Option.some.inj hF
    exact en_v hQ (Nat.le_of_ble_eq_true rfl) (Nat.le_of_ble_eq_true rfl) hx hb hr hlocks hP hD hS dX11_parsesCommand_393
  have hF := q_brn w23_5 hF
  by_cases w23_6 : q1 = 104
  · have hF := q_brp w23_6 hF
    refine lv_tableIn (off := 355) (tgt := 378) hx hb dX11_parsesCommand_23 (by rw [w23_6]; decide) (by rw [w23_6]; decide) (by rw [w23_6]; decide) (by decide) ?_
    exact jJ378 H locs ls hF hP hD hS (lv_sub hl [1] rfl)
  have hF := q_brn w23_6 hF
  by_cases w23_7 : q1 = 105
  · have hF := q_brp w23_7 hF
    refine lv_tableIn (off := 355) (tgt := 378) hx hb dX11_parsesCommand_23 (by rw [w23_7]; decide) (by rw [w23_7]; decide) (by rw [w23_7]; decide) (by decide) ?_
    exact jJ378 H locs ls hF hP hD hS (lv_sub hl [1] rfl)
  have hF := q_brn w23_7 hF
  by_cases w23_8 : q1 = 106
  · have hF := q_brp w23_8 hF
    refine lv_tableIn (off := 355) (tgt := 378) hx hb dX11_parsesCommand_23 (by rw [w23_8]; decide) (by rw [w23_8]; decide) (by rw [w23_8]; decide) (by decide) ?_
    exact jJ378 H locs ls hF hP hD hS (lv_sub hl [1] rfl)
  have hF := q_brn w23_8 hF
  by_cases w23_9 : q1 = 107
  · have hF := q_brp w23_9 hF
    refine lv_tableIn (off := 218) (tgt := 241) hx hb dX11_parsesCommand_23 (by rw [w23_9]; decide) (by rw [w23_9]; decide) (by rw [w23_9]; decide) (by decide) ?_
    refine lv_aload_n hx hb dX11_parsesCommand_241 rfl (lv_at hl 1 rfl) ?_
    refine lv_iload_n hx hb dX11_parsesCommand_242 rfl (lv_at hl 2 rfl) ?_
    obtain ⟨q24, hq24, hF⟩ := q_bdi hF
    refine cl_v (Lc := [w_Model E a o (x.1, x.2.1, x.2.2.1, x.2.2.2.1, x.2.2.2.2.1, x.2.2.2.2.2.1, x.2.2.2.2.2.2.1, x.2.2.2.2.2.2.2.1, x.2.2.2.2.2.2.2.2.1, x.2.2.2.2.2.2.2.2.2.1, x.2.2.2.2.2.2.2.2.2.2.1, x.2.2.2.2.2.2.2.2.2.2.2.1, x.2.2.2.2.2.2.2.2.2.2.2.2.1, x.2.2.2.2.2.2.2.2.2.2.2.2.2.1, x.2.2.2.2.2.2.2.2.2.2.2.2.2.2.1, x.2.2.2.2.2.2.2.2.2.2.2.2.2.2.2.1 + 1, x.2.2.2.2.2.2.2.2.2.2.2.2.2.2.2.2.1, upd x.2.2.2.2.2.2.2.2.2.2.2.2.2.2.2.2.2 (p1.toNatClampNeg) q1)]) (Lc' := [w_Model E a o (x.1, x.2.1, x.2.2.1, x.2.2.2.1, x.2.2.2.2.1, x.2.2.2.2.2.1, x.2.2.2.2.2.2.1, x.2.2.2.2.2.2.2.1, x.2.2.2.2.2.2.2.2.1, x.2.2.2.2.2.2.2.2.2.1, x.2.2.2.2.2.2.2.2.2.2.1, x.2.2.2.2.2.2.2.2.2.2.2.1, x.2.2.2.2.2.2.2.2.2.2.2.2.1, x.2.2.2.2.2.2.2.2.2.2.2.2.2.1, x.2.2.2.2.2.2.2.2.2.2.2.2.2.2.1, q24.1, q24.2.1, q24.2.2)]) (L' := [w_Model E a o (x.1, x.2.1, x.2.2.1, x.2.2.2.1, x.2.2.2.2.1, x.2.2.2.2.2.1, x.2.2.2.2.2.2.1, x.2.2.2.2.2.2.2.1, x.2.2.2.2.2.2.2.2.1, x.2.2.2.2.2.2.2.2.2.1, x.2.2.2.2.2.2.2.2.2.2.1, x.2.2.2.2.2.2.2.2.2.2.2.1, x.2.2.2.2.2.2.2.2.2.2.2.2.1, x.2.2.2.2.2.2.2.2.2.2.2.2.2.1, x.2.2.2.2.2.2.2.2.2.2.2.2.2.2.1, q24.1, q24.2.1, q24.2.2)]) (va_runV (As := [.int p1]) (rest := []) ⟨hx, hb, hml, hown, ha⟩ (k_X11_parsesKey l E a o (x.1, x.2.1, x.2.2.1, x.2.2.2.1, x.2.2.2.2.1, x.2.2.2.2.2.1, x.2.2.2.2.2.2.1, x.2.2.2.2.2.2.2.1, x.2.2.2.2.2.2.2.2.1, x.2.2.2.2.2.2.2.2.2.1, x.2.2.2.2.2.2.2.2.2.2.1, x.2.2.2.2.2.2.2.2.2.2.2.1, x.2.2.2.2.2.2.2.2.2.2.2.2.1, x.2.2.2.2.2.2.2.2.2.2.2.2.2.1, x.2.2.2.2.2.2.2.2.2.2.2.2.2.2.1, x.2.2.2.2.2.2.2.2.2.2.2.2.2.2.2.1 + 1, x.2.2.2.2.2.2.2.2.2.2.2.2.2.2.2.2.1, upd x.2.2.2.2.2.2.2.2.2.2.2.2.2.2.2.2.2 (p1.toNatClampNeg) q1) p1 q24 hq24 H.size) (cwV 1 ha (gi_V (fun _ h => h) mw2066 mw2068 mw67 mw87 mw2069) rfl rfl rfl hv_X11_parsesKey ⟨(Nat.le_of_ble_eq_true rfl), (Nat.le_of_ble_eq_true rfl)⟩) ⟨pre_blind, va_recv hst.k (fr_P hP [0] rfl) (ci := 13) (q0 := 0) rfl rfl, pre_at hP hD hS hz hzs hst [0] (by decide) rfl rfl⟩ rfl rfl hl.1 rfl (lv_room (Nat.le_of_ble_eq_true rfl)) dX11_parsesCommand_243 ⟨(Nat.le_of_ble_eq_true rfl), (Nat.le_of_ble_eq_true rfl)⟩) hP hD hS hA [0] (by decide) rfl rfl rfl rfl (fun H locs hP hD hS => ?_)
    refine lv_goto (tgt := 393) hx hb dX11_parsesCommand_246 (by decide) ?_
    obtain rfl := Option.some.inj hF
    exact en_v hQ (Nat.le_of_ble_eq_true rfl) (Nat.le_of_ble_eq_true rfl) hx hb hr hlocks hP hD hS dX11_parsesCommand_393
  have hF := q_brn w23_9 hF
  by_cases w23_10 : q1 = 108
  · have hF := q_brp w23_10 hF
    refine lv_tableIn (off := 355) (tgt := 378) hx hb dX11_parsesCommand_23 (by rw [w23_10]; decide) (by rw [w23_10]; decide) (by rw [w23_10]; decide) (by decide) ?_
    exact jJ378 H locs ls hF hP hD hS (lv_sub hl [1] rfl)
  have hF := q_brn w23_10 hF
  by_cases w23_11 : q1 = 109
  · have hF := q_brp w23_11 hF
    refine lv_tableIn (off := 177) (tgt := 200) hx hb dX11_parsesCommand_23 (by rw [w23_11]; decide) (by rw [w23_11]; decide) (by rw [w23_11]; decide) (by decide) ?_
    refine lv_aload_n hx hb dX11_parsesCommand_200 rfl (lv_at hl 1 rfl) ?_
    refine lv_bipush (v := 111) hx hb dX11_parsesCommand_201 (by decide) ?_
    refine lv_bipush (v := 118) hx hb dX11_parsesCommand_203 (by decide) ?_
    refine lv_bipush (v := 101) hx hb dX11_parsesCommand_205 (by decide) ?_
    obtain ⟨q25, hq25, hF⟩ := q_bdi hF
    refine cl_v (Lc := [w_Model E a o (x.1, x.2.1, x.2.2.1, x.2.2.2.1, x.2.2.2.2.1, x.2.2.2.2.2.1, x.2.2.2.2.2.2.1, x.2.2.2.2.2.2.2.1, x.2.2.2.2.2.2.2.2.1, x.2.2.2.2.2.2.2.2.2.1, x.2.2.2.2.2.2.2.2.2.2.1, x.2.2.2.2.2.2.2.2.2.2.2.1, x.2.2.2.2.2.2.2.2.2.2.2.2.1, x.2.2.2.2.2.2.2.2.2.2.2.2.2.1, x.2.2.2.2.2.2.2.2.2.2.2.2.2.2.1, x.2.2.2.2.2.2.2.2.2.2.2.2.2.2.2.1 + 1, x.2.2.2.2.2.2.2.2.2.2.2.2.2.2.2.2.1, upd x.2.2.2.2.2.2.2.2.2.2.2.2.2.2.2.2.2 (p1.toNatClampNeg) q1)]) (Lc' := [w_Model E a o (x.1, x.2.1, x.2.2.1, x.2.2.2.1, x.2.2.2.2.1, x.2.2.2.2.2.1, x.2.2.2.2.2.2.1, x.2.2.2.2.2.2.2.1, x.2.2.2.2.2.2.2.2.1, x.2.2.2.2.2.2.2.2.2.1, x.2.2.2.2.2.2.2.2.2.2.1, x.2.2.2.2.2.2.2.2.2.2.2.1, x.2.2.2.2.2.2.2.2.2.2.2.2.1, x.2.2.2.2.2.2.2.2.2.2.2.2.2.1, x.2.2.2.2.2.2.2.2.2.2.2.2.2.2.1, q25.1, q25.2, upd x.2.2.2.2.2.2.2.2.2.2.2.2.2.2.2.2.2 (p1.toNatClampNeg) q1)]) (L' := [w_Model E a o (x.1, x.2.1, x.2.2.1, x.2.2.2.1, x.2.2.2.2.1, x.2.2.2.2.2.1, x.2.2.2.2.2.2.1, x.2.2.2.2.2.2.2.1, x.2.2.2.2.2.2.2.2.1, x.2.2.2.2.2.2.2.2.2.1, x.2.2.2.2.2.2.2.2.2.2.1, x.2.2.2.2.2.2.2.2.2.2.2.1, x.2.2.2.2.2.2.2.2.2.2.2.2.1, x.2.2.2.2.2.2.2.2.2.2.2.2.2.1, x.2.2.2.2.2.2.2.2.2.2.2.2.2.2.1, q25.1, q25.2, upd x.2.2.2.2.2.2.2.2.2.2.2.2.2.2.2.2.2 (p1.toNatClampNeg) q1)]) (va_runV (As := [.int 111, .int 118, .int 101]) (rest := []) ⟨hx, hb, hml, hown, ha⟩ (k_X11_needsThree l E a o (x.1, x.2.1, x.2.2.1, x.2.2.2.1, x.2.2.2.2.1, x.2.2.2.2.2.1, x.2.2.2.2.2.2.1, x.2.2.2.2.2.2.2.1, x.2.2.2.2.2.2.2.2.1, x.2.2.2.2.2.2.2.2.2.1, x.2.2.2.2.2.2.2.2.2.2.1, x.2.2.2.2.2.2.2.2.2.2.2.1, x.2.2.2.2.2.2.2.2.2.2.2.2.1, x.2.2.2.2.2.2.2.2.2.2.2.2.2.1, x.2.2.2.2.2.2.2.2.2.2.2.2.2.2.1, x.2.2.2.2.2.2.2.2.2.2.2.2.2.2.2.1 + 1, x.2.2.2.2.2.2.2.2.2.2.2.2.2.2.2.2.1, upd x.2.2.2.2.2.2.2.2.2.2.2.2.2.2.2.2.2 (p1.toNatClampNeg) q1) 111 118 101 q25 hq25 H.size) (cwV 3 ha (gi_V (fun _ h => h) mw2042 mw2044 mw61 mw87 mw2045) rfl rfl rfl hv_X11_needsThree ⟨(Nat.le_of_ble_eq_true rfl), (Nat.le_of_ble_eq_true rfl)⟩) ⟨pre_blind, va_recv hst.k (fr_P hP [0] rfl) (ci := 13) (q0 := 0) rfl rfl, pre_at hP hD hS hz hzs hst [0] (by decide) rfl rfl⟩ rfl rfl hl.1 rfl (lv_room (Nat.le_of_ble_eq_true rfl)) dX11_parsesCommand_207 ⟨(Nat.le_of_ble_eq_true rfl), (Nat.le_of_ble_eq_true rfl)⟩) hP hD hS hA [0] (by decide) rfl rfl rfl rfl (fun H locs hP hD hS => ?_)
    refine lv_aload_n hx hb dX11_parsesCommand_210 rfl (lv_at hl 1 rfl) ?_
    refine va_get (D := E.1) (ci := 13) (v := .ref (a (o + 8))) (C := RX11) (T := TX11) (N := 18) hx hb ha in_X11 hown hst.k hP 0 rfl rfl 17 (by decide) (ha _ mw1653) (fun _ h9 => h9) rfl dX11_parsesCommand_211 ?_
    refine lv_iload_n hx hb dX11_parsesCommand_214 rfl (lv_at hl 2 rfl) ?_
    refine lv_iconst (v := 1) hx hb dX11_parsesCommand_215 (by decide) ?_
    refine lv_iadd hx hb dX11_parsesCommand_216 ?_
    refine lv_aload_n hx hb dX11_parsesCommand_217 rfl (lv_at hl 1 rfl) ?_
    refine lv_iconst (v := 1) hx hb dX11_parsesCommand_218 (by decide) ?_
    refine lv_iconst (v := 2) hx hb dX11_parsesCommand_219 (by decide) ?_
    obtain ⟨q26, hq26, hF⟩ := q_bdi hF
    refine cl_i (Lc := [w_Model E a o (x.1, x.2.1, x.2.2.1, x.2.2.2.1, x.2.2.2.2.1, x.2.2.2.2.2.1, x.2.2.2.2.2.2.1, x.2.2.2.2.2.2.2.1, x.2.2.2.2.2.2.2.2.1, x.2.2.2.2.2.2.2.2.2.1, x.2.2.2.2.2.2.2.2.2.2.1, x.2.2.2.2.2.2.2.2.2.2.2.1, x.2.2.2.2.2.2.2.2.2.2.2.2.1, x.2.2.2.2.2.2.2.2.2.2.2.2.2.1, x.2.2.2.2.2.2.2.2.2.2.2.2.2.2.1, q25.1, q25.2, upd x.2.2.2.2.2.2.2.2.2.2.2.2.2.2.2.2.2 (p1.toNatClampNeg) q1)]) (Lc' := [w_Model E a o (x.1, x.2.1, x.2.2.1, x.2.2.2.1, x.2.2.2.2.1, x.2.2.2.2.2.1, x.2.2.2.2.2.2.1, x.2.2.2.2.2.2.2.1, x.2.2.2.2.2.2.2.2.1, x.2.2.2.2.2.2.2.2.2.1, x.2.2.2.2.2.2.2.2.2.2.1, x.2.2.2.2.2.2.2.2.2.2.2.1, x.2.2.2.2.2.2.2.2.2.2.2.2.1, x.2.2.2.2.2.2.2.2.2.2.2.2.2.1, x.2.2.2.2.2.2.2.2.2.2.2.2.2.2.1, q26.2.1, q26.2.2, upd x.2.2.2.2.2.2.2.2.2.2.2.2.2.2.2.2.2 (p1.toNatClampNeg) q1)]) (L' := [w_Model E a o (x.1, x.2.1, x.2.2.1, x.2.2.2.1, x.2.2.2.2.1, x.2.2.2.2.2.1, x.2.2.2.2.2.2.1, x.2.2.2.2.2.2.2.1, x.2.2.2.2.2.2.2.2.1, x.2.2.2.2.2.2.2.2.2.1, x.2.2.2.2.2.2.2.2.2.2.1, x.2.2.2.2.2.2.2.2.2.2.2.1, x.2.2.2.2.2.2.2.2.2.2.2.2.1, x.2.2.2.2.2.2.2.2.2.2.2.2.2.1, x.2.2.2.2.2.2.2.2.2.2.2.2.2.2.1, q26.2.1, q26.2.2, upd x.2.2.2.2.2.2.2.2.2.2.2.2.2.2.2.2.2 (p1.toNatClampNeg) q1)]) (rv := q26.1) (va_runV (As := [.int 1, .int 2]) (rest := [.int (p1 + 1), .ref (a (o + 8))]) ⟨hx, hb, hml, hown, ha⟩ (k_X11_afterBlank l E a o (x.1, x.2.1, x.2.2.1, x.2.2.2.1, x.2.2.2.2.1, x.2.2.2.2.2.1, x.2.2.2.2.2.2.1, x.2.2.2.2.2.2.2.1, x.2.2.2.2.2.2.2.2.1, x.2.2.2.2.2.2.2.2.2.1, x.2.2.2.2.2.2.2.2.2.2.1, x.2.2.2.2.2.2.2.2.2.2.2.1, x.2.2.2.2.2.2.2.2.2.2.2.2.1, x.2.2.2.2.2.2.2.2.2.2.2.2.2.1, x.2.2.2.2.2.2.2.2.2.2.2.2.2.2.1, q25.1, q25.2, upd x.2.2.2.2.2.2.2.2.2.2.2.2.2.2.2.2.2 (p1.toNatClampNeg) q1) 1 2 q26 hq26 H.size) (cwV 2 ha (gi_V (fun _ h => h) mw2050 mw2052 mw63 mw87 mw2053) rfl rfl rfl hv_X11_afterBlank ⟨(Nat.le_of_ble_eq_true rfl), (Nat.le_of_ble_eq_true rfl)⟩) ⟨pre_blind, va_recv hst.k (fr_P hP [0] rfl) (ci := 13) (q0 := 0) rfl rfl, pre_at hP hD hS hz hzs hst [0] (by decide) rfl rfl⟩ rfl rfl hl.1 rfl (lv_room (Nat.le_of_ble_eq_true rfl)) dX11_parsesCommand_220 ⟨(Nat.le_of_ble_eq_true rfl), (Nat.le_of_ble_eq_true rfl)⟩) hP hD hS hA [0] (by decide) rfl rfl rfl rfl (fun H locs hP hD hS => ?_)
    obtain ⟨g27, hF⟩ := q_gdi hF
    refine vi_iast hx hb hst.k hP hD hS 8 0 rfl rfl (k := (p1 + 1).toNatClampNeg) rfl g27 dX11_parsesCommand_223 (fun H locs hP hD hS => ?_)
    have hP : va_P E.1 vwCl (List.flatten [w_Model E a o (x.1, x.2.1, x.2.2.1, x.2.2.2.1, x.2.2.2.2.1, x.2.2.2.2.2.1, x.2.2.2.2.2.2.1, x.2.2.2.2.2.2.2.1, x.2.2.2.2.2.2.2.2.1, x.2.2.2.2.2.2.2.2.2.1, x.2.2.2.2.2.2.2.2.2.2.1, x.2.2.2.2.2.2.2.2.2.2.2.1, x.2.2.2.2.2.2.2.2.2.2.2.2.1, x.2.2.2.2.2.2.2.2.2.2.2.2.2.1, x.2.2.2.2.2.2.2.2.2.2.2.2.2.2.1, q26.2.1, q26.2.2, upd (upd x.2.2.2.2.2.2.2.2.2.2.2.2.2.2.2.2.2 (p1.toNatClampNeg) q1) ((p1 + 1).toNatClampNeg) q26.1)]) H := hP
    have hD : va_D A (List.flatten [w_Model E a o (x.1, x.2.1, x.2.2.1, x.2.2.2.1, x.2.2.2.2.1, x.2.2.2.2.2.1, x.2.2.2.2.2.2.1, x.2.2.2.2.2.2.2.1, x.2.2.2.2.2.2.2.2.1, x.2.2.2.2.2.2.2.2.2.1, x.2.2.2.2.2.2.2.2.2.2.1, x.2.2.2.2.2.2.2.2.2.2.2.1, x.2.2.2.2.2.2.2.2.2.2.2.2.1, x.2.2.2.2.2.2.2.2.2.2.2.2.2.1, x.2.2.2.2.2.2.2.2.2.2.2.2.2.2.1, q26.2.1, q26.2.2, upd (upd x.2.2.2.2.2.2.2.2.2.2.2.2.2.2.2.2.2 (p1.toNatClampNeg) q1) ((p1 + 1).toNatClampNeg) q26.1)]) := hD
    refine lv_aload_n hx hb dX11_parsesCommand_224 rfl (lv_at hl 1 rfl) ?_
    refine va_get (D := E.1) (ci := 13) (v := .ref (a (o + 8))) (C := RX11) (T := TX11) (N := 18) hx hb ha in_X11 hown hst.k hP 0 rfl rfl 17 (by decide) (ha _ mw1653) (fun _ h9 => h9) rfl dX11_parsesCommand_225 ?_
    refine lv_iload_n hx hb dX11_parsesCommand_228 rfl (lv_at hl 2 rfl) ?_
    refine lv_iconst (v := 2) hx hb dX11_parsesCommand_229 (by decide) ?_
    refine lv_iadd hx hb dX11_parsesCommand_230 ?_
    refine lv_aload_n hx hb dX11_parsesCommand_231 rfl (lv_at hl 1 rfl) ?_
    refine lv_iconst (v := 1) hx hb dX11_parsesCommand_232 (by decide) ?_
    refine lv_iconst (v := 1) hx hb dX11_parsesCommand_233 (by decide) ?_
    obtain ⟨q28, hq28, hF⟩ := q_bdi hF
    refine cl_i (Lc := [w_Model E a o (x.1, x.2.1, x.2.2.1, x.2.2.2.1, x.2.2.2.2.1, x.2.2.2.2.2.1, x.2.2.2.2.2.2.1, x.2.2.2.2.2.2.2.1, x.2.2.2.2.2.2.2.2.1, x.2.2.2.2.2.2.2.2.2.1, x.2.2.2.2.2.2.2.2.2.2.1, x.2.2.2.2.2.2.2.2.2.2.2.1, x.2.2.2.2.2.2.2.2.2.2.2.2.1, x.2.2.2.2.2.2.2.2.2.2.2.2.2.1, x.2.2.2.2.2.2.2.2.2.2.2.2.2.2.1, q26.2.1, q26.2.2, upd (upd x.2.2.2.2.2.2.2.2.2.2.2.2.2.2.2.2.2 (p1.toNatClampNeg) q1) ((p1 + 1).toNatClampNeg) q26.1)]) (Lc' := [w_Model E a o (x.1, x.2.1, x.2.2.1, x.2.2.2.1, x.2.2.2.2.1, x.2.2.2.2.2.1, x.2.2.2.2.2.2.1, x.2.2.2.2.2.2.2.1, x.2.2.2.2.2.2.2.2.1, x.2.2.2.2.2.2.2.2.2.1, x.2.2.2.2.2.2.2.2.2.2.1, x.2.2.2.2.2.2.2.2.2.2.2.1, x.2.2.2.2.2.2.2.2.2.2.2.2.1, x.2.2.2.2.2.2.2.2.2.2.2.2.2.1, x.2.2.2.2.2.2.2.2.2.2.2.2.2.2.1, q28.2.1, q28.2.2, upd (upd x.2.2.2.2.2.2.2.2.2.2.2.2.2.2.2.2.2 (p1.toNatClampNeg) q1) ((p1 + 1).toNatClampNeg) q26.1)]) (L' := [w_Model E a o (x.1, x.2.1, x.2.2.1, x.2.2.2.1, x.2.2.2.2.1, x.2.2.2.2.2.1, x.2.2.2.2.2.2.1, x.2.2.2.2.2.2.2.1, x.2.2.2.2.2.2.2.2.1, x.2.2.2.2.2.2.2.2.2.1, x.2.2.2.2.2.2.2.2.2.2.1, x.2.2.2.2.2.2.2.2.2.2.2.1, x.2.2.2.2.2.2.2.2.2.2.2.2.1, x.2.2.2.2.2.2.2.2.2.2.2.2.2.1, x.2.2.2.2.2.2.2.2.2.2.2.2.2.2.1, q28.2.1, q28.2.2, upd (upd x.2.2.2.2.2.2.2.2.2.2.2.2.2.2.2.2.2 (p1.toNatClampNeg) q1) ((p1 + 1).toNatClampNeg) q26.1)]) (rv := q28.1) (va_runV (As := [.int 1, .int 1]) (rest := [.int (p1 + 2), .ref (a (o + 8))]) ⟨hx, hb, hml, hown, ha⟩ (k_X11_afterBlank l E a o (x.1, x.2.1, x.2.2.1, x.2.2.2.1, x.2.2.2.2.1, x.2.2.2.2.2.1, x.2.2.2.2.2.2.1, x.2.2.2.2.2.2.2.1, x.2.2.2.2.2.2.2.2.1, x.2.2.2.2.2.2.2.2.2.1, x.2.2.2.2.2.2.2.2.2.2.1, x.2.2.2.2.2.2.2.2.2.2.2.1, x.2.2.2.2.2.2.2.2.2.2.2.2.1, x.2.2.2.2.2.2.2.2.2.2.2.2.2.1, x.2.2.2.2.2.2.2.2.2.2.2.2.2.2.1, q26.2.1, q26.2.2, upd (upd x.2.2.2.2.2.2.2.2.2.2.2.2.2.2.2.2.2 (p1.toNatClampNeg) q1) ((p1 + 1).toNatClampNeg) q26.1) 1 1 q28 hq28 H.size) (cwV 2 ha (gi_V (fun _ h => h) mw2050 mw2052 mw63 mw87 mw2053) rfl rfl rfl hv_X11_afterBlank ⟨(Nat.le_of_ble_eq_true rfl), (Nat.le_of_ble_eq_true rfl)⟩) ⟨pre_blind, va_recv hst.k (fr_P hP [0] rfl) (ci := 13) (q0 := 0) rfl rfl, pre_at hP hD hS hz hzs hst [0] (by decide) rfl rfl⟩ rfl rfl hl.1 rfl (lv_room (Nat.le_of_ble_eq_true rfl)) dX11_parsesCommand_234 ⟨(Nat.le_of_ble_eq_true rfl), (Nat.le_of_ble_eq_true rfl)⟩) hP hD hS hA [0] (by decide) rfl rfl rfl rfl (fun H locs hP hD hS => ?_)
    obtain ⟨g29, hF⟩ := q_gdi hF
    refine vi_iast hx hb hst.k hP hD hS 8 0 rfl rfl (k := (p1 + 2).toNatClampNeg) rfl g29 dX11_parsesCommand_237 (fun H locs hP hD hS => ?_)
    have hP : va_P E.1 vwCl (List.flatten [w_Model E a o (x.1, x.2.1, x.2.2.1, x.2.2.2.1, x.2.2.2.2.1, x.2.2.2.2.2.1, x.2.2.2.2.2.2.1, x.2.2.2.2.2.2.2.1, x.2.2.2.2.2.2.2.2.1, x.2.2.2.2.2.2.2.2.2.1, x.2.2.2.2.2.2.2.2.2.2.1, x.2.2.2.2.2.2.2.2.2.2.2.1, x.2.2.2.2.2.2.2.2.2.2.2.2.1, x.2.2.2.2.2.2.2.2.2.2.2.2.2.1, x.2.2.2.2.2.2.2.2.2.2.2.2.2.2.1, q28.2.1, q28.2.2, upd (upd (upd x.2.2.2.2.2.2.2.2.2.2.2.2.2.2.2.2.2 (p1.toNatClampNeg) q1) ((p1 + 1).toNatClampNeg) q26.1) ((p1 + 2).toNatClampNeg) q28.1)]) H := hP
    have hD : va_D A (List.flatten [w_Model E a o (x.1, x.2.1, x.2.2.1, x.2.2.2.1, x.2.2.2.2.1, x.2.2.2.2.2.1, x.2.2.2.2.2.2.1, x.2.2.2.2.2.2.2.1, x.2.2.2.2.2.2.2.2.1, x.2.2.2.2.2.2.2.2.2.1, x.2.2.2.2.2.2.2.2.2.2.1, x.2.2.2.2.2.2.2.2.2.2.2.1, x.2.2.2.2.2.2.2.2.2.2.2.2.1, x.2.2.2.2.2.2.2.2.2.2.2.2.2.1, x.2.2.2.2.2.2.2.2.2.2.2.2.2.2.1, q28.2.1, q28.2.2, upd (upd (upd x.2.2.2.2.2.2.2.2.2.2.2.2.2.2.2.2.2 (p1.toNatClampNeg) q1) ((p1 + 1).toNatClampNeg) q26.1) ((p1 + 2).toNatClampNeg) q28.1)]) := hD
    refine lv_goto (tgt := 393) hx hb dX11_parsesCommand_238 (by decide) ?_
    obtain rfl := Option.some.inj hF
    exact en_v hQ (Nat.le_of_ble_eq_true rfl) (Nat.le_of_ble_eq_true rfl) hx hb hr hlocks hP hD hS dX11_parsesCommand_393
  have hF := q_brn w23_11 hF
  by_cases w23_12 : q1 = 110
  · have hF := q_brp w23_12 hF
    refine lv_tableIn (off := 355) (tgt := 378) hx hb dX11_parsesCommand_23 (by rw [w23_12]; decide) (by rw [w23_12]; decide) (by rw [w23_12]; decide) (by decide) ?_
    exact jJ378 H locs ls hF hP hD hS (lv_sub hl [1] rfl)
  have hF := q_brn w23_12 hF
  by_cases w23_13 : q1 = 111
  · have hF := q_brp w23_13 hF
    refine lv_tableIn (off := 355) (tgt := 378) hx hb dX11_parsesCommand_23 (by rw [w23_13]; decide) (by rw [w23_13]; decide) (by rw [w23_13]; decide) (by decide) ?_
    exact jJ378 H locs ls hF hP hD hS (lv_sub hl [1] rfl)
  have hF := q_brn w23_13 hF
  by_cases w23_14 : q1 = 112
  · have hF := q_brp w23_14 hF
    refine lv_tableIn (off := 355) (tgt := 378) hx hb dX11_parsesCommand_23 (by rw [w23_14]; decide) (by rw [w23_14]; decide) (by rw [w23_14]; decide) (by decide) ?_
    exact jJ378 H locs ls hF hP hD hS (lv_sub hl [1] rfl)
  have hF := q_brn w23_14 hF
  by_cases w23_15 : q1 = 113
  · have hF := q_brp w23_15 hF
    refine lv_tableIn (off := 355) (tgt := 378) hx hb dX11_parsesCommand_23 (by rw [w23_15]; decide) (by rw [w23_15]; decide) (by rw [w23_15]; decide) (by decide) ?_
    exact jJ378 H locs ls hF hP hD hS (lv_sub hl [1] rfl)
  have hF := q_brn w23_15 hF
  by_cases w23_16 : q1 = 114
  · have hF := q_brp w23_16 hF
    refine lv_tableIn (off := 130) (tgt := 153) hx hb dX11_parsesCommand_23 (by rw [w23_16]; decide) (by rw [w23_16]; decide) (by rw [w23_16]; decide) (by decide) ?_
    refine lv_aload_n hx hb dX11_parsesCommand_153 rfl (lv_at hl 1 rfl) ?_
    refine lv_bipush (v := 101) hx hb dX11_parsesCommand_154 (by decide) ?_
    refine lv_bipush (v := 109) hx hb dX11_parsesCommand_156 (by decide) ?_
    refine lv_bipush (v := 111) hx hb dX11_parsesCommand_158 (by decide) ?_
    obtain ⟨q30, hq30, hF⟩ := q_bdi hF
    refine cl_v (Lc := [w_Model E a o (x.1, x.2.1, x.2.2.1, x.2.2.2.1, x.2.2.2.2.1, x.2.2.2.2.2.1, x.2.2.2.2.2.2.1, x.2.2.2.2.2.2.2.1, x.2.2.2.2.2.2.2.2.1, x.2.2.2.2.2.2.2.2.2.1, x.2.2.2.2.2.2.2.2.2.2.1, x.2.2.2.2.2.2.2.2.2.2.2.1, x.2.2.2.2.2.2.2.2.2.2.2.2.1, x.2.2.2.2.2.2.2.2.2.2.2.2.2.1, x.2.2.2.2.2.2.2.2.2.2.2.2.2.2.1, x.2.2.2.2.2.2.2.2.2.2.2.2.2.2.2.1 + 1, x.2.2.2.2.2.2.2.2.2.2.2.2.2.2.2.2.1, upd x.2.2.2.2.2.2.2.2.2.2.2.2.2.2.2.2.2 (p1.toNatClampNeg) q1)]) (Lc' := [w_Model E a o (x.1, x.2.1, x.2.2.1, x.2.2.2.1, x.2.2.2.2.1, x.2.2.2.2.2.1, x.2.2.2.2.2.2.1, x.2.2.2.2.2.2.2.1, x.2.2.2.2.2.2.2.2.1, x.2.2.2.2.2.2.2.2.2.1, x.2.2.2.2.2.2.2.2.2.2.1, x.2.2.2.2.2.2.2.2.2.2.2.1, x.2.2.2.2.2.2.2.2.2.2.2.2.1, x.2.2.2.2.2.2.2.2.2.2.2.2.2.1, x.2.2.2.2.2.2.2.2.2.2.2.2.2.2.1, q30.1, q30.2, upd x.2.2.2.2.2.2.2.2.2.2.2.2.2.2.2.2.2 (p1.toNatClampNeg) q1)]) (L' := [w_Model E a o (x.1, x.2.1, x.2.2.1, x.2.2.2.1, x.2.2.2.2.1, x.2.2.2.2.2.1, x.2.2.2.2.2.2.1, x.2.2.2.2.2.2.2.1, x.2.2.2.2.2.2.2.2.1, x.2.2.2.2.2.2.2.2.2.1, x.2.2.2.2.2.2.2.2.2.2.1, x.2.2.2.2.2.2.2.2.2.2.2.1, x.2.2.2.2.2.2.2.2.2.2.2.2.1, x.2.2.2.2.2.2.2.2.2.2.2.2.2.1, x.2.2.2.2.2.2.2.2.2.2.2.2.2.2.1, q30.1, q30.2, upd x.2.2.2.2.2.2.2.2.2.2.2.2.2.2.2.2.2 (p1.toNatClampNeg) q1)]) (va_runV (As := [.int 101, .int 109, .int 111]) (rest := []) ⟨hx, hb, hml, hown, ha⟩ (k_X11_needsThree l E a o (x.1, x.2.1, x.2.2.1, x.2.2.2.1, x.2.2.2.2.1, x.2.2.2.2.2.1, x.2.2.2.2.2.2.1, x.2.2.2.2.2.2.2.1, x.2.2.2.2.2.2.2.2.1, x.2.2.2.2.2.2.2.2.2.1, x.2.2.2.2.2.2.2.2.2.2.1, x.2.2.2.2.2.2.2.2.2.2.2.1, x.2.2.2.2.2.2.2.2.2.2.2.2.1, x.2.2.2.2.2.2.2.2.2.2.2.2.2.1, x.2.2.2.2.2.2.2.2.2.2.2.2.2.2.1, x.2.2.2.2.2.2.2.2.2.2.2.2.2.2.2.1 + 1, x.2.2.2.2.2.2.2.2.2.2.2.2.2.2.2.2.1, upd x.2.2.2.2.2.2.2.2.2.2.2.2.2.2.2.2.2 (p1.toNatClampNeg) q1) 101 109 111 q30 hq30 H.size) (cwV 3 ha (gi_V (fun _ h => h) mw2042 mw2044 mw61 mw87 mw2045) rfl rfl rfl hv_X11_needsThree ⟨(Nat.le_of_ble_eq_true rfl), (Nat.le_of_ble_eq_true rfl)⟩) ⟨pre_blind, va_recv hst.k (fr_P hP [0] rfl) (ci := 13) (q0 := 0) rfl rfl, pre_at hP hD hS hz hzs hst [0] (by decide) rfl rfl⟩ rfl rfl hl.1 rfl (lv_room (Nat.le_of_ble_eq_true rfl)) dX11_parsesCommand_160 ⟨(Nat.le_of_ble_eq_true rfl), (Nat.le_of_ble_eq_true rfl)⟩) hP hD hS hA [0] (by decide) rfl rfl rfl rfl (fun H locs hP hD hS => ?_)
    refine lv_aload_n hx hb dX11_parsesCommand_163 rfl (lv_at hl 1 rfl) ?_
    refine lv_bipush (v := 118) hx hb dX11_parsesCommand_164 (by decide) ?_
    obtain ⟨q31, hq31, hF⟩ := q_bdi hF
    refine cl_v (Lc := [w_Model E a o (x.1, x.2.1, x.2.2.1, x.2.2.2.1, x.2.2.2.2.1, x.2.2.2.2.2.1, x.2.2.2.2.2.2.1, x.2.2.2.2.2.2.2.1, x.2.2.2.2.2.2.2.2.1, x.2.2.2.2.2.2.2.2.2.1, x.2.2.2.2.2.2.2.2.2.2.1, x.2.2.2.2.2.2.2.2.2.2.2.1, x.2.2.2.2.2.2.2.2.2.2.2.2.1, x.2.2.2.2.2.2.2.2.2.2.2.2.2.1, x.2.2.2.2.2.2.2.2.2.2.2.2.2.2.1, q30.1, q30.2, upd x.2.2.2.2.2.2.2.2.2.2.2.2.2.2.2.2.2 (p1.toNatClampNeg) q1)]) (Lc' := [w_Model E a o (x.1, x.2.1, x.2.2.1, x.2.2.2.1, x.2.2.2.2.1, x.2.2.2.2.2.1, x.2.2.2.2.2.2.1, x.2.2.2.2.2.2.2.1, x.2.2.2.2.2.2.2.2.1, x.2.2.2.2.2.2.2.2.2.1, x.2.2.2.2.2.2.2.2.2.2.1, x.2.2.2.2.2.2.2.2.2.2.2.1, x.2.2.2.2.2.2.2.2.2.2.2.2.1, x.2.2.2.2.2.2.2.2.2.2.2.2.2.1, x.2.2.2.2.2.2.2.2.2.2.2.2.2.2.1, q31.1, q31.2, upd x.2.2.2.2.2.2.2.2.2.2.2.2.2.2.2.2.2 (p1.toNatClampNeg) q1)]) (L' := [w_Model E a o (x.1, x.2.1, x.2.2.1, x.2.2.2.1, x.2.2.2.2.1, x.2.2.2.2.2.1, x.2.2.2.2.2.2.1, x.2.2.2.2.2.2.2.1, x.2.2.2.2.2.2.2.2.1, x.2.2.2.2.2.2.2.2.2.1, x.2.2.2.2.2.2.2.2.2.2.1, x.2.2.2.2.2.2.2.2.2.2.2.1, x.2.2.2.2.2.2.2.2.2.2.2.2.1, x.2.2.2.2.2.2.2.2.2.2.2.2.2.1, x.2.2.2.2.2.2.2.2.2.2.2.2.2.2.1, q31.1, q31.2, upd x.2.2.2.2.2.2.2.2.2.2.2.2.2.2.2.2.2 (p1.toNatClampNeg) q1)]) (va_runV (As := [.int 118]) (rest := []) ⟨hx, hb, hml, hown, ha⟩ (k_X11_needs l E a o (x.1, x.2.1, x.2.2.1, x.2.2.2.1, x.2.2.2.2.1, x.2.2.2.2.2.1, x.2.2.2.2.2.2.1, x.2.2.2.2.2.2.2.1, x.2.2.2.2.2.2.2.2.1, x.2.2.2.2.2.2.2.2.2.1, x.2.2.2.2.2.2.2.2.2.2.1, x.2.2.2.2.2.2.2.2.2.2.2.1, x.2.2.2.2.2.2.2.2.2.2.2.2.1, x.2.2.2.2.2.2.2.2.2.2.2.2.2.1, x.2.2.2.2.2.2.2.2.2.2.2.2.2.2.1, q30.1, q30.2, upd x.2.2.2.2.2.2.2.2.2.2.2.2.2.2.2.2.2 (p1.toNatClampNeg) q1) 118 q31 hq31 H.size) (cwV 1 ha (gi_V (fun _ h => h) mw2046 mw2048 mw62 mw87 mw2049) rfl rfl rfl hv_X11_needs ⟨(Nat.le_of_ble_eq_true rfl), (Nat.le_of_ble_eq_true rfl)⟩) ⟨pre_blind, va_recv hst.k (fr_P hP [0] rfl) (ci := 13) (q0 := 0) rfl rfl, pre_at hP hD hS hz hzs hst [0] (by decide) rfl rfl⟩ rfl rfl hl.1 rfl (lv_room (Nat.le_of_ble_eq_true rfl)) dX11_parsesCommand_166 ⟨(Nat.le_of_ble_eq_true rfl), (Nat.le_of_ble_eq_true rfl)⟩) hP hD hS hA [0] (by decide) rfl rfl rfl rfl (fun H locs hP hD hS => ?_)
    refine lv_aload_n hx hb dX11_parsesCommand_169 rfl (lv_at hl 1 rfl) ?_
    refine lv_bipush (v := 101) hx hb dX11_parsesCommand_170 (by decide) ?_
    obtain ⟨q32, hq32, hF⟩ := q_bdi hF
    refine cl_v (Lc := [w_Model E a o (x.1, x.2.1, x.2.2.1, x.2.2.2.1, x.2.2.2.2.1, x.2.2.2.2.2.1, x.2.2.2.2.2.2.1, x.2.2.2.2.2.2.2.1, x.2.2.2.2.2.2.2.2.1, x.2.2.2.2.2.2.2.2.2.1, x.2.2.2.2.2.2.2.2.2.2.1, x.2.2.2.2.2.2.2.2.2.2.2.1, x.2.2.2.2.2.2.2.2.2.2.2.2.1, x.2.2.2.2.2.2.2.2.2.2.2.2.2.1, x.2.2.2.2.2.2.2.2.2.2.2.2.2.2.1, q31.1, q31.2, upd x.2.2.2.2.2.2.2.2.2.2.2.2.2.2.2.2.2 (p1.toNatClampNeg) q1)]) (Lc' := [w_Model E a o (x.1, x.2.1, x.2.2.1, x.2.2.2.1, x.2.2.2.2.1, x.2.2.2.2.2.1, x.2.2.2.2.2.2.1, x.2.2.2.2.2.2.2.1, x.2.2.2.2.2.2.2.2.1, x.2.2.2.2.2.2.2.2.2.1, x.2.2.2.2.2.2.2.2.2.2.1, x.2.2.2.2.2.2.2.2.2.2.2.1, x.2.2.2.2.2.2.2.2.2.2.2.2.1, x.2.2.2.2.2.2.2.2.2.2.2.2.2.1, x.2.2.2.2.2.2.2.2.2.2.2.2.2.2.1, q32.1, q32.2, upd x.2.2.2.2.2.2.2.2.2.2.2.2.2.2.2.2.2 (p1.toNatClampNeg) q1)]) (L' := [w_Model E a o (x.1, x.2.1, x.2.2.1, x.2.2.2.1, x.2.2.2.2.1, x.2.2.2.2.2.1, x.2.2.2.2.2.2.1, x.2.2.2.2.2.2.2.1, x.2.2.2.2.2.2.2.2.1, x.2.2.2.2.2.2.2.2.2.1, x.2.2.2.2.2.2.2.2.2.2.1, x.2.2.2.2.2.2.2.2.2.2.2.1, x.2.2.2.2.2.2.2.2.2.2.2.2.1, x.2.2.2.2.2.2.2.2.2.2.2.2.2.1, x.2.2.2.2.2.2.2.2.2.2.2.2.2.2.1, q32.1, q32.2, upd x.2.2.2.2.2.2.2.2.2.2.2.2.2.2.2.2.2 (p1.toNatClampNeg) q1)]) (va_runV (As := [.int 101]) (rest := []) ⟨hx, hb, hml, hown, ha⟩ (k_X11_needs l E a o (x.1, x.2.1, x.2.2.1, x.2.2.2.1, x.2.2.2.2.1, x.2.2.2.2.2.1, x.2.2.2.2.2.2.1, x.2.2.2.2.2.2.2.1, x.2.2.2.2.2.2.2.2.1, x.2.2.2.2.2.2.2.2.2.1, x.2.2.2.2.2.2.2.2.2.2.1, x.2.2.2.2.2.2.2.2.2.2.2.1, x.2.2.2.2.2.2.2.2.2.2.2.2.1, x.2.2.2.2.2.2.2.2.2.2.2.2.2.1, x.2.2.2.2.2.2.2.2.2.2.2.2.2.2.1, q31.1, q31.2, upd x.2.2.2.2.2.2.2.2.2.2.2.2.2.2.2.2.2 (p1.toNatClampNeg) q1) 101 q32 hq32 H.size) (cwV 1 ha (gi_V (fun _ h => h) mw2046 mw2048 mw62 mw87 mw2049) rfl rfl rfl hv_X11_needs ⟨(Nat.le_of_ble_eq_true rfl), (Nat.le_of_ble_eq_true rfl)⟩) ⟨pre_blind, va_recv hst.k (fr_P hP [0] rfl) (ci := 13) (q0 := 0) rfl rfl, pre_at hP hD hS hz hzs hst [0] (by decide) rfl rfl⟩ rfl rfl hl.1 rfl (lv_room (Nat.le_of_ble_eq_true rfl)) dX11_parsesCommand_172 ⟨(Nat.le_of_ble_eq_true rfl), (Nat.le_of_ble_eq_true rfl)⟩) hP hD hS hA [0] (by decide) rfl rfl rfl rfl (fun H locs hP hD hS => ?_)
    refine lv_aload_n hx hb dX11_parsesCommand_175 rfl (lv_at hl 1 rfl) ?_
    refine va_get (D := E.1) (ci := 13) (v := .ref (a (o + 8))) (C := RX11) (T := TX11) (N := 18) hx hb ha in_X11 hown hst.k hP 0 rfl rfl 17 (by decide) (ha _ mw1653) (fun _ h9 => h9) rfl dX11_parsesCommand_176 ?_
    refine lv_iload_n hx hb dX11_parsesCommand_179 rfl (lv_at hl 2 rfl) ?_
    refine lv_iconst (v := 1) hx hb dX11_parsesCommand_180 (by decide) ?_
    refine lv_iadd hx hb dX11_parsesCommand_181 ?_
    refine lv_aload_n hx hb dX11_parsesCommand_182 rfl (lv_at hl 1 rfl) ?_
    refine lv_iconst (v := 1) hx hb dX11_parsesCommand_183 (by decide) ?_
    refine lv_iconst (v := 2) hx hb dX11_parsesCommand_184 (by decide) ?_
    obtain ⟨q33, hq33, hF⟩ := q_bdi hF
    refine cl_i (Lc := [w_Model E a o (x.1, x.2.1, x.2.2.1, x.2.2.2.1, x.2.2.2.2.1, x.2.2.2.2.2.1, x.2.2.2.2.2.2.1, x.2.2.2.2.2.2.2.1, x.2.2.2.2.2.2.2.2.1, x.2.2.2.2.2.2.2.2.2.1, x.2.2.2.2.2.2.2.2.2.2.1, x.2.2.2.2.2.2.2.2.2.2.2.1, x.2.2.2.2.2.2.2.2.2.2.2.2.1, x.2.2.2.2.2.2.2.2.2.2.2.2.2.1, x.2.2.2.2.2.2.2.2.2.2.2.2.2.2.1, q32.1, q32.2, upd x.2.2.2.2.2.2.2.2.2.2.2.2.2.2.2.2.2 (p1.toNatClampNeg) q1)]) (Lc' := [w_Model E a o (x.1, x.2.1, x.2.2.1, x.2.2.2.1, x.2.2.2.2.1, x.2.2.2.2.2.1, x.2.2.2.2.2.2.1, x.2.2.2.2.2.2.2.1, x.2.2.2.2.2.2.2.2.1, x.2.2.2.2.2.2.2.2.2.1, x.2.2.2.2.2.2.2.2.2.2.1, x.2.2.2.2.2.2.2.2.2.2.2.1, x.2.2.2.2.2.2.2.2.2.2.2.2.1, x.2.2.2.2.2.2.2.2.2.2.2.2.2.1, x.2.2.2.2.2.2.2.2.2.2.2.2.2.2.1, q33.2.1, q33.2.2, upd x.2.2.2.2.2.2.2.2.2.2.2.2.2.2.2.2.2 (p1.toNatClampNeg) q1)]) (L' := [w_Model E a o (x.1, x.2.1, x.2.2.1, x.2.2.2.1, x.2.2.2.2.1, x.2.2.2.2.2.1, x.2.2.2.2.2.2.1, x.2.2.2.2.2.2.2.1, x.2.2.2.2.2.2.2.2.1, x.2.2.2.2.2.2.2.2.2.1, x.2.2.2.2.2.2.2.2.2.2.1, x.2.2.2.2.2.2.2.2.2.2.2.1, x.2.2.2.2.2.2.2.2.2.2.2.2.1, x.2.2.2.2.2.2.2.2.2.2.2.2.2.1, x.2.2.2.2.2.2.2.2.2.2.2.2.2.2.1, q33.2.1, q33.2.2, upd x.2.2.2.2.2.2.2.2.2.2.2.2.2.2.2.2.2 (p1.toNatClampNeg) q1)]) (rv := q33.1) (va_runV (As := [.int 1, .int 2]) (rest := [.int (p1 + 1), .ref (a (o + 8))]) ⟨hx, hb, hml, hown, ha⟩ (k_X11_afterBlank l E a o (x.1, x.2.1, x.2.2.1, x.2.2.2.1, x.2.2.2.2.1, x.2.2.2.2.2.1, x.2.2.2.2.2.2.1, x.2.2.2.2.2.2.2.1, x.2.2.2.2.2.2.2.2.1, x.2.2.2.2.2.2.2.2.2.1, x.2.2.2.2.2.2.2.2.2.2.1, x.2.2.2.2.2.2.2.2.2.2.2.1, x.2.2.2.2.2.2.2.2.2.2.2.2.1, x.2.2.2.2.2.2.2.2.2.2.2.2.2.1, x.2.2.2.2.2.2.2.2.2.2.2.2.2.2.1, q32.1, q32.2, upd x.2.2.2.2.2.2.2.2.2.2.2.2.2.2.2.2.2 (p1.toNatClampNeg) q1) 1 2 q33 hq33 H.size) (cwV 2 ha (gi_V (fun _ h => h) mw2050 mw2052 mw63 mw87 mw2053) rfl rfl rfl hv_X11_afterBlank ⟨(Nat.le_of_ble_eq_true rfl), (Nat.le_of_ble_eq_true rfl)⟩) ⟨pre_blind, va_recv hst.k (fr_P hP [0] rfl) (ci := 13) (q0 := 0) rfl rfl, pre_at hP hD hS hz hzs hst [0] (by decide) rfl rfl⟩ rfl rfl hl.1 rfl (lv_room (Nat.le_of_ble_eq_true rfl)) dX11_parsesCommand_185 ⟨(Nat.le_of_ble_eq_true rfl), (Nat.le_of_ble_eq_true rfl)⟩) hP hD hS hA [0] (by decide) rfl rfl rfl rfl (fun H locs hP hD hS => ?_)
    obtain ⟨g34, hF⟩ := q_gdi hF
    refine vi_iast hx hb hst.k hP hD hS 8 0 rfl rfl (k := (p1 + 1).toNatClampNeg) rfl g34 dX11_parsesCommand_188 (fun H locs hP hD hS => ?_)
    have hP : va_P E.1 vwCl (List.flatten [w_Model E a o (x.1, x.2.1, x.2.2.1, x.2.2.2.1, x.2.2.2.2.1, x.2.2.2.2.2.1, x.2.2.2.2.2.2.1, x.2.2.2.2.2.2.2.1, x.2.2.2.2.2.2.2.2.1, x.2.2.2.2.2.2.2.2.2.1, x.2.2.2.2.2.2.2.2.2.2.1, x.2.2.2.2.2.2.2.2.2.2.2.1, x.2.2.2.2.2.2.2.2.2.2.2.2.1, x.2.2.2.2.2.2.2.2.2.2.2.2.2.1, x.2.2.2.2.2.2.2.2.2.2.2.2.2.2.1, q33.2.1, q33.2.2, upd (upd x.2.2.2.2.2.2.2.2.2.2.2.2.2.2.2.2.2 (p1.toNatClampNeg) q1) ((p1 + 1).toNatClampNeg) q33.1)]) H := hP
    have hD : va_D A (List.flatten [w_Model E a o (x.1, x.2.1, x.2.2.1, x.2.2.2.1, x.2.2.2.2.1, x.2.2.2.2.2.1, x.2.2.2.2.2.2.1, x.2.2.2.2.2.2.2.1, x.2.2.2.2.2.2.2.2.1, x.2.2.2.2.2.2.2.2.2.1, x.2.2.2.2.2.2.2.2.2.2.1, x.2.2.2.2.2.2.2.2.2.2.2.1, x.2.2.2.2.2.2.2.2.2.2.2.2.1, x.2.2.2.2.2.2.2.2.2.2.2.2.2.1, x.2.2.2.2.2.2.2.2.2.2.2.2.2.2.1, q33.2.1, q33.2.2, upd (upd x.2.2.2.2.2.2.2.2.2.2.2.2.2.2.2.2.2 (p1.toNatClampNeg) q1) ((p1 + 1).toNatClampNeg) q33.1)]) := hD
    refine lv_goto (tgt := 393) hx hb dX11_parsesCommand_189 (by decide) ?_
    obtain rfl := Option.some.inj hF
    exact en_v hQ (Nat.le_of_ble_eq_true rfl) (Nat.le_of_ble_eq_true rfl) hx hb hr hlocks hP hD hS dX11_parsesCommand_393
  have hF := q_brn w23_16 hF
  by_cases w23_17 : q1 = 115
  · have hF := q_brp w23_17 hF
    refine lv_tableIn (off := 355) (tgt := 378) hx hb dX11_parsesCommand_23 (by rw [w23_17]; decide) (by rw [w23_17]; decide) (by rw [w23_17]; decide) (by decide) ?_
    exact jJ378 H locs ls hF hP hD hS (lv_sub hl [1] rfl)
  have hF := q_brn w23_17 hF
  by_cases w23_18 : q1 = 116
  · have hF := q_brp w23_18 hF
    refine lv_tableIn (off := 169) (tgt := 192) hx hb dX11_parsesCommand_23 (by rw [w23_18]; decide) (by rw [w23_18]; decide) (by rw [w23_18]; decide) (by decide) ?_
    refine lv_aload_n hx hb dX11_parsesCommand_192 rfl (lv_at hl 1 rfl) ?_
    refine lv_iload_n hx hb dX11_parsesCommand_193 rfl (lv_at hl 2 rfl) ?_
    obtain ⟨q35, hq35, hF⟩ := q_bdi hF
    refine cl_v (Lc := [w_Model E a o (x.1, x.2.1, x.2.2.1, x.2.2.2.1, x.2.2.2.2.1, x.2.2.2.2.2.1, x.2.2.2.2.2.2.1, x.2.2.2.2.2.2.2.1, x.2.2.2.2.2.2.2.2.1, x.2.2.2.2.2.2.2.2.2.1, x.2.2.2.2.2.2.2.2.2.2.1, x.2.2.2.2.2.2.2.2.2.2.2.1, x.2.2.2.2.2.2.2.2.2.2.2.2.1, x.2.2.2.2.2.2.2.2.2.2.2.2.2.1, x.2.2.2.2.2.2.2.2.2.2.2.2.2.2.1, x.2.2.2.2.2.2.2.2.2.2.2.2.2.2.2.1 + 1, x.2.2.2.2.2.2.2.2.2.2.2.2.2.2.2.2.1, upd x.2.2.2.2.2.2.2.2.2.2.2.2.2.2.2.2.2 (p1.toNatClampNeg) q1)]) (Lc' := [w_Model E a o (x.1, x.2.1, x.2.2.1, x.2.2.2.1, x.2.2.2.2.1, x.2.2.2.2.2.1, x.2.2.2.2.2.2.1, x.2.2.2.2.2.2.2.1, x.2.2.2.2.2.2.2.2.1, x.2.2.2.2.2.2.2.2.2.1, x.2.2.2.2.2.2.2.2.2.2.1, x.2.2.2.2.2.2.2.2.2.2.2.1, x.2.2.2.2.2.2.2.2.2.2.2.2.1, x.2.2.2.2.2.2.2.2.2.2.2.2.2.1, x.2.2.2.2.2.2.2.2.2.2.2.2.2.2.1, q35.1, q35.2.1, q35.2.2)]) (L' := [w_Model E a o (x.1, x.2.1, x.2.2.1, x.2.2.2.1, x.2.2.2.2.1, x.2.2.2.2.2.1, x.2.2.2.2.2.2.1, x.2.2.2.2.2.2.2.1, x.2.2.2.2.2.2.2.2.1, x.2.2.2.2.2.2.2.2.2.1, x.2.2.2.2.2.2.2.2.2.2.1, x.2.2.2.2.2.2.2.2.2.2.2.1, x.2.2.2.2.2.2.2.2.2.2.2.2.1, x.2.2.2.2.2.2.2.2.2.2.2.2.2.1, x.2.2.2.2.2.2.2.2.2.2.2.2.2.2.1, q35.1, q35.2.1, q35.2.2)]) (va_runV (As := [.int p1]) (rest := []) ⟨hx, hb, hml, hown, ha⟩ (k_X11_parsesT l E a o (x.1, x.2.1, x.2.2.1, x.2.2.2.1, x.2.2.2.2.1, x.2.2.2.2.2.1, x.2.2.2.2.2.2.1, x.2.2.2.2.2.2.2.1, x.2.2.2.2.2.2.2.2.1, x.2.2.2.2.2.2.2.2.2.1, x.2.2.2.2.2.2.2.2.2.2.1, x.2.2.2.2.2.2.2.2.2.2.2.1, x.2.2.2.2.2.2.2.2.2.2.2.2.1, x.2.2.2.2.2.2.2.2.2.2.2.2.2.1, x.2.2.2.2.2.2.2.2.2.2.2.2.2.2.1, x.2.2.2.2.2.2.2.2.2.2.2.2.2.2.2.1 + 1, x.2.2.2.2.2.2.2.2.2.2.2.2.2.2.2.2.1, upd x.2.2.2.2.2.2.2.2.2.2.2.2.2.2.2.2.2 (p1.toNatClampNeg) q1) p1 q35 hq35 H.size) (cwV 1 ha (gi_V (fun _ h => h) mw2058 mw2060 mw65 mw87 mw2061) rfl rfl rfl hv_X11_parsesT ⟨(Nat.le_of_ble_eq_true rfl), (Nat.le_of_ble_eq_true rfl)⟩) ⟨pre_blind, va_recv hst.k (fr_P hP [0] rfl) (ci := 13) (q0 := 0) rfl rfl, pre_at hP hD hS hz hzs hst [0] (by decide) rfl rfl⟩ rfl rfl hl.1 rfl (lv_room (Nat.le_of_ble_eq_true rfl)) dX11_parsesCommand_194 ⟨(Nat.le_of_ble_eq_true rfl), (Nat.le_of_ble_eq_true rfl)⟩) hP hD hS hA [0] (by decide) rfl rfl rfl rfl (fun H locs hP hD hS => ?_)
    refine lv_goto (tgt := 393) hx hb dX11_parsesCommand_197 (by decide) ?_
    obtain rfl := Option.some.inj hF
    exact en_v hQ (Nat.le_of_ble_eq_true rfl) (Nat.le_of_ble_eq_true rfl) hx hb hr hlocks hP hD hS dX11_parsesCommand_393
  have hF := q_brn w23_18 hF
  refine lv_tableOut (tgt := 378) hx hb dX11_parsesCommand_23 (sw_out 98 116 [98, 99, 100, 101, 102, 103, 104, 105, 106, 107, 108, 109, 110, 111, 112, 113, 114, 115, 116] (List.forall_mem_cons.mpr ⟨w23_0, (List.forall_mem_cons.mpr ⟨w23_1, (List.forall_mem_cons.mpr ⟨w23_2, (List.forall_mem_cons.mpr ⟨w23_3, (List.forall_mem_cons.mpr ⟨w23_4, (List.forall_mem_cons.mpr ⟨w23_5, (List.forall_mem_cons.mpr ⟨w23_6, (List.forall_mem_cons.mpr ⟨w23_7, (List.forall_mem_cons.mpr ⟨w23_8, (List.forall_mem_cons.mpr ⟨w23_9, (List.forall_mem_cons.mpr ⟨w23_10, (List.forall_mem_cons.mpr ⟨w23_11, (List.forall_mem_cons.mpr ⟨w23_12, (List.forall_mem_cons.mpr ⟨w23_13, (List.forall_mem_cons.mpr ⟨w23_14, (List.forall_mem_cons.mpr ⟨w23_15, (List.forall_mem_cons.mpr ⟨w23_16, (List.forall_mem_cons.mpr ⟨w23_17, (List.forall_mem_cons.mpr ⟨w23_18, (fun _ h => nomatch h)⟩)⟩)⟩)⟩)⟩)⟩)⟩)⟩)⟩)⟩)⟩)⟩)⟩)⟩)⟩)⟩)⟩)⟩)⟩) (by decide) (by decide)) (by decide) ?_
  exact jJ378 H locs ls hF hP hD hS (lv_sub hl [1] rfl)

/-! X11_carriesOut -/
theorem dX11_carriesOut_0 : decode cX11_carriesOut 0 = .ok (.aload_n 0, 1) := by decide +kernel
theorem dX11_carriesOut_1 : decode cX11_carriesOut 1 = .ok (.getfield 39, 3) := by decide +kernel
theorem dX11_carriesOut_4 : decode cX11_carriesOut 4 = .ok (.iload_n 1, 1) := by decide +kernel
theorem dX11_carriesOut_5 : decode cX11_carriesOut 5 = .ok (.iconst 1, 1) := by decide +kernel
theorem dX11_carriesOut_6 : decode cX11_carriesOut 6 = .ok (.iadd, 1) := by decide +kernel
theorem dX11_carriesOut_7 : decode cX11_carriesOut 7 = .ok (.iaload, 1) := by decide +kernel
theorem dX11_carriesOut_8 : decode cX11_carriesOut 8 = .ok (.istore_n 2, 1) := by decide +kernel
theorem dX11_carriesOut_9 : decode cX11_carriesOut 9 = .ok (.aload_n 0, 1) := by decide +kernel
theorem dX11_carriesOut_10 : decode cX11_carriesOut 10 = .ok (.getfield 39, 3) := by decide +kernel
theorem dX11_carriesOut_13 : decode cX11_carriesOut 13 = .ok (.iload_n 1, 1) := by decide +kernel
theorem dX11_carriesOut_14 : decode cX11_carriesOut 14 = .ok (.iconst 2, 1) := by decide +kernel
theorem dX11_carriesOut_15 : decode cX11_carriesOut 15 = .ok (.iadd, 1) := by decide +kernel
theorem dX11_carriesOut_16 : decode cX11_carriesOut 16 = .ok (.iaload, 1) := by decide +kernel
theorem dX11_carriesOut_17 : decode cX11_carriesOut 17 = .ok (.istore_n 3, 1) := by decide +kernel
theorem dX11_carriesOut_18 : decode cX11_carriesOut 18 = .ok (.aload_n 0, 1) := by decide +kernel
theorem dX11_carriesOut_19 : decode cX11_carriesOut 19 = .ok (.getfield 39, 3) := by decide +kernel
theorem dX11_carriesOut_22 : decode cX11_carriesOut 22 = .ok (.iload_n 1, 1) := by decide +kernel
theorem dX11_carriesOut_23 : decode cX11_carriesOut 23 = .ok (.iaload, 1) := by decide +kernel
theorem dX11_carriesOut_24 : decode cX11_carriesOut 24 = .ok (.tableswitch 169 98 117 #[96, 143, 169, 149, 163, 169, 169, 156, 169, 123, 130, 116, 169, 169, 169, 169, 103, 169, 136, 109], 96) := by decide +kernel
theorem dX11_carriesOut_120 : decode cX11_carriesOut 120 = .ok (.aload_n 0, 1) := by decide +kernel
theorem dX11_carriesOut_121 : decode cX11_carriesOut 121 = .ok (.iload_n 2, 1) := by decide +kernel
theorem dX11_carriesOut_122 : decode cX11_carriesOut 122 = .ok (.iload_n 3, 1) := by decide +kernel
theorem dX11_carriesOut_123 : decode cX11_carriesOut 123 = .ok (.invokevirtual 89, 3) := by decide +kernel
theorem dX11_carriesOut_126 : decode cX11_carriesOut 126 = .ok (.ireturn, 1) := by decide +kernel
theorem dX11_carriesOut_127 : decode cX11_carriesOut 127 = .ok (.aload_n 0, 1) := by decide +kernel
theorem dX11_carriesOut_128 : decode cX11_carriesOut 128 = .ok (.iload_n 2, 1) := by decide +kernel
theorem dX11_carriesOut_129 : decode cX11_carriesOut 129 = .ok (.invokevirtual 102, 3) := by decide +kernel
theorem dX11_carriesOut_132 : decode cX11_carriesOut 132 = .ok (.ireturn, 1) := by decide +kernel
theorem dX11_carriesOut_133 : decode cX11_carriesOut 133 = .ok (.aload_n 0, 1) := by decide +kernel
theorem dX11_carriesOut_134 : decode cX11_carriesOut 134 = .ok (.iload_n 2, 1) := by decide +kernel
theorem dX11_carriesOut_135 : decode cX11_carriesOut 135 = .ok (.iload_n 3, 1) := by decide +kernel
theorem dX11_carriesOut_136 : decode cX11_carriesOut 136 = .ok (.invokevirtual 105, 3) := by decide +kernel
theorem dX11_carriesOut_139 : decode cX11_carriesOut 139 = .ok (.ireturn, 1) := by decide +kernel
theorem dX11_carriesOut_140 : decode cX11_carriesOut 140 = .ok (.aload_n 0, 1) := by decide +kernel
theorem dX11_carriesOut_141 : decode cX11_carriesOut 141 = .ok (.iload_n 2, 1) := by decide +kernel
theorem dX11_carriesOut_142 : decode cX11_carriesOut 142 = .ok (.iload_n 3, 1) := by decide +kernel
theorem dX11_carriesOut_143 : decode cX11_carriesOut 143 = .ok (.invokevirtual 108, 3) := by decide +kernel
theorem dX11_carriesOut_146 : decode cX11_carriesOut 146 = .ok (.ireturn, 1) := by decide +kernel
theorem dX11_carriesOut_147 : decode cX11_carriesOut 147 = .ok (.aload_n 0, 1) := by decide +kernel
theorem dX11_carriesOut_148 : decode cX11_carriesOut 148 = .ok (.iload_n 2, 1) := by decide +kernel
theorem dX11_carriesOut_149 : decode cX11_carriesOut 149 = .ok (.iload_n 3, 1) := by decide +kernel
theorem dX11_carriesOut_150 : decode cX11_carriesOut 150 = .ok (.invokevirtual 120, 3) := by decide +kernel
theorem dX11_carriesOut_153 : decode cX11_carriesOut 153 = .ok (.ireturn, 1) := by decide +kernel
theorem dX11_carriesOut_154 : decode cX11_carriesOut 154 = .ok (.aload_n 0, 1) := by decide +kernel
theorem dX11_carriesOut_155 : decode cX11_carriesOut 155 = .ok (.iload_n 2, 1) := by decide +kernel
theorem dX11_carriesOut_156 : decode cX11_carriesOut 156 = .ok (.invokevirtual 123, 3) := by decide +kernel
theorem dX11_carriesOut_159 : decode cX11_carriesOut 159 = .ok (.ireturn, 1) := by decide +kernel
theorem dX11_carriesOut_160 : decode cX11_carriesOut 160 = .ok (.aload_n 0, 1) := by decide +kernel
theorem dX11_carriesOut_161 : decode cX11_carriesOut 161 = .ok (.iload_n 2, 1) := by decide +kernel
theorem dX11_carriesOut_162 : decode cX11_carriesOut 162 = .ok (.iload_n 3, 1) := by decide +kernel
theorem dX11_carriesOut_163 : decode cX11_carriesOut 163 = .ok (.invokevirtual 126, 3) := by decide +kernel
theorem dX11_carriesOut_166 : decode cX11_carriesOut 166 = .ok (.ireturn, 1) := by decide +kernel
theorem dX11_carriesOut_167 : decode cX11_carriesOut 167 = .ok (.aload_n 0, 1) := by decide +kernel
theorem dX11_carriesOut_168 : decode cX11_carriesOut 168 = .ok (.iload_n 2, 1) := by decide +kernel
theorem dX11_carriesOut_169 : decode cX11_carriesOut 169 = .ok (.invokevirtual 129, 3) := by decide +kernel
theorem dX11_carriesOut_172 : decode cX11_carriesOut 172 = .ok (.ireturn, 1) := by decide +kernel
theorem dX11_carriesOut_173 : decode cX11_carriesOut 173 = .ok (.aload_n 0, 1) := by decide +kernel
theorem dX11_carriesOut_174 : decode cX11_carriesOut 174 = .ok (.iload_n 2, 1) := by decide +kernel
theorem dX11_carriesOut_175 : decode cX11_carriesOut 175 = .ok (.iload_n 3, 1) := by decide +kernel
theorem dX11_carriesOut_176 : decode cX11_carriesOut 176 = .ok (.invokevirtual 132, 3) := by decide +kernel
theorem dX11_carriesOut_179 : decode cX11_carriesOut 179 = .ok (.ireturn, 1) := by decide +kernel
theorem dX11_carriesOut_180 : decode cX11_carriesOut 180 = .ok (.aload_n 0, 1) := by decide +kernel
theorem dX11_carriesOut_181 : decode cX11_carriesOut 181 = .ok (.iload_n 2, 1) := by decide +kernel
theorem dX11_carriesOut_182 : decode cX11_carriesOut 182 = .ok (.iload_n 3, 1) := by decide +kernel
theorem dX11_carriesOut_183 : decode cX11_carriesOut 183 = .ok (.invokevirtual 135, 3) := by decide +kernel
theorem dX11_carriesOut_186 : decode cX11_carriesOut 186 = .ok (.ireturn, 1) := by decide +kernel
theorem dX11_carriesOut_187 : decode cX11_carriesOut 187 = .ok (.aload_n 0, 1) := by decide +kernel
theorem dX11_carriesOut_188 : decode cX11_carriesOut 188 = .ok (.iload_n 2, 1) := by decide +kernel
theorem dX11_carriesOut_189 : decode cX11_carriesOut 189 = .ok (.invokevirtual 141, 3) := by decide +kernel
theorem dX11_carriesOut_192 : decode cX11_carriesOut 192 = .ok (.ireturn, 1) := by decide +kernel
theorem dX11_carriesOut_193 : decode cX11_carriesOut 193 = .ok (.aload_n 0, 1) := by decide +kernel
theorem dX11_carriesOut_194 : decode cX11_carriesOut 194 = .ok (.iload_n 2, 1) := by decide +kernel
theorem dX11_carriesOut_195 : decode cX11_carriesOut 195 = .ok (.iload_n 3, 1) := by decide +kernel
theorem dX11_carriesOut_196 : decode cX11_carriesOut 196 = .ok (.invokevirtual 114, 3) := by decide +kernel
theorem dX11_carriesOut_199 : decode cX11_carriesOut 199 = .ok (.ireturn, 1) := by decide +kernel
def f_X11_carriesOut (x_g : (Nat → Int32)) (x_thrown : Int32) (x_parsed : (Nat → Int32)) (p1 : Int32) : Option (Int32 × (Nat → Int32) × Int32) :=
  q_gd (q_in (p1 + 1) 180) (
  q_lt (x_parsed ((p1 + 1).toNatClampNeg) : Int32) (fun v2 =>
  q_gd (q_in (p1 + 2) 180) (
  q_lt (x_parsed ((p1 + 2).toNatClampNeg) : Int32) (fun v4 =>
  q_gd (q_in p1 180) (
  q_lt (x_parsed (p1.toNatClampNeg) : Int32) (fun v6 =>
  q_br (v6 = 98) (
  q_bd (f_X11_adds x_g x_thrown v2 v4) (fun q7 =>
  some (q7.1, q7.2.1, q7.2.2))) (
  q_br (v6 = 99) (
  q_bd (f_X11_clears x_g x_thrown v2) (fun q8 =>
  some (q8.1, q8.2.1, q8.2.2))) (
  q_br (v6 = 100) (
  q_bd (f_X11_grazes x_g x_thrown v2 v4) (fun q9 =>
  some (q9.1, q9.2.1, q9.2.2))) (
  q_br (v6 = 101) (
  q_bd (f_X11_enters x_g x_thrown v2 v4) (fun q10 =>
  some (q10.1, q10.2.1, q10.2.2))) (
  q_br (v6 = 102) (
  q_bd (f_X11_fells x_g x_thrown v2) (fun q11 =>
  some (q11.1, q11.2.1, q11.2.2))) (
  q_br (v6 = 103) (
  q_bd (f_X11_grazes x_g x_thrown v2 v4) (fun q12 =>
  some (q12.1, q12.2.1, q12.2.2))) (
  q_br (v6 = 104) (
  q_bd (f_X11_grazes x_g x_thrown v2 v4) (fun q13 =>
  some (q13.1, q13.2.1, q13.2.2))) (
  q_br (v6 = 105) (
  q_bd (f_X11_addsCliff x_g x_thrown v2 v4) (fun q14 =>
  some (q14.1, q14.2.1, q14.2.2))) (
  q_br (v6 = 106) (
  q_bd (f_X11_grazes x_g x_thrown v2 v4) (fun q15 =>
  some (q15.1, q15.2.1, q15.2.2))) (
  q_br (v6 = 107) (
  q_bd (f_X11_keys x_g x_thrown v2 v4) (fun q16 =>
  some (q16.1, q16.2.1, q16.2.2))) (
  q_br (v6 = 108) (
  q_bd (f_X11_tolerates x_g x_thrown v2) (fun q17 =>
  some (q17.1, q17.2.1, q17.2.2))) (
  q_br (v6 = 109) (
  q_bd (f_X11_moves x_g x_thrown v2 v4) (fun q18 =>
  some (q18.1, q18.2.1, q18.2.2))) (
  q_br (v6 = 110) (
  q_bd (f_X11_grazes x_g x_thrown v2 v4) (fun q19 =>
  some (q19.1, q19.2.1, q19.2.2))) (
  q_br (v6 = 111) (
  q_bd (f_X11_grazes x_g x_thrown v2 v4) (fun q20 =>
  some (q20.1, q20.2.1, q20.2.2))) (
  q_br (v6 = 112) (
  q_bd (f_X11_grazes x_g x_thrown v2 v4) (fun q21 =>
  some (q21.1, q21.2.1, q21.2.2))) (
  q_br (v6 = 113) (
  q_bd (f_X11_grazes x_g x_thrown v2 v4) (fun q22 =>
  some (q22.1, q22.2.1, q22.2.2))) (
  q_br (v6 = 114) (
  q_bd (f_X11_removes x_g x_thrown v2) (fun q23 =>
  some (q23.1, q23.2.1, q23.2.2))) (
  q_br (v6 = 115) (
  q_bd (f_X11_grazes x_g x_thrown v2 v4) (fun q24 =>
  some (q24.1, q24.2.1, q24.2.2))) (
  q_br (v6 = 116) (
  q_bd (f_X11_addsTone x_g x_thrown v2 v4) (fun q25 =>
  some (q25.1, q25.2.1, q25.2.2))) (
  q_br (v6 = 117) (
  q_bd (f_X11_tunes x_g x_thrown v2 v4) (fun q26 =>
  some (q26.1, q26.2.1, q26.2.2))) (
  q_bd (f_X11_grazes x_g x_thrown v2 v4) (fun q27 =>
  some (q27.1, q27.2.1, q27.2.2))))))))))))))))))))))))))))
theorem hv_X11_carriesOut : yX11_carriesOut.cls = RX11 ∧ yX11_carriesOut.cls ≠ "java/lang/invoke/MethodHandle" ∧ yX11_carriesOut.cls ≠ "java/lang/invoke/VarHandle" ∧ (parseMethodDescriptor yX11_carriesOut.desc).map (fun d => d.parameters.length) = some 1 := by decide +kernel
abbrev rm_X11_carriesOut : Room := { frames := 5, cells := 0, slots := 0, locals := 115 }
set_option maxHeartbeats 4000000 in
set_option maxRecDepth 100000 in
theorem k_X11_carriesOut (l : Launch) (E : ET) (a : Nat → Nat) (o : Nat) (x : Model_t) (p1 : Int32) (res : Int32 × (Nat → Int32) × Int32) (hF : f_X11_carriesOut x.1 x.2.2.2.2.2.2.2.2.2.2.2.2.2.2.1 x.2.2.2.2.2.2.2.2.2.2.2.2.2.2.2.2.2 p1 = some res) (sz : Nat) : CtI l yX11_carriesOut (mws yX11_carriesOut cX11_carriesOut 4 (some .int)) rm_X11_carriesOut 0 0 [.ref (a o), .int p1] E (bl_Model E a o x) res.1 (bl_Model E a o (res.2.1, x.2.1, x.2.2.1, x.2.2.2.1, x.2.2.2.2.1, x.2.2.2.2.2.1, x.2.2.2.2.2.2.1, x.2.2.2.2.2.2.2.1, x.2.2.2.2.2.2.2.2.1, x.2.2.2.2.2.2.2.2.2.1, x.2.2.2.2.2.2.2.2.2.2.1, x.2.2.2.2.2.2.2.2.2.2.2.1, x.2.2.2.2.2.2.2.2.2.2.2.2.1, x.2.2.2.2.2.2.2.2.2.2.2.2.2.1, res.2.2, x.2.2.2.2.2.2.2.2.2.2.2.2.2.2.2.1, x.2.2.2.2.2.2.2.2.2.2.2.2.2.2.2.2.1, x.2.2.2.2.2.2.2.2.2.2.2.2.2.2.2.2.2)) sz := by
  refine mk_M (by decide +kernel) (Nat.le_of_ble_eq_true rfl) ?_
  intro p e s m below meth c A args Q ls hAe hsz hQ hx hb hr hml hin ha hown hlocks hA hz hzs hst hP hD hS hl
  have hown : s.vm.findClass RX11 = some m.cls := hown
  rw [hAe] at hQ
  subst hsz
  have hP : va_P E.1 vwCl (List.flatten [w_Model E a o x]) s.heap := hP
  have hD : va_D A (List.flatten [w_Model E a o x]) := hD
  have hl : lv_has ls 4 [(0, .ref (a o)), (1, .int p1)] := hl
  generalize hHe : s.heap = H at hP
  have hS : va_S A s.heap H [] := by rw [← hHe]; exact hS
  generalize ([] : List Loc) = locs at hS ⊢
  unfold f_X11_carriesOut at hF
  refine lv_aload_n hx hb dX11_carriesOut_0 rfl (lv_at hl 0 rfl) ?_
  refine va_get (D := E.1) (ci := 13) (v := .ref (a (o + 8))) (C := RX11) (T := TX11) (N := 18) hx hb ha in_X11 hown hst.k hP 0 rfl rfl 17 (by decide) (ha _ mw1653) (fun _ h9 => h9) rfl dX11_carriesOut_1 ?_
  refine lv_iload_n hx hb dX11_carriesOut_4 rfl (lv_at hl 1 rfl) ?_
  refine lv_iconst (v := 1) hx hb dX11_carriesOut_5 (by decide) ?_
  refine lv_iadd hx hb dX11_carriesOut_6 ?_
  obtain ⟨g1, hF⟩ := q_gdi hF
  refine vi_iald hx hb hst.k hP 8 0 rfl rfl (f := x.2.2.2.2.2.2.2.2.2.2.2.2.2.2.2.2.2) (k := (p1 + 1).toNatClampNeg) rfl g1 dX11_carriesOut_7 ?_
  refine lv_topi (fun v2 ev2 => ?_)
  have hF := q_lti ev2 hF
  refine lv_istore_n (lv' := [(2, .int v2), (0, .ref (a o)), (1, .int p1)]) hx hb dX11_carriesOut_8 rfl hl (by decide) rfl (fun ls hl => ?_)
  refine lv_aload_n hx hb dX11_carriesOut_9 rfl (lv_at hl 1 rfl) ?_
  refine va_get (D := E.1) (ci := 13) (v := .ref (a (o + 8))) (C := RX11) (T := TX11) (N := 18) hx hb ha in_X11 hown hst.k hP 0 rfl rfl 17 (by decide) (ha _ mw1653) (fun _ h9 => h9) rfl dX11_carriesOut_10 ?_
  refine lv_iload_n hx hb dX11_carriesOut_13 rfl (lv_at hl 2 rfl) ?_
  refine lv_iconst (v := 2) hx hb dX11_carriesOut_14 (by decide) ?_
  refine lv_iadd hx hb dX11_carriesOut_15 ?_
  obtain ⟨g3, hF⟩ := q_gdi hF
  refine vi_iald hx hb hst.k hP 8 0 rfl rfl (f := x.2.2.2.2.2.2.2.2.2.2.2.2.2.2.2.2.2) (k := (p1 + 2).toNatClampNeg) rfl g3 dX11_carriesOut_16 ?_
  refine lv_topi (fun v4 ev4 => ?_)
  have hF := q_lti ev4 hF
  refine lv_istore_n (lv' := [(3, .int v4), (2, .int v2), (0, .ref (a o)), (1, .int p1)]) hx hb dX11_carriesOut_17 rfl hl (by decide) rfl (fun ls hl => ?_)
  refine lv_aload_n hx hb dX11_carriesOut_18 rfl (lv_at hl 2 rfl) ?_
  refine va_get (D := E.1) (ci := 13) (v := .ref (a (o + 8))) (C := RX11) (T := TX11) (N := 18) hx hb ha in_X11 hown hst.k hP 0 rfl rfl 17 (by decide) (ha _ mw1653) (fun _ h9 => h9) rfl dX11_carriesOut_19 ?_
  refine lv_iload_n hx hb dX11_carriesOut_22 rfl (lv_at hl 3 rfl) ?_
  obtain ⟨g5, hF⟩ := q_gdi hF
  refine vi_iald hx hb hst.k hP 8 0 rfl rfl (f := x.2.2.2.2.2.2.2.2.2.2.2.2.2.2.2.2.2) (k := p1.toNatClampNeg) rfl g5 dX11_carriesOut_23 ?_
  refine lv_topi (fun v6 ev6 => ?_)
  have hF := q_lti ev6 hF
  by_cases w24_0 : v6 = 98
  · have hF := q_brp w24_0 hF
    refine lv_tableIn (off := 96) (tgt := 120) hx hb dX11_carriesOut_24 (by rw [w24_0]; decide) (by rw [w24_0]; decide) (by rw [w24_0]; decide) (by decide) ?_
    refine lv_aload_n hx hb dX11_carriesOut_120 rfl (lv_at hl 2 rfl) ?_
    refine lv_iload_n hx hb dX11_carriesOut_121 rfl (lv_at hl 1 rfl) ?_
    refine lv_iload_n hx hb dX11_carriesOut_122 rfl (lv_at hl 0 rfl) ?_
    obtain ⟨q7, hq7, hF⟩ := q_bdi hF
    refine cl_i (Lc := [w_Model E a o x]) (Lc' := [w_Model E a o (q7.2.1, x.2.1, x.2.2.1, x.2.2.2.1, x.2.2.2.2.1, x.2.2.2.2.2.1, x.2.2.2.2.2.2.1, x.2.2.2.2.2.2.2.1, x.2.2.2.2.2.2.2.2.1, x.2.2.2.2.2.2.2.2.2.1, x.2.2.2.2.2.2.2.2.2.2.1, x.2.2.2.2.2.2.2.2.2.2.2.1, x.2.2.2.2.2.2.2.2.2.2.2.2.1, x.2.2.2.2.2.2.2.2.2.2.2.2.2.1, q7.2.2, x.2.2.2.2.2.2.2.2.2.2.2.2.2.2.2.1, x.2.2.2.2.2.2.2.2.2.2.2.2.2.2.2.2.1, x.2.2.2.2.2.2.2.2.2.2.2.2.2.2.2.2.2)]) (L' := [w_Model E a o (q7.2.1, x.2.1, x.2.2.1, x.2.2.2.1, x.2.2.2.2.1, x.2.2.2.2.2.1, x.2.2.2.2.2.2.1, x.2.2.2.2.2.2.2.1, x.2.2.2.2.2.2.2.2.1, x.2.2.2.2.2.2.2.2.2.1, x.2.2.2.2.2.2.2.2.2.2.1, x.2.2.2.2.2.2.2.2.2.2.2.1, x.2.2.2.2.2.2.2.2.2.2.2.2.1, x.2.2.2.2.2.2.2.2.2.2.2.2.2.1, q7.2.2, x.2.2.2.2.2.2.2.2.2.2.2.2.2.2.2.1, x.2.2.2.2.2.2.2.2.2.2.2.2.2.2.2.2.1, x.2.2.2.2.2.2.2.2.2.2.2.2.2.2.2.2.2)]) (rv := q7.1) (va_runV (As := [.int v2, .int v4]) (rest := []) ⟨hx, hb, hml, hown, ha⟩ (k_X11_adds l E a o x v2 v4 q7 hq7 H.size) (cwV 2 ha (gi_V (fun _ h => h) mw1706 mw1708 mw28 mw87 mw1709) rfl rfl rfl hv_X11_adds ⟨(Nat.le_of_ble_eq_true rfl), (Nat.le_of_ble_eq_true rfl)⟩) ⟨pre_blind, va_recv hst.k (fr_P hP [0] rfl) (ci := 13) (q0 := 0) rfl rfl, pre_at hP hD hS hz hzs hst [0] (by decide) rfl rfl⟩ rfl rfl hl.1 rfl (lv_room (Nat.le_of_ble_eq_true rfl)) dX11_carriesOut_123 ⟨(Nat.le_of_ble_eq_true rfl), (Nat.le_of_ble_eq_true rfl)⟩) hP hD hS hA [0] (by decide) rfl rfl rfl rfl (fun H locs hP hD hS => ?_)
    obtain rfl := Option.some.inj hF
    exact en_i hQ (Nat.le_of_ble_eq_true rfl) (Nat.le_of_ble_eq_true rfl) hx hb hr hlocks hP hD hS rfl dX11_carriesOut_126
  have hF := q_brn w24_0 hF
  by_cases w24_1 : v6 = 99
  · have hF := q_brp w24_1 hF
    refine lv_tableIn (off := 143) (tgt := 167) hx hb dX11_carriesOut_24 (by rw [w24_1]; decide) (by rw [w24_1]; decide) (by rw [w24_1]; decide) (by decide) ?_
    refine lv_aload_n hx hb dX11_carriesOut_167 rfl (lv_at hl 2 rfl) ?_
    refine lv_iload_n hx hb dX11_carriesOut_168 rfl (lv_at hl 1 rfl) ?_
    obtain ⟨q8, hq8, hF⟩ := q_bdi hF
    refine cl_i (Lc := [w_Model E a o x]) (Lc' := [w_Model E a o (q8.2.1, x.2.1, x.2.2.1, x.2.2.2.1, x.2.2.2.2.1, x.2.2.2.2.2.1, x.2.2.2.2.2.2.1, x.2.2.2.2.2.2.2.1, x.2.2.2.2.2.2.2.2.1, x.2.2.2.2.2.2.2.2.2.1, x.2.2.2.2.2.2.2.2.2.2.1, x.2.2.2.2.2.2.2.2.2.2.2.1, x.2.2.2.2.2.2.2.2.2.2.2.2.1, x.2.2.2.2.2.2.2.2.2.2.2.2.2.1, q8.2.2, x.2.2.2.2.2.2.2.2.2.2.2.2.2.2.2.1, x.2.2.2.2.2.2.2.2.2.2.2.2.2.2.2.2.1, x.2.2.2.2.2.2.2.2.2.2.2.2.2.2.2.2.2)]) (L' := [w_Model E a o (q8.2.1, x.2.1, x.2.2.1, x.2.2.2.1, x.2.2.2.2.1, x.2.2.2.2.2.1, x.2.2.2.2.2.2.1, x.2.2.2.2.2.2.2.1, x.2.2.2.2.2.2.2.2.1, x.2.2.2.2.2.2.2.2.2.1, x.2.2.2.2.2.2.2.2.2.2.1, x.2.2.2.2.2.2.2.2.2.2.2.1, x.2.2.2.2.2.2.2.2.2.2.2.2.1, x.2.2.2.2.2.2.2.2.2.2.2.2.2.1, q8.2.2, x.2.2.2.2.2.2.2.2.2.2.2.2.2.2.2.1, x.2.2.2.2.2.2.2.2.2.2.2.2.2.2.2.2.1, x.2.2.2.2.2.2.2.2.2.2.2.2.2.2.2.2.2)]) (rv := q8.1) (va_runV (As := [.int v2]) (rest := []) ⟨hx, hb, hml, hown, ha⟩ (k_X11_clears l E a o x v2 q8 hq8 H.size) (cwV 1 ha (gi_V (fun _ h => h) mw1825 mw1827 mw46 mw87 mw1828) rfl rfl rfl hv_X11_clears ⟨(Nat.le_of_ble_eq_true rfl), (Nat.le_of_ble_eq_true rfl)⟩) ⟨pre_blind, va_recv hst.k (fr_P hP [0] rfl) (ci := 13) (q0 := 0) rfl rfl, pre_at hP hD hS hz hzs hst [0] (by decide) rfl rfl⟩ rfl rfl hl.1 rfl (lv_room (Nat.le_of_ble_eq_true rfl)) dX11_carriesOut_169 ⟨(Nat.le_of_ble_eq_true rfl), (Nat.le_of_ble_eq_true rfl)⟩) hP hD hS hA [0] (by decide) rfl rfl rfl rfl (fun H locs hP hD hS => ?_)
    obtain rfl := Option.some.inj hF
    exact en_i hQ (Nat.le_of_ble_eq_true rfl) (Nat.le_of_ble_eq_true rfl) hx hb hr hlocks hP hD hS rfl dX11_carriesOut_172
  have hF := q_brn w24_1 hF
  by_cases w24_2 : v6 = 100
  · have hF := q_brp w24_2 hF
    refine lv_tableIn (off := 169) (tgt := 193) hx hb dX11_carriesOut_24 (by rw [w24_2]; decide) (by rw [w24_2]; decide) (by rw [w24_2]; decide) (by decide) ?_
    refine lv_aload_n hx hb dX11_carriesOut_193 rfl (lv_at hl 2 rfl) ?_
    refine lv_iload_n hx hb dX11_carriesOut_194 rfl (lv_at hl 1 rfl) ?_
    refine lv_iload_n hx hb dX11_carriesOut_195 rfl (lv_at hl 0 rfl) ?_
    obtain ⟨q9, hq9, hF⟩ := q_bdi hF
    refine cl_i (Lc := [w_Model E a o x]) (Lc' := [w_Model E a o (q9.2.1, x.2.1, x.2.2.1, x.2.2.2.1, x.2.2.2.2.1, x.2.2.2.2.2.1, x.2.2.2.2.2.2.1, x.2.2.2.2.2.2.2.1, x.2.2.2.2.2.2.2.2.1, x.2.2.2.2.2.2.2.2.2.1, x.2.2.2.2.2.2.2.2.2.2.1, x.2.2.2.2.2.2.2.2.2.2.2.1, x.2.2.2.2.2.2.2.2.2.2.2.2.1, x.2.2.2.2.2.2.2.2.2.2.2.2.2.1, q9.2.2, x.2.2.2.2.2.2.2.2.2.2.2.2.2.2.2.1, x.2.2.2.2.2.2.2.2.2.2.2.2.2.2.2.2.1, x.2.2.2.2.2.2.2.2.2.2.2.2.2.2.2.2.2)]) (L' := [w_Model E a o (q9.2.1, x.2.1, x.2.2.1, x.2.2.2.1, x.2.2.2.2.1, x.2.2.2.2.2.1, x.2.2.2.2.2.2.1, x.2.2.2.2.2.2.2.1, x.2.2.2.2.2.2.2.2.1, x.2.2.2.2.2.2.2.2.2.1, x.2.2.2.2.2.2.2.2.2.2.1, x.2.2.2.2.2.2.2.2.2.2.2.1, x.2.2.2.2.2.2.2.2.2.2.2.2.1, x.2.2.2.2.2.2.2.2.2.2.2.2.2.1, q9.2.2, x.2.2.2.2.2.2.2.2.2.2.2.2.2.2.2.1, x.2.2.2.2.2.2.2.2.2.2.2.2.2.2.2.2.1, x.2.2.2.2.2.2.2.2.2.2.2.2.2.2.2.2.2)]) (rv := q9.1) (va_runV (As := [.int v2, .int v4]) (rest := []) ⟨hx, hb, hml, hown, ha⟩ (k_X11_grazes l E a o x v2 v4 q9 hq9 H.size) (cwV 2 ha (gi_V (fun _ h => h) mw1764 mw1766 mw37 mw87 mw1767) rfl rfl rfl hv_X11_grazes ⟨(Nat.le_of_ble_eq_true rfl), (Nat.le_of_ble_eq_true rfl)⟩) ⟨pre_blind, va_recv hst.k (fr_P hP [0] rfl) (ci := 13) (q0 := 0) rfl rfl, pre_at hP hD hS hz hzs hst [0] (by decide) rfl rfl⟩ rfl rfl hl.1 rfl (lv_room (Nat.le_of_ble_eq_true rfl)) dX11_carriesOut_196 ⟨(Nat.le_of_ble_eq_true rfl), (Nat.le_of_ble_eq_true rfl)⟩) hP hD hS hA [0] (by decide) rfl rfl rfl rfl (fun H locs hP hD hS => ?_)
    obtain rfl := Option.some.inj hF
    exact en_i hQ (Nat.le_of_ble_eq_true rfl) (Nat.le_of_ble_eq_true rfl) hx hb hr hlocks hP hD hS rfl dX11_carriesOut_199
  have hF := q_brn w24_2 hF
  by_cases w24_3 : v6 = 101
  · have hF := q_brp w24_3 hF
    refine lv_tableIn (off := 149) (tgt := 173) hx hb dX11_carriesOut_24 (by rw [w24_3]; decide) (by rw [w24_3]; decide) (by rw [w24_3]; decide) (by decide) ?_
    refine lv_aload_n hx hb dX11_carriesOut_173 rfl (lv_at hl 2 rfl) ?_
    refine lv_iload_n hx hb dX11_carriesOut_174 rfl (lv_at hl 1 rfl) ?_
    refine lv_iload_n hx hb dX11_carriesOut_175 rfl (lv_at hl 0 rfl) ?_
    obtain ⟨q10, hq10, hF⟩ := q_bdi hF
    refine cl_i (Lc := [w_Model E a o x]) (Lc' := [w_Model E a o (q10.2.1, x.2.1, x.2.2.1, x.2.2.2.1, x.2.2.2.2.1, x.2.2.2.2.2.1, x.2.2.2.2.2.2.1, x.2.2.2.2.2.2.2.1, x.2.2.2.2.2.2.2.2.1, x.2.2.2.2.2.2.2.2.2.1, x.2.2.2.2.2.2.2.2.2.2.1, x.2.2.2.2.2.2.2.2.2.2.2.1, x.2.2.2.2.2.2.2.2.2.2.2.2.1, x.2.2.2.2.2.2.2.2.2.2.2.2.2.1, q10.2.2, x.2.2.2.2.2.2.2.2.2.2.2.2.2.2.2.1, x.2.2.2.2.2.2.2.2.2.2.2.2.2.2.2.2.1, x.2.2.2.2.2.2.2.2.2.2.2.2.2.2.2.2.2)]) (L' := [w_Model E a o (q10.2.1, x.2.1, x.2.2.1, x.2.2.2.1, x.2.2.2.2.1, x.2.2.2.2.2.1, x.2.2.2.2.2.2.1, x.2.2.2.2.2.2.2.1, x.2.2.2.2.2.2.2.2.1, x.2.2.2.2.2.2.2.2.2.1, x.2.2.2.2.2.2.2.2.2.2.1, x.2.2.2.2.2.2.2.2.2.2.2.1, x.2.2.2.2.2.2.2.2.2.2.2.2.1, x.2.2.2.2.2.2.2.2.2.2.2.2.2.1, q10.2.2, x.2.2.2.2.2.2.2.2.2.2.2.2.2.2.2.1, x.2.2.2.2.2.2.2.2.2.2.2.2.2.2.2.2.1, x.2.2.2.2.2.2.2.2.2.2.2.2.2.2.2.2.2)]) (rv := q10.1) (va_runV (As := [.int v2, .int v4]) (rest := []) ⟨hx, hb, hml, hown, ha⟩ (k_X11_enters l E a o x v2 v4 q10 hq10 H.size) (cwV 2 ha (gi_V (fun _ h => h) mw1833 mw1835 mw47 mw87 mw1836) rfl rfl rfl hv_X11_enters ⟨(Nat.le_of_ble_eq_true rfl), (Nat.le_of_ble_eq_true rfl)⟩) ⟨pre_blind, va_recv hst.k (fr_P hP [0] rfl) (ci := 13) (q0 := 0) rfl rfl, pre_at hP hD hS hz hzs hst [0] (by decide) rfl rfl⟩ rfl rfl hl.1 rfl (lv_room (Nat.le_of_ble_eq_true rfl)) dX11_carriesOut_176 ⟨(Nat.le_of_ble_eq_true rfl), (Nat.le_of_ble_eq_true rfl)⟩) hP hD hS hA [0] (by decide) rfl rfl rfl rfl (fun H locs hP hD hS => ?_)
    obtain rfl := Option.some.inj hF
    exact en_i hQ (Nat.le_of_ble_eq_true rfl) (Nat.le_of_ble_eq_true rfl) hx hb hr hlocks hP hD hS rfl dX11_carriesOut_179
  have hF := q_brn w24_3 hF
  by_cases w24_4 : v6 = 102
  · have hF := q_brp w24_4 hF
    refine lv_tableIn (off := 163) (tgt := 187) hx hb dX11_carriesOut_24 (by rw [w24_4]; decide) (by rw [w24_4]; decide) (by rw [w24_4]; decide) (by decide) ?_
    refine lv_aload_n hx hb dX11_carriesOut_187 rfl (lv_at hl 2 rfl) ?_
    refine lv_iload_n hx hb dX11_carriesOut_188 rfl (lv_at hl 1 rfl) ?_
    obtain ⟨q11, hq11, hF⟩ := q_bdi hF
    refine cl_i (Lc := [w_Model E a o x]) (Lc' := [w_Model E a o (q11.2.1, x.2.1, x.2.2.1, x.2.2.2.1, x.2.2.2.2.1, x.2.2.2.2.2.1, x.2.2.2.2.2.2.1, x.2.2.2.2.2.2.2.1, x.2.2.2.2.2.2.2.2.1, x.2.2.2.2.2.2.2.2.2.1, x.2.2.2.2.2.2.2.2.2.2.1, x.2.2.2.2.2.2.2.2.2.2.2.1, x.2.2.2.2.2.2.2.2.2.2.2.2.1, x.2.2.2.2.2.2.2.2.2.2.2.2.2.1, q11.2.2, x.2.2.2.2.2.2.2.2.2.2.2.2.2.2.2.1, x.2.2.2.2.2.2.2.2.2.2.2.2.2.2.2.2.1, x.2.2.2.2.2.2.2.2.2.2.2.2.2.2.2.2.2)]) (L' := [w_Model E a o (q11.2.1, x.2.1, x.2.2.1, x.2.2.2.1, x.2.2.2.2.1, x.2.2.2.2.2.1, x.2.2.2.2.2.2.1, x.2.2.2.2.2.2.2.1, x.2.2.2.2.2.2.2.2.1, x.2.2.2.2.2.2.2.2.2.1, x.2.2.2.2.2.2.2.2.2.2.1, x.2.2.2.2.2.2.2.2.2.2.2.1, x.2.2.2.2.2.2.2.2.2.2.2.2.1, x.2.2.2.2.2.2.2.2.2.2.2.2.2.1, q11.2.2, x.2.2.2.2.2.2.2.2.2.2.2.2.2.2.2.1, x.2.2.2.2.2.2.2.2.2.2.2.2.2.2.2.2.1, x.2.2.2.2.2.2.2.2.2.2.2.2.2.2.2.2.2)]) (rv := q11.1) (va_runV (As := [.int v2]) (rest := []) ⟨hx, hb, hml, hown, ha⟩ (k_X11_fells l E a o x v2 q11 hq11 H.size) (cwV 1 ha (gi_V (fun _ h => h) mw1849 mw1851 mw49 mw87 mw1852) rfl rfl rfl hv_X11_fells ⟨(Nat.le_of_ble_eq_true rfl), (Nat.le_of_ble_eq_true rfl)⟩) ⟨pre_blind, va_recv hst.k (fr_P hP [0] rfl) (ci := 13) (q0 := 0) rfl rfl, pre_at hP hD hS hz hzs hst [0] (by decide) rfl rfl⟩ rfl rfl hl.1 rfl (lv_room (Nat.le_of_ble_eq_true rfl)) dX11_carriesOut_189 ⟨(Nat.le_of_ble_eq_true rfl), (Nat.le_of_ble_eq_true rfl)⟩) hP hD hS hA [0] (by decide) rfl rfl rfl rfl (fun H locs hP hD hS => ?_)
    obtain rfl := Option.some.inj hF
    exact en_i hQ (Nat.le_of_ble_eq_true rfl) (Nat.le_of_ble_eq_true rfl) hx hb hr hlocks hP hD hS rfl dX11_carriesOut_192
  have hF := q_brn w24_4 hF
  by_cases w24_5 : v6 = 103
  · have hF := q_brp w24_5 hF
    refine lv_tableIn (off := 169) (tgt := 193) hx hb dX11_carriesOut_24 (by rw [w24_5]; decide) (by rw [w24_5]; decide) (by rw [w24_5]; decide) (by decide) ?_
    refine lv_aload_n hx hb dX11_carriesOut_193 rfl (lv_at hl 2 rfl) ?_
    refine lv_iload_n hx hb dX11_carriesOut_194 rfl (lv_at hl 1 rfl) ?_
    refine lv_iload_n hx hb dX11_carriesOut_195 rfl (lv_at hl 0 rfl) ?_
    obtain ⟨q12, hq12, hF⟩ := q_bdi hF
    refine cl_i (Lc := [w_Model E a o x]) (Lc' := [w_Model E a o (q12.2.1, x.2.1, x.2.2.1, x.2.2.2.1, x.2.2.2.2.1, x.2.2.2.2.2.1, x.2.2.2.2.2.2.1, x.2.2.2.2.2.2.2.1, x.2.2.2.2.2.2.2.2.1, x.2.2.2.2.2.2.2.2.2.1, x.2.2.2.2.2.2.2.2.2.2.1, x.2.2.2.2.2.2.2.2.2.2.2.1, x.2.2.2.2.2.2.2.2.2.2.2.2.1, x.2.2.2.2.2.2.2.2.2.2.2.2.2.1, q12.2.2, x.2.2.2.2.2.2.2.2.2.2.2.2.2.2.2.1, x.2.2.2.2.2.2.2.2.2.2.2.2.2.2.2.2.1, x.2.2.2.2.2.2.2.2.2.2.2.2.2.2.2.2.2)]) (L' := [w_Model E a o (q12.2.1, x.2.1, x.2.2.1, x.2.2.2.1, x.2.2.2.2.1, x.2.2.2.2.2.1, x.2.2.2.2.2.2.1, x.2.2.2.2.2.2.2.1, x.2.2.2.2.2.2.2.2.1, x.2.2.2.2.2.2.2.2.2.1, x.2.2.2.2.2.2.2.2.2.2.1, x.2.2.2.2.2.2.2.2.2.2.2.1, x.2.2.2.2.2.2.2.2.2.2.2.2.1, x.2.2.2.2.2.2.2.2.2.2.2.2.2.1, q12.2.2, x.2.2.2.2.2.2.2.2.2.2.2.2.2.2.2.1, x.2.2.2.2.2.2.2.2.2.2.2.2.2.2.2.2.1, x.2.2.2.2.2.2.2.2.2.2.2.2.2.2.2.2.2)]) (rv := q12.1) (va_runV (As := [.int v2, .int v4]) (rest := []) ⟨hx, hb, hml, hown, ha⟩ (k_X11_grazes l E a o x v2 v4 q12 hq12 H.size) (cwV 2 ha (gi_V (fun _ h => h) mw1764 mw1766 mw37 mw87 mw1767) rfl rfl rfl hv_X11_grazes ⟨(Nat.le_of_ble_eq_true rfl), (Nat.le_of_ble_eq_true rfl)⟩) ⟨pre_blind, va_recv hst.k (fr_P hP [0] rfl) (ci := 13) (q0 := 0) rfl rfl, pre_at hP hD hS hz hzs hst [0] (by decide) rfl rfl⟩ rfl rfl hl.1 rfl (lv_room (Nat.le_of_ble_eq_true rfl)) dX11_carriesOut_196 ⟨(Nat.le_of_ble_eq_true rfl), (Nat.le_of_ble_eq_true rfl)⟩) hP hD hS hA [0] (by decide) rfl rfl rfl rfl (fun H locs hP hD hS => ?_)
    obtain rfl := Option.some.inj hF
    exact en_i hQ (Nat.le_of_ble_eq_true rfl) (Nat.le_of_ble_eq_true rfl) hx hb hr hlocks hP hD hS rfl dX11_carriesOut_199
  have hF := q_brn w24_5 hF
  by_cases w24_6 : v6 = 104
  · have hF := q_brp w24_6 hF
    refine lv_tableIn (off := 169) (tgt := 193) hx hb dX11_carriesOut_24 (by rw [w24_6]; decide) (by rw [w24_6]; decide) (by rw [w24_6]; decide) (by decide) ?_
    refine lv_aload_n hx hb dX11_carriesOut_193 rfl (lv_at hl 2 rfl) ?_
    refine lv_iload_n hx hb dX11_carriesOut_194 rfl (lv_at hl 1 rfl) ?_
    refine lv_iload_n hx hb dX11_carriesOut_195 rfl (lv_at hl 0 rfl) ?_
    obtain ⟨q13, hq13, hF⟩ := q_bdi hF
    refine cl_i (Lc := [w_Model E a o x]) (Lc' := [w_Model E a o (q13.2.1, x.2.1, x.2.2.1, x.2.2.2.1, x.2.2.2.2.1, x.2.2.2.2.2.1, x.2.2.2.2.2.2.1, x.2.2.2.2.2.2.2.1, x.2.2.2.2.2.2.2.2.1, x.2.2.2.2.2.2.2.2.2.1, x.2.2.2.2.2.2.2.2.2.2.1, x.2.2.2.2.2.2.2.2.2.2.2.1, x.2.2.2.2.2.2.2.2.2.2.2.2.1, x.2.2.2.2.2.2.2.2.2.2.2.2.2.1, q13.2.2, x.2.2.2.2.2.2.2.2.2.2.2.2.2.2.2.1, x.2.2.2.2.2.2.2.2.2.2.2.2.2.2.2.2.1, x.2.2.2.2.2.2.2.2.2.2.2.2.2.2.2.2.2)]) (L' := [w_Model E a o (q13.2.1, x.2.1, x.2.2.1, x.2.2.2.1, x.2.2.2.2.1, x.2.2.2.2.2.1, x.2.2.2.2.2.2.1, x.2.2.2.2.2.2.2.1, x.2.2.2.2.2.2.2.2.1, x.2.2.2.2.2.2.2.2.2.1, x.2.2.2.2.2.2.2.2.2.2.1, x.2.2.2.2.2.2.2.2.2.2.2.1, x.2.2.2.2.2.2.2.2.2.2.2.2.1, x.2.2.2.2.2.2.2.2.2.2.2.2.2.1, q13.2.2, x.2.2.2.2.2.2.2.2.2.2.2.2.2.2.2.1, x.2.2.2.2.2.2.2.2.2.2.2.2.2.2.2.2.1, x.2.2.2.2.2.2.2.2.2.2.2.2.2.2.2.2.2)]) (rv := q13.1) (va_runV (As := [.int v2, .int v4]) (rest := []) ⟨hx, hb, hml, hown, ha⟩ (k_X11_grazes l E a o x v2 v4 q13 hq13 H.size) (cwV 2 ha (gi_V (fun _ h => h) mw1764 mw1766 mw37 mw87 mw1767) rfl rfl rfl hv_X11_grazes ⟨(Nat.le_of_ble_eq_true rfl), (Nat.le_of_ble_eq_true rfl)⟩) ⟨pre_blind, va_recv hst.k (fr_P hP [0] rfl) (ci := 13) (q0 := 0) rfl rfl, pre_at hP hD hS hz hzs hst [0] (by decide) rfl rfl⟩ rfl rfl hl.1 rfl (lv_room (Nat.le_of_ble_eq_true rfl)) dX11_carriesOut_196 ⟨(Nat.le_of_ble_eq_true rfl), (Nat.le_of_ble_eq_true rfl)⟩) hP hD hS hA [0] (by decide) rfl rfl rfl rfl (fun H locs hP hD hS => ?_)
    obtain rfl := Option.some.inj hF
    exact en_i hQ (Nat.le_of_ble_eq_true rfl) (Nat.le_of_ble_eq_true rfl) hx hb hr hlocks hP hD hS rfl dX11_carriesOut_199
  have hF := q_brn w24_6 hF
  by_cases w24_7 : v6 = 105
  · have hF := q_brp w24_7 hF
    refine lv_tableIn (off := 156) (tgt := 180) hx hb dX11_carriesOut_24 (by rw [w24_7]; decide) (by rw [w24_7]; decide) (by rw [w24_7]; decide) (by decide) ?_
    refine lv_aload_n hx hb dX11_carriesOut_180 rfl (lv_at hl 2 rfl) ?_
    refine lv_iload_n hx hb dX11_carriesOut_181 rfl (lv_at hl 1 rfl) ?_
    refine lv_iload_n hx hb dX11_carriesOut_182 rfl (lv_at hl 0 rfl) ?_
    obtain ⟨q14, hq14, hF⟩ := q_bdi hF
    refine cl_i (Lc := [w_Model E a o x]) (Lc' := [w_Model E a o (q14.2.1, x.2.1, x.2.2.1, x.2.2.2.1, x.2.2.2.2.1, x.2.2.2.2.2.1, x.2.2.2.2.2.2.1, x.2.2.2.2.2.2.2.1, x.2.2.2.2.2.2.2.2.1, x.2.2.2.2.2.2.2.2.2.1, x.2.2.2.2.2.2.2.2.2.2.1, x.2.2.2.2.2.2.2.2.2.2.2.1, x.2.2.2.2.2.2.2.2.2.2.2.2.1, x.2.2.2.2.2.2.2.2.2.2.2.2.2.1, q14.2.2, x.2.2.2.2.2.2.2.2.2.2.2.2.2.2.2.1, x.2.2.2.2.2.2.2.2.2.2.2.2.2.2.2.2.1, x.2.2.2.2.2.2.2.2.2.2.2.2.2.2.2.2.2)]) (L' := [w_Model E a o (q14.2.1, x.2.1, x.2.2.1, x.2.2.2.1, x.2.2.2.2.1, x.2.2.2.2.2.1, x.2.2.2.2.2.2.1, x.2.2.2.2.2.2.2.1, x.2.2.2.2.2.2.2.2.1, x.2.2.2.2.2.2.2.2.2.1, x.2.2.2.2.2.2.2.2.2.2.1, x.2.2.2.2.2.2.2.2.2.2.2.1, x.2.2.2.2.2.2.2.2.2.2.2.2.1, x.2.2.2.2.2.2.2.2.2.2.2.2.2.1, q14.2.2, x.2.2.2.2.2.2.2.2.2.2.2.2.2.2.2.1, x.2.2.2.2.2.2.2.2.2.2.2.2.2.2.2.2.1, x.2.2.2.2.2.2.2.2.2.2.2.2.2.2.2.2.2)]) (rv := q14.1) (va_runV (As := [.int v2, .int v4]) (rest := []) ⟨hx, hb, hml, hown, ha⟩ (k_X11_addsCliff l E a o x v2 v4 q14 hq14 H.size) (cwV 2 ha (gi_V (fun _ h => h) mw1841 mw1843 mw48 mw87 mw1844) rfl rfl rfl hv_X11_addsCliff ⟨(Nat.le_of_ble_eq_true rfl), (Nat.le_of_ble_eq_true rfl)⟩) ⟨pre_blind, va_recv hst.k (fr_P hP [0] rfl) (ci := 13) (q0 := 0) rfl rfl, pre_at hP hD hS hz hzs hst [0] (by decide) rfl rfl⟩ rfl rfl hl.1 rfl (lv_room (Nat.le_of_ble_eq_true rfl)) dX11_carriesOut_183 ⟨(Nat.le_of_ble_eq_true rfl), (Nat.le_of_ble_eq_true rfl)⟩) hP hD hS hA [0] (by decide) rfl rfl rfl rfl (fun H locs hP hD hS => ?_)
    obtain rfl := Option.some.inj hF
    exact en_i hQ (Nat.le_of_ble_eq_true rfl) (Nat.le_of_ble_eq_true rfl) hx hb hr hlocks hP hD hS rfl dX11_carriesOut_186
  have hF := q_brn w24_7 hF
  by_cases w24_8 : v6 = 106
  · have hF := q_brp w24_8 hF
    refine lv_tableIn (off := 169) (tgt := 193) hx hb dX11_carriesOut_24 (by rw [w24_8]; decide) (by rw [w24_8]; decide) (by rw [w24_8]; decide) (by decide) ?_
    refine lv_aload_n hx hb dX11_carriesOut_193 rfl (lv_at hl 2 rfl) ?_
    refine lv_iload_n hx hb dX11_carriesOut_194 rfl (lv_at hl 1 rfl) ?_
    refine lv_iload_n hx hb dX11_carriesOut_195 rfl (lv_at hl 0 rfl) ?_
    obtain ⟨q15, hq15, hF⟩ := q_bdi hF
    refine cl_i (Lc := [w_Model E a o x]) (Lc' := [w_Model E a o (q15.2.1, x.2.1, x.2.2.1, x.2.2.2.1, x.2.2.2.2.1, x.2.2.2.2.2.1, x.2.2.2.2.2.2.1, x.2.2.2.2.2.2.2.1, x.2.2.2.2.2.2.2.2.1, x.2.2.2.2.2.2.2.2.2.1, x.2.2.2.2.2.2.2.2.2.2.1, x.2.2.2.2.2.2.2.2.2.2.2.1, x.2.2.2.2.2.2.2.2.2.2.2.2.1, x.2.2.2.2.2.2.2.2.2.2.2.2.2.1, q15.2.2, x.2.2.2.2.2.2.2.2.2.2.2.2.2.2.2.1, x.2.2.2.2.2.2.2.2.2.2.2.2.2.2.2.2.1, x.2.2.2.2.2.2.2.2.2.2.2.2.2.2.2.2.2)]) (L' := [w_Model E a o (q15.2.1, x.2.1, x.2.2.1, x.2.2.2.1, x.2.2.2.2.1, x.2.2.2.2.2.1, x.2.2.2.2.2.2.1, x.2.2.2.2.2.2.2.1, x.2.2.2.2.2.2.2.2.1, x.2.2.2.2.2.2.2.2.2.1, x.2.2.2.2.2.2.2.2.2.2.1, x.2.2.2.2.2.2.2.2.2.2.2.1, x.2.2.2.2.2.2.2.2.2.2.2.2.1, x.2.2.2.2.2.2.2.2.2.2.2.2.2.1, q15.2.2, x.2.2.2.2.2.2.2.2.2.2.2.2.2.2.2.1, x.2.2.2.2.2.2.2.2.2.2.2.2.2.2.2.2.1, x.2.2.2.2.2.2.2.2.2.2.2.2.2.2.2.2.2)]) (rv := q15.1) (va_runV (As := [.int v2, .int v4]) (rest := []) ⟨hx, hb, hml, hown, ha⟩ (k_X11_grazes l E a o x v2 v4 q15 hq15 H.size) (cwV 2 ha (gi_V (fun _ h => h) mw1764 mw1766 mw37 mw87 mw1767) rfl rfl rfl hv_X11_grazes ⟨(Nat.le_of_ble_eq_true rfl), (Nat.le_of_ble_eq_true rfl)⟩) ⟨pre_blind, va_recv hst.k (fr_P hP [0] rfl) (ci := 13) (q0 := 0) rfl rfl, pre_at hP hD hS hz hzs hst [0] (by decide) rfl rfl⟩ rfl rfl hl.1 rfl (lv_room (Nat.le_of_ble_eq_true rfl)) dX11_carriesOut_196 ⟨(Nat.le_of_ble_eq_true rfl), (Nat.le_of_ble_eq_true rfl)⟩) hP hD hS hA [0] (by decide) rfl rfl rfl rfl (fun H locs hP hD hS => ?_)
    obtain rfl := Option.some.inj hF
    exact en_i hQ (Nat.le_of_ble_eq_true rfl) (Nat.le_of_ble_eq_true rfl) hx hb hr hlocks hP hD hS rfl dX11_carriesOut_199
  have hF := q_brn w24_8 hF
  by_cases w24_9 : v6 = 107
  · have hF := q_brp w24_9 hF
    refine lv_tableIn (off := 123) (tgt := 147) hx hb dX11_carriesOut_24 (by rw [w24_9]; decide) (by rw [w24_9]; decide) (by rw [w24_9]; decide) (by decide) ?_
    refine lv_aload_n hx hb dX11_carriesOut_147 rfl (lv_at hl 2 rfl) ?_
    refine lv_iload_n hx hb dX11_carriesOut_148 rfl (lv_at hl 1 rfl) ?_
    refine lv_iload_n hx hb dX11_carriesOut_149 rfl (lv_at hl 0 rfl) ?_
    obtain ⟨q16, hq16, hF⟩ := q_bdi hF
    refine cl_i (Lc := [w_Model E a o x]) (Lc' := [w_Model E a o (q16.2.1, x.2.1, x.2.2.1, x.2.2.2.1, x.2.2.2.2.1, x.2.2.2.2.2.1, x.2.2.2.2.2.2.1, x.2.2.2.2.2.2.2.1, x.2.2.2.2.2.2.2.2.1, x.2.2.2.2.2.2.2.2.2.1, x.2.2.2.2.2.2.2.2.2.2.1, x.2.2.2.2.2.2.2.2.2.2.2.1, x.2.2.2.2.2.2.2.2.2.2.2.2.1, x.2.2.2.2.2.2.2.2.2.2.2.2.2.1, q16.2.2, x.2.2.2.2.2.2.2.2.2.2.2.2.2.2.2.1, x.2.2.2.2.2.2.2.2.2.2.2.2.2.2.2.2.1, x.2.2.2.2.2.2.2.2.2.2.2.2.2.2.2.2.2)]) (L' := [w_Model E a o (q16.2.1, x.2.1, x.2.2.1, x.2.2.2.1, x.2.2.2.2.1, x.2.2.2.2.2.1, x.2.2.2.2.2.2.1, x.2.2.2.2.2.2.2.1, x.2.2.2.2.2.2.2.2.1, x.2.2.2.2.2.2.2.2.2.1, x.2.2.2.2.2.2.2.2.2.2.1, x.2.2.2.2.2.2.2.2.2.2.2.1, x.2.2.2.2.2.2.2.2.2.2.2.2.1, x.2.2.2.2.2.2.2.2.2.2.2.2.2.1, q16.2.2, x.2.2.2.2.2.2.2.2.2.2.2.2.2.2.2.1, x.2.2.2.2.2.2.2.2.2.2.2.2.2.2.2.2.1, x.2.2.2.2.2.2.2.2.2.2.2.2.2.2.2.2.2)]) (rv := q16.1) (va_runV (As := [.int v2, .int v4]) (rest := []) ⟨hx, hb, hml, hown, ha⟩ (k_X11_keys l E a o x v2 v4 q16 hq16 H.size) (cwV 2 ha (gi_V (fun _ h => h) mw1797 mw1799 mw42 mw87 mw1800) rfl rfl rfl hv_X11_keys ⟨(Nat.le_of_ble_eq_true rfl), (Nat.le_of_ble_eq_true rfl)⟩) ⟨pre_blind, va_recv hst.k (fr_P hP [0] rfl) (ci := 13) (q0 := 0) rfl rfl, pre_at hP hD hS hz hzs hst [0] (by decide) rfl rfl⟩ rfl rfl hl.1 rfl (lv_room (Nat.le_of_ble_eq_true rfl)) dX11_carriesOut_150 ⟨(Nat.le_of_ble_eq_true rfl), (Nat.le_of_ble_eq_true rfl)⟩) hP hD hS hA [0] (by decide) rfl rfl rfl rfl (fun H locs hP hD hS => ?_)
    obtain rfl := Option.some.inj hF
    exact en_i hQ (Nat.le_of_ble_eq_true rfl) (Nat.le_of_ble_eq_true rfl) hx hb hr hlocks hP hD hS rfl dX11_carriesOut_153
  have hF := q_brn w24_9 hF
  by_cases w24_10 : v6 = 108
  · have hF := q_brp w24_10 hF
    refine lv_tableIn (off := 130) (tgt := 154) hx hb dX11_carriesOut_24 (by rw [w24_10]; decide) (by rw [w24_10]; decide) (by rw [w24_10]; decide) (by decide) ?_
    refine lv_aload_n hx hb dX11_carriesOut_154 rfl (lv_at hl 2 rfl) ?_
    refine lv_iload_n hx hb dX11_carriesOut_155 rfl (lv_at hl 1 rfl) ?_
    obtain ⟨q17, hq17, hF⟩ := q_bdi hF
    refine cl_i (Lc := [w_Model E a o x]) (Lc' := [w_Model E a o (q17.2.1, x.2.1, x.2.2.1, x.2.2.2.1, x.2.2.2.2.1, x.2.2.2.2.2.1, x.2.2.2.2.2.2.1, x.2.2.2.2.2.2.2.1, x.2.2.2.2.2.2.2.2.1, x.2.2.2.2.2.2.2.2.2.1, x.2.2.2.2.2.2.2.2.2.2.1, x.2.2.2.2.2.2.2.2.2.2.2.1, x.2.2.2.2.2.2.2.2.2.2.2.2.1, x.2.2.2.2.2.2.2.2.2.2.2.2.2.1, q17.2.2, x.2.2.2.2.2.2.2.2.2.2.2.2.2.2.2.1, x.2.2.2.2.2.2.2.2.2.2.2.2.2.2.2.2.1, x.2.2.2.2.2.2.2.2.2.2.2.2.2.2.2.2.2)]) (L' := [w_Model E a o (q17.2.1, x.2.1, x.2.2.1, x.2.2.2.1, x.2.2.2.2.1, x.2.2.2.2.2.1, x.2.2.2.2.2.2.1, x.2.2.2.2.2.2.2.1, x.2.2.2.2.2.2.2.2.1, x.2.2.2.2.2.2.2.2.2.1, x.2.2.2.2.2.2.2.2.2.2.1, x.2.2.2.2.2.2.2.2.2.2.2.1, x.2.2.2.2.2.2.2.2.2.2.2.2.1, x.2.2.2.2.2.2.2.2.2.2.2.2.2.1, q17.2.2, x.2.2.2.2.2.2.2.2.2.2.2.2.2.2.2.1, x.2.2.2.2.2.2.2.2.2.2.2.2.2.2.2.2.1, x.2.2.2.2.2.2.2.2.2.2.2.2.2.2.2.2.2)]) (rv := q17.1) (va_runV (As := [.int v2]) (rest := []) ⟨hx, hb, hml, hown, ha⟩ (k_X11_tolerates l E a o x v2 q17 hq17 H.size) (cwV 1 ha (gi_V (fun _ h => h) mw1809 mw1811 mw44 mw87 mw1812) rfl rfl rfl hv_X11_tolerates ⟨(Nat.le_of_ble_eq_true rfl), (Nat.le_of_ble_eq_true rfl)⟩) ⟨pre_blind, va_recv hst.k (fr_P hP [0] rfl) (ci := 13) (q0 := 0) rfl rfl, pre_at hP hD hS hz hzs hst [0] (by decide) rfl rfl⟩ rfl rfl hl.1 rfl (lv_room (Nat.le_of_ble_eq_true rfl)) dX11_carriesOut_156 ⟨(Nat.le_of_ble_eq_true rfl), (Nat.le_of_ble_eq_true rfl)⟩) hP hD hS hA [0] (by decide) rfl rfl rfl rfl (fun H locs hP hD hS => ?_)
    obtain rfl := Option.some.inj hF
    exact en_i hQ (Nat.le_of_ble_eq_true rfl) (Nat.le_of_ble_eq_true rfl) hx hb hr hlocks hP hD hS rfl dX11_carriesOut_159
  have hF := q_brn w24_10 hF
  by_cases w24_11 : v6 = 109
  · have hF := q_brp w24_11 hF
    refine lv_tableIn (off := 116) (tgt := 140) hx hb dX11_carriesOut_24 (by rw [w24_11]; decide) (by rw [w24_11]; decide) (by rw [w24_11]; decide) (by decide) ?_
    refine lv_aload_n hx hb dX11_carriesOut_140 rfl (lv_at hl 2 rfl) ?_
    refine lv_iload_n hx hb dX11_carriesOut_141 rfl (lv_at hl 1 rfl) ?_
    refine lv_iload_n hx hb dX11_carriesOut_142 rfl (lv_at hl 0 rfl) ?_
    obtain ⟨q18, hq18, hF⟩ := q_bdi hF
    refine cl_i (Lc := [w_Model E a o x]) (Lc' := [w_Model E a o (q18.2.1, x.2.1, x.2.2.1, x.2.2.2.1, x.2.2.2.2.1, x.2.2.2.2.2.1, x.2.2.2.2.2.2.1, x.2.2.2.2.2.2.2.1, x.2.2.2.2.2.2.2.2.1, x.2.2.2.2.2.2.2.2.2.1, x.2.2.2.2.2.2.2.2.2.2.1, x.2.2.2.2.2.2.2.2.2.2.2.1, x.2.2.2.2.2.2.2.2.2.2.2.2.1, x.2.2.2.2.2.2.2.2.2.2.2.2.2.1, q18.2.2, x.2.2.2.2.2.2.2.2.2.2.2.2.2.2.2.1, x.2.2.2.2.2.2.2.2.2.2.2.2.2.2.2.2.1, x.2.2.2.2.2.2.2.2.2.2.2.2.2.2.2.2.2)]) (L' := [w_Model E a o (q18.2.1, x.2.1, x.2.2.1, x.2.2.2.1, x.2.2.2.2.1, x.2.2.2.2.2.1, x.2.2.2.2.2.2.1, x.2.2.2.2.2.2.2.1, x.2.2.2.2.2.2.2.2.1, x.2.2.2.2.2.2.2.2.2.1, x.2.2.2.2.2.2.2.2.2.2.1, x.2.2.2.2.2.2.2.2.2.2.2.1, x.2.2.2.2.2.2.2.2.2.2.2.2.1, x.2.2.2.2.2.2.2.2.2.2.2.2.2.1, q18.2.2, x.2.2.2.2.2.2.2.2.2.2.2.2.2.2.2.1, x.2.2.2.2.2.2.2.2.2.2.2.2.2.2.2.2.1, x.2.2.2.2.2.2.2.2.2.2.2.2.2.2.2.2.2)]) (rv := q18.1) (va_runV (As := [.int v2, .int v4]) (rest := []) ⟨hx, hb, hml, hown, ha⟩ (k_X11_moves l E a o x v2 v4 q18 hq18 H.size) (cwV 2 ha (gi_V (fun _ h => h) mw1756 mw1758 mw36 mw87 mw1759) rfl rfl rfl hv_X11_moves ⟨(Nat.le_of_ble_eq_true rfl), (Nat.le_of_ble_eq_true rfl)⟩) ⟨pre_blind, va_recv hst.k (fr_P hP [0] rfl) (ci := 13) (q0 := 0) rfl rfl, pre_at hP hD hS hz hzs hst [0] (by decide) rfl rfl⟩ rfl rfl hl.1 rfl (lv_room (Nat.le_of_ble_eq_true rfl)) dX11_carriesOut_143 ⟨(Nat.le_of_ble_eq_true rfl), (Nat.le_of_ble_eq_true rfl)⟩) hP hD hS hA [0] (by decide) rfl rfl rfl rfl (fun H locs hP hD hS => ?_)
    obtain rfl := Option.some.inj hF
    exact en_i hQ (Nat.le_of_ble_eq_true rfl) (Nat.le_of_ble_eq_true rfl) hx hb hr hlocks hP hD hS rfl dX11_carriesOut_146
  have hF := q_brn w24_11 hF
  by_cases w24_12 : v6 = 110
  · have hF := q_brp w24_12 hF
    refine lv_tableIn (off := 169) (tgt := 193) hx hb dX11_carriesOut_24 (by rw [w24_12]; decide) (by rw [w24_12]; decide) (by rw [w24_12]; decide) (by decide) ?_
    refine lv_aload_n hx hb dX11_carriesOut_193 rfl (lv_at hl 2 rfl) ?_
    refine lv_iload_n hx hb dX11_carriesOut_194 rfl (lv_at hl 1 rfl) ?_
    refine lv_iload_n hx hb dX11_carriesOut_195 rfl (lv_at hl 0 rfl) ?_
    obtain ⟨q19, hq19, hF⟩ := q_bdi hF
    refine cl_i (Lc := [w_Model E a o x]) (Lc' := [w_Model E a o (q19.2.1, x.2.1, x.2.2.1, x.2.2.2.1, x.2.2.2.2.1, x.2.2.2.2.2.1, x.2.2.2.2.2.2.1, x.2.2.2.2.2.2.2.1, x.2.2.2.2.2.2.2.2.1, x.2.2.2.2.2.2.2.2.2.1, x.2.2.2.2.2.2.2.2.2.2.1, x.2.2.2.2.2.2.2.2.2.2.2.1, x.2.2.2.2.2.2.2.2.2.2.2.2.1, x.2.2.2.2.2.2.2.2.2.2.2.2.2.1, q19.2.2, x.2.2.2.2.2.2.2.2.2.2.2.2.2.2.2.1, x.2.2.2.2.2.2.2.2.2.2.2.2.2.2.2.2.1, x.2.2.2.2.2.2.2.2.2.2.2.2.2.2.2.2.2)]) (L' := [w_Model E a o (q19.2.1, x.2.1, x.2.2.1, x.2.2.2.1, x.2.2.2.2.1, x.2.2.2.2.2.1, x.2.2.2.2.2.2.1, x.2.2.2.2.2.2.2.1, x.2.2.2.2.2.2.2.2.1, x.2.2.2.2.2.2.2.2.2.1, x.2.2.2.2.2.2.2.2.2.2.1, x.2.2.2.2.2.2.2.2.2.2.2.1, x.2.2.2.2.2.2.2.2.2.2.2.2.1, x.2.2.2.2.2.2.2.2.2.2.2.2.2.1, q19.2.2, x.2.2.2.2.2.2.2.2.2.2.2.2.2.2.2.1, x.2.2.2.2.2.2.2.2.2.2.2.2.2.2.2.2.1, x.2.2.2.2.2.2.2.2.2.2.2.2.2.2.2.2.2)]) (rv := q19.1) (va_runV (As := [.int v2, .int v4]) (rest := []) ⟨hx, hb, hml, hown, ha⟩ (k_X11_grazes l E a o x v2 v4 q19 hq19 H.size) (cwV 2 ha (gi_V (fun _ h => h) mw1764 mw1766 mw37 mw87 mw1767) rfl rfl rfl hv_X11_grazes ⟨(Nat.le_of_ble_eq_true rfl), (Nat.le_of_ble_eq_true rfl)⟩) ⟨pre_blind, va_recv hst.k (fr_P hP [0] rfl) (ci := 13) (q0 := 0) rfl rfl, pre_at hP hD hS hz hzs hst [0] (by decide) rfl rfl⟩ rfl rfl hl.1 rfl (lv_room (Nat.le_of_ble_eq_true rfl)) dX11_carriesOut_196 ⟨(Nat.le_of_ble_eq_true rfl), (Nat.le_of_ble_eq_true rfl)⟩) hP hD hS hA [0] (by decide) rfl rfl rfl rfl (fun H locs hP hD hS => ?_)
    obtain rfl := Option.some.inj hF
    exact en_i hQ (Nat.le_of_ble_eq_true rfl) (Nat.le_of_ble_eq_true rfl) hx hb hr hlocks hP hD hS rfl dX11_carriesOut_199
  have hF := q_brn w24_12 hF
  by_cases w24_13 : v6 = 111
  · have hF := q_brp w24_13 hF
    refine lv_tableIn (off := 169) (tgt := 193) hx hb dX11_carriesOut_24 (by rw [w24_13]; decide) (by rw [w24_13]; decide) (by rw [w24_13]; decide) (by decide) ?_
    refine lv_aload_n hx hb dX11_carriesOut_193 rfl (lv_at hl 2 rfl) ?_
    refine lv_iload_n hx hb dX11_carriesOut_194 rfl (lv_at hl 1 rfl) ?_
    refine lv_iload_n hx hb dX11_carriesOut_195 rfl (lv_at hl 0 rfl) ?_
    obtain ⟨q20, hq20, hF⟩ := q_bdi hF
    refine cl_i (Lc := [w_Model E a o x]) (Lc' := [w_Model E a o (q20.2.1, x.2.1, x.2.2.1, x.2.2.2.1, x.2.2.2.2.1, x.2.2.2.2.2.1, x.2.2.2.2.2.2.1, x.2.2.2.2.2.2.2.1, x.2.2.2.2.2.2.2.2.1, x.2.2.2.2.2.2.2.2.2.1, x.2.2.2.2.2.2.2.2.2.2.1, x.2.2.2.2.2.2.2.2.2.2.2.1, x.2.2.2.2.2.2.2.2.2.2.2.2.1, x.2.2.2.2.2.2.2.2.2.2.2.2.2.1, q20.2.2, x.2.2.2.2.2.2.2.2.2.2.2.2.2.2.2.1, x.2.2.2.2.2.2.2.2.2.2.2.2.2.2.2.2.1, x.2.2.2.2.2.2.2.2.2.2.2.2.2.2.2.2.2)]) (L' := [w_Model E a o (q20.2.1, x.2.1, x.2.2.1, x.2.2.2.1, x.2.2.2.2.1, x.2.2.2.2.2.1, x.2.2.2.2.2.2.1, x.2.2.2.2.2.2.2.1, x.2.2.2.2.2.2.2.2.1, x.2.2.2.2.2.2.2.2.2.1, x.2.2.2.2.2.2.2.2.2.2.1, x.2.2.2.2.2.2.2.2.2.2.2.1, x.2.2.2.2.2.2.2.2.2.2.2.2.1, x.2.2.2.2.2.2.2.2.2.2.2.2.2.1, q20.2.2, x.2.2.2.2.2.2.2.2.2.2.2.2.2.2.2.1, x.2.2.2.2.2.2.2.2.2.2.2.2.2.2.2.2.1, x.2.2.2.2.2.2.2.2.2.2.2.2.2.2.2.2.2)]) (rv := q20.1) (va_runV (As := [.int v2, .int v4]) (rest := []) ⟨hx, hb, hml, hown, ha⟩ (k_X11_grazes l E a o x v2 v4 q20 hq20 H.size) (cwV 2 ha (gi_V (fun _ h => h) mw1764 mw1766 mw37 mw87 mw1767) rfl rfl rfl hv_X11_grazes ⟨(Nat.le_of_ble_eq_true rfl), (Nat.le_of_ble_eq_true rfl)⟩) ⟨pre_blind, va_recv hst.k (fr_P hP [0] rfl) (ci := 13) (q0 := 0) rfl rfl, pre_at hP hD hS hz hzs hst [0] (by decide) rfl rfl⟩ rfl rfl hl.1 rfl (lv_room (Nat.le_of_ble_eq_true rfl)) dX11_carriesOut_196 ⟨(Nat.le_of_ble_eq_true rfl), (Nat.le_of_ble_eq_true rfl)⟩) hP hD hS hA [0] (by decide) rfl rfl rfl rfl (fun H locs hP hD hS => ?_)
    obtain rfl := Option.some.inj hF
    exact en_i hQ (Nat.le_of_ble_eq_true rfl) (Nat.le_of_ble_eq_true rfl) hx hb hr hlocks hP hD hS rfl dX11_carriesOut_199
  have hF := q_brn w24_13 hF
  by_cases w24_14 : v6 = 112
  · have hF := q_brp w24_14 hF
    refine lv_tableIn (off := 169) (tgt := 193) hx hb dX11_carriesOut_24 (by rw [w24_14]; decide) (by rw [w24_14]; decide) (by rw [w24_14]; decide) (by decide) ?_
    refine lv_aload_n hx hb dX11_carriesOut_193 rfl (lv_at hl 2 rfl) ?_
    refine lv_iload_n hx hb dX11_carriesOut_194 rfl (lv_at hl 1 rfl) ?_
    refine lv_iload_n hx hb dX11_carriesOut_195 rfl (lv_at hl 0 rfl) ?_
    obtain ⟨q21, hq21, hF⟩ := q_bdi hF
    refine cl_i (Lc := [w_Model E a o x]) (Lc' := [w_Model E a o (q21.2.1, x.2.1, x.2.2.1, x.2.2.2.1, x.2.2.2.2.1, x.2.2.2.2.2.1, x.2.2.2.2.2.2.1, x.2.2.2.2.2.2.2.1, x.2.2.2.2.2.2.2.2.1, x.2.2.2.2.2.2.2.2.2.1, x.2.2.2.2.2.2.2.2.2.2.1, x.2.2.2.2.2.2.2.2.2.2.2.1, x.2.2.2.2.2.2.2.2.2.2.2.2.1, x.2.2.2.2.2.2.2.2.2.2.2.2.2.1, q21.2.2, x.2.2.2.2.2.2.2.2.2.2.2.2.2.2.2.1, x.2.2.2.2.2.2.2.2.2.2.2.2.2.2.2.2.1, x.2.2.2.2.2.2.2.2.2.2.2.2.2.2.2.2.2)]) (L' := [w_Model E a o (q21.2.1, x.2.1, x.2.2.1, x.2.2.2.1, x.2.2.2.2.1, x.2.2.2.2.2.1, x.2.2.2.2.2.2.1, x.2.2.2.2.2.2.2.1, x.2.2.2.2.2.2.2.2.1, x.2.2.2.2.2.2.2.2.2.1, x.2.2.2.2.2.2.2.2.2.2.1, x.2.2.2.2.2.2.2.2.2.2.2.1, x.2.2.2.2.2.2.2.2.2.2.2.2.1, x.2.2.2.2.2.2.2.2.2.2.2.2.2.1, q21.2.2, x.2.2.2.2.2.2.2.2.2.2.2.2.2.2.2.1, x.2.2.2.2.2.2.2.2.2.2.2.2.2.2.2.2.1, x.2.2.2.2.2.2.2.2.2.2.2.2.2.2.2.2.2)]) (rv := q21.1) (va_runV (As := [.int v2, .int v4]) (rest := []) ⟨hx, hb, hml, hown, ha⟩ (k_X11_grazes l E a o x v2 v4 q21 hq21 H.size) (cwV 2 ha (gi_V (fun _ h => h) mw1764 mw1766 mw37 mw87 mw1767) rfl rfl rfl hv_X11_grazes ⟨(Nat.le_of_ble_eq_true rfl), (Nat.le_of_ble_eq_true rfl)⟩) ⟨pre_blind, va_recv hst.k (fr_P hP [0] rfl) (ci := 13) (q0 := 0) rfl rfl, pre_at hP hD hS hz hzs hst [0] (by decide) rfl rfl⟩ rfl rfl hl.1 rfl (lv_room (Nat.le_of_ble_eq_true rfl)) dX11_carriesOut_196 ⟨(Nat.le_of_ble_eq_true rfl), (Nat.le_of_ble_eq_true rfl)⟩) hP hD hS hA [0] (by decide) rfl rfl rfl rfl (fun H locs hP hD hS => ?_)
    obtain rfl := Option.some.inj hF
    exact en_i hQ (Nat.le_of_ble_eq_true rfl) (Nat.le_of_ble_eq_true rfl) hx hb hr hlocks hP hD hS rfl dX11_carriesOut_199
  have hF := q_brn w24_14 hF
  by_cases w24_15 : v6 = 113
  · have hF := q_brp w24_15 hF
    refine lv_tableIn (off := 169) (tgt := 193) hx hb dX11_carriesOut_24 (by rw [w24_15]; decide) (by rw [w24_15]; decide) (by rw [w24_15]; decide) (by decide) ?_
    refine lv_aload_n hx hb dX11_carriesOut_193 rfl (lv_at hl 2 rfl) ?_
    refine lv_iload_n hx hb dX11_carriesOut_194 rfl (lv_at hl 1 rfl) ?_
    refine lv_iload_n hx hb dX11_carriesOut_195 rfl (lv_at hl 0 rfl) ?_
    obtain ⟨q22, hq22, hF⟩ := q_bdi hF
    refine cl_i (Lc := [w_Model E a o x]) (Lc' := [w_Model E a o (q22.2.1, x.2.1, x.2.2.1, x.2.2.2.1, x.2.2.2.2.1, x.2.2.2.2.2.1, x.2.2.2.2.2.2.1, x.2.2.2.2.2.2.2.1, x.2.2.2.2.2.2.2.2.1, x.2.2.2.2.2.2.2.2.2.1, x.2.2.2.2.2.2.2.2.2.2.1, x.2.2.2.2.2.2.2.2.2.2.2.1, x.2.2.2.2.2.2.2.2.2.2.2.2.1, x.2.2.2.2.2.2.2.2.2.2.2.2.2.1, q22.2.2, x.2.2.2.2.2.2.2.2.2.2.2.2.2.2.2.1, x.2.2.2.2.2.2.2.2.2.2.2.2.2.2.2.2.1, x.2.2.2.2.2.2.2.2.2.2.2.2.2.2.2.2.2)]) (L' := [w_Model E a o (q22.2.1, x.2.1, x.2.2.1, x.2.2.2.1, x.2.2.2.2.1, x.2.2.2.2.2.1, x.2.2.2.2.2.2.1, x.2.2.2.2.2.2.2.1, x.2.2.2.2.2.2.2.2.1, x.2.2.2.2.2.2.2.2.2.1, x.2.2.2.2.2.2.2.2.2.2.1, x.2.2.2.2.2.2.2.2.2.2.2.1, x.2.2.2.2.2.2.2.2.2.2.2.2.1, x.2.2.2.2.2.2.2.2.2.2.2.2.2.1, q22.2.2, x.2.2.2.2.2.2.2.2.2.2.2.2.2.2.2.1, x.2.2.2.2.2.2.2.2.2.2.2.2.2.2.2.2.1, x.2.2.2.2.2.2.2.2.2.2.2.2.2.2.2.2.2)]) (rv := q22.1) (va_runV (As := [.int v2, .int v4]) (rest := []) ⟨hx, hb, hml, hown, ha⟩ (k_X11_grazes l E a o x v2 v4 q22 hq22 H.size) (cwV 2 ha (gi_V (fun _ h => h) mw1764 mw1766 mw37 mw87 mw1767) rfl rfl rfl hv_X11_grazes ⟨(Nat.le_of_ble_eq_true rfl), (Nat.le_of_ble_eq_true rfl)⟩) ⟨pre_blind, va_recv hst.k (fr_P hP [0] rfl) (ci := 13) (q0 := 0) rfl rfl, pre_at hP hD hS hz hzs hst [0] (by decide) rfl rfl⟩ rfl rfl hl.1 rfl (lv_room (Nat.le_of_ble_eq_true rfl)) dX11_carriesOut_196 ⟨(Nat.le_of_ble_eq_true rfl), (Nat.le_of_ble_eq_true rfl)⟩) hP hD hS hA [0] (by decide) rfl rfl rfl rfl (fun H locs hP hD hS => ?_)
    obtain rfl := Option.some.inj hF
    exact en_i hQ (Nat.le_of_ble_eq_true rfl) (Nat.le_of_ble_eq_true rfl) hx hb hr hlocks hP hD hS rfl dX11_carriesOut_199
  have hF := q_brn w24_15 hF
  by_cases w24_16 : v6 = 114
  · have hF := q_brp w24_16 hF
    refine lv_tableIn (off := 103) (tgt := 127) hx hb dX11_carriesOut_24 (by rw [w24_16]; decide) (by rw [w24_16]; decide) (by rw [w24_16]; decide) (by decide) ?_
    refine lv_aload_n hx hb dX11_carriesOut_127 rfl (lv_at hl 2 rfl) ?_
    refine lv_iload_n hx hb dX11_carriesOut_128 rfl (lv_at hl 1 rfl) ?_
    obtain ⟨q23, hq23, hF⟩ := q_bdi hF
    refine cl_i (Lc := [w_Model E a o x]) (Lc' := [w_Model E a o (q23.2.1, x.2.1, x.2.2.1, x.2.2.2.1, x.2.2.2.2.1, x.2.2.2.2.2.1, x.2.2.2.2.2.2.1, x.2.2.2.2.2.2.2.1, x.2.2.2.2.2.2.2.2.1, x.2.2.2.2.2.2.2.2.2.1, x.2.2.2.2.2.2.2.2.2.2.1, x.2.2.2.2.2.2.2.2.2.2.2.1, x.2.2.2.2.2.2.2.2.2.2.2.2.1, x.2.2.2.2.2.2.2.2.2.2.2.2.2.1, q23.2.2, x.2.2.2.2.2.2.2.2.2.2.2.2.2.2.2.1, x.2.2.2.2.2.2.2.2.2.2.2.2.2.2.2.2.1, x.2.2.2.2.2.2.2.2.2.2.2.2.2.2.2.2.2)]) (L' := [w_Model E a o (q23.2.1, x.2.1, x.2.2.1, x.2.2.2.1, x.2.2.2.2.1, x.2.2.2.2.2.1, x.2.2.2.2.2.2.1, x.2.2.2.2.2.2.2.1, x.2.2.2.2.2.2.2.2.1, x.2.2.2.2.2.2.2.2.2.1, x.2.2.2.2.2.2.2.2.2.2.1, x.2.2.2.2.2.2.2.2.2.2.2.1, x.2.2.2.2.2.2.2.2.2.2.2.2.1, x.2.2.2.2.2.2.2.2.2.2.2.2.2.1, q23.2.2, x.2.2.2.2.2.2.2.2.2.2.2.2.2.2.2.1, x.2.2.2.2.2.2.2.2.2.2.2.2.2.2.2.2.1, x.2.2.2.2.2.2.2.2.2.2.2.2.2.2.2.2.2)]) (rv := q23.1) (va_runV (As := [.int v2]) (rest := []) ⟨hx, hb, hml, hown, ha⟩ (k_X11_removes l E a o x v2 q23 hq23 H.size) (cwV 1 ha (gi_V (fun _ h => h) mw1732 mw1734 mw32 mw87 mw1735) rfl rfl rfl hv_X11_removes ⟨(Nat.le_of_ble_eq_true rfl), (Nat.le_of_ble_eq_true rfl)⟩) ⟨pre_blind, va_recv hst.k (fr_P hP [0] rfl) (ci := 13) (q0 := 0) rfl rfl, pre_at hP hD hS hz hzs hst [0] (by decide) rfl rfl⟩ rfl rfl hl.1 rfl (lv_room (Nat.le_of_ble_eq_true rfl)) dX11_carriesOut_129 ⟨(Nat.le_of_ble_eq_true rfl), (Nat.le_of_ble_eq_true rfl)⟩) hP hD hS hA [0] (by decide) rfl rfl rfl rfl (fun H locs hP hD hS => ?_)
    obtain rfl := Option.some.inj hF
    exact en_i hQ (Nat.le_of_ble_eq_true rfl) (Nat.le_of_ble_eq_true rfl) hx hb hr hlocks hP hD hS rfl dX11_carriesOut_132
  have hF := q_brn w24_16 hF
  by_cases w24_17 : v6 = 115
  · have hF := q_brp w24_17 hF
    refine lv_tableIn (off := 169) (tgt := 193) hx hb dX11_carriesOut_24 (by rw [w24_17]; decide) (by rw [w24_17]; decide) (by rw [w24_17]; decide) (by decide) ?_
    refine lv_aload_n hx hb dX11_carriesOut_193 rfl (lv_at hl 2 rfl) ?_
    refine lv_iload_n hx hb dX11_carriesOut_194 rfl (lv_at hl 1 rfl) ?_
    refine lv_iload_n hx hb dX11_carriesOut_195 rfl (lv_at hl 0 rfl) ?_
    obtain ⟨q24, hq24, hF⟩ := q_bdi hF
    refine cl_i (Lc := [w_Model E a o x]) (Lc' := [w_Model E a o (q24.2.1, x.2.1, x.2.2.1, x.2.2.2.1, x.2.2.2.2.1, x.2.2.2.2.2.1, x.2.2.2.2.2.2.1, x.2.2.2.2.2.2.2.1, x.2.2.2.2.2.2.2.2.1, x.2.2.2.2.2.2.2.2.2.1, x.2.2.2.2.2.2.2.2.2.2.1, x.2.2.2.2.2.2.2.2.2.2.2.1, x.2.2.2.2.2.2.2.2.2.2.2.2.1, x.2.2.2.2.2.2.2.2.2.2.2.2.2.1, q24.2.2, x.2.2.2.2.2.2.2.2.2.2.2.2.2.2.2.1, x.2.2.2.2.2.2.2.2.2.2.2.2.2.2.2.2.1, x.2.2.2.2.2.2.2.2.2.2.2.2.2.2.2.2.2)]) (L' := [w_Model E a o (q24.2.1, x.2.1, x.2.2.1, x.2.2.2.1, x.2.2.2.2.1, x.2.2.2.2.2.1, x.2.2.2.2.2.2.1, x.2.2.2.2.2.2.2.1, x.2.2.2.2.2.2.2.2.1, x.2.2.2.2.2.2.2.2.2.1, x.2.2.2.2.2.2.2.2.2.2.1, x.2.2.2.2.2.2.2.2.2.2.2.1, x.2.2.2.2.2.2.2.2.2.2.2.2.1, x.2.2.2.2.2.2.2.2.2.2.2.2.2.1, q24.2.2, x.2.2.2.2.2.2.2.2.2.2.2.2.2.2.2.1, x.2.2.2.2.2.2.2.2.2.2.2.2.2.2.2.2.1, x.2.2.2.2.2.2.2.2.2.2.2.2.2.2.2.2.2)]) (rv := q24.1) (va_runV (As := [.int v2, .int v4]) (rest := []) ⟨hx, hb, hml, hown, ha⟩ (k_X11_grazes l E a o x v2 v4 q24 hq24 H.size) (cwV 2 ha (gi_V (fun _ h => h) mw1764 mw1766 mw37 mw87 mw1767) rfl rfl rfl hv_X11_grazes ⟨(Nat.le_of_ble_eq_true rfl), (Nat.le_of_ble_eq_true rfl)⟩) ⟨pre_blind, va_recv hst.k (fr_P hP [0] rfl) (ci := 13) (q0 := 0) rfl rfl, pre_at hP hD hS hz hzs hst [0] (by decide) rfl rfl⟩ rfl rfl hl.1 rfl (lv_room (Nat.le_of_ble_eq_true rfl)) dX11_carriesOut_196 ⟨(Nat.le_of_ble_eq_true rfl), (Nat.le_of_ble_eq_true rfl)⟩) hP hD hS hA [0] (by decide) rfl rfl rfl rfl (fun H locs hP hD hS => ?_)
    obtain rfl := Option.some.inj hF
    exact en_i hQ (Nat.le_of_ble_eq_true rfl) (Nat.le_of_ble_eq_true rfl) hx hb hr hlocks hP hD hS rfl dX11_carriesOut_199
  have hF := q_brn w24_17 hF
  by_cases w24_18 : v6 = 116
  · have hF := q_brp w24_18 hF
    refine lv_tableIn (off := 136) (tgt := 160) hx hb dX11_carriesOut_24 (by rw [w24_18]; decide) (by rw [w24_18]; decide) (by rw [w24_18]; decide) (by decide) ?_
    refine lv_aload_n hx hb dX11_carriesOut_160 rfl (lv_at hl 2 rfl) ?_
    refine lv_iload_n hx hb dX11_carriesOut_161 rfl (lv_at hl 1 rfl) ?_
    refine lv_iload_n hx hb dX11_carriesOut_162 rfl (lv_at hl 0 rfl) ?_
    obtain ⟨q25, hq25, hF⟩ := q_bdi hF
    refine cl_i (Lc := [w_Model E a o x]) (Lc' := [w_Model E a o (q25.2.1, x.2.1, x.2.2.1, x.2.2.2.1, x.2.2.2.2.1, x.2.2.2.2.2.1, x.2.2.2.2.2.2.1, x.2.2.2.2.2.2.2.1, x.2.2.2.2.2.2.2.2.1, x.2.2.2.2.2.2.2.2.2.1, x.2.2.2.2.2.2.2.2.2.2.1, x.2.2.2.2.2.2.2.2.2.2.2.1, x.2.2.2.2.2.2.2.2.2.2.2.2.1, x.2.2.2.2.2.2.2.2.2.2.2.2.2.1, q25.2.2, x.2.2.2.2.2.2.2.2.2.2.2.2.2.2.2.1, x.2.2.2.2.2.2.2.2.2.2.2.2.2.2.2.2.1, x.2.2.2.2.2.2.2.2.2.2.2.2.2.2.2.2.2)]) (L' := [w_Model E a o (q25.2.1, x.2.1, x.2.2.1, x.2.2.2.1, x.2.2.2.2.1, x.2.2.2.2.2.1, x.2.2.2.2.2.2.1, x.2.2.2.2.2.2.2.1, x.2.2.2.2.2.2.2.2.1, x.2.2.2.2.2.2.2.2.2.1, x.2.2.2.2.2.2.2.2.2.2.1, x.2.2.2.2.2.2.2.2.2.2.2.1, x.2.2.2.2.2.2.2.2.2.2.2.2.1, x.2.2.2.2.2.2.2.2.2.2.2.2.2.1, q25.2.2, x.2.2.2.2.2.2.2.2.2.2.2.2.2.2.2.1, x.2.2.2.2.2.2.2.2.2.2.2.2.2.2.2.2.1, x.2.2.2.2.2.2.2.2.2.2.2.2.2.2.2.2.2)]) (rv := q25.1) (va_runV (As := [.int v2, .int v4]) (rest := []) ⟨hx, hb, hml, hown, ha⟩ (k_X11_addsTone l E a o x v2 v4 q25 hq25 H.size) (cwV 2 ha (gi_V (fun _ h => h) mw1817 mw1819 mw45 mw87 mw1820) rfl rfl rfl hv_X11_addsTone ⟨(Nat.le_of_ble_eq_true rfl), (Nat.le_of_ble_eq_true rfl)⟩) ⟨pre_blind, va_recv hst.k (fr_P hP [0] rfl) (ci := 13) (q0 := 0) rfl rfl, pre_at hP hD hS hz hzs hst [0] (by decide) rfl rfl⟩ rfl rfl hl.1 rfl (lv_room (Nat.le_of_ble_eq_true rfl)) dX11_carriesOut_163 ⟨(Nat.le_of_ble_eq_true rfl), (Nat.le_of_ble_eq_true rfl)⟩) hP hD hS hA [0] (by decide) rfl rfl rfl rfl (fun H locs hP hD hS => ?_)
    obtain rfl := Option.some.inj hF
    exact en_i hQ (Nat.le_of_ble_eq_true rfl) (Nat.le_of_ble_eq_true rfl) hx hb hr hlocks hP hD hS rfl dX11_carriesOut_166
  have hF := q_brn w24_18 hF
  by_cases w24_19 : v6 = 117
  · have hF := q_brp w24_19 hF
    refine lv_tableIn (off := 109) (tgt := 133) hx hb dX11_carriesOut_24 (by rw [w24_19]; decide) (by rw [w24_19]; decide) (by rw [w24_19]; decide) (by decide) ?_
    refine lv_aload_n hx hb dX11_carriesOut_133 rfl (lv_at hl 2 rfl) ?_
    refine lv_iload_n hx hb dX11_carriesOut_134 rfl (lv_at hl 1 rfl) ?_
    refine lv_iload_n hx hb dX11_carriesOut_135 rfl (lv_at hl 0 rfl) ?_
    obtain ⟨q26, hq26, hF⟩ := q_bdi hF
    refine cl_i (Lc := [w_Model E a o x]) (Lc' := [w_Model E a o (q26.2.1, x.2.1, x.2.2.1, x.2.2.2.1, x.2.2.2.2.1, x.2.2.2.2.2.1, x.2.2.2.2.2.2.1, x.2.2.2.2.2.2.2.1, x.2.2.2.2.2.2.2.2.1, x.2.2.2.2.2.2.2.2.2.1, x.2.2.2.2.2.2.2.2.2.2.1, x.2.2.2.2.2.2.2.2.2.2.2.1, x.2.2.2.2.2.2.2.2.2.2.2.2.1, x.2.2.2.2.2.2.2.2.2.2.2.2.2.1, q26.2.2, x.2.2.2.2.2.2.2.2.2.2.2.2.2.2.2.1, x.2.2.2.2.2.2.2.2.2.2.2.2.2.2.2.2.1, x.2.2.2.2.2.2.2.2.2.2.2.2.2.2.2.2.2)]) (L' := [w_Model E a o (q26.2.1, x.2.1, x.2.2.1, x.2.2.2.1, x.2.2.2.2.1, x.2.2.2.2.2.1, x.2.2.2.2.2.2.1, x.2.2.2.2.2.2.2.1, x.2.2.2.2.2.2.2.2.1, x.2.2.2.2.2.2.2.2.2.1, x.2.2.2.2.2.2.2.2.2.2.1, x.2.2.2.2.2.2.2.2.2.2.2.1, x.2.2.2.2.2.2.2.2.2.2.2.2.1, x.2.2.2.2.2.2.2.2.2.2.2.2.2.1, q26.2.2, x.2.2.2.2.2.2.2.2.2.2.2.2.2.2.2.1, x.2.2.2.2.2.2.2.2.2.2.2.2.2.2.2.2.1, x.2.2.2.2.2.2.2.2.2.2.2.2.2.2.2.2.2)]) (rv := q26.1) (va_runV (As := [.int v2, .int v4]) (rest := []) ⟨hx, hb, hml, hown, ha⟩ (k_X11_tunes l E a o x v2 v4 q26 hq26 H.size) (cwV 2 ha (gi_V (fun _ h => h) mw1748 mw1750 mw35 mw87 mw1751) rfl rfl rfl hv_X11_tunes ⟨(Nat.le_of_ble_eq_true rfl), (Nat.le_of_ble_eq_true rfl)⟩) ⟨pre_blind, va_recv hst.k (fr_P hP [0] rfl) (ci := 13) (q0 := 0) rfl rfl, pre_at hP hD hS hz hzs hst [0] (by decide) rfl rfl⟩ rfl rfl hl.1 rfl (lv_room (Nat.le_of_ble_eq_true rfl)) dX11_carriesOut_136 ⟨(Nat.le_of_ble_eq_true rfl), (Nat.le_of_ble_eq_true rfl)⟩) hP hD hS hA [0] (by decide) rfl rfl rfl rfl (fun H locs hP hD hS => ?_)
    obtain rfl := Option.some.inj hF
    exact en_i hQ (Nat.le_of_ble_eq_true rfl) (Nat.le_of_ble_eq_true rfl) hx hb hr hlocks hP hD hS rfl dX11_carriesOut_139
  have hF := q_brn w24_19 hF
  refine lv_tableOut (tgt := 193) hx hb dX11_carriesOut_24 (sw_out 98 117 [98, 99, 100, 101, 102, 103, 104, 105, 106, 107, 108, 109, 110, 111, 112, 113, 114, 115, 116, 117] (List.forall_mem_cons.mpr ⟨w24_0, (List.forall_mem_cons.mpr ⟨w24_1, (List.forall_mem_cons.mpr ⟨w24_2, (List.forall_mem_cons.mpr ⟨w24_3, (List.forall_mem_cons.mpr ⟨w24_4, (List.forall_mem_cons.mpr ⟨w24_5, (List.forall_mem_cons.mpr ⟨w24_6, (List.forall_mem_cons.mpr ⟨w24_7, (List.forall_mem_cons.mpr ⟨w24_8, (List.forall_mem_cons.mpr ⟨w24_9, (List.forall_mem_cons.mpr ⟨w24_10, (List.forall_mem_cons.mpr ⟨w24_11, (List.forall_mem_cons.mpr ⟨w24_12, (List.forall_mem_cons.mpr ⟨w24_13, (List.forall_mem_cons.mpr ⟨w24_14, (List.forall_mem_cons.mpr ⟨w24_15, (List.forall_mem_cons.mpr ⟨w24_16, (List.forall_mem_cons.mpr ⟨w24_17, (List.forall_mem_cons.mpr ⟨w24_18, (List.forall_mem_cons.mpr ⟨w24_19, (fun _ h => nomatch h)⟩)⟩)⟩)⟩)⟩)⟩)⟩)⟩)⟩)⟩)⟩)⟩)⟩)⟩)⟩)⟩)⟩)⟩)⟩)⟩) (by decide) (by decide)) (by decide) ?_
  refine lv_aload_n hx hb dX11_carriesOut_193 rfl (lv_at hl 2 rfl) ?_
  refine lv_iload_n hx hb dX11_carriesOut_194 rfl (lv_at hl 1 rfl) ?_
  refine lv_iload_n hx hb dX11_carriesOut_195 rfl (lv_at hl 0 rfl) ?_
  obtain ⟨q27, hq27, hF⟩ := q_bdi hF
  refine cl_i (Lc := [w_Model E a o x]) (Lc' := [w_Model E a o (q27.2.1, x.2.1, x.2.2.1, x.2.2.2.1, x.2.2.2.2.1, x.2.2.2.2.2.1, x.2.2.2.2.2.2.1, x.2.2.2.2.2.2.2.1, x.2.2.2.2.2.2.2.2.1, x.2.2.2.2.2.2.2.2.2.1, x.2.2.2.2.2.2.2.2.2.2.1, x.2.2.2.2.2.2.2.2.2.2.2.1, x.2.2.2.2.2.2.2.2.2.2.2.2.1, x.2.2.2.2.2.2.2.2.2.2.2.2.2.1, q27.2.2, x.2.2.2.2.2.2.2.2.2.2.2.2.2.2.2.1, x.2.2.2.2.2.2.2.2.2.2.2.2.2.2.2.2.1, x.2.2.2.2.2.2.2.2.2.2.2.2.2.2.2.2.2)]) (L' := [w_Model E a o (q27.2.1, x.2.1, x.2.2.1, x.2.2.2.1, x.2.2.2.2.1, x.2.2.2.2.2.1, x.2.2.2.2.2.2.1, x.2.2.2.2.2.2.2.1, x.2.2.2.2.2.2.2.2.1, x.2.2.2.2.2.2.2.2.2.1, x.2.2.2.2.2.2.2.2.2.2.1, x.2.2.2.2.2.2.2.2.2.2.2.1, x.2.2.2.2.2.2.2.2.2.2.2.2.1, x.2.2.2.2.2.2.2.2.2.2.2.2.2.1, q27.2.2, x.2.2.2.2.2.2.2.2.2.2.2.2.2.2.2.1, x.2.2.2.2.2.2.2.2.2.2.2.2.2.2.2.2.1, x.2.2.2.2.2.2.2.2.2.2.2.2.2.2.2.2.2)]) (rv := q27.1) (va_runV (As := [.int v2, .int v4]) (rest := []) ⟨hx, hb, hml, hown, ha⟩ (k_X11_grazes l E a o x v2 v4 q27 hq27 H.size) (cwV 2 ha (gi_V (fun _ h => h) mw1764 mw1766 mw37 mw87 mw1767) rfl rfl rfl hv_X11_grazes ⟨(Nat.le_of_ble_eq_true rfl), (Nat.le_of_ble_eq_true rfl)⟩) ⟨pre_blind, va_recv hst.k (fr_P hP [0] rfl) (ci := 13) (q0 := 0) rfl rfl, pre_at hP hD hS hz hzs hst [0] (by decide) rfl rfl⟩ rfl rfl hl.1 rfl (lv_room (Nat.le_of_ble_eq_true rfl)) dX11_carriesOut_196 ⟨(Nat.le_of_ble_eq_true rfl), (Nat.le_of_ble_eq_true rfl)⟩) hP hD hS hA [0] (by decide) rfl rfl rfl rfl (fun H locs hP hD hS => ?_)
  obtain rfl := Option.some.inj hF
  exact en_i hQ (Nat.le_of_ble_eq_true rfl) (Nat.le_of_ble_eq_true rfl) hx hb hr hlocks hP hD hS rfl dX11_carriesOut_199

/-! X11_run -/
theorem dX11_run_0 : decode cX11_run 0 = .ok (.aload_n 0, 1) := by decide +kernel
theorem dX11_run_1 : decode cX11_run 1 = .ok (.iconst 0, 1) := by decide +kernel
theorem dX11_run_2 : decode cX11_run 2 = .ok (.putfield 187, 3) := by decide +kernel
theorem dX11_run_5 : decode cX11_run 5 = .ok (.aload_n 0, 1) := by decide +kernel
theorem dX11_run_6 : decode cX11_run 6 = .ok (.iconst 0, 1) := by decide +kernel
theorem dX11_run_7 : decode cX11_run 7 = .ok (.putfield 190, 3) := by decide +kernel
theorem dX11_run_10 : decode cX11_run 10 = .ok (.iconst 0, 1) := by decide +kernel
theorem dX11_run_11 : decode cX11_run 11 = .ok (.istore_n 1, 1) := by decide +kernel
theorem dX11_run_12 : decode cX11_run 12 = .ok (.iconst 1, 1) := by decide +kernel
theorem dX11_run_13 : decode cX11_run 13 = .ok (.istore_n 2, 1) := by decide +kernel
theorem dX11_run_14 : decode cX11_run 14 = .ok (.iload_n 2, 1) := by decide +kernel
theorem dX11_run_15 : decode cX11_run 15 = .ok (.ifCond .eq 56, 3) := by decide +kernel
theorem dX11_run_18 : decode cX11_run 18 = .ok (.aload_n 0, 1) := by decide +kernel
theorem dX11_run_19 : decode cX11_run 19 = .ok (.iconst 3, 1) := by decide +kernel
theorem dX11_run_20 : decode cX11_run 20 = .ok (.iload_n 1, 1) := by decide +kernel
theorem dX11_run_21 : decode cX11_run 21 = .ok (.imul, 1) := by decide +kernel
theorem dX11_run_22 : decode cX11_run 22 = .ok (.invokevirtual 223, 3) := by decide +kernel
theorem dX11_run_25 : decode cX11_run 25 = .ok (.iinc 1 1, 3) := by decide +kernel
theorem dX11_run_28 : decode cX11_run 28 = .ok (.aload_n 0, 1) := by decide +kernel
theorem dX11_run_29 : decode cX11_run 29 = .ok (.getfield 190, 3) := by decide +kernel
theorem dX11_run_32 : decode cX11_run 32 = .ok (.ifCond .ne 16, 3) := by decide +kernel
theorem dX11_run_35 : decode cX11_run 35 = .ok (.aload_n 0, 1) := by decide +kernel
theorem dX11_run_36 : decode cX11_run 36 = .ok (.invokevirtual 194, 3) := by decide +kernel
theorem dX11_run_39 : decode cX11_run 39 = .ok (.bipush 59, 2) := by decide +kernel
theorem dX11_run_41 : decode cX11_run 41 = .ok (.if_icmp .ne 7, 3) := by decide +kernel
theorem dX11_run_44 : decode cX11_run 44 = .ok (.iconst 1, 1) := by decide +kernel
theorem dX11_run_45 : decode cX11_run 45 = .ok (.goto 4, 3) := by decide +kernel
theorem dX11_run_48 : decode cX11_run 48 = .ok (.iconst 0, 1) := by decide +kernel
theorem dX11_run_49 : decode cX11_run 49 = .ok (.istore_n 2, 1) := by decide +kernel
theorem dX11_run_50 : decode cX11_run 50 = .ok (.aload_n 0, 1) := by decide +kernel
theorem dX11_run_51 : decode cX11_run 51 = .ok (.dup, 1) := by decide +kernel
theorem dX11_run_52 : decode cX11_run 52 = .ok (.getfield 187, 3) := by decide +kernel
theorem dX11_run_55 : decode cX11_run 55 = .ok (.iload_n 2, 1) := by decide +kernel
theorem dX11_run_56 : decode cX11_run 56 = .ok (.ifCond .eq 7, 3) := by decide +kernel
theorem dX11_run_59 : decode cX11_run 59 = .ok (.iconst 1, 1) := by decide +kernel
theorem dX11_run_60 : decode cX11_run 60 = .ok (.goto 4, 3) := by decide +kernel
theorem dX11_run_63 : decode cX11_run 63 = .ok (.iconst 0, 1) := by decide +kernel
theorem dX11_run_64 : decode cX11_run 64 = .ok (.iadd, 1) := by decide +kernel
theorem dX11_run_65 : decode cX11_run 65 = .ok (.putfield 187, 3) := by decide +kernel
theorem dX11_run_68 : decode cX11_run 68 = .ok (.goto (-54), 3) := by decide +kernel
theorem dX11_run_71 : decode cX11_run 71 = .ok (.aload_n 0, 1) := by decide +kernel
theorem dX11_run_72 : decode cX11_run 72 = .ok (.aload_n 0, 1) := by decide +kernel
theorem dX11_run_73 : decode cX11_run 73 = .ok (.getfield 190, 3) := by decide +kernel
theorem dX11_run_76 : decode cX11_run 76 = .ok (.ifCond .ne 14, 3) := by decide +kernel
theorem dX11_run_79 : decode cX11_run 79 = .ok (.aload_n 0, 1) := by decide +kernel
theorem dX11_run_80 : decode cX11_run 80 = .ok (.getfield 187, 3) := by decide +kernel
theorem dX11_run_83 : decode cX11_run 83 = .ok (.aload_n 0, 1) := by decide +kernel
theorem dX11_run_84 : decode cX11_run 84 = .ok (.getfield 184, 3) := by decide +kernel
theorem dX11_run_87 : decode cX11_run 87 = .ok (.if_icmp .ge 7, 3) := by decide +kernel
theorem dX11_run_90 : decode cX11_run 90 = .ok (.iconst 1, 1) := by decide +kernel
theorem dX11_run_91 : decode cX11_run 91 = .ok (.goto 4, 3) := by decide +kernel
theorem dX11_run_94 : decode cX11_run 94 = .ok (.iconst 0, 1) := by decide +kernel
theorem dX11_run_95 : decode cX11_run 95 = .ok (.putfield 190, 3) := by decide +kernel
theorem dX11_run_98 : decode cX11_run 98 = .ok (.aload_n 0, 1) := by decide +kernel
theorem dX11_run_99 : decode cX11_run 99 = .ok (.iconst 0, 1) := by decide +kernel
theorem dX11_run_100 : decode cX11_run 100 = .ok (.putfield 184, 3) := by decide +kernel
theorem dX11_run_103 : decode cX11_run 103 = .ok (.aload_n 0, 1) := by decide +kernel
theorem dX11_run_104 : decode cX11_run 104 = .ok (.getfield 190, 3) := by decide +kernel
theorem dX11_run_107 : decode cX11_run 107 = .ok (.ifCond .eq 17, 3) := by decide +kernel
theorem dX11_run_110 : decode cX11_run 110 = .ok (.aload_n 0, 1) := by decide +kernel
theorem dX11_run_111 : decode cX11_run 111 = .ok (.aload_n 0, 1) := by decide +kernel
theorem dX11_run_112 : decode cX11_run 112 = .ok (.getfield 187, 3) := by decide +kernel
theorem dX11_run_115 : decode cX11_run 115 = .ok (.putfield 26, 3) := by decide +kernel
theorem dX11_run_118 : decode cX11_run 118 = .ok (.aload_n 0, 1) := by decide +kernel
theorem dX11_run_119 : decode cX11_run 119 = .ok (.iconst 1, 1) := by decide +kernel
theorem dX11_run_120 : decode cX11_run 120 = .ok (.invokevirtual 80, 3) := by decide +kernel
theorem dX11_run_123 : decode cX11_run 123 = .ok (.ireturn, 1) := by decide +kernel
theorem dX11_run_124 : decode cX11_run 124 = .ok (.aload_n 0, 1) := by decide +kernel
theorem dX11_run_125 : decode cX11_run 125 = .ok (.invokevirtual 86, 3) := by decide +kernel
theorem dX11_run_128 : decode cX11_run 128 = .ok (.iconst 0, 1) := by decide +kernel
theorem dX11_run_129 : decode cX11_run 129 = .ok (.istore_n 3, 1) := by decide +kernel
theorem dX11_run_130 : decode cX11_run 130 = .ok (.iload_n 3, 1) := by decide +kernel
theorem dX11_run_131 : decode cX11_run 131 = .ok (.iload_n 1, 1) := by decide +kernel
theorem dX11_run_132 : decode cX11_run 132 = .ok (.if_icmp .ge 42, 3) := by decide +kernel
theorem dX11_run_135 : decode cX11_run 135 = .ok (.aload_n 0, 1) := by decide +kernel
theorem dX11_run_136 : decode cX11_run 136 = .ok (.iconst 3, 1) := by decide +kernel
theorem dX11_run_137 : decode cX11_run 137 = .ok (.iload_n 3, 1) := by decide +kernel
theorem dX11_run_138 : decode cX11_run 138 = .ok (.imul, 1) := by decide +kernel
theorem dX11_run_139 : decode cX11_run 139 = .ok (.invokevirtual 226, 3) := by decide +kernel
theorem dX11_run_142 : decode cX11_run 142 = .ok (.istore 4, 2) := by decide +kernel
theorem dX11_run_144 : decode cX11_run 144 = .ok (.aload_n 0, 1) := by decide +kernel
theorem dX11_run_145 : decode cX11_run 145 = .ok (.getfield 42, 3) := by decide +kernel
theorem dX11_run_148 : decode cX11_run 148 = .ok (.ifCond .eq 20, 3) := by decide +kernel
theorem dX11_run_151 : decode cX11_run 151 = .ok (.aload_n 0, 1) := by decide +kernel
theorem dX11_run_152 : decode cX11_run 152 = .ok (.iload_n 3, 1) := by decide +kernel
theorem dX11_run_153 : decode cX11_run 153 = .ok (.putfield 30, 3) := by decide +kernel
theorem dX11_run_156 : decode cX11_run 156 = .ok (.aload_n 0, 1) := by decide +kernel
theorem dX11_run_157 : decode cX11_run 157 = .ok (.iconst 2, 1) := by decide +kernel
theorem dX11_run_158 : decode cX11_run 158 = .ok (.putfield 42, 3) := by decide +kernel
theorem dX11_run_161 : decode cX11_run 161 = .ok (.aload_n 0, 1) := by decide +kernel
theorem dX11_run_162 : decode cX11_run 162 = .ok (.iload 4, 2) := by decide +kernel
theorem dX11_run_164 : decode cX11_run 164 = .ok (.invokevirtual 93, 3) := by decide +kernel
theorem dX11_run_167 : decode cX11_run 167 = .ok (.ireturn, 1) := by decide +kernel
theorem dX11_run_168 : decode cX11_run 168 = .ok (.iinc 3 1, 3) := by decide +kernel
theorem dX11_run_171 : decode cX11_run 171 = .ok (.goto (-41), 3) := by decide +kernel
theorem dX11_run_174 : decode cX11_run 174 = .ok (.aload_n 0, 1) := by decide +kernel
theorem dX11_run_175 : decode cX11_run 175 = .ok (.aload_n 0, 1) := by decide +kernel
theorem dX11_run_176 : decode cX11_run 176 = .ok (.iload_n 1, 1) := by decide +kernel
theorem dX11_run_177 : decode cX11_run 177 = .ok (.invokevirtual 83, 3) := by decide +kernel
theorem dX11_run_180 : decode cX11_run 180 = .ok (.invokevirtual 93, 3) := by decide +kernel
theorem dX11_run_183 : decode cX11_run 183 = .ok (.ireturn, 1) := by decide +kernel
def f_X11_run_L14 (x_buffer : (Nat → Int32)) (x_typed : Int32) (K14 : Int32 → Int32 → Int32 → (Nat → Int32) → Option (Int32 × (Nat → Int32) × (Nat → Int32) × (Nat → Int32) × Int32 × Int32 × Int32 × Int32 × Int32 × Int32 × Int32 × (Nat → Int32))) : Nat → Int32 → Int32 → Int32 → Int32 → (Nat → Int32) → Option (Int32 × (Nat → Int32) × (Nat → Int32) × (Nat → Int32) × Int32 × Int32 × Int32 × Int32 × Int32 × Int32 × Int32 × (Nat → Int32))
  | 0, _, _, _, _, _ => none
  | n14 + 1, i1, i2, i3, i4, i5 =>
    q_br (i1 = 0) (
  K14 i2 i3 i4 i5) (
  q_bd (f_X11_parsesCommand x_buffer x_typed i3 i4 i5 (3 * i2)) (fun q10 =>
  q_lt (i2 + 1 : Int32) (fun v11 =>
  q_lt (fun (j12 : Int32) =>
  q_lt (fun (j13 : Int32) =>
  f_X11_run_L14 x_buffer x_typed K14 n14 j12 v11 (q10.1 + j13) q10.2.1 q10.2.2) (fun (J64 : Int32 → Option (Int32 × (Nat → Int32) × (Nat → Int32) × (Nat → Int32) × Int32 × Int32 × Int32 × Int32 × Int32 × Int32 × Int32 × (Nat → Int32))) =>
  q_br (j12 = 0) (
  J64 0) (
  J64 1))) (fun (J49 : Int32 → Option (Int32 × (Nat → Int32) × (Nat → Int32) × (Nat → Int32) × Int32 × Int32 × Int32 × Int32 × Int32 × Int32 × Int32 × (Nat → Int32))) =>
  q_br (q10.2.1 = 0) (
  q_bd (f_X11_here x_buffer x_typed q10.1) (fun q14 =>
  q_br (q14 = 59) (
  J49 1) (
  J49 0))) (
  J49 0)))))
def f_X11_run_L130 (x_history : (Nat → Int32)) (x_changes : Int32) (x_errorAt : Int32) (x_failedAt : Int32) (y6 : Int32) (y7 : Int32) (y9 : (Nat → Int32)) (j15 : Int32) (q17 : (Nat → Int32)) (K130 : Int32 → Int32 → (Nat → Int32) → Int32 → Option (Int32 × (Nat → Int32) × (Nat → Int32) × (Nat → Int32) × Int32 × Int32 × Int32 × Int32 × Int32 × Int32 × Int32 × (Nat → Int32))) : Nat → Int32 → (Nat → Int32) → Int32 → Option (Int32 × (Nat → Int32) × (Nat → Int32) × (Nat → Int32) × Int32 × Int32 × Int32 × Int32 × Int32 × Int32 × Int32 × (Nat → Int32))
  | 0, _, _, _ => none
  | n130 + 1, i18, i19, i20 =>
    q_br (y6 ≤ i18) (
  q_bd (f_X11_done i20 y6) (fun q25 =>
  q_bd (f_X11_kept i19 q17 x_history x_changes q25.2 q25.1) (fun q26 =>
  some (q26.1, q26.2.1, q17, q26.2.2.1, q26.2.2.2, 0, x_errorAt, x_failedAt, q25.2, y7, j15, y9)))) (
  q_bd (f_X11_carriesOut i19 i20 y9 (3 * i18)) (fun q27 =>
  q_br (q27.2.2 = 0) (
  q_lt (i18 + 1 : Int32) (fun v28 =>
  f_X11_run_L130 x_history x_changes x_errorAt x_failedAt y6 y7 y9 j15 q17 K130 n130 v28 q27.2.1 q27.2.2)) (
  K130 i18 q27.1 q27.2.1 q27.2.2)))
def f_X11_run (x_g : (Nat → Int32)) (x_before : (Nat → Int32)) (x_history : (Nat → Int32)) (x_changes : Int32) (x_buffer : (Nat → Int32)) (x_typed : Int32) (x_errorAt : Int32) (x_failedAt : Int32) (x_thrown : Int32) (x_spot : Int32) (x_isWrong : Int32) (x_parsed : (Nat → Int32)) : Option (Int32 × (Nat → Int32) × (Nat → Int32) × (Nat → Int32) × Int32 × Int32 × Int32 × Int32 × Int32 × Int32 × Int32 × (Nat → Int32)) :=
  f_X11_run_L14 x_buffer x_typed (fun y6 y7 y8 y9 =>
  q_lt (fun (j15 : Int32) =>
  q_gd (j15 = 0 ∨ j15 = 1) (
  q_br (j15 = 0) (
  q_bd (f_X11_begin x_g x_before) (fun q17 =>
  f_X11_run_L130 x_history x_changes x_errorAt x_failedAt y6 y7 y9 j15 q17 (fun y21 y22 y23 y24 =>
  q_bd (f_X11_kept y23 q17 x_history x_changes 2 y22) (fun q29 =>
  some (q29.1, q29.2.1, q17, q29.2.2.1, q29.2.2.2, 0, x_errorAt, y21, 2, y7, j15, y9))) 2000 0 x_g x_thrown)) (
  q_bd (f_X11_fails x_thrown 1) (fun q30 =>
  some (q30.1, x_g, x_before, x_history, x_changes, 0, y7, x_failedAt, q30.2, y7, j15, y9))))) (fun (J95 : Int32 → Option (Int32 × (Nat → Int32) × (Nat → Int32) × (Nat → Int32) × Int32 × Int32 × Int32 × Int32 × Int32 × Int32 × Int32 × (Nat → Int32))) =>
  q_br (y8 = 0) (
  q_br (x_typed ≤ y7) (
  J95 0) (
  J95 1)) (
  J95 1))) 2000 1 0 0 0 x_parsed
theorem hv_X11_run : yX11_run.cls = RX11 ∧ yX11_run.cls ≠ "java/lang/invoke/MethodHandle" ∧ yX11_run.cls ≠ "java/lang/invoke/VarHandle" ∧ (parseMethodDescriptor yX11_run.desc).map (fun d => d.parameters.length) = some 0 := by decide +kernel
abbrev rm_X11_run : Room := { frames := 6, cells := 0, slots := 0, locals := 138 }
set_option maxHeartbeats 4000000 in
set_option maxRecDepth 100000 in
theorem k_X11_run (l : Launch) (E : ET) (a : Nat → Nat) (o : Nat) (x : Model_t) (res : Int32 × (Nat → Int32) × (Nat → Int32) × (Nat → Int32) × Int32 × Int32 × Int32 × Int32 × Int32 × Int32 × Int32 × (Nat → Int32)) (hF : f_X11_run x.1 x.2.1 x.2.2.1 x.2.2.2.1 x.2.2.2.2.2.2.1 x.2.2.2.2.2.2.2.1 x.2.2.2.2.2.2.2.2.1 x.2.2.2.2.2.2.2.2.2.1 x.2.2.2.2.2.2.2.2.2.2.2.2.2.2.1 x.2.2.2.2.2.2.2.2.2.2.2.2.2.2.2.1 x.2.2.2.2.2.2.2.2.2.2.2.2.2.2.2.2.1 x.2.2.2.2.2.2.2.2.2.2.2.2.2.2.2.2.2 = some res) (sz : Nat) : CtI l yX11_run (mws yX11_run cX11_run 5 (some .int)) rm_X11_run 0 0 [.ref (a o)] E (bl_Model E a o x) res.1 (bl_Model E a o (res.2.1, res.2.2.1, res.2.2.2.1, res.2.2.2.2.1, x.2.2.2.2.1, x.2.2.2.2.2.1, x.2.2.2.2.2.2.1, res.2.2.2.2.2.1, res.2.2.2.2.2.2.1, res.2.2.2.2.2.2.2.1, x.2.2.2.2.2.2.2.2.2.2.1, x.2.2.2.2.2.2.2.2.2.2.2.1, x.2.2.2.2.2.2.2.2.2.2.2.2.1, x.2.2.2.2.2.2.2.2.2.2.2.2.2.1, res.2.2.2.2.2.2.2.2.1, res.2.2.2.2.2.2.2.2.2.1, res.2.2.2.2.2.2.2.2.2.2.1, res.2.2.2.2.2.2.2.2.2.2.2)) sz := by
  refine mk_M (by decide +kernel) (Nat.le_of_ble_eq_true rfl) ?_
  intro p e s m below meth c A args Q ls hAe hsz hQ hx hb hr hml hin ha hown hlocks hA hz hzs hst hP hD hS hl
  have hown : s.vm.findClass RX11 = some m.cls := hown
  rw [hAe] at hQ
  subst hsz
  have hP : va_P E.1 vwCl (List.flatten [w_Model E a o x]) s.heap := hP
  have hD : va_D A (List.flatten [w_Model E a o x]) := hD
  have hl : lv_has ls 5 [(0, .ref (a o))] := hl
  generalize hHe : s.heap = H at hP
  have hS : va_S A s.heap H [] := by rw [← hHe]; exact hS
  generalize ([] : List Loc) = locs at hS ⊢
  unfold f_X11_run at hF
  refine lv_aload_n hx hb dX11_run_0 rfl (lv_at hl 0 rfl) ?_
  refine lv_iconst (v := 0) hx hb dX11_run_1 (by decide) ?_
  refine va_put (D := E.1) (ci := 13) (v := .int 0) (ty := .int) (C := RX11) (T := TX11) (N := 18) hx hb ha in_X11 tyX11 tyX11_ok nmX11 hown hst.k hP hD hS 0 rfl rfl 15 (by decide) (ha _ mw1651) (fun _ h9 => h9) rfl (tyX11_ok 15 (by decide)) rfl rfl (Nat.le_of_ble_eq_true rfl) dX11_run_2 (fun H locs hP hD hS => ?_)
  have hP : va_P E.1 vwCl (List.flatten [w_Model E a o (x.1, x.2.1, x.2.2.1, x.2.2.2.1, x.2.2.2.2.1, x.2.2.2.2.2.1, x.2.2.2.2.2.2.1, x.2.2.2.2.2.2.2.1, x.2.2.2.2.2.2.2.2.1, x.2.2.2.2.2.2.2.2.2.1, x.2.2.2.2.2.2.2.2.2.2.1, x.2.2.2.2.2.2.2.2.2.2.2.1, x.2.2.2.2.2.2.2.2.2.2.2.2.1, x.2.2.2.2.2.2.2.2.2.2.2.2.2.1, x.2.2.2.2.2.2.2.2.2.2.2.2.2.2.1, 0, x.2.2.2.2.2.2.2.2.2.2.2.2.2.2.2.2.1, x.2.2.2.2.2.2.2.2.2.2.2.2.2.2.2.2.2)]) H := hP
  have hD : va_D A (List.flatten [w_Model E a o (x.1, x.2.1, x.2.2.1, x.2.2.2.1, x.2.2.2.2.1, x.2.2.2.2.2.1, x.2.2.2.2.2.2.1, x.2.2.2.2.2.2.2.1, x.2.2.2.2.2.2.2.2.1, x.2.2.2.2.2.2.2.2.2.1, x.2.2.2.2.2.2.2.2.2.2.1, x.2.2.2.2.2.2.2.2.2.2.2.1, x.2.2.2.2.2.2.2.2.2.2.2.2.1, x.2.2.2.2.2.2.2.2.2.2.2.2.2.1, x.2.2.2.2.2.2.2.2.2.2.2.2.2.2.1, 0, x.2.2.2.2.2.2.2.2.2.2.2.2.2.2.2.2.1, x.2.2.2.2.2.2.2.2.2.2.2.2.2.2.2.2.2)]) := hD
  refine lv_aload_n hx hb dX11_run_5 rfl (lv_at hl 0 rfl) ?_
  refine lv_iconst (v := 0) hx hb dX11_run_6 (by decide) ?_
  refine va_put (D := E.1) (ci := 13) (v := .int 0) (ty := .boolean) (C := RX11) (T := TX11) (N := 18) hx hb ha in_X11 tyX11 tyX11_ok nmX11 hown hst.k hP hD hS 0 rfl rfl 16 (by decide) (ha _ mw1652) (fun _ h9 => h9) rfl (tyX11_ok 16 (by decide)) (by decide) (by decide) (Nat.le_of_ble_eq_true rfl) dX11_run_7 (fun H locs hP hD hS => ?_)
  have hP : va_P E.1 vwCl (List.flatten [w_Model E a o (x.1, x.2.1, x.2.2.1, x.2.2.2.1, x.2.2.2.2.1, x.2.2.2.2.2.1, x.2.2.2.2.2.2.1, x.2.2.2.2.2.2.2.1, x.2.2.2.2.2.2.2.2.1, x.2.2.2.2.2.2.2.2.2.1, x.2.2.2.2.2.2.2.2.2.2.1, x.2.2.2.2.2.2.2.2.2.2.2.1, x.2.2.2.2.2.2.2.2.2.2.2.2.1, x.2.2.2.2.2.2.2.2.2.2.2.2.2.1, x.2.2.2.2.2.2.2.2.2.2.2.2.2.2.1, 0, 0, x.2.2.2.2.2.2.2.2.2.2.2.2.2.2.2.2.2)]) H := hP
  have hD : va_D A (List.flatten [w_Model E a o (x.1, x.2.1, x.2.2.1, x.2.2.2.1, x.2.2.2.2.1, x.2.2.2.2.2.1, x.2.2.2.2.2.2.1, x.2.2.2.2.2.2.2.1, x.2.2.2.2.2.2.2.2.1, x.2.2.2.2.2.2.2.2.2.1, x.2.2.2.2.2.2.2.2.2.2.1, x.2.2.2.2.2.2.2.2.2.2.2.1, x.2.2.2.2.2.2.2.2.2.2.2.2.1, x.2.2.2.2.2.2.2.2.2.2.2.2.2.1, x.2.2.2.2.2.2.2.2.2.2.2.2.2.2.1, 0, 0, x.2.2.2.2.2.2.2.2.2.2.2.2.2.2.2.2.2)]) := hD
  refine lv_iconst (v := 0) hx hb dX11_run_10 (by decide) ?_
  refine lv_istore_n (lv' := [(1, .int 0), (0, .ref (a o))]) hx hb dX11_run_11 rfl hl (by decide) rfl (fun ls hl => ?_)
  refine lv_iconst (v := 1) hx hb dX11_run_12 (by decide) ?_
  refine lv_istore_n (lv' := [(2, .int 1), (1, .int 0), (0, .ref (a o))]) hx hb dX11_run_13 rfl hl (by decide) rfl (fun ls hl => ?_)
  have key14 : ∀ (K : Int32 → Int32 → Int32 → (Nat → Int32) → Option (Int32 × (Nat → Int32) × (Nat → Int32) × (Nat → Int32) × Int32 × Int32 × Int32 × Int32 × Int32 × Int32 × Int32 × (Nat → Int32))), (∀ (y6 : Int32) (y7 : Int32) (y8 : Int32) (y9 : (Nat → Int32)) (H : Heap) (locs : List Loc) (ls : Array Slot), K y6 y7 y8 y9 = some res → va_P E.1 vwCl (List.flatten [w_Model E a o (x.1, x.2.1, x.2.2.1, x.2.2.2.1, x.2.2.2.2.1, x.2.2.2.2.2.1, x.2.2.2.2.2.2.1, x.2.2.2.2.2.2.2.1, x.2.2.2.2.2.2.2.2.1, x.2.2.2.2.2.2.2.2.2.1, x.2.2.2.2.2.2.2.2.2.2.1, x.2.2.2.2.2.2.2.2.2.2.2.1, x.2.2.2.2.2.2.2.2.2.2.2.2.1, x.2.2.2.2.2.2.2.2.2.2.2.2.2.1, x.2.2.2.2.2.2.2.2.2.2.2.2.2.2.1, y7, y8, y9)]) H → va_D A (List.flatten [w_Model E a o (x.1, x.2.1, x.2.2.1, x.2.2.2.1, x.2.2.2.2.1, x.2.2.2.2.2.1, x.2.2.2.2.2.2.1, x.2.2.2.2.2.2.2.1, x.2.2.2.2.2.2.2.2.1, x.2.2.2.2.2.2.2.2.2.1, x.2.2.2.2.2.2.2.2.2.2.1, x.2.2.2.2.2.2.2.2.2.2.2.1, x.2.2.2.2.2.2.2.2.2.2.2.2.1, x.2.2.2.2.2.2.2.2.2.2.2.2.2.1, x.2.2.2.2.2.2.2.2.2.2.2.2.2.2.1, y7, y8, y9)]) → va_S A s.heap H locs → lv_has ls 5 [(1, .int y6), (0, .ref (a o))] → W p l e rm_X11_run s m args below meth c H locs 0 0 Q (F0 m 71 ls [])) → ∀ (n : Nat) (i1 : Int32) (i2 : Int32) (i3 : Int32) (i4 : Int32) (i5 : (Nat → Int32)) (H : Heap) (locs : List Loc) (ls : Array Slot), f_X11_run_L14 x.2.2.2.2.2.2.1 x.2.2.2.2.2.2.2.1 K n i1 i2 i3 i4 i5 = some res → va_P E.1 vwCl (List.flatten [w_Model E a o (x.1, x.2.1, x.2.2.1, x.2.2.2.1, x.2.2.2.2.1, x.2.2.2.2.2.1, x.2.2.2.2.2.2.1, x.2.2.2.2.2.2.2.1, x.2.2.2.2.2.2.2.2.1, x.2.2.2.2.2.2.2.2.2.1, x.2.2.2.2.2.2.2.2.2.2.1, x.2.2.2.2.2.2.2.2.2.2.2.1, x.2.2.2.2.2.2.2.2.2.2.2.2.1, x.2.2.2.2.2.2.2.2.2.2.2.2.2.1, x.2.2.2.2.2.2.2.2.2.2.2.2.2.2.1, i3, i4, i5)]) H → va_D A (List.flatten [w_Model E a o (x.1, x.2.1, x.2.2.1, x.2.2.2.1, x.2.2.2.2.1, x.2.2.2.2.2.1, x.2.2.2.2.2.2.1, x.2.2.2.2.2.2.2.1, x.2.2.2.2.2.2.2.2.1, x.2.2.2.2.2.2.2.2.2.1, x.2.2.2.2.2.2.2.2.2.2.1, x.2.2.2.2.2.2.2.2.2.2.2.1, x.2.2.2.2.2.2.2.2.2.2.2.2.1, x.2.2.2.2.2.2.2.2.2.2.2.2.2.1, x.2.2.2.2.2.2.2.2.2.2.2.2.2.2.1, i3, i4, i5)]) → va_S A s.heap H locs → lv_has ls 5 [(2, .int i1), (1, .int i2), (0, .ref (a o))] → W p l e rm_X11_run s m args below meth c H locs 0 0 Q (F0 m 14 ls []) := by
    intro K14 hK14 n14
    induction n14 with
    | zero => intro i1 i2 i3 i4 i5 H locs ls hF; exact absurd hF (by simp [f_X11_run_L14])
    | succ n14 ih14 =>
      intro i1 i2 i3 i4 i5 H locs ls hF hP hD hS hl
      rw [f_X11_run_L14] at hF
      refine lv_iload_n hx hb dX11_run_14 rfl (lv_at hl 0 rfl) ?_
      refine lv_if_eq (tgt := 71) hx hb dX11_run_15 (by decide) (fun c15 => ?_) (fun c15 => ?_)
      · have hF := q_brp c15 hF
        exact hK14 i2 i3 i4 i5 H locs ls hF hP hD hS (lv_sub hl [1, 2] rfl)
      · have hF := q_brn c15 hF
        refine lv_aload_n hx hb dX11_run_18 rfl (lv_at hl 2 rfl) ?_
        refine lv_iconst (v := 3) hx hb dX11_run_19 (by decide) ?_
        refine lv_iload_n hx hb dX11_run_20 rfl (lv_at hl 1 rfl) ?_
        refine lv_imul hx hb dX11_run_21 ?_
        obtain ⟨q10, hq10, hF⟩ := q_bdi hF
        refine cl_v (Lc := [w_Model E a o (x.1, x.2.1, x.2.2.1, x.2.2.2.1, x.2.2.2.2.1, x.2.2.2.2.2.1, x.2.2.2.2.2.2.1, x.2.2.2.2.2.2.2.1, x.2.2.2.2.2.2.2.2.1, x.2.2.2.2.2.2.2.2.2.1, x.2.2.2.2.2.2.2.2.2.2.1, x.2.2.2.2.2.2.2.2.2.2.2.1, x.2.2.2.2.2.2.2.2.2.2.2.2.1, x.2.2.2.2.2.2.2.2.2.2.2.2.2.1, x.2.2.2.2.2.2.2.2.2.2.2.2.2.2.1, i3, i4, i5)]) (Lc' := [w_Model E a o (x.1, x.2.1, x.2.2.1, x.2.2.2.1, x.2.2.2.2.1, x.2.2.2.2.2.1, x.2.2.2.2.2.2.1, x.2.2.2.2.2.2.2.1, x.2.2.2.2.2.2.2.2.1, x.2.2.2.2.2.2.2.2.2.1, x.2.2.2.2.2.2.2.2.2.2.1, x.2.2.2.2.2.2.2.2.2.2.2.1, x.2.2.2.2.2.2.2.2.2.2.2.2.1, x.2.2.2.2.2.2.2.2.2.2.2.2.2.1, x.2.2.2.2.2.2.2.2.2.2.2.2.2.2.1, q10.1, q10.2.1, q10.2.2)]) (L' := [w_Model E a o (x.1, x.2.1, x.2.2.1, x.2.2.2.1, x.2.2.2.2.1, x.2.2.2.2.2.1, x.2.2.2.2.2.2.1, x.2.2.2.2.2.2.2.1, x.2.2.2.2.2.2.2.2.1, x.2.2.2.2.2.2.2.2.2.1, x.2.2.2.2.2.2.2.2.2.2.1, x.2.2.2.2.2.2.2.2.2.2.2.1, x.2.2.2.2.2.2.2.2.2.2.2.2.1, x.2.2.2.2.2.2.2.2.2.2.2.2.2.1, x.2.2.2.2.2.2.2.2.2.2.2.2.2.2.1, q10.1, q10.2.1, q10.2.2)]) (va_runV (As := [.int (3 * i2)]) (rest := []) ⟨hx, hb, hml, hown, ha⟩ (k_X11_parsesCommand l E a o (x.1, x.2.1, x.2.2.1, x.2.2.2.1, x.2.2.2.2.1, x.2.2.2.2.2.1, x.2.2.2.2.2.2.1, x.2.2.2.2.2.2.2.1, x.2.2.2.2.2.2.2.2.1, x.2.2.2.2.2.2.2.2.2.1, x.2.2.2.2.2.2.2.2.2.2.1, x.2.2.2.2.2.2.2.2.2.2.2.1, x.2.2.2.2.2.2.2.2.2.2.2.2.1, x.2.2.2.2.2.2.2.2.2.2.2.2.2.1, x.2.2.2.2.2.2.2.2.2.2.2.2.2.2.1, i3, i4, i5) (3 * i2) q10 hq10 H.size) (cwV 1 ha (gi_V (fun _ h => h) mw2034 mw2036 mw59 mw87 mw2037) rfl rfl rfl hv_X11_parsesCommand ⟨(Nat.le_of_ble_eq_true rfl), (Nat.le_of_ble_eq_true rfl)⟩) ⟨pre_blind, va_recv hst.k (fr_P hP [0] rfl) (ci := 13) (q0 := 0) rfl rfl, pre_at hP hD hS hz hzs hst [0] (by decide) rfl rfl⟩ rfl rfl hl.1 rfl (lv_room (Nat.le_of_ble_eq_true rfl)) dX11_run_22 ⟨(Nat.le_of_ble_eq_true rfl), (Nat.le_of_ble_eq_true rfl)⟩) hP hD hS hA [0] (by decide) rfl rfl rfl rfl (fun H locs hP hD hS => ?_)
        obtain ⟨v11, ev11⟩ : ∃ y : Int32, y = i2 + 1 := ⟨_, rfl⟩
        have hF := q_lti ev11 hF
        refine lv_iinc (v := v11) (lv' := [(1, .int v11), (2, .int i1), (0, .ref (a o))]) hx hb dX11_run_25 hl (k := 1) rfl (by rw [ev11]; rfl) (by decide) rfl (fun ls hl => ?_)
        refine lv_aload_n hx hb dX11_run_28 rfl (lv_at hl 2 rfl) ?_
        refine va_get (D := E.1) (ci := 13) (v := .int q10.2.1) (C := RX11) (T := TX11) (N := 18) hx hb ha in_X11 hown hst.k hP 0 rfl rfl 16 (by decide) (ha _ mw1652) (fun _ h9 => h9) rfl dX11_run_29 ?_
        obtain ⟨J49, hJ49, hF⟩ := q_jn hF
        have jJ49 : ∀ (j12 : Int32), ∀ (H : Heap) (locs : List Loc) (ls : Array Slot), J49 j12 = some res → va_P E.1 vwCl (List.flatten [w_Model E a o (x.1, x.2.1, x.2.2.1, x.2.2.2.1, x.2.2.2.2.1, x.2.2.2.2.2.1, x.2.2.2.2.2.2.1, x.2.2.2.2.2.2.2.1, x.2.2.2.2.2.2.2.2.1, x.2.2.2.2.2.2.2.2.2.1, x.2.2.2.2.2.2.2.2.2.2.1, x.2.2.2.2.2.2.2.2.2.2.2.1, x.2.2.2.2.2.2.2.2.2.2.2.2.1, x.2.2.2.2.2.2.2.2.2.2.2.2.2.1, x.2.2.2.2.2.2.2.2.2.2.2.2.2.2.1, q10.1, q10.2.1, q10.2.2)]) H → va_D A (List.flatten [w_Model E a o (x.1, x.2.1, x.2.2.1, x.2.2.2.1, x.2.2.2.2.1, x.2.2.2.2.2.1, x.2.2.2.2.2.2.1, x.2.2.2.2.2.2.2.1, x.2.2.2.2.2.2.2.2.1, x.2.2.2.2.2.2.2.2.2.1, x.2.2.2.2.2.2.2.2.2.2.1, x.2.2.2.2.2.2.2.2.2.2.2.1, x.2.2.2.2.2.2.2.2.2.2.2.2.1, x.2.2.2.2.2.2.2.2.2.2.2.2.2.1, x.2.2.2.2.2.2.2.2.2.2.2.2.2.2.1, q10.1, q10.2.1, q10.2.2)]) → va_S A s.heap H locs → lv_has ls 5 [(1, .int v11), (0, .ref (a o))] → W p l e rm_X11_run s m args below meth c H locs 0 0 Q (F0 m 49 ls [.int j12]) := by
          intro j12 H locs ls hF hP hD hS hl
          rw [hJ49] at hF
          refine lv_istore_n (lv' := [(2, .int j12), (1, .int v11), (0, .ref (a o))]) hx hb dX11_run_49 rfl hl (by decide) rfl (fun ls hl => ?_)
          refine lv_aload_n hx hb dX11_run_50 rfl (lv_at hl 2 rfl) ?_
          refine lv_dup hx hb dX11_run_51 rfl ?_
          refine va_get (D := E.1) (ci := 13) (v := .int q10.1) (C := RX11) (T := TX11) (N := 18) hx hb ha in_X11 hown hst.k hP 0 rfl rfl 15 (by decide) (ha _ mw1651) (fun _ h9 => h9) rfl dX11_run_52 ?_
          refine lv_iload_n hx hb dX11_run_55 rfl (lv_at hl 0 rfl) ?_
          obtain ⟨J64, hJ64, hF⟩ := q_jn hF
          have jJ64 : ∀ (j13 : Int32), ∀ (H : Heap) (locs : List Loc) (ls : Array Slot), J64 j13 = some res → va_P E.1 vwCl (List.flatten [w_Model E a o (x.1, x.2.1, x.2.2.1, x.2.2.2.1, x.2.2.2.2.1, x.2.2.2.2.2.1, x.2.2.2.2.2.2.1, x.2.2.2.2.2.2.2.1, x.2.2.2.2.2.2.2.2.1, x.2.2.2.2.2.2.2.2.2.1, x.2.2.2.2.2.2.2.2.2.2.1, x.2.2.2.2.2.2.2.2.2.2.2.1, x.2.2.2.2.2.2.2.2.2.2.2.2.1, x.2.2.2.2.2.2.2.2.2.2.2.2.2.1, x.2.2.2.2.2.2.2.2.2.2.2.2.2.2.1, q10.1, q10.2.1, q10.2.2)]) H → va_D A (List.flatten [w_Model E a o (x.1, x.2.1, x.2.2.1, x.2.2.2.1, x.2.2.2.2.1, x.2.2.2.2.2.1, x.2.2.2.2.2.2.1, x.2.2.2.2.2.2.2.1, x.2.2.2.2.2.2.2.2.1, x.2.2.2.2.2.2.2.2.2.1, x.2.2.2.2.2.2.2.2.2.2.1, x.2.2.2.2.2.2.2.2.2.2.2.1, x.2.2.2.2.2.2.2.2.2.2.2.2.1, x.2.2.2.2.2.2.2.2.2.2.2.2.2.1, x.2.2.2.2.2.2.2.2.2.2.2.2.2.2.1, q10.1, q10.2.1, q10.2.2)]) → va_S A s.heap H locs → lv_has ls 5 [(2, .int j12), (1, .int v11), (0, .ref (a o))] → W p l e rm_X11_run s m args below meth c H locs 0 0 Q (F0 m 64 ls [.int j13, .int q10.1, .ref (a o)]) := by
            intro j13 H locs ls hF hP hD hS hl
            rw [hJ64] at hF
            refine lv_iadd hx hb dX11_run_64 ?_
            refine va_put (D := E.1) (ci := 13) (v := .int (q10.1 + j13)) (ty := .int) (C := RX11) (T := TX11) (N := 18) hx hb ha in_X11 tyX11 tyX11_ok nmX11 hown hst.k hP hD hS 0 rfl rfl 15 (by decide) (ha _ mw1651) (fun _ h9 => h9) rfl (tyX11_ok 15 (by decide)) rfl rfl (Nat.le_of_ble_eq_true rfl) dX11_run_65 (fun H locs hP hD hS => ?_)
            have hP : va_P E.1 vwCl (List.flatten [w_Model E a o (x.1, x.2.1, x.2.2.1, x.2.2.2.1, x.2.2.2.2.1, x.2.2.2.2.2.1, x.2.2.2.2.2.2.1, x.2.2.2.2.2.2.2.1, x.2.2.2.2.2.2.2.2.1, x.2.2.2.2.2.2.2.2.2.1, x.2.2.2.2.2.2.2.2.2.2.1, x.2.2.2.2.2.2.2.2.2.2.2.1, x.2.2.2.2.2.2.2.2.2.2.2.2.1, x.2.2.2.2.2.2.2.2.2.2.2.2.2.1, x.2.2.2.2.2.2.2.2.2.2.2.2.2.2.1, q10.1 + j13, q10.2.1, q10.2.2)]) H := hP
            have hD : va_D A (List.flatten [w_Model E a o (x.1, x.2.1, x.2.2.1, x.2.2.2.1, x.2.2.2.2.1, x.2.2.2.2.2.1, x.2.2.2.2.2.2.1, x.2.2.2.2.2.2.2.1, x.2.2.2.2.2.2.2.2.1, x.2.2.2.2.2.2.2.2.2.1, x.2.2.2.2.2.2.2.2.2.2.1, x.2.2.2.2.2.2.2.2.2.2.2.1, x.2.2.2.2.2.2.2.2.2.2.2.2.1, x.2.2.2.2.2.2.2.2.2.2.2.2.2.1, x.2.2.2.2.2.2.2.2.2.2.2.2.2.2.1, q10.1 + j13, q10.2.1, q10.2.2)]) := hD
            refine lv_goto (tgt := 14) hx hb dX11_run_68 (by decide) ?_
            exact ih14 j12 v11 (q10.1 + j13) q10.2.1 q10.2.2 H locs ls hF hP hD hS (lv_sub hl [0, 1, 2] rfl)
          refine lv_if_eq (tgt := 63) hx hb dX11_run_56 (by decide) (fun c56 => ?_) (fun c56 => ?_)
          · have hF := q_brp c56 hF
            refine lv_iconst (v := 0) hx hb dX11_run_63 (by decide) ?_
            exact jJ64 0 H locs ls hF hP hD hS (lv_sub hl [0, 1, 2] rfl)
          · have hF := q_brn c56 hF
            refine lv_iconst (v := 1) hx hb dX11_run_59 (by decide) ?_
            refine lv_goto (tgt := 64) hx hb dX11_run_60 (by decide) ?_
            exact jJ64 1 H locs ls hF hP hD hS (lv_sub hl [0, 1, 2] rfl)
        refine lv_if_ne (tgt := 48) hx hb dX11_run_32 (by decide) (fun c32 => ?_) (fun c32 => ?_)
        · have hF := q_brn c32 hF
          refine lv_iconst (v := 0) hx hb dX11_run_48 (by decide) ?_
          exact jJ49 0 H locs ls hF hP hD hS (lv_sub hl [0, 2] rfl)
        · have hF := q_brp c32 hF
          refine lv_aload_n hx hb dX11_run_35 rfl (lv_at hl 2 rfl) ?_
          obtain ⟨q14, hq14, hF⟩ := q_bdi hF
          refine cl_i (Lc := [w_Model E a o (x.1, x.2.1, x.2.2.1, x.2.2.2.1, x.2.2.2.2.1, x.2.2.2.2.2.1, x.2.2.2.2.2.2.1, x.2.2.2.2.2.2.2.1, x.2.2.2.2.2.2.2.2.1, x.2.2.2.2.2.2.2.2.2.1, x.2.2.2.2.2.2.2.2.2.2.1, x.2.2.2.2.2.2.2.2.2.2.2.1, x.2.2.2.2.2.2.2.2.2.2.2.2.1, x.2.2.2.2.2.2.2.2.2.2.2.2.2.1, x.2.2.2.2.2.2.2.2.2.2.2.2.2.2.1, q10.1, q10.2.1, q10.2.2)]) (Lc' := [w_Model E a o (x.1, x.2.1, x.2.2.1, x.2.2.2.1, x.2.2.2.2.1, x.2.2.2.2.2.1, x.2.2.2.2.2.2.1, x.2.2.2.2.2.2.2.1, x.2.2.2.2.2.2.2.2.1, x.2.2.2.2.2.2.2.2.2.1, x.2.2.2.2.2.2.2.2.2.2.1, x.2.2.2.2.2.2.2.2.2.2.2.1, x.2.2.2.2.2.2.2.2.2.2.2.2.1, x.2.2.2.2.2.2.2.2.2.2.2.2.2.1, x.2.2.2.2.2.2.2.2.2.2.2.2.2.2.1, q10.1, q10.2.1, q10.2.2)]) (L' := [w_Model E a o (x.1, x.2.1, x.2.2.1, x.2.2.2.1, x.2.2.2.2.1, x.2.2.2.2.2.1, x.2.2.2.2.2.2.1, x.2.2.2.2.2.2.2.1, x.2.2.2.2.2.2.2.2.1, x.2.2.2.2.2.2.2.2.2.1, x.2.2.2.2.2.2.2.2.2.2.1, x.2.2.2.2.2.2.2.2.2.2.2.1, x.2.2.2.2.2.2.2.2.2.2.2.2.1, x.2.2.2.2.2.2.2.2.2.2.2.2.2.1, x.2.2.2.2.2.2.2.2.2.2.2.2.2.2.1, q10.1, q10.2.1, q10.2.2)]) (rv := q14) (va_runV (As := []) (rest := []) ⟨hx, hb, hml, hown, ha⟩ (k_X11_here l E a o (x.1, x.2.1, x.2.2.1, x.2.2.2.1, x.2.2.2.2.1, x.2.2.2.2.2.1, x.2.2.2.2.2.2.1, x.2.2.2.2.2.2.2.1, x.2.2.2.2.2.2.2.2.1, x.2.2.2.2.2.2.2.2.2.1, x.2.2.2.2.2.2.2.2.2.2.1, x.2.2.2.2.2.2.2.2.2.2.2.1, x.2.2.2.2.2.2.2.2.2.2.2.2.1, x.2.2.2.2.2.2.2.2.2.2.2.2.2.1, x.2.2.2.2.2.2.2.2.2.2.2.2.2.2.1, q10.1, q10.2.1, q10.2.2) q14 hq14 H.size) (cwV 0 ha (gi_V (fun _ h => h) mw2038 mw2040 mw60 mw87 mw2041) rfl rfl rfl hv_X11_here ⟨(Nat.le_of_ble_eq_true rfl), (Nat.le_of_ble_eq_true rfl)⟩) ⟨pre_blind, va_recv hst.k (fr_P hP [0] rfl) (ci := 13) (q0 := 0) rfl rfl, pre_at hP hD hS hz hzs hst [0] (by decide) rfl rfl⟩ rfl rfl hl.1 rfl (lv_room (Nat.le_of_ble_eq_true rfl)) dX11_run_36 ⟨(Nat.le_of_ble_eq_true rfl), (Nat.le_of_ble_eq_true rfl)⟩) hP hD hS hA [0] (by decide) rfl rfl rfl rfl (fun H locs hP hD hS => ?_)
          refine lv_bipush (v := 59) hx hb dX11_run_39 (by decide) ?_
          refine lv_icmp_ne (tgt := 48) hx hb dX11_run_41 (by decide) (fun c41 => ?_) (fun c41 => ?_)
          · have hF := q_brn c41 hF
            refine lv_iconst (v := 0) hx hb dX11_run_48 (by decide) ?_
            exact jJ49 0 H locs ls hF hP hD hS (lv_sub hl [0, 2] rfl)
          · have hF := q_brp c41 hF
            refine lv_iconst (v := 1) hx hb dX11_run_44 (by decide) ?_
            refine lv_goto (tgt := 49) hx hb dX11_run_45 (by decide) ?_
            exact jJ49 1 H locs ls hF hP hD hS (lv_sub hl [0, 2] rfl)
  refine key14 _ ?_ _ 1 0 0 0 x.2.2.2.2.2.2.2.2.2.2.2.2.2.2.2.2.2 H locs ls hF hP hD hS (lv_sub hl [0, 1, 2] rfl)
  intro y6 y7 y8 y9 H locs ls hF hP hD hS hl
  refine lv_aload_n hx hb dX11_run_71 rfl (lv_at hl 1 rfl) ?_
  refine lv_aload_n hx hb dX11_run_72 rfl (lv_at hl 1 rfl) ?_
  refine va_get (D := E.1) (ci := 13) (v := .int y8) (C := RX11) (T := TX11) (N := 18) hx hb ha in_X11 hown hst.k hP 0 rfl rfl 16 (by decide) (ha _ mw1652) (fun _ h9 => h9) rfl dX11_run_73 ?_
  obtain ⟨J95, hJ95, hF⟩ := q_jn hF
  have jJ95 : ∀ (j15 : Int32), ∀ (H : Heap) (locs : List Loc) (ls : Array Slot), J95 j15 = some res → va_P E.1 vwCl (List.flatten [w_Model E a o (x.1, x.2.1, x.2.2.1, x.2.2.2.1, x.2.2.2.2.1, x.2.2.2.2.2.1, x.2.2.2.2.2.2.1, x.2.2.2.2.2.2.2.1, x.2.2.2.2.2.2.2.2.1, x.2.2.2.2.2.2.2.2.2.1, x.2.2.2.2.2.2.2.2.2.2.1, x.2.2.2.2.2.2.2.2.2.2.2.1, x.2.2.2.2.2.2.2.2.2.2.2.2.1, x.2.2.2.2.2.2.2.2.2.2.2.2.2.1, x.2.2.2.2.2.2.2.2.2.2.2.2.2.2.1, y7, y8, y9)]) H → va_D A (List.flatten [w_Model E a o (x.1, x.2.1, x.2.2.1, x.2.2.2.1, x.2.2.2.2.1, x.2.2.2.2.2.1, x.2.2.2.2.2.2.1, x.2.2.2.2.2.2.2.1, x.2.2.2.2.2.2.2.2.1, x.2.2.2.2.2.2.2.2.2.1, x.2.2.2.2.2.2.2.2.2.2.1, x.2.2.2.2.2.2.2.2.2.2.2.1, x.2.2.2.2.2.2.2.2.2.2.2.2.1, x.2.2.2.2.2.2.2.2.2.2.2.2.2.1, x.2.2.2.2.2.2.2.2.2.2.2.2.2.2.1, y7, y8, y9)]) → va_S A s.heap H locs → lv_has ls 5 [(1, .int y6), (0, .ref (a o))] → W p l e rm_X11_run s m args below meth c H locs 0 0 Q (F0 m 95 ls [.int j15, .ref (a o)]) := by
    intro j15 H locs ls hF hP hD hS hl
    rw [hJ95] at hF
    obtain ⟨g16, hF⟩ := q_gdi hF
    refine va_put (D := E.1) (ci := 13) (v := .int j15) (ty := .boolean) (C := RX11) (T := TX11) (N := 18) hx hb ha in_X11 tyX11 tyX11_ok nmX11 hown hst.k hP hD hS 0 rfl rfl 16 (by decide) (ha _ mw1652) (fun _ h9 => h9) rfl (tyX11_ok 16 (by decide)) (nz_b g16) (fz_b g16) (Nat.le_of_ble_eq_true rfl) dX11_run_95 (fun H locs hP hD hS => ?_)
    have hP : va_P E.1 vwCl (List.flatten [w_Model E a o (x.1, x.2.1, x.2.2.1, x.2.2.2.1, x.2.2.2.2.1, x.2.2.2.2.2.1, x.2.2.2.2.2.2.1, x.2.2.2.2.2.2.2.1, x.2.2.2.2.2.2.2.2.1, x.2.2.2.2.2.2.2.2.2.1, x.2.2.2.2.2.2.2.2.2.2.1, x.2.2.2.2.2.2.2.2.2.2.2.1, x.2.2.2.2.2.2.2.2.2.2.2.2.1, x.2.2.2.2.2.2.2.2.2.2.2.2.2.1, x.2.2.2.2.2.2.2.2.2.2.2.2.2.2.1, y7, j15, y9)]) H := hP
    have hD : va_D A (List.flatten [w_Model E a o (x.1, x.2.1, x.2.2.1, x.2.2.2.1, x.2.2.2.2.1, x.2.2.2.2.2.1, x.2.2.2.2.2.2.1, x.2.2.2.2.2.2.2.1, x.2.2.2.2.2.2.2.2.1, x.2.2.2.2.2.2.2.2.2.1, x.2.2.2.2.2.2.2.2.2.2.1, x.2.2.2.2.2.2.2.2.2.2.2.1, x.2.2.2.2.2.2.2.2.2.2.2.2.1, x.2.2.2.2.2.2.2.2.2.2.2.2.2.1, x.2.2.2.2.2.2.2.2.2.2.2.2.2.2.1, y7, j15, y9)]) := hD
    refine lv_aload_n hx hb dX11_run_98 rfl (lv_at hl 1 rfl) ?_
    refine lv_iconst (v := 0) hx hb dX11_run_99 (by decide) ?_
    refine va_put (D := E.1) (ci := 13) (v := .int 0) (ty := .int) (C := RX11) (T := TX11) (N := 18) hx hb ha in_X11 tyX11 tyX11_ok nmX11 hown hst.k hP hD hS 0 rfl rfl 7 (by decide) (ha _ mw1643) (fun _ h9 => h9) rfl (tyX11_ok 7 (by decide)) rfl rfl (Nat.le_of_ble_eq_true rfl) dX11_run_100 (fun H locs hP hD hS => ?_)
    have hP : va_P E.1 vwCl (List.flatten [w_Model E a o (x.1, x.2.1, x.2.2.1, x.2.2.2.1, x.2.2.2.2.1, x.2.2.2.2.2.1, x.2.2.2.2.2.2.1, 0, x.2.2.2.2.2.2.2.2.1, x.2.2.2.2.2.2.2.2.2.1, x.2.2.2.2.2.2.2.2.2.2.1, x.2.2.2.2.2.2.2.2.2.2.2.1, x.2.2.2.2.2.2.2.2.2.2.2.2.1, x.2.2.2.2.2.2.2.2.2.2.2.2.2.1, x.2.2.2.2.2.2.2.2.2.2.2.2.2.2.1, y7, j15, y9)]) H := hP
    have hD : va_D A (List.flatten [w_Model E a o (x.1, x.2.1, x.2.2.1, x.2.2.2.1, x.2.2.2.2.1, x.2.2.2.2.2.1, x.2.2.2.2.2.2.1, 0, x.2.2.2.2.2.2.2.2.1, x.2.2.2.2.2.2.2.2.2.1, x.2.2.2.2.2.2.2.2.2.2.1, x.2.2.2.2.2.2.2.2.2.2.2.1, x.2.2.2.2.2.2.2.2.2.2.2.2.1, x.2.2.2.2.2.2.2.2.2.2.2.2.2.1, x.2.2.2.2.2.2.2.2.2.2.2.2.2.2.1, y7, j15, y9)]) := hD
    refine lv_aload_n hx hb dX11_run_103 rfl (lv_at hl 1 rfl) ?_
    refine va_get (D := E.1) (ci := 13) (v := .int j15) (C := RX11) (T := TX11) (N := 18) hx hb ha in_X11 hown hst.k hP 0 rfl rfl 16 (by decide) (ha _ mw1652) (fun _ h9 => h9) rfl dX11_run_104 ?_
    refine lv_if_eq (tgt := 124) hx hb dX11_run_107 (by decide) (fun c107 => ?_) (fun c107 => ?_)
    · have hF := q_brp c107 hF
      refine lv_aload_n hx hb dX11_run_124 rfl (lv_at hl 1 rfl) ?_
      obtain ⟨q17, hq17, hF⟩ := q_bdi hF
      refine cl_v (Lc := [w_Model E a o (x.1, x.2.1, x.2.2.1, x.2.2.2.1, x.2.2.2.2.1, x.2.2.2.2.2.1, x.2.2.2.2.2.2.1, 0, x.2.2.2.2.2.2.2.2.1, x.2.2.2.2.2.2.2.2.2.1, x.2.2.2.2.2.2.2.2.2.2.1, x.2.2.2.2.2.2.2.2.2.2.2.1, x.2.2.2.2.2.2.2.2.2.2.2.2.1, x.2.2.2.2.2.2.2.2.2.2.2.2.2.1, x.2.2.2.2.2.2.2.2.2.2.2.2.2.2.1, y7, j15, y9)]) (Lc' := [w_Model E a o (x.1, q17, x.2.2.1, x.2.2.2.1, x.2.2.2.2.1, x.2.2.2.2.2.1, x.2.2.2.2.2.2.1, 0, x.2.2.2.2.2.2.2.2.1, x.2.2.2.2.2.2.2.2.2.1, x.2.2.2.2.2.2.2.2.2.2.1, x.2.2.2.2.2.2.2.2.2.2.2.1, x.2.2.2.2.2.2.2.2.2.2.2.2.1, x.2.2.2.2.2.2.2.2.2.2.2.2.2.1, x.2.2.2.2.2.2.2.2.2.2.2.2.2.2.1, y7, j15, y9)]) (L' := [w_Model E a o (x.1, q17, x.2.2.1, x.2.2.2.1, x.2.2.2.2.1, x.2.2.2.2.2.1, x.2.2.2.2.2.2.1, 0, x.2.2.2.2.2.2.2.2.1, x.2.2.2.2.2.2.2.2.2.1, x.2.2.2.2.2.2.2.2.2.2.1, x.2.2.2.2.2.2.2.2.2.2.2.1, x.2.2.2.2.2.2.2.2.2.2.2.2.1, x.2.2.2.2.2.2.2.2.2.2.2.2.2.1, x.2.2.2.2.2.2.2.2.2.2.2.2.2.2.1, y7, j15, y9)]) (va_runV (As := []) (rest := []) ⟨hx, hb, hml, hown, ha⟩ (k_X11_begin l E a o (x.1, x.2.1, x.2.2.1, x.2.2.2.1, x.2.2.2.2.1, x.2.2.2.2.2.1, x.2.2.2.2.2.2.1, 0, x.2.2.2.2.2.2.2.2.1, x.2.2.2.2.2.2.2.2.2.1, x.2.2.2.2.2.2.2.2.2.2.1, x.2.2.2.2.2.2.2.2.2.2.2.1, x.2.2.2.2.2.2.2.2.2.2.2.2.1, x.2.2.2.2.2.2.2.2.2.2.2.2.2.1, x.2.2.2.2.2.2.2.2.2.2.2.2.2.2.1, y7, j15, y9) q17 hq17 H.size) (cwV 0 ha (gi_V (fun _ h => h) mw1699 mw1701 mw27 mw87 mw1702) rfl rfl rfl hv_X11_begin ⟨(Nat.le_of_ble_eq_true rfl), (Nat.le_of_ble_eq_true rfl)⟩) ⟨pre_blind, va_recv hst.k (fr_P hP [0] rfl) (ci := 13) (q0 := 0) rfl rfl, pre_at hP hD hS hz hzs hst [0] (by decide) rfl rfl⟩ rfl rfl hl.1 rfl (lv_room (Nat.le_of_ble_eq_true rfl)) dX11_run_125 ⟨(Nat.le_of_ble_eq_true rfl), (Nat.le_of_ble_eq_true rfl)⟩) hP hD hS hA [0] (by decide) rfl rfl rfl rfl (fun H locs hP hD hS => ?_)
      refine lv_iconst (v := 0) hx hb dX11_run_128 (by decide) ?_
      refine lv_istore_n (lv' := [(3, .int 0), (1, .int y6), (0, .ref (a o))]) hx hb dX11_run_129 rfl hl (by decide) rfl (fun ls hl => ?_)
      have key130 : ∀ (K : Int32 → Int32 → (Nat → Int32) → Int32 → Option (Int32 × (Nat → Int32) × (Nat → Int32) × (Nat → Int32) × Int32 × Int32 × Int32 × Int32 × Int32 × Int32 × Int32 × (Nat → Int32))), (∀ (y21 : Int32) (y22 : Int32) (y23 : (Nat → Int32)) (y24 : Int32) (H : Heap) (locs : List Loc) (ls : Array Slot), K y21 y22 y23 y24 = some res → va_P E.1 vwCl (List.flatten [w_Model E a o (y23, q17, x.2.2.1, x.2.2.2.1, x.2.2.2.2.1, x.2.2.2.2.2.1, x.2.2.2.2.2.2.1, 0, x.2.2.2.2.2.2.2.2.1, x.2.2.2.2.2.2.2.2.2.1, x.2.2.2.2.2.2.2.2.2.2.1, x.2.2.2.2.2.2.2.2.2.2.2.1, x.2.2.2.2.2.2.2.2.2.2.2.2.1, x.2.2.2.2.2.2.2.2.2.2.2.2.2.1, y24, y7, j15, y9)]) H → va_D A (List.flatten [w_Model E a o (y23, q17, x.2.2.1, x.2.2.2.1, x.2.2.2.2.1, x.2.2.2.2.2.1, x.2.2.2.2.2.2.1, 0, x.2.2.2.2.2.2.2.2.1, x.2.2.2.2.2.2.2.2.2.1, x.2.2.2.2.2.2.2.2.2.2.1, x.2.2.2.2.2.2.2.2.2.2.2.1, x.2.2.2.2.2.2.2.2.2.2.2.2.1, x.2.2.2.2.2.2.2.2.2.2.2.2.2.1, y24, y7, j15, y9)]) → va_S A s.heap H locs → lv_has ls 5 [(3, .int y21), (0, .ref (a o)), (4, .int y22)] → W p l e rm_X11_run s m args below meth c H locs 0 0 Q (F0 m 151 ls [])) → ∀ (n : Nat) (i18 : Int32) (i19 : (Nat → Int32)) (i20 : Int32) (H : Heap) (locs : List Loc) (ls : Array Slot), f_X11_run_L130 x.2.2.1 x.2.2.2.1 x.2.2.2.2.2.2.2.2.1 x.2.2.2.2.2.2.2.2.2.1 y6 y7 y9 j15 q17 K n i18 i19 i20 = some res → va_P E.1 vwCl (List.flatten [w_Model E a o (i19, q17, x.2.2.1, x.2.2.2.1, x.2.2.2.2.1, x.2.2.2.2.2.1, x.2.2.2.2.2.2.1, 0, x.2.2.2.2.2.2.2.2.1, x.2.2.2.2.2.2.2.2.2.1, x.2.2.2.2.2.2.2.2.2.2.1, x.2.2.2.2.2.2.2.2.2.2.2.1, x.2.2.2.2.2.2.2.2.2.2.2.2.1, x.2.2.2.2.2.2.2.2.2.2.2.2.2.1, i20, y7, j15, y9)]) H → va_D A (List.flatten [w_Model E a o (i19, q17, x.2.2.1, x.2.2.2.1, x.2.2.2.2.1, x.2.2.2.2.2.1, x.2.2.2.2.2.2.1, 0, x.2.2.2.2.2.2.2.2.1, x.2.2.2.2.2.2.2.2.2.1, x.2.2.2.2.2.2.2.2.2.2.1, x.2.2.2.2.2.2.2.2.2.2.2.1, x.2.2.2.2.2.2.2.2.2.2.2.2.1, x.2.2.2.2.2.2.2.2.2.2.2.2.2.1, i20, y7, j15, y9)]) → va_S A s.heap H locs → lv_has ls 5 [(3, .int i18), (1, .int y6), (0, .ref (a o))] → W p l e rm_X11_run s m args below meth c H locs 0 0 Q (F0 m 130 ls []) := by
        intro K130 hK130 n130
        induction n130 with
        | zero => intro i18 i19 i20 H locs ls hF; exact absurd hF (by simp [f_X11_run_L130])
        | succ n130 ih130 =>
          intro i18 i19 i20 H locs ls hF hP hD hS hl
          rw [f_X11_run_L130] at hF
          refine lv_iload_n hx hb dX11_run_130 rfl (lv_at hl 0 rfl) ?_
          refine lv_iload_n hx hb dX11_run_131 rfl (lv_at hl 1 rfl) ?_
          refine lv_icmp_ge (tgt := 174) hx hb dX11_run_132 (by decide) (fun c132 => ?_) (fun c132 => ?_)
          · have hF := q_brp c132 hF
            refine lv_aload_n hx hb dX11_run_174 rfl (lv_at hl 2 rfl) ?_
            refine lv_aload_n hx hb dX11_run_175 rfl (lv_at hl 2 rfl) ?_
            refine lv_iload_n hx hb dX11_run_176 rfl (lv_at hl 1 rfl) ?_
            obtain ⟨q25, hq25, hF⟩ := q_bdi hF
            refine cl_i (Lc := [w_Model E a o (i19, q17, x.2.2.1, x.2.2.2.1, x.2.2.2.2.1, x.2.2.2.2.2.1, x.2.2.2.2.2.2.1, 0, x.2.2.2.2.2.2.2.2.1, x.2.2.2.2.2.2.2.2.2.1, x.2.2.2.2.2.2.2.2.2.2.1, x.2.2.2.2.2.2.2.2.2.2.2.1, x.2.2.2.2.2.2.2.2.2.2.2.2.1, x.2.2.2.2.2.2.2.2.2.2.2.2.2.1, i20, y7, j15, y9)]) (Lc' := [w_Model E a o (i19, q17, x.2.2.1, x.2.2.2.1, x.2.2.2.2.1, x.2.2.2.2.2.1, x.2.2.2.2.2.2.1, 0, x.2.2.2.2.2.2.2.2.1, x.2.2.2.2.2.2.2.2.2.1, x.2.2.2.2.2.2.2.2.2.2.1, x.2.2.2.2.2.2.2.2.2.2.2.1, x.2.2.2.2.2.2.2.2.2.2.2.2.1, x.2.2.2.2.2.2.2.2.2.2.2.2.2.1, q25.2, y7, j15, y9)]) (L' := [w_Model E a o (i19, q17, x.2.2.1, x.2.2.2.1, x.2.2.2.2.1, x.2.2.2.2.2.1, x.2.2.2.2.2.2.1, 0, x.2.2.2.2.2.2.2.2.1, x.2.2.2.2.2.2.2.2.2.1, x.2.2.2.2.2.2.2.2.2.2.1, x.2.2.2.2.2.2.2.2.2.2.2.1, x.2.2.2.2.2.2.2.2.2.2.2.2.1, x.2.2.2.2.2.2.2.2.2.2.2.2.2.1, q25.2, y7, j15, y9)]) (rv := q25.1) (va_runV (As := [.int y6]) (rest := [.ref (a o)]) ⟨hx, hb, hml, hown, ha⟩ (k_X11_done l E a o (i19, q17, x.2.2.1, x.2.2.2.1, x.2.2.2.2.1, x.2.2.2.2.2.1, x.2.2.2.2.2.2.1, 0, x.2.2.2.2.2.2.2.2.1, x.2.2.2.2.2.2.2.2.2.1, x.2.2.2.2.2.2.2.2.2.2.1, x.2.2.2.2.2.2.2.2.2.2.2.1, x.2.2.2.2.2.2.2.2.2.2.2.2.1, x.2.2.2.2.2.2.2.2.2.2.2.2.2.1, i20, y7, j15, y9) y6 q25 hq25 H.size) (cwV 1 ha (gi_V (fun _ h => h) mw1720 mw1722 mw30 mw87 mw1723) rfl rfl rfl hv_X11_done ⟨(Nat.le_of_ble_eq_true rfl), (Nat.le_of_ble_eq_true rfl)⟩) ⟨pre_blind, va_recv hst.k (fr_P hP [0] rfl) (ci := 13) (q0 := 0) rfl rfl, pre_at hP hD hS hz hzs hst [0] (by decide) rfl rfl⟩ rfl rfl hl.1 rfl (lv_room (Nat.le_of_ble_eq_true rfl)) dX11_run_177 ⟨(Nat.le_of_ble_eq_true rfl), (Nat.le_of_ble_eq_true rfl)⟩) hP hD hS hA [0] (by decide) rfl rfl rfl rfl (fun H locs hP hD hS => ?_)
            obtain ⟨q26, hq26, hF⟩ := q_bdi hF
            refine cl_i (Lc := [w_Model E a o (i19, q17, x.2.2.1, x.2.2.2.1, x.2.2.2.2.1, x.2.2.2.2.2.1, x.2.2.2.2.2.2.1, 0, x.2.2.2.2.2.2.2.2.1, x.2.2.2.2.2.2.2.2.2.1, x.2.2.2.2.2.2.2.2.2.2.1, x.2.2.2.2.2.2.2.2.2.2.2.1, x.2.2.2.2.2.2.2.2.2.2.2.2.1, x.2.2.2.2.2.2.2.2.2.2.2.2.2.1, q25.2, y7, j15, y9)]) (Lc' := [w_Model E a o (q26.2.1, q17, q26.2.2.1, q26.2.2.2, x.2.2.2.2.1, x.2.2.2.2.2.1, x.2.2.2.2.2.2.1, 0, x.2.2.2.2.2.2.2.2.1, x.2.2.2.2.2.2.2.2.2.1, x.2.2.2.2.2.2.2.2.2.2.1, x.2.2.2.2.2.2.2.2.2.2.2.1, x.2.2.2.2.2.2.2.2.2.2.2.2.1, x.2.2.2.2.2.2.2.2.2.2.2.2.2.1, q25.2, y7, j15, y9)]) (L' := [w_Model E a o (q26.2.1, q17, q26.2.2.1, q26.2.2.2, x.2.2.2.2.1, x.2.2.2.2.2.1, x.2.2.2.2.2.2.1, 0, x.2.2.2.2.2.2.2.2.1, x.2.2.2.2.2.2.2.2.2.1, x.2.2.2.2.2.2.2.2.2.2.1, x.2.2.2.2.2.2.2.2.2.2.2.1, x.2.2.2.2.2.2.2.2.2.2.2.2.1, x.2.2.2.2.2.2.2.2.2.2.2.2.2.1, q25.2, y7, j15, y9)]) (rv := q26.1) (va_runV (As := [.int q25.1]) (rest := []) ⟨hx, hb, hml, hown, ha⟩ (k_X11_kept l E a o (i19, q17, x.2.2.1, x.2.2.2.1, x.2.2.2.2.1, x.2.2.2.2.2.1, x.2.2.2.2.2.2.1, 0, x.2.2.2.2.2.2.2.2.1, x.2.2.2.2.2.2.2.2.2.1, x.2.2.2.2.2.2.2.2.2.2.1, x.2.2.2.2.2.2.2.2.2.2.2.1, x.2.2.2.2.2.2.2.2.2.2.2.2.1, x.2.2.2.2.2.2.2.2.2.2.2.2.2.1, q25.2, y7, j15, y9) q25.1 q26 hq26 H.size) (cwV 1 ha (gi_V (fun _ h => h) mw1724 mw1726 mw31 mw87 mw1727) rfl rfl rfl hv_X11_kept ⟨(Nat.le_of_ble_eq_true rfl), (Nat.le_of_ble_eq_true rfl)⟩) ⟨pre_blind, va_recv hst.k (fr_P hP [0] rfl) (ci := 13) (q0 := 0) rfl rfl, pre_at hP hD hS hz hzs hst [0] (by decide) rfl rfl⟩ rfl rfl hl.1 rfl (lv_room (Nat.le_of_ble_eq_true rfl)) dX11_run_180 ⟨(Nat.le_of_ble_eq_true rfl), (Nat.le_of_ble_eq_true rfl)⟩) hP hD hS hA [0] (by decide) rfl rfl rfl rfl (fun H locs hP hD hS => ?_)
            obtain rfl := Option.some.inj hF
            exact en_i hQ (Nat.le_of_ble_eq_true rfl) (Nat.le_of_ble_eq_true rfl) hx hb hr hlocks hP hD hS rfl dX11_run_183
          · have hF := q_brn c132 hF
            refine lv_aload_n hx hb dX11_run_135 rfl (lv_at hl 2 rfl) ?_
            refine lv_iconst (v := 3) hx hb dX11_run_136 (by decide) ?_
            refine lv_iload_n hx hb dX11_run_137 rfl (lv_at hl 0 rfl) ?_
            refine lv_imul hx hb dX11_run_138 ?_
            obtain ⟨q27, hq27, hF⟩ := q_bdi hF
            refine cl_i (Lc := [w_Model E a o (i19, q17, x.2.2.1, x.2.2.2.1, x.2.2.2.2.1, x.2.2.2.2.2.1, x.2.2.2.2.2.2.1, 0, x.2.2.2.2.2.2.2.2.1, x.2.2.2.2.2.2.2.2.2.1, x.2.2.2.2.2.2.2.2.2.2.1, x.2.2.2.2.2.2.2.2.2.2.2.1, x.2.2.2.2.2.2.2.2.2.2.2.2.1, x.2.2.2.2.2.2.2.2.2.2.2.2.2.1, i20, y7, j15, y9)]) (Lc' := [w_Model E a o (q27.2.1, q17, x.2.2.1, x.2.2.2.1, x.2.2.2.2.1, x.2.2.2.2.2.1, x.2.2.2.2.2.2.1, 0, x.2.2.2.2.2.2.2.2.1, x.2.2.2.2.2.2.2.2.2.1, x.2.2.2.2.2.2.2.2.2.2.1, x.2.2.2.2.2.2.2.2.2.2.2.1, x.2.2.2.2.2.2.2.2.2.2.2.2.1, x.2.2.2.2.2.2.2.2.2.2.2.2.2.1, q27.2.2, y7, j15, y9)]) (L' := [w_Model E a o (q27.2.1, q17, x.2.2.1, x.2.2.2.1, x.2.2.2.2.1, x.2.2.2.2.2.1, x.2.2.2.2.2.2.1, 0, x.2.2.2.2.2.2.2.2.1, x.2.2.2.2.2.2.2.2.2.1, x.2.2.2.2.2.2.2.2.2.2.1, x.2.2.2.2.2.2.2.2.2.2.2.1, x.2.2.2.2.2.2.2.2.2.2.2.2.1, x.2.2.2.2.2.2.2.2.2.2.2.2.2.1, q27.2.2, y7, j15, y9)]) (rv := q27.1) (va_runV (As := [.int (3 * i18)]) (rest := []) ⟨hx, hb, hml, hown, ha⟩ (k_X11_carriesOut l E a o (i19, q17, x.2.2.1, x.2.2.2.1, x.2.2.2.2.1, x.2.2.2.2.2.1, x.2.2.2.2.2.2.1, 0, x.2.2.2.2.2.2.2.2.1, x.2.2.2.2.2.2.2.2.2.1, x.2.2.2.2.2.2.2.2.2.2.1, x.2.2.2.2.2.2.2.2.2.2.2.1, x.2.2.2.2.2.2.2.2.2.2.2.2.1, x.2.2.2.2.2.2.2.2.2.2.2.2.2.1, i20, y7, j15, y9) (3 * i18) q27 hq27 H.size) (cwV 1 ha (gi_V (fun _ h => h) mw2074 mw2076 mw69 mw87 mw2077) rfl rfl rfl hv_X11_carriesOut ⟨(Nat.le_of_ble_eq_true rfl), (Nat.le_of_ble_eq_true rfl)⟩) ⟨pre_blind, va_recv hst.k (fr_P hP [0] rfl) (ci := 13) (q0 := 0) rfl rfl, pre_at hP hD hS hz hzs hst [0] (by decide) rfl rfl⟩ rfl rfl hl.1 rfl (lv_room (Nat.le_of_ble_eq_true rfl)) dX11_run_139 ⟨(Nat.le_of_ble_eq_true rfl), (Nat.le_of_ble_eq_true rfl)⟩) hP hD hS hA [0] (by decide) rfl rfl rfl rfl (fun H locs hP hD hS => ?_)
            refine lv_istore (lv' := [(4, .int q27.1), (3, .int i18), (1, .int y6), (0, .ref (a o))]) hx hb dX11_run_142 hl (by decide) rfl (fun ls hl => ?_)
            refine lv_aload_n hx hb dX11_run_144 rfl (lv_at hl 3 rfl) ?_
            refine va_get (D := E.1) (ci := 13) (v := .int q27.2.2) (C := RX11) (T := TX11) (N := 18) hx hb ha in_X11 hown hst.k hP 0 rfl rfl 14 (by decide) (ha _ mw1650) (fun _ h9 => h9) rfl dX11_run_145 ?_
            refine lv_if_eq (tgt := 168) hx hb dX11_run_148 (by decide) (fun c148 => ?_) (fun c148 => ?_)
            · have hF := q_brp c148 hF
              obtain ⟨v28, ev28⟩ : ∃ y : Int32, y = i18 + 1 := ⟨_, rfl⟩
              have hF := q_lti ev28 hF
              refine lv_iinc (v := v28) (lv' := [(3, .int v28), (4, .int q27.1), (1, .int y6), (0, .ref (a o))]) hx hb dX11_run_168 hl (k := 1) rfl (by rw [ev28]; rfl) (by decide) rfl (fun ls hl => ?_)
              refine lv_goto (tgt := 130) hx hb dX11_run_171 (by decide) ?_
              exact ih130 v28 q27.2.1 q27.2.2 H locs ls hF hP hD hS (lv_sub hl [0, 2, 3] rfl)
            · have hF := q_brn c148 hF
              exact hK130 i18 q27.1 q27.2.1 q27.2.2 H locs ls hF hP hD hS (lv_sub hl [1, 3, 0] rfl)
      refine key130 _ ?_ _ 0 x.1 x.2.2.2.2.2.2.2.2.2.2.2.2.2.2.1 H locs ls hF hP hD hS (lv_sub hl [0, 1, 2] rfl)
      intro y21 y22 y23 y24 H locs ls hF hP hD hS hl
      refine lv_aload_n hx hb dX11_run_151 rfl (lv_at hl 1 rfl) ?_
      refine lv_iload_n hx hb dX11_run_152 rfl (lv_at hl 0 rfl) ?_
      refine va_put (D := E.1) (ci := 13) (v := .int y21) (ty := .int) (C := RX11) (T := TX11) (N := 18) hx hb ha in_X11 tyX11 tyX11_ok nmX11 hown hst.k hP hD hS 0 rfl rfl 9 (by decide) (ha _ mw1645) (fun _ h9 => h9) rfl (tyX11_ok 9 (by decide)) rfl rfl (Nat.le_of_ble_eq_true rfl) dX11_run_153 (fun H locs hP hD hS => ?_)
      have hP : va_P E.1 vwCl (List.flatten [w_Model E a o (y23, q17, x.2.2.1, x.2.2.2.1, x.2.2.2.2.1, x.2.2.2.2.2.1, x.2.2.2.2.2.2.1, 0, x.2.2.2.2.2.2.2.2.1, y21, x.2.2.2.2.2.2.2.2.2.2.1, x.2.2.2.2.2.2.2.2.2.2.2.1, x.2.2.2.2.2.2.2.2.2.2.2.2.1, x.2.2.2.2.2.2.2.2.2.2.2.2.2.1, y24, y7, j15, y9)]) H := hP
      have hD : va_D A (List.flatten [w_Model E a o (y23, q17, x.2.2.1, x.2.2.2.1, x.2.2.2.2.1, x.2.2.2.2.2.1, x.2.2.2.2.2.2.1, 0, x.2.2.2.2.2.2.2.2.1, y21, x.2.2.2.2.2.2.2.2.2.2.1, x.2.2.2.2.2.2.2.2.2.2.2.1, x.2.2.2.2.2.2.2.2.2.2.2.2.1, x.2.2.2.2.2.2.2.2.2.2.2.2.2.1, y24, y7, j15, y9)]) := hD
      refine lv_aload_n hx hb dX11_run_156 rfl (lv_at hl 1 rfl) ?_
      refine lv_iconst (v := 2) hx hb dX11_run_157 (by decide) ?_
      refine va_put (D := E.1) (ci := 13) (v := .int 2) (ty := .int) (C := RX11) (T := TX11) (N := 18) hx hb ha in_X11 tyX11 tyX11_ok nmX11 hown hst.k hP hD hS 0 rfl rfl 14 (by decide) (ha _ mw1650) (fun _ h9 => h9) rfl (tyX11_ok 14 (by decide)) rfl rfl (Nat.le_of_ble_eq_true rfl) dX11_run_158 (fun H locs hP hD hS => ?_)
      have hP : va_P E.1 vwCl (List.flatten [w_Model E a o (y23, q17, x.2.2.1, x.2.2.2.1, x.2.2.2.2.1, x.2.2.2.2.2.1, x.2.2.2.2.2.2.1, 0, x.2.2.2.2.2.2.2.2.1, y21, x.2.2.2.2.2.2.2.2.2.2.1, x.2.2.2.2.2.2.2.2.2.2.2.1, x.2.2.2.2.2.2.2.2.2.2.2.2.1, x.2.2.2.2.2.2.2.2.2.2.2.2.2.1, 2, y7, j15, y9)]) H := hP
      have hD : va_D A (List.flatten [w_Model E a o (y23, q17, x.2.2.1, x.2.2.2.1, x.2.2.2.2.1, x.2.2.2.2.2.1, x.2.2.2.2.2.2.1, 0, x.2.2.2.2.2.2.2.2.1, y21, x.2.2.2.2.2.2.2.2.2.2.1, x.2.2.2.2.2.2.2.2.2.2.2.1, x.2.2.2.2.2.2.2.2.2.2.2.2.1, x.2.2.2.2.2.2.2.2.2.2.2.2.2.1, 2, y7, j15, y9)]) := hD
      refine lv_aload_n hx hb dX11_run_161 rfl (lv_at hl 1 rfl) ?_
      refine lv_iload hx hb dX11_run_162 (lv_at hl 2 rfl) ?_
      obtain ⟨q29, hq29, hF⟩ := q_bdi hF
      refine cl_i (Lc := [w_Model E a o (y23, q17, x.2.2.1, x.2.2.2.1, x.2.2.2.2.1, x.2.2.2.2.2.1, x.2.2.2.2.2.2.1, 0, x.2.2.2.2.2.2.2.2.1, y21, x.2.2.2.2.2.2.2.2.2.2.1, x.2.2.2.2.2.2.2.2.2.2.2.1, x.2.2.2.2.2.2.2.2.2.2.2.2.1, x.2.2.2.2.2.2.2.2.2.2.2.2.2.1, 2, y7, j15, y9)]) (Lc' := [w_Model E a o (q29.2.1, q17, q29.2.2.1, q29.2.2.2, x.2.2.2.2.1, x.2.2.2.2.2.1, x.2.2.2.2.2.2.1, 0, x.2.2.2.2.2.2.2.2.1, y21, x.2.2.2.2.2.2.2.2.2.2.1, x.2.2.2.2.2.2.2.2.2.2.2.1, x.2.2.2.2.2.2.2.2.2.2.2.2.1, x.2.2.2.2.2.2.2.2.2.2.2.2.2.1, 2, y7, j15, y9)]) (L' := [w_Model E a o (q29.2.1, q17, q29.2.2.1, q29.2.2.2, x.2.2.2.2.1, x.2.2.2.2.2.1, x.2.2.2.2.2.2.1, 0, x.2.2.2.2.2.2.2.2.1, y21, x.2.2.2.2.2.2.2.2.2.2.1, x.2.2.2.2.2.2.2.2.2.2.2.1, x.2.2.2.2.2.2.2.2.2.2.2.2.1, x.2.2.2.2.2.2.2.2.2.2.2.2.2.1, 2, y7, j15, y9)]) (rv := q29.1) (va_runV (As := [.int y22]) (rest := []) ⟨hx, hb, hml, hown, ha⟩ (k_X11_kept l E a o (y23, q17, x.2.2.1, x.2.2.2.1, x.2.2.2.2.1, x.2.2.2.2.2.1, x.2.2.2.2.2.2.1, 0, x.2.2.2.2.2.2.2.2.1, y21, x.2.2.2.2.2.2.2.2.2.2.1, x.2.2.2.2.2.2.2.2.2.2.2.1, x.2.2.2.2.2.2.2.2.2.2.2.2.1, x.2.2.2.2.2.2.2.2.2.2.2.2.2.1, 2, y7, j15, y9) y22 q29 hq29 H.size) (cwV 1 ha (gi_V (fun _ h => h) mw1724 mw1726 mw31 mw87 mw1727) rfl rfl rfl hv_X11_kept ⟨(Nat.le_of_ble_eq_true rfl), (Nat.le_of_ble_eq_true rfl)⟩) ⟨pre_blind, va_recv hst.k (fr_P hP [0] rfl) (ci := 13) (q0 := 0) rfl rfl, pre_at hP hD hS hz hzs hst [0] (by decide) rfl rfl⟩ rfl rfl hl.1 rfl (lv_room (Nat.le_of_ble_eq_true rfl)) dX11_run_164 ⟨(Nat.le_of_ble_eq_true rfl), (Nat.le_of_ble_eq_true rfl)⟩) hP hD hS hA [0] (by decide) rfl rfl rfl rfl (fun H locs hP hD hS => ?_)
      obtain rfl := Option.some.inj hF
      exact en_i hQ (Nat.le_of_ble_eq_true rfl) (Nat.le_of_ble_eq_true rfl) hx hb hr hlocks hP hD hS rfl dX11_run_167
    · have hF := q_brn c107 hF
      refine lv_aload_n hx hb dX11_run_110 rfl (lv_at hl 1 rfl) ?_
      refine lv_aload_n hx hb dX11_run_111 rfl (lv_at hl 1 rfl) ?_
      refine va_get (D := E.1) (ci := 13) (v := .int y7) (C := RX11) (T := TX11) (N := 18) hx hb ha in_X11 hown hst.k hP 0 rfl rfl 15 (by decide) (ha _ mw1651) (fun _ h9 => h9) rfl dX11_run_112 ?_
      refine va_put (D := E.1) (ci := 13) (v := .int y7) (ty := .int) (C := RX11) (T := TX11) (N := 18) hx hb ha in_X11 tyX11 tyX11_ok nmX11 hown hst.k hP hD hS 0 rfl rfl 8 (by decide) (ha _ mw1644) (fun _ h9 => h9) rfl (tyX11_ok 8 (by decide)) rfl rfl (Nat.le_of_ble_eq_true rfl) dX11_run_115 (fun H locs hP hD hS => ?_)
      have hP : va_P E.1 vwCl (List.flatten [w_Model E a o (x.1, x.2.1, x.2.2.1, x.2.2.2.1, x.2.2.2.2.1, x.2.2.2.2.2.1, x.2.2.2.2.2.2.1, 0, y7, x.2.2.2.2.2.2.2.2.2.1, x.2.2.2.2.2.2.2.2.2.2.1, x.2.2.2.2.2.2.2.2.2.2.2.1, x.2.2.2.2.2.2.2.2.2.2.2.2.1, x.2.2.2.2.2.2.2.2.2.2.2.2.2.1, x.2.2.2.2.2.2.2.2.2.2.2.2.2.2.1, y7, j15, y9)]) H := hP
      have hD : va_D A (List.flatten [w_Model E a o (x.1, x.2.1, x.2.2.1, x.2.2.2.1, x.2.2.2.2.1, x.2.2.2.2.2.1, x.2.2.2.2.2.2.1, 0, y7, x.2.2.2.2.2.2.2.2.2.1, x.2.2.2.2.2.2.2.2.2.2.1, x.2.2.2.2.2.2.2.2.2.2.2.1, x.2.2.2.2.2.2.2.2.2.2.2.2.1, x.2.2.2.2.2.2.2.2.2.2.2.2.2.1, x.2.2.2.2.2.2.2.2.2.2.2.2.2.2.1, y7, j15, y9)]) := hD
      refine lv_aload_n hx hb dX11_run_118 rfl (lv_at hl 1 rfl) ?_
      refine lv_iconst (v := 1) hx hb dX11_run_119 (by decide) ?_
      obtain ⟨q30, hq30, hF⟩ := q_bdi hF
      refine cl_i (Lc := [w_Model E a o (x.1, x.2.1, x.2.2.1, x.2.2.2.1, x.2.2.2.2.1, x.2.2.2.2.2.1, x.2.2.2.2.2.2.1, 0, y7, x.2.2.2.2.2.2.2.2.2.1, x.2.2.2.2.2.2.2.2.2.2.1, x.2.2.2.2.2.2.2.2.2.2.2.1, x.2.2.2.2.2.2.2.2.2.2.2.2.1, x.2.2.2.2.2.2.2.2.2.2.2.2.2.1, x.2.2.2.2.2.2.2.2.2.2.2.2.2.2.1, y7, j15, y9)]) (Lc' := [w_Model E a o (x.1, x.2.1, x.2.2.1, x.2.2.2.1, x.2.2.2.2.1, x.2.2.2.2.2.1, x.2.2.2.2.2.2.1, 0, y7, x.2.2.2.2.2.2.2.2.2.1, x.2.2.2.2.2.2.2.2.2.2.1, x.2.2.2.2.2.2.2.2.2.2.2.1, x.2.2.2.2.2.2.2.2.2.2.2.2.1, x.2.2.2.2.2.2.2.2.2.2.2.2.2.1, q30.2, y7, j15, y9)]) (L' := [w_Model E a o (x.1, x.2.1, x.2.2.1, x.2.2.2.1, x.2.2.2.2.1, x.2.2.2.2.2.1, x.2.2.2.2.2.2.1, 0, y7, x.2.2.2.2.2.2.2.2.2.1, x.2.2.2.2.2.2.2.2.2.2.1, x.2.2.2.2.2.2.2.2.2.2.2.1, x.2.2.2.2.2.2.2.2.2.2.2.2.1, x.2.2.2.2.2.2.2.2.2.2.2.2.2.1, q30.2, y7, j15, y9)]) (rv := q30.1) (va_runV (As := [.int 1]) (rest := []) ⟨hx, hb, hml, hown, ha⟩ (k_X11_fails l E a o (x.1, x.2.1, x.2.2.1, x.2.2.2.1, x.2.2.2.2.1, x.2.2.2.2.2.1, x.2.2.2.2.2.2.1, 0, y7, x.2.2.2.2.2.2.2.2.2.1, x.2.2.2.2.2.2.2.2.2.2.1, x.2.2.2.2.2.2.2.2.2.2.2.1, x.2.2.2.2.2.2.2.2.2.2.2.2.1, x.2.2.2.2.2.2.2.2.2.2.2.2.2.1, x.2.2.2.2.2.2.2.2.2.2.2.2.2.2.1, y7, j15, y9) 1 q30 hq30 H.size) (cwV 1 ha (gi_V (fun _ h => h) mw1716 mw1718 mw29 mw87 mw1719) rfl rfl rfl hv_X11_fails ⟨(Nat.le_of_ble_eq_true rfl), (Nat.le_of_ble_eq_true rfl)⟩) ⟨pre_blind, va_recv hst.k (fr_P hP [0] rfl) (ci := 13) (q0 := 0) rfl rfl, pre_at hP hD hS hz hzs hst [0] (by decide) rfl rfl⟩ rfl rfl hl.1 rfl (lv_room (Nat.le_of_ble_eq_true rfl)) dX11_run_120 ⟨(Nat.le_of_ble_eq_true rfl), (Nat.le_of_ble_eq_true rfl)⟩) hP hD hS hA [0] (by decide) rfl rfl rfl rfl (fun H locs hP hD hS => ?_)
      obtain rfl := Option.some.inj hF
      exact en_i hQ (Nat.le_of_ble_eq_true rfl) (Nat.le_of_ble_eq_true rfl) hx hb hr hlocks hP hD hS rfl dX11_run_123
  refine lv_if_ne (tgt := 90) hx hb dX11_run_76 (by decide) (fun c76 => ?_) (fun c76 => ?_)
  · have hF := q_brn c76 hF
    refine lv_iconst (v := 1) hx hb dX11_run_90 (by decide) ?_
    refine lv_goto (tgt := 95) hx hb dX11_run_91 (by decide) ?_
    exact jJ95 1 H locs ls hF hP hD hS (lv_sub hl [0, 1] rfl)
  · have hF := q_brp c76 hF
    refine lv_aload_n hx hb dX11_run_79 rfl (lv_at hl 1 rfl) ?_
    refine va_get (D := E.1) (ci := 13) (v := .int y7) (C := RX11) (T := TX11) (N := 18) hx hb ha in_X11 hown hst.k hP 0 rfl rfl 15 (by decide) (ha _ mw1651) (fun _ h9 => h9) rfl dX11_run_80 ?_
    refine lv_aload_n hx hb dX11_run_83 rfl (lv_at hl 1 rfl) ?_
    refine va_get (D := E.1) (ci := 13) (v := .int x.2.2.2.2.2.2.2.1) (C := RX11) (T := TX11) (N := 18) hx hb ha in_X11 hown hst.k hP 0 rfl rfl 7 (by decide) (ha _ mw1643) (fun _ h9 => h9) rfl dX11_run_84 ?_
    refine lv_icmp_ge (tgt := 94) hx hb dX11_run_87 (by decide) (fun c87 => ?_) (fun c87 => ?_)
    · have hF := q_brp c87 hF
      refine lv_iconst (v := 0) hx hb dX11_run_94 (by decide) ?_
      exact jJ95 0 H locs ls hF hP hD hS (lv_sub hl [0, 1] rfl)
    · have hF := q_brn c87 hF
      refine lv_iconst (v := 1) hx hb dX11_run_90 (by decide) ?_
      refine lv_goto (tgt := 95) hx hb dX11_run_91 (by decide) ?_
      exact jJ95 1 H locs ls hF hP hD hS (lv_sub hl [0, 1] rfl)

/-! X11_errorPosition -/
theorem dX11_errorPosition_0 : decode cX11_errorPosition 0 = .ok (.aload_n 0, 1) := by decide +kernel
theorem dX11_errorPosition_1 : decode cX11_errorPosition 1 = .ok (.getfield 26, 3) := by decide +kernel
theorem dX11_errorPosition_4 : decode cX11_errorPosition 4 = .ok (.iconst (-1), 1) := by decide +kernel
theorem dX11_errorPosition_5 : decode cX11_errorPosition 5 = .ok (.if_icmp .ne 11, 3) := by decide +kernel
theorem dX11_errorPosition_8 : decode cX11_errorPosition 8 = .ok (.aload_n 0, 1) := by decide +kernel
theorem dX11_errorPosition_9 : decode cX11_errorPosition 9 = .ok (.iconst 1, 1) := by decide +kernel
theorem dX11_errorPosition_10 : decode cX11_errorPosition 10 = .ok (.invokevirtual 80, 3) := by decide +kernel
theorem dX11_errorPosition_13 : decode cX11_errorPosition 13 = .ok (.goto 11, 3) := by decide +kernel
theorem dX11_errorPosition_16 : decode cX11_errorPosition 16 = .ok (.aload_n 0, 1) := by decide +kernel
theorem dX11_errorPosition_17 : decode cX11_errorPosition 17 = .ok (.aload_n 0, 1) := by decide +kernel
theorem dX11_errorPosition_18 : decode cX11_errorPosition 18 = .ok (.getfield 26, 3) := by decide +kernel
theorem dX11_errorPosition_21 : decode cX11_errorPosition 21 = .ok (.invokevirtual 83, 3) := by decide +kernel
theorem dX11_errorPosition_24 : decode cX11_errorPosition 24 = .ok (.ireturn, 1) := by decide +kernel
def f_X11_errorPosition (x_errorAt : Int32) (x_thrown : Int32) : Option (Int32 × Int32) :=
  q_br (x_errorAt = (-1)) (
  q_bd (f_X11_fails x_thrown 1) (fun q2 =>
  some (q2.1, q2.2))) (
  q_bd (f_X11_done x_thrown x_errorAt) (fun q1 =>
  some (q1.1, q1.2)))
theorem hv_X11_errorPosition : yX11_errorPosition.cls = RX11 ∧ yX11_errorPosition.cls ≠ "java/lang/invoke/MethodHandle" ∧ yX11_errorPosition.cls ≠ "java/lang/invoke/VarHandle" ∧ (parseMethodDescriptor yX11_errorPosition.desc).map (fun d => d.parameters.length) = some 0 := by decide +kernel
abbrev rm_X11_errorPosition : Room := { frames := 1, cells := 0, slots := 0, locals := 21 }
set_option maxHeartbeats 4000000 in
set_option maxRecDepth 100000 in
theorem k_X11_errorPosition (l : Launch) (E : ET) (a : Nat → Nat) (o : Nat) (x : Model_t) (res : Int32 × Int32) (hF : f_X11_errorPosition x.2.2.2.2.2.2.2.2.1 x.2.2.2.2.2.2.2.2.2.2.2.2.2.2.1 = some res) (sz : Nat) : CtI l yX11_errorPosition (mws yX11_errorPosition cX11_errorPosition 1 (some .int)) rm_X11_errorPosition 0 0 [.ref (a o)] E (bl_Model E a o x) res.1 (bl_Model E a o (x.1, x.2.1, x.2.2.1, x.2.2.2.1, x.2.2.2.2.1, x.2.2.2.2.2.1, x.2.2.2.2.2.2.1, x.2.2.2.2.2.2.2.1, x.2.2.2.2.2.2.2.2.1, x.2.2.2.2.2.2.2.2.2.1, x.2.2.2.2.2.2.2.2.2.2.1, x.2.2.2.2.2.2.2.2.2.2.2.1, x.2.2.2.2.2.2.2.2.2.2.2.2.1, x.2.2.2.2.2.2.2.2.2.2.2.2.2.1, res.2, x.2.2.2.2.2.2.2.2.2.2.2.2.2.2.2.1, x.2.2.2.2.2.2.2.2.2.2.2.2.2.2.2.2.1, x.2.2.2.2.2.2.2.2.2.2.2.2.2.2.2.2.2)) sz := by
  refine mk_M (by decide +kernel) (Nat.le_of_ble_eq_true rfl) ?_
  intro p e s m below meth c A args Q ls hAe hsz hQ hx hb hr hml hin ha hown hlocks hA hz hzs hst hP hD hS hl
  have hown : s.vm.findClass RX11 = some m.cls := hown
  rw [hAe] at hQ
  subst hsz
  have hP : va_P E.1 vwCl (List.flatten [w_Model E a o x]) s.heap := hP
  have hD : va_D A (List.flatten [w_Model E a o x]) := hD
  have hl : lv_has ls 1 [(0, .ref (a o))] := hl
  generalize hHe : s.heap = H at hP
  have hS : va_S A s.heap H [] := by rw [← hHe]; exact hS
  generalize ([] : List Loc) = locs at hS ⊢
  unfold f_X11_errorPosition at hF
  refine lv_aload_n hx hb dX11_errorPosition_0 rfl (lv_at hl 0 rfl) ?_
  refine va_get (D := E.1) (ci := 13) (v := .int x.2.2.2.2.2.2.2.2.1) (C := RX11) (T := TX11) (N := 18) hx hb ha in_X11 hown hst.k hP 0 rfl rfl 8 (by decide) (ha _ mw1644) (fun _ h9 => h9) rfl dX11_errorPosition_1 ?_
  refine lv_iconst (v := (-1)) hx hb dX11_errorPosition_4 (by decide) ?_
  refine lv_icmp_ne (tgt := 16) hx hb dX11_errorPosition_5 (by decide) (fun c5 => ?_) (fun c5 => ?_)
  · have hF := q_brn c5 hF
    refine lv_aload_n hx hb dX11_errorPosition_16 rfl (lv_at hl 0 rfl) ?_
    refine lv_aload_n hx hb dX11_errorPosition_17 rfl (lv_at hl 0 rfl) ?_
    refine va_get (D := E.1) (ci := 13) (v := .int x.2.2.2.2.2.2.2.2.1) (C := RX11) (T := TX11) (N := 18) hx hb ha in_X11 hown hst.k hP 0 rfl rfl 8 (by decide) (ha _ mw1644) (fun _ h9 => h9) rfl dX11_errorPosition_18 ?_
    obtain ⟨q1, hq1, hF⟩ := q_bdi hF
    refine cl_i (Lc := [w_Model E a o x]) (Lc' := [w_Model E a o (x.1, x.2.1, x.2.2.1, x.2.2.2.1, x.2.2.2.2.1, x.2.2.2.2.2.1, x.2.2.2.2.2.2.1, x.2.2.2.2.2.2.2.1, x.2.2.2.2.2.2.2.2.1, x.2.2.2.2.2.2.2.2.2.1, x.2.2.2.2.2.2.2.2.2.2.1, x.2.2.2.2.2.2.2.2.2.2.2.1, x.2.2.2.2.2.2.2.2.2.2.2.2.1, x.2.2.2.2.2.2.2.2.2.2.2.2.2.1, q1.2, x.2.2.2.2.2.2.2.2.2.2.2.2.2.2.2.1, x.2.2.2.2.2.2.2.2.2.2.2.2.2.2.2.2.1, x.2.2.2.2.2.2.2.2.2.2.2.2.2.2.2.2.2)]) (L' := [w_Model E a o (x.1, x.2.1, x.2.2.1, x.2.2.2.1, x.2.2.2.2.1, x.2.2.2.2.2.1, x.2.2.2.2.2.2.1, x.2.2.2.2.2.2.2.1, x.2.2.2.2.2.2.2.2.1, x.2.2.2.2.2.2.2.2.2.1, x.2.2.2.2.2.2.2.2.2.2.1, x.2.2.2.2.2.2.2.2.2.2.2.1, x.2.2.2.2.2.2.2.2.2.2.2.2.1, x.2.2.2.2.2.2.2.2.2.2.2.2.2.1, q1.2, x.2.2.2.2.2.2.2.2.2.2.2.2.2.2.2.1, x.2.2.2.2.2.2.2.2.2.2.2.2.2.2.2.2.1, x.2.2.2.2.2.2.2.2.2.2.2.2.2.2.2.2.2)]) (rv := q1.1) (va_runV (As := [.int x.2.2.2.2.2.2.2.2.1]) (rest := []) ⟨hx, hb, hml, hown, ha⟩ (k_X11_done l E a o x x.2.2.2.2.2.2.2.2.1 q1 hq1 H.size) (cwV 1 ha (gi_V (fun _ h => h) mw1720 mw1722 mw30 mw87 mw1723) rfl rfl rfl hv_X11_done ⟨(Nat.le_of_ble_eq_true rfl), (Nat.le_of_ble_eq_true rfl)⟩) ⟨pre_blind, va_recv hst.k (fr_P hP [0] rfl) (ci := 13) (q0 := 0) rfl rfl, pre_at hP hD hS hz hzs hst [0] (by decide) rfl rfl⟩ rfl rfl hl.1 rfl (lv_room (Nat.le_of_ble_eq_true rfl)) dX11_errorPosition_21 ⟨(Nat.le_of_ble_eq_true rfl), (Nat.le_of_ble_eq_true rfl)⟩) hP hD hS hA [0] (by decide) rfl rfl rfl rfl (fun H locs hP hD hS => ?_)
    obtain rfl := Option.some.inj hF
    exact en_i hQ (Nat.le_of_ble_eq_true rfl) (Nat.le_of_ble_eq_true rfl) hx hb hr hlocks hP hD hS rfl dX11_errorPosition_24
  · have hF := q_brp c5 hF
    refine lv_aload_n hx hb dX11_errorPosition_8 rfl (lv_at hl 0 rfl) ?_
    refine lv_iconst (v := 1) hx hb dX11_errorPosition_9 (by decide) ?_
    obtain ⟨q2, hq2, hF⟩ := q_bdi hF
    refine cl_i (Lc := [w_Model E a o x]) (Lc' := [w_Model E a o (x.1, x.2.1, x.2.2.1, x.2.2.2.1, x.2.2.2.2.1, x.2.2.2.2.2.1, x.2.2.2.2.2.2.1, x.2.2.2.2.2.2.2.1, x.2.2.2.2.2.2.2.2.1, x.2.2.2.2.2.2.2.2.2.1, x.2.2.2.2.2.2.2.2.2.2.1, x.2.2.2.2.2.2.2.2.2.2.2.1, x.2.2.2.2.2.2.2.2.2.2.2.2.1, x.2.2.2.2.2.2.2.2.2.2.2.2.2.1, q2.2, x.2.2.2.2.2.2.2.2.2.2.2.2.2.2.2.1, x.2.2.2.2.2.2.2.2.2.2.2.2.2.2.2.2.1, x.2.2.2.2.2.2.2.2.2.2.2.2.2.2.2.2.2)]) (L' := [w_Model E a o (x.1, x.2.1, x.2.2.1, x.2.2.2.1, x.2.2.2.2.1, x.2.2.2.2.2.1, x.2.2.2.2.2.2.1, x.2.2.2.2.2.2.2.1, x.2.2.2.2.2.2.2.2.1, x.2.2.2.2.2.2.2.2.2.1, x.2.2.2.2.2.2.2.2.2.2.1, x.2.2.2.2.2.2.2.2.2.2.2.1, x.2.2.2.2.2.2.2.2.2.2.2.2.1, x.2.2.2.2.2.2.2.2.2.2.2.2.2.1, q2.2, x.2.2.2.2.2.2.2.2.2.2.2.2.2.2.2.1, x.2.2.2.2.2.2.2.2.2.2.2.2.2.2.2.2.1, x.2.2.2.2.2.2.2.2.2.2.2.2.2.2.2.2.2)]) (rv := q2.1) (va_runV (As := [.int 1]) (rest := []) ⟨hx, hb, hml, hown, ha⟩ (k_X11_fails l E a o x 1 q2 hq2 H.size) (cwV 1 ha (gi_V (fun _ h => h) mw1716 mw1718 mw29 mw87 mw1719) rfl rfl rfl hv_X11_fails ⟨(Nat.le_of_ble_eq_true rfl), (Nat.le_of_ble_eq_true rfl)⟩) ⟨pre_blind, va_recv hst.k (fr_P hP [0] rfl) (ci := 13) (q0 := 0) rfl rfl, pre_at hP hD hS hz hzs hst [0] (by decide) rfl rfl⟩ rfl rfl hl.1 rfl (lv_room (Nat.le_of_ble_eq_true rfl)) dX11_errorPosition_10 ⟨(Nat.le_of_ble_eq_true rfl), (Nat.le_of_ble_eq_true rfl)⟩) hP hD hS hA [0] (by decide) rfl rfl rfl rfl (fun H locs hP hD hS => ?_)
    refine lv_goto (tgt := 24) hx hb dX11_errorPosition_13 (by decide) ?_
    obtain rfl := Option.some.inj hF
    exact en_i hQ (Nat.le_of_ble_eq_true rfl) (Nat.le_of_ble_eq_true rfl) hx hb hr hlocks hP hD hS rfl dX11_errorPosition_24

/-! X11_failedCommand -/
theorem dX11_failedCommand_0 : decode cX11_failedCommand 0 = .ok (.aload_n 0, 1) := by decide +kernel
theorem dX11_failedCommand_1 : decode cX11_failedCommand 1 = .ok (.getfield 30, 3) := by decide +kernel
theorem dX11_failedCommand_4 : decode cX11_failedCommand 4 = .ok (.iconst (-1), 1) := by decide +kernel
theorem dX11_failedCommand_5 : decode cX11_failedCommand 5 = .ok (.if_icmp .ne 11, 3) := by decide +kernel
theorem dX11_failedCommand_8 : decode cX11_failedCommand 8 = .ok (.aload_n 0, 1) := by decide +kernel
theorem dX11_failedCommand_9 : decode cX11_failedCommand 9 = .ok (.iconst 1, 1) := by decide +kernel
theorem dX11_failedCommand_10 : decode cX11_failedCommand 10 = .ok (.invokevirtual 80, 3) := by decide +kernel
theorem dX11_failedCommand_13 : decode cX11_failedCommand 13 = .ok (.goto 11, 3) := by decide +kernel
theorem dX11_failedCommand_16 : decode cX11_failedCommand 16 = .ok (.aload_n 0, 1) := by decide +kernel
theorem dX11_failedCommand_17 : decode cX11_failedCommand 17 = .ok (.aload_n 0, 1) := by decide +kernel
theorem dX11_failedCommand_18 : decode cX11_failedCommand 18 = .ok (.getfield 30, 3) := by decide +kernel
theorem dX11_failedCommand_21 : decode cX11_failedCommand 21 = .ok (.invokevirtual 83, 3) := by decide +kernel
theorem dX11_failedCommand_24 : decode cX11_failedCommand 24 = .ok (.ireturn, 1) := by decide +kernel
def f_X11_failedCommand (x_failedAt : Int32) (x_thrown : Int32) : Option (Int32 × Int32) :=
  q_br (x_failedAt = (-1)) (
  q_bd (f_X11_fails x_thrown 1) (fun q2 =>
  some (q2.1, q2.2))) (
  q_bd (f_X11_done x_thrown x_failedAt) (fun q1 =>
  some (q1.1, q1.2)))
theorem hv_X11_failedCommand : yX11_failedCommand.cls = RX11 ∧ yX11_failedCommand.cls ≠ "java/lang/invoke/MethodHandle" ∧ yX11_failedCommand.cls ≠ "java/lang/invoke/VarHandle" ∧ (parseMethodDescriptor yX11_failedCommand.desc).map (fun d => d.parameters.length) = some 0 := by decide +kernel
abbrev rm_X11_failedCommand : Room := { frames := 1, cells := 0, slots := 0, locals := 21 }
set_option maxHeartbeats 4000000 in
set_option maxRecDepth 100000 in
theorem k_X11_failedCommand (l : Launch) (E : ET) (a : Nat → Nat) (o : Nat) (x : Model_t) (res : Int32 × Int32) (hF : f_X11_failedCommand x.2.2.2.2.2.2.2.2.2.1 x.2.2.2.2.2.2.2.2.2.2.2.2.2.2.1 = some res) (sz : Nat) : CtI l yX11_failedCommand (mws yX11_failedCommand cX11_failedCommand 1 (some .int)) rm_X11_failedCommand 0 0 [.ref (a o)] E (bl_Model E a o x) res.1 (bl_Model E a o (x.1, x.2.1, x.2.2.1, x.2.2.2.1, x.2.2.2.2.1, x.2.2.2.2.2.1, x.2.2.2.2.2.2.1, x.2.2.2.2.2.2.2.1, x.2.2.2.2.2.2.2.2.1, x.2.2.2.2.2.2.2.2.2.1, x.2.2.2.2.2.2.2.2.2.2.1, x.2.2.2.2.2.2.2.2.2.2.2.1, x.2.2.2.2.2.2.2.2.2.2.2.2.1, x.2.2.2.2.2.2.2.2.2.2.2.2.2.1, res.2, x.2.2.2.2.2.2.2.2.2.2.2.2.2.2.2.1, x.2.2.2.2.2.2.2.2.2.2.2.2.2.2.2.2.1, x.2.2.2.2.2.2.2.2.2.2.2.2.2.2.2.2.2)) sz := by
  refine mk_M (by decide +kernel) (Nat.le_of_ble_eq_true rfl) ?_
  intro p e s m below meth c A args Q ls hAe hsz hQ hx hb hr hml hin ha hown hlocks hA hz hzs hst hP hD hS hl
  have hown : s.vm.findClass RX11 = some m.cls := hown
  rw [hAe] at hQ
  subst hsz
  have hP : va_P E.1 vwCl (List.flatten [w_Model E a o x]) s.heap := hP
  have hD : va_D A (List.flatten [w_Model E a o x]) := hD
  have hl : lv_has ls 1 [(0, .ref (a o))] := hl
  generalize hHe : s.heap = H at hP
  have hS : va_S A s.heap H [] := by rw [← hHe]; exact hS
  generalize ([] : List Loc) = locs at hS ⊢
  unfold f_X11_failedCommand at hF
  refine lv_aload_n hx hb dX11_failedCommand_0 rfl (lv_at hl 0 rfl) ?_
  refine va_get (D := E.1) (ci := 13) (v := .int x.2.2.2.2.2.2.2.2.2.1) (C := RX11) (T := TX11) (N := 18) hx hb ha in_X11 hown hst.k hP 0 rfl rfl 9 (by decide) (ha _ mw1645) (fun _ h9 => h9) rfl dX11_failedCommand_1 ?_
  refine lv_iconst (v := (-1)) hx hb dX11_failedCommand_4 (by decide) ?_
  refine lv_icmp_ne (tgt := 16) hx hb dX11_failedCommand_5 (by decide) (fun c5 => ?_) (fun c5 => ?_)
  · have hF := q_brn c5 hF
    refine lv_aload_n hx hb dX11_failedCommand_16 rfl (lv_at hl 0 rfl) ?_
    refine lv_aload_n hx hb dX11_failedCommand_17 rfl (lv_at hl 0 rfl) ?_
    refine va_get (D := E.1) (ci := 13) (v := .int x.2.2.2.2.2.2.2.2.2.1) (C := RX11) (T := TX11) (N := 18) hx hb ha in_X11 hown hst.k hP 0 rfl rfl 9 (by decide) (ha _ mw1645) (fun _ h9 => h9) rfl dX11_failedCommand_18 ?_
    obtain ⟨q1, hq1, hF⟩ := q_bdi hF
    refine cl_i (Lc := [w_Model E a o x]) (Lc' := [w_Model E a o (x.1, x.2.1, x.2.2.1, x.2.2.2.1, x.2.2.2.2.1, x.2.2.2.2.2.1, x.2.2.2.2.2.2.1, x.2.2.2.2.2.2.2.1, x.2.2.2.2.2.2.2.2.1, x.2.2.2.2.2.2.2.2.2.1, x.2.2.2.2.2.2.2.2.2.2.1, x.2.2.2.2.2.2.2.2.2.2.2.1, x.2.2.2.2.2.2.2.2.2.2.2.2.1, x.2.2.2.2.2.2.2.2.2.2.2.2.2.1, q1.2, x.2.2.2.2.2.2.2.2.2.2.2.2.2.2.2.1, x.2.2.2.2.2.2.2.2.2.2.2.2.2.2.2.2.1, x.2.2.2.2.2.2.2.2.2.2.2.2.2.2.2.2.2)]) (L' := [w_Model E a o (x.1, x.2.1, x.2.2.1, x.2.2.2.1, x.2.2.2.2.1, x.2.2.2.2.2.1, x.2.2.2.2.2.2.1, x.2.2.2.2.2.2.2.1, x.2.2.2.2.2.2.2.2.1, x.2.2.2.2.2.2.2.2.2.1, x.2.2.2.2.2.2.2.2.2.2.1, x.2.2.2.2.2.2.2.2.2.2.2.1, x.2.2.2.2.2.2.2.2.2.2.2.2.1, x.2.2.2.2.2.2.2.2.2.2.2.2.2.1, q1.2, x.2.2.2.2.2.2.2.2.2.2.2.2.2.2.2.1, x.2.2.2.2.2.2.2.2.2.2.2.2.2.2.2.2.1, x.2.2.2.2.2.2.2.2.2.2.2.2.2.2.2.2.2)]) (rv := q1.1) (va_runV (As := [.int x.2.2.2.2.2.2.2.2.2.1]) (rest := []) ⟨hx, hb, hml, hown, ha⟩ (k_X11_done l E a o x x.2.2.2.2.2.2.2.2.2.1 q1 hq1 H.size) (cwV 1 ha (gi_V (fun _ h => h) mw1720 mw1722 mw30 mw87 mw1723) rfl rfl rfl hv_X11_done ⟨(Nat.le_of_ble_eq_true rfl), (Nat.le_of_ble_eq_true rfl)⟩) ⟨pre_blind, va_recv hst.k (fr_P hP [0] rfl) (ci := 13) (q0 := 0) rfl rfl, pre_at hP hD hS hz hzs hst [0] (by decide) rfl rfl⟩ rfl rfl hl.1 rfl (lv_room (Nat.le_of_ble_eq_true rfl)) dX11_failedCommand_21 ⟨(Nat.le_of_ble_eq_true rfl), (Nat.le_of_ble_eq_true rfl)⟩) hP hD hS hA [0] (by decide) rfl rfl rfl rfl (fun H locs hP hD hS => ?_)
    obtain rfl := Option.some.inj hF
    exact en_i hQ (Nat.le_of_ble_eq_true rfl) (Nat.le_of_ble_eq_true rfl) hx hb hr hlocks hP hD hS rfl dX11_failedCommand_24
  · have hF := q_brp c5 hF
    refine lv_aload_n hx hb dX11_failedCommand_8 rfl (lv_at hl 0 rfl) ?_
    refine lv_iconst (v := 1) hx hb dX11_failedCommand_9 (by decide) ?_
    obtain ⟨q2, hq2, hF⟩ := q_bdi hF
    refine cl_i (Lc := [w_Model E a o x]) (Lc' := [w_Model E a o (x.1, x.2.1, x.2.2.1, x.2.2.2.1, x.2.2.2.2.1, x.2.2.2.2.2.1, x.2.2.2.2.2.2.1, x.2.2.2.2.2.2.2.1, x.2.2.2.2.2.2.2.2.1, x.2.2.2.2.2.2.2.2.2.1, x.2.2.2.2.2.2.2.2.2.2.1, x.2.2.2.2.2.2.2.2.2.2.2.1, x.2.2.2.2.2.2.2.2.2.2.2.2.1, x.2.2.2.2.2.2.2.2.2.2.2.2.2.1, q2.2, x.2.2.2.2.2.2.2.2.2.2.2.2.2.2.2.1, x.2.2.2.2.2.2.2.2.2.2.2.2.2.2.2.2.1, x.2.2.2.2.2.2.2.2.2.2.2.2.2.2.2.2.2)]) (L' := [w_Model E a o (x.1, x.2.1, x.2.2.1, x.2.2.2.1, x.2.2.2.2.1, x.2.2.2.2.2.1, x.2.2.2.2.2.2.1, x.2.2.2.2.2.2.2.1, x.2.2.2.2.2.2.2.2.1, x.2.2.2.2.2.2.2.2.2.1, x.2.2.2.2.2.2.2.2.2.2.1, x.2.2.2.2.2.2.2.2.2.2.2.1, x.2.2.2.2.2.2.2.2.2.2.2.2.1, x.2.2.2.2.2.2.2.2.2.2.2.2.2.1, q2.2, x.2.2.2.2.2.2.2.2.2.2.2.2.2.2.2.1, x.2.2.2.2.2.2.2.2.2.2.2.2.2.2.2.2.1, x.2.2.2.2.2.2.2.2.2.2.2.2.2.2.2.2.2)]) (rv := q2.1) (va_runV (As := [.int 1]) (rest := []) ⟨hx, hb, hml, hown, ha⟩ (k_X11_fails l E a o x 1 q2 hq2 H.size) (cwV 1 ha (gi_V (fun _ h => h) mw1716 mw1718 mw29 mw87 mw1719) rfl rfl rfl hv_X11_fails ⟨(Nat.le_of_ble_eq_true rfl), (Nat.le_of_ble_eq_true rfl)⟩) ⟨pre_blind, va_recv hst.k (fr_P hP [0] rfl) (ci := 13) (q0 := 0) rfl rfl, pre_at hP hD hS hz hzs hst [0] (by decide) rfl rfl⟩ rfl rfl hl.1 rfl (lv_room (Nat.le_of_ble_eq_true rfl)) dX11_failedCommand_10 ⟨(Nat.le_of_ble_eq_true rfl), (Nat.le_of_ble_eq_true rfl)⟩) hP hD hS hA [0] (by decide) rfl rfl rfl rfl (fun H locs hP hD hS => ?_)
    refine lv_goto (tgt := 24) hx hb dX11_failedCommand_13 (by decide) ?_
    obtain rfl := Option.some.inj hF
    exact en_i hQ (Nat.le_of_ble_eq_true rfl) (Nat.le_of_ble_eq_true rfl) hx hb hr hlocks hP hD hS rfl dX11_failedCommand_24

/-! X11_writes -/
theorem dX11_writes_0 : decode cX11_writes 0 = .ok (.aload_n 0, 1) := by decide +kernel
theorem dX11_writes_1 : decode cX11_writes 1 = .ok (.getfield 33, 3) := by decide +kernel
theorem dX11_writes_4 : decode cX11_writes 4 = .ok (.aload_n 0, 1) := by decide +kernel
theorem dX11_writes_5 : decode cX11_writes 5 = .ok (.getfield 229, 3) := by decide +kernel
theorem dX11_writes_8 : decode cX11_writes 8 = .ok (.iload_n 1, 1) := by decide +kernel
theorem dX11_writes_9 : decode cX11_writes 9 = .ok (.i2c, 1) := by decide +kernel
theorem dX11_writes_10 : decode cX11_writes 10 = .ok (.castore, 1) := by decide +kernel
theorem dX11_writes_11 : decode cX11_writes 11 = .ok (.aload_n 0, 1) := by decide +kernel
theorem dX11_writes_12 : decode cX11_writes 12 = .ok (.dup, 1) := by decide +kernel
theorem dX11_writes_13 : decode cX11_writes 13 = .ok (.getfield 229, 3) := by decide +kernel
theorem dX11_writes_16 : decode cX11_writes 16 = .ok (.iconst 1, 1) := by decide +kernel
theorem dX11_writes_17 : decode cX11_writes 17 = .ok (.iadd, 1) := by decide +kernel
theorem dX11_writes_18 : decode cX11_writes 18 = .ok (.putfield 229, 3) := by decide +kernel
theorem dX11_writes_21 : decode cX11_writes 21 = .ok (.return_, 1) := by decide +kernel
def f_X11_writes (x_letters : (Nat → Int32)) (x_lineLength : Int32) (p1 : Int32) : Option ((Nat → Int32) × Int32) :=
  q_gd (q_in x_lineLength 80) (
  some (upd x_letters (x_lineLength.toNatClampNeg) (vp_nar .char ((p1.toUInt32 % 65536).toInt32)), x_lineLength + 1))
theorem hv_X11_writes : yX11_writes.cls = RX11 ∧ yX11_writes.cls ≠ "java/lang/invoke/MethodHandle" ∧ yX11_writes.cls ≠ "java/lang/invoke/VarHandle" ∧ (parseMethodDescriptor yX11_writes.desc).map (fun d => d.parameters.length) = some 1 := by decide +kernel
abbrev rm_X11_writes : Room := { frames := 0, cells := 0, slots := 0, locals := 0 }
set_option maxHeartbeats 4000000 in
set_option maxRecDepth 100000 in
theorem k_X11_writes (l : Launch) (E : ET) (a : Nat → Nat) (o : Nat) (x : Model_t) (p1 : Int32) (res : (Nat → Int32) × Int32) (hF : f_X11_writes x.2.2.2.2.2.2.2.2.2.2.1 x.2.2.2.2.2.2.2.2.2.2.2.1 p1 = some res) (sz : Nat) : CtV l yX11_writes (mws yX11_writes cX11_writes 2 none) rm_X11_writes 0 0 [.ref (a o), .int p1] E (bl_Model E a o x) (bl_Model E a o (x.1, x.2.1, x.2.2.1, x.2.2.2.1, x.2.2.2.2.1, x.2.2.2.2.2.1, x.2.2.2.2.2.2.1, x.2.2.2.2.2.2.2.1, x.2.2.2.2.2.2.2.2.1, x.2.2.2.2.2.2.2.2.2.1, res.1, res.2, x.2.2.2.2.2.2.2.2.2.2.2.2.1, x.2.2.2.2.2.2.2.2.2.2.2.2.2.1, x.2.2.2.2.2.2.2.2.2.2.2.2.2.2.1, x.2.2.2.2.2.2.2.2.2.2.2.2.2.2.2.1, x.2.2.2.2.2.2.2.2.2.2.2.2.2.2.2.2.1, x.2.2.2.2.2.2.2.2.2.2.2.2.2.2.2.2.2)) sz := by
  refine mk_M (by decide +kernel) (Nat.le_of_ble_eq_true rfl) ?_
  intro p e s m below meth c A args Q ls hAe hsz hQ hx hb hr hml hin ha hown hlocks hA hz hzs hst hP hD hS hl
  have hown : s.vm.findClass RX11 = some m.cls := hown
  rw [hAe] at hQ
  subst hsz
  have hP : va_P E.1 vwCl (List.flatten [w_Model E a o x]) s.heap := hP
  have hD : va_D A (List.flatten [w_Model E a o x]) := hD
  have hl : lv_has ls 2 [(0, .ref (a o)), (1, .int p1)] := hl
  generalize hHe : s.heap = H at hP
  have hS : va_S A s.heap H [] := by rw [← hHe]; exact hS
  generalize ([] : List Loc) = locs at hS ⊢
  unfold f_X11_writes at hF
  refine lv_aload_n hx hb dX11_writes_0 rfl (lv_at hl 0 rfl) ?_
  refine va_get (D := E.1) (ci := 13) (v := .ref (a (o + 6))) (C := RX11) (T := TX11) (N := 18) hx hb ha in_X11 hown hst.k hP 0 rfl rfl 10 (by decide) (ha _ mw1646) (fun _ h9 => h9) rfl dX11_writes_1 ?_
  refine lv_aload_n hx hb dX11_writes_4 rfl (lv_at hl 0 rfl) ?_
  refine va_get (D := E.1) (ci := 13) (v := .int x.2.2.2.2.2.2.2.2.2.2.2.1) (C := RX11) (T := TX11) (N := 18) hx hb ha in_X11 hown hst.k hP 0 rfl rfl 11 (by decide) (ha _ mw1647) (fun _ h9 => h9) rfl dX11_writes_5 ?_
  refine lv_iload_n hx hb dX11_writes_8 rfl (lv_at hl 1 rfl) ?_
  refine lv_i2c hx hb dX11_writes_9 rfl ?_
  obtain ⟨g1, hF⟩ := q_gdi hF
  refine vi_cast hx hb hst.k hP hD hS 6 1 rfl rfl (k := x.2.2.2.2.2.2.2.2.2.2.2.1.toNatClampNeg) rfl g1 dX11_writes_10 (fun H locs hP hD hS => ?_)
  have hP : va_P E.1 vwCl (List.flatten [w_Model E a o (x.1, x.2.1, x.2.2.1, x.2.2.2.1, x.2.2.2.2.1, x.2.2.2.2.2.1, x.2.2.2.2.2.2.1, x.2.2.2.2.2.2.2.1, x.2.2.2.2.2.2.2.2.1, x.2.2.2.2.2.2.2.2.2.1, upd x.2.2.2.2.2.2.2.2.2.2.1 (x.2.2.2.2.2.2.2.2.2.2.2.1.toNatClampNeg) (vp_nar .char ((p1.toUInt32 % 65536).toInt32)), x.2.2.2.2.2.2.2.2.2.2.2.1, x.2.2.2.2.2.2.2.2.2.2.2.2.1, x.2.2.2.2.2.2.2.2.2.2.2.2.2.1, x.2.2.2.2.2.2.2.2.2.2.2.2.2.2.1, x.2.2.2.2.2.2.2.2.2.2.2.2.2.2.2.1, x.2.2.2.2.2.2.2.2.2.2.2.2.2.2.2.2.1, x.2.2.2.2.2.2.2.2.2.2.2.2.2.2.2.2.2)]) H := hP
  have hD : va_D A (List.flatten [w_Model E a o (x.1, x.2.1, x.2.2.1, x.2.2.2.1, x.2.2.2.2.1, x.2.2.2.2.2.1, x.2.2.2.2.2.2.1, x.2.2.2.2.2.2.2.1, x.2.2.2.2.2.2.2.2.1, x.2.2.2.2.2.2.2.2.2.1, upd x.2.2.2.2.2.2.2.2.2.2.1 (x.2.2.2.2.2.2.2.2.2.2.2.1.toNatClampNeg) (vp_nar .char ((p1.toUInt32 % 65536).toInt32)), x.2.2.2.2.2.2.2.2.2.2.2.1, x.2.2.2.2.2.2.2.2.2.2.2.2.1, x.2.2.2.2.2.2.2.2.2.2.2.2.2.1, x.2.2.2.2.2.2.2.2.2.2.2.2.2.2.1, x.2.2.2.2.2.2.2.2.2.2.2.2.2.2.2.1, x.2.2.2.2.2.2.2.2.2.2.2.2.2.2.2.2.1, x.2.2.2.2.2.2.2.2.2.2.2.2.2.2.2.2.2)]) := hD
  refine lv_aload_n hx hb dX11_writes_11 rfl (lv_at hl 0 rfl) ?_
  refine lv_dup hx hb dX11_writes_12 rfl ?_
  refine va_get (D := E.1) (ci := 13) (v := .int x.2.2.2.2.2.2.2.2.2.2.2.1) (C := RX11) (T := TX11) (N := 18) hx hb ha in_X11 hown hst.k hP 0 rfl rfl 11 (by decide) (ha _ mw1647) (fun _ h9 => h9) rfl dX11_writes_13 ?_
  refine lv_iconst (v := 1) hx hb dX11_writes_16 (by decide) ?_
  refine lv_iadd hx hb dX11_writes_17 ?_
  refine va_put (D := E.1) (ci := 13) (v := .int (x.2.2.2.2.2.2.2.2.2.2.2.1 + 1)) (ty := .int) (C := RX11) (T := TX11) (N := 18) hx hb ha in_X11 tyX11 tyX11_ok nmX11 hown hst.k hP hD hS 0 rfl rfl 11 (by decide) (ha _ mw1647) (fun _ h9 => h9) rfl (tyX11_ok 11 (by decide)) rfl rfl (Nat.le_of_ble_eq_true rfl) dX11_writes_18 (fun H locs hP hD hS => ?_)
  have hP : va_P E.1 vwCl (List.flatten [w_Model E a o (x.1, x.2.1, x.2.2.1, x.2.2.2.1, x.2.2.2.2.1, x.2.2.2.2.2.1, x.2.2.2.2.2.2.1, x.2.2.2.2.2.2.2.1, x.2.2.2.2.2.2.2.2.1, x.2.2.2.2.2.2.2.2.2.1, upd x.2.2.2.2.2.2.2.2.2.2.1 (x.2.2.2.2.2.2.2.2.2.2.2.1.toNatClampNeg) (vp_nar .char ((p1.toUInt32 % 65536).toInt32)), x.2.2.2.2.2.2.2.2.2.2.2.1 + 1, x.2.2.2.2.2.2.2.2.2.2.2.2.1, x.2.2.2.2.2.2.2.2.2.2.2.2.2.1, x.2.2.2.2.2.2.2.2.2.2.2.2.2.2.1, x.2.2.2.2.2.2.2.2.2.2.2.2.2.2.2.1, x.2.2.2.2.2.2.2.2.2.2.2.2.2.2.2.2.1, x.2.2.2.2.2.2.2.2.2.2.2.2.2.2.2.2.2)]) H := hP
  have hD : va_D A (List.flatten [w_Model E a o (x.1, x.2.1, x.2.2.1, x.2.2.2.1, x.2.2.2.2.1, x.2.2.2.2.2.1, x.2.2.2.2.2.2.1, x.2.2.2.2.2.2.2.1, x.2.2.2.2.2.2.2.2.1, x.2.2.2.2.2.2.2.2.2.1, upd x.2.2.2.2.2.2.2.2.2.2.1 (x.2.2.2.2.2.2.2.2.2.2.2.1.toNatClampNeg) (vp_nar .char ((p1.toUInt32 % 65536).toInt32)), x.2.2.2.2.2.2.2.2.2.2.2.1 + 1, x.2.2.2.2.2.2.2.2.2.2.2.2.1, x.2.2.2.2.2.2.2.2.2.2.2.2.2.1, x.2.2.2.2.2.2.2.2.2.2.2.2.2.2.1, x.2.2.2.2.2.2.2.2.2.2.2.2.2.2.2.1, x.2.2.2.2.2.2.2.2.2.2.2.2.2.2.2.2.1, x.2.2.2.2.2.2.2.2.2.2.2.2.2.2.2.2.2)]) := hD
  obtain rfl := Option.some.inj hF
  exact en_v hQ (Nat.le_of_ble_eq_true rfl) (Nat.le_of_ble_eq_true rfl) hx hb hr hlocks hP hD hS dX11_writes_21

/-! X11_writesNumber -/
theorem dX11_writesNumber_0 : decode cX11_writesNumber 0 = .ok (.iload_n 1, 1) := by decide +kernel
theorem dX11_writesNumber_1 : decode cX11_writesNumber 1 = .ok (.bipush 9, 2) := by decide +kernel
theorem dX11_writesNumber_3 : decode cX11_writesNumber 3 = .ok (.if_icmp .le 14, 3) := by decide +kernel
theorem dX11_writesNumber_6 : decode cX11_writesNumber 6 = .ok (.aload_n 0, 1) := by decide +kernel
theorem dX11_writesNumber_7 : decode cX11_writesNumber 7 = .ok (.bipush 48, 2) := by decide +kernel
theorem dX11_writesNumber_9 : decode cX11_writesNumber 9 = .ok (.iload_n 1, 1) := by decide +kernel
theorem dX11_writesNumber_10 : decode cX11_writesNumber 10 = .ok (.bipush 10, 2) := by decide +kernel
theorem dX11_writesNumber_12 : decode cX11_writesNumber 12 = .ok (.idiv, 1) := by decide +kernel
theorem dX11_writesNumber_13 : decode cX11_writesNumber 13 = .ok (.iadd, 1) := by decide +kernel
theorem dX11_writesNumber_14 : decode cX11_writesNumber 14 = .ok (.invokevirtual 232, 3) := by decide +kernel
theorem dX11_writesNumber_17 : decode cX11_writesNumber 17 = .ok (.aload_n 0, 1) := by decide +kernel
theorem dX11_writesNumber_18 : decode cX11_writesNumber 18 = .ok (.bipush 48, 2) := by decide +kernel
theorem dX11_writesNumber_20 : decode cX11_writesNumber 20 = .ok (.iload_n 1, 1) := by decide +kernel
theorem dX11_writesNumber_21 : decode cX11_writesNumber 21 = .ok (.bipush 10, 2) := by decide +kernel
theorem dX11_writesNumber_23 : decode cX11_writesNumber 23 = .ok (.irem, 1) := by decide +kernel
theorem dX11_writesNumber_24 : decode cX11_writesNumber 24 = .ok (.iadd, 1) := by decide +kernel
theorem dX11_writesNumber_25 : decode cX11_writesNumber 25 = .ok (.invokevirtual 232, 3) := by decide +kernel
theorem dX11_writesNumber_28 : decode cX11_writesNumber 28 = .ok (.return_, 1) := by decide +kernel
def f_X11_writesNumber (x_letters : (Nat → Int32)) (x_lineLength : Int32) (p1 : Int32) : Option ((Nat → Int32) × Int32) :=
  q_lt (fun (j1 : (Nat → Int32)) (j2 : Int32) =>
  q_bd (f_X11_writes j1 j2 (48 + (p1 - p1 / 10 * 10))) (fun q3 =>
  some (q3.1, q3.2))) (fun (J17 : (Nat → Int32) → Int32 → Option ((Nat → Int32) × Int32)) =>
  q_br (p1 ≤ 9) (
  J17 x_letters x_lineLength) (
  q_bd (f_X11_writes x_letters x_lineLength (48 + (p1 / 10))) (fun q4 =>
  J17 q4.1 q4.2)))
theorem hv_X11_writesNumber : yX11_writesNumber.cls = RX11 ∧ yX11_writesNumber.cls ≠ "java/lang/invoke/MethodHandle" ∧ yX11_writesNumber.cls ≠ "java/lang/invoke/VarHandle" ∧ (parseMethodDescriptor yX11_writesNumber.desc).map (fun d => d.parameters.length) = some 1 := by decide +kernel
abbrev rm_X11_writesNumber : Room := { frames := 1, cells := 0, slots := 0, locals := 21 }
set_option maxHeartbeats 4000000 in
set_option maxRecDepth 100000 in
theorem k_X11_writesNumber (l : Launch) (E : ET) (a : Nat → Nat) (o : Nat) (x : Model_t) (p1 : Int32) (res : (Nat → Int32) × Int32) (hF : f_X11_writesNumber x.2.2.2.2.2.2.2.2.2.2.1 x.2.2.2.2.2.2.2.2.2.2.2.1 p1 = some res) (sz : Nat) : CtV l yX11_writesNumber (mws yX11_writesNumber cX11_writesNumber 2 none) rm_X11_writesNumber 0 0 [.ref (a o), .int p1] E (bl_Model E a o x) (bl_Model E a o (x.1, x.2.1, x.2.2.1, x.2.2.2.1, x.2.2.2.2.1, x.2.2.2.2.2.1, x.2.2.2.2.2.2.1, x.2.2.2.2.2.2.2.1, x.2.2.2.2.2.2.2.2.1, x.2.2.2.2.2.2.2.2.2.1, res.1, res.2, x.2.2.2.2.2.2.2.2.2.2.2.2.1, x.2.2.2.2.2.2.2.2.2.2.2.2.2.1, x.2.2.2.2.2.2.2.2.2.2.2.2.2.2.1, x.2.2.2.2.2.2.2.2.2.2.2.2.2.2.2.1, x.2.2.2.2.2.2.2.2.2.2.2.2.2.2.2.2.1, x.2.2.2.2.2.2.2.2.2.2.2.2.2.2.2.2.2)) sz := by
  refine mk_M (by decide +kernel) (Nat.le_of_ble_eq_true rfl) ?_
  intro p e s m below meth c A args Q ls hAe hsz hQ hx hb hr hml hin ha hown hlocks hA hz hzs hst hP hD hS hl
  have hown : s.vm.findClass RX11 = some m.cls := hown
  rw [hAe] at hQ
  subst hsz
  have hP : va_P E.1 vwCl (List.flatten [w_Model E a o x]) s.heap := hP
  have hD : va_D A (List.flatten [w_Model E a o x]) := hD
  have hl : lv_has ls 2 [(0, .ref (a o)), (1, .int p1)] := hl
  generalize hHe : s.heap = H at hP
  have hS : va_S A s.heap H [] := by rw [← hHe]; exact hS
  generalize ([] : List Loc) = locs at hS ⊢
  unfold f_X11_writesNumber at hF
  refine lv_iload_n hx hb dX11_writesNumber_0 rfl (lv_at hl 1 rfl) ?_
  refine lv_bipush (v := 9) hx hb dX11_writesNumber_1 (by decide) ?_
  obtain ⟨J17, hJ17, hF⟩ := q_jn hF
  have jJ17 : ∀ (j1 : (Nat → Int32)) (j2 : Int32), ∀ (H : Heap) (locs : List Loc) (ls : Array Slot), J17 j1 j2 = some res → va_P E.1 vwCl (List.flatten [w_Model E a o (x.1, x.2.1, x.2.2.1, x.2.2.2.1, x.2.2.2.2.1, x.2.2.2.2.2.1, x.2.2.2.2.2.2.1, x.2.2.2.2.2.2.2.1, x.2.2.2.2.2.2.2.2.1, x.2.2.2.2.2.2.2.2.2.1, j1, j2, x.2.2.2.2.2.2.2.2.2.2.2.2.1, x.2.2.2.2.2.2.2.2.2.2.2.2.2.1, x.2.2.2.2.2.2.2.2.2.2.2.2.2.2.1, x.2.2.2.2.2.2.2.2.2.2.2.2.2.2.2.1, x.2.2.2.2.2.2.2.2.2.2.2.2.2.2.2.2.1, x.2.2.2.2.2.2.2.2.2.2.2.2.2.2.2.2.2)]) H → va_D A (List.flatten [w_Model E a o (x.1, x.2.1, x.2.2.1, x.2.2.2.1, x.2.2.2.2.1, x.2.2.2.2.2.1, x.2.2.2.2.2.2.1, x.2.2.2.2.2.2.2.1, x.2.2.2.2.2.2.2.2.1, x.2.2.2.2.2.2.2.2.2.1, j1, j2, x.2.2.2.2.2.2.2.2.2.2.2.2.1, x.2.2.2.2.2.2.2.2.2.2.2.2.2.1, x.2.2.2.2.2.2.2.2.2.2.2.2.2.2.1, x.2.2.2.2.2.2.2.2.2.2.2.2.2.2.2.1, x.2.2.2.2.2.2.2.2.2.2.2.2.2.2.2.2.1, x.2.2.2.2.2.2.2.2.2.2.2.2.2.2.2.2.2)]) → va_S A s.heap H locs → lv_has ls 2 [(0, .ref (a o)), (1, .int p1)] → W p l e rm_X11_writesNumber s m args below meth c H locs 0 0 Q (F0 m 17 ls []) := by
    intro j1 j2 H locs ls hF hP hD hS hl
    rw [hJ17] at hF
    refine lv_aload_n hx hb dX11_writesNumber_17 rfl (lv_at hl 0 rfl) ?_
    refine lv_bipush (v := 48) hx hb dX11_writesNumber_18 (by decide) ?_
    refine lv_iload_n hx hb dX11_writesNumber_20 rfl (lv_at hl 1 rfl) ?_
    refine lv_bipush (v := 10) hx hb dX11_writesNumber_21 (by decide) ?_
    refine lv_irem hx hb dX11_writesNumber_23 (by decide) ?_
    refine lv_iadd hx hb dX11_writesNumber_24 ?_
    obtain ⟨q3, hq3, hF⟩ := q_bdi hF
    refine cl_v (Lc := [w_Model E a o (x.1, x.2.1, x.2.2.1, x.2.2.2.1, x.2.2.2.2.1, x.2.2.2.2.2.1, x.2.2.2.2.2.2.1, x.2.2.2.2.2.2.2.1, x.2.2.2.2.2.2.2.2.1, x.2.2.2.2.2.2.2.2.2.1, j1, j2, x.2.2.2.2.2.2.2.2.2.2.2.2.1, x.2.2.2.2.2.2.2.2.2.2.2.2.2.1, x.2.2.2.2.2.2.2.2.2.2.2.2.2.2.1, x.2.2.2.2.2.2.2.2.2.2.2.2.2.2.2.1, x.2.2.2.2.2.2.2.2.2.2.2.2.2.2.2.2.1, x.2.2.2.2.2.2.2.2.2.2.2.2.2.2.2.2.2)]) (Lc' := [w_Model E a o (x.1, x.2.1, x.2.2.1, x.2.2.2.1, x.2.2.2.2.1, x.2.2.2.2.2.1, x.2.2.2.2.2.2.1, x.2.2.2.2.2.2.2.1, x.2.2.2.2.2.2.2.2.1, x.2.2.2.2.2.2.2.2.2.1, q3.1, q3.2, x.2.2.2.2.2.2.2.2.2.2.2.2.1, x.2.2.2.2.2.2.2.2.2.2.2.2.2.1, x.2.2.2.2.2.2.2.2.2.2.2.2.2.2.1, x.2.2.2.2.2.2.2.2.2.2.2.2.2.2.2.1, x.2.2.2.2.2.2.2.2.2.2.2.2.2.2.2.2.1, x.2.2.2.2.2.2.2.2.2.2.2.2.2.2.2.2.2)]) (L' := [w_Model E a o (x.1, x.2.1, x.2.2.1, x.2.2.2.1, x.2.2.2.2.1, x.2.2.2.2.2.1, x.2.2.2.2.2.2.1, x.2.2.2.2.2.2.2.1, x.2.2.2.2.2.2.2.2.1, x.2.2.2.2.2.2.2.2.2.1, q3.1, q3.2, x.2.2.2.2.2.2.2.2.2.2.2.2.1, x.2.2.2.2.2.2.2.2.2.2.2.2.2.1, x.2.2.2.2.2.2.2.2.2.2.2.2.2.2.1, x.2.2.2.2.2.2.2.2.2.2.2.2.2.2.2.1, x.2.2.2.2.2.2.2.2.2.2.2.2.2.2.2.2.1, x.2.2.2.2.2.2.2.2.2.2.2.2.2.2.2.2.2)]) (va_runV (As := [.int (48 + (p1 - p1 / 10 * 10))]) (rest := []) ⟨hx, hb, hml, hown, ha⟩ (k_X11_writes l E a o (x.1, x.2.1, x.2.2.1, x.2.2.2.1, x.2.2.2.2.1, x.2.2.2.2.2.1, x.2.2.2.2.2.2.1, x.2.2.2.2.2.2.2.1, x.2.2.2.2.2.2.2.2.1, x.2.2.2.2.2.2.2.2.2.1, j1, j2, x.2.2.2.2.2.2.2.2.2.2.2.2.1, x.2.2.2.2.2.2.2.2.2.2.2.2.2.1, x.2.2.2.2.2.2.2.2.2.2.2.2.2.2.1, x.2.2.2.2.2.2.2.2.2.2.2.2.2.2.2.1, x.2.2.2.2.2.2.2.2.2.2.2.2.2.2.2.2.1, x.2.2.2.2.2.2.2.2.2.2.2.2.2.2.2.2.2) (48 + (p1 - p1 / 10 * 10)) q3 hq3 H.size) (cwV 1 ha (gi_V (fun _ h => h) mw2094 mw2096 mw71 mw87 mw2097) rfl rfl rfl hv_X11_writes ⟨(Nat.le_of_ble_eq_true rfl), (Nat.le_of_ble_eq_true rfl)⟩) ⟨pre_blind, va_recv hst.k (fr_P hP [0] rfl) (ci := 13) (q0 := 0) rfl rfl, pre_at hP hD hS hz hzs hst [0] (by decide) rfl rfl⟩ rfl rfl hl.1 rfl (lv_room (Nat.le_of_ble_eq_true rfl)) dX11_writesNumber_25 ⟨(Nat.le_of_ble_eq_true rfl), (Nat.le_of_ble_eq_true rfl)⟩) hP hD hS hA [0] (by decide) rfl rfl rfl rfl (fun H locs hP hD hS => ?_)
    obtain rfl := Option.some.inj hF
    exact en_v hQ (Nat.le_of_ble_eq_true rfl) (Nat.le_of_ble_eq_true rfl) hx hb hr hlocks hP hD hS dX11_writesNumber_28
  refine lv_icmp_le (tgt := 17) hx hb dX11_writesNumber_3 (by decide) (fun c3 => ?_) (fun c3 => ?_)
  · have hF := q_brp c3 hF
    exact jJ17 x.2.2.2.2.2.2.2.2.2.2.1 x.2.2.2.2.2.2.2.2.2.2.2.1 H locs ls hF hP hD hS (lv_sub hl [0, 1] rfl)
  · have hF := q_brn c3 hF
    refine lv_aload_n hx hb dX11_writesNumber_6 rfl (lv_at hl 0 rfl) ?_
    refine lv_bipush (v := 48) hx hb dX11_writesNumber_7 (by decide) ?_
    refine lv_iload_n hx hb dX11_writesNumber_9 rfl (lv_at hl 1 rfl) ?_
    refine lv_bipush (v := 10) hx hb dX11_writesNumber_10 (by decide) ?_
    refine lv_idiv hx hb dX11_writesNumber_12 (by decide) ?_
    refine lv_iadd hx hb dX11_writesNumber_13 ?_
    obtain ⟨q4, hq4, hF⟩ := q_bdi hF
    refine cl_v (Lc := [w_Model E a o x]) (Lc' := [w_Model E a o (x.1, x.2.1, x.2.2.1, x.2.2.2.1, x.2.2.2.2.1, x.2.2.2.2.2.1, x.2.2.2.2.2.2.1, x.2.2.2.2.2.2.2.1, x.2.2.2.2.2.2.2.2.1, x.2.2.2.2.2.2.2.2.2.1, q4.1, q4.2, x.2.2.2.2.2.2.2.2.2.2.2.2.1, x.2.2.2.2.2.2.2.2.2.2.2.2.2.1, x.2.2.2.2.2.2.2.2.2.2.2.2.2.2.1, x.2.2.2.2.2.2.2.2.2.2.2.2.2.2.2.1, x.2.2.2.2.2.2.2.2.2.2.2.2.2.2.2.2.1, x.2.2.2.2.2.2.2.2.2.2.2.2.2.2.2.2.2)]) (L' := [w_Model E a o (x.1, x.2.1, x.2.2.1, x.2.2.2.1, x.2.2.2.2.1, x.2.2.2.2.2.1, x.2.2.2.2.2.2.1, x.2.2.2.2.2.2.2.1, x.2.2.2.2.2.2.2.2.1, x.2.2.2.2.2.2.2.2.2.1, q4.1, q4.2, x.2.2.2.2.2.2.2.2.2.2.2.2.1, x.2.2.2.2.2.2.2.2.2.2.2.2.2.1, x.2.2.2.2.2.2.2.2.2.2.2.2.2.2.1, x.2.2.2.2.2.2.2.2.2.2.2.2.2.2.2.1, x.2.2.2.2.2.2.2.2.2.2.2.2.2.2.2.2.1, x.2.2.2.2.2.2.2.2.2.2.2.2.2.2.2.2.2)]) (va_runV (As := [.int (48 + (p1 / 10))]) (rest := []) ⟨hx, hb, hml, hown, ha⟩ (k_X11_writes l E a o x (48 + (p1 / 10)) q4 hq4 H.size) (cwV 1 ha (gi_V (fun _ h => h) mw2094 mw2096 mw71 mw87 mw2097) rfl rfl rfl hv_X11_writes ⟨(Nat.le_of_ble_eq_true rfl), (Nat.le_of_ble_eq_true rfl)⟩) ⟨pre_blind, va_recv hst.k (fr_P hP [0] rfl) (ci := 13) (q0 := 0) rfl rfl, pre_at hP hD hS hz hzs hst [0] (by decide) rfl rfl⟩ rfl rfl hl.1 rfl (lv_room (Nat.le_of_ble_eq_true rfl)) dX11_writesNumber_14 ⟨(Nat.le_of_ble_eq_true rfl), (Nat.le_of_ble_eq_true rfl)⟩) hP hD hS hA [0] (by decide) rfl rfl rfl rfl (fun H locs hP hD hS => ?_)
    exact jJ17 q4.1 q4.2 H locs ls hF hP hD hS (lv_sub hl [0, 1] rfl)

/-! X11_writesNote -/
theorem dX11_writesNote_0 : decode cX11_writesNote 0 = .ok (.iload_n 1, 1) := by decide +kernel
theorem dX11_writesNote_1 : decode cX11_writesNote 1 = .ok (.bipush 12, 2) := by decide +kernel
theorem dX11_writesNote_3 : decode cX11_writesNote 3 = .ok (.irem, 1) := by decide +kernel
theorem dX11_writesNote_4 : decode cX11_writesNote 4 = .ok (.istore_n 2, 1) := by decide +kernel
theorem dX11_writesNote_5 : decode cX11_writesNote 5 = .ok (.iload_n 2, 1) := by decide +kernel
theorem dX11_writesNote_6 : decode cX11_writesNote 6 = .ok (.iconst 1, 1) := by decide +kernel
theorem dX11_writesNote_7 : decode cX11_writesNote 7 = .ok (.if_icmp .eq 26, 3) := by decide +kernel
theorem dX11_writesNote_10 : decode cX11_writesNote 10 = .ok (.iload_n 2, 1) := by decide +kernel
theorem dX11_writesNote_11 : decode cX11_writesNote 11 = .ok (.iconst 3, 1) := by decide +kernel
theorem dX11_writesNote_12 : decode cX11_writesNote 12 = .ok (.if_icmp .eq 21, 3) := by decide +kernel
theorem dX11_writesNote_15 : decode cX11_writesNote 15 = .ok (.iload_n 2, 1) := by decide +kernel
theorem dX11_writesNote_16 : decode cX11_writesNote 16 = .ok (.bipush 6, 2) := by decide +kernel
theorem dX11_writesNote_18 : decode cX11_writesNote 18 = .ok (.if_icmp .eq 15, 3) := by decide +kernel
theorem dX11_writesNote_21 : decode cX11_writesNote 21 = .ok (.iload_n 2, 1) := by decide +kernel
theorem dX11_writesNote_22 : decode cX11_writesNote 22 = .ok (.bipush 8, 2) := by decide +kernel
theorem dX11_writesNote_24 : decode cX11_writesNote 24 = .ok (.if_icmp .eq 9, 3) := by decide +kernel
theorem dX11_writesNote_27 : decode cX11_writesNote 27 = .ok (.iload_n 2, 1) := by decide +kernel
theorem dX11_writesNote_28 : decode cX11_writesNote 28 = .ok (.bipush 10, 2) := by decide +kernel
theorem dX11_writesNote_30 : decode cX11_writesNote 30 = .ok (.if_icmp .ne 7, 3) := by decide +kernel
theorem dX11_writesNote_33 : decode cX11_writesNote 33 = .ok (.iconst 1, 1) := by decide +kernel
theorem dX11_writesNote_34 : decode cX11_writesNote 34 = .ok (.goto 4, 3) := by decide +kernel
theorem dX11_writesNote_37 : decode cX11_writesNote 37 = .ok (.iconst 0, 1) := by decide +kernel
theorem dX11_writesNote_38 : decode cX11_writesNote 38 = .ok (.istore_n 3, 1) := by decide +kernel
theorem dX11_writesNote_39 : decode cX11_writesNote 39 = .ok (.iload_n 3, 1) := by decide +kernel
theorem dX11_writesNote_40 : decode cX11_writesNote 40 = .ok (.ifCond .eq 9, 3) := by decide +kernel
theorem dX11_writesNote_43 : decode cX11_writesNote 43 = .ok (.iload_n 2, 1) := by decide +kernel
theorem dX11_writesNote_44 : decode cX11_writesNote 44 = .ok (.iconst 1, 1) := by decide +kernel
theorem dX11_writesNote_45 : decode cX11_writesNote 45 = .ok (.isub, 1) := by decide +kernel
theorem dX11_writesNote_46 : decode cX11_writesNote 46 = .ok (.goto 4, 3) := by decide +kernel
theorem dX11_writesNote_49 : decode cX11_writesNote 49 = .ok (.iload_n 2, 1) := by decide +kernel
theorem dX11_writesNote_50 : decode cX11_writesNote 50 = .ok (.istore 4, 2) := by decide +kernel
theorem dX11_writesNote_52 : decode cX11_writesNote 52 = .ok (.aload_n 0, 1) := by decide +kernel
theorem dX11_writesNote_53 : decode cX11_writesNote 53 = .ok (.iload 4, 2) := by decide +kernel
theorem dX11_writesNote_55 : decode cX11_writesNote 55 = .ok (.ifCond .ne 8, 3) := by decide +kernel
theorem dX11_writesNote_58 : decode cX11_writesNote 58 = .ok (.bipush 67, 2) := by decide +kernel
theorem dX11_writesNote_60 : decode cX11_writesNote 60 = .ok (.goto 62, 3) := by decide +kernel
theorem dX11_writesNote_63 : decode cX11_writesNote 63 = .ok (.iload 4, 2) := by decide +kernel
theorem dX11_writesNote_65 : decode cX11_writesNote 65 = .ok (.iconst 2, 1) := by decide +kernel
theorem dX11_writesNote_66 : decode cX11_writesNote 66 = .ok (.if_icmp .ne 8, 3) := by decide +kernel
theorem dX11_writesNote_69 : decode cX11_writesNote 69 = .ok (.bipush 68, 2) := by decide +kernel
theorem dX11_writesNote_71 : decode cX11_writesNote 71 = .ok (.goto 51, 3) := by decide +kernel
theorem dX11_writesNote_74 : decode cX11_writesNote 74 = .ok (.iload 4, 2) := by decide +kernel
theorem dX11_writesNote_76 : decode cX11_writesNote 76 = .ok (.iconst 4, 1) := by decide +kernel
theorem dX11_writesNote_77 : decode cX11_writesNote 77 = .ok (.if_icmp .ne 8, 3) := by decide +kernel
theorem dX11_writesNote_80 : decode cX11_writesNote 80 = .ok (.bipush 69, 2) := by decide +kernel
theorem dX11_writesNote_82 : decode cX11_writesNote 82 = .ok (.goto 40, 3) := by decide +kernel
theorem dX11_writesNote_85 : decode cX11_writesNote 85 = .ok (.iload 4, 2) := by decide +kernel
theorem dX11_writesNote_87 : decode cX11_writesNote 87 = .ok (.iconst 5, 1) := by decide +kernel
theorem dX11_writesNote_88 : decode cX11_writesNote 88 = .ok (.if_icmp .ne 8, 3) := by decide +kernel
theorem dX11_writesNote_91 : decode cX11_writesNote 91 = .ok (.bipush 70, 2) := by decide +kernel
theorem dX11_writesNote_93 : decode cX11_writesNote 93 = .ok (.goto 29, 3) := by decide +kernel
theorem dX11_writesNote_96 : decode cX11_writesNote 96 = .ok (.iload 4, 2) := by decide +kernel
theorem dX11_writesNote_98 : decode cX11_writesNote 98 = .ok (.bipush 7, 2) := by decide +kernel
theorem dX11_writesNote_100 : decode cX11_writesNote 100 = .ok (.if_icmp .ne 8, 3) := by decide +kernel
theorem dX11_writesNote_103 : decode cX11_writesNote 103 = .ok (.bipush 71, 2) := by decide +kernel
theorem dX11_writesNote_105 : decode cX11_writesNote 105 = .ok (.goto 17, 3) := by decide +kernel
theorem dX11_writesNote_108 : decode cX11_writesNote 108 = .ok (.iload 4, 2) := by decide +kernel
theorem dX11_writesNote_110 : decode cX11_writesNote 110 = .ok (.bipush 9, 2) := by decide +kernel
theorem dX11_writesNote_112 : decode cX11_writesNote 112 = .ok (.if_icmp .ne 8, 3) := by decide +kernel
theorem dX11_writesNote_115 : decode cX11_writesNote 115 = .ok (.bipush 65, 2) := by decide +kernel
theorem dX11_writesNote_117 : decode cX11_writesNote 117 = .ok (.goto 5, 3) := by decide +kernel
theorem dX11_writesNote_120 : decode cX11_writesNote 120 = .ok (.bipush 66, 2) := by decide +kernel
theorem dX11_writesNote_122 : decode cX11_writesNote 122 = .ok (.invokevirtual 232, 3) := by decide +kernel
theorem dX11_writesNote_125 : decode cX11_writesNote 125 = .ok (.iload_n 3, 1) := by decide +kernel
theorem dX11_writesNote_126 : decode cX11_writesNote 126 = .ok (.ifCond .eq 9, 3) := by decide +kernel
theorem dX11_writesNote_129 : decode cX11_writesNote 129 = .ok (.aload_n 0, 1) := by decide +kernel
theorem dX11_writesNote_130 : decode cX11_writesNote 130 = .ok (.bipush 35, 2) := by decide +kernel
theorem dX11_writesNote_132 : decode cX11_writesNote 132 = .ok (.invokevirtual 232, 3) := by decide +kernel
theorem dX11_writesNote_135 : decode cX11_writesNote 135 = .ok (.aload_n 0, 1) := by decide +kernel
theorem dX11_writesNote_136 : decode cX11_writesNote 136 = .ok (.iload_n 1, 1) := by decide +kernel
theorem dX11_writesNote_137 : decode cX11_writesNote 137 = .ok (.bipush 12, 2) := by decide +kernel
theorem dX11_writesNote_139 : decode cX11_writesNote 139 = .ok (.idiv, 1) := by decide +kernel
theorem dX11_writesNote_140 : decode cX11_writesNote 140 = .ok (.iconst 1, 1) := by decide +kernel
theorem dX11_writesNote_141 : decode cX11_writesNote 141 = .ok (.isub, 1) := by decide +kernel
theorem dX11_writesNote_142 : decode cX11_writesNote 142 = .ok (.invokevirtual 235, 3) := by decide +kernel
theorem dX11_writesNote_145 : decode cX11_writesNote 145 = .ok (.return_, 1) := by decide +kernel
def f_X11_writesNote (x_letters : (Nat → Int32)) (x_lineLength : Int32) (p1 : Int32) : Option ((Nat → Int32) × Int32) :=
  q_lt (p1 - p1 / 12 * 12 : Int32) (fun v1 =>
  q_lt (fun (j2 : Int32) =>
  q_lt (fun (j3 : Int32) =>
  q_lt (fun (j4 : Int32) =>
  q_bd (f_X11_writes x_letters x_lineLength j4) (fun q5 =>
  q_lt (fun (j6 : (Nat → Int32)) (j7 : Int32) =>
  q_bd (f_X11_writesNumber j6 j7 ((p1 / 12) - 1)) (fun q8 =>
  some (q8.1, q8.2))) (fun (J135 : (Nat → Int32) → Int32 → Option ((Nat → Int32) × Int32)) =>
  q_br (j2 = 0) (
  J135 q5.1 q5.2) (
  q_bd (f_X11_writes q5.1 q5.2 35) (fun q9 =>
  J135 q9.1 q9.2))))) (fun (J122 : Int32 → Option ((Nat → Int32) × Int32)) =>
  q_br (j3 = 0) (
  J122 67) (
  q_br (j3 = 2) (
  J122 68) (
  q_br (j3 = 4) (
  J122 69) (
  q_br (j3 = 5) (
  J122 70) (
  q_br (j3 = 7) (
  J122 71) (
  q_br (j3 = 9) (
  J122 65) (
  J122 66)))))))) (fun (J50 : Int32 → Option ((Nat → Int32) × Int32)) =>
  q_br (j2 = 0) (
  J50 v1) (
  J50 (v1 - 1)))) (fun (J38 : Int32 → Option ((Nat → Int32) × Int32)) =>
  q_br (v1 = 1) (
  J38 1) (
  q_br (v1 = 3) (
  J38 1) (
  q_br (v1 = 6) (
  J38 1) (
  q_br (v1 = 8) (
  J38 1) (
  q_br (v1 = 10) (
  J38 1) (
  J38 0)))))))
theorem hv_X11_writesNote : yX11_writesNote.cls = RX11 ∧ yX11_writesNote.cls ≠ "java/lang/invoke/MethodHandle" ∧ yX11_writesNote.cls ≠ "java/lang/invoke/VarHandle" ∧ (parseMethodDescriptor yX11_writesNote.desc).map (fun d => d.parameters.length) = some 1 := by decide +kernel
abbrev rm_X11_writesNote : Room := { frames := 2, cells := 0, slots := 0, locals := 42 }
set_option maxHeartbeats 4000000 in
set_option maxRecDepth 100000 in
theorem k_X11_writesNote (l : Launch) (E : ET) (a : Nat → Nat) (o : Nat) (x : Model_t) (p1 : Int32) (res : (Nat → Int32) × Int32) (hF : f_X11_writesNote x.2.2.2.2.2.2.2.2.2.2.1 x.2.2.2.2.2.2.2.2.2.2.2.1 p1 = some res) (sz : Nat) : CtV l yX11_writesNote (mws yX11_writesNote cX11_writesNote 5 none) rm_X11_writesNote 0 0 [.ref (a o), .int p1] E (bl_Model E a o x) (bl_Model E a o (x.1, x.2.1, x.2.2.1, x.2.2.2.1, x.2.2.2.2.1, x.2.2.2.2.2.1, x.2.2.2.2.2.2.1, x.2.2.2.2.2.2.2.1, x.2.2.2.2.2.2.2.2.1, x.2.2.2.2.2.2.2.2.2.1, res.1, res.2, x.2.2.2.2.2.2.2.2.2.2.2.2.1, x.2.2.2.2.2.2.2.2.2.2.2.2.2.1, x.2.2.2.2.2.2.2.2.2.2.2.2.2.2.1, x.2.2.2.2.2.2.2.2.2.2.2.2.2.2.2.1, x.2.2.2.2.2.2.2.2.2.2.2.2.2.2.2.2.1, x.2.2.2.2.2.2.2.2.2.2.2.2.2.2.2.2.2)) sz := by
  refine mk_M (by decide +kernel) (Nat.le_of_ble_eq_true rfl) ?_
  intro p e s m below meth c A args Q ls hAe hsz hQ hx hb hr hml hin ha hown hlocks hA hz hzs hst hP hD hS hl
  have hown : s.vm.findClass RX11 = some m.cls := hown
  rw [hAe] at hQ
  subst hsz
  have hP : va_P E.1 vwCl (List.flatten [w_Model E a o x]) s.heap := hP
  have hD : va_D A (List.flatten [w_Model E a o x]) := hD
  have hl : lv_has ls 5 [(0, .ref (a o)), (1, .int p1)] := hl
  generalize hHe : s.heap = H at hP
  have hS : va_S A s.heap H [] := by rw [← hHe]; exact hS
  generalize ([] : List Loc) = locs at hS ⊢
  unfold f_X11_writesNote at hF
  refine lv_iload_n hx hb dX11_writesNote_0 rfl (lv_at hl 1 rfl) ?_
  refine lv_bipush (v := 12) hx hb dX11_writesNote_1 (by decide) ?_
  refine lv_irem hx hb dX11_writesNote_3 (by decide) ?_
  refine lv_topi (fun v1 ev1 => ?_)
  have hF := q_lti ev1 hF
  refine lv_istore_n (lv' := [(2, .int v1), (0, .ref (a o)), (1, .int p1)]) hx hb dX11_writesNote_4 rfl hl (by decide) rfl (fun ls hl => ?_)
  refine lv_iload_n hx hb dX11_writesNote_5 rfl (lv_at hl 0 rfl) ?_
  refine lv_iconst (v := 1) hx hb dX11_writesNote_6 (by decide) ?_
  obtain ⟨J38, hJ38, hF⟩ := q_jn hF
  have jJ38 : ∀ (j2 : Int32), ∀ (H : Heap) (locs : List Loc) (ls : Array Slot), J38 j2 = some res → va_P E.1 vwCl (List.flatten [w_Model E a o x]) H → va_D A (List.flatten [w_Model E a o x]) → va_S A s.heap H locs → lv_has ls 5 [(2, .int v1), (0, .ref (a o)), (1, .int p1)] → W p l e rm_X11_writesNote s m args below meth c H locs 0 0 Q (F0 m 38 ls [.int j2]) := by
    intro j2 H locs ls hF hP hD hS hl
    rw [hJ38] at hF
    refine lv_istore_n (lv' := [(3, .int j2), (2, .int v1), (0, .ref (a o)), (1, .int p1)]) hx hb dX11_writesNote_38 rfl hl (by decide) rfl (fun ls hl => ?_)
    refine lv_iload_n hx hb dX11_writesNote_39 rfl (lv_at hl 0 rfl) ?_
    obtain ⟨J50, hJ50, hF⟩ := q_jn hF
    have jJ50 : ∀ (j3 : Int32), ∀ (H : Heap) (locs : List Loc) (ls : Array Slot), J50 j3 = some res → va_P E.1 vwCl (List.flatten [w_Model E a o x]) H → va_D A (List.flatten [w_Model E a o x]) → va_S A s.heap H locs → lv_has ls 5 [(3, .int j2), (0, .ref (a o)), (1, .int p1)] → W p l e rm_X11_writesNote s m args below meth c H locs 0 0 Q (F0 m 50 ls [.int j3]) := by
      intro j3 H locs ls hF hP hD hS hl
      rw [hJ50] at hF
      refine lv_istore (lv' := [(4, .int j3), (3, .int j2), (0, .ref (a o)), (1, .int p1)]) hx hb dX11_writesNote_50 hl (by decide) rfl (fun ls hl => ?_)
      refine lv_aload_n hx hb dX11_writesNote_52 rfl (lv_at hl 2 rfl) ?_
      refine lv_iload hx hb dX11_writesNote_53 (lv_at hl 0 rfl) ?_
      obtain ⟨J122, hJ122, hF⟩ := q_jn hF
      have jJ122 : ∀ (j4 : Int32), ∀ (H : Heap) (locs : List Loc) (ls : Array Slot), J122 j4 = some res → va_P E.1 vwCl (List.flatten [w_Model E a o x]) H → va_D A (List.flatten [w_Model E a o x]) → va_S A s.heap H locs → lv_has ls 5 [(3, .int j2), (0, .ref (a o)), (1, .int p1)] → W p l e rm_X11_writesNote s m args below meth c H locs 0 0 Q (F0 m 122 ls [.int j4, .ref (a o)]) := by
        intro j4 H locs ls hF hP hD hS hl
        rw [hJ122] at hF
        obtain ⟨q5, hq5, hF⟩ := q_bdi hF
        refine cl_v (Lc := [w_Model E a o x]) (Lc' := [w_Model E a o (x.1, x.2.1, x.2.2.1, x.2.2.2.1, x.2.2.2.2.1, x.2.2.2.2.2.1, x.2.2.2.2.2.2.1, x.2.2.2.2.2.2.2.1, x.2.2.2.2.2.2.2.2.1, x.2.2.2.2.2.2.2.2.2.1, q5.1, q5.2, x.2.2.2.2.2.2.2.2.2.2.2.2.1, x.2.2.2.2.2.2.2.2.2.2.2.2.2.1, x.2.2.2.2.2.2.2.2.2.2.2.2.2.2.1, x.2.2.2.2.2.2.2.2.2.2.2.2.2.2.2.1, x.2.2.2.2.2.2.2.2.2.2.2.2.2.2.2.2.1, x.2.2.2.2.2.2.2.2.2.2.2.2.2.2.2.2.2)]) (L' := [w_Model E a o (x.1, x.2.1, x.2.2.1, x.2.2.2.1, x.2.2.2.2.1, x.2.2.2.2.2.1, x.2.2.2.2.2.2.1, x.2.2.2.2.2.2.2.1, x.2.2.2.2.2.2.2.2.1, x.2.2.2.2.2.2.2.2.2.1, q5.1, q5.2, x.2.2.2.2.2.2.2.2.2.2.2.2.1, x.2.2.2.2.2.2.2.2.2.2.2.2.2.1, x.2.2.2.2.2.2.2.2.2.2.2.2.2.2.1, x.2.2.2.2.2.2.2.2.2.2.2.2.2.2.2.1, x.2.2.2.2.2.2.2.2.2.2.2.2.2.2.2.2.1, x.2.2.2.2.2.2.2.2.2.2.2.2.2.2.2.2.2)]) (va_runV (As := [.int j4]) (rest := []) ⟨hx, hb, hml, hown, ha⟩ (k_X11_writes l E a o x j4 q5 hq5 H.size) (cwV 1 ha (gi_V (fun _ h => h) mw2094 mw2096 mw71 mw87 mw2097) rfl rfl rfl hv_X11_writes ⟨(Nat.le_of_ble_eq_true rfl), (Nat.le_of_ble_eq_true rfl)⟩) ⟨pre_blind, va_recv hst.k (fr_P hP [0] rfl) (ci := 13) (q0 := 0) rfl rfl, pre_at hP hD hS hz hzs hst [0] (by decide) rfl rfl⟩ rfl rfl hl.1 rfl (lv_room (Nat.le_of_ble_eq_true rfl)) dX11_writesNote_122 ⟨(Nat.le_of_ble_eq_true rfl), (Nat.le_of_ble_eq_true rfl)⟩) hP hD hS hA [0] (by decide) rfl rfl rfl rfl (fun H locs hP hD hS => ?_)
        refine lv_iload_n hx hb dX11_writesNote_125 rfl (lv_at hl 0 rfl) ?_
        obtain ⟨J135, hJ135, hF⟩ := q_jn hF
        have jJ135 : ∀ (j6 : (Nat → Int32)) (j7 : Int32), ∀ (H : Heap) (locs : List Loc) (ls : Array Slot), J135 j6 j7 = some res → va_P E.1 vwCl (List.flatten [w_Model E a o (x.1, x.2.1, x.2.2.1, x.2.2.2.1, x.2.2.2.2.1, x.2.2.2.2.2.1, x.2.2.2.2.2.2.1, x.2.2.2.2.2.2.2.1, x.2.2.2.2.2.2.2.2.1, x.2.2.2.2.2.2.2.2.2.1, j6, j7, x.2.2.2.2.2.2.2.2.2.2.2.2.1, x.2.2.2.2.2.2.2.2.2.2.2.2.2.1, x.2.2.2.2.2.2.2.2.2.2.2.2.2.2.1, x.2.2.2.2.2.2.2.2.2.2.2.2.2.2.2.1, x.2.2.2.2.2.2.2.2.2.2.2.2.2.2.2.2.1, x.2.2.2.2.2.2.2.2.2.2.2.2.2.2.2.2.2)]) H → va_D A (List.flatten [w_Model E a o (x.1, x.2.1, x.2.2.1, x.2.2.2.1, x.2.2.2.2.1, x.2.2.2.2.2.1, x.2.2.2.2.2.2.1, x.2.2.2.2.2.2.2.1, x.2.2.2.2.2.2.2.2.1, x.2.2.2.2.2.2.2.2.2.1, j6, j7, x.2.2.2.2.2.2.2.2.2.2.2.2.1, x.2.2.2.2.2.2.2.2.2.2.2.2.2.1, x.2.2.2.2.2.2.2.2.2.2.2.2.2.2.1, x.2.2.2.2.2.2.2.2.2.2.2.2.2.2.2.1, x.2.2.2.2.2.2.2.2.2.2.2.2.2.2.2.2.1, x.2.2.2.2.2.2.2.2.2.2.2.2.2.2.2.2.2)]) → va_S A s.heap H locs → lv_has ls 5 [(0, .ref (a o)), (1, .int p1)] → W p l e rm_X11_writesNote s m args below meth c H locs 0 0 Q (F0 m 135 ls []) := by
          intro j6 j7 H locs ls hF hP hD hS hl
          rw [hJ135] at hF
          refine lv_aload_n hx hb dX11_writesNote_135 rfl (lv_at hl 0 rfl) ?_
          refine lv_iload_n hx hb dX11_writesNote_136 rfl (lv_at hl 1 rfl) ?_
          refine lv_bipush (v := 12) hx hb dX11_writesNote_137 (by decide) ?_
          refine lv_idiv hx hb dX11_writesNote_139 (by decide) ?_
          refine lv_iconst (v := 1) hx hb dX11_writesNote_140 (by decide) ?_
          refine lv_isub hx hb dX11_writesNote_141 ?_
          obtain ⟨q8, hq8, hF⟩ := q_bdi hF
          refine cl_v (Lc := [w_Model E a o (x.1, x.2.1, x.2.2.1, x.2.2.2.1, x.2.2.2.2.1, x.2.2.2.2.2.1, x.2.2.2.2.2.2.1, x.2.2.2.2.2.2.2.1, x.2.2.2.2.2.2.2.2.1, x.2.2.2.2.2.2.2.2.2.1, j6, j7, x.2.2.2.2.2.2.2.2.2.2.2.2.1, x.2.2.2.2.2.2.2.2.2.2.2.2.2.1, x.2.2.2.2.2.2.2.2.2.2.2.2.2.2.1, x.2.2.2.2.2.2.2.2.2.2.2.2.2.2.2.1, x.2.2.2.2.2.2.2.2.2.2.2.2.2.2.2.2.1, x.2.2.2.2.2.2.2.2.2.2.2.2.2.2.2.2.2)]) (Lc' := [w_Model E a o (x.1, x.2.1, x.2.2.1, x.2.2.2.1, x.2.2.2.2.1, x.2.2.2.2.2.1, x.2.2.2.2.2.2.1, x.2.2.2.2.2.2.2.1, x.2.2.2.2.2.2.2.2.1, x.2.2.2.2.2.2.2.2.2.1, q8.1, q8.2, x.2.2.2.2.2.2.2.2.2.2.2.2.1, x.2.2.2.2.2.2.2.2.2.2.2.2.2.1, x.2.2.2.2.2.2.2.2.2.2.2.2.2.2.1, x.2.2.2.2.2.2.2.2.2.2.2.2.2.2.2.1, x.2.2.2.2.2.2.2.2.2.2.2.2.2.2.2.2.1, x.2.2.2.2.2.2.2.2.2.2.2.2.2.2.2.2.2)]) (L' := [w_Model E a o (x.1, x.2.1, x.2.2.1, x.2.2.2.1, x.2.2.2.2.1, x.2.2.2.2.2.1, x.2.2.2.2.2.2.1, x.2.2.2.2.2.2.2.1, x.2.2.2.2.2.2.2.2.1, x.2.2.2.2.2.2.2.2.2.1, q8.1, q8.2, x.2.2.2.2.2.2.2.2.2.2.2.2.1, x.2.2.2.2.2.2.2.2.2.2.2.2.2.1, x.2.2.2.2.2.2.2.2.2.2.2.2.2.2.1, x.2.2.2.2.2.2.2.2.2.2.2.2.2.2.2.1, x.2.2.2.2.2.2.2.2.2.2.2.2.2.2.2.2.1, x.2.2.2.2.2.2.2.2.2.2.2.2.2.2.2.2.2)]) (va_runV (As := [.int ((p1 / 12) - 1)]) (rest := []) ⟨hx, hb, hml, hown, ha⟩ (k_X11_writesNumber l E a o (x.1, x.2.1, x.2.2.1, x.2.2.2.1, x.2.2.2.2.1, x.2.2.2.2.2.1, x.2.2.2.2.2.2.1, x.2.2.2.2.2.2.2.1, x.2.2.2.2.2.2.2.2.1, x.2.2.2.2.2.2.2.2.2.1, j6, j7, x.2.2.2.2.2.2.2.2.2.2.2.2.1, x.2.2.2.2.2.2.2.2.2.2.2.2.2.1, x.2.2.2.2.2.2.2.2.2.2.2.2.2.2.1, x.2.2.2.2.2.2.2.2.2.2.2.2.2.2.2.1, x.2.2.2.2.2.2.2.2.2.2.2.2.2.2.2.2.1, x.2.2.2.2.2.2.2.2.2.2.2.2.2.2.2.2.2) ((p1 / 12) - 1) q8 hq8 H.size) (cwV 1 ha (gi_V (fun _ h => h) mw2090 mw2092 mw70 mw87 mw2093) rfl rfl rfl hv_X11_writesNumber ⟨(Nat.le_of_ble_eq_true rfl), (Nat.le_of_ble_eq_true rfl)⟩) ⟨pre_blind, va_recv hst.k (fr_P hP [0] rfl) (ci := 13) (q0 := 0) rfl rfl, pre_at hP hD hS hz hzs hst [0] (by decide) rfl rfl⟩ rfl rfl hl.1 rfl (lv_room (Nat.le_of_ble_eq_true rfl)) dX11_writesNote_142 ⟨(Nat.le_of_ble_eq_true rfl), (Nat.le_of_ble_eq_true rfl)⟩) hP hD hS hA [0] (by decide) rfl rfl rfl rfl (fun H locs hP hD hS => ?_)
          obtain rfl := Option.some.inj hF
          exact en_v hQ (Nat.le_of_ble_eq_true rfl) (Nat.le_of_ble_eq_true rfl) hx hb hr hlocks hP hD hS dX11_writesNote_145
        refine lv_if_eq (tgt := 135) hx hb dX11_writesNote_126 (by decide) (fun c126 => ?_) (fun c126 => ?_)
        · have hF := q_brp c126 hF
          exact jJ135 q5.1 q5.2 H locs ls hF hP hD hS (lv_sub hl [1, 2] rfl)
        · have hF := q_brn c126 hF
          refine lv_aload_n hx hb dX11_writesNote_129 rfl (lv_at hl 1 rfl) ?_
          refine lv_bipush (v := 35) hx hb dX11_writesNote_130 (by decide) ?_
          obtain ⟨q9, hq9, hF⟩ := q_bdi hF
          refine cl_v (Lc := [w_Model E a o (x.1, x.2.1, x.2.2.1, x.2.2.2.1, x.2.2.2.2.1, x.2.2.2.2.2.1, x.2.2.2.2.2.2.1, x.2.2.2.2.2.2.2.1, x.2.2.2.2.2.2.2.2.1, x.2.2.2.2.2.2.2.2.2.1, q5.1, q5.2, x.2.2.2.2.2.2.2.2.2.2.2.2.1, x.2.2.2.2.2.2.2.2.2.2.2.2.2.1, x.2.2.2.2.2.2.2.2.2.2.2.2.2.2.1, x.2.2.2.2.2.2.2.2.2.2.2.2.2.2.2.1, x.2.2.2.2.2.2.2.2.2.2.2.2.2.2.2.2.1, x.2.2.2.2.2.2.2.2.2.2.2.2.2.2.2.2.2)]) (Lc' := [w_Model E a o (x.1, x.2.1, x.2.2.1, x.2.2.2.1, x.2.2.2.2.1, x.2.2.2.2.2.1, x.2.2.2.2.2.2.1, x.2.2.2.2.2.2.2.1, x.2.2.2.2.2.2.2.2.1, x.2.2.2.2.2.2.2.2.2.1, q9.1, q9.2, x.2.2.2.2.2.2.2.2.2.2.2.2.1, x.2.2.2.2.2.2.2.2.2.2.2.2.2.1, x.2.2.2.2.2.2.2.2.2.2.2.2.2.2.1, x.2.2.2.2.2.2.2.2.2.2.2.2.2.2.2.1, x.2.2.2.2.2.2.2.2.2.2.2.2.2.2.2.2.1, x.2.2.2.2.2.2.2.2.2.2.2.2.2.2.2.2.2)]) (L' := [w_Model E a o (x.1, x.2.1, x.2.2.1, x.2.2.2.1, x.2.2.2.2.1, x.2.2.2.2.2.1, x.2.2.2.2.2.2.1, x.2.2.2.2.2.2.2.1, x.2.2.2.2.2.2.2.2.1, x.2.2.2.2.2.2.2.2.2.1, q9.1, q9.2, x.2.2.2.2.2.2.2.2.2.2.2.2.1, x.2.2.2.2.2.2.2.2.2.2.2.2.2.1, x.2.2.2.2.2.2.2.2.2.2.2.2.2.2.1, x.2.2.2.2.2.2.2.2.2.2.2.2.2.2.2.1, x.2.2.2.2.2.2.2.2.2.2.2.2.2.2.2.2.1, x.2.2.2.2.2.2.2.2.2.2.2.2.2.2.2.2.2)]) (va_runV (As := [.int 35]) (rest := []) ⟨hx, hb, hml, hown, ha⟩ (k_X11_writes l E a o (x.1, x.2.1, x.2.2.1, x.2.2.2.1, x.2.2.2.2.1, x.2.2.2.2.2.1, x.2.2.2.2.2.2.1, x.2.2.2.2.2.2.2.1, x.2.2.2.2.2.2.2.2.1, x.2.2.2.2.2.2.2.2.2.1, q5.1, q5.2, x.2.2.2.2.2.2.2.2.2.2.2.2.1, x.2.2.2.2.2.2.2.2.2.2.2.2.2.1, x.2.2.2.2.2.2.2.2.2.2.2.2.2.2.1, x.2.2.2.2.2.2.2.2.2.2.2.2.2.2.2.1, x.2.2.2.2.2.2.2.2.2.2.2.2.2.2.2.2.1, x.2.2.2.2.2.2.2.2.2.2.2.2.2.2.2.2.2) 35 q9 hq9 H.size) (cwV 1 ha (gi_V (fun _ h => h) mw2094 mw2096 mw71 mw87 mw2097) rfl rfl rfl hv_X11_writes ⟨(Nat.le_of_ble_eq_true rfl), (Nat.le_of_ble_eq_true rfl)⟩) ⟨pre_blind, va_recv hst.k (fr_P hP [0] rfl) (ci := 13) (q0 := 0) rfl rfl, pre_at hP hD hS hz hzs hst [0] (by decide) rfl rfl⟩ rfl rfl hl.1 rfl (lv_room (Nat.le_of_ble_eq_true rfl)) dX11_writesNote_132 ⟨(Nat.le_of_ble_eq_true rfl), (Nat.le_of_ble_eq_true rfl)⟩) hP hD hS hA [0] (by decide) rfl rfl rfl rfl (fun H locs hP hD hS => ?_)
          exact jJ135 q9.1 q9.2 H locs ls hF hP hD hS (lv_sub hl [1, 2] rfl)
      refine lv_if_ne (tgt := 63) hx hb dX11_writesNote_55 (by decide) (fun c55 => ?_) (fun c55 => ?_)
      · have hF := q_brn c55 hF
        refine lv_iload hx hb dX11_writesNote_63 (lv_at hl 0 rfl) ?_
        refine lv_iconst (v := 2) hx hb dX11_writesNote_65 (by decide) ?_
        refine lv_icmp_ne (tgt := 74) hx hb dX11_writesNote_66 (by decide) (fun c66 => ?_) (fun c66 => ?_)
        · have hF := q_brn c66 hF
          refine lv_iload hx hb dX11_writesNote_74 (lv_at hl 0 rfl) ?_
          refine lv_iconst (v := 4) hx hb dX11_writesNote_76 (by decide) ?_
          refine lv_icmp_ne (tgt := 85) hx hb dX11_writesNote_77 (by decide) (fun c77 => ?_) (fun c77 => ?_)
          · have hF := q_brn c77 hF
            refine lv_iload hx hb dX11_writesNote_85 (lv_at hl 0 rfl) ?_
            refine lv_iconst (v := 5) hx hb dX11_writesNote_87 (by decide) ?_
            refine lv_icmp_ne (tgt := 96) hx hb dX11_writesNote_88 (by decide) (fun c88 => ?_) (fun c88 => ?_)
            · have hF := q_brn c88 hF
              refine lv_iload hx hb dX11_writesNote_96 (lv_at hl 0 rfl) ?_
              refine lv_bipush (v := 7) hx hb dX11_writesNote_98 (by decide) ?_
              refine lv_icmp_ne (tgt := 108) hx hb dX11_writesNote_100 (by decide) (fun c100 => ?_) (fun c100 => ?_)
              · have hF := q_brn c100 hF
                refine lv_iload hx hb dX11_writesNote_108 (lv_at hl 0 rfl) ?_
                refine lv_bipush (v := 9) hx hb dX11_writesNote_110 (by decide) ?_
                refine lv_icmp_ne (tgt := 120) hx hb dX11_writesNote_112 (by decide) (fun c112 => ?_) (fun c112 => ?_)
                · have hF := q_brn c112 hF
                  refine lv_bipush (v := 66) hx hb dX11_writesNote_120 (by decide) ?_
                  exact jJ122 66 H locs ls hF hP hD hS (lv_sub hl [1, 2, 3] rfl)
                · have hF := q_brp c112 hF
                  refine lv_bipush (v := 65) hx hb dX11_writesNote_115 (by decide) ?_
                  refine lv_goto (tgt := 122) hx hb dX11_writesNote_117 (by decide) ?_
                  exact jJ122 65 H locs ls hF hP hD hS (lv_sub hl [1, 2, 3] rfl)
              · have hF := q_brp c100 hF
                refine lv_bipush (v := 71) hx hb dX11_writesNote_103 (by decide) ?_
                refine lv_goto (tgt := 122) hx hb dX11_writesNote_105 (by decide) ?_
                exact jJ122 71 H locs ls hF hP hD hS (lv_sub hl [1, 2, 3] rfl)
            · have hF := q_brp c88 hF
              refine lv_bipush (v := 70) hx hb dX11_writesNote_91 (by decide) ?_
              refine lv_goto (tgt := 122) hx hb dX11_writesNote_93 (by decide) ?_
              exact jJ122 70 H locs ls hF hP hD hS (lv_sub hl [1, 2, 3] rfl)
          · have hF := q_brp c77 hF
            refine lv_bipush (v := 69) hx hb dX11_writesNote_80 (by decide) ?_
            refine lv_goto (tgt := 122) hx hb dX11_writesNote_82 (by decide) ?_
            exact jJ122 69 H locs ls hF hP hD hS (lv_sub hl [1, 2, 3] rfl)
        · have hF := q_brp c66 hF
          refine lv_bipush (v := 68) hx hb dX11_writesNote_69 (by decide) ?_
          refine lv_goto (tgt := 122) hx hb dX11_writesNote_71 (by decide) ?_
          exact jJ122 68 H locs ls hF hP hD hS (lv_sub hl [1, 2, 3] rfl)
      · have hF := q_brp c55 hF
        refine lv_bipush (v := 67) hx hb dX11_writesNote_58 (by decide) ?_
        refine lv_goto (tgt := 122) hx hb dX11_writesNote_60 (by decide) ?_
        exact jJ122 67 H locs ls hF hP hD hS (lv_sub hl [1, 2, 3] rfl)
    refine lv_if_eq (tgt := 49) hx hb dX11_writesNote_40 (by decide) (fun c40 => ?_) (fun c40 => ?_)
    · have hF := q_brp c40 hF
      refine lv_iload_n hx hb dX11_writesNote_49 rfl (lv_at hl 1 rfl) ?_
      exact jJ50 v1 H locs ls hF hP hD hS (lv_sub hl [0, 2, 3] rfl)
    · have hF := q_brn c40 hF
      refine lv_iload_n hx hb dX11_writesNote_43 rfl (lv_at hl 1 rfl) ?_
      refine lv_iconst (v := 1) hx hb dX11_writesNote_44 (by decide) ?_
      refine lv_isub hx hb dX11_writesNote_45 ?_
      refine lv_goto (tgt := 50) hx hb dX11_writesNote_46 (by decide) ?_
      exact jJ50 (v1 - 1) H locs ls hF hP hD hS (lv_sub hl [0, 2, 3] rfl)
  refine lv_icmp_eq (tgt := 33) hx hb dX11_writesNote_7 (by decide) (fun c7 => ?_) (fun c7 => ?_)
  · have hF := q_brp c7 hF
    refine lv_iconst (v := 1) hx hb dX11_writesNote_33 (by decide) ?_
    refine lv_goto (tgt := 38) hx hb dX11_writesNote_34 (by decide) ?_
    exact jJ38 1 H locs ls hF hP hD hS (lv_sub hl [0, 1, 2] rfl)
  · have hF := q_brn c7 hF
    refine lv_iload_n hx hb dX11_writesNote_10 rfl (lv_at hl 0 rfl) ?_
    refine lv_iconst (v := 3) hx hb dX11_writesNote_11 (by decide) ?_
    refine lv_icmp_eq (tgt := 33) hx hb dX11_writesNote_12 (by decide) (fun c12 => ?_) (fun c12 => ?_)
    · have hF := q_brp c12 hF
      refine lv_iconst (v := 1) hx hb dX11_writesNote_33 (by decide) ?_
      refine lv_goto (tgt := 38) hx hb dX11_writesNote_34 (by decide) ?_
      exact jJ38 1 H locs ls hF hP hD hS (lv_sub hl [0, 1, 2] rfl)
    · have hF := q_brn c12 hF
      refine lv_iload_n hx hb dX11_writesNote_15 rfl (lv_at hl 0 rfl) ?_
      refine lv_bipush (v := 6) hx hb dX11_writesNote_16 (by decide) ?_
      refine lv_icmp_eq (tgt := 33) hx hb dX11_writesNote_18 (by decide) (fun c18 => ?_) (fun c18 => ?_)
      · have hF := q_brp c18 hF
        refine lv_iconst (v := 1) hx hb dX11_writesNote_33 (by decide) ?_
        refine lv_goto (tgt := 38) hx hb dX11_writesNote_34 (by decide) ?_
        exact jJ38 1 H locs ls hF hP hD hS (lv_sub hl [0, 1, 2] rfl)
      · have hF := q_brn c18 hF
        refine lv_iload_n hx hb dX11_writesNote_21 rfl (lv_at hl 0 rfl) ?_
        refine lv_bipush (v := 8) hx hb dX11_writesNote_22 (by decide) ?_
        refine lv_icmp_eq (tgt := 33) hx hb dX11_writesNote_24 (by decide) (fun c24 => ?_) (fun c24 => ?_)
        · have hF := q_brp c24 hF
          refine lv_iconst (v := 1) hx hb dX11_writesNote_33 (by decide) ?_
          refine lv_goto (tgt := 38) hx hb dX11_writesNote_34 (by decide) ?_
          exact jJ38 1 H locs ls hF hP hD hS (lv_sub hl [0, 1, 2] rfl)
        · have hF := q_brn c24 hF
          refine lv_iload_n hx hb dX11_writesNote_27 rfl (lv_at hl 0 rfl) ?_
          refine lv_bipush (v := 10) hx hb dX11_writesNote_28 (by decide) ?_
          refine lv_icmp_ne (tgt := 37) hx hb dX11_writesNote_30 (by decide) (fun c30 => ?_) (fun c30 => ?_)
          · have hF := q_brn c30 hF
            refine lv_iconst (v := 0) hx hb dX11_writesNote_37 (by decide) ?_
            exact jJ38 0 H locs ls hF hP hD hS (lv_sub hl [0, 1, 2] rfl)
          · have hF := q_brp c30 hF
            refine lv_iconst (v := 1) hx hb dX11_writesNote_33 (by decide) ?_
            refine lv_goto (tgt := 38) hx hb dX11_writesNote_34 (by decide) ?_
            exact jJ38 1 H locs ls hF hP hD hS (lv_sub hl [0, 1, 2] rfl)

/-! X11_writeBell -/
theorem dX11_writeBell_0 : decode cX11_writeBell 0 = .ok (.aload_n 0, 1) := by decide +kernel
theorem dX11_writeBell_1 : decode cX11_writeBell 1 = .ok (.iload_n 1, 1) := by decide +kernel
theorem dX11_writeBell_2 : decode cX11_writeBell 2 = .ok (.invokevirtual 96, 3) := by decide +kernel
theorem dX11_writeBell_5 : decode cX11_writeBell 5 = .ok (.ifCond .ne 9, 3) := by decide +kernel
theorem dX11_writeBell_8 : decode cX11_writeBell 8 = .ok (.aload_n 0, 1) := by decide +kernel
theorem dX11_writeBell_9 : decode cX11_writeBell 9 = .ok (.iconst 1, 1) := by decide +kernel
theorem dX11_writeBell_10 : decode cX11_writeBell 10 = .ok (.invokevirtual 80, 3) := by decide +kernel
theorem dX11_writeBell_13 : decode cX11_writeBell 13 = .ok (.ireturn, 1) := by decide +kernel
theorem dX11_writeBell_14 : decode cX11_writeBell 14 = .ok (.aload_n 0, 1) := by decide +kernel
theorem dX11_writeBell_15 : decode cX11_writeBell 15 = .ok (.iconst 0, 1) := by decide +kernel
theorem dX11_writeBell_16 : decode cX11_writeBell 16 = .ok (.putfield 229, 3) := by decide +kernel
theorem dX11_writeBell_19 : decode cX11_writeBell 19 = .ok (.aload_n 0, 1) := by decide +kernel
theorem dX11_writeBell_20 : decode cX11_writeBell 20 = .ok (.iload_n 1, 1) := by decide +kernel
theorem dX11_writeBell_21 : decode cX11_writeBell 21 = .ok (.invokevirtual 235, 3) := by decide +kernel
theorem dX11_writeBell_24 : decode cX11_writeBell 24 = .ok (.aload_n 0, 1) := by decide +kernel
theorem dX11_writeBell_25 : decode cX11_writeBell 25 = .ok (.bipush 104, 2) := by decide +kernel
theorem dX11_writeBell_27 : decode cX11_writeBell 27 = .ok (.invokevirtual 232, 3) := by decide +kernel
theorem dX11_writeBell_30 : decode cX11_writeBell 30 = .ok (.aload_n 0, 1) := by decide +kernel
theorem dX11_writeBell_31 : decode cX11_writeBell 31 = .ok (.aload_n 0, 1) := by decide +kernel
theorem dX11_writeBell_32 : decode cX11_writeBell 32 = .ok (.getfield 7, 3) := by decide +kernel
theorem dX11_writeBell_35 : decode cX11_writeBell 35 = .ok (.iconst 5, 1) := by decide +kernel
theorem dX11_writeBell_36 : decode cX11_writeBell 36 = .ok (.iload_n 1, 1) := by decide +kernel
theorem dX11_writeBell_37 : decode cX11_writeBell 37 = .ok (.iadd, 1) := by decide +kernel
theorem dX11_writeBell_38 : decode cX11_writeBell 38 = .ok (.iaload, 1) := by decide +kernel
theorem dX11_writeBell_39 : decode cX11_writeBell 39 = .ok (.invokevirtual 235, 3) := by decide +kernel
theorem dX11_writeBell_42 : decode cX11_writeBell 42 = .ok (.aload_n 0, 1) := by decide +kernel
theorem dX11_writeBell_43 : decode cX11_writeBell 43 = .ok (.bipush 58, 2) := by decide +kernel
theorem dX11_writeBell_45 : decode cX11_writeBell 45 = .ok (.invokevirtual 232, 3) := by decide +kernel
theorem dX11_writeBell_48 : decode cX11_writeBell 48 = .ok (.aload_n 0, 1) := by decide +kernel
theorem dX11_writeBell_49 : decode cX11_writeBell 49 = .ok (.aload_n 0, 1) := by decide +kernel
theorem dX11_writeBell_50 : decode cX11_writeBell 50 = .ok (.iload_n 1, 1) := by decide +kernel
theorem dX11_writeBell_51 : decode cX11_writeBell 51 = .ok (.invokevirtual 60, 3) := by decide +kernel
theorem dX11_writeBell_54 : decode cX11_writeBell 54 = .ok (.invokevirtual 238, 3) := by decide +kernel
theorem dX11_writeBell_57 : decode cX11_writeBell 57 = .ok (.aload_n 0, 1) := by decide +kernel
theorem dX11_writeBell_58 : decode cX11_writeBell 58 = .ok (.iload_n 1, 1) := by decide +kernel
theorem dX11_writeBell_59 : decode cX11_writeBell 59 = .ok (.invokevirtual 67, 3) := by decide +kernel
theorem dX11_writeBell_62 : decode cX11_writeBell 62 = .ok (.istore_n 2, 1) := by decide +kernel
theorem dX11_writeBell_63 : decode cX11_writeBell 63 = .ok (.iload_n 2, 1) := by decide +kernel
theorem dX11_writeBell_64 : decode cX11_writeBell 64 = .ok (.ifCond .eq 26, 3) := by decide +kernel
theorem dX11_writeBell_67 : decode cX11_writeBell 67 = .ok (.aload_n 0, 1) := by decide +kernel
theorem dX11_writeBell_68 : decode cX11_writeBell 68 = .ok (.iload_n 2, 1) := by decide +kernel
theorem dX11_writeBell_69 : decode cX11_writeBell 69 = .ok (.ifCond .le 8, 3) := by decide +kernel
theorem dX11_writeBell_72 : decode cX11_writeBell 72 = .ok (.bipush 43, 2) := by decide +kernel
theorem dX11_writeBell_74 : decode cX11_writeBell 74 = .ok (.goto 5, 3) := by decide +kernel
theorem dX11_writeBell_77 : decode cX11_writeBell 77 = .ok (.bipush 45, 2) := by decide +kernel
theorem dX11_writeBell_79 : decode cX11_writeBell 79 = .ok (.invokevirtual 232, 3) := by decide +kernel
theorem dX11_writeBell_82 : decode cX11_writeBell 82 = .ok (.aload_n 0, 1) := by decide +kernel
theorem dX11_writeBell_83 : decode cX11_writeBell 83 = .ok (.iload_n 2, 1) := by decide +kernel
theorem dX11_writeBell_84 : decode cX11_writeBell 84 = .ok (.invokestatic 70, 3) := by decide +kernel
theorem dX11_writeBell_87 : decode cX11_writeBell 87 = .ok (.invokevirtual 235, 3) := by decide +kernel
theorem dX11_writeBell_90 : decode cX11_writeBell 90 = .ok (.aload_n 0, 1) := by decide +kernel
theorem dX11_writeBell_91 : decode cX11_writeBell 91 = .ok (.iload_n 1, 1) := by decide +kernel
theorem dX11_writeBell_92 : decode cX11_writeBell 92 = .ok (.invokevirtual 111, 3) := by decide +kernel
theorem dX11_writeBell_95 : decode cX11_writeBell 95 = .ok (.ifCond .ne 9, 3) := by decide +kernel
theorem dX11_writeBell_98 : decode cX11_writeBell 98 = .ok (.aload_n 0, 1) := by decide +kernel
theorem dX11_writeBell_99 : decode cX11_writeBell 99 = .ok (.bipush 33, 2) := by decide +kernel
theorem dX11_writeBell_101 : decode cX11_writeBell 101 = .ok (.invokevirtual 232, 3) := by decide +kernel
theorem dX11_writeBell_104 : decode cX11_writeBell 104 = .ok (.aload_n 0, 1) := by decide +kernel
theorem dX11_writeBell_105 : decode cX11_writeBell 105 = .ok (.aload_n 0, 1) := by decide +kernel
theorem dX11_writeBell_106 : decode cX11_writeBell 106 = .ok (.getfield 229, 3) := by decide +kernel
theorem dX11_writeBell_109 : decode cX11_writeBell 109 = .ok (.invokevirtual 83, 3) := by decide +kernel
theorem dX11_writeBell_112 : decode cX11_writeBell 112 = .ok (.ireturn, 1) := by decide +kernel
def f_X11_writeBell (x_g : (Nat → Int32)) (x_letters : (Nat → Int32)) (x_lineLength : Int32) (x_thrown : Int32) (p1 : Int32) : Option (Int32 × (Nat → Int32) × Int32 × Int32) :=
  q_bd (f_X11_isBell x_g p1) (fun q1 =>
  q_br (q1 = 0) (
  q_bd (f_X11_fails x_thrown 1) (fun q21 =>
  some (q21.1, x_letters, x_lineLength, q21.2))) (
  q_bd (f_X11_writesNumber x_letters 0 p1) (fun q2 =>
  q_bd (f_X11_writes q2.1 q2.2 104) (fun q3 =>
  q_gd (q_in (5 + p1) 77) (
  q_bd (f_X11_writesNumber q3.1 q3.2 (x_g ((5 + p1).toNatClampNeg))) (fun q5 =>
  q_bd (f_X11_writes q5.1 q5.2 58) (fun q6 =>
  q_bd (f_X11_noteOf x_g p1) (fun q7 =>
  q_bd (f_X11_writesNote q6.1 q6.2 q7) (fun q8 =>
  q_bd (f_X11_deviationOf x_g p1) (fun q9 =>
  q_lt (fun (j10 : (Nat → Int32)) (j11 : Int32) =>
  q_bd (f_X11_isKeyed x_g p1) (fun q12 =>
  q_lt (fun (j13 : (Nat → Int32)) (j14 : Int32) =>
  q_bd (f_X11_done x_thrown j14) (fun q15 =>
  some (q15.1, j13, j14, q15.2))) (fun (J104 : (Nat → Int32) → Int32 → Option (Int32 × (Nat → Int32) × Int32 × Int32)) =>
  q_br (q12 = 0) (
  q_bd (f_X11_writes j10 j11 33) (fun q16 =>
  J104 q16.1 q16.2)) (
  J104 j10 j11)))) (fun (J90 : (Nat → Int32) → Int32 → Option (Int32 × (Nat → Int32) × Int32 × Int32)) =>
  q_br (q9 = 0) (
  J90 q8.1 q8.2) (
  q_lt (fun (j17 : Int32) =>
  q_bd (f_X11_writes q8.1 q8.2 j17) (fun q18 =>
  q_bd (f_X11_size q9) (fun q19 =>
  q_bd (f_X11_writesNumber q18.1 q18.2 q19) (fun q20 =>
  J90 q20.1 q20.2)))) (fun (J79 : Int32 → Option (Int32 × (Nat → Int32) × Int32 × Int32)) =>
  q_br (q9 ≤ 0) (
  J79 45) (
  J79 43))))))))))))))
theorem hv_X11_writeBell : yX11_writeBell.cls = RX11 ∧ yX11_writeBell.cls ≠ "java/lang/invoke/MethodHandle" ∧ yX11_writeBell.cls ≠ "java/lang/invoke/VarHandle" ∧ (parseMethodDescriptor yX11_writeBell.desc).map (fun d => d.parameters.length) = some 1 := by decide +kernel
abbrev rm_X11_writeBell : Room := { frames := 4, cells := 0, slots := 0, locals := 89 }
set_option maxHeartbeats 4000000 in
set_option maxRecDepth 100000 in
theorem k_X11_writeBell (l : Launch) (E : ET) (a : Nat → Nat) (o : Nat) (x : Model_t) (p1 : Int32) (res : Int32 × (Nat → Int32) × Int32 × Int32) (hF : f_X11_writeBell x.1 x.2.2.2.2.2.2.2.2.2.2.1 x.2.2.2.2.2.2.2.2.2.2.2.1 x.2.2.2.2.2.2.2.2.2.2.2.2.2.2.1 p1 = some res) (sz : Nat) : CtI l yX11_writeBell (mws yX11_writeBell cX11_writeBell 3 (some .int)) rm_X11_writeBell 0 0 [.ref (a o), .int p1] E (bl_Model E a o x) res.1 (bl_Model E a o (x.1, x.2.1, x.2.2.1, x.2.2.2.1, x.2.2.2.2.1, x.2.2.2.2.2.1, x.2.2.2.2.2.2.1, x.2.2.2.2.2.2.2.1, x.2.2.2.2.2.2.2.2.1, x.2.2.2.2.2.2.2.2.2.1, res.2.1, res.2.2.1, x.2.2.2.2.2.2.2.2.2.2.2.2.1, x.2.2.2.2.2.2.2.2.2.2.2.2.2.1, res.2.2.2, x.2.2.2.2.2.2.2.2.2.2.2.2.2.2.2.1, x.2.2.2.2.2.2.2.2.2.2.2.2.2.2.2.2.1, x.2.2.2.2.2.2.2.2.2.2.2.2.2.2.2.2.2)) sz := by
  refine mk_M (by decide +kernel) (Nat.le_of_ble_eq_true rfl) ?_
  intro p e s m below meth c A args Q ls hAe hsz hQ hx hb hr hml hin ha hown hlocks hA hz hzs hst hP hD hS hl
  have hown : s.vm.findClass RX11 = some m.cls := hown
  rw [hAe] at hQ
  subst hsz
  have hP : va_P E.1 vwCl (List.flatten [w_Model E a o x]) s.heap := hP
  have hD : va_D A (List.flatten [w_Model E a o x]) := hD
  have hl : lv_has ls 3 [(0, .ref (a o)), (1, .int p1)] := hl
  generalize hHe : s.heap = H at hP
  have hS : va_S A s.heap H [] := by rw [← hHe]; exact hS
  generalize ([] : List Loc) = locs at hS ⊢
  unfold f_X11_writeBell at hF
  refine lv_aload_n hx hb dX11_writeBell_0 rfl (lv_at hl 0 rfl) ?_
  refine lv_iload_n hx hb dX11_writeBell_1 rfl (lv_at hl 1 rfl) ?_
  obtain ⟨q1, hq1, hF⟩ := q_bdi hF
  refine cl_i (Lc := [w_Model E a o x]) (Lc' := [w_Model E a o x]) (L' := [w_Model E a o x]) (rv := q1) (va_runV (As := [.int p1]) (rest := []) ⟨hx, hb, hml, hown, ha⟩ (k_X11_isBell l E a o x p1 q1 hq1 H.size) (cwV 1 ha (gi_V (fun _ h => h) mw1736 mw1738 mw33 mw87 mw1739) rfl rfl rfl hv_X11_isBell ⟨(Nat.le_of_ble_eq_true rfl), (Nat.le_of_ble_eq_true rfl)⟩) ⟨pre_blind, va_recv hst.k (fr_P hP [0] rfl) (ci := 13) (q0 := 0) rfl rfl, pre_at hP hD hS hz hzs hst [0] (by decide) rfl rfl⟩ rfl rfl hl.1 rfl (lv_room (Nat.le_of_ble_eq_true rfl)) dX11_writeBell_2 ⟨(Nat.le_of_ble_eq_true rfl), (Nat.le_of_ble_eq_true rfl)⟩) hP hD hS hA [0] (by decide) rfl rfl rfl rfl (fun H locs hP hD hS => ?_)
  refine lv_if_ne (tgt := 14) hx hb dX11_writeBell_5 (by decide) (fun c5 => ?_) (fun c5 => ?_)
  · have hF := q_brn c5 hF
    refine lv_aload_n hx hb dX11_writeBell_14 rfl (lv_at hl 0 rfl) ?_
    refine lv_iconst (v := 0) hx hb dX11_writeBell_15 (by decide) ?_
    refine va_put (D := E.1) (ci := 13) (v := .int 0) (ty := .int) (C := RX11) (T := TX11) (N := 18) hx hb ha in_X11 tyX11 tyX11_ok nmX11 hown hst.k hP hD hS 0 rfl rfl 11 (by decide) (ha _ mw1647) (fun _ h9 => h9) rfl (tyX11_ok 11 (by decide)) rfl rfl (Nat.le_of_ble_eq_true rfl) dX11_writeBell_16 (fun H locs hP hD hS => ?_)
    have hP : va_P E.1 vwCl (List.flatten [w_Model E a o (x.1, x.2.1, x.2.2.1, x.2.2.2.1, x.2.2.2.2.1, x.2.2.2.2.2.1, x.2.2.2.2.2.2.1, x.2.2.2.2.2.2.2.1, x.2.2.2.2.2.2.2.2.1, x.2.2.2.2.2.2.2.2.2.1, x.2.2.2.2.2.2.2.2.2.2.1, 0, x.2.2.2.2.2.2.2.2.2.2.2.2.1, x.2.2.2.2.2.2.2.2.2.2.2.2.2.1, x.2.2.2.2.2.2.2.2.2.2.2.2.2.2.1, x.2.2.2.2.2.2.2.2.2.2.2.2.2.2.2.1, x.2.2.2.2.2.2.2.2.2.2.2.2.2.2.2.2.1, x.2.2.2.2.2.2.2.2.2.2.2.2.2.2.2.2.2)]) H := hP
    have hD : va_D A (List.flatten [w_Model E a o (x.1, x.2.1, x.2.2.1, x.2.2.2.1, x.2.2.2.2.1, x.2.2.2.2.2.1, x.2.2.2.2.2.2.1, x.2.2.2.2.2.2.2.1, x.2.2.2.2.2.2.2.2.1, x.2.2.2.2.2.2.2.2.2.1, x.2.2.2.2.2.2.2.2.2.2.1, 0, x.2.2.2.2.2.2.2.2.2.2.2.2.1, x.2.2.2.2.2.2.2.2.2.2.2.2.2.1, x.2.2.2.2.2.2.2.2.2.2.2.2.2.2.1, x.2.2.2.2.2.2.2.2.2.2.2.2.2.2.2.1, x.2.2.2.2.2.2.2.2.2.2.2.2.2.2.2.2.1, x.2.2.2.2.2.2.2.2.2.2.2.2.2.2.2.2.2)]) := hD
    refine lv_aload_n hx hb dX11_writeBell_19 rfl (lv_at hl 0 rfl) ?_
    refine lv_iload_n hx hb dX11_writeBell_20 rfl (lv_at hl 1 rfl) ?_
    obtain ⟨q2, hq2, hF⟩ := q_bdi hF
    refine cl_v (Lc := [w_Model E a o (x.1, x.2.1, x.2.2.1, x.2.2.2.1, x.2.2.2.2.1, x.2.2.2.2.2.1, x.2.2.2.2.2.2.1, x.2.2.2.2.2.2.2.1, x.2.2.2.2.2.2.2.2.1, x.2.2.2.2.2.2.2.2.2.1, x.2.2.2.2.2.2.2.2.2.2.1, 0, x.2.2.2.2.2.2.2.2.2.2.2.2.1, x.2.2.2.2.2.2.2.2.2.2.2.2.2.1, x.2.2.2.2.2.2.2.2.2.2.2.2.2.2.1, x.2.2.2.2.2.2.2.2.2.2.2.2.2.2.2.1, x.2.2.2.2.2.2.2.2.2.2.2.2.2.2.2.2.1, x.2.2.2.2.2.2.2.2.2.2.2.2.2.2.2.2.2)]) (Lc' := [w_Model E a o (x.1, x.2.1, x.2.2.1, x.2.2.2.1, x.2.2.2.2.1, x.2.2.2.2.2.1, x.2.2.2.2.2.2.1, x.2.2.2.2.2.2.2.1, x.2.2.2.2.2.2.2.2.1, x.2.2.2.2.2.2.2.2.2.1, q2.1, q2.2, x.2.2.2.2.2.2.2.2.2.2.2.2.1, x.2.2.2.2.2.2.2.2.2.2.2.2.2.1, x.2.2.2.2.2.2.2.2.2.2.2.2.2.2.1, x.2.2.2.2.2.2.2.2.2.2.2.2.2.2.2.1, x.2.2.2.2.2.2.2.2.2.2.2.2.2.2.2.2.1, x.2.2.2.2.2.2.2.2.2.2.2.2.2.2.2.2.2)]) (L' := [w_Model E a o (x.1, x.2.1, x.2.2.1, x.2.2.2.1, x.2.2.2.2.1, x.2.2.2.2.2.1, x.2.2.2.2.2.2.1, x.2.2.2.2.2.2.2.1, x.2.2.2.2.2.2.2.2.1, x.2.2.2.2.2.2.2.2.2.1, q2.1, q2.2, x.2.2.2.2.2.2.2.2.2.2.2.2.1, x.2.2.2.2.2.2.2.2.2.2.2.2.2.1, x.2.2.2.2.2.2.2.2.2.2.2.2.2.2.1, x.2.2.2.2.2.2.2.2.2.2.2.2.2.2.2.1, x.2.2.2.2.2.2.2.2.2.2.2.2.2.2.2.2.1, x.2.2.2.2.2.2.2.2.2.2.2.2.2.2.2.2.2)]) (va_runV (As := [.int p1]) (rest := []) ⟨hx, hb, hml, hown, ha⟩ (k_X11_writesNumber l E a o (x.1, x.2.1, x.2.2.1, x.2.2.2.1, x.2.2.2.2.1, x.2.2.2.2.2.1, x.2.2.2.2.2.2.1, x.2.2.2.2.2.2.2.1, x.2.2.2.2.2.2.2.2.1, x.2.2.2.2.2.2.2.2.2.1, x.2.2.2.2.2.2.2.2.2.2.1, 0, x.2.2.2.2.2.2.2.2.2.2.2.2.1, x.2.2.2.2.2.2.2.2.2.2.2.2.2.1, x.2.2.2.2.2.2.2.2.2.2.2.2.2.2.1, x.2.2.2.2.2.2.2.2.2.2.2.2.2.2.2.1, x.2.2.2.2.2.2.2.2.2.2.2.2.2.2.2.2.1, x.2.2.2.2.2.2.2.2.2.2.2.2.2.2.2.2.2) p1 q2 hq2 H.size) (cwV 1 ha (gi_V (fun _ h => h) mw2090 mw2092 mw70 mw87 mw2093) rfl rfl rfl hv_X11_writesNumber ⟨(Nat.le_of_ble_eq_true rfl), (Nat.le_of_ble_eq_true rfl)⟩) ⟨pre_blind, va_recv hst.k (fr_P hP [0] rfl) (ci := 13) (q0 := 0) rfl rfl, pre_at hP hD hS hz hzs hst [0] (by decide) rfl rfl⟩ rfl rfl hl.1 rfl (lv_room (Nat.le_of_ble_eq_true rfl)) dX11_writeBell_21 ⟨(Nat.le_of_ble_eq_true rfl), (Nat.le_of_ble_eq_true rfl)⟩) hP hD hS hA [0] (by decide) rfl rfl rfl rfl (fun H locs hP hD hS => ?_)
    refine lv_aload_n hx hb dX11_writeBell_24 rfl (lv_at hl 0 rfl) ?_
    refine lv_bipush (v := 104) hx hb dX11_writeBell_25 (by decide) ?_
    obtain ⟨q3, hq3, hF⟩ := q_bdi hF
    refine cl_v (Lc := [w_Model E a o (x.1, x.2.1, x.2.2.1, x.2.2.2.1, x.2.2.2.2.1, x.2.2.2.2.2.1, x.2.2.2.2.2.2.1, x.2.2.2.2.2.2.2.1, x.2.2.2.2.2.2.2.2.1, x.2.2.2.2.2.2.2.2.2.1, q2.1, q2.2, x.2.2.2.2.2.2.2.2.2.2.2.2.1, x.2.2.2.2.2.2.2.2.2.2.2.2.2.1, x.2.2.2.2.2.2.2.2.2.2.2.2.2.2.1, x.2.2.2.2.2.2.2.2.2.2.2.2.2.2.2.1, x.2.2.2.2.2.2.2.2.2.2.2.2.2.2.2.2.1, x.2.2.2.2.2.2.2.2.2.2.2.2.2.2.2.2.2)]) (Lc' := [w_Model E a o (x.1, x.2.1, x.2.2.1, x.2.2.2.1, x.2.2.2.2.1, x.2.2.2.2.2.1, x.2.2.2.2.2.2.1, x.2.2.2.2.2.2.2.1, x.2.2.2.2.2.2.2.2.1, x.2.2.2.2.2.2.2.2.2.1, q3.1, q3.2, x.2.2.2.2.2.2.2.2.2.2.2.2.1, x.2.2.2.2.2.2.2.2.2.2.2.2.2.1, x.2.2.2.2.2.2.2.2.2.2.2.2.2.2.1, x.2.2.2.2.2.2.2.2.2.2.2.2.2.2.2.1, x.2.2.2.2.2.2.2.2.2.2.2.2.2.2.2.2.1, x.2.2.2.2.2.2.2.2.2.2.2.2.2.2.2.2.2)]) (L' := [w_Model E a o (x.1, x.2.1, x.2.2.1, x.2.2.2.1, x.2.2.2.2.1, x.2.2.2.2.2.1, x.2.2.2.2.2.2.1, x.2.2.2.2.2.2.2.1, x.2.2.2.2.2.2.2.2.1, x.2.2.2.2.2.2.2.2.2.1, q3.1, q3.2, x.2.2.2.2.2.2.2.2.2.2.2.2.1, x.2.2.2.2.2.2.2.2.2.2.2.2.2.1, x.2.2.2.2.2.2.2.2.2.2.2.2.2.2.1, x.2.2.2.2.2.2.2.2.2.2.2.2.2.2.2.1, x.2.2.2.2.2.2.2.2.2.2.2.2.2.2.2.2.1, x.2.2.2.2.2.2.2.2.2.2.2.2.2.2.2.2.2)]) (va_runV (As := [.int 104]) (rest := []) ⟨hx, hb, hml, hown, ha⟩ (k_X11_writes l E a o (x.1, x.2.1, x.2.2.1, x.2.2.2.1, x.2.2.2.2.1, x.2.2.2.2.2.1, x.2.2.2.2.2.2.1, x.2.2.2.2.2.2.2.1, x.2.2.2.2.2.2.2.2.1, x.2.2.2.2.2.2.2.2.2.1, q2.1, q2.2, x.2.2.2.2.2.2.2.2.2.2.2.2.1, x.2.2.2.2.2.2.2.2.2.2.2.2.2.1, x.2.2.2.2.2.2.2.2.2.2.2.2.2.2.1, x.2.2.2.2.2.2.2.2.2.2.2.2.2.2.2.1, x.2.2.2.2.2.2.2.2.2.2.2.2.2.2.2.2.1, x.2.2.2.2.2.2.2.2.2.2.2.2.2.2.2.2.2) 104 q3 hq3 H.size) (cwV 1 ha (gi_V (fun _ h => h) mw2094 mw2096 mw71 mw87 mw2097) rfl rfl rfl hv_X11_writes ⟨(Nat.le_of_ble_eq_true rfl), (Nat.le_of_ble_eq_true rfl)⟩) ⟨pre_blind, va_recv hst.k (fr_P hP [0] rfl) (ci := 13) (q0 := 0) rfl rfl, pre_at hP hD hS hz hzs hst [0] (by decide) rfl rfl⟩ rfl rfl hl.1 rfl (lv_room (Nat.le_of_ble_eq_true rfl)) dX11_writeBell_27 ⟨(Nat.le_of_ble_eq_true rfl), (Nat.le_of_ble_eq_true rfl)⟩) hP hD hS hA [0] (by decide) rfl rfl rfl rfl (fun H locs hP hD hS => ?_)
    refine lv_aload_n hx hb dX11_writeBell_30 rfl (lv_at hl 0 rfl) ?_
    refine lv_aload_n hx hb dX11_writeBell_31 rfl (lv_at hl 0 rfl) ?_
    refine va_get (D := E.1) (ci := 13) (v := .ref (a (o + 1))) (C := RX11) (T := TX11) (N := 18) hx hb ha in_X11 hown hst.k hP 0 rfl rfl 0 (by decide) (ha _ mw1636) (fun _ h9 => h9) rfl dX11_writeBell_32 ?_
    refine lv_iconst (v := 5) hx hb dX11_writeBell_35 (by decide) ?_
    refine lv_iload_n hx hb dX11_writeBell_36 rfl (lv_at hl 1 rfl) ?_
    refine lv_iadd hx hb dX11_writeBell_37 ?_
    obtain ⟨g4, hF⟩ := q_gdi hF
    refine vi_iald hx hb hst.k hP 1 0 rfl rfl (f := x.1) (k := (5 + p1).toNatClampNeg) rfl g4 dX11_writeBell_38 ?_
    obtain ⟨q5, hq5, hF⟩ := q_bdi hF
    refine cl_v (Lc := [w_Model E a o (x.1, x.2.1, x.2.2.1, x.2.2.2.1, x.2.2.2.2.1, x.2.2.2.2.2.1, x.2.2.2.2.2.2.1, x.2.2.2.2.2.2.2.1, x.2.2.2.2.2.2.2.2.1, x.2.2.2.2.2.2.2.2.2.1, q3.1, q3.2, x.2.2.2.2.2.2.2.2.2.2.2.2.1, x.2.2.2.2.2.2.2.2.2.2.2.2.2.1, x.2.2.2.2.2.2.2.2.2.2.2.2.2.2.1, x.2.2.2.2.2.2.2.2.2.2.2.2.2.2.2.1, x.2.2.2.2.2.2.2.2.2.2.2.2.2.2.2.2.1, x.2.2.2.2.2.2.2.2.2.2.2.2.2.2.2.2.2)]) (Lc' := [w_Model E a o (x.1, x.2.1, x.2.2.1, x.2.2.2.1, x.2.2.2.2.1, x.2.2.2.2.2.1, x.2.2.2.2.2.2.1, x.2.2.2.2.2.2.2.1, x.2.2.2.2.2.2.2.2.1, x.2.2.2.2.2.2.2.2.2.1, q5.1, q5.2, x.2.2.2.2.2.2.2.2.2.2.2.2.1, x.2.2.2.2.2.2.2.2.2.2.2.2.2.1, x.2.2.2.2.2.2.2.2.2.2.2.2.2.2.1, x.2.2.2.2.2.2.2.2.2.2.2.2.2.2.2.1, x.2.2.2.2.2.2.2.2.2.2.2.2.2.2.2.2.1, x.2.2.2.2.2.2.2.2.2.2.2.2.2.2.2.2.2)]) (L' := [w_Model E a o (x.1, x.2.1, x.2.2.1, x.2.2.2.1, x.2.2.2.2.1, x.2.2.2.2.2.1, x.2.2.2.2.2.2.1, x.2.2.2.2.2.2.2.1, x.2.2.2.2.2.2.2.2.1, x.2.2.2.2.2.2.2.2.2.1, q5.1, q5.2, x.2.2.2.2.2.2.2.2.2.2.2.2.1, x.2.2.2.2.2.2.2.2.2.2.2.2.2.1, x.2.2.2.2.2.2.2.2.2.2.2.2.2.2.1, x.2.2.2.2.2.2.2.2.2.2.2.2.2.2.2.1, x.2.2.2.2.2.2.2.2.2.2.2.2.2.2.2.2.1, x.2.2.2.2.2.2.2.2.2.2.2.2.2.2.2.2.2)]) (va_runV (As := [.int (x.1 ((5 + p1).toNatClampNeg))]) (rest := []) ⟨hx, hb, hml, hown, ha⟩ (k_X11_writesNumber l E a o (x.1, x.2.1, x.2.2.1, x.2.2.2.1, x.2.2.2.2.1, x.2.2.2.2.2.1, x.2.2.2.2.2.2.1, x.2.2.2.2.2.2.2.1, x.2.2.2.2.2.2.2.2.1, x.2.2.2.2.2.2.2.2.2.1, q3.1, q3.2, x.2.2.2.2.2.2.2.2.2.2.2.2.1, x.2.2.2.2.2.2.2.2.2.2.2.2.2.1, x.2.2.2.2.2.2.2.2.2.2.2.2.2.2.1, x.2.2.2.2.2.2.2.2.2.2.2.2.2.2.2.1, x.2.2.2.2.2.2.2.2.2.2.2.2.2.2.2.2.1, x.2.2.2.2.2.2.2.2.2.2.2.2.2.2.2.2.2) (x.1 ((5 + p1).toNatClampNeg)) q5 hq5 H.size) (cwV 1 ha (gi_V (fun _ h => h) mw2090 mw2092 mw70 mw87 mw2093) rfl rfl rfl hv_X11_writesNumber ⟨(Nat.le_of_ble_eq_true rfl), (Nat.le_of_ble_eq_true rfl)⟩) ⟨pre_blind, va_recv hst.k (fr_P hP [0] rfl) (ci := 13) (q0 := 0) rfl rfl, pre_at hP hD hS hz hzs hst [0] (by decide) rfl rfl⟩ rfl rfl hl.1 rfl (lv_room (Nat.le_of_ble_eq_true rfl)) dX11_writeBell_39 ⟨(Nat.le_of_ble_eq_true rfl), (Nat.le_of_ble_eq_true rfl)⟩) hP hD hS hA [0] (by decide) rfl rfl rfl rfl (fun H locs hP hD hS => ?_)
    refine lv_aload_n hx hb dX11_writeBell_42 rfl (lv_at hl 0 rfl) ?_
    refine lv_bipush (v := 58) hx hb dX11_writeBell_43 (by decide) ?_
    obtain ⟨q6, hq6, hF⟩ := q_bdi hF
    refine cl_v (Lc := [w_Model E a o (x.1, x.2.1, x.2.2.1, x.2.2.2.1, x.2.2.2.2.1, x.2.2.2.2.2.1, x.2.2.2.2.2.2.1, x.2.2.2.2.2.2.2.1, x.2.2.2.2.2.2.2.2.1, x.2.2.2.2.2.2.2.2.2.1, q5.1, q5.2, x.2.2.2.2.2.2.2.2.2.2.2.2.1, x.2.2.2.2.2.2.2.2.2.2.2.2.2.1, x.2.2.2.2.2.2.2.2.2.2.2.2.2.2.1, x.2.2.2.2.2.2.2.2.2.2.2.2.2.2.2.1, x.2.2.2.2.2.2.2.2.2.2.2.2.2.2.2.2.1, x.2.2.2.2.2.2.2.2.2.2.2.2.2.2.2.2.2)]) (Lc' := [w_Model E a o (x.1, x.2.1, x.2.2.1, x.2.2.2.1, x.2.2.2.2.1, x.2.2.2.2.2.1, x.2.2.2.2.2.2.1, x.2.2.2.2.2.2.2.1, x.2.2.2.2.2.2.2.2.1, x.2.2.2.2.2.2.2.2.2.1, q6.1, q6.2, x.2.2.2.2.2.2.2.2.2.2.2.2.1, x.2.2.2.2.2.2.2.2.2.2.2.2.2.1, x.2.2.2.2.2.2.2.2.2.2.2.2.2.2.1, x.2.2.2.2.2.2.2.2.2.2.2.2.2.2.2.1, x.2.2.2.2.2.2.2.2.2.2.2.2.2.2.2.2.1, x.2.2.2.2.2.2.2.2.2.2.2.2.2.2.2.2.2)]) (L' := [w_Model E a o (x.1, x.2.1, x.2.2.1, x.2.2.2.1, x.2.2.2.2.1, x.2.2.2.2.2.1, x.2.2.2.2.2.2.1, x.2.2.2.2.2.2.2.1, x.2.2.2.2.2.2.2.2.1, x.2.2.2.2.2.2.2.2.2.1, q6.1, q6.2, x.2.2.2.2.2.2.2.2.2.2.2.2.1, x.2.2.2.2.2.2.2.2.2.2.2.2.2.1, x.2.2.2.2.2.2.2.2.2.2.2.2.2.2.1, x.2.2.2.2.2.2.2.2.2.2.2.2.2.2.2.1, x.2.2.2.2.2.2.2.2.2.2.2.2.2.2.2.2.1, x.2.2.2.2.2.2.2.2.2.2.2.2.2.2.2.2.2)]) (va_runV (As := [.int 58]) (rest := []) ⟨hx, hb, hml, hown, ha⟩ (k_X11_writes l E a o (x.1, x.2.1, x.2.2.1, x.2.2.2.1, x.2.2.2.2.1, x.2.2.2.2.2.1, x.2.2.2.2.2.2.1, x.2.2.2.2.2.2.2.1, x.2.2.2.2.2.2.2.2.1, x.2.2.2.2.2.2.2.2.2.1, q5.1, q5.2, x.2.2.2.2.2.2.2.2.2.2.2.2.1, x.2.2.2.2.2.2.2.2.2.2.2.2.2.1, x.2.2.2.2.2.2.2.2.2.2.2.2.2.2.1, x.2.2.2.2.2.2.2.2.2.2.2.2.2.2.2.1, x.2.2.2.2.2.2.2.2.2.2.2.2.2.2.2.2.1, x.2.2.2.2.2.2.2.2.2.2.2.2.2.2.2.2.2) 58 q6 hq6 H.size) (cwV 1 ha (gi_V (fun _ h => h) mw2094 mw2096 mw71 mw87 mw2097) rfl rfl rfl hv_X11_writes ⟨(Nat.le_of_ble_eq_true rfl), (Nat.le_of_ble_eq_true rfl)⟩) ⟨pre_blind, va_recv hst.k (fr_P hP [0] rfl) (ci := 13) (q0 := 0) rfl rfl, pre_at hP hD hS hz hzs hst [0] (by decide) rfl rfl⟩ rfl rfl hl.1 rfl (lv_room (Nat.le_of_ble_eq_true rfl)) dX11_writeBell_45 ⟨(Nat.le_of_ble_eq_true rfl), (Nat.le_of_ble_eq_true rfl)⟩) hP hD hS hA [0] (by decide) rfl rfl rfl rfl (fun H locs hP hD hS => ?_)
    refine lv_aload_n hx hb dX11_writeBell_48 rfl (lv_at hl 0 rfl) ?_
    refine lv_aload_n hx hb dX11_writeBell_49 rfl (lv_at hl 0 rfl) ?_
    refine lv_iload_n hx hb dX11_writeBell_50 rfl (lv_at hl 1 rfl) ?_
    obtain ⟨q7, hq7, hF⟩ := q_bdi hF
    refine cl_i (Lc := [w_Model E a o (x.1, x.2.1, x.2.2.1, x.2.2.2.1, x.2.2.2.2.1, x.2.2.2.2.2.1, x.2.2.2.2.2.2.1, x.2.2.2.2.2.2.2.1, x.2.2.2.2.2.2.2.2.1, x.2.2.2.2.2.2.2.2.2.1, q6.1, q6.2, x.2.2.2.2.2.2.2.2.2.2.2.2.1, x.2.2.2.2.2.2.2.2.2.2.2.2.2.1, x.2.2.2.2.2.2.2.2.2.2.2.2.2.2.1, x.2.2.2.2.2.2.2.2.2.2.2.2.2.2.2.1, x.2.2.2.2.2.2.2.2.2.2.2.2.2.2.2.2.1, x.2.2.2.2.2.2.2.2.2.2.2.2.2.2.2.2.2)]) (Lc' := [w_Model E a o (x.1, x.2.1, x.2.2.1, x.2.2.2.1, x.2.2.2.2.1, x.2.2.2.2.2.1, x.2.2.2.2.2.2.1, x.2.2.2.2.2.2.2.1, x.2.2.2.2.2.2.2.2.1, x.2.2.2.2.2.2.2.2.2.1, q6.1, q6.2, x.2.2.2.2.2.2.2.2.2.2.2.2.1, x.2.2.2.2.2.2.2.2.2.2.2.2.2.1, x.2.2.2.2.2.2.2.2.2.2.2.2.2.2.1, x.2.2.2.2.2.2.2.2.2.2.2.2.2.2.2.1, x.2.2.2.2.2.2.2.2.2.2.2.2.2.2.2.2.1, x.2.2.2.2.2.2.2.2.2.2.2.2.2.2.2.2.2)]) (L' := [w_Model E a o (x.1, x.2.1, x.2.2.1, x.2.2.2.1, x.2.2.2.2.1, x.2.2.2.2.2.1, x.2.2.2.2.2.2.1, x.2.2.2.2.2.2.2.1, x.2.2.2.2.2.2.2.2.1, x.2.2.2.2.2.2.2.2.2.1, q6.1, q6.2, x.2.2.2.2.2.2.2.2.2.2.2.2.1, x.2.2.2.2.2.2.2.2.2.2.2.2.2.1, x.2.2.2.2.2.2.2.2.2.2.2.2.2.2.1, x.2.2.2.2.2.2.2.2.2.2.2.2.2.2.2.1, x.2.2.2.2.2.2.2.2.2.2.2.2.2.2.2.2.1, x.2.2.2.2.2.2.2.2.2.2.2.2.2.2.2.2.2)]) (rv := q7) (va_runV (As := [.int p1]) (rest := [.ref (a o)]) ⟨hx, hb, hml, hown, ha⟩ (k_X11_noteOf l E a o (x.1, x.2.1, x.2.2.1, x.2.2.2.1, x.2.2.2.2.1, x.2.2.2.2.2.1, x.2.2.2.2.2.2.1, x.2.2.2.2.2.2.2.1, x.2.2.2.2.2.2.2.2.1, x.2.2.2.2.2.2.2.2.2.1, q6.1, q6.2, x.2.2.2.2.2.2.2.2.2.2.2.2.1, x.2.2.2.2.2.2.2.2.2.2.2.2.2.1, x.2.2.2.2.2.2.2.2.2.2.2.2.2.2.1, x.2.2.2.2.2.2.2.2.2.2.2.2.2.2.2.1, x.2.2.2.2.2.2.2.2.2.2.2.2.2.2.2.2.1, x.2.2.2.2.2.2.2.2.2.2.2.2.2.2.2.2.2) p1 q7 hq7 H.size) (cwV 1 ha (gi_V (fun _ h => h) mw1776 mw1778 mw40 mw87 mw1779) rfl rfl rfl hv_X11_noteOf ⟨(Nat.le_of_ble_eq_true rfl), (Nat.le_of_ble_eq_true rfl)⟩) ⟨pre_blind, va_recv hst.k (fr_P hP [0] rfl) (ci := 13) (q0 := 0) rfl rfl, pre_at hP hD hS hz hzs hst [0] (by decide) rfl rfl⟩ rfl rfl hl.1 rfl (lv_room (Nat.le_of_ble_eq_true rfl)) dX11_writeBell_51 ⟨(Nat.le_of_ble_eq_true rfl), (Nat.le_of_ble_eq_true rfl)⟩) hP hD hS hA [0] (by decide) rfl rfl rfl rfl (fun H locs hP hD hS => ?_)
    obtain ⟨q8, hq8, hF⟩ := q_bdi hF
    refine cl_v (Lc := [w_Model E a o (x.1, x.2.1, x.2.2.1, x.2.2.2.1, x.2.2.2.2.1, x.2.2.2.2.2.1, x.2.2.2.2.2.2.1, x.2.2.2.2.2.2.2.1, x.2.2.2.2.2.2.2.2.1, x.2.2.2.2.2.2.2.2.2.1, q6.1, q6.2, x.2.2.2.2.2.2.2.2.2.2.2.2.1, x.2.2.2.2.2.2.2.2.2.2.2.2.2.1, x.2.2.2.2.2.2.2.2.2.2.2.2.2.2.1, x.2.2.2.2.2.2.2.2.2.2.2.2.2.2.2.1, x.2.2.2.2.2.2.2.2.2.2.2.2.2.2.2.2.1, x.2.2.2.2.2.2.2.2.2.2.2.2.2.2.2.2.2)]) (Lc' := [w_Model E a o (x.1, x.2.1, x.2.2.1, x.2.2.2.1, x.2.2.2.2.1, x.2.2.2.2.2.1, x.2.2.2.2.2.2.1, x.2.2.2.2.2.2.2.1, x.2.2.2.2.2.2.2.2.1, x.2.2.2.2.2.2.2.2.2.1, q8.1, q8.2, x.2.2.2.2.2.2.2.2.2.2.2.2.1, x.2.2.2.2.2.2.2.2.2.2.2.2.2.1, x.2.2.2.2.2.2.2.2.2.2.2.2.2.2.1, x.2.2.2.2.2.2.2.2.2.2.2.2.2.2.2.1, x.2.2.2.2.2.2.2.2.2.2.2.2.2.2.2.2.1, x.2.2.2.2.2.2.2.2.2.2.2.2.2.2.2.2.2)]) (L' := [w_Model E a o (x.1, x.2.1, x.2.2.1, x.2.2.2.1, x.2.2.2.2.1, x.2.2.2.2.2.1, x.2.2.2.2.2.2.1, x.2.2.2.2.2.2.2.1, x.2.2.2.2.2.2.2.2.1, x.2.2.2.2.2.2.2.2.2.1, q8.1, q8.2, x.2.2.2.2.2.2.2.2.2.2.2.2.1, x.2.2.2.2.2.2.2.2.2.2.2.2.2.1, x.2.2.2.2.2.2.2.2.2.2.2.2.2.2.1, x.2.2.2.2.2.2.2.2.2.2.2.2.2.2.2.1, x.2.2.2.2.2.2.2.2.2.2.2.2.2.2.2.2.1, x.2.2.2.2.2.2.2.2.2.2.2.2.2.2.2.2.2)]) (va_runV (As := [.int q7]) (rest := []) ⟨hx, hb, hml, hown, ha⟩ (k_X11_writesNote l E a o (x.1, x.2.1, x.2.2.1, x.2.2.2.1, x.2.2.2.2.1, x.2.2.2.2.2.1, x.2.2.2.2.2.2.1, x.2.2.2.2.2.2.2.1, x.2.2.2.2.2.2.2.2.1, x.2.2.2.2.2.2.2.2.2.1, q6.1, q6.2, x.2.2.2.2.2.2.2.2.2.2.2.2.1, x.2.2.2.2.2.2.2.2.2.2.2.2.2.1, x.2.2.2.2.2.2.2.2.2.2.2.2.2.2.1, x.2.2.2.2.2.2.2.2.2.2.2.2.2.2.2.1, x.2.2.2.2.2.2.2.2.2.2.2.2.2.2.2.2.1, x.2.2.2.2.2.2.2.2.2.2.2.2.2.2.2.2.2) q7 q8 hq8 H.size) (cwV 1 ha (gi_V (fun _ h => h) mw2098 mw2100 mw72 mw87 mw2101) rfl rfl rfl hv_X11_writesNote ⟨(Nat.le_of_ble_eq_true rfl), (Nat.le_of_ble_eq_true rfl)⟩) ⟨pre_blind, va_recv hst.k (fr_P hP [0] rfl) (ci := 13) (q0 := 0) rfl rfl, pre_at hP hD hS hz hzs hst [0] (by decide) rfl rfl⟩ rfl rfl hl.1 rfl (lv_room (Nat.le_of_ble_eq_true rfl)) dX11_writeBell_54 ⟨(Nat.le_of_ble_eq_true rfl), (Nat.le_of_ble_eq_true rfl)⟩) hP hD hS hA [0] (by decide) rfl rfl rfl rfl (fun H locs hP hD hS => ?_)
    refine lv_aload_n hx hb dX11_writeBell_57 rfl (lv_at hl 0 rfl) ?_
    refine lv_iload_n hx hb dX11_writeBell_58 rfl (lv_at hl 1 rfl) ?_
    obtain ⟨q9, hq9, hF⟩ := q_bdi hF
    refine cl_i (Lc := [w_Model E a o (x.1, x.2.1, x.2.2.1, x.2.2.2.1, x.2.2.2.2.1, x.2.2.2.2.2.1, x.2.2.2.2.2.2.1, x.2.2.2.2.2.2.2.1, x.2.2.2.2.2.2.2.2.1, x.2.2.2.2.2.2.2.2.2.1, q8.1, q8.2, x.2.2.2.2.2.2.2.2.2.2.2.2.1, x.2.2.2.2.2.2.2.2.2.2.2.2.2.1, x.2.2.2.2.2.2.2.2.2.2.2.2.2.2.1, x.2.2.2.2.2.2.2.2.2.2.2.2.2.2.2.1, x.2.2.2.2.2.2.2.2.2.2.2.2.2.2.2.2.1, x.2.2.2.2.2.2.2.2.2.2.2.2.2.2.2.2.2)]) (Lc' := [w_Model E a o (x.1, x.2.1, x.2.2.1, x.2.2.2.1, x.2.2.2.2.1, x.2.2.2.2.2.1, x.2.2.2.2.2.2.1, x.2.2.2.2.2.2.2.1, x.2.2.2.2.2.2.2.2.1, x.2.2.2.2.2.2.2.2.2.1, q8.1, q8.2, x.2.2.2.2.2.2.2.2.2.2.2.2.1, x.2.2.2.2.2.2.2.2.2.2.2.2.2.1, x.2.2.2.2.2.2.2.2.2.2.2.2.2.2.1, x.2.2.2.2.2.2.2.2.2.2.2.2.2.2.2.1, x.2.2.2.2.2.2.2.2.2.2.2.2.2.2.2.2.1, x.2.2.2.2.2.2.2.2.2.2.2.2.2.2.2.2.2)]) (L' := [w_Model E a o (x.1, x.2.1, x.2.2.1, x.2.2.2.1, x.2.2.2.2.1, x.2.2.2.2.2.1, x.2.2.2.2.2.2.1, x.2.2.2.2.2.2.2.1, x.2.2.2.2.2.2.2.2.1, x.2.2.2.2.2.2.2.2.2.1, q8.1, q8.2, x.2.2.2.2.2.2.2.2.2.2.2.2.1, x.2.2.2.2.2.2.2.2.2.2.2.2.2.1, x.2.2.2.2.2.2.2.2.2.2.2.2.2.2.1, x.2.2.2.2.2.2.2.2.2.2.2.2.2.2.2.1, x.2.2.2.2.2.2.2.2.2.2.2.2.2.2.2.2.1, x.2.2.2.2.2.2.2.2.2.2.2.2.2.2.2.2.2)]) (rv := q9) (va_runV (As := [.int p1]) (rest := []) ⟨hx, hb, hml, hown, ha⟩ (k_X11_deviationOf l E a o (x.1, x.2.1, x.2.2.1, x.2.2.2.1, x.2.2.2.2.1, x.2.2.2.2.2.1, x.2.2.2.2.2.2.1, x.2.2.2.2.2.2.2.1, x.2.2.2.2.2.2.2.2.1, x.2.2.2.2.2.2.2.2.2.1, q8.1, q8.2, x.2.2.2.2.2.2.2.2.2.2.2.2.1, x.2.2.2.2.2.2.2.2.2.2.2.2.2.1, x.2.2.2.2.2.2.2.2.2.2.2.2.2.2.1, x.2.2.2.2.2.2.2.2.2.2.2.2.2.2.2.1, x.2.2.2.2.2.2.2.2.2.2.2.2.2.2.2.2.1, x.2.2.2.2.2.2.2.2.2.2.2.2.2.2.2.2.2) p1 q9 hq9 H.size) (cwV 1 ha (gi_V (fun _ h => h) mw1786 mw1788 mw41 mw87 mw1789) rfl rfl rfl hv_X11_deviationOf ⟨(Nat.le_of_ble_eq_true rfl), (Nat.le_of_ble_eq_true rfl)⟩) ⟨pre_blind, va_recv hst.k (fr_P hP [0] rfl) (ci := 13) (q0 := 0) rfl rfl, pre_at hP hD hS hz hzs hst [0] (by decide) rfl rfl⟩ rfl rfl hl.1 rfl (lv_room (Nat.le_of_ble_eq_true rfl)) dX11_writeBell_59 ⟨(Nat.le_of_ble_eq_true rfl), (Nat.le_of_ble_eq_true rfl)⟩) hP hD hS hA [0] (by decide) rfl rfl rfl rfl (fun H locs hP hD hS => ?_)
    refine lv_istore_n (lv' := [(2, .int q9), (0, .ref (a o)), (1, .int p1)]) hx hb dX11_writeBell_62 rfl hl (by decide) rfl (fun ls hl => ?_)
    refine lv_iload_n hx hb dX11_writeBell_63 rfl (lv_at hl 0 rfl) ?_
    obtain ⟨J90, hJ90, hF⟩ := q_jn hF
    have jJ90 : ∀ (j10 : (Nat → Int32)) (j11 : Int32), ∀ (H : Heap) (locs : List Loc) (ls : Array Slot), J90 j10 j11 = some res → va_P E.1 vwCl (List.flatten [w_Model E a o (x.1, x.2.1, x.2.2.1, x.2.2.2.1, x.2.2.2.2.1, x.2.2.2.2.2.1, x.2.2.2.2.2.2.1, x.2.2.2.2.2.2.2.1, x.2.2.2.2.2.2.2.2.1, x.2.2.2.2.2.2.2.2.2.1, j10, j11, x.2.2.2.2.2.2.2.2.2.2.2.2.1, x.2.2.2.2.2.2.2.2.2.2.2.2.2.1, x.2.2.2.2.2.2.2.2.2.2.2.2.2.2.1, x.2.2.2.2.2.2.2.2.2.2.2.2.2.2.2.1, x.2.2.2.2.2.2.2.2.2.2.2.2.2.2.2.2.1, x.2.2.2.2.2.2.2.2.2.2.2.2.2.2.2.2.2)]) H → va_D A (List.flatten [w_Model E a o (x.1, x.2.1, x.2.2.1, x.2.2.2.1, x.2.2.2.2.1, x.2.2.2.2.2.1, x.2.2.2.2.2.2.1, x.2.2.2.2.2.2.2.1, x.2.2.2.2.2.2.2.2.1, x.2.2.2.2.2.2.2.2.2.1, j10, j11, x.2.2.2.2.2.2.2.2.2.2.2.2.1, x.2.2.2.2.2.2.2.2.2.2.2.2.2.1, x.2.2.2.2.2.2.2.2.2.2.2.2.2.2.1, x.2.2.2.2.2.2.2.2.2.2.2.2.2.2.2.1, x.2.2.2.2.2.2.2.2.2.2.2.2.2.2.2.2.1, x.2.2.2.2.2.2.2.2.2.2.2.2.2.2.2.2.2)]) → va_S A s.heap H locs → lv_has ls 3 [(0, .ref (a o)), (1, .int p1)] → W p l e rm_X11_writeBell s m args below meth c H locs 0 0 Q (F0 m 90 ls []) := by
      intro j10 j11 H locs ls hF hP hD hS hl
      rw [hJ90] at hF
      refine lv_aload_n hx hb dX11_writeBell_90 rfl (lv_at hl 0 rfl) ?_
      refine lv_iload_n hx hb dX11_writeBell_91 rfl (lv_at hl 1 rfl) ?_
      obtain ⟨q12, hq12, hF⟩ := q_bdi hF
      refine cl_i (Lc := [w_Model E a o (x.1, x.2.1, x.2.2.1, x.2.2.2.1, x.2.2.2.2.1, x.2.2.2.2.2.1, x.2.2.2.2.2.2.1, x.2.2.2.2.2.2.2.1, x.2.2.2.2.2.2.2.2.1, x.2.2.2.2.2.2.2.2.2.1, j10, j11, x.2.2.2.2.2.2.2.2.2.2.2.2.1, x.2.2.2.2.2.2.2.2.2.2.2.2.2.1, x.2.2.2.2.2.2.2.2.2.2.2.2.2.2.1, x.2.2.2.2.2.2.2.2.2.2.2.2.2.2.2.1, x.2.2.2.2.2.2.2.2.2.2.2.2.2.2.2.2.1, x.2.2.2.2.2.2.2.2.2.2.2.2.2.2.2.2.2)]) (Lc' := [w_Model E a o (x.1, x.2.1, x.2.2.1, x.2.2.2.1, x.2.2.2.2.1, x.2.2.2.2.2.1, x.2.2.2.2.2.2.1, x.2.2.2.2.2.2.2.1, x.2.2.2.2.2.2.2.2.1, x.2.2.2.2.2.2.2.2.2.1, j10, j11, x.2.2.2.2.2.2.2.2.2.2.2.2.1, x.2.2.2.2.2.2.2.2.2.2.2.2.2.1, x.2.2.2.2.2.2.2.2.2.2.2.2.2.2.1, x.2.2.2.2.2.2.2.2.2.2.2.2.2.2.2.1, x.2.2.2.2.2.2.2.2.2.2.2.2.2.2.2.2.1, x.2.2.2.2.2.2.2.2.2.2.2.2.2.2.2.2.2)]) (L' := [w_Model E a o (x.1, x.2.1, x.2.2.1, x.2.2.2.1, x.2.2.2.2.1, x.2.2.2.2.2.1, x.2.2.2.2.2.2.1, x.2.2.2.2.2.2.2.1, x.2.2.2.2.2.2.2.2.1, x.2.2.2.2.2.2.2.2.2.1, j10, j11, x.2.2.2.2.2.2.2.2.2.2.2.2.1, x.2.2.2.2.2.2.2.2.2.2.2.2.2.1, x.2.2.2.2.2.2.2.2.2.2.2.2.2.2.1, x.2.2.2.2.2.2.2.2.2.2.2.2.2.2.2.1, x.2.2.2.2.2.2.2.2.2.2.2.2.2.2.2.2.1, x.2.2.2.2.2.2.2.2.2.2.2.2.2.2.2.2.2)]) (rv := q12) (va_runV (As := [.int p1]) (rest := []) ⟨hx, hb, hml, hown, ha⟩ (k_X11_isKeyed l E a o (x.1, x.2.1, x.2.2.1, x.2.2.2.1, x.2.2.2.2.1, x.2.2.2.2.2.1, x.2.2.2.2.2.2.1, x.2.2.2.2.2.2.2.1, x.2.2.2.2.2.2.2.2.1, x.2.2.2.2.2.2.2.2.2.1, j10, j11, x.2.2.2.2.2.2.2.2.2.2.2.2.1, x.2.2.2.2.2.2.2.2.2.2.2.2.2.1, x.2.2.2.2.2.2.2.2.2.2.2.2.2.2.1, x.2.2.2.2.2.2.2.2.2.2.2.2.2.2.2.1, x.2.2.2.2.2.2.2.2.2.2.2.2.2.2.2.2.1, x.2.2.2.2.2.2.2.2.2.2.2.2.2.2.2.2.2) p1 q12 hq12 H.size) (cwV 1 ha (gi_V (fun _ h => h) mw1768 mw1770 mw38 mw87 mw1771) rfl rfl rfl hv_X11_isKeyed ⟨(Nat.le_of_ble_eq_true rfl), (Nat.le_of_ble_eq_true rfl)⟩) ⟨pre_blind, va_recv hst.k (fr_P hP [0] rfl) (ci := 13) (q0 := 0) rfl rfl, pre_at hP hD hS hz hzs hst [0] (by decide) rfl rfl⟩ rfl rfl hl.1 rfl (lv_room (Nat.le_of_ble_eq_true rfl)) dX11_writeBell_92 ⟨(Nat.le_of_ble_eq_true rfl), (Nat.le_of_ble_eq_true rfl)⟩) hP hD hS hA [0] (by decide) rfl rfl rfl rfl (fun H locs hP hD hS => ?_)
      obtain ⟨J104, hJ104, hF⟩ := q_jn hF
      have jJ104 : ∀ (j13 : (Nat → Int32)) (j14 : Int32), ∀ (H : Heap) (locs : List Loc) (ls : Array Slot), J104 j13 j14 = some res → va_P E.1 vwCl (List.flatten [w_Model E a o (x.1, x.2.1, x.2.2.1, x.2.2.2.1, x.2.2.2.2.1, x.2.2.2.2.2.1, x.2.2.2.2.2.2.1, x.2.2.2.2.2.2.2.1, x.2.2.2.2.2.2.2.2.1, x.2.2.2.2.2.2.2.2.2.1, j13, j14, x.2.2.2.2.2.2.2.2.2.2.2.2.1, x.2.2.2.2.2.2.2.2.2.2.2.2.2.1, x.2.2.2.2.2.2.2.2.2.2.2.2.2.2.1, x.2.2.2.2.2.2.2.2.2.2.2.2.2.2.2.1, x.2.2.2.2.2.2.2.2.2.2.2.2.2.2.2.2.1, x.2.2.2.2.2.2.2.2.2.2.2.2.2.2.2.2.2)]) H → va_D A (List.flatten [w_Model E a o (x.1, x.2.1, x.2.2.1, x.2.2.2.1, x.2.2.2.2.1, x.2.2.2.2.2.1, x.2.2.2.2.2.2.1, x.2.2.2.2.2.2.2.1, x.2.2.2.2.2.2.2.2.1, x.2.2.2.2.2.2.2.2.2.1, j13, j14, x.2.2.2.2.2.2.2.2.2.2.2.2.1, x.2.2.2.2.2.2.2.2.2.2.2.2.2.1, x.2.2.2.2.2.2.2.2.2.2.2.2.2.2.1, x.2.2.2.2.2.2.2.2.2.2.2.2.2.2.2.1, x.2.2.2.2.2.2.2.2.2.2.2.2.2.2.2.2.1, x.2.2.2.2.2.2.2.2.2.2.2.2.2.2.2.2.2)]) → va_S A s.heap H locs → lv_has ls 3 [(0, .ref (a o))] → W p l e rm_X11_writeBell s m args below meth c H locs 0 0 Q (F0 m 104 ls []) := by
        intro j13 j14 H locs ls hF hP hD hS hl
        rw [hJ104] at hF
        refine lv_aload_n hx hb dX11_writeBell_104 rfl (lv_at hl 0 rfl) ?_
        refine lv_aload_n hx hb dX11_writeBell_105 rfl (lv_at hl 0 rfl) ?_
        refine va_get (D := E.1) (ci := 13) (v := .int j14) (C := RX11) (T := TX11) (N := 18) hx hb ha in_X11 hown hst.k hP 0 rfl rfl 11 (by decide) (ha _ mw1647) (fun _ h9 => h9) rfl dX11_writeBell_106 ?_
        obtain ⟨q15, hq15, hF⟩ := q_bdi hF
        refine cl_i (Lc := [w_Model E a o (x.1, x.2.1, x.2.2.1, x.2.2.2.1, x.2.2.2.2.1, x.2.2.2.2.2.1, x.2.2.2.2.2.2.1, x.2.2.2.2.2.2.2.1, x.2.2.2.2.2.2.2.2.1, x.2.2.2.2.2.2.2.2.2.1, j13, j14, x.2.2.2.2.2.2.2.2.2.2.2.2.1, x.2.2.2.2.2.2.2.2.2.2.2.2.2.1, x.2.2.2.2.2.2.2.2.2.2.2.2.2.2.1, x.2.2.2.2.2.2.2.2.2.2.2.2.2.2.2.1, x.2.2.2.2.2.2.2.2.2.2.2.2.2.2.2.2.1, x.2.2.2.2.2.2.2.2.2.2.2.2.2.2.2.2.2)]) (Lc' := [w_Model E a o (x.1, x.2.1, x.2.2.1, x.2.2.2.1, x.2.2.2.2.1, x.2.2.2.2.2.1, x.2.2.2.2.2.2.1, x.2.2.2.2.2.2.2.1, x.2.2.2.2.2.2.2.2.1, x.2.2.2.2.2.2.2.2.2.1, j13, j14, x.2.2.2.2.2.2.2.2.2.2.2.2.1, x.2.2.2.2.2.2.2.2.2.2.2.2.2.1, q15.2, x.2.2.2.2.2.2.2.2.2.2.2.2.2.2.2.1, x.2.2.2.2.2.2.2.2.2.2.2.2.2.2.2.2.1, x.2.2.2.2.2.2.2.2.2.2.2.2.2.2.2.2.2)]) (L' := [w_Model E a o (x.1, x.2.1, x.2.2.1, x.2.2.2.1, x.2.2.2.2.1, x.2.2.2.2.2.1, x.2.2.2.2.2.2.1, x.2.2.2.2.2.2.2.1, x.2.2.2.2.2.2.2.2.1, x.2.2.2.2.2.2.2.2.2.1, j13, j14, x.2.2.2.2.2.2.2.2.2.2.2.2.1, x.2.2.2.2.2.2.2.2.2.2.2.2.2.1, q15.2, x.2.2.2.2.2.2.2.2.2.2.2.2.2.2.2.1, x.2.2.2.2.2.2.2.2.2.2.2.2.2.2.2.2.1, x.2.2.2.2.2.2.2.2.2.2.2.2.2.2.2.2.2)]) (rv := q15.1) (va_runV (As := [.int j14]) (rest := []) ⟨hx, hb, hml, hown, ha⟩ (k_X11_done l E a o (x.1, x.2.1, x.2.2.1, x.2.2.2.1, x.2.2.2.2.1, x.2.2.2.2.2.1, x.2.2.2.2.2.2.1, x.2.2.2.2.2.2.2.1, x.2.2.2.2.2.2.2.2.1, x.2.2.2.2.2.2.2.2.2.1, j13, j14, x.2.2.2.2.2.2.2.2.2.2.2.2.1, x.2.2.2.2.2.2.2.2.2.2.2.2.2.1, x.2.2.2.2.2.2.2.2.2.2.2.2.2.2.1, x.2.2.2.2.2.2.2.2.2.2.2.2.2.2.2.1, x.2.2.2.2.2.2.2.2.2.2.2.2.2.2.2.2.1, x.2.2.2.2.2.2.2.2.2.2.2.2.2.2.2.2.2) j14 q15 hq15 H.size) (cwV 1 ha (gi_V (fun _ h => h) mw1720 mw1722 mw30 mw87 mw1723) rfl rfl rfl hv_X11_done ⟨(Nat.le_of_ble_eq_true rfl), (Nat.le_of_ble_eq_true rfl)⟩) ⟨pre_blind, va_recv hst.k (fr_P hP [0] rfl) (ci := 13) (q0 := 0) rfl rfl, pre_at hP hD hS hz hzs hst [0] (by decide) rfl rfl⟩ rfl rfl hl.1 rfl (lv_room (Nat.le_of_ble_eq_true rfl)) dX11_writeBell_109 ⟨(Nat.le_of_ble_eq_true rfl), (Nat.le_of_ble_eq_true rfl)⟩) hP hD hS hA [0] (by decide) rfl rfl rfl rfl (fun H locs hP hD hS => ?_)
        obtain rfl := Option.some.inj hF
        exact en_i hQ (Nat.le_of_ble_eq_true rfl) (Nat.le_of_ble_eq_true rfl) hx hb hr hlocks hP hD hS rfl dX11_writeBell_112
      refine lv_if_ne (tgt := 104) hx hb dX11_writeBell_95 (by decide) (fun c95 => ?_) (fun c95 => ?_)
      · have hF := q_brn c95 hF
        exact jJ104 j10 j11 H locs ls hF hP hD hS (lv_sub hl [0] rfl)
      · have hF := q_brp c95 hF
        refine lv_aload_n hx hb dX11_writeBell_98 rfl (lv_at hl 0 rfl) ?_
        refine lv_bipush (v := 33) hx hb dX11_writeBell_99 (by decide) ?_
        obtain ⟨q16, hq16, hF⟩ := q_bdi hF
        refine cl_v (Lc := [w_Model E a o (x.1, x.2.1, x.2.2.1, x.2.2.2.1, x.2.2.2.2.1, x.2.2.2.2.2.1, x.2.2.2.2.2.2.1, x.2.2.2.2.2.2.2.1, x.2.2.2.2.2.2.2.2.1, x.2.2.2.2.2.2.2.2.2.1, j10, j11, x.2.2.2.2.2.2.2.2.2.2.2.2.1, x.2.2.2.2.2.2.2.2.2.2.2.2.2.1, x.2.2.2.2.2.2.2.2.2.2.2.2.2.2.1, x.2.2.2.2.2.2.2.2.2.2.2.2.2.2.2.1, x.2.2.2.2.2.2.2.2.2.2.2.2.2.2.2.2.1, x.2.2.2.2.2.2.2.2.2.2.2.2.2.2.2.2.2)]) (Lc' := [w_Model E a o (x.1, x.2.1, x.2.2.1, x.2.2.2.1, x.2.2.2.2.1, x.2.2.2.2.2.1, x.2.2.2.2.2.2.1, x.2.2.2.2.2.2.2.1, x.2.2.2.2.2.2.2.2.1, x.2.2.2.2.2.2.2.2.2.1, q16.1, q16.2, x.2.2.2.2.2.2.2.2.2.2.2.2.1, x.2.2.2.2.2.2.2.2.2.2.2.2.2.1, x.2.2.2.2.2.2.2.2.2.2.2.2.2.2.1, x.2.2.2.2.2.2.2.2.2.2.2.2.2.2.2.1, x.2.2.2.2.2.2.2.2.2.2.2.2.2.2.2.2.1, x.2.2.2.2.2.2.2.2.2.2.2.2.2.2.2.2.2)]) (L' := [w_Model E a o (x.1, x.2.1, x.2.2.1, x.2.2.2.1, x.2.2.2.2.1, x.2.2.2.2.2.1, x.2.2.2.2.2.2.1, x.2.2.2.2.2.2.2.1, x.2.2.2.2.2.2.2.2.1, x.2.2.2.2.2.2.2.2.2.1, q16.1, q16.2, x.2.2.2.2.2.2.2.2.2.2.2.2.1, x.2.2.2.2.2.2.2.2.2.2.2.2.2.1, x.2.2.2.2.2.2.2.2.2.2.2.2.2.2.1, x.2.2.2.2.2.2.2.2.2.2.2.2.2.2.2.1, x.2.2.2.2.2.2.2.2.2.2.2.2.2.2.2.2.1, x.2.2.2.2.2.2.2.2.2.2.2.2.2.2.2.2.2)]) (va_runV (As := [.int 33]) (rest := []) ⟨hx, hb, hml, hown, ha⟩ (k_X11_writes l E a o (x.1, x.2.1, x.2.2.1, x.2.2.2.1, x.2.2.2.2.1, x.2.2.2.2.2.1, x.2.2.2.2.2.2.1, x.2.2.2.2.2.2.2.1, x.2.2.2.2.2.2.2.2.1, x.2.2.2.2.2.2.2.2.2.1, j10, j11, x.2.2.2.2.2.2.2.2.2.2.2.2.1, x.2.2.2.2.2.2.2.2.2.2.2.2.2.1, x.2.2.2.2.2.2.2.2.2.2.2.2.2.2.1, x.2.2.2.2.2.2.2.2.2.2.2.2.2.2.2.1, x.2.2.2.2.2.2.2.2.2.2.2.2.2.2.2.2.1, x.2.2.2.2.2.2.2.2.2.2.2.2.2.2.2.2.2) 33 q16 hq16 H.size) (cwV 1 ha (gi_V (fun _ h => h) mw2094 mw2096 mw71 mw87 mw2097) rfl rfl rfl hv_X11_writes ⟨(Nat.le_of_ble_eq_true rfl), (Nat.le_of_ble_eq_true rfl)⟩) ⟨pre_blind, va_recv hst.k (fr_P hP [0] rfl) (ci := 13) (q0 := 0) rfl rfl, pre_at hP hD hS hz hzs hst [0] (by decide) rfl rfl⟩ rfl rfl hl.1 rfl (lv_room (Nat.le_of_ble_eq_true rfl)) dX11_writeBell_101 ⟨(Nat.le_of_ble_eq_true rfl), (Nat.le_of_ble_eq_true rfl)⟩) hP hD hS hA [0] (by decide) rfl rfl rfl rfl (fun H locs hP hD hS => ?_)
        exact jJ104 q16.1 q16.2 H locs ls hF hP hD hS (lv_sub hl [0] rfl)
    refine lv_if_eq (tgt := 90) hx hb dX11_writeBell_64 (by decide) (fun c64 => ?_) (fun c64 => ?_)
    · have hF := q_brp c64 hF
      exact jJ90 q8.1 q8.2 H locs ls hF hP hD hS (lv_sub hl [1, 2] rfl)
    · have hF := q_brn c64 hF
      refine lv_aload_n hx hb dX11_writeBell_67 rfl (lv_at hl 1 rfl) ?_
      refine lv_iload_n hx hb dX11_writeBell_68 rfl (lv_at hl 0 rfl) ?_
      obtain ⟨J79, hJ79, hF⟩ := q_jn hF
      have jJ79 : ∀ (j17 : Int32), ∀ (H : Heap) (locs : List Loc) (ls : Array Slot), J79 j17 = some res → va_P E.1 vwCl (List.flatten [w_Model E a o (x.1, x.2.1, x.2.2.1, x.2.2.2.1, x.2.2.2.2.1, x.2.2.2.2.2.1, x.2.2.2.2.2.2.1, x.2.2.2.2.2.2.2.1, x.2.2.2.2.2.2.2.2.1, x.2.2.2.2.2.2.2.2.2.1, q8.1, q8.2, x.2.2.2.2.2.2.2.2.2.2.2.2.1, x.2.2.2.2.2.2.2.2.2.2.2.2.2.1, x.2.2.2.2.2.2.2.2.2.2.2.2.2.2.1, x.2.2.2.2.2.2.2.2.2.2.2.2.2.2.2.1, x.2.2.2.2.2.2.2.2.2.2.2.2.2.2.2.2.1, x.2.2.2.2.2.2.2.2.2.2.2.2.2.2.2.2.2)]) H → va_D A (List.flatten [w_Model E a o (x.1, x.2.1, x.2.2.1, x.2.2.2.1, x.2.2.2.2.1, x.2.2.2.2.2.1, x.2.2.2.2.2.2.1, x.2.2.2.2.2.2.2.1, x.2.2.2.2.2.2.2.2.1, x.2.2.2.2.2.2.2.2.2.1, q8.1, q8.2, x.2.2.2.2.2.2.2.2.2.2.2.2.1, x.2.2.2.2.2.2.2.2.2.2.2.2.2.1, x.2.2.2.2.2.2.2.2.2.2.2.2.2.2.1, x.2.2.2.2.2.2.2.2.2.2.2.2.2.2.2.1, x.2.2.2.2.2.2.2.2.2.2.2.2.2.2.2.2.1, x.2.2.2.2.2.2.2.2.2.2.2.2.2.2.2.2.2)]) → va_S A s.heap H locs → lv_has ls 3 [(2, .int q9), (0, .ref (a o)), (1, .int p1)] → W p l e rm_X11_writeBell s m args below meth c H locs 0 0 Q (F0 m 79 ls [.int j17, .ref (a o)]) := by
        intro j17 H locs ls hF hP hD hS hl
        rw [hJ79] at hF
        obtain ⟨q18, hq18, hF⟩ := q_bdi hF
        refine cl_v (Lc := [w_Model E a o (x.1, x.2.1, x.2.2.1, x.2.2.2.1, x.2.2.2.2.1, x.2.2.2.2.2.1, x.2.2.2.2.2.2.1, x.2.2.2.2.2.2.2.1, x.2.2.2.2.2.2.2.2.1, x.2.2.2.2.2.2.2.2.2.1, q8.1, q8.2, x.2.2.2.2.2.2.2.2.2.2.2.2.1, x.2.2.2.2.2.2.2.2.2.2.2.2.2.1, x.2.2.2.2.2.2.2.2.2.2.2.2.2.2.1, x.2.2.2.2.2.2.2.2.2.2.2.2.2.2.2.1, x.2.2.2.2.2.2.2.2.2.2.2.2.2.2.2.2.1, x.2.2.2.2.2.2.2.2.2.2.2.2.2.2.2.2.2)]) (Lc' := [w_Model E a o (x.1, x.2.1, x.2.2.1, x.2.2.2.1, x.2.2.2.2.1, x.2.2.2.2.2.1, x.2.2.2.2.2.2.1, x.2.2.2.2.2.2.2.1, x.2.2.2.2.2.2.2.2.1, x.2.2.2.2.2.2.2.2.2.1, q18.1, q18.2, x.2.2.2.2.2.2.2.2.2.2.2.2.1, x.2.2.2.2.2.2.2.2.2.2.2.2.2.1, x.2.2.2.2.2.2.2.2.2.2.2.2.2.2.1, x.2.2.2.2.2.2.2.2.2.2.2.2.2.2.2.1, x.2.2.2.2.2.2.2.2.2.2.2.2.2.2.2.2.1, x.2.2.2.2.2.2.2.2.2.2.2.2.2.2.2.2.2)]) (L' := [w_Model E a o (x.1, x.2.1, x.2.2.1, x.2.2.2.1, x.2.2.2.2.1, x.2.2.2.2.2.1, x.2.2.2.2.2.2.1, x.2.2.2.2.2.2.2.1, x.2.2.2.2.2.2.2.2.1, x.2.2.2.2.2.2.2.2.2.1, q18.1, q18.2, x.2.2.2.2.2.2.2.2.2.2.2.2.1, x.2.2.2.2.2.2.2.2.2.2.2.2.2.1, x.2.2.2.2.2.2.2.2.2.2.2.2.2.2.1, x.2.2.2.2.2.2.2.2.2.2.2.2.2.2.2.1, x.2.2.2.2.2.2.2.2.2.2.2.2.2.2.2.2.1, x.2.2.2.2.2.2.2.2.2.2.2.2.2.2.2.2.2)]) (va_runV (As := [.int j17]) (rest := []) ⟨hx, hb, hml, hown, ha⟩ (k_X11_writes l E a o (x.1, x.2.1, x.2.2.1, x.2.2.2.1, x.2.2.2.2.1, x.2.2.2.2.2.1, x.2.2.2.2.2.2.1, x.2.2.2.2.2.2.2.1, x.2.2.2.2.2.2.2.2.1, x.2.2.2.2.2.2.2.2.2.1, q8.1, q8.2, x.2.2.2.2.2.2.2.2.2.2.2.2.1, x.2.2.2.2.2.2.2.2.2.2.2.2.2.1, x.2.2.2.2.2.2.2.2.2.2.2.2.2.2.1, x.2.2.2.2.2.2.2.2.2.2.2.2.2.2.2.1, x.2.2.2.2.2.2.2.2.2.2.2.2.2.2.2.2.1, x.2.2.2.2.2.2.2.2.2.2.2.2.2.2.2.2.2) j17 q18 hq18 H.size) (cwV 1 ha (gi_V (fun _ h => h) mw2094 mw2096 mw71 mw87 mw2097) rfl rfl rfl hv_X11_writes ⟨(Nat.le_of_ble_eq_true rfl), (Nat.le_of_ble_eq_true rfl)⟩) ⟨pre_blind, va_recv hst.k (fr_P hP [0] rfl) (ci := 13) (q0 := 0) rfl rfl, pre_at hP hD hS hz hzs hst [0] (by decide) rfl rfl⟩ rfl rfl hl.1 rfl (lv_room (Nat.le_of_ble_eq_true rfl)) dX11_writeBell_79 ⟨(Nat.le_of_ble_eq_true rfl), (Nat.le_of_ble_eq_true rfl)⟩) hP hD hS hA [0] (by decide) rfl rfl rfl rfl (fun H locs hP hD hS => ?_)
        refine lv_aload_n hx hb dX11_writeBell_82 rfl (lv_at hl 1 rfl) ?_
        refine lv_iload_n hx hb dX11_writeBell_83 rfl (lv_at hl 0 rfl) ?_
        obtain ⟨q19, hq19, hF⟩ := q_bdi hF
        refine cl_i (Lc := []) (Lc' := []) (L' := [w_Model E a o (x.1, x.2.1, x.2.2.1, x.2.2.2.1, x.2.2.2.2.1, x.2.2.2.2.2.1, x.2.2.2.2.2.2.1, x.2.2.2.2.2.2.2.1, x.2.2.2.2.2.2.2.2.1, x.2.2.2.2.2.2.2.2.2.1, q18.1, q18.2, x.2.2.2.2.2.2.2.2.2.2.2.2.1, x.2.2.2.2.2.2.2.2.2.2.2.2.2.1, x.2.2.2.2.2.2.2.2.2.2.2.2.2.2.1, x.2.2.2.2.2.2.2.2.2.2.2.2.2.2.2.1, x.2.2.2.2.2.2.2.2.2.2.2.2.2.2.2.2.1, x.2.2.2.2.2.2.2.2.2.2.2.2.2.2.2.2.2)]) (rv := q19) (va_runS (As := [.int q9]) (rest := [.ref (a o)]) ⟨hx, hb, hml, hown, ha⟩ (k_X11_size l E q9 q19 hq19 H.size) (cwS 1 ha (gi_S (fun _ h => h) mw1790 mw1791 mw87 mw1792) rfl rfl rfl hv_X11_size ⟨(Nat.le_of_ble_eq_true rfl), (Nat.le_of_ble_eq_true rfl)⟩) ⟨pre_blind, pre_at hP hD hS hz hzs hst [] (by decide) rfl rfl⟩ rfl rfl hl.1 rfl (lv_room (Nat.le_of_ble_eq_true rfl)) dX11_writeBell_84 ⟨(Nat.le_of_ble_eq_true rfl), (Nat.le_of_ble_eq_true rfl)⟩) hP hD hS hA [] (by decide) rfl rfl rfl rfl (fun H locs hP hD hS => ?_)
        obtain ⟨q20, hq20, hF⟩ := q_bdi hF
        refine cl_v (Lc := [w_Model E a o (x.1, x.2.1, x.2.2.1, x.2.2.2.1, x.2.2.2.2.1, x.2.2.2.2.2.1, x.2.2.2.2.2.2.1, x.2.2.2.2.2.2.2.1, x.2.2.2.2.2.2.2.2.1, x.2.2.2.2.2.2.2.2.2.1, q18.1, q18.2, x.2.2.2.2.2.2.2.2.2.2.2.2.1, x.2.2.2.2.2.2.2.2.2.2.2.2.2.1, x.2.2.2.2.2.2.2.2.2.2.2.2.2.2.1, x.2.2.2.2.2.2.2.2.2.2.2.2.2.2.2.1, x.2.2.2.2.2.2.2.2.2.2.2.2.2.2.2.2.1, x.2.2.2.2.2.2.2.2.2.2.2.2.2.2.2.2.2)]) (Lc' := [w_Model E a o (x.1, x.2.1, x.2.2.1, x.2.2.2.1, x.2.2.2.2.1, x.2.2.2.2.2.1, x.2.2.2.2.2.2.1, x.2.2.2.2.2.2.2.1, x.2.2.2.2.2.2.2.2.1, x.2.2.2.2.2.2.2.2.2.1, q20.1, q20.2, x.2.2.2.2.2.2.2.2.2.2.2.2.1, x.2.2.2.2.2.2.2.2.2.2.2.2.2.1, x.2.2.2.2.2.2.2.2.2.2.2.2.2.2.1, x.2.2.2.2.2.2.2.2.2.2.2.2.2.2.2.1, x.2.2.2.2.2.2.2.2.2.2.2.2.2.2.2.2.1, x.2.2.2.2.2.2.2.2.2.2.2.2.2.2.2.2.2)]) (L' := [w_Model E a o (x.1, x.2.1, x.2.2.1, x.2.2.2.1, x.2.2.2.2.1, x.2.2.2.2.2.1, x.2.2.2.2.2.2.1, x.2.2.2.2.2.2.2.1, x.2.2.2.2.2.2.2.2.1, x.2.2.2.2.2.2.2.2.2.1, q20.1, q20.2, x.2.2.2.2.2.2.2.2.2.2.2.2.1, x.2.2.2.2.2.2.2.2.2.2.2.2.2.1, x.2.2.2.2.2.2.2.2.2.2.2.2.2.2.1, x.2.2.2.2.2.2.2.2.2.2.2.2.2.2.2.1, x.2.2.2.2.2.2.2.2.2.2.2.2.2.2.2.2.1, x.2.2.2.2.2.2.2.2.2.2.2.2.2.2.2.2.2)]) (va_runV (As := [.int q19]) (rest := []) ⟨hx, hb, hml, hown, ha⟩ (k_X11_writesNumber l E a o (x.1, x.2.1, x.2.2.1, x.2.2.2.1, x.2.2.2.2.1, x.2.2.2.2.2.1, x.2.2.2.2.2.2.1, x.2.2.2.2.2.2.2.1, x.2.2.2.2.2.2.2.2.1, x.2.2.2.2.2.2.2.2.2.1, q18.1, q18.2, x.2.2.2.2.2.2.2.2.2.2.2.2.1, x.2.2.2.2.2.2.2.2.2.2.2.2.2.1, x.2.2.2.2.2.2.2.2.2.2.2.2.2.2.1, x.2.2.2.2.2.2.2.2.2.2.2.2.2.2.2.1, x.2.2.2.2.2.2.2.2.2.2.2.2.2.2.2.2.1, x.2.2.2.2.2.2.2.2.2.2.2.2.2.2.2.2.2) q19 q20 hq20 H.size) (cwV 1 ha (gi_V (fun _ h => h) mw2090 mw2092 mw70 mw87 mw2093) rfl rfl rfl hv_X11_writesNumber ⟨(Nat.le_of_ble_eq_true rfl), (Nat.le_of_ble_eq_true rfl)⟩) ⟨pre_blind, va_recv hst.k (fr_P hP [0] rfl) (ci := 13) (q0 := 0) rfl rfl, pre_at hP hD hS hz hzs hst [0] (by decide) rfl rfl⟩ rfl rfl hl.1 rfl (lv_room (Nat.le_of_ble_eq_true rfl)) dX11_writeBell_87 ⟨(Nat.le_of_ble_eq_true rfl), (Nat.le_of_ble_eq_true rfl)⟩) hP hD hS hA [0] (by decide) rfl rfl rfl rfl (fun H locs hP hD hS => ?_)
        exact jJ90 q20.1 q20.2 H locs ls hF hP hD hS (lv_sub hl [1, 2] rfl)
      refine lv_if_le (tgt := 77) hx hb dX11_writeBell_69 (by decide) (fun c69 => ?_) (fun c69 => ?_)
      · have hF := q_brp c69 hF
        refine lv_bipush (v := 45) hx hb dX11_writeBell_77 (by decide) ?_
        exact jJ79 45 H locs ls hF hP hD hS (lv_sub hl [0, 1, 2] rfl)
      · have hF := q_brn c69 hF
        refine lv_bipush (v := 43) hx hb dX11_writeBell_72 (by decide) ?_
        refine lv_goto (tgt := 79) hx hb dX11_writeBell_74 (by decide) ?_
        exact jJ79 43 H locs ls hF hP hD hS (lv_sub hl [0, 1, 2] rfl)
  · have hF := q_brp c5 hF
    refine lv_aload_n hx hb dX11_writeBell_8 rfl (lv_at hl 0 rfl) ?_
    refine lv_iconst (v := 1) hx hb dX11_writeBell_9 (by decide) ?_
    obtain ⟨q21, hq21, hF⟩ := q_bdi hF
    refine cl_i (Lc := [w_Model E a o x]) (Lc' := [w_Model E a o (x.1, x.2.1, x.2.2.1, x.2.2.2.1, x.2.2.2.2.1, x.2.2.2.2.2.1, x.2.2.2.2.2.2.1, x.2.2.2.2.2.2.2.1, x.2.2.2.2.2.2.2.2.1, x.2.2.2.2.2.2.2.2.2.1, x.2.2.2.2.2.2.2.2.2.2.1, x.2.2.2.2.2.2.2.2.2.2.2.1, x.2.2.2.2.2.2.2.2.2.2.2.2.1, x.2.2.2.2.2.2.2.2.2.2.2.2.2.1, q21.2, x.2.2.2.2.2.2.2.2.2.2.2.2.2.2.2.1, x.2.2.2.2.2.2.2.2.2.2.2.2.2.2.2.2.1, x.2.2.2.2.2.2.2.2.2.2.2.2.2.2.2.2.2)]) (L' := [w_Model E a o (x.1, x.2.1, x.2.2.1, x.2.2.2.1, x.2.2.2.2.1, x.2.2.2.2.2.1, x.2.2.2.2.2.2.1, x.2.2.2.2.2.2.2.1, x.2.2.2.2.2.2.2.2.1, x.2.2.2.2.2.2.2.2.2.1, x.2.2.2.2.2.2.2.2.2.2.1, x.2.2.2.2.2.2.2.2.2.2.2.1, x.2.2.2.2.2.2.2.2.2.2.2.2.1, x.2.2.2.2.2.2.2.2.2.2.2.2.2.1, q21.2, x.2.2.2.2.2.2.2.2.2.2.2.2.2.2.2.1, x.2.2.2.2.2.2.2.2.2.2.2.2.2.2.2.2.1, x.2.2.2.2.2.2.2.2.2.2.2.2.2.2.2.2.2)]) (rv := q21.1) (va_runV (As := [.int 1]) (rest := []) ⟨hx, hb, hml, hown, ha⟩ (k_X11_fails l E a o x 1 q21 hq21 H.size) (cwV 1 ha (gi_V (fun _ h => h) mw1716 mw1718 mw29 mw87 mw1719) rfl rfl rfl hv_X11_fails ⟨(Nat.le_of_ble_eq_true rfl), (Nat.le_of_ble_eq_true rfl)⟩) ⟨pre_blind, va_recv hst.k (fr_P hP [0] rfl) (ci := 13) (q0 := 0) rfl rfl, pre_at hP hD hS hz hzs hst [0] (by decide) rfl rfl⟩ rfl rfl hl.1 rfl (lv_room (Nat.le_of_ble_eq_true rfl)) dX11_writeBell_10 ⟨(Nat.le_of_ble_eq_true rfl), (Nat.le_of_ble_eq_true rfl)⟩) hP hD hS hA [0] (by decide) rfl rfl rfl rfl (fun H locs hP hD hS => ?_)
    obtain rfl := Option.some.inj hF
    exact en_i hQ (Nat.le_of_ble_eq_true rfl) (Nat.le_of_ble_eq_true rfl) hx hb hr hlocks hP hD hS rfl dX11_writeBell_13

/-! X11_writeChord -/
theorem dX11_writeChord_0 : decode cX11_writeChord 0 = .ok (.aload_n 0, 1) := by decide +kernel
theorem dX11_writeChord_1 : decode cX11_writeChord 1 = .ok (.iload_n 1, 1) := by decide +kernel
theorem dX11_writeChord_2 : decode cX11_writeChord 2 = .ok (.invokevirtual 168, 3) := by decide +kernel
theorem dX11_writeChord_5 : decode cX11_writeChord 5 = .ok (.aload_n 0, 1) := by decide +kernel
theorem dX11_writeChord_6 : decode cX11_writeChord 6 = .ok (.iconst 0, 1) := by decide +kernel
theorem dX11_writeChord_7 : decode cX11_writeChord 7 = .ok (.putfield 229, 3) := by decide +kernel
theorem dX11_writeChord_10 : decode cX11_writeChord 10 = .ok (.iconst 0, 1) := by decide +kernel
theorem dX11_writeChord_11 : decode cX11_writeChord 11 = .ok (.istore_n 2, 1) := by decide +kernel
theorem dX11_writeChord_12 : decode cX11_writeChord 12 = .ok (.iload_n 2, 1) := by decide +kernel
theorem dX11_writeChord_13 : decode cX11_writeChord 13 = .ok (.aload_n 0, 1) := by decide +kernel
theorem dX11_writeChord_14 : decode cX11_writeChord 14 = .ok (.getfield 157, 3) := by decide +kernel
theorem dX11_writeChord_17 : decode cX11_writeChord 17 = .ok (.if_icmp .ge 29, 3) := by decide +kernel
theorem dX11_writeChord_20 : decode cX11_writeChord 20 = .ok (.iload_n 2, 1) := by decide +kernel
theorem dX11_writeChord_21 : decode cX11_writeChord 21 = .ok (.ifCond .le 9, 3) := by decide +kernel
theorem dX11_writeChord_24 : decode cX11_writeChord 24 = .ok (.aload_n 0, 1) := by decide +kernel
theorem dX11_writeChord_25 : decode cX11_writeChord 25 = .ok (.bipush 32, 2) := by decide +kernel
theorem dX11_writeChord_27 : decode cX11_writeChord 27 = .ok (.invokevirtual 232, 3) := by decide +kernel
theorem dX11_writeChord_30 : decode cX11_writeChord 30 = .ok (.aload_n 0, 1) := by decide +kernel
theorem dX11_writeChord_31 : decode cX11_writeChord 31 = .ok (.aload_n 0, 1) := by decide +kernel
theorem dX11_writeChord_32 : decode cX11_writeChord 32 = .ok (.getfield 36, 3) := by decide +kernel
theorem dX11_writeChord_35 : decode cX11_writeChord 35 = .ok (.iload_n 2, 1) := by decide +kernel
theorem dX11_writeChord_36 : decode cX11_writeChord 36 = .ok (.iaload, 1) := by decide +kernel
theorem dX11_writeChord_37 : decode cX11_writeChord 37 = .ok (.invokevirtual 235, 3) := by decide +kernel
theorem dX11_writeChord_40 : decode cX11_writeChord 40 = .ok (.iinc 2 1, 3) := by decide +kernel
theorem dX11_writeChord_43 : decode cX11_writeChord 43 = .ok (.goto (-31), 3) := by decide +kernel
theorem dX11_writeChord_46 : decode cX11_writeChord 46 = .ok (.aload_n 0, 1) := by decide +kernel
theorem dX11_writeChord_47 : decode cX11_writeChord 47 = .ok (.aload_n 0, 1) := by decide +kernel
theorem dX11_writeChord_48 : decode cX11_writeChord 48 = .ok (.getfield 229, 3) := by decide +kernel
theorem dX11_writeChord_51 : decode cX11_writeChord 51 = .ok (.invokevirtual 83, 3) := by decide +kernel
theorem dX11_writeChord_54 : decode cX11_writeChord 54 = .ok (.ireturn, 1) := by decide +kernel
def f_X11_writeChord_L12 (q1 : (Nat → Int32) × Int32) (K12 : (Nat → Int32) → Int32 → Option (Int32 × (Nat → Int32) × Int32 × (Nat → Int32) × Int32 × Int32)) : Nat → Int32 → (Nat → Int32) → Int32 → Option (Int32 × (Nat → Int32) × Int32 × (Nat → Int32) × Int32 × Int32)
  | 0, _, _, _ => none
  | n12 + 1, i2, i3, i4 =>
    q_br (q1.2 ≤ i2) (
  K12 i3 i4) (
  q_lt (fun (j7 : (Nat → Int32)) (j8 : Int32) =>
  q_gd (q_in i2 24) (
  q_bd (f_X11_writesNumber j7 j8 (q1.1 (i2.toNatClampNeg))) (fun q10 =>
  q_lt (i2 + 1 : Int32) (fun v11 =>
  f_X11_writeChord_L12 q1 K12 n12 v11 q10.1 q10.2)))) (fun (J30 : (Nat → Int32) → Int32 → Option (Int32 × (Nat → Int32) × Int32 × (Nat → Int32) × Int32 × Int32)) =>
  q_br (i2 ≤ 0) (
  J30 i3 i4) (
  q_bd (f_X11_writes i3 i4 32) (fun q12 =>
  J30 q12.1 q12.2))))
def f_X11_writeChord (x_g : (Nat → Int32)) (x_letters : (Nat → Int32)) (x_lineLength : Int32) (x_notes : (Nat → Int32)) (x_noteCount : Int32) (x_thrown : Int32) (p1 : Int32) : Option (Int32 × (Nat → Int32) × Int32 × (Nat → Int32) × Int32 × Int32) :=
  q_bd (f_X11_listens x_g x_notes x_noteCount p1) (fun q1 =>
  f_X11_writeChord_L12 q1 (fun y5 y6 =>
  q_bd (f_X11_done x_thrown y6) (fun q13 =>
  some (q13.1, y5, y6, q1.1, q1.2, q13.2))) 2000 0 x_letters 0)
theorem hv_X11_writeChord : yX11_writeChord.cls = RX11 ∧ yX11_writeChord.cls ≠ "java/lang/invoke/MethodHandle" ∧ yX11_writeChord.cls ≠ "java/lang/invoke/VarHandle" ∧ (parseMethodDescriptor yX11_writeChord.desc).map (fun d => d.parameters.length) = some 1 := by decide +kernel
abbrev rm_X11_writeChord : Room := { frames := 3, cells := 0, slots := 0, locals := 68 }
set_option maxHeartbeats 4000000 in
set_option maxRecDepth 100000 in
theorem k_X11_writeChord (l : Launch) (E : ET) (a : Nat → Nat) (o : Nat) (x : Model_t) (p1 : Int32) (res : Int32 × (Nat → Int32) × Int32 × (Nat → Int32) × Int32 × Int32) (hF : f_X11_writeChord x.1 x.2.2.2.2.2.2.2.2.2.2.1 x.2.2.2.2.2.2.2.2.2.2.2.1 x.2.2.2.2.2.2.2.2.2.2.2.2.1 x.2.2.2.2.2.2.2.2.2.2.2.2.2.1 x.2.2.2.2.2.2.2.2.2.2.2.2.2.2.1 p1 = some res) (sz : Nat) : CtI l yX11_writeChord (mws yX11_writeChord cX11_writeChord 3 (some .int)) rm_X11_writeChord 0 0 [.ref (a o), .int p1] E (bl_Model E a o x) res.1 (bl_Model E a o (x.1, x.2.1, x.2.2.1, x.2.2.2.1, x.2.2.2.2.1, x.2.2.2.2.2.1, x.2.2.2.2.2.2.1, x.2.2.2.2.2.2.2.1, x.2.2.2.2.2.2.2.2.1, x.2.2.2.2.2.2.2.2.2.1, res.2.1, res.2.2.1, res.2.2.2.1, res.2.2.2.2.1, res.2.2.2.2.2, x.2.2.2.2.2.2.2.2.2.2.2.2.2.2.2.1, x.2.2.2.2.2.2.2.2.2.2.2.2.2.2.2.2.1, x.2.2.2.2.2.2.2.2.2.2.2.2.2.2.2.2.2)) sz := by
  refine mk_M (by decide +kernel) (Nat.le_of_ble_eq_true rfl) ?_
  intro p e s m below meth c A args Q ls hAe hsz hQ hx hb hr hml hin ha hown hlocks hA hz hzs hst hP hD hS hl
  have hown : s.vm.findClass RX11 = some m.cls := hown
  rw [hAe] at hQ
  subst hsz
  have hP : va_P E.1 vwCl (List.flatten [w_Model E a o x]) s.heap := hP
  have hD : va_D A (List.flatten [w_Model E a o x]) := hD
  have hl : lv_has ls 3 [(0, .ref (a o)), (1, .int p1)] := hl
  generalize hHe : s.heap = H at hP
  have hS : va_S A s.heap H [] := by rw [← hHe]; exact hS
  generalize ([] : List Loc) = locs at hS ⊢
  unfold f_X11_writeChord at hF
  refine lv_aload_n hx hb dX11_writeChord_0 rfl (lv_at hl 0 rfl) ?_
  refine lv_iload_n hx hb dX11_writeChord_1 rfl (lv_at hl 1 rfl) ?_
  obtain ⟨q1, hq1, hF⟩ := q_bdi hF
  refine cl_v (Lc := [w_Model E a o x]) (Lc' := [w_Model E a o (x.1, x.2.1, x.2.2.1, x.2.2.2.1, x.2.2.2.2.1, x.2.2.2.2.2.1, x.2.2.2.2.2.2.1, x.2.2.2.2.2.2.2.1, x.2.2.2.2.2.2.2.2.1, x.2.2.2.2.2.2.2.2.2.1, x.2.2.2.2.2.2.2.2.2.2.1, x.2.2.2.2.2.2.2.2.2.2.2.1, q1.1, q1.2, x.2.2.2.2.2.2.2.2.2.2.2.2.2.2.1, x.2.2.2.2.2.2.2.2.2.2.2.2.2.2.2.1, x.2.2.2.2.2.2.2.2.2.2.2.2.2.2.2.2.1, x.2.2.2.2.2.2.2.2.2.2.2.2.2.2.2.2.2)]) (L' := [w_Model E a o (x.1, x.2.1, x.2.2.1, x.2.2.2.1, x.2.2.2.2.1, x.2.2.2.2.2.1, x.2.2.2.2.2.2.1, x.2.2.2.2.2.2.2.1, x.2.2.2.2.2.2.2.2.1, x.2.2.2.2.2.2.2.2.2.1, x.2.2.2.2.2.2.2.2.2.2.1, x.2.2.2.2.2.2.2.2.2.2.2.1, q1.1, q1.2, x.2.2.2.2.2.2.2.2.2.2.2.2.2.2.1, x.2.2.2.2.2.2.2.2.2.2.2.2.2.2.2.1, x.2.2.2.2.2.2.2.2.2.2.2.2.2.2.2.2.1, x.2.2.2.2.2.2.2.2.2.2.2.2.2.2.2.2.2)]) (va_runV (As := [.int p1]) (rest := []) ⟨hx, hb, hml, hown, ha⟩ (k_X11_listens l E a o x p1 q1 hq1 H.size) (cwV 1 ha (gi_V (fun _ h => h) mw1970 mw1972 mw54 mw87 mw1973) rfl rfl rfl hv_X11_listens ⟨(Nat.le_of_ble_eq_true rfl), (Nat.le_of_ble_eq_true rfl)⟩) ⟨pre_blind, va_recv hst.k (fr_P hP [0] rfl) (ci := 13) (q0 := 0) rfl rfl, pre_at hP hD hS hz hzs hst [0] (by decide) rfl rfl⟩ rfl rfl hl.1 rfl (lv_room (Nat.le_of_ble_eq_true rfl)) dX11_writeChord_2 ⟨(Nat.le_of_ble_eq_true rfl), (Nat.le_of_ble_eq_true rfl)⟩) hP hD hS hA [0] (by decide) rfl rfl rfl rfl (fun H locs hP hD hS => ?_)
  refine lv_aload_n hx hb dX11_writeChord_5 rfl (lv_at hl 0 rfl) ?_
  refine lv_iconst (v := 0) hx hb dX11_writeChord_6 (by decide) ?_
  refine va_put (D := E.1) (ci := 13) (v := .int 0) (ty := .int) (C := RX11) (T := TX11) (N := 18) hx hb ha in_X11 tyX11 tyX11_ok nmX11 hown hst.k hP hD hS 0 rfl rfl 11 (by decide) (ha _ mw1647) (fun _ h9 => h9) rfl (tyX11_ok 11 (by decide)) rfl rfl (Nat.le_of_ble_eq_true rfl) dX11_writeChord_7 (fun H locs hP hD hS => ?_)
  have hP : va_P E.1 vwCl (List.flatten [w_Model E a o (x.1, x.2.1, x.2.2.1, x.2.2.2.1, x.2.2.2.2.1, x.2.2.2.2.2.1, x.2.2.2.2.2.2.1, x.2.2.2.2.2.2.2.1, x.2.2.2.2.2.2.2.2.1, x.2.2.2.2.2.2.2.2.2.1, x.2.2.2.2.2.2.2.2.2.2.1, 0, q1.1, q1.2, x.2.2.2.2.2.2.2.2.2.2.2.2.2.2.1, x.2.2.2.2.2.2.2.2.2.2.2.2.2.2.2.1, x.2.2.2.2.2.2.2.2.2.2.2.2.2.2.2.2.1, x.2.2.2.2.2.2.2.2.2.2.2.2.2.2.2.2.2)]) H := hP
  have hD : va_D A (List.flatten [w_Model E a o (x.1, x.2.1, x.2.2.1, x.2.2.2.1, x.2.2.2.2.1, x.2.2.2.2.2.1, x.2.2.2.2.2.2.1, x.2.2.2.2.2.2.2.1, x.2.2.2.2.2.2.2.2.1, x.2.2.2.2.2.2.2.2.2.1, x.2.2.2.2.2.2.2.2.2.2.1, 0, q1.1, q1.2, x.2.2.2.2.2.2.2.2.2.2.2.2.2.2.1, x.2.2.2.2.2.2.2.2.2.2.2.2.2.2.2.1, x.2.2.2.2.2.2.2.2.2.2.2.2.2.2.2.2.1, x.2.2.2.2.2.2.2.2.2.2.2.2.2.2.2.2.2)]) := hD
  refine lv_iconst (v := 0) hx hb dX11_writeChord_10 (by decide) ?_
  refine lv_istore_n (lv' := [(2, .int 0), (0, .ref (a o)), (1, .int p1)]) hx hb dX11_writeChord_11 rfl hl (by decide) rfl (fun ls hl => ?_)
  have key12 : ∀ (K : (Nat → Int32) → Int32 → Option (Int32 × (Nat → Int32) × Int32 × (Nat → Int32) × Int32 × Int32)), (∀ (y5 : (Nat → Int32)) (y6 : Int32) (H : Heap) (locs : List Loc) (ls : Array Slot), K y5 y6 = some res → va_P E.1 vwCl (List.flatten [w_Model E a o (x.1, x.2.1, x.2.2.1, x.2.2.2.1, x.2.2.2.2.1, x.2.2.2.2.2.1, x.2.2.2.2.2.2.1, x.2.2.2.2.2.2.2.1, x.2.2.2.2.2.2.2.2.1, x.2.2.2.2.2.2.2.2.2.1, y5, y6, q1.1, q1.2, x.2.2.2.2.2.2.2.2.2.2.2.2.2.2.1, x.2.2.2.2.2.2.2.2.2.2.2.2.2.2.2.1, x.2.2.2.2.2.2.2.2.2.2.2.2.2.2.2.2.1, x.2.2.2.2.2.2.2.2.2.2.2.2.2.2.2.2.2)]) H → va_D A (List.flatten [w_Model E a o (x.1, x.2.1, x.2.2.1, x.2.2.2.1, x.2.2.2.2.1, x.2.2.2.2.2.1, x.2.2.2.2.2.2.1, x.2.2.2.2.2.2.2.1, x.2.2.2.2.2.2.2.2.1, x.2.2.2.2.2.2.2.2.2.1, y5, y6, q1.1, q1.2, x.2.2.2.2.2.2.2.2.2.2.2.2.2.2.1, x.2.2.2.2.2.2.2.2.2.2.2.2.2.2.2.1, x.2.2.2.2.2.2.2.2.2.2.2.2.2.2.2.2.1, x.2.2.2.2.2.2.2.2.2.2.2.2.2.2.2.2.2)]) → va_S A s.heap H locs → lv_has ls 3 [(0, .ref (a o))] → W p l e rm_X11_writeChord s m args below meth c H locs 0 0 Q (F0 m 46 ls [])) → ∀ (n : Nat) (i2 : Int32) (i3 : (Nat → Int32)) (i4 : Int32) (H : Heap) (locs : List Loc) (ls : Array Slot), f_X11_writeChord_L12 q1 K n i2 i3 i4 = some res → va_P E.1 vwCl (List.flatten [w_Model E a o (x.1, x.2.1, x.2.2.1, x.2.2.2.1, x.2.2.2.2.1, x.2.2.2.2.2.1, x.2.2.2.2.2.2.1, x.2.2.2.2.2.2.2.1, x.2.2.2.2.2.2.2.2.1, x.2.2.2.2.2.2.2.2.2.1, i3, i4, q1.1, q1.2, x.2.2.2.2.2.2.2.2.2.2.2.2.2.2.1, x.2.2.2.2.2.2.2.2.2.2.2.2.2.2.2.1, x.2.2.2.2.2.2.2.2.2.2.2.2.2.2.2.2.1, x.2.2.2.2.2.2.2.2.2.2.2.2.2.2.2.2.2)]) H → va_D A (List.flatten [w_Model E a o (x.1, x.2.1, x.2.2.1, x.2.2.2.1, x.2.2.2.2.1, x.2.2.2.2.2.1, x.2.2.2.2.2.2.1, x.2.2.2.2.2.2.2.1, x.2.2.2.2.2.2.2.2.1, x.2.2.2.2.2.2.2.2.2.1, i3, i4, q1.1, q1.2, x.2.2.2.2.2.2.2.2.2.2.2.2.2.2.1, x.2.2.2.2.2.2.2.2.2.2.2.2.2.2.2.1, x.2.2.2.2.2.2.2.2.2.2.2.2.2.2.2.2.1, x.2.2.2.2.2.2.2.2.2.2.2.2.2.2.2.2.2)]) → va_S A s.heap H locs → lv_has ls 3 [(2, .int i2), (0, .ref (a o))] → W p l e rm_X11_writeChord s m args below meth c H locs 0 0 Q (F0 m 12 ls []) := by
    intro K12 hK12 n12
    induction n12 with
    | zero => intro i2 i3 i4 H locs ls hF; exact absurd hF (by simp [f_X11_writeChord_L12])
    | succ n12 ih12 =>
      intro i2 i3 i4 H locs ls hF hP hD hS hl
      rw [f_X11_writeChord_L12] at hF
      refine lv_iload_n hx hb dX11_writeChord_12 rfl (lv_at hl 0 rfl) ?_
      refine lv_aload_n hx hb dX11_writeChord_13 rfl (lv_at hl 1 rfl) ?_
      refine va_get (D := E.1) (ci := 13) (v := .int q1.2) (C := RX11) (T := TX11) (N := 18) hx hb ha in_X11 hown hst.k hP 0 rfl rfl 13 (by decide) (ha _ mw1649) (fun _ h9 => h9) rfl dX11_writeChord_14 ?_
      refine lv_icmp_ge (tgt := 46) hx hb dX11_writeChord_17 (by decide) (fun c17 => ?_) (fun c17 => ?_)
      · have hF := q_brp c17 hF
        exact hK12 i3 i4 H locs ls hF hP hD hS (lv_sub hl [1] rfl)
      · have hF := q_brn c17 hF
        refine lv_iload_n hx hb dX11_writeChord_20 rfl (lv_at hl 0 rfl) ?_
        obtain ⟨J30, hJ30, hF⟩ := q_jn hF
        have jJ30 : ∀ (j7 : (Nat → Int32)) (j8 : Int32), ∀ (H : Heap) (locs : List Loc) (ls : Array Slot), J30 j7 j8 = some res → va_P E.1 vwCl (List.flatten [w_Model E a o (x.1, x.2.1, x.2.2.1, x.2.2.2.1, x.2.2.2.2.1, x.2.2.2.2.2.1, x.2.2.2.2.2.2.1, x.2.2.2.2.2.2.2.1, x.2.2.2.2.2.2.2.2.1, x.2.2.2.2.2.2.2.2.2.1, j7, j8, q1.1, q1.2, x.2.2.2.2.2.2.2.2.2.2.2.2.2.2.1, x.2.2.2.2.2.2.2.2.2.2.2.2.2.2.2.1, x.2.2.2.2.2.2.2.2.2.2.2.2.2.2.2.2.1, x.2.2.2.2.2.2.2.2.2.2.2.2.2.2.2.2.2)]) H → va_D A (List.flatten [w_Model E a o (x.1, x.2.1, x.2.2.1, x.2.2.2.1, x.2.2.2.2.1, x.2.2.2.2.2.1, x.2.2.2.2.2.2.1, x.2.2.2.2.2.2.2.1, x.2.2.2.2.2.2.2.2.1, x.2.2.2.2.2.2.2.2.2.1, j7, j8, q1.1, q1.2, x.2.2.2.2.2.2.2.2.2.2.2.2.2.2.1, x.2.2.2.2.2.2.2.2.2.2.2.2.2.2.2.1, x.2.2.2.2.2.2.2.2.2.2.2.2.2.2.2.2.1, x.2.2.2.2.2.2.2.2.2.2.2.2.2.2.2.2.2)]) → va_S A s.heap H locs → lv_has ls 3 [(2, .int i2), (0, .ref (a o))] → W p l e rm_X11_writeChord s m args below meth c H locs 0 0 Q (F0 m 30 ls []) := by
          intro j7 j8 H locs ls hF hP hD hS hl
          rw [hJ30] at hF
          refine lv_aload_n hx hb dX11_writeChord_30 rfl (lv_at hl 1 rfl) ?_
          refine lv_aload_n hx hb dX11_writeChord_31 rfl (lv_at hl 1 rfl) ?_
          refine va_get (D := E.1) (ci := 13) (v := .ref (a (o + 7))) (C := RX11) (T := TX11) (N := 18) hx hb ha in_X11 hown hst.k hP 0 rfl rfl 12 (by decide) (ha _ mw1648) (fun _ h9 => h9) rfl dX11_writeChord_32 ?_
          refine lv_iload_n hx hb dX11_writeChord_35 rfl (lv_at hl 0 rfl) ?_
          obtain ⟨g9, hF⟩ := q_gdi hF
          refine vi_iald hx hb hst.k hP 7 0 rfl rfl (f := q1.1) (k := i2.toNatClampNeg) rfl g9 dX11_writeChord_36 ?_
          obtain ⟨q10, hq10, hF⟩ := q_bdi hF
          refine cl_v (Lc := [w_Model E a o (x.1, x.2.1, x.2.2.1, x.2.2.2.1, x.2.2.2.2.1, x.2.2.2.2.2.1, x.2.2.2.2.2.2.1, x.2.2.2.2.2.2.2.1, x.2.2.2.2.2.2.2.2.1, x.2.2.2.2.2.2.2.2.2.1, j7, j8, q1.1, q1.2, x.2.2.2.2.2.2.2.2.2.2.2.2.2.2.1, x.2.2.2.2.2.2.2.2.2.2.2.2.2.2.2.1, x.2.2.2.2.2.2.2.2.2.2.2.2.2.2.2.2.1, x.2.2.2.2.2.2.2.2.2.2.2.2.2.2.2.2.2)]) (Lc' := [w_Model E a o (x.1, x.2.1, x.2.2.1, x.2.2.2.1, x.2.2.2.2.1, x.2.2.2.2.2.1, x.2.2.2.2.2.2.1, x.2.2.2.2.2.2.2.1, x.2.2.2.2.2.2.2.2.1, x.2.2.2.2.2.2.2.2.2.1, q10.1, q10.2, q1.1, q1.2, x.2.2.2.2.2.2.2.2.2.2.2.2.2.2.1, x.2.2.2.2.2.2.2.2.2.2.2.2.2.2.2.1, x.2.2.2.2.2.2.2.2.2.2.2.2.2.2.2.2.1, x.2.2.2.2.2.2.2.2.2.2.2.2.2.2.2.2.2)]) (L' := [w_Model E a o (x.1, x.2.1, x.2.2.1, x.2.2.2.1, x.2.2.2.2.1, x.2.2.2.2.2.1, x.2.2.2.2.2.2.1, x.2.2.2.2.2.2.2.1, x.2.2.2.2.2.2.2.2.1, x.2.2.2.2.2.2.2.2.2.1, q10.1, q10.2, q1.1, q1.2, x.2.2.2.2.2.2.2.2.2.2.2.2.2.2.1, x.2.2.2.2.2.2.2.2.2.2.2.2.2.2.2.1, x.2.2.2.2.2.2.2.2.2.2.2.2.2.2.2.2.1, x.2.2.2.2.2.2.2.2.2.2.2.2.2.2.2.2.2)]) (va_runV (As := [.int (q1.1 (i2.toNatClampNeg))]) (rest := []) ⟨hx, hb, hml, hown, ha⟩ (k_X11_writesNumber l E a o (x.1, x.2.1, x.2.2.1, x.2.2.2.1, x.2.2.2.2.1, x.2.2.2.2.2.1, x.2.2.2.2.2.2.1, x.2.2.2.2.2.2.2.1, x.2.2.2.2.2.2.2.2.1, x.2.2.2.2.2.2.2.2.2.1, j7, j8, q1.1, q1.2, x.2.2.2.2.2.2.2.2.2.2.2.2.2.2.1, x.2.2.2.2.2.2.2.2.2.2.2.2.2.2.2.1, x.2.2.2.2.2.2.2.2.2.2.2.2.2.2.2.2.1, x.2.2.2.2.2.2.2.2.2.2.2.2.2.2.2.2.2) (q1.1 (i2.toNatClampNeg)) q10 hq10 H.size) (cwV 1 ha (gi_V (fun _ h => h) mw2090 mw2092 mw70 mw87 mw2093) rfl rfl rfl hv_X11_writesNumber ⟨(Nat.le_of_ble_eq_true rfl), (Nat.le_of_ble_eq_true rfl)⟩) ⟨pre_blind, va_recv hst.k (fr_P hP [0] rfl) (ci := 13) (q0 := 0) rfl rfl, pre_at hP hD hS hz hzs hst [0] (by decide) rfl rfl⟩ rfl rfl hl.1 rfl (lv_room (Nat.le_of_ble_eq_true rfl)) dX11_writeChord_37 ⟨(Nat.le_of_ble_eq_true rfl), (Nat.le_of_ble_eq_true rfl)⟩) hP hD hS hA [0] (by decide) rfl rfl rfl rfl (fun H locs hP hD hS => ?_)
          obtain ⟨v11, ev11⟩ : ∃ y : Int32, y = i2 + 1 := ⟨_, rfl⟩
          have hF := q_lti ev11 hF
          refine lv_iinc (v := v11) (lv' := [(2, .int v11), (0, .ref (a o))]) hx hb dX11_writeChord_40 hl (k := 0) rfl (by rw [ev11]; rfl) (by decide) rfl (fun ls hl => ?_)
          refine lv_goto (tgt := 12) hx hb dX11_writeChord_43 (by decide) ?_
          exact ih12 v11 q10.1 q10.2 H locs ls hF hP hD hS (lv_sub hl [0, 1] rfl)
        refine lv_if_le (tgt := 30) hx hb dX11_writeChord_21 (by decide) (fun c21 => ?_) (fun c21 => ?_)
        · have hF := q_brp c21 hF
          exact jJ30 i3 i4 H locs ls hF hP hD hS (lv_sub hl [0, 1] rfl)
        · have hF := q_brn c21 hF
          refine lv_aload_n hx hb dX11_writeChord_24 rfl (lv_at hl 1 rfl) ?_
          refine lv_bipush (v := 32) hx hb dX11_writeChord_25 (by decide) ?_
          obtain ⟨q12, hq12, hF⟩ := q_bdi hF
          refine cl_v (Lc := [w_Model E a o (x.1, x.2.1, x.2.2.1, x.2.2.2.1, x.2.2.2.2.1, x.2.2.2.2.2.1, x.2.2.2.2.2.2.1, x.2.2.2.2.2.2.2.1, x.2.2.2.2.2.2.2.2.1, x.2.2.2.2.2.2.2.2.2.1, i3, i4, q1.1, q1.2, x.2.2.2.2.2.2.2.2.2.2.2.2.2.2.1, x.2.2.2.2.2.2.2.2.2.2.2.2.2.2.2.1, x.2.2.2.2.2.2.2.2.2.2.2.2.2.2.2.2.1, x.2.2.2.2.2.2.2.2.2.2.2.2.2.2.2.2.2)]) (Lc' := [w_Model E a o (x.1, x.2.1, x.2.2.1, x.2.2.2.1, x.2.2.2.2.1, x.2.2.2.2.2.1, x.2.2.2.2.2.2.1, x.2.2.2.2.2.2.2.1, x.2.2.2.2.2.2.2.2.1, x.2.2.2.2.2.2.2.2.2.1, q12.1, q12.2, q1.1, q1.2, x.2.2.2.2.2.2.2.2.2.2.2.2.2.2.1, x.2.2.2.2.2.2.2.2.2.2.2.2.2.2.2.1, x.2.2.2.2.2.2.2.2.2.2.2.2.2.2.2.2.1, x.2.2.2.2.2.2.2.2.2.2.2.2.2.2.2.2.2)]) (L' := [w_Model E a o (x.1, x.2.1, x.2.2.1, x.2.2.2.1, x.2.2.2.2.1, x.2.2.2.2.2.1, x.2.2.2.2.2.2.1, x.2.2.2.2.2.2.2.1, x.2.2.2.2.2.2.2.2.1, x.2.2.2.2.2.2.2.2.2.1, q12.1, q12.2, q1.1, q1.2, x.2.2.2.2.2.2.2.2.2.2.2.2.2.2.1, x.2.2.2.2.2.2.2.2.2.2.2.2.2.2.2.1, x.2.2.2.2.2.2.2.2.2.2.2.2.2.2.2.2.1, x.2.2.2.2.2.2.2.2.2.2.2.2.2.2.2.2.2)]) (va_runV (As := [.int 32]) (rest := []) ⟨hx, hb, hml, hown, ha⟩ (k_X11_writes l E a o (x.1, x.2.1, x.2.2.1, x.2.2.2.1, x.2.2.2.2.1, x.2.2.2.2.2.1, x.2.2.2.2.2.2.1, x.2.2.2.2.2.2.2.1, x.2.2.2.2.2.2.2.2.1, x.2.2.2.2.2.2.2.2.2.1, i3, i4, q1.1, q1.2, x.2.2.2.2.2.2.2.2.2.2.2.2.2.2.1, x.2.2.2.2.2.2.2.2.2.2.2.2.2.2.2.1, x.2.2.2.2.2.2.2.2.2.2.2.2.2.2.2.2.1, x.2.2.2.2.2.2.2.2.2.2.2.2.2.2.2.2.2) 32 q12 hq12 H.size) (cwV 1 ha (gi_V (fun _ h => h) mw2094 mw2096 mw71 mw87 mw2097) rfl rfl rfl hv_X11_writes ⟨(Nat.le_of_ble_eq_true rfl), (Nat.le_of_ble_eq_true rfl)⟩) ⟨pre_blind, va_recv hst.k (fr_P hP [0] rfl) (ci := 13) (q0 := 0) rfl rfl, pre_at hP hD hS hz hzs hst [0] (by decide) rfl rfl⟩ rfl rfl hl.1 rfl (lv_room (Nat.le_of_ble_eq_true rfl)) dX11_writeChord_27 ⟨(Nat.le_of_ble_eq_true rfl), (Nat.le_of_ble_eq_true rfl)⟩) hP hD hS hA [0] (by decide) rfl rfl rfl rfl (fun H locs hP hD hS => ?_)
          exact jJ30 q12.1 q12.2 H locs ls hF hP hD hS (lv_sub hl [0, 1] rfl)
  refine key12 _ ?_ _ 0 x.2.2.2.2.2.2.2.2.2.2.1 0 H locs ls hF hP hD hS (lv_sub hl [0, 1] rfl)
  intro y5 y6 H locs ls hF hP hD hS hl
  refine lv_aload_n hx hb dX11_writeChord_46 rfl (lv_at hl 0 rfl) ?_
  refine lv_aload_n hx hb dX11_writeChord_47 rfl (lv_at hl 0 rfl) ?_
  refine va_get (D := E.1) (ci := 13) (v := .int y6) (C := RX11) (T := TX11) (N := 18) hx hb ha in_X11 hown hst.k hP 0 rfl rfl 11 (by decide) (ha _ mw1647) (fun _ h9 => h9) rfl dX11_writeChord_48 ?_
  obtain ⟨q13, hq13, hF⟩ := q_bdi hF
  refine cl_i (Lc := [w_Model E a o (x.1, x.2.1, x.2.2.1, x.2.2.2.1, x.2.2.2.2.1, x.2.2.2.2.2.1, x.2.2.2.2.2.2.1, x.2.2.2.2.2.2.2.1, x.2.2.2.2.2.2.2.2.1, x.2.2.2.2.2.2.2.2.2.1, y5, y6, q1.1, q1.2, x.2.2.2.2.2.2.2.2.2.2.2.2.2.2.1, x.2.2.2.2.2.2.2.2.2.2.2.2.2.2.2.1, x.2.2.2.2.2.2.2.2.2.2.2.2.2.2.2.2.1, x.2.2.2.2.2.2.2.2.2.2.2.2.2.2.2.2.2)]) (Lc' := [w_Model E a o (x.1, x.2.1, x.2.2.1, x.2.2.2.1, x.2.2.2.2.1, x.2.2.2.2.2.1, x.2.2.2.2.2.2.1, x.2.2.2.2.2.2.2.1, x.2.2.2.2.2.2.2.2.1, x.2.2.2.2.2.2.2.2.2.1, y5, y6, q1.1, q1.2, q13.2, x.2.2.2.2.2.2.2.2.2.2.2.2.2.2.2.1, x.2.2.2.2.2.2.2.2.2.2.2.2.2.2.2.2.1, x.2.2.2.2.2.2.2.2.2.2.2.2.2.2.2.2.2)]) (L' := [w_Model E a o (x.1, x.2.1, x.2.2.1, x.2.2.2.1, x.2.2.2.2.1, x.2.2.2.2.2.1, x.2.2.2.2.2.2.1, x.2.2.2.2.2.2.2.1, x.2.2.2.2.2.2.2.2.1, x.2.2.2.2.2.2.2.2.2.1, y5, y6, q1.1, q1.2, q13.2, x.2.2.2.2.2.2.2.2.2.2.2.2.2.2.2.1, x.2.2.2.2.2.2.2.2.2.2.2.2.2.2.2.2.1, x.2.2.2.2.2.2.2.2.2.2.2.2.2.2.2.2.2)]) (rv := q13.1) (va_runV (As := [.int y6]) (rest := []) ⟨hx, hb, hml, hown, ha⟩ (k_X11_done l E a o (x.1, x.2.1, x.2.2.1, x.2.2.2.1, x.2.2.2.2.1, x.2.2.2.2.2.1, x.2.2.2.2.2.2.1, x.2.2.2.2.2.2.2.1, x.2.2.2.2.2.2.2.2.1, x.2.2.2.2.2.2.2.2.2.1, y5, y6, q1.1, q1.2, x.2.2.2.2.2.2.2.2.2.2.2.2.2.2.1, x.2.2.2.2.2.2.2.2.2.2.2.2.2.2.2.1, x.2.2.2.2.2.2.2.2.2.2.2.2.2.2.2.2.1, x.2.2.2.2.2.2.2.2.2.2.2.2.2.2.2.2.2) y6 q13 hq13 H.size) (cwV 1 ha (gi_V (fun _ h => h) mw1720 mw1722 mw30 mw87 mw1723) rfl rfl rfl hv_X11_done ⟨(Nat.le_of_ble_eq_true rfl), (Nat.le_of_ble_eq_true rfl)⟩) ⟨pre_blind, va_recv hst.k (fr_P hP [0] rfl) (ci := 13) (q0 := 0) rfl rfl, pre_at hP hD hS hz hzs hst [0] (by decide) rfl rfl⟩ rfl rfl hl.1 rfl (lv_room (Nat.le_of_ble_eq_true rfl)) dX11_writeChord_51 ⟨(Nat.le_of_ble_eq_true rfl), (Nat.le_of_ble_eq_true rfl)⟩) hP hD hS hA [0] (by decide) rfl rfl rfl rfl (fun H locs hP hD hS => ?_)
  obtain rfl := Option.some.inj hF
  exact en_i hQ (Nat.le_of_ble_eq_true rfl) (Nat.le_of_ble_eq_true rfl) hx hb hr hlocks hP hD hS rfl dX11_writeChord_54

/-! X11_outputAt -/
theorem dX11_outputAt_0 : decode cX11_outputAt 0 = .ok (.aload_n 0, 1) := by decide +kernel
theorem dX11_outputAt_1 : decode cX11_outputAt 1 = .ok (.iload_n 1, 1) := by decide +kernel
theorem dX11_outputAt_2 : decode cX11_outputAt 2 = .ok (.iconst 0, 1) := by decide +kernel
theorem dX11_outputAt_3 : decode cX11_outputAt 3 = .ok (.aload_n 0, 1) := by decide +kernel
theorem dX11_outputAt_4 : decode cX11_outputAt 4 = .ok (.getfield 229, 3) := by decide +kernel
theorem dX11_outputAt_7 : decode cX11_outputAt 7 = .ok (.iconst 1, 1) := by decide +kernel
theorem dX11_outputAt_8 : decode cX11_outputAt 8 = .ok (.isub, 1) := by decide +kernel
theorem dX11_outputAt_9 : decode cX11_outputAt 9 = .ok (.invokestatic 52, 3) := by decide +kernel
theorem dX11_outputAt_12 : decode cX11_outputAt 12 = .ok (.ifCond .eq 7, 3) := by decide +kernel
theorem dX11_outputAt_15 : decode cX11_outputAt 15 = .ok (.iconst 0, 1) := by decide +kernel
theorem dX11_outputAt_16 : decode cX11_outputAt 16 = .ok (.goto 4, 3) := by decide +kernel
theorem dX11_outputAt_19 : decode cX11_outputAt 19 = .ok (.iconst 1, 1) := by decide +kernel
theorem dX11_outputAt_20 : decode cX11_outputAt 20 = .ok (.putfield 42, 3) := by decide +kernel
theorem dX11_outputAt_23 : decode cX11_outputAt 23 = .ok (.aload_n 0, 1) := by decide +kernel
theorem dX11_outputAt_24 : decode cX11_outputAt 24 = .ok (.getfield 42, 3) := by decide +kernel
theorem dX11_outputAt_27 : decode cX11_outputAt 27 = .ok (.ifCond .ne 12, 3) := by decide +kernel
theorem dX11_outputAt_30 : decode cX11_outputAt 30 = .ok (.aload_n 0, 1) := by decide +kernel
theorem dX11_outputAt_31 : decode cX11_outputAt 31 = .ok (.getfield 33, 3) := by decide +kernel
theorem dX11_outputAt_34 : decode cX11_outputAt 34 = .ok (.iload_n 1, 1) := by decide +kernel
theorem dX11_outputAt_35 : decode cX11_outputAt 35 = .ok (.caload, 1) := by decide +kernel
theorem dX11_outputAt_36 : decode cX11_outputAt 36 = .ok (.goto 4, 3) := by decide +kernel
theorem dX11_outputAt_39 : decode cX11_outputAt 39 = .ok (.iconst 0, 1) := by decide +kernel
theorem dX11_outputAt_40 : decode cX11_outputAt 40 = .ok (.ireturn, 1) := by decide +kernel
def f_X11_outputAt (x_letters : (Nat → Int32)) (x_lineLength : Int32) (x_thrown : Int32) (p1 : Int32) : Option (Int32 × Int32) :=
  q_bd (f_X11_in p1 0 (x_lineLength - 1)) (fun q1 =>
  q_lt (fun (j2 : Int32) =>
  q_br (j2 = 0) (
  q_gd (q_in p1 80) (
  q_gd (((x_letters (p1.toNatClampNeg)).toUInt32 % 65536).toInt32 = (x_letters (p1.toNatClampNeg))) (
  some (x_letters (p1.toNatClampNeg), j2)))) (
  some (0, j2))) (fun (J20 : Int32 → Option (Int32 × Int32)) =>
  q_br (q1 = 0) (
  J20 1) (
  J20 0)))
theorem hv_X11_outputAt : yX11_outputAt.cls = RX11 ∧ yX11_outputAt.cls ≠ "java/lang/invoke/MethodHandle" ∧ yX11_outputAt.cls ≠ "java/lang/invoke/VarHandle" ∧ (parseMethodDescriptor yX11_outputAt.desc).map (fun d => d.parameters.length) = some 1 := by decide +kernel
abbrev rm_X11_outputAt : Room := { frames := 1, cells := 0, slots := 0, locals := 22 }
set_option maxHeartbeats 4000000 in
set_option maxRecDepth 100000 in
theorem k_X11_outputAt (l : Launch) (E : ET) (a : Nat → Nat) (o : Nat) (x : Model_t) (p1 : Int32) (res : Int32 × Int32) (hF : f_X11_outputAt x.2.2.2.2.2.2.2.2.2.2.1 x.2.2.2.2.2.2.2.2.2.2.2.1 x.2.2.2.2.2.2.2.2.2.2.2.2.2.2.1 p1 = some res) (sz : Nat) : CtI l yX11_outputAt (mws yX11_outputAt cX11_outputAt 2 (some .char)) rm_X11_outputAt 0 0 [.ref (a o), .int p1] E (bl_Model E a o x) res.1 (bl_Model E a o (x.1, x.2.1, x.2.2.1, x.2.2.2.1, x.2.2.2.2.1, x.2.2.2.2.2.1, x.2.2.2.2.2.2.1, x.2.2.2.2.2.2.2.1, x.2.2.2.2.2.2.2.2.1, x.2.2.2.2.2.2.2.2.2.1, x.2.2.2.2.2.2.2.2.2.2.1, x.2.2.2.2.2.2.2.2.2.2.2.1, x.2.2.2.2.2.2.2.2.2.2.2.2.1, x.2.2.2.2.2.2.2.2.2.2.2.2.2.1, res.2, x.2.2.2.2.2.2.2.2.2.2.2.2.2.2.2.1, x.2.2.2.2.2.2.2.2.2.2.2.2.2.2.2.2.1, x.2.2.2.2.2.2.2.2.2.2.2.2.2.2.2.2.2)) sz := by
  refine mk_M (by decide +kernel) (Nat.le_of_ble_eq_true rfl) ?_
  intro p e s m below meth c A args Q ls hAe hsz hQ hx hb hr hml hin ha hown hlocks hA hz hzs hst hP hD hS hl
  have hown : s.vm.findClass RX11 = some m.cls := hown
  rw [hAe] at hQ
  subst hsz
  have hP : va_P E.1 vwCl (List.flatten [w_Model E a o x]) s.heap := hP
  have hD : va_D A (List.flatten [w_Model E a o x]) := hD
  have hl : lv_has ls 2 [(0, .ref (a o)), (1, .int p1)] := hl
  generalize hHe : s.heap = H at hP
  have hS : va_S A s.heap H [] := by rw [← hHe]; exact hS
  generalize ([] : List Loc) = locs at hS ⊢
  unfold f_X11_outputAt at hF
  refine lv_aload_n hx hb dX11_outputAt_0 rfl (lv_at hl 0 rfl) ?_
  refine lv_iload_n hx hb dX11_outputAt_1 rfl (lv_at hl 1 rfl) ?_
  refine lv_iconst (v := 0) hx hb dX11_outputAt_2 (by decide) ?_
  refine lv_aload_n hx hb dX11_outputAt_3 rfl (lv_at hl 0 rfl) ?_
  refine va_get (D := E.1) (ci := 13) (v := .int x.2.2.2.2.2.2.2.2.2.2.2.1) (C := RX11) (T := TX11) (N := 18) hx hb ha in_X11 hown hst.k hP 0 rfl rfl 11 (by decide) (ha _ mw1647) (fun _ h9 => h9) rfl dX11_outputAt_4 ?_
  refine lv_iconst (v := 1) hx hb dX11_outputAt_7 (by decide) ?_
  refine lv_isub hx hb dX11_outputAt_8 ?_
  obtain ⟨q1, hq1, hF⟩ := q_bdi hF
  refine cl_i (Lc := []) (Lc' := []) (L' := [w_Model E a o x]) (rv := q1) (va_runS (As := [.int p1, .int 0, .int (x.2.2.2.2.2.2.2.2.2.2.2.1 - 1)]) (rest := [.ref (a o)]) ⟨hx, hb, hml, hown, ha⟩ (k_X11_in l E p1 0 (x.2.2.2.2.2.2.2.2.2.2.2.1 - 1) q1 hq1 H.size) (cwS 3 ha (gi_S (fun _ h => h) mw1713 mw1714 mw87 mw1715) rfl rfl rfl hv_X11_in ⟨(Nat.le_of_ble_eq_true rfl), (Nat.le_of_ble_eq_true rfl)⟩) ⟨pre_blind, pre_at hP hD hS hz hzs hst [] (by decide) rfl rfl⟩ rfl rfl hl.1 rfl (lv_room (Nat.le_of_ble_eq_true rfl)) dX11_outputAt_9 ⟨(Nat.le_of_ble_eq_true rfl), (Nat.le_of_ble_eq_true rfl)⟩) hP hD hS hA [] (by decide) rfl rfl rfl rfl (fun H locs hP hD hS => ?_)
  obtain ⟨J20, hJ20, hF⟩ := q_jn hF
  have jJ20 : ∀ (j2 : Int32), ∀ (H : Heap) (locs : List Loc) (ls : Array Slot), J20 j2 = some res → va_P E.1 vwCl (List.flatten [w_Model E a o x]) H → va_D A (List.flatten [w_Model E a o x]) → va_S A s.heap H locs → lv_has ls 2 [(0, .ref (a o)), (1, .int p1)] → W p l e rm_X11_outputAt s m args below meth c H locs 0 0 Q (F0 m 20 ls [.int j2, .ref (a o)]) := by
    intro j2 H locs ls hF hP hD hS hl
    rw [hJ20] at hF
    refine va_put (D := E.1) (ci := 13) (v := .int j2) (ty := .int) (C := RX11) (T := TX11) (N := 18) hx hb ha in_X11 tyX11 tyX11_ok nmX11 hown hst.k hP hD hS 0 rfl rfl 14 (by decide) (ha _ mw1650) (fun _ h9 => h9) rfl (tyX11_ok 14 (by decide)) rfl rfl (Nat.le_of_ble_eq_true rfl) dX11_outputAt_20 (fun H locs hP hD hS => ?_)
    have hP : va_P E.1 vwCl (List.flatten [w_Model E a o (x.1, x.2.1, x.2.2.1, x.2.2.2.1, x.2.2.2.2.1, x.2.2.2.2.2.1, x.2.2.2.2.2.2.1, x.2.2.2.2.2.2.2.1, x.2.2.2.2.2.2.2.2.1, x.2.2.2.2.2.2.2.2.2.1, x.2.2.2.2.2.2.2.2.2.2.1, x.2.2.2.2.2.2.2.2.2.2.2.1, x.2.2.2.2.2.2.2.2.2.2.2.2.1, x.2.2.2.2.2.2.2.2.2.2.2.2.2.1, j2, x.2.2.2.2.2.2.2.2.2.2.2.2.2.2.2.1, x.2.2.2.2.2.2.2.2.2.2.2.2.2.2.2.2.1, x.2.2.2.2.2.2.2.2.2.2.2.2.2.2.2.2.2)]) H := hP
    have hD : va_D A (List.flatten [w_Model E a o (x.1, x.2.1, x.2.2.1, x.2.2.2.1, x.2.2.2.2.1, x.2.2.2.2.2.1, x.2.2.2.2.2.2.1, x.2.2.2.2.2.2.2.1, x.2.2.2.2.2.2.2.2.1, x.2.2.2.2.2.2.2.2.2.1, x.2.2.2.2.2.2.2.2.2.2.1, x.2.2.2.2.2.2.2.2.2.2.2.1, x.2.2.2.2.2.2.2.2.2.2.2.2.1, x.2.2.2.2.2.2.2.2.2.2.2.2.2.1, j2, x.2.2.2.2.2.2.2.2.2.2.2.2.2.2.2.1, x.2.2.2.2.2.2.2.2.2.2.2.2.2.2.2.2.1, x.2.2.2.2.2.2.2.2.2.2.2.2.2.2.2.2.2)]) := hD
    refine lv_aload_n hx hb dX11_outputAt_23 rfl (lv_at hl 0 rfl) ?_
    refine va_get (D := E.1) (ci := 13) (v := .int j2) (C := RX11) (T := TX11) (N := 18) hx hb ha in_X11 hown hst.k hP 0 rfl rfl 14 (by decide) (ha _ mw1650) (fun _ h9 => h9) rfl dX11_outputAt_24 ?_
    refine lv_if_ne (tgt := 39) hx hb dX11_outputAt_27 (by decide) (fun c27 => ?_) (fun c27 => ?_)
    · have hF := q_brn c27 hF
      refine lv_iconst (v := 0) hx hb dX11_outputAt_39 (by decide) ?_
      obtain rfl := Option.some.inj hF
      exact en_z hQ (Nat.le_of_ble_eq_true rfl) (Nat.le_of_ble_eq_true rfl) hx hb hr hlocks (by decide) hP hD hS rfl dX11_outputAt_40
    · have hF := q_brp c27 hF
      refine lv_aload_n hx hb dX11_outputAt_30 rfl (lv_at hl 0 rfl) ?_
      refine va_get (D := E.1) (ci := 13) (v := .ref (a (o + 6))) (C := RX11) (T := TX11) (N := 18) hx hb ha in_X11 hown hst.k hP 0 rfl rfl 10 (by decide) (ha _ mw1646) (fun _ h9 => h9) rfl dX11_outputAt_31 ?_
      refine lv_iload_n hx hb dX11_outputAt_34 rfl (lv_at hl 1 rfl) ?_
      obtain ⟨g3, hF⟩ := q_gdi hF
      refine vi_cald hx hb hst.k hP 6 1 rfl rfl (f := x.2.2.2.2.2.2.2.2.2.2.1) (k := p1.toNatClampNeg) rfl g3 dX11_outputAt_35 ?_
      refine lv_goto (tgt := 40) hx hb dX11_outputAt_36 (by decide) ?_
      obtain ⟨g4, hF⟩ := q_gdi hF
      obtain rfl := Option.some.inj hF
      exact en_z hQ (Nat.le_of_ble_eq_true rfl) (Nat.le_of_ble_eq_true rfl) hx hb hr hlocks (nz_c g4) hP hD hS rfl dX11_outputAt_40
  refine lv_if_eq (tgt := 19) hx hb dX11_outputAt_12 (by decide) (fun c12 => ?_) (fun c12 => ?_)
  · have hF := q_brp c12 hF
    refine lv_iconst (v := 1) hx hb dX11_outputAt_19 (by decide) ?_
    exact jJ20 1 H locs ls hF hP hD hS (lv_sub hl [0, 1] rfl)
  · have hF := q_brn c12 hF
    refine lv_iconst (v := 0) hx hb dX11_outputAt_15 (by decide) ?_
    refine lv_goto (tgt := 20) hx hb dX11_outputAt_16 (by decide) ?_
    exact jJ20 0 H locs ls hF hP hD hS (lv_sub hl [0, 1] rfl)

/-! X11_undo -/
theorem dX11_undo_0 : decode cX11_undo 0 = .ok (.aload_n 0, 1) := by decide +kernel
theorem dX11_undo_1 : decode cX11_undo 1 = .ok (.getfield 49, 3) := by decide +kernel
theorem dX11_undo_4 : decode cX11_undo 4 = .ok (.ifCond .ne 9, 3) := by decide +kernel
theorem dX11_undo_7 : decode cX11_undo 7 = .ok (.aload_n 0, 1) := by decide +kernel
theorem dX11_undo_8 : decode cX11_undo 8 = .ok (.iconst 1, 1) := by decide +kernel
theorem dX11_undo_9 : decode cX11_undo 9 = .ok (.invokevirtual 80, 3) := by decide +kernel
theorem dX11_undo_12 : decode cX11_undo 12 = .ok (.ireturn, 1) := by decide +kernel
theorem dX11_undo_13 : decode cX11_undo 13 = .ok (.aload_n 0, 1) := by decide +kernel
theorem dX11_undo_14 : decode cX11_undo 14 = .ok (.dup, 1) := by decide +kernel
theorem dX11_undo_15 : decode cX11_undo 15 = .ok (.getfield 49, 3) := by decide +kernel
theorem dX11_undo_18 : decode cX11_undo 18 = .ok (.iconst 1, 1) := by decide +kernel
theorem dX11_undo_19 : decode cX11_undo 19 = .ok (.isub, 1) := by decide +kernel
theorem dX11_undo_20 : decode cX11_undo 20 = .ok (.putfield 49, 3) := by decide +kernel
theorem dX11_undo_23 : decode cX11_undo 23 = .ok (.aload_n 0, 1) := by decide +kernel
theorem dX11_undo_24 : decode cX11_undo 24 = .ok (.getfield 16, 3) := by decide +kernel
theorem dX11_undo_27 : decode cX11_undo 27 = .ok (.aload_n 0, 1) := by decide +kernel
theorem dX11_undo_28 : decode cX11_undo 28 = .ok (.getfield 49, 3) := by decide +kernel
theorem dX11_undo_31 : decode cX11_undo 31 = .ok (.bipush 77, 2) := by decide +kernel
theorem dX11_undo_33 : decode cX11_undo 33 = .ok (.imul, 1) := by decide +kernel
theorem dX11_undo_34 : decode cX11_undo 34 = .ok (.aload_n 0, 1) := by decide +kernel
theorem dX11_undo_35 : decode cX11_undo 35 = .ok (.getfield 7, 3) := by decide +kernel
theorem dX11_undo_38 : decode cX11_undo 38 = .ok (.iconst 0, 1) := by decide +kernel
theorem dX11_undo_39 : decode cX11_undo 39 = .ok (.invokestatic 45, 3) := by decide +kernel
theorem dX11_undo_42 : decode cX11_undo 42 = .ok (.aload_n 0, 1) := by decide +kernel
theorem dX11_undo_43 : decode cX11_undo 43 = .ok (.aload_n 0, 1) := by decide +kernel
theorem dX11_undo_44 : decode cX11_undo 44 = .ok (.getfield 49, 3) := by decide +kernel
theorem dX11_undo_47 : decode cX11_undo 47 = .ok (.invokevirtual 83, 3) := by decide +kernel
theorem dX11_undo_50 : decode cX11_undo 50 = .ok (.ireturn, 1) := by decide +kernel
def f_X11_undo (x_g : (Nat → Int32)) (x_history : (Nat → Int32)) (x_changes : Int32) (x_thrown : Int32) : Option (Int32 × (Nat → Int32) × Int32 × Int32) :=
  q_br (x_changes = 0) (
  q_bd (f_X11_fails x_thrown 1) (fun q3 =>
  some (q3.1, x_g, x_changes, q3.2))) (
  q_bd (f_X11_copy x_history x_g 616 ((x_changes - 1) * 77) 77 0) (fun q1 =>
  q_bd (f_X11_done x_thrown (x_changes - 1)) (fun q2 =>
  some (q2.1, q1, x_changes - 1, q2.2))))
theorem hv_X11_undo : yX11_undo.cls = RX11 ∧ yX11_undo.cls ≠ "java/lang/invoke/MethodHandle" ∧ yX11_undo.cls ≠ "java/lang/invoke/VarHandle" ∧ (parseMethodDescriptor yX11_undo.desc).map (fun d => d.parameters.length) = some 0 := by decide +kernel
abbrev rm_X11_undo : Room := { frames := 1, cells := 0, slots := 0, locals := 24 }
set_option maxHeartbeats 4000000 in
set_option maxRecDepth 100000 in
theorem k_X11_undo (l : Launch) (E : ET) (a : Nat → Nat) (o : Nat) (x : Model_t) (res : Int32 × (Nat → Int32) × Int32 × Int32) (hF : f_X11_undo x.1 x.2.2.1 x.2.2.2.1 x.2.2.2.2.2.2.2.2.2.2.2.2.2.2.1 = some res) (sz : Nat) : CtI l yX11_undo (mws yX11_undo cX11_undo 1 (some .int)) rm_X11_undo 0 0 [.ref (a o)] E (bl_Model E a o x) res.1 (bl_Model E a o (res.2.1, x.2.1, x.2.2.1, res.2.2.1, x.2.2.2.2.1, x.2.2.2.2.2.1, x.2.2.2.2.2.2.1, x.2.2.2.2.2.2.2.1, x.2.2.2.2.2.2.2.2.1, x.2.2.2.2.2.2.2.2.2.1, x.2.2.2.2.2.2.2.2.2.2.1, x.2.2.2.2.2.2.2.2.2.2.2.1, x.2.2.2.2.2.2.2.2.2.2.2.2.1, x.2.2.2.2.2.2.2.2.2.2.2.2.2.1, res.2.2.2, x.2.2.2.2.2.2.2.2.2.2.2.2.2.2.2.1, x.2.2.2.2.2.2.2.2.2.2.2.2.2.2.2.2.1, x.2.2.2.2.2.2.2.2.2.2.2.2.2.2.2.2.2)) sz := by
  refine mk_M (by decide +kernel) (Nat.le_of_ble_eq_true rfl) ?_
  intro p e s m below meth c A args Q ls hAe hsz hQ hx hb hr hml hin ha hown hlocks hA hz hzs hst hP hD hS hl
  have hown : s.vm.findClass RX11 = some m.cls := hown
  rw [hAe] at hQ
  subst hsz
  have hP : va_P E.1 vwCl (List.flatten [w_Model E a o x]) s.heap := hP
  have hD : va_D A (List.flatten [w_Model E a o x]) := hD
  have hl : lv_has ls 1 [(0, .ref (a o))] := hl
  generalize hHe : s.heap = H at hP
  have hS : va_S A s.heap H [] := by rw [← hHe]; exact hS
  generalize ([] : List Loc) = locs at hS ⊢
  unfold f_X11_undo at hF
  refine lv_aload_n hx hb dX11_undo_0 rfl (lv_at hl 0 rfl) ?_
  refine va_get (D := E.1) (ci := 13) (v := .int x.2.2.2.1) (C := RX11) (T := TX11) (N := 18) hx hb ha in_X11 hown hst.k hP 0 rfl rfl 3 (by decide) (ha _ mw1639) (fun _ h9 => h9) rfl dX11_undo_1 ?_
  refine lv_if_ne (tgt := 13) hx hb dX11_undo_4 (by decide) (fun c4 => ?_) (fun c4 => ?_)
  · have hF := q_brn c4 hF
    refine lv_aload_n hx hb dX11_undo_13 rfl (lv_at hl 0 rfl) ?_
    refine lv_dup hx hb dX11_undo_14 rfl ?_
    refine va_get (D := E.1) (ci := 13) (v := .int x.2.2.2.1) (C := RX11) (T := TX11) (N := 18) hx hb ha in_X11 hown hst.k hP 0 rfl rfl 3 (by decide) (ha _ mw1639) (fun _ h9 => h9) rfl dX11_undo_15 ?_
    refine lv_iconst (v := 1) hx hb dX11_undo_18 (by decide) ?_
    refine lv_isub hx hb dX11_undo_19 ?_
    refine va_put (D := E.1) (ci := 13) (v := .int (x.2.2.2.1 - 1)) (ty := .int) (C := RX11) (T := TX11) (N := 18) hx hb ha in_X11 tyX11 tyX11_ok nmX11 hown hst.k hP hD hS 0 rfl rfl 3 (by decide) (ha _ mw1639) (fun _ h9 => h9) rfl (tyX11_ok 3 (by decide)) rfl rfl (Nat.le_of_ble_eq_true rfl) dX11_undo_20 (fun H locs hP hD hS => ?_)
    have hP : va_P E.1 vwCl (List.flatten [w_Model E a o (x.1, x.2.1, x.2.2.1, x.2.2.2.1 - 1, x.2.2.2.2.1, x.2.2.2.2.2.1, x.2.2.2.2.2.2.1, x.2.2.2.2.2.2.2.1, x.2.2.2.2.2.2.2.2.1, x.2.2.2.2.2.2.2.2.2.1, x.2.2.2.2.2.2.2.2.2.2.1, x.2.2.2.2.2.2.2.2.2.2.2.1, x.2.2.2.2.2.2.2.2.2.2.2.2.1, x.2.2.2.2.2.2.2.2.2.2.2.2.2.1, x.2.2.2.2.2.2.2.2.2.2.2.2.2.2.1, x.2.2.2.2.2.2.2.2.2.2.2.2.2.2.2.1, x.2.2.2.2.2.2.2.2.2.2.2.2.2.2.2.2.1, x.2.2.2.2.2.2.2.2.2.2.2.2.2.2.2.2.2)]) H := hP
    have hD : va_D A (List.flatten [w_Model E a o (x.1, x.2.1, x.2.2.1, x.2.2.2.1 - 1, x.2.2.2.2.1, x.2.2.2.2.2.1, x.2.2.2.2.2.2.1, x.2.2.2.2.2.2.2.1, x.2.2.2.2.2.2.2.2.1, x.2.2.2.2.2.2.2.2.2.1, x.2.2.2.2.2.2.2.2.2.2.1, x.2.2.2.2.2.2.2.2.2.2.2.1, x.2.2.2.2.2.2.2.2.2.2.2.2.1, x.2.2.2.2.2.2.2.2.2.2.2.2.2.1, x.2.2.2.2.2.2.2.2.2.2.2.2.2.2.1, x.2.2.2.2.2.2.2.2.2.2.2.2.2.2.2.1, x.2.2.2.2.2.2.2.2.2.2.2.2.2.2.2.2.1, x.2.2.2.2.2.2.2.2.2.2.2.2.2.2.2.2.2)]) := hD
    refine lv_aload_n hx hb dX11_undo_23 rfl (lv_at hl 0 rfl) ?_
    refine va_get (D := E.1) (ci := 13) (v := .ref (a (o + 3))) (C := RX11) (T := TX11) (N := 18) hx hb ha in_X11 hown hst.k hP 0 rfl rfl 2 (by decide) (ha _ mw1638) (fun _ h9 => h9) rfl dX11_undo_24 ?_
    refine lv_aload_n hx hb dX11_undo_27 rfl (lv_at hl 0 rfl) ?_
    refine va_get (D := E.1) (ci := 13) (v := .int (x.2.2.2.1 - 1)) (C := RX11) (T := TX11) (N := 18) hx hb ha in_X11 hown hst.k hP 0 rfl rfl 3 (by decide) (ha _ mw1639) (fun _ h9 => h9) rfl dX11_undo_28 ?_
    refine lv_bipush (v := 77) hx hb dX11_undo_31 (by decide) ?_
    refine lv_imul hx hb dX11_undo_33 ?_
    refine lv_aload_n hx hb dX11_undo_34 rfl (lv_at hl 0 rfl) ?_
    refine va_get (D := E.1) (ci := 13) (v := .ref (a (o + 1))) (C := RX11) (T := TX11) (N := 18) hx hb ha in_X11 hown hst.k hP 0 rfl rfl 0 (by decide) (ha _ mw1636) (fun _ h9 => h9) rfl dX11_undo_35 ?_
    refine lv_iconst (v := 0) hx hb dX11_undo_38 (by decide) ?_
    have hP : va_P E.1 vwCl (List.flatten [[(a o, .inr (13, [.ref (a (o + 1)), .ref (a (o + 2)), .ref (a (o + 3)), .int (x.2.2.2.1 - 1), .ref (a (o + 4)), .int x.2.2.2.2.2.1, .ref (a (o + 5)), .int x.2.2.2.2.2.2.2.1, .int x.2.2.2.2.2.2.2.2.1, .int x.2.2.2.2.2.2.2.2.2.1, .ref (a (o + 6)), .int x.2.2.2.2.2.2.2.2.2.2.2.1, .ref (a (o + 7)), .int x.2.2.2.2.2.2.2.2.2.2.2.2.2.1, .int x.2.2.2.2.2.2.2.2.2.2.2.2.2.2.1, .int x.2.2.2.2.2.2.2.2.2.2.2.2.2.2.2.1, .int x.2.2.2.2.2.2.2.2.2.2.2.2.2.2.2.2.1, .ref (a (o + 8))]))], [(a (o + 1), .inl (E.2 1, 77, .inl x.1))], [(a (o + 2), .inl (E.2 1, 77, .inl x.2.1))], [(a (o + 3), .inl (E.2 1, 616, .inl x.2.2.1))], [(a (o + 4), .inl (E.2 1, 77, .inl x.2.2.2.2.1))], [(a (o + 5), .inl (E.2 2, 60, .inl x.2.2.2.2.2.2.1))], [(a (o + 6), .inl (E.2 2, 80, .inl x.2.2.2.2.2.2.2.2.2.2.1))], [(a (o + 7), .inl (E.2 1, 24, .inl x.2.2.2.2.2.2.2.2.2.2.2.2.1))], [(a (o + 8), .inl (E.2 1, 180, .inl x.2.2.2.2.2.2.2.2.2.2.2.2.2.2.2.2.2))]]) H := hP
    have hD : va_D A (List.flatten [[(a o, .inr (13, [.ref (a (o + 1)), .ref (a (o + 2)), .ref (a (o + 3)), .int (x.2.2.2.1 - 1), .ref (a (o + 4)), .int x.2.2.2.2.2.1, .ref (a (o + 5)), .int x.2.2.2.2.2.2.2.1, .int x.2.2.2.2.2.2.2.2.1, .int x.2.2.2.2.2.2.2.2.2.1, .ref (a (o + 6)), .int x.2.2.2.2.2.2.2.2.2.2.2.1, .ref (a (o + 7)), .int x.2.2.2.2.2.2.2.2.2.2.2.2.2.1, .int x.2.2.2.2.2.2.2.2.2.2.2.2.2.2.1, .int x.2.2.2.2.2.2.2.2.2.2.2.2.2.2.2.1, .int x.2.2.2.2.2.2.2.2.2.2.2.2.2.2.2.2.1, .ref (a (o + 8))]))], [(a (o + 1), .inl (E.2 1, 77, .inl x.1))], [(a (o + 2), .inl (E.2 1, 77, .inl x.2.1))], [(a (o + 3), .inl (E.2 1, 616, .inl x.2.2.1))], [(a (o + 4), .inl (E.2 1, 77, .inl x.2.2.2.2.1))], [(a (o + 5), .inl (E.2 2, 60, .inl x.2.2.2.2.2.2.1))], [(a (o + 6), .inl (E.2 2, 80, .inl x.2.2.2.2.2.2.2.2.2.2.1))], [(a (o + 7), .inl (E.2 1, 24, .inl x.2.2.2.2.2.2.2.2.2.2.2.2.1))], [(a (o + 8), .inl (E.2 1, 180, .inl x.2.2.2.2.2.2.2.2.2.2.2.2.2.2.2.2.2))]]) := hD
    obtain ⟨q1, hq1, hF⟩ := q_bdi hF
    refine cl_v (Lc := [[(a (o + 3), .inl (E.2 1, 616, .inl x.2.2.1))], [(a (o + 1), .inl (E.2 1, 77, .inl x.1))]]) (Lc' := [[(a (o + 3), .inl (E.2 1, 616, .inl x.2.2.1))], [(a (o + 1), .inl (E.2 1, 77, .inl q1))]]) (L' := [[(a o, .inr (13, [.ref (a (o + 1)), .ref (a (o + 2)), .ref (a (o + 3)), .int (x.2.2.2.1 - 1), .ref (a (o + 4)), .int x.2.2.2.2.2.1, .ref (a (o + 5)), .int x.2.2.2.2.2.2.2.1, .int x.2.2.2.2.2.2.2.2.1, .int x.2.2.2.2.2.2.2.2.2.1, .ref (a (o + 6)), .int x.2.2.2.2.2.2.2.2.2.2.2.1, .ref (a (o + 7)), .int x.2.2.2.2.2.2.2.2.2.2.2.2.2.1, .int x.2.2.2.2.2.2.2.2.2.2.2.2.2.2.1, .int x.2.2.2.2.2.2.2.2.2.2.2.2.2.2.2.1, .int x.2.2.2.2.2.2.2.2.2.2.2.2.2.2.2.2.1, .ref (a (o + 8))]))], [(a (o + 1), .inl (E.2 1, 77, .inl q1))], [(a (o + 2), .inl (E.2 1, 77, .inl x.2.1))], [(a (o + 3), .inl (E.2 1, 616, .inl x.2.2.1))], [(a (o + 4), .inl (E.2 1, 77, .inl x.2.2.2.2.1))], [(a (o + 5), .inl (E.2 2, 60, .inl x.2.2.2.2.2.2.1))], [(a (o + 6), .inl (E.2 2, 80, .inl x.2.2.2.2.2.2.2.2.2.2.1))], [(a (o + 7), .inl (E.2 1, 24, .inl x.2.2.2.2.2.2.2.2.2.2.2.2.1))], [(a (o + 8), .inl (E.2 1, 180, .inl x.2.2.2.2.2.2.2.2.2.2.2.2.2.2.2.2.2))]]) (va_runS (As := [.ref (a (o + 3)), .int ((x.2.2.2.1 - 1) * 77), .ref (a (o + 1)), .int 0]) (rest := []) ⟨hx, hb, hml, hown, ha⟩ (k_X11_copy l E a (o + 3) x.2.2.1 a (o + 1) x.1 616 ((x.2.2.2.1 - 1) * 77) 77 0 q1 hq1 H.size) (cwS 4 ha (gi_S (fun _ h => h) mw1703 mw1704 mw87 mw1705) rfl rfl rfl hv_X11_copy ⟨(Nat.le_of_ble_eq_true rfl), (Nat.le_of_ble_eq_true rfl)⟩) ⟨pre_blind, pre_at hP hD hS hz hzs hst [3, 1] (by decide) rfl rfl⟩ rfl rfl hl.1 rfl (lv_room (Nat.le_of_ble_eq_true rfl)) dX11_undo_39 ⟨(Nat.le_of_ble_eq_true rfl), (Nat.le_of_ble_eq_true rfl)⟩) hP hD hS hA [3, 1] (by decide) rfl rfl rfl rfl (fun H locs hP hD hS => ?_)
    have hP : va_P E.1 vwCl (List.flatten [w_Model E a o (q1, x.2.1, x.2.2.1, x.2.2.2.1 - 1, x.2.2.2.2.1, x.2.2.2.2.2.1, x.2.2.2.2.2.2.1, x.2.2.2.2.2.2.2.1, x.2.2.2.2.2.2.2.2.1, x.2.2.2.2.2.2.2.2.2.1, x.2.2.2.2.2.2.2.2.2.2.1, x.2.2.2.2.2.2.2.2.2.2.2.1, x.2.2.2.2.2.2.2.2.2.2.2.2.1, x.2.2.2.2.2.2.2.2.2.2.2.2.2.1, x.2.2.2.2.2.2.2.2.2.2.2.2.2.2.1, x.2.2.2.2.2.2.2.2.2.2.2.2.2.2.2.1, x.2.2.2.2.2.2.2.2.2.2.2.2.2.2.2.2.1, x.2.2.2.2.2.2.2.2.2.2.2.2.2.2.2.2.2)]) H := hP
    have hD : va_D A (List.flatten [w_Model E a o (q1, x.2.1, x.2.2.1, x.2.2.2.1 - 1, x.2.2.2.2.1, x.2.2.2.2.2.1, x.2.2.2.2.2.2.1, x.2.2.2.2.2.2.2.1, x.2.2.2.2.2.2.2.2.1, x.2.2.2.2.2.2.2.2.2.1, x.2.2.2.2.2.2.2.2.2.2.1, x.2.2.2.2.2.2.2.2.2.2.2.1, x.2.2.2.2.2.2.2.2.2.2.2.2.1, x.2.2.2.2.2.2.2.2.2.2.2.2.2.1, x.2.2.2.2.2.2.2.2.2.2.2.2.2.2.1, x.2.2.2.2.2.2.2.2.2.2.2.2.2.2.2.1, x.2.2.2.2.2.2.2.2.2.2.2.2.2.2.2.2.1, x.2.2.2.2.2.2.2.2.2.2.2.2.2.2.2.2.2)]) := hD
    refine lv_aload_n hx hb dX11_undo_42 rfl (lv_at hl 0 rfl) ?_
    refine lv_aload_n hx hb dX11_undo_43 rfl (lv_at hl 0 rfl) ?_
    refine va_get (D := E.1) (ci := 13) (v := .int (x.2.2.2.1 - 1)) (C := RX11) (T := TX11) (N := 18) hx hb ha in_X11 hown hst.k hP 0 rfl rfl 3 (by decide) (ha _ mw1639) (fun _ h9 => h9) rfl dX11_undo_44 ?_
    obtain ⟨q2, hq2, hF⟩ := q_bdi hF
    refine cl_i (Lc := [w_Model E a o (q1, x.2.1, x.2.2.1, x.2.2.2.1 - 1, x.2.2.2.2.1, x.2.2.2.2.2.1, x.2.2.2.2.2.2.1, x.2.2.2.2.2.2.2.1, x.2.2.2.2.2.2.2.2.1, x.2.2.2.2.2.2.2.2.2.1, x.2.2.2.2.2.2.2.2.2.2.1, x.2.2.2.2.2.2.2.2.2.2.2.1, x.2.2.2.2.2.2.2.2.2.2.2.2.1, x.2.2.2.2.2.2.2.2.2.2.2.2.2.1, x.2.2.2.2.2.2.2.2.2.2.2.2.2.2.1, x.2.2.2.2.2.2.2.2.2.2.2.2.2.2.2.1, x.2.2.2.2.2.2.2.2.2.2.2.2.2.2.2.2.1, x.2.2.2.2.2.2.2.2.2.2.2.2.2.2.2.2.2)]) (Lc' := [w_Model E a o (q1, x.2.1, x.2.2.1, x.2.2.2.1 - 1, x.2.2.2.2.1, x.2.2.2.2.2.1, x.2.2.2.2.2.2.1, x.2.2.2.2.2.2.2.1, x.2.2.2.2.2.2.2.2.1, x.2.2.2.2.2.2.2.2.2.1, x.2.2.2.2.2.2.2.2.2.2.1, x.2.2.2.2.2.2.2.2.2.2.2.1, x.2.2.2.2.2.2.2.2.2.2.2.2.1, x.2.2.2.2.2.2.2.2.2.2.2.2.2.1, q2.2, x.2.2.2.2.2.2.2.2.2.2.2.2.2.2.2.1, x.2.2.2.2.2.2.2.2.2.2.2.2.2.2.2.2.1, x.2.2.2.2.2.2.2.2.2.2.2.2.2.2.2.2.2)]) (L' := [w_Model E a o (q1, x.2.1, x.2.2.1, x.2.2.2.1 - 1, x.2.2.2.2.1, x.2.2.2.2.2.1, x.2.2.2.2.2.2.1, x.2.2.2.2.2.2.2.1, x.2.2.2.2.2.2.2.2.1, x.2.2.2.2.2.2.2.2.2.1, x.2.2.2.2.2.2.2.2.2.2.1, x.2.2.2.2.2.2.2.2.2.2.2.1, x.2.2.2.2.2.2.2.2.2.2.2.2.1, x.2.2.2.2.2.2.2.2.2.2.2.2.2.1, q2.2, x.2.2.2.2.2.2.2.2.2.2.2.2.2.2.2.1, x.2.2.2.2.2.2.2.2.2.2.2.2.2.2.2.2.1, x.2.2.2.2.2.2.2.2.2.2.2.2.2.2.2.2.2)]) (rv := q2.1) (va_runV (As := [.int (x.2.2.2.1 - 1)]) (rest := []) ⟨hx, hb, hml, hown, ha⟩ (k_X11_done l E a o (q1, x.2.1, x.2.2.1, x.2.2.2.1 - 1, x.2.2.2.2.1, x.2.2.2.2.2.1, x.2.2.2.2.2.2.1, x.2.2.2.2.2.2.2.1, x.2.2.2.2.2.2.2.2.1, x.2.2.2.2.2.2.2.2.2.1, x.2.2.2.2.2.2.2.2.2.2.1, x.2.2.2.2.2.2.2.2.2.2.2.1, x.2.2.2.2.2.2.2.2.2.2.2.2.1, x.2.2.2.2.2.2.2.2.2.2.2.2.2.1, x.2.2.2.2.2.2.2.2.2.2.2.2.2.2.1, x.2.2.2.2.2.2.2.2.2.2.2.2.2.2.2.1, x.2.2.2.2.2.2.2.2.2.2.2.2.2.2.2.2.1, x.2.2.2.2.2.2.2.2.2.2.2.2.2.2.2.2.2) (x.2.2.2.1 - 1) q2 hq2 H.size) (cwV 1 ha (gi_V (fun _ h => h) mw1720 mw1722 mw30 mw87 mw1723) rfl rfl rfl hv_X11_done ⟨(Nat.le_of_ble_eq_true rfl), (Nat.le_of_ble_eq_true rfl)⟩) ⟨pre_blind, va_recv hst.k (fr_P hP [0] rfl) (ci := 13) (q0 := 0) rfl rfl, pre_at hP hD hS hz hzs hst [0] (by decide) rfl rfl⟩ rfl rfl hl.1 rfl (lv_room (Nat.le_of_ble_eq_true rfl)) dX11_undo_47 ⟨(Nat.le_of_ble_eq_true rfl), (Nat.le_of_ble_eq_true rfl)⟩) hP hD hS hA [0] (by decide) rfl rfl rfl rfl (fun H locs hP hD hS => ?_)
    obtain rfl := Option.some.inj hF
    exact en_i hQ (Nat.le_of_ble_eq_true rfl) (Nat.le_of_ble_eq_true rfl) hx hb hr hlocks hP hD hS rfl dX11_undo_50
  · have hF := q_brp c4 hF
    refine lv_aload_n hx hb dX11_undo_7 rfl (lv_at hl 0 rfl) ?_
    refine lv_iconst (v := 1) hx hb dX11_undo_8 (by decide) ?_
    obtain ⟨q3, hq3, hF⟩ := q_bdi hF
    refine cl_i (Lc := [w_Model E a o x]) (Lc' := [w_Model E a o (x.1, x.2.1, x.2.2.1, x.2.2.2.1, x.2.2.2.2.1, x.2.2.2.2.2.1, x.2.2.2.2.2.2.1, x.2.2.2.2.2.2.2.1, x.2.2.2.2.2.2.2.2.1, x.2.2.2.2.2.2.2.2.2.1, x.2.2.2.2.2.2.2.2.2.2.1, x.2.2.2.2.2.2.2.2.2.2.2.1, x.2.2.2.2.2.2.2.2.2.2.2.2.1, x.2.2.2.2.2.2.2.2.2.2.2.2.2.1, q3.2, x.2.2.2.2.2.2.2.2.2.2.2.2.2.2.2.1, x.2.2.2.2.2.2.2.2.2.2.2.2.2.2.2.2.1, x.2.2.2.2.2.2.2.2.2.2.2.2.2.2.2.2.2)]) (L' := [w_Model E a o (x.1, x.2.1, x.2.2.1, x.2.2.2.1, x.2.2.2.2.1, x.2.2.2.2.2.1, x.2.2.2.2.2.2.1, x.2.2.2.2.2.2.2.1, x.2.2.2.2.2.2.2.2.1, x.2.2.2.2.2.2.2.2.2.1, x.2.2.2.2.2.2.2.2.2.2.1, x.2.2.2.2.2.2.2.2.2.2.2.1, x.2.2.2.2.2.2.2.2.2.2.2.2.1, x.2.2.2.2.2.2.2.2.2.2.2.2.2.1, q3.2, x.2.2.2.2.2.2.2.2.2.2.2.2.2.2.2.1, x.2.2.2.2.2.2.2.2.2.2.2.2.2.2.2.2.1, x.2.2.2.2.2.2.2.2.2.2.2.2.2.2.2.2.2)]) (rv := q3.1) (va_runV (As := [.int 1]) (rest := []) ⟨hx, hb, hml, hown, ha⟩ (k_X11_fails l E a o x 1 q3 hq3 H.size) (cwV 1 ha (gi_V (fun _ h => h) mw1716 mw1718 mw29 mw87 mw1719) rfl rfl rfl hv_X11_fails ⟨(Nat.le_of_ble_eq_true rfl), (Nat.le_of_ble_eq_true rfl)⟩) ⟨pre_blind, va_recv hst.k (fr_P hP [0] rfl) (ci := 13) (q0 := 0) rfl rfl, pre_at hP hD hS hz hzs hst [0] (by decide) rfl rfl⟩ rfl rfl hl.1 rfl (lv_room (Nat.le_of_ble_eq_true rfl)) dX11_undo_9 ⟨(Nat.le_of_ble_eq_true rfl), (Nat.le_of_ble_eq_true rfl)⟩) hP hD hS hA [0] (by decide) rfl rfl rfl rfl (fun H locs hP hD hS => ?_)
    obtain rfl := Option.some.inj hF
    exact en_i hQ (Nat.le_of_ble_eq_true rfl) (Nat.le_of_ble_eq_true rfl) hx hb hr hlocks hP hD hS rfl dX11_undo_12

/-! X11_save -/
theorem dX11_save_0 : decode cX11_save 0 = .ok (.aload_n 0, 1) := by decide +kernel
theorem dX11_save_1 : decode cX11_save 1 = .ok (.getfield 7, 3) := by decide +kernel
theorem dX11_save_4 : decode cX11_save 4 = .ok (.iconst 0, 1) := by decide +kernel
theorem dX11_save_5 : decode cX11_save 5 = .ok (.aload_n 0, 1) := by decide +kernel
theorem dX11_save_6 : decode cX11_save 6 = .ok (.getfield 19, 3) := by decide +kernel
theorem dX11_save_9 : decode cX11_save 9 = .ok (.iconst 0, 1) := by decide +kernel
theorem dX11_save_10 : decode cX11_save 10 = .ok (.invokestatic 45, 3) := by decide +kernel
theorem dX11_save_13 : decode cX11_save 13 = .ok (.aload_n 0, 1) := by decide +kernel
theorem dX11_save_14 : decode cX11_save 14 = .ok (.iconst 1, 1) := by decide +kernel
theorem dX11_save_15 : decode cX11_save 15 = .ok (.putfield 241, 3) := by decide +kernel
theorem dX11_save_18 : decode cX11_save 18 = .ok (.aload_n 0, 1) := by decide +kernel
theorem dX11_save_19 : decode cX11_save 19 = .ok (.iconst 0, 1) := by decide +kernel
theorem dX11_save_20 : decode cX11_save 20 = .ok (.putfield 42, 3) := by decide +kernel
theorem dX11_save_23 : decode cX11_save 23 = .ok (.return_, 1) := by decide +kernel
def f_X11_save (x_g : (Nat → Int32)) (x_savedState : (Nat → Int32)) (x_hasSaved : Int32) (x_thrown : Int32) : Option ((Nat → Int32) × Int32 × Int32) :=
  q_bd (f_X11_copy x_g x_savedState 77 0 77 0) (fun q1 =>
  some (q1, 1, 0))
theorem hv_X11_save : yX11_save.cls = RX11 ∧ yX11_save.cls ≠ "java/lang/invoke/MethodHandle" ∧ yX11_save.cls ≠ "java/lang/invoke/VarHandle" ∧ (parseMethodDescriptor yX11_save.desc).map (fun d => d.parameters.length) = some 0 := by decide +kernel
abbrev rm_X11_save : Room := { frames := 1, cells := 0, slots := 0, locals := 24 }
set_option maxHeartbeats 4000000 in
set_option maxRecDepth 100000 in
theorem k_X11_save (l : Launch) (E : ET) (a : Nat → Nat) (o : Nat) (x : Model_t) (res : (Nat → Int32) × Int32 × Int32) (hF : f_X11_save x.1 x.2.2.2.2.1 x.2.2.2.2.2.1 x.2.2.2.2.2.2.2.2.2.2.2.2.2.2.1 = some res) (sz : Nat) : CtV l yX11_save (mws yX11_save cX11_save 1 none) rm_X11_save 0 0 [.ref (a o)] E (bl_Model E a o x) (bl_Model E a o (x.1, x.2.1, x.2.2.1, x.2.2.2.1, res.1, res.2.1, x.2.2.2.2.2.2.1, x.2.2.2.2.2.2.2.1, x.2.2.2.2.2.2.2.2.1, x.2.2.2.2.2.2.2.2.2.1, x.2.2.2.2.2.2.2.2.2.2.1, x.2.2.2.2.2.2.2.2.2.2.2.1, x.2.2.2.2.2.2.2.2.2.2.2.2.1, x.2.2.2.2.2.2.2.2.2.2.2.2.2.1, res.2.2, x.2.2.2.2.2.2.2.2.2.2.2.2.2.2.2.1, x.2.2.2.2.2.2.2.2.2.2.2.2.2.2.2.2.1, x.2.2.2.2.2.2.2.2.2.2.2.2.2.2.2.2.2)) sz := by
  refine mk_M (by decide +kernel) (Nat.le_of_ble_eq_true rfl) ?_
  intro p e s m below meth c A args Q ls hAe hsz hQ hx hb hr hml hin ha hown hlocks hA hz hzs hst hP hD hS hl
  have hown : s.vm.findClass RX11 = some m.cls := hown
  rw [hAe] at hQ
  subst hsz
  have hP : va_P E.1 vwCl (List.flatten [w_Model E a o x]) s.heap := hP
  have hD : va_D A (List.flatten [w_Model E a o x]) := hD
  have hl : lv_has ls 1 [(0, .ref (a o))] := hl
  generalize hHe : s.heap = H at hP
  have hS : va_S A s.heap H [] := by rw [← hHe]; exact hS
  generalize ([] : List Loc) = locs at hS ⊢
  unfold f_X11_save at hF
  refine lv_aload_n hx hb dX11_save_0 rfl (lv_at hl 0 rfl) ?_
  refine va_get (D := E.1) (ci := 13) (v := .ref (a (o + 1))) (C := RX11) (T := TX11) (N := 18) hx hb ha in_X11 hown hst.k hP 0 rfl rfl 0 (by decide) (ha _ mw1636) (fun _ h9 => h9) rfl dX11_save_1 ?_
  refine lv_iconst (v := 0) hx hb dX11_save_4 (by decide) ?_
  refine lv_aload_n hx hb dX11_save_5 rfl (lv_at hl 0 rfl) ?_
  refine va_get (D := E.1) (ci := 13) (v := .ref (a (o + 4))) (C := RX11) (T := TX11) (N := 18) hx hb ha in_X11 hown hst.k hP 0 rfl rfl 4 (by decide) (ha _ mw1640) (fun _ h9 => h9) rfl dX11_save_6 ?_
  refine lv_iconst (v := 0) hx hb dX11_save_9 (by decide) ?_
  have hP : va_P E.1 vwCl (List.flatten [[(a o, .inr (13, [.ref (a (o + 1)), .ref (a (o + 2)), .ref (a (o + 3)), .int x.2.2.2.1, .ref (a (o + 4)), .int x.2.2.2.2.2.1, .ref (a (o + 5)), .int x.2.2.2.2.2.2.2.1, .int x.2.2.2.2.2.2.2.2.1, .int x.2.2.2.2.2.2.2.2.2.1, .ref (a (o + 6)), .int x.2.2.2.2.2.2.2.2.2.2.2.1, .ref (a (o + 7)), .int x.2.2.2.2.2.2.2.2.2.2.2.2.2.1, .int x.2.2.2.2.2.2.2.2.2.2.2.2.2.2.1, .int x.2.2.2.2.2.2.2.2.2.2.2.2.2.2.2.1, .int x.2.2.2.2.2.2.2.2.2.2.2.2.2.2.2.2.1, .ref (a (o + 8))]))], [(a (o + 1), .inl (E.2 1, 77, .inl x.1))], [(a (o + 2), .inl (E.2 1, 77, .inl x.2.1))], [(a (o + 3), .inl (E.2 1, 616, .inl x.2.2.1))], [(a (o + 4), .inl (E.2 1, 77, .inl x.2.2.2.2.1))], [(a (o + 5), .inl (E.2 2, 60, .inl x.2.2.2.2.2.2.1))], [(a (o + 6), .inl (E.2 2, 80, .inl x.2.2.2.2.2.2.2.2.2.2.1))], [(a (o + 7), .inl (E.2 1, 24, .inl x.2.2.2.2.2.2.2.2.2.2.2.2.1))], [(a (o + 8), .inl (E.2 1, 180, .inl x.2.2.2.2.2.2.2.2.2.2.2.2.2.2.2.2.2))]]) H := hP
  have hD : va_D A (List.flatten [[(a o, .inr (13, [.ref (a (o + 1)), .ref (a (o + 2)), .ref (a (o + 3)), .int x.2.2.2.1, .ref (a (o + 4)), .int x.2.2.2.2.2.1, .ref (a (o + 5)), .int x.2.2.2.2.2.2.2.1, .int x.2.2.2.2.2.2.2.2.1, .int x.2.2.2.2.2.2.2.2.2.1, .ref (a (o + 6)), .int x.2.2.2.2.2.2.2.2.2.2.2.1, .ref (a (o + 7)), .int x.2.2.2.2.2.2.2.2.2.2.2.2.2.1, .int x.2.2.2.2.2.2.2.2.2.2.2.2.2.2.1, .int x.2.2.2.2.2.2.2.2.2.2.2.2.2.2.2.1, .int x.2.2.2.2.2.2.2.2.2.2.2.2.2.2.2.2.1, .ref (a (o + 8))]))], [(a (o + 1), .inl (E.2 1, 77, .inl x.1))], [(a (o + 2), .inl (E.2 1, 77, .inl x.2.1))], [(a (o + 3), .inl (E.2 1, 616, .inl x.2.2.1))], [(a (o + 4), .inl (E.2 1, 77, .inl x.2.2.2.2.1))], [(a (o + 5), .inl (E.2 2, 60, .inl x.2.2.2.2.2.2.1))], [(a (o + 6), .inl (E.2 2, 80, .inl x.2.2.2.2.2.2.2.2.2.2.1))], [(a (o + 7), .inl (E.2 1, 24, .inl x.2.2.2.2.2.2.2.2.2.2.2.2.1))], [(a (o + 8), .inl (E.2 1, 180, .inl x.2.2.2.2.2.2.2.2.2.2.2.2.2.2.2.2.2))]]) := hD
  obtain ⟨q1, hq1, hF⟩ := q_bdi hF
  refine cl_v (Lc := [[(a (o + 1), .inl (E.2 1, 77, .inl x.1))], [(a (o + 4), .inl (E.2 1, 77, .inl x.2.2.2.2.1))]]) (Lc' := [[(a (o + 1), .inl (E.2 1, 77, .inl x.1))], [(a (o + 4), .inl (E.2 1, 77, .inl q1))]]) (L' := [[(a o, .inr (13, [.ref (a (o + 1)), .ref (a (o + 2)), .ref (a (o + 3)), .int x.2.2.2.1, .ref (a (o + 4)), .int x.2.2.2.2.2.1, .ref (a (o + 5)), .int x.2.2.2.2.2.2.2.1, .int x.2.2.2.2.2.2.2.2.1, .int x.2.2.2.2.2.2.2.2.2.1, .ref (a (o + 6)), .int x.2.2.2.2.2.2.2.2.2.2.2.1, .ref (a (o + 7)), .int x.2.2.2.2.2.2.2.2.2.2.2.2.2.1, .int x.2.2.2.2.2.2.2.2.2.2.2.2.2.2.1, .int x.2.2.2.2.2.2.2.2.2.2.2.2.2.2.2.1, .int x.2.2.2.2.2.2.2.2.2.2.2.2.2.2.2.2.1, .ref (a (o + 8))]))], [(a (o + 1), .inl (E.2 1, 77, .inl x.1))], [(a (o + 2), .inl (E.2 1, 77, .inl x.2.1))], [(a (o + 3), .inl (E.2 1, 616, .inl x.2.2.1))], [(a (o + 4), .inl (E.2 1, 77, .inl q1))], [(a (o + 5), .inl (E.2 2, 60, .inl x.2.2.2.2.2.2.1))], [(a (o + 6), .inl (E.2 2, 80, .inl x.2.2.2.2.2.2.2.2.2.2.1))], [(a (o + 7), .inl (E.2 1, 24, .inl x.2.2.2.2.2.2.2.2.2.2.2.2.1))], [(a (o + 8), .inl (E.2 1, 180, .inl x.2.2.2.2.2.2.2.2.2.2.2.2.2.2.2.2.2))]]) (va_runS (As := [.ref (a (o + 1)), .int 0, .ref (a (o + 4)), .int 0]) (rest := []) ⟨hx, hb, hml, hown, ha⟩ (k_X11_copy l E a (o + 1) x.1 a (o + 4) x.2.2.2.2.1 77 0 77 0 q1 hq1 H.size) (cwS 4 ha (gi_S (fun _ h => h) mw1703 mw1704 mw87 mw1705) rfl rfl rfl hv_X11_copy ⟨(Nat.le_of_ble_eq_true rfl), (Nat.le_of_ble_eq_true rfl)⟩) ⟨pre_blind, pre_at hP hD hS hz hzs hst [1, 4] (by decide) rfl rfl⟩ rfl rfl hl.1 rfl (lv_room (Nat.le_of_ble_eq_true rfl)) dX11_save_10 ⟨(Nat.le_of_ble_eq_true rfl), (Nat.le_of_ble_eq_true rfl)⟩) hP hD hS hA [1, 4] (by decide) rfl rfl rfl rfl (fun H locs hP hD hS => ?_)
  have hP : va_P E.1 vwCl (List.flatten [w_Model E a o (x.1, x.2.1, x.2.2.1, x.2.2.2.1, q1, x.2.2.2.2.2.1, x.2.2.2.2.2.2.1, x.2.2.2.2.2.2.2.1, x.2.2.2.2.2.2.2.2.1, x.2.2.2.2.2.2.2.2.2.1, x.2.2.2.2.2.2.2.2.2.2.1, x.2.2.2.2.2.2.2.2.2.2.2.1, x.2.2.2.2.2.2.2.2.2.2.2.2.1, x.2.2.2.2.2.2.2.2.2.2.2.2.2.1, x.2.2.2.2.2.2.2.2.2.2.2.2.2.2.1, x.2.2.2.2.2.2.2.2.2.2.2.2.2.2.2.1, x.2.2.2.2.2.2.2.2.2.2.2.2.2.2.2.2.1, x.2.2.2.2.2.2.2.2.2.2.2.2.2.2.2.2.2)]) H := hP
  have hD : va_D A (List.flatten [w_Model E a o (x.1, x.2.1, x.2.2.1, x.2.2.2.1, q1, x.2.2.2.2.2.1, x.2.2.2.2.2.2.1, x.2.2.2.2.2.2.2.1, x.2.2.2.2.2.2.2.2.1, x.2.2.2.2.2.2.2.2.2.1, x.2.2.2.2.2.2.2.2.2.2.1, x.2.2.2.2.2.2.2.2.2.2.2.1, x.2.2.2.2.2.2.2.2.2.2.2.2.1, x.2.2.2.2.2.2.2.2.2.2.2.2.2.1, x.2.2.2.2.2.2.2.2.2.2.2.2.2.2.1, x.2.2.2.2.2.2.2.2.2.2.2.2.2.2.2.1, x.2.2.2.2.2.2.2.2.2.2.2.2.2.2.2.2.1, x.2.2.2.2.2.2.2.2.2.2.2.2.2.2.2.2.2)]) := hD
  refine lv_aload_n hx hb dX11_save_13 rfl (lv_at hl 0 rfl) ?_
  refine lv_iconst (v := 1) hx hb dX11_save_14 (by decide) ?_
  refine va_put (D := E.1) (ci := 13) (v := .int 1) (ty := .boolean) (C := RX11) (T := TX11) (N := 18) hx hb ha in_X11 tyX11 tyX11_ok nmX11 hown hst.k hP hD hS 0 rfl rfl 5 (by decide) (ha _ mw1641) (fun _ h9 => h9) rfl (tyX11_ok 5 (by decide)) (by decide) (by decide) (Nat.le_of_ble_eq_true rfl) dX11_save_15 (fun H locs hP hD hS => ?_)
  have hP : va_P E.1 vwCl (List.flatten [w_Model E a o (x.1, x.2.1, x.2.2.1, x.2.2.2.1, q1, 1, x.2.2.2.2.2.2.1, x.2.2.2.2.2.2.2.1, x.2.2.2.2.2.2.2.2.1, x.2.2.2.2.2.2.2.2.2.1, x.2.2.2.2.2.2.2.2.2.2.1, x.2.2.2.2.2.2.2.2.2.2.2.1, x.2.2.2.2.2.2.2.2.2.2.2.2.1, x.2.2.2.2.2.2.2.2.2.2.2.2.2.1, x.2.2.2.2.2.2.2.2.2.2.2.2.2.2.1, x.2.2.2.2.2.2.2.2.2.2.2.2.2.2.2.1, x.2.2.2.2.2.2.2.2.2.2.2.2.2.2.2.2.1, x.2.2.2.2.2.2.2.2.2.2.2.2.2.2.2.2.2)]) H := hP
  have hD : va_D A (List.flatten [w_Model E a o (x.1, x.2.1, x.2.2.1, x.2.2.2.1, q1, 1, x.2.2.2.2.2.2.1, x.2.2.2.2.2.2.2.1, x.2.2.2.2.2.2.2.2.1, x.2.2.2.2.2.2.2.2.2.1, x.2.2.2.2.2.2.2.2.2.2.1, x.2.2.2.2.2.2.2.2.2.2.2.1, x.2.2.2.2.2.2.2.2.2.2.2.2.1, x.2.2.2.2.2.2.2.2.2.2.2.2.2.1, x.2.2.2.2.2.2.2.2.2.2.2.2.2.2.1, x.2.2.2.2.2.2.2.2.2.2.2.2.2.2.2.1, x.2.2.2.2.2.2.2.2.2.2.2.2.2.2.2.2.1, x.2.2.2.2.2.2.2.2.2.2.2.2.2.2.2.2.2)]) := hD
  refine lv_aload_n hx hb dX11_save_18 rfl (lv_at hl 0 rfl) ?_
  refine lv_iconst (v := 0) hx hb dX11_save_19 (by decide) ?_
  refine va_put (D := E.1) (ci := 13) (v := .int 0) (ty := .int) (C := RX11) (T := TX11) (N := 18) hx hb ha in_X11 tyX11 tyX11_ok nmX11 hown hst.k hP hD hS 0 rfl rfl 14 (by decide) (ha _ mw1650) (fun _ h9 => h9) rfl (tyX11_ok 14 (by decide)) rfl rfl (Nat.le_of_ble_eq_true rfl) dX11_save_20 (fun H locs hP hD hS => ?_)
  have hP : va_P E.1 vwCl (List.flatten [w_Model E a o (x.1, x.2.1, x.2.2.1, x.2.2.2.1, q1, 1, x.2.2.2.2.2.2.1, x.2.2.2.2.2.2.2.1, x.2.2.2.2.2.2.2.2.1, x.2.2.2.2.2.2.2.2.2.1, x.2.2.2.2.2.2.2.2.2.2.1, x.2.2.2.2.2.2.2.2.2.2.2.1, x.2.2.2.2.2.2.2.2.2.2.2.2.1, x.2.2.2.2.2.2.2.2.2.2.2.2.2.1, 0, x.2.2.2.2.2.2.2.2.2.2.2.2.2.2.2.1, x.2.2.2.2.2.2.2.2.2.2.2.2.2.2.2.2.1, x.2.2.2.2.2.2.2.2.2.2.2.2.2.2.2.2.2)]) H := hP
  have hD : va_D A (List.flatten [w_Model E a o (x.1, x.2.1, x.2.2.1, x.2.2.2.1, q1, 1, x.2.2.2.2.2.2.1, x.2.2.2.2.2.2.2.1, x.2.2.2.2.2.2.2.2.1, x.2.2.2.2.2.2.2.2.2.1, x.2.2.2.2.2.2.2.2.2.2.1, x.2.2.2.2.2.2.2.2.2.2.2.1, x.2.2.2.2.2.2.2.2.2.2.2.2.1, x.2.2.2.2.2.2.2.2.2.2.2.2.2.1, 0, x.2.2.2.2.2.2.2.2.2.2.2.2.2.2.2.1, x.2.2.2.2.2.2.2.2.2.2.2.2.2.2.2.2.1, x.2.2.2.2.2.2.2.2.2.2.2.2.2.2.2.2.2)]) := hD
  obtain rfl := Option.some.inj hF
  exact en_v hQ (Nat.le_of_ble_eq_true rfl) (Nat.le_of_ble_eq_true rfl) hx hb hr hlocks hP hD hS dX11_save_23

/-! X11_restore -/
theorem dX11_restore_0 : decode cX11_restore 0 = .ok (.aload_n 0, 1) := by decide +kernel
theorem dX11_restore_1 : decode cX11_restore 1 = .ok (.aload_n 0, 1) := by decide +kernel
theorem dX11_restore_2 : decode cX11_restore 2 = .ok (.getfield 241, 3) := by decide +kernel
theorem dX11_restore_5 : decode cX11_restore 5 = .ok (.ifCond .eq 7, 3) := by decide +kernel
theorem dX11_restore_8 : decode cX11_restore 8 = .ok (.iconst 0, 1) := by decide +kernel
theorem dX11_restore_9 : decode cX11_restore 9 = .ok (.goto 4, 3) := by decide +kernel
theorem dX11_restore_12 : decode cX11_restore 12 = .ok (.iconst 1, 1) := by decide +kernel
theorem dX11_restore_13 : decode cX11_restore 13 = .ok (.putfield 42, 3) := by decide +kernel
theorem dX11_restore_16 : decode cX11_restore 16 = .ok (.aload_n 0, 1) := by decide +kernel
theorem dX11_restore_17 : decode cX11_restore 17 = .ok (.getfield 241, 3) := by decide +kernel
theorem dX11_restore_20 : decode cX11_restore 20 = .ok (.ifCond .eq 21, 3) := by decide +kernel
theorem dX11_restore_23 : decode cX11_restore 23 = .ok (.aload_n 0, 1) := by decide +kernel
theorem dX11_restore_24 : decode cX11_restore 24 = .ok (.getfield 19, 3) := by decide +kernel
theorem dX11_restore_27 : decode cX11_restore 27 = .ok (.iconst 0, 1) := by decide +kernel
theorem dX11_restore_28 : decode cX11_restore 28 = .ok (.aload_n 0, 1) := by decide +kernel
theorem dX11_restore_29 : decode cX11_restore 29 = .ok (.getfield 7, 3) := by decide +kernel
theorem dX11_restore_32 : decode cX11_restore 32 = .ok (.iconst 0, 1) := by decide +kernel
theorem dX11_restore_33 : decode cX11_restore 33 = .ok (.invokestatic 45, 3) := by decide +kernel
theorem dX11_restore_36 : decode cX11_restore 36 = .ok (.aload_n 0, 1) := by decide +kernel
theorem dX11_restore_37 : decode cX11_restore 37 = .ok (.iconst 0, 1) := by decide +kernel
theorem dX11_restore_38 : decode cX11_restore 38 = .ok (.putfield 49, 3) := by decide +kernel
theorem dX11_restore_41 : decode cX11_restore 41 = .ok (.return_, 1) := by decide +kernel
def f_X11_restore (x_g : (Nat → Int32)) (x_changes : Int32) (x_savedState : (Nat → Int32)) (x_hasSaved : Int32) (x_thrown : Int32) : Option ((Nat → Int32) × Int32 × Int32) :=
  q_lt (fun (j1 : Int32) =>
  q_br (x_hasSaved = 0) (
  some (x_g, x_changes, j1)) (
  q_bd (f_X11_copy x_savedState x_g 77 0 77 0) (fun q2 =>
  some (q2, 0, j1)))) (fun (J13 : Int32 → Option ((Nat → Int32) × Int32 × Int32)) =>
  q_br (x_hasSaved = 0) (
  J13 1) (
  J13 0))
theorem hv_X11_restore : yX11_restore.cls = RX11 ∧ yX11_restore.cls ≠ "java/lang/invoke/MethodHandle" ∧ yX11_restore.cls ≠ "java/lang/invoke/VarHandle" ∧ (parseMethodDescriptor yX11_restore.desc).map (fun d => d.parameters.length) = some 0 := by decide +kernel
abbrev rm_X11_restore : Room := { frames := 1, cells := 0, slots := 0, locals := 24 }
set_option maxHeartbeats 4000000 in
set_option maxRecDepth 100000 in
theorem k_X11_restore (l : Launch) (E : ET) (a : Nat → Nat) (o : Nat) (x : Model_t) (res : (Nat → Int32) × Int32 × Int32) (hF : f_X11_restore x.1 x.2.2.2.1 x.2.2.2.2.1 x.2.2.2.2.2.1 x.2.2.2.2.2.2.2.2.2.2.2.2.2.2.1 = some res) (sz : Nat) : CtV l yX11_restore (mws yX11_restore cX11_restore 1 none) rm_X11_restore 0 0 [.ref (a o)] E (bl_Model E a o x) (bl_Model E a o (res.1, x.2.1, x.2.2.1, res.2.1, x.2.2.2.2.1, x.2.2.2.2.2.1, x.2.2.2.2.2.2.1, x.2.2.2.2.2.2.2.1, x.2.2.2.2.2.2.2.2.1, x.2.2.2.2.2.2.2.2.2.1, x.2.2.2.2.2.2.2.2.2.2.1, x.2.2.2.2.2.2.2.2.2.2.2.1, x.2.2.2.2.2.2.2.2.2.2.2.2.1, x.2.2.2.2.2.2.2.2.2.2.2.2.2.1, res.2.2, x.2.2.2.2.2.2.2.2.2.2.2.2.2.2.2.1, x.2.2.2.2.2.2.2.2.2.2.2.2.2.2.2.2.1, x.2.2.2.2.2.2.2.2.2.2.2.2.2.2.2.2.2)) sz := by
  refine mk_M (by decide +kernel) (Nat.le_of_ble_eq_true rfl) ?_
  intro p e s m below meth c A args Q ls hAe hsz hQ hx hb hr hml hin ha hown hlocks hA hz hzs hst hP hD hS hl
  have hown : s.vm.findClass RX11 = some m.cls := hown
  rw [hAe] at hQ
  subst hsz
  have hP : va_P E.1 vwCl (List.flatten [w_Model E a o x]) s.heap := hP
  have hD : va_D A (List.flatten [w_Model E a o x]) := hD
  have hl : lv_has ls 1 [(0, .ref (a o))] := hl
  generalize hHe : s.heap = H at hP
  have hS : va_S A s.heap H [] := by rw [← hHe]; exact hS
  generalize ([] : List Loc) = locs at hS ⊢
  unfold f_X11_restore at hF
  refine lv_aload_n hx hb dX11_restore_0 rfl (lv_at hl 0 rfl) ?_
  refine lv_aload_n hx hb dX11_restore_1 rfl (lv_at hl 0 rfl) ?_
  refine va_get (D := E.1) (ci := 13) (v := .int x.2.2.2.2.2.1) (C := RX11) (T := TX11) (N := 18) hx hb ha in_X11 hown hst.k hP 0 rfl rfl 5 (by decide) (ha _ mw1641) (fun _ h9 => h9) rfl dX11_restore_2 ?_
  obtain ⟨J13, hJ13, hF⟩ := q_jn hF
  have jJ13 : ∀ (j1 : Int32), ∀ (H : Heap) (locs : List Loc) (ls : Array Slot), J13 j1 = some res → va_P E.1 vwCl (List.flatten [w_Model E a o x]) H → va_D A (List.flatten [w_Model E a o x]) → va_S A s.heap H locs → lv_has ls 1 [(0, .ref (a o))] → W p l e rm_X11_restore s m args below meth c H locs 0 0 Q (F0 m 13 ls [.int j1, .ref (a o)]) := by
    intro j1 H locs ls hF hP hD hS hl
    rw [hJ13] at hF
    refine va_put (D := E.1) (ci := 13) (v := .int j1) (ty := .int) (C := RX11) (T := TX11) (N := 18) hx hb ha in_X11 tyX11 tyX11_ok nmX11 hown hst.k hP hD hS 0 rfl rfl 14 (by decide) (ha _ mw1650) (fun _ h9 => h9) rfl (tyX11_ok 14 (by decide)) rfl rfl (Nat.le_of_ble_eq_true rfl) dX11_restore_13 (fun H locs hP hD hS => ?_)
    have hP : va_P E.1 vwCl (List.flatten [w_Model E a o (x.1, x.2.1, x.2.2.1, x.2.2.2.1, x.2.2.2.2.1, x.2.2.2.2.2.1, x.2.2.2.2.2.2.1, x.2.2.2.2.2.2.2.1, x.2.2.2.2.2.2.2.2.1, x.2.2.2.2.2.2.2.2.2.1, x.2.2.2.2.2.2.2.2.2.2.1, x.2.2.2.2.2.2.2.2.2.2.2.1, x.2.2.2.2.2.2.2.2.2.2.2.2.1, x.2.2.2.2.2.2.2.2.2.2.2.2.2.1, j1, x.2.2.2.2.2.2.2.2.2.2.2.2.2.2.2.1, x.2.2.2.2.2.2.2.2.2.2.2.2.2.2.2.2.1, x.2.2.2.2.2.2.2.2.2.2.2.2.2.2.2.2.2)]) H := hP
    have hD : va_D A (List.flatten [w_Model E a o (x.1, x.2.1, x.2.2.1, x.2.2.2.1, x.2.2.2.2.1, x.2.2.2.2.2.1, x.2.2.2.2.2.2.1, x.2.2.2.2.2.2.2.1, x.2.2.2.2.2.2.2.2.1, x.2.2.2.2.2.2.2.2.2.1, x.2.2.2.2.2.2.2.2.2.2.1, x.2.2.2.2.2.2.2.2.2.2.2.1, x.2.2.2.2.2.2.2.2.2.2.2.2.1, x.2.2.2.2.2.2.2.2.2.2.2.2.2.1, j1, x.2.2.2.2.2.2.2.2.2.2.2.2.2.2.2.1, x.2.2.2.2.2.2.2.2.2.2.2.2.2.2.2.2.1, x.2.2.2.2.2.2.2.2.2.2.2.2.2.2.2.2.2)]) := hD
    refine lv_aload_n hx hb dX11_restore_16 rfl (lv_at hl 0 rfl) ?_
    refine va_get (D := E.1) (ci := 13) (v := .int x.2.2.2.2.2.1) (C := RX11) (T := TX11) (N := 18) hx hb ha in_X11 hown hst.k hP 0 rfl rfl 5 (by decide) (ha _ mw1641) (fun _ h9 => h9) rfl dX11_restore_17 ?_
    refine lv_if_eq (tgt := 41) hx hb dX11_restore_20 (by decide) (fun c20 => ?_) (fun c20 => ?_)
    · have hF := q_brp c20 hF
      obtain rfl := Option.some.inj hF
      exact en_v hQ (Nat.le_of_ble_eq_true rfl) (Nat.le_of_ble_eq_true rfl) hx hb hr hlocks hP hD hS dX11_restore_41
    · have hF := q_brn c20 hF
      refine lv_aload_n hx hb dX11_restore_23 rfl (lv_at hl 0 rfl) ?_
      refine va_get (D := E.1) (ci := 13) (v := .ref (a (o + 4))) (C := RX11) (T := TX11) (N := 18) hx hb ha in_X11 hown hst.k hP 0 rfl rfl 4 (by decide) (ha _ mw1640) (fun _ h9 => h9) rfl dX11_restore_24 ?_
      refine lv_iconst (v := 0) hx hb dX11_restore_27 (by decide) ?_
      refine lv_aload_n hx hb dX11_restore_28 rfl (lv_at hl 0 rfl) ?_
      refine va_get (D := E.1) (ci := 13) (v := .ref (a (o + 1))) (C := RX11) (T := TX11) (N := 18) hx hb ha in_X11 hown hst.k hP 0 rfl rfl 0 (by decide) (ha _ mw1636) (fun _ h9 => h9) rfl dX11_restore_29 ?_
      refine lv_iconst (v := 0) hx hb dX11_restore_32 (by decide) ?_
      have hP : va_P E.1 vwCl (List.flatten [[(a o, .inr (13, [.ref (a (o + 1)), .ref (a (o + 2)), .ref (a (o + 3)), .int x.2.2.2.1, .ref (a (o + 4)), .int x.2.2.2.2.2.1, .ref (a (o + 5)), .int x.2.2.2.2.2.2.2.1, .int x.2.2.2.2.2.2.2.2.1, .int x.2.2.2.2.2.2.2.2.2.1, .ref (a (o + 6)), .int x.2.2.2.2.2.2.2.2.2.2.2.1, .ref (a (o + 7)), .int x.2.2.2.2.2.2.2.2.2.2.2.2.2.1, .int j1, .int x.2.2.2.2.2.2.2.2.2.2.2.2.2.2.2.1, .int x.2.2.2.2.2.2.2.2.2.2.2.2.2.2.2.2.1, .ref (a (o + 8))]))], [(a (o + 1), .inl (E.2 1, 77, .inl x.1))], [(a (o + 2), .inl (E.2 1, 77, .inl x.2.1))], [(a (o + 3), .inl (E.2 1, 616, .inl x.2.2.1))], [(a (o + 4), .inl (E.2 1, 77, .inl x.2.2.2.2.1))], [(a (o + 5), .inl (E.2 2, 60, .inl x.2.2.2.2.2.2.1))], [(a (o + 6), .inl (E.2 2, 80, .inl x.2.2.2.2.2.2.2.2.2.2.1))], [(a (o + 7), .inl (E.2 1, 24, .inl x.2.2.2.2.2.2.2.2.2.2.2.2.1))], [(a (o + 8), .inl (E.2 1, 180, .inl x.2.2.2.2.2.2.2.2.2.2.2.2.2.2.2.2.2))]]) H := hP
      have hD : va_D A (List.flatten [[(a o, .inr (13, [.ref (a (o + 1)), .ref (a (o + 2)), .ref (a (o + 3)), .int x.2.2.2.1, .ref (a (o + 4)), .int x.2.2.2.2.2.1, .ref (a (o + 5)), .int x.2.2.2.2.2.2.2.1, .int x.2.2.2.2.2.2.2.2.1, .int x.2.2.2.2.2.2.2.2.2.1, .ref (a (o + 6)), .int x.2.2.2.2.2.2.2.2.2.2.2.1, .ref (a (o + 7)), .int x.2.2.2.2.2.2.2.2.2.2.2.2.2.1, .int j1, .int x.2.2.2.2.2.2.2.2.2.2.2.2.2.2.2.1, .int x.2.2.2.2.2.2.2.2.2.2.2.2.2.2.2.2.1, .ref (a (o + 8))]))], [(a (o + 1), .inl (E.2 1, 77, .inl x.1))], [(a (o + 2), .inl (E.2 1, 77, .inl x.2.1))], [(a (o + 3), .inl (E.2 1, 616, .inl x.2.2.1))], [(a (o + 4), .inl (E.2 1, 77, .inl x.2.2.2.2.1))], [(a (o + 5), .inl (E.2 2, 60, .inl x.2.2.2.2.2.2.1))], [(a (o + 6), .inl (E.2 2, 80, .inl x.2.2.2.2.2.2.2.2.2.2.1))], [(a (o + 7), .inl (E.2 1, 24, .inl x.2.2.2.2.2.2.2.2.2.2.2.2.1))], [(a (o + 8), .inl (E.2 1, 180, .inl x.2.2.2.2.2.2.2.2.2.2.2.2.2.2.2.2.2))]]) := hD
      obtain ⟨q2, hq2, hF⟩ := q_bdi hF
      refine cl_v (Lc := [[(a (o + 4), .inl (E.2 1, 77, .inl x.2.2.2.2.1))], [(a (o + 1), .inl (E.2 1, 77, .inl x.1))]]) (Lc' := [[(a (o + 4), .inl (E.2 1, 77, .inl x.2.2.2.2.1))], [(a (o + 1), .inl (E.2 1, 77, .inl q2))]]) (L' := [[(a o, .inr (13, [.ref (a (o + 1)), .ref (a (o + 2)), .ref (a (o + 3)), .int x.2.2.2.1, .ref (a (o + 4)), .int x.2.2.2.2.2.1, .ref (a (o + 5)), .int x.2.2.2.2.2.2.2.1, .int x.2.2.2.2.2.2.2.2.1, .int x.2.2.2.2.2.2.2.2.2.1, .ref (a (o + 6)), .int x.2.2.2.2.2.2.2.2.2.2.2.1, .ref (a (o + 7)), .int x.2.2.2.2.2.2.2.2.2.2.2.2.2.1, .int j1, .int x.2.2.2.2.2.2.2.2.2.2.2.2.2.2.2.1, .int x.2.2.2.2.2.2.2.2.2.2.2.2.2.2.2.2.1, .ref (a (o + 8))]))], [(a (o + 1), .inl (E.2 1, 77, .inl q2))], [(a (o + 2), .inl (E.2 1, 77, .inl x.2.1))], [(a (o + 3), .inl (E.2 1, 616, .inl x.2.2.1))], [(a (o + 4), .inl (E.2 1, 77, .inl x.2.2.2.2.1))], [(a (o + 5), .inl (E.2 2, 60, .inl x.2.2.2.2.2.2.1))], [(a (o + 6), .inl (E.2 2, 80, .inl x.2.2.2.2.2.2.2.2.2.2.1))], [(a (o + 7), .inl (E.2 1, 24, .inl x.2.2.2.2.2.2.2.2.2.2.2.2.1))], [(a (o + 8), .inl (E.2 1, 180, .inl x.2.2.2.2.2.2.2.2.2.2.2.2.2.2.2.2.2))]]) (va_runS (As := [.ref (a (o + 4)), .int 0, .ref (a (o + 1)), .int 0]) (rest := []) ⟨hx, hb, hml, hown, ha⟩ (k_X11_copy l E a (o + 4) x.2.2.2.2.1 a (o + 1) x.1 77 0 77 0 q2 hq2 H.size) (cwS 4 ha (gi_S (fun _ h => h) mw1703 mw1704 mw87 mw1705) rfl rfl rfl hv_X11_copy ⟨(Nat.le_of_ble_eq_true rfl), (Nat.le_of_ble_eq_true rfl)⟩) ⟨pre_blind, pre_at hP hD hS hz hzs hst [4, 1] (by decide) rfl rfl⟩ rfl rfl hl.1 rfl (lv_room (Nat.le_of_ble_eq_true rfl)) dX11_restore_33 ⟨(Nat.le_of_ble_eq_true rfl), (Nat.le_of_ble_eq_true rfl)⟩) hP hD hS hA [4, 1] (by decide) rfl rfl rfl rfl (fun H locs hP hD hS => ?_)
      have hP : va_P E.1 vwCl (List.flatten [w_Model E a o (q2, x.2.1, x.2.2.1, x.2.2.2.1, x.2.2.2.2.1, x.2.2.2.2.2.1, x.2.2.2.2.2.2.1, x.2.2.2.2.2.2.2.1, x.2.2.2.2.2.2.2.2.1, x.2.2.2.2.2.2.2.2.2.1, x.2.2.2.2.2.2.2.2.2.2.1, x.2.2.2.2.2.2.2.2.2.2.2.1, x.2.2.2.2.2.2.2.2.2.2.2.2.1, x.2.2.2.2.2.2.2.2.2.2.2.2.2.1, j1, x.2.2.2.2.2.2.2.2.2.2.2.2.2.2.2.1, x.2.2.2.2.2.2.2.2.2.2.2.2.2.2.2.2.1, x.2.2.2.2.2.2.2.2.2.2.2.2.2.2.2.2.2)]) H := hP
      have hD : va_D A (List.flatten [w_Model E a o (q2, x.2.1, x.2.2.1, x.2.2.2.1, x.2.2.2.2.1, x.2.2.2.2.2.1, x.2.2.2.2.2.2.1, x.2.2.2.2.2.2.2.1, x.2.2.2.2.2.2.2.2.1, x.2.2.2.2.2.2.2.2.2.1, x.2.2.2.2.2.2.2.2.2.2.1, x.2.2.2.2.2.2.2.2.2.2.2.1, x.2.2.2.2.2.2.2.2.2.2.2.2.1, x.2.2.2.2.2.2.2.2.2.2.2.2.2.1, j1, x.2.2.2.2.2.2.2.2.2.2.2.2.2.2.2.1, x.2.2.2.2.2.2.2.2.2.2.2.2.2.2.2.2.1, x.2.2.2.2.2.2.2.2.2.2.2.2.2.2.2.2.2)]) := hD
      refine lv_aload_n hx hb dX11_restore_36 rfl (lv_at hl 0 rfl) ?_
      refine lv_iconst (v := 0) hx hb dX11_restore_37 (by decide) ?_
      refine va_put (D := E.1) (ci := 13) (v := .int 0) (ty := .int) (C := RX11) (T := TX11) (N := 18) hx hb ha in_X11 tyX11 tyX11_ok nmX11 hown hst.k hP hD hS 0 rfl rfl 3 (by decide) (ha _ mw1639) (fun _ h9 => h9) rfl (tyX11_ok 3 (by decide)) rfl rfl (Nat.le_of_ble_eq_true rfl) dX11_restore_38 (fun H locs hP hD hS => ?_)
      have hP : va_P E.1 vwCl (List.flatten [w_Model E a o (q2, x.2.1, x.2.2.1, 0, x.2.2.2.2.1, x.2.2.2.2.2.1, x.2.2.2.2.2.2.1, x.2.2.2.2.2.2.2.1, x.2.2.2.2.2.2.2.2.1, x.2.2.2.2.2.2.2.2.2.1, x.2.2.2.2.2.2.2.2.2.2.1, x.2.2.2.2.2.2.2.2.2.2.2.1, x.2.2.2.2.2.2.2.2.2.2.2.2.1, x.2.2.2.2.2.2.2.2.2.2.2.2.2.1, j1, x.2.2.2.2.2.2.2.2.2.2.2.2.2.2.2.1, x.2.2.2.2.2.2.2.2.2.2.2.2.2.2.2.2.1, x.2.2.2.2.2.2.2.2.2.2.2.2.2.2.2.2.2)]) H := hP
      have hD : va_D A (List.flatten [w_Model E a o (q2, x.2.1, x.2.2.1, 0, x.2.2.2.2.1, x.2.2.2.2.2.1, x.2.2.2.2.2.2.1, x.2.2.2.2.2.2.2.1, x.2.2.2.2.2.2.2.2.1, x.2.2.2.2.2.2.2.2.2.1, x.2.2.2.2.2.2.2.2.2.2.1, x.2.2.2.2.2.2.2.2.2.2.2.1, x.2.2.2.2.2.2.2.2.2.2.2.2.1, x.2.2.2.2.2.2.2.2.2.2.2.2.2.1, j1, x.2.2.2.2.2.2.2.2.2.2.2.2.2.2.2.1, x.2.2.2.2.2.2.2.2.2.2.2.2.2.2.2.2.1, x.2.2.2.2.2.2.2.2.2.2.2.2.2.2.2.2.2)]) := hD
      obtain rfl := Option.some.inj hF
      exact en_v hQ (Nat.le_of_ble_eq_true rfl) (Nat.le_of_ble_eq_true rfl) hx hb hr hlocks hP hD hS dX11_restore_41
  refine lv_if_eq (tgt := 12) hx hb dX11_restore_5 (by decide) (fun c5 => ?_) (fun c5 => ?_)
  · have hF := q_brp c5 hF
    refine lv_iconst (v := 1) hx hb dX11_restore_12 (by decide) ?_
    exact jJ13 1 H locs ls hF hP hD hS (lv_sub hl [0] rfl)
  · have hF := q_brn c5 hF
    refine lv_iconst (v := 0) hx hb dX11_restore_8 (by decide) ?_
    refine lv_goto (tgt := 13) hx hb dX11_restore_9 (by decide) ?_
    exact jJ13 0 H locs ls hF hP hD hS (lv_sub hl [0] rfl)
