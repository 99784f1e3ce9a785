/-! X11_parsesCommand -/
theorem dX11_parsesCommand_0 : decode cX11_parsesCommand 0 = .ok (.aload_n 0, 1) := by decide +kernel
theorem dX11_parsesCommand_1 : decode cX11_parsesCommand 1 = .ok (.invokevirtual 194, 3) := by decide +kernel
theorem dX11_parsesCommand_4 : decode cX11_parsesCommand 4 = .ok (.istore_n 2, 1) := by decide +kernel
theorem dX11_parsesCommand_5 : decode cX11_parsesCommand 5 = .ok (.aload_n 0, 1) := by decide +kernel
theorem dX11_parsesCommand_6 : decode cX11_parsesCommand 6 = .ok (.dup, 1) := by decide +kernel
theorem dX11_parsesCommand_7 : decode cX11_parsesCommand 7 = .ok (.getfield 187, 3) := by decide +kernel
theorem dX11_parsesCommand_10 : decode cX11_parsesCommand 10 = .ok (.iconst 1, 1) := by decide +kernel
theorem dX11_parsesCommand_11 : decode cX11_parsesCommand 11 = .ok (.iadd, 1) := by decide +kernel
theorem dX11_parsesCommand_12 : decode cX11_parsesCommand 12 = .ok (.putfield 187, 3) := by decide +kernel
theorem dX11_parsesCommand_15 : decode cX11_parsesCommand 15 = .ok (.aload_n 0, 1) := by decide +kernel
theorem dX11_parsesCommand_16 : decode cX11_parsesCommand 16 = .ok (.getfield 39, 3) := by decide +kernel
theorem dX11_parsesCommand_19 : decode cX11_parsesCommand 19 = .ok (.iload_n 1, 1) := by decide +kernel
theorem dX11_parsesCommand_20 : decode cX11_parsesCommand 20 = .ok (.iload_n 2, 1) := by decide +kernel
theorem dX11_parsesCommand_21 : decode cX11_parsesCommand 21 = .ok (.iastore, 1) := by decide +kernel
theorem dX11_parsesCommand_22 : decode cX11_parsesCommand 22 = .ok (.iload_n 2, 1) := by decide +kernel
theorem dX11_parsesCommand_23 : decode cX11_parsesCommand 23 = .ok (.tableswitch 355 98 116 #[89, 226, 355, 234, 281, 308, 355, 355, 355, 218, 355, 177, 355, 355, 355, 355, 130, 355, 169], 89) := by decide +kernel
theorem dX11_parsesCommand_112 : decode cX11_parsesCommand 112 = .ok (.aload_n 0, 1) := by decide +kernel
theorem dX11_parsesCommand_113 : decode cX11_parsesCommand 113 = .ok (.bipush 101, 2) := by decide +kernel
theorem dX11_parsesCommand_115 : decode cX11_parsesCommand 115 = .ok (.bipush 108, 2) := by decide +kernel
theorem dX11_parsesCommand_117 : decode cX11_parsesCommand 117 = .ok (.bipush 108, 2) := by decide +kernel
theorem dX11_parsesCommand_119 : decode cX11_parsesCommand 119 = .ok (.invokevirtual 204, 3) := by decide +kernel
theorem dX11_parsesCommand_122 : decode cX11_parsesCommand 122 = .ok (.aload_n 0, 1) := by decide +kernel
theorem dX11_parsesCommand_123 : decode cX11_parsesCommand 123 = .ok (.getfield 39, 3) := by decide +kernel
theorem dX11_parsesCommand_126 : decode cX11_parsesCommand 126 = .ok (.iload_n 1, 1) := by decide +kernel
theorem dX11_parsesCommand_127 : decode cX11_parsesCommand 127 = .ok (.iconst 1, 1) := by decide +kernel
theorem dX11_parsesCommand_128 : decode cX11_parsesCommand 128 = .ok (.iadd, 1) := by decide +kernel
theorem dX11_parsesCommand_129 : decode cX11_parsesCommand 129 = .ok (.aload_n 0, 1) := by decide +kernel
theorem dX11_parsesCommand_130 : decode cX11_parsesCommand 130 = .ok (.iconst 1, 1) := by decide +kernel
theorem dX11_parsesCommand_131 : decode cX11_parsesCommand 131 = .ok (.iconst 1, 1) := by decide +kernel
theorem dX11_parsesCommand_132 : decode cX11_parsesCommand 132 = .ok (.invokevirtual 208, 3) := by decide +kernel
theorem dX11_parsesCommand_135 : decode cX11_parsesCommand 135 = .ok (.iastore, 1) := by decide +kernel
theorem dX11_parsesCommand_136 : decode cX11_parsesCommand 136 = .ok (.aload_n 0, 1) := by decide +kernel
theorem dX11_parsesCommand_137 : decode cX11_parsesCommand 137 = .ok (.getfield 39, 3) := by decide +kernel
theorem dX11_parsesCommand_140 : decode cX11_parsesCommand 140 = .ok (.iload_n 1, 1) := by decide +kernel
theorem dX11_parsesCommand_141 : decode cX11_parsesCommand 141 = .ok (.iconst 2, 1) := by decide +kernel
theorem dX11_parsesCommand_142 : decode cX11_parsesCommand 142 = .ok (.iadd, 1) := by decide +kernel
theorem dX11_parsesCommand_143 : decode cX11_parsesCommand 143 = .ok (.aload_n 0, 1) := by decide +kernel
theorem dX11_parsesCommand_144 : decode cX11_parsesCommand 144 = .ok (.iconst 4, 1) := by decide +kernel
theorem dX11_parsesCommand_145 : decode cX11_parsesCommand 145 = .ok (.iconst 4, 1) := by decide +kernel
theorem dX11_parsesCommand_146 : decode cX11_parsesCommand 146 = .ok (.invokevirtual 208, 3) := by decide +kernel
theorem dX11_parsesCommand_149 : decode cX11_parsesCommand 149 = .ok (.iastore, 1) := by decide +kernel
theorem dX11_parsesCommand_150 : decode cX11_parsesCommand 150 = .ok (.goto 243, 3) := by decide +kernel
theorem dX11_parsesCommand_153 : decode cX11_parsesCommand 153 = .ok (.aload_n 0, 1) := by decide +kernel
theorem dX11_parsesCommand_154 : decode cX11_parsesCommand 154 = .ok (.bipush 101, 2) := by decide +kernel
theorem dX11_parsesCommand_156 : decode cX11_parsesCommand 156 = .ok (.bipush 109, 2) := by decide +kernel
theorem dX11_parsesCommand_158 : decode cX11_parsesCommand 158 = .ok (.bipush 111, 2) := by decide +kernel
theorem dX11_parsesCommand_160 : decode cX11_parsesCommand 160 = .ok (.invokevirtual 204, 3) := by decide +kernel
theorem dX11_parsesCommand_163 : decode cX11_parsesCommand 163 = .ok (.aload_n 0, 1) := by decide +kernel
theorem dX11_parsesCommand_164 : decode cX11_parsesCommand 164 = .ok (.bipush 118, 2) := by decide +kernel
theorem dX11_parsesCommand_166 : decode cX11_parsesCommand 166 = .ok (.invokevirtual 198, 3) := by decide +kernel
theorem dX11_parsesCommand_169 : decode cX11_parsesCommand 169 = .ok (.aload_n 0, 1) := by decide +kernel
theorem dX11_parsesCommand_170 : decode cX11_parsesCommand 170 = .ok (.bipush 101, 2) := by decide +kernel
theorem dX11_parsesCommand_172 : decode cX11_parsesCommand 172 = .ok (.invokevirtual 198, 3) := by decide +kernel
theorem dX11_parsesCommand_175 : decode cX11_parsesCommand 175 = .ok (.aload_n 0, 1) := by decide +kernel
theorem dX11_parsesCommand_176 : decode cX11_parsesCommand 176 = .ok (.getfield 39, 3) := by decide +kernel
theorem dX11_parsesCommand_179 : decode cX11_parsesCommand 179 = .ok (.iload_n 1, 1) := by decide +kernel
theorem dX11_parsesCommand_180 : decode cX11_parsesCommand 180 = .ok (.iconst 1, 1) := by decide +kernel
theorem dX11_parsesCommand_181 : decode cX11_parsesCommand 181 = .ok (.iadd, 1) := by decide +kernel
theorem dX11_parsesCommand_182 : decode cX11_parsesCommand 182 = .ok (.aload_n 0, 1) := by decide +kernel
theorem dX11_parsesCommand_183 : decode cX11_parsesCommand 183 = .ok (.iconst 1, 1) := by decide +kernel
theorem dX11_parsesCommand_184 : decode cX11_parsesCommand 184 = .ok (.iconst 2, 1) := by decide +kernel
theorem dX11_parsesCommand_185 : decode cX11_parsesCommand 185 = .ok (.invokevirtual 208, 3) := by decide +kernel
theorem dX11_parsesCommand_188 : decode cX11_parsesCommand 188 = .ok (.iastore, 1) := by decide +kernel
theorem dX11_parsesCommand_189 : decode cX11_parsesCommand 189 = .ok (.goto 204, 3) := by decide +kernel
theorem dX11_parsesCommand_192 : decode cX11_parsesCommand 192 = .ok (.aload_n 0, 1) := by decide +kernel
theorem dX11_parsesCommand_193 : decode cX11_parsesCommand 193 = .ok (.iload_n 1, 1) := by decide +kernel
theorem dX11_parsesCommand_194 : decode cX11_parsesCommand 194 = .ok (.invokevirtual 214, 3) := by decide +kernel
theorem dX11_parsesCommand_197 : decode cX11_parsesCommand 197 = .ok (.goto 196, 3) := by decide +kernel
theorem dX11_parsesCommand_200 : decode cX11_parsesCommand 200 = .ok (.aload_n 0, 1) := by decide +kernel
theorem dX11_parsesCommand_201 : decode cX11_parsesCommand 201 = .ok (.bipush 111, 2) := by decide +kernel
theorem dX11_parsesCommand_203 : decode cX11_parsesCommand 203 = .ok (.bipush 118, 2) := by decide +kernel
theorem dX11_parsesCommand_205 : decode cX11_parsesCommand 205 = .ok (.bipush 101, 2) := by decide +kernel
theorem dX11_parsesCommand_207 : decode cX11_parsesCommand 207 = .ok (.invokevirtual 204, 3) := by decide +kernel
theorem dX11_parsesCommand_210 : decode cX11_parsesCommand 210 = .ok (.aload_n 0, 1) := by decide +kernel
theorem dX11_parsesCommand_211 : decode cX11_parsesCommand 211 = .ok (.getfield 39, 3) := by decide +kernel
theorem dX11_parsesCommand_214 : decode cX11_parsesCommand 214 = .ok (.iload_n 1, 1) := by decide +kernel
theorem dX11_parsesCommand_215 : decode cX11_parsesCommand 215 = .ok (.iconst 1, 1) := by decide +kernel
theorem dX11_parsesCommand_216 : decode cX11_parsesCommand 216 = .ok (.iadd, 1) := by decide +kernel
theorem dX11_parsesCommand_217 : decode cX11_parsesCommand 217 = .ok (.aload_n 0, 1) := by decide +kernel
theorem dX11_parsesCommand_218 : decode cX11_parsesCommand 218 = .ok (.iconst 1, 1) := by decide +kernel
theorem dX11_parsesCommand_219 : decode cX11_parsesCommand 219 = .ok (.iconst 2, 1) := by decide +kernel
theorem dX11_parsesCommand_220 : decode cX11_parsesCommand 220 = .ok (.invokevirtual 208, 3) := by decide +kernel
theorem dX11_parsesCommand_223 : decode cX11_parsesCommand 223 = .ok (.iastore, 1) := by decide +kernel
theorem dX11_parsesCommand_224 : decode cX11_parsesCommand 224 = .ok (.aload_n 0, 1) := by decide +kernel
theorem dX11_parsesCommand_225 : decode cX11_parsesCommand 225 = .ok (.getfield 39, 3) := by decide +kernel
theorem dX11_parsesCommand_228 : decode cX11_parsesCommand 228 = .ok (.iload_n 1, 1) := by decide +kernel
theorem dX11_parsesCommand_229 : decode cX11_parsesCommand 229 = .ok (.iconst 2, 1) := by decide +kernel
theorem dX11_parsesCommand_230 : decode cX11_parsesCommand 230 = .ok (.iadd, 1) := by decide +kernel
theorem dX11_parsesCommand_231 : decode cX11_parsesCommand 231 = .ok (.aload_n 0, 1) := by decide +kernel
theorem dX11_parsesCommand_232 : decode cX11_parsesCommand 232 = .ok (.iconst 1, 1) := by decide +kernel
theorem dX11_parsesCommand_233 : decode cX11_parsesCommand 233 = .ok (.iconst 1, 1) := by decide +kernel
theorem dX11_parsesCommand_234 : decode cX11_parsesCommand 234 = .ok (.invokevirtual 208, 3) := by decide +kernel
theorem dX11_parsesCommand_237 : decode cX11_parsesCommand 237 = .ok (.iastore, 1) := by decide +kernel
theorem dX11_parsesCommand_238 : decode cX11_parsesCommand 238 = .ok (.goto 155, 3) := by decide +kernel
theorem dX11_parsesCommand_241 : decode cX11_parsesCommand 241 = .ok (.aload_n 0, 1) := by decide +kernel
theorem dX11_parsesCommand_242 : decode cX11_parsesCommand 242 = .ok (.iload_n 1, 1) := by decide +kernel
theorem dX11_parsesCommand_243 : decode cX11_parsesCommand 243 = .ok (.invokevirtual 217, 3) := by decide +kernel
theorem dX11_parsesCommand_246 : decode cX11_parsesCommand 246 = .ok (.goto 147, 3) := by decide +kernel
theorem dX11_parsesCommand_249 : decode cX11_parsesCommand 249 = .ok (.aload_n 0, 1) := by decide +kernel
theorem dX11_parsesCommand_250 : decode cX11_parsesCommand 250 = .ok (.iload_n 1, 1) := by decide +kernel
theorem dX11_parsesCommand_251 : decode cX11_parsesCommand 251 = .ok (.invokevirtual 220, 3) := by decide +kernel
theorem dX11_parsesCommand_254 : decode cX11_parsesCommand 254 = .ok (.goto 139, 3) := by decide +kernel
theorem dX11_parsesCommand_257 : decode cX11_parsesCommand 257 = .ok (.aload_n 0, 1) := by decide +kernel
theorem dX11_parsesCommand_258 : decode cX11_parsesCommand 258 = .ok (.bipush 110, 2) := by decide +kernel
theorem dX11_parsesCommand_260 : decode cX11_parsesCommand 260 = .ok (.bipush 116, 2) := by decide +kernel
theorem dX11_parsesCommand_262 : decode cX11_parsesCommand 262 = .ok (.bipush 114, 2) := by decide +kernel
theorem dX11_parsesCommand_264 : decode cX11_parsesCommand 264 = .ok (.invokevirtual 204, 3) := by decide +kernel
theorem dX11_parsesCommand_267 : decode cX11_parsesCommand 267 = .ok (.aload_n 0, 1) := by decide +kernel
theorem dX11_parsesCommand_268 : decode cX11_parsesCommand 268 = .ok (.bipush 121, 2) := by decide +kernel
theorem dX11_parsesCommand_270 : decode cX11_parsesCommand 270 = .ok (.invokevirtual 198, 3) := by decide +kernel
theorem dX11_parsesCommand_273 : decode cX11_parsesCommand 273 = .ok (.aload_n 0, 1) := by decide +kernel
theorem dX11_parsesCommand_274 : decode cX11_parsesCommand 274 = .ok (.getfield 39, 3) := by decide +kernel
theorem dX11_parsesCommand_277 : decode cX11_parsesCommand 277 = .ok (.iload_n 1, 1) := by decide +kernel
theorem dX11_parsesCommand_278 : decode cX11_parsesCommand 278 = .ok (.iconst 1, 1) := by decide +kernel
theorem dX11_parsesCommand_279 : decode cX11_parsesCommand 279 = .ok (.iadd, 1) := by decide +kernel
theorem dX11_parsesCommand_280 : decode cX11_parsesCommand 280 = .ok (.aload_n 0, 1) := by decide +kernel
theorem dX11_parsesCommand_281 : decode cX11_parsesCommand 281 = .ok (.iconst 1, 1) := by decide +kernel
theorem dX11_parsesCommand_282 : decode cX11_parsesCommand 282 = .ok (.iconst 1, 1) := by decide +kernel
theorem dX11_parsesCommand_283 : decode cX11_parsesCommand 283 = .ok (.invokevirtual 208, 3) := by decide +kernel
theorem dX11_parsesCommand_286 : decode cX11_parsesCommand 286 = .ok (.iastore, 1) := by decide +kernel
theorem dX11_parsesCommand_287 : decode cX11_parsesCommand 287 = .ok (.aload_n 0, 1) := by decide +kernel
theorem dX11_parsesCommand_288 : decode cX11_parsesCommand 288 = .ok (.getfield 39, 3) := by decide +kernel
theorem dX11_parsesCommand_291 : decode cX11_parsesCommand 291 = .ok (.iload_n 1, 1) := by decide +kernel
theorem dX11_parsesCommand_292 : decode cX11_parsesCommand 292 = .ok (.iconst 2, 1) := by decide +kernel
theorem dX11_parsesCommand_293 : decode cX11_parsesCommand 293 = .ok (.iadd, 1) := by decide +kernel
theorem dX11_parsesCommand_294 : decode cX11_parsesCommand 294 = .ok (.aload_n 0, 1) := by decide +kernel
theorem dX11_parsesCommand_295 : decode cX11_parsesCommand 295 = .ok (.iconst 1, 1) := by decide +kernel
theorem dX11_parsesCommand_296 : decode cX11_parsesCommand 296 = .ok (.iconst 2, 1) := by decide +kernel
theorem dX11_parsesCommand_297 : decode cX11_parsesCommand 297 = .ok (.invokevirtual 208, 3) := by decide +kernel
theorem dX11_parsesCommand_300 : decode cX11_parsesCommand 300 = .ok (.iastore, 1) := by decide +kernel
theorem dX11_parsesCommand_301 : decode cX11_parsesCommand 301 = .ok (.goto 92, 3) := by decide +kernel
theorem dX11_parsesCommand_304 : decode cX11_parsesCommand 304 = .ok (.aload_n 0, 1) := by decide +kernel
theorem dX11_parsesCommand_305 : decode cX11_parsesCommand 305 = .ok (.bipush 101, 2) := by decide +kernel
theorem dX11_parsesCommand_307 : decode cX11_parsesCommand 307 = .ok (.bipush 108, 2) := by decide +kernel
theorem dX11_parsesCommand_309 : decode cX11_parsesCommand 309 = .ok (.bipush 108, 2) := by decide +kernel
theorem dX11_parsesCommand_311 : decode cX11_parsesCommand 311 = .ok (.invokevirtual 204, 3) := by decide +kernel
theorem dX11_parsesCommand_314 : decode cX11_parsesCommand 314 = .ok (.aload_n 0, 1) := by decide +kernel
theorem dX11_parsesCommand_315 : decode cX11_parsesCommand 315 = .ok (.getfield 39, 3) := by decide +kernel
theorem dX11_parsesCommand_318 : decode cX11_parsesCommand 318 = .ok (.iload_n 1, 1) := by decide +kernel
theorem dX11_parsesCommand_319 : decode cX11_parsesCommand 319 = .ok (.iconst 1, 1) := by decide +kernel
theorem dX11_parsesCommand_320 : decode cX11_parsesCommand 320 = .ok (.iadd, 1) := by decide +kernel
theorem dX11_parsesCommand_321 : decode cX11_parsesCommand 321 = .ok (.aload_n 0, 1) := by decide +kernel
theorem dX11_parsesCommand_322 : decode cX11_parsesCommand 322 = .ok (.iconst 1, 1) := by decide +kernel
theorem dX11_parsesCommand_323 : decode cX11_parsesCommand 323 = .ok (.iconst 1, 1) := by decide +kernel
theorem dX11_parsesCommand_324 : decode cX11_parsesCommand 324 = .ok (.invokevirtual 208, 3) := by decide +kernel
theorem dX11_parsesCommand_327 : decode cX11_parsesCommand 327 = .ok (.iastore, 1) := by decide +kernel
theorem dX11_parsesCommand_328 : decode cX11_parsesCommand 328 = .ok (.goto 65, 3) := by decide +kernel
theorem dX11_parsesCommand_331 : decode cX11_parsesCommand 331 = .ok (.aload_n 0, 1) := by decide +kernel
theorem dX11_parsesCommand_332 : decode cX11_parsesCommand 332 = .ok (.bipush 114, 2) := by decide +kernel
theorem dX11_parsesCommand_334 : decode cX11_parsesCommand 334 = .ok (.bipush 97, 2) := by decide +kernel
theorem dX11_parsesCommand_336 : decode cX11_parsesCommand 336 = .ok (.bipush 122, 2) := by decide +kernel
theorem dX11_parsesCommand_338 : decode cX11_parsesCommand 338 = .ok (.invokevirtual 204, 3) := by decide +kernel
theorem dX11_parsesCommand_341 : decode cX11_parsesCommand 341 = .ok (.aload_n 0, 1) := by decide +kernel
theorem dX11_parsesCommand_342 : decode cX11_parsesCommand 342 = .ok (.bipush 101, 2) := by decide +kernel
theorem dX11_parsesCommand_344 : decode cX11_parsesCommand 344 = .ok (.invokevirtual 198, 3) := by decide +kernel
theorem dX11_parsesCommand_347 : decode cX11_parsesCommand 347 = .ok (.aload_n 0, 1) := by decide +kernel
theorem dX11_parsesCommand_348 : decode cX11_parsesCommand 348 = .ok (.getfield 39, 3) := by decide +kernel
theorem dX11_parsesCommand_351 : decode cX11_parsesCommand 351 = .ok (.iload_n 1, 1) := by decide +kernel
theorem dX11_parsesCommand_352 : decode cX11_parsesCommand 352 = .ok (.iconst 1, 1) := by decide +kernel
theorem dX11_parsesCommand_353 : decode cX11_parsesCommand 353 = .ok (.iadd, 1) := by decide +kernel
theorem dX11_parsesCommand_354 : decode cX11_parsesCommand 354 = .ok (.aload_n 0, 1) := by decide +kernel
theorem dX11_parsesCommand_355 : decode cX11_parsesCommand 355 = .ok (.iconst 1, 1) := by decide +kernel
theorem dX11_parsesCommand_356 : decode cX11_parsesCommand 356 = .ok (.iconst 1, 1) := by decide +kernel
theorem dX11_parsesCommand_357 : decode cX11_parsesCommand 357 = .ok (.invokevirtual 208, 3) := by decide +kernel
theorem dX11_parsesCommand_360 : decode cX11_parsesCommand 360 = .ok (.iastore, 1) := by decide +kernel
theorem dX11_parsesCommand_361 : decode cX11_parsesCommand 361 = .ok (.aload_n 0, 1) := by decide +kernel
theorem dX11_parsesCommand_362 : decode cX11_parsesCommand 362 = .ok (.getfield 39, 3) := by decide +kernel
theorem dX11_parsesCommand_365 : decode cX11_parsesCommand 365 = .ok (.iload_n 1, 1) := by decide +kernel
theorem dX11_parsesCommand_366 : decode cX11_parsesCommand 366 = .ok (.iconst 2, 1) := by decide +kernel
theorem dX11_parsesCommand_367 : decode cX11_parsesCommand 367 = .ok (.iadd, 1) := by decide +kernel
theorem dX11_parsesCommand_368 : decode cX11_parsesCommand 368 = .ok (.aload_n 0, 1) := by decide +kernel
theorem dX11_parsesCommand_369 : decode cX11_parsesCommand 369 = .ok (.iconst 1, 1) := by decide +kernel
theorem dX11_parsesCommand_370 : decode cX11_parsesCommand 370 = .ok (.iconst 2, 1) := by decide +kernel
theorem dX11_parsesCommand_371 : decode cX11_parsesCommand 371 = .ok (.invokevirtual 208, 3) := by decide +kernel
theorem dX11_parsesCommand_374 : decode cX11_parsesCommand 374 = .ok (.iastore, 1) := by decide +kernel
theorem dX11_parsesCommand_375 : decode cX11_parsesCommand 375 = .ok (.goto 18, 3) := by decide +kernel
theorem dX11_parsesCommand_378 : decode cX11_parsesCommand 378 = .ok (.aload_n 0, 1) := by decide +kernel
theorem dX11_parsesCommand_379 : decode cX11_parsesCommand 379 = .ok (.iconst 1, 1) := by decide +kernel
theorem dX11_parsesCommand_380 : decode cX11_parsesCommand 380 = .ok (.putfield 190, 3) := by decide +kernel
theorem dX11_parsesCommand_383 : decode cX11_parsesCommand 383 = .ok (.aload_n 0, 1) := by decide +kernel
theorem dX11_parsesCommand_384 : decode cX11_parsesCommand 384 = .ok (.dup, 1) := by decide +kernel
theorem dX11_parsesCommand_385 : decode cX11_parsesCommand 385 = .ok (.getfield 187, 3) := by decide +kernel
theorem dX11_parsesCommand_388 : decode cX11_parsesCommand 388 = .ok (.iconst 1, 1) := by decide +kernel
theorem dX11_parsesCommand_389 : decode cX11_parsesCommand 389 = .ok (.isub, 1) := by decide +kernel
theorem dX11_parsesCommand_390 : decode cX11_parsesCommand 390 = .ok (.putfield 187, 3) := by decide +kernel
theorem dX11_parsesCommand_393 : decode cX11_parsesCommand 393 = .ok (.return_, 1) := by decide +kernel
def f_X11_parsesCommand (x_buffer : (Nat → Int32)) (x_typed : Int32) (x_spot : Int32) (x_isWrong : Int32) (x_parsed : (Nat → Int32)) (p1 : Int32) : Option (Int32 × Int32 × (Nat → Int32)) :=
  q_bd (f_X11_here x_buffer x_typed x_spot) (fun q1 =>
  q_gd (q_in p1 180) (
  q_lt (upd x_parsed (p1.toNatClampNeg) q1) (fun u3 =>
  q_lt (fun (_ : Unit) =>
  some ((x_spot + 1) - 1, 1, u3)) (fun (J378 : Unit → Option (Int32 × Int32 × (Nat → Int32))) =>
  q_br (q1 = 98) (
  q_bd (f_X11_needsThree x_buffer x_typed (x_spot + 1) x_isWrong 101 108 108) (fun q4 =>
  q_bd (f_X11_afterBlank x_buffer x_typed q4.1 q4.2 1 1) (fun q5 =>
  q_gd (q_in (p1 + 1) 180) (
  q_lt (upd u3 ((p1 + 1).toNatClampNeg) q5.1) (fun u7 =>
  q_bd (f_X11_afterBlank x_buffer x_typed q5.2.1 q5.2.2 4 4) (fun q8 =>
  q_gd (q_in (p1 + 2) 180) (
  q_lt (upd u7 ((p1 + 2).toNatClampNeg) q8.1) (fun u10 =>
  some (q8.2.1, q8.2.2, u10))))))))) (
  q_br (q1 = 99) (
  q_bd (f_X11_parsesC x_buffer x_typed (x_spot + 1) x_isWrong u3 p1) (fun q11 =>
  some (q11.1, q11.2.1, q11.2.2))) (
  q_br (q1 = 100) (
  J378 (())) (
  q_br (q1 = 101) (
  q_bd (f_X11_needsThree x_buffer x_typed (x_spot + 1) x_isWrong 110 116 114) (fun q12 =>
  q_bd (f_X11_needs x_buffer x_typed q12.1 q12.2 121) (fun q13 =>
  q_bd (f_X11_afterBlank x_buffer x_typed q13.1 q13.2 1 1) (fun q14 =>
  q_gd (q_in (p1 + 1) 180) (
  q_lt (upd u3 ((p1 + 1).toNatClampNeg) q14.1) (fun u16 =>
  q_bd (f_X11_afterBlank x_buffer x_typed q14.2.1 q14.2.2 1 2) (fun q17 =>
  q_gd (q_in (p1 + 2) 180) (
  q_lt (upd u16 ((p1 + 2).toNatClampNeg) q17.1) (fun u19 =>
  some (q17.2.1, q17.2.2, u19)))))))))) (
  q_br (q1 = 102) (
  q_bd (f_X11_needsThree x_buffer x_typed (x_spot + 1) x_isWrong 101 108 108) (fun q20 =>
  q_bd (f_X11_afterBlank x_buffer x_typed q20.1 q20.2 1 1) (fun q21 =>
  q_gd (q_in (p1 + 1) 180) (
  q_lt (upd u3 ((p1 + 1).toNatClampNeg) q21.1) (fun u23 =>
  some (q21.2.1, q21.2.2, u23)))))) (
  q_br (q1 = 103) (
  q_bd (f_X11_needsThree x_buffer x_typed (x_spot + 1) x_isWrong 114 97 122) (fun q24 =>
  q_bd (f_X11_needs x_buffer x_typed q24.1 q24.2 101) (fun q25 =>
  q_bd (f_X11_afterBlank x_buffer x_typed q25.1 q25.2 1 1) (fun q26 =>
  q_gd (q_in (p1 + 1) 180) (
  q_lt (upd u3 ((p1 + 1).toNatClampNeg) q26.1) (fun u28 =>
  q_bd (f_X11_afterBlank x_buffer x_typed q26.2.1 q26.2.2 1 2) (fun q29 =>
  q_gd (q_in (p1 + 2) 180) (
  q_lt (upd u28 ((p1 + 2).toNatClampNeg) q29.1) (fun u31 =>
  some (q29.2.1, q29.2.2, u31)))))))))) (
  q_br (q1 = 104) (
  J378 (())) (
  q_br (q1 = 105) (
  J378 (())) (
  q_br (q1 = 106) (
  J378 (())) (
  q_br (q1 = 107) (
  q_bd (f_X11_parsesKey x_buffer x_typed (x_spot + 1) x_isWrong u3 p1) (fun q32 =>
  some (q32.1, q32.2.1, q32.2.2))) (
  q_br (q1 = 108) (
  J378 (())) (
  q_br (q1 = 109) (
  q_bd (f_X11_needsThree x_buffer x_typed (x_spot + 1) x_isWrong 111 118 101) (fun q33 =>
  q_bd (f_X11_afterBlank x_buffer x_typed q33.1 q33.2 1 2) (fun q34 =>
  q_gd (q_in (p1 + 1) 180) (
  q_lt (upd u3 ((p1 + 1).toNatClampNeg) q34.1) (fun u36 =>
  q_bd (f_X11_afterBlank x_buffer x_typed q34.2.1 q34.2.2 1 1) (fun q37 =>
  q_gd (q_in (p1 + 2) 180) (
  q_lt (upd u36 ((p1 + 2).toNatClampNeg) q37.1) (fun u39 =>
  some (q37.2.1, q37.2.2, u39))))))))) (
  q_br (q1 = 110) (
  J378 (())) (
  q_br (q1 = 111) (
  J378 (())) (
  q_br (q1 = 112) (
  J378 (())) (
  q_br (q1 = 113) (
  J378 (())) (
  q_br (q1 = 114) (
  q_bd (f_X11_needsThree x_buffer x_typed (x_spot + 1) x_isWrong 101 109 111) (fun q40 =>
  q_bd (f_X11_needs x_buffer x_typed q40.1 q40.2 118) (fun q41 =>
  q_bd (f_X11_needs x_buffer x_typed q41.1 q41.2 101) (fun q42 =>
  q_bd (f_X11_afterBlank x_buffer x_typed q42.1 q42.2 1 2) (fun q43 =>
  q_gd (q_in (p1 + 1) 180) (
  q_lt (upd u3 ((p1 + 1).toNatClampNeg) q43.1) (fun u45 =>
  some (q43.2.1, q43.2.2, u45)))))))) (
  q_br (q1 = 115) (
  J378 (())) (
  q_br (q1 = 116) (
  q_bd (f_X11_parsesT x_buffer x_typed (x_spot + 1) x_isWrong u3 p1) (fun q46 =>
  some (q46.1, q46.2.1, q46.2.2))) (
  J378 (()))))))))))))))))))))))))
theorem hv_X11_parsesCommand : yX11_parsesCommand.cls = RX11 ∧ yX11_parsesCommand.cls ≠ "java/lang/invoke/MethodHandle" ∧ yX11_parsesCommand.cls ≠ "java/lang/invoke/VarHandle" ∧ (parseMethodDescriptor yX11_parsesCommand.desc).map (fun d => d.parameters.length) = some 1 := by decide +kernel
abbrev rm_X11_parsesCommand : Room := { frames := 4, cells := 0, slots := 0, locals := 90 }
set_option maxHeartbeats 4000000 in
set_option maxRecDepth 100000 in
theorem k_X11_parsesCommand (l : Launch) (E : ET) (a : Nat → Nat) (o : Nat) (x : Model_t) (p1 : Int32) (res : Int32 × Int32 × (Nat → Int32)) (hF : f_X11_parsesCommand x.2.1.2.1 x.2.1.2.2.1 x.2.2.2.2.1 x.2.2.2.2.2.1 x.2.2.2.2.2.2 p1 = some res) (sz : Nat) : CtV l yX11_parsesCommand (mws yX11_parsesCommand cX11_parsesCommand 3 none) rm_X11_parsesCommand 0 0 [.ref (a o), .int p1] E (bl_Model E a o x) (bl_Model E a o ((x.1.1, x.1.2.1, x.1.2.2.1, x.1.2.2.2.1, x.1.2.2.2.2), (x.2.1.1, x.2.1.2.1, x.2.1.2.2.1, x.2.1.2.2.2.1, x.2.1.2.2.2.2), (x.2.2.1.1, x.2.2.1.2.1, x.2.2.1.2.2.1, x.2.2.1.2.2.2), (x.2.2.2.1, res.1, res.2.1, res.2.2))) sz := by
  refine mk_M (by decide +kernel) (Nat.le_of_ble_eq_true rfl) ?_
  intro p e s m below meth c A args Q ls hAe hsz hQ hx hb hr hml hin ha hown hlocks hA hz hzs hst hP hD hS hl
  have hown : s.vm.findClass RX11 = some m.cls := hown
  rw [hAe] at hQ
  subst hsz
  have hP : va_P E.1 vwCl (List.flatten [w_Model E a o x]) s.heap := hP
  have hD : va_D A (List.flatten [w_Model E a o x]) := hD
  have hl : lv_has ls 3 [(0, .ref (a o)), (1, .int p1)] := hl
  generalize hHe : s.heap = H at hP
  have hS : va_S A s.heap H [] := by rw [← hHe]; exact hS
  generalize ([] : List Loc) = locs at hS ⊢
  unfold f_X11_parsesCommand at hF
  refine lv_aload_n hx hb dX11_parsesCommand_0 rfl (lv_at hl 0 rfl) ?_
  obtain ⟨q1, hq1, hF⟩ := q_bdi hF
  refine cl_i (Lc := [w_Model E a o x]) (Lc' := [w_Model E a o x]) (L' := [w_Model E a o x]) (rv := q1) (va_runV (As := []) (rest := []) ⟨hx, hb, hml, hown, ha⟩ (k_X11_here l E a o x q1 hq1 H.size) (cwV 0 ha (gi_V (fun _ h => h) mw2038 mw2040 mw60 mw87 mw2041) rfl rfl rfl hv_X11_here ⟨(Nat.le_of_ble_eq_true rfl), (Nat.le_of_ble_eq_true rfl)⟩) ⟨pre_blind, va_recv hst.k (fr_P hP [0] rfl) (ci := 13) (q0 := 0) rfl rfl, pre_at hP hD hS hz hzs hst [0] (by decide) rfl rfl⟩ rfl rfl hl.1 rfl (lv_room (Nat.le_of_ble_eq_true rfl)) dX11_parsesCommand_1 ⟨(Nat.le_of_ble_eq_true rfl), (Nat.le_of_ble_eq_true rfl)⟩) hP hD hS hA [0] (by decide) rfl rfl rfl rfl (fun H locs hP hD hS => ?_)
  refine lv_istore_n (lv' := [(2, .int q1), (0, .ref (a o)), (1, .int p1)]) hx hb dX11_parsesCommand_4 rfl hl (by decide) rfl (fun ls hl => ?_)
  refine lv_aload_n hx hb dX11_parsesCommand_5 rfl (lv_at hl 1 rfl) ?_
  refine lv_dup hx hb dX11_parsesCommand_6 rfl ?_
  refine va_get (D := E.1) (ci := 13) (v := .int x.2.2.2.2.1) (C := RX11) (T := TX11) (N := 18) hx hb ha in_X11 hown hst.k hP 0 rfl rfl 15 (by decide) (ha _ mw1651) (fun _ h9 => h9) rfl dX11_parsesCommand_7 ?_
  refine lv_iconst (v := 1) hx hb dX11_parsesCommand_10 (by decide) ?_
  refine lv_iadd hx hb dX11_parsesCommand_11 ?_
  refine va_put (D := E.1) (ci := 13) (v := .int (x.2.2.2.2.1 + 1)) (ty := .int) (C := RX11) (T := TX11) (N := 18) hx hb ha in_X11 tyX11 tyX11_ok nmX11 hown hst.k hP hD hS 0 rfl rfl 15 (by decide) (ha _ mw1651) (fun _ h9 => h9) rfl (tyX11_ok 15 (by decide)) rfl rfl (Nat.le_of_ble_eq_true rfl) dX11_parsesCommand_12 (fun H locs hP hD hS => ?_)
  have hP : va_P E.1 vwCl (List.flatten [w_Model E a o ((x.1.1, x.1.2.1, x.1.2.2.1, x.1.2.2.2.1, x.1.2.2.2.2), (x.2.1.1, x.2.1.2.1, x.2.1.2.2.1, x.2.1.2.2.2.1, x.2.1.2.2.2.2), (x.2.2.1.1, x.2.2.1.2.1, x.2.2.1.2.2.1, x.2.2.1.2.2.2), (x.2.2.2.1, x.2.2.2.2.1 + 1, x.2.2.2.2.2.1, x.2.2.2.2.2.2))]) H := hP
  have hD : va_D A (List.flatten [w_Model E a o ((x.1.1, x.1.2.1, x.1.2.2.1, x.1.2.2.2.1, x.1.2.2.2.2), (x.2.1.1, x.2.1.2.1, x.2.1.2.2.1, x.2.1.2.2.2.1, x.2.1.2.2.2.2), (x.2.2.1.1, x.2.2.1.2.1, x.2.2.1.2.2.1, x.2.2.1.2.2.2), (x.2.2.2.1, x.2.2.2.2.1 + 1, x.2.2.2.2.2.1, x.2.2.2.2.2.2))]) := hD
  refine lv_aload_n hx hb dX11_parsesCommand_15 rfl (lv_at hl 1 rfl) ?_
  refine va_get (D := E.1) (ci := 13) (v := .ref (a (o + 8))) (C := RX11) (T := TX11) (N := 18) hx hb ha in_X11 hown hst.k hP 0 rfl rfl 17 (by decide) (ha _ mw1653) (fun _ h9 => h9) rfl dX11_parsesCommand_16 ?_
  refine lv_iload_n hx hb dX11_parsesCommand_19 rfl (lv_at hl 2 rfl) ?_
  refine lv_iload_n hx hb dX11_parsesCommand_20 rfl (lv_at hl 0 rfl) ?_
  obtain ⟨g2, hF⟩ := q_gdi hF
  refine vj_iast hx hb hst.k hP hD hS 8 0 rfl rfl (f := x.2.2.2.2.2.2) (k := p1.toNatClampNeg) rfl g2 dX11_parsesCommand_21 (fun u3 eu3 H locs hP hD hS => ?_)
  have hF := q_lti eu3 hF
  have hP : va_P E.1 vwCl (List.flatten [w_Model E a o ((x.1.1, x.1.2.1, x.1.2.2.1, x.1.2.2.2.1, x.1.2.2.2.2), (x.2.1.1, x.2.1.2.1, x.2.1.2.2.1, x.2.1.2.2.2.1, x.2.1.2.2.2.2), (x.2.2.1.1, x.2.2.1.2.1, x.2.2.1.2.2.1, x.2.2.1.2.2.2), (x.2.2.2.1, x.2.2.2.2.1 + 1, x.2.2.2.2.2.1, u3))]) H := hP
  have hD : va_D A (List.flatten [w_Model E a o ((x.1.1, x.1.2.1, x.1.2.2.1, x.1.2.2.2.1, x.1.2.2.2.2), (x.2.1.1, x.2.1.2.1, x.2.1.2.2.1, x.2.1.2.2.2.1, x.2.1.2.2.2.2), (x.2.2.1.1, x.2.2.1.2.1, x.2.2.1.2.2.1, x.2.2.1.2.2.2), (x.2.2.2.1, x.2.2.2.2.1 + 1, x.2.2.2.2.2.1, u3))]) := hD
  refine lv_iload_n hx hb dX11_parsesCommand_22 rfl (lv_at hl 0 rfl) ?_
  obtain ⟨J378, hJ378, hF⟩ := q_jn hF
  have jJ378 : ∀ (H : Heap) (locs : List Loc) (ls : Array Slot), J378 () = some res → va_P E.1 vwCl (List.flatten [w_Model E a o ((x.1.1, x.1.2.1, x.1.2.2.1, x.1.2.2.2.1, x.1.2.2.2.2), (x.2.1.1, x.2.1.2.1, x.2.1.2.2.1, x.2.1.2.2.2.1, x.2.1.2.2.2.2), (x.2.2.1.1, x.2.2.1.2.1, x.2.2.1.2.2.1, x.2.2.1.2.2.2), (x.2.2.2.1, x.2.2.2.2.1 + 1, x.2.2.2.2.2.1, u3))]) H → va_D A (List.flatten [w_Model E a o ((x.1.1, x.1.2.1, x.1.2.2.1, x.1.2.2.2.1, x.1.2.2.2.2), (x.2.1.1, x.2.1.2.1, x.2.1.2.2.1, x.2.1.2.2.2.1, x.2.1.2.2.2.2), (x.2.2.1.1, x.2.2.1.2.1, x.2.2.1.2.2.1, x.2.2.1.2.2.2), (x.2.2.2.1, x.2.2.2.2.1 + 1, x.2.2.2.2.2.1, u3))]) → va_S A s.heap H locs → lv_has ls 3 [(0, .ref (a o))] → W p l e rm_X11_parsesCommand s m args below meth c H locs 0 0 Q (F0 m 378 ls []) := by
    intro  H locs ls hF hP hD hS hl
    rw [hJ378] at hF
    refine lv_aload_n hx hb dX11_parsesCommand_378 rfl (lv_at hl 0 rfl) ?_
    refine lv_iconst (v := 1) hx hb dX11_parsesCommand_379 (by decide) ?_
    refine va_put (D := E.1) (ci := 13) (v := .int 1) (ty := .boolean) (C := RX11) (T := TX11) (N := 18) hx hb ha in_X11 tyX11 tyX11_ok nmX11 hown hst.k hP hD hS 0 rfl rfl 16 (by decide) (ha _ mw1652) (fun _ h9 => h9) rfl (tyX11_ok 16 (by decide)) (by decide) (by decide) (Nat.le_of_ble_eq_true rfl) dX11_parsesCommand_380 (fun H locs hP hD hS => ?_)
    have hP : va_P E.1 vwCl (List.flatten [w_Model E a o ((x.1.1, x.1.2.1, x.1.2.2.1, x.1.2.2.2.1, x.1.2.2.2.2), (x.2.1.1, x.2.1.2.1, x.2.1.2.2.1, x.2.1.2.2.2.1, x.2.1.2.2.2.2), (x.2.2.1.1, x.2.2.1.2.1, x.2.2.1.2.2.1, x.2.2.1.2.2.2), (x.2.2.2.1, x.2.2.2.2.1 + 1, 1, u3))]) H := hP
    have hD : va_D A (List.flatten [w_Model E a o ((x.1.1, x.1.2.1, x.1.2.2.1, x.1.2.2.2.1, x.1.2.2.2.2), (x.2.1.1, x.2.1.2.1, x.2.1.2.2.1, x.2.1.2.2.2.1, x.2.1.2.2.2.2), (x.2.2.1.1, x.2.2.1.2.1, x.2.2.1.2.2.1, x.2.2.1.2.2.2), (x.2.2.2.1, x.2.2.2.2.1 + 1, 1, u3))]) := hD
    refine lv_aload_n hx hb dX11_parsesCommand_383 rfl (lv_at hl 0 rfl) ?_
    refine lv_dup hx hb dX11_parsesCommand_384 rfl ?_
    refine va_get (D := E.1) (ci := 13) (v := .int (x.2.2.2.2.1 + 1)) (C := RX11) (T := TX11) (N := 18) hx hb ha in_X11 hown hst.k hP 0 rfl rfl 15 (by decide) (ha _ mw1651) (fun _ h9 => h9) rfl dX11_parsesCommand_385 ?_
    refine lv_iconst (v := 1) hx hb dX11_parsesCommand_388 (by decide) ?_
    refine lv_isub hx hb dX11_parsesCommand_389 ?_
    refine va_put (D := E.1) (ci := 13) (v := .int ((x.2.2.2.2.1 + 1) - 1)) (ty := .int) (C := RX11) (T := TX11) (N := 18) hx hb ha in_X11 tyX11 tyX11_ok nmX11 hown hst.k hP hD hS 0 rfl rfl 15 (by decide) (ha _ mw1651) (fun _ h9 => h9) rfl (tyX11_ok 15 (by decide)) rfl rfl (Nat.le_of_ble_eq_true rfl) dX11_parsesCommand_390 (fun H locs hP hD hS => ?_)
    have hP : va_P E.1 vwCl (List.flatten [w_Model E a o ((x.1.1, x.1.2.1, x.1.2.2.1, x.1.2.2.2.1, x.1.2.2.2.2), (x.2.1.1, x.2.1.2.1, x.2.1.2.2.1, x.2.1.2.2.2.1, x.2.1.2.2.2.2), (x.2.2.1.1, x.2.2.1.2.1, x.2.2.1.2.2.1, x.2.2.1.2.2.2), (x.2.2.2.1, (x.2.2.2.2.1 + 1) - 1, 1, u3))]) H := hP
    have hD : va_D A (List.flatten [w_Model E a o ((x.1.1, x.1.2.1, x.1.2.2.1, x.1.2.2.2.1, x.1.2.2.2.2), (x.2.1.1, x.2.1.2.1, x.2.1.2.2.1, x.2.1.2.2.2.1, x.2.1.2.2.2.2), (x.2.2.1.1, x.2.2.1.2.1, x.2.2.1.2.2.1, x.2.2.1.2.2.2), (x.2.2.2.1, (x.2.2.2.2.1 + 1) - 1, 1, u3))]) := hD
    obtain rfl := Option.some.inj hF
    exact en_v hQ (Nat.le_of_ble_eq_true rfl) (Nat.le_of_ble_eq_true rfl) hx hb hr hlocks hP hD hS dX11_parsesCommand_393
  by_cases w23_0 : q1 = 98
  · have hF := q_brp w23_0 hF
    refine lv_tableIn (off := 89) (tgt := 112) hx hb dX11_parsesCommand_23 (by rw [w23_0]; decide) (by rw [w23_0]; decide) (by rw [w23_0]; decide) (by decide) ?_
    refine lv_aload_n hx hb dX11_parsesCommand_112 rfl (lv_at hl 1 rfl) ?_
    refine lv_bipush (v := 101) hx hb dX11_parsesCommand_113 (by decide) ?_
    refine lv_bipush (v := 108) hx hb dX11_parsesCommand_115 (by decide) ?_
    refine lv_bipush (v := 108) hx hb dX11_parsesCommand_117 (by decide) ?_
    obtain ⟨q4, hq4, hF⟩ := q_bdi hF
    refine cl_v (Lc := [w_Model E a o ((x.1.1, x.1.2.1, x.1.2.2.1, x.1.2.2.2.1, x.1.2.2.2.2), (x.2.1.1, x.2.1.2.1, x.2.1.2.2.1, x.2.1.2.2.2.1, x.2.1.2.2.2.2), (x.2.2.1.1, x.2.2.1.2.1, x.2.2.1.2.2.1, x.2.2.1.2.2.2), (x.2.2.2.1, x.2.2.2.2.1 + 1, x.2.2.2.2.2.1, u3))]) (Lc' := [w_Model E a o ((x.1.1, x.1.2.1, x.1.2.2.1, x.1.2.2.2.1, x.1.2.2.2.2), (x.2.1.1, x.2.1.2.1, x.2.1.2.2.1, x.2.1.2.2.2.1, x.2.1.2.2.2.2), (x.2.2.1.1, x.2.2.1.2.1, x.2.2.1.2.2.1, x.2.2.1.2.2.2), (x.2.2.2.1, q4.1, q4.2, u3))]) (L' := [w_Model E a o ((x.1.1, x.1.2.1, x.1.2.2.1, x.1.2.2.2.1, x.1.2.2.2.2), (x.2.1.1, x.2.1.2.1, x.2.1.2.2.1, x.2.1.2.2.2.1, x.2.1.2.2.2.2), (x.2.2.1.1, x.2.2.1.2.1, x.2.2.1.2.2.1, x.2.2.1.2.2.2), (x.2.2.2.1, q4.1, q4.2, u3))]) (va_runV (As := [.int 101, .int 108, .int 108]) (rest := []) ⟨hx, hb, hml, hown, ha⟩ (k_X11_needsThree l E a o ((x.1.1, x.1.2.1, x.1.2.2.1, x.1.2.2.2.1, x.1.2.2.2.2), (x.2.1.1, x.2.1.2.1, x.2.1.2.2.1, x.2.1.2.2.2.1, x.2.1.2.2.2.2), (x.2.2.1.1, x.2.2.1.2.1, x.2.2.1.2.2.1, x.2.2.1.2.2.2), (x.2.2.2.1, x.2.2.2.2.1 + 1, x.2.2.2.2.2.1, u3)) 101 108 108 q4 hq4 H.size) (cwV 3 ha (gi_V (fun _ h => h) mw2042 mw2044 mw61 mw87 mw2045) rfl rfl rfl hv_X11_needsThree ⟨(Nat.le_of_ble_eq_true rfl), (Nat.le_of_ble_eq_true rfl)⟩) ⟨pre_blind, va_recv hst.k (fr_P hP [0] rfl) (ci := 13) (q0 := 0) rfl rfl, pre_at hP hD hS hz hzs hst [0] (by decide) rfl rfl⟩ rfl rfl hl.1 rfl (lv_room (Nat.le_of_ble_eq_true rfl)) dX11_parsesCommand_119 ⟨(Nat.le_of_ble_eq_true rfl), (Nat.le_of_ble_eq_true rfl)⟩) hP hD hS hA [0] (by decide) rfl rfl rfl rfl (fun H locs hP hD hS => ?_)
    refine lv_aload_n hx hb dX11_parsesCommand_122 rfl (lv_at hl 1 rfl) ?_
    refine va_get (D := E.1) (ci := 13) (v := .ref (a (o + 8))) (C := RX11) (T := TX11) (N := 18) hx hb ha in_X11 hown hst.k hP 0 rfl rfl 17 (by decide) (ha _ mw1653) (fun _ h9 => h9) rfl dX11_parsesCommand_123 ?_
    refine lv_iload_n hx hb dX11_parsesCommand_126 rfl (lv_at hl 2 rfl) ?_
    refine lv_iconst (v := 1) hx hb dX11_parsesCommand_127 (by decide) ?_
    refine lv_iadd hx hb dX11_parsesCommand_128 ?_
    refine lv_aload_n hx hb dX11_parsesCommand_129 rfl (lv_at hl 1 rfl) ?_
    refine lv_iconst (v := 1) hx hb dX11_parsesCommand_130 (by decide) ?_
    refine lv_iconst (v := 1) hx hb dX11_parsesCommand_131 (by decide) ?_
    obtain ⟨q5, hq5, hF⟩ := q_bdi hF
    refine cl_i (Lc := [w_Model E a o ((x.1.1, x.1.2.1, x.1.2.2.1, x.1.2.2.2.1, x.1.2.2.2.2), (x.2.1.1, x.2.1.2.1, x.2.1.2.2.1, x.2.1.2.2.2.1, x.2.1.2.2.2.2), (x.2.2.1.1, x.2.2.1.2.1, x.2.2.1.2.2.1, x.2.2.1.2.2.2), (x.2.2.2.1, q4.1, q4.2, u3))]) (Lc' := [w_Model E a o ((x.1.1, x.1.2.1, x.1.2.2.1, x.1.2.2.2.1, x.1.2.2.2.2), (x.2.1.1, x.2.1.2.1, x.2.1.2.2.1, x.2.1.2.2.2.1, x.2.1.2.2.2.2), (x.2.2.1.1, x.2.2.1.2.1, x.2.2.1.2.2.1, x.2.2.1.2.2.2), (x.2.2.2.1, q5.2.1, q5.2.2, u3))]) (L' := [w_Model E a o ((x.1.1, x.1.2.1, x.1.2.2.1, x.1.2.2.2.1, x.1.2.2.2.2), (x.2.1.1, x.2.1.2.1, x.2.1.2.2.1, x.2.1.2.2.2.1, x.2.1.2.2.2.2), (x.2.2.1.1, x.2.2.1.2.1, x.2.2.1.2.2.1, x.2.2.1.2.2.2), (x.2.2.2.1, q5.2.1, q5.2.2, u3))]) (rv := q5.1) (va_runV (As := [.int 1, .int 1]) (rest := [.int (p1 + 1), .ref (a (o + 8))]) ⟨hx, hb, hml, hown, ha⟩ (k_X11_afterBlank l E a o ((x.1.1, x.1.2.1, x.1.2.2.1, x.1.2.2.2.1, x.1.2.2.2.2), (x.2.1.1, x.2.1.2.1, x.2.1.2.2.1, x.2.1.2.2.2.1, x.2.1.2.2.2.2), (x.2.2.1.1, x.2.2.1.2.1, x.2.2.1.2.2.1, x.2.2.1.2.2.2), (x.2.2.2.1, q4.1, q4.2, u3)) 1 1 q5 hq5 H.size) (cwV 2 ha (gi_V (fun _ h => h) mw2050 mw2052 mw63 mw87 mw2053) rfl rfl rfl hv_X11_afterBlank ⟨(Nat.le_of_ble_eq_true rfl), (Nat.le_of_ble_eq_true rfl)⟩) ⟨pre_blind, va_recv hst.k (fr_P hP [0] rfl) (ci := 13) (q0 := 0) rfl rfl, pre_at hP hD hS hz hzs hst [0] (by decide) rfl rfl⟩ rfl rfl hl.1 rfl (lv_room (Nat.le_of_ble_eq_true rfl)) dX11_parsesCommand_132 ⟨(Nat.le_of_ble_eq_true rfl), (Nat.le_of_ble_eq_true rfl)⟩) hP hD hS hA [0] (by decide) rfl rfl rfl rfl (fun H locs hP hD hS => ?_)
    obtain ⟨g6, hF⟩ := q_gdi hF
    refine vj_iast hx hb hst.k hP hD hS 8 0 rfl rfl (f := u3) (k := (p1 + 1).toNatClampNeg) rfl g6 dX11_parsesCommand_135 (fun u7 eu7 H locs hP hD hS => ?_)
    have hF := q_lti eu7 hF
    have hP : va_P E.1 vwCl (List.flatten [w_Model E a o ((x.1.1, x.1.2.1, x.1.2.2.1, x.1.2.2.2.1, x.1.2.2.2.2), (x.2.1.1, x.2.1.2.1, x.2.1.2.2.1, x.2.1.2.2.2.1, x.2.1.2.2.2.2), (x.2.2.1.1, x.2.2.1.2.1, x.2.2.1.2.2.1, x.2.2.1.2.2.2), (x.2.2.2.1, q5.2.1, q5.2.2, u7))]) H := hP
    have hD : va_D A (List.flatten [w_Model E a o ((x.1.1, x.1.2.1, x.1.2.2.1, x.1.2.2.2.1, x.1.2.2.2.2), (x.2.1.1, x.2.1.2.1, x.2.1.2.2.1, x.2.1.2.2.2.1, x.2.1.2.2.2.2), (x.2.2.1.1, x.2.2.1.2.1, x.2.2.1.2.2.1, x.2.2.1.2.2.2), (x.2.2.2.1, q5.2.1, q5.2.2, u7))]) := hD
    refine lv_aload_n hx hb dX11_parsesCommand_136 rfl (lv_at hl 1 rfl) ?_
    refine va_get (D := E.1) (ci := 13) (v := .ref (a (o + 8))) (C := RX11) (T := TX11) (N := 18) hx hb ha in_X11 hown hst.k hP 0 rfl rfl 17 (by decide) (ha _ mw1653) (fun _ h9 => h9) rfl dX11_parsesCommand_137 ?_
    refine lv_iload_n hx hb dX11_parsesCommand_140 rfl (lv_at hl 2 rfl) ?_
    refine lv_iconst (v := 2) hx hb dX11_parsesCommand_141 (by decide) ?_
    refine lv_iadd hx hb dX11_parsesCommand_142 ?_
    refine lv_aload_n hx hb dX11_parsesCommand_143 rfl (lv_at hl 1 rfl) ?_
    refine lv_iconst (v := 4) hx hb dX11_parsesCommand_144 (by decide) ?_
    refine lv_iconst (v := 4) hx hb dX11_parsesCommand_145 (by decide) ?_
    obtain ⟨q8, hq8, hF⟩ := q_bdi hF
    refine cl_i (Lc := [w_Model E a o ((x.1.1, x.1.2.1, x.1.2.2.1, x.1.2.2.2.1, x.1.2.2.2.2), (x.2.1.1, x.2.1.2.1, x.2.1.2.2.1, x.2.1.2.2.2.1, x.2.1.2.2.2.2), (x.2.2.1.1, x.2.2.1.2.1, x.2.2.1.2.2.1, x.2.2.1.2.2.2), (x.2.2.2.1, q5.2.1, q5.2.2, u7))]) (Lc' := [w_Model E a o ((x.1.1, x.1.2.1, x.1.2.2.1, x.1.2.2.2.1, x.1.2.2.2.2), (x.2.1.1, x.2.1.2.1, x.2.1.2.2.1, x.2.1.2.2.2.1, x.2.1.2.2.2.2), (x.2.2.1.1, x.2.2.1.2.1, x.2.2.1.2.2.1, x.2.2.1.2.2.2), (x.2.2.2.1, q8.2.1, q8.2.2, u7))]) (L' := [w_Model E a o ((x.1.1, x.1.2.1, x.1.2.2.1, x.1.2.2.2.1, x.1.2.2.2.2), (x.2.1.1, x.2.1.2.1, x.2.1.2.2.1, x.2.1.2.2.2.1, x.2.1.2.2.2.2), (x.2.2.1.1, x.2.2.1.2.1, x.2.2.1.2.2.1, x.2.2.1.2.2.2), (x.2.2.2.1, q8.2.1, q8.2.2, u7))]) (rv := q8.1) (va_runV (As := [.int 4, .int 4]) (rest := [.int (p1 + 2), .ref (a (o + 8))]) ⟨hx, hb, hml, hown, ha⟩ (k_X11_afterBlank l E a o ((x.1.1, x.1.2.1, x.1.2.2.1, x.1.2.2.2.1, x.1.2.2.2.2), (x.2.1.1, x.2.1.2.1, x.2.1.2.2.1, x.2.1.2.2.2.1, x.2.1.2.2.2.2), (x.2.2.1.1, x.2.2.1.2.1, x.2.2.1.2.2.1, x.2.2.1.2.2.2), (x.2.2.2.1, q5.2.1, q5.2.2, u7)) 4 4 q8 hq8 H.size) (cwV 2 ha (gi_V (fun _ h => h) mw2050 mw2052 mw63 mw87 mw2053) rfl rfl rfl hv_X11_afterBlank ⟨(Nat.le_of_ble_eq_true rfl), (Nat.le_of_ble_eq_true rfl)⟩) ⟨pre_blind, va_recv hst.k (fr_P hP [0] rfl) (ci := 13) (q0 := 0) rfl rfl, pre_at hP hD hS hz hzs hst [0] (by decide) rfl rfl⟩ rfl rfl hl.1 rfl (lv_room (Nat.le_of_ble_eq_true rfl)) dX11_parsesCommand_146 ⟨(Nat.le_of_ble_eq_true rfl), (Nat.le_of_ble_eq_true rfl)⟩) hP hD hS hA [0] (by decide) rfl rfl rfl rfl (fun H locs hP hD hS => ?_)
    obtain ⟨g9, hF⟩ := q_gdi hF
    refine vj_iast hx hb hst.k hP hD hS 8 0 rfl rfl (f := u7) (k := (p1 + 2).toNatClampNeg) rfl g9 dX11_parsesCommand_149 (fun u10 eu10 H locs hP hD hS => ?_)
    have hF := q_lti eu10 hF
    have hP : va_P E.1 vwCl (List.flatten [w_Model E a o ((x.1.1, x.1.2.1, x.1.2.2.1, x.1.2.2.2.1, x.1.2.2.2.2), (x.2.1.1, x.2.1.2.1, x.2.1.2.2.1, x.2.1.2.2.2.1, x.2.1.2.2.2.2), (x.2.2.1.1, x.2.2.1.2.1, x.2.2.1.2.2.1, x.2.2.1.2.2.2), (x.2.2.2.1, q8.2.1, q8.2.2, u10))]) H := hP
    have hD : va_D A (List.flatten [w_Model E a o ((x.1.1, x.1.2.1, x.1.2.2.1, x.1.2.2.2.1, x.1.2.2.2.2), (x.2.1.1, x.2.1.2.1, x.2.1.2.2.1, x.2.1.2.2.2.1, x.2.1.2.2.2.2), (x.2.2.1.1, x.2.2.1.2.1, x.2.2.1.2.2.1, x.2.2.1.2.2.2), (x.2.2.2.1, q8.2.1, q8.2.2, u10))]) := hD
    refine lv_goto (tgt := 393) hx hb dX11_parsesCommand_150 (by decide) ?_
    obtain rfl := Option.some.inj hF
    exact en_v hQ (Nat.le_of_ble_eq_true rfl) (Nat.le_of_ble_eq_true rfl) hx hb hr hlocks hP hD hS dX11_parsesCommand_393
  have hF := q_brn w23_0 hF
  by_cases w23_1 : q1 = 99
  · have hF := q_brp w23_1 hF
    refine lv_tableIn (off := 226) (tgt := 249) hx hb dX11_parsesCommand_23 (by rw [w23_1]; decide) (by rw [w23_1]; decide) (by rw [w23_1]; decide) (by decide) ?_
    refine lv_aload_n hx hb dX11_parsesCommand_249 rfl (lv_at hl 1 rfl) ?_
    refine lv_iload_n hx hb dX11_parsesCommand_250 rfl (lv_at hl 2 rfl) ?_
    obtain ⟨q11, hq11, hF⟩ := q_bdi hF
    refine cl_v (Lc := [w_Model E a o ((x.1.1, x.1.2.1, x.1.2.2.1, x.1.2.2.2.1, x.1.2.2.2.2), (x.2.1.1, x.2.1.2.1, x.2.1.2.2.1, x.2.1.2.2.2.1, x.2.1.2.2.2.2), (x.2.2.1.1, x.2.2.1.2.1, x.2.2.1.2.2.1, x.2.2.1.2.2.2), (x.2.2.2.1, x.2.2.2.2.1 + 1, x.2.2.2.2.2.1, u3))]) (Lc' := [w_Model E a o ((x.1.1, x.1.2.1, x.1.2.2.1, x.1.2.2.2.1, x.1.2.2.2.2), (x.2.1.1, x.2.1.2.1, x.2.1.2.2.1, x.2.1.2.2.2.1, x.2.1.2.2.2.2), (x.2.2.1.1, x.2.2.1.2.1, x.2.2.1.2.2.1, x.2.2.1.2.2.2), (x.2.2.2.1, q11.1, q11.2.1, q11.2.2))]) (L' := [w_Model E a o ((x.1.1, x.1.2.1, x.1.2.2.1, x.1.2.2.2.1, x.1.2.2.2.2), (x.2.1.1, x.2.1.2.1, x.2.1.2.2.1, x.2.1.2.2.2.1, x.2.1.2.2.2.2), (x.2.2.1.1, x.2.2.1.2.1, x.2.2.1.2.2.1, x.2.2.1.2.2.2), (x.2.2.2.1, q11.1, q11.2.1, q11.2.2))]) (va_runV (As := [.int p1]) (rest := []) ⟨hx, hb, hml, hown, ha⟩ (k_X11_parsesC l E a o ((x.1.1, x.1.2.1, x.1.2.2.1, x.1.2.2.2.1, x.1.2.2.2.2), (x.2.1.1, x.2.1.2.1, x.2.1.2.2.1, x.2.1.2.2.2.1, x.2.1.2.2.2.2), (x.2.2.1.1, x.2.2.1.2.1, x.2.2.1.2.2.1, x.2.2.1.2.2.2), (x.2.2.2.1, x.2.2.2.2.1 + 1, x.2.2.2.2.2.1, u3)) p1 q11 hq11 H.size) (cwV 1 ha (gi_V (fun _ h => h) mw2070 mw2072 mw68 mw87 mw2073) rfl rfl rfl hv_X11_parsesC ⟨(Nat.le_of_ble_eq_true rfl), (Nat.le_of_ble_eq_true rfl)⟩) ⟨pre_blind, va_recv hst.k (fr_P hP [0] rfl) (ci := 13) (q0 := 0) rfl rfl, pre_at hP hD hS hz hzs hst [0] (by decide) rfl rfl⟩ rfl rfl hl.1 rfl (lv_room (Nat.le_of_ble_eq_true rfl)) dX11_parsesCommand_251 ⟨(Nat.le_of_ble_eq_true rfl), (Nat.le_of_ble_eq_true rfl)⟩) hP hD hS hA [0] (by decide) rfl rfl rfl rfl (fun H locs hP hD hS => ?_)
    refine lv_goto (tgt := 393) hx hb dX11_parsesCommand_254 (by decide) ?_
    obtain rfl := Option.some.inj hF
    exact en_v hQ (Nat.le_of_ble_eq_true rfl) (Nat.le_of_ble_eq_true rfl) hx hb hr hlocks hP hD hS dX11_parsesCommand_393
  have hF := q_brn w23_1 hF
  by_cases w23_2 : q1 = 100
  · have hF := q_brp w23_2 hF
    refine lv_tableIn (off := 355) (tgt := 378) hx hb dX11_parsesCommand_23 (by rw [w23_2]; decide) (by rw [w23_2]; decide) (by rw [w23_2]; decide) (by decide) ?_
    exact jJ378 H locs ls hF hP hD hS (lv_sub hl [1] rfl)
  have hF := q_brn w23_2 hF
  by_cases w23_3 : q1 = 101
  · have hF := q_brp w23_3 hF
    refine lv_tableIn (off := 234) (tgt := 257) hx hb dX11_parsesCommand_23 (by rw [w23_3]; decide) (by rw [w23_3]; decide) (by rw [w23_3]; decide) (by decide) ?_
    refine lv_aload_n hx hb dX11_parsesCommand_257 rfl (lv_at hl 1 rfl) ?_
    refine lv_bipush (v := 110) hx hb dX11_parsesCommand_258 (by decide) ?_
    refine lv_bipush (v := 116) hx hb dX11_parsesCommand_260 (by decide) ?_
    refine lv_bipush (v := 114) hx hb dX11_parsesCommand_262 (by decide) ?_
    obtain ⟨q12, hq12, hF⟩ := q_bdi hF
    refine cl_v (Lc := [w_Model E a o ((x.1.1, x.1.2.1, x.1.2.2.1, x.1.2.2.2.1, x.1.2.2.2.2), (x.2.1.1, x.2.1.2.1, x.2.1.2.2.1, x.2.1.2.2.2.1, x.2.1.2.2.2.2), (x.2.2.1.1, x.2.2.1.2.1, x.2.2.1.2.2.1, x.2.2.1.2.2.2), (x.2.2.2.1, x.2.2.2.2.1 + 1, x.2.2.2.2.2.1, u3))]) (Lc' := [w_Model E a o ((x.1.1, x.1.2.1, x.1.2.2.1, x.1.2.2.2.1, x.1.2.2.2.2), (x.2.1.1, x.2.1.2.1, x.2.1.2.2.1, x.2.1.2.2.2.1, x.2.1.2.2.2.2), (x.2.2.1.1, x.2.2.1.2.1, x.2.2.1.2.2.1, x.2.2.1.2.2.2), (x.2.2.2.1, q12.1, q12.2, u3))]) (L' := [w_Model E a o ((x.1.1, x.1.2.1, x.1.2.2.1, x.1.2.2.2.1, x.1.2.2.2.2), (x.2.1.1, x.2.1.2.1, x.2.1.2.2.1, x.2.1.2.2.2.1, x.2.1.2.2.2.2), (x.2.2.1.1, x.2.2.1.2.1, x.2.2.1.2.2.1, x.2.2.1.2.2.2), (x.2.2.2.1, q12.1, q12.2, u3))]) (va_runV (As := [.int 110, .int 116, .int 114]) (rest := []) ⟨hx, hb, hml, hown, ha⟩ (k_X11_needsThree l E a o ((x.1.1, x.1.2.1, x.1.2.2.1, x.1.2.2.2.1, x.1.2.2.2.2), (x.2.1.1, x.2.1.2.1, x.2.1.2.2.1, x.2.1.2.2.2.1, x.2.1.2.2.2.2), (x.2.2.1.1, x.2.2.1.2.1, x.2.2.1.2.2.1, x.2.2.1.2.2.2), (x.2.2.2.1, x.2.2.2.2.1 + 1, x.2.2.2.2.2.1, u3)) 110 116 114 q12 hq12 H.size) (cwV 3 ha (gi_V (fun _ h => h) mw2042 mw2044 mw61 mw87 mw2045) rfl rfl rfl hv_X11_needsThree ⟨(Nat.le_of_ble_eq_true rfl), (Nat.le_of_ble_eq_true rfl)⟩) ⟨pre_blind, va_recv hst.k (fr_P hP [0] rfl) (ci := 13) (q0 := 0) rfl rfl, pre_at hP hD hS hz hzs hst [0] (by decide) rfl rfl⟩ rfl rfl hl.1 rfl (lv_room (Nat.le_of_ble_eq_true rfl)) dX11_parsesCommand_264 ⟨(Nat.le_of_ble_eq_true rfl), (Nat.le_of_ble_eq_true rfl)⟩) hP hD hS hA [0] (by decide) rfl rfl rfl rfl (fun H locs hP hD hS => ?_)
    refine lv_aload_n hx hb dX11_parsesCommand_267 rfl (lv_at hl 1 rfl) ?_
    refine lv_bipush (v := 121) hx hb dX11_parsesCommand_268 (by decide) ?_
    obtain ⟨q13, hq13, hF⟩ := q_bdi hF
    refine cl_v (Lc := [w_Model E a o ((x.1.1, x.1.2.1, x.1.2.2.1, x.1.2.2.2.1, x.1.2.2.2.2), (x.2.1.1, x.2.1.2.1, x.2.1.2.2.1, x.2.1.2.2.2.1, x.2.1.2.2.2.2), (x.2.2.1.1, x.2.2.1.2.1, x.2.2.1.2.2.1, x.2.2.1.2.2.2), (x.2.2.2.1, q12.1, q12.2, u3))]) (Lc' := [w_Model E a o ((x.1.1, x.1.2.1, x.1.2.2.1, x.1.2.2.2.1, x.1.2.2.2.2), (x.2.1.1, x.2.1.2.1, x.2.1.2.2.1, x.2.1.2.2.2.1, x.2.1.2.2.2.2), (x.2.2.1.1, x.2.2.1.2.1, x.2.2.1.2.2.1, x.2.2.1.2.2.2), (x.2.2.2.1, q13.1, q13.2, u3))]) (L' := [w_Model E a o ((x.1.1, x.1.2.1, x.1.2.2.1, x.1.2.2.2.1, x.1.2.2.2.2), (x.2.1.1, x.2.1.2.1, x.2.1.2.2.1, x.2.1.2.2.2.1, x.2.1.2.2.2.2), (x.2.2.1.1, x.2.2.1.2.1, x.2.2.1.2.2.1, x.2.2.1.2.2.2), (x.2.2.2.1, q13.1, q13.2, u3))]) (va_runV (As := [.int 121]) (rest := []) ⟨hx, hb, hml, hown, ha⟩ (k_X11_needs l E a o ((x.1.1, x.1.2.1, x.1.2.2.1, x.1.2.2.2.1, x.1.2.2.2.2), (x.2.1.1, x.2.1.2.1, x.2.1.2.2.1, x.2.1.2.2.2.1, x.2.1.2.2.2.2), (x.2.2.1.1, x.2.2.1.2.1, x.2.2.1.2.2.1, x.2.2.1.2.2.2), (x.2.2.2.1, q12.1, q12.2, u3)) 121 q13 hq13 H.size) (cwV 1 ha (gi_V (fun _ h => h) mw2046 mw2048 mw62 mw87 mw2049) rfl rfl rfl hv_X11_needs ⟨(Nat.le_of_ble_eq_true rfl), (Nat.le_of_ble_eq_true rfl)⟩) ⟨pre_blind, va_recv hst.k (fr_P hP [0] rfl) (ci := 13) (q0 := 0) rfl rfl, pre_at hP hD hS hz hzs hst [0] (by decide) rfl rfl⟩ rfl rfl hl.1 rfl (lv_room (Nat.le_of_ble_eq_true rfl)) dX11_parsesCommand_270 ⟨(Nat.le_of_ble_eq_true rfl), (Nat.le_of_ble_eq_true rfl)⟩) hP hD hS hA [0] (by decide) rfl rfl rfl rfl (fun H locs hP hD hS => ?_)
    refine lv_aload_n hx hb dX11_parsesCommand_273 rfl (lv_at hl 1 rfl) ?_
    refine va_get (D := E.1) (ci := 13) (v := .ref (a (o + 8))) (C := RX11) (T := TX11) (N := 18) hx hb ha in_X11 hown hst.k hP 0 rfl rfl 17 (by decide) (ha _ mw1653) (fun _ h9 => h9) rfl dX11_parsesCommand_274 ?_
    refine lv_iload_n hx hb dX11_parsesCommand_277 rfl (lv_at hl 2 rfl) ?_
    refine lv_iconst (v := 1) hx hb dX11_parsesCommand_278 (by decide) ?_
    refine lv_iadd hx hb dX11_parsesCommand_279 ?_
    refine lv_aload_n hx hb dX11_parsesCommand_280 rfl (lv_at hl 1 rfl) ?_
    refine lv_iconst (v := 1) hx hb dX11_parsesCommand_281 (by decide) ?_
    refine lv_iconst (v := 1) hx hb dX11_parsesCommand_282 (by decide) ?_
    obtain ⟨q14, hq14, hF⟩ := q_bdi hF
    refine cl_i (Lc := [w_Model E a o ((x.1.1, x.1.2.1, x.1.2.2.1, x.1.2.2.2.1, x.1.2.2.2.2), (x.2.1.1, x.2.1.2.1, x.2.1.2.2.1, x.2.1.2.2.2.1, x.2.1.2.2.2.2), (x.2.2.1.1, x.2.2.1.2.1, x.2.2.1.2.2.1, x.2.2.1.2.2.2), (x.2.2.2.1, q13.1, q13.2, u3))]) (Lc' := [w_Model E a o ((x.1.1, x.1.2.1, x.1.2.2.1, x.1.2.2.2.1, x.1.2.2.2.2), (x.2.1.1, x.2.1.2.1, x.2.1.2.2.1, x.2.1.2.2.2.1, x.2.1.2.2.2.2), (x.2.2.1.1, x.2.2.1.2.1, x.2.2.1.2.2.1, x.2.2.1.2.2.2), (x.2.2.2.1, q14.2.1, q14.2.2, u3))]) (L' := [w_Model E a o ((x.1.1, x.1.2.1, x.1.2.2.1, x.1.2.2.2.1, x.1.2.2.2.2), (x.2.1.1, x.2.1.2.1, x.2.1.2.2.1, x.2.1.2.2.2.1, x.2.1.2.2.2.2), (x.2.2.1.1, x.2.2.1.2.1, x.2.2.1.2.2.1, x.2.2.1.2.2.2), (x.2.2.2.1, q14.2.1, q14.2.2, u3))]) (rv := q14.1) (va_runV (As := [.int 1, .int 1]) (rest := [.int (p1 + 1), .ref (a (o + 8))]) ⟨hx, hb, hml, hown, ha⟩ (k_X11_afterBlank l E a o ((x.1.1, x.1.2.1, x.1.2.2.1, x.1.2.2.2.1, x.1.2.2.2.2), (x.2.1.1, x.2.1.2.1, x.2.1.2.2.1, x.2.1.2.2.2.1, x.2.1.2.2.2.2), (x.2.2.1.1, x.2.2.1.2.1, x.2.2.1.2.2.1, x.2.2.1.2.2.2), (x.2.2.2.1, q13.1, q13.2, u3)) 1 1 q14 hq14 H.size) (cwV 2 ha (gi_V (fun _ h => h) mw2050 mw2052 mw63 mw87 mw2053) rfl rfl rfl hv_X11_afterBlank ⟨(Nat.le_of_ble_eq_true rfl), (Nat.le_of_ble_eq_true rfl)⟩) ⟨pre_blind, va_recv hst.k (fr_P hP [0] rfl) (ci := 13) (q0 := 0) rfl rfl, pre_at hP hD hS hz hzs hst [0] (by decide) rfl rfl⟩ rfl rfl hl.1 rfl (lv_room (Nat.le_of_ble_eq_true rfl)) dX11_parsesCommand_283 ⟨(Nat.le_of_ble_eq_true rfl), (Nat.le_of_ble_eq_true rfl)⟩) hP hD hS hA [0] (by decide) rfl rfl rfl rfl (fun H locs hP hD hS => ?_)
    obtain ⟨g15, hF⟩ := q_gdi hF
    refine vj_iast hx hb hst.k hP hD hS 8 0 rfl rfl (f := u3) (k := (p1 + 1).toNatClampNeg) rfl g15 dX11_parsesCommand_286 (fun u16 eu16 H locs hP hD hS => ?_)
    have hF := q_lti eu16 hF
    have hP : va_P E.1 vwCl (List.flatten [w_Model E a o ((x.1.1, x.1.2.1, x.1.2.2.1, x.1.2.2.2.1, x.1.2.2.2.2), (x.2.1.1, x.2.1.2.1, x.2.1.2.2.1, x.2.1.2.2.2.1, x.2.1.2.2.2.2), (x.2.2.1.1, x.2.2.1.2.1, x.2.2.1.2.2.1, x.2.2.1.2.2.2), (x.2.2.2.1, q14.2.1, q14.2.2, u16))]) H := hP
    have hD : va_D A (List.flatten [w_Model E a o ((x.1.1, x.1.2.1, x.1.2.2.1, x.1.2.2.2.1, x.1.2.2.2.2), (x.2.1.1, x.2.1.2.1, x.2.1.2.2.1, x.2.1.2.2.2.1, x.2.1.2.2.2.2), (x.2.2.1.1, x.2.2.1.2.1, x.2.2.1.2.2.1, x.2.2.1.2.2.2), (x.2.2.2.1, q14.2.1, q14.2.2, u16))]) := hD
    refine lv_aload_n hx hb dX11_parsesCommand_287 rfl (lv_at hl 1 rfl) ?_
    refine va_get (D := E.1) (ci := 13) (v := .ref (a (o + 8))) (C := RX11) (T := TX11) (N := 18) hx hb ha in_X11 hown hst.k hP 0 rfl rfl 17 (by decide) (ha _ mw1653) (fun _ h9 => h9) rfl dX11_parsesCommand_288 ?_
    refine lv_iload_n hx hb dX11_parsesCommand_291 rfl (lv_at hl 2 rfl) ?_
    refine lv_iconst (v := 2) hx hb dX11_parsesCommand_292 (by decide) ?_
    refine lv_iadd hx hb dX11_parsesCommand_293 ?_
    refine lv_aload_n hx hb dX11_parsesCommand_294 rfl (lv_at hl 1 rfl) ?_
    refine lv_iconst (v := 1) hx hb dX11_parsesCommand_295 (by decide) ?_
    refine lv_iconst (v := 2) hx hb dX11_parsesCommand_296 (by decide) ?_
    obtain ⟨q17, hq17, hF⟩ := q_bdi hF
    refine cl_i (Lc := [w_Model E a o ((x.1.1, x.1.2.1, x.1.2.2.1, x.1.2.2.2.1, x.1.2.2.2.2), (x.2.1.1, x.2.1.2.1, x.2.1.2.2.1, x.2.1.2.2.2.1, x.2.1.2.2.2.2), (x.2.2.1.1, x.2.2.1.2.1, x.2.2.1.2.2.1, x.2.2.1.2.2.2), (x.2.2.2.1, q14.2.1, q14.2.2, u16))]) (Lc' := [w_Model E a o ((x.1.1, x.1.2.1, x.1.2.2.1, x.1.2.2.2.1, x.1.2.2.2.2), (x.2.1.1, x.2.1.2.1, x.2.1.2.2.1, x.2.1.2.2.2.1, x.2.1.2.2.2.2), (x.2.2.1.1, x.2.2.1.2.1, x.2.2.1.2.2.1, x.2.2.1.2.2.2), (x.2.2.2.1, q17.2.1, q17.2.2, u16))]) (L' := [w_Model E a o ((x.1.1, x.1.2.1, x.1.2.2.1, x.1.2.2.2.1, x.1.2.2.2.2), (x.2.1.1, x.2.1.2.1, x.2.1.2.2.1, x.2.1.2.2.2.1, x.2.1.2.2.2.2), (x.2.2.1.1, x.2.2.1.2.1, x.2.2.1.2.2.1, x.2.2.1.2.2.2), (x.2.2.2.1, q17.2.1, q17.2.2, u16))]) (rv := q17.1) (va_runV (As := [.int 1, .int 2]) (rest := [.int (p1 + 2), .ref (a (o + 8))]) ⟨hx, hb, hml, hown, ha⟩ (k_X11_afterBlank l E a o ((x.1.1, x.1.2.1, x.1.2.2.1, x.1.2.2.2.1, x.1.2.2.2.2), (x.2.1.1, x.2.1.2.1, x.2.1.2.2.1, x.2.1.2.2.2.1, x.2.1.2.2.2.2), (x.2.2.1.1, x.2.2.1.2.1, x.2.2.1.2.2.1, x.2.2.1.2.2.2), (x.2.2.2.1, q14.2.1, q14.2.2, u16)) 1 2 q17 hq17 H.size) (cwV 2 ha (gi_V (fun _ h => h) mw2050 mw2052 mw63 mw87 mw2053) rfl rfl rfl hv_X11_afterBlank ⟨(Nat.le_of_ble_eq_true rfl), (Nat.le_of_ble_eq_true rfl)⟩) ⟨pre_blind, va_recv hst.k (fr_P hP [0] rfl) (ci := 13) (q0 := 0) rfl rfl, pre_at hP hD hS hz hzs hst [0] (by decide) rfl rfl⟩ rfl rfl hl.1 rfl (lv_room (Nat.le_of_ble_eq_true rfl)) dX11_parsesCommand_297 ⟨(Nat.le_of_ble_eq_true rfl), (Nat.le_of_ble_eq_true rfl)⟩) hP hD hS hA [0] (by decide) rfl rfl rfl rfl (fun H locs hP hD hS => ?_)
    obtain ⟨g18, hF⟩ := q_gdi hF
    refine vj_iast hx hb hst.k hP hD hS 8 0 rfl rfl (f := u16) (k := (p1 + 2).toNatClampNeg) rfl g18 dX11_parsesCommand_300 (fun u19 eu19 H locs hP hD hS => ?_)
    have hF := q_lti eu19 hF
    have hP : va_P E.1 vwCl (List.flatten [w_Model E a o ((x.1.1, x.1.2.1, x.1.2.2.1, x.1.2.2.2.1, x.1.2.2.2.2), (x.2.1.1, x.2.1.2.1, x.2.1.2.2.1, x.2.1.2.2.2.1, x.2.1.2.2.2.2), (x.2.2.1.1, x.2.2.1.2.1, x.2.2.1.2.2.1, x.2.2.1.2.2.2), (x.2.2.2.1, q17.2.1, q17.2.2, u19))]) H := hP
    have hD : va_D A (List.flatten [w_Model E a o ((x.1.1, x.1.2.1, x.1.2.2.1, x.1.2.2.2.1, x.1.2.2.2.2), (x.2.1.1, x.2.1.2.1, x.2.1.2.2.1, x.2.1.2.2.2.1, x.2.1.2.2.2.2), (x.2.2.1.1, x.2.2.1.2.1, x.2.2.1.2.2.1, x.2.2.1.2.2.2), (x.2.2.2.1, q17.2.1, q17.2.2, u19))]) := hD
    refine lv_goto (tgt := 393) hx hb dX11_parsesCommand_301 (by decide) ?_
    obtain rfl := Option.some.inj hF
    exact en_v hQ (Nat.le_of_ble_eq_true rfl) (Nat.le_of_ble_eq_true rfl) hx hb hr hlocks hP hD hS dX11_parsesCommand_393
  have hF := q_brn w23_3 hF
  by_cases w23_4 : q1 = 102
  · have hF := q_brp w23_4 hF
    refine lv_tableIn (off := 281) (tgt := 304) hx hb dX11_parsesCommand_23 (by rw [w23_4]; decide) (by rw [w23_4]; decide) (by rw [w23_4]; decide) (by decide) ?_
    refine lv_aload_n hx hb dX11_parsesCommand_304 rfl (lv_at hl 1 rfl) ?_
    refine lv_bipush (v := 101) hx hb dX11_parsesCommand_305 (by decide) ?_
    refine lv_bipush (v := 108) hx hb dX11_parsesCommand_307 (by decide) ?_
    refine lv_bipush (v := 108) hx hb dX11_parsesCommand_309 (by decide) ?_
    obtain ⟨q20, hq20, hF⟩ := q_bdi hF
    refine cl_v (Lc := [w_Model E a o ((x.1.1, x.1.2.1, x.1.2.2.1, x.1.2.2.2.1, x.1.2.2.2.2), (x.2.1.1, x.2.1.2.1, x.2.1.2.2.1, x.2.1.2.2.2.1, x.2.1.2.2.2.2), (x.2.2.1.1, x.2.2.1.2.1, x.2.2.1.2.2.1, x.2.2.1.2.2.2), (x.2.2.2.1, x.2.2.2.2.1 + 1, x.2.2.2.2.2.1, u3))]) (Lc' := [w_Model E a o ((x.1.1, x.1.2.1, x.1.2.2.1, x.1.2.2.2.1, x.1.2.2.2.2), (x.2.1.1, x.2.1.2.1, x.2.1.2.2.1, x.2.1.2.2.2.1, x.2.1.2.2.2.2), (x.2.2.1.1, x.2.2.1.2.1, x.2.2.1.2.2.1, x.2.2.1.2.2.2), (x.2.2.2.1, q20.1, q20.2, u3))]) (L' := [w_Model E a o ((x.1.1, x.1.2.1, x.1.2.2.1, x.1.2.2.2.1, x.1.2.2.2.2), (x.2.1.1, x.2.1.2.1, x.2.1.2.2.1, x.2.1.2.2.2.1, x.2.1.2.2.2.2), (x.2.2.1.1, x.2.2.1.2.1, x.2.2.1.2.2.1, x.2.2.1.2.2.2), (x.2.2.2.1, q20.1, q20.2, u3))]) (va_runV (As := [.int 101, .int 108, .int 108]) (rest := []) ⟨hx, hb, hml, hown, ha⟩ (k_X11_needsThree l E a o ((x.1.1, x.1.2.1, x.1.2.2.1, x.1.2.2.2.1, x.1.2.2.2.2), (x.2.1.1, x.2.1.2.1, x.2.1.2.2.1, x.2.1.2.2.2.1, x.2.1.2.2.2.2), (x.2.2.1.1, x.2.2.1.2.1, x.2.2.1.2.2.1, x.2.2.1.2.2.2), (x.2.2.2.1, x.2.2.2.2.1 + 1, x.2.2.2.2.2.1, u3)) 101 108 108 q20 hq20 H.size) (cwV 3 ha (gi_V (fun _ h => h) mw2042 mw2044 mw61 mw87 mw2045) rfl rfl rfl hv_X11_needsThree ⟨(Nat.le_of_ble_eq_true rfl), (Nat.le_of_ble_eq_true rfl)⟩) ⟨pre_blind, va_recv hst.k (fr_P hP [0] rfl) (ci := 13) (q0 := 0) rfl rfl, pre_at hP hD hS hz hzs hst [0] (by decide) rfl rfl⟩ rfl rfl hl.1 rfl (lv_room (Nat.le_of_ble_eq_true rfl)) dX11_parsesCommand_311 ⟨(Nat.le_of_ble_eq_true rfl), (Nat.le_of_ble_eq_true rfl)⟩) hP hD hS hA [0] (by decide) rfl rfl rfl rfl (fun H locs hP hD hS => ?_)
    refine lv_aload_n hx hb dX11_parsesCommand_314 rfl (lv_at hl 1 rfl) ?_
    refine va_get (D := E.1) (ci := 13) (v := .ref (a (o + 8))) (C := RX11) (T := TX11) (N := 18) hx hb ha in_X11 hown hst.k hP 0 rfl rfl 17 (by decide) (ha _ mw1653) (fun _ h9 => h9) rfl dX11_parsesCommand_315 ?_
    refine lv_iload_n hx hb dX11_parsesCommand_318 rfl (lv_at hl 2 rfl) ?_
    refine lv_iconst (v := 1) hx hb dX11_parsesCommand_319 (by decide) ?_
    refine lv_iadd hx hb dX11_parsesCommand_320 ?_
    refine lv_aload_n hx hb dX11_parsesCommand_321 rfl (lv_at hl 1 rfl) ?_
    refine lv_iconst (v := 1) hx hb dX11_parsesCommand_322 (by decide) ?_
    refine lv_iconst (v := 1) hx hb dX11_parsesCommand_323 (by decide) ?_
    obtain ⟨q21, hq21, hF⟩ := q_bdi hF
    refine cl_i (Lc := [w_Model E a o ((x.1.1, x.1.2.1, x.1.2.2.1, x.1.2.2.2.1, x.1.2.2.2.2), (x.2.1.1, x.2.1.2.1, x.2.1.2.2.1, x.2.1.2.2.2.1, x.2.1.2.2.2.2), (x.2.2.1.1, x.2.2.1.2.1, x.2.2.1.2.2.1, x.2.2.1.2.2.2), (x.2.2.2.1, q20.1, q20.2, u3))]) (Lc' := [w_Model E a o ((x.1.1, x.1.2.1, x.1.2.2.1, x.1.2.2.2.1, x.1.2.2.2.2), (x.2.1.1, x.2.1.2.1, x.2.1.2.2.1, x.2.1.2.2.2.1, x.2.1.2.2.2.2), (x.2.2.1.1, x.2.2.1.2.1, x.2.2.1.2.2.1, x.2.2.1.2.2.2), (x.2.2.2.1, q21.2.1, q21.2.2, u3))]) (L' := [w_Model E a o ((x.1.1, x.1.2.1, x.1.2.2.1, x.1.2.2.2.1, x.1.2.2.2.2), (x.2.1.1, x.2.1.2.1, x.2.1.2.2.1, x.2.1.2.2.2.1, x.2.1.2.2.2.2), (x.2.2.1.1, x.2.2.1.2.1, x.2.2.1.2.2.1, x.2.2.1.2.2.2), (x.2.2.2.1, q21.2.1, q21.2.2, u3))]) (rv := q21.1) (va_runV (As := [.int 1, .int 1]) (rest := [.int (p1 + 1), .ref (a (o + 8))]) ⟨hx, hb, hml, hown, ha⟩ (k_X11_afterBlank l E a o ((x.1.1, x.1.2.1, x.1.2.2.1, x.1.2.2.2.1, x.1.2.2.2.2), (x.2.1.1, x.2.1.2.1, x.2.1.2.2.1, x.2.1.2.2.2.1, x.2.1.2.2.2.2), (x.2.2.1.1, x.2.2.1.2.1, x.2.2.1.2.2.1, x.2.2.1.2.2.2), (x.2.2.2.1, q20.1, q20.2, u3)) 1 1 q21 hq21 H.size) (cwV 2 ha (gi_V (fun _ h => h) mw2050 mw2052 mw63 mw87 mw2053) rfl rfl rfl hv_X11_afterBlank ⟨(Nat.le_of_ble_eq_true rfl), (Nat.le_of_ble_eq_true rfl)⟩) ⟨pre_blind, va_recv hst.k (fr_P hP [0] rfl) (ci := 13) (q0 := 0) rfl rfl, pre_at hP hD hS hz hzs hst [0] (by decide) rfl rfl⟩ rfl rfl hl.1 rfl (lv_room (Nat.le_of_ble_eq_true rfl)) dX11_parsesCommand_324 ⟨(Nat.le_of_ble_eq_true rfl), (Nat.le_of_ble_eq_true rfl)⟩) hP hD hS hA [0] (by decide) rfl rfl rfl rfl (fun H locs hP hD hS => ?_)
    obtain ⟨g22, hF⟩ := q_gdi hF
    refine vj_iast hx hb hst.k hP hD hS 8 0 rfl rfl (f := u3) (k := (p1 + 1).toNatClampNeg) rfl g22 dX11_parsesCommand_327 (fun u23 eu23 H locs hP hD hS => ?_)
    have hF := q_lti eu23 hF
    have hP : va_P E.1 vwCl (List.flatten [w_Model E a o ((x.1.1, x.1.2.1, x.1.2.2.1, x.1.2.2.2.1, x.1.2.2.2.2), (x.2.1.1, x.2.1.2.1, x.2.1.2.2.1, x.2.1.2.2.2.1, x.2.1.2.2.2.2), (x.2.2.1.1, x.2.2.1.2.1, x.2.2.1.2.2.1, x.2.2.1.2.2.2), (x.2.2.2.1, q21.2.1, q21.2.2, u23))]) H := hP
    have hD : va_D A (List.flatten [w_Model E a o ((x.1.1, x.1.2.1, x.1.2.2.1, x.1.2.2.2.1, x.1.2.2.2.2), (x.2.1.1, x.2.1.2.1, x.2.1.2.2.1, x.2.1.2.2.2.1, x.2.1.2.2.2.2), (x.2.2.1.1, x.2.2.1.2.1, x.2.2.1.2.2.1, x.2.2.1.2.2.2), (x.2.2.2.1, q21.2.1, q21.2.2, u23))]) := hD
    refine lv_goto (tgt := 393) hx hb dX11_parsesCommand_328 (by decide) ?_
    obtain rfl := Option.some.inj hF
    exact en_v hQ (Nat.le_of_ble_eq_true rfl) (Nat.le_of_ble_eq_true rfl) hx hb hr hlocks hP hD hS dX11_parsesCommand_393
  have hF := q_brn w23_4 hF
  by_cases w23_5 : q1 = 103
  · have hF := q_brp w23_5 hF
    refine lv_tableIn (off := 308) (tgt := 331) hx hb dX11_parsesCommand_23 (by rw [w23_5]; decide) (by rw [w23_5]; decide) (by rw [w23_5]; decide) (by decide) ?_
    refine lv_aload_n hx hb dX11_parsesCommand_331 rfl (lv_at hl 1 rfl) ?_
    refine lv_bipush (v := 114) hx hb dX11_parsesCommand_332 (by decide) ?_
    refine lv_bipush (v := 97) hx hb dX11_parsesCommand_334 (by decide) ?_
    refine lv_bipush (v := 122) hx hb dX11_parsesCommand_336 (by decide) ?_
    obtain ⟨q24, hq24, hF⟩ := q_bdi hF
    refine cl_v (Lc := [w_Model E a o ((x.1.1, x.1.2.1, x.1.2.2.1, x.1.2.2.2.1, x.1.2.2.2.2), (x.2.1.1, x.2.1.2.1, x.2.1.2.2.1, x.2.1.2.2.2.1, x.2.1.2.2.2.2), (x.2.2.1.1, x.2.2.1.2.1, x.2.2.1.2.2.1, x.2.2.1.2.2.2), (x.2.2.2.1, x.2.2.2.2.1 + 1, x.2.2.2.2.2.1, u3))]) (Lc' := [w_Model E a o ((x.1.1, x.1.2.1, x.1.2.2.1, x.1.2.2.2.1, x.1.2.2.2.2), (x.2.1.1, x.2.1.2.1, x.2.1.2.2.1, x.2.1.2.2.2.1, x.2.1.2.2.2.2), (x.2.2.1.1, x.2.2.1.2.1, x.2.2.1.2.2.1, x.2.2.1.2.2.2), (x.2.2.2.1, q24.1, q24.2, u3))]) (L' := [w_Model E a o ((x.1.1, x.1.2.1, x.1.2.2.1, x.1.2.2.2.1, x.1.2.2.2.2), (x.2.1.1, x.2.1.2.1, x.2.1.2.2.1, x.2.1.2.2.2.1, x.2.1.2.2.2.2), (x.2.2.1.1, x.2.2.1.2.1, x.2.2.1.2.2.1, x.2.2.1.2.2.2), (x.2.2.2.1, q24.1, q24.2, u3))]) (va_runV (As := [.int 114, .int 97, .int 122]) (rest := []) ⟨hx, hb, hml, hown, ha⟩ (k_X11_needsThree l E a o ((x.1.1, x.1.2.1, x.1.2.2.1, x.1.2.2.2.1, x.1.2.2.2.2), (x.2.1.1, x.2.1.2.1, x.2.1.2.2.1, x.2.1.2.2.2.1, x.2.1.2.2.2.2), (x.2.2.1.1, x.2.2.1.2.1, x.2.2.1.2.2.1, x.2.2.1.2.2.2), (x.2.2.2.1, x.2.2.2.2.1 + 1, x.2.2.2.2.2.1, u3)) 114 97 122 q24 hq24 H.size) (cwV 3 ha (gi_V (fun _ h => h) mw2042 mw2044 mw61 mw87 mw2045) rfl rfl rfl hv_X11_needsThree ⟨(Nat.le_of_ble_eq_true rfl), (Nat.le_of_ble_eq_true rfl)⟩) ⟨pre_blind, va_recv hst.k (fr_P hP [0] rfl) (ci := 13) (q0 := 0) rfl rfl, pre_at hP hD hS hz hzs hst [0] (by decide) rfl rfl⟩ rfl rfl hl.1 rfl (lv_room (Nat.le_of_ble_eq_true rfl)) dX11_parsesCommand_338 ⟨(Nat.le_of_ble_eq_true rfl), (Nat.le_of_ble_eq_true rfl)⟩) hP hD hS hA [0] (by decide) rfl rfl rfl rfl (fun H locs hP hD hS => ?_)
    refine lv_aload_n hx hb dX11_parsesCommand_341 rfl (lv_at hl 1 rfl) ?_
    refine lv_bipush (v := 101) hx hb dX11_parsesCommand_342 (by decide) ?_
    obtain ⟨q25, hq25, hF⟩ := q_bdi hF
    refine cl_v (Lc := [w_Model E a o ((x.1.1, x.1.2.1, x.1.2.2.1, x.1.2.2.2.1, x.1.2.2.2.2), (x.2.1.1, x.2.1.2.1, x.2.1.2.2.1, x.2.1.2.2.2.1, x.2.1.2.2.2.2), (x.2.2.1.1, x.2.2.1.2.1, x.2.2.1.2.2.1, x.2.2.1.2.2.2), (x.2.2.2.1, q24.1, q24.2, u3))]) (Lc' := [w_Model E a o ((x.1.1, x.1.2.1, x.1.2.2.1, x.1.2.2.2.1, x.1.2.2.2.2), (x.2.1.1, x.2.1.2.1, x.2.1.2.2.1, x.2.1.2.2.2.1, x.2.1.2.2.2.2), (x.2.2.1.1, x.2.2.1.2.1, x.2.2.1.2.2.1, x.2.2.1.2.2.2), (x.2.2.2.1, q25.1, q25.2, u3))]) (L' := [w_Model E a o ((x.1.1, x.1.2.1, x.1.2.2.1, x.1.2.2.2.1, x.1.2.2.2.2), (x.2.1.1, x.2.1.2.1, x.2.1.2.2.1, x.2.1.2.2.2.1, x.2.1.2.2.2.2), (x.2.2.1.1, x.2.2.1.2.1, x.2.2.1.2.2.1, x.2.2.1.2.2.2), (x.2.2.2.1, q25.1, q25.2, u3))]) (va_runV (As := [.int 101]) (rest := []) ⟨hx, hb, hml, hown, ha⟩ (k_X11_needs l E a o ((x.1.1, x.1.2.1, x.1.2.2.1, x.1.2.2.2.1, x.1.2.2.2.2), (x.2.1.1, x.2.1.2.1, x.2.1.2.2.1, x.2.1.2.2.2.1, x.2.1.2.2.2.2), (x.2.2.1.1, x.2.2.1.2.1, x.2.2.1.2.2.1, x.2.2.1.2.2.2), (x.2.2.2.1, q24.1, q24.2, u3)) 101 q25 hq25 H.size) (cwV 1 ha (gi_V (fun _ h => h) mw2046 mw2048 mw62 mw87 mw2049) rfl rfl rfl hv_X11_needs ⟨(Nat.le_of_ble_eq_true rfl), (Nat.le_of_ble_eq_true rfl)⟩) ⟨pre_blind, va_recv hst.k (fr_P hP [0] rfl) (ci := 13) (q0 := 0) rfl rfl, pre_at hP hD hS hz hzs hst [0] (by decide) rfl rfl⟩ rfl rfl hl.1 rfl (lv_room (Nat.le_of_ble_eq_true rfl)) dX11_parsesCommand_344 ⟨(Nat.le_of_ble_eq_true rfl), (Nat.le_of_ble_eq_true rfl)⟩) hP hD hS hA [0] (by decide) rfl rfl rfl rfl (fun H locs hP hD hS => ?_)
    refine lv_aload_n hx hb dX11_parsesCommand_347 rfl (lv_at hl 1 rfl) ?_
    refine va_get (D := E.1) (ci := 13) (v := .ref (a (o + 8))) (C := RX11) (T := TX11) (N := 18) hx hb ha in_X11 hown hst.k hP 0 rfl rfl 17 (by decide) (ha _ mw1653) (fun _ h9 => h9) rfl dX11_parsesCommand_348 ?_
    refine lv_iload_n hx hb dX11_parsesCommand_351 rfl (lv_at hl 2 rfl) ?_
    refine lv_iconst (v := 1) hx hb dX11_parsesCommand_352 (by decide) ?_
    refine lv_iadd hx hb dX11_parsesCommand_353 ?_
    refine lv_aload_n hx hb dX11_parsesCommand_354 rfl (lv_at hl 1 rfl) ?_
    refine lv_iconst (v := 1) hx hb dX11_parsesCommand_355 (by decide) ?_
    refine lv_iconst (v := 1) hx hb dX11_parsesCommand_356 (by decide) ?_
    obtain ⟨q26, hq26, hF⟩ := q_bdi hF
    refine cl_i (Lc := [w_Model E a o ((x.1.1, x.1.2.1, x.1.2.2.1, x.1.2.2.2.1, x.1.2.2.2.2), (x.2.1.1, x.2.1.2.1, x.2.1.2.2.1, x.2.1.2.2.2.1, x.2.1.2.2.2.2), (x.2.2.1.1, x.2.2.1.2.1, x.2.2.1.2.2.1, x.2.2.1.2.2.2), (x.2.2.2.1, q25.1, q25.2, u3))]) (Lc' := [w_Model E a o ((x.1.1, x.1.2.1, x.1.2.2.1, x.1.2.2.2.1, x.1.2.2.2.2), (x.2.1.1, x.2.1.2.1, x.2.1.2.2.1, x.2.1.2.2.2.1, x.2.1.2.2.2.2), (x.2.2.1.1, x.2.2.1.2.1, x.2.2.1.2.2.1, x.2.2.1.2.2.2), (x.2.2.2.1, q26.2.1, q26.2.2, u3))]) (L' := [w_Model E a o ((x.1.1, x.1.2.1, x.1.2.2.1, x.1.2.2.2.1, x.1.2.2.2.2), (x.2.1.1, x.2.1.2.1, x.2.1.2.2.1, x.2.1.2.2.2.1, x.2.1.2.2.2.2), (x.2.2.1.1, x.2.2.1.2.1, x.2.2.1.2.2.1, x.2.2.1.2.2.2), (x.2.2.2.1, q26.2.1, q26.2.2, u3))]) (rv := q26.1) (va_runV (As := [.int 1, .int 1]) (rest := [.int (p1 + 1), .ref (a (o + 8))]) ⟨hx, hb, hml, hown, ha⟩ (k_X11_afterBlank l E a o ((x.1.1, x.1.2.1, x.1.2.2.1, x.1.2.2.2.1, x.1.2.2.2.2), (x.2.1.1, x.2.1.2.1, x.2.1.2.2.1, x.2.1.2.2.2.1, x.2.1.2.2.2.2), (x.2.2.1.1, x.2.2.1.2.1, x.2.2.1.2.2.1, x.2.2.1.2.2.2), (x.2.2.2.1, q25.1, q25.2, u3)) 1 1 q26 hq26 H.size) (cwV 2 ha (gi_V (fun _ h => h) mw2050 mw2052 mw63 mw87 mw2053) rfl rfl rfl hv_X11_afterBlank ⟨(Nat.le_of_ble_eq_true rfl), (Nat.le_of_ble_eq_true rfl)⟩) ⟨pre_blind, va_recv hst.k (fr_P hP [0] rfl) (ci := 13) (q0 := 0) rfl rfl, pre_at hP hD hS hz hzs hst [0] (by decide) rfl rfl⟩ rfl rfl hl.1 rfl (lv_room (Nat.le_of_ble_eq_true rfl)) dX11_parsesCommand_357 ⟨(Nat.le_of_ble_eq_true rfl), (Nat.le_of_ble_eq_true rfl)⟩) hP hD hS hA [0] (by decide) rfl rfl rfl rfl (fun H locs hP hD hS => ?_)
    obtain ⟨g27, hF⟩ := q_gdi hF
    refine vj_iast hx hb hst.k hP hD hS 8 0 rfl rfl (f := u3) (k := (p1 + 1).toNatClampNeg) rfl g27 dX11_parsesCommand_360 (fun u28 eu28 H locs hP hD hS => ?_)
    have hF := q_lti eu28 hF
    have hP : va_P E.1 vwCl (List.flatten [w_Model E a o ((x.1.1, x.1.2.1, x.1.2.2.1, x.1.2.2.2.1, x.1.2.2.2.2), (x.2.1.1, x.2.1.2.1, x.2.1.2.2.1, x.2.1.2.2.2.1, x.2.1.2.2.2.2), (x.2.2.1.1, x.2.2.1.2.1, x.2.2.1.2.2.1, x.2.2.1.2.2.2), (x.2.2.2.1, q26.2.1, q26.2.2, u28))]) H := hP
    have hD : va_D A (List.flatten [w_Model E a o ((x.1.1, x.1.2.1, x.1.2.2.1, x.1.2.2.2.1, x.1.2.2.2.2), (x.2.1.1, x.2.1.2.1, x.2.1.2.2.1, x.2.1.2.2.2.1, x.2.1.2.2.2.2), (x.2.2.1.1, x.2.2.1.2.1, x.2.2.1.2.2.1, x.2.2.1.2.2.2), (x.2.2.2.1, q26.2.1, q26.2.2, u28))]) := hD
    refine lv_aload_n hx hb dX11_parsesCommand_361 rfl (lv_at hl 1 rfl) ?_
    refine va_get (D := E.1) (ci := 13) (v := .ref (a (o + 8))) (C := RX11) (T := TX11) (N := 18) hx hb ha in_X11 hown hst.k hP 0 rfl rfl 17 (by decide) (ha _ mw1653) (fun _ h9 => h9) rfl dX11_parsesCommand_362 ?_
    refine lv_iload_n hx hb dX11_parsesCommand_365 rfl (lv_at hl 2 rfl) ?_
    refine lv_iconst (v := 2) hx hb dX11_parsesCommand_366 (by decide) ?_
    refine lv_iadd hx hb dX11_parsesCommand_367 ?_
    refine lv_aload_n hx hb dX11_parsesCommand_368 rfl (lv_at hl 1 rfl) ?_
    refine lv_iconst (v := 1) hx hb dX11_parsesCommand_369 (by decide) ?_
    refine lv_iconst (v := 2) hx hb dX11_parsesCommand_370 (by decide) ?_
    obtain ⟨q29, hq29, hF⟩ := q_bdi hF
    refine cl_i (Lc := [w_Model E a o ((x.1.1, x.1.2.1, x.1.2.2.1, x.1.2.2.2.1, x.1.2.2.2.2), (x.2.1.1, x.2.1.2.1, x.2.1.2.2.1, x.2.1.2.2.2.1, x.2.1.2.2.2.2), (x.2.2.1.1, x.2.2.1.2.1, x.2.2.1.2.2.1, x.2.2.1.2.2.2), (x.2.2.2.1, q26.2.1, q26.2.2, u28))]) (Lc' := [w_Model E a o ((x.1.1, x.1.2.1, x.1.2.2.1, x.1.2.2.2.1, x.1.2.2.2.2), (x.2.1.1, x.2.1.2.1, x.2.1.2.2.1, x.2.1.2.2.2.1, x.2.1.2.2.2.2), (x.2.2.1.1, x.2.2.1.2.1, x.2.2.1.2.2.1, x.2.2.1.2.2.2), (x.2.2.2.1, q29.2.1, q29.2.2, u28))]) (L' := [w_Model E a o ((x.1.1, x.1.2.1, x.1.2.2.1, x.1.2.2.2.1, x.1.2.2.2.2), (x.2.1.1, x.2.1.2.1, x.2.1.2.2.1, x.2.1.2.2.2.1, x.2.1.2.2.2.2), (x.2.2.1.1, x.2.2.1.2.1, x.2.2.1.2.2.1, x.2.2.1.2.2.2), (x.2.2.2.1, q29.2.1, q29.2.2, u28))]) (rv := q29.1) (va_runV (As := [.int 1, .int 2]) (rest := [.int (p1 + 2), .ref (a (o + 8))]) ⟨hx, hb, hml, hown, ha⟩ (k_X11_afterBlank l E a o ((x.1.1, x.1.2.1, x.1.2.2.1, x.1.2.2.2.1, x.1.2.2.2.2), (x.2.1.1, x.2.1.2.1, x.2.1.2.2.1, x.2.1.2.2.2.1, x.2.1.2.2.2.2), (x.2.2.1.1, x.2.2.1.2.1, x.2.2.1.2.2.1, x.2.2.1.2.2.2), (x.2.2.2.1, q26.2.1, q26.2.2, u28)) 1 2 q29 hq29 H.size) (cwV 2 ha (gi_V (fun _ h => h) mw2050 mw2052 mw63 mw87 mw2053) rfl rfl rfl hv_X11_afterBlank ⟨(Nat.le_of_ble_eq_true rfl), (Nat.le_of_ble_eq_true rfl)⟩) ⟨pre_blind, va_recv hst.k (fr_P hP [0] rfl) (ci := 13) (q0 := 0) rfl rfl, pre_at hP hD hS hz hzs hst [0] (by decide) rfl rfl⟩ rfl rfl hl.1 rfl (lv_room (Nat.le_of_ble_eq_true rfl)) dX11_parsesCommand_371 ⟨(Nat.le_of_ble_eq_true rfl), (Nat.le_of_ble_eq_true rfl)⟩) hP hD hS hA [0] (by decide) rfl rfl rfl rfl (fun H locs hP hD hS => ?_)
    obtain ⟨g30, hF⟩ := q_gdi hF
    refine vj_iast hx hb hst.k hP hD hS 8 0 rfl rfl (f := u28) (k := (p1 + 2).toNatClampNeg) rfl g30 dX11_parsesCommand_374 (fun u31 eu31 H locs hP hD hS => ?_)
    have hF := q_lti eu31 hF
    have hP : va_P E.1 vwCl (List.flatten [w_Model E a o ((x.1.1, x.1.2.1, x.1.2.2.1, x.1.2.2.2.1, x.1.2.2.2.2), (x.2.1.1, x.2.1.2.1, x.2.1.2.2.1, x.2.1.2.2.2.1, x.2.1.2.2.2.2), (x.2.2.1.1, x.2.2.1.2.1, x.2.2.1.2.2.1, x.2.2.1.2.2.2), (x.2.2.2.1, q29.2.1, q29.2.2, u31))]) H := hP
    have hD : va_D A (List.flatten [w_Model E a o ((x.1.1, x.1.2.1, x.1.2.2.1, x.1.2.2.2.1, x.1.2.2.2.2), (x.2.1.1, x.2.1.2.1, x.2.1.2.2.1, x.2.1.2.2.2.1, x.2.1.2.2.2.2), (x.2.2.1.1, x.2.2.1.2.1, x.2.2.1.2.2.1, x.2.2.1.2.2.2), (x.2.2.2.1, q29.2.1, q29.2.2, u31))]) := hD
    refine lv_goto (tgt := 393) hx hb dX11_parsesCommand_375 (by decide) ?_
    obtain rfl := Option.some.inj hF
    exact en_v hQ (Nat.le_of_ble_eq_true rfl) (Nat.le_of_ble_eq_true rfl) hx hb hr hlocks hP hD hS dX11_parsesCommand_393
  have hF := q_brn w23_5 hF
  by_cases w23_6 : q1 = 104
  · have hF := q_brp w23_6 hF
    refine lv_tableIn (off := 355) (tgt := 378) hx hb dX11_parsesCommand_23 (by rw [w23_6]; decide) (by rw [w23_6]; decide) (by rw [w23_6]; decide) (by decide) ?_
    exact jJ378 H locs ls hF hP hD hS (lv_sub hl [1] rfl)
  have hF := q_brn w23_6 hF
  by_cases w23_7 : q1 = 105
  · have hF := q_brp w23_7 hF
    refine lv_tableIn (off := 355) (tgt := 378) hx hb dX11_parsesCommand_23 (by rw [w23_7]; decide) (by rw [w23_7]; decide) (by rw [w23_7]; decide) (by decide) ?_
    exact jJ378 H locs ls hF hP hD hS (lv_sub hl [1] rfl)
  have hF := q_brn w23_7 hF
  by_cases w23_8 : q1 = 106
  · have hF := q_brp w23_8 hF
    refine lv_tableIn (off := 355) (tgt := 378) hx hb dX11_parsesCommand_23 (by rw [w23_8]; decide) (by rw [w23_8]; decide) (by rw [w23_8]; decide) (by decide) ?_
    exact jJ378 H locs ls hF hP hD hS (lv_sub hl [1] rfl)
  have hF := q_brn w23_8 hF
  by_cases w23_9 : q1 = 107
  · have hF := q_brp w23_9 hF
    refine lv_tableIn (off := 218) (tgt := 241) hx hb dX11_parsesCommand_23 (by rw [w23_9]; decide) (by rw [w23_9]; decide) (by rw [w23_9]; decide) (by decide) ?_
    refine lv_aload_n hx hb dX11_parsesCommand_241 rfl (lv_at hl 1 rfl) ?_
    refine lv_iload_n hx hb dX11_parsesCommand_242 rfl (lv_at hl 2 rfl) ?_
    obtain ⟨q32, hq32, hF⟩ := q_bdi hF
    refine cl_v (Lc := [w_Model E a o ((x.1.1, x.1.2.1, x.1.2.2.1, x.1.2.2.2.1, x.1.2.2.2.2), (x.2.1.1, x.2.1.2.1, x.2.1.2.2.1, x.2.1.2.2.2.1, x.2.1.2.2.2.2), (x.2.2.1.1, x.2.2.1.2.1, x.2.2.1.2.2.1, x.2.2.1.2.2.2), (x.2.2.2.1, x.2.2.2.2.1 + 1, x.2.2.2.2.2.1, u3))]) (Lc' := [w_Model E a o ((x.1.1, x.1.2.1, x.1.2.2.1, x.1.2.2.2.1, x.1.2.2.2.2), (x.2.1.1, x.2.1.2.1, x.2.1.2.2.1, x.2.1.2.2.2.1, x.2.1.2.2.2.2), (x.2.2.1.1, x.2.2.1.2.1, x.2.2.1.2.2.1, x.2.2.1.2.2.2), (x.2.2.2.1, q32.1, q32.2.1, q32.2.2))]) (L' := [w_Model E a o ((x.1.1, x.1.2.1, x.1.2.2.1, x.1.2.2.2.1, x.1.2.2.2.2), (x.2.1.1, x.2.1.2.1, x.2.1.2.2.1, x.2.1.2.2.2.1, x.2.1.2.2.2.2), (x.2.2.1.1, x.2.2.1.2.1, x.2.2.1.2.2.1, x.2.2.1.2.2.2), (x.2.2.2.1, q32.1, q32.2.1, q32.2.2))]) (va_runV (As := [.int p1]) (rest := []) ⟨hx, hb, hml, hown, ha⟩ (k_X11_parsesKey l E a o ((x.1.1, x.1.2.1, x.1.2.2.1, x.1.2.2.2.1, x.1.2.2.2.2), (x.2.1.1, x.2.1.2.1, x.2.1.2.2.1, x.2.1.2.2.2.1, x.2.1.2.2.2.2), (x.2.2.1.1, x.2.2.1.2.1, x.2.2.1.2.2.1, x.2.2.1.2.2.2), (x.2.2.2.1, x.2.2.2.2.1 + 1, x.2.2.2.2.2.1, u3)) p1 q32 hq32 H.size) (cwV 1 ha (gi_V (fun _ h => h) mw2066 mw2068 mw67 mw87 mw2069) rfl rfl rfl hv_X11_parsesKey ⟨(Nat.le_of_ble_eq_true rfl), (Nat.le_of_ble_eq_true rfl)⟩) ⟨pre_blind, va_recv hst.k (fr_P hP [0] rfl) (ci := 13) (q0 := 0) rfl rfl, pre_at hP hD hS hz hzs hst [0] (by decide) rfl rfl⟩ rfl rfl hl.1 rfl (lv_room (Nat.le_of_ble_eq_true rfl)) dX11_parsesCommand_243 ⟨(Nat.le_of_ble_eq_true rfl), (Nat.le_of_ble_eq_true rfl)⟩) hP hD hS hA [0] (by decide) rfl rfl rfl rfl (fun H locs hP hD hS => ?_)
    refine lv_goto (tgt := 393) hx hb dX11_parsesCommand_246 (by decide) ?_
    obtain rfl := Option.some.inj hF
    exact en_v hQ (Nat.le_of_ble_eq_true rfl) (Nat.le_of_ble_eq_true rfl) hx hb hr hlocks hP hD hS dX11_parsesCommand_393
  have hF := q_brn w23_9 hF
  by_cases w23_10 : q1 = 108
  · have hF := q_brp w23_10 hF
    refine lv_tableIn (off := 355) (tgt := 378) hx hb dX11_parsesCommand_23 (by rw [w23_10]; decide) (by rw [w23_10]; decide) (by rw [w23_10]; decide) (by decide) ?_
    exact jJ378 H locs ls hF hP hD hS (lv_sub hl [1] rfl)
  have hF := q_brn w23_10 hF
  by_cases w23_11 : q1 = 109
  · have hF := q_brp w23_11 hF
    refine lv_tableIn (off := 177) (tgt := 200) hx hb dX11_parsesCommand_23 (by rw [w23_11]; decide) (by rw [w23_11]; decide) (by rw [w23_11]; decide) (by decide) ?_
    refine lv_aload_n hx hb dX11_parsesCommand_200 rfl (lv_at hl 1 rfl) ?_
    refine lv_bipush (v := 111) hx hb dX11_parsesCommand_201 (by decide) ?_
    refine lv_bipush (v := 118) hx hb dX11_parsesCommand_203 (by decide) ?_
    refine lv_bipush (v := 101) hx hb dX11_parsesCommand_205 (by decide) ?_
    obtain ⟨q33, hq33, hF⟩ := q_bdi hF
    refine cl_v (Lc := [w_Model E a o ((x.1.1, x.1.2.1, x.1.2.2.1, x.1.2.2.2.1, x.1.2.2.2.2), (x.2.1.1, x.2.1.2.1, x.2.1.2.2.1, x.2.1.2.2.2.1, x.2.1.2.2.2.2), (x.2.2.1.1, x.2.2.1.2.1, x.2.2.1.2.2.1, x.2.2.1.2.2.2), (x.2.2.2.1, x.2.2.2.2.1 + 1, x.2.2.2.2.2.1, u3))]) (Lc' := [w_Model E a o ((x.1.1, x.1.2.1, x.1.2.2.1, x.1.2.2.2.1, x.1.2.2.2.2), (x.2.1.1, x.2.1.2.1, x.2.1.2.2.1, x.2.1.2.2.2.1, x.2.1.2.2.2.2), (x.2.2.1.1, x.2.2.1.2.1, x.2.2.1.2.2.1, x.2.2.1.2.2.2), (x.2.2.2.1, q33.1, q33.2, u3))]) (L' := [w_Model E a o ((x.1.1, x.1.2.1, x.1.2.2.1, x.1.2.2.2.1, x.1.2.2.2.2), (x.2.1.1, x.2.1.2.1, x.2.1.2.2.1, x.2.1.2.2.2.1, x.2.1.2.2.2.2), (x.2.2.1.1, x.2.2.1.2.1, x.2.2.1.2.2.1, x.2.2.1.2.2.2), (x.2.2.2.1, q33.1, q33.2, u3))]) (va_runV (As := [.int 111, .int 118, .int 101]) (rest := []) ⟨hx, hb, hml, hown, ha⟩ (k_X11_needsThree l E a o ((x.1.1, x.1.2.1, x.1.2.2.1, x.1.2.2.2.1, x.1.2.2.2.2), (x.2.1.1, x.2.1.2.1, x.2.1.2.2.1, x.2.1.2.2.2.1, x.2.1.2.2.2.2), (x.2.2.1.1, x.2.2.1.2.1, x.2.2.1.2.2.1, x.2.2.1.2.2.2), (x.2.2.2.1, x.2.2.2.2.1 + 1, x.2.2.2.2.2.1, u3)) 111 118 101 q33 hq33 H.size) (cwV 3 ha (gi_V (fun _ h => h) mw2042 mw2044 mw61 mw87 mw2045) rfl rfl rfl hv_X11_needsThree ⟨(Nat.le_of_ble_eq_true rfl), (Nat.le_of_ble_eq_true rfl)⟩) ⟨pre_blind, va_recv hst.k (fr_P hP [0] rfl) (ci := 13) (q0 := 0) rfl rfl, pre_at hP hD hS hz hzs hst [0] (by decide) rfl rfl⟩ rfl rfl hl.1 rfl (lv_room (Nat.le_of_ble_eq_true rfl)) dX11_parsesCommand_207 ⟨(Nat.le_of_ble_eq_true rfl), (Nat.le_of_ble_eq_true rfl)⟩) hP hD hS hA [0] (by decide) rfl rfl rfl rfl (fun H locs hP hD hS => ?_)
    refine lv_aload_n hx hb dX11_parsesCommand_210 rfl (lv_at hl 1 rfl) ?_
    refine va_get (D := E.1) (ci := 13) (v := .ref (a (o + 8))) (C := RX11) (T := TX11) (N := 18) hx hb ha in_X11 hown hst.k hP 0 rfl rfl 17 (by decide) (ha _ mw1653) (fun _ h9 => h9) rfl dX11_parsesCommand_211 ?_
    refine lv_iload_n hx hb dX11_parsesCommand_214 rfl (lv_at hl 2 rfl) ?_
    refine lv_iconst (v := 1) hx hb dX11_parsesCommand_215 (by decide) ?_
    refine lv_iadd hx hb dX11_parsesCommand_216 ?_
    refine lv_aload_n hx hb dX11_parsesCommand_217 rfl (lv_at hl 1 rfl) ?_
    refine lv_iconst (v := 1) hx hb dX11_parsesCommand_218 (by decide) ?_
    refine lv_iconst (v := 2) hx hb dX11_parsesCommand_219 (by decide) ?_
    obtain ⟨q34, hq34, hF⟩ := q_bdi hF
    refine cl_i (Lc := [w_Model E a o ((x.1.1, x.1.2.1, x.1.2.2.1, x.1.2.2.2.1, x.1.2.2.2.2), (x.2.1.1, x.2.1.2.1, x.2.1.2.2.1, x.2.1.2.2.2.1, x.2.1.2.2.2.2), (x.2.2.1.1, x.2.2.1.2.1, x.2.2.1.2.2.1, x.2.2.1.2.2.2), (x.2.2.2.1, q33.1, q33.2, u3))]) (Lc' := [w_Model E a o ((x.1.1, x.1.2.1, x.1.2.2.1, x.1.2.2.2.1, x.1.2.2.2.2), (x.2.1.1, x.2.1.2.1, x.2.1.2.2.1, x.2.1.2.2.2.1, x.2.1.2.2.2.2), (x.2.2.1.1, x.2.2.1.2.1, x.2.2.1.2.2.1, x.2.2.1.2.2.2), (x.2.2.2.1, q34.2.1, q34.2.2, u3))]) (L' := [w_Model E a o ((x.1.1, x.1.2.1, x.1.2.2.1, x.1.2.2.2.1, x.1.2.2.2.2), (x.2.1.1, x.2.1.2.1, x.2.1.2.2.1, x.2.1.2.2.2.1, x.2.1.2.2.2.2), (x.2.2.1.1, x.2.2.1.2.1, x.2.2.1.2.2.1, x.2.2.1.2.2.2), (x.2.2.2.1, q34.2.1, q34.2.2, u3))]) (rv := q34.1) (va_runV (As := [.int 1, .int 2]) (rest := [.int (p1 + 1), .ref (a (o + 8))]) ⟨hx, hb, hml, hown, ha⟩ (k_X11_afterBlank l E a o ((x.1.1, x.1.2.1, x.1.2.2.1, x.1.2.2.2.1, x.1.2.2.2.2), (x.2.1.1, x.2.1.2.1, x.2.1.2.2.1, x.2.1.2.2.2.1, x.2.1.2.2.2.2), (x.2.2.1.1, x.2.2.1.2.1, x.2.2.1.2.2.1, x.2.2.1.2.2.2), (x.2.2.2.1, q33.1, q33.2, u3)) 1 2 q34 hq34 H.size) (cwV 2 ha (gi_V (fun _ h => h) mw2050 mw2052 mw63 mw87 mw2053) rfl rfl rfl hv_X11_afterBlank ⟨(Nat.le_of_ble_eq_true rfl), (Nat.le_of_ble_eq_true rfl)⟩) ⟨pre_blind, va_recv hst.k (fr_P hP [0] rfl) (ci := 13) (q0 := 0) rfl rfl, pre_at hP hD hS hz hzs hst [0] (by decide) rfl rfl⟩ rfl rfl hl.1 rfl (lv_room (Nat.le_of_ble_eq_true rfl)) dX11_parsesCommand_220 ⟨(Nat.le_of_ble_eq_true rfl), (Nat.le_of_ble_eq_true rfl)⟩) hP hD hS hA [0] (by decide) rfl rfl rfl rfl (fun H locs hP hD hS => ?_)
    obtain ⟨g35, hF⟩ := q_gdi hF
    refine vj_iast hx hb hst.k hP hD hS 8 0 rfl rfl (f := u3) (k := (p1 + 1).toNatClampNeg) rfl g35 dX11_parsesCommand_223 (fun u36 eu36 H locs hP hD hS => ?_)
    have hF := q_lti eu36 hF
    have hP : va_P E.1 vwCl (List.flatten [w_Model E a o ((x.1.1, x.1.2.1, x.1.2.2.1, x.1.2.2.2.1, x.1.2.2.2.2), (x.2.1.1, x.2.1.2.1, x.2.1.2.2.1, x.2.1.2.2.2.1, x.2.1.2.2.2.2), (x.2.2.1.1, x.2.2.1.2.1, x.2.2.1.2.2.1, x.2.2.1.2.2.2), (x.2.2.2.1, q34.2.1, q34.2.2, u36))]) H := hP
    have hD : va_D A (List.flatten [w_Model E a o ((x.1.1, x.1.2.1, x.1.2.2.1, x.1.2.2.2.1, x.1.2.2.2.2), (x.2.1.1, x.2.1.2.1, x.2.1.2.2.1, x.2.1.2.2.2.1, x.2.1.2.2.2.2), (x.2.2.1.1, x.2.2.1.2.1, x.2.2.1.2.2.1, x.2.2.1.2.2.2), (x.2.2.2.1, q34.2.1, q34.2.2, u36))]) := hD
    refine lv_aload_n hx hb dX11_parsesCommand_224 rfl (lv_at hl 1 rfl) ?_
    refine va_get (D := E.1) (ci := 13) (v := .ref (a (o + 8))) (C := RX11) (T := TX11) (N := 18) hx hb ha in_X11 hown hst.k hP 0 rfl rfl 17 (by decide) (ha _ mw1653) (fun _ h9 => h9) rfl dX11_parsesCommand_225 ?_
    refine lv_iload_n hx hb dX11_parsesCommand_228 rfl (lv_at hl 2 rfl) ?_
    refine lv_iconst (v := 2) hx hb dX11_parsesCommand_229 (by decide) ?_
    refine lv_iadd hx hb dX11_parsesCommand_230 ?_
    refine lv_aload_n hx hb dX11_parsesCommand_231 rfl (lv_at hl 1 rfl) ?_
    refine lv_iconst (v := 1) hx hb dX11_parsesCommand_232 (by decide) ?_
    refine lv_iconst (v := 1) hx hb dX11_parsesCommand_233 (by decide) ?_
    obtain ⟨q37, hq37, hF⟩ := q_bdi hF
    refine cl_i (Lc := [w_Model E a o ((x.1.1, x.1.2.1, x.1.2.2.1, x.1.2.2.2.1, x.1.2.2.2.2), (x.2.1.1, x.2.1.2.1, x.2.1.2.2.1, x.2.1.2.2.2.1, x.2.1.2.2.2.2), (x.2.2.1.1, x.2.2.1.2.1, x.2.2.1.2.2.1, x.2.2.1.2.2.2), (x.2.2.2.1, q34.2.1, q34.2.2, u36))]) (Lc' := [w_Model E a o ((x.1.1, x.1.2.1, x.1.2.2.1, x.1.2.2.2.1, x.1.2.2.2.2), (x.2.1.1, x.2.1.2.1, x.2.1.2.2.1, x.2.1.2.2.2.1, x.2.1.2.2.2.2), (x.2.2.1.1, x.2.2.1.2.1, x.2.2.1.2.2.1, x.2.2.1.2.2.2), (x.2.2.2.1, q37.2.1, q37.2.2, u36))]) (L' := [w_Model E a o ((x.1.1, x.1.2.1, x.1.2.2.1, x.1.2.2.2.1, x.1.2.2.2.2), (x.2.1.1, x.2.1.2.1, x.2.1.2.2.1, x.2.1.2.2.2.1, x.2.1.2.2.2.2), (x.2.2.1.1, x.2.2.1.2.1, x.2.2.1.2.2.1, x.2.2.1.2.2.2), (x.2.2.2.1, q37.2.1, q37.2.2, u36))]) (rv := q37.1) (va_runV (As := [.int 1, .int 1]) (rest := [.int (p1 + 2), .ref (a (o + 8))]) ⟨hx, hb, hml, hown, ha⟩ (k_X11_afterBlank l E a o ((x.1.1, x.1.2.1, x.1.2.2.1, x.1.2.2.2.1, x.1.2.2.2.2), (x.2.1.1, x.2.1.2.1, x.2.1.2.2.1, x.2.1.2.2.2.1, x.2.1.2.2.2.2), (x.2.2.1.1, x.2.2.1.2.1, x.2.2.1.2.2.1, x.2.2.1.2.2.2), (x.2.2.2.1, q34.2.1, q34.2.2, u36)) 1 1 q37 hq37 H.size) (cwV 2 ha (gi_V (fun _ h => h) mw2050 mw2052 mw63 mw87 mw2053) rfl rfl rfl hv_X11_afterBlank ⟨(Nat.le_of_ble_eq_true rfl), (Nat.le_of_ble_eq_true rfl)⟩) ⟨pre_blind, va_recv hst.k (fr_P hP [0] rfl) (ci := 13) (q0 := 0) rfl rfl, pre_at hP hD hS hz hzs hst [0] (by decide) rfl rfl⟩ rfl rfl hl.1 rfl (lv_room (Nat.le_of_ble_eq_true rfl)) dX11_parsesCommand_234 ⟨(Nat.le_of_ble_eq_true rfl), (Nat.le_of_ble_eq_true rfl)⟩) hP hD hS hA [0] (by decide) rfl rfl rfl rfl (fun H locs hP hD hS => ?_)
    obtain ⟨g38, hF⟩ := q_gdi hF
    refine vj_iast hx hb hst.k hP hD hS 8 0 rfl rfl (f := u36) (k := (p1 + 2).toNatClampNeg) rfl g38 dX11_parsesCommand_237 (fun u39 eu39 H locs hP hD hS => ?_)
    have hF := q_lti eu39 hF
    have hP : va_P E.1 vwCl (List.flatten [w_Model E a o ((x.1.1, x.1.2.1, x.1.2.2.1, x.1.2.2.2.1, x.1.2.2.2.2), (x.2.1.1, x.2.1.2.1, x.2.1.2.2.1, x.2.1.2.2.2.1, x.2.1.2.2.2.2), (x.2.2.1.1, x.2.2.1.2.1, x.2.2.1.2.2.1, x.2.2.1.2.2.2), (x.2.2.2.1, q37.2.1, q37.2.2, u39))]) H := hP
    have hD : va_D A (List.flatten [w_Model E a o ((x.1.1, x.1.2.1, x.1.2.2.1, x.1.2.2.2.1, x.1.2.2.2.2), (x.2.1.1, x.2.1.2.1, x.2.1.2.2.1, x.2.1.2.2.2.1, x.2.1.2.2.2.2), (x.2.2.1.1, x.2.2.1.2.1, x.2.2.1.2.2.1, x.2.2.1.2.2.2), (x.2.2.2.1, q37.2.1, q37.2.2, u39))]) := hD
    refine lv_goto (tgt := 393) hx hb dX11_parsesCommand_238 (by decide) ?_
    obtain rfl := Option.some.inj hF
    exact en_v hQ (Nat.le_of_ble_eq_true rfl) (Nat.le_of_ble_eq_true rfl) hx hb hr hlocks hP hD hS dX11_parsesCommand_393
  have hF := q_brn w23_11 hF
  by_cases w23_12 : q1 = 110
  · have hF := q_brp w23_12 hF
    refine lv_tableIn (off := 355) (tgt := 378) hx hb dX11_parsesCommand_23 (by rw [w23_12]; decide) (by rw [w23_12]; decide) (by rw [w23_12]; decide) (by decide) ?_
    exact jJ378 H locs ls hF hP hD hS (lv_sub hl [1] rfl)
  have hF := q_brn w23_12 hF
  by_cases w23_13 : q1 = 111
  · have hF := q_brp w23_13 hF
    refine lv_tableIn (off := 355) (tgt := 378) hx hb dX11_parsesCommand_23 (by rw [w23_13]; decide) (by rw [w23_13]; decide) (by rw [w23_13]; decide) (by decide) ?_
    exact jJ378 H locs ls hF hP hD hS (lv_sub hl [1] rfl)
  have hF := q_brn w23_13 hF
  by_cases w23_14 : q1 = 112
  · have hF := q_brp w23_14 hF
    refine lv_tableIn (off := 355) (tgt := 378) hx hb dX11_parsesCommand_23 (by rw [w23_14]; decide) (by rw [w23_14]; decide) (by rw [w23_14]; decide) (by decide) ?_
    exact jJ378 H locs ls hF hP hD hS (lv_sub hl [1] rfl)
  have hF := q_brn w23_14 hF
  by_cases w23_15 : q1 = 113
  · have hF := q_brp w23_15 hF
    refine lv_tableIn (off := 355) (tgt := 378) hx hb dX11_parsesCommand_23 (by rw [w23_15]; decide) (by rw [w23_15]; decide) (by rw [w23_15]; decide) (by decide) ?_
    exact jJ378 H locs ls hF hP hD hS (lv_sub hl [1] rfl)
  have hF := q_brn w23_15 hF
  by_cases w23_16 : q1 = 114
  · have hF := q_brp w23_16 hF
    refine lv_tableIn (off := 130) (tgt := 153) hx hb dX11_parsesCommand_23 (by rw [w23_16]; decide) (by rw [w23_16]; decide) (by rw [w23_16]; decide) (by decide) ?_
    refine lv_aload_n hx hb dX11_parsesCommand_153 rfl (lv_at hl 1 rfl) ?_
    refine lv_bipush (v := 101) hx hb dX11_parsesCommand_154 (by decide) ?_
    refine lv_bipush (v := 109) hx hb dX11_parsesCommand_156 (by decide) ?_
    refine lv_bipush (v := 111) hx hb dX11_parsesCommand_158 (by decide) ?_
    obtain ⟨q40, hq40, hF⟩ := q_bdi hF
    refine cl_v (Lc := [w_Model E a o ((x.1.1, x.1.2.1, x.1.2.2.1, x.1.2.2.2.1, x.1.2.2.2.2), (x.2.1.1, x.2.1.2.1, x.2.1.2.2.1, x.2.1.2.2.2.1, x.2.1.2.2.2.2), (x.2.2.1.1, x.2.2.1.2.1, x.2.2.1.2.2.1, x.2.2.1.2.2.2), (x.2.2.2.1, x.2.2.2.2.1 + 1, x.2.2.2.2.2.1, u3))]) (Lc' := [w_Model E a o ((x.1.1, x.1.2.1, x.1.2.2.1, x.1.2.2.2.1, x.1.2.2.2.2), (x.2.1.1, x.2.1.2.1, x.2.1.2.2.1, x.2.1.2.2.2.1, x.2.1.2.2.2.2), (x.2.2.1.1, x.2.2.1.2.1, x.2.2.1.2.2.1, x.2.2.1.2.2.2), (x.2.2.2.1, q40.1, q40.2, u3))]) (L' := [w_Model E a o ((x.1.1, x.1.2.1, x.1.2.2.1, x.1.2.2.2.1, x.1.2.2.2.2), (x.2.1.1, x.2.1.2.1, x.2.1.2.2.1, x.2.1.2.2.2.1, x.2.1.2.2.2.2), (x.2.2.1.1, x.2.2.1.2.1, x.2.2.1.2.2.1, x.2.2.1.2.2.2), (x.2.2.2.1, q40.1, q40.2, u3))]) (va_runV (As := [.int 101, .int 109, .int 111]) (rest := []) ⟨hx, hb, hml, hown, ha⟩ (k_X11_needsThree l E a o ((x.1.1, x.1.2.1, x.1.2.2.1, x.1.2.2.2.1, x.1.2.2.2.2), (x.2.1.1, x.2.1.2.1, x.2.1.2.2.1, x.2.1.2.2.2.1, x.2.1.2.2.2.2), (x.2.2.1.1, x.2.2.1.2.1, x.2.2.1.2.2.1, x.2.2.1.2.2.2), (x.2.2.2.1, x.2.2.2.2.1 + 1, x.2.2.2.2.2.1, u3)) 101 109 111 q40 hq40 H.size) (cwV 3 ha (gi_V (fun _ h => h) mw2042 mw2044 mw61 mw87 mw2045) rfl rfl rfl hv_X11_needsThree ⟨(Nat.le_of_ble_eq_true rfl), (Nat.le_of_ble_eq_true rfl)⟩) ⟨pre_blind, va_recv hst.k (fr_P hP [0] rfl) (ci := 13) (q0 := 0) rfl rfl, pre_at hP hD hS hz hzs hst [0] (by decide) rfl rfl⟩ rfl rfl hl.1 rfl (lv_room (Nat.le_of_ble_eq_true rfl)) dX11_parsesCommand_160 ⟨(Nat.le_of_ble_eq_true rfl), (Nat.le_of_ble_eq_true rfl)⟩) hP hD hS hA [0] (by decide) rfl rfl rfl rfl (fun H locs hP hD hS => ?_)
    refine lv_aload_n hx hb dX11_parsesCommand_163 rfl (lv_at hl 1 rfl) ?_
    refine lv_bipush (v := 118) hx hb dX11_parsesCommand_164 (by decide) ?_
    obtain ⟨q41, hq41, hF⟩ := q_bdi hF
    refine cl_v (Lc := [w_Model E a o ((x.1.1, x.1.2.1, x.1.2.2.1, x.1.2.2.2.1, x.1.2.2.2.2), (x.2.1.1, x.2.1.2.1, x.2.1.2.2.1, x.2.1.2.2.2.1, x.2.1.2.2.2.2), (x.2.2.1.1, x.2.2.1.2.1, x.2.2.1.2.2.1, x.2.2.1.2.2.2), (x.2.2.2.1, q40.1, q40.2, u3))]) (Lc' := [w_Model E a o ((x.1.1, x.1.2.1, x.1.2.2.1, x.1.2.2.2.1, x.1.2.2.2.2), (x.2.1.1, x.2.1.2.1, x.2.1.2.2.1, x.2.1.2.2.2.1, x.2.1.2.2.2.2), (x.2.2.1.1, x.2.2.1.2.1, x.2.2.1.2.2.1, x.2.2.1.2.2.2), (x.2.2.2.1, q41.1, q41.2, u3))]) (L' := [w_Model E a o ((x.1.1, x.1.2.1, x.1.2.2.1, x.1.2.2.2.1, x.1.2.2.2.2), (x.2.1.1, x.2.1.2.1, x.2.1.2.2.1, x.2.1.2.2.2.1, x.2.1.2.2.2.2), (x.2.2.1.1, x.2.2.1.2.1, x.2.2.1.2.2.1, x.2.2.1.2.2.2), (x.2.2.2.1, q41.1, q41.2, u3))]) (va_runV (As := [.int 118]) (rest := []) ⟨hx, hb, hml, hown, ha⟩ (k_X11_needs l E a o ((x.1.1, x.1.2.1, x.1.2.2.1, x.1.2.2.2.1, x.1.2.2.2.2), (x.2.1.1, x.2.1.2.1, x.2.1.2.2.1, x.2.1.2.2.2.1, x.2.1.2.2.2.2), (x.2.2.1.1, x.2.2.1.2.1, x.2.2.1.2.2.1, x.2.2.1.2.2.2), (x.2.2.2.1, q40.1, q40.2, u3)) 118 q41 hq41 H.size) (cwV 1 ha (gi_V (fun _ h => h) mw2046 mw2048 mw62 mw87 mw2049) rfl rfl rfl hv_X11_needs ⟨(Nat.le_of_ble_eq_true rfl), (Nat.le_of_ble_eq_true rfl)⟩) ⟨pre_blind, va_recv hst.k (fr_P hP [0] rfl) (ci := 13) (q0 := 0) rfl rfl, pre_at hP hD hS hz hzs hst [0] (by decide) rfl rfl⟩ rfl rfl hl.1 rfl (lv_room (Nat.le_of_ble_eq_true rfl)) dX11_parsesCommand_166 ⟨(Nat.le_of_ble_eq_true rfl), (Nat.le_of_ble_eq_true rfl)⟩) hP hD hS hA [0] (by decide) rfl rfl rfl rfl (fun H locs hP hD hS => ?_)
    refine lv_aload_n hx hb dX11_parsesCommand_169 rfl (lv_at hl 1 rfl) ?_
    refine lv_bipush (v := 101) hx hb dX11_parsesCommand_170 (by decide) ?_
    obtain ⟨q42, hq42, hF⟩ := q_bdi hF
    refine cl_v (Lc := [w_Model E a o ((x.1.1, x.1.2.1, x.1.2.2.1, x.1.2.2.2.1, x.1.2.2.2.2), (x.2.1.1, x.2.1.2.1, x.2.1.2.2.1, x.2.1.2.2.2.1, x.2.1.2.2.2.2), (x.2.2.1.1, x.2.2.1.2.1, x.2.2.1.2.2.1, x.2.2.1.2.2.2), (x.2.2.2.1, q41.1, q41.2, u3))]) (Lc' := [w_Model E a o ((x.1.1, x.1.2.1, x.1.2.2.1, x.1.2.2.2.1, x.1.2.2.2.2), (x.2.1.1, x.2.1.2.1, x.2.1.2.2.1, x.2.1.2.2.2.1, x.2.1.2.2.2.2), (x.2.2.1.1, x.2.2.1.2.1, x.2.2.1.2.2.1, x.2.2.1.2.2.2), (x.2.2.2.1, q42.1, q42.2, u3))]) (L' := [w_Model E a o ((x.1.1, x.1.2.1, x.1.2.2.1, x.1.2.2.2.1, x.1.2.2.2.2), (x.2.1.1, x.2.1.2.1, x.2.1.2.2.1, x.2.1.2.2.2.1, x.2.1.2.2.2.2), (x.2.2.1.1, x.2.2.1.2.1, x.2.2.1.2.2.1, x.2.2.1.2.2.2), (x.2.2.2.1, q42.1, q42.2, u3))]) (va_runV (As := [.int 101]) (rest := []) ⟨hx, hb, hml, hown, ha⟩ (k_X11_needs l E a o ((x.1.1, x.1.2.1, x.1.2.2.1, x.1.2.2.2.1, x.1.2.2.2.2), (x.2.1.1, x.2.1.2.1, x.2.1.2.2.1, x.2.1.2.2.2.1, x.2.1.2.2.2.2), (x.2.2.1.1, x.2.2.1.2.1, x.2.2.1.2.2.1, x.2.2.1.2.2.2), (x.2.2.2.1, q41.1, q41.2, u3)) 101 q42 hq42 H.size) (cwV 1 ha (gi_V (fun _ h => h) mw2046 mw2048 mw62 mw87 mw2049) rfl rfl rfl hv_X11_needs ⟨(Nat.le_of_ble_eq_true rfl), (Nat.le_of_ble_eq_true rfl)⟩) ⟨pre_blind, va_recv hst.k (fr_P hP [0] rfl) (ci := 13) (q0 := 0) rfl rfl, pre_at hP hD hS hz hzs hst [0] (by decide) rfl rfl⟩ rfl rfl hl.1 rfl (lv_room (Nat.le_of_ble_eq_true rfl)) dX11_parsesCommand_172 ⟨(Nat.le_of_ble_eq_true rfl), (Nat.le_of_ble_eq_true rfl)⟩) hP hD hS hA [0] (by decide) rfl rfl rfl rfl (fun H locs hP hD hS => ?_)
    refine lv_aload_n hx hb dX11_parsesCommand_175 rfl (lv_at hl 1 rfl) ?_
    refine va_get (D := E.1) (ci := 13) (v := .ref (a (o + 8))) (C := RX11) (T := TX11) (N := 18) hx hb ha in_X11 hown hst.k hP 0 rfl rfl 17 (by decide) (ha _ mw1653) (fun _ h9 => h9) rfl dX11_parsesCommand_176 ?_
    refine lv_iload_n hx hb dX11_parsesCommand_179 rfl (lv_at hl 2 rfl) ?_
    refine lv_iconst (v := 1) hx hb dX11_parsesCommand_180 (by decide) ?_
    refine lv_iadd hx hb dX11_parsesCommand_181 ?_
    refine lv_aload_n hx hb dX11_parsesCommand_182 rfl (lv_at hl 1 rfl) ?_
    refine lv_iconst (v := 1) hx hb dX11_parsesCommand_183 (by decide) ?_
    refine lv_iconst (v := 2) hx hb dX11_parsesCommand_184 (by decide) ?_
    obtain ⟨q43, hq43, hF⟩ := q_bdi hF
    refine cl_i (Lc := [w_Model E a o ((x.1.1, x.1.2.1, x.1.2.2.1, x.1.2.2.2.1, x.1.2.2.2.2), (x.2.1.1, x.2.1.2.1, x.2.1.2.2.1, x.2.1.2.2.2.1, x.2.1.2.2.2.2), (x.2.2.1.1, x.2.2.1.2.1, x.2.2.1.2.2.1, x.2.2.1.2.2.2), (x.2.2.2.1, q42.1, q42.2, u3))]) (Lc' := [w_Model E a o ((x.1.1, x.1.2.1, x.1.2.2.1, x.1.2.2.2.1, x.1.2.2.2.2), (x.2.1.1, x.2.1.2.1, x.2.1.2.2.1, x.2.1.2.2.2.1, x.2.1.2.2.2.2), (x.2.2.1.1, x.2.2.1.2.1, x.2.2.1.2.2.1, x.2.2.1.2.2.2), (x.2.2.2.1, q43.2.1, q43.2.2, u3))]) (L' := [w_Model E a o ((x.1.1, x.1.2.1, x.1.2.2.1, x.1.2.2.2.1, x.1.2.2.2.2), (x.2.1.1, x.2.1.2.1, x.2.1.2.2.1, x.2.1.2.2.2.1, x.2.1.2.2.2.2), (x.2.2.1.1, x.2.2.1.2.1, x.2.2.1.2.2.1, x.2.2.1.2.2.2), (x.2.2.2.1, q43.2.1, q43.2.2, u3))]) (rv := q43.1) (va_runV (As := [.int 1, .int 2]) (rest := [.int (p1 + 1), .ref (a (o + 8))]) ⟨hx, hb, hml, hown, ha⟩ (k_X11_afterBlank l E a o ((x.1.1, x.1.2.1, x.1.2.2.1, x.1.2.2.2.1, x.1.2.2.2.2), (x.2.1.1, x.2.1.2.1, x.2.1.2.2.1, x.2.1.2.2.2.1, x.2.1.2.2.2.2), (x.2.2.1.1, x.2.2.1.2.1, x.2.2.1.2.2.1, x.2.2.1.2.2.2), (x.2.2.2.1, q42.1, q42.2, u3)) 1 2 q43 hq43 H.size) (cwV 2 ha (gi_V (fun _ h => h) mw2050 mw2052 mw63 mw87 mw2053) rfl rfl rfl hv_X11_afterBlank ⟨(Nat.le_of_ble_eq_true rfl), (Nat.le_of_ble_eq_true rfl)⟩) ⟨pre_blind, va_recv hst.k (fr_P hP [0] rfl) (ci := 13) (q0 := 0) rfl rfl, pre_at hP hD hS hz hzs hst [0] (by decide) rfl rfl⟩ rfl rfl hl.1 rfl (lv_room (Nat.le_of_ble_eq_true rfl)) dX11_parsesCommand_185 ⟨(Nat.le_of_ble_eq_true rfl), (Nat.le_of_ble_eq_true rfl)⟩) hP hD hS hA [0] (by decide) rfl rfl rfl rfl (fun H locs hP hD hS => ?_)
    obtain ⟨g44, hF⟩ := q_gdi hF
    refine vj_iast hx hb hst.k hP hD hS 8 0 rfl rfl (f := u3) (k := (p1 + 1).toNatClampNeg) rfl g44 dX11_parsesCommand_188 (fun u45 eu45 H locs hP hD hS => ?_)
    have hF := q_lti eu45 hF
    have hP : va_P E.1 vwCl (List.flatten [w_Model E a o ((x.1.1, x.1.2.1, x.1.2.2.1, x.1.2.2.2.1, x.1.2.2.2.2), (x.2.1.1, x.2.1.2.1, x.2.1.2.2.1, x.2.1.2.2.2.1, x.2.1.2.2.2.2), (x.2.2.1.1, x.2.2.1.2.1, x.2.2.1.2.2.1, x.2.2.1.2.2.2), (x.2.2.2.1, q43.2.1, q43.2.2, u45))]) H := hP
    have hD : va_D A (List.flatten [w_Model E a o ((x.1.1, x.1.2.1, x.1.2.2.1, x.1.2.2.2.1, x.1.2.2.2.2), (x.2.1.1, x.2.1.2.1, x.2.1.2.2.1, x.2.1.2.2.2.1, x.2.1.2.2.2.2), (x.2.2.1.1, x.2.2.1.2.1, x.2.2.1.2.2.1, x.2.2.1.2.2.2), (x.2.2.2.1, q43.2.1, q43.2.2, u45))]) := hD
    refine lv_goto (tgt := 393) hx hb dX11_parsesCommand_189 (by decide) ?_
    obtain rfl := Option.some.inj hF
    exact en_v hQ (Nat.le_of_ble_eq_true rfl) (Nat.le_of_ble_eq_true rfl) hx hb hr hlocks hP hD hS dX11_parsesCommand_393
  have hF := q_brn w23_16 hF
  by_cases w23_17 : q1 = 115
  · have hF := q_brp w23_17 hF
    refine lv_tableIn (off := 355) (tgt := 378) hx hb dX11_parsesCommand_23 (by rw [w23_17]; decide) (by rw [w23_17]; decide) (by rw [w23_17]; decide) (by decide) ?_
    exact jJ378 H locs ls hF hP hD hS (lv_sub hl [1] rfl)
  have hF := q_brn w23_17 hF
  by_cases w23_18 : q1 = 116
  · have hF := q_brp w23_18 hF
    refine lv_tableIn (off := 169) (tgt := 192) hx hb dX11_parsesCommand_23 (by rw [w23_18]; decide) (by rw [w23_18]; decide) (by rw [w23_18]; decide) (by decide) ?_
    refine lv_aload_n hx hb dX11_parsesCommand_192 rfl (lv_at hl 1 rfl) ?_
    refine lv_iload_n hx hb dX11_parsesCommand_193 rfl (lv_at hl 2 rfl) ?_
    obtain ⟨q46, hq46, hF⟩ := q_bdi hF
    refine cl_v (Lc := [w_Model E a o ((x.1.1, x.1.2.1, x.1.2.2.1, x.1.2.2.2.1, x.1.2.2.2.2), (x.2.1.1, x.2.1.2.1, x.2.1.2.2.1, x.2.1.2.2.2.1, x.2.1.2.2.2.2), (x.2.2.1.1, x.2.2.1.2.1, x.2.2.1.2.2.1, x.2.2.1.2.2.2), (x.2.2.2.1, x.2.2.2.2.1 + 1, x.2.2.2.2.2.1, u3))]) (Lc' := [w_Model E a o ((x.1.1, x.1.2.1, x.1.2.2.1, x.1.2.2.2.1, x.1.2.2.2.2), (x.2.1.1, x.2.1.2.1, x.2.1.2.2.1, x.2.1.2.2.2.1, x.2.1.2.2.2.2), (x.2.2.1.1, x.2.2.1.2.1, x.2.2.1.2.2.1, x.2.2.1.2.2.2), (x.2.2.2.1, q46.1, q46.2.1, q46.2.2))]) (L' := [w_Model E a o ((x.1.1, x.1.2.1, x.1.2.2.1, x.1.2.2.2.1, x.1.2.2.2.2), (x.2.1.1, x.2.1.2.1, x.2.1.2.2.1, x.2.1.2.2.2.1, x.2.1.2.2.2.2), (x.2.2.1.1, x.2.2.1.2.1, x.2.2.1.2.2.1, x.2.2.1.2.2.2), (x.2.2.2.1, q46.1, q46.2.1, q46.2.2))]) (va_runV (As := [.int p1]) (rest := []) ⟨hx, hb, hml, hown, ha⟩ (k_X11_parsesT l E a o ((x.1.1, x.1.2.1, x.1.2.2.1, x.1.2.2.2.1, x.1.2.2.2.2), (x.2.1.1, x.2.1.2.1, x.2.1.2.2.1, x.2.1.2.2.2.1, x.2.1.2.2.2.2), (x.2.2.1.1, x.2.2.1.2.1, x.2.2.1.2.2.1, x.2.2.1.2.2.2), (x.2.2.2.1, x.2.2.2.2.1 + 1, x.2.2.2.2.2.1, u3)) p1 q46 hq46 H.size) (cwV 1 ha (gi_V (fun _ h => h) mw2058 mw2060 mw65 mw87 mw2061) rfl rfl rfl hv_X11_parsesT ⟨(Nat.le_of_ble_eq_true rfl), (Nat.le_of_ble_eq_true rfl)⟩) ⟨pre_blind, va_recv hst.k (fr_P hP [0] rfl) (ci := 13) (q0 := 0) rfl rfl, pre_at hP hD hS hz hzs hst [0] (by decide) rfl rfl⟩ rfl rfl hl.1 rfl (lv_room (Nat.le_of_ble_eq_true rfl)) dX11_parsesCommand_194 ⟨(Nat.le_of_ble_eq_true rfl), (Nat.le_of_ble_eq_true rfl)⟩) hP hD hS hA [0] (by decide) rfl rfl rfl rfl (fun H locs hP hD hS => ?_)
    refine lv_goto (tgt := 393) hx hb dX11_parsesCommand_197 (by decide) ?_
    obtain rfl := Option.some.inj hF
    exact en_v hQ (Nat.le_of_ble_eq_true rfl) (Nat.le_of_ble_eq_true rfl) hx hb hr hlocks hP hD hS dX11_parsesCommand_393
  have hF := q_brn w23_18 hF
  refine lv_tableOut (tgt := 378) hx hb dX11_parsesCommand_23 (sw_out 98 116 [98, 99, 100, 101, 102, 103, 104, 105, 106, 107, 108, 109, 110, 111, 112, 113, 114, 115, 116] (List.forall_mem_cons.mpr ⟨w23_0, (List.forall_mem_cons.mpr ⟨w23_1, (List.forall_mem_cons.mpr ⟨w23_2, (List.forall_mem_cons.mpr ⟨w23_3, (List.forall_mem_cons.mpr ⟨w23_4, (List.forall_mem_cons.mpr ⟨w23_5, (List.forall_mem_cons.mpr ⟨w23_6, (List.forall_mem_cons.mpr ⟨w23_7, (List.forall_mem_cons.mpr ⟨w23_8, (List.forall_mem_cons.mpr ⟨w23_9, (List.forall_mem_cons.mpr ⟨w23_10, (List.forall_mem_cons.mpr ⟨w23_11, (List.forall_mem_cons.mpr ⟨w23_12, (List.forall_mem_cons.mpr ⟨w23_13, (List.forall_mem_cons.mpr ⟨w23_14, (List.forall_mem_cons.mpr ⟨w23_15, (List.forall_mem_cons.mpr ⟨w23_16, (List.forall_mem_cons.mpr ⟨w23_17, (List.forall_mem_cons.mpr ⟨w23_18, (fun _ h => nomatch h)⟩)⟩)⟩)⟩)⟩)⟩)⟩)⟩)⟩)⟩)⟩)⟩)⟩)⟩)⟩)⟩)⟩)⟩)⟩) (by decide) (by decide)) (by decide) ?_
  exact jJ378 H locs ls hF hP hD hS (lv_sub hl [1] rfl)
