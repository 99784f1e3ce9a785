/-! case 0 -/
theorem dL_law_280 : decode cL_law 280 = .ok (.aload_n 1, 1) := by decide +kernel
theorem dL_law_281 : decode cL_law 281 = .ok (.aload_n 0, 1) := by decide +kernel
theorem dL_law_282 : decode cL_law 282 = .ok (.iload 5, 2) := by decide +kernel
theorem dL_law_284 : decode cL_law 284 = .ok (.iconst 1, 1) := by decide +kernel
theorem dL_law_285 : decode cL_law 285 = .ok (.iadd, 1) := by decide +kernel
theorem dL_law_286 : decode cL_law 286 = .ok (.iaload, 1) := by decide +kernel
theorem dL_law_287 : decode cL_law 287 = .ok (.aload_n 0, 1) := by decide +kernel
theorem dL_law_288 : decode cL_law 288 = .ok (.iload 5, 2) := by decide +kernel
theorem dL_law_290 : decode cL_law 290 = .ok (.iconst 2, 1) := by decide +kernel
theorem dL_law_291 : decode cL_law 291 = .ok (.iadd, 1) := by decide +kernel
theorem dL_law_292 : decode cL_law 292 = .ok (.iaload, 1) := by decide +kernel
theorem dL_law_293 : decode cL_law 293 = .ok (.aload_n 3, 1) := by decide +kernel
theorem dL_law_294 : decode cL_law 294 = .ok (.invokestatic 154, 3) := by decide +kernel
theorem dL_law_297 : decode cL_law 297 = .ok (.istore 6, 2) := by decide +kernel
theorem dL_law_299 : decode cL_law 299 = .ok (.aload_n 2, 1) := by decide +kernel
theorem dL_law_300 : decode cL_law 300 = .ok (.aload_n 0, 1) := by decide +kernel
theorem dL_law_301 : decode cL_law 301 = .ok (.iload 5, 2) := by decide +kernel
theorem dL_law_303 : decode cL_law 303 = .ok (.iconst 1, 1) := by decide +kernel
theorem dL_law_304 : decode cL_law 304 = .ok (.iadd, 1) := by decide +kernel
theorem dL_law_305 : decode cL_law 305 = .ok (.iaload, 1) := by decide +kernel
theorem dL_law_306 : decode cL_law 306 = .ok (.aload_n 0, 1) := by decide +kernel
theorem dL_law_307 : decode cL_law 307 = .ok (.iload 5, 2) := by decide +kernel
theorem dL_law_309 : decode cL_law 309 = .ok (.iconst 2, 1) := by decide +kernel
theorem dL_law_310 : decode cL_law 310 = .ok (.iadd, 1) := by decide +kernel
theorem dL_law_311 : decode cL_law 311 = .ok (.iaload, 1) := by decide +kernel
theorem dL_law_312 : decode cL_law 312 = .ok (.invokevirtual 159, 3) := by decide +kernel
theorem dL_law_315 : decode cL_law 315 = .ok (.istore 7, 2) := by decide +kernel
theorem dL_law_317 : decode cL_law 317 = .ok (.aload_n 2, 1) := by decide +kernel
theorem dL_law_318 : decode cL_law 318 = .ok (.invokevirtual 160, 3) := by decide +kernel
theorem dL_law_321 : decode cL_law 321 = .ok (.iload 6, 2) := by decide +kernel
theorem dL_law_323 : decode cL_law 323 = .ok (.if_icmp .eq 5, 3) := by decide +kernel
theorem dL_law_328 : decode cL_law 328 = .ok (.iload 6, 2) := by decide +kernel
theorem dL_law_330 : decode cL_law 330 = .ok (.ifCond .ne 15, 3) := by decide +kernel
theorem dL_law_333 : decode cL_law 333 = .ok (.aload_n 3, 1) := by decide +kernel
theorem dL_law_334 : decode cL_law 334 = .ok (.iconst 0, 1) := by decide +kernel
theorem dL_law_335 : decode cL_law 335 = .ok (.laload, 1) := by decide +kernel
theorem dL_law_336 : decode cL_law 336 = .ok (.iload 7, 2) := by decide +kernel
theorem dL_law_338 : decode cL_law 338 = .ok (.i2l, 1) := by decide +kernel
theorem dL_law_339 : decode cL_law 339 = .ok (.lcmp, 1) := by decide +kernel
theorem dL_law_340 : decode cL_law 340 = .ok (.ifCond .eq 5, 3) := by decide +kernel
theorem dL_law_345 : decode cL_law 345 = .ok (.goto 2536, 3) := by decide +kernel
def f_case0 (x_valley_key_tonic : Int32) (x_valley_key_isMinor : Int32) (x_valley_key_tolerance : Int32) (x_valley_bells_herds : (Nat → Int32)) (x_valley_bells_pitches : (Nat → Int32)) (x_valley_bells_count : Int32) (x_valley_melodies_lengths : (Nat → Int32)) (x_valley_melodies_entries : (Nat → Int32)) (x_valley_melodies_tones : (Nat → Int32)) (x_valley_cliffs_delays : (Nat → Int32)) (x_valley_cliffs_transpositions : (Nat → Int32)) (x_valley_cliffs_count : Int32) (x_history_slots : (Nat → Valley_t)) (x_history_current : Int32) (x_history_count : Int32) (y_g : (Nat → Int32)) (y_before : (Nat → Int32)) (y_history : (Nat → Int32)) (y_changes : Int32) (y_thrown : Int32) (z_v : (Nat → Int64)) (xs : (Nat → Int32)) (n : Nat) (i : Int32) : Option (Int32 × Int32 × Int32 × (Nat → Int32) × (Nat → Int32) × Int32 × (Nat → Int32) × (Nat → Int32) × (Nat → Int32) × (Nat → Int32) × (Nat → Int32) × Int32 × (Nat → Valley_t) × Int32 × Int32 × (Nat → Int32) × (Nat → Int32) × (Nat → Int32) × Int32 × Int32 × (Nat → Int64)) :=
  q_gd (q_in (i + 1) n) (
  q_gd (q_in (i + 2) n) (
  q_bd (f_L_addBell x_valley_key_tonic x_valley_key_isMinor x_valley_key_tolerance x_valley_bells_herds x_valley_bells_pitches x_valley_bells_count x_valley_melodies_lengths x_valley_melodies_entries x_valley_melodies_tones x_valley_cliffs_delays x_valley_cliffs_transpositions x_valley_cliffs_count x_history_slots x_history_current x_history_count z_v (xs (i + 1).toNatClampNeg) (xs (i + 2).toNatClampNeg)) (fun q3 =>
  q_gd (q_in (i + 1) n) (
  q_gd (q_in (i + 2) n) (
  q_bd (f_X11_addBell y_g y_before y_history y_changes y_thrown (xs (i + 1).toNatClampNeg) (xs (i + 2).toNatClampNeg)) (fun q6 =>
  q_bd (f_X11_thrown q6.2.2.2.2.2) (fun q7 =>
  q_br (q7 = q3.1) (
  q_br (q3.1 = 0) (
  q_br ((lg_cmp (q3.2.2.2.2.2.2.2.2.2.2.2.2.2.2.2.2 0) (q6.1.toInt64)) = 0) (
  some (q3.2.1, q3.2.2.1, q3.2.2.2.1, q3.2.2.2.2.1, q3.2.2.2.2.2.1, q3.2.2.2.2.2.2.1, q3.2.2.2.2.2.2.2.1, q3.2.2.2.2.2.2.2.2.1, q3.2.2.2.2.2.2.2.2.2.1, q3.2.2.2.2.2.2.2.2.2.2.1, q3.2.2.2.2.2.2.2.2.2.2.2.1, q3.2.2.2.2.2.2.2.2.2.2.2.2.1, q3.2.2.2.2.2.2.2.2.2.2.2.2.2.1, q3.2.2.2.2.2.2.2.2.2.2.2.2.2.2.1, q3.2.2.2.2.2.2.2.2.2.2.2.2.2.2.2.1, q6.2.1, q6.2.2.1, q6.2.2.2.1, q6.2.2.2.2.1, q6.2.2.2.2.2, q3.2.2.2.2.2.2.2.2.2.2.2.2.2.2.2.2)) (
  none)) (
  some (q3.2.1, q3.2.2.1, q3.2.2.2.1, q3.2.2.2.2.1, q3.2.2.2.2.2.1, q3.2.2.2.2.2.2.1, q3.2.2.2.2.2.2.2.1, q3.2.2.2.2.2.2.2.2.1, q3.2.2.2.2.2.2.2.2.2.1, q3.2.2.2.2.2.2.2.2.2.2.1, q3.2.2.2.2.2.2.2.2.2.2.2.1, q3.2.2.2.2.2.2.2.2.2.2.2.2.1, q3.2.2.2.2.2.2.2.2.2.2.2.2.2.1, q3.2.2.2.2.2.2.2.2.2.2.2.2.2.2.1, q3.2.2.2.2.2.2.2.2.2.2.2.2.2.2.2.1, q6.2.1, q6.2.2.1, q6.2.2.2.1, q6.2.2.2.2.1, q6.2.2.2.2.2, q3.2.2.2.2.2.2.2.2.2.2.2.2.2.2.2.2))) (
  none))))))))
set_option maxHeartbeats 4000000 in
set_option maxRecDepth 100000 in
theorem kc_0 {p : Program} {e : Env} {s : State} {m : MethodId} {args : Array Value} {below : List Frame} {meth : Method} {c : Code} {Q : State → Prop} {A : Nat → Prop} (l : Launch) (hlt : l.stackTraces = false) (E : ET) (a : Nat → Nat) (o : Nat) (x : VB_t) (ay : Nat → Nat) (oy : Nat) (y : Model_t) (az : Nat → Nat) (oz : Nat) (z : Nat → Int64) (aw : Nat → Nat) (ow : Nat) (w : Nat → UInt64) (b n : Nat) (xs : Nat → Int32) (i : Int32) (hx : p.tables.exec = Jvm.exec) (hb : c.code = cL_law) (hml : c.maxLocals = 9) (hown : s.vm.findClass RL = some m.cls) (ha : ∀ w ∈ lw_all, w.before args s = true) (hA : ∀ q, s.heap.size ≤ q → A q) (hz : ∀ q, A q → E.2 0 ≤ q) (hzs : E.2 0 ≤ s.heap.size) (hst : ST E s) (hX : va_X b n xs s s.heap) (hbl : b < s.heap.size) (hbA : ¬ A b) (res : Int32 × Int32 × Int32 × (Nat → Int32) × (Nat → Int32) × Int32 × (Nat → Int32) × (Nat → Int32) × (Nat → Int32) × (Nat → Int32) × (Nat → Int32) × Int32 × (Nat → Valley_t) × Int32 × Int32 × (Nat → Int32) × (Nat → Int32) × (Nat → Int32) × Int32 × Int32 × (Nat → Int64)) (hF : f_case0 x.1.1.1.1 x.1.1.1.2.1 x.1.1.1.2.2 x.1.1.2.1.1 x.1.1.2.1.2.1 x.1.1.2.1.2.2 x.1.1.2.2.1.1 x.1.1.2.2.1.2.1 x.1.1.2.2.1.2.2 x.1.1.2.2.2.1 x.1.1.2.2.2.2.1 x.1.1.2.2.2.2.2 x.1.2.2.1.1 x.1.2.2.1.2.1 x.1.2.2.1.2.2 y.1.1 y.1.2.1 y.1.2.2.1 y.1.2.2.2.1 y.2.2.2.1 z xs n i = some res) {H : Heap} {locs : List Loc} {ls : Array Slot} {cv sv : Nat} (hcv : cv + 60 ≤ 603072) (hsv : sv + 5100 ≤ 7207018) (hP : va_P E.1 vwCl (List.flatten [w_VBR a o x.2.2.2.1 x.2.2.2.2.1 x.2.2.2.2.2, w_ValleyR a (o + 1), w_Key E a (o + 2) x.1.1.1, w_Bells E a (o + 3) x.1.1.2.1, w_Mel E a (o + 6) x.1.1.2.2.1, w_Cliffs E a (o + 10) x.1.1.2.2.2, w_ValleyR a (o + 13), w_Key E a (o + 14) x.1.2.1.1, w_Bells E a (o + 15) x.1.2.1.2.1, w_Mel E a (o + 18) x.1.2.1.2.2.1, w_Cliffs E a (o + 22) x.1.2.1.2.2.2, w_Prog E a (o + 25) x.1.2.2.2.1, w_Chord E a (o + 31) x.1.2.2.2.2, w_Key E a (o + 34) x.2.1, w_Line E a (o + 35) x.2.2.1, w_Hist E a (o + 37) x.1.2.2.1, w_Model E ay oy y, w_LongArr E az oz z, w_DblArr E aw ow w]) H) (hD : va_D A (List.flatten [w_VBR a o x.2.2.2.1 x.2.2.2.2.1 x.2.2.2.2.2, w_ValleyR a (o + 1), w_Key E a (o + 2) x.1.1.1, w_Bells E a (o + 3) x.1.1.2.1, w_Mel E a (o + 6) x.1.1.2.2.1, w_Cliffs E a (o + 10) x.1.1.2.2.2, w_ValleyR a (o + 13), w_Key E a (o + 14) x.1.2.1.1, w_Bells E a (o + 15) x.1.2.1.2.1, w_Mel E a (o + 18) x.1.2.1.2.2.1, w_Cliffs E a (o + 22) x.1.2.1.2.2.2, w_Prog E a (o + 25) x.1.2.2.2.1, w_Chord E a (o + 31) x.1.2.2.2.2, w_Key E a (o + 34) x.2.1, w_Line E a (o + 35) x.2.2.1, w_Hist E a (o + 37) x.1.2.2.1, w_Model E ay oy y, w_LongArr E az oz z, w_DblArr E aw ow w])) (hS : va_S A s.heap H locs) (hl : lv_has ls 9 [(0, .ref b), (1, .ref (a o)), (2, .ref (ay oy)), (3, .ref (az oz)), (4, .ref (aw ow)), (5, .int i)])
    (hK : ∀ (H : Heap) (locs : List Loc) (ls : Array Slot), va_P E.1 vwCl (List.flatten (bl_VB E a o ((((res.1, res.2.1, res.2.2.1), (res.2.2.2.1, res.2.2.2.2.1, res.2.2.2.2.2.1), (res.2.2.2.2.2.2.1, res.2.2.2.2.2.2.2.1, res.2.2.2.2.2.2.2.2.1), (res.2.2.2.2.2.2.2.2.2.1, res.2.2.2.2.2.2.2.2.2.2.1, res.2.2.2.2.2.2.2.2.2.2.2.1)), x.1.2.1, (res.2.2.2.2.2.2.2.2.2.2.2.2.1, res.2.2.2.2.2.2.2.2.2.2.2.2.2.1, res.2.2.2.2.2.2.2.2.2.2.2.2.2.2.1), x.1.2.2.2.1, x.1.2.2.2.2), (x.2.1, x.2.2.1, x.2.2.2.1, x.2.2.2.2.1, x.2.2.2.2.2)) ++ (bl_Model E ay oy ((res.2.2.2.2.2.2.2.2.2.2.2.2.2.2.2.1, res.2.2.2.2.2.2.2.2.2.2.2.2.2.2.2.2.1, res.2.2.2.2.2.2.2.2.2.2.2.2.2.2.2.2.2.1, res.2.2.2.2.2.2.2.2.2.2.2.2.2.2.2.2.2.2.1, y.1.2.2.2.2), (y.2.1.1, y.2.1.2.1, y.2.1.2.2.1, y.2.1.2.2.2.1, y.2.1.2.2.2.2), (y.2.2.1.1, y.2.2.1.2.1, y.2.2.1.2.2.1, y.2.2.1.2.2.2), (res.2.2.2.2.2.2.2.2.2.2.2.2.2.2.2.2.2.2.2.1, y.2.2.2.2.1, y.2.2.2.2.2.1, y.2.2.2.2.2.2)) ++ (bl_LongArr E az oz res.2.2.2.2.2.2.2.2.2.2.2.2.2.2.2.2.2.2.2.2 ++ bl_DblArr E aw ow w)))) H → va_D A (List.flatten (bl_VB E a o ((((res.1, res.2.1, res.2.2.1), (res.2.2.2.1, res.2.2.2.2.1, res.2.2.2.2.2.1), (res.2.2.2.2.2.2.1, res.2.2.2.2.2.2.2.1, res.2.2.2.2.2.2.2.2.1), (res.2.2.2.2.2.2.2.2.2.1, res.2.2.2.2.2.2.2.2.2.2.1, res.2.2.2.2.2.2.2.2.2.2.2.1)), x.1.2.1, (res.2.2.2.2.2.2.2.2.2.2.2.2.1, res.2.2.2.2.2.2.2.2.2.2.2.2.2.1, res.2.2.2.2.2.2.2.2.2.2.2.2.2.2.1), x.1.2.2.2.1, x.1.2.2.2.2), (x.2.1, x.2.2.1, x.2.2.2.1, x.2.2.2.2.1, x.2.2.2.2.2)) ++ (bl_Model E ay oy ((res.2.2.2.2.2.2.2.2.2.2.2.2.2.2.2.1, res.2.2.2.2.2.2.2.2.2.2.2.2.2.2.2.2.1, res.2.2.2.2.2.2.2.2.2.2.2.2.2.2.2.2.2.1, res.2.2.2.2.2.2.2.2.2.2.2.2.2.2.2.2.2.2.1, y.1.2.2.2.2), (y.2.1.1, y.2.1.2.1, y.2.1.2.2.1, y.2.1.2.2.2.1, y.2.1.2.2.2.2), (y.2.2.1.1, y.2.2.1.2.1, y.2.2.1.2.2.1, y.2.2.1.2.2.2), (res.2.2.2.2.2.2.2.2.2.2.2.2.2.2.2.2.2.2.2.1, y.2.2.2.2.1, y.2.2.2.2.2.1, y.2.2.2.2.2.2)) ++ (bl_LongArr E az oz res.2.2.2.2.2.2.2.2.2.2.2.2.2.2.2.2.2.2.2.2 ++ bl_DblArr E aw ow w)))) → va_S A s.heap H locs → lv_has ls 9 [(0, .ref b), (1, .ref (a o)), (2, .ref (ay oy)), (3, .ref (az oz)), (4, .ref (aw ow)), (5, .int i)] → W p l e room_1 s m args below meth c H locs (cv + 60) (sv + 5100) Q (F0 m 2881 ls [])) : W p l e room_1 s m args below meth c H locs cv sv Q (F0 m 280 ls []) := by
  unfold f_case0 at hF
  refine lv_aload_n hx hb dL_law_280 rfl (lv_at hl 1 rfl) ?_
  refine lv_aload_n hx hb dL_law_281 rfl (lv_at hl 0 rfl) ?_
  refine lv_iload hx hb dL_law_282 (lv_at hl 5 rfl) ?_
  refine lv_iconst (v := 1) hx hb dL_law_284 (by decide) ?_
  refine lv_iadd hx hb dL_law_285 ?_
  obtain ⟨g1, hF⟩ := q_gdi hF
  refine va_sld hx hb hX hbl hbA hS g1 dL_law_286 ?_
  refine lv_aload_n hx hb dL_law_287 rfl (lv_at hl 0 rfl) ?_
  refine lv_iload hx hb dL_law_288 (lv_at hl 5 rfl) ?_
  refine lv_iconst (v := 2) hx hb dL_law_290 (by decide) ?_
  refine lv_iadd hx hb dL_law_291 ?_
  obtain ⟨g2, hF⟩ := q_gdi hF
  refine va_sld hx hb hX hbl hbA hS g2 dL_law_292 ?_
  refine lv_aload_n hx hb dL_law_293 rfl (lv_at hl 3 rfl) ?_
  have hP : va_P E.1 vwCl (List.flatten [w_VBR a o x.2.2.2.1 x.2.2.2.2.1 x.2.2.2.2.2, w_ValleyR a (o + 1), w_Key E a (o + 2) x.1.1.1, w_Bells E a (o + 3) x.1.1.2.1, w_Mel E a (o + 6) x.1.1.2.2.1, w_Cliffs E a (o + 10) x.1.1.2.2.2, w_ValleyR a (o + 13), w_Key E a (o + 14) x.1.2.1.1, w_Bells E a (o + 15) x.1.2.1.2.1, w_Mel E a (o + 18) x.1.2.1.2.2.1, w_Cliffs E a (o + 22) x.1.2.1.2.2.2, w_Prog E a (o + 25) x.1.2.2.2.1, w_Chord E a (o + 31) x.1.2.2.2.2, w_Key E a (o + 34) x.2.1, w_Line E a (o + 35) x.2.2.1, w_Hist E a (o + 37) x.1.2.2.1, w_Model E ay oy y, w_LongArr E az oz z, w_DblArr E aw ow w]) H := hP
  have hD : va_D A (List.flatten [w_VBR a o x.2.2.2.1 x.2.2.2.2.1 x.2.2.2.2.2, w_ValleyR a (o + 1), w_Key E a (o + 2) x.1.1.1, w_Bells E a (o + 3) x.1.1.2.1, w_Mel E a (o + 6) x.1.1.2.2.1, w_Cliffs E a (o + 10) x.1.1.2.2.2, w_ValleyR a (o + 13), w_Key E a (o + 14) x.1.2.1.1, w_Bells E a (o + 15) x.1.2.1.2.1, w_Mel E a (o + 18) x.1.2.1.2.2.1, w_Cliffs E a (o + 22) x.1.2.1.2.2.2, w_Prog E a (o + 25) x.1.2.2.2.1, w_Chord E a (o + 31) x.1.2.2.2.2, w_Key E a (o + 34) x.2.1, w_Line E a (o + 35) x.2.2.1, w_Hist E a (o + 37) x.1.2.2.1, w_Model E ay oy y, w_LongArr E az oz z, w_DblArr E aw ow w]) := hD
  obtain ⟨q3, hq3, hF⟩ := q_bdi hF
  refine cl_i (Lc := [w_VBR a o x.2.2.2.1 x.2.2.2.2.1 x.2.2.2.2.2, w_ValleyR a (o + 1), w_Key E a (o + 2) x.1.1.1, w_Bells E a (o + 3) x.1.1.2.1, w_Mel E a (o + 6) x.1.1.2.2.1, w_Cliffs E a (o + 10) x.1.1.2.2.2, w_ValleyR a (o + 13), w_Key E a (o + 14) x.1.2.1.1, w_Bells E a (o + 15) x.1.2.1.2.1, w_Mel E a (o + 18) x.1.2.1.2.2.1, w_Cliffs E a (o + 22) x.1.2.1.2.2.2, w_Prog E a (o + 25) x.1.2.2.2.1, w_Chord E a (o + 31) x.1.2.2.2.2, w_Key E a (o + 34) x.2.1, w_Line E a (o + 35) x.2.2.1, w_Hist E a (o + 37) x.1.2.2.1, w_LongArr E az oz z]) (Lc' := [w_VBR a o x.2.2.2.1 x.2.2.2.2.1 x.2.2.2.2.2, w_ValleyR a (o + 1), w_Key E a (o + 2) (q3.2.1, q3.2.2.1, q3.2.2.2.1), w_Bells E a (o + 3) (q3.2.2.2.2.1, q3.2.2.2.2.2.1, q3.2.2.2.2.2.2.1), w_Mel E a (o + 6) (q3.2.2.2.2.2.2.2.1, q3.2.2.2.2.2.2.2.2.1, q3.2.2.2.2.2.2.2.2.2.1), w_Cliffs E a (o + 10) (q3.2.2.2.2.2.2.2.2.2.2.1, q3.2.2.2.2.2.2.2.2.2.2.2.1, q3.2.2.2.2.2.2.2.2.2.2.2.2.1), w_ValleyR a (o + 13), w_Key E a (o + 14) x.1.2.1.1, w_Bells E a (o + 15) x.1.2.1.2.1, w_Mel E a (o + 18) x.1.2.1.2.2.1, w_Cliffs E a (o + 22) x.1.2.1.2.2.2, w_Prog E a (o + 25) x.1.2.2.2.1, w_Chord E a (o + 31) x.1.2.2.2.2, w_Key E a (o + 34) x.2.1, w_Line E a (o + 35) x.2.2.1, w_Hist E a (o + 37) (q3.2.2.2.2.2.2.2.2.2.2.2.2.2.1, q3.2.2.2.2.2.2.2.2.2.2.2.2.2.2.1, q3.2.2.2.2.2.2.2.2.2.2.2.2.2.2.2.1), w_LongArr E az oz q3.2.2.2.2.2.2.2.2.2.2.2.2.2.2.2.2]) (L' := [w_VBR a o x.2.2.2.1 x.2.2.2.2.1 x.2.2.2.2.2, w_ValleyR a (o + 1), w_Key E a (o + 2) (q3.2.1, q3.2.2.1, q3.2.2.2.1), w_Bells E a (o + 3) (q3.2.2.2.2.1, q3.2.2.2.2.2.1, q3.2.2.2.2.2.2.1), w_Mel E a (o + 6) (q3.2.2.2.2.2.2.2.1, q3.2.2.2.2.2.2.2.2.1, q3.2.2.2.2.2.2.2.2.2.1), w_Cliffs E a (o + 10) (q3.2.2.2.2.2.2.2.2.2.2.1, q3.2.2.2.2.2.2.2.2.2.2.2.1, q3.2.2.2.2.2.2.2.2.2.2.2.2.1), w_ValleyR a (o + 13), w_Key E a (o + 14) x.1.2.1.1, w_Bells E a (o + 15) x.1.2.1.2.1, w_Mel E a (o + 18) x.1.2.1.2.2.1, w_Cliffs E a (o + 22) x.1.2.1.2.2.2, w_Prog E a (o + 25) x.1.2.2.2.1, w_Chord E a (o + 31) x.1.2.2.2.2, w_Key E a (o + 34) x.2.1, w_Line E a (o + 35) x.2.2.1, w_Hist E a (o + 37) (q3.2.2.2.2.2.2.2.2.2.2.2.2.2.1, q3.2.2.2.2.2.2.2.2.2.2.2.2.2.2.1, q3.2.2.2.2.2.2.2.2.2.2.2.2.2.2.2.1), w_Model E ay oy y, w_LongArr E az oz q3.2.2.2.2.2.2.2.2.2.2.2.2.2.2.2.2, w_DblArr E aw ow w]) (rv := q3.1) (vx_runSW (As := [.ref (a o), .int (xs (i + 1).toNatClampNeg), .int (xs (i + 2).toNatClampNeg), .ref (az oz)]) (rest := []) ⟨hx, hb, hml, hown, ha⟩ (k_L_addBell l E a o x az oz z (xs (i + 1).toNatClampNeg) (xs (i + 2).toNatClampNeg) q3 hq3 H.size hlt) (vx_cwSW 4 ha (gi_TH (fun _ h => h) mw957 mw958 mw73 mw959) rfl rfl rfl hv_L_addBell.2 ⟨(Nat.le_of_ble_eq_true rfl), (Nat.le_of_ble_eq_true rfl)⟩) ⟨pre_blind, pre_at hP hD hS hz hzs hst [0, 1, 2, 3, 4, 5, 6, 7, 8, 9, 10, 11, 12, 13, 14, 15, 17] (by decide) rfl rfl⟩ rfl rfl hl.1 rfl (lv_room (Nat.le_of_ble_eq_true rfl)) dL_law_294 ⟨by show cv + 1 ≤ 603072; omega, by show sv + 6 ≤ 7207018; omega⟩) hP hD hS hA [0, 1, 2, 3, 4, 5, 6, 7, 8, 9, 10, 11, 12, 13, 14, 15, 17] (by decide) rfl rfl rfl rfl (fun H locs hP hD hS => ?_)
  refine lv_istore (lv' := [(6, .int q3.1), (0, .ref b), (1, .ref (a o)), (2, .ref (ay oy)), (3, .ref (az oz)), (4, .ref (aw ow)), (5, .int i)]) hx hb dL_law_297 hl (by decide) rfl (fun ls hl => ?_)
  refine lv_aload_n hx hb dL_law_299 rfl (lv_at hl 3 rfl) ?_
  refine lv_aload_n hx hb dL_law_300 rfl (lv_at hl 1 rfl) ?_
  refine lv_iload hx hb dL_law_301 (lv_at hl 6 rfl) ?_
  refine lv_iconst (v := 1) hx hb dL_law_303 (by decide) ?_
  refine lv_iadd hx hb dL_law_304 ?_
  obtain ⟨g4, hF⟩ := q_gdi hF
  refine va_sld hx hb hX hbl hbA hS g4 dL_law_305 ?_
  refine lv_aload_n hx hb dL_law_306 rfl (lv_at hl 1 rfl) ?_
  refine lv_iload hx hb dL_law_307 (lv_at hl 6 rfl) ?_
  refine lv_iconst (v := 2) hx hb dL_law_309 (by decide) ?_
  refine lv_iadd hx hb dL_law_310 ?_
  obtain ⟨g5, hF⟩ := q_gdi hF
  refine va_sld hx hb hX hbl hbA hS g5 dL_law_311 ?_
  obtain ⟨q6, hq6, hF⟩ := q_bdi hF
  refine cl_i (Lc := [w_Model E ay oy y]) (Lc' := [w_Model E ay oy ((q6.2.1, q6.2.2.1, q6.2.2.2.1, q6.2.2.2.2.1, y.1.2.2.2.2), (y.2.1.1, y.2.1.2.1, y.2.1.2.2.1, y.2.1.2.2.2.1, y.2.1.2.2.2.2), (y.2.2.1.1, y.2.2.1.2.1, y.2.2.1.2.2.1, y.2.2.1.2.2.2), (q6.2.2.2.2.2, y.2.2.2.2.1, y.2.2.2.2.2.1, y.2.2.2.2.2.2))]) (L' := [w_VBR a o x.2.2.2.1 x.2.2.2.2.1 x.2.2.2.2.2, w_ValleyR a (o + 1), w_Key E a (o + 2) (q3.2.1, q3.2.2.1, q3.2.2.2.1), w_Bells E a (o + 3) (q3.2.2.2.2.1, q3.2.2.2.2.2.1, q3.2.2.2.2.2.2.1), w_Mel E a (o + 6) (q3.2.2.2.2.2.2.2.1, q3.2.2.2.2.2.2.2.2.1, q3.2.2.2.2.2.2.2.2.2.1), w_Cliffs E a (o + 10) (q3.2.2.2.2.2.2.2.2.2.2.1, q3.2.2.2.2.2.2.2.2.2.2.2.1, q3.2.2.2.2.2.2.2.2.2.2.2.2.1), w_ValleyR a (o + 13), w_Key E a (o + 14) x.1.2.1.1, w_Bells E a (o + 15) x.1.2.1.2.1, w_Mel E a (o + 18) x.1.2.1.2.2.1, w_Cliffs E a (o + 22) x.1.2.1.2.2.2, w_Prog E a (o + 25) x.1.2.2.2.1, w_Chord E a (o + 31) x.1.2.2.2.2, w_Key E a (o + 34) x.2.1, w_Line E a (o + 35) x.2.2.1, w_Hist E a (o + 37) (q3.2.2.2.2.2.2.2.2.2.2.2.2.2.1, q3.2.2.2.2.2.2.2.2.2.2.2.2.2.2.1, q3.2.2.2.2.2.2.2.2.2.2.2.2.2.2.2.1), w_Model E ay oy ((q6.2.1, q6.2.2.1, q6.2.2.2.1, q6.2.2.2.2.1, y.1.2.2.2.2), (y.2.1.1, y.2.1.2.1, y.2.1.2.2.1, y.2.1.2.2.2.1, y.2.1.2.2.2.2), (y.2.2.1.1, y.2.2.1.2.1, y.2.2.1.2.2.1, y.2.2.1.2.2.2), (q6.2.2.2.2.2, y.2.2.2.2.1, y.2.2.2.2.2.1, y.2.2.2.2.2.2)), w_LongArr E az oz q3.2.2.2.2.2.2.2.2.2.2.2.2.2.2.2.2, w_DblArr E aw ow w]) (rv := q6.1) (va_runV (As := [.int (xs (i + 1).toNatClampNeg), .int (xs (i + 2).toNatClampNeg)]) (rest := []) ⟨hx, hb, hml, hown, ha⟩ (k_X11_addBell l E ay oy y (xs (i + 1).toNatClampNeg) (xs (i + 2).toNatClampNeg) q6 hq6 H.size) (cwV 2 ha (gi_V (fun _ h => h) mw1695 mw1696 mw1697 mw87 mw1698) rfl rfl rfl hv_X11_addBell ⟨(Nat.le_of_ble_eq_true rfl), (Nat.le_of_ble_eq_true rfl)⟩) ⟨pre_blind, va_recv hst.k (fr_P hP [16] rfl) (ci := 13) (q0 := 0) rfl rfl, pre_at hP hD hS hz hzs hst [16] (by decide) rfl rfl⟩ rfl rfl hl.1 rfl (lv_room (Nat.le_of_ble_eq_true rfl)) dL_law_312 ⟨by show cv + 1 + 0 ≤ 603072; omega, by show sv + 6 + 0 ≤ 7207018; omega⟩) hP hD hS hA [16] (by decide) rfl rfl rfl rfl (fun H locs hP hD hS => ?_)
  refine lv_istore (lv' := [(7, .int q6.1), (6, .int q3.1), (0, .ref b), (1, .ref (a o)), (2, .ref (ay oy)), (3, .ref (az oz)), (4, .ref (aw ow)), (5, .int i)]) hx hb dL_law_315 hl (by decide) rfl (fun ls hl => ?_)
  refine lv_aload_n hx hb dL_law_317 rfl (lv_at hl 4 rfl) ?_
  obtain ⟨q7, hq7, hF⟩ := q_bdi hF
  refine cl_i (Lc := [w_Model E ay oy ((q6.2.1, q6.2.2.1, q6.2.2.2.1, q6.2.2.2.2.1, y.1.2.2.2.2), (y.2.1.1, y.2.1.2.1, y.2.1.2.2.1, y.2.1.2.2.2.1, y.2.1.2.2.2.2), (y.2.2.1.1, y.2.2.1.2.1, y.2.2.1.2.2.1, y.2.2.1.2.2.2), (q6.2.2.2.2.2, y.2.2.2.2.1, y.2.2.2.2.2.1, y.2.2.2.2.2.2))]) (Lc' := [w_Model E ay oy ((q6.2.1, q6.2.2.1, q6.2.2.2.1, q6.2.2.2.2.1, y.1.2.2.2.2), (y.2.1.1, y.2.1.2.1, y.2.1.2.2.1, y.2.1.2.2.2.1, y.2.1.2.2.2.2), (y.2.2.1.1, y.2.2.1.2.1, y.2.2.1.2.2.1, y.2.2.1.2.2.2), (q6.2.2.2.2.2, y.2.2.2.2.1, y.2.2.2.2.2.1, y.2.2.2.2.2.2))]) (L' := [w_VBR a o x.2.2.2.1 x.2.2.2.2.1 x.2.2.2.2.2, w_ValleyR a (o + 1), w_Key E a (o + 2) (q3.2.1, q3.2.2.1, q3.2.2.2.1), w_Bells E a (o + 3) (q3.2.2.2.2.1, q3.2.2.2.2.2.1, q3.2.2.2.2.2.2.1), w_Mel E a (o + 6) (q3.2.2.2.2.2.2.2.1, q3.2.2.2.2.2.2.2.2.1, q3.2.2.2.2.2.2.2.2.2.1), w_Cliffs E a (o + 10) (q3.2.2.2.2.2.2.2.2.2.2.1, q3.2.2.2.2.2.2.2.2.2.2.2.1, q3.2.2.2.2.2.2.2.2.2.2.2.2.1), w_ValleyR a (o + 13), w_Key E a (o + 14) x.1.2.1.1, w_Bells E a (o + 15) x.1.2.1.2.1, w_Mel E a (o + 18) x.1.2.1.2.2.1, w_Cliffs E a (o + 22) x.1.2.1.2.2.2, w_Prog E a (o + 25) x.1.2.2.2.1, w_Chord E a (o + 31) x.1.2.2.2.2, w_Key E a (o + 34) x.2.1, w_Line E a (o + 35) x.2.2.1, w_Hist E a (o + 37) (q3.2.2.2.2.2.2.2.2.2.2.2.2.2.1, q3.2.2.2.2.2.2.2.2.2.2.2.2.2.2.1, q3.2.2.2.2.2.2.2.2.2.2.2.2.2.2.2.1), w_Model E ay oy ((q6.2.1, q6.2.2.1, q6.2.2.2.1, q6.2.2.2.2.1, y.1.2.2.2.2), (y.2.1.1, y.2.1.2.1, y.2.1.2.2.1, y.2.1.2.2.2.1, y.2.1.2.2.2.2), (y.2.2.1.1, y.2.2.1.2.1, y.2.2.1.2.2.1, y.2.2.1.2.2.2), (q6.2.2.2.2.2, y.2.2.2.2.1, y.2.2.2.2.2.1, y.2.2.2.2.2.2)), w_LongArr E az oz q3.2.2.2.2.2.2.2.2.2.2.2.2.2.2.2.2, w_DblArr E aw ow w]) (rv := q7) (va_runV (As := []) (rest := []) ⟨hx, hb, hml, hown, ha⟩ (k_X11_thrown l E ay oy ((q6.2.1, q6.2.2.1, q6.2.2.2.1, q6.2.2.2.2.1, y.1.2.2.2.2), (y.2.1.1, y.2.1.2.1, y.2.1.2.2.1, y.2.1.2.2.2.1, y.2.1.2.2.2.2), (y.2.2.1.1, y.2.2.1.2.1, y.2.2.1.2.2.1, y.2.2.1.2.2.2), (q6.2.2.2.2.2, y.2.2.2.2.1, y.2.2.2.2.2.1, y.2.2.2.2.2.2)) q7 hq7 H.size) (cwV 0 ha (gi_V (fun _ h => h) mw1691 mw1692 mw1693 mw87 mw1694) rfl rfl rfl hv_X11_thrown ⟨(Nat.le_of_ble_eq_true rfl), (Nat.le_of_ble_eq_true rfl)⟩) ⟨pre_blind, va_recv hst.k (fr_P hP [16] rfl) (ci := 13) (q0 := 0) rfl rfl, pre_at hP hD hS hz hzs hst [16] (by decide) rfl rfl⟩ rfl rfl hl.1 rfl (lv_room (Nat.le_of_ble_eq_true rfl)) dL_law_318 ⟨by show cv + 1 + 0 ≤ 603072; omega, by show sv + 6 + 0 ≤ 7207018; omega⟩) hP hD hS hA [16] (by decide) rfl rfl rfl rfl (fun H locs hP hD hS => ?_)
  refine lv_iload hx hb dL_law_321 (lv_at hl 1 rfl) ?_
  refine lv_icmp_eq (tgt := 328) hx hb dL_law_323 (by decide) (fun c323 => ?_) (fun c323 => ?_)
  · have hF := q_brp c323 hF
    refine lv_iload hx hb dL_law_328 (lv_at hl 1 rfl) ?_
    refine lv_if_ne (tgt := 345) hx hb dL_law_330 (by decide) (fun c330 => ?_) (fun c330 => ?_)
    · have hF := q_brn c330 hF
      refine lv_goto (tgt := 2881) hx hb dL_law_345 (by decide) ?_
      obtain rfl := Option.some.inj hF
      refine W.widen (k := cv + 60) (n := sv + 5100) (by omega) (by omega) ?_
      exact hK H locs ls hP hD hS (lv_sub hl [2, 3, 4, 5, 6, 7] rfl)
    · have hF := q_brp c330 hF
      refine lv_aload_n hx hb dL_law_333 rfl (lv_at hl 5 rfl) ?_
      refine lv_iconst (v := 0) hx hb dL_law_334 (by decide) ?_
      refine vi_lald hx hb hst.k hP 156 3 rfl rfl (f := q3.2.2.2.2.2.2.2.2.2.2.2.2.2.2.2.2) (k := 0) (by decide) (by decide) dL_law_335 ?_
      refine lv_iload hx hb dL_law_336 (lv_at hl 0 rfl) ?_
      refine lv_i2l hx hb dL_law_338 rfl ?_
      refine W.lcmp hx hb dL_law_339 ?_
      refine lv_if_eq (tgt := 345) hx hb dL_law_340 (by decide) (fun c340 => ?_) (fun c340 => ?_)
      · have hF := q_brp c340 hF
        refine lv_goto (tgt := 2881) hx hb dL_law_345 (by decide) ?_
        obtain rfl := Option.some.inj hF
        refine W.widen (k := cv + 60) (n := sv + 5100) (by omega) (by omega) ?_
        exact hK H locs ls hP hD hS (lv_sub hl [2, 3, 4, 5, 6, 7] rfl)
      · have hF := q_brn c340 hF
        exact absurd hF (by simp)
  · have hF := q_brn c323 hF
    exact absurd hF (by simp)
def f_c0 (x : VB_t) (y : Model_t) (z : Nat → Int64) (w : Nat → UInt64) (xs : Nat → Int32) (n : Nat) (i : Int32) : Option (VB_t × Model_t × (Nat → Int64) × (Nat → UInt64)) := q_bd (f_case0 x.1.1.1.1 x.1.1.1.2.1 x.1.1.1.2.2 x.1.1.2.1.1 x.1.1.2.1.2.1 x.1.1.2.1.2.2 x.1.1.2.2.1.1 x.1.1.2.2.1.2.1 x.1.1.2.2.1.2.2 x.1.1.2.2.2.1 x.1.1.2.2.2.2.1 x.1.1.2.2.2.2.2 x.1.2.2.1.1 x.1.2.2.1.2.1 x.1.2.2.1.2.2 y.1.1 y.1.2.1 y.1.2.2.1 y.1.2.2.2.1 y.2.2.2.1 z xs n i) (fun res => some (((((res.1, res.2.1, res.2.2.1), (res.2.2.2.1, res.2.2.2.2.1, res.2.2.2.2.2.1), (res.2.2.2.2.2.2.1, res.2.2.2.2.2.2.2.1, res.2.2.2.2.2.2.2.2.1), (res.2.2.2.2.2.2.2.2.2.1, res.2.2.2.2.2.2.2.2.2.2.1, res.2.2.2.2.2.2.2.2.2.2.2.1)), x.1.2.1, (res.2.2.2.2.2.2.2.2.2.2.2.2.1, res.2.2.2.2.2.2.2.2.2.2.2.2.2.1, res.2.2.2.2.2.2.2.2.2.2.2.2.2.2.1), x.1.2.2.2.1, x.1.2.2.2.2), (x.2.1, x.2.2.1, x.2.2.2.1, x.2.2.2.2.1, x.2.2.2.2.2)), ((res.2.2.2.2.2.2.2.2.2.2.2.2.2.2.2.1, res.2.2.2.2.2.2.2.2.2.2.2.2.2.2.2.2.1, res.2.2.2.2.2.2.2.2.2.2.2.2.2.2.2.2.2.1, res.2.2.2.2.2.2.2.2.2.2.2.2.2.2.2.2.2.2.1, y.1.2.2.2.2), (y.2.1.1, y.2.1.2.1, y.2.1.2.2.1, y.2.1.2.2.2.1, y.2.1.2.2.2.2), (y.2.2.1.1, y.2.2.1.2.1, y.2.2.1.2.2.1, y.2.2.1.2.2.2), (res.2.2.2.2.2.2.2.2.2.2.2.2.2.2.2.2.2.2.2.1, y.2.2.2.2.1, y.2.2.2.2.2.1, y.2.2.2.2.2.2)), res.2.2.2.2.2.2.2.2.2.2.2.2.2.2.2.2.2.2.2.2, w))
/-! case 1 -/
theorem dL_law_348 : decode cL_law 348 = .ok (.aload_n 1, 1) := by decide +kernel
theorem dL_law_349 : decode cL_law 349 = .ok (.aload_n 0, 1) := by decide +kernel
theorem dL_law_350 : decode cL_law 350 = .ok (.iload 5, 2) := by decide +kernel
theorem dL_law_352 : decode cL_law 352 = .ok (.iconst 1, 1) := by decide +kernel
theorem dL_law_353 : decode cL_law 353 = .ok (.iadd, 1) := by decide +kernel
theorem dL_law_354 : decode cL_law 354 = .ok (.iaload, 1) := by decide +kernel
theorem dL_law_355 : decode cL_law 355 = .ok (.aload_n 3, 1) := by decide +kernel
theorem dL_law_356 : decode cL_law 356 = .ok (.invokestatic 163, 3) := by decide +kernel
theorem dL_law_359 : decode cL_law 359 = .ok (.istore 6, 2) := by decide +kernel
theorem dL_law_361 : decode cL_law 361 = .ok (.aload_n 2, 1) := by decide +kernel
theorem dL_law_362 : decode cL_law 362 = .ok (.aload_n 0, 1) := by decide +kernel
theorem dL_law_363 : decode cL_law 363 = .ok (.iload 5, 2) := by decide +kernel
theorem dL_law_365 : decode cL_law 365 = .ok (.iconst 1, 1) := by decide +kernel
theorem dL_law_366 : decode cL_law 366 = .ok (.iadd, 1) := by decide +kernel
theorem dL_law_367 : decode cL_law 367 = .ok (.iaload, 1) := by decide +kernel
theorem dL_law_368 : decode cL_law 368 = .ok (.invokevirtual 166, 3) := by decide +kernel
theorem dL_law_371 : decode cL_law 371 = .ok (.istore 7, 2) := by decide +kernel
theorem dL_law_373 : decode cL_law 373 = .ok (.aload_n 2, 1) := by decide +kernel
theorem dL_law_374 : decode cL_law 374 = .ok (.invokevirtual 160, 3) := by decide +kernel
theorem dL_law_377 : decode cL_law 377 = .ok (.iload 6, 2) := by decide +kernel
theorem dL_law_379 : decode cL_law 379 = .ok (.if_icmp .eq 5, 3) := by decide +kernel
theorem dL_law_384 : decode cL_law 384 = .ok (.iload 6, 2) := by decide +kernel
theorem dL_law_386 : decode cL_law 386 = .ok (.ifCond .ne 15, 3) := by decide +kernel
theorem dL_law_389 : decode cL_law 389 = .ok (.aload_n 3, 1) := by decide +kernel
theorem dL_law_390 : decode cL_law 390 = .ok (.iconst 0, 1) := by decide +kernel
theorem dL_law_391 : decode cL_law 391 = .ok (.laload, 1) := by decide +kernel
theorem dL_law_392 : decode cL_law 392 = .ok (.iload 7, 2) := by decide +kernel
theorem dL_law_394 : decode cL_law 394 = .ok (.i2l, 1) := by decide +kernel
theorem dL_law_395 : decode cL_law 395 = .ok (.lcmp, 1) := by decide +kernel
theorem dL_law_396 : decode cL_law 396 = .ok (.ifCond .eq 5, 3) := by decide +kernel
theorem dL_law_401 : decode cL_law 401 = .ok (.goto 2480, 3) := by decide +kernel
def f_case1 (x_valley_key_tonic : Int32) (x_valley_key_isMinor : Int32) (x_valley_key_tolerance : Int32) (x_valley_bells_herds : (Nat → Int32)) (x_valley_bells_pitches : (Nat → Int32)) (x_valley_bells_count : Int32) (x_valley_melodies_lengths : (Nat → Int32)) (x_valley_melodies_entries : (Nat → Int32)) (x_valley_melodies_tones : (Nat → Int32)) (x_valley_cliffs_delays : (Nat → Int32)) (x_valley_cliffs_transpositions : (Nat → Int32)) (x_valley_cliffs_count : Int32) (x_history_slots : (Nat → Valley_t)) (x_history_current : Int32) (x_history_count : Int32) (y_g : (Nat → Int32)) (y_before : (Nat → Int32)) (y_history : (Nat → Int32)) (y_changes : Int32) (y_thrown : Int32) (z_v : (Nat → Int64)) (xs : (Nat → Int32)) (n : Nat) (i : Int32) : Option (Int32 × Int32 × Int32 × (Nat → Int32) × (Nat → Int32) × Int32 × (Nat → Int32) × (Nat → Int32) × (Nat → Int32) × (Nat → Int32) × (Nat → Int32) × Int32 × (Nat → Valley_t) × Int32 × Int32 × (Nat → Int32) × (Nat → Int32) × (Nat → Int32) × Int32 × Int32 × (Nat → Int64)) :=
  q_gd (q_in (i + 1) n) (
  q_bd (f_L_removeBell x_valley_key_tonic x_valley_key_isMinor x_valley_key_tolerance x_valley_bells_herds x_valley_bells_pitches x_valley_bells_count x_valley_melodies_lengths x_valley_melodies_entries x_valley_melodies_tones x_valley_cliffs_delays x_valley_cliffs_transpositions x_valley_cliffs_count x_history_slots x_history_current x_history_count z_v (xs (i + 1).toNatClampNeg)) (fun q2 =>
  q_gd (q_in (i + 1) n) (
  q_bd (f_X11_removeBell y_g y_before y_history y_changes y_thrown (xs (i + 1).toNatClampNeg)) (fun q4 =>
  q_bd (f_X11_thrown q4.2.2.2.2.2) (fun q5 =>
  q_br (q5 = q2.1) (
  q_br (q2.1 = 0) (
  q_br ((lg_cmp (q2.2.2.2.2.2.2.2.2.2.2.2.2.2.2.2.2 0) (q4.1.toInt64)) = 0) (
  some (q2.2.1, q2.2.2.1, q2.2.2.2.1, q2.2.2.2.2.1, q2.2.2.2.2.2.1, q2.2.2.2.2.2.2.1, q2.2.2.2.2.2.2.2.1, q2.2.2.2.2.2.2.2.2.1, q2.2.2.2.2.2.2.2.2.2.1, q2.2.2.2.2.2.2.2.2.2.2.1, q2.2.2.2.2.2.2.2.2.2.2.2.1, q2.2.2.2.2.2.2.2.2.2.2.2.2.1, q2.2.2.2.2.2.2.2.2.2.2.2.2.2.1, q2.2.2.2.2.2.2.2.2.2.2.2.2.2.2.1, q2.2.2.2.2.2.2.2.2.2.2.2.2.2.2.2.1, q4.2.1, q4.2.2.1, q4.2.2.2.1, q4.2.2.2.2.1, q4.2.2.2.2.2, q2.2.2.2.2.2.2.2.2.2.2.2.2.2.2.2.2)) (
  none)) (
  some (q2.2.1, q2.2.2.1, q2.2.2.2.1, q2.2.2.2.2.1, q2.2.2.2.2.2.1, q2.2.2.2.2.2.2.1, q2.2.2.2.2.2.2.2.1, q2.2.2.2.2.2.2.2.2.1, q2.2.2.2.2.2.2.2.2.2.1, q2.2.2.2.2.2.2.2.2.2.2.1, q2.2.2.2.2.2.2.2.2.2.2.2.1, q2.2.2.2.2.2.2.2.2.2.2.2.2.1, q2.2.2.2.2.2.2.2.2.2.2.2.2.2.1, q2.2.2.2.2.2.2.2.2.2.2.2.2.2.2.1, q2.2.2.2.2.2.2.2.2.2.2.2.2.2.2.2.1, q4.2.1, q4.2.2.1, q4.2.2.2.1, q4.2.2.2.2.1, q4.2.2.2.2.2, q2.2.2.2.2.2.2.2.2.2.2.2.2.2.2.2.2))) (
  none))))))
set_option maxHeartbeats 4000000 in
set_option maxRecDepth 100000 in
theorem kc_1 {p : Program} {e : Env} {s : State} {m : MethodId} {args : Array Value} {below : List Frame} {meth : Method} {c : Code} {Q : State → Prop} {A : Nat → Prop} (l : Launch) (hlt : l.stackTraces = false) (E : ET) (a : Nat → Nat) (o : Nat) (x : VB_t) (ay : Nat → Nat) (oy : Nat) (y : Model_t) (az : Nat → Nat) (oz : Nat) (z : Nat → Int64) (aw : Nat → Nat) (ow : Nat) (w : Nat → UInt64) (b n : Nat) (xs : Nat → Int32) (i : Int32) (hx : p.tables.exec = Jvm.exec) (hb : c.code = cL_law) (hml : c.maxLocals = 9) (hown : s.vm.findClass RL = some m.cls) (ha : ∀ w ∈ lw_all, w.before args s = true) (hA : ∀ q, s.heap.size ≤ q → A q) (hz : ∀ q, A q → E.2 0 ≤ q) (hzs : E.2 0 ≤ s.heap.size) (hst : ST E s) (hX : va_X b n xs s s.heap) (hbl : b < s.heap.size) (hbA : ¬ A b) (res : Int32 × Int32 × Int32 × (Nat → Int32) × (Nat → Int32) × Int32 × (Nat → Int32) × (Nat → Int32) × (Nat → Int32) × (Nat → Int32) × (Nat → Int32) × Int32 × (Nat → Valley_t) × Int32 × Int32 × (Nat → Int32) × (Nat → Int32) × (Nat → Int32) × Int32 × Int32 × (Nat → Int64)) (hF : f_case1 x.1.1.1.1 x.1.1.1.2.1 x.1.1.1.2.2 x.1.1.2.1.1 x.1.1.2.1.2.1 x.1.1.2.1.2.2 x.1.1.2.2.1.1 x.1.1.2.2.1.2.1 x.1.1.2.2.1.2.2 x.1.1.2.2.2.1 x.1.1.2.2.2.2.1 x.1.1.2.2.2.2.2 x.1.2.2.1.1 x.1.2.2.1.2.1 x.1.2.2.1.2.2 y.1.1 y.1.2.1 y.1.2.2.1 y.1.2.2.2.1 y.2.2.2.1 z xs n i = some res) {H : Heap} {locs : List Loc} {ls : Array Slot} {cv sv : Nat} (hcv : cv + 60 ≤ 603072) (hsv : sv + 5100 ≤ 7207018) (hP : va_P E.1 vwCl (List.flatten [w_VBR a o x.2.2.2.1 x.2.2.2.2.1 x.2.2.2.2.2, w_ValleyR a (o + 1), w_Key E a (o + 2) x.1.1.1, w_Bells E a (o + 3) x.1.1.2.1, w_Mel E a (o + 6) x.1.1.2.2.1, w_Cliffs E a (o + 10) x.1.1.2.2.2, w_ValleyR a (o + 13), w_Key E a (o + 14) x.1.2.1.1, w_Bells E a (o + 15) x.1.2.1.2.1, w_Mel E a (o + 18) x.1.2.1.2.2.1, w_Cliffs E a (o + 22) x.1.2.1.2.2.2, w_Prog E a (o + 25) x.1.2.2.2.1, w_Chord E a (o + 31) x.1.2.2.2.2, w_Key E a (o + 34) x.2.1, w_Line E a (o + 35) x.2.2.1, w_Hist E a (o + 37) x.1.2.2.1, w_Model E ay oy y, w_LongArr E az oz z, w_DblArr E aw ow w]) H) (hD : va_D A (List.flatten [w_VBR a o x.2.2.2.1 x.2.2.2.2.1 x.2.2.2.2.2, w_ValleyR a (o + 1), w_Key E a (o + 2) x.1.1.1, w_Bells E a (o + 3) x.1.1.2.1, w_Mel E a (o + 6) x.1.1.2.2.1, w_Cliffs E a (o + 10) x.1.1.2.2.2, w_ValleyR a (o + 13), w_Key E a (o + 14) x.1.2.1.1, w_Bells E a (o + 15) x.1.2.1.2.1, w_Mel E a (o + 18) x.1.2.1.2.2.1, w_Cliffs E a (o + 22) x.1.2.1.2.2.2, w_Prog E a (o + 25) x.1.2.2.2.1, w_Chord E a (o + 31) x.1.2.2.2.2, w_Key E a (o + 34) x.2.1, w_Line E a (o + 35) x.2.2.1, w_Hist E a (o + 37) x.1.2.2.1, w_Model E ay oy y, w_LongArr E az oz z, w_DblArr E aw ow w])) (hS : va_S A s.heap H locs) (hl : lv_has ls 9 [(0, .ref b), (1, .ref (a o)), (2, .ref (ay oy)), (3, .ref (az oz)), (4, .ref (aw ow)), (5, .int i)])
    (hK : ∀ (H : Heap) (locs : List Loc) (ls : Array Slot), va_P E.1 vwCl (List.flatten (bl_VB E a o ((((res.1, res.2.1, res.2.2.1), (res.2.2.2.1, res.2.2.2.2.1, res.2.2.2.2.2.1), (res.2.2.2.2.2.2.1, res.2.2.2.2.2.2.2.1, res.2.2.2.2.2.2.2.2.1), (res.2.2.2.2.2.2.2.2.2.1, res.2.2.2.2.2.2.2.2.2.2.1, res.2.2.2.2.2.2.2.2.2.2.2.1)), x.1.2.1, (res.2.2.2.2.2.2.2.2.2.2.2.2.1, res.2.2.2.2.2.2.2.2.2.2.2.2.2.1, res.2.2.2.2.2.2.2.2.2.2.2.2.2.2.1), x.1.2.2.2.1, x.1.2.2.2.2), (x.2.1, x.2.2.1, x.2.2.2.1, x.2.2.2.2.1, x.2.2.2.2.2)) ++ (bl_Model E ay oy ((res.2.2.2.2.2.2.2.2.2.2.2.2.2.2.2.1, res.2.2.2.2.2.2.2.2.2.2.2.2.2.2.2.2.1, res.2.2.2.2.2.2.2.2.2.2.2.2.2.2.2.2.2.1, res.2.2.2.2.2.2.2.2.2.2.2.2.2.2.2.2.2.2.1, y.1.2.2.2.2), (y.2.1.1, y.2.1.2.1, y.2.1.2.2.1, y.2.1.2.2.2.1, y.2.1.2.2.2.2), (y.2.2.1.1, y.2.2.1.2.1, y.2.2.1.2.2.1, y.2.2.1.2.2.2), (res.2.2.2.2.2.2.2.2.2.2.2.2.2.2.2.2.2.2.2.1, y.2.2.2.2.1, y.2.2.2.2.2.1, y.2.2.2.2.2.2)) ++ (bl_LongArr E az oz res.2.2.2.2.2.2.2.2.2.2.2.2.2.2.2.2.2.2.2.2 ++ bl_DblArr E aw ow w)))) H → va_D A (List.flatten (bl_VB E a o ((((res.1, res.2.1, res.2.2.1), (res.2.2.2.1, res.2.2.2.2.1, res.2.2.2.2.2.1), (res.2.2.2.2.2.2.1, res.2.2.2.2.2.2.2.1, res.2.2.2.2.2.2.2.2.1), (res.2.2.2.2.2.2.2.2.2.1, res.2.2.2.2.2.2.2.2.2.2.1, res.2.2.2.2.2.2.2.2.2.2.2.1)), x.1.2.1, (res.2.2.2.2.2.2.2.2.2.2.2.2.1, res.2.2.2.2.2.2.2.2.2.2.2.2.2.1, res.2.2.2.2.2.2.2.2.2.2.2.2.2.2.1), x.1.2.2.2.1, x.1.2.2.2.2), (x.2.1, x.2.2.1, x.2.2.2.1, x.2.2.2.2.1, x.2.2.2.2.2)) ++ (bl_Model E ay oy ((res.2.2.2.2.2.2.2.2.2.2.2.2.2.2.2.1, res.2.2.2.2.2.2.2.2.2.2.2.2.2.2.2.2.1, res.2.2.2.2.2.2.2.2.2.2.2.2.2.2.2.2.2.1, res.2.2.2.2.2.2.2.2.2.2.2.2.2.2.2.2.2.2.1, y.1.2.2.2.2), (y.2.1.1, y.2.1.2.1, y.2.1.2.2.1, y.2.1.2.2.2.1, y.2.1.2.2.2.2), (y.2.2.1.1, y.2.2.1.2.1, y.2.2.1.2.2.1, y.2.2.1.2.2.2), (res.2.2.2.2.2.2.2.2.2.2.2.2.2.2.2.2.2.2.2.1, y.2.2.2.2.1, y.2.2.2.2.2.1, y.2.2.2.2.2.2)) ++ (bl_LongArr E az oz res.2.2.2.2.2.2.2.2.2.2.2.2.2.2.2.2.2.2.2.2 ++ bl_DblArr E aw ow w)))) → va_S A s.heap H locs → lv_has ls 9 [(0, .ref b), (1, .ref (a o)), (2, .ref (ay oy)), (3, .ref (az oz)), (4, .ref (aw ow)), (5, .int i)] → W p l e room_1 s m args below meth c H locs (cv + 60) (sv + 5100) Q (F0 m 2881 ls [])) : W p l e room_1 s m args below meth c H locs cv sv Q (F0 m 348 ls []) := by
  unfold f_case1 at hF
  refine lv_aload_n hx hb dL_law_348 rfl (lv_at hl 1 rfl) ?_
  refine lv_aload_n hx hb dL_law_349 rfl (lv_at hl 0 rfl) ?_
  refine lv_iload hx hb dL_law_350 (lv_at hl 5 rfl) ?_
  refine lv_iconst (v := 1) hx hb dL_law_352 (by decide) ?_
  refine lv_iadd hx hb dL_law_353 ?_
  obtain ⟨g1, hF⟩ := q_gdi hF
  refine va_sld hx hb hX hbl hbA hS g1 dL_law_354 ?_
  refine lv_aload_n hx hb dL_law_355 rfl (lv_at hl 3 rfl) ?_
  have hP : va_P E.1 vwCl (List.flatten [w_VBR a o x.2.2.2.1 x.2.2.2.2.1 x.2.2.2.2.2, w_ValleyR a (o + 1), w_Key E a (o + 2) x.1.1.1, w_Bells E a (o + 3) x.1.1.2.1, w_Mel E a (o + 6) x.1.1.2.2.1, w_Cliffs E a (o + 10) x.1.1.2.2.2, w_ValleyR a (o + 13), w_Key E a (o + 14) x.1.2.1.1, w_Bells E a (o + 15) x.1.2.1.2.1, w_Mel E a (o + 18) x.1.2.1.2.2.1, w_Cliffs E a (o + 22) x.1.2.1.2.2.2, w_Prog E a (o + 25) x.1.2.2.2.1, w_Chord E a (o + 31) x.1.2.2.2.2, w_Key E a (o + 34) x.2.1, w_Line E a (o + 35) x.2.2.1, w_Hist E a (o + 37) x.1.2.2.1, w_Model E ay oy y, w_LongArr E az oz z, w_DblArr E aw ow w]) H := hP
  have hD : va_D A (List.flatten [w_VBR a o x.2.2.2.1 x.2.2.2.2.1 x.2.2.2.2.2, w_ValleyR a (o + 1), w_Key E a (o + 2) x.1.1.1, w_Bells E a (o + 3) x.1.1.2.1, w_Mel E a (o + 6) x.1.1.2.2.1, w_Cliffs E a (o + 10) x.1.1.2.2.2, w_ValleyR a (o + 13), w_Key E a (o + 14) x.1.2.1.1, w_Bells E a (o + 15) x.1.2.1.2.1, w_Mel E a (o + 18) x.1.2.1.2.2.1, w_Cliffs E a (o + 22) x.1.2.1.2.2.2, w_Prog E a (o + 25) x.1.2.2.2.1, w_Chord E a (o + 31) x.1.2.2.2.2, w_Key E a (o + 34) x.2.1, w_Line E a (o + 35) x.2.2.1, w_Hist E a (o + 37) x.1.2.2.1, w_Model E ay oy y, w_LongArr E az oz z, w_DblArr E aw ow w]) := hD
  obtain ⟨q2, hq2, hF⟩ := q_bdi hF
  refine cl_i (Lc := [w_VBR a o x.2.2.2.1 x.2.2.2.2.1 x.2.2.2.2.2, w_ValleyR a (o + 1), w_Key E a (o + 2) x.1.1.1, w_Bells E a (o + 3) x.1.1.2.1, w_Mel E a (o + 6) x.1.1.2.2.1, w_Cliffs E a (o + 10) x.1.1.2.2.2, w_ValleyR a (o + 13), w_Key E a (o + 14) x.1.2.1.1, w_Bells E a (o + 15) x.1.2.1.2.1, w_Mel E a (o + 18) x.1.2.1.2.2.1, w_Cliffs E a (o + 22) x.1.2.1.2.2.2, w_Prog E a (o + 25) x.1.2.2.2.1, w_Chord E a (o + 31) x.1.2.2.2.2, w_Key E a (o + 34) x.2.1, w_Line E a (o + 35) x.2.2.1, w_Hist E a (o + 37) x.1.2.2.1, w_LongArr E az oz z]) (Lc' := [w_VBR a o x.2.2.2.1 x.2.2.2.2.1 x.2.2.2.2.2, w_ValleyR a (o + 1), w_Key E a (o + 2) (q2.2.1, q2.2.2.1, q2.2.2.2.1), w_Bells E a (o + 3) (q2.2.2.2.2.1, q2.2.2.2.2.2.1, q2.2.2.2.2.2.2.1), w_Mel E a (o + 6) (q2.2.2.2.2.2.2.2.1, q2.2.2.2.2.2.2.2.2.1, q2.2.2.2.2.2.2.2.2.2.1), w_Cliffs E a (o + 10) (q2.2.2.2.2.2.2.2.2.2.2.1, q2.2.2.2.2.2.2.2.2.2.2.2.1, q2.2.2.2.2.2.2.2.2.2.2.2.2.1), w_ValleyR a (o + 13), w_Key E a (o + 14) x.1.2.1.1, w_Bells E a (o + 15) x.1.2.1.2.1, w_Mel E a (o + 18) x.1.2.1.2.2.1, w_Cliffs E a (o + 22) x.1.2.1.2.2.2, w_Prog E a (o + 25) x.1.2.2.2.1, w_Chord E a (o + 31) x.1.2.2.2.2, w_Key E a (o + 34) x.2.1, w_Line E a (o + 35) x.2.2.1, w_Hist E a (o + 37) (q2.2.2.2.2.2.2.2.2.2.2.2.2.2.1, q2.2.2.2.2.2.2.2.2.2.2.2.2.2.2.1, q2.2.2.2.2.2.2.2.2.2.2.2.2.2.2.2.1), w_LongArr E az oz q2.2.2.2.2.2.2.2.2.2.2.2.2.2.2.2.2]) (L' := [w_VBR a o x.2.2.2.1 x.2.2.2.2.1 x.2.2.2.2.2, w_ValleyR a (o + 1), w_Key E a (o + 2) (q2.2.1, q2.2.2.1, q2.2.2.2.1), w_Bells E a (o + 3) (q2.2.2.2.2.1, q2.2.2.2.2.2.1, q2.2.2.2.2.2.2.1), w_Mel E a (o + 6) (q2.2.2.2.2.2.2.2.1, q2.2.2.2.2.2.2.2.2.1, q2.2.2.2.2.2.2.2.2.2.1), w_Cliffs E a (o + 10) (q2.2.2.2.2.2.2.2.2.2.2.1, q2.2.2.2.2.2.2.2.2.2.2.2.1, q2.2.2.2.2.2.2.2.2.2.2.2.2.1), w_ValleyR a (o + 13), w_Key E a (o + 14) x.1.2.1.1, w_Bells E a (o + 15) x.1.2.1.2.1, w_Mel E a (o + 18) x.1.2.1.2.2.1, w_Cliffs E a (o + 22) x.1.2.1.2.2.2, w_Prog E a (o + 25) x.1.2.2.2.1, w_Chord E a (o + 31) x.1.2.2.2.2, w_Key E a (o + 34) x.2.1, w_Line E a (o + 35) x.2.2.1, w_Hist E a (o + 37) (q2.2.2.2.2.2.2.2.2.2.2.2.2.2.1, q2.2.2.2.2.2.2.2.2.2.2.2.2.2.2.1, q2.2.2.2.2.2.2.2.2.2.2.2.2.2.2.2.1), w_Model E ay oy y, w_LongArr E az oz q2.2.2.2.2.2.2.2.2.2.2.2.2.2.2.2.2, w_DblArr E aw ow w]) (rv := q2.1) (vx_runSW (As := [.ref (a o), .int (xs (i + 1).toNatClampNeg), .ref (az oz)]) (rest := []) ⟨hx, hb, hml, hown, ha⟩ (k_L_removeBell l E a o x az oz z (xs (i + 1).toNatClampNeg) q2 hq2 H.size hlt) (vx_cwSW 3 ha (gi_TH (fun _ h => h) mw1104 mw1105 mw73 mw1106) rfl rfl rfl hv_L_removeBell.2 ⟨(Nat.le_of_ble_eq_true rfl), (Nat.le_of_ble_eq_true rfl)⟩) ⟨pre_blind, pre_at hP hD hS hz hzs hst [0, 1, 2, 3, 4, 5, 6, 7, 8, 9, 10, 11, 12, 13, 14, 15, 17] (by decide) rfl rfl⟩ rfl rfl hl.1 rfl (lv_room (Nat.le_of_ble_eq_true rfl)) dL_law_356 ⟨by show cv + 1 ≤ 603072; omega, by show sv + 6 ≤ 7207018; omega⟩) hP hD hS hA [0, 1, 2, 3, 4, 5, 6, 7, 8, 9, 10, 11, 12, 13, 14, 15, 17] (by decide) rfl rfl rfl rfl (fun H locs hP hD hS => ?_)
  refine lv_istore (lv' := [(6, .int q2.1), (0, .ref b), (1, .ref (a o)), (2, .ref (ay oy)), (3, .ref (az oz)), (4, .ref (aw ow)), (5, .int i)]) hx hb dL_law_359 hl (by decide) rfl (fun ls hl => ?_)
  refine lv_aload_n hx hb dL_law_361 rfl (lv_at hl 3 rfl) ?_
  refine lv_aload_n hx hb dL_law_362 rfl (lv_at hl 1 rfl) ?_
  refine lv_iload hx hb dL_law_363 (lv_at hl 6 rfl) ?_
  refine lv_iconst (v := 1) hx hb dL_law_365 (by decide) ?_
  refine lv_iadd hx hb dL_law_366 ?_
  obtain ⟨g3, hF⟩ := q_gdi hF
  refine va_sld hx hb hX hbl hbA hS g3 dL_law_367 ?_
  obtain ⟨q4, hq4, hF⟩ := q_bdi hF
  refine cl_i (Lc := [w_Model E ay oy y]) (Lc' := [w_Model E ay oy ((q4.2.1, q4.2.2.1, q4.2.2.2.1, q4.2.2.2.2.1, y.1.2.2.2.2), (y.2.1.1, y.2.1.2.1, y.2.1.2.2.1, y.2.1.2.2.2.1, y.2.1.2.2.2.2), (y.2.2.1.1, y.2.2.1.2.1, y.2.2.1.2.2.1, y.2.2.1.2.2.2), (q4.2.2.2.2.2, y.2.2.2.2.1, y.2.2.2.2.2.1, y.2.2.2.2.2.2))]) (L' := [w_VBR a o x.2.2.2.1 x.2.2.2.2.1 x.2.2.2.2.2, w_ValleyR a (o + 1), w_Key E a (o + 2) (q2.2.1, q2.2.2.1, q2.2.2.2.1), w_Bells E a (o + 3) (q2.2.2.2.2.1, q2.2.2.2.2.2.1, q2.2.2.2.2.2.2.1), w_Mel E a (o + 6) (q2.2.2.2.2.2.2.2.1, q2.2.2.2.2.2.2.2.2.1, q2.2.2.2.2.2.2.2.2.2.1), w_Cliffs E a (o + 10) (q2.2.2.2.2.2.2.2.2.2.2.1, q2.2.2.2.2.2.2.2.2.2.2.2.1, q2.2.2.2.2.2.2.2.2.2.2.2.2.1), w_ValleyR a (o + 13), w_Key E a (o + 14) x.1.2.1.1, w_Bells E a (o + 15) x.1.2.1.2.1, w_Mel E a (o + 18) x.1.2.1.2.2.1, w_Cliffs E a (o + 22) x.1.2.1.2.2.2, w_Prog E a (o + 25) x.1.2.2.2.1, w_Chord E a (o + 31) x.1.2.2.2.2, w_Key E a (o + 34) x.2.1, w_Line E a (o + 35) x.2.2.1, w_Hist E a (o + 37) (q2.2.2.2.2.2.2.2.2.2.2.2.2.2.1, q2.2.2.2.2.2.2.2.2.2.2.2.2.2.2.1, q2.2.2.2.2.2.2.2.2.2.2.2.2.2.2.2.1), w_Model E ay oy ((q4.2.1, q4.2.2.1, q4.2.2.2.1, q4.2.2.2.2.1, y.1.2.2.2.2), (y.2.1.1, y.2.1.2.1, y.2.1.2.2.1, y.2.1.2.2.2.1, y.2.1.2.2.2.2), (y.2.2.1.1, y.2.2.1.2.1, y.2.2.1.2.2.1, y.2.2.1.2.2.2), (q4.2.2.2.2.2, y.2.2.2.2.1, y.2.2.2.2.2.1, y.2.2.2.2.2.2)), w_LongArr E az oz q2.2.2.2.2.2.2.2.2.2.2.2.2.2.2.2.2, w_DblArr E aw ow w]) (rv := q4.1) (va_runV (As := [.int (xs (i + 1).toNatClampNeg)]) (rest := []) ⟨hx, hb, hml, hown, ha⟩ (k_X11_removeBell l E ay oy y (xs (i + 1).toNatClampNeg) q4 hq4 H.size) (cwV 1 ha (gi_V (fun _ h => h) mw1728 mw1729 mw1730 mw87 mw1731) rfl rfl rfl hv_X11_removeBell ⟨(Nat.le_of_ble_eq_true rfl), (Nat.le_of_ble_eq_true rfl)⟩) ⟨pre_blind, va_recv hst.k (fr_P hP [16] rfl) (ci := 13) (q0 := 0) rfl rfl, pre_at hP hD hS hz hzs hst [16] (by decide) rfl rfl⟩ rfl rfl hl.1 rfl (lv_room (Nat.le_of_ble_eq_true rfl)) dL_law_368 ⟨by show cv + 1 + 0 ≤ 603072; omega, by show sv + 6 + 0 ≤ 7207018; omega⟩) hP hD hS hA [16] (by decide) rfl rfl rfl rfl (fun H locs hP hD hS => ?_)
  refine lv_istore (lv' := [(7, .int q4.1), (6, .int q2.1), (0, .ref b), (1, .ref (a o)), (2, .ref (ay oy)), (3, .ref (az oz)), (4, .ref (aw ow)), (5, .int i)]) hx hb dL_law_371 hl (by decide) rfl (fun ls hl => ?_)
  refine lv_aload_n hx hb dL_law_373 rfl (lv_at hl 4 rfl) ?_
  obtain ⟨q5, hq5, hF⟩ := q_bdi hF
  refine cl_i (Lc := [w_Model E ay oy ((q4.2.1, q4.2.2.1, q4.2.2.2.1, q4.2.2.2.2.1, y.1.2.2.2.2), (y.2.1.1, y.2.1.2.1, y.2.1.2.2.1, y.2.1.2.2.2.1, y.2.1.2.2.2.2), (y.2.2.1.1, y.2.2.1.2.1, y.2.2.1.2.2.1, y.2.2.1.2.2.2), (q4.2.2.2.2.2, y.2.2.2.2.1, y.2.2.2.2.2.1, y.2.2.2.2.2.2))]) (Lc' := [w_Model E ay oy ((q4.2.1, q4.2.2.1, q4.2.2.2.1, q4.2.2.2.2.1, y.1.2.2.2.2), (y.2.1.1, y.2.1.2.1, y.2.1.2.2.1, y.2.1.2.2.2.1, y.2.1.2.2.2.2), (y.2.2.1.1, y.2.2.1.2.1, y.2.2.1.2.2.1, y.2.2.1.2.2.2), (q4.2.2.2.2.2, y.2.2.2.2.1, y.2.2.2.2.2.1, y.2.2.2.2.2.2))]) (L' := [w_VBR a o x.2.2.2.1 x.2.2.2.2.1 x.2.2.2.2.2, w_ValleyR a (o + 1), w_Key E a (o + 2) (q2.2.1, q2.2.2.1, q2.2.2.2.1), w_Bells E a (o + 3) (q2.2.2.2.2.1, q2.2.2.2.2.2.1, q2.2.2.2.2.2.2.1), w_Mel E a (o + 6) (q2.2.2.2.2.2.2.2.1, q2.2.2.2.2.2.2.2.2.1, q2.2.2.2.2.2.2.2.2.2.1), w_Cliffs E a (o + 10) (q2.2.2.2.2.2.2.2.2.2.2.1, q2.2.2.2.2.2.2.2.2.2.2.2.1, q2.2.2.2.2.2.2.2.2.2.2.2.2.1), w_ValleyR a (o + 13), w_Key E a (o + 14) x.1.2.1.1, w_Bells E a (o + 15) x.1.2.1.2.1, w_Mel E a (o + 18) x.1.2.1.2.2.1, w_Cliffs E a (o + 22) x.1.2.1.2.2.2, w_Prog E a (o + 25) x.1.2.2.2.1, w_Chord E a (o + 31) x.1.2.2.2.2, w_Key E a (o + 34) x.2.1, w_Line E a (o + 35) x.2.2.1, w_Hist E a (o + 37) (q2.2.2.2.2.2.2.2.2.2.2.2.2.2.1, q2.2.2.2.2.2.2.2.2.2.2.2.2.2.2.1, q2.2.2.2.2.2.2.2.2.2.2.2.2.2.2.2.1), w_Model E ay oy ((q4.2.1, q4.2.2.1, q4.2.2.2.1, q4.2.2.2.2.1, y.1.2.2.2.2), (y.2.1.1, y.2.1.2.1, y.2.1.2.2.1, y.2.1.2.2.2.1, y.2.1.2.2.2.2), (y.2.2.1.1, y.2.2.1.2.1, y.2.2.1.2.2.1, y.2.2.1.2.2.2), (q4.2.2.2.2.2, y.2.2.2.2.1, y.2.2.2.2.2.1, y.2.2.2.2.2.2)), w_LongArr E az oz q2.2.2.2.2.2.2.2.2.2.2.2.2.2.2.2.2, w_DblArr E aw ow w]) (rv := q5) (va_runV (As := []) (rest := []) ⟨hx, hb, hml, hown, ha⟩ (k_X11_thrown l E ay oy ((q4.2.1, q4.2.2.1, q4.2.2.2.1, q4.2.2.2.2.1, y.1.2.2.2.2), (y.2.1.1, y.2.1.2.1, y.2.1.2.2.1, y.2.1.2.2.2.1, y.2.1.2.2.2.2), (y.2.2.1.1, y.2.2.1.2.1, y.2.2.1.2.2.1, y.2.2.1.2.2.2), (q4.2.2.2.2.2, y.2.2.2.2.1, y.2.2.2.2.2.1, y.2.2.2.2.2.2)) q5 hq5 H.size) (cwV 0 ha (gi_V (fun _ h => h) mw1691 mw1692 mw1693 mw87 mw1694) rfl rfl rfl hv_X11_thrown ⟨(Nat.le_of_ble_eq_true rfl), (Nat.le_of_ble_eq_true rfl)⟩) ⟨pre_blind, va_recv hst.k (fr_P hP [16] rfl) (ci := 13) (q0 := 0) rfl rfl, pre_at hP hD hS hz hzs hst [16] (by decide) rfl rfl⟩ rfl rfl hl.1 rfl (lv_room (Nat.le_of_ble_eq_true rfl)) dL_law_374 ⟨by show cv + 1 + 0 ≤ 603072; omega, by show sv + 6 + 0 ≤ 7207018; omega⟩) hP hD hS hA [16] (by decide) rfl rfl rfl rfl (fun H locs hP hD hS => ?_)
  refine lv_iload hx hb dL_law_377 (lv_at hl 1 rfl) ?_
  refine lv_icmp_eq (tgt := 384) hx hb dL_law_379 (by decide) (fun c379 => ?_) (fun c379 => ?_)
  · have hF := q_brp c379 hF
    refine lv_iload hx hb dL_law_384 (lv_at hl 1 rfl) ?_
    refine lv_if_ne (tgt := 401) hx hb dL_law_386 (by decide) (fun c386 => ?_) (fun c386 => ?_)
    · have hF := q_brn c386 hF
      refine lv_goto (tgt := 2881) hx hb dL_law_401 (by decide) ?_
      obtain rfl := Option.some.inj hF
      refine W.widen (k := cv + 60) (n := sv + 5100) (by omega) (by omega) ?_
      exact hK H locs ls hP hD hS (lv_sub hl [2, 3, 4, 5, 6, 7] rfl)
    · have hF := q_brp c386 hF
      refine lv_aload_n hx hb dL_law_389 rfl (lv_at hl 5 rfl) ?_
      refine lv_iconst (v := 0) hx hb dL_law_390 (by decide) ?_
      refine vi_lald hx hb hst.k hP 156 3 rfl rfl (f := q2.2.2.2.2.2.2.2.2.2.2.2.2.2.2.2.2) (k := 0) (by decide) (by decide) dL_law_391 ?_
      refine lv_iload hx hb dL_law_392 (lv_at hl 0 rfl) ?_
      refine lv_i2l hx hb dL_law_394 rfl ?_
      refine W.lcmp hx hb dL_law_395 ?_
      refine lv_if_eq (tgt := 401) hx hb dL_law_396 (by decide) (fun c396 => ?_) (fun c396 => ?_)
      · have hF := q_brp c396 hF
        refine lv_goto (tgt := 2881) hx hb dL_law_401 (by decide) ?_
        obtain rfl := Option.some.inj hF
        refine W.widen (k := cv + 60) (n := sv + 5100) (by omega) (by omega) ?_
        exact hK H locs ls hP hD hS (lv_sub hl [2, 3, 4, 5, 6, 7] rfl)
      · have hF := q_brn c396 hF
        exact absurd hF (by simp)
  · have hF := q_brn c379 hF
    exact absurd hF (by simp)
def f_c1 (x : VB_t) (y : Model_t) (z : Nat → Int64) (w : Nat → UInt64) (xs : Nat → Int32) (n : Nat) (i : Int32) : Option (VB_t × Model_t × (Nat → Int64) × (Nat → UInt64)) := q_bd (f_case1 x.1.1.1.1 x.1.1.1.2.1 x.1.1.1.2.2 x.1.1.2.1.1 x.1.1.2.1.2.1 x.1.1.2.1.2.2 x.1.1.2.2.1.1 x.1.1.2.2.1.2.1 x.1.1.2.2.1.2.2 x.1.1.2.2.2.1 x.1.1.2.2.2.2.1 x.1.1.2.2.2.2.2 x.1.2.2.1.1 x.1.2.2.1.2.1 x.1.2.2.1.2.2 y.1.1 y.1.2.1 y.1.2.2.1 y.1.2.2.2.1 y.2.2.2.1 z xs n i) (fun res => some (((((res.1, res.2.1, res.2.2.1), (res.2.2.2.1, res.2.2.2.2.1, res.2.2.2.2.2.1), (res.2.2.2.2.2.2.1, res.2.2.2.2.2.2.2.1, res.2.2.2.2.2.2.2.2.1), (res.2.2.2.2.2.2.2.2.2.1, res.2.2.2.2.2.2.2.2.2.2.1, res.2.2.2.2.2.2.2.2.2.2.2.1)), x.1.2.1, (res.2.2.2.2.2.2.2.2.2.2.2.2.1, res.2.2.2.2.2.2.2.2.2.2.2.2.2.1, res.2.2.2.2.2.2.2.2.2.2.2.2.2.2.1), x.1.2.2.2.1, x.1.2.2.2.2), (x.2.1, x.2.2.1, x.2.2.2.1, x.2.2.2.2.1, x.2.2.2.2.2)), ((res.2.2.2.2.2.2.2.2.2.2.2.2.2.2.2.1, res.2.2.2.2.2.2.2.2.2.2.2.2.2.2.2.2.1, res.2.2.2.2.2.2.2.2.2.2.2.2.2.2.2.2.2.1, res.2.2.2.2.2.2.2.2.2.2.2.2.2.2.2.2.2.2.1, y.1.2.2.2.2), (y.2.1.1, y.2.1.2.1, y.2.1.2.2.1, y.2.1.2.2.2.1, y.2.1.2.2.2.2), (y.2.2.1.1, y.2.2.1.2.1, y.2.2.1.2.2.1, y.2.2.1.2.2.2), (res.2.2.2.2.2.2.2.2.2.2.2.2.2.2.2.2.2.2.2.1, y.2.2.2.2.1, y.2.2.2.2.2.1, y.2.2.2.2.2.2)), res.2.2.2.2.2.2.2.2.2.2.2.2.2.2.2.2.2.2.2.2, w))
/-! case 2 -/
theorem dL_law_404 : decode cL_law 404 = .ok (.aload_n 1, 1) := by decide +kernel
theorem dL_law_405 : decode cL_law 405 = .ok (.aload_n 0, 1) := by decide +kernel
theorem dL_law_406 : decode cL_law 406 = .ok (.iload 5, 2) := by decide +kernel
theorem dL_law_408 : decode cL_law 408 = .ok (.iconst 1, 1) := by decide +kernel
theorem dL_law_409 : decode cL_law 409 = .ok (.iadd, 1) := by decide +kernel
theorem dL_law_410 : decode cL_law 410 = .ok (.iaload, 1) := by decide +kernel
theorem dL_law_411 : decode cL_law 411 = .ok (.aload_n 0, 1) := by decide +kernel
theorem dL_law_412 : decode cL_law 412 = .ok (.iload 5, 2) := by decide +kernel
theorem dL_law_414 : decode cL_law 414 = .ok (.iconst 2, 1) := by decide +kernel
theorem dL_law_415 : decode cL_law 415 = .ok (.iadd, 1) := by decide +kernel
theorem dL_law_416 : decode cL_law 416 = .ok (.iaload, 1) := by decide +kernel
theorem dL_law_417 : decode cL_law 417 = .ok (.aload_n 3, 1) := by decide +kernel
theorem dL_law_418 : decode cL_law 418 = .ok (.invokestatic 167, 3) := by decide +kernel
theorem dL_law_421 : decode cL_law 421 = .ok (.istore 6, 2) := by decide +kernel
theorem dL_law_423 : decode cL_law 423 = .ok (.aload_n 2, 1) := by decide +kernel
theorem dL_law_424 : decode cL_law 424 = .ok (.aload_n 0, 1) := by decide +kernel
theorem dL_law_425 : decode cL_law 425 = .ok (.iload 5, 2) := by decide +kernel
theorem dL_law_427 : decode cL_law 427 = .ok (.iconst 1, 1) := by decide +kernel
theorem dL_law_428 : decode cL_law 428 = .ok (.iadd, 1) := by decide +kernel
theorem dL_law_429 : decode cL_law 429 = .ok (.iaload, 1) := by decide +kernel
theorem dL_law_430 : decode cL_law 430 = .ok (.aload_n 0, 1) := by decide +kernel
theorem dL_law_431 : decode cL_law 431 = .ok (.iload 5, 2) := by decide +kernel
theorem dL_law_433 : decode cL_law 433 = .ok (.iconst 2, 1) := by decide +kernel
theorem dL_law_434 : decode cL_law 434 = .ok (.iadd, 1) := by decide +kernel
theorem dL_law_435 : decode cL_law 435 = .ok (.iaload, 1) := by decide +kernel
theorem dL_law_436 : decode cL_law 436 = .ok (.invokevirtual 169, 3) := by decide +kernel
theorem dL_law_439 : decode cL_law 439 = .ok (.istore 7, 2) := by decide +kernel
theorem dL_law_441 : decode cL_law 441 = .ok (.aload_n 2, 1) := by decide +kernel
theorem dL_law_442 : decode cL_law 442 = .ok (.invokevirtual 160, 3) := by decide +kernel
theorem dL_law_445 : decode cL_law 445 = .ok (.iload 6, 2) := by decide +kernel
theorem dL_law_447 : decode cL_law 447 = .ok (.if_icmp .eq 5, 3) := by decide +kernel
theorem dL_law_452 : decode cL_law 452 = .ok (.iload 6, 2) := by decide +kernel
theorem dL_law_454 : decode cL_law 454 = .ok (.ifCond .ne 15, 3) := by decide +kernel
theorem dL_law_457 : decode cL_law 457 = .ok (.aload_n 3, 1) := by decide +kernel
theorem dL_law_458 : decode cL_law 458 = .ok (.iconst 0, 1) := by decide +kernel
theorem dL_law_459 : decode cL_law 459 = .ok (.laload, 1) := by decide +kernel
theorem dL_law_460 : decode cL_law 460 = .ok (.iload 7, 2) := by decide +kernel
theorem dL_law_462 : decode cL_law 462 = .ok (.i2l, 1) := by decide +kernel
theorem dL_law_463 : decode cL_law 463 = .ok (.lcmp, 1) := by decide +kernel
theorem dL_law_464 : decode cL_law 464 = .ok (.ifCond .eq 5, 3) := by decide +kernel
theorem dL_law_469 : decode cL_law 469 = .ok (.goto 2412, 3) := by decide +kernel
def f_case2 (x_valley_key_tonic : Int32) (x_valley_key_isMinor : Int32) (x_valley_key_tolerance : Int32) (x_valley_bells_herds : (Nat → Int32)) (x_valley_bells_pitches : (Nat → Int32)) (x_valley_bells_count : Int32) (x_valley_melodies_lengths : (Nat → Int32)) (x_valley_melodies_entries : (Nat → Int32)) (x_valley_melodies_tones : (Nat → Int32)) (x_valley_cliffs_delays : (Nat → Int32)) (x_valley_cliffs_transpositions : (Nat → Int32)) (x_valley_cliffs_count : Int32) (x_history_slots : (Nat → Valley_t)) (x_history_current : Int32) (x_history_count : Int32) (y_g : (Nat → Int32)) (y_before : (Nat → Int32)) (y_history : (Nat → Int32)) (y_changes : Int32) (y_thrown : Int32) (z_v : (Nat → Int64)) (xs : (Nat → Int32)) (n : Nat) (i : Int32) : Option (Int32 × Int32 × Int32 × (Nat → Int32) × (Nat → Int32) × Int32 × (Nat → Int32) × (Nat → Int32) × (Nat → Int32) × (Nat → Int32) × (Nat → Int32) × Int32 × (Nat → Valley_t) × Int32 × Int32 × (Nat → Int32) × (Nat → Int32) × (Nat → Int32) × Int32 × Int32 × (Nat → Int64)) :=
  q_gd (q_in (i + 1) n) (
  q_gd (q_in (i + 2) n) (
  q_bd (f_L_tune x_valley_key_tonic x_valley_key_isMinor x_valley_key_tolerance x_valley_bells_herds x_valley_bells_pitches x_valley_bells_count x_valley_melodies_lengths x_valley_melodies_entries x_valley_melodies_tones x_valley_cliffs_delays x_valley_cliffs_transpositions x_valley_cliffs_count x_history_slots x_history_current x_history_count z_v (xs (i + 1).toNatClampNeg) (xs (i + 2).toNatClampNeg)) (fun q3 =>
  q_gd (q_in (i + 1) n) (
  q_gd (q_in (i + 2) n) (
  q_bd (f_X11_tune y_g y_before y_history y_changes y_thrown (xs (i + 1).toNatClampNeg) (xs (i + 2).toNatClampNeg)) (fun q6 =>
  q_bd (f_X11_thrown q6.2.2.2.2.2) (fun q7 =>
  q_br (q7 = q3.1) (
  q_br (q3.1 = 0) (
  q_br ((lg_cmp (q3.2.2.2.2.2.2.2.2.2.2.2.2.2.2.2.2 0) (q6.1.toInt64)) = 0) (
  some (q3.2.1, q3.2.2.1, q3.2.2.2.1, q3.2.2.2.2.1, q3.2.2.2.2.2.1, q3.2.2.2.2.2.2.1, q3.2.2.2.2.2.2.2.1, q3.2.2.2.2.2.2.2.2.1, q3.2.2.2.2.2.2.2.2.2.1, q3.2.2.2.2.2.2.2.2.2.2.1, q3.2.2.2.2.2.2.2.2.2.2.2.1, q3.2.2.2.2.2.2.2.2.2.2.2.2.1, q3.2.2.2.2.2.2.2.2.2.2.2.2.2.1, q3.2.2.2.2.2.2.2.2.2.2.2.2.2.2.1, q3.2.2.2.2.2.2.2.2.2.2.2.2.2.2.2.1, q6.2.1, q6.2.2.1, q6.2.2.2.1, q6.2.2.2.2.1, q6.2.2.2.2.2, q3.2.2.2.2.2.2.2.2.2.2.2.2.2.2.2.2)) (
  none)) (
  some (q3.2.1, q3.2.2.1, q3.2.2.2.1, q3.2.2.2.2.1, q3.2.2.2.2.2.1, q3.2.2.2.2.2.2.1, q3.2.2.2.2.2.2.2.1, q3.2.2.2.2.2.2.2.2.1, q3.2.2.2.2.2.2.2.2.2.1, q3.2.2.2.2.2.2.2.2.2.2.1, q3.2.2.2.2.2.2.2.2.2.2.2.1, q3.2.2.2.2.2.2.2.2.2.2.2.2.1, q3.2.2.2.2.2.2.2.2.2.2.2.2.2.1, q3.2.2.2.2.2.2.2.2.2.2.2.2.2.2.1, q3.2.2.2.2.2.2.2.2.2.2.2.2.2.2.2.1, q6.2.1, q6.2.2.1, q6.2.2.2.1, q6.2.2.2.2.1, q6.2.2.2.2.2, q3.2.2.2.2.2.2.2.2.2.2.2.2.2.2.2.2))) (
  none))))))))
set_option maxHeartbeats 4000000 in
set_option maxRecDepth 100000 in
theorem kc_2 {p : Program} {e : Env} {s : State} {m : MethodId} {args : Array Value} {below : List Frame} {meth : Method} {c : Code} {Q : State → Prop} {A : Nat → Prop} (l : Launch) (hlt : l.stackTraces = false) (E : ET) (a : Nat → Nat) (o : Nat) (x : VB_t) (ay : Nat → Nat) (oy : Nat) (y : Model_t) (az : Nat → Nat) (oz : Nat) (z : Nat → Int64) (aw : Nat → Nat) (ow : Nat) (w : Nat → UInt64) (b n : Nat) (xs : Nat → Int32) (i : Int32) (hx : p.tables.exec = Jvm.exec) (hb : c.code = cL_law) (hml : c.maxLocals = 9) (hown : s.vm.findClass RL = some m.cls) (ha : ∀ w ∈ lw_all, w.before args s = true) (hA : ∀ q, s.heap.size ≤ q → A q) (hz : ∀ q, A q → E.2 0 ≤ q) (hzs : E.2 0 ≤ s.heap.size) (hst : ST E s) (hX : va_X b n xs s s.heap) (hbl : b < s.heap.size) (hbA : ¬ A b) (res : Int32 × Int32 × Int32 × (Nat → Int32) × (Nat → Int32) × Int32 × (Nat → Int32) × (Nat → Int32) × (Nat → Int32) × (Nat → Int32) × (Nat → Int32) × Int32 × (Nat → Valley_t) × Int32 × Int32 × (Nat → Int32) × (Nat → Int32) × (Nat → Int32) × Int32 × Int32 × (Nat → Int64)) (hF : f_case2 x.1.1.1.1 x.1.1.1.2.1 x.1.1.1.2.2 x.1.1.2.1.1 x.1.1.2.1.2.1 x.1.1.2.1.2.2 x.1.1.2.2.1.1 x.1.1.2.2.1.2.1 x.1.1.2.2.1.2.2 x.1.1.2.2.2.1 x.1.1.2.2.2.2.1 x.1.1.2.2.2.2.2 x.1.2.2.1.1 x.1.2.2.1.2.1 x.1.2.2.1.2.2 y.1.1 y.1.2.1 y.1.2.2.1 y.1.2.2.2.1 y.2.2.2.1 z xs n i = some res) {H : Heap} {locs : List Loc} {ls : Array Slot} {cv sv : Nat} (hcv : cv + 60 ≤ 603072) (hsv : sv + 5100 ≤ 7207018) (hP : va_P E.1 vwCl (List.flatten [w_VBR a o x.2.2.2.1 x.2.2.2.2.1 x.2.2.2.2.2, w_ValleyR a (o + 1), w_Key E a (o + 2) x.1.1.1, w_Bells E a (o + 3) x.1.1.2.1, w_Mel E a (o + 6) x.1.1.2.2.1, w_Cliffs E a (o + 10) x.1.1.2.2.2, w_ValleyR a (o + 13), w_Key E a (o + 14) x.1.2.1.1, w_Bells E a (o + 15) x.1.2.1.2.1, w_Mel E a (o + 18) x.1.2.1.2.2.1, w_Cliffs E a (o + 22) x.1.2.1.2.2.2, w_Prog E a (o + 25) x.1.2.2.2.1, w_Chord E a (o + 31) x.1.2.2.2.2, w_Key E a (o + 34) x.2.1, w_Line E a (o + 35) x.2.2.1, w_Hist E a (o + 37) x.1.2.2.1, w_Model E ay oy y, w_LongArr E az oz z, w_DblArr E aw ow w]) H) (hD : va_D A (List.flatten [w_VBR a o x.2.2.2.1 x.2.2.2.2.1 x.2.2.2.2.2, w_ValleyR a (o + 1), w_Key E a (o + 2) x.1.1.1, w_Bells E a (o + 3) x.1.1.2.1, w_Mel E a (o + 6) x.1.1.2.2.1, w_Cliffs E a (o + 10) x.1.1.2.2.2, w_ValleyR a (o + 13), w_Key E a (o + 14) x.1.2.1.1, w_Bells E a (o + 15) x.1.2.1.2.1, w_Mel E a (o + 18) x.1.2.1.2.2.1, w_Cliffs E a (o + 22) x.1.2.1.2.2.2, w_Prog E a (o + 25) x.1.2.2.2.1, w_Chord E a (o + 31) x.1.2.2.2.2, w_Key E a (o + 34) x.2.1, w_Line E a (o + 35) x.2.2.1, w_Hist E a (o + 37) x.1.2.2.1, w_Model E ay oy y, w_LongArr E az oz z, w_DblArr E aw ow w])) (hS : va_S A s.heap H locs) (hl : lv_has ls 9 [(0, .ref b), (1, .ref (a o)), (2, .ref (ay oy)), (3, .ref (az oz)), (4, .ref (aw ow)), (5, .int i)])
    (hK : ∀ (H : Heap) (locs : List Loc) (ls : Array Slot), va_P E.1 vwCl (List.flatten (bl_VB E a o ((((res.1, res.2.1, res.2.2.1), (res.2.2.2.1, res.2.2.2.2.1, res.2.2.2.2.2.1), (res.2.2.2.2.2.2.1, res.2.2.2.2.2.2.2.1, res.2.2.2.2.2.2.2.2.1), (res.2.2.2.2.2.2.2.2.2.1, res.2.2.2.2.2.2.2.2.2.2.1, res.2.2.2.2.2.2.2.2.2.2.2.1)), x.1.2.1, (res.2.2.2.2.2.2.2.2.2.2.2.2.1, res.2.2.2.2.2.2.2.2.2.2.2.2.2.1, res.2.2.2.2.2.2.2.2.2.2.2.2.2.2.1), x.1.2.2.2.1, x.1.2.2.2.2), (x.2.1, x.2.2.1, x.2.2.2.1, x.2.2.2.2.1, x.2.2.2.2.2)) ++ (bl_Model E ay oy ((res.2.2.2.2.2.2.2.2.2.2.2.2.2.2.2.1, res.2.2.2.2.2.2.2.2.2.2.2.2.2.2.2.2.1, res.2.2.2.2.2.2.2.2.2.2.2.2.2.2.2.2.2.1, res.2.2.2.2.2.2.2.2.2.2.2.2.2.2.2.2.2.2.1, y.1.2.2.2.2), (y.2.1.1, y.2.1.2.1, y.2.1.2.2.1, y.2.1.2.2.2.1, y.2.1.2.2.2.2), (y.2.2.1.1, y.2.2.1.2.1, y.2.2.1.2.2.1, y.2.2.1.2.2.2), (res.2.2.2.2.2.2.2.2.2.2.2.2.2.2.2.2.2.2.2.1, y.2.2.2.2.1, y.2.2.2.2.2.1, y.2.2.2.2.2.2)) ++ (bl_LongArr E az oz res.2.2.2.2.2.2.2.2.2.2.2.2.2.2.2.2.2.2.2.2 ++ bl_DblArr E aw ow w)))) H → va_D A (List.flatten (bl_VB E a o ((((res.1, res.2.1, res.2.2.1), (res.2.2.2.1, res.2.2.2.2.1, res.2.2.2.2.2.1), (res.2.2.2.2.2.2.1, res.2.2.2.2.2.2.2.1, res.2.2.2.2.2.2.2.2.1), (res.2.2.2.2.2.2.2.2.2.1, res.2.2.2.2.2.2.2.2.2.2.1, res.2.2.2.2.2.2.2.2.2.2.2.1)), x.1.2.1, (res.2.2.2.2.2.2.2.2.2.2.2.2.1, res.2.2.2.2.2.2.2.2.2.2.2.2.2.1, res.2.2.2.2.2.2.2.2.2.2.2.2.2.2.1), x.1.2.2.2.1, x.1.2.2.2.2), (x.2.1, x.2.2.1, x.2.2.2.1, x.2.2.2.2.1, x.2.2.2.2.2)) ++ (bl_Model E ay oy ((res.2.2.2.2.2.2.2.2.2.2.2.2.2.2.2.1, res.2.2.2.2.2.2.2.2.2.2.2.2.2.2.2.2.1, res.2.2.2.2.2.2.2.2.2.2.2.2.2.2.2.2.2.1, res.2.2.2.2.2.2.2.2.2.2.2.2.2.2.2.2.2.2.1, y.1.2.2.2.2), (y.2.1.1, y.2.1.2.1, y.2.1.2.2.1, y.2.1.2.2.2.1, y.2.1.2.2.2.2), (y.2.2.1.1, y.2.2.1.2.1, y.2.2.1.2.2.1, y.2.2.1.2.2.2), (res.2.2.2.2.2.2.2.2.2.2.2.2.2.2.2.2.2.2.2.1, y.2.2.2.2.1, y.2.2.2.2.2.1, y.2.2.2.2.2.2)) ++ (bl_LongArr E az oz res.2.2.2.2.2.2.2.2.2.2.2.2.2.2.2.2.2.2.2.2 ++ bl_DblArr E aw ow w)))) → va_S A s.heap H locs → lv_has ls 9 [(0, .ref b), (1, .ref (a o)), (2, .ref (ay oy)), (3, .ref (az oz)), (4, .ref (aw ow)), (5, .int i)] → W p l e room_1 s m args below meth c H locs (cv + 60) (sv + 5100) Q (F0 m 2881 ls [])) : W p l e room_1 s m args below meth c H locs cv sv Q (F0 m 404 ls []) := by
  unfold f_case2 at hF
  refine lv_aload_n hx hb dL_law_404 rfl (lv_at hl 1 rfl) ?_
  refine lv_aload_n hx hb dL_law_405 rfl (lv_at hl 0 rfl) ?_
  refine lv_iload hx hb dL_law_406 (lv_at hl 5 rfl) ?_
  refine lv_iconst (v := 1) hx hb dL_law_408 (by decide) ?_
  refine lv_iadd hx hb dL_law_409 ?_
  obtain ⟨g1, hF⟩ := q_gdi hF
  refine va_sld hx hb hX hbl hbA hS g1 dL_law_410 ?_
  refine lv_aload_n hx hb dL_law_411 rfl (lv_at hl 0 rfl) ?_
  refine lv_iload hx hb dL_law_412 (lv_at hl 5 rfl) ?_
  refine lv_iconst (v := 2) hx hb dL_law_414 (by decide) ?_
  refine lv_iadd hx hb dL_law_415 ?_
  obtain ⟨g2, hF⟩ := q_gdi hF
  refine va_sld hx hb hX hbl hbA hS g2 dL_law_416 ?_
  refine lv_aload_n hx hb dL_law_417 rfl (lv_at hl 3 rfl) ?_
  have hP : va_P E.1 vwCl (List.flatten [w_VBR a o x.2.2.2.1 x.2.2.2.2.1 x.2.2.2.2.2, w_ValleyR a (o + 1), w_Key E a (o + 2) x.1.1.1, w_Bells E a (o + 3) x.1.1.2.1, w_Mel E a (o + 6) x.1.1.2.2.1, w_Cliffs E a (o + 10) x.1.1.2.2.2, w_ValleyR a (o + 13), w_Key E a (o + 14) x.1.2.1.1, w_Bells E a (o + 15) x.1.2.1.2.1, w_Mel E a (o + 18) x.1.2.1.2.2.1, w_Cliffs E a (o + 22) x.1.2.1.2.2.2, w_Prog E a (o + 25) x.1.2.2.2.1, w_Chord E a (o + 31) x.1.2.2.2.2, w_Key E a (o + 34) x.2.1, w_Line E a (o + 35) x.2.2.1, w_Hist E a (o + 37) x.1.2.2.1, w_Model E ay oy y, w_LongArr E az oz z, w_DblArr E aw ow w]) H := hP
  have hD : va_D A (List.flatten [w_VBR a o x.2.2.2.1 x.2.2.2.2.1 x.2.2.2.2.2, w_ValleyR a (o + 1), w_Key E a (o + 2) x.1.1.1, w_Bells E a (o + 3) x.1.1.2.1, w_Mel E a (o + 6) x.1.1.2.2.1, w_Cliffs E a (o + 10) x.1.1.2.2.2, w_ValleyR a (o + 13), w_Key E a (o + 14) x.1.2.1.1, w_Bells E a (o + 15) x.1.2.1.2.1, w_Mel E a (o + 18) x.1.2.1.2.2.1, w_Cliffs E a (o + 22) x.1.2.1.2.2.2, w_Prog E a (o + 25) x.1.2.2.2.1, w_Chord E a (o + 31) x.1.2.2.2.2, w_Key E a (o + 34) x.2.1, w_Line E a (o + 35) x.2.2.1, w_Hist E a (o + 37) x.1.2.2.1, w_Model E ay oy y, w_LongArr E az oz z, w_DblArr E aw ow w]) := hD
  obtain ⟨q3, hq3, hF⟩ := q_bdi hF
  refine cl_i (Lc := [w_VBR a o x.2.2.2.1 x.2.2.2.2.1 x.2.2.2.2.2, w_ValleyR a (o + 1), w_Key E a (o + 2) x.1.1.1, w_Bells E a (o + 3) x.1.1.2.1, w_Mel E a (o + 6) x.1.1.2.2.1, w_Cliffs E a (o + 10) x.1.1.2.2.2, w_ValleyR a (o + 13), w_Key E a (o + 14) x.1.2.1.1, w_Bells E a (o + 15) x.1.2.1.2.1, w_Mel E a (o + 18) x.1.2.1.2.2.1, w_Cliffs E a (o + 22) x.1.2.1.2.2.2, w_Prog E a (o + 25) x.1.2.2.2.1, w_Chord E a (o + 31) x.1.2.2.2.2, w_Key E a (o + 34) x.2.1, w_Line E a (o + 35) x.2.2.1, w_Hist E a (o + 37) x.1.2.2.1, w_LongArr E az oz z]) (Lc' := [w_VBR a o x.2.2.2.1 x.2.2.2.2.1 x.2.2.2.2.2, w_ValleyR a (o + 1), w_Key E a (o + 2) (q3.2.1, q3.2.2.1, q3.2.2.2.1), w_Bells E a (o + 3) (q3.2.2.2.2.1, q3.2.2.2.2.2.1, q3.2.2.2.2.2.2.1), w_Mel E a (o + 6) (q3.2.2.2.2.2.2.2.1, q3.2.2.2.2.2.2.2.2.1, q3.2.2.2.2.2.2.2.2.2.1), w_Cliffs E a (o + 10) (q3.2.2.2.2.2.2.2.2.2.2.1, q3.2.2.2.2.2.2.2.2.2.2.2.1, q3.2.2.2.2.2.2.2.2.2.2.2.2.1), w_ValleyR a (o + 13), w_Key E a (o + 14) x.1.2.1.1, w_Bells E a (o + 15) x.1.2.1.2.1, w_Mel E a (o + 18) x.1.2.1.2.2.1, w_Cliffs E a (o + 22) x.1.2.1.2.2.2, w_Prog E a (o + 25) x.1.2.2.2.1, w_Chord E a (o + 31) x.1.2.2.2.2, w_Key E a (o + 34) x.2.1, w_Line E a (o + 35) x.2.2.1, w_Hist E a (o + 37) (q3.2.2.2.2.2.2.2.2.2.2.2.2.2.1, q3.2.2.2.2.2.2.2.2.2.2.2.2.2.2.1, q3.2.2.2.2.2.2.2.2.2.2.2.2.2.2.2.1), w_LongArr E az oz q3.2.2.2.2.2.2.2.2.2.2.2.2.2.2.2.2]) (L' := [w_VBR a o x.2.2.2.1 x.2.2.2.2.1 x.2.2.2.2.2, w_ValleyR a (o + 1), w_Key E a (o + 2) (q3.2.1, q3.2.2.1, q3.2.2.2.1), w_Bells E a (o + 3) (q3.2.2.2.2.1, q3.2.2.2.2.2.1, q3.2.2.2.2.2.2.1), w_Mel E a (o + 6) (q3.2.2.2.2.2.2.2.1, q3.2.2.2.2.2.2.2.2.1, q3.2.2.2.2.2.2.2.2.2.1), w_Cliffs E a (o + 10) (q3.2.2.2.2.2.2.2.2.2.2.1, q3.2.2.2.2.2.2.2.2.2.2.2.1, q3.2.2.2.2.2.2.2.2.2.2.2.2.1), w_ValleyR a (o + 13), w_Key E a (o + 14) x.1.2.1.1, w_Bells E a (o + 15) x.1.2.1.2.1, w_Mel E a (o + 18) x.1.2.1.2.2.1, w_Cliffs E a (o + 22) x.1.2.1.2.2.2, w_Prog E a (o + 25) x.1.2.2.2.1, w_Chord E a (o + 31) x.1.2.2.2.2, w_Key E a (o + 34) x.2.1, w_Line E a (o + 35) x.2.2.1, w_Hist E a (o + 37) (q3.2.2.2.2.2.2.2.2.2.2.2.2.2.1, q3.2.2.2.2.2.2.2.2.2.2.2.2.2.2.1, q3.2.2.2.2.2.2.2.2.2.2.2.2.2.2.2.1), w_Model E ay oy y, w_LongArr E az oz q3.2.2.2.2.2.2.2.2.2.2.2.2.2.2.2.2, w_DblArr E aw ow w]) (rv := q3.1) (vx_runSW (As := [.ref (a o), .int (xs (i + 1).toNatClampNeg), .int (xs (i + 2).toNatClampNeg), .ref (az oz)]) (rest := []) ⟨hx, hb, hml, hown, ha⟩ (k_L_tune l E a o x az oz z (xs (i + 1).toNatClampNeg) (xs (i + 2).toNatClampNeg) q3 hq3 H.size hlt) (vx_cwSW 4 ha (gi_TH (fun _ h => h) mw1113 mw1114 mw73 mw1115) rfl rfl rfl hv_L_tune.2 ⟨(Nat.le_of_ble_eq_true rfl), (Nat.le_of_ble_eq_true rfl)⟩) ⟨pre_blind, pre_at hP hD hS hz hzs hst [0, 1, 2, 3, 4, 5, 6, 7, 8, 9, 10, 11, 12, 13, 14, 15, 17] (by decide) rfl rfl⟩ rfl rfl hl.1 rfl (lv_room (Nat.le_of_ble_eq_true rfl)) dL_law_418 ⟨by show cv + 1 ≤ 603072; omega, by show sv + 6 ≤ 7207018; omega⟩) hP hD hS hA [0, 1, 2, 3, 4, 5, 6, 7, 8, 9, 10, 11, 12, 13, 14, 15, 17] (by decide) rfl rfl rfl rfl (fun H locs hP hD hS => ?_)
  refine lv_istore (lv' := [(6, .int q3.1), (0, .ref b), (1, .ref (a o)), (2, .ref (ay oy)), (3, .ref (az oz)), (4, .ref (aw ow)), (5, .int i)]) hx hb dL_law_421 hl (by decide) rfl (fun ls hl => ?_)
  refine lv_aload_n hx hb dL_law_423 rfl (lv_at hl 3 rfl) ?_
  refine lv_aload_n hx hb dL_law_424 rfl (lv_at hl 1 rfl) ?_
  refine lv_iload hx hb dL_law_425 (lv_at hl 6 rfl) ?_
  refine lv_iconst (v := 1) hx hb dL_law_427 (by decide) ?_
  refine lv_iadd hx hb dL_law_428 ?_
  obtain ⟨g4, hF⟩ := q_gdi hF
  refine va_sld hx hb hX hbl hbA hS g4 dL_law_429 ?_
  refine lv_aload_n hx hb dL_law_430 rfl (lv_at hl 1 rfl) ?_
  refine lv_iload hx hb dL_law_431 (lv_at hl 6 rfl) ?_
  refine lv_iconst (v := 2) hx hb dL_law_433 (by decide) ?_
  refine lv_iadd hx hb dL_law_434 ?_
  obtain ⟨g5, hF⟩ := q_gdi hF
  refine va_sld hx hb hX hbl hbA hS g5 dL_law_435 ?_
  obtain ⟨q6, hq6, hF⟩ := q_bdi hF
  refine cl_i (Lc := [w_Model E ay oy y]) (Lc' := [w_Model E ay oy ((q6.2.1, q6.2.2.1, q6.2.2.2.1, q6.2.2.2.2.1, y.1.2.2.2.2), (y.2.1.1, y.2.1.2.1, y.2.1.2.2.1, y.2.1.2.2.2.1, y.2.1.2.2.2.2), (y.2.2.1.1, y.2.2.1.2.1, y.2.2.1.2.2.1, y.2.2.1.2.2.2), (q6.2.2.2.2.2, y.2.2.2.2.1, y.2.2.2.2.2.1, y.2.2.2.2.2.2))]) (L' := [w_VBR a o x.2.2.2.1 x.2.2.2.2.1 x.2.2.2.2.2, w_ValleyR a (o + 1), w_Key E a (o + 2) (q3.2.1, q3.2.2.1, q3.2.2.2.1), w_Bells E a (o + 3) (q3.2.2.2.2.1, q3.2.2.2.2.2.1, q3.2.2.2.2.2.2.1), w_Mel E a (o + 6) (q3.2.2.2.2.2.2.2.1, q3.2.2.2.2.2.2.2.2.1, q3.2.2.2.2.2.2.2.2.2.1), w_Cliffs E a (o + 10) (q3.2.2.2.2.2.2.2.2.2.2.1, q3.2.2.2.2.2.2.2.2.2.2.2.1, q3.2.2.2.2.2.2.2.2.2.2.2.2.1), w_ValleyR a (o + 13), w_Key E a (o + 14) x.1.2.1.1, w_Bells E a (o + 15) x.1.2.1.2.1, w_Mel E a (o + 18) x.1.2.1.2.2.1, w_Cliffs E a (o + 22) x.1.2.1.2.2.2, w_Prog E a (o + 25) x.1.2.2.2.1, w_Chord E a (o + 31) x.1.2.2.2.2, w_Key E a (o + 34) x.2.1, w_Line E a (o + 35) x.2.2.1, w_Hist E a (o + 37) (q3.2.2.2.2.2.2.2.2.2.2.2.2.2.1, q3.2.2.2.2.2.2.2.2.2.2.2.2.2.2.1, q3.2.2.2.2.2.2.2.2.2.2.2.2.2.2.2.1), w_Model E ay oy ((q6.2.1, q6.2.2.1, q6.2.2.2.1, q6.2.2.2.2.1, y.1.2.2.2.2), (y.2.1.1, y.2.1.2.1, y.2.1.2.2.1, y.2.1.2.2.2.1, y.2.1.2.2.2.2), (y.2.2.1.1, y.2.2.1.2.1, y.2.2.1.2.2.1, y.2.2.1.2.2.2), (q6.2.2.2.2.2, y.2.2.2.2.1, y.2.2.2.2.2.1, y.2.2.2.2.2.2)), w_LongArr E az oz q3.2.2.2.2.2.2.2.2.2.2.2.2.2.2.2.2, w_DblArr E aw ow w]) (rv := q6.1) (va_runV (As := [.int (xs (i + 1).toNatClampNeg), .int (xs (i + 2).toNatClampNeg)]) (rest := []) ⟨hx, hb, hml, hown, ha⟩ (k_X11_tune l E ay oy y (xs (i + 1).toNatClampNeg) (xs (i + 2).toNatClampNeg) q6 hq6 H.size) (cwV 2 ha (gi_V (fun _ h => h) mw1744 mw1745 mw1746 mw87 mw1747) rfl rfl rfl hv_X11_tune ⟨(Nat.le_of_ble_eq_true rfl), (Nat.le_of_ble_eq_true rfl)⟩) ⟨pre_blind, va_recv hst.k (fr_P hP [16] rfl) (ci := 13) (q0 := 0) rfl rfl, pre_at hP hD hS hz hzs hst [16] (by decide) rfl rfl⟩ rfl rfl hl.1 rfl (lv_room (Nat.le_of_ble_eq_true rfl)) dL_law_436 ⟨by show cv + 1 + 0 ≤ 603072; omega, by show sv + 6 + 0 ≤ 7207018; omega⟩) hP hD hS hA [16] (by decide) rfl rfl rfl rfl (fun H locs hP hD hS => ?_)
  refine lv_istore (lv' := [(7, .int q6.1), (6, .int q3.1), (0, .ref b), (1, .ref (a o)), (2, .ref (ay oy)), (3, .ref (az oz)), (4, .ref (aw ow)), (5, .int i)]) hx hb dL_law_439 hl (by decide) rfl (fun ls hl => ?_)
  refine lv_aload_n hx hb dL_law_441 rfl (lv_at hl 4 rfl) ?_
  obtain ⟨q7, hq7, hF⟩ := q_bdi hF
  refine cl_i (Lc := [w_Model E ay oy ((q6.2.1, q6.2.2.1, q6.2.2.2.1, q6.2.2.2.2.1, y.1.2.2.2.2), (y.2.1.1, y.2.1.2.1, y.2.1.2.2.1, y.2.1.2.2.2.1, y.2.1.2.2.2.2), (y.2.2.1.1, y.2.2.1.2.1, y.2.2.1.2.2.1, y.2.2.1.2.2.2), (q6.2.2.2.2.2, y.2.2.2.2.1, y.2.2.2.2.2.1, y.2.2.2.2.2.2))]) (Lc' := [w_Model E ay oy ((q6.2.1, q6.2.2.1, q6.2.2.2.1, q6.2.2.2.2.1, y.1.2.2.2.2), (y.2.1.1, y.2.1.2.1, y.2.1.2.2.1, y.2.1.2.2.2.1, y.2.1.2.2.2.2), (y.2.2.1.1, y.2.2.1.2.1, y.2.2.1.2.2.1, y.2.2.1.2.2.2), (q6.2.2.2.2.2, y.2.2.2.2.1, y.2.2.2.2.2.1, y.2.2.2.2.2.2))]) (L' := [w_VBR a o x.2.2.2.1 x.2.2.2.2.1 x.2.2.2.2.2, w_ValleyR a (o + 1), w_Key E a (o + 2) (q3.2.1, q3.2.2.1, q3.2.2.2.1), w_Bells E a (o + 3) (q3.2.2.2.2.1, q3.2.2.2.2.2.1, q3.2.2.2.2.2.2.1), w_Mel E a (o + 6) (q3.2.2.2.2.2.2.2.1, q3.2.2.2.2.2.2.2.2.1, q3.2.2.2.2.2.2.2.2.2.1), w_Cliffs E a (o + 10) (q3.2.2.2.2.2.2.2.2.2.2.1, q3.2.2.2.2.2.2.2.2.2.2.2.1, q3.2.2.2.2.2.2.2.2.2.2.2.2.1), w_ValleyR a (o + 13), w_Key E a (o + 14) x.1.2.1.1, w_Bells E a (o + 15) x.1.2.1.2.1, w_Mel E a (o + 18) x.1.2.1.2.2.1, w_Cliffs E a (o + 22) x.1.2.1.2.2.2, w_Prog E a (o + 25) x.1.2.2.2.1, w_Chord E a (o + 31) x.1.2.2.2.2, w_Key E a (o + 34) x.2.1, w_Line E a (o + 35) x.2.2.1, w_Hist E a (o + 37) (q3.2.2.2.2.2.2.2.2.2.2.2.2.2.1, q3.2.2.2.2.2.2.2.2.2.2.2.2.2.2.1, q3.2.2.2.2.2.2.2.2.2.2.2.2.2.2.2.1), w_Model E ay oy ((q6.2.1, q6.2.2.1, q6.2.2.2.1, q6.2.2.2.2.1, y.1.2.2.2.2), (y.2.1.1, y.2.1.2.1, y.2.1.2.2.1, y.2.1.2.2.2.1, y.2.1.2.2.2.2), (y.2.2.1.1, y.2.2.1.2.1, y.2.2.1.2.2.1, y.2.2.1.2.2.2), (q6.2.2.2.2.2, y.2.2.2.2.1, y.2.2.2.2.2.1, y.2.2.2.2.2.2)), w_LongArr E az oz q3.2.2.2.2.2.2.2.2.2.2.2.2.2.2.2.2, w_DblArr E aw ow w]) (rv := q7) (va_runV (As := []) (rest := []) ⟨hx, hb, hml, hown, ha⟩ (k_X11_thrown l E ay oy ((q6.2.1, q6.2.2.1, q6.2.2.2.1, q6.2.2.2.2.1, y.1.2.2.2.2), (y.2.1.1, y.2.1.2.1, y.2.1.2.2.1, y.2.1.2.2.2.1, y.2.1.2.2.2.2), (y.2.2.1.1, y.2.2.1.2.1, y.2.2.1.2.2.1, y.2.2.1.2.2.2), (q6.2.2.2.2.2, y.2.2.2.2.1, y.2.2.2.2.2.1, y.2.2.2.2.2.2)) q7 hq7 H.size) (cwV 0 ha (gi_V (fun _ h => h) mw1691 mw1692 mw1693 mw87 mw1694) rfl rfl rfl hv_X11_thrown ⟨(Nat.le_of_ble_eq_true rfl), (Nat.le_of_ble_eq_true rfl)⟩) ⟨pre_blind, va_recv hst.k (fr_P hP [16] rfl) (ci := 13) (q0 := 0) rfl rfl, pre_at hP hD hS hz hzs hst [16] (by decide) rfl rfl⟩ rfl rfl hl.1 rfl (lv_room (Nat.le_of_ble_eq_true rfl)) dL_law_442 ⟨by show cv + 1 + 0 ≤ 603072; omega, by show sv + 6 + 0 ≤ 7207018; omega⟩) hP hD hS hA [16] (by decide) rfl rfl rfl rfl (fun H locs hP hD hS => ?_)
  refine lv_iload hx hb dL_law_445 (lv_at hl 1 rfl) ?_
  refine lv_icmp_eq (tgt := 452) hx hb dL_law_447 (by decide) (fun c447 => ?_) (fun c447 => ?_)
  · have hF := q_brp c447 hF
    refine lv_iload hx hb dL_law_452 (lv_at hl 1 rfl) ?_
    refine lv_if_ne (tgt := 469) hx hb dL_law_454 (by decide) (fun c454 => ?_) (fun c454 => ?_)
    · have hF := q_brn c454 hF
      refine lv_goto (tgt := 2881) hx hb dL_law_469 (by decide) ?_
      obtain rfl := Option.some.inj hF
      refine W.widen (k := cv + 60) (n := sv + 5100) (by omega) (by omega) ?_
      exact hK H locs ls hP hD hS (lv_sub hl [2, 3, 4, 5, 6, 7] rfl)
    · have hF := q_brp c454 hF
      refine lv_aload_n hx hb dL_law_457 rfl (lv_at hl 5 rfl) ?_
      refine lv_iconst (v := 0) hx hb dL_law_458 (by decide) ?_
      refine vi_lald hx hb hst.k hP 156 3 rfl rfl (f := q3.2.2.2.2.2.2.2.2.2.2.2.2.2.2.2.2) (k := 0) (by decide) (by decide) dL_law_459 ?_
      refine lv_iload hx hb dL_law_460 (lv_at hl 0 rfl) ?_
      refine lv_i2l hx hb dL_law_462 rfl ?_
      refine W.lcmp hx hb dL_law_463 ?_
      refine lv_if_eq (tgt := 469) hx hb dL_law_464 (by decide) (fun c464 => ?_) (fun c464 => ?_)
      · have hF := q_brp c464 hF
        refine lv_goto (tgt := 2881) hx hb dL_law_469 (by decide) ?_
        obtain rfl := Option.some.inj hF
        refine W.widen (k := cv + 60) (n := sv + 5100) (by omega) (by omega) ?_
        exact hK H locs ls hP hD hS (lv_sub hl [2, 3, 4, 5, 6, 7] rfl)
      · have hF := q_brn c464 hF
        exact absurd hF (by simp)
  · have hF := q_brn c447 hF
    exact absurd hF (by simp)
def f_c2 (x : VB_t) (y : Model_t) (z : Nat → Int64) (w : Nat → UInt64) (xs : Nat → Int32) (n : Nat) (i : Int32) : Option (VB_t × Model_t × (Nat → Int64) × (Nat → UInt64)) := q_bd (f_case2 x.1.1.1.1 x.1.1.1.2.1 x.1.1.1.2.2 x.1.1.2.1.1 x.1.1.2.1.2.1 x.1.1.2.1.2.2 x.1.1.2.2.1.1 x.1.1.2.2.1.2.1 x.1.1.2.2.1.2.2 x.1.1.2.2.2.1 x.1.1.2.2.2.2.1 x.1.1.2.2.2.2.2 x.1.2.2.1.1 x.1.2.2.1.2.1 x.1.2.2.1.2.2 y.1.1 y.1.2.1 y.1.2.2.1 y.1.2.2.2.1 y.2.2.2.1 z xs n i) (fun res => some (((((res.1, res.2.1, res.2.2.1), (res.2.2.2.1, res.2.2.2.2.1, res.2.2.2.2.2.1), (res.2.2.2.2.2.2.1, res.2.2.2.2.2.2.2.1, res.2.2.2.2.2.2.2.2.1), (res.2.2.2.2.2.2.2.2.2.1, res.2.2.2.2.2.2.2.2.2.2.1, res.2.2.2.2.2.2.2.2.2.2.2.1)), x.1.2.1, (res.2.2.2.2.2.2.2.2.2.2.2.2.1, res.2.2.2.2.2.2.2.2.2.2.2.2.2.1, res.2.2.2.2.2.2.2.2.2.2.2.2.2.2.1), x.1.2.2.2.1, x.1.2.2.2.2), (x.2.1, x.2.2.1, x.2.2.2.1, x.2.2.2.2.1, x.2.2.2.2.2)), ((res.2.2.2.2.2.2.2.2.2.2.2.2.2.2.2.1, res.2.2.2.2.2.2.2.2.2.2.2.2.2.2.2.2.1, res.2.2.2.2.2.2.2.2.2.2.2.2.2.2.2.2.2.1, res.2.2.2.2.2.2.2.2.2.2.2.2.2.2.2.2.2.2.1, y.1.2.2.2.2), (y.2.1.1, y.2.1.2.1, y.2.1.2.2.1, y.2.1.2.2.2.1, y.2.1.2.2.2.2), (y.2.2.1.1, y.2.2.1.2.1, y.2.2.1.2.2.1, y.2.2.1.2.2.2), (res.2.2.2.2.2.2.2.2.2.2.2.2.2.2.2.2.2.2.2.1, y.2.2.2.2.1, y.2.2.2.2.2.1, y.2.2.2.2.2.2)), res.2.2.2.2.2.2.2.2.2.2.2.2.2.2.2.2.2.2.2.2, w))
/-! case 3 -/
theorem dL_law_472 : decode cL_law 472 = .ok (.aload_n 1, 1) := by decide +kernel
theorem dL_law_473 : decode cL_law 473 = .ok (.aload_n 0, 1) := by decide +kernel
theorem dL_law_474 : decode cL_law 474 = .ok (.iload 5, 2) := by decide +kernel
theorem dL_law_476 : decode cL_law 476 = .ok (.iconst 1, 1) := by decide +kernel
theorem dL_law_477 : decode cL_law 477 = .ok (.iadd, 1) := by decide +kernel
theorem dL_law_478 : decode cL_law 478 = .ok (.iaload, 1) := by decide +kernel
theorem dL_law_479 : decode cL_law 479 = .ok (.aload_n 0, 1) := by decide +kernel
theorem dL_law_480 : decode cL_law 480 = .ok (.iload 5, 2) := by decide +kernel
theorem dL_law_482 : decode cL_law 482 = .ok (.iconst 2, 1) := by decide +kernel
theorem dL_law_483 : decode cL_law 483 = .ok (.iadd, 1) := by decide +kernel
theorem dL_law_484 : decode cL_law 484 = .ok (.iaload, 1) := by decide +kernel
theorem dL_law_485 : decode cL_law 485 = .ok (.aload_n 3, 1) := by decide +kernel
theorem dL_law_486 : decode cL_law 486 = .ok (.invokestatic 170, 3) := by decide +kernel
theorem dL_law_489 : decode cL_law 489 = .ok (.istore 6, 2) := by decide +kernel
theorem dL_law_491 : decode cL_law 491 = .ok (.aload_n 2, 1) := by decide +kernel
theorem dL_law_492 : decode cL_law 492 = .ok (.aload_n 0, 1) := by decide +kernel
theorem dL_law_493 : decode cL_law 493 = .ok (.iload 5, 2) := by decide +kernel
theorem dL_law_495 : decode cL_law 495 = .ok (.iconst 1, 1) := by decide +kernel
theorem dL_law_496 : decode cL_law 496 = .ok (.iadd, 1) := by decide +kernel
theorem dL_law_497 : decode cL_law 497 = .ok (.iaload, 1) := by decide +kernel
theorem dL_law_498 : decode cL_law 498 = .ok (.aload_n 0, 1) := by decide +kernel
theorem dL_law_499 : decode cL_law 499 = .ok (.iload 5, 2) := by decide +kernel
theorem dL_law_501 : decode cL_law 501 = .ok (.iconst 2, 1) := by decide +kernel
theorem dL_law_502 : decode cL_law 502 = .ok (.iadd, 1) := by decide +kernel
theorem dL_law_503 : decode cL_law 503 = .ok (.iaload, 1) := by decide +kernel
theorem dL_law_504 : decode cL_law 504 = .ok (.invokevirtual 172, 3) := by decide +kernel
theorem dL_law_507 : decode cL_law 507 = .ok (.istore 7, 2) := by decide +kernel
theorem dL_law_509 : decode cL_law 509 = .ok (.aload_n 2, 1) := by decide +kernel
theorem dL_law_510 : decode cL_law 510 = .ok (.invokevirtual 160, 3) := by decide +kernel
theorem dL_law_513 : decode cL_law 513 = .ok (.iload 6, 2) := by decide +kernel
theorem dL_law_515 : decode cL_law 515 = .ok (.if_icmp .eq 5, 3) := by decide +kernel
theorem dL_law_520 : decode cL_law 520 = .ok (.iload 6, 2) := by decide +kernel
theorem dL_law_522 : decode cL_law 522 = .ok (.ifCond .ne 15, 3) := by decide +kernel
theorem dL_law_525 : decode cL_law 525 = .ok (.aload_n 3, 1) := by decide +kernel
theorem dL_law_526 : decode cL_law 526 = .ok (.iconst 0, 1) := by decide +kernel
theorem dL_law_527 : decode cL_law 527 = .ok (.laload, 1) := by decide +kernel
theorem dL_law_528 : decode cL_law 528 = .ok (.iload 7, 2) := by decide +kernel
theorem dL_law_530 : decode cL_law 530 = .ok (.i2l, 1) := by decide +kernel
theorem dL_law_531 : decode cL_law 531 = .ok (.lcmp, 1) := by decide +kernel
theorem dL_law_532 : decode cL_law 532 = .ok (.ifCond .eq 5, 3) := by decide +kernel
theorem dL_law_537 : decode cL_law 537 = .ok (.goto 2344, 3) := by decide +kernel
def f_case3 (x_valley_key_tonic : Int32) (x_valley_key_isMinor : Int32) (x_valley_key_tolerance : Int32) (x_valley_bells_herds : (Nat → Int32)) (x_valley_bells_pitches : (Nat → Int32)) (x_valley_bells_count : Int32) (x_valley_melodies_lengths : (Nat → Int32)) (x_valley_melodies_entries : (Nat → Int32)) (x_valley_melodies_tones : (Nat → Int32)) (x_valley_cliffs_delays : (Nat → Int32)) (x_valley_cliffs_transpositions : (Nat → Int32)) (x_valley_cliffs_count : Int32) (x_history_slots : (Nat → Valley_t)) (x_history_current : Int32) (x_history_count : Int32) (y_g : (Nat → Int32)) (y_before : (Nat → Int32)) (y_history : (Nat → Int32)) (y_changes : Int32) (y_thrown : Int32) (z_v : (Nat → Int64)) (xs : (Nat → Int32)) (n : Nat) (i : Int32) : Option (Int32 × Int32 × Int32 × (Nat → Int32) × (Nat → Int32) × Int32 × (Nat → Int32) × (Nat → Int32) × (Nat → Int32) × (Nat → Int32) × (Nat → Int32) × Int32 × (Nat → Valley_t) × Int32 × Int32 × (Nat → Int32) × (Nat → Int32) × (Nat → Int32) × Int32 × Int32 × (Nat → Int64)) :=
  q_gd (q_in (i + 1) n) (
  q_gd (q_in (i + 2) n) (
  q_bd (f_L_moveBell x_valley_key_tonic x_valley_key_isMinor x_valley_key_tolerance x_valley_bells_herds x_valley_bells_pitches x_valley_bells_count x_valley_melodies_lengths x_valley_melodies_entries x_valley_melodies_tones x_valley_cliffs_delays x_valley_cliffs_transpositions x_valley_cliffs_count x_history_slots x_history_current x_history_count z_v (xs (i + 1).toNatClampNeg) (xs (i + 2).toNatClampNeg)) (fun q3 =>
  q_gd (q_in (i + 1) n) (
  q_gd (q_in (i + 2) n) (
  q_bd (f_X11_moveBell y_g y_before y_history y_changes y_thrown (xs (i + 1).toNatClampNeg) (xs (i + 2).toNatClampNeg)) (fun q6 =>
  q_bd (f_X11_thrown q6.2.2.2.2.2) (fun q7 =>
  q_br (q7 = q3.1) (
  q_br (q3.1 = 0) (
  q_br ((lg_cmp (q3.2.2.2.2.2.2.2.2.2.2.2.2.2.2.2.2 0) (q6.1.toInt64)) = 0) (
  some (q3.2.1, q3.2.2.1, q3.2.2.2.1, q3.2.2.2.2.1, q3.2.2.2.2.2.1, q3.2.2.2.2.2.2.1, q3.2.2.2.2.2.2.2.1, q3.2.2.2.2.2.2.2.2.1, q3.2.2.2.2.2.2.2.2.2.1, q3.2.2.2.2.2.2.2.2.2.2.1, q3.2.2.2.2.2.2.2.2.2.2.2.1, q3.2.2.2.2.2.2.2.2.2.2.2.2.1, q3.2.2.2.2.2.2.2.2.2.2.2.2.2.1, q3.2.2.2.2.2.2.2.2.2.2.2.2.2.2.1, q3.2.2.2.2.2.2.2.2.2.2.2.2.2.2.2.1, q6.2.1, q6.2.2.1, q6.2.2.2.1, q6.2.2.2.2.1, q6.2.2.2.2.2, q3.2.2.2.2.2.2.2.2.2.2.2.2.2.2.2.2)) (
  none)) (
  some (q3.2.1, q3.2.2.1, q3.2.2.2.1, q3.2.2.2.2.1, q3.2.2.2.2.2.1, q3.2.2.2.2.2.2.1, q3.2.2.2.2.2.2.2.1, q3.2.2.2.2.2.2.2.2.1, q3.2.2.2.2.2.2.2.2.2.1, q3.2.2.2.2.2.2.2.2.2.2.1, q3.2.2.2.2.2.2.2.2.2.2.2.1, q3.2.2.2.2.2.2.2.2.2.2.2.2.1, q3.2.2.2.2.2.2.2.2.2.2.2.2.2.1, q3.2.2.2.2.2.2.2.2.2.2.2.2.2.2.1, q3.2.2.2.2.2.2.2.2.2.2.2.2.2.2.2.1, q6.2.1, q6.2.2.1, q6.2.2.2.1, q6.2.2.2.2.1, q6.2.2.2.2.2, q3.2.2.2.2.2.2.2.2.2.2.2.2.2.2.2.2))) (
  none))))))))
set_option maxHeartbeats 4000000 in
set_option maxRecDepth 100000 in
theorem kc_3 {p : Program} {e : Env} {s : State} {m : MethodId} {args : Array Value} {below : List Frame} {meth : Method} {c : Code} {Q : State → Prop} {A : Nat → Prop} (l : Launch) (hlt : l.stackTraces = false) (E : ET) (a : Nat → Nat) (o : Nat) (x : VB_t) (ay : Nat → Nat) (oy : Nat) (y : Model_t) (az : Nat → Nat) (oz : Nat) (z : Nat → Int64) (aw : Nat → Nat) (ow : Nat) (w : Nat → UInt64) (b n : Nat) (xs : Nat → Int32) (i : Int32) (hx : p.tables.exec = Jvm.exec) (hb : c.code = cL_law) (hml : c.maxLocals = 9) (hown : s.vm.findClass RL = some m.cls) (ha : ∀ w ∈ lw_all, w.before args s = true) (hA : ∀ q, s.heap.size ≤ q → A q) (hz : ∀ q, A q → E.2 0 ≤ q) (hzs : E.2 0 ≤ s.heap.size) (hst : ST E s) (hX : va_X b n xs s s.heap) (hbl : b < s.heap.size) (hbA : ¬ A b) (res : Int32 × Int32 × Int32 × (Nat → Int32) × (Nat → Int32) × Int32 × (Nat → Int32) × (Nat → Int32) × (Nat → Int32) × (Nat → Int32) × (Nat → Int32) × Int32 × (Nat → Valley_t) × Int32 × Int32 × (Nat → Int32) × (Nat → Int32) × (Nat → Int32) × Int32 × Int32 × (Nat → Int64)) (hF : f_case3 x.1.1.1.1 x.1.1.1.2.1 x.1.1.1.2.2 x.1.1.2.1.1 x.1.1.2.1.2.1 x.1.1.2.1.2.2 x.1.1.2.2.1.1 x.1.1.2.2.1.2.1 x.1.1.2.2.1.2.2 x.1.1.2.2.2.1 x.1.1.2.2.2.2.1 x.1.1.2.2.2.2.2 x.1.2.2.1.1 x.1.2.2.1.2.1 x.1.2.2.1.2.2 y.1.1 y.1.2.1 y.1.2.2.1 y.1.2.2.2.1 y.2.2.2.1 z xs n i = some res) {H : Heap} {locs : List Loc} {ls : Array Slot} {cv sv : Nat} (hcv : cv + 60 ≤ 603072) (hsv : sv + 5100 ≤ 7207018) (hP : va_P E.1 vwCl (List.flatten [w_VBR a o x.2.2.2.1 x.2.2.2.2.1 x.2.2.2.2.2, w_ValleyR a (o + 1), w_Key E a (o + 2) x.1.1.1, w_Bells E a (o + 3) x.1.1.2.1, w_Mel E a (o + 6) x.1.1.2.2.1, w_Cliffs E a (o + 10) x.1.1.2.2.2, w_ValleyR a (o + 13), w_Key E a (o + 14) x.1.2.1.1, w_Bells E a (o + 15) x.1.2.1.2.1, w_Mel E a (o + 18) x.1.2.1.2.2.1, w_Cliffs E a (o + 22) x.1.2.1.2.2.2, w_Prog E a (o + 25) x.1.2.2.2.1, w_Chord E a (o + 31) x.1.2.2.2.2, w_Key E a (o + 34) x.2.1, w_Line E a (o + 35) x.2.2.1, w_Hist E a (o + 37) x.1.2.2.1, w_Model E ay oy y, w_LongArr E az oz z, w_DblArr E aw ow w]) H) (hD : va_D A (List.flatten [w_VBR a o x.2.2.2.1 x.2.2.2.2.1 x.2.2.2.2.2, w_ValleyR a (o + 1), w_Key E a (o + 2) x.1.1.1, w_Bells E a (o + 3) x.1.1.2.1, w_Mel E a (o + 6) x.1.1.2.2.1, w_Cliffs E a (o + 10) x.1.1.2.2.2, w_ValleyR a (o + 13), w_Key E a (o + 14) x.1.2.1.1, w_Bells E a (o + 15) x.1.2.1.2.1, w_Mel E a (o + 18) x.1.2.1.2.2.1, w_Cliffs E a (o + 22) x.1.2.1.2.2.2, w_Prog E a (o + 25) x.1.2.2.2.1, w_Chord E a (o + 31) x.1.2.2.2.2, w_Key E a (o + 34) x.2.1, w_Line E a (o + 35) x.2.2.1, w_Hist E a (o + 37) x.1.2.2.1, w_Model E ay oy y, w_LongArr E az oz z, w_DblArr E aw ow w])) (hS : va_S A s.heap H locs) (hl : lv_has ls 9 [(0, .ref b), (1, .ref (a o)), (2, .ref (ay oy)), (3, .ref (az oz)), (4, .ref (aw ow)), (5, .int i)])
    (hK : ∀ (H : Heap) (locs : List Loc) (ls : Array Slot), va_P E.1 vwCl (List.flatten (bl_VB E a o ((((res.1, res.2.1, res.2.2.1), (res.2.2.2.1, res.2.2.2.2.1, res.2.2.2.2.2.1), (res.2.2.2.2.2.2.1, res.2.2.2.2.2.2.2.1, res.2.2.2.2.2.2.2.2.1), (res.2.2.2.2.2.2.2.2.2.1, res.2.2.2.2.2.2.2.2.2.2.1, res.2.2.2.2.2.2.2.2.2.2.2.1)), x.1.2.1, (res.2.2.2.2.2.2.2.2.2.2.2.2.1, res.2.2.2.2.2.2.2.2.2.2.2.2.2.1, res.2.2.2.2.2.2.2.2.2.2.2.2.2.2.1), x.1.2.2.2.1, x.1.2.2.2.2), (x.2.1, x.2.2.1, x.2.2.2.1, x.2.2.2.2.1, x.2.2.2.2.2)) ++ (bl_Model E ay oy ((res.2.2.2.2.2.2.2.2.2.2.2.2.2.2.2.1, res.2.2.2.2.2.2.2.2.2.2.2.2.2.2.2.2.1, res.2.2.2.2.2.2.2.2.2.2.2.2.2.2.2.2.2.1, res.2.2.2.2.2.2.2.2.2.2.2.2.2.2.2.2.2.2.1, y.1.2.2.2.2), (y.2.1.1, y.2.1.2.1, y.2.1.2.2.1, y.2.1.2.2.2.1, y.2.1.2.2.2.2), (y.2.2.1.1, y.2.2.1.2.1, y.2.2.1.2.2.1, y.2.2.1.2.2.2), (res.2.2.2.2.2.2.2.2.2.2.2.2.2.2.2.2.2.2.2.1, y.2.2.2.2.1, y.2.2.2.2.2.1, y.2.2.2.2.2.2)) ++ (bl_LongArr E az oz res.2.2.2.2.2.2.2.2.2.2.2.2.2.2.2.2.2.2.2.2 ++ bl_DblArr E aw ow w)))) H → va_D A (List.flatten (bl_VB E a o ((((res.1, res.2.1, res.2.2.1), (res.2.2.2.1, res.2.2.2.2.1, res.2.2.2.2.2.1), (res.2.2.2.2.2.2.1, res.2.2.2.2.2.2.2.1, res.2.2.2.2.2.2.2.2.1), (res.2.2.2.2.2.2.2.2.2.1, res.2.2.2.2.2.2.2.2.2.2.1, res.2.2.2.2.2.2.2.2.2.2.2.1)), x.1.2.1, (res.2.2.2.2.2.2.2.2.2.2.2.2.1, res.2.2.2.2.2.2.2.2.2.2.2.2.2.1, res.2.2.2.2.2.2.2.2.2.2.2.2.2.2.1), x.1.2.2.2.1, x.1.2.2.2.2), (x.2.1, x.2.2.1, x.2.2.2.1, x.2.2.2.2.1, x.2.2.2.2.2)) ++ (bl_Model E ay oy ((res.2.2.2.2.2.2.2.2.2.2.2.2.2.2.2.1, res.2.2.2.2.2.2.2.2.2.2.2.2.2.2.2.2.1, res.2.2.2.2.2.2.2.2.2.2.2.2.2.2.2.2.2.1, res.2.2.2.2.2.2.2.2.2.2.2.2.2.2.2.2.2.2.1, y.1.2.2.2.2), (y.2.1.1, y.2.1.2.1, y.2.1.2.2.1, y.2.1.2.2.2.1, y.2.1.2.2.2.2), (y.2.2.1.1, y.2.2.1.2.1, y.2.2.1.2.2.1, y.2.2.1.2.2.2), (res.2.2.2.2.2.2.2.2.2.2.2.2.2.2.2.2.2.2.2.1, y.2.2.2.2.1, y.2.2.2.2.2.1, y.2.2.2.2.2.2)) ++ (bl_LongArr E az oz res.2.2.2.2.2.2.2.2.2.2.2.2.2.2.2.2.2.2.2.2 ++ bl_DblArr E aw ow w)))) → va_S A s.heap H locs → lv_has ls 9 [(0, .ref b), (1, .ref (a o)), (2, .ref (ay oy)), (3, .ref (az oz)), (4, .ref (aw ow)), (5, .int i)] → W p l e room_1 s m args below meth c H locs (cv + 60) (sv + 5100) Q (F0 m 2881 ls [])) : W p l e room_1 s m args below meth c H locs cv sv Q (F0 m 472 ls []) := by
  unfold f_case3 at hF
  refine lv_aload_n hx hb dL_law_472 rfl (lv_at hl 1 rfl) ?_
  refine lv_aload_n hx hb dL_law_473 rfl (lv_at hl 0 rfl) ?_
  refine lv_iload hx hb dL_law_474 (lv_at hl 5 rfl) ?_
  refine lv_iconst (v := 1) hx hb dL_law_476 (by decide) ?_
  refine lv_iadd hx hb dL_law_477 ?_
  obtain ⟨g1, hF⟩ := q_gdi hF
  refine va_sld hx hb hX hbl hbA hS g1 dL_law_478 ?_
  refine lv_aload_n hx hb dL_law_479 rfl (lv_at hl 0 rfl) ?_
  refine lv_iload hx hb dL_law_480 (lv_at hl 5 rfl) ?_
  refine lv_iconst (v := 2) hx hb dL_law_482 (by decide) ?_
  refine lv_iadd hx hb dL_law_483 ?_
  obtain ⟨g2, hF⟩ := q_gdi hF
  refine va_sld hx hb hX hbl hbA hS g2 dL_law_484 ?_
  refine lv_aload_n hx hb dL_law_485 rfl (lv_at hl 3 rfl) ?_
  have hP : va_P E.1 vwCl (List.flatten [w_VBR a o x.2.2.2.1 x.2.2.2.2.1 x.2.2.2.2.2, w_ValleyR a (o + 1), w_Key E a (o + 2) x.1.1.1, w_Bells E a (o + 3) x.1.1.2.1, w_Mel E a (o + 6) x.1.1.2.2.1, w_Cliffs E a (o + 10) x.1.1.2.2.2, w_ValleyR a (o + 13), w_Key E a (o + 14) x.1.2.1.1, w_Bells E a (o + 15) x.1.2.1.2.1, w_Mel E a (o + 18) x.1.2.1.2.2.1, w_Cliffs E a (o + 22) x.1.2.1.2.2.2, w_Prog E a (o + 25) x.1.2.2.2.1, w_Chord E a (o + 31) x.1.2.2.2.2, w_Key E a (o + 34) x.2.1, w_Line E a (o + 35) x.2.2.1, w_Hist E a (o + 37) x.1.2.2.1, w_Model E ay oy y, w_LongArr E az oz z, w_DblArr E aw ow w]) H := hP
  have hD : va_D A (List.flatten [w_VBR a o x.2.2.2.1 x.2.2.2.2.1 x.2.2.2.2.2, w_ValleyR a (o + 1), w_Key E a (o + 2) x.1.1.1, w_Bells E a (o + 3) x.1.1.2.1, w_Mel E a (o + 6) x.1.1.2.2.1, w_Cliffs E a (o + 10) x.1.1.2.2.2, w_ValleyR a (o + 13), w_Key E a (o + 14) x.1.2.1.1, w_Bells E a (o + 15) x.1.2.1.2.1, w_Mel E a (o + 18) x.1.2.1.2.2.1, w_Cliffs E a (o + 22) x.1.2.1.2.2.2, w_Prog E a (o + 25) x.1.2.2.2.1, w_Chord E a (o + 31) x.1.2.2.2.2, w_Key E a (o + 34) x.2.1, w_Line E a (o + 35) x.2.2.1, w_Hist E a (o + 37) x.1.2.2.1, w_Model E ay oy y, w_LongArr E az oz z, w_DblArr E aw ow w]) := hD
  obtain ⟨q3, hq3, hF⟩ := q_bdi hF
  refine cl_i (Lc := [w_VBR a o x.2.2.2.1 x.2.2.2.2.1 x.2.2.2.2.2, w_ValleyR a (o + 1), w_Key E a (o + 2) x.1.1.1, w_Bells E a (o + 3) x.1.1.2.1, w_Mel E a (o + 6) x.1.1.2.2.1, w_Cliffs E a (o + 10) x.1.1.2.2.2, w_ValleyR a (o + 13), w_Key E a (o + 14) x.1.2.1.1, w_Bells E a (o + 15) x.1.2.1.2.1, w_Mel E a (o + 18) x.1.2.1.2.2.1, w_Cliffs E a (o + 22) x.1.2.1.2.2.2, w_Prog E a (o + 25) x.1.2.2.2.1, w_Chord E a (o + 31) x.1.2.2.2.2, w_Key E a (o + 34) x.2.1, w_Line E a (o + 35) x.2.2.1, w_Hist E a (o + 37) x.1.2.2.1, w_LongArr E az oz z]) (Lc' := [w_VBR a o x.2.2.2.1 x.2.2.2.2.1 x.2.2.2.2.2, w_ValleyR a (o + 1), w_Key E a (o + 2) (q3.2.1, q3.2.2.1, q3.2.2.2.1), w_Bells E a (o + 3) (q3.2.2.2.2.1, q3.2.2.2.2.2.1, q3.2.2.2.2.2.2.1), w_Mel E a (o + 6) (q3.2.2.2.2.2.2.2.1, q3.2.2.2.2.2.2.2.2.1, q3.2.2.2.2.2.2.2.2.2.1), w_Cliffs E a (o + 10) (q3.2.2.2.2.2.2.2.2.2.2.1, q3.2.2.2.2.2.2.2.2.2.2.2.1, q3.2.2.2.2.2.2.2.2.2.2.2.2.1), w_ValleyR a (o + 13), w_Key E a (o + 14) x.1.2.1.1, w_Bells E a (o + 15) x.1.2.1.2.1, w_Mel E a (o + 18) x.1.2.1.2.2.1, w_Cliffs E a (o + 22) x.1.2.1.2.2.2, w_Prog E a (o + 25) x.1.2.2.2.1, w_Chord E a (o + 31) x.1.2.2.2.2, w_Key E a (o + 34) x.2.1, w_Line E a (o + 35) x.2.2.1, w_Hist E a (o + 37) (q3.2.2.2.2.2.2.2.2.2.2.2.2.2.1, q3.2.2.2.2.2.2.2.2.2.2.2.2.2.2.1, q3.2.2.2.2.2.2.2.2.2.2.2.2.2.2.2.1), w_LongArr E az oz q3.2.2.2.2.2.2.2.2.2.2.2.2.2.2.2.2]) (L' := [w_VBR a o x.2.2.2.1 x.2.2.2.2.1 x.2.2.2.2.2, w_ValleyR a (o + 1), w_Key E a (o + 2) (q3.2.1, q3.2.2.1, q3.2.2.2.1), w_Bells E a (o + 3) (q3.2.2.2.2.1, q3.2.2.2.2.2.1, q3.2.2.2.2.2.2.1), w_Mel E a (o + 6) (q3.2.2.2.2.2.2.2.1, q3.2.2.2.2.2.2.2.2.1, q3.2.2.2.2.2.2.2.2.2.1), w_Cliffs E a (o + 10) (q3.2.2.2.2.2.2.2.2.2.2.1, q3.2.2.2.2.2.2.2.2.2.2.2.1, q3.2.2.2.2.2.2.2.2.2.2.2.2.1), w_ValleyR a (o + 13), w_Key E a (o + 14) x.1.2.1.1, w_Bells E a (o + 15) x.1.2.1.2.1, w_Mel E a (o + 18) x.1.2.1.2.2.1, w_Cliffs E a (o + 22) x.1.2.1.2.2.2, w_Prog E a (o + 25) x.1.2.2.2.1, w_Chord E a (o + 31) x.1.2.2.2.2, w_Key E a (o + 34) x.2.1, w_Line E a (o + 35) x.2.2.1, w_Hist E a (o + 37) (q3.2.2.2.2.2.2.2.2.2.2.2.2.2.1, q3.2.2.2.2.2.2.2.2.2.2.2.2.2.2.1, q3.2.2.2.2.2.2.2.2.2.2.2.2.2.2.2.1), w_Model E ay oy y, w_LongArr E az oz q3.2.2.2.2.2.2.2.2.2.2.2.2.2.2.2.2, w_DblArr E aw ow w]) (rv := q3.1) (vx_runSW (As := [.ref (a o), .int (xs (i + 1).toNatClampNeg), .int (xs (i + 2).toNatClampNeg), .ref (az oz)]) (rest := []) ⟨hx, hb, hml, hown, ha⟩ (k_L_moveBell l E a o x az oz z (xs (i + 1).toNatClampNeg) (xs (i + 2).toNatClampNeg) q3 hq3 H.size hlt) (vx_cwSW 4 ha (gi_TH (fun _ h => h) mw1122 mw1123 mw73 mw1124) rfl rfl rfl hv_L_moveBell.2 ⟨(Nat.le_of_ble_eq_true rfl), (Nat.le_of_ble_eq_true rfl)⟩) ⟨pre_blind, pre_at hP hD hS hz hzs hst [0, 1, 2, 3, 4, 5, 6, 7, 8, 9, 10, 11, 12, 13, 14, 15, 17] (by decide) rfl rfl⟩ rfl rfl hl.1 rfl (lv_room (Nat.le_of_ble_eq_true rfl)) dL_law_486 ⟨by show cv + 1 ≤ 603072; omega, by show sv + 6 ≤ 7207018; omega⟩) hP hD hS hA [0, 1, 2, 3, 4, 5, 6, 7, 8, 9, 10, 11, 12, 13, 14, 15, 17] (by decide) rfl rfl rfl rfl (fun H locs hP hD hS => ?_)
  refine lv_istore (lv' := [(6, .int q3.1), (0, .ref b), (1, .ref (a o)), (2, .ref (ay oy)), (3, .ref (az oz)), (4, .ref (aw ow)), (5, .int i)]) hx hb dL_law_489 hl (by decide) rfl (fun ls hl => ?_)
  refine lv_aload_n hx hb dL_law_491 rfl (lv_at hl 3 rfl) ?_
  refine lv_aload_n hx hb dL_law_492 rfl (lv_at hl 1 rfl) ?_
  refine lv_iload hx hb dL_law_493 (lv_at hl 6 rfl) ?_
  refine lv_iconst (v := 1) hx hb dL_law_495 (by decide) ?_
  refine lv_iadd hx hb dL_law_496 ?_
  obtain ⟨g4, hF⟩ := q_gdi hF
  refine va_sld hx hb hX hbl hbA hS g4 dL_law_497 ?_
  refine lv_aload_n hx hb dL_law_498 rfl (lv_at hl 1 rfl) ?_
  refine lv_iload hx hb dL_law_499 (lv_at hl 6 rfl) ?_
  refine lv_iconst (v := 2) hx hb dL_law_501 (by decide) ?_
  refine lv_iadd hx hb dL_law_502 ?_
  obtain ⟨g5, hF⟩ := q_gdi hF
  refine va_sld hx hb hX hbl hbA hS g5 dL_law_503 ?_
  obtain ⟨q6, hq6, hF⟩ := q_bdi hF
  refine cl_i (Lc := [w_Model E ay oy y]) (Lc' := [w_Model E ay oy ((q6.2.1, q6.2.2.1, q6.2.2.2.1, q6.2.2.2.2.1, y.1.2.2.2.2), (y.2.1.1, y.2.1.2.1, y.2.1.2.2.1, y.2.1.2.2.2.1, y.2.1.2.2.2.2), (y.2.2.1.1, y.2.2.1.2.1, y.2.2.1.2.2.1, y.2.2.1.2.2.2), (q6.2.2.2.2.2, y.2.2.2.2.1, y.2.2.2.2.2.1, y.2.2.2.2.2.2))]) (L' := [w_VBR a o x.2.2.2.1 x.2.2.2.2.1 x.2.2.2.2.2, w_ValleyR a (o + 1), w_Key E a (o + 2) (q3.2.1, q3.2.2.1, q3.2.2.2.1), w_Bells E a (o + 3) (q3.2.2.2.2.1, q3.2.2.2.2.2.1, q3.2.2.2.2.2.2.1), w_Mel E a (o + 6) (q3.2.2.2.2.2.2.2.1, q3.2.2.2.2.2.2.2.2.1, q3.2.2.2.2.2.2.2.2.2.1), w_Cliffs E a (o + 10) (q3.2.2.2.2.2.2.2.2.2.2.1, q3.2.2.2.2.2.2.2.2.2.2.2.1, q3.2.2.2.2.2.2.2.2.2.2.2.2.1), w_ValleyR a (o + 13), w_Key E a (o + 14) x.1.2.1.1, w_Bells E a (o + 15) x.1.2.1.2.1, w_Mel E a (o + 18) x.1.2.1.2.2.1, w_Cliffs E a (o + 22) x.1.2.1.2.2.2, w_Prog E a (o + 25) x.1.2.2.2.1, w_Chord E a (o + 31) x.1.2.2.2.2, w_Key E a (o + 34) x.2.1, w_Line E a (o + 35) x.2.2.1, w_Hist E a (o + 37) (q3.2.2.2.2.2.2.2.2.2.2.2.2.2.1, q3.2.2.2.2.2.2.2.2.2.2.2.2.2.2.1, q3.2.2.2.2.2.2.2.2.2.2.2.2.2.2.2.1), w_Model E ay oy ((q6.2.1, q6.2.2.1, q6.2.2.2.1, q6.2.2.2.2.1, y.1.2.2.2.2), (y.2.1.1, y.2.1.2.1, y.2.1.2.2.1, y.2.1.2.2.2.1, y.2.1.2.2.2.2), (y.2.2.1.1, y.2.2.1.2.1, y.2.2.1.2.2.1, y.2.2.1.2.2.2), (q6.2.2.2.2.2, y.2.2.2.2.1, y.2.2.2.2.2.1, y.2.2.2.2.2.2)), w_LongArr E az oz q3.2.2.2.2.2.2.2.2.2.2.2.2.2.2.2.2, w_DblArr E aw ow w]) (rv := q6.1) (va_runV (As := [.int (xs (i + 1).toNatClampNeg), .int (xs (i + 2).toNatClampNeg)]) (rest := []) ⟨hx, hb, hml, hown, ha⟩ (k_X11_moveBell l E ay oy y (xs (i + 1).toNatClampNeg) (xs (i + 2).toNatClampNeg) q6 hq6 H.size) (cwV 2 ha (gi_V (fun _ h => h) mw1752 mw1753 mw1754 mw87 mw1755) rfl rfl rfl hv_X11_moveBell ⟨(Nat.le_of_ble_eq_true rfl), (Nat.le_of_ble_eq_true rfl)⟩) ⟨pre_blind, va_recv hst.k (fr_P hP [16] rfl) (ci := 13) (q0 := 0) rfl rfl, pre_at hP hD hS hz hzs hst [16] (by decide) rfl rfl⟩ rfl rfl hl.1 rfl (lv_room (Nat.le_of_ble_eq_true rfl)) dL_law_504 ⟨by show cv + 1 + 0 ≤ 603072; omega, by show sv + 6 + 0 ≤ 7207018; omega⟩) hP hD hS hA [16] (by decide) rfl rfl rfl rfl (fun H locs hP hD hS => ?_)
  refine lv_istore (lv' := [(7, .int q6.1), (6, .int q3.1), (0, .ref b), (1, .ref (a o)), (2, .ref (ay oy)), (3, .ref (az oz)), (4, .ref (aw ow)), (5, .int i)]) hx hb dL_law_507 hl (by decide) rfl (fun ls hl => ?_)
  refine lv_aload_n hx hb dL_law_509 rfl (lv_at hl 4 rfl) ?_
  obtain ⟨q7, hq7, hF⟩ := q_bdi hF
  refine cl_i (Lc := [w_Model E ay oy ((q6.2.1, q6.2.2.1, q6.2.2.2.1, q6.2.2.2.2.1, y.1.2.2.2.2), (y.2.1.1, y.2.1.2.1, y.2.1.2.2.1, y.2.1.2.2.2.1, y.2.1.2.2.2.2), (y.2.2.1.1, y.2.2.1.2.1, y.2.2.1.2.2.1, y.2.2.1.2.2.2), (q6.2.2.2.2.2, y.2.2.2.2.1, y.2.2.2.2.2.1, y.2.2.2.2.2.2))]) (Lc' := [w_Model E ay oy ((q6.2.1, q6.2.2.1, q6.2.2.2.1, q6.2.2.2.2.1, y.1.2.2.2.2), (y.2.1.1, y.2.1.2.1, y.2.1.2.2.1, y.2.1.2.2.2.1, y.2.1.2.2.2.2), (y.2.2.1.1, y.2.2.1.2.1, y.2.2.1.2.2.1, y.2.2.1.2.2.2), (q6.2.2.2.2.2, y.2.2.2.2.1, y.2.2.2.2.2.1, y.2.2.2.2.2.2))]) (L' := [w_VBR a o x.2.2.2.1 x.2.2.2.2.1 x.2.2.2.2.2, w_ValleyR a (o + 1), w_Key E a (o + 2) (q3.2.1, q3.2.2.1, q3.2.2.2.1), w_Bells E a (o + 3) (q3.2.2.2.2.1, q3.2.2.2.2.2.1, q3.2.2.2.2.2.2.1), w_Mel E a (o + 6) (q3.2.2.2.2.2.2.2.1, q3.2.2.2.2.2.2.2.2.1, q3.2.2.2.2.2.2.2.2.2.1), w_Cliffs E a (o + 10) (q3.2.2.2.2.2.2.2.2.2.2.1, q3.2.2.2.2.2.2.2.2.2.2.2.1, q3.2.2.2.2.2.2.2.2.2.2.2.2.1), w_ValleyR a (o + 13), w_Key E a (o + 14) x.1.2.1.1, w_Bells E a (o + 15) x.1.2.1.2.1, w_Mel E a (o + 18) x.1.2.1.2.2.1, w_Cliffs E a (o + 22) x.1.2.1.2.2.2, w_Prog E a (o + 25) x.1.2.2.2.1, w_Chord E a (o + 31) x.1.2.2.2.2, w_Key E a (o + 34) x.2.1, w_Line E a (o + 35) x.2.2.1, w_Hist E a (o + 37) (q3.2.2.2.2.2.2.2.2.2.2.2.2.2.1, q3.2.2.2.2.2.2.2.2.2.2.2.2.2.2.1, q3.2.2.2.2.2.2.2.2.2.2.2.2.2.2.2.1), w_Model E ay oy ((q6.2.1, q6.2.2.1, q6.2.2.2.1, q6.2.2.2.2.1, y.1.2.2.2.2), (y.2.1.1, y.2.1.2.1, y.2.1.2.2.1, y.2.1.2.2.2.1, y.2.1.2.2.2.2), (y.2.2.1.1, y.2.2.1.2.1, y.2.2.1.2.2.1, y.2.2.1.2.2.2), (q6.2.2.2.2.2, y.2.2.2.2.1, y.2.2.2.2.2.1, y.2.2.2.2.2.2)), w_LongArr E az oz q3.2.2.2.2.2.2.2.2.2.2.2.2.2.2.2.2, w_DblArr E aw ow w]) (rv := q7) (va_runV (As := []) (rest := []) ⟨hx, hb, hml, hown, ha⟩ (k_X11_thrown l E ay oy ((q6.2.1, q6.2.2.1, q6.2.2.2.1, q6.2.2.2.2.1, y.1.2.2.2.2), (y.2.1.1, y.2.1.2.1, y.2.1.2.2.1, y.2.1.2.2.2.1, y.2.1.2.2.2.2), (y.2.2.1.1, y.2.2.1.2.1, y.2.2.1.2.2.1, y.2.2.1.2.2.2), (q6.2.2.2.2.2, y.2.2.2.2.1, y.2.2.2.2.2.1, y.2.2.2.2.2.2)) q7 hq7 H.size) (cwV 0 ha (gi_V (fun _ h => h) mw1691 mw1692 mw1693 mw87 mw1694) rfl rfl rfl hv_X11_thrown ⟨(Nat.le_of_ble_eq_true rfl), (Nat.le_of_ble_eq_true rfl)⟩) ⟨pre_blind, va_recv hst.k (fr_P hP [16] rfl) (ci := 13) (q0 := 0) rfl rfl, pre_at hP hD hS hz hzs hst [16] (by decide) rfl rfl⟩ rfl rfl hl.1 rfl (lv_room (Nat.le_of_ble_eq_true rfl)) dL_law_510 ⟨by show cv + 1 + 0 ≤ 603072; omega, by show sv + 6 + 0 ≤ 7207018; omega⟩) hP hD hS hA [16] (by decide) rfl rfl rfl rfl (fun H locs hP hD hS => ?_)
  refine lv_iload hx hb dL_law_513 (lv_at hl 1 rfl) ?_
  refine lv_icmp_eq (tgt := 520) hx hb dL_law_515 (by decide) (fun c515 => ?_) (fun c515 => ?_)
  · have hF := q_brp c515 hF
    refine lv_iload hx hb dL_law_520 (lv_at hl 1 rfl) ?_
    refine lv_if_ne (tgt := 537) hx hb dL_law_522 (by decide) (fun c522 => ?_) (fun c522 => ?_)
    · have hF := q_brn c522 hF
      refine lv_goto (tgt := 2881) hx hb dL_law_537 (by decide) ?_
      obtain rfl := Option.some.inj hF
      refine W.widen (k := cv + 60) (n := sv + 5100) (by omega) (by omega) ?_
      exact hK H locs ls hP hD hS (lv_sub hl [2, 3, 4, 5, 6, 7] rfl)
    · have hF := q_brp c522 hF
      refine lv_aload_n hx hb dL_law_525 rfl (lv_at hl 5 rfl) ?_
      refine lv_iconst (v := 0) hx hb dL_law_526 (by decide) ?_
      refine vi_lald hx hb hst.k hP 156 3 rfl rfl (f := q3.2.2.2.2.2.2.2.2.2.2.2.2.2.2.2.2) (k := 0) (by decide) (by decide) dL_law_527 ?_
      refine lv_iload hx hb dL_law_528 (lv_at hl 0 rfl) ?_
      refine lv_i2l hx hb dL_law_530 rfl ?_
      refine W.lcmp hx hb dL_law_531 ?_
      refine lv_if_eq (tgt := 537) hx hb dL_law_532 (by decide) (fun c532 => ?_) (fun c532 => ?_)
      · have hF := q_brp c532 hF
        refine lv_goto (tgt := 2881) hx hb dL_law_537 (by decide) ?_
        obtain rfl := Option.some.inj hF
        refine W.widen (k := cv + 60) (n := sv + 5100) (by omega) (by omega) ?_
        exact hK H locs ls hP hD hS (lv_sub hl [2, 3, 4, 5, 6, 7] rfl)
      · have hF := q_brn c532 hF
        exact absurd hF (by simp)
  · have hF := q_brn c515 hF
    exact absurd hF (by simp)
def f_c3 (x : VB_t) (y : Model_t) (z : Nat → Int64) (w : Nat → UInt64) (xs : Nat → Int32) (n : Nat) (i : Int32) : Option (VB_t × Model_t × (Nat → Int64) × (Nat → UInt64)) := q_bd (f_case3 x.1.1.1.1 x.1.1.1.2.1 x.1.1.1.2.2 x.1.1.2.1.1 x.1.1.2.1.2.1 x.1.1.2.1.2.2 x.1.1.2.2.1.1 x.1.1.2.2.1.2.1 x.1.1.2.2.1.2.2 x.1.1.2.2.2.1 x.1.1.2.2.2.2.1 x.1.1.2.2.2.2.2 x.1.2.2.1.1 x.1.2.2.1.2.1 x.1.2.2.1.2.2 y.1.1 y.1.2.1 y.1.2.2.1 y.1.2.2.2.1 y.2.2.2.1 z xs n i) (fun res => some (((((res.1, res.2.1, res.2.2.1), (res.2.2.2.1, res.2.2.2.2.1, res.2.2.2.2.2.1), (res.2.2.2.2.2.2.1, res.2.2.2.2.2.2.2.1, res.2.2.2.2.2.2.2.2.1), (res.2.2.2.2.2.2.2.2.2.1, res.2.2.2.2.2.2.2.2.2.2.1, res.2.2.2.2.2.2.2.2.2.2.2.1)), x.1.2.1, (res.2.2.2.2.2.2.2.2.2.2.2.2.1, res.2.2.2.2.2.2.2.2.2.2.2.2.2.1, res.2.2.2.2.2.2.2.2.2.2.2.2.2.2.1), x.1.2.2.2.1, x.1.2.2.2.2), (x.2.1, x.2.2.1, x.2.2.2.1, x.2.2.2.2.1, x.2.2.2.2.2)), ((res.2.2.2.2.2.2.2.2.2.2.2.2.2.2.2.1, res.2.2.2.2.2.2.2.2.2.2.2.2.2.2.2.2.1, res.2.2.2.2.2.2.2.2.2.2.2.2.2.2.2.2.2.1, res.2.2.2.2.2.2.2.2.2.2.2.2.2.2.2.2.2.2.1, y.1.2.2.2.2), (y.2.1.1, y.2.1.2.1, y.2.1.2.2.1, y.2.1.2.2.2.1, y.2.1.2.2.2.2), (y.2.2.1.1, y.2.2.1.2.1, y.2.2.1.2.2.1, y.2.2.1.2.2.2), (res.2.2.2.2.2.2.2.2.2.2.2.2.2.2.2.2.2.2.2.1, y.2.2.2.2.1, y.2.2.2.2.2.1, y.2.2.2.2.2.2)), res.2.2.2.2.2.2.2.2.2.2.2.2.2.2.2.2.2.2.2.2, w))
/-! case 4 -/
theorem dL_law_540 : decode cL_law 540 = .ok (.aload_n 1, 1) := by decide +kernel
theorem dL_law_541 : decode cL_law 541 = .ok (.aload_n 0, 1) := by decide +kernel
theorem dL_law_542 : decode cL_law 542 = .ok (.iload 5, 2) := by decide +kernel
theorem dL_law_544 : decode cL_law 544 = .ok (.iconst 1, 1) := by decide +kernel
theorem dL_law_545 : decode cL_law 545 = .ok (.iadd, 1) := by decide +kernel
theorem dL_law_546 : decode cL_law 546 = .ok (.iaload, 1) := by decide +kernel
theorem dL_law_547 : decode cL_law 547 = .ok (.aload_n 0, 1) := by decide +kernel
theorem dL_law_548 : decode cL_law 548 = .ok (.iload 5, 2) := by decide +kernel
theorem dL_law_550 : decode cL_law 550 = .ok (.iconst 2, 1) := by decide +kernel
theorem dL_law_551 : decode cL_law 551 = .ok (.iadd, 1) := by decide +kernel
theorem dL_law_552 : decode cL_law 552 = .ok (.iaload, 1) := by decide +kernel
theorem dL_law_553 : decode cL_law 553 = .ok (.aload_n 3, 1) := by decide +kernel
theorem dL_law_554 : decode cL_law 554 = .ok (.invokestatic 173, 3) := by decide +kernel
theorem dL_law_557 : decode cL_law 557 = .ok (.istore 6, 2) := by decide +kernel
theorem dL_law_559 : decode cL_law 559 = .ok (.aload_n 2, 1) := by decide +kernel
theorem dL_law_560 : decode cL_law 560 = .ok (.aload_n 0, 1) := by decide +kernel
theorem dL_law_561 : decode cL_law 561 = .ok (.iload 5, 2) := by decide +kernel
theorem dL_law_563 : decode cL_law 563 = .ok (.iconst 1, 1) := by decide +kernel
theorem dL_law_564 : decode cL_law 564 = .ok (.iadd, 1) := by decide +kernel
theorem dL_law_565 : decode cL_law 565 = .ok (.iaload, 1) := by decide +kernel
theorem dL_law_566 : decode cL_law 566 = .ok (.aload_n 0, 1) := by decide +kernel
theorem dL_law_567 : decode cL_law 567 = .ok (.iload 5, 2) := by decide +kernel
theorem dL_law_569 : decode cL_law 569 = .ok (.iconst 2, 1) := by decide +kernel
theorem dL_law_570 : decode cL_law 570 = .ok (.iadd, 1) := by decide +kernel
theorem dL_law_571 : decode cL_law 571 = .ok (.iaload, 1) := by decide +kernel
theorem dL_law_572 : decode cL_law 572 = .ok (.invokevirtual 175, 3) := by decide +kernel
theorem dL_law_575 : decode cL_law 575 = .ok (.istore 7, 2) := by decide +kernel
theorem dL_law_577 : decode cL_law 577 = .ok (.aload_n 2, 1) := by decide +kernel
theorem dL_law_578 : decode cL_law 578 = .ok (.invokevirtual 160, 3) := by decide +kernel
theorem dL_law_581 : decode cL_law 581 = .ok (.iload 6, 2) := by decide +kernel
theorem dL_law_583 : decode cL_law 583 = .ok (.if_icmp .eq 5, 3) := by decide +kernel
theorem dL_law_588 : decode cL_law 588 = .ok (.iload 6, 2) := by decide +kernel
theorem dL_law_590 : decode cL_law 590 = .ok (.ifCond .ne 15, 3) := by decide +kernel
theorem dL_law_593 : decode cL_law 593 = .ok (.aload_n 3, 1) := by decide +kernel
theorem dL_law_594 : decode cL_law 594 = .ok (.iconst 0, 1) := by decide +kernel
theorem dL_law_595 : decode cL_law 595 = .ok (.laload, 1) := by decide +kernel
theorem dL_law_596 : decode cL_law 596 = .ok (.iload 7, 2) := by decide +kernel
theorem dL_law_598 : decode cL_law 598 = .ok (.i2l, 1) := by decide +kernel
theorem dL_law_599 : decode cL_law 599 = .ok (.lcmp, 1) := by decide +kernel
theorem dL_law_600 : decode cL_law 600 = .ok (.ifCond .eq 5, 3) := by decide +kernel
theorem dL_law_605 : decode cL_law 605 = .ok (.goto 2276, 3) := by decide +kernel
def f_case4 (x_valley_key_tonic : Int32) (x_valley_key_isMinor : Int32) (x_valley_key_tolerance : Int32) (x_valley_bells_herds : (Nat → Int32)) (x_valley_bells_pitches : (Nat → Int32)) (x_valley_bells_count : Int32) (x_valley_melodies_lengths : (Nat → Int32)) (x_valley_melodies_entries : (Nat → Int32)) (x_valley_melodies_tones : (Nat → Int32)) (x_valley_cliffs_delays : (Nat → Int32)) (x_valley_cliffs_transpositions : (Nat → Int32)) (x_valley_cliffs_count : Int32) (x_history_slots : (Nat → Valley_t)) (x_history_current : Int32) (x_history_count : Int32) (y_g : (Nat → Int32)) (y_before : (Nat → Int32)) (y_history : (Nat → Int32)) (y_changes : Int32) (y_thrown : Int32) (z_v : (Nat → Int64)) (xs : (Nat → Int32)) (n : Nat) (i : Int32) : Option (Int32 × Int32 × Int32 × (Nat → Int32) × (Nat → Int32) × Int32 × (Nat → Int32) × (Nat → Int32) × (Nat → Int32) × (Nat → Int32) × (Nat → Int32) × Int32 × (Nat → Valley_t) × Int32 × Int32 × (Nat → Int32) × (Nat → Int32) × (Nat → Int32) × Int32 × Int32 × (Nat → Int64)) :=
  q_gd (q_in (i + 1) n) (
  q_gd (q_in (i + 2) n) (
  q_bd (f_L_graze x_valley_key_tonic x_valley_key_isMinor x_valley_key_tolerance x_valley_bells_herds x_valley_bells_pitches x_valley_bells_count x_valley_melodies_lengths x_valley_melodies_entries x_valley_melodies_tones x_valley_cliffs_delays x_valley_cliffs_transpositions x_valley_cliffs_count x_history_slots x_history_current x_history_count z_v (xs (i + 1).toNatClampNeg) (xs (i + 2).toNatClampNeg)) (fun q3 =>
  q_gd (q_in (i + 1) n) (
  q_gd (q_in (i + 2) n) (
  q_bd (f_X11_graze y_g y_before y_history y_changes y_thrown (xs (i + 1).toNatClampNeg) (xs (i + 2).toNatClampNeg)) (fun q6 =>
  q_bd (f_X11_thrown q6.2.2.2.2.2) (fun q7 =>
  q_br (q7 = q3.1) (
  q_br (q3.1 = 0) (
  q_br ((lg_cmp (q3.2.2.2.2.2.2.2.2.2.2.2.2.2.2.2.2 0) (q6.1.toInt64)) = 0) (
  some (q3.2.1, q3.2.2.1, q3.2.2.2.1, q3.2.2.2.2.1, q3.2.2.2.2.2.1, q3.2.2.2.2.2.2.1, q3.2.2.2.2.2.2.2.1, q3.2.2.2.2.2.2.2.2.1, q3.2.2.2.2.2.2.2.2.2.1, q3.2.2.2.2.2.2.2.2.2.2.1, q3.2.2.2.2.2.2.2.2.2.2.2.1, q3.2.2.2.2.2.2.2.2.2.2.2.2.1, q3.2.2.2.2.2.2.2.2.2.2.2.2.2.1, q3.2.2.2.2.2.2.2.2.2.2.2.2.2.2.1, q3.2.2.2.2.2.2.2.2.2.2.2.2.2.2.2.1, q6.2.1, q6.2.2.1, q6.2.2.2.1, q6.2.2.2.2.1, q6.2.2.2.2.2, q3.2.2.2.2.2.2.2.2.2.2.2.2.2.2.2.2)) (
  none)) (
  some (q3.2.1, q3.2.2.1, q3.2.2.2.1, q3.2.2.2.2.1, q3.2.2.2.2.2.1, q3.2.2.2.2.2.2.1, q3.2.2.2.2.2.2.2.1, q3.2.2.2.2.2.2.2.2.1, q3.2.2.2.2.2.2.2.2.2.1, q3.2.2.2.2.2.2.2.2.2.2.1, q3.2.2.2.2.2.2.2.2.2.2.2.1, q3.2.2.2.2.2.2.2.2.2.2.2.2.1, q3.2.2.2.2.2.2.2.2.2.2.2.2.2.1, q3.2.2.2.2.2.2.2.2.2.2.2.2.2.2.1, q3.2.2.2.2.2.2.2.2.2.2.2.2.2.2.2.1, q6.2.1, q6.2.2.1, q6.2.2.2.1, q6.2.2.2.2.1, q6.2.2.2.2.2, q3.2.2.2.2.2.2.2.2.2.2.2.2.2.2.2.2))) (
  none))))))))
set_option maxHeartbeats 4000000 in
set_option maxRecDepth 100000 in
theorem kc_4 {p : Program} {e : Env} {s : State} {m : MethodId} {args : Array Value} {below : List Frame} {meth : Method} {c : Code} {Q : State → Prop} {A : Nat → Prop} (l : Launch) (hlt : l.stackTraces = false) (E : ET) (a : Nat → Nat) (o : Nat) (x : VB_t) (ay : Nat → Nat) (oy : Nat) (y : Model_t) (az : Nat → Nat) (oz : Nat) (z : Nat → Int64) (aw : Nat → Nat) (ow : Nat) (w : Nat → UInt64) (b n : Nat) (xs : Nat → Int32) (i : Int32) (hx : p.tables.exec = Jvm.exec) (hb : c.code = cL_law) (hml : c.maxLocals = 9) (hown : s.vm.findClass RL = some m.cls) (ha : ∀ w ∈ lw_all, w.before args s = true) (hA : ∀ q, s.heap.size ≤ q → A q) (hz : ∀ q, A q → E.2 0 ≤ q) (hzs : E.2 0 ≤ s.heap.size) (hst : ST E s) (hX : va_X b n xs s s.heap) (hbl : b < s.heap.size) (hbA : ¬ A b) (res : Int32 × Int32 × Int32 × (Nat → Int32) × (Nat → Int32) × Int32 × (Nat → Int32) × (Nat → Int32) × (Nat → Int32) × (Nat → Int32) × (Nat → Int32) × Int32 × (Nat → Valley_t) × Int32 × Int32 × (Nat → Int32) × (Nat → Int32) × (Nat → Int32) × Int32 × Int32 × (Nat → Int64)) (hF : f_case4 x.1.1.1.1 x.1.1.1.2.1 x.1.1.1.2.2 x.1.1.2.1.1 x.1.1.2.1.2.1 x.1.1.2.1.2.2 x.1.1.2.2.1.1 x.1.1.2.2.1.2.1 x.1.1.2.2.1.2.2 x.1.1.2.2.2.1 x.1.1.2.2.2.2.1 x.1.1.2.2.2.2.2 x.1.2.2.1.1 x.1.2.2.1.2.1 x.1.2.2.1.2.2 y.1.1 y.1.2.1 y.1.2.2.1 y.1.2.2.2.1 y.2.2.2.1 z xs n i = some res) {H : Heap} {locs : List Loc} {ls : Array Slot} {cv sv : Nat} (hcv : cv + 60 ≤ 603072) (hsv : sv + 5100 ≤ 7207018) (hP : va_P E.1 vwCl (List.flatten [w_VBR a o x.2.2.2.1 x.2.2.2.2.1 x.2.2.2.2.2, w_ValleyR a (o + 1), w_Key E a (o + 2) x.1.1.1, w_Bells E a (o + 3) x.1.1.2.1, w_Mel E a (o + 6) x.1.1.2.2.1, w_Cliffs E a (o + 10) x.1.1.2.2.2, w_ValleyR a (o + 13), w_Key E a (o + 14) x.1.2.1.1, w_Bells E a (o + 15) x.1.2.1.2.1, w_Mel E a (o + 18) x.1.2.1.2.2.1, w_Cliffs E a (o + 22) x.1.2.1.2.2.2, w_Prog E a (o + 25) x.1.2.2.2.1, w_Chord E a (o + 31) x.1.2.2.2.2, w_Key E a (o + 34) x.2.1, w_Line E a (o + 35) x.2.2.1, w_Hist E a (o + 37) x.1.2.2.1, w_Model E ay oy y, w_LongArr E az oz z, w_DblArr E aw ow w]) H) (hD : va_D A (List.flatten [w_VBR a o x.2.2.2.1 x.2.2.2.2.1 x.2.2.2.2.2, w_ValleyR a (o + 1), w_Key E a (o + 2) x.1.1.1, w_Bells E a (o + 3) x.1.1.2.1, w_Mel E a (o + 6) x.1.1.2.2.1, w_Cliffs E a (o + 10) x.1.1.2.2.2, w_ValleyR a (o + 13), w_Key E a (o + 14) x.1.2.1.1, w_Bells E a (o + 15) x.1.2.1.2.1, w_Mel E a (o + 18) x.1.2.1.2.2.1, w_Cliffs E a (o + 22) x.1.2.1.2.2.2, w_Prog E a (o + 25) x.1.2.2.2.1, w_Chord E a (o + 31) x.1.2.2.2.2, w_Key E a (o + 34) x.2.1, w_Line E a (o + 35) x.2.2.1, w_Hist E a (o + 37) x.1.2.2.1, w_Model E ay oy y, w_LongArr E az oz z, w_DblArr E aw ow w])) (hS : va_S A s.heap H locs) (hl : lv_has ls 9 [(0, .ref b), (1, .ref (a o)), (2, .ref (ay oy)), (3, .ref (az oz)), (4, .ref (aw ow)), (5, .int i)])
    (hK : ∀ (H : Heap) (locs : List Loc) (ls : Array Slot), va_P E.1 vwCl (List.flatten (bl_VB E a o ((((res.1, res.2.1, res.2.2.1), (res.2.2.2.1, res.2.2.2.2.1, res.2.2.2.2.2.1), (res.2.2.2.2.2.2.1, res.2.2.2.2.2.2.2.1, res.2.2.2.2.2.2.2.2.1), (res.2.2.2.2.2.2.2.2.2.1, res.2.2.2.2.2.2.2.2.2.2.1, res.2.2.2.2.2.2.2.2.2.2.2.1)), x.1.2.1, (res.2.2.2.2.2.2.2.2.2.2.2.2.1, res.2.2.2.2.2.2.2.2.2.2.2.2.2.1, res.2.2.2.2.2.2.2.2.2.2.2.2.2.2.1), x.1.2.2.2.1, x.1.2.2.2.2), (x.2.1, x.2.2.1, x.2.2.2.1, x.2.2.2.2.1, x.2.2.2.2.2)) ++ (bl_Model E ay oy ((res.2.2.2.2.2.2.2.2.2.2.2.2.2.2.2.1, res.2.2.2.2.2.2.2.2.2.2.2.2.2.2.2.2.1, res.2.2.2.2.2.2.2.2.2.2.2.2.2.2.2.2.2.1, res.2.2.2.2.2.2.2.2.2.2.2.2.2.2.2.2.2.2.1, y.1.2.2.2.2), (y.2.1.1, y.2.1.2.1, y.2.1.2.2.1, y.2.1.2.2.2.1, y.2.1.2.2.2.2), (y.2.2.1.1, y.2.2.1.2.1, y.2.2.1.2.2.1, y.2.2.1.2.2.2), (res.2.2.2.2.2.2.2.2.2.2.2.2.2.2.2.2.2.2.2.1, y.2.2.2.2.1, y.2.2.2.2.2.1, y.2.2.2.2.2.2)) ++ (bl_LongArr E az oz res.2.2.2.2.2.2.2.2.2.2.2.2.2.2.2.2.2.2.2.2 ++ bl_DblArr E aw ow w)))) H → va_D A (List.flatten (bl_VB E a o ((((res.1, res.2.1, res.2.2.1), (res.2.2.2.1, res.2.2.2.2.1, res.2.2.2.2.2.1), (res.2.2.2.2.2.2.1, res.2.2.2.2.2.2.2.1, res.2.2.2.2.2.2.2.2.1), (res.2.2.2.2.2.2.2.2.2.1, res.2.2.2.2.2.2.2.2.2.2.1, res.2.2.2.2.2.2.2.2.2.2.2.1)), x.1.2.1, (res.2.2.2.2.2.2.2.2.2.2.2.2.1, res.2.2.2.2.2.2.2.2.2.2.2.2.2.1, res.2.2.2.2.2.2.2.2.2.2.2.2.2.2.1), x.1.2.2.2.1, x.1.2.2.2.2), (x.2.1, x.2.2.1, x.2.2.2.1, x.2.2.2.2.1, x.2.2.2.2.2)) ++ (bl_Model E ay oy ((res.2.2.2.2.2.2.2.2.2.2.2.2.2.2.2.1, res.2.2.2.2.2.2.2.2.2.2.2.2.2.2.2.2.1, res.2.2.2.2.2.2.2.2.2.2.2.2.2.2.2.2.2.1, res.2.2.2.2.2.2.2.2.2.2.2.2.2.2.2.2.2.2.1, y.1.2.2.2.2), (y.2.1.1, y.2.1.2.1, y.2.1.2.2.1, y.2.1.2.2.2.1, y.2.1.2.2.2.2), (y.2.2.1.1, y.2.2.1.2.1, y.2.2.1.2.2.1, y.2.2.1.2.2.2), (res.2.2.2.2.2.2.2.2.2.2.2.2.2.2.2.2.2.2.2.1, y.2.2.2.2.1, y.2.2.2.2.2.1, y.2.2.2.2.2.2)) ++ (bl_LongArr E az oz res.2.2.2.2.2.2.2.2.2.2.2.2.2.2.2.2.2.2.2.2 ++ bl_DblArr E aw ow w)))) → va_S A s.heap H locs → lv_has ls 9 [(0, .ref b), (1, .ref (a o)), (2, .ref (ay oy)), (3, .ref (az oz)), (4, .ref (aw ow)), (5, .int i)] → W p l e room_1 s m args below meth c H locs (cv + 60) (sv + 5100) Q (F0 m 2881 ls [])) : W p l e room_1 s m args below meth c H locs cv sv Q (F0 m 540 ls []) := by
  unfold f_case4 at hF
  refine lv_aload_n hx hb dL_law_540 rfl (lv_at hl 1 rfl) ?_
  refine lv_aload_n hx hb dL_law_541 rfl (lv_at hl 0 rfl) ?_
  refine lv_iload hx hb dL_law_542 (lv_at hl 5 rfl) ?_
  refine lv_iconst (v := 1) hx hb dL_law_544 (by decide) ?_
  refine lv_iadd hx hb dL_law_545 ?_
  obtain ⟨g1, hF⟩ := q_gdi hF
  refine va_sld hx hb hX hbl hbA hS g1 dL_law_546 ?_
  refine lv_aload_n hx hb dL_law_547 rfl (lv_at hl 0 rfl) ?_
  refine lv_iload hx hb dL_law_548 (lv_at hl 5 rfl) ?_
  refine lv_iconst (v := 2) hx hb dL_law_550 (by decide) ?_
  refine lv_iadd hx hb dL_law_551 ?_
  obtain ⟨g2, hF⟩ := q_gdi hF
  refine va_sld hx hb hX hbl hbA hS g2 dL_law_552 ?_
  refine lv_aload_n hx hb dL_law_553 rfl (lv_at hl 3 rfl) ?_
  have hP : va_P E.1 vwCl (List.flatten [w_VBR a o x.2.2.2.1 x.2.2.2.2.1 x.2.2.2.2.2, w_ValleyR a (o + 1), w_Key E a (o + 2) x.1.1.1, w_Bells E a (o + 3) x.1.1.2.1, w_Mel E a (o + 6) x.1.1.2.2.1, w_Cliffs E a (o + 10) x.1.1.2.2.2, w_ValleyR a (o + 13), w_Key E a (o + 14) x.1.2.1.1, w_Bells E a (o + 15) x.1.2.1.2.1, w_Mel E a (o + 18) x.1.2.1.2.2.1, w_Cliffs E a (o + 22) x.1.2.1.2.2.2, w_Prog E a (o + 25) x.1.2.2.2.1, w_Chord E a (o + 31) x.1.2.2.2.2, w_Key E a (o + 34) x.2.1, w_Line E a (o + 35) x.2.2.1, w_Hist E a (o + 37) x.1.2.2.1, w_Model E ay oy y, w_LongArr E az oz z, w_DblArr E aw ow w]) H := hP
  have hD : va_D A (List.flatten [w_VBR a o x.2.2.2.1 x.2.2.2.2.1 x.2.2.2.2.2, w_ValleyR a (o + 1), w_Key E a (o + 2) x.1.1.1, w_Bells E a (o + 3) x.1.1.2.1, w_Mel E a (o + 6) x.1.1.2.2.1, w_Cliffs E a (o + 10) x.1.1.2.2.2, w_ValleyR a (o + 13), w_Key E a (o + 14) x.1.2.1.1, w_Bells E a (o + 15) x.1.2.1.2.1, w_Mel E a (o + 18) x.1.2.1.2.2.1, w_Cliffs E a (o + 22) x.1.2.1.2.2.2, w_Prog E a (o + 25) x.1.2.2.2.1, w_Chord E a (o + 31) x.1.2.2.2.2, w_Key E a (o + 34) x.2.1, w_Line E a (o + 35) x.2.2.1, w_Hist E a (o + 37) x.1.2.2.1, w_Model E ay oy y, w_LongArr E az oz z, w_DblArr E aw ow w]) := hD
  obtain ⟨q3, hq3, hF⟩ := q_bdi hF
  refine cl_i (Lc := [w_VBR a o x.2.2.2.1 x.2.2.2.2.1 x.2.2.2.2.2, w_ValleyR a (o + 1), w_Key E a (o + 2) x.1.1.1, w_Bells E a (o + 3) x.1.1.2.1, w_Mel E a (o + 6) x.1.1.2.2.1, w_Cliffs E a (o + 10) x.1.1.2.2.2, w_ValleyR a (o + 13), w_Key E a (o + 14) x.1.2.1.1, w_Bells E a (o + 15) x.1.2.1.2.1, w_Mel E a (o + 18) x.1.2.1.2.2.1, w_Cliffs E a (o + 22) x.1.2.1.2.2.2, w_Prog E a (o + 25) x.1.2.2.2.1, w_Chord E a (o + 31) x.1.2.2.2.2, w_Key E a (o + 34) x.2.1, w_Line E a (o + 35) x.2.2.1, w_Hist E a (o + 37) x.1.2.2.1, w_LongArr E az oz z]) (Lc' := [w_VBR a o x.2.2.2.1 x.2.2.2.2.1 x.2.2.2.2.2, w_ValleyR a (o + 1), w_Key E a (o + 2) (q3.2.1, q3.2.2.1, q3.2.2.2.1), w_Bells E a (o + 3) (q3.2.2.2.2.1, q3.2.2.2.2.2.1, q3.2.2.2.2.2.2.1), w_Mel E a (o + 6) (q3.2.2.2.2.2.2.2.1, q3.2.2.2.2.2.2.2.2.1, q3.2.2.2.2.2.2.2.2.2.1), w_Cliffs E a (o + 10) (q3.2.2.2.2.2.2.2.2.2.2.1, q3.2.2.2.2.2.2.2.2.2.2.2.1, q3.2.2.2.2.2.2.2.2.2.2.2.2.1), w_ValleyR a (o + 13), w_Key E a (o + 14) x.1.2.1.1, w_Bells E a (o + 15) x.1.2.1.2.1, w_Mel E a (o + 18) x.1.2.1.2.2.1, w_Cliffs E a (o + 22) x.1.2.1.2.2.2, w_Prog E a (o + 25) x.1.2.2.2.1, w_Chord E a (o + 31) x.1.2.2.2.2, w_Key E a (o + 34) x.2.1, w_Line E a (o + 35) x.2.2.1, w_Hist E a (o + 37) (q3.2.2.2.2.2.2.2.2.2.2.2.2.2.1, q3.2.2.2.2.2.2.2.2.2.2.2.2.2.2.1, q3.2.2.2.2.2.2.2.2.2.2.2.2.2.2.2.1), w_LongArr E az oz q3.2.2.2.2.2.2.2.2.2.2.2.2.2.2.2.2]) (L' := [w_VBR a o x.2.2.2.1 x.2.2.2.2.1 x.2.2.2.2.2, w_ValleyR a (o + 1), w_Key E a (o + 2) (q3.2.1, q3.2.2.1, q3.2.2.2.1), w_Bells E a (o + 3) (q3.2.2.2.2.1, q3.2.2.2.2.2.1, q3.2.2.2.2.2.2.1), w_Mel E a (o + 6) (q3.2.2.2.2.2.2.2.1, q3.2.2.2.2.2.2.2.2.1, q3.2.2.2.2.2.2.2.2.2.1), w_Cliffs E a (o + 10) (q3.2.2.2.2.2.2.2.2.2.2.1, q3.2.2.2.2.2.2.2.2.2.2.2.1, q3.2.2.2.2.2.2.2.2.2.2.2.2.1), w_ValleyR a (o + 13), w_Key E a (o + 14) x.1.2.1.1, w_Bells E a (o + 15) x.1.2.1.2.1, w_Mel E a (o + 18) x.1.2.1.2.2.1, w_Cliffs E a (o + 22) x.1.2.1.2.2.2, w_Prog E a (o + 25) x.1.2.2.2.1, w_Chord E a (o + 31) x.1.2.2.2.2, w_Key E a (o + 34) x.2.1, w_Line E a (o + 35) x.2.2.1, w_Hist E a (o + 37) (q3.2.2.2.2.2.2.2.2.2.2.2.2.2.1, q3.2.2.2.2.2.2.2.2.2.2.2.2.2.2.1, q3.2.2.2.2.2.2.2.2.2.2.2.2.2.2.2.1), w_Model E ay oy y, w_LongArr E az oz q3.2.2.2.2.2.2.2.2.2.2.2.2.2.2.2.2, w_DblArr E aw ow w]) (rv := q3.1) (vx_runSW (As := [.ref (a o), .int (xs (i + 1).toNatClampNeg), .int (xs (i + 2).toNatClampNeg), .ref (az oz)]) (rest := []) ⟨hx, hb, hml, hown, ha⟩ (k_L_graze l E a o x az oz z (xs (i + 1).toNatClampNeg) (xs (i + 2).toNatClampNeg) q3 hq3 H.size hlt) (vx_cwSW 4 ha (gi_TH (fun _ h => h) mw1131 mw1132 mw73 mw1133) rfl rfl rfl hv_L_graze.2 ⟨(Nat.le_of_ble_eq_true rfl), (Nat.le_of_ble_eq_true rfl)⟩) ⟨pre_blind, pre_at hP hD hS hz hzs hst [0, 1, 2, 3, 4, 5, 6, 7, 8, 9, 10, 11, 12, 13, 14, 15, 17] (by decide) rfl rfl⟩ rfl rfl hl.1 rfl (lv_room (Nat.le_of_ble_eq_true rfl)) dL_law_554 ⟨by show cv + 1 ≤ 603072; omega, by show sv + 6 ≤ 7207018; omega⟩) hP hD hS hA [0, 1, 2, 3, 4, 5, 6, 7, 8, 9, 10, 11, 12, 13, 14, 15, 17] (by decide) rfl rfl rfl rfl (fun H locs hP hD hS => ?_)
  refine lv_istore (lv' := [(6, .int q3.1), (0, .ref b), (1, .ref (a o)), (2, .ref (ay oy)), (3, .ref (az oz)), (4, .ref (aw ow)), (5, .int i)]) hx hb dL_law_557 hl (by decide) rfl (fun ls hl => ?_)
  refine lv_aload_n hx hb dL_law_559 rfl (lv_at hl 3 rfl) ?_
  refine lv_aload_n hx hb dL_law_560 rfl (lv_at hl 1 rfl) ?_
  refine lv_iload hx hb dL_law_561 (lv_at hl 6 rfl) ?_
  refine lv_iconst (v := 1) hx hb dL_law_563 (by decide) ?_
  refine lv_iadd hx hb dL_law_564 ?_
  obtain ⟨g4, hF⟩ := q_gdi hF
  refine va_sld hx hb hX hbl hbA hS g4 dL_law_565 ?_
  refine lv_aload_n hx hb dL_law_566 rfl (lv_at hl 1 rfl) ?_
  refine lv_iload hx hb dL_law_567 (lv_at hl 6 rfl) ?_
  refine lv_iconst (v := 2) hx hb dL_law_569 (by decide) ?_
  refine lv_iadd hx hb dL_law_570 ?_
  obtain ⟨g5, hF⟩ := q_gdi hF
  refine va_sld hx hb hX hbl hbA hS g5 dL_law_571 ?_
  obtain ⟨q6, hq6, hF⟩ := q_bdi hF
  refine cl_i (Lc := [w_Model E ay oy y]) (Lc' := [w_Model E ay oy ((q6.2.1, q6.2.2.1, q6.2.2.2.1, q6.2.2.2.2.1, y.1.2.2.2.2), (y.2.1.1, y.2.1.2.1, y.2.1.2.2.1, y.2.1.2.2.2.1, y.2.1.2.2.2.2), (y.2.2.1.1, y.2.2.1.2.1, y.2.2.1.2.2.1, y.2.2.1.2.2.2), (q6.2.2.2.2.2, y.2.2.2.2.1, y.2.2.2.2.2.1, y.2.2.2.2.2.2))]) (L' := [w_VBR a o x.2.2.2.1 x.2.2.2.2.1 x.2.2.2.2.2, w_ValleyR a (o + 1), w_Key E a (o + 2) (q3.2.1, q3.2.2.1, q3.2.2.2.1), w_Bells E a (o + 3) (q3.2.2.2.2.1, q3.2.2.2.2.2.1, q3.2.2.2.2.2.2.1), w_Mel E a (o + 6) (q3.2.2.2.2.2.2.2.1, q3.2.2.2.2.2.2.2.2.1, q3.2.2.2.2.2.2.2.2.2.1), w_Cliffs E a (o + 10) (q3.2.2.2.2.2.2.2.2.2.2.1, q3.2.2.2.2.2.2.2.2.2.2.2.1, q3.2.2.2.2.2.2.2.2.2.2.2.2.1), w_ValleyR a (o + 13), w_Key E a (o + 14) x.1.2.1.1, w_Bells E a (o + 15) x.1.2.1.2.1, w_Mel E a (o + 18) x.1.2.1.2.2.1, w_Cliffs E a (o + 22) x.1.2.1.2.2.2, w_Prog E a (o + 25) x.1.2.2.2.1, w_Chord E a (o + 31) x.1.2.2.2.2, w_Key E a (o + 34) x.2.1, w_Line E a (o + 35) x.2.2.1, w_Hist E a (o + 37) (q3.2.2.2.2.2.2.2.2.2.2.2.2.2.1, q3.2.2.2.2.2.2.2.2.2.2.2.2.2.2.1, q3.2.2.2.2.2.2.2.2.2.2.2.2.2.2.2.1), w_Model E ay oy ((q6.2.1, q6.2.2.1, q6.2.2.2.1, q6.2.2.2.2.1, y.1.2.2.2.2), (y.2.1.1, y.2.1.2.1, y.2.1.2.2.1, y.2.1.2.2.2.1, y.2.1.2.2.2.2), (y.2.2.1.1, y.2.2.1.2.1, y.2.2.1.2.2.1, y.2.2.1.2.2.2), (q6.2.2.2.2.2, y.2.2.2.2.1, y.2.2.2.2.2.1, y.2.2.2.2.2.2)), w_LongArr E az oz q3.2.2.2.2.2.2.2.2.2.2.2.2.2.2.2.2, w_DblArr E aw ow w]) (rv := q6.1) (va_runV (As := [.int (xs (i + 1).toNatClampNeg), .int (xs (i + 2).toNatClampNeg)]) (rest := []) ⟨hx, hb, hml, hown, ha⟩ (k_X11_graze l E ay oy y (xs (i + 1).toNatClampNeg) (xs (i + 2).toNatClampNeg) q6 hq6 H.size) (cwV 2 ha (gi_V (fun _ h => h) mw1760 mw1761 mw1762 mw87 mw1763) rfl rfl rfl hv_X11_graze ⟨(Nat.le_of_ble_eq_true rfl), (Nat.le_of_ble_eq_true rfl)⟩) ⟨pre_blind, va_recv hst.k (fr_P hP [16] rfl) (ci := 13) (q0 := 0) rfl rfl, pre_at hP hD hS hz hzs hst [16] (by decide) rfl rfl⟩ rfl rfl hl.1 rfl (lv_room (Nat.le_of_ble_eq_true rfl)) dL_law_572 ⟨by show cv + 1 + 0 ≤ 603072; omega, by show sv + 6 + 0 ≤ 7207018; omega⟩) hP hD hS hA [16] (by decide) rfl rfl rfl rfl (fun H locs hP hD hS => ?_)
  refine lv_istore (lv' := [(7, .int q6.1), (6, .int q3.1), (0, .ref b), (1, .ref (a o)), (2, .ref (ay oy)), (3, .ref (az oz)), (4, .ref (aw ow)), (5, .int i)]) hx hb dL_law_575 hl (by decide) rfl (fun ls hl => ?_)
  refine lv_aload_n hx hb dL_law_577 rfl (lv_at hl 4 rfl) ?_
  obtain ⟨q7, hq7, hF⟩ := q_bdi hF
  refine cl_i (Lc := [w_Model E ay oy ((q6.2.1, q6.2.2.1, q6.2.2.2.1, q6.2.2.2.2.1, y.1.2.2.2.2), (y.2.1.1, y.2.1.2.1, y.2.1.2.2.1, y.2.1.2.2.2.1, y.2.1.2.2.2.2), (y.2.2.1.1, y.2.2.1.2.1, y.2.2.1.2.2.1, y.2.2.1.2.2.2), (q6.2.2.2.2.2, y.2.2.2.2.1, y.2.2.2.2.2.1, y.2.2.2.2.2.2))]) (Lc' := [w_Model E ay oy ((q6.2.1, q6.2.2.1, q6.2.2.2.1, q6.2.2.2.2.1, y.1.2.2.2.2), (y.2.1.1, y.2.1.2.1, y.2.1.2.2.1, y.2.1.2.2.2.1, y.2.1.2.2.2.2), (y.2.2.1.1, y.2.2.1.2.1, y.2.2.1.2.2.1, y.2.2.1.2.2.2), (q6.2.2.2.2.2, y.2.2.2.2.1, y.2.2.2.2.2.1, y.2.2.2.2.2.2))]) (L' := [w_VBR a o x.2.2.2.1 x.2.2.2.2.1 x.2.2.2.2.2, w_ValleyR a (o + 1), w_Key E a (o + 2) (q3.2.1, q3.2.2.1, q3.2.2.2.1), w_Bells E a (o + 3) (q3.2.2.2.2.1, q3.2.2.2.2.2.1, q3.2.2.2.2.2.2.1), w_Mel E a (o + 6) (q3.2.2.2.2.2.2.2.1, q3.2.2.2.2.2.2.2.2.1, q3.2.2.2.2.2.2.2.2.2.1), w_Cliffs E a (o + 10) (q3.2.2.2.2.2.2.2.2.2.2.1, q3.2.2.2.2.2.2.2.2.2.2.2.1, q3.2.2.2.2.2.2.2.2.2.2.2.2.1), w_ValleyR a (o + 13), w_Key E a (o + 14) x.1.2.1.1, w_Bells E a (o + 15) x.1.2.1.2.1, w_Mel E a (o + 18) x.1.2.1.2.2.1, w_Cliffs E a (o + 22) x.1.2.1.2.2.2, w_Prog E a (o + 25) x.1.2.2.2.1, w_Chord E a (o + 31) x.1.2.2.2.2, w_Key E a (o + 34) x.2.1, w_Line E a (o + 35) x.2.2.1, w_Hist E a (o + 37) (q3.2.2.2.2.2.2.2.2.2.2.2.2.2.1, q3.2.2.2.2.2.2.2.2.2.2.2.2.2.2.1, q3.2.2.2.2.2.2.2.2.2.2.2.2.2.2.2.1), w_Model E ay oy ((q6.2.1, q6.2.2.1, q6.2.2.2.1, q6.2.2.2.2.1, y.1.2.2.2.2), (y.2.1.1, y.2.1.2.1, y.2.1.2.2.1, y.2.1.2.2.2.1, y.2.1.2.2.2.2), (y.2.2.1.1, y.2.2.1.2.1, y.2.2.1.2.2.1, y.2.2.1.2.2.2), (q6.2.2.2.2.2, y.2.2.2.2.1, y.2.2.2.2.2.1, y.2.2.2.2.2.2)), w_LongArr E az oz q3.2.2.2.2.2.2.2.2.2.2.2.2.2.2.2.2, w_DblArr E aw ow w]) (rv := q7) (va_runV (As := []) (rest := []) ⟨hx, hb, hml, hown, ha⟩ (k_X11_thrown l E ay oy ((q6.2.1, q6.2.2.1, q6.2.2.2.1, q6.2.2.2.2.1, y.1.2.2.2.2), (y.2.1.1, y.2.1.2.1, y.2.1.2.2.1, y.2.1.2.2.2.1, y.2.1.2.2.2.2), (y.2.2.1.1, y.2.2.1.2.1, y.2.2.1.2.2.1, y.2.2.1.2.2.2), (q6.2.2.2.2.2, y.2.2.2.2.1, y.2.2.2.2.2.1, y.2.2.2.2.2.2)) q7 hq7 H.size) (cwV 0 ha (gi_V (fun _ h => h) mw1691 mw1692 mw1693 mw87 mw1694) rfl rfl rfl hv_X11_thrown ⟨(Nat.le_of_ble_eq_true rfl), (Nat.le_of_ble_eq_true rfl)⟩) ⟨pre_blind, va_recv hst.k (fr_P hP [16] rfl) (ci := 13) (q0 := 0) rfl rfl, pre_at hP hD hS hz hzs hst [16] (by decide) rfl rfl⟩ rfl rfl hl.1 rfl (lv_room (Nat.le_of_ble_eq_true rfl)) dL_law_578 ⟨by show cv + 1 + 0 ≤ 603072; omega, by show sv + 6 + 0 ≤ 7207018; omega⟩) hP hD hS hA [16] (by decide) rfl rfl rfl rfl (fun H locs hP hD hS => ?_)
  refine lv_iload hx hb dL_law_581 (lv_at hl 1 rfl) ?_
  refine lv_icmp_eq (tgt := 588) hx hb dL_law_583 (by decide) (fun c583 => ?_) (fun c583 => ?_)
  · have hF := q_brp c583 hF
    refine lv_iload hx hb dL_law_588 (lv_at hl 1 rfl) ?_
    refine lv_if_ne (tgt := 605) hx hb dL_law_590 (by decide) (fun c590 => ?_) (fun c590 => ?_)
    · have hF := q_brn c590 hF
      refine lv_goto (tgt := 2881) hx hb dL_law_605 (by decide) ?_
      obtain rfl := Option.some.inj hF
      refine W.widen (k := cv + 60) (n := sv + 5100) (by omega) (by omega) ?_
      exact hK H locs ls hP hD hS (lv_sub hl [2, 3, 4, 5, 6, 7] rfl)
    · have hF := q_brp c590 hF
      refine lv_aload_n hx hb dL_law_593 rfl (lv_at hl 5 rfl) ?_
      refine lv_iconst (v := 0) hx hb dL_law_594 (by decide) ?_
      refine vi_lald hx hb hst.k hP 156 3 rfl rfl (f := q3.2.2.2.2.2.2.2.2.2.2.2.2.2.2.2.2) (k := 0) (by decide) (by decide) dL_law_595 ?_
      refine lv_iload hx hb dL_law_596 (lv_at hl 0 rfl) ?_
      refine lv_i2l hx hb dL_law_598 rfl ?_
      refine W.lcmp hx hb dL_law_599 ?_
      refine lv_if_eq (tgt := 605) hx hb dL_law_600 (by decide) (fun c600 => ?_) (fun c600 => ?_)
      · have hF := q_brp c600 hF
        refine lv_goto (tgt := 2881) hx hb dL_law_605 (by decide) ?_
        obtain rfl := Option.some.inj hF
        refine W.widen (k := cv + 60) (n := sv + 5100) (by omega) (by omega) ?_
        exact hK H locs ls hP hD hS (lv_sub hl [2, 3, 4, 5, 6, 7] rfl)
      · have hF := q_brn c600 hF
        exact absurd hF (by simp)
  · have hF := q_brn c583 hF
    exact absurd hF (by simp)
def f_c4 (x : VB_t) (y : Model_t) (z : Nat → Int64) (w : Nat → UInt64) (xs : Nat → Int32) (n : Nat) (i : Int32) : Option (VB_t × Model_t × (Nat → Int64) × (Nat → UInt64)) := q_bd (f_case4 x.1.1.1.1 x.1.1.1.2.1 x.1.1.1.2.2 x.1.1.2.1.1 x.1.1.2.1.2.1 x.1.1.2.1.2.2 x.1.1.2.2.1.1 x.1.1.2.2.1.2.1 x.1.1.2.2.1.2.2 x.1.1.2.2.2.1 x.1.1.2.2.2.2.1 x.1.1.2.2.2.2.2 x.1.2.2.1.1 x.1.2.2.1.2.1 x.1.2.2.1.2.2 y.1.1 y.1.2.1 y.1.2.2.1 y.1.2.2.2.1 y.2.2.2.1 z xs n i) (fun res => some (((((res.1, res.2.1, res.2.2.1), (res.2.2.2.1, res.2.2.2.2.1, res.2.2.2.2.2.1), (res.2.2.2.2.2.2.1, res.2.2.2.2.2.2.2.1, res.2.2.2.2.2.2.2.2.1), (res.2.2.2.2.2.2.2.2.2.1, res.2.2.2.2.2.2.2.2.2.2.1, res.2.2.2.2.2.2.2.2.2.2.2.1)), x.1.2.1, (res.2.2.2.2.2.2.2.2.2.2.2.2.1, res.2.2.2.2.2.2.2.2.2.2.2.2.2.1, res.2.2.2.2.2.2.2.2.2.2.2.2.2.2.1), x.1.2.2.2.1, x.1.2.2.2.2), (x.2.1, x.2.2.1, x.2.2.2.1, x.2.2.2.2.1, x.2.2.2.2.2)), ((res.2.2.2.2.2.2.2.2.2.2.2.2.2.2.2.1, res.2.2.2.2.2.2.2.2.2.2.2.2.2.2.2.2.1, res.2.2.2.2.2.2.2.2.2.2.2.2.2.2.2.2.2.1, res.2.2.2.2.2.2.2.2.2.2.2.2.2.2.2.2.2.2.1, y.1.2.2.2.2), (y.2.1.1, y.2.1.2.1, y.2.1.2.2.1, y.2.1.2.2.2.1, y.2.1.2.2.2.2), (y.2.2.1.1, y.2.2.1.2.1, y.2.2.1.2.2.1, y.2.2.1.2.2.2), (res.2.2.2.2.2.2.2.2.2.2.2.2.2.2.2.2.2.2.2.1, y.2.2.2.2.1, y.2.2.2.2.2.1, y.2.2.2.2.2.2)), res.2.2.2.2.2.2.2.2.2.2.2.2.2.2.2.2.2.2.2.2, w))
/-! case 5 -/
theorem dL_law_608 : decode cL_law 608 = .ok (.aload_n 1, 1) := by decide +kernel
theorem dL_law_609 : decode cL_law 609 = .ok (.aload_n 0, 1) := by decide +kernel
theorem dL_law_610 : decode cL_law 610 = .ok (.iload 5, 2) := by decide +kernel
theorem dL_law_612 : decode cL_law 612 = .ok (.iconst 1, 1) := by decide +kernel
theorem dL_law_613 : decode cL_law 613 = .ok (.iadd, 1) := by decide +kernel
theorem dL_law_614 : decode cL_law 614 = .ok (.iaload, 1) := by decide +kernel
theorem dL_law_615 : decode cL_law 615 = .ok (.aload_n 0, 1) := by decide +kernel
theorem dL_law_616 : decode cL_law 616 = .ok (.iload 5, 2) := by decide +kernel
theorem dL_law_618 : decode cL_law 618 = .ok (.iconst 2, 1) := by decide +kernel
theorem dL_law_619 : decode cL_law 619 = .ok (.iadd, 1) := by decide +kernel
theorem dL_law_620 : decode cL_law 620 = .ok (.iaload, 1) := by decide +kernel
theorem dL_law_621 : decode cL_law 621 = .ok (.ifCond .eq 7, 3) := by decide +kernel
theorem dL_law_624 : decode cL_law 624 = .ok (.iconst 1, 1) := by decide +kernel
theorem dL_law_625 : decode cL_law 625 = .ok (.goto 4, 3) := by decide +kernel
theorem dL_law_628 : decode cL_law 628 = .ok (.iconst 0, 1) := by decide +kernel
theorem dL_law_629 : decode cL_law 629 = .ok (.aload_n 3, 1) := by decide +kernel
theorem dL_law_630 : decode cL_law 630 = .ok (.invokestatic 176, 3) := by decide +kernel
theorem dL_law_633 : decode cL_law 633 = .ok (.istore 6, 2) := by decide +kernel
theorem dL_law_635 : decode cL_law 635 = .ok (.aload_n 2, 1) := by decide +kernel
theorem dL_law_636 : decode cL_law 636 = .ok (.aload_n 0, 1) := by decide +kernel
theorem dL_law_637 : decode cL_law 637 = .ok (.iload 5, 2) := by decide +kernel
theorem dL_law_639 : decode cL_law 639 = .ok (.iconst 1, 1) := by decide +kernel
theorem dL_law_640 : decode cL_law 640 = .ok (.iadd, 1) := by decide +kernel
theorem dL_law_641 : decode cL_law 641 = .ok (.iaload, 1) := by decide +kernel
theorem dL_law_642 : decode cL_law 642 = .ok (.aload_n 0, 1) := by decide +kernel
theorem dL_law_643 : decode cL_law 643 = .ok (.iload 5, 2) := by decide +kernel
theorem dL_law_645 : decode cL_law 645 = .ok (.iconst 2, 1) := by decide +kernel
theorem dL_law_646 : decode cL_law 646 = .ok (.iadd, 1) := by decide +kernel
theorem dL_law_647 : decode cL_law 647 = .ok (.iaload, 1) := by decide +kernel
theorem dL_law_648 : decode cL_law 648 = .ok (.ifCond .eq 7, 3) := by decide +kernel
theorem dL_law_651 : decode cL_law 651 = .ok (.iconst 1, 1) := by decide +kernel
theorem dL_law_652 : decode cL_law 652 = .ok (.goto 4, 3) := by decide +kernel
theorem dL_law_655 : decode cL_law 655 = .ok (.iconst 0, 1) := by decide +kernel
theorem dL_law_656 : decode cL_law 656 = .ok (.invokevirtual 179, 3) := by decide +kernel
theorem dL_law_659 : decode cL_law 659 = .ok (.istore 7, 2) := by decide +kernel
theorem dL_law_661 : decode cL_law 661 = .ok (.aload_n 2, 1) := by decide +kernel
theorem dL_law_662 : decode cL_law 662 = .ok (.invokevirtual 160, 3) := by decide +kernel
theorem dL_law_665 : decode cL_law 665 = .ok (.iload 6, 2) := by decide +kernel
theorem dL_law_667 : decode cL_law 667 = .ok (.if_icmp .eq 5, 3) := by decide +kernel
theorem dL_law_672 : decode cL_law 672 = .ok (.iload 6, 2) := by decide +kernel
theorem dL_law_674 : decode cL_law 674 = .ok (.ifCond .ne 15, 3) := by decide +kernel
theorem dL_law_677 : decode cL_law 677 = .ok (.aload_n 3, 1) := by decide +kernel
theorem dL_law_678 : decode cL_law 678 = .ok (.iconst 0, 1) := by decide +kernel
theorem dL_law_679 : decode cL_law 679 = .ok (.laload, 1) := by decide +kernel
theorem dL_law_680 : decode cL_law 680 = .ok (.iload 7, 2) := by decide +kernel
theorem dL_law_682 : decode cL_law 682 = .ok (.i2l, 1) := by decide +kernel
theorem dL_law_683 : decode cL_law 683 = .ok (.lcmp, 1) := by decide +kernel
theorem dL_law_684 : decode cL_law 684 = .ok (.ifCond .eq 5, 3) := by decide +kernel
theorem dL_law_689 : decode cL_law 689 = .ok (.goto 2192, 3) := by decide +kernel
def f_case5 (x_valley_key_tonic : Int32) (x_valley_key_isMinor : Int32) (x_valley_key_tolerance : Int32) (x_valley_bells_herds : (Nat → Int32)) (x_valley_bells_pitches : (Nat → Int32)) (x_valley_bells_count : Int32) (x_valley_melodies_lengths : (Nat → Int32)) (x_valley_melodies_entries : (Nat → Int32)) (x_valley_melodies_tones : (Nat → Int32)) (x_valley_cliffs_delays : (Nat → Int32)) (x_valley_cliffs_transpositions : (Nat → Int32)) (x_valley_cliffs_count : Int32) (x_history_slots : (Nat → Valley_t)) (x_history_current : Int32) (x_history_count : Int32) (y_g : (Nat → Int32)) (y_before : (Nat → Int32)) (y_history : (Nat → Int32)) (y_changes : Int32) (y_thrown : Int32) (z_v : (Nat → Int64)) (xs : (Nat → Int32)) (n : Nat) (i : Int32) : Option (Int32 × Int32 × Int32 × (Nat → Int32) × (Nat → Int32) × Int32 × (Nat → Int32) × (Nat → Int32) × (Nat → Int32) × (Nat → Int32) × (Nat → Int32) × Int32 × (Nat → Valley_t) × Int32 × Int32 × (Nat → Int32) × (Nat → Int32) × (Nat → Int32) × Int32 × Int32 × (Nat → Int64)) :=
  q_gd (q_in (i + 1) n) (
  q_gd (q_in (i + 2) n) (
  q_lt (fun (j3 : Int32) =>
  q_bd (f_L_setKey x_valley_key_tonic x_valley_key_isMinor x_valley_key_tolerance x_valley_bells_herds x_valley_bells_pitches x_valley_bells_count x_valley_melodies_lengths x_valley_melodies_entries x_valley_melodies_tones x_valley_cliffs_delays x_valley_cliffs_transpositions x_valley_cliffs_count x_history_slots x_history_current x_history_count z_v (xs (i + 1).toNatClampNeg) j3) (fun q4 =>
  q_gd (q_in (i + 1) n) (
  q_gd (q_in (i + 2) n) (
  q_lt (fun (j7 : Int32) =>
  q_bd (f_X11_setKey y_g y_before y_history y_changes y_thrown (xs (i + 1).toNatClampNeg) j7) (fun q8 =>
  q_bd (f_X11_thrown q8.2.2.2.2.2) (fun q9 =>
  q_br (q9 = q4.1) (
  q_br (q4.1 = 0) (
  q_br ((lg_cmp (q4.2.2.2.2.2.2.2.2.2.2.2.2.2.2.2.2 0) (q8.1.toInt64)) = 0) (
  some (q4.2.1, q4.2.2.1, q4.2.2.2.1, q4.2.2.2.2.1, q4.2.2.2.2.2.1, q4.2.2.2.2.2.2.1, q4.2.2.2.2.2.2.2.1, q4.2.2.2.2.2.2.2.2.1, q4.2.2.2.2.2.2.2.2.2.1, q4.2.2.2.2.2.2.2.2.2.2.1, q4.2.2.2.2.2.2.2.2.2.2.2.1, q4.2.2.2.2.2.2.2.2.2.2.2.2.1, q4.2.2.2.2.2.2.2.2.2.2.2.2.2.1, q4.2.2.2.2.2.2.2.2.2.2.2.2.2.2.1, q4.2.2.2.2.2.2.2.2.2.2.2.2.2.2.2.1, q8.2.1, q8.2.2.1, q8.2.2.2.1, q8.2.2.2.2.1, q8.2.2.2.2.2, q4.2.2.2.2.2.2.2.2.2.2.2.2.2.2.2.2)) (
  none)) (
  some (q4.2.1, q4.2.2.1, q4.2.2.2.1, q4.2.2.2.2.1, q4.2.2.2.2.2.1, q4.2.2.2.2.2.2.1, q4.2.2.2.2.2.2.2.1, q4.2.2.2.2.2.2.2.2.1, q4.2.2.2.2.2.2.2.2.2.1, q4.2.2.2.2.2.2.2.2.2.2.1, q4.2.2.2.2.2.2.2.2.2.2.2.1, q4.2.2.2.2.2.2.2.2.2.2.2.2.1, q4.2.2.2.2.2.2.2.2.2.2.2.2.2.1, q4.2.2.2.2.2.2.2.2.2.2.2.2.2.2.1, q4.2.2.2.2.2.2.2.2.2.2.2.2.2.2.2.1, q8.2.1, q8.2.2.1, q8.2.2.2.1, q8.2.2.2.2.1, q8.2.2.2.2.2, q4.2.2.2.2.2.2.2.2.2.2.2.2.2.2.2.2))) (
  none)))) (fun (J656 : Int32 → Option (Int32 × Int32 × Int32 × (Nat → Int32) × (Nat → Int32) × Int32 × (Nat → Int32) × (Nat → Int32) × (Nat → Int32) × (Nat → Int32) × (Nat → Int32) × Int32 × (Nat → Valley_t) × Int32 × Int32 × (Nat → Int32) × (Nat → Int32) × (Nat → Int32) × Int32 × Int32 × (Nat → Int64))) =>
  q_br ((xs (i + 2).toNatClampNeg) = 0) (
  J656 0) (
  J656 1)))))) (fun (J629 : Int32 → Option (Int32 × Int32 × Int32 × (Nat → Int32) × (Nat → Int32) × Int32 × (Nat → Int32) × (Nat → Int32) × (Nat → Int32) × (Nat → Int32) × (Nat → Int32) × Int32 × (Nat → Valley_t) × Int32 × Int32 × (Nat → Int32) × (Nat → Int32) × (Nat → Int32) × Int32 × Int32 × (Nat → Int64))) =>
  q_br ((xs (i + 2).toNatClampNeg) = 0) (
  J629 0) (
  J629 1))))
set_option maxHeartbeats 4000000 in
set_option maxRecDepth 100000 in
theorem kc_5 {p : Program} {e : Env} {s : State} {m : MethodId} {args : Array Value} {below : List Frame} {meth : Method} {c : Code} {Q : State → Prop} {A : Nat → Prop} (l : Launch) (hlt : l.stackTraces = false) (E : ET) (a : Nat → Nat) (o : Nat) (x : VB_t) (ay : Nat → Nat) (oy : Nat) (y : Model_t) (az : Nat → Nat) (oz : Nat) (z : Nat → Int64) (aw : Nat → Nat) (ow : Nat) (w : Nat → UInt64) (b n : Nat) (xs : Nat → Int32) (i : Int32) (hx : p.tables.exec = Jvm.exec) (hb : c.code = cL_law) (hml : c.maxLocals = 9) (hown : s.vm.findClass RL = some m.cls) (ha : ∀ w ∈ lw_all, w.before args s = true) (hA : ∀ q, s.heap.size ≤ q → A q) (hz : ∀ q, A q → E.2 0 ≤ q) (hzs : E.2 0 ≤ s.heap.size) (hst : ST E s) (hX : va_X b n xs s s.heap) (hbl : b < s.heap.size) (hbA : ¬ A b) (res : Int32 × Int32 × Int32 × (Nat → Int32) × (Nat → Int32) × Int32 × (Nat → Int32) × (Nat → Int32) × (Nat → Int32) × (Nat → Int32) × (Nat → Int32) × Int32 × (Nat → Valley_t) × Int32 × Int32 × (Nat → Int32) × (Nat → Int32) × (Nat → Int32) × Int32 × Int32 × (Nat → Int64)) (hF : f_case5 x.1.1.1.1 x.1.1.1.2.1 x.1.1.1.2.2 x.1.1.2.1.1 x.1.1.2.1.2.1 x.1.1.2.1.2.2 x.1.1.2.2.1.1 x.1.1.2.2.1.2.1 x.1.1.2.2.1.2.2 x.1.1.2.2.2.1 x.1.1.2.2.2.2.1 x.1.1.2.2.2.2.2 x.1.2.2.1.1 x.1.2.2.1.2.1 x.1.2.2.1.2.2 y.1.1 y.1.2.1 y.1.2.2.1 y.1.2.2.2.1 y.2.2.2.1 z xs n i = some res) {H : Heap} {locs : List Loc} {ls : Array Slot} {cv sv : Nat} (hcv : cv + 60 ≤ 603072) (hsv : sv + 5100 ≤ 7207018) (hP : va_P E.1 vwCl (List.flatten [w_VBR a o x.2.2.2.1 x.2.2.2.2.1 x.2.2.2.2.2, w_ValleyR a (o + 1), w_Key E a (o + 2) x.1.1.1, w_Bells E a (o + 3) x.1.1.2.1, w_Mel E a (o + 6) x.1.1.2.2.1, w_Cliffs E a (o + 10) x.1.1.2.2.2, w_ValleyR a (o + 13), w_Key E a (o + 14) x.1.2.1.1, w_Bells E a (o + 15) x.1.2.1.2.1, w_Mel E a (o + 18) x.1.2.1.2.2.1, w_Cliffs E a (o + 22) x.1.2.1.2.2.2, w_Prog E a (o + 25) x.1.2.2.2.1, w_Chord E a (o + 31) x.1.2.2.2.2, w_Key E a (o + 34) x.2.1, w_Line E a (o + 35) x.2.2.1, w_Hist E a (o + 37) x.1.2.2.1, w_Model E ay oy y, w_LongArr E az oz z, w_DblArr E aw ow w]) H) (hD : va_D A (List.flatten [w_VBR a o x.2.2.2.1 x.2.2.2.2.1 x.2.2.2.2.2, w_ValleyR a (o + 1), w_Key E a (o + 2) x.1.1.1, w_Bells E a (o + 3) x.1.1.2.1, w_Mel E a (o + 6) x.1.1.2.2.1, w_Cliffs E a (o + 10) x.1.1.2.2.2, w_ValleyR a (o + 13), w_Key E a (o + 14) x.1.2.1.1, w_Bells E a (o + 15) x.1.2.1.2.1, w_Mel E a (o + 18) x.1.2.1.2.2.1, w_Cliffs E a (o + 22) x.1.2.1.2.2.2, w_Prog E a (o + 25) x.1.2.2.2.1, w_Chord E a (o + 31) x.1.2.2.2.2, w_Key E a (o + 34) x.2.1, w_Line E a (o + 35) x.2.2.1, w_Hist E a (o + 37) x.1.2.2.1, w_Model E ay oy y, w_LongArr E az oz z, w_DblArr E aw ow w])) (hS : va_S A s.heap H locs) (hl : lv_has ls 9 [(0, .ref b), (1, .ref (a o)), (2, .ref (ay oy)), (3, .ref (az oz)), (4, .ref (aw ow)), (5, .int i)])
    (hK : ∀ (H : Heap) (locs : List Loc) (ls : Array Slot), va_P E.1 vwCl (List.flatten (bl_VB E a o ((((res.1, res.2.1, res.2.2.1), (res.2.2.2.1, res.2.2.2.2.1, res.2.2.2.2.2.1), (res.2.2.2.2.2.2.1, res.2.2.2.2.2.2.2.1, res.2.2.2.2.2.2.2.2.1), (res.2.2.2.2.2.2.2.2.2.1, res.2.2.2.2.2.2.2.2.2.2.1, res.2.2.2.2.2.2.2.2.2.2.2.1)), x.1.2.1, (res.2.2.2.2.2.2.2.2.2.2.2.2.1, res.2.2.2.2.2.2.2.2.2.2.2.2.2.1, res.2.2.2.2.2.2.2.2.2.2.2.2.2.2.1), x.1.2.2.2.1, x.1.2.2.2.2), (x.2.1, x.2.2.1, x.2.2.2.1, x.2.2.2.2.1, x.2.2.2.2.2)) ++ (bl_Model E ay oy ((res.2.2.2.2.2.2.2.2.2.2.2.2.2.2.2.1, res.2.2.2.2.2.2.2.2.2.2.2.2.2.2.2.2.1, res.2.2.2.2.2.2.2.2.2.2.2.2.2.2.2.2.2.1, res.2.2.2.2.2.2.2.2.2.2.2.2.2.2.2.2.2.2.1, y.1.2.2.2.2), (y.2.1.1, y.2.1.2.1, y.2.1.2.2.1, y.2.1.2.2.2.1, y.2.1.2.2.2.2), (y.2.2.1.1, y.2.2.1.2.1, y.2.2.1.2.2.1, y.2.2.1.2.2.2), (res.2.2.2.2.2.2.2.2.2.2.2.2.2.2.2.2.2.2.2.1, y.2.2.2.2.1, y.2.2.2.2.2.1, y.2.2.2.2.2.2)) ++ (bl_LongArr E az oz res.2.2.2.2.2.2.2.2.2.2.2.2.2.2.2.2.2.2.2.2 ++ bl_DblArr E aw ow w)))) H → va_D A (List.flatten (bl_VB E a o ((((res.1, res.2.1, res.2.2.1), (res.2.2.2.1, res.2.2.2.2.1, res.2.2.2.2.2.1), (res.2.2.2.2.2.2.1, res.2.2.2.2.2.2.2.1, res.2.2.2.2.2.2.2.2.1), (res.2.2.2.2.2.2.2.2.2.1, res.2.2.2.2.2.2.2.2.2.2.1, res.2.2.2.2.2.2.2.2.2.2.2.1)), x.1.2.1, (res.2.2.2.2.2.2.2.2.2.2.2.2.1, res.2.2.2.2.2.2.2.2.2.2.2.2.2.1, res.2.2.2.2.2.2.2.2.2.2.2.2.2.2.1), x.1.2.2.2.1, x.1.2.2.2.2), (x.2.1, x.2.2.1, x.2.2.2.1, x.2.2.2.2.1, x.2.2.2.2.2)) ++ (bl_Model E ay oy ((res.2.2.2.2.2.2.2.2.2.2.2.2.2.2.2.1, res.2.2.2.2.2.2.2.2.2.2.2.2.2.2.2.2.1, res.2.2.2.2.2.2.2.2.2.2.2.2.2.2.2.2.2.1, res.2.2.2.2.2.2.2.2.2.2.2.2.2.2.2.2.2.2.1, y.1.2.2.2.2), (y.2.1.1, y.2.1.2.1, y.2.1.2.2.1, y.2.1.2.2.2.1, y.2.1.2.2.2.2), (y.2.2.1.1, y.2.2.1.2.1, y.2.2.1.2.2.1, y.2.2.1.2.2.2), (res.2.2.2.2.2.2.2.2.2.2.2.2.2.2.2.2.2.2.2.1, y.2.2.2.2.1, y.2.2.2.2.2.1, y.2.2.2.2.2.2)) ++ (bl_LongArr E az oz res.2.2.2.2.2.2.2.2.2.2.2.2.2.2.2.2.2.2.2.2 ++ bl_DblArr E aw ow w)))) → va_S A s.heap H locs → lv_has ls 9 [(0, .ref b), (1, .ref (a o)), (2, .ref (ay oy)), (3, .ref (az oz)), (4, .ref (aw ow)), (5, .int i)] → W p l e room_1 s m args below meth c H locs (cv + 60) (sv + 5100) Q (F0 m 2881 ls [])) : W p l e room_1 s m args below meth c H locs cv sv Q (F0 m 608 ls []) := by
  unfold f_case5 at hF
  refine lv_aload_n hx hb dL_law_608 rfl (lv_at hl 1 rfl) ?_
  refine lv_aload_n hx hb dL_law_609 rfl (lv_at hl 0 rfl) ?_
  refine lv_iload hx hb dL_law_610 (lv_at hl 5 rfl) ?_
  refine lv_iconst (v := 1) hx hb dL_law_612 (by decide) ?_
  refine lv_iadd hx hb dL_law_613 ?_
  obtain ⟨g1, hF⟩ := q_gdi hF
  refine va_sld hx hb hX hbl hbA hS g1 dL_law_614 ?_
  refine lv_aload_n hx hb dL_law_615 rfl (lv_at hl 0 rfl) ?_
  refine lv_iload hx hb dL_law_616 (lv_at hl 5 rfl) ?_
  refine lv_iconst (v := 2) hx hb dL_law_618 (by decide) ?_
  refine lv_iadd hx hb dL_law_619 ?_
  obtain ⟨g2, hF⟩ := q_gdi hF
  refine va_sld hx hb hX hbl hbA hS g2 dL_law_620 ?_
  obtain ⟨J629, hJ629, hF⟩ := q_jn hF
  have jJ629 : ∀ (j3 : Int32), ∀ (H : Heap) (locs : List Loc) (ls : Array Slot), J629 j3 = some res → va_P E.1 vwCl (List.flatten [w_VBR a o x.2.2.2.1 x.2.2.2.2.1 x.2.2.2.2.2, w_ValleyR a (o + 1), w_Key E a (o + 2) x.1.1.1, w_Bells E a (o + 3) x.1.1.2.1, w_Mel E a (o + 6) x.1.1.2.2.1, w_Cliffs E a (o + 10) x.1.1.2.2.2, w_ValleyR a (o + 13), w_Key E a (o + 14) x.1.2.1.1, w_Bells E a (o + 15) x.1.2.1.2.1, w_Mel E a (o + 18) x.1.2.1.2.2.1, w_Cliffs E a (o + 22) x.1.2.1.2.2.2, w_Prog E a (o + 25) x.1.2.2.2.1, w_Chord E a (o + 31) x.1.2.2.2.2, w_Key E a (o + 34) x.2.1, w_Line E a (o + 35) x.2.2.1, w_Hist E a (o + 37) x.1.2.2.1, w_Model E ay oy y, w_LongArr E az oz z, w_DblArr E aw ow w]) H → va_D A (List.flatten [w_VBR a o x.2.2.2.1 x.2.2.2.2.1 x.2.2.2.2.2, w_ValleyR a (o + 1), w_Key E a (o + 2) x.1.1.1, w_Bells E a (o + 3) x.1.1.2.1, w_Mel E a (o + 6) x.1.1.2.2.1, w_Cliffs E a (o + 10) x.1.1.2.2.2, w_ValleyR a (o + 13), w_Key E a (o + 14) x.1.2.1.1, w_Bells E a (o + 15) x.1.2.1.2.1, w_Mel E a (o + 18) x.1.2.1.2.2.1, w_Cliffs E a (o + 22) x.1.2.1.2.2.2, w_Prog E a (o + 25) x.1.2.2.2.1, w_Chord E a (o + 31) x.1.2.2.2.2, w_Key E a (o + 34) x.2.1, w_Line E a (o + 35) x.2.2.1, w_Hist E a (o + 37) x.1.2.2.1, w_Model E ay oy y, w_LongArr E az oz z, w_DblArr E aw ow w]) → va_S A s.heap H locs → lv_has ls 9 [(0, .ref b), (1, .ref (a o)), (2, .ref (ay oy)), (3, .ref (az oz)), (4, .ref (aw ow)), (5, .int i)] → W p l e room_1 s m args below meth c H locs cv sv Q (F0 m 629 ls [.int j3, .int (xs (i + 1).toNatClampNeg), .ref (a o)]) := by
    intro j3 H locs ls hF hP hD hS hl
    rw [hJ629] at hF
    refine lv_aload_n hx hb dL_law_629 rfl (lv_at hl 3 rfl) ?_
    have hP : va_P E.1 vwCl (List.flatten [w_VBR a o x.2.2.2.1 x.2.2.2.2.1 x.2.2.2.2.2, w_ValleyR a (o + 1), w_Key E a (o + 2) x.1.1.1, w_Bells E a (o + 3) x.1.1.2.1, w_Mel E a (o + 6) x.1.1.2.2.1, w_Cliffs E a (o + 10) x.1.1.2.2.2, w_ValleyR a (o + 13), w_Key E a (o + 14) x.1.2.1.1, w_Bells E a (o + 15) x.1.2.1.2.1, w_Mel E a (o + 18) x.1.2.1.2.2.1, w_Cliffs E a (o + 22) x.1.2.1.2.2.2, w_Prog E a (o + 25) x.1.2.2.2.1, w_Chord E a (o + 31) x.1.2.2.2.2, w_Key E a (o + 34) x.2.1, w_Line E a (o + 35) x.2.2.1, w_Hist E a (o + 37) x.1.2.2.1, w_Model E ay oy y, w_LongArr E az oz z, w_DblArr E aw ow w]) H := hP
    have hD : va_D A (List.flatten [w_VBR a o x.2.2.2.1 x.2.2.2.2.1 x.2.2.2.2.2, w_ValleyR a (o + 1), w_Key E a (o + 2) x.1.1.1, w_Bells E a (o + 3) x.1.1.2.1, w_Mel E a (o + 6) x.1.1.2.2.1, w_Cliffs E a (o + 10) x.1.1.2.2.2, w_ValleyR a (o + 13), w_Key E a (o + 14) x.1.2.1.1, w_Bells E a (o + 15) x.1.2.1.2.1, w_Mel E a (o + 18) x.1.2.1.2.2.1, w_Cliffs E a (o + 22) x.1.2.1.2.2.2, w_Prog E a (o + 25) x.1.2.2.2.1, w_Chord E a (o + 31) x.1.2.2.2.2, w_Key E a (o + 34) x.2.1, w_Line E a (o + 35) x.2.2.1, w_Hist E a (o + 37) x.1.2.2.1, w_Model E ay oy y, w_LongArr E az oz z, w_DblArr E aw ow w]) := hD
    obtain ⟨q4, hq4, hF⟩ := q_bdi hF
    refine cl_i (Lc := [w_VBR a o x.2.2.2.1 x.2.2.2.2.1 x.2.2.2.2.2, w_ValleyR a (o + 1), w_Key E a (o + 2) x.1.1.1, w_Bells E a (o + 3) x.1.1.2.1, w_Mel E a (o + 6) x.1.1.2.2.1, w_Cliffs E a (o + 10) x.1.1.2.2.2, w_ValleyR a (o + 13), w_Key E a (o + 14) x.1.2.1.1, w_Bells E a (o + 15) x.1.2.1.2.1, w_Mel E a (o + 18) x.1.2.1.2.2.1, w_Cliffs E a (o + 22) x.1.2.1.2.2.2, w_Prog E a (o + 25) x.1.2.2.2.1, w_Chord E a (o + 31) x.1.2.2.2.2, w_Key E a (o + 34) x.2.1, w_Line E a (o + 35) x.2.2.1, w_Hist E a (o + 37) x.1.2.2.1, w_LongArr E az oz z]) (Lc' := [w_VBR a o x.2.2.2.1 x.2.2.2.2.1 x.2.2.2.2.2, w_ValleyR a (o + 1), w_Key E a (o + 2) (q4.2.1, q4.2.2.1, q4.2.2.2.1), w_Bells E a (o + 3) (q4.2.2.2.2.1, q4.2.2.2.2.2.1, q4.2.2.2.2.2.2.1), w_Mel E a (o + 6) (q4.2.2.2.2.2.2.2.1, q4.2.2.2.2.2.2.2.2.1, q4.2.2.2.2.2.2.2.2.2.1), w_Cliffs E a (o + 10) (q4.2.2.2.2.2.2.2.2.2.2.1, q4.2.2.2.2.2.2.2.2.2.2.2.1, q4.2.2.2.2.2.2.2.2.2.2.2.2.1), w_ValleyR a (o + 13), w_Key E a (o + 14) x.1.2.1.1, w_Bells E a (o + 15) x.1.2.1.2.1, w_Mel E a (o + 18) x.1.2.1.2.2.1, w_Cliffs E a (o + 22) x.1.2.1.2.2.2, w_Prog E a (o + 25) x.1.2.2.2.1, w_Chord E a (o + 31) x.1.2.2.2.2, w_Key E a (o + 34) x.2.1, w_Line E a (o + 35) x.2.2.1, w_Hist E a (o + 37) (q4.2.2.2.2.2.2.2.2.2.2.2.2.2.1, q4.2.2.2.2.2.2.2.2.2.2.2.2.2.2.1, q4.2.2.2.2.2.2.2.2.2.2.2.2.2.2.2.1), w_LongArr E az oz q4.2.2.2.2.2.2.2.2.2.2.2.2.2.2.2.2]) (L' := [w_VBR a o x.2.2.2.1 x.2.2.2.2.1 x.2.2.2.2.2, w_ValleyR a (o + 1), w_Key E a (o + 2) (q4.2.1, q4.2.2.1, q4.2.2.2.1), w_Bells E a (o + 3) (q4.2.2.2.2.1, q4.2.2.2.2.2.1, q4.2.2.2.2.2.2.1), w_Mel E a (o + 6) (q4.2.2.2.2.2.2.2.1, q4.2.2.2.2.2.2.2.2.1, q4.2.2.2.2.2.2.2.2.2.1), w_Cliffs E a (o + 10) (q4.2.2.2.2.2.2.2.2.2.2.1, q4.2.2.2.2.2.2.2.2.2.2.2.1, q4.2.2.2.2.2.2.2.2.2.2.2.2.1), w_ValleyR a (o + 13), w_Key E a (o + 14) x.1.2.1.1, w_Bells E a (o + 15) x.1.2.1.2.1, w_Mel E a (o + 18) x.1.2.1.2.2.1, w_Cliffs E a (o + 22) x.1.2.1.2.2.2, w_Prog E a (o + 25) x.1.2.2.2.1, w_Chord E a (o + 31) x.1.2.2.2.2, w_Key E a (o + 34) x.2.1, w_Line E a (o + 35) x.2.2.1, w_Hist E a (o + 37) (q4.2.2.2.2.2.2.2.2.2.2.2.2.2.1, q4.2.2.2.2.2.2.2.2.2.2.2.2.2.2.1, q4.2.2.2.2.2.2.2.2.2.2.2.2.2.2.2.1), w_Model E ay oy y, w_LongArr E az oz q4.2.2.2.2.2.2.2.2.2.2.2.2.2.2.2.2, w_DblArr E aw ow w]) (rv := q4.1) (vx_runSW (As := [.ref (a o), .int (xs (i + 1).toNatClampNeg), .int j3, .ref (az oz)]) (rest := []) ⟨hx, hb, hml, hown, ha⟩ (k_L_setKey l E a o x az oz z (xs (i + 1).toNatClampNeg) j3 q4 hq4 H.size hlt) (vx_cwSW 4 ha (gi_TH (fun _ h => h) mw1140 mw1141 mw73 mw1142) rfl rfl rfl hv_L_setKey.2 ⟨(Nat.le_of_ble_eq_true rfl), (Nat.le_of_ble_eq_true rfl)⟩) ⟨pre_blind, pre_at hP hD hS hz hzs hst [0, 1, 2, 3, 4, 5, 6, 7, 8, 9, 10, 11, 12, 13, 14, 15, 17] (by decide) rfl rfl⟩ rfl rfl hl.1 rfl (lv_room (Nat.le_of_ble_eq_true rfl)) dL_law_630 ⟨by show cv + 1 ≤ 603072; omega, by show sv + 6 ≤ 7207018; omega⟩) hP hD hS hA [0, 1, 2, 3, 4, 5, 6, 7, 8, 9, 10, 11, 12, 13, 14, 15, 17] (by decide) rfl rfl rfl rfl (fun H locs hP hD hS => ?_)
    refine lv_istore (lv' := [(6, .int q4.1), (0, .ref b), (1, .ref (a o)), (2, .ref (ay oy)), (3, .ref (az oz)), (4, .ref (aw ow)), (5, .int i)]) hx hb dL_law_633 hl (by decide) rfl (fun ls hl => ?_)
    refine lv_aload_n hx hb dL_law_635 rfl (lv_at hl 3 rfl) ?_
    refine lv_aload_n hx hb dL_law_636 rfl (lv_at hl 1 rfl) ?_
    refine lv_iload hx hb dL_law_637 (lv_at hl 6 rfl) ?_
    refine lv_iconst (v := 1) hx hb dL_law_639 (by decide) ?_
    refine lv_iadd hx hb dL_law_640 ?_
    obtain ⟨g5, hF⟩ := q_gdi hF
    refine va_sld hx hb hX hbl hbA hS g5 dL_law_641 ?_
    refine lv_aload_n hx hb dL_law_642 rfl (lv_at hl 1 rfl) ?_
    refine lv_iload hx hb dL_law_643 (lv_at hl 6 rfl) ?_
    refine lv_iconst (v := 2) hx hb dL_law_645 (by decide) ?_
    refine lv_iadd hx hb dL_law_646 ?_
    obtain ⟨g6, hF⟩ := q_gdi hF
    refine va_sld hx hb hX hbl hbA hS g6 dL_law_647 ?_
    obtain ⟨J656, hJ656, hF⟩ := q_jn hF
    have jJ656 : ∀ (j7 : Int32), ∀ (H : Heap) (locs : List Loc) (ls : Array Slot), J656 j7 = some res → va_P E.1 vwCl (List.flatten [w_VBR a o x.2.2.2.1 x.2.2.2.2.1 x.2.2.2.2.2, w_ValleyR a (o + 1), w_Key E a (o + 2) (q4.2.1, q4.2.2.1, q4.2.2.2.1), w_Bells E a (o + 3) (q4.2.2.2.2.1, q4.2.2.2.2.2.1, q4.2.2.2.2.2.2.1), w_Mel E a (o + 6) (q4.2.2.2.2.2.2.2.1, q4.2.2.2.2.2.2.2.2.1, q4.2.2.2.2.2.2.2.2.2.1), w_Cliffs E a (o + 10) (q4.2.2.2.2.2.2.2.2.2.2.1, q4.2.2.2.2.2.2.2.2.2.2.2.1, q4.2.2.2.2.2.2.2.2.2.2.2.2.1), w_ValleyR a (o + 13), w_Key E a (o + 14) x.1.2.1.1, w_Bells E a (o + 15) x.1.2.1.2.1, w_Mel E a (o + 18) x.1.2.1.2.2.1, w_Cliffs E a (o + 22) x.1.2.1.2.2.2, w_Prog E a (o + 25) x.1.2.2.2.1, w_Chord E a (o + 31) x.1.2.2.2.2, w_Key E a (o + 34) x.2.1, w_Line E a (o + 35) x.2.2.1, w_Hist E a (o + 37) (q4.2.2.2.2.2.2.2.2.2.2.2.2.2.1, q4.2.2.2.2.2.2.2.2.2.2.2.2.2.2.1, q4.2.2.2.2.2.2.2.2.2.2.2.2.2.2.2.1), w_Model E ay oy y, w_LongArr E az oz q4.2.2.2.2.2.2.2.2.2.2.2.2.2.2.2.2, w_DblArr E aw ow w]) H → va_D A (List.flatten [w_VBR a o x.2.2.2.1 x.2.2.2.2.1 x.2.2.2.2.2, w_ValleyR a (o + 1), w_Key E a (o + 2) (q4.2.1, q4.2.2.1, q4.2.2.2.1), w_Bells E a (o + 3) (q4.2.2.2.2.1, q4.2.2.2.2.2.1, q4.2.2.2.2.2.2.1), w_Mel E a (o + 6) (q4.2.2.2.2.2.2.2.1, q4.2.2.2.2.2.2.2.2.1, q4.2.2.2.2.2.2.2.2.2.1), w_Cliffs E a (o + 10) (q4.2.2.2.2.2.2.2.2.2.2.1, q4.2.2.2.2.2.2.2.2.2.2.2.1, q4.2.2.2.2.2.2.2.2.2.2.2.2.1), w_ValleyR a (o + 13), w_Key E a (o + 14) x.1.2.1.1, w_Bells E a (o + 15) x.1.2.1.2.1, w_Mel E a (o + 18) x.1.2.1.2.2.1, w_Cliffs E a (o + 22) x.1.2.1.2.2.2, w_Prog E a (o + 25) x.1.2.2.2.1, w_Chord E a (o + 31) x.1.2.2.2.2, w_Key E a (o + 34) x.2.1, w_Line E a (o + 35) x.2.2.1, w_Hist E a (o + 37) (q4.2.2.2.2.2.2.2.2.2.2.2.2.2.1, q4.2.2.2.2.2.2.2.2.2.2.2.2.2.2.1, q4.2.2.2.2.2.2.2.2.2.2.2.2.2.2.2.1), w_Model E ay oy y, w_LongArr E az oz q4.2.2.2.2.2.2.2.2.2.2.2.2.2.2.2.2, w_DblArr E aw ow w]) → va_S A s.heap H locs → lv_has ls 9 [(6, .int q4.1), (0, .ref b), (1, .ref (a o)), (2, .ref (ay oy)), (3, .ref (az oz)), (4, .ref (aw ow)), (5, .int i)] → W p l e room_1 s m args below meth c H locs (cv + 1) (sv + 6) Q (F0 m 656 ls [.int j7, .int (xs (i + 1).toNatClampNeg), .ref (ay oy)]) := by
      intro j7 H locs ls hF hP hD hS hl
      rw [hJ656] at hF
      obtain ⟨q8, hq8, hF⟩ := q_bdi hF
      refine cl_i (Lc := [w_Model E ay oy y]) (Lc' := [w_Model E ay oy ((q8.2.1, q8.2.2.1, q8.2.2.2.1, q8.2.2.2.2.1, y.1.2.2.2.2), (y.2.1.1, y.2.1.2.1, y.2.1.2.2.1, y.2.1.2.2.2.1, y.2.1.2.2.2.2), (y.2.2.1.1, y.2.2.1.2.1, y.2.2.1.2.2.1, y.2.2.1.2.2.2), (q8.2.2.2.2.2, y.2.2.2.2.1, y.2.2.2.2.2.1, y.2.2.2.2.2.2))]) (L' := [w_VBR a o x.2.2.2.1 x.2.2.2.2.1 x.2.2.2.2.2, w_ValleyR a (o + 1), w_Key E a (o + 2) (q4.2.1, q4.2.2.1, q4.2.2.2.1), w_Bells E a (o + 3) (q4.2.2.2.2.1, q4.2.2.2.2.2.1, q4.2.2.2.2.2.2.1), w_Mel E a (o + 6) (q4.2.2.2.2.2.2.2.1, q4.2.2.2.2.2.2.2.2.1, q4.2.2.2.2.2.2.2.2.2.1), w_Cliffs E a (o + 10) (q4.2.2.2.2.2.2.2.2.2.2.1, q4.2.2.2.2.2.2.2.2.2.2.2.1, q4.2.2.2.2.2.2.2.2.2.2.2.2.1), w_ValleyR a (o + 13), w_Key E a (o + 14) x.1.2.1.1, w_Bells E a (o + 15) x.1.2.1.2.1, w_Mel E a (o + 18) x.1.2.1.2.2.1, w_Cliffs E a (o + 22) x.1.2.1.2.2.2, w_Prog E a (o + 25) x.1.2.2.2.1, w_Chord E a (o + 31) x.1.2.2.2.2, w_Key E a (o + 34) x.2.1, w_Line E a (o + 35) x.2.2.1, w_Hist E a (o + 37) (q4.2.2.2.2.2.2.2.2.2.2.2.2.2.1, q4.2.2.2.2.2.2.2.2.2.2.2.2.2.2.1, q4.2.2.2.2.2.2.2.2.2.2.2.2.2.2.2.1), w_Model E ay oy ((q8.2.1, q8.2.2.1, q8.2.2.2.1, q8.2.2.2.2.1, y.1.2.2.2.2), (y.2.1.1, y.2.1.2.1, y.2.1.2.2.1, y.2.1.2.2.2.1, y.2.1.2.2.2.2), (y.2.2.1.1, y.2.2.1.2.1, y.2.2.1.2.2.1, y.2.2.1.2.2.2), (q8.2.2.2.2.2, y.2.2.2.2.1, y.2.2.2.2.2.1, y.2.2.2.2.2.2)), w_LongArr E az oz q4.2.2.2.2.2.2.2.2.2.2.2.2.2.2.2.2, w_DblArr E aw ow w]) (rv := q8.1) (va_runV (As := [.int (xs (i + 1).toNatClampNeg), .int j7]) (rest := []) ⟨hx, hb, hml, hown, ha⟩ (k_X11_setKey l E ay oy y (xs (i + 1).toNatClampNeg) j7 q8 hq8 H.size) (cwV 2 ha (gi_V (fun _ h => h) mw1793 mw1794 mw1795 mw87 mw1796) rfl rfl rfl hv_X11_setKey ⟨(Nat.le_of_ble_eq_true rfl), (Nat.le_of_ble_eq_true rfl)⟩) ⟨pre_blind, va_recv hst.k (fr_P hP [16] rfl) (ci := 13) (q0 := 0) rfl rfl, pre_at hP hD hS hz hzs hst [16] (by decide) rfl rfl⟩ rfl rfl hl.1 rfl (lv_room (Nat.le_of_ble_eq_true rfl)) dL_law_656 ⟨by show cv + 1 + 0 ≤ 603072; omega, by show sv + 6 + 0 ≤ 7207018; omega⟩) hP hD hS hA [16] (by decide) rfl rfl rfl rfl (fun H locs hP hD hS => ?_)
      refine lv_istore (lv' := [(7, .int q8.1), (6, .int q4.1), (0, .ref b), (1, .ref (a o)), (2, .ref (ay oy)), (3, .ref (az oz)), (4, .ref (aw ow)), (5, .int i)]) hx hb dL_law_659 hl (by decide) rfl (fun ls hl => ?_)
      refine lv_aload_n hx hb dL_law_661 rfl (lv_at hl 4 rfl) ?_
      obtain ⟨q9, hq9, hF⟩ := q_bdi hF
      refine cl_i (Lc := [w_Model E ay oy ((q8.2.1, q8.2.2.1, q8.2.2.2.1, q8.2.2.2.2.1, y.1.2.2.2.2), (y.2.1.1, y.2.1.2.1, y.2.1.2.2.1, y.2.1.2.2.2.1, y.2.1.2.2.2.2), (y.2.2.1.1, y.2.2.1.2.1, y.2.2.1.2.2.1, y.2.2.1.2.2.2), (q8.2.2.2.2.2, y.2.2.2.2.1, y.2.2.2.2.2.1, y.2.2.2.2.2.2))]) (Lc' := [w_Model E ay oy ((q8.2.1, q8.2.2.1, q8.2.2.2.1, q8.2.2.2.2.1, y.1.2.2.2.2), (y.2.1.1, y.2.1.2.1, y.2.1.2.2.1, y.2.1.2.2.2.1, y.2.1.2.2.2.2), (y.2.2.1.1, y.2.2.1.2.1, y.2.2.1.2.2.1, y.2.2.1.2.2.2), (q8.2.2.2.2.2, y.2.2.2.2.1, y.2.2.2.2.2.1, y.2.2.2.2.2.2))]) (L' := [w_VBR a o x.2.2.2.1 x.2.2.2.2.1 x.2.2.2.2.2, w_ValleyR a (o + 1), w_Key E a (o + 2) (q4.2.1, q4.2.2.1, q4.2.2.2.1), w_Bells E a (o + 3) (q4.2.2.2.2.1, q4.2.2.2.2.2.1, q4.2.2.2.2.2.2.1), w_Mel E a (o + 6) (q4.2.2.2.2.2.2.2.1, q4.2.2.2.2.2.2.2.2.1, q4.2.2.2.2.2.2.2.2.2.1), w_Cliffs E a (o + 10) (q4.2.2.2.2.2.2.2.2.2.2.1, q4.2.2.2.2.2.2.2.2.2.2.2.1, q4.2.2.2.2.2.2.2.2.2.2.2.2.1), w_ValleyR a (o + 13), w_Key E a (o + 14) x.1.2.1.1, w_Bells E a (o + 15) x.1.2.1.2.1, w_Mel E a (o + 18) x.1.2.1.2.2.1, w_Cliffs E a (o + 22) x.1.2.1.2.2.2, w_Prog E a (o + 25) x.1.2.2.2.1, w_Chord E a (o + 31) x.1.2.2.2.2, w_Key E a (o + 34) x.2.1, w_Line E a (o + 35) x.2.2.1, w_Hist E a (o + 37) (q4.2.2.2.2.2.2.2.2.2.2.2.2.2.1, q4.2.2.2.2.2.2.2.2.2.2.2.2.2.2.1, q4.2.2.2.2.2.2.2.2.2.2.2.2.2.2.2.1), w_Model E ay oy ((q8.2.1, q8.2.2.1, q8.2.2.2.1, q8.2.2.2.2.1, y.1.2.2.2.2), (y.2.1.1, y.2.1.2.1, y.2.1.2.2.1, y.2.1.2.2.2.1, y.2.1.2.2.2.2), (y.2.2.1.1, y.2.2.1.2.1, y.2.2.1.2.2.1, y.2.2.1.2.2.2), (q8.2.2.2.2.2, y.2.2.2.2.1, y.2.2.2.2.2.1, y.2.2.2.2.2.2)), w_LongArr E az oz q4.2.2.2.2.2.2.2.2.2.2.2.2.2.2.2.2, w_DblArr E aw ow w]) (rv := q9) (va_runV (As := []) (rest := []) ⟨hx, hb, hml, hown, ha⟩ (k_X11_thrown l E ay oy ((q8.2.1, q8.2.2.1, q8.2.2.2.1, q8.2.2.2.2.1, y.1.2.2.2.2), (y.2.1.1, y.2.1.2.1, y.2.1.2.2.1, y.2.1.2.2.2.1, y.2.1.2.2.2.2), (y.2.2.1.1, y.2.2.1.2.1, y.2.2.1.2.2.1, y.2.2.1.2.2.2), (q8.2.2.2.2.2, y.2.2.2.2.1, y.2.2.2.2.2.1, y.2.2.2.2.2.2)) q9 hq9 H.size) (cwV 0 ha (gi_V (fun _ h => h) mw1691 mw1692 mw1693 mw87 mw1694) rfl rfl rfl hv_X11_thrown ⟨(Nat.le_of_ble_eq_true rfl), (Nat.le_of_ble_eq_true rfl)⟩) ⟨pre_blind, va_recv hst.k (fr_P hP [16] rfl) (ci := 13) (q0 := 0) rfl rfl, pre_at hP hD hS hz hzs hst [16] (by decide) rfl rfl⟩ rfl rfl hl.1 rfl (lv_room (Nat.le_of_ble_eq_true rfl)) dL_law_662 ⟨by show cv + 1 + 0 ≤ 603072; omega, by show sv + 6 + 0 ≤ 7207018; omega⟩) hP hD hS hA [16] (by decide) rfl rfl rfl rfl (fun H locs hP hD hS => ?_)
      refine lv_iload hx hb dL_law_665 (lv_at hl 1 rfl) ?_
      refine lv_icmp_eq (tgt := 672) hx hb dL_law_667 (by decide) (fun c667 => ?_) (fun c667 => ?_)
      · have hF := q_brp c667 hF
        refine lv_iload hx hb dL_law_672 (lv_at hl 1 rfl) ?_
        refine lv_if_ne (tgt := 689) hx hb dL_law_674 (by decide) (fun c674 => ?_) (fun c674 => ?_)
        · have hF := q_brn c674 hF
          refine lv_goto (tgt := 2881) hx hb dL_law_689 (by decide) ?_
          obtain rfl := Option.some.inj hF
          refine W.widen (k := cv + 60) (n := sv + 5100) (by omega) (by omega) ?_
          exact hK H locs ls hP hD hS (lv_sub hl [2, 3, 4, 5, 6, 7] rfl)
        · have hF := q_brp c674 hF
          refine lv_aload_n hx hb dL_law_677 rfl (lv_at hl 5 rfl) ?_
          refine lv_iconst (v := 0) hx hb dL_law_678 (by decide) ?_
          refine vi_lald hx hb hst.k hP 156 3 rfl rfl (f := q4.2.2.2.2.2.2.2.2.2.2.2.2.2.2.2.2) (k := 0) (by decide) (by decide) dL_law_679 ?_
          refine lv_iload hx hb dL_law_680 (lv_at hl 0 rfl) ?_
          refine lv_i2l hx hb dL_law_682 rfl ?_
          refine W.lcmp hx hb dL_law_683 ?_
          refine lv_if_eq (tgt := 689) hx hb dL_law_684 (by decide) (fun c684 => ?_) (fun c684 => ?_)
          · have hF := q_brp c684 hF
            refine lv_goto (tgt := 2881) hx hb dL_law_689 (by decide) ?_
            obtain rfl := Option.some.inj hF
            refine W.widen (k := cv + 60) (n := sv + 5100) (by omega) (by omega) ?_
            exact hK H locs ls hP hD hS (lv_sub hl [2, 3, 4, 5, 6, 7] rfl)
          · have hF := q_brn c684 hF
            exact absurd hF (by simp)
      · have hF := q_brn c667 hF
        exact absurd hF (by simp)
    refine lv_if_eq (tgt := 655) hx hb dL_law_648 (by decide) (fun c648 => ?_) (fun c648 => ?_)
    · have hF := q_brp c648 hF
      refine lv_iconst (v := 0) hx hb dL_law_655 (by decide) ?_
      exact jJ656 0 H locs ls hF hP hD hS (lv_sub hl [0, 1, 2, 3, 4, 5, 6] rfl)
    · have hF := q_brn c648 hF
      refine lv_iconst (v := 1) hx hb dL_law_651 (by decide) ?_
      refine lv_goto (tgt := 656) hx hb dL_law_652 (by decide) ?_
      exact jJ656 1 H locs ls hF hP hD hS (lv_sub hl [0, 1, 2, 3, 4, 5, 6] rfl)
  refine lv_if_eq (tgt := 628) hx hb dL_law_621 (by decide) (fun c621 => ?_) (fun c621 => ?_)
  · have hF := q_brp c621 hF
    refine lv_iconst (v := 0) hx hb dL_law_628 (by decide) ?_
    exact jJ629 0 H locs ls hF hP hD hS (lv_sub hl [0, 1, 2, 3, 4, 5] rfl)
  · have hF := q_brn c621 hF
    refine lv_iconst (v := 1) hx hb dL_law_624 (by decide) ?_
    refine lv_goto (tgt := 629) hx hb dL_law_625 (by decide) ?_
    exact jJ629 1 H locs ls hF hP hD hS (lv_sub hl [0, 1, 2, 3, 4, 5] rfl)
def f_c5 (x : VB_t) (y : Model_t) (z : Nat → Int64) (w : Nat → UInt64) (xs : Nat → Int32) (n : Nat) (i : Int32) : Option (VB_t × Model_t × (Nat → Int64) × (Nat → UInt64)) := q_bd (f_case5 x.1.1.1.1 x.1.1.1.2.1 x.1.1.1.2.2 x.1.1.2.1.1 x.1.1.2.1.2.1 x.1.1.2.1.2.2 x.1.1.2.2.1.1 x.1.1.2.2.1.2.1 x.1.1.2.2.1.2.2 x.1.1.2.2.2.1 x.1.1.2.2.2.2.1 x.1.1.2.2.2.2.2 x.1.2.2.1.1 x.1.2.2.1.2.1 x.1.2.2.1.2.2 y.1.1 y.1.2.1 y.1.2.2.1 y.1.2.2.2.1 y.2.2.2.1 z xs n i) (fun res => some (((((res.1, res.2.1, res.2.2.1), (res.2.2.2.1, res.2.2.2.2.1, res.2.2.2.2.2.1), (res.2.2.2.2.2.2.1, res.2.2.2.2.2.2.2.1, res.2.2.2.2.2.2.2.2.1), (res.2.2.2.2.2.2.2.2.2.1, res.2.2.2.2.2.2.2.2.2.2.1, res.2.2.2.2.2.2.2.2.2.2.2.1)), x.1.2.1, (res.2.2.2.2.2.2.2.2.2.2.2.2.1, res.2.2.2.2.2.2.2.2.2.2.2.2.2.1, res.2.2.2.2.2.2.2.2.2.2.2.2.2.2.1), x.1.2.2.2.1, x.1.2.2.2.2), (x.2.1, x.2.2.1, x.2.2.2.1, x.2.2.2.2.1, x.2.2.2.2.2)), ((res.2.2.2.2.2.2.2.2.2.2.2.2.2.2.2.1, res.2.2.2.2.2.2.2.2.2.2.2.2.2.2.2.2.1, res.2.2.2.2.2.2.2.2.2.2.2.2.2.2.2.2.2.1, res.2.2.2.2.2.2.2.2.2.2.2.2.2.2.2.2.2.2.1, y.1.2.2.2.2), (y.2.1.1, y.2.1.2.1, y.2.1.2.2.1, y.2.1.2.2.2.1, y.2.1.2.2.2.2), (y.2.2.1.1, y.2.2.1.2.1, y.2.2.1.2.2.1, y.2.2.1.2.2.2), (res.2.2.2.2.2.2.2.2.2.2.2.2.2.2.2.2.2.2.2.1, y.2.2.2.2.1, y.2.2.2.2.2.1, y.2.2.2.2.2.2)), res.2.2.2.2.2.2.2.2.2.2.2.2.2.2.2.2.2.2.2.2, w))
