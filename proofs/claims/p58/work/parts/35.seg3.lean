theorem dL_law_331 : decode cL_law 331 = .ok (.aload_n 0, 1) := by decide +kernel
theorem dL_law_332 : decode cL_law 332 = .ok (.bipush 13, 2) := by decide +kernel
theorem dL_law_334 : decode cL_law 334 = .ok (.invokestatic 24, 3) := by decide +kernel
theorem dL_law_337 : decode cL_law 337 = .ok (.istore 4, 2) := by decide +kernel
theorem dL_law_339 : decode cL_law 339 = .ok (.iload 4, 2) := by decide +kernel
theorem dL_law_341 : decode cL_law 341 = .ok (.bipush 15, 2) := by decide +kernel
theorem dL_law_343 : decode cL_law 343 = .ok (.iand, 1) := by decide +kernel
theorem dL_law_344 : decode cL_law 344 = .ok (.bipush 8, 2) := by decide +kernel
theorem dL_law_346 : decode cL_law 346 = .ok (.isub, 1) := by decide +kernel
theorem dL_law_347 : decode cL_law 347 = .ok (.istore 5, 2) := by decide +kernel
theorem dL_law_349 : decode cL_law 349 = .ok (.iconst 1, 1) := by decide +kernel
theorem dL_law_350 : decode cL_law 350 = .ok (.iload 4, 2) := by decide +kernel
theorem dL_law_352 : decode cL_law 352 = .ok (.iconst 4, 1) := by decide +kernel
theorem dL_law_353 : decode cL_law 353 = .ok (.ishr, 1) := by decide +kernel
theorem dL_law_354 : decode cL_law 354 = .ok (.bipush 7, 2) := by decide +kernel
theorem dL_law_356 : decode cL_law 356 = .ok (.iand, 1) := by decide +kernel
theorem dL_law_357 : decode cL_law 357 = .ok (.iadd, 1) := by decide +kernel
theorem dL_law_358 : decode cL_law 358 = .ok (.istore 6, 2) := by decide +kernel
theorem dL_law_360 : decode cL_law 360 = .ok (.new 18, 3) := by decide +kernel
theorem dL_law_363 : decode cL_law 363 = .ok (.dup, 1) := by decide +kernel
theorem dL_law_364 : decode cL_law 364 = .ok (.invokespecial 23, 3) := by decide +kernel
theorem dL_law_367 : decode cL_law 367 = .ok (.astore 7, 2) := by decide +kernel
def f_law3 (ns : Nat) (xs : (Nat → Int32)) : Option (Int32 × Int32) :=
  q_bd (f_L_at ns xs 13) (fun q11 =>
  q_lt ((q11 &&& 15) - 8 : Int32) (fun v12 =>
  q_lt (1 + ((q11 >>> ((4 : Int32) &&& 31)) &&& 7) : Int32) (fun v13 =>
  some (v12, v13))))
set_option maxHeartbeats 40000000 in
set_option maxRecDepth 100000 in
theorem kl_law3 {p : Program} {e : Env} {s : State} {m : MethodId} {args : Array Value} {below : List Frame} {meth : Method} {c : Code} {Q : State → Prop} {A : Nat → Prop} (l : Launch) (hlt : l.stackTraces = false) (E : ET) (ax ay : Nat → Nat) (x y : VB_t) (now : Int32) (hx : p.tables.exec = Jvm.exec) (hb : c.code = cL_law) (hml : c.maxLocals = 8) (hown : s.vm.findClass RL = some m.cls) (ha : ∀ w ∈ lw_all, w.before args s = true) (hA : ∀ q, s.heap.size ≤ q → A q) (hz : ∀ q, A q → E.2 0 ≤ q) (hzs : E.2 0 ≤ s.heap.size) (hst : ST E s) (res : Int32 × Int32) (hF : f_law3 (E.2 19) (sx E) = some res) {H : Heap} {locs : List Loc} {ls : Array Slot} (hP : va_P E.1 vwCl (List.flatten [w_VB1 E ax 0 x, w_VB1 E ay 0 y]) H) (hD : va_D A (List.flatten [w_VB1 E ax 0 x, w_VB1 E ay 0 y])) (hS : va_S A s.heap H locs) (hl : lv_has ls 8 [(0, .ref (E.2 18)), (1, .ref (ax 0)), (2, .ref (ay 0)), (3, .int now)]) (hK : ∀ (az : Nat → Nat) (H : Heap) (locs : List Loc) (ls : Array Slot), va_P E.1 vwCl (List.flatten [w_VB1 E ax 0 x, w_VB1 E ay 0 y, w_VB1 E az 0 vbi]) H → va_D A (List.flatten [w_VB1 E ax 0 x, w_VB1 E ay 0 y, w_VB1 E az 0 vbi]) → va_S A s.heap H locs → lv_has ls 8 [(0, .ref (E.2 18)), (1, .ref (ax 0)), (2, .ref (ay 0)), (3, .int now), (5, .int res.1), (6, .int res.2), (7, .ref (az 0))] → W p l e room_1 s m args below meth c H locs 3630 23997 Q (F0 m 369 ls [])) : W p l e room_1 s m args below meth c H locs 3483 22696 Q (F0 m 331 ls []) := by
  unfold f_law3 at hF
  refine lv_aload_n hx hb dL_law_331 rfl (lv_at hl 0 rfl) ?_
  refine lv_bipush (v := 13) hx hb dL_law_332 (by decide) ?_
  obtain ⟨q11, hq11, hF⟩ := q_bdi hF
  refine cl_i (Lc := []) (Lc' := []) (L' := [w_VB1 E ax 0 x, w_VB1 E ay 0 y]) (rv := q11) (va_runS (As := [.ref (E.2 18), .int 13]) (rest := []) ⟨hx, hb, hml, hown, ha⟩ (k_L_at l E 13 q11 hq11 H.size hlt) (cwS 2 ha (gi_S (fun _ h => h) mw1086 mw1087 mw25 mw1088) rfl rfl rfl hv_L_at ⟨(Nat.le_of_ble_eq_true rfl), (Nat.le_of_ble_eq_true rfl)⟩) ⟨pre_blind, pre_at hP hD hS hz hzs hst [] (by decide) rfl rfl⟩ rfl rfl hl.1 rfl (lv_room (Nat.le_of_ble_eq_true rfl)) dL_law_334 ⟨(Nat.le_of_ble_eq_true rfl), (Nat.le_of_ble_eq_true rfl)⟩) hP hD hS hA [] (by decide) rfl rfl rfl rfl (fun H locs hP hD hS => ?_)
  refine lv_istore (lv' := [(4, .int q11), (0, .ref (E.2 18)), (1, .ref (ax 0)), (2, .ref (ay 0)), (3, .int now)]) hx hb dL_law_337 hl (by decide) rfl (fun ls hl => ?_)
  refine lv_iload hx hb dL_law_339 (lv_at hl 0 rfl) ?_
  refine lv_bipush (v := 15) hx hb dL_law_341 (by decide) ?_
  refine lv_iand hx hb dL_law_343 ?_
  refine lv_bipush (v := 8) hx hb dL_law_344 (by decide) ?_
  refine lv_isub hx hb dL_law_346 ?_
  refine lv_topi (fun v12 ev12 => ?_)
  have hF := q_lti ev12 hF
  refine lv_istore (lv' := [(5, .int v12), (4, .int q11), (0, .ref (E.2 18)), (1, .ref (ax 0)), (2, .ref (ay 0)), (3, .int now)]) hx hb dL_law_347 hl (by decide) rfl (fun ls hl => ?_)
  refine lv_iconst (v := 1) hx hb dL_law_349 (by decide) ?_
  refine lv_iload hx hb dL_law_350 (lv_at hl 1 rfl) ?_
  refine lv_iconst (v := 4) hx hb dL_law_352 (by decide) ?_
  refine lv_ishr hx hb dL_law_353 ?_
  refine lv_bipush (v := 7) hx hb dL_law_354 (by decide) ?_
  refine lv_iand hx hb dL_law_356 ?_
  refine lv_iadd hx hb dL_law_357 ?_
  refine lv_topi (fun v13 ev13 => ?_)
  have hF := q_lti ev13 hF
  refine lv_istore (lv' := [(6, .int v13), (5, .int v12), (4, .int q11), (0, .ref (E.2 18)), (1, .ref (ax 0)), (2, .ref (ay 0)), (3, .int now)]) hx hb dL_law_358 hl (by decide) rfl (fun ls hl => ?_)
  refine vi_new (C := RX10) (T := TX10) (N := 10) (ci := 11) (fs := [.null, .null, .null, .null, .null, .null, .null, .int 0, .int 0, .int 0]) hx hb hst ha in_X10 tyX10 tyX10_ok hown mw56 mw57 mw26 hP hD hS hA rfl (by decide +kernel) (Nat.le_of_ble_eq_true rfl) (Nat.le_of_ble_eq_true rfl) dL_law_360 (fun q901 H hP hD hS => ?_)
  have hP : va_P E.1 vwCl (List.flatten [w_VB1 E ax 0 x, w_VB1 E ay 0 y, [(q901, .inr (11, [.null, .null, .null, .null, .null, .null, .null, .int 0, .int 0, .int 0]))]]) H := hP
  have hD : va_D A (List.flatten [w_VB1 E ax 0 x, w_VB1 E ay 0 y, [(q901, .inr (11, [.null, .null, .null, .null, .null, .null, .null, .int 0, .int 0, .int 0]))]]) := hD
  refine lv_dup hx hb dL_law_363 rfl ?_
  refine cl_c (L0 := [w_VB1 E ax 0 x, w_VB1 E ay 0 y]) (Lc := [[(q901, .inr (11, [.null, .null, .null, .null, .null, .null, .null, .int 0, .int 0, .int 0]))]]) (a0 := q901) (Lf := fun aN => bl_VB E aN 0 ((v_init, v_init, (fun _ => v_init, 0, 0), ((fun _ => 0, 0, fun _ => none, fun _ => 0), (fun _ => 0, 0, fun _ => 0, 0), (1, 0, 0)), (fun _ => 0, fun _ => 0, 0)), ((0, 0, 10), (fun _ => 0, 16, (aN 36), 0, 0), 0, (-1), (-1)))) (va_runI (As := []) (rest := [.ref q901]) ⟨hx, hb, hml, hown, ha⟩ (k_X10_init l E q901 H.size) (cwI 0 ha (gi_B (fun _ h => h) mw60) rfl rfl rfl (ha _ mw26) (ha _ mw58) (ha _ mw59) rfl hv_X10_init ⟨(Nat.le_of_ble_eq_true rfl), (Nat.le_of_ble_eq_true rfl)⟩) ⟨pre_blind, pre_at (L := [w_VB1 E ax 0 x, w_VB1 E ay 0 y, [(q901, .inr (11, [.null, .null, .null, .null, .null, .null, .null, .int 0, .int 0, .int 0]))]]) hP hD hS hz hzs hst [2] (by decide) rfl rfl⟩ rfl rfl hl.1 rfl (lv_room (Nat.le_of_ble_eq_true rfl)) dL_law_364 ⟨(Nat.le_of_ble_eq_true rfl), (Nat.le_of_ble_eq_true rfl)⟩) hP hD hS hA (fun b902 Hn ln ha0 hPn hDn hSn => ?_)
  clear hP hD hS
  subst ha0
  revert hPn hDn hSn; revert ln; revert Hn; intro H locs hP hD hS
  have hP : va_P E.1 vwCl (List.flatten [w_VB1 E ax 0 x, w_VB1 E ay 0 y, w_VB1 E b902 0 vbi]) H := P_one (L0 := [w_VB1 E ax 0 x, w_VB1 E ay 0 y]) (X := bl_VB E b902 0 ((v_init, v_init, (fun _ => v_init, 0, 0), ((fun _ => 0, 0, fun _ => none, fun _ => 0), (fun _ => 0, 0, fun _ => 0, 0), (1, 0, 0)), (fun _ => 0, fun _ => 0, 0)), ((0, 0, 10), (fun _ => 0, 16, (b902 36), 0, 0), 0, (-1), (-1)))) hP
  have hD : va_D A (List.flatten [w_VB1 E ax 0 x, w_VB1 E ay 0 y, w_VB1 E b902 0 vbi]) := D_one (L0 := [w_VB1 E ax 0 x, w_VB1 E ay 0 y]) (X := bl_VB E b902 0 ((v_init, v_init, (fun _ => v_init, 0, 0), ((fun _ => 0, 0, fun _ => none, fun _ => 0), (fun _ => 0, 0, fun _ => 0, 0), (1, 0, 0)), (fun _ => 0, fun _ => 0, 0)), ((0, 0, 10), (fun _ => 0, 16, (b902 36), 0, 0), 0, (-1), (-1)))) hD
  refine lv_astore (lv' := [(7, .ref (b902 0)), (6, .int v13), (5, .int v12), (4, .int q11), (0, .ref (E.2 18)), (1, .ref (ax 0)), (2, .ref (ay 0)), (3, .int now)]) hx hb dL_law_367 hl (by decide) rfl (fun ls hl => ?_)
  obtain rfl := Option.some.inj hF
  exact hK b902 H locs ls hP hD hS (lv_sub hl [4, 5, 6, 7, 2, 1, 0] rfl)
