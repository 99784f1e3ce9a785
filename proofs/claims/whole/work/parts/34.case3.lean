/-! case 20 -/
theorem dL_law_1433 : decode cL_law 1433 = .ok (.aload_n 1, 1) := by decide +kernel
theorem dL_law_1434 : decode cL_law 1434 = .ok (.aload_n 0, 1) := by decide +kernel
theorem dL_law_1435 : decode cL_law 1435 = .ok (.iload 5, 2) := by decide +kernel
theorem dL_law_1437 : decode cL_law 1437 = .ok (.iconst 1, 1) := by decide +kernel
theorem dL_law_1438 : decode cL_law 1438 = .ok (.iadd, 1) := by decide +kernel
theorem dL_law_1439 : decode cL_law 1439 = .ok (.iaload, 1) := by decide +kernel
theorem dL_law_1440 : decode cL_law 1440 = .ok (.aload_n 3, 1) := by decide +kernel
theorem dL_law_1441 : decode cL_law 1441 = .ok (.invokestatic 225, 3) := by decide +kernel
theorem dL_law_1444 : decode cL_law 1444 = .ok (.istore 6, 2) := by decide +kernel
theorem dL_law_1446 : decode cL_law 1446 = .ok (.aload_n 2, 1) := by decide +kernel
theorem dL_law_1447 : decode cL_law 1447 = .ok (.aload_n 0, 1) := by decide +kernel
theorem dL_law_1448 : decode cL_law 1448 = .ok (.iload 5, 2) := by decide +kernel
theorem dL_law_1450 : decode cL_law 1450 = .ok (.iconst 1, 1) := by decide +kernel
theorem dL_law_1451 : decode cL_law 1451 = .ok (.iadd, 1) := by decide +kernel
theorem dL_law_1452 : decode cL_law 1452 = .ok (.iaload, 1) := by decide +kernel
theorem dL_law_1453 : decode cL_law 1453 = .ok (.invokevirtual 227, 3) := by decide +kernel
theorem dL_law_1456 : decode cL_law 1456 = .ok (.istore 7, 2) := by decide +kernel
theorem dL_law_1458 : decode cL_law 1458 = .ok (.aload_n 2, 1) := by decide +kernel
theorem dL_law_1459 : decode cL_law 1459 = .ok (.invokevirtual 160, 3) := by decide +kernel
theorem dL_law_1462 : decode cL_law 1462 = .ok (.iload 6, 2) := by decide +kernel
theorem dL_law_1464 : decode cL_law 1464 = .ok (.if_icmp .eq 5, 3) := by decide +kernel
theorem dL_law_1469 : decode cL_law 1469 = .ok (.iload 6, 2) := by decide +kernel
theorem dL_law_1471 : decode cL_law 1471 = .ok (.ifCond .ne 15, 3) := by decide +kernel
theorem dL_law_1474 : decode cL_law 1474 = .ok (.aload_n 3, 1) := by decide +kernel
theorem dL_law_1475 : decode cL_law 1475 = .ok (.iconst 0, 1) := by decide +kernel
theorem dL_law_1476 : decode cL_law 1476 = .ok (.laload, 1) := by decide +kernel
theorem dL_law_1477 : decode cL_law 1477 = .ok (.iload 7, 2) := by decide +kernel
theorem dL_law_1479 : decode cL_law 1479 = .ok (.i2l, 1) := by decide +kernel
theorem dL_law_1480 : decode cL_law 1480 = .ok (.lcmp, 1) := by decide +kernel
theorem dL_law_1481 : decode cL_law 1481 = .ok (.ifCond .eq 5, 3) := by decide +kernel
theorem dL_law_1486 : decode cL_law 1486 = .ok (.goto 1395, 3) := by decide +kernel
def f_case20 (x_valley_key_tonic : Int32) (x_valley_key_isMinor : Int32) (x_valley_bells_pitches : (Nat → Int32)) (x_valley_bells_count : Int32) (y_g : (Nat → Int32)) (y_thrown : Int32) (z_v : (Nat → Int64)) (xs : (Nat → Int32)) (n : Nat) (i : Int32) : Option (Int32 × (Nat → Int64)) :=
  q_gd (q_in (i + 1) n) (
  q_bd (f_L_centsToKeyByNotes x_valley_key_tonic x_valley_key_isMinor x_valley_bells_pitches x_valley_bells_count z_v (xs (i + 1).toNatClampNeg)) (fun q2 =>
  q_gd (q_in (i + 1) n) (
  q_bd (f_X11_centsToKeyByNotes y_g y_thrown (xs (i + 1).toNatClampNeg)) (fun q4 =>
  q_bd (f_X11_thrown q4.2) (fun q5 =>
  q_br (q5 = q2.1) (
  q_br (q2.1 = 0) (
  q_br ((lg_cmp (q2.2 0) (q4.1.toInt64)) = 0) (
  some (q4.2, q2.2)) (
  none)) (
  some (q4.2, q2.2))) (
  none))))))
set_option maxHeartbeats 4000000 in
set_option maxRecDepth 100000 in
theorem kc_20 {p : Program} {e : Env} {s : State} {m : MethodId} {args : Array Value} {below : List Frame} {meth : Method} {c : Code} {Q : State → Prop} {A : Nat → Prop} (l : Launch) (hlt : l.stackTraces = false) (E : ET) (a : Nat → Nat) (o : Nat) (x : VB_t) (ay : Nat → Nat) (oy : Nat) (y : Model_t) (az : Nat → Nat) (oz : Nat) (z : Nat → Int64) (aw : Nat → Nat) (ow : Nat) (w : Nat → UInt64) (b n : Nat) (xs : Nat → Int32) (i : Int32) (hx : p.tables.exec = Jvm.exec) (hb : c.code = cL_law) (hml : c.maxLocals = 9) (hown : s.vm.findClass RL = some m.cls) (ha : ∀ w ∈ lw_all, w.before args s = true) (hA : ∀ q, s.heap.size ≤ q → A q) (hz : ∀ q, A q → E.2 0 ≤ q) (hzs : E.2 0 ≤ s.heap.size) (hst : ST E s) (hX : va_X b n xs s s.heap) (hbl : b < s.heap.size) (hbA : ¬ A b) (res : Int32 × (Nat → Int64)) (hF : f_case20 x.1.1.1.1 x.1.1.1.2.1 x.1.1.2.1.2.1 x.1.1.2.1.2.2 y.1.1 y.2.2.2.1 z xs n i = some res) {H : Heap} {locs : List Loc} {ls : Array Slot} {cv sv : Nat} (hcv : cv + 60 ≤ 603072) (hsv : sv + 5100 ≤ 7207018) (hP : va_P E.1 vwCl (List.flatten [w_VBR a o x.2.2.2.1 x.2.2.2.2.1 x.2.2.2.2.2, w_ValleyR a (o + 1), w_Key E a (o + 2) x.1.1.1, w_Bells E a (o + 3) x.1.1.2.1, w_Mel E a (o + 6) x.1.1.2.2.1, w_Cliffs E a (o + 10) x.1.1.2.2.2, w_ValleyR a (o + 13), w_Key E a (o + 14) x.1.2.1.1, w_Bells E a (o + 15) x.1.2.1.2.1, w_Mel E a (o + 18) x.1.2.1.2.2.1, w_Cliffs E a (o + 22) x.1.2.1.2.2.2, w_Prog E a (o + 25) x.1.2.2.2.1, w_Chord E a (o + 31) x.1.2.2.2.2, w_Key E a (o + 34) x.2.1, w_Line E a (o + 35) x.2.2.1, w_Hist E a (o + 37) x.1.2.2.1, w_Model E ay oy y, w_LongArr E az oz z, w_DblArr E aw ow w]) H) (hD : va_D A (List.flatten [w_VBR a o x.2.2.2.1 x.2.2.2.2.1 x.2.2.2.2.2, w_ValleyR a (o + 1), w_Key E a (o + 2) x.1.1.1, w_Bells E a (o + 3) x.1.1.2.1, w_Mel E a (o + 6) x.1.1.2.2.1, w_Cliffs E a (o + 10) x.1.1.2.2.2, w_ValleyR a (o + 13), w_Key E a (o + 14) x.1.2.1.1, w_Bells E a (o + 15) x.1.2.1.2.1, w_Mel E a (o + 18) x.1.2.1.2.2.1, w_Cliffs E a (o + 22) x.1.2.1.2.2.2, w_Prog E a (o + 25) x.1.2.2.2.1, w_Chord E a (o + 31) x.1.2.2.2.2, w_Key E a (o + 34) x.2.1, w_Line E a (o + 35) x.2.2.1, w_Hist E a (o + 37) x.1.2.2.1, w_Model E ay oy y, w_LongArr E az oz z, w_DblArr E aw ow w])) (hS : va_S A s.heap H locs) (hl : lv_has ls 9 [(0, .ref b), (1, .ref (a o)), (2, .ref (ay oy)), (3, .ref (az oz)), (4, .ref (aw ow)), (5, .int i)])
    (hK : ∀ (H : Heap) (locs : List Loc) (ls : Array Slot), va_P E.1 vwCl (List.flatten (bl_VB E a o x ++ (bl_Model E ay oy ((y.1.1, y.1.2.1, y.1.2.2.1, y.1.2.2.2.1, y.1.2.2.2.2), (y.2.1.1, y.2.1.2.1, y.2.1.2.2.1, y.2.1.2.2.2.1, y.2.1.2.2.2.2), (y.2.2.1.1, y.2.2.1.2.1, y.2.2.1.2.2.1, y.2.2.1.2.2.2), (res.1, y.2.2.2.2.1, y.2.2.2.2.2.1, y.2.2.2.2.2.2)) ++ (bl_LongArr E az oz res.2 ++ bl_DblArr E aw ow w)))) H → va_D A (List.flatten (bl_VB E a o x ++ (bl_Model E ay oy ((y.1.1, y.1.2.1, y.1.2.2.1, y.1.2.2.2.1, y.1.2.2.2.2), (y.2.1.1, y.2.1.2.1, y.2.1.2.2.1, y.2.1.2.2.2.1, y.2.1.2.2.2.2), (y.2.2.1.1, y.2.2.1.2.1, y.2.2.1.2.2.1, y.2.2.1.2.2.2), (res.1, y.2.2.2.2.1, y.2.2.2.2.2.1, y.2.2.2.2.2.2)) ++ (bl_LongArr E az oz res.2 ++ bl_DblArr E aw ow w)))) → va_S A s.heap H locs → lv_has ls 9 [(0, .ref b), (1, .ref (a o)), (2, .ref (ay oy)), (3, .ref (az oz)), (4, .ref (aw ow)), (5, .int i)] → W p l e room_1 s m args below meth c H locs (cv + 60) (sv + 5100) Q (F0 m 2881 ls [])) : W p l e room_1 s m args below meth c H locs cv sv Q (F0 m 1433 ls []) := by
  unfold f_case20 at hF
  refine lv_aload_n hx hb dL_law_1433 rfl (lv_at hl 1 rfl) ?_
  refine lv_aload_n hx hb dL_law_1434 rfl (lv_at hl 0 rfl) ?_
  refine lv_iload hx hb dL_law_1435 (lv_at hl 5 rfl) ?_
  refine lv_iconst (v := 1) hx hb dL_law_1437 (by decide) ?_
  refine lv_iadd hx hb dL_law_1438 ?_
  obtain ⟨g1, hF⟩ := q_gdi hF
  refine va_sld hx hb hX hbl hbA hS g1 dL_law_1439 ?_
  refine lv_aload_n hx hb dL_law_1440 rfl (lv_at hl 3 rfl) ?_
  have hP : va_P E.1 vwCl (List.flatten [w_VBR a o x.2.2.2.1 x.2.2.2.2.1 x.2.2.2.2.2, w_ValleyR a (o + 1), w_Key E a (o + 2) x.1.1.1, w_Bells E a (o + 3) x.1.1.2.1, w_Mel E a (o + 6) x.1.1.2.2.1, w_Cliffs E a (o + 10) x.1.1.2.2.2, w_ValleyR a (o + 13), w_Key E a (o + 14) x.1.2.1.1, w_Bells E a (o + 15) x.1.2.1.2.1, w_Mel E a (o + 18) x.1.2.1.2.2.1, w_Cliffs E a (o + 22) x.1.2.1.2.2.2, w_Prog E a (o + 25) x.1.2.2.2.1, w_Chord E a (o + 31) x.1.2.2.2.2, w_Key E a (o + 34) x.2.1, w_Line E a (o + 35) x.2.2.1, w_Hist E a (o + 37) x.1.2.2.1, w_Model E ay oy y, w_LongArr E az oz z, w_DblArr E aw ow w]) H := hP
  have hD : va_D A (List.flatten [w_VBR a o x.2.2.2.1 x.2.2.2.2.1 x.2.2.2.2.2, w_ValleyR a (o + 1), w_Key E a (o + 2) x.1.1.1, w_Bells E a (o + 3) x.1.1.2.1, w_Mel E a (o + 6) x.1.1.2.2.1, w_Cliffs E a (o + 10) x.1.1.2.2.2, w_ValleyR a (o + 13), w_Key E a (o + 14) x.1.2.1.1, w_Bells E a (o + 15) x.1.2.1.2.1, w_Mel E a (o + 18) x.1.2.1.2.2.1, w_Cliffs E a (o + 22) x.1.2.1.2.2.2, w_Prog E a (o + 25) x.1.2.2.2.1, w_Chord E a (o + 31) x.1.2.2.2.2, w_Key E a (o + 34) x.2.1, w_Line E a (o + 35) x.2.2.1, w_Hist E a (o + 37) x.1.2.2.1, w_Model E ay oy y, w_LongArr E az oz z, w_DblArr E aw ow w]) := hD
  obtain ⟨q2, hq2, hF⟩ := q_bdi hF
  refine cl_i (Lc := [w_VBR a o x.2.2.2.1 x.2.2.2.2.1 x.2.2.2.2.2, w_ValleyR a (o + 1), w_Key E a (o + 2) x.1.1.1, w_Bells E a (o + 3) x.1.1.2.1, w_Mel E a (o + 6) x.1.1.2.2.1, w_Cliffs E a (o + 10) x.1.1.2.2.2, w_ValleyR a (o + 13), w_Key E a (o + 14) x.1.2.1.1, w_Bells E a (o + 15) x.1.2.1.2.1, w_Mel E a (o + 18) x.1.2.1.2.2.1, w_Cliffs E a (o + 22) x.1.2.1.2.2.2, w_Prog E a (o + 25) x.1.2.2.2.1, w_Chord E a (o + 31) x.1.2.2.2.2, w_Key E a (o + 34) x.2.1, w_Line E a (o + 35) x.2.2.1, w_Hist E a (o + 37) x.1.2.2.1, w_LongArr E az oz z]) (Lc' := [w_VBR a o x.2.2.2.1 x.2.2.2.2.1 x.2.2.2.2.2, w_ValleyR a (o + 1), w_Key E a (o + 2) x.1.1.1, w_Bells E a (o + 3) x.1.1.2.1, w_Mel E a (o + 6) x.1.1.2.2.1, w_Cliffs E a (o + 10) x.1.1.2.2.2, w_ValleyR a (o + 13), w_Key E a (o + 14) x.1.2.1.1, w_Bells E a (o + 15) x.1.2.1.2.1, w_Mel E a (o + 18) x.1.2.1.2.2.1, w_Cliffs E a (o + 22) x.1.2.1.2.2.2, w_Prog E a (o + 25) x.1.2.2.2.1, w_Chord E a (o + 31) x.1.2.2.2.2, w_Key E a (o + 34) x.2.1, w_Line E a (o + 35) x.2.2.1, w_Hist E a (o + 37) x.1.2.2.1, w_LongArr E az oz q2.2]) (L' := [w_VBR a o x.2.2.2.1 x.2.2.2.2.1 x.2.2.2.2.2, w_ValleyR a (o + 1), w_Key E a (o + 2) x.1.1.1, w_Bells E a (o + 3) x.1.1.2.1, w_Mel E a (o + 6) x.1.1.2.2.1, w_Cliffs E a (o + 10) x.1.1.2.2.2, w_ValleyR a (o + 13), w_Key E a (o + 14) x.1.2.1.1, w_Bells E a (o + 15) x.1.2.1.2.1, w_Mel E a (o + 18) x.1.2.1.2.2.1, w_Cliffs E a (o + 22) x.1.2.1.2.2.2, w_Prog E a (o + 25) x.1.2.2.2.1, w_Chord E a (o + 31) x.1.2.2.2.2, w_Key E a (o + 34) x.2.1, w_Line E a (o + 35) x.2.2.1, w_Hist E a (o + 37) x.1.2.2.1, w_Model E ay oy y, w_LongArr E az oz q2.2, w_DblArr E aw ow w]) (rv := q2.1) (vx_runSW (As := [.ref (a o), .int (xs (i + 1).toNatClampNeg), .ref (az oz)]) (rest := []) ⟨hx, hb, hml, hown, ha⟩ (k_L_centsToKeyByNotes l E a o x az oz z (xs (i + 1).toNatClampNeg) q2 hq2 H.size hlt) (vx_cwSW 3 ha (gi_TH (fun _ h => h) mw1258 mw1259 mw73 mw1260) rfl rfl rfl hv_L_centsToKeyByNotes.2 ⟨(Nat.le_of_ble_eq_true rfl), (Nat.le_of_ble_eq_true rfl)⟩) ⟨pre_blind, pre_at hP hD hS hz hzs hst [0, 1, 2, 3, 4, 5, 6, 7, 8, 9, 10, 11, 12, 13, 14, 15, 17] (by decide) rfl rfl⟩ rfl rfl hl.1 rfl (lv_room (Nat.le_of_ble_eq_true rfl)) dL_law_1441 ⟨by show cv + 1 ≤ 603072; omega, by show sv + 6 ≤ 7207018; omega⟩) hP hD hS hA [0, 1, 2, 3, 4, 5, 6, 7, 8, 9, 10, 11, 12, 13, 14, 15, 17] (by decide) rfl rfl rfl rfl (fun H locs hP hD hS => ?_)
  refine lv_istore (lv' := [(6, .int q2.1), (0, .ref b), (1, .ref (a o)), (2, .ref (ay oy)), (3, .ref (az oz)), (4, .ref (aw ow)), (5, .int i)]) hx hb dL_law_1444 hl (by decide) rfl (fun ls hl => ?_)
  refine lv_aload_n hx hb dL_law_1446 rfl (lv_at hl 3 rfl) ?_
  refine lv_aload_n hx hb dL_law_1447 rfl (lv_at hl 1 rfl) ?_
  refine lv_iload hx hb dL_law_1448 (lv_at hl 6 rfl) ?_
  refine lv_iconst (v := 1) hx hb dL_law_1450 (by decide) ?_
  refine lv_iadd hx hb dL_law_1451 ?_
  obtain ⟨g3, hF⟩ := q_gdi hF
  refine va_sld hx hb hX hbl hbA hS g3 dL_law_1452 ?_
  obtain ⟨q4, hq4, hF⟩ := q_bdi hF
  refine cl_i (Lc := [w_Model E ay oy y]) (Lc' := [w_Model E ay oy ((y.1.1, y.1.2.1, y.1.2.2.1, y.1.2.2.2.1, y.1.2.2.2.2), (y.2.1.1, y.2.1.2.1, y.2.1.2.2.1, y.2.1.2.2.2.1, y.2.1.2.2.2.2), (y.2.2.1.1, y.2.2.1.2.1, y.2.2.1.2.2.1, y.2.2.1.2.2.2), (q4.2, y.2.2.2.2.1, y.2.2.2.2.2.1, y.2.2.2.2.2.2))]) (L' := [w_VBR a o x.2.2.2.1 x.2.2.2.2.1 x.2.2.2.2.2, w_ValleyR a (o + 1), w_Key E a (o + 2) x.1.1.1, w_Bells E a (o + 3) x.1.1.2.1, w_Mel E a (o + 6) x.1.1.2.2.1, w_Cliffs E a (o + 10) x.1.1.2.2.2, w_ValleyR a (o + 13), w_Key E a (o + 14) x.1.2.1.1, w_Bells E a (o + 15) x.1.2.1.2.1, w_Mel E a (o + 18) x.1.2.1.2.2.1, w_Cliffs E a (o + 22) x.1.2.1.2.2.2, w_Prog E a (o + 25) x.1.2.2.2.1, w_Chord E a (o + 31) x.1.2.2.2.2, w_Key E a (o + 34) x.2.1, w_Line E a (o + 35) x.2.2.1, w_Hist E a (o + 37) x.1.2.2.1, w_Model E ay oy ((y.1.1, y.1.2.1, y.1.2.2.1, y.1.2.2.2.1, y.1.2.2.2.2), (y.2.1.1, y.2.1.2.1, y.2.1.2.2.1, y.2.1.2.2.2.1, y.2.1.2.2.2.2), (y.2.2.1.1, y.2.2.1.2.1, y.2.2.1.2.2.1, y.2.2.1.2.2.2), (q4.2, y.2.2.2.2.1, y.2.2.2.2.2.1, y.2.2.2.2.2.2)), w_LongArr E az oz q2.2, w_DblArr E aw ow w]) (rv := q4.1) (va_runV (As := [.int (xs (i + 1).toNatClampNeg)]) (rest := []) ⟨hx, hb, hml, hown, ha⟩ (k_X11_centsToKeyByNotes l E ay oy y (xs (i + 1).toNatClampNeg) q4 hq4 H.size) (cwV 1 ha (gi_V (fun _ h => h) mw1893 mw1894 mw1895 mw87 mw1896) rfl rfl rfl hv_X11_centsToKeyByNotes ⟨(Nat.le_of_ble_eq_true rfl), (Nat.le_of_ble_eq_true rfl)⟩) ⟨pre_blind, va_recv hst.k (fr_P hP [16] rfl) (ci := 13) (q0 := 0) rfl rfl, pre_at hP hD hS hz hzs hst [16] (by decide) rfl rfl⟩ rfl rfl hl.1 rfl (lv_room (Nat.le_of_ble_eq_true rfl)) dL_law_1453 ⟨by show cv + 1 + 0 ≤ 603072; omega, by show sv + 6 + 0 ≤ 7207018; omega⟩) hP hD hS hA [16] (by decide) rfl rfl rfl rfl (fun H locs hP hD hS => ?_)
  refine lv_istore (lv' := [(7, .int q4.1), (6, .int q2.1), (0, .ref b), (1, .ref (a o)), (2, .ref (ay oy)), (3, .ref (az oz)), (4, .ref (aw ow)), (5, .int i)]) hx hb dL_law_1456 hl (by decide) rfl (fun ls hl => ?_)
  refine lv_aload_n hx hb dL_law_1458 rfl (lv_at hl 4 rfl) ?_
  obtain ⟨q5, hq5, hF⟩ := q_bdi hF
  refine cl_i (Lc := [w_Model E ay oy ((y.1.1, y.1.2.1, y.1.2.2.1, y.1.2.2.2.1, y.1.2.2.2.2), (y.2.1.1, y.2.1.2.1, y.2.1.2.2.1, y.2.1.2.2.2.1, y.2.1.2.2.2.2), (y.2.2.1.1, y.2.2.1.2.1, y.2.2.1.2.2.1, y.2.2.1.2.2.2), (q4.2, y.2.2.2.2.1, y.2.2.2.2.2.1, y.2.2.2.2.2.2))]) (Lc' := [w_Model E ay oy ((y.1.1, y.1.2.1, y.1.2.2.1, y.1.2.2.2.1, y.1.2.2.2.2), (y.2.1.1, y.2.1.2.1, y.2.1.2.2.1, y.2.1.2.2.2.1, y.2.1.2.2.2.2), (y.2.2.1.1, y.2.2.1.2.1, y.2.2.1.2.2.1, y.2.2.1.2.2.2), (q4.2, y.2.2.2.2.1, y.2.2.2.2.2.1, y.2.2.2.2.2.2))]) (L' := [w_VBR a o x.2.2.2.1 x.2.2.2.2.1 x.2.2.2.2.2, w_ValleyR a (o + 1), w_Key E a (o + 2) x.1.1.1, w_Bells E a (o + 3) x.1.1.2.1, w_Mel E a (o + 6) x.1.1.2.2.1, w_Cliffs E a (o + 10) x.1.1.2.2.2, w_ValleyR a (o + 13), w_Key E a (o + 14) x.1.2.1.1, w_Bells E a (o + 15) x.1.2.1.2.1, w_Mel E a (o + 18) x.1.2.1.2.2.1, w_Cliffs E a (o + 22) x.1.2.1.2.2.2, w_Prog E a (o + 25) x.1.2.2.2.1, w_Chord E a (o + 31) x.1.2.2.2.2, w_Key E a (o + 34) x.2.1, w_Line E a (o + 35) x.2.2.1, w_Hist E a (o + 37) x.1.2.2.1, w_Model E ay oy ((y.1.1, y.1.2.1, y.1.2.2.1, y.1.2.2.2.1, y.1.2.2.2.2), (y.2.1.1, y.2.1.2.1, y.2.1.2.2.1, y.2.1.2.2.2.1, y.2.1.2.2.2.2), (y.2.2.1.1, y.2.2.1.2.1, y.2.2.1.2.2.1, y.2.2.1.2.2.2), (q4.2, y.2.2.2.2.1, y.2.2.2.2.2.1, y.2.2.2.2.2.2)), w_LongArr E az oz q2.2, w_DblArr E aw ow w]) (rv := q5) (va_runV (As := []) (rest := []) ⟨hx, hb, hml, hown, ha⟩ (k_X11_thrown l E ay oy ((y.1.1, y.1.2.1, y.1.2.2.1, y.1.2.2.2.1, y.1.2.2.2.2), (y.2.1.1, y.2.1.2.1, y.2.1.2.2.1, y.2.1.2.2.2.1, y.2.1.2.2.2.2), (y.2.2.1.1, y.2.2.1.2.1, y.2.2.1.2.2.1, y.2.2.1.2.2.2), (q4.2, y.2.2.2.2.1, y.2.2.2.2.2.1, y.2.2.2.2.2.2)) q5 hq5 H.size) (cwV 0 ha (gi_V (fun _ h => h) mw1691 mw1692 mw1693 mw87 mw1694) rfl rfl rfl hv_X11_thrown ⟨(Nat.le_of_ble_eq_true rfl), (Nat.le_of_ble_eq_true rfl)⟩) ⟨pre_blind, va_recv hst.k (fr_P hP [16] rfl) (ci := 13) (q0 := 0) rfl rfl, pre_at hP hD hS hz hzs hst [16] (by decide) rfl rfl⟩ rfl rfl hl.1 rfl (lv_room (Nat.le_of_ble_eq_true rfl)) dL_law_1459 ⟨by show cv + 1 + 0 ≤ 603072; omega, by show sv + 6 + 0 ≤ 7207018; omega⟩) hP hD hS hA [16] (by decide) rfl rfl rfl rfl (fun H locs hP hD hS => ?_)
  refine lv_iload hx hb dL_law_1462 (lv_at hl 1 rfl) ?_
  refine lv_icmp_eq (tgt := 1469) hx hb dL_law_1464 (by decide) (fun c1464 => ?_) (fun c1464 => ?_)
  · have hF := q_brp c1464 hF
    refine lv_iload hx hb dL_law_1469 (lv_at hl 1 rfl) ?_
    refine lv_if_ne (tgt := 1486) hx hb dL_law_1471 (by decide) (fun c1471 => ?_) (fun c1471 => ?_)
    · have hF := q_brn c1471 hF
      refine lv_goto (tgt := 2881) hx hb dL_law_1486 (by decide) ?_
      obtain rfl := Option.some.inj hF
      refine W.widen (k := cv + 60) (n := sv + 5100) (by omega) (by omega) ?_
      exact hK H locs ls hP hD hS (lv_sub hl [2, 3, 4, 5, 6, 7] rfl)
    · have hF := q_brp c1471 hF
      refine lv_aload_n hx hb dL_law_1474 rfl (lv_at hl 5 rfl) ?_
      refine lv_iconst (v := 0) hx hb dL_law_1475 (by decide) ?_
      refine vi_lald hx hb hst.k hP 156 3 rfl rfl (f := q2.2) (k := 0) (by decide) (by decide) dL_law_1476 ?_
      refine lv_iload hx hb dL_law_1477 (lv_at hl 0 rfl) ?_
      refine lv_i2l hx hb dL_law_1479 rfl ?_
      refine W.lcmp hx hb dL_law_1480 ?_
      refine lv_if_eq (tgt := 1486) hx hb dL_law_1481 (by decide) (fun c1481 => ?_) (fun c1481 => ?_)
      · have hF := q_brp c1481 hF
        refine lv_goto (tgt := 2881) hx hb dL_law_1486 (by decide) ?_
        obtain rfl := Option.some.inj hF
        refine W.widen (k := cv + 60) (n := sv + 5100) (by omega) (by omega) ?_
        exact hK H locs ls hP hD hS (lv_sub hl [2, 3, 4, 5, 6, 7] rfl)
      · have hF := q_brn c1481 hF
        exact absurd hF (by simp)
  · have hF := q_brn c1464 hF
    exact absurd hF (by simp)
def f_c20 (x : VB_t) (y : Model_t) (z : Nat → Int64) (w : Nat → UInt64) (xs : Nat → Int32) (n : Nat) (i : Int32) : Option (VB_t × Model_t × (Nat → Int64) × (Nat → UInt64)) := q_bd (f_case20 x.1.1.1.1 x.1.1.1.2.1 x.1.1.2.1.2.1 x.1.1.2.1.2.2 y.1.1 y.2.2.2.1 z xs n i) (fun res => some (x, ((y.1.1, y.1.2.1, y.1.2.2.1, y.1.2.2.2.1, y.1.2.2.2.2), (y.2.1.1, y.2.1.2.1, y.2.1.2.2.1, y.2.1.2.2.2.1, y.2.1.2.2.2.2), (y.2.2.1.1, y.2.2.1.2.1, y.2.2.1.2.2.1, y.2.2.1.2.2.2), (res.1, y.2.2.2.2.1, y.2.2.2.2.2.1, y.2.2.2.2.2.2)), res.2, w))
/-! case 21 -/
theorem dL_law_1489 : decode cL_law 1489 = .ok (.aload_n 1, 1) := by decide +kernel
theorem dL_law_1490 : decode cL_law 1490 = .ok (.aload_n 0, 1) := by decide +kernel
theorem dL_law_1491 : decode cL_law 1491 = .ok (.iload 5, 2) := by decide +kernel
theorem dL_law_1493 : decode cL_law 1493 = .ok (.iconst 1, 1) := by decide +kernel
theorem dL_law_1494 : decode cL_law 1494 = .ok (.iadd, 1) := by decide +kernel
theorem dL_law_1495 : decode cL_law 1495 = .ok (.iaload, 1) := by decide +kernel
theorem dL_law_1496 : decode cL_law 1496 = .ok (.aload_n 3, 1) := by decide +kernel
theorem dL_law_1497 : decode cL_law 1497 = .ok (.invokestatic 228, 3) := by decide +kernel
theorem dL_law_1500 : decode cL_law 1500 = .ok (.istore 6, 2) := by decide +kernel
theorem dL_law_1502 : decode cL_law 1502 = .ok (.aload_n 2, 1) := by decide +kernel
theorem dL_law_1503 : decode cL_law 1503 = .ok (.aload_n 0, 1) := by decide +kernel
theorem dL_law_1504 : decode cL_law 1504 = .ok (.iload 5, 2) := by decide +kernel
theorem dL_law_1506 : decode cL_law 1506 = .ok (.iconst 1, 1) := by decide +kernel
theorem dL_law_1507 : decode cL_law 1507 = .ok (.iadd, 1) := by decide +kernel
theorem dL_law_1508 : decode cL_law 1508 = .ok (.iaload, 1) := by decide +kernel
theorem dL_law_1509 : decode cL_law 1509 = .ok (.invokevirtual 230, 3) := by decide +kernel
theorem dL_law_1512 : decode cL_law 1512 = .ok (.istore 7, 2) := by decide +kernel
theorem dL_law_1514 : decode cL_law 1514 = .ok (.aload_n 2, 1) := by decide +kernel
theorem dL_law_1515 : decode cL_law 1515 = .ok (.invokevirtual 160, 3) := by decide +kernel
theorem dL_law_1518 : decode cL_law 1518 = .ok (.iload 6, 2) := by decide +kernel
theorem dL_law_1520 : decode cL_law 1520 = .ok (.if_icmp .eq 5, 3) := by decide +kernel
theorem dL_law_1525 : decode cL_law 1525 = .ok (.iload 6, 2) := by decide +kernel
theorem dL_law_1527 : decode cL_law 1527 = .ok (.ifCond .ne 15, 3) := by decide +kernel
theorem dL_law_1530 : decode cL_law 1530 = .ok (.aload_n 3, 1) := by decide +kernel
theorem dL_law_1531 : decode cL_law 1531 = .ok (.iconst 0, 1) := by decide +kernel
theorem dL_law_1532 : decode cL_law 1532 = .ok (.laload, 1) := by decide +kernel
theorem dL_law_1533 : decode cL_law 1533 = .ok (.iload 7, 2) := by decide +kernel
theorem dL_law_1535 : decode cL_law 1535 = .ok (.i2l, 1) := by decide +kernel
theorem dL_law_1536 : decode cL_law 1536 = .ok (.lcmp, 1) := by decide +kernel
theorem dL_law_1537 : decode cL_law 1537 = .ok (.ifCond .eq 5, 3) := by decide +kernel
theorem dL_law_1542 : decode cL_law 1542 = .ok (.goto 1339, 3) := by decide +kernel
def f_case21 (x_valley_bells_pitches : (Nat → Int32)) (x_valley_bells_count : Int32) (y_g : (Nat → Int32)) (y_thrown : Int32) (z_v : (Nat → Int64)) (xs : (Nat → Int32)) (n : Nat) (i : Int32) : Option (Int32 × (Nat → Int64)) :=
  q_gd (q_in (i + 1) n) (
  q_bd (f_L_bellAtRank x_valley_bells_pitches x_valley_bells_count z_v (xs (i + 1).toNatClampNeg)) (fun q2 =>
  q_gd (q_in (i + 1) n) (
  q_bd (f_X11_bellAtRank y_g y_thrown (xs (i + 1).toNatClampNeg)) (fun q4 =>
  q_bd (f_X11_thrown q4.2) (fun q5 =>
  q_br (q5 = q2.1) (
  q_br (q2.1 = 0) (
  q_br ((lg_cmp (q2.2 0) (q4.1.toInt64)) = 0) (
  some (q4.2, q2.2)) (
  none)) (
  some (q4.2, q2.2))) (
  none))))))
set_option maxHeartbeats 4000000 in
set_option maxRecDepth 100000 in
theorem kc_21 {p : Program} {e : Env} {s : State} {m : MethodId} {args : Array Value} {below : List Frame} {meth : Method} {c : Code} {Q : State → Prop} {A : Nat → Prop} (l : Launch) (hlt : l.stackTraces = false) (E : ET) (a : Nat → Nat) (o : Nat) (x : VB_t) (ay : Nat → Nat) (oy : Nat) (y : Model_t) (az : Nat → Nat) (oz : Nat) (z : Nat → Int64) (aw : Nat → Nat) (ow : Nat) (w : Nat → UInt64) (b n : Nat) (xs : Nat → Int32) (i : Int32) (hx : p.tables.exec = Jvm.exec) (hb : c.code = cL_law) (hml : c.maxLocals = 9) (hown : s.vm.findClass RL = some m.cls) (ha : ∀ w ∈ lw_all, w.before args s = true) (hA : ∀ q, s.heap.size ≤ q → A q) (hz : ∀ q, A q → E.2 0 ≤ q) (hzs : E.2 0 ≤ s.heap.size) (hst : ST E s) (hX : va_X b n xs s s.heap) (hbl : b < s.heap.size) (hbA : ¬ A b) (res : Int32 × (Nat → Int64)) (hF : f_case21 x.1.1.2.1.2.1 x.1.1.2.1.2.2 y.1.1 y.2.2.2.1 z xs n i = some res) {H : Heap} {locs : List Loc} {ls : Array Slot} {cv sv : Nat} (hcv : cv + 60 ≤ 603072) (hsv : sv + 5100 ≤ 7207018) (hP : va_P E.1 vwCl (List.flatten [w_VBR a o x.2.2.2.1 x.2.2.2.2.1 x.2.2.2.2.2, w_ValleyR a (o + 1), w_Key E a (o + 2) x.1.1.1, w_Bells E a (o + 3) x.1.1.2.1, w_Mel E a (o + 6) x.1.1.2.2.1, w_Cliffs E a (o + 10) x.1.1.2.2.2, w_ValleyR a (o + 13), w_Key E a (o + 14) x.1.2.1.1, w_Bells E a (o + 15) x.1.2.1.2.1, w_Mel E a (o + 18) x.1.2.1.2.2.1, w_Cliffs E a (o + 22) x.1.2.1.2.2.2, w_Prog E a (o + 25) x.1.2.2.2.1, w_Chord E a (o + 31) x.1.2.2.2.2, w_Key E a (o + 34) x.2.1, w_Line E a (o + 35) x.2.2.1, w_Hist E a (o + 37) x.1.2.2.1, w_Model E ay oy y, w_LongArr E az oz z, w_DblArr E aw ow w]) H) (hD : va_D A (List.flatten [w_VBR a o x.2.2.2.1 x.2.2.2.2.1 x.2.2.2.2.2, w_ValleyR a (o + 1), w_Key E a (o + 2) x.1.1.1, w_Bells E a (o + 3) x.1.1.2.1, w_Mel E a (o + 6) x.1.1.2.2.1, w_Cliffs E a (o + 10) x.1.1.2.2.2, w_ValleyR a (o + 13), w_Key E a (o + 14) x.1.2.1.1, w_Bells E a (o + 15) x.1.2.1.2.1, w_Mel E a (o + 18) x.1.2.1.2.2.1, w_Cliffs E a (o + 22) x.1.2.1.2.2.2, w_Prog E a (o + 25) x.1.2.2.2.1, w_Chord E a (o + 31) x.1.2.2.2.2, w_Key E a (o + 34) x.2.1, w_Line E a (o + 35) x.2.2.1, w_Hist E a (o + 37) x.1.2.2.1, w_Model E ay oy y, w_LongArr E az oz z, w_DblArr E aw ow w])) (hS : va_S A s.heap H locs) (hl : lv_has ls 9 [(0, .ref b), (1, .ref (a o)), (2, .ref (ay oy)), (3, .ref (az oz)), (4, .ref (aw ow)), (5, .int i)])
    (hK : ∀ (H : Heap) (locs : List Loc) (ls : Array Slot), va_P E.1 vwCl (List.flatten (bl_VB E a o x ++ (bl_Model E ay oy ((y.1.1, y.1.2.1, y.1.2.2.1, y.1.2.2.2.1, y.1.2.2.2.2), (y.2.1.1, y.2.1.2.1, y.2.1.2.2.1, y.2.1.2.2.2.1, y.2.1.2.2.2.2), (y.2.2.1.1, y.2.2.1.2.1, y.2.2.1.2.2.1, y.2.2.1.2.2.2), (res.1, y.2.2.2.2.1, y.2.2.2.2.2.1, y.2.2.2.2.2.2)) ++ (bl_LongArr E az oz res.2 ++ bl_DblArr E aw ow w)))) H → va_D A (List.flatten (bl_VB E a o x ++ (bl_Model E ay oy ((y.1.1, y.1.2.1, y.1.2.2.1, y.1.2.2.2.1, y.1.2.2.2.2), (y.2.1.1, y.2.1.2.1, y.2.1.2.2.1, y.2.1.2.2.2.1, y.2.1.2.2.2.2), (y.2.2.1.1, y.2.2.1.2.1, y.2.2.1.2.2.1, y.2.2.1.2.2.2), (res.1, y.2.2.2.2.1, y.2.2.2.2.2.1, y.2.2.2.2.2.2)) ++ (bl_LongArr E az oz res.2 ++ bl_DblArr E aw ow w)))) → va_S A s.heap H locs → lv_has ls 9 [(0, .ref b), (1, .ref (a o)), (2, .ref (ay oy)), (3, .ref (az oz)), (4, .ref (aw ow)), (5, .int i)] → W p l e room_1 s m args below meth c H locs (cv + 60) (sv + 5100) Q (F0 m 2881 ls [])) : W p l e room_1 s m args below meth c H locs cv sv Q (F0 m 1489 ls []) := by
  unfold f_case21 at hF
  refine lv_aload_n hx hb dL_law_1489 rfl (lv_at hl 1 rfl) ?_
  refine lv_aload_n hx hb dL_law_1490 rfl (lv_at hl 0 rfl) ?_
  refine lv_iload hx hb dL_law_1491 (lv_at hl 5 rfl) ?_
  refine lv_iconst (v := 1) hx hb dL_law_1493 (by decide) ?_
  refine lv_iadd hx hb dL_law_1494 ?_
  obtain ⟨g1, hF⟩ := q_gdi hF
  refine va_sld hx hb hX hbl hbA hS g1 dL_law_1495 ?_
  refine lv_aload_n hx hb dL_law_1496 rfl (lv_at hl 3 rfl) ?_
  have hP : va_P E.1 vwCl (List.flatten [w_VBR a o x.2.2.2.1 x.2.2.2.2.1 x.2.2.2.2.2, w_ValleyR a (o + 1), w_Key E a (o + 2) x.1.1.1, w_Bells E a (o + 3) x.1.1.2.1, w_Mel E a (o + 6) x.1.1.2.2.1, w_Cliffs E a (o + 10) x.1.1.2.2.2, w_ValleyR a (o + 13), w_Key E a (o + 14) x.1.2.1.1, w_Bells E a (o + 15) x.1.2.1.2.1, w_Mel E a (o + 18) x.1.2.1.2.2.1, w_Cliffs E a (o + 22) x.1.2.1.2.2.2, w_Prog E a (o + 25) x.1.2.2.2.1, w_Chord E a (o + 31) x.1.2.2.2.2, w_Key E a (o + 34) x.2.1, w_Line E a (o + 35) x.2.2.1, w_Hist E a (o + 37) x.1.2.2.1, w_Model E ay oy y, w_LongArr E az oz z, w_DblArr E aw ow w]) H := hP
  have hD : va_D A (List.flatten [w_VBR a o x.2.2.2.1 x.2.2.2.2.1 x.2.2.2.2.2, w_ValleyR a (o + 1), w_Key E a (o + 2) x.1.1.1, w_Bells E a (o + 3) x.1.1.2.1, w_Mel E a (o + 6) x.1.1.2.2.1, w_Cliffs E a (o + 10) x.1.1.2.2.2, w_ValleyR a (o + 13), w_Key E a (o + 14) x.1.2.1.1, w_Bells E a (o + 15) x.1.2.1.2.1, w_Mel E a (o + 18) x.1.2.1.2.2.1, w_Cliffs E a (o + 22) x.1.2.1.2.2.2, w_Prog E a (o + 25) x.1.2.2.2.1, w_Chord E a (o + 31) x.1.2.2.2.2, w_Key E a (o + 34) x.2.1, w_Line E a (o + 35) x.2.2.1, w_Hist E a (o + 37) x.1.2.2.1, w_Model E ay oy y, w_LongArr E az oz z, w_DblArr E aw ow w]) := hD
  obtain ⟨q2, hq2, hF⟩ := q_bdi hF
  refine cl_i (Lc := [w_VBR a o x.2.2.2.1 x.2.2.2.2.1 x.2.2.2.2.2, w_ValleyR a (o + 1), w_Key E a (o + 2) x.1.1.1, w_Bells E a (o + 3) x.1.1.2.1, w_Mel E a (o + 6) x.1.1.2.2.1, w_Cliffs E a (o + 10) x.1.1.2.2.2, w_ValleyR a (o + 13), w_Key E a (o + 14) x.1.2.1.1, w_Bells E a (o + 15) x.1.2.1.2.1, w_Mel E a (o + 18) x.1.2.1.2.2.1, w_Cliffs E a (o + 22) x.1.2.1.2.2.2, w_Prog E a (o + 25) x.1.2.2.2.1, w_Chord E a (o + 31) x.1.2.2.2.2, w_Key E a (o + 34) x.2.1, w_Line E a (o + 35) x.2.2.1, w_Hist E a (o + 37) x.1.2.2.1, w_LongArr E az oz z]) (Lc' := [w_VBR a o x.2.2.2.1 x.2.2.2.2.1 x.2.2.2.2.2, w_ValleyR a (o + 1), w_Key E a (o + 2) x.1.1.1, w_Bells E a (o + 3) x.1.1.2.1, w_Mel E a (o + 6) x.1.1.2.2.1, w_Cliffs E a (o + 10) x.1.1.2.2.2, w_ValleyR a (o + 13), w_Key E a (o + 14) x.1.2.1.1, w_Bells E a (o + 15) x.1.2.1.2.1, w_Mel E a (o + 18) x.1.2.1.2.2.1, w_Cliffs E a (o + 22) x.1.2.1.2.2.2, w_Prog E a (o + 25) x.1.2.2.2.1, w_Chord E a (o + 31) x.1.2.2.2.2, w_Key E a (o + 34) x.2.1, w_Line E a (o + 35) x.2.2.1, w_Hist E a (o + 37) x.1.2.2.1, w_LongArr E az oz q2.2]) (L' := [w_VBR a o x.2.2.2.1 x.2.2.2.2.1 x.2.2.2.2.2, w_ValleyR a (o + 1), w_Key E a (o + 2) x.1.1.1, w_Bells E a (o + 3) x.1.1.2.1, w_Mel E a (o + 6) x.1.1.2.2.1, w_Cliffs E a (o + 10) x.1.1.2.2.2, w_ValleyR a (o + 13), w_Key E a (o + 14) x.1.2.1.1, w_Bells E a (o + 15) x.1.2.1.2.1, w_Mel E a (o + 18) x.1.2.1.2.2.1, w_Cliffs E a (o + 22) x.1.2.1.2.2.2, w_Prog E a (o + 25) x.1.2.2.2.1, w_Chord E a (o + 31) x.1.2.2.2.2, w_Key E a (o + 34) x.2.1, w_Line E a (o + 35) x.2.2.1, w_Hist E a (o + 37) x.1.2.2.1, w_Model E ay oy y, w_LongArr E az oz q2.2, w_DblArr E aw ow w]) (rv := q2.1) (vx_runSW (As := [.ref (a o), .int (xs (i + 1).toNatClampNeg), .ref (az oz)]) (rest := []) ⟨hx, hb, hml, hown, ha⟩ (k_L_bellAtRank l E a o x az oz z (xs (i + 1).toNatClampNeg) q2 hq2 H.size hlt) (vx_cwSW 3 ha (gi_TH (fun _ h => h) mw1265 mw1266 mw73 mw1267) rfl rfl rfl hv_L_bellAtRank.2 ⟨(Nat.le_of_ble_eq_true rfl), (Nat.le_of_ble_eq_true rfl)⟩) ⟨pre_blind, pre_at hP hD hS hz hzs hst [0, 1, 2, 3, 4, 5, 6, 7, 8, 9, 10, 11, 12, 13, 14, 15, 17] (by decide) rfl rfl⟩ rfl rfl hl.1 rfl (lv_room (Nat.le_of_ble_eq_true rfl)) dL_law_1497 ⟨by show cv + 1 ≤ 603072; omega, by show sv + 6 ≤ 7207018; omega⟩) hP hD hS hA [0, 1, 2, 3, 4, 5, 6, 7, 8, 9, 10, 11, 12, 13, 14, 15, 17] (by decide) rfl rfl rfl rfl (fun H locs hP hD hS => ?_)
  refine lv_istore (lv' := [(6, .int q2.1), (0, .ref b), (1, .ref (a o)), (2, .ref (ay oy)), (3, .ref (az oz)), (4, .ref (aw ow)), (5, .int i)]) hx hb dL_law_1500 hl (by decide) rfl (fun ls hl => ?_)
  refine lv_aload_n hx hb dL_law_1502 rfl (lv_at hl 3 rfl) ?_
  refine lv_aload_n hx hb dL_law_1503 rfl (lv_at hl 1 rfl) ?_
  refine lv_iload hx hb dL_law_1504 (lv_at hl 6 rfl) ?_
  refine lv_iconst (v := 1) hx hb dL_law_1506 (by decide) ?_
  refine lv_iadd hx hb dL_law_1507 ?_
  obtain ⟨g3, hF⟩ := q_gdi hF
  refine va_sld hx hb hX hbl hbA hS g3 dL_law_1508 ?_
  obtain ⟨q4, hq4, hF⟩ := q_bdi hF
  refine cl_i (Lc := [w_Model E ay oy y]) (Lc' := [w_Model E ay oy ((y.1.1, y.1.2.1, y.1.2.2.1, y.1.2.2.2.1, y.1.2.2.2.2), (y.2.1.1, y.2.1.2.1, y.2.1.2.2.1, y.2.1.2.2.2.1, y.2.1.2.2.2.2), (y.2.2.1.1, y.2.2.1.2.1, y.2.2.1.2.2.1, y.2.2.1.2.2.2), (q4.2, y.2.2.2.2.1, y.2.2.2.2.2.1, y.2.2.2.2.2.2))]) (L' := [w_VBR a o x.2.2.2.1 x.2.2.2.2.1 x.2.2.2.2.2, w_ValleyR a (o + 1), w_Key E a (o + 2) x.1.1.1, w_Bells E a (o + 3) x.1.1.2.1, w_Mel E a (o + 6) x.1.1.2.2.1, w_Cliffs E a (o + 10) x.1.1.2.2.2, w_ValleyR a (o + 13), w_Key E a (o + 14) x.1.2.1.1, w_Bells E a (o + 15) x.1.2.1.2.1, w_Mel E a (o + 18) x.1.2.1.2.2.1, w_Cliffs E a (o + 22) x.1.2.1.2.2.2, w_Prog E a (o + 25) x.1.2.2.2.1, w_Chord E a (o + 31) x.1.2.2.2.2, w_Key E a (o + 34) x.2.1, w_Line E a (o + 35) x.2.2.1, w_Hist E a (o + 37) x.1.2.2.1, w_Model E ay oy ((y.1.1, y.1.2.1, y.1.2.2.1, y.1.2.2.2.1, y.1.2.2.2.2), (y.2.1.1, y.2.1.2.1, y.2.1.2.2.1, y.2.1.2.2.2.1, y.2.1.2.2.2.2), (y.2.2.1.1, y.2.2.1.2.1, y.2.2.1.2.2.1, y.2.2.1.2.2.2), (q4.2, y.2.2.2.2.1, y.2.2.2.2.2.1, y.2.2.2.2.2.2)), w_LongArr E az oz q2.2, w_DblArr E aw ow w]) (rv := q4.1) (va_runV (As := [.int (xs (i + 1).toNatClampNeg)]) (rest := []) ⟨hx, hb, hml, hown, ha⟩ (k_X11_bellAtRank l E ay oy y (xs (i + 1).toNatClampNeg) q4 hq4 H.size) (cwV 1 ha (gi_V (fun _ h => h) mw1898 mw1899 mw1900 mw87 mw1901) rfl rfl rfl hv_X11_bellAtRank ⟨(Nat.le_of_ble_eq_true rfl), (Nat.le_of_ble_eq_true rfl)⟩) ⟨pre_blind, va_recv hst.k (fr_P hP [16] rfl) (ci := 13) (q0 := 0) rfl rfl, pre_at hP hD hS hz hzs hst [16] (by decide) rfl rfl⟩ rfl rfl hl.1 rfl (lv_room (Nat.le_of_ble_eq_true rfl)) dL_law_1509 ⟨by show cv + 1 + 0 ≤ 603072; omega, by show sv + 6 + 0 ≤ 7207018; omega⟩) hP hD hS hA [16] (by decide) rfl rfl rfl rfl (fun H locs hP hD hS => ?_)
  refine lv_istore (lv' := [(7, .int q4.1), (6, .int q2.1), (0, .ref b), (1, .ref (a o)), (2, .ref (ay oy)), (3, .ref (az oz)), (4, .ref (aw ow)), (5, .int i)]) hx hb dL_law_1512 hl (by decide) rfl (fun ls hl => ?_)
  refine lv_aload_n hx hb dL_law_1514 rfl (lv_at hl 4 rfl) ?_
  obtain ⟨q5, hq5, hF⟩ := q_bdi hF
  refine cl_i (Lc := [w_Model E ay oy ((y.1.1, y.1.2.1, y.1.2.2.1, y.1.2.2.2.1, y.1.2.2.2.2), (y.2.1.1, y.2.1.2.1, y.2.1.2.2.1, y.2.1.2.2.2.1, y.2.1.2.2.2.2), (y.2.2.1.1, y.2.2.1.2.1, y.2.2.1.2.2.1, y.2.2.1.2.2.2), (q4.2, y.2.2.2.2.1, y.2.2.2.2.2.1, y.2.2.2.2.2.2))]) (Lc' := [w_Model E ay oy ((y.1.1, y.1.2.1, y.1.2.2.1, y.1.2.2.2.1, y.1.2.2.2.2), (y.2.1.1, y.2.1.2.1, y.2.1.2.2.1, y.2.1.2.2.2.1, y.2.1.2.2.2.2), (y.2.2.1.1, y.2.2.1.2.1, y.2.2.1.2.2.1, y.2.2.1.2.2.2), (q4.2, y.2.2.2.2.1, y.2.2.2.2.2.1, y.2.2.2.2.2.2))]) (L' := [w_VBR a o x.2.2.2.1 x.2.2.2.2.1 x.2.2.2.2.2, w_ValleyR a (o + 1), w_Key E a (o + 2) x.1.1.1, w_Bells E a (o + 3) x.1.1.2.1, w_Mel E a (o + 6) x.1.1.2.2.1, w_Cliffs E a (o + 10) x.1.1.2.2.2, w_ValleyR a (o + 13), w_Key E a (o + 14) x.1.2.1.1, w_Bells E a (o + 15) x.1.2.1.2.1, w_Mel E a (o + 18) x.1.2.1.2.2.1, w_Cliffs E a (o + 22) x.1.2.1.2.2.2, w_Prog E a (o + 25) x.1.2.2.2.1, w_Chord E a (o + 31) x.1.2.2.2.2, w_Key E a (o + 34) x.2.1, w_Line E a (o + 35) x.2.2.1, w_Hist E a (o + 37) x.1.2.2.1, w_Model E ay oy ((y.1.1, y.1.2.1, y.1.2.2.1, y.1.2.2.2.1, y.1.2.2.2.2), (y.2.1.1, y.2.1.2.1, y.2.1.2.2.1, y.2.1.2.2.2.1, y.2.1.2.2.2.2), (y.2.2.1.1, y.2.2.1.2.1, y.2.2.1.2.2.1, y.2.2.1.2.2.2), (q4.2, y.2.2.2.2.1, y.2.2.2.2.2.1, y.2.2.2.2.2.2)), w_LongArr E az oz q2.2, w_DblArr E aw ow w]) (rv := q5) (va_runV (As := []) (rest := []) ⟨hx, hb, hml, hown, ha⟩ (k_X11_thrown l E ay oy ((y.1.1, y.1.2.1, y.1.2.2.1, y.1.2.2.2.1, y.1.2.2.2.2), (y.2.1.1, y.2.1.2.1, y.2.1.2.2.1, y.2.1.2.2.2.1, y.2.1.2.2.2.2), (y.2.2.1.1, y.2.2.1.2.1, y.2.2.1.2.2.1, y.2.2.1.2.2.2), (q4.2, y.2.2.2.2.1, y.2.2.2.2.2.1, y.2.2.2.2.2.2)) q5 hq5 H.size) (cwV 0 ha (gi_V (fun _ h => h) mw1691 mw1692 mw1693 mw87 mw1694) rfl rfl rfl hv_X11_thrown ⟨(Nat.le_of_ble_eq_true rfl), (Nat.le_of_ble_eq_true rfl)⟩) ⟨pre_blind, va_recv hst.k (fr_P hP [16] rfl) (ci := 13) (q0 := 0) rfl rfl, pre_at hP hD hS hz hzs hst [16] (by decide) rfl rfl⟩ rfl rfl hl.1 rfl (lv_room (Nat.le_of_ble_eq_true rfl)) dL_law_1515 ⟨by show cv + 1 + 0 ≤ 603072; omega, by show sv + 6 + 0 ≤ 7207018; omega⟩) hP hD hS hA [16] (by decide) rfl rfl rfl rfl (fun H locs hP hD hS => ?_)
  refine lv_iload hx hb dL_law_1518 (lv_at hl 1 rfl) ?_
  refine lv_icmp_eq (tgt := 1525) hx hb dL_law_1520 (by decide) (fun c1520 => ?_) (fun c1520 => ?_)
  · have hF := q_brp c1520 hF
    refine lv_iload hx hb dL_law_1525 (lv_at hl 1 rfl) ?_
    refine lv_if_ne (tgt := 1542) hx hb dL_law_1527 (by decide) (fun c1527 => ?_) (fun c1527 => ?_)
    · have hF := q_brn c1527 hF
      refine lv_goto (tgt := 2881) hx hb dL_law_1542 (by decide) ?_
      obtain rfl := Option.some.inj hF
      refine W.widen (k := cv + 60) (n := sv + 5100) (by omega) (by omega) ?_
      exact hK H locs ls hP hD hS (lv_sub hl [2, 3, 4, 5, 6, 7] rfl)
    · have hF := q_brp c1527 hF
      refine lv_aload_n hx hb dL_law_1530 rfl (lv_at hl 5 rfl) ?_
      refine lv_iconst (v := 0) hx hb dL_law_1531 (by decide) ?_
      refine vi_lald hx hb hst.k hP 156 3 rfl rfl (f := q2.2) (k := 0) (by decide) (by decide) dL_law_1532 ?_
      refine lv_iload hx hb dL_law_1533 (lv_at hl 0 rfl) ?_
      refine lv_i2l hx hb dL_law_1535 rfl ?_
      refine W.lcmp hx hb dL_law_1536 ?_
      refine lv_if_eq (tgt := 1542) hx hb dL_law_1537 (by decide) (fun c1537 => ?_) (fun c1537 => ?_)
      · have hF := q_brp c1537 hF
        refine lv_goto (tgt := 2881) hx hb dL_law_1542 (by decide) ?_
        obtain rfl := Option.some.inj hF
        refine W.widen (k := cv + 60) (n := sv + 5100) (by omega) (by omega) ?_
        exact hK H locs ls hP hD hS (lv_sub hl [2, 3, 4, 5, 6, 7] rfl)
      · have hF := q_brn c1537 hF
        exact absurd hF (by simp)
  · have hF := q_brn c1520 hF
    exact absurd hF (by simp)
def f_c21 (x : VB_t) (y : Model_t) (z : Nat → Int64) (w : Nat → UInt64) (xs : Nat → Int32) (n : Nat) (i : Int32) : Option (VB_t × Model_t × (Nat → Int64) × (Nat → UInt64)) := q_bd (f_case21 x.1.1.2.1.2.1 x.1.1.2.1.2.2 y.1.1 y.2.2.2.1 z xs n i) (fun res => some (x, ((y.1.1, y.1.2.1, y.1.2.2.1, y.1.2.2.2.1, y.1.2.2.2.2), (y.2.1.1, y.2.1.2.1, y.2.1.2.2.1, y.2.1.2.2.2.1, y.2.1.2.2.2.2), (y.2.2.1.1, y.2.2.1.2.1, y.2.2.1.2.2.1, y.2.2.1.2.2.2), (res.1, y.2.2.2.2.1, y.2.2.2.2.2.1, y.2.2.2.2.2.2)), res.2, w))
/-! case 22 -/
theorem dL_law_1545 : decode cL_law 1545 = .ok (.aload_n 1, 1) := by decide +kernel
theorem dL_law_1546 : decode cL_law 1546 = .ok (.aload 4, 2) := by decide +kernel
theorem dL_law_1548 : decode cL_law 1548 = .ok (.invokestatic 231, 3) := by decide +kernel
theorem dL_law_1551 : decode cL_law 1551 = .ok (.istore 6, 2) := by decide +kernel
theorem dL_law_1553 : decode cL_law 1553 = .ok (.aload_n 2, 1) := by decide +kernel
theorem dL_law_1554 : decode cL_law 1554 = .ok (.invokevirtual 234, 3) := by decide +kernel
theorem dL_law_1557 : decode cL_law 1557 = .ok (.dstore 7, 2) := by decide +kernel
theorem dL_law_1559 : decode cL_law 1559 = .ok (.aload_n 2, 1) := by decide +kernel
theorem dL_law_1560 : decode cL_law 1560 = .ok (.invokevirtual 160, 3) := by decide +kernel
theorem dL_law_1563 : decode cL_law 1563 = .ok (.iload 6, 2) := by decide +kernel
theorem dL_law_1565 : decode cL_law 1565 = .ok (.if_icmp .eq 5, 3) := by decide +kernel
theorem dL_law_1570 : decode cL_law 1570 = .ok (.iload 6, 2) := by decide +kernel
theorem dL_law_1572 : decode cL_law 1572 = .ok (.ifCond .ne 35, 3) := by decide +kernel
theorem dL_law_1575 : decode cL_law 1575 = .ok (.aload 4, 2) := by decide +kernel
theorem dL_law_1577 : decode cL_law 1577 = .ok (.iconst 0, 1) := by decide +kernel
theorem dL_law_1578 : decode cL_law 1578 = .ok (.daload, 1) := by decide +kernel
theorem dL_law_1579 : decode cL_law 1579 = .ok (.dload 7, 2) := by decide +kernel
theorem dL_law_1581 : decode cL_law 1581 = .ok (.dcmp .l, 1) := by decide +kernel
theorem dL_law_1582 : decode cL_law 1582 = .ok (.ifCond .eq 25, 3) := by decide +kernel
theorem dL_law_1585 : decode cL_law 1585 = .ok (.aload 4, 2) := by decide +kernel
theorem dL_law_1587 : decode cL_law 1587 = .ok (.iconst 0, 1) := by decide +kernel
theorem dL_law_1588 : decode cL_law 1588 = .ok (.daload, 1) := by decide +kernel
theorem dL_law_1589 : decode cL_law 1589 = .ok (.aload 4, 2) := by decide +kernel
theorem dL_law_1591 : decode cL_law 1591 = .ok (.iconst 0, 1) := by decide +kernel
theorem dL_law_1592 : decode cL_law 1592 = .ok (.daload, 1) := by decide +kernel
theorem dL_law_1593 : decode cL_law 1593 = .ok (.dcmp .l, 1) := by decide +kernel
theorem dL_law_1594 : decode cL_law 1594 = .ok (.ifCond .eq 11, 3) := by decide +kernel
theorem dL_law_1597 : decode cL_law 1597 = .ok (.dload 7, 2) := by decide +kernel
theorem dL_law_1599 : decode cL_law 1599 = .ok (.dload 7, 2) := by decide +kernel
theorem dL_law_1601 : decode cL_law 1601 = .ok (.dcmp .l, 1) := by decide +kernel
theorem dL_law_1602 : decode cL_law 1602 = .ok (.ifCond .ne 5, 3) := by decide +kernel
theorem dL_law_1607 : decode cL_law 1607 = .ok (.goto 1274, 3) := by decide +kernel
def f_case22 (x_valley_bells_pitches : (Nat → Int32)) (x_valley_bells_count : Int32) (y_g : (Nat → Int32)) (y_thrown : Int32) (w_v : (Nat → UInt64)) (xs : (Nat → Int32)) (n : Nat) (i : Int32) : Option (Int32 × (Nat → UInt64)) :=
  q_bd (f_L_meanDeviation x_valley_bells_pitches x_valley_bells_count w_v) (fun q1 =>
  q_bd (f_X11_meanDeviation y_g y_thrown) (fun q2 =>
  q_bd (f_X11_thrown q2.2) (fun q3 =>
  q_br (q3 = q1.1) (
  q_br (q1.1 = 0) (
  q_br ((Op.cmpValue (FP.dcmp (q1.2 0) q2.1) .l) = 0) (
  some (q2.2, q1.2)) (
  q_br ((Op.cmpValue (FP.dcmp (q1.2 0) (q1.2 0)) .l) = 0) (
  none) (
  q_br ((Op.cmpValue (FP.dcmp q2.1 q2.1) .l) = 0) (
  none) (
  some (q2.2, q1.2))))) (
  some (q2.2, q1.2))) (
  none))))
set_option maxHeartbeats 4000000 in
set_option maxRecDepth 100000 in
theorem kc_22 {p : Program} {e : Env} {s : State} {m : MethodId} {args : Array Value} {below : List Frame} {meth : Method} {c : Code} {Q : State → Prop} {A : Nat → Prop} (l : Launch) (hlt : l.stackTraces = false) (E : ET) (a : Nat → Nat) (o : Nat) (x : VB_t) (ay : Nat → Nat) (oy : Nat) (y : Model_t) (az : Nat → Nat) (oz : Nat) (z : Nat → Int64) (aw : Nat → Nat) (ow : Nat) (w : Nat → UInt64) (b n : Nat) (xs : Nat → Int32) (i : Int32) (hx : p.tables.exec = Jvm.exec) (hb : c.code = cL_law) (hml : c.maxLocals = 9) (hown : s.vm.findClass RL = some m.cls) (ha : ∀ w ∈ lw_all, w.before args s = true) (hA : ∀ q, s.heap.size ≤ q → A q) (hz : ∀ q, A q → E.2 0 ≤ q) (hzs : E.2 0 ≤ s.heap.size) (hst : ST E s) (hX : va_X b n xs s s.heap) (hbl : b < s.heap.size) (hbA : ¬ A b) (res : Int32 × (Nat → UInt64)) (hF : f_case22 x.1.1.2.1.2.1 x.1.1.2.1.2.2 y.1.1 y.2.2.2.1 w xs n i = some res) {H : Heap} {locs : List Loc} {ls : Array Slot} {cv sv : Nat} (hcv : cv + 60 ≤ 603072) (hsv : sv + 5100 ≤ 7207018) (hP : va_P E.1 vwCl (List.flatten [w_VBR a o x.2.2.2.1 x.2.2.2.2.1 x.2.2.2.2.2, w_ValleyR a (o + 1), w_Key E a (o + 2) x.1.1.1, w_Bells E a (o + 3) x.1.1.2.1, w_Mel E a (o + 6) x.1.1.2.2.1, w_Cliffs E a (o + 10) x.1.1.2.2.2, w_ValleyR a (o + 13), w_Key E a (o + 14) x.1.2.1.1, w_Bells E a (o + 15) x.1.2.1.2.1, w_Mel E a (o + 18) x.1.2.1.2.2.1, w_Cliffs E a (o + 22) x.1.2.1.2.2.2, w_Prog E a (o + 25) x.1.2.2.2.1, w_Chord E a (o + 31) x.1.2.2.2.2, w_Key E a (o + 34) x.2.1, w_Line E a (o + 35) x.2.2.1, w_Hist E a (o + 37) x.1.2.2.1, w_Model E ay oy y, w_LongArr E az oz z, w_DblArr E aw ow w]) H) (hD : va_D A (List.flatten [w_VBR a o x.2.2.2.1 x.2.2.2.2.1 x.2.2.2.2.2, w_ValleyR a (o + 1), w_Key E a (o + 2) x.1.1.1, w_Bells E a (o + 3) x.1.1.2.1, w_Mel E a (o + 6) x.1.1.2.2.1, w_Cliffs E a (o + 10) x.1.1.2.2.2, w_ValleyR a (o + 13), w_Key E a (o + 14) x.1.2.1.1, w_Bells E a (o + 15) x.1.2.1.2.1, w_Mel E a (o + 18) x.1.2.1.2.2.1, w_Cliffs E a (o + 22) x.1.2.1.2.2.2, w_Prog E a (o + 25) x.1.2.2.2.1, w_Chord E a (o + 31) x.1.2.2.2.2, w_Key E a (o + 34) x.2.1, w_Line E a (o + 35) x.2.2.1, w_Hist E a (o + 37) x.1.2.2.1, w_Model E ay oy y, w_LongArr E az oz z, w_DblArr E aw ow w])) (hS : va_S A s.heap H locs) (hl : lv_has ls 9 [(0, .ref b), (1, .ref (a o)), (2, .ref (ay oy)), (3, .ref (az oz)), (4, .ref (aw ow)), (5, .int i)])
    (hK : ∀ (H : Heap) (locs : List Loc) (ls : Array Slot), va_P E.1 vwCl (List.flatten (bl_VB E a o x ++ (bl_Model E ay oy ((y.1.1, y.1.2.1, y.1.2.2.1, y.1.2.2.2.1, y.1.2.2.2.2), (y.2.1.1, y.2.1.2.1, y.2.1.2.2.1, y.2.1.2.2.2.1, y.2.1.2.2.2.2), (y.2.2.1.1, y.2.2.1.2.1, y.2.2.1.2.2.1, y.2.2.1.2.2.2), (res.1, y.2.2.2.2.1, y.2.2.2.2.2.1, y.2.2.2.2.2.2)) ++ (bl_LongArr E az oz z ++ bl_DblArr E aw ow res.2)))) H → va_D A (List.flatten (bl_VB E a o x ++ (bl_Model E ay oy ((y.1.1, y.1.2.1, y.1.2.2.1, y.1.2.2.2.1, y.1.2.2.2.2), (y.2.1.1, y.2.1.2.1, y.2.1.2.2.1, y.2.1.2.2.2.1, y.2.1.2.2.2.2), (y.2.2.1.1, y.2.2.1.2.1, y.2.2.1.2.2.1, y.2.2.1.2.2.2), (res.1, y.2.2.2.2.1, y.2.2.2.2.2.1, y.2.2.2.2.2.2)) ++ (bl_LongArr E az oz z ++ bl_DblArr E aw ow res.2)))) → va_S A s.heap H locs → lv_has ls 9 [(0, .ref b), (1, .ref (a o)), (2, .ref (ay oy)), (3, .ref (az oz)), (4, .ref (aw ow)), (5, .int i)] → W p l e room_1 s m args below meth c H locs (cv + 60) (sv + 5100) Q (F0 m 2881 ls [])) : W p l e room_1 s m args below meth c H locs cv sv Q (F0 m 1545 ls []) := by
  unfold f_case22 at hF
  refine lv_aload_n hx hb dL_law_1545 rfl (lv_at hl 1 rfl) ?_
  refine lv_aload hx hb dL_law_1546 (lv_at hl 4 rfl) ?_
  have hP : va_P E.1 vwCl (List.flatten [w_VBR a o x.2.2.2.1 x.2.2.2.2.1 x.2.2.2.2.2, w_ValleyR a (o + 1), w_Key E a (o + 2) x.1.1.1, w_Bells E a (o + 3) x.1.1.2.1, w_Mel E a (o + 6) x.1.1.2.2.1, w_Cliffs E a (o + 10) x.1.1.2.2.2, w_ValleyR a (o + 13), w_Key E a (o + 14) x.1.2.1.1, w_Bells E a (o + 15) x.1.2.1.2.1, w_Mel E a (o + 18) x.1.2.1.2.2.1, w_Cliffs E a (o + 22) x.1.2.1.2.2.2, w_Prog E a (o + 25) x.1.2.2.2.1, w_Chord E a (o + 31) x.1.2.2.2.2, w_Key E a (o + 34) x.2.1, w_Line E a (o + 35) x.2.2.1, w_Hist E a (o + 37) x.1.2.2.1, w_Model E ay oy y, w_LongArr E az oz z, w_DblArr E aw ow w]) H := hP
  have hD : va_D A (List.flatten [w_VBR a o x.2.2.2.1 x.2.2.2.2.1 x.2.2.2.2.2, w_ValleyR a (o + 1), w_Key E a (o + 2) x.1.1.1, w_Bells E a (o + 3) x.1.1.2.1, w_Mel E a (o + 6) x.1.1.2.2.1, w_Cliffs E a (o + 10) x.1.1.2.2.2, w_ValleyR a (o + 13), w_Key E a (o + 14) x.1.2.1.1, w_Bells E a (o + 15) x.1.2.1.2.1, w_Mel E a (o + 18) x.1.2.1.2.2.1, w_Cliffs E a (o + 22) x.1.2.1.2.2.2, w_Prog E a (o + 25) x.1.2.2.2.1, w_Chord E a (o + 31) x.1.2.2.2.2, w_Key E a (o + 34) x.2.1, w_Line E a (o + 35) x.2.2.1, w_Hist E a (o + 37) x.1.2.2.1, w_Model E ay oy y, w_LongArr E az oz z, w_DblArr E aw ow w]) := hD
  obtain ⟨q1, hq1, hF⟩ := q_bdi hF
  refine cl_i (Lc := [w_VBR a o x.2.2.2.1 x.2.2.2.2.1 x.2.2.2.2.2, w_ValleyR a (o + 1), w_Key E a (o + 2) x.1.1.1, w_Bells E a (o + 3) x.1.1.2.1, w_Mel E a (o + 6) x.1.1.2.2.1, w_Cliffs E a (o + 10) x.1.1.2.2.2, w_ValleyR a (o + 13), w_Key E a (o + 14) x.1.2.1.1, w_Bells E a (o + 15) x.1.2.1.2.1, w_Mel E a (o + 18) x.1.2.1.2.2.1, w_Cliffs E a (o + 22) x.1.2.1.2.2.2, w_Prog E a (o + 25) x.1.2.2.2.1, w_Chord E a (o + 31) x.1.2.2.2.2, w_Key E a (o + 34) x.2.1, w_Line E a (o + 35) x.2.2.1, w_Hist E a (o + 37) x.1.2.2.1, w_DblArr E aw ow w]) (Lc' := [w_VBR a o x.2.2.2.1 x.2.2.2.2.1 x.2.2.2.2.2, w_ValleyR a (o + 1), w_Key E a (o + 2) x.1.1.1, w_Bells E a (o + 3) x.1.1.2.1, w_Mel E a (o + 6) x.1.1.2.2.1, w_Cliffs E a (o + 10) x.1.1.2.2.2, w_ValleyR a (o + 13), w_Key E a (o + 14) x.1.2.1.1, w_Bells E a (o + 15) x.1.2.1.2.1, w_Mel E a (o + 18) x.1.2.1.2.2.1, w_Cliffs E a (o + 22) x.1.2.1.2.2.2, w_Prog E a (o + 25) x.1.2.2.2.1, w_Chord E a (o + 31) x.1.2.2.2.2, w_Key E a (o + 34) x.2.1, w_Line E a (o + 35) x.2.2.1, w_Hist E a (o + 37) x.1.2.2.1, w_DblArr E aw ow q1.2]) (L' := [w_VBR a o x.2.2.2.1 x.2.2.2.2.1 x.2.2.2.2.2, w_ValleyR a (o + 1), w_Key E a (o + 2) x.1.1.1, w_Bells E a (o + 3) x.1.1.2.1, w_Mel E a (o + 6) x.1.1.2.2.1, w_Cliffs E a (o + 10) x.1.1.2.2.2, w_ValleyR a (o + 13), w_Key E a (o + 14) x.1.2.1.1, w_Bells E a (o + 15) x.1.2.1.2.1, w_Mel E a (o + 18) x.1.2.1.2.2.1, w_Cliffs E a (o + 22) x.1.2.1.2.2.2, w_Prog E a (o + 25) x.1.2.2.2.1, w_Chord E a (o + 31) x.1.2.2.2.2, w_Key E a (o + 34) x.2.1, w_Line E a (o + 35) x.2.2.1, w_Hist E a (o + 37) x.1.2.2.1, w_Model E ay oy y, w_LongArr E az oz z, w_DblArr E aw ow q1.2]) (rv := q1.1) (vx_runSW (As := [.ref (a o), .ref (aw ow)]) (rest := []) ⟨hx, hb, hml, hown, ha⟩ (k_L_meanDeviation l E a o x aw ow w q1 hq1 H.size hlt) (vx_cwSW 2 ha (gi_TH (fun _ h => h) mw1297 mw1298 mw73 mw1299) rfl rfl rfl hv_L_meanDeviation.2 ⟨(Nat.le_of_ble_eq_true rfl), (Nat.le_of_ble_eq_true rfl)⟩) ⟨pre_blind, pre_at hP hD hS hz hzs hst [0, 1, 2, 3, 4, 5, 6, 7, 8, 9, 10, 11, 12, 13, 14, 15, 18] (by decide) rfl rfl⟩ rfl rfl hl.1 rfl (lv_room (Nat.le_of_ble_eq_true rfl)) dL_law_1548 ⟨by show cv + 1 ≤ 603072; omega, by show sv + 6 ≤ 7207018; omega⟩) hP hD hS hA [0, 1, 2, 3, 4, 5, 6, 7, 8, 9, 10, 11, 12, 13, 14, 15, 18] (by decide) rfl rfl rfl rfl (fun H locs hP hD hS => ?_)
  refine lv_istore (lv' := [(6, .int q1.1), (0, .ref b), (1, .ref (a o)), (2, .ref (ay oy)), (3, .ref (az oz)), (4, .ref (aw ow)), (5, .int i)]) hx hb dL_law_1551 hl (by decide) rfl (fun ls hl => ?_)
  refine lv_aload_n hx hb dL_law_1553 rfl (lv_at hl 3 rfl) ?_
  obtain ⟨q2, hq2, hF⟩ := q_bdi hF
  refine cl_d (Lc := [w_Model E ay oy y]) (Lc' := [w_Model E ay oy ((y.1.1, y.1.2.1, y.1.2.2.1, y.1.2.2.2.1, y.1.2.2.2.2), (y.2.1.1, y.2.1.2.1, y.2.1.2.2.1, y.2.1.2.2.2.1, y.2.1.2.2.2.2), (y.2.2.1.1, y.2.2.1.2.1, y.2.2.1.2.2.1, y.2.2.1.2.2.2), (q2.2, y.2.2.2.2.1, y.2.2.2.2.2.1, y.2.2.2.2.2.2))]) (L' := [w_VBR a o x.2.2.2.1 x.2.2.2.2.1 x.2.2.2.2.2, w_ValleyR a (o + 1), w_Key E a (o + 2) x.1.1.1, w_Bells E a (o + 3) x.1.1.2.1, w_Mel E a (o + 6) x.1.1.2.2.1, w_Cliffs E a (o + 10) x.1.1.2.2.2, w_ValleyR a (o + 13), w_Key E a (o + 14) x.1.2.1.1, w_Bells E a (o + 15) x.1.2.1.2.1, w_Mel E a (o + 18) x.1.2.1.2.2.1, w_Cliffs E a (o + 22) x.1.2.1.2.2.2, w_Prog E a (o + 25) x.1.2.2.2.1, w_Chord E a (o + 31) x.1.2.2.2.2, w_Key E a (o + 34) x.2.1, w_Line E a (o + 35) x.2.2.1, w_Hist E a (o + 37) x.1.2.2.1, w_Model E ay oy ((y.1.1, y.1.2.1, y.1.2.2.1, y.1.2.2.2.1, y.1.2.2.2.2), (y.2.1.1, y.2.1.2.1, y.2.1.2.2.1, y.2.1.2.2.2.1, y.2.1.2.2.2.2), (y.2.2.1.1, y.2.2.1.2.1, y.2.2.1.2.2.1, y.2.2.1.2.2.2), (q2.2, y.2.2.2.2.1, y.2.2.2.2.2.1, y.2.2.2.2.2.2)), w_LongArr E az oz z, w_DblArr E aw ow q1.2]) (rv := q2.1) (va_runV (As := []) (rest := []) ⟨hx, hb, hml, hown, ha⟩ (k_X11_meanDeviation l E ay oy y q2 hq2 H.size) (cwV 0 ha (gi_V (fun _ h => h) mw1902 mw1903 mw1904 mw87 mw1905) rfl rfl rfl hv_X11_meanDeviation ⟨(Nat.le_of_ble_eq_true rfl), (Nat.le_of_ble_eq_true rfl)⟩) ⟨pre_blind, va_recv hst.k (fr_P hP [16] rfl) (ci := 13) (q0 := 0) rfl rfl, pre_at hP hD hS hz hzs hst [16] (by decide) rfl rfl⟩ rfl rfl hl.1 rfl (lv_room (Nat.le_of_ble_eq_true rfl)) dL_law_1554 ⟨by show cv + 1 + 0 ≤ 603072; omega, by show sv + 6 + 0 ≤ 7207018; omega⟩) hP hD hS hA [16] (by decide) rfl rfl rfl rfl (fun H locs hP hD hS => ?_)
  refine lv_dstore (lv' := [(7, .double q2.1), (6, .int q1.1), (0, .ref b), (1, .ref (a o)), (2, .ref (ay oy)), (3, .ref (az oz)), (4, .ref (aw ow)), (5, .int i)]) hx hb dL_law_1557 hl (by decide) rfl (fun ls hl => ?_)
  refine lv_aload_n hx hb dL_law_1559 rfl (lv_at hl 4 rfl) ?_
  obtain ⟨q3, hq3, hF⟩ := q_bdi hF
  refine cl_i (Lc := [w_Model E ay oy ((y.1.1, y.1.2.1, y.1.2.2.1, y.1.2.2.2.1, y.1.2.2.2.2), (y.2.1.1, y.2.1.2.1, y.2.1.2.2.1, y.2.1.2.2.2.1, y.2.1.2.2.2.2), (y.2.2.1.1, y.2.2.1.2.1, y.2.2.1.2.2.1, y.2.2.1.2.2.2), (q2.2, y.2.2.2.2.1, y.2.2.2.2.2.1, y.2.2.2.2.2.2))]) (Lc' := [w_Model E ay oy ((y.1.1, y.1.2.1, y.1.2.2.1, y.1.2.2.2.1, y.1.2.2.2.2), (y.2.1.1, y.2.1.2.1, y.2.1.2.2.1, y.2.1.2.2.2.1, y.2.1.2.2.2.2), (y.2.2.1.1, y.2.2.1.2.1, y.2.2.1.2.2.1, y.2.2.1.2.2.2), (q2.2, y.2.2.2.2.1, y.2.2.2.2.2.1, y.2.2.2.2.2.2))]) (L' := [w_VBR a o x.2.2.2.1 x.2.2.2.2.1 x.2.2.2.2.2, w_ValleyR a (o + 1), w_Key E a (o + 2) x.1.1.1, w_Bells E a (o + 3) x.1.1.2.1, w_Mel E a (o + 6) x.1.1.2.2.1, w_Cliffs E a (o + 10) x.1.1.2.2.2, w_ValleyR a (o + 13), w_Key E a (o + 14) x.1.2.1.1, w_Bells E a (o + 15) x.1.2.1.2.1, w_Mel E a (o + 18) x.1.2.1.2.2.1, w_Cliffs E a (o + 22) x.1.2.1.2.2.2, w_Prog E a (o + 25) x.1.2.2.2.1, w_Chord E a (o + 31) x.1.2.2.2.2, w_Key E a (o + 34) x.2.1, w_Line E a (o + 35) x.2.2.1, w_Hist E a (o + 37) x.1.2.2.1, w_Model E ay oy ((y.1.1, y.1.2.1, y.1.2.2.1, y.1.2.2.2.1, y.1.2.2.2.2), (y.2.1.1, y.2.1.2.1, y.2.1.2.2.1, y.2.1.2.2.2.1, y.2.1.2.2.2.2), (y.2.2.1.1, y.2.2.1.2.1, y.2.2.1.2.2.1, y.2.2.1.2.2.2), (q2.2, y.2.2.2.2.1, y.2.2.2.2.2.1, y.2.2.2.2.2.2)), w_LongArr E az oz z, w_DblArr E aw ow q1.2]) (rv := q3) (va_runV (As := []) (rest := []) ⟨hx, hb, hml, hown, ha⟩ (k_X11_thrown l E ay oy ((y.1.1, y.1.2.1, y.1.2.2.1, y.1.2.2.2.1, y.1.2.2.2.2), (y.2.1.1, y.2.1.2.1, y.2.1.2.2.1, y.2.1.2.2.2.1, y.2.1.2.2.2.2), (y.2.2.1.1, y.2.2.1.2.1, y.2.2.1.2.2.1, y.2.2.1.2.2.2), (q2.2, y.2.2.2.2.1, y.2.2.2.2.2.1, y.2.2.2.2.2.2)) q3 hq3 H.size) (cwV 0 ha (gi_V (fun _ h => h) mw1691 mw1692 mw1693 mw87 mw1694) rfl rfl rfl hv_X11_thrown ⟨(Nat.le_of_ble_eq_true rfl), (Nat.le_of_ble_eq_true rfl)⟩) ⟨pre_blind, va_recv hst.k (fr_P hP [16] rfl) (ci := 13) (q0 := 0) rfl rfl, pre_at hP hD hS hz hzs hst [16] (by decide) rfl rfl⟩ rfl rfl hl.1 rfl (lv_room (Nat.le_of_ble_eq_true rfl)) dL_law_1560 ⟨by show cv + 1 + 0 ≤ 603072; omega, by show sv + 6 + 0 ≤ 7207018; omega⟩) hP hD hS hA [16] (by decide) rfl rfl rfl rfl (fun H locs hP hD hS => ?_)
  refine lv_iload hx hb dL_law_1563 (lv_at hl 1 rfl) ?_
  refine lv_icmp_eq (tgt := 1570) hx hb dL_law_1565 (by decide) (fun c1565 => ?_) (fun c1565 => ?_)
  · have hF := q_brp c1565 hF
    refine lv_iload hx hb dL_law_1570 (lv_at hl 1 rfl) ?_
    refine lv_if_ne (tgt := 1607) hx hb dL_law_1572 (by decide) (fun c1572 => ?_) (fun c1572 => ?_)
    · have hF := q_brn c1572 hF
      refine lv_goto (tgt := 2881) hx hb dL_law_1607 (by decide) ?_
      obtain rfl := Option.some.inj hF
      refine W.widen (k := cv + 60) (n := sv + 5100) (by omega) (by omega) ?_
      exact hK H locs ls hP hD hS (lv_sub hl [2, 3, 4, 5, 6, 7] rfl)
    · have hF := q_brp c1572 hF
      refine lv_aload hx hb dL_law_1575 (lv_at hl 6 rfl) ?_
      refine lv_iconst (v := 0) hx hb dL_law_1577 (by decide) ?_
      refine vi_dald hx hb hst.k hP 157 4 rfl rfl (f := q1.2) (k := 0) (by decide) (by decide) dL_law_1578 ?_
      refine lv_dload hx hb dL_law_1579 (lv_at hl 0 rfl) ?_
      refine lv_dcmp hx hb dL_law_1581 ?_
      refine lv_if_eq (tgt := 1607) hx hb dL_law_1582 (by decide) (fun c1582 => ?_) (fun c1582 => ?_)
      · have hF := q_brp c1582 hF
        refine lv_goto (tgt := 2881) hx hb dL_law_1607 (by decide) ?_
        obtain rfl := Option.some.inj hF
        refine W.widen (k := cv + 60) (n := sv + 5100) (by omega) (by omega) ?_
        exact hK H locs ls hP hD hS (lv_sub hl [2, 3, 4, 5, 6, 7] rfl)
      · have hF := q_brn c1582 hF
        refine lv_aload hx hb dL_law_1585 (lv_at hl 6 rfl) ?_
        refine lv_iconst (v := 0) hx hb dL_law_1587 (by decide) ?_
        refine vi_dald hx hb hst.k hP 157 4 rfl rfl (f := q1.2) (k := 0) (by decide) (by decide) dL_law_1588 ?_
        refine lv_aload hx hb dL_law_1589 (lv_at hl 6 rfl) ?_
        refine lv_iconst (v := 0) hx hb dL_law_1591 (by decide) ?_
        refine vi_dald hx hb hst.k hP 157 4 rfl rfl (f := q1.2) (k := 0) (by decide) (by decide) dL_law_1592 ?_
        refine lv_dcmp hx hb dL_law_1593 ?_
        refine lv_if_eq (tgt := 1605) hx hb dL_law_1594 (by decide) (fun c1594 => ?_) (fun c1594 => ?_)
        · have hF := q_brp c1594 hF
          exact absurd hF (by simp)
        · have hF := q_brn c1594 hF
          refine lv_dload hx hb dL_law_1597 (lv_at hl 0 rfl) ?_
          refine lv_dload hx hb dL_law_1599 (lv_at hl 0 rfl) ?_
          refine lv_dcmp hx hb dL_law_1601 ?_
          refine lv_if_ne (tgt := 1607) hx hb dL_law_1602 (by decide) (fun c1602 => ?_) (fun c1602 => ?_)
          · have hF := q_brn c1602 hF
            refine lv_goto (tgt := 2881) hx hb dL_law_1607 (by decide) ?_
            obtain rfl := Option.some.inj hF
            refine W.widen (k := cv + 60) (n := sv + 5100) (by omega) (by omega) ?_
            exact hK H locs ls hP hD hS (lv_sub hl [2, 3, 4, 5, 6, 7] rfl)
          · have hF := q_brp c1602 hF
            exact absurd hF (by simp)
  · have hF := q_brn c1565 hF
    exact absurd hF (by simp)
def f_c22 (x : VB_t) (y : Model_t) (z : Nat → Int64) (w : Nat → UInt64) (xs : Nat → Int32) (n : Nat) (i : Int32) : Option (VB_t × Model_t × (Nat → Int64) × (Nat → UInt64)) := q_bd (f_case22 x.1.1.2.1.2.1 x.1.1.2.1.2.2 y.1.1 y.2.2.2.1 w xs n i) (fun res => some (x, ((y.1.1, y.1.2.1, y.1.2.2.1, y.1.2.2.2.1, y.1.2.2.2.2), (y.2.1.1, y.2.1.2.1, y.2.1.2.2.1, y.2.1.2.2.2.1, y.2.1.2.2.2.2), (y.2.2.1.1, y.2.2.1.2.1, y.2.2.1.2.2.1, y.2.2.1.2.2.2), (res.1, y.2.2.2.2.1, y.2.2.2.2.2.1, y.2.2.2.2.2.2)), z, res.2))
/-! case 23 -/
theorem dL_law_1610 : decode cL_law 1610 = .ok (.aload_n 1, 1) := by decide +kernel
theorem dL_law_1611 : decode cL_law 1611 = .ok (.aload 4, 2) := by decide +kernel
theorem dL_law_1613 : decode cL_law 1613 = .ok (.invokestatic 235, 3) := by decide +kernel
theorem dL_law_1616 : decode cL_law 1616 = .ok (.istore 6, 2) := by decide +kernel
theorem dL_law_1618 : decode cL_law 1618 = .ok (.aload_n 2, 1) := by decide +kernel
theorem dL_law_1619 : decode cL_law 1619 = .ok (.invokevirtual 237, 3) := by decide +kernel
theorem dL_law_1622 : decode cL_law 1622 = .ok (.fstore 7, 2) := by decide +kernel
theorem dL_law_1624 : decode cL_law 1624 = .ok (.aload_n 2, 1) := by decide +kernel
theorem dL_law_1625 : decode cL_law 1625 = .ok (.invokevirtual 160, 3) := by decide +kernel
theorem dL_law_1628 : decode cL_law 1628 = .ok (.iload 6, 2) := by decide +kernel
theorem dL_law_1630 : decode cL_law 1630 = .ok (.if_icmp .eq 5, 3) := by decide +kernel
theorem dL_law_1635 : decode cL_law 1635 = .ok (.iload 6, 2) := by decide +kernel
theorem dL_law_1637 : decode cL_law 1637 = .ok (.ifCond .ne 36, 3) := by decide +kernel
theorem dL_law_1640 : decode cL_law 1640 = .ok (.aload 4, 2) := by decide +kernel
theorem dL_law_1642 : decode cL_law 1642 = .ok (.iconst 0, 1) := by decide +kernel
theorem dL_law_1643 : decode cL_law 1643 = .ok (.daload, 1) := by decide +kernel
theorem dL_law_1644 : decode cL_law 1644 = .ok (.fload 7, 2) := by decide +kernel
theorem dL_law_1646 : decode cL_law 1646 = .ok (.f2d, 1) := by decide +kernel
theorem dL_law_1647 : decode cL_law 1647 = .ok (.dcmp .l, 1) := by decide +kernel
theorem dL_law_1648 : decode cL_law 1648 = .ok (.ifCond .eq 25, 3) := by decide +kernel
theorem dL_law_1651 : decode cL_law 1651 = .ok (.aload 4, 2) := by decide +kernel
theorem dL_law_1653 : decode cL_law 1653 = .ok (.iconst 0, 1) := by decide +kernel
theorem dL_law_1654 : decode cL_law 1654 = .ok (.daload, 1) := by decide +kernel
theorem dL_law_1655 : decode cL_law 1655 = .ok (.aload 4, 2) := by decide +kernel
theorem dL_law_1657 : decode cL_law 1657 = .ok (.iconst 0, 1) := by decide +kernel
theorem dL_law_1658 : decode cL_law 1658 = .ok (.daload, 1) := by decide +kernel
theorem dL_law_1659 : decode cL_law 1659 = .ok (.dcmp .l, 1) := by decide +kernel
theorem dL_law_1660 : decode cL_law 1660 = .ok (.ifCond .eq 11, 3) := by decide +kernel
theorem dL_law_1663 : decode cL_law 1663 = .ok (.fload 7, 2) := by decide +kernel
theorem dL_law_1665 : decode cL_law 1665 = .ok (.fload 7, 2) := by decide +kernel
theorem dL_law_1667 : decode cL_law 1667 = .ok (.fcmp .l, 1) := by decide +kernel
theorem dL_law_1668 : decode cL_law 1668 = .ok (.ifCond .ne 5, 3) := by decide +kernel
theorem dL_law_1673 : decode cL_law 1673 = .ok (.goto 1208, 3) := by decide +kernel
def f_case23 (x_valley_key_tonic : Int32) (x_valley_key_isMinor : Int32) (x_valley_key_tolerance : Int32) (x_valley_bells_pitches : (Nat → Int32)) (x_valley_bells_count : Int32) (y_g : (Nat → Int32)) (y_thrown : Int32) (w_v : (Nat → UInt64)) (xs : (Nat → Int32)) (n : Nat) (i : Int32) : Option (Int32 × (Nat → UInt64)) :=
  q_bd (f_L_inKeyShare x_valley_key_tonic x_valley_key_isMinor x_valley_key_tolerance x_valley_bells_pitches x_valley_bells_count w_v) (fun q1 =>
  q_bd (f_X11_inKeyShare y_g y_thrown) (fun q2 =>
  q_bd (f_X11_thrown q2.2) (fun q3 =>
  q_br (q3 = q1.1) (
  q_br (q1.1 = 0) (
  q_gd ((FP.f2d q2.1) &&& 0x7fffffffffffffff ≤ 0x7ff0000000000000) (
  q_br ((Op.cmpValue (FP.dcmp (q1.2 0) (FP.f2d q2.1)) .l) = 0) (
  some (q2.2, q1.2)) (
  q_br ((Op.cmpValue (FP.dcmp (q1.2 0) (q1.2 0)) .l) = 0) (
  none) (
  q_br ((Op.cmpValue (FP.fcmp q2.1 q2.1) .l) = 0) (
  none) (
  some (q2.2, q1.2)))))) (
  some (q2.2, q1.2))) (
  none))))
set_option maxHeartbeats 4000000 in
set_option maxRecDepth 100000 in
theorem kc_23 {p : Program} {e : Env} {s : State} {m : MethodId} {args : Array Value} {below : List Frame} {meth : Method} {c : Code} {Q : State → Prop} {A : Nat → Prop} (l : Launch) (hlt : l.stackTraces = false) (E : ET) (a : Nat → Nat) (o : Nat) (x : VB_t) (ay : Nat → Nat) (oy : Nat) (y : Model_t) (az : Nat → Nat) (oz : Nat) (z : Nat → Int64) (aw : Nat → Nat) (ow : Nat) (w : Nat → UInt64) (b n : Nat) (xs : Nat → Int32) (i : Int32) (hx : p.tables.exec = Jvm.exec) (hb : c.code = cL_law) (hml : c.maxLocals = 9) (hown : s.vm.findClass RL = some m.cls) (ha : ∀ w ∈ lw_all, w.before args s = true) (hA : ∀ q, s.heap.size ≤ q → A q) (hz : ∀ q, A q → E.2 0 ≤ q) (hzs : E.2 0 ≤ s.heap.size) (hst : ST E s) (hX : va_X b n xs s s.heap) (hbl : b < s.heap.size) (hbA : ¬ A b) (res : Int32 × (Nat → UInt64)) (hF : f_case23 x.1.1.1.1 x.1.1.1.2.1 x.1.1.1.2.2 x.1.1.2.1.2.1 x.1.1.2.1.2.2 y.1.1 y.2.2.2.1 w xs n i = some res) {H : Heap} {locs : List Loc} {ls : Array Slot} {cv sv : Nat} (hcv : cv + 60 ≤ 603072) (hsv : sv + 5100 ≤ 7207018) (hP : va_P E.1 vwCl (List.flatten [w_VBR a o x.2.2.2.1 x.2.2.2.2.1 x.2.2.2.2.2, w_ValleyR a (o + 1), w_Key E a (o + 2) x.1.1.1, w_Bells E a (o + 3) x.1.1.2.1, w_Mel E a (o + 6) x.1.1.2.2.1, w_Cliffs E a (o + 10) x.1.1.2.2.2, w_ValleyR a (o + 13), w_Key E a (o + 14) x.1.2.1.1, w_Bells E a (o + 15) x.1.2.1.2.1, w_Mel E a (o + 18) x.1.2.1.2.2.1, w_Cliffs E a (o + 22) x.1.2.1.2.2.2, w_Prog E a (o + 25) x.1.2.2.2.1, w_Chord E a (o + 31) x.1.2.2.2.2, w_Key E a (o + 34) x.2.1, w_Line E a (o + 35) x.2.2.1, w_Hist E a (o + 37) x.1.2.2.1, w_Model E ay oy y, w_LongArr E az oz z, w_DblArr E aw ow w]) H) (hD : va_D A (List.flatten [w_VBR a o x.2.2.2.1 x.2.2.2.2.1 x.2.2.2.2.2, w_ValleyR a (o + 1), w_Key E a (o + 2) x.1.1.1, w_Bells E a (o + 3) x.1.1.2.1, w_Mel E a (o + 6) x.1.1.2.2.1, w_Cliffs E a (o + 10) x.1.1.2.2.2, w_ValleyR a (o + 13), w_Key E a (o + 14) x.1.2.1.1, w_Bells E a (o + 15) x.1.2.1.2.1, w_Mel E a (o + 18) x.1.2.1.2.2.1, w_Cliffs E a (o + 22) x.1.2.1.2.2.2, w_Prog E a (o + 25) x.1.2.2.2.1, w_Chord E a (o + 31) x.1.2.2.2.2, w_Key E a (o + 34) x.2.1, w_Line E a (o + 35) x.2.2.1, w_Hist E a (o + 37) x.1.2.2.1, w_Model E ay oy y, w_LongArr E az oz z, w_DblArr E aw ow w])) (hS : va_S A s.heap H locs) (hl : lv_has ls 9 [(0, .ref b), (1, .ref (a o)), (2, .ref (ay oy)), (3, .ref (az oz)), (4, .ref (aw ow)), (5, .int i)])
    (hK : ∀ (H : Heap) (locs : List Loc) (ls : Array Slot), va_P E.1 vwCl (List.flatten (bl_VB E a o x ++ (bl_Model E ay oy ((y.1.1, y.1.2.1, y.1.2.2.1, y.1.2.2.2.1, y.1.2.2.2.2), (y.2.1.1, y.2.1.2.1, y.2.1.2.2.1, y.2.1.2.2.2.1, y.2.1.2.2.2.2), (y.2.2.1.1, y.2.2.1.2.1, y.2.2.1.2.2.1, y.2.2.1.2.2.2), (res.1, y.2.2.2.2.1, y.2.2.2.2.2.1, y.2.2.2.2.2.2)) ++ (bl_LongArr E az oz z ++ bl_DblArr E aw ow res.2)))) H → va_D A (List.flatten (bl_VB E a o x ++ (bl_Model E ay oy ((y.1.1, y.1.2.1, y.1.2.2.1, y.1.2.2.2.1, y.1.2.2.2.2), (y.2.1.1, y.2.1.2.1, y.2.1.2.2.1, y.2.1.2.2.2.1, y.2.1.2.2.2.2), (y.2.2.1.1, y.2.2.1.2.1, y.2.2.1.2.2.1, y.2.2.1.2.2.2), (res.1, y.2.2.2.2.1, y.2.2.2.2.2.1, y.2.2.2.2.2.2)) ++ (bl_LongArr E az oz z ++ bl_DblArr E aw ow res.2)))) → va_S A s.heap H locs → lv_has ls 9 [(0, .ref b), (1, .ref (a o)), (2, .ref (ay oy)), (3, .ref (az oz)), (4, .ref (aw ow)), (5, .int i)] → W p l e room_1 s m args below meth c H locs (cv + 60) (sv + 5100) Q (F0 m 2881 ls [])) : W p l e room_1 s m args below meth c H locs cv sv Q (F0 m 1610 ls []) := by
  unfold f_case23 at hF
  refine lv_aload_n hx hb dL_law_1610 rfl (lv_at hl 1 rfl) ?_
  refine lv_aload hx hb dL_law_1611 (lv_at hl 4 rfl) ?_
  have hP : va_P E.1 vwCl (List.flatten [w_VBR a o x.2.2.2.1 x.2.2.2.2.1 x.2.2.2.2.2, w_ValleyR a (o + 1), w_Key E a (o + 2) x.1.1.1, w_Bells E a (o + 3) x.1.1.2.1, w_Mel E a (o + 6) x.1.1.2.2.1, w_Cliffs E a (o + 10) x.1.1.2.2.2, w_ValleyR a (o + 13), w_Key E a (o + 14) x.1.2.1.1, w_Bells E a (o + 15) x.1.2.1.2.1, w_Mel E a (o + 18) x.1.2.1.2.2.1, w_Cliffs E a (o + 22) x.1.2.1.2.2.2, w_Prog E a (o + 25) x.1.2.2.2.1, w_Chord E a (o + 31) x.1.2.2.2.2, w_Key E a (o + 34) x.2.1, w_Line E a (o + 35) x.2.2.1, w_Hist E a (o + 37) x.1.2.2.1, w_Model E ay oy y, w_LongArr E az oz z, w_DblArr E aw ow w]) H := hP
  have hD : va_D A (List.flatten [w_VBR a o x.2.2.2.1 x.2.2.2.2.1 x.2.2.2.2.2, w_ValleyR a (o + 1), w_Key E a (o + 2) x.1.1.1, w_Bells E a (o + 3) x.1.1.2.1, w_Mel E a (o + 6) x.1.1.2.2.1, w_Cliffs E a (o + 10) x.1.1.2.2.2, w_ValleyR a (o + 13), w_Key E a (o + 14) x.1.2.1.1, w_Bells E a (o + 15) x.1.2.1.2.1, w_Mel E a (o + 18) x.1.2.1.2.2.1, w_Cliffs E a (o + 22) x.1.2.1.2.2.2, w_Prog E a (o + 25) x.1.2.2.2.1, w_Chord E a (o + 31) x.1.2.2.2.2, w_Key E a (o + 34) x.2.1, w_Line E a (o + 35) x.2.2.1, w_Hist E a (o + 37) x.1.2.2.1, w_Model E ay oy y, w_LongArr E az oz z, w_DblArr E aw ow w]) := hD
  obtain ⟨q1, hq1, hF⟩ := q_bdi hF
  refine cl_i (Lc := [w_VBR a o x.2.2.2.1 x.2.2.2.2.1 x.2.2.2.2.2, w_ValleyR a (o + 1), w_Key E a (o + 2) x.1.1.1, w_Bells E a (o + 3) x.1.1.2.1, w_Mel E a (o + 6) x.1.1.2.2.1, w_Cliffs E a (o + 10) x.1.1.2.2.2, w_ValleyR a (o + 13), w_Key E a (o + 14) x.1.2.1.1, w_Bells E a (o + 15) x.1.2.1.2.1, w_Mel E a (o + 18) x.1.2.1.2.2.1, w_Cliffs E a (o + 22) x.1.2.1.2.2.2, w_Prog E a (o + 25) x.1.2.2.2.1, w_Chord E a (o + 31) x.1.2.2.2.2, w_Key E a (o + 34) x.2.1, w_Line E a (o + 35) x.2.2.1, w_Hist E a (o + 37) x.1.2.2.1, w_DblArr E aw ow w]) (Lc' := [w_VBR a o x.2.2.2.1 x.2.2.2.2.1 x.2.2.2.2.2, w_ValleyR a (o + 1), w_Key E a (o + 2) x.1.1.1, w_Bells E a (o + 3) x.1.1.2.1, w_Mel E a (o + 6) x.1.1.2.2.1, w_Cliffs E a (o + 10) x.1.1.2.2.2, w_ValleyR a (o + 13), w_Key E a (o + 14) x.1.2.1.1, w_Bells E a (o + 15) x.1.2.1.2.1, w_Mel E a (o + 18) x.1.2.1.2.2.1, w_Cliffs E a (o + 22) x.1.2.1.2.2.2, w_Prog E a (o + 25) x.1.2.2.2.1, w_Chord E a (o + 31) x.1.2.2.2.2, w_Key E a (o + 34) x.2.1, w_Line E a (o + 35) x.2.2.1, w_Hist E a (o + 37) x.1.2.2.1, w_DblArr E aw ow q1.2]) (L' := [w_VBR a o x.2.2.2.1 x.2.2.2.2.1 x.2.2.2.2.2, w_ValleyR a (o + 1), w_Key E a (o + 2) x.1.1.1, w_Bells E a (o + 3) x.1.1.2.1, w_Mel E a (o + 6) x.1.1.2.2.1, w_Cliffs E a (o + 10) x.1.1.2.2.2, w_ValleyR a (o + 13), w_Key E a (o + 14) x.1.2.1.1, w_Bells E a (o + 15) x.1.2.1.2.1, w_Mel E a (o + 18) x.1.2.1.2.2.1, w_Cliffs E a (o + 22) x.1.2.1.2.2.2, w_Prog E a (o + 25) x.1.2.2.2.1, w_Chord E a (o + 31) x.1.2.2.2.2, w_Key E a (o + 34) x.2.1, w_Line E a (o + 35) x.2.2.1, w_Hist E a (o + 37) x.1.2.2.1, w_Model E ay oy y, w_LongArr E az oz z, w_DblArr E aw ow q1.2]) (rv := q1.1) (vx_runSW (As := [.ref (a o), .ref (aw ow)]) (rest := []) ⟨hx, hb, hml, hown, ha⟩ (k_L_inKeyShare l E a o x aw ow w q1 hq1 H.size hlt) (vx_cwSW 2 ha (gi_TH (fun _ h => h) mw1331 mw1332 mw73 mw1333) rfl rfl rfl hv_L_inKeyShare.2 ⟨(Nat.le_of_ble_eq_true rfl), (Nat.le_of_ble_eq_true rfl)⟩) ⟨pre_blind, pre_at hP hD hS hz hzs hst [0, 1, 2, 3, 4, 5, 6, 7, 8, 9, 10, 11, 12, 13, 14, 15, 18] (by decide) rfl rfl⟩ rfl rfl hl.1 rfl (lv_room (Nat.le_of_ble_eq_true rfl)) dL_law_1613 ⟨by show cv + 1 ≤ 603072; omega, by show sv + 6 ≤ 7207018; omega⟩) hP hD hS hA [0, 1, 2, 3, 4, 5, 6, 7, 8, 9, 10, 11, 12, 13, 14, 15, 18] (by decide) rfl rfl rfl rfl (fun H locs hP hD hS => ?_)
  refine lv_istore (lv' := [(6, .int q1.1), (0, .ref b), (1, .ref (a o)), (2, .ref (ay oy)), (3, .ref (az oz)), (4, .ref (aw ow)), (5, .int i)]) hx hb dL_law_1616 hl (by decide) rfl (fun ls hl => ?_)
  refine lv_aload_n hx hb dL_law_1618 rfl (lv_at hl 3 rfl) ?_
  obtain ⟨q2, hq2, hF⟩ := q_bdi hF
  refine cl_f (Lc := [w_Model E ay oy y]) (Lc' := [w_Model E ay oy ((y.1.1, y.1.2.1, y.1.2.2.1, y.1.2.2.2.1, y.1.2.2.2.2), (y.2.1.1, y.2.1.2.1, y.2.1.2.2.1, y.2.1.2.2.2.1, y.2.1.2.2.2.2), (y.2.2.1.1, y.2.2.1.2.1, y.2.2.1.2.2.1, y.2.2.1.2.2.2), (q2.2, y.2.2.2.2.1, y.2.2.2.2.2.1, y.2.2.2.2.2.2))]) (L' := [w_VBR a o x.2.2.2.1 x.2.2.2.2.1 x.2.2.2.2.2, w_ValleyR a (o + 1), w_Key E a (o + 2) x.1.1.1, w_Bells E a (o + 3) x.1.1.2.1, w_Mel E a (o + 6) x.1.1.2.2.1, w_Cliffs E a (o + 10) x.1.1.2.2.2, w_ValleyR a (o + 13), w_Key E a (o + 14) x.1.2.1.1, w_Bells E a (o + 15) x.1.2.1.2.1, w_Mel E a (o + 18) x.1.2.1.2.2.1, w_Cliffs E a (o + 22) x.1.2.1.2.2.2, w_Prog E a (o + 25) x.1.2.2.2.1, w_Chord E a (o + 31) x.1.2.2.2.2, w_Key E a (o + 34) x.2.1, w_Line E a (o + 35) x.2.2.1, w_Hist E a (o + 37) x.1.2.2.1, w_Model E ay oy ((y.1.1, y.1.2.1, y.1.2.2.1, y.1.2.2.2.1, y.1.2.2.2.2), (y.2.1.1, y.2.1.2.1, y.2.1.2.2.1, y.2.1.2.2.2.1, y.2.1.2.2.2.2), (y.2.2.1.1, y.2.2.1.2.1, y.2.2.1.2.2.1, y.2.2.1.2.2.2), (q2.2, y.2.2.2.2.1, y.2.2.2.2.2.1, y.2.2.2.2.2.2)), w_LongArr E az oz z, w_DblArr E aw ow q1.2]) (rv := q2.1) (va_runV (As := []) (rest := []) ⟨hx, hb, hml, hown, ha⟩ (k_X11_inKeyShare l E ay oy y q2 hq2 H.size) (cwV 0 ha (gi_V (fun _ h => h) mw1906 mw1907 mw1908 mw87 mw1909) rfl rfl rfl hv_X11_inKeyShare ⟨(Nat.le_of_ble_eq_true rfl), (Nat.le_of_ble_eq_true rfl)⟩) ⟨pre_blind, va_recv hst.k (fr_P hP [16] rfl) (ci := 13) (q0 := 0) rfl rfl, pre_at hP hD hS hz hzs hst [16] (by decide) rfl rfl⟩ rfl rfl hl.1 rfl (lv_room (Nat.le_of_ble_eq_true rfl)) dL_law_1619 ⟨by show cv + 1 + 0 ≤ 603072; omega, by show sv + 6 + 0 ≤ 7207018; omega⟩) hP hD hS hA [16] (by decide) rfl rfl rfl rfl (fun H locs hP hD hS => ?_)
  refine lv_fstore (lv' := [(7, .float q2.1), (6, .int q1.1), (0, .ref b), (1, .ref (a o)), (2, .ref (ay oy)), (3, .ref (az oz)), (4, .ref (aw ow)), (5, .int i)]) hx hb dL_law_1622 hl (by decide) rfl (fun ls hl => ?_)
  refine lv_aload_n hx hb dL_law_1624 rfl (lv_at hl 4 rfl) ?_
  obtain ⟨q3, hq3, hF⟩ := q_bdi hF
  refine cl_i (Lc := [w_Model E ay oy ((y.1.1, y.1.2.1, y.1.2.2.1, y.1.2.2.2.1, y.1.2.2.2.2), (y.2.1.1, y.2.1.2.1, y.2.1.2.2.1, y.2.1.2.2.2.1, y.2.1.2.2.2.2), (y.2.2.1.1, y.2.2.1.2.1, y.2.2.1.2.2.1, y.2.2.1.2.2.2), (q2.2, y.2.2.2.2.1, y.2.2.2.2.2.1, y.2.2.2.2.2.2))]) (Lc' := [w_Model E ay oy ((y.1.1, y.1.2.1, y.1.2.2.1, y.1.2.2.2.1, y.1.2.2.2.2), (y.2.1.1, y.2.1.2.1, y.2.1.2.2.1, y.2.1.2.2.2.1, y.2.1.2.2.2.2), (y.2.2.1.1, y.2.2.1.2.1, y.2.2.1.2.2.1, y.2.2.1.2.2.2), (q2.2, y.2.2.2.2.1, y.2.2.2.2.2.1, y.2.2.2.2.2.2))]) (L' := [w_VBR a o x.2.2.2.1 x.2.2.2.2.1 x.2.2.2.2.2, w_ValleyR a (o + 1), w_Key E a (o + 2) x.1.1.1, w_Bells E a (o + 3) x.1.1.2.1, w_Mel E a (o + 6) x.1.1.2.2.1, w_Cliffs E a (o + 10) x.1.1.2.2.2, w_ValleyR a (o + 13), w_Key E a (o + 14) x.1.2.1.1, w_Bells E a (o + 15) x.1.2.1.2.1, w_Mel E a (o + 18) x.1.2.1.2.2.1, w_Cliffs E a (o + 22) x.1.2.1.2.2.2, w_Prog E a (o + 25) x.1.2.2.2.1, w_Chord E a (o + 31) x.1.2.2.2.2, w_Key E a (o + 34) x.2.1, w_Line E a (o + 35) x.2.2.1, w_Hist E a (o + 37) x.1.2.2.1, w_Model E ay oy ((y.1.1, y.1.2.1, y.1.2.2.1, y.1.2.2.2.1, y.1.2.2.2.2), (y.2.1.1, y.2.1.2.1, y.2.1.2.2.1, y.2.1.2.2.2.1, y.2.1.2.2.2.2), (y.2.2.1.1, y.2.2.1.2.1, y.2.2.1.2.2.1, y.2.2.1.2.2.2), (q2.2, y.2.2.2.2.1, y.2.2.2.2.2.1, y.2.2.2.2.2.2)), w_LongArr E az oz z, w_DblArr E aw ow q1.2]) (rv := q3) (va_runV (As := []) (rest := []) ⟨hx, hb, hml, hown, ha⟩ (k_X11_thrown l E ay oy ((y.1.1, y.1.2.1, y.1.2.2.1, y.1.2.2.2.1, y.1.2.2.2.2), (y.2.1.1, y.2.1.2.1, y.2.1.2.2.1, y.2.1.2.2.2.1, y.2.1.2.2.2.2), (y.2.2.1.1, y.2.2.1.2.1, y.2.2.1.2.2.1, y.2.2.1.2.2.2), (q2.2, y.2.2.2.2.1, y.2.2.2.2.2.1, y.2.2.2.2.2.2)) q3 hq3 H.size) (cwV 0 ha (gi_V (fun _ h => h) mw1691 mw1692 mw1693 mw87 mw1694) rfl rfl rfl hv_X11_thrown ⟨(Nat.le_of_ble_eq_true rfl), (Nat.le_of_ble_eq_true rfl)⟩) ⟨pre_blind, va_recv hst.k (fr_P hP [16] rfl) (ci := 13) (q0 := 0) rfl rfl, pre_at hP hD hS hz hzs hst [16] (by decide) rfl rfl⟩ rfl rfl hl.1 rfl (lv_room (Nat.le_of_ble_eq_true rfl)) dL_law_1625 ⟨by show cv + 1 + 0 ≤ 603072; omega, by show sv + 6 + 0 ≤ 7207018; omega⟩) hP hD hS hA [16] (by decide) rfl rfl rfl rfl (fun H locs hP hD hS => ?_)
  refine lv_iload hx hb dL_law_1628 (lv_at hl 1 rfl) ?_
  refine lv_icmp_eq (tgt := 1635) hx hb dL_law_1630 (by decide) (fun c1630 => ?_) (fun c1630 => ?_)
  · have hF := q_brp c1630 hF
    refine lv_iload hx hb dL_law_1635 (lv_at hl 1 rfl) ?_
    refine lv_if_ne (tgt := 1673) hx hb dL_law_1637 (by decide) (fun c1637 => ?_) (fun c1637 => ?_)
    · have hF := q_brn c1637 hF
      refine lv_goto (tgt := 2881) hx hb dL_law_1673 (by decide) ?_
      obtain rfl := Option.some.inj hF
      refine W.widen (k := cv + 60) (n := sv + 5100) (by omega) (by omega) ?_
      exact hK H locs ls hP hD hS (lv_sub hl [2, 3, 4, 5, 6, 7] rfl)
    · have hF := q_brp c1637 hF
      refine lv_aload hx hb dL_law_1640 (lv_at hl 6 rfl) ?_
      refine lv_iconst (v := 0) hx hb dL_law_1642 (by decide) ?_
      refine vi_dald hx hb hst.k hP 157 4 rfl rfl (f := q1.2) (k := 0) (by decide) (by decide) dL_law_1643 ?_
      refine lv_fload hx hb dL_law_1644 (lv_at hl 0 rfl) ?_
      obtain ⟨g4, hF⟩ := q_gdi hF
      refine lv_f2d hx hb dL_law_1646 g4 ?_
      refine lv_dcmp hx hb dL_law_1647 ?_
      refine lv_if_eq (tgt := 1673) hx hb dL_law_1648 (by decide) (fun c1648 => ?_) (fun c1648 => ?_)
      · have hF := q_brp c1648 hF
        refine lv_goto (tgt := 2881) hx hb dL_law_1673 (by decide) ?_
        obtain rfl := Option.some.inj hF
        refine W.widen (k := cv + 60) (n := sv + 5100) (by omega) (by omega) ?_
        exact hK H locs ls hP hD hS (lv_sub hl [2, 3, 4, 5, 6, 7] rfl)
      · have hF := q_brn c1648 hF
        refine lv_aload hx hb dL_law_1651 (lv_at hl 6 rfl) ?_
        refine lv_iconst (v := 0) hx hb dL_law_1653 (by decide) ?_
        refine vi_dald hx hb hst.k hP 157 4 rfl rfl (f := q1.2) (k := 0) (by decide) (by decide) dL_law_1654 ?_
        refine lv_aload hx hb dL_law_1655 (lv_at hl 6 rfl) ?_
        refine lv_iconst (v := 0) hx hb dL_law_1657 (by decide) ?_
        refine vi_dald hx hb hst.k hP 157 4 rfl rfl (f := q1.2) (k := 0) (by decide) (by decide) dL_law_1658 ?_
        refine lv_dcmp hx hb dL_law_1659 ?_
        refine lv_if_eq (tgt := 1671) hx hb dL_law_1660 (by decide) (fun c1660 => ?_) (fun c1660 => ?_)
        · have hF := q_brp c1660 hF
          exact absurd hF (by simp)
        · have hF := q_brn c1660 hF
          refine lv_fload hx hb dL_law_1663 (lv_at hl 0 rfl) ?_
          refine lv_fload hx hb dL_law_1665 (lv_at hl 0 rfl) ?_
          refine lv_fcmp hx hb dL_law_1667 ?_
          refine lv_if_ne (tgt := 1673) hx hb dL_law_1668 (by decide) (fun c1668 => ?_) (fun c1668 => ?_)
          · have hF := q_brn c1668 hF
            refine lv_goto (tgt := 2881) hx hb dL_law_1673 (by decide) ?_
            obtain rfl := Option.some.inj hF
            refine W.widen (k := cv + 60) (n := sv + 5100) (by omega) (by omega) ?_
            exact hK H locs ls hP hD hS (lv_sub hl [2, 3, 4, 5, 6, 7] rfl)
          · have hF := q_brp c1668 hF
            exact absurd hF (by simp)
  · have hF := q_brn c1630 hF
    exact absurd hF (by simp)
def f_c23 (x : VB_t) (y : Model_t) (z : Nat → Int64) (w : Nat → UInt64) (xs : Nat → Int32) (n : Nat) (i : Int32) : Option (VB_t × Model_t × (Nat → Int64) × (Nat → UInt64)) := q_bd (f_case23 x.1.1.1.1 x.1.1.1.2.1 x.1.1.1.2.2 x.1.1.2.1.2.1 x.1.1.2.1.2.2 y.1.1 y.2.2.2.1 w xs n i) (fun res => some (x, ((y.1.1, y.1.2.1, y.1.2.2.1, y.1.2.2.2.1, y.1.2.2.2.2), (y.2.1.1, y.2.1.2.1, y.2.1.2.2.1, y.2.1.2.2.2.1, y.2.1.2.2.2.2), (y.2.2.1.1, y.2.2.1.2.1, y.2.2.1.2.2.1, y.2.2.1.2.2.2), (res.1, y.2.2.2.2.1, y.2.2.2.2.2.1, y.2.2.2.2.2.2)), z, res.2))
/-! case 24 -/
theorem dL_law_1676 : decode cL_law 1676 = .ok (.aload_n 1, 1) := by decide +kernel
theorem dL_law_1677 : decode cL_law 1677 = .ok (.invokevirtual 238, 3) := by decide +kernel
theorem dL_law_1680 : decode cL_law 1680 = .ok (.aload_n 2, 1) := by decide +kernel
theorem dL_law_1681 : decode cL_law 1681 = .ok (.invokevirtual 241, 3) := by decide +kernel
theorem dL_law_1684 : decode cL_law 1684 = .ok (.if_icmp .eq 1197, 3) := by decide +kernel
def f_case24 (x_valley_key_tonic : Int32) (y_g : (Nat → Int32)) (y_thrown : Int32) (xs : (Nat → Int32)) (n : Nat) (i : Int32) : Option (Int32) :=
  q_bd (f_X10_tonic x_valley_key_tonic) (fun q1 =>
  q_bd (f_X11_tonic y_g y_thrown) (fun q2 =>
  q_br (q1 = q2.1) (
  some q2.2) (
  none)))
set_option maxHeartbeats 4000000 in
set_option maxRecDepth 100000 in
theorem kc_24 {p : Program} {e : Env} {s : State} {m : MethodId} {args : Array Value} {below : List Frame} {meth : Method} {c : Code} {Q : State → Prop} {A : Nat → Prop} (l : Launch) (hlt : l.stackTraces = false) (E : ET) (a : Nat → Nat) (o : Nat) (x : VB_t) (ay : Nat → Nat) (oy : Nat) (y : Model_t) (az : Nat → Nat) (oz : Nat) (z : Nat → Int64) (aw : Nat → Nat) (ow : Nat) (w : Nat → UInt64) (b n : Nat) (xs : Nat → Int32) (i : Int32) (hx : p.tables.exec = Jvm.exec) (hb : c.code = cL_law) (hml : c.maxLocals = 9) (hown : s.vm.findClass RL = some m.cls) (ha : ∀ w ∈ lw_all, w.before args s = true) (hA : ∀ q, s.heap.size ≤ q → A q) (hz : ∀ q, A q → E.2 0 ≤ q) (hzs : E.2 0 ≤ s.heap.size) (hst : ST E s) (hX : va_X b n xs s s.heap) (hbl : b < s.heap.size) (hbA : ¬ A b) (res : Int32) (hF : f_case24 x.1.1.1.1 y.1.1 y.2.2.2.1 xs n i = some res) {H : Heap} {locs : List Loc} {ls : Array Slot} {cv sv : Nat} (hcv : cv + 60 ≤ 603072) (hsv : sv + 5100 ≤ 7207018) (hP : va_P E.1 vwCl (List.flatten [w_VBR a o x.2.2.2.1 x.2.2.2.2.1 x.2.2.2.2.2, w_ValleyR a (o + 1), w_Key E a (o + 2) x.1.1.1, w_Bells E a (o + 3) x.1.1.2.1, w_Mel E a (o + 6) x.1.1.2.2.1, w_Cliffs E a (o + 10) x.1.1.2.2.2, w_ValleyR a (o + 13), w_Key E a (o + 14) x.1.2.1.1, w_Bells E a (o + 15) x.1.2.1.2.1, w_Mel E a (o + 18) x.1.2.1.2.2.1, w_Cliffs E a (o + 22) x.1.2.1.2.2.2, w_Prog E a (o + 25) x.1.2.2.2.1, w_Chord E a (o + 31) x.1.2.2.2.2, w_Key E a (o + 34) x.2.1, w_Line E a (o + 35) x.2.2.1, w_Hist E a (o + 37) x.1.2.2.1, w_Model E ay oy y, w_LongArr E az oz z, w_DblArr E aw ow w]) H) (hD : va_D A (List.flatten [w_VBR a o x.2.2.2.1 x.2.2.2.2.1 x.2.2.2.2.2, w_ValleyR a (o + 1), w_Key E a (o + 2) x.1.1.1, w_Bells E a (o + 3) x.1.1.2.1, w_Mel E a (o + 6) x.1.1.2.2.1, w_Cliffs E a (o + 10) x.1.1.2.2.2, w_ValleyR a (o + 13), w_Key E a (o + 14) x.1.2.1.1, w_Bells E a (o + 15) x.1.2.1.2.1, w_Mel E a (o + 18) x.1.2.1.2.2.1, w_Cliffs E a (o + 22) x.1.2.1.2.2.2, w_Prog E a (o + 25) x.1.2.2.2.1, w_Chord E a (o + 31) x.1.2.2.2.2, w_Key E a (o + 34) x.2.1, w_Line E a (o + 35) x.2.2.1, w_Hist E a (o + 37) x.1.2.2.1, w_Model E ay oy y, w_LongArr E az oz z, w_DblArr E aw ow w])) (hS : va_S A s.heap H locs) (hl : lv_has ls 9 [(0, .ref b), (1, .ref (a o)), (2, .ref (ay oy)), (3, .ref (az oz)), (4, .ref (aw ow)), (5, .int i)])
    (hK : ∀ (H : Heap) (locs : List Loc) (ls : Array Slot), va_P E.1 vwCl (List.flatten (bl_VB E a o x ++ (bl_Model E ay oy ((y.1.1, y.1.2.1, y.1.2.2.1, y.1.2.2.2.1, y.1.2.2.2.2), (y.2.1.1, y.2.1.2.1, y.2.1.2.2.1, y.2.1.2.2.2.1, y.2.1.2.2.2.2), (y.2.2.1.1, y.2.2.1.2.1, y.2.2.1.2.2.1, y.2.2.1.2.2.2), (res, y.2.2.2.2.1, y.2.2.2.2.2.1, y.2.2.2.2.2.2)) ++ (bl_LongArr E az oz z ++ bl_DblArr E aw ow w)))) H → va_D A (List.flatten (bl_VB E a o x ++ (bl_Model E ay oy ((y.1.1, y.1.2.1, y.1.2.2.1, y.1.2.2.2.1, y.1.2.2.2.2), (y.2.1.1, y.2.1.2.1, y.2.1.2.2.1, y.2.1.2.2.2.1, y.2.1.2.2.2.2), (y.2.2.1.1, y.2.2.1.2.1, y.2.2.1.2.2.1, y.2.2.1.2.2.2), (res, y.2.2.2.2.1, y.2.2.2.2.2.1, y.2.2.2.2.2.2)) ++ (bl_LongArr E az oz z ++ bl_DblArr E aw ow w)))) → va_S A s.heap H locs → lv_has ls 9 [(0, .ref b), (1, .ref (a o)), (2, .ref (ay oy)), (3, .ref (az oz)), (4, .ref (aw ow)), (5, .int i)] → W p l e room_1 s m args below meth c H locs (cv + 60) (sv + 5100) Q (F0 m 2881 ls [])) : W p l e room_1 s m args below meth c H locs cv sv Q (F0 m 1676 ls []) := by
  unfold f_case24 at hF
  refine lv_aload_n hx hb dL_law_1676 rfl (lv_at hl 1 rfl) ?_
  obtain ⟨q1, hq1, hF⟩ := q_bdi hF
  refine cl_i (Lc := [w_VBR a o x.2.2.2.1 x.2.2.2.2.1 x.2.2.2.2.2, w_ValleyR a (o + 1), w_Key E a (o + 2) x.1.1.1, w_Bells E a (o + 3) x.1.1.2.1, w_Mel E a (o + 6) x.1.1.2.2.1, w_Cliffs E a (o + 10) x.1.1.2.2.2, w_ValleyR a (o + 13), w_Key E a (o + 14) x.1.2.1.1, w_Bells E a (o + 15) x.1.2.1.2.1, w_Mel E a (o + 18) x.1.2.1.2.2.1, w_Cliffs E a (o + 22) x.1.2.1.2.2.2, w_Prog E a (o + 25) x.1.2.2.2.1, w_Chord E a (o + 31) x.1.2.2.2.2, w_Key E a (o + 34) x.2.1, w_Line E a (o + 35) x.2.2.1, w_Hist E a (o + 37) x.1.2.2.1]) (Lc' := [w_VBR a o x.2.2.2.1 x.2.2.2.2.1 x.2.2.2.2.2, w_ValleyR a (o + 1), w_Key E a (o + 2) x.1.1.1, w_Bells E a (o + 3) x.1.1.2.1, w_Mel E a (o + 6) x.1.1.2.2.1, w_Cliffs E a (o + 10) x.1.1.2.2.2, w_ValleyR a (o + 13), w_Key E a (o + 14) x.1.2.1.1, w_Bells E a (o + 15) x.1.2.1.2.1, w_Mel E a (o + 18) x.1.2.1.2.2.1, w_Cliffs E a (o + 22) x.1.2.1.2.2.2, w_Prog E a (o + 25) x.1.2.2.2.1, w_Chord E a (o + 31) x.1.2.2.2.2, w_Key E a (o + 34) x.2.1, w_Line E a (o + 35) x.2.2.1, w_Hist E a (o + 37) x.1.2.2.1]) (L' := [w_VBR a o x.2.2.2.1 x.2.2.2.2.1 x.2.2.2.2.2, w_ValleyR a (o + 1), w_Key E a (o + 2) x.1.1.1, w_Bells E a (o + 3) x.1.1.2.1, w_Mel E a (o + 6) x.1.1.2.2.1, w_Cliffs E a (o + 10) x.1.1.2.2.2, w_ValleyR a (o + 13), w_Key E a (o + 14) x.1.2.1.1, w_Bells E a (o + 15) x.1.2.1.2.1, w_Mel E a (o + 18) x.1.2.1.2.2.1, w_Cliffs E a (o + 22) x.1.2.1.2.2.2, w_Prog E a (o + 25) x.1.2.2.2.1, w_Chord E a (o + 31) x.1.2.2.2.2, w_Key E a (o + 34) x.2.1, w_Line E a (o + 35) x.2.2.1, w_Hist E a (o + 37) x.1.2.2.1, w_Model E ay oy y, w_LongArr E az oz z, w_DblArr E aw ow w]) (rv := q1) (va_runV (As := []) (rest := []) ⟨hx, hb, hml, hown, ha⟩ (k_X10_tonic l E a o x q1 hq1 H.size) (cwV 0 ha (gi_V (fun _ h => h) mw415 mw416 mw417 mw74 mw418) rfl rfl rfl hv_X10_tonic ⟨(Nat.le_of_ble_eq_true rfl), (Nat.le_of_ble_eq_true rfl)⟩) ⟨pre_blind, va_recv hst.k (fr_P hP [0, 1, 2, 3, 4, 5, 6, 7, 8, 9, 10, 11, 12, 13, 14, 15] rfl) (ci := 12) (q0 := 0) rfl rfl, pre_at hP hD hS hz hzs hst [0, 1, 2, 3, 4, 5, 6, 7, 8, 9, 10, 11, 12, 13, 14, 15] (by decide) rfl rfl⟩ rfl rfl hl.1 rfl (lv_room (Nat.le_of_ble_eq_true rfl)) dL_law_1677 ⟨by show cv + 0 ≤ 603072; omega, by show sv + 0 ≤ 7207018; omega⟩) hP hD hS hA [0, 1, 2, 3, 4, 5, 6, 7, 8, 9, 10, 11, 12, 13, 14, 15] (by decide) rfl rfl rfl rfl (fun H locs hP hD hS => ?_)
  refine lv_aload_n hx hb dL_law_1680 rfl (lv_at hl 2 rfl) ?_
  obtain ⟨q2, hq2, hF⟩ := q_bdi hF
  refine cl_i (Lc := [w_Model E ay oy y]) (Lc' := [w_Model E ay oy ((y.1.1, y.1.2.1, y.1.2.2.1, y.1.2.2.2.1, y.1.2.2.2.2), (y.2.1.1, y.2.1.2.1, y.2.1.2.2.1, y.2.1.2.2.2.1, y.2.1.2.2.2.2), (y.2.2.1.1, y.2.2.1.2.1, y.2.2.1.2.2.1, y.2.2.1.2.2.2), (q2.2, y.2.2.2.2.1, y.2.2.2.2.2.1, y.2.2.2.2.2.2))]) (L' := [w_VBR a o x.2.2.2.1 x.2.2.2.2.1 x.2.2.2.2.2, w_ValleyR a (o + 1), w_Key E a (o + 2) x.1.1.1, w_Bells E a (o + 3) x.1.1.2.1, w_Mel E a (o + 6) x.1.1.2.2.1, w_Cliffs E a (o + 10) x.1.1.2.2.2, w_ValleyR a (o + 13), w_Key E a (o + 14) x.1.2.1.1, w_Bells E a (o + 15) x.1.2.1.2.1, w_Mel E a (o + 18) x.1.2.1.2.2.1, w_Cliffs E a (o + 22) x.1.2.1.2.2.2, w_Prog E a (o + 25) x.1.2.2.2.1, w_Chord E a (o + 31) x.1.2.2.2.2, w_Key E a (o + 34) x.2.1, w_Line E a (o + 35) x.2.2.1, w_Hist E a (o + 37) x.1.2.2.1, w_Model E ay oy ((y.1.1, y.1.2.1, y.1.2.2.1, y.1.2.2.2.1, y.1.2.2.2.2), (y.2.1.1, y.2.1.2.1, y.2.1.2.2.1, y.2.1.2.2.2.1, y.2.1.2.2.2.2), (y.2.2.1.1, y.2.2.1.2.1, y.2.2.1.2.2.1, y.2.2.1.2.2.2), (q2.2, y.2.2.2.2.1, y.2.2.2.2.2.1, y.2.2.2.2.2.2)), w_LongArr E az oz z, w_DblArr E aw ow w]) (rv := q2.1) (va_runV (As := []) (rest := [.int q1]) ⟨hx, hb, hml, hown, ha⟩ (k_X11_tonic l E ay oy y q2 hq2 H.size) (cwV 0 ha (gi_V (fun _ h => h) mw1910 mw1911 mw1912 mw87 mw1913) rfl rfl rfl hv_X11_tonic ⟨(Nat.le_of_ble_eq_true rfl), (Nat.le_of_ble_eq_true rfl)⟩) ⟨pre_blind, va_recv hst.k (fr_P hP [16] rfl) (ci := 13) (q0 := 0) rfl rfl, pre_at hP hD hS hz hzs hst [16] (by decide) rfl rfl⟩ rfl rfl hl.1 rfl (lv_room (Nat.le_of_ble_eq_true rfl)) dL_law_1681 ⟨by show cv + 0 ≤ 603072; omega, by show sv + 0 ≤ 7207018; omega⟩) hP hD hS hA [16] (by decide) rfl rfl rfl rfl (fun H locs hP hD hS => ?_)
  refine lv_icmp_eq (tgt := 2881) hx hb dL_law_1684 (by decide) (fun c1684 => ?_) (fun c1684 => ?_)
  · have hF := q_brp c1684 hF
    obtain rfl := Option.some.inj hF
    refine W.widen (k := cv + 60) (n := sv + 5100) (by omega) (by omega) ?_
    exact hK H locs ls hP hD hS (lv_sub hl [0, 1, 2, 3, 4, 5] rfl)
  · have hF := q_brn c1684 hF
    exact absurd hF (by simp)
def f_c24 (x : VB_t) (y : Model_t) (z : Nat → Int64) (w : Nat → UInt64) (xs : Nat → Int32) (n : Nat) (i : Int32) : Option (VB_t × Model_t × (Nat → Int64) × (Nat → UInt64)) := q_bd (f_case24 x.1.1.1.1 y.1.1 y.2.2.2.1 xs n i) (fun res => some (x, ((y.1.1, y.1.2.1, y.1.2.2.1, y.1.2.2.2.1, y.1.2.2.2.2), (y.2.1.1, y.2.1.2.1, y.2.1.2.2.1, y.2.1.2.2.2.1, y.2.1.2.2.2.2), (y.2.2.1.1, y.2.2.1.2.1, y.2.2.1.2.2.1, y.2.2.1.2.2.2), (res, y.2.2.2.2.1, y.2.2.2.2.2.1, y.2.2.2.2.2.2)), z, w))
/-! case 25 -/
theorem dL_law_1689 : decode cL_law 1689 = .ok (.aload_n 1, 1) := by decide +kernel
theorem dL_law_1690 : decode cL_law 1690 = .ok (.invokevirtual 242, 3) := by decide +kernel
theorem dL_law_1693 : decode cL_law 1693 = .ok (.aload_n 2, 1) := by decide +kernel
theorem dL_law_1694 : decode cL_law 1694 = .ok (.invokevirtual 245, 3) := by decide +kernel
theorem dL_law_1697 : decode cL_law 1697 = .ok (.if_icmp .eq 1184, 3) := by decide +kernel
def f_case25 (x_valley_key_isMinor : Int32) (y_g : (Nat → Int32)) (y_thrown : Int32) (xs : (Nat → Int32)) (n : Nat) (i : Int32) : Option (Int32) :=
  q_bd (f_X10_isMinor x_valley_key_isMinor) (fun q1 =>
  q_bd (f_X11_isMinor y_g y_thrown) (fun q2 =>
  q_br (q1 = q2.1) (
  some q2.2) (
  none)))
set_option maxHeartbeats 4000000 in
set_option maxRecDepth 100000 in
theorem kc_25 {p : Program} {e : Env} {s : State} {m : MethodId} {args : Array Value} {below : List Frame} {meth : Method} {c : Code} {Q : State → Prop} {A : Nat → Prop} (l : Launch) (hlt : l.stackTraces = false) (E : ET) (a : Nat → Nat) (o : Nat) (x : VB_t) (ay : Nat → Nat) (oy : Nat) (y : Model_t) (az : Nat → Nat) (oz : Nat) (z : Nat → Int64) (aw : Nat → Nat) (ow : Nat) (w : Nat → UInt64) (b n : Nat) (xs : Nat → Int32) (i : Int32) (hx : p.tables.exec = Jvm.exec) (hb : c.code = cL_law) (hml : c.maxLocals = 9) (hown : s.vm.findClass RL = some m.cls) (ha : ∀ w ∈ lw_all, w.before args s = true) (hA : ∀ q, s.heap.size ≤ q → A q) (hz : ∀ q, A q → E.2 0 ≤ q) (hzs : E.2 0 ≤ s.heap.size) (hst : ST E s) (hX : va_X b n xs s s.heap) (hbl : b < s.heap.size) (hbA : ¬ A b) (res : Int32) (hF : f_case25 x.1.1.1.2.1 y.1.1 y.2.2.2.1 xs n i = some res) {H : Heap} {locs : List Loc} {ls : Array Slot} {cv sv : Nat} (hcv : cv + 60 ≤ 603072) (hsv : sv + 5100 ≤ 7207018) (hP : va_P E.1 vwCl (List.flatten [w_VBR a o x.2.2.2.1 x.2.2.2.2.1 x.2.2.2.2.2, w_ValleyR a (o + 1), w_Key E a (o + 2) x.1.1.1, w_Bells E a (o + 3) x.1.1.2.1, w_Mel E a (o + 6) x.1.1.2.2.1, w_Cliffs E a (o + 10) x.1.1.2.2.2, w_ValleyR a (o + 13), w_Key E a (o + 14) x.1.2.1.1, w_Bells E a (o + 15) x.1.2.1.2.1, w_Mel E a (o + 18) x.1.2.1.2.2.1, w_Cliffs E a (o + 22) x.1.2.1.2.2.2, w_Prog E a (o + 25) x.1.2.2.2.1, w_Chord E a (o + 31) x.1.2.2.2.2, w_Key E a (o + 34) x.2.1, w_Line E a (o + 35) x.2.2.1, w_Hist E a (o + 37) x.1.2.2.1, w_Model E ay oy y, w_LongArr E az oz z, w_DblArr E aw ow w]) H) (hD : va_D A (List.flatten [w_VBR a o x.2.2.2.1 x.2.2.2.2.1 x.2.2.2.2.2, w_ValleyR a (o + 1), w_Key E a (o + 2) x.1.1.1, w_Bells E a (o + 3) x.1.1.2.1, w_Mel E a (o + 6) x.1.1.2.2.1, w_Cliffs E a (o + 10) x.1.1.2.2.2, w_ValleyR a (o + 13), w_Key E a (o + 14) x.1.2.1.1, w_Bells E a (o + 15) x.1.2.1.2.1, w_Mel E a (o + 18) x.1.2.1.2.2.1, w_Cliffs E a (o + 22) x.1.2.1.2.2.2, w_Prog E a (o + 25) x.1.2.2.2.1, w_Chord E a (o + 31) x.1.2.2.2.2, w_Key E a (o + 34) x.2.1, w_Line E a (o + 35) x.2.2.1, w_Hist E a (o + 37) x.1.2.2.1, w_Model E ay oy y, w_LongArr E az oz z, w_DblArr E aw ow w])) (hS : va_S A s.heap H locs) (hl : lv_has ls 9 [(0, .ref b), (1, .ref (a o)), (2, .ref (ay oy)), (3, .ref (az oz)), (4, .ref (aw ow)), (5, .int i)])
    (hK : ∀ (H : Heap) (locs : List Loc) (ls : Array Slot), va_P E.1 vwCl (List.flatten (bl_VB E a o x ++ (bl_Model E ay oy ((y.1.1, y.1.2.1, y.1.2.2.1, y.1.2.2.2.1, y.1.2.2.2.2), (y.2.1.1, y.2.1.2.1, y.2.1.2.2.1, y.2.1.2.2.2.1, y.2.1.2.2.2.2), (y.2.2.1.1, y.2.2.1.2.1, y.2.2.1.2.2.1, y.2.2.1.2.2.2), (res, y.2.2.2.2.1, y.2.2.2.2.2.1, y.2.2.2.2.2.2)) ++ (bl_LongArr E az oz z ++ bl_DblArr E aw ow w)))) H → va_D A (List.flatten (bl_VB E a o x ++ (bl_Model E ay oy ((y.1.1, y.1.2.1, y.1.2.2.1, y.1.2.2.2.1, y.1.2.2.2.2), (y.2.1.1, y.2.1.2.1, y.2.1.2.2.1, y.2.1.2.2.2.1, y.2.1.2.2.2.2), (y.2.2.1.1, y.2.2.1.2.1, y.2.2.1.2.2.1, y.2.2.1.2.2.2), (res, y.2.2.2.2.1, y.2.2.2.2.2.1, y.2.2.2.2.2.2)) ++ (bl_LongArr E az oz z ++ bl_DblArr E aw ow w)))) → va_S A s.heap H locs → lv_has ls 9 [(0, .ref b), (1, .ref (a o)), (2, .ref (ay oy)), (3, .ref (az oz)), (4, .ref (aw ow)), (5, .int i)] → W p l e room_1 s m args below meth c H locs (cv + 60) (sv + 5100) Q (F0 m 2881 ls [])) : W p l e room_1 s m args below meth c H locs cv sv Q (F0 m 1689 ls []) := by
  unfold f_case25 at hF
  refine lv_aload_n hx hb dL_law_1689 rfl (lv_at hl 1 rfl) ?_
  obtain ⟨q1, hq1, hF⟩ := q_bdi hF
  refine cl_i (Lc := [w_VBR a o x.2.2.2.1 x.2.2.2.2.1 x.2.2.2.2.2, w_ValleyR a (o + 1), w_Key E a (o + 2) x.1.1.1, w_Bells E a (o + 3) x.1.1.2.1, w_Mel E a (o + 6) x.1.1.2.2.1, w_Cliffs E a (o + 10) x.1.1.2.2.2, w_ValleyR a (o + 13), w_Key E a (o + 14) x.1.2.1.1, w_Bells E a (o + 15) x.1.2.1.2.1, w_Mel E a (o + 18) x.1.2.1.2.2.1, w_Cliffs E a (o + 22) x.1.2.1.2.2.2, w_Prog E a (o + 25) x.1.2.2.2.1, w_Chord E a (o + 31) x.1.2.2.2.2, w_Key E a (o + 34) x.2.1, w_Line E a (o + 35) x.2.2.1, w_Hist E a (o + 37) x.1.2.2.1]) (Lc' := [w_VBR a o x.2.2.2.1 x.2.2.2.2.1 x.2.2.2.2.2, w_ValleyR a (o + 1), w_Key E a (o + 2) x.1.1.1, w_Bells E a (o + 3) x.1.1.2.1, w_Mel E a (o + 6) x.1.1.2.2.1, w_Cliffs E a (o + 10) x.1.1.2.2.2, w_ValleyR a (o + 13), w_Key E a (o + 14) x.1.2.1.1, w_Bells E a (o + 15) x.1.2.1.2.1, w_Mel E a (o + 18) x.1.2.1.2.2.1, w_Cliffs E a (o + 22) x.1.2.1.2.2.2, w_Prog E a (o + 25) x.1.2.2.2.1, w_Chord E a (o + 31) x.1.2.2.2.2, w_Key E a (o + 34) x.2.1, w_Line E a (o + 35) x.2.2.1, w_Hist E a (o + 37) x.1.2.2.1]) (L' := [w_VBR a o x.2.2.2.1 x.2.2.2.2.1 x.2.2.2.2.2, w_ValleyR a (o + 1), w_Key E a (o + 2) x.1.1.1, w_Bells E a (o + 3) x.1.1.2.1, w_Mel E a (o + 6) x.1.1.2.2.1, w_Cliffs E a (o + 10) x.1.1.2.2.2, w_ValleyR a (o + 13), w_Key E a (o + 14) x.1.2.1.1, w_Bells E a (o + 15) x.1.2.1.2.1, w_Mel E a (o + 18) x.1.2.1.2.2.1, w_Cliffs E a (o + 22) x.1.2.1.2.2.2, w_Prog E a (o + 25) x.1.2.2.2.1, w_Chord E a (o + 31) x.1.2.2.2.2, w_Key E a (o + 34) x.2.1, w_Line E a (o + 35) x.2.2.1, w_Hist E a (o + 37) x.1.2.2.1, w_Model E ay oy y, w_LongArr E az oz z, w_DblArr E aw ow w]) (rv := q1) (va_runV (As := []) (rest := []) ⟨hx, hb, hml, hown, ha⟩ (k_X10_isMinor l E a o x q1 hq1 H.size) (cwV 0 ha (gi_V (fun _ h => h) mw419 mw420 mw421 mw74 mw422) rfl rfl rfl hv_X10_isMinor ⟨(Nat.le_of_ble_eq_true rfl), (Nat.le_of_ble_eq_true rfl)⟩) ⟨pre_blind, va_recv hst.k (fr_P hP [0, 1, 2, 3, 4, 5, 6, 7, 8, 9, 10, 11, 12, 13, 14, 15] rfl) (ci := 12) (q0 := 0) rfl rfl, pre_at hP hD hS hz hzs hst [0, 1, 2, 3, 4, 5, 6, 7, 8, 9, 10, 11, 12, 13, 14, 15] (by decide) rfl rfl⟩ rfl rfl hl.1 rfl (lv_room (Nat.le_of_ble_eq_true rfl)) dL_law_1690 ⟨by show cv + 0 ≤ 603072; omega, by show sv + 0 ≤ 7207018; omega⟩) hP hD hS hA [0, 1, 2, 3, 4, 5, 6, 7, 8, 9, 10, 11, 12, 13, 14, 15] (by decide) rfl rfl rfl rfl (fun H locs hP hD hS => ?_)
  refine lv_aload_n hx hb dL_law_1693 rfl (lv_at hl 2 rfl) ?_
  obtain ⟨q2, hq2, hF⟩ := q_bdi hF
  refine cl_i (Lc := [w_Model E ay oy y]) (Lc' := [w_Model E ay oy ((y.1.1, y.1.2.1, y.1.2.2.1, y.1.2.2.2.1, y.1.2.2.2.2), (y.2.1.1, y.2.1.2.1, y.2.1.2.2.1, y.2.1.2.2.2.1, y.2.1.2.2.2.2), (y.2.2.1.1, y.2.2.1.2.1, y.2.2.1.2.2.1, y.2.2.1.2.2.2), (q2.2, y.2.2.2.2.1, y.2.2.2.2.2.1, y.2.2.2.2.2.2))]) (L' := [w_VBR a o x.2.2.2.1 x.2.2.2.2.1 x.2.2.2.2.2, w_ValleyR a (o + 1), w_Key E a (o + 2) x.1.1.1, w_Bells E a (o + 3) x.1.1.2.1, w_Mel E a (o + 6) x.1.1.2.2.1, w_Cliffs E a (o + 10) x.1.1.2.2.2, w_ValleyR a (o + 13), w_Key E a (o + 14) x.1.2.1.1, w_Bells E a (o + 15) x.1.2.1.2.1, w_Mel E a (o + 18) x.1.2.1.2.2.1, w_Cliffs E a (o + 22) x.1.2.1.2.2.2, w_Prog E a (o + 25) x.1.2.2.2.1, w_Chord E a (o + 31) x.1.2.2.2.2, w_Key E a (o + 34) x.2.1, w_Line E a (o + 35) x.2.2.1, w_Hist E a (o + 37) x.1.2.2.1, w_Model E ay oy ((y.1.1, y.1.2.1, y.1.2.2.1, y.1.2.2.2.1, y.1.2.2.2.2), (y.2.1.1, y.2.1.2.1, y.2.1.2.2.1, y.2.1.2.2.2.1, y.2.1.2.2.2.2), (y.2.2.1.1, y.2.2.1.2.1, y.2.2.1.2.2.1, y.2.2.1.2.2.2), (q2.2, y.2.2.2.2.1, y.2.2.2.2.2.1, y.2.2.2.2.2.2)), w_LongArr E az oz z, w_DblArr E aw ow w]) (rv := q2.1) (va_runV (As := []) (rest := [.int q1]) ⟨hx, hb, hml, hown, ha⟩ (k_X11_isMinor l E ay oy y q2 hq2 H.size) (cwV 0 ha (gi_V (fun _ h => h) mw1914 mw1915 mw1916 mw87 mw1917) rfl rfl rfl hv_X11_isMinor ⟨(Nat.le_of_ble_eq_true rfl), (Nat.le_of_ble_eq_true rfl)⟩) ⟨pre_blind, va_recv hst.k (fr_P hP [16] rfl) (ci := 13) (q0 := 0) rfl rfl, pre_at hP hD hS hz hzs hst [16] (by decide) rfl rfl⟩ rfl rfl hl.1 rfl (lv_room (Nat.le_of_ble_eq_true rfl)) dL_law_1694 ⟨by show cv + 0 ≤ 603072; omega, by show sv + 0 ≤ 7207018; omega⟩) hP hD hS hA [16] (by decide) rfl rfl rfl rfl (fun H locs hP hD hS => ?_)
  refine lv_icmp_eq (tgt := 2881) hx hb dL_law_1697 (by decide) (fun c1697 => ?_) (fun c1697 => ?_)
  · have hF := q_brp c1697 hF
    obtain rfl := Option.some.inj hF
    refine W.widen (k := cv + 60) (n := sv + 5100) (by omega) (by omega) ?_
    exact hK H locs ls hP hD hS (lv_sub hl [0, 1, 2, 3, 4, 5] rfl)
  · have hF := q_brn c1697 hF
    exact absurd hF (by simp)
def f_c25 (x : VB_t) (y : Model_t) (z : Nat → Int64) (w : Nat → UInt64) (xs : Nat → Int32) (n : Nat) (i : Int32) : Option (VB_t × Model_t × (Nat → Int64) × (Nat → UInt64)) := q_bd (f_case25 x.1.1.1.2.1 y.1.1 y.2.2.2.1 xs n i) (fun res => some (x, ((y.1.1, y.1.2.1, y.1.2.2.1, y.1.2.2.2.1, y.1.2.2.2.2), (y.2.1.1, y.2.1.2.1, y.2.1.2.2.1, y.2.1.2.2.2.1, y.2.1.2.2.2.2), (y.2.2.1.1, y.2.2.1.2.1, y.2.2.1.2.2.1, y.2.2.1.2.2.2), (res, y.2.2.2.2.1, y.2.2.2.2.2.1, y.2.2.2.2.2.2)), z, w))
/-! case 26 -/
theorem dL_law_1702 : decode cL_law 1702 = .ok (.aload_n 1, 1) := by decide +kernel
theorem dL_law_1703 : decode cL_law 1703 = .ok (.invokevirtual 246, 3) := by decide +kernel
theorem dL_law_1706 : decode cL_law 1706 = .ok (.aload_n 2, 1) := by decide +kernel
theorem dL_law_1707 : decode cL_law 1707 = .ok (.invokevirtual 249, 3) := by decide +kernel
theorem dL_law_1710 : decode cL_law 1710 = .ok (.if_icmp .eq 1171, 3) := by decide +kernel
def f_case26 (x_valley_key_tolerance : Int32) (y_g : (Nat → Int32)) (y_thrown : Int32) (xs : (Nat → Int32)) (n : Nat) (i : Int32) : Option (Int32) :=
  q_bd (f_X10_tolerance x_valley_key_tolerance) (fun q1 =>
  q_bd (f_X11_tolerance y_g y_thrown) (fun q2 =>
  q_br (q1 = q2.1) (
  some q2.2) (
  none)))
set_option maxHeartbeats 4000000 in
set_option maxRecDepth 100000 in
theorem kc_26 {p : Program} {e : Env} {s : State} {m : MethodId} {args : Array Value} {below : List Frame} {meth : Method} {c : Code} {Q : State → Prop} {A : Nat → Prop} (l : Launch) (hlt : l.stackTraces = false) (E : ET) (a : Nat → Nat) (o : Nat) (x : VB_t) (ay : Nat → Nat) (oy : Nat) (y : Model_t) (az : Nat → Nat) (oz : Nat) (z : Nat → Int64) (aw : Nat → Nat) (ow : Nat) (w : Nat → UInt64) (b n : Nat) (xs : Nat → Int32) (i : Int32) (hx : p.tables.exec = Jvm.exec) (hb : c.code = cL_law) (hml : c.maxLocals = 9) (hown : s.vm.findClass RL = some m.cls) (ha : ∀ w ∈ lw_all, w.before args s = true) (hA : ∀ q, s.heap.size ≤ q → A q) (hz : ∀ q, A q → E.2 0 ≤ q) (hzs : E.2 0 ≤ s.heap.size) (hst : ST E s) (hX : va_X b n xs s s.heap) (hbl : b < s.heap.size) (hbA : ¬ A b) (res : Int32) (hF : f_case26 x.1.1.1.2.2 y.1.1 y.2.2.2.1 xs n i = some res) {H : Heap} {locs : List Loc} {ls : Array Slot} {cv sv : Nat} (hcv : cv + 60 ≤ 603072) (hsv : sv + 5100 ≤ 7207018) (hP : va_P E.1 vwCl (List.flatten [w_VBR a o x.2.2.2.1 x.2.2.2.2.1 x.2.2.2.2.2, w_ValleyR a (o + 1), w_Key E a (o + 2) x.1.1.1, w_Bells E a (o + 3) x.1.1.2.1, w_Mel E a (o + 6) x.1.1.2.2.1, w_Cliffs E a (o + 10) x.1.1.2.2.2, w_ValleyR a (o + 13), w_Key E a (o + 14) x.1.2.1.1, w_Bells E a (o + 15) x.1.2.1.2.1, w_Mel E a (o + 18) x.1.2.1.2.2.1, w_Cliffs E a (o + 22) x.1.2.1.2.2.2, w_Prog E a (o + 25) x.1.2.2.2.1, w_Chord E a (o + 31) x.1.2.2.2.2, w_Key E a (o + 34) x.2.1, w_Line E a (o + 35) x.2.2.1, w_Hist E a (o + 37) x.1.2.2.1, w_Model E ay oy y, w_LongArr E az oz z, w_DblArr E aw ow w]) H) (hD : va_D A (List.flatten [w_VBR a o x.2.2.2.1 x.2.2.2.2.1 x.2.2.2.2.2, w_ValleyR a (o + 1), w_Key E a (o + 2) x.1.1.1, w_Bells E a (o + 3) x.1.1.2.1, w_Mel E a (o + 6) x.1.1.2.2.1, w_Cliffs E a (o + 10) x.1.1.2.2.2, w_ValleyR a (o + 13), w_Key E a (o + 14) x.1.2.1.1, w_Bells E a (o + 15) x.1.2.1.2.1, w_Mel E a (o + 18) x.1.2.1.2.2.1, w_Cliffs E a (o + 22) x.1.2.1.2.2.2, w_Prog E a (o + 25) x.1.2.2.2.1, w_Chord E a (o + 31) x.1.2.2.2.2, w_Key E a (o + 34) x.2.1, w_Line E a (o + 35) x.2.2.1, w_Hist E a (o + 37) x.1.2.2.1, w_Model E ay oy y, w_LongArr E az oz z, w_DblArr E aw ow w])) (hS : va_S A s.heap H locs) (hl : lv_has ls 9 [(0, .ref b), (1, .ref (a o)), (2, .ref (ay oy)), (3, .ref (az oz)), (4, .ref (aw ow)), (5, .int i)])
    (hK : ∀ (H : Heap) (locs : List Loc) (ls : Array Slot), va_P E.1 vwCl (List.flatten (bl_VB E a o x ++ (bl_Model E ay oy ((y.1.1, y.1.2.1, y.1.2.2.1, y.1.2.2.2.1, y.1.2.2.2.2), (y.2.1.1, y.2.1.2.1, y.2.1.2.2.1, y.2.1.2.2.2.1, y.2.1.2.2.2.2), (y.2.2.1.1, y.2.2.1.2.1, y.2.2.1.2.2.1, y.2.2.1.2.2.2), (res, y.2.2.2.2.1, y.2.2.2.2.2.1, y.2.2.2.2.2.2)) ++ (bl_LongArr E az oz z ++ bl_DblArr E aw ow w)))) H → va_D A (List.flatten (bl_VB E a o x ++ (bl_Model E ay oy ((y.1.1, y.1.2.1, y.1.2.2.1, y.1.2.2.2.1, y.1.2.2.2.2), (y.2.1.1, y.2.1.2.1, y.2.1.2.2.1, y.2.1.2.2.2.1, y.2.1.2.2.2.2), (y.2.2.1.1, y.2.2.1.2.1, y.2.2.1.2.2.1, y.2.2.1.2.2.2), (res, y.2.2.2.2.1, y.2.2.2.2.2.1, y.2.2.2.2.2.2)) ++ (bl_LongArr E az oz z ++ bl_DblArr E aw ow w)))) → va_S A s.heap H locs → lv_has ls 9 [(0, .ref b), (1, .ref (a o)), (2, .ref (ay oy)), (3, .ref (az oz)), (4, .ref (aw ow)), (5, .int i)] → W p l e room_1 s m args below meth c H locs (cv + 60) (sv + 5100) Q (F0 m 2881 ls [])) : W p l e room_1 s m args below meth c H locs cv sv Q (F0 m 1702 ls []) := by
  unfold f_case26 at hF
  refine lv_aload_n hx hb dL_law_1702 rfl (lv_at hl 1 rfl) ?_
  obtain ⟨q1, hq1, hF⟩ := q_bdi hF
  refine cl_i (Lc := [w_VBR a o x.2.2.2.1 x.2.2.2.2.1 x.2.2.2.2.2, w_ValleyR a (o + 1), w_Key E a (o + 2) x.1.1.1, w_Bells E a (o + 3) x.1.1.2.1, w_Mel E a (o + 6) x.1.1.2.2.1, w_Cliffs E a (o + 10) x.1.1.2.2.2, w_ValleyR a (o + 13), w_Key E a (o + 14) x.1.2.1.1, w_Bells E a (o + 15) x.1.2.1.2.1, w_Mel E a (o + 18) x.1.2.1.2.2.1, w_Cliffs E a (o + 22) x.1.2.1.2.2.2, w_Prog E a (o + 25) x.1.2.2.2.1, w_Chord E a (o + 31) x.1.2.2.2.2, w_Key E a (o + 34) x.2.1, w_Line E a (o + 35) x.2.2.1, w_Hist E a (o + 37) x.1.2.2.1]) (Lc' := [w_VBR a o x.2.2.2.1 x.2.2.2.2.1 x.2.2.2.2.2, w_ValleyR a (o + 1), w_Key E a (o + 2) x.1.1.1, w_Bells E a (o + 3) x.1.1.2.1, w_Mel E a (o + 6) x.1.1.2.2.1, w_Cliffs E a (o + 10) x.1.1.2.2.2, w_ValleyR a (o + 13), w_Key E a (o + 14) x.1.2.1.1, w_Bells E a (o + 15) x.1.2.1.2.1, w_Mel E a (o + 18) x.1.2.1.2.2.1, w_Cliffs E a (o + 22) x.1.2.1.2.2.2, w_Prog E a (o + 25) x.1.2.2.2.1, w_Chord E a (o + 31) x.1.2.2.2.2, w_Key E a (o + 34) x.2.1, w_Line E a (o + 35) x.2.2.1, w_Hist E a (o + 37) x.1.2.2.1]) (L' := [w_VBR a o x.2.2.2.1 x.2.2.2.2.1 x.2.2.2.2.2, w_ValleyR a (o + 1), w_Key E a (o + 2) x.1.1.1, w_Bells E a (o + 3) x.1.1.2.1, w_Mel E a (o + 6) x.1.1.2.2.1, w_Cliffs E a (o + 10) x.1.1.2.2.2, w_ValleyR a (o + 13), w_Key E a (o + 14) x.1.2.1.1, w_Bells E a (o + 15) x.1.2.1.2.1, w_Mel E a (o + 18) x.1.2.1.2.2.1, w_Cliffs E a (o + 22) x.1.2.1.2.2.2, w_Prog E a (o + 25) x.1.2.2.2.1, w_Chord E a (o + 31) x.1.2.2.2.2, w_Key E a (o + 34) x.2.1, w_Line E a (o + 35) x.2.2.1, w_Hist E a (o + 37) x.1.2.2.1, w_Model E ay oy y, w_LongArr E az oz z, w_DblArr E aw ow w]) (rv := q1) (va_runV (As := []) (rest := []) ⟨hx, hb, hml, hown, ha⟩ (k_X10_tolerance l E a o x q1 hq1 H.size) (cwV 0 ha (gi_V (fun _ h => h) mw423 mw424 mw425 mw74 mw426) rfl rfl rfl hv_X10_tolerance ⟨(Nat.le_of_ble_eq_true rfl), (Nat.le_of_ble_eq_true rfl)⟩) ⟨pre_blind, va_recv hst.k (fr_P hP [0, 1, 2, 3, 4, 5, 6, 7, 8, 9, 10, 11, 12, 13, 14, 15] rfl) (ci := 12) (q0 := 0) rfl rfl, pre_at hP hD hS hz hzs hst [0, 1, 2, 3, 4, 5, 6, 7, 8, 9, 10, 11, 12, 13, 14, 15] (by decide) rfl rfl⟩ rfl rfl hl.1 rfl (lv_room (Nat.le_of_ble_eq_true rfl)) dL_law_1703 ⟨by show cv + 0 ≤ 603072; omega, by show sv + 0 ≤ 7207018; omega⟩) hP hD hS hA [0, 1, 2, 3, 4, 5, 6, 7, 8, 9, 10, 11, 12, 13, 14, 15] (by decide) rfl rfl rfl rfl (fun H locs hP hD hS => ?_)
  refine lv_aload_n hx hb dL_law_1706 rfl (lv_at hl 2 rfl) ?_
  obtain ⟨q2, hq2, hF⟩ := q_bdi hF
  refine cl_i (Lc := [w_Model E ay oy y]) (Lc' := [w_Model E ay oy ((y.1.1, y.1.2.1, y.1.2.2.1, y.1.2.2.2.1, y.1.2.2.2.2), (y.2.1.1, y.2.1.2.1, y.2.1.2.2.1, y.2.1.2.2.2.1, y.2.1.2.2.2.2), (y.2.2.1.1, y.2.2.1.2.1, y.2.2.1.2.2.1, y.2.2.1.2.2.2), (q2.2, y.2.2.2.2.1, y.2.2.2.2.2.1, y.2.2.2.2.2.2))]) (L' := [w_VBR a o x.2.2.2.1 x.2.2.2.2.1 x.2.2.2.2.2, w_ValleyR a (o + 1), w_Key E a (o + 2) x.1.1.1, w_Bells E a (o + 3) x.1.1.2.1, w_Mel E a (o + 6) x.1.1.2.2.1, w_Cliffs E a (o + 10) x.1.1.2.2.2, w_ValleyR a (o + 13), w_Key E a (o + 14) x.1.2.1.1, w_Bells E a (o + 15) x.1.2.1.2.1, w_Mel E a (o + 18) x.1.2.1.2.2.1, w_Cliffs E a (o + 22) x.1.2.1.2.2.2, w_Prog E a (o + 25) x.1.2.2.2.1, w_Chord E a (o + 31) x.1.2.2.2.2, w_Key E a (o + 34) x.2.1, w_Line E a (o + 35) x.2.2.1, w_Hist E a (o + 37) x.1.2.2.1, w_Model E ay oy ((y.1.1, y.1.2.1, y.1.2.2.1, y.1.2.2.2.1, y.1.2.2.2.2), (y.2.1.1, y.2.1.2.1, y.2.1.2.2.1, y.2.1.2.2.2.1, y.2.1.2.2.2.2), (y.2.2.1.1, y.2.2.1.2.1, y.2.2.1.2.2.1, y.2.2.1.2.2.2), (q2.2, y.2.2.2.2.1, y.2.2.2.2.2.1, y.2.2.2.2.2.2)), w_LongArr E az oz z, w_DblArr E aw ow w]) (rv := q2.1) (va_runV (As := []) (rest := [.int q1]) ⟨hx, hb, hml, hown, ha⟩ (k_X11_tolerance l E ay oy y q2 hq2 H.size) (cwV 0 ha (gi_V (fun _ h => h) mw1918 mw1919 mw1920 mw87 mw1921) rfl rfl rfl hv_X11_tolerance ⟨(Nat.le_of_ble_eq_true rfl), (Nat.le_of_ble_eq_true rfl)⟩) ⟨pre_blind, va_recv hst.k (fr_P hP [16] rfl) (ci := 13) (q0 := 0) rfl rfl, pre_at hP hD hS hz hzs hst [16] (by decide) rfl rfl⟩ rfl rfl hl.1 rfl (lv_room (Nat.le_of_ble_eq_true rfl)) dL_law_1707 ⟨by show cv + 0 ≤ 603072; omega, by show sv + 0 ≤ 7207018; omega⟩) hP hD hS hA [16] (by decide) rfl rfl rfl rfl (fun H locs hP hD hS => ?_)
  refine lv_icmp_eq (tgt := 2881) hx hb dL_law_1710 (by decide) (fun c1710 => ?_) (fun c1710 => ?_)
  · have hF := q_brp c1710 hF
    obtain rfl := Option.some.inj hF
    refine W.widen (k := cv + 60) (n := sv + 5100) (by omega) (by omega) ?_
    exact hK H locs ls hP hD hS (lv_sub hl [0, 1, 2, 3, 4, 5] rfl)
  · have hF := q_brn c1710 hF
    exact absurd hF (by simp)
def f_c26 (x : VB_t) (y : Model_t) (z : Nat → Int64) (w : Nat → UInt64) (xs : Nat → Int32) (n : Nat) (i : Int32) : Option (VB_t × Model_t × (Nat → Int64) × (Nat → UInt64)) := q_bd (f_case26 x.1.1.1.2.2 y.1.1 y.2.2.2.1 xs n i) (fun res => some (x, ((y.1.1, y.1.2.1, y.1.2.2.1, y.1.2.2.2.1, y.1.2.2.2.2), (y.2.1.1, y.2.1.2.1, y.2.1.2.2.1, y.2.1.2.2.2.1, y.2.1.2.2.2.2), (y.2.2.1.1, y.2.2.1.2.1, y.2.2.1.2.2.1, y.2.2.1.2.2.2), (res, y.2.2.2.2.1, y.2.2.2.2.2.1, y.2.2.2.2.2.2)), z, w))
/-! case 27 -/
theorem dL_law_1715 : decode cL_law 1715 = .ok (.aload_n 1, 1) := by decide +kernel
theorem dL_law_1716 : decode cL_law 1716 = .ok (.aload_n 0, 1) := by decide +kernel
theorem dL_law_1717 : decode cL_law 1717 = .ok (.iload 5, 2) := by decide +kernel
theorem dL_law_1719 : decode cL_law 1719 = .ok (.iconst 1, 1) := by decide +kernel
theorem dL_law_1720 : decode cL_law 1720 = .ok (.iadd, 1) := by decide +kernel
theorem dL_law_1721 : decode cL_law 1721 = .ok (.iaload, 1) := by decide +kernel
theorem dL_law_1722 : decode cL_law 1722 = .ok (.aload_n 3, 1) := by decide +kernel
theorem dL_law_1723 : decode cL_law 1723 = .ok (.invokestatic 250, 3) := by decide +kernel
theorem dL_law_1726 : decode cL_law 1726 = .ok (.istore 6, 2) := by decide +kernel
theorem dL_law_1728 : decode cL_law 1728 = .ok (.aload_n 2, 1) := by decide +kernel
theorem dL_law_1729 : decode cL_law 1729 = .ok (.aload_n 0, 1) := by decide +kernel
theorem dL_law_1730 : decode cL_law 1730 = .ok (.iload 5, 2) := by decide +kernel
theorem dL_law_1732 : decode cL_law 1732 = .ok (.iconst 1, 1) := by decide +kernel
theorem dL_law_1733 : decode cL_law 1733 = .ok (.iadd, 1) := by decide +kernel
theorem dL_law_1734 : decode cL_law 1734 = .ok (.iaload, 1) := by decide +kernel
theorem dL_law_1735 : decode cL_law 1735 = .ok (.invokevirtual 252, 3) := by decide +kernel
theorem dL_law_1738 : decode cL_law 1738 = .ok (.istore 7, 2) := by decide +kernel
theorem dL_law_1740 : decode cL_law 1740 = .ok (.aload_n 2, 1) := by decide +kernel
theorem dL_law_1741 : decode cL_law 1741 = .ok (.invokevirtual 160, 3) := by decide +kernel
theorem dL_law_1744 : decode cL_law 1744 = .ok (.iload 6, 2) := by decide +kernel
theorem dL_law_1746 : decode cL_law 1746 = .ok (.if_icmp .eq 5, 3) := by decide +kernel
theorem dL_law_1751 : decode cL_law 1751 = .ok (.iload 6, 2) := by decide +kernel
theorem dL_law_1753 : decode cL_law 1753 = .ok (.ifCond .ne 22, 3) := by decide +kernel
theorem dL_law_1756 : decode cL_law 1756 = .ok (.aload_n 3, 1) := by decide +kernel
theorem dL_law_1757 : decode cL_law 1757 = .ok (.iconst 0, 1) := by decide +kernel
theorem dL_law_1758 : decode cL_law 1758 = .ok (.laload, 1) := by decide +kernel
theorem dL_law_1759 : decode cL_law 1759 = .ok (.iload 7, 2) := by decide +kernel
theorem dL_law_1761 : decode cL_law 1761 = .ok (.ifCond .eq 7, 3) := by decide +kernel
theorem dL_law_1764 : decode cL_law 1764 = .ok (.lconst 1, 1) := by decide +kernel
theorem dL_law_1765 : decode cL_law 1765 = .ok (.goto 4, 3) := by decide +kernel
theorem dL_law_1768 : decode cL_law 1768 = .ok (.lconst 0, 1) := by decide +kernel
theorem dL_law_1769 : decode cL_law 1769 = .ok (.lcmp, 1) := by decide +kernel
theorem dL_law_1770 : decode cL_law 1770 = .ok (.ifCond .eq 5, 3) := by decide +kernel
theorem dL_law_1775 : decode cL_law 1775 = .ok (.goto 1106, 3) := by decide +kernel
def f_case27 (x_valley_key_tonic : Int32) (x_valley_key_isMinor : Int32) (y_g : (Nat → Int32)) (y_thrown : Int32) (z_v : (Nat → Int64)) (xs : (Nat → Int32)) (n : Nat) (i : Int32) : Option (Int32 × (Nat → Int64)) :=
  q_gd (q_in (i + 1) n) (
  q_bd (f_L_isInScale x_valley_key_tonic x_valley_key_isMinor z_v (xs (i + 1).toNatClampNeg)) (fun q2 =>
  q_gd (q_in (i + 1) n) (
  q_bd (f_X11_isInScale y_g y_thrown (xs (i + 1).toNatClampNeg)) (fun q4 =>
  q_bd (f_X11_thrown q4.2) (fun q5 =>
  q_br (q5 = q2.1) (
  q_br (q2.1 = 0) (
  q_lt (fun (j6 : Int64) =>
  q_br ((lg_cmp (q2.2 0) j6) = 0) (
  some (q4.2, q2.2)) (
  none)) (fun (J1769 : Int64 → Option (Int32 × (Nat → Int64))) =>
  q_br (q4.1 = 0) (
  J1769 0) (
  J1769 1))) (
  some (q4.2, q2.2))) (
  none))))))
set_option maxHeartbeats 4000000 in
set_option maxRecDepth 100000 in
theorem kc_27 {p : Program} {e : Env} {s : State} {m : MethodId} {args : Array Value} {below : List Frame} {meth : Method} {c : Code} {Q : State → Prop} {A : Nat → Prop} (l : Launch) (hlt : l.stackTraces = false) (E : ET) (a : Nat → Nat) (o : Nat) (x : VB_t) (ay : Nat → Nat) (oy : Nat) (y : Model_t) (az : Nat → Nat) (oz : Nat) (z : Nat → Int64) (aw : Nat → Nat) (ow : Nat) (w : Nat → UInt64) (b n : Nat) (xs : Nat → Int32) (i : Int32) (hx : p.tables.exec = Jvm.exec) (hb : c.code = cL_law) (hml : c.maxLocals = 9) (hown : s.vm.findClass RL = some m.cls) (ha : ∀ w ∈ lw_all, w.before args s = true) (hA : ∀ q, s.heap.size ≤ q → A q) (hz : ∀ q, A q → E.2 0 ≤ q) (hzs : E.2 0 ≤ s.heap.size) (hst : ST E s) (hX : va_X b n xs s s.heap) (hbl : b < s.heap.size) (hbA : ¬ A b) (res : Int32 × (Nat → Int64)) (hF : f_case27 x.1.1.1.1 x.1.1.1.2.1 y.1.1 y.2.2.2.1 z xs n i = some res) {H : Heap} {locs : List Loc} {ls : Array Slot} {cv sv : Nat} (hcv : cv + 60 ≤ 603072) (hsv : sv + 5100 ≤ 7207018) (hP : va_P E.1 vwCl (List.flatten [w_VBR a o x.2.2.2.1 x.2.2.2.2.1 x.2.2.2.2.2, w_ValleyR a (o + 1), w_Key E a (o + 2) x.1.1.1, w_Bells E a (o + 3) x.1.1.2.1, w_Mel E a (o + 6) x.1.1.2.2.1, w_Cliffs E a (o + 10) x.1.1.2.2.2, w_ValleyR a (o + 13), w_Key E a (o + 14) x.1.2.1.1, w_Bells E a (o + 15) x.1.2.1.2.1, w_Mel E a (o + 18) x.1.2.1.2.2.1, w_Cliffs E a (o + 22) x.1.2.1.2.2.2, w_Prog E a (o + 25) x.1.2.2.2.1, w_Chord E a (o + 31) x.1.2.2.2.2, w_Key E a (o + 34) x.2.1, w_Line E a (o + 35) x.2.2.1, w_Hist E a (o + 37) x.1.2.2.1, w_Model E ay oy y, w_LongArr E az oz z, w_DblArr E aw ow w]) H) (hD : va_D A (List.flatten [w_VBR a o x.2.2.2.1 x.2.2.2.2.1 x.2.2.2.2.2, w_ValleyR a (o + 1), w_Key E a (o + 2) x.1.1.1, w_Bells E a (o + 3) x.1.1.2.1, w_Mel E a (o + 6) x.1.1.2.2.1, w_Cliffs E a (o + 10) x.1.1.2.2.2, w_ValleyR a (o + 13), w_Key E a (o + 14) x.1.2.1.1, w_Bells E a (o + 15) x.1.2.1.2.1, w_Mel E a (o + 18) x.1.2.1.2.2.1, w_Cliffs E a (o + 22) x.1.2.1.2.2.2, w_Prog E a (o + 25) x.1.2.2.2.1, w_Chord E a (o + 31) x.1.2.2.2.2, w_Key E a (o + 34) x.2.1, w_Line E a (o + 35) x.2.2.1, w_Hist E a (o + 37) x.1.2.2.1, w_Model E ay oy y, w_LongArr E az oz z, w_DblArr E aw ow w])) (hS : va_S A s.heap H locs) (hl : lv_has ls 9 [(0, .ref b), (1, .ref (a o)), (2, .ref (ay oy)), (3, .ref (az oz)), (4, .ref (aw ow)), (5, .int i)])
    (hK : ∀ (H : Heap) (locs : List Loc) (ls : Array Slot), va_P E.1 vwCl (List.flatten (bl_VB E a o x ++ (bl_Model E ay oy ((y.1.1, y.1.2.1, y.1.2.2.1, y.1.2.2.2.1, y.1.2.2.2.2), (y.2.1.1, y.2.1.2.1, y.2.1.2.2.1, y.2.1.2.2.2.1, y.2.1.2.2.2.2), (y.2.2.1.1, y.2.2.1.2.1, y.2.2.1.2.2.1, y.2.2.1.2.2.2), (res.1, y.2.2.2.2.1, y.2.2.2.2.2.1, y.2.2.2.2.2.2)) ++ (bl_LongArr E az oz res.2 ++ bl_DblArr E aw ow w)))) H → va_D A (List.flatten (bl_VB E a o x ++ (bl_Model E ay oy ((y.1.1, y.1.2.1, y.1.2.2.1, y.1.2.2.2.1, y.1.2.2.2.2), (y.2.1.1, y.2.1.2.1, y.2.1.2.2.1, y.2.1.2.2.2.1, y.2.1.2.2.2.2), (y.2.2.1.1, y.2.2.1.2.1, y.2.2.1.2.2.1, y.2.2.1.2.2.2), (res.1, y.2.2.2.2.1, y.2.2.2.2.2.1, y.2.2.2.2.2.2)) ++ (bl_LongArr E az oz res.2 ++ bl_DblArr E aw ow w)))) → va_S A s.heap H locs → lv_has ls 9 [(0, .ref b), (1, .ref (a o)), (2, .ref (ay oy)), (3, .ref (az oz)), (4, .ref (aw ow)), (5, .int i)] → W p l e room_1 s m args below meth c H locs (cv + 60) (sv + 5100) Q (F0 m 2881 ls [])) : W p l e room_1 s m args below meth c H locs cv sv Q (F0 m 1715 ls []) := by
  unfold f_case27 at hF
  refine lv_aload_n hx hb dL_law_1715 rfl (lv_at hl 1 rfl) ?_
  refine lv_aload_n hx hb dL_law_1716 rfl (lv_at hl 0 rfl) ?_
  refine lv_iload hx hb dL_law_1717 (lv_at hl 5 rfl) ?_
  refine lv_iconst (v := 1) hx hb dL_law_1719 (by decide) ?_
  refine lv_iadd hx hb dL_law_1720 ?_
  obtain ⟨g1, hF⟩ := q_gdi hF
  refine va_sld hx hb hX hbl hbA hS g1 dL_law_1721 ?_
  refine lv_aload_n hx hb dL_law_1722 rfl (lv_at hl 3 rfl) ?_
  have hP : va_P E.1 vwCl (List.flatten [w_VBR a o x.2.2.2.1 x.2.2.2.2.1 x.2.2.2.2.2, w_ValleyR a (o + 1), w_Key E a (o + 2) x.1.1.1, w_Bells E a (o + 3) x.1.1.2.1, w_Mel E a (o + 6) x.1.1.2.2.1, w_Cliffs E a (o + 10) x.1.1.2.2.2, w_ValleyR a (o + 13), w_Key E a (o + 14) x.1.2.1.1, w_Bells E a (o + 15) x.1.2.1.2.1, w_Mel E a (o + 18) x.1.2.1.2.2.1, w_Cliffs E a (o + 22) x.1.2.1.2.2.2, w_Prog E a (o + 25) x.1.2.2.2.1, w_Chord E a (o + 31) x.1.2.2.2.2, w_Key E a (o + 34) x.2.1, w_Line E a (o + 35) x.2.2.1, w_Hist E a (o + 37) x.1.2.2.1, w_Model E ay oy y, w_LongArr E az oz z, w_DblArr E aw ow w]) H := hP
  have hD : va_D A (List.flatten [w_VBR a o x.2.2.2.1 x.2.2.2.2.1 x.2.2.2.2.2, w_ValleyR a (o + 1), w_Key E a (o + 2) x.1.1.1, w_Bells E a (o + 3) x.1.1.2.1, w_Mel E a (o + 6) x.1.1.2.2.1, w_Cliffs E a (o + 10) x.1.1.2.2.2, w_ValleyR a (o + 13), w_Key E a (o + 14) x.1.2.1.1, w_Bells E a (o + 15) x.1.2.1.2.1, w_Mel E a (o + 18) x.1.2.1.2.2.1, w_Cliffs E a (o + 22) x.1.2.1.2.2.2, w_Prog E a (o + 25) x.1.2.2.2.1, w_Chord E a (o + 31) x.1.2.2.2.2, w_Key E a (o + 34) x.2.1, w_Line E a (o + 35) x.2.2.1, w_Hist E a (o + 37) x.1.2.2.1, w_Model E ay oy y, w_LongArr E az oz z, w_DblArr E aw ow w]) := hD
  obtain ⟨q2, hq2, hF⟩ := q_bdi hF
  refine cl_i (Lc := [w_VBR a o x.2.2.2.1 x.2.2.2.2.1 x.2.2.2.2.2, w_ValleyR a (o + 1), w_Key E a (o + 2) x.1.1.1, w_Bells E a (o + 3) x.1.1.2.1, w_Mel E a (o + 6) x.1.1.2.2.1, w_Cliffs E a (o + 10) x.1.1.2.2.2, w_ValleyR a (o + 13), w_Key E a (o + 14) x.1.2.1.1, w_Bells E a (o + 15) x.1.2.1.2.1, w_Mel E a (o + 18) x.1.2.1.2.2.1, w_Cliffs E a (o + 22) x.1.2.1.2.2.2, w_Prog E a (o + 25) x.1.2.2.2.1, w_Chord E a (o + 31) x.1.2.2.2.2, w_Key E a (o + 34) x.2.1, w_Line E a (o + 35) x.2.2.1, w_Hist E a (o + 37) x.1.2.2.1, w_LongArr E az oz z]) (Lc' := [w_VBR a o x.2.2.2.1 x.2.2.2.2.1 x.2.2.2.2.2, w_ValleyR a (o + 1), w_Key E a (o + 2) x.1.1.1, w_Bells E a (o + 3) x.1.1.2.1, w_Mel E a (o + 6) x.1.1.2.2.1, w_Cliffs E a (o + 10) x.1.1.2.2.2, w_ValleyR a (o + 13), w_Key E a (o + 14) x.1.2.1.1, w_Bells E a (o + 15) x.1.2.1.2.1, w_Mel E a (o + 18) x.1.2.1.2.2.1, w_Cliffs E a (o + 22) x.1.2.1.2.2.2, w_Prog E a (o + 25) x.1.2.2.2.1, w_Chord E a (o + 31) x.1.2.2.2.2, w_Key E a (o + 34) x.2.1, w_Line E a (o + 35) x.2.2.1, w_Hist E a (o + 37) x.1.2.2.1, w_LongArr E az oz q2.2]) (L' := [w_VBR a o x.2.2.2.1 x.2.2.2.2.1 x.2.2.2.2.2, w_ValleyR a (o + 1), w_Key E a (o + 2) x.1.1.1, w_Bells E a (o + 3) x.1.1.2.1, w_Mel E a (o + 6) x.1.1.2.2.1, w_Cliffs E a (o + 10) x.1.1.2.2.2, w_ValleyR a (o + 13), w_Key E a (o + 14) x.1.2.1.1, w_Bells E a (o + 15) x.1.2.1.2.1, w_Mel E a (o + 18) x.1.2.1.2.2.1, w_Cliffs E a (o + 22) x.1.2.1.2.2.2, w_Prog E a (o + 25) x.1.2.2.2.1, w_Chord E a (o + 31) x.1.2.2.2.2, w_Key E a (o + 34) x.2.1, w_Line E a (o + 35) x.2.2.1, w_Hist E a (o + 37) x.1.2.2.1, w_Model E ay oy y, w_LongArr E az oz q2.2, w_DblArr E aw ow w]) (rv := q2.1) (vx_runSW (As := [.ref (a o), .int (xs (i + 1).toNatClampNeg), .ref (az oz)]) (rest := []) ⟨hx, hb, hml, hown, ha⟩ (k_L_isInScale l E a o x az oz z (xs (i + 1).toNatClampNeg) q2 hq2 H.size hlt) (vx_cwSW 3 ha (gi_TH (fun _ h => h) mw1338 mw1339 mw73 mw1340) rfl rfl rfl hv_L_isInScale.2 ⟨(Nat.le_of_ble_eq_true rfl), (Nat.le_of_ble_eq_true rfl)⟩) ⟨pre_blind, pre_at hP hD hS hz hzs hst [0, 1, 2, 3, 4, 5, 6, 7, 8, 9, 10, 11, 12, 13, 14, 15, 17] (by decide) rfl rfl⟩ rfl rfl hl.1 rfl (lv_room (Nat.le_of_ble_eq_true rfl)) dL_law_1723 ⟨by show cv + 1 ≤ 603072; omega, by show sv + 6 ≤ 7207018; omega⟩) hP hD hS hA [0, 1, 2, 3, 4, 5, 6, 7, 8, 9, 10, 11, 12, 13, 14, 15, 17] (by decide) rfl rfl rfl rfl (fun H locs hP hD hS => ?_)
  refine lv_istore (lv' := [(6, .int q2.1), (0, .ref b), (1, .ref (a o)), (2, .ref (ay oy)), (3, .ref (az oz)), (4, .ref (aw ow)), (5, .int i)]) hx hb dL_law_1726 hl (by decide) rfl (fun ls hl => ?_)
  refine lv_aload_n hx hb dL_law_1728 rfl (lv_at hl 3 rfl) ?_
  refine lv_aload_n hx hb dL_law_1729 rfl (lv_at hl 1 rfl) ?_
  refine lv_iload hx hb dL_law_1730 (lv_at hl 6 rfl) ?_
  refine lv_iconst (v := 1) hx hb dL_law_1732 (by decide) ?_
  refine lv_iadd hx hb dL_law_1733 ?_
  obtain ⟨g3, hF⟩ := q_gdi hF
  refine va_sld hx hb hX hbl hbA hS g3 dL_law_1734 ?_
  obtain ⟨q4, hq4, hF⟩ := q_bdi hF
  refine cl_i (Lc := [w_Model E ay oy y]) (Lc' := [w_Model E ay oy ((y.1.1, y.1.2.1, y.1.2.2.1, y.1.2.2.2.1, y.1.2.2.2.2), (y.2.1.1, y.2.1.2.1, y.2.1.2.2.1, y.2.1.2.2.2.1, y.2.1.2.2.2.2), (y.2.2.1.1, y.2.2.1.2.1, y.2.2.1.2.2.1, y.2.2.1.2.2.2), (q4.2, y.2.2.2.2.1, y.2.2.2.2.2.1, y.2.2.2.2.2.2))]) (L' := [w_VBR a o x.2.2.2.1 x.2.2.2.2.1 x.2.2.2.2.2, w_ValleyR a (o + 1), w_Key E a (o + 2) x.1.1.1, w_Bells E a (o + 3) x.1.1.2.1, w_Mel E a (o + 6) x.1.1.2.2.1, w_Cliffs E a (o + 10) x.1.1.2.2.2, w_ValleyR a (o + 13), w_Key E a (o + 14) x.1.2.1.1, w_Bells E a (o + 15) x.1.2.1.2.1, w_Mel E a (o + 18) x.1.2.1.2.2.1, w_Cliffs E a (o + 22) x.1.2.1.2.2.2, w_Prog E a (o + 25) x.1.2.2.2.1, w_Chord E a (o + 31) x.1.2.2.2.2, w_Key E a (o + 34) x.2.1, w_Line E a (o + 35) x.2.2.1, w_Hist E a (o + 37) x.1.2.2.1, w_Model E ay oy ((y.1.1, y.1.2.1, y.1.2.2.1, y.1.2.2.2.1, y.1.2.2.2.2), (y.2.1.1, y.2.1.2.1, y.2.1.2.2.1, y.2.1.2.2.2.1, y.2.1.2.2.2.2), (y.2.2.1.1, y.2.2.1.2.1, y.2.2.1.2.2.1, y.2.2.1.2.2.2), (q4.2, y.2.2.2.2.1, y.2.2.2.2.2.1, y.2.2.2.2.2.2)), w_LongArr E az oz q2.2, w_DblArr E aw ow w]) (rv := q4.1) (va_runV (As := [.int (xs (i + 1).toNatClampNeg)]) (rest := []) ⟨hx, hb, hml, hown, ha⟩ (k_X11_isInScale l E ay oy y (xs (i + 1).toNatClampNeg) q4 hq4 H.size) (cwV 1 ha (gi_V (fun _ h => h) mw1922 mw1923 mw1924 mw87 mw1925) rfl rfl rfl hv_X11_isInScale ⟨(Nat.le_of_ble_eq_true rfl), (Nat.le_of_ble_eq_true rfl)⟩) ⟨pre_blind, va_recv hst.k (fr_P hP [16] rfl) (ci := 13) (q0 := 0) rfl rfl, pre_at hP hD hS hz hzs hst [16] (by decide) rfl rfl⟩ rfl rfl hl.1 rfl (lv_room (Nat.le_of_ble_eq_true rfl)) dL_law_1735 ⟨by show cv + 1 + 0 ≤ 603072; omega, by show sv + 6 + 0 ≤ 7207018; omega⟩) hP hD hS hA [16] (by decide) rfl rfl rfl rfl (fun H locs hP hD hS => ?_)
  refine lv_istore (lv' := [(7, .int q4.1), (6, .int q2.1), (0, .ref b), (1, .ref (a o)), (2, .ref (ay oy)), (3, .ref (az oz)), (4, .ref (aw ow)), (5, .int i)]) hx hb dL_law_1738 hl (by decide) rfl (fun ls hl => ?_)
  refine lv_aload_n hx hb dL_law_1740 rfl (lv_at hl 4 rfl) ?_
  obtain ⟨q5, hq5, hF⟩ := q_bdi hF
  refine cl_i (Lc := [w_Model E ay oy ((y.1.1, y.1.2.1, y.1.2.2.1, y.1.2.2.2.1, y.1.2.2.2.2), (y.2.1.1, y.2.1.2.1, y.2.1.2.2.1, y.2.1.2.2.2.1, y.2.1.2.2.2.2), (y.2.2.1.1, y.2.2.1.2.1, y.2.2.1.2.2.1, y.2.2.1.2.2.2), (q4.2, y.2.2.2.2.1, y.2.2.2.2.2.1, y.2.2.2.2.2.2))]) (Lc' := [w_Model E ay oy ((y.1.1, y.1.2.1, y.1.2.2.1, y.1.2.2.2.1, y.1.2.2.2.2), (y.2.1.1, y.2.1.2.1, y.2.1.2.2.1, y.2.1.2.2.2.1, y.2.1.2.2.2.2), (y.2.2.1.1, y.2.2.1.2.1, y.2.2.1.2.2.1, y.2.2.1.2.2.2), (q4.2, y.2.2.2.2.1, y.2.2.2.2.2.1, y.2.2.2.2.2.2))]) (L' := [w_VBR a o x.2.2.2.1 x.2.2.2.2.1 x.2.2.2.2.2, w_ValleyR a (o + 1), w_Key E a (o + 2) x.1.1.1, w_Bells E a (o + 3) x.1.1.2.1, w_Mel E a (o + 6) x.1.1.2.2.1, w_Cliffs E a (o + 10) x.1.1.2.2.2, w_ValleyR a (o + 13), w_Key E a (o + 14) x.1.2.1.1, w_Bells E a (o + 15) x.1.2.1.2.1, w_Mel E a (o + 18) x.1.2.1.2.2.1, w_Cliffs E a (o + 22) x.1.2.1.2.2.2, w_Prog E a (o + 25) x.1.2.2.2.1, w_Chord E a (o + 31) x.1.2.2.2.2, w_Key E a (o + 34) x.2.1, w_Line E a (o + 35) x.2.2.1, w_Hist E a (o + 37) x.1.2.2.1, w_Model E ay oy ((y.1.1, y.1.2.1, y.1.2.2.1, y.1.2.2.2.1, y.1.2.2.2.2), (y.2.1.1, y.2.1.2.1, y.2.1.2.2.1, y.2.1.2.2.2.1, y.2.1.2.2.2.2), (y.2.2.1.1, y.2.2.1.2.1, y.2.2.1.2.2.1, y.2.2.1.2.2.2), (q4.2, y.2.2.2.2.1, y.2.2.2.2.2.1, y.2.2.2.2.2.2)), w_LongArr E az oz q2.2, w_DblArr E aw ow w]) (rv := q5) (va_runV (As := []) (rest := []) ⟨hx, hb, hml, hown, ha⟩ (k_X11_thrown l E ay oy ((y.1.1, y.1.2.1, y.1.2.2.1, y.1.2.2.2.1, y.1.2.2.2.2), (y.2.1.1, y.2.1.2.1, y.2.1.2.2.1, y.2.1.2.2.2.1, y.2.1.2.2.2.2), (y.2.2.1.1, y.2.2.1.2.1, y.2.2.1.2.2.1, y.2.2.1.2.2.2), (q4.2, y.2.2.2.2.1, y.2.2.2.2.2.1, y.2.2.2.2.2.2)) q5 hq5 H.size) (cwV 0 ha (gi_V (fun _ h => h) mw1691 mw1692 mw1693 mw87 mw1694) rfl rfl rfl hv_X11_thrown ⟨(Nat.le_of_ble_eq_true rfl), (Nat.le_of_ble_eq_true rfl)⟩) ⟨pre_blind, va_recv hst.k (fr_P hP [16] rfl) (ci := 13) (q0 := 0) rfl rfl, pre_at hP hD hS hz hzs hst [16] (by decide) rfl rfl⟩ rfl rfl hl.1 rfl (lv_room (Nat.le_of_ble_eq_true rfl)) dL_law_1741 ⟨by show cv + 1 + 0 ≤ 603072; omega, by show sv + 6 + 0 ≤ 7207018; omega⟩) hP hD hS hA [16] (by decide) rfl rfl rfl rfl (fun H locs hP hD hS => ?_)
  refine lv_iload hx hb dL_law_1744 (lv_at hl 1 rfl) ?_
  refine lv_icmp_eq (tgt := 1751) hx hb dL_law_1746 (by decide) (fun c1746 => ?_) (fun c1746 => ?_)
  · have hF := q_brp c1746 hF
    refine lv_iload hx hb dL_law_1751 (lv_at hl 1 rfl) ?_
    refine lv_if_ne (tgt := 1775) hx hb dL_law_1753 (by decide) (fun c1753 => ?_) (fun c1753 => ?_)
    · have hF := q_brn c1753 hF
      refine lv_goto (tgt := 2881) hx hb dL_law_1775 (by decide) ?_
      obtain rfl := Option.some.inj hF
      refine W.widen (k := cv + 60) (n := sv + 5100) (by omega) (by omega) ?_
      exact hK H locs ls hP hD hS (lv_sub hl [2, 3, 4, 5, 6, 7] rfl)
    · have hF := q_brp c1753 hF
      refine lv_aload_n hx hb dL_law_1756 rfl (lv_at hl 5 rfl) ?_
      refine lv_iconst (v := 0) hx hb dL_law_1757 (by decide) ?_
      refine vi_lald hx hb hst.k hP 156 3 rfl rfl (f := q2.2) (k := 0) (by decide) (by decide) dL_law_1758 ?_
      refine lv_iload hx hb dL_law_1759 (lv_at hl 0 rfl) ?_
      obtain ⟨J1769, hJ1769, hF⟩ := q_jn hF
      have jJ1769 : ∀ (j6 : Int64), ∀ (H : Heap) (locs : List Loc) (ls : Array Slot), J1769 j6 = some res → va_P E.1 vwCl (List.flatten [w_VBR a o x.2.2.2.1 x.2.2.2.2.1 x.2.2.2.2.2, w_ValleyR a (o + 1), w_Key E a (o + 2) x.1.1.1, w_Bells E a (o + 3) x.1.1.2.1, w_Mel E a (o + 6) x.1.1.2.2.1, w_Cliffs E a (o + 10) x.1.1.2.2.2, w_ValleyR a (o + 13), w_Key E a (o + 14) x.1.2.1.1, w_Bells E a (o + 15) x.1.2.1.2.1, w_Mel E a (o + 18) x.1.2.1.2.2.1, w_Cliffs E a (o + 22) x.1.2.1.2.2.2, w_Prog E a (o + 25) x.1.2.2.2.1, w_Chord E a (o + 31) x.1.2.2.2.2, w_Key E a (o + 34) x.2.1, w_Line E a (o + 35) x.2.2.1, w_Hist E a (o + 37) x.1.2.2.1, w_Model E ay oy ((y.1.1, y.1.2.1, y.1.2.2.1, y.1.2.2.2.1, y.1.2.2.2.2), (y.2.1.1, y.2.1.2.1, y.2.1.2.2.1, y.2.1.2.2.2.1, y.2.1.2.2.2.2), (y.2.2.1.1, y.2.2.1.2.1, y.2.2.1.2.2.1, y.2.2.1.2.2.2), (q4.2, y.2.2.2.2.1, y.2.2.2.2.2.1, y.2.2.2.2.2.2)), w_LongArr E az oz q2.2, w_DblArr E aw ow w]) H → va_D A (List.flatten [w_VBR a o x.2.2.2.1 x.2.2.2.2.1 x.2.2.2.2.2, w_ValleyR a (o + 1), w_Key E a (o + 2) x.1.1.1, w_Bells E a (o + 3) x.1.1.2.1, w_Mel E a (o + 6) x.1.1.2.2.1, w_Cliffs E a (o + 10) x.1.1.2.2.2, w_ValleyR a (o + 13), w_Key E a (o + 14) x.1.2.1.1, w_Bells E a (o + 15) x.1.2.1.2.1, w_Mel E a (o + 18) x.1.2.1.2.2.1, w_Cliffs E a (o + 22) x.1.2.1.2.2.2, w_Prog E a (o + 25) x.1.2.2.2.1, w_Chord E a (o + 31) x.1.2.2.2.2, w_Key E a (o + 34) x.2.1, w_Line E a (o + 35) x.2.2.1, w_Hist E a (o + 37) x.1.2.2.1, w_Model E ay oy ((y.1.1, y.1.2.1, y.1.2.2.1, y.1.2.2.2.1, y.1.2.2.2.2), (y.2.1.1, y.2.1.2.1, y.2.1.2.2.1, y.2.1.2.2.2.1, y.2.1.2.2.2.2), (y.2.2.1.1, y.2.2.1.2.1, y.2.2.1.2.2.1, y.2.2.1.2.2.2), (q4.2, y.2.2.2.2.1, y.2.2.2.2.2.1, y.2.2.2.2.2.2)), w_LongArr E az oz q2.2, w_DblArr E aw ow w]) → va_S A s.heap H locs → lv_has ls 9 [(0, .ref b), (1, .ref (a o)), (2, .ref (ay oy)), (3, .ref (az oz)), (4, .ref (aw ow)), (5, .int i)] → W p l e room_1 s m args below meth c H locs (cv + 1) (sv + 6) Q (F0 m 1769 ls [.long j6, .long (q2.2 0)]) := by
        intro j6 H locs ls hF hP hD hS hl
        rw [hJ1769] at hF
        refine W.lcmp hx hb dL_law_1769 ?_
        refine lv_if_eq (tgt := 1775) hx hb dL_law_1770 (by decide) (fun c1770 => ?_) (fun c1770 => ?_)
        · have hF := q_brp c1770 hF
          refine lv_goto (tgt := 2881) hx hb dL_law_1775 (by decide) ?_
          obtain rfl := Option.some.inj hF
          refine W.widen (k := cv + 60) (n := sv + 5100) (by omega) (by omega) ?_
          exact hK H locs ls hP hD hS (lv_sub hl [0, 1, 2, 3, 4, 5] rfl)
        · have hF := q_brn c1770 hF
          exact absurd hF (by simp)
      refine lv_if_eq (tgt := 1768) hx hb dL_law_1761 (by decide) (fun c1761 => ?_) (fun c1761 => ?_)
      · have hF := q_brp c1761 hF
        refine lv_lconst (v := 0) hx hb dL_law_1768 (by decide) ?_
        exact jJ1769 0 H locs ls hF hP hD hS (lv_sub hl [2, 3, 4, 5, 6, 7] rfl)
      · have hF := q_brn c1761 hF
        refine lv_lconst (v := 1) hx hb dL_law_1764 (by decide) ?_
        refine lv_goto (tgt := 1769) hx hb dL_law_1765 (by decide) ?_
        exact jJ1769 1 H locs ls hF hP hD hS (lv_sub hl [2, 3, 4, 5, 6, 7] rfl)
  · have hF := q_brn c1746 hF
    exact absurd hF (by simp)
def f_c27 (x : VB_t) (y : Model_t) (z : Nat → Int64) (w : Nat → UInt64) (xs : Nat → Int32) (n : Nat) (i : Int32) : Option (VB_t × Model_t × (Nat → Int64) × (Nat → UInt64)) := q_bd (f_case27 x.1.1.1.1 x.1.1.1.2.1 y.1.1 y.2.2.2.1 z xs n i) (fun res => some (x, ((y.1.1, y.1.2.1, y.1.2.2.1, y.1.2.2.2.1, y.1.2.2.2.2), (y.2.1.1, y.2.1.2.1, y.2.1.2.2.1, y.2.1.2.2.2.1, y.2.1.2.2.2.2), (y.2.2.1.1, y.2.2.1.2.1, y.2.2.1.2.2.1, y.2.2.1.2.2.2), (res.1, y.2.2.2.2.1, y.2.2.2.2.2.1, y.2.2.2.2.2.2)), res.2, w))
