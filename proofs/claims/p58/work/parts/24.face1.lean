/-! X10_requireBell -/
theorem dX10_requireBell_0 : decode cX10_requireBell 0 = .ok (.aload_n 0, 1) := by decide +kernel
theorem dX10_requireBell_1 : decode cX10_requireBell 1 = .ok (.getfield 10, 3) := by decide +kernel
theorem dX10_requireBell_4 : decode cX10_requireBell 4 = .ok (.getfield 108, 3) := by decide +kernel
theorem dX10_requireBell_7 : decode cX10_requireBell 7 = .ok (.iload_n 1, 1) := by decide +kernel
theorem dX10_requireBell_8 : decode cX10_requireBell 8 = .ok (.invokevirtual 384, 3) := by decide +kernel
theorem dX10_requireBell_11 : decode cX10_requireBell 11 = .ok (.ifCond .ne 14, 3) := by decide +kernel
theorem dX10_requireBell_14 : decode cX10_requireBell 14 = .ok (.new 355, 3) := by decide +kernel
theorem dX10_requireBell_17 : decode cX10_requireBell 17 = .ok (.dup, 1) := by decide +kernel
theorem dX10_requireBell_18 : decode cX10_requireBell 18 = .ok (.ldc_w 386, 3) := by decide +kernel
theorem dX10_requireBell_21 : decode cX10_requireBell 21 = .ok (.invokespecial 359, 3) := by decide +kernel
theorem dX10_requireBell_24 : decode cX10_requireBell 24 = .ok (.athrow, 1) := by decide +kernel
theorem dX10_requireBell_25 : decode cX10_requireBell 25 = .ok (.return_, 1) := by decide +kernel
def f_X10_requireBell (x_valley_bells_count : Int32) (p1 : Int32) : Option ((Unit ⊕ String)) :=
  q_bd (f_X1_has x_valley_bells_count p1) (fun q1 =>
  q_br (q1 = 0) (
  some (Sum.inr "java/lang/IndexOutOfBoundsException")) (
  some (Sum.inl ())))
theorem hv_X10_requireBell : yX10_requireBell.cls = RX10 ∧ yX10_requireBell.cls ≠ "java/lang/invoke/MethodHandle" ∧ yX10_requireBell.cls ≠ "java/lang/invoke/VarHandle" ∧ (parseMethodDescriptor yX10_requireBell.desc).map (fun d => d.parameters.length) = some 1 := by decide +kernel
abbrev rm_X10_requireBell : Room := { frames := 6, cells := 1, slots := 6, locals := 82 }
set_option maxHeartbeats 4000000 in
set_option maxRecDepth 100000 in
theorem k_X10_requireBell (l : Launch) (E : ET) (a : Nat → Nat) (o : Nat) (x : VB_t) (p1 : Int32) (res : (Unit ⊕ String)) (hF : f_X10_requireBell x.1.1.2.1.2.2 p1 = some res) (sz : Nat) (hlt : l.stackTraces = false) : CxV l yX10_requireBell (mws yX10_requireBell cX10_requireBell 2 none) rm_X10_requireBell 1 6 [.ref (a o), .int p1] E (bl_VB E a o x) res (bl_VB E a o x) sz := by
  refine mk_X (by decide +kernel) (Nat.le_of_ble_eq_true rfl) ?_
  intro p e s m below meth c A args Q ls hAe hsz hQ hx hb hr hml hin ha hown hlocks hA hz hzs hst hexc hP hD hS hl
  have hown : s.vm.findClass RX10 = some m.cls := hown
  rw [hAe] at hQ
  subst hsz
  have hP : va_P E.1 vwCl (List.flatten [w_VBR a o x.2.2.2.1 x.2.2.2.2.1 x.2.2.2.2.2, w_ValleyR a (o + 1), w_Key E a (o + 2) x.1.1.1, w_Bells E a (o + 3) x.1.1.2.1, w_Mel E a (o + 6) x.1.1.2.2.1, w_Cliffs E a (o + 10) x.1.1.2.2.2, w_ValleyR a (o + 13), w_Key E a (o + 14) x.1.2.1.1, w_Bells E a (o + 15) x.1.2.1.2.1, w_Mel E a (o + 18) x.1.2.1.2.2.1, w_Cliffs E a (o + 22) x.1.2.1.2.2.2, w_Prog E a (o + 25) x.1.2.2.2.1, w_Chord E a (o + 31) x.1.2.2.2.2, w_Key E a (o + 34) x.2.1, w_Line E a (o + 35) x.2.2.1, w_Hist E a (o + 37) x.1.2.2.1]) s.heap := hP
  have hD : va_D A (List.flatten [w_VBR a o x.2.2.2.1 x.2.2.2.2.1 x.2.2.2.2.2, w_ValleyR a (o + 1), w_Key E a (o + 2) x.1.1.1, w_Bells E a (o + 3) x.1.1.2.1, w_Mel E a (o + 6) x.1.1.2.2.1, w_Cliffs E a (o + 10) x.1.1.2.2.2, w_ValleyR a (o + 13), w_Key E a (o + 14) x.1.2.1.1, w_Bells E a (o + 15) x.1.2.1.2.1, w_Mel E a (o + 18) x.1.2.1.2.2.1, w_Cliffs E a (o + 22) x.1.2.1.2.2.2, w_Prog E a (o + 25) x.1.2.2.2.1, w_Chord E a (o + 31) x.1.2.2.2.2, w_Key E a (o + 34) x.2.1, w_Line E a (o + 35) x.2.2.1, w_Hist E a (o + 37) x.1.2.2.1]) := hD
  have hl : lv_has ls 2 [(0, .ref (a o)), (1, .int p1)] := hl
  generalize hHe : s.heap = H at hP
  have hS : va_S A s.heap H [] := by rw [← hHe]; exact hS
  generalize ([] : List Loc) = locs at hS ⊢
  unfold f_X10_requireBell at hF
  refine lv_aload_n hx hb dX10_requireBell_0 rfl (lv_at hl 0 rfl) ?_
  refine va_get (D := E.1) (ci := 11) (v := .ref (a (o + 1))) (C := RX10) (T := TX10) (N := 10) hx hb ha in_X10 hown hst.k hP 0 rfl rfl 0 (by decide) (ha _ mw284) (fun _ h9 => h9) rfl dX10_requireBell_1 ?_
  refine va_getN (D := E.1) (ci := 10) (v := .ref (a (o + 3))) (C := RX9) (T := TX9) (N := 4) hx hb ha in_X9 hown hst.k hP 1 rfl rfl 1 (by decide) (va_Nw.use rfl (nf17 hst)) (fun _ h9 => h9) rfl dX10_requireBell_4 ?_
  refine lv_iload_n hx hb dX10_requireBell_7 rfl (lv_at hl 1 rfl) ?_
  obtain ⟨q1, hq1, hF⟩ := q_bdi hF
  refine cl_i (Lc := [w_Bells E a (o + 3) x.1.1.2.1]) (Lc' := [w_Bells E a (o + 3) x.1.1.2.1]) (L' := [w_VBR a o x.2.2.2.1 x.2.2.2.2.1 x.2.2.2.2.2, w_ValleyR a (o + 1), w_Key E a (o + 2) x.1.1.1, w_Bells E a (o + 3) x.1.1.2.1, w_Mel E a (o + 6) x.1.1.2.2.1, w_Cliffs E a (o + 10) x.1.1.2.2.2, w_ValleyR a (o + 13), w_Key E a (o + 14) x.1.2.1.1, w_Bells E a (o + 15) x.1.2.1.2.1, w_Mel E a (o + 18) x.1.2.1.2.2.1, w_Cliffs E a (o + 22) x.1.2.1.2.2.2, w_Prog E a (o + 25) x.1.2.2.2.1, w_Chord E a (o + 31) x.1.2.2.2.2, w_Key E a (o + 34) x.2.1, w_Line E a (o + 35) x.2.2.1, w_Hist E a (o + 37) x.1.2.2.1]) (rv := q1) (va_runV (As := [.int p1]) (rest := []) ⟨hx, hb, hml, hown, ha⟩ (k_X1_has l E a (o + 3) x.1.1.2.1 p1 q1 hq1 H.size) (cwV 1 ha (gi_V (fun _ h => h) mw663 mw382 mw383 mw29 mw384) rfl rfl rfl hv_X1_has ⟨(Nat.le_of_ble_eq_true rfl), (Nat.le_of_ble_eq_true rfl)⟩) ⟨pre_blind, va_recv hst.k (fr_P hP [3] rfl) (ci := 3) (q0 := 0) rfl rfl, pre_at hP hD hS hz hzs hst [3] (by decide) rfl rfl⟩ rfl rfl hl.1 rfl (lv_room (Nat.le_of_ble_eq_true rfl)) dX10_requireBell_8 ⟨(Nat.le_of_ble_eq_true rfl), (Nat.le_of_ble_eq_true rfl)⟩) hP hD hS hA [3] (by decide) rfl rfl rfl rfl (fun H locs hP hD hS => ?_)
  refine lv_if_ne (tgt := 25) hx hb dX10_requireBell_11 (by decide) (fun c11 => ?_) (fun c11 => ?_)
  · have hF := q_brn c11 hF
    obtain rfl := Option.some.inj hF
    exact en_xv hQ (Nat.le_of_ble_eq_true rfl) (Nat.le_of_ble_eq_true rfl) hx hb hr hlocks hP hD hS rfl dX10_requireBell_25
  · have hF := q_brp c11 hF
    obtain rfl := Option.some.inj hF
    exact en_thW hQ hx hb hlt ha hst hz hml hl.1 hown (by decide) ft_x mw485 iw_IndexOutOfBoundsException (sr_386 E) at_359 cs_IndexOutOfBoundsException dX10_requireBell_14 dX10_requireBell_17 dX10_requireBell_18 dX10_requireBell_21 dX10_requireBell_24 hexc (Nat.le_of_ble_eq_true rfl) (Nat.le_of_ble_eq_true rfl) (Nat.le_of_ble_eq_true rfl) (Nat.le_of_ble_eq_true rfl) hlocks (Nat.le_of_ble_eq_true rfl) (Nat.le_of_ble_eq_true rfl) hP hD hS rfl

/-! X10_requireSomeBell -/
theorem dX10_requireSomeBell_0 : decode cX10_requireSomeBell 0 = .ok (.aload_n 0, 1) := by decide +kernel
theorem dX10_requireSomeBell_1 : decode cX10_requireSomeBell 1 = .ok (.getfield 10, 3) := by decide +kernel
theorem dX10_requireSomeBell_4 : decode cX10_requireSomeBell 4 = .ok (.getfield 108, 3) := by decide +kernel
theorem dX10_requireSomeBell_7 : decode cX10_requireSomeBell 7 = .ok (.getfield 112, 3) := by decide +kernel
theorem dX10_requireSomeBell_10 : decode cX10_requireSomeBell 10 = .ok (.ifCond .ne 14, 3) := by decide +kernel
theorem dX10_requireSomeBell_13 : decode cX10_requireSomeBell 13 = .ok (.new 388, 3) := by decide +kernel
theorem dX10_requireSomeBell_16 : decode cX10_requireSomeBell 16 = .ok (.dup, 1) := by decide +kernel
theorem dX10_requireSomeBell_17 : decode cX10_requireSomeBell 17 = .ok (.ldc_w 390, 3) := by decide +kernel
theorem dX10_requireSomeBell_20 : decode cX10_requireSomeBell 20 = .ok (.invokespecial 392, 3) := by decide +kernel
theorem dX10_requireSomeBell_23 : decode cX10_requireSomeBell 23 = .ok (.athrow, 1) := by decide +kernel
theorem dX10_requireSomeBell_24 : decode cX10_requireSomeBell 24 = .ok (.return_, 1) := by decide +kernel
def f_X10_requireSomeBell (x_valley_bells_count : Int32) : Option ((Unit ⊕ String)) :=
  q_br (x_valley_bells_count = 0) (
  some (Sum.inr "java/lang/ArithmeticException")) (
  some (Sum.inl ()))
theorem hv_X10_requireSomeBell : yX10_requireSomeBell.cls = RX10 ∧ yX10_requireSomeBell.cls ≠ "java/lang/invoke/MethodHandle" ∧ yX10_requireSomeBell.cls ≠ "java/lang/invoke/VarHandle" ∧ (parseMethodDescriptor yX10_requireSomeBell.desc).map (fun d => d.parameters.length) = some 0 := by decide +kernel
abbrev rm_X10_requireSomeBell : Room := { frames := 6, cells := 1, slots := 6, locals := 82 }
set_option maxHeartbeats 4000000 in
set_option maxRecDepth 100000 in
theorem k_X10_requireSomeBell (l : Launch) (E : ET) (a : Nat → Nat) (o : Nat) (x : VB_t) (res : (Unit ⊕ String)) (hF : f_X10_requireSomeBell x.1.1.2.1.2.2 = some res) (sz : Nat) (hlt : l.stackTraces = false) : CxV l yX10_requireSomeBell (mws yX10_requireSomeBell cX10_requireSomeBell 1 none) rm_X10_requireSomeBell 1 6 [.ref (a o)] E (bl_VB E a o x) res (bl_VB E a o x) sz := by
  refine mk_X (by decide +kernel) (Nat.le_of_ble_eq_true rfl) ?_
  intro p e s m below meth c A args Q ls hAe hsz hQ hx hb hr hml hin ha hown hlocks hA hz hzs hst hexc hP hD hS hl
  have hown : s.vm.findClass RX10 = some m.cls := hown
  rw [hAe] at hQ
  subst hsz
  have hP : va_P E.1 vwCl (List.flatten [w_VBR a o x.2.2.2.1 x.2.2.2.2.1 x.2.2.2.2.2, w_ValleyR a (o + 1), w_Key E a (o + 2) x.1.1.1, w_Bells E a (o + 3) x.1.1.2.1, w_Mel E a (o + 6) x.1.1.2.2.1, w_Cliffs E a (o + 10) x.1.1.2.2.2, w_ValleyR a (o + 13), w_Key E a (o + 14) x.1.2.1.1, w_Bells E a (o + 15) x.1.2.1.2.1, w_Mel E a (o + 18) x.1.2.1.2.2.1, w_Cliffs E a (o + 22) x.1.2.1.2.2.2, w_Prog E a (o + 25) x.1.2.2.2.1, w_Chord E a (o + 31) x.1.2.2.2.2, w_Key E a (o + 34) x.2.1, w_Line E a (o + 35) x.2.2.1, w_Hist E a (o + 37) x.1.2.2.1]) s.heap := hP
  have hD : va_D A (List.flatten [w_VBR a o x.2.2.2.1 x.2.2.2.2.1 x.2.2.2.2.2, w_ValleyR a (o + 1), w_Key E a (o + 2) x.1.1.1, w_Bells E a (o + 3) x.1.1.2.1, w_Mel E a (o + 6) x.1.1.2.2.1, w_Cliffs E a (o + 10) x.1.1.2.2.2, w_ValleyR a (o + 13), w_Key E a (o + 14) x.1.2.1.1, w_Bells E a (o + 15) x.1.2.1.2.1, w_Mel E a (o + 18) x.1.2.1.2.2.1, w_Cliffs E a (o + 22) x.1.2.1.2.2.2, w_Prog E a (o + 25) x.1.2.2.2.1, w_Chord E a (o + 31) x.1.2.2.2.2, w_Key E a (o + 34) x.2.1, w_Line E a (o + 35) x.2.2.1, w_Hist E a (o + 37) x.1.2.2.1]) := hD
  have hl : lv_has ls 1 [(0, .ref (a o))] := hl
  generalize hHe : s.heap = H at hP
  have hS : va_S A s.heap H [] := by rw [← hHe]; exact hS
  generalize ([] : List Loc) = locs at hS ⊢
  unfold f_X10_requireSomeBell at hF
  refine lv_aload_n hx hb dX10_requireSomeBell_0 rfl (lv_at hl 0 rfl) ?_
  refine va_get (D := E.1) (ci := 11) (v := .ref (a (o + 1))) (C := RX10) (T := TX10) (N := 10) hx hb ha in_X10 hown hst.k hP 0 rfl rfl 0 (by decide) (ha _ mw284) (fun _ h9 => h9) rfl dX10_requireSomeBell_1 ?_
  refine va_getN (D := E.1) (ci := 10) (v := .ref (a (o + 3))) (C := RX9) (T := TX9) (N := 4) hx hb ha in_X9 hown hst.k hP 1 rfl rfl 1 (by decide) (va_Nw.use rfl (nf17 hst)) (fun _ h9 => h9) rfl dX10_requireSomeBell_4 ?_
  refine va_getN (D := E.1) (ci := 3) (v := .int x.1.1.2.1.2.2) (C := RX1) (T := TX1) (N := 3) hx hb ha in_X1 hown hst.k hP 3 rfl rfl 2 (by decide) (va_Nw.use rfl (nf5 hst)) (fun _ h9 => h9) rfl dX10_requireSomeBell_7 ?_
  refine lv_if_ne (tgt := 24) hx hb dX10_requireSomeBell_10 (by decide) (fun c10 => ?_) (fun c10 => ?_)
  · have hF := q_brn c10 hF
    obtain rfl := Option.some.inj hF
    exact en_xv hQ (Nat.le_of_ble_eq_true rfl) (Nat.le_of_ble_eq_true rfl) hx hb hr hlocks hP hD hS rfl dX10_requireSomeBell_24
  · have hF := q_brp c10 hF
    obtain rfl := Option.some.inj hF
    exact en_thW hQ hx hb hlt ha hst hz hml hl.1 hown (by decide) ft_x mw758 iw_ArithmeticException (sr_390 E) at_392 cs_ArithmeticException dX10_requireSomeBell_13 dX10_requireSomeBell_16 dX10_requireSomeBell_17 dX10_requireSomeBell_20 dX10_requireSomeBell_23 hexc (Nat.le_of_ble_eq_true rfl) (Nat.le_of_ble_eq_true rfl) (Nat.le_of_ble_eq_true rfl) (Nat.le_of_ble_eq_true rfl) hlocks (Nat.le_of_ble_eq_true rfl) (Nat.le_of_ble_eq_true rfl) hP hD hS rfl

/-! X10_requireHerd -/
theorem dX10_requireHerd_0 : decode cX10_requireHerd 0 = .ok (.iload_n 0, 1) := by decide +kernel
theorem dX10_requireHerd_1 : decode cX10_requireHerd 1 = .ok (.invokestatic 393, 3) := by decide +kernel
theorem dX10_requireHerd_4 : decode cX10_requireHerd 4 = .ok (.ifCond .ne 14, 3) := by decide +kernel
theorem dX10_requireHerd_7 : decode cX10_requireHerd 7 = .ok (.new 355, 3) := by decide +kernel
theorem dX10_requireHerd_10 : decode cX10_requireHerd 10 = .ok (.dup, 1) := by decide +kernel
theorem dX10_requireHerd_11 : decode cX10_requireHerd 11 = .ok (.ldc_w 396, 3) := by decide +kernel
theorem dX10_requireHerd_14 : decode cX10_requireHerd 14 = .ok (.invokespecial 359, 3) := by decide +kernel
theorem dX10_requireHerd_17 : decode cX10_requireHerd 17 = .ok (.athrow, 1) := by decide +kernel
theorem dX10_requireHerd_18 : decode cX10_requireHerd 18 = .ok (.return_, 1) := by decide +kernel
def f_X10_requireHerd (p1 : Int32) : Option ((Unit ⊕ String)) :=
  q_bd (f_X10_isHerd p1) (fun q1 =>
  q_br (q1 = 0) (
  some (Sum.inr "java/lang/IndexOutOfBoundsException")) (
  some (Sum.inl ())))
theorem hv_X10_requireHerd : yX10_requireHerd.cls = RX10 ∧ yX10_requireHerd.cls ≠ "java/lang/invoke/MethodHandle" ∧ yX10_requireHerd.cls ≠ "java/lang/invoke/VarHandle" ∧ (parseMethodDescriptor yX10_requireHerd.desc).map (fun d => d.parameters.length) = some 1 := by decide +kernel
abbrev rm_X10_requireHerd : Room := { frames := 6, cells := 1, slots := 6, locals := 82 }
set_option maxHeartbeats 4000000 in
set_option maxRecDepth 100000 in
theorem k_X10_requireHerd (l : Launch) (E : ET) (p1 : Int32) (res : (Unit ⊕ String)) (hF : f_X10_requireHerd p1 = some res) (sz : Nat) (hlt : l.stackTraces = false) : CxV l yX10_requireHerd (mws yX10_requireHerd cX10_requireHerd 1 none) rm_X10_requireHerd 1 6 [.int p1] E ([]) res ([]) sz := by
  refine mk_X (by decide +kernel) (Nat.le_of_ble_eq_true rfl) ?_
  intro p e s m below meth c A args Q ls hAe hsz hQ hx hb hr hml hin ha hown hlocks hA hz hzs hst hexc hP hD hS hl
  have hown : s.vm.findClass RX10 = some m.cls := hown
  rw [hAe] at hQ
  subst hsz
  have hP : va_P E.1 vwCl (List.flatten []) s.heap := hP
  have hD : va_D A (List.flatten []) := hD
  have hl : lv_has ls 1 [(0, .int p1)] := hl
  generalize hHe : s.heap = H at hP
  have hS : va_S A s.heap H [] := by rw [← hHe]; exact hS
  generalize ([] : List Loc) = locs at hS ⊢
  unfold f_X10_requireHerd at hF
  refine lv_iload_n hx hb dX10_requireHerd_0 rfl (lv_at hl 0 rfl) ?_
  obtain ⟨q1, hq1, hF⟩ := q_bdi hF
  refine cl_i (Lc := []) (Lc' := []) (L' := []) (rv := q1) (va_runS (As := [.int p1]) (rest := []) ⟨hx, hb, hml, hown, ha⟩ (k_X10_isHerd l E p1 q1 hq1 H.size) (cwS 1 ha (gi_S (fun _ h => h) mw806 mw371 mw26 mw372) rfl rfl rfl hv_X10_isHerd ⟨(Nat.le_of_ble_eq_true rfl), (Nat.le_of_ble_eq_true rfl)⟩) ⟨pre_blind, pre_at hP hD hS hz hzs hst [] (by decide) rfl rfl⟩ rfl rfl hl.1 rfl (lv_room (Nat.le_of_ble_eq_true rfl)) dX10_requireHerd_1 ⟨(Nat.le_of_ble_eq_true rfl), (Nat.le_of_ble_eq_true rfl)⟩) hP hD hS hA [] (by decide) rfl rfl rfl rfl (fun H locs hP hD hS => ?_)
  refine lv_if_ne (tgt := 18) hx hb dX10_requireHerd_4 (by decide) (fun c4 => ?_) (fun c4 => ?_)
  · have hF := q_brn c4 hF
    obtain rfl := Option.some.inj hF
    exact en_xv hQ (Nat.le_of_ble_eq_true rfl) (Nat.le_of_ble_eq_true rfl) hx hb hr hlocks hP hD hS rfl dX10_requireHerd_18
  · have hF := q_brp c4 hF
    obtain rfl := Option.some.inj hF
    exact en_thW hQ hx hb hlt ha hst hz hml hl.1 hown (by decide) ft_x mw485 iw_IndexOutOfBoundsException (sr_396 E) at_359 cs_IndexOutOfBoundsException dX10_requireHerd_7 dX10_requireHerd_10 dX10_requireHerd_11 dX10_requireHerd_14 dX10_requireHerd_17 hexc (Nat.le_of_ble_eq_true rfl) (Nat.le_of_ble_eq_true rfl) (Nat.le_of_ble_eq_true rfl) (Nat.le_of_ble_eq_true rfl) hlocks (Nat.le_of_ble_eq_true rfl) (Nat.le_of_ble_eq_true rfl) hP hD hS rfl

/-! X10_requireCliff -/
theorem dX10_requireCliff_0 : decode cX10_requireCliff 0 = .ok (.aload_n 0, 1) := by decide +kernel
theorem dX10_requireCliff_1 : decode cX10_requireCliff 1 = .ok (.getfield 10, 3) := by decide +kernel
theorem dX10_requireCliff_4 : decode cX10_requireCliff 4 = .ok (.getfield 228, 3) := by decide +kernel
theorem dX10_requireCliff_7 : decode cX10_requireCliff 7 = .ok (.iload_n 1, 1) := by decide +kernel
theorem dX10_requireCliff_8 : decode cX10_requireCliff 8 = .ok (.invokevirtual 398, 3) := by decide +kernel
theorem dX10_requireCliff_11 : decode cX10_requireCliff 11 = .ok (.ifCond .ne 14, 3) := by decide +kernel
theorem dX10_requireCliff_14 : decode cX10_requireCliff 14 = .ok (.new 355, 3) := by decide +kernel
theorem dX10_requireCliff_17 : decode cX10_requireCliff 17 = .ok (.dup, 1) := by decide +kernel
theorem dX10_requireCliff_18 : decode cX10_requireCliff 18 = .ok (.ldc_w 399, 3) := by decide +kernel
theorem dX10_requireCliff_21 : decode cX10_requireCliff 21 = .ok (.invokespecial 359, 3) := by decide +kernel
theorem dX10_requireCliff_24 : decode cX10_requireCliff 24 = .ok (.athrow, 1) := by decide +kernel
theorem dX10_requireCliff_25 : decode cX10_requireCliff 25 = .ok (.return_, 1) := by decide +kernel
def f_X10_requireCliff (x_valley_cliffs_count : Int32) (p1 : Int32) : Option ((Unit ⊕ String)) :=
  q_bd (f_X3_has x_valley_cliffs_count p1) (fun q1 =>
  q_br (q1 = 0) (
  some (Sum.inr "java/lang/IndexOutOfBoundsException")) (
  some (Sum.inl ())))
theorem hv_X10_requireCliff : yX10_requireCliff.cls = RX10 ∧ yX10_requireCliff.cls ≠ "java/lang/invoke/MethodHandle" ∧ yX10_requireCliff.cls ≠ "java/lang/invoke/VarHandle" ∧ (parseMethodDescriptor yX10_requireCliff.desc).map (fun d => d.parameters.length) = some 1 := by decide +kernel
abbrev rm_X10_requireCliff : Room := { frames := 6, cells := 1, slots := 6, locals := 82 }
set_option maxHeartbeats 4000000 in
set_option maxRecDepth 100000 in
theorem k_X10_requireCliff (l : Launch) (E : ET) (a : Nat → Nat) (o : Nat) (x : VB_t) (p1 : Int32) (res : (Unit ⊕ String)) (hF : f_X10_requireCliff x.1.1.2.2.2.2.2 p1 = some res) (sz : Nat) (hlt : l.stackTraces = false) : CxV l yX10_requireCliff (mws yX10_requireCliff cX10_requireCliff 2 none) rm_X10_requireCliff 1 6 [.ref (a o), .int p1] E (bl_VB E a o x) res (bl_VB E a o x) sz := by
  refine mk_X (by decide +kernel) (Nat.le_of_ble_eq_true rfl) ?_
  intro p e s m below meth c A args Q ls hAe hsz hQ hx hb hr hml hin ha hown hlocks hA hz hzs hst hexc hP hD hS hl
  have hown : s.vm.findClass RX10 = some m.cls := hown
  rw [hAe] at hQ
  subst hsz
  have hP : va_P E.1 vwCl (List.flatten [w_VBR a o x.2.2.2.1 x.2.2.2.2.1 x.2.2.2.2.2, w_ValleyR a (o + 1), w_Key E a (o + 2) x.1.1.1, w_Bells E a (o + 3) x.1.1.2.1, w_Mel E a (o + 6) x.1.1.2.2.1, w_Cliffs E a (o + 10) x.1.1.2.2.2, w_ValleyR a (o + 13), w_Key E a (o + 14) x.1.2.1.1, w_Bells E a (o + 15) x.1.2.1.2.1, w_Mel E a (o + 18) x.1.2.1.2.2.1, w_Cliffs E a (o + 22) x.1.2.1.2.2.2, w_Prog E a (o + 25) x.1.2.2.2.1, w_Chord E a (o + 31) x.1.2.2.2.2, w_Key E a (o + 34) x.2.1, w_Line E a (o + 35) x.2.2.1, w_Hist E a (o + 37) x.1.2.2.1]) s.heap := hP
  have hD : va_D A (List.flatten [w_VBR a o x.2.2.2.1 x.2.2.2.2.1 x.2.2.2.2.2, w_ValleyR a (o + 1), w_Key E a (o + 2) x.1.1.1, w_Bells E a (o + 3) x.1.1.2.1, w_Mel E a (o + 6) x.1.1.2.2.1, w_Cliffs E a (o + 10) x.1.1.2.2.2, w_ValleyR a (o + 13), w_Key E a (o + 14) x.1.2.1.1, w_Bells E a (o + 15) x.1.2.1.2.1, w_Mel E a (o + 18) x.1.2.1.2.2.1, w_Cliffs E a (o + 22) x.1.2.1.2.2.2, w_Prog E a (o + 25) x.1.2.2.2.1, w_Chord E a (o + 31) x.1.2.2.2.2, w_Key E a (o + 34) x.2.1, w_Line E a (o + 35) x.2.2.1, w_Hist E a (o + 37) x.1.2.2.1]) := hD
  have hl : lv_has ls 2 [(0, .ref (a o)), (1, .int p1)] := hl
  generalize hHe : s.heap = H at hP
  have hS : va_S A s.heap H [] := by rw [← hHe]; exact hS
  generalize ([] : List Loc) = locs at hS ⊢
  unfold f_X10_requireCliff at hF
  refine lv_aload_n hx hb dX10_requireCliff_0 rfl (lv_at hl 0 rfl) ?_
  refine va_get (D := E.1) (ci := 11) (v := .ref (a (o + 1))) (C := RX10) (T := TX10) (N := 10) hx hb ha in_X10 hown hst.k hP 0 rfl rfl 0 (by decide) (ha _ mw284) (fun _ h9 => h9) rfl dX10_requireCliff_1 ?_
  refine va_getN (D := E.1) (ci := 10) (v := .ref (a (o + 10))) (C := RX9) (T := TX9) (N := 4) hx hb ha in_X9 hown hst.k hP 1 rfl rfl 3 (by decide) (va_Nw.use rfl (nf21 hst)) (fun _ h9 => h9) rfl dX10_requireCliff_4 ?_
  refine lv_iload_n hx hb dX10_requireCliff_7 rfl (lv_at hl 1 rfl) ?_
  obtain ⟨q1, hq1, hF⟩ := q_bdi hF
  refine cl_i (Lc := [w_Cliffs E a (o + 10) x.1.1.2.2.2]) (Lc' := [w_Cliffs E a (o + 10) x.1.1.2.2.2]) (L' := [w_VBR a o x.2.2.2.1 x.2.2.2.2.1 x.2.2.2.2.2, w_ValleyR a (o + 1), w_Key E a (o + 2) x.1.1.1, w_Bells E a (o + 3) x.1.1.2.1, w_Mel E a (o + 6) x.1.1.2.2.1, w_Cliffs E a (o + 10) x.1.1.2.2.2, w_ValleyR a (o + 13), w_Key E a (o + 14) x.1.2.1.1, w_Bells E a (o + 15) x.1.2.1.2.1, w_Mel E a (o + 18) x.1.2.1.2.2.1, w_Cliffs E a (o + 22) x.1.2.1.2.2.2, w_Prog E a (o + 25) x.1.2.2.2.1, w_Chord E a (o + 31) x.1.2.2.2.2, w_Key E a (o + 34) x.2.1, w_Line E a (o + 35) x.2.2.1, w_Hist E a (o + 37) x.1.2.2.1]) (rv := q1) (va_runV (As := [.int p1]) (rest := []) ⟨hx, hb, hml, hown, ha⟩ (k_X3_has l E a (o + 10) x.1.1.2.2.2 p1 q1 hq1 H.size) (cwV 1 ha (gi_V (fun _ h => h) mw1182 mw475 mw476 mw31 mw477) rfl rfl rfl hv_X3_has ⟨(Nat.le_of_ble_eq_true rfl), (Nat.le_of_ble_eq_true rfl)⟩) ⟨pre_blind, va_recv hst.k (fr_P hP [5] rfl) (ci := 5) (q0 := 0) rfl rfl, pre_at hP hD hS hz hzs hst [5] (by decide) rfl rfl⟩ rfl rfl hl.1 rfl (lv_room (Nat.le_of_ble_eq_true rfl)) dX10_requireCliff_8 ⟨(Nat.le_of_ble_eq_true rfl), (Nat.le_of_ble_eq_true rfl)⟩) hP hD hS hA [5] (by decide) rfl rfl rfl rfl (fun H locs hP hD hS => ?_)
  refine lv_if_ne (tgt := 25) hx hb dX10_requireCliff_11 (by decide) (fun c11 => ?_) (fun c11 => ?_)
  · have hF := q_brn c11 hF
    obtain rfl := Option.some.inj hF
    exact en_xv hQ (Nat.le_of_ble_eq_true rfl) (Nat.le_of_ble_eq_true rfl) hx hb hr hlocks hP hD hS rfl dX10_requireCliff_25
  · have hF := q_brp c11 hF
    obtain rfl := Option.some.inj hF
    exact en_thW hQ hx hb hlt ha hst hz hml hl.1 hown (by decide) ft_x mw485 iw_IndexOutOfBoundsException (sr_399 E) at_359 cs_IndexOutOfBoundsException dX10_requireCliff_14 dX10_requireCliff_17 dX10_requireCliff_18 dX10_requireCliff_21 dX10_requireCliff_24 hexc (Nat.le_of_ble_eq_true rfl) (Nat.le_of_ble_eq_true rfl) (Nat.le_of_ble_eq_true rfl) (Nat.le_of_ble_eq_true rfl) hlocks (Nat.le_of_ble_eq_true rfl) (Nat.le_of_ble_eq_true rfl) hP hD hS rfl

/-! X10_requireSound -/
theorem dX10_requireSound_0 : decode cX10_requireSound 0 = .ok (.iload_n 0, 1) := by decide +kernel
theorem dX10_requireSound_1 : decode cX10_requireSound 1 = .ok (.iconst (-1), 1) := by decide +kernel
theorem dX10_requireSound_2 : decode cX10_requireSound 2 = .ok (.if_icmp .ne 14, 3) := by decide +kernel
theorem dX10_requireSound_5 : decode cX10_requireSound 5 = .ok (.new 155, 3) := by decide +kernel
theorem dX10_requireSound_8 : decode cX10_requireSound 8 = .ok (.dup, 1) := by decide +kernel
theorem dX10_requireSound_9 : decode cX10_requireSound 9 = .ok (.ldc_w 401, 3) := by decide +kernel
theorem dX10_requireSound_12 : decode cX10_requireSound 12 = .ok (.invokespecial 159, 3) := by decide +kernel
theorem dX10_requireSound_15 : decode cX10_requireSound 15 = .ok (.athrow, 1) := by decide +kernel
theorem dX10_requireSound_16 : decode cX10_requireSound 16 = .ok (.return_, 1) := by decide +kernel
def f_X10_requireSound (p1 : Int32) : Option ((Unit ⊕ String)) :=
  q_br (p1 = (-1)) (
  some (Sum.inr "java/util/NoSuchElementException")) (
  some (Sum.inl ()))
theorem hv_X10_requireSound : yX10_requireSound.cls = RX10 ∧ yX10_requireSound.cls ≠ "java/lang/invoke/MethodHandle" ∧ yX10_requireSound.cls ≠ "java/lang/invoke/VarHandle" ∧ (parseMethodDescriptor yX10_requireSound.desc).map (fun d => d.parameters.length) = some 1 := by decide +kernel
abbrev rm_X10_requireSound : Room := { frames := 6, cells := 1, slots := 6, locals := 89 }
set_option maxHeartbeats 4000000 in
set_option maxRecDepth 100000 in
theorem k_X10_requireSound (l : Launch) (E : ET) (p1 : Int32) (res : (Unit ⊕ String)) (hF : f_X10_requireSound p1 = some res) (sz : Nat) (hlt : l.stackTraces = false) : CxV l yX10_requireSound (mws yX10_requireSound cX10_requireSound 1 none) rm_X10_requireSound 1 6 [.int p1] E ([]) res ([]) sz := by
  refine mk_X (by decide +kernel) (Nat.le_of_ble_eq_true rfl) ?_
  intro p e s m below meth c A args Q ls hAe hsz hQ hx hb hr hml hin ha hown hlocks hA hz hzs hst hexc hP hD hS hl
  have hown : s.vm.findClass RX10 = some m.cls := hown
  rw [hAe] at hQ
  subst hsz
  have hP : va_P E.1 vwCl (List.flatten []) s.heap := hP
  have hD : va_D A (List.flatten []) := hD
  have hl : lv_has ls 1 [(0, .int p1)] := hl
  generalize hHe : s.heap = H at hP
  have hS : va_S A s.heap H [] := by rw [← hHe]; exact hS
  generalize ([] : List Loc) = locs at hS ⊢
  unfold f_X10_requireSound at hF
  refine lv_iload_n hx hb dX10_requireSound_0 rfl (lv_at hl 0 rfl) ?_
  refine lv_iconst (v := (-1)) hx hb dX10_requireSound_1 (by decide) ?_
  refine lv_icmp_ne (tgt := 16) hx hb dX10_requireSound_2 (by decide) (fun c2 => ?_) (fun c2 => ?_)
  · have hF := q_brn c2 hF
    obtain rfl := Option.some.inj hF
    exact en_xv hQ (Nat.le_of_ble_eq_true rfl) (Nat.le_of_ble_eq_true rfl) hx hb hr hlocks hP hD hS rfl dX10_requireSound_16
  · have hF := q_brp c2 hF
    obtain rfl := Option.some.inj hF
    exact en_thWN hQ hx hb hlt ha hst hz hA hml hl.1 hown mw734 (sr_401 E) nw_link dX10_requireSound_5 dX10_requireSound_8 dX10_requireSound_9 dX10_requireSound_12 dX10_requireSound_15 hexc (Nat.le_of_ble_eq_true rfl) (Nat.le_of_ble_eq_true rfl) (Nat.le_of_ble_eq_true rfl) (Nat.le_of_ble_eq_true rfl) hlocks (Nat.le_of_ble_eq_true rfl) (Nat.le_of_ble_eq_true rfl) hP hD hS rfl

/-! X10_bellCount -/
theorem dX10_bellCount_0 : decode cX10_bellCount 0 = .ok (.aload_n 0, 1) := by decide +kernel
theorem dX10_bellCount_1 : decode cX10_bellCount 1 = .ok (.getfield 10, 3) := by decide +kernel
theorem dX10_bellCount_4 : decode cX10_bellCount 4 = .ok (.getfield 108, 3) := by decide +kernel
theorem dX10_bellCount_7 : decode cX10_bellCount 7 = .ok (.getfield 112, 3) := by decide +kernel
theorem dX10_bellCount_10 : decode cX10_bellCount 10 = .ok (.ireturn, 1) := by decide +kernel
def f_X10_bellCount (x_valley_bells_count : Int32) : Option (Int32) :=
  some x_valley_bells_count
theorem hv_X10_bellCount : yX10_bellCount.cls = RX10 ∧ yX10_bellCount.cls ≠ "java/lang/invoke/MethodHandle" ∧ yX10_bellCount.cls ≠ "java/lang/invoke/VarHandle" ∧ (parseMethodDescriptor yX10_bellCount.desc).map (fun d => d.parameters.length) = some 0 := by decide +kernel
abbrev rm_X10_bellCount : Room := { frames := 0, cells := 0, slots := 0, locals := 0 }
set_option maxHeartbeats 4000000 in
set_option maxRecDepth 100000 in
theorem k_X10_bellCount (l : Launch) (E : ET) (a : Nat → Nat) (o : Nat) (x : VB_t) (res : Int32) (hF : f_X10_bellCount x.1.1.2.1.2.2 = some res) (sz : Nat) : CtI l yX10_bellCount (mws yX10_bellCount cX10_bellCount 1 (some .int)) rm_X10_bellCount 0 0 [.ref (a o)] E (bl_VB E a o x) res (bl_VB E a o x) sz := by
  refine mk_M (by decide +kernel) (Nat.le_of_ble_eq_true rfl) ?_
  intro p e s m below meth c A args Q ls hAe hsz hQ hx hb hr hml hin ha hown hlocks hA hz hzs hst hP hD hS hl
  have hown : s.vm.findClass RX10 = some m.cls := hown
  rw [hAe] at hQ
  subst hsz
  have hP : va_P E.1 vwCl (List.flatten [w_VBR a o x.2.2.2.1 x.2.2.2.2.1 x.2.2.2.2.2, w_ValleyR a (o + 1), w_Key E a (o + 2) x.1.1.1, w_Bells E a (o + 3) x.1.1.2.1, w_Mel E a (o + 6) x.1.1.2.2.1, w_Cliffs E a (o + 10) x.1.1.2.2.2, w_ValleyR a (o + 13), w_Key E a (o + 14) x.1.2.1.1, w_Bells E a (o + 15) x.1.2.1.2.1, w_Mel E a (o + 18) x.1.2.1.2.2.1, w_Cliffs E a (o + 22) x.1.2.1.2.2.2, w_Prog E a (o + 25) x.1.2.2.2.1, w_Chord E a (o + 31) x.1.2.2.2.2, w_Key E a (o + 34) x.2.1, w_Line E a (o + 35) x.2.2.1, w_Hist E a (o + 37) x.1.2.2.1]) s.heap := hP
  have hD : va_D A (List.flatten [w_VBR a o x.2.2.2.1 x.2.2.2.2.1 x.2.2.2.2.2, w_ValleyR a (o + 1), w_Key E a (o + 2) x.1.1.1, w_Bells E a (o + 3) x.1.1.2.1, w_Mel E a (o + 6) x.1.1.2.2.1, w_Cliffs E a (o + 10) x.1.1.2.2.2, w_ValleyR a (o + 13), w_Key E a (o + 14) x.1.2.1.1, w_Bells E a (o + 15) x.1.2.1.2.1, w_Mel E a (o + 18) x.1.2.1.2.2.1, w_Cliffs E a (o + 22) x.1.2.1.2.2.2, w_Prog E a (o + 25) x.1.2.2.2.1, w_Chord E a (o + 31) x.1.2.2.2.2, w_Key E a (o + 34) x.2.1, w_Line E a (o + 35) x.2.2.1, w_Hist E a (o + 37) x.1.2.2.1]) := hD
  have hl : lv_has ls 1 [(0, .ref (a o))] := hl
  generalize hHe : s.heap = H at hP
  have hS : va_S A s.heap H [] := by rw [← hHe]; exact hS
  generalize ([] : List Loc) = locs at hS ⊢
  unfold f_X10_bellCount at hF
  refine lv_aload_n hx hb dX10_bellCount_0 rfl (lv_at hl 0 rfl) ?_
  refine va_get (D := E.1) (ci := 11) (v := .ref (a (o + 1))) (C := RX10) (T := TX10) (N := 10) hx hb ha in_X10 hown hst.k hP 0 rfl rfl 0 (by decide) (ha _ mw284) (fun _ h9 => h9) rfl dX10_bellCount_1 ?_
  refine va_getN (D := E.1) (ci := 10) (v := .ref (a (o + 3))) (C := RX9) (T := TX9) (N := 4) hx hb ha in_X9 hown hst.k hP 1 rfl rfl 1 (by decide) (va_Nw.use rfl (nf17 hst)) (fun _ h9 => h9) rfl dX10_bellCount_4 ?_
  refine va_getN (D := E.1) (ci := 3) (v := .int x.1.1.2.1.2.2) (C := RX1) (T := TX1) (N := 3) hx hb ha in_X1 hown hst.k hP 3 rfl rfl 2 (by decide) (va_Nw.use rfl (nf5 hst)) (fun _ h9 => h9) rfl dX10_bellCount_7 ?_
  obtain rfl := Option.some.inj hF
  exact en_i hQ (Nat.le_of_ble_eq_true rfl) (Nat.le_of_ble_eq_true rfl) hx hb hr hlocks hP hD hS rfl dX10_bellCount_10

/-! X10_herdOf -/
theorem dX10_herdOf_0 : decode cX10_herdOf 0 = .ok (.aload_n 0, 1) := by decide +kernel
theorem dX10_herdOf_1 : decode cX10_herdOf 1 = .ok (.iload_n 1, 1) := by decide +kernel
theorem dX10_herdOf_2 : decode cX10_herdOf 2 = .ok (.invokevirtual 117, 3) := by decide +kernel
theorem dX10_herdOf_5 : decode cX10_herdOf 5 = .ok (.aload_n 0, 1) := by decide +kernel
theorem dX10_herdOf_6 : decode cX10_herdOf 6 = .ok (.getfield 10, 3) := by decide +kernel
theorem dX10_herdOf_9 : decode cX10_herdOf 9 = .ok (.getfield 108, 3) := by decide +kernel
theorem dX10_herdOf_12 : decode cX10_herdOf 12 = .ok (.getfield 121, 3) := by decide +kernel
theorem dX10_herdOf_15 : decode cX10_herdOf 15 = .ok (.iload_n 1, 1) := by decide +kernel
theorem dX10_herdOf_16 : decode cX10_herdOf 16 = .ok (.iaload, 1) := by decide +kernel
theorem dX10_herdOf_17 : decode cX10_herdOf 17 = .ok (.ireturn, 1) := by decide +kernel
def f_X10_herdOf (x_valley_bells_herds : (Nat → Int32)) (x_valley_bells_count : Int32) (p1 : Int32) : Option ((Int32 ⊕ String)) :=
  q_bd (f_X10_requireBell x_valley_bells_count p1) (fun q1 =>
  q_sm q1 (fun X => some (Sum.inr X)) (fun r2 =>
  q_gd (q_in p1 12) (
  some (Sum.inl (x_valley_bells_herds (p1.toNatClampNeg))))))
theorem hv_X10_herdOf : yX10_herdOf.cls = RX10 ∧ yX10_herdOf.cls ≠ "java/lang/invoke/MethodHandle" ∧ yX10_herdOf.cls ≠ "java/lang/invoke/VarHandle" ∧ (parseMethodDescriptor yX10_herdOf.desc).map (fun d => d.parameters.length) = some 1 := by decide +kernel
abbrev rm_X10_herdOf : Room := { frames := 7, cells := 1, slots := 6, locals := 103 }
set_option maxHeartbeats 4000000 in
set_option maxRecDepth 100000 in
theorem k_X10_herdOf (l : Launch) (E : ET) (a : Nat → Nat) (o : Nat) (x : VB_t) (p1 : Int32) (res : (Int32 ⊕ String)) (hF : f_X10_herdOf x.1.1.2.1.1 x.1.1.2.1.2.2 p1 = some res) (sz : Nat) (hlt : l.stackTraces = false) : CxI l yX10_herdOf (mws yX10_herdOf cX10_herdOf 2 (some .int)) rm_X10_herdOf 1 6 [.ref (a o), .int p1] E (bl_VB E a o x) res (bl_VB E a o x) sz := by
  refine mk_X (by decide +kernel) (Nat.le_of_ble_eq_true rfl) ?_
  intro p e s m below meth c A args Q ls hAe hsz hQ hx hb hr hml hin ha hown hlocks hA hz hzs hst hexc hP hD hS hl
  have hown : s.vm.findClass RX10 = some m.cls := hown
  rw [hAe] at hQ
  subst hsz
  have hP : va_P E.1 vwCl (List.flatten [w_VBR a o x.2.2.2.1 x.2.2.2.2.1 x.2.2.2.2.2, w_ValleyR a (o + 1), w_Key E a (o + 2) x.1.1.1, w_Bells E a (o + 3) x.1.1.2.1, w_Mel E a (o + 6) x.1.1.2.2.1, w_Cliffs E a (o + 10) x.1.1.2.2.2, w_ValleyR a (o + 13), w_Key E a (o + 14) x.1.2.1.1, w_Bells E a (o + 15) x.1.2.1.2.1, w_Mel E a (o + 18) x.1.2.1.2.2.1, w_Cliffs E a (o + 22) x.1.2.1.2.2.2, w_Prog E a (o + 25) x.1.2.2.2.1, w_Chord E a (o + 31) x.1.2.2.2.2, w_Key E a (o + 34) x.2.1, w_Line E a (o + 35) x.2.2.1, w_Hist E a (o + 37) x.1.2.2.1]) s.heap := hP
  have hD : va_D A (List.flatten [w_VBR a o x.2.2.2.1 x.2.2.2.2.1 x.2.2.2.2.2, w_ValleyR a (o + 1), w_Key E a (o + 2) x.1.1.1, w_Bells E a (o + 3) x.1.1.2.1, w_Mel E a (o + 6) x.1.1.2.2.1, w_Cliffs E a (o + 10) x.1.1.2.2.2, w_ValleyR a (o + 13), w_Key E a (o + 14) x.1.2.1.1, w_Bells E a (o + 15) x.1.2.1.2.1, w_Mel E a (o + 18) x.1.2.1.2.2.1, w_Cliffs E a (o + 22) x.1.2.1.2.2.2, w_Prog E a (o + 25) x.1.2.2.2.1, w_Chord E a (o + 31) x.1.2.2.2.2, w_Key E a (o + 34) x.2.1, w_Line E a (o + 35) x.2.2.1, w_Hist E a (o + 37) x.1.2.2.1]) := hD
  have hl : lv_has ls 2 [(0, .ref (a o)), (1, .int p1)] := hl
  generalize hHe : s.heap = H at hP
  have hS : va_S A s.heap H [] := by rw [← hHe]; exact hS
  generalize ([] : List Loc) = locs at hS ⊢
  unfold f_X10_herdOf at hF
  refine lv_aload_n hx hb dX10_herdOf_0 rfl (lv_at hl 0 rfl) ?_
  refine lv_iload_n hx hb dX10_herdOf_1 rfl (lv_at hl 1 rfl) ?_
  obtain ⟨q1, hq1, hF⟩ := q_bdi hF
  refine cx_v (ro := q1) (Lc := [w_VBR a o x.2.2.2.1 x.2.2.2.2.1 x.2.2.2.2.2, w_ValleyR a (o + 1), w_Key E a (o + 2) x.1.1.1, w_Bells E a (o + 3) x.1.1.2.1, w_Mel E a (o + 6) x.1.1.2.2.1, w_Cliffs E a (o + 10) x.1.1.2.2.2, w_ValleyR a (o + 13), w_Key E a (o + 14) x.1.2.1.1, w_Bells E a (o + 15) x.1.2.1.2.1, w_Mel E a (o + 18) x.1.2.1.2.2.1, w_Cliffs E a (o + 22) x.1.2.1.2.2.2, w_Prog E a (o + 25) x.1.2.2.2.1, w_Chord E a (o + 31) x.1.2.2.2.2, w_Key E a (o + 34) x.2.1, w_Line E a (o + 35) x.2.2.1, w_Hist E a (o + 37) x.1.2.2.1]) (Lc' := [w_VBR a o x.2.2.2.1 x.2.2.2.2.1 x.2.2.2.2.2, w_ValleyR a (o + 1), w_Key E a (o + 2) x.1.1.1, w_Bells E a (o + 3) x.1.1.2.1, w_Mel E a (o + 6) x.1.1.2.2.1, w_Cliffs E a (o + 10) x.1.1.2.2.2, w_ValleyR a (o + 13), w_Key E a (o + 14) x.1.2.1.1, w_Bells E a (o + 15) x.1.2.1.2.1, w_Mel E a (o + 18) x.1.2.1.2.2.1, w_Cliffs E a (o + 22) x.1.2.1.2.2.2, w_Prog E a (o + 25) x.1.2.2.2.1, w_Chord E a (o + 31) x.1.2.2.2.2, w_Key E a (o + 34) x.2.1, w_Line E a (o + 35) x.2.2.1, w_Hist E a (o + 37) x.1.2.2.1]) (L' := [w_VBR a o x.2.2.2.1 x.2.2.2.2.1 x.2.2.2.2.2, w_ValleyR a (o + 1), w_Key E a (o + 2) x.1.1.1, w_Bells E a (o + 3) x.1.1.2.1, w_Mel E a (o + 6) x.1.1.2.2.1, w_Cliffs E a (o + 10) x.1.1.2.2.2, w_ValleyR a (o + 13), w_Key E a (o + 14) x.1.2.1.1, w_Bells E a (o + 15) x.1.2.1.2.1, w_Mel E a (o + 18) x.1.2.1.2.2.1, w_Cliffs E a (o + 22) x.1.2.1.2.2.2, w_Prog E a (o + 25) x.1.2.2.2.1, w_Chord E a (o + 31) x.1.2.2.2.2, w_Key E a (o + 34) x.2.1, w_Line E a (o + 35) x.2.2.1, w_Hist E a (o + 37) x.1.2.2.1]) (vx_runV (As := [.int p1]) (rest := []) ⟨hx, hb, hml, hown, ha⟩ (k_X10_requireBell l E a o x p1 q1 hq1 H.size hlt) (cwV 1 ha (gi_V (fun _ h => h) mw659 mw661 mw4 mw26 mw662) rfl rfl rfl hv_X10_requireBell ⟨(Nat.le_of_ble_eq_true rfl), (Nat.le_of_ble_eq_true rfl)⟩) ⟨pre_blind, va_recv hst.k (fr_P hP [0, 1, 2, 3, 4, 5, 6, 7, 8, 9, 10, 11, 12, 13, 14, 15] rfl) (ci := 11) (q0 := 0) rfl rfl, pre_at hP hD hS hz hzs hst [0, 1, 2, 3, 4, 5, 6, 7, 8, 9, 10, 11, 12, 13, 14, 15] (by decide) rfl rfl⟩ rfl rfl hl.1 rfl (lv_room (Nat.le_of_ble_eq_true rfl)) dX10_herdOf_2 ⟨(Nat.le_of_ble_eq_true rfl), (Nat.le_of_ble_eq_true rfl)⟩) hP hD hS hA [0, 1, 2, 3, 4, 5, 6, 7, 8, 9, 10, 11, 12, 13, 14, 15] (by decide) rfl rfl rfl rfl (fun X ce q9 H locs eX h1 h2 h3 hP hD hS => ?_) (fun r2 H locs er2 hP hD hS => ?_)
  · have hF := q_smr eX hF
    obtain rfl := Option.some.inj hF
    exact en_out hQ (Nat.le_of_ble_eq_true rfl) (Nat.le_of_ble_eq_true rfl) hexc hlocks h1 h2 h3 hP hD hS rfl
  have hF := q_sml er2 hF
  refine lv_aload_n hx hb dX10_herdOf_5 rfl (lv_at hl 0 rfl) ?_
  refine va_get (D := E.1) (ci := 11) (v := .ref (a (o + 1))) (C := RX10) (T := TX10) (N := 10) hx hb ha in_X10 hown hst.k hP 0 rfl rfl 0 (by decide) (ha _ mw284) (fun _ h9 => h9) rfl dX10_herdOf_6 ?_
  refine va_getN (D := E.1) (ci := 10) (v := .ref (a (o + 3))) (C := RX9) (T := TX9) (N := 4) hx hb ha in_X9 hown hst.k hP 1 rfl rfl 1 (by decide) (va_Nw.use rfl (nf17 hst)) (fun _ h9 => h9) rfl dX10_herdOf_9 ?_
  refine va_getN (D := E.1) (ci := 3) (v := .ref (a (o + 4))) (C := RX1) (T := TX1) (N := 3) hx hb ha in_X1 hown hst.k hP 3 rfl rfl 0 (by decide) (va_Nw.use rfl (nf3 hst)) (fun _ h9 => h9) rfl dX10_herdOf_12 ?_
  refine lv_iload_n hx hb dX10_herdOf_15 rfl (lv_at hl 1 rfl) ?_
  obtain ⟨g3, hF⟩ := q_gdi hF
  refine vi_iald hx hb hst.k hP 4 0 rfl rfl (f := x.1.1.2.1.1) (k := p1.toNatClampNeg) rfl g3 dX10_herdOf_16 ?_
  obtain rfl := Option.some.inj hF
  exact en_xi hQ (Nat.le_of_ble_eq_true rfl) (Nat.le_of_ble_eq_true rfl) hx hb hr hlocks hP hD hS rfl dX10_herdOf_17

/-! X10_pitch -/
theorem dX10_pitch_0 : decode cX10_pitch 0 = .ok (.aload_n 0, 1) := by decide +kernel
theorem dX10_pitch_1 : decode cX10_pitch 1 = .ok (.iload_n 1, 1) := by decide +kernel
theorem dX10_pitch_2 : decode cX10_pitch 2 = .ok (.invokevirtual 117, 3) := by decide +kernel
theorem dX10_pitch_5 : decode cX10_pitch 5 = .ok (.aload_n 0, 1) := by decide +kernel
theorem dX10_pitch_6 : decode cX10_pitch 6 = .ok (.getfield 10, 3) := by decide +kernel
theorem dX10_pitch_9 : decode cX10_pitch 9 = .ok (.getfield 108, 3) := by decide +kernel
theorem dX10_pitch_12 : decode cX10_pitch 12 = .ok (.getfield 125, 3) := by decide +kernel
theorem dX10_pitch_15 : decode cX10_pitch 15 = .ok (.iload_n 1, 1) := by decide +kernel
theorem dX10_pitch_16 : decode cX10_pitch 16 = .ok (.iaload, 1) := by decide +kernel
theorem dX10_pitch_17 : decode cX10_pitch 17 = .ok (.ireturn, 1) := by decide +kernel
def f_X10_pitch (x_valley_bells_pitches : (Nat → Int32)) (x_valley_bells_count : Int32) (p1 : Int32) : Option ((Int32 ⊕ String)) :=
  q_bd (f_X10_requireBell x_valley_bells_count p1) (fun q1 =>
  q_sm q1 (fun X => some (Sum.inr X)) (fun r2 =>
  q_gd (q_in p1 12) (
  some (Sum.inl (x_valley_bells_pitches (p1.toNatClampNeg))))))
theorem hv_X10_pitch : yX10_pitch.cls = RX10 ∧ yX10_pitch.cls ≠ "java/lang/invoke/MethodHandle" ∧ yX10_pitch.cls ≠ "java/lang/invoke/VarHandle" ∧ (parseMethodDescriptor yX10_pitch.desc).map (fun d => d.parameters.length) = some 1 := by decide +kernel
abbrev rm_X10_pitch : Room := { frames := 7, cells := 1, slots := 6, locals := 103 }
set_option maxHeartbeats 4000000 in
set_option maxRecDepth 100000 in
theorem k_X10_pitch (l : Launch) (E : ET) (a : Nat → Nat) (o : Nat) (x : VB_t) (p1 : Int32) (res : (Int32 ⊕ String)) (hF : f_X10_pitch x.1.1.2.1.2.1 x.1.1.2.1.2.2 p1 = some res) (sz : Nat) (hlt : l.stackTraces = false) : CxI l yX10_pitch (mws yX10_pitch cX10_pitch 2 (some .int)) rm_X10_pitch 1 6 [.ref (a o), .int p1] E (bl_VB E a o x) res (bl_VB E a o x) sz := by
  refine mk_X (by decide +kernel) (Nat.le_of_ble_eq_true rfl) ?_
  intro p e s m below meth c A args Q ls hAe hsz hQ hx hb hr hml hin ha hown hlocks hA hz hzs hst hexc hP hD hS hl
  have hown : s.vm.findClass RX10 = some m.cls := hown
  rw [hAe] at hQ
  subst hsz
  have hP : va_P E.1 vwCl (List.flatten [w_VBR a o x.2.2.2.1 x.2.2.2.2.1 x.2.2.2.2.2, w_ValleyR a (o + 1), w_Key E a (o + 2) x.1.1.1, w_Bells E a (o + 3) x.1.1.2.1, w_Mel E a (o + 6) x.1.1.2.2.1, w_Cliffs E a (o + 10) x.1.1.2.2.2, w_ValleyR a (o + 13), w_Key E a (o + 14) x.1.2.1.1, w_Bells E a (o + 15) x.1.2.1.2.1, w_Mel E a (o + 18) x.1.2.1.2.2.1, w_Cliffs E a (o + 22) x.1.2.1.2.2.2, w_Prog E a (o + 25) x.1.2.2.2.1, w_Chord E a (o + 31) x.1.2.2.2.2, w_Key E a (o + 34) x.2.1, w_Line E a (o + 35) x.2.2.1, w_Hist E a (o + 37) x.1.2.2.1]) s.heap := hP
  have hD : va_D A (List.flatten [w_VBR a o x.2.2.2.1 x.2.2.2.2.1 x.2.2.2.2.2, w_ValleyR a (o + 1), w_Key E a (o + 2) x.1.1.1, w_Bells E a (o + 3) x.1.1.2.1, w_Mel E a (o + 6) x.1.1.2.2.1, w_Cliffs E a (o + 10) x.1.1.2.2.2, w_ValleyR a (o + 13), w_Key E a (o + 14) x.1.2.1.1, w_Bells E a (o + 15) x.1.2.1.2.1, w_Mel E a (o + 18) x.1.2.1.2.2.1, w_Cliffs E a (o + 22) x.1.2.1.2.2.2, w_Prog E a (o + 25) x.1.2.2.2.1, w_Chord E a (o + 31) x.1.2.2.2.2, w_Key E a (o + 34) x.2.1, w_Line E a (o + 35) x.2.2.1, w_Hist E a (o + 37) x.1.2.2.1]) := hD
  have hl : lv_has ls 2 [(0, .ref (a o)), (1, .int p1)] := hl
  generalize hHe : s.heap = H at hP
  have hS : va_S A s.heap H [] := by rw [← hHe]; exact hS
  generalize ([] : List Loc) = locs at hS ⊢
  unfold f_X10_pitch at hF
  refine lv_aload_n hx hb dX10_pitch_0 rfl (lv_at hl 0 rfl) ?_
  refine lv_iload_n hx hb dX10_pitch_1 rfl (lv_at hl 1 rfl) ?_
  obtain ⟨q1, hq1, hF⟩ := q_bdi hF
  refine cx_v (ro := q1) (Lc := [w_VBR a o x.2.2.2.1 x.2.2.2.2.1 x.2.2.2.2.2, w_ValleyR a (o + 1), w_Key E a (o + 2) x.1.1.1, w_Bells E a (o + 3) x.1.1.2.1, w_Mel E a (o + 6) x.1.1.2.2.1, w_Cliffs E a (o + 10) x.1.1.2.2.2, w_ValleyR a (o + 13), w_Key E a (o + 14) x.1.2.1.1, w_Bells E a (o + 15) x.1.2.1.2.1, w_Mel E a (o + 18) x.1.2.1.2.2.1, w_Cliffs E a (o + 22) x.1.2.1.2.2.2, w_Prog E a (o + 25) x.1.2.2.2.1, w_Chord E a (o + 31) x.1.2.2.2.2, w_Key E a (o + 34) x.2.1, w_Line E a (o + 35) x.2.2.1, w_Hist E a (o + 37) x.1.2.2.1]) (Lc' := [w_VBR a o x.2.2.2.1 x.2.2.2.2.1 x.2.2.2.2.2, w_ValleyR a (o + 1), w_Key E a (o + 2) x.1.1.1, w_Bells E a (o + 3) x.1.1.2.1, w_Mel E a (o + 6) x.1.1.2.2.1, w_Cliffs E a (o + 10) x.1.1.2.2.2, w_ValleyR a (o + 13), w_Key E a (o + 14) x.1.2.1.1, w_Bells E a (o + 15) x.1.2.1.2.1, w_Mel E a (o + 18) x.1.2.1.2.2.1, w_Cliffs E a (o + 22) x.1.2.1.2.2.2, w_Prog E a (o + 25) x.1.2.2.2.1, w_Chord E a (o + 31) x.1.2.2.2.2, w_Key E a (o + 34) x.2.1, w_Line E a (o + 35) x.2.2.1, w_Hist E a (o + 37) x.1.2.2.1]) (L' := [w_VBR a o x.2.2.2.1 x.2.2.2.2.1 x.2.2.2.2.2, w_ValleyR a (o + 1), w_Key E a (o + 2) x.1.1.1, w_Bells E a (o + 3) x.1.1.2.1, w_Mel E a (o + 6) x.1.1.2.2.1, w_Cliffs E a (o + 10) x.1.1.2.2.2, w_ValleyR a (o + 13), w_Key E a (o + 14) x.1.2.1.1, w_Bells E a (o + 15) x.1.2.1.2.1, w_Mel E a (o + 18) x.1.2.1.2.2.1, w_Cliffs E a (o + 22) x.1.2.1.2.2.2, w_Prog E a (o + 25) x.1.2.2.2.1, w_Chord E a (o + 31) x.1.2.2.2.2, w_Key E a (o + 34) x.2.1, w_Line E a (o + 35) x.2.2.1, w_Hist E a (o + 37) x.1.2.2.1]) (vx_runV (As := [.int p1]) (rest := []) ⟨hx, hb, hml, hown, ha⟩ (k_X10_requireBell l E a o x p1 q1 hq1 H.size hlt) (cwV 1 ha (gi_V (fun _ h => h) mw659 mw661 mw4 mw26 mw662) rfl rfl rfl hv_X10_requireBell ⟨(Nat.le_of_ble_eq_true rfl), (Nat.le_of_ble_eq_true rfl)⟩) ⟨pre_blind, va_recv hst.k (fr_P hP [0, 1, 2, 3, 4, 5, 6, 7, 8, 9, 10, 11, 12, 13, 14, 15] rfl) (ci := 11) (q0 := 0) rfl rfl, pre_at hP hD hS hz hzs hst [0, 1, 2, 3, 4, 5, 6, 7, 8, 9, 10, 11, 12, 13, 14, 15] (by decide) rfl rfl⟩ rfl rfl hl.1 rfl (lv_room (Nat.le_of_ble_eq_true rfl)) dX10_pitch_2 ⟨(Nat.le_of_ble_eq_true rfl), (Nat.le_of_ble_eq_true rfl)⟩) hP hD hS hA [0, 1, 2, 3, 4, 5, 6, 7, 8, 9, 10, 11, 12, 13, 14, 15] (by decide) rfl rfl rfl rfl (fun X ce q9 H locs eX h1 h2 h3 hP hD hS => ?_) (fun r2 H locs er2 hP hD hS => ?_)
  · have hF := q_smr eX hF
    obtain rfl := Option.some.inj hF
    exact en_out hQ (Nat.le_of_ble_eq_true rfl) (Nat.le_of_ble_eq_true rfl) hexc hlocks h1 h2 h3 hP hD hS rfl
  have hF := q_sml er2 hF
  refine lv_aload_n hx hb dX10_pitch_5 rfl (lv_at hl 0 rfl) ?_
  refine va_get (D := E.1) (ci := 11) (v := .ref (a (o + 1))) (C := RX10) (T := TX10) (N := 10) hx hb ha in_X10 hown hst.k hP 0 rfl rfl 0 (by decide) (ha _ mw284) (fun _ h9 => h9) rfl dX10_pitch_6 ?_
  refine va_getN (D := E.1) (ci := 10) (v := .ref (a (o + 3))) (C := RX9) (T := TX9) (N := 4) hx hb ha in_X9 hown hst.k hP 1 rfl rfl 1 (by decide) (va_Nw.use rfl (nf17 hst)) (fun _ h9 => h9) rfl dX10_pitch_9 ?_
  refine va_getN (D := E.1) (ci := 3) (v := .ref (a (o + 5))) (C := RX1) (T := TX1) (N := 3) hx hb ha in_X1 hown hst.k hP 3 rfl rfl 1 (by decide) (va_Nw.use rfl (nf4 hst)) (fun _ h9 => h9) rfl dX10_pitch_12 ?_
  refine lv_iload_n hx hb dX10_pitch_15 rfl (lv_at hl 1 rfl) ?_
  obtain ⟨g3, hF⟩ := q_gdi hF
  refine vi_iald hx hb hst.k hP 5 0 rfl rfl (f := x.1.1.2.1.2.1) (k := p1.toNatClampNeg) rfl g3 dX10_pitch_16 ?_
  obtain rfl := Option.some.inj hF
  exact en_xi hQ (Nat.le_of_ble_eq_true rfl) (Nat.le_of_ble_eq_true rfl) hx hb hr hlocks hP hD hS rfl dX10_pitch_17

/-! X10_nearestNote -/
theorem dX10_nearestNote_0 : decode cX10_nearestNote 0 = .ok (.aload_n 0, 1) := by decide +kernel
theorem dX10_nearestNote_1 : decode cX10_nearestNote 1 = .ok (.iload_n 1, 1) := by decide +kernel
theorem dX10_nearestNote_2 : decode cX10_nearestNote 2 = .ok (.invokevirtual 117, 3) := by decide +kernel
theorem dX10_nearestNote_5 : decode cX10_nearestNote 5 = .ok (.aload_n 0, 1) := by decide +kernel
theorem dX10_nearestNote_6 : decode cX10_nearestNote 6 = .ok (.getfield 10, 3) := by decide +kernel
theorem dX10_nearestNote_9 : decode cX10_nearestNote 9 = .ok (.getfield 108, 3) := by decide +kernel
theorem dX10_nearestNote_12 : decode cX10_nearestNote 12 = .ok (.iload_n 1, 1) := by decide +kernel
theorem dX10_nearestNote_13 : decode cX10_nearestNote 13 = .ok (.invokevirtual 128, 3) := by decide +kernel
theorem dX10_nearestNote_16 : decode cX10_nearestNote 16 = .ok (.ireturn, 1) := by decide +kernel
def f_X10_nearestNote (x_valley_bells_pitches : (Nat → Int32)) (x_valley_bells_count : Int32) (p1 : Int32) : Option ((Int32 ⊕ String)) :=
  q_bd (f_X10_requireBell x_valley_bells_count p1) (fun q1 =>
  q_sm q1 (fun X => some (Sum.inr X)) (fun r2 =>
  q_bd (f_X1_noteOf x_valley_bells_pitches p1) (fun q3 =>
  some (Sum.inl q3))))
theorem hv_X10_nearestNote : yX10_nearestNote.cls = RX10 ∧ yX10_nearestNote.cls ≠ "java/lang/invoke/MethodHandle" ∧ yX10_nearestNote.cls ≠ "java/lang/invoke/VarHandle" ∧ (parseMethodDescriptor yX10_nearestNote.desc).map (fun d => d.parameters.length) = some 1 := by decide +kernel
abbrev rm_X10_nearestNote : Room := { frames := 7, cells := 1, slots := 6, locals := 103 }
set_option maxHeartbeats 4000000 in
set_option maxRecDepth 100000 in
theorem k_X10_nearestNote (l : Launch) (E : ET) (a : Nat → Nat) (o : Nat) (x : VB_t) (p1 : Int32) (res : (Int32 ⊕ String)) (hF : f_X10_nearestNote x.1.1.2.1.2.1 x.1.1.2.1.2.2 p1 = some res) (sz : Nat) (hlt : l.stackTraces = false) : CxI l yX10_nearestNote (mws yX10_nearestNote cX10_nearestNote 2 (some .int)) rm_X10_nearestNote 1 6 [.ref (a o), .int p1] E (bl_VB E a o x) res (bl_VB E a o x) sz := by
  refine mk_X (by decide +kernel) (Nat.le_of_ble_eq_true rfl) ?_
  intro p e s m below meth c A args Q ls hAe hsz hQ hx hb hr hml hin ha hown hlocks hA hz hzs hst hexc hP hD hS hl
  have hown : s.vm.findClass RX10 = some m.cls := hown
  rw [hAe] at hQ
  subst hsz
  have hP : va_P E.1 vwCl (List.flatten [w_VBR a o x.2.2.2.1 x.2.2.2.2.1 x.2.2.2.2.2, w_ValleyR a (o + 1), w_Key E a (o + 2) x.1.1.1, w_Bells E a (o + 3) x.1.1.2.1, w_Mel E a (o + 6) x.1.1.2.2.1, w_Cliffs E a (o + 10) x.1.1.2.2.2, w_ValleyR a (o + 13), w_Key E a (o + 14) x.1.2.1.1, w_Bells E a (o + 15) x.1.2.1.2.1, w_Mel E a (o + 18) x.1.2.1.2.2.1, w_Cliffs E a (o + 22) x.1.2.1.2.2.2, w_Prog E a (o + 25) x.1.2.2.2.1, w_Chord E a (o + 31) x.1.2.2.2.2, w_Key E a (o + 34) x.2.1, w_Line E a (o + 35) x.2.2.1, w_Hist E a (o + 37) x.1.2.2.1]) s.heap := hP
  have hD : va_D A (List.flatten [w_VBR a o x.2.2.2.1 x.2.2.2.2.1 x.2.2.2.2.2, w_ValleyR a (o + 1), w_Key E a (o + 2) x.1.1.1, w_Bells E a (o + 3) x.1.1.2.1, w_Mel E a (o + 6) x.1.1.2.2.1, w_Cliffs E a (o + 10) x.1.1.2.2.2, w_ValleyR a (o + 13), w_Key E a (o + 14) x.1.2.1.1, w_Bells E a (o + 15) x.1.2.1.2.1, w_Mel E a (o + 18) x.1.2.1.2.2.1, w_Cliffs E a (o + 22) x.1.2.1.2.2.2, w_Prog E a (o + 25) x.1.2.2.2.1, w_Chord E a (o + 31) x.1.2.2.2.2, w_Key E a (o + 34) x.2.1, w_Line E a (o + 35) x.2.2.1, w_Hist E a (o + 37) x.1.2.2.1]) := hD
  have hl : lv_has ls 2 [(0, .ref (a o)), (1, .int p1)] := hl
  generalize hHe : s.heap = H at hP
  have hS : va_S A s.heap H [] := by rw [← hHe]; exact hS
  generalize ([] : List Loc) = locs at hS ⊢
  unfold f_X10_nearestNote at hF
  refine lv_aload_n hx hb dX10_nearestNote_0 rfl (lv_at hl 0 rfl) ?_
  refine lv_iload_n hx hb dX10_nearestNote_1 rfl (lv_at hl 1 rfl) ?_
  obtain ⟨q1, hq1, hF⟩ := q_bdi hF
  refine cx_v (ro := q1) (Lc := [w_VBR a o x.2.2.2.1 x.2.2.2.2.1 x.2.2.2.2.2, w_ValleyR a (o + 1), w_Key E a (o + 2) x.1.1.1, w_Bells E a (o + 3) x.1.1.2.1, w_Mel E a (o + 6) x.1.1.2.2.1, w_Cliffs E a (o + 10) x.1.1.2.2.2, w_ValleyR a (o + 13), w_Key E a (o + 14) x.1.2.1.1, w_Bells E a (o + 15) x.1.2.1.2.1, w_Mel E a (o + 18) x.1.2.1.2.2.1, w_Cliffs E a (o + 22) x.1.2.1.2.2.2, w_Prog E a (o + 25) x.1.2.2.2.1, w_Chord E a (o + 31) x.1.2.2.2.2, w_Key E a (o + 34) x.2.1, w_Line E a (o + 35) x.2.2.1, w_Hist E a (o + 37) x.1.2.2.1]) (Lc' := [w_VBR a o x.2.2.2.1 x.2.2.2.2.1 x.2.2.2.2.2, w_ValleyR a (o + 1), w_Key E a (o + 2) x.1.1.1, w_Bells E a (o + 3) x.1.1.2.1, w_Mel E a (o + 6) x.1.1.2.2.1, w_Cliffs E a (o + 10) x.1.1.2.2.2, w_ValleyR a (o + 13), w_Key E a (o + 14) x.1.2.1.1, w_Bells E a (o + 15) x.1.2.1.2.1, w_Mel E a (o + 18) x.1.2.1.2.2.1, w_Cliffs E a (o + 22) x.1.2.1.2.2.2, w_Prog E a (o + 25) x.1.2.2.2.1, w_Chord E a (o + 31) x.1.2.2.2.2, w_Key E a (o + 34) x.2.1, w_Line E a (o + 35) x.2.2.1, w_Hist E a (o + 37) x.1.2.2.1]) (L' := [w_VBR a o x.2.2.2.1 x.2.2.2.2.1 x.2.2.2.2.2, w_ValleyR a (o + 1), w_Key E a (o + 2) x.1.1.1, w_Bells E a (o + 3) x.1.1.2.1, w_Mel E a (o + 6) x.1.1.2.2.1, w_Cliffs E a (o + 10) x.1.1.2.2.2, w_ValleyR a (o + 13), w_Key E a (o + 14) x.1.2.1.1, w_Bells E a (o + 15) x.1.2.1.2.1, w_Mel E a (o + 18) x.1.2.1.2.2.1, w_Cliffs E a (o + 22) x.1.2.1.2.2.2, w_Prog E a (o + 25) x.1.2.2.2.1, w_Chord E a (o + 31) x.1.2.2.2.2, w_Key E a (o + 34) x.2.1, w_Line E a (o + 35) x.2.2.1, w_Hist E a (o + 37) x.1.2.2.1]) (vx_runV (As := [.int p1]) (rest := []) ⟨hx, hb, hml, hown, ha⟩ (k_X10_requireBell l E a o x p1 q1 hq1 H.size hlt) (cwV 1 ha (gi_V (fun _ h => h) mw659 mw661 mw4 mw26 mw662) rfl rfl rfl hv_X10_requireBell ⟨(Nat.le_of_ble_eq_true rfl), (Nat.le_of_ble_eq_true rfl)⟩) ⟨pre_blind, va_recv hst.k (fr_P hP [0, 1, 2, 3, 4, 5, 6, 7, 8, 9, 10, 11, 12, 13, 14, 15] rfl) (ci := 11) (q0 := 0) rfl rfl, pre_at hP hD hS hz hzs hst [0, 1, 2, 3, 4, 5, 6, 7, 8, 9, 10, 11, 12, 13, 14, 15] (by decide) rfl rfl⟩ rfl rfl hl.1 rfl (lv_room (Nat.le_of_ble_eq_true rfl)) dX10_nearestNote_2 ⟨(Nat.le_of_ble_eq_true rfl), (Nat.le_of_ble_eq_true rfl)⟩) hP hD hS hA [0, 1, 2, 3, 4, 5, 6, 7, 8, 9, 10, 11, 12, 13, 14, 15] (by decide) rfl rfl rfl rfl (fun X ce q9 H locs eX h1 h2 h3 hP hD hS => ?_) (fun r2 H locs er2 hP hD hS => ?_)
  · have hF := q_smr eX hF
    obtain rfl := Option.some.inj hF
    exact en_out hQ (Nat.le_of_ble_eq_true rfl) (Nat.le_of_ble_eq_true rfl) hexc hlocks h1 h2 h3 hP hD hS rfl
  have hF := q_sml er2 hF
  refine lv_aload_n hx hb dX10_nearestNote_5 rfl (lv_at hl 0 rfl) ?_
  refine va_get (D := E.1) (ci := 11) (v := .ref (a (o + 1))) (C := RX10) (T := TX10) (N := 10) hx hb ha in_X10 hown hst.k hP 0 rfl rfl 0 (by decide) (ha _ mw284) (fun _ h9 => h9) rfl dX10_nearestNote_6 ?_
  refine va_getN (D := E.1) (ci := 10) (v := .ref (a (o + 3))) (C := RX9) (T := TX9) (N := 4) hx hb ha in_X9 hown hst.k hP 1 rfl rfl 1 (by decide) (va_Nw.use rfl (nf17 hst)) (fun _ h9 => h9) rfl dX10_nearestNote_9 ?_
  refine lv_iload_n hx hb dX10_nearestNote_12 rfl (lv_at hl 1 rfl) ?_
  obtain ⟨q3, hq3, hF⟩ := q_bdi hF
  refine cl_i (Lc := [w_Bells E a (o + 3) x.1.1.2.1]) (Lc' := [w_Bells E a (o + 3) x.1.1.2.1]) (L' := [w_VBR a o x.2.2.2.1 x.2.2.2.2.1 x.2.2.2.2.2, w_ValleyR a (o + 1), w_Key E a (o + 2) x.1.1.1, w_Bells E a (o + 3) x.1.1.2.1, w_Mel E a (o + 6) x.1.1.2.2.1, w_Cliffs E a (o + 10) x.1.1.2.2.2, w_ValleyR a (o + 13), w_Key E a (o + 14) x.1.2.1.1, w_Bells E a (o + 15) x.1.2.1.2.1, w_Mel E a (o + 18) x.1.2.1.2.2.1, w_Cliffs E a (o + 22) x.1.2.1.2.2.2, w_Prog E a (o + 25) x.1.2.2.2.1, w_Chord E a (o + 31) x.1.2.2.2.2, w_Key E a (o + 34) x.2.1, w_Line E a (o + 35) x.2.2.1, w_Hist E a (o + 37) x.1.2.2.1]) (rv := q3) (va_runV (As := [.int p1]) (rest := []) ⟨hx, hb, hml, hown, ha⟩ (k_X1_noteOf l E a (o + 3) x.1.1.2.1 p1 q3 hq3 H.size) (cwV 1 ha (gi_V (fun _ h => h) mw669 mw670 mw671 mw29 mw672) rfl rfl rfl hv_X1_noteOf ⟨(Nat.le_of_ble_eq_true rfl), (Nat.le_of_ble_eq_true rfl)⟩) ⟨pre_blind, va_recv hst.k (fr_P hP [3] rfl) (ci := 3) (q0 := 0) rfl rfl, pre_at hP hD hS hz hzs hst [3] (by decide) rfl rfl⟩ rfl rfl hl.1 rfl (lv_room (Nat.le_of_ble_eq_true rfl)) dX10_nearestNote_13 ⟨(Nat.le_of_ble_eq_true rfl), (Nat.le_of_ble_eq_true rfl)⟩) hP hD hS hA [3] (by decide) rfl rfl rfl rfl (fun H locs hP hD hS => ?_)
  obtain rfl := Option.some.inj hF
  exact en_xi hQ (Nat.le_of_ble_eq_true rfl) (Nat.le_of_ble_eq_true rfl) hx hb hr hlocks hP hD hS rfl dX10_nearestNote_16

/-! X10_deviation -/
theorem dX10_deviation_0 : decode cX10_deviation 0 = .ok (.aload_n 0, 1) := by decide +kernel
theorem dX10_deviation_1 : decode cX10_deviation 1 = .ok (.iload_n 1, 1) := by decide +kernel
theorem dX10_deviation_2 : decode cX10_deviation 2 = .ok (.invokevirtual 117, 3) := by decide +kernel
theorem dX10_deviation_5 : decode cX10_deviation 5 = .ok (.aload_n 0, 1) := by decide +kernel
theorem dX10_deviation_6 : decode cX10_deviation 6 = .ok (.getfield 10, 3) := by decide +kernel
theorem dX10_deviation_9 : decode cX10_deviation 9 = .ok (.getfield 108, 3) := by decide +kernel
theorem dX10_deviation_12 : decode cX10_deviation 12 = .ok (.iload_n 1, 1) := by decide +kernel
theorem dX10_deviation_13 : decode cX10_deviation 13 = .ok (.invokevirtual 132, 3) := by decide +kernel
theorem dX10_deviation_16 : decode cX10_deviation 16 = .ok (.ireturn, 1) := by decide +kernel
def f_X10_deviation (x_valley_bells_pitches : (Nat → Int32)) (x_valley_bells_count : Int32) (p1 : Int32) : Option ((Int32 ⊕ String)) :=
  q_bd (f_X10_requireBell x_valley_bells_count p1) (fun q1 =>
  q_sm q1 (fun X => some (Sum.inr X)) (fun r2 =>
  q_bd (f_X1_deviationOf x_valley_bells_pitches p1) (fun q3 =>
  some (Sum.inl q3))))
theorem hv_X10_deviation : yX10_deviation.cls = RX10 ∧ yX10_deviation.cls ≠ "java/lang/invoke/MethodHandle" ∧ yX10_deviation.cls ≠ "java/lang/invoke/VarHandle" ∧ (parseMethodDescriptor yX10_deviation.desc).map (fun d => d.parameters.length) = some 1 := by decide +kernel
abbrev rm_X10_deviation : Room := { frames := 7, cells := 1, slots := 6, locals := 103 }
set_option maxHeartbeats 4000000 in
set_option maxRecDepth 100000 in
theorem k_X10_deviation (l : Launch) (E : ET) (a : Nat → Nat) (o : Nat) (x : VB_t) (p1 : Int32) (res : (Int32 ⊕ String)) (hF : f_X10_deviation x.1.1.2.1.2.1 x.1.1.2.1.2.2 p1 = some res) (sz : Nat) (hlt : l.stackTraces = false) : CxI l yX10_deviation (mws yX10_deviation cX10_deviation 2 (some .int)) rm_X10_deviation 1 6 [.ref (a o), .int p1] E (bl_VB E a o x) res (bl_VB E a o x) sz := by
  refine mk_X (by decide +kernel) (Nat.le_of_ble_eq_true rfl) ?_
  intro p e s m below meth c A args Q ls hAe hsz hQ hx hb hr hml hin ha hown hlocks hA hz hzs hst hexc hP hD hS hl
  have hown : s.vm.findClass RX10 = some m.cls := hown
  rw [hAe] at hQ
  subst hsz
  have hP : va_P E.1 vwCl (List.flatten [w_VBR a o x.2.2.2.1 x.2.2.2.2.1 x.2.2.2.2.2, w_ValleyR a (o + 1), w_Key E a (o + 2) x.1.1.1, w_Bells E a (o + 3) x.1.1.2.1, w_Mel E a (o + 6) x.1.1.2.2.1, w_Cliffs E a (o + 10) x.1.1.2.2.2, w_ValleyR a (o + 13), w_Key E a (o + 14) x.1.2.1.1, w_Bells E a (o + 15) x.1.2.1.2.1, w_Mel E a (o + 18) x.1.2.1.2.2.1, w_Cliffs E a (o + 22) x.1.2.1.2.2.2, w_Prog E a (o + 25) x.1.2.2.2.1, w_Chord E a (o + 31) x.1.2.2.2.2, w_Key E a (o + 34) x.2.1, w_Line E a (o + 35) x.2.2.1, w_Hist E a (o + 37) x.1.2.2.1]) s.heap := hP
  have hD : va_D A (List.flatten [w_VBR a o x.2.2.2.1 x.2.2.2.2.1 x.2.2.2.2.2, w_ValleyR a (o + 1), w_Key E a (o + 2) x.1.1.1, w_Bells E a (o + 3) x.1.1.2.1, w_Mel E a (o + 6) x.1.1.2.2.1, w_Cliffs E a (o + 10) x.1.1.2.2.2, w_ValleyR a (o + 13), w_Key E a (o + 14) x.1.2.1.1, w_Bells E a (o + 15) x.1.2.1.2.1, w_Mel E a (o + 18) x.1.2.1.2.2.1, w_Cliffs E a (o + 22) x.1.2.1.2.2.2, w_Prog E a (o + 25) x.1.2.2.2.1, w_Chord E a (o + 31) x.1.2.2.2.2, w_Key E a (o + 34) x.2.1, w_Line E a (o + 35) x.2.2.1, w_Hist E a (o + 37) x.1.2.2.1]) := hD
  have hl : lv_has ls 2 [(0, .ref (a o)), (1, .int p1)] := hl
  generalize hHe : s.heap = H at hP
  have hS : va_S A s.heap H [] := by rw [← hHe]; exact hS
  generalize ([] : List Loc) = locs at hS ⊢
  unfold f_X10_deviation at hF
  refine lv_aload_n hx hb dX10_deviation_0 rfl (lv_at hl 0 rfl) ?_
  refine lv_iload_n hx hb dX10_deviation_1 rfl (lv_at hl 1 rfl) ?_
  obtain ⟨q1, hq1, hF⟩ := q_bdi hF
  refine cx_v (ro := q1) (Lc := [w_VBR a o x.2.2.2.1 x.2.2.2.2.1 x.2.2.2.2.2, w_ValleyR a (o + 1), w_Key E a (o + 2) x.1.1.1, w_Bells E a (o + 3) x.1.1.2.1, w_Mel E a (o + 6) x.1.1.2.2.1, w_Cliffs E a (o + 10) x.1.1.2.2.2, w_ValleyR a (o + 13), w_Key E a (o + 14) x.1.2.1.1, w_Bells E a (o + 15) x.1.2.1.2.1, w_Mel E a (o + 18) x.1.2.1.2.2.1, w_Cliffs E a (o + 22) x.1.2.1.2.2.2, w_Prog E a (o + 25) x.1.2.2.2.1, w_Chord E a (o + 31) x.1.2.2.2.2, w_Key E a (o + 34) x.2.1, w_Line E a (o + 35) x.2.2.1, w_Hist E a (o + 37) x.1.2.2.1]) (Lc' := [w_VBR a o x.2.2.2.1 x.2.2.2.2.1 x.2.2.2.2.2, w_ValleyR a (o + 1), w_Key E a (o + 2) x.1.1.1, w_Bells E a (o + 3) x.1.1.2.1, w_Mel E a (o + 6) x.1.1.2.2.1, w_Cliffs E a (o + 10) x.1.1.2.2.2, w_ValleyR a (o + 13), w_Key E a (o + 14) x.1.2.1.1, w_Bells E a (o + 15) x.1.2.1.2.1, w_Mel E a (o + 18) x.1.2.1.2.2.1, w_Cliffs E a (o + 22) x.1.2.1.2.2.2, w_Prog E a (o + 25) x.1.2.2.2.1, w_Chord E a (o + 31) x.1.2.2.2.2, w_Key E a (o + 34) x.2.1, w_Line E a (o + 35) x.2.2.1, w_Hist E a (o + 37) x.1.2.2.1]) (L' := [w_VBR a o x.2.2.2.1 x.2.2.2.2.1 x.2.2.2.2.2, w_ValleyR a (o + 1), w_Key E a (o + 2) x.1.1.1, w_Bells E a (o + 3) x.1.1.2.1, w_Mel E a (o + 6) x.1.1.2.2.1, w_Cliffs E a (o + 10) x.1.1.2.2.2, w_ValleyR a (o + 13), w_Key E a (o + 14) x.1.2.1.1, w_Bells E a (o + 15) x.1.2.1.2.1, w_Mel E a (o + 18) x.1.2.1.2.2.1, w_Cliffs E a (o + 22) x.1.2.1.2.2.2, w_Prog E a (o + 25) x.1.2.2.2.1, w_Chord E a (o + 31) x.1.2.2.2.2, w_Key E a (o + 34) x.2.1, w_Line E a (o + 35) x.2.2.1, w_Hist E a (o + 37) x.1.2.2.1]) (vx_runV (As := [.int p1]) (rest := []) ⟨hx, hb, hml, hown, ha⟩ (k_X10_requireBell l E a o x p1 q1 hq1 H.size hlt) (cwV 1 ha (gi_V (fun _ h => h) mw659 mw661 mw4 mw26 mw662) rfl rfl rfl hv_X10_requireBell ⟨(Nat.le_of_ble_eq_true rfl), (Nat.le_of_ble_eq_true rfl)⟩) ⟨pre_blind, va_recv hst.k (fr_P hP [0, 1, 2, 3, 4, 5, 6, 7, 8, 9, 10, 11, 12, 13, 14, 15] rfl) (ci := 11) (q0 := 0) rfl rfl, pre_at hP hD hS hz hzs hst [0, 1, 2, 3, 4, 5, 6, 7, 8, 9, 10, 11, 12, 13, 14, 15] (by decide) rfl rfl⟩ rfl rfl hl.1 rfl (lv_room (Nat.le_of_ble_eq_true rfl)) dX10_deviation_2 ⟨(Nat.le_of_ble_eq_true rfl), (Nat.le_of_ble_eq_true rfl)⟩) hP hD hS hA [0, 1, 2, 3, 4, 5, 6, 7, 8, 9, 10, 11, 12, 13, 14, 15] (by decide) rfl rfl rfl rfl (fun X ce q9 H locs eX h1 h2 h3 hP hD hS => ?_) (fun r2 H locs er2 hP hD hS => ?_)
  · have hF := q_smr eX hF
    obtain rfl := Option.some.inj hF
    exact en_out hQ (Nat.le_of_ble_eq_true rfl) (Nat.le_of_ble_eq_true rfl) hexc hlocks h1 h2 h3 hP hD hS rfl
  have hF := q_sml er2 hF
  refine lv_aload_n hx hb dX10_deviation_5 rfl (lv_at hl 0 rfl) ?_
  refine va_get (D := E.1) (ci := 11) (v := .ref (a (o + 1))) (C := RX10) (T := TX10) (N := 10) hx hb ha in_X10 hown hst.k hP 0 rfl rfl 0 (by decide) (ha _ mw284) (fun _ h9 => h9) rfl dX10_deviation_6 ?_
  refine va_getN (D := E.1) (ci := 10) (v := .ref (a (o + 3))) (C := RX9) (T := TX9) (N := 4) hx hb ha in_X9 hown hst.k hP 1 rfl rfl 1 (by decide) (va_Nw.use rfl (nf17 hst)) (fun _ h9 => h9) rfl dX10_deviation_9 ?_
  refine lv_iload_n hx hb dX10_deviation_12 rfl (lv_at hl 1 rfl) ?_
  obtain ⟨q3, hq3, hF⟩ := q_bdi hF
  refine cl_i (Lc := [w_Bells E a (o + 3) x.1.1.2.1]) (Lc' := [w_Bells E a (o + 3) x.1.1.2.1]) (L' := [w_VBR a o x.2.2.2.1 x.2.2.2.2.1 x.2.2.2.2.2, w_ValleyR a (o + 1), w_Key E a (o + 2) x.1.1.1, w_Bells E a (o + 3) x.1.1.2.1, w_Mel E a (o + 6) x.1.1.2.2.1, w_Cliffs E a (o + 10) x.1.1.2.2.2, w_ValleyR a (o + 13), w_Key E a (o + 14) x.1.2.1.1, w_Bells E a (o + 15) x.1.2.1.2.1, w_Mel E a (o + 18) x.1.2.1.2.2.1, w_Cliffs E a (o + 22) x.1.2.1.2.2.2, w_Prog E a (o + 25) x.1.2.2.2.1, w_Chord E a (o + 31) x.1.2.2.2.2, w_Key E a (o + 34) x.2.1, w_Line E a (o + 35) x.2.2.1, w_Hist E a (o + 37) x.1.2.2.1]) (rv := q3) (va_runV (As := [.int p1]) (rest := []) ⟨hx, hb, hml, hown, ha⟩ (k_X1_deviationOf l E a (o + 3) x.1.1.2.1 p1 q3 hq3 H.size) (cwV 1 ha (gi_V (fun _ h => h) mw678 mw679 mw680 mw29 mw681) rfl rfl rfl hv_X1_deviationOf ⟨(Nat.le_of_ble_eq_true rfl), (Nat.le_of_ble_eq_true rfl)⟩) ⟨pre_blind, va_recv hst.k (fr_P hP [3] rfl) (ci := 3) (q0 := 0) rfl rfl, pre_at hP hD hS hz hzs hst [3] (by decide) rfl rfl⟩ rfl rfl hl.1 rfl (lv_room (Nat.le_of_ble_eq_true rfl)) dX10_deviation_13 ⟨(Nat.le_of_ble_eq_true rfl), (Nat.le_of_ble_eq_true rfl)⟩) hP hD hS hA [3] (by decide) rfl rfl rfl rfl (fun H locs hP hD hS => ?_)
  obtain rfl := Option.some.inj hF
  exact en_xi hQ (Nat.le_of_ble_eq_true rfl) (Nat.le_of_ble_eq_true rfl) hx hb hr hlocks hP hD hS rfl dX10_deviation_16

/-! X10_isInKey -/
theorem dX10_isInKey_0 : decode cX10_isInKey 0 = .ok (.aload_n 0, 1) := by decide +kernel
theorem dX10_isInKey_1 : decode cX10_isInKey 1 = .ok (.iload_n 1, 1) := by decide +kernel
theorem dX10_isInKey_2 : decode cX10_isInKey 2 = .ok (.invokevirtual 117, 3) := by decide +kernel
theorem dX10_isInKey_5 : decode cX10_isInKey 5 = .ok (.aload_n 0, 1) := by decide +kernel
theorem dX10_isInKey_6 : decode cX10_isInKey 6 = .ok (.getfield 10, 3) := by decide +kernel
theorem dX10_isInKey_9 : decode cX10_isInKey 9 = .ok (.getfield 135, 3) := by decide +kernel
theorem dX10_isInKey_12 : decode cX10_isInKey 12 = .ok (.aload_n 0, 1) := by decide +kernel
theorem dX10_isInKey_13 : decode cX10_isInKey 13 = .ok (.getfield 10, 3) := by decide +kernel
theorem dX10_isInKey_16 : decode cX10_isInKey 16 = .ok (.getfield 108, 3) := by decide +kernel
theorem dX10_isInKey_19 : decode cX10_isInKey 19 = .ok (.getfield 125, 3) := by decide +kernel
theorem dX10_isInKey_22 : decode cX10_isInKey 22 = .ok (.iload_n 1, 1) := by decide +kernel
theorem dX10_isInKey_23 : decode cX10_isInKey 23 = .ok (.iaload, 1) := by decide +kernel
theorem dX10_isInKey_24 : decode cX10_isInKey 24 = .ok (.invokevirtual 138, 3) := by decide +kernel
theorem dX10_isInKey_27 : decode cX10_isInKey 27 = .ok (.ireturn, 1) := by decide +kernel
def f_X10_isInKey (x_valley_key_tonic : Int32) (x_valley_key_isMinor : Int32) (x_valley_key_tolerance : Int32) (x_valley_bells_pitches : (Nat → Int32)) (x_valley_bells_count : Int32) (p1 : Int32) : Option ((Int32 ⊕ String)) :=
  q_bd (f_X10_requireBell x_valley_bells_count p1) (fun q1 =>
  q_sm q1 (fun X => some (Sum.inr X)) (fun r2 =>
  q_gd (q_in p1 12) (
  q_bd (f_X6_accepts x_valley_key_tonic x_valley_key_isMinor x_valley_key_tolerance (x_valley_bells_pitches (p1.toNatClampNeg))) (fun q4 =>
  q_gd (q4 = 0 ∨ q4 = 1) (
  some (Sum.inl q4))))))
theorem hv_X10_isInKey : yX10_isInKey.cls = RX10 ∧ yX10_isInKey.cls ≠ "java/lang/invoke/MethodHandle" ∧ yX10_isInKey.cls ≠ "java/lang/invoke/VarHandle" ∧ (parseMethodDescriptor yX10_isInKey.desc).map (fun d => d.parameters.length) = some 1 := by decide +kernel
abbrev rm_X10_isInKey : Room := { frames := 7, cells := 1, slots := 6, locals := 103 }
set_option maxHeartbeats 4000000 in
set_option maxRecDepth 100000 in
theorem k_X10_isInKey (l : Launch) (E : ET) (a : Nat → Nat) (o : Nat) (x : VB_t) (p1 : Int32) (res : (Int32 ⊕ String)) (hF : f_X10_isInKey x.1.1.1.1 x.1.1.1.2.1 x.1.1.1.2.2 x.1.1.2.1.2.1 x.1.1.2.1.2.2 p1 = some res) (sz : Nat) (hlt : l.stackTraces = false) : CxI l yX10_isInKey (mws yX10_isInKey cX10_isInKey 2 (some .boolean)) rm_X10_isInKey 1 6 [.ref (a o), .int p1] E (bl_VB E a o x) res (bl_VB E a o x) sz := by
  refine mk_X (by decide +kernel) (Nat.le_of_ble_eq_true rfl) ?_
  intro p e s m below meth c A args Q ls hAe hsz hQ hx hb hr hml hin ha hown hlocks hA hz hzs hst hexc hP hD hS hl
  have hown : s.vm.findClass RX10 = some m.cls := hown
  rw [hAe] at hQ
  subst hsz
  have hP : va_P E.1 vwCl (List.flatten [w_VBR a o x.2.2.2.1 x.2.2.2.2.1 x.2.2.2.2.2, w_ValleyR a (o + 1), w_Key E a (o + 2) x.1.1.1, w_Bells E a (o + 3) x.1.1.2.1, w_Mel E a (o + 6) x.1.1.2.2.1, w_Cliffs E a (o + 10) x.1.1.2.2.2, w_ValleyR a (o + 13), w_Key E a (o + 14) x.1.2.1.1, w_Bells E a (o + 15) x.1.2.1.2.1, w_Mel E a (o + 18) x.1.2.1.2.2.1, w_Cliffs E a (o + 22) x.1.2.1.2.2.2, w_Prog E a (o + 25) x.1.2.2.2.1, w_Chord E a (o + 31) x.1.2.2.2.2, w_Key E a (o + 34) x.2.1, w_Line E a (o + 35) x.2.2.1, w_Hist E a (o + 37) x.1.2.2.1]) s.heap := hP
  have hD : va_D A (List.flatten [w_VBR a o x.2.2.2.1 x.2.2.2.2.1 x.2.2.2.2.2, w_ValleyR a (o + 1), w_Key E a (o + 2) x.1.1.1, w_Bells E a (o + 3) x.1.1.2.1, w_Mel E a (o + 6) x.1.1.2.2.1, w_Cliffs E a (o + 10) x.1.1.2.2.2, w_ValleyR a (o + 13), w_Key E a (o + 14) x.1.2.1.1, w_Bells E a (o + 15) x.1.2.1.2.1, w_Mel E a (o + 18) x.1.2.1.2.2.1, w_Cliffs E a (o + 22) x.1.2.1.2.2.2, w_Prog E a (o + 25) x.1.2.2.2.1, w_Chord E a (o + 31) x.1.2.2.2.2, w_Key E a (o + 34) x.2.1, w_Line E a (o + 35) x.2.2.1, w_Hist E a (o + 37) x.1.2.2.1]) := hD
  have hl : lv_has ls 2 [(0, .ref (a o)), (1, .int p1)] := hl
  generalize hHe : s.heap = H at hP
  have hS : va_S A s.heap H [] := by rw [← hHe]; exact hS
  generalize ([] : List Loc) = locs at hS ⊢
  unfold f_X10_isInKey at hF
  refine lv_aload_n hx hb dX10_isInKey_0 rfl (lv_at hl 0 rfl) ?_
  refine lv_iload_n hx hb dX10_isInKey_1 rfl (lv_at hl 1 rfl) ?_
  obtain ⟨q1, hq1, hF⟩ := q_bdi hF
  refine cx_v (ro := q1) (Lc := [w_VBR a o x.2.2.2.1 x.2.2.2.2.1 x.2.2.2.2.2, w_ValleyR a (o + 1), w_Key E a (o + 2) x.1.1.1, w_Bells E a (o + 3) x.1.1.2.1, w_Mel E a (o + 6) x.1.1.2.2.1, w_Cliffs E a (o + 10) x.1.1.2.2.2, w_ValleyR a (o + 13), w_Key E a (o + 14) x.1.2.1.1, w_Bells E a (o + 15) x.1.2.1.2.1, w_Mel E a (o + 18) x.1.2.1.2.2.1, w_Cliffs E a (o + 22) x.1.2.1.2.2.2, w_Prog E a (o + 25) x.1.2.2.2.1, w_Chord E a (o + 31) x.1.2.2.2.2, w_Key E a (o + 34) x.2.1, w_Line E a (o + 35) x.2.2.1, w_Hist E a (o + 37) x.1.2.2.1]) (Lc' := [w_VBR a o x.2.2.2.1 x.2.2.2.2.1 x.2.2.2.2.2, w_ValleyR a (o + 1), w_Key E a (o + 2) x.1.1.1, w_Bells E a (o + 3) x.1.1.2.1, w_Mel E a (o + 6) x.1.1.2.2.1, w_Cliffs E a (o + 10) x.1.1.2.2.2, w_ValleyR a (o + 13), w_Key E a (o + 14) x.1.2.1.1, w_Bells E a (o + 15) x.1.2.1.2.1, w_Mel E a (o + 18) x.1.2.1.2.2.1, w_Cliffs E a (o + 22) x.1.2.1.2.2.2, w_Prog E a (o + 25) x.1.2.2.2.1, w_Chord E a (o + 31) x.1.2.2.2.2, w_Key E a (o + 34) x.2.1, w_Line E a (o + 35) x.2.2.1, w_Hist E a (o + 37) x.1.2.2.1]) (L' := [w_VBR a o x.2.2.2.1 x.2.2.2.2.1 x.2.2.2.2.2, w_ValleyR a (o + 1), w_Key E a (o + 2) x.1.1.1, w_Bells E a (o + 3) x.1.1.2.1, w_Mel E a (o + 6) x.1.1.2.2.1, w_Cliffs E a (o + 10) x.1.1.2.2.2, w_ValleyR a (o + 13), w_Key E a (o + 14) x.1.2.1.1, w_Bells E a (o + 15) x.1.2.1.2.1, w_Mel E a (o + 18) x.1.2.1.2.2.1, w_Cliffs E a (o + 22) x.1.2.1.2.2.2, w_Prog E a (o + 25) x.1.2.2.2.1, w_Chord E a (o + 31) x.1.2.2.2.2, w_Key E a (o + 34) x.2.1, w_Line E a (o + 35) x.2.2.1, w_Hist E a (o + 37) x.1.2.2.1]) (vx_runV (As := [.int p1]) (rest := []) ⟨hx, hb, hml, hown, ha⟩ (k_X10_requireBell l E a o x p1 q1 hq1 H.size hlt) (cwV 1 ha (gi_V (fun _ h => h) mw659 mw661 mw4 mw26 mw662) rfl rfl rfl hv_X10_requireBell ⟨(Nat.le_of_ble_eq_true rfl), (Nat.le_of_ble_eq_true rfl)⟩) ⟨pre_blind, va_recv hst.k (fr_P hP [0, 1, 2, 3, 4, 5, 6, 7, 8, 9, 10, 11, 12, 13, 14, 15] rfl) (ci := 11) (q0 := 0) rfl rfl, pre_at hP hD hS hz hzs hst [0, 1, 2, 3, 4, 5, 6, 7, 8, 9, 10, 11, 12, 13, 14, 15] (by decide) rfl rfl⟩ rfl rfl hl.1 rfl (lv_room (Nat.le_of_ble_eq_true rfl)) dX10_isInKey_2 ⟨(Nat.le_of_ble_eq_true rfl), (Nat.le_of_ble_eq_true rfl)⟩) hP hD hS hA [0, 1, 2, 3, 4, 5, 6, 7, 8, 9, 10, 11, 12, 13, 14, 15] (by decide) rfl rfl rfl rfl (fun X ce q9 H locs eX h1 h2 h3 hP hD hS => ?_) (fun r2 H locs er2 hP hD hS => ?_)
  · have hF := q_smr eX hF
    obtain rfl := Option.some.inj hF
    exact en_out hQ (Nat.le_of_ble_eq_true rfl) (Nat.le_of_ble_eq_true rfl) hexc hlocks h1 h2 h3 hP hD hS rfl
  have hF := q_sml er2 hF
  refine lv_aload_n hx hb dX10_isInKey_5 rfl (lv_at hl 0 rfl) ?_
  refine va_get (D := E.1) (ci := 11) (v := .ref (a (o + 1))) (C := RX10) (T := TX10) (N := 10) hx hb ha in_X10 hown hst.k hP 0 rfl rfl 0 (by decide) (ha _ mw284) (fun _ h9 => h9) rfl dX10_isInKey_6 ?_
  refine va_getN (D := E.1) (ci := 10) (v := .ref (a (o + 2))) (C := RX9) (T := TX9) (N := 4) hx hb ha in_X9 hown hst.k hP 1 rfl rfl 0 (by decide) (va_Nw.use rfl (nf15 hst)) (fun _ h9 => h9) rfl dX10_isInKey_9 ?_
  refine lv_aload_n hx hb dX10_isInKey_12 rfl (lv_at hl 0 rfl) ?_
  refine va_get (D := E.1) (ci := 11) (v := .ref (a (o + 1))) (C := RX10) (T := TX10) (N := 10) hx hb ha in_X10 hown hst.k hP 0 rfl rfl 0 (by decide) (ha _ mw284) (fun _ h9 => h9) rfl dX10_isInKey_13 ?_
  refine va_getN (D := E.1) (ci := 10) (v := .ref (a (o + 3))) (C := RX9) (T := TX9) (N := 4) hx hb ha in_X9 hown hst.k hP 1 rfl rfl 1 (by decide) (va_Nw.use rfl (nf17 hst)) (fun _ h9 => h9) rfl dX10_isInKey_16 ?_
  refine va_getN (D := E.1) (ci := 3) (v := .ref (a (o + 5))) (C := RX1) (T := TX1) (N := 3) hx hb ha in_X1 hown hst.k hP 3 rfl rfl 1 (by decide) (va_Nw.use rfl (nf4 hst)) (fun _ h9 => h9) rfl dX10_isInKey_19 ?_
  refine lv_iload_n hx hb dX10_isInKey_22 rfl (lv_at hl 1 rfl) ?_
  obtain ⟨g3, hF⟩ := q_gdi hF
  refine vi_iald hx hb hst.k hP 5 0 rfl rfl (f := x.1.1.2.1.2.1) (k := p1.toNatClampNeg) rfl g3 dX10_isInKey_23 ?_
  obtain ⟨q4, hq4, hF⟩ := q_bdi hF
  refine cl_i (Lc := [w_Key E a (o + 2) x.1.1.1]) (Lc' := [w_Key E a (o + 2) x.1.1.1]) (L' := [w_VBR a o x.2.2.2.1 x.2.2.2.2.1 x.2.2.2.2.2, w_ValleyR a (o + 1), w_Key E a (o + 2) x.1.1.1, w_Bells E a (o + 3) x.1.1.2.1, w_Mel E a (o + 6) x.1.1.2.2.1, w_Cliffs E a (o + 10) x.1.1.2.2.2, w_ValleyR a (o + 13), w_Key E a (o + 14) x.1.2.1.1, w_Bells E a (o + 15) x.1.2.1.2.1, w_Mel E a (o + 18) x.1.2.1.2.2.1, w_Cliffs E a (o + 22) x.1.2.1.2.2.2, w_Prog E a (o + 25) x.1.2.2.2.1, w_Chord E a (o + 31) x.1.2.2.2.2, w_Key E a (o + 34) x.2.1, w_Line E a (o + 35) x.2.2.1, w_Hist E a (o + 37) x.1.2.2.1]) (rv := q4) (va_runV (As := [.int (x.1.1.2.1.2.1 (p1.toNatClampNeg))]) (rest := []) ⟨hx, hb, hml, hown, ha⟩ (k_X6_accepts l E a (o + 2) x.1.1.1 (x.1.1.2.1.2.1 (p1.toNatClampNeg)) q4 hq4 H.size) (cwV 1 ha (gi_V (fun _ h => h) mw687 mw416 mw417 mw28 mw418) rfl rfl rfl hv_X6_accepts ⟨(Nat.le_of_ble_eq_true rfl), (Nat.le_of_ble_eq_true rfl)⟩) ⟨pre_blind, va_recv hst.k (fr_P hP [2] rfl) (ci := 7) (q0 := 0) rfl rfl, pre_at hP hD hS hz hzs hst [2] (by decide) rfl rfl⟩ rfl rfl hl.1 rfl (lv_room (Nat.le_of_ble_eq_true rfl)) dX10_isInKey_24 ⟨(Nat.le_of_ble_eq_true rfl), (Nat.le_of_ble_eq_true rfl)⟩) hP hD hS hA [2] (by decide) rfl rfl rfl rfl (fun H locs hP hD hS => ?_)
  obtain ⟨g5, hF⟩ := q_gdi hF
  obtain rfl := Option.some.inj hF
  exact en_xz hQ (Nat.le_of_ble_eq_true rfl) (Nat.le_of_ble_eq_true rfl) hx hb hr hlocks (nz_b g5) hP hD hS rfl dX10_isInKey_27

/-! X10_isTuned -/
theorem dX10_isTuned_0 : decode cX10_isTuned 0 = .ok (.aload_n 0, 1) := by decide +kernel
theorem dX10_isTuned_1 : decode cX10_isTuned 1 = .ok (.getfield 10, 3) := by decide +kernel
theorem dX10_isTuned_4 : decode cX10_isTuned 4 = .ok (.getfield 108, 3) := by decide +kernel
theorem dX10_isTuned_7 : decode cX10_isTuned 7 = .ok (.aload_n 0, 1) := by decide +kernel
theorem dX10_isTuned_8 : decode cX10_isTuned 8 = .ok (.getfield 10, 3) := by decide +kernel
theorem dX10_isTuned_11 : decode cX10_isTuned 11 = .ok (.getfield 135, 3) := by decide +kernel
theorem dX10_isTuned_14 : decode cX10_isTuned 14 = .ok (.invokevirtual 142, 3) := by decide +kernel
theorem dX10_isTuned_17 : decode cX10_isTuned 17 = .ok (.aload_n 0, 1) := by decide +kernel
theorem dX10_isTuned_18 : decode cX10_isTuned 18 = .ok (.getfield 10, 3) := by decide +kernel
theorem dX10_isTuned_21 : decode cX10_isTuned 21 = .ok (.getfield 108, 3) := by decide +kernel
theorem dX10_isTuned_24 : decode cX10_isTuned 24 = .ok (.getfield 112, 3) := by decide +kernel
theorem dX10_isTuned_27 : decode cX10_isTuned 27 = .ok (.if_icmp .ne 7, 3) := by decide +kernel
theorem dX10_isTuned_30 : decode cX10_isTuned 30 = .ok (.iconst 1, 1) := by decide +kernel
theorem dX10_isTuned_31 : decode cX10_isTuned 31 = .ok (.goto 4, 3) := by decide +kernel
theorem dX10_isTuned_34 : decode cX10_isTuned 34 = .ok (.iconst 0, 1) := by decide +kernel
theorem dX10_isTuned_35 : decode cX10_isTuned 35 = .ok (.ireturn, 1) := by decide +kernel
def f_X10_isTuned (x_valley_key_tonic : Int32) (x_valley_key_isMinor : Int32) (x_valley_key_tolerance : Int32) (x_valley_bells_pitches : (Nat → Int32)) (x_valley_bells_count : Int32) : Option (Int32) :=
  q_bd (f_X1_countIn x_valley_bells_pitches x_valley_bells_count x_valley_key_tonic x_valley_key_isMinor x_valley_key_tolerance) (fun q1 =>
  q_br (q1 = x_valley_bells_count) (
  some 1) (
  some 0))
theorem hv_X10_isTuned : yX10_isTuned.cls = RX10 ∧ yX10_isTuned.cls ≠ "java/lang/invoke/MethodHandle" ∧ yX10_isTuned.cls ≠ "java/lang/invoke/VarHandle" ∧ (parseMethodDescriptor yX10_isTuned.desc).map (fun d => d.parameters.length) = some 0 := by decide +kernel
abbrev rm_X10_isTuned : Room := { frames := 5, cells := 0, slots := 0, locals := 108 }
set_option maxHeartbeats 4000000 in
set_option maxRecDepth 100000 in
theorem k_X10_isTuned (l : Launch) (E : ET) (a : Nat → Nat) (o : Nat) (x : VB_t) (res : Int32) (hF : f_X10_isTuned x.1.1.1.1 x.1.1.1.2.1 x.1.1.1.2.2 x.1.1.2.1.2.1 x.1.1.2.1.2.2 = some res) (sz : Nat) : CtI l yX10_isTuned (mws yX10_isTuned cX10_isTuned 1 (some .boolean)) rm_X10_isTuned 0 0 [.ref (a o)] E (bl_VB E a o x) res (bl_VB E a o x) sz := by
  refine mk_M (by decide +kernel) (Nat.le_of_ble_eq_true rfl) ?_
  intro p e s m below meth c A args Q ls hAe hsz hQ hx hb hr hml hin ha hown hlocks hA hz hzs hst hP hD hS hl
  have hown : s.vm.findClass RX10 = some m.cls := hown
  rw [hAe] at hQ
  subst hsz
  have hP : va_P E.1 vwCl (List.flatten [w_VBR a o x.2.2.2.1 x.2.2.2.2.1 x.2.2.2.2.2, w_ValleyR a (o + 1), w_Key E a (o + 2) x.1.1.1, w_Bells E a (o + 3) x.1.1.2.1, w_Mel E a (o + 6) x.1.1.2.2.1, w_Cliffs E a (o + 10) x.1.1.2.2.2, w_ValleyR a (o + 13), w_Key E a (o + 14) x.1.2.1.1, w_Bells E a (o + 15) x.1.2.1.2.1, w_Mel E a (o + 18) x.1.2.1.2.2.1, w_Cliffs E a (o + 22) x.1.2.1.2.2.2, w_Prog E a (o + 25) x.1.2.2.2.1, w_Chord E a (o + 31) x.1.2.2.2.2, w_Key E a (o + 34) x.2.1, w_Line E a (o + 35) x.2.2.1, w_Hist E a (o + 37) x.1.2.2.1]) s.heap := hP
  have hD : va_D A (List.flatten [w_VBR a o x.2.2.2.1 x.2.2.2.2.1 x.2.2.2.2.2, w_ValleyR a (o + 1), w_Key E a (o + 2) x.1.1.1, w_Bells E a (o + 3) x.1.1.2.1, w_Mel E a (o + 6) x.1.1.2.2.1, w_Cliffs E a (o + 10) x.1.1.2.2.2, w_ValleyR a (o + 13), w_Key E a (o + 14) x.1.2.1.1, w_Bells E a (o + 15) x.1.2.1.2.1, w_Mel E a (o + 18) x.1.2.1.2.2.1, w_Cliffs E a (o + 22) x.1.2.1.2.2.2, w_Prog E a (o + 25) x.1.2.2.2.1, w_Chord E a (o + 31) x.1.2.2.2.2, w_Key E a (o + 34) x.2.1, w_Line E a (o + 35) x.2.2.1, w_Hist E a (o + 37) x.1.2.2.1]) := hD
  have hl : lv_has ls 1 [(0, .ref (a o))] := hl
  generalize hHe : s.heap = H at hP
  have hS : va_S A s.heap H [] := by rw [← hHe]; exact hS
  generalize ([] : List Loc) = locs at hS ⊢
  unfold f_X10_isTuned at hF
  refine lv_aload_n hx hb dX10_isTuned_0 rfl (lv_at hl 0 rfl) ?_
  refine va_get (D := E.1) (ci := 11) (v := .ref (a (o + 1))) (C := RX10) (T := TX10) (N := 10) hx hb ha in_X10 hown hst.k hP 0 rfl rfl 0 (by decide) (ha _ mw284) (fun _ h9 => h9) rfl dX10_isTuned_1 ?_
  refine va_getN (D := E.1) (ci := 10) (v := .ref (a (o + 3))) (C := RX9) (T := TX9) (N := 4) hx hb ha in_X9 hown hst.k hP 1 rfl rfl 1 (by decide) (va_Nw.use rfl (nf17 hst)) (fun _ h9 => h9) rfl dX10_isTuned_4 ?_
  refine lv_aload_n hx hb dX10_isTuned_7 rfl (lv_at hl 0 rfl) ?_
  refine va_get (D := E.1) (ci := 11) (v := .ref (a (o + 1))) (C := RX10) (T := TX10) (N := 10) hx hb ha in_X10 hown hst.k hP 0 rfl rfl 0 (by decide) (ha _ mw284) (fun _ h9 => h9) rfl dX10_isTuned_8 ?_
  refine va_getN (D := E.1) (ci := 10) (v := .ref (a (o + 2))) (C := RX9) (T := TX9) (N := 4) hx hb ha in_X9 hown hst.k hP 1 rfl rfl 0 (by decide) (va_Nw.use rfl (nf15 hst)) (fun _ h9 => h9) rfl dX10_isTuned_11 ?_
  obtain ⟨q1, hq1, hF⟩ := q_bdi hF
  refine cl_i (Lc := [w_Bells E a (o + 3) x.1.1.2.1, w_Key E a (o + 2) x.1.1.1]) (Lc' := [w_Bells E a (o + 3) x.1.1.2.1, w_Key E a (o + 2) x.1.1.1]) (L' := [w_VBR a o x.2.2.2.1 x.2.2.2.2.1 x.2.2.2.2.2, w_ValleyR a (o + 1), w_Key E a (o + 2) x.1.1.1, w_Bells E a (o + 3) x.1.1.2.1, w_Mel E a (o + 6) x.1.1.2.2.1, w_Cliffs E a (o + 10) x.1.1.2.2.2, w_ValleyR a (o + 13), w_Key E a (o + 14) x.1.2.1.1, w_Bells E a (o + 15) x.1.2.1.2.1, w_Mel E a (o + 18) x.1.2.1.2.2.1, w_Cliffs E a (o + 22) x.1.2.1.2.2.2, w_Prog E a (o + 25) x.1.2.2.2.1, w_Chord E a (o + 31) x.1.2.2.2.2, w_Key E a (o + 34) x.2.1, w_Line E a (o + 35) x.2.2.1, w_Hist E a (o + 37) x.1.2.2.1]) (rv := q1) (va_runV (As := [.ref (a (o + 2))]) (rest := []) ⟨hx, hb, hml, hown, ha⟩ (k_X1_countIn l E a (o + 3) x.1.1.2.1 a (o + 2) x.1.1.1 q1 hq1 H.size) (cwV 1 ha (gi_V (fun _ h => h) mw692 mw412 mw413 mw29 mw414) rfl rfl rfl hv_X1_countIn ⟨(Nat.le_of_ble_eq_true rfl), (Nat.le_of_ble_eq_true rfl)⟩) ⟨pre_blind, va_recv hst.k (fr_P hP [3, 2] rfl) (ci := 3) (q0 := 0) rfl rfl, pre_at hP hD hS hz hzs hst [3, 2] (by decide) rfl rfl⟩ rfl rfl hl.1 rfl (lv_room (Nat.le_of_ble_eq_true rfl)) dX10_isTuned_14 ⟨(Nat.le_of_ble_eq_true rfl), (Nat.le_of_ble_eq_true rfl)⟩) hP hD hS hA [3, 2] (by decide) rfl rfl rfl rfl (fun H locs hP hD hS => ?_)
  refine lv_aload_n hx hb dX10_isTuned_17 rfl (lv_at hl 0 rfl) ?_
  refine va_get (D := E.1) (ci := 11) (v := .ref (a (o + 1))) (C := RX10) (T := TX10) (N := 10) hx hb ha in_X10 hown hst.k hP 0 rfl rfl 0 (by decide) (ha _ mw284) (fun _ h9 => h9) rfl dX10_isTuned_18 ?_
  refine va_getN (D := E.1) (ci := 10) (v := .ref (a (o + 3))) (C := RX9) (T := TX9) (N := 4) hx hb ha in_X9 hown hst.k hP 1 rfl rfl 1 (by decide) (va_Nw.use rfl (nf17 hst)) (fun _ h9 => h9) rfl dX10_isTuned_21 ?_
  refine va_getN (D := E.1) (ci := 3) (v := .int x.1.1.2.1.2.2) (C := RX1) (T := TX1) (N := 3) hx hb ha in_X1 hown hst.k hP 3 rfl rfl 2 (by decide) (va_Nw.use rfl (nf5 hst)) (fun _ h9 => h9) rfl dX10_isTuned_24 ?_
  refine lv_icmp_ne (tgt := 34) hx hb dX10_isTuned_27 (by decide) (fun c27 => ?_) (fun c27 => ?_)
  · have hF := q_brn c27 hF
    refine lv_iconst (v := 0) hx hb dX10_isTuned_34 (by decide) ?_
    obtain rfl := Option.some.inj hF
    exact en_z hQ (Nat.le_of_ble_eq_true rfl) (Nat.le_of_ble_eq_true rfl) hx hb hr hlocks (by decide) hP hD hS rfl dX10_isTuned_35
  · have hF := q_brp c27 hF
    refine lv_iconst (v := 1) hx hb dX10_isTuned_30 (by decide) ?_
    refine lv_goto (tgt := 35) hx hb dX10_isTuned_31 (by decide) ?_
    obtain rfl := Option.some.inj hF
    exact en_z hQ (Nat.le_of_ble_eq_true rfl) (Nat.le_of_ble_eq_true rfl) hx hb hr hlocks (by decide) hP hD hS rfl dX10_isTuned_35

/-! X10_centsToKey -/
theorem dX10_centsToKey_0 : decode cX10_centsToKey 0 = .ok (.aload_n 0, 1) := by decide +kernel
theorem dX10_centsToKey_1 : decode cX10_centsToKey 1 = .ok (.iload_n 1, 1) := by decide +kernel
theorem dX10_centsToKey_2 : decode cX10_centsToKey 2 = .ok (.invokevirtual 117, 3) := by decide +kernel
theorem dX10_centsToKey_5 : decode cX10_centsToKey 5 = .ok (.aload_n 0, 1) := by decide +kernel
theorem dX10_centsToKey_6 : decode cX10_centsToKey 6 = .ok (.getfield 10, 3) := by decide +kernel
theorem dX10_centsToKey_9 : decode cX10_centsToKey 9 = .ok (.getfield 135, 3) := by decide +kernel
theorem dX10_centsToKey_12 : decode cX10_centsToKey 12 = .ok (.aload_n 0, 1) := by decide +kernel
theorem dX10_centsToKey_13 : decode cX10_centsToKey 13 = .ok (.getfield 10, 3) := by decide +kernel
theorem dX10_centsToKey_16 : decode cX10_centsToKey 16 = .ok (.getfield 108, 3) := by decide +kernel
theorem dX10_centsToKey_19 : decode cX10_centsToKey 19 = .ok (.getfield 125, 3) := by decide +kernel
theorem dX10_centsToKey_22 : decode cX10_centsToKey 22 = .ok (.iload_n 1, 1) := by decide +kernel
theorem dX10_centsToKey_23 : decode cX10_centsToKey 23 = .ok (.iaload, 1) := by decide +kernel
theorem dX10_centsToKey_24 : decode cX10_centsToKey 24 = .ok (.invokevirtual 146, 3) := by decide +kernel
theorem dX10_centsToKey_27 : decode cX10_centsToKey 27 = .ok (.ireturn, 1) := by decide +kernel
def f_X10_centsToKey (x_valley_key_tonic : Int32) (x_valley_key_isMinor : Int32) (x_valley_bells_pitches : (Nat → Int32)) (x_valley_bells_count : Int32) (p1 : Int32) : Option ((Int32 ⊕ String)) :=
  q_bd (f_X10_requireBell x_valley_bells_count p1) (fun q1 =>
  q_sm q1 (fun X => some (Sum.inr X)) (fun r2 =>
  q_gd (q_in p1 12) (
  q_bd (f_X6_centsByTrial x_valley_key_tonic x_valley_key_isMinor (x_valley_bells_pitches (p1.toNatClampNeg))) (fun q4 =>
  some (Sum.inl q4)))))
theorem hv_X10_centsToKey : yX10_centsToKey.cls = RX10 ∧ yX10_centsToKey.cls ≠ "java/lang/invoke/MethodHandle" ∧ yX10_centsToKey.cls ≠ "java/lang/invoke/VarHandle" ∧ (parseMethodDescriptor yX10_centsToKey.desc).map (fun d => d.parameters.length) = some 1 := by decide +kernel
abbrev rm_X10_centsToKey : Room := { frames := 7, cells := 1, slots := 6, locals := 107 }
set_option maxHeartbeats 4000000 in
set_option maxRecDepth 100000 in
theorem k_X10_centsToKey (l : Launch) (E : ET) (a : Nat → Nat) (o : Nat) (x : VB_t) (p1 : Int32) (res : (Int32 ⊕ String)) (hF : f_X10_centsToKey x.1.1.1.1 x.1.1.1.2.1 x.1.1.2.1.2.1 x.1.1.2.1.2.2 p1 = some res) (sz : Nat) (hlt : l.stackTraces = false) : CxI l yX10_centsToKey (mws yX10_centsToKey cX10_centsToKey 2 (some .int)) rm_X10_centsToKey 1 6 [.ref (a o), .int p1] E (bl_VB E a o x) res (bl_VB E a o x) sz := by
  refine mk_X (by decide +kernel) (Nat.le_of_ble_eq_true rfl) ?_
  intro p e s m below meth c A args Q ls hAe hsz hQ hx hb hr hml hin ha hown hlocks hA hz hzs hst hexc hP hD hS hl
  have hown : s.vm.findClass RX10 = some m.cls := hown
  rw [hAe] at hQ
  subst hsz
  have hP : va_P E.1 vwCl (List.flatten [w_VBR a o x.2.2.2.1 x.2.2.2.2.1 x.2.2.2.2.2, w_ValleyR a (o + 1), w_Key E a (o + 2) x.1.1.1, w_Bells E a (o + 3) x.1.1.2.1, w_Mel E a (o + 6) x.1.1.2.2.1, w_Cliffs E a (o + 10) x.1.1.2.2.2, w_ValleyR a (o + 13), w_Key E a (o + 14) x.1.2.1.1, w_Bells E a (o + 15) x.1.2.1.2.1, w_Mel E a (o + 18) x.1.2.1.2.2.1, w_Cliffs E a (o + 22) x.1.2.1.2.2.2, w_Prog E a (o + 25) x.1.2.2.2.1, w_Chord E a (o + 31) x.1.2.2.2.2, w_Key E a (o + 34) x.2.1, w_Line E a (o + 35) x.2.2.1, w_Hist E a (o + 37) x.1.2.2.1]) s.heap := hP
  have hD : va_D A (List.flatten [w_VBR a o x.2.2.2.1 x.2.2.2.2.1 x.2.2.2.2.2, w_ValleyR a (o + 1), w_Key E a (o + 2) x.1.1.1, w_Bells E a (o + 3) x.1.1.2.1, w_Mel E a (o + 6) x.1.1.2.2.1, w_Cliffs E a (o + 10) x.1.1.2.2.2, w_ValleyR a (o + 13), w_Key E a (o + 14) x.1.2.1.1, w_Bells E a (o + 15) x.1.2.1.2.1, w_Mel E a (o + 18) x.1.2.1.2.2.1, w_Cliffs E a (o + 22) x.1.2.1.2.2.2, w_Prog E a (o + 25) x.1.2.2.2.1, w_Chord E a (o + 31) x.1.2.2.2.2, w_Key E a (o + 34) x.2.1, w_Line E a (o + 35) x.2.2.1, w_Hist E a (o + 37) x.1.2.2.1]) := hD
  have hl : lv_has ls 2 [(0, .ref (a o)), (1, .int p1)] := hl
  generalize hHe : s.heap = H at hP
  have hS : va_S A s.heap H [] := by rw [← hHe]; exact hS
  generalize ([] : List Loc) = locs at hS ⊢
  unfold f_X10_centsToKey at hF
  refine lv_aload_n hx hb dX10_centsToKey_0 rfl (lv_at hl 0 rfl) ?_
  refine lv_iload_n hx hb dX10_centsToKey_1 rfl (lv_at hl 1 rfl) ?_
  obtain ⟨q1, hq1, hF⟩ := q_bdi hF
  refine cx_v (ro := q1) (Lc := [w_VBR a o x.2.2.2.1 x.2.2.2.2.1 x.2.2.2.2.2, w_ValleyR a (o + 1), w_Key E a (o + 2) x.1.1.1, w_Bells E a (o + 3) x.1.1.2.1, w_Mel E a (o + 6) x.1.1.2.2.1, w_Cliffs E a (o + 10) x.1.1.2.2.2, w_ValleyR a (o + 13), w_Key E a (o + 14) x.1.2.1.1, w_Bells E a (o + 15) x.1.2.1.2.1, w_Mel E a (o + 18) x.1.2.1.2.2.1, w_Cliffs E a (o + 22) x.1.2.1.2.2.2, w_Prog E a (o + 25) x.1.2.2.2.1, w_Chord E a (o + 31) x.1.2.2.2.2, w_Key E a (o + 34) x.2.1, w_Line E a (o + 35) x.2.2.1, w_Hist E a (o + 37) x.1.2.2.1]) (Lc' := [w_VBR a o x.2.2.2.1 x.2.2.2.2.1 x.2.2.2.2.2, w_ValleyR a (o + 1), w_Key E a (o + 2) x.1.1.1, w_Bells E a (o + 3) x.1.1.2.1, w_Mel E a (o + 6) x.1.1.2.2.1, w_Cliffs E a (o + 10) x.1.1.2.2.2, w_ValleyR a (o + 13), w_Key E a (o + 14) x.1.2.1.1, w_Bells E a (o + 15) x.1.2.1.2.1, w_Mel E a (o + 18) x.1.2.1.2.2.1, w_Cliffs E a (o + 22) x.1.2.1.2.2.2, w_Prog E a (o + 25) x.1.2.2.2.1, w_Chord E a (o + 31) x.1.2.2.2.2, w_Key E a (o + 34) x.2.1, w_Line E a (o + 35) x.2.2.1, w_Hist E a (o + 37) x.1.2.2.1]) (L' := [w_VBR a o x.2.2.2.1 x.2.2.2.2.1 x.2.2.2.2.2, w_ValleyR a (o + 1), w_Key E a (o + 2) x.1.1.1, w_Bells E a (o + 3) x.1.1.2.1, w_Mel E a (o + 6) x.1.1.2.2.1, w_Cliffs E a (o + 10) x.1.1.2.2.2, w_ValleyR a (o + 13), w_Key E a (o + 14) x.1.2.1.1, w_Bells E a (o + 15) x.1.2.1.2.1, w_Mel E a (o + 18) x.1.2.1.2.2.1, w_Cliffs E a (o + 22) x.1.2.1.2.2.2, w_Prog E a (o + 25) x.1.2.2.2.1, w_Chord E a (o + 31) x.1.2.2.2.2, w_Key E a (o + 34) x.2.1, w_Line E a (o + 35) x.2.2.1, w_Hist E a (o + 37) x.1.2.2.1]) (vx_runV (As := [.int p1]) (rest := []) ⟨hx, hb, hml, hown, ha⟩ (k_X10_requireBell l E a o x p1 q1 hq1 H.size hlt) (cwV 1 ha (gi_V (fun _ h => h) mw659 mw661 mw4 mw26 mw662) rfl rfl rfl hv_X10_requireBell ⟨(Nat.le_of_ble_eq_true rfl), (Nat.le_of_ble_eq_true rfl)⟩) ⟨pre_blind, va_recv hst.k (fr_P hP [0, 1, 2, 3, 4, 5, 6, 7, 8, 9, 10, 11, 12, 13, 14, 15] rfl) (ci := 11) (q0 := 0) rfl rfl, pre_at hP hD hS hz hzs hst [0, 1, 2, 3, 4, 5, 6, 7, 8, 9, 10, 11, 12, 13, 14, 15] (by decide) rfl rfl⟩ rfl rfl hl.1 rfl (lv_room (Nat.le_of_ble_eq_true rfl)) dX10_centsToKey_2 ⟨(Nat.le_of_ble_eq_true rfl), (Nat.le_of_ble_eq_true rfl)⟩) hP hD hS hA [0, 1, 2, 3, 4, 5, 6, 7, 8, 9, 10, 11, 12, 13, 14, 15] (by decide) rfl rfl rfl rfl (fun X ce q9 H locs eX h1 h2 h3 hP hD hS => ?_) (fun r2 H locs er2 hP hD hS => ?_)
  · have hF := q_smr eX hF
    obtain rfl := Option.some.inj hF
    exact en_out hQ (Nat.le_of_ble_eq_true rfl) (Nat.le_of_ble_eq_true rfl) hexc hlocks h1 h2 h3 hP hD hS rfl
  have hF := q_sml er2 hF
  refine lv_aload_n hx hb dX10_centsToKey_5 rfl (lv_at hl 0 rfl) ?_
  refine va_get (D := E.1) (ci := 11) (v := .ref (a (o + 1))) (C := RX10) (T := TX10) (N := 10) hx hb ha in_X10 hown hst.k hP 0 rfl rfl 0 (by decide) (ha _ mw284) (fun _ h9 => h9) rfl dX10_centsToKey_6 ?_
  refine va_getN (D := E.1) (ci := 10) (v := .ref (a (o + 2))) (C := RX9) (T := TX9) (N := 4) hx hb ha in_X9 hown hst.k hP 1 rfl rfl 0 (by decide) (va_Nw.use rfl (nf15 hst)) (fun _ h9 => h9) rfl dX10_centsToKey_9 ?_
  refine lv_aload_n hx hb dX10_centsToKey_12 rfl (lv_at hl 0 rfl) ?_
  refine va_get (D := E.1) (ci := 11) (v := .ref (a (o + 1))) (C := RX10) (T := TX10) (N := 10) hx hb ha in_X10 hown hst.k hP 0 rfl rfl 0 (by decide) (ha _ mw284) (fun _ h9 => h9) rfl dX10_centsToKey_13 ?_
  refine va_getN (D := E.1) (ci := 10) (v := .ref (a (o + 3))) (C := RX9) (T := TX9) (N := 4) hx hb ha in_X9 hown hst.k hP 1 rfl rfl 1 (by decide) (va_Nw.use rfl (nf17 hst)) (fun _ h9 => h9) rfl dX10_centsToKey_16 ?_
  refine va_getN (D := E.1) (ci := 3) (v := .ref (a (o + 5))) (C := RX1) (T := TX1) (N := 3) hx hb ha in_X1 hown hst.k hP 3 rfl rfl 1 (by decide) (va_Nw.use rfl (nf4 hst)) (fun _ h9 => h9) rfl dX10_centsToKey_19 ?_
  refine lv_iload_n hx hb dX10_centsToKey_22 rfl (lv_at hl 1 rfl) ?_
  obtain ⟨g3, hF⟩ := q_gdi hF
  refine vi_iald hx hb hst.k hP 5 0 rfl rfl (f := x.1.1.2.1.2.1) (k := p1.toNatClampNeg) rfl g3 dX10_centsToKey_23 ?_
  obtain ⟨q4, hq4, hF⟩ := q_bdi hF
  refine cl_i (Lc := [w_Key E a (o + 2) x.1.1.1]) (Lc' := [w_Key E a (o + 2) x.1.1.1]) (L' := [w_VBR a o x.2.2.2.1 x.2.2.2.2.1 x.2.2.2.2.2, w_ValleyR a (o + 1), w_Key E a (o + 2) x.1.1.1, w_Bells E a (o + 3) x.1.1.2.1, w_Mel E a (o + 6) x.1.1.2.2.1, w_Cliffs E a (o + 10) x.1.1.2.2.2, w_ValleyR a (o + 13), w_Key E a (o + 14) x.1.2.1.1, w_Bells E a (o + 15) x.1.2.1.2.1, w_Mel E a (o + 18) x.1.2.1.2.2.1, w_Cliffs E a (o + 22) x.1.2.1.2.2.2, w_Prog E a (o + 25) x.1.2.2.2.1, w_Chord E a (o + 31) x.1.2.2.2.2, w_Key E a (o + 34) x.2.1, w_Line E a (o + 35) x.2.2.1, w_Hist E a (o + 37) x.1.2.2.1]) (rv := q4) (va_runV (As := [.int (x.1.1.2.1.2.1 (p1.toNatClampNeg))]) (rest := []) ⟨hx, hb, hml, hown, ha⟩ (k_X6_centsByTrial l E a (o + 2) x.1.1.1 (x.1.1.2.1.2.1 (p1.toNatClampNeg)) q4 hq4 H.size) (cwV 1 ha (gi_V (fun _ h => h) mw697 mw698 mw699 mw28 mw700) rfl rfl rfl hv_X6_centsByTrial ⟨(Nat.le_of_ble_eq_true rfl), (Nat.le_of_ble_eq_true rfl)⟩) ⟨pre_blind, va_recv hst.k (fr_P hP [2] rfl) (ci := 7) (q0 := 0) rfl rfl, pre_at hP hD hS hz hzs hst [2] (by decide) rfl rfl⟩ rfl rfl hl.1 rfl (lv_room (Nat.le_of_ble_eq_true rfl)) dX10_centsToKey_24 ⟨(Nat.le_of_ble_eq_true rfl), (Nat.le_of_ble_eq_true rfl)⟩) hP hD hS hA [2] (by decide) rfl rfl rfl rfl (fun H locs hP hD hS => ?_)
  obtain rfl := Option.some.inj hF
  exact en_xi hQ (Nat.le_of_ble_eq_true rfl) (Nat.le_of_ble_eq_true rfl) hx hb hr hlocks hP hD hS rfl dX10_centsToKey_27

/-! X10_centsToKeyByNotes -/
theorem dX10_centsToKeyByNotes_0 : decode cX10_centsToKeyByNotes 0 = .ok (.aload_n 0, 1) := by decide +kernel
theorem dX10_centsToKeyByNotes_1 : decode cX10_centsToKeyByNotes 1 = .ok (.iload_n 1, 1) := by decide +kernel
theorem dX10_centsToKeyByNotes_2 : decode cX10_centsToKeyByNotes 2 = .ok (.invokevirtual 117, 3) := by decide +kernel
theorem dX10_centsToKeyByNotes_5 : decode cX10_centsToKeyByNotes 5 = .ok (.aload_n 0, 1) := by decide +kernel
theorem dX10_centsToKeyByNotes_6 : decode cX10_centsToKeyByNotes 6 = .ok (.getfield 10, 3) := by decide +kernel
theorem dX10_centsToKeyByNotes_9 : decode cX10_centsToKeyByNotes 9 = .ok (.getfield 135, 3) := by decide +kernel
theorem dX10_centsToKeyByNotes_12 : decode cX10_centsToKeyByNotes 12 = .ok (.aload_n 0, 1) := by decide +kernel
theorem dX10_centsToKeyByNotes_13 : decode cX10_centsToKeyByNotes 13 = .ok (.getfield 10, 3) := by decide +kernel
theorem dX10_centsToKeyByNotes_16 : decode cX10_centsToKeyByNotes 16 = .ok (.getfield 108, 3) := by decide +kernel
theorem dX10_centsToKeyByNotes_19 : decode cX10_centsToKeyByNotes 19 = .ok (.getfield 125, 3) := by decide +kernel
theorem dX10_centsToKeyByNotes_22 : decode cX10_centsToKeyByNotes 22 = .ok (.iload_n 1, 1) := by decide +kernel
theorem dX10_centsToKeyByNotes_23 : decode cX10_centsToKeyByNotes 23 = .ok (.iaload, 1) := by decide +kernel
theorem dX10_centsToKeyByNotes_24 : decode cX10_centsToKeyByNotes 24 = .ok (.invokevirtual 149, 3) := by decide +kernel
theorem dX10_centsToKeyByNotes_27 : decode cX10_centsToKeyByNotes 27 = .ok (.ireturn, 1) := by decide +kernel
def f_X10_centsToKeyByNotes (x_valley_key_tonic : Int32) (x_valley_key_isMinor : Int32) (x_valley_bells_pitches : (Nat → Int32)) (x_valley_bells_count : Int32) (p1 : Int32) : Option ((Int32 ⊕ String)) :=
  q_bd (f_X10_requireBell x_valley_bells_count p1) (fun q1 =>
  q_sm q1 (fun X => some (Sum.inr X)) (fun r2 =>
  q_gd (q_in p1 12) (
  q_bd (f_X6_centsByNotes x_valley_key_tonic x_valley_key_isMinor (x_valley_bells_pitches (p1.toNatClampNeg))) (fun q4 =>
  some (Sum.inl q4)))))
theorem hv_X10_centsToKeyByNotes : yX10_centsToKeyByNotes.cls = RX10 ∧ yX10_centsToKeyByNotes.cls ≠ "java/lang/invoke/MethodHandle" ∧ yX10_centsToKeyByNotes.cls ≠ "java/lang/invoke/VarHandle" ∧ (parseMethodDescriptor yX10_centsToKeyByNotes.desc).map (fun d => d.parameters.length) = some 1 := by decide +kernel
abbrev rm_X10_centsToKeyByNotes : Room := { frames := 7, cells := 1, slots := 6, locals := 110 }
set_option maxHeartbeats 4000000 in
set_option maxRecDepth 100000 in
theorem k_X10_centsToKeyByNotes (l : Launch) (E : ET) (a : Nat → Nat) (o : Nat) (x : VB_t) (p1 : Int32) (res : (Int32 ⊕ String)) (hF : f_X10_centsToKeyByNotes x.1.1.1.1 x.1.1.1.2.1 x.1.1.2.1.2.1 x.1.1.2.1.2.2 p1 = some res) (sz : Nat) (hlt : l.stackTraces = false) : CxI l yX10_centsToKeyByNotes (mws yX10_centsToKeyByNotes cX10_centsToKeyByNotes 2 (some .int)) rm_X10_centsToKeyByNotes 1 6 [.ref (a o), .int p1] E (bl_VB E a o x) res (bl_VB E a o x) sz := by
  refine mk_X (by decide +kernel) (Nat.le_of_ble_eq_true rfl) ?_
  intro p e s m below meth c A args Q ls hAe hsz hQ hx hb hr hml hin ha hown hlocks hA hz hzs hst hexc hP hD hS hl
  have hown : s.vm.findClass RX10 = some m.cls := hown
  rw [hAe] at hQ
  subst hsz
  have hP : va_P E.1 vwCl (List.flatten [w_VBR a o x.2.2.2.1 x.2.2.2.2.1 x.2.2.2.2.2, w_ValleyR a (o + 1), w_Key E a (o + 2) x.1.1.1, w_Bells E a (o + 3) x.1.1.2.1, w_Mel E a (o + 6) x.1.1.2.2.1, w_Cliffs E a (o + 10) x.1.1.2.2.2, w_ValleyR a (o + 13), w_Key E a (o + 14) x.1.2.1.1, w_Bells E a (o + 15) x.1.2.1.2.1, w_Mel E a (o + 18) x.1.2.1.2.2.1, w_Cliffs E a (o + 22) x.1.2.1.2.2.2, w_Prog E a (o + 25) x.1.2.2.2.1, w_Chord E a (o + 31) x.1.2.2.2.2, w_Key E a (o + 34) x.2.1, w_Line E a (o + 35) x.2.2.1, w_Hist E a (o + 37) x.1.2.2.1]) s.heap := hP
  have hD : va_D A (List.flatten [w_VBR a o x.2.2.2.1 x.2.2.2.2.1 x.2.2.2.2.2, w_ValleyR a (o + 1), w_Key E a (o + 2) x.1.1.1, w_Bells E a (o + 3) x.1.1.2.1, w_Mel E a (o + 6) x.1.1.2.2.1, w_Cliffs E a (o + 10) x.1.1.2.2.2, w_ValleyR a (o + 13), w_Key E a (o + 14) x.1.2.1.1, w_Bells E a (o + 15) x.1.2.1.2.1, w_Mel E a (o + 18) x.1.2.1.2.2.1, w_Cliffs E a (o + 22) x.1.2.1.2.2.2, w_Prog E a (o + 25) x.1.2.2.2.1, w_Chord E a (o + 31) x.1.2.2.2.2, w_Key E a (o + 34) x.2.1, w_Line E a (o + 35) x.2.2.1, w_Hist E a (o + 37) x.1.2.2.1]) := hD
  have hl : lv_has ls 2 [(0, .ref (a o)), (1, .int p1)] := hl
  generalize hHe : s.heap = H at hP
  have hS : va_S A s.heap H [] := by rw [← hHe]; exact hS
  generalize ([] : List Loc) = locs at hS ⊢
  unfold f_X10_centsToKeyByNotes at hF
  refine lv_aload_n hx hb dX10_centsToKeyByNotes_0 rfl (lv_at hl 0 rfl) ?_
  refine lv_iload_n hx hb dX10_centsToKeyByNotes_1 rfl (lv_at hl 1 rfl) ?_
  obtain ⟨q1, hq1, hF⟩ := q_bdi hF
  refine cx_v (ro := q1) (Lc := [w_VBR a o x.2.2.2.1 x.2.2.2.2.1 x.2.2.2.2.2, w_ValleyR a (o + 1), w_Key E a (o + 2) x.1.1.1, w_Bells E a (o + 3) x.1.1.2.1, w_Mel E a (o + 6) x.1.1.2.2.1, w_Cliffs E a (o + 10) x.1.1.2.2.2, w_ValleyR a (o + 13), w_Key E a (o + 14) x.1.2.1.1, w_Bells E a (o + 15) x.1.2.1.2.1, w_Mel E a (o + 18) x.1.2.1.2.2.1, w_Cliffs E a (o + 22) x.1.2.1.2.2.2, w_Prog E a (o + 25) x.1.2.2.2.1, w_Chord E a (o + 31) x.1.2.2.2.2, w_Key E a (o + 34) x.2.1, w_Line E a (o + 35) x.2.2.1, w_Hist E a (o + 37) x.1.2.2.1]) (Lc' := [w_VBR a o x.2.2.2.1 x.2.2.2.2.1 x.2.2.2.2.2, w_ValleyR a (o + 1), w_Key E a (o + 2) x.1.1.1, w_Bells E a (o + 3) x.1.1.2.1, w_Mel E a (o + 6) x.1.1.2.2.1, w_Cliffs E a (o + 10) x.1.1.2.2.2, w_ValleyR a (o + 13), w_Key E a (o + 14) x.1.2.1.1, w_Bells E a (o + 15) x.1.2.1.2.1, w_Mel E a (o + 18) x.1.2.1.2.2.1, w_Cliffs E a (o + 22) x.1.2.1.2.2.2, w_Prog E a (o + 25) x.1.2.2.2.1, w_Chord E a (o + 31) x.1.2.2.2.2, w_Key E a (o + 34) x.2.1, w_Line E a (o + 35) x.2.2.1, w_Hist E a (o + 37) x.1.2.2.1]) (L' := [w_VBR a o x.2.2.2.1 x.2.2.2.2.1 x.2.2.2.2.2, w_ValleyR a (o + 1), w_Key E a (o + 2) x.1.1.1, w_Bells E a (o + 3) x.1.1.2.1, w_Mel E a (o + 6) x.1.1.2.2.1, w_Cliffs E a (o + 10) x.1.1.2.2.2, w_ValleyR a (o + 13), w_Key E a (o + 14) x.1.2.1.1, w_Bells E a (o + 15) x.1.2.1.2.1, w_Mel E a (o + 18) x.1.2.1.2.2.1, w_Cliffs E a (o + 22) x.1.2.1.2.2.2, w_Prog E a (o + 25) x.1.2.2.2.1, w_Chord E a (o + 31) x.1.2.2.2.2, w_Key E a (o + 34) x.2.1, w_Line E a (o + 35) x.2.2.1, w_Hist E a (o + 37) x.1.2.2.1]) (vx_runV (As := [.int p1]) (rest := []) ⟨hx, hb, hml, hown, ha⟩ (k_X10_requireBell l E a o x p1 q1 hq1 H.size hlt) (cwV 1 ha (gi_V (fun _ h => h) mw659 mw661 mw4 mw26 mw662) rfl rfl rfl hv_X10_requireBell ⟨(Nat.le_of_ble_eq_true rfl), (Nat.le_of_ble_eq_true rfl)⟩) ⟨pre_blind, va_recv hst.k (fr_P hP [0, 1, 2, 3, 4, 5, 6, 7, 8, 9, 10, 11, 12, 13, 14, 15] rfl) (ci := 11) (q0 := 0) rfl rfl, pre_at hP hD hS hz hzs hst [0, 1, 2, 3, 4, 5, 6, 7, 8, 9, 10, 11, 12, 13, 14, 15] (by decide) rfl rfl⟩ rfl rfl hl.1 rfl (lv_room (Nat.le_of_ble_eq_true rfl)) dX10_centsToKeyByNotes_2 ⟨(Nat.le_of_ble_eq_true rfl), (Nat.le_of_ble_eq_true rfl)⟩) hP hD hS hA [0, 1, 2, 3, 4, 5, 6, 7, 8, 9, 10, 11, 12, 13, 14, 15] (by decide) rfl rfl rfl rfl (fun X ce q9 H locs eX h1 h2 h3 hP hD hS => ?_) (fun r2 H locs er2 hP hD hS => ?_)
  · have hF := q_smr eX hF
    obtain rfl := Option.some.inj hF
    exact en_out hQ (Nat.le_of_ble_eq_true rfl) (Nat.le_of_ble_eq_true rfl) hexc hlocks h1 h2 h3 hP hD hS rfl
  have hF := q_sml er2 hF
  refine lv_aload_n hx hb dX10_centsToKeyByNotes_5 rfl (lv_at hl 0 rfl) ?_
  refine va_get (D := E.1) (ci := 11) (v := .ref (a (o + 1))) (C := RX10) (T := TX10) (N := 10) hx hb ha in_X10 hown hst.k hP 0 rfl rfl 0 (by decide) (ha _ mw284) (fun _ h9 => h9) rfl dX10_centsToKeyByNotes_6 ?_
  refine va_getN (D := E.1) (ci := 10) (v := .ref (a (o + 2))) (C := RX9) (T := TX9) (N := 4) hx hb ha in_X9 hown hst.k hP 1 rfl rfl 0 (by decide) (va_Nw.use rfl (nf15 hst)) (fun _ h9 => h9) rfl dX10_centsToKeyByNotes_9 ?_
  refine lv_aload_n hx hb dX10_centsToKeyByNotes_12 rfl (lv_at hl 0 rfl) ?_
  refine va_get (D := E.1) (ci := 11) (v := .ref (a (o + 1))) (C := RX10) (T := TX10) (N := 10) hx hb ha in_X10 hown hst.k hP 0 rfl rfl 0 (by decide) (ha _ mw284) (fun _ h9 => h9) rfl dX10_centsToKeyByNotes_13 ?_
  refine va_getN (D := E.1) (ci := 10) (v := .ref (a (o + 3))) (C := RX9) (T := TX9) (N := 4) hx hb ha in_X9 hown hst.k hP 1 rfl rfl 1 (by decide) (va_Nw.use rfl (nf17 hst)) (fun _ h9 => h9) rfl dX10_centsToKeyByNotes_16 ?_
  refine va_getN (D := E.1) (ci := 3) (v := .ref (a (o + 5))) (C := RX1) (T := TX1) (N := 3) hx hb ha in_X1 hown hst.k hP 3 rfl rfl 1 (by decide) (va_Nw.use rfl (nf4 hst)) (fun _ h9 => h9) rfl dX10_centsToKeyByNotes_19 ?_
  refine lv_iload_n hx hb dX10_centsToKeyByNotes_22 rfl (lv_at hl 1 rfl) ?_
  obtain ⟨g3, hF⟩ := q_gdi hF
  refine vi_iald hx hb hst.k hP 5 0 rfl rfl (f := x.1.1.2.1.2.1) (k := p1.toNatClampNeg) rfl g3 dX10_centsToKeyByNotes_23 ?_
  obtain ⟨q4, hq4, hF⟩ := q_bdi hF
  refine cl_i (Lc := [w_Key E a (o + 2) x.1.1.1]) (Lc' := [w_Key E a (o + 2) x.1.1.1]) (L' := [w_VBR a o x.2.2.2.1 x.2.2.2.2.1 x.2.2.2.2.2, w_ValleyR a (o + 1), w_Key E a (o + 2) x.1.1.1, w_Bells E a (o + 3) x.1.1.2.1, w_Mel E a (o + 6) x.1.1.2.2.1, w_Cliffs E a (o + 10) x.1.1.2.2.2, w_ValleyR a (o + 13), w_Key E a (o + 14) x.1.2.1.1, w_Bells E a (o + 15) x.1.2.1.2.1, w_Mel E a (o + 18) x.1.2.1.2.2.1, w_Cliffs E a (o + 22) x.1.2.1.2.2.2, w_Prog E a (o + 25) x.1.2.2.2.1, w_Chord E a (o + 31) x.1.2.2.2.2, w_Key E a (o + 34) x.2.1, w_Line E a (o + 35) x.2.2.1, w_Hist E a (o + 37) x.1.2.2.1]) (rv := q4) (va_runV (As := [.int (x.1.1.2.1.2.1 (p1.toNatClampNeg))]) (rest := []) ⟨hx, hb, hml, hown, ha⟩ (k_X6_centsByNotes l E a (o + 2) x.1.1.1 (x.1.1.2.1.2.1 (p1.toNatClampNeg)) q4 hq4 H.size) (cwV 1 ha (gi_V (fun _ h => h) mw709 mw710 mw711 mw28 mw712) rfl rfl rfl hv_X6_centsByNotes ⟨(Nat.le_of_ble_eq_true rfl), (Nat.le_of_ble_eq_true rfl)⟩) ⟨pre_blind, va_recv hst.k (fr_P hP [2] rfl) (ci := 7) (q0 := 0) rfl rfl, pre_at hP hD hS hz hzs hst [2] (by decide) rfl rfl⟩ rfl rfl hl.1 rfl (lv_room (Nat.le_of_ble_eq_true rfl)) dX10_centsToKeyByNotes_24 ⟨(Nat.le_of_ble_eq_true rfl), (Nat.le_of_ble_eq_true rfl)⟩) hP hD hS hA [2] (by decide) rfl rfl rfl rfl (fun H locs hP hD hS => ?_)
  obtain rfl := Option.some.inj hF
  exact en_xi hQ (Nat.le_of_ble_eq_true rfl) (Nat.le_of_ble_eq_true rfl) hx hb hr hlocks hP hD hS rfl dX10_centsToKeyByNotes_27

/-! X10_bellAtRank -/
theorem dX10_bellAtRank_0 : decode cX10_bellAtRank 0 = .ok (.aload_n 0, 1) := by decide +kernel
theorem dX10_bellAtRank_1 : decode cX10_bellAtRank 1 = .ok (.getfield 10, 3) := by decide +kernel
theorem dX10_bellAtRank_4 : decode cX10_bellAtRank 4 = .ok (.getfield 108, 3) := by decide +kernel
theorem dX10_bellAtRank_7 : decode cX10_bellAtRank 7 = .ok (.iload_n 1, 1) := by decide +kernel
theorem dX10_bellAtRank_8 : decode cX10_bellAtRank 8 = .ok (.invokevirtual 152, 3) := by decide +kernel
theorem dX10_bellAtRank_11 : decode cX10_bellAtRank 11 = .ok (.istore_n 2, 1) := by decide +kernel
theorem dX10_bellAtRank_12 : decode cX10_bellAtRank 12 = .ok (.iload_n 2, 1) := by decide +kernel
theorem dX10_bellAtRank_13 : decode cX10_bellAtRank 13 = .ok (.iconst (-1), 1) := by decide +kernel
theorem dX10_bellAtRank_14 : decode cX10_bellAtRank 14 = .ok (.if_icmp .ne 13, 3) := by decide +kernel
theorem dX10_bellAtRank_17 : decode cX10_bellAtRank 17 = .ok (.new 155, 3) := by decide +kernel
theorem dX10_bellAtRank_20 : decode cX10_bellAtRank 20 = .ok (.dup, 1) := by decide +kernel
theorem dX10_bellAtRank_21 : decode cX10_bellAtRank 21 = .ok (.ldc 157, 2) := by decide +kernel
theorem dX10_bellAtRank_23 : decode cX10_bellAtRank 23 = .ok (.invokespecial 159, 3) := by decide +kernel
theorem dX10_bellAtRank_26 : decode cX10_bellAtRank 26 = .ok (.athrow, 1) := by decide +kernel
theorem dX10_bellAtRank_27 : decode cX10_bellAtRank 27 = .ok (.iload_n 2, 1) := by decide +kernel
theorem dX10_bellAtRank_28 : decode cX10_bellAtRank 28 = .ok (.ireturn, 1) := by decide +kernel
def f_X10_bellAtRank (x_valley_bells_pitches : (Nat → Int32)) (x_valley_bells_count : Int32) (p1 : Int32) : Option ((Int32 ⊕ String)) :=
  q_bd (f_X1_ranked x_valley_bells_pitches x_valley_bells_count p1) (fun q1 =>
  q_br (q1 = (-1)) (
  some (Sum.inr "java/util/NoSuchElementException")) (
  some (Sum.inl q1)))
theorem hv_X10_bellAtRank : yX10_bellAtRank.cls = RX10 ∧ yX10_bellAtRank.cls ≠ "java/lang/invoke/MethodHandle" ∧ yX10_bellAtRank.cls ≠ "java/lang/invoke/VarHandle" ∧ (parseMethodDescriptor yX10_bellAtRank.desc).map (fun d => d.parameters.length) = some 1 := by decide +kernel
abbrev rm_X10_bellAtRank : Room := { frames := 6, cells := 1, slots := 6, locals := 89 }
set_option maxHeartbeats 4000000 in
set_option maxRecDepth 100000 in
theorem k_X10_bellAtRank (l : Launch) (E : ET) (a : Nat → Nat) (o : Nat) (x : VB_t) (p1 : Int32) (res : (Int32 ⊕ String)) (hF : f_X10_bellAtRank x.1.1.2.1.2.1 x.1.1.2.1.2.2 p1 = some res) (sz : Nat) (hlt : l.stackTraces = false) : CxI l yX10_bellAtRank (mws yX10_bellAtRank cX10_bellAtRank 3 (some .int)) rm_X10_bellAtRank 1 6 [.ref (a o), .int p1] E (bl_VB E a o x) res (bl_VB E a o x) sz := by
  refine mk_X (by decide +kernel) (Nat.le_of_ble_eq_true rfl) ?_
  intro p e s m below meth c A args Q ls hAe hsz hQ hx hb hr hml hin ha hown hlocks hA hz hzs hst hexc hP hD hS hl
  have hown : s.vm.findClass RX10 = some m.cls := hown
  rw [hAe] at hQ
  subst hsz
  have hP : va_P E.1 vwCl (List.flatten [w_VBR a o x.2.2.2.1 x.2.2.2.2.1 x.2.2.2.2.2, w_ValleyR a (o + 1), w_Key E a (o + 2) x.1.1.1, w_Bells E a (o + 3) x.1.1.2.1, w_Mel E a (o + 6) x.1.1.2.2.1, w_Cliffs E a (o + 10) x.1.1.2.2.2, w_ValleyR a (o + 13), w_Key E a (o + 14) x.1.2.1.1, w_Bells E a (o + 15) x.1.2.1.2.1, w_Mel E a (o + 18) x.1.2.1.2.2.1, w_Cliffs E a (o + 22) x.1.2.1.2.2.2, w_Prog E a (o + 25) x.1.2.2.2.1, w_Chord E a (o + 31) x.1.2.2.2.2, w_Key E a (o + 34) x.2.1, w_Line E a (o + 35) x.2.2.1, w_Hist E a (o + 37) x.1.2.2.1]) s.heap := hP
  have hD : va_D A (List.flatten [w_VBR a o x.2.2.2.1 x.2.2.2.2.1 x.2.2.2.2.2, w_ValleyR a (o + 1), w_Key E a (o + 2) x.1.1.1, w_Bells E a (o + 3) x.1.1.2.1, w_Mel E a (o + 6) x.1.1.2.2.1, w_Cliffs E a (o + 10) x.1.1.2.2.2, w_ValleyR a (o + 13), w_Key E a (o + 14) x.1.2.1.1, w_Bells E a (o + 15) x.1.2.1.2.1, w_Mel E a (o + 18) x.1.2.1.2.2.1, w_Cliffs E a (o + 22) x.1.2.1.2.2.2, w_Prog E a (o + 25) x.1.2.2.2.1, w_Chord E a (o + 31) x.1.2.2.2.2, w_Key E a (o + 34) x.2.1, w_Line E a (o + 35) x.2.2.1, w_Hist E a (o + 37) x.1.2.2.1]) := hD
  have hl : lv_has ls 3 [(0, .ref (a o)), (1, .int p1)] := hl
  generalize hHe : s.heap = H at hP
  have hS : va_S A s.heap H [] := by rw [← hHe]; exact hS
  generalize ([] : List Loc) = locs at hS ⊢
  unfold f_X10_bellAtRank at hF
  refine lv_aload_n hx hb dX10_bellAtRank_0 rfl (lv_at hl 0 rfl) ?_
  refine va_get (D := E.1) (ci := 11) (v := .ref (a (o + 1))) (C := RX10) (T := TX10) (N := 10) hx hb ha in_X10 hown hst.k hP 0 rfl rfl 0 (by decide) (ha _ mw284) (fun _ h9 => h9) rfl dX10_bellAtRank_1 ?_
  refine va_getN (D := E.1) (ci := 10) (v := .ref (a (o + 3))) (C := RX9) (T := TX9) (N := 4) hx hb ha in_X9 hown hst.k hP 1 rfl rfl 1 (by decide) (va_Nw.use rfl (nf17 hst)) (fun _ h9 => h9) rfl dX10_bellAtRank_4 ?_
  refine lv_iload_n hx hb dX10_bellAtRank_7 rfl (lv_at hl 1 rfl) ?_
  obtain ⟨q1, hq1, hF⟩ := q_bdi hF
  refine cl_i (Lc := [w_Bells E a (o + 3) x.1.1.2.1]) (Lc' := [w_Bells E a (o + 3) x.1.1.2.1]) (L' := [w_VBR a o x.2.2.2.1 x.2.2.2.2.1 x.2.2.2.2.2, w_ValleyR a (o + 1), w_Key E a (o + 2) x.1.1.1, w_Bells E a (o + 3) x.1.1.2.1, w_Mel E a (o + 6) x.1.1.2.2.1, w_Cliffs E a (o + 10) x.1.1.2.2.2, w_ValleyR a (o + 13), w_Key E a (o + 14) x.1.2.1.1, w_Bells E a (o + 15) x.1.2.1.2.1, w_Mel E a (o + 18) x.1.2.1.2.2.1, w_Cliffs E a (o + 22) x.1.2.1.2.2.2, w_Prog E a (o + 25) x.1.2.2.2.1, w_Chord E a (o + 31) x.1.2.2.2.2, w_Key E a (o + 34) x.2.1, w_Line E a (o + 35) x.2.2.1, w_Hist E a (o + 37) x.1.2.2.1]) (rv := q1) (va_runV (As := [.int p1]) (rest := []) ⟨hx, hb, hml, hown, ha⟩ (k_X1_ranked l E a (o + 3) x.1.1.2.1 p1 q1 hq1 H.size) (cwV 1 ha (gi_V (fun _ h => h) mw726 mw727 mw728 mw29 mw729) rfl rfl rfl hv_X1_ranked ⟨(Nat.le_of_ble_eq_true rfl), (Nat.le_of_ble_eq_true rfl)⟩) ⟨pre_blind, va_recv hst.k (fr_P hP [3] rfl) (ci := 3) (q0 := 0) rfl rfl, pre_at hP hD hS hz hzs hst [3] (by decide) rfl rfl⟩ rfl rfl hl.1 rfl (lv_room (Nat.le_of_ble_eq_true rfl)) dX10_bellAtRank_8 ⟨(Nat.le_of_ble_eq_true rfl), (Nat.le_of_ble_eq_true rfl)⟩) hP hD hS hA [3] (by decide) rfl rfl rfl rfl (fun H locs hP hD hS => ?_)
  refine lv_istore_n (lv' := [(2, .int q1), (0, .ref (a o)), (1, .int p1)]) hx hb dX10_bellAtRank_11 rfl hl (by decide) rfl (fun ls hl => ?_)
  refine lv_iload_n hx hb dX10_bellAtRank_12 rfl (lv_at hl 0 rfl) ?_
  refine lv_iconst (v := (-1)) hx hb dX10_bellAtRank_13 (by decide) ?_
  refine lv_icmp_ne (tgt := 27) hx hb dX10_bellAtRank_14 (by decide) (fun c14 => ?_) (fun c14 => ?_)
  · have hF := q_brn c14 hF
    refine lv_iload_n hx hb dX10_bellAtRank_27 rfl (lv_at hl 0 rfl) ?_
    obtain rfl := Option.some.inj hF
    exact en_xi hQ (Nat.le_of_ble_eq_true rfl) (Nat.le_of_ble_eq_true rfl) hx hb hr hlocks hP hD hS rfl dX10_bellAtRank_28
  · have hF := q_brp c14 hF
    obtain rfl := Option.some.inj hF
    exact en_thN hQ hx hb hlt ha hst hz hA hml hl.1 hown mw734 (sr_157 E) nw_link dX10_bellAtRank_17 dX10_bellAtRank_20 dX10_bellAtRank_21 dX10_bellAtRank_23 dX10_bellAtRank_26 hexc (Nat.le_of_ble_eq_true rfl) (Nat.le_of_ble_eq_true rfl) (Nat.le_of_ble_eq_true rfl) (Nat.le_of_ble_eq_true rfl) hlocks (Nat.le_of_ble_eq_true rfl) (Nat.le_of_ble_eq_true rfl) hP hD hS rfl

/-! X10_meanDeviation -/
theorem dX10_meanDeviation_0 : decode cX10_meanDeviation 0 = .ok (.aload_n 0, 1) := by decide +kernel
theorem dX10_meanDeviation_1 : decode cX10_meanDeviation 1 = .ok (.invokevirtual 162, 3) := by decide +kernel
theorem dX10_meanDeviation_4 : decode cX10_meanDeviation 4 = .ok (.aload_n 0, 1) := by decide +kernel
theorem dX10_meanDeviation_5 : decode cX10_meanDeviation 5 = .ok (.getfield 10, 3) := by decide +kernel
theorem dX10_meanDeviation_8 : decode cX10_meanDeviation 8 = .ok (.getfield 108, 3) := by decide +kernel
theorem dX10_meanDeviation_11 : decode cX10_meanDeviation 11 = .ok (.invokevirtual 165, 3) := by decide +kernel
theorem dX10_meanDeviation_14 : decode cX10_meanDeviation 14 = .ok (.i2d, 1) := by decide +kernel
theorem dX10_meanDeviation_15 : decode cX10_meanDeviation 15 = .ok (.aload_n 0, 1) := by decide +kernel
theorem dX10_meanDeviation_16 : decode cX10_meanDeviation 16 = .ok (.getfield 10, 3) := by decide +kernel
theorem dX10_meanDeviation_19 : decode cX10_meanDeviation 19 = .ok (.getfield 108, 3) := by decide +kernel
theorem dX10_meanDeviation_22 : decode cX10_meanDeviation 22 = .ok (.getfield 112, 3) := by decide +kernel
theorem dX10_meanDeviation_25 : decode cX10_meanDeviation 25 = .ok (.i2d, 1) := by decide +kernel
theorem dX10_meanDeviation_26 : decode cX10_meanDeviation 26 = .ok (.ddiv, 1) := by decide +kernel
theorem dX10_meanDeviation_27 : decode cX10_meanDeviation 27 = .ok (.dreturn, 1) := by decide +kernel
def f_X10_meanDeviation (x_valley_bells_pitches : (Nat → Int32)) (x_valley_bells_count : Int32) : Option ((UInt64 ⊕ String)) :=
  q_bd (f_X10_requireSomeBell x_valley_bells_count) (fun q1 =>
  q_sm q1 (fun X => some (Sum.inr X)) (fun r2 =>
  q_bd (f_X1_absoluteDeviations x_valley_bells_pitches x_valley_bells_count) (fun q3 =>
  q_gd ((FP.ddiv (FP.i2d q3) (FP.i2d x_valley_bells_count)) &&& 0x7fffffffffffffff ≤ 0x7ff0000000000000) (
  some (Sum.inl (FP.ddiv (FP.i2d q3) (FP.i2d x_valley_bells_count)))))))
theorem hv_X10_meanDeviation : yX10_meanDeviation.cls = RX10 ∧ yX10_meanDeviation.cls ≠ "java/lang/invoke/MethodHandle" ∧ yX10_meanDeviation.cls ≠ "java/lang/invoke/VarHandle" ∧ (parseMethodDescriptor yX10_meanDeviation.desc).map (fun d => d.parameters.length) = some 0 := by decide +kernel
abbrev rm_X10_meanDeviation : Room := { frames := 7, cells := 1, slots := 6, locals := 105 }
set_option maxHeartbeats 4000000 in
set_option maxRecDepth 100000 in
theorem k_X10_meanDeviation (l : Launch) (E : ET) (a : Nat → Nat) (o : Nat) (x : VB_t) (res : (UInt64 ⊕ String)) (hF : f_X10_meanDeviation x.1.1.2.1.2.1 x.1.1.2.1.2.2 = some res) (sz : Nat) (hlt : l.stackTraces = false) : CxD l yX10_meanDeviation (mws yX10_meanDeviation cX10_meanDeviation 1 (some .double)) rm_X10_meanDeviation 1 6 [.ref (a o)] E (bl_VB E a o x) res (bl_VB E a o x) sz := by
  refine mk_X (by decide +kernel) (Nat.le_of_ble_eq_true rfl) ?_
  intro p e s m below meth c A args Q ls hAe hsz hQ hx hb hr hml hin ha hown hlocks hA hz hzs hst hexc hP hD hS hl
  have hown : s.vm.findClass RX10 = some m.cls := hown
  rw [hAe] at hQ
  subst hsz
  have hP : va_P E.1 vwCl (List.flatten [w_VBR a o x.2.2.2.1 x.2.2.2.2.1 x.2.2.2.2.2, w_ValleyR a (o + 1), w_Key E a (o + 2) x.1.1.1, w_Bells E a (o + 3) x.1.1.2.1, w_Mel E a (o + 6) x.1.1.2.2.1, w_Cliffs E a (o + 10) x.1.1.2.2.2, w_ValleyR a (o + 13), w_Key E a (o + 14) x.1.2.1.1, w_Bells E a (o + 15) x.1.2.1.2.1, w_Mel E a (o + 18) x.1.2.1.2.2.1, w_Cliffs E a (o + 22) x.1.2.1.2.2.2, w_Prog E a (o + 25) x.1.2.2.2.1, w_Chord E a (o + 31) x.1.2.2.2.2, w_Key E a (o + 34) x.2.1, w_Line E a (o + 35) x.2.2.1, w_Hist E a (o + 37) x.1.2.2.1]) s.heap := hP
  have hD : va_D A (List.flatten [w_VBR a o x.2.2.2.1 x.2.2.2.2.1 x.2.2.2.2.2, w_ValleyR a (o + 1), w_Key E a (o + 2) x.1.1.1, w_Bells E a (o + 3) x.1.1.2.1, w_Mel E a (o + 6) x.1.1.2.2.1, w_Cliffs E a (o + 10) x.1.1.2.2.2, w_ValleyR a (o + 13), w_Key E a (o + 14) x.1.2.1.1, w_Bells E a (o + 15) x.1.2.1.2.1, w_Mel E a (o + 18) x.1.2.1.2.2.1, w_Cliffs E a (o + 22) x.1.2.1.2.2.2, w_Prog E a (o + 25) x.1.2.2.2.1, w_Chord E a (o + 31) x.1.2.2.2.2, w_Key E a (o + 34) x.2.1, w_Line E a (o + 35) x.2.2.1, w_Hist E a (o + 37) x.1.2.2.1]) := hD
  have hl : lv_has ls 1 [(0, .ref (a o))] := hl
  generalize hHe : s.heap = H at hP
  have hS : va_S A s.heap H [] := by rw [← hHe]; exact hS
  generalize ([] : List Loc) = locs at hS ⊢
  unfold f_X10_meanDeviation at hF
  refine lv_aload_n hx hb dX10_meanDeviation_0 rfl (lv_at hl 0 rfl) ?_
  obtain ⟨q1, hq1, hF⟩ := q_bdi hF
  refine cx_v (ro := q1) (Lc := [w_VBR a o x.2.2.2.1 x.2.2.2.2.1 x.2.2.2.2.2, w_ValleyR a (o + 1), w_Key E a (o + 2) x.1.1.1, w_Bells E a (o + 3) x.1.1.2.1, w_Mel E a (o + 6) x.1.1.2.2.1, w_Cliffs E a (o + 10) x.1.1.2.2.2, w_ValleyR a (o + 13), w_Key E a (o + 14) x.1.2.1.1, w_Bells E a (o + 15) x.1.2.1.2.1, w_Mel E a (o + 18) x.1.2.1.2.2.1, w_Cliffs E a (o + 22) x.1.2.1.2.2.2, w_Prog E a (o + 25) x.1.2.2.2.1, w_Chord E a (o + 31) x.1.2.2.2.2, w_Key E a (o + 34) x.2.1, w_Line E a (o + 35) x.2.2.1, w_Hist E a (o + 37) x.1.2.2.1]) (Lc' := [w_VBR a o x.2.2.2.1 x.2.2.2.2.1 x.2.2.2.2.2, w_ValleyR a (o + 1), w_Key E a (o + 2) x.1.1.1, w_Bells E a (o + 3) x.1.1.2.1, w_Mel E a (o + 6) x.1.1.2.2.1, w_Cliffs E a (o + 10) x.1.1.2.2.2, w_ValleyR a (o + 13), w_Key E a (o + 14) x.1.2.1.1, w_Bells E a (o + 15) x.1.2.1.2.1, w_Mel E a (o + 18) x.1.2.1.2.2.1, w_Cliffs E a (o + 22) x.1.2.1.2.2.2, w_Prog E a (o + 25) x.1.2.2.2.1, w_Chord E a (o + 31) x.1.2.2.2.2, w_Key E a (o + 34) x.2.1, w_Line E a (o + 35) x.2.2.1, w_Hist E a (o + 37) x.1.2.2.1]) (L' := [w_VBR a o x.2.2.2.1 x.2.2.2.2.1 x.2.2.2.2.2, w_ValleyR a (o + 1), w_Key E a (o + 2) x.1.1.1, w_Bells E a (o + 3) x.1.1.2.1, w_Mel E a (o + 6) x.1.1.2.2.1, w_Cliffs E a (o + 10) x.1.1.2.2.2, w_ValleyR a (o + 13), w_Key E a (o + 14) x.1.2.1.1, w_Bells E a (o + 15) x.1.2.1.2.1, w_Mel E a (o + 18) x.1.2.1.2.2.1, w_Cliffs E a (o + 22) x.1.2.1.2.2.2, w_Prog E a (o + 25) x.1.2.2.2.1, w_Chord E a (o + 31) x.1.2.2.2.2, w_Key E a (o + 34) x.2.1, w_Line E a (o + 35) x.2.2.1, w_Hist E a (o + 37) x.1.2.2.1]) (vx_runV (As := []) (rest := []) ⟨hx, hb, hml, hown, ha⟩ (k_X10_requireSomeBell l E a o x q1 hq1 H.size hlt) (cwV 0 ha (gi_V (fun _ h => h) mw754 mw756 mw9 mw26 mw757) rfl rfl rfl hv_X10_requireSomeBell ⟨(Nat.le_of_ble_eq_true rfl), (Nat.le_of_ble_eq_true rfl)⟩) ⟨pre_blind, va_recv hst.k (fr_P hP [0, 1, 2, 3, 4, 5, 6, 7, 8, 9, 10, 11, 12, 13, 14, 15] rfl) (ci := 11) (q0 := 0) rfl rfl, pre_at hP hD hS hz hzs hst [0, 1, 2, 3, 4, 5, 6, 7, 8, 9, 10, 11, 12, 13, 14, 15] (by decide) rfl rfl⟩ rfl rfl hl.1 rfl (lv_room (Nat.le_of_ble_eq_true rfl)) dX10_meanDeviation_1 ⟨(Nat.le_of_ble_eq_true rfl), (Nat.le_of_ble_eq_true rfl)⟩) hP hD hS hA [0, 1, 2, 3, 4, 5, 6, 7, 8, 9, 10, 11, 12, 13, 14, 15] (by decide) rfl rfl rfl rfl (fun X ce q9 H locs eX h1 h2 h3 hP hD hS => ?_) (fun r2 H locs er2 hP hD hS => ?_)
  · have hF := q_smr eX hF
    obtain rfl := Option.some.inj hF
    exact en_out hQ (Nat.le_of_ble_eq_true rfl) (Nat.le_of_ble_eq_true rfl) hexc hlocks h1 h2 h3 hP hD hS rfl
  have hF := q_sml er2 hF
  refine lv_aload_n hx hb dX10_meanDeviation_4 rfl (lv_at hl 0 rfl) ?_
  refine va_get (D := E.1) (ci := 11) (v := .ref (a (o + 1))) (C := RX10) (T := TX10) (N := 10) hx hb ha in_X10 hown hst.k hP 0 rfl rfl 0 (by decide) (ha _ mw284) (fun _ h9 => h9) rfl dX10_meanDeviation_5 ?_
  refine va_getN (D := E.1) (ci := 10) (v := .ref (a (o + 3))) (C := RX9) (T := TX9) (N := 4) hx hb ha in_X9 hown hst.k hP 1 rfl rfl 1 (by decide) (va_Nw.use rfl (nf17 hst)) (fun _ h9 => h9) rfl dX10_meanDeviation_8 ?_
  obtain ⟨q3, hq3, hF⟩ := q_bdi hF
  refine cl_i (Lc := [w_Bells E a (o + 3) x.1.1.2.1]) (Lc' := [w_Bells E a (o + 3) x.1.1.2.1]) (L' := [w_VBR a o x.2.2.2.1 x.2.2.2.2.1 x.2.2.2.2.2, w_ValleyR a (o + 1), w_Key E a (o + 2) x.1.1.1, w_Bells E a (o + 3) x.1.1.2.1, w_Mel E a (o + 6) x.1.1.2.2.1, w_Cliffs E a (o + 10) x.1.1.2.2.2, w_ValleyR a (o + 13), w_Key E a (o + 14) x.1.2.1.1, w_Bells E a (o + 15) x.1.2.1.2.1, w_Mel E a (o + 18) x.1.2.1.2.2.1, w_Cliffs E a (o + 22) x.1.2.1.2.2.2, w_Prog E a (o + 25) x.1.2.2.2.1, w_Chord E a (o + 31) x.1.2.2.2.2, w_Key E a (o + 34) x.2.1, w_Line E a (o + 35) x.2.2.1, w_Hist E a (o + 37) x.1.2.2.1]) (rv := q3) (va_runV (As := []) (rest := []) ⟨hx, hb, hml, hown, ha⟩ (k_X1_absoluteDeviations l E a (o + 3) x.1.1.2.1 q3 hq3 H.size) (cwV 0 ha (gi_V (fun _ h => h) mw774 mw775 mw776 mw29 mw777) rfl rfl rfl hv_X1_absoluteDeviations ⟨(Nat.le_of_ble_eq_true rfl), (Nat.le_of_ble_eq_true rfl)⟩) ⟨pre_blind, va_recv hst.k (fr_P hP [3] rfl) (ci := 3) (q0 := 0) rfl rfl, pre_at hP hD hS hz hzs hst [3] (by decide) rfl rfl⟩ rfl rfl hl.1 rfl (lv_room (Nat.le_of_ble_eq_true rfl)) dX10_meanDeviation_11 ⟨(Nat.le_of_ble_eq_true rfl), (Nat.le_of_ble_eq_true rfl)⟩) hP hD hS hA [3] (by decide) rfl rfl rfl rfl (fun H locs hP hD hS => ?_)
  refine lv_i2d hx hb dX10_meanDeviation_14 ?_
  refine lv_aload_n hx hb dX10_meanDeviation_15 rfl (lv_at hl 0 rfl) ?_
  refine va_get (D := E.1) (ci := 11) (v := .ref (a (o + 1))) (C := RX10) (T := TX10) (N := 10) hx hb ha in_X10 hown hst.k hP 0 rfl rfl 0 (by decide) (ha _ mw284) (fun _ h9 => h9) rfl dX10_meanDeviation_16 ?_
  refine va_getN (D := E.1) (ci := 10) (v := .ref (a (o + 3))) (C := RX9) (T := TX9) (N := 4) hx hb ha in_X9 hown hst.k hP 1 rfl rfl 1 (by decide) (va_Nw.use rfl (nf17 hst)) (fun _ h9 => h9) rfl dX10_meanDeviation_19 ?_
  refine va_getN (D := E.1) (ci := 3) (v := .int x.1.1.2.1.2.2) (C := RX1) (T := TX1) (N := 3) hx hb ha in_X1 hown hst.k hP 3 rfl rfl 2 (by decide) (va_Nw.use rfl (nf5 hst)) (fun _ h9 => h9) rfl dX10_meanDeviation_22 ?_
  refine lv_i2d hx hb dX10_meanDeviation_25 ?_
  obtain ⟨g4, hF⟩ := q_gdi hF
  refine lv_ddiv hx hb dX10_meanDeviation_26 g4 ?_
  obtain rfl := Option.some.inj hF
  exact en_xd hQ (Nat.le_of_ble_eq_true rfl) (Nat.le_of_ble_eq_true rfl) hx hb hr hlocks hP hD hS rfl dX10_meanDeviation_27

/-! X10_inKeyShare -/
theorem dX10_inKeyShare_0 : decode cX10_inKeyShare 0 = .ok (.aload_n 0, 1) := by decide +kernel
theorem dX10_inKeyShare_1 : decode cX10_inKeyShare 1 = .ok (.invokevirtual 162, 3) := by decide +kernel
theorem dX10_inKeyShare_4 : decode cX10_inKeyShare 4 = .ok (.aload_n 0, 1) := by decide +kernel
theorem dX10_inKeyShare_5 : decode cX10_inKeyShare 5 = .ok (.getfield 10, 3) := by decide +kernel
theorem dX10_inKeyShare_8 : decode cX10_inKeyShare 8 = .ok (.getfield 108, 3) := by decide +kernel
theorem dX10_inKeyShare_11 : decode cX10_inKeyShare 11 = .ok (.aload_n 0, 1) := by decide +kernel
theorem dX10_inKeyShare_12 : decode cX10_inKeyShare 12 = .ok (.getfield 10, 3) := by decide +kernel
theorem dX10_inKeyShare_15 : decode cX10_inKeyShare 15 = .ok (.getfield 135, 3) := by decide +kernel
theorem dX10_inKeyShare_18 : decode cX10_inKeyShare 18 = .ok (.invokevirtual 142, 3) := by decide +kernel
theorem dX10_inKeyShare_21 : decode cX10_inKeyShare 21 = .ok (.i2f, 1) := by decide +kernel
theorem dX10_inKeyShare_22 : decode cX10_inKeyShare 22 = .ok (.aload_n 0, 1) := by decide +kernel
theorem dX10_inKeyShare_23 : decode cX10_inKeyShare 23 = .ok (.getfield 10, 3) := by decide +kernel
theorem dX10_inKeyShare_26 : decode cX10_inKeyShare 26 = .ok (.getfield 108, 3) := by decide +kernel
theorem dX10_inKeyShare_29 : decode cX10_inKeyShare 29 = .ok (.getfield 112, 3) := by decide +kernel
theorem dX10_inKeyShare_32 : decode cX10_inKeyShare 32 = .ok (.i2f, 1) := by decide +kernel
theorem dX10_inKeyShare_33 : decode cX10_inKeyShare 33 = .ok (.fdiv, 1) := by decide +kernel
theorem dX10_inKeyShare_34 : decode cX10_inKeyShare 34 = .ok (.freturn, 1) := by decide +kernel
def f_X10_inKeyShare (x_valley_key_tonic : Int32) (x_valley_key_isMinor : Int32) (x_valley_key_tolerance : Int32) (x_valley_bells_pitches : (Nat → Int32)) (x_valley_bells_count : Int32) : Option ((UInt32 ⊕ String)) :=
  q_bd (f_X10_requireSomeBell x_valley_bells_count) (fun q1 =>
  q_sm q1 (fun X => some (Sum.inr X)) (fun r2 =>
  q_bd (f_X1_countIn x_valley_bells_pitches x_valley_bells_count x_valley_key_tonic x_valley_key_isMinor x_valley_key_tolerance) (fun q3 =>
  q_gd ((FP.fdiv (FP.i2f q3) (FP.i2f x_valley_bells_count)) &&& 0x7fffffff ≤ 0x7f800000) (
  some (Sum.inl (FP.fdiv (FP.i2f q3) (FP.i2f x_valley_bells_count)))))))
theorem hv_X10_inKeyShare : yX10_inKeyShare.cls = RX10 ∧ yX10_inKeyShare.cls ≠ "java/lang/invoke/MethodHandle" ∧ yX10_inKeyShare.cls ≠ "java/lang/invoke/VarHandle" ∧ (parseMethodDescriptor yX10_inKeyShare.desc).map (fun d => d.parameters.length) = some 0 := by decide +kernel
abbrev rm_X10_inKeyShare : Room := { frames := 7, cells := 1, slots := 6, locals := 108 }
set_option maxHeartbeats 4000000 in
set_option maxRecDepth 100000 in
theorem k_X10_inKeyShare (l : Launch) (E : ET) (a : Nat → Nat) (o : Nat) (x : VB_t) (res : (UInt32 ⊕ String)) (hF : f_X10_inKeyShare x.1.1.1.1 x.1.1.1.2.1 x.1.1.1.2.2 x.1.1.2.1.2.1 x.1.1.2.1.2.2 = some res) (sz : Nat) (hlt : l.stackTraces = false) : CxF l yX10_inKeyShare (mws yX10_inKeyShare cX10_inKeyShare 1 (some .float)) rm_X10_inKeyShare 1 6 [.ref (a o)] E (bl_VB E a o x) res (bl_VB E a o x) sz := by
  refine mk_X (by decide +kernel) (Nat.le_of_ble_eq_true rfl) ?_
  intro p e s m below meth c A args Q ls hAe hsz hQ hx hb hr hml hin ha hown hlocks hA hz hzs hst hexc hP hD hS hl
  have hown : s.vm.findClass RX10 = some m.cls := hown
  rw [hAe] at hQ
  subst hsz
  have hP : va_P E.1 vwCl (List.flatten [w_VBR a o x.2.2.2.1 x.2.2.2.2.1 x.2.2.2.2.2, w_ValleyR a (o + 1), w_Key E a (o + 2) x.1.1.1, w_Bells E a (o + 3) x.1.1.2.1, w_Mel E a (o + 6) x.1.1.2.2.1, w_Cliffs E a (o + 10) x.1.1.2.2.2, w_ValleyR a (o + 13), w_Key E a (o + 14) x.1.2.1.1, w_Bells E a (o + 15) x.1.2.1.2.1, w_Mel E a (o + 18) x.1.2.1.2.2.1, w_Cliffs E a (o + 22) x.1.2.1.2.2.2, w_Prog E a (o + 25) x.1.2.2.2.1, w_Chord E a (o + 31) x.1.2.2.2.2, w_Key E a (o + 34) x.2.1, w_Line E a (o + 35) x.2.2.1, w_Hist E a (o + 37) x.1.2.2.1]) s.heap := hP
  have hD : va_D A (List.flatten [w_VBR a o x.2.2.2.1 x.2.2.2.2.1 x.2.2.2.2.2, w_ValleyR a (o + 1), w_Key E a (o + 2) x.1.1.1, w_Bells E a (o + 3) x.1.1.2.1, w_Mel E a (o + 6) x.1.1.2.2.1, w_Cliffs E a (o + 10) x.1.1.2.2.2, w_ValleyR a (o + 13), w_Key E a (o + 14) x.1.2.1.1, w_Bells E a (o + 15) x.1.2.1.2.1, w_Mel E a (o + 18) x.1.2.1.2.2.1, w_Cliffs E a (o + 22) x.1.2.1.2.2.2, w_Prog E a (o + 25) x.1.2.2.2.1, w_Chord E a (o + 31) x.1.2.2.2.2, w_Key E a (o + 34) x.2.1, w_Line E a (o + 35) x.2.2.1, w_Hist E a (o + 37) x.1.2.2.1]) := hD
  have hl : lv_has ls 1 [(0, .ref (a o))] := hl
  generalize hHe : s.heap = H at hP
  have hS : va_S A s.heap H [] := by rw [← hHe]; exact hS
  generalize ([] : List Loc) = locs at hS ⊢
  unfold f_X10_inKeyShare at hF
  refine lv_aload_n hx hb dX10_inKeyShare_0 rfl (lv_at hl 0 rfl) ?_
  obtain ⟨q1, hq1, hF⟩ := q_bdi hF
  refine cx_v (ro := q1) (Lc := [w_VBR a o x.2.2.2.1 x.2.2.2.2.1 x.2.2.2.2.2, w_ValleyR a (o + 1), w_Key E a (o + 2) x.1.1.1, w_Bells E a (o + 3) x.1.1.2.1, w_Mel E a (o + 6) x.1.1.2.2.1, w_Cliffs E a (o + 10) x.1.1.2.2.2, w_ValleyR a (o + 13), w_Key E a (o + 14) x.1.2.1.1, w_Bells E a (o + 15) x.1.2.1.2.1, w_Mel E a (o + 18) x.1.2.1.2.2.1, w_Cliffs E a (o + 22) x.1.2.1.2.2.2, w_Prog E a (o + 25) x.1.2.2.2.1, w_Chord E a (o + 31) x.1.2.2.2.2, w_Key E a (o + 34) x.2.1, w_Line E a (o + 35) x.2.2.1, w_Hist E a (o + 37) x.1.2.2.1]) (Lc' := [w_VBR a o x.2.2.2.1 x.2.2.2.2.1 x.2.2.2.2.2, w_ValleyR a (o + 1), w_Key E a (o + 2) x.1.1.1, w_Bells E a (o + 3) x.1.1.2.1, w_Mel E a (o + 6) x.1.1.2.2.1, w_Cliffs E a (o + 10) x.1.1.2.2.2, w_ValleyR a (o + 13), w_Key E a (o + 14) x.1.2.1.1, w_Bells E a (o + 15) x.1.2.1.2.1, w_Mel E a (o + 18) x.1.2.1.2.2.1, w_Cliffs E a (o + 22) x.1.2.1.2.2.2, w_Prog E a (o + 25) x.1.2.2.2.1, w_Chord E a (o + 31) x.1.2.2.2.2, w_Key E a (o + 34) x.2.1, w_Line E a (o + 35) x.2.2.1, w_Hist E a (o + 37) x.1.2.2.1]) (L' := [w_VBR a o x.2.2.2.1 x.2.2.2.2.1 x.2.2.2.2.2, w_ValleyR a (o + 1), w_Key E a (o + 2) x.1.1.1, w_Bells E a (o + 3) x.1.1.2.1, w_Mel E a (o + 6) x.1.1.2.2.1, w_Cliffs E a (o + 10) x.1.1.2.2.2, w_ValleyR a (o + 13), w_Key E a (o + 14) x.1.2.1.1, w_Bells E a (o + 15) x.1.2.1.2.1, w_Mel E a (o + 18) x.1.2.1.2.2.1, w_Cliffs E a (o + 22) x.1.2.1.2.2.2, w_Prog E a (o + 25) x.1.2.2.2.1, w_Chord E a (o + 31) x.1.2.2.2.2, w_Key E a (o + 34) x.2.1, w_Line E a (o + 35) x.2.2.1, w_Hist E a (o + 37) x.1.2.2.1]) (vx_runV (As := []) (rest := []) ⟨hx, hb, hml, hown, ha⟩ (k_X10_requireSomeBell l E a o x q1 hq1 H.size hlt) (cwV 0 ha (gi_V (fun _ h => h) mw754 mw756 mw9 mw26 mw757) rfl rfl rfl hv_X10_requireSomeBell ⟨(Nat.le_of_ble_eq_true rfl), (Nat.le_of_ble_eq_true rfl)⟩) ⟨pre_blind, va_recv hst.k (fr_P hP [0, 1, 2, 3, 4, 5, 6, 7, 8, 9, 10, 11, 12, 13, 14, 15] rfl) (ci := 11) (q0 := 0) rfl rfl, pre_at hP hD hS hz hzs hst [0, 1, 2, 3, 4, 5, 6, 7, 8, 9, 10, 11, 12, 13, 14, 15] (by decide) rfl rfl⟩ rfl rfl hl.1 rfl (lv_room (Nat.le_of_ble_eq_true rfl)) dX10_inKeyShare_1 ⟨(Nat.le_of_ble_eq_true rfl), (Nat.le_of_ble_eq_true rfl)⟩) hP hD hS hA [0, 1, 2, 3, 4, 5, 6, 7, 8, 9, 10, 11, 12, 13, 14, 15] (by decide) rfl rfl rfl rfl (fun X ce q9 H locs eX h1 h2 h3 hP hD hS => ?_) (fun r2 H locs er2 hP hD hS => ?_)
  · have hF := q_smr eX hF
    obtain rfl := Option.some.inj hF
    exact en_out hQ (Nat.le_of_ble_eq_true rfl) (Nat.le_of_ble_eq_true rfl) hexc hlocks h1 h2 h3 hP hD hS rfl
  have hF := q_sml er2 hF
  refine lv_aload_n hx hb dX10_inKeyShare_4 rfl (lv_at hl 0 rfl) ?_
  refine va_get (D := E.1) (ci := 11) (v := .ref (a (o + 1))) (C := RX10) (T := TX10) (N := 10) hx hb ha in_X10 hown hst.k hP 0 rfl rfl 0 (by decide) (ha _ mw284) (fun _ h9 => h9) rfl dX10_inKeyShare_5 ?_
  refine va_getN (D := E.1) (ci := 10) (v := .ref (a (o + 3))) (C := RX9) (T := TX9) (N := 4) hx hb ha in_X9 hown hst.k hP 1 rfl rfl 1 (by decide) (va_Nw.use rfl (nf17 hst)) (fun _ h9 => h9) rfl dX10_inKeyShare_8 ?_
  refine lv_aload_n hx hb dX10_inKeyShare_11 rfl (lv_at hl 0 rfl) ?_
  refine va_get (D := E.1) (ci := 11) (v := .ref (a (o + 1))) (C := RX10) (T := TX10) (N := 10) hx hb ha in_X10 hown hst.k hP 0 rfl rfl 0 (by decide) (ha _ mw284) (fun _ h9 => h9) rfl dX10_inKeyShare_12 ?_
  refine va_getN (D := E.1) (ci := 10) (v := .ref (a (o + 2))) (C := RX9) (T := TX9) (N := 4) hx hb ha in_X9 hown hst.k hP 1 rfl rfl 0 (by decide) (va_Nw.use rfl (nf15 hst)) (fun _ h9 => h9) rfl dX10_inKeyShare_15 ?_
  obtain ⟨q3, hq3, hF⟩ := q_bdi hF
  refine cl_i (Lc := [w_Bells E a (o + 3) x.1.1.2.1, w_Key E a (o + 2) x.1.1.1]) (Lc' := [w_Bells E a (o + 3) x.1.1.2.1, w_Key E a (o + 2) x.1.1.1]) (L' := [w_VBR a o x.2.2.2.1 x.2.2.2.2.1 x.2.2.2.2.2, w_ValleyR a (o + 1), w_Key E a (o + 2) x.1.1.1, w_Bells E a (o + 3) x.1.1.2.1, w_Mel E a (o + 6) x.1.1.2.2.1, w_Cliffs E a (o + 10) x.1.1.2.2.2, w_ValleyR a (o + 13), w_Key E a (o + 14) x.1.2.1.1, w_Bells E a (o + 15) x.1.2.1.2.1, w_Mel E a (o + 18) x.1.2.1.2.2.1, w_Cliffs E a (o + 22) x.1.2.1.2.2.2, w_Prog E a (o + 25) x.1.2.2.2.1, w_Chord E a (o + 31) x.1.2.2.2.2, w_Key E a (o + 34) x.2.1, w_Line E a (o + 35) x.2.2.1, w_Hist E a (o + 37) x.1.2.2.1]) (rv := q3) (va_runV (As := [.ref (a (o + 2))]) (rest := []) ⟨hx, hb, hml, hown, ha⟩ (k_X1_countIn l E a (o + 3) x.1.1.2.1 a (o + 2) x.1.1.1 q3 hq3 H.size) (cwV 1 ha (gi_V (fun _ h => h) mw692 mw412 mw413 mw29 mw414) rfl rfl rfl hv_X1_countIn ⟨(Nat.le_of_ble_eq_true rfl), (Nat.le_of_ble_eq_true rfl)⟩) ⟨pre_blind, va_recv hst.k (fr_P hP [3, 2] rfl) (ci := 3) (q0 := 0) rfl rfl, pre_at hP hD hS hz hzs hst [3, 2] (by decide) rfl rfl⟩ rfl rfl hl.1 rfl (lv_room (Nat.le_of_ble_eq_true rfl)) dX10_inKeyShare_18 ⟨(Nat.le_of_ble_eq_true rfl), (Nat.le_of_ble_eq_true rfl)⟩) hP hD hS hA [3, 2] (by decide) rfl rfl rfl rfl (fun H locs hP hD hS => ?_)
  refine lv_i2f hx hb dX10_inKeyShare_21 ?_
  refine lv_aload_n hx hb dX10_inKeyShare_22 rfl (lv_at hl 0 rfl) ?_
  refine va_get (D := E.1) (ci := 11) (v := .ref (a (o + 1))) (C := RX10) (T := TX10) (N := 10) hx hb ha in_X10 hown hst.k hP 0 rfl rfl 0 (by decide) (ha _ mw284) (fun _ h9 => h9) rfl dX10_inKeyShare_23 ?_
  refine va_getN (D := E.1) (ci := 10) (v := .ref (a (o + 3))) (C := RX9) (T := TX9) (N := 4) hx hb ha in_X9 hown hst.k hP 1 rfl rfl 1 (by decide) (va_Nw.use rfl (nf17 hst)) (fun _ h9 => h9) rfl dX10_inKeyShare_26 ?_
  refine va_getN (D := E.1) (ci := 3) (v := .int x.1.1.2.1.2.2) (C := RX1) (T := TX1) (N := 3) hx hb ha in_X1 hown hst.k hP 3 rfl rfl 2 (by decide) (va_Nw.use rfl (nf5 hst)) (fun _ h9 => h9) rfl dX10_inKeyShare_29 ?_
  refine lv_i2f hx hb dX10_inKeyShare_32 ?_
  obtain ⟨g4, hF⟩ := q_gdi hF
  refine lv_fdiv hx hb dX10_inKeyShare_33 g4 ?_
  obtain rfl := Option.some.inj hF
  exact en_xf hQ (Nat.le_of_ble_eq_true rfl) (Nat.le_of_ble_eq_true rfl) hx hb hr hlocks hP hD hS rfl dX10_inKeyShare_34

/-! X10_tonic -/
theorem dX10_tonic_0 : decode cX10_tonic 0 = .ok (.aload_n 0, 1) := by decide +kernel
theorem dX10_tonic_1 : decode cX10_tonic 1 = .ok (.getfield 10, 3) := by decide +kernel
theorem dX10_tonic_4 : decode cX10_tonic 4 = .ok (.getfield 135, 3) := by decide +kernel
theorem dX10_tonic_7 : decode cX10_tonic 7 = .ok (.getfield 169, 3) := by decide +kernel
theorem dX10_tonic_10 : decode cX10_tonic 10 = .ok (.ireturn, 1) := by decide +kernel
def f_X10_tonic (x_valley_key_tonic : Int32) : Option (Int32) :=
  some x_valley_key_tonic
theorem hv_X10_tonic : yX10_tonic.cls = RX10 ∧ yX10_tonic.cls ≠ "java/lang/invoke/MethodHandle" ∧ yX10_tonic.cls ≠ "java/lang/invoke/VarHandle" ∧ (parseMethodDescriptor yX10_tonic.desc).map (fun d => d.parameters.length) = some 0 := by decide +kernel
abbrev rm_X10_tonic : Room := { frames := 0, cells := 0, slots := 0, locals := 0 }
set_option maxHeartbeats 4000000 in
set_option maxRecDepth 100000 in
theorem k_X10_tonic (l : Launch) (E : ET) (a : Nat → Nat) (o : Nat) (x : VB_t) (res : Int32) (hF : f_X10_tonic x.1.1.1.1 = some res) (sz : Nat) : CtI l yX10_tonic (mws yX10_tonic cX10_tonic 1 (some .int)) rm_X10_tonic 0 0 [.ref (a o)] E (bl_VB E a o x) res (bl_VB E a o x) sz := by
  refine mk_M (by decide +kernel) (Nat.le_of_ble_eq_true rfl) ?_
  intro p e s m below meth c A args Q ls hAe hsz hQ hx hb hr hml hin ha hown hlocks hA hz hzs hst hP hD hS hl
  have hown : s.vm.findClass RX10 = some m.cls := hown
  rw [hAe] at hQ
  subst hsz
  have hP : va_P E.1 vwCl (List.flatten [w_VBR a o x.2.2.2.1 x.2.2.2.2.1 x.2.2.2.2.2, w_ValleyR a (o + 1), w_Key E a (o + 2) x.1.1.1, w_Bells E a (o + 3) x.1.1.2.1, w_Mel E a (o + 6) x.1.1.2.2.1, w_Cliffs E a (o + 10) x.1.1.2.2.2, w_ValleyR a (o + 13), w_Key E a (o + 14) x.1.2.1.1, w_Bells E a (o + 15) x.1.2.1.2.1, w_Mel E a (o + 18) x.1.2.1.2.2.1, w_Cliffs E a (o + 22) x.1.2.1.2.2.2, w_Prog E a (o + 25) x.1.2.2.2.1, w_Chord E a (o + 31) x.1.2.2.2.2, w_Key E a (o + 34) x.2.1, w_Line E a (o + 35) x.2.2.1, w_Hist E a (o + 37) x.1.2.2.1]) s.heap := hP
  have hD : va_D A (List.flatten [w_VBR a o x.2.2.2.1 x.2.2.2.2.1 x.2.2.2.2.2, w_ValleyR a (o + 1), w_Key E a (o + 2) x.1.1.1, w_Bells E a (o + 3) x.1.1.2.1, w_Mel E a (o + 6) x.1.1.2.2.1, w_Cliffs E a (o + 10) x.1.1.2.2.2, w_ValleyR a (o + 13), w_Key E a (o + 14) x.1.2.1.1, w_Bells E a (o + 15) x.1.2.1.2.1, w_Mel E a (o + 18) x.1.2.1.2.2.1, w_Cliffs E a (o + 22) x.1.2.1.2.2.2, w_Prog E a (o + 25) x.1.2.2.2.1, w_Chord E a (o + 31) x.1.2.2.2.2, w_Key E a (o + 34) x.2.1, w_Line E a (o + 35) x.2.2.1, w_Hist E a (o + 37) x.1.2.2.1]) := hD
  have hl : lv_has ls 1 [(0, .ref (a o))] := hl
  generalize hHe : s.heap = H at hP
  have hS : va_S A s.heap H [] := by rw [← hHe]; exact hS
  generalize ([] : List Loc) = locs at hS ⊢
  unfold f_X10_tonic at hF
  refine lv_aload_n hx hb dX10_tonic_0 rfl (lv_at hl 0 rfl) ?_
  refine va_get (D := E.1) (ci := 11) (v := .ref (a (o + 1))) (C := RX10) (T := TX10) (N := 10) hx hb ha in_X10 hown hst.k hP 0 rfl rfl 0 (by decide) (ha _ mw284) (fun _ h9 => h9) rfl dX10_tonic_1 ?_
  refine va_getN (D := E.1) (ci := 10) (v := .ref (a (o + 2))) (C := RX9) (T := TX9) (N := 4) hx hb ha in_X9 hown hst.k hP 1 rfl rfl 0 (by decide) (va_Nw.use rfl (nf15 hst)) (fun _ h9 => h9) rfl dX10_tonic_4 ?_
  refine va_getN (D := E.1) (ci := 7) (v := .int x.1.1.1.1) (C := RX6) (T := TX6) (N := 3) hx hb ha in_X6 hown hst.k hP 2 rfl rfl 0 (by decide) (va_Nw.use rfl (nf0 hst)) (fun _ h9 => h9) rfl dX10_tonic_7 ?_
  obtain rfl := Option.some.inj hF
  exact en_i hQ (Nat.le_of_ble_eq_true rfl) (Nat.le_of_ble_eq_true rfl) hx hb hr hlocks hP hD hS rfl dX10_tonic_10

/-! X10_isMinor -/
theorem dX10_isMinor_0 : decode cX10_isMinor 0 = .ok (.aload_n 0, 1) := by decide +kernel
theorem dX10_isMinor_1 : decode cX10_isMinor 1 = .ok (.getfield 10, 3) := by decide +kernel
theorem dX10_isMinor_4 : decode cX10_isMinor 4 = .ok (.getfield 135, 3) := by decide +kernel
theorem dX10_isMinor_7 : decode cX10_isMinor 7 = .ok (.getfield 172, 3) := by decide +kernel
theorem dX10_isMinor_10 : decode cX10_isMinor 10 = .ok (.ireturn, 1) := by decide +kernel
def f_X10_isMinor (x_valley_key_isMinor : Int32) : Option (Int32) :=
  q_gd (x_valley_key_isMinor = 0 ∨ x_valley_key_isMinor = 1) (
  some x_valley_key_isMinor)
theorem hv_X10_isMinor : yX10_isMinor.cls = RX10 ∧ yX10_isMinor.cls ≠ "java/lang/invoke/MethodHandle" ∧ yX10_isMinor.cls ≠ "java/lang/invoke/VarHandle" ∧ (parseMethodDescriptor yX10_isMinor.desc).map (fun d => d.parameters.length) = some 0 := by decide +kernel
abbrev rm_X10_isMinor : Room := { frames := 0, cells := 0, slots := 0, locals := 0 }
set_option maxHeartbeats 4000000 in
set_option maxRecDepth 100000 in
theorem k_X10_isMinor (l : Launch) (E : ET) (a : Nat → Nat) (o : Nat) (x : VB_t) (res : Int32) (hF : f_X10_isMinor x.1.1.1.2.1 = some res) (sz : Nat) : CtI l yX10_isMinor (mws yX10_isMinor cX10_isMinor 1 (some .boolean)) rm_X10_isMinor 0 0 [.ref (a o)] E (bl_VB E a o x) res (bl_VB E a o x) sz := by
  refine mk_M (by decide +kernel) (Nat.le_of_ble_eq_true rfl) ?_
  intro p e s m below meth c A args Q ls hAe hsz hQ hx hb hr hml hin ha hown hlocks hA hz hzs hst hP hD hS hl
  have hown : s.vm.findClass RX10 = some m.cls := hown
  rw [hAe] at hQ
  subst hsz
  have hP : va_P E.1 vwCl (List.flatten [w_VBR a o x.2.2.2.1 x.2.2.2.2.1 x.2.2.2.2.2, w_ValleyR a (o + 1), w_Key E a (o + 2) x.1.1.1, w_Bells E a (o + 3) x.1.1.2.1, w_Mel E a (o + 6) x.1.1.2.2.1, w_Cliffs E a (o + 10) x.1.1.2.2.2, w_ValleyR a (o + 13), w_Key E a (o + 14) x.1.2.1.1, w_Bells E a (o + 15) x.1.2.1.2.1, w_Mel E a (o + 18) x.1.2.1.2.2.1, w_Cliffs E a (o + 22) x.1.2.1.2.2.2, w_Prog E a (o + 25) x.1.2.2.2.1, w_Chord E a (o + 31) x.1.2.2.2.2, w_Key E a (o + 34) x.2.1, w_Line E a (o + 35) x.2.2.1, w_Hist E a (o + 37) x.1.2.2.1]) s.heap := hP
  have hD : va_D A (List.flatten [w_VBR a o x.2.2.2.1 x.2.2.2.2.1 x.2.2.2.2.2, w_ValleyR a (o + 1), w_Key E a (o + 2) x.1.1.1, w_Bells E a (o + 3) x.1.1.2.1, w_Mel E a (o + 6) x.1.1.2.2.1, w_Cliffs E a (o + 10) x.1.1.2.2.2, w_ValleyR a (o + 13), w_Key E a (o + 14) x.1.2.1.1, w_Bells E a (o + 15) x.1.2.1.2.1, w_Mel E a (o + 18) x.1.2.1.2.2.1, w_Cliffs E a (o + 22) x.1.2.1.2.2.2, w_Prog E a (o + 25) x.1.2.2.2.1, w_Chord E a (o + 31) x.1.2.2.2.2, w_Key E a (o + 34) x.2.1, w_Line E a (o + 35) x.2.2.1, w_Hist E a (o + 37) x.1.2.2.1]) := hD
  have hl : lv_has ls 1 [(0, .ref (a o))] := hl
  generalize hHe : s.heap = H at hP
  have hS : va_S A s.heap H [] := by rw [← hHe]; exact hS
  generalize ([] : List Loc) = locs at hS ⊢
  unfold f_X10_isMinor at hF
  refine lv_aload_n hx hb dX10_isMinor_0 rfl (lv_at hl 0 rfl) ?_
  refine va_get (D := E.1) (ci := 11) (v := .ref (a (o + 1))) (C := RX10) (T := TX10) (N := 10) hx hb ha in_X10 hown hst.k hP 0 rfl rfl 0 (by decide) (ha _ mw284) (fun _ h9 => h9) rfl dX10_isMinor_1 ?_
  refine va_getN (D := E.1) (ci := 10) (v := .ref (a (o + 2))) (C := RX9) (T := TX9) (N := 4) hx hb ha in_X9 hown hst.k hP 1 rfl rfl 0 (by decide) (va_Nw.use rfl (nf15 hst)) (fun _ h9 => h9) rfl dX10_isMinor_4 ?_
  refine va_getN (D := E.1) (ci := 7) (v := .int x.1.1.1.2.1) (C := RX6) (T := TX6) (N := 3) hx hb ha in_X6 hown hst.k hP 2 rfl rfl 1 (by decide) (va_Nw.use rfl (nf1 hst)) (fun _ h9 => h9) rfl dX10_isMinor_7 ?_
  obtain ⟨g1, hF⟩ := q_gdi hF
  obtain rfl := Option.some.inj hF
  exact en_z hQ (Nat.le_of_ble_eq_true rfl) (Nat.le_of_ble_eq_true rfl) hx hb hr hlocks (nz_b g1) hP hD hS rfl dX10_isMinor_10

/-! X10_tolerance -/
theorem dX10_tolerance_0 : decode cX10_tolerance 0 = .ok (.aload_n 0, 1) := by decide +kernel
theorem dX10_tolerance_1 : decode cX10_tolerance 1 = .ok (.getfield 10, 3) := by decide +kernel
theorem dX10_tolerance_4 : decode cX10_tolerance 4 = .ok (.getfield 135, 3) := by decide +kernel
theorem dX10_tolerance_7 : decode cX10_tolerance 7 = .ok (.getfield 175, 3) := by decide +kernel
theorem dX10_tolerance_10 : decode cX10_tolerance 10 = .ok (.ireturn, 1) := by decide +kernel
def f_X10_tolerance (x_valley_key_tolerance : Int32) : Option (Int32) :=
  some x_valley_key_tolerance
theorem hv_X10_tolerance : yX10_tolerance.cls = RX10 ∧ yX10_tolerance.cls ≠ "java/lang/invoke/MethodHandle" ∧ yX10_tolerance.cls ≠ "java/lang/invoke/VarHandle" ∧ (parseMethodDescriptor yX10_tolerance.desc).map (fun d => d.parameters.length) = some 0 := by decide +kernel
abbrev rm_X10_tolerance : Room := { frames := 0, cells := 0, slots := 0, locals := 0 }
set_option maxHeartbeats 4000000 in
set_option maxRecDepth 100000 in
theorem k_X10_tolerance (l : Launch) (E : ET) (a : Nat → Nat) (o : Nat) (x : VB_t) (res : Int32) (hF : f_X10_tolerance x.1.1.1.2.2 = some res) (sz : Nat) : CtI l yX10_tolerance (mws yX10_tolerance cX10_tolerance 1 (some .int)) rm_X10_tolerance 0 0 [.ref (a o)] E (bl_VB E a o x) res (bl_VB E a o x) sz := by
  refine mk_M (by decide +kernel) (Nat.le_of_ble_eq_true rfl) ?_
  intro p e s m below meth c A args Q ls hAe hsz hQ hx hb hr hml hin ha hown hlocks hA hz hzs hst hP hD hS hl
  have hown : s.vm.findClass RX10 = some m.cls := hown
  rw [hAe] at hQ
  subst hsz
  have hP : va_P E.1 vwCl (List.flatten [w_VBR a o x.2.2.2.1 x.2.2.2.2.1 x.2.2.2.2.2, w_ValleyR a (o + 1), w_Key E a (o + 2) x.1.1.1, w_Bells E a (o + 3) x.1.1.2.1, w_Mel E a (o + 6) x.1.1.2.2.1, w_Cliffs E a (o + 10) x.1.1.2.2.2, w_ValleyR a (o + 13), w_Key E a (o + 14) x.1.2.1.1, w_Bells E a (o + 15) x.1.2.1.2.1, w_Mel E a (o + 18) x.1.2.1.2.2.1, w_Cliffs E a (o + 22) x.1.2.1.2.2.2, w_Prog E a (o + 25) x.1.2.2.2.1, w_Chord E a (o + 31) x.1.2.2.2.2, w_Key E a (o + 34) x.2.1, w_Line E a (o + 35) x.2.2.1, w_Hist E a (o + 37) x.1.2.2.1]) s.heap := hP
  have hD : va_D A (List.flatten [w_VBR a o x.2.2.2.1 x.2.2.2.2.1 x.2.2.2.2.2, w_ValleyR a (o + 1), w_Key E a (o + 2) x.1.1.1, w_Bells E a (o + 3) x.1.1.2.1, w_Mel E a (o + 6) x.1.1.2.2.1, w_Cliffs E a (o + 10) x.1.1.2.2.2, w_ValleyR a (o + 13), w_Key E a (o + 14) x.1.2.1.1, w_Bells E a (o + 15) x.1.2.1.2.1, w_Mel E a (o + 18) x.1.2.1.2.2.1, w_Cliffs E a (o + 22) x.1.2.1.2.2.2, w_Prog E a (o + 25) x.1.2.2.2.1, w_Chord E a (o + 31) x.1.2.2.2.2, w_Key E a (o + 34) x.2.1, w_Line E a (o + 35) x.2.2.1, w_Hist E a (o + 37) x.1.2.2.1]) := hD
  have hl : lv_has ls 1 [(0, .ref (a o))] := hl
  generalize hHe : s.heap = H at hP
  have hS : va_S A s.heap H [] := by rw [← hHe]; exact hS
  generalize ([] : List Loc) = locs at hS ⊢
  unfold f_X10_tolerance at hF
  refine lv_aload_n hx hb dX10_tolerance_0 rfl (lv_at hl 0 rfl) ?_
  refine va_get (D := E.1) (ci := 11) (v := .ref (a (o + 1))) (C := RX10) (T := TX10) (N := 10) hx hb ha in_X10 hown hst.k hP 0 rfl rfl 0 (by decide) (ha _ mw284) (fun _ h9 => h9) rfl dX10_tolerance_1 ?_
  refine va_getN (D := E.1) (ci := 10) (v := .ref (a (o + 2))) (C := RX9) (T := TX9) (N := 4) hx hb ha in_X9 hown hst.k hP 1 rfl rfl 0 (by decide) (va_Nw.use rfl (nf15 hst)) (fun _ h9 => h9) rfl dX10_tolerance_4 ?_
  refine va_getN (D := E.1) (ci := 7) (v := .int x.1.1.1.2.2) (C := RX6) (T := TX6) (N := 3) hx hb ha in_X6 hown hst.k hP 2 rfl rfl 2 (by decide) (va_Nw.use rfl (nf2 hst)) (fun _ h9 => h9) rfl dX10_tolerance_7 ?_
  obtain rfl := Option.some.inj hF
  exact en_i hQ (Nat.le_of_ble_eq_true rfl) (Nat.le_of_ble_eq_true rfl) hx hb hr hlocks hP hD hS rfl dX10_tolerance_10

/-! X10_isInScale -/
theorem dX10_isInScale_0 : decode cX10_isInScale 0 = .ok (.iload_n 1, 1) := by decide +kernel
theorem dX10_isInScale_1 : decode cX10_isInScale 1 = .ok (.iconst 0, 1) := by decide +kernel
theorem dX10_isInScale_2 : decode cX10_isInScale 2 = .ok (.bipush 11, 2) := by decide +kernel
theorem dX10_isInScale_4 : decode cX10_isInScale 4 = .ok (.invokestatic 178, 3) := by decide +kernel
theorem dX10_isInScale_7 : decode cX10_isInScale 7 = .ok (.ifCond .ne 13, 3) := by decide +kernel
theorem dX10_isInScale_10 : decode cX10_isInScale 10 = .ok (.new 182, 3) := by decide +kernel
theorem dX10_isInScale_13 : decode cX10_isInScale 13 = .ok (.dup, 1) := by decide +kernel
theorem dX10_isInScale_14 : decode cX10_isInScale 14 = .ok (.ldc 184, 2) := by decide +kernel
theorem dX10_isInScale_16 : decode cX10_isInScale 16 = .ok (.invokespecial 186, 3) := by decide +kernel
theorem dX10_isInScale_19 : decode cX10_isInScale 19 = .ok (.athrow, 1) := by decide +kernel
theorem dX10_isInScale_20 : decode cX10_isInScale 20 = .ok (.aload_n 0, 1) := by decide +kernel
theorem dX10_isInScale_21 : decode cX10_isInScale 21 = .ok (.getfield 10, 3) := by decide +kernel
theorem dX10_isInScale_24 : decode cX10_isInScale 24 = .ok (.getfield 135, 3) := by decide +kernel
theorem dX10_isInScale_27 : decode cX10_isInScale 27 = .ok (.iload_n 1, 1) := by decide +kernel
theorem dX10_isInScale_28 : decode cX10_isInScale 28 = .ok (.invokevirtual 187, 3) := by decide +kernel
theorem dX10_isInScale_31 : decode cX10_isInScale 31 = .ok (.ireturn, 1) := by decide +kernel
def f_X10_isInScale (x_valley_key_tonic : Int32) (x_valley_key_isMinor : Int32) (p1 : Int32) : Option ((Int32 ⊕ String)) :=
  q_bd (f_X10_isWithin p1 0 11) (fun q1 =>
  q_br (q1 = 0) (
  some (Sum.inr "java/lang/IllegalArgumentException")) (
  q_bd (f_X6_hasNote x_valley_key_tonic x_valley_key_isMinor p1) (fun q2 =>
  q_gd (q2 = 0 ∨ q2 = 1) (
  some (Sum.inl q2)))))
theorem hv_X10_isInScale : yX10_isInScale.cls = RX10 ∧ yX10_isInScale.cls ≠ "java/lang/invoke/MethodHandle" ∧ yX10_isInScale.cls ≠ "java/lang/invoke/VarHandle" ∧ (parseMethodDescriptor yX10_isInScale.desc).map (fun d => d.parameters.length) = some 1 := by decide +kernel
abbrev rm_X10_isInScale : Room := { frames := 6, cells := 1, slots := 6, locals := 82 }
set_option maxHeartbeats 4000000 in
set_option maxRecDepth 100000 in
theorem k_X10_isInScale (l : Launch) (E : ET) (a : Nat → Nat) (o : Nat) (x : VB_t) (p1 : Int32) (res : (Int32 ⊕ String)) (hF : f_X10_isInScale x.1.1.1.1 x.1.1.1.2.1 p1 = some res) (sz : Nat) (hlt : l.stackTraces = false) : CxI l yX10_isInScale (mws yX10_isInScale cX10_isInScale 2 (some .boolean)) rm_X10_isInScale 1 6 [.ref (a o), .int p1] E (bl_VB E a o x) res (bl_VB E a o x) sz := by
  refine mk_X (by decide +kernel) (Nat.le_of_ble_eq_true rfl) ?_
  intro p e s m below meth c A args Q ls hAe hsz hQ hx hb hr hml hin ha hown hlocks hA hz hzs hst hexc hP hD hS hl
  have hown : s.vm.findClass RX10 = some m.cls := hown
  rw [hAe] at hQ
  subst hsz
  have hP : va_P E.1 vwCl (List.flatten [w_VBR a o x.2.2.2.1 x.2.2.2.2.1 x.2.2.2.2.2, w_ValleyR a (o + 1), w_Key E a (o + 2) x.1.1.1, w_Bells E a (o + 3) x.1.1.2.1, w_Mel E a (o + 6) x.1.1.2.2.1, w_Cliffs E a (o + 10) x.1.1.2.2.2, w_ValleyR a (o + 13), w_Key E a (o + 14) x.1.2.1.1, w_Bells E a (o + 15) x.1.2.1.2.1, w_Mel E a (o + 18) x.1.2.1.2.2.1, w_Cliffs E a (o + 22) x.1.2.1.2.2.2, w_Prog E a (o + 25) x.1.2.2.2.1, w_Chord E a (o + 31) x.1.2.2.2.2, w_Key E a (o + 34) x.2.1, w_Line E a (o + 35) x.2.2.1, w_Hist E a (o + 37) x.1.2.2.1]) s.heap := hP
  have hD : va_D A (List.flatten [w_VBR a o x.2.2.2.1 x.2.2.2.2.1 x.2.2.2.2.2, w_ValleyR a (o + 1), w_Key E a (o + 2) x.1.1.1, w_Bells E a (o + 3) x.1.1.2.1, w_Mel E a (o + 6) x.1.1.2.2.1, w_Cliffs E a (o + 10) x.1.1.2.2.2, w_ValleyR a (o + 13), w_Key E a (o + 14) x.1.2.1.1, w_Bells E a (o + 15) x.1.2.1.2.1, w_Mel E a (o + 18) x.1.2.1.2.2.1, w_Cliffs E a (o + 22) x.1.2.1.2.2.2, w_Prog E a (o + 25) x.1.2.2.2.1, w_Chord E a (o + 31) x.1.2.2.2.2, w_Key E a (o + 34) x.2.1, w_Line E a (o + 35) x.2.2.1, w_Hist E a (o + 37) x.1.2.2.1]) := hD
  have hl : lv_has ls 2 [(0, .ref (a o)), (1, .int p1)] := hl
  generalize hHe : s.heap = H at hP
  have hS : va_S A s.heap H [] := by rw [← hHe]; exact hS
  generalize ([] : List Loc) = locs at hS ⊢
  unfold f_X10_isInScale at hF
  refine lv_iload_n hx hb dX10_isInScale_0 rfl (lv_at hl 1 rfl) ?_
  refine lv_iconst (v := 0) hx hb dX10_isInScale_1 (by decide) ?_
  refine lv_bipush (v := 11) hx hb dX10_isInScale_2 (by decide) ?_
  obtain ⟨q1, hq1, hF⟩ := q_bdi hF
  refine cl_i (Lc := []) (Lc' := []) (L' := [w_VBR a o x.2.2.2.1 x.2.2.2.2.1 x.2.2.2.2.2, w_ValleyR a (o + 1), w_Key E a (o + 2) x.1.1.1, w_Bells E a (o + 3) x.1.1.2.1, w_Mel E a (o + 6) x.1.1.2.2.1, w_Cliffs E a (o + 10) x.1.1.2.2.2, w_ValleyR a (o + 13), w_Key E a (o + 14) x.1.2.1.1, w_Bells E a (o + 15) x.1.2.1.2.1, w_Mel E a (o + 18) x.1.2.1.2.2.1, w_Cliffs E a (o + 22) x.1.2.1.2.2.2, w_Prog E a (o + 25) x.1.2.2.2.1, w_Chord E a (o + 31) x.1.2.2.2.2, w_Key E a (o + 34) x.2.1, w_Line E a (o + 35) x.2.2.1, w_Hist E a (o + 37) x.1.2.2.1]) (rv := q1) (va_runS (As := [.int p1, .int 0, .int 11]) (rest := []) ⟨hx, hb, hml, hown, ha⟩ (k_X10_isWithin l E p1 0 11 q1 hq1 H.size) (cwS 3 ha (gi_S (fun _ h => h) mw373 mw374 mw26 mw375) rfl rfl rfl hv_X10_isWithin ⟨(Nat.le_of_ble_eq_true rfl), (Nat.le_of_ble_eq_true rfl)⟩) ⟨pre_blind, pre_at hP hD hS hz hzs hst [] (by decide) rfl rfl⟩ rfl rfl hl.1 rfl (lv_room (Nat.le_of_ble_eq_true rfl)) dX10_isInScale_4 ⟨(Nat.le_of_ble_eq_true rfl), (Nat.le_of_ble_eq_true rfl)⟩) hP hD hS hA [] (by decide) rfl rfl rfl rfl (fun H locs hP hD hS => ?_)
  refine lv_if_ne (tgt := 20) hx hb dX10_isInScale_7 (by decide) (fun c7 => ?_) (fun c7 => ?_)
  · have hF := q_brn c7 hF
    refine lv_aload_n hx hb dX10_isInScale_20 rfl (lv_at hl 0 rfl) ?_
    refine va_get (D := E.1) (ci := 11) (v := .ref (a (o + 1))) (C := RX10) (T := TX10) (N := 10) hx hb ha in_X10 hown hst.k hP 0 rfl rfl 0 (by decide) (ha _ mw284) (fun _ h9 => h9) rfl dX10_isInScale_21 ?_
    refine va_getN (D := E.1) (ci := 10) (v := .ref (a (o + 2))) (C := RX9) (T := TX9) (N := 4) hx hb ha in_X9 hown hst.k hP 1 rfl rfl 0 (by decide) (va_Nw.use rfl (nf15 hst)) (fun _ h9 => h9) rfl dX10_isInScale_24 ?_
    refine lv_iload_n hx hb dX10_isInScale_27 rfl (lv_at hl 1 rfl) ?_
    obtain ⟨q2, hq2, hF⟩ := q_bdi hF
    refine cl_i (Lc := [w_Key E a (o + 2) x.1.1.1]) (Lc' := [w_Key E a (o + 2) x.1.1.1]) (L' := [w_VBR a o x.2.2.2.1 x.2.2.2.2.1 x.2.2.2.2.2, w_ValleyR a (o + 1), w_Key E a (o + 2) x.1.1.1, w_Bells E a (o + 3) x.1.1.2.1, w_Mel E a (o + 6) x.1.1.2.2.1, w_Cliffs E a (o + 10) x.1.1.2.2.2, w_ValleyR a (o + 13), w_Key E a (o + 14) x.1.2.1.1, w_Bells E a (o + 15) x.1.2.1.2.1, w_Mel E a (o + 18) x.1.2.1.2.2.1, w_Cliffs E a (o + 22) x.1.2.1.2.2.2, w_Prog E a (o + 25) x.1.2.2.2.1, w_Chord E a (o + 31) x.1.2.2.2.2, w_Key E a (o + 34) x.2.1, w_Line E a (o + 35) x.2.2.1, w_Hist E a (o + 37) x.1.2.2.1]) (rv := q2) (va_runV (As := [.int p1]) (rest := []) ⟨hx, hb, hml, hown, ha⟩ (k_X6_hasNote l E a (o + 2) x.1.1.1 p1 q2 hq2 H.size) (cwV 1 ha (gi_V (fun _ h => h) mw793 mw426 mw427 mw28 mw428) rfl rfl rfl hv_X6_hasNote ⟨(Nat.le_of_ble_eq_true rfl), (Nat.le_of_ble_eq_true rfl)⟩) ⟨pre_blind, va_recv hst.k (fr_P hP [2] rfl) (ci := 7) (q0 := 0) rfl rfl, pre_at hP hD hS hz hzs hst [2] (by decide) rfl rfl⟩ rfl rfl hl.1 rfl (lv_room (Nat.le_of_ble_eq_true rfl)) dX10_isInScale_28 ⟨(Nat.le_of_ble_eq_true rfl), (Nat.le_of_ble_eq_true rfl)⟩) hP hD hS hA [2] (by decide) rfl rfl rfl rfl (fun H locs hP hD hS => ?_)
    obtain ⟨g3, hF⟩ := q_gdi hF
    obtain rfl := Option.some.inj hF
    exact en_xz hQ (Nat.le_of_ble_eq_true rfl) (Nat.le_of_ble_eq_true rfl) hx hb hr hlocks (nz_b g3) hP hD hS rfl dX10_isInScale_31
  · have hF := q_brp c7 hF
    obtain rfl := Option.some.inj hF
    exact en_th hQ hx hb hlt ha hst hz hml hl.1 hown (by decide) ft_x mw556 iw_IllegalArgumentException (sr_184 E) at_186 cs_IllegalArgumentException dX10_isInScale_10 dX10_isInScale_13 dX10_isInScale_14 dX10_isInScale_16 dX10_isInScale_19 hexc (Nat.le_of_ble_eq_true rfl) (Nat.le_of_ble_eq_true rfl) (Nat.le_of_ble_eq_true rfl) (Nat.le_of_ble_eq_true rfl) hlocks (Nat.le_of_ble_eq_true rfl) (Nat.le_of_ble_eq_true rfl) hP hD hS rfl

/-! X10_bestTonic -/
theorem dX10_bestTonic_0 : decode cX10_bestTonic 0 = .ok (.aload_n 0, 1) := by decide +kernel
theorem dX10_bestTonic_1 : decode cX10_bestTonic 1 = .ok (.getfield 43, 3) := by decide +kernel
theorem dX10_bestTonic_4 : decode cX10_bestTonic 4 = .ok (.aload_n 0, 1) := by decide +kernel
theorem dX10_bestTonic_5 : decode cX10_bestTonic 5 = .ok (.getfield 10, 3) := by decide +kernel
theorem dX10_bestTonic_8 : decode cX10_bestTonic 8 = .ok (.getfield 135, 3) := by decide +kernel
theorem dX10_bestTonic_11 : decode cX10_bestTonic 11 = .ok (.invokevirtual 190, 3) := by decide +kernel
theorem dX10_bestTonic_14 : decode cX10_bestTonic 14 = .ok (.aload_n 0, 1) := by decide +kernel
theorem dX10_bestTonic_15 : decode cX10_bestTonic 15 = .ok (.getfield 43, 3) := by decide +kernel
theorem dX10_bestTonic_18 : decode cX10_bestTonic 18 = .ok (.iload_n 1, 1) := by decide +kernel
theorem dX10_bestTonic_19 : decode cX10_bestTonic 19 = .ok (.putfield 172, 3) := by decide +kernel
theorem dX10_bestTonic_22 : decode cX10_bestTonic 22 = .ok (.iconst 0, 1) := by decide +kernel
theorem dX10_bestTonic_23 : decode cX10_bestTonic 23 = .ok (.istore_n 2, 1) := by decide +kernel
theorem dX10_bestTonic_24 : decode cX10_bestTonic 24 = .ok (.iconst 0, 1) := by decide +kernel
theorem dX10_bestTonic_25 : decode cX10_bestTonic 25 = .ok (.istore_n 3, 1) := by decide +kernel
theorem dX10_bestTonic_26 : decode cX10_bestTonic 26 = .ok (.iconst 0, 1) := by decide +kernel
theorem dX10_bestTonic_27 : decode cX10_bestTonic 27 = .ok (.istore 4, 2) := by decide +kernel
theorem dX10_bestTonic_29 : decode cX10_bestTonic 29 = .ok (.iload 4, 2) := by decide +kernel
theorem dX10_bestTonic_31 : decode cX10_bestTonic 31 = .ok (.bipush 12, 2) := by decide +kernel
theorem dX10_bestTonic_33 : decode cX10_bestTonic 33 = .ok (.if_icmp .ge 46, 3) := by decide +kernel
theorem dX10_bestTonic_36 : decode cX10_bestTonic 36 = .ok (.aload_n 0, 1) := by decide +kernel
theorem dX10_bestTonic_37 : decode cX10_bestTonic 37 = .ok (.getfield 43, 3) := by decide +kernel
theorem dX10_bestTonic_40 : decode cX10_bestTonic 40 = .ok (.iload 4, 2) := by decide +kernel
theorem dX10_bestTonic_42 : decode cX10_bestTonic 42 = .ok (.putfield 169, 3) := by decide +kernel
theorem dX10_bestTonic_45 : decode cX10_bestTonic 45 = .ok (.aload_n 0, 1) := by decide +kernel
theorem dX10_bestTonic_46 : decode cX10_bestTonic 46 = .ok (.getfield 10, 3) := by decide +kernel
theorem dX10_bestTonic_49 : decode cX10_bestTonic 49 = .ok (.getfield 108, 3) := by decide +kernel
theorem dX10_bestTonic_52 : decode cX10_bestTonic 52 = .ok (.aload_n 0, 1) := by decide +kernel
theorem dX10_bestTonic_53 : decode cX10_bestTonic 53 = .ok (.getfield 43, 3) := by decide +kernel
theorem dX10_bestTonic_56 : decode cX10_bestTonic 56 = .ok (.invokevirtual 142, 3) := by decide +kernel
theorem dX10_bestTonic_59 : decode cX10_bestTonic 59 = .ok (.istore 5, 2) := by decide +kernel
theorem dX10_bestTonic_61 : decode cX10_bestTonic 61 = .ok (.iload 5, 2) := by decide +kernel
theorem dX10_bestTonic_63 : decode cX10_bestTonic 63 = .ok (.iload_n 3, 1) := by decide +kernel
theorem dX10_bestTonic_64 : decode cX10_bestTonic 64 = .ok (.if_icmp .le 9, 3) := by decide +kernel
theorem dX10_bestTonic_67 : decode cX10_bestTonic 67 = .ok (.iload 5, 2) := by decide +kernel
theorem dX10_bestTonic_69 : decode cX10_bestTonic 69 = .ok (.istore_n 3, 1) := by decide +kernel
theorem dX10_bestTonic_70 : decode cX10_bestTonic 70 = .ok (.iload 4, 2) := by decide +kernel
theorem dX10_bestTonic_72 : decode cX10_bestTonic 72 = .ok (.istore_n 2, 1) := by decide +kernel
theorem dX10_bestTonic_73 : decode cX10_bestTonic 73 = .ok (.iinc 4 1, 3) := by decide +kernel
theorem dX10_bestTonic_76 : decode cX10_bestTonic 76 = .ok (.goto (-47), 3) := by decide +kernel
theorem dX10_bestTonic_79 : decode cX10_bestTonic 79 = .ok (.iload_n 2, 1) := by decide +kernel
theorem dX10_bestTonic_80 : decode cX10_bestTonic 80 = .ok (.ireturn, 1) := by decide +kernel
def f_X10_bestTonic_L29 (x_valley_bells_pitches : (Nat → Int32)) (x_valley_bells_count : Int32) (p1 : Int32) (q1 : Int32 × Int32 × Int32) : Nat → Int32 → Int32 → Int32 → Int32 → Option (Int32 × Int32 × Int32 × Int32)
  | 0, _, _, _, _ => none
  | n29 + 1, i3, i4, i5, i6 =>
    q_br (12 ≤ i3) (
  some (i5, i6, p1, q1.2.2)) (
  q_bd (f_X1_countIn x_valley_bells_pitches x_valley_bells_count i3 p1 q1.2.2) (fun q7 =>
  q_lt (fun (j8 : Int32) (j9 : Int32) =>
  q_lt (i3 + 1 : Int32) (fun v10 =>
  f_X10_bestTonic_L29 x_valley_bells_pitches x_valley_bells_count p1 q1 n29 v10 j8 j9 i3)) (fun (J73 : Int32 → Int32 → Option (Int32 × Int32 × Int32 × Int32)) =>
  q_br (q7 ≤ i4) (
  J73 i4 i5) (
  J73 q7 i3))))
def f_X10_bestTonic (x_valley_key_tonic : Int32) (x_valley_key_isMinor : Int32) (x_valley_key_tolerance : Int32) (x_valley_bells_pitches : (Nat → Int32)) (x_valley_bells_count : Int32) (x_trialKey_tonic : Int32) (x_trialKey_isMinor : Int32) (x_trialKey_tolerance : Int32) (p1 : Int32) : Option (Int32 × Int32 × Int32 × Int32) :=
  q_bd (f_X6_copyFrom x_trialKey_tonic x_trialKey_isMinor x_trialKey_tolerance x_valley_key_tonic x_valley_key_isMinor x_valley_key_tolerance) (fun q1 =>
  q_gd (p1 = 0 ∨ p1 = 1) (
  f_X10_bestTonic_L29 x_valley_bells_pitches x_valley_bells_count p1 q1 2000 0 0 0 q1.1))
theorem hv_X10_bestTonic : yX10_bestTonic.cls = RX10 ∧ yX10_bestTonic.cls ≠ "java/lang/invoke/MethodHandle" ∧ yX10_bestTonic.cls ≠ "java/lang/invoke/VarHandle" ∧ (parseMethodDescriptor yX10_bestTonic.desc).map (fun d => d.parameters.length) = some 1 := by decide +kernel
abbrev rm_X10_bestTonic : Room := { frames := 5, cells := 0, slots := 0, locals := 108 }
set_option maxHeartbeats 4000000 in
set_option maxRecDepth 100000 in
theorem k_X10_bestTonic (l : Launch) (E : ET) (a : Nat → Nat) (o : Nat) (x : VB_t) (p1 : Int32) (res : Int32 × Int32 × Int32 × Int32) (hF : f_X10_bestTonic x.1.1.1.1 x.1.1.1.2.1 x.1.1.1.2.2 x.1.1.2.1.2.1 x.1.1.2.1.2.2 x.2.1.1 x.2.1.2.1 x.2.1.2.2 p1 = some res) (sz : Nat) : CtI l yX10_bestTonic (mws yX10_bestTonic cX10_bestTonic 6 (some .int)) rm_X10_bestTonic 0 0 [.ref (a o), .int p1] E (bl_VB E a o x) res.1 (bl_VB E a o ((x.1.1, x.1.2.1, x.1.2.2.1, x.1.2.2.2.1, x.1.2.2.2.2), ((res.2.1, res.2.2.1, res.2.2.2), x.2.2.1, x.2.2.2.1, x.2.2.2.2.1, x.2.2.2.2.2))) sz := by
  refine mk_M (by decide +kernel) (Nat.le_of_ble_eq_true rfl) ?_
  intro p e s m below meth c A args Q ls hAe hsz hQ hx hb hr hml hin ha hown hlocks hA hz hzs hst hP hD hS hl
  have hown : s.vm.findClass RX10 = some m.cls := hown
  rw [hAe] at hQ
  subst hsz
  have hP : va_P E.1 vwCl (List.flatten [w_VBR a o x.2.2.2.1 x.2.2.2.2.1 x.2.2.2.2.2, w_ValleyR a (o + 1), w_Key E a (o + 2) x.1.1.1, w_Bells E a (o + 3) x.1.1.2.1, w_Mel E a (o + 6) x.1.1.2.2.1, w_Cliffs E a (o + 10) x.1.1.2.2.2, w_ValleyR a (o + 13), w_Key E a (o + 14) x.1.2.1.1, w_Bells E a (o + 15) x.1.2.1.2.1, w_Mel E a (o + 18) x.1.2.1.2.2.1, w_Cliffs E a (o + 22) x.1.2.1.2.2.2, w_Prog E a (o + 25) x.1.2.2.2.1, w_Chord E a (o + 31) x.1.2.2.2.2, w_Key E a (o + 34) x.2.1, w_Line E a (o + 35) x.2.2.1, w_Hist E a (o + 37) x.1.2.2.1]) s.heap := hP
  have hD : va_D A (List.flatten [w_VBR a o x.2.2.2.1 x.2.2.2.2.1 x.2.2.2.2.2, w_ValleyR a (o + 1), w_Key E a (o + 2) x.1.1.1, w_Bells E a (o + 3) x.1.1.2.1, w_Mel E a (o + 6) x.1.1.2.2.1, w_Cliffs E a (o + 10) x.1.1.2.2.2, w_ValleyR a (o + 13), w_Key E a (o + 14) x.1.2.1.1, w_Bells E a (o + 15) x.1.2.1.2.1, w_Mel E a (o + 18) x.1.2.1.2.2.1, w_Cliffs E a (o + 22) x.1.2.1.2.2.2, w_Prog E a (o + 25) x.1.2.2.2.1, w_Chord E a (o + 31) x.1.2.2.2.2, w_Key E a (o + 34) x.2.1, w_Line E a (o + 35) x.2.2.1, w_Hist E a (o + 37) x.1.2.2.1]) := hD
  have hl : lv_has ls 6 [(0, .ref (a o)), (1, .int p1)] := hl
  generalize hHe : s.heap = H at hP
  have hS : va_S A s.heap H [] := by rw [← hHe]; exact hS
  generalize ([] : List Loc) = locs at hS ⊢
  unfold f_X10_bestTonic at hF
  refine lv_aload_n hx hb dX10_bestTonic_0 rfl (lv_at hl 0 rfl) ?_
  refine va_get (D := E.1) (ci := 11) (v := .ref (a (o + 34))) (C := RX10) (T := TX10) (N := 10) hx hb ha in_X10 hown hst.k hP 0 rfl rfl 5 (by decide) (ha _ mw289) (fun _ h9 => h9) rfl dX10_bestTonic_1 ?_
  refine lv_aload_n hx hb dX10_bestTonic_4 rfl (lv_at hl 0 rfl) ?_
  refine va_get (D := E.1) (ci := 11) (v := .ref (a (o + 1))) (C := RX10) (T := TX10) (N := 10) hx hb ha in_X10 hown hst.k hP 0 rfl rfl 0 (by decide) (ha _ mw284) (fun _ h9 => h9) rfl dX10_bestTonic_5 ?_
  refine va_getN (D := E.1) (ci := 10) (v := .ref (a (o + 2))) (C := RX9) (T := TX9) (N := 4) hx hb ha in_X9 hown hst.k hP 1 rfl rfl 0 (by decide) (va_Nw.use rfl (nf15 hst)) (fun _ h9 => h9) rfl dX10_bestTonic_8 ?_
  obtain ⟨q1, hq1, hF⟩ := q_bdi hF
  refine cl_v (Lc := [w_Key E a (o + 34) x.2.1, w_Key E a (o + 2) x.1.1.1]) (Lc' := [w_Key E a (o + 34) (q1.1, q1.2.1, q1.2.2), w_Key E a (o + 2) x.1.1.1]) (L' := [w_VBR a o x.2.2.2.1 x.2.2.2.2.1 x.2.2.2.2.2, w_ValleyR a (o + 1), w_Key E a (o + 2) x.1.1.1, w_Bells E a (o + 3) x.1.1.2.1, w_Mel E a (o + 6) x.1.1.2.2.1, w_Cliffs E a (o + 10) x.1.1.2.2.2, w_ValleyR a (o + 13), w_Key E a (o + 14) x.1.2.1.1, w_Bells E a (o + 15) x.1.2.1.2.1, w_Mel E a (o + 18) x.1.2.1.2.2.1, w_Cliffs E a (o + 22) x.1.2.1.2.2.2, w_Prog E a (o + 25) x.1.2.2.2.1, w_Chord E a (o + 31) x.1.2.2.2.2, w_Key E a (o + 34) (q1.1, q1.2.1, q1.2.2), w_Line E a (o + 35) x.2.2.1, w_Hist E a (o + 37) x.1.2.2.1]) (va_runV (As := [.ref (a (o + 2))]) (rest := []) ⟨hx, hb, hml, hown, ha⟩ (k_X6_copyFrom l E a (o + 34) x.2.1 a (o + 2) x.1.1.1 q1 hq1 H.size) (cwV 1 ha (gi_V (fun _ h => h) mw798 mw334 mw335 mw28 mw336) rfl rfl rfl hv_X6_copyFrom ⟨(Nat.le_of_ble_eq_true rfl), (Nat.le_of_ble_eq_true rfl)⟩) ⟨pre_blind, va_recv hst.k (fr_P hP [13, 2] rfl) (ci := 7) (q0 := 0) rfl rfl, pre_at hP hD hS hz hzs hst [13, 2] (by decide) rfl rfl⟩ rfl rfl hl.1 rfl (lv_room (Nat.le_of_ble_eq_true rfl)) dX10_bestTonic_11 ⟨(Nat.le_of_ble_eq_true rfl), (Nat.le_of_ble_eq_true rfl)⟩) hP hD hS hA [13, 2] (by decide) rfl rfl rfl rfl (fun H locs hP hD hS => ?_)
  refine lv_aload_n hx hb dX10_bestTonic_14 rfl (lv_at hl 0 rfl) ?_
  refine va_get (D := E.1) (ci := 11) (v := .ref (a (o + 34))) (C := RX10) (T := TX10) (N := 10) hx hb ha in_X10 hown hst.k hP 0 rfl rfl 5 (by decide) (ha _ mw289) (fun _ h9 => h9) rfl dX10_bestTonic_15 ?_
  refine lv_iload_n hx hb dX10_bestTonic_18 rfl (lv_at hl 1 rfl) ?_
  obtain ⟨g2, hF⟩ := q_gdi hF
  refine va_putN (D := E.1) (ci := 7) (v := .int p1) (ty := .boolean) (C := RX6) (T := TX6) (N := 3) hx hb ha in_X6 tyX6 tyX6_ok nmX6 hown hst.k hP hD hS 34 rfl rfl 1 (by decide) (va_Nw.use rfl (nf1 hst)) (fun _ h9 => h9) rfl (tyX6_ok 1 (by decide)) (nz_b g2) (fz_b g2) (Nat.le_of_ble_eq_true rfl) dX10_bestTonic_19 (fun H locs hP hD hS => ?_)
  have hP : va_P E.1 vwCl (List.flatten [w_VBR a o x.2.2.2.1 x.2.2.2.2.1 x.2.2.2.2.2, w_ValleyR a (o + 1), w_Key E a (o + 2) x.1.1.1, w_Bells E a (o + 3) x.1.1.2.1, w_Mel E a (o + 6) x.1.1.2.2.1, w_Cliffs E a (o + 10) x.1.1.2.2.2, w_ValleyR a (o + 13), w_Key E a (o + 14) x.1.2.1.1, w_Bells E a (o + 15) x.1.2.1.2.1, w_Mel E a (o + 18) x.1.2.1.2.2.1, w_Cliffs E a (o + 22) x.1.2.1.2.2.2, w_Prog E a (o + 25) x.1.2.2.2.1, w_Chord E a (o + 31) x.1.2.2.2.2, w_Key E a (o + 34) (q1.1, p1, q1.2.2), w_Line E a (o + 35) x.2.2.1, w_Hist E a (o + 37) x.1.2.2.1]) H := hP
  have hD : va_D A (List.flatten [w_VBR a o x.2.2.2.1 x.2.2.2.2.1 x.2.2.2.2.2, w_ValleyR a (o + 1), w_Key E a (o + 2) x.1.1.1, w_Bells E a (o + 3) x.1.1.2.1, w_Mel E a (o + 6) x.1.1.2.2.1, w_Cliffs E a (o + 10) x.1.1.2.2.2, w_ValleyR a (o + 13), w_Key E a (o + 14) x.1.2.1.1, w_Bells E a (o + 15) x.1.2.1.2.1, w_Mel E a (o + 18) x.1.2.1.2.2.1, w_Cliffs E a (o + 22) x.1.2.1.2.2.2, w_Prog E a (o + 25) x.1.2.2.2.1, w_Chord E a (o + 31) x.1.2.2.2.2, w_Key E a (o + 34) (q1.1, p1, q1.2.2), w_Line E a (o + 35) x.2.2.1, w_Hist E a (o + 37) x.1.2.2.1]) := hD
  refine lv_iconst (v := 0) hx hb dX10_bestTonic_22 (by decide) ?_
  refine lv_istore_n (lv' := [(2, .int 0), (0, .ref (a o)), (1, .int p1)]) hx hb dX10_bestTonic_23 rfl hl (by decide) rfl (fun ls hl => ?_)
  refine lv_iconst (v := 0) hx hb dX10_bestTonic_24 (by decide) ?_
  refine lv_istore_n (lv' := [(3, .int 0), (2, .int 0), (0, .ref (a o)), (1, .int p1)]) hx hb dX10_bestTonic_25 rfl hl (by decide) rfl (fun ls hl => ?_)
  refine lv_iconst (v := 0) hx hb dX10_bestTonic_26 (by decide) ?_
  refine lv_istore (lv' := [(4, .int 0), (3, .int 0), (2, .int 0), (0, .ref (a o)), (1, .int p1)]) hx hb dX10_bestTonic_27 hl (by decide) rfl (fun ls hl => ?_)
  have key29 : ∀ (n : Nat) (i3 : Int32) (i4 : Int32) (i5 : Int32) (i6 : Int32) (H : Heap) (locs : List Loc) (ls : Array Slot), f_X10_bestTonic_L29 x.1.1.2.1.2.1 x.1.1.2.1.2.2 p1 q1 n i3 i4 i5 i6 = some res → va_P E.1 vwCl (List.flatten [w_VBR a o x.2.2.2.1 x.2.2.2.2.1 x.2.2.2.2.2, w_ValleyR a (o + 1), w_Key E a (o + 2) x.1.1.1, w_Bells E a (o + 3) x.1.1.2.1, w_Mel E a (o + 6) x.1.1.2.2.1, w_Cliffs E a (o + 10) x.1.1.2.2.2, w_ValleyR a (o + 13), w_Key E a (o + 14) x.1.2.1.1, w_Bells E a (o + 15) x.1.2.1.2.1, w_Mel E a (o + 18) x.1.2.1.2.2.1, w_Cliffs E a (o + 22) x.1.2.1.2.2.2, w_Prog E a (o + 25) x.1.2.2.2.1, w_Chord E a (o + 31) x.1.2.2.2.2, w_Key E a (o + 34) (i6, p1, q1.2.2), w_Line E a (o + 35) x.2.2.1, w_Hist E a (o + 37) x.1.2.2.1]) H → va_D A (List.flatten [w_VBR a o x.2.2.2.1 x.2.2.2.2.1 x.2.2.2.2.2, w_ValleyR a (o + 1), w_Key E a (o + 2) x.1.1.1, w_Bells E a (o + 3) x.1.1.2.1, w_Mel E a (o + 6) x.1.1.2.2.1, w_Cliffs E a (o + 10) x.1.1.2.2.2, w_ValleyR a (o + 13), w_Key E a (o + 14) x.1.2.1.1, w_Bells E a (o + 15) x.1.2.1.2.1, w_Mel E a (o + 18) x.1.2.1.2.2.1, w_Cliffs E a (o + 22) x.1.2.1.2.2.2, w_Prog E a (o + 25) x.1.2.2.2.1, w_Chord E a (o + 31) x.1.2.2.2.2, w_Key E a (o + 34) (i6, p1, q1.2.2), w_Line E a (o + 35) x.2.2.1, w_Hist E a (o + 37) x.1.2.2.1]) → va_S A s.heap H locs → lv_has ls 6 [(4, .int i3), (3, .int i4), (2, .int i5), (0, .ref (a o))] → W p l e rm_X10_bestTonic s m args below meth c H locs 0 0 Q (F0 m 29 ls []) := by
    intro n29
    induction n29 with
    | zero => intro i3 i4 i5 i6 H locs ls hF; exact absurd hF (by simp [f_X10_bestTonic_L29])
    | succ n29 ih29 =>
      intro i3 i4 i5 i6 H locs ls hF hP hD hS hl
      rw [f_X10_bestTonic_L29] at hF
      refine lv_iload hx hb dX10_bestTonic_29 (lv_at hl 0 rfl) ?_
      refine lv_bipush (v := 12) hx hb dX10_bestTonic_31 (by decide) ?_
      refine lv_icmp_ge (tgt := 79) hx hb dX10_bestTonic_33 (by decide) (fun c33 => ?_) (fun c33 => ?_)
      · have hF := q_brp c33 hF
        refine lv_iload_n hx hb dX10_bestTonic_79 rfl (lv_at hl 2 rfl) ?_
        obtain rfl := Option.some.inj hF
        exact en_i hQ (Nat.le_of_ble_eq_true rfl) (Nat.le_of_ble_eq_true rfl) hx hb hr hlocks hP hD hS rfl dX10_bestTonic_80
      · have hF := q_brn c33 hF
        refine lv_aload_n hx hb dX10_bestTonic_36 rfl (lv_at hl 3 rfl) ?_
        refine va_get (D := E.1) (ci := 11) (v := .ref (a (o + 34))) (C := RX10) (T := TX10) (N := 10) hx hb ha in_X10 hown hst.k hP 0 rfl rfl 5 (by decide) (ha _ mw289) (fun _ h9 => h9) rfl dX10_bestTonic_37 ?_
        refine lv_iload hx hb dX10_bestTonic_40 (lv_at hl 0 rfl) ?_
        refine va_putN (D := E.1) (ci := 7) (v := .int i3) (ty := .int) (C := RX6) (T := TX6) (N := 3) hx hb ha in_X6 tyX6 tyX6_ok nmX6 hown hst.k hP hD hS 34 rfl rfl 0 (by decide) (va_Nw.use rfl (nf0 hst)) (fun _ h9 => h9) rfl (tyX6_ok 0 (by decide)) rfl rfl (Nat.le_of_ble_eq_true rfl) dX10_bestTonic_42 (fun H locs hP hD hS => ?_)
        have hP : va_P E.1 vwCl (List.flatten [w_VBR a o x.2.2.2.1 x.2.2.2.2.1 x.2.2.2.2.2, w_ValleyR a (o + 1), w_Key E a (o + 2) x.1.1.1, w_Bells E a (o + 3) x.1.1.2.1, w_Mel E a (o + 6) x.1.1.2.2.1, w_Cliffs E a (o + 10) x.1.1.2.2.2, w_ValleyR a (o + 13), w_Key E a (o + 14) x.1.2.1.1, w_Bells E a (o + 15) x.1.2.1.2.1, w_Mel E a (o + 18) x.1.2.1.2.2.1, w_Cliffs E a (o + 22) x.1.2.1.2.2.2, w_Prog E a (o + 25) x.1.2.2.2.1, w_Chord E a (o + 31) x.1.2.2.2.2, w_Key E a (o + 34) (i3, p1, q1.2.2), w_Line E a (o + 35) x.2.2.1, w_Hist E a (o + 37) x.1.2.2.1]) H := hP
        have hD : va_D A (List.flatten [w_VBR a o x.2.2.2.1 x.2.2.2.2.1 x.2.2.2.2.2, w_ValleyR a (o + 1), w_Key E a (o + 2) x.1.1.1, w_Bells E a (o + 3) x.1.1.2.1, w_Mel E a (o + 6) x.1.1.2.2.1, w_Cliffs E a (o + 10) x.1.1.2.2.2, w_ValleyR a (o + 13), w_Key E a (o + 14) x.1.2.1.1, w_Bells E a (o + 15) x.1.2.1.2.1, w_Mel E a (o + 18) x.1.2.1.2.2.1, w_Cliffs E a (o + 22) x.1.2.1.2.2.2, w_Prog E a (o + 25) x.1.2.2.2.1, w_Chord E a (o + 31) x.1.2.2.2.2, w_Key E a (o + 34) (i3, p1, q1.2.2), w_Line E a (o + 35) x.2.2.1, w_Hist E a (o + 37) x.1.2.2.1]) := hD
        refine lv_aload_n hx hb dX10_bestTonic_45 rfl (lv_at hl 3 rfl) ?_
        refine va_get (D := E.1) (ci := 11) (v := .ref (a (o + 1))) (C := RX10) (T := TX10) (N := 10) hx hb ha in_X10 hown hst.k hP 0 rfl rfl 0 (by decide) (ha _ mw284) (fun _ h9 => h9) rfl dX10_bestTonic_46 ?_
        refine va_getN (D := E.1) (ci := 10) (v := .ref (a (o + 3))) (C := RX9) (T := TX9) (N := 4) hx hb ha in_X9 hown hst.k hP 1 rfl rfl 1 (by decide) (va_Nw.use rfl (nf17 hst)) (fun _ h9 => h9) rfl dX10_bestTonic_49 ?_
        refine lv_aload_n hx hb dX10_bestTonic_52 rfl (lv_at hl 3 rfl) ?_
        refine va_get (D := E.1) (ci := 11) (v := .ref (a (o + 34))) (C := RX10) (T := TX10) (N := 10) hx hb ha in_X10 hown hst.k hP 0 rfl rfl 5 (by decide) (ha _ mw289) (fun _ h9 => h9) rfl dX10_bestTonic_53 ?_
        obtain ⟨q7, hq7, hF⟩ := q_bdi hF
        refine cl_i (Lc := [w_Bells E a (o + 3) x.1.1.2.1, w_Key E a (o + 34) (i3, p1, q1.2.2)]) (Lc' := [w_Bells E a (o + 3) x.1.1.2.1, w_Key E a (o + 34) (i3, p1, q1.2.2)]) (L' := [w_VBR a o x.2.2.2.1 x.2.2.2.2.1 x.2.2.2.2.2, w_ValleyR a (o + 1), w_Key E a (o + 2) x.1.1.1, w_Bells E a (o + 3) x.1.1.2.1, w_Mel E a (o + 6) x.1.1.2.2.1, w_Cliffs E a (o + 10) x.1.1.2.2.2, w_ValleyR a (o + 13), w_Key E a (o + 14) x.1.2.1.1, w_Bells E a (o + 15) x.1.2.1.2.1, w_Mel E a (o + 18) x.1.2.1.2.2.1, w_Cliffs E a (o + 22) x.1.2.1.2.2.2, w_Prog E a (o + 25) x.1.2.2.2.1, w_Chord E a (o + 31) x.1.2.2.2.2, w_Key E a (o + 34) (i3, p1, q1.2.2), w_Line E a (o + 35) x.2.2.1, w_Hist E a (o + 37) x.1.2.2.1]) (rv := q7) (va_runV (As := [.ref (a (o + 34))]) (rest := []) ⟨hx, hb, hml, hown, ha⟩ (k_X1_countIn l E a (o + 3) x.1.1.2.1 a (o + 34) (i3, p1, q1.2.2) q7 hq7 H.size) (cwV 1 ha (gi_V (fun _ h => h) mw692 mw412 mw413 mw29 mw414) rfl rfl rfl hv_X1_countIn ⟨(Nat.le_of_ble_eq_true rfl), (Nat.le_of_ble_eq_true rfl)⟩) ⟨pre_blind, va_recv hst.k (fr_P hP [3, 13] rfl) (ci := 3) (q0 := 0) rfl rfl, pre_at hP hD hS hz hzs hst [3, 13] (by decide) rfl rfl⟩ rfl rfl hl.1 rfl (lv_room (Nat.le_of_ble_eq_true rfl)) dX10_bestTonic_56 ⟨(Nat.le_of_ble_eq_true rfl), (Nat.le_of_ble_eq_true rfl)⟩) hP hD hS hA [3, 13] (by decide) rfl rfl rfl rfl (fun H locs hP hD hS => ?_)
        refine lv_istore (lv' := [(5, .int q7), (4, .int i3), (3, .int i4), (2, .int i5), (0, .ref (a o))]) hx hb dX10_bestTonic_59 hl (by decide) rfl (fun ls hl => ?_)
        refine lv_iload hx hb dX10_bestTonic_61 (lv_at hl 0 rfl) ?_
        refine lv_iload_n hx hb dX10_bestTonic_63 rfl (lv_at hl 2 rfl) ?_
        obtain ⟨J73, hJ73, hF⟩ := q_jn hF
        have jJ73 : ∀ (j8 : Int32) (j9 : Int32), ∀ (H : Heap) (locs : List Loc) (ls : Array Slot), J73 j8 j9 = some res → va_P E.1 vwCl (List.flatten [w_VBR a o x.2.2.2.1 x.2.2.2.2.1 x.2.2.2.2.2, w_ValleyR a (o + 1), w_Key E a (o + 2) x.1.1.1, w_Bells E a (o + 3) x.1.1.2.1, w_Mel E a (o + 6) x.1.1.2.2.1, w_Cliffs E a (o + 10) x.1.1.2.2.2, w_ValleyR a (o + 13), w_Key E a (o + 14) x.1.2.1.1, w_Bells E a (o + 15) x.1.2.1.2.1, w_Mel E a (o + 18) x.1.2.1.2.2.1, w_Cliffs E a (o + 22) x.1.2.1.2.2.2, w_Prog E a (o + 25) x.1.2.2.2.1, w_Chord E a (o + 31) x.1.2.2.2.2, w_Key E a (o + 34) (i3, p1, q1.2.2), w_Line E a (o + 35) x.2.2.1, w_Hist E a (o + 37) x.1.2.2.1]) H → va_D A (List.flatten [w_VBR a o x.2.2.2.1 x.2.2.2.2.1 x.2.2.2.2.2, w_ValleyR a (o + 1), w_Key E a (o + 2) x.1.1.1, w_Bells E a (o + 3) x.1.1.2.1, w_Mel E a (o + 6) x.1.1.2.2.1, w_Cliffs E a (o + 10) x.1.1.2.2.2, w_ValleyR a (o + 13), w_Key E a (o + 14) x.1.2.1.1, w_Bells E a (o + 15) x.1.2.1.2.1, w_Mel E a (o + 18) x.1.2.1.2.2.1, w_Cliffs E a (o + 22) x.1.2.1.2.2.2, w_Prog E a (o + 25) x.1.2.2.2.1, w_Chord E a (o + 31) x.1.2.2.2.2, w_Key E a (o + 34) (i3, p1, q1.2.2), w_Line E a (o + 35) x.2.2.1, w_Hist E a (o + 37) x.1.2.2.1]) → va_S A s.heap H locs → lv_has ls 6 [(4, .int i3), (3, .int j8), (2, .int j9), (0, .ref (a o))] → W p l e rm_X10_bestTonic s m args below meth c H locs 0 0 Q (F0 m 73 ls []) := by
          intro j8 j9 H locs ls hF hP hD hS hl
          rw [hJ73] at hF
          obtain ⟨v10, ev10⟩ : ∃ y : Int32, y = i3 + 1 := ⟨_, rfl⟩
          have hF := q_lti ev10 hF
          refine lv_iinc (v := v10) (lv' := [(4, .int v10), (3, .int j8), (2, .int j9), (0, .ref (a o))]) hx hb dX10_bestTonic_73 hl (k := 0) rfl (by rw [ev10]; rfl) (by decide) rfl (fun ls hl => ?_)
          refine lv_goto (tgt := 29) hx hb dX10_bestTonic_76 (by decide) ?_
          exact ih29 v10 j8 j9 i3 H locs ls hF hP hD hS (lv_sub hl [0, 1, 2, 3] rfl)
        refine lv_icmp_le (tgt := 73) hx hb dX10_bestTonic_64 (by decide) (fun c64 => ?_) (fun c64 => ?_)
        · have hF := q_brp c64 hF
          exact jJ73 i4 i5 H locs ls hF hP hD hS (lv_sub hl [1, 2, 3, 4] rfl)
        · have hF := q_brn c64 hF
          refine lv_iload hx hb dX10_bestTonic_67 (lv_at hl 0 rfl) ?_
          refine lv_istore_n (lv' := [(3, .int q7), (5, .int q7), (4, .int i3), (2, .int i5), (0, .ref (a o))]) hx hb dX10_bestTonic_69 rfl hl (by decide) rfl (fun ls hl => ?_)
          refine lv_iload hx hb dX10_bestTonic_70 (lv_at hl 2 rfl) ?_
          refine lv_istore_n (lv' := [(2, .int i3), (3, .int q7), (5, .int q7), (4, .int i3), (0, .ref (a o))]) hx hb dX10_bestTonic_72 rfl hl (by decide) rfl (fun ls hl => ?_)
          exact jJ73 q7 i3 H locs ls hF hP hD hS (lv_sub hl [3, 1, 0, 4] rfl)
  exact key29 _ 0 0 0 q1.1 H locs ls hF hP hD hS (lv_sub hl [0, 1, 2, 3] rfl)

/-! X10_melodyLength -/
theorem dX10_melodyLength_0 : decode cX10_melodyLength 0 = .ok (.iload_n 1, 1) := by decide +kernel
theorem dX10_melodyLength_1 : decode cX10_melodyLength 1 = .ok (.invokestatic 194, 3) := by decide +kernel
theorem dX10_melodyLength_4 : decode cX10_melodyLength 4 = .ok (.aload_n 0, 1) := by decide +kernel
theorem dX10_melodyLength_5 : decode cX10_melodyLength 5 = .ok (.getfield 10, 3) := by decide +kernel
theorem dX10_melodyLength_8 : decode cX10_melodyLength 8 = .ok (.getfield 197, 3) := by decide +kernel
theorem dX10_melodyLength_11 : decode cX10_melodyLength 11 = .ok (.getfield 201, 3) := by decide +kernel
theorem dX10_melodyLength_14 : decode cX10_melodyLength 14 = .ok (.iload_n 1, 1) := by decide +kernel
theorem dX10_melodyLength_15 : decode cX10_melodyLength 15 = .ok (.iaload, 1) := by decide +kernel
theorem dX10_melodyLength_16 : decode cX10_melodyLength 16 = .ok (.ireturn, 1) := by decide +kernel
def f_X10_melodyLength (x_valley_melodies_lengths : (Nat → Int32)) (p1 : Int32) : Option ((Int32 ⊕ String)) :=
  q_bd (f_X10_requireHerd p1) (fun q1 =>
  q_sm q1 (fun X => some (Sum.inr X)) (fun r2 =>
  q_gd (q_in p1 4) (
  some (Sum.inl (x_valley_melodies_lengths (p1.toNatClampNeg))))))
theorem hv_X10_melodyLength : yX10_melodyLength.cls = RX10 ∧ yX10_melodyLength.cls ≠ "java/lang/invoke/MethodHandle" ∧ yX10_melodyLength.cls ≠ "java/lang/invoke/VarHandle" ∧ (parseMethodDescriptor yX10_melodyLength.desc).map (fun d => d.parameters.length) = some 1 := by decide +kernel
abbrev rm_X10_melodyLength : Room := { frames := 7, cells := 1, slots := 6, locals := 102 }
set_option maxHeartbeats 4000000 in
set_option maxRecDepth 100000 in
theorem k_X10_melodyLength (l : Launch) (E : ET) (a : Nat → Nat) (o : Nat) (x : VB_t) (p1 : Int32) (res : (Int32 ⊕ String)) (hF : f_X10_melodyLength x.1.1.2.2.1.1 p1 = some res) (sz : Nat) (hlt : l.stackTraces = false) : CxI l yX10_melodyLength (mws yX10_melodyLength cX10_melodyLength 2 (some .int)) rm_X10_melodyLength 1 6 [.ref (a o), .int p1] E (bl_VB E a o x) res (bl_VB E a o x) sz := by
  refine mk_X (by decide +kernel) (Nat.le_of_ble_eq_true rfl) ?_
  intro p e s m below meth c A args Q ls hAe hsz hQ hx hb hr hml hin ha hown hlocks hA hz hzs hst hexc hP hD hS hl
  have hown : s.vm.findClass RX10 = some m.cls := hown
  rw [hAe] at hQ
  subst hsz
  have hP : va_P E.1 vwCl (List.flatten [w_VBR a o x.2.2.2.1 x.2.2.2.2.1 x.2.2.2.2.2, w_ValleyR a (o + 1), w_Key E a (o + 2) x.1.1.1, w_Bells E a (o + 3) x.1.1.2.1, w_Mel E a (o + 6) x.1.1.2.2.1, w_Cliffs E a (o + 10) x.1.1.2.2.2, w_ValleyR a (o + 13), w_Key E a (o + 14) x.1.2.1.1, w_Bells E a (o + 15) x.1.2.1.2.1, w_Mel E a (o + 18) x.1.2.1.2.2.1, w_Cliffs E a (o + 22) x.1.2.1.2.2.2, w_Prog E a (o + 25) x.1.2.2.2.1, w_Chord E a (o + 31) x.1.2.2.2.2, w_Key E a (o + 34) x.2.1, w_Line E a (o + 35) x.2.2.1, w_Hist E a (o + 37) x.1.2.2.1]) s.heap := hP
  have hD : va_D A (List.flatten [w_VBR a o x.2.2.2.1 x.2.2.2.2.1 x.2.2.2.2.2, w_ValleyR a (o + 1), w_Key E a (o + 2) x.1.1.1, w_Bells E a (o + 3) x.1.1.2.1, w_Mel E a (o + 6) x.1.1.2.2.1, w_Cliffs E a (o + 10) x.1.1.2.2.2, w_ValleyR a (o + 13), w_Key E a (o + 14) x.1.2.1.1, w_Bells E a (o + 15) x.1.2.1.2.1, w_Mel E a (o + 18) x.1.2.1.2.2.1, w_Cliffs E a (o + 22) x.1.2.1.2.2.2, w_Prog E a (o + 25) x.1.2.2.2.1, w_Chord E a (o + 31) x.1.2.2.2.2, w_Key E a (o + 34) x.2.1, w_Line E a (o + 35) x.2.2.1, w_Hist E a (o + 37) x.1.2.2.1]) := hD
  have hl : lv_has ls 2 [(0, .ref (a o)), (1, .int p1)] := hl
  generalize hHe : s.heap = H at hP
  have hS : va_S A s.heap H [] := by rw [← hHe]; exact hS
  generalize ([] : List Loc) = locs at hS ⊢
  unfold f_X10_melodyLength at hF
  refine lv_iload_n hx hb dX10_melodyLength_0 rfl (lv_at hl 1 rfl) ?_
  obtain ⟨q1, hq1, hF⟩ := q_bdi hF
  refine cx_v (ro := q1) (Lc := []) (Lc' := []) (L' := [w_VBR a o x.2.2.2.1 x.2.2.2.2.1 x.2.2.2.2.2, w_ValleyR a (o + 1), w_Key E a (o + 2) x.1.1.1, w_Bells E a (o + 3) x.1.1.2.1, w_Mel E a (o + 6) x.1.1.2.2.1, w_Cliffs E a (o + 10) x.1.1.2.2.2, w_ValleyR a (o + 13), w_Key E a (o + 14) x.1.2.1.1, w_Bells E a (o + 15) x.1.2.1.2.1, w_Mel E a (o + 18) x.1.2.1.2.2.1, w_Cliffs E a (o + 22) x.1.2.1.2.2.2, w_Prog E a (o + 25) x.1.2.2.2.1, w_Chord E a (o + 31) x.1.2.2.2.2, w_Key E a (o + 34) x.2.1, w_Line E a (o + 35) x.2.2.1, w_Hist E a (o + 37) x.1.2.2.1]) (vx_runS (As := [.int p1]) (rest := []) ⟨hx, hb, hml, hown, ha⟩ (k_X10_requireHerd l E p1 q1 hq1 H.size hlt) (cwS 1 ha (gi_S (fun _ h => h) mw803 mw804 mw26 mw805) rfl rfl rfl hv_X10_requireHerd ⟨(Nat.le_of_ble_eq_true rfl), (Nat.le_of_ble_eq_true rfl)⟩) ⟨pre_blind, pre_at hP hD hS hz hzs hst [] (by decide) rfl rfl⟩ rfl rfl hl.1 rfl (lv_room (Nat.le_of_ble_eq_true rfl)) dX10_melodyLength_1 ⟨(Nat.le_of_ble_eq_true rfl), (Nat.le_of_ble_eq_true rfl)⟩) hP hD hS hA [] (by decide) rfl rfl rfl rfl (fun X ce q9 H locs eX h1 h2 h3 hP hD hS => ?_) (fun r2 H locs er2 hP hD hS => ?_)
  · have hF := q_smr eX hF
    obtain rfl := Option.some.inj hF
    exact en_out hQ (Nat.le_of_ble_eq_true rfl) (Nat.le_of_ble_eq_true rfl) hexc hlocks h1 h2 h3 hP hD hS rfl
  have hF := q_sml er2 hF
  refine lv_aload_n hx hb dX10_melodyLength_4 rfl (lv_at hl 0 rfl) ?_
  refine va_get (D := E.1) (ci := 11) (v := .ref (a (o + 1))) (C := RX10) (T := TX10) (N := 10) hx hb ha in_X10 hown hst.k hP 0 rfl rfl 0 (by decide) (ha _ mw284) (fun _ h9 => h9) rfl dX10_melodyLength_5 ?_
  refine va_getN (D := E.1) (ci := 10) (v := .ref (a (o + 6))) (C := RX9) (T := TX9) (N := 4) hx hb ha in_X9 hown hst.k hP 1 rfl rfl 2 (by decide) (va_Nw.use rfl (nf19 hst)) (fun _ h9 => h9) rfl dX10_melodyLength_8 ?_
  refine va_getN (D := E.1) (ci := 8) (v := .ref (a (o + 7))) (C := RX7) (T := TX7) (N := 3) hx hb ha in_X7 hown hst.k hP 6 rfl rfl 0 (by decide) (va_Nw.use rfl (nf7 hst)) (fun _ h9 => h9) rfl dX10_melodyLength_11 ?_
  refine lv_iload_n hx hb dX10_melodyLength_14 rfl (lv_at hl 1 rfl) ?_
  obtain ⟨g3, hF⟩ := q_gdi hF
  refine vi_iald hx hb hst.k hP 7 0 rfl rfl (f := x.1.1.2.2.1.1) (k := p1.toNatClampNeg) rfl g3 dX10_melodyLength_15 ?_
  obtain rfl := Option.some.inj hF
  exact en_xi hQ (Nat.le_of_ble_eq_true rfl) (Nat.le_of_ble_eq_true rfl) hx hb hr hlocks hP hD hS rfl dX10_melodyLength_16

/-! X10_tone -/
theorem dX10_tone_0 : decode cX10_tone 0 = .ok (.iload_n 1, 1) := by decide +kernel
theorem dX10_tone_1 : decode cX10_tone 1 = .ok (.invokestatic 194, 3) := by decide +kernel
theorem dX10_tone_4 : decode cX10_tone 4 = .ok (.aload_n 0, 1) := by decide +kernel
theorem dX10_tone_5 : decode cX10_tone 5 = .ok (.getfield 10, 3) := by decide +kernel
theorem dX10_tone_8 : decode cX10_tone 8 = .ok (.getfield 197, 3) := by decide +kernel
theorem dX10_tone_11 : decode cX10_tone 11 = .ok (.iload_n 1, 1) := by decide +kernel
theorem dX10_tone_12 : decode cX10_tone 12 = .ok (.iload_n 2, 1) := by decide +kernel
theorem dX10_tone_13 : decode cX10_tone 13 = .ok (.invokevirtual 206, 3) := by decide +kernel
theorem dX10_tone_16 : decode cX10_tone 16 = .ok (.ifCond .ne 13, 3) := by decide +kernel
theorem dX10_tone_19 : decode cX10_tone 19 = .ok (.new 155, 3) := by decide +kernel
theorem dX10_tone_22 : decode cX10_tone 22 = .ok (.dup, 1) := by decide +kernel
theorem dX10_tone_23 : decode cX10_tone 23 = .ok (.ldc 210, 2) := by decide +kernel
theorem dX10_tone_25 : decode cX10_tone 25 = .ok (.invokespecial 159, 3) := by decide +kernel
theorem dX10_tone_28 : decode cX10_tone 28 = .ok (.athrow, 1) := by decide +kernel
theorem dX10_tone_29 : decode cX10_tone 29 = .ok (.aload_n 0, 1) := by decide +kernel
theorem dX10_tone_30 : decode cX10_tone 30 = .ok (.getfield 10, 3) := by decide +kernel
theorem dX10_tone_33 : decode cX10_tone 33 = .ok (.getfield 197, 3) := by decide +kernel
theorem dX10_tone_36 : decode cX10_tone 36 = .ok (.iload_n 1, 1) := by decide +kernel
theorem dX10_tone_37 : decode cX10_tone 37 = .ok (.iload_n 2, 1) := by decide +kernel
theorem dX10_tone_38 : decode cX10_tone 38 = .ok (.invokevirtual 212, 3) := by decide +kernel
theorem dX10_tone_41 : decode cX10_tone 41 = .ok (.ireturn, 1) := by decide +kernel
def f_X10_tone (x_valley_melodies_lengths : (Nat → Int32)) (x_valley_melodies_tones : (Nat → Int32)) (p1 : Int32) (p2 : Int32) : Option ((Int32 ⊕ String)) :=
  q_bd (f_X10_requireHerd p1) (fun q1 =>
  q_sm q1 (fun X => some (Sum.inr X)) (fun r2 =>
  q_bd (f_X7_has x_valley_melodies_lengths p1 p2) (fun q3 =>
  q_br (q3 = 0) (
  some (Sum.inr "java/util/NoSuchElementException")) (
  q_bd (f_X7_bellOf x_valley_melodies_tones p1 p2) (fun q4 =>
  some (Sum.inl q4))))))
theorem hv_X10_tone : yX10_tone.cls = RX10 ∧ yX10_tone.cls ≠ "java/lang/invoke/MethodHandle" ∧ yX10_tone.cls ≠ "java/lang/invoke/VarHandle" ∧ (parseMethodDescriptor yX10_tone.desc).map (fun d => d.parameters.length) = some 2 := by decide +kernel
abbrev rm_X10_tone : Room := { frames := 7, cells := 2, slots := 12, locals := 102 }
set_option maxHeartbeats 4000000 in
set_option maxRecDepth 100000 in
theorem k_X10_tone (l : Launch) (E : ET) (a : Nat → Nat) (o : Nat) (x : VB_t) (p1 : Int32) (p2 : Int32) (res : (Int32 ⊕ String)) (hF : f_X10_tone x.1.1.2.2.1.1 x.1.1.2.2.1.2.2 p1 p2 = some res) (sz : Nat) (hlt : l.stackTraces = false) : CxI l yX10_tone (mws yX10_tone cX10_tone 3 (some .int)) rm_X10_tone 2 12 [.ref (a o), .int p1, .int p2] E (bl_VB E a o x) res (bl_VB E a o x) sz := by
  refine mk_X (by decide +kernel) (Nat.le_of_ble_eq_true rfl) ?_
  intro p e s m below meth c A args Q ls hAe hsz hQ hx hb hr hml hin ha hown hlocks hA hz hzs hst hexc hP hD hS hl
  have hown : s.vm.findClass RX10 = some m.cls := hown
  rw [hAe] at hQ
  subst hsz
  have hP : va_P E.1 vwCl (List.flatten [w_VBR a o x.2.2.2.1 x.2.2.2.2.1 x.2.2.2.2.2, w_ValleyR a (o + 1), w_Key E a (o + 2) x.1.1.1, w_Bells E a (o + 3) x.1.1.2.1, w_Mel E a (o + 6) x.1.1.2.2.1, w_Cliffs E a (o + 10) x.1.1.2.2.2, w_ValleyR a (o + 13), w_Key E a (o + 14) x.1.2.1.1, w_Bells E a (o + 15) x.1.2.1.2.1, w_Mel E a (o + 18) x.1.2.1.2.2.1, w_Cliffs E a (o + 22) x.1.2.1.2.2.2, w_Prog E a (o + 25) x.1.2.2.2.1, w_Chord E a (o + 31) x.1.2.2.2.2, w_Key E a (o + 34) x.2.1, w_Line E a (o + 35) x.2.2.1, w_Hist E a (o + 37) x.1.2.2.1]) s.heap := hP
  have hD : va_D A (List.flatten [w_VBR a o x.2.2.2.1 x.2.2.2.2.1 x.2.2.2.2.2, w_ValleyR a (o + 1), w_Key E a (o + 2) x.1.1.1, w_Bells E a (o + 3) x.1.1.2.1, w_Mel E a (o + 6) x.1.1.2.2.1, w_Cliffs E a (o + 10) x.1.1.2.2.2, w_ValleyR a (o + 13), w_Key E a (o + 14) x.1.2.1.1, w_Bells E a (o + 15) x.1.2.1.2.1, w_Mel E a (o + 18) x.1.2.1.2.2.1, w_Cliffs E a (o + 22) x.1.2.1.2.2.2, w_Prog E a (o + 25) x.1.2.2.2.1, w_Chord E a (o + 31) x.1.2.2.2.2, w_Key E a (o + 34) x.2.1, w_Line E a (o + 35) x.2.2.1, w_Hist E a (o + 37) x.1.2.2.1]) := hD
  have hl : lv_has ls 3 [(0, .ref (a o)), (1, .int p1), (2, .int p2)] := hl
  generalize hHe : s.heap = H at hP
  have hS : va_S A s.heap H [] := by rw [← hHe]; exact hS
  generalize ([] : List Loc) = locs at hS ⊢
  unfold f_X10_tone at hF
  refine lv_iload_n hx hb dX10_tone_0 rfl (lv_at hl 1 rfl) ?_
  obtain ⟨q1, hq1, hF⟩ := q_bdi hF
  refine cx_v (ro := q1) (Lc := []) (Lc' := []) (L' := [w_VBR a o x.2.2.2.1 x.2.2.2.2.1 x.2.2.2.2.2, w_ValleyR a (o + 1), w_Key E a (o + 2) x.1.1.1, w_Bells E a (o + 3) x.1.1.2.1, w_Mel E a (o + 6) x.1.1.2.2.1, w_Cliffs E a (o + 10) x.1.1.2.2.2, w_ValleyR a (o + 13), w_Key E a (o + 14) x.1.2.1.1, w_Bells E a (o + 15) x.1.2.1.2.1, w_Mel E a (o + 18) x.1.2.1.2.2.1, w_Cliffs E a (o + 22) x.1.2.1.2.2.2, w_Prog E a (o + 25) x.1.2.2.2.1, w_Chord E a (o + 31) x.1.2.2.2.2, w_Key E a (o + 34) x.2.1, w_Line E a (o + 35) x.2.2.1, w_Hist E a (o + 37) x.1.2.2.1]) (vx_runS (As := [.int p1]) (rest := []) ⟨hx, hb, hml, hown, ha⟩ (k_X10_requireHerd l E p1 q1 hq1 H.size hlt) (cwS 1 ha (gi_S (fun _ h => h) mw803 mw804 mw26 mw805) rfl rfl rfl hv_X10_requireHerd ⟨(Nat.le_of_ble_eq_true rfl), (Nat.le_of_ble_eq_true rfl)⟩) ⟨pre_blind, pre_at hP hD hS hz hzs hst [] (by decide) rfl rfl⟩ rfl rfl hl.1 rfl (lv_room (Nat.le_of_ble_eq_true rfl)) dX10_tone_1 ⟨(Nat.le_of_ble_eq_true rfl), (Nat.le_of_ble_eq_true rfl)⟩) hP hD hS hA [] (by decide) rfl rfl rfl rfl (fun X ce q9 H locs eX h1 h2 h3 hP hD hS => ?_) (fun r2 H locs er2 hP hD hS => ?_)
  · have hF := q_smr eX hF
    obtain rfl := Option.some.inj hF
    exact en_out hQ (Nat.le_of_ble_eq_true rfl) (Nat.le_of_ble_eq_true rfl) hexc hlocks h1 h2 h3 hP hD hS rfl
  have hF := q_sml er2 hF
  refine lv_aload_n hx hb dX10_tone_4 rfl (lv_at hl 0 rfl) ?_
  refine va_get (D := E.1) (ci := 11) (v := .ref (a (o + 1))) (C := RX10) (T := TX10) (N := 10) hx hb ha in_X10 hown hst.k hP 0 rfl rfl 0 (by decide) (ha _ mw284) (fun _ h9 => h9) rfl dX10_tone_5 ?_
  refine va_getN (D := E.1) (ci := 10) (v := .ref (a (o + 6))) (C := RX9) (T := TX9) (N := 4) hx hb ha in_X9 hown hst.k hP 1 rfl rfl 2 (by decide) (va_Nw.use rfl (nf19 hst)) (fun _ h9 => h9) rfl dX10_tone_8 ?_
  refine lv_iload_n hx hb dX10_tone_11 rfl (lv_at hl 1 rfl) ?_
  refine lv_iload_n hx hb dX10_tone_12 rfl (lv_at hl 2 rfl) ?_
  obtain ⟨q3, hq3, hF⟩ := q_bdi hF
  refine cl_i (Lc := [w_Mel E a (o + 6) x.1.1.2.2.1]) (Lc' := [w_Mel E a (o + 6) x.1.1.2.2.1]) (L' := [w_VBR a o x.2.2.2.1 x.2.2.2.2.1 x.2.2.2.2.2, w_ValleyR a (o + 1), w_Key E a (o + 2) x.1.1.1, w_Bells E a (o + 3) x.1.1.2.1, w_Mel E a (o + 6) x.1.1.2.2.1, w_Cliffs E a (o + 10) x.1.1.2.2.2, w_ValleyR a (o + 13), w_Key E a (o + 14) x.1.2.1.1, w_Bells E a (o + 15) x.1.2.1.2.1, w_Mel E a (o + 18) x.1.2.1.2.2.1, w_Cliffs E a (o + 22) x.1.2.1.2.2.2, w_Prog E a (o + 25) x.1.2.2.2.1, w_Chord E a (o + 31) x.1.2.2.2.2, w_Key E a (o + 34) x.2.1, w_Line E a (o + 35) x.2.2.1, w_Hist E a (o + 37) x.1.2.2.1]) (rv := q3) (va_runV (As := [.int p1, .int p2]) (rest := []) ⟨hx, hb, hml, hown, ha⟩ (k_X7_has l E a (o + 6) x.1.1.2.2.1 p1 p2 q3 hq3 H.size) (cwV 2 ha (gi_V (fun _ h => h) mw812 mw813 mw814 mw30 mw815) rfl rfl rfl hv_X7_has ⟨(Nat.le_of_ble_eq_true rfl), (Nat.le_of_ble_eq_true rfl)⟩) ⟨pre_blind, va_recv hst.k (fr_P hP [4] rfl) (ci := 8) (q0 := 0) rfl rfl, pre_at hP hD hS hz hzs hst [4] (by decide) rfl rfl⟩ rfl rfl hl.1 rfl (lv_room (Nat.le_of_ble_eq_true rfl)) dX10_tone_13 ⟨(Nat.le_of_ble_eq_true rfl), (Nat.le_of_ble_eq_true rfl)⟩) hP hD hS hA [4] (by decide) rfl rfl rfl rfl (fun H locs hP hD hS => ?_)
  refine lv_if_ne (tgt := 29) hx hb dX10_tone_16 (by decide) (fun c16 => ?_) (fun c16 => ?_)
  · have hF := q_brn c16 hF
    refine lv_aload_n hx hb dX10_tone_29 rfl (lv_at hl 0 rfl) ?_
    refine va_get (D := E.1) (ci := 11) (v := .ref (a (o + 1))) (C := RX10) (T := TX10) (N := 10) hx hb ha in_X10 hown hst.k hP 0 rfl rfl 0 (by decide) (ha _ mw284) (fun _ h9 => h9) rfl dX10_tone_30 ?_
    refine va_getN (D := E.1) (ci := 10) (v := .ref (a (o + 6))) (C := RX9) (T := TX9) (N := 4) hx hb ha in_X9 hown hst.k hP 1 rfl rfl 2 (by decide) (va_Nw.use rfl (nf19 hst)) (fun _ h9 => h9) rfl dX10_tone_33 ?_
    refine lv_iload_n hx hb dX10_tone_36 rfl (lv_at hl 1 rfl) ?_
    refine lv_iload_n hx hb dX10_tone_37 rfl (lv_at hl 2 rfl) ?_
    obtain ⟨q4, hq4, hF⟩ := q_bdi hF
    refine cl_i (Lc := [w_Mel E a (o + 6) x.1.1.2.2.1]) (Lc' := [w_Mel E a (o + 6) x.1.1.2.2.1]) (L' := [w_VBR a o x.2.2.2.1 x.2.2.2.2.1 x.2.2.2.2.2, w_ValleyR a (o + 1), w_Key E a (o + 2) x.1.1.1, w_Bells E a (o + 3) x.1.1.2.1, w_Mel E a (o + 6) x.1.1.2.2.1, w_Cliffs E a (o + 10) x.1.1.2.2.2, w_ValleyR a (o + 13), w_Key E a (o + 14) x.1.2.1.1, w_Bells E a (o + 15) x.1.2.1.2.1, w_Mel E a (o + 18) x.1.2.1.2.2.1, w_Cliffs E a (o + 22) x.1.2.1.2.2.2, w_Prog E a (o + 25) x.1.2.2.2.1, w_Chord E a (o + 31) x.1.2.2.2.2, w_Key E a (o + 34) x.2.1, w_Line E a (o + 35) x.2.2.1, w_Hist E a (o + 37) x.1.2.2.1]) (rv := q4) (va_runV (As := [.int p1, .int p2]) (rest := []) ⟨hx, hb, hml, hown, ha⟩ (k_X7_bellOf l E a (o + 6) x.1.1.2.2.1 p1 p2 q4 hq4 H.size) (cwV 2 ha (gi_V (fun _ h => h) mw817 mw818 mw819 mw30 mw820) rfl rfl rfl hv_X7_bellOf ⟨(Nat.le_of_ble_eq_true rfl), (Nat.le_of_ble_eq_true rfl)⟩) ⟨pre_blind, va_recv hst.k (fr_P hP [4] rfl) (ci := 8) (q0 := 0) rfl rfl, pre_at hP hD hS hz hzs hst [4] (by decide) rfl rfl⟩ rfl rfl hl.1 rfl (lv_room (Nat.le_of_ble_eq_true rfl)) dX10_tone_38 ⟨(Nat.le_of_ble_eq_true rfl), (Nat.le_of_ble_eq_true rfl)⟩) hP hD hS hA [4] (by decide) rfl rfl rfl rfl (fun H locs hP hD hS => ?_)
    obtain rfl := Option.some.inj hF
    exact en_xi hQ (Nat.le_of_ble_eq_true rfl) (Nat.le_of_ble_eq_true rfl) hx hb hr hlocks hP hD hS rfl dX10_tone_41
  · have hF := q_brp c16 hF
    obtain rfl := Option.some.inj hF
    exact en_thN hQ hx hb hlt ha hst hz hA hml hl.1 hown mw734 (sr_210 E) nw_link dX10_tone_19 dX10_tone_22 dX10_tone_23 dX10_tone_25 dX10_tone_28 hexc (Nat.le_of_ble_eq_true rfl) (Nat.le_of_ble_eq_true rfl) (Nat.le_of_ble_eq_true rfl) (Nat.le_of_ble_eq_true rfl) hlocks (Nat.le_of_ble_eq_true rfl) (Nat.le_of_ble_eq_true rfl) hP hD hS rfl

/-! X10_entry -/
theorem dX10_entry_0 : decode cX10_entry 0 = .ok (.iload_n 1, 1) := by decide +kernel
theorem dX10_entry_1 : decode cX10_entry 1 = .ok (.invokestatic 194, 3) := by decide +kernel
theorem dX10_entry_4 : decode cX10_entry 4 = .ok (.aload_n 0, 1) := by decide +kernel
theorem dX10_entry_5 : decode cX10_entry 5 = .ok (.getfield 10, 3) := by decide +kernel
theorem dX10_entry_8 : decode cX10_entry 8 = .ok (.getfield 197, 3) := by decide +kernel
theorem dX10_entry_11 : decode cX10_entry 11 = .ok (.getfield 216, 3) := by decide +kernel
theorem dX10_entry_14 : decode cX10_entry 14 = .ok (.iload_n 1, 1) := by decide +kernel
theorem dX10_entry_15 : decode cX10_entry 15 = .ok (.iaload, 1) := by decide +kernel
theorem dX10_entry_16 : decode cX10_entry 16 = .ok (.ireturn, 1) := by decide +kernel
def f_X10_entry (x_valley_melodies_entries : (Nat → Int32)) (p1 : Int32) : Option ((Int32 ⊕ String)) :=
  q_bd (f_X10_requireHerd p1) (fun q1 =>
  q_sm q1 (fun X => some (Sum.inr X)) (fun r2 =>
  q_gd (q_in p1 4) (
  some (Sum.inl (x_valley_melodies_entries (p1.toNatClampNeg))))))
theorem hv_X10_entry : yX10_entry.cls = RX10 ∧ yX10_entry.cls ≠ "java/lang/invoke/MethodHandle" ∧ yX10_entry.cls ≠ "java/lang/invoke/VarHandle" ∧ (parseMethodDescriptor yX10_entry.desc).map (fun d => d.parameters.length) = some 1 := by decide +kernel
abbrev rm_X10_entry : Room := { frames := 7, cells := 1, slots := 6, locals := 102 }
set_option maxHeartbeats 4000000 in
set_option maxRecDepth 100000 in
theorem k_X10_entry (l : Launch) (E : ET) (a : Nat → Nat) (o : Nat) (x : VB_t) (p1 : Int32) (res : (Int32 ⊕ String)) (hF : f_X10_entry x.1.1.2.2.1.2.1 p1 = some res) (sz : Nat) (hlt : l.stackTraces = false) : CxI l yX10_entry (mws yX10_entry cX10_entry 2 (some .int)) rm_X10_entry 1 6 [.ref (a o), .int p1] E (bl_VB E a o x) res (bl_VB E a o x) sz := by
  refine mk_X (by decide +kernel) (Nat.le_of_ble_eq_true rfl) ?_
  intro p e s m below meth c A args Q ls hAe hsz hQ hx hb hr hml hin ha hown hlocks hA hz hzs hst hexc hP hD hS hl
  have hown : s.vm.findClass RX10 = some m.cls := hown
  rw [hAe] at hQ
  subst hsz
  have hP : va_P E.1 vwCl (List.flatten [w_VBR a o x.2.2.2.1 x.2.2.2.2.1 x.2.2.2.2.2, w_ValleyR a (o + 1), w_Key E a (o + 2) x.1.1.1, w_Bells E a (o + 3) x.1.1.2.1, w_Mel E a (o + 6) x.1.1.2.2.1, w_Cliffs E a (o + 10) x.1.1.2.2.2, w_ValleyR a (o + 13), w_Key E a (o + 14) x.1.2.1.1, w_Bells E a (o + 15) x.1.2.1.2.1, w_Mel E a (o + 18) x.1.2.1.2.2.1, w_Cliffs E a (o + 22) x.1.2.1.2.2.2, w_Prog E a (o + 25) x.1.2.2.2.1, w_Chord E a (o + 31) x.1.2.2.2.2, w_Key E a (o + 34) x.2.1, w_Line E a (o + 35) x.2.2.1, w_Hist E a (o + 37) x.1.2.2.1]) s.heap := hP
  have hD : va_D A (List.flatten [w_VBR a o x.2.2.2.1 x.2.2.2.2.1 x.2.2.2.2.2, w_ValleyR a (o + 1), w_Key E a (o + 2) x.1.1.1, w_Bells E a (o + 3) x.1.1.2.1, w_Mel E a (o + 6) x.1.1.2.2.1, w_Cliffs E a (o + 10) x.1.1.2.2.2, w_ValleyR a (o + 13), w_Key E a (o + 14) x.1.2.1.1, w_Bells E a (o + 15) x.1.2.1.2.1, w_Mel E a (o + 18) x.1.2.1.2.2.1, w_Cliffs E a (o + 22) x.1.2.1.2.2.2, w_Prog E a (o + 25) x.1.2.2.2.1, w_Chord E a (o + 31) x.1.2.2.2.2, w_Key E a (o + 34) x.2.1, w_Line E a (o + 35) x.2.2.1, w_Hist E a (o + 37) x.1.2.2.1]) := hD
  have hl : lv_has ls 2 [(0, .ref (a o)), (1, .int p1)] := hl
  generalize hHe : s.heap = H at hP
  have hS : va_S A s.heap H [] := by rw [← hHe]; exact hS
  generalize ([] : List Loc) = locs at hS ⊢
  unfold f_X10_entry at hF
  refine lv_iload_n hx hb dX10_entry_0 rfl (lv_at hl 1 rfl) ?_
  obtain ⟨q1, hq1, hF⟩ := q_bdi hF
  refine cx_v (ro := q1) (Lc := []) (Lc' := []) (L' := [w_VBR a o x.2.2.2.1 x.2.2.2.2.1 x.2.2.2.2.2, w_ValleyR a (o + 1), w_Key E a (o + 2) x.1.1.1, w_Bells E a (o + 3) x.1.1.2.1, w_Mel E a (o + 6) x.1.1.2.2.1, w_Cliffs E a (o + 10) x.1.1.2.2.2, w_ValleyR a (o + 13), w_Key E a (o + 14) x.1.2.1.1, w_Bells E a (o + 15) x.1.2.1.2.1, w_Mel E a (o + 18) x.1.2.1.2.2.1, w_Cliffs E a (o + 22) x.1.2.1.2.2.2, w_Prog E a (o + 25) x.1.2.2.2.1, w_Chord E a (o + 31) x.1.2.2.2.2, w_Key E a (o + 34) x.2.1, w_Line E a (o + 35) x.2.2.1, w_Hist E a (o + 37) x.1.2.2.1]) (vx_runS (As := [.int p1]) (rest := []) ⟨hx, hb, hml, hown, ha⟩ (k_X10_requireHerd l E p1 q1 hq1 H.size hlt) (cwS 1 ha (gi_S (fun _ h => h) mw803 mw804 mw26 mw805) rfl rfl rfl hv_X10_requireHerd ⟨(Nat.le_of_ble_eq_true rfl), (Nat.le_of_ble_eq_true rfl)⟩) ⟨pre_blind, pre_at hP hD hS hz hzs hst [] (by decide) rfl rfl⟩ rfl rfl hl.1 rfl (lv_room (Nat.le_of_ble_eq_true rfl)) dX10_entry_1 ⟨(Nat.le_of_ble_eq_true rfl), (Nat.le_of_ble_eq_true rfl)⟩) hP hD hS hA [] (by decide) rfl rfl rfl rfl (fun X ce q9 H locs eX h1 h2 h3 hP hD hS => ?_) (fun r2 H locs er2 hP hD hS => ?_)
  · have hF := q_smr eX hF
    obtain rfl := Option.some.inj hF
    exact en_out hQ (Nat.le_of_ble_eq_true rfl) (Nat.le_of_ble_eq_true rfl) hexc hlocks h1 h2 h3 hP hD hS rfl
  have hF := q_sml er2 hF
  refine lv_aload_n hx hb dX10_entry_4 rfl (lv_at hl 0 rfl) ?_
  refine va_get (D := E.1) (ci := 11) (v := .ref (a (o + 1))) (C := RX10) (T := TX10) (N := 10) hx hb ha in_X10 hown hst.k hP 0 rfl rfl 0 (by decide) (ha _ mw284) (fun _ h9 => h9) rfl dX10_entry_5 ?_
  refine va_getN (D := E.1) (ci := 10) (v := .ref (a (o + 6))) (C := RX9) (T := TX9) (N := 4) hx hb ha in_X9 hown hst.k hP 1 rfl rfl 2 (by decide) (va_Nw.use rfl (nf19 hst)) (fun _ h9 => h9) rfl dX10_entry_8 ?_
  refine va_getN (D := E.1) (ci := 8) (v := .ref (a (o + 8))) (C := RX7) (T := TX7) (N := 3) hx hb ha in_X7 hown hst.k hP 6 rfl rfl 1 (by decide) (va_Nw.use rfl (nf8 hst)) (fun _ h9 => h9) rfl dX10_entry_11 ?_
  refine lv_iload_n hx hb dX10_entry_14 rfl (lv_at hl 1 rfl) ?_
  obtain ⟨g3, hF⟩ := q_gdi hF
  refine vi_iald hx hb hst.k hP 8 0 rfl rfl (f := x.1.1.2.2.1.2.1) (k := p1.toNatClampNeg) rfl g3 dX10_entry_15 ?_
  obtain rfl := Option.some.inj hF
  exact en_xi hQ (Nat.le_of_ble_eq_true rfl) (Nat.le_of_ble_eq_true rfl) hx hb hr hlocks hP hD hS rfl dX10_entry_16

/-! X10_canonInterval -/
theorem dX10_canonInterval_0 : decode cX10_canonInterval 0 = .ok (.iload_n 1, 1) := by decide +kernel
theorem dX10_canonInterval_1 : decode cX10_canonInterval 1 = .ok (.invokestatic 194, 3) := by decide +kernel
theorem dX10_canonInterval_4 : decode cX10_canonInterval 4 = .ok (.iload_n 2, 1) := by decide +kernel
theorem dX10_canonInterval_5 : decode cX10_canonInterval 5 = .ok (.invokestatic 194, 3) := by decide +kernel
theorem dX10_canonInterval_8 : decode cX10_canonInterval 8 = .ok (.aload_n 0, 1) := by decide +kernel
theorem dX10_canonInterval_9 : decode cX10_canonInterval 9 = .ok (.getfield 10, 3) := by decide +kernel
theorem dX10_canonInterval_12 : decode cX10_canonInterval 12 = .ok (.iload_n 1, 1) := by decide +kernel
theorem dX10_canonInterval_13 : decode cX10_canonInterval 13 = .ok (.iload_n 2, 1) := by decide +kernel
theorem dX10_canonInterval_14 : decode cX10_canonInterval 14 = .ok (.invokevirtual 219, 3) := by decide +kernel
theorem dX10_canonInterval_17 : decode cX10_canonInterval 17 = .ok (.ifCond .ne 13, 3) := by decide +kernel
theorem dX10_canonInterval_20 : decode cX10_canonInterval 20 = .ok (.new 155, 3) := by decide +kernel
theorem dX10_canonInterval_23 : decode cX10_canonInterval 23 = .ok (.dup, 1) := by decide +kernel
theorem dX10_canonInterval_24 : decode cX10_canonInterval 24 = .ok (.ldc 222, 2) := by decide +kernel
theorem dX10_canonInterval_26 : decode cX10_canonInterval 26 = .ok (.invokespecial 159, 3) := by decide +kernel
theorem dX10_canonInterval_29 : decode cX10_canonInterval 29 = .ok (.athrow, 1) := by decide +kernel
theorem dX10_canonInterval_30 : decode cX10_canonInterval 30 = .ok (.aload_n 0, 1) := by decide +kernel
theorem dX10_canonInterval_31 : decode cX10_canonInterval 31 = .ok (.getfield 10, 3) := by decide +kernel
theorem dX10_canonInterval_34 : decode cX10_canonInterval 34 = .ok (.iload_n 1, 1) := by decide +kernel
theorem dX10_canonInterval_35 : decode cX10_canonInterval 35 = .ok (.iload_n 2, 1) := by decide +kernel
theorem dX10_canonInterval_36 : decode cX10_canonInterval 36 = .ok (.iconst 0, 1) := by decide +kernel
theorem dX10_canonInterval_37 : decode cX10_canonInterval 37 = .ok (.invokevirtual 224, 3) := by decide +kernel
theorem dX10_canonInterval_40 : decode cX10_canonInterval 40 = .ok (.ireturn, 1) := by decide +kernel
def f_X10_canonInterval (x_valley_bells_pitches : (Nat → Int32)) (x_valley_melodies_lengths : (Nat → Int32)) (x_valley_melodies_tones : (Nat → Int32)) (p1 : Int32) (p2 : Int32) : Option ((Int32 ⊕ String)) :=
  q_bd (f_X10_requireHerd p1) (fun q1 =>
  q_sm q1 (fun X => some (Sum.inr X)) (fun r2 =>
  q_bd (f_X10_requireHerd p2) (fun q3 =>
  q_sm q3 (fun X => some (Sum.inr X)) (fun r4 =>
  q_bd (f_X9_isCanon x_valley_bells_pitches x_valley_melodies_lengths x_valley_melodies_tones p1 p2) (fun q5 =>
  q_br (q5 = 0) (
  some (Sum.inr "java/util/NoSuchElementException")) (
  q_bd (f_X9_intervalAt x_valley_bells_pitches x_valley_melodies_tones p1 p2 0) (fun q6 =>
  some (Sum.inl q6))))))))
theorem hv_X10_canonInterval : yX10_canonInterval.cls = RX10 ∧ yX10_canonInterval.cls ≠ "java/lang/invoke/MethodHandle" ∧ yX10_canonInterval.cls ≠ "java/lang/invoke/VarHandle" ∧ (parseMethodDescriptor yX10_canonInterval.desc).map (fun d => d.parameters.length) = some 2 := by decide +kernel
abbrev rm_X10_canonInterval : Room := { frames := 7, cells := 3, slots := 18, locals := 132 }
set_option maxHeartbeats 4000000 in
set_option maxRecDepth 100000 in
theorem k_X10_canonInterval (l : Launch) (E : ET) (a : Nat → Nat) (o : Nat) (x : VB_t) (p1 : Int32) (p2 : Int32) (res : (Int32 ⊕ String)) (hF : f_X10_canonInterval x.1.1.2.1.2.1 x.1.1.2.2.1.1 x.1.1.2.2.1.2.2 p1 p2 = some res) (sz : Nat) (hlt : l.stackTraces = false) : CxI l yX10_canonInterval (mws yX10_canonInterval cX10_canonInterval 3 (some .int)) rm_X10_canonInterval 3 18 [.ref (a o), .int p1, .int p2] E (bl_VB E a o x) res (bl_VB E a o x) sz := by
  refine mk_X (by decide +kernel) (Nat.le_of_ble_eq_true rfl) ?_
  intro p e s m below meth c A args Q ls hAe hsz hQ hx hb hr hml hin ha hown hlocks hA hz hzs hst hexc hP hD hS hl
  have hown : s.vm.findClass RX10 = some m.cls := hown
  rw [hAe] at hQ
  subst hsz
  have hP : va_P E.1 vwCl (List.flatten [w_VBR a o x.2.2.2.1 x.2.2.2.2.1 x.2.2.2.2.2, w_ValleyR a (o + 1), w_Key E a (o + 2) x.1.1.1, w_Bells E a (o + 3) x.1.1.2.1, w_Mel E a (o + 6) x.1.1.2.2.1, w_Cliffs E a (o + 10) x.1.1.2.2.2, w_ValleyR a (o + 13), w_Key E a (o + 14) x.1.2.1.1, w_Bells E a (o + 15) x.1.2.1.2.1, w_Mel E a (o + 18) x.1.2.1.2.2.1, w_Cliffs E a (o + 22) x.1.2.1.2.2.2, w_Prog E a (o + 25) x.1.2.2.2.1, w_Chord E a (o + 31) x.1.2.2.2.2, w_Key E a (o + 34) x.2.1, w_Line E a (o + 35) x.2.2.1, w_Hist E a (o + 37) x.1.2.2.1]) s.heap := hP
  have hD : va_D A (List.flatten [w_VBR a o x.2.2.2.1 x.2.2.2.2.1 x.2.2.2.2.2, w_ValleyR a (o + 1), w_Key E a (o + 2) x.1.1.1, w_Bells E a (o + 3) x.1.1.2.1, w_Mel E a (o + 6) x.1.1.2.2.1, w_Cliffs E a (o + 10) x.1.1.2.2.2, w_ValleyR a (o + 13), w_Key E a (o + 14) x.1.2.1.1, w_Bells E a (o + 15) x.1.2.1.2.1, w_Mel E a (o + 18) x.1.2.1.2.2.1, w_Cliffs E a (o + 22) x.1.2.1.2.2.2, w_Prog E a (o + 25) x.1.2.2.2.1, w_Chord E a (o + 31) x.1.2.2.2.2, w_Key E a (o + 34) x.2.1, w_Line E a (o + 35) x.2.2.1, w_Hist E a (o + 37) x.1.2.2.1]) := hD
  have hl : lv_has ls 3 [(0, .ref (a o)), (1, .int p1), (2, .int p2)] := hl
  generalize hHe : s.heap = H at hP
  have hS : va_S A s.heap H [] := by rw [← hHe]; exact hS
  generalize ([] : List Loc) = locs at hS ⊢
  unfold f_X10_canonInterval at hF
  refine lv_iload_n hx hb dX10_canonInterval_0 rfl (lv_at hl 1 rfl) ?_
  obtain ⟨q1, hq1, hF⟩ := q_bdi hF
  refine cx_v (ro := q1) (Lc := []) (Lc' := []) (L' := [w_VBR a o x.2.2.2.1 x.2.2.2.2.1 x.2.2.2.2.2, w_ValleyR a (o + 1), w_Key E a (o + 2) x.1.1.1, w_Bells E a (o + 3) x.1.1.2.1, w_Mel E a (o + 6) x.1.1.2.2.1, w_Cliffs E a (o + 10) x.1.1.2.2.2, w_ValleyR a (o + 13), w_Key E a (o + 14) x.1.2.1.1, w_Bells E a (o + 15) x.1.2.1.2.1, w_Mel E a (o + 18) x.1.2.1.2.2.1, w_Cliffs E a (o + 22) x.1.2.1.2.2.2, w_Prog E a (o + 25) x.1.2.2.2.1, w_Chord E a (o + 31) x.1.2.2.2.2, w_Key E a (o + 34) x.2.1, w_Line E a (o + 35) x.2.2.1, w_Hist E a (o + 37) x.1.2.2.1]) (vx_runS (As := [.int p1]) (rest := []) ⟨hx, hb, hml, hown, ha⟩ (k_X10_requireHerd l E p1 q1 hq1 H.size hlt) (cwS 1 ha (gi_S (fun _ h => h) mw803 mw804 mw26 mw805) rfl rfl rfl hv_X10_requireHerd ⟨(Nat.le_of_ble_eq_true rfl), (Nat.le_of_ble_eq_true rfl)⟩) ⟨pre_blind, pre_at hP hD hS hz hzs hst [] (by decide) rfl rfl⟩ rfl rfl hl.1 rfl (lv_room (Nat.le_of_ble_eq_true rfl)) dX10_canonInterval_1 ⟨(Nat.le_of_ble_eq_true rfl), (Nat.le_of_ble_eq_true rfl)⟩) hP hD hS hA [] (by decide) rfl rfl rfl rfl (fun X ce q9 H locs eX h1 h2 h3 hP hD hS => ?_) (fun r2 H locs er2 hP hD hS => ?_)
  · have hF := q_smr eX hF
    obtain rfl := Option.some.inj hF
    exact en_out hQ (Nat.le_of_ble_eq_true rfl) (Nat.le_of_ble_eq_true rfl) hexc hlocks h1 h2 h3 hP hD hS rfl
  have hF := q_sml er2 hF
  refine lv_iload_n hx hb dX10_canonInterval_4 rfl (lv_at hl 2 rfl) ?_
  obtain ⟨q3, hq3, hF⟩ := q_bdi hF
  refine cx_v (ro := q3) (Lc := []) (Lc' := []) (L' := [w_VBR a o x.2.2.2.1 x.2.2.2.2.1 x.2.2.2.2.2, w_ValleyR a (o + 1), w_Key E a (o + 2) x.1.1.1, w_Bells E a (o + 3) x.1.1.2.1, w_Mel E a (o + 6) x.1.1.2.2.1, w_Cliffs E a (o + 10) x.1.1.2.2.2, w_ValleyR a (o + 13), w_Key E a (o + 14) x.1.2.1.1, w_Bells E a (o + 15) x.1.2.1.2.1, w_Mel E a (o + 18) x.1.2.1.2.2.1, w_Cliffs E a (o + 22) x.1.2.1.2.2.2, w_Prog E a (o + 25) x.1.2.2.2.1, w_Chord E a (o + 31) x.1.2.2.2.2, w_Key E a (o + 34) x.2.1, w_Line E a (o + 35) x.2.2.1, w_Hist E a (o + 37) x.1.2.2.1]) (vx_runS (As := [.int p2]) (rest := []) ⟨hx, hb, hml, hown, ha⟩ (k_X10_requireHerd l E p2 q3 hq3 H.size hlt) (cwS 1 ha (gi_S (fun _ h => h) mw803 mw804 mw26 mw805) rfl rfl rfl hv_X10_requireHerd ⟨(Nat.le_of_ble_eq_true rfl), (Nat.le_of_ble_eq_true rfl)⟩) ⟨pre_blind, pre_at hP hD hS hz hzs hst [] (by decide) rfl rfl⟩ rfl rfl hl.1 rfl (lv_room (Nat.le_of_ble_eq_true rfl)) dX10_canonInterval_5 ⟨(Nat.le_of_ble_eq_true rfl), (Nat.le_of_ble_eq_true rfl)⟩) hP hD hS hA [] (by decide) rfl rfl rfl rfl (fun X ce q9 H locs eX h1 h2 h3 hP hD hS => ?_) (fun r4 H locs er4 hP hD hS => ?_)
  · have hF := q_smr eX hF
    obtain rfl := Option.some.inj hF
    exact en_out hQ (Nat.le_of_ble_eq_true rfl) (Nat.le_of_ble_eq_true rfl) hexc hlocks h1 h2 h3 hP hD hS rfl
  have hF := q_sml er4 hF
  refine lv_aload_n hx hb dX10_canonInterval_8 rfl (lv_at hl 0 rfl) ?_
  refine va_get (D := E.1) (ci := 11) (v := .ref (a (o + 1))) (C := RX10) (T := TX10) (N := 10) hx hb ha in_X10 hown hst.k hP 0 rfl rfl 0 (by decide) (ha _ mw284) (fun _ h9 => h9) rfl dX10_canonInterval_9 ?_
  refine lv_iload_n hx hb dX10_canonInterval_12 rfl (lv_at hl 1 rfl) ?_
  refine lv_iload_n hx hb dX10_canonInterval_13 rfl (lv_at hl 2 rfl) ?_
  obtain ⟨q5, hq5, hF⟩ := q_bdi hF
  refine cl_i (Lc := [w_ValleyR a (o + 1), w_Key E a (o + 2) x.1.1.1, w_Bells E a (o + 3) x.1.1.2.1, w_Mel E a (o + 6) x.1.1.2.2.1, w_Cliffs E a (o + 10) x.1.1.2.2.2]) (Lc' := [w_ValleyR a (o + 1), w_Key E a (o + 2) x.1.1.1, w_Bells E a (o + 3) x.1.1.2.1, w_Mel E a (o + 6) x.1.1.2.2.1, w_Cliffs E a (o + 10) x.1.1.2.2.2]) (L' := [w_VBR a o x.2.2.2.1 x.2.2.2.2.1 x.2.2.2.2.2, w_ValleyR a (o + 1), w_Key E a (o + 2) x.1.1.1, w_Bells E a (o + 3) x.1.1.2.1, w_Mel E a (o + 6) x.1.1.2.2.1, w_Cliffs E a (o + 10) x.1.1.2.2.2, w_ValleyR a (o + 13), w_Key E a (o + 14) x.1.2.1.1, w_Bells E a (o + 15) x.1.2.1.2.1, w_Mel E a (o + 18) x.1.2.1.2.2.1, w_Cliffs E a (o + 22) x.1.2.1.2.2.2, w_Prog E a (o + 25) x.1.2.2.2.1, w_Chord E a (o + 31) x.1.2.2.2.2, w_Key E a (o + 34) x.2.1, w_Line E a (o + 35) x.2.2.1, w_Hist E a (o + 37) x.1.2.2.1]) (rv := q5) (va_runV (As := [.int p1, .int p2]) (rest := []) ⟨hx, hb, hml, hown, ha⟩ (k_X9_isCanon l E a (o + 1) x.1.1 p1 p2 q5 hq5 H.size) (cwV 2 ha (gi_V (fun _ h => h) mw825 mw826 mw827 mw27 mw828) rfl rfl rfl hv_X9_isCanon ⟨(Nat.le_of_ble_eq_true rfl), (Nat.le_of_ble_eq_true rfl)⟩) ⟨pre_blind, va_recv hst.k (fr_P hP [1, 2, 3, 4, 5] rfl) (ci := 10) (q0 := 0) rfl rfl, pre_at hP hD hS hz hzs hst [1, 2, 3, 4, 5] (by decide) rfl rfl⟩ rfl rfl hl.1 rfl (lv_room (Nat.le_of_ble_eq_true rfl)) dX10_canonInterval_14 ⟨(Nat.le_of_ble_eq_true rfl), (Nat.le_of_ble_eq_true rfl)⟩) hP hD hS hA [1, 2, 3, 4, 5] (by decide) rfl rfl rfl rfl (fun H locs hP hD hS => ?_)
  refine lv_if_ne (tgt := 30) hx hb dX10_canonInterval_17 (by decide) (fun c17 => ?_) (fun c17 => ?_)
  · have hF := q_brn c17 hF
    refine lv_aload_n hx hb dX10_canonInterval_30 rfl (lv_at hl 0 rfl) ?_
    refine va_get (D := E.1) (ci := 11) (v := .ref (a (o + 1))) (C := RX10) (T := TX10) (N := 10) hx hb ha in_X10 hown hst.k hP 0 rfl rfl 0 (by decide) (ha _ mw284) (fun _ h9 => h9) rfl dX10_canonInterval_31 ?_
    refine lv_iload_n hx hb dX10_canonInterval_34 rfl (lv_at hl 1 rfl) ?_
    refine lv_iload_n hx hb dX10_canonInterval_35 rfl (lv_at hl 2 rfl) ?_
    refine lv_iconst (v := 0) hx hb dX10_canonInterval_36 (by decide) ?_
    obtain ⟨q6, hq6, hF⟩ := q_bdi hF
    refine cl_i (Lc := [w_ValleyR a (o + 1), w_Key E a (o + 2) x.1.1.1, w_Bells E a (o + 3) x.1.1.2.1, w_Mel E a (o + 6) x.1.1.2.2.1, w_Cliffs E a (o + 10) x.1.1.2.2.2]) (Lc' := [w_ValleyR a (o + 1), w_Key E a (o + 2) x.1.1.1, w_Bells E a (o + 3) x.1.1.2.1, w_Mel E a (o + 6) x.1.1.2.2.1, w_Cliffs E a (o + 10) x.1.1.2.2.2]) (L' := [w_VBR a o x.2.2.2.1 x.2.2.2.2.1 x.2.2.2.2.2, w_ValleyR a (o + 1), w_Key E a (o + 2) x.1.1.1, w_Bells E a (o + 3) x.1.1.2.1, w_Mel E a (o + 6) x.1.1.2.2.1, w_Cliffs E a (o + 10) x.1.1.2.2.2, w_ValleyR a (o + 13), w_Key E a (o + 14) x.1.2.1.1, w_Bells E a (o + 15) x.1.2.1.2.1, w_Mel E a (o + 18) x.1.2.1.2.2.1, w_Cliffs E a (o + 22) x.1.2.1.2.2.2, w_Prog E a (o + 25) x.1.2.2.2.1, w_Chord E a (o + 31) x.1.2.2.2.2, w_Key E a (o + 34) x.2.1, w_Line E a (o + 35) x.2.2.1, w_Hist E a (o + 37) x.1.2.2.1]) (rv := q6) (va_runV (As := [.int p1, .int p2, .int 0]) (rest := []) ⟨hx, hb, hml, hown, ha⟩ (k_X9_intervalAt l E a (o + 1) x.1.1 p1 p2 0 q6 hq6 H.size) (cwV 3 ha (gi_V (fun _ h => h) mw840 mw830 mw831 mw27 mw832) rfl rfl rfl hv_X9_intervalAt ⟨(Nat.le_of_ble_eq_true rfl), (Nat.le_of_ble_eq_true rfl)⟩) ⟨pre_blind, va_recv hst.k (fr_P hP [1, 2, 3, 4, 5] rfl) (ci := 10) (q0 := 0) rfl rfl, pre_at hP hD hS hz hzs hst [1, 2, 3, 4, 5] (by decide) rfl rfl⟩ rfl rfl hl.1 rfl (lv_room (Nat.le_of_ble_eq_true rfl)) dX10_canonInterval_37 ⟨(Nat.le_of_ble_eq_true rfl), (Nat.le_of_ble_eq_true rfl)⟩) hP hD hS hA [1, 2, 3, 4, 5] (by decide) rfl rfl rfl rfl (fun H locs hP hD hS => ?_)
    obtain rfl := Option.some.inj hF
    exact en_xi hQ (Nat.le_of_ble_eq_true rfl) (Nat.le_of_ble_eq_true rfl) hx hb hr hlocks hP hD hS rfl dX10_canonInterval_40
  · have hF := q_brp c17 hF
    obtain rfl := Option.some.inj hF
    exact en_thN hQ hx hb hlt ha hst hz hA hml hl.1 hown mw734 (sr_222 E) nw_link dX10_canonInterval_20 dX10_canonInterval_23 dX10_canonInterval_24 dX10_canonInterval_26 dX10_canonInterval_29 hexc (Nat.le_of_ble_eq_true rfl) (Nat.le_of_ble_eq_true rfl) (Nat.le_of_ble_eq_true rfl) (Nat.le_of_ble_eq_true rfl) hlocks (Nat.le_of_ble_eq_true rfl) (Nat.le_of_ble_eq_true rfl) hP hD hS rfl

/-! X10_cliffCount -/
theorem dX10_cliffCount_0 : decode cX10_cliffCount 0 = .ok (.aload_n 0, 1) := by decide +kernel
theorem dX10_cliffCount_1 : decode cX10_cliffCount 1 = .ok (.getfield 10, 3) := by decide +kernel
theorem dX10_cliffCount_4 : decode cX10_cliffCount 4 = .ok (.getfield 228, 3) := by decide +kernel
theorem dX10_cliffCount_7 : decode cX10_cliffCount 7 = .ok (.getfield 232, 3) := by decide +kernel
theorem dX10_cliffCount_10 : decode cX10_cliffCount 10 = .ok (.ireturn, 1) := by decide +kernel
def f_X10_cliffCount (x_valley_cliffs_count : Int32) : Option (Int32) :=
  some x_valley_cliffs_count
theorem hv_X10_cliffCount : yX10_cliffCount.cls = RX10 ∧ yX10_cliffCount.cls ≠ "java/lang/invoke/MethodHandle" ∧ yX10_cliffCount.cls ≠ "java/lang/invoke/VarHandle" ∧ (parseMethodDescriptor yX10_cliffCount.desc).map (fun d => d.parameters.length) = some 0 := by decide +kernel
abbrev rm_X10_cliffCount : Room := { frames := 0, cells := 0, slots := 0, locals := 0 }
set_option maxHeartbeats 4000000 in
set_option maxRecDepth 100000 in
theorem k_X10_cliffCount (l : Launch) (E : ET) (a : Nat → Nat) (o : Nat) (x : VB_t) (res : Int32) (hF : f_X10_cliffCount x.1.1.2.2.2.2.2 = some res) (sz : Nat) : CtI l yX10_cliffCount (mws yX10_cliffCount cX10_cliffCount 1 (some .int)) rm_X10_cliffCount 0 0 [.ref (a o)] E (bl_VB E a o x) res (bl_VB E a o x) sz := by
  refine mk_M (by decide +kernel) (Nat.le_of_ble_eq_true rfl) ?_
  intro p e s m below meth c A args Q ls hAe hsz hQ hx hb hr hml hin ha hown hlocks hA hz hzs hst hP hD hS hl
  have hown : s.vm.findClass RX10 = some m.cls := hown
  rw [hAe] at hQ
  subst hsz
  have hP : va_P E.1 vwCl (List.flatten [w_VBR a o x.2.2.2.1 x.2.2.2.2.1 x.2.2.2.2.2, w_ValleyR a (o + 1), w_Key E a (o + 2) x.1.1.1, w_Bells E a (o + 3) x.1.1.2.1, w_Mel E a (o + 6) x.1.1.2.2.1, w_Cliffs E a (o + 10) x.1.1.2.2.2, w_ValleyR a (o + 13), w_Key E a (o + 14) x.1.2.1.1, w_Bells E a (o + 15) x.1.2.1.2.1, w_Mel E a (o + 18) x.1.2.1.2.2.1, w_Cliffs E a (o + 22) x.1.2.1.2.2.2, w_Prog E a (o + 25) x.1.2.2.2.1, w_Chord E a (o + 31) x.1.2.2.2.2, w_Key E a (o + 34) x.2.1, w_Line E a (o + 35) x.2.2.1, w_Hist E a (o + 37) x.1.2.2.1]) s.heap := hP
  have hD : va_D A (List.flatten [w_VBR a o x.2.2.2.1 x.2.2.2.2.1 x.2.2.2.2.2, w_ValleyR a (o + 1), w_Key E a (o + 2) x.1.1.1, w_Bells E a (o + 3) x.1.1.2.1, w_Mel E a (o + 6) x.1.1.2.2.1, w_Cliffs E a (o + 10) x.1.1.2.2.2, w_ValleyR a (o + 13), w_Key E a (o + 14) x.1.2.1.1, w_Bells E a (o + 15) x.1.2.1.2.1, w_Mel E a (o + 18) x.1.2.1.2.2.1, w_Cliffs E a (o + 22) x.1.2.1.2.2.2, w_Prog E a (o + 25) x.1.2.2.2.1, w_Chord E a (o + 31) x.1.2.2.2.2, w_Key E a (o + 34) x.2.1, w_Line E a (o + 35) x.2.2.1, w_Hist E a (o + 37) x.1.2.2.1]) := hD
  have hl : lv_has ls 1 [(0, .ref (a o))] := hl
  generalize hHe : s.heap = H at hP
  have hS : va_S A s.heap H [] := by rw [← hHe]; exact hS
  generalize ([] : List Loc) = locs at hS ⊢
  unfold f_X10_cliffCount at hF
  refine lv_aload_n hx hb dX10_cliffCount_0 rfl (lv_at hl 0 rfl) ?_
  refine va_get (D := E.1) (ci := 11) (v := .ref (a (o + 1))) (C := RX10) (T := TX10) (N := 10) hx hb ha in_X10 hown hst.k hP 0 rfl rfl 0 (by decide) (ha _ mw284) (fun _ h9 => h9) rfl dX10_cliffCount_1 ?_
  refine va_getN (D := E.1) (ci := 10) (v := .ref (a (o + 10))) (C := RX9) (T := TX9) (N := 4) hx hb ha in_X9 hown hst.k hP 1 rfl rfl 3 (by decide) (va_Nw.use rfl (nf21 hst)) (fun _ h9 => h9) rfl dX10_cliffCount_4 ?_
  refine va_getN (D := E.1) (ci := 5) (v := .int x.1.1.2.2.2.2.2) (C := RX3) (T := TX3) (N := 3) hx hb ha in_X3 hown hst.k hP 10 rfl rfl 2 (by decide) (va_Nw.use rfl (nf14 hst)) (fun _ h9 => h9) rfl dX10_cliffCount_7 ?_
  obtain rfl := Option.some.inj hF
  exact en_i hQ (Nat.le_of_ble_eq_true rfl) (Nat.le_of_ble_eq_true rfl) hx hb hr hlocks hP hD hS rfl dX10_cliffCount_10

/-! X10_delay -/
theorem dX10_delay_0 : decode cX10_delay 0 = .ok (.aload_n 0, 1) := by decide +kernel
theorem dX10_delay_1 : decode cX10_delay 1 = .ok (.iload_n 1, 1) := by decide +kernel
theorem dX10_delay_2 : decode cX10_delay 2 = .ok (.invokevirtual 235, 3) := by decide +kernel
theorem dX10_delay_5 : decode cX10_delay 5 = .ok (.aload_n 0, 1) := by decide +kernel
theorem dX10_delay_6 : decode cX10_delay 6 = .ok (.getfield 10, 3) := by decide +kernel
theorem dX10_delay_9 : decode cX10_delay 9 = .ok (.getfield 228, 3) := by decide +kernel
theorem dX10_delay_12 : decode cX10_delay 12 = .ok (.getfield 238, 3) := by decide +kernel
theorem dX10_delay_15 : decode cX10_delay 15 = .ok (.iload_n 1, 1) := by decide +kernel
theorem dX10_delay_16 : decode cX10_delay 16 = .ok (.iaload, 1) := by decide +kernel
theorem dX10_delay_17 : decode cX10_delay 17 = .ok (.ireturn, 1) := by decide +kernel
def f_X10_delay (x_valley_cliffs_delays : (Nat → Int32)) (x_valley_cliffs_count : Int32) (p1 : Int32) : Option ((Int32 ⊕ String)) :=
  q_bd (f_X10_requireCliff x_valley_cliffs_count p1) (fun q1 =>
  q_sm q1 (fun X => some (Sum.inr X)) (fun r2 =>
  q_gd (q_in p1 4) (
  some (Sum.inl (x_valley_cliffs_delays (p1.toNatClampNeg))))))
theorem hv_X10_delay : yX10_delay.cls = RX10 ∧ yX10_delay.cls ≠ "java/lang/invoke/MethodHandle" ∧ yX10_delay.cls ≠ "java/lang/invoke/VarHandle" ∧ (parseMethodDescriptor yX10_delay.desc).map (fun d => d.parameters.length) = some 1 := by decide +kernel
abbrev rm_X10_delay : Room := { frames := 7, cells := 1, slots := 6, locals := 103 }
set_option maxHeartbeats 4000000 in
set_option maxRecDepth 100000 in
theorem k_X10_delay (l : Launch) (E : ET) (a : Nat → Nat) (o : Nat) (x : VB_t) (p1 : Int32) (res : (Int32 ⊕ String)) (hF : f_X10_delay x.1.1.2.2.2.1 x.1.1.2.2.2.2.2 p1 = some res) (sz : Nat) (hlt : l.stackTraces = false) : CxI l yX10_delay (mws yX10_delay cX10_delay 2 (some .int)) rm_X10_delay 1 6 [.ref (a o), .int p1] E (bl_VB E a o x) res (bl_VB E a o x) sz := by
  refine mk_X (by decide +kernel) (Nat.le_of_ble_eq_true rfl) ?_
  intro p e s m below meth c A args Q ls hAe hsz hQ hx hb hr hml hin ha hown hlocks hA hz hzs hst hexc hP hD hS hl
  have hown : s.vm.findClass RX10 = some m.cls := hown
  rw [hAe] at hQ
  subst hsz
  have hP : va_P E.1 vwCl (List.flatten [w_VBR a o x.2.2.2.1 x.2.2.2.2.1 x.2.2.2.2.2, w_ValleyR a (o + 1), w_Key E a (o + 2) x.1.1.1, w_Bells E a (o + 3) x.1.1.2.1, w_Mel E a (o + 6) x.1.1.2.2.1, w_Cliffs E a (o + 10) x.1.1.2.2.2, w_ValleyR a (o + 13), w_Key E a (o + 14) x.1.2.1.1, w_Bells E a (o + 15) x.1.2.1.2.1, w_Mel E a (o + 18) x.1.2.1.2.2.1, w_Cliffs E a (o + 22) x.1.2.1.2.2.2, w_Prog E a (o + 25) x.1.2.2.2.1, w_Chord E a (o + 31) x.1.2.2.2.2, w_Key E a (o + 34) x.2.1, w_Line E a (o + 35) x.2.2.1, w_Hist E a (o + 37) x.1.2.2.1]) s.heap := hP
  have hD : va_D A (List.flatten [w_VBR a o x.2.2.2.1 x.2.2.2.2.1 x.2.2.2.2.2, w_ValleyR a (o + 1), w_Key E a (o + 2) x.1.1.1, w_Bells E a (o + 3) x.1.1.2.1, w_Mel E a (o + 6) x.1.1.2.2.1, w_Cliffs E a (o + 10) x.1.1.2.2.2, w_ValleyR a (o + 13), w_Key E a (o + 14) x.1.2.1.1, w_Bells E a (o + 15) x.1.2.1.2.1, w_Mel E a (o + 18) x.1.2.1.2.2.1, w_Cliffs E a (o + 22) x.1.2.1.2.2.2, w_Prog E a (o + 25) x.1.2.2.2.1, w_Chord E a (o + 31) x.1.2.2.2.2, w_Key E a (o + 34) x.2.1, w_Line E a (o + 35) x.2.2.1, w_Hist E a (o + 37) x.1.2.2.1]) := hD
  have hl : lv_has ls 2 [(0, .ref (a o)), (1, .int p1)] := hl
  generalize hHe : s.heap = H at hP
  have hS : va_S A s.heap H [] := by rw [← hHe]; exact hS
  generalize ([] : List Loc) = locs at hS ⊢
  unfold f_X10_delay at hF
  refine lv_aload_n hx hb dX10_delay_0 rfl (lv_at hl 0 rfl) ?_
  refine lv_iload_n hx hb dX10_delay_1 rfl (lv_at hl 1 rfl) ?_
  obtain ⟨q1, hq1, hF⟩ := q_bdi hF
  refine cx_v (ro := q1) (Lc := [w_VBR a o x.2.2.2.1 x.2.2.2.2.1 x.2.2.2.2.2, w_ValleyR a (o + 1), w_Key E a (o + 2) x.1.1.1, w_Bells E a (o + 3) x.1.1.2.1, w_Mel E a (o + 6) x.1.1.2.2.1, w_Cliffs E a (o + 10) x.1.1.2.2.2, w_ValleyR a (o + 13), w_Key E a (o + 14) x.1.2.1.1, w_Bells E a (o + 15) x.1.2.1.2.1, w_Mel E a (o + 18) x.1.2.1.2.2.1, w_Cliffs E a (o + 22) x.1.2.1.2.2.2, w_Prog E a (o + 25) x.1.2.2.2.1, w_Chord E a (o + 31) x.1.2.2.2.2, w_Key E a (o + 34) x.2.1, w_Line E a (o + 35) x.2.2.1, w_Hist E a (o + 37) x.1.2.2.1]) (Lc' := [w_VBR a o x.2.2.2.1 x.2.2.2.2.1 x.2.2.2.2.2, w_ValleyR a (o + 1), w_Key E a (o + 2) x.1.1.1, w_Bells E a (o + 3) x.1.1.2.1, w_Mel E a (o + 6) x.1.1.2.2.1, w_Cliffs E a (o + 10) x.1.1.2.2.2, w_ValleyR a (o + 13), w_Key E a (o + 14) x.1.2.1.1, w_Bells E a (o + 15) x.1.2.1.2.1, w_Mel E a (o + 18) x.1.2.1.2.2.1, w_Cliffs E a (o + 22) x.1.2.1.2.2.2, w_Prog E a (o + 25) x.1.2.2.2.1, w_Chord E a (o + 31) x.1.2.2.2.2, w_Key E a (o + 34) x.2.1, w_Line E a (o + 35) x.2.2.1, w_Hist E a (o + 37) x.1.2.2.1]) (L' := [w_VBR a o x.2.2.2.1 x.2.2.2.2.1 x.2.2.2.2.2, w_ValleyR a (o + 1), w_Key E a (o + 2) x.1.1.1, w_Bells E a (o + 3) x.1.1.2.1, w_Mel E a (o + 6) x.1.1.2.2.1, w_Cliffs E a (o + 10) x.1.1.2.2.2, w_ValleyR a (o + 13), w_Key E a (o + 14) x.1.2.1.1, w_Bells E a (o + 15) x.1.2.1.2.1, w_Mel E a (o + 18) x.1.2.1.2.2.1, w_Cliffs E a (o + 22) x.1.2.1.2.2.2, w_Prog E a (o + 25) x.1.2.2.2.1, w_Chord E a (o + 31) x.1.2.2.2.2, w_Key E a (o + 34) x.2.1, w_Line E a (o + 35) x.2.2.1, w_Hist E a (o + 37) x.1.2.2.1]) (vx_runV (As := [.int p1]) (rest := []) ⟨hx, hb, hml, hown, ha⟩ (k_X10_requireCliff l E a o x p1 q1 hq1 H.size hlt) (cwV 1 ha (gi_V (fun _ h => h) mw1178 mw1180 mw24 mw26 mw1181) rfl rfl rfl hv_X10_requireCliff ⟨(Nat.le_of_ble_eq_true rfl), (Nat.le_of_ble_eq_true rfl)⟩) ⟨pre_blind, va_recv hst.k (fr_P hP [0, 1, 2, 3, 4, 5, 6, 7, 8, 9, 10, 11, 12, 13, 14, 15] rfl) (ci := 11) (q0 := 0) rfl rfl, pre_at hP hD hS hz hzs hst [0, 1, 2, 3, 4, 5, 6, 7, 8, 9, 10, 11, 12, 13, 14, 15] (by decide) rfl rfl⟩ rfl rfl hl.1 rfl (lv_room (Nat.le_of_ble_eq_true rfl)) dX10_delay_2 ⟨(Nat.le_of_ble_eq_true rfl), (Nat.le_of_ble_eq_true rfl)⟩) hP hD hS hA [0, 1, 2, 3, 4, 5, 6, 7, 8, 9, 10, 11, 12, 13, 14, 15] (by decide) rfl rfl rfl rfl (fun X ce q9 H locs eX h1 h2 h3 hP hD hS => ?_) (fun r2 H locs er2 hP hD hS => ?_)
  · have hF := q_smr eX hF
    obtain rfl := Option.some.inj hF
    exact en_out hQ (Nat.le_of_ble_eq_true rfl) (Nat.le_of_ble_eq_true rfl) hexc hlocks h1 h2 h3 hP hD hS rfl
  have hF := q_sml er2 hF
  refine lv_aload_n hx hb dX10_delay_5 rfl (lv_at hl 0 rfl) ?_
  refine va_get (D := E.1) (ci := 11) (v := .ref (a (o + 1))) (C := RX10) (T := TX10) (N := 10) hx hb ha in_X10 hown hst.k hP 0 rfl rfl 0 (by decide) (ha _ mw284) (fun _ h9 => h9) rfl dX10_delay_6 ?_
  refine va_getN (D := E.1) (ci := 10) (v := .ref (a (o + 10))) (C := RX9) (T := TX9) (N := 4) hx hb ha in_X9 hown hst.k hP 1 rfl rfl 3 (by decide) (va_Nw.use rfl (nf21 hst)) (fun _ h9 => h9) rfl dX10_delay_9 ?_
  refine va_getN (D := E.1) (ci := 5) (v := .ref (a (o + 11))) (C := RX3) (T := TX3) (N := 3) hx hb ha in_X3 hown hst.k hP 10 rfl rfl 0 (by decide) (va_Nw.use rfl (nf10 hst)) (fun _ h9 => h9) rfl dX10_delay_12 ?_
  refine lv_iload_n hx hb dX10_delay_15 rfl (lv_at hl 1 rfl) ?_
  obtain ⟨g3, hF⟩ := q_gdi hF
  refine vi_iald hx hb hst.k hP 11 0 rfl rfl (f := x.1.1.2.2.2.1) (k := p1.toNatClampNeg) rfl g3 dX10_delay_16 ?_
  obtain rfl := Option.some.inj hF
  exact en_xi hQ (Nat.le_of_ble_eq_true rfl) (Nat.le_of_ble_eq_true rfl) hx hb hr hlocks hP hD hS rfl dX10_delay_17

/-! X10_transposition -/
theorem dX10_transposition_0 : decode cX10_transposition 0 = .ok (.aload_n 0, 1) := by decide +kernel
theorem dX10_transposition_1 : decode cX10_transposition 1 = .ok (.iload_n 1, 1) := by decide +kernel
theorem dX10_transposition_2 : decode cX10_transposition 2 = .ok (.invokevirtual 235, 3) := by decide +kernel
theorem dX10_transposition_5 : decode cX10_transposition 5 = .ok (.aload_n 0, 1) := by decide +kernel
theorem dX10_transposition_6 : decode cX10_transposition 6 = .ok (.getfield 10, 3) := by decide +kernel
theorem dX10_transposition_9 : decode cX10_transposition 9 = .ok (.getfield 228, 3) := by decide +kernel
theorem dX10_transposition_12 : decode cX10_transposition 12 = .ok (.getfield 241, 3) := by decide +kernel
theorem dX10_transposition_15 : decode cX10_transposition 15 = .ok (.iload_n 1, 1) := by decide +kernel
theorem dX10_transposition_16 : decode cX10_transposition 16 = .ok (.iaload, 1) := by decide +kernel
theorem dX10_transposition_17 : decode cX10_transposition 17 = .ok (.ireturn, 1) := by decide +kernel
def f_X10_transposition (x_valley_cliffs_transpositions : (Nat → Int32)) (x_valley_cliffs_count : Int32) (p1 : Int32) : Option ((Int32 ⊕ String)) :=
  q_bd (f_X10_requireCliff x_valley_cliffs_count p1) (fun q1 =>
  q_sm q1 (fun X => some (Sum.inr X)) (fun r2 =>
  q_gd (q_in p1 4) (
  some (Sum.inl (x_valley_cliffs_transpositions (p1.toNatClampNeg))))))
theorem hv_X10_transposition : yX10_transposition.cls = RX10 ∧ yX10_transposition.cls ≠ "java/lang/invoke/MethodHandle" ∧ yX10_transposition.cls ≠ "java/lang/invoke/VarHandle" ∧ (parseMethodDescriptor yX10_transposition.desc).map (fun d => d.parameters.length) = some 1 := by decide +kernel
abbrev rm_X10_transposition : Room := { frames := 7, cells := 1, slots := 6, locals := 103 }
set_option maxHeartbeats 4000000 in
set_option maxRecDepth 100000 in
theorem k_X10_transposition (l : Launch) (E : ET) (a : Nat → Nat) (o : Nat) (x : VB_t) (p1 : Int32) (res : (Int32 ⊕ String)) (hF : f_X10_transposition x.1.1.2.2.2.2.1 x.1.1.2.2.2.2.2 p1 = some res) (sz : Nat) (hlt : l.stackTraces = false) : CxI l yX10_transposition (mws yX10_transposition cX10_transposition 2 (some .int)) rm_X10_transposition 1 6 [.ref (a o), .int p1] E (bl_VB E a o x) res (bl_VB E a o x) sz := by
  refine mk_X (by decide +kernel) (Nat.le_of_ble_eq_true rfl) ?_
  intro p e s m below meth c A args Q ls hAe hsz hQ hx hb hr hml hin ha hown hlocks hA hz hzs hst hexc hP hD hS hl
  have hown : s.vm.findClass RX10 = some m.cls := hown
  rw [hAe] at hQ
  subst hsz
  have hP : va_P E.1 vwCl (List.flatten [w_VBR a o x.2.2.2.1 x.2.2.2.2.1 x.2.2.2.2.2, w_ValleyR a (o + 1), w_Key E a (o + 2) x.1.1.1, w_Bells E a (o + 3) x.1.1.2.1, w_Mel E a (o + 6) x.1.1.2.2.1, w_Cliffs E a (o + 10) x.1.1.2.2.2, w_ValleyR a (o + 13), w_Key E a (o + 14) x.1.2.1.1, w_Bells E a (o + 15) x.1.2.1.2.1, w_Mel E a (o + 18) x.1.2.1.2.2.1, w_Cliffs E a (o + 22) x.1.2.1.2.2.2, w_Prog E a (o + 25) x.1.2.2.2.1, w_Chord E a (o + 31) x.1.2.2.2.2, w_Key E a (o + 34) x.2.1, w_Line E a (o + 35) x.2.2.1, w_Hist E a (o + 37) x.1.2.2.1]) s.heap := hP
  have hD : va_D A (List.flatten [w_VBR a o x.2.2.2.1 x.2.2.2.2.1 x.2.2.2.2.2, w_ValleyR a (o + 1), w_Key E a (o + 2) x.1.1.1, w_Bells E a (o + 3) x.1.1.2.1, w_Mel E a (o + 6) x.1.1.2.2.1, w_Cliffs E a (o + 10) x.1.1.2.2.2, w_ValleyR a (o + 13), w_Key E a (o + 14) x.1.2.1.1, w_Bells E a (o + 15) x.1.2.1.2.1, w_Mel E a (o + 18) x.1.2.1.2.2.1, w_Cliffs E a (o + 22) x.1.2.1.2.2.2, w_Prog E a (o + 25) x.1.2.2.2.1, w_Chord E a (o + 31) x.1.2.2.2.2, w_Key E a (o + 34) x.2.1, w_Line E a (o + 35) x.2.2.1, w_Hist E a (o + 37) x.1.2.2.1]) := hD
  have hl : lv_has ls 2 [(0, .ref (a o)), (1, .int p1)] := hl
  generalize hHe : s.heap = H at hP
  have hS : va_S A s.heap H [] := by rw [← hHe]; exact hS
  generalize ([] : List Loc) = locs at hS ⊢
  unfold f_X10_transposition at hF
  refine lv_aload_n hx hb dX10_transposition_0 rfl (lv_at hl 0 rfl) ?_
  refine lv_iload_n hx hb dX10_transposition_1 rfl (lv_at hl 1 rfl) ?_
  obtain ⟨q1, hq1, hF⟩ := q_bdi hF
  refine cx_v (ro := q1) (Lc := [w_VBR a o x.2.2.2.1 x.2.2.2.2.1 x.2.2.2.2.2, w_ValleyR a (o + 1), w_Key E a (o + 2) x.1.1.1, w_Bells E a (o + 3) x.1.1.2.1, w_Mel E a (o + 6) x.1.1.2.2.1, w_Cliffs E a (o + 10) x.1.1.2.2.2, w_ValleyR a (o + 13), w_Key E a (o + 14) x.1.2.1.1, w_Bells E a (o + 15) x.1.2.1.2.1, w_Mel E a (o + 18) x.1.2.1.2.2.1, w_Cliffs E a (o + 22) x.1.2.1.2.2.2, w_Prog E a (o + 25) x.1.2.2.2.1, w_Chord E a (o + 31) x.1.2.2.2.2, w_Key E a (o + 34) x.2.1, w_Line E a (o + 35) x.2.2.1, w_Hist E a (o + 37) x.1.2.2.1]) (Lc' := [w_VBR a o x.2.2.2.1 x.2.2.2.2.1 x.2.2.2.2.2, w_ValleyR a (o + 1), w_Key E a (o + 2) x.1.1.1, w_Bells E a (o + 3) x.1.1.2.1, w_Mel E a (o + 6) x.1.1.2.2.1, w_Cliffs E a (o + 10) x.1.1.2.2.2, w_ValleyR a (o + 13), w_Key E a (o + 14) x.1.2.1.1, w_Bells E a (o + 15) x.1.2.1.2.1, w_Mel E a (o + 18) x.1.2.1.2.2.1, w_Cliffs E a (o + 22) x.1.2.1.2.2.2, w_Prog E a (o + 25) x.1.2.2.2.1, w_Chord E a (o + 31) x.1.2.2.2.2, w_Key E a (o + 34) x.2.1, w_Line E a (o + 35) x.2.2.1, w_Hist E a (o + 37) x.1.2.2.1]) (L' := [w_VBR a o x.2.2.2.1 x.2.2.2.2.1 x.2.2.2.2.2, w_ValleyR a (o + 1), w_Key E a (o + 2) x.1.1.1, w_Bells E a (o + 3) x.1.1.2.1, w_Mel E a (o + 6) x.1.1.2.2.1, w_Cliffs E a (o + 10) x.1.1.2.2.2, w_ValleyR a (o + 13), w_Key E a (o + 14) x.1.2.1.1, w_Bells E a (o + 15) x.1.2.1.2.1, w_Mel E a (o + 18) x.1.2.1.2.2.1, w_Cliffs E a (o + 22) x.1.2.1.2.2.2, w_Prog E a (o + 25) x.1.2.2.2.1, w_Chord E a (o + 31) x.1.2.2.2.2, w_Key E a (o + 34) x.2.1, w_Line E a (o + 35) x.2.2.1, w_Hist E a (o + 37) x.1.2.2.1]) (vx_runV (As := [.int p1]) (rest := []) ⟨hx, hb, hml, hown, ha⟩ (k_X10_requireCliff l E a o x p1 q1 hq1 H.size hlt) (cwV 1 ha (gi_V (fun _ h => h) mw1178 mw1180 mw24 mw26 mw1181) rfl rfl rfl hv_X10_requireCliff ⟨(Nat.le_of_ble_eq_true rfl), (Nat.le_of_ble_eq_true rfl)⟩) ⟨pre_blind, va_recv hst.k (fr_P hP [0, 1, 2, 3, 4, 5, 6, 7, 8, 9, 10, 11, 12, 13, 14, 15] rfl) (ci := 11) (q0 := 0) rfl rfl, pre_at hP hD hS hz hzs hst [0, 1, 2, 3, 4, 5, 6, 7, 8, 9, 10, 11, 12, 13, 14, 15] (by decide) rfl rfl⟩ rfl rfl hl.1 rfl (lv_room (Nat.le_of_ble_eq_true rfl)) dX10_transposition_2 ⟨(Nat.le_of_ble_eq_true rfl), (Nat.le_of_ble_eq_true rfl)⟩) hP hD hS hA [0, 1, 2, 3, 4, 5, 6, 7, 8, 9, 10, 11, 12, 13, 14, 15] (by decide) rfl rfl rfl rfl (fun X ce q9 H locs eX h1 h2 h3 hP hD hS => ?_) (fun r2 H locs er2 hP hD hS => ?_)
  · have hF := q_smr eX hF
    obtain rfl := Option.some.inj hF
    exact en_out hQ (Nat.le_of_ble_eq_true rfl) (Nat.le_of_ble_eq_true rfl) hexc hlocks h1 h2 h3 hP hD hS rfl
  have hF := q_sml er2 hF
  refine lv_aload_n hx hb dX10_transposition_5 rfl (lv_at hl 0 rfl) ?_
  refine va_get (D := E.1) (ci := 11) (v := .ref (a (o + 1))) (C := RX10) (T := TX10) (N := 10) hx hb ha in_X10 hown hst.k hP 0 rfl rfl 0 (by decide) (ha _ mw284) (fun _ h9 => h9) rfl dX10_transposition_6 ?_
  refine va_getN (D := E.1) (ci := 10) (v := .ref (a (o + 10))) (C := RX9) (T := TX9) (N := 4) hx hb ha in_X9 hown hst.k hP 1 rfl rfl 3 (by decide) (va_Nw.use rfl (nf21 hst)) (fun _ h9 => h9) rfl dX10_transposition_9 ?_
  refine va_getN (D := E.1) (ci := 5) (v := .ref (a (o + 12))) (C := RX3) (T := TX3) (N := 3) hx hb ha in_X3 hown hst.k hP 10 rfl rfl 1 (by decide) (va_Nw.use rfl (nf12 hst)) (fun _ h9 => h9) rfl dX10_transposition_12 ?_
  refine lv_iload_n hx hb dX10_transposition_15 rfl (lv_at hl 1 rfl) ?_
  obtain ⟨g3, hF⟩ := q_gdi hF
  refine vi_iald hx hb hst.k hP 12 0 rfl rfl (f := x.1.1.2.2.2.2.1) (k := p1.toNatClampNeg) rfl g3 dX10_transposition_16 ?_
  obtain rfl := Option.some.inj hF
  exact en_xi hQ (Nat.le_of_ble_eq_true rfl) (Nat.le_of_ble_eq_true rfl) hx hb hr hlocks hP hD hS rfl dX10_transposition_17
