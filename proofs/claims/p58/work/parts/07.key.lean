/-! X6_copyFrom -/
theorem dX6_copyFrom_0 : decode cX6_copyFrom 0 = .ok (.aload_n 0, 1) := by decide +kernel
theorem dX6_copyFrom_1 : decode cX6_copyFrom 1 = .ok (.aload_n 1, 1) := by decide +kernel
theorem dX6_copyFrom_2 : decode cX6_copyFrom 2 = .ok (.getfield 9, 3) := by decide +kernel
theorem dX6_copyFrom_5 : decode cX6_copyFrom 5 = .ok (.putfield 9, 3) := by decide +kernel
theorem dX6_copyFrom_8 : decode cX6_copyFrom 8 = .ok (.aload_n 0, 1) := by decide +kernel
theorem dX6_copyFrom_9 : decode cX6_copyFrom 9 = .ok (.aload_n 1, 1) := by decide +kernel
theorem dX6_copyFrom_10 : decode cX6_copyFrom 10 = .ok (.getfield 15, 3) := by decide +kernel
theorem dX6_copyFrom_13 : decode cX6_copyFrom 13 = .ok (.putfield 15, 3) := by decide +kernel
theorem dX6_copyFrom_16 : decode cX6_copyFrom 16 = .ok (.aload_n 0, 1) := by decide +kernel
theorem dX6_copyFrom_17 : decode cX6_copyFrom 17 = .ok (.aload_n 1, 1) := by decide +kernel
theorem dX6_copyFrom_18 : decode cX6_copyFrom 18 = .ok (.getfield 19, 3) := by decide +kernel
theorem dX6_copyFrom_21 : decode cX6_copyFrom 21 = .ok (.putfield 19, 3) := by decide +kernel
theorem dX6_copyFrom_24 : decode cX6_copyFrom 24 = .ok (.return_, 1) := by decide +kernel
def f_X6_copyFrom (x_tonic : Int32) (x_isMinor : Int32) (x_tolerance : Int32) (y_tonic : Int32) (y_isMinor : Int32) (y_tolerance : Int32) : Option (Int32 × Int32 × Int32) :=
  q_gd (y_isMinor = 0 ∨ y_isMinor = 1) (
  some (y_tonic, y_isMinor, y_tolerance))
theorem hv_X6_copyFrom : yX6_copyFrom.cls = RX6 ∧ yX6_copyFrom.cls ≠ "java/lang/invoke/MethodHandle" ∧ yX6_copyFrom.cls ≠ "java/lang/invoke/VarHandle" ∧ (parseMethodDescriptor yX6_copyFrom.desc).map (fun d => d.parameters.length) = some 1 := by decide +kernel
abbrev rm_X6_copyFrom : Room := { frames := 0, cells := 0, slots := 0, locals := 0 }
set_option maxHeartbeats 4000000 in
set_option maxRecDepth 100000 in
theorem k_X6_copyFrom (l : Launch) (E : ET) (a : Nat → Nat) (o : Nat) (x : Key_t) (ay : Nat → Nat) (oy : Nat) (y : Key_t) (res : Int32 × Int32 × Int32) (hF : f_X6_copyFrom x.1 x.2.1 x.2.2 y.1 y.2.1 y.2.2 = some res) (sz : Nat) : CtV l yX6_copyFrom (mws yX6_copyFrom cX6_copyFrom 2 none) rm_X6_copyFrom 0 0 [.ref (a o), .ref (ay oy)] E (bl_Key E a o x ++ bl_Key E ay oy y) (bl_Key E a o (res.1, res.2.1, res.2.2) ++ bl_Key E ay oy y) sz := by
  refine mk_M (by decide +kernel) (Nat.le_of_ble_eq_true rfl) ?_
  intro p e s m below meth c A args Q ls hAe hsz hQ hx hb hr hml hin ha hown hlocks hA hz hzs hst hP hD hS hl
  have hown : s.vm.findClass RX6 = some m.cls := hown
  rw [hAe] at hQ
  subst hsz
  have hP : va_P E.1 vwCl (List.flatten [w_Key E a o x, w_Key E ay oy y]) s.heap := hP
  have hD : va_D A (List.flatten [w_Key E a o x, w_Key E ay oy y]) := hD
  have hl : lv_has ls 2 [(0, .ref (a o)), (1, .ref (ay oy))] := hl
  generalize hHe : s.heap = H at hP
  have hS : va_S A s.heap H [] := by rw [← hHe]; exact hS
  generalize ([] : List Loc) = locs at hS ⊢
  unfold f_X6_copyFrom at hF
  refine lv_aload_n hx hb dX6_copyFrom_0 rfl (lv_at hl 0 rfl) ?_
  refine lv_aload_n hx hb dX6_copyFrom_1 rfl (lv_at hl 1 rfl) ?_
  refine va_get (D := E.1) (ci := 7) (v := .int y.1) (C := RX6) (T := TX6) (N := 3) hx hb ha in_X6 hown hst.k hP 1 rfl rfl 0 (by decide) (ha _ mw76) (fun _ h9 => h9) rfl dX6_copyFrom_2 ?_
  refine va_put (D := E.1) (ci := 7) (v := .int y.1) (ty := .int) (C := RX6) (T := TX6) (N := 3) hx hb ha in_X6 tyX6 tyX6_ok nmX6 hown hst.k hP hD hS 0 rfl rfl 0 (by decide) (ha _ mw76) (fun _ h9 => h9) rfl (tyX6_ok 0 (by decide)) rfl rfl (Nat.le_of_ble_eq_true rfl) dX6_copyFrom_5 (fun H locs hP hD hS => ?_)
  have hP : va_P E.1 vwCl (List.flatten [w_Key E a o (y.1, x.2.1, x.2.2), w_Key E ay oy y]) H := hP
  have hD : va_D A (List.flatten [w_Key E a o (y.1, x.2.1, x.2.2), w_Key E ay oy y]) := hD
  refine lv_aload_n hx hb dX6_copyFrom_8 rfl (lv_at hl 0 rfl) ?_
  refine lv_aload_n hx hb dX6_copyFrom_9 rfl (lv_at hl 1 rfl) ?_
  refine va_get (D := E.1) (ci := 7) (v := .int y.2.1) (C := RX6) (T := TX6) (N := 3) hx hb ha in_X6 hown hst.k hP 1 rfl rfl 1 (by decide) (ha _ mw78) (fun _ h9 => h9) rfl dX6_copyFrom_10 ?_
  obtain ⟨g1, hF⟩ := q_gdi hF
  refine va_put (D := E.1) (ci := 7) (v := .int y.2.1) (ty := .boolean) (C := RX6) (T := TX6) (N := 3) hx hb ha in_X6 tyX6 tyX6_ok nmX6 hown hst.k hP hD hS 0 rfl rfl 1 (by decide) (ha _ mw78) (fun _ h9 => h9) rfl (tyX6_ok 1 (by decide)) (nz_b g1) (fz_b g1) (Nat.le_of_ble_eq_true rfl) dX6_copyFrom_13 (fun H locs hP hD hS => ?_)
  have hP : va_P E.1 vwCl (List.flatten [w_Key E a o (y.1, y.2.1, x.2.2), w_Key E ay oy y]) H := hP
  have hD : va_D A (List.flatten [w_Key E a o (y.1, y.2.1, x.2.2), w_Key E ay oy y]) := hD
  refine lv_aload_n hx hb dX6_copyFrom_16 rfl (lv_at hl 0 rfl) ?_
  refine lv_aload_n hx hb dX6_copyFrom_17 rfl (lv_at hl 1 rfl) ?_
  refine va_get (D := E.1) (ci := 7) (v := .int y.2.2) (C := RX6) (T := TX6) (N := 3) hx hb ha in_X6 hown hst.k hP 1 rfl rfl 2 (by decide) (ha _ mw80) (fun _ h9 => h9) rfl dX6_copyFrom_18 ?_
  refine va_put (D := E.1) (ci := 7) (v := .int y.2.2) (ty := .int) (C := RX6) (T := TX6) (N := 3) hx hb ha in_X6 tyX6 tyX6_ok nmX6 hown hst.k hP hD hS 0 rfl rfl 2 (by decide) (ha _ mw80) (fun _ h9 => h9) rfl (tyX6_ok 2 (by decide)) rfl rfl (Nat.le_of_ble_eq_true rfl) dX6_copyFrom_21 (fun H locs hP hD hS => ?_)
  have hP : va_P E.1 vwCl (List.flatten [w_Key E a o (y.1, y.2.1, y.2.2), w_Key E ay oy y]) H := hP
  have hD : va_D A (List.flatten [w_Key E a o (y.1, y.2.1, y.2.2), w_Key E ay oy y]) := hD
  obtain rfl := Option.some.inj hF
  exact en_v hQ (Nat.le_of_ble_eq_true rfl) (Nat.le_of_ble_eq_true rfl) hx hb hr hlocks hP hD hS dX6_copyFrom_24

/-! X6_choose -/
theorem dX6_choose_0 : decode cX6_choose 0 = .ok (.iload_n 1, 1) := by decide +kernel
theorem dX6_choose_1 : decode cX6_choose 1 = .ok (.iconst 0, 1) := by decide +kernel
theorem dX6_choose_2 : decode cX6_choose 2 = .ok (.bipush 11, 2) := by decide +kernel
theorem dX6_choose_4 : decode cX6_choose 4 = .ok (.invokestatic 22, 3) := by decide +kernel
theorem dX6_choose_7 : decode cX6_choose 7 = .ok (.ifCond .ne 5, 3) := by decide +kernel
theorem dX6_choose_10 : decode cX6_choose 10 = .ok (.iconst 0, 1) := by decide +kernel
theorem dX6_choose_11 : decode cX6_choose 11 = .ok (.ireturn, 1) := by decide +kernel
theorem dX6_choose_12 : decode cX6_choose 12 = .ok (.aload_n 0, 1) := by decide +kernel
theorem dX6_choose_13 : decode cX6_choose 13 = .ok (.iload_n 1, 1) := by decide +kernel
theorem dX6_choose_14 : decode cX6_choose 14 = .ok (.putfield 9, 3) := by decide +kernel
theorem dX6_choose_17 : decode cX6_choose 17 = .ok (.aload_n 0, 1) := by decide +kernel
theorem dX6_choose_18 : decode cX6_choose 18 = .ok (.iload_n 2, 1) := by decide +kernel
theorem dX6_choose_19 : decode cX6_choose 19 = .ok (.putfield 15, 3) := by decide +kernel
theorem dX6_choose_22 : decode cX6_choose 22 = .ok (.iconst 1, 1) := by decide +kernel
theorem dX6_choose_23 : decode cX6_choose 23 = .ok (.ireturn, 1) := by decide +kernel
def f_X6_choose (x_tonic : Int32) (x_isMinor : Int32) (p1 : Int32) (p2 : Int32) : Option (Int32 × Int32 × Int32) :=
  q_bd (f_X10_isWithin p1 0 11) (fun q1 =>
  q_br (q1 = 0) (
  some (0, x_tonic, x_isMinor)) (
  q_gd (p2 = 0 ∨ p2 = 1) (
  some (1, p1, p2))))
theorem hv_X6_choose : yX6_choose.cls = RX6 ∧ yX6_choose.cls ≠ "java/lang/invoke/MethodHandle" ∧ yX6_choose.cls ≠ "java/lang/invoke/VarHandle" ∧ (parseMethodDescriptor yX6_choose.desc).map (fun d => d.parameters.length) = some 2 := by decide +kernel
abbrev rm_X6_choose : Room := { frames := 1, cells := 0, slots := 0, locals := 22 }
set_option maxHeartbeats 4000000 in
set_option maxRecDepth 100000 in
theorem k_X6_choose (l : Launch) (E : ET) (a : Nat → Nat) (o : Nat) (x : Key_t) (p1 : Int32) (p2 : Int32) (res : Int32 × Int32 × Int32) (hF : f_X6_choose x.1 x.2.1 p1 p2 = some res) (sz : Nat) : CtI l yX6_choose (mws yX6_choose cX6_choose 3 (some .boolean)) rm_X6_choose 0 0 [.ref (a o), .int p1, .int p2] E (bl_Key E a o x) res.1 (bl_Key E a o (res.2.1, res.2.2, x.2.2)) sz := by
  refine mk_M (by decide +kernel) (Nat.le_of_ble_eq_true rfl) ?_
  intro p e s m below meth c A args Q ls hAe hsz hQ hx hb hr hml hin ha hown hlocks hA hz hzs hst hP hD hS hl
  have hown : s.vm.findClass RX6 = some m.cls := hown
  rw [hAe] at hQ
  subst hsz
  have hP : va_P E.1 vwCl (List.flatten [w_Key E a o x]) s.heap := hP
  have hD : va_D A (List.flatten [w_Key E a o x]) := hD
  have hl : lv_has ls 3 [(0, .ref (a o)), (1, .int p1), (2, .int p2)] := hl
  generalize hHe : s.heap = H at hP
  have hS : va_S A s.heap H [] := by rw [← hHe]; exact hS
  generalize ([] : List Loc) = locs at hS ⊢
  unfold f_X6_choose at hF
  refine lv_iload_n hx hb dX6_choose_0 rfl (lv_at hl 1 rfl) ?_
  refine lv_iconst (v := 0) hx hb dX6_choose_1 (by decide) ?_
  refine lv_bipush (v := 11) hx hb dX6_choose_2 (by decide) ?_
  obtain ⟨q1, hq1, hF⟩ := q_bdi hF
  refine cl_i (Lc := []) (Lc' := []) (L' := [w_Key E a o x]) (rv := q1) (va_runSN (As := [.int p1, .int 0, .int 11]) (rest := []) ⟨hx, hb, hml, hown, ha⟩ (k_X10_isWithin l E p1 0 11 q1 hq1 H.size) ⟨va_cnB 3 ha (gi_B (fun _ h => h) mw375) rfl rfl rfl (nm11 hst) (ha _ mw26) hv_X10_isWithin.2 ⟨(Nat.le_of_ble_eq_true rfl), (Nat.le_of_ble_eq_true rfl)⟩, (ha _ mw374), trivial⟩ ⟨pre_blind, pre_at hP hD hS hz hzs hst [] (by decide) rfl rfl⟩ rfl rfl hl.1 rfl (lv_room (Nat.le_of_ble_eq_true rfl)) dX6_choose_4 ⟨(Nat.le_of_ble_eq_true rfl), (Nat.le_of_ble_eq_true rfl)⟩) hP hD hS hA [] (by decide) rfl rfl rfl rfl (fun H locs hP hD hS => ?_)
  refine lv_if_ne (tgt := 12) hx hb dX6_choose_7 (by decide) (fun c7 => ?_) (fun c7 => ?_)
  · have hF := q_brn c7 hF
    refine lv_aload_n hx hb dX6_choose_12 rfl (lv_at hl 0 rfl) ?_
    refine lv_iload_n hx hb dX6_choose_13 rfl (lv_at hl 1 rfl) ?_
    refine va_put (D := E.1) (ci := 7) (v := .int p1) (ty := .int) (C := RX6) (T := TX6) (N := 3) hx hb ha in_X6 tyX6 tyX6_ok nmX6 hown hst.k hP hD hS 0 rfl rfl 0 (by decide) (ha _ mw76) (fun _ h9 => h9) rfl (tyX6_ok 0 (by decide)) rfl rfl (Nat.le_of_ble_eq_true rfl) dX6_choose_14 (fun H locs hP hD hS => ?_)
    have hP : va_P E.1 vwCl (List.flatten [w_Key E a o (p1, x.2.1, x.2.2)]) H := hP
    have hD : va_D A (List.flatten [w_Key E a o (p1, x.2.1, x.2.2)]) := hD
    refine lv_aload_n hx hb dX6_choose_17 rfl (lv_at hl 0 rfl) ?_
    refine lv_iload_n hx hb dX6_choose_18 rfl (lv_at hl 2 rfl) ?_
    obtain ⟨g2, hF⟩ := q_gdi hF
    refine va_put (D := E.1) (ci := 7) (v := .int p2) (ty := .boolean) (C := RX6) (T := TX6) (N := 3) hx hb ha in_X6 tyX6 tyX6_ok nmX6 hown hst.k hP hD hS 0 rfl rfl 1 (by decide) (ha _ mw78) (fun _ h9 => h9) rfl (tyX6_ok 1 (by decide)) (nz_b g2) (fz_b g2) (Nat.le_of_ble_eq_true rfl) dX6_choose_19 (fun H locs hP hD hS => ?_)
    have hP : va_P E.1 vwCl (List.flatten [w_Key E a o (p1, p2, x.2.2)]) H := hP
    have hD : va_D A (List.flatten [w_Key E a o (p1, p2, x.2.2)]) := hD
    refine lv_iconst (v := 1) hx hb dX6_choose_22 (by decide) ?_
    obtain rfl := Option.some.inj hF
    exact en_z hQ (Nat.le_of_ble_eq_true rfl) (Nat.le_of_ble_eq_true rfl) hx hb hr hlocks (by decide) hP hD hS rfl dX6_choose_23
  · have hF := q_brp c7 hF
    refine lv_iconst (v := 0) hx hb dX6_choose_10 (by decide) ?_
    obtain rfl := Option.some.inj hF
    exact en_z hQ (Nat.le_of_ble_eq_true rfl) (Nat.le_of_ble_eq_true rfl) hx hb hr hlocks (by decide) hP hD hS rfl dX6_choose_11

/-! X6_tolerate -/
theorem dX6_tolerate_0 : decode cX6_tolerate 0 = .ok (.iload_n 1, 1) := by decide +kernel
theorem dX6_tolerate_1 : decode cX6_tolerate 1 = .ok (.iconst 0, 1) := by decide +kernel
theorem dX6_tolerate_2 : decode cX6_tolerate 2 = .ok (.bipush 50, 2) := by decide +kernel
theorem dX6_tolerate_4 : decode cX6_tolerate 4 = .ok (.invokestatic 22, 3) := by decide +kernel
theorem dX6_tolerate_7 : decode cX6_tolerate 7 = .ok (.ifCond .ne 6, 3) := by decide +kernel
theorem dX6_tolerate_10 : decode cX6_tolerate 10 = .ok (.bipush (-2), 2) := by decide +kernel
theorem dX6_tolerate_12 : decode cX6_tolerate 12 = .ok (.ireturn, 1) := by decide +kernel
theorem dX6_tolerate_13 : decode cX6_tolerate 13 = .ok (.aload_n 0, 1) := by decide +kernel
theorem dX6_tolerate_14 : decode cX6_tolerate 14 = .ok (.getfield 19, 3) := by decide +kernel
theorem dX6_tolerate_17 : decode cX6_tolerate 17 = .ok (.istore_n 2, 1) := by decide +kernel
theorem dX6_tolerate_18 : decode cX6_tolerate 18 = .ok (.aload_n 0, 1) := by decide +kernel
theorem dX6_tolerate_19 : decode cX6_tolerate 19 = .ok (.iload_n 1, 1) := by decide +kernel
theorem dX6_tolerate_20 : decode cX6_tolerate 20 = .ok (.putfield 19, 3) := by decide +kernel
theorem dX6_tolerate_23 : decode cX6_tolerate 23 = .ok (.iload_n 2, 1) := by decide +kernel
theorem dX6_tolerate_24 : decode cX6_tolerate 24 = .ok (.ireturn, 1) := by decide +kernel
def f_X6_tolerate (x_tolerance : Int32) (p1 : Int32) : Option (Int32 × Int32) :=
  q_bd (f_X10_isWithin p1 0 50) (fun q1 =>
  q_br (q1 = 0) (
  some ((-2), x_tolerance)) (
  some (x_tolerance, p1)))
theorem hv_X6_tolerate : yX6_tolerate.cls = RX6 ∧ yX6_tolerate.cls ≠ "java/lang/invoke/MethodHandle" ∧ yX6_tolerate.cls ≠ "java/lang/invoke/VarHandle" ∧ (parseMethodDescriptor yX6_tolerate.desc).map (fun d => d.parameters.length) = some 1 := by decide +kernel
abbrev rm_X6_tolerate : Room := { frames := 1, cells := 0, slots := 0, locals := 22 }
set_option maxHeartbeats 4000000 in
set_option maxRecDepth 100000 in
theorem k_X6_tolerate (l : Launch) (E : ET) (a : Nat → Nat) (o : Nat) (x : Key_t) (p1 : Int32) (res : Int32 × Int32) (hF : f_X6_tolerate x.2.2 p1 = some res) (sz : Nat) : CtI l yX6_tolerate (mws yX6_tolerate cX6_tolerate 3 (some .int)) rm_X6_tolerate 0 0 [.ref (a o), .int p1] E (bl_Key E a o x) res.1 (bl_Key E a o (x.1, x.2.1, res.2)) sz := by
  refine mk_M (by decide +kernel) (Nat.le_of_ble_eq_true rfl) ?_
  intro p e s m below meth c A args Q ls hAe hsz hQ hx hb hr hml hin ha hown hlocks hA hz hzs hst hP hD hS hl
  have hown : s.vm.findClass RX6 = some m.cls := hown
  rw [hAe] at hQ
  subst hsz
  have hP : va_P E.1 vwCl (List.flatten [w_Key E a o x]) s.heap := hP
  have hD : va_D A (List.flatten [w_Key E a o x]) := hD
  have hl : lv_has ls 3 [(0, .ref (a o)), (1, .int p1)] := hl
  generalize hHe : s.heap = H at hP
  have hS : va_S A s.heap H [] := by rw [← hHe]; exact hS
  generalize ([] : List Loc) = locs at hS ⊢
  unfold f_X6_tolerate at hF
  refine lv_iload_n hx hb dX6_tolerate_0 rfl (lv_at hl 1 rfl) ?_
  refine lv_iconst (v := 0) hx hb dX6_tolerate_1 (by decide) ?_
  refine lv_bipush (v := 50) hx hb dX6_tolerate_2 (by decide) ?_
  obtain ⟨q1, hq1, hF⟩ := q_bdi hF
  refine cl_i (Lc := []) (Lc' := []) (L' := [w_Key E a o x]) (rv := q1) (va_runSN (As := [.int p1, .int 0, .int 50]) (rest := []) ⟨hx, hb, hml, hown, ha⟩ (k_X10_isWithin l E p1 0 50 q1 hq1 H.size) ⟨va_cnB 3 ha (gi_B (fun _ h => h) mw375) rfl rfl rfl (nm11 hst) (ha _ mw26) hv_X10_isWithin.2 ⟨(Nat.le_of_ble_eq_true rfl), (Nat.le_of_ble_eq_true rfl)⟩, (ha _ mw374), trivial⟩ ⟨pre_blind, pre_at hP hD hS hz hzs hst [] (by decide) rfl rfl⟩ rfl rfl hl.1 rfl (lv_room (Nat.le_of_ble_eq_true rfl)) dX6_tolerate_4 ⟨(Nat.le_of_ble_eq_true rfl), (Nat.le_of_ble_eq_true rfl)⟩) hP hD hS hA [] (by decide) rfl rfl rfl rfl (fun H locs hP hD hS => ?_)
  refine lv_if_ne (tgt := 13) hx hb dX6_tolerate_7 (by decide) (fun c7 => ?_) (fun c7 => ?_)
  · have hF := q_brn c7 hF
    refine lv_aload_n hx hb dX6_tolerate_13 rfl (lv_at hl 0 rfl) ?_
    refine va_get (D := E.1) (ci := 7) (v := .int x.2.2) (C := RX6) (T := TX6) (N := 3) hx hb ha in_X6 hown hst.k hP 0 rfl rfl 2 (by decide) (ha _ mw80) (fun _ h9 => h9) rfl dX6_tolerate_14 ?_
    refine lv_istore_n (lv' := [(2, .int x.2.2), (0, .ref (a o)), (1, .int p1)]) hx hb dX6_tolerate_17 rfl hl (by decide) rfl (fun ls hl => ?_)
    refine lv_aload_n hx hb dX6_tolerate_18 rfl (lv_at hl 1 rfl) ?_
    refine lv_iload_n hx hb dX6_tolerate_19 rfl (lv_at hl 2 rfl) ?_
    refine va_put (D := E.1) (ci := 7) (v := .int p1) (ty := .int) (C := RX6) (T := TX6) (N := 3) hx hb ha in_X6 tyX6 tyX6_ok nmX6 hown hst.k hP hD hS 0 rfl rfl 2 (by decide) (ha _ mw80) (fun _ h9 => h9) rfl (tyX6_ok 2 (by decide)) rfl rfl (Nat.le_of_ble_eq_true rfl) dX6_tolerate_20 (fun H locs hP hD hS => ?_)
    have hP : va_P E.1 vwCl (List.flatten [w_Key E a o (x.1, x.2.1, p1)]) H := hP
    have hD : va_D A (List.flatten [w_Key E a o (x.1, x.2.1, p1)]) := hD
    refine lv_iload_n hx hb dX6_tolerate_23 rfl (lv_at hl 0 rfl) ?_
    obtain rfl := Option.some.inj hF
    exact en_i hQ (Nat.le_of_ble_eq_true rfl) (Nat.le_of_ble_eq_true rfl) hx hb hr hlocks hP hD hS rfl dX6_tolerate_24
  · have hF := q_brp c7 hF
    refine lv_bipush (v := (-2)) hx hb dX6_tolerate_10 (by decide) ?_
    obtain rfl := Option.some.inj hF
    exact en_i hQ (Nat.le_of_ble_eq_true rfl) (Nat.le_of_ble_eq_true rfl) hx hb hr hlocks hP hD hS rfl dX6_tolerate_12

/-! X6_hasNote -/
theorem dX6_hasNote_0 : decode cX6_hasNote 0 = .ok (.iload_n 1, 1) := by decide +kernel
theorem dX6_hasNote_1 : decode cX6_hasNote 1 = .ok (.aload_n 0, 1) := by decide +kernel
theorem dX6_hasNote_2 : decode cX6_hasNote 2 = .ok (.getfield 9, 3) := by decide +kernel
theorem dX6_hasNote_5 : decode cX6_hasNote 5 = .ok (.isub, 1) := by decide +kernel
theorem dX6_hasNote_6 : decode cX6_hasNote 6 = .ok (.aload_n 0, 1) := by decide +kernel
theorem dX6_hasNote_7 : decode cX6_hasNote 7 = .ok (.getfield 15, 3) := by decide +kernel
theorem dX6_hasNote_10 : decode cX6_hasNote 10 = .ok (.ifCond .eq 9, 3) := by decide +kernel
theorem dX6_hasNote_13 : decode cX6_hasNote 13 = .ok (.getstatic 26, 3) := by decide +kernel
theorem dX6_hasNote_16 : decode cX6_hasNote 16 = .ok (.goto 6, 3) := by decide +kernel
theorem dX6_hasNote_19 : decode cX6_hasNote 19 = .ok (.getstatic 30, 3) := by decide +kernel
theorem dX6_hasNote_22 : decode cX6_hasNote 22 = .ok (.invokestatic 33, 3) := by decide +kernel
theorem dX6_hasNote_25 : decode cX6_hasNote 25 = .ok (.ireturn, 1) := by decide +kernel
def f_X6_hasNote (x_tonic : Int32) (x_isMinor : Int32) (p1 : Int32) : Option (Int32) :=
  q_br (x_isMinor = 0) (
  q_bd (f_X10_belongs (p1 - x_tonic) tb_major) (fun q1 =>
  q_gd (q1 = 0 ∨ q1 = 1) (
  some q1))) (
  q_bd (f_X10_belongs (p1 - x_tonic) tb_minor) (fun q3 =>
  q_gd (q3 = 0 ∨ q3 = 1) (
  some q3)))
theorem hv_X6_hasNote : yX6_hasNote.cls = RX6 ∧ yX6_hasNote.cls ≠ "java/lang/invoke/MethodHandle" ∧ yX6_hasNote.cls ≠ "java/lang/invoke/VarHandle" ∧ (parseMethodDescriptor yX6_hasNote.desc).map (fun d => d.parameters.length) = some 1 := by decide +kernel
abbrev rm_X6_hasNote : Room := { frames := 2, cells := 0, slots := 0, locals := 43 }
set_option maxHeartbeats 4000000 in
set_option maxRecDepth 100000 in
theorem k_X6_hasNote (l : Launch) (E : ET) (a : Nat → Nat) (o : Nat) (x : Key_t) (p1 : Int32) (res : Int32) (hF : f_X6_hasNote x.1 x.2.1 p1 = some res) (sz : Nat) : CtI l yX6_hasNote (mws yX6_hasNote cX6_hasNote 2 (some .boolean)) rm_X6_hasNote 0 0 [.ref (a o), .int p1] E (bl_Key E a o x) res (bl_Key E a o x) sz := by
  refine mk_M (by decide +kernel) (Nat.le_of_ble_eq_true rfl) ?_
  intro p e s m below meth c A args Q ls hAe hsz hQ hx hb hr hml hin ha hown hlocks hA hz hzs hst hP hD hS hl
  have hown : s.vm.findClass RX6 = some m.cls := hown
  rw [hAe] at hQ
  subst hsz
  have hP : va_P E.1 vwCl (List.flatten [w_Key E a o x]) s.heap := hP
  have hD : va_D A (List.flatten [w_Key E a o x]) := hD
  have hl : lv_has ls 2 [(0, .ref (a o)), (1, .int p1)] := hl
  generalize hHe : s.heap = H at hP
  have hS : va_S A s.heap H [] := by rw [← hHe]; exact hS
  generalize ([] : List Loc) = locs at hS ⊢
  unfold f_X6_hasNote at hF
  refine lv_iload_n hx hb dX6_hasNote_0 rfl (lv_at hl 1 rfl) ?_
  refine lv_aload_n hx hb dX6_hasNote_1 rfl (lv_at hl 0 rfl) ?_
  refine va_get (D := E.1) (ci := 7) (v := .int x.1) (C := RX6) (T := TX6) (N := 3) hx hb ha in_X6 hown hst.k hP 0 rfl rfl 0 (by decide) (ha _ mw76) (fun _ h9 => h9) rfl dX6_hasNote_2 ?_
  refine lv_isub hx hb dX6_hasNote_5 ?_
  refine lv_aload_n hx hb dX6_hasNote_6 rfl (lv_at hl 0 rfl) ?_
  refine va_get (D := E.1) (ci := 7) (v := .int x.2.1) (C := RX6) (T := TX6) (N := 3) hx hb ha in_X6 hown hst.k hP 0 rfl rfl 1 (by decide) (ha _ mw78) (fun _ h9 => h9) rfl dX6_hasNote_7 ?_
  refine lv_if_eq (tgt := 19) hx hb dX6_hasNote_10 (by decide) (fun c10 => ?_) (fun c10 => ?_)
  · have hF := q_brp c10 hF
    refine va_gets (v := .ref (E.2 12)) hx hb (sz2 hst hz) hS hown (ha _ mw431) (fun _ h9 => h9) dX6_hasNote_19 ?_
    obtain ⟨q1, hq1, hF⟩ := q_bdi hF
    refine cl_i (Lc := []) (Lc' := []) (L' := [w_Key E a o x]) (rv := q1) (va_runSN (As := [.int (p1 - x.1), .ref (E.2 12)]) (rest := []) ⟨hx, hb, hml, hown, ha⟩ (k_X10_belongs l E (p1 - x.1) tb_major (E.2 12) (mt2 E) q1 hq1 H.size) ⟨va_cnB 2 ha (gi_B (fun _ h => h) mw435) rfl rfl rfl (nm13 hst) (ha _ mw26) hv_X10_belongs.2 ⟨(Nat.le_of_ble_eq_true rfl), (Nat.le_of_ble_eq_true rfl)⟩, (ha _ mw434), trivial⟩ ⟨pre_blind, pre_at hP hD hS hz hzs hst [] (by decide) rfl rfl⟩ rfl rfl hl.1 rfl (lv_room (Nat.le_of_ble_eq_true rfl)) dX6_hasNote_22 ⟨(Nat.le_of_ble_eq_true rfl), (Nat.le_of_ble_eq_true rfl)⟩) hP hD hS hA [] (by decide) rfl rfl rfl rfl (fun H locs hP hD hS => ?_)
    obtain ⟨g2, hF⟩ := q_gdi hF
    obtain rfl := Option.some.inj hF
    exact en_z hQ (Nat.le_of_ble_eq_true rfl) (Nat.le_of_ble_eq_true rfl) hx hb hr hlocks (nz_b g2) hP hD hS rfl dX6_hasNote_25
  · have hF := q_brn c10 hF
    refine va_gets (v := .ref (E.2 13)) hx hb (sz3 hst hz) hS hown (ha _ mw429) (fun _ h9 => h9) dX6_hasNote_13 ?_
    refine lv_goto (tgt := 22) hx hb dX6_hasNote_16 (by decide) ?_
    obtain ⟨q3, hq3, hF⟩ := q_bdi hF
    refine cl_i (Lc := []) (Lc' := []) (L' := [w_Key E a o x]) (rv := q3) (va_runSN (As := [.int (p1 - x.1), .ref (E.2 13)]) (rest := []) ⟨hx, hb, hml, hown, ha⟩ (k_X10_belongs l E (p1 - x.1) tb_minor (E.2 13) (mt3 E) q3 hq3 H.size) ⟨va_cnB 2 ha (gi_B (fun _ h => h) mw435) rfl rfl rfl (nm13 hst) (ha _ mw26) hv_X10_belongs.2 ⟨(Nat.le_of_ble_eq_true rfl), (Nat.le_of_ble_eq_true rfl)⟩, (ha _ mw434), trivial⟩ ⟨pre_blind, pre_at hP hD hS hz hzs hst [] (by decide) rfl rfl⟩ rfl rfl hl.1 rfl (lv_room (Nat.le_of_ble_eq_true rfl)) dX6_hasNote_22 ⟨(Nat.le_of_ble_eq_true rfl), (Nat.le_of_ble_eq_true rfl)⟩) hP hD hS hA [] (by decide) rfl rfl rfl rfl (fun H locs hP hD hS => ?_)
    obtain ⟨g4, hF⟩ := q_gdi hF
    obtain rfl := Option.some.inj hF
    exact en_z hQ (Nat.le_of_ble_eq_true rfl) (Nat.le_of_ble_eq_true rfl) hx hb hr hlocks (nz_b g4) hP hD hS rfl dX6_hasNote_25

/-! X6_accepts -/
theorem dX6_accepts_0 : decode cX6_accepts 0 = .ok (.aload_n 0, 1) := by decide +kernel
theorem dX6_accepts_1 : decode cX6_accepts 1 = .ok (.iload_n 1, 1) := by decide +kernel
theorem dX6_accepts_2 : decode cX6_accepts 2 = .ok (.invokestatic 37, 3) := by decide +kernel
theorem dX6_accepts_5 : decode cX6_accepts 5 = .ok (.invokevirtual 41, 3) := by decide +kernel
theorem dX6_accepts_8 : decode cX6_accepts 8 = .ok (.ifCond .eq 21, 3) := by decide +kernel
theorem dX6_accepts_11 : decode cX6_accepts 11 = .ok (.iload_n 1, 1) := by decide +kernel
theorem dX6_accepts_12 : decode cX6_accepts 12 = .ok (.invokestatic 45, 3) := by decide +kernel
theorem dX6_accepts_15 : decode cX6_accepts 15 = .ok (.invokestatic 48, 3) := by decide +kernel
theorem dX6_accepts_18 : decode cX6_accepts 18 = .ok (.aload_n 0, 1) := by decide +kernel
theorem dX6_accepts_19 : decode cX6_accepts 19 = .ok (.getfield 19, 3) := by decide +kernel
theorem dX6_accepts_22 : decode cX6_accepts 22 = .ok (.if_icmp .gt 7, 3) := by decide +kernel
theorem dX6_accepts_25 : decode cX6_accepts 25 = .ok (.iconst 1, 1) := by decide +kernel
theorem dX6_accepts_26 : decode cX6_accepts 26 = .ok (.goto 4, 3) := by decide +kernel
theorem dX6_accepts_29 : decode cX6_accepts 29 = .ok (.iconst 0, 1) := by decide +kernel
theorem dX6_accepts_30 : decode cX6_accepts 30 = .ok (.ireturn, 1) := by decide +kernel
def f_X6_accepts (x_tonic : Int32) (x_isMinor : Int32) (x_tolerance : Int32) (p1 : Int32) : Option (Int32) :=
  q_bd (f_X10_nearest p1) (fun q1 =>
  q_bd (f_X6_hasNote x_tonic x_isMinor q1) (fun q2 =>
  q_br (q2 = 0) (
  some 0) (
  q_bd (f_X10_offset p1) (fun q3 =>
  q_br (x_tolerance < (if 0 ≤ q3 then q3 else 0 - q3)) (
  some 0) (
  some 1)))))
theorem hv_X6_accepts : yX6_accepts.cls = RX6 ∧ yX6_accepts.cls ≠ "java/lang/invoke/MethodHandle" ∧ yX6_accepts.cls ≠ "java/lang/invoke/VarHandle" ∧ (parseMethodDescriptor yX6_accepts.desc).map (fun d => d.parameters.length) = some 1 := by decide +kernel
abbrev rm_X6_accepts : Room := { frames := 3, cells := 0, slots := 0, locals := 64 }
set_option maxHeartbeats 4000000 in
set_option maxRecDepth 100000 in
theorem k_X6_accepts (l : Launch) (E : ET) (a : Nat → Nat) (o : Nat) (x : Key_t) (p1 : Int32) (res : Int32) (hF : f_X6_accepts x.1 x.2.1 x.2.2 p1 = some res) (sz : Nat) : CtI l yX6_accepts (mws yX6_accepts cX6_accepts 2 (some .boolean)) rm_X6_accepts 0 0 [.ref (a o), .int p1] E (bl_Key E a o x) res (bl_Key E a o x) sz := by
  refine mk_M (by decide +kernel) (Nat.le_of_ble_eq_true rfl) ?_
  intro p e s m below meth c A args Q ls hAe hsz hQ hx hb hr hml hin ha hown hlocks hA hz hzs hst hP hD hS hl
  have hown : s.vm.findClass RX6 = some m.cls := hown
  rw [hAe] at hQ
  subst hsz
  have hP : va_P E.1 vwCl (List.flatten [w_Key E a o x]) s.heap := hP
  have hD : va_D A (List.flatten [w_Key E a o x]) := hD
  have hl : lv_has ls 2 [(0, .ref (a o)), (1, .int p1)] := hl
  generalize hHe : s.heap = H at hP
  have hS : va_S A s.heap H [] := by rw [← hHe]; exact hS
  generalize ([] : List Loc) = locs at hS ⊢
  unfold f_X6_accepts at hF
  refine lv_aload_n hx hb dX6_accepts_0 rfl (lv_at hl 0 rfl) ?_
  refine lv_iload_n hx hb dX6_accepts_1 rfl (lv_at hl 1 rfl) ?_
  obtain ⟨q1, hq1, hF⟩ := q_bdi hF
  refine cl_i (Lc := []) (Lc' := []) (L' := [w_Key E a o x]) (rv := q1) (va_runSN (As := [.int p1]) (rest := [.ref (a o)]) ⟨hx, hb, hml, hown, ha⟩ (k_X10_nearest l E p1 q1 hq1 H.size) ⟨va_cnB 1 ha (gi_B (fun _ h => h) mw421) rfl rfl rfl (nm12 hst) (ha _ mw26) hv_X10_nearest.2 ⟨(Nat.le_of_ble_eq_true rfl), (Nat.le_of_ble_eq_true rfl)⟩, (ha _ mw420), trivial⟩ ⟨pre_blind, pre_at hP hD hS hz hzs hst [] (by decide) rfl rfl⟩ rfl rfl hl.1 rfl (lv_room (Nat.le_of_ble_eq_true rfl)) dX6_accepts_2 ⟨(Nat.le_of_ble_eq_true rfl), (Nat.le_of_ble_eq_true rfl)⟩) hP hD hS hA [] (by decide) rfl rfl rfl rfl (fun H locs hP hD hS => ?_)
  obtain ⟨q2, hq2, hF⟩ := q_bdi hF
  refine cl_i (Lc := [w_Key E a o x]) (Lc' := [w_Key E a o x]) (L' := [w_Key E a o x]) (rv := q2) (va_runV (As := [.int q1]) (rest := []) ⟨hx, hb, hml, hown, ha⟩ (k_X6_hasNote l E a o x q1 q2 hq2 H.size) (cwV 1 ha (gi_V (fun _ h => h) mw425 mw426 mw427 mw28 mw428) rfl rfl rfl hv_X6_hasNote ⟨(Nat.le_of_ble_eq_true rfl), (Nat.le_of_ble_eq_true rfl)⟩) ⟨pre_blind, va_recv hst.k (fr_P hP [0] rfl) (ci := 7) (q0 := 0) rfl rfl, pre_at hP hD hS hz hzs hst [0] (by decide) rfl rfl⟩ rfl rfl hl.1 rfl (lv_room (Nat.le_of_ble_eq_true rfl)) dX6_accepts_5 ⟨(Nat.le_of_ble_eq_true rfl), (Nat.le_of_ble_eq_true rfl)⟩) hP hD hS hA [0] (by decide) rfl rfl rfl rfl (fun H locs hP hD hS => ?_)
  refine lv_if_eq (tgt := 29) hx hb dX6_accepts_8 (by decide) (fun c8 => ?_) (fun c8 => ?_)
  · have hF := q_brp c8 hF
    refine lv_iconst (v := 0) hx hb dX6_accepts_29 (by decide) ?_
    obtain rfl := Option.some.inj hF
    exact en_z hQ (Nat.le_of_ble_eq_true rfl) (Nat.le_of_ble_eq_true rfl) hx hb hr hlocks (by decide) hP hD hS rfl dX6_accepts_30
  · have hF := q_brn c8 hF
    refine lv_iload_n hx hb dX6_accepts_11 rfl (lv_at hl 1 rfl) ?_
    obtain ⟨q3, hq3, hF⟩ := q_bdi hF
    refine cl_i (Lc := []) (Lc' := []) (L' := [w_Key E a o x]) (rv := q3) (va_runSN (As := [.int p1]) (rest := []) ⟨hx, hb, hml, hown, ha⟩ (k_X10_offset l E p1 q3 hq3 H.size) ⟨va_cnB 1 ha (gi_B (fun _ h => h) mw441) rfl rfl rfl (nm14 hst) (ha _ mw26) hv_X10_offset.2 ⟨(Nat.le_of_ble_eq_true rfl), (Nat.le_of_ble_eq_true rfl)⟩, (ha _ mw440), trivial⟩ ⟨pre_blind, pre_at hP hD hS hz hzs hst [] (by decide) rfl rfl⟩ rfl rfl hl.1 rfl (lv_room (Nat.le_of_ble_eq_true rfl)) dX6_accepts_12 ⟨(Nat.le_of_ble_eq_true rfl), (Nat.le_of_ble_eq_true rfl)⟩) hP hD hS hA [] (by decide) rfl rfl rfl rfl (fun H locs hP hD hS => ?_)
    refine va_mabs hx hb (hml.trans hl.1.symm) hown (ha _ mw443) (ha _ mw444) (ha _ mw48) (ha _ mw445) (Nat.le_of_ble_eq_true rfl) (Nat.le_of_ble_eq_true rfl) (Nat.le_of_ble_eq_true rfl) (Nat.le_of_ble_eq_true rfl) dX6_accepts_15 ?_
    refine lv_aload_n hx hb dX6_accepts_18 rfl (lv_at hl 0 rfl) ?_
    refine va_get (D := E.1) (ci := 7) (v := .int x.2.2) (C := RX6) (T := TX6) (N := 3) hx hb ha in_X6 hown hst.k hP 0 rfl rfl 2 (by decide) (ha _ mw80) (fun _ h9 => h9) rfl dX6_accepts_19 ?_
    refine lv_icmp_gt (tgt := 29) hx hb dX6_accepts_22 (by decide) (fun c22 => ?_) (fun c22 => ?_)
    · have hF := q_brp c22 hF
      refine lv_iconst (v := 0) hx hb dX6_accepts_29 (by decide) ?_
      obtain rfl := Option.some.inj hF
      exact en_z hQ (Nat.le_of_ble_eq_true rfl) (Nat.le_of_ble_eq_true rfl) hx hb hr hlocks (by decide) hP hD hS rfl dX6_accepts_30
    · have hF := q_brn c22 hF
      refine lv_iconst (v := 1) hx hb dX6_accepts_25 (by decide) ?_
      refine lv_goto (tgt := 30) hx hb dX6_accepts_26 (by decide) ?_
      obtain rfl := Option.some.inj hF
      exact en_z hQ (Nat.le_of_ble_eq_true rfl) (Nat.le_of_ble_eq_true rfl) hx hb hr hlocks (by decide) hP hD hS rfl dX6_accepts_30

/-! X6_isExact -/
theorem dX6_isExact_0 : decode cX6_isExact 0 = .ok (.iload_n 1, 1) := by decide +kernel
theorem dX6_isExact_1 : decode cX6_isExact 1 = .ok (.invokestatic 45, 3) := by decide +kernel
theorem dX6_isExact_4 : decode cX6_isExact 4 = .ok (.ifCond .ne 18, 3) := by decide +kernel
theorem dX6_isExact_7 : decode cX6_isExact 7 = .ok (.aload_n 0, 1) := by decide +kernel
theorem dX6_isExact_8 : decode cX6_isExact 8 = .ok (.iload_n 1, 1) := by decide +kernel
theorem dX6_isExact_9 : decode cX6_isExact 9 = .ok (.invokestatic 37, 3) := by decide +kernel
theorem dX6_isExact_12 : decode cX6_isExact 12 = .ok (.invokevirtual 41, 3) := by decide +kernel
theorem dX6_isExact_15 : decode cX6_isExact 15 = .ok (.ifCond .eq 7, 3) := by decide +kernel
theorem dX6_isExact_18 : decode cX6_isExact 18 = .ok (.iconst 1, 1) := by decide +kernel
theorem dX6_isExact_19 : decode cX6_isExact 19 = .ok (.goto 4, 3) := by decide +kernel
theorem dX6_isExact_22 : decode cX6_isExact 22 = .ok (.iconst 0, 1) := by decide +kernel
theorem dX6_isExact_23 : decode cX6_isExact 23 = .ok (.ireturn, 1) := by decide +kernel
def f_X6_isExact (x_tonic : Int32) (x_isMinor : Int32) (p1 : Int32) : Option (Int32) :=
  q_bd (f_X10_offset p1) (fun q1 =>
  q_br (q1 = 0) (
  q_bd (f_X10_nearest p1) (fun q2 =>
  q_bd (f_X6_hasNote x_tonic x_isMinor q2) (fun q3 =>
  q_br (q3 = 0) (
  some 0) (
  some 1)))) (
  some 0))
theorem hv_X6_isExact : yX6_isExact.cls = RX6 ∧ yX6_isExact.cls ≠ "java/lang/invoke/MethodHandle" ∧ yX6_isExact.cls ≠ "java/lang/invoke/VarHandle" ∧ (parseMethodDescriptor yX6_isExact.desc).map (fun d => d.parameters.length) = some 1 := by decide +kernel
abbrev rm_X6_isExact : Room := { frames := 3, cells := 0, slots := 0, locals := 64 }
set_option maxHeartbeats 4000000 in
set_option maxRecDepth 100000 in
theorem k_X6_isExact (l : Launch) (E : ET) (a : Nat → Nat) (o : Nat) (x : Key_t) (p1 : Int32) (res : Int32) (hF : f_X6_isExact x.1 x.2.1 p1 = some res) (sz : Nat) : CtI l yX6_isExact (mws yX6_isExact cX6_isExact 2 (some .boolean)) rm_X6_isExact 0 0 [.ref (a o), .int p1] E (bl_Key E a o x) res (bl_Key E a o x) sz := by
  refine mk_M (by decide +kernel) (Nat.le_of_ble_eq_true rfl) ?_
  intro p e s m below meth c A args Q ls hAe hsz hQ hx hb hr hml hin ha hown hlocks hA hz hzs hst hP hD hS hl
  have hown : s.vm.findClass RX6 = some m.cls := hown
  rw [hAe] at hQ
  subst hsz
  have hP : va_P E.1 vwCl (List.flatten [w_Key E a o x]) s.heap := hP
  have hD : va_D A (List.flatten [w_Key E a o x]) := hD
  have hl : lv_has ls 2 [(0, .ref (a o)), (1, .int p1)] := hl
  generalize hHe : s.heap = H at hP
  have hS : va_S A s.heap H [] := by rw [← hHe]; exact hS
  generalize ([] : List Loc) = locs at hS ⊢
  unfold f_X6_isExact at hF
  refine lv_iload_n hx hb dX6_isExact_0 rfl (lv_at hl 1 rfl) ?_
  obtain ⟨q1, hq1, hF⟩ := q_bdi hF
  refine cl_i (Lc := []) (Lc' := []) (L' := [w_Key E a o x]) (rv := q1) (va_runSN (As := [.int p1]) (rest := []) ⟨hx, hb, hml, hown, ha⟩ (k_X10_offset l E p1 q1 hq1 H.size) ⟨va_cnB 1 ha (gi_B (fun _ h => h) mw441) rfl rfl rfl (nm14 hst) (ha _ mw26) hv_X10_offset.2 ⟨(Nat.le_of_ble_eq_true rfl), (Nat.le_of_ble_eq_true rfl)⟩, (ha _ mw440), trivial⟩ ⟨pre_blind, pre_at hP hD hS hz hzs hst [] (by decide) rfl rfl⟩ rfl rfl hl.1 rfl (lv_room (Nat.le_of_ble_eq_true rfl)) dX6_isExact_1 ⟨(Nat.le_of_ble_eq_true rfl), (Nat.le_of_ble_eq_true rfl)⟩) hP hD hS hA [] (by decide) rfl rfl rfl rfl (fun H locs hP hD hS => ?_)
  refine lv_if_ne (tgt := 22) hx hb dX6_isExact_4 (by decide) (fun c4 => ?_) (fun c4 => ?_)
  · have hF := q_brn c4 hF
    refine lv_iconst (v := 0) hx hb dX6_isExact_22 (by decide) ?_
    obtain rfl := Option.some.inj hF
    exact en_z hQ (Nat.le_of_ble_eq_true rfl) (Nat.le_of_ble_eq_true rfl) hx hb hr hlocks (by decide) hP hD hS rfl dX6_isExact_23
  · have hF := q_brp c4 hF
    refine lv_aload_n hx hb dX6_isExact_7 rfl (lv_at hl 0 rfl) ?_
    refine lv_iload_n hx hb dX6_isExact_8 rfl (lv_at hl 1 rfl) ?_
    obtain ⟨q2, hq2, hF⟩ := q_bdi hF
    refine cl_i (Lc := []) (Lc' := []) (L' := [w_Key E a o x]) (rv := q2) (va_runSN (As := [.int p1]) (rest := [.ref (a o)]) ⟨hx, hb, hml, hown, ha⟩ (k_X10_nearest l E p1 q2 hq2 H.size) ⟨va_cnB 1 ha (gi_B (fun _ h => h) mw421) rfl rfl rfl (nm12 hst) (ha _ mw26) hv_X10_nearest.2 ⟨(Nat.le_of_ble_eq_true rfl), (Nat.le_of_ble_eq_true rfl)⟩, (ha _ mw420), trivial⟩ ⟨pre_blind, pre_at hP hD hS hz hzs hst [] (by decide) rfl rfl⟩ rfl rfl hl.1 rfl (lv_room (Nat.le_of_ble_eq_true rfl)) dX6_isExact_9 ⟨(Nat.le_of_ble_eq_true rfl), (Nat.le_of_ble_eq_true rfl)⟩) hP hD hS hA [] (by decide) rfl rfl rfl rfl (fun H locs hP hD hS => ?_)
    obtain ⟨q3, hq3, hF⟩ := q_bdi hF
    refine cl_i (Lc := [w_Key E a o x]) (Lc' := [w_Key E a o x]) (L' := [w_Key E a o x]) (rv := q3) (va_runV (As := [.int q2]) (rest := []) ⟨hx, hb, hml, hown, ha⟩ (k_X6_hasNote l E a o x q2 q3 hq3 H.size) (cwV 1 ha (gi_V (fun _ h => h) mw425 mw426 mw427 mw28 mw428) rfl rfl rfl hv_X6_hasNote ⟨(Nat.le_of_ble_eq_true rfl), (Nat.le_of_ble_eq_true rfl)⟩) ⟨pre_blind, va_recv hst.k (fr_P hP [0] rfl) (ci := 7) (q0 := 0) rfl rfl, pre_at hP hD hS hz hzs hst [0] (by decide) rfl rfl⟩ rfl rfl hl.1 rfl (lv_room (Nat.le_of_ble_eq_true rfl)) dX6_isExact_12 ⟨(Nat.le_of_ble_eq_true rfl), (Nat.le_of_ble_eq_true rfl)⟩) hP hD hS hA [0] (by decide) rfl rfl rfl rfl (fun H locs hP hD hS => ?_)
    refine lv_if_eq (tgt := 22) hx hb dX6_isExact_15 (by decide) (fun c15 => ?_) (fun c15 => ?_)
    · have hF := q_brp c15 hF
      refine lv_iconst (v := 0) hx hb dX6_isExact_22 (by decide) ?_
      obtain rfl := Option.some.inj hF
      exact en_z hQ (Nat.le_of_ble_eq_true rfl) (Nat.le_of_ble_eq_true rfl) hx hb hr hlocks (by decide) hP hD hS rfl dX6_isExact_23
    · have hF := q_brn c15 hF
      refine lv_iconst (v := 1) hx hb dX6_isExact_18 (by decide) ?_
      refine lv_goto (tgt := 23) hx hb dX6_isExact_19 (by decide) ?_
      obtain rfl := Option.some.inj hF
      exact en_z hQ (Nat.le_of_ble_eq_true rfl) (Nat.le_of_ble_eq_true rfl) hx hb hr hlocks (by decide) hP hD hS rfl dX6_isExact_23

/-! X6_centsByTrial -/
theorem dX6_centsByTrial_0 : decode cX6_centsByTrial 0 = .ok (.iconst 0, 1) := by decide +kernel
theorem dX6_centsByTrial_1 : decode cX6_centsByTrial 1 = .ok (.istore_n 2, 1) := by decide +kernel
theorem dX6_centsByTrial_2 : decode cX6_centsByTrial 2 = .ok (.iload_n 2, 1) := by decide +kernel
theorem dX6_centsByTrial_3 : decode cX6_centsByTrial 3 = .ok (.sipush 1200, 3) := by decide +kernel
theorem dX6_centsByTrial_6 : decode cX6_centsByTrial 6 = .ok (.if_icmp .gt 34, 3) := by decide +kernel
theorem dX6_centsByTrial_9 : decode cX6_centsByTrial 9 = .ok (.aload_n 0, 1) := by decide +kernel
theorem dX6_centsByTrial_10 : decode cX6_centsByTrial 10 = .ok (.iload_n 1, 1) := by decide +kernel
theorem dX6_centsByTrial_11 : decode cX6_centsByTrial 11 = .ok (.iload_n 2, 1) := by decide +kernel
theorem dX6_centsByTrial_12 : decode cX6_centsByTrial 12 = .ok (.iadd, 1) := by decide +kernel
theorem dX6_centsByTrial_13 : decode cX6_centsByTrial 13 = .ok (.invokevirtual 53, 3) := by decide +kernel
theorem dX6_centsByTrial_16 : decode cX6_centsByTrial 16 = .ok (.ifCond .eq 5, 3) := by decide +kernel
theorem dX6_centsByTrial_19 : decode cX6_centsByTrial 19 = .ok (.iload_n 2, 1) := by decide +kernel
theorem dX6_centsByTrial_20 : decode cX6_centsByTrial 20 = .ok (.ireturn, 1) := by decide +kernel
theorem dX6_centsByTrial_21 : decode cX6_centsByTrial 21 = .ok (.aload_n 0, 1) := by decide +kernel
theorem dX6_centsByTrial_22 : decode cX6_centsByTrial 22 = .ok (.iload_n 1, 1) := by decide +kernel
theorem dX6_centsByTrial_23 : decode cX6_centsByTrial 23 = .ok (.iload_n 2, 1) := by decide +kernel
theorem dX6_centsByTrial_24 : decode cX6_centsByTrial 24 = .ok (.isub, 1) := by decide +kernel
theorem dX6_centsByTrial_25 : decode cX6_centsByTrial 25 = .ok (.invokevirtual 53, 3) := by decide +kernel
theorem dX6_centsByTrial_28 : decode cX6_centsByTrial 28 = .ok (.ifCond .eq 6, 3) := by decide +kernel
theorem dX6_centsByTrial_31 : decode cX6_centsByTrial 31 = .ok (.iload_n 2, 1) := by decide +kernel
theorem dX6_centsByTrial_32 : decode cX6_centsByTrial 32 = .ok (.ineg, 1) := by decide +kernel
theorem dX6_centsByTrial_33 : decode cX6_centsByTrial 33 = .ok (.ireturn, 1) := by decide +kernel
theorem dX6_centsByTrial_34 : decode cX6_centsByTrial 34 = .ok (.iinc 2 1, 3) := by decide +kernel
theorem dX6_centsByTrial_37 : decode cX6_centsByTrial 37 = .ok (.goto (-35), 3) := by decide +kernel
theorem dX6_centsByTrial_40 : decode cX6_centsByTrial 40 = .ok (.iconst 0, 1) := by decide +kernel
theorem dX6_centsByTrial_41 : decode cX6_centsByTrial 41 = .ok (.ireturn, 1) := by decide +kernel
def f_X6_centsByTrial_L2 (x_tonic : Int32) (x_isMinor : Int32) (p1 : Int32) : Nat → Int32 → Option (Int32)
  | 0, _ => none
  | n2 + 1, i1 =>
    q_br (1200 < i1) (
  some 0) (
  q_bd (f_X6_isExact x_tonic x_isMinor (p1 + i1)) (fun q2 =>
  q_br (q2 = 0) (
  q_bd (f_X6_isExact x_tonic x_isMinor (p1 - i1)) (fun q3 =>
  q_br (q3 = 0) (
  q_lt (i1 + 1 : Int32) (fun v4 =>
  f_X6_centsByTrial_L2 x_tonic x_isMinor p1 n2 v4)) (
  some (-i1)))) (
  some i1)))
def f_X6_centsByTrial (x_tonic : Int32) (x_isMinor : Int32) (p1 : Int32) : Option (Int32) :=
  f_X6_centsByTrial_L2 x_tonic x_isMinor p1 2000 0
theorem hv_X6_centsByTrial : yX6_centsByTrial.cls = RX6 ∧ yX6_centsByTrial.cls ≠ "java/lang/invoke/MethodHandle" ∧ yX6_centsByTrial.cls ≠ "java/lang/invoke/VarHandle" ∧ (parseMethodDescriptor yX6_centsByTrial.desc).map (fun d => d.parameters.length) = some 1 := by decide +kernel
abbrev rm_X6_centsByTrial : Room := { frames := 4, cells := 0, slots := 0, locals := 85 }
set_option maxHeartbeats 4000000 in
set_option maxRecDepth 100000 in
theorem k_X6_centsByTrial (l : Launch) (E : ET) (a : Nat → Nat) (o : Nat) (x : Key_t) (p1 : Int32) (res : Int32) (hF : f_X6_centsByTrial x.1 x.2.1 p1 = some res) (sz : Nat) : CtI l yX6_centsByTrial (mws yX6_centsByTrial cX6_centsByTrial 3 (some .int)) rm_X6_centsByTrial 0 0 [.ref (a o), .int p1] E (bl_Key E a o x) res (bl_Key E a o x) sz := by
  refine mk_M (by decide +kernel) (Nat.le_of_ble_eq_true rfl) ?_
  intro p e s m below meth c A args Q ls hAe hsz hQ hx hb hr hml hin ha hown hlocks hA hz hzs hst hP hD hS hl
  have hown : s.vm.findClass RX6 = some m.cls := hown
  rw [hAe] at hQ
  subst hsz
  have hP : va_P E.1 vwCl (List.flatten [w_Key E a o x]) s.heap := hP
  have hD : va_D A (List.flatten [w_Key E a o x]) := hD
  have hl : lv_has ls 3 [(0, .ref (a o)), (1, .int p1)] := hl
  generalize hHe : s.heap = H at hP
  have hS : va_S A s.heap H [] := by rw [← hHe]; exact hS
  generalize ([] : List Loc) = locs at hS ⊢
  unfold f_X6_centsByTrial at hF
  refine lv_iconst (v := 0) hx hb dX6_centsByTrial_0 (by decide) ?_
  refine lv_istore_n (lv' := [(2, .int 0), (0, .ref (a o)), (1, .int p1)]) hx hb dX6_centsByTrial_1 rfl hl (by decide) rfl (fun ls hl => ?_)
  have key2 : ∀ (n : Nat) (i1 : Int32) (H : Heap) (locs : List Loc) (ls : Array Slot), f_X6_centsByTrial_L2 x.1 x.2.1 p1 n i1 = some res → va_P E.1 vwCl (List.flatten [w_Key E a o x]) H → va_D A (List.flatten [w_Key E a o x]) → va_S A s.heap H locs → lv_has ls 3 [(2, .int i1), (0, .ref (a o)), (1, .int p1)] → W p l e rm_X6_centsByTrial s m args below meth c H locs 0 0 Q (F0 m 2 ls []) := by
    intro n2
    induction n2 with
    | zero => intro i1 H locs ls hF; exact absurd hF (by simp [f_X6_centsByTrial_L2])
    | succ n2 ih2 =>
      intro i1 H locs ls hF hP hD hS hl
      rw [f_X6_centsByTrial_L2] at hF
      refine lv_iload_n hx hb dX6_centsByTrial_2 rfl (lv_at hl 0 rfl) ?_
      refine lv_sipush (v := 1200) hx hb dX6_centsByTrial_3 (by decide) ?_
      refine lv_icmp_gt (tgt := 40) hx hb dX6_centsByTrial_6 (by decide) (fun c6 => ?_) (fun c6 => ?_)
      · have hF := q_brp c6 hF
        refine lv_iconst (v := 0) hx hb dX6_centsByTrial_40 (by decide) ?_
        obtain rfl := Option.some.inj hF
        exact en_i hQ (Nat.le_of_ble_eq_true rfl) (Nat.le_of_ble_eq_true rfl) hx hb hr hlocks hP hD hS rfl dX6_centsByTrial_41
      · have hF := q_brn c6 hF
        refine lv_aload_n hx hb dX6_centsByTrial_9 rfl (lv_at hl 1 rfl) ?_
        refine lv_iload_n hx hb dX6_centsByTrial_10 rfl (lv_at hl 2 rfl) ?_
        refine lv_iload_n hx hb dX6_centsByTrial_11 rfl (lv_at hl 0 rfl) ?_
        refine lv_iadd hx hb dX6_centsByTrial_12 ?_
        obtain ⟨q2, hq2, hF⟩ := q_bdi hF
        refine cl_i (Lc := [w_Key E a o x]) (Lc' := [w_Key E a o x]) (L' := [w_Key E a o x]) (rv := q2) (va_runV (As := [.int (p1 + i1)]) (rest := []) ⟨hx, hb, hml, hown, ha⟩ (k_X6_isExact l E a o x (p1 + i1) q2 hq2 H.size) (cwV 1 ha (gi_V (fun _ h => h) mw701 mw703 mw5 mw28 mw704) rfl rfl rfl hv_X6_isExact ⟨(Nat.le_of_ble_eq_true rfl), (Nat.le_of_ble_eq_true rfl)⟩) ⟨pre_blind, va_recv hst.k (fr_P hP [0] rfl) (ci := 7) (q0 := 0) rfl rfl, pre_at hP hD hS hz hzs hst [0] (by decide) rfl rfl⟩ rfl rfl hl.1 rfl (lv_room (Nat.le_of_ble_eq_true rfl)) dX6_centsByTrial_13 ⟨(Nat.le_of_ble_eq_true rfl), (Nat.le_of_ble_eq_true rfl)⟩) hP hD hS hA [0] (by decide) rfl rfl rfl rfl (fun H locs hP hD hS => ?_)
        refine lv_if_eq (tgt := 21) hx hb dX6_centsByTrial_16 (by decide) (fun c16 => ?_) (fun c16 => ?_)
        · have hF := q_brp c16 hF
          refine lv_aload_n hx hb dX6_centsByTrial_21 rfl (lv_at hl 1 rfl) ?_
          refine lv_iload_n hx hb dX6_centsByTrial_22 rfl (lv_at hl 2 rfl) ?_
          refine lv_iload_n hx hb dX6_centsByTrial_23 rfl (lv_at hl 0 rfl) ?_
          refine lv_isub hx hb dX6_centsByTrial_24 ?_
          obtain ⟨q3, hq3, hF⟩ := q_bdi hF
          refine cl_i (Lc := [w_Key E a o x]) (Lc' := [w_Key E a o x]) (L' := [w_Key E a o x]) (rv := q3) (va_runV (As := [.int (p1 - i1)]) (rest := []) ⟨hx, hb, hml, hown, ha⟩ (k_X6_isExact l E a o x (p1 - i1) q3 hq3 H.size) (cwV 1 ha (gi_V (fun _ h => h) mw701 mw703 mw5 mw28 mw704) rfl rfl rfl hv_X6_isExact ⟨(Nat.le_of_ble_eq_true rfl), (Nat.le_of_ble_eq_true rfl)⟩) ⟨pre_blind, va_recv hst.k (fr_P hP [0] rfl) (ci := 7) (q0 := 0) rfl rfl, pre_at hP hD hS hz hzs hst [0] (by decide) rfl rfl⟩ rfl rfl hl.1 rfl (lv_room (Nat.le_of_ble_eq_true rfl)) dX6_centsByTrial_25 ⟨(Nat.le_of_ble_eq_true rfl), (Nat.le_of_ble_eq_true rfl)⟩) hP hD hS hA [0] (by decide) rfl rfl rfl rfl (fun H locs hP hD hS => ?_)
          refine lv_if_eq (tgt := 34) hx hb dX6_centsByTrial_28 (by decide) (fun c28 => ?_) (fun c28 => ?_)
          · have hF := q_brp c28 hF
            obtain ⟨v4, ev4⟩ : ∃ y : Int32, y = i1 + 1 := ⟨_, rfl⟩
            have hF := q_lti ev4 hF
            refine lv_iinc (v := v4) (lv' := [(2, .int v4), (0, .ref (a o)), (1, .int p1)]) hx hb dX6_centsByTrial_34 hl (k := 0) rfl (by rw [ev4]; rfl) (by decide) rfl (fun ls hl => ?_)
            refine lv_goto (tgt := 2) hx hb dX6_centsByTrial_37 (by decide) ?_
            exact ih2 v4 H locs ls hF hP hD hS (lv_sub hl [0, 1, 2] rfl)
          · have hF := q_brn c28 hF
            refine lv_iload_n hx hb dX6_centsByTrial_31 rfl (lv_at hl 0 rfl) ?_
            refine lv_ineg hx hb dX6_centsByTrial_32 ?_
            obtain rfl := Option.some.inj hF
            exact en_i hQ (Nat.le_of_ble_eq_true rfl) (Nat.le_of_ble_eq_true rfl) hx hb hr hlocks hP hD hS rfl dX6_centsByTrial_33
        · have hF := q_brn c16 hF
          refine lv_iload_n hx hb dX6_centsByTrial_19 rfl (lv_at hl 0 rfl) ?_
          obtain rfl := Option.some.inj hF
          exact en_i hQ (Nat.le_of_ble_eq_true rfl) (Nat.le_of_ble_eq_true rfl) hx hb hr hlocks hP hD hS rfl dX6_centsByTrial_20
  exact key2 _ 0 H locs ls hF hP hD hS (lv_sub hl [0, 1, 2] rfl)

/-! X6_noteAbove -/
theorem dX6_noteAbove_0 : decode cX6_noteAbove 0 = .ok (.iload_n 1, 1) := by decide +kernel
theorem dX6_noteAbove_1 : decode cX6_noteAbove 1 = .ok (.bipush 100, 2) := by decide +kernel
theorem dX6_noteAbove_3 : decode cX6_noteAbove 3 = .ok (.iadd, 1) := by decide +kernel
theorem dX6_noteAbove_4 : decode cX6_noteAbove 4 = .ok (.iconst 1, 1) := by decide +kernel
theorem dX6_noteAbove_5 : decode cX6_noteAbove 5 = .ok (.isub, 1) := by decide +kernel
theorem dX6_noteAbove_6 : decode cX6_noteAbove 6 = .ok (.bipush 100, 2) := by decide +kernel
theorem dX6_noteAbove_8 : decode cX6_noteAbove 8 = .ok (.invokestatic 62, 3) := by decide +kernel
theorem dX6_noteAbove_11 : decode cX6_noteAbove 11 = .ok (.istore_n 2, 1) := by decide +kernel
theorem dX6_noteAbove_12 : decode cX6_noteAbove 12 = .ok (.iconst 0, 1) := by decide +kernel
theorem dX6_noteAbove_13 : decode cX6_noteAbove 13 = .ok (.istore_n 3, 1) := by decide +kernel
theorem dX6_noteAbove_14 : decode cX6_noteAbove 14 = .ok (.iload_n 3, 1) := by decide +kernel
theorem dX6_noteAbove_15 : decode cX6_noteAbove 15 = .ok (.bipush 12, 2) := by decide +kernel
theorem dX6_noteAbove_17 : decode cX6_noteAbove 17 = .ok (.if_icmp .ge 20, 3) := by decide +kernel
theorem dX6_noteAbove_20 : decode cX6_noteAbove 20 = .ok (.aload_n 0, 1) := by decide +kernel
theorem dX6_noteAbove_21 : decode cX6_noteAbove 21 = .ok (.iload_n 2, 1) := by decide +kernel
theorem dX6_noteAbove_22 : decode cX6_noteAbove 22 = .ok (.invokevirtual 41, 3) := by decide +kernel
theorem dX6_noteAbove_25 : decode cX6_noteAbove 25 = .ok (.ifCond .ne 12, 3) := by decide +kernel
theorem dX6_noteAbove_28 : decode cX6_noteAbove 28 = .ok (.iinc 2 1, 3) := by decide +kernel
theorem dX6_noteAbove_31 : decode cX6_noteAbove 31 = .ok (.iinc 3 1, 3) := by decide +kernel
theorem dX6_noteAbove_34 : decode cX6_noteAbove 34 = .ok (.goto (-20), 3) := by decide +kernel
theorem dX6_noteAbove_37 : decode cX6_noteAbove 37 = .ok (.iload_n 2, 1) := by decide +kernel
theorem dX6_noteAbove_38 : decode cX6_noteAbove 38 = .ok (.ireturn, 1) := by decide +kernel
def f_X6_noteAbove_L14 (x_tonic : Int32) (x_isMinor : Int32) : Nat → Int32 → Int32 → Option (Int32)
  | 0, _, _ => none
  | n14 + 1, i2, i3 =>
    q_br (12 ≤ i2) (
  some i3) (
  q_bd (f_X6_hasNote x_tonic x_isMinor i3) (fun q4 =>
  q_br (q4 = 0) (
  q_lt (i3 + 1 : Int32) (fun v5 =>
  q_lt (i2 + 1 : Int32) (fun v6 =>
  f_X6_noteAbove_L14 x_tonic x_isMinor n14 v6 v5))) (
  some i3)))
def f_X6_noteAbove (x_tonic : Int32) (x_isMinor : Int32) (p1 : Int32) : Option (Int32) :=
  q_bd (f_J9_floorDiv_7cf53 ((p1 + 100) - 1) 100) (fun q1 =>
  f_X6_noteAbove_L14 x_tonic x_isMinor 2000 0 q1)
theorem hv_X6_noteAbove : yX6_noteAbove.cls = RX6 ∧ yX6_noteAbove.cls ≠ "java/lang/invoke/MethodHandle" ∧ yX6_noteAbove.cls ≠ "java/lang/invoke/VarHandle" ∧ (parseMethodDescriptor yX6_noteAbove.desc).map (fun d => d.parameters.length) = some 1 := by decide +kernel
abbrev rm_X6_noteAbove : Room := { frames := 3, cells := 0, slots := 0, locals := 64 }
set_option maxHeartbeats 4000000 in
set_option maxRecDepth 100000 in
theorem k_X6_noteAbove (l : Launch) (E : ET) (a : Nat → Nat) (o : Nat) (x : Key_t) (p1 : Int32) (res : Int32) (hF : f_X6_noteAbove x.1 x.2.1 p1 = some res) (sz : Nat) : CtI l yX6_noteAbove (mws yX6_noteAbove cX6_noteAbove 4 (some .int)) rm_X6_noteAbove 0 0 [.ref (a o), .int p1] E (bl_Key E a o x) res (bl_Key E a o x) sz := by
  refine mk_M (by decide +kernel) (Nat.le_of_ble_eq_true rfl) ?_
  intro p e s m below meth c A args Q ls hAe hsz hQ hx hb hr hml hin ha hown hlocks hA hz hzs hst hP hD hS hl
  have hown : s.vm.findClass RX6 = some m.cls := hown
  rw [hAe] at hQ
  subst hsz
  have hP : va_P E.1 vwCl (List.flatten [w_Key E a o x]) s.heap := hP
  have hD : va_D A (List.flatten [w_Key E a o x]) := hD
  have hl : lv_has ls 4 [(0, .ref (a o)), (1, .int p1)] := hl
  generalize hHe : s.heap = H at hP
  have hS : va_S A s.heap H [] := by rw [← hHe]; exact hS
  generalize ([] : List Loc) = locs at hS ⊢
  unfold f_X6_noteAbove at hF
  refine lv_iload_n hx hb dX6_noteAbove_0 rfl (lv_at hl 1 rfl) ?_
  refine lv_bipush (v := 100) hx hb dX6_noteAbove_1 (by decide) ?_
  refine lv_iadd hx hb dX6_noteAbove_3 ?_
  refine lv_iconst (v := 1) hx hb dX6_noteAbove_4 (by decide) ?_
  refine lv_isub hx hb dX6_noteAbove_5 ?_
  refine lv_bipush (v := 100) hx hb dX6_noteAbove_6 (by decide) ?_
  obtain ⟨q1, hq1, hF⟩ := q_bdi hF
  refine cl_i (Lc := []) (Lc' := []) (L' := [w_Key E a o x]) (rv := q1) (va_runS (As := [.int ((p1 + 100) - 1), .int 100]) (rest := []) ⟨hx, hb, hml, hown, ha⟩ (k_J9_floorDiv_7cf53 l E ((p1 + 100) - 1) 100 q1 hq1 H.size) (va_cwS 2 ha (gi_T (fun _ h => h) mw717 mw423 mw48 mw424) rfl rfl rfl hv_J9_floorDiv_7cf53.2 ⟨(Nat.le_of_ble_eq_true rfl), (Nat.le_of_ble_eq_true rfl)⟩) ⟨pre_blind, pre_at hP hD hS hz hzs hst [] (by decide) rfl rfl⟩ rfl rfl hl.1 rfl (lv_room (Nat.le_of_ble_eq_true rfl)) dX6_noteAbove_8 ⟨(Nat.le_of_ble_eq_true rfl), (Nat.le_of_ble_eq_true rfl)⟩) hP hD hS hA [] (by decide) rfl rfl rfl rfl (fun H locs hP hD hS => ?_)
  refine lv_istore_n (lv' := [(2, .int q1), (0, .ref (a o)), (1, .int p1)]) hx hb dX6_noteAbove_11 rfl hl (by decide) rfl (fun ls hl => ?_)
  refine lv_iconst (v := 0) hx hb dX6_noteAbove_12 (by decide) ?_
  refine lv_istore_n (lv' := [(3, .int 0), (2, .int q1), (0, .ref (a o)), (1, .int p1)]) hx hb dX6_noteAbove_13 rfl hl (by decide) rfl (fun ls hl => ?_)
  have key14 : ∀ (n : Nat) (i2 : Int32) (i3 : Int32) (H : Heap) (locs : List Loc) (ls : Array Slot), f_X6_noteAbove_L14 x.1 x.2.1 n i2 i3 = some res → va_P E.1 vwCl (List.flatten [w_Key E a o x]) H → va_D A (List.flatten [w_Key E a o x]) → va_S A s.heap H locs → lv_has ls 4 [(3, .int i2), (2, .int i3), (0, .ref (a o))] → W p l e rm_X6_noteAbove s m args below meth c H locs 0 0 Q (F0 m 14 ls []) := by
    intro n14
    induction n14 with
    | zero => intro i2 i3 H locs ls hF; exact absurd hF (by simp [f_X6_noteAbove_L14])
    | succ n14 ih14 =>
      intro i2 i3 H locs ls hF hP hD hS hl
      rw [f_X6_noteAbove_L14] at hF
      refine lv_iload_n hx hb dX6_noteAbove_14 rfl (lv_at hl 0 rfl) ?_
      refine lv_bipush (v := 12) hx hb dX6_noteAbove_15 (by decide) ?_
      refine lv_icmp_ge (tgt := 37) hx hb dX6_noteAbove_17 (by decide) (fun c17 => ?_) (fun c17 => ?_)
      · have hF := q_brp c17 hF
        refine lv_iload_n hx hb dX6_noteAbove_37 rfl (lv_at hl 1 rfl) ?_
        obtain rfl := Option.some.inj hF
        exact en_i hQ (Nat.le_of_ble_eq_true rfl) (Nat.le_of_ble_eq_true rfl) hx hb hr hlocks hP hD hS rfl dX6_noteAbove_38
      · have hF := q_brn c17 hF
        refine lv_aload_n hx hb dX6_noteAbove_20 rfl (lv_at hl 2 rfl) ?_
        refine lv_iload_n hx hb dX6_noteAbove_21 rfl (lv_at hl 1 rfl) ?_
        obtain ⟨q4, hq4, hF⟩ := q_bdi hF
        refine cl_i (Lc := [w_Key E a o x]) (Lc' := [w_Key E a o x]) (L' := [w_Key E a o x]) (rv := q4) (va_runV (As := [.int i3]) (rest := []) ⟨hx, hb, hml, hown, ha⟩ (k_X6_hasNote l E a o x i3 q4 hq4 H.size) (cwV 1 ha (gi_V (fun _ h => h) mw425 mw426 mw427 mw28 mw428) rfl rfl rfl hv_X6_hasNote ⟨(Nat.le_of_ble_eq_true rfl), (Nat.le_of_ble_eq_true rfl)⟩) ⟨pre_blind, va_recv hst.k (fr_P hP [0] rfl) (ci := 7) (q0 := 0) rfl rfl, pre_at hP hD hS hz hzs hst [0] (by decide) rfl rfl⟩ rfl rfl hl.1 rfl (lv_room (Nat.le_of_ble_eq_true rfl)) dX6_noteAbove_22 ⟨(Nat.le_of_ble_eq_true rfl), (Nat.le_of_ble_eq_true rfl)⟩) hP hD hS hA [0] (by decide) rfl rfl rfl rfl (fun H locs hP hD hS => ?_)
        refine lv_if_ne (tgt := 37) hx hb dX6_noteAbove_25 (by decide) (fun c25 => ?_) (fun c25 => ?_)
        · have hF := q_brn c25 hF
          refine lv_iload_n hx hb dX6_noteAbove_37 rfl (lv_at hl 1 rfl) ?_
          obtain rfl := Option.some.inj hF
          exact en_i hQ (Nat.le_of_ble_eq_true rfl) (Nat.le_of_ble_eq_true rfl) hx hb hr hlocks hP hD hS rfl dX6_noteAbove_38
        · have hF := q_brp c25 hF
          obtain ⟨v5, ev5⟩ : ∃ y : Int32, y = i3 + 1 := ⟨_, rfl⟩
          have hF := q_lti ev5 hF
          refine lv_iinc (v := v5) (lv' := [(2, .int v5), (3, .int i2), (0, .ref (a o))]) hx hb dX6_noteAbove_28 hl (k := 1) rfl (by rw [ev5]; rfl) (by decide) rfl (fun ls hl => ?_)
          obtain ⟨v6, ev6⟩ : ∃ y : Int32, y = i2 + 1 := ⟨_, rfl⟩
          have hF := q_lti ev6 hF
          refine lv_iinc (v := v6) (lv' := [(3, .int v6), (2, .int v5), (0, .ref (a o))]) hx hb dX6_noteAbove_31 hl (k := 1) rfl (by rw [ev6]; rfl) (by decide) rfl (fun ls hl => ?_)
          refine lv_goto (tgt := 14) hx hb dX6_noteAbove_34 (by decide) ?_
          exact ih14 v6 v5 H locs ls hF hP hD hS (lv_sub hl [0, 1, 2] rfl)
  exact key14 _ 0 q1 H locs ls hF hP hD hS (lv_sub hl [0, 1, 2] rfl)

/-! X6_noteBelow -/
theorem dX6_noteBelow_0 : decode cX6_noteBelow 0 = .ok (.iload_n 1, 1) := by decide +kernel
theorem dX6_noteBelow_1 : decode cX6_noteBelow 1 = .ok (.bipush 100, 2) := by decide +kernel
theorem dX6_noteBelow_3 : decode cX6_noteBelow 3 = .ok (.invokestatic 62, 3) := by decide +kernel
theorem dX6_noteBelow_6 : decode cX6_noteBelow 6 = .ok (.istore_n 2, 1) := by decide +kernel
theorem dX6_noteBelow_7 : decode cX6_noteBelow 7 = .ok (.iconst 0, 1) := by decide +kernel
theorem dX6_noteBelow_8 : decode cX6_noteBelow 8 = .ok (.istore_n 3, 1) := by decide +kernel
theorem dX6_noteBelow_9 : decode cX6_noteBelow 9 = .ok (.iload_n 3, 1) := by decide +kernel
theorem dX6_noteBelow_10 : decode cX6_noteBelow 10 = .ok (.bipush 12, 2) := by decide +kernel
theorem dX6_noteBelow_12 : decode cX6_noteBelow 12 = .ok (.if_icmp .ge 20, 3) := by decide +kernel
theorem dX6_noteBelow_15 : decode cX6_noteBelow 15 = .ok (.aload_n 0, 1) := by decide +kernel
theorem dX6_noteBelow_16 : decode cX6_noteBelow 16 = .ok (.iload_n 2, 1) := by decide +kernel
theorem dX6_noteBelow_17 : decode cX6_noteBelow 17 = .ok (.invokevirtual 41, 3) := by decide +kernel
theorem dX6_noteBelow_20 : decode cX6_noteBelow 20 = .ok (.ifCond .ne 12, 3) := by decide +kernel
theorem dX6_noteBelow_23 : decode cX6_noteBelow 23 = .ok (.iinc 2 (-1), 3) := by decide +kernel
theorem dX6_noteBelow_26 : decode cX6_noteBelow 26 = .ok (.iinc 3 1, 3) := by decide +kernel
theorem dX6_noteBelow_29 : decode cX6_noteBelow 29 = .ok (.goto (-20), 3) := by decide +kernel
theorem dX6_noteBelow_32 : decode cX6_noteBelow 32 = .ok (.iload_n 2, 1) := by decide +kernel
theorem dX6_noteBelow_33 : decode cX6_noteBelow 33 = .ok (.ireturn, 1) := by decide +kernel
def f_X6_noteBelow_L9 (x_tonic : Int32) (x_isMinor : Int32) : Nat → Int32 → Int32 → Option (Int32)
  | 0, _, _ => none
  | n9 + 1, i2, i3 =>
    q_br (12 ≤ i2) (
  some i3) (
  q_bd (f_X6_hasNote x_tonic x_isMinor i3) (fun q4 =>
  q_br (q4 = 0) (
  q_lt (i3 + (-1) : Int32) (fun v5 =>
  q_lt (i2 + 1 : Int32) (fun v6 =>
  f_X6_noteBelow_L9 x_tonic x_isMinor n9 v6 v5))) (
  some i3)))
def f_X6_noteBelow (x_tonic : Int32) (x_isMinor : Int32) (p1 : Int32) : Option (Int32) :=
  q_bd (f_J9_floorDiv_7cf53 p1 100) (fun q1 =>
  f_X6_noteBelow_L9 x_tonic x_isMinor 2000 0 q1)
theorem hv_X6_noteBelow : yX6_noteBelow.cls = RX6 ∧ yX6_noteBelow.cls ≠ "java/lang/invoke/MethodHandle" ∧ yX6_noteBelow.cls ≠ "java/lang/invoke/VarHandle" ∧ (parseMethodDescriptor yX6_noteBelow.desc).map (fun d => d.parameters.length) = some 1 := by decide +kernel
abbrev rm_X6_noteBelow : Room := { frames := 3, cells := 0, slots := 0, locals := 64 }
set_option maxHeartbeats 4000000 in
set_option maxRecDepth 100000 in
theorem k_X6_noteBelow (l : Launch) (E : ET) (a : Nat → Nat) (o : Nat) (x : Key_t) (p1 : Int32) (res : Int32) (hF : f_X6_noteBelow x.1 x.2.1 p1 = some res) (sz : Nat) : CtI l yX6_noteBelow (mws yX6_noteBelow cX6_noteBelow 4 (some .int)) rm_X6_noteBelow 0 0 [.ref (a o), .int p1] E (bl_Key E a o x) res (bl_Key E a o x) sz := by
  refine mk_M (by decide +kernel) (Nat.le_of_ble_eq_true rfl) ?_
  intro p e s m below meth c A args Q ls hAe hsz hQ hx hb hr hml hin ha hown hlocks hA hz hzs hst hP hD hS hl
  have hown : s.vm.findClass RX6 = some m.cls := hown
  rw [hAe] at hQ
  subst hsz
  have hP : va_P E.1 vwCl (List.flatten [w_Key E a o x]) s.heap := hP
  have hD : va_D A (List.flatten [w_Key E a o x]) := hD
  have hl : lv_has ls 4 [(0, .ref (a o)), (1, .int p1)] := hl
  generalize hHe : s.heap = H at hP
  have hS : va_S A s.heap H [] := by rw [← hHe]; exact hS
  generalize ([] : List Loc) = locs at hS ⊢
  unfold f_X6_noteBelow at hF
  refine lv_iload_n hx hb dX6_noteBelow_0 rfl (lv_at hl 1 rfl) ?_
  refine lv_bipush (v := 100) hx hb dX6_noteBelow_1 (by decide) ?_
  obtain ⟨q1, hq1, hF⟩ := q_bdi hF
  refine cl_i (Lc := []) (Lc' := []) (L' := [w_Key E a o x]) (rv := q1) (va_runS (As := [.int p1, .int 100]) (rest := []) ⟨hx, hb, hml, hown, ha⟩ (k_J9_floorDiv_7cf53 l E p1 100 q1 hq1 H.size) (va_cwS 2 ha (gi_T (fun _ h => h) mw717 mw423 mw48 mw424) rfl rfl rfl hv_J9_floorDiv_7cf53.2 ⟨(Nat.le_of_ble_eq_true rfl), (Nat.le_of_ble_eq_true rfl)⟩) ⟨pre_blind, pre_at hP hD hS hz hzs hst [] (by decide) rfl rfl⟩ rfl rfl hl.1 rfl (lv_room (Nat.le_of_ble_eq_true rfl)) dX6_noteBelow_3 ⟨(Nat.le_of_ble_eq_true rfl), (Nat.le_of_ble_eq_true rfl)⟩) hP hD hS hA [] (by decide) rfl rfl rfl rfl (fun H locs hP hD hS => ?_)
  refine lv_istore_n (lv' := [(2, .int q1), (0, .ref (a o)), (1, .int p1)]) hx hb dX6_noteBelow_6 rfl hl (by decide) rfl (fun ls hl => ?_)
  refine lv_iconst (v := 0) hx hb dX6_noteBelow_7 (by decide) ?_
  refine lv_istore_n (lv' := [(3, .int 0), (2, .int q1), (0, .ref (a o)), (1, .int p1)]) hx hb dX6_noteBelow_8 rfl hl (by decide) rfl (fun ls hl => ?_)
  have key9 : ∀ (n : Nat) (i2 : Int32) (i3 : Int32) (H : Heap) (locs : List Loc) (ls : Array Slot), f_X6_noteBelow_L9 x.1 x.2.1 n i2 i3 = some res → va_P E.1 vwCl (List.flatten [w_Key E a o x]) H → va_D A (List.flatten [w_Key E a o x]) → va_S A s.heap H locs → lv_has ls 4 [(3, .int i2), (2, .int i3), (0, .ref (a o))] → W p l e rm_X6_noteBelow s m args below meth c H locs 0 0 Q (F0 m 9 ls []) := by
    intro n9
    induction n9 with
    | zero => intro i2 i3 H locs ls hF; exact absurd hF (by simp [f_X6_noteBelow_L9])
    | succ n9 ih9 =>
      intro i2 i3 H locs ls hF hP hD hS hl
      rw [f_X6_noteBelow_L9] at hF
      refine lv_iload_n hx hb dX6_noteBelow_9 rfl (lv_at hl 0 rfl) ?_
      refine lv_bipush (v := 12) hx hb dX6_noteBelow_10 (by decide) ?_
      refine lv_icmp_ge (tgt := 32) hx hb dX6_noteBelow_12 (by decide) (fun c12 => ?_) (fun c12 => ?_)
      · have hF := q_brp c12 hF
        refine lv_iload_n hx hb dX6_noteBelow_32 rfl (lv_at hl 1 rfl) ?_
        obtain rfl := Option.some.inj hF
        exact en_i hQ (Nat.le_of_ble_eq_true rfl) (Nat.le_of_ble_eq_true rfl) hx hb hr hlocks hP hD hS rfl dX6_noteBelow_33
      · have hF := q_brn c12 hF
        refine lv_aload_n hx hb dX6_noteBelow_15 rfl (lv_at hl 2 rfl) ?_
        refine lv_iload_n hx hb dX6_noteBelow_16 rfl (lv_at hl 1 rfl) ?_
        obtain ⟨q4, hq4, hF⟩ := q_bdi hF
        refine cl_i (Lc := [w_Key E a o x]) (Lc' := [w_Key E a o x]) (L' := [w_Key E a o x]) (rv := q4) (va_runV (As := [.int i3]) (rest := []) ⟨hx, hb, hml, hown, ha⟩ (k_X6_hasNote l E a o x i3 q4 hq4 H.size) (cwV 1 ha (gi_V (fun _ h => h) mw425 mw426 mw427 mw28 mw428) rfl rfl rfl hv_X6_hasNote ⟨(Nat.le_of_ble_eq_true rfl), (Nat.le_of_ble_eq_true rfl)⟩) ⟨pre_blind, va_recv hst.k (fr_P hP [0] rfl) (ci := 7) (q0 := 0) rfl rfl, pre_at hP hD hS hz hzs hst [0] (by decide) rfl rfl⟩ rfl rfl hl.1 rfl (lv_room (Nat.le_of_ble_eq_true rfl)) dX6_noteBelow_17 ⟨(Nat.le_of_ble_eq_true rfl), (Nat.le_of_ble_eq_true rfl)⟩) hP hD hS hA [0] (by decide) rfl rfl rfl rfl (fun H locs hP hD hS => ?_)
        refine lv_if_ne (tgt := 32) hx hb dX6_noteBelow_20 (by decide) (fun c20 => ?_) (fun c20 => ?_)
        · have hF := q_brn c20 hF
          refine lv_iload_n hx hb dX6_noteBelow_32 rfl (lv_at hl 1 rfl) ?_
          obtain rfl := Option.some.inj hF
          exact en_i hQ (Nat.le_of_ble_eq_true rfl) (Nat.le_of_ble_eq_true rfl) hx hb hr hlocks hP hD hS rfl dX6_noteBelow_33
        · have hF := q_brp c20 hF
          obtain ⟨v5, ev5⟩ : ∃ y : Int32, y = i3 + (-1) := ⟨_, rfl⟩
          have hF := q_lti ev5 hF
          refine lv_iinc (v := v5) (lv' := [(2, .int v5), (3, .int i2), (0, .ref (a o))]) hx hb dX6_noteBelow_23 hl (k := 1) rfl (by rw [ev5]; rfl) (by decide) rfl (fun ls hl => ?_)
          obtain ⟨v6, ev6⟩ : ∃ y : Int32, y = i2 + 1 := ⟨_, rfl⟩
          have hF := q_lti ev6 hF
          refine lv_iinc (v := v6) (lv' := [(3, .int v6), (2, .int v5), (0, .ref (a o))]) hx hb dX6_noteBelow_26 hl (k := 1) rfl (by rw [ev6]; rfl) (by decide) rfl (fun ls hl => ?_)
          refine lv_goto (tgt := 9) hx hb dX6_noteBelow_29 (by decide) ?_
          exact ih9 v6 v5 H locs ls hF hP hD hS (lv_sub hl [0, 1, 2] rfl)
  exact key9 _ 0 q1 H locs ls hF hP hD hS (lv_sub hl [0, 1, 2] rfl)

/-! X6_centsByNotes -/
theorem dX6_centsByNotes_0 : decode cX6_centsByNotes 0 = .ok (.bipush 100, 2) := by decide +kernel
theorem dX6_centsByNotes_2 : decode cX6_centsByNotes 2 = .ok (.aload_n 0, 1) := by decide +kernel
theorem dX6_centsByNotes_3 : decode cX6_centsByNotes 3 = .ok (.iload_n 1, 1) := by decide +kernel
theorem dX6_centsByNotes_4 : decode cX6_centsByNotes 4 = .ok (.invokevirtual 56, 3) := by decide +kernel
theorem dX6_centsByNotes_7 : decode cX6_centsByNotes 7 = .ok (.imul, 1) := by decide +kernel
theorem dX6_centsByNotes_8 : decode cX6_centsByNotes 8 = .ok (.iload_n 1, 1) := by decide +kernel
theorem dX6_centsByNotes_9 : decode cX6_centsByNotes 9 = .ok (.isub, 1) := by decide +kernel
theorem dX6_centsByNotes_10 : decode cX6_centsByNotes 10 = .ok (.istore_n 2, 1) := by decide +kernel
theorem dX6_centsByNotes_11 : decode cX6_centsByNotes 11 = .ok (.iload_n 1, 1) := by decide +kernel
theorem dX6_centsByNotes_12 : decode cX6_centsByNotes 12 = .ok (.bipush 100, 2) := by decide +kernel
theorem dX6_centsByNotes_14 : decode cX6_centsByNotes 14 = .ok (.aload_n 0, 1) := by decide +kernel
theorem dX6_centsByNotes_15 : decode cX6_centsByNotes 15 = .ok (.iload_n 1, 1) := by decide +kernel
theorem dX6_centsByNotes_16 : decode cX6_centsByNotes 16 = .ok (.invokevirtual 59, 3) := by decide +kernel
theorem dX6_centsByNotes_19 : decode cX6_centsByNotes 19 = .ok (.imul, 1) := by decide +kernel
theorem dX6_centsByNotes_20 : decode cX6_centsByNotes 20 = .ok (.isub, 1) := by decide +kernel
theorem dX6_centsByNotes_21 : decode cX6_centsByNotes 21 = .ok (.istore_n 3, 1) := by decide +kernel
theorem dX6_centsByNotes_22 : decode cX6_centsByNotes 22 = .ok (.iload_n 2, 1) := by decide +kernel
theorem dX6_centsByNotes_23 : decode cX6_centsByNotes 23 = .ok (.iload_n 3, 1) := by decide +kernel
theorem dX6_centsByNotes_24 : decode cX6_centsByNotes 24 = .ok (.if_icmp .gt 7, 3) := by decide +kernel
theorem dX6_centsByNotes_27 : decode cX6_centsByNotes 27 = .ok (.iload_n 2, 1) := by decide +kernel
theorem dX6_centsByNotes_28 : decode cX6_centsByNotes 28 = .ok (.goto 5, 3) := by decide +kernel
theorem dX6_centsByNotes_31 : decode cX6_centsByNotes 31 = .ok (.iload_n 3, 1) := by decide +kernel
theorem dX6_centsByNotes_32 : decode cX6_centsByNotes 32 = .ok (.ineg, 1) := by decide +kernel
theorem dX6_centsByNotes_33 : decode cX6_centsByNotes 33 = .ok (.ireturn, 1) := by decide +kernel
def f_X6_centsByNotes (x_tonic : Int32) (x_isMinor : Int32) (p1 : Int32) : Option (Int32) :=
  q_bd (f_X6_noteAbove x_tonic x_isMinor p1) (fun q1 =>
  q_lt ((100 * q1) - p1 : Int32) (fun v2 =>
  q_bd (f_X6_noteBelow x_tonic x_isMinor p1) (fun q3 =>
  q_lt (p1 - (100 * q3) : Int32) (fun v4 =>
  q_br (v4 < v2) (
  some (-v4)) (
  some v2)))))
theorem hv_X6_centsByNotes : yX6_centsByNotes.cls = RX6 ∧ yX6_centsByNotes.cls ≠ "java/lang/invoke/MethodHandle" ∧ yX6_centsByNotes.cls ≠ "java/lang/invoke/VarHandle" ∧ (parseMethodDescriptor yX6_centsByNotes.desc).map (fun d => d.parameters.length) = some 1 := by decide +kernel
abbrev rm_X6_centsByNotes : Room := { frames := 4, cells := 0, slots := 0, locals := 87 }
set_option maxHeartbeats 4000000 in
set_option maxRecDepth 100000 in
theorem k_X6_centsByNotes (l : Launch) (E : ET) (a : Nat → Nat) (o : Nat) (x : Key_t) (p1 : Int32) (res : Int32) (hF : f_X6_centsByNotes x.1 x.2.1 p1 = some res) (sz : Nat) : CtI l yX6_centsByNotes (mws yX6_centsByNotes cX6_centsByNotes 4 (some .int)) rm_X6_centsByNotes 0 0 [.ref (a o), .int p1] E (bl_Key E a o x) res (bl_Key E a o x) sz := by
  refine mk_M (by decide +kernel) (Nat.le_of_ble_eq_true rfl) ?_
  intro p e s m below meth c A args Q ls hAe hsz hQ hx hb hr hml hin ha hown hlocks hA hz hzs hst hP hD hS hl
  have hown : s.vm.findClass RX6 = some m.cls := hown
  rw [hAe] at hQ
  subst hsz
  have hP : va_P E.1 vwCl (List.flatten [w_Key E a o x]) s.heap := hP
  have hD : va_D A (List.flatten [w_Key E a o x]) := hD
  have hl : lv_has ls 4 [(0, .ref (a o)), (1, .int p1)] := hl
  generalize hHe : s.heap = H at hP
  have hS : va_S A s.heap H [] := by rw [← hHe]; exact hS
  generalize ([] : List Loc) = locs at hS ⊢
  unfold f_X6_centsByNotes at hF
  refine lv_bipush (v := 100) hx hb dX6_centsByNotes_0 (by decide) ?_
  refine lv_aload_n hx hb dX6_centsByNotes_2 rfl (lv_at hl 0 rfl) ?_
  refine lv_iload_n hx hb dX6_centsByNotes_3 rfl (lv_at hl 1 rfl) ?_
  obtain ⟨q1, hq1, hF⟩ := q_bdi hF
  refine cl_i (Lc := [w_Key E a o x]) (Lc' := [w_Key E a o x]) (L' := [w_Key E a o x]) (rv := q1) (va_runV (As := [.int p1]) (rest := [.int 100]) ⟨hx, hb, hml, hown, ha⟩ (k_X6_noteAbove l E a o x p1 q1 hq1 H.size) (cwV 1 ha (gi_V (fun _ h => h) mw713 mw715 mw6 mw28 mw716) rfl rfl rfl hv_X6_noteAbove ⟨(Nat.le_of_ble_eq_true rfl), (Nat.le_of_ble_eq_true rfl)⟩) ⟨pre_blind, va_recv hst.k (fr_P hP [0] rfl) (ci := 7) (q0 := 0) rfl rfl, pre_at hP hD hS hz hzs hst [0] (by decide) rfl rfl⟩ rfl rfl hl.1 rfl (lv_room (Nat.le_of_ble_eq_true rfl)) dX6_centsByNotes_4 ⟨(Nat.le_of_ble_eq_true rfl), (Nat.le_of_ble_eq_true rfl)⟩) hP hD hS hA [0] (by decide) rfl rfl rfl rfl (fun H locs hP hD hS => ?_)
  refine lv_imul hx hb dX6_centsByNotes_7 ?_
  refine lv_iload_n hx hb dX6_centsByNotes_8 rfl (lv_at hl 1 rfl) ?_
  refine lv_isub hx hb dX6_centsByNotes_9 ?_
  refine lv_topi (fun v2 ev2 => ?_)
  have hF := q_lti ev2 hF
  refine lv_istore_n (lv' := [(2, .int v2), (0, .ref (a o)), (1, .int p1)]) hx hb dX6_centsByNotes_10 rfl hl (by decide) rfl (fun ls hl => ?_)
  refine lv_iload_n hx hb dX6_centsByNotes_11 rfl (lv_at hl 2 rfl) ?_
  refine lv_bipush (v := 100) hx hb dX6_centsByNotes_12 (by decide) ?_
  refine lv_aload_n hx hb dX6_centsByNotes_14 rfl (lv_at hl 1 rfl) ?_
  refine lv_iload_n hx hb dX6_centsByNotes_15 rfl (lv_at hl 2 rfl) ?_
  obtain ⟨q3, hq3, hF⟩ := q_bdi hF
  refine cl_i (Lc := [w_Key E a o x]) (Lc' := [w_Key E a o x]) (L' := [w_Key E a o x]) (rv := q3) (va_runV (As := [.int p1]) (rest := [.int 100, .int p1]) ⟨hx, hb, hml, hown, ha⟩ (k_X6_noteBelow l E a o x p1 q3 hq3 H.size) (cwV 1 ha (gi_V (fun _ h => h) mw718 mw720 mw7 mw28 mw721) rfl rfl rfl hv_X6_noteBelow ⟨(Nat.le_of_ble_eq_true rfl), (Nat.le_of_ble_eq_true rfl)⟩) ⟨pre_blind, va_recv hst.k (fr_P hP [0] rfl) (ci := 7) (q0 := 0) rfl rfl, pre_at hP hD hS hz hzs hst [0] (by decide) rfl rfl⟩ rfl rfl hl.1 rfl (lv_room (Nat.le_of_ble_eq_true rfl)) dX6_centsByNotes_16 ⟨(Nat.le_of_ble_eq_true rfl), (Nat.le_of_ble_eq_true rfl)⟩) hP hD hS hA [0] (by decide) rfl rfl rfl rfl (fun H locs hP hD hS => ?_)
  refine lv_imul hx hb dX6_centsByNotes_19 ?_
  refine lv_isub hx hb dX6_centsByNotes_20 ?_
  refine lv_topi (fun v4 ev4 => ?_)
  have hF := q_lti ev4 hF
  refine lv_istore_n (lv' := [(3, .int v4), (2, .int v2), (0, .ref (a o)), (1, .int p1)]) hx hb dX6_centsByNotes_21 rfl hl (by decide) rfl (fun ls hl => ?_)
  refine lv_iload_n hx hb dX6_centsByNotes_22 rfl (lv_at hl 1 rfl) ?_
  refine lv_iload_n hx hb dX6_centsByNotes_23 rfl (lv_at hl 0 rfl) ?_
  refine lv_icmp_gt (tgt := 31) hx hb dX6_centsByNotes_24 (by decide) (fun c24 => ?_) (fun c24 => ?_)
  · have hF := q_brp c24 hF
    refine lv_iload_n hx hb dX6_centsByNotes_31 rfl (lv_at hl 0 rfl) ?_
    refine lv_ineg hx hb dX6_centsByNotes_32 ?_
    obtain rfl := Option.some.inj hF
    exact en_i hQ (Nat.le_of_ble_eq_true rfl) (Nat.le_of_ble_eq_true rfl) hx hb hr hlocks hP hD hS rfl dX6_centsByNotes_33
  · have hF := q_brn c24 hF
    refine lv_iload_n hx hb dX6_centsByNotes_27 rfl (lv_at hl 1 rfl) ?_
    refine lv_goto (tgt := 33) hx hb dX6_centsByNotes_28 (by decide) ?_
    obtain rfl := Option.some.inj hF
    exact en_i hQ (Nat.le_of_ble_eq_true rfl) (Nat.le_of_ble_eq_true rfl) hx hb hr hlocks hP hD hS rfl dX6_centsByNotes_33

/-! X1_wear -/
theorem dX1_wear_0 : decode cX1_wear 0 = .ok (.iload_n 1, 1) := by decide +kernel
theorem dX1_wear_1 : decode cX1_wear 1 = .ok (.invokestatic 32, 3) := by decide +kernel
theorem dX1_wear_4 : decode cX1_wear 4 = .ok (.ifCond .ne 5, 3) := by decide +kernel
theorem dX1_wear_7 : decode cX1_wear 7 = .ok (.iconst (-1), 1) := by decide +kernel
theorem dX1_wear_8 : decode cX1_wear 8 = .ok (.ireturn, 1) := by decide +kernel
theorem dX1_wear_9 : decode cX1_wear 9 = .ok (.iload_n 2, 1) := by decide +kernel
theorem dX1_wear_10 : decode cX1_wear 10 = .ok (.iconst 1, 1) := by decide +kernel
theorem dX1_wear_11 : decode cX1_wear 11 = .ok (.bipush 99, 2) := by decide +kernel
theorem dX1_wear_13 : decode cX1_wear 13 = .ok (.invokestatic 28, 3) := by decide +kernel
theorem dX1_wear_16 : decode cX1_wear 16 = .ok (.ifCond .ne 6, 3) := by decide +kernel
theorem dX1_wear_19 : decode cX1_wear 19 = .ok (.bipush (-2), 2) := by decide +kernel
theorem dX1_wear_21 : decode cX1_wear 21 = .ok (.ireturn, 1) := by decide +kernel
theorem dX1_wear_22 : decode cX1_wear 22 = .ok (.iconst 0, 1) := by decide +kernel
theorem dX1_wear_23 : decode cX1_wear 23 = .ok (.istore 4, 2) := by decide +kernel
theorem dX1_wear_25 : decode cX1_wear 25 = .ok (.iconst 0, 1) := by decide +kernel
theorem dX1_wear_26 : decode cX1_wear 26 = .ok (.istore 5, 2) := by decide +kernel
theorem dX1_wear_28 : decode cX1_wear 28 = .ok (.iload 5, 2) := by decide +kernel
theorem dX1_wear_30 : decode cX1_wear 30 = .ok (.aload_n 0, 1) := by decide +kernel
theorem dX1_wear_31 : decode cX1_wear 31 = .ok (.getfield 18, 3) := by decide +kernel
theorem dX1_wear_34 : decode cX1_wear 34 = .ok (.if_icmp .ge 77, 3) := by decide +kernel
theorem dX1_wear_37 : decode cX1_wear 37 = .ok (.aload_n 3, 1) := by decide +kernel
theorem dX1_wear_38 : decode cX1_wear 38 = .ok (.aload_n 0, 1) := by decide +kernel
theorem dX1_wear_39 : decode cX1_wear 39 = .ok (.getfield 15, 3) := by decide +kernel
theorem dX1_wear_42 : decode cX1_wear 42 = .ok (.iload 5, 2) := by decide +kernel
theorem dX1_wear_44 : decode cX1_wear 44 = .ok (.iaload, 1) := by decide +kernel
theorem dX1_wear_45 : decode cX1_wear 45 = .ok (.invokevirtual 39, 3) := by decide +kernel
theorem dX1_wear_48 : decode cX1_wear 48 = .ok (.istore 6, 2) := by decide +kernel
theorem dX1_wear_50 : decode cX1_wear 50 = .ok (.aload_n 0, 1) := by decide +kernel
theorem dX1_wear_51 : decode cX1_wear 51 = .ok (.getfield 11, 3) := by decide +kernel
theorem dX1_wear_54 : decode cX1_wear 54 = .ok (.iload 5, 2) := by decide +kernel
theorem dX1_wear_56 : decode cX1_wear 56 = .ok (.iaload, 1) := by decide +kernel
theorem dX1_wear_57 : decode cX1_wear 57 = .ok (.iload_n 1, 1) := by decide +kernel
theorem dX1_wear_58 : decode cX1_wear 58 = .ok (.if_icmp .ne 25, 3) := by decide +kernel
theorem dX1_wear_61 : decode cX1_wear 61 = .ok (.aload_n 0, 1) := by decide +kernel
theorem dX1_wear_62 : decode cX1_wear 62 = .ok (.getfield 15, 3) := by decide +kernel
theorem dX1_wear_65 : decode cX1_wear 65 = .ok (.iload 5, 2) := by decide +kernel
theorem dX1_wear_67 : decode cX1_wear 67 = .ok (.sipush 3600, 3) := by decide +kernel
theorem dX1_wear_70 : decode cX1_wear 70 = .ok (.aload_n 0, 1) := by decide +kernel
theorem dX1_wear_71 : decode cX1_wear 71 = .ok (.getfield 15, 3) := by decide +kernel
theorem dX1_wear_74 : decode cX1_wear 74 = .ok (.iload 5, 2) := by decide +kernel
theorem dX1_wear_76 : decode cX1_wear 76 = .ok (.iaload, 1) := by decide +kernel
theorem dX1_wear_77 : decode cX1_wear 77 = .ok (.iload_n 2, 1) := by decide +kernel
theorem dX1_wear_78 : decode cX1_wear 78 = .ok (.isub, 1) := by decide +kernel
theorem dX1_wear_79 : decode cX1_wear 79 = .ok (.invokestatic 44, 3) := by decide +kernel
theorem dX1_wear_82 : decode cX1_wear 82 = .ok (.iastore, 1) := by decide +kernel
theorem dX1_wear_83 : decode cX1_wear 83 = .ok (.iload 6, 2) := by decide +kernel
theorem dX1_wear_85 : decode cX1_wear 85 = .ok (.ifCond .eq 20, 3) := by decide +kernel
theorem dX1_wear_88 : decode cX1_wear 88 = .ok (.aload_n 3, 1) := by decide +kernel
theorem dX1_wear_89 : decode cX1_wear 89 = .ok (.aload_n 0, 1) := by decide +kernel
theorem dX1_wear_90 : decode cX1_wear 90 = .ok (.getfield 15, 3) := by decide +kernel
theorem dX1_wear_93 : decode cX1_wear 93 = .ok (.iload 5, 2) := by decide +kernel
theorem dX1_wear_95 : decode cX1_wear 95 = .ok (.iaload, 1) := by decide +kernel
theorem dX1_wear_96 : decode cX1_wear 96 = .ok (.invokevirtual 39, 3) := by decide +kernel
theorem dX1_wear_99 : decode cX1_wear 99 = .ok (.ifCond .ne 6, 3) := by decide +kernel
theorem dX1_wear_102 : decode cX1_wear 102 = .ok (.iinc 4 1, 3) := by decide +kernel
theorem dX1_wear_105 : decode cX1_wear 105 = .ok (.iinc 5 1, 3) := by decide +kernel
theorem dX1_wear_108 : decode cX1_wear 108 = .ok (.goto (-80), 3) := by decide +kernel
theorem dX1_wear_111 : decode cX1_wear 111 = .ok (.iload 4, 2) := by decide +kernel
theorem dX1_wear_113 : decode cX1_wear 113 = .ok (.ireturn, 1) := by decide +kernel
def f_X1_wear_L28 (x_herds : (Nat → Int32)) (x_count : Int32) (y_tonic : Int32) (y_isMinor : Int32) (y_tolerance : Int32) (p1 : Int32) (p2 : Int32) : Nat → Int32 → Int32 → (Nat → Int32) → Option (Int32 × (Nat → Int32))
  | 0, _, _, _ => none
  | n28 + 1, i3, i4, i5 =>
    q_br (x_count ≤ i3) (
  some (i4, i5)) (
  q_gd (q_in i3 12) (
  q_bd (f_X6_accepts y_tonic y_isMinor y_tolerance (i5 (i3.toNatClampNeg))) (fun q7 =>
  q_gd (q_in i3 12) (
  q_lt (fun (j9 : (Nat → Int32)) =>
  q_lt (fun (j10 : Int32) =>
  q_lt (i3 + 1 : Int32) (fun v11 =>
  f_X1_wear_L28 x_herds x_count y_tonic y_isMinor y_tolerance p1 p2 n28 v11 j10 j9)) (fun (J105 : Int32 → Option (Int32 × (Nat → Int32))) =>
  q_br (q7 = 0) (
  J105 i4) (
  q_gd (q_in i3 12) (
  q_bd (f_X6_accepts y_tonic y_isMinor y_tolerance (j9 (i3.toNatClampNeg))) (fun q13 =>
  q_br (q13 = 0) (
  q_lt (i4 + 1 : Int32) (fun v14 =>
  J105 v14)) (
  J105 i4)))))) (fun (J83 : (Nat → Int32) → Option (Int32 × (Nat → Int32))) =>
  q_br ((x_herds (i3.toNatClampNeg)) = p1) (
  q_gd (q_in i3 12) (
  q_gd (q_in i3 12) (
  q_lt (upd i5 (i3.toNatClampNeg) (if 3600 < ((i5 (i3.toNatClampNeg)) - p2) then ((i5 (i3.toNatClampNeg)) - p2) else 3600)) (fun u17 =>
  J83 u17)))) (
  J83 i5))))))
def f_X1_wear (x_herds : (Nat → Int32)) (x_pitches : (Nat → Int32)) (x_count : Int32) (y_tonic : Int32) (y_isMinor : Int32) (y_tolerance : Int32) (p1 : Int32) (p2 : Int32) : Option (Int32 × (Nat → Int32)) :=
  q_bd (f_X10_isHerd p1) (fun q1 =>
  q_br (q1 = 0) (
  some ((-1), x_pitches)) (
  q_bd (f_X10_isWithin p2 1 99) (fun q2 =>
  q_br (q2 = 0) (
  some ((-2), x_pitches)) (
  f_X1_wear_L28 x_herds x_count y_tonic y_isMinor y_tolerance p1 p2 2000 0 0 x_pitches))))
theorem hv_X1_wear : yX1_wear.cls = RX1 ∧ yX1_wear.cls ≠ "java/lang/invoke/MethodHandle" ∧ yX1_wear.cls ≠ "java/lang/invoke/VarHandle" ∧ (parseMethodDescriptor yX1_wear.desc).map (fun d => d.parameters.length) = some 3 := by decide +kernel
abbrev rm_X1_wear : Room := { frames := 4, cells := 0, slots := 0, locals := 85 }
set_option maxHeartbeats 4000000 in
set_option maxRecDepth 100000 in
theorem k_X1_wear (l : Launch) (E : ET) (a : Nat → Nat) (o : Nat) (x : Bells_t) (ay : Nat → Nat) (oy : Nat) (y : Key_t) (p1 : Int32) (p2 : Int32) (res : Int32 × (Nat → Int32)) (hF : f_X1_wear x.1 x.2.1 x.2.2 y.1 y.2.1 y.2.2 p1 p2 = some res) (sz : Nat) : CtI l yX1_wear (mws yX1_wear cX1_wear 7 (some .int)) rm_X1_wear 0 0 [.ref (a o), .int p1, .int p2, .ref (ay oy)] E (bl_Bells E a o x ++ bl_Key E ay oy y) res.1 (bl_Bells E a o (x.1, res.2, x.2.2) ++ bl_Key E ay oy y) sz := by
  refine mk_M (by decide +kernel) (Nat.le_of_ble_eq_true rfl) ?_
  intro p e s m below meth c A args Q ls hAe hsz hQ hx hb hr hml hin ha hown hlocks hA hz hzs hst hP hD hS hl
  have hown : s.vm.findClass RX1 = some m.cls := hown
  rw [hAe] at hQ
  subst hsz
  have hP : va_P E.1 vwCl (List.flatten [w_Bells E a o x, w_Key E ay oy y]) s.heap := hP
  have hD : va_D A (List.flatten [w_Bells E a o x, w_Key E ay oy y]) := hD
  have hl : lv_has ls 7 [(0, .ref (a o)), (1, .int p1), (2, .int p2), (3, .ref (ay oy))] := hl
  generalize hHe : s.heap = H at hP
  have hS : va_S A s.heap H [] := by rw [← hHe]; exact hS
  generalize ([] : List Loc) = locs at hS ⊢
  unfold f_X1_wear at hF
  refine lv_iload_n hx hb dX1_wear_0 rfl (lv_at hl 1 rfl) ?_
  obtain ⟨q1, hq1, hF⟩ := q_bdi hF
  refine cl_i (Lc := []) (Lc' := []) (L' := [w_Bells E a o x, w_Key E ay oy y]) (rv := q1) (va_runSN (As := [.int p1]) (rest := []) ⟨hx, hb, hml, hown, ha⟩ (k_X10_isHerd l E p1 q1 hq1 H.size) ⟨va_cnB 1 ha (gi_B (fun _ h => h) mw372) rfl rfl rfl (nm9 hst) (ha _ mw26) hv_X10_isHerd.2 ⟨(Nat.le_of_ble_eq_true rfl), (Nat.le_of_ble_eq_true rfl)⟩, (ha _ mw371), trivial⟩ ⟨pre_blind, pre_at hP hD hS hz hzs hst [] (by decide) rfl rfl⟩ rfl rfl hl.1 rfl (lv_room (Nat.le_of_ble_eq_true rfl)) dX1_wear_1 ⟨(Nat.le_of_ble_eq_true rfl), (Nat.le_of_ble_eq_true rfl)⟩) hP hD hS hA [] (by decide) rfl rfl rfl rfl (fun H locs hP hD hS => ?_)
  refine lv_if_ne (tgt := 9) hx hb dX1_wear_4 (by decide) (fun c4 => ?_) (fun c4 => ?_)
  · have hF := q_brn c4 hF
    refine lv_iload_n hx hb dX1_wear_9 rfl (lv_at hl 2 rfl) ?_
    refine lv_iconst (v := 1) hx hb dX1_wear_10 (by decide) ?_
    refine lv_bipush (v := 99) hx hb dX1_wear_11 (by decide) ?_
    obtain ⟨q2, hq2, hF⟩ := q_bdi hF
    refine cl_i (Lc := []) (Lc' := []) (L' := [w_Bells E a o x, w_Key E ay oy y]) (rv := q2) (va_runSN (As := [.int p2, .int 1, .int 99]) (rest := []) ⟨hx, hb, hml, hown, ha⟩ (k_X10_isWithin l E p2 1 99 q2 hq2 H.size) ⟨va_cnB 3 ha (gi_B (fun _ h => h) mw375) rfl rfl rfl (nm10 hst) (ha _ mw26) hv_X10_isWithin.2 ⟨(Nat.le_of_ble_eq_true rfl), (Nat.le_of_ble_eq_true rfl)⟩, (ha _ mw374), trivial⟩ ⟨pre_blind, pre_at hP hD hS hz hzs hst [] (by decide) rfl rfl⟩ rfl rfl hl.1 rfl (lv_room (Nat.le_of_ble_eq_true rfl)) dX1_wear_13 ⟨(Nat.le_of_ble_eq_true rfl), (Nat.le_of_ble_eq_true rfl)⟩) hP hD hS hA [] (by decide) rfl rfl rfl rfl (fun H locs hP hD hS => ?_)
    refine lv_if_ne (tgt := 22) hx hb dX1_wear_16 (by decide) (fun c16 => ?_) (fun c16 => ?_)
    · have hF := q_brn c16 hF
      refine lv_iconst (v := 0) hx hb dX1_wear_22 (by decide) ?_
      refine lv_istore (lv' := [(4, .int 0), (0, .ref (a o)), (1, .int p1), (2, .int p2), (3, .ref (ay oy))]) hx hb dX1_wear_23 hl (by decide) rfl (fun ls hl => ?_)
      refine lv_iconst (v := 0) hx hb dX1_wear_25 (by decide) ?_
      refine lv_istore (lv' := [(5, .int 0), (4, .int 0), (0, .ref (a o)), (1, .int p1), (2, .int p2), (3, .ref (ay oy))]) hx hb dX1_wear_26 hl (by decide) rfl (fun ls hl => ?_)
      have key28 : ∀ (n : Nat) (i3 : Int32) (i4 : Int32) (i5 : (Nat → Int32)) (H : Heap) (locs : List Loc) (ls : Array Slot), f_X1_wear_L28 x.1 x.2.2 y.1 y.2.1 y.2.2 p1 p2 n i3 i4 i5 = some res → va_P E.1 vwCl (List.flatten [w_Bells E a o (x.1, i5, x.2.2), w_Key E ay oy y]) H → va_D A (List.flatten [w_Bells E a o (x.1, i5, x.2.2), w_Key E ay oy y]) → va_S A s.heap H locs → lv_has ls 7 [(5, .int i3), (4, .int i4), (0, .ref (a o)), (1, .int p1), (2, .int p2), (3, .ref (ay oy))] → W p l e rm_X1_wear s m args below meth c H locs 0 0 Q (F0 m 28 ls []) := by
        intro n28
        induction n28 with
        | zero => intro i3 i4 i5 H locs ls hF; exact absurd hF (by simp [f_X1_wear_L28])
        | succ n28 ih28 =>
          intro i3 i4 i5 H locs ls hF hP hD hS hl
          rw [f_X1_wear_L28] at hF
          refine lv_iload hx hb dX1_wear_28 (lv_at hl 0 rfl) ?_
          refine lv_aload_n hx hb dX1_wear_30 rfl (lv_at hl 2 rfl) ?_
          refine va_get (D := E.1) (ci := 3) (v := .int x.2.2) (C := RX1) (T := TX1) (N := 3) hx hb ha in_X1 hown hst.k hP 0 rfl rfl 2 (by decide) (ha _ mw99) (fun _ h9 => h9) rfl dX1_wear_31 ?_
          refine lv_icmp_ge (tgt := 111) hx hb dX1_wear_34 (by decide) (fun c34 => ?_) (fun c34 => ?_)
          · have hF := q_brp c34 hF
            refine lv_iload hx hb dX1_wear_111 (lv_at hl 1 rfl) ?_
            obtain rfl := Option.some.inj hF
            exact en_i hQ (Nat.le_of_ble_eq_true rfl) (Nat.le_of_ble_eq_true rfl) hx hb hr hlocks hP hD hS rfl dX1_wear_113
          · have hF := q_brn c34 hF
            refine lv_aload_n hx hb dX1_wear_37 rfl (lv_at hl 5 rfl) ?_
            refine lv_aload_n hx hb dX1_wear_38 rfl (lv_at hl 2 rfl) ?_
            refine va_get (D := E.1) (ci := 3) (v := .ref (a (o + 2))) (C := RX1) (T := TX1) (N := 3) hx hb ha in_X1 hown hst.k hP 0 rfl rfl 1 (by decide) (ha _ mw97) (fun _ h9 => h9) rfl dX1_wear_39 ?_
            refine lv_iload hx hb dX1_wear_42 (lv_at hl 0 rfl) ?_
            obtain ⟨g6, hF⟩ := q_gdi hF
            refine vi_iald hx hb hst.k hP 2 0 rfl rfl (f := i5) (k := i3.toNatClampNeg) rfl g6 dX1_wear_44 ?_
            obtain ⟨q7, hq7, hF⟩ := q_bdi hF
            refine cl_i (Lc := [w_Key E ay oy y]) (Lc' := [w_Key E ay oy y]) (L' := [w_Bells E a o (x.1, i5, x.2.2), w_Key E ay oy y]) (rv := q7) (va_runV (As := [.int (i5 (i3.toNatClampNeg))]) (rest := []) ⟨hx, hb, hml, hown, ha⟩ (k_X6_accepts l E ay oy y (i5 (i3.toNatClampNeg)) q7 hq7 H.size) (cwV 1 ha (gi_V (fun _ h => h) mw415 mw416 mw417 mw28 mw418) rfl rfl rfl hv_X6_accepts ⟨(Nat.le_of_ble_eq_true rfl), (Nat.le_of_ble_eq_true rfl)⟩) ⟨pre_blind, va_recv hst.k (fr_P hP [1] rfl) (ci := 7) (q0 := 0) rfl rfl, pre_at hP hD hS hz hzs hst [1] (by decide) rfl rfl⟩ rfl rfl hl.1 rfl (lv_room (Nat.le_of_ble_eq_true rfl)) dX1_wear_45 ⟨(Nat.le_of_ble_eq_true rfl), (Nat.le_of_ble_eq_true rfl)⟩) hP hD hS hA [1] (by decide) rfl rfl rfl rfl (fun H locs hP hD hS => ?_)
            refine lv_istore (lv' := [(6, .int q7), (5, .int i3), (4, .int i4), (0, .ref (a o)), (1, .int p1), (2, .int p2), (3, .ref (ay oy))]) hx hb dX1_wear_48 hl (by decide) rfl (fun ls hl => ?_)
            refine lv_aload_n hx hb dX1_wear_50 rfl (lv_at hl 3 rfl) ?_
            refine va_get (D := E.1) (ci := 3) (v := .ref (a (o + 1))) (C := RX1) (T := TX1) (N := 3) hx hb ha in_X1 hown hst.k hP 0 rfl rfl 0 (by decide) (ha _ mw95) (fun _ h9 => h9) rfl dX1_wear_51 ?_
            refine lv_iload hx hb dX1_wear_54 (lv_at hl 1 rfl) ?_
            obtain ⟨g8, hF⟩ := q_gdi hF
            refine vi_iald hx hb hst.k hP 1 0 rfl rfl (f := x.1) (k := i3.toNatClampNeg) rfl g8 dX1_wear_56 ?_
            refine lv_iload_n hx hb dX1_wear_57 rfl (lv_at hl 4 rfl) ?_
            obtain ⟨J83, hJ83, hF⟩ := q_jn hF
            have jJ83 : ∀ (j9 : (Nat → Int32)), ∀ (H : Heap) (locs : List Loc) (ls : Array Slot), J83 j9 = some res → va_P E.1 vwCl (List.flatten [w_Bells E a o (x.1, j9, x.2.2), w_Key E ay oy y]) H → va_D A (List.flatten [w_Bells E a o (x.1, j9, x.2.2), w_Key E ay oy y]) → va_S A s.heap H locs → lv_has ls 7 [(6, .int q7), (5, .int i3), (4, .int i4), (0, .ref (a o)), (1, .int p1), (2, .int p2), (3, .ref (ay oy))] → W p l e rm_X1_wear s m args below meth c H locs 0 0 Q (F0 m 83 ls []) := by
              intro j9 H locs ls hF hP hD hS hl
              rw [hJ83] at hF
              refine lv_iload hx hb dX1_wear_83 (lv_at hl 0 rfl) ?_
              obtain ⟨J105, hJ105, hF⟩ := q_jn hF
              have jJ105 : ∀ (j10 : Int32), ∀ (H : Heap) (locs : List Loc) (ls : Array Slot), J105 j10 = some res → va_P E.1 vwCl (List.flatten [w_Bells E a o (x.1, j9, x.2.2), w_Key E ay oy y]) H → va_D A (List.flatten [w_Bells E a o (x.1, j9, x.2.2), w_Key E ay oy y]) → va_S A s.heap H locs → lv_has ls 7 [(5, .int i3), (4, .int j10), (0, .ref (a o)), (1, .int p1), (2, .int p2), (3, .ref (ay oy))] → W p l e rm_X1_wear s m args below meth c H locs 0 0 Q (F0 m 105 ls []) := by
                intro j10 H locs ls hF hP hD hS hl
                rw [hJ105] at hF
                obtain ⟨v11, ev11⟩ : ∃ y : Int32, y = i3 + 1 := ⟨_, rfl⟩
                have hF := q_lti ev11 hF
                refine lv_iinc (v := v11) (lv' := [(5, .int v11), (4, .int j10), (0, .ref (a o)), (1, .int p1), (2, .int p2), (3, .ref (ay oy))]) hx hb dX1_wear_105 hl (k := 0) rfl (by rw [ev11]; rfl) (by decide) rfl (fun ls hl => ?_)
                refine lv_goto (tgt := 28) hx hb dX1_wear_108 (by decide) ?_
                exact ih28 v11 j10 j9 H locs ls hF hP hD hS (lv_sub hl [0, 1, 2, 3, 4, 5] rfl)
              refine lv_if_eq (tgt := 105) hx hb dX1_wear_85 (by decide) (fun c85 => ?_) (fun c85 => ?_)
              · have hF := q_brp c85 hF
                exact jJ105 i4 H locs ls hF hP hD hS (lv_sub hl [1, 2, 3, 4, 5, 6] rfl)
              · have hF := q_brn c85 hF
                refine lv_aload_n hx hb dX1_wear_88 rfl (lv_at hl 6 rfl) ?_
                refine lv_aload_n hx hb dX1_wear_89 rfl (lv_at hl 3 rfl) ?_
                refine va_get (D := E.1) (ci := 3) (v := .ref (a (o + 2))) (C := RX1) (T := TX1) (N := 3) hx hb ha in_X1 hown hst.k hP 0 rfl rfl 1 (by decide) (ha _ mw97) (fun _ h9 => h9) rfl dX1_wear_90 ?_
                refine lv_iload hx hb dX1_wear_93 (lv_at hl 1 rfl) ?_
                obtain ⟨g12, hF⟩ := q_gdi hF
                refine vi_iald hx hb hst.k hP 2 0 rfl rfl (f := j9) (k := i3.toNatClampNeg) rfl g12 dX1_wear_95 ?_
                obtain ⟨q13, hq13, hF⟩ := q_bdi hF
                refine cl_i (Lc := [w_Key E ay oy y]) (Lc' := [w_Key E ay oy y]) (L' := [w_Bells E a o (x.1, j9, x.2.2), w_Key E ay oy y]) (rv := q13) (va_runV (As := [.int (j9 (i3.toNatClampNeg))]) (rest := []) ⟨hx, hb, hml, hown, ha⟩ (k_X6_accepts l E ay oy y (j9 (i3.toNatClampNeg)) q13 hq13 H.size) (cwV 1 ha (gi_V (fun _ h => h) mw415 mw416 mw417 mw28 mw418) rfl rfl rfl hv_X6_accepts ⟨(Nat.le_of_ble_eq_true rfl), (Nat.le_of_ble_eq_true rfl)⟩) ⟨pre_blind, va_recv hst.k (fr_P hP [1] rfl) (ci := 7) (q0 := 0) rfl rfl, pre_at hP hD hS hz hzs hst [1] (by decide) rfl rfl⟩ rfl rfl hl.1 rfl (lv_room (Nat.le_of_ble_eq_true rfl)) dX1_wear_96 ⟨(Nat.le_of_ble_eq_true rfl), (Nat.le_of_ble_eq_true rfl)⟩) hP hD hS hA [1] (by decide) rfl rfl rfl rfl (fun H locs hP hD hS => ?_)
                refine lv_if_ne (tgt := 105) hx hb dX1_wear_99 (by decide) (fun c99 => ?_) (fun c99 => ?_)
                · have hF := q_brn c99 hF
                  exact jJ105 i4 H locs ls hF hP hD hS (lv_sub hl [1, 2, 3, 4, 5, 6] rfl)
                · have hF := q_brp c99 hF
                  obtain ⟨v14, ev14⟩ : ∃ y : Int32, y = i4 + 1 := ⟨_, rfl⟩
                  have hF := q_lti ev14 hF
                  refine lv_iinc (v := v14) (lv' := [(4, .int v14), (6, .int q7), (5, .int i3), (0, .ref (a o)), (1, .int p1), (2, .int p2), (3, .ref (ay oy))]) hx hb dX1_wear_102 hl (k := 2) rfl (by rw [ev14]; rfl) (by decide) rfl (fun ls hl => ?_)
                  exact jJ105 v14 H locs ls hF hP hD hS (lv_sub hl [2, 0, 3, 4, 5, 6] rfl)
            refine lv_icmp_ne (tgt := 83) hx hb dX1_wear_58 (by decide) (fun c58 => ?_) (fun c58 => ?_)
            · have hF := q_brn c58 hF
              exact jJ83 i5 H locs ls hF hP hD hS (lv_sub hl [0, 1, 2, 3, 4, 5, 6] rfl)
            · have hF := q_brp c58 hF
              refine lv_aload_n hx hb dX1_wear_61 rfl (lv_at hl 3 rfl) ?_
              refine va_get (D := E.1) (ci := 3) (v := .ref (a (o + 2))) (C := RX1) (T := TX1) (N := 3) hx hb ha in_X1 hown hst.k hP 0 rfl rfl 1 (by decide) (ha _ mw97) (fun _ h9 => h9) rfl dX1_wear_62 ?_
              refine lv_iload hx hb dX1_wear_65 (lv_at hl 1 rfl) ?_
              refine lv_sipush (v := 3600) hx hb dX1_wear_67 (by decide) ?_
              refine lv_aload_n hx hb dX1_wear_70 rfl (lv_at hl 3 rfl) ?_
              refine va_get (D := E.1) (ci := 3) (v := .ref (a (o + 2))) (C := RX1) (T := TX1) (N := 3) hx hb ha in_X1 hown hst.k hP 0 rfl rfl 1 (by decide) (ha _ mw97) (fun _ h9 => h9) rfl dX1_wear_71 ?_
              refine lv_iload hx hb dX1_wear_74 (lv_at hl 1 rfl) ?_
              obtain ⟨g15, hF⟩ := q_gdi hF
              refine vi_iald hx hb hst.k hP 2 0 rfl rfl (f := i5) (k := i3.toNatClampNeg) rfl g15 dX1_wear_76 ?_
              refine lv_iload_n hx hb dX1_wear_77 rfl (lv_at hl 5 rfl) ?_
              refine lv_isub hx hb dX1_wear_78 ?_
              refine va_mmax hx hb (hml.trans hl.1.symm) hown (ha _ mw482) (ha _ mw483) (ha _ mw48) (ha _ mw484) (Nat.le_of_ble_eq_true rfl) (Nat.le_of_ble_eq_true rfl) (Nat.le_of_ble_eq_true rfl) (Nat.le_of_ble_eq_true rfl) dX1_wear_79 ?_
              obtain ⟨g16, hF⟩ := q_gdi hF
              refine vj_iast hx hb hst.k hP hD hS 2 0 rfl rfl (f := i5) (k := i3.toNatClampNeg) rfl g16 dX1_wear_82 (fun u17 eu17 H locs hP hD hS => ?_)
              have hF := q_lti eu17 hF
              have hP : va_P E.1 vwCl (List.flatten [w_Bells E a o (x.1, u17, x.2.2), w_Key E ay oy y]) H := hP
              have hD : va_D A (List.flatten [w_Bells E a o (x.1, u17, x.2.2), w_Key E ay oy y]) := hD
              exact jJ83 u17 H locs ls hF hP hD hS (lv_sub hl [0, 1, 2, 3, 4, 5, 6] rfl)
      exact key28 _ 0 0 x.2.1 H locs ls hF hP hD hS (lv_sub hl [0, 1, 2, 3, 4, 5] rfl)
    · have hF := q_brp c16 hF
      refine lv_bipush (v := (-2)) hx hb dX1_wear_19 (by decide) ?_
      obtain rfl := Option.some.inj hF
      exact en_i hQ (Nat.le_of_ble_eq_true rfl) (Nat.le_of_ble_eq_true rfl) hx hb hr hlocks hP hD hS rfl dX1_wear_21
  · have hF := q_brp c4 hF
    refine lv_iconst (v := (-1)) hx hb dX1_wear_7 (by decide) ?_
    obtain rfl := Option.some.inj hF
    exact en_i hQ (Nat.le_of_ble_eq_true rfl) (Nat.le_of_ble_eq_true rfl) hx hb hr hlocks hP hD hS rfl dX1_wear_8

/-! X1_countIn -/
theorem dX1_countIn_0 : decode cX1_countIn 0 = .ok (.iconst 0, 1) := by decide +kernel
theorem dX1_countIn_1 : decode cX1_countIn 1 = .ok (.istore_n 2, 1) := by decide +kernel
theorem dX1_countIn_2 : decode cX1_countIn 2 = .ok (.iconst 0, 1) := by decide +kernel
theorem dX1_countIn_3 : decode cX1_countIn 3 = .ok (.istore_n 3, 1) := by decide +kernel
theorem dX1_countIn_4 : decode cX1_countIn 4 = .ok (.iload_n 3, 1) := by decide +kernel
theorem dX1_countIn_5 : decode cX1_countIn 5 = .ok (.aload_n 0, 1) := by decide +kernel
theorem dX1_countIn_6 : decode cX1_countIn 6 = .ok (.getfield 18, 3) := by decide +kernel
theorem dX1_countIn_9 : decode cX1_countIn 9 = .ok (.if_icmp .ge 25, 3) := by decide +kernel
theorem dX1_countIn_12 : decode cX1_countIn 12 = .ok (.aload_n 1, 1) := by decide +kernel
theorem dX1_countIn_13 : decode cX1_countIn 13 = .ok (.aload_n 0, 1) := by decide +kernel
theorem dX1_countIn_14 : decode cX1_countIn 14 = .ok (.getfield 15, 3) := by decide +kernel
theorem dX1_countIn_17 : decode cX1_countIn 17 = .ok (.iload_n 3, 1) := by decide +kernel
theorem dX1_countIn_18 : decode cX1_countIn 18 = .ok (.iaload, 1) := by decide +kernel
theorem dX1_countIn_19 : decode cX1_countIn 19 = .ok (.invokevirtual 39, 3) := by decide +kernel
theorem dX1_countIn_22 : decode cX1_countIn 22 = .ok (.ifCond .eq 6, 3) := by decide +kernel
theorem dX1_countIn_25 : decode cX1_countIn 25 = .ok (.iinc 2 1, 3) := by decide +kernel
theorem dX1_countIn_28 : decode cX1_countIn 28 = .ok (.iinc 3 1, 3) := by decide +kernel
theorem dX1_countIn_31 : decode cX1_countIn 31 = .ok (.goto (-27), 3) := by decide +kernel
theorem dX1_countIn_34 : decode cX1_countIn 34 = .ok (.iload_n 2, 1) := by decide +kernel
theorem dX1_countIn_35 : decode cX1_countIn 35 = .ok (.ireturn, 1) := by decide +kernel
def f_X1_countIn_L4 (x_pitches : (Nat → Int32)) (x_count : Int32) (y_tonic : Int32) (y_isMinor : Int32) (y_tolerance : Int32) : Nat → Int32 → Int32 → Option (Int32)
  | 0, _, _ => none
  | n4 + 1, i1, i2 =>
    q_br (x_count ≤ i1) (
  some i2) (
  q_gd (q_in i1 12) (
  q_bd (f_X6_accepts y_tonic y_isMinor y_tolerance (x_pitches (i1.toNatClampNeg))) (fun q4 =>
  q_lt (fun (j5 : Int32) =>
  q_lt (i1 + 1 : Int32) (fun v6 =>
  f_X1_countIn_L4 x_pitches x_count y_tonic y_isMinor y_tolerance n4 v6 j5)) (fun (J28 : Int32 → Option (Int32)) =>
  q_br (q4 = 0) (
  J28 i2) (
  q_lt (i2 + 1 : Int32) (fun v7 =>
  J28 v7))))))
def f_X1_countIn (x_pitches : (Nat → Int32)) (x_count : Int32) (y_tonic : Int32) (y_isMinor : Int32) (y_tolerance : Int32) : Option (Int32) :=
  f_X1_countIn_L4 x_pitches x_count y_tonic y_isMinor y_tolerance 2000 0 0
theorem hv_X1_countIn : yX1_countIn.cls = RX1 ∧ yX1_countIn.cls ≠ "java/lang/invoke/MethodHandle" ∧ yX1_countIn.cls ≠ "java/lang/invoke/VarHandle" ∧ (parseMethodDescriptor yX1_countIn.desc).map (fun d => d.parameters.length) = some 1 := by decide +kernel
abbrev rm_X1_countIn : Room := { frames := 4, cells := 0, slots := 0, locals := 85 }
set_option maxHeartbeats 4000000 in
set_option maxRecDepth 100000 in
theorem k_X1_countIn (l : Launch) (E : ET) (a : Nat → Nat) (o : Nat) (x : Bells_t) (ay : Nat → Nat) (oy : Nat) (y : Key_t) (res : Int32) (hF : f_X1_countIn x.2.1 x.2.2 y.1 y.2.1 y.2.2 = some res) (sz : Nat) : CtI l yX1_countIn (mws yX1_countIn cX1_countIn 4 (some .int)) rm_X1_countIn 0 0 [.ref (a o), .ref (ay oy)] E (bl_Bells E a o x ++ bl_Key E ay oy y) res (bl_Bells E a o x ++ bl_Key E ay oy y) sz := by
  refine mk_M (by decide +kernel) (Nat.le_of_ble_eq_true rfl) ?_
  intro p e s m below meth c A args Q ls hAe hsz hQ hx hb hr hml hin ha hown hlocks hA hz hzs hst hP hD hS hl
  have hown : s.vm.findClass RX1 = some m.cls := hown
  rw [hAe] at hQ
  subst hsz
  have hP : va_P E.1 vwCl (List.flatten [w_Bells E a o x, w_Key E ay oy y]) s.heap := hP
  have hD : va_D A (List.flatten [w_Bells E a o x, w_Key E ay oy y]) := hD
  have hl : lv_has ls 4 [(0, .ref (a o)), (1, .ref (ay oy))] := hl
  generalize hHe : s.heap = H at hP
  have hS : va_S A s.heap H [] := by rw [← hHe]; exact hS
  generalize ([] : List Loc) = locs at hS ⊢
  unfold f_X1_countIn at hF
  refine lv_iconst (v := 0) hx hb dX1_countIn_0 (by decide) ?_
  refine lv_istore_n (lv' := [(2, .int 0), (0, .ref (a o)), (1, .ref (ay oy))]) hx hb dX1_countIn_1 rfl hl (by decide) rfl (fun ls hl => ?_)
  refine lv_iconst (v := 0) hx hb dX1_countIn_2 (by decide) ?_
  refine lv_istore_n (lv' := [(3, .int 0), (2, .int 0), (0, .ref (a o)), (1, .ref (ay oy))]) hx hb dX1_countIn_3 rfl hl (by decide) rfl (fun ls hl => ?_)
  have key4 : ∀ (n : Nat) (i1 : Int32) (i2 : Int32) (H : Heap) (locs : List Loc) (ls : Array Slot), f_X1_countIn_L4 x.2.1 x.2.2 y.1 y.2.1 y.2.2 n i1 i2 = some res → va_P E.1 vwCl (List.flatten [w_Bells E a o x, w_Key E ay oy y]) H → va_D A (List.flatten [w_Bells E a o x, w_Key E ay oy y]) → va_S A s.heap H locs → lv_has ls 4 [(3, .int i1), (2, .int i2), (0, .ref (a o)), (1, .ref (ay oy))] → W p l e rm_X1_countIn s m args below meth c H locs 0 0 Q (F0 m 4 ls []) := by
    intro n4
    induction n4 with
    | zero => intro i1 i2 H locs ls hF; exact absurd hF (by simp [f_X1_countIn_L4])
    | succ n4 ih4 =>
      intro i1 i2 H locs ls hF hP hD hS hl
      rw [f_X1_countIn_L4] at hF
      refine lv_iload_n hx hb dX1_countIn_4 rfl (lv_at hl 0 rfl) ?_
      refine lv_aload_n hx hb dX1_countIn_5 rfl (lv_at hl 2 rfl) ?_
      refine va_get (D := E.1) (ci := 3) (v := .int x.2.2) (C := RX1) (T := TX1) (N := 3) hx hb ha in_X1 hown hst.k hP 0 rfl rfl 2 (by decide) (ha _ mw99) (fun _ h9 => h9) rfl dX1_countIn_6 ?_
      refine lv_icmp_ge (tgt := 34) hx hb dX1_countIn_9 (by decide) (fun c9 => ?_) (fun c9 => ?_)
      · have hF := q_brp c9 hF
        refine lv_iload_n hx hb dX1_countIn_34 rfl (lv_at hl 1 rfl) ?_
        obtain rfl := Option.some.inj hF
        exact en_i hQ (Nat.le_of_ble_eq_true rfl) (Nat.le_of_ble_eq_true rfl) hx hb hr hlocks hP hD hS rfl dX1_countIn_35
      · have hF := q_brn c9 hF
        refine lv_aload_n hx hb dX1_countIn_12 rfl (lv_at hl 3 rfl) ?_
        refine lv_aload_n hx hb dX1_countIn_13 rfl (lv_at hl 2 rfl) ?_
        refine va_get (D := E.1) (ci := 3) (v := .ref (a (o + 2))) (C := RX1) (T := TX1) (N := 3) hx hb ha in_X1 hown hst.k hP 0 rfl rfl 1 (by decide) (ha _ mw97) (fun _ h9 => h9) rfl dX1_countIn_14 ?_
        refine lv_iload_n hx hb dX1_countIn_17 rfl (lv_at hl 0 rfl) ?_
        obtain ⟨g3, hF⟩ := q_gdi hF
        refine vi_iald hx hb hst.k hP 2 0 rfl rfl (f := x.2.1) (k := i1.toNatClampNeg) rfl g3 dX1_countIn_18 ?_
        obtain ⟨q4, hq4, hF⟩ := q_bdi hF
        refine cl_i (Lc := [w_Key E ay oy y]) (Lc' := [w_Key E ay oy y]) (L' := [w_Bells E a o x, w_Key E ay oy y]) (rv := q4) (va_runV (As := [.int (x.2.1 (i1.toNatClampNeg))]) (rest := []) ⟨hx, hb, hml, hown, ha⟩ (k_X6_accepts l E ay oy y (x.2.1 (i1.toNatClampNeg)) q4 hq4 H.size) (cwV 1 ha (gi_V (fun _ h => h) mw415 mw416 mw417 mw28 mw418) rfl rfl rfl hv_X6_accepts ⟨(Nat.le_of_ble_eq_true rfl), (Nat.le_of_ble_eq_true rfl)⟩) ⟨pre_blind, va_recv hst.k (fr_P hP [1] rfl) (ci := 7) (q0 := 0) rfl rfl, pre_at hP hD hS hz hzs hst [1] (by decide) rfl rfl⟩ rfl rfl hl.1 rfl (lv_room (Nat.le_of_ble_eq_true rfl)) dX1_countIn_19 ⟨(Nat.le_of_ble_eq_true rfl), (Nat.le_of_ble_eq_true rfl)⟩) hP hD hS hA [1] (by decide) rfl rfl rfl rfl (fun H locs hP hD hS => ?_)
        obtain ⟨J28, hJ28, hF⟩ := q_jn hF
        have jJ28 : ∀ (j5 : Int32), ∀ (H : Heap) (locs : List Loc) (ls : Array Slot), J28 j5 = some res → va_P E.1 vwCl (List.flatten [w_Bells E a o x, w_Key E ay oy y]) H → va_D A (List.flatten [w_Bells E a o x, w_Key E ay oy y]) → va_S A s.heap H locs → lv_has ls 4 [(3, .int i1), (2, .int j5), (0, .ref (a o)), (1, .ref (ay oy))] → W p l e rm_X1_countIn s m args below meth c H locs 0 0 Q (F0 m 28 ls []) := by
          intro j5 H locs ls hF hP hD hS hl
          rw [hJ28] at hF
          obtain ⟨v6, ev6⟩ : ∃ y : Int32, y = i1 + 1 := ⟨_, rfl⟩
          have hF := q_lti ev6 hF
          refine lv_iinc (v := v6) (lv' := [(3, .int v6), (2, .int j5), (0, .ref (a o)), (1, .ref (ay oy))]) hx hb dX1_countIn_28 hl (k := 0) rfl (by rw [ev6]; rfl) (by decide) rfl (fun ls hl => ?_)
          refine lv_goto (tgt := 4) hx hb dX1_countIn_31 (by decide) ?_
          exact ih4 v6 j5 H locs ls hF hP hD hS (lv_sub hl [0, 1, 2, 3] rfl)
        refine lv_if_eq (tgt := 28) hx hb dX1_countIn_22 (by decide) (fun c22 => ?_) (fun c22 => ?_)
        · have hF := q_brp c22 hF
          exact jJ28 i2 H locs ls hF hP hD hS (lv_sub hl [0, 1, 2, 3] rfl)
        · have hF := q_brn c22 hF
          obtain ⟨v7, ev7⟩ : ∃ y : Int32, y = i2 + 1 := ⟨_, rfl⟩
          have hF := q_lti ev7 hF
          refine lv_iinc (v := v7) (lv' := [(2, .int v7), (3, .int i1), (0, .ref (a o)), (1, .ref (ay oy))]) hx hb dX1_countIn_25 hl (k := 1) rfl (by rw [ev7]; rfl) (by decide) rfl (fun ls hl => ?_)
          exact jJ28 v7 H locs ls hF hP hD hS (lv_sub hl [1, 0, 2, 3] rfl)
  exact key4 _ 0 0 H locs ls hF hP hD hS (lv_sub hl [0, 1, 2, 3] rfl)
