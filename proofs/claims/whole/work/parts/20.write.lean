/-! X11_writes -/
theorem dX11_writes_0 : decode cX11_writes 0 = .ok (.aload_n 0, 1) := by decide +kernel
theorem dX11_writes_1 : decode cX11_writes 1 = .ok (.getfield 33, 3) := by decide +kernel
theorem dX11_writes_4 : decode cX11_writes 4 = .ok (.aload_n 0, 1) := by decide +kernel
theorem dX11_writes_5 : decode cX11_writes 5 = .ok (.getfield 229, 3) := by decide +kernel
theorem dX11_writes_8 : decode cX11_writes 8 = .ok (.iload_n 1, 1) := by decide +kernel
theorem dX11_writes_9 : decode cX11_writes 9 = .ok (.i2c, 1) := by decide +kernel
theorem dX11_writes_10 : decode cX11_writes 10 = .ok (.castore, 1) := by decide +kernel
theorem dX11_writes_11 : decode cX11_writes 11 = .ok (.aload_n 0, 1) := by decide +kernel
theorem dX11_writes_12 : decode cX11_writes 12 = .ok (.dup, 1) := by decide +kernel
theorem dX11_writes_13 : decode cX11_writes 13 = .ok (.getfield 229, 3) := by decide +kernel
theorem dX11_writes_16 : decode cX11_writes 16 = .ok (.iconst 1, 1) := by decide +kernel
theorem dX11_writes_17 : decode cX11_writes 17 = .ok (.iadd, 1) := by decide +kernel
theorem dX11_writes_18 : decode cX11_writes 18 = .ok (.putfield 229, 3) := by decide +kernel
theorem dX11_writes_21 : decode cX11_writes 21 = .ok (.return_, 1) := by decide +kernel
def f_X11_writes (x_letters : (Nat → Int32)) (x_lineLength : Int32) (p1 : Int32) : Option ((Nat → Int32) × Int32) :=
  q_gd (q_in x_lineLength 80) (
  q_lt (upd x_letters (x_lineLength.toNatClampNeg) (vp_nar .char ((p1.toUInt32 % 65536).toInt32))) (fun u2 =>
  some (u2, x_lineLength + 1)))
theorem hv_X11_writes : yX11_writes.cls = RX11 ∧ yX11_writes.cls ≠ "java/lang/invoke/MethodHandle" ∧ yX11_writes.cls ≠ "java/lang/invoke/VarHandle" ∧ (parseMethodDescriptor yX11_writes.desc).map (fun d => d.parameters.length) = some 1 := by decide +kernel
abbrev rm_X11_writes : Room := { frames := 0, cells := 0, slots := 0, locals := 0 }
set_option maxHeartbeats 4000000 in
set_option maxRecDepth 100000 in
theorem k_X11_writes (l : Launch) (E : ET) (a : Nat → Nat) (o : Nat) (x : Model_t) (p1 : Int32) (res : (Nat → Int32) × Int32) (hF : f_X11_writes x.2.2.1.1 x.2.2.1.2.1 p1 = some res) (sz : Nat) : CtV l yX11_writes (mws yX11_writes cX11_writes 2 none) rm_X11_writes 0 0 [.ref (a o), .int p1] E (bl_Model E a o x) (bl_Model E a o ((x.1.1, x.1.2.1, x.1.2.2.1, x.1.2.2.2.1, x.1.2.2.2.2), (x.2.1.1, x.2.1.2.1, x.2.1.2.2.1, x.2.1.2.2.2.1, x.2.1.2.2.2.2), (res.1, res.2, x.2.2.1.2.2.1, x.2.2.1.2.2.2), (x.2.2.2.1, x.2.2.2.2.1, x.2.2.2.2.2.1, x.2.2.2.2.2.2))) sz := by
  refine mk_M (by decide +kernel) (Nat.le_of_ble_eq_true rfl) ?_
  intro p e s m below meth c A args Q ls hAe hsz hQ hx hb hr hml hin ha hown hlocks hA hz hzs hst hP hD hS hl
  have hown : s.vm.findClass RX11 = some m.cls := hown
  rw [hAe] at hQ
  subst hsz
  have hP : va_P E.1 vwCl (List.flatten [w_Model E a o x]) s.heap := hP
  have hD : va_D A (List.flatten [w_Model E a o x]) := hD
  have hl : lv_has ls 2 [(0, .ref (a o)), (1, .int p1)] := hl
  generalize hHe : s.heap = H at hP
  have hS : va_S A s.heap H [] := by rw [← hHe]; exact hS
  generalize ([] : List Loc) = locs at hS ⊢
  unfold f_X11_writes at hF
  refine lv_aload_n hx hb dX11_writes_0 rfl (lv_at hl 0 rfl) ?_
  refine va_get (D := E.1) (ci := 13) (v := .ref (a (o + 6))) (C := RX11) (T := TX11) (N := 18) hx hb ha in_X11 hown hst.k hP 0 rfl rfl 10 (by decide) (ha _ mw1646) (fun _ h9 => h9) rfl dX11_writes_1 ?_
  refine lv_aload_n hx hb dX11_writes_4 rfl (lv_at hl 0 rfl) ?_
  refine va_get (D := E.1) (ci := 13) (v := .int x.2.2.1.2.1) (C := RX11) (T := TX11) (N := 18) hx hb ha in_X11 hown hst.k hP 0 rfl rfl 11 (by decide) (ha _ mw1647) (fun _ h9 => h9) rfl dX11_writes_5 ?_
  refine lv_iload_n hx hb dX11_writes_8 rfl (lv_at hl 1 rfl) ?_
  refine lv_i2c hx hb dX11_writes_9 rfl ?_
  obtain ⟨g1, hF⟩ := q_gdi hF
  refine vj_cast hx hb hst.k hP hD hS 6 1 rfl rfl (f := x.2.2.1.1) (k := x.2.2.1.2.1.toNatClampNeg) rfl g1 dX11_writes_10 (fun u2 eu2 H locs hP hD hS => ?_)
  have hF := q_lti eu2 hF
  have hP : va_P E.1 vwCl (List.flatten [w_Model E a o ((x.1.1, x.1.2.1, x.1.2.2.1, x.1.2.2.2.1, x.1.2.2.2.2), (x.2.1.1, x.2.1.2.1, x.2.1.2.2.1, x.2.1.2.2.2.1, x.2.1.2.2.2.2), (u2, x.2.2.1.2.1, x.2.2.1.2.2.1, x.2.2.1.2.2.2), (x.2.2.2.1, x.2.2.2.2.1, x.2.2.2.2.2.1, x.2.2.2.2.2.2))]) H := hP
  have hD : va_D A (List.flatten [w_Model E a o ((x.1.1, x.1.2.1, x.1.2.2.1, x.1.2.2.2.1, x.1.2.2.2.2), (x.2.1.1, x.2.1.2.1, x.2.1.2.2.1, x.2.1.2.2.2.1, x.2.1.2.2.2.2), (u2, x.2.2.1.2.1, x.2.2.1.2.2.1, x.2.2.1.2.2.2), (x.2.2.2.1, x.2.2.2.2.1, x.2.2.2.2.2.1, x.2.2.2.2.2.2))]) := hD
  refine lv_aload_n hx hb dX11_writes_11 rfl (lv_at hl 0 rfl) ?_
  refine lv_dup hx hb dX11_writes_12 rfl ?_
  refine va_get (D := E.1) (ci := 13) (v := .int x.2.2.1.2.1) (C := RX11) (T := TX11) (N := 18) hx hb ha in_X11 hown hst.k hP 0 rfl rfl 11 (by decide) (ha _ mw1647) (fun _ h9 => h9) rfl dX11_writes_13 ?_
  refine lv_iconst (v := 1) hx hb dX11_writes_16 (by decide) ?_
  refine lv_iadd hx hb dX11_writes_17 ?_
  refine va_put (D := E.1) (ci := 13) (v := .int (x.2.2.1.2.1 + 1)) (ty := .int) (C := RX11) (T := TX11) (N := 18) hx hb ha in_X11 tyX11 tyX11_ok nmX11 hown hst.k hP hD hS 0 rfl rfl 11 (by decide) (ha _ mw1647) (fun _ h9 => h9) rfl (tyX11_ok 11 (by decide)) rfl rfl (Nat.le_of_ble_eq_true rfl) dX11_writes_18 (fun H locs hP hD hS => ?_)
  have hP : va_P E.1 vwCl (List.flatten [w_Model E a o ((x.1.1, x.1.2.1, x.1.2.2.1, x.1.2.2.2.1, x.1.2.2.2.2), (x.2.1.1, x.2.1.2.1, x.2.1.2.2.1, x.2.1.2.2.2.1, x.2.1.2.2.2.2), (u2, x.2.2.1.2.1 + 1, x.2.2.1.2.2.1, x.2.2.1.2.2.2), (x.2.2.2.1, x.2.2.2.2.1, x.2.2.2.2.2.1, x.2.2.2.2.2.2))]) H := hP
  have hD : va_D A (List.flatten [w_Model E a o ((x.1.1, x.1.2.1, x.1.2.2.1, x.1.2.2.2.1, x.1.2.2.2.2), (x.2.1.1, x.2.1.2.1, x.2.1.2.2.1, x.2.1.2.2.2.1, x.2.1.2.2.2.2), (u2, x.2.2.1.2.1 + 1, x.2.2.1.2.2.1, x.2.2.1.2.2.2), (x.2.2.2.1, x.2.2.2.2.1, x.2.2.2.2.2.1, x.2.2.2.2.2.2))]) := hD
  obtain rfl := Option.some.inj hF
  exact en_v hQ (Nat.le_of_ble_eq_true rfl) (Nat.le_of_ble_eq_true rfl) hx hb hr hlocks hP hD hS dX11_writes_21

/-! X11_writesNumber -/
theorem dX11_writesNumber_0 : decode cX11_writesNumber 0 = .ok (.iload_n 1, 1) := by decide +kernel
theorem dX11_writesNumber_1 : decode cX11_writesNumber 1 = .ok (.bipush 9, 2) := by decide +kernel
theorem dX11_writesNumber_3 : decode cX11_writesNumber 3 = .ok (.if_icmp .le 14, 3) := by decide +kernel
theorem dX11_writesNumber_6 : decode cX11_writesNumber 6 = .ok (.aload_n 0, 1) := by decide +kernel
theorem dX11_writesNumber_7 : decode cX11_writesNumber 7 = .ok (.bipush 48, 2) := by decide +kernel
theorem dX11_writesNumber_9 : decode cX11_writesNumber 9 = .ok (.iload_n 1, 1) := by decide +kernel
theorem dX11_writesNumber_10 : decode cX11_writesNumber 10 = .ok (.bipush 10, 2) := by decide +kernel
theorem dX11_writesNumber_12 : decode cX11_writesNumber 12 = .ok (.idiv, 1) := by decide +kernel
theorem dX11_writesNumber_13 : decode cX11_writesNumber 13 = .ok (.iadd, 1) := by decide +kernel
theorem dX11_writesNumber_14 : decode cX11_writesNumber 14 = .ok (.invokevirtual 232, 3) := by decide +kernel
theorem dX11_writesNumber_17 : decode cX11_writesNumber 17 = .ok (.aload_n 0, 1) := by decide +kernel
theorem dX11_writesNumber_18 : decode cX11_writesNumber 18 = .ok (.bipush 48, 2) := by decide +kernel
theorem dX11_writesNumber_20 : decode cX11_writesNumber 20 = .ok (.iload_n 1, 1) := by decide +kernel
theorem dX11_writesNumber_21 : decode cX11_writesNumber 21 = .ok (.bipush 10, 2) := by decide +kernel
theorem dX11_writesNumber_23 : decode cX11_writesNumber 23 = .ok (.irem, 1) := by decide +kernel
theorem dX11_writesNumber_24 : decode cX11_writesNumber 24 = .ok (.iadd, 1) := by decide +kernel
theorem dX11_writesNumber_25 : decode cX11_writesNumber 25 = .ok (.invokevirtual 232, 3) := by decide +kernel
theorem dX11_writesNumber_28 : decode cX11_writesNumber 28 = .ok (.return_, 1) := by decide +kernel
def f_X11_writesNumber (x_letters : (Nat → Int32)) (x_lineLength : Int32) (p1 : Int32) : Option ((Nat → Int32) × Int32) :=
  q_lt (fun (j1 : (Nat → Int32)) (j2 : Int32) =>
  q_bd (f_X11_writes j1 j2 (48 + (p1 - p1 / 10 * 10))) (fun q3 =>
  some (q3.1, q3.2))) (fun (J17 : (Nat → Int32) → Int32 → Option ((Nat → Int32) × Int32)) =>
  q_br (p1 ≤ 9) (
  J17 x_letters x_lineLength) (
  q_bd (f_X11_writes x_letters x_lineLength (48 + (p1 / 10))) (fun q4 =>
  J17 q4.1 q4.2)))
theorem hv_X11_writesNumber : yX11_writesNumber.cls = RX11 ∧ yX11_writesNumber.cls ≠ "java/lang/invoke/MethodHandle" ∧ yX11_writesNumber.cls ≠ "java/lang/invoke/VarHandle" ∧ (parseMethodDescriptor yX11_writesNumber.desc).map (fun d => d.parameters.length) = some 1 := by decide +kernel
abbrev rm_X11_writesNumber : Room := { frames := 1, cells := 0, slots := 0, locals := 21 }
set_option maxHeartbeats 4000000 in
set_option maxRecDepth 100000 in
theorem k_X11_writesNumber (l : Launch) (E : ET) (a : Nat → Nat) (o : Nat) (x : Model_t) (p1 : Int32) (res : (Nat → Int32) × Int32) (hF : f_X11_writesNumber x.2.2.1.1 x.2.2.1.2.1 p1 = some res) (sz : Nat) : CtV l yX11_writesNumber (mws yX11_writesNumber cX11_writesNumber 2 none) rm_X11_writesNumber 0 0 [.ref (a o), .int p1] E (bl_Model E a o x) (bl_Model E a o ((x.1.1, x.1.2.1, x.1.2.2.1, x.1.2.2.2.1, x.1.2.2.2.2), (x.2.1.1, x.2.1.2.1, x.2.1.2.2.1, x.2.1.2.2.2.1, x.2.1.2.2.2.2), (res.1, res.2, x.2.2.1.2.2.1, x.2.2.1.2.2.2), (x.2.2.2.1, x.2.2.2.2.1, x.2.2.2.2.2.1, x.2.2.2.2.2.2))) sz := by
  refine mk_M (by decide +kernel) (Nat.le_of_ble_eq_true rfl) ?_
  intro p e s m below meth c A args Q ls hAe hsz hQ hx hb hr hml hin ha hown hlocks hA hz hzs hst hP hD hS hl
  have hown : s.vm.findClass RX11 = some m.cls := hown
  rw [hAe] at hQ
  subst hsz
  have hP : va_P E.1 vwCl (List.flatten [w_Model E a o x]) s.heap := hP
  have hD : va_D A (List.flatten [w_Model E a o x]) := hD
  have hl : lv_has ls 2 [(0, .ref (a o)), (1, .int p1)] := hl
  generalize hHe : s.heap = H at hP
  have hS : va_S A s.heap H [] := by rw [← hHe]; exact hS
  generalize ([] : List Loc) = locs at hS ⊢
  unfold f_X11_writesNumber at hF
  refine lv_iload_n hx hb dX11_writesNumber_0 rfl (lv_at hl 1 rfl) ?_
  refine lv_bipush (v := 9) hx hb dX11_writesNumber_1 (by decide) ?_
  obtain ⟨J17, hJ17, hF⟩ := q_jn hF
  have jJ17 : ∀ (j1 : (Nat → Int32)) (j2 : Int32), ∀ (H : Heap) (locs : List Loc) (ls : Array Slot), J17 j1 j2 = some res → va_P E.1 vwCl (List.flatten [w_Model E a o ((x.1.1, x.1.2.1, x.1.2.2.1, x.1.2.2.2.1, x.1.2.2.2.2), (x.2.1.1, x.2.1.2.1, x.2.1.2.2.1, x.2.1.2.2.2.1, x.2.1.2.2.2.2), (j1, j2, x.2.2.1.2.2.1, x.2.2.1.2.2.2), (x.2.2.2.1, x.2.2.2.2.1, x.2.2.2.2.2.1, x.2.2.2.2.2.2))]) H → va_D A (List.flatten [w_Model E a o ((x.1.1, x.1.2.1, x.1.2.2.1, x.1.2.2.2.1, x.1.2.2.2.2), (x.2.1.1, x.2.1.2.1, x.2.1.2.2.1, x.2.1.2.2.2.1, x.2.1.2.2.2.2), (j1, j2, x.2.2.1.2.2.1, x.2.2.1.2.2.2), (x.2.2.2.1, x.2.2.2.2.1, x.2.2.2.2.2.1, x.2.2.2.2.2.2))]) → va_S A s.heap H locs → lv_has ls 2 [(0, .ref (a o)), (1, .int p1)] → W p l e rm_X11_writesNumber s m args below meth c H locs 0 0 Q (F0 m 17 ls []) := by
    intro j1 j2 H locs ls hF hP hD hS hl
    rw [hJ17] at hF
    refine lv_aload_n hx hb dX11_writesNumber_17 rfl (lv_at hl 0 rfl) ?_
    refine lv_bipush (v := 48) hx hb dX11_writesNumber_18 (by decide) ?_
    refine lv_iload_n hx hb dX11_writesNumber_20 rfl (lv_at hl 1 rfl) ?_
    refine lv_bipush (v := 10) hx hb dX11_writesNumber_21 (by decide) ?_
    refine lv_irem hx hb dX11_writesNumber_23 (by decide) ?_
    refine lv_iadd hx hb dX11_writesNumber_24 ?_
    obtain ⟨q3, hq3, hF⟩ := q_bdi hF
    refine cl_v (Lc := [w_Model E a o ((x.1.1, x.1.2.1, x.1.2.2.1, x.1.2.2.2.1, x.1.2.2.2.2), (x.2.1.1, x.2.1.2.1, x.2.1.2.2.1, x.2.1.2.2.2.1, x.2.1.2.2.2.2), (j1, j2, x.2.2.1.2.2.1, x.2.2.1.2.2.2), (x.2.2.2.1, x.2.2.2.2.1, x.2.2.2.2.2.1, x.2.2.2.2.2.2))]) (Lc' := [w_Model E a o ((x.1.1, x.1.2.1, x.1.2.2.1, x.1.2.2.2.1, x.1.2.2.2.2), (x.2.1.1, x.2.1.2.1, x.2.1.2.2.1, x.2.1.2.2.2.1, x.2.1.2.2.2.2), (q3.1, q3.2, x.2.2.1.2.2.1, x.2.2.1.2.2.2), (x.2.2.2.1, x.2.2.2.2.1, x.2.2.2.2.2.1, x.2.2.2.2.2.2))]) (L' := [w_Model E a o ((x.1.1, x.1.2.1, x.1.2.2.1, x.1.2.2.2.1, x.1.2.2.2.2), (x.2.1.1, x.2.1.2.1, x.2.1.2.2.1, x.2.1.2.2.2.1, x.2.1.2.2.2.2), (q3.1, q3.2, x.2.2.1.2.2.1, x.2.2.1.2.2.2), (x.2.2.2.1, x.2.2.2.2.1, x.2.2.2.2.2.1, x.2.2.2.2.2.2))]) (va_runV (As := [.int (48 + (p1 - p1 / 10 * 10))]) (rest := []) ⟨hx, hb, hml, hown, ha⟩ (k_X11_writes l E a o ((x.1.1, x.1.2.1, x.1.2.2.1, x.1.2.2.2.1, x.1.2.2.2.2), (x.2.1.1, x.2.1.2.1, x.2.1.2.2.1, x.2.1.2.2.2.1, x.2.1.2.2.2.2), (j1, j2, x.2.2.1.2.2.1, x.2.2.1.2.2.2), (x.2.2.2.1, x.2.2.2.2.1, x.2.2.2.2.2.1, x.2.2.2.2.2.2)) (48 + (p1 - p1 / 10 * 10)) q3 hq3 H.size) (cwV 1 ha (gi_V (fun _ h => h) mw2094 mw2096 mw71 mw87 mw2097) rfl rfl rfl hv_X11_writes ⟨(Nat.le_of_ble_eq_true rfl), (Nat.le_of_ble_eq_true rfl)⟩) ⟨pre_blind, va_recv hst.k (fr_P hP [0] rfl) (ci := 13) (q0 := 0) rfl rfl, pre_at hP hD hS hz hzs hst [0] (by decide) rfl rfl⟩ rfl rfl hl.1 rfl (lv_room (Nat.le_of_ble_eq_true rfl)) dX11_writesNumber_25 ⟨(Nat.le_of_ble_eq_true rfl), (Nat.le_of_ble_eq_true rfl)⟩) hP hD hS hA [0] (by decide) rfl rfl rfl rfl (fun H locs hP hD hS => ?_)
    obtain rfl := Option.some.inj hF
    exact en_v hQ (Nat.le_of_ble_eq_true rfl) (Nat.le_of_ble_eq_true rfl) hx hb hr hlocks hP hD hS dX11_writesNumber_28
  refine lv_icmp_le (tgt := 17) hx hb dX11_writesNumber_3 (by decide) (fun c3 => ?_) (fun c3 => ?_)
  · have hF := q_brp c3 hF
    exact jJ17 x.2.2.1.1 x.2.2.1.2.1 H locs ls hF hP hD hS (lv_sub hl [0, 1] rfl)
  · have hF := q_brn c3 hF
    refine lv_aload_n hx hb dX11_writesNumber_6 rfl (lv_at hl 0 rfl) ?_
    refine lv_bipush (v := 48) hx hb dX11_writesNumber_7 (by decide) ?_
    refine lv_iload_n hx hb dX11_writesNumber_9 rfl (lv_at hl 1 rfl) ?_
    refine lv_bipush (v := 10) hx hb dX11_writesNumber_10 (by decide) ?_
    refine lv_idiv hx hb dX11_writesNumber_12 (by decide) ?_
    refine lv_iadd hx hb dX11_writesNumber_13 ?_
    obtain ⟨q4, hq4, hF⟩ := q_bdi hF
    refine cl_v (Lc := [w_Model E a o x]) (Lc' := [w_Model E a o ((x.1.1, x.1.2.1, x.1.2.2.1, x.1.2.2.2.1, x.1.2.2.2.2), (x.2.1.1, x.2.1.2.1, x.2.1.2.2.1, x.2.1.2.2.2.1, x.2.1.2.2.2.2), (q4.1, q4.2, x.2.2.1.2.2.1, x.2.2.1.2.2.2), (x.2.2.2.1, x.2.2.2.2.1, x.2.2.2.2.2.1, x.2.2.2.2.2.2))]) (L' := [w_Model E a o ((x.1.1, x.1.2.1, x.1.2.2.1, x.1.2.2.2.1, x.1.2.2.2.2), (x.2.1.1, x.2.1.2.1, x.2.1.2.2.1, x.2.1.2.2.2.1, x.2.1.2.2.2.2), (q4.1, q4.2, x.2.2.1.2.2.1, x.2.2.1.2.2.2), (x.2.2.2.1, x.2.2.2.2.1, x.2.2.2.2.2.1, x.2.2.2.2.2.2))]) (va_runV (As := [.int (48 + (p1 / 10))]) (rest := []) ⟨hx, hb, hml, hown, ha⟩ (k_X11_writes l E a o x (48 + (p1 / 10)) q4 hq4 H.size) (cwV 1 ha (gi_V (fun _ h => h) mw2094 mw2096 mw71 mw87 mw2097) rfl rfl rfl hv_X11_writes ⟨(Nat.le_of_ble_eq_true rfl), (Nat.le_of_ble_eq_true rfl)⟩) ⟨pre_blind, va_recv hst.k (fr_P hP [0] rfl) (ci := 13) (q0 := 0) rfl rfl, pre_at hP hD hS hz hzs hst [0] (by decide) rfl rfl⟩ rfl rfl hl.1 rfl (lv_room (Nat.le_of_ble_eq_true rfl)) dX11_writesNumber_14 ⟨(Nat.le_of_ble_eq_true rfl), (Nat.le_of_ble_eq_true rfl)⟩) hP hD hS hA [0] (by decide) rfl rfl rfl rfl (fun H locs hP hD hS => ?_)
    exact jJ17 q4.1 q4.2 H locs ls hF hP hD hS (lv_sub hl [0, 1] rfl)

/-! X11_writesNote -/
theorem dX11_writesNote_0 : decode cX11_writesNote 0 = .ok (.iload_n 1, 1) := by decide +kernel
theorem dX11_writesNote_1 : decode cX11_writesNote 1 = .ok (.bipush 12, 2) := by decide +kernel
theorem dX11_writesNote_3 : decode cX11_writesNote 3 = .ok (.irem, 1) := by decide +kernel
theorem dX11_writesNote_4 : decode cX11_writesNote 4 = .ok (.istore_n 2, 1) := by decide +kernel
theorem dX11_writesNote_5 : decode cX11_writesNote 5 = .ok (.iload_n 2, 1) := by decide +kernel
theorem dX11_writesNote_6 : decode cX11_writesNote 6 = .ok (.iconst 1, 1) := by decide +kernel
theorem dX11_writesNote_7 : decode cX11_writesNote 7 = .ok (.if_icmp .eq 26, 3) := by decide +kernel
theorem dX11_writesNote_10 : decode cX11_writesNote 10 = .ok (.iload_n 2, 1) := by decide +kernel
theorem dX11_writesNote_11 : decode cX11_writesNote 11 = .ok (.iconst 3, 1) := by decide +kernel
theorem dX11_writesNote_12 : decode cX11_writesNote 12 = .ok (.if_icmp .eq 21, 3) := by decide +kernel
theorem dX11_writesNote_15 : decode cX11_writesNote 15 = .ok (.iload_n 2, 1) := by decide +kernel
theorem dX11_writesNote_16 : decode cX11_writesNote 16 = .ok (.bipush 6, 2) := by decide +kernel
theorem dX11_writesNote_18 : decode cX11_writesNote 18 = .ok (.if_icmp .eq 15, 3) := by decide +kernel
theorem dX11_writesNote_21 : decode cX11_writesNote 21 = .ok (.iload_n 2, 1) := by decide +kernel
theorem dX11_writesNote_22 : decode cX11_writesNote 22 = .ok (.bipush 8, 2) := by decide +kernel
theorem dX11_writesNote_24 : decode cX11_writesNote 24 = .ok (.if_icmp .eq 9, 3) := by decide +kernel
theorem dX11_writesNote_27 : decode cX11_writesNote 27 = .ok (.iload_n 2, 1) := by decide +kernel
theorem dX11_writesNote_28 : decode cX11_writesNote 28 = .ok (.bipush 10, 2) := by decide +kernel
theorem dX11_writesNote_30 : decode cX11_writesNote 30 = .ok (.if_icmp .ne 7, 3) := by decide +kernel
theorem dX11_writesNote_33 : decode cX11_writesNote 33 = .ok (.iconst 1, 1) := by decide +kernel
theorem dX11_writesNote_34 : decode cX11_writesNote 34 = .ok (.goto 4, 3) := by decide +kernel
theorem dX11_writesNote_37 : decode cX11_writesNote 37 = .ok (.iconst 0, 1) := by decide +kernel
theorem dX11_writesNote_38 : decode cX11_writesNote 38 = .ok (.istore_n 3, 1) := by decide +kernel
theorem dX11_writesNote_39 : decode cX11_writesNote 39 = .ok (.iload_n 3, 1) := by decide +kernel
theorem dX11_writesNote_40 : decode cX11_writesNote 40 = .ok (.ifCond .eq 9, 3) := by decide +kernel
theorem dX11_writesNote_43 : decode cX11_writesNote 43 = .ok (.iload_n 2, 1) := by decide +kernel
theorem dX11_writesNote_44 : decode cX11_writesNote 44 = .ok (.iconst 1, 1) := by decide +kernel
theorem dX11_writesNote_45 : decode cX11_writesNote 45 = .ok (.isub, 1) := by decide +kernel
theorem dX11_writesNote_46 : decode cX11_writesNote 46 = .ok (.goto 4, 3) := by decide +kernel
theorem dX11_writesNote_49 : decode cX11_writesNote 49 = .ok (.iload_n 2, 1) := by decide +kernel
theorem dX11_writesNote_50 : decode cX11_writesNote 50 = .ok (.istore 4, 2) := by decide +kernel
theorem dX11_writesNote_52 : decode cX11_writesNote 52 = .ok (.aload_n 0, 1) := by decide +kernel
theorem dX11_writesNote_53 : decode cX11_writesNote 53 = .ok (.iload 4, 2) := by decide +kernel
theorem dX11_writesNote_55 : decode cX11_writesNote 55 = .ok (.ifCond .ne 8, 3) := by decide +kernel
theorem dX11_writesNote_58 : decode cX11_writesNote 58 = .ok (.bipush 67, 2) := by decide +kernel
theorem dX11_writesNote_60 : decode cX11_writesNote 60 = .ok (.goto 62, 3) := by decide +kernel
theorem dX11_writesNote_63 : decode cX11_writesNote 63 = .ok (.iload 4, 2) := by decide +kernel
theorem dX11_writesNote_65 : decode cX11_writesNote 65 = .ok (.iconst 2, 1) := by decide +kernel
theorem dX11_writesNote_66 : decode cX11_writesNote 66 = .ok (.if_icmp .ne 8, 3) := by decide +kernel
theorem dX11_writesNote_69 : decode cX11_writesNote 69 = .ok (.bipush 68, 2) := by decide +kernel
theorem dX11_writesNote_71 : decode cX11_writesNote 71 = .ok (.goto 51, 3) := by decide +kernel
theorem dX11_writesNote_74 : decode cX11_writesNote 74 = .ok (.iload 4, 2) := by decide +kernel
theorem dX11_writesNote_76 : decode cX11_writesNote 76 = .ok (.iconst 4, 1) := by decide +kernel
theorem dX11_writesNote_77 : decode cX11_writesNote 77 = .ok (.if_icmp .ne 8, 3) := by decide +kernel
theorem dX11_writesNote_80 : decode cX11_writesNote 80 = .ok (.bipush 69, 2) := by decide +kernel
theorem dX11_writesNote_82 : decode cX11_writesNote 82 = .ok (.goto 40, 3) := by decide +kernel
theorem dX11_writesNote_85 : decode cX11_writesNote 85 = .ok (.iload 4, 2) := by decide +kernel
theorem dX11_writesNote_87 : decode cX11_writesNote 87 = .ok (.iconst 5, 1) := by decide +kernel
theorem dX11_writesNote_88 : decode cX11_writesNote 88 = .ok (.if_icmp .ne 8, 3) := by decide +kernel
theorem dX11_writesNote_91 : decode cX11_writesNote 91 = .ok (.bipush 70, 2) := by decide +kernel
theorem dX11_writesNote_93 : decode cX11_writesNote 93 = .ok (.goto 29, 3) := by decide +kernel
theorem dX11_writesNote_96 : decode cX11_writesNote 96 = .ok (.iload 4, 2) := by decide +kernel
theorem dX11_writesNote_98 : decode cX11_writesNote 98 = .ok (.bipush 7, 2) := by decide +kernel
theorem dX11_writesNote_100 : decode cX11_writesNote 100 = .ok (.if_icmp .ne 8, 3) := by decide +kernel
theorem dX11_writesNote_103 : decode cX11_writesNote 103 = .ok (.bipush 71, 2) := by decide +kernel
theorem dX11_writesNote_105 : decode cX11_writesNote 105 = .ok (.goto 17, 3) := by decide +kernel
theorem dX11_writesNote_108 : decode cX11_writesNote 108 = .ok (.iload 4, 2) := by decide +kernel
theorem dX11_writesNote_110 : decode cX11_writesNote 110 = .ok (.bipush 9, 2) := by decide +kernel
theorem dX11_writesNote_112 : decode cX11_writesNote 112 = .ok (.if_icmp .ne 8, 3) := by decide +kernel
theorem dX11_writesNote_115 : decode cX11_writesNote 115 = .ok (.bipush 65, 2) := by decide +kernel
theorem dX11_writesNote_117 : decode cX11_writesNote 117 = .ok (.goto 5, 3) := by decide +kernel
theorem dX11_writesNote_120 : decode cX11_writesNote 120 = .ok (.bipush 66, 2) := by decide +kernel
theorem dX11_writesNote_122 : decode cX11_writesNote 122 = .ok (.invokevirtual 232, 3) := by decide +kernel
theorem dX11_writesNote_125 : decode cX11_writesNote 125 = .ok (.iload_n 3, 1) := by decide +kernel
theorem dX11_writesNote_126 : decode cX11_writesNote 126 = .ok (.ifCond .eq 9, 3) := by decide +kernel
theorem dX11_writesNote_129 : decode cX11_writesNote 129 = .ok (.aload_n 0, 1) := by decide +kernel
theorem dX11_writesNote_130 : decode cX11_writesNote 130 = .ok (.bipush 35, 2) := by decide +kernel
theorem dX11_writesNote_132 : decode cX11_writesNote 132 = .ok (.invokevirtual 232, 3) := by decide +kernel
theorem dX11_writesNote_135 : decode cX11_writesNote 135 = .ok (.aload_n 0, 1) := by decide +kernel
theorem dX11_writesNote_136 : decode cX11_writesNote 136 = .ok (.iload_n 1, 1) := by decide +kernel
theorem dX11_writesNote_137 : decode cX11_writesNote 137 = .ok (.bipush 12, 2) := by decide +kernel
theorem dX11_writesNote_139 : decode cX11_writesNote 139 = .ok (.idiv, 1) := by decide +kernel
theorem dX11_writesNote_140 : decode cX11_writesNote 140 = .ok (.iconst 1, 1) := by decide +kernel
theorem dX11_writesNote_141 : decode cX11_writesNote 141 = .ok (.isub, 1) := by decide +kernel
theorem dX11_writesNote_142 : decode cX11_writesNote 142 = .ok (.invokevirtual 235, 3) := by decide +kernel
theorem dX11_writesNote_145 : decode cX11_writesNote 145 = .ok (.return_, 1) := by decide +kernel
def f_X11_writesNote (x_letters : (Nat → Int32)) (x_lineLength : Int32) (p1 : Int32) : Option ((Nat → Int32) × Int32) :=
  q_lt (p1 - p1 / 12 * 12 : Int32) (fun v1 =>
  q_lt (fun (j2 : Int32) =>
  q_lt (fun (j3 : Int32) =>
  q_lt (fun (j4 : Int32) =>
  q_bd (f_X11_writes x_letters x_lineLength j4) (fun q5 =>
  q_lt (fun (j6 : (Nat → Int32)) (j7 : Int32) =>
  q_bd (f_X11_writesNumber j6 j7 ((p1 / 12) - 1)) (fun q8 =>
  some (q8.1, q8.2))) (fun (J135 : (Nat → Int32) → Int32 → Option ((Nat → Int32) × Int32)) =>
  q_br (j2 = 0) (
  J135 q5.1 q5.2) (
  q_bd (f_X11_writes q5.1 q5.2 35) (fun q9 =>
  J135 q9.1 q9.2))))) (fun (J122 : Int32 → Option ((Nat → Int32) × Int32)) =>
  q_br (j3 = 0) (
  J122 67) (
  q_br (j3 = 2) (
  J122 68) (
  q_br (j3 = 4) (
  J122 69) (
  q_br (j3 = 5) (
  J122 70) (
  q_br (j3 = 7) (
  J122 71) (
  q_br (j3 = 9) (
  J122 65) (
  J122 66)))))))) (fun (J50 : Int32 → Option ((Nat → Int32) × Int32)) =>
  q_br (j2 = 0) (
  J50 v1) (
  J50 (v1 - 1)))) (fun (J38 : Int32 → Option ((Nat → Int32) × Int32)) =>
  q_br (v1 = 1) (
  J38 1) (
  q_br (v1 = 3) (
  J38 1) (
  q_br (v1 = 6) (
  J38 1) (
  q_br (v1 = 8) (
  J38 1) (
  q_br (v1 = 10) (
  J38 1) (
  J38 0)))))))
theorem hv_X11_writesNote : yX11_writesNote.cls = RX11 ∧ yX11_writesNote.cls ≠ "java/lang/invoke/MethodHandle" ∧ yX11_writesNote.cls ≠ "java/lang/invoke/VarHandle" ∧ (parseMethodDescriptor yX11_writesNote.desc).map (fun d => d.parameters.length) = some 1 := by decide +kernel
abbrev rm_X11_writesNote : Room := { frames := 2, cells := 0, slots := 0, locals := 42 }
set_option maxHeartbeats 4000000 in
set_option maxRecDepth 100000 in
theorem k_X11_writesNote (l : Launch) (E : ET) (a : Nat → Nat) (o : Nat) (x : Model_t) (p1 : Int32) (res : (Nat → Int32) × Int32) (hF : f_X11_writesNote x.2.2.1.1 x.2.2.1.2.1 p1 = some res) (sz : Nat) : CtV l yX11_writesNote (mws yX11_writesNote cX11_writesNote 5 none) rm_X11_writesNote 0 0 [.ref (a o), .int p1] E (bl_Model E a o x) (bl_Model E a o ((x.1.1, x.1.2.1, x.1.2.2.1, x.1.2.2.2.1, x.1.2.2.2.2), (x.2.1.1, x.2.1.2.1, x.2.1.2.2.1, x.2.1.2.2.2.1, x.2.1.2.2.2.2), (res.1, res.2, x.2.2.1.2.2.1, x.2.2.1.2.2.2), (x.2.2.2.1, x.2.2.2.2.1, x.2.2.2.2.2.1, x.2.2.2.2.2.2))) sz := by
  refine mk_M (by decide +kernel) (Nat.le_of_ble_eq_true rfl) ?_
  intro p e s m below meth c A args Q ls hAe hsz hQ hx hb hr hml hin ha hown hlocks hA hz hzs hst hP hD hS hl
  have hown : s.vm.findClass RX11 = some m.cls := hown
  rw [hAe] at hQ
  subst hsz
  have hP : va_P E.1 vwCl (List.flatten [w_Model E a o x]) s.heap := hP
  have hD : va_D A (List.flatten [w_Model E a o x]) := hD
  have hl : lv_has ls 5 [(0, .ref (a o)), (1, .int p1)] := hl
  generalize hHe : s.heap = H at hP
  have hS : va_S A s.heap H [] := by rw [← hHe]; exact hS
  generalize ([] : List Loc) = locs at hS ⊢
  unfold f_X11_writesNote at hF
  refine lv_iload_n hx hb dX11_writesNote_0 rfl (lv_at hl 1 rfl) ?_
  refine lv_bipush (v := 12) hx hb dX11_writesNote_1 (by decide) ?_
  refine lv_irem hx hb dX11_writesNote_3 (by decide) ?_
  refine lv_topi (fun v1 ev1 => ?_)
  have hF := q_lti ev1 hF
  refine lv_istore_n (lv' := [(2, .int v1), (0, .ref (a o)), (1, .int p1)]) hx hb dX11_writesNote_4 rfl hl (by decide) rfl (fun ls hl => ?_)
  refine lv_iload_n hx hb dX11_writesNote_5 rfl (lv_at hl 0 rfl) ?_
  refine lv_iconst (v := 1) hx hb dX11_writesNote_6 (by decide) ?_
  obtain ⟨J38, hJ38, hF⟩ := q_jn hF
  have jJ38 : ∀ (j2 : Int32), ∀ (H : Heap) (locs : List Loc) (ls : Array Slot), J38 j2 = some res → va_P E.1 vwCl (List.flatten [w_Model E a o x]) H → va_D A (List.flatten [w_Model E a o x]) → va_S A s.heap H locs → lv_has ls 5 [(2, .int v1), (0, .ref (a o)), (1, .int p1)] → W p l e rm_X11_writesNote s m args below meth c H locs 0 0 Q (F0 m 38 ls [.int j2]) := by
    intro j2 H locs ls hF hP hD hS hl
    rw [hJ38] at hF
    refine lv_istore_n (lv' := [(3, .int j2), (2, .int v1), (0, .ref (a o)), (1, .int p1)]) hx hb dX11_writesNote_38 rfl hl (by decide) rfl (fun ls hl => ?_)
    refine lv_iload_n hx hb dX11_writesNote_39 rfl (lv_at hl 0 rfl) ?_
    obtain ⟨J50, hJ50, hF⟩ := q_jn hF
    have jJ50 : ∀ (j3 : Int32), ∀ (H : Heap) (locs : List Loc) (ls : Array Slot), J50 j3 = some res → va_P E.1 vwCl (List.flatten [w_Model E a o x]) H → va_D A (List.flatten [w_Model E a o x]) → va_S A s.heap H locs → lv_has ls 5 [(3, .int j2), (0, .ref (a o)), (1, .int p1)] → W p l e rm_X11_writesNote s m args below meth c H locs 0 0 Q (F0 m 50 ls [.int j3]) := by
      intro j3 H locs ls hF hP hD hS hl
      rw [hJ50] at hF
      refine lv_istore (lv' := [(4, .int j3), (3, .int j2), (0, .ref (a o)), (1, .int p1)]) hx hb dX11_writesNote_50 hl (by decide) rfl (fun ls hl => ?_)
      refine lv_aload_n hx hb dX11_writesNote_52 rfl (lv_at hl 2 rfl) ?_
      refine lv_iload hx hb dX11_writesNote_53 (lv_at hl 0 rfl) ?_
      obtain ⟨J122, hJ122, hF⟩ := q_jn hF
      have jJ122 : ∀ (j4 : Int32), ∀ (H : Heap) (locs : List Loc) (ls : Array Slot), J122 j4 = some res → va_P E.1 vwCl (List.flatten [w_Model E a o x]) H → va_D A (List.flatten [w_Model E a o x]) → va_S A s.heap H locs → lv_has ls 5 [(3, .int j2), (0, .ref (a o)), (1, .int p1)] → W p l e rm_X11_writesNote s m args below meth c H locs 0 0 Q (F0 m 122 ls [.int j4, .ref (a o)]) := by
        intro j4 H locs ls hF hP hD hS hl
        rw [hJ122] at hF
        obtain ⟨q5, hq5, hF⟩ := q_bdi hF
        refine cl_v (Lc := [w_Model E a o x]) (Lc' := [w_Model E a o ((x.1.1, x.1.2.1, x.1.2.2.1, x.1.2.2.2.1, x.1.2.2.2.2), (x.2.1.1, x.2.1.2.1, x.2.1.2.2.1, x.2.1.2.2.2.1, x.2.1.2.2.2.2), (q5.1, q5.2, x.2.2.1.2.2.1, x.2.2.1.2.2.2), (x.2.2.2.1, x.2.2.2.2.1, x.2.2.2.2.2.1, x.2.2.2.2.2.2))]) (L' := [w_Model E a o ((x.1.1, x.1.2.1, x.1.2.2.1, x.1.2.2.2.1, x.1.2.2.2.2), (x.2.1.1, x.2.1.2.1, x.2.1.2.2.1, x.2.1.2.2.2.1, x.2.1.2.2.2.2), (q5.1, q5.2, x.2.2.1.2.2.1, x.2.2.1.2.2.2), (x.2.2.2.1, x.2.2.2.2.1, x.2.2.2.2.2.1, x.2.2.2.2.2.2))]) (va_runV (As := [.int j4]) (rest := []) ⟨hx, hb, hml, hown, ha⟩ (k_X11_writes l E a o x j4 q5 hq5 H.size) (cwV 1 ha (gi_V (fun _ h => h) mw2094 mw2096 mw71 mw87 mw2097) rfl rfl rfl hv_X11_writes ⟨(Nat.le_of_ble_eq_true rfl), (Nat.le_of_ble_eq_true rfl)⟩) ⟨pre_blind, va_recv hst.k (fr_P hP [0] rfl) (ci := 13) (q0 := 0) rfl rfl, pre_at hP hD hS hz hzs hst [0] (by decide) rfl rfl⟩ rfl rfl hl.1 rfl (lv_room (Nat.le_of_ble_eq_true rfl)) dX11_writesNote_122 ⟨(Nat.le_of_ble_eq_true rfl), (Nat.le_of_ble_eq_true rfl)⟩) hP hD hS hA [0] (by decide) rfl rfl rfl rfl (fun H locs hP hD hS => ?_)
        refine lv_iload_n hx hb dX11_writesNote_125 rfl (lv_at hl 0 rfl) ?_
        obtain ⟨J135, hJ135, hF⟩ := q_jn hF
        have jJ135 : ∀ (j6 : (Nat → Int32)) (j7 : Int32), ∀ (H : Heap) (locs : List Loc) (ls : Array Slot), J135 j6 j7 = some res → va_P E.1 vwCl (List.flatten [w_Model E a o ((x.1.1, x.1.2.1, x.1.2.2.1, x.1.2.2.2.1, x.1.2.2.2.2), (x.2.1.1, x.2.1.2.1, x.2.1.2.2.1, x.2.1.2.2.2.1, x.2.1.2.2.2.2), (j6, j7, x.2.2.1.2.2.1, x.2.2.1.2.2.2), (x.2.2.2.1, x.2.2.2.2.1, x.2.2.2.2.2.1, x.2.2.2.2.2.2))]) H → va_D A (List.flatten [w_Model E a o ((x.1.1, x.1.2.1, x.1.2.2.1, x.1.2.2.2.1, x.1.2.2.2.2), (x.2.1.1, x.2.1.2.1, x.2.1.2.2.1, x.2.1.2.2.2.1, x.2.1.2.2.2.2), (j6, j7, x.2.2.1.2.2.1, x.2.2.1.2.2.2), (x.2.2.2.1, x.2.2.2.2.1, x.2.2.2.2.2.1, x.2.2.2.2.2.2))]) → va_S A s.heap H locs → lv_has ls 5 [(0, .ref (a o)), (1, .int p1)] → W p l e rm_X11_writesNote s m args below meth c H locs 0 0 Q (F0 m 135 ls []) := by
          intro j6 j7 H locs ls hF hP hD hS hl
          rw [hJ135] at hF
          refine lv_aload_n hx hb dX11_writesNote_135 rfl (lv_at hl 0 rfl) ?_
          refine lv_iload_n hx hb dX11_writesNote_136 rfl (lv_at hl 1 rfl) ?_
          refine lv_bipush (v := 12) hx hb dX11_writesNote_137 (by decide) ?_
          refine lv_idiv hx hb dX11_writesNote_139 (by decide) ?_
          refine lv_iconst (v := 1) hx hb dX11_writesNote_140 (by decide) ?_
          refine lv_isub hx hb dX11_writesNote_141 ?_
          obtain ⟨q8, hq8, hF⟩ := q_bdi hF
          refine cl_v (Lc := [w_Model E a o ((x.1.1, x.1.2.1, x.1.2.2.1, x.1.2.2.2.1, x.1.2.2.2.2), (x.2.1.1, x.2.1.2.1, x.2.1.2.2.1, x.2.1.2.2.2.1, x.2.1.2.2.2.2), (j6, j7, x.2.2.1.2.2.1, x.2.2.1.2.2.2), (x.2.2.2.1, x.2.2.2.2.1, x.2.2.2.2.2.1, x.2.2.2.2.2.2))]) (Lc' := [w_Model E a o ((x.1.1, x.1.2.1, x.1.2.2.1, x.1.2.2.2.1, x.1.2.2.2.2), (x.2.1.1, x.2.1.2.1, x.2.1.2.2.1, x.2.1.2.2.2.1, x.2.1.2.2.2.2), (q8.1, q8.2, x.2.2.1.2.2.1, x.2.2.1.2.2.2), (x.2.2.2.1, x.2.2.2.2.1, x.2.2.2.2.2.1, x.2.2.2.2.2.2))]) (L' := [w_Model E a o ((x.1.1, x.1.2.1, x.1.2.2.1, x.1.2.2.2.1, x.1.2.2.2.2), (x.2.1.1, x.2.1.2.1, x.2.1.2.2.1, x.2.1.2.2.2.1, x.2.1.2.2.2.2), (q8.1, q8.2, x.2.2.1.2.2.1, x.2.2.1.2.2.2), (x.2.2.2.1, x.2.2.2.2.1, x.2.2.2.2.2.1, x.2.2.2.2.2.2))]) (va_runV (As := [.int ((p1 / 12) - 1)]) (rest := []) ⟨hx, hb, hml, hown, ha⟩ (k_X11_writesNumber l E a o ((x.1.1, x.1.2.1, x.1.2.2.1, x.1.2.2.2.1, x.1.2.2.2.2), (x.2.1.1, x.2.1.2.1, x.2.1.2.2.1, x.2.1.2.2.2.1, x.2.1.2.2.2.2), (j6, j7, x.2.2.1.2.2.1, x.2.2.1.2.2.2), (x.2.2.2.1, x.2.2.2.2.1, x.2.2.2.2.2.1, x.2.2.2.2.2.2)) ((p1 / 12) - 1) q8 hq8 H.size) (cwV 1 ha (gi_V (fun _ h => h) mw2090 mw2092 mw70 mw87 mw2093) rfl rfl rfl hv_X11_writesNumber ⟨(Nat.le_of_ble_eq_true rfl), (Nat.le_of_ble_eq_true rfl)⟩) ⟨pre_blind, va_recv hst.k (fr_P hP [0] rfl) (ci := 13) (q0 := 0) rfl rfl, pre_at hP hD hS hz hzs hst [0] (by decide) rfl rfl⟩ rfl rfl hl.1 rfl (lv_room (Nat.le_of_ble_eq_true rfl)) dX11_writesNote_142 ⟨(Nat.le_of_ble_eq_true rfl), (Nat.le_of_ble_eq_true rfl)⟩) hP hD hS hA [0] (by decide) rfl rfl rfl rfl (fun H locs hP hD hS => ?_)
          obtain rfl := Option.some.inj hF
          exact en_v hQ (Nat.le_of_ble_eq_true rfl) (Nat.le_of_ble_eq_true rfl) hx hb hr hlocks hP hD hS dX11_writesNote_145
        refine lv_if_eq (tgt := 135) hx hb dX11_writesNote_126 (by decide) (fun c126 => ?_) (fun c126 => ?_)
        · have hF := q_brp c126 hF
          exact jJ135 q5.1 q5.2 H locs ls hF hP hD hS (lv_sub hl [1, 2] rfl)
        · have hF := q_brn c126 hF
          refine lv_aload_n hx hb dX11_writesNote_129 rfl (lv_at hl 1 rfl) ?_
          refine lv_bipush (v := 35) hx hb dX11_writesNote_130 (by decide) ?_
          obtain ⟨q9, hq9, hF⟩ := q_bdi hF
          refine cl_v (Lc := [w_Model E a o ((x.1.1, x.1.2.1, x.1.2.2.1, x.1.2.2.2.1, x.1.2.2.2.2), (x.2.1.1, x.2.1.2.1, x.2.1.2.2.1, x.2.1.2.2.2.1, x.2.1.2.2.2.2), (q5.1, q5.2, x.2.2.1.2.2.1, x.2.2.1.2.2.2), (x.2.2.2.1, x.2.2.2.2.1, x.2.2.2.2.2.1, x.2.2.2.2.2.2))]) (Lc' := [w_Model E a o ((x.1.1, x.1.2.1, x.1.2.2.1, x.1.2.2.2.1, x.1.2.2.2.2), (x.2.1.1, x.2.1.2.1, x.2.1.2.2.1, x.2.1.2.2.2.1, x.2.1.2.2.2.2), (q9.1, q9.2, x.2.2.1.2.2.1, x.2.2.1.2.2.2), (x.2.2.2.1, x.2.2.2.2.1, x.2.2.2.2.2.1, x.2.2.2.2.2.2))]) (L' := [w_Model E a o ((x.1.1, x.1.2.1, x.1.2.2.1, x.1.2.2.2.1, x.1.2.2.2.2), (x.2.1.1, x.2.1.2.1, x.2.1.2.2.1, x.2.1.2.2.2.1, x.2.1.2.2.2.2), (q9.1, q9.2, x.2.2.1.2.2.1, x.2.2.1.2.2.2), (x.2.2.2.1, x.2.2.2.2.1, x.2.2.2.2.2.1, x.2.2.2.2.2.2))]) (va_runV (As := [.int 35]) (rest := []) ⟨hx, hb, hml, hown, ha⟩ (k_X11_writes l E a o ((x.1.1, x.1.2.1, x.1.2.2.1, x.1.2.2.2.1, x.1.2.2.2.2), (x.2.1.1, x.2.1.2.1, x.2.1.2.2.1, x.2.1.2.2.2.1, x.2.1.2.2.2.2), (q5.1, q5.2, x.2.2.1.2.2.1, x.2.2.1.2.2.2), (x.2.2.2.1, x.2.2.2.2.1, x.2.2.2.2.2.1, x.2.2.2.2.2.2)) 35 q9 hq9 H.size) (cwV 1 ha (gi_V (fun _ h => h) mw2094 mw2096 mw71 mw87 mw2097) rfl rfl rfl hv_X11_writes ⟨(Nat.le_of_ble_eq_true rfl), (Nat.le_of_ble_eq_true rfl)⟩) ⟨pre_blind, va_recv hst.k (fr_P hP [0] rfl) (ci := 13) (q0 := 0) rfl rfl, pre_at hP hD hS hz hzs hst [0] (by decide) rfl rfl⟩ rfl rfl hl.1 rfl (lv_room (Nat.le_of_ble_eq_true rfl)) dX11_writesNote_132 ⟨(Nat.le_of_ble_eq_true rfl), (Nat.le_of_ble_eq_true rfl)⟩) hP hD hS hA [0] (by decide) rfl rfl rfl rfl (fun H locs hP hD hS => ?_)
          exact jJ135 q9.1 q9.2 H locs ls hF hP hD hS (lv_sub hl [1, 2] rfl)
      refine lv_if_ne (tgt := 63) hx hb dX11_writesNote_55 (by decide) (fun c55 => ?_) (fun c55 => ?_)
      · have hF := q_brn c55 hF
        refine lv_iload hx hb dX11_writesNote_63 (lv_at hl 0 rfl) ?_
        refine lv_iconst (v := 2) hx hb dX11_writesNote_65 (by decide) ?_
        refine lv_icmp_ne (tgt := 74) hx hb dX11_writesNote_66 (by decide) (fun c66 => ?_) (fun c66 => ?_)
        · have hF := q_brn c66 hF
          refine lv_iload hx hb dX11_writesNote_74 (lv_at hl 0 rfl) ?_
          refine lv_iconst (v := 4) hx hb dX11_writesNote_76 (by decide) ?_
          refine lv_icmp_ne (tgt := 85) hx hb dX11_writesNote_77 (by decide) (fun c77 => ?_) (fun c77 => ?_)
          · have hF := q_brn c77 hF
            refine lv_iload hx hb dX11_writesNote_85 (lv_at hl 0 rfl) ?_
            refine lv_iconst (v := 5) hx hb dX11_writesNote_87 (by decide) ?_
            refine lv_icmp_ne (tgt := 96) hx hb dX11_writesNote_88 (by decide) (fun c88 => ?_) (fun c88 => ?_)
            · have hF := q_brn c88 hF
              refine lv_iload hx hb dX11_writesNote_96 (lv_at hl 0 rfl) ?_
              refine lv_bipush (v := 7) hx hb dX11_writesNote_98 (by decide) ?_
              refine lv_icmp_ne (tgt := 108) hx hb dX11_writesNote_100 (by decide) (fun c100 => ?_) (fun c100 => ?_)
              · have hF := q_brn c100 hF
                refine lv_iload hx hb dX11_writesNote_108 (lv_at hl 0 rfl) ?_
                refine lv_bipush (v := 9) hx hb dX11_writesNote_110 (by decide) ?_
                refine lv_icmp_ne (tgt := 120) hx hb dX11_writesNote_112 (by decide) (fun c112 => ?_) (fun c112 => ?_)
                · have hF := q_brn c112 hF
                  refine lv_bipush (v := 66) hx hb dX11_writesNote_120 (by decide) ?_
                  exact jJ122 66 H locs ls hF hP hD hS (lv_sub hl [1, 2, 3] rfl)
                · have hF := q_brp c112 hF
                  refine lv_bipush (v := 65) hx hb dX11_writesNote_115 (by decide) ?_
                  refine lv_goto (tgt := 122) hx hb dX11_writesNote_117 (by decide) ?_
                  exact jJ122 65 H locs ls hF hP hD hS (lv_sub hl [1, 2, 3] rfl)
              · have hF := q_brp c100 hF
                refine lv_bipush (v := 71) hx hb dX11_writesNote_103 (by decide) ?_
                refine lv_goto (tgt := 122) hx hb dX11_writesNote_105 (by decide) ?_
                exact jJ122 71 H locs ls hF hP hD hS (lv_sub hl [1, 2, 3] rfl)
            · have hF := q_brp c88 hF
              refine lv_bipush (v := 70) hx hb dX11_writesNote_91 (by decide) ?_
              refine lv_goto (tgt := 122) hx hb dX11_writesNote_93 (by decide) ?_
              exact jJ122 70 H locs ls hF hP hD hS (lv_sub hl [1, 2, 3] rfl)
          · have hF := q_brp c77 hF
            refine lv_bipush (v := 69) hx hb dX11_writesNote_80 (by decide) ?_
            refine lv_goto (tgt := 122) hx hb dX11_writesNote_82 (by decide) ?_
            exact jJ122 69 H locs ls hF hP hD hS (lv_sub hl [1, 2, 3] rfl)
        · have hF := q_brp c66 hF
          refine lv_bipush (v := 68) hx hb dX11_writesNote_69 (by decide) ?_
          refine lv_goto (tgt := 122) hx hb dX11_writesNote_71 (by decide) ?_
          exact jJ122 68 H locs ls hF hP hD hS (lv_sub hl [1, 2, 3] rfl)
      · have hF := q_brp c55 hF
        refine lv_bipush (v := 67) hx hb dX11_writesNote_58 (by decide) ?_
        refine lv_goto (tgt := 122) hx hb dX11_writesNote_60 (by decide) ?_
        exact jJ122 67 H locs ls hF hP hD hS (lv_sub hl [1, 2, 3] rfl)
    refine lv_if_eq (tgt := 49) hx hb dX11_writesNote_40 (by decide) (fun c40 => ?_) (fun c40 => ?_)
    · have hF := q_brp c40 hF
      refine lv_iload_n hx hb dX11_writesNote_49 rfl (lv_at hl 1 rfl) ?_
      exact jJ50 v1 H locs ls hF hP hD hS (lv_sub hl [0, 2, 3] rfl)
    · have hF := q_brn c40 hF
      refine lv_iload_n hx hb dX11_writesNote_43 rfl (lv_at hl 1 rfl) ?_
      refine lv_iconst (v := 1) hx hb dX11_writesNote_44 (by decide) ?_
      refine lv_isub hx hb dX11_writesNote_45 ?_
      refine lv_goto (tgt := 50) hx hb dX11_writesNote_46 (by decide) ?_
      exact jJ50 (v1 - 1) H locs ls hF hP hD hS (lv_sub hl [0, 2, 3] rfl)
  refine lv_icmp_eq (tgt := 33) hx hb dX11_writesNote_7 (by decide) (fun c7 => ?_) (fun c7 => ?_)
  · have hF := q_brp c7 hF
    refine lv_iconst (v := 1) hx hb dX11_writesNote_33 (by decide) ?_
    refine lv_goto (tgt := 38) hx hb dX11_writesNote_34 (by decide) ?_
    exact jJ38 1 H locs ls hF hP hD hS (lv_sub hl [0, 1, 2] rfl)
  · have hF := q_brn c7 hF
    refine lv_iload_n hx hb dX11_writesNote_10 rfl (lv_at hl 0 rfl) ?_
    refine lv_iconst (v := 3) hx hb dX11_writesNote_11 (by decide) ?_
    refine lv_icmp_eq (tgt := 33) hx hb dX11_writesNote_12 (by decide) (fun c12 => ?_) (fun c12 => ?_)
    · have hF := q_brp c12 hF
      refine lv_iconst (v := 1) hx hb dX11_writesNote_33 (by decide) ?_
      refine lv_goto (tgt := 38) hx hb dX11_writesNote_34 (by decide) ?_
      exact jJ38 1 H locs ls hF hP hD hS (lv_sub hl [0, 1, 2] rfl)
    · have hF := q_brn c12 hF
      refine lv_iload_n hx hb dX11_writesNote_15 rfl (lv_at hl 0 rfl) ?_
      refine lv_bipush (v := 6) hx hb dX11_writesNote_16 (by decide) ?_
      refine lv_icmp_eq (tgt := 33) hx hb dX11_writesNote_18 (by decide) (fun c18 => ?_) (fun c18 => ?_)
      · have hF := q_brp c18 hF
        refine lv_iconst (v := 1) hx hb dX11_writesNote_33 (by decide) ?_
        refine lv_goto (tgt := 38) hx hb dX11_writesNote_34 (by decide) ?_
        exact jJ38 1 H locs ls hF hP hD hS (lv_sub hl [0, 1, 2] rfl)
      · have hF := q_brn c18 hF
        refine lv_iload_n hx hb dX11_writesNote_21 rfl (lv_at hl 0 rfl) ?_
        refine lv_bipush (v := 8) hx hb dX11_writesNote_22 (by decide) ?_
        refine lv_icmp_eq (tgt := 33) hx hb dX11_writesNote_24 (by decide) (fun c24 => ?_) (fun c24 => ?_)
        · have hF := q_brp c24 hF
          refine lv_iconst (v := 1) hx hb dX11_writesNote_33 (by decide) ?_
          refine lv_goto (tgt := 38) hx hb dX11_writesNote_34 (by decide) ?_
          exact jJ38 1 H locs ls hF hP hD hS (lv_sub hl [0, 1, 2] rfl)
        · have hF := q_brn c24 hF
          refine lv_iload_n hx hb dX11_writesNote_27 rfl (lv_at hl 0 rfl) ?_
          refine lv_bipush (v := 10) hx hb dX11_writesNote_28 (by decide) ?_
          refine lv_icmp_ne (tgt := 37) hx hb dX11_writesNote_30 (by decide) (fun c30 => ?_) (fun c30 => ?_)
          · have hF := q_brn c30 hF
            refine lv_iconst (v := 0) hx hb dX11_writesNote_37 (by decide) ?_
            exact jJ38 0 H locs ls hF hP hD hS (lv_sub hl [0, 1, 2] rfl)
          · have hF := q_brp c30 hF
            refine lv_iconst (v := 1) hx hb dX11_writesNote_33 (by decide) ?_
            refine lv_goto (tgt := 38) hx hb dX11_writesNote_34 (by decide) ?_
            exact jJ38 1 H locs ls hF hP hD hS (lv_sub hl [0, 1, 2] rfl)

/-! X11_writeBell -/
theorem dX11_writeBell_0 : decode cX11_writeBell 0 = .ok (.aload_n 0, 1) := by decide +kernel
theorem dX11_writeBell_1 : decode cX11_writeBell 1 = .ok (.iload_n 1, 1) := by decide +kernel
theorem dX11_writeBell_2 : decode cX11_writeBell 2 = .ok (.invokevirtual 96, 3) := by decide +kernel
theorem dX11_writeBell_5 : decode cX11_writeBell 5 = .ok (.ifCond .ne 9, 3) := by decide +kernel
theorem dX11_writeBell_8 : decode cX11_writeBell 8 = .ok (.aload_n 0, 1) := by decide +kernel
theorem dX11_writeBell_9 : decode cX11_writeBell 9 = .ok (.iconst 1, 1) := by decide +kernel
theorem dX11_writeBell_10 : decode cX11_writeBell 10 = .ok (.invokevirtual 80, 3) := by decide +kernel
theorem dX11_writeBell_13 : decode cX11_writeBell 13 = .ok (.ireturn, 1) := by decide +kernel
theorem dX11_writeBell_14 : decode cX11_writeBell 14 = .ok (.aload_n 0, 1) := by decide +kernel
theorem dX11_writeBell_15 : decode cX11_writeBell 15 = .ok (.iconst 0, 1) := by decide +kernel
theorem dX11_writeBell_16 : decode cX11_writeBell 16 = .ok (.putfield 229, 3) := by decide +kernel
theorem dX11_writeBell_19 : decode cX11_writeBell 19 = .ok (.aload_n 0, 1) := by decide +kernel
theorem dX11_writeBell_20 : decode cX11_writeBell 20 = .ok (.iload_n 1, 1) := by decide +kernel
theorem dX11_writeBell_21 : decode cX11_writeBell 21 = .ok (.invokevirtual 235, 3) := by decide +kernel
theorem dX11_writeBell_24 : decode cX11_writeBell 24 = .ok (.aload_n 0, 1) := by decide +kernel
theorem dX11_writeBell_25 : decode cX11_writeBell 25 = .ok (.bipush 104, 2) := by decide +kernel
theorem dX11_writeBell_27 : decode cX11_writeBell 27 = .ok (.invokevirtual 232, 3) := by decide +kernel
theorem dX11_writeBell_30 : decode cX11_writeBell 30 = .ok (.aload_n 0, 1) := by decide +kernel
theorem dX11_writeBell_31 : decode cX11_writeBell 31 = .ok (.aload_n 0, 1) := by decide +kernel
theorem dX11_writeBell_32 : decode cX11_writeBell 32 = .ok (.getfield 7, 3) := by decide +kernel
theorem dX11_writeBell_35 : decode cX11_writeBell 35 = .ok (.iconst 5, 1) := by decide +kernel
theorem dX11_writeBell_36 : decode cX11_writeBell 36 = .ok (.iload_n 1, 1) := by decide +kernel
theorem dX11_writeBell_37 : decode cX11_writeBell 37 = .ok (.iadd, 1) := by decide +kernel
theorem dX11_writeBell_38 : decode cX11_writeBell 38 = .ok (.iaload, 1) := by decide +kernel
theorem dX11_writeBell_39 : decode cX11_writeBell 39 = .ok (.invokevirtual 235, 3) := by decide +kernel
theorem dX11_writeBell_42 : decode cX11_writeBell 42 = .ok (.aload_n 0, 1) := by decide +kernel
theorem dX11_writeBell_43 : decode cX11_writeBell 43 = .ok (.bipush 58, 2) := by decide +kernel
theorem dX11_writeBell_45 : decode cX11_writeBell 45 = .ok (.invokevirtual 232, 3) := by decide +kernel
theorem dX11_writeBell_48 : decode cX11_writeBell 48 = .ok (.aload_n 0, 1) := by decide +kernel
theorem dX11_writeBell_49 : decode cX11_writeBell 49 = .ok (.aload_n 0, 1) := by decide +kernel
theorem dX11_writeBell_50 : decode cX11_writeBell 50 = .ok (.iload_n 1, 1) := by decide +kernel
theorem dX11_writeBell_51 : decode cX11_writeBell 51 = .ok (.invokevirtual 60, 3) := by decide +kernel
theorem dX11_writeBell_54 : decode cX11_writeBell 54 = .ok (.invokevirtual 238, 3) := by decide +kernel
theorem dX11_writeBell_57 : decode cX11_writeBell 57 = .ok (.aload_n 0, 1) := by decide +kernel
theorem dX11_writeBell_58 : decode cX11_writeBell 58 = .ok (.iload_n 1, 1) := by decide +kernel
theorem dX11_writeBell_59 : decode cX11_writeBell 59 = .ok (.invokevirtual 67, 3) := by decide +kernel
theorem dX11_writeBell_62 : decode cX11_writeBell 62 = .ok (.istore_n 2, 1) := by decide +kernel
theorem dX11_writeBell_63 : decode cX11_writeBell 63 = .ok (.iload_n 2, 1) := by decide +kernel
theorem dX11_writeBell_64 : decode cX11_writeBell 64 = .ok (.ifCond .eq 26, 3) := by decide +kernel
theorem dX11_writeBell_67 : decode cX11_writeBell 67 = .ok (.aload_n 0, 1) := by decide +kernel
theorem dX11_writeBell_68 : decode cX11_writeBell 68 = .ok (.iload_n 2, 1) := by decide +kernel
theorem dX11_writeBell_69 : decode cX11_writeBell 69 = .ok (.ifCond .le 8, 3) := by decide +kernel
theorem dX11_writeBell_72 : decode cX11_writeBell 72 = .ok (.bipush 43, 2) := by decide +kernel
theorem dX11_writeBell_74 : decode cX11_writeBell 74 = .ok (.goto 5, 3) := by decide +kernel
theorem dX11_writeBell_77 : decode cX11_writeBell 77 = .ok (.bipush 45, 2) := by decide +kernel
theorem dX11_writeBell_79 : decode cX11_writeBell 79 = .ok (.invokevirtual 232, 3) := by decide +kernel
theorem dX11_writeBell_82 : decode cX11_writeBell 82 = .ok (.aload_n 0, 1) := by decide +kernel
theorem dX11_writeBell_83 : decode cX11_writeBell 83 = .ok (.iload_n 2, 1) := by decide +kernel
theorem dX11_writeBell_84 : decode cX11_writeBell 84 = .ok (.invokestatic 70, 3) := by decide +kernel
theorem dX11_writeBell_87 : decode cX11_writeBell 87 = .ok (.invokevirtual 235, 3) := by decide +kernel
theorem dX11_writeBell_90 : decode cX11_writeBell 90 = .ok (.aload_n 0, 1) := by decide +kernel
theorem dX11_writeBell_91 : decode cX11_writeBell 91 = .ok (.iload_n 1, 1) := by decide +kernel
theorem dX11_writeBell_92 : decode cX11_writeBell 92 = .ok (.invokevirtual 111, 3) := by decide +kernel
theorem dX11_writeBell_95 : decode cX11_writeBell 95 = .ok (.ifCond .ne 9, 3) := by decide +kernel
theorem dX11_writeBell_98 : decode cX11_writeBell 98 = .ok (.aload_n 0, 1) := by decide +kernel
theorem dX11_writeBell_99 : decode cX11_writeBell 99 = .ok (.bipush 33, 2) := by decide +kernel
theorem dX11_writeBell_101 : decode cX11_writeBell 101 = .ok (.invokevirtual 232, 3) := by decide +kernel
theorem dX11_writeBell_104 : decode cX11_writeBell 104 = .ok (.aload_n 0, 1) := by decide +kernel
theorem dX11_writeBell_105 : decode cX11_writeBell 105 = .ok (.aload_n 0, 1) := by decide +kernel
theorem dX11_writeBell_106 : decode cX11_writeBell 106 = .ok (.getfield 229, 3) := by decide +kernel
theorem dX11_writeBell_109 : decode cX11_writeBell 109 = .ok (.invokevirtual 83, 3) := by decide +kernel
theorem dX11_writeBell_112 : decode cX11_writeBell 112 = .ok (.ireturn, 1) := by decide +kernel
def f_X11_writeBell (x_g : (Nat → Int32)) (x_letters : (Nat → Int32)) (x_lineLength : Int32) (x_thrown : Int32) (p1 : Int32) : Option (Int32 × (Nat → Int32) × Int32 × Int32) :=
  q_bd (f_X11_isBell x_g p1) (fun q1 =>
  q_br (q1 = 0) (
  q_bd (f_X11_fails x_thrown 1) (fun q21 =>
  some (q21.1, x_letters, x_lineLength, q21.2))) (
  q_bd (f_X11_writesNumber x_letters 0 p1) (fun q2 =>
  q_bd (f_X11_writes q2.1 q2.2 104) (fun q3 =>
  q_gd (q_in (5 + p1) 77) (
  q_bd (f_X11_writesNumber q3.1 q3.2 (x_g ((5 + p1).toNatClampNeg))) (fun q5 =>
  q_bd (f_X11_writes q5.1 q5.2 58) (fun q6 =>
  q_bd (f_X11_noteOf x_g p1) (fun q7 =>
  q_bd (f_X11_writesNote q6.1 q6.2 q7) (fun q8 =>
  q_bd (f_X11_deviationOf x_g p1) (fun q9 =>
  q_lt (fun (j10 : (Nat → Int32)) (j11 : Int32) =>
  q_bd (f_X11_isKeyed x_g p1) (fun q12 =>
  q_lt (fun (j13 : (Nat → Int32)) (j14 : Int32) =>
  q_bd (f_X11_done x_thrown j14) (fun q15 =>
  some (q15.1, j13, j14, q15.2))) (fun (J104 : (Nat → Int32) → Int32 → Option (Int32 × (Nat → Int32) × Int32 × Int32)) =>
  q_br (q12 = 0) (
  q_bd (f_X11_writes j10 j11 33) (fun q16 =>
  J104 q16.1 q16.2)) (
  J104 j10 j11)))) (fun (J90 : (Nat → Int32) → Int32 → Option (Int32 × (Nat → Int32) × Int32 × Int32)) =>
  q_br (q9 = 0) (
  J90 q8.1 q8.2) (
  q_lt (fun (j17 : Int32) =>
  q_bd (f_X11_writes q8.1 q8.2 j17) (fun q18 =>
  q_bd (f_X11_size q9) (fun q19 =>
  q_bd (f_X11_writesNumber q18.1 q18.2 q19) (fun q20 =>
  J90 q20.1 q20.2)))) (fun (J79 : Int32 → Option (Int32 × (Nat → Int32) × Int32 × Int32)) =>
  q_br (q9 ≤ 0) (
  J79 45) (
  J79 43))))))))))))))
theorem hv_X11_writeBell : yX11_writeBell.cls = RX11 ∧ yX11_writeBell.cls ≠ "java/lang/invoke/MethodHandle" ∧ yX11_writeBell.cls ≠ "java/lang/invoke/VarHandle" ∧ (parseMethodDescriptor yX11_writeBell.desc).map (fun d => d.parameters.length) = some 1 := by decide +kernel
abbrev rm_X11_writeBell : Room := { frames := 4, cells := 0, slots := 0, locals := 89 }
set_option maxHeartbeats 4000000 in
set_option maxRecDepth 100000 in
theorem k_X11_writeBell (l : Launch) (E : ET) (a : Nat → Nat) (o : Nat) (x : Model_t) (p1 : Int32) (res : Int32 × (Nat → Int32) × Int32 × Int32) (hF : f_X11_writeBell x.1.1 x.2.2.1.1 x.2.2.1.2.1 x.2.2.2.1 p1 = some res) (sz : Nat) : CtI l yX11_writeBell (mws yX11_writeBell cX11_writeBell 3 (some .int)) rm_X11_writeBell 0 0 [.ref (a o), .int p1] E (bl_Model E a o x) res.1 (bl_Model E a o ((x.1.1, x.1.2.1, x.1.2.2.1, x.1.2.2.2.1, x.1.2.2.2.2), (x.2.1.1, x.2.1.2.1, x.2.1.2.2.1, x.2.1.2.2.2.1, x.2.1.2.2.2.2), (res.2.1, res.2.2.1, x.2.2.1.2.2.1, x.2.2.1.2.2.2), (res.2.2.2, x.2.2.2.2.1, x.2.2.2.2.2.1, x.2.2.2.2.2.2))) sz := by
  refine mk_M (by decide +kernel) (Nat.le_of_ble_eq_true rfl) ?_
  intro p e s m below meth c A args Q ls hAe hsz hQ hx hb hr hml hin ha hown hlocks hA hz hzs hst hP hD hS hl
  have hown : s.vm.findClass RX11 = some m.cls := hown
  rw [hAe] at hQ
  subst hsz
  have hP : va_P E.1 vwCl (List.flatten [w_Model E a o x]) s.heap := hP
  have hD : va_D A (List.flatten [w_Model E a o x]) := hD
  have hl : lv_has ls 3 [(0, .ref (a o)), (1, .int p1)] := hl
  generalize hHe : s.heap = H at hP
  have hS : va_S A s.heap H [] := by rw [← hHe]; exact hS
  generalize ([] : List Loc) = locs at hS ⊢
  unfold f_X11_writeBell at hF
  refine lv_aload_n hx hb dX11_writeBell_0 rfl (lv_at hl 0 rfl) ?_
  refine lv_iload_n hx hb dX11_writeBell_1 rfl (lv_at hl 1 rfl) ?_
  obtain ⟨q1, hq1, hF⟩ := q_bdi hF
  refine cl_i (Lc := [w_Model E a o x]) (Lc' := [w_Model E a o x]) (L' := [w_Model E a o x]) (rv := q1) (va_runV (As := [.int p1]) (rest := []) ⟨hx, hb, hml, hown, ha⟩ (k_X11_isBell l E a o x p1 q1 hq1 H.size) (cwV 1 ha (gi_V (fun _ h => h) mw1736 mw1738 mw33 mw87 mw1739) rfl rfl rfl hv_X11_isBell ⟨(Nat.le_of_ble_eq_true rfl), (Nat.le_of_ble_eq_true rfl)⟩) ⟨pre_blind, va_recv hst.k (fr_P hP [0] rfl) (ci := 13) (q0 := 0) rfl rfl, pre_at hP hD hS hz hzs hst [0] (by decide) rfl rfl⟩ rfl rfl hl.1 rfl (lv_room (Nat.le_of_ble_eq_true rfl)) dX11_writeBell_2 ⟨(Nat.le_of_ble_eq_true rfl), (Nat.le_of_ble_eq_true rfl)⟩) hP hD hS hA [0] (by decide) rfl rfl rfl rfl (fun H locs hP hD hS => ?_)
  refine lv_if_ne (tgt := 14) hx hb dX11_writeBell_5 (by decide) (fun c5 => ?_) (fun c5 => ?_)
  · have hF := q_brn c5 hF
    refine lv_aload_n hx hb dX11_writeBell_14 rfl (lv_at hl 0 rfl) ?_
    refine lv_iconst (v := 0) hx hb dX11_writeBell_15 (by decide) ?_
    refine va_put (D := E.1) (ci := 13) (v := .int 0) (ty := .int) (C := RX11) (T := TX11) (N := 18) hx hb ha in_X11 tyX11 tyX11_ok nmX11 hown hst.k hP hD hS 0 rfl rfl 11 (by decide) (ha _ mw1647) (fun _ h9 => h9) rfl (tyX11_ok 11 (by decide)) rfl rfl (Nat.le_of_ble_eq_true rfl) dX11_writeBell_16 (fun H locs hP hD hS => ?_)
    have hP : va_P E.1 vwCl (List.flatten [w_Model E a o ((x.1.1, x.1.2.1, x.1.2.2.1, x.1.2.2.2.1, x.1.2.2.2.2), (x.2.1.1, x.2.1.2.1, x.2.1.2.2.1, x.2.1.2.2.2.1, x.2.1.2.2.2.2), (x.2.2.1.1, 0, x.2.2.1.2.2.1, x.2.2.1.2.2.2), (x.2.2.2.1, x.2.2.2.2.1, x.2.2.2.2.2.1, x.2.2.2.2.2.2))]) H := hP
    have hD : va_D A (List.flatten [w_Model E a o ((x.1.1, x.1.2.1, x.1.2.2.1, x.1.2.2.2.1, x.1.2.2.2.2), (x.2.1.1, x.2.1.2.1, x.2.1.2.2.1, x.2.1.2.2.2.1, x.2.1.2.2.2.2), (x.2.2.1.1, 0, x.2.2.1.2.2.1, x.2.2.1.2.2.2), (x.2.2.2.1, x.2.2.2.2.1, x.2.2.2.2.2.1, x.2.2.2.2.2.2))]) := hD
    refine lv_aload_n hx hb dX11_writeBell_19 rfl (lv_at hl 0 rfl) ?_
    refine lv_iload_n hx hb dX11_writeBell_20 rfl (lv_at hl 1 rfl) ?_
    obtain ⟨q2, hq2, hF⟩ := q_bdi hF
    refine cl_v (Lc := [w_Model E a o ((x.1.1, x.1.2.1, x.1.2.2.1, x.1.2.2.2.1, x.1.2.2.2.2), (x.2.1.1, x.2.1.2.1, x.2.1.2.2.1, x.2.1.2.2.2.1, x.2.1.2.2.2.2), (x.2.2.1.1, 0, x.2.2.1.2.2.1, x.2.2.1.2.2.2), (x.2.2.2.1, x.2.2.2.2.1, x.2.2.2.2.2.1, x.2.2.2.2.2.2))]) (Lc' := [w_Model E a o ((x.1.1, x.1.2.1, x.1.2.2.1, x.1.2.2.2.1, x.1.2.2.2.2), (x.2.1.1, x.2.1.2.1, x.2.1.2.2.1, x.2.1.2.2.2.1, x.2.1.2.2.2.2), (q2.1, q2.2, x.2.2.1.2.2.1, x.2.2.1.2.2.2), (x.2.2.2.1, x.2.2.2.2.1, x.2.2.2.2.2.1, x.2.2.2.2.2.2))]) (L' := [w_Model E a o ((x.1.1, x.1.2.1, x.1.2.2.1, x.1.2.2.2.1, x.1.2.2.2.2), (x.2.1.1, x.2.1.2.1, x.2.1.2.2.1, x.2.1.2.2.2.1, x.2.1.2.2.2.2), (q2.1, q2.2, x.2.2.1.2.2.1, x.2.2.1.2.2.2), (x.2.2.2.1, x.2.2.2.2.1, x.2.2.2.2.2.1, x.2.2.2.2.2.2))]) (va_runV (As := [.int p1]) (rest := []) ⟨hx, hb, hml, hown, ha⟩ (k_X11_writesNumber l E a o ((x.1.1, x.1.2.1, x.1.2.2.1, x.1.2.2.2.1, x.1.2.2.2.2), (x.2.1.1, x.2.1.2.1, x.2.1.2.2.1, x.2.1.2.2.2.1, x.2.1.2.2.2.2), (x.2.2.1.1, 0, x.2.2.1.2.2.1, x.2.2.1.2.2.2), (x.2.2.2.1, x.2.2.2.2.1, x.2.2.2.2.2.1, x.2.2.2.2.2.2)) p1 q2 hq2 H.size) (cwV 1 ha (gi_V (fun _ h => h) mw2090 mw2092 mw70 mw87 mw2093) rfl rfl rfl hv_X11_writesNumber ⟨(Nat.le_of_ble_eq_true rfl), (Nat.le_of_ble_eq_true rfl)⟩) ⟨pre_blind, va_recv hst.k (fr_P hP [0] rfl) (ci := 13) (q0 := 0) rfl rfl, pre_at hP hD hS hz hzs hst [0] (by decide) rfl rfl⟩ rfl rfl hl.1 rfl (lv_room (Nat.le_of_ble_eq_true rfl)) dX11_writeBell_21 ⟨(Nat.le_of_ble_eq_true rfl), (Nat.le_of_ble_eq_true rfl)⟩) hP hD hS hA [0] (by decide) rfl rfl rfl rfl (fun H locs hP hD hS => ?_)
    refine lv_aload_n hx hb dX11_writeBell_24 rfl (lv_at hl 0 rfl) ?_
    refine lv_bipush (v := 104) hx hb dX11_writeBell_25 (by decide) ?_
    obtain ⟨q3, hq3, hF⟩ := q_bdi hF
    refine cl_v (Lc := [w_Model E a o ((x.1.1, x.1.2.1, x.1.2.2.1, x.1.2.2.2.1, x.1.2.2.2.2), (x.2.1.1, x.2.1.2.1, x.2.1.2.2.1, x.2.1.2.2.2.1, x.2.1.2.2.2.2), (q2.1, q2.2, x.2.2.1.2.2.1, x.2.2.1.2.2.2), (x.2.2.2.1, x.2.2.2.2.1, x.2.2.2.2.2.1, x.2.2.2.2.2.2))]) (Lc' := [w_Model E a o ((x.1.1, x.1.2.1, x.1.2.2.1, x.1.2.2.2.1, x.1.2.2.2.2), (x.2.1.1, x.2.1.2.1, x.2.1.2.2.1, x.2.1.2.2.2.1, x.2.1.2.2.2.2), (q3.1, q3.2, x.2.2.1.2.2.1, x.2.2.1.2.2.2), (x.2.2.2.1, x.2.2.2.2.1, x.2.2.2.2.2.1, x.2.2.2.2.2.2))]) (L' := [w_Model E a o ((x.1.1, x.1.2.1, x.1.2.2.1, x.1.2.2.2.1, x.1.2.2.2.2), (x.2.1.1, x.2.1.2.1, x.2.1.2.2.1, x.2.1.2.2.2.1, x.2.1.2.2.2.2), (q3.1, q3.2, x.2.2.1.2.2.1, x.2.2.1.2.2.2), (x.2.2.2.1, x.2.2.2.2.1, x.2.2.2.2.2.1, x.2.2.2.2.2.2))]) (va_runV (As := [.int 104]) (rest := []) ⟨hx, hb, hml, hown, ha⟩ (k_X11_writes l E a o ((x.1.1, x.1.2.1, x.1.2.2.1, x.1.2.2.2.1, x.1.2.2.2.2), (x.2.1.1, x.2.1.2.1, x.2.1.2.2.1, x.2.1.2.2.2.1, x.2.1.2.2.2.2), (q2.1, q2.2, x.2.2.1.2.2.1, x.2.2.1.2.2.2), (x.2.2.2.1, x.2.2.2.2.1, x.2.2.2.2.2.1, x.2.2.2.2.2.2)) 104 q3 hq3 H.size) (cwV 1 ha (gi_V (fun _ h => h) mw2094 mw2096 mw71 mw87 mw2097) rfl rfl rfl hv_X11_writes ⟨(Nat.le_of_ble_eq_true rfl), (Nat.le_of_ble_eq_true rfl)⟩) ⟨pre_blind, va_recv hst.k (fr_P hP [0] rfl) (ci := 13) (q0 := 0) rfl rfl, pre_at hP hD hS hz hzs hst [0] (by decide) rfl rfl⟩ rfl rfl hl.1 rfl (lv_room (Nat.le_of_ble_eq_true rfl)) dX11_writeBell_27 ⟨(Nat.le_of_ble_eq_true rfl), (Nat.le_of_ble_eq_true rfl)⟩) hP hD hS hA [0] (by decide) rfl rfl rfl rfl (fun H locs hP hD hS => ?_)
    refine lv_aload_n hx hb dX11_writeBell_30 rfl (lv_at hl 0 rfl) ?_
    refine lv_aload_n hx hb dX11_writeBell_31 rfl (lv_at hl 0 rfl) ?_
    refine va_get (D := E.1) (ci := 13) (v := .ref (a (o + 1))) (C := RX11) (T := TX11) (N := 18) hx hb ha in_X11 hown hst.k hP 0 rfl rfl 0 (by decide) (ha _ mw1636) (fun _ h9 => h9) rfl dX11_writeBell_32 ?_
    refine lv_iconst (v := 5) hx hb dX11_writeBell_35 (by decide) ?_
    refine lv_iload_n hx hb dX11_writeBell_36 rfl (lv_at hl 1 rfl) ?_
    refine lv_iadd hx hb dX11_writeBell_37 ?_
    obtain ⟨g4, hF⟩ := q_gdi hF
    refine vi_iald hx hb hst.k hP 1 0 rfl rfl (f := x.1.1) (k := (5 + p1).toNatClampNeg) rfl g4 dX11_writeBell_38 ?_
    obtain ⟨q5, hq5, hF⟩ := q_bdi hF
    refine cl_v (Lc := [w_Model E a o ((x.1.1, x.1.2.1, x.1.2.2.1, x.1.2.2.2.1, x.1.2.2.2.2), (x.2.1.1, x.2.1.2.1, x.2.1.2.2.1, x.2.1.2.2.2.1, x.2.1.2.2.2.2), (q3.1, q3.2, x.2.2.1.2.2.1, x.2.2.1.2.2.2), (x.2.2.2.1, x.2.2.2.2.1, x.2.2.2.2.2.1, x.2.2.2.2.2.2))]) (Lc' := [w_Model E a o ((x.1.1, x.1.2.1, x.1.2.2.1, x.1.2.2.2.1, x.1.2.2.2.2), (x.2.1.1, x.2.1.2.1, x.2.1.2.2.1, x.2.1.2.2.2.1, x.2.1.2.2.2.2), (q5.1, q5.2, x.2.2.1.2.2.1, x.2.2.1.2.2.2), (x.2.2.2.1, x.2.2.2.2.1, x.2.2.2.2.2.1, x.2.2.2.2.2.2))]) (L' := [w_Model E a o ((x.1.1, x.1.2.1, x.1.2.2.1, x.1.2.2.2.1, x.1.2.2.2.2), (x.2.1.1, x.2.1.2.1, x.2.1.2.2.1, x.2.1.2.2.2.1, x.2.1.2.2.2.2), (q5.1, q5.2, x.2.2.1.2.2.1, x.2.2.1.2.2.2), (x.2.2.2.1, x.2.2.2.2.1, x.2.2.2.2.2.1, x.2.2.2.2.2.2))]) (va_runV (As := [.int (x.1.1 ((5 + p1).toNatClampNeg))]) (rest := []) ⟨hx, hb, hml, hown, ha⟩ (k_X11_writesNumber l E a o ((x.1.1, x.1.2.1, x.1.2.2.1, x.1.2.2.2.1, x.1.2.2.2.2), (x.2.1.1, x.2.1.2.1, x.2.1.2.2.1, x.2.1.2.2.2.1, x.2.1.2.2.2.2), (q3.1, q3.2, x.2.2.1.2.2.1, x.2.2.1.2.2.2), (x.2.2.2.1, x.2.2.2.2.1, x.2.2.2.2.2.1, x.2.2.2.2.2.2)) (x.1.1 ((5 + p1).toNatClampNeg)) q5 hq5 H.size) (cwV 1 ha (gi_V (fun _ h => h) mw2090 mw2092 mw70 mw87 mw2093) rfl rfl rfl hv_X11_writesNumber ⟨(Nat.le_of_ble_eq_true rfl), (Nat.le_of_ble_eq_true rfl)⟩) ⟨pre_blind, va_recv hst.k (fr_P hP [0] rfl) (ci := 13) (q0 := 0) rfl rfl, pre_at hP hD hS hz hzs hst [0] (by decide) rfl rfl⟩ rfl rfl hl.1 rfl (lv_room (Nat.le_of_ble_eq_true rfl)) dX11_writeBell_39 ⟨(Nat.le_of_ble_eq_true rfl), (Nat.le_of_ble_eq_true rfl)⟩) hP hD hS hA [0] (by decide) rfl rfl rfl rfl (fun H locs hP hD hS => ?_)
    refine lv_aload_n hx hb dX11_writeBell_42 rfl (lv_at hl 0 rfl) ?_
    refine lv_bipush (v := 58) hx hb dX11_writeBell_43 (by decide) ?_
    obtain ⟨q6, hq6, hF⟩ := q_bdi hF
    refine cl_v (Lc := [w_Model E a o ((x.1.1, x.1.2.1, x.1.2.2.1, x.1.2.2.2.1, x.1.2.2.2.2), (x.2.1.1, x.2.1.2.1, x.2.1.2.2.1, x.2.1.2.2.2.1, x.2.1.2.2.2.2), (q5.1, q5.2, x.2.2.1.2.2.1, x.2.2.1.2.2.2), (x.2.2.2.1, x.2.2.2.2.1, x.2.2.2.2.2.1, x.2.2.2.2.2.2))]) (Lc' := [w_Model E a o ((x.1.1, x.1.2.1, x.1.2.2.1, x.1.2.2.2.1, x.1.2.2.2.2), (x.2.1.1, x.2.1.2.1, x.2.1.2.2.1, x.2.1.2.2.2.1, x.2.1.2.2.2.2), (q6.1, q6.2, x.2.2.1.2.2.1, x.2.2.1.2.2.2), (x.2.2.2.1, x.2.2.2.2.1, x.2.2.2.2.2.1, x.2.2.2.2.2.2))]) (L' := [w_Model E a o ((x.1.1, x.1.2.1, x.1.2.2.1, x.1.2.2.2.1, x.1.2.2.2.2), (x.2.1.1, x.2.1.2.1, x.2.1.2.2.1, x.2.1.2.2.2.1, x.2.1.2.2.2.2), (q6.1, q6.2, x.2.2.1.2.2.1, x.2.2.1.2.2.2), (x.2.2.2.1, x.2.2.2.2.1, x.2.2.2.2.2.1, x.2.2.2.2.2.2))]) (va_runV (As := [.int 58]) (rest := []) ⟨hx, hb, hml, hown, ha⟩ (k_X11_writes l E a o ((x.1.1, x.1.2.1, x.1.2.2.1, x.1.2.2.2.1, x.1.2.2.2.2), (x.2.1.1, x.2.1.2.1, x.2.1.2.2.1, x.2.1.2.2.2.1, x.2.1.2.2.2.2), (q5.1, q5.2, x.2.2.1.2.2.1, x.2.2.1.2.2.2), (x.2.2.2.1, x.2.2.2.2.1, x.2.2.2.2.2.1, x.2.2.2.2.2.2)) 58 q6 hq6 H.size) (cwV 1 ha (gi_V (fun _ h => h) mw2094 mw2096 mw71 mw87 mw2097) rfl rfl rfl hv_X11_writes ⟨(Nat.le_of_ble_eq_true rfl), (Nat.le_of_ble_eq_true rfl)⟩) ⟨pre_blind, va_recv hst.k (fr_P hP [0] rfl) (ci := 13) (q0 := 0) rfl rfl, pre_at hP hD hS hz hzs hst [0] (by decide) rfl rfl⟩ rfl rfl hl.1 rfl (lv_room (Nat.le_of_ble_eq_true rfl)) dX11_writeBell_45 ⟨(Nat.le_of_ble_eq_true rfl), (Nat.le_of_ble_eq_true rfl)⟩) hP hD hS hA [0] (by decide) rfl rfl rfl rfl (fun H locs hP hD hS => ?_)
    refine lv_aload_n hx hb dX11_writeBell_48 rfl (lv_at hl 0 rfl) ?_
    refine lv_aload_n hx hb dX11_writeBell_49 rfl (lv_at hl 0 rfl) ?_
    refine lv_iload_n hx hb dX11_writeBell_50 rfl (lv_at hl 1 rfl) ?_
    obtain ⟨q7, hq7, hF⟩ := q_bdi hF
    refine cl_i (Lc := [w_Model E a o ((x.1.1, x.1.2.1, x.1.2.2.1, x.1.2.2.2.1, x.1.2.2.2.2), (x.2.1.1, x.2.1.2.1, x.2.1.2.2.1, x.2.1.2.2.2.1, x.2.1.2.2.2.2), (q6.1, q6.2, x.2.2.1.2.2.1, x.2.2.1.2.2.2), (x.2.2.2.1, x.2.2.2.2.1, x.2.2.2.2.2.1, x.2.2.2.2.2.2))]) (Lc' := [w_Model E a o ((x.1.1, x.1.2.1, x.1.2.2.1, x.1.2.2.2.1, x.1.2.2.2.2), (x.2.1.1, x.2.1.2.1, x.2.1.2.2.1, x.2.1.2.2.2.1, x.2.1.2.2.2.2), (q6.1, q6.2, x.2.2.1.2.2.1, x.2.2.1.2.2.2), (x.2.2.2.1, x.2.2.2.2.1, x.2.2.2.2.2.1, x.2.2.2.2.2.2))]) (L' := [w_Model E a o ((x.1.1, x.1.2.1, x.1.2.2.1, x.1.2.2.2.1, x.1.2.2.2.2), (x.2.1.1, x.2.1.2.1, x.2.1.2.2.1, x.2.1.2.2.2.1, x.2.1.2.2.2.2), (q6.1, q6.2, x.2.2.1.2.2.1, x.2.2.1.2.2.2), (x.2.2.2.1, x.2.2.2.2.1, x.2.2.2.2.2.1, x.2.2.2.2.2.2))]) (rv := q7) (va_runV (As := [.int p1]) (rest := [.ref (a o)]) ⟨hx, hb, hml, hown, ha⟩ (k_X11_noteOf l E a o ((x.1.1, x.1.2.1, x.1.2.2.1, x.1.2.2.2.1, x.1.2.2.2.2), (x.2.1.1, x.2.1.2.1, x.2.1.2.2.1, x.2.1.2.2.2.1, x.2.1.2.2.2.2), (q6.1, q6.2, x.2.2.1.2.2.1, x.2.2.1.2.2.2), (x.2.2.2.1, x.2.2.2.2.1, x.2.2.2.2.2.1, x.2.2.2.2.2.2)) p1 q7 hq7 H.size) (cwV 1 ha (gi_V (fun _ h => h) mw1776 mw1778 mw40 mw87 mw1779) rfl rfl rfl hv_X11_noteOf ⟨(Nat.le_of_ble_eq_true rfl), (Nat.le_of_ble_eq_true rfl)⟩) ⟨pre_blind, va_recv hst.k (fr_P hP [0] rfl) (ci := 13) (q0 := 0) rfl rfl, pre_at hP hD hS hz hzs hst [0] (by decide) rfl rfl⟩ rfl rfl hl.1 rfl (lv_room (Nat.le_of_ble_eq_true rfl)) dX11_writeBell_51 ⟨(Nat.le_of_ble_eq_true rfl), (Nat.le_of_ble_eq_true rfl)⟩) hP hD hS hA [0] (by decide) rfl rfl rfl rfl (fun H locs hP hD hS => ?_)
    obtain ⟨q8, hq8, hF⟩ := q_bdi hF
    refine cl_v (Lc := [w_Model E a o ((x.1.1, x.1.2.1, x.1.2.2.1, x.1.2.2.2.1, x.1.2.2.2.2), (x.2.1.1, x.2.1.2.1, x.2.1.2.2.1, x.2.1.2.2.2.1, x.2.1.2.2.2.2), (q6.1, q6.2, x.2.2.1.2.2.1, x.2.2.1.2.2.2), (x.2.2.2.1, x.2.2.2.2.1, x.2.2.2.2.2.1, x.2.2.2.2.2.2))]) (Lc' := [w_Model E a o ((x.1.1, x.1.2.1, x.1.2.2.1, x.1.2.2.2.1, x.1.2.2.2.2), (x.2.1.1, x.2.1.2.1, x.2.1.2.2.1, x.2.1.2.2.2.1, x.2.1.2.2.2.2), (q8.1, q8.2, x.2.2.1.2.2.1, x.2.2.1.2.2.2), (x.2.2.2.1, x.2.2.2.2.1, x.2.2.2.2.2.1, x.2.2.2.2.2.2))]) (L' := [w_Model E a o ((x.1.1, x.1.2.1, x.1.2.2.1, x.1.2.2.2.1, x.1.2.2.2.2), (x.2.1.1, x.2.1.2.1, x.2.1.2.2.1, x.2.1.2.2.2.1, x.2.1.2.2.2.2), (q8.1, q8.2, x.2.2.1.2.2.1, x.2.2.1.2.2.2), (x.2.2.2.1, x.2.2.2.2.1, x.2.2.2.2.2.1, x.2.2.2.2.2.2))]) (va_runV (As := [.int q7]) (rest := []) ⟨hx, hb, hml, hown, ha⟩ (k_X11_writesNote l E a o ((x.1.1, x.1.2.1, x.1.2.2.1, x.1.2.2.2.1, x.1.2.2.2.2), (x.2.1.1, x.2.1.2.1, x.2.1.2.2.1, x.2.1.2.2.2.1, x.2.1.2.2.2.2), (q6.1, q6.2, x.2.2.1.2.2.1, x.2.2.1.2.2.2), (x.2.2.2.1, x.2.2.2.2.1, x.2.2.2.2.2.1, x.2.2.2.2.2.2)) q7 q8 hq8 H.size) (cwV 1 ha (gi_V (fun _ h => h) mw2098 mw2100 mw72 mw87 mw2101) rfl rfl rfl hv_X11_writesNote ⟨(Nat.le_of_ble_eq_true rfl), (Nat.le_of_ble_eq_true rfl)⟩) ⟨pre_blind, va_recv hst.k (fr_P hP [0] rfl) (ci := 13) (q0 := 0) rfl rfl, pre_at hP hD hS hz hzs hst [0] (by decide) rfl rfl⟩ rfl rfl hl.1 rfl (lv_room (Nat.le_of_ble_eq_true rfl)) dX11_writeBell_54 ⟨(Nat.le_of_ble_eq_true rfl), (Nat.le_of_ble_eq_true rfl)⟩) hP hD hS hA [0] (by decide) rfl rfl rfl rfl (fun H locs hP hD hS => ?_)
    refine lv_aload_n hx hb dX11_writeBell_57 rfl (lv_at hl 0 rfl) ?_
    refine lv_iload_n hx hb dX11_writeBell_58 rfl (lv_at hl 1 rfl) ?_
    obtain ⟨q9, hq9, hF⟩ := q_bdi hF
    refine cl_i (Lc := [w_Model E a o ((x.1.1, x.1.2.1, x.1.2.2.1, x.1.2.2.2.1, x.1.2.2.2.2), (x.2.1.1, x.2.1.2.1, x.2.1.2.2.1, x.2.1.2.2.2.1, x.2.1.2.2.2.2), (q8.1, q8.2, x.2.2.1.2.2.1, x.2.2.1.2.2.2), (x.2.2.2.1, x.2.2.2.2.1, x.2.2.2.2.2.1, x.2.2.2.2.2.2))]) (Lc' := [w_Model E a o ((x.1.1, x.1.2.1, x.1.2.2.1, x.1.2.2.2.1, x.1.2.2.2.2), (x.2.1.1, x.2.1.2.1, x.2.1.2.2.1, x.2.1.2.2.2.1, x.2.1.2.2.2.2), (q8.1, q8.2, x.2.2.1.2.2.1, x.2.2.1.2.2.2), (x.2.2.2.1, x.2.2.2.2.1, x.2.2.2.2.2.1, x.2.2.2.2.2.2))]) (L' := [w_Model E a o ((x.1.1, x.1.2.1, x.1.2.2.1, x.1.2.2.2.1, x.1.2.2.2.2), (x.2.1.1, x.2.1.2.1, x.2.1.2.2.1, x.2.1.2.2.2.1, x.2.1.2.2.2.2), (q8.1, q8.2, x.2.2.1.2.2.1, x.2.2.1.2.2.2), (x.2.2.2.1, x.2.2.2.2.1, x.2.2.2.2.2.1, x.2.2.2.2.2.2))]) (rv := q9) (va_runV (As := [.int p1]) (rest := []) ⟨hx, hb, hml, hown, ha⟩ (k_X11_deviationOf l E a o ((x.1.1, x.1.2.1, x.1.2.2.1, x.1.2.2.2.1, x.1.2.2.2.2), (x.2.1.1, x.2.1.2.1, x.2.1.2.2.1, x.2.1.2.2.2.1, x.2.1.2.2.2.2), (q8.1, q8.2, x.2.2.1.2.2.1, x.2.2.1.2.2.2), (x.2.2.2.1, x.2.2.2.2.1, x.2.2.2.2.2.1, x.2.2.2.2.2.2)) p1 q9 hq9 H.size) (cwV 1 ha (gi_V (fun _ h => h) mw1786 mw1788 mw41 mw87 mw1789) rfl rfl rfl hv_X11_deviationOf ⟨(Nat.le_of_ble_eq_true rfl), (Nat.le_of_ble_eq_true rfl)⟩) ⟨pre_blind, va_recv hst.k (fr_P hP [0] rfl) (ci := 13) (q0 := 0) rfl rfl, pre_at hP hD hS hz hzs hst [0] (by decide) rfl rfl⟩ rfl rfl hl.1 rfl (lv_room (Nat.le_of_ble_eq_true rfl)) dX11_writeBell_59 ⟨(Nat.le_of_ble_eq_true rfl), (Nat.le_of_ble_eq_true rfl)⟩) hP hD hS hA [0] (by decide) rfl rfl rfl rfl (fun H locs hP hD hS => ?_)
    refine lv_istore_n (lv' := [(2, .int q9), (0, .ref (a o)), (1, .int p1)]) hx hb dX11_writeBell_62 rfl hl (by decide) rfl (fun ls hl => ?_)
    refine lv_iload_n hx hb dX11_writeBell_63 rfl (lv_at hl 0 rfl) ?_
    obtain ⟨J90, hJ90, hF⟩ := q_jn hF
    have jJ90 : ∀ (j10 : (Nat → Int32)) (j11 : Int32), ∀ (H : Heap) (locs : List Loc) (ls : Array Slot), J90 j10 j11 = some res → va_P E.1 vwCl (List.flatten [w_Model E a o ((x.1.1, x.1.2.1, x.1.2.2.1, x.1.2.2.2.1, x.1.2.2.2.2), (x.2.1.1, x.2.1.2.1, x.2.1.2.2.1, x.2.1.2.2.2.1, x.2.1.2.2.2.2), (j10, j11, x.2.2.1.2.2.1, x.2.2.1.2.2.2), (x.2.2.2.1, x.2.2.2.2.1, x.2.2.2.2.2.1, x.2.2.2.2.2.2))]) H → va_D A (List.flatten [w_Model E a o ((x.1.1, x.1.2.1, x.1.2.2.1, x.1.2.2.2.1, x.1.2.2.2.2), (x.2.1.1, x.2.1.2.1, x.2.1.2.2.1, x.2.1.2.2.2.1, x.2.1.2.2.2.2), (j10, j11, x.2.2.1.2.2.1, x.2.2.1.2.2.2), (x.2.2.2.1, x.2.2.2.2.1, x.2.2.2.2.2.1, x.2.2.2.2.2.2))]) → va_S A s.heap H locs → lv_has ls 3 [(0, .ref (a o)), (1, .int p1)] → W p l e rm_X11_writeBell s m args below meth c H locs 0 0 Q (F0 m 90 ls []) := by
      intro j10 j11 H locs ls hF hP hD hS hl
      rw [hJ90] at hF
      refine lv_aload_n hx hb dX11_writeBell_90 rfl (lv_at hl 0 rfl) ?_
      refine lv_iload_n hx hb dX11_writeBell_91 rfl (lv_at hl 1 rfl) ?_
      obtain ⟨q12, hq12, hF⟩ := q_bdi hF
      refine cl_i (Lc := [w_Model E a o ((x.1.1, x.1.2.1, x.1.2.2.1, x.1.2.2.2.1, x.1.2.2.2.2), (x.2.1.1, x.2.1.2.1, x.2.1.2.2.1, x.2.1.2.2.2.1, x.2.1.2.2.2.2), (j10, j11, x.2.2.1.2.2.1, x.2.2.1.2.2.2), (x.2.2.2.1, x.2.2.2.2.1, x.2.2.2.2.2.1, x.2.2.2.2.2.2))]) (Lc' := [w_Model E a o ((x.1.1, x.1.2.1, x.1.2.2.1, x.1.2.2.2.1, x.1.2.2.2.2), (x.2.1.1, x.2.1.2.1, x.2.1.2.2.1, x.2.1.2.2.2.1, x.2.1.2.2.2.2), (j10, j11, x.2.2.1.2.2.1, x.2.2.1.2.2.2), (x.2.2.2.1, x.2.2.2.2.1, x.2.2.2.2.2.1, x.2.2.2.2.2.2))]) (L' := [w_Model E a o ((x.1.1, x.1.2.1, x.1.2.2.1, x.1.2.2.2.1, x.1.2.2.2.2), (x.2.1.1, x.2.1.2.1, x.2.1.2.2.1, x.2.1.2.2.2.1, x.2.1.2.2.2.2), (j10, j11, x.2.2.1.2.2.1, x.2.2.1.2.2.2), (x.2.2.2.1, x.2.2.2.2.1, x.2.2.2.2.2.1, x.2.2.2.2.2.2))]) (rv := q12) (va_runV (As := [.int p1]) (rest := []) ⟨hx, hb, hml, hown, ha⟩ (k_X11_isKeyed l E a o ((x.1.1, x.1.2.1, x.1.2.2.1, x.1.2.2.2.1, x.1.2.2.2.2), (x.2.1.1, x.2.1.2.1, x.2.1.2.2.1, x.2.1.2.2.2.1, x.2.1.2.2.2.2), (j10, j11, x.2.2.1.2.2.1, x.2.2.1.2.2.2), (x.2.2.2.1, x.2.2.2.2.1, x.2.2.2.2.2.1, x.2.2.2.2.2.2)) p1 q12 hq12 H.size) (cwV 1 ha (gi_V (fun _ h => h) mw1768 mw1770 mw38 mw87 mw1771) rfl rfl rfl hv_X11_isKeyed ⟨(Nat.le_of_ble_eq_true rfl), (Nat.le_of_ble_eq_true rfl)⟩) ⟨pre_blind, va_recv hst.k (fr_P hP [0] rfl) (ci := 13) (q0 := 0) rfl rfl, pre_at hP hD hS hz hzs hst [0] (by decide) rfl rfl⟩ rfl rfl hl.1 rfl (lv_room (Nat.le_of_ble_eq_true rfl)) dX11_writeBell_92 ⟨(Nat.le_of_ble_eq_true rfl), (Nat.le_of_ble_eq_true rfl)⟩) hP hD hS hA [0] (by decide) rfl rfl rfl rfl (fun H locs hP hD hS => ?_)
      obtain ⟨J104, hJ104, hF⟩ := q_jn hF
      have jJ104 : ∀ (j13 : (Nat → Int32)) (j14 : Int32), ∀ (H : Heap) (locs : List Loc) (ls : Array Slot), J104 j13 j14 = some res → va_P E.1 vwCl (List.flatten [w_Model E a o ((x.1.1, x.1.2.1, x.1.2.2.1, x.1.2.2.2.1, x.1.2.2.2.2), (x.2.1.1, x.2.1.2.1, x.2.1.2.2.1, x.2.1.2.2.2.1, x.2.1.2.2.2.2), (j13, j14, x.2.2.1.2.2.1, x.2.2.1.2.2.2), (x.2.2.2.1, x.2.2.2.2.1, x.2.2.2.2.2.1, x.2.2.2.2.2.2))]) H → va_D A (List.flatten [w_Model E a o ((x.1.1, x.1.2.1, x.1.2.2.1, x.1.2.2.2.1, x.1.2.2.2.2), (x.2.1.1, x.2.1.2.1, x.2.1.2.2.1, x.2.1.2.2.2.1, x.2.1.2.2.2.2), (j13, j14, x.2.2.1.2.2.1, x.2.2.1.2.2.2), (x.2.2.2.1, x.2.2.2.2.1, x.2.2.2.2.2.1, x.2.2.2.2.2.2))]) → va_S A s.heap H locs → lv_has ls 3 [(0, .ref (a o))] → W p l e rm_X11_writeBell s m args below meth c H locs 0 0 Q (F0 m 104 ls []) := by
        intro j13 j14 H locs ls hF hP hD hS hl
        rw [hJ104] at hF
        refine lv_aload_n hx hb dX11_writeBell_104 rfl (lv_at hl 0 rfl) ?_
        refine lv_aload_n hx hb dX11_writeBell_105 rfl (lv_at hl 0 rfl) ?_
        refine va_get (D := E.1) (ci := 13) (v := .int j14) (C := RX11) (T := TX11) (N := 18) hx hb ha in_X11 hown hst.k hP 0 rfl rfl 11 (by decide) (ha _ mw1647) (fun _ h9 => h9) rfl dX11_writeBell_106 ?_
        obtain ⟨q15, hq15, hF⟩ := q_bdi hF
        refine cl_i (Lc := [w_Model E a o ((x.1.1, x.1.2.1, x.1.2.2.1, x.1.2.2.2.1, x.1.2.2.2.2), (x.2.1.1, x.2.1.2.1, x.2.1.2.2.1, x.2.1.2.2.2.1, x.2.1.2.2.2.2), (j13, j14, x.2.2.1.2.2.1, x.2.2.1.2.2.2), (x.2.2.2.1, x.2.2.2.2.1, x.2.2.2.2.2.1, x.2.2.2.2.2.2))]) (Lc' := [w_Model E a o ((x.1.1, x.1.2.1, x.1.2.2.1, x.1.2.2.2.1, x.1.2.2.2.2), (x.2.1.1, x.2.1.2.1, x.2.1.2.2.1, x.2.1.2.2.2.1, x.2.1.2.2.2.2), (j13, j14, x.2.2.1.2.2.1, x.2.2.1.2.2.2), (q15.2, x.2.2.2.2.1, x.2.2.2.2.2.1, x.2.2.2.2.2.2))]) (L' := [w_Model E a o ((x.1.1, x.1.2.1, x.1.2.2.1, x.1.2.2.2.1, x.1.2.2.2.2), (x.2.1.1, x.2.1.2.1, x.2.1.2.2.1, x.2.1.2.2.2.1, x.2.1.2.2.2.2), (j13, j14, x.2.2.1.2.2.1, x.2.2.1.2.2.2), (q15.2, x.2.2.2.2.1, x.2.2.2.2.2.1, x.2.2.2.2.2.2))]) (rv := q15.1) (va_runV (As := [.int j14]) (rest := []) ⟨hx, hb, hml, hown, ha⟩ (k_X11_done l E a o ((x.1.1, x.1.2.1, x.1.2.2.1, x.1.2.2.2.1, x.1.2.2.2.2), (x.2.1.1, x.2.1.2.1, x.2.1.2.2.1, x.2.1.2.2.2.1, x.2.1.2.2.2.2), (j13, j14, x.2.2.1.2.2.1, x.2.2.1.2.2.2), (x.2.2.2.1, x.2.2.2.2.1, x.2.2.2.2.2.1, x.2.2.2.2.2.2)) j14 q15 hq15 H.size) (cwV 1 ha (gi_V (fun _ h => h) mw1720 mw1722 mw30 mw87 mw1723) rfl rfl rfl hv_X11_done ⟨(Nat.le_of_ble_eq_true rfl), (Nat.le_of_ble_eq_true rfl)⟩) ⟨pre_blind, va_recv hst.k (fr_P hP [0] rfl) (ci := 13) (q0 := 0) rfl rfl, pre_at hP hD hS hz hzs hst [0] (by decide) rfl rfl⟩ rfl rfl hl.1 rfl (lv_room (Nat.le_of_ble_eq_true rfl)) dX11_writeBell_109 ⟨(Nat.le_of_ble_eq_true rfl), (Nat.le_of_ble_eq_true rfl)⟩) hP hD hS hA [0] (by decide) rfl rfl rfl rfl (fun H locs hP hD hS => ?_)
        obtain rfl := Option.some.inj hF
        exact en_i hQ (Nat.le_of_ble_eq_true rfl) (Nat.le_of_ble_eq_true rfl) hx hb hr hlocks hP hD hS rfl dX11_writeBell_112
      refine lv_if_ne (tgt := 104) hx hb dX11_writeBell_95 (by decide) (fun c95 => ?_) (fun c95 => ?_)
      · have hF := q_brn c95 hF
        exact jJ104 j10 j11 H locs ls hF hP hD hS (lv_sub hl [0] rfl)
      · have hF := q_brp c95 hF
        refine lv_aload_n hx hb dX11_writeBell_98 rfl (lv_at hl 0 rfl) ?_
        refine lv_bipush (v := 33) hx hb dX11_writeBell_99 (by decide) ?_
        obtain ⟨q16, hq16, hF⟩ := q_bdi hF
        refine cl_v (Lc := [w_Model E a o ((x.1.1, x.1.2.1, x.1.2.2.1, x.1.2.2.2.1, x.1.2.2.2.2), (x.2.1.1, x.2.1.2.1, x.2.1.2.2.1, x.2.1.2.2.2.1, x.2.1.2.2.2.2), (j10, j11, x.2.2.1.2.2.1, x.2.2.1.2.2.2), (x.2.2.2.1, x.2.2.2.2.1, x.2.2.2.2.2.1, x.2.2.2.2.2.2))]) (Lc' := [w_Model E a o ((x.1.1, x.1.2.1, x.1.2.2.1, x.1.2.2.2.1, x.1.2.2.2.2), (x.2.1.1, x.2.1.2.1, x.2.1.2.2.1, x.2.1.2.2.2.1, x.2.1.2.2.2.2), (q16.1, q16.2, x.2.2.1.2.2.1, x.2.2.1.2.2.2), (x.2.2.2.1, x.2.2.2.2.1, x.2.2.2.2.2.1, x.2.2.2.2.2.2))]) (L' := [w_Model E a o ((x.1.1, x.1.2.1, x.1.2.2.1, x.1.2.2.2.1, x.1.2.2.2.2), (x.2.1.1, x.2.1.2.1, x.2.1.2.2.1, x.2.1.2.2.2.1, x.2.1.2.2.2.2), (q16.1, q16.2, x.2.2.1.2.2.1, x.2.2.1.2.2.2), (x.2.2.2.1, x.2.2.2.2.1, x.2.2.2.2.2.1, x.2.2.2.2.2.2))]) (va_runV (As := [.int 33]) (rest := []) ⟨hx, hb, hml, hown, ha⟩ (k_X11_writes l E a o ((x.1.1, x.1.2.1, x.1.2.2.1, x.1.2.2.2.1, x.1.2.2.2.2), (x.2.1.1, x.2.1.2.1, x.2.1.2.2.1, x.2.1.2.2.2.1, x.2.1.2.2.2.2), (j10, j11, x.2.2.1.2.2.1, x.2.2.1.2.2.2), (x.2.2.2.1, x.2.2.2.2.1, x.2.2.2.2.2.1, x.2.2.2.2.2.2)) 33 q16 hq16 H.size) (cwV 1 ha (gi_V (fun _ h => h) mw2094 mw2096 mw71 mw87 mw2097) rfl rfl rfl hv_X11_writes ⟨(Nat.le_of_ble_eq_true rfl), (Nat.le_of_ble_eq_true rfl)⟩) ⟨pre_blind, va_recv hst.k (fr_P hP [0] rfl) (ci := 13) (q0 := 0) rfl rfl, pre_at hP hD hS hz hzs hst [0] (by decide) rfl rfl⟩ rfl rfl hl.1 rfl (lv_room (Nat.le_of_ble_eq_true rfl)) dX11_writeBell_101 ⟨(Nat.le_of_ble_eq_true rfl), (Nat.le_of_ble_eq_true rfl)⟩) hP hD hS hA [0] (by decide) rfl rfl rfl rfl (fun H locs hP hD hS => ?_)
        exact jJ104 q16.1 q16.2 H locs ls hF hP hD hS (lv_sub hl [0] rfl)
    refine lv_if_eq (tgt := 90) hx hb dX11_writeBell_64 (by decide) (fun c64 => ?_) (fun c64 => ?_)
    · have hF := q_brp c64 hF
      exact jJ90 q8.1 q8.2 H locs ls hF hP hD hS (lv_sub hl [1, 2] rfl)
    · have hF := q_brn c64 hF
      refine lv_aload_n hx hb dX11_writeBell_67 rfl (lv_at hl 1 rfl) ?_
      refine lv_iload_n hx hb dX11_writeBell_68 rfl (lv_at hl 0 rfl) ?_
      obtain ⟨J79, hJ79, hF⟩ := q_jn hF
      have jJ79 : ∀ (j17 : Int32), ∀ (H : Heap) (locs : List Loc) (ls : Array Slot), J79 j17 = some res → va_P E.1 vwCl (List.flatten [w_Model E a o ((x.1.1, x.1.2.1, x.1.2.2.1, x.1.2.2.2.1, x.1.2.2.2.2), (x.2.1.1, x.2.1.2.1, x.2.1.2.2.1, x.2.1.2.2.2.1, x.2.1.2.2.2.2), (q8.1, q8.2, x.2.2.1.2.2.1, x.2.2.1.2.2.2), (x.2.2.2.1, x.2.2.2.2.1, x.2.2.2.2.2.1, x.2.2.2.2.2.2))]) H → va_D A (List.flatten [w_Model E a o ((x.1.1, x.1.2.1, x.1.2.2.1, x.1.2.2.2.1, x.1.2.2.2.2), (x.2.1.1, x.2.1.2.1, x.2.1.2.2.1, x.2.1.2.2.2.1, x.2.1.2.2.2.2), (q8.1, q8.2, x.2.2.1.2.2.1, x.2.2.1.2.2.2), (x.2.2.2.1, x.2.2.2.2.1, x.2.2.2.2.2.1, x.2.2.2.2.2.2))]) → va_S A s.heap H locs → lv_has ls 3 [(2, .int q9), (0, .ref (a o)), (1, .int p1)] → W p l e rm_X11_writeBell s m args below meth c H locs 0 0 Q (F0 m 79 ls [.int j17, .ref (a o)]) := by
        intro j17 H locs ls hF hP hD hS hl
        rw [hJ79] at hF
        obtain ⟨q18, hq18, hF⟩ := q_bdi hF
        refine cl_v (Lc := [w_Model E a o ((x.1.1, x.1.2.1, x.1.2.2.1, x.1.2.2.2.1, x.1.2.2.2.2), (x.2.1.1, x.2.1.2.1, x.2.1.2.2.1, x.2.1.2.2.2.1, x.2.1.2.2.2.2), (q8.1, q8.2, x.2.2.1.2.2.1, x.2.2.1.2.2.2), (x.2.2.2.1, x.2.2.2.2.1, x.2.2.2.2.2.1, x.2.2.2.2.2.2))]) (Lc' := [w_Model E a o ((x.1.1, x.1.2.1, x.1.2.2.1, x.1.2.2.2.1, x.1.2.2.2.2), (x.2.1.1, x.2.1.2.1, x.2.1.2.2.1, x.2.1.2.2.2.1, x.2.1.2.2.2.2), (q18.1, q18.2, x.2.2.1.2.2.1, x.2.2.1.2.2.2), (x.2.2.2.1, x.2.2.2.2.1, x.2.2.2.2.2.1, x.2.2.2.2.2.2))]) (L' := [w_Model E a o ((x.1.1, x.1.2.1, x.1.2.2.1, x.1.2.2.2.1, x.1.2.2.2.2), (x.2.1.1, x.2.1.2.1, x.2.1.2.2.1, x.2.1.2.2.2.1, x.2.1.2.2.2.2), (q18.1, q18.2, x.2.2.1.2.2.1, x.2.2.1.2.2.2), (x.2.2.2.1, x.2.2.2.2.1, x.2.2.2.2.2.1, x.2.2.2.2.2.2))]) (va_runV (As := [.int j17]) (rest := []) ⟨hx, hb, hml, hown, ha⟩ (k_X11_writes l E a o ((x.1.1, x.1.2.1, x.1.2.2.1, x.1.2.2.2.1, x.1.2.2.2.2), (x.2.1.1, x.2.1.2.1, x.2.1.2.2.1, x.2.1.2.2.2.1, x.2.1.2.2.2.2), (q8.1, q8.2, x.2.2.1.2.2.1, x.2.2.1.2.2.2), (x.2.2.2.1, x.2.2.2.2.1, x.2.2.2.2.2.1, x.2.2.2.2.2.2)) j17 q18 hq18 H.size) (cwV 1 ha (gi_V (fun _ h => h) mw2094 mw2096 mw71 mw87 mw2097) rfl rfl rfl hv_X11_writes ⟨(Nat.le_of_ble_eq_true rfl), (Nat.le_of_ble_eq_true rfl)⟩) ⟨pre_blind, va_recv hst.k (fr_P hP [0] rfl) (ci := 13) (q0 := 0) rfl rfl, pre_at hP hD hS hz hzs hst [0] (by decide) rfl rfl⟩ rfl rfl hl.1 rfl (lv_room (Nat.le_of_ble_eq_true rfl)) dX11_writeBell_79 ⟨(Nat.le_of_ble_eq_true rfl), (Nat.le_of_ble_eq_true rfl)⟩) hP hD hS hA [0] (by decide) rfl rfl rfl rfl (fun H locs hP hD hS => ?_)
        refine lv_aload_n hx hb dX11_writeBell_82 rfl (lv_at hl 1 rfl) ?_
        refine lv_iload_n hx hb dX11_writeBell_83 rfl (lv_at hl 0 rfl) ?_
        obtain ⟨q19, hq19, hF⟩ := q_bdi hF
        refine cl_i (Lc := []) (Lc' := []) (L' := [w_Model E a o ((x.1.1, x.1.2.1, x.1.2.2.1, x.1.2.2.2.1, x.1.2.2.2.2), (x.2.1.1, x.2.1.2.1, x.2.1.2.2.1, x.2.1.2.2.2.1, x.2.1.2.2.2.2), (q18.1, q18.2, x.2.2.1.2.2.1, x.2.2.1.2.2.2), (x.2.2.2.1, x.2.2.2.2.1, x.2.2.2.2.2.1, x.2.2.2.2.2.2))]) (rv := q19) (va_runS (As := [.int q9]) (rest := [.ref (a o)]) ⟨hx, hb, hml, hown, ha⟩ (k_X11_size l E q9 q19 hq19 H.size) (cwS 1 ha (gi_S (fun _ h => h) mw1790 mw1791 mw87 mw1792) rfl rfl rfl hv_X11_size ⟨(Nat.le_of_ble_eq_true rfl), (Nat.le_of_ble_eq_true rfl)⟩) ⟨pre_blind, pre_at hP hD hS hz hzs hst [] (by decide) rfl rfl⟩ rfl rfl hl.1 rfl (lv_room (Nat.le_of_ble_eq_true rfl)) dX11_writeBell_84 ⟨(Nat.le_of_ble_eq_true rfl), (Nat.le_of_ble_eq_true rfl)⟩) hP hD hS hA [] (by decide) rfl rfl rfl rfl (fun H locs hP hD hS => ?_)
        obtain ⟨q20, hq20, hF⟩ := q_bdi hF
        refine cl_v (Lc := [w_Model E a o ((x.1.1, x.1.2.1, x.1.2.2.1, x.1.2.2.2.1, x.1.2.2.2.2), (x.2.1.1, x.2.1.2.1, x.2.1.2.2.1, x.2.1.2.2.2.1, x.2.1.2.2.2.2), (q18.1, q18.2, x.2.2.1.2.2.1, x.2.2.1.2.2.2), (x.2.2.2.1, x.2.2.2.2.1, x.2.2.2.2.2.1, x.2.2.2.2.2.2))]) (Lc' := [w_Model E a o ((x.1.1, x.1.2.1, x.1.2.2.1, x.1.2.2.2.1, x.1.2.2.2.2), (x.2.1.1, x.2.1.2.1, x.2.1.2.2.1, x.2.1.2.2.2.1, x.2.1.2.2.2.2), (q20.1, q20.2, x.2.2.1.2.2.1, x.2.2.1.2.2.2), (x.2.2.2.1, x.2.2.2.2.1, x.2.2.2.2.2.1, x.2.2.2.2.2.2))]) (L' := [w_Model E a o ((x.1.1, x.1.2.1, x.1.2.2.1, x.1.2.2.2.1, x.1.2.2.2.2), (x.2.1.1, x.2.1.2.1, x.2.1.2.2.1, x.2.1.2.2.2.1, x.2.1.2.2.2.2), (q20.1, q20.2, x.2.2.1.2.2.1, x.2.2.1.2.2.2), (x.2.2.2.1, x.2.2.2.2.1, x.2.2.2.2.2.1, x.2.2.2.2.2.2))]) (va_runV (As := [.int q19]) (rest := []) ⟨hx, hb, hml, hown, ha⟩ (k_X11_writesNumber l E a o ((x.1.1, x.1.2.1, x.1.2.2.1, x.1.2.2.2.1, x.1.2.2.2.2), (x.2.1.1, x.2.1.2.1, x.2.1.2.2.1, x.2.1.2.2.2.1, x.2.1.2.2.2.2), (q18.1, q18.2, x.2.2.1.2.2.1, x.2.2.1.2.2.2), (x.2.2.2.1, x.2.2.2.2.1, x.2.2.2.2.2.1, x.2.2.2.2.2.2)) q19 q20 hq20 H.size) (cwV 1 ha (gi_V (fun _ h => h) mw2090 mw2092 mw70 mw87 mw2093) rfl rfl rfl hv_X11_writesNumber ⟨(Nat.le_of_ble_eq_true rfl), (Nat.le_of_ble_eq_true rfl)⟩) ⟨pre_blind, va_recv hst.k (fr_P hP [0] rfl) (ci := 13) (q0 := 0) rfl rfl, pre_at hP hD hS hz hzs hst [0] (by decide) rfl rfl⟩ rfl rfl hl.1 rfl (lv_room (Nat.le_of_ble_eq_true rfl)) dX11_writeBell_87 ⟨(Nat.le_of_ble_eq_true rfl), (Nat.le_of_ble_eq_true rfl)⟩) hP hD hS hA [0] (by decide) rfl rfl rfl rfl (fun H locs hP hD hS => ?_)
        exact jJ90 q20.1 q20.2 H locs ls hF hP hD hS (lv_sub hl [1, 2] rfl)
      refine lv_if_le (tgt := 77) hx hb dX11_writeBell_69 (by decide) (fun c69 => ?_) (fun c69 => ?_)
      · have hF := q_brp c69 hF
        refine lv_bipush (v := 45) hx hb dX11_writeBell_77 (by decide) ?_
        exact jJ79 45 H locs ls hF hP hD hS (lv_sub hl [0, 1, 2] rfl)
      · have hF := q_brn c69 hF
        refine lv_bipush (v := 43) hx hb dX11_writeBell_72 (by decide) ?_
        refine lv_goto (tgt := 79) hx hb dX11_writeBell_74 (by decide) ?_
        exact jJ79 43 H locs ls hF hP hD hS (lv_sub hl [0, 1, 2] rfl)
  · have hF := q_brp c5 hF
    refine lv_aload_n hx hb dX11_writeBell_8 rfl (lv_at hl 0 rfl) ?_
    refine lv_iconst (v := 1) hx hb dX11_writeBell_9 (by decide) ?_
    obtain ⟨q21, hq21, hF⟩ := q_bdi hF
    refine cl_i (Lc := [w_Model E a o x]) (Lc' := [w_Model E a o ((x.1.1, x.1.2.1, x.1.2.2.1, x.1.2.2.2.1, x.1.2.2.2.2), (x.2.1.1, x.2.1.2.1, x.2.1.2.2.1, x.2.1.2.2.2.1, x.2.1.2.2.2.2), (x.2.2.1.1, x.2.2.1.2.1, x.2.2.1.2.2.1, x.2.2.1.2.2.2), (q21.2, x.2.2.2.2.1, x.2.2.2.2.2.1, x.2.2.2.2.2.2))]) (L' := [w_Model E a o ((x.1.1, x.1.2.1, x.1.2.2.1, x.1.2.2.2.1, x.1.2.2.2.2), (x.2.1.1, x.2.1.2.1, x.2.1.2.2.1, x.2.1.2.2.2.1, x.2.1.2.2.2.2), (x.2.2.1.1, x.2.2.1.2.1, x.2.2.1.2.2.1, x.2.2.1.2.2.2), (q21.2, x.2.2.2.2.1, x.2.2.2.2.2.1, x.2.2.2.2.2.2))]) (rv := q21.1) (va_runV (As := [.int 1]) (rest := []) ⟨hx, hb, hml, hown, ha⟩ (k_X11_fails l E a o x 1 q21 hq21 H.size) (cwV 1 ha (gi_V (fun _ h => h) mw1716 mw1718 mw29 mw87 mw1719) rfl rfl rfl hv_X11_fails ⟨(Nat.le_of_ble_eq_true rfl), (Nat.le_of_ble_eq_true rfl)⟩) ⟨pre_blind, va_recv hst.k (fr_P hP [0] rfl) (ci := 13) (q0 := 0) rfl rfl, pre_at hP hD hS hz hzs hst [0] (by decide) rfl rfl⟩ rfl rfl hl.1 rfl (lv_room (Nat.le_of_ble_eq_true rfl)) dX11_writeBell_10 ⟨(Nat.le_of_ble_eq_true rfl), (Nat.le_of_ble_eq_true rfl)⟩) hP hD hS hA [0] (by decide) rfl rfl rfl rfl (fun H locs hP hD hS => ?_)
    obtain rfl := Option.some.inj hF
    exact en_i hQ (Nat.le_of_ble_eq_true rfl) (Nat.le_of_ble_eq_true rfl) hx hb hr hlocks hP hD hS rfl dX11_writeBell_13

/-! X11_writeChord -/
theorem dX11_writeChord_0 : decode cX11_writeChord 0 = .ok (.aload_n 0, 1) := by decide +kernel
theorem dX11_writeChord_1 : decode cX11_writeChord 1 = .ok (.iload_n 1, 1) := by decide +kernel
theorem dX11_writeChord_2 : decode cX11_writeChord 2 = .ok (.invokevirtual 168, 3) := by decide +kernel
theorem dX11_writeChord_5 : decode cX11_writeChord 5 = .ok (.aload_n 0, 1) := by decide +kernel
theorem dX11_writeChord_6 : decode cX11_writeChord 6 = .ok (.iconst 0, 1) := by decide +kernel
theorem dX11_writeChord_7 : decode cX11_writeChord 7 = .ok (.putfield 229, 3) := by decide +kernel
theorem dX11_writeChord_10 : decode cX11_writeChord 10 = .ok (.iconst 0, 1) := by decide +kernel
theorem dX11_writeChord_11 : decode cX11_writeChord 11 = .ok (.istore_n 2, 1) := by decide +kernel
theorem dX11_writeChord_12 : decode cX11_writeChord 12 = .ok (.iload_n 2, 1) := by decide +kernel
theorem dX11_writeChord_13 : decode cX11_writeChord 13 = .ok (.aload_n 0, 1) := by decide +kernel
theorem dX11_writeChord_14 : decode cX11_writeChord 14 = .ok (.getfield 157, 3) := by decide +kernel
theorem dX11_writeChord_17 : decode cX11_writeChord 17 = .ok (.if_icmp .ge 29, 3) := by decide +kernel
theorem dX11_writeChord_20 : decode cX11_writeChord 20 = .ok (.iload_n 2, 1) := by decide +kernel
theorem dX11_writeChord_21 : decode cX11_writeChord 21 = .ok (.ifCond .le 9, 3) := by decide +kernel
theorem dX11_writeChord_24 : decode cX11_writeChord 24 = .ok (.aload_n 0, 1) := by decide +kernel
theorem dX11_writeChord_25 : decode cX11_writeChord 25 = .ok (.bipush 32, 2) := by decide +kernel
theorem dX11_writeChord_27 : decode cX11_writeChord 27 = .ok (.invokevirtual 232, 3) := by decide +kernel
theorem dX11_writeChord_30 : decode cX11_writeChord 30 = .ok (.aload_n 0, 1) := by decide +kernel
theorem dX11_writeChord_31 : decode cX11_writeChord 31 = .ok (.aload_n 0, 1) := by decide +kernel
theorem dX11_writeChord_32 : decode cX11_writeChord 32 = .ok (.getfield 36, 3) := by decide +kernel
theorem dX11_writeChord_35 : decode cX11_writeChord 35 = .ok (.iload_n 2, 1) := by decide +kernel
theorem dX11_writeChord_36 : decode cX11_writeChord 36 = .ok (.iaload, 1) := by decide +kernel
theorem dX11_writeChord_37 : decode cX11_writeChord 37 = .ok (.invokevirtual 235, 3) := by decide +kernel
theorem dX11_writeChord_40 : decode cX11_writeChord 40 = .ok (.iinc 2 1, 3) := by decide +kernel
theorem dX11_writeChord_43 : decode cX11_writeChord 43 = .ok (.goto (-31), 3) := by decide +kernel
theorem dX11_writeChord_46 : decode cX11_writeChord 46 = .ok (.aload_n 0, 1) := by decide +kernel
theorem dX11_writeChord_47 : decode cX11_writeChord 47 = .ok (.aload_n 0, 1) := by decide +kernel
theorem dX11_writeChord_48 : decode cX11_writeChord 48 = .ok (.getfield 229, 3) := by decide +kernel
theorem dX11_writeChord_51 : decode cX11_writeChord 51 = .ok (.invokevirtual 83, 3) := by decide +kernel
theorem dX11_writeChord_54 : decode cX11_writeChord 54 = .ok (.ireturn, 1) := by decide +kernel
def f_X11_writeChord_L12 (q1 : (Nat → Int32) × Int32) (K12 : (Nat → Int32) → Int32 → Option (Int32 × (Nat → Int32) × Int32 × (Nat → Int32) × Int32 × Int32)) : Nat → Int32 → (Nat → Int32) → Int32 → Option (Int32 × (Nat → Int32) × Int32 × (Nat → Int32) × Int32 × Int32)
  | 0, _, _, _ => none
  | n12 + 1, i2, i3, i4 =>
    q_br (q1.2 ≤ i2) (
  K12 i3 i4) (
  q_lt (fun (j7 : (Nat → Int32)) (j8 : Int32) =>
  q_gd (q_in i2 24) (
  q_bd (f_X11_writesNumber j7 j8 (q1.1 (i2.toNatClampNeg))) (fun q10 =>
  q_lt (i2 + 1 : Int32) (fun v11 =>
  f_X11_writeChord_L12 q1 K12 n12 v11 q10.1 q10.2)))) (fun (J30 : (Nat → Int32) → Int32 → Option (Int32 × (Nat → Int32) × Int32 × (Nat → Int32) × Int32 × Int32)) =>
  q_br (i2 ≤ 0) (
  J30 i3 i4) (
  q_bd (f_X11_writes i3 i4 32) (fun q12 =>
  J30 q12.1 q12.2))))
def f_X11_writeChord (x_g : (Nat → Int32)) (x_letters : (Nat → Int32)) (x_lineLength : Int32) (x_notes : (Nat → Int32)) (x_noteCount : Int32) (x_thrown : Int32) (p1 : Int32) : Option (Int32 × (Nat → Int32) × Int32 × (Nat → Int32) × Int32 × Int32) :=
  q_bd (f_X11_listens x_g x_notes x_noteCount p1) (fun q1 =>
  f_X11_writeChord_L12 q1 (fun y5 y6 =>
  q_bd (f_X11_done x_thrown y6) (fun q13 =>
  some (q13.1, y5, y6, q1.1, q1.2, q13.2))) 2000 0 x_letters 0)
theorem hv_X11_writeChord : yX11_writeChord.cls = RX11 ∧ yX11_writeChord.cls ≠ "java/lang/invoke/MethodHandle" ∧ yX11_writeChord.cls ≠ "java/lang/invoke/VarHandle" ∧ (parseMethodDescriptor yX11_writeChord.desc).map (fun d => d.parameters.length) = some 1 := by decide +kernel
abbrev rm_X11_writeChord : Room := { frames := 3, cells := 0, slots := 0, locals := 68 }
set_option maxHeartbeats 4000000 in
set_option maxRecDepth 100000 in
theorem k_X11_writeChord (l : Launch) (E : ET) (a : Nat → Nat) (o : Nat) (x : Model_t) (p1 : Int32) (res : Int32 × (Nat → Int32) × Int32 × (Nat → Int32) × Int32 × Int32) (hF : f_X11_writeChord x.1.1 x.2.2.1.1 x.2.2.1.2.1 x.2.2.1.2.2.1 x.2.2.1.2.2.2 x.2.2.2.1 p1 = some res) (sz : Nat) : CtI l yX11_writeChord (mws yX11_writeChord cX11_writeChord 3 (some .int)) rm_X11_writeChord 0 0 [.ref (a o), .int p1] E (bl_Model E a o x) res.1 (bl_Model E a o ((x.1.1, x.1.2.1, x.1.2.2.1, x.1.2.2.2.1, x.1.2.2.2.2), (x.2.1.1, x.2.1.2.1, x.2.1.2.2.1, x.2.1.2.2.2.1, x.2.1.2.2.2.2), (res.2.1, res.2.2.1, res.2.2.2.1, res.2.2.2.2.1), (res.2.2.2.2.2, x.2.2.2.2.1, x.2.2.2.2.2.1, x.2.2.2.2.2.2))) sz := by
  refine mk_M (by decide +kernel) (Nat.le_of_ble_eq_true rfl) ?_
  intro p e s m below meth c A args Q ls hAe hsz hQ hx hb hr hml hin ha hown hlocks hA hz hzs hst hP hD hS hl
  have hown : s.vm.findClass RX11 = some m.cls := hown
  rw [hAe] at hQ
  subst hsz
  have hP : va_P E.1 vwCl (List.flatten [w_Model E a o x]) s.heap := hP
  have hD : va_D A (List.flatten [w_Model E a o x]) := hD
  have hl : lv_has ls 3 [(0, .ref (a o)), (1, .int p1)] := hl
  generalize hHe : s.heap = H at hP
  have hS : va_S A s.heap H [] := by rw [← hHe]; exact hS
  generalize ([] : List Loc) = locs at hS ⊢
  unfold f_X11_writeChord at hF
  refine lv_aload_n hx hb dX11_writeChord_0 rfl (lv_at hl 0 rfl) ?_
  refine lv_iload_n hx hb dX11_writeChord_1 rfl (lv_at hl 1 rfl) ?_
  obtain ⟨q1, hq1, hF⟩ := q_bdi hF
  refine cl_v (Lc := [w_Model E a o x]) (Lc' := [w_Model E a o ((x.1.1, x.1.2.1, x.1.2.2.1, x.1.2.2.2.1, x.1.2.2.2.2), (x.2.1.1, x.2.1.2.1, x.2.1.2.2.1, x.2.1.2.2.2.1, x.2.1.2.2.2.2), (x.2.2.1.1, x.2.2.1.2.1, q1.1, q1.2), (x.2.2.2.1, x.2.2.2.2.1, x.2.2.2.2.2.1, x.2.2.2.2.2.2))]) (L' := [w_Model E a o ((x.1.1, x.1.2.1, x.1.2.2.1, x.1.2.2.2.1, x.1.2.2.2.2), (x.2.1.1, x.2.1.2.1, x.2.1.2.2.1, x.2.1.2.2.2.1, x.2.1.2.2.2.2), (x.2.2.1.1, x.2.2.1.2.1, q1.1, q1.2), (x.2.2.2.1, x.2.2.2.2.1, x.2.2.2.2.2.1, x.2.2.2.2.2.2))]) (va_runV (As := [.int p1]) (rest := []) ⟨hx, hb, hml, hown, ha⟩ (k_X11_listens l E a o x p1 q1 hq1 H.size) (cwV 1 ha (gi_V (fun _ h => h) mw1970 mw1972 mw54 mw87 mw1973) rfl rfl rfl hv_X11_listens ⟨(Nat.le_of_ble_eq_true rfl), (Nat.le_of_ble_eq_true rfl)⟩) ⟨pre_blind, va_recv hst.k (fr_P hP [0] rfl) (ci := 13) (q0 := 0) rfl rfl, pre_at hP hD hS hz hzs hst [0] (by decide) rfl rfl⟩ rfl rfl hl.1 rfl (lv_room (Nat.le_of_ble_eq_true rfl)) dX11_writeChord_2 ⟨(Nat.le_of_ble_eq_true rfl), (Nat.le_of_ble_eq_true rfl)⟩) hP hD hS hA [0] (by decide) rfl rfl rfl rfl (fun H locs hP hD hS => ?_)
  refine lv_aload_n hx hb dX11_writeChord_5 rfl (lv_at hl 0 rfl) ?_
  refine lv_iconst (v := 0) hx hb dX11_writeChord_6 (by decide) ?_
  refine va_put (D := E.1) (ci := 13) (v := .int 0) (ty := .int) (C := RX11) (T := TX11) (N := 18) hx hb ha in_X11 tyX11 tyX11_ok nmX11 hown hst.k hP hD hS 0 rfl rfl 11 (by decide) (ha _ mw1647) (fun _ h9 => h9) rfl (tyX11_ok 11 (by decide)) rfl rfl (Nat.le_of_ble_eq_true rfl) dX11_writeChord_7 (fun H locs hP hD hS => ?_)
  have hP : va_P E.1 vwCl (List.flatten [w_Model E a o ((x.1.1, x.1.2.1, x.1.2.2.1, x.1.2.2.2.1, x.1.2.2.2.2), (x.2.1.1, x.2.1.2.1, x.2.1.2.2.1, x.2.1.2.2.2.1, x.2.1.2.2.2.2), (x.2.2.1.1, 0, q1.1, q1.2), (x.2.2.2.1, x.2.2.2.2.1, x.2.2.2.2.2.1, x.2.2.2.2.2.2))]) H := hP
  have hD : va_D A (List.flatten [w_Model E a o ((x.1.1, x.1.2.1, x.1.2.2.1, x.1.2.2.2.1, x.1.2.2.2.2), (x.2.1.1, x.2.1.2.1, x.2.1.2.2.1, x.2.1.2.2.2.1, x.2.1.2.2.2.2), (x.2.2.1.1, 0, q1.1, q1.2), (x.2.2.2.1, x.2.2.2.2.1, x.2.2.2.2.2.1, x.2.2.2.2.2.2))]) := hD
  refine lv_iconst (v := 0) hx hb dX11_writeChord_10 (by decide) ?_
  refine lv_istore_n (lv' := [(2, .int 0), (0, .ref (a o)), (1, .int p1)]) hx hb dX11_writeChord_11 rfl hl (by decide) rfl (fun ls hl => ?_)
  have key12 : ∀ (K : (Nat → Int32) → Int32 → Option (Int32 × (Nat → Int32) × Int32 × (Nat → Int32) × Int32 × Int32)), (∀ (y5 : (Nat → Int32)) (y6 : Int32) (H : Heap) (locs : List Loc) (ls : Array Slot), K y5 y6 = some res → va_P E.1 vwCl (List.flatten [w_Model E a o ((x.1.1, x.1.2.1, x.1.2.2.1, x.1.2.2.2.1, x.1.2.2.2.2), (x.2.1.1, x.2.1.2.1, x.2.1.2.2.1, x.2.1.2.2.2.1, x.2.1.2.2.2.2), (y5, y6, q1.1, q1.2), (x.2.2.2.1, x.2.2.2.2.1, x.2.2.2.2.2.1, x.2.2.2.2.2.2))]) H → va_D A (List.flatten [w_Model E a o ((x.1.1, x.1.2.1, x.1.2.2.1, x.1.2.2.2.1, x.1.2.2.2.2), (x.2.1.1, x.2.1.2.1, x.2.1.2.2.1, x.2.1.2.2.2.1, x.2.1.2.2.2.2), (y5, y6, q1.1, q1.2), (x.2.2.2.1, x.2.2.2.2.1, x.2.2.2.2.2.1, x.2.2.2.2.2.2))]) → va_S A s.heap H locs → lv_has ls 3 [(0, .ref (a o))] → W p l e rm_X11_writeChord s m args below meth c H locs 0 0 Q (F0 m 46 ls [])) → ∀ (n : Nat) (i2 : Int32) (i3 : (Nat → Int32)) (i4 : Int32) (H : Heap) (locs : List Loc) (ls : Array Slot), f_X11_writeChord_L12 q1 K n i2 i3 i4 = some res → va_P E.1 vwCl (List.flatten [w_Model E a o ((x.1.1, x.1.2.1, x.1.2.2.1, x.1.2.2.2.1, x.1.2.2.2.2), (x.2.1.1, x.2.1.2.1, x.2.1.2.2.1, x.2.1.2.2.2.1, x.2.1.2.2.2.2), (i3, i4, q1.1, q1.2), (x.2.2.2.1, x.2.2.2.2.1, x.2.2.2.2.2.1, x.2.2.2.2.2.2))]) H → va_D A (List.flatten [w_Model E a o ((x.1.1, x.1.2.1, x.1.2.2.1, x.1.2.2.2.1, x.1.2.2.2.2), (x.2.1.1, x.2.1.2.1, x.2.1.2.2.1, x.2.1.2.2.2.1, x.2.1.2.2.2.2), (i3, i4, q1.1, q1.2), (x.2.2.2.1, x.2.2.2.2.1, x.2.2.2.2.2.1, x.2.2.2.2.2.2))]) → va_S A s.heap H locs → lv_has ls 3 [(2, .int i2), (0, .ref (a o))] → W p l e rm_X11_writeChord s m args below meth c H locs 0 0 Q (F0 m 12 ls []) := by
    intro K12 hK12 n12
    induction n12 with
    | zero => intro i2 i3 i4 H locs ls hF; exact absurd hF (by simp [f_X11_writeChord_L12])
    | succ n12 ih12 =>
      intro i2 i3 i4 H locs ls hF hP hD hS hl
      rw [f_X11_writeChord_L12] at hF
      refine lv_iload_n hx hb dX11_writeChord_12 rfl (lv_at hl 0 rfl) ?_
      refine lv_aload_n hx hb dX11_writeChord_13 rfl (lv_at hl 1 rfl) ?_
      refine va_get (D := E.1) (ci := 13) (v := .int q1.2) (C := RX11) (T := TX11) (N := 18) hx hb ha in_X11 hown hst.k hP 0 rfl rfl 13 (by decide) (ha _ mw1649) (fun _ h9 => h9) rfl dX11_writeChord_14 ?_
      refine lv_icmp_ge (tgt := 46) hx hb dX11_writeChord_17 (by decide) (fun c17 => ?_) (fun c17 => ?_)
      · have hF := q_brp c17 hF
        exact hK12 i3 i4 H locs ls hF hP hD hS (lv_sub hl [1] rfl)
      · have hF := q_brn c17 hF
        refine lv_iload_n hx hb dX11_writeChord_20 rfl (lv_at hl 0 rfl) ?_
        obtain ⟨J30, hJ30, hF⟩ := q_jn hF
        have jJ30 : ∀ (j7 : (Nat → Int32)) (j8 : Int32), ∀ (H : Heap) (locs : List Loc) (ls : Array Slot), J30 j7 j8 = some res → va_P E.1 vwCl (List.flatten [w_Model E a o ((x.1.1, x.1.2.1, x.1.2.2.1, x.1.2.2.2.1, x.1.2.2.2.2), (x.2.1.1, x.2.1.2.1, x.2.1.2.2.1, x.2.1.2.2.2.1, x.2.1.2.2.2.2), (j7, j8, q1.1, q1.2), (x.2.2.2.1, x.2.2.2.2.1, x.2.2.2.2.2.1, x.2.2.2.2.2.2))]) H → va_D A (List.flatten [w_Model E a o ((x.1.1, x.1.2.1, x.1.2.2.1, x.1.2.2.2.1, x.1.2.2.2.2), (x.2.1.1, x.2.1.2.1, x.2.1.2.2.1, x.2.1.2.2.2.1, x.2.1.2.2.2.2), (j7, j8, q1.1, q1.2), (x.2.2.2.1, x.2.2.2.2.1, x.2.2.2.2.2.1, x.2.2.2.2.2.2))]) → va_S A s.heap H locs → lv_has ls 3 [(2, .int i2), (0, .ref (a o))] → W p l e rm_X11_writeChord s m args below meth c H locs 0 0 Q (F0 m 30 ls []) := by
          intro j7 j8 H locs ls hF hP hD hS hl
          rw [hJ30] at hF
          refine lv_aload_n hx hb dX11_writeChord_30 rfl (lv_at hl 1 rfl) ?_
          refine lv_aload_n hx hb dX11_writeChord_31 rfl (lv_at hl 1 rfl) ?_
          refine va_get (D := E.1) (ci := 13) (v := .ref (a (o + 7))) (C := RX11) (T := TX11) (N := 18) hx hb ha in_X11 hown hst.k hP 0 rfl rfl 12 (by decide) (ha _ mw1648) (fun _ h9 => h9) rfl dX11_writeChord_32 ?_
          refine lv_iload_n hx hb dX11_writeChord_35 rfl (lv_at hl 0 rfl) ?_
          obtain ⟨g9, hF⟩ := q_gdi hF
          refine vi_iald hx hb hst.k hP 7 0 rfl rfl (f := q1.1) (k := i2.toNatClampNeg) rfl g9 dX11_writeChord_36 ?_
          obtain ⟨q10, hq10, hF⟩ := q_bdi hF
          refine cl_v (Lc := [w_Model E a o ((x.1.1, x.1.2.1, x.1.2.2.1, x.1.2.2.2.1, x.1.2.2.2.2), (x.2.1.1, x.2.1.2.1, x.2.1.2.2.1, x.2.1.2.2.2.1, x.2.1.2.2.2.2), (j7, j8, q1.1, q1.2), (x.2.2.2.1, x.2.2.2.2.1, x.2.2.2.2.2.1, x.2.2.2.2.2.2))]) (Lc' := [w_Model E a o ((x.1.1, x.1.2.1, x.1.2.2.1, x.1.2.2.2.1, x.1.2.2.2.2), (x.2.1.1, x.2.1.2.1, x.2.1.2.2.1, x.2.1.2.2.2.1, x.2.1.2.2.2.2), (q10.1, q10.2, q1.1, q1.2), (x.2.2.2.1, x.2.2.2.2.1, x.2.2.2.2.2.1, x.2.2.2.2.2.2))]) (L' := [w_Model E a o ((x.1.1, x.1.2.1, x.1.2.2.1, x.1.2.2.2.1, x.1.2.2.2.2), (x.2.1.1, x.2.1.2.1, x.2.1.2.2.1, x.2.1.2.2.2.1, x.2.1.2.2.2.2), (q10.1, q10.2, q1.1, q1.2), (x.2.2.2.1, x.2.2.2.2.1, x.2.2.2.2.2.1, x.2.2.2.2.2.2))]) (va_runV (As := [.int (q1.1 (i2.toNatClampNeg))]) (rest := []) ⟨hx, hb, hml, hown, ha⟩ (k_X11_writesNumber l E a o ((x.1.1, x.1.2.1, x.1.2.2.1, x.1.2.2.2.1, x.1.2.2.2.2), (x.2.1.1, x.2.1.2.1, x.2.1.2.2.1, x.2.1.2.2.2.1, x.2.1.2.2.2.2), (j7, j8, q1.1, q1.2), (x.2.2.2.1, x.2.2.2.2.1, x.2.2.2.2.2.1, x.2.2.2.2.2.2)) (q1.1 (i2.toNatClampNeg)) q10 hq10 H.size) (cwV 1 ha (gi_V (fun _ h => h) mw2090 mw2092 mw70 mw87 mw2093) rfl rfl rfl hv_X11_writesNumber ⟨(Nat.le_of_ble_eq_true rfl), (Nat.le_of_ble_eq_true rfl)⟩) ⟨pre_blind, va_recv hst.k (fr_P hP [0] rfl) (ci := 13) (q0 := 0) rfl rfl, pre_at hP hD hS hz hzs hst [0] (by decide) rfl rfl⟩ rfl rfl hl.1 rfl (lv_room (Nat.le_of_ble_eq_true rfl)) dX11_writeChord_37 ⟨(Nat.le_of_ble_eq_true rfl), (Nat.le_of_ble_eq_true rfl)⟩) hP hD hS hA [0] (by decide) rfl rfl rfl rfl (fun H locs hP hD hS => ?_)
          obtain ⟨v11, ev11⟩ : ∃ y : Int32, y = i2 + 1 := ⟨_, rfl⟩
          have hF := q_lti ev11 hF
          refine lv_iinc (v := v11) (lv' := [(2, .int v11), (0, .ref (a o))]) hx hb dX11_writeChord_40 hl (k := 0) rfl (by rw [ev11]; rfl) (by decide) rfl (fun ls hl => ?_)
          refine lv_goto (tgt := 12) hx hb dX11_writeChord_43 (by decide) ?_
          exact ih12 v11 q10.1 q10.2 H locs ls hF hP hD hS (lv_sub hl [0, 1] rfl)
        refine lv_if_le (tgt := 30) hx hb dX11_writeChord_21 (by decide) (fun c21 => ?_) (fun c21 => ?_)
        · have hF := q_brp c21 hF
          exact jJ30 i3 i4 H locs ls hF hP hD hS (lv_sub hl [0, 1] rfl)
        · have hF := q_brn c21 hF
          refine lv_aload_n hx hb dX11_writeChord_24 rfl (lv_at hl 1 rfl) ?_
          refine lv_bipush (v := 32) hx hb dX11_writeChord_25 (by decide) ?_
          obtain ⟨q12, hq12, hF⟩ := q_bdi hF
          refine cl_v (Lc := [w_Model E a o ((x.1.1, x.1.2.1, x.1.2.2.1, x.1.2.2.2.1, x.1.2.2.2.2), (x.2.1.1, x.2.1.2.1, x.2.1.2.2.1, x.2.1.2.2.2.1, x.2.1.2.2.2.2), (i3, i4, q1.1, q1.2), (x.2.2.2.1, x.2.2.2.2.1, x.2.2.2.2.2.1, x.2.2.2.2.2.2))]) (Lc' := [w_Model E a o ((x.1.1, x.1.2.1, x.1.2.2.1, x.1.2.2.2.1, x.1.2.2.2.2), (x.2.1.1, x.2.1.2.1, x.2.1.2.2.1, x.2.1.2.2.2.1, x.2.1.2.2.2.2), (q12.1, q12.2, q1.1, q1.2), (x.2.2.2.1, x.2.2.2.2.1, x.2.2.2.2.2.1, x.2.2.2.2.2.2))]) (L' := [w_Model E a o ((x.1.1, x.1.2.1, x.1.2.2.1, x.1.2.2.2.1, x.1.2.2.2.2), (x.2.1.1, x.2.1.2.1, x.2.1.2.2.1, x.2.1.2.2.2.1, x.2.1.2.2.2.2), (q12.1, q12.2, q1.1, q1.2), (x.2.2.2.1, x.2.2.2.2.1, x.2.2.2.2.2.1, x.2.2.2.2.2.2))]) (va_runV (As := [.int 32]) (rest := []) ⟨hx, hb, hml, hown, ha⟩ (k_X11_writes l E a o ((x.1.1, x.1.2.1, x.1.2.2.1, x.1.2.2.2.1, x.1.2.2.2.2), (x.2.1.1, x.2.1.2.1, x.2.1.2.2.1, x.2.1.2.2.2.1, x.2.1.2.2.2.2), (i3, i4, q1.1, q1.2), (x.2.2.2.1, x.2.2.2.2.1, x.2.2.2.2.2.1, x.2.2.2.2.2.2)) 32 q12 hq12 H.size) (cwV 1 ha (gi_V (fun _ h => h) mw2094 mw2096 mw71 mw87 mw2097) rfl rfl rfl hv_X11_writes ⟨(Nat.le_of_ble_eq_true rfl), (Nat.le_of_ble_eq_true rfl)⟩) ⟨pre_blind, va_recv hst.k (fr_P hP [0] rfl) (ci := 13) (q0 := 0) rfl rfl, pre_at hP hD hS hz hzs hst [0] (by decide) rfl rfl⟩ rfl rfl hl.1 rfl (lv_room (Nat.le_of_ble_eq_true rfl)) dX11_writeChord_27 ⟨(Nat.le_of_ble_eq_true rfl), (Nat.le_of_ble_eq_true rfl)⟩) hP hD hS hA [0] (by decide) rfl rfl rfl rfl (fun H locs hP hD hS => ?_)
          exact jJ30 q12.1 q12.2 H locs ls hF hP hD hS (lv_sub hl [0, 1] rfl)
  refine key12 _ ?_ _ 0 x.2.2.1.1 0 H locs ls hF hP hD hS (lv_sub hl [0, 1] rfl)
  intro y5 y6 H locs ls hF hP hD hS hl
  refine lv_aload_n hx hb dX11_writeChord_46 rfl (lv_at hl 0 rfl) ?_
  refine lv_aload_n hx hb dX11_writeChord_47 rfl (lv_at hl 0 rfl) ?_
  refine va_get (D := E.1) (ci := 13) (v := .int y6) (C := RX11) (T := TX11) (N := 18) hx hb ha in_X11 hown hst.k hP 0 rfl rfl 11 (by decide) (ha _ mw1647) (fun _ h9 => h9) rfl dX11_writeChord_48 ?_
  obtain ⟨q13, hq13, hF⟩ := q_bdi hF
  refine cl_i (Lc := [w_Model E a o ((x.1.1, x.1.2.1, x.1.2.2.1, x.1.2.2.2.1, x.1.2.2.2.2), (x.2.1.1, x.2.1.2.1, x.2.1.2.2.1, x.2.1.2.2.2.1, x.2.1.2.2.2.2), (y5, y6, q1.1, q1.2), (x.2.2.2.1, x.2.2.2.2.1, x.2.2.2.2.2.1, x.2.2.2.2.2.2))]) (Lc' := [w_Model E a o ((x.1.1, x.1.2.1, x.1.2.2.1, x.1.2.2.2.1, x.1.2.2.2.2), (x.2.1.1, x.2.1.2.1, x.2.1.2.2.1, x.2.1.2.2.2.1, x.2.1.2.2.2.2), (y5, y6, q1.1, q1.2), (q13.2, x.2.2.2.2.1, x.2.2.2.2.2.1, x.2.2.2.2.2.2))]) (L' := [w_Model E a o ((x.1.1, x.1.2.1, x.1.2.2.1, x.1.2.2.2.1, x.1.2.2.2.2), (x.2.1.1, x.2.1.2.1, x.2.1.2.2.1, x.2.1.2.2.2.1, x.2.1.2.2.2.2), (y5, y6, q1.1, q1.2), (q13.2, x.2.2.2.2.1, x.2.2.2.2.2.1, x.2.2.2.2.2.2))]) (rv := q13.1) (va_runV (As := [.int y6]) (rest := []) ⟨hx, hb, hml, hown, ha⟩ (k_X11_done l E a o ((x.1.1, x.1.2.1, x.1.2.2.1, x.1.2.2.2.1, x.1.2.2.2.2), (x.2.1.1, x.2.1.2.1, x.2.1.2.2.1, x.2.1.2.2.2.1, x.2.1.2.2.2.2), (y5, y6, q1.1, q1.2), (x.2.2.2.1, x.2.2.2.2.1, x.2.2.2.2.2.1, x.2.2.2.2.2.2)) y6 q13 hq13 H.size) (cwV 1 ha (gi_V (fun _ h => h) mw1720 mw1722 mw30 mw87 mw1723) rfl rfl rfl hv_X11_done ⟨(Nat.le_of_ble_eq_true rfl), (Nat.le_of_ble_eq_true rfl)⟩) ⟨pre_blind, va_recv hst.k (fr_P hP [0] rfl) (ci := 13) (q0 := 0) rfl rfl, pre_at hP hD hS hz hzs hst [0] (by decide) rfl rfl⟩ rfl rfl hl.1 rfl (lv_room (Nat.le_of_ble_eq_true rfl)) dX11_writeChord_51 ⟨(Nat.le_of_ble_eq_true rfl), (Nat.le_of_ble_eq_true rfl)⟩) hP hD hS hA [0] (by decide) rfl rfl rfl rfl (fun H locs hP hD hS => ?_)
  obtain rfl := Option.some.inj hF
  exact en_i hQ (Nat.le_of_ble_eq_true rfl) (Nat.le_of_ble_eq_true rfl) hx hb hr hlocks hP hD hS rfl dX11_writeChord_54

/-! X11_outputAt -/
theorem dX11_outputAt_0 : decode cX11_outputAt 0 = .ok (.aload_n 0, 1) := by decide +kernel
theorem dX11_outputAt_1 : decode cX11_outputAt 1 = .ok (.iload_n 1, 1) := by decide +kernel
theorem dX11_outputAt_2 : decode cX11_outputAt 2 = .ok (.iconst 0, 1) := by decide +kernel
theorem dX11_outputAt_3 : decode cX11_outputAt 3 = .ok (.aload_n 0, 1) := by decide +kernel
theorem dX11_outputAt_4 : decode cX11_outputAt 4 = .ok (.getfield 229, 3) := by decide +kernel
theorem dX11_outputAt_7 : decode cX11_outputAt 7 = .ok (.iconst 1, 1) := by decide +kernel
theorem dX11_outputAt_8 : decode cX11_outputAt 8 = .ok (.isub, 1) := by decide +kernel
theorem dX11_outputAt_9 : decode cX11_outputAt 9 = .ok (.invokestatic 52, 3) := by decide +kernel
theorem dX11_outputAt_12 : decode cX11_outputAt 12 = .ok (.ifCond .eq 7, 3) := by decide +kernel
theorem dX11_outputAt_15 : decode cX11_outputAt 15 = .ok (.iconst 0, 1) := by decide +kernel
theorem dX11_outputAt_16 : decode cX11_outputAt 16 = .ok (.goto 4, 3) := by decide +kernel
theorem dX11_outputAt_19 : decode cX11_outputAt 19 = .ok (.iconst 1, 1) := by decide +kernel
theorem dX11_outputAt_20 : decode cX11_outputAt 20 = .ok (.putfield 42, 3) := by decide +kernel
theorem dX11_outputAt_23 : decode cX11_outputAt 23 = .ok (.aload_n 0, 1) := by decide +kernel
theorem dX11_outputAt_24 : decode cX11_outputAt 24 = .ok (.getfield 42, 3) := by decide +kernel
theorem dX11_outputAt_27 : decode cX11_outputAt 27 = .ok (.ifCond .ne 12, 3) := by decide +kernel
theorem dX11_outputAt_30 : decode cX11_outputAt 30 = .ok (.aload_n 0, 1) := by decide +kernel
theorem dX11_outputAt_31 : decode cX11_outputAt 31 = .ok (.getfield 33, 3) := by decide +kernel
theorem dX11_outputAt_34 : decode cX11_outputAt 34 = .ok (.iload_n 1, 1) := by decide +kernel
theorem dX11_outputAt_35 : decode cX11_outputAt 35 = .ok (.caload, 1) := by decide +kernel
theorem dX11_outputAt_36 : decode cX11_outputAt 36 = .ok (.goto 4, 3) := by decide +kernel
theorem dX11_outputAt_39 : decode cX11_outputAt 39 = .ok (.iconst 0, 1) := by decide +kernel
theorem dX11_outputAt_40 : decode cX11_outputAt 40 = .ok (.ireturn, 1) := by decide +kernel
def f_X11_outputAt (x_letters : (Nat → Int32)) (x_lineLength : Int32) (x_thrown : Int32) (p1 : Int32) : Option (Int32 × Int32) :=
  q_bd (f_X11_in p1 0 (x_lineLength - 1)) (fun q1 =>
  q_lt (fun (j2 : Int32) =>
  q_br (j2 = 0) (
  q_gd (q_in p1 80) (
  q_gd (((x_letters (p1.toNatClampNeg)).toUInt32 % 65536).toInt32 = (x_letters (p1.toNatClampNeg))) (
  some (x_letters (p1.toNatClampNeg), j2)))) (
  some (0, j2))) (fun (J20 : Int32 → Option (Int32 × Int32)) =>
  q_br (q1 = 0) (
  J20 1) (
  J20 0)))
theorem hv_X11_outputAt : yX11_outputAt.cls = RX11 ∧ yX11_outputAt.cls ≠ "java/lang/invoke/MethodHandle" ∧ yX11_outputAt.cls ≠ "java/lang/invoke/VarHandle" ∧ (parseMethodDescriptor yX11_outputAt.desc).map (fun d => d.parameters.length) = some 1 := by decide +kernel
abbrev rm_X11_outputAt : Room := { frames := 1, cells := 0, slots := 0, locals := 22 }
set_option maxHeartbeats 4000000 in
set_option maxRecDepth 100000 in
theorem k_X11_outputAt (l : Launch) (E : ET) (a : Nat → Nat) (o : Nat) (x : Model_t) (p1 : Int32) (res : Int32 × Int32) (hF : f_X11_outputAt x.2.2.1.1 x.2.2.1.2.1 x.2.2.2.1 p1 = some res) (sz : Nat) : CtI l yX11_outputAt (mws yX11_outputAt cX11_outputAt 2 (some .char)) rm_X11_outputAt 0 0 [.ref (a o), .int p1] E (bl_Model E a o x) res.1 (bl_Model E a o ((x.1.1, x.1.2.1, x.1.2.2.1, x.1.2.2.2.1, x.1.2.2.2.2), (x.2.1.1, x.2.1.2.1, x.2.1.2.2.1, x.2.1.2.2.2.1, x.2.1.2.2.2.2), (x.2.2.1.1, x.2.2.1.2.1, x.2.2.1.2.2.1, x.2.2.1.2.2.2), (res.2, x.2.2.2.2.1, x.2.2.2.2.2.1, x.2.2.2.2.2.2))) sz := by
  refine mk_M (by decide +kernel) (Nat.le_of_ble_eq_true rfl) ?_
  intro p e s m below meth c A args Q ls hAe hsz hQ hx hb hr hml hin ha hown hlocks hA hz hzs hst hP hD hS hl
  have hown : s.vm.findClass RX11 = some m.cls := hown
  rw [hAe] at hQ
  subst hsz
  have hP : va_P E.1 vwCl (List.flatten [w_Model E a o x]) s.heap := hP
  have hD : va_D A (List.flatten [w_Model E a o x]) := hD
  have hl : lv_has ls 2 [(0, .ref (a o)), (1, .int p1)] := hl
  generalize hHe : s.heap = H at hP
  have hS : va_S A s.heap H [] := by rw [← hHe]; exact hS
  generalize ([] : List Loc) = locs at hS ⊢
  unfold f_X11_outputAt at hF
  refine lv_aload_n hx hb dX11_outputAt_0 rfl (lv_at hl 0 rfl) ?_
  refine lv_iload_n hx hb dX11_outputAt_1 rfl (lv_at hl 1 rfl) ?_
  refine lv_iconst (v := 0) hx hb dX11_outputAt_2 (by decide) ?_
  refine lv_aload_n hx hb dX11_outputAt_3 rfl (lv_at hl 0 rfl) ?_
  refine va_get (D := E.1) (ci := 13) (v := .int x.2.2.1.2.1) (C := RX11) (T := TX11) (N := 18) hx hb ha in_X11 hown hst.k hP 0 rfl rfl 11 (by decide) (ha _ mw1647) (fun _ h9 => h9) rfl dX11_outputAt_4 ?_
  refine lv_iconst (v := 1) hx hb dX11_outputAt_7 (by decide) ?_
  refine lv_isub hx hb dX11_outputAt_8 ?_
  obtain ⟨q1, hq1, hF⟩ := q_bdi hF
  refine cl_i (Lc := []) (Lc' := []) (L' := [w_Model E a o x]) (rv := q1) (va_runS (As := [.int p1, .int 0, .int (x.2.2.1.2.1 - 1)]) (rest := [.ref (a o)]) ⟨hx, hb, hml, hown, ha⟩ (k_X11_in l E p1 0 (x.2.2.1.2.1 - 1) q1 hq1 H.size) (cwS 3 ha (gi_S (fun _ h => h) mw1713 mw1714 mw87 mw1715) rfl rfl rfl hv_X11_in ⟨(Nat.le_of_ble_eq_true rfl), (Nat.le_of_ble_eq_true rfl)⟩) ⟨pre_blind, pre_at hP hD hS hz hzs hst [] (by decide) rfl rfl⟩ rfl rfl hl.1 rfl (lv_room (Nat.le_of_ble_eq_true rfl)) dX11_outputAt_9 ⟨(Nat.le_of_ble_eq_true rfl), (Nat.le_of_ble_eq_true rfl)⟩) hP hD hS hA [] (by decide) rfl rfl rfl rfl (fun H locs hP hD hS => ?_)
  obtain ⟨J20, hJ20, hF⟩ := q_jn hF
  have jJ20 : ∀ (j2 : Int32), ∀ (H : Heap) (locs : List Loc) (ls : Array Slot), J20 j2 = some res → va_P E.1 vwCl (List.flatten [w_Model E a o x]) H → va_D A (List.flatten [w_Model E a o x]) → va_S A s.heap H locs → lv_has ls 2 [(0, .ref (a o)), (1, .int p1)] → W p l e rm_X11_outputAt s m args below meth c H locs 0 0 Q (F0 m 20 ls [.int j2, .ref (a o)]) := by
    intro j2 H locs ls hF hP hD hS hl
    rw [hJ20] at hF
    refine va_put (D := E.1) (ci := 13) (v := .int j2) (ty := .int) (C := RX11) (T := TX11) (N := 18) hx hb ha in_X11 tyX11 tyX11_ok nmX11 hown hst.k hP hD hS 0 rfl rfl 14 (by decide) (ha _ mw1650) (fun _ h9 => h9) rfl (tyX11_ok 14 (by decide)) rfl rfl (Nat.le_of_ble_eq_true rfl) dX11_outputAt_20 (fun H locs hP hD hS => ?_)
    have hP : va_P E.1 vwCl (List.flatten [w_Model E a o ((x.1.1, x.1.2.1, x.1.2.2.1, x.1.2.2.2.1, x.1.2.2.2.2), (x.2.1.1, x.2.1.2.1, x.2.1.2.2.1, x.2.1.2.2.2.1, x.2.1.2.2.2.2), (x.2.2.1.1, x.2.2.1.2.1, x.2.2.1.2.2.1, x.2.2.1.2.2.2), (j2, x.2.2.2.2.1, x.2.2.2.2.2.1, x.2.2.2.2.2.2))]) H := hP
    have hD : va_D A (List.flatten [w_Model E a o ((x.1.1, x.1.2.1, x.1.2.2.1, x.1.2.2.2.1, x.1.2.2.2.2), (x.2.1.1, x.2.1.2.1, x.2.1.2.2.1, x.2.1.2.2.2.1, x.2.1.2.2.2.2), (x.2.2.1.1, x.2.2.1.2.1, x.2.2.1.2.2.1, x.2.2.1.2.2.2), (j2, x.2.2.2.2.1, x.2.2.2.2.2.1, x.2.2.2.2.2.2))]) := hD
    refine lv_aload_n hx hb dX11_outputAt_23 rfl (lv_at hl 0 rfl) ?_
    refine va_get (D := E.1) (ci := 13) (v := .int j2) (C := RX11) (T := TX11) (N := 18) hx hb ha in_X11 hown hst.k hP 0 rfl rfl 14 (by decide) (ha _ mw1650) (fun _ h9 => h9) rfl dX11_outputAt_24 ?_
    refine lv_if_ne (tgt := 39) hx hb dX11_outputAt_27 (by decide) (fun c27 => ?_) (fun c27 => ?_)
    · have hF := q_brn c27 hF
      refine lv_iconst (v := 0) hx hb dX11_outputAt_39 (by decide) ?_
      obtain rfl := Option.some.inj hF
      exact en_z hQ (Nat.le_of_ble_eq_true rfl) (Nat.le_of_ble_eq_true rfl) hx hb hr hlocks (by decide) hP hD hS rfl dX11_outputAt_40
    · have hF := q_brp c27 hF
      refine lv_aload_n hx hb dX11_outputAt_30 rfl (lv_at hl 0 rfl) ?_
      refine va_get (D := E.1) (ci := 13) (v := .ref (a (o + 6))) (C := RX11) (T := TX11) (N := 18) hx hb ha in_X11 hown hst.k hP 0 rfl rfl 10 (by decide) (ha _ mw1646) (fun _ h9 => h9) rfl dX11_outputAt_31 ?_
      refine lv_iload_n hx hb dX11_outputAt_34 rfl (lv_at hl 1 rfl) ?_
      obtain ⟨g3, hF⟩ := q_gdi hF
      refine vi_cald hx hb hst.k hP 6 1 rfl rfl (f := x.2.2.1.1) (k := p1.toNatClampNeg) rfl g3 dX11_outputAt_35 ?_
      refine lv_goto (tgt := 40) hx hb dX11_outputAt_36 (by decide) ?_
      obtain ⟨g4, hF⟩ := q_gdi hF
      obtain rfl := Option.some.inj hF
      exact en_z hQ (Nat.le_of_ble_eq_true rfl) (Nat.le_of_ble_eq_true rfl) hx hb hr hlocks (nz_c g4) hP hD hS rfl dX11_outputAt_40
  refine lv_if_eq (tgt := 19) hx hb dX11_outputAt_12 (by decide) (fun c12 => ?_) (fun c12 => ?_)
  · have hF := q_brp c12 hF
    refine lv_iconst (v := 1) hx hb dX11_outputAt_19 (by decide) ?_
    exact jJ20 1 H locs ls hF hP hD hS (lv_sub hl [0, 1] rfl)
  · have hF := q_brn c12 hF
    refine lv_iconst (v := 0) hx hb dX11_outputAt_15 (by decide) ?_
    refine lv_goto (tgt := 20) hx hb dX11_outputAt_16 (by decide) ?_
    exact jJ20 0 H locs ls hF hP hD hS (lv_sub hl [0, 1] rfl)
