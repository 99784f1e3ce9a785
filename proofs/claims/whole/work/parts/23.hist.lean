/-! X5_keep -/
theorem dX5_keep_0 : decode cX5_keep 0 = .ok (.aload_n 0, 1) := by decide +kernel
theorem dX5_keep_1 : decode cX5_keep 1 = .ok (.aload_n 0, 1) := by decide +kernel
theorem dX5_keep_2 : decode cX5_keep 2 = .ok (.getfield 15, 3) := by decide +kernel
theorem dX5_keep_5 : decode cX5_keep 5 = .ok (.iconst 1, 1) := by decide +kernel
theorem dX5_keep_6 : decode cX5_keep 6 = .ok (.iadd, 1) := by decide +kernel
theorem dX5_keep_7 : decode cX5_keep 7 = .ok (.bipush 9, 2) := by decide +kernel
theorem dX5_keep_9 : decode cX5_keep 9 = .ok (.irem, 1) := by decide +kernel
theorem dX5_keep_10 : decode cX5_keep 10 = .ok (.putfield 15, 3) := by decide +kernel
theorem dX5_keep_13 : decode cX5_keep 13 = .ok (.aload_n 0, 1) := by decide +kernel
theorem dX5_keep_14 : decode cX5_keep 14 = .ok (.aload_n 0, 1) := by decide +kernel
theorem dX5_keep_15 : decode cX5_keep 15 = .ok (.getfield 19, 3) := by decide +kernel
theorem dX5_keep_18 : decode cX5_keep 18 = .ok (.iconst 1, 1) := by decide +kernel
theorem dX5_keep_19 : decode cX5_keep 19 = .ok (.iadd, 1) := by decide +kernel
theorem dX5_keep_20 : decode cX5_keep 20 = .ok (.bipush 8, 2) := by decide +kernel
theorem dX5_keep_22 : decode cX5_keep 22 = .ok (.invokestatic 27, 3) := by decide +kernel
theorem dX5_keep_25 : decode cX5_keep 25 = .ok (.putfield 19, 3) := by decide +kernel
theorem dX5_keep_28 : decode cX5_keep 28 = .ok (.return_, 1) := by decide +kernel
def f_X5_keep (x_current : Int32) (x_count : Int32) : Option (Int32 × Int32) :=
  some ((x_current + 1) - (x_current + 1) / 9 * 9, if 8 < (x_count + 1) then 8 else (x_count + 1))
theorem hv_X5_keep : yX5_keep.cls = RX5 ∧ yX5_keep.cls ≠ "java/lang/invoke/MethodHandle" ∧ yX5_keep.cls ≠ "java/lang/invoke/VarHandle" ∧ (parseMethodDescriptor yX5_keep.desc).map (fun d => d.parameters.length) = some 0 := by decide +kernel
abbrev rm_X5_keep : Room := { frames := 1, cells := 0, slots := 0, locals := 14 }
set_option maxHeartbeats 4000000 in
set_option maxRecDepth 100000 in
theorem k_X5_keep (l : Launch) (E : ET) (a : Nat → Nat) (o : Nat) (x : Hist_t) (res : Int32 × Int32) (hF : f_X5_keep x.2.1 x.2.2 = some res) (sz : Nat) : CtV l yX5_keep (mws yX5_keep cX5_keep 1 none) rm_X5_keep 0 0 [.ref (a o)] E (bl_Hist E a o x) (bl_Hist E a o (x.1, res.1, res.2)) sz := by
  refine mk_M (by decide +kernel) (Nat.le_of_ble_eq_true rfl) ?_
  intro p e s m below meth c A args Q ls hAe hsz hQ hx hb hr hml hin ha hown hlocks hA hz hzs hst hP hD hS hl
  have hown : s.vm.findClass RX5 = some m.cls := hown
  rw [hAe] at hQ
  subst hsz
  have hP : va_P E.1 vwCl (List.flatten [w_Hist E a o x]) s.heap := hP
  have hD : va_D A (List.flatten [w_Hist E a o x]) := hD
  have hl : lv_has ls 1 [(0, .ref (a o))] := hl
  generalize hHe : s.heap = H at hP
  have hS : va_S A s.heap H [] := by rw [← hHe]; exact hS
  generalize ([] : List Loc) = locs at hS ⊢
  unfold f_X5_keep at hF
  refine lv_aload_n hx hb dX5_keep_0 rfl (lv_at hl 0 rfl) ?_
  refine lv_aload_n hx hb dX5_keep_1 rfl (lv_at hl 0 rfl) ?_
  refine va_get (D := E.1) (ci := 7) (v := .int x.2.1) (C := RX5) (T := TX5) (N := 3) hx hb ha in_X5 hown hst.k hP 0 rfl rfl 1 (by decide) (ha _ mw234) (fun _ h9 => h9) rfl dX5_keep_2 ?_
  refine lv_iconst (v := 1) hx hb dX5_keep_5 (by decide) ?_
  refine lv_iadd hx hb dX5_keep_6 ?_
  refine lv_bipush (v := 9) hx hb dX5_keep_7 (by decide) ?_
  refine lv_irem hx hb dX5_keep_9 (by decide) ?_
  refine va_put (D := E.1) (ci := 7) (v := .int ((x.2.1 + 1) - (x.2.1 + 1) / 9 * 9)) (ty := .int) (C := RX5) (T := TX5) (N := 3) hx hb ha in_X5 tyX5 tyX5_ok nmX5 hown hst.k hP hD hS 0 rfl rfl 1 (by decide) (ha _ mw234) (fun _ h9 => h9) rfl (tyX5_ok 1 (by decide)) rfl rfl (Nat.le_of_ble_eq_true rfl) dX5_keep_10 (fun H locs hP hD hS => ?_)
  have hP : va_P E.1 vwCl (List.flatten [w_Hist E a o (x.1, (x.2.1 + 1) - (x.2.1 + 1) / 9 * 9, x.2.2)]) H := hP
  have hD : va_D A (List.flatten [w_Hist E a o (x.1, (x.2.1 + 1) - (x.2.1 + 1) / 9 * 9, x.2.2)]) := hD
  refine lv_aload_n hx hb dX5_keep_13 rfl (lv_at hl 0 rfl) ?_
  refine lv_aload_n hx hb dX5_keep_14 rfl (lv_at hl 0 rfl) ?_
  refine va_get (D := E.1) (ci := 7) (v := .int x.2.2) (C := RX5) (T := TX5) (N := 3) hx hb ha in_X5 hown hst.k hP 0 rfl rfl 2 (by decide) (ha _ mw235) (fun _ h9 => h9) rfl dX5_keep_15 ?_
  refine lv_iconst (v := 1) hx hb dX5_keep_18 (by decide) ?_
  refine lv_iadd hx hb dX5_keep_19 ?_
  refine lv_bipush (v := 8) hx hb dX5_keep_20 (by decide) ?_
  refine va_mmin hx hb (hml.trans hl.1.symm) hown (ha _ mw1103) (ha _ mw618) (ha _ mw97) (ha _ mw619) (Nat.le_of_ble_eq_true rfl) (Nat.le_of_ble_eq_true rfl) (Nat.le_of_ble_eq_true rfl) (Nat.le_of_ble_eq_true rfl) dX5_keep_22 ?_
  refine va_put (D := E.1) (ci := 7) (v := .int (if 8 < (x.2.2 + 1) then 8 else (x.2.2 + 1))) (ty := .int) (C := RX5) (T := TX5) (N := 3) hx hb ha in_X5 tyX5 tyX5_ok nmX5 hown hst.k hP hD hS 0 rfl rfl 2 (by decide) (ha _ mw235) (fun _ h9 => h9) rfl (tyX5_ok 2 (by decide)) rfl rfl (Nat.le_of_ble_eq_true rfl) dX5_keep_25 (fun H locs hP hD hS => ?_)
  have hP : va_P E.1 vwCl (List.flatten [w_Hist E a o (x.1, (x.2.1 + 1) - (x.2.1 + 1) / 9 * 9, if 8 < (x.2.2 + 1) then 8 else (x.2.2 + 1))]) H := hP
  have hD : va_D A (List.flatten [w_Hist E a o (x.1, (x.2.1 + 1) - (x.2.1 + 1) / 9 * 9, if 8 < (x.2.2 + 1) then 8 else (x.2.2 + 1))]) := hD
  obtain rfl := Option.some.inj hF
  exact en_v hQ (Nat.le_of_ble_eq_true rfl) (Nat.le_of_ble_eq_true rfl) hx hb hr hlocks hP hD hS dX5_keep_28

/-! X5_stepBack -/
theorem dX5_stepBack_0 : decode cX5_stepBack 0 = .ok (.aload_n 0, 1) := by decide +kernel
theorem dX5_stepBack_1 : decode cX5_stepBack 1 = .ok (.aload_n 0, 1) := by decide +kernel
theorem dX5_stepBack_2 : decode cX5_stepBack 2 = .ok (.getfield 15, 3) := by decide +kernel
theorem dX5_stepBack_5 : decode cX5_stepBack 5 = .ok (.bipush 9, 2) := by decide +kernel
theorem dX5_stepBack_7 : decode cX5_stepBack 7 = .ok (.iadd, 1) := by decide +kernel
theorem dX5_stepBack_8 : decode cX5_stepBack 8 = .ok (.iconst 1, 1) := by decide +kernel
theorem dX5_stepBack_9 : decode cX5_stepBack 9 = .ok (.isub, 1) := by decide +kernel
theorem dX5_stepBack_10 : decode cX5_stepBack 10 = .ok (.bipush 9, 2) := by decide +kernel
theorem dX5_stepBack_12 : decode cX5_stepBack 12 = .ok (.irem, 1) := by decide +kernel
theorem dX5_stepBack_13 : decode cX5_stepBack 13 = .ok (.putfield 15, 3) := by decide +kernel
theorem dX5_stepBack_16 : decode cX5_stepBack 16 = .ok (.aload_n 0, 1) := by decide +kernel
theorem dX5_stepBack_17 : decode cX5_stepBack 17 = .ok (.dup, 1) := by decide +kernel
theorem dX5_stepBack_18 : decode cX5_stepBack 18 = .ok (.getfield 19, 3) := by decide +kernel
theorem dX5_stepBack_21 : decode cX5_stepBack 21 = .ok (.iconst 1, 1) := by decide +kernel
theorem dX5_stepBack_22 : decode cX5_stepBack 22 = .ok (.isub, 1) := by decide +kernel
theorem dX5_stepBack_23 : decode cX5_stepBack 23 = .ok (.putfield 19, 3) := by decide +kernel
theorem dX5_stepBack_26 : decode cX5_stepBack 26 = .ok (.return_, 1) := by decide +kernel
def f_X5_stepBack (x_current : Int32) (x_count : Int32) : Option (Int32 × Int32) :=
  some (((x_current + 9) - 1) - ((x_current + 9) - 1) / 9 * 9, x_count - 1)
theorem hv_X5_stepBack : yX5_stepBack.cls = RX5 ∧ yX5_stepBack.cls ≠ "java/lang/invoke/MethodHandle" ∧ yX5_stepBack.cls ≠ "java/lang/invoke/VarHandle" ∧ (parseMethodDescriptor yX5_stepBack.desc).map (fun d => d.parameters.length) = some 0 := by decide +kernel
abbrev rm_X5_stepBack : Room := { frames := 0, cells := 0, slots := 0, locals := 0 }
set_option maxHeartbeats 4000000 in
set_option maxRecDepth 100000 in
theorem k_X5_stepBack (l : Launch) (E : ET) (a : Nat → Nat) (o : Nat) (x : Hist_t) (res : Int32 × Int32) (hF : f_X5_stepBack x.2.1 x.2.2 = some res) (sz : Nat) : CtV l yX5_stepBack (mws yX5_stepBack cX5_stepBack 1 none) rm_X5_stepBack 0 0 [.ref (a o)] E (bl_Hist E a o x) (bl_Hist E a o (x.1, res.1, res.2)) sz := by
  refine mk_M (by decide +kernel) (Nat.le_of_ble_eq_true rfl) ?_
  intro p e s m below meth c A args Q ls hAe hsz hQ hx hb hr hml hin ha hown hlocks hA hz hzs hst hP hD hS hl
  have hown : s.vm.findClass RX5 = some m.cls := hown
  rw [hAe] at hQ
  subst hsz
  have hP : va_P E.1 vwCl (List.flatten [w_Hist E a o x]) s.heap := hP
  have hD : va_D A (List.flatten [w_Hist E a o x]) := hD
  have hl : lv_has ls 1 [(0, .ref (a o))] := hl
  generalize hHe : s.heap = H at hP
  have hS : va_S A s.heap H [] := by rw [← hHe]; exact hS
  generalize ([] : List Loc) = locs at hS ⊢
  unfold f_X5_stepBack at hF
  refine lv_aload_n hx hb dX5_stepBack_0 rfl (lv_at hl 0 rfl) ?_
  refine lv_aload_n hx hb dX5_stepBack_1 rfl (lv_at hl 0 rfl) ?_
  refine va_get (D := E.1) (ci := 7) (v := .int x.2.1) (C := RX5) (T := TX5) (N := 3) hx hb ha in_X5 hown hst.k hP 0 rfl rfl 1 (by decide) (ha _ mw234) (fun _ h9 => h9) rfl dX5_stepBack_2 ?_
  refine lv_bipush (v := 9) hx hb dX5_stepBack_5 (by decide) ?_
  refine lv_iadd hx hb dX5_stepBack_7 ?_
  refine lv_iconst (v := 1) hx hb dX5_stepBack_8 (by decide) ?_
  refine lv_isub hx hb dX5_stepBack_9 ?_
  refine lv_bipush (v := 9) hx hb dX5_stepBack_10 (by decide) ?_
  refine lv_irem hx hb dX5_stepBack_12 (by decide) ?_
  refine va_put (D := E.1) (ci := 7) (v := .int (((x.2.1 + 9) - 1) - ((x.2.1 + 9) - 1) / 9 * 9)) (ty := .int) (C := RX5) (T := TX5) (N := 3) hx hb ha in_X5 tyX5 tyX5_ok nmX5 hown hst.k hP hD hS 0 rfl rfl 1 (by decide) (ha _ mw234) (fun _ h9 => h9) rfl (tyX5_ok 1 (by decide)) rfl rfl (Nat.le_of_ble_eq_true rfl) dX5_stepBack_13 (fun H locs hP hD hS => ?_)
  have hP : va_P E.1 vwCl (List.flatten [w_Hist E a o (x.1, ((x.2.1 + 9) - 1) - ((x.2.1 + 9) - 1) / 9 * 9, x.2.2)]) H := hP
  have hD : va_D A (List.flatten [w_Hist E a o (x.1, ((x.2.1 + 9) - 1) - ((x.2.1 + 9) - 1) / 9 * 9, x.2.2)]) := hD
  refine lv_aload_n hx hb dX5_stepBack_16 rfl (lv_at hl 0 rfl) ?_
  refine lv_dup hx hb dX5_stepBack_17 rfl ?_
  refine va_get (D := E.1) (ci := 7) (v := .int x.2.2) (C := RX5) (T := TX5) (N := 3) hx hb ha in_X5 hown hst.k hP 0 rfl rfl 2 (by decide) (ha _ mw235) (fun _ h9 => h9) rfl dX5_stepBack_18 ?_
  refine lv_iconst (v := 1) hx hb dX5_stepBack_21 (by decide) ?_
  refine lv_isub hx hb dX5_stepBack_22 ?_
  refine va_put (D := E.1) (ci := 7) (v := .int (x.2.2 - 1)) (ty := .int) (C := RX5) (T := TX5) (N := 3) hx hb ha in_X5 tyX5 tyX5_ok nmX5 hown hst.k hP hD hS 0 rfl rfl 2 (by decide) (ha _ mw235) (fun _ h9 => h9) rfl (tyX5_ok 2 (by decide)) rfl rfl (Nat.le_of_ble_eq_true rfl) dX5_stepBack_23 (fun H locs hP hD hS => ?_)
  have hP : va_P E.1 vwCl (List.flatten [w_Hist E a o (x.1, ((x.2.1 + 9) - 1) - ((x.2.1 + 9) - 1) / 9 * 9, x.2.2 - 1)]) H := hP
  have hD : va_D A (List.flatten [w_Hist E a o (x.1, ((x.2.1 + 9) - 1) - ((x.2.1 + 9) - 1) / 9 * 9, x.2.2 - 1)]) := hD
  obtain rfl := Option.some.inj hF
  exact en_v hQ (Nat.le_of_ble_eq_true rfl) (Nat.le_of_ble_eq_true rfl) hx hb hr hlocks hP hD hS dX5_stepBack_26

/-! X5_forget -/
theorem dX5_forget_0 : decode cX5_forget 0 = .ok (.aload_n 0, 1) := by decide +kernel
theorem dX5_forget_1 : decode cX5_forget 1 = .ok (.iconst 0, 1) := by decide +kernel
theorem dX5_forget_2 : decode cX5_forget 2 = .ok (.putfield 19, 3) := by decide +kernel
theorem dX5_forget_5 : decode cX5_forget 5 = .ok (.return_, 1) := by decide +kernel
def f_X5_forget (x_count : Int32) : Option (Int32) :=
  some 0
theorem hv_X5_forget : yX5_forget.cls = RX5 ∧ yX5_forget.cls ≠ "java/lang/invoke/MethodHandle" ∧ yX5_forget.cls ≠ "java/lang/invoke/VarHandle" ∧ (parseMethodDescriptor yX5_forget.desc).map (fun d => d.parameters.length) = some 0 := by decide +kernel
abbrev rm_X5_forget : Room := { frames := 0, cells := 0, slots := 0, locals := 0 }
set_option maxHeartbeats 4000000 in
set_option maxRecDepth 100000 in
theorem k_X5_forget (l : Launch) (E : ET) (a : Nat → Nat) (o : Nat) (x : Hist_t) (res : Int32) (hF : f_X5_forget x.2.2 = some res) (sz : Nat) : CtV l yX5_forget (mws yX5_forget cX5_forget 1 none) rm_X5_forget 0 0 [.ref (a o)] E (bl_Hist E a o x) (bl_Hist E a o (x.1, x.2.1, res)) sz := by
  refine mk_M (by decide +kernel) (Nat.le_of_ble_eq_true rfl) ?_
  intro p e s m below meth c A args Q ls hAe hsz hQ hx hb hr hml hin ha hown hlocks hA hz hzs hst hP hD hS hl
  have hown : s.vm.findClass RX5 = some m.cls := hown
  rw [hAe] at hQ
  subst hsz
  have hP : va_P E.1 vwCl (List.flatten [w_Hist E a o x]) s.heap := hP
  have hD : va_D A (List.flatten [w_Hist E a o x]) := hD
  have hl : lv_has ls 1 [(0, .ref (a o))] := hl
  generalize hHe : s.heap = H at hP
  have hS : va_S A s.heap H [] := by rw [← hHe]; exact hS
  generalize ([] : List Loc) = locs at hS ⊢
  unfold f_X5_forget at hF
  refine lv_aload_n hx hb dX5_forget_0 rfl (lv_at hl 0 rfl) ?_
  refine lv_iconst (v := 0) hx hb dX5_forget_1 (by decide) ?_
  refine va_put (D := E.1) (ci := 7) (v := .int 0) (ty := .int) (C := RX5) (T := TX5) (N := 3) hx hb ha in_X5 tyX5 tyX5_ok nmX5 hown hst.k hP hD hS 0 rfl rfl 2 (by decide) (ha _ mw235) (fun _ h9 => h9) rfl (tyX5_ok 2 (by decide)) rfl rfl (Nat.le_of_ble_eq_true rfl) dX5_forget_2 (fun H locs hP hD hS => ?_)
  have hP : va_P E.1 vwCl (List.flatten [w_Hist E a o (x.1, x.2.1, 0)]) H := hP
  have hD : va_D A (List.flatten [w_Hist E a o (x.1, x.2.1, 0)]) := hD
  obtain rfl := Option.some.inj hF
  exact en_v hQ (Nat.le_of_ble_eq_true rfl) (Nat.le_of_ble_eq_true rfl) hx hb hr hlocks hP hD hS dX5_forget_5
