/-! X6_init -/
theorem dX6_init_0 : decode cX6_init 0 = .ok (.aload_n 0, 1) := by decide +kernel
theorem dX6_init_1 : decode cX6_init 1 = .ok (.invokespecial 3, 3) := by decide +kernel
theorem dX6_init_4 : decode cX6_init 4 = .ok (.aload_n 0, 1) := by decide +kernel
theorem dX6_init_5 : decode cX6_init 5 = .ok (.iconst 0, 1) := by decide +kernel
theorem dX6_init_6 : decode cX6_init 6 = .ok (.putfield 9, 3) := by decide +kernel
theorem dX6_init_9 : decode cX6_init 9 = .ok (.aload_n 0, 1) := by decide +kernel
theorem dX6_init_10 : decode cX6_init 10 = .ok (.iconst 0, 1) := by decide +kernel
theorem dX6_init_11 : decode cX6_init 11 = .ok (.putfield 15, 3) := by decide +kernel
theorem dX6_init_14 : decode cX6_init 14 = .ok (.aload_n 0, 1) := by decide +kernel
theorem dX6_init_15 : decode cX6_init 15 = .ok (.bipush 10, 2) := by decide +kernel
theorem dX6_init_17 : decode cX6_init 17 = .ok (.putfield 19, 3) := by decide +kernel
theorem dX6_init_20 : decode cX6_init 20 = .ok (.return_, 1) := by decide +kernel
theorem hv_X6_init : yX6_init.cls ≠ "java/lang/invoke/MethodHandle" ∧ yX6_init.cls ≠ "java/lang/invoke/VarHandle" ∧ (parseMethodDescriptor yX6_init.desc).map (fun d => d.parameters.length) = some 0 := by decide +kernel
abbrev rm_X6_init : Room := { frames := 1, cells := 0, slots := 0, locals := 12 }
set_option maxHeartbeats 4000000 in
set_option maxRecDepth 100000 in
theorem k_X6_init (l : Launch) (E : ET) (a0 : Nat) (sz : Nat) : CtC l yX6_init (mws yX6_init cX6_init 1 none) rm_X6_init 0 0 [.ref a0] E [[(a0, .inr (7, [.int 0, .int 0, .int 0]))]] a0 (fun aN => bl_Key E aN 0 (0, 0, 10)) sz := by
  refine mk_M (by decide +kernel) (Nat.le_of_ble_eq_true rfl) ?_
  intro p e s m below meth c A args Q ls hAe hsz hQ hx hb hr hml hin ha hown hlocks hA hz hzs hst hP hD hS hl
  have hown : s.vm.findClass RX6 = some m.cls := hown
  rw [hAe] at hQ
  subst hsz
  have hl : lv_has ls 1 [(0, .ref a0)] := hl
  generalize hHe : s.heap = H at hP
  have hS : va_S A s.heap H [] := by rw [← hHe]; exact hS
  generalize ([] : List Loc) = locs at hS ⊢
  have hP : va_P E.1 vwCl (List.flatten [[(a0, .inr (7, [.int 0, .int 0, .int 0]))]]) H := hP
  have hD : va_D A (List.flatten [[(a0, .inr (7, [.int 0, .int 0, .int 0]))]]) := hD
  refine lv_aload_n hx hb dX6_init_0 rfl (lv_at hl 0 rfl) ?_
  refine W.objInit hx hb hown (ha _ mw75) (ha _ mw62) (ha _ mw63) rfl (by rw [hml]; exact hl.1) rfl dX6_init_1 (Nat.le_of_ble_eq_true rfl) (Nat.le_of_ble_eq_true rfl) ?_
  show W p l e _ s m args below meth c H locs 0 0 Q (F0 m 4 ls [])
  refine lv_aload_n hx hb dX6_init_4 rfl (lv_at hl 0 rfl) ?_
  refine lv_iconst (v := 0) hx hb dX6_init_5 (by decide) ?_
  refine va_put (D := E.1) (ci := 7) (v := .int 0) (ty := .int) (C := RX6) (T := TX6) (N := 3) hx hb ha in_X6 tyX6 tyX6_ok nmX6 hown hst.k hP hD hS 0 rfl rfl 0 (by decide) (ha _ mw76) (fun _ h9 => h9) rfl (tyX6_ok 0 (by decide)) rfl rfl (Nat.le_of_ble_eq_true rfl) dX6_init_6 (fun H locs hP hD hS => ?_)
  have hP : va_P E.1 vwCl (List.flatten [[(a0, .inr (7, [.int 0, .int 0, .int 0]))]]) H := hP
  have hD : va_D A (List.flatten [[(a0, .inr (7, [.int 0, .int 0, .int 0]))]]) := hD
  refine lv_aload_n hx hb dX6_init_9 rfl (lv_at hl 0 rfl) ?_
  refine lv_iconst (v := 0) hx hb dX6_init_10 (by decide) ?_
  refine va_put (D := E.1) (ci := 7) (v := .int 0) (ty := .boolean) (C := RX6) (T := TX6) (N := 3) hx hb ha in_X6 tyX6 tyX6_ok nmX6 hown hst.k hP hD hS 0 rfl rfl 1 (by decide) (ha _ mw78) (fun _ h9 => h9) rfl (tyX6_ok 1 (by decide)) (by decide) (by decide) (Nat.le_of_ble_eq_true rfl) dX6_init_11 (fun H locs hP hD hS => ?_)
  have hP : va_P E.1 vwCl (List.flatten [[(a0, .inr (7, [.int 0, .int 0, .int 0]))]]) H := hP
  have hD : va_D A (List.flatten [[(a0, .inr (7, [.int 0, .int 0, .int 0]))]]) := hD
  refine lv_aload_n hx hb dX6_init_14 rfl (lv_at hl 0 rfl) ?_
  refine lv_bipush (v := 10) hx hb dX6_init_15 (by decide) ?_
  refine va_put (D := E.1) (ci := 7) (v := .int 10) (ty := .int) (C := RX6) (T := TX6) (N := 3) hx hb ha in_X6 tyX6 tyX6_ok nmX6 hown hst.k hP hD hS 0 rfl rfl 2 (by decide) (ha _ mw80) (fun _ h9 => h9) rfl (tyX6_ok 2 (by decide)) rfl rfl (Nat.le_of_ble_eq_true rfl) dX6_init_17 (fun H locs hP hD hS => ?_)
  have hP : va_P E.1 vwCl (List.flatten [[(a0, .inr (7, [.int 0, .int 0, .int 10]))]]) H := hP
  have hD : va_D A (List.flatten [[(a0, .inr (7, [.int 0, .int 0, .int 10]))]]) := hD
  exact en_c (aN := (fun j => [a0].getD j 0)) hQ rfl (Nat.le_of_ble_eq_true rfl) (Nat.le_of_ble_eq_true rfl) hx hb hr hlocks hP hD hS dX6_init_20

/-! X1_init -/
theorem dX1_init_0 : decode cX1_init 0 = .ok (.aload_n 0, 1) := by decide +kernel
theorem dX1_init_1 : decode cX1_init 1 = .ok (.invokespecial 3, 3) := by decide +kernel
theorem dX1_init_4 : decode cX1_init 4 = .ok (.aload_n 0, 1) := by decide +kernel
theorem dX1_init_5 : decode cX1_init 5 = .ok (.bipush 12, 2) := by decide +kernel
theorem dX1_init_7 : decode cX1_init 7 = .ok (.newarray .int, 2) := by decide +kernel
theorem dX1_init_9 : decode cX1_init 9 = .ok (.putfield 11, 3) := by decide +kernel
theorem dX1_init_12 : decode cX1_init 12 = .ok (.aload_n 0, 1) := by decide +kernel
theorem dX1_init_13 : decode cX1_init 13 = .ok (.bipush 12, 2) := by decide +kernel
theorem dX1_init_15 : decode cX1_init 15 = .ok (.newarray .int, 2) := by decide +kernel
theorem dX1_init_17 : decode cX1_init 17 = .ok (.putfield 15, 3) := by decide +kernel
theorem dX1_init_20 : decode cX1_init 20 = .ok (.aload_n 0, 1) := by decide +kernel
theorem dX1_init_21 : decode cX1_init 21 = .ok (.iconst 0, 1) := by decide +kernel
theorem dX1_init_22 : decode cX1_init 22 = .ok (.putfield 18, 3) := by decide +kernel
theorem dX1_init_25 : decode cX1_init 25 = .ok (.return_, 1) := by decide +kernel
theorem hv_X1_init : yX1_init.cls ≠ "java/lang/invoke/MethodHandle" ∧ yX1_init.cls ≠ "java/lang/invoke/VarHandle" ∧ (parseMethodDescriptor yX1_init.desc).map (fun d => d.parameters.length) = some 0 := by decide +kernel
abbrev rm_X1_init : Room := { frames := 1, cells := 2, slots := 24, locals := 12 }
set_option maxHeartbeats 4000000 in
set_option maxRecDepth 100000 in
theorem k_X1_init (l : Launch) (E : ET) (a0 : Nat) (sz : Nat) : CtC l yX1_init (mws yX1_init cX1_init 1 none) rm_X1_init 2 24 [.ref a0] E [[(a0, .inr (3, [.null, .null, .int 0]))]] a0 (fun aN => bl_Bells E aN 0 (fun _ => 0, fun _ => 0, 0)) sz := by
  refine mk_M (by decide +kernel) (Nat.le_of_ble_eq_true rfl) ?_
  intro p e s m below meth c A args Q ls hAe hsz hQ hx hb hr hml hin ha hown hlocks hA hz hzs hst hP hD hS hl
  have hown : s.vm.findClass RX1 = some m.cls := hown
  rw [hAe] at hQ
  subst hsz
  have hl : lv_has ls 1 [(0, .ref a0)] := hl
  generalize hHe : s.heap = H at hP
  have hS : va_S A s.heap H [] := by rw [← hHe]; exact hS
  generalize ([] : List Loc) = locs at hS ⊢
  have hP : va_P E.1 vwCl (List.flatten [[(a0, .inr (3, [.null, .null, .int 0]))]]) H := hP
  have hD : va_D A (List.flatten [[(a0, .inr (3, [.null, .null, .int 0]))]]) := hD
  refine lv_aload_n hx hb dX1_init_0 rfl (lv_at hl 0 rfl) ?_
  refine W.objInit hx hb hown (ha _ mw94) (ha _ mw62) (ha _ mw63) rfl (by rw [hml]; exact hl.1) rfl dX1_init_1 (Nat.le_of_ble_eq_true rfl) (Nat.le_of_ble_eq_true rfl) ?_
  show W p l e _ s m args below meth c H locs 0 0 Q (F0 m 4 ls [])
  refine lv_aload_n hx hb dX1_init_4 rfl (lv_at hl 0 rfl) ?_
  refine lv_bipush (v := 12) hx hb dX1_init_5 (by decide) ?_
  refine vi_newa (atype := .int) (b0 := (12, .inl (fun _ => 0))) hx hb hst (ty := .int) (ha _ mw108) rfl hP hD hS hA (fun _ => rfl) 1 0 rfl (fun _ h => h) (by decide) rfl (Nat.le_of_ble_eq_true rfl) (Nat.le_of_ble_eq_true rfl) (Nat.le_of_ble_eq_true rfl) dX1_init_7 (fun q1 H hP hD hS => ?_)
  have hP : va_P E.1 vwCl (List.flatten [[(a0, .inr (3, [.null, .null, .int 0]))], [(q1, .inl (E.2 1, 12, .inl (fun _ => 0)))]]) H := hP
  have hD : va_D A (List.flatten [[(a0, .inr (3, [.null, .null, .int 0]))], [(q1, .inl (E.2 1, 12, .inl (fun _ => 0)))]]) := hD
  refine va_putF (D := E.1) (ci := 3) (v := .ref q1) (ty := .array .int) (C := RX1) (T := TX1) (N := 3) hx hb ha in_X1 tyX1 tyX1_ok nmX1 hown hst.k hP hD hS 0 rfl rfl 0 (by decide) (ha _ mw95) (fun _ h9 => h9) rfl hin rfl (tyX1_ok 0 (by decide)) rfl rfl (Nat.le_of_ble_eq_true rfl) dX1_init_9 (fun H locs hP hD hS => ?_)
  have hP : va_P E.1 vwCl (List.flatten [[(a0, .inr (3, [.ref q1, .null, .int 0]))], [(q1, .inl (E.2 1, 12, .inl (fun _ => 0)))]]) H := hP
  have hD : va_D A (List.flatten [[(a0, .inr (3, [.ref q1, .null, .int 0]))], [(q1, .inl (E.2 1, 12, .inl (fun _ => 0)))]]) := hD
  refine lv_aload_n hx hb dX1_init_12 rfl (lv_at hl 0 rfl) ?_
  refine lv_bipush (v := 12) hx hb dX1_init_13 (by decide) ?_
  refine vi_newa (atype := .int) (b0 := (12, .inl (fun _ => 0))) hx hb hst (ty := .int) (ha _ mw108) rfl hP hD hS hA (fun _ => rfl) 1 0 rfl (fun _ h => h) (by decide) rfl (Nat.le_of_ble_eq_true rfl) (Nat.le_of_ble_eq_true rfl) (Nat.le_of_ble_eq_true rfl) dX1_init_15 (fun q2 H hP hD hS => ?_)
  have hP : va_P E.1 vwCl (List.flatten [[(a0, .inr (3, [.ref q1, .null, .int 0]))], [(q1, .inl (E.2 1, 12, .inl (fun _ => 0)))], [(q2, .inl (E.2 1, 12, .inl (fun _ => 0)))]]) H := hP
  have hD : va_D A (List.flatten [[(a0, .inr (3, [.ref q1, .null, .int 0]))], [(q1, .inl (E.2 1, 12, .inl (fun _ => 0)))], [(q2, .inl (E.2 1, 12, .inl (fun _ => 0)))]]) := hD
  refine va_putF (D := E.1) (ci := 3) (v := .ref q2) (ty := .array .int) (C := RX1) (T := TX1) (N := 3) hx hb ha in_X1 tyX1 tyX1_ok nmX1 hown hst.k hP hD hS 0 rfl rfl 1 (by decide) (ha _ mw97) (fun _ h9 => h9) rfl hin rfl (tyX1_ok 1 (by decide)) rfl rfl (Nat.le_of_ble_eq_true rfl) dX1_init_17 (fun H locs hP hD hS => ?_)
  have hP : va_P E.1 vwCl (List.flatten [[(a0, .inr (3, [.ref q1, .ref q2, .int 0]))], [(q1, .inl (E.2 1, 12, .inl (fun _ => 0)))], [(q2, .inl (E.2 1, 12, .inl (fun _ => 0)))]]) H := hP
  have hD : va_D A (List.flatten [[(a0, .inr (3, [.ref q1, .ref q2, .int 0]))], [(q1, .inl (E.2 1, 12, .inl (fun _ => 0)))], [(q2, .inl (E.2 1, 12, .inl (fun _ => 0)))]]) := hD
  refine lv_aload_n hx hb dX1_init_20 rfl (lv_at hl 0 rfl) ?_
  refine lv_iconst (v := 0) hx hb dX1_init_21 (by decide) ?_
  refine va_put (D := E.1) (ci := 3) (v := .int 0) (ty := .int) (C := RX1) (T := TX1) (N := 3) hx hb ha in_X1 tyX1 tyX1_ok nmX1 hown hst.k hP hD hS 0 rfl rfl 2 (by decide) (ha _ mw99) (fun _ h9 => h9) rfl (tyX1_ok 2 (by decide)) rfl rfl (Nat.le_of_ble_eq_true rfl) dX1_init_22 (fun H locs hP hD hS => ?_)
  have hP : va_P E.1 vwCl (List.flatten [[(a0, .inr (3, [.ref q1, .ref q2, .int 0]))], [(q1, .inl (E.2 1, 12, .inl (fun _ => 0)))], [(q2, .inl (E.2 1, 12, .inl (fun _ => 0)))]]) H := hP
  have hD : va_D A (List.flatten [[(a0, .inr (3, [.ref q1, .ref q2, .int 0]))], [(q1, .inl (E.2 1, 12, .inl (fun _ => 0)))], [(q2, .inl (E.2 1, 12, .inl (fun _ => 0)))]]) := hD
  exact en_c (aN := (fun j => [a0, q1, q2].getD j 0)) hQ rfl (Nat.le_of_ble_eq_true rfl) (Nat.le_of_ble_eq_true rfl) hx hb hr hlocks hP hD hS dX1_init_25

/-! X7_init -/
theorem dX7_init_0 : decode cX7_init 0 = .ok (.aload_n 0, 1) := by decide +kernel
theorem dX7_init_1 : decode cX7_init 1 = .ok (.invokespecial 3, 3) := by decide +kernel
theorem dX7_init_4 : decode cX7_init 4 = .ok (.aload_n 0, 1) := by decide +kernel
theorem dX7_init_5 : decode cX7_init 5 = .ok (.iconst 4, 1) := by decide +kernel
theorem dX7_init_6 : decode cX7_init 6 = .ok (.newarray .int, 2) := by decide +kernel
theorem dX7_init_8 : decode cX7_init 8 = .ok (.putfield 9, 3) := by decide +kernel
theorem dX7_init_11 : decode cX7_init 11 = .ok (.aload_n 0, 1) := by decide +kernel
theorem dX7_init_12 : decode cX7_init 12 = .ok (.iconst 4, 1) := by decide +kernel
theorem dX7_init_13 : decode cX7_init 13 = .ok (.newarray .int, 2) := by decide +kernel
theorem dX7_init_15 : decode cX7_init 15 = .ok (.putfield 15, 3) := by decide +kernel
theorem dX7_init_18 : decode cX7_init 18 = .ok (.aload_n 0, 1) := by decide +kernel
theorem dX7_init_19 : decode cX7_init 19 = .ok (.bipush 32, 2) := by decide +kernel
theorem dX7_init_21 : decode cX7_init 21 = .ok (.newarray .int, 2) := by decide +kernel
theorem dX7_init_23 : decode cX7_init 23 = .ok (.putfield 18, 3) := by decide +kernel
theorem dX7_init_26 : decode cX7_init 26 = .ok (.return_, 1) := by decide +kernel
theorem hv_X7_init : yX7_init.cls ≠ "java/lang/invoke/MethodHandle" ∧ yX7_init.cls ≠ "java/lang/invoke/VarHandle" ∧ (parseMethodDescriptor yX7_init.desc).map (fun d => d.parameters.length) = some 0 := by decide +kernel
abbrev rm_X7_init : Room := { frames := 1, cells := 3, slots := 40, locals := 12 }
set_option maxHeartbeats 4000000 in
set_option maxRecDepth 100000 in
theorem k_X7_init (l : Launch) (E : ET) (a0 : Nat) (sz : Nat) : CtC l yX7_init (mws yX7_init cX7_init 1 none) rm_X7_init 3 40 [.ref a0] E [[(a0, .inr (8, [.null, .null, .null]))]] a0 (fun aN => bl_Mel E aN 0 (fun _ => 0, fun _ => 0, fun _ => 0)) sz := by
  refine mk_M (by decide +kernel) (Nat.le_of_ble_eq_true rfl) ?_
  intro p e s m below meth c A args Q ls hAe hsz hQ hx hb hr hml hin ha hown hlocks hA hz hzs hst hP hD hS hl
  have hown : s.vm.findClass RX7 = some m.cls := hown
  rw [hAe] at hQ
  subst hsz
  have hl : lv_has ls 1 [(0, .ref a0)] := hl
  generalize hHe : s.heap = H at hP
  have hS : va_S A s.heap H [] := by rw [← hHe]; exact hS
  generalize ([] : List Loc) = locs at hS ⊢
  have hP : va_P E.1 vwCl (List.flatten [[(a0, .inr (8, [.null, .null, .null]))]]) H := hP
  have hD : va_D A (List.flatten [[(a0, .inr (8, [.null, .null, .null]))]]) := hD
  refine lv_aload_n hx hb dX7_init_0 rfl (lv_at hl 0 rfl) ?_
  refine W.objInit hx hb hown (ha _ mw114) (ha _ mw62) (ha _ mw63) rfl (by rw [hml]; exact hl.1) rfl dX7_init_1 (Nat.le_of_ble_eq_true rfl) (Nat.le_of_ble_eq_true rfl) ?_
  show W p l e _ s m args below meth c H locs 0 0 Q (F0 m 4 ls [])
  refine lv_aload_n hx hb dX7_init_4 rfl (lv_at hl 0 rfl) ?_
  refine lv_iconst (v := 4) hx hb dX7_init_5 (by decide) ?_
  refine vi_newa (atype := .int) (b0 := (4, .inl (fun _ => 0))) hx hb hst (ty := .int) (ha _ mw108) rfl hP hD hS hA (fun _ => rfl) 1 0 rfl (fun _ h => h) (by decide) rfl (Nat.le_of_ble_eq_true rfl) (Nat.le_of_ble_eq_true rfl) (Nat.le_of_ble_eq_true rfl) dX7_init_6 (fun q1 H hP hD hS => ?_)
  have hP : va_P E.1 vwCl (List.flatten [[(a0, .inr (8, [.null, .null, .null]))], [(q1, .inl (E.2 1, 4, .inl (fun _ => 0)))]]) H := hP
  have hD : va_D A (List.flatten [[(a0, .inr (8, [.null, .null, .null]))], [(q1, .inl (E.2 1, 4, .inl (fun _ => 0)))]]) := hD
  refine va_putF (D := E.1) (ci := 8) (v := .ref q1) (ty := .array .int) (C := RX7) (T := TX7) (N := 3) hx hb ha in_X7 tyX7 tyX7_ok nmX7 hown hst.k hP hD hS 0 rfl rfl 0 (by decide) (ha _ mw115) (fun _ h9 => h9) rfl hin rfl (tyX7_ok 0 (by decide)) rfl rfl (Nat.le_of_ble_eq_true rfl) dX7_init_8 (fun H locs hP hD hS => ?_)
  have hP : va_P E.1 vwCl (List.flatten [[(a0, .inr (8, [.ref q1, .null, .null]))], [(q1, .inl (E.2 1, 4, .inl (fun _ => 0)))]]) H := hP
  have hD : va_D A (List.flatten [[(a0, .inr (8, [.ref q1, .null, .null]))], [(q1, .inl (E.2 1, 4, .inl (fun _ => 0)))]]) := hD
  refine lv_aload_n hx hb dX7_init_11 rfl (lv_at hl 0 rfl) ?_
  refine lv_iconst (v := 4) hx hb dX7_init_12 (by decide) ?_
  refine vi_newa (atype := .int) (b0 := (4, .inl (fun _ => 0))) hx hb hst (ty := .int) (ha _ mw108) rfl hP hD hS hA (fun _ => rfl) 1 0 rfl (fun _ h => h) (by decide) rfl (Nat.le_of_ble_eq_true rfl) (Nat.le_of_ble_eq_true rfl) (Nat.le_of_ble_eq_true rfl) dX7_init_13 (fun q2 H hP hD hS => ?_)
  have hP : va_P E.1 vwCl (List.flatten [[(a0, .inr (8, [.ref q1, .null, .null]))], [(q1, .inl (E.2 1, 4, .inl (fun _ => 0)))], [(q2, .inl (E.2 1, 4, .inl (fun _ => 0)))]]) H := hP
  have hD : va_D A (List.flatten [[(a0, .inr (8, [.ref q1, .null, .null]))], [(q1, .inl (E.2 1, 4, .inl (fun _ => 0)))], [(q2, .inl (E.2 1, 4, .inl (fun _ => 0)))]]) := hD
  refine va_putF (D := E.1) (ci := 8) (v := .ref q2) (ty := .array .int) (C := RX7) (T := TX7) (N := 3) hx hb ha in_X7 tyX7 tyX7_ok nmX7 hown hst.k hP hD hS 0 rfl rfl 1 (by decide) (ha _ mw118) (fun _ h9 => h9) rfl hin rfl (tyX7_ok 1 (by decide)) rfl rfl (Nat.le_of_ble_eq_true rfl) dX7_init_15 (fun H locs hP hD hS => ?_)
  have hP : va_P E.1 vwCl (List.flatten [[(a0, .inr (8, [.ref q1, .ref q2, .null]))], [(q1, .inl (E.2 1, 4, .inl (fun _ => 0)))], [(q2, .inl (E.2 1, 4, .inl (fun _ => 0)))]]) H := hP
  have hD : va_D A (List.flatten [[(a0, .inr (8, [.ref q1, .ref q2, .null]))], [(q1, .inl (E.2 1, 4, .inl (fun _ => 0)))], [(q2, .inl (E.2 1, 4, .inl (fun _ => 0)))]]) := hD
  refine lv_aload_n hx hb dX7_init_18 rfl (lv_at hl 0 rfl) ?_
  refine lv_bipush (v := 32) hx hb dX7_init_19 (by decide) ?_
  refine vi_newa (atype := .int) (b0 := (32, .inl (fun _ => 0))) hx hb hst (ty := .int) (ha _ mw108) rfl hP hD hS hA (fun _ => rfl) 1 0 rfl (fun _ h => h) (by decide) rfl (Nat.le_of_ble_eq_true rfl) (Nat.le_of_ble_eq_true rfl) (Nat.le_of_ble_eq_true rfl) dX7_init_21 (fun q3 H hP hD hS => ?_)
  have hP : va_P E.1 vwCl (List.flatten [[(a0, .inr (8, [.ref q1, .ref q2, .null]))], [(q1, .inl (E.2 1, 4, .inl (fun _ => 0)))], [(q2, .inl (E.2 1, 4, .inl (fun _ => 0)))], [(q3, .inl (E.2 1, 32, .inl (fun _ => 0)))]]) H := hP
  have hD : va_D A (List.flatten [[(a0, .inr (8, [.ref q1, .ref q2, .null]))], [(q1, .inl (E.2 1, 4, .inl (fun _ => 0)))], [(q2, .inl (E.2 1, 4, .inl (fun _ => 0)))], [(q3, .inl (E.2 1, 32, .inl (fun _ => 0)))]]) := hD
  refine va_putF (D := E.1) (ci := 8) (v := .ref q3) (ty := .array .int) (C := RX7) (T := TX7) (N := 3) hx hb ha in_X7 tyX7 tyX7_ok nmX7 hown hst.k hP hD hS 0 rfl rfl 2 (by decide) (ha _ mw120) (fun _ h9 => h9) rfl hin rfl (tyX7_ok 2 (by decide)) rfl rfl (Nat.le_of_ble_eq_true rfl) dX7_init_23 (fun H locs hP hD hS => ?_)
  have hP : va_P E.1 vwCl (List.flatten [[(a0, .inr (8, [.ref q1, .ref q2, .ref q3]))], [(q1, .inl (E.2 1, 4, .inl (fun _ => 0)))], [(q2, .inl (E.2 1, 4, .inl (fun _ => 0)))], [(q3, .inl (E.2 1, 32, .inl (fun _ => 0)))]]) H := hP
  have hD : va_D A (List.flatten [[(a0, .inr (8, [.ref q1, .ref q2, .ref q3]))], [(q1, .inl (E.2 1, 4, .inl (fun _ => 0)))], [(q2, .inl (E.2 1, 4, .inl (fun _ => 0)))], [(q3, .inl (E.2 1, 32, .inl (fun _ => 0)))]]) := hD
  exact en_c (aN := (fun j => [a0, q1, q2, q3].getD j 0)) hQ rfl (Nat.le_of_ble_eq_true rfl) (Nat.le_of_ble_eq_true rfl) hx hb hr hlocks hP hD hS dX7_init_26

/-! X3_init -/
theorem dX3_init_0 : decode cX3_init 0 = .ok (.aload_n 0, 1) := by decide +kernel
theorem dX3_init_1 : decode cX3_init 1 = .ok (.invokespecial 3, 3) := by decide +kernel
theorem dX3_init_4 : decode cX3_init 4 = .ok (.aload_n 0, 1) := by decide +kernel
theorem dX3_init_5 : decode cX3_init 5 = .ok (.iconst 4, 1) := by decide +kernel
theorem dX3_init_6 : decode cX3_init 6 = .ok (.newarray .int, 2) := by decide +kernel
theorem dX3_init_8 : decode cX3_init 8 = .ok (.putfield 11, 3) := by decide +kernel
theorem dX3_init_11 : decode cX3_init 11 = .ok (.aload_n 0, 1) := by decide +kernel
theorem dX3_init_12 : decode cX3_init 12 = .ok (.iconst 4, 1) := by decide +kernel
theorem dX3_init_13 : decode cX3_init 13 = .ok (.newarray .int, 2) := by decide +kernel
theorem dX3_init_15 : decode cX3_init 15 = .ok (.putfield 15, 3) := by decide +kernel
theorem dX3_init_18 : decode cX3_init 18 = .ok (.aload_n 0, 1) := by decide +kernel
theorem dX3_init_19 : decode cX3_init 19 = .ok (.iconst 0, 1) := by decide +kernel
theorem dX3_init_20 : decode cX3_init 20 = .ok (.putfield 18, 3) := by decide +kernel
theorem dX3_init_23 : decode cX3_init 23 = .ok (.return_, 1) := by decide +kernel
theorem hv_X3_init : yX3_init.cls ≠ "java/lang/invoke/MethodHandle" ∧ yX3_init.cls ≠ "java/lang/invoke/VarHandle" ∧ (parseMethodDescriptor yX3_init.desc).map (fun d => d.parameters.length) = some 0 := by decide +kernel
abbrev rm_X3_init : Room := { frames := 1, cells := 2, slots := 8, locals := 12 }
set_option maxHeartbeats 4000000 in
set_option maxRecDepth 100000 in
theorem k_X3_init (l : Launch) (E : ET) (a0 : Nat) (sz : Nat) : CtC l yX3_init (mws yX3_init cX3_init 1 none) rm_X3_init 2 8 [.ref a0] E [[(a0, .inr (5, [.null, .null, .int 0]))]] a0 (fun aN => bl_Cliffs E aN 0 (fun _ => 0, fun _ => 0, 0)) sz := by
  refine mk_M (by decide +kernel) (Nat.le_of_ble_eq_true rfl) ?_
  intro p e s m below meth c A args Q ls hAe hsz hQ hx hb hr hml hin ha hown hlocks hA hz hzs hst hP hD hS hl
  have hown : s.vm.findClass RX3 = some m.cls := hown
  rw [hAe] at hQ
  subst hsz
  have hl : lv_has ls 1 [(0, .ref a0)] := hl
  generalize hHe : s.heap = H at hP
  have hS : va_S A s.heap H [] := by rw [← hHe]; exact hS
  generalize ([] : List Loc) = locs at hS ⊢
  have hP : va_P E.1 vwCl (List.flatten [[(a0, .inr (5, [.null, .null, .int 0]))]]) H := hP
  have hD : va_D A (List.flatten [[(a0, .inr (5, [.null, .null, .int 0]))]]) := hD
  refine lv_aload_n hx hb dX3_init_0 rfl (lv_at hl 0 rfl) ?_
  refine W.objInit hx hb hown (ha _ mw133) (ha _ mw62) (ha _ mw63) rfl (by rw [hml]; exact hl.1) rfl dX3_init_1 (Nat.le_of_ble_eq_true rfl) (Nat.le_of_ble_eq_true rfl) ?_
  show W p l e _ s m args below meth c H locs 0 0 Q (F0 m 4 ls [])
  refine lv_aload_n hx hb dX3_init_4 rfl (lv_at hl 0 rfl) ?_
  refine lv_iconst (v := 4) hx hb dX3_init_5 (by decide) ?_
  refine vi_newa (atype := .int) (b0 := (4, .inl (fun _ => 0))) hx hb hst (ty := .int) (ha _ mw108) rfl hP hD hS hA (fun _ => rfl) 1 0 rfl (fun _ h => h) (by decide) rfl (Nat.le_of_ble_eq_true rfl) (Nat.le_of_ble_eq_true rfl) (Nat.le_of_ble_eq_true rfl) dX3_init_6 (fun q1 H hP hD hS => ?_)
  have hP : va_P E.1 vwCl (List.flatten [[(a0, .inr (5, [.null, .null, .int 0]))], [(q1, .inl (E.2 1, 4, .inl (fun _ => 0)))]]) H := hP
  have hD : va_D A (List.flatten [[(a0, .inr (5, [.null, .null, .int 0]))], [(q1, .inl (E.2 1, 4, .inl (fun _ => 0)))]]) := hD
  refine va_putF (D := E.1) (ci := 5) (v := .ref q1) (ty := .array .int) (C := RX3) (T := TX3) (N := 3) hx hb ha in_X3 tyX3 tyX3_ok nmX3 hown hst.k hP hD hS 0 rfl rfl 0 (by decide) (ha _ mw134) (fun _ h9 => h9) rfl hin rfl (tyX3_ok 0 (by decide)) rfl rfl (Nat.le_of_ble_eq_true rfl) dX3_init_8 (fun H locs hP hD hS => ?_)
  have hP : va_P E.1 vwCl (List.flatten [[(a0, .inr (5, [.ref q1, .null, .int 0]))], [(q1, .inl (E.2 1, 4, .inl (fun _ => 0)))]]) H := hP
  have hD : va_D A (List.flatten [[(a0, .inr (5, [.ref q1, .null, .int 0]))], [(q1, .inl (E.2 1, 4, .inl (fun _ => 0)))]]) := hD
  refine lv_aload_n hx hb dX3_init_11 rfl (lv_at hl 0 rfl) ?_
  refine lv_iconst (v := 4) hx hb dX3_init_12 (by decide) ?_
  refine vi_newa (atype := .int) (b0 := (4, .inl (fun _ => 0))) hx hb hst (ty := .int) (ha _ mw108) rfl hP hD hS hA (fun _ => rfl) 1 0 rfl (fun _ h => h) (by decide) rfl (Nat.le_of_ble_eq_true rfl) (Nat.le_of_ble_eq_true rfl) (Nat.le_of_ble_eq_true rfl) dX3_init_13 (fun q2 H hP hD hS => ?_)
  have hP : va_P E.1 vwCl (List.flatten [[(a0, .inr (5, [.ref q1, .null, .int 0]))], [(q1, .inl (E.2 1, 4, .inl (fun _ => 0)))], [(q2, .inl (E.2 1, 4, .inl (fun _ => 0)))]]) H := hP
  have hD : va_D A (List.flatten [[(a0, .inr (5, [.ref q1, .null, .int 0]))], [(q1, .inl (E.2 1, 4, .inl (fun _ => 0)))], [(q2, .inl (E.2 1, 4, .inl (fun _ => 0)))]]) := hD
  refine va_putF (D := E.1) (ci := 5) (v := .ref q2) (ty := .array .int) (C := RX3) (T := TX3) (N := 3) hx hb ha in_X3 tyX3 tyX3_ok nmX3 hown hst.k hP hD hS 0 rfl rfl 1 (by decide) (ha _ mw137) (fun _ h9 => h9) rfl hin rfl (tyX3_ok 1 (by decide)) rfl rfl (Nat.le_of_ble_eq_true rfl) dX3_init_15 (fun H locs hP hD hS => ?_)
  have hP : va_P E.1 vwCl (List.flatten [[(a0, .inr (5, [.ref q1, .ref q2, .int 0]))], [(q1, .inl (E.2 1, 4, .inl (fun _ => 0)))], [(q2, .inl (E.2 1, 4, .inl (fun _ => 0)))]]) H := hP
  have hD : va_D A (List.flatten [[(a0, .inr (5, [.ref q1, .ref q2, .int 0]))], [(q1, .inl (E.2 1, 4, .inl (fun _ => 0)))], [(q2, .inl (E.2 1, 4, .inl (fun _ => 0)))]]) := hD
  refine lv_aload_n hx hb dX3_init_18 rfl (lv_at hl 0 rfl) ?_
  refine lv_iconst (v := 0) hx hb dX3_init_19 (by decide) ?_
  refine va_put (D := E.1) (ci := 5) (v := .int 0) (ty := .int) (C := RX3) (T := TX3) (N := 3) hx hb ha in_X3 tyX3 tyX3_ok nmX3 hown hst.k hP hD hS 0 rfl rfl 2 (by decide) (ha _ mw140) (fun _ h9 => h9) rfl (tyX3_ok 2 (by decide)) rfl rfl (Nat.le_of_ble_eq_true rfl) dX3_init_20 (fun H locs hP hD hS => ?_)
  have hP : va_P E.1 vwCl (List.flatten [[(a0, .inr (5, [.ref q1, .ref q2, .int 0]))], [(q1, .inl (E.2 1, 4, .inl (fun _ => 0)))], [(q2, .inl (E.2 1, 4, .inl (fun _ => 0)))]]) H := hP
  have hD : va_D A (List.flatten [[(a0, .inr (5, [.ref q1, .ref q2, .int 0]))], [(q1, .inl (E.2 1, 4, .inl (fun _ => 0)))], [(q2, .inl (E.2 1, 4, .inl (fun _ => 0)))]]) := hD
  exact en_c (aN := (fun j => [a0, q1, q2].getD j 0)) hQ rfl (Nat.le_of_ble_eq_true rfl) (Nat.le_of_ble_eq_true rfl) hx hb hr hlocks hP hD hS dX3_init_23

/-! X2_init -/
theorem dX2_init_0 : decode cX2_init 0 = .ok (.aload_n 0, 1) := by decide +kernel
theorem dX2_init_1 : decode cX2_init 1 = .ok (.invokespecial 5, 3) := by decide +kernel
theorem dX2_init_4 : decode cX2_init 4 = .ok (.aload_n 0, 1) := by decide +kernel
theorem dX2_init_5 : decode cX2_init 5 = .ok (.bipush 20, 2) := by decide +kernel
theorem dX2_init_7 : decode cX2_init 7 = .ok (.newarray .int, 2) := by decide +kernel
theorem dX2_init_9 : decode cX2_init 9 = .ok (.putfield 13, 3) := by decide +kernel
theorem dX2_init_12 : decode cX2_init 12 = .ok (.aload_n 0, 1) := by decide +kernel
theorem dX2_init_13 : decode cX2_init 13 = .ok (.bipush 12, 2) := by decide +kernel
theorem dX2_init_15 : decode cX2_init 15 = .ok (.newarray .int, 2) := by decide +kernel
theorem dX2_init_17 : decode cX2_init 17 = .ok (.putfield 17, 3) := by decide +kernel
theorem dX2_init_20 : decode cX2_init 20 = .ok (.aload_n 0, 1) := by decide +kernel
theorem dX2_init_21 : decode cX2_init 21 = .ok (.iconst 0, 1) := by decide +kernel
theorem dX2_init_22 : decode cX2_init 22 = .ok (.putfield 20, 3) := by decide +kernel
theorem dX2_init_25 : decode cX2_init 25 = .ok (.return_, 1) := by decide +kernel
theorem hv_X2_init : yX2_init.cls ≠ "java/lang/invoke/MethodHandle" ∧ yX2_init.cls ≠ "java/lang/invoke/VarHandle" ∧ (parseMethodDescriptor yX2_init.desc).map (fun d => d.parameters.length) = some 0 := by decide +kernel
abbrev rm_X2_init : Room := { frames := 1, cells := 2, slots := 32, locals := 12 }
set_option maxHeartbeats 4000000 in
set_option maxRecDepth 100000 in
theorem k_X2_init (l : Launch) (E : ET) (a0 : Nat) (sz : Nat) : CtC l yX2_init (mws yX2_init cX2_init 1 none) rm_X2_init 2 32 [.ref a0] E [[(a0, .inr (4, [.null, .null, .int 0]))]] a0 (fun aN => bl_Chord E aN 0 (fun _ => 0, fun _ => 0, 0)) sz := by
  refine mk_M (by decide +kernel) (Nat.le_of_ble_eq_true rfl) ?_
  intro p e s m below meth c A args Q ls hAe hsz hQ hx hb hr hml hin ha hown hlocks hA hz hzs hst hP hD hS hl
  have hown : s.vm.findClass RX2 = some m.cls := hown
  rw [hAe] at hQ
  subst hsz
  have hl : lv_has ls 1 [(0, .ref a0)] := hl
  generalize hHe : s.heap = H at hP
  have hS : va_S A s.heap H [] := by rw [← hHe]; exact hS
  generalize ([] : List Loc) = locs at hS ⊢
  have hP : va_P E.1 vwCl (List.flatten [[(a0, .inr (4, [.null, .null, .int 0]))]]) H := hP
  have hD : va_D A (List.flatten [[(a0, .inr (4, [.null, .null, .int 0]))]]) := hD
  refine lv_aload_n hx hb dX2_init_0 rfl (lv_at hl 0 rfl) ?_
  refine W.objInit hx hb hown (ha _ mw239) (ha _ mw62) (ha _ mw63) rfl (by rw [hml]; exact hl.1) rfl dX2_init_1 (Nat.le_of_ble_eq_true rfl) (Nat.le_of_ble_eq_true rfl) ?_
  show W p l e _ s m args below meth c H locs 0 0 Q (F0 m 4 ls [])
  refine lv_aload_n hx hb dX2_init_4 rfl (lv_at hl 0 rfl) ?_
  refine lv_bipush (v := 20) hx hb dX2_init_5 (by decide) ?_
  refine vi_newa (atype := .int) (b0 := (20, .inl (fun _ => 0))) hx hb hst (ty := .int) (ha _ mw108) rfl hP hD hS hA (fun _ => rfl) 1 0 rfl (fun _ h => h) (by decide) rfl (Nat.le_of_ble_eq_true rfl) (Nat.le_of_ble_eq_true rfl) (Nat.le_of_ble_eq_true rfl) dX2_init_7 (fun q1 H hP hD hS => ?_)
  have hP : va_P E.1 vwCl (List.flatten [[(a0, .inr (4, [.null, .null, .int 0]))], [(q1, .inl (E.2 1, 20, .inl (fun _ => 0)))]]) H := hP
  have hD : va_D A (List.flatten [[(a0, .inr (4, [.null, .null, .int 0]))], [(q1, .inl (E.2 1, 20, .inl (fun _ => 0)))]]) := hD
  refine va_putF (D := E.1) (ci := 4) (v := .ref q1) (ty := .array .int) (C := RX2) (T := TX2) (N := 3) hx hb ha in_X2 tyX2 tyX2_ok nmX2 hown hst.k hP hD hS 0 rfl rfl 0 (by decide) (ha _ mw240) (fun _ h9 => h9) rfl hin rfl (tyX2_ok 0 (by decide)) rfl rfl (Nat.le_of_ble_eq_true rfl) dX2_init_9 (fun H locs hP hD hS => ?_)
  have hP : va_P E.1 vwCl (List.flatten [[(a0, .inr (4, [.ref q1, .null, .int 0]))], [(q1, .inl (E.2 1, 20, .inl (fun _ => 0)))]]) H := hP
  have hD : va_D A (List.flatten [[(a0, .inr (4, [.ref q1, .null, .int 0]))], [(q1, .inl (E.2 1, 20, .inl (fun _ => 0)))]]) := hD
  refine lv_aload_n hx hb dX2_init_12 rfl (lv_at hl 0 rfl) ?_
  refine lv_bipush (v := 12) hx hb dX2_init_13 (by decide) ?_
  refine vi_newa (atype := .int) (b0 := (12, .inl (fun _ => 0))) hx hb hst (ty := .int) (ha _ mw108) rfl hP hD hS hA (fun _ => rfl) 1 0 rfl (fun _ h => h) (by decide) rfl (Nat.le_of_ble_eq_true rfl) (Nat.le_of_ble_eq_true rfl) (Nat.le_of_ble_eq_true rfl) dX2_init_15 (fun q2 H hP hD hS => ?_)
  have hP : va_P E.1 vwCl (List.flatten [[(a0, .inr (4, [.ref q1, .null, .int 0]))], [(q1, .inl (E.2 1, 20, .inl (fun _ => 0)))], [(q2, .inl (E.2 1, 12, .inl (fun _ => 0)))]]) H := hP
  have hD : va_D A (List.flatten [[(a0, .inr (4, [.ref q1, .null, .int 0]))], [(q1, .inl (E.2 1, 20, .inl (fun _ => 0)))], [(q2, .inl (E.2 1, 12, .inl (fun _ => 0)))]]) := hD
  refine va_putF (D := E.1) (ci := 4) (v := .ref q2) (ty := .array .int) (C := RX2) (T := TX2) (N := 3) hx hb ha in_X2 tyX2 tyX2_ok nmX2 hown hst.k hP hD hS 0 rfl rfl 1 (by decide) (ha _ mw242) (fun _ h9 => h9) rfl hin rfl (tyX2_ok 1 (by decide)) rfl rfl (Nat.le_of_ble_eq_true rfl) dX2_init_17 (fun H locs hP hD hS => ?_)
  have hP : va_P E.1 vwCl (List.flatten [[(a0, .inr (4, [.ref q1, .ref q2, .int 0]))], [(q1, .inl (E.2 1, 20, .inl (fun _ => 0)))], [(q2, .inl (E.2 1, 12, .inl (fun _ => 0)))]]) H := hP
  have hD : va_D A (List.flatten [[(a0, .inr (4, [.ref q1, .ref q2, .int 0]))], [(q1, .inl (E.2 1, 20, .inl (fun _ => 0)))], [(q2, .inl (E.2 1, 12, .inl (fun _ => 0)))]]) := hD
  refine lv_aload_n hx hb dX2_init_20 rfl (lv_at hl 0 rfl) ?_
  refine lv_iconst (v := 0) hx hb dX2_init_21 (by decide) ?_
  refine va_put (D := E.1) (ci := 4) (v := .int 0) (ty := .int) (C := RX2) (T := TX2) (N := 3) hx hb ha in_X2 tyX2 tyX2_ok nmX2 hown hst.k hP hD hS 0 rfl rfl 2 (by decide) (ha _ mw243) (fun _ h9 => h9) rfl (tyX2_ok 2 (by decide)) rfl rfl (Nat.le_of_ble_eq_true rfl) dX2_init_22 (fun H locs hP hD hS => ?_)
  have hP : va_P E.1 vwCl (List.flatten [[(a0, .inr (4, [.ref q1, .ref q2, .int 0]))], [(q1, .inl (E.2 1, 20, .inl (fun _ => 0)))], [(q2, .inl (E.2 1, 12, .inl (fun _ => 0)))]]) H := hP
  have hD : va_D A (List.flatten [[(a0, .inr (4, [.ref q1, .ref q2, .int 0]))], [(q1, .inl (E.2 1, 20, .inl (fun _ => 0)))], [(q2, .inl (E.2 1, 12, .inl (fun _ => 0)))]]) := hD
  exact en_c (aN := (fun j => [a0, q1, q2].getD j 0)) hQ rfl (Nat.le_of_ble_eq_true rfl) (Nat.le_of_ble_eq_true rfl) hx hb hr hlocks hP hD hS dX2_init_25

/-! X8_init -/
theorem dX8_init_0 : decode cX8_init 0 = .ok (.aload_n 0, 1) := by decide +kernel
theorem dX8_init_1 : decode cX8_init 1 = .ok (.invokespecial 3, 3) := by decide +kernel
theorem dX8_init_4 : decode cX8_init 4 = .ok (.aload_n 0, 1) := by decide +kernel
theorem dX8_init_5 : decode cX8_init 5 = .ok (.bipush 60, 2) := by decide +kernel
theorem dX8_init_7 : decode cX8_init 7 = .ok (.newarray .char, 2) := by decide +kernel
theorem dX8_init_9 : decode cX8_init 9 = .ok (.putfield 11, 3) := by decide +kernel
theorem dX8_init_12 : decode cX8_init 12 = .ok (.aload_n 0, 1) := by decide +kernel
theorem dX8_init_13 : decode cX8_init 13 = .ok (.iconst 0, 1) := by decide +kernel
theorem dX8_init_14 : decode cX8_init 14 = .ok (.putfield 15, 3) := by decide +kernel
theorem dX8_init_17 : decode cX8_init 17 = .ok (.aload_n 0, 1) := by decide +kernel
theorem dX8_init_18 : decode cX8_init 18 = .ok (.bipush 60, 2) := by decide +kernel
theorem dX8_init_20 : decode cX8_init 20 = .ok (.anewarray 19, 3) := by decide +kernel
theorem dX8_init_23 : decode cX8_init 23 = .ok (.putfield 21, 3) := by decide +kernel
theorem dX8_init_26 : decode cX8_init 26 = .ok (.aload_n 0, 1) := by decide +kernel
theorem dX8_init_27 : decode cX8_init 27 = .ok (.bipush 60, 2) := by decide +kernel
theorem dX8_init_29 : decode cX8_init 29 = .ok (.newarray .int, 2) := by decide +kernel
theorem dX8_init_31 : decode cX8_init 31 = .ok (.putfield 25, 3) := by decide +kernel
theorem dX8_init_34 : decode cX8_init 34 = .ok (.aload_n 0, 1) := by decide +kernel
theorem dX8_init_35 : decode cX8_init 35 = .ok (.bipush 60, 2) := by decide +kernel
theorem dX8_init_37 : decode cX8_init 37 = .ok (.newarray .int, 2) := by decide +kernel
theorem dX8_init_39 : decode cX8_init 39 = .ok (.putfield 29, 3) := by decide +kernel
theorem dX8_init_42 : decode cX8_init 42 = .ok (.aload_n 0, 1) := by decide +kernel
theorem dX8_init_43 : decode cX8_init 43 = .ok (.iconst 0, 1) := by decide +kernel
theorem dX8_init_44 : decode cX8_init 44 = .ok (.putfield 32, 3) := by decide +kernel
theorem dX8_init_47 : decode cX8_init 47 = .ok (.aload_n 0, 1) := by decide +kernel
theorem dX8_init_48 : decode cX8_init 48 = .ok (.iconst 2, 1) := by decide +kernel
theorem dX8_init_49 : decode cX8_init 49 = .ok (.newarray .int, 2) := by decide +kernel
theorem dX8_init_51 : decode cX8_init 51 = .ok (.putfield 35, 3) := by decide +kernel
theorem dX8_init_54 : decode cX8_init 54 = .ok (.aload_n 0, 1) := by decide +kernel
theorem dX8_init_55 : decode cX8_init 55 = .ok (.iconst 0, 1) := by decide +kernel
theorem dX8_init_56 : decode cX8_init 56 = .ok (.putfield 38, 3) := by decide +kernel
theorem dX8_init_59 : decode cX8_init 59 = .ok (.aload_n 0, 1) := by decide +kernel
theorem dX8_init_60 : decode cX8_init 60 = .ok (.iconst 1, 1) := by decide +kernel
theorem dX8_init_61 : decode cX8_init 61 = .ok (.putfield 41, 3) := by decide +kernel
theorem dX8_init_64 : decode cX8_init 64 = .ok (.aload_n 0, 1) := by decide +kernel
theorem dX8_init_65 : decode cX8_init 65 = .ok (.iconst 0, 1) := by decide +kernel
theorem dX8_init_66 : decode cX8_init 66 = .ok (.putfield 44, 3) := by decide +kernel
theorem dX8_init_69 : decode cX8_init 69 = .ok (.aload_n 0, 1) := by decide +kernel
theorem dX8_init_70 : decode cX8_init 70 = .ok (.iconst 0, 1) := by decide +kernel
theorem dX8_init_71 : decode cX8_init 71 = .ok (.putfield 47, 3) := by decide +kernel
theorem dX8_init_74 : decode cX8_init 74 = .ok (.return_, 1) := by decide +kernel
theorem hv_X8_init : yX8_init.cls ≠ "java/lang/invoke/MethodHandle" ∧ yX8_init.cls ≠ "java/lang/invoke/VarHandle" ∧ (parseMethodDescriptor yX8_init.desc).map (fun d => d.parameters.length) = some 0 := by decide +kernel
abbrev rm_X8_init : Room := { frames := 1, cells := 5, slots := 242, locals := 12 }
set_option maxHeartbeats 4000000 in
set_option maxRecDepth 100000 in
theorem k_X8_init (l : Launch) (E : ET) (a0 : Nat) (sz : Nat) : CtC l yX8_init (mws yX8_init cX8_init 1 none) rm_X8_init 5 242 [.ref a0] E [[(a0, .inr (9, [.null, .int 0, .null, .null, .null, .int 0, .null, .int 0, .int 0, .int 0, .int 0]))]] a0 (fun aN => bl_Prog E aN 0 ((fun _ => 0, 0, fun _ => none, fun _ => 0), (fun _ => 0, 0, fun _ => 0, 0), (1, 0, 0))) sz := by
  refine mk_M (by decide +kernel) (Nat.le_of_ble_eq_true rfl) ?_
  intro p e s m below meth c A args Q ls hAe hsz hQ hx hb hr hml hin ha hown hlocks hA hz hzs hst hP hD hS hl
  have hown : s.vm.findClass RX8 = some m.cls := hown
  rw [hAe] at hQ
  subst hsz
  have hl : lv_has ls 1 [(0, .ref a0)] := hl
  generalize hHe : s.heap = H at hP
  have hS : va_S A s.heap H [] := by rw [← hHe]; exact hS
  generalize ([] : List Loc) = locs at hS ⊢
  have hP : va_P E.1 vwCl (List.flatten [[(a0, .inr (9, [.null, .int 0, .null, .null, .null, .int 0, .null, .int 0, .int 0, .int 0, .int 0]))]]) H := hP
  have hD : va_D A (List.flatten [[(a0, .inr (9, [.null, .int 0, .null, .null, .null, .int 0, .null, .int 0, .int 0, .int 0, .int 0]))]]) := hD
  refine lv_aload_n hx hb dX8_init_0 rfl (lv_at hl 0 rfl) ?_
  refine W.objInit hx hb hown (ha _ mw195) (ha _ mw62) (ha _ mw63) rfl (by rw [hml]; exact hl.1) rfl dX8_init_1 (Nat.le_of_ble_eq_true rfl) (Nat.le_of_ble_eq_true rfl) ?_
  show W p l e _ s m args below meth c H locs 0 0 Q (F0 m 4 ls [])
  refine lv_aload_n hx hb dX8_init_4 rfl (lv_at hl 0 rfl) ?_
  refine lv_bipush (v := 60) hx hb dX8_init_5 (by decide) ?_
  refine vi_newa (atype := .char) (b0 := (60, .inl (fun _ => 0))) hx hb hst (ty := .char) (ha _ mw233) rfl hP hD hS hA (fun _ => rfl) 2 1 rfl (fun _ h => h) (by decide) rfl (Nat.le_of_ble_eq_true rfl) (Nat.le_of_ble_eq_true rfl) (Nat.le_of_ble_eq_true rfl) dX8_init_7 (fun q1 H hP hD hS => ?_)
  have hP : va_P E.1 vwCl (List.flatten [[(a0, .inr (9, [.null, .int 0, .null, .null, .null, .int 0, .null, .int 0, .int 0, .int 0, .int 0]))], [(q1, .inl (E.2 2, 60, .inl (fun _ => 0)))]]) H := hP
  have hD : va_D A (List.flatten [[(a0, .inr (9, [.null, .int 0, .null, .null, .null, .int 0, .null, .int 0, .int 0, .int 0, .int 0]))], [(q1, .inl (E.2 2, 60, .inl (fun _ => 0)))]]) := hD
  refine va_putF (D := E.1) (ci := 9) (v := .ref q1) (ty := .array .char) (C := RX8) (T := TX8) (N := 11) hx hb ha in_X8 tyX8 tyX8_ok nmX8 hown hst.k hP hD hS 0 rfl rfl 0 (by decide) (ha _ mw198) (fun _ h9 => h9) rfl hin rfl (tyX8_ok 0 (by decide)) rfl rfl (Nat.le_of_ble_eq_true rfl) dX8_init_9 (fun H locs hP hD hS => ?_)
  have hP : va_P E.1 vwCl (List.flatten [[(a0, .inr (9, [.ref q1, .int 0, .null, .null, .null, .int 0, .null, .int 0, .int 0, .int 0, .int 0]))], [(q1, .inl (E.2 2, 60, .inl (fun _ => 0)))]]) H := hP
  have hD : va_D A (List.flatten [[(a0, .inr (9, [.ref q1, .int 0, .null, .null, .null, .int 0, .null, .int 0, .int 0, .int 0, .int 0]))], [(q1, .inl (E.2 2, 60, .inl (fun _ => 0)))]]) := hD
  refine lv_aload_n hx hb dX8_init_12 rfl (lv_at hl 0 rfl) ?_
  refine lv_iconst (v := 0) hx hb dX8_init_13 (by decide) ?_
  refine va_put (D := E.1) (ci := 9) (v := .int 0) (ty := .int) (C := RX8) (T := TX8) (N := 11) hx hb ha in_X8 tyX8 tyX8_ok nmX8 hown hst.k hP hD hS 0 rfl rfl 1 (by decide) (ha _ mw199) (fun _ h9 => h9) rfl (tyX8_ok 1 (by decide)) rfl rfl (Nat.le_of_ble_eq_true rfl) dX8_init_14 (fun H locs hP hD hS => ?_)
  have hP : va_P E.1 vwCl (List.flatten [[(a0, .inr (9, [.ref q1, .int 0, .null, .null, .null, .int 0, .null, .int 0, .int 0, .int 0, .int 0]))], [(q1, .inl (E.2 2, 60, .inl (fun _ => 0)))]]) H := hP
  have hD : va_D A (List.flatten [[(a0, .inr (9, [.ref q1, .int 0, .null, .null, .null, .int 0, .null, .int 0, .int 0, .int 0, .int 0]))], [(q1, .inl (E.2 2, 60, .inl (fun _ => 0)))]]) := hD
  refine lv_aload_n hx hb dX8_init_17 rfl (lv_at hl 0 rfl) ?_
  refine lv_bipush (v := 60) hx hb dX8_init_18 (by decide) ?_
  refine vi_newq hx hb hst hown (ha _ mw196) hst.ac hP hD hS hA 5 4 rfl (by decide) rfl (Nat.le_of_ble_eq_true rfl) (Nat.le_of_ble_eq_true rfl) (Nat.le_of_ble_eq_true rfl) dX8_init_20 (fun q2 H hP hD hS => ?_)
  have hP : va_P E.1 vwCl (List.flatten [[(a0, .inr (9, [.ref q1, .int 0, .null, .null, .null, .int 0, .null, .int 0, .int 0, .int 0, .int 0]))], [(q1, .inl (E.2 2, 60, .inl (fun _ => 0)))], [(q2, .inl (E.2 5, 60, .inr (.inr (.inr (.inr (fun _ => none))))))]]) H := hP
  have hD : va_D A (List.flatten [[(a0, .inr (9, [.ref q1, .int 0, .null, .null, .null, .int 0, .null, .int 0, .int 0, .int 0, .int 0]))], [(q1, .inl (E.2 2, 60, .inl (fun _ => 0)))], [(q2, .inl (E.2 5, 60, .inr (.inr (.inr (.inr (fun _ => none))))))]]) := hD
  refine va_putF (D := E.1) (ci := 9) (v := .ref q2) (ty := .array (.object "ValleyBells$Command")) (C := RX8) (T := TX8) (N := 11) hx hb ha in_X8 tyX8 tyX8_ok nmX8 hown hst.k hP hD hS 0 rfl rfl 2 (by decide) (ha _ mw200) (fun _ h9 => h9) rfl hin rfl (tyX8_ok 2 (by decide)) rfl rfl (Nat.le_of_ble_eq_true rfl) dX8_init_23 (fun H locs hP hD hS => ?_)
  have hP : va_P E.1 vwCl (List.flatten [[(a0, .inr (9, [.ref q1, .int 0, .ref q2, .null, .null, .int 0, .null, .int 0, .int 0, .int 0, .int 0]))], [(q1, .inl (E.2 2, 60, .inl (fun _ => 0)))], [(q2, .inl (E.2 5, 60, .inr (.inr (.inr (.inr (fun _ => none))))))]]) H := hP
  have hD : va_D A (List.flatten [[(a0, .inr (9, [.ref q1, .int 0, .ref q2, .null, .null, .int 0, .null, .int 0, .int 0, .int 0, .int 0]))], [(q1, .inl (E.2 2, 60, .inl (fun _ => 0)))], [(q2, .inl (E.2 5, 60, .inr (.inr (.inr (.inr (fun _ => none))))))]]) := hD
  refine lv_aload_n hx hb dX8_init_26 rfl (lv_at hl 0 rfl) ?_
  refine lv_bipush (v := 60) hx hb dX8_init_27 (by decide) ?_
  refine vi_newa (atype := .int) (b0 := (60, .inl (fun _ => 0))) hx hb hst (ty := .int) (ha _ mw108) rfl hP hD hS hA (fun _ => rfl) 1 0 rfl (fun _ h => h) (by decide) rfl (Nat.le_of_ble_eq_true rfl) (Nat.le_of_ble_eq_true rfl) (Nat.le_of_ble_eq_true rfl) dX8_init_29 (fun q3 H hP hD hS => ?_)
  have hP : va_P E.1 vwCl (List.flatten [[(a0, .inr (9, [.ref q1, .int 0, .ref q2, .null, .null, .int 0, .null, .int 0, .int 0, .int 0, .int 0]))], [(q1, .inl (E.2 2, 60, .inl (fun _ => 0)))], [(q2, .inl (E.2 5, 60, .inr (.inr (.inr (.inr (fun _ => none))))))], [(q3, .inl (E.2 1, 60, .inl (fun _ => 0)))]]) H := hP
  have hD : va_D A (List.flatten [[(a0, .inr (9, [.ref q1, .int 0, .ref q2, .null, .null, .int 0, .null, .int 0, .int 0, .int 0, .int 0]))], [(q1, .inl (E.2 2, 60, .inl (fun _ => 0)))], [(q2, .inl (E.2 5, 60, .inr (.inr (.inr (.inr (fun _ => none))))))], [(q3, .inl (E.2 1, 60, .inl (fun _ => 0)))]]) := hD
  refine va_putF (D := E.1) (ci := 9) (v := .ref q3) (ty := .array .int) (C := RX8) (T := TX8) (N := 11) hx hb ha in_X8 tyX8 tyX8_ok nmX8 hown hst.k hP hD hS 0 rfl rfl 3 (by decide) (ha _ mw201) (fun _ h9 => h9) rfl hin rfl (tyX8_ok 3 (by decide)) rfl rfl (Nat.le_of_ble_eq_true rfl) dX8_init_31 (fun H locs hP hD hS => ?_)
  have hP : va_P E.1 vwCl (List.flatten [[(a0, .inr (9, [.ref q1, .int 0, .ref q2, .ref q3, .null, .int 0, .null, .int 0, .int 0, .int 0, .int 0]))], [(q1, .inl (E.2 2, 60, .inl (fun _ => 0)))], [(q2, .inl (E.2 5, 60, .inr (.inr (.inr (.inr (fun _ => none))))))], [(q3, .inl (E.2 1, 60, .inl (fun _ => 0)))]]) H := hP
  have hD : va_D A (List.flatten [[(a0, .inr (9, [.ref q1, .int 0, .ref q2, .ref q3, .null, .int 0, .null, .int 0, .int 0, .int 0, .int 0]))], [(q1, .inl (E.2 2, 60, .inl (fun _ => 0)))], [(q2, .inl (E.2 5, 60, .inr (.inr (.inr (.inr (fun _ => none))))))], [(q3, .inl (E.2 1, 60, .inl (fun _ => 0)))]]) := hD
  refine lv_aload_n hx hb dX8_init_34 rfl (lv_at hl 0 rfl) ?_
  refine lv_bipush (v := 60) hx hb dX8_init_35 (by decide) ?_
  refine vi_newa (atype := .int) (b0 := (60, .inl (fun _ => 0))) hx hb hst (ty := .int) (ha _ mw108) rfl hP hD hS hA (fun _ => rfl) 1 0 rfl (fun _ h => h) (by decide) rfl (Nat.le_of_ble_eq_true rfl) (Nat.le_of_ble_eq_true rfl) (Nat.le_of_ble_eq_true rfl) dX8_init_37 (fun q4 H hP hD hS => ?_)
  have hP : va_P E.1 vwCl (List.flatten [[(a0, .inr (9, [.ref q1, .int 0, .ref q2, .ref q3, .null, .int 0, .null, .int 0, .int 0, .int 0, .int 0]))], [(q1, .inl (E.2 2, 60, .inl (fun _ => 0)))], [(q2, .inl (E.2 5, 60, .inr (.inr (.inr (.inr (fun _ => none))))))], [(q3, .inl (E.2 1, 60, .inl (fun _ => 0)))], [(q4, .inl (E.2 1, 60, .inl (fun _ => 0)))]]) H := hP
  have hD : va_D A (List.flatten [[(a0, .inr (9, [.ref q1, .int 0, .ref q2, .ref q3, .null, .int 0, .null, .int 0, .int 0, .int 0, .int 0]))], [(q1, .inl (E.2 2, 60, .inl (fun _ => 0)))], [(q2, .inl (E.2 5, 60, .inr (.inr (.inr (.inr (fun _ => none))))))], [(q3, .inl (E.2 1, 60, .inl (fun _ => 0)))], [(q4, .inl (E.2 1, 60, .inl (fun _ => 0)))]]) := hD
  refine va_putF (D := E.1) (ci := 9) (v := .ref q4) (ty := .array .int) (C := RX8) (T := TX8) (N := 11) hx hb ha in_X8 tyX8 tyX8_ok nmX8 hown hst.k hP hD hS 0 rfl rfl 4 (by decide) (ha _ mw202) (fun _ h9 => h9) rfl hin rfl (tyX8_ok 4 (by decide)) rfl rfl (Nat.le_of_ble_eq_true rfl) dX8_init_39 (fun H locs hP hD hS => ?_)
  have hP : va_P E.1 vwCl (List.flatten [[(a0, .inr (9, [.ref q1, .int 0, .ref q2, .ref q3, .ref q4, .int 0, .null, .int 0, .int 0, .int 0, .int 0]))], [(q1, .inl (E.2 2, 60, .inl (fun _ => 0)))], [(q2, .inl (E.2 5, 60, .inr (.inr (.inr (.inr (fun _ => none))))))], [(q3, .inl (E.2 1, 60, .inl (fun _ => 0)))], [(q4, .inl (E.2 1, 60, .inl (fun _ => 0)))]]) H := hP
  have hD : va_D A (List.flatten [[(a0, .inr (9, [.ref q1, .int 0, .ref q2, .ref q3, .ref q4, .int 0, .null, .int 0, .int 0, .int 0, .int 0]))], [(q1, .inl (E.2 2, 60, .inl (fun _ => 0)))], [(q2, .inl (E.2 5, 60, .inr (.inr (.inr (.inr (fun _ => none))))))], [(q3, .inl (E.2 1, 60, .inl (fun _ => 0)))], [(q4, .inl (E.2 1, 60, .inl (fun _ => 0)))]]) := hD
  refine lv_aload_n hx hb dX8_init_42 rfl (lv_at hl 0 rfl) ?_
  refine lv_iconst (v := 0) hx hb dX8_init_43 (by decide) ?_
  refine va_put (D := E.1) (ci := 9) (v := .int 0) (ty := .int) (C := RX8) (T := TX8) (N := 11) hx hb ha in_X8 tyX8 tyX8_ok nmX8 hown hst.k hP hD hS 0 rfl rfl 5 (by decide) (ha _ mw203) (fun _ h9 => h9) rfl (tyX8_ok 5 (by decide)) rfl rfl (Nat.le_of_ble_eq_true rfl) dX8_init_44 (fun H locs hP hD hS => ?_)
  have hP : va_P E.1 vwCl (List.flatten [[(a0, .inr (9, [.ref q1, .int 0, .ref q2, .ref q3, .ref q4, .int 0, .null, .int 0, .int 0, .int 0, .int 0]))], [(q1, .inl (E.2 2, 60, .inl (fun _ => 0)))], [(q2, .inl (E.2 5, 60, .inr (.inr (.inr (.inr (fun _ => none))))))], [(q3, .inl (E.2 1, 60, .inl (fun _ => 0)))], [(q4, .inl (E.2 1, 60, .inl (fun _ => 0)))]]) H := hP
  have hD : va_D A (List.flatten [[(a0, .inr (9, [.ref q1, .int 0, .ref q2, .ref q3, .ref q4, .int 0, .null, .int 0, .int 0, .int 0, .int 0]))], [(q1, .inl (E.2 2, 60, .inl (fun _ => 0)))], [(q2, .inl (E.2 5, 60, .inr (.inr (.inr (.inr (fun _ => none))))))], [(q3, .inl (E.2 1, 60, .inl (fun _ => 0)))], [(q4, .inl (E.2 1, 60, .inl (fun _ => 0)))]]) := hD
  refine lv_aload_n hx hb dX8_init_47 rfl (lv_at hl 0 rfl) ?_
  refine lv_iconst (v := 2) hx hb dX8_init_48 (by decide) ?_
  refine vi_newa (atype := .int) (b0 := (2, .inl (fun _ => 0))) hx hb hst (ty := .int) (ha _ mw108) rfl hP hD hS hA (fun _ => rfl) 1 0 rfl (fun _ h => h) (by decide) rfl (Nat.le_of_ble_eq_true rfl) (Nat.le_of_ble_eq_true rfl) (Nat.le_of_ble_eq_true rfl) dX8_init_49 (fun q5 H hP hD hS => ?_)
  have hP : va_P E.1 vwCl (List.flatten [[(a0, .inr (9, [.ref q1, .int 0, .ref q2, .ref q3, .ref q4, .int 0, .null, .int 0, .int 0, .int 0, .int 0]))], [(q1, .inl (E.2 2, 60, .inl (fun _ => 0)))], [(q2, .inl (E.2 5, 60, .inr (.inr (.inr (.inr (fun _ => none))))))], [(q3, .inl (E.2 1, 60, .inl (fun _ => 0)))], [(q4, .inl (E.2 1, 60, .inl (fun _ => 0)))], [(q5, .inl (E.2 1, 2, .inl (fun _ => 0)))]]) H := hP
  have hD : va_D A (List.flatten [[(a0, .inr (9, [.ref q1, .int 0, .ref q2, .ref q3, .ref q4, .int 0, .null, .int 0, .int 0, .int 0, .int 0]))], [(q1, .inl (E.2 2, 60, .inl (fun _ => 0)))], [(q2, .inl (E.2 5, 60, .inr (.inr (.inr (.inr (fun _ => none))))))], [(q3, .inl (E.2 1, 60, .inl (fun _ => 0)))], [(q4, .inl (E.2 1, 60, .inl (fun _ => 0)))], [(q5, .inl (E.2 1, 2, .inl (fun _ => 0)))]]) := hD
  refine va_putF (D := E.1) (ci := 9) (v := .ref q5) (ty := .array .int) (C := RX8) (T := TX8) (N := 11) hx hb ha in_X8 tyX8 tyX8_ok nmX8 hown hst.k hP hD hS 0 rfl rfl 6 (by decide) (ha _ mw205) (fun _ h9 => h9) rfl hin rfl (tyX8_ok 6 (by decide)) rfl rfl (Nat.le_of_ble_eq_true rfl) dX8_init_51 (fun H locs hP hD hS => ?_)
  have hP : va_P E.1 vwCl (List.flatten [[(a0, .inr (9, [.ref q1, .int 0, .ref q2, .ref q3, .ref q4, .int 0, .ref q5, .int 0, .int 0, .int 0, .int 0]))], [(q1, .inl (E.2 2, 60, .inl (fun _ => 0)))], [(q2, .inl (E.2 5, 60, .inr (.inr (.inr (.inr (fun _ => none))))))], [(q3, .inl (E.2 1, 60, .inl (fun _ => 0)))], [(q4, .inl (E.2 1, 60, .inl (fun _ => 0)))], [(q5, .inl (E.2 1, 2, .inl (fun _ => 0)))]]) H := hP
  have hD : va_D A (List.flatten [[(a0, .inr (9, [.ref q1, .int 0, .ref q2, .ref q3, .ref q4, .int 0, .ref q5, .int 0, .int 0, .int 0, .int 0]))], [(q1, .inl (E.2 2, 60, .inl (fun _ => 0)))], [(q2, .inl (E.2 5, 60, .inr (.inr (.inr (.inr (fun _ => none))))))], [(q3, .inl (E.2 1, 60, .inl (fun _ => 0)))], [(q4, .inl (E.2 1, 60, .inl (fun _ => 0)))], [(q5, .inl (E.2 1, 2, .inl (fun _ => 0)))]]) := hD
  refine lv_aload_n hx hb dX8_init_54 rfl (lv_at hl 0 rfl) ?_
  refine lv_iconst (v := 0) hx hb dX8_init_55 (by decide) ?_
  refine va_put (D := E.1) (ci := 9) (v := .int 0) (ty := .int) (C := RX8) (T := TX8) (N := 11) hx hb ha in_X8 tyX8 tyX8_ok nmX8 hown hst.k hP hD hS 0 rfl rfl 7 (by decide) (ha _ mw206) (fun _ h9 => h9) rfl (tyX8_ok 7 (by decide)) rfl rfl (Nat.le_of_ble_eq_true rfl) dX8_init_56 (fun H locs hP hD hS => ?_)
  have hP : va_P E.1 vwCl (List.flatten [[(a0, .inr (9, [.ref q1, .int 0, .ref q2, .ref q3, .ref q4, .int 0, .ref q5, .int 0, .int 0, .int 0, .int 0]))], [(q1, .inl (E.2 2, 60, .inl (fun _ => 0)))], [(q2, .inl (E.2 5, 60, .inr (.inr (.inr (.inr (fun _ => none))))))], [(q3, .inl (E.2 1, 60, .inl (fun _ => 0)))], [(q4, .inl (E.2 1, 60, .inl (fun _ => 0)))], [(q5, .inl (E.2 1, 2, .inl (fun _ => 0)))]]) H := hP
  have hD : va_D A (List.flatten [[(a0, .inr (9, [.ref q1, .int 0, .ref q2, .ref q3, .ref q4, .int 0, .ref q5, .int 0, .int 0, .int 0, .int 0]))], [(q1, .inl (E.2 2, 60, .inl (fun _ => 0)))], [(q2, .inl (E.2 5, 60, .inr (.inr (.inr (.inr (fun _ => none))))))], [(q3, .inl (E.2 1, 60, .inl (fun _ => 0)))], [(q4, .inl (E.2 1, 60, .inl (fun _ => 0)))], [(q5, .inl (E.2 1, 2, .inl (fun _ => 0)))]]) := hD
  refine lv_aload_n hx hb dX8_init_59 rfl (lv_at hl 0 rfl) ?_
  refine lv_iconst (v := 1) hx hb dX8_init_60 (by decide) ?_
  refine va_put (D := E.1) (ci := 9) (v := .int 1) (ty := .int) (C := RX8) (T := TX8) (N := 11) hx hb ha in_X8 tyX8 tyX8_ok nmX8 hown hst.k hP hD hS 0 rfl rfl 8 (by decide) (ha _ mw207) (fun _ h9 => h9) rfl (tyX8_ok 8 (by decide)) rfl rfl (Nat.le_of_ble_eq_true rfl) dX8_init_61 (fun H locs hP hD hS => ?_)
  have hP : va_P E.1 vwCl (List.flatten [[(a0, .inr (9, [.ref q1, .int 0, .ref q2, .ref q3, .ref q4, .int 0, .ref q5, .int 0, .int 1, .int 0, .int 0]))], [(q1, .inl (E.2 2, 60, .inl (fun _ => 0)))], [(q2, .inl (E.2 5, 60, .inr (.inr (.inr (.inr (fun _ => none))))))], [(q3, .inl (E.2 1, 60, .inl (fun _ => 0)))], [(q4, .inl (E.2 1, 60, .inl (fun _ => 0)))], [(q5, .inl (E.2 1, 2, .inl (fun _ => 0)))]]) H := hP
  have hD : va_D A (List.flatten [[(a0, .inr (9, [.ref q1, .int 0, .ref q2, .ref q3, .ref q4, .int 0, .ref q5, .int 0, .int 1, .int 0, .int 0]))], [(q1, .inl (E.2 2, 60, .inl (fun _ => 0)))], [(q2, .inl (E.2 5, 60, .inr (.inr (.inr (.inr (fun _ => none))))))], [(q3, .inl (E.2 1, 60, .inl (fun _ => 0)))], [(q4, .inl (E.2 1, 60, .inl (fun _ => 0)))], [(q5, .inl (E.2 1, 2, .inl (fun _ => 0)))]]) := hD
  refine lv_aload_n hx hb dX8_init_64 rfl (lv_at hl 0 rfl) ?_
  refine lv_iconst (v := 0) hx hb dX8_init_65 (by decide) ?_
  refine va_put (D := E.1) (ci := 9) (v := .int 0) (ty := .int) (C := RX8) (T := TX8) (N := 11) hx hb ha in_X8 tyX8 tyX8_ok nmX8 hown hst.k hP hD hS 0 rfl rfl 9 (by decide) (ha _ mw208) (fun _ h9 => h9) rfl (tyX8_ok 9 (by decide)) rfl rfl (Nat.le_of_ble_eq_true rfl) dX8_init_66 (fun H locs hP hD hS => ?_)
  have hP : va_P E.1 vwCl (List.flatten [[(a0, .inr (9, [.ref q1, .int 0, .ref q2, .ref q3, .ref q4, .int 0, .ref q5, .int 0, .int 1, .int 0, .int 0]))], [(q1, .inl (E.2 2, 60, .inl (fun _ => 0)))], [(q2, .inl (E.2 5, 60, .inr (.inr (.inr (.inr (fun _ => none))))))], [(q3, .inl (E.2 1, 60, .inl (fun _ => 0)))], [(q4, .inl (E.2 1, 60, .inl (fun _ => 0)))], [(q5, .inl (E.2 1, 2, .inl (fun _ => 0)))]]) H := hP
  have hD : va_D A (List.flatten [[(a0, .inr (9, [.ref q1, .int 0, .ref q2, .ref q3, .ref q4, .int 0, .ref q5, .int 0, .int 1, .int 0, .int 0]))], [(q1, .inl (E.2 2, 60, .inl (fun _ => 0)))], [(q2, .inl (E.2 5, 60, .inr (.inr (.inr (.inr (fun _ => none))))))], [(q3, .inl (E.2 1, 60, .inl (fun _ => 0)))], [(q4, .inl (E.2 1, 60, .inl (fun _ => 0)))], [(q5, .inl (E.2 1, 2, .inl (fun _ => 0)))]]) := hD
  refine lv_aload_n hx hb dX8_init_69 rfl (lv_at hl 0 rfl) ?_
  refine lv_iconst (v := 0) hx hb dX8_init_70 (by decide) ?_
  refine va_put (D := E.1) (ci := 9) (v := .int 0) (ty := .int) (C := RX8) (T := TX8) (N := 11) hx hb ha in_X8 tyX8 tyX8_ok nmX8 hown hst.k hP hD hS 0 rfl rfl 10 (by decide) (ha _ mw209) (fun _ h9 => h9) rfl (tyX8_ok 10 (by decide)) rfl rfl (Nat.le_of_ble_eq_true rfl) dX8_init_71 (fun H locs hP hD hS => ?_)
  have hP : va_P E.1 vwCl (List.flatten [[(a0, .inr (9, [.ref q1, .int 0, .ref q2, .ref q3, .ref q4, .int 0, .ref q5, .int 0, .int 1, .int 0, .int 0]))], [(q1, .inl (E.2 2, 60, .inl (fun _ => 0)))], [(q2, .inl (E.2 5, 60, .inr (.inr (.inr (.inr (fun _ => none))))))], [(q3, .inl (E.2 1, 60, .inl (fun _ => 0)))], [(q4, .inl (E.2 1, 60, .inl (fun _ => 0)))], [(q5, .inl (E.2 1, 2, .inl (fun _ => 0)))]]) H := hP
  have hD : va_D A (List.flatten [[(a0, .inr (9, [.ref q1, .int 0, .ref q2, .ref q3, .ref q4, .int 0, .ref q5, .int 0, .int 1, .int 0, .int 0]))], [(q1, .inl (E.2 2, 60, .inl (fun _ => 0)))], [(q2, .inl (E.2 5, 60, .inr (.inr (.inr (.inr (fun _ => none))))))], [(q3, .inl (E.2 1, 60, .inl (fun _ => 0)))], [(q4, .inl (E.2 1, 60, .inl (fun _ => 0)))], [(q5, .inl (E.2 1, 2, .inl (fun _ => 0)))]]) := hD
  exact en_c (aN := (fun j => [a0, q1, q2, q3, q4, q5].getD j 0)) hQ rfl (Nat.le_of_ble_eq_true rfl) (Nat.le_of_ble_eq_true rfl) hx hb hr hlocks hP hD hS dX8_init_74

/-! X9_init -/
theorem dX9_init_0 : decode cX9_init 0 = .ok (.aload_n 0, 1) := by decide +kernel
theorem dX9_init_1 : decode cX9_init 1 = .ok (.invokespecial 3, 3) := by decide +kernel
theorem dX9_init_4 : decode cX9_init 4 = .ok (.aload_n 0, 1) := by decide +kernel
theorem dX9_init_5 : decode cX9_init 5 = .ok (.new 9, 3) := by decide +kernel
theorem dX9_init_8 : decode cX9_init 8 = .ok (.dup, 1) := by decide +kernel
theorem dX9_init_9 : decode cX9_init 9 = .ok (.invokespecial 11, 3) := by decide +kernel
theorem dX9_init_12 : decode cX9_init 12 = .ok (.putfield 12, 3) := by decide +kernel
theorem dX9_init_15 : decode cX9_init 15 = .ok (.aload_n 0, 1) := by decide +kernel
theorem dX9_init_16 : decode cX9_init 16 = .ok (.new 18, 3) := by decide +kernel
theorem dX9_init_19 : decode cX9_init 19 = .ok (.dup, 1) := by decide +kernel
theorem dX9_init_20 : decode cX9_init 20 = .ok (.invokespecial 20, 3) := by decide +kernel
theorem dX9_init_23 : decode cX9_init 23 = .ok (.putfield 21, 3) := by decide +kernel
theorem dX9_init_26 : decode cX9_init 26 = .ok (.aload_n 0, 1) := by decide +kernel
theorem dX9_init_27 : decode cX9_init 27 = .ok (.new 25, 3) := by decide +kernel
theorem dX9_init_30 : decode cX9_init 30 = .ok (.dup, 1) := by decide +kernel
theorem dX9_init_31 : decode cX9_init 31 = .ok (.invokespecial 27, 3) := by decide +kernel
theorem dX9_init_34 : decode cX9_init 34 = .ok (.putfield 28, 3) := by decide +kernel
theorem dX9_init_37 : decode cX9_init 37 = .ok (.aload_n 0, 1) := by decide +kernel
theorem dX9_init_38 : decode cX9_init 38 = .ok (.new 32, 3) := by decide +kernel
theorem dX9_init_41 : decode cX9_init 41 = .ok (.dup, 1) := by decide +kernel
theorem dX9_init_42 : decode cX9_init 42 = .ok (.invokespecial 34, 3) := by decide +kernel
theorem dX9_init_45 : decode cX9_init 45 = .ok (.putfield 35, 3) := by decide +kernel
theorem dX9_init_48 : decode cX9_init 48 = .ok (.return_, 1) := by decide +kernel
theorem hv_X9_init : yX9_init.cls ≠ "java/lang/invoke/MethodHandle" ∧ yX9_init.cls ≠ "java/lang/invoke/VarHandle" ∧ (parseMethodDescriptor yX9_init.desc).map (fun d => d.parameters.length) = some 0 := by decide +kernel
abbrev rm_X9_init : Room := { frames := 2, cells := 11, slots := 84, locals := 32 }
set_option maxHeartbeats 4000000 in
set_option maxRecDepth 100000 in
theorem k_X9_init (l : Launch) (E : ET) (a0 : Nat) (sz : Nat) : CtC l yX9_init (mws yX9_init cX9_init 1 none) rm_X9_init 11 84 [.ref a0] E [[(a0, .inr (10, [.null, .null, .null, .null]))]] a0 (fun aN => bl_Valley E aN 0 v_init) sz := by
  refine mk_M (by decide +kernel) (Nat.le_of_ble_eq_true rfl) ?_
  intro p e s m below meth c A args Q ls hAe hsz hQ hx hb hr hml hin ha hown hlocks hA hz hzs hst hP hD hS hl
  have hown : s.vm.findClass RX9 = some m.cls := hown
  rw [hAe] at hQ
  subst hsz
  have hl : lv_has ls 1 [(0, .ref a0)] := hl
  generalize hHe : s.heap = H at hP
  have hS : va_S A s.heap H [] := by rw [← hHe]; exact hS
  generalize ([] : List Loc) = locs at hS ⊢
  have hP : va_P E.1 vwCl (List.flatten [[(a0, .inr (10, [.null, .null, .null, .null]))]]) H := hP
  have hD : va_D A (List.flatten [[(a0, .inr (10, [.null, .null, .null, .null]))]]) := hD
  refine lv_aload_n hx hb dX9_init_0 rfl (lv_at hl 0 rfl) ?_
  refine W.objInit hx hb hown (ha _ mw69) (ha _ mw62) (ha _ mw63) rfl (by rw [hml]; exact hl.1) rfl dX9_init_1 (Nat.le_of_ble_eq_true rfl) (Nat.le_of_ble_eq_true rfl) ?_
  show W p l e _ s m args below meth c H locs 0 0 Q (F0 m 4 ls [])
  refine lv_aload_n hx hb dX9_init_4 rfl (lv_at hl 0 rfl) ?_
  refine vi_new (C := RX6) (T := TX6) (N := 3) (ci := 7) (fs := [.int 0, .int 0, .int 0]) hx hb hst ha in_X6 tyX6 tyX6_ok hown mw70 mw71 mw28 hP hD hS hA rfl (by decide +kernel) (Nat.le_of_ble_eq_true rfl) (Nat.le_of_ble_eq_true rfl) dX9_init_5 (fun q1 H hP hD hS => ?_)
  have hP : va_P E.1 vwCl (List.flatten [[(a0, .inr (10, [.null, .null, .null, .null]))], [(q1, .inr (7, [.int 0, .int 0, .int 0]))]]) H := hP
  have hD : va_D A (List.flatten [[(a0, .inr (10, [.null, .null, .null, .null]))], [(q1, .inr (7, [.int 0, .int 0, .int 0]))]]) := hD
  refine lv_dup hx hb dX9_init_8 rfl ?_
  refine cl_c (L0 := [[(a0, .inr (10, [.null, .null, .null, .null]))]]) (Lc := [[(q1, .inr (7, [.int 0, .int 0, .int 0]))]]) (a0 := q1) (Lf := fun aN => bl_Key E aN 0 (0, 0, 10)) (va_runIN (As := []) (rest := [.ref q1, .ref a0]) ⟨hx, hb, hml, hown, ha⟩ (k_X6_init l E q1 H.size) ⟨va_cnB 0 ha (gi_B (fun _ h => h) mw74) rfl rfl rfl (nm1 hst) (ha _ mw28) hv_X6_init ⟨(Nat.le_of_ble_eq_true rfl), (Nat.le_of_ble_eq_true rfl)⟩, rfl, ha _ mw73⟩ ⟨pre_blind, pre_at (L := [[(a0, .inr (10, [.null, .null, .null, .null]))], [(q1, .inr (7, [.int 0, .int 0, .int 0]))]]) hP hD hS hz hzs hst [1] (by decide) rfl rfl⟩ rfl rfl hl.1 rfl (lv_room (Nat.le_of_ble_eq_true rfl)) dX9_init_9 ⟨(Nat.le_of_ble_eq_true rfl), (Nat.le_of_ble_eq_true rfl)⟩) hP hD hS hA (fun b2 Hn ln ha0 hPn hDn hSn => ?_)
  clear hP hD hS
  subst ha0
  revert hPn hDn hSn; revert ln; revert Hn; intro H locs hP hD hS
  have hP : va_P E.1 vwCl (List.flatten [[(a0, .inr (10, [.null, .null, .null, .null]))], w_Key E b2 0 (0, 0, 10)]) H := hP
  have hD : va_D A (List.flatten [[(a0, .inr (10, [.null, .null, .null, .null]))], w_Key E b2 0 (0, 0, 10)]) := hD
  refine va_putF (D := E.1) (ci := 10) (v := .ref (b2 0)) (ty := .object "ValleyBells$Key") (C := RX9) (T := TX9) (N := 4) hx hb ha in_X9 tyX9 tyX9_ok nmX9 hown hst.k hP hD hS 0 rfl rfl 0 (by decide) (ha _ mw150) (fun _ h9 => h9) rfl hin rfl (tyX9_ok 0 (by decide)) rfl rfl (Nat.le_of_ble_eq_true rfl) dX9_init_12 (fun H locs hP hD hS => ?_)
  have hP : va_P E.1 vwCl (List.flatten [[(a0, .inr (10, [.ref (b2 0), .null, .null, .null]))], w_Key E b2 0 (0, 0, 10)]) H := hP
  have hD : va_D A (List.flatten [[(a0, .inr (10, [.ref (b2 0), .null, .null, .null]))], w_Key E b2 0 (0, 0, 10)]) := hD
  refine lv_aload_n hx hb dX9_init_15 rfl (lv_at hl 0 rfl) ?_
  refine vi_new (C := RX1) (T := TX1) (N := 3) (ci := 3) (fs := [.null, .null, .int 0]) hx hb hst ha in_X1 tyX1 tyX1_ok hown mw89 mw90 mw29 hP hD hS hA rfl (by decide +kernel) (Nat.le_of_ble_eq_true rfl) (Nat.le_of_ble_eq_true rfl) dX9_init_16 (fun q3 H hP hD hS => ?_)
  have hP : va_P E.1 vwCl (List.flatten [[(a0, .inr (10, [.ref (b2 0), .null, .null, .null]))], w_Key E b2 0 (0, 0, 10), [(q3, .inr (3, [.null, .null, .int 0]))]]) H := hP
  have hD : va_D A (List.flatten [[(a0, .inr (10, [.ref (b2 0), .null, .null, .null]))], w_Key E b2 0 (0, 0, 10), [(q3, .inr (3, [.null, .null, .int 0]))]]) := hD
  refine lv_dup hx hb dX9_init_19 rfl ?_
  refine cl_c (L0 := [[(a0, .inr (10, [.ref (b2 0), .null, .null, .null]))], w_Key E b2 0 (0, 0, 10)]) (Lc := [[(q3, .inr (3, [.null, .null, .int 0]))]]) (a0 := q3) (Lf := fun aN => bl_Bells E aN 0 (fun _ => 0, fun _ => 0, 0)) (va_runIN (As := []) (rest := [.ref q3, .ref a0]) ⟨hx, hb, hml, hown, ha⟩ (k_X1_init l E q3 H.size) ⟨va_cnB 0 ha (gi_B (fun _ h => h) mw93) rfl rfl rfl (nm2 hst) (ha _ mw29) hv_X1_init ⟨(Nat.le_of_ble_eq_true rfl), (Nat.le_of_ble_eq_true rfl)⟩, rfl, ha _ mw92⟩ ⟨pre_blind, pre_at (L := [[(a0, .inr (10, [.ref (b2 0), .null, .null, .null]))], w_Key E b2 0 (0, 0, 10), [(q3, .inr (3, [.null, .null, .int 0]))]]) hP hD hS hz hzs hst [2] (by decide) rfl rfl⟩ rfl rfl hl.1 rfl (lv_room (Nat.le_of_ble_eq_true rfl)) dX9_init_20 ⟨(Nat.le_of_ble_eq_true rfl), (Nat.le_of_ble_eq_true rfl)⟩) hP hD hS hA (fun b4 Hn ln ha0 hPn hDn hSn => ?_)
  clear hP hD hS
  subst ha0
  revert hPn hDn hSn; revert ln; revert Hn; intro H locs hP hD hS
  have hP : va_P E.1 vwCl (List.flatten [[(a0, .inr (10, [.ref (b2 0), .null, .null, .null]))], w_Key E b2 0 (0, 0, 10), w_Bells E b4 0 (fun _ => 0, fun _ => 0, 0)]) H := hP
  have hD : va_D A (List.flatten [[(a0, .inr (10, [.ref (b2 0), .null, .null, .null]))], w_Key E b2 0 (0, 0, 10), w_Bells E b4 0 (fun _ => 0, fun _ => 0, 0)]) := hD
  refine va_putF (D := E.1) (ci := 10) (v := .ref (b4 0)) (ty := .object "ValleyBells$Bells") (C := RX9) (T := TX9) (N := 4) hx hb ha in_X9 tyX9 tyX9_ok nmX9 hown hst.k hP hD hS 0 rfl rfl 1 (by decide) (ha _ mw152) (fun _ h9 => h9) rfl hin rfl (tyX9_ok 1 (by decide)) rfl rfl (Nat.le_of_ble_eq_true rfl) dX9_init_23 (fun H locs hP hD hS => ?_)
  have hP : va_P E.1 vwCl (List.flatten [[(a0, .inr (10, [.ref (b2 0), .ref (b4 0), .null, .null]))], w_Key E b2 0 (0, 0, 10), w_Bells E b4 0 (fun _ => 0, fun _ => 0, 0)]) H := hP
  have hD : va_D A (List.flatten [[(a0, .inr (10, [.ref (b2 0), .ref (b4 0), .null, .null]))], w_Key E b2 0 (0, 0, 10), w_Bells E b4 0 (fun _ => 0, fun _ => 0, 0)]) := hD
  refine lv_aload_n hx hb dX9_init_26 rfl (lv_at hl 0 rfl) ?_
  refine vi_new (C := RX7) (T := TX7) (N := 3) (ci := 8) (fs := [.null, .null, .null]) hx hb hst ha in_X7 tyX7 tyX7_ok hown mw109 mw110 mw30 hP hD hS hA rfl (by decide +kernel) (Nat.le_of_ble_eq_true rfl) (Nat.le_of_ble_eq_true rfl) dX9_init_27 (fun q5 H hP hD hS => ?_)
  have hP : va_P E.1 vwCl (List.flatten [[(a0, .inr (10, [.ref (b2 0), .ref (b4 0), .null, .null]))], w_Key E b2 0 (0, 0, 10), w_Bells E b4 0 (fun _ => 0, fun _ => 0, 0), [(q5, .inr (8, [.null, .null, .null]))]]) H := hP
  have hD : va_D A (List.flatten [[(a0, .inr (10, [.ref (b2 0), .ref (b4 0), .null, .null]))], w_Key E b2 0 (0, 0, 10), w_Bells E b4 0 (fun _ => 0, fun _ => 0, 0), [(q5, .inr (8, [.null, .null, .null]))]]) := hD
  refine lv_dup hx hb dX9_init_30 rfl ?_
  refine cl_c (L0 := [[(a0, .inr (10, [.ref (b2 0), .ref (b4 0), .null, .null]))], w_Key E b2 0 (0, 0, 10), w_Bells E b4 0 (fun _ => 0, fun _ => 0, 0)]) (Lc := [[(q5, .inr (8, [.null, .null, .null]))]]) (a0 := q5) (Lf := fun aN => bl_Mel E aN 0 (fun _ => 0, fun _ => 0, fun _ => 0)) (va_runIN (As := []) (rest := [.ref q5, .ref a0]) ⟨hx, hb, hml, hown, ha⟩ (k_X7_init l E q5 H.size) ⟨va_cnB 0 ha (gi_B (fun _ h => h) mw113) rfl rfl rfl (nm3 hst) (ha _ mw30) hv_X7_init ⟨(Nat.le_of_ble_eq_true rfl), (Nat.le_of_ble_eq_true rfl)⟩, rfl, ha _ mw112⟩ ⟨pre_blind, pre_at (L := [[(a0, .inr (10, [.ref (b2 0), .ref (b4 0), .null, .null]))], w_Key E b2 0 (0, 0, 10), w_Bells E b4 0 (fun _ => 0, fun _ => 0, 0), [(q5, .inr (8, [.null, .null, .null]))]]) hP hD hS hz hzs hst [3] (by decide) rfl rfl⟩ rfl rfl hl.1 rfl (lv_room (Nat.le_of_ble_eq_true rfl)) dX9_init_31 ⟨(Nat.le_of_ble_eq_true rfl), (Nat.le_of_ble_eq_true rfl)⟩) hP hD hS hA (fun b6 Hn ln ha0 hPn hDn hSn => ?_)
  clear hP hD hS
  subst ha0
  revert hPn hDn hSn; revert ln; revert Hn; intro H locs hP hD hS
  have hP : va_P E.1 vwCl (List.flatten [[(a0, .inr (10, [.ref (b2 0), .ref (b4 0), .null, .null]))], w_Key E b2 0 (0, 0, 10), w_Bells E b4 0 (fun _ => 0, fun _ => 0, 0), w_Mel E b6 0 (fun _ => 0, fun _ => 0, fun _ => 0)]) H := hP
  have hD : va_D A (List.flatten [[(a0, .inr (10, [.ref (b2 0), .ref (b4 0), .null, .null]))], w_Key E b2 0 (0, 0, 10), w_Bells E b4 0 (fun _ => 0, fun _ => 0, 0), w_Mel E b6 0 (fun _ => 0, fun _ => 0, fun _ => 0)]) := hD
  refine va_putF (D := E.1) (ci := 10) (v := .ref (b6 0)) (ty := .object "ValleyBells$Melodies") (C := RX9) (T := TX9) (N := 4) hx hb ha in_X9 tyX9 tyX9_ok nmX9 hown hst.k hP hD hS 0 rfl rfl 2 (by decide) (ha _ mw155) (fun _ h9 => h9) rfl hin rfl (tyX9_ok 2 (by decide)) rfl rfl (Nat.le_of_ble_eq_true rfl) dX9_init_34 (fun H locs hP hD hS => ?_)
  have hP : va_P E.1 vwCl (List.flatten [[(a0, .inr (10, [.ref (b2 0), .ref (b4 0), .ref (b6 0), .null]))], w_Key E b2 0 (0, 0, 10), w_Bells E b4 0 (fun _ => 0, fun _ => 0, 0), w_Mel E b6 0 (fun _ => 0, fun _ => 0, fun _ => 0)]) H := hP
  have hD : va_D A (List.flatten [[(a0, .inr (10, [.ref (b2 0), .ref (b4 0), .ref (b6 0), .null]))], w_Key E b2 0 (0, 0, 10), w_Bells E b4 0 (fun _ => 0, fun _ => 0, 0), w_Mel E b6 0 (fun _ => 0, fun _ => 0, fun _ => 0)]) := hD
  refine lv_aload_n hx hb dX9_init_37 rfl (lv_at hl 0 rfl) ?_
  refine vi_new (C := RX3) (T := TX3) (N := 3) (ci := 5) (fs := [.null, .null, .int 0]) hx hb hst ha in_X3 tyX3 tyX3_ok hown mw128 mw129 mw31 hP hD hS hA rfl (by decide +kernel) (Nat.le_of_ble_eq_true rfl) (Nat.le_of_ble_eq_true rfl) dX9_init_38 (fun q7 H hP hD hS => ?_)
  have hP : va_P E.1 vwCl (List.flatten [[(a0, .inr (10, [.ref (b2 0), .ref (b4 0), .ref (b6 0), .null]))], w_Key E b2 0 (0, 0, 10), w_Bells E b4 0 (fun _ => 0, fun _ => 0, 0), w_Mel E b6 0 (fun _ => 0, fun _ => 0, fun _ => 0), [(q7, .inr (5, [.null, .null, .int 0]))]]) H := hP
  have hD : va_D A (List.flatten [[(a0, .inr (10, [.ref (b2 0), .ref (b4 0), .ref (b6 0), .null]))], w_Key E b2 0 (0, 0, 10), w_Bells E b4 0 (fun _ => 0, fun _ => 0, 0), w_Mel E b6 0 (fun _ => 0, fun _ => 0, fun _ => 0), [(q7, .inr (5, [.null, .null, .int 0]))]]) := hD
  refine lv_dup hx hb dX9_init_41 rfl ?_
  refine cl_c (L0 := [[(a0, .inr (10, [.ref (b2 0), .ref (b4 0), .ref (b6 0), .null]))], w_Key E b2 0 (0, 0, 10), w_Bells E b4 0 (fun _ => 0, fun _ => 0, 0), w_Mel E b6 0 (fun _ => 0, fun _ => 0, fun _ => 0)]) (Lc := [[(q7, .inr (5, [.null, .null, .int 0]))]]) (a0 := q7) (Lf := fun aN => bl_Cliffs E aN 0 (fun _ => 0, fun _ => 0, 0)) (va_runIN (As := []) (rest := [.ref q7, .ref a0]) ⟨hx, hb, hml, hown, ha⟩ (k_X3_init l E q7 H.size) ⟨va_cnB 0 ha (gi_B (fun _ h => h) mw132) rfl rfl rfl (nm4 hst) (ha _ mw31) hv_X3_init ⟨(Nat.le_of_ble_eq_true rfl), (Nat.le_of_ble_eq_true rfl)⟩, rfl, ha _ mw131⟩ ⟨pre_blind, pre_at (L := [[(a0, .inr (10, [.ref (b2 0), .ref (b4 0), .ref (b6 0), .null]))], w_Key E b2 0 (0, 0, 10), w_Bells E b4 0 (fun _ => 0, fun _ => 0, 0), w_Mel E b6 0 (fun _ => 0, fun _ => 0, fun _ => 0), [(q7, .inr (5, [.null, .null, .int 0]))]]) hP hD hS hz hzs hst [4] (by decide) rfl rfl⟩ rfl rfl hl.1 rfl (lv_room (Nat.le_of_ble_eq_true rfl)) dX9_init_42 ⟨(Nat.le_of_ble_eq_true rfl), (Nat.le_of_ble_eq_true rfl)⟩) hP hD hS hA (fun b8 Hn ln ha0 hPn hDn hSn => ?_)
  clear hP hD hS
  subst ha0
  revert hPn hDn hSn; revert ln; revert Hn; intro H locs hP hD hS
  have hP : va_P E.1 vwCl (List.flatten [[(a0, .inr (10, [.ref (b2 0), .ref (b4 0), .ref (b6 0), .null]))], w_Key E b2 0 (0, 0, 10), w_Bells E b4 0 (fun _ => 0, fun _ => 0, 0), w_Mel E b6 0 (fun _ => 0, fun _ => 0, fun _ => 0), w_Cliffs E b8 0 (fun _ => 0, fun _ => 0, 0)]) H := hP
  have hD : va_D A (List.flatten [[(a0, .inr (10, [.ref (b2 0), .ref (b4 0), .ref (b6 0), .null]))], w_Key E b2 0 (0, 0, 10), w_Bells E b4 0 (fun _ => 0, fun _ => 0, 0), w_Mel E b6 0 (fun _ => 0, fun _ => 0, fun _ => 0), w_Cliffs E b8 0 (fun _ => 0, fun _ => 0, 0)]) := hD
  refine va_putF (D := E.1) (ci := 10) (v := .ref (b8 0)) (ty := .object "ValleyBells$Cliffs") (C := RX9) (T := TX9) (N := 4) hx hb ha in_X9 tyX9 tyX9_ok nmX9 hown hst.k hP hD hS 0 rfl rfl 3 (by decide) (ha _ mw158) (fun _ h9 => h9) rfl hin rfl (tyX9_ok 3 (by decide)) rfl rfl (Nat.le_of_ble_eq_true rfl) dX9_init_45 (fun H locs hP hD hS => ?_)
  have hP : va_P E.1 vwCl (List.flatten [[(a0, .inr (10, [.ref (b2 0), .ref (b4 0), .ref (b6 0), .ref (b8 0)]))], w_Key E b2 0 (0, 0, 10), w_Bells E b4 0 (fun _ => 0, fun _ => 0, 0), w_Mel E b6 0 (fun _ => 0, fun _ => 0, fun _ => 0), w_Cliffs E b8 0 (fun _ => 0, fun _ => 0, 0)]) H := hP
  have hD : va_D A (List.flatten [[(a0, .inr (10, [.ref (b2 0), .ref (b4 0), .ref (b6 0), .ref (b8 0)]))], w_Key E b2 0 (0, 0, 10), w_Bells E b4 0 (fun _ => 0, fun _ => 0, 0), w_Mel E b6 0 (fun _ => 0, fun _ => 0, fun _ => 0), w_Cliffs E b8 0 (fun _ => 0, fun _ => 0, 0)]) := hD
  exact en_c (aN := (fun j => [a0, b2 0, b4 0, b4 1, b4 2, b6 0, b6 1, b6 2, b6 3, b8 0, b8 1, b8 2].getD j 0)) hQ rfl (Nat.le_of_ble_eq_true rfl) (Nat.le_of_ble_eq_true rfl) hx hb hr hlocks hP hD hS dX9_init_48

/-! J5_init_d00df -/
theorem dJ5_init_d00df_0 : decode cJ5_init_d00df 0 = .ok (.aload_n 0, 1) := by decide +kernel
theorem dJ5_init_d00df_1 : decode cJ5_init_d00df 1 = .ok (.invokespecial 3, 3) := by decide +kernel
theorem dJ5_init_d00df_4 : decode cJ5_init_d00df 4 = .ok (.getstatic 18, 3) := by decide +kernel
theorem dJ5_init_d00df_7 : decode cJ5_init_d00df 7 = .ok (.ifCond .eq 18, 3) := by decide +kernel
theorem dJ5_init_d00df_10 : decode cJ5_init_d00df 10 = .ok (.aload_n 0, 1) := by decide +kernel
theorem dJ5_init_d00df_11 : decode cJ5_init_d00df 11 = .ok (.iload_n 1, 1) := by decide +kernel
theorem dJ5_init_d00df_12 : decode cJ5_init_d00df 12 = .ok (.newarray .byte, 2) := by decide +kernel
theorem dJ5_init_d00df_14 : decode cJ5_init_d00df 14 = .ok (.putfield 15, 3) := by decide +kernel
theorem dJ5_init_d00df_17 : decode cJ5_init_d00df 17 = .ok (.aload_n 0, 1) := by decide +kernel
theorem dJ5_init_d00df_18 : decode cJ5_init_d00df 18 = .ok (.iconst 0, 1) := by decide +kernel
theorem dJ5_init_d00df_19 : decode cJ5_init_d00df 19 = .ok (.putfield 22, 3) := by decide +kernel
theorem dJ5_init_d00df_22 : decode cJ5_init_d00df 22 = .ok (.goto 16, 3) := by decide +kernel
theorem dJ5_init_d00df_25 : decode cJ5_init_d00df 25 = .ok (.aload_n 0, 1) := by decide +kernel
theorem dJ5_init_d00df_26 : decode cJ5_init_d00df 26 = .ok (.iload_n 1, 1) := by decide +kernel
theorem dJ5_init_d00df_27 : decode cJ5_init_d00df 27 = .ok (.invokestatic 26, 3) := by decide +kernel
theorem dJ5_init_d00df_30 : decode cJ5_init_d00df 30 = .ok (.putfield 15, 3) := by decide +kernel
theorem dJ5_init_d00df_33 : decode cJ5_init_d00df 33 = .ok (.aload_n 0, 1) := by decide +kernel
theorem dJ5_init_d00df_34 : decode cJ5_init_d00df 34 = .ok (.iconst 1, 1) := by decide +kernel
theorem dJ5_init_d00df_35 : decode cJ5_init_d00df 35 = .ok (.putfield 22, 3) := by decide +kernel
theorem dJ5_init_d00df_38 : decode cJ5_init_d00df 38 = .ok (.return_, 1) := by decide +kernel
theorem hv_J5_init_d00df : yJ5_init_d00df.cls ≠ "java/lang/invoke/MethodHandle" ∧ yJ5_init_d00df.cls ≠ "java/lang/invoke/VarHandle" ∧ (parseMethodDescriptor yJ5_init_d00df.desc).map (fun d => d.parameters.length) = some 1 := by decide +kernel
abbrev rm_J5_init_d00df : Room := { frames := 1, cells := 1, slots := 16, locals := 12 }
set_option maxHeartbeats 4000000 in
set_option maxRecDepth 100000 in
theorem k_J5_init_d00df (l : Launch) (E : ET) (a0 : Nat) (sz : Nat) : CtC l yJ5_init_d00df (mws yJ5_init_d00df cJ5_init_d00df 2 none) rm_J5_init_d00df 1 16 [.ref a0, .int 16] E [[(a0, .inr (1, [.null, .int 0, .int 0, .int 0]))]] a0 (fun aN => bl_Line E aN 0 (fun _ => 0, 16, aN 1, 0, 0)) sz := by
  refine mk_M (by decide +kernel) (Nat.le_of_ble_eq_true rfl) ?_
  intro p e s m below meth c A args Q ls hAe hsz hQ hx hb hr hml hin ha hown hlocks hA hz hzs hst hP hD hS hl
  have hown : s.vm.findClass RJ5 = some m.cls := hown
  rw [hAe] at hQ
  subst hsz
  have hl : lv_has ls 2 [(0, .ref a0), (1, .int 16)] := hl
  generalize hHe : s.heap = H at hP
  have hS : va_S A s.heap H [] := by rw [← hHe]; exact hS
  generalize ([] : List Loc) = locs at hS ⊢
  have hP : va_P E.1 vwCl (List.flatten [[(a0, .inr (1, [.null, .int 0, .int 0, .int 0]))]]) H := hP
  have hD : va_D A (List.flatten [[(a0, .inr (1, [.null, .int 0, .int 0, .int 0]))]]) := hD
  refine lv_aload_n hx hb dJ5_init_d00df_0 rfl (lv_at hl 0 rfl) ?_
  refine W.objInit hx hb hown (ha _ mw262) (ha _ mw62) (ha _ mw63) rfl (by rw [hml]; exact hl.1) rfl dJ5_init_d00df_1 (Nat.le_of_ble_eq_true rfl) (Nat.le_of_ble_eq_true rfl) ?_
  show W p l e _ s m args below meth c H locs 0 0 Q (F0 m 4 ls [])
  refine va_gets (v := .int 1) hx hb (sz8 hst hz) hS hown (ha _ mw263) (fun _ h9 => h9) dJ5_init_d00df_4 ?_
  refine lv_if_eq (tgt := 25) hx hb dJ5_init_d00df_7 (by decide) (fun c => absurd c (by decide)) (fun _ => ?_)
  refine lv_aload_n hx hb dJ5_init_d00df_10 rfl (lv_at hl 0 rfl) ?_
  refine lv_iload_n hx hb dJ5_init_d00df_11 rfl (lv_at hl 1 rfl) ?_
  refine vi_newa (atype := .byte) (b0 := (16, .inl (fun _ => 0))) hx hb hst (ty := .byte) (ha _ mw283) rfl hP hD hS hA (fun _ => rfl) 3 2 rfl (fun _ h => h) (by decide) rfl (Nat.le_of_ble_eq_true rfl) (Nat.le_of_ble_eq_true rfl) (Nat.le_of_ble_eq_true rfl) dJ5_init_d00df_12 (fun q1 H hP hD hS => ?_)
  have hP : va_P E.1 vwCl (List.flatten [[(a0, .inr (1, [.null, .int 0, .int 0, .int 0]))], [(q1, .inl (E.2 3, 16, .inl (fun _ => 0)))]]) H := hP
  have hD : va_D A (List.flatten [[(a0, .inr (1, [.null, .int 0, .int 0, .int 0]))], [(q1, .inl (E.2 3, 16, .inl (fun _ => 0)))]]) := hD
  refine va_put (D := E.1) (ci := 1) (v := .ref q1) (ty := .array .byte) (C := RJ4) (T := TJ4) (N := 4) hx hb ha in_J4 tyJ4 tyJ4_ok nmJ4 hown hst.k hP hD hS 0 rfl rfl 0 (by decide) (ha _ mw272) (fun _ h9 => h9) rfl (tyJ4_ok 0 (by decide)) rfl rfl (Nat.le_of_ble_eq_true rfl) dJ5_init_d00df_14 (fun H locs hP hD hS => ?_)
  have hP : va_P E.1 vwCl (List.flatten [[(a0, .inr (1, [.ref q1, .int 0, .int 0, .int 0]))], [(q1, .inl (E.2 3, 16, .inl (fun _ => 0)))]]) H := hP
  have hD : va_D A (List.flatten [[(a0, .inr (1, [.ref q1, .int 0, .int 0, .int 0]))], [(q1, .inl (E.2 3, 16, .inl (fun _ => 0)))]]) := hD
  refine lv_aload_n hx hb dJ5_init_d00df_17 rfl (lv_at hl 0 rfl) ?_
  refine lv_iconst (v := 0) hx hb dJ5_init_d00df_18 (by decide) ?_
  refine va_put (D := E.1) (ci := 1) (v := .int 0) (ty := .byte) (C := RJ4) (T := TJ4) (N := 4) hx hb ha in_J4 tyJ4 tyJ4_ok nmJ4 hown hst.k hP hD hS 0 rfl rfl 1 (by decide) (ha _ mw273) (fun _ h9 => h9) rfl (tyJ4_ok 1 (by decide)) (by decide) (by decide) (Nat.le_of_ble_eq_true rfl) dJ5_init_d00df_19 (fun H locs hP hD hS => ?_)
  have hP : va_P E.1 vwCl (List.flatten [[(a0, .inr (1, [.ref q1, .int 0, .int 0, .int 0]))], [(q1, .inl (E.2 3, 16, .inl (fun _ => 0)))]]) H := hP
  have hD : va_D A (List.flatten [[(a0, .inr (1, [.ref q1, .int 0, .int 0, .int 0]))], [(q1, .inl (E.2 3, 16, .inl (fun _ => 0)))]]) := hD
  refine lv_goto (tgt := 38) hx hb dJ5_init_d00df_22 (by decide) ?_
  exact en_c (aN := fun j => [a0, q1].getD j 0) hQ rfl (Nat.le_of_ble_eq_true rfl) (Nat.le_of_ble_eq_true rfl) hx hb hr hlocks hP hD hS dJ5_init_d00df_38

/-! J4_init_da8c8 -/
theorem dJ4_init_da8c8_0 : decode cJ4_init_da8c8 0 = .ok (.aload_n 0, 1) := by decide +kernel
theorem dJ4_init_da8c8_1 : decode cJ4_init_da8c8 1 = .ok (.bipush 16, 2) := by decide +kernel
theorem dJ4_init_da8c8_3 : decode cJ4_init_da8c8 3 = .ok (.invokespecial 1, 3) := by decide +kernel
theorem dJ4_init_da8c8_6 : decode cJ4_init_da8c8 6 = .ok (.return_, 1) := by decide +kernel
theorem hv_J4_init_da8c8 : yJ4_init_da8c8.cls ≠ "java/lang/invoke/MethodHandle" ∧ yJ4_init_da8c8.cls ≠ "java/lang/invoke/VarHandle" ∧ (parseMethodDescriptor yJ4_init_da8c8.desc).map (fun d => d.parameters.length) = some 0 := by decide +kernel
abbrev rm_J4_init_da8c8 : Room := { frames := 2, cells := 1, slots := 16, locals := 33 }
set_option maxHeartbeats 4000000 in
set_option maxRecDepth 100000 in
theorem k_J4_init_da8c8 (l : Launch) (E : ET) (a0 : Nat) (sz : Nat) : CtC l yJ4_init_da8c8 (mws yJ4_init_da8c8 cJ4_init_da8c8 1 none) rm_J4_init_da8c8 1 16 [.ref a0] E [[(a0, .inr (1, [.null, .int 0, .int 0, .int 0]))]] a0 (fun aN => bl_Line E aN 0 (fun _ => 0, 16, aN 1, 0, 0)) sz := by
  refine mk_M (by decide +kernel) (Nat.le_of_ble_eq_true rfl) ?_
  intro p e s m below meth c A args Q ls hAe hsz hQ hx hb hr hml hin ha hown hlocks hA hz hzs hst hP hD hS hl
  have hown : s.vm.findClass RJ4 = some m.cls := hown
  rw [hAe] at hQ
  subst hsz
  have hl : lv_has ls 1 [(0, .ref a0)] := hl
  generalize hHe : s.heap = H at hP
  have hS : va_S A s.heap H [] := by rw [← hHe]; exact hS
  generalize ([] : List Loc) = locs at hS ⊢
  have hP : va_P E.1 vwCl (List.flatten [[(a0, .inr (1, [.null, .int 0, .int 0, .int 0]))]]) H := hP
  have hD : va_D A (List.flatten [[(a0, .inr (1, [.null, .int 0, .int 0, .int 0]))]]) := hD
  refine lv_aload_n hx hb dJ4_init_da8c8_0 rfl (lv_at hl 0 rfl) ?_
  refine lv_bipush (v := 16) hx hb dJ4_init_da8c8_1 (by decide) ?_
  refine cl_c (L0 := []) (Lc := [[(a0, .inr (1, [.null, .int 0, .int 0, .int 0]))]]) (a0 := a0) (Lf := fun aN => bl_Line E aN 0 (fun _ => 0, 16, aN 1, 0, 0)) (va_runI (As := [.int 16]) (rest := []) ⟨hx, hb, hml, hown, ha⟩ (k_J5_init_d00df l E a0 H.size) (cwI 1 ha (gi_B (fun _ h => h) mw261) rfl rfl rfl (ha _ mw35) (ha _ mw259) (ha _ mw260) rfl hv_J5_init_d00df ⟨(Nat.le_of_ble_eq_true rfl), (Nat.le_of_ble_eq_true rfl)⟩) ⟨pre_blind, pre_at (L := [[(a0, .inr (1, [.null, .int 0, .int 0, .int 0]))]]) hP hD hS hz hzs hst [0] (by decide) rfl rfl⟩ rfl rfl hl.1 rfl (lv_room (Nat.le_of_ble_eq_true rfl)) dJ4_init_da8c8_3 ⟨(Nat.le_of_ble_eq_true rfl), (Nat.le_of_ble_eq_true rfl)⟩) hP hD hS hA (fun b1 Hn ln ha0 hPn hDn hSn => ?_)
  clear hP hD hS
  revert hPn hDn hSn; revert ln; revert Hn; intro H locs hP hD hS
  exact en_c (aN := b1) hQ ha0 (Nat.le_of_ble_eq_true rfl) (Nat.le_of_ble_eq_true rfl) hx hb hr hlocks hP hD hS dJ4_init_da8c8_6
