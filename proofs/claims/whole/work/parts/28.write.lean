/-! X10_writeName -/
theorem dX10_writeName_0 : decode cX10_writeName 0 = .ok (.aload_n 0, 1) := by decide +kernel
theorem dX10_writeName_1 : decode cX10_writeName 1 = .ok (.getfield 50, 3) := by decide +kernel
theorem dX10_writeName_4 : decode cX10_writeName 4 = .ok (.ldc_w 403, 3) := by decide +kernel
theorem dX10_writeName_7 : decode cX10_writeName 7 = .ok (.iconst 2, 1) := by decide +kernel
theorem dX10_writeName_8 : decode cX10_writeName 8 = .ok (.iload_n 1, 1) := by decide +kernel
theorem dX10_writeName_9 : decode cX10_writeName 9 = .ok (.imul, 1) := by decide +kernel
theorem dX10_writeName_10 : decode cX10_writeName 10 = .ok (.invokevirtual 405, 3) := by decide +kernel
theorem dX10_writeName_13 : decode cX10_writeName 13 = .ok (.invokevirtual 335, 3) := by decide +kernel
theorem dX10_writeName_16 : decode cX10_writeName 16 = .ok (.pop, 1) := by decide +kernel
theorem dX10_writeName_17 : decode cX10_writeName 17 = .ok (.ldc_w 403, 3) := by decide +kernel
theorem dX10_writeName_20 : decode cX10_writeName 20 = .ok (.iconst 2, 1) := by decide +kernel
theorem dX10_writeName_21 : decode cX10_writeName 21 = .ok (.iload_n 1, 1) := by decide +kernel
theorem dX10_writeName_22 : decode cX10_writeName 22 = .ok (.imul, 1) := by decide +kernel
theorem dX10_writeName_23 : decode cX10_writeName 23 = .ok (.iconst 1, 1) := by decide +kernel
theorem dX10_writeName_24 : decode cX10_writeName 24 = .ok (.iadd, 1) := by decide +kernel
theorem dX10_writeName_25 : decode cX10_writeName 25 = .ok (.invokevirtual 405, 3) := by decide +kernel
theorem dX10_writeName_28 : decode cX10_writeName 28 = .ok (.istore_n 2, 1) := by decide +kernel
theorem dX10_writeName_29 : decode cX10_writeName 29 = .ok (.iload_n 2, 1) := by decide +kernel
theorem dX10_writeName_30 : decode cX10_writeName 30 = .ok (.bipush 32, 2) := by decide +kernel
theorem dX10_writeName_32 : decode cX10_writeName 32 = .ok (.if_icmp .eq 12, 3) := by decide +kernel
theorem dX10_writeName_35 : decode cX10_writeName 35 = .ok (.aload_n 0, 1) := by decide +kernel
theorem dX10_writeName_36 : decode cX10_writeName 36 = .ok (.getfield 50, 3) := by decide +kernel
theorem dX10_writeName_39 : decode cX10_writeName 39 = .ok (.iload_n 2, 1) := by decide +kernel
theorem dX10_writeName_40 : decode cX10_writeName 40 = .ok (.invokevirtual 335, 3) := by decide +kernel
theorem dX10_writeName_43 : decode cX10_writeName 43 = .ok (.pop, 1) := by decide +kernel
theorem dX10_writeName_44 : decode cX10_writeName 44 = .ok (.return_, 1) := by decide +kernel
def f_X10_writeName (x_line_value : (Nat → Int32)) (x_line_cap : Nat) (x_line_count : Int32) (p1 : Int32) : Option ((Nat → Int32) × Nat × Int32) :=
  q_bd (f_J0_charAt_5068e 12 (2 * p1)) (fun q1 =>
  q_bd (f_J4_append_cf468 x_line_value x_line_cap x_line_count q1) (fun q2 =>
  q_bd (f_J0_charAt_5068e 12 ((2 * p1) + 1)) (fun q4 =>
  q_br (q4 = 32) (
  some (q2.1, q2.2.1, q2.2.2)) (
  q_bd (f_J4_append_cf468 q2.1 q2.2.1 q2.2.2 q4) (fun q5 =>
  some (q5.1, q5.2.1, q5.2.2))))))
theorem hv_X10_writeName : yX10_writeName.cls = RX10 ∧ yX10_writeName.cls ≠ "java/lang/invoke/MethodHandle" ∧ yX10_writeName.cls ≠ "java/lang/invoke/VarHandle" ∧ (parseMethodDescriptor yX10_writeName.desc).map (fun d => d.parameters.length) = some 1 := by decide +kernel
abbrev rm_X10_writeName : Room := { frames := 6, cells := 2, slots := 200, locals := 146 }
set_option maxHeartbeats 4000000 in
set_option maxRecDepth 100000 in
theorem k_X10_writeName (l : Launch) (E : ET) (a : Nat → Nat) (o : Nat) (x : VB_t) (p1 : Int32) (res : (Nat → Int32) × Nat × Int32) (hF : f_X10_writeName x.2.2.1.1 x.2.2.1.2.1 x.2.2.1.2.2.2.2 p1 = some res) (sz : Nat) : CtgV l yX10_writeName (mws yX10_writeName cX10_writeName 3 none) rm_X10_writeName 2 200 [.ref (a o), .int p1] E (bl_VB E a o x) (fun ad : Nat => bl_VB E a o ((x.1.1, x.1.2.1, x.1.2.2.1, x.1.2.2.2.1, x.1.2.2.2.2), (x.2.1, (res.1, res.2.1, ad, x.2.2.1.2.2.2.1, res.2.2), x.2.2.2.1, x.2.2.2.2.1, x.2.2.2.2.2))) sz := by
  refine mk_M (by decide +kernel) (Nat.le_of_ble_eq_true rfl) ?_
  intro p e s m below meth c A args Q ls hAe hsz hQ hx hb hr hml hin ha hown hlocks hA hz hzs hst hP hD hS hl
  have hown : s.vm.findClass RX10 = some m.cls := hown
  rw [hAe] at hQ
  subst hsz
  have hP : va_P E.1 vwCl (List.flatten [w_VBR a o x.2.2.2.1 x.2.2.2.2.1 x.2.2.2.2.2, w_ValleyR a (o + 1), w_Key E a (o + 2) x.1.1.1, w_Bells E a (o + 3) x.1.1.2.1, w_Mel E a (o + 6) x.1.1.2.2.1, w_Cliffs E a (o + 10) x.1.1.2.2.2, w_ValleyR a (o + 13), w_Key E a (o + 14) x.1.2.1.1, w_Bells E a (o + 15) x.1.2.1.2.1, w_Mel E a (o + 18) x.1.2.1.2.2.1, w_Cliffs E a (o + 22) x.1.2.1.2.2.2, w_Prog E a (o + 25) x.1.2.2.2.1, w_Chord E a (o + 31) x.1.2.2.2.2, w_Key E a (o + 34) x.2.1, w_Line E a (o + 35) x.2.2.1, w_Hist E a (o + 37) x.1.2.2.1]) s.heap := hP
  have hD : va_D A (List.flatten [w_VBR a o x.2.2.2.1 x.2.2.2.2.1 x.2.2.2.2.2, w_ValleyR a (o + 1), w_Key E a (o + 2) x.1.1.1, w_Bells E a (o + 3) x.1.1.2.1, w_Mel E a (o + 6) x.1.1.2.2.1, w_Cliffs E a (o + 10) x.1.1.2.2.2, w_ValleyR a (o + 13), w_Key E a (o + 14) x.1.2.1.1, w_Bells E a (o + 15) x.1.2.1.2.1, w_Mel E a (o + 18) x.1.2.1.2.2.1, w_Cliffs E a (o + 22) x.1.2.1.2.2.2, w_Prog E a (o + 25) x.1.2.2.2.1, w_Chord E a (o + 31) x.1.2.2.2.2, w_Key E a (o + 34) x.2.1, w_Line E a (o + 35) x.2.2.1, w_Hist E a (o + 37) x.1.2.2.1]) := hD
  have hl : lv_has ls 3 [(0, .ref (a o)), (1, .int p1)] := hl
  generalize hHe : s.heap = H at hP
  have hS : va_S A s.heap H [] := by rw [← hHe]; exact hS
  generalize ([] : List Loc) = locs at hS ⊢
  unfold f_X10_writeName at hF
  refine lv_aload_n hx hb dX10_writeName_0 rfl (lv_at hl 0 rfl) ?_
  refine va_get (D := E.1) (ci := 12) (v := .ref (a (o + 35))) (C := RX10) (T := TX10) (N := 10) hx hb ha in_X10 hown hst.k hP 0 rfl rfl 6 (by decide) (ha _ mw347) (fun _ h9 => h9) rfl dX10_writeName_1 ?_
  refine vn_ldcW (q := E.2 (200 + 12)) hx hb hown (hst.sr (sr_403 E)) dX10_writeName_4 ?_
  refine lv_iconst (v := 2) hx hb dX10_writeName_7 (by decide) ?_
  refine lv_iload_n hx hb dX10_writeName_8 rfl (lv_at hl 1 rfl) ?_
  refine lv_imul hx hb dX10_writeName_9 ?_
  obtain ⟨q1, hq1, hF⟩ := q_bdi hF
  refine cl_i (Lc := []) (Lc' := []) (L' := [w_VBR a o x.2.2.2.1 x.2.2.2.2.1 x.2.2.2.2.2, w_ValleyR a (o + 1), w_Key E a (o + 2) x.1.1.1, w_Bells E a (o + 3) x.1.1.2.1, w_Mel E a (o + 6) x.1.1.2.2.1, w_Cliffs E a (o + 10) x.1.1.2.2.2, w_ValleyR a (o + 13), w_Key E a (o + 14) x.1.2.1.1, w_Bells E a (o + 15) x.1.2.1.2.1, w_Mel E a (o + 18) x.1.2.1.2.2.1, w_Cliffs E a (o + 22) x.1.2.1.2.2.2, w_Prog E a (o + 25) x.1.2.2.2.1, w_Chord E a (o + 31) x.1.2.2.2.2, w_Key E a (o + 34) x.2.1, w_Line E a (o + 35) x.2.2.1, w_Hist E a (o + 37) x.1.2.2.1]) (rv := q1) (va_runV (As := [.int (2 * p1)]) (rest := [.ref (a (o + 35))]) ⟨hx, hb, hml, hown, ha⟩ (k_J0_charAt_5068e l E 12 (2 * p1) q1 hq1 H.size) (cwV 1 ha (gi_V (fun _ h => h) mw1583 mw1485 mw1486 mw85 mw1487) rfl rfl rfl hv_J0_charAt_5068e ⟨(Nat.le_of_ble_eq_true rfl), (Nat.le_of_ble_eq_true rfl)⟩) ⟨pre_blind, re_st hst hz hS (by decide), pre_at hP hD hS hz hzs hst [] (by decide) rfl rfl⟩ rfl rfl hl.1 rfl (lv_room (Nat.le_of_ble_eq_true rfl)) dX10_writeName_10 ⟨(Nat.le_of_ble_eq_true rfl), (Nat.le_of_ble_eq_true rfl)⟩) hP hD hS hA [] (by decide) rfl rfl rfl rfl (fun H locs hP hD hS => ?_)
  obtain ⟨q2, hq2, hF⟩ := q_bdi hF
  refine cl_gr (Lc := [w_Line E a (o + 35) x.2.2.1]) (Lc' := fun gh3 => [w_Line E a (o + 35) (q2.1, q2.2.1, gh3, x.2.2.1.2.2.2.1, q2.2.2)]) (L' := fun gh3 => [w_VBR a o x.2.2.2.1 x.2.2.2.2.1 x.2.2.2.2.2, w_ValleyR a (o + 1), w_Key E a (o + 2) x.1.1.1, w_Bells E a (o + 3) x.1.1.2.1, w_Mel E a (o + 6) x.1.1.2.2.1, w_Cliffs E a (o + 10) x.1.1.2.2.2, w_ValleyR a (o + 13), w_Key E a (o + 14) x.1.2.1.1, w_Bells E a (o + 15) x.1.2.1.2.1, w_Mel E a (o + 18) x.1.2.1.2.2.1, w_Cliffs E a (o + 22) x.1.2.1.2.2.2, w_Prog E a (o + 25) x.1.2.2.2.1, w_Chord E a (o + 31) x.1.2.2.2.2, w_Key E a (o + 34) x.2.1, w_Line E a (o + 35) (q2.1, q2.2.1, gh3, x.2.2.1.2.2.2.1, q2.2.2), w_Hist E a (o + 37) x.1.2.2.1]) (ra := a (o + 35)) (va_runV (As := [.int q1]) (rest := []) ⟨hx, hb, hml, hown, ha⟩ (k_J4_append_cf468 l E a (o + 35) x.2.2.1 q1 q2 hq2 H.size) (cwV 1 ha (gi_V (fun _ h => h) mw909 mw910 mw911 mw84 mw912) rfl rfl rfl hv_J4_append_cf468 ⟨(Nat.le_of_ble_eq_true rfl), (Nat.le_of_ble_eq_true rfl)⟩) ⟨pre_blind, va_recv hst.k (fr_P hP [14] rfl) (ci := 1) (q0 := 0) rfl rfl, pre_at hP hD hS hz hzs hst [14] (by decide) rfl rfl⟩ rfl rfl hl.1 rfl (lv_room (Nat.le_of_ble_eq_true rfl)) dX10_writeName_13 ⟨(Nat.le_of_ble_eq_true rfl), (Nat.le_of_ble_eq_true rfl)⟩) hP hD hS hA [14] (by decide) rfl rfl (fun _ => rfl) (fun _ => rfl) (fun gh3 H locs hP hD hS => ?_)
  refine lv_pop hx hb dX10_writeName_16 rfl ?_
  refine vn_ldcW (q := E.2 (200 + 12)) hx hb hown (hst.sr (sr_403 E)) dX10_writeName_17 ?_
  refine lv_iconst (v := 2) hx hb dX10_writeName_20 (by decide) ?_
  refine lv_iload_n hx hb dX10_writeName_21 rfl (lv_at hl 1 rfl) ?_
  refine lv_imul hx hb dX10_writeName_22 ?_
  refine lv_iconst (v := 1) hx hb dX10_writeName_23 (by decide) ?_
  refine lv_iadd hx hb dX10_writeName_24 ?_
  obtain ⟨q4, hq4, hF⟩ := q_bdi hF
  refine cl_i (Lc := []) (Lc' := []) (L' := [w_VBR a o x.2.2.2.1 x.2.2.2.2.1 x.2.2.2.2.2, w_ValleyR a (o + 1), w_Key E a (o + 2) x.1.1.1, w_Bells E a (o + 3) x.1.1.2.1, w_Mel E a (o + 6) x.1.1.2.2.1, w_Cliffs E a (o + 10) x.1.1.2.2.2, w_ValleyR a (o + 13), w_Key E a (o + 14) x.1.2.1.1, w_Bells E a (o + 15) x.1.2.1.2.1, w_Mel E a (o + 18) x.1.2.1.2.2.1, w_Cliffs E a (o + 22) x.1.2.1.2.2.2, w_Prog E a (o + 25) x.1.2.2.2.1, w_Chord E a (o + 31) x.1.2.2.2.2, w_Key E a (o + 34) x.2.1, w_Line E a (o + 35) (q2.1, q2.2.1, gh3, x.2.2.1.2.2.2.1, q2.2.2), w_Hist E a (o + 37) x.1.2.2.1]) (rv := q4) (va_runV (As := [.int ((2 * p1) + 1)]) (rest := []) ⟨hx, hb, hml, hown, ha⟩ (k_J0_charAt_5068e l E 12 ((2 * p1) + 1) q4 hq4 H.size) (cwV 1 ha (gi_V (fun _ h => h) mw1583 mw1485 mw1486 mw85 mw1487) rfl rfl rfl hv_J0_charAt_5068e ⟨(Nat.le_of_ble_eq_true rfl), (Nat.le_of_ble_eq_true rfl)⟩) ⟨pre_blind, re_st hst hz hS (by decide), pre_at hP hD hS hz hzs hst [] (by decide) rfl rfl⟩ rfl rfl hl.1 rfl (lv_room (Nat.le_of_ble_eq_true rfl)) dX10_writeName_25 ⟨(Nat.le_of_ble_eq_true rfl), (Nat.le_of_ble_eq_true rfl)⟩) hP hD hS hA [] (by decide) rfl rfl rfl rfl (fun H locs hP hD hS => ?_)
  refine lv_istore_n (lv' := [(2, .int q4), (0, .ref (a o)), (1, .int p1)]) hx hb dX10_writeName_28 rfl hl (by decide) rfl (fun ls hl => ?_)
  refine lv_iload_n hx hb dX10_writeName_29 rfl (lv_at hl 0 rfl) ?_
  refine lv_bipush (v := 32) hx hb dX10_writeName_30 (by decide) ?_
  refine lv_icmp_eq (tgt := 44) hx hb dX10_writeName_32 (by decide) (fun c32 => ?_) (fun c32 => ?_)
  · have hF := q_brp c32 hF
    obtain rfl := Option.some.inj hF
    exact en_gv (ad := gh3) hQ (Nat.le_of_ble_eq_true rfl) (Nat.le_of_ble_eq_true rfl) hx hb hr hlocks hP hD hS dX10_writeName_44
  · have hF := q_brn c32 hF
    refine lv_aload_n hx hb dX10_writeName_35 rfl (lv_at hl 1 rfl) ?_
    refine va_get (D := E.1) (ci := 12) (v := .ref (a (o + 35))) (C := RX10) (T := TX10) (N := 10) hx hb ha in_X10 hown hst.k hP 0 rfl rfl 6 (by decide) (ha _ mw347) (fun _ h9 => h9) rfl dX10_writeName_36 ?_
    refine lv_iload_n hx hb dX10_writeName_39 rfl (lv_at hl 0 rfl) ?_
    obtain ⟨q5, hq5, hF⟩ := q_bdi hF
    refine cl_gr (Lc := [w_Line E a (o + 35) (q2.1, q2.2.1, gh3, x.2.2.1.2.2.2.1, q2.2.2)]) (Lc' := fun gh6 => [w_Line E a (o + 35) (q5.1, q5.2.1, gh6, x.2.2.1.2.2.2.1, q5.2.2)]) (L' := fun gh6 => [w_VBR a o x.2.2.2.1 x.2.2.2.2.1 x.2.2.2.2.2, w_ValleyR a (o + 1), w_Key E a (o + 2) x.1.1.1, w_Bells E a (o + 3) x.1.1.2.1, w_Mel E a (o + 6) x.1.1.2.2.1, w_Cliffs E a (o + 10) x.1.1.2.2.2, w_ValleyR a (o + 13), w_Key E a (o + 14) x.1.2.1.1, w_Bells E a (o + 15) x.1.2.1.2.1, w_Mel E a (o + 18) x.1.2.1.2.2.1, w_Cliffs E a (o + 22) x.1.2.1.2.2.2, w_Prog E a (o + 25) x.1.2.2.2.1, w_Chord E a (o + 31) x.1.2.2.2.2, w_Key E a (o + 34) x.2.1, w_Line E a (o + 35) (q5.1, q5.2.1, gh6, x.2.2.1.2.2.2.1, q5.2.2), w_Hist E a (o + 37) x.1.2.2.1]) (ra := a (o + 35)) (va_runV (As := [.int q4]) (rest := []) ⟨hx, hb, hml, hown, ha⟩ (k_J4_append_cf468 l E a (o + 35) (q2.1, q2.2.1, gh3, x.2.2.1.2.2.2.1, q2.2.2) q4 q5 hq5 H.size) (cwV 1 ha (gi_V (fun _ h => h) mw909 mw910 mw911 mw84 mw912) rfl rfl rfl hv_J4_append_cf468 ⟨(Nat.le_of_ble_eq_true rfl), (Nat.le_of_ble_eq_true rfl)⟩) ⟨pre_blind, va_recv hst.k (fr_P hP [14] rfl) (ci := 1) (q0 := 0) rfl rfl, pre_at hP hD hS hz hzs hst [14] (by decide) rfl rfl⟩ rfl rfl hl.1 rfl (lv_room (Nat.le_of_ble_eq_true rfl)) dX10_writeName_40 ⟨(Nat.le_of_ble_eq_true rfl), (Nat.le_of_ble_eq_true rfl)⟩) hP hD hS hA [14] (by decide) rfl rfl (fun _ => rfl) (fun _ => rfl) (fun gh6 H locs hP hD hS => ?_)
    refine lv_pop hx hb dX10_writeName_43 rfl ?_
    obtain rfl := Option.some.inj hF
    exact en_gv (ad := gh6) hQ (Nat.le_of_ble_eq_true rfl) (Nat.le_of_ble_eq_true rfl) hx hb hr hlocks hP hD hS dX10_writeName_44

/-! X10_writeDeviation -/
theorem dX10_writeDeviation_0 : decode cX10_writeDeviation 0 = .ok (.iload_n 1, 1) := by decide +kernel
theorem dX10_writeDeviation_1 : decode cX10_writeDeviation 1 = .ok (.ifCond .le 13, 3) := by decide +kernel
theorem dX10_writeDeviation_4 : decode cX10_writeDeviation 4 = .ok (.aload_n 0, 1) := by decide +kernel
theorem dX10_writeDeviation_5 : decode cX10_writeDeviation 5 = .ok (.getfield 50, 3) := by decide +kernel
theorem dX10_writeDeviation_8 : decode cX10_writeDeviation 8 = .ok (.bipush 43, 2) := by decide +kernel
theorem dX10_writeDeviation_10 : decode cX10_writeDeviation 10 = .ok (.invokevirtual 335, 3) := by decide +kernel
theorem dX10_writeDeviation_13 : decode cX10_writeDeviation 13 = .ok (.pop, 1) := by decide +kernel
theorem dX10_writeDeviation_14 : decode cX10_writeDeviation 14 = .ok (.iload_n 1, 1) := by decide +kernel
theorem dX10_writeDeviation_15 : decode cX10_writeDeviation 15 = .ok (.ifCond .eq 12, 3) := by decide +kernel
theorem dX10_writeDeviation_18 : decode cX10_writeDeviation 18 = .ok (.aload_n 0, 1) := by decide +kernel
theorem dX10_writeDeviation_19 : decode cX10_writeDeviation 19 = .ok (.getfield 50, 3) := by decide +kernel
theorem dX10_writeDeviation_22 : decode cX10_writeDeviation 22 = .ok (.iload_n 1, 1) := by decide +kernel
theorem dX10_writeDeviation_23 : decode cX10_writeDeviation 23 = .ok (.invokevirtual 331, 3) := by decide +kernel
theorem dX10_writeDeviation_26 : decode cX10_writeDeviation 26 = .ok (.pop, 1) := by decide +kernel
theorem dX10_writeDeviation_27 : decode cX10_writeDeviation 27 = .ok (.return_, 1) := by decide +kernel
def f_X10_writeDeviation (x_line_value : (Nat → Int32)) (x_line_cap : Nat) (x_line_count : Int32) (p1 : Int32) : Option ((Nat → Int32) × Nat × Int32) :=
  q_lt (fun (j1 : (Nat → Int32)) (j2 : Nat) (j4 : Int32) =>
  q_br (p1 = 0) (
  some (j1, j2, j4)) (
  q_bd (f_J4_append_bf812 j1 j2 j4 p1) (fun q5 =>
  some (q5.1, q5.2.1, q5.2.2)))) (fun (J14 : (Nat → Int32) → Nat → Int32 → Option ((Nat → Int32) × Nat × Int32)) =>
  q_br (p1 ≤ 0) (
  J14 x_line_value x_line_cap x_line_count) (
  q_bd (f_J4_append_cf468 x_line_value x_line_cap x_line_count 43) (fun q7 =>
  J14 q7.1 q7.2.1 q7.2.2)))
theorem hv_X10_writeDeviation : yX10_writeDeviation.cls = RX10 ∧ yX10_writeDeviation.cls ≠ "java/lang/invoke/MethodHandle" ∧ yX10_writeDeviation.cls ≠ "java/lang/invoke/VarHandle" ∧ (parseMethodDescriptor yX10_writeDeviation.desc).map (fun d => d.parameters.length) = some 1 := by decide +kernel
abbrev rm_X10_writeDeviation : Room := { frames := 6, cells := 2, slots := 200, locals := 148 }
set_option maxHeartbeats 4000000 in
set_option maxRecDepth 100000 in
theorem k_X10_writeDeviation (l : Launch) (E : ET) (a : Nat → Nat) (o : Nat) (x : VB_t) (p1 : Int32) (res : (Nat → Int32) × Nat × Int32) (hF : f_X10_writeDeviation x.2.2.1.1 x.2.2.1.2.1 x.2.2.1.2.2.2.2 p1 = some res) (sz : Nat) : CtgV l yX10_writeDeviation (mws yX10_writeDeviation cX10_writeDeviation 2 none) rm_X10_writeDeviation 2 200 [.ref (a o), .int p1] E (bl_VB E a o x) (fun ad : Nat => bl_VB E a o ((x.1.1, x.1.2.1, x.1.2.2.1, x.1.2.2.2.1, x.1.2.2.2.2), (x.2.1, (res.1, res.2.1, ad, x.2.2.1.2.2.2.1, res.2.2), x.2.2.2.1, x.2.2.2.2.1, x.2.2.2.2.2))) sz := by
  refine mk_M (by decide +kernel) (Nat.le_of_ble_eq_true rfl) ?_
  intro p e s m below meth c A args Q ls hAe hsz hQ hx hb hr hml hin ha hown hlocks hA hz hzs hst hP hD hS hl
  have hown : s.vm.findClass RX10 = some m.cls := hown
  rw [hAe] at hQ
  subst hsz
  have hP : va_P E.1 vwCl (List.flatten [w_VBR a o x.2.2.2.1 x.2.2.2.2.1 x.2.2.2.2.2, w_ValleyR a (o + 1), w_Key E a (o + 2) x.1.1.1, w_Bells E a (o + 3) x.1.1.2.1, w_Mel E a (o + 6) x.1.1.2.2.1, w_Cliffs E a (o + 10) x.1.1.2.2.2, w_ValleyR a (o + 13), w_Key E a (o + 14) x.1.2.1.1, w_Bells E a (o + 15) x.1.2.1.2.1, w_Mel E a (o + 18) x.1.2.1.2.2.1, w_Cliffs E a (o + 22) x.1.2.1.2.2.2, w_Prog E a (o + 25) x.1.2.2.2.1, w_Chord E a (o + 31) x.1.2.2.2.2, w_Key E a (o + 34) x.2.1, w_Line E a (o + 35) x.2.2.1, w_Hist E a (o + 37) x.1.2.2.1]) s.heap := hP
  have hD : va_D A (List.flatten [w_VBR a o x.2.2.2.1 x.2.2.2.2.1 x.2.2.2.2.2, w_ValleyR a (o + 1), w_Key E a (o + 2) x.1.1.1, w_Bells E a (o + 3) x.1.1.2.1, w_Mel E a (o + 6) x.1.1.2.2.1, w_Cliffs E a (o + 10) x.1.1.2.2.2, w_ValleyR a (o + 13), w_Key E a (o + 14) x.1.2.1.1, w_Bells E a (o + 15) x.1.2.1.2.1, w_Mel E a (o + 18) x.1.2.1.2.2.1, w_Cliffs E a (o + 22) x.1.2.1.2.2.2, w_Prog E a (o + 25) x.1.2.2.2.1, w_Chord E a (o + 31) x.1.2.2.2.2, w_Key E a (o + 34) x.2.1, w_Line E a (o + 35) x.2.2.1, w_Hist E a (o + 37) x.1.2.2.1]) := hD
  have hl : lv_has ls 2 [(0, .ref (a o)), (1, .int p1)] := hl
  generalize hHe : s.heap = H at hP
  have hS : va_S A s.heap H [] := by rw [← hHe]; exact hS
  generalize ([] : List Loc) = locs at hS ⊢
  unfold f_X10_writeDeviation at hF
  refine lv_iload_n hx hb dX10_writeDeviation_0 rfl (lv_at hl 1 rfl) ?_
  obtain ⟨J14, hJ14, hF⟩ := q_jn hF
  have jJ14 : ∀ (j1 : (Nat → Int32)) (j2 : Nat) (j3 : Nat) (j4 : Int32), ∀ (H : Heap) (locs : List Loc) (ls : Array Slot), J14 j1 j2 j4 = some res → va_P E.1 vwCl (List.flatten [w_VBR a o x.2.2.2.1 x.2.2.2.2.1 x.2.2.2.2.2, w_ValleyR a (o + 1), w_Key E a (o + 2) x.1.1.1, w_Bells E a (o + 3) x.1.1.2.1, w_Mel E a (o + 6) x.1.1.2.2.1, w_Cliffs E a (o + 10) x.1.1.2.2.2, w_ValleyR a (o + 13), w_Key E a (o + 14) x.1.2.1.1, w_Bells E a (o + 15) x.1.2.1.2.1, w_Mel E a (o + 18) x.1.2.1.2.2.1, w_Cliffs E a (o + 22) x.1.2.1.2.2.2, w_Prog E a (o + 25) x.1.2.2.2.1, w_Chord E a (o + 31) x.1.2.2.2.2, w_Key E a (o + 34) x.2.1, w_Line E a (o + 35) (j1, j2, j3, x.2.2.1.2.2.2.1, j4), w_Hist E a (o + 37) x.1.2.2.1]) H → va_D A (List.flatten [w_VBR a o x.2.2.2.1 x.2.2.2.2.1 x.2.2.2.2.2, w_ValleyR a (o + 1), w_Key E a (o + 2) x.1.1.1, w_Bells E a (o + 3) x.1.1.2.1, w_Mel E a (o + 6) x.1.1.2.2.1, w_Cliffs E a (o + 10) x.1.1.2.2.2, w_ValleyR a (o + 13), w_Key E a (o + 14) x.1.2.1.1, w_Bells E a (o + 15) x.1.2.1.2.1, w_Mel E a (o + 18) x.1.2.1.2.2.1, w_Cliffs E a (o + 22) x.1.2.1.2.2.2, w_Prog E a (o + 25) x.1.2.2.2.1, w_Chord E a (o + 31) x.1.2.2.2.2, w_Key E a (o + 34) x.2.1, w_Line E a (o + 35) (j1, j2, j3, x.2.2.1.2.2.2.1, j4), w_Hist E a (o + 37) x.1.2.2.1]) → va_S A s.heap H locs → lv_has ls 2 [(0, .ref (a o)), (1, .int p1)] → W p l e rm_X10_writeDeviation s m args below meth c H locs 1 100 Q (F0 m 14 ls []) := by
    intro j1 j2 j3 j4 H locs ls hF hP hD hS hl
    rw [hJ14] at hF
    refine lv_iload_n hx hb dX10_writeDeviation_14 rfl (lv_at hl 1 rfl) ?_
    refine lv_if_eq (tgt := 27) hx hb dX10_writeDeviation_15 (by decide) (fun c15 => ?_) (fun c15 => ?_)
    · have hF := q_brp c15 hF
      obtain rfl := Option.some.inj hF
      exact en_gv (ad := j3) hQ (Nat.le_of_ble_eq_true rfl) (Nat.le_of_ble_eq_true rfl) hx hb hr hlocks hP hD hS dX10_writeDeviation_27
    · have hF := q_brn c15 hF
      refine lv_aload_n hx hb dX10_writeDeviation_18 rfl (lv_at hl 0 rfl) ?_
      refine va_get (D := E.1) (ci := 12) (v := .ref (a (o + 35))) (C := RX10) (T := TX10) (N := 10) hx hb ha in_X10 hown hst.k hP 0 rfl rfl 6 (by decide) (ha _ mw347) (fun _ h9 => h9) rfl dX10_writeDeviation_19 ?_
      refine lv_iload_n hx hb dX10_writeDeviation_22 rfl (lv_at hl 1 rfl) ?_
      obtain ⟨q5, hq5, hF⟩ := q_bdi hF
      refine cl_gr (Lc := [w_Line E a (o + 35) (j1, j2, j3, x.2.2.1.2.2.2.1, j4)]) (Lc' := fun gh6 => [w_Line E a (o + 35) (q5.1, q5.2.1, gh6, x.2.2.1.2.2.2.1, q5.2.2)]) (L' := fun gh6 => [w_VBR a o x.2.2.2.1 x.2.2.2.2.1 x.2.2.2.2.2, w_ValleyR a (o + 1), w_Key E a (o + 2) x.1.1.1, w_Bells E a (o + 3) x.1.1.2.1, w_Mel E a (o + 6) x.1.1.2.2.1, w_Cliffs E a (o + 10) x.1.1.2.2.2, w_ValleyR a (o + 13), w_Key E a (o + 14) x.1.2.1.1, w_Bells E a (o + 15) x.1.2.1.2.1, w_Mel E a (o + 18) x.1.2.1.2.2.1, w_Cliffs E a (o + 22) x.1.2.1.2.2.2, w_Prog E a (o + 25) x.1.2.2.2.1, w_Chord E a (o + 31) x.1.2.2.2.2, w_Key E a (o + 34) x.2.1, w_Line E a (o + 35) (q5.1, q5.2.1, gh6, x.2.2.1.2.2.2.1, q5.2.2), w_Hist E a (o + 37) x.1.2.2.1]) (ra := a (o + 35)) (va_runV (As := [.int p1]) (rest := []) ⟨hx, hb, hml, hown, ha⟩ (k_J4_append_bf812 l E a (o + 35) (j1, j2, j3, x.2.2.1.2.2.2.1, j4) p1 q5 hq5 H.size) (cwV 1 ha (gi_V (fun _ h => h) mw931 mw698 mw699 mw84 mw700) rfl rfl rfl hv_J4_append_bf812 ⟨(Nat.le_of_ble_eq_true rfl), (Nat.le_of_ble_eq_true rfl)⟩) ⟨pre_blind, va_recv hst.k (fr_P hP [14] rfl) (ci := 1) (q0 := 0) rfl rfl, pre_at hP hD hS hz hzs hst [14] (by decide) rfl rfl⟩ rfl rfl hl.1 rfl (lv_room (Nat.le_of_ble_eq_true rfl)) dX10_writeDeviation_23 ⟨(Nat.le_of_ble_eq_true rfl), (Nat.le_of_ble_eq_true rfl)⟩) hP hD hS hA [14] (by decide) rfl rfl (fun _ => rfl) (fun _ => rfl) (fun gh6 H locs hP hD hS => ?_)
      refine lv_pop hx hb dX10_writeDeviation_26 rfl ?_
      obtain rfl := Option.some.inj hF
      exact en_gv (ad := gh6) hQ (Nat.le_of_ble_eq_true rfl) (Nat.le_of_ble_eq_true rfl) hx hb hr hlocks hP hD hS dX10_writeDeviation_27
  refine lv_if_le (tgt := 14) hx hb dX10_writeDeviation_1 (by decide) (fun c1 => ?_) (fun c1 => ?_)
  · have hF := q_brp c1 hF
    refine W.widen (k := 1) (n := 100) (by omega) (by omega) ?_
    exact jJ14 x.2.2.1.1 x.2.2.1.2.1 x.2.2.1.2.2.1 x.2.2.1.2.2.2.2 H locs ls hF hP hD hS (lv_sub hl [0, 1] rfl)
  · have hF := q_brn c1 hF
    refine lv_aload_n hx hb dX10_writeDeviation_4 rfl (lv_at hl 0 rfl) ?_
    refine va_get (D := E.1) (ci := 12) (v := .ref (a (o + 35))) (C := RX10) (T := TX10) (N := 10) hx hb ha in_X10 hown hst.k hP 0 rfl rfl 6 (by decide) (ha _ mw347) (fun _ h9 => h9) rfl dX10_writeDeviation_5 ?_
    refine lv_bipush (v := 43) hx hb dX10_writeDeviation_8 (by decide) ?_
    obtain ⟨q7, hq7, hF⟩ := q_bdi hF
    refine cl_gr (Lc := [w_Line E a (o + 35) x.2.2.1]) (Lc' := fun gh8 => [w_Line E a (o + 35) (q7.1, q7.2.1, gh8, x.2.2.1.2.2.2.1, q7.2.2)]) (L' := fun gh8 => [w_VBR a o x.2.2.2.1 x.2.2.2.2.1 x.2.2.2.2.2, w_ValleyR a (o + 1), w_Key E a (o + 2) x.1.1.1, w_Bells E a (o + 3) x.1.1.2.1, w_Mel E a (o + 6) x.1.1.2.2.1, w_Cliffs E a (o + 10) x.1.1.2.2.2, w_ValleyR a (o + 13), w_Key E a (o + 14) x.1.2.1.1, w_Bells E a (o + 15) x.1.2.1.2.1, w_Mel E a (o + 18) x.1.2.1.2.2.1, w_Cliffs E a (o + 22) x.1.2.1.2.2.2, w_Prog E a (o + 25) x.1.2.2.2.1, w_Chord E a (o + 31) x.1.2.2.2.2, w_Key E a (o + 34) x.2.1, w_Line E a (o + 35) (q7.1, q7.2.1, gh8, x.2.2.1.2.2.2.1, q7.2.2), w_Hist E a (o + 37) x.1.2.2.1]) (ra := a (o + 35)) (va_runV (As := [.int 43]) (rest := []) ⟨hx, hb, hml, hown, ha⟩ (k_J4_append_cf468 l E a (o + 35) x.2.2.1 43 q7 hq7 H.size) (cwV 1 ha (gi_V (fun _ h => h) mw909 mw910 mw911 mw84 mw912) rfl rfl rfl hv_J4_append_cf468 ⟨(Nat.le_of_ble_eq_true rfl), (Nat.le_of_ble_eq_true rfl)⟩) ⟨pre_blind, va_recv hst.k (fr_P hP [14] rfl) (ci := 1) (q0 := 0) rfl rfl, pre_at hP hD hS hz hzs hst [14] (by decide) rfl rfl⟩ rfl rfl hl.1 rfl (lv_room (Nat.le_of_ble_eq_true rfl)) dX10_writeDeviation_10 ⟨(Nat.le_of_ble_eq_true rfl), (Nat.le_of_ble_eq_true rfl)⟩) hP hD hS hA [14] (by decide) rfl rfl (fun _ => rfl) (fun _ => rfl) (fun gh8 H locs hP hD hS => ?_)
    refine lv_pop hx hb dX10_writeDeviation_13 rfl ?_
    exact jJ14 q7.1 q7.2.1 gh8 q7.2.2 H locs ls hF hP hD hS (lv_sub hl [0, 1] rfl)

/-! X10_writeBell -/
theorem dX10_writeBell_0 : decode cX10_writeBell 0 = .ok (.aload_n 0, 1) := by decide +kernel
theorem dX10_writeBell_1 : decode cX10_writeBell 1 = .ok (.iload_n 1, 1) := by decide +kernel
theorem dX10_writeBell_2 : decode cX10_writeBell 2 = .ok (.invokevirtual 117, 3) := by decide +kernel
theorem dX10_writeBell_5 : decode cX10_writeBell 5 = .ok (.aload_n 0, 1) := by decide +kernel
theorem dX10_writeBell_6 : decode cX10_writeBell 6 = .ok (.getfield 10, 3) := by decide +kernel
theorem dX10_writeBell_9 : decode cX10_writeBell 9 = .ok (.getfield 108, 3) := by decide +kernel
theorem dX10_writeBell_12 : decode cX10_writeBell 12 = .ok (.iload_n 1, 1) := by decide +kernel
theorem dX10_writeBell_13 : decode cX10_writeBell 13 = .ok (.invokevirtual 128, 3) := by decide +kernel
theorem dX10_writeBell_16 : decode cX10_writeBell 16 = .ok (.istore_n 2, 1) := by decide +kernel
theorem dX10_writeBell_17 : decode cX10_writeBell 17 = .ok (.aload_n 0, 1) := by decide +kernel
theorem dX10_writeBell_18 : decode cX10_writeBell 18 = .ok (.getfield 50, 3) := by decide +kernel
theorem dX10_writeBell_21 : decode cX10_writeBell 21 = .ok (.iconst 0, 1) := by decide +kernel
theorem dX10_writeBell_22 : decode cX10_writeBell 22 = .ok (.invokevirtual 328, 3) := by decide +kernel
theorem dX10_writeBell_25 : decode cX10_writeBell 25 = .ok (.aload_n 0, 1) := by decide +kernel
theorem dX10_writeBell_26 : decode cX10_writeBell 26 = .ok (.getfield 50, 3) := by decide +kernel
theorem dX10_writeBell_29 : decode cX10_writeBell 29 = .ok (.iload_n 1, 1) := by decide +kernel
theorem dX10_writeBell_30 : decode cX10_writeBell 30 = .ok (.invokevirtual 331, 3) := by decide +kernel
theorem dX10_writeBell_33 : decode cX10_writeBell 33 = .ok (.bipush 104, 2) := by decide +kernel
theorem dX10_writeBell_35 : decode cX10_writeBell 35 = .ok (.invokevirtual 335, 3) := by decide +kernel
theorem dX10_writeBell_38 : decode cX10_writeBell 38 = .ok (.aload_n 0, 1) := by decide +kernel
theorem dX10_writeBell_39 : decode cX10_writeBell 39 = .ok (.getfield 10, 3) := by decide +kernel
theorem dX10_writeBell_42 : decode cX10_writeBell 42 = .ok (.getfield 108, 3) := by decide +kernel
theorem dX10_writeBell_45 : decode cX10_writeBell 45 = .ok (.getfield 121, 3) := by decide +kernel
theorem dX10_writeBell_48 : decode cX10_writeBell 48 = .ok (.iload_n 1, 1) := by decide +kernel
theorem dX10_writeBell_49 : decode cX10_writeBell 49 = .ok (.iaload, 1) := by decide +kernel
theorem dX10_writeBell_50 : decode cX10_writeBell 50 = .ok (.invokevirtual 331, 3) := by decide +kernel
theorem dX10_writeBell_53 : decode cX10_writeBell 53 = .ok (.bipush 58, 2) := by decide +kernel
theorem dX10_writeBell_55 : decode cX10_writeBell 55 = .ok (.invokevirtual 335, 3) := by decide +kernel
theorem dX10_writeBell_58 : decode cX10_writeBell 58 = .ok (.pop, 1) := by decide +kernel
theorem dX10_writeBell_59 : decode cX10_writeBell 59 = .ok (.aload_n 0, 1) := by decide +kernel
theorem dX10_writeBell_60 : decode cX10_writeBell 60 = .ok (.iload_n 2, 1) := by decide +kernel
theorem dX10_writeBell_61 : decode cX10_writeBell 61 = .ok (.bipush 12, 2) := by decide +kernel
theorem dX10_writeBell_63 : decode cX10_writeBell 63 = .ok (.invokestatic 338, 3) := by decide +kernel
theorem dX10_writeBell_66 : decode cX10_writeBell 66 = .ok (.invokevirtual 343, 3) := by decide +kernel
theorem dX10_writeBell_69 : decode cX10_writeBell 69 = .ok (.aload_n 0, 1) := by decide +kernel
theorem dX10_writeBell_70 : decode cX10_writeBell 70 = .ok (.getfield 50, 3) := by decide +kernel
theorem dX10_writeBell_73 : decode cX10_writeBell 73 = .ok (.iload_n 2, 1) := by decide +kernel
theorem dX10_writeBell_74 : decode cX10_writeBell 74 = .ok (.bipush 12, 2) := by decide +kernel
theorem dX10_writeBell_76 : decode cX10_writeBell 76 = .ok (.invokestatic 346, 3) := by decide +kernel
theorem dX10_writeBell_79 : decode cX10_writeBell 79 = .ok (.iconst 1, 1) := by decide +kernel
theorem dX10_writeBell_80 : decode cX10_writeBell 80 = .ok (.isub, 1) := by decide +kernel
theorem dX10_writeBell_81 : decode cX10_writeBell 81 = .ok (.invokevirtual 331, 3) := by decide +kernel
theorem dX10_writeBell_84 : decode cX10_writeBell 84 = .ok (.pop, 1) := by decide +kernel
theorem dX10_writeBell_85 : decode cX10_writeBell 85 = .ok (.aload_n 0, 1) := by decide +kernel
theorem dX10_writeBell_86 : decode cX10_writeBell 86 = .ok (.aload_n 0, 1) := by decide +kernel
theorem dX10_writeBell_87 : decode cX10_writeBell 87 = .ok (.getfield 10, 3) := by decide +kernel
theorem dX10_writeBell_90 : decode cX10_writeBell 90 = .ok (.getfield 108, 3) := by decide +kernel
theorem dX10_writeBell_93 : decode cX10_writeBell 93 = .ok (.iload_n 1, 1) := by decide +kernel
theorem dX10_writeBell_94 : decode cX10_writeBell 94 = .ok (.invokevirtual 132, 3) := by decide +kernel
theorem dX10_writeBell_97 : decode cX10_writeBell 97 = .ok (.invokevirtual 349, 3) := by decide +kernel
theorem dX10_writeBell_100 : decode cX10_writeBell 100 = .ok (.aload_n 0, 1) := by decide +kernel
theorem dX10_writeBell_101 : decode cX10_writeBell 101 = .ok (.getfield 10, 3) := by decide +kernel
theorem dX10_writeBell_104 : decode cX10_writeBell 104 = .ok (.getfield 135, 3) := by decide +kernel
theorem dX10_writeBell_107 : decode cX10_writeBell 107 = .ok (.aload_n 0, 1) := by decide +kernel
theorem dX10_writeBell_108 : decode cX10_writeBell 108 = .ok (.getfield 10, 3) := by decide +kernel
theorem dX10_writeBell_111 : decode cX10_writeBell 111 = .ok (.getfield 108, 3) := by decide +kernel
theorem dX10_writeBell_114 : decode cX10_writeBell 114 = .ok (.getfield 125, 3) := by decide +kernel
theorem dX10_writeBell_117 : decode cX10_writeBell 117 = .ok (.iload_n 1, 1) := by decide +kernel
theorem dX10_writeBell_118 : decode cX10_writeBell 118 = .ok (.iaload, 1) := by decide +kernel
theorem dX10_writeBell_119 : decode cX10_writeBell 119 = .ok (.invokevirtual 138, 3) := by decide +kernel
theorem dX10_writeBell_122 : decode cX10_writeBell 122 = .ok (.ifCond .ne 13, 3) := by decide +kernel
theorem dX10_writeBell_125 : decode cX10_writeBell 125 = .ok (.aload_n 0, 1) := by decide +kernel
theorem dX10_writeBell_126 : decode cX10_writeBell 126 = .ok (.getfield 50, 3) := by decide +kernel
theorem dX10_writeBell_129 : decode cX10_writeBell 129 = .ok (.bipush 33, 2) := by decide +kernel
theorem dX10_writeBell_131 : decode cX10_writeBell 131 = .ok (.invokevirtual 335, 3) := by decide +kernel
theorem dX10_writeBell_134 : decode cX10_writeBell 134 = .ok (.pop, 1) := by decide +kernel
theorem dX10_writeBell_135 : decode cX10_writeBell 135 = .ok (.aload_n 0, 1) := by decide +kernel
theorem dX10_writeBell_136 : decode cX10_writeBell 136 = .ok (.getfield 50, 3) := by decide +kernel
theorem dX10_writeBell_139 : decode cX10_writeBell 139 = .ok (.invokevirtual 352, 3) := by decide +kernel
theorem dX10_writeBell_142 : decode cX10_writeBell 142 = .ok (.ireturn, 1) := by decide +kernel
def f_X10_writeBell (x_valley_key_tonic : Int32) (x_valley_key_isMinor : Int32) (x_valley_key_tolerance : Int32) (x_valley_bells_herds : (Nat → Int32)) (x_valley_bells_pitches : (Nat → Int32)) (x_valley_bells_count : Int32) (x_line_value : (Nat → Int32)) (x_line_cap : Nat) (x_line_maybeLatin1 : Int32) (x_line_count : Int32) (p1 : Int32) : Option ((Int32 ⊕ String) × (Nat → Int32) × Nat × Int32 × Int32) :=
  q_bd (f_X10_requireBell x_valley_bells_count p1) (fun q1 =>
  q_sm q1 (fun X => some (Sum.inr X, x_line_value, x_line_cap, x_line_maybeLatin1, x_line_count)) (fun r2 =>
  q_bd (f_X1_noteOf x_valley_bells_pitches p1) (fun q3 =>
  q_bd (f_J4_setLength_d00df x_line_value x_line_cap x_line_maybeLatin1 x_line_count 0) (fun q4 =>
  q_bd (f_J4_append_bf812 q4.1 q4.2.1 q4.2.2.2 p1) (fun q6 =>
  q_bd (f_J4_append_cf468 q6.1 q6.2.1 q6.2.2 104) (fun q8 =>
  q_gd (q_in p1 12) (
  q_bd (f_J4_append_bf812 q8.1 q8.2.1 q8.2.2 (x_valley_bells_herds (p1.toNatClampNeg))) (fun q11 =>
  q_bd (f_J4_append_cf468 q11.1 q11.2.1 q11.2.2 58) (fun q13 =>
  q_bd (f_J9_floorMod_7cf53 q3 12) (fun q15 =>
  q_bd (f_X10_writeName q13.1 q13.2.1 q13.2.2 q15) (fun q16 =>
  q_bd (f_J9_floorDiv_7cf53 q3 12) (fun q18 =>
  q_bd (f_J4_append_bf812 q16.1 q16.2.1 q16.2.2 (q18 - 1)) (fun q19 =>
  q_bd (f_X1_deviationOf x_valley_bells_pitches p1) (fun q21 =>
  q_bd (f_X10_writeDeviation q19.1 q19.2.1 q19.2.2 q21) (fun q22 =>
  q_gd (q_in p1 12) (
  q_bd (f_X6_accepts x_valley_key_tonic x_valley_key_isMinor x_valley_key_tolerance (x_valley_bells_pitches (p1.toNatClampNeg))) (fun q25 =>
  q_lt (fun (j26 : (Nat → Int32)) (j27 : Nat) (j29 : Int32) =>
  q_bd (f_J4_length_8abf5 j29) (fun q30 =>
  some (Sum.inl q30, j26, j27, q4.2.2.1, j29))) (fun (J135 : (Nat → Int32) → Nat → Int32 → Option ((Int32 ⊕ String) × (Nat → Int32) × Nat × Int32 × Int32)) =>
  q_br (q25 = 0) (
  q_bd (f_J4_append_cf468 q22.1 q22.2.1 q22.2.2 33) (fun q31 =>
  J135 q31.1 q31.2.1 q31.2.2)) (
  J135 q22.1 q22.2.1 q22.2.2)))))))))))))))))))
theorem hv_X10_writeBell : yX10_writeBell.cls = RX10 ∧ yX10_writeBell.cls ≠ "java/lang/invoke/MethodHandle" ∧ yX10_writeBell.cls ≠ "java/lang/invoke/VarHandle" ∧ (parseMethodDescriptor yX10_writeBell.desc).map (fun d => d.parameters.length) = some 1 := by decide +kernel
abbrev rm_X10_writeBell : Room := { frames := 7, cells := 12, slots := 1106, locals := 169 }
set_option maxHeartbeats 4000000 in
set_option maxRecDepth 100000 in
theorem k_X10_writeBell (l : Launch) (E : ET) (a : Nat → Nat) (o : Nat) (x : VB_t) (p1 : Int32) (res : (Int32 ⊕ String) × (Nat → Int32) × Nat × Int32 × Int32) (hF : f_X10_writeBell x.1.1.1.1 x.1.1.1.2.1 x.1.1.1.2.2 x.1.1.2.1.1 x.1.1.2.1.2.1 x.1.1.2.1.2.2 x.2.2.1.1 x.2.2.1.2.1 x.2.2.1.2.2.2.1 x.2.2.1.2.2.2.2 p1 = some res) (sz : Nat) (hlt : l.stackTraces = false) : CxgI l yX10_writeBell (mws yX10_writeBell cX10_writeBell 3 (some .int)) rm_X10_writeBell 12 1106 [.ref (a o), .int p1] E (bl_VB E a o x) res.1 (fun ad : Nat => bl_VB E a o ((x.1.1, x.1.2.1, x.1.2.2.1, x.1.2.2.2.1, x.1.2.2.2.2), (x.2.1, (res.2.1, res.2.2.1, ad, res.2.2.2.1, res.2.2.2.2), x.2.2.2.1, x.2.2.2.2.1, x.2.2.2.2.2))) sz := by
  refine mk_X (by decide +kernel) (Nat.le_of_ble_eq_true rfl) ?_
  intro p e s m below meth c A args Q ls hAe hsz hQ hx hb hr hml hin ha hown hlocks hA hz hzs hst hexc hP hD hS hl
  have hown : s.vm.findClass RX10 = some m.cls := hown
  rw [hAe] at hQ
  subst hsz
  have hP : va_P E.1 vwCl (List.flatten [w_VBR a o x.2.2.2.1 x.2.2.2.2.1 x.2.2.2.2.2, w_ValleyR a (o + 1), w_Key E a (o + 2) x.1.1.1, w_Bells E a (o + 3) x.1.1.2.1, w_Mel E a (o + 6) x.1.1.2.2.1, w_Cliffs E a (o + 10) x.1.1.2.2.2, w_ValleyR a (o + 13), w_Key E a (o + 14) x.1.2.1.1, w_Bells E a (o + 15) x.1.2.1.2.1, w_Mel E a (o + 18) x.1.2.1.2.2.1, w_Cliffs E a (o + 22) x.1.2.1.2.2.2, w_Prog E a (o + 25) x.1.2.2.2.1, w_Chord E a (o + 31) x.1.2.2.2.2, w_Key E a (o + 34) x.2.1, w_Line E a (o + 35) x.2.2.1, w_Hist E a (o + 37) x.1.2.2.1]) s.heap := hP
  have hD : va_D A (List.flatten [w_VBR a o x.2.2.2.1 x.2.2.2.2.1 x.2.2.2.2.2, w_ValleyR a (o + 1), w_Key E a (o + 2) x.1.1.1, w_Bells E a (o + 3) x.1.1.2.1, w_Mel E a (o + 6) x.1.1.2.2.1, w_Cliffs E a (o + 10) x.1.1.2.2.2, w_ValleyR a (o + 13), w_Key E a (o + 14) x.1.2.1.1, w_Bells E a (o + 15) x.1.2.1.2.1, w_Mel E a (o + 18) x.1.2.1.2.2.1, w_Cliffs E a (o + 22) x.1.2.1.2.2.2, w_Prog E a (o + 25) x.1.2.2.2.1, w_Chord E a (o + 31) x.1.2.2.2.2, w_Key E a (o + 34) x.2.1, w_Line E a (o + 35) x.2.2.1, w_Hist E a (o + 37) x.1.2.2.1]) := hD
  have hl : lv_has ls 3 [(0, .ref (a o)), (1, .int p1)] := hl
  generalize hHe : s.heap = H at hP
  have hS : va_S A s.heap H [] := by rw [← hHe]; exact hS
  generalize ([] : List Loc) = locs at hS ⊢
  unfold f_X10_writeBell at hF
  refine lv_aload_n hx hb dX10_writeBell_0 rfl (lv_at hl 0 rfl) ?_
  refine lv_iload_n hx hb dX10_writeBell_1 rfl (lv_at hl 1 rfl) ?_
  obtain ⟨q1, hq1, hF⟩ := q_bdi hF
  refine cx_v (ro := q1) (Lc := [w_VBR a o x.2.2.2.1 x.2.2.2.2.1 x.2.2.2.2.2, w_ValleyR a (o + 1), w_Key E a (o + 2) x.1.1.1, w_Bells E a (o + 3) x.1.1.2.1, w_Mel E a (o + 6) x.1.1.2.2.1, w_Cliffs E a (o + 10) x.1.1.2.2.2, w_ValleyR a (o + 13), w_Key E a (o + 14) x.1.2.1.1, w_Bells E a (o + 15) x.1.2.1.2.1, w_Mel E a (o + 18) x.1.2.1.2.2.1, w_Cliffs E a (o + 22) x.1.2.1.2.2.2, w_Prog E a (o + 25) x.1.2.2.2.1, w_Chord E a (o + 31) x.1.2.2.2.2, w_Key E a (o + 34) x.2.1, w_Line E a (o + 35) x.2.2.1, w_Hist E a (o + 37) x.1.2.2.1]) (Lc' := [w_VBR a o x.2.2.2.1 x.2.2.2.2.1 x.2.2.2.2.2, w_ValleyR a (o + 1), w_Key E a (o + 2) x.1.1.1, w_Bells E a (o + 3) x.1.1.2.1, w_Mel E a (o + 6) x.1.1.2.2.1, w_Cliffs E a (o + 10) x.1.1.2.2.2, w_ValleyR a (o + 13), w_Key E a (o + 14) x.1.2.1.1, w_Bells E a (o + 15) x.1.2.1.2.1, w_Mel E a (o + 18) x.1.2.1.2.2.1, w_Cliffs E a (o + 22) x.1.2.1.2.2.2, w_Prog E a (o + 25) x.1.2.2.2.1, w_Chord E a (o + 31) x.1.2.2.2.2, w_Key E a (o + 34) x.2.1, w_Line E a (o + 35) x.2.2.1, w_Hist E a (o + 37) x.1.2.2.1]) (L' := [w_VBR a o x.2.2.2.1 x.2.2.2.2.1 x.2.2.2.2.2, w_ValleyR a (o + 1), w_Key E a (o + 2) x.1.1.1, w_Bells E a (o + 3) x.1.1.2.1, w_Mel E a (o + 6) x.1.1.2.2.1, w_Cliffs E a (o + 10) x.1.1.2.2.2, w_ValleyR a (o + 13), w_Key E a (o + 14) x.1.2.1.1, w_Bells E a (o + 15) x.1.2.1.2.1, w_Mel E a (o + 18) x.1.2.1.2.2.1, w_Cliffs E a (o + 22) x.1.2.1.2.2.2, w_Prog E a (o + 25) x.1.2.2.2.1, w_Chord E a (o + 31) x.1.2.2.2.2, w_Key E a (o + 34) x.2.1, w_Line E a (o + 35) x.2.2.1, w_Hist E a (o + 37) x.1.2.2.1]) (vx_runV (As := [.int p1]) (rest := []) ⟨hx, hb, hml, hown, ha⟩ (k_X10_requireBell l E a o x p1 q1 hq1 H.size hlt) (cwV 1 ha (gi_V (fun _ h => h) mw1210 mw1212 mw12 mw74 mw1213) rfl rfl rfl hv_X10_requireBell ⟨(Nat.le_of_ble_eq_true rfl), (Nat.le_of_ble_eq_true rfl)⟩) ⟨pre_blind, va_recv hst.k (fr_P hP [0, 1, 2, 3, 4, 5, 6, 7, 8, 9, 10, 11, 12, 13, 14, 15] rfl) (ci := 12) (q0 := 0) rfl rfl, pre_at hP hD hS hz hzs hst [0, 1, 2, 3, 4, 5, 6, 7, 8, 9, 10, 11, 12, 13, 14, 15] (by decide) rfl rfl⟩ rfl rfl hl.1 rfl (lv_room (Nat.le_of_ble_eq_true rfl)) dX10_writeBell_2 ⟨(Nat.le_of_ble_eq_true rfl), (Nat.le_of_ble_eq_true rfl)⟩) hP hD hS hA [0, 1, 2, 3, 4, 5, 6, 7, 8, 9, 10, 11, 12, 13, 14, 15] (by decide) rfl rfl rfl rfl (fun X ce q9 H locs eX h1 h2 h3 hP hD hS => ?_) (fun r2 H locs er2 hP hD hS => ?_)
  · have hF := q_smr eX hF
    obtain rfl := Option.some.inj hF
    exact en_gout (ad := x.2.2.1.2.2.1) hQ (Nat.le_of_ble_eq_true rfl) (Nat.le_of_ble_eq_true rfl) hexc hlocks h1 h2 h3 hP hD hS rfl
  have hF := q_sml er2 hF
  refine lv_aload_n hx hb dX10_writeBell_5 rfl (lv_at hl 0 rfl) ?_
  refine va_get (D := E.1) (ci := 12) (v := .ref (a (o + 1))) (C := RX10) (T := TX10) (N := 10) hx hb ha in_X10 hown hst.k hP 0 rfl rfl 0 (by decide) (ha _ mw341) (fun _ h9 => h9) rfl dX10_writeBell_6 ?_
  refine va_getN (D := E.1) (ci := 11) (v := .ref (a (o + 3))) (C := RX9) (T := TX9) (N := 4) hx hb ha in_X9 hown hst.k hP 1 rfl rfl 1 (by decide) (va_Nw.use rfl (nf17 hst)) (fun _ h9 => h9) rfl dX10_writeBell_9 ?_
  refine lv_iload_n hx hb dX10_writeBell_12 rfl (lv_at hl 1 rfl) ?_
  obtain ⟨q3, hq3, hF⟩ := q_bdi hF
  refine cl_i (Lc := [w_Bells E a (o + 3) x.1.1.2.1]) (Lc' := [w_Bells E a (o + 3) x.1.1.2.1]) (L' := [w_VBR a o x.2.2.2.1 x.2.2.2.2.1 x.2.2.2.2.2, w_ValleyR a (o + 1), w_Key E a (o + 2) x.1.1.1, w_Bells E a (o + 3) x.1.1.2.1, w_Mel E a (o + 6) x.1.1.2.2.1, w_Cliffs E a (o + 10) x.1.1.2.2.2, w_ValleyR a (o + 13), w_Key E a (o + 14) x.1.2.1.1, w_Bells E a (o + 15) x.1.2.1.2.1, w_Mel E a (o + 18) x.1.2.1.2.2.1, w_Cliffs E a (o + 22) x.1.2.1.2.2.2, w_Prog E a (o + 25) x.1.2.2.2.1, w_Chord E a (o + 31) x.1.2.2.2.2, w_Key E a (o + 34) x.2.1, w_Line E a (o + 35) x.2.2.1, w_Hist E a (o + 37) x.1.2.2.1]) (rv := q3) (va_runV (As := [.int p1]) (rest := []) ⟨hx, hb, hml, hown, ha⟩ (k_X1_noteOf l E a (o + 3) x.1.1.2.1 p1 q3 hq3 H.size) (cwV 1 ha (gi_V (fun _ h => h) mw1230 mw473 mw474 mw77 mw475) rfl rfl rfl hv_X1_noteOf ⟨(Nat.le_of_ble_eq_true rfl), (Nat.le_of_ble_eq_true rfl)⟩) ⟨pre_blind, va_recv hst.k (fr_P hP [3] rfl) (ci := 4) (q0 := 0) rfl rfl, pre_at hP hD hS hz hzs hst [3] (by decide) rfl rfl⟩ rfl rfl hl.1 rfl (lv_room (Nat.le_of_ble_eq_true rfl)) dX10_writeBell_13 ⟨(Nat.le_of_ble_eq_true rfl), (Nat.le_of_ble_eq_true rfl)⟩) hP hD hS hA [3] (by decide) rfl rfl rfl rfl (fun H locs hP hD hS => ?_)
  refine lv_istore_n (lv' := [(2, .int q3), (0, .ref (a o)), (1, .int p1)]) hx hb dX10_writeBell_16 rfl hl (by decide) rfl (fun ls hl => ?_)
  refine lv_aload_n hx hb dX10_writeBell_17 rfl (lv_at hl 1 rfl) ?_
  refine va_get (D := E.1) (ci := 12) (v := .ref (a (o + 35))) (C := RX10) (T := TX10) (N := 10) hx hb ha in_X10 hown hst.k hP 0 rfl rfl 6 (by decide) (ha _ mw347) (fun _ h9 => h9) rfl dX10_writeBell_18 ?_
  refine lv_iconst (v := 0) hx hb dX10_writeBell_21 (by decide) ?_
  obtain ⟨q4, hq4, hF⟩ := q_bdi hF
  refine cl_gv (Lc := [w_Line E a (o + 35) x.2.2.1]) (Lc' := fun gh5 => [w_Line E a (o + 35) (q4.1, q4.2.1, gh5, q4.2.2.1, q4.2.2.2)]) (L' := fun gh5 => [w_VBR a o x.2.2.2.1 x.2.2.2.2.1 x.2.2.2.2.2, w_ValleyR a (o + 1), w_Key E a (o + 2) x.1.1.1, w_Bells E a (o + 3) x.1.1.2.1, w_Mel E a (o + 6) x.1.1.2.2.1, w_Cliffs E a (o + 10) x.1.1.2.2.2, w_ValleyR a (o + 13), w_Key E a (o + 14) x.1.2.1.1, w_Bells E a (o + 15) x.1.2.1.2.1, w_Mel E a (o + 18) x.1.2.1.2.2.1, w_Cliffs E a (o + 22) x.1.2.1.2.2.2, w_Prog E a (o + 25) x.1.2.2.2.1, w_Chord E a (o + 31) x.1.2.2.2.2, w_Key E a (o + 34) x.2.1, w_Line E a (o + 35) (q4.1, q4.2.1, gh5, q4.2.2.1, q4.2.2.2), w_Hist E a (o + 37) x.1.2.2.1]) (va_runV (As := [.int 0]) (rest := []) ⟨hx, hb, hml, hown, ha⟩ (k_J4_setLength_d00df l E a (o + 35) x.2.2.1 0 q4 hq4 H.size) (cwV 1 ha (gi_V (fun _ h => h) mw562 mw563 mw564 mw84 mw565) rfl rfl rfl hv_J4_setLength_d00df ⟨(Nat.le_of_ble_eq_true rfl), (Nat.le_of_ble_eq_true rfl)⟩) ⟨pre_blind, va_recv hst.k (fr_P hP [14] rfl) (ci := 1) (q0 := 0) rfl rfl, pre_at hP hD hS hz hzs hst [14] (by decide) rfl rfl⟩ rfl rfl hl.1 rfl (lv_room (Nat.le_of_ble_eq_true rfl)) dX10_writeBell_22 ⟨(Nat.le_of_ble_eq_true rfl), (Nat.le_of_ble_eq_true rfl)⟩) hP hD hS hA [14] (by decide) rfl rfl (fun _ => rfl) (fun _ => rfl) (fun gh5 H locs hP hD hS => ?_)
  refine lv_aload_n hx hb dX10_writeBell_25 rfl (lv_at hl 1 rfl) ?_
  refine va_get (D := E.1) (ci := 12) (v := .ref (a (o + 35))) (C := RX10) (T := TX10) (N := 10) hx hb ha in_X10 hown hst.k hP 0 rfl rfl 6 (by decide) (ha _ mw347) (fun _ h9 => h9) rfl dX10_writeBell_26 ?_
  refine lv_iload_n hx hb dX10_writeBell_29 rfl (lv_at hl 2 rfl) ?_
  obtain ⟨q6, hq6, hF⟩ := q_bdi hF
  refine cl_gr (Lc := [w_Line E a (o + 35) (q4.1, q4.2.1, gh5, q4.2.2.1, q4.2.2.2)]) (Lc' := fun gh7 => [w_Line E a (o + 35) (q6.1, q6.2.1, gh7, q4.2.2.1, q6.2.2)]) (L' := fun gh7 => [w_VBR a o x.2.2.2.1 x.2.2.2.2.1 x.2.2.2.2.2, w_ValleyR a (o + 1), w_Key E a (o + 2) x.1.1.1, w_Bells E a (o + 3) x.1.1.2.1, w_Mel E a (o + 6) x.1.1.2.2.1, w_Cliffs E a (o + 10) x.1.1.2.2.2, w_ValleyR a (o + 13), w_Key E a (o + 14) x.1.2.1.1, w_Bells E a (o + 15) x.1.2.1.2.1, w_Mel E a (o + 18) x.1.2.1.2.2.1, w_Cliffs E a (o + 22) x.1.2.1.2.2.2, w_Prog E a (o + 25) x.1.2.2.2.1, w_Chord E a (o + 31) x.1.2.2.2.2, w_Key E a (o + 34) x.2.1, w_Line E a (o + 35) (q6.1, q6.2.1, gh7, q4.2.2.1, q6.2.2), w_Hist E a (o + 37) x.1.2.2.1]) (ra := a (o + 35)) (va_runV (As := [.int p1]) (rest := []) ⟨hx, hb, hml, hown, ha⟩ (k_J4_append_bf812 l E a (o + 35) (q4.1, q4.2.1, gh5, q4.2.2.1, q4.2.2.2) p1 q6 hq6 H.size) (cwV 1 ha (gi_V (fun _ h => h) mw931 mw698 mw699 mw84 mw700) rfl rfl rfl hv_J4_append_bf812 ⟨(Nat.le_of_ble_eq_true rfl), (Nat.le_of_ble_eq_true rfl)⟩) ⟨pre_blind, va_recv hst.k (fr_P hP [14] rfl) (ci := 1) (q0 := 0) rfl rfl, pre_at hP hD hS hz hzs hst [14] (by decide) rfl rfl⟩ rfl rfl hl.1 rfl (lv_room (Nat.le_of_ble_eq_true rfl)) dX10_writeBell_30 ⟨(Nat.le_of_ble_eq_true rfl), (Nat.le_of_ble_eq_true rfl)⟩) hP hD hS hA [14] (by decide) rfl rfl (fun _ => rfl) (fun _ => rfl) (fun gh7 H locs hP hD hS => ?_)
  refine lv_bipush (v := 104) hx hb dX10_writeBell_33 (by decide) ?_
  obtain ⟨q8, hq8, hF⟩ := q_bdi hF
  refine cl_gr (Lc := [w_Line E a (o + 35) (q6.1, q6.2.1, gh7, q4.2.2.1, q6.2.2)]) (Lc' := fun gh9 => [w_Line E a (o + 35) (q8.1, q8.2.1, gh9, q4.2.2.1, q8.2.2)]) (L' := fun gh9 => [w_VBR a o x.2.2.2.1 x.2.2.2.2.1 x.2.2.2.2.2, w_ValleyR a (o + 1), w_Key E a (o + 2) x.1.1.1, w_Bells E a (o + 3) x.1.1.2.1, w_Mel E a (o + 6) x.1.1.2.2.1, w_Cliffs E a (o + 10) x.1.1.2.2.2, w_ValleyR a (o + 13), w_Key E a (o + 14) x.1.2.1.1, w_Bells E a (o + 15) x.1.2.1.2.1, w_Mel E a (o + 18) x.1.2.1.2.2.1, w_Cliffs E a (o + 22) x.1.2.1.2.2.2, w_Prog E a (o + 25) x.1.2.2.2.1, w_Chord E a (o + 31) x.1.2.2.2.2, w_Key E a (o + 34) x.2.1, w_Line E a (o + 35) (q8.1, q8.2.1, gh9, q4.2.2.1, q8.2.2), w_Hist E a (o + 37) x.1.2.2.1]) (ra := a (o + 35)) (va_runV (As := [.int 104]) (rest := []) ⟨hx, hb, hml, hown, ha⟩ (k_J4_append_cf468 l E a (o + 35) (q6.1, q6.2.1, gh7, q4.2.2.1, q6.2.2) 104 q8 hq8 H.size) (cwV 1 ha (gi_V (fun _ h => h) mw909 mw910 mw911 mw84 mw912) rfl rfl rfl hv_J4_append_cf468 ⟨(Nat.le_of_ble_eq_true rfl), (Nat.le_of_ble_eq_true rfl)⟩) ⟨pre_blind, va_recv hst.k (fr_P hP [14] rfl) (ci := 1) (q0 := 0) rfl rfl, pre_at hP hD hS hz hzs hst [14] (by decide) rfl rfl⟩ rfl rfl hl.1 rfl (lv_room (Nat.le_of_ble_eq_true rfl)) dX10_writeBell_35 ⟨(Nat.le_of_ble_eq_true rfl), (Nat.le_of_ble_eq_true rfl)⟩) hP hD hS hA [14] (by decide) rfl rfl (fun _ => rfl) (fun _ => rfl) (fun gh9 H locs hP hD hS => ?_)
  refine lv_aload_n hx hb dX10_writeBell_38 rfl (lv_at hl 1 rfl) ?_
  refine va_get (D := E.1) (ci := 12) (v := .ref (a (o + 1))) (C := RX10) (T := TX10) (N := 10) hx hb ha in_X10 hown hst.k hP 0 rfl rfl 0 (by decide) (ha _ mw341) (fun _ h9 => h9) rfl dX10_writeBell_39 ?_
  refine va_getN (D := E.1) (ci := 11) (v := .ref (a (o + 3))) (C := RX9) (T := TX9) (N := 4) hx hb ha in_X9 hown hst.k hP 1 rfl rfl 1 (by decide) (va_Nw.use rfl (nf17 hst)) (fun _ h9 => h9) rfl dX10_writeBell_42 ?_
  refine va_getN (D := E.1) (ci := 4) (v := .ref (a (o + 4))) (C := RX1) (T := TX1) (N := 3) hx hb ha in_X1 hown hst.k hP 3 rfl rfl 0 (by decide) (va_Nw.use rfl (nf3 hst)) (fun _ h9 => h9) rfl dX10_writeBell_45 ?_
  refine lv_iload_n hx hb dX10_writeBell_48 rfl (lv_at hl 2 rfl) ?_
  obtain ⟨g10, hF⟩ := q_gdi hF
  refine vi_iald hx hb hst.k hP 4 0 rfl rfl (f := x.1.1.2.1.1) (k := p1.toNatClampNeg) rfl g10 dX10_writeBell_49 ?_
  obtain ⟨q11, hq11, hF⟩ := q_bdi hF
  refine cl_gr (Lc := [w_Line E a (o + 35) (q8.1, q8.2.1, gh9, q4.2.2.1, q8.2.2)]) (Lc' := fun gh12 => [w_Line E a (o + 35) (q11.1, q11.2.1, gh12, q4.2.2.1, q11.2.2)]) (L' := fun gh12 => [w_VBR a o x.2.2.2.1 x.2.2.2.2.1 x.2.2.2.2.2, w_ValleyR a (o + 1), w_Key E a (o + 2) x.1.1.1, w_Bells E a (o + 3) x.1.1.2.1, w_Mel E a (o + 6) x.1.1.2.2.1, w_Cliffs E a (o + 10) x.1.1.2.2.2, w_ValleyR a (o + 13), w_Key E a (o + 14) x.1.2.1.1, w_Bells E a (o + 15) x.1.2.1.2.1, w_Mel E a (o + 18) x.1.2.1.2.2.1, w_Cliffs E a (o + 22) x.1.2.1.2.2.2, w_Prog E a (o + 25) x.1.2.2.2.1, w_Chord E a (o + 31) x.1.2.2.2.2, w_Key E a (o + 34) x.2.1, w_Line E a (o + 35) (q11.1, q11.2.1, gh12, q4.2.2.1, q11.2.2), w_Hist E a (o + 37) x.1.2.2.1]) (ra := a (o + 35)) (va_runV (As := [.int (x.1.1.2.1.1 (p1.toNatClampNeg))]) (rest := []) ⟨hx, hb, hml, hown, ha⟩ (k_J4_append_bf812 l E a (o + 35) (q8.1, q8.2.1, gh9, q4.2.2.1, q8.2.2) (x.1.1.2.1.1 (p1.toNatClampNeg)) q11 hq11 H.size) (cwV 1 ha (gi_V (fun _ h => h) mw931 mw698 mw699 mw84 mw700) rfl rfl rfl hv_J4_append_bf812 ⟨(Nat.le_of_ble_eq_true rfl), (Nat.le_of_ble_eq_true rfl)⟩) ⟨pre_blind, va_recv hst.k (fr_P hP [14] rfl) (ci := 1) (q0 := 0) rfl rfl, pre_at hP hD hS hz hzs hst [14] (by decide) rfl rfl⟩ rfl rfl hl.1 rfl (lv_room (Nat.le_of_ble_eq_true rfl)) dX10_writeBell_50 ⟨(Nat.le_of_ble_eq_true rfl), (Nat.le_of_ble_eq_true rfl)⟩) hP hD hS hA [14] (by decide) rfl rfl (fun _ => rfl) (fun _ => rfl) (fun gh12 H locs hP hD hS => ?_)
  refine lv_bipush (v := 58) hx hb dX10_writeBell_53 (by decide) ?_
  obtain ⟨q13, hq13, hF⟩ := q_bdi hF
  refine cl_gr (Lc := [w_Line E a (o + 35) (q11.1, q11.2.1, gh12, q4.2.2.1, q11.2.2)]) (Lc' := fun gh14 => [w_Line E a (o + 35) (q13.1, q13.2.1, gh14, q4.2.2.1, q13.2.2)]) (L' := fun gh14 => [w_VBR a o x.2.2.2.1 x.2.2.2.2.1 x.2.2.2.2.2, w_ValleyR a (o + 1), w_Key E a (o + 2) x.1.1.1, w_Bells E a (o + 3) x.1.1.2.1, w_Mel E a (o + 6) x.1.1.2.2.1, w_Cliffs E a (o + 10) x.1.1.2.2.2, w_ValleyR a (o + 13), w_Key E a (o + 14) x.1.2.1.1, w_Bells E a (o + 15) x.1.2.1.2.1, w_Mel E a (o + 18) x.1.2.1.2.2.1, w_Cliffs E a (o + 22) x.1.2.1.2.2.2, w_Prog E a (o + 25) x.1.2.2.2.1, w_Chord E a (o + 31) x.1.2.2.2.2, w_Key E a (o + 34) x.2.1, w_Line E a (o + 35) (q13.1, q13.2.1, gh14, q4.2.2.1, q13.2.2), w_Hist E a (o + 37) x.1.2.2.1]) (ra := a (o + 35)) (va_runV (As := [.int 58]) (rest := []) ⟨hx, hb, hml, hown, ha⟩ (k_J4_append_cf468 l E a (o + 35) (q11.1, q11.2.1, gh12, q4.2.2.1, q11.2.2) 58 q13 hq13 H.size) (cwV 1 ha (gi_V (fun _ h => h) mw909 mw910 mw911 mw84 mw912) rfl rfl rfl hv_J4_append_cf468 ⟨(Nat.le_of_ble_eq_true rfl), (Nat.le_of_ble_eq_true rfl)⟩) ⟨pre_blind, va_recv hst.k (fr_P hP [14] rfl) (ci := 1) (q0 := 0) rfl rfl, pre_at hP hD hS hz hzs hst [14] (by decide) rfl rfl⟩ rfl rfl hl.1 rfl (lv_room (Nat.le_of_ble_eq_true rfl)) dX10_writeBell_55 ⟨(Nat.le_of_ble_eq_true rfl), (Nat.le_of_ble_eq_true rfl)⟩) hP hD hS hA [14] (by decide) rfl rfl (fun _ => rfl) (fun _ => rfl) (fun gh14 H locs hP hD hS => ?_)
  refine lv_pop hx hb dX10_writeBell_58 rfl ?_
  refine lv_aload_n hx hb dX10_writeBell_59 rfl (lv_at hl 1 rfl) ?_
  refine lv_iload_n hx hb dX10_writeBell_60 rfl (lv_at hl 0 rfl) ?_
  refine lv_bipush (v := 12) hx hb dX10_writeBell_61 (by decide) ?_
  obtain ⟨q15, hq15, hF⟩ := q_bdi hF
  refine cl_i (Lc := []) (Lc' := []) (L' := [w_VBR a o x.2.2.2.1 x.2.2.2.2.1 x.2.2.2.2.2, w_ValleyR a (o + 1), w_Key E a (o + 2) x.1.1.1, w_Bells E a (o + 3) x.1.1.2.1, w_Mel E a (o + 6) x.1.1.2.2.1, w_Cliffs E a (o + 10) x.1.1.2.2.2, w_ValleyR a (o + 13), w_Key E a (o + 14) x.1.2.1.1, w_Bells E a (o + 15) x.1.2.1.2.1, w_Mel E a (o + 18) x.1.2.1.2.2.1, w_Cliffs E a (o + 22) x.1.2.1.2.2.2, w_Prog E a (o + 25) x.1.2.2.2.1, w_Chord E a (o + 31) x.1.2.2.2.2, w_Key E a (o + 34) x.2.1, w_Line E a (o + 35) (q13.1, q13.2.1, gh14, q4.2.2.1, q13.2.2), w_Hist E a (o + 37) x.1.2.2.1]) (rv := q15) (va_runS (As := [.int q3, .int 12]) (rest := [.ref (a o)]) ⟨hx, hb, hml, hown, ha⟩ (k_J9_floorMod_7cf53 l E q3 12 q15 hq15 H.size) (va_cwS 2 ha (gi_T (fun _ h => h) mw405 mw406 mw97 mw407) rfl rfl rfl hv_J9_floorMod_7cf53.2 ⟨(Nat.le_of_ble_eq_true rfl), (Nat.le_of_ble_eq_true rfl)⟩) ⟨pre_blind, pre_at hP hD hS hz hzs hst [] (by decide) rfl rfl⟩ rfl rfl hl.1 rfl (lv_room (Nat.le_of_ble_eq_true rfl)) dX10_writeBell_63 ⟨(Nat.le_of_ble_eq_true rfl), (Nat.le_of_ble_eq_true rfl)⟩) hP hD hS hA [] (by decide) rfl rfl rfl rfl (fun H locs hP hD hS => ?_)
  obtain ⟨q16, hq16, hF⟩ := q_bdi hF
  refine cl_gv (Lc := [w_VBR a o x.2.2.2.1 x.2.2.2.2.1 x.2.2.2.2.2, w_ValleyR a (o + 1), w_Key E a (o + 2) x.1.1.1, w_Bells E a (o + 3) x.1.1.2.1, w_Mel E a (o + 6) x.1.1.2.2.1, w_Cliffs E a (o + 10) x.1.1.2.2.2, w_ValleyR a (o + 13), w_Key E a (o + 14) x.1.2.1.1, w_Bells E a (o + 15) x.1.2.1.2.1, w_Mel E a (o + 18) x.1.2.1.2.2.1, w_Cliffs E a (o + 22) x.1.2.1.2.2.2, w_Prog E a (o + 25) x.1.2.2.2.1, w_Chord E a (o + 31) x.1.2.2.2.2, w_Key E a (o + 34) x.2.1, w_Line E a (o + 35) (q13.1, q13.2.1, gh14, q4.2.2.1, q13.2.2), w_Hist E a (o + 37) x.1.2.2.1]) (Lc' := fun gh17 => [w_VBR a o x.2.2.2.1 x.2.2.2.2.1 x.2.2.2.2.2, w_ValleyR a (o + 1), w_Key E a (o + 2) x.1.1.1, w_Bells E a (o + 3) x.1.1.2.1, w_Mel E a (o + 6) x.1.1.2.2.1, w_Cliffs E a (o + 10) x.1.1.2.2.2, w_ValleyR a (o + 13), w_Key E a (o + 14) x.1.2.1.1, w_Bells E a (o + 15) x.1.2.1.2.1, w_Mel E a (o + 18) x.1.2.1.2.2.1, w_Cliffs E a (o + 22) x.1.2.1.2.2.2, w_Prog E a (o + 25) x.1.2.2.2.1, w_Chord E a (o + 31) x.1.2.2.2.2, w_Key E a (o + 34) x.2.1, w_Line E a (o + 35) (q16.1, q16.2.1, gh17, q4.2.2.1, q16.2.2), w_Hist E a (o + 37) x.1.2.2.1]) (L' := fun gh17 => [w_VBR a o x.2.2.2.1 x.2.2.2.2.1 x.2.2.2.2.2, w_ValleyR a (o + 1), w_Key E a (o + 2) x.1.1.1, w_Bells E a (o + 3) x.1.1.2.1, w_Mel E a (o + 6) x.1.1.2.2.1, w_Cliffs E a (o + 10) x.1.1.2.2.2, w_ValleyR a (o + 13), w_Key E a (o + 14) x.1.2.1.1, w_Bells E a (o + 15) x.1.2.1.2.1, w_Mel E a (o + 18) x.1.2.1.2.2.1, w_Cliffs E a (o + 22) x.1.2.1.2.2.2, w_Prog E a (o + 25) x.1.2.2.2.1, w_Chord E a (o + 31) x.1.2.2.2.2, w_Key E a (o + 34) x.2.1, w_Line E a (o + 35) (q16.1, q16.2.1, gh17, q4.2.2.1, q16.2.2), w_Hist E a (o + 37) x.1.2.2.1]) (va_runV (As := [.int q15]) (rest := []) ⟨hx, hb, hml, hown, ha⟩ (k_X10_writeName l E a o ((x.1.1, x.1.2.1, x.1.2.2.1, x.1.2.2.2.1, x.1.2.2.2.2), (x.2.1, (q13.1, q13.2.1, gh14, q4.2.2.1, q13.2.2), x.2.2.2.1, x.2.2.2.2.1, x.2.2.2.2.2)) q15 q16 hq16 H.size) (cwV 1 ha (gi_V (fun _ h => h) mw1578 mw1580 mw25 mw74 mw1581) rfl rfl rfl hv_X10_writeName ⟨(Nat.le_of_ble_eq_true rfl), (Nat.le_of_ble_eq_true rfl)⟩) ⟨pre_blind, va_recv hst.k (fr_P hP [0, 1, 2, 3, 4, 5, 6, 7, 8, 9, 10, 11, 12, 13, 14, 15] rfl) (ci := 12) (q0 := 0) rfl rfl, pre_at hP hD hS hz hzs hst [0, 1, 2, 3, 4, 5, 6, 7, 8, 9, 10, 11, 12, 13, 14, 15] (by decide) rfl rfl⟩ rfl rfl hl.1 rfl (lv_room (Nat.le_of_ble_eq_true rfl)) dX10_writeBell_66 ⟨(Nat.le_of_ble_eq_true rfl), (Nat.le_of_ble_eq_true rfl)⟩) hP hD hS hA [0, 1, 2, 3, 4, 5, 6, 7, 8, 9, 10, 11, 12, 13, 14, 15] (by decide) rfl rfl (fun _ => rfl) (fun _ => rfl) (fun gh17 H locs hP hD hS => ?_)
  refine lv_aload_n hx hb dX10_writeBell_69 rfl (lv_at hl 1 rfl) ?_
  refine va_get (D := E.1) (ci := 12) (v := .ref (a (o + 35))) (C := RX10) (T := TX10) (N := 10) hx hb ha in_X10 hown hst.k hP 0 rfl rfl 6 (by decide) (ha _ mw347) (fun _ h9 => h9) rfl dX10_writeBell_70 ?_
  refine lv_iload_n hx hb dX10_writeBell_73 rfl (lv_at hl 0 rfl) ?_
  refine lv_bipush (v := 12) hx hb dX10_writeBell_74 (by decide) ?_
  obtain ⟨q18, hq18, hF⟩ := q_bdi hF
  refine cl_i (Lc := []) (Lc' := []) (L' := [w_VBR a o x.2.2.2.1 x.2.2.2.2.1 x.2.2.2.2.2, w_ValleyR a (o + 1), w_Key E a (o + 2) x.1.1.1, w_Bells E a (o + 3) x.1.1.2.1, w_Mel E a (o + 6) x.1.1.2.2.1, w_Cliffs E a (o + 10) x.1.1.2.2.2, w_ValleyR a (o + 13), w_Key E a (o + 14) x.1.2.1.1, w_Bells E a (o + 15) x.1.2.1.2.1, w_Mel E a (o + 18) x.1.2.1.2.2.1, w_Cliffs E a (o + 22) x.1.2.1.2.2.2, w_Prog E a (o + 25) x.1.2.2.2.1, w_Chord E a (o + 31) x.1.2.2.2.2, w_Key E a (o + 34) x.2.1, w_Line E a (o + 35) (q16.1, q16.2.1, gh17, q4.2.2.1, q16.2.2), w_Hist E a (o + 37) x.1.2.2.1]) (rv := q18) (va_runS (As := [.int q3, .int 12]) (rest := [.ref (a (o + 35))]) ⟨hx, hb, hml, hown, ha⟩ (k_J9_floorDiv_7cf53 l E q3 12 q18 hq18 H.size) (va_cwS 2 ha (gi_T (fun _ h => h) mw391 mw392 mw97 mw393) rfl rfl rfl hv_J9_floorDiv_7cf53.2 ⟨(Nat.le_of_ble_eq_true rfl), (Nat.le_of_ble_eq_true rfl)⟩) ⟨pre_blind, pre_at hP hD hS hz hzs hst [] (by decide) rfl rfl⟩ rfl rfl hl.1 rfl (lv_room (Nat.le_of_ble_eq_true rfl)) dX10_writeBell_76 ⟨(Nat.le_of_ble_eq_true rfl), (Nat.le_of_ble_eq_true rfl)⟩) hP hD hS hA [] (by decide) rfl rfl rfl rfl (fun H locs hP hD hS => ?_)
  refine lv_iconst (v := 1) hx hb dX10_writeBell_79 (by decide) ?_
  refine lv_isub hx hb dX10_writeBell_80 ?_
  obtain ⟨q19, hq19, hF⟩ := q_bdi hF
  refine cl_gr (Lc := [w_Line E a (o + 35) (q16.1, q16.2.1, gh17, q4.2.2.1, q16.2.2)]) (Lc' := fun gh20 => [w_Line E a (o + 35) (q19.1, q19.2.1, gh20, q4.2.2.1, q19.2.2)]) (L' := fun gh20 => [w_VBR a o x.2.2.2.1 x.2.2.2.2.1 x.2.2.2.2.2, w_ValleyR a (o + 1), w_Key E a (o + 2) x.1.1.1, w_Bells E a (o + 3) x.1.1.2.1, w_Mel E a (o + 6) x.1.1.2.2.1, w_Cliffs E a (o + 10) x.1.1.2.2.2, w_ValleyR a (o + 13), w_Key E a (o + 14) x.1.2.1.1, w_Bells E a (o + 15) x.1.2.1.2.1, w_Mel E a (o + 18) x.1.2.1.2.2.1, w_Cliffs E a (o + 22) x.1.2.1.2.2.2, w_Prog E a (o + 25) x.1.2.2.2.1, w_Chord E a (o + 31) x.1.2.2.2.2, w_Key E a (o + 34) x.2.1, w_Line E a (o + 35) (q19.1, q19.2.1, gh20, q4.2.2.1, q19.2.2), w_Hist E a (o + 37) x.1.2.2.1]) (ra := a (o + 35)) (va_runV (As := [.int (q18 - 1)]) (rest := []) ⟨hx, hb, hml, hown, ha⟩ (k_J4_append_bf812 l E a (o + 35) (q16.1, q16.2.1, gh17, q4.2.2.1, q16.2.2) (q18 - 1) q19 hq19 H.size) (cwV 1 ha (gi_V (fun _ h => h) mw931 mw698 mw699 mw84 mw700) rfl rfl rfl hv_J4_append_bf812 ⟨(Nat.le_of_ble_eq_true rfl), (Nat.le_of_ble_eq_true rfl)⟩) ⟨pre_blind, va_recv hst.k (fr_P hP [14] rfl) (ci := 1) (q0 := 0) rfl rfl, pre_at hP hD hS hz hzs hst [14] (by decide) rfl rfl⟩ rfl rfl hl.1 rfl (lv_room (Nat.le_of_ble_eq_true rfl)) dX10_writeBell_81 ⟨(Nat.le_of_ble_eq_true rfl), (Nat.le_of_ble_eq_true rfl)⟩) hP hD hS hA [14] (by decide) rfl rfl (fun _ => rfl) (fun _ => rfl) (fun gh20 H locs hP hD hS => ?_)
  refine lv_pop hx hb dX10_writeBell_84 rfl ?_
  refine lv_aload_n hx hb dX10_writeBell_85 rfl (lv_at hl 1 rfl) ?_
  refine lv_aload_n hx hb dX10_writeBell_86 rfl (lv_at hl 1 rfl) ?_
  refine va_get (D := E.1) (ci := 12) (v := .ref (a (o + 1))) (C := RX10) (T := TX10) (N := 10) hx hb ha in_X10 hown hst.k hP 0 rfl rfl 0 (by decide) (ha _ mw341) (fun _ h9 => h9) rfl dX10_writeBell_87 ?_
  refine va_getN (D := E.1) (ci := 11) (v := .ref (a (o + 3))) (C := RX9) (T := TX9) (N := 4) hx hb ha in_X9 hown hst.k hP 1 rfl rfl 1 (by decide) (va_Nw.use rfl (nf17 hst)) (fun _ h9 => h9) rfl dX10_writeBell_90 ?_
  refine lv_iload_n hx hb dX10_writeBell_93 rfl (lv_at hl 2 rfl) ?_
  obtain ⟨q21, hq21, hF⟩ := q_bdi hF
  refine cl_i (Lc := [w_Bells E a (o + 3) x.1.1.2.1]) (Lc' := [w_Bells E a (o + 3) x.1.1.2.1]) (L' := [w_VBR a o x.2.2.2.1 x.2.2.2.2.1 x.2.2.2.2.2, w_ValleyR a (o + 1), w_Key E a (o + 2) x.1.1.1, w_Bells E a (o + 3) x.1.1.2.1, w_Mel E a (o + 6) x.1.1.2.2.1, w_Cliffs E a (o + 10) x.1.1.2.2.2, w_ValleyR a (o + 13), w_Key E a (o + 14) x.1.2.1.1, w_Bells E a (o + 15) x.1.2.1.2.1, w_Mel E a (o + 18) x.1.2.1.2.2.1, w_Cliffs E a (o + 22) x.1.2.1.2.2.2, w_Prog E a (o + 25) x.1.2.2.2.1, w_Chord E a (o + 31) x.1.2.2.2.2, w_Key E a (o + 34) x.2.1, w_Line E a (o + 35) (q19.1, q19.2.1, gh20, q4.2.2.1, q19.2.2), w_Hist E a (o + 37) x.1.2.2.1]) (rv := q21) (va_runV (As := [.int p1]) (rest := [.ref (a o)]) ⟨hx, hb, hml, hown, ha⟩ (k_X1_deviationOf l E a (o + 3) x.1.1.2.1 p1 q21 hq21 H.size) (cwV 1 ha (gi_V (fun _ h => h) mw1238 mw1239 mw1240 mw77 mw1241) rfl rfl rfl hv_X1_deviationOf ⟨(Nat.le_of_ble_eq_true rfl), (Nat.le_of_ble_eq_true rfl)⟩) ⟨pre_blind, va_recv hst.k (fr_P hP [3] rfl) (ci := 4) (q0 := 0) rfl rfl, pre_at hP hD hS hz hzs hst [3] (by decide) rfl rfl⟩ rfl rfl hl.1 rfl (lv_room (Nat.le_of_ble_eq_true rfl)) dX10_writeBell_94 ⟨(Nat.le_of_ble_eq_true rfl), (Nat.le_of_ble_eq_true rfl)⟩) hP hD hS hA [3] (by decide) rfl rfl rfl rfl (fun H locs hP hD hS => ?_)
  obtain ⟨q22, hq22, hF⟩ := q_bdi hF
  refine cl_gv (Lc := [w_VBR a o x.2.2.2.1 x.2.2.2.2.1 x.2.2.2.2.2, w_ValleyR a (o + 1), w_Key E a (o + 2) x.1.1.1, w_Bells E a (o + 3) x.1.1.2.1, w_Mel E a (o + 6) x.1.1.2.2.1, w_Cliffs E a (o + 10) x.1.1.2.2.2, w_ValleyR a (o + 13), w_Key E a (o + 14) x.1.2.1.1, w_Bells E a (o + 15) x.1.2.1.2.1, w_Mel E a (o + 18) x.1.2.1.2.2.1, w_Cliffs E a (o + 22) x.1.2.1.2.2.2, w_Prog E a (o + 25) x.1.2.2.2.1, w_Chord E a (o + 31) x.1.2.2.2.2, w_Key E a (o + 34) x.2.1, w_Line E a (o + 35) (q19.1, q19.2.1, gh20, q4.2.2.1, q19.2.2), w_Hist E a (o + 37) x.1.2.2.1]) (Lc' := fun gh23 => [w_VBR a o x.2.2.2.1 x.2.2.2.2.1 x.2.2.2.2.2, w_ValleyR a (o + 1), w_Key E a (o + 2) x.1.1.1, w_Bells E a (o + 3) x.1.1.2.1, w_Mel E a (o + 6) x.1.1.2.2.1, w_Cliffs E a (o + 10) x.1.1.2.2.2, w_ValleyR a (o + 13), w_Key E a (o + 14) x.1.2.1.1, w_Bells E a (o + 15) x.1.2.1.2.1, w_Mel E a (o + 18) x.1.2.1.2.2.1, w_Cliffs E a (o + 22) x.1.2.1.2.2.2, w_Prog E a (o + 25) x.1.2.2.2.1, w_Chord E a (o + 31) x.1.2.2.2.2, w_Key E a (o + 34) x.2.1, w_Line E a (o + 35) (q22.1, q22.2.1, gh23, q4.2.2.1, q22.2.2), w_Hist E a (o + 37) x.1.2.2.1]) (L' := fun gh23 => [w_VBR a o x.2.2.2.1 x.2.2.2.2.1 x.2.2.2.2.2, w_ValleyR a (o + 1), w_Key E a (o + 2) x.1.1.1, w_Bells E a (o + 3) x.1.1.2.1, w_Mel E a (o + 6) x.1.1.2.2.1, w_Cliffs E a (o + 10) x.1.1.2.2.2, w_ValleyR a (o + 13), w_Key E a (o + 14) x.1.2.1.1, w_Bells E a (o + 15) x.1.2.1.2.1, w_Mel E a (o + 18) x.1.2.1.2.2.1, w_Cliffs E a (o + 22) x.1.2.1.2.2.2, w_Prog E a (o + 25) x.1.2.2.2.1, w_Chord E a (o + 31) x.1.2.2.2.2, w_Key E a (o + 34) x.2.1, w_Line E a (o + 35) (q22.1, q22.2.1, gh23, q4.2.2.1, q22.2.2), w_Hist E a (o + 37) x.1.2.2.1]) (va_runV (As := [.int q21]) (rest := []) ⟨hx, hb, hml, hown, ha⟩ (k_X10_writeDeviation l E a o ((x.1.1, x.1.2.1, x.1.2.2.1, x.1.2.2.2.1, x.1.2.2.2.2), (x.2.1, (q19.1, q19.2.1, gh20, q4.2.2.1, q19.2.2), x.2.2.2.1, x.2.2.2.2.1, x.2.2.2.2.2)) q21 q22 hq22 H.size) (cwV 1 ha (gi_V (fun _ h => h) mw1584 mw1586 mw26 mw74 mw1587) rfl rfl rfl hv_X10_writeDeviation ⟨(Nat.le_of_ble_eq_true rfl), (Nat.le_of_ble_eq_true rfl)⟩) ⟨pre_blind, va_recv hst.k (fr_P hP [0, 1, 2, 3, 4, 5, 6, 7, 8, 9, 10, 11, 12, 13, 14, 15] rfl) (ci := 12) (q0 := 0) rfl rfl, pre_at hP hD hS hz hzs hst [0, 1, 2, 3, 4, 5, 6, 7, 8, 9, 10, 11, 12, 13, 14, 15] (by decide) rfl rfl⟩ rfl rfl hl.1 rfl (lv_room (Nat.le_of_ble_eq_true rfl)) dX10_writeBell_97 ⟨(Nat.le_of_ble_eq_true rfl), (Nat.le_of_ble_eq_true rfl)⟩) hP hD hS hA [0, 1, 2, 3, 4, 5, 6, 7, 8, 9, 10, 11, 12, 13, 14, 15] (by decide) rfl rfl (fun _ => rfl) (fun _ => rfl) (fun gh23 H locs hP hD hS => ?_)
  refine lv_aload_n hx hb dX10_writeBell_100 rfl (lv_at hl 1 rfl) ?_
  refine va_get (D := E.1) (ci := 12) (v := .ref (a (o + 1))) (C := RX10) (T := TX10) (N := 10) hx hb ha in_X10 hown hst.k hP 0 rfl rfl 0 (by decide) (ha _ mw341) (fun _ h9 => h9) rfl dX10_writeBell_101 ?_
  refine va_getN (D := E.1) (ci := 11) (v := .ref (a (o + 2))) (C := RX9) (T := TX9) (N := 4) hx hb ha in_X9 hown hst.k hP 1 rfl rfl 0 (by decide) (va_Nw.use rfl (nf15 hst)) (fun _ h9 => h9) rfl dX10_writeBell_104 ?_
  refine lv_aload_n hx hb dX10_writeBell_107 rfl (lv_at hl 1 rfl) ?_
  refine va_get (D := E.1) (ci := 12) (v := .ref (a (o + 1))) (C := RX10) (T := TX10) (N := 10) hx hb ha in_X10 hown hst.k hP 0 rfl rfl 0 (by decide) (ha _ mw341) (fun _ h9 => h9) rfl dX10_writeBell_108 ?_
  refine va_getN (D := E.1) (ci := 11) (v := .ref (a (o + 3))) (C := RX9) (T := TX9) (N := 4) hx hb ha in_X9 hown hst.k hP 1 rfl rfl 1 (by decide) (va_Nw.use rfl (nf17 hst)) (fun _ h9 => h9) rfl dX10_writeBell_111 ?_
  refine va_getN (D := E.1) (ci := 4) (v := .ref (a (o + 5))) (C := RX1) (T := TX1) (N := 3) hx hb ha in_X1 hown hst.k hP 3 rfl rfl 1 (by decide) (va_Nw.use rfl (nf4 hst)) (fun _ h9 => h9) rfl dX10_writeBell_114 ?_
  refine lv_iload_n hx hb dX10_writeBell_117 rfl (lv_at hl 2 rfl) ?_
  obtain ⟨g24, hF⟩ := q_gdi hF
  refine vi_iald hx hb hst.k hP 5 0 rfl rfl (f := x.1.1.2.1.2.1) (k := p1.toNatClampNeg) rfl g24 dX10_writeBell_118 ?_
  obtain ⟨q25, hq25, hF⟩ := q_bdi hF
  refine cl_i (Lc := [w_Key E a (o + 2) x.1.1.1]) (Lc' := [w_Key E a (o + 2) x.1.1.1]) (L' := [w_VBR a o x.2.2.2.1 x.2.2.2.2.1 x.2.2.2.2.2, w_ValleyR a (o + 1), w_Key E a (o + 2) x.1.1.1, w_Bells E a (o + 3) x.1.1.2.1, w_Mel E a (o + 6) x.1.1.2.2.1, w_Cliffs E a (o + 10) x.1.1.2.2.2, w_ValleyR a (o + 13), w_Key E a (o + 14) x.1.2.1.1, w_Bells E a (o + 15) x.1.2.1.2.1, w_Mel E a (o + 18) x.1.2.1.2.2.1, w_Cliffs E a (o + 22) x.1.2.1.2.2.2, w_Prog E a (o + 25) x.1.2.2.2.1, w_Chord E a (o + 31) x.1.2.2.2.2, w_Key E a (o + 34) x.2.1, w_Line E a (o + 35) (q22.1, q22.2.1, gh23, q4.2.2.1, q22.2.2), w_Hist E a (o + 37) x.1.2.2.1]) (rv := q25) (va_runV (As := [.int (x.1.1.2.1.2.1 (p1.toNatClampNeg))]) (rest := []) ⟨hx, hb, hml, hown, ha⟩ (k_X6_accepts l E a (o + 2) x.1.1.1 (x.1.1.2.1.2.1 (p1.toNatClampNeg)) q25 hq25 H.size) (cwV 1 ha (gi_V (fun _ h => h) mw1250 mw385 mw386 mw76 mw387) rfl rfl rfl hv_X6_accepts ⟨(Nat.le_of_ble_eq_true rfl), (Nat.le_of_ble_eq_true rfl)⟩) ⟨pre_blind, va_recv hst.k (fr_P hP [2] rfl) (ci := 8) (q0 := 0) rfl rfl, pre_at hP hD hS hz hzs hst [2] (by decide) rfl rfl⟩ rfl rfl hl.1 rfl (lv_room (Nat.le_of_ble_eq_true rfl)) dX10_writeBell_119 ⟨(Nat.le_of_ble_eq_true rfl), (Nat.le_of_ble_eq_true rfl)⟩) hP hD hS hA [2] (by decide) rfl rfl rfl rfl (fun H locs hP hD hS => ?_)
  obtain ⟨J135, hJ135, hF⟩ := q_jn hF
  have jJ135 : ∀ (j26 : (Nat → Int32)) (j27 : Nat) (j28 : Nat) (j29 : Int32), ∀ (H : Heap) (locs : List Loc) (ls : Array Slot), J135 j26 j27 j29 = some res → va_P E.1 vwCl (List.flatten [w_VBR a o x.2.2.2.1 x.2.2.2.2.1 x.2.2.2.2.2, w_ValleyR a (o + 1), w_Key E a (o + 2) x.1.1.1, w_Bells E a (o + 3) x.1.1.2.1, w_Mel E a (o + 6) x.1.1.2.2.1, w_Cliffs E a (o + 10) x.1.1.2.2.2, w_ValleyR a (o + 13), w_Key E a (o + 14) x.1.2.1.1, w_Bells E a (o + 15) x.1.2.1.2.1, w_Mel E a (o + 18) x.1.2.1.2.2.1, w_Cliffs E a (o + 22) x.1.2.1.2.2.2, w_Prog E a (o + 25) x.1.2.2.2.1, w_Chord E a (o + 31) x.1.2.2.2.2, w_Key E a (o + 34) x.2.1, w_Line E a (o + 35) (j26, j27, j28, q4.2.2.1, j29), w_Hist E a (o + 37) x.1.2.2.1]) H → va_D A (List.flatten [w_VBR a o x.2.2.2.1 x.2.2.2.2.1 x.2.2.2.2.2, w_ValleyR a (o + 1), w_Key E a (o + 2) x.1.1.1, w_Bells E a (o + 3) x.1.1.2.1, w_Mel E a (o + 6) x.1.1.2.2.1, w_Cliffs E a (o + 10) x.1.1.2.2.2, w_ValleyR a (o + 13), w_Key E a (o + 14) x.1.2.1.1, w_Bells E a (o + 15) x.1.2.1.2.1, w_Mel E a (o + 18) x.1.2.1.2.2.1, w_Cliffs E a (o + 22) x.1.2.1.2.2.2, w_Prog E a (o + 25) x.1.2.2.2.1, w_Chord E a (o + 31) x.1.2.2.2.2, w_Key E a (o + 34) x.2.1, w_Line E a (o + 35) (j26, j27, j28, q4.2.2.1, j29), w_Hist E a (o + 37) x.1.2.2.1]) → va_S A s.heap H locs → lv_has ls 3 [(0, .ref (a o))] → W p l e rm_X10_writeBell s m args below meth c H locs 12 1106 Q (F0 m 135 ls []) := by
    intro j26 j27 j28 j29 H locs ls hF hP hD hS hl
    rw [hJ135] at hF
    refine lv_aload_n hx hb dX10_writeBell_135 rfl (lv_at hl 0 rfl) ?_
    refine va_get (D := E.1) (ci := 12) (v := .ref (a (o + 35))) (C := RX10) (T := TX10) (N := 10) hx hb ha in_X10 hown hst.k hP 0 rfl rfl 6 (by decide) (ha _ mw347) (fun _ h9 => h9) rfl dX10_writeBell_136 ?_
    obtain ⟨q30, hq30, hF⟩ := q_bdi hF
    refine cl_i (Lc := [w_Line E a (o + 35) (j26, j27, j28, q4.2.2.1, j29)]) (Lc' := [w_Line E a (o + 35) (j26, j27, j28, q4.2.2.1, j29)]) (L' := [w_VBR a o x.2.2.2.1 x.2.2.2.2.1 x.2.2.2.2.2, w_ValleyR a (o + 1), w_Key E a (o + 2) x.1.1.1, w_Bells E a (o + 3) x.1.1.2.1, w_Mel E a (o + 6) x.1.1.2.2.1, w_Cliffs E a (o + 10) x.1.1.2.2.2, w_ValleyR a (o + 13), w_Key E a (o + 14) x.1.2.1.1, w_Bells E a (o + 15) x.1.2.1.2.1, w_Mel E a (o + 18) x.1.2.1.2.2.1, w_Cliffs E a (o + 22) x.1.2.1.2.2.2, w_Prog E a (o + 25) x.1.2.2.2.1, w_Chord E a (o + 31) x.1.2.2.2.2, w_Key E a (o + 34) x.2.1, w_Line E a (o + 35) (j26, j27, j28, q4.2.2.1, j29), w_Hist E a (o + 37) x.1.2.2.1]) (rv := q30) (va_runV (As := []) (rest := []) ⟨hx, hb, hml, hown, ha⟩ (k_J4_length_8abf5 l E a (o + 35) (j26, j27, j28, q4.2.2.1, j29) q30 hq30 H.size) (cwV 0 ha (gi_V (fun _ h => h) mw932 mw744 mw2135 mw84 mw745) rfl rfl rfl hv_J4_length_8abf5 ⟨(Nat.le_of_ble_eq_true rfl), (Nat.le_of_ble_eq_true rfl)⟩) ⟨pre_blind, va_recv hst.k (fr_P hP [14] rfl) (ci := 1) (q0 := 0) rfl rfl, pre_at hP hD hS hz hzs hst [14] (by decide) rfl rfl⟩ rfl rfl hl.1 rfl (lv_room (Nat.le_of_ble_eq_true rfl)) dX10_writeBell_139 ⟨(Nat.le_of_ble_eq_true rfl), (Nat.le_of_ble_eq_true rfl)⟩) hP hD hS hA [14] (by decide) rfl rfl rfl rfl (fun H locs hP hD hS => ?_)
    obtain rfl := Option.some.inj hF
    exact en_gxi (ad := j28) hQ (Nat.le_of_ble_eq_true rfl) (Nat.le_of_ble_eq_true rfl) hx hb hr hlocks hP hD hS rfl dX10_writeBell_142
  refine lv_if_ne (tgt := 135) hx hb dX10_writeBell_122 (by decide) (fun c122 => ?_) (fun c122 => ?_)
  · have hF := q_brn c122 hF
    refine W.widen (k := 12) (n := 1106) (by omega) (by omega) ?_
    exact jJ135 q22.1 q22.2.1 gh23 q22.2.2 H locs ls hF hP hD hS (lv_sub hl [1] rfl)
  · have hF := q_brp c122 hF
    refine lv_aload_n hx hb dX10_writeBell_125 rfl (lv_at hl 1 rfl) ?_
    refine va_get (D := E.1) (ci := 12) (v := .ref (a (o + 35))) (C := RX10) (T := TX10) (N := 10) hx hb ha in_X10 hown hst.k hP 0 rfl rfl 6 (by decide) (ha _ mw347) (fun _ h9 => h9) rfl dX10_writeBell_126 ?_
    refine lv_bipush (v := 33) hx hb dX10_writeBell_129 (by decide) ?_
    obtain ⟨q31, hq31, hF⟩ := q_bdi hF
    refine cl_gr (Lc := [w_Line E a (o + 35) (q22.1, q22.2.1, gh23, q4.2.2.1, q22.2.2)]) (Lc' := fun gh32 => [w_Line E a (o + 35) (q31.1, q31.2.1, gh32, q4.2.2.1, q31.2.2)]) (L' := fun gh32 => [w_VBR a o x.2.2.2.1 x.2.2.2.2.1 x.2.2.2.2.2, w_ValleyR a (o + 1), w_Key E a (o + 2) x.1.1.1, w_Bells E a (o + 3) x.1.1.2.1, w_Mel E a (o + 6) x.1.1.2.2.1, w_Cliffs E a (o + 10) x.1.1.2.2.2, w_ValleyR a (o + 13), w_Key E a (o + 14) x.1.2.1.1, w_Bells E a (o + 15) x.1.2.1.2.1, w_Mel E a (o + 18) x.1.2.1.2.2.1, w_Cliffs E a (o + 22) x.1.2.1.2.2.2, w_Prog E a (o + 25) x.1.2.2.2.1, w_Chord E a (o + 31) x.1.2.2.2.2, w_Key E a (o + 34) x.2.1, w_Line E a (o + 35) (q31.1, q31.2.1, gh32, q4.2.2.1, q31.2.2), w_Hist E a (o + 37) x.1.2.2.1]) (ra := a (o + 35)) (va_runV (As := [.int 33]) (rest := []) ⟨hx, hb, hml, hown, ha⟩ (k_J4_append_cf468 l E a (o + 35) (q22.1, q22.2.1, gh23, q4.2.2.1, q22.2.2) 33 q31 hq31 H.size) (cwV 1 ha (gi_V (fun _ h => h) mw909 mw910 mw911 mw84 mw912) rfl rfl rfl hv_J4_append_cf468 ⟨(Nat.le_of_ble_eq_true rfl), (Nat.le_of_ble_eq_true rfl)⟩) ⟨pre_blind, va_recv hst.k (fr_P hP [14] rfl) (ci := 1) (q0 := 0) rfl rfl, pre_at hP hD hS hz hzs hst [14] (by decide) rfl rfl⟩ rfl rfl hl.1 rfl (lv_room (Nat.le_of_ble_eq_true rfl)) dX10_writeBell_131 ⟨(Nat.le_of_ble_eq_true rfl), (Nat.le_of_ble_eq_true rfl)⟩) hP hD hS hA [14] (by decide) rfl rfl (fun _ => rfl) (fun _ => rfl) (fun gh32 H locs hP hD hS => ?_)
    refine lv_pop hx hb dX10_writeBell_134 rfl ?_
    exact jJ135 q31.1 q31.2.1 gh32 q31.2.2 H locs ls hF hP hD hS (lv_sub hl [1] rfl)

/-! X10_writeChord -/
theorem dX10_writeChord_0 : decode cX10_writeChord 0 = .ok (.aload_n 0, 1) := by decide +kernel
theorem dX10_writeChord_1 : decode cX10_writeChord 1 = .ok (.getfield 36, 3) := by decide +kernel
theorem dX10_writeChord_4 : decode cX10_writeChord 4 = .ok (.aload_n 0, 1) := by decide +kernel
theorem dX10_writeChord_5 : decode cX10_writeChord 5 = .ok (.getfield 10, 3) := by decide +kernel
theorem dX10_writeChord_8 : decode cX10_writeChord 8 = .ok (.iload_n 1, 1) := by decide +kernel
theorem dX10_writeChord_9 : decode cX10_writeChord 9 = .ok (.invokevirtual 244, 3) := by decide +kernel
theorem dX10_writeChord_12 : decode cX10_writeChord 12 = .ok (.aload_n 0, 1) := by decide +kernel
theorem dX10_writeChord_13 : decode cX10_writeChord 13 = .ok (.getfield 50, 3) := by decide +kernel
theorem dX10_writeChord_16 : decode cX10_writeChord 16 = .ok (.iconst 0, 1) := by decide +kernel
theorem dX10_writeChord_17 : decode cX10_writeChord 17 = .ok (.invokevirtual 328, 3) := by decide +kernel
theorem dX10_writeChord_20 : decode cX10_writeChord 20 = .ok (.iconst 0, 1) := by decide +kernel
theorem dX10_writeChord_21 : decode cX10_writeChord 21 = .ok (.istore_n 2, 1) := by decide +kernel
theorem dX10_writeChord_22 : decode cX10_writeChord 22 = .ok (.iload_n 2, 1) := by decide +kernel
theorem dX10_writeChord_23 : decode cX10_writeChord 23 = .ok (.aload_n 0, 1) := by decide +kernel
theorem dX10_writeChord_24 : decode cX10_writeChord 24 = .ok (.getfield 36, 3) := by decide +kernel
theorem dX10_writeChord_27 : decode cX10_writeChord 27 = .ok (.getfield 248, 3) := by decide +kernel
theorem dX10_writeChord_30 : decode cX10_writeChord 30 = .ok (.if_icmp .ge 40, 3) := by decide +kernel
theorem dX10_writeChord_33 : decode cX10_writeChord 33 = .ok (.iload_n 2, 1) := by decide +kernel
theorem dX10_writeChord_34 : decode cX10_writeChord 34 = .ok (.ifCond .le 13, 3) := by decide +kernel
theorem dX10_writeChord_37 : decode cX10_writeChord 37 = .ok (.aload_n 0, 1) := by decide +kernel
theorem dX10_writeChord_38 : decode cX10_writeChord 38 = .ok (.getfield 50, 3) := by decide +kernel
theorem dX10_writeChord_41 : decode cX10_writeChord 41 = .ok (.bipush 32, 2) := by decide +kernel
theorem dX10_writeChord_43 : decode cX10_writeChord 43 = .ok (.invokevirtual 335, 3) := by decide +kernel
theorem dX10_writeChord_46 : decode cX10_writeChord 46 = .ok (.pop, 1) := by decide +kernel
theorem dX10_writeChord_47 : decode cX10_writeChord 47 = .ok (.aload_n 0, 1) := by decide +kernel
theorem dX10_writeChord_48 : decode cX10_writeChord 48 = .ok (.getfield 50, 3) := by decide +kernel
theorem dX10_writeChord_51 : decode cX10_writeChord 51 = .ok (.aload_n 0, 1) := by decide +kernel
theorem dX10_writeChord_52 : decode cX10_writeChord 52 = .ok (.getfield 36, 3) := by decide +kernel
theorem dX10_writeChord_55 : decode cX10_writeChord 55 = .ok (.getfield 251, 3) := by decide +kernel
theorem dX10_writeChord_58 : decode cX10_writeChord 58 = .ok (.iload_n 2, 1) := by decide +kernel
theorem dX10_writeChord_59 : decode cX10_writeChord 59 = .ok (.iaload, 1) := by decide +kernel
theorem dX10_writeChord_60 : decode cX10_writeChord 60 = .ok (.invokevirtual 331, 3) := by decide +kernel
theorem dX10_writeChord_63 : decode cX10_writeChord 63 = .ok (.pop, 1) := by decide +kernel
theorem dX10_writeChord_64 : decode cX10_writeChord 64 = .ok (.iinc 2 1, 3) := by decide +kernel
theorem dX10_writeChord_67 : decode cX10_writeChord 67 = .ok (.goto (-45), 3) := by decide +kernel
theorem dX10_writeChord_70 : decode cX10_writeChord 70 = .ok (.aload_n 0, 1) := by decide +kernel
theorem dX10_writeChord_71 : decode cX10_writeChord 71 = .ok (.getfield 50, 3) := by decide +kernel
theorem dX10_writeChord_74 : decode cX10_writeChord 74 = .ok (.invokevirtual 352, 3) := by decide +kernel
theorem dX10_writeChord_77 : decode cX10_writeChord 77 = .ok (.ireturn, 1) := by decide +kernel
def f_X10_writeChord_L22 (q1 : (Nat → Int32) × Int32) (K22 : (Nat → Int32) → Nat → Int32 → Option (Int32 × (Nat → Int32) × Int32 × (Nat → Int32) × Nat × Int32 × Int32)) : Nat → Int32 → (Nat → Int32) → Nat → Int32 → Option (Int32 × (Nat → Int32) × Int32 × (Nat → Int32) × Nat × Int32 × Int32)
  | 0, _, _, _, _ => none
  | n22 + 1, i4, i5, i6, i8 =>
    q_br (q1.2 ≤ i4) (
  K22 i5 i6 i8) (
  q_lt (fun (j13 : (Nat → Int32)) (j14 : Nat) (j16 : Int32) =>
  q_gd (q_in i4 20) (
  q_bd (f_J4_append_bf812 j13 j14 j16 (q1.1 (i4.toNatClampNeg))) (fun q18 =>
  q_lt (i4 + 1 : Int32) (fun v20 =>
  f_X10_writeChord_L22 q1 K22 n22 v20 q18.1 q18.2.1 q18.2.2)))) (fun (J47 : (Nat → Int32) → Nat → Int32 → Option (Int32 × (Nat → Int32) × Int32 × (Nat → Int32) × Nat × Int32 × Int32)) =>
  q_br (i4 ≤ 0) (
  J47 i5 i6 i8) (
  q_bd (f_J4_append_cf468 i5 i6 i8 32) (fun q21 =>
  J47 q21.1 q21.2.1 q21.2.2))))
def f_X10_writeChord (x_valley_bells_pitches : (Nat → Int32)) (x_valley_bells_count : Int32) (x_valley_melodies_lengths : (Nat → Int32)) (x_valley_melodies_entries : (Nat → Int32)) (x_valley_melodies_tones : (Nat → Int32)) (x_valley_cliffs_delays : (Nat → Int32)) (x_valley_cliffs_transpositions : (Nat → Int32)) (x_valley_cliffs_count : Int32) (x_chord_notes : (Nat → Int32)) (x_chord_size : Int32) (x_line_value : (Nat → Int32)) (x_line_cap : Nat) (x_line_maybeLatin1 : Int32) (x_line_count : Int32) (p1 : Int32) : Option (Int32 × (Nat → Int32) × Int32 × (Nat → Int32) × Nat × Int32 × Int32) :=
  q_bd (f_X2_listen x_chord_notes x_chord_size x_valley_bells_pitches x_valley_bells_count x_valley_melodies_lengths x_valley_melodies_entries x_valley_melodies_tones x_valley_cliffs_delays x_valley_cliffs_transpositions x_valley_cliffs_count p1) (fun q1 =>
  q_bd (f_J4_setLength_d00df x_line_value x_line_cap x_line_maybeLatin1 x_line_count 0) (fun q2 =>
  f_X10_writeChord_L22 q1 (fun y9 y10 y12 =>
  q_bd (f_J4_length_8abf5 y12) (fun q23 =>
  some (q23, q1.1, q1.2, y9, y10, q2.2.2.1, y12))) 24 0 q2.1 q2.2.1 q2.2.2.2))
theorem hv_X10_writeChord : yX10_writeChord.cls = RX10 ∧ yX10_writeChord.cls ≠ "java/lang/invoke/MethodHandle" ∧ yX10_writeChord.cls ≠ "java/lang/invoke/VarHandle" ∧ (parseMethodDescriptor yX10_writeChord.desc).map (fun d => d.parameters.length) = some 1 := by decide +kernel
abbrev rm_X10_writeChord : Room := { frames := 6, cells := 49, slots := 4900, locals := 148 }
set_option maxHeartbeats 4000000 in
set_option maxRecDepth 100000 in
theorem k_X10_writeChord (l : Launch) (E : ET) (a : Nat → Nat) (o : Nat) (x : VB_t) (p1 : Int32) (res : Int32 × (Nat → Int32) × Int32 × (Nat → Int32) × Nat × Int32 × Int32) (hF : f_X10_writeChord x.1.1.2.1.2.1 x.1.1.2.1.2.2 x.1.1.2.2.1.1 x.1.1.2.2.1.2.1 x.1.1.2.2.1.2.2 x.1.1.2.2.2.1 x.1.1.2.2.2.2.1 x.1.1.2.2.2.2.2 x.1.2.2.2.2.1 x.1.2.2.2.2.2.2 x.2.2.1.1 x.2.2.1.2.1 x.2.2.1.2.2.2.1 x.2.2.1.2.2.2.2 p1 = some res) (sz : Nat) : CtgI l yX10_writeChord (mws yX10_writeChord cX10_writeChord 3 (some .int)) rm_X10_writeChord 49 4900 [.ref (a o), .int p1] E (bl_VB E a o x) res.1 (fun ad : Nat => bl_VB E a o ((x.1.1, x.1.2.1, x.1.2.2.1, x.1.2.2.2.1, (res.2.1, x.1.2.2.2.2.2.1, res.2.2.1)), (x.2.1, (res.2.2.2.1, res.2.2.2.2.1, ad, res.2.2.2.2.2.1, res.2.2.2.2.2.2), x.2.2.2.1, x.2.2.2.2.1, x.2.2.2.2.2))) sz := by
  refine mk_M (by decide +kernel) (Nat.le_of_ble_eq_true rfl) ?_
  intro p e s m below meth c A args Q ls hAe hsz hQ hx hb hr hml hin ha hown hlocks hA hz hzs hst hP hD hS hl
  have hown : s.vm.findClass RX10 = some m.cls := hown
  rw [hAe] at hQ
  subst hsz
  have hP : va_P E.1 vwCl (List.flatten [w_VBR a o x.2.2.2.1 x.2.2.2.2.1 x.2.2.2.2.2, w_ValleyR a (o + 1), w_Key E a (o + 2) x.1.1.1, w_Bells E a (o + 3) x.1.1.2.1, w_Mel E a (o + 6) x.1.1.2.2.1, w_Cliffs E a (o + 10) x.1.1.2.2.2, w_ValleyR a (o + 13), w_Key E a (o + 14) x.1.2.1.1, w_Bells E a (o + 15) x.1.2.1.2.1, w_Mel E a (o + 18) x.1.2.1.2.2.1, w_Cliffs E a (o + 22) x.1.2.1.2.2.2, w_Prog E a (o + 25) x.1.2.2.2.1, w_Chord E a (o + 31) x.1.2.2.2.2, w_Key E a (o + 34) x.2.1, w_Line E a (o + 35) x.2.2.1, w_Hist E a (o + 37) x.1.2.2.1]) s.heap := hP
  have hD : va_D A (List.flatten [w_VBR a o x.2.2.2.1 x.2.2.2.2.1 x.2.2.2.2.2, w_ValleyR a (o + 1), w_Key E a (o + 2) x.1.1.1, w_Bells E a (o + 3) x.1.1.2.1, w_Mel E a (o + 6) x.1.1.2.2.1, w_Cliffs E a (o + 10) x.1.1.2.2.2, w_ValleyR a (o + 13), w_Key E a (o + 14) x.1.2.1.1, w_Bells E a (o + 15) x.1.2.1.2.1, w_Mel E a (o + 18) x.1.2.1.2.2.1, w_Cliffs E a (o + 22) x.1.2.1.2.2.2, w_Prog E a (o + 25) x.1.2.2.2.1, w_Chord E a (o + 31) x.1.2.2.2.2, w_Key E a (o + 34) x.2.1, w_Line E a (o + 35) x.2.2.1, w_Hist E a (o + 37) x.1.2.2.1]) := hD
  have hl : lv_has ls 3 [(0, .ref (a o)), (1, .int p1)] := hl
  generalize hHe : s.heap = H at hP
  have hS : va_S A s.heap H [] := by rw [← hHe]; exact hS
  generalize ([] : List Loc) = locs at hS ⊢
  unfold f_X10_writeChord at hF
  refine lv_aload_n hx hb dX10_writeChord_0 rfl (lv_at hl 0 rfl) ?_
  refine va_get (D := E.1) (ci := 12) (v := .ref (a (o + 31))) (C := RX10) (T := TX10) (N := 10) hx hb ha in_X10 hown hst.k hP 0 rfl rfl 4 (by decide) (ha _ mw345) (fun _ h9 => h9) rfl dX10_writeChord_1 ?_
  refine lv_aload_n hx hb dX10_writeChord_4 rfl (lv_at hl 0 rfl) ?_
  refine va_get (D := E.1) (ci := 12) (v := .ref (a (o + 1))) (C := RX10) (T := TX10) (N := 10) hx hb ha in_X10 hown hst.k hP 0 rfl rfl 0 (by decide) (ha _ mw341) (fun _ h9 => h9) rfl dX10_writeChord_5 ?_
  refine lv_iload_n hx hb dX10_writeChord_8 rfl (lv_at hl 1 rfl) ?_
  obtain ⟨q1, hq1, hF⟩ := q_bdi hF
  refine cl_v (Lc := [w_Chord E a (o + 31) x.1.2.2.2.2, w_ValleyR a (o + 1), w_Key E a (o + 2) x.1.1.1, w_Bells E a (o + 3) x.1.1.2.1, w_Mel E a (o + 6) x.1.1.2.2.1, w_Cliffs E a (o + 10) x.1.1.2.2.2]) (Lc' := [w_Chord E a (o + 31) (q1.1, x.1.2.2.2.2.2.1, q1.2), w_ValleyR a (o + 1), w_Key E a (o + 2) x.1.1.1, w_Bells E a (o + 3) x.1.1.2.1, w_Mel E a (o + 6) x.1.1.2.2.1, w_Cliffs E a (o + 10) x.1.1.2.2.2]) (L' := [w_VBR a o x.2.2.2.1 x.2.2.2.2.1 x.2.2.2.2.2, w_ValleyR a (o + 1), w_Key E a (o + 2) x.1.1.1, w_Bells E a (o + 3) x.1.1.2.1, w_Mel E a (o + 6) x.1.1.2.2.1, w_Cliffs E a (o + 10) x.1.1.2.2.2, w_ValleyR a (o + 13), w_Key E a (o + 14) x.1.2.1.1, w_Bells E a (o + 15) x.1.2.1.2.1, w_Mel E a (o + 18) x.1.2.1.2.2.1, w_Cliffs E a (o + 22) x.1.2.1.2.2.2, w_Prog E a (o + 25) x.1.2.2.2.1, w_Chord E a (o + 31) (q1.1, x.1.2.2.2.2.2.1, q1.2), w_Key E a (o + 34) x.2.1, w_Line E a (o + 35) x.2.2.1, w_Hist E a (o + 37) x.1.2.2.1]) (va_runV (As := [.ref (a (o + 1)), .int p1]) (rest := []) ⟨hx, hb, hml, hown, ha⟩ (k_X2_listen l E a (o + 31) x.1.2.2.2.2 a (o + 1) x.1.1 p1 q1 hq1 H.size) (cwV 2 ha (gi_V (fun _ h => h) mw443 mw444 mw445 mw82 mw446) rfl rfl rfl hv_X2_listen ⟨(Nat.le_of_ble_eq_true rfl), (Nat.le_of_ble_eq_true rfl)⟩) ⟨pre_blind, va_recv hst.k (fr_P hP [12, 1, 2, 3, 4, 5] rfl) (ci := 5) (q0 := 0) rfl rfl, pre_at hP hD hS hz hzs hst [12, 1, 2, 3, 4, 5] (by decide) rfl rfl⟩ rfl rfl hl.1 rfl (lv_room (Nat.le_of_ble_eq_true rfl)) dX10_writeChord_9 ⟨(Nat.le_of_ble_eq_true rfl), (Nat.le_of_ble_eq_true rfl)⟩) hP hD hS hA [12, 1, 2, 3, 4, 5] (by decide) rfl rfl rfl rfl (fun H locs hP hD hS => ?_)
  refine lv_aload_n hx hb dX10_writeChord_12 rfl (lv_at hl 0 rfl) ?_
  refine va_get (D := E.1) (ci := 12) (v := .ref (a (o + 35))) (C := RX10) (T := TX10) (N := 10) hx hb ha in_X10 hown hst.k hP 0 rfl rfl 6 (by decide) (ha _ mw347) (fun _ h9 => h9) rfl dX10_writeChord_13 ?_
  refine lv_iconst (v := 0) hx hb dX10_writeChord_16 (by decide) ?_
  obtain ⟨q2, hq2, hF⟩ := q_bdi hF
  refine cl_gv (Lc := [w_Line E a (o + 35) x.2.2.1]) (Lc' := fun gh3 => [w_Line E a (o + 35) (q2.1, q2.2.1, gh3, q2.2.2.1, q2.2.2.2)]) (L' := fun gh3 => [w_VBR a o x.2.2.2.1 x.2.2.2.2.1 x.2.2.2.2.2, w_ValleyR a (o + 1), w_Key E a (o + 2) x.1.1.1, w_Bells E a (o + 3) x.1.1.2.1, w_Mel E a (o + 6) x.1.1.2.2.1, w_Cliffs E a (o + 10) x.1.1.2.2.2, w_ValleyR a (o + 13), w_Key E a (o + 14) x.1.2.1.1, w_Bells E a (o + 15) x.1.2.1.2.1, w_Mel E a (o + 18) x.1.2.1.2.2.1, w_Cliffs E a (o + 22) x.1.2.1.2.2.2, w_Prog E a (o + 25) x.1.2.2.2.1, w_Chord E a (o + 31) (q1.1, x.1.2.2.2.2.2.1, q1.2), w_Key E a (o + 34) x.2.1, w_Line E a (o + 35) (q2.1, q2.2.1, gh3, q2.2.2.1, q2.2.2.2), w_Hist E a (o + 37) x.1.2.2.1]) (va_runV (As := [.int 0]) (rest := []) ⟨hx, hb, hml, hown, ha⟩ (k_J4_setLength_d00df l E a (o + 35) x.2.2.1 0 q2 hq2 H.size) (cwV 1 ha (gi_V (fun _ h => h) mw562 mw563 mw564 mw84 mw565) rfl rfl rfl hv_J4_setLength_d00df ⟨(Nat.le_of_ble_eq_true rfl), (Nat.le_of_ble_eq_true rfl)⟩) ⟨pre_blind, va_recv hst.k (fr_P hP [14] rfl) (ci := 1) (q0 := 0) rfl rfl, pre_at hP hD hS hz hzs hst [14] (by decide) rfl rfl⟩ rfl rfl hl.1 rfl (lv_room (Nat.le_of_ble_eq_true rfl)) dX10_writeChord_17 ⟨(Nat.le_of_ble_eq_true rfl), (Nat.le_of_ble_eq_true rfl)⟩) hP hD hS hA [14] (by decide) rfl rfl (fun _ => rfl) (fun _ => rfl) (fun gh3 H locs hP hD hS => ?_)
  refine lv_iconst (v := 0) hx hb dX10_writeChord_20 (by decide) ?_
  refine lv_istore_n (lv' := [(2, .int 0), (0, .ref (a o)), (1, .int p1)]) hx hb dX10_writeChord_21 rfl hl (by decide) rfl (fun ls hl => ?_)
  have key22 : ∀ (K : (Nat → Int32) → Nat → Int32 → Option (Int32 × (Nat → Int32) × Int32 × (Nat → Int32) × Nat × Int32 × Int32)), (∀ (y9 : (Nat → Int32)) (y10 : Nat) (y11 : Nat) (y12 : Int32) (H : Heap) (locs : List Loc) (ls : Array Slot), K y9 y10 y12 = some res → va_P E.1 vwCl (List.flatten [w_VBR a o x.2.2.2.1 x.2.2.2.2.1 x.2.2.2.2.2, w_ValleyR a (o + 1), w_Key E a (o + 2) x.1.1.1, w_Bells E a (o + 3) x.1.1.2.1, w_Mel E a (o + 6) x.1.1.2.2.1, w_Cliffs E a (o + 10) x.1.1.2.2.2, w_ValleyR a (o + 13), w_Key E a (o + 14) x.1.2.1.1, w_Bells E a (o + 15) x.1.2.1.2.1, w_Mel E a (o + 18) x.1.2.1.2.2.1, w_Cliffs E a (o + 22) x.1.2.1.2.2.2, w_Prog E a (o + 25) x.1.2.2.2.1, w_Chord E a (o + 31) (q1.1, x.1.2.2.2.2.2.1, q1.2), w_Key E a (o + 34) x.2.1, w_Line E a (o + 35) (y9, y10, y11, q2.2.2.1, y12), w_Hist E a (o + 37) x.1.2.2.1]) H → va_D A (List.flatten [w_VBR a o x.2.2.2.1 x.2.2.2.2.1 x.2.2.2.2.2, w_ValleyR a (o + 1), w_Key E a (o + 2) x.1.1.1, w_Bells E a (o + 3) x.1.1.2.1, w_Mel E a (o + 6) x.1.1.2.2.1, w_Cliffs E a (o + 10) x.1.1.2.2.2, w_ValleyR a (o + 13), w_Key E a (o + 14) x.1.2.1.1, w_Bells E a (o + 15) x.1.2.1.2.1, w_Mel E a (o + 18) x.1.2.1.2.2.1, w_Cliffs E a (o + 22) x.1.2.1.2.2.2, w_Prog E a (o + 25) x.1.2.2.2.1, w_Chord E a (o + 31) (q1.1, x.1.2.2.2.2.2.1, q1.2), w_Key E a (o + 34) x.2.1, w_Line E a (o + 35) (y9, y10, y11, q2.2.2.1, y12), w_Hist E a (o + 37) x.1.2.2.1]) → va_S A s.heap H locs → lv_has ls 3 [(0, .ref (a o))] → W p l e rm_X10_writeChord s m args below meth c H locs 49 4900 Q (F0 m 70 ls [])) → ∀ (n : Nat) (i4 : Int32) (i5 : (Nat → Int32)) (i6 : Nat) (i7 : Nat) (i8 : Int32) (cv sv : Nat) (H : Heap) (locs : List Loc) (ls : Array Slot), cv + n * 2 ≤ 49 → sv + n * 200 ≤ 4900 → f_X10_writeChord_L22 q1 K n i4 i5 i6 i8 = some res → va_P E.1 vwCl (List.flatten [w_VBR a o x.2.2.2.1 x.2.2.2.2.1 x.2.2.2.2.2, w_ValleyR a (o + 1), w_Key E a (o + 2) x.1.1.1, w_Bells E a (o + 3) x.1.1.2.1, w_Mel E a (o + 6) x.1.1.2.2.1, w_Cliffs E a (o + 10) x.1.1.2.2.2, w_ValleyR a (o + 13), w_Key E a (o + 14) x.1.2.1.1, w_Bells E a (o + 15) x.1.2.1.2.1, w_Mel E a (o + 18) x.1.2.1.2.2.1, w_Cliffs E a (o + 22) x.1.2.1.2.2.2, w_Prog E a (o + 25) x.1.2.2.2.1, w_Chord E a (o + 31) (q1.1, x.1.2.2.2.2.2.1, q1.2), w_Key E a (o + 34) x.2.1, w_Line E a (o + 35) (i5, i6, i7, q2.2.2.1, i8), w_Hist E a (o + 37) x.1.2.2.1]) H → va_D A (List.flatten [w_VBR a o x.2.2.2.1 x.2.2.2.2.1 x.2.2.2.2.2, w_ValleyR a (o + 1), w_Key E a (o + 2) x.1.1.1, w_Bells E a (o + 3) x.1.1.2.1, w_Mel E a (o + 6) x.1.1.2.2.1, w_Cliffs E a (o + 10) x.1.1.2.2.2, w_ValleyR a (o + 13), w_Key E a (o + 14) x.1.2.1.1, w_Bells E a (o + 15) x.1.2.1.2.1, w_Mel E a (o + 18) x.1.2.1.2.2.1, w_Cliffs E a (o + 22) x.1.2.1.2.2.2, w_Prog E a (o + 25) x.1.2.2.2.1, w_Chord E a (o + 31) (q1.1, x.1.2.2.2.2.2.1, q1.2), w_Key E a (o + 34) x.2.1, w_Line E a (o + 35) (i5, i6, i7, q2.2.2.1, i8), w_Hist E a (o + 37) x.1.2.2.1]) → va_S A s.heap H locs → lv_has ls 3 [(2, .int i4), (0, .ref (a o))] → W p l e rm_X10_writeChord s m args below meth c H locs cv sv Q (F0 m 22 ls []) := by
    intro K22 hK22 n22
    induction n22 with
    | zero => intro i4 i5 i6 i7 i8 cv sv H locs ls _ _ hF; exact absurd hF (by simp [f_X10_writeChord_L22])
    | succ n22 ih22 =>
      intro i4 i5 i6 i7 i8 cv sv H locs ls hcv hsv hF hP hD hS hl
      rw [f_X10_writeChord_L22] at hF
      refine lv_iload_n hx hb dX10_writeChord_22 rfl (lv_at hl 0 rfl) ?_
      refine lv_aload_n hx hb dX10_writeChord_23 rfl (lv_at hl 1 rfl) ?_
      refine va_get (D := E.1) (ci := 12) (v := .ref (a (o + 31))) (C := RX10) (T := TX10) (N := 10) hx hb ha in_X10 hown hst.k hP 0 rfl rfl 4 (by decide) (ha _ mw345) (fun _ h9 => h9) rfl dX10_writeChord_24 ?_
      refine va_getN (D := E.1) (ci := 5) (v := .int q1.2) (C := RX2) (T := TX2) (N := 3) hx hb ha in_X2 hown hst.k hP 31 rfl rfl 2 (by decide) (va_Nw.use rfl (nf25 hst)) (fun _ h9 => h9) rfl dX10_writeChord_27 ?_
      refine lv_icmp_ge (tgt := 70) hx hb dX10_writeChord_30 (by decide) (fun c30 => ?_) (fun c30 => ?_)
      · have hF := q_brp c30 hF
        refine W.widen (k := 49) (n := 4900) (by omega) (by omega) ?_
        exact hK22 i5 i6 i7 i8 H locs ls hF hP hD hS (lv_sub hl [1] rfl)
      · have hF := q_brn c30 hF
        refine lv_iload_n hx hb dX10_writeChord_33 rfl (lv_at hl 0 rfl) ?_
        obtain ⟨J47, hJ47, hF⟩ := q_jn hF
        have jJ47 : ∀ (j13 : (Nat → Int32)) (j14 : Nat) (j15 : Nat) (j16 : Int32), ∀ (H : Heap) (locs : List Loc) (ls : Array Slot), J47 j13 j14 j16 = some res → va_P E.1 vwCl (List.flatten [w_VBR a o x.2.2.2.1 x.2.2.2.2.1 x.2.2.2.2.2, w_ValleyR a (o + 1), w_Key E a (o + 2) x.1.1.1, w_Bells E a (o + 3) x.1.1.2.1, w_Mel E a (o + 6) x.1.1.2.2.1, w_Cliffs E a (o + 10) x.1.1.2.2.2, w_ValleyR a (o + 13), w_Key E a (o + 14) x.1.2.1.1, w_Bells E a (o + 15) x.1.2.1.2.1, w_Mel E a (o + 18) x.1.2.1.2.2.1, w_Cliffs E a (o + 22) x.1.2.1.2.2.2, w_Prog E a (o + 25) x.1.2.2.2.1, w_Chord E a (o + 31) (q1.1, x.1.2.2.2.2.2.1, q1.2), w_Key E a (o + 34) x.2.1, w_Line E a (o + 35) (j13, j14, j15, q2.2.2.1, j16), w_Hist E a (o + 37) x.1.2.2.1]) H → va_D A (List.flatten [w_VBR a o x.2.2.2.1 x.2.2.2.2.1 x.2.2.2.2.2, w_ValleyR a (o + 1), w_Key E a (o + 2) x.1.1.1, w_Bells E a (o + 3) x.1.1.2.1, w_Mel E a (o + 6) x.1.1.2.2.1, w_Cliffs E a (o + 10) x.1.1.2.2.2, w_ValleyR a (o + 13), w_Key E a (o + 14) x.1.2.1.1, w_Bells E a (o + 15) x.1.2.1.2.1, w_Mel E a (o + 18) x.1.2.1.2.2.1, w_Cliffs E a (o + 22) x.1.2.1.2.2.2, w_Prog E a (o + 25) x.1.2.2.2.1, w_Chord E a (o + 31) (q1.1, x.1.2.2.2.2.2.1, q1.2), w_Key E a (o + 34) x.2.1, w_Line E a (o + 35) (j13, j14, j15, q2.2.2.1, j16), w_Hist E a (o + 37) x.1.2.2.1]) → va_S A s.heap H locs → lv_has ls 3 [(2, .int i4), (0, .ref (a o))] → W p l e rm_X10_writeChord s m args below meth c H locs (cv + 1) (sv + 100) Q (F0 m 47 ls []) := by
          intro j13 j14 j15 j16 H locs ls hF hP hD hS hl
          rw [hJ47] at hF
          refine lv_aload_n hx hb dX10_writeChord_47 rfl (lv_at hl 1 rfl) ?_
          refine va_get (D := E.1) (ci := 12) (v := .ref (a (o + 35))) (C := RX10) (T := TX10) (N := 10) hx hb ha in_X10 hown hst.k hP 0 rfl rfl 6 (by decide) (ha _ mw347) (fun _ h9 => h9) rfl dX10_writeChord_48 ?_
          refine lv_aload_n hx hb dX10_writeChord_51 rfl (lv_at hl 1 rfl) ?_
          refine va_get (D := E.1) (ci := 12) (v := .ref (a (o + 31))) (C := RX10) (T := TX10) (N := 10) hx hb ha in_X10 hown hst.k hP 0 rfl rfl 4 (by decide) (ha _ mw345) (fun _ h9 => h9) rfl dX10_writeChord_52 ?_
          refine va_getN (D := E.1) (ci := 5) (v := .ref (a (o + 32))) (C := RX2) (T := TX2) (N := 3) hx hb ha in_X2 hown hst.k hP 31 rfl rfl 0 (by decide) (va_Nw.use rfl (nf24 hst)) (fun _ h9 => h9) rfl dX10_writeChord_55 ?_
          refine lv_iload_n hx hb dX10_writeChord_58 rfl (lv_at hl 0 rfl) ?_
          obtain ⟨g17, hF⟩ := q_gdi hF
          refine vi_iald hx hb hst.k hP 32 0 rfl rfl (f := q1.1) (k := i4.toNatClampNeg) rfl g17 dX10_writeChord_59 ?_
          obtain ⟨q18, hq18, hF⟩ := q_bdi hF
          refine cl_gr (Lc := [w_Line E a (o + 35) (j13, j14, j15, q2.2.2.1, j16)]) (Lc' := fun gh19 => [w_Line E a (o + 35) (q18.1, q18.2.1, gh19, q2.2.2.1, q18.2.2)]) (L' := fun gh19 => [w_VBR a o x.2.2.2.1 x.2.2.2.2.1 x.2.2.2.2.2, w_ValleyR a (o + 1), w_Key E a (o + 2) x.1.1.1, w_Bells E a (o + 3) x.1.1.2.1, w_Mel E a (o + 6) x.1.1.2.2.1, w_Cliffs E a (o + 10) x.1.1.2.2.2, w_ValleyR a (o + 13), w_Key E a (o + 14) x.1.2.1.1, w_Bells E a (o + 15) x.1.2.1.2.1, w_Mel E a (o + 18) x.1.2.1.2.2.1, w_Cliffs E a (o + 22) x.1.2.1.2.2.2, w_Prog E a (o + 25) x.1.2.2.2.1, w_Chord E a (o + 31) (q1.1, x.1.2.2.2.2.2.1, q1.2), w_Key E a (o + 34) x.2.1, w_Line E a (o + 35) (q18.1, q18.2.1, gh19, q2.2.2.1, q18.2.2), w_Hist E a (o + 37) x.1.2.2.1]) (ra := a (o + 35)) (va_runV (As := [.int (q1.1 (i4.toNatClampNeg))]) (rest := []) ⟨hx, hb, hml, hown, ha⟩ (k_J4_append_bf812 l E a (o + 35) (j13, j14, j15, q2.2.2.1, j16) (q1.1 (i4.toNatClampNeg)) q18 hq18 H.size) (cwV 1 ha (gi_V (fun _ h => h) mw931 mw698 mw699 mw84 mw700) rfl rfl rfl hv_J4_append_bf812 ⟨(Nat.le_of_ble_eq_true rfl), (Nat.le_of_ble_eq_true rfl)⟩) ⟨pre_blind, va_recv hst.k (fr_P hP [14] rfl) (ci := 1) (q0 := 0) rfl rfl, pre_at hP hD hS hz hzs hst [14] (by decide) rfl rfl⟩ rfl rfl hl.1 rfl (lv_room (Nat.le_of_ble_eq_true rfl)) dX10_writeChord_60 ⟨by show cv + 1 + 1 ≤ 49; omega, by show sv + 100 + 100 ≤ 4900; omega⟩) hP hD hS hA [14] (by decide) rfl rfl (fun _ => rfl) (fun _ => rfl) (fun gh19 H locs hP hD hS => ?_)
          refine lv_pop hx hb dX10_writeChord_63 rfl ?_
          obtain ⟨v20, ev20⟩ : ∃ y : Int32, y = i4 + 1 := ⟨_, rfl⟩
          have hF := q_lti ev20 hF
          refine lv_iinc (v := v20) (lv' := [(2, .int v20), (0, .ref (a o))]) hx hb dX10_writeChord_64 hl (k := 0) rfl (by rw [ev20]; rfl) (by decide) rfl (fun ls hl => ?_)
          refine lv_goto (tgt := 22) hx hb dX10_writeChord_67 (by decide) ?_
          exact ih22 v20 q18.1 q18.2.1 gh19 q18.2.2 (cv + 2) (sv + 200) H locs ls (by omega) (by omega) hF hP hD hS (lv_sub hl [0, 1] rfl)
        refine lv_if_le (tgt := 47) hx hb dX10_writeChord_34 (by decide) (fun c34 => ?_) (fun c34 => ?_)
        · have hF := q_brp c34 hF
          refine W.widen (k := cv + 1) (n := sv + 100) (by omega) (by omega) ?_
          exact jJ47 i5 i6 i7 i8 H locs ls hF hP hD hS (lv_sub hl [0, 1] rfl)
        · have hF := q_brn c34 hF
          refine lv_aload_n hx hb dX10_writeChord_37 rfl (lv_at hl 1 rfl) ?_
          refine va_get (D := E.1) (ci := 12) (v := .ref (a (o + 35))) (C := RX10) (T := TX10) (N := 10) hx hb ha in_X10 hown hst.k hP 0 rfl rfl 6 (by decide) (ha _ mw347) (fun _ h9 => h9) rfl dX10_writeChord_38 ?_
          refine lv_bipush (v := 32) hx hb dX10_writeChord_41 (by decide) ?_
          obtain ⟨q21, hq21, hF⟩ := q_bdi hF
          refine cl_gr (Lc := [w_Line E a (o + 35) (i5, i6, i7, q2.2.2.1, i8)]) (Lc' := fun gh22 => [w_Line E a (o + 35) (q21.1, q21.2.1, gh22, q2.2.2.1, q21.2.2)]) (L' := fun gh22 => [w_VBR a o x.2.2.2.1 x.2.2.2.2.1 x.2.2.2.2.2, w_ValleyR a (o + 1), w_Key E a (o + 2) x.1.1.1, w_Bells E a (o + 3) x.1.1.2.1, w_Mel E a (o + 6) x.1.1.2.2.1, w_Cliffs E a (o + 10) x.1.1.2.2.2, w_ValleyR a (o + 13), w_Key E a (o + 14) x.1.2.1.1, w_Bells E a (o + 15) x.1.2.1.2.1, w_Mel E a (o + 18) x.1.2.1.2.2.1, w_Cliffs E a (o + 22) x.1.2.1.2.2.2, w_Prog E a (o + 25) x.1.2.2.2.1, w_Chord E a (o + 31) (q1.1, x.1.2.2.2.2.2.1, q1.2), w_Key E a (o + 34) x.2.1, w_Line E a (o + 35) (q21.1, q21.2.1, gh22, q2.2.2.1, q21.2.2), w_Hist E a (o + 37) x.1.2.2.1]) (ra := a (o + 35)) (va_runV (As := [.int 32]) (rest := []) ⟨hx, hb, hml, hown, ha⟩ (k_J4_append_cf468 l E a (o + 35) (i5, i6, i7, q2.2.2.1, i8) 32 q21 hq21 H.size) (cwV 1 ha (gi_V (fun _ h => h) mw909 mw910 mw911 mw84 mw912) rfl rfl rfl hv_J4_append_cf468 ⟨(Nat.le_of_ble_eq_true rfl), (Nat.le_of_ble_eq_true rfl)⟩) ⟨pre_blind, va_recv hst.k (fr_P hP [14] rfl) (ci := 1) (q0 := 0) rfl rfl, pre_at hP hD hS hz hzs hst [14] (by decide) rfl rfl⟩ rfl rfl hl.1 rfl (lv_room (Nat.le_of_ble_eq_true rfl)) dX10_writeChord_43 ⟨by show cv + 1 ≤ 49; omega, by show sv + 100 ≤ 4900; omega⟩) hP hD hS hA [14] (by decide) rfl rfl (fun _ => rfl) (fun _ => rfl) (fun gh22 H locs hP hD hS => ?_)
          refine lv_pop hx hb dX10_writeChord_46 rfl ?_
          exact jJ47 q21.1 q21.2.1 gh22 q21.2.2 H locs ls hF hP hD hS (lv_sub hl [0, 1] rfl)
  refine key22 _ ?_ 24 0 q2.1 q2.2.1 gh3 q2.2.2.2 1 100 H locs ls (by omega) (by omega) hF hP hD hS (lv_sub hl [0, 1] rfl)
  intro y9 y10 y11 y12 H locs ls hF hP hD hS hl
  refine lv_aload_n hx hb dX10_writeChord_70 rfl (lv_at hl 0 rfl) ?_
  refine va_get (D := E.1) (ci := 12) (v := .ref (a (o + 35))) (C := RX10) (T := TX10) (N := 10) hx hb ha in_X10 hown hst.k hP 0 rfl rfl 6 (by decide) (ha _ mw347) (fun _ h9 => h9) rfl dX10_writeChord_71 ?_
  obtain ⟨q23, hq23, hF⟩ := q_bdi hF
  refine cl_i (Lc := [w_Line E a (o + 35) (y9, y10, y11, q2.2.2.1, y12)]) (Lc' := [w_Line E a (o + 35) (y9, y10, y11, q2.2.2.1, y12)]) (L' := [w_VBR a o x.2.2.2.1 x.2.2.2.2.1 x.2.2.2.2.2, w_ValleyR a (o + 1), w_Key E a (o + 2) x.1.1.1, w_Bells E a (o + 3) x.1.1.2.1, w_Mel E a (o + 6) x.1.1.2.2.1, w_Cliffs E a (o + 10) x.1.1.2.2.2, w_ValleyR a (o + 13), w_Key E a (o + 14) x.1.2.1.1, w_Bells E a (o + 15) x.1.2.1.2.1, w_Mel E a (o + 18) x.1.2.1.2.2.1, w_Cliffs E a (o + 22) x.1.2.1.2.2.2, w_Prog E a (o + 25) x.1.2.2.2.1, w_Chord E a (o + 31) (q1.1, x.1.2.2.2.2.2.1, q1.2), w_Key E a (o + 34) x.2.1, w_Line E a (o + 35) (y9, y10, y11, q2.2.2.1, y12), w_Hist E a (o + 37) x.1.2.2.1]) (rv := q23) (va_runV (As := []) (rest := []) ⟨hx, hb, hml, hown, ha⟩ (k_J4_length_8abf5 l E a (o + 35) (y9, y10, y11, q2.2.2.1, y12) q23 hq23 H.size) (cwV 0 ha (gi_V (fun _ h => h) mw932 mw744 mw2135 mw84 mw745) rfl rfl rfl hv_J4_length_8abf5 ⟨(Nat.le_of_ble_eq_true rfl), (Nat.le_of_ble_eq_true rfl)⟩) ⟨pre_blind, va_recv hst.k (fr_P hP [14] rfl) (ci := 1) (q0 := 0) rfl rfl, pre_at hP hD hS hz hzs hst [14] (by decide) rfl rfl⟩ rfl rfl hl.1 rfl (lv_room (Nat.le_of_ble_eq_true rfl)) dX10_writeChord_74 ⟨(Nat.le_of_ble_eq_true rfl), (Nat.le_of_ble_eq_true rfl)⟩) hP hD hS hA [14] (by decide) rfl rfl rfl rfl (fun H locs hP hD hS => ?_)
  obtain rfl := Option.some.inj hF
  exact en_gi (ad := y11) hQ (Nat.le_of_ble_eq_true rfl) (Nat.le_of_ble_eq_true rfl) hx hb hr hlocks hP hD hS rfl dX10_writeChord_77

/-! X10_outputAt -/
theorem dX10_outputAt_0 : decode cX10_outputAt 0 = .ok (.iload_n 1, 1) := by decide +kernel
theorem dX10_outputAt_1 : decode cX10_outputAt 1 = .ok (.iconst 0, 1) := by decide +kernel
theorem dX10_outputAt_2 : decode cX10_outputAt 2 = .ok (.aload_n 0, 1) := by decide +kernel
theorem dX10_outputAt_3 : decode cX10_outputAt 3 = .ok (.getfield 50, 3) := by decide +kernel
theorem dX10_outputAt_6 : decode cX10_outputAt 6 = .ok (.invokevirtual 352, 3) := by decide +kernel
theorem dX10_outputAt_9 : decode cX10_outputAt 9 = .ok (.iconst 1, 1) := by decide +kernel
theorem dX10_outputAt_10 : decode cX10_outputAt 10 = .ok (.isub, 1) := by decide +kernel
theorem dX10_outputAt_11 : decode cX10_outputAt 11 = .ok (.invokestatic 178, 3) := by decide +kernel
theorem dX10_outputAt_14 : decode cX10_outputAt 14 = .ok (.ifCond .ne 14, 3) := by decide +kernel
theorem dX10_outputAt_17 : decode cX10_outputAt 17 = .ok (.new 355, 3) := by decide +kernel
theorem dX10_outputAt_20 : decode cX10_outputAt 20 = .ok (.dup, 1) := by decide +kernel
theorem dX10_outputAt_21 : decode cX10_outputAt 21 = .ok (.ldc_w 357, 3) := by decide +kernel
theorem dX10_outputAt_24 : decode cX10_outputAt 24 = .ok (.invokespecial 359, 3) := by decide +kernel
theorem dX10_outputAt_27 : decode cX10_outputAt 27 = .ok (.athrow, 1) := by decide +kernel
theorem dX10_outputAt_28 : decode cX10_outputAt 28 = .ok (.aload_n 0, 1) := by decide +kernel
theorem dX10_outputAt_29 : decode cX10_outputAt 29 = .ok (.getfield 50, 3) := by decide +kernel
theorem dX10_outputAt_32 : decode cX10_outputAt 32 = .ok (.iload_n 1, 1) := by decide +kernel
theorem dX10_outputAt_33 : decode cX10_outputAt 33 = .ok (.invokevirtual 360, 3) := by decide +kernel
theorem dX10_outputAt_36 : decode cX10_outputAt 36 = .ok (.ireturn, 1) := by decide +kernel
def f_X10_outputAt (x_line_value : (Nat → Int32)) (x_line_cap : Nat) (x_line_count : Int32) (p1 : Int32) : Option ((Int32 ⊕ String)) :=
  q_bd (f_J4_length_8abf5 x_line_count) (fun q1 =>
  q_bd (f_X10_isWithin p1 0 (q1 - 1)) (fun q2 =>
  q_br (q2 = 0) (
  some (Sum.inr "java/lang/IndexOutOfBoundsException")) (
  q_bd (f_J4_charAt_5068e x_line_value x_line_cap x_line_count p1) (fun q3 =>
  q_gd ((q3.toUInt32 % 65536).toInt32 = q3) (
  some (Sum.inl q3))))))
theorem hv_X10_outputAt : yX10_outputAt.cls = RX10 ∧ yX10_outputAt.cls ≠ "java/lang/invoke/MethodHandle" ∧ yX10_outputAt.cls ≠ "java/lang/invoke/VarHandle" ∧ (parseMethodDescriptor yX10_outputAt.desc).map (fun d => d.parameters.length) = some 1 := by decide +kernel
abbrev rm_X10_outputAt : Room := { frames := 6, cells := 1, slots := 6, locals := 88 }
set_option maxHeartbeats 4000000 in
set_option maxRecDepth 100000 in
theorem k_X10_outputAt (l : Launch) (E : ET) (a : Nat → Nat) (o : Nat) (x : VB_t) (p1 : Int32) (res : (Int32 ⊕ String)) (hF : f_X10_outputAt x.2.2.1.1 x.2.2.1.2.1 x.2.2.1.2.2.2.2 p1 = some res) (sz : Nat) (hlt : l.stackTraces = false) : CxI l yX10_outputAt (mws yX10_outputAt cX10_outputAt 2 (some .char)) rm_X10_outputAt 1 6 [.ref (a o), .int p1] E (bl_VB E a o x) res (bl_VB E a o x) sz := by
  refine mk_X (by decide +kernel) (Nat.le_of_ble_eq_true rfl) ?_
  intro p e s m below meth c A args Q ls hAe hsz hQ hx hb hr hml hin ha hown hlocks hA hz hzs hst hexc hP hD hS hl
  have hown : s.vm.findClass RX10 = some m.cls := hown
  rw [hAe] at hQ
  subst hsz
  have hP : va_P E.1 vwCl (List.flatten [w_VBR a o x.2.2.2.1 x.2.2.2.2.1 x.2.2.2.2.2, w_ValleyR a (o + 1), w_Key E a (o + 2) x.1.1.1, w_Bells E a (o + 3) x.1.1.2.1, w_Mel E a (o + 6) x.1.1.2.2.1, w_Cliffs E a (o + 10) x.1.1.2.2.2, w_ValleyR a (o + 13), w_Key E a (o + 14) x.1.2.1.1, w_Bells E a (o + 15) x.1.2.1.2.1, w_Mel E a (o + 18) x.1.2.1.2.2.1, w_Cliffs E a (o + 22) x.1.2.1.2.2.2, w_Prog E a (o + 25) x.1.2.2.2.1, w_Chord E a (o + 31) x.1.2.2.2.2, w_Key E a (o + 34) x.2.1, w_Line E a (o + 35) x.2.2.1, w_Hist E a (o + 37) x.1.2.2.1]) s.heap := hP
  have hD : va_D A (List.flatten [w_VBR a o x.2.2.2.1 x.2.2.2.2.1 x.2.2.2.2.2, w_ValleyR a (o + 1), w_Key E a (o + 2) x.1.1.1, w_Bells E a (o + 3) x.1.1.2.1, w_Mel E a (o + 6) x.1.1.2.2.1, w_Cliffs E a (o + 10) x.1.1.2.2.2, w_ValleyR a (o + 13), w_Key E a (o + 14) x.1.2.1.1, w_Bells E a (o + 15) x.1.2.1.2.1, w_Mel E a (o + 18) x.1.2.1.2.2.1, w_Cliffs E a (o + 22) x.1.2.1.2.2.2, w_Prog E a (o + 25) x.1.2.2.2.1, w_Chord E a (o + 31) x.1.2.2.2.2, w_Key E a (o + 34) x.2.1, w_Line E a (o + 35) x.2.2.1, w_Hist E a (o + 37) x.1.2.2.1]) := hD
  have hl : lv_has ls 2 [(0, .ref (a o)), (1, .int p1)] := hl
  generalize hHe : s.heap = H at hP
  have hS : va_S A s.heap H [] := by rw [← hHe]; exact hS
  generalize ([] : List Loc) = locs at hS ⊢
  unfold f_X10_outputAt at hF
  refine lv_iload_n hx hb dX10_outputAt_0 rfl (lv_at hl 1 rfl) ?_
  refine lv_iconst (v := 0) hx hb dX10_outputAt_1 (by decide) ?_
  refine lv_aload_n hx hb dX10_outputAt_2 rfl (lv_at hl 0 rfl) ?_
  refine va_get (D := E.1) (ci := 12) (v := .ref (a (o + 35))) (C := RX10) (T := TX10) (N := 10) hx hb ha in_X10 hown hst.k hP 0 rfl rfl 6 (by decide) (ha _ mw347) (fun _ h9 => h9) rfl dX10_outputAt_3 ?_
  obtain ⟨q1, hq1, hF⟩ := q_bdi hF
  refine cl_i (Lc := [w_Line E a (o + 35) x.2.2.1]) (Lc' := [w_Line E a (o + 35) x.2.2.1]) (L' := [w_VBR a o x.2.2.2.1 x.2.2.2.2.1 x.2.2.2.2.2, w_ValleyR a (o + 1), w_Key E a (o + 2) x.1.1.1, w_Bells E a (o + 3) x.1.1.2.1, w_Mel E a (o + 6) x.1.1.2.2.1, w_Cliffs E a (o + 10) x.1.1.2.2.2, w_ValleyR a (o + 13), w_Key E a (o + 14) x.1.2.1.1, w_Bells E a (o + 15) x.1.2.1.2.1, w_Mel E a (o + 18) x.1.2.1.2.2.1, w_Cliffs E a (o + 22) x.1.2.1.2.2.2, w_Prog E a (o + 25) x.1.2.2.2.1, w_Chord E a (o + 31) x.1.2.2.2.2, w_Key E a (o + 34) x.2.1, w_Line E a (o + 35) x.2.2.1, w_Hist E a (o + 37) x.1.2.2.1]) (rv := q1) (va_runV (As := []) (rest := [.int 0, .int p1]) ⟨hx, hb, hml, hown, ha⟩ (k_J4_length_8abf5 l E a (o + 35) x.2.2.1 q1 hq1 H.size) (cwV 0 ha (gi_V (fun _ h => h) mw932 mw744 mw2135 mw84 mw745) rfl rfl rfl hv_J4_length_8abf5 ⟨(Nat.le_of_ble_eq_true rfl), (Nat.le_of_ble_eq_true rfl)⟩) ⟨pre_blind, va_recv hst.k (fr_P hP [14] rfl) (ci := 1) (q0 := 0) rfl rfl, pre_at hP hD hS hz hzs hst [14] (by decide) rfl rfl⟩ rfl rfl hl.1 rfl (lv_room (Nat.le_of_ble_eq_true rfl)) dX10_outputAt_6 ⟨(Nat.le_of_ble_eq_true rfl), (Nat.le_of_ble_eq_true rfl)⟩) hP hD hS hA [14] (by decide) rfl rfl rfl rfl (fun H locs hP hD hS => ?_)
  refine lv_iconst (v := 1) hx hb dX10_outputAt_9 (by decide) ?_
  refine lv_isub hx hb dX10_outputAt_10 ?_
  obtain ⟨q2, hq2, hF⟩ := q_bdi hF
  refine cl_i (Lc := []) (Lc' := []) (L' := [w_VBR a o x.2.2.2.1 x.2.2.2.2.1 x.2.2.2.2.2, w_ValleyR a (o + 1), w_Key E a (o + 2) x.1.1.1, w_Bells E a (o + 3) x.1.1.2.1, w_Mel E a (o + 6) x.1.1.2.2.1, w_Cliffs E a (o + 10) x.1.1.2.2.2, w_ValleyR a (o + 13), w_Key E a (o + 14) x.1.2.1.1, w_Bells E a (o + 15) x.1.2.1.2.1, w_Mel E a (o + 18) x.1.2.1.2.2.1, w_Cliffs E a (o + 22) x.1.2.1.2.2.2, w_Prog E a (o + 25) x.1.2.2.2.1, w_Chord E a (o + 31) x.1.2.2.2.2, w_Key E a (o + 34) x.2.1, w_Line E a (o + 35) x.2.2.1, w_Hist E a (o + 37) x.1.2.2.1]) (rv := q2) (va_runS (As := [.int p1, .int 0, .int (q1 - 1)]) (rest := []) ⟨hx, hb, hml, hown, ha⟩ (k_X10_isWithin l E p1 0 (q1 - 1) q2 hq2 H.size) (cwS 3 ha (gi_S (fun _ h => h) mw999 mw448 mw74 mw449) rfl rfl rfl hv_X10_isWithin ⟨(Nat.le_of_ble_eq_true rfl), (Nat.le_of_ble_eq_true rfl)⟩) ⟨pre_blind, pre_at hP hD hS hz hzs hst [] (by decide) rfl rfl⟩ rfl rfl hl.1 rfl (lv_room (Nat.le_of_ble_eq_true rfl)) dX10_outputAt_11 ⟨(Nat.le_of_ble_eq_true rfl), (Nat.le_of_ble_eq_true rfl)⟩) hP hD hS hA [] (by decide) rfl rfl rfl rfl (fun H locs hP hD hS => ?_)
  refine lv_if_ne (tgt := 28) hx hb dX10_outputAt_14 (by decide) (fun c14 => ?_) (fun c14 => ?_)
  · have hF := q_brn c14 hF
    refine lv_aload_n hx hb dX10_outputAt_28 rfl (lv_at hl 0 rfl) ?_
    refine va_get (D := E.1) (ci := 12) (v := .ref (a (o + 35))) (C := RX10) (T := TX10) (N := 10) hx hb ha in_X10 hown hst.k hP 0 rfl rfl 6 (by decide) (ha _ mw347) (fun _ h9 => h9) rfl dX10_outputAt_29 ?_
    refine lv_iload_n hx hb dX10_outputAt_32 rfl (lv_at hl 1 rfl) ?_
    obtain ⟨q3, hq3, hF⟩ := q_bdi hF
    refine cl_i (Lc := [w_Line E a (o + 35) x.2.2.1]) (Lc' := [w_Line E a (o + 35) x.2.2.1]) (L' := [w_VBR a o x.2.2.2.1 x.2.2.2.2.1 x.2.2.2.2.2, w_ValleyR a (o + 1), w_Key E a (o + 2) x.1.1.1, w_Bells E a (o + 3) x.1.1.2.1, w_Mel E a (o + 6) x.1.1.2.2.1, w_Cliffs E a (o + 10) x.1.1.2.2.2, w_ValleyR a (o + 13), w_Key E a (o + 14) x.1.2.1.1, w_Bells E a (o + 15) x.1.2.1.2.1, w_Mel E a (o + 18) x.1.2.1.2.2.1, w_Cliffs E a (o + 22) x.1.2.1.2.2.2, w_Prog E a (o + 25) x.1.2.2.2.1, w_Chord E a (o + 31) x.1.2.2.2.2, w_Key E a (o + 34) x.2.1, w_Line E a (o + 35) x.2.2.1, w_Hist E a (o + 37) x.1.2.2.1]) (rv := q3) (va_runV (As := [.int p1]) (rest := []) ⟨hx, hb, hml, hown, ha⟩ (k_J4_charAt_5068e l E a (o + 35) x.2.2.1 p1 q3 hq3 H.size) (cwV 1 ha (gi_V (fun _ h => h) mw1596 mw1597 mw1598 mw84 mw1599) rfl rfl rfl hv_J4_charAt_5068e ⟨(Nat.le_of_ble_eq_true rfl), (Nat.le_of_ble_eq_true rfl)⟩) ⟨pre_blind, va_recv hst.k (fr_P hP [14] rfl) (ci := 1) (q0 := 0) rfl rfl, pre_at hP hD hS hz hzs hst [14] (by decide) rfl rfl⟩ rfl rfl hl.1 rfl (lv_room (Nat.le_of_ble_eq_true rfl)) dX10_outputAt_33 ⟨(Nat.le_of_ble_eq_true rfl), (Nat.le_of_ble_eq_true rfl)⟩) hP hD hS hA [14] (by decide) rfl rfl rfl rfl (fun H locs hP hD hS => ?_)
    obtain ⟨g4, hF⟩ := q_gdi hF
    obtain rfl := Option.some.inj hF
    exact en_xz hQ (Nat.le_of_ble_eq_true rfl) (Nat.le_of_ble_eq_true rfl) hx hb hr hlocks (nz_c g4) hP hD hS rfl dX10_outputAt_36
  · have hF := q_brp c14 hF
    obtain rfl := Option.some.inj hF
    exact en_thW hQ hx hb hlt ha hst hz hml hl.1 hown (by decide) ft_x mw1067 iw_IndexOutOfBoundsException (sr_357 E) at_359 cs_IndexOutOfBoundsException dX10_outputAt_17 dX10_outputAt_20 dX10_outputAt_21 dX10_outputAt_24 dX10_outputAt_27 hexc (Nat.le_of_ble_eq_true rfl) (Nat.le_of_ble_eq_true rfl) (Nat.le_of_ble_eq_true rfl) (Nat.le_of_ble_eq_true rfl) hlocks (Nat.le_of_ble_eq_true rfl) (Nat.le_of_ble_eq_true rfl) hP hD hS rfl
