/-! X9_copyFrom -/
theorem dX9_copyFrom_0 : decode cX9_copyFrom 0 = .ok (.aload_n 0, 1) := by decide +kernel
theorem dX9_copyFrom_1 : decode cX9_copyFrom 1 = .ok (.getfield 12, 3) := by decide +kernel
theorem dX9_copyFrom_4 : decode cX9_copyFrom 4 = .ok (.aload_n 1, 1) := by decide +kernel
theorem dX9_copyFrom_5 : decode cX9_copyFrom 5 = .ok (.getfield 12, 3) := by decide +kernel
theorem dX9_copyFrom_8 : decode cX9_copyFrom 8 = .ok (.invokevirtual 39, 3) := by decide +kernel
theorem dX9_copyFrom_11 : decode cX9_copyFrom 11 = .ok (.aload_n 0, 1) := by decide +kernel
theorem dX9_copyFrom_12 : decode cX9_copyFrom 12 = .ok (.getfield 21, 3) := by decide +kernel
theorem dX9_copyFrom_15 : decode cX9_copyFrom 15 = .ok (.aload_n 1, 1) := by decide +kernel
theorem dX9_copyFrom_16 : decode cX9_copyFrom 16 = .ok (.getfield 21, 3) := by decide +kernel
theorem dX9_copyFrom_19 : decode cX9_copyFrom 19 = .ok (.invokevirtual 43, 3) := by decide +kernel
theorem dX9_copyFrom_22 : decode cX9_copyFrom 22 = .ok (.aload_n 0, 1) := by decide +kernel
theorem dX9_copyFrom_23 : decode cX9_copyFrom 23 = .ok (.getfield 28, 3) := by decide +kernel
theorem dX9_copyFrom_26 : decode cX9_copyFrom 26 = .ok (.aload_n 1, 1) := by decide +kernel
theorem dX9_copyFrom_27 : decode cX9_copyFrom 27 = .ok (.getfield 28, 3) := by decide +kernel
theorem dX9_copyFrom_30 : decode cX9_copyFrom 30 = .ok (.invokevirtual 46, 3) := by decide +kernel
theorem dX9_copyFrom_33 : decode cX9_copyFrom 33 = .ok (.aload_n 0, 1) := by decide +kernel
theorem dX9_copyFrom_34 : decode cX9_copyFrom 34 = .ok (.getfield 35, 3) := by decide +kernel
theorem dX9_copyFrom_37 : decode cX9_copyFrom 37 = .ok (.aload_n 1, 1) := by decide +kernel
theorem dX9_copyFrom_38 : decode cX9_copyFrom 38 = .ok (.getfield 35, 3) := by decide +kernel
theorem dX9_copyFrom_41 : decode cX9_copyFrom 41 = .ok (.invokevirtual 49, 3) := by decide +kernel
theorem dX9_copyFrom_44 : decode cX9_copyFrom 44 = .ok (.return_, 1) := by decide +kernel
def f_X9_copyFrom (x_key_tonic : Int32) (x_key_isMinor : Int32) (x_key_tolerance : Int32) (x_bells_herds : (Nat → Int32)) (x_bells_pitches : (Nat → Int32)) (x_bells_count : Int32) (x_melodies_lengths : (Nat → Int32)) (x_melodies_entries : (Nat → Int32)) (x_melodies_tones : (Nat → Int32)) (x_cliffs_delays : (Nat → Int32)) (x_cliffs_transpositions : (Nat → Int32)) (x_cliffs_count : Int32) (y_key_tonic : Int32) (y_key_isMinor : Int32) (y_key_tolerance : Int32) (y_bells_herds : (Nat → Int32)) (y_bells_pitches : (Nat → Int32)) (y_bells_count : Int32) (y_melodies_lengths : (Nat → Int32)) (y_melodies_entries : (Nat → Int32)) (y_melodies_tones : (Nat → Int32)) (y_cliffs_delays : (Nat → Int32)) (y_cliffs_transpositions : (Nat → Int32)) (y_cliffs_count : Int32) : Option (Int32 × Int32 × Int32 × (Nat → Int32) × (Nat → Int32) × Int32 × (Nat → Int32) × (Nat → Int32) × (Nat → Int32) × (Nat → Int32) × (Nat → Int32) × Int32) :=
  q_bd (f_X6_copyFrom x_key_tonic x_key_isMinor x_key_tolerance y_key_tonic y_key_isMinor y_key_tolerance) (fun q1 =>
  q_bd (f_X1_copyFrom x_bells_herds x_bells_pitches x_bells_count y_bells_herds y_bells_pitches y_bells_count) (fun q2 =>
  q_bd (f_X7_copyFrom x_melodies_lengths x_melodies_entries x_melodies_tones y_melodies_lengths y_melodies_entries y_melodies_tones) (fun q3 =>
  q_bd (f_X3_copyFrom x_cliffs_delays x_cliffs_transpositions x_cliffs_count y_cliffs_delays y_cliffs_transpositions y_cliffs_count) (fun q4 =>
  some (q1.1, q1.2.1, q1.2.2, q2.1, q2.2.1, q2.2.2, q3.1, q3.2.1, q3.2.2, q4.1, q4.2.1, q4.2.2)))))
theorem hv_X9_copyFrom : yX9_copyFrom.cls = RX9 ∧ yX9_copyFrom.cls ≠ "java/lang/invoke/MethodHandle" ∧ yX9_copyFrom.cls ≠ "java/lang/invoke/VarHandle" ∧ (parseMethodDescriptor yX9_copyFrom.desc).map (fun d => d.parameters.length) = some 1 := by decide +kernel
abbrev rm_X9_copyFrom : Room := { frames := 2, cells := 0, slots := 0, locals := 81 }
set_option maxHeartbeats 4000000 in
set_option maxRecDepth 100000 in
theorem k_X9_copyFrom (l : Launch) (E : ET) (a : Nat → Nat) (o : Nat) (x : Valley_t) (ay : Nat → Nat) (oy : Nat) (y : Valley_t) (res : Int32 × Int32 × Int32 × (Nat → Int32) × (Nat → Int32) × Int32 × (Nat → Int32) × (Nat → Int32) × (Nat → Int32) × (Nat → Int32) × (Nat → Int32) × Int32) (hF : f_X9_copyFrom x.1.1 x.1.2.1 x.1.2.2 x.2.1.1 x.2.1.2.1 x.2.1.2.2 x.2.2.1.1 x.2.2.1.2.1 x.2.2.1.2.2 x.2.2.2.1 x.2.2.2.2.1 x.2.2.2.2.2 y.1.1 y.1.2.1 y.1.2.2 y.2.1.1 y.2.1.2.1 y.2.1.2.2 y.2.2.1.1 y.2.2.1.2.1 y.2.2.1.2.2 y.2.2.2.1 y.2.2.2.2.1 y.2.2.2.2.2 = some res) (sz : Nat) : CtV l yX9_copyFrom (mws yX9_copyFrom cX9_copyFrom 2 none) rm_X9_copyFrom 0 0 [.ref (a o), .ref (ay oy)] E (bl_Valley E a o x ++ bl_Valley E ay oy y) (bl_Valley E a o ((res.1, res.2.1, res.2.2.1), (res.2.2.2.1, res.2.2.2.2.1, res.2.2.2.2.2.1), (res.2.2.2.2.2.2.1, res.2.2.2.2.2.2.2.1, res.2.2.2.2.2.2.2.2.1), (res.2.2.2.2.2.2.2.2.2.1, res.2.2.2.2.2.2.2.2.2.2.1, res.2.2.2.2.2.2.2.2.2.2.2)) ++ bl_Valley E ay oy y) sz := by
  refine mk_M (by decide +kernel) (Nat.le_of_ble_eq_true rfl) ?_
  intro p e s m below meth c A args Q ls hAe hsz hQ hx hb hr hml hin ha hown hlocks hA hz hzs hst hP hD hS hl
  have hown : s.vm.findClass RX9 = some m.cls := hown
  rw [hAe] at hQ
  subst hsz
  have hP : va_P E.1 vwCl (List.flatten [w_ValleyR a o, w_Key E a (o + 1) x.1, w_Bells E a (o + 2) x.2.1, w_Mel E a (o + 5) x.2.2.1, w_Cliffs E a (o + 9) x.2.2.2, w_ValleyR ay oy, w_Key E ay (oy + 1) y.1, w_Bells E ay (oy + 2) y.2.1, w_Mel E ay (oy + 5) y.2.2.1, w_Cliffs E ay (oy + 9) y.2.2.2]) s.heap := hP
  have hD : va_D A (List.flatten [w_ValleyR a o, w_Key E a (o + 1) x.1, w_Bells E a (o + 2) x.2.1, w_Mel E a (o + 5) x.2.2.1, w_Cliffs E a (o + 9) x.2.2.2, w_ValleyR ay oy, w_Key E ay (oy + 1) y.1, w_Bells E ay (oy + 2) y.2.1, w_Mel E ay (oy + 5) y.2.2.1, w_Cliffs E ay (oy + 9) y.2.2.2]) := hD
  have hl : lv_has ls 2 [(0, .ref (a o)), (1, .ref (ay oy))] := hl
  generalize hHe : s.heap = H at hP
  have hS : va_S A s.heap H [] := by rw [← hHe]; exact hS
  generalize ([] : List Loc) = locs at hS ⊢
  unfold f_X9_copyFrom at hF
  refine lv_aload_n hx hb dX9_copyFrom_0 rfl (lv_at hl 0 rfl) ?_
  refine va_get (D := E.1) (ci := 10) (v := .ref (a (o + 1))) (C := RX9) (T := TX9) (N := 4) hx hb ha in_X9 hown hst.k hP 0 rfl rfl 0 (by decide) (ha _ mw150) (fun _ h9 => h9) rfl dX9_copyFrom_1 ?_
  refine lv_aload_n hx hb dX9_copyFrom_4 rfl (lv_at hl 1 rfl) ?_
  refine va_get (D := E.1) (ci := 10) (v := .ref (ay (oy + 1))) (C := RX9) (T := TX9) (N := 4) hx hb ha in_X9 hown hst.k hP 12 rfl rfl 0 (by decide) (ha _ mw150) (fun _ h9 => h9) rfl dX9_copyFrom_5 ?_
  obtain ⟨q1, hq1, hF⟩ := q_bdi hF
  refine cl_v (Lc := [w_Key E a (o + 1) x.1, w_Key E ay (oy + 1) y.1]) (Lc' := [w_Key E a (o + 1) (q1.1, q1.2.1, q1.2.2), w_Key E ay (oy + 1) y.1]) (L' := [w_ValleyR a o, w_Key E a (o + 1) (q1.1, q1.2.1, q1.2.2), w_Bells E a (o + 2) x.2.1, w_Mel E a (o + 5) x.2.2.1, w_Cliffs E a (o + 9) x.2.2.2, w_ValleyR ay oy, w_Key E ay (oy + 1) y.1, w_Bells E ay (oy + 2) y.2.1, w_Mel E ay (oy + 5) y.2.2.1, w_Cliffs E ay (oy + 9) y.2.2.2]) (va_runV (As := [.ref (ay (oy + 1))]) (rest := []) ⟨hx, hb, hml, hown, ha⟩ (k_X6_copyFrom l E a (o + 1) x.1 ay (oy + 1) y.1 q1 hq1 H.size) (cwV 1 ha (gi_V (fun _ h => h) mw333 mw334 mw335 mw28 mw336) rfl rfl rfl hv_X6_copyFrom ⟨(Nat.le_of_ble_eq_true rfl), (Nat.le_of_ble_eq_true rfl)⟩) ⟨pre_blind, va_recv hst.k (fr_P hP [1, 6] rfl) (ci := 7) (q0 := 0) rfl rfl, pre_at hP hD hS hz hzs hst [1, 6] (by decide) rfl rfl⟩ rfl rfl hl.1 rfl (lv_room (Nat.le_of_ble_eq_true rfl)) dX9_copyFrom_8 ⟨(Nat.le_of_ble_eq_true rfl), (Nat.le_of_ble_eq_true rfl)⟩) hP hD hS hA [1, 6] (by decide) rfl rfl rfl rfl (fun H locs hP hD hS => ?_)
  refine lv_aload_n hx hb dX9_copyFrom_11 rfl (lv_at hl 0 rfl) ?_
  refine va_get (D := E.1) (ci := 10) (v := .ref (a (o + 2))) (C := RX9) (T := TX9) (N := 4) hx hb ha in_X9 hown hst.k hP 0 rfl rfl 1 (by decide) (ha _ mw152) (fun _ h9 => h9) rfl dX9_copyFrom_12 ?_
  refine lv_aload_n hx hb dX9_copyFrom_15 rfl (lv_at hl 1 rfl) ?_
  refine va_get (D := E.1) (ci := 10) (v := .ref (ay (oy + 2))) (C := RX9) (T := TX9) (N := 4) hx hb ha in_X9 hown hst.k hP 12 rfl rfl 1 (by decide) (ha _ mw152) (fun _ h9 => h9) rfl dX9_copyFrom_16 ?_
  obtain ⟨q2, hq2, hF⟩ := q_bdi hF
  refine cl_v (Lc := [w_Bells E a (o + 2) x.2.1, w_Bells E ay (oy + 2) y.2.1]) (Lc' := [w_Bells E a (o + 2) (q2.1, q2.2.1, q2.2.2), w_Bells E ay (oy + 2) y.2.1]) (L' := [w_ValleyR a o, w_Key E a (o + 1) (q1.1, q1.2.1, q1.2.2), w_Bells E a (o + 2) (q2.1, q2.2.1, q2.2.2), w_Mel E a (o + 5) x.2.2.1, w_Cliffs E a (o + 9) x.2.2.2, w_ValleyR ay oy, w_Key E ay (oy + 1) y.1, w_Bells E ay (oy + 2) y.2.1, w_Mel E ay (oy + 5) y.2.2.1, w_Cliffs E ay (oy + 9) y.2.2.2]) (va_runV (As := [.ref (ay (oy + 2))]) (rest := []) ⟨hx, hb, hml, hown, ha⟩ (k_X1_copyFrom l E a (o + 2) x.2.1 ay (oy + 2) y.2.1 q2 hq2 H.size) (cwV 1 ha (gi_V (fun _ h => h) mw337 mw338 mw339 mw29 mw340) rfl rfl rfl hv_X1_copyFrom ⟨(Nat.le_of_ble_eq_true rfl), (Nat.le_of_ble_eq_true rfl)⟩) ⟨pre_blind, va_recv hst.k (fr_P hP [2, 7] rfl) (ci := 3) (q0 := 0) rfl rfl, pre_at hP hD hS hz hzs hst [2, 7] (by decide) rfl rfl⟩ rfl rfl hl.1 rfl (lv_room (Nat.le_of_ble_eq_true rfl)) dX9_copyFrom_19 ⟨(Nat.le_of_ble_eq_true rfl), (Nat.le_of_ble_eq_true rfl)⟩) hP hD hS hA [2, 7] (by decide) rfl rfl rfl rfl (fun H locs hP hD hS => ?_)
  refine lv_aload_n hx hb dX9_copyFrom_22 rfl (lv_at hl 0 rfl) ?_
  refine va_get (D := E.1) (ci := 10) (v := .ref (a (o + 5))) (C := RX9) (T := TX9) (N := 4) hx hb ha in_X9 hown hst.k hP 0 rfl rfl 2 (by decide) (ha _ mw155) (fun _ h9 => h9) rfl dX9_copyFrom_23 ?_
  refine lv_aload_n hx hb dX9_copyFrom_26 rfl (lv_at hl 1 rfl) ?_
  refine va_get (D := E.1) (ci := 10) (v := .ref (ay (oy + 5))) (C := RX9) (T := TX9) (N := 4) hx hb ha in_X9 hown hst.k hP 12 rfl rfl 2 (by decide) (ha _ mw155) (fun _ h9 => h9) rfl dX9_copyFrom_27 ?_
  obtain ⟨q3, hq3, hF⟩ := q_bdi hF
  refine cl_v (Lc := [w_Mel E a (o + 5) x.2.2.1, w_Mel E ay (oy + 5) y.2.2.1]) (Lc' := [w_Mel E a (o + 5) (q3.1, q3.2.1, q3.2.2), w_Mel E ay (oy + 5) y.2.2.1]) (L' := [w_ValleyR a o, w_Key E a (o + 1) (q1.1, q1.2.1, q1.2.2), w_Bells E a (o + 2) (q2.1, q2.2.1, q2.2.2), w_Mel E a (o + 5) (q3.1, q3.2.1, q3.2.2), w_Cliffs E a (o + 9) x.2.2.2, w_ValleyR ay oy, w_Key E ay (oy + 1) y.1, w_Bells E ay (oy + 2) y.2.1, w_Mel E ay (oy + 5) y.2.2.1, w_Cliffs E ay (oy + 9) y.2.2.2]) (va_runV (As := [.ref (ay (oy + 5))]) (rest := []) ⟨hx, hb, hml, hown, ha⟩ (k_X7_copyFrom l E a (o + 5) x.2.2.1 ay (oy + 5) y.2.2.1 q3 hq3 H.size) (cwV 1 ha (gi_V (fun _ h => h) mw344 mw345 mw346 mw30 mw347) rfl rfl rfl hv_X7_copyFrom ⟨(Nat.le_of_ble_eq_true rfl), (Nat.le_of_ble_eq_true rfl)⟩) ⟨pre_blind, va_recv hst.k (fr_P hP [3, 8] rfl) (ci := 8) (q0 := 0) rfl rfl, pre_at hP hD hS hz hzs hst [3, 8] (by decide) rfl rfl⟩ rfl rfl hl.1 rfl (lv_room (Nat.le_of_ble_eq_true rfl)) dX9_copyFrom_30 ⟨(Nat.le_of_ble_eq_true rfl), (Nat.le_of_ble_eq_true rfl)⟩) hP hD hS hA [3, 8] (by decide) rfl rfl rfl rfl (fun H locs hP hD hS => ?_)
  refine lv_aload_n hx hb dX9_copyFrom_33 rfl (lv_at hl 0 rfl) ?_
  refine va_get (D := E.1) (ci := 10) (v := .ref (a (o + 9))) (C := RX9) (T := TX9) (N := 4) hx hb ha in_X9 hown hst.k hP 0 rfl rfl 3 (by decide) (ha _ mw158) (fun _ h9 => h9) rfl dX9_copyFrom_34 ?_
  refine lv_aload_n hx hb dX9_copyFrom_37 rfl (lv_at hl 1 rfl) ?_
  refine va_get (D := E.1) (ci := 10) (v := .ref (ay (oy + 9))) (C := RX9) (T := TX9) (N := 4) hx hb ha in_X9 hown hst.k hP 12 rfl rfl 3 (by decide) (ha _ mw158) (fun _ h9 => h9) rfl dX9_copyFrom_38 ?_
  obtain ⟨q4, hq4, hF⟩ := q_bdi hF
  refine cl_v (Lc := [w_Cliffs E a (o + 9) x.2.2.2, w_Cliffs E ay (oy + 9) y.2.2.2]) (Lc' := [w_Cliffs E a (o + 9) (q4.1, q4.2.1, q4.2.2), w_Cliffs E ay (oy + 9) y.2.2.2]) (L' := [w_ValleyR a o, w_Key E a (o + 1) (q1.1, q1.2.1, q1.2.2), w_Bells E a (o + 2) (q2.1, q2.2.1, q2.2.2), w_Mel E a (o + 5) (q3.1, q3.2.1, q3.2.2), w_Cliffs E a (o + 9) (q4.1, q4.2.1, q4.2.2), w_ValleyR ay oy, w_Key E ay (oy + 1) y.1, w_Bells E ay (oy + 2) y.2.1, w_Mel E ay (oy + 5) y.2.2.1, w_Cliffs E ay (oy + 9) y.2.2.2]) (va_runV (As := [.ref (ay (oy + 9))]) (rest := []) ⟨hx, hb, hml, hown, ha⟩ (k_X3_copyFrom l E a (o + 9) x.2.2.2 ay (oy + 9) y.2.2.2 q4 hq4 H.size) (cwV 1 ha (gi_V (fun _ h => h) mw349 mw350 mw351 mw31 mw352) rfl rfl rfl hv_X3_copyFrom ⟨(Nat.le_of_ble_eq_true rfl), (Nat.le_of_ble_eq_true rfl)⟩) ⟨pre_blind, va_recv hst.k (fr_P hP [4, 9] rfl) (ci := 5) (q0 := 0) rfl rfl, pre_at hP hD hS hz hzs hst [4, 9] (by decide) rfl rfl⟩ rfl rfl hl.1 rfl (lv_room (Nat.le_of_ble_eq_true rfl)) dX9_copyFrom_41 ⟨(Nat.le_of_ble_eq_true rfl), (Nat.le_of_ble_eq_true rfl)⟩) hP hD hS hA [4, 9] (by decide) rfl rfl rfl rfl (fun H locs hP hD hS => ?_)
  obtain rfl := Option.some.inj hF
  exact en_v hQ (Nat.le_of_ble_eq_true rfl) (Nat.le_of_ble_eq_true rfl) hx hb hr hlocks hP hD hS dX9_copyFrom_44

/-! X9_takeAway -/
theorem dX9_takeAway_0 : decode cX9_takeAway 0 = .ok (.aload_n 0, 1) := by decide +kernel
theorem dX9_takeAway_1 : decode cX9_takeAway 1 = .ok (.getfield 21, 3) := by decide +kernel
theorem dX9_takeAway_4 : decode cX9_takeAway 4 = .ok (.iload_n 1, 1) := by decide +kernel
theorem dX9_takeAway_5 : decode cX9_takeAway 5 = .ok (.invokevirtual 109, 3) := by decide +kernel
theorem dX9_takeAway_8 : decode cX9_takeAway 8 = .ok (.ifCond .ne 5, 3) := by decide +kernel
theorem dX9_takeAway_11 : decode cX9_takeAway 11 = .ok (.iconst (-1), 1) := by decide +kernel
theorem dX9_takeAway_12 : decode cX9_takeAway 12 = .ok (.ireturn, 1) := by decide +kernel
theorem dX9_takeAway_13 : decode cX9_takeAway 13 = .ok (.aload_n 0, 1) := by decide +kernel
theorem dX9_takeAway_14 : decode cX9_takeAway 14 = .ok (.getfield 21, 3) := by decide +kernel
theorem dX9_takeAway_17 : decode cX9_takeAway 17 = .ok (.iload_n 1, 1) := by decide +kernel
theorem dX9_takeAway_18 : decode cX9_takeAway 18 = .ok (.invokevirtual 113, 3) := by decide +kernel
theorem dX9_takeAway_21 : decode cX9_takeAway 21 = .ok (.aload_n 0, 1) := by decide +kernel
theorem dX9_takeAway_22 : decode cX9_takeAway 22 = .ok (.getfield 28, 3) := by decide +kernel
theorem dX9_takeAway_25 : decode cX9_takeAway 25 = .ok (.iload_n 1, 1) := by decide +kernel
theorem dX9_takeAway_26 : decode cX9_takeAway 26 = .ok (.invokevirtual 117, 3) := by decide +kernel
theorem dX9_takeAway_29 : decode cX9_takeAway 29 = .ok (.ireturn, 1) := by decide +kernel
def f_X9_takeAway (x_bells_herds : (Nat → Int32)) (x_bells_pitches : (Nat → Int32)) (x_bells_count : Int32) (x_melodies_lengths : (Nat → Int32)) (x_melodies_tones : (Nat → Int32)) (p1 : Int32) : Option (Int32 × (Nat → Int32) × (Nat → Int32) × Int32 × (Nat → Int32) × (Nat → Int32)) :=
  q_bd (f_X1_has x_bells_count p1) (fun q1 =>
  q_br (q1 = 0) (
  some ((-1), x_bells_herds, x_bells_pitches, x_bells_count, x_melodies_lengths, x_melodies_tones)) (
  q_bd (f_X1_takeDown x_bells_herds x_bells_pitches x_bells_count p1) (fun q2 =>
  q_bd (f_X7_forgetBell x_melodies_lengths x_melodies_tones p1) (fun q3 =>
  some (q3.1, q2.1, q2.2.1, q2.2.2, q3.2.1, q3.2.2)))))
theorem hv_X9_takeAway : yX9_takeAway.cls = RX9 ∧ yX9_takeAway.cls ≠ "java/lang/invoke/MethodHandle" ∧ yX9_takeAway.cls ≠ "java/lang/invoke/VarHandle" ∧ (parseMethodDescriptor yX9_takeAway.desc).map (fun d => d.parameters.length) = some 1 := by decide +kernel
abbrev rm_X9_takeAway : Room := { frames := 2, cells := 0, slots := 0, locals := 50 }
set_option maxHeartbeats 4000000 in
set_option maxRecDepth 100000 in
theorem k_X9_takeAway (l : Launch) (E : ET) (a : Nat → Nat) (o : Nat) (x : Valley_t) (p1 : Int32) (res : Int32 × (Nat → Int32) × (Nat → Int32) × Int32 × (Nat → Int32) × (Nat → Int32)) (hF : f_X9_takeAway x.2.1.1 x.2.1.2.1 x.2.1.2.2 x.2.2.1.1 x.2.2.1.2.2 p1 = some res) (sz : Nat) : CtI l yX9_takeAway (mws yX9_takeAway cX9_takeAway 2 (some .int)) rm_X9_takeAway 0 0 [.ref (a o), .int p1] E (bl_Valley E a o x) res.1 (bl_Valley E a o (x.1, (res.2.1, res.2.2.1, res.2.2.2.1), (res.2.2.2.2.1, x.2.2.1.2.1, res.2.2.2.2.2), x.2.2.2)) sz := by
  refine mk_M (by decide +kernel) (Nat.le_of_ble_eq_true rfl) ?_
  intro p e s m below meth c A args Q ls hAe hsz hQ hx hb hr hml hin ha hown hlocks hA hz hzs hst hP hD hS hl
  have hown : s.vm.findClass RX9 = some m.cls := hown
  rw [hAe] at hQ
  subst hsz
  have hP : va_P E.1 vwCl (List.flatten [w_ValleyR a o, w_Key E a (o + 1) x.1, w_Bells E a (o + 2) x.2.1, w_Mel E a (o + 5) x.2.2.1, w_Cliffs E a (o + 9) x.2.2.2]) s.heap := hP
  have hD : va_D A (List.flatten [w_ValleyR a o, w_Key E a (o + 1) x.1, w_Bells E a (o + 2) x.2.1, w_Mel E a (o + 5) x.2.2.1, w_Cliffs E a (o + 9) x.2.2.2]) := hD
  have hl : lv_has ls 2 [(0, .ref (a o)), (1, .int p1)] := hl
  generalize hHe : s.heap = H at hP
  have hS : va_S A s.heap H [] := by rw [← hHe]; exact hS
  generalize ([] : List Loc) = locs at hS ⊢
  unfold f_X9_takeAway at hF
  refine lv_aload_n hx hb dX9_takeAway_0 rfl (lv_at hl 0 rfl) ?_
  refine va_get (D := E.1) (ci := 10) (v := .ref (a (o + 2))) (C := RX9) (T := TX9) (N := 4) hx hb ha in_X9 hown hst.k hP 0 rfl rfl 1 (by decide) (ha _ mw152) (fun _ h9 => h9) rfl dX9_takeAway_1 ?_
  refine lv_iload_n hx hb dX9_takeAway_4 rfl (lv_at hl 1 rfl) ?_
  obtain ⟨q1, hq1, hF⟩ := q_bdi hF
  refine cl_i (Lc := [w_Bells E a (o + 2) x.2.1]) (Lc' := [w_Bells E a (o + 2) x.2.1]) (L' := [w_ValleyR a o, w_Key E a (o + 1) x.1, w_Bells E a (o + 2) x.2.1, w_Mel E a (o + 5) x.2.2.1, w_Cliffs E a (o + 9) x.2.2.2]) (rv := q1) (va_runV (As := [.int p1]) (rest := []) ⟨hx, hb, hml, hown, ha⟩ (k_X1_has l E a (o + 2) x.2.1 p1 q1 hq1 H.size) (cwV 1 ha (gi_V (fun _ h => h) mw381 mw382 mw383 mw29 mw384) rfl rfl rfl hv_X1_has ⟨(Nat.le_of_ble_eq_true rfl), (Nat.le_of_ble_eq_true rfl)⟩) ⟨pre_blind, va_recv hst.k (fr_P hP [2] rfl) (ci := 3) (q0 := 0) rfl rfl, pre_at hP hD hS hz hzs hst [2] (by decide) rfl rfl⟩ rfl rfl hl.1 rfl (lv_room (Nat.le_of_ble_eq_true rfl)) dX9_takeAway_5 ⟨(Nat.le_of_ble_eq_true rfl), (Nat.le_of_ble_eq_true rfl)⟩) hP hD hS hA [2] (by decide) rfl rfl rfl rfl (fun H locs hP hD hS => ?_)
  refine lv_if_ne (tgt := 13) hx hb dX9_takeAway_8 (by decide) (fun c8 => ?_) (fun c8 => ?_)
  · have hF := q_brn c8 hF
    refine lv_aload_n hx hb dX9_takeAway_13 rfl (lv_at hl 0 rfl) ?_
    refine va_get (D := E.1) (ci := 10) (v := .ref (a (o + 2))) (C := RX9) (T := TX9) (N := 4) hx hb ha in_X9 hown hst.k hP 0 rfl rfl 1 (by decide) (ha _ mw152) (fun _ h9 => h9) rfl dX9_takeAway_14 ?_
    refine lv_iload_n hx hb dX9_takeAway_17 rfl (lv_at hl 1 rfl) ?_
    obtain ⟨q2, hq2, hF⟩ := q_bdi hF
    refine cl_v (Lc := [w_Bells E a (o + 2) x.2.1]) (Lc' := [w_Bells E a (o + 2) (q2.1, q2.2.1, q2.2.2)]) (L' := [w_ValleyR a o, w_Key E a (o + 1) x.1, w_Bells E a (o + 2) (q2.1, q2.2.1, q2.2.2), w_Mel E a (o + 5) x.2.2.1, w_Cliffs E a (o + 9) x.2.2.2]) (va_runV (As := [.int p1]) (rest := []) ⟨hx, hb, hml, hown, ha⟩ (k_X1_takeDown l E a (o + 2) x.2.1 p1 q2 hq2 H.size) (cwV 1 ha (gi_V (fun _ h => h) mw385 mw386 mw387 mw29 mw388) rfl rfl rfl hv_X1_takeDown ⟨(Nat.le_of_ble_eq_true rfl), (Nat.le_of_ble_eq_true rfl)⟩) ⟨pre_blind, va_recv hst.k (fr_P hP [2] rfl) (ci := 3) (q0 := 0) rfl rfl, pre_at hP hD hS hz hzs hst [2] (by decide) rfl rfl⟩ rfl rfl hl.1 rfl (lv_room (Nat.le_of_ble_eq_true rfl)) dX9_takeAway_18 ⟨(Nat.le_of_ble_eq_true rfl), (Nat.le_of_ble_eq_true rfl)⟩) hP hD hS hA [2] (by decide) rfl rfl rfl rfl (fun H locs hP hD hS => ?_)
    refine lv_aload_n hx hb dX9_takeAway_21 rfl (lv_at hl 0 rfl) ?_
    refine va_get (D := E.1) (ci := 10) (v := .ref (a (o + 5))) (C := RX9) (T := TX9) (N := 4) hx hb ha in_X9 hown hst.k hP 0 rfl rfl 2 (by decide) (ha _ mw155) (fun _ h9 => h9) rfl dX9_takeAway_22 ?_
    refine lv_iload_n hx hb dX9_takeAway_25 rfl (lv_at hl 1 rfl) ?_
    obtain ⟨q3, hq3, hF⟩ := q_bdi hF
    refine cl_i (Lc := [w_Mel E a (o + 5) x.2.2.1]) (Lc' := [w_Mel E a (o + 5) (q3.2.1, x.2.2.1.2.1, q3.2.2)]) (L' := [w_ValleyR a o, w_Key E a (o + 1) x.1, w_Bells E a (o + 2) (q2.1, q2.2.1, q2.2.2), w_Mel E a (o + 5) (q3.2.1, x.2.2.1.2.1, q3.2.2), w_Cliffs E a (o + 9) x.2.2.2]) (rv := q3.1) (va_runV (As := [.int p1]) (rest := []) ⟨hx, hb, hml, hown, ha⟩ (k_X7_forgetBell l E a (o + 5) x.2.2.1 p1 q3 hq3 H.size) (cwV 1 ha (gi_V (fun _ h => h) mw389 mw390 mw391 mw30 mw392) rfl rfl rfl hv_X7_forgetBell ⟨(Nat.le_of_ble_eq_true rfl), (Nat.le_of_ble_eq_true rfl)⟩) ⟨pre_blind, va_recv hst.k (fr_P hP [3] rfl) (ci := 8) (q0 := 0) rfl rfl, pre_at hP hD hS hz hzs hst [3] (by decide) rfl rfl⟩ rfl rfl hl.1 rfl (lv_room (Nat.le_of_ble_eq_true rfl)) dX9_takeAway_26 ⟨(Nat.le_of_ble_eq_true rfl), (Nat.le_of_ble_eq_true rfl)⟩) hP hD hS hA [3] (by decide) rfl rfl rfl rfl (fun H locs hP hD hS => ?_)
    obtain rfl := Option.some.inj hF
    exact en_i hQ (Nat.le_of_ble_eq_true rfl) (Nat.le_of_ble_eq_true rfl) hx hb hr hlocks hP hD hS rfl dX9_takeAway_29
  · have hF := q_brp c8 hF
    refine lv_iconst (v := (-1)) hx hb dX9_takeAway_11 (by decide) ?_
    obtain rfl := Option.some.inj hF
    exact en_i hQ (Nat.le_of_ble_eq_true rfl) (Nat.le_of_ble_eq_true rfl) hx hb hr hlocks hP hD hS rfl dX9_takeAway_12

/-! X9_noteAt -/
theorem dX9_noteAt_0 : decode cX9_noteAt 0 = .ok (.aload_n 0, 1) := by decide +kernel
theorem dX9_noteAt_1 : decode cX9_noteAt 1 = .ok (.getfield 21, 3) := by decide +kernel
theorem dX9_noteAt_4 : decode cX9_noteAt 4 = .ok (.aload_n 0, 1) := by decide +kernel
theorem dX9_noteAt_5 : decode cX9_noteAt 5 = .ok (.getfield 28, 3) := by decide +kernel
theorem dX9_noteAt_8 : decode cX9_noteAt 8 = .ok (.iload_n 1, 1) := by decide +kernel
theorem dX9_noteAt_9 : decode cX9_noteAt 9 = .ok (.iload_n 2, 1) := by decide +kernel
theorem dX9_noteAt_10 : decode cX9_noteAt 10 = .ok (.invokevirtual 130, 3) := by decide +kernel
theorem dX9_noteAt_13 : decode cX9_noteAt 13 = .ok (.invokevirtual 133, 3) := by decide +kernel
theorem dX9_noteAt_16 : decode cX9_noteAt 16 = .ok (.ireturn, 1) := by decide +kernel
def f_X9_noteAt (x_bells_pitches : (Nat → Int32)) (x_melodies_tones : (Nat → Int32)) (p1 : Int32) (p2 : Int32) : Option (Int32) :=
  q_bd (f_X7_bellOf x_melodies_tones p1 p2) (fun q1 =>
  q_bd (f_X1_noteOf x_bells_pitches q1) (fun q2 =>
  some q2))
theorem hv_X9_noteAt : yX9_noteAt.cls = RX9 ∧ yX9_noteAt.cls ≠ "java/lang/invoke/MethodHandle" ∧ yX9_noteAt.cls ≠ "java/lang/invoke/VarHandle" ∧ (parseMethodDescriptor yX9_noteAt.desc).map (fun d => d.parameters.length) = some 2 := by decide +kernel
abbrev rm_X9_noteAt : Room := { frames := 3, cells := 0, slots := 0, locals := 63 }
set_option maxHeartbeats 4000000 in
set_option maxRecDepth 100000 in
theorem k_X9_noteAt (l : Launch) (E : ET) (a : Nat → Nat) (o : Nat) (x : Valley_t) (p1 : Int32) (p2 : Int32) (res : Int32) (hF : f_X9_noteAt x.2.1.2.1 x.2.2.1.2.2 p1 p2 = some res) (sz : Nat) : CtI l yX9_noteAt (mws yX9_noteAt cX9_noteAt 3 (some .int)) rm_X9_noteAt 0 0 [.ref (a o), .int p1, .int p2] E (bl_Valley E a o x) res (bl_Valley E a o x) sz := by
  refine mk_M (by decide +kernel) (Nat.le_of_ble_eq_true rfl) ?_
  intro p e s m below meth c A args Q ls hAe hsz hQ hx hb hr hml hin ha hown hlocks hA hz hzs hst hP hD hS hl
  have hown : s.vm.findClass RX9 = some m.cls := hown
  rw [hAe] at hQ
  subst hsz
  have hP : va_P E.1 vwCl (List.flatten [w_ValleyR a o, w_Key E a (o + 1) x.1, w_Bells E a (o + 2) x.2.1, w_Mel E a (o + 5) x.2.2.1, w_Cliffs E a (o + 9) x.2.2.2]) s.heap := hP
  have hD : va_D A (List.flatten [w_ValleyR a o, w_Key E a (o + 1) x.1, w_Bells E a (o + 2) x.2.1, w_Mel E a (o + 5) x.2.2.1, w_Cliffs E a (o + 9) x.2.2.2]) := hD
  have hl : lv_has ls 3 [(0, .ref (a o)), (1, .int p1), (2, .int p2)] := hl
  generalize hHe : s.heap = H at hP
  have hS : va_S A s.heap H [] := by rw [← hHe]; exact hS
  generalize ([] : List Loc) = locs at hS ⊢
  unfold f_X9_noteAt at hF
  refine lv_aload_n hx hb dX9_noteAt_0 rfl (lv_at hl 0 rfl) ?_
  refine va_get (D := E.1) (ci := 10) (v := .ref (a (o + 2))) (C := RX9) (T := TX9) (N := 4) hx hb ha in_X9 hown hst.k hP 0 rfl rfl 1 (by decide) (ha _ mw152) (fun _ h9 => h9) rfl dX9_noteAt_1 ?_
  refine lv_aload_n hx hb dX9_noteAt_4 rfl (lv_at hl 0 rfl) ?_
  refine va_get (D := E.1) (ci := 10) (v := .ref (a (o + 5))) (C := RX9) (T := TX9) (N := 4) hx hb ha in_X9 hown hst.k hP 0 rfl rfl 2 (by decide) (ha _ mw155) (fun _ h9 => h9) rfl dX9_noteAt_5 ?_
  refine lv_iload_n hx hb dX9_noteAt_8 rfl (lv_at hl 1 rfl) ?_
  refine lv_iload_n hx hb dX9_noteAt_9 rfl (lv_at hl 2 rfl) ?_
  obtain ⟨q1, hq1, hF⟩ := q_bdi hF
  refine cl_i (Lc := [w_Mel E a (o + 5) x.2.2.1]) (Lc' := [w_Mel E a (o + 5) x.2.2.1]) (L' := [w_ValleyR a o, w_Key E a (o + 1) x.1, w_Bells E a (o + 2) x.2.1, w_Mel E a (o + 5) x.2.2.1, w_Cliffs E a (o + 9) x.2.2.2]) (rv := q1) (va_runV (As := [.int p1, .int p2]) (rest := [.ref (a (o + 2))]) ⟨hx, hb, hml, hown, ha⟩ (k_X7_bellOf l E a (o + 5) x.2.2.1 p1 p2 q1 hq1 H.size) (cwV 2 ha (gi_V (fun _ h => h) mw837 mw818 mw819 mw30 mw820) rfl rfl rfl hv_X7_bellOf ⟨(Nat.le_of_ble_eq_true rfl), (Nat.le_of_ble_eq_true rfl)⟩) ⟨pre_blind, va_recv hst.k (fr_P hP [3] rfl) (ci := 8) (q0 := 0) rfl rfl, pre_at hP hD hS hz hzs hst [3] (by decide) rfl rfl⟩ rfl rfl hl.1 rfl (lv_room (Nat.le_of_ble_eq_true rfl)) dX9_noteAt_10 ⟨(Nat.le_of_ble_eq_true rfl), (Nat.le_of_ble_eq_true rfl)⟩) hP hD hS hA [3] (by decide) rfl rfl rfl rfl (fun H locs hP hD hS => ?_)
  obtain ⟨q2, hq2, hF⟩ := q_bdi hF
  refine cl_i (Lc := [w_Bells E a (o + 2) x.2.1]) (Lc' := [w_Bells E a (o + 2) x.2.1]) (L' := [w_ValleyR a o, w_Key E a (o + 1) x.1, w_Bells E a (o + 2) x.2.1, w_Mel E a (o + 5) x.2.2.1, w_Cliffs E a (o + 9) x.2.2.2]) (rv := q2) (va_runV (As := [.int q1]) (rest := []) ⟨hx, hb, hml, hown, ha⟩ (k_X1_noteOf l E a (o + 2) x.2.1 q1 q2 hq2 H.size) (cwV 1 ha (gi_V (fun _ h => h) mw838 mw670 mw671 mw29 mw672) rfl rfl rfl hv_X1_noteOf ⟨(Nat.le_of_ble_eq_true rfl), (Nat.le_of_ble_eq_true rfl)⟩) ⟨pre_blind, va_recv hst.k (fr_P hP [2] rfl) (ci := 3) (q0 := 0) rfl rfl, pre_at hP hD hS hz hzs hst [2] (by decide) rfl rfl⟩ rfl rfl hl.1 rfl (lv_room (Nat.le_of_ble_eq_true rfl)) dX9_noteAt_13 ⟨(Nat.le_of_ble_eq_true rfl), (Nat.le_of_ble_eq_true rfl)⟩) hP hD hS hA [2] (by decide) rfl rfl rfl rfl (fun H locs hP hD hS => ?_)
  obtain rfl := Option.some.inj hF
  exact en_i hQ (Nat.le_of_ble_eq_true rfl) (Nat.le_of_ble_eq_true rfl) hx hb hr hlocks hP hD hS rfl dX9_noteAt_16

/-! X9_intervalAt -/
theorem dX9_intervalAt_0 : decode cX9_intervalAt 0 = .ok (.aload_n 0, 1) := by decide +kernel
theorem dX9_intervalAt_1 : decode cX9_intervalAt 1 = .ok (.iload_n 2, 1) := by decide +kernel
theorem dX9_intervalAt_2 : decode cX9_intervalAt 2 = .ok (.iload_n 3, 1) := by decide +kernel
theorem dX9_intervalAt_3 : decode cX9_intervalAt 3 = .ok (.invokevirtual 127, 3) := by decide +kernel
theorem dX9_intervalAt_6 : decode cX9_intervalAt 6 = .ok (.aload_n 0, 1) := by decide +kernel
theorem dX9_intervalAt_7 : decode cX9_intervalAt 7 = .ok (.iload_n 1, 1) := by decide +kernel
theorem dX9_intervalAt_8 : decode cX9_intervalAt 8 = .ok (.iload_n 3, 1) := by decide +kernel
theorem dX9_intervalAt_9 : decode cX9_intervalAt 9 = .ok (.invokevirtual 127, 3) := by decide +kernel
theorem dX9_intervalAt_12 : decode cX9_intervalAt 12 = .ok (.isub, 1) := by decide +kernel
theorem dX9_intervalAt_13 : decode cX9_intervalAt 13 = .ok (.ireturn, 1) := by decide +kernel
def f_X9_intervalAt (x_bells_pitches : (Nat → Int32)) (x_melodies_tones : (Nat → Int32)) (p1 : Int32) (p2 : Int32) (p3 : Int32) : Option (Int32) :=
  q_bd (f_X9_noteAt x_bells_pitches x_melodies_tones p2 p3) (fun q1 =>
  q_bd (f_X9_noteAt x_bells_pitches x_melodies_tones p1 p3) (fun q2 =>
  some (q1 - q2)))
theorem hv_X9_intervalAt : yX9_intervalAt.cls = RX9 ∧ yX9_intervalAt.cls ≠ "java/lang/invoke/MethodHandle" ∧ yX9_intervalAt.cls ≠ "java/lang/invoke/VarHandle" ∧ (parseMethodDescriptor yX9_intervalAt.desc).map (fun d => d.parameters.length) = some 3 := by decide +kernel
abbrev rm_X9_intervalAt : Room := { frames := 4, cells := 0, slots := 0, locals := 85 }
set_option maxHeartbeats 4000000 in
set_option maxRecDepth 100000 in
theorem k_X9_intervalAt (l : Launch) (E : ET) (a : Nat → Nat) (o : Nat) (x : Valley_t) (p1 : Int32) (p2 : Int32) (p3 : Int32) (res : Int32) (hF : f_X9_intervalAt x.2.1.2.1 x.2.2.1.2.2 p1 p2 p3 = some res) (sz : Nat) : CtI l yX9_intervalAt (mws yX9_intervalAt cX9_intervalAt 4 (some .int)) rm_X9_intervalAt 0 0 [.ref (a o), .int p1, .int p2, .int p3] E (bl_Valley E a o x) res (bl_Valley E a o x) sz := by
  refine mk_M (by decide +kernel) (Nat.le_of_ble_eq_true rfl) ?_
  intro p e s m below meth c A args Q ls hAe hsz hQ hx hb hr hml hin ha hown hlocks hA hz hzs hst hP hD hS hl
  have hown : s.vm.findClass RX9 = some m.cls := hown
  rw [hAe] at hQ
  subst hsz
  have hP : va_P E.1 vwCl (List.flatten [w_ValleyR a o, w_Key E a (o + 1) x.1, w_Bells E a (o + 2) x.2.1, w_Mel E a (o + 5) x.2.2.1, w_Cliffs E a (o + 9) x.2.2.2]) s.heap := hP
  have hD : va_D A (List.flatten [w_ValleyR a o, w_Key E a (o + 1) x.1, w_Bells E a (o + 2) x.2.1, w_Mel E a (o + 5) x.2.2.1, w_Cliffs E a (o + 9) x.2.2.2]) := hD
  have hl : lv_has ls 4 [(0, .ref (a o)), (1, .int p1), (2, .int p2), (3, .int p3)] := hl
  generalize hHe : s.heap = H at hP
  have hS : va_S A s.heap H [] := by rw [← hHe]; exact hS
  generalize ([] : List Loc) = locs at hS ⊢
  unfold f_X9_intervalAt at hF
  refine lv_aload_n hx hb dX9_intervalAt_0 rfl (lv_at hl 0 rfl) ?_
  refine lv_iload_n hx hb dX9_intervalAt_1 rfl (lv_at hl 2 rfl) ?_
  refine lv_iload_n hx hb dX9_intervalAt_2 rfl (lv_at hl 3 rfl) ?_
  obtain ⟨q1, hq1, hF⟩ := q_bdi hF
  refine cl_i (Lc := [w_ValleyR a o, w_Key E a (o + 1) x.1, w_Bells E a (o + 2) x.2.1, w_Mel E a (o + 5) x.2.2.1, w_Cliffs E a (o + 9) x.2.2.2]) (Lc' := [w_ValleyR a o, w_Key E a (o + 1) x.1, w_Bells E a (o + 2) x.2.1, w_Mel E a (o + 5) x.2.2.1, w_Cliffs E a (o + 9) x.2.2.2]) (L' := [w_ValleyR a o, w_Key E a (o + 1) x.1, w_Bells E a (o + 2) x.2.1, w_Mel E a (o + 5) x.2.2.1, w_Cliffs E a (o + 9) x.2.2.2]) (rv := q1) (va_runV (As := [.int p2, .int p3]) (rest := []) ⟨hx, hb, hml, hown, ha⟩ (k_X9_noteAt l E a o x p2 p3 q1 hq1 H.size) (cwV 2 ha (gi_V (fun _ h => h) mw833 mw835 mw10 mw27 mw836) rfl rfl rfl hv_X9_noteAt ⟨(Nat.le_of_ble_eq_true rfl), (Nat.le_of_ble_eq_true rfl)⟩) ⟨pre_blind, va_recv hst.k (fr_P hP [0, 1, 2, 3, 4] rfl) (ci := 10) (q0 := 0) rfl rfl, pre_at hP hD hS hz hzs hst [0, 1, 2, 3, 4] (by decide) rfl rfl⟩ rfl rfl hl.1 rfl (lv_room (Nat.le_of_ble_eq_true rfl)) dX9_intervalAt_3 ⟨(Nat.le_of_ble_eq_true rfl), (Nat.le_of_ble_eq_true rfl)⟩) hP hD hS hA [0, 1, 2, 3, 4] (by decide) rfl rfl rfl rfl (fun H locs hP hD hS => ?_)
  refine lv_aload_n hx hb dX9_intervalAt_6 rfl (lv_at hl 0 rfl) ?_
  refine lv_iload_n hx hb dX9_intervalAt_7 rfl (lv_at hl 1 rfl) ?_
  refine lv_iload_n hx hb dX9_intervalAt_8 rfl (lv_at hl 3 rfl) ?_
  obtain ⟨q2, hq2, hF⟩ := q_bdi hF
  refine cl_i (Lc := [w_ValleyR a o, w_Key E a (o + 1) x.1, w_Bells E a (o + 2) x.2.1, w_Mel E a (o + 5) x.2.2.1, w_Cliffs E a (o + 9) x.2.2.2]) (Lc' := [w_ValleyR a o, w_Key E a (o + 1) x.1, w_Bells E a (o + 2) x.2.1, w_Mel E a (o + 5) x.2.2.1, w_Cliffs E a (o + 9) x.2.2.2]) (L' := [w_ValleyR a o, w_Key E a (o + 1) x.1, w_Bells E a (o + 2) x.2.1, w_Mel E a (o + 5) x.2.2.1, w_Cliffs E a (o + 9) x.2.2.2]) (rv := q2) (va_runV (As := [.int p1, .int p3]) (rest := [.int q1]) ⟨hx, hb, hml, hown, ha⟩ (k_X9_noteAt l E a o x p1 p3 q2 hq2 H.size) (cwV 2 ha (gi_V (fun _ h => h) mw833 mw835 mw10 mw27 mw836) rfl rfl rfl hv_X9_noteAt ⟨(Nat.le_of_ble_eq_true rfl), (Nat.le_of_ble_eq_true rfl)⟩) ⟨pre_blind, va_recv hst.k (fr_P hP [0, 1, 2, 3, 4] rfl) (ci := 10) (q0 := 0) rfl rfl, pre_at hP hD hS hz hzs hst [0, 1, 2, 3, 4] (by decide) rfl rfl⟩ rfl rfl hl.1 rfl (lv_room (Nat.le_of_ble_eq_true rfl)) dX9_intervalAt_9 ⟨(Nat.le_of_ble_eq_true rfl), (Nat.le_of_ble_eq_true rfl)⟩) hP hD hS hA [0, 1, 2, 3, 4] (by decide) rfl rfl rfl rfl (fun H locs hP hD hS => ?_)
  refine lv_isub hx hb dX9_intervalAt_12 ?_
  obtain rfl := Option.some.inj hF
  exact en_i hQ (Nat.le_of_ble_eq_true rfl) (Nat.le_of_ble_eq_true rfl) hx hb hr hlocks hP hD hS rfl dX9_intervalAt_13

/-! X9_isCanon -/
theorem dX9_isCanon_0 : decode cX9_isCanon 0 = .ok (.aload_n 0, 1) := by decide +kernel
theorem dX9_isCanon_1 : decode cX9_isCanon 1 = .ok (.getfield 28, 3) := by decide +kernel
theorem dX9_isCanon_4 : decode cX9_isCanon 4 = .ok (.getfield 120, 3) := by decide +kernel
theorem dX9_isCanon_7 : decode cX9_isCanon 7 = .ok (.iload_n 1, 1) := by decide +kernel
theorem dX9_isCanon_8 : decode cX9_isCanon 8 = .ok (.iaload, 1) := by decide +kernel
theorem dX9_isCanon_9 : decode cX9_isCanon 9 = .ok (.istore_n 3, 1) := by decide +kernel
theorem dX9_isCanon_10 : decode cX9_isCanon 10 = .ok (.iload_n 3, 1) := by decide +kernel
theorem dX9_isCanon_11 : decode cX9_isCanon 11 = .ok (.ifCond .eq 16, 3) := by decide +kernel
theorem dX9_isCanon_14 : decode cX9_isCanon 14 = .ok (.iload_n 3, 1) := by decide +kernel
theorem dX9_isCanon_15 : decode cX9_isCanon 15 = .ok (.aload_n 0, 1) := by decide +kernel
theorem dX9_isCanon_16 : decode cX9_isCanon 16 = .ok (.getfield 28, 3) := by decide +kernel
theorem dX9_isCanon_19 : decode cX9_isCanon 19 = .ok (.getfield 120, 3) := by decide +kernel
theorem dX9_isCanon_22 : decode cX9_isCanon 22 = .ok (.iload_n 2, 1) := by decide +kernel
theorem dX9_isCanon_23 : decode cX9_isCanon 23 = .ok (.iaload, 1) := by decide +kernel
theorem dX9_isCanon_24 : decode cX9_isCanon 24 = .ok (.if_icmp .eq 5, 3) := by decide +kernel
theorem dX9_isCanon_27 : decode cX9_isCanon 27 = .ok (.iconst 0, 1) := by decide +kernel
theorem dX9_isCanon_28 : decode cX9_isCanon 28 = .ok (.ireturn, 1) := by decide +kernel
theorem dX9_isCanon_29 : decode cX9_isCanon 29 = .ok (.iconst 1, 1) := by decide +kernel
theorem dX9_isCanon_30 : decode cX9_isCanon 30 = .ok (.istore 4, 2) := by decide +kernel
theorem dX9_isCanon_32 : decode cX9_isCanon 32 = .ok (.iload 4, 2) := by decide +kernel
theorem dX9_isCanon_34 : decode cX9_isCanon 34 = .ok (.iload_n 3, 1) := by decide +kernel
theorem dX9_isCanon_35 : decode cX9_isCanon 35 = .ok (.if_icmp .ge 29, 3) := by decide +kernel
theorem dX9_isCanon_38 : decode cX9_isCanon 38 = .ok (.aload_n 0, 1) := by decide +kernel
theorem dX9_isCanon_39 : decode cX9_isCanon 39 = .ok (.iload_n 1, 1) := by decide +kernel
theorem dX9_isCanon_40 : decode cX9_isCanon 40 = .ok (.iload_n 2, 1) := by decide +kernel
theorem dX9_isCanon_41 : decode cX9_isCanon 41 = .ok (.iload 4, 2) := by decide +kernel
theorem dX9_isCanon_43 : decode cX9_isCanon 43 = .ok (.invokevirtual 123, 3) := by decide +kernel
theorem dX9_isCanon_46 : decode cX9_isCanon 46 = .ok (.aload_n 0, 1) := by decide +kernel
theorem dX9_isCanon_47 : decode cX9_isCanon 47 = .ok (.iload_n 1, 1) := by decide +kernel
theorem dX9_isCanon_48 : decode cX9_isCanon 48 = .ok (.iload_n 2, 1) := by decide +kernel
theorem dX9_isCanon_49 : decode cX9_isCanon 49 = .ok (.iconst 0, 1) := by decide +kernel
theorem dX9_isCanon_50 : decode cX9_isCanon 50 = .ok (.invokevirtual 123, 3) := by decide +kernel
theorem dX9_isCanon_53 : decode cX9_isCanon 53 = .ok (.if_icmp .eq 5, 3) := by decide +kernel
theorem dX9_isCanon_56 : decode cX9_isCanon 56 = .ok (.iconst 0, 1) := by decide +kernel
theorem dX9_isCanon_57 : decode cX9_isCanon 57 = .ok (.ireturn, 1) := by decide +kernel
theorem dX9_isCanon_58 : decode cX9_isCanon 58 = .ok (.iinc 4 1, 3) := by decide +kernel
theorem dX9_isCanon_61 : decode cX9_isCanon 61 = .ok (.goto (-29), 3) := by decide +kernel
theorem dX9_isCanon_64 : decode cX9_isCanon 64 = .ok (.iconst 1, 1) := by decide +kernel
theorem dX9_isCanon_65 : decode cX9_isCanon 65 = .ok (.ireturn, 1) := by decide +kernel
def f_X9_isCanon_L32 (x_bells_pitches : (Nat → Int32)) (x_melodies_tones : (Nat → Int32)) (p1 : Int32) (p2 : Int32) (v2 : Int32) : Nat → Int32 → Option (Int32)
  | 0, _ => none
  | n32 + 1, i4 =>
    q_br (v2 ≤ i4) (
  some 1) (
  q_bd (f_X9_intervalAt x_bells_pitches x_melodies_tones p1 p2 i4) (fun q5 =>
  q_bd (f_X9_intervalAt x_bells_pitches x_melodies_tones p1 p2 0) (fun q6 =>
  q_br (q5 = q6) (
  q_lt (i4 + 1 : Int32) (fun v7 =>
  f_X9_isCanon_L32 x_bells_pitches x_melodies_tones p1 p2 v2 n32 v7)) (
  some 0))))
def f_X9_isCanon (x_bells_pitches : (Nat → Int32)) (x_melodies_lengths : (Nat → Int32)) (x_melodies_tones : (Nat → Int32)) (p1 : Int32) (p2 : Int32) : Option (Int32) :=
  q_gd (q_in p1 4) (
  q_lt (x_melodies_lengths (p1.toNatClampNeg) : Int32) (fun v2 =>
  q_br (v2 = 0) (
  some 0) (
  q_gd (q_in p2 4) (
  q_br (v2 = (x_melodies_lengths (p2.toNatClampNeg))) (
  f_X9_isCanon_L32 x_bells_pitches x_melodies_tones p1 p2 v2 2000 1) (
  some 0)))))
theorem hv_X9_isCanon : yX9_isCanon.cls = RX9 ∧ yX9_isCanon.cls ≠ "java/lang/invoke/MethodHandle" ∧ yX9_isCanon.cls ≠ "java/lang/invoke/VarHandle" ∧ (parseMethodDescriptor yX9_isCanon.desc).map (fun d => d.parameters.length) = some 2 := by decide +kernel
abbrev rm_X9_isCanon : Room := { frames := 5, cells := 0, slots := 0, locals := 108 }
set_option maxHeartbeats 4000000 in
set_option maxRecDepth 100000 in
theorem k_X9_isCanon (l : Launch) (E : ET) (a : Nat → Nat) (o : Nat) (x : Valley_t) (p1 : Int32) (p2 : Int32) (res : Int32) (hF : f_X9_isCanon x.2.1.2.1 x.2.2.1.1 x.2.2.1.2.2 p1 p2 = some res) (sz : Nat) : CtI l yX9_isCanon (mws yX9_isCanon cX9_isCanon 5 (some .boolean)) rm_X9_isCanon 0 0 [.ref (a o), .int p1, .int p2] E (bl_Valley E a o x) res (bl_Valley E a o x) sz := by
  refine mk_M (by decide +kernel) (Nat.le_of_ble_eq_true rfl) ?_
  intro p e s m below meth c A args Q ls hAe hsz hQ hx hb hr hml hin ha hown hlocks hA hz hzs hst hP hD hS hl
  have hown : s.vm.findClass RX9 = some m.cls := hown
  rw [hAe] at hQ
  subst hsz
  have hP : va_P E.1 vwCl (List.flatten [w_ValleyR a o, w_Key E a (o + 1) x.1, w_Bells E a (o + 2) x.2.1, w_Mel E a (o + 5) x.2.2.1, w_Cliffs E a (o + 9) x.2.2.2]) s.heap := hP
  have hD : va_D A (List.flatten [w_ValleyR a o, w_Key E a (o + 1) x.1, w_Bells E a (o + 2) x.2.1, w_Mel E a (o + 5) x.2.2.1, w_Cliffs E a (o + 9) x.2.2.2]) := hD
  have hl : lv_has ls 5 [(0, .ref (a o)), (1, .int p1), (2, .int p2)] := hl
  generalize hHe : s.heap = H at hP
  have hS : va_S A s.heap H [] := by rw [← hHe]; exact hS
  generalize ([] : List Loc) = locs at hS ⊢
  unfold f_X9_isCanon at hF
  refine lv_aload_n hx hb dX9_isCanon_0 rfl (lv_at hl 0 rfl) ?_
  refine va_get (D := E.1) (ci := 10) (v := .ref (a (o + 5))) (C := RX9) (T := TX9) (N := 4) hx hb ha in_X9 hown hst.k hP 0 rfl rfl 2 (by decide) (ha _ mw155) (fun _ h9 => h9) rfl dX9_isCanon_1 ?_
  refine va_getN (D := E.1) (ci := 8) (v := .ref (a (o + 6))) (C := RX7) (T := TX7) (N := 3) hx hb ha in_X7 hown hst.k hP 5 rfl rfl 0 (by decide) (va_Nw.use rfl (nf6 hst)) (fun _ h9 => h9) rfl dX9_isCanon_4 ?_
  refine lv_iload_n hx hb dX9_isCanon_7 rfl (lv_at hl 1 rfl) ?_
  obtain ⟨g1, hF⟩ := q_gdi hF
  refine vi_iald hx hb hst.k hP 6 0 rfl rfl (f := x.2.2.1.1) (k := p1.toNatClampNeg) rfl g1 dX9_isCanon_8 ?_
  refine lv_topi (fun v2 ev2 => ?_)
  have hF := q_lti ev2 hF
  refine lv_istore_n (lv' := [(3, .int v2), (0, .ref (a o)), (1, .int p1), (2, .int p2)]) hx hb dX9_isCanon_9 rfl hl (by decide) rfl (fun ls hl => ?_)
  refine lv_iload_n hx hb dX9_isCanon_10 rfl (lv_at hl 0 rfl) ?_
  refine lv_if_eq (tgt := 27) hx hb dX9_isCanon_11 (by decide) (fun c11 => ?_) (fun c11 => ?_)
  · have hF := q_brp c11 hF
    refine lv_iconst (v := 0) hx hb dX9_isCanon_27 (by decide) ?_
    obtain rfl := Option.some.inj hF
    exact en_z hQ (Nat.le_of_ble_eq_true rfl) (Nat.le_of_ble_eq_true rfl) hx hb hr hlocks (by decide) hP hD hS rfl dX9_isCanon_28
  · have hF := q_brn c11 hF
    refine lv_iload_n hx hb dX9_isCanon_14 rfl (lv_at hl 0 rfl) ?_
    refine lv_aload_n hx hb dX9_isCanon_15 rfl (lv_at hl 1 rfl) ?_
    refine va_get (D := E.1) (ci := 10) (v := .ref (a (o + 5))) (C := RX9) (T := TX9) (N := 4) hx hb ha in_X9 hown hst.k hP 0 rfl rfl 2 (by decide) (ha _ mw155) (fun _ h9 => h9) rfl dX9_isCanon_16 ?_
    refine va_getN (D := E.1) (ci := 8) (v := .ref (a (o + 6))) (C := RX7) (T := TX7) (N := 3) hx hb ha in_X7 hown hst.k hP 5 rfl rfl 0 (by decide) (va_Nw.use rfl (nf6 hst)) (fun _ h9 => h9) rfl dX9_isCanon_19 ?_
    refine lv_iload_n hx hb dX9_isCanon_22 rfl (lv_at hl 3 rfl) ?_
    obtain ⟨g3, hF⟩ := q_gdi hF
    refine vi_iald hx hb hst.k hP 6 0 rfl rfl (f := x.2.2.1.1) (k := p2.toNatClampNeg) rfl g3 dX9_isCanon_23 ?_
    refine lv_icmp_eq (tgt := 29) hx hb dX9_isCanon_24 (by decide) (fun c24 => ?_) (fun c24 => ?_)
    · have hF := q_brp c24 hF
      refine lv_iconst (v := 1) hx hb dX9_isCanon_29 (by decide) ?_
      refine lv_istore (lv' := [(4, .int 1), (3, .int v2), (0, .ref (a o)), (1, .int p1), (2, .int p2)]) hx hb dX9_isCanon_30 hl (by decide) rfl (fun ls hl => ?_)
      have key32 : ∀ (n : Nat) (i4 : Int32) (H : Heap) (locs : List Loc) (ls : Array Slot), f_X9_isCanon_L32 x.2.1.2.1 x.2.2.1.2.2 p1 p2 v2 n i4 = some res → va_P E.1 vwCl (List.flatten [w_ValleyR a o, w_Key E a (o + 1) x.1, w_Bells E a (o + 2) x.2.1, w_Mel E a (o + 5) x.2.2.1, w_Cliffs E a (o + 9) x.2.2.2]) H → va_D A (List.flatten [w_ValleyR a o, w_Key E a (o + 1) x.1, w_Bells E a (o + 2) x.2.1, w_Mel E a (o + 5) x.2.2.1, w_Cliffs E a (o + 9) x.2.2.2]) → va_S A s.heap H locs → lv_has ls 5 [(4, .int i4), (3, .int v2), (0, .ref (a o)), (1, .int p1), (2, .int p2)] → W p l e rm_X9_isCanon s m args below meth c H locs 0 0 Q (F0 m 32 ls []) := by
        intro n32
        induction n32 with
        | zero => intro i4 H locs ls hF; exact absurd hF (by simp [f_X9_isCanon_L32])
        | succ n32 ih32 =>
          intro i4 H locs ls hF hP hD hS hl
          rw [f_X9_isCanon_L32] at hF
          refine lv_iload hx hb dX9_isCanon_32 (lv_at hl 0 rfl) ?_
          refine lv_iload_n hx hb dX9_isCanon_34 rfl (lv_at hl 1 rfl) ?_
          refine lv_icmp_ge (tgt := 64) hx hb dX9_isCanon_35 (by decide) (fun c35 => ?_) (fun c35 => ?_)
          · have hF := q_brp c35 hF
            refine lv_iconst (v := 1) hx hb dX9_isCanon_64 (by decide) ?_
            obtain rfl := Option.some.inj hF
            exact en_z hQ (Nat.le_of_ble_eq_true rfl) (Nat.le_of_ble_eq_true rfl) hx hb hr hlocks (by decide) hP hD hS rfl dX9_isCanon_65
          · have hF := q_brn c35 hF
            refine lv_aload_n hx hb dX9_isCanon_38 rfl (lv_at hl 2 rfl) ?_
            refine lv_iload_n hx hb dX9_isCanon_39 rfl (lv_at hl 3 rfl) ?_
            refine lv_iload_n hx hb dX9_isCanon_40 rfl (lv_at hl 4 rfl) ?_
            refine lv_iload hx hb dX9_isCanon_41 (lv_at hl 0 rfl) ?_
            obtain ⟨q5, hq5, hF⟩ := q_bdi hF
            refine cl_i (Lc := [w_ValleyR a o, w_Key E a (o + 1) x.1, w_Bells E a (o + 2) x.2.1, w_Mel E a (o + 5) x.2.2.1, w_Cliffs E a (o + 9) x.2.2.2]) (Lc' := [w_ValleyR a o, w_Key E a (o + 1) x.1, w_Bells E a (o + 2) x.2.1, w_Mel E a (o + 5) x.2.2.1, w_Cliffs E a (o + 9) x.2.2.2]) (L' := [w_ValleyR a o, w_Key E a (o + 1) x.1, w_Bells E a (o + 2) x.2.1, w_Mel E a (o + 5) x.2.2.1, w_Cliffs E a (o + 9) x.2.2.2]) (rv := q5) (va_runV (As := [.int p1, .int p2, .int i4]) (rest := []) ⟨hx, hb, hml, hown, ha⟩ (k_X9_intervalAt l E a o x p1 p2 i4 q5 hq5 H.size) (cwV 3 ha (gi_V (fun _ h => h) mw829 mw830 mw831 mw27 mw832) rfl rfl rfl hv_X9_intervalAt ⟨(Nat.le_of_ble_eq_true rfl), (Nat.le_of_ble_eq_true rfl)⟩) ⟨pre_blind, va_recv hst.k (fr_P hP [0, 1, 2, 3, 4] rfl) (ci := 10) (q0 := 0) rfl rfl, pre_at hP hD hS hz hzs hst [0, 1, 2, 3, 4] (by decide) rfl rfl⟩ rfl rfl hl.1 rfl (lv_room (Nat.le_of_ble_eq_true rfl)) dX9_isCanon_43 ⟨(Nat.le_of_ble_eq_true rfl), (Nat.le_of_ble_eq_true rfl)⟩) hP hD hS hA [0, 1, 2, 3, 4] (by decide) rfl rfl rfl rfl (fun H locs hP hD hS => ?_)
            refine lv_aload_n hx hb dX9_isCanon_46 rfl (lv_at hl 2 rfl) ?_
            refine lv_iload_n hx hb dX9_isCanon_47 rfl (lv_at hl 3 rfl) ?_
            refine lv_iload_n hx hb dX9_isCanon_48 rfl (lv_at hl 4 rfl) ?_
            refine lv_iconst (v := 0) hx hb dX9_isCanon_49 (by decide) ?_
            obtain ⟨q6, hq6, hF⟩ := q_bdi hF
            refine cl_i (Lc := [w_ValleyR a o, w_Key E a (o + 1) x.1, w_Bells E a (o + 2) x.2.1, w_Mel E a (o + 5) x.2.2.1, w_Cliffs E a (o + 9) x.2.2.2]) (Lc' := [w_ValleyR a o, w_Key E a (o + 1) x.1, w_Bells E a (o + 2) x.2.1, w_Mel E a (o + 5) x.2.2.1, w_Cliffs E a (o + 9) x.2.2.2]) (L' := [w_ValleyR a o, w_Key E a (o + 1) x.1, w_Bells E a (o + 2) x.2.1, w_Mel E a (o + 5) x.2.2.1, w_Cliffs E a (o + 9) x.2.2.2]) (rv := q6) (va_runV (As := [.int p1, .int p2, .int 0]) (rest := [.int q5]) ⟨hx, hb, hml, hown, ha⟩ (k_X9_intervalAt l E a o x p1 p2 0 q6 hq6 H.size) (cwV 3 ha (gi_V (fun _ h => h) mw829 mw830 mw831 mw27 mw832) rfl rfl rfl hv_X9_intervalAt ⟨(Nat.le_of_ble_eq_true rfl), (Nat.le_of_ble_eq_true rfl)⟩) ⟨pre_blind, va_recv hst.k (fr_P hP [0, 1, 2, 3, 4] rfl) (ci := 10) (q0 := 0) rfl rfl, pre_at hP hD hS hz hzs hst [0, 1, 2, 3, 4] (by decide) rfl rfl⟩ rfl rfl hl.1 rfl (lv_room (Nat.le_of_ble_eq_true rfl)) dX9_isCanon_50 ⟨(Nat.le_of_ble_eq_true rfl), (Nat.le_of_ble_eq_true rfl)⟩) hP hD hS hA [0, 1, 2, 3, 4] (by decide) rfl rfl rfl rfl (fun H locs hP hD hS => ?_)
            refine lv_icmp_eq (tgt := 58) hx hb dX9_isCanon_53 (by decide) (fun c53 => ?_) (fun c53 => ?_)
            · have hF := q_brp c53 hF
              obtain ⟨v7, ev7⟩ : ∃ y : Int32, y = i4 + 1 := ⟨_, rfl⟩
              have hF := q_lti ev7 hF
              refine lv_iinc (v := v7) (lv' := [(4, .int v7), (3, .int v2), (0, .ref (a o)), (1, .int p1), (2, .int p2)]) hx hb dX9_isCanon_58 hl (k := 0) rfl (by rw [ev7]; rfl) (by decide) rfl (fun ls hl => ?_)
              refine lv_goto (tgt := 32) hx hb dX9_isCanon_61 (by decide) ?_
              exact ih32 v7 H locs ls hF hP hD hS (lv_sub hl [0, 1, 2, 3, 4] rfl)
            · have hF := q_brn c53 hF
              refine lv_iconst (v := 0) hx hb dX9_isCanon_56 (by decide) ?_
              obtain rfl := Option.some.inj hF
              exact en_z hQ (Nat.le_of_ble_eq_true rfl) (Nat.le_of_ble_eq_true rfl) hx hb hr hlocks (by decide) hP hD hS rfl dX9_isCanon_57
      exact key32 _ 1 H locs ls hF hP hD hS (lv_sub hl [0, 1, 2, 3, 4] rfl)
    · have hF := q_brn c24 hF
      refine lv_iconst (v := 0) hx hb dX9_isCanon_27 (by decide) ?_
      obtain rfl := Option.some.inj hF
      exact en_z hQ (Nat.le_of_ble_eq_true rfl) (Nat.le_of_ble_eq_true rfl) hx hb hr hlocks (by decide) hP hD hS rfl dX9_isCanon_28
