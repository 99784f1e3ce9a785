/-! X10_chordSize -/
theorem dX10_chordSize_0 : decode cX10_chordSize 0 = .ok (.aload_n 0, 1) := by decide +kernel
theorem dX10_chordSize_1 : decode cX10_chordSize 1 = .ok (.getfield 36, 3) := by decide +kernel
theorem dX10_chordSize_4 : decode cX10_chordSize 4 = .ok (.aload_n 0, 1) := by decide +kernel
theorem dX10_chordSize_5 : decode cX10_chordSize 5 = .ok (.getfield 10, 3) := by decide +kernel
theorem dX10_chordSize_8 : decode cX10_chordSize 8 = .ok (.iload_n 1, 1) := by decide +kernel
theorem dX10_chordSize_9 : decode cX10_chordSize 9 = .ok (.invokevirtual 244, 3) := by decide +kernel
theorem dX10_chordSize_12 : decode cX10_chordSize 12 = .ok (.aload_n 0, 1) := by decide +kernel
theorem dX10_chordSize_13 : decode cX10_chordSize 13 = .ok (.getfield 36, 3) := by decide +kernel
theorem dX10_chordSize_16 : decode cX10_chordSize 16 = .ok (.getfield 248, 3) := by decide +kernel
theorem dX10_chordSize_19 : decode cX10_chordSize 19 = .ok (.ireturn, 1) := by decide +kernel
def f_X10_chordSize (x_valley_bells_pitches : (Nat → Int32)) (x_valley_bells_count : Int32) (x_valley_melodies_lengths : (Nat → Int32)) (x_valley_melodies_entries : (Nat → Int32)) (x_valley_melodies_tones : (Nat → Int32)) (x_valley_cliffs_delays : (Nat → Int32)) (x_valley_cliffs_transpositions : (Nat → Int32)) (x_valley_cliffs_count : Int32) (x_chord_notes : (Nat → Int32)) (x_chord_size : Int32) (p1 : Int32) : Option (Int32 × (Nat → Int32) × Int32) :=
  q_bd (f_X2_listen x_chord_notes x_chord_size x_valley_bells_pitches x_valley_bells_count x_valley_melodies_lengths x_valley_melodies_entries x_valley_melodies_tones x_valley_cliffs_delays x_valley_cliffs_transpositions x_valley_cliffs_count p1) (fun q1 =>
  some (q1.2, q1.1, q1.2))
theorem hv_X10_chordSize : yX10_chordSize.cls = RX10 ∧ yX10_chordSize.cls ≠ "java/lang/invoke/MethodHandle" ∧ yX10_chordSize.cls ≠ "java/lang/invoke/VarHandle" ∧ (parseMethodDescriptor yX10_chordSize.desc).map (fun d => d.parameters.length) = some 1 := by decide +kernel
abbrev rm_X10_chordSize : Room := { frames := 5, cells := 0, slots := 0, locals := 115 }
set_option maxHeartbeats 4000000 in
set_option maxRecDepth 100000 in
theorem k_X10_chordSize (l : Launch) (E : ET) (a : Nat → Nat) (o : Nat) (x : VB_t) (p1 : Int32) (res : Int32 × (Nat → Int32) × Int32) (hF : f_X10_chordSize x.1.1.2.1.2.1 x.1.1.2.1.2.2 x.1.1.2.2.1.1 x.1.1.2.2.1.2.1 x.1.1.2.2.1.2.2 x.1.1.2.2.2.1 x.1.1.2.2.2.2.1 x.1.1.2.2.2.2.2 x.1.2.2.2.2.1 x.1.2.2.2.2.2.2 p1 = some res) (sz : Nat) : CtI l yX10_chordSize (mws yX10_chordSize cX10_chordSize 2 (some .int)) rm_X10_chordSize 0 0 [.ref (a o), .int p1] E (bl_VB E a o x) res.1 (bl_VB E a o ((x.1.1, x.1.2.1, x.1.2.2.1, x.1.2.2.2.1, (res.2.1, x.1.2.2.2.2.2.1, res.2.2)), (x.2.1, x.2.2.1, x.2.2.2.1, x.2.2.2.2.1, x.2.2.2.2.2))) sz := by
  refine mk_M (by decide +kernel) (Nat.le_of_ble_eq_true rfl) ?_
  intro p e s m below meth c A args Q ls hAe hsz hQ hx hb hr hml hin ha hown hlocks hA hz hzs hst hP hD hS hl
  have hown : s.vm.findClass RX10 = some m.cls := hown
  rw [hAe] at hQ
  subst hsz
  have hP : va_P E.1 vwCl (List.flatten [w_VBR a o x.2.2.2.1 x.2.2.2.2.1 x.2.2.2.2.2, w_ValleyR a (o + 1), w_Key E a (o + 2) x.1.1.1, w_Bells E a (o + 3) x.1.1.2.1, w_Mel E a (o + 6) x.1.1.2.2.1, w_Cliffs E a (o + 10) x.1.1.2.2.2, w_ValleyR a (o + 13), w_Key E a (o + 14) x.1.2.1.1, w_Bells E a (o + 15) x.1.2.1.2.1, w_Mel E a (o + 18) x.1.2.1.2.2.1, w_Cliffs E a (o + 22) x.1.2.1.2.2.2, w_Prog E a (o + 25) x.1.2.2.2.1, w_Chord E a (o + 31) x.1.2.2.2.2, w_Key E a (o + 34) x.2.1, w_Line E a (o + 35) x.2.2.1, w_Hist E a (o + 37) x.1.2.2.1]) s.heap := hP
  have hD : va_D A (List.flatten [w_VBR a o x.2.2.2.1 x.2.2.2.2.1 x.2.2.2.2.2, w_ValleyR a (o + 1), w_Key E a (o + 2) x.1.1.1, w_Bells E a (o + 3) x.1.1.2.1, w_Mel E a (o + 6) x.1.1.2.2.1, w_Cliffs E a (o + 10) x.1.1.2.2.2, w_ValleyR a (o + 13), w_Key E a (o + 14) x.1.2.1.1, w_Bells E a (o + 15) x.1.2.1.2.1, w_Mel E a (o + 18) x.1.2.1.2.2.1, w_Cliffs E a (o + 22) x.1.2.1.2.2.2, w_Prog E a (o + 25) x.1.2.2.2.1, w_Chord E a (o + 31) x.1.2.2.2.2, w_Key E a (o + 34) x.2.1, w_Line E a (o + 35) x.2.2.1, w_Hist E a (o + 37) x.1.2.2.1]) := hD
  have hl : lv_has ls 2 [(0, .ref (a o)), (1, .int p1)] := hl
  generalize hHe : s.heap = H at hP
  have hS : va_S A s.heap H [] := by rw [← hHe]; exact hS
  generalize ([] : List Loc) = locs at hS ⊢
  unfold f_X10_chordSize at hF
  refine lv_aload_n hx hb dX10_chordSize_0 rfl (lv_at hl 0 rfl) ?_
  refine va_get (D := E.1) (ci := 11) (v := .ref (a (o + 31))) (C := RX10) (T := TX10) (N := 10) hx hb ha in_X10 hown hst.k hP 0 rfl rfl 4 (by decide) (ha _ mw288) (fun _ h9 => h9) rfl dX10_chordSize_1 ?_
  refine lv_aload_n hx hb dX10_chordSize_4 rfl (lv_at hl 0 rfl) ?_
  refine va_get (D := E.1) (ci := 11) (v := .ref (a (o + 1))) (C := RX10) (T := TX10) (N := 10) hx hb ha in_X10 hown hst.k hP 0 rfl rfl 0 (by decide) (ha _ mw284) (fun _ h9 => h9) rfl dX10_chordSize_5 ?_
  refine lv_iload_n hx hb dX10_chordSize_8 rfl (lv_at hl 1 rfl) ?_
  obtain ⟨q1, hq1, hF⟩ := q_bdi hF
  refine cl_v (Lc := [w_Chord E a (o + 31) x.1.2.2.2.2, w_ValleyR a (o + 1), w_Key E a (o + 2) x.1.1.1, w_Bells E a (o + 3) x.1.1.2.1, w_Mel E a (o + 6) x.1.1.2.2.1, w_Cliffs E a (o + 10) x.1.1.2.2.2]) (Lc' := [w_Chord E a (o + 31) (q1.1, x.1.2.2.2.2.2.1, q1.2), w_ValleyR a (o + 1), w_Key E a (o + 2) x.1.1.1, w_Bells E a (o + 3) x.1.1.2.1, w_Mel E a (o + 6) x.1.1.2.2.1, w_Cliffs E a (o + 10) x.1.1.2.2.2]) (L' := [w_VBR a o x.2.2.2.1 x.2.2.2.2.1 x.2.2.2.2.2, w_ValleyR a (o + 1), w_Key E a (o + 2) x.1.1.1, w_Bells E a (o + 3) x.1.1.2.1, w_Mel E a (o + 6) x.1.1.2.2.1, w_Cliffs E a (o + 10) x.1.1.2.2.2, w_ValleyR a (o + 13), w_Key E a (o + 14) x.1.2.1.1, w_Bells E a (o + 15) x.1.2.1.2.1, w_Mel E a (o + 18) x.1.2.1.2.2.1, w_Cliffs E a (o + 22) x.1.2.1.2.2.2, w_Prog E a (o + 25) x.1.2.2.2.1, w_Chord E a (o + 31) (q1.1, x.1.2.2.2.2.2.1, q1.2), w_Key E a (o + 34) x.2.1, w_Line E a (o + 35) x.2.2.1, w_Hist E a (o + 37) x.1.2.2.1]) (va_runV (As := [.ref (a (o + 1)), .int p1]) (rest := []) ⟨hx, hb, hml, hown, ha⟩ (k_X2_listen l E a (o + 31) x.1.2.2.2.2 a (o + 1) x.1.1 p1 q1 hq1 H.size) (cwV 2 ha (gi_V (fun _ h => h) mw845 mw846 mw847 mw34 mw848) rfl rfl rfl hv_X2_listen ⟨(Nat.le_of_ble_eq_true rfl), (Nat.le_of_ble_eq_true rfl)⟩) ⟨pre_blind, va_recv hst.k (fr_P hP [12, 1, 2, 3, 4, 5] rfl) (ci := 4) (q0 := 0) rfl rfl, pre_at hP hD hS hz hzs hst [12, 1, 2, 3, 4, 5] (by decide) rfl rfl⟩ rfl rfl hl.1 rfl (lv_room (Nat.le_of_ble_eq_true rfl)) dX10_chordSize_9 ⟨(Nat.le_of_ble_eq_true rfl), (Nat.le_of_ble_eq_true rfl)⟩) hP hD hS hA [12, 1, 2, 3, 4, 5] (by decide) rfl rfl rfl rfl (fun H locs hP hD hS => ?_)
  refine lv_aload_n hx hb dX10_chordSize_12 rfl (lv_at hl 0 rfl) ?_
  refine va_get (D := E.1) (ci := 11) (v := .ref (a (o + 31))) (C := RX10) (T := TX10) (N := 10) hx hb ha in_X10 hown hst.k hP 0 rfl rfl 4 (by decide) (ha _ mw288) (fun _ h9 => h9) rfl dX10_chordSize_13 ?_
  refine va_getN (D := E.1) (ci := 4) (v := .int q1.2) (C := RX2) (T := TX2) (N := 3) hx hb ha in_X2 hown hst.k hP 31 rfl rfl 2 (by decide) (va_Nw.use rfl (nf25 hst)) (fun _ h9 => h9) rfl dX10_chordSize_16 ?_
  obtain rfl := Option.some.inj hF
  exact en_i hQ (Nat.le_of_ble_eq_true rfl) (Nat.le_of_ble_eq_true rfl) hx hb hr hlocks hP hD hS rfl dX10_chordSize_19

/-! X10_chordNote -/
theorem dX10_chordNote_0 : decode cX10_chordNote 0 = .ok (.aload_n 0, 1) := by decide +kernel
theorem dX10_chordNote_1 : decode cX10_chordNote 1 = .ok (.getfield 36, 3) := by decide +kernel
theorem dX10_chordNote_4 : decode cX10_chordNote 4 = .ok (.aload_n 0, 1) := by decide +kernel
theorem dX10_chordNote_5 : decode cX10_chordNote 5 = .ok (.getfield 10, 3) := by decide +kernel
theorem dX10_chordNote_8 : decode cX10_chordNote 8 = .ok (.iload_n 1, 1) := by decide +kernel
theorem dX10_chordNote_9 : decode cX10_chordNote 9 = .ok (.invokevirtual 244, 3) := by decide +kernel
theorem dX10_chordNote_12 : decode cX10_chordNote 12 = .ok (.iload_n 2, 1) := by decide +kernel
theorem dX10_chordNote_13 : decode cX10_chordNote 13 = .ok (.iconst 0, 1) := by decide +kernel
theorem dX10_chordNote_14 : decode cX10_chordNote 14 = .ok (.aload_n 0, 1) := by decide +kernel
theorem dX10_chordNote_15 : decode cX10_chordNote 15 = .ok (.getfield 36, 3) := by decide +kernel
theorem dX10_chordNote_18 : decode cX10_chordNote 18 = .ok (.getfield 248, 3) := by decide +kernel
theorem dX10_chordNote_21 : decode cX10_chordNote 21 = .ok (.iconst 1, 1) := by decide +kernel
theorem dX10_chordNote_22 : decode cX10_chordNote 22 = .ok (.isub, 1) := by decide +kernel
theorem dX10_chordNote_23 : decode cX10_chordNote 23 = .ok (.invokestatic 178, 3) := by decide +kernel
theorem dX10_chordNote_26 : decode cX10_chordNote 26 = .ok (.ifCond .ne 13, 3) := by decide +kernel
theorem dX10_chordNote_29 : decode cX10_chordNote 29 = .ok (.new 155, 3) := by decide +kernel
theorem dX10_chordNote_32 : decode cX10_chordNote 32 = .ok (.dup, 1) := by decide +kernel
theorem dX10_chordNote_33 : decode cX10_chordNote 33 = .ok (.ldc 210, 2) := by decide +kernel
theorem dX10_chordNote_35 : decode cX10_chordNote 35 = .ok (.invokespecial 159, 3) := by decide +kernel
theorem dX10_chordNote_38 : decode cX10_chordNote 38 = .ok (.athrow, 1) := by decide +kernel
theorem dX10_chordNote_39 : decode cX10_chordNote 39 = .ok (.aload_n 0, 1) := by decide +kernel
theorem dX10_chordNote_40 : decode cX10_chordNote 40 = .ok (.getfield 36, 3) := by decide +kernel
theorem dX10_chordNote_43 : decode cX10_chordNote 43 = .ok (.getfield 251, 3) := by decide +kernel
theorem dX10_chordNote_46 : decode cX10_chordNote 46 = .ok (.iload_n 2, 1) := by decide +kernel
theorem dX10_chordNote_47 : decode cX10_chordNote 47 = .ok (.iaload, 1) := by decide +kernel
theorem dX10_chordNote_48 : decode cX10_chordNote 48 = .ok (.ireturn, 1) := by decide +kernel
def f_X10_chordNote (x_valley_bells_pitches : (Nat → Int32)) (x_valley_bells_count : Int32) (x_valley_melodies_lengths : (Nat → Int32)) (x_valley_melodies_entries : (Nat → Int32)) (x_valley_melodies_tones : (Nat → Int32)) (x_valley_cliffs_delays : (Nat → Int32)) (x_valley_cliffs_transpositions : (Nat → Int32)) (x_valley_cliffs_count : Int32) (x_chord_notes : (Nat → Int32)) (x_chord_size : Int32) (p1 : Int32) (p2 : Int32) : Option ((Int32 ⊕ String) × (Nat → Int32) × Int32) :=
  q_bd (f_X2_listen x_chord_notes x_chord_size x_valley_bells_pitches x_valley_bells_count x_valley_melodies_lengths x_valley_melodies_entries x_valley_melodies_tones x_valley_cliffs_delays x_valley_cliffs_transpositions x_valley_cliffs_count p1) (fun q1 =>
  q_bd (f_X10_isWithin p2 0 (q1.2 - 1)) (fun q2 =>
  q_br (q2 = 0) (
  some (Sum.inr "java/util/NoSuchElementException", q1.1, q1.2)) (
  q_gd (q_in p2 20) (
  some (Sum.inl (q1.1 (p2.toNatClampNeg)), q1.1, q1.2)))))
theorem hv_X10_chordNote : yX10_chordNote.cls = RX10 ∧ yX10_chordNote.cls ≠ "java/lang/invoke/MethodHandle" ∧ yX10_chordNote.cls ≠ "java/lang/invoke/VarHandle" ∧ (parseMethodDescriptor yX10_chordNote.desc).map (fun d => d.parameters.length) = some 2 := by decide +kernel
abbrev rm_X10_chordNote : Room := { frames := 6, cells := 1, slots := 6, locals := 115 }
set_option maxHeartbeats 4000000 in
set_option maxRecDepth 100000 in
theorem k_X10_chordNote (l : Launch) (E : ET) (a : Nat → Nat) (o : Nat) (x : VB_t) (p1 : Int32) (p2 : Int32) (res : (Int32 ⊕ String) × (Nat → Int32) × Int32) (hF : f_X10_chordNote x.1.1.2.1.2.1 x.1.1.2.1.2.2 x.1.1.2.2.1.1 x.1.1.2.2.1.2.1 x.1.1.2.2.1.2.2 x.1.1.2.2.2.1 x.1.1.2.2.2.2.1 x.1.1.2.2.2.2.2 x.1.2.2.2.2.1 x.1.2.2.2.2.2.2 p1 p2 = some res) (sz : Nat) (hlt : l.stackTraces = false) : CxI l yX10_chordNote (mws yX10_chordNote cX10_chordNote 3 (some .int)) rm_X10_chordNote 1 6 [.ref (a o), .int p1, .int p2] E (bl_VB E a o x) res.1 (bl_VB E a o ((x.1.1, x.1.2.1, x.1.2.2.1, x.1.2.2.2.1, (res.2.1, x.1.2.2.2.2.2.1, res.2.2)), (x.2.1, x.2.2.1, x.2.2.2.1, x.2.2.2.2.1, x.2.2.2.2.2))) sz := by
  refine mk_X (by decide +kernel) (Nat.le_of_ble_eq_true rfl) ?_
  intro p e s m below meth c A args Q ls hAe hsz hQ hx hb hr hml hin ha hown hlocks hA hz hzs hst hexc hP hD hS hl
  have hown : s.vm.findClass RX10 = some m.cls := hown
  rw [hAe] at hQ
  subst hsz
  have hP : va_P E.1 vwCl (List.flatten [w_VBR a o x.2.2.2.1 x.2.2.2.2.1 x.2.2.2.2.2, w_ValleyR a (o + 1), w_Key E a (o + 2) x.1.1.1, w_Bells E a (o + 3) x.1.1.2.1, w_Mel E a (o + 6) x.1.1.2.2.1, w_Cliffs E a (o + 10) x.1.1.2.2.2, w_ValleyR a (o + 13), w_Key E a (o + 14) x.1.2.1.1, w_Bells E a (o + 15) x.1.2.1.2.1, w_Mel E a (o + 18) x.1.2.1.2.2.1, w_Cliffs E a (o + 22) x.1.2.1.2.2.2, w_Prog E a (o + 25) x.1.2.2.2.1, w_Chord E a (o + 31) x.1.2.2.2.2, w_Key E a (o + 34) x.2.1, w_Line E a (o + 35) x.2.2.1, w_Hist E a (o + 37) x.1.2.2.1]) s.heap := hP
  have hD : va_D A (List.flatten [w_VBR a o x.2.2.2.1 x.2.2.2.2.1 x.2.2.2.2.2, w_ValleyR a (o + 1), w_Key E a (o + 2) x.1.1.1, w_Bells E a (o + 3) x.1.1.2.1, w_Mel E a (o + 6) x.1.1.2.2.1, w_Cliffs E a (o + 10) x.1.1.2.2.2, w_ValleyR a (o + 13), w_Key E a (o + 14) x.1.2.1.1, w_Bells E a (o + 15) x.1.2.1.2.1, w_Mel E a (o + 18) x.1.2.1.2.2.1, w_Cliffs E a (o + 22) x.1.2.1.2.2.2, w_Prog E a (o + 25) x.1.2.2.2.1, w_Chord E a (o + 31) x.1.2.2.2.2, w_Key E a (o + 34) x.2.1, w_Line E a (o + 35) x.2.2.1, w_Hist E a (o + 37) x.1.2.2.1]) := hD
  have hl : lv_has ls 3 [(0, .ref (a o)), (1, .int p1), (2, .int p2)] := hl
  generalize hHe : s.heap = H at hP
  have hS : va_S A s.heap H [] := by rw [← hHe]; exact hS
  generalize ([] : List Loc) = locs at hS ⊢
  unfold f_X10_chordNote at hF
  refine lv_aload_n hx hb dX10_chordNote_0 rfl (lv_at hl 0 rfl) ?_
  refine va_get (D := E.1) (ci := 11) (v := .ref (a (o + 31))) (C := RX10) (T := TX10) (N := 10) hx hb ha in_X10 hown hst.k hP 0 rfl rfl 4 (by decide) (ha _ mw288) (fun _ h9 => h9) rfl dX10_chordNote_1 ?_
  refine lv_aload_n hx hb dX10_chordNote_4 rfl (lv_at hl 0 rfl) ?_
  refine va_get (D := E.1) (ci := 11) (v := .ref (a (o + 1))) (C := RX10) (T := TX10) (N := 10) hx hb ha in_X10 hown hst.k hP 0 rfl rfl 0 (by decide) (ha _ mw284) (fun _ h9 => h9) rfl dX10_chordNote_5 ?_
  refine lv_iload_n hx hb dX10_chordNote_8 rfl (lv_at hl 1 rfl) ?_
  obtain ⟨q1, hq1, hF⟩ := q_bdi hF
  refine cl_v (Lc := [w_Chord E a (o + 31) x.1.2.2.2.2, w_ValleyR a (o + 1), w_Key E a (o + 2) x.1.1.1, w_Bells E a (o + 3) x.1.1.2.1, w_Mel E a (o + 6) x.1.1.2.2.1, w_Cliffs E a (o + 10) x.1.1.2.2.2]) (Lc' := [w_Chord E a (o + 31) (q1.1, x.1.2.2.2.2.2.1, q1.2), w_ValleyR a (o + 1), w_Key E a (o + 2) x.1.1.1, w_Bells E a (o + 3) x.1.1.2.1, w_Mel E a (o + 6) x.1.1.2.2.1, w_Cliffs E a (o + 10) x.1.1.2.2.2]) (L' := [w_VBR a o x.2.2.2.1 x.2.2.2.2.1 x.2.2.2.2.2, w_ValleyR a (o + 1), w_Key E a (o + 2) x.1.1.1, w_Bells E a (o + 3) x.1.1.2.1, w_Mel E a (o + 6) x.1.1.2.2.1, w_Cliffs E a (o + 10) x.1.1.2.2.2, w_ValleyR a (o + 13), w_Key E a (o + 14) x.1.2.1.1, w_Bells E a (o + 15) x.1.2.1.2.1, w_Mel E a (o + 18) x.1.2.1.2.2.1, w_Cliffs E a (o + 22) x.1.2.1.2.2.2, w_Prog E a (o + 25) x.1.2.2.2.1, w_Chord E a (o + 31) (q1.1, x.1.2.2.2.2.2.1, q1.2), w_Key E a (o + 34) x.2.1, w_Line E a (o + 35) x.2.2.1, w_Hist E a (o + 37) x.1.2.2.1]) (va_runV (As := [.ref (a (o + 1)), .int p1]) (rest := []) ⟨hx, hb, hml, hown, ha⟩ (k_X2_listen l E a (o + 31) x.1.2.2.2.2 a (o + 1) x.1.1 p1 q1 hq1 H.size) (cwV 2 ha (gi_V (fun _ h => h) mw845 mw846 mw847 mw34 mw848) rfl rfl rfl hv_X2_listen ⟨(Nat.le_of_ble_eq_true rfl), (Nat.le_of_ble_eq_true rfl)⟩) ⟨pre_blind, va_recv hst.k (fr_P hP [12, 1, 2, 3, 4, 5] rfl) (ci := 4) (q0 := 0) rfl rfl, pre_at hP hD hS hz hzs hst [12, 1, 2, 3, 4, 5] (by decide) rfl rfl⟩ rfl rfl hl.1 rfl (lv_room (Nat.le_of_ble_eq_true rfl)) dX10_chordNote_9 ⟨(Nat.le_of_ble_eq_true rfl), (Nat.le_of_ble_eq_true rfl)⟩) hP hD hS hA [12, 1, 2, 3, 4, 5] (by decide) rfl rfl rfl rfl (fun H locs hP hD hS => ?_)
  refine lv_iload_n hx hb dX10_chordNote_12 rfl (lv_at hl 2 rfl) ?_
  refine lv_iconst (v := 0) hx hb dX10_chordNote_13 (by decide) ?_
  refine lv_aload_n hx hb dX10_chordNote_14 rfl (lv_at hl 0 rfl) ?_
  refine va_get (D := E.1) (ci := 11) (v := .ref (a (o + 31))) (C := RX10) (T := TX10) (N := 10) hx hb ha in_X10 hown hst.k hP 0 rfl rfl 4 (by decide) (ha _ mw288) (fun _ h9 => h9) rfl dX10_chordNote_15 ?_
  refine va_getN (D := E.1) (ci := 4) (v := .int q1.2) (C := RX2) (T := TX2) (N := 3) hx hb ha in_X2 hown hst.k hP 31 rfl rfl 2 (by decide) (va_Nw.use rfl (nf25 hst)) (fun _ h9 => h9) rfl dX10_chordNote_18 ?_
  refine lv_iconst (v := 1) hx hb dX10_chordNote_21 (by decide) ?_
  refine lv_isub hx hb dX10_chordNote_22 ?_
  obtain ⟨q2, hq2, hF⟩ := q_bdi hF
  refine cl_i (Lc := []) (Lc' := []) (L' := [w_VBR a o x.2.2.2.1 x.2.2.2.2.1 x.2.2.2.2.2, w_ValleyR a (o + 1), w_Key E a (o + 2) x.1.1.1, w_Bells E a (o + 3) x.1.1.2.1, w_Mel E a (o + 6) x.1.1.2.2.1, w_Cliffs E a (o + 10) x.1.1.2.2.2, w_ValleyR a (o + 13), w_Key E a (o + 14) x.1.2.1.1, w_Bells E a (o + 15) x.1.2.1.2.1, w_Mel E a (o + 18) x.1.2.1.2.2.1, w_Cliffs E a (o + 22) x.1.2.1.2.2.2, w_Prog E a (o + 25) x.1.2.2.2.1, w_Chord E a (o + 31) (q1.1, x.1.2.2.2.2.2.1, q1.2), w_Key E a (o + 34) x.2.1, w_Line E a (o + 35) x.2.2.1, w_Hist E a (o + 37) x.1.2.2.1]) (rv := q2) (va_runS (As := [.int p2, .int 0, .int (q1.2 - 1)]) (rest := []) ⟨hx, hb, hml, hown, ha⟩ (k_X10_isWithin l E p2 0 (q1.2 - 1) q2 hq2 H.size) (cwS 3 ha (gi_S (fun _ h => h) mw373 mw374 mw26 mw375) rfl rfl rfl hv_X10_isWithin ⟨(Nat.le_of_ble_eq_true rfl), (Nat.le_of_ble_eq_true rfl)⟩) ⟨pre_blind, pre_at hP hD hS hz hzs hst [] (by decide) rfl rfl⟩ rfl rfl hl.1 rfl (lv_room (Nat.le_of_ble_eq_true rfl)) dX10_chordNote_23 ⟨(Nat.le_of_ble_eq_true rfl), (Nat.le_of_ble_eq_true rfl)⟩) hP hD hS hA [] (by decide) rfl rfl rfl rfl (fun H locs hP hD hS => ?_)
  refine lv_if_ne (tgt := 39) hx hb dX10_chordNote_26 (by decide) (fun c26 => ?_) (fun c26 => ?_)
  · have hF := q_brn c26 hF
    refine lv_aload_n hx hb dX10_chordNote_39 rfl (lv_at hl 0 rfl) ?_
    refine va_get (D := E.1) (ci := 11) (v := .ref (a (o + 31))) (C := RX10) (T := TX10) (N := 10) hx hb ha in_X10 hown hst.k hP 0 rfl rfl 4 (by decide) (ha _ mw288) (fun _ h9 => h9) rfl dX10_chordNote_40 ?_
    refine va_getN (D := E.1) (ci := 4) (v := .ref (a (o + 32))) (C := RX2) (T := TX2) (N := 3) hx hb ha in_X2 hown hst.k hP 31 rfl rfl 0 (by decide) (va_Nw.use rfl (nf24 hst)) (fun _ h9 => h9) rfl dX10_chordNote_43 ?_
    refine lv_iload_n hx hb dX10_chordNote_46 rfl (lv_at hl 2 rfl) ?_
    obtain ⟨g3, hF⟩ := q_gdi hF
    refine vi_iald hx hb hst.k hP 32 0 rfl rfl (f := q1.1) (k := p2.toNatClampNeg) rfl g3 dX10_chordNote_47 ?_
    obtain rfl := Option.some.inj hF
    exact en_xi hQ (Nat.le_of_ble_eq_true rfl) (Nat.le_of_ble_eq_true rfl) hx hb hr hlocks hP hD hS rfl dX10_chordNote_48
  · have hF := q_brp c26 hF
    obtain rfl := Option.some.inj hF
    exact en_thN hQ hx hb hlt ha hst hz hA hml hl.1 hown mw734 (sr_210 E) nw_link dX10_chordNote_29 dX10_chordNote_32 dX10_chordNote_33 dX10_chordNote_35 dX10_chordNote_38 hexc (Nat.le_of_ble_eq_true rfl) (Nat.le_of_ble_eq_true rfl) (Nat.le_of_ble_eq_true rfl) (Nat.le_of_ble_eq_true rfl) hlocks (Nat.le_of_ble_eq_true rfl) (Nat.le_of_ble_eq_true rfl) hP hD hS rfl

/-! X10_dissonances -/
theorem dX10_dissonances_0 : decode cX10_dissonances 0 = .ok (.aload_n 0, 1) := by decide +kernel
theorem dX10_dissonances_1 : decode cX10_dissonances 1 = .ok (.getfield 36, 3) := by decide +kernel
theorem dX10_dissonances_4 : decode cX10_dissonances 4 = .ok (.aload_n 0, 1) := by decide +kernel
theorem dX10_dissonances_5 : decode cX10_dissonances 5 = .ok (.getfield 10, 3) := by decide +kernel
theorem dX10_dissonances_8 : decode cX10_dissonances 8 = .ok (.iload_n 1, 1) := by decide +kernel
theorem dX10_dissonances_9 : decode cX10_dissonances 9 = .ok (.invokevirtual 244, 3) := by decide +kernel
theorem dX10_dissonances_12 : decode cX10_dissonances 12 = .ok (.aload_n 0, 1) := by decide +kernel
theorem dX10_dissonances_13 : decode cX10_dissonances 13 = .ok (.getfield 36, 3) := by decide +kernel
theorem dX10_dissonances_16 : decode cX10_dissonances 16 = .ok (.invokevirtual 254, 3) := by decide +kernel
theorem dX10_dissonances_19 : decode cX10_dissonances 19 = .ok (.ireturn, 1) := by decide +kernel
def f_X10_dissonances (x_valley_bells_pitches : (Nat → Int32)) (x_valley_bells_count : Int32) (x_valley_melodies_lengths : (Nat → Int32)) (x_valley_melodies_entries : (Nat → Int32)) (x_valley_melodies_tones : (Nat → Int32)) (x_valley_cliffs_delays : (Nat → Int32)) (x_valley_cliffs_transpositions : (Nat → Int32)) (x_valley_cliffs_count : Int32) (x_chord_notes : (Nat → Int32)) (x_chord_size : Int32) (p1 : Int32) : Option (Int32 × (Nat → Int32) × Int32) :=
  q_bd (f_X2_listen x_chord_notes x_chord_size x_valley_bells_pitches x_valley_bells_count x_valley_melodies_lengths x_valley_melodies_entries x_valley_melodies_tones x_valley_cliffs_delays x_valley_cliffs_transpositions x_valley_cliffs_count p1) (fun q1 =>
  q_bd (f_X2_dissonantPairs q1.1 q1.2) (fun q2 =>
  some (q2, q1.1, q1.2)))
theorem hv_X10_dissonances : yX10_dissonances.cls = RX10 ∧ yX10_dissonances.cls ≠ "java/lang/invoke/MethodHandle" ∧ yX10_dissonances.cls ≠ "java/lang/invoke/VarHandle" ∧ (parseMethodDescriptor yX10_dissonances.desc).map (fun d => d.parameters.length) = some 1 := by decide +kernel
abbrev rm_X10_dissonances : Room := { frames := 5, cells := 0, slots := 0, locals := 115 }
set_option maxHeartbeats 4000000 in
set_option maxRecDepth 100000 in
theorem k_X10_dissonances (l : Launch) (E : ET) (a : Nat → Nat) (o : Nat) (x : VB_t) (p1 : Int32) (res : Int32 × (Nat → Int32) × Int32) (hF : f_X10_dissonances x.1.1.2.1.2.1 x.1.1.2.1.2.2 x.1.1.2.2.1.1 x.1.1.2.2.1.2.1 x.1.1.2.2.1.2.2 x.1.1.2.2.2.1 x.1.1.2.2.2.2.1 x.1.1.2.2.2.2.2 x.1.2.2.2.2.1 x.1.2.2.2.2.2.2 p1 = some res) (sz : Nat) : CtI l yX10_dissonances (mws yX10_dissonances cX10_dissonances 2 (some .int)) rm_X10_dissonances 0 0 [.ref (a o), .int p1] E (bl_VB E a o x) res.1 (bl_VB E a o ((x.1.1, x.1.2.1, x.1.2.2.1, x.1.2.2.2.1, (res.2.1, x.1.2.2.2.2.2.1, res.2.2)), (x.2.1, x.2.2.1, x.2.2.2.1, x.2.2.2.2.1, x.2.2.2.2.2))) sz := by
  refine mk_M (by decide +kernel) (Nat.le_of_ble_eq_true rfl) ?_
  intro p e s m below meth c A args Q ls hAe hsz hQ hx hb hr hml hin ha hown hlocks hA hz hzs hst hP hD hS hl
  have hown : s.vm.findClass RX10 = some m.cls := hown
  rw [hAe] at hQ
  subst hsz
  have hP : va_P E.1 vwCl (List.flatten [w_VBR a o x.2.2.2.1 x.2.2.2.2.1 x.2.2.2.2.2, w_ValleyR a (o + 1), w_Key E a (o + 2) x.1.1.1, w_Bells E a (o + 3) x.1.1.2.1, w_Mel E a (o + 6) x.1.1.2.2.1, w_Cliffs E a (o + 10) x.1.1.2.2.2, w_ValleyR a (o + 13), w_Key E a (o + 14) x.1.2.1.1, w_Bells E a (o + 15) x.1.2.1.2.1, w_Mel E a (o + 18) x.1.2.1.2.2.1, w_Cliffs E a (o + 22) x.1.2.1.2.2.2, w_Prog E a (o + 25) x.1.2.2.2.1, w_Chord E a (o + 31) x.1.2.2.2.2, w_Key E a (o + 34) x.2.1, w_Line E a (o + 35) x.2.2.1, w_Hist E a (o + 37) x.1.2.2.1]) s.heap := hP
  have hD : va_D A (List.flatten [w_VBR a o x.2.2.2.1 x.2.2.2.2.1 x.2.2.2.2.2, w_ValleyR a (o + 1), w_Key E a (o + 2) x.1.1.1, w_Bells E a (o + 3) x.1.1.2.1, w_Mel E a (o + 6) x.1.1.2.2.1, w_Cliffs E a (o + 10) x.1.1.2.2.2, w_ValleyR a (o + 13), w_Key E a (o + 14) x.1.2.1.1, w_Bells E a (o + 15) x.1.2.1.2.1, w_Mel E a (o + 18) x.1.2.1.2.2.1, w_Cliffs E a (o + 22) x.1.2.1.2.2.2, w_Prog E a (o + 25) x.1.2.2.2.1, w_Chord E a (o + 31) x.1.2.2.2.2, w_Key E a (o + 34) x.2.1, w_Line E a (o + 35) x.2.2.1, w_Hist E a (o + 37) x.1.2.2.1]) := hD
  have hl : lv_has ls 2 [(0, .ref (a o)), (1, .int p1)] := hl
  generalize hHe : s.heap = H at hP
  have hS : va_S A s.heap H [] := by rw [← hHe]; exact hS
  generalize ([] : List Loc) = locs at hS ⊢
  unfold f_X10_dissonances at hF
  refine lv_aload_n hx hb dX10_dissonances_0 rfl (lv_at hl 0 rfl) ?_
  refine va_get (D := E.1) (ci := 11) (v := .ref (a (o + 31))) (C := RX10) (T := TX10) (N := 10) hx hb ha in_X10 hown hst.k hP 0 rfl rfl 4 (by decide) (ha _ mw288) (fun _ h9 => h9) rfl dX10_dissonances_1 ?_
  refine lv_aload_n hx hb dX10_dissonances_4 rfl (lv_at hl 0 rfl) ?_
  refine va_get (D := E.1) (ci := 11) (v := .ref (a (o + 1))) (C := RX10) (T := TX10) (N := 10) hx hb ha in_X10 hown hst.k hP 0 rfl rfl 0 (by decide) (ha _ mw284) (fun _ h9 => h9) rfl dX10_dissonances_5 ?_
  refine lv_iload_n hx hb dX10_dissonances_8 rfl (lv_at hl 1 rfl) ?_
  obtain ⟨q1, hq1, hF⟩ := q_bdi hF
  refine cl_v (Lc := [w_Chord E a (o + 31) x.1.2.2.2.2, w_ValleyR a (o + 1), w_Key E a (o + 2) x.1.1.1, w_Bells E a (o + 3) x.1.1.2.1, w_Mel E a (o + 6) x.1.1.2.2.1, w_Cliffs E a (o + 10) x.1.1.2.2.2]) (Lc' := [w_Chord E a (o + 31) (q1.1, x.1.2.2.2.2.2.1, q1.2), w_ValleyR a (o + 1), w_Key E a (o + 2) x.1.1.1, w_Bells E a (o + 3) x.1.1.2.1, w_Mel E a (o + 6) x.1.1.2.2.1, w_Cliffs E a (o + 10) x.1.1.2.2.2]) (L' := [w_VBR a o x.2.2.2.1 x.2.2.2.2.1 x.2.2.2.2.2, w_ValleyR a (o + 1), w_Key E a (o + 2) x.1.1.1, w_Bells E a (o + 3) x.1.1.2.1, w_Mel E a (o + 6) x.1.1.2.2.1, w_Cliffs E a (o + 10) x.1.1.2.2.2, w_ValleyR a (o + 13), w_Key E a (o + 14) x.1.2.1.1, w_Bells E a (o + 15) x.1.2.1.2.1, w_Mel E a (o + 18) x.1.2.1.2.2.1, w_Cliffs E a (o + 22) x.1.2.1.2.2.2, w_Prog E a (o + 25) x.1.2.2.2.1, w_Chord E a (o + 31) (q1.1, x.1.2.2.2.2.2.1, q1.2), w_Key E a (o + 34) x.2.1, w_Line E a (o + 35) x.2.2.1, w_Hist E a (o + 37) x.1.2.2.1]) (va_runV (As := [.ref (a (o + 1)), .int p1]) (rest := []) ⟨hx, hb, hml, hown, ha⟩ (k_X2_listen l E a (o + 31) x.1.2.2.2.2 a (o + 1) x.1.1 p1 q1 hq1 H.size) (cwV 2 ha (gi_V (fun _ h => h) mw845 mw846 mw847 mw34 mw848) rfl rfl rfl hv_X2_listen ⟨(Nat.le_of_ble_eq_true rfl), (Nat.le_of_ble_eq_true rfl)⟩) ⟨pre_blind, va_recv hst.k (fr_P hP [12, 1, 2, 3, 4, 5] rfl) (ci := 4) (q0 := 0) rfl rfl, pre_at hP hD hS hz hzs hst [12, 1, 2, 3, 4, 5] (by decide) rfl rfl⟩ rfl rfl hl.1 rfl (lv_room (Nat.le_of_ble_eq_true rfl)) dX10_dissonances_9 ⟨(Nat.le_of_ble_eq_true rfl), (Nat.le_of_ble_eq_true rfl)⟩) hP hD hS hA [12, 1, 2, 3, 4, 5] (by decide) rfl rfl rfl rfl (fun H locs hP hD hS => ?_)
  refine lv_aload_n hx hb dX10_dissonances_12 rfl (lv_at hl 0 rfl) ?_
  refine va_get (D := E.1) (ci := 11) (v := .ref (a (o + 31))) (C := RX10) (T := TX10) (N := 10) hx hb ha in_X10 hown hst.k hP 0 rfl rfl 4 (by decide) (ha _ mw288) (fun _ h9 => h9) rfl dX10_dissonances_13 ?_
  obtain ⟨q2, hq2, hF⟩ := q_bdi hF
  refine cl_i (Lc := [w_Chord E a (o + 31) (q1.1, x.1.2.2.2.2.2.1, q1.2)]) (Lc' := [w_Chord E a (o + 31) (q1.1, x.1.2.2.2.2.2.1, q1.2)]) (L' := [w_VBR a o x.2.2.2.1 x.2.2.2.2.1 x.2.2.2.2.2, w_ValleyR a (o + 1), w_Key E a (o + 2) x.1.1.1, w_Bells E a (o + 3) x.1.1.2.1, w_Mel E a (o + 6) x.1.1.2.2.1, w_Cliffs E a (o + 10) x.1.1.2.2.2, w_ValleyR a (o + 13), w_Key E a (o + 14) x.1.2.1.1, w_Bells E a (o + 15) x.1.2.1.2.1, w_Mel E a (o + 18) x.1.2.1.2.2.1, w_Cliffs E a (o + 22) x.1.2.1.2.2.2, w_Prog E a (o + 25) x.1.2.2.2.1, w_Chord E a (o + 31) (q1.1, x.1.2.2.2.2.2.1, q1.2), w_Key E a (o + 34) x.2.1, w_Line E a (o + 35) x.2.2.1, w_Hist E a (o + 37) x.1.2.2.1]) (rv := q2) (va_runV (As := []) (rest := []) ⟨hx, hb, hml, hown, ha⟩ (k_X2_dissonantPairs l E a (o + 31) (q1.1, x.1.2.2.2.2.2.1, q1.2) q2 hq2 H.size) (cwV 0 ha (gi_V (fun _ h => h) mw874 mw875 mw876 mw34 mw877) rfl rfl rfl hv_X2_dissonantPairs ⟨(Nat.le_of_ble_eq_true rfl), (Nat.le_of_ble_eq_true rfl)⟩) ⟨pre_blind, va_recv hst.k (fr_P hP [12] rfl) (ci := 4) (q0 := 0) rfl rfl, pre_at hP hD hS hz hzs hst [12] (by decide) rfl rfl⟩ rfl rfl hl.1 rfl (lv_room (Nat.le_of_ble_eq_true rfl)) dX10_dissonances_16 ⟨(Nat.le_of_ble_eq_true rfl), (Nat.le_of_ble_eq_true rfl)⟩) hP hD hS hA [12] (by decide) rfl rfl rfl rfl (fun H locs hP hD hS => ?_)
  obtain rfl := Option.some.inj hF
  exact en_i hQ (Nat.le_of_ble_eq_true rfl) (Nat.le_of_ble_eq_true rfl) hx hb hr hlocks hP hD hS rfl dX10_dissonances_19

/-! X10_dissonancesByClasses -/
theorem dX10_dissonancesByClasses_0 : decode cX10_dissonancesByClasses 0 = .ok (.aload_n 0, 1) := by decide +kernel
theorem dX10_dissonancesByClasses_1 : decode cX10_dissonancesByClasses 1 = .ok (.getfield 36, 3) := by decide +kernel
theorem dX10_dissonancesByClasses_4 : decode cX10_dissonancesByClasses 4 = .ok (.aload_n 0, 1) := by decide +kernel
theorem dX10_dissonancesByClasses_5 : decode cX10_dissonancesByClasses 5 = .ok (.getfield 10, 3) := by decide +kernel
theorem dX10_dissonancesByClasses_8 : decode cX10_dissonancesByClasses 8 = .ok (.iload_n 1, 1) := by decide +kernel
theorem dX10_dissonancesByClasses_9 : decode cX10_dissonancesByClasses 9 = .ok (.invokevirtual 244, 3) := by decide +kernel
theorem dX10_dissonancesByClasses_12 : decode cX10_dissonancesByClasses 12 = .ok (.aload_n 0, 1) := by decide +kernel
theorem dX10_dissonancesByClasses_13 : decode cX10_dissonancesByClasses 13 = .ok (.getfield 36, 3) := by decide +kernel
theorem dX10_dissonancesByClasses_16 : decode cX10_dissonancesByClasses 16 = .ok (.invokevirtual 257, 3) := by decide +kernel
theorem dX10_dissonancesByClasses_19 : decode cX10_dissonancesByClasses 19 = .ok (.ireturn, 1) := by decide +kernel
def f_X10_dissonancesByClasses (x_valley_bells_pitches : (Nat → Int32)) (x_valley_bells_count : Int32) (x_valley_melodies_lengths : (Nat → Int32)) (x_valley_melodies_entries : (Nat → Int32)) (x_valley_melodies_tones : (Nat → Int32)) (x_valley_cliffs_delays : (Nat → Int32)) (x_valley_cliffs_transpositions : (Nat → Int32)) (x_valley_cliffs_count : Int32) (x_chord_notes : (Nat → Int32)) (x_chord_classCounts : (Nat → Int32)) (x_chord_size : Int32) (p1 : Int32) : Option (Int32 × (Nat → Int32) × (Nat → Int32) × Int32) :=
  q_bd (f_X2_listen x_chord_notes x_chord_size x_valley_bells_pitches x_valley_bells_count x_valley_melodies_lengths x_valley_melodies_entries x_valley_melodies_tones x_valley_cliffs_delays x_valley_cliffs_transpositions x_valley_cliffs_count p1) (fun q1 =>
  q_bd (f_X2_dissonantPairsByClasses q1.1 x_chord_classCounts q1.2) (fun q2 =>
  some (q2.1, q1.1, q2.2, q1.2)))
theorem hv_X10_dissonancesByClasses : yX10_dissonancesByClasses.cls = RX10 ∧ yX10_dissonancesByClasses.cls ≠ "java/lang/invoke/MethodHandle" ∧ yX10_dissonancesByClasses.cls ≠ "java/lang/invoke/VarHandle" ∧ (parseMethodDescriptor yX10_dissonancesByClasses.desc).map (fun d => d.parameters.length) = some 1 := by decide +kernel
abbrev rm_X10_dissonancesByClasses : Room := { frames := 5, cells := 0, slots := 0, locals := 115 }
set_option maxHeartbeats 4000000 in
set_option maxRecDepth 100000 in
theorem k_X10_dissonancesByClasses (l : Launch) (E : ET) (a : Nat → Nat) (o : Nat) (x : VB_t) (p1 : Int32) (res : Int32 × (Nat → Int32) × (Nat → Int32) × Int32) (hF : f_X10_dissonancesByClasses x.1.1.2.1.2.1 x.1.1.2.1.2.2 x.1.1.2.2.1.1 x.1.1.2.2.1.2.1 x.1.1.2.2.1.2.2 x.1.1.2.2.2.1 x.1.1.2.2.2.2.1 x.1.1.2.2.2.2.2 x.1.2.2.2.2.1 x.1.2.2.2.2.2.1 x.1.2.2.2.2.2.2 p1 = some res) (sz : Nat) : CtI l yX10_dissonancesByClasses (mws yX10_dissonancesByClasses cX10_dissonancesByClasses 2 (some .int)) rm_X10_dissonancesByClasses 0 0 [.ref (a o), .int p1] E (bl_VB E a o x) res.1 (bl_VB E a o ((x.1.1, x.1.2.1, x.1.2.2.1, x.1.2.2.2.1, (res.2.1, res.2.2.1, res.2.2.2)), (x.2.1, x.2.2.1, x.2.2.2.1, x.2.2.2.2.1, x.2.2.2.2.2))) sz := by
  refine mk_M (by decide +kernel) (Nat.le_of_ble_eq_true rfl) ?_
  intro p e s m below meth c A args Q ls hAe hsz hQ hx hb hr hml hin ha hown hlocks hA hz hzs hst hP hD hS hl
  have hown : s.vm.findClass RX10 = some m.cls := hown
  rw [hAe] at hQ
  subst hsz
  have hP : va_P E.1 vwCl (List.flatten [w_VBR a o x.2.2.2.1 x.2.2.2.2.1 x.2.2.2.2.2, w_ValleyR a (o + 1), w_Key E a (o + 2) x.1.1.1, w_Bells E a (o + 3) x.1.1.2.1, w_Mel E a (o + 6) x.1.1.2.2.1, w_Cliffs E a (o + 10) x.1.1.2.2.2, w_ValleyR a (o + 13), w_Key E a (o + 14) x.1.2.1.1, w_Bells E a (o + 15) x.1.2.1.2.1, w_Mel E a (o + 18) x.1.2.1.2.2.1, w_Cliffs E a (o + 22) x.1.2.1.2.2.2, w_Prog E a (o + 25) x.1.2.2.2.1, w_Chord E a (o + 31) x.1.2.2.2.2, w_Key E a (o + 34) x.2.1, w_Line E a (o + 35) x.2.2.1, w_Hist E a (o + 37) x.1.2.2.1]) s.heap := hP
  have hD : va_D A (List.flatten [w_VBR a o x.2.2.2.1 x.2.2.2.2.1 x.2.2.2.2.2, w_ValleyR a (o + 1), w_Key E a (o + 2) x.1.1.1, w_Bells E a (o + 3) x.1.1.2.1, w_Mel E a (o + 6) x.1.1.2.2.1, w_Cliffs E a (o + 10) x.1.1.2.2.2, w_ValleyR a (o + 13), w_Key E a (o + 14) x.1.2.1.1, w_Bells E a (o + 15) x.1.2.1.2.1, w_Mel E a (o + 18) x.1.2.1.2.2.1, w_Cliffs E a (o + 22) x.1.2.1.2.2.2, w_Prog E a (o + 25) x.1.2.2.2.1, w_Chord E a (o + 31) x.1.2.2.2.2, w_Key E a (o + 34) x.2.1, w_Line E a (o + 35) x.2.2.1, w_Hist E a (o + 37) x.1.2.2.1]) := hD
  have hl : lv_has ls 2 [(0, .ref (a o)), (1, .int p1)] := hl
  generalize hHe : s.heap = H at hP
  have hS : va_S A s.heap H [] := by rw [← hHe]; exact hS
  generalize ([] : List Loc) = locs at hS ⊢
  unfold f_X10_dissonancesByClasses at hF
  refine lv_aload_n hx hb dX10_dissonancesByClasses_0 rfl (lv_at hl 0 rfl) ?_
  refine va_get (D := E.1) (ci := 11) (v := .ref (a (o + 31))) (C := RX10) (T := TX10) (N := 10) hx hb ha in_X10 hown hst.k hP 0 rfl rfl 4 (by decide) (ha _ mw288) (fun _ h9 => h9) rfl dX10_dissonancesByClasses_1 ?_
  refine lv_aload_n hx hb dX10_dissonancesByClasses_4 rfl (lv_at hl 0 rfl) ?_
  refine va_get (D := E.1) (ci := 11) (v := .ref (a (o + 1))) (C := RX10) (T := TX10) (N := 10) hx hb ha in_X10 hown hst.k hP 0 rfl rfl 0 (by decide) (ha _ mw284) (fun _ h9 => h9) rfl dX10_dissonancesByClasses_5 ?_
  refine lv_iload_n hx hb dX10_dissonancesByClasses_8 rfl (lv_at hl 1 rfl) ?_
  obtain ⟨q1, hq1, hF⟩ := q_bdi hF
  refine cl_v (Lc := [w_Chord E a (o + 31) x.1.2.2.2.2, w_ValleyR a (o + 1), w_Key E a (o + 2) x.1.1.1, w_Bells E a (o + 3) x.1.1.2.1, w_Mel E a (o + 6) x.1.1.2.2.1, w_Cliffs E a (o + 10) x.1.1.2.2.2]) (Lc' := [w_Chord E a (o + 31) (q1.1, x.1.2.2.2.2.2.1, q1.2), w_ValleyR a (o + 1), w_Key E a (o + 2) x.1.1.1, w_Bells E a (o + 3) x.1.1.2.1, w_Mel E a (o + 6) x.1.1.2.2.1, w_Cliffs E a (o + 10) x.1.1.2.2.2]) (L' := [w_VBR a o x.2.2.2.1 x.2.2.2.2.1 x.2.2.2.2.2, w_ValleyR a (o + 1), w_Key E a (o + 2) x.1.1.1, w_Bells E a (o + 3) x.1.1.2.1, w_Mel E a (o + 6) x.1.1.2.2.1, w_Cliffs E a (o + 10) x.1.1.2.2.2, w_ValleyR a (o + 13), w_Key E a (o + 14) x.1.2.1.1, w_Bells E a (o + 15) x.1.2.1.2.1, w_Mel E a (o + 18) x.1.2.1.2.2.1, w_Cliffs E a (o + 22) x.1.2.1.2.2.2, w_Prog E a (o + 25) x.1.2.2.2.1, w_Chord E a (o + 31) (q1.1, x.1.2.2.2.2.2.1, q1.2), w_Key E a (o + 34) x.2.1, w_Line E a (o + 35) x.2.2.1, w_Hist E a (o + 37) x.1.2.2.1]) (va_runV (As := [.ref (a (o + 1)), .int p1]) (rest := []) ⟨hx, hb, hml, hown, ha⟩ (k_X2_listen l E a (o + 31) x.1.2.2.2.2 a (o + 1) x.1.1 p1 q1 hq1 H.size) (cwV 2 ha (gi_V (fun _ h => h) mw845 mw846 mw847 mw34 mw848) rfl rfl rfl hv_X2_listen ⟨(Nat.le_of_ble_eq_true rfl), (Nat.le_of_ble_eq_true rfl)⟩) ⟨pre_blind, va_recv hst.k (fr_P hP [12, 1, 2, 3, 4, 5] rfl) (ci := 4) (q0 := 0) rfl rfl, pre_at hP hD hS hz hzs hst [12, 1, 2, 3, 4, 5] (by decide) rfl rfl⟩ rfl rfl hl.1 rfl (lv_room (Nat.le_of_ble_eq_true rfl)) dX10_dissonancesByClasses_9 ⟨(Nat.le_of_ble_eq_true rfl), (Nat.le_of_ble_eq_true rfl)⟩) hP hD hS hA [12, 1, 2, 3, 4, 5] (by decide) rfl rfl rfl rfl (fun H locs hP hD hS => ?_)
  refine lv_aload_n hx hb dX10_dissonancesByClasses_12 rfl (lv_at hl 0 rfl) ?_
  refine va_get (D := E.1) (ci := 11) (v := .ref (a (o + 31))) (C := RX10) (T := TX10) (N := 10) hx hb ha in_X10 hown hst.k hP 0 rfl rfl 4 (by decide) (ha _ mw288) (fun _ h9 => h9) rfl dX10_dissonancesByClasses_13 ?_
  obtain ⟨q2, hq2, hF⟩ := q_bdi hF
  refine cl_i (Lc := [w_Chord E a (o + 31) (q1.1, x.1.2.2.2.2.2.1, q1.2)]) (Lc' := [w_Chord E a (o + 31) (q1.1, q2.2, q1.2)]) (L' := [w_VBR a o x.2.2.2.1 x.2.2.2.2.1 x.2.2.2.2.2, w_ValleyR a (o + 1), w_Key E a (o + 2) x.1.1.1, w_Bells E a (o + 3) x.1.1.2.1, w_Mel E a (o + 6) x.1.1.2.2.1, w_Cliffs E a (o + 10) x.1.1.2.2.2, w_ValleyR a (o + 13), w_Key E a (o + 14) x.1.2.1.1, w_Bells E a (o + 15) x.1.2.1.2.1, w_Mel E a (o + 18) x.1.2.1.2.2.1, w_Cliffs E a (o + 22) x.1.2.1.2.2.2, w_Prog E a (o + 25) x.1.2.2.2.1, w_Chord E a (o + 31) (q1.1, q2.2, q1.2), w_Key E a (o + 34) x.2.1, w_Line E a (o + 35) x.2.2.1, w_Hist E a (o + 37) x.1.2.2.1]) (rv := q2.1) (va_runV (As := []) (rest := []) ⟨hx, hb, hml, hown, ha⟩ (k_X2_dissonantPairsByClasses l E a (o + 31) (q1.1, x.1.2.2.2.2.2.1, q1.2) q2 hq2 H.size) (cwV 0 ha (gi_V (fun _ h => h) mw889 mw890 mw891 mw34 mw892) rfl rfl rfl hv_X2_dissonantPairsByClasses ⟨(Nat.le_of_ble_eq_true rfl), (Nat.le_of_ble_eq_true rfl)⟩) ⟨pre_blind, va_recv hst.k (fr_P hP [12] rfl) (ci := 4) (q0 := 0) rfl rfl, pre_at hP hD hS hz hzs hst [12] (by decide) rfl rfl⟩ rfl rfl hl.1 rfl (lv_room (Nat.le_of_ble_eq_true rfl)) dX10_dissonancesByClasses_16 ⟨(Nat.le_of_ble_eq_true rfl), (Nat.le_of_ble_eq_true rfl)⟩) hP hD hS hA [12] (by decide) rfl rfl rfl rfl (fun H locs hP hD hS => ?_)
  obtain rfl := Option.some.inj hF
  exact en_i hQ (Nat.le_of_ble_eq_true rfl) (Nat.le_of_ble_eq_true rfl) hx hb hr hlocks hP hD hS rfl dX10_dissonancesByClasses_19

/-! X10_thirds -/
theorem dX10_thirds_0 : decode cX10_thirds 0 = .ok (.aload_n 0, 1) := by decide +kernel
theorem dX10_thirds_1 : decode cX10_thirds 1 = .ok (.getfield 36, 3) := by decide +kernel
theorem dX10_thirds_4 : decode cX10_thirds 4 = .ok (.aload_n 0, 1) := by decide +kernel
theorem dX10_thirds_5 : decode cX10_thirds 5 = .ok (.getfield 10, 3) := by decide +kernel
theorem dX10_thirds_8 : decode cX10_thirds 8 = .ok (.iload_n 1, 1) := by decide +kernel
theorem dX10_thirds_9 : decode cX10_thirds 9 = .ok (.invokevirtual 244, 3) := by decide +kernel
theorem dX10_thirds_12 : decode cX10_thirds 12 = .ok (.aload_n 0, 1) := by decide +kernel
theorem dX10_thirds_13 : decode cX10_thirds 13 = .ok (.getfield 36, 3) := by decide +kernel
theorem dX10_thirds_16 : decode cX10_thirds 16 = .ok (.getstatic 260, 3) := by decide +kernel
theorem dX10_thirds_19 : decode cX10_thirds 19 = .ok (.invokevirtual 263, 3) := by decide +kernel
theorem dX10_thirds_22 : decode cX10_thirds 22 = .ok (.ireturn, 1) := by decide +kernel
def f_X10_thirds (x_valley_bells_pitches : (Nat → Int32)) (x_valley_bells_count : Int32) (x_valley_melodies_lengths : (Nat → Int32)) (x_valley_melodies_entries : (Nat → Int32)) (x_valley_melodies_tones : (Nat → Int32)) (x_valley_cliffs_delays : (Nat → Int32)) (x_valley_cliffs_transpositions : (Nat → Int32)) (x_valley_cliffs_count : Int32) (x_chord_notes : (Nat → Int32)) (x_chord_size : Int32) (p1 : Int32) : Option (Int32 × (Nat → Int32) × Int32) :=
  q_bd (f_X2_listen x_chord_notes x_chord_size x_valley_bells_pitches x_valley_bells_count x_valley_melodies_lengths x_valley_melodies_entries x_valley_melodies_tones x_valley_cliffs_delays x_valley_cliffs_transpositions x_valley_cliffs_count p1) (fun q1 =>
  q_bd (f_X2_pairsOf q1.1 q1.2 tb_thirds) (fun q2 =>
  some (q2, q1.1, q1.2)))
theorem hv_X10_thirds : yX10_thirds.cls = RX10 ∧ yX10_thirds.cls ≠ "java/lang/invoke/MethodHandle" ∧ yX10_thirds.cls ≠ "java/lang/invoke/VarHandle" ∧ (parseMethodDescriptor yX10_thirds.desc).map (fun d => d.parameters.length) = some 1 := by decide +kernel
abbrev rm_X10_thirds : Room := { frames := 5, cells := 0, slots := 0, locals := 115 }
set_option maxHeartbeats 4000000 in
set_option maxRecDepth 100000 in
theorem k_X10_thirds (l : Launch) (E : ET) (a : Nat → Nat) (o : Nat) (x : VB_t) (p1 : Int32) (res : Int32 × (Nat → Int32) × Int32) (hF : f_X10_thirds x.1.1.2.1.2.1 x.1.1.2.1.2.2 x.1.1.2.2.1.1 x.1.1.2.2.1.2.1 x.1.1.2.2.1.2.2 x.1.1.2.2.2.1 x.1.1.2.2.2.2.1 x.1.1.2.2.2.2.2 x.1.2.2.2.2.1 x.1.2.2.2.2.2.2 p1 = some res) (sz : Nat) : CtI l yX10_thirds (mws yX10_thirds cX10_thirds 2 (some .int)) rm_X10_thirds 0 0 [.ref (a o), .int p1] E (bl_VB E a o x) res.1 (bl_VB E a o ((x.1.1, x.1.2.1, x.1.2.2.1, x.1.2.2.2.1, (res.2.1, x.1.2.2.2.2.2.1, res.2.2)), (x.2.1, x.2.2.1, x.2.2.2.1, x.2.2.2.2.1, x.2.2.2.2.2))) sz := by
  refine mk_M (by decide +kernel) (Nat.le_of_ble_eq_true rfl) ?_
  intro p e s m below meth c A args Q ls hAe hsz hQ hx hb hr hml hin ha hown hlocks hA hz hzs hst hP hD hS hl
  have hown : s.vm.findClass RX10 = some m.cls := hown
  rw [hAe] at hQ
  subst hsz
  have hP : va_P E.1 vwCl (List.flatten [w_VBR a o x.2.2.2.1 x.2.2.2.2.1 x.2.2.2.2.2, w_ValleyR a (o + 1), w_Key E a (o + 2) x.1.1.1, w_Bells E a (o + 3) x.1.1.2.1, w_Mel E a (o + 6) x.1.1.2.2.1, w_Cliffs E a (o + 10) x.1.1.2.2.2, w_ValleyR a (o + 13), w_Key E a (o + 14) x.1.2.1.1, w_Bells E a (o + 15) x.1.2.1.2.1, w_Mel E a (o + 18) x.1.2.1.2.2.1, w_Cliffs E a (o + 22) x.1.2.1.2.2.2, w_Prog E a (o + 25) x.1.2.2.2.1, w_Chord E a (o + 31) x.1.2.2.2.2, w_Key E a (o + 34) x.2.1, w_Line E a (o + 35) x.2.2.1, w_Hist E a (o + 37) x.1.2.2.1]) s.heap := hP
  have hD : va_D A (List.flatten [w_VBR a o x.2.2.2.1 x.2.2.2.2.1 x.2.2.2.2.2, w_ValleyR a (o + 1), w_Key E a (o + 2) x.1.1.1, w_Bells E a (o + 3) x.1.1.2.1, w_Mel E a (o + 6) x.1.1.2.2.1, w_Cliffs E a (o + 10) x.1.1.2.2.2, w_ValleyR a (o + 13), w_Key E a (o + 14) x.1.2.1.1, w_Bells E a (o + 15) x.1.2.1.2.1, w_Mel E a (o + 18) x.1.2.1.2.2.1, w_Cliffs E a (o + 22) x.1.2.1.2.2.2, w_Prog E a (o + 25) x.1.2.2.2.1, w_Chord E a (o + 31) x.1.2.2.2.2, w_Key E a (o + 34) x.2.1, w_Line E a (o + 35) x.2.2.1, w_Hist E a (o + 37) x.1.2.2.1]) := hD
  have hl : lv_has ls 2 [(0, .ref (a o)), (1, .int p1)] := hl
  generalize hHe : s.heap = H at hP
  have hS : va_S A s.heap H [] := by rw [← hHe]; exact hS
  generalize ([] : List Loc) = locs at hS ⊢
  unfold f_X10_thirds at hF
  refine lv_aload_n hx hb dX10_thirds_0 rfl (lv_at hl 0 rfl) ?_
  refine va_get (D := E.1) (ci := 11) (v := .ref (a (o + 31))) (C := RX10) (T := TX10) (N := 10) hx hb ha in_X10 hown hst.k hP 0 rfl rfl 4 (by decide) (ha _ mw288) (fun _ h9 => h9) rfl dX10_thirds_1 ?_
  refine lv_aload_n hx hb dX10_thirds_4 rfl (lv_at hl 0 rfl) ?_
  refine va_get (D := E.1) (ci := 11) (v := .ref (a (o + 1))) (C := RX10) (T := TX10) (N := 10) hx hb ha in_X10 hown hst.k hP 0 rfl rfl 0 (by decide) (ha _ mw284) (fun _ h9 => h9) rfl dX10_thirds_5 ?_
  refine lv_iload_n hx hb dX10_thirds_8 rfl (lv_at hl 1 rfl) ?_
  obtain ⟨q1, hq1, hF⟩ := q_bdi hF
  refine cl_v (Lc := [w_Chord E a (o + 31) x.1.2.2.2.2, w_ValleyR a (o + 1), w_Key E a (o + 2) x.1.1.1, w_Bells E a (o + 3) x.1.1.2.1, w_Mel E a (o + 6) x.1.1.2.2.1, w_Cliffs E a (o + 10) x.1.1.2.2.2]) (Lc' := [w_Chord E a (o + 31) (q1.1, x.1.2.2.2.2.2.1, q1.2), w_ValleyR a (o + 1), w_Key E a (o + 2) x.1.1.1, w_Bells E a (o + 3) x.1.1.2.1, w_Mel E a (o + 6) x.1.1.2.2.1, w_Cliffs E a (o + 10) x.1.1.2.2.2]) (L' := [w_VBR a o x.2.2.2.1 x.2.2.2.2.1 x.2.2.2.2.2, w_ValleyR a (o + 1), w_Key E a (o + 2) x.1.1.1, w_Bells E a (o + 3) x.1.1.2.1, w_Mel E a (o + 6) x.1.1.2.2.1, w_Cliffs E a (o + 10) x.1.1.2.2.2, w_ValleyR a (o + 13), w_Key E a (o + 14) x.1.2.1.1, w_Bells E a (o + 15) x.1.2.1.2.1, w_Mel E a (o + 18) x.1.2.1.2.2.1, w_Cliffs E a (o + 22) x.1.2.1.2.2.2, w_Prog E a (o + 25) x.1.2.2.2.1, w_Chord E a (o + 31) (q1.1, x.1.2.2.2.2.2.1, q1.2), w_Key E a (o + 34) x.2.1, w_Line E a (o + 35) x.2.2.1, w_Hist E a (o + 37) x.1.2.2.1]) (va_runV (As := [.ref (a (o + 1)), .int p1]) (rest := []) ⟨hx, hb, hml, hown, ha⟩ (k_X2_listen l E a (o + 31) x.1.2.2.2.2 a (o + 1) x.1.1 p1 q1 hq1 H.size) (cwV 2 ha (gi_V (fun _ h => h) mw845 mw846 mw847 mw34 mw848) rfl rfl rfl hv_X2_listen ⟨(Nat.le_of_ble_eq_true rfl), (Nat.le_of_ble_eq_true rfl)⟩) ⟨pre_blind, va_recv hst.k (fr_P hP [12, 1, 2, 3, 4, 5] rfl) (ci := 4) (q0 := 0) rfl rfl, pre_at hP hD hS hz hzs hst [12, 1, 2, 3, 4, 5] (by decide) rfl rfl⟩ rfl rfl hl.1 rfl (lv_room (Nat.le_of_ble_eq_true rfl)) dX10_thirds_9 ⟨(Nat.le_of_ble_eq_true rfl), (Nat.le_of_ble_eq_true rfl)⟩) hP hD hS hA [12, 1, 2, 3, 4, 5] (by decide) rfl rfl rfl rfl (fun H locs hP hD hS => ?_)
  refine lv_aload_n hx hb dX10_thirds_12 rfl (lv_at hl 0 rfl) ?_
  refine va_get (D := E.1) (ci := 11) (v := .ref (a (o + 31))) (C := RX10) (T := TX10) (N := 10) hx hb ha in_X10 hown hst.k hP 0 rfl rfl 4 (by decide) (ha _ mw288) (fun _ h9 => h9) rfl dX10_thirds_13 ?_
  refine va_gets (v := .ref (E.2 11)) hx hb (sz1 hst hz) hS hown (ha _ mw902) (fun _ h9 => h9) dX10_thirds_16 ?_
  obtain ⟨q2, hq2, hF⟩ := q_bdi hF
  refine cl_i (Lc := [w_Chord E a (o + 31) (q1.1, x.1.2.2.2.2.2.1, q1.2)]) (Lc' := [w_Chord E a (o + 31) (q1.1, x.1.2.2.2.2.2.1, q1.2)]) (L' := [w_VBR a o x.2.2.2.1 x.2.2.2.2.1 x.2.2.2.2.2, w_ValleyR a (o + 1), w_Key E a (o + 2) x.1.1.1, w_Bells E a (o + 3) x.1.1.2.1, w_Mel E a (o + 6) x.1.1.2.2.1, w_Cliffs E a (o + 10) x.1.1.2.2.2, w_ValleyR a (o + 13), w_Key E a (o + 14) x.1.2.1.1, w_Bells E a (o + 15) x.1.2.1.2.1, w_Mel E a (o + 18) x.1.2.1.2.2.1, w_Cliffs E a (o + 22) x.1.2.1.2.2.2, w_Prog E a (o + 25) x.1.2.2.2.1, w_Chord E a (o + 31) (q1.1, x.1.2.2.2.2.2.1, q1.2), w_Key E a (o + 34) x.2.1, w_Line E a (o + 35) x.2.2.1, w_Hist E a (o + 37) x.1.2.2.1]) (rv := q2) (va_runV (As := [.ref (E.2 11)]) (rest := []) ⟨hx, hb, hml, hown, ha⟩ (k_X2_pairsOf l E a (o + 31) (q1.1, x.1.2.2.2.2.2.1, q1.2) tb_thirds (E.2 11) (mt1 E) q2 hq2 H.size) (cwV 1 ha (gi_V (fun _ h => h) mw904 mw881 mw882 mw34 mw883) rfl rfl rfl hv_X2_pairsOf ⟨(Nat.le_of_ble_eq_true rfl), (Nat.le_of_ble_eq_true rfl)⟩) ⟨pre_blind, va_recv hst.k (fr_P hP [12] rfl) (ci := 4) (q0 := 0) rfl rfl, pre_at hP hD hS hz hzs hst [12] (by decide) rfl rfl⟩ rfl rfl hl.1 rfl (lv_room (Nat.le_of_ble_eq_true rfl)) dX10_thirds_19 ⟨(Nat.le_of_ble_eq_true rfl), (Nat.le_of_ble_eq_true rfl)⟩) hP hD hS hA [12] (by decide) rfl rfl rfl rfl (fun H locs hP hD hS => ?_)
  obtain rfl := Option.some.inj hF
  exact en_i hQ (Nat.le_of_ble_eq_true rfl) (Nat.le_of_ble_eq_true rfl) hx hb hr hlocks hP hD hS rfl dX10_thirds_22

/-! X10_lastBeat -/
theorem dX10_lastBeat_0 : decode cX10_lastBeat 0 = .ok (.iconst (-1), 1) := by decide +kernel
theorem dX10_lastBeat_1 : decode cX10_lastBeat 1 = .ok (.istore_n 1, 1) := by decide +kernel
theorem dX10_lastBeat_2 : decode cX10_lastBeat 2 = .ok (.iconst 0, 1) := by decide +kernel
theorem dX10_lastBeat_3 : decode cX10_lastBeat 3 = .ok (.istore_n 2, 1) := by decide +kernel
theorem dX10_lastBeat_4 : decode cX10_lastBeat 4 = .ok (.iload_n 2, 1) := by decide +kernel
theorem dX10_lastBeat_5 : decode cX10_lastBeat 5 = .ok (.bipush 30, 2) := by decide +kernel
theorem dX10_lastBeat_7 : decode cX10_lastBeat 7 = .ok (.if_icmp .gt 33, 3) := by decide +kernel
theorem dX10_lastBeat_10 : decode cX10_lastBeat 10 = .ok (.aload_n 0, 1) := by decide +kernel
theorem dX10_lastBeat_11 : decode cX10_lastBeat 11 = .ok (.getfield 36, 3) := by decide +kernel
theorem dX10_lastBeat_14 : decode cX10_lastBeat 14 = .ok (.aload_n 0, 1) := by decide +kernel
theorem dX10_lastBeat_15 : decode cX10_lastBeat 15 = .ok (.getfield 10, 3) := by decide +kernel
theorem dX10_lastBeat_18 : decode cX10_lastBeat 18 = .ok (.iload_n 2, 1) := by decide +kernel
theorem dX10_lastBeat_19 : decode cX10_lastBeat 19 = .ok (.invokevirtual 244, 3) := by decide +kernel
theorem dX10_lastBeat_22 : decode cX10_lastBeat 22 = .ok (.aload_n 0, 1) := by decide +kernel
theorem dX10_lastBeat_23 : decode cX10_lastBeat 23 = .ok (.getfield 36, 3) := by decide +kernel
theorem dX10_lastBeat_26 : decode cX10_lastBeat 26 = .ok (.getfield 248, 3) := by decide +kernel
theorem dX10_lastBeat_29 : decode cX10_lastBeat 29 = .ok (.ifCond .le 5, 3) := by decide +kernel
theorem dX10_lastBeat_32 : decode cX10_lastBeat 32 = .ok (.iload_n 2, 1) := by decide +kernel
theorem dX10_lastBeat_33 : decode cX10_lastBeat 33 = .ok (.istore_n 1, 1) := by decide +kernel
theorem dX10_lastBeat_34 : decode cX10_lastBeat 34 = .ok (.iinc 2 1, 3) := by decide +kernel
theorem dX10_lastBeat_37 : decode cX10_lastBeat 37 = .ok (.goto (-33), 3) := by decide +kernel
theorem dX10_lastBeat_40 : decode cX10_lastBeat 40 = .ok (.iload_n 1, 1) := by decide +kernel
theorem dX10_lastBeat_41 : decode cX10_lastBeat 41 = .ok (.invokestatic 267, 3) := by decide +kernel
theorem dX10_lastBeat_44 : decode cX10_lastBeat 44 = .ok (.iload_n 1, 1) := by decide +kernel
theorem dX10_lastBeat_45 : decode cX10_lastBeat 45 = .ok (.ireturn, 1) := by decide +kernel
def f_X10_lastBeat_L4 (x_valley_bells_pitches : (Nat → Int32)) (x_valley_bells_count : Int32) (x_valley_melodies_lengths : (Nat → Int32)) (x_valley_melodies_entries : (Nat → Int32)) (x_valley_melodies_tones : (Nat → Int32)) (x_valley_cliffs_delays : (Nat → Int32)) (x_valley_cliffs_transpositions : (Nat → Int32)) (x_valley_cliffs_count : Int32) (K4 : Int32 → (Nat → Int32) → Int32 → Option ((Int32 ⊕ String) × (Nat → Int32) × Int32)) : Nat → Int32 → Int32 → (Nat → Int32) → Int32 → Option ((Int32 ⊕ String) × (Nat → Int32) × Int32)
  | 0, _, _, _, _ => none
  | n4 + 1, i1, i2, i3, i4 =>
    q_br (30 < i1) (
  K4 i2 i3 i4) (
  q_bd (f_X2_listen i3 i4 x_valley_bells_pitches x_valley_bells_count x_valley_melodies_lengths x_valley_melodies_entries x_valley_melodies_tones x_valley_cliffs_delays x_valley_cliffs_transpositions x_valley_cliffs_count i1) (fun q8 =>
  q_lt (fun (j9 : Int32) =>
  q_lt (i1 + 1 : Int32) (fun v10 =>
  f_X10_lastBeat_L4 x_valley_bells_pitches x_valley_bells_count x_valley_melodies_lengths x_valley_melodies_entries x_valley_melodies_tones x_valley_cliffs_delays x_valley_cliffs_transpositions x_valley_cliffs_count K4 n4 v10 j9 q8.1 q8.2)) (fun (J34 : Int32 → Option ((Int32 ⊕ String) × (Nat → Int32) × Int32)) =>
  q_br (q8.2 ≤ 0) (
  J34 i2) (
  J34 i1))))
def f_X10_lastBeat (x_valley_bells_pitches : (Nat → Int32)) (x_valley_bells_count : Int32) (x_valley_melodies_lengths : (Nat → Int32)) (x_valley_melodies_entries : (Nat → Int32)) (x_valley_melodies_tones : (Nat → Int32)) (x_valley_cliffs_delays : (Nat → Int32)) (x_valley_cliffs_transpositions : (Nat → Int32)) (x_valley_cliffs_count : Int32) (x_chord_notes : (Nat → Int32)) (x_chord_size : Int32) : Option ((Int32 ⊕ String) × (Nat → Int32) × Int32) :=
  f_X10_lastBeat_L4 x_valley_bells_pitches x_valley_bells_count x_valley_melodies_lengths x_valley_melodies_entries x_valley_melodies_tones x_valley_cliffs_delays x_valley_cliffs_transpositions x_valley_cliffs_count (fun y5 y6 y7 =>
  q_bd (f_X10_requireSound y5) (fun q11 =>
  q_sm q11 (fun X => some (Sum.inr X, y6, y7)) (fun r12 =>
  some (Sum.inl y5, y6, y7)))) 2000 0 (-1) x_chord_notes x_chord_size
theorem hv_X10_lastBeat : yX10_lastBeat.cls = RX10 ∧ yX10_lastBeat.cls ≠ "java/lang/invoke/MethodHandle" ∧ yX10_lastBeat.cls ≠ "java/lang/invoke/VarHandle" ∧ (parseMethodDescriptor yX10_lastBeat.desc).map (fun d => d.parameters.length) = some 0 := by decide +kernel
abbrev rm_X10_lastBeat : Room := { frames := 7, cells := 1, slots := 6, locals := 115 }
set_option maxHeartbeats 4000000 in
set_option maxRecDepth 100000 in
theorem k_X10_lastBeat (l : Launch) (E : ET) (a : Nat → Nat) (o : Nat) (x : VB_t) (res : (Int32 ⊕ String) × (Nat → Int32) × Int32) (hF : f_X10_lastBeat x.1.1.2.1.2.1 x.1.1.2.1.2.2 x.1.1.2.2.1.1 x.1.1.2.2.1.2.1 x.1.1.2.2.1.2.2 x.1.1.2.2.2.1 x.1.1.2.2.2.2.1 x.1.1.2.2.2.2.2 x.1.2.2.2.2.1 x.1.2.2.2.2.2.2 = some res) (sz : Nat) (hlt : l.stackTraces = false) : CxI l yX10_lastBeat (mws yX10_lastBeat cX10_lastBeat 3 (some .int)) rm_X10_lastBeat 1 6 [.ref (a o)] E (bl_VB E a o x) res.1 (bl_VB E a o ((x.1.1, x.1.2.1, x.1.2.2.1, x.1.2.2.2.1, (res.2.1, x.1.2.2.2.2.2.1, res.2.2)), (x.2.1, x.2.2.1, x.2.2.2.1, x.2.2.2.2.1, x.2.2.2.2.2))) sz := by
  refine mk_X (by decide +kernel) (Nat.le_of_ble_eq_true rfl) ?_
  intro p e s m below meth c A args Q ls hAe hsz hQ hx hb hr hml hin ha hown hlocks hA hz hzs hst hexc hP hD hS hl
  have hown : s.vm.findClass RX10 = some m.cls := hown
  rw [hAe] at hQ
  subst hsz
  have hP : va_P E.1 vwCl (List.flatten [w_VBR a o x.2.2.2.1 x.2.2.2.2.1 x.2.2.2.2.2, w_ValleyR a (o + 1), w_Key E a (o + 2) x.1.1.1, w_Bells E a (o + 3) x.1.1.2.1, w_Mel E a (o + 6) x.1.1.2.2.1, w_Cliffs E a (o + 10) x.1.1.2.2.2, w_ValleyR a (o + 13), w_Key E a (o + 14) x.1.2.1.1, w_Bells E a (o + 15) x.1.2.1.2.1, w_Mel E a (o + 18) x.1.2.1.2.2.1, w_Cliffs E a (o + 22) x.1.2.1.2.2.2, w_Prog E a (o + 25) x.1.2.2.2.1, w_Chord E a (o + 31) x.1.2.2.2.2, w_Key E a (o + 34) x.2.1, w_Line E a (o + 35) x.2.2.1, w_Hist E a (o + 37) x.1.2.2.1]) s.heap := hP
  have hD : va_D A (List.flatten [w_VBR a o x.2.2.2.1 x.2.2.2.2.1 x.2.2.2.2.2, w_ValleyR a (o + 1), w_Key E a (o + 2) x.1.1.1, w_Bells E a (o + 3) x.1.1.2.1, w_Mel E a (o + 6) x.1.1.2.2.1, w_Cliffs E a (o + 10) x.1.1.2.2.2, w_ValleyR a (o + 13), w_Key E a (o + 14) x.1.2.1.1, w_Bells E a (o + 15) x.1.2.1.2.1, w_Mel E a (o + 18) x.1.2.1.2.2.1, w_Cliffs E a (o + 22) x.1.2.1.2.2.2, w_Prog E a (o + 25) x.1.2.2.2.1, w_Chord E a (o + 31) x.1.2.2.2.2, w_Key E a (o + 34) x.2.1, w_Line E a (o + 35) x.2.2.1, w_Hist E a (o + 37) x.1.2.2.1]) := hD
  have hl : lv_has ls 3 [(0, .ref (a o))] := hl
  generalize hHe : s.heap = H at hP
  have hS : va_S A s.heap H [] := by rw [← hHe]; exact hS
  generalize ([] : List Loc) = locs at hS ⊢
  unfold f_X10_lastBeat at hF
  refine lv_iconst (v := (-1)) hx hb dX10_lastBeat_0 (by decide) ?_
  refine lv_istore_n (lv' := [(1, .int (-1)), (0, .ref (a o))]) hx hb dX10_lastBeat_1 rfl hl (by decide) rfl (fun ls hl => ?_)
  refine lv_iconst (v := 0) hx hb dX10_lastBeat_2 (by decide) ?_
  refine lv_istore_n (lv' := [(2, .int 0), (1, .int (-1)), (0, .ref (a o))]) hx hb dX10_lastBeat_3 rfl hl (by decide) rfl (fun ls hl => ?_)
  have key4 : ∀ (K : Int32 → (Nat → Int32) → Int32 → Option ((Int32 ⊕ String) × (Nat → Int32) × Int32)), (∀ (y5 : Int32) (y6 : (Nat → Int32)) (y7 : Int32) (H : Heap) (locs : List Loc) (ls : Array Slot), K y5 y6 y7 = some res → va_P E.1 vwCl (List.flatten [w_VBR a o x.2.2.2.1 x.2.2.2.2.1 x.2.2.2.2.2, w_ValleyR a (o + 1), w_Key E a (o + 2) x.1.1.1, w_Bells E a (o + 3) x.1.1.2.1, w_Mel E a (o + 6) x.1.1.2.2.1, w_Cliffs E a (o + 10) x.1.1.2.2.2, w_ValleyR a (o + 13), w_Key E a (o + 14) x.1.2.1.1, w_Bells E a (o + 15) x.1.2.1.2.1, w_Mel E a (o + 18) x.1.2.1.2.2.1, w_Cliffs E a (o + 22) x.1.2.1.2.2.2, w_Prog E a (o + 25) x.1.2.2.2.1, w_Chord E a (o + 31) (y6, x.1.2.2.2.2.2.1, y7), w_Key E a (o + 34) x.2.1, w_Line E a (o + 35) x.2.2.1, w_Hist E a (o + 37) x.1.2.2.1]) H → va_D A (List.flatten [w_VBR a o x.2.2.2.1 x.2.2.2.2.1 x.2.2.2.2.2, w_ValleyR a (o + 1), w_Key E a (o + 2) x.1.1.1, w_Bells E a (o + 3) x.1.1.2.1, w_Mel E a (o + 6) x.1.1.2.2.1, w_Cliffs E a (o + 10) x.1.1.2.2.2, w_ValleyR a (o + 13), w_Key E a (o + 14) x.1.2.1.1, w_Bells E a (o + 15) x.1.2.1.2.1, w_Mel E a (o + 18) x.1.2.1.2.2.1, w_Cliffs E a (o + 22) x.1.2.1.2.2.2, w_Prog E a (o + 25) x.1.2.2.2.1, w_Chord E a (o + 31) (y6, x.1.2.2.2.2.2.1, y7), w_Key E a (o + 34) x.2.1, w_Line E a (o + 35) x.2.2.1, w_Hist E a (o + 37) x.1.2.2.1]) → va_S A s.heap H locs → lv_has ls 3 [(1, .int y5)] → W p l e rm_X10_lastBeat s m args below meth c H locs 0 0 Q (F0 m 40 ls [])) → ∀ (n : Nat) (i1 : Int32) (i2 : Int32) (i3 : (Nat → Int32)) (i4 : Int32) (H : Heap) (locs : List Loc) (ls : Array Slot), f_X10_lastBeat_L4 x.1.1.2.1.2.1 x.1.1.2.1.2.2 x.1.1.2.2.1.1 x.1.1.2.2.1.2.1 x.1.1.2.2.1.2.2 x.1.1.2.2.2.1 x.1.1.2.2.2.2.1 x.1.1.2.2.2.2.2 K n i1 i2 i3 i4 = some res → va_P E.1 vwCl (List.flatten [w_VBR a o x.2.2.2.1 x.2.2.2.2.1 x.2.2.2.2.2, w_ValleyR a (o + 1), w_Key E a (o + 2) x.1.1.1, w_Bells E a (o + 3) x.1.1.2.1, w_Mel E a (o + 6) x.1.1.2.2.1, w_Cliffs E a (o + 10) x.1.1.2.2.2, w_ValleyR a (o + 13), w_Key E a (o + 14) x.1.2.1.1, w_Bells E a (o + 15) x.1.2.1.2.1, w_Mel E a (o + 18) x.1.2.1.2.2.1, w_Cliffs E a (o + 22) x.1.2.1.2.2.2, w_Prog E a (o + 25) x.1.2.2.2.1, w_Chord E a (o + 31) (i3, x.1.2.2.2.2.2.1, i4), w_Key E a (o + 34) x.2.1, w_Line E a (o + 35) x.2.2.1, w_Hist E a (o + 37) x.1.2.2.1]) H → va_D A (List.flatten [w_VBR a o x.2.2.2.1 x.2.2.2.2.1 x.2.2.2.2.2, w_ValleyR a (o + 1), w_Key E a (o + 2) x.1.1.1, w_Bells E a (o + 3) x.1.1.2.1, w_Mel E a (o + 6) x.1.1.2.2.1, w_Cliffs E a (o + 10) x.1.1.2.2.2, w_ValleyR a (o + 13), w_Key E a (o + 14) x.1.2.1.1, w_Bells E a (o + 15) x.1.2.1.2.1, w_Mel E a (o + 18) x.1.2.1.2.2.1, w_Cliffs E a (o + 22) x.1.2.1.2.2.2, w_Prog E a (o + 25) x.1.2.2.2.1, w_Chord E a (o + 31) (i3, x.1.2.2.2.2.2.1, i4), w_Key E a (o + 34) x.2.1, w_Line E a (o + 35) x.2.2.1, w_Hist E a (o + 37) x.1.2.2.1]) → va_S A s.heap H locs → lv_has ls 3 [(2, .int i1), (1, .int i2), (0, .ref (a o))] → W p l e rm_X10_lastBeat s m args below meth c H locs 0 0 Q (F0 m 4 ls []) := by
    intro K4 hK4 n4
    induction n4 with
    | zero => intro i1 i2 i3 i4 H locs ls hF; exact absurd hF (by simp [f_X10_lastBeat_L4])
    | succ n4 ih4 =>
      intro i1 i2 i3 i4 H locs ls hF hP hD hS hl
      rw [f_X10_lastBeat_L4] at hF
      refine lv_iload_n hx hb dX10_lastBeat_4 rfl (lv_at hl 0 rfl) ?_
      refine lv_bipush (v := 30) hx hb dX10_lastBeat_5 (by decide) ?_
      refine lv_icmp_gt (tgt := 40) hx hb dX10_lastBeat_7 (by decide) (fun c7 => ?_) (fun c7 => ?_)
      · have hF := q_brp c7 hF
        exact hK4 i2 i3 i4 H locs ls hF hP hD hS (lv_sub hl [1] rfl)
      · have hF := q_brn c7 hF
        refine lv_aload_n hx hb dX10_lastBeat_10 rfl (lv_at hl 2 rfl) ?_
        refine va_get (D := E.1) (ci := 11) (v := .ref (a (o + 31))) (C := RX10) (T := TX10) (N := 10) hx hb ha in_X10 hown hst.k hP 0 rfl rfl 4 (by decide) (ha _ mw288) (fun _ h9 => h9) rfl dX10_lastBeat_11 ?_
        refine lv_aload_n hx hb dX10_lastBeat_14 rfl (lv_at hl 2 rfl) ?_
        refine va_get (D := E.1) (ci := 11) (v := .ref (a (o + 1))) (C := RX10) (T := TX10) (N := 10) hx hb ha in_X10 hown hst.k hP 0 rfl rfl 0 (by decide) (ha _ mw284) (fun _ h9 => h9) rfl dX10_lastBeat_15 ?_
        refine lv_iload_n hx hb dX10_lastBeat_18 rfl (lv_at hl 0 rfl) ?_
        obtain ⟨q8, hq8, hF⟩ := q_bdi hF
        refine cl_v (Lc := [w_Chord E a (o + 31) (i3, x.1.2.2.2.2.2.1, i4), w_ValleyR a (o + 1), w_Key E a (o + 2) x.1.1.1, w_Bells E a (o + 3) x.1.1.2.1, w_Mel E a (o + 6) x.1.1.2.2.1, w_Cliffs E a (o + 10) x.1.1.2.2.2]) (Lc' := [w_Chord E a (o + 31) (q8.1, x.1.2.2.2.2.2.1, q8.2), w_ValleyR a (o + 1), w_Key E a (o + 2) x.1.1.1, w_Bells E a (o + 3) x.1.1.2.1, w_Mel E a (o + 6) x.1.1.2.2.1, w_Cliffs E a (o + 10) x.1.1.2.2.2]) (L' := [w_VBR a o x.2.2.2.1 x.2.2.2.2.1 x.2.2.2.2.2, w_ValleyR a (o + 1), w_Key E a (o + 2) x.1.1.1, w_Bells E a (o + 3) x.1.1.2.1, w_Mel E a (o + 6) x.1.1.2.2.1, w_Cliffs E a (o + 10) x.1.1.2.2.2, w_ValleyR a (o + 13), w_Key E a (o + 14) x.1.2.1.1, w_Bells E a (o + 15) x.1.2.1.2.1, w_Mel E a (o + 18) x.1.2.1.2.2.1, w_Cliffs E a (o + 22) x.1.2.1.2.2.2, w_Prog E a (o + 25) x.1.2.2.2.1, w_Chord E a (o + 31) (q8.1, x.1.2.2.2.2.2.1, q8.2), w_Key E a (o + 34) x.2.1, w_Line E a (o + 35) x.2.2.1, w_Hist E a (o + 37) x.1.2.2.1]) (va_runV (As := [.ref (a (o + 1)), .int i1]) (rest := []) ⟨hx, hb, hml, hown, ha⟩ (k_X2_listen l E a (o + 31) (i3, x.1.2.2.2.2.2.1, i4) a (o + 1) x.1.1 i1 q8 hq8 H.size) (cwV 2 ha (gi_V (fun _ h => h) mw845 mw846 mw847 mw34 mw848) rfl rfl rfl hv_X2_listen ⟨(Nat.le_of_ble_eq_true rfl), (Nat.le_of_ble_eq_true rfl)⟩) ⟨pre_blind, va_recv hst.k (fr_P hP [12, 1, 2, 3, 4, 5] rfl) (ci := 4) (q0 := 0) rfl rfl, pre_at hP hD hS hz hzs hst [12, 1, 2, 3, 4, 5] (by decide) rfl rfl⟩ rfl rfl hl.1 rfl (lv_room (Nat.le_of_ble_eq_true rfl)) dX10_lastBeat_19 ⟨(Nat.le_of_ble_eq_true rfl), (Nat.le_of_ble_eq_true rfl)⟩) hP hD hS hA [12, 1, 2, 3, 4, 5] (by decide) rfl rfl rfl rfl (fun H locs hP hD hS => ?_)
        refine lv_aload_n hx hb dX10_lastBeat_22 rfl (lv_at hl 2 rfl) ?_
        refine va_get (D := E.1) (ci := 11) (v := .ref (a (o + 31))) (C := RX10) (T := TX10) (N := 10) hx hb ha in_X10 hown hst.k hP 0 rfl rfl 4 (by decide) (ha _ mw288) (fun _ h9 => h9) rfl dX10_lastBeat_23 ?_
        refine va_getN (D := E.1) (ci := 4) (v := .int q8.2) (C := RX2) (T := TX2) (N := 3) hx hb ha in_X2 hown hst.k hP 31 rfl rfl 2 (by decide) (va_Nw.use rfl (nf25 hst)) (fun _ h9 => h9) rfl dX10_lastBeat_26 ?_
        obtain ⟨J34, hJ34, hF⟩ := q_jn hF
        have jJ34 : ∀ (j9 : Int32), ∀ (H : Heap) (locs : List Loc) (ls : Array Slot), J34 j9 = some res → va_P E.1 vwCl (List.flatten [w_VBR a o x.2.2.2.1 x.2.2.2.2.1 x.2.2.2.2.2, w_ValleyR a (o + 1), w_Key E a (o + 2) x.1.1.1, w_Bells E a (o + 3) x.1.1.2.1, w_Mel E a (o + 6) x.1.1.2.2.1, w_Cliffs E a (o + 10) x.1.1.2.2.2, w_ValleyR a (o + 13), w_Key E a (o + 14) x.1.2.1.1, w_Bells E a (o + 15) x.1.2.1.2.1, w_Mel E a (o + 18) x.1.2.1.2.2.1, w_Cliffs E a (o + 22) x.1.2.1.2.2.2, w_Prog E a (o + 25) x.1.2.2.2.1, w_Chord E a (o + 31) (q8.1, x.1.2.2.2.2.2.1, q8.2), w_Key E a (o + 34) x.2.1, w_Line E a (o + 35) x.2.2.1, w_Hist E a (o + 37) x.1.2.2.1]) H → va_D A (List.flatten [w_VBR a o x.2.2.2.1 x.2.2.2.2.1 x.2.2.2.2.2, w_ValleyR a (o + 1), w_Key E a (o + 2) x.1.1.1, w_Bells E a (o + 3) x.1.1.2.1, w_Mel E a (o + 6) x.1.1.2.2.1, w_Cliffs E a (o + 10) x.1.1.2.2.2, w_ValleyR a (o + 13), w_Key E a (o + 14) x.1.2.1.1, w_Bells E a (o + 15) x.1.2.1.2.1, w_Mel E a (o + 18) x.1.2.1.2.2.1, w_Cliffs E a (o + 22) x.1.2.1.2.2.2, w_Prog E a (o + 25) x.1.2.2.2.1, w_Chord E a (o + 31) (q8.1, x.1.2.2.2.2.2.1, q8.2), w_Key E a (o + 34) x.2.1, w_Line E a (o + 35) x.2.2.1, w_Hist E a (o + 37) x.1.2.2.1]) → va_S A s.heap H locs → lv_has ls 3 [(2, .int i1), (1, .int j9), (0, .ref (a o))] → W p l e rm_X10_lastBeat s m args below meth c H locs 0 0 Q (F0 m 34 ls []) := by
          intro j9 H locs ls hF hP hD hS hl
          rw [hJ34] at hF
          obtain ⟨v10, ev10⟩ : ∃ y : Int32, y = i1 + 1 := ⟨_, rfl⟩
          have hF := q_lti ev10 hF
          refine lv_iinc (v := v10) (lv' := [(2, .int v10), (1, .int j9), (0, .ref (a o))]) hx hb dX10_lastBeat_34 hl (k := 0) rfl (by rw [ev10]; rfl) (by decide) rfl (fun ls hl => ?_)
          refine lv_goto (tgt := 4) hx hb dX10_lastBeat_37 (by decide) ?_
          exact ih4 v10 j9 q8.1 q8.2 H locs ls hF hP hD hS (lv_sub hl [0, 1, 2] rfl)
        refine lv_if_le (tgt := 34) hx hb dX10_lastBeat_29 (by decide) (fun c29 => ?_) (fun c29 => ?_)
        · have hF := q_brp c29 hF
          exact jJ34 i2 H locs ls hF hP hD hS (lv_sub hl [0, 1, 2] rfl)
        · have hF := q_brn c29 hF
          refine lv_iload_n hx hb dX10_lastBeat_32 rfl (lv_at hl 0 rfl) ?_
          refine lv_istore_n (lv' := [(1, .int i1), (2, .int i1), (0, .ref (a o))]) hx hb dX10_lastBeat_33 rfl hl (by decide) rfl (fun ls hl => ?_)
          exact jJ34 i1 H locs ls hF hP hD hS (lv_sub hl [1, 0, 2] rfl)
  refine key4 _ ?_ _ 0 (-1) x.1.2.2.2.2.1 x.1.2.2.2.2.2.2 H locs ls hF hP hD hS (lv_sub hl [0, 1, 2] rfl)
  intro y5 y6 y7 H locs ls hF hP hD hS hl
  refine lv_iload_n hx hb dX10_lastBeat_40 rfl (lv_at hl 0 rfl) ?_
  obtain ⟨q11, hq11, hF⟩ := q_bdi hF
  refine cx_v (ro := q11) (Lc := []) (Lc' := []) (L' := [w_VBR a o x.2.2.2.1 x.2.2.2.2.1 x.2.2.2.2.2, w_ValleyR a (o + 1), w_Key E a (o + 2) x.1.1.1, w_Bells E a (o + 3) x.1.1.2.1, w_Mel E a (o + 6) x.1.1.2.2.1, w_Cliffs E a (o + 10) x.1.1.2.2.2, w_ValleyR a (o + 13), w_Key E a (o + 14) x.1.2.1.1, w_Bells E a (o + 15) x.1.2.1.2.1, w_Mel E a (o + 18) x.1.2.1.2.2.1, w_Cliffs E a (o + 22) x.1.2.1.2.2.2, w_Prog E a (o + 25) x.1.2.2.2.1, w_Chord E a (o + 31) (y6, x.1.2.2.2.2.2.1, y7), w_Key E a (o + 34) x.2.1, w_Line E a (o + 35) x.2.2.1, w_Hist E a (o + 37) x.1.2.2.1]) (vx_runS (As := [.int y5]) (rest := []) ⟨hx, hb, hml, hown, ha⟩ (k_X10_requireSound l E y5 q11 hq11 H.size hlt) (cwS 1 ha (gi_S (fun _ h => h) mw909 mw910 mw26 mw911) rfl rfl rfl hv_X10_requireSound ⟨(Nat.le_of_ble_eq_true rfl), (Nat.le_of_ble_eq_true rfl)⟩) ⟨pre_blind, pre_at hP hD hS hz hzs hst [] (by decide) rfl rfl⟩ rfl rfl hl.1 rfl (lv_room (Nat.le_of_ble_eq_true rfl)) dX10_lastBeat_41 ⟨(Nat.le_of_ble_eq_true rfl), (Nat.le_of_ble_eq_true rfl)⟩) hP hD hS hA [] (by decide) rfl rfl rfl rfl (fun X ce q9 H locs eX h1 h2 h3 hP hD hS => ?_) (fun r12 H locs er12 hP hD hS => ?_)
  · have hF := q_smr eX hF
    obtain rfl := Option.some.inj hF
    exact en_out hQ (Nat.le_of_ble_eq_true rfl) (Nat.le_of_ble_eq_true rfl) hexc hlocks h1 h2 h3 hP hD hS rfl
  have hF := q_sml er12 hF
  refine lv_iload_n hx hb dX10_lastBeat_44 rfl (lv_at hl 0 rfl) ?_
  obtain rfl := Option.some.inj hF
  exact en_xi hQ (Nat.le_of_ble_eq_true rfl) (Nat.le_of_ble_eq_true rfl) hx hb hr hlocks hP hD hS rfl dX10_lastBeat_45

/-! X10_totalDissonances -/
theorem dX10_totalDissonances_0 : decode cX10_totalDissonances 0 = .ok (.lconst 0, 1) := by decide +kernel
theorem dX10_totalDissonances_1 : decode cX10_totalDissonances 1 = .ok (.lstore_n 1, 1) := by decide +kernel
theorem dX10_totalDissonances_2 : decode cX10_totalDissonances 2 = .ok (.iconst 0, 1) := by decide +kernel
theorem dX10_totalDissonances_3 : decode cX10_totalDissonances 3 = .ok (.istore_n 3, 1) := by decide +kernel
theorem dX10_totalDissonances_4 : decode cX10_totalDissonances 4 = .ok (.iload_n 3, 1) := by decide +kernel
theorem dX10_totalDissonances_5 : decode cX10_totalDissonances 5 = .ok (.bipush 30, 2) := by decide +kernel
theorem dX10_totalDissonances_7 : decode cX10_totalDissonances 7 = .ok (.if_icmp .gt 32, 3) := by decide +kernel
theorem dX10_totalDissonances_10 : decode cX10_totalDissonances 10 = .ok (.aload_n 0, 1) := by decide +kernel
theorem dX10_totalDissonances_11 : decode cX10_totalDissonances 11 = .ok (.getfield 36, 3) := by decide +kernel
theorem dX10_totalDissonances_14 : decode cX10_totalDissonances 14 = .ok (.aload_n 0, 1) := by decide +kernel
theorem dX10_totalDissonances_15 : decode cX10_totalDissonances 15 = .ok (.getfield 10, 3) := by decide +kernel
theorem dX10_totalDissonances_18 : decode cX10_totalDissonances 18 = .ok (.iload_n 3, 1) := by decide +kernel
theorem dX10_totalDissonances_19 : decode cX10_totalDissonances 19 = .ok (.invokevirtual 244, 3) := by decide +kernel
theorem dX10_totalDissonances_22 : decode cX10_totalDissonances 22 = .ok (.lload_n 1, 1) := by decide +kernel
theorem dX10_totalDissonances_23 : decode cX10_totalDissonances 23 = .ok (.aload_n 0, 1) := by decide +kernel
theorem dX10_totalDissonances_24 : decode cX10_totalDissonances 24 = .ok (.getfield 36, 3) := by decide +kernel
theorem dX10_totalDissonances_27 : decode cX10_totalDissonances 27 = .ok (.invokevirtual 254, 3) := by decide +kernel
theorem dX10_totalDissonances_30 : decode cX10_totalDissonances 30 = .ok (.i2l, 1) := by decide +kernel
theorem dX10_totalDissonances_31 : decode cX10_totalDissonances 31 = .ok (.ladd, 1) := by decide +kernel
theorem dX10_totalDissonances_32 : decode cX10_totalDissonances 32 = .ok (.lstore_n 1, 1) := by decide +kernel
theorem dX10_totalDissonances_33 : decode cX10_totalDissonances 33 = .ok (.iinc 3 1, 3) := by decide +kernel
theorem dX10_totalDissonances_36 : decode cX10_totalDissonances 36 = .ok (.goto (-32), 3) := by decide +kernel
theorem dX10_totalDissonances_39 : decode cX10_totalDissonances 39 = .ok (.lload_n 1, 1) := by decide +kernel
theorem dX10_totalDissonances_40 : decode cX10_totalDissonances 40 = .ok (.lreturn, 1) := by decide +kernel
def f_X10_totalDissonances_L4 (x_valley_bells_pitches : (Nat → Int32)) (x_valley_bells_count : Int32) (x_valley_melodies_lengths : (Nat → Int32)) (x_valley_melodies_entries : (Nat → Int32)) (x_valley_melodies_tones : (Nat → Int32)) (x_valley_cliffs_delays : (Nat → Int32)) (x_valley_cliffs_transpositions : (Nat → Int32)) (x_valley_cliffs_count : Int32) (K4 : Int64 → (Nat → Int32) → Int32 → Option (Int64 × (Nat → Int32) × Int32)) : Nat → Int32 → Int64 → (Nat → Int32) → Int32 → Option (Int64 × (Nat → Int32) × Int32)
  | 0, _, _, _, _ => none
  | n4 + 1, i1, i2, i3, i4 =>
    q_br (30 < i1) (
  K4 i2 i3 i4) (
  q_bd (f_X2_listen i3 i4 x_valley_bells_pitches x_valley_bells_count x_valley_melodies_lengths x_valley_melodies_entries x_valley_melodies_tones x_valley_cliffs_delays x_valley_cliffs_transpositions x_valley_cliffs_count i1) (fun q8 =>
  q_bd (f_X2_dissonantPairs q8.1 q8.2) (fun q9 =>
  q_lt (i2 + (q9.toInt64) : Int64) (fun v10 =>
  q_lt (i1 + 1 : Int32) (fun v11 =>
  f_X10_totalDissonances_L4 x_valley_bells_pitches x_valley_bells_count x_valley_melodies_lengths x_valley_melodies_entries x_valley_melodies_tones x_valley_cliffs_delays x_valley_cliffs_transpositions x_valley_cliffs_count K4 n4 v11 v10 q8.1 q8.2)))))
def f_X10_totalDissonances (x_valley_bells_pitches : (Nat → Int32)) (x_valley_bells_count : Int32) (x_valley_melodies_lengths : (Nat → Int32)) (x_valley_melodies_entries : (Nat → Int32)) (x_valley_melodies_tones : (Nat → Int32)) (x_valley_cliffs_delays : (Nat → Int32)) (x_valley_cliffs_transpositions : (Nat → Int32)) (x_valley_cliffs_count : Int32) (x_chord_notes : (Nat → Int32)) (x_chord_size : Int32) : Option (Int64 × (Nat → Int32) × Int32) :=
  f_X10_totalDissonances_L4 x_valley_bells_pitches x_valley_bells_count x_valley_melodies_lengths x_valley_melodies_entries x_valley_melodies_tones x_valley_cliffs_delays x_valley_cliffs_transpositions x_valley_cliffs_count (fun y5 y6 y7 =>
  some (y5, y6, y7)) 2000 0 0 x_chord_notes x_chord_size
theorem hv_X10_totalDissonances : yX10_totalDissonances.cls = RX10 ∧ yX10_totalDissonances.cls ≠ "java/lang/invoke/MethodHandle" ∧ yX10_totalDissonances.cls ≠ "java/lang/invoke/VarHandle" ∧ (parseMethodDescriptor yX10_totalDissonances.desc).map (fun d => d.parameters.length) = some 0 := by decide +kernel
abbrev rm_X10_totalDissonances : Room := { frames := 5, cells := 0, slots := 0, locals := 115 }
set_option maxHeartbeats 4000000 in
set_option maxRecDepth 100000 in
theorem k_X10_totalDissonances (l : Launch) (E : ET) (a : Nat → Nat) (o : Nat) (x : VB_t) (res : Int64 × (Nat → Int32) × Int32) (hF : f_X10_totalDissonances x.1.1.2.1.2.1 x.1.1.2.1.2.2 x.1.1.2.2.1.1 x.1.1.2.2.1.2.1 x.1.1.2.2.1.2.2 x.1.1.2.2.2.1 x.1.1.2.2.2.2.1 x.1.1.2.2.2.2.2 x.1.2.2.2.2.1 x.1.2.2.2.2.2.2 = some res) (sz : Nat) : CtJ l yX10_totalDissonances (mws yX10_totalDissonances cX10_totalDissonances 4 (some .long)) rm_X10_totalDissonances 0 0 [.ref (a o)] E (bl_VB E a o x) res.1 (bl_VB E a o ((x.1.1, x.1.2.1, x.1.2.2.1, x.1.2.2.2.1, (res.2.1, x.1.2.2.2.2.2.1, res.2.2)), (x.2.1, x.2.2.1, x.2.2.2.1, x.2.2.2.2.1, x.2.2.2.2.2))) sz := by
  refine mk_M (by decide +kernel) (Nat.le_of_ble_eq_true rfl) ?_
  intro p e s m below meth c A args Q ls hAe hsz hQ hx hb hr hml hin ha hown hlocks hA hz hzs hst hP hD hS hl
  have hown : s.vm.findClass RX10 = some m.cls := hown
  rw [hAe] at hQ
  subst hsz
  have hP : va_P E.1 vwCl (List.flatten [w_VBR a o x.2.2.2.1 x.2.2.2.2.1 x.2.2.2.2.2, w_ValleyR a (o + 1), w_Key E a (o + 2) x.1.1.1, w_Bells E a (o + 3) x.1.1.2.1, w_Mel E a (o + 6) x.1.1.2.2.1, w_Cliffs E a (o + 10) x.1.1.2.2.2, w_ValleyR a (o + 13), w_Key E a (o + 14) x.1.2.1.1, w_Bells E a (o + 15) x.1.2.1.2.1, w_Mel E a (o + 18) x.1.2.1.2.2.1, w_Cliffs E a (o + 22) x.1.2.1.2.2.2, w_Prog E a (o + 25) x.1.2.2.2.1, w_Chord E a (o + 31) x.1.2.2.2.2, w_Key E a (o + 34) x.2.1, w_Line E a (o + 35) x.2.2.1, w_Hist E a (o + 37) x.1.2.2.1]) s.heap := hP
  have hD : va_D A (List.flatten [w_VBR a o x.2.2.2.1 x.2.2.2.2.1 x.2.2.2.2.2, w_ValleyR a (o + 1), w_Key E a (o + 2) x.1.1.1, w_Bells E a (o + 3) x.1.1.2.1, w_Mel E a (o + 6) x.1.1.2.2.1, w_Cliffs E a (o + 10) x.1.1.2.2.2, w_ValleyR a (o + 13), w_Key E a (o + 14) x.1.2.1.1, w_Bells E a (o + 15) x.1.2.1.2.1, w_Mel E a (o + 18) x.1.2.1.2.2.1, w_Cliffs E a (o + 22) x.1.2.1.2.2.2, w_Prog E a (o + 25) x.1.2.2.2.1, w_Chord E a (o + 31) x.1.2.2.2.2, w_Key E a (o + 34) x.2.1, w_Line E a (o + 35) x.2.2.1, w_Hist E a (o + 37) x.1.2.2.1]) := hD
  have hl : lv_has ls 4 [(0, .ref (a o))] := hl
  generalize hHe : s.heap = H at hP
  have hS : va_S A s.heap H [] := by rw [← hHe]; exact hS
  generalize ([] : List Loc) = locs at hS ⊢
  unfold f_X10_totalDissonances at hF
  refine lv_lconst (v := 0) hx hb dX10_totalDissonances_0 (by decide) ?_
  refine lv_lstore_n (lv' := [(1, .long 0), (0, .ref (a o))]) hx hb dX10_totalDissonances_1 rfl hl (by decide) rfl (fun ls hl => ?_)
  refine lv_iconst (v := 0) hx hb dX10_totalDissonances_2 (by decide) ?_
  refine lv_istore_n (lv' := [(3, .int 0), (1, .long 0), (0, .ref (a o))]) hx hb dX10_totalDissonances_3 rfl hl (by decide) rfl (fun ls hl => ?_)
  have key4 : ∀ (K : Int64 → (Nat → Int32) → Int32 → Option (Int64 × (Nat → Int32) × Int32)), (∀ (y5 : Int64) (y6 : (Nat → Int32)) (y7 : Int32) (H : Heap) (locs : List Loc) (ls : Array Slot), K y5 y6 y7 = some res → va_P E.1 vwCl (List.flatten [w_VBR a o x.2.2.2.1 x.2.2.2.2.1 x.2.2.2.2.2, w_ValleyR a (o + 1), w_Key E a (o + 2) x.1.1.1, w_Bells E a (o + 3) x.1.1.2.1, w_Mel E a (o + 6) x.1.1.2.2.1, w_Cliffs E a (o + 10) x.1.1.2.2.2, w_ValleyR a (o + 13), w_Key E a (o + 14) x.1.2.1.1, w_Bells E a (o + 15) x.1.2.1.2.1, w_Mel E a (o + 18) x.1.2.1.2.2.1, w_Cliffs E a (o + 22) x.1.2.1.2.2.2, w_Prog E a (o + 25) x.1.2.2.2.1, w_Chord E a (o + 31) (y6, x.1.2.2.2.2.2.1, y7), w_Key E a (o + 34) x.2.1, w_Line E a (o + 35) x.2.2.1, w_Hist E a (o + 37) x.1.2.2.1]) H → va_D A (List.flatten [w_VBR a o x.2.2.2.1 x.2.2.2.2.1 x.2.2.2.2.2, w_ValleyR a (o + 1), w_Key E a (o + 2) x.1.1.1, w_Bells E a (o + 3) x.1.1.2.1, w_Mel E a (o + 6) x.1.1.2.2.1, w_Cliffs E a (o + 10) x.1.1.2.2.2, w_ValleyR a (o + 13), w_Key E a (o + 14) x.1.2.1.1, w_Bells E a (o + 15) x.1.2.1.2.1, w_Mel E a (o + 18) x.1.2.1.2.2.1, w_Cliffs E a (o + 22) x.1.2.1.2.2.2, w_Prog E a (o + 25) x.1.2.2.2.1, w_Chord E a (o + 31) (y6, x.1.2.2.2.2.2.1, y7), w_Key E a (o + 34) x.2.1, w_Line E a (o + 35) x.2.2.1, w_Hist E a (o + 37) x.1.2.2.1]) → va_S A s.heap H locs → lv_has ls 4 [(1, .long y5)] → W p l e rm_X10_totalDissonances s m args below meth c H locs 0 0 Q (F0 m 39 ls [])) → ∀ (n : Nat) (i1 : Int32) (i2 : Int64) (i3 : (Nat → Int32)) (i4 : Int32) (H : Heap) (locs : List Loc) (ls : Array Slot), f_X10_totalDissonances_L4 x.1.1.2.1.2.1 x.1.1.2.1.2.2 x.1.1.2.2.1.1 x.1.1.2.2.1.2.1 x.1.1.2.2.1.2.2 x.1.1.2.2.2.1 x.1.1.2.2.2.2.1 x.1.1.2.2.2.2.2 K n i1 i2 i3 i4 = some res → va_P E.1 vwCl (List.flatten [w_VBR a o x.2.2.2.1 x.2.2.2.2.1 x.2.2.2.2.2, w_ValleyR a (o + 1), w_Key E a (o + 2) x.1.1.1, w_Bells E a (o + 3) x.1.1.2.1, w_Mel E a (o + 6) x.1.1.2.2.1, w_Cliffs E a (o + 10) x.1.1.2.2.2, w_ValleyR a (o + 13), w_Key E a (o + 14) x.1.2.1.1, w_Bells E a (o + 15) x.1.2.1.2.1, w_Mel E a (o + 18) x.1.2.1.2.2.1, w_Cliffs E a (o + 22) x.1.2.1.2.2.2, w_Prog E a (o + 25) x.1.2.2.2.1, w_Chord E a (o + 31) (i3, x.1.2.2.2.2.2.1, i4), w_Key E a (o + 34) x.2.1, w_Line E a (o + 35) x.2.2.1, w_Hist E a (o + 37) x.1.2.2.1]) H → va_D A (List.flatten [w_VBR a o x.2.2.2.1 x.2.2.2.2.1 x.2.2.2.2.2, w_ValleyR a (o + 1), w_Key E a (o + 2) x.1.1.1, w_Bells E a (o + 3) x.1.1.2.1, w_Mel E a (o + 6) x.1.1.2.2.1, w_Cliffs E a (o + 10) x.1.1.2.2.2, w_ValleyR a (o + 13), w_Key E a (o + 14) x.1.2.1.1, w_Bells E a (o + 15) x.1.2.1.2.1, w_Mel E a (o + 18) x.1.2.1.2.2.1, w_Cliffs E a (o + 22) x.1.2.1.2.2.2, w_Prog E a (o + 25) x.1.2.2.2.1, w_Chord E a (o + 31) (i3, x.1.2.2.2.2.2.1, i4), w_Key E a (o + 34) x.2.1, w_Line E a (o + 35) x.2.2.1, w_Hist E a (o + 37) x.1.2.2.1]) → va_S A s.heap H locs → lv_has ls 4 [(3, .int i1), (1, .long i2), (0, .ref (a o))] → W p l e rm_X10_totalDissonances s m args below meth c H locs 0 0 Q (F0 m 4 ls []) := by
    intro K4 hK4 n4
    induction n4 with
    | zero => intro i1 i2 i3 i4 H locs ls hF; exact absurd hF (by simp [f_X10_totalDissonances_L4])
    | succ n4 ih4 =>
      intro i1 i2 i3 i4 H locs ls hF hP hD hS hl
      rw [f_X10_totalDissonances_L4] at hF
      refine lv_iload_n hx hb dX10_totalDissonances_4 rfl (lv_at hl 0 rfl) ?_
      refine lv_bipush (v := 30) hx hb dX10_totalDissonances_5 (by decide) ?_
      refine lv_icmp_gt (tgt := 39) hx hb dX10_totalDissonances_7 (by decide) (fun c7 => ?_) (fun c7 => ?_)
      · have hF := q_brp c7 hF
        exact hK4 i2 i3 i4 H locs ls hF hP hD hS (lv_sub hl [1] rfl)
      · have hF := q_brn c7 hF
        refine lv_aload_n hx hb dX10_totalDissonances_10 rfl (lv_at hl 2 rfl) ?_
        refine va_get (D := E.1) (ci := 11) (v := .ref (a (o + 31))) (C := RX10) (T := TX10) (N := 10) hx hb ha in_X10 hown hst.k hP 0 rfl rfl 4 (by decide) (ha _ mw288) (fun _ h9 => h9) rfl dX10_totalDissonances_11 ?_
        refine lv_aload_n hx hb dX10_totalDissonances_14 rfl (lv_at hl 2 rfl) ?_
        refine va_get (D := E.1) (ci := 11) (v := .ref (a (o + 1))) (C := RX10) (T := TX10) (N := 10) hx hb ha in_X10 hown hst.k hP 0 rfl rfl 0 (by decide) (ha _ mw284) (fun _ h9 => h9) rfl dX10_totalDissonances_15 ?_
        refine lv_iload_n hx hb dX10_totalDissonances_18 rfl (lv_at hl 0 rfl) ?_
        obtain ⟨q8, hq8, hF⟩ := q_bdi hF
        refine cl_v (Lc := [w_Chord E a (o + 31) (i3, x.1.2.2.2.2.2.1, i4), w_ValleyR a (o + 1), w_Key E a (o + 2) x.1.1.1, w_Bells E a (o + 3) x.1.1.2.1, w_Mel E a (o + 6) x.1.1.2.2.1, w_Cliffs E a (o + 10) x.1.1.2.2.2]) (Lc' := [w_Chord E a (o + 31) (q8.1, x.1.2.2.2.2.2.1, q8.2), w_ValleyR a (o + 1), w_Key E a (o + 2) x.1.1.1, w_Bells E a (o + 3) x.1.1.2.1, w_Mel E a (o + 6) x.1.1.2.2.1, w_Cliffs E a (o + 10) x.1.1.2.2.2]) (L' := [w_VBR a o x.2.2.2.1 x.2.2.2.2.1 x.2.2.2.2.2, w_ValleyR a (o + 1), w_Key E a (o + 2) x.1.1.1, w_Bells E a (o + 3) x.1.1.2.1, w_Mel E a (o + 6) x.1.1.2.2.1, w_Cliffs E a (o + 10) x.1.1.2.2.2, w_ValleyR a (o + 13), w_Key E a (o + 14) x.1.2.1.1, w_Bells E a (o + 15) x.1.2.1.2.1, w_Mel E a (o + 18) x.1.2.1.2.2.1, w_Cliffs E a (o + 22) x.1.2.1.2.2.2, w_Prog E a (o + 25) x.1.2.2.2.1, w_Chord E a (o + 31) (q8.1, x.1.2.2.2.2.2.1, q8.2), w_Key E a (o + 34) x.2.1, w_Line E a (o + 35) x.2.2.1, w_Hist E a (o + 37) x.1.2.2.1]) (va_runV (As := [.ref (a (o + 1)), .int i1]) (rest := []) ⟨hx, hb, hml, hown, ha⟩ (k_X2_listen l E a (o + 31) (i3, x.1.2.2.2.2.2.1, i4) a (o + 1) x.1.1 i1 q8 hq8 H.size) (cwV 2 ha (gi_V (fun _ h => h) mw845 mw846 mw847 mw34 mw848) rfl rfl rfl hv_X2_listen ⟨(Nat.le_of_ble_eq_true rfl), (Nat.le_of_ble_eq_true rfl)⟩) ⟨pre_blind, va_recv hst.k (fr_P hP [12, 1, 2, 3, 4, 5] rfl) (ci := 4) (q0 := 0) rfl rfl, pre_at hP hD hS hz hzs hst [12, 1, 2, 3, 4, 5] (by decide) rfl rfl⟩ rfl rfl hl.1 rfl (lv_room (Nat.le_of_ble_eq_true rfl)) dX10_totalDissonances_19 ⟨(Nat.le_of_ble_eq_true rfl), (Nat.le_of_ble_eq_true rfl)⟩) hP hD hS hA [12, 1, 2, 3, 4, 5] (by decide) rfl rfl rfl rfl (fun H locs hP hD hS => ?_)
        refine lv_lload_n hx hb dX10_totalDissonances_22 rfl (lv_at hl 1 rfl) ?_
        refine lv_aload_n hx hb dX10_totalDissonances_23 rfl (lv_at hl 2 rfl) ?_
        refine va_get (D := E.1) (ci := 11) (v := .ref (a (o + 31))) (C := RX10) (T := TX10) (N := 10) hx hb ha in_X10 hown hst.k hP 0 rfl rfl 4 (by decide) (ha _ mw288) (fun _ h9 => h9) rfl dX10_totalDissonances_24 ?_
        obtain ⟨q9, hq9, hF⟩ := q_bdi hF
        refine cl_i (Lc := [w_Chord E a (o + 31) (q8.1, x.1.2.2.2.2.2.1, q8.2)]) (Lc' := [w_Chord E a (o + 31) (q8.1, x.1.2.2.2.2.2.1, q8.2)]) (L' := [w_VBR a o x.2.2.2.1 x.2.2.2.2.1 x.2.2.2.2.2, w_ValleyR a (o + 1), w_Key E a (o + 2) x.1.1.1, w_Bells E a (o + 3) x.1.1.2.1, w_Mel E a (o + 6) x.1.1.2.2.1, w_Cliffs E a (o + 10) x.1.1.2.2.2, w_ValleyR a (o + 13), w_Key E a (o + 14) x.1.2.1.1, w_Bells E a (o + 15) x.1.2.1.2.1, w_Mel E a (o + 18) x.1.2.1.2.2.1, w_Cliffs E a (o + 22) x.1.2.1.2.2.2, w_Prog E a (o + 25) x.1.2.2.2.1, w_Chord E a (o + 31) (q8.1, x.1.2.2.2.2.2.1, q8.2), w_Key E a (o + 34) x.2.1, w_Line E a (o + 35) x.2.2.1, w_Hist E a (o + 37) x.1.2.2.1]) (rv := q9) (va_runV (As := []) (rest := [.long i2]) ⟨hx, hb, hml, hown, ha⟩ (k_X2_dissonantPairs l E a (o + 31) (q8.1, x.1.2.2.2.2.2.1, q8.2) q9 hq9 H.size) (cwV 0 ha (gi_V (fun _ h => h) mw874 mw875 mw876 mw34 mw877) rfl rfl rfl hv_X2_dissonantPairs ⟨(Nat.le_of_ble_eq_true rfl), (Nat.le_of_ble_eq_true rfl)⟩) ⟨pre_blind, va_recv hst.k (fr_P hP [12] rfl) (ci := 4) (q0 := 0) rfl rfl, pre_at hP hD hS hz hzs hst [12] (by decide) rfl rfl⟩ rfl rfl hl.1 rfl (lv_room (Nat.le_of_ble_eq_true rfl)) dX10_totalDissonances_27 ⟨(Nat.le_of_ble_eq_true rfl), (Nat.le_of_ble_eq_true rfl)⟩) hP hD hS hA [12] (by decide) rfl rfl rfl rfl (fun H locs hP hD hS => ?_)
        refine lv_i2l hx hb dX10_totalDissonances_30 rfl ?_
        refine lv_ladd hx hb dX10_totalDissonances_31 ?_
        refine lv_topl (fun v10 ev10 => ?_)
        have hF := q_lti ev10 hF
        refine lv_lstore_n (lv' := [(1, .long v10), (3, .int i1), (0, .ref (a o))]) hx hb dX10_totalDissonances_32 rfl hl (by decide) rfl (fun ls hl => ?_)
        obtain ⟨v11, ev11⟩ : ∃ y : Int32, y = i1 + 1 := ⟨_, rfl⟩
        have hF := q_lti ev11 hF
        refine lv_iinc (v := v11) (lv' := [(3, .int v11), (1, .long v10), (0, .ref (a o))]) hx hb dX10_totalDissonances_33 hl (k := 1) rfl (by rw [ev11]; rfl) (by decide) rfl (fun ls hl => ?_)
        refine lv_goto (tgt := 4) hx hb dX10_totalDissonances_36 (by decide) ?_
        exact ih4 v11 v10 q8.1 q8.2 H locs ls hF hP hD hS (lv_sub hl [0, 1, 2] rfl)
  refine key4 _ ?_ _ 0 0 x.1.2.2.2.2.1 x.1.2.2.2.2.2.2 H locs ls hF hP hD hS (lv_sub hl [0, 1, 2] rfl)
  intro y5 y6 y7 H locs ls hF hP hD hS hl
  refine lv_lload_n hx hb dX10_totalDissonances_39 rfl (lv_at hl 0 rfl) ?_
  obtain rfl := Option.some.inj hF
  exact en_j hQ (Nat.le_of_ble_eq_true rfl) (Nat.le_of_ble_eq_true rfl) hx hb hr hlocks hP hD hS rfl dX10_totalDissonances_40

/-! X10_harshestBeat -/
theorem dX10_harshestBeat_0 : decode cX10_harshestBeat 0 = .ok (.iconst (-1), 1) := by decide +kernel
theorem dX10_harshestBeat_1 : decode cX10_harshestBeat 1 = .ok (.istore_n 1, 1) := by decide +kernel
theorem dX10_harshestBeat_2 : decode cX10_harshestBeat 2 = .ok (.iconst (-1), 1) := by decide +kernel
theorem dX10_harshestBeat_3 : decode cX10_harshestBeat 3 = .ok (.istore_n 2, 1) := by decide +kernel
theorem dX10_harshestBeat_4 : decode cX10_harshestBeat 4 = .ok (.iconst 0, 1) := by decide +kernel
theorem dX10_harshestBeat_5 : decode cX10_harshestBeat 5 = .ok (.istore_n 3, 1) := by decide +kernel
theorem dX10_harshestBeat_6 : decode cX10_harshestBeat 6 = .ok (.iload_n 3, 1) := by decide +kernel
theorem dX10_harshestBeat_7 : decode cX10_harshestBeat 7 = .ok (.bipush 30, 2) := by decide +kernel
theorem dX10_harshestBeat_9 : decode cX10_harshestBeat 9 = .ok (.if_icmp .gt 51, 3) := by decide +kernel
theorem dX10_harshestBeat_12 : decode cX10_harshestBeat 12 = .ok (.aload_n 0, 1) := by decide +kernel
theorem dX10_harshestBeat_13 : decode cX10_harshestBeat 13 = .ok (.getfield 36, 3) := by decide +kernel
theorem dX10_harshestBeat_16 : decode cX10_harshestBeat 16 = .ok (.aload_n 0, 1) := by decide +kernel
theorem dX10_harshestBeat_17 : decode cX10_harshestBeat 17 = .ok (.getfield 10, 3) := by decide +kernel
theorem dX10_harshestBeat_20 : decode cX10_harshestBeat 20 = .ok (.iload_n 3, 1) := by decide +kernel
theorem dX10_harshestBeat_21 : decode cX10_harshestBeat 21 = .ok (.invokevirtual 244, 3) := by decide +kernel
theorem dX10_harshestBeat_24 : decode cX10_harshestBeat 24 = .ok (.aload_n 0, 1) := by decide +kernel
theorem dX10_harshestBeat_25 : decode cX10_harshestBeat 25 = .ok (.getfield 36, 3) := by decide +kernel
theorem dX10_harshestBeat_28 : decode cX10_harshestBeat 28 = .ok (.invokevirtual 254, 3) := by decide +kernel
theorem dX10_harshestBeat_31 : decode cX10_harshestBeat 31 = .ok (.istore 4, 2) := by decide +kernel
theorem dX10_harshestBeat_33 : decode cX10_harshestBeat 33 = .ok (.aload_n 0, 1) := by decide +kernel
theorem dX10_harshestBeat_34 : decode cX10_harshestBeat 34 = .ok (.getfield 36, 3) := by decide +kernel
theorem dX10_harshestBeat_37 : decode cX10_harshestBeat 37 = .ok (.getfield 248, 3) := by decide +kernel
theorem dX10_harshestBeat_40 : decode cX10_harshestBeat 40 = .ok (.ifCond .le 14, 3) := by decide +kernel
theorem dX10_harshestBeat_43 : decode cX10_harshestBeat 43 = .ok (.iload 4, 2) := by decide +kernel
theorem dX10_harshestBeat_45 : decode cX10_harshestBeat 45 = .ok (.iload_n 2, 1) := by decide +kernel
theorem dX10_harshestBeat_46 : decode cX10_harshestBeat 46 = .ok (.if_icmp .le 8, 3) := by decide +kernel
theorem dX10_harshestBeat_49 : decode cX10_harshestBeat 49 = .ok (.iload 4, 2) := by decide +kernel
theorem dX10_harshestBeat_51 : decode cX10_harshestBeat 51 = .ok (.istore_n 2, 1) := by decide +kernel
theorem dX10_harshestBeat_52 : decode cX10_harshestBeat 52 = .ok (.iload_n 3, 1) := by decide +kernel
theorem dX10_harshestBeat_53 : decode cX10_harshestBeat 53 = .ok (.istore_n 1, 1) := by decide +kernel
theorem dX10_harshestBeat_54 : decode cX10_harshestBeat 54 = .ok (.iinc 3 1, 3) := by decide +kernel
theorem dX10_harshestBeat_57 : decode cX10_harshestBeat 57 = .ok (.goto (-51), 3) := by decide +kernel
theorem dX10_harshestBeat_60 : decode cX10_harshestBeat 60 = .ok (.iload_n 1, 1) := by decide +kernel
theorem dX10_harshestBeat_61 : decode cX10_harshestBeat 61 = .ok (.invokestatic 267, 3) := by decide +kernel
theorem dX10_harshestBeat_64 : decode cX10_harshestBeat 64 = .ok (.iload_n 1, 1) := by decide +kernel
theorem dX10_harshestBeat_65 : decode cX10_harshestBeat 65 = .ok (.ireturn, 1) := by decide +kernel
def f_X10_harshestBeat_L6 (x_valley_bells_pitches : (Nat → Int32)) (x_valley_bells_count : Int32) (x_valley_melodies_lengths : (Nat → Int32)) (x_valley_melodies_entries : (Nat → Int32)) (x_valley_melodies_tones : (Nat → Int32)) (x_valley_cliffs_delays : (Nat → Int32)) (x_valley_cliffs_transpositions : (Nat → Int32)) (x_valley_cliffs_count : Int32) (K6 : Int32 → (Nat → Int32) → Int32 → Option ((Int32 ⊕ String) × (Nat → Int32) × Int32)) : Nat → Int32 → Int32 → Int32 → (Nat → Int32) → Int32 → Option ((Int32 ⊕ String) × (Nat → Int32) × Int32)
  | 0, _, _, _, _, _ => none
  | n6 + 1, i1, i2, i3, i4, i5 =>
    q_br (30 < i1) (
  K6 i3 i4 i5) (
  q_bd (f_X2_listen i4 i5 x_valley_bells_pitches x_valley_bells_count x_valley_melodies_lengths x_valley_melodies_entries x_valley_melodies_tones x_valley_cliffs_delays x_valley_cliffs_transpositions x_valley_cliffs_count i1) (fun q9 =>
  q_bd (f_X2_dissonantPairs q9.1 q9.2) (fun q10 =>
  q_lt (fun (j11 : Int32) (j12 : Int32) =>
  q_lt (i1 + 1 : Int32) (fun v13 =>
  f_X10_harshestBeat_L6 x_valley_bells_pitches x_valley_bells_count x_valley_melodies_lengths x_valley_melodies_entries x_valley_melodies_tones x_valley_cliffs_delays x_valley_cliffs_transpositions x_valley_cliffs_count K6 n6 v13 j11 j12 q9.1 q9.2)) (fun (J54 : Int32 → Int32 → Option ((Int32 ⊕ String) × (Nat → Int32) × Int32)) =>
  q_br (q9.2 ≤ 0) (
  J54 i2 i3) (
  q_br (q10 ≤ i2) (
  J54 i2 i3) (
  J54 q10 i1))))))
def f_X10_harshestBeat (x_valley_bells_pitches : (Nat → Int32)) (x_valley_bells_count : Int32) (x_valley_melodies_lengths : (Nat → Int32)) (x_valley_melodies_entries : (Nat → Int32)) (x_valley_melodies_tones : (Nat → Int32)) (x_valley_cliffs_delays : (Nat → Int32)) (x_valley_cliffs_transpositions : (Nat → Int32)) (x_valley_cliffs_count : Int32) (x_chord_notes : (Nat → Int32)) (x_chord_size : Int32) : Option ((Int32 ⊕ String) × (Nat → Int32) × Int32) :=
  f_X10_harshestBeat_L6 x_valley_bells_pitches x_valley_bells_count x_valley_melodies_lengths x_valley_melodies_entries x_valley_melodies_tones x_valley_cliffs_delays x_valley_cliffs_transpositions x_valley_cliffs_count (fun y6 y7 y8 =>
  q_bd (f_X10_requireSound y6) (fun q14 =>
  q_sm q14 (fun X => some (Sum.inr X, y7, y8)) (fun r15 =>
  some (Sum.inl y6, y7, y8)))) 2000 0 (-1) (-1) x_chord_notes x_chord_size
theorem hv_X10_harshestBeat : yX10_harshestBeat.cls = RX10 ∧ yX10_harshestBeat.cls ≠ "java/lang/invoke/MethodHandle" ∧ yX10_harshestBeat.cls ≠ "java/lang/invoke/VarHandle" ∧ (parseMethodDescriptor yX10_harshestBeat.desc).map (fun d => d.parameters.length) = some 0 := by decide +kernel
abbrev rm_X10_harshestBeat : Room := { frames := 7, cells := 1, slots := 6, locals := 115 }
set_option maxHeartbeats 4000000 in
set_option maxRecDepth 100000 in
theorem k_X10_harshestBeat (l : Launch) (E : ET) (a : Nat → Nat) (o : Nat) (x : VB_t) (res : (Int32 ⊕ String) × (Nat → Int32) × Int32) (hF : f_X10_harshestBeat x.1.1.2.1.2.1 x.1.1.2.1.2.2 x.1.1.2.2.1.1 x.1.1.2.2.1.2.1 x.1.1.2.2.1.2.2 x.1.1.2.2.2.1 x.1.1.2.2.2.2.1 x.1.1.2.2.2.2.2 x.1.2.2.2.2.1 x.1.2.2.2.2.2.2 = some res) (sz : Nat) (hlt : l.stackTraces = false) : CxI l yX10_harshestBeat (mws yX10_harshestBeat cX10_harshestBeat 5 (some .int)) rm_X10_harshestBeat 1 6 [.ref (a o)] E (bl_VB E a o x) res.1 (bl_VB E a o ((x.1.1, x.1.2.1, x.1.2.2.1, x.1.2.2.2.1, (res.2.1, x.1.2.2.2.2.2.1, res.2.2)), (x.2.1, x.2.2.1, x.2.2.2.1, x.2.2.2.2.1, x.2.2.2.2.2))) sz := by
  refine mk_X (by decide +kernel) (Nat.le_of_ble_eq_true rfl) ?_
  intro p e s m below meth c A args Q ls hAe hsz hQ hx hb hr hml hin ha hown hlocks hA hz hzs hst hexc hP hD hS hl
  have hown : s.vm.findClass RX10 = some m.cls := hown
  rw [hAe] at hQ
  subst hsz
  have hP : va_P E.1 vwCl (List.flatten [w_VBR a o x.2.2.2.1 x.2.2.2.2.1 x.2.2.2.2.2, w_ValleyR a (o + 1), w_Key E a (o + 2) x.1.1.1, w_Bells E a (o + 3) x.1.1.2.1, w_Mel E a (o + 6) x.1.1.2.2.1, w_Cliffs E a (o + 10) x.1.1.2.2.2, w_ValleyR a (o + 13), w_Key E a (o + 14) x.1.2.1.1, w_Bells E a (o + 15) x.1.2.1.2.1, w_Mel E a (o + 18) x.1.2.1.2.2.1, w_Cliffs E a (o + 22) x.1.2.1.2.2.2, w_Prog E a (o + 25) x.1.2.2.2.1, w_Chord E a (o + 31) x.1.2.2.2.2, w_Key E a (o + 34) x.2.1, w_Line E a (o + 35) x.2.2.1, w_Hist E a (o + 37) x.1.2.2.1]) s.heap := hP
  have hD : va_D A (List.flatten [w_VBR a o x.2.2.2.1 x.2.2.2.2.1 x.2.2.2.2.2, w_ValleyR a (o + 1), w_Key E a (o + 2) x.1.1.1, w_Bells E a (o + 3) x.1.1.2.1, w_Mel E a (o + 6) x.1.1.2.2.1, w_Cliffs E a (o + 10) x.1.1.2.2.2, w_ValleyR a (o + 13), w_Key E a (o + 14) x.1.2.1.1, w_Bells E a (o + 15) x.1.2.1.2.1, w_Mel E a (o + 18) x.1.2.1.2.2.1, w_Cliffs E a (o + 22) x.1.2.1.2.2.2, w_Prog E a (o + 25) x.1.2.2.2.1, w_Chord E a (o + 31) x.1.2.2.2.2, w_Key E a (o + 34) x.2.1, w_Line E a (o + 35) x.2.2.1, w_Hist E a (o + 37) x.1.2.2.1]) := hD
  have hl : lv_has ls 5 [(0, .ref (a o))] := hl
  generalize hHe : s.heap = H at hP
  have hS : va_S A s.heap H [] := by rw [← hHe]; exact hS
  generalize ([] : List Loc) = locs at hS ⊢
  unfold f_X10_harshestBeat at hF
  refine lv_iconst (v := (-1)) hx hb dX10_harshestBeat_0 (by decide) ?_
  refine lv_istore_n (lv' := [(1, .int (-1)), (0, .ref (a o))]) hx hb dX10_harshestBeat_1 rfl hl (by decide) rfl (fun ls hl => ?_)
  refine lv_iconst (v := (-1)) hx hb dX10_harshestBeat_2 (by decide) ?_
  refine lv_istore_n (lv' := [(2, .int (-1)), (1, .int (-1)), (0, .ref (a o))]) hx hb dX10_harshestBeat_3 rfl hl (by decide) rfl (fun ls hl => ?_)
  refine lv_iconst (v := 0) hx hb dX10_harshestBeat_4 (by decide) ?_
  refine lv_istore_n (lv' := [(3, .int 0), (2, .int (-1)), (1, .int (-1)), (0, .ref (a o))]) hx hb dX10_harshestBeat_5 rfl hl (by decide) rfl (fun ls hl => ?_)
  have key6 : ∀ (K : Int32 → (Nat → Int32) → Int32 → Option ((Int32 ⊕ String) × (Nat → Int32) × Int32)), (∀ (y6 : Int32) (y7 : (Nat → Int32)) (y8 : Int32) (H : Heap) (locs : List Loc) (ls : Array Slot), K y6 y7 y8 = some res → va_P E.1 vwCl (List.flatten [w_VBR a o x.2.2.2.1 x.2.2.2.2.1 x.2.2.2.2.2, w_ValleyR a (o + 1), w_Key E a (o + 2) x.1.1.1, w_Bells E a (o + 3) x.1.1.2.1, w_Mel E a (o + 6) x.1.1.2.2.1, w_Cliffs E a (o + 10) x.1.1.2.2.2, w_ValleyR a (o + 13), w_Key E a (o + 14) x.1.2.1.1, w_Bells E a (o + 15) x.1.2.1.2.1, w_Mel E a (o + 18) x.1.2.1.2.2.1, w_Cliffs E a (o + 22) x.1.2.1.2.2.2, w_Prog E a (o + 25) x.1.2.2.2.1, w_Chord E a (o + 31) (y7, x.1.2.2.2.2.2.1, y8), w_Key E a (o + 34) x.2.1, w_Line E a (o + 35) x.2.2.1, w_Hist E a (o + 37) x.1.2.2.1]) H → va_D A (List.flatten [w_VBR a o x.2.2.2.1 x.2.2.2.2.1 x.2.2.2.2.2, w_ValleyR a (o + 1), w_Key E a (o + 2) x.1.1.1, w_Bells E a (o + 3) x.1.1.2.1, w_Mel E a (o + 6) x.1.1.2.2.1, w_Cliffs E a (o + 10) x.1.1.2.2.2, w_ValleyR a (o + 13), w_Key E a (o + 14) x.1.2.1.1, w_Bells E a (o + 15) x.1.2.1.2.1, w_Mel E a (o + 18) x.1.2.1.2.2.1, w_Cliffs E a (o + 22) x.1.2.1.2.2.2, w_Prog E a (o + 25) x.1.2.2.2.1, w_Chord E a (o + 31) (y7, x.1.2.2.2.2.2.1, y8), w_Key E a (o + 34) x.2.1, w_Line E a (o + 35) x.2.2.1, w_Hist E a (o + 37) x.1.2.2.1]) → va_S A s.heap H locs → lv_has ls 5 [(1, .int y6)] → W p l e rm_X10_harshestBeat s m args below meth c H locs 0 0 Q (F0 m 60 ls [])) → ∀ (n : Nat) (i1 : Int32) (i2 : Int32) (i3 : Int32) (i4 : (Nat → Int32)) (i5 : Int32) (H : Heap) (locs : List Loc) (ls : Array Slot), f_X10_harshestBeat_L6 x.1.1.2.1.2.1 x.1.1.2.1.2.2 x.1.1.2.2.1.1 x.1.1.2.2.1.2.1 x.1.1.2.2.1.2.2 x.1.1.2.2.2.1 x.1.1.2.2.2.2.1 x.1.1.2.2.2.2.2 K n i1 i2 i3 i4 i5 = some res → va_P E.1 vwCl (List.flatten [w_VBR a o x.2.2.2.1 x.2.2.2.2.1 x.2.2.2.2.2, w_ValleyR a (o + 1), w_Key E a (o + 2) x.1.1.1, w_Bells E a (o + 3) x.1.1.2.1, w_Mel E a (o + 6) x.1.1.2.2.1, w_Cliffs E a (o + 10) x.1.1.2.2.2, w_ValleyR a (o + 13), w_Key E a (o + 14) x.1.2.1.1, w_Bells E a (o + 15) x.1.2.1.2.1, w_Mel E a (o + 18) x.1.2.1.2.2.1, w_Cliffs E a (o + 22) x.1.2.1.2.2.2, w_Prog E a (o + 25) x.1.2.2.2.1, w_Chord E a (o + 31) (i4, x.1.2.2.2.2.2.1, i5), w_Key E a (o + 34) x.2.1, w_Line E a (o + 35) x.2.2.1, w_Hist E a (o + 37) x.1.2.2.1]) H → va_D A (List.flatten [w_VBR a o x.2.2.2.1 x.2.2.2.2.1 x.2.2.2.2.2, w_ValleyR a (o + 1), w_Key E a (o + 2) x.1.1.1, w_Bells E a (o + 3) x.1.1.2.1, w_Mel E a (o + 6) x.1.1.2.2.1, w_Cliffs E a (o + 10) x.1.1.2.2.2, w_ValleyR a (o + 13), w_Key E a (o + 14) x.1.2.1.1, w_Bells E a (o + 15) x.1.2.1.2.1, w_Mel E a (o + 18) x.1.2.1.2.2.1, w_Cliffs E a (o + 22) x.1.2.1.2.2.2, w_Prog E a (o + 25) x.1.2.2.2.1, w_Chord E a (o + 31) (i4, x.1.2.2.2.2.2.1, i5), w_Key E a (o + 34) x.2.1, w_Line E a (o + 35) x.2.2.1, w_Hist E a (o + 37) x.1.2.2.1]) → va_S A s.heap H locs → lv_has ls 5 [(3, .int i1), (2, .int i2), (1, .int i3), (0, .ref (a o))] → W p l e rm_X10_harshestBeat s m args below meth c H locs 0 0 Q (F0 m 6 ls []) := by
    intro K6 hK6 n6
    induction n6 with
    | zero => intro i1 i2 i3 i4 i5 H locs ls hF; exact absurd hF (by simp [f_X10_harshestBeat_L6])
    | succ n6 ih6 =>
      intro i1 i2 i3 i4 i5 H locs ls hF hP hD hS hl
      rw [f_X10_harshestBeat_L6] at hF
      refine lv_iload_n hx hb dX10_harshestBeat_6 rfl (lv_at hl 0 rfl) ?_
      refine lv_bipush (v := 30) hx hb dX10_harshestBeat_7 (by decide) ?_
      refine lv_icmp_gt (tgt := 60) hx hb dX10_harshestBeat_9 (by decide) (fun c9 => ?_) (fun c9 => ?_)
      · have hF := q_brp c9 hF
        exact hK6 i3 i4 i5 H locs ls hF hP hD hS (lv_sub hl [2] rfl)
      · have hF := q_brn c9 hF
        refine lv_aload_n hx hb dX10_harshestBeat_12 rfl (lv_at hl 3 rfl) ?_
        refine va_get (D := E.1) (ci := 11) (v := .ref (a (o + 31))) (C := RX10) (T := TX10) (N := 10) hx hb ha in_X10 hown hst.k hP 0 rfl rfl 4 (by decide) (ha _ mw288) (fun _ h9 => h9) rfl dX10_harshestBeat_13 ?_
        refine lv_aload_n hx hb dX10_harshestBeat_16 rfl (lv_at hl 3 rfl) ?_
        refine va_get (D := E.1) (ci := 11) (v := .ref (a (o + 1))) (C := RX10) (T := TX10) (N := 10) hx hb ha in_X10 hown hst.k hP 0 rfl rfl 0 (by decide) (ha _ mw284) (fun _ h9 => h9) rfl dX10_harshestBeat_17 ?_
        refine lv_iload_n hx hb dX10_harshestBeat_20 rfl (lv_at hl 0 rfl) ?_
        obtain ⟨q9, hq9, hF⟩ := q_bdi hF
        refine cl_v (Lc := [w_Chord E a (o + 31) (i4, x.1.2.2.2.2.2.1, i5), w_ValleyR a (o + 1), w_Key E a (o + 2) x.1.1.1, w_Bells E a (o + 3) x.1.1.2.1, w_Mel E a (o + 6) x.1.1.2.2.1, w_Cliffs E a (o + 10) x.1.1.2.2.2]) (Lc' := [w_Chord E a (o + 31) (q9.1, x.1.2.2.2.2.2.1, q9.2), w_ValleyR a (o + 1), w_Key E a (o + 2) x.1.1.1, w_Bells E a (o + 3) x.1.1.2.1, w_Mel E a (o + 6) x.1.1.2.2.1, w_Cliffs E a (o + 10) x.1.1.2.2.2]) (L' := [w_VBR a o x.2.2.2.1 x.2.2.2.2.1 x.2.2.2.2.2, w_ValleyR a (o + 1), w_Key E a (o + 2) x.1.1.1, w_Bells E a (o + 3) x.1.1.2.1, w_Mel E a (o + 6) x.1.1.2.2.1, w_Cliffs E a (o + 10) x.1.1.2.2.2, w_ValleyR a (o + 13), w_Key E a (o + 14) x.1.2.1.1, w_Bells E a (o + 15) x.1.2.1.2.1, w_Mel E a (o + 18) x.1.2.1.2.2.1, w_Cliffs E a (o + 22) x.1.2.1.2.2.2, w_Prog E a (o + 25) x.1.2.2.2.1, w_Chord E a (o + 31) (q9.1, x.1.2.2.2.2.2.1, q9.2), w_Key E a (o + 34) x.2.1, w_Line E a (o + 35) x.2.2.1, w_Hist E a (o + 37) x.1.2.2.1]) (va_runV (As := [.ref (a (o + 1)), .int i1]) (rest := []) ⟨hx, hb, hml, hown, ha⟩ (k_X2_listen l E a (o + 31) (i4, x.1.2.2.2.2.2.1, i5) a (o + 1) x.1.1 i1 q9 hq9 H.size) (cwV 2 ha (gi_V (fun _ h => h) mw845 mw846 mw847 mw34 mw848) rfl rfl rfl hv_X2_listen ⟨(Nat.le_of_ble_eq_true rfl), (Nat.le_of_ble_eq_true rfl)⟩) ⟨pre_blind, va_recv hst.k (fr_P hP [12, 1, 2, 3, 4, 5] rfl) (ci := 4) (q0 := 0) rfl rfl, pre_at hP hD hS hz hzs hst [12, 1, 2, 3, 4, 5] (by decide) rfl rfl⟩ rfl rfl hl.1 rfl (lv_room (Nat.le_of_ble_eq_true rfl)) dX10_harshestBeat_21 ⟨(Nat.le_of_ble_eq_true rfl), (Nat.le_of_ble_eq_true rfl)⟩) hP hD hS hA [12, 1, 2, 3, 4, 5] (by decide) rfl rfl rfl rfl (fun H locs hP hD hS => ?_)
        refine lv_aload_n hx hb dX10_harshestBeat_24 rfl (lv_at hl 3 rfl) ?_
        refine va_get (D := E.1) (ci := 11) (v := .ref (a (o + 31))) (C := RX10) (T := TX10) (N := 10) hx hb ha in_X10 hown hst.k hP 0 rfl rfl 4 (by decide) (ha _ mw288) (fun _ h9 => h9) rfl dX10_harshestBeat_25 ?_
        obtain ⟨q10, hq10, hF⟩ := q_bdi hF
        refine cl_i (Lc := [w_Chord E a (o + 31) (q9.1, x.1.2.2.2.2.2.1, q9.2)]) (Lc' := [w_Chord E a (o + 31) (q9.1, x.1.2.2.2.2.2.1, q9.2)]) (L' := [w_VBR a o x.2.2.2.1 x.2.2.2.2.1 x.2.2.2.2.2, w_ValleyR a (o + 1), w_Key E a (o + 2) x.1.1.1, w_Bells E a (o + 3) x.1.1.2.1, w_Mel E a (o + 6) x.1.1.2.2.1, w_Cliffs E a (o + 10) x.1.1.2.2.2, w_ValleyR a (o + 13), w_Key E a (o + 14) x.1.2.1.1, w_Bells E a (o + 15) x.1.2.1.2.1, w_Mel E a (o + 18) x.1.2.1.2.2.1, w_Cliffs E a (o + 22) x.1.2.1.2.2.2, w_Prog E a (o + 25) x.1.2.2.2.1, w_Chord E a (o + 31) (q9.1, x.1.2.2.2.2.2.1, q9.2), w_Key E a (o + 34) x.2.1, w_Line E a (o + 35) x.2.2.1, w_Hist E a (o + 37) x.1.2.2.1]) (rv := q10) (va_runV (As := []) (rest := []) ⟨hx, hb, hml, hown, ha⟩ (k_X2_dissonantPairs l E a (o + 31) (q9.1, x.1.2.2.2.2.2.1, q9.2) q10 hq10 H.size) (cwV 0 ha (gi_V (fun _ h => h) mw874 mw875 mw876 mw34 mw877) rfl rfl rfl hv_X2_dissonantPairs ⟨(Nat.le_of_ble_eq_true rfl), (Nat.le_of_ble_eq_true rfl)⟩) ⟨pre_blind, va_recv hst.k (fr_P hP [12] rfl) (ci := 4) (q0 := 0) rfl rfl, pre_at hP hD hS hz hzs hst [12] (by decide) rfl rfl⟩ rfl rfl hl.1 rfl (lv_room (Nat.le_of_ble_eq_true rfl)) dX10_harshestBeat_28 ⟨(Nat.le_of_ble_eq_true rfl), (Nat.le_of_ble_eq_true rfl)⟩) hP hD hS hA [12] (by decide) rfl rfl rfl rfl (fun H locs hP hD hS => ?_)
        refine lv_istore (lv' := [(4, .int q10), (3, .int i1), (2, .int i2), (1, .int i3), (0, .ref (a o))]) hx hb dX10_harshestBeat_31 hl (by decide) rfl (fun ls hl => ?_)
        refine lv_aload_n hx hb dX10_harshestBeat_33 rfl (lv_at hl 4 rfl) ?_
        refine va_get (D := E.1) (ci := 11) (v := .ref (a (o + 31))) (C := RX10) (T := TX10) (N := 10) hx hb ha in_X10 hown hst.k hP 0 rfl rfl 4 (by decide) (ha _ mw288) (fun _ h9 => h9) rfl dX10_harshestBeat_34 ?_
        refine va_getN (D := E.1) (ci := 4) (v := .int q9.2) (C := RX2) (T := TX2) (N := 3) hx hb ha in_X2 hown hst.k hP 31 rfl rfl 2 (by decide) (va_Nw.use rfl (nf25 hst)) (fun _ h9 => h9) rfl dX10_harshestBeat_37 ?_
        obtain ⟨J54, hJ54, hF⟩ := q_jn hF
        have jJ54 : ∀ (j11 : Int32) (j12 : Int32), ∀ (H : Heap) (locs : List Loc) (ls : Array Slot), J54 j11 j12 = some res → va_P E.1 vwCl (List.flatten [w_VBR a o x.2.2.2.1 x.2.2.2.2.1 x.2.2.2.2.2, w_ValleyR a (o + 1), w_Key E a (o + 2) x.1.1.1, w_Bells E a (o + 3) x.1.1.2.1, w_Mel E a (o + 6) x.1.1.2.2.1, w_Cliffs E a (o + 10) x.1.1.2.2.2, w_ValleyR a (o + 13), w_Key E a (o + 14) x.1.2.1.1, w_Bells E a (o + 15) x.1.2.1.2.1, w_Mel E a (o + 18) x.1.2.1.2.2.1, w_Cliffs E a (o + 22) x.1.2.1.2.2.2, w_Prog E a (o + 25) x.1.2.2.2.1, w_Chord E a (o + 31) (q9.1, x.1.2.2.2.2.2.1, q9.2), w_Key E a (o + 34) x.2.1, w_Line E a (o + 35) x.2.2.1, w_Hist E a (o + 37) x.1.2.2.1]) H → va_D A (List.flatten [w_VBR a o x.2.2.2.1 x.2.2.2.2.1 x.2.2.2.2.2, w_ValleyR a (o + 1), w_Key E a (o + 2) x.1.1.1, w_Bells E a (o + 3) x.1.1.2.1, w_Mel E a (o + 6) x.1.1.2.2.1, w_Cliffs E a (o + 10) x.1.1.2.2.2, w_ValleyR a (o + 13), w_Key E a (o + 14) x.1.2.1.1, w_Bells E a (o + 15) x.1.2.1.2.1, w_Mel E a (o + 18) x.1.2.1.2.2.1, w_Cliffs E a (o + 22) x.1.2.1.2.2.2, w_Prog E a (o + 25) x.1.2.2.2.1, w_Chord E a (o + 31) (q9.1, x.1.2.2.2.2.2.1, q9.2), w_Key E a (o + 34) x.2.1, w_Line E a (o + 35) x.2.2.1, w_Hist E a (o + 37) x.1.2.2.1]) → va_S A s.heap H locs → lv_has ls 5 [(3, .int i1), (2, .int j11), (1, .int j12), (0, .ref (a o))] → W p l e rm_X10_harshestBeat s m args below meth c H locs 0 0 Q (F0 m 54 ls []) := by
          intro j11 j12 H locs ls hF hP hD hS hl
          rw [hJ54] at hF
          obtain ⟨v13, ev13⟩ : ∃ y : Int32, y = i1 + 1 := ⟨_, rfl⟩
          have hF := q_lti ev13 hF
          refine lv_iinc (v := v13) (lv' := [(3, .int v13), (2, .int j11), (1, .int j12), (0, .ref (a o))]) hx hb dX10_harshestBeat_54 hl (k := 0) rfl (by rw [ev13]; rfl) (by decide) rfl (fun ls hl => ?_)
          refine lv_goto (tgt := 6) hx hb dX10_harshestBeat_57 (by decide) ?_
          exact ih6 v13 j11 j12 q9.1 q9.2 H locs ls hF hP hD hS (lv_sub hl [0, 1, 2, 3] rfl)
        refine lv_if_le (tgt := 54) hx hb dX10_harshestBeat_40 (by decide) (fun c40 => ?_) (fun c40 => ?_)
        · have hF := q_brp c40 hF
          exact jJ54 i2 i3 H locs ls hF hP hD hS (lv_sub hl [1, 2, 3, 4] rfl)
        · have hF := q_brn c40 hF
          refine lv_iload hx hb dX10_harshestBeat_43 (lv_at hl 0 rfl) ?_
          refine lv_iload_n hx hb dX10_harshestBeat_45 rfl (lv_at hl 2 rfl) ?_
          refine lv_icmp_le (tgt := 54) hx hb dX10_harshestBeat_46 (by decide) (fun c46 => ?_) (fun c46 => ?_)
          · have hF := q_brp c46 hF
            exact jJ54 i2 i3 H locs ls hF hP hD hS (lv_sub hl [1, 2, 3, 4] rfl)
          · have hF := q_brn c46 hF
            refine lv_iload hx hb dX10_harshestBeat_49 (lv_at hl 0 rfl) ?_
            refine lv_istore_n (lv' := [(2, .int q10), (4, .int q10), (3, .int i1), (1, .int i3), (0, .ref (a o))]) hx hb dX10_harshestBeat_51 rfl hl (by decide) rfl (fun ls hl => ?_)
            refine lv_iload_n hx hb dX10_harshestBeat_52 rfl (lv_at hl 2 rfl) ?_
            refine lv_istore_n (lv' := [(1, .int i1), (2, .int q10), (4, .int q10), (3, .int i1), (0, .ref (a o))]) hx hb dX10_harshestBeat_53 rfl hl (by decide) rfl (fun ls hl => ?_)
            exact jJ54 q10 i1 H locs ls hF hP hD hS (lv_sub hl [3, 1, 0, 4] rfl)
  refine key6 _ ?_ _ 0 (-1) (-1) x.1.2.2.2.2.1 x.1.2.2.2.2.2.2 H locs ls hF hP hD hS (lv_sub hl [0, 1, 2, 3] rfl)
  intro y6 y7 y8 H locs ls hF hP hD hS hl
  refine lv_iload_n hx hb dX10_harshestBeat_60 rfl (lv_at hl 0 rfl) ?_
  obtain ⟨q14, hq14, hF⟩ := q_bdi hF
  refine cx_v (ro := q14) (Lc := []) (Lc' := []) (L' := [w_VBR a o x.2.2.2.1 x.2.2.2.2.1 x.2.2.2.2.2, w_ValleyR a (o + 1), w_Key E a (o + 2) x.1.1.1, w_Bells E a (o + 3) x.1.1.2.1, w_Mel E a (o + 6) x.1.1.2.2.1, w_Cliffs E a (o + 10) x.1.1.2.2.2, w_ValleyR a (o + 13), w_Key E a (o + 14) x.1.2.1.1, w_Bells E a (o + 15) x.1.2.1.2.1, w_Mel E a (o + 18) x.1.2.1.2.2.1, w_Cliffs E a (o + 22) x.1.2.1.2.2.2, w_Prog E a (o + 25) x.1.2.2.2.1, w_Chord E a (o + 31) (y7, x.1.2.2.2.2.2.1, y8), w_Key E a (o + 34) x.2.1, w_Line E a (o + 35) x.2.2.1, w_Hist E a (o + 37) x.1.2.2.1]) (vx_runS (As := [.int y6]) (rest := []) ⟨hx, hb, hml, hown, ha⟩ (k_X10_requireSound l E y6 q14 hq14 H.size hlt) (cwS 1 ha (gi_S (fun _ h => h) mw909 mw910 mw26 mw911) rfl rfl rfl hv_X10_requireSound ⟨(Nat.le_of_ble_eq_true rfl), (Nat.le_of_ble_eq_true rfl)⟩) ⟨pre_blind, pre_at hP hD hS hz hzs hst [] (by decide) rfl rfl⟩ rfl rfl hl.1 rfl (lv_room (Nat.le_of_ble_eq_true rfl)) dX10_harshestBeat_61 ⟨(Nat.le_of_ble_eq_true rfl), (Nat.le_of_ble_eq_true rfl)⟩) hP hD hS hA [] (by decide) rfl rfl rfl rfl (fun X ce q9 H locs eX h1 h2 h3 hP hD hS => ?_) (fun r15 H locs er15 hP hD hS => ?_)
  · have hF := q_smr eX hF
    obtain rfl := Option.some.inj hF
    exact en_out hQ (Nat.le_of_ble_eq_true rfl) (Nat.le_of_ble_eq_true rfl) hexc hlocks h1 h2 h3 hP hD hS rfl
  have hF := q_sml er15 hF
  refine lv_iload_n hx hb dX10_harshestBeat_64 rfl (lv_at hl 0 rfl) ?_
  obtain rfl := Option.some.inj hF
  exact en_xi hQ (Nat.le_of_ble_eq_true rfl) (Nat.le_of_ble_eq_true rfl) hx hb hr hlocks hP hD hS rfl dX10_harshestBeat_65

/-! X10_centsAgree -/
theorem dX10_centsAgree_0 : decode cX10_centsAgree 0 = .ok (.iconst 0, 1) := by decide +kernel
theorem dX10_centsAgree_1 : decode cX10_centsAgree 1 = .ok (.istore_n 1, 1) := by decide +kernel
theorem dX10_centsAgree_2 : decode cX10_centsAgree 2 = .ok (.iload_n 1, 1) := by decide +kernel
theorem dX10_centsAgree_3 : decode cX10_centsAgree 3 = .ok (.aload_n 0, 1) := by decide +kernel
theorem dX10_centsAgree_4 : decode cX10_centsAgree 4 = .ok (.getfield 10, 3) := by decide +kernel
theorem dX10_centsAgree_7 : decode cX10_centsAgree 7 = .ok (.getfield 108, 3) := by decide +kernel
theorem dX10_centsAgree_10 : decode cX10_centsAgree 10 = .ok (.getfield 112, 3) := by decide +kernel
theorem dX10_centsAgree_13 : decode cX10_centsAgree 13 = .ok (.if_icmp .ge 49, 3) := by decide +kernel
theorem dX10_centsAgree_16 : decode cX10_centsAgree 16 = .ok (.aload_n 0, 1) := by decide +kernel
theorem dX10_centsAgree_17 : decode cX10_centsAgree 17 = .ok (.getfield 10, 3) := by decide +kernel
theorem dX10_centsAgree_20 : decode cX10_centsAgree 20 = .ok (.getfield 108, 3) := by decide +kernel
theorem dX10_centsAgree_23 : decode cX10_centsAgree 23 = .ok (.getfield 125, 3) := by decide +kernel
theorem dX10_centsAgree_26 : decode cX10_centsAgree 26 = .ok (.iload_n 1, 1) := by decide +kernel
theorem dX10_centsAgree_27 : decode cX10_centsAgree 27 = .ok (.iaload, 1) := by decide +kernel
theorem dX10_centsAgree_28 : decode cX10_centsAgree 28 = .ok (.istore_n 2, 1) := by decide +kernel
theorem dX10_centsAgree_29 : decode cX10_centsAgree 29 = .ok (.aload_n 0, 1) := by decide +kernel
theorem dX10_centsAgree_30 : decode cX10_centsAgree 30 = .ok (.getfield 10, 3) := by decide +kernel
theorem dX10_centsAgree_33 : decode cX10_centsAgree 33 = .ok (.getfield 135, 3) := by decide +kernel
theorem dX10_centsAgree_36 : decode cX10_centsAgree 36 = .ok (.iload_n 2, 1) := by decide +kernel
theorem dX10_centsAgree_37 : decode cX10_centsAgree 37 = .ok (.invokevirtual 146, 3) := by decide +kernel
theorem dX10_centsAgree_40 : decode cX10_centsAgree 40 = .ok (.aload_n 0, 1) := by decide +kernel
theorem dX10_centsAgree_41 : decode cX10_centsAgree 41 = .ok (.getfield 10, 3) := by decide +kernel
theorem dX10_centsAgree_44 : decode cX10_centsAgree 44 = .ok (.getfield 135, 3) := by decide +kernel
theorem dX10_centsAgree_47 : decode cX10_centsAgree 47 = .ok (.iload_n 2, 1) := by decide +kernel
theorem dX10_centsAgree_48 : decode cX10_centsAgree 48 = .ok (.invokevirtual 149, 3) := by decide +kernel
theorem dX10_centsAgree_51 : decode cX10_centsAgree 51 = .ok (.if_icmp .eq 5, 3) := by decide +kernel
theorem dX10_centsAgree_54 : decode cX10_centsAgree 54 = .ok (.iconst 0, 1) := by decide +kernel
theorem dX10_centsAgree_55 : decode cX10_centsAgree 55 = .ok (.ireturn, 1) := by decide +kernel
theorem dX10_centsAgree_56 : decode cX10_centsAgree 56 = .ok (.iinc 1 1, 3) := by decide +kernel
theorem dX10_centsAgree_59 : decode cX10_centsAgree 59 = .ok (.goto (-57), 3) := by decide +kernel
theorem dX10_centsAgree_62 : decode cX10_centsAgree 62 = .ok (.iconst 1, 1) := by decide +kernel
theorem dX10_centsAgree_63 : decode cX10_centsAgree 63 = .ok (.ireturn, 1) := by decide +kernel
def f_X10_centsAgree_L2 (x_valley_key_tonic : Int32) (x_valley_key_isMinor : Int32) (x_valley_bells_pitches : (Nat → Int32)) (x_valley_bells_count : Int32) : Nat → Int32 → Option (Int32)
  | 0, _ => none
  | n2 + 1, i1 =>
    q_br (x_valley_bells_count ≤ i1) (
  some 1) (
  q_gd (q_in i1 12) (
  q_lt (x_valley_bells_pitches (i1.toNatClampNeg) : Int32) (fun v3 =>
  q_bd (f_X6_centsByTrial x_valley_key_tonic x_valley_key_isMinor v3) (fun q4 =>
  q_bd (f_X6_centsByNotes x_valley_key_tonic x_valley_key_isMinor v3) (fun q5 =>
  q_br (q4 = q5) (
  q_lt (i1 + 1 : Int32) (fun v6 =>
  f_X10_centsAgree_L2 x_valley_key_tonic x_valley_key_isMinor x_valley_bells_pitches x_valley_bells_count n2 v6)) (
  some 0))))))
def f_X10_centsAgree (x_valley_key_tonic : Int32) (x_valley_key_isMinor : Int32) (x_valley_bells_pitches : (Nat → Int32)) (x_valley_bells_count : Int32) : Option (Int32) :=
  f_X10_centsAgree_L2 x_valley_key_tonic x_valley_key_isMinor x_valley_bells_pitches x_valley_bells_count 2000 0
theorem hv_X10_centsAgree : yX10_centsAgree.cls = RX10 ∧ yX10_centsAgree.cls ≠ "java/lang/invoke/MethodHandle" ∧ yX10_centsAgree.cls ≠ "java/lang/invoke/VarHandle" ∧ (parseMethodDescriptor yX10_centsAgree.desc).map (fun d => d.parameters.length) = some 0 := by decide +kernel
abbrev rm_X10_centsAgree : Room := { frames := 5, cells := 0, slots := 0, locals := 110 }
set_option maxHeartbeats 4000000 in
set_option maxRecDepth 100000 in
theorem k_X10_centsAgree (l : Launch) (E : ET) (a : Nat → Nat) (o : Nat) (x : VB_t) (res : Int32) (hF : f_X10_centsAgree x.1.1.1.1 x.1.1.1.2.1 x.1.1.2.1.2.1 x.1.1.2.1.2.2 = some res) (sz : Nat) : CtI l yX10_centsAgree (mws yX10_centsAgree cX10_centsAgree 3 (some .boolean)) rm_X10_centsAgree 0 0 [.ref (a o)] E (bl_VB E a o x) res (bl_VB E a o x) sz := by
  refine mk_M (by decide +kernel) (Nat.le_of_ble_eq_true rfl) ?_
  intro p e s m below meth c A args Q ls hAe hsz hQ hx hb hr hml hin ha hown hlocks hA hz hzs hst hP hD hS hl
  have hown : s.vm.findClass RX10 = some m.cls := hown
  rw [hAe] at hQ
  subst hsz
  have hP : va_P E.1 vwCl (List.flatten [w_VBR a o x.2.2.2.1 x.2.2.2.2.1 x.2.2.2.2.2, w_ValleyR a (o + 1), w_Key E a (o + 2) x.1.1.1, w_Bells E a (o + 3) x.1.1.2.1, w_Mel E a (o + 6) x.1.1.2.2.1, w_Cliffs E a (o + 10) x.1.1.2.2.2, w_ValleyR a (o + 13), w_Key E a (o + 14) x.1.2.1.1, w_Bells E a (o + 15) x.1.2.1.2.1, w_Mel E a (o + 18) x.1.2.1.2.2.1, w_Cliffs E a (o + 22) x.1.2.1.2.2.2, w_Prog E a (o + 25) x.1.2.2.2.1, w_Chord E a (o + 31) x.1.2.2.2.2, w_Key E a (o + 34) x.2.1, w_Line E a (o + 35) x.2.2.1, w_Hist E a (o + 37) x.1.2.2.1]) s.heap := hP
  have hD : va_D A (List.flatten [w_VBR a o x.2.2.2.1 x.2.2.2.2.1 x.2.2.2.2.2, w_ValleyR a (o + 1), w_Key E a (o + 2) x.1.1.1, w_Bells E a (o + 3) x.1.1.2.1, w_Mel E a (o + 6) x.1.1.2.2.1, w_Cliffs E a (o + 10) x.1.1.2.2.2, w_ValleyR a (o + 13), w_Key E a (o + 14) x.1.2.1.1, w_Bells E a (o + 15) x.1.2.1.2.1, w_Mel E a (o + 18) x.1.2.1.2.2.1, w_Cliffs E a (o + 22) x.1.2.1.2.2.2, w_Prog E a (o + 25) x.1.2.2.2.1, w_Chord E a (o + 31) x.1.2.2.2.2, w_Key E a (o + 34) x.2.1, w_Line E a (o + 35) x.2.2.1, w_Hist E a (o + 37) x.1.2.2.1]) := hD
  have hl : lv_has ls 3 [(0, .ref (a o))] := hl
  generalize hHe : s.heap = H at hP
  have hS : va_S A s.heap H [] := by rw [← hHe]; exact hS
  generalize ([] : List Loc) = locs at hS ⊢
  unfold f_X10_centsAgree at hF
  refine lv_iconst (v := 0) hx hb dX10_centsAgree_0 (by decide) ?_
  refine lv_istore_n (lv' := [(1, .int 0), (0, .ref (a o))]) hx hb dX10_centsAgree_1 rfl hl (by decide) rfl (fun ls hl => ?_)
  have key2 : ∀ (n : Nat) (i1 : Int32) (H : Heap) (locs : List Loc) (ls : Array Slot), f_X10_centsAgree_L2 x.1.1.1.1 x.1.1.1.2.1 x.1.1.2.1.2.1 x.1.1.2.1.2.2 n i1 = some res → va_P E.1 vwCl (List.flatten [w_VBR a o x.2.2.2.1 x.2.2.2.2.1 x.2.2.2.2.2, w_ValleyR a (o + 1), w_Key E a (o + 2) x.1.1.1, w_Bells E a (o + 3) x.1.1.2.1, w_Mel E a (o + 6) x.1.1.2.2.1, w_Cliffs E a (o + 10) x.1.1.2.2.2, w_ValleyR a (o + 13), w_Key E a (o + 14) x.1.2.1.1, w_Bells E a (o + 15) x.1.2.1.2.1, w_Mel E a (o + 18) x.1.2.1.2.2.1, w_Cliffs E a (o + 22) x.1.2.1.2.2.2, w_Prog E a (o + 25) x.1.2.2.2.1, w_Chord E a (o + 31) x.1.2.2.2.2, w_Key E a (o + 34) x.2.1, w_Line E a (o + 35) x.2.2.1, w_Hist E a (o + 37) x.1.2.2.1]) H → va_D A (List.flatten [w_VBR a o x.2.2.2.1 x.2.2.2.2.1 x.2.2.2.2.2, w_ValleyR a (o + 1), w_Key E a (o + 2) x.1.1.1, w_Bells E a (o + 3) x.1.1.2.1, w_Mel E a (o + 6) x.1.1.2.2.1, w_Cliffs E a (o + 10) x.1.1.2.2.2, w_ValleyR a (o + 13), w_Key E a (o + 14) x.1.2.1.1, w_Bells E a (o + 15) x.1.2.1.2.1, w_Mel E a (o + 18) x.1.2.1.2.2.1, w_Cliffs E a (o + 22) x.1.2.1.2.2.2, w_Prog E a (o + 25) x.1.2.2.2.1, w_Chord E a (o + 31) x.1.2.2.2.2, w_Key E a (o + 34) x.2.1, w_Line E a (o + 35) x.2.2.1, w_Hist E a (o + 37) x.1.2.2.1]) → va_S A s.heap H locs → lv_has ls 3 [(1, .int i1), (0, .ref (a o))] → W p l e rm_X10_centsAgree s m args below meth c H locs 0 0 Q (F0 m 2 ls []) := by
    intro n2
    induction n2 with
    | zero => intro i1 H locs ls hF; exact absurd hF (by simp [f_X10_centsAgree_L2])
    | succ n2 ih2 =>
      intro i1 H locs ls hF hP hD hS hl
      rw [f_X10_centsAgree_L2] at hF
      refine lv_iload_n hx hb dX10_centsAgree_2 rfl (lv_at hl 0 rfl) ?_
      refine lv_aload_n hx hb dX10_centsAgree_3 rfl (lv_at hl 1 rfl) ?_
      refine va_get (D := E.1) (ci := 11) (v := .ref (a (o + 1))) (C := RX10) (T := TX10) (N := 10) hx hb ha in_X10 hown hst.k hP 0 rfl rfl 0 (by decide) (ha _ mw284) (fun _ h9 => h9) rfl dX10_centsAgree_4 ?_
      refine va_getN (D := E.1) (ci := 10) (v := .ref (a (o + 3))) (C := RX9) (T := TX9) (N := 4) hx hb ha in_X9 hown hst.k hP 1 rfl rfl 1 (by decide) (va_Nw.use rfl (nf17 hst)) (fun _ h9 => h9) rfl dX10_centsAgree_7 ?_
      refine va_getN (D := E.1) (ci := 3) (v := .int x.1.1.2.1.2.2) (C := RX1) (T := TX1) (N := 3) hx hb ha in_X1 hown hst.k hP 3 rfl rfl 2 (by decide) (va_Nw.use rfl (nf5 hst)) (fun _ h9 => h9) rfl dX10_centsAgree_10 ?_
      refine lv_icmp_ge (tgt := 62) hx hb dX10_centsAgree_13 (by decide) (fun c13 => ?_) (fun c13 => ?_)
      · have hF := q_brp c13 hF
        refine lv_iconst (v := 1) hx hb dX10_centsAgree_62 (by decide) ?_
        obtain rfl := Option.some.inj hF
        exact en_z hQ (Nat.le_of_ble_eq_true rfl) (Nat.le_of_ble_eq_true rfl) hx hb hr hlocks (by decide) hP hD hS rfl dX10_centsAgree_63
      · have hF := q_brn c13 hF
        refine lv_aload_n hx hb dX10_centsAgree_16 rfl (lv_at hl 1 rfl) ?_
        refine va_get (D := E.1) (ci := 11) (v := .ref (a (o + 1))) (C := RX10) (T := TX10) (N := 10) hx hb ha in_X10 hown hst.k hP 0 rfl rfl 0 (by decide) (ha _ mw284) (fun _ h9 => h9) rfl dX10_centsAgree_17 ?_
        refine va_getN (D := E.1) (ci := 10) (v := .ref (a (o + 3))) (C := RX9) (T := TX9) (N := 4) hx hb ha in_X9 hown hst.k hP 1 rfl rfl 1 (by decide) (va_Nw.use rfl (nf17 hst)) (fun _ h9 => h9) rfl dX10_centsAgree_20 ?_
        refine va_getN (D := E.1) (ci := 3) (v := .ref (a (o + 5))) (C := RX1) (T := TX1) (N := 3) hx hb ha in_X1 hown hst.k hP 3 rfl rfl 1 (by decide) (va_Nw.use rfl (nf4 hst)) (fun _ h9 => h9) rfl dX10_centsAgree_23 ?_
        refine lv_iload_n hx hb dX10_centsAgree_26 rfl (lv_at hl 0 rfl) ?_
        obtain ⟨g2, hF⟩ := q_gdi hF
        refine vi_iald hx hb hst.k hP 5 0 rfl rfl (f := x.1.1.2.1.2.1) (k := i1.toNatClampNeg) rfl g2 dX10_centsAgree_27 ?_
        refine lv_topi (fun v3 ev3 => ?_)
        have hF := q_lti ev3 hF
        refine lv_istore_n (lv' := [(2, .int v3), (1, .int i1), (0, .ref (a o))]) hx hb dX10_centsAgree_28 rfl hl (by decide) rfl (fun ls hl => ?_)
        refine lv_aload_n hx hb dX10_centsAgree_29 rfl (lv_at hl 2 rfl) ?_
        refine va_get (D := E.1) (ci := 11) (v := .ref (a (o + 1))) (C := RX10) (T := TX10) (N := 10) hx hb ha in_X10 hown hst.k hP 0 rfl rfl 0 (by decide) (ha _ mw284) (fun _ h9 => h9) rfl dX10_centsAgree_30 ?_
        refine va_getN (D := E.1) (ci := 10) (v := .ref (a (o + 2))) (C := RX9) (T := TX9) (N := 4) hx hb ha in_X9 hown hst.k hP 1 rfl rfl 0 (by decide) (va_Nw.use rfl (nf15 hst)) (fun _ h9 => h9) rfl dX10_centsAgree_33 ?_
        refine lv_iload_n hx hb dX10_centsAgree_36 rfl (lv_at hl 0 rfl) ?_
        obtain ⟨q4, hq4, hF⟩ := q_bdi hF
        refine cl_i (Lc := [w_Key E a (o + 2) x.1.1.1]) (Lc' := [w_Key E a (o + 2) x.1.1.1]) (L' := [w_VBR a o x.2.2.2.1 x.2.2.2.2.1 x.2.2.2.2.2, w_ValleyR a (o + 1), w_Key E a (o + 2) x.1.1.1, w_Bells E a (o + 3) x.1.1.2.1, w_Mel E a (o + 6) x.1.1.2.2.1, w_Cliffs E a (o + 10) x.1.1.2.2.2, w_ValleyR a (o + 13), w_Key E a (o + 14) x.1.2.1.1, w_Bells E a (o + 15) x.1.2.1.2.1, w_Mel E a (o + 18) x.1.2.1.2.2.1, w_Cliffs E a (o + 22) x.1.2.1.2.2.2, w_Prog E a (o + 25) x.1.2.2.2.1, w_Chord E a (o + 31) x.1.2.2.2.2, w_Key E a (o + 34) x.2.1, w_Line E a (o + 35) x.2.2.1, w_Hist E a (o + 37) x.1.2.2.1]) (rv := q4) (va_runV (As := [.int v3]) (rest := []) ⟨hx, hb, hml, hown, ha⟩ (k_X6_centsByTrial l E a (o + 2) x.1.1.1 v3 q4 hq4 H.size) (cwV 1 ha (gi_V (fun _ h => h) mw697 mw698 mw699 mw28 mw700) rfl rfl rfl hv_X6_centsByTrial ⟨(Nat.le_of_ble_eq_true rfl), (Nat.le_of_ble_eq_true rfl)⟩) ⟨pre_blind, va_recv hst.k (fr_P hP [2] rfl) (ci := 7) (q0 := 0) rfl rfl, pre_at hP hD hS hz hzs hst [2] (by decide) rfl rfl⟩ rfl rfl hl.1 rfl (lv_room (Nat.le_of_ble_eq_true rfl)) dX10_centsAgree_37 ⟨(Nat.le_of_ble_eq_true rfl), (Nat.le_of_ble_eq_true rfl)⟩) hP hD hS hA [2] (by decide) rfl rfl rfl rfl (fun H locs hP hD hS => ?_)
        refine lv_aload_n hx hb dX10_centsAgree_40 rfl (lv_at hl 2 rfl) ?_
        refine va_get (D := E.1) (ci := 11) (v := .ref (a (o + 1))) (C := RX10) (T := TX10) (N := 10) hx hb ha in_X10 hown hst.k hP 0 rfl rfl 0 (by decide) (ha _ mw284) (fun _ h9 => h9) rfl dX10_centsAgree_41 ?_
        refine va_getN (D := E.1) (ci := 10) (v := .ref (a (o + 2))) (C := RX9) (T := TX9) (N := 4) hx hb ha in_X9 hown hst.k hP 1 rfl rfl 0 (by decide) (va_Nw.use rfl (nf15 hst)) (fun _ h9 => h9) rfl dX10_centsAgree_44 ?_
        refine lv_iload_n hx hb dX10_centsAgree_47 rfl (lv_at hl 0 rfl) ?_
        obtain ⟨q5, hq5, hF⟩ := q_bdi hF
        refine cl_i (Lc := [w_Key E a (o + 2) x.1.1.1]) (Lc' := [w_Key E a (o + 2) x.1.1.1]) (L' := [w_VBR a o x.2.2.2.1 x.2.2.2.2.1 x.2.2.2.2.2, w_ValleyR a (o + 1), w_Key E a (o + 2) x.1.1.1, w_Bells E a (o + 3) x.1.1.2.1, w_Mel E a (o + 6) x.1.1.2.2.1, w_Cliffs E a (o + 10) x.1.1.2.2.2, w_ValleyR a (o + 13), w_Key E a (o + 14) x.1.2.1.1, w_Bells E a (o + 15) x.1.2.1.2.1, w_Mel E a (o + 18) x.1.2.1.2.2.1, w_Cliffs E a (o + 22) x.1.2.1.2.2.2, w_Prog E a (o + 25) x.1.2.2.2.1, w_Chord E a (o + 31) x.1.2.2.2.2, w_Key E a (o + 34) x.2.1, w_Line E a (o + 35) x.2.2.1, w_Hist E a (o + 37) x.1.2.2.1]) (rv := q5) (va_runV (As := [.int v3]) (rest := [.int q4]) ⟨hx, hb, hml, hown, ha⟩ (k_X6_centsByNotes l E a (o + 2) x.1.1.1 v3 q5 hq5 H.size) (cwV 1 ha (gi_V (fun _ h => h) mw709 mw710 mw711 mw28 mw712) rfl rfl rfl hv_X6_centsByNotes ⟨(Nat.le_of_ble_eq_true rfl), (Nat.le_of_ble_eq_true rfl)⟩) ⟨pre_blind, va_recv hst.k (fr_P hP [2] rfl) (ci := 7) (q0 := 0) rfl rfl, pre_at hP hD hS hz hzs hst [2] (by decide) rfl rfl⟩ rfl rfl hl.1 rfl (lv_room (Nat.le_of_ble_eq_true rfl)) dX10_centsAgree_48 ⟨(Nat.le_of_ble_eq_true rfl), (Nat.le_of_ble_eq_true rfl)⟩) hP hD hS hA [2] (by decide) rfl rfl rfl rfl (fun H locs hP hD hS => ?_)
        refine lv_icmp_eq (tgt := 56) hx hb dX10_centsAgree_51 (by decide) (fun c51 => ?_) (fun c51 => ?_)
        · have hF := q_brp c51 hF
          obtain ⟨v6, ev6⟩ : ∃ y : Int32, y = i1 + 1 := ⟨_, rfl⟩
          have hF := q_lti ev6 hF
          refine lv_iinc (v := v6) (lv' := [(1, .int v6), (2, .int v3), (0, .ref (a o))]) hx hb dX10_centsAgree_56 hl (k := 1) rfl (by rw [ev6]; rfl) (by decide) rfl (fun ls hl => ?_)
          refine lv_goto (tgt := 2) hx hb dX10_centsAgree_59 (by decide) ?_
          exact ih2 v6 H locs ls hF hP hD hS (lv_sub hl [0, 2] rfl)
        · have hF := q_brn c51 hF
          refine lv_iconst (v := 0) hx hb dX10_centsAgree_54 (by decide) ?_
          obtain rfl := Option.some.inj hF
          exact en_z hQ (Nat.le_of_ble_eq_true rfl) (Nat.le_of_ble_eq_true rfl) hx hb hr hlocks (by decide) hP hD hS rfl dX10_centsAgree_55
  exact key2 _ 0 H locs ls hF hP hD hS (lv_sub hl [0, 1] rfl)

/-! X10_dissonancesAgree -/
theorem dX10_dissonancesAgree_0 : decode cX10_dissonancesAgree 0 = .ok (.iconst 0, 1) := by decide +kernel
theorem dX10_dissonancesAgree_1 : decode cX10_dissonancesAgree 1 = .ok (.istore_n 1, 1) := by decide +kernel
theorem dX10_dissonancesAgree_2 : decode cX10_dissonancesAgree 2 = .ok (.iload_n 1, 1) := by decide +kernel
theorem dX10_dissonancesAgree_3 : decode cX10_dissonancesAgree 3 = .ok (.bipush 30, 2) := by decide +kernel
theorem dX10_dissonancesAgree_5 : decode cX10_dissonancesAgree 5 = .ok (.if_icmp .gt 40, 3) := by decide +kernel
theorem dX10_dissonancesAgree_8 : decode cX10_dissonancesAgree 8 = .ok (.aload_n 0, 1) := by decide +kernel
theorem dX10_dissonancesAgree_9 : decode cX10_dissonancesAgree 9 = .ok (.getfield 36, 3) := by decide +kernel
theorem dX10_dissonancesAgree_12 : decode cX10_dissonancesAgree 12 = .ok (.aload_n 0, 1) := by decide +kernel
theorem dX10_dissonancesAgree_13 : decode cX10_dissonancesAgree 13 = .ok (.getfield 10, 3) := by decide +kernel
theorem dX10_dissonancesAgree_16 : decode cX10_dissonancesAgree 16 = .ok (.iload_n 1, 1) := by decide +kernel
theorem dX10_dissonancesAgree_17 : decode cX10_dissonancesAgree 17 = .ok (.invokevirtual 244, 3) := by decide +kernel
theorem dX10_dissonancesAgree_20 : decode cX10_dissonancesAgree 20 = .ok (.aload_n 0, 1) := by decide +kernel
theorem dX10_dissonancesAgree_21 : decode cX10_dissonancesAgree 21 = .ok (.getfield 36, 3) := by decide +kernel
theorem dX10_dissonancesAgree_24 : decode cX10_dissonancesAgree 24 = .ok (.invokevirtual 254, 3) := by decide +kernel
theorem dX10_dissonancesAgree_27 : decode cX10_dissonancesAgree 27 = .ok (.aload_n 0, 1) := by decide +kernel
theorem dX10_dissonancesAgree_28 : decode cX10_dissonancesAgree 28 = .ok (.getfield 36, 3) := by decide +kernel
theorem dX10_dissonancesAgree_31 : decode cX10_dissonancesAgree 31 = .ok (.invokevirtual 257, 3) := by decide +kernel
theorem dX10_dissonancesAgree_34 : decode cX10_dissonancesAgree 34 = .ok (.if_icmp .eq 5, 3) := by decide +kernel
theorem dX10_dissonancesAgree_37 : decode cX10_dissonancesAgree 37 = .ok (.iconst 0, 1) := by decide +kernel
theorem dX10_dissonancesAgree_38 : decode cX10_dissonancesAgree 38 = .ok (.ireturn, 1) := by decide +kernel
theorem dX10_dissonancesAgree_39 : decode cX10_dissonancesAgree 39 = .ok (.iinc 1 1, 3) := by decide +kernel
theorem dX10_dissonancesAgree_42 : decode cX10_dissonancesAgree 42 = .ok (.goto (-40), 3) := by decide +kernel
theorem dX10_dissonancesAgree_45 : decode cX10_dissonancesAgree 45 = .ok (.iconst 1, 1) := by decide +kernel
theorem dX10_dissonancesAgree_46 : decode cX10_dissonancesAgree 46 = .ok (.ireturn, 1) := by decide +kernel
def f_X10_dissonancesAgree_L2 (x_valley_bells_pitches : (Nat → Int32)) (x_valley_bells_count : Int32) (x_valley_melodies_lengths : (Nat → Int32)) (x_valley_melodies_entries : (Nat → Int32)) (x_valley_melodies_tones : (Nat → Int32)) (x_valley_cliffs_delays : (Nat → Int32)) (x_valley_cliffs_transpositions : (Nat → Int32)) (x_valley_cliffs_count : Int32) : Nat → Int32 → (Nat → Int32) → (Nat → Int32) → Int32 → Option (Int32 × (Nat → Int32) × (Nat → Int32) × Int32)
  | 0, _, _, _, _ => none
  | n2 + 1, i1, i2, i3, i4 =>
    q_br (30 < i1) (
  some (1, i2, i3, i4)) (
  q_bd (f_X2_listen i2 i4 x_valley_bells_pitches x_valley_bells_count x_valley_melodies_lengths x_valley_melodies_entries x_valley_melodies_tones x_valley_cliffs_delays x_valley_cliffs_transpositions x_valley_cliffs_count i1) (fun q5 =>
  q_bd (f_X2_dissonantPairs q5.1 q5.2) (fun q6 =>
  q_bd (f_X2_dissonantPairsByClasses q5.1 i3 q5.2) (fun q7 =>
  q_br (q6 = q7.1) (
  q_lt (i1 + 1 : Int32) (fun v8 =>
  f_X10_dissonancesAgree_L2 x_valley_bells_pitches x_valley_bells_count x_valley_melodies_lengths x_valley_melodies_entries x_valley_melodies_tones x_valley_cliffs_delays x_valley_cliffs_transpositions x_valley_cliffs_count n2 v8 q5.1 q7.2 q5.2)) (
  some (0, q5.1, q7.2, q5.2))))))
def f_X10_dissonancesAgree (x_valley_bells_pitches : (Nat → Int32)) (x_valley_bells_count : Int32) (x_valley_melodies_lengths : (Nat → Int32)) (x_valley_melodies_entries : (Nat → Int32)) (x_valley_melodies_tones : (Nat → Int32)) (x_valley_cliffs_delays : (Nat → Int32)) (x_valley_cliffs_transpositions : (Nat → Int32)) (x_valley_cliffs_count : Int32) (x_chord_notes : (Nat → Int32)) (x_chord_classCounts : (Nat → Int32)) (x_chord_size : Int32) : Option (Int32 × (Nat → Int32) × (Nat → Int32) × Int32) :=
  f_X10_dissonancesAgree_L2 x_valley_bells_pitches x_valley_bells_count x_valley_melodies_lengths x_valley_melodies_entries x_valley_melodies_tones x_valley_cliffs_delays x_valley_cliffs_transpositions x_valley_cliffs_count 2000 0 x_chord_notes x_chord_classCounts x_chord_size
theorem hv_X10_dissonancesAgree : yX10_dissonancesAgree.cls = RX10 ∧ yX10_dissonancesAgree.cls ≠ "java/lang/invoke/MethodHandle" ∧ yX10_dissonancesAgree.cls ≠ "java/lang/invoke/VarHandle" ∧ (parseMethodDescriptor yX10_dissonancesAgree.desc).map (fun d => d.parameters.length) = some 0 := by decide +kernel
abbrev rm_X10_dissonancesAgree : Room := { frames := 5, cells := 0, slots := 0, locals := 115 }
set_option maxHeartbeats 4000000 in
set_option maxRecDepth 100000 in
theorem k_X10_dissonancesAgree (l : Launch) (E : ET) (a : Nat → Nat) (o : Nat) (x : VB_t) (res : Int32 × (Nat → Int32) × (Nat → Int32) × Int32) (hF : f_X10_dissonancesAgree x.1.1.2.1.2.1 x.1.1.2.1.2.2 x.1.1.2.2.1.1 x.1.1.2.2.1.2.1 x.1.1.2.2.1.2.2 x.1.1.2.2.2.1 x.1.1.2.2.2.2.1 x.1.1.2.2.2.2.2 x.1.2.2.2.2.1 x.1.2.2.2.2.2.1 x.1.2.2.2.2.2.2 = some res) (sz : Nat) : CtI l yX10_dissonancesAgree (mws yX10_dissonancesAgree cX10_dissonancesAgree 2 (some .boolean)) rm_X10_dissonancesAgree 0 0 [.ref (a o)] E (bl_VB E a o x) res.1 (bl_VB E a o ((x.1.1, x.1.2.1, x.1.2.2.1, x.1.2.2.2.1, (res.2.1, res.2.2.1, res.2.2.2)), (x.2.1, x.2.2.1, x.2.2.2.1, x.2.2.2.2.1, x.2.2.2.2.2))) sz := by
  refine mk_M (by decide +kernel) (Nat.le_of_ble_eq_true rfl) ?_
  intro p e s m below meth c A args Q ls hAe hsz hQ hx hb hr hml hin ha hown hlocks hA hz hzs hst hP hD hS hl
  have hown : s.vm.findClass RX10 = some m.cls := hown
  rw [hAe] at hQ
  subst hsz
  have hP : va_P E.1 vwCl (List.flatten [w_VBR a o x.2.2.2.1 x.2.2.2.2.1 x.2.2.2.2.2, w_ValleyR a (o + 1), w_Key E a (o + 2) x.1.1.1, w_Bells E a (o + 3) x.1.1.2.1, w_Mel E a (o + 6) x.1.1.2.2.1, w_Cliffs E a (o + 10) x.1.1.2.2.2, w_ValleyR a (o + 13), w_Key E a (o + 14) x.1.2.1.1, w_Bells E a (o + 15) x.1.2.1.2.1, w_Mel E a (o + 18) x.1.2.1.2.2.1, w_Cliffs E a (o + 22) x.1.2.1.2.2.2, w_Prog E a (o + 25) x.1.2.2.2.1, w_Chord E a (o + 31) x.1.2.2.2.2, w_Key E a (o + 34) x.2.1, w_Line E a (o + 35) x.2.2.1, w_Hist E a (o + 37) x.1.2.2.1]) s.heap := hP
  have hD : va_D A (List.flatten [w_VBR a o x.2.2.2.1 x.2.2.2.2.1 x.2.2.2.2.2, w_ValleyR a (o + 1), w_Key E a (o + 2) x.1.1.1, w_Bells E a (o + 3) x.1.1.2.1, w_Mel E a (o + 6) x.1.1.2.2.1, w_Cliffs E a (o + 10) x.1.1.2.2.2, w_ValleyR a (o + 13), w_Key E a (o + 14) x.1.2.1.1, w_Bells E a (o + 15) x.1.2.1.2.1, w_Mel E a (o + 18) x.1.2.1.2.2.1, w_Cliffs E a (o + 22) x.1.2.1.2.2.2, w_Prog E a (o + 25) x.1.2.2.2.1, w_Chord E a (o + 31) x.1.2.2.2.2, w_Key E a (o + 34) x.2.1, w_Line E a (o + 35) x.2.2.1, w_Hist E a (o + 37) x.1.2.2.1]) := hD
  have hl : lv_has ls 2 [(0, .ref (a o))] := hl
  generalize hHe : s.heap = H at hP
  have hS : va_S A s.heap H [] := by rw [← hHe]; exact hS
  generalize ([] : List Loc) = locs at hS ⊢
  unfold f_X10_dissonancesAgree at hF
  refine lv_iconst (v := 0) hx hb dX10_dissonancesAgree_0 (by decide) ?_
  refine lv_istore_n (lv' := [(1, .int 0), (0, .ref (a o))]) hx hb dX10_dissonancesAgree_1 rfl hl (by decide) rfl (fun ls hl => ?_)
  have key2 : ∀ (n : Nat) (i1 : Int32) (i2 : (Nat → Int32)) (i3 : (Nat → Int32)) (i4 : Int32) (H : Heap) (locs : List Loc) (ls : Array Slot), f_X10_dissonancesAgree_L2 x.1.1.2.1.2.1 x.1.1.2.1.2.2 x.1.1.2.2.1.1 x.1.1.2.2.1.2.1 x.1.1.2.2.1.2.2 x.1.1.2.2.2.1 x.1.1.2.2.2.2.1 x.1.1.2.2.2.2.2 n i1 i2 i3 i4 = some res → va_P E.1 vwCl (List.flatten [w_VBR a o x.2.2.2.1 x.2.2.2.2.1 x.2.2.2.2.2, w_ValleyR a (o + 1), w_Key E a (o + 2) x.1.1.1, w_Bells E a (o + 3) x.1.1.2.1, w_Mel E a (o + 6) x.1.1.2.2.1, w_Cliffs E a (o + 10) x.1.1.2.2.2, w_ValleyR a (o + 13), w_Key E a (o + 14) x.1.2.1.1, w_Bells E a (o + 15) x.1.2.1.2.1, w_Mel E a (o + 18) x.1.2.1.2.2.1, w_Cliffs E a (o + 22) x.1.2.1.2.2.2, w_Prog E a (o + 25) x.1.2.2.2.1, w_Chord E a (o + 31) (i2, i3, i4), w_Key E a (o + 34) x.2.1, w_Line E a (o + 35) x.2.2.1, w_Hist E a (o + 37) x.1.2.2.1]) H → va_D A (List.flatten [w_VBR a o x.2.2.2.1 x.2.2.2.2.1 x.2.2.2.2.2, w_ValleyR a (o + 1), w_Key E a (o + 2) x.1.1.1, w_Bells E a (o + 3) x.1.1.2.1, w_Mel E a (o + 6) x.1.1.2.2.1, w_Cliffs E a (o + 10) x.1.1.2.2.2, w_ValleyR a (o + 13), w_Key E a (o + 14) x.1.2.1.1, w_Bells E a (o + 15) x.1.2.1.2.1, w_Mel E a (o + 18) x.1.2.1.2.2.1, w_Cliffs E a (o + 22) x.1.2.1.2.2.2, w_Prog E a (o + 25) x.1.2.2.2.1, w_Chord E a (o + 31) (i2, i3, i4), w_Key E a (o + 34) x.2.1, w_Line E a (o + 35) x.2.2.1, w_Hist E a (o + 37) x.1.2.2.1]) → va_S A s.heap H locs → lv_has ls 2 [(1, .int i1), (0, .ref (a o))] → W p l e rm_X10_dissonancesAgree s m args below meth c H locs 0 0 Q (F0 m 2 ls []) := by
    intro n2
    induction n2 with
    | zero => intro i1 i2 i3 i4 H locs ls hF; exact absurd hF (by simp [f_X10_dissonancesAgree_L2])
    | succ n2 ih2 =>
      intro i1 i2 i3 i4 H locs ls hF hP hD hS hl
      rw [f_X10_dissonancesAgree_L2] at hF
      refine lv_iload_n hx hb dX10_dissonancesAgree_2 rfl (lv_at hl 0 rfl) ?_
      refine lv_bipush (v := 30) hx hb dX10_dissonancesAgree_3 (by decide) ?_
      refine lv_icmp_gt (tgt := 45) hx hb dX10_dissonancesAgree_5 (by decide) (fun c5 => ?_) (fun c5 => ?_)
      · have hF := q_brp c5 hF
        refine lv_iconst (v := 1) hx hb dX10_dissonancesAgree_45 (by decide) ?_
        obtain rfl := Option.some.inj hF
        exact en_z hQ (Nat.le_of_ble_eq_true rfl) (Nat.le_of_ble_eq_true rfl) hx hb hr hlocks (by decide) hP hD hS rfl dX10_dissonancesAgree_46
      · have hF := q_brn c5 hF
        refine lv_aload_n hx hb dX10_dissonancesAgree_8 rfl (lv_at hl 1 rfl) ?_
        refine va_get (D := E.1) (ci := 11) (v := .ref (a (o + 31))) (C := RX10) (T := TX10) (N := 10) hx hb ha in_X10 hown hst.k hP 0 rfl rfl 4 (by decide) (ha _ mw288) (fun _ h9 => h9) rfl dX10_dissonancesAgree_9 ?_
        refine lv_aload_n hx hb dX10_dissonancesAgree_12 rfl (lv_at hl 1 rfl) ?_
        refine va_get (D := E.1) (ci := 11) (v := .ref (a (o + 1))) (C := RX10) (T := TX10) (N := 10) hx hb ha in_X10 hown hst.k hP 0 rfl rfl 0 (by decide) (ha _ mw284) (fun _ h9 => h9) rfl dX10_dissonancesAgree_13 ?_
        refine lv_iload_n hx hb dX10_dissonancesAgree_16 rfl (lv_at hl 0 rfl) ?_
        obtain ⟨q5, hq5, hF⟩ := q_bdi hF
        refine cl_v (Lc := [w_Chord E a (o + 31) (i2, i3, i4), w_ValleyR a (o + 1), w_Key E a (o + 2) x.1.1.1, w_Bells E a (o + 3) x.1.1.2.1, w_Mel E a (o + 6) x.1.1.2.2.1, w_Cliffs E a (o + 10) x.1.1.2.2.2]) (Lc' := [w_Chord E a (o + 31) (q5.1, i3, q5.2), w_ValleyR a (o + 1), w_Key E a (o + 2) x.1.1.1, w_Bells E a (o + 3) x.1.1.2.1, w_Mel E a (o + 6) x.1.1.2.2.1, w_Cliffs E a (o + 10) x.1.1.2.2.2]) (L' := [w_VBR a o x.2.2.2.1 x.2.2.2.2.1 x.2.2.2.2.2, w_ValleyR a (o + 1), w_Key E a (o + 2) x.1.1.1, w_Bells E a (o + 3) x.1.1.2.1, w_Mel E a (o + 6) x.1.1.2.2.1, w_Cliffs E a (o + 10) x.1.1.2.2.2, w_ValleyR a (o + 13), w_Key E a (o + 14) x.1.2.1.1, w_Bells E a (o + 15) x.1.2.1.2.1, w_Mel E a (o + 18) x.1.2.1.2.2.1, w_Cliffs E a (o + 22) x.1.2.1.2.2.2, w_Prog E a (o + 25) x.1.2.2.2.1, w_Chord E a (o + 31) (q5.1, i3, q5.2), w_Key E a (o + 34) x.2.1, w_Line E a (o + 35) x.2.2.1, w_Hist E a (o + 37) x.1.2.2.1]) (va_runV (As := [.ref (a (o + 1)), .int i1]) (rest := []) ⟨hx, hb, hml, hown, ha⟩ (k_X2_listen l E a (o + 31) (i2, i3, i4) a (o + 1) x.1.1 i1 q5 hq5 H.size) (cwV 2 ha (gi_V (fun _ h => h) mw845 mw846 mw847 mw34 mw848) rfl rfl rfl hv_X2_listen ⟨(Nat.le_of_ble_eq_true rfl), (Nat.le_of_ble_eq_true rfl)⟩) ⟨pre_blind, va_recv hst.k (fr_P hP [12, 1, 2, 3, 4, 5] rfl) (ci := 4) (q0 := 0) rfl rfl, pre_at hP hD hS hz hzs hst [12, 1, 2, 3, 4, 5] (by decide) rfl rfl⟩ rfl rfl hl.1 rfl (lv_room (Nat.le_of_ble_eq_true rfl)) dX10_dissonancesAgree_17 ⟨(Nat.le_of_ble_eq_true rfl), (Nat.le_of_ble_eq_true rfl)⟩) hP hD hS hA [12, 1, 2, 3, 4, 5] (by decide) rfl rfl rfl rfl (fun H locs hP hD hS => ?_)
        refine lv_aload_n hx hb dX10_dissonancesAgree_20 rfl (lv_at hl 1 rfl) ?_
        refine va_get (D := E.1) (ci := 11) (v := .ref (a (o + 31))) (C := RX10) (T := TX10) (N := 10) hx hb ha in_X10 hown hst.k hP 0 rfl rfl 4 (by decide) (ha _ mw288) (fun _ h9 => h9) rfl dX10_dissonancesAgree_21 ?_
        obtain ⟨q6, hq6, hF⟩ := q_bdi hF
        refine cl_i (Lc := [w_Chord E a (o + 31) (q5.1, i3, q5.2)]) (Lc' := [w_Chord E a (o + 31) (q5.1, i3, q5.2)]) (L' := [w_VBR a o x.2.2.2.1 x.2.2.2.2.1 x.2.2.2.2.2, w_ValleyR a (o + 1), w_Key E a (o + 2) x.1.1.1, w_Bells E a (o + 3) x.1.1.2.1, w_Mel E a (o + 6) x.1.1.2.2.1, w_Cliffs E a (o + 10) x.1.1.2.2.2, w_ValleyR a (o + 13), w_Key E a (o + 14) x.1.2.1.1, w_Bells E a (o + 15) x.1.2.1.2.1, w_Mel E a (o + 18) x.1.2.1.2.2.1, w_Cliffs E a (o + 22) x.1.2.1.2.2.2, w_Prog E a (o + 25) x.1.2.2.2.1, w_Chord E a (o + 31) (q5.1, i3, q5.2), w_Key E a (o + 34) x.2.1, w_Line E a (o + 35) x.2.2.1, w_Hist E a (o + 37) x.1.2.2.1]) (rv := q6) (va_runV (As := []) (rest := []) ⟨hx, hb, hml, hown, ha⟩ (k_X2_dissonantPairs l E a (o + 31) (q5.1, i3, q5.2) q6 hq6 H.size) (cwV 0 ha (gi_V (fun _ h => h) mw874 mw875 mw876 mw34 mw877) rfl rfl rfl hv_X2_dissonantPairs ⟨(Nat.le_of_ble_eq_true rfl), (Nat.le_of_ble_eq_true rfl)⟩) ⟨pre_blind, va_recv hst.k (fr_P hP [12] rfl) (ci := 4) (q0 := 0) rfl rfl, pre_at hP hD hS hz hzs hst [12] (by decide) rfl rfl⟩ rfl rfl hl.1 rfl (lv_room (Nat.le_of_ble_eq_true rfl)) dX10_dissonancesAgree_24 ⟨(Nat.le_of_ble_eq_true rfl), (Nat.le_of_ble_eq_true rfl)⟩) hP hD hS hA [12] (by decide) rfl rfl rfl rfl (fun H locs hP hD hS => ?_)
        refine lv_aload_n hx hb dX10_dissonancesAgree_27 rfl (lv_at hl 1 rfl) ?_
        refine va_get (D := E.1) (ci := 11) (v := .ref (a (o + 31))) (C := RX10) (T := TX10) (N := 10) hx hb ha in_X10 hown hst.k hP 0 rfl rfl 4 (by decide) (ha _ mw288) (fun _ h9 => h9) rfl dX10_dissonancesAgree_28 ?_
        obtain ⟨q7, hq7, hF⟩ := q_bdi hF
        refine cl_i (Lc := [w_Chord E a (o + 31) (q5.1, i3, q5.2)]) (Lc' := [w_Chord E a (o + 31) (q5.1, q7.2, q5.2)]) (L' := [w_VBR a o x.2.2.2.1 x.2.2.2.2.1 x.2.2.2.2.2, w_ValleyR a (o + 1), w_Key E a (o + 2) x.1.1.1, w_Bells E a (o + 3) x.1.1.2.1, w_Mel E a (o + 6) x.1.1.2.2.1, w_Cliffs E a (o + 10) x.1.1.2.2.2, w_ValleyR a (o + 13), w_Key E a (o + 14) x.1.2.1.1, w_Bells E a (o + 15) x.1.2.1.2.1, w_Mel E a (o + 18) x.1.2.1.2.2.1, w_Cliffs E a (o + 22) x.1.2.1.2.2.2, w_Prog E a (o + 25) x.1.2.2.2.1, w_Chord E a (o + 31) (q5.1, q7.2, q5.2), w_Key E a (o + 34) x.2.1, w_Line E a (o + 35) x.2.2.1, w_Hist E a (o + 37) x.1.2.2.1]) (rv := q7.1) (va_runV (As := []) (rest := [.int q6]) ⟨hx, hb, hml, hown, ha⟩ (k_X2_dissonantPairsByClasses l E a (o + 31) (q5.1, i3, q5.2) q7 hq7 H.size) (cwV 0 ha (gi_V (fun _ h => h) mw889 mw890 mw891 mw34 mw892) rfl rfl rfl hv_X2_dissonantPairsByClasses ⟨(Nat.le_of_ble_eq_true rfl), (Nat.le_of_ble_eq_true rfl)⟩) ⟨pre_blind, va_recv hst.k (fr_P hP [12] rfl) (ci := 4) (q0 := 0) rfl rfl, pre_at hP hD hS hz hzs hst [12] (by decide) rfl rfl⟩ rfl rfl hl.1 rfl (lv_room (Nat.le_of_ble_eq_true rfl)) dX10_dissonancesAgree_31 ⟨(Nat.le_of_ble_eq_true rfl), (Nat.le_of_ble_eq_true rfl)⟩) hP hD hS hA [12] (by decide) rfl rfl rfl rfl (fun H locs hP hD hS => ?_)
        refine lv_icmp_eq (tgt := 39) hx hb dX10_dissonancesAgree_34 (by decide) (fun c34 => ?_) (fun c34 => ?_)
        · have hF := q_brp c34 hF
          obtain ⟨v8, ev8⟩ : ∃ y : Int32, y = i1 + 1 := ⟨_, rfl⟩
          have hF := q_lti ev8 hF
          refine lv_iinc (v := v8) (lv' := [(1, .int v8), (0, .ref (a o))]) hx hb dX10_dissonancesAgree_39 hl (k := 0) rfl (by rw [ev8]; rfl) (by decide) rfl (fun ls hl => ?_)
          refine lv_goto (tgt := 2) hx hb dX10_dissonancesAgree_42 (by decide) ?_
          exact ih2 v8 q5.1 q7.2 q5.2 H locs ls hF hP hD hS (lv_sub hl [0, 1] rfl)
        · have hF := q_brn c34 hF
          refine lv_iconst (v := 0) hx hb dX10_dissonancesAgree_37 (by decide) ?_
          obtain rfl := Option.some.inj hF
          exact en_z hQ (Nat.le_of_ble_eq_true rfl) (Nat.le_of_ble_eq_true rfl) hx hb hr hlocks (by decide) hP hD hS rfl dX10_dissonancesAgree_38
  exact key2 _ 0 x.1.2.2.2.2.1 x.1.2.2.2.2.2.1 x.1.2.2.2.2.2.2 H locs ls hF hP hD hS (lv_sub hl [0, 1] rfl)

/-! X10_isConsistent -/
theorem dX10_isConsistent_0 : decode cX10_isConsistent 0 = .ok (.aload_n 0, 1) := by decide +kernel
theorem dX10_isConsistent_1 : decode cX10_isConsistent 1 = .ok (.getfield 10, 3) := by decide +kernel
theorem dX10_isConsistent_4 : decode cX10_isConsistent 4 = .ok (.getfield 197, 3) := by decide +kernel
theorem dX10_isConsistent_7 : decode cX10_isConsistent 7 = .ok (.aload_n 0, 1) := by decide +kernel
theorem dX10_isConsistent_8 : decode cX10_isConsistent 8 = .ok (.getfield 10, 3) := by decide +kernel
theorem dX10_isConsistent_11 : decode cX10_isConsistent 11 = .ok (.getfield 108, 3) := by decide +kernel
theorem dX10_isConsistent_14 : decode cX10_isConsistent 14 = .ok (.invokevirtual 270, 3) := by decide +kernel
theorem dX10_isConsistent_17 : decode cX10_isConsistent 17 = .ok (.ifCond .eq 21, 3) := by decide +kernel
theorem dX10_isConsistent_20 : decode cX10_isConsistent 20 = .ok (.aload_n 0, 1) := by decide +kernel
theorem dX10_isConsistent_21 : decode cX10_isConsistent 21 = .ok (.invokevirtual 274, 3) := by decide +kernel
theorem dX10_isConsistent_24 : decode cX10_isConsistent 24 = .ok (.ifCond .eq 14, 3) := by decide +kernel
theorem dX10_isConsistent_27 : decode cX10_isConsistent 27 = .ok (.aload_n 0, 1) := by decide +kernel
theorem dX10_isConsistent_28 : decode cX10_isConsistent 28 = .ok (.invokevirtual 278, 3) := by decide +kernel
theorem dX10_isConsistent_31 : decode cX10_isConsistent 31 = .ok (.ifCond .eq 7, 3) := by decide +kernel
theorem dX10_isConsistent_34 : decode cX10_isConsistent 34 = .ok (.iconst 1, 1) := by decide +kernel
theorem dX10_isConsistent_35 : decode cX10_isConsistent 35 = .ok (.goto 4, 3) := by decide +kernel
theorem dX10_isConsistent_38 : decode cX10_isConsistent 38 = .ok (.iconst 0, 1) := by decide +kernel
theorem dX10_isConsistent_39 : decode cX10_isConsistent 39 = .ok (.ireturn, 1) := by decide +kernel
def f_X10_isConsistent (x_valley_key_tonic : Int32) (x_valley_key_isMinor : Int32) (x_valley_bells_pitches : (Nat → Int32)) (x_valley_bells_count : Int32) (x_valley_melodies_lengths : (Nat → Int32)) (x_valley_melodies_entries : (Nat → Int32)) (x_valley_melodies_tones : (Nat → Int32)) (x_valley_cliffs_delays : (Nat → Int32)) (x_valley_cliffs_transpositions : (Nat → Int32)) (x_valley_cliffs_count : Int32) (x_chord_notes : (Nat → Int32)) (x_chord_classCounts : (Nat → Int32)) (x_chord_size : Int32) : Option (Int32 × (Nat → Int32) × (Nat → Int32) × Int32) :=
  q_bd (f_X7_useOnly x_valley_melodies_lengths x_valley_melodies_tones x_valley_bells_count) (fun q1 =>
  q_br (q1 = 0) (
  some (0, x_chord_notes, x_chord_classCounts, x_chord_size)) (
  q_bd (f_X10_centsAgree x_valley_key_tonic x_valley_key_isMinor x_valley_bells_pitches x_valley_bells_count) (fun q2 =>
  q_br (q2 = 0) (
  some (0, x_chord_notes, x_chord_classCounts, x_chord_size)) (
  q_bd (f_X10_dissonancesAgree x_valley_bells_pitches x_valley_bells_count x_valley_melodies_lengths x_valley_melodies_entries x_valley_melodies_tones x_valley_cliffs_delays x_valley_cliffs_transpositions x_valley_cliffs_count x_chord_notes x_chord_classCounts x_chord_size) (fun q3 =>
  q_br (q3.1 = 0) (
  some (0, q3.2.1, q3.2.2.1, q3.2.2.2)) (
  some (1, q3.2.1, q3.2.2.1, q3.2.2.2)))))))
theorem hv_X10_isConsistent : yX10_isConsistent.cls = RX10 ∧ yX10_isConsistent.cls ≠ "java/lang/invoke/MethodHandle" ∧ yX10_isConsistent.cls ≠ "java/lang/invoke/VarHandle" ∧ (parseMethodDescriptor yX10_isConsistent.desc).map (fun d => d.parameters.length) = some 0 := by decide +kernel
abbrev rm_X10_isConsistent : Room := { frames := 6, cells := 0, slots := 0, locals := 136 }
set_option maxHeartbeats 4000000 in
set_option maxRecDepth 100000 in
theorem k_X10_isConsistent (l : Launch) (E : ET) (a : Nat → Nat) (o : Nat) (x : VB_t) (res : Int32 × (Nat → Int32) × (Nat → Int32) × Int32) (hF : f_X10_isConsistent x.1.1.1.1 x.1.1.1.2.1 x.1.1.2.1.2.1 x.1.1.2.1.2.2 x.1.1.2.2.1.1 x.1.1.2.2.1.2.1 x.1.1.2.2.1.2.2 x.1.1.2.2.2.1 x.1.1.2.2.2.2.1 x.1.1.2.2.2.2.2 x.1.2.2.2.2.1 x.1.2.2.2.2.2.1 x.1.2.2.2.2.2.2 = some res) (sz : Nat) : CtI l yX10_isConsistent (mws yX10_isConsistent cX10_isConsistent 1 (some .boolean)) rm_X10_isConsistent 0 0 [.ref (a o)] E (bl_VB E a o x) res.1 (bl_VB E a o ((x.1.1, x.1.2.1, x.1.2.2.1, x.1.2.2.2.1, (res.2.1, res.2.2.1, res.2.2.2)), (x.2.1, x.2.2.1, x.2.2.2.1, x.2.2.2.2.1, x.2.2.2.2.2))) sz := by
  refine mk_M (by decide +kernel) (Nat.le_of_ble_eq_true rfl) ?_
  intro p e s m below meth c A args Q ls hAe hsz hQ hx hb hr hml hin ha hown hlocks hA hz hzs hst hP hD hS hl
  have hown : s.vm.findClass RX10 = some m.cls := hown
  rw [hAe] at hQ
  subst hsz
  have hP : va_P E.1 vwCl (List.flatten [w_VBR a o x.2.2.2.1 x.2.2.2.2.1 x.2.2.2.2.2, w_ValleyR a (o + 1), w_Key E a (o + 2) x.1.1.1, w_Bells E a (o + 3) x.1.1.2.1, w_Mel E a (o + 6) x.1.1.2.2.1, w_Cliffs E a (o + 10) x.1.1.2.2.2, w_ValleyR a (o + 13), w_Key E a (o + 14) x.1.2.1.1, w_Bells E a (o + 15) x.1.2.1.2.1, w_Mel E a (o + 18) x.1.2.1.2.2.1, w_Cliffs E a (o + 22) x.1.2.1.2.2.2, w_Prog E a (o + 25) x.1.2.2.2.1, w_Chord E a (o + 31) x.1.2.2.2.2, w_Key E a (o + 34) x.2.1, w_Line E a (o + 35) x.2.2.1, w_Hist E a (o + 37) x.1.2.2.1]) s.heap := hP
  have hD : va_D A (List.flatten [w_VBR a o x.2.2.2.1 x.2.2.2.2.1 x.2.2.2.2.2, w_ValleyR a (o + 1), w_Key E a (o + 2) x.1.1.1, w_Bells E a (o + 3) x.1.1.2.1, w_Mel E a (o + 6) x.1.1.2.2.1, w_Cliffs E a (o + 10) x.1.1.2.2.2, w_ValleyR a (o + 13), w_Key E a (o + 14) x.1.2.1.1, w_Bells E a (o + 15) x.1.2.1.2.1, w_Mel E a (o + 18) x.1.2.1.2.2.1, w_Cliffs E a (o + 22) x.1.2.1.2.2.2, w_Prog E a (o + 25) x.1.2.2.2.1, w_Chord E a (o + 31) x.1.2.2.2.2, w_Key E a (o + 34) x.2.1, w_Line E a (o + 35) x.2.2.1, w_Hist E a (o + 37) x.1.2.2.1]) := hD
  have hl : lv_has ls 1 [(0, .ref (a o))] := hl
  generalize hHe : s.heap = H at hP
  have hS : va_S A s.heap H [] := by rw [← hHe]; exact hS
  generalize ([] : List Loc) = locs at hS ⊢
  unfold f_X10_isConsistent at hF
  refine lv_aload_n hx hb dX10_isConsistent_0 rfl (lv_at hl 0 rfl) ?_
  refine va_get (D := E.1) (ci := 11) (v := .ref (a (o + 1))) (C := RX10) (T := TX10) (N := 10) hx hb ha in_X10 hown hst.k hP 0 rfl rfl 0 (by decide) (ha _ mw284) (fun _ h9 => h9) rfl dX10_isConsistent_1 ?_
  refine va_getN (D := E.1) (ci := 10) (v := .ref (a (o + 6))) (C := RX9) (T := TX9) (N := 4) hx hb ha in_X9 hown hst.k hP 1 rfl rfl 2 (by decide) (va_Nw.use rfl (nf19 hst)) (fun _ h9 => h9) rfl dX10_isConsistent_4 ?_
  refine lv_aload_n hx hb dX10_isConsistent_7 rfl (lv_at hl 0 rfl) ?_
  refine va_get (D := E.1) (ci := 11) (v := .ref (a (o + 1))) (C := RX10) (T := TX10) (N := 10) hx hb ha in_X10 hown hst.k hP 0 rfl rfl 0 (by decide) (ha _ mw284) (fun _ h9 => h9) rfl dX10_isConsistent_8 ?_
  refine va_getN (D := E.1) (ci := 10) (v := .ref (a (o + 3))) (C := RX9) (T := TX9) (N := 4) hx hb ha in_X9 hown hst.k hP 1 rfl rfl 1 (by decide) (va_Nw.use rfl (nf17 hst)) (fun _ h9 => h9) rfl dX10_isConsistent_11 ?_
  obtain ⟨q1, hq1, hF⟩ := q_bdi hF
  refine cl_i (Lc := [w_Mel E a (o + 6) x.1.1.2.2.1, w_Bells E a (o + 3) x.1.1.2.1]) (Lc' := [w_Mel E a (o + 6) x.1.1.2.2.1, w_Bells E a (o + 3) x.1.1.2.1]) (L' := [w_VBR a o x.2.2.2.1 x.2.2.2.2.1 x.2.2.2.2.2, w_ValleyR a (o + 1), w_Key E a (o + 2) x.1.1.1, w_Bells E a (o + 3) x.1.1.2.1, w_Mel E a (o + 6) x.1.1.2.2.1, w_Cliffs E a (o + 10) x.1.1.2.2.2, w_ValleyR a (o + 13), w_Key E a (o + 14) x.1.2.1.1, w_Bells E a (o + 15) x.1.2.1.2.1, w_Mel E a (o + 18) x.1.2.1.2.2.1, w_Cliffs E a (o + 22) x.1.2.1.2.2.2, w_Prog E a (o + 25) x.1.2.2.2.1, w_Chord E a (o + 31) x.1.2.2.2.2, w_Key E a (o + 34) x.2.1, w_Line E a (o + 35) x.2.2.1, w_Hist E a (o + 37) x.1.2.2.1]) (rv := q1) (va_runV (As := [.ref (a (o + 3))]) (rest := []) ⟨hx, hb, hml, hown, ha⟩ (k_X7_useOnly l E a (o + 6) x.1.1.2.2.1 a (o + 3) x.1.1.2.1 q1 hq1 H.size) (cwV 1 ha (gi_V (fun _ h => h) mw925 mw926 mw927 mw30 mw928) rfl rfl rfl hv_X7_useOnly ⟨(Nat.le_of_ble_eq_true rfl), (Nat.le_of_ble_eq_true rfl)⟩) ⟨pre_blind, va_recv hst.k (fr_P hP [4, 3] rfl) (ci := 8) (q0 := 0) rfl rfl, pre_at hP hD hS hz hzs hst [4, 3] (by decide) rfl rfl⟩ rfl rfl hl.1 rfl (lv_room (Nat.le_of_ble_eq_true rfl)) dX10_isConsistent_14 ⟨(Nat.le_of_ble_eq_true rfl), (Nat.le_of_ble_eq_true rfl)⟩) hP hD hS hA [4, 3] (by decide) rfl rfl rfl rfl (fun H locs hP hD hS => ?_)
  refine lv_if_eq (tgt := 38) hx hb dX10_isConsistent_17 (by decide) (fun c17 => ?_) (fun c17 => ?_)
  · have hF := q_brp c17 hF
    refine lv_iconst (v := 0) hx hb dX10_isConsistent_38 (by decide) ?_
    obtain rfl := Option.some.inj hF
    exact en_z hQ (Nat.le_of_ble_eq_true rfl) (Nat.le_of_ble_eq_true rfl) hx hb hr hlocks (by decide) hP hD hS rfl dX10_isConsistent_39
  · have hF := q_brn c17 hF
    refine lv_aload_n hx hb dX10_isConsistent_20 rfl (lv_at hl 0 rfl) ?_
    obtain ⟨q2, hq2, hF⟩ := q_bdi hF
    refine cl_i (Lc := [w_VBR a o x.2.2.2.1 x.2.2.2.2.1 x.2.2.2.2.2, w_ValleyR a (o + 1), w_Key E a (o + 2) x.1.1.1, w_Bells E a (o + 3) x.1.1.2.1, w_Mel E a (o + 6) x.1.1.2.2.1, w_Cliffs E a (o + 10) x.1.1.2.2.2, w_ValleyR a (o + 13), w_Key E a (o + 14) x.1.2.1.1, w_Bells E a (o + 15) x.1.2.1.2.1, w_Mel E a (o + 18) x.1.2.1.2.2.1, w_Cliffs E a (o + 22) x.1.2.1.2.2.2, w_Prog E a (o + 25) x.1.2.2.2.1, w_Chord E a (o + 31) x.1.2.2.2.2, w_Key E a (o + 34) x.2.1, w_Line E a (o + 35) x.2.2.1, w_Hist E a (o + 37) x.1.2.2.1]) (Lc' := [w_VBR a o x.2.2.2.1 x.2.2.2.2.1 x.2.2.2.2.2, w_ValleyR a (o + 1), w_Key E a (o + 2) x.1.1.1, w_Bells E a (o + 3) x.1.1.2.1, w_Mel E a (o + 6) x.1.1.2.2.1, w_Cliffs E a (o + 10) x.1.1.2.2.2, w_ValleyR a (o + 13), w_Key E a (o + 14) x.1.2.1.1, w_Bells E a (o + 15) x.1.2.1.2.1, w_Mel E a (o + 18) x.1.2.1.2.2.1, w_Cliffs E a (o + 22) x.1.2.1.2.2.2, w_Prog E a (o + 25) x.1.2.2.2.1, w_Chord E a (o + 31) x.1.2.2.2.2, w_Key E a (o + 34) x.2.1, w_Line E a (o + 35) x.2.2.1, w_Hist E a (o + 37) x.1.2.2.1]) (L' := [w_VBR a o x.2.2.2.1 x.2.2.2.2.1 x.2.2.2.2.2, w_ValleyR a (o + 1), w_Key E a (o + 2) x.1.1.1, w_Bells E a (o + 3) x.1.1.2.1, w_Mel E a (o + 6) x.1.1.2.2.1, w_Cliffs E a (o + 10) x.1.1.2.2.2, w_ValleyR a (o + 13), w_Key E a (o + 14) x.1.2.1.1, w_Bells E a (o + 15) x.1.2.1.2.1, w_Mel E a (o + 18) x.1.2.1.2.2.1, w_Cliffs E a (o + 22) x.1.2.1.2.2.2, w_Prog E a (o + 25) x.1.2.2.2.1, w_Chord E a (o + 31) x.1.2.2.2.2, w_Key E a (o + 34) x.2.1, w_Line E a (o + 35) x.2.2.1, w_Hist E a (o + 37) x.1.2.2.1]) (rv := q2) (va_runV (As := []) (rest := []) ⟨hx, hb, hml, hown, ha⟩ (k_X10_centsAgree l E a o x q2 hq2 H.size) (cwV 0 ha (gi_V (fun _ h => h) mw929 mw931 mw14 mw26 mw932) rfl rfl rfl hv_X10_centsAgree ⟨(Nat.le_of_ble_eq_true rfl), (Nat.le_of_ble_eq_true rfl)⟩) ⟨pre_blind, va_recv hst.k (fr_P hP [0, 1, 2, 3, 4, 5, 6, 7, 8, 9, 10, 11, 12, 13, 14, 15] rfl) (ci := 11) (q0 := 0) rfl rfl, pre_at hP hD hS hz hzs hst [0, 1, 2, 3, 4, 5, 6, 7, 8, 9, 10, 11, 12, 13, 14, 15] (by decide) rfl rfl⟩ rfl rfl hl.1 rfl (lv_room (Nat.le_of_ble_eq_true rfl)) dX10_isConsistent_21 ⟨(Nat.le_of_ble_eq_true rfl), (Nat.le_of_ble_eq_true rfl)⟩) hP hD hS hA [0, 1, 2, 3, 4, 5, 6, 7, 8, 9, 10, 11, 12, 13, 14, 15] (by decide) rfl rfl rfl rfl (fun H locs hP hD hS => ?_)
    refine lv_if_eq (tgt := 38) hx hb dX10_isConsistent_24 (by decide) (fun c24 => ?_) (fun c24 => ?_)
    · have hF := q_brp c24 hF
      refine lv_iconst (v := 0) hx hb dX10_isConsistent_38 (by decide) ?_
      obtain rfl := Option.some.inj hF
      exact en_z hQ (Nat.le_of_ble_eq_true rfl) (Nat.le_of_ble_eq_true rfl) hx hb hr hlocks (by decide) hP hD hS rfl dX10_isConsistent_39
    · have hF := q_brn c24 hF
      refine lv_aload_n hx hb dX10_isConsistent_27 rfl (lv_at hl 0 rfl) ?_
      obtain ⟨q3, hq3, hF⟩ := q_bdi hF
      refine cl_i (Lc := [w_VBR a o x.2.2.2.1 x.2.2.2.2.1 x.2.2.2.2.2, w_ValleyR a (o + 1), w_Key E a (o + 2) x.1.1.1, w_Bells E a (o + 3) x.1.1.2.1, w_Mel E a (o + 6) x.1.1.2.2.1, w_Cliffs E a (o + 10) x.1.1.2.2.2, w_ValleyR a (o + 13), w_Key E a (o + 14) x.1.2.1.1, w_Bells E a (o + 15) x.1.2.1.2.1, w_Mel E a (o + 18) x.1.2.1.2.2.1, w_Cliffs E a (o + 22) x.1.2.1.2.2.2, w_Prog E a (o + 25) x.1.2.2.2.1, w_Chord E a (o + 31) x.1.2.2.2.2, w_Key E a (o + 34) x.2.1, w_Line E a (o + 35) x.2.2.1, w_Hist E a (o + 37) x.1.2.2.1]) (Lc' := [w_VBR a o x.2.2.2.1 x.2.2.2.2.1 x.2.2.2.2.2, w_ValleyR a (o + 1), w_Key E a (o + 2) x.1.1.1, w_Bells E a (o + 3) x.1.1.2.1, w_Mel E a (o + 6) x.1.1.2.2.1, w_Cliffs E a (o + 10) x.1.1.2.2.2, w_ValleyR a (o + 13), w_Key E a (o + 14) x.1.2.1.1, w_Bells E a (o + 15) x.1.2.1.2.1, w_Mel E a (o + 18) x.1.2.1.2.2.1, w_Cliffs E a (o + 22) x.1.2.1.2.2.2, w_Prog E a (o + 25) x.1.2.2.2.1, w_Chord E a (o + 31) (q3.2.1, q3.2.2.1, q3.2.2.2), w_Key E a (o + 34) x.2.1, w_Line E a (o + 35) x.2.2.1, w_Hist E a (o + 37) x.1.2.2.1]) (L' := [w_VBR a o x.2.2.2.1 x.2.2.2.2.1 x.2.2.2.2.2, w_ValleyR a (o + 1), w_Key E a (o + 2) x.1.1.1, w_Bells E a (o + 3) x.1.1.2.1, w_Mel E a (o + 6) x.1.1.2.2.1, w_Cliffs E a (o + 10) x.1.1.2.2.2, w_ValleyR a (o + 13), w_Key E a (o + 14) x.1.2.1.1, w_Bells E a (o + 15) x.1.2.1.2.1, w_Mel E a (o + 18) x.1.2.1.2.2.1, w_Cliffs E a (o + 22) x.1.2.1.2.2.2, w_Prog E a (o + 25) x.1.2.2.2.1, w_Chord E a (o + 31) (q3.2.1, q3.2.2.1, q3.2.2.2), w_Key E a (o + 34) x.2.1, w_Line E a (o + 35) x.2.2.1, w_Hist E a (o + 37) x.1.2.2.1]) (rv := q3.1) (va_runV (As := []) (rest := []) ⟨hx, hb, hml, hown, ha⟩ (k_X10_dissonancesAgree l E a o x q3 hq3 H.size) (cwV 0 ha (gi_V (fun _ h => h) mw933 mw935 mw15 mw26 mw936) rfl rfl rfl hv_X10_dissonancesAgree ⟨(Nat.le_of_ble_eq_true rfl), (Nat.le_of_ble_eq_true rfl)⟩) ⟨pre_blind, va_recv hst.k (fr_P hP [0, 1, 2, 3, 4, 5, 6, 7, 8, 9, 10, 11, 12, 13, 14, 15] rfl) (ci := 11) (q0 := 0) rfl rfl, pre_at hP hD hS hz hzs hst [0, 1, 2, 3, 4, 5, 6, 7, 8, 9, 10, 11, 12, 13, 14, 15] (by decide) rfl rfl⟩ rfl rfl hl.1 rfl (lv_room (Nat.le_of_ble_eq_true rfl)) dX10_isConsistent_28 ⟨(Nat.le_of_ble_eq_true rfl), (Nat.le_of_ble_eq_true rfl)⟩) hP hD hS hA [0, 1, 2, 3, 4, 5, 6, 7, 8, 9, 10, 11, 12, 13, 14, 15] (by decide) rfl rfl rfl rfl (fun H locs hP hD hS => ?_)
      refine lv_if_eq (tgt := 38) hx hb dX10_isConsistent_31 (by decide) (fun c31 => ?_) (fun c31 => ?_)
      · have hF := q_brp c31 hF
        refine lv_iconst (v := 0) hx hb dX10_isConsistent_38 (by decide) ?_
        obtain rfl := Option.some.inj hF
        exact en_z hQ (Nat.le_of_ble_eq_true rfl) (Nat.le_of_ble_eq_true rfl) hx hb hr hlocks (by decide) hP hD hS rfl dX10_isConsistent_39
      · have hF := q_brn c31 hF
        refine lv_iconst (v := 1) hx hb dX10_isConsistent_34 (by decide) ?_
        refine lv_goto (tgt := 39) hx hb dX10_isConsistent_35 (by decide) ?_
        obtain rfl := Option.some.inj hF
        exact en_z hQ (Nat.le_of_ble_eq_true rfl) (Nat.le_of_ble_eq_true rfl) hx hb hr hlocks (by decide) hP hD hS rfl dX10_isConsistent_39

/-! X10_append -/
theorem dX10_append_0 : decode cX10_append 0 = .ok (.aload_n 0, 1) := by decide +kernel
theorem dX10_append_1 : decode cX10_append 1 = .ok (.getfield 29, 3) := by decide +kernel
theorem dX10_append_4 : decode cX10_append 4 = .ok (.invokevirtual 281, 3) := by decide +kernel
theorem dX10_append_7 : decode cX10_append 7 = .ok (.ifCond .eq 14, 3) := by decide +kernel
theorem dX10_append_10 : decode cX10_append 10 = .ok (.new 284, 3) := by decide +kernel
theorem dX10_append_13 : decode cX10_append 13 = .ok (.dup, 1) := by decide +kernel
theorem dX10_append_14 : decode cX10_append 14 = .ok (.ldc_w 286, 3) := by decide +kernel
theorem dX10_append_17 : decode cX10_append 17 = .ok (.invokespecial 288, 3) := by decide +kernel
theorem dX10_append_20 : decode cX10_append 20 = .ok (.athrow, 1) := by decide +kernel
theorem dX10_append_21 : decode cX10_append 21 = .ok (.aload_n 0, 1) := by decide +kernel
theorem dX10_append_22 : decode cX10_append 22 = .ok (.getfield 29, 3) := by decide +kernel
theorem dX10_append_25 : decode cX10_append 25 = .ok (.iload_n 1, 1) := by decide +kernel
theorem dX10_append_26 : decode cX10_append 26 = .ok (.invokevirtual 289, 3) := by decide +kernel
theorem dX10_append_29 : decode cX10_append 29 = .ok (.ireturn, 1) := by decide +kernel
def f_X10_append (x_program_text : (Nat → Int32)) (x_program_length : Int32) (p1 : Int32) : Option ((Int32 ⊕ String) × (Nat → Int32) × Int32) :=
  q_bd (f_X8_isFull x_program_length) (fun q1 =>
  q_br (q1 = 0) (
  q_bd (f_X8_put x_program_text x_program_length p1) (fun q2 =>
  some (Sum.inl q2.1, q2.2.1, q2.2.2))) (
  some (Sum.inr "java/lang/IllegalStateException", x_program_text, x_program_length)))
theorem hv_X10_append : yX10_append.cls = RX10 ∧ yX10_append.cls ≠ "java/lang/invoke/MethodHandle" ∧ yX10_append.cls ≠ "java/lang/invoke/VarHandle" ∧ (parseMethodDescriptor yX10_append.desc).map (fun d => d.parameters.length) = some 1 := by decide +kernel
abbrev rm_X10_append : Room := { frames := 6, cells := 1, slots := 6, locals := 82 }
set_option maxHeartbeats 4000000 in
set_option maxRecDepth 100000 in
theorem k_X10_append (l : Launch) (E : ET) (a : Nat → Nat) (o : Nat) (x : VB_t) (p1 : Int32) (res : (Int32 ⊕ String) × (Nat → Int32) × Int32) (hF : f_X10_append x.1.2.2.2.1.1.1 x.1.2.2.2.1.1.2.1 p1 = some res) (sz : Nat) (hlt : l.stackTraces = false) : CxI l yX10_append (mws yX10_append cX10_append 2 (some .int)) rm_X10_append 1 6 [.ref (a o), .int p1] E (bl_VB E a o x) res.1 (bl_VB E a o ((x.1.1, x.1.2.1, x.1.2.2.1, ((res.2.1, res.2.2, x.1.2.2.2.1.1.2.2.1, x.1.2.2.2.1.1.2.2.2), (x.1.2.2.2.1.2.1.1, x.1.2.2.2.1.2.1.2.1, x.1.2.2.2.1.2.1.2.2.1, x.1.2.2.2.1.2.1.2.2.2), (x.1.2.2.2.1.2.2.1, x.1.2.2.2.1.2.2.2.1, x.1.2.2.2.1.2.2.2.2)), x.1.2.2.2.2), (x.2.1, x.2.2.1, x.2.2.2.1, x.2.2.2.2.1, x.2.2.2.2.2))) sz := by
  refine mk_X (by decide +kernel) (Nat.le_of_ble_eq_true rfl) ?_
  intro p e s m below meth c A args Q ls hAe hsz hQ hx hb hr hml hin ha hown hlocks hA hz hzs hst hexc hP hD hS hl
  have hown : s.vm.findClass RX10 = some m.cls := hown
  rw [hAe] at hQ
  subst hsz
  have hP : va_P E.1 vwCl (List.flatten [w_VBR a o x.2.2.2.1 x.2.2.2.2.1 x.2.2.2.2.2, w_ValleyR a (o + 1), w_Key E a (o + 2) x.1.1.1, w_Bells E a (o + 3) x.1.1.2.1, w_Mel E a (o + 6) x.1.1.2.2.1, w_Cliffs E a (o + 10) x.1.1.2.2.2, w_ValleyR a (o + 13), w_Key E a (o + 14) x.1.2.1.1, w_Bells E a (o + 15) x.1.2.1.2.1, w_Mel E a (o + 18) x.1.2.1.2.2.1, w_Cliffs E a (o + 22) x.1.2.1.2.2.2, w_Prog E a (o + 25) x.1.2.2.2.1, w_Chord E a (o + 31) x.1.2.2.2.2, w_Key E a (o + 34) x.2.1, w_Line E a (o + 35) x.2.2.1, w_Hist E a (o + 37) x.1.2.2.1]) s.heap := hP
  have hD : va_D A (List.flatten [w_VBR a o x.2.2.2.1 x.2.2.2.2.1 x.2.2.2.2.2, w_ValleyR a (o + 1), w_Key E a (o + 2) x.1.1.1, w_Bells E a (o + 3) x.1.1.2.1, w_Mel E a (o + 6) x.1.1.2.2.1, w_Cliffs E a (o + 10) x.1.1.2.2.2, w_ValleyR a (o + 13), w_Key E a (o + 14) x.1.2.1.1, w_Bells E a (o + 15) x.1.2.1.2.1, w_Mel E a (o + 18) x.1.2.1.2.2.1, w_Cliffs E a (o + 22) x.1.2.1.2.2.2, w_Prog E a (o + 25) x.1.2.2.2.1, w_Chord E a (o + 31) x.1.2.2.2.2, w_Key E a (o + 34) x.2.1, w_Line E a (o + 35) x.2.2.1, w_Hist E a (o + 37) x.1.2.2.1]) := hD
  have hl : lv_has ls 2 [(0, .ref (a o)), (1, .int p1)] := hl
  generalize hHe : s.heap = H at hP
  have hS : va_S A s.heap H [] := by rw [← hHe]; exact hS
  generalize ([] : List Loc) = locs at hS ⊢
  unfold f_X10_append at hF
  refine lv_aload_n hx hb dX10_append_0 rfl (lv_at hl 0 rfl) ?_
  refine va_get (D := E.1) (ci := 11) (v := .ref (a (o + 25))) (C := RX10) (T := TX10) (N := 10) hx hb ha in_X10 hown hst.k hP 0 rfl rfl 3 (by decide) (ha _ mw287) (fun _ h9 => h9) rfl dX10_append_1 ?_
  obtain ⟨q1, hq1, hF⟩ := q_bdi hF
  refine cl_i (Lc := [w_Prog E a (o + 25) x.1.2.2.2.1]) (Lc' := [w_Prog E a (o + 25) x.1.2.2.2.1]) (L' := [w_VBR a o x.2.2.2.1 x.2.2.2.2.1 x.2.2.2.2.2, w_ValleyR a (o + 1), w_Key E a (o + 2) x.1.1.1, w_Bells E a (o + 3) x.1.1.2.1, w_Mel E a (o + 6) x.1.1.2.2.1, w_Cliffs E a (o + 10) x.1.1.2.2.2, w_ValleyR a (o + 13), w_Key E a (o + 14) x.1.2.1.1, w_Bells E a (o + 15) x.1.2.1.2.1, w_Mel E a (o + 18) x.1.2.1.2.2.1, w_Cliffs E a (o + 22) x.1.2.1.2.2.2, w_Prog E a (o + 25) x.1.2.2.2.1, w_Chord E a (o + 31) x.1.2.2.2.2, w_Key E a (o + 34) x.2.1, w_Line E a (o + 35) x.2.2.1, w_Hist E a (o + 37) x.1.2.2.1]) (rv := q1) (va_runV (As := []) (rest := []) ⟨hx, hb, hml, hown, ha⟩ (k_X8_isFull l E a (o + 25) x.1.2.2.2.1 q1 hq1 H.size) (cwV 0 ha (gi_V (fun _ h => h) mw1098 mw1099 mw1100 mw33 mw1101) rfl rfl rfl hv_X8_isFull ⟨(Nat.le_of_ble_eq_true rfl), (Nat.le_of_ble_eq_true rfl)⟩) ⟨pre_blind, va_recv hst.k (fr_P hP [11] rfl) (ci := 9) (q0 := 0) rfl rfl, pre_at hP hD hS hz hzs hst [11] (by decide) rfl rfl⟩ rfl rfl hl.1 rfl (lv_room (Nat.le_of_ble_eq_true rfl)) dX10_append_4 ⟨(Nat.le_of_ble_eq_true rfl), (Nat.le_of_ble_eq_true rfl)⟩) hP hD hS hA [11] (by decide) rfl rfl rfl rfl (fun H locs hP hD hS => ?_)
  refine lv_if_eq (tgt := 21) hx hb dX10_append_7 (by decide) (fun c7 => ?_) (fun c7 => ?_)
  · have hF := q_brp c7 hF
    refine lv_aload_n hx hb dX10_append_21 rfl (lv_at hl 0 rfl) ?_
    refine va_get (D := E.1) (ci := 11) (v := .ref (a (o + 25))) (C := RX10) (T := TX10) (N := 10) hx hb ha in_X10 hown hst.k hP 0 rfl rfl 3 (by decide) (ha _ mw287) (fun _ h9 => h9) rfl dX10_append_22 ?_
    refine lv_iload_n hx hb dX10_append_25 rfl (lv_at hl 1 rfl) ?_
    obtain ⟨q2, hq2, hF⟩ := q_bdi hF
    refine cl_i (Lc := [w_Prog E a (o + 25) x.1.2.2.2.1]) (Lc' := [w_Prog E a (o + 25) ((q2.2.1, q2.2.2, x.1.2.2.2.1.1.2.2.1, x.1.2.2.2.1.1.2.2.2), (x.1.2.2.2.1.2.1.1, x.1.2.2.2.1.2.1.2.1, x.1.2.2.2.1.2.1.2.2.1, x.1.2.2.2.1.2.1.2.2.2), (x.1.2.2.2.1.2.2.1, x.1.2.2.2.1.2.2.2.1, x.1.2.2.2.1.2.2.2.2))]) (L' := [w_VBR a o x.2.2.2.1 x.2.2.2.2.1 x.2.2.2.2.2, w_ValleyR a (o + 1), w_Key E a (o + 2) x.1.1.1, w_Bells E a (o + 3) x.1.1.2.1, w_Mel E a (o + 6) x.1.1.2.2.1, w_Cliffs E a (o + 10) x.1.1.2.2.2, w_ValleyR a (o + 13), w_Key E a (o + 14) x.1.2.1.1, w_Bells E a (o + 15) x.1.2.1.2.1, w_Mel E a (o + 18) x.1.2.1.2.2.1, w_Cliffs E a (o + 22) x.1.2.1.2.2.2, w_Prog E a (o + 25) ((q2.2.1, q2.2.2, x.1.2.2.2.1.1.2.2.1, x.1.2.2.2.1.1.2.2.2), (x.1.2.2.2.1.2.1.1, x.1.2.2.2.1.2.1.2.1, x.1.2.2.2.1.2.1.2.2.1, x.1.2.2.2.1.2.1.2.2.2), (x.1.2.2.2.1.2.2.1, x.1.2.2.2.1.2.2.2.1, x.1.2.2.2.1.2.2.2.2)), w_Chord E a (o + 31) x.1.2.2.2.2, w_Key E a (o + 34) x.2.1, w_Line E a (o + 35) x.2.2.1, w_Hist E a (o + 37) x.1.2.2.1]) (rv := q2.1) (va_runV (As := [.int p1]) (rest := []) ⟨hx, hb, hml, hown, ha⟩ (k_X8_put l E a (o + 25) x.1.2.2.2.1 p1 q2 hq2 H.size) (cwV 1 ha (gi_V (fun _ h => h) mw1103 mw1104 mw1105 mw33 mw1106) rfl rfl rfl hv_X8_put ⟨(Nat.le_of_ble_eq_true rfl), (Nat.le_of_ble_eq_true rfl)⟩) ⟨pre_blind, va_recv hst.k (fr_P hP [11] rfl) (ci := 9) (q0 := 0) rfl rfl, pre_at hP hD hS hz hzs hst [11] (by decide) rfl rfl⟩ rfl rfl hl.1 rfl (lv_room (Nat.le_of_ble_eq_true rfl)) dX10_append_26 ⟨(Nat.le_of_ble_eq_true rfl), (Nat.le_of_ble_eq_true rfl)⟩) hP hD hS hA [11] (by decide) rfl rfl rfl rfl (fun H locs hP hD hS => ?_)
    obtain rfl := Option.some.inj hF
    exact en_xi hQ (Nat.le_of_ble_eq_true rfl) (Nat.le_of_ble_eq_true rfl) hx hb hr hlocks hP hD hS rfl dX10_append_29
  · have hF := q_brn c7 hF
    obtain rfl := Option.some.inj hF
    exact en_thW hQ hx hb hlt ha hst hz hml hl.1 hown (by decide) ft_x mw572 iw_IllegalStateException (sr_286 E) at_288 cs_IllegalStateException dX10_append_10 dX10_append_13 dX10_append_14 dX10_append_17 dX10_append_20 hexc (Nat.le_of_ble_eq_true rfl) (Nat.le_of_ble_eq_true rfl) (Nat.le_of_ble_eq_true rfl) (Nat.le_of_ble_eq_true rfl) hlocks (Nat.le_of_ble_eq_true rfl) (Nat.le_of_ble_eq_true rfl) hP hD hS rfl

/-! X10_errorPosition -/
theorem dX10_errorPosition_0 : decode cX10_errorPosition 0 = .ok (.aload_n 0, 1) := by decide +kernel
theorem dX10_errorPosition_1 : decode cX10_errorPosition 1 = .ok (.getfield 58, 3) := by decide +kernel
theorem dX10_errorPosition_4 : decode cX10_errorPosition 4 = .ok (.iconst (-1), 1) := by decide +kernel
theorem dX10_errorPosition_5 : decode cX10_errorPosition 5 = .ok (.if_icmp .ne 14, 3) := by decide +kernel
theorem dX10_errorPosition_8 : decode cX10_errorPosition 8 = .ok (.new 155, 3) := by decide +kernel
theorem dX10_errorPosition_11 : decode cX10_errorPosition 11 = .ok (.dup, 1) := by decide +kernel
theorem dX10_errorPosition_12 : decode cX10_errorPosition 12 = .ok (.ldc_w 324, 3) := by decide +kernel
theorem dX10_errorPosition_15 : decode cX10_errorPosition 15 = .ok (.invokespecial 159, 3) := by decide +kernel
theorem dX10_errorPosition_18 : decode cX10_errorPosition 18 = .ok (.athrow, 1) := by decide +kernel
theorem dX10_errorPosition_19 : decode cX10_errorPosition 19 = .ok (.aload_n 0, 1) := by decide +kernel
theorem dX10_errorPosition_20 : decode cX10_errorPosition 20 = .ok (.getfield 58, 3) := by decide +kernel
theorem dX10_errorPosition_23 : decode cX10_errorPosition 23 = .ok (.ireturn, 1) := by decide +kernel
def f_X10_errorPosition (x_errorPosition : Int32) : Option ((Int32 ⊕ String)) :=
  q_br (x_errorPosition = (-1)) (
  some (Sum.inr "java/util/NoSuchElementException")) (
  some (Sum.inl x_errorPosition))
theorem hv_X10_errorPosition : yX10_errorPosition.cls = RX10 ∧ yX10_errorPosition.cls ≠ "java/lang/invoke/MethodHandle" ∧ yX10_errorPosition.cls ≠ "java/lang/invoke/VarHandle" ∧ (parseMethodDescriptor yX10_errorPosition.desc).map (fun d => d.parameters.length) = some 0 := by decide +kernel
abbrev rm_X10_errorPosition : Room := { frames := 6, cells := 1, slots := 6, locals := 89 }
set_option maxHeartbeats 4000000 in
set_option maxRecDepth 100000 in
theorem k_X10_errorPosition (l : Launch) (E : ET) (a : Nat → Nat) (o : Nat) (x : VB_t) (res : (Int32 ⊕ String)) (hF : f_X10_errorPosition x.2.2.2.2.1 = some res) (sz : Nat) (hlt : l.stackTraces = false) : CxI l yX10_errorPosition (mws yX10_errorPosition cX10_errorPosition 1 (some .int)) rm_X10_errorPosition 1 6 [.ref (a o)] E (bl_VB E a o x) res (bl_VB E a o x) sz := by
  refine mk_X (by decide +kernel) (Nat.le_of_ble_eq_true rfl) ?_
  intro p e s m below meth c A args Q ls hAe hsz hQ hx hb hr hml hin ha hown hlocks hA hz hzs hst hexc hP hD hS hl
  have hown : s.vm.findClass RX10 = some m.cls := hown
  rw [hAe] at hQ
  subst hsz
  have hP : va_P E.1 vwCl (List.flatten [w_VBR a o x.2.2.2.1 x.2.2.2.2.1 x.2.2.2.2.2, w_ValleyR a (o + 1), w_Key E a (o + 2) x.1.1.1, w_Bells E a (o + 3) x.1.1.2.1, w_Mel E a (o + 6) x.1.1.2.2.1, w_Cliffs E a (o + 10) x.1.1.2.2.2, w_ValleyR a (o + 13), w_Key E a (o + 14) x.1.2.1.1, w_Bells E a (o + 15) x.1.2.1.2.1, w_Mel E a (o + 18) x.1.2.1.2.2.1, w_Cliffs E a (o + 22) x.1.2.1.2.2.2, w_Prog E a (o + 25) x.1.2.2.2.1, w_Chord E a (o + 31) x.1.2.2.2.2, w_Key E a (o + 34) x.2.1, w_Line E a (o + 35) x.2.2.1, w_Hist E a (o + 37) x.1.2.2.1]) s.heap := hP
  have hD : va_D A (List.flatten [w_VBR a o x.2.2.2.1 x.2.2.2.2.1 x.2.2.2.2.2, w_ValleyR a (o + 1), w_Key E a (o + 2) x.1.1.1, w_Bells E a (o + 3) x.1.1.2.1, w_Mel E a (o + 6) x.1.1.2.2.1, w_Cliffs E a (o + 10) x.1.1.2.2.2, w_ValleyR a (o + 13), w_Key E a (o + 14) x.1.2.1.1, w_Bells E a (o + 15) x.1.2.1.2.1, w_Mel E a (o + 18) x.1.2.1.2.2.1, w_Cliffs E a (o + 22) x.1.2.1.2.2.2, w_Prog E a (o + 25) x.1.2.2.2.1, w_Chord E a (o + 31) x.1.2.2.2.2, w_Key E a (o + 34) x.2.1, w_Line E a (o + 35) x.2.2.1, w_Hist E a (o + 37) x.1.2.2.1]) := hD
  have hl : lv_has ls 1 [(0, .ref (a o))] := hl
  generalize hHe : s.heap = H at hP
  have hS : va_S A s.heap H [] := by rw [← hHe]; exact hS
  generalize ([] : List Loc) = locs at hS ⊢
  unfold f_X10_errorPosition at hF
  refine lv_aload_n hx hb dX10_errorPosition_0 rfl (lv_at hl 0 rfl) ?_
  refine va_get (D := E.1) (ci := 11) (v := .int x.2.2.2.2.1) (C := RX10) (T := TX10) (N := 10) hx hb ha in_X10 hown hst.k hP 0 rfl rfl 8 (by decide) (ha _ mw292) (fun _ h9 => h9) rfl dX10_errorPosition_1 ?_
  refine lv_iconst (v := (-1)) hx hb dX10_errorPosition_4 (by decide) ?_
  refine lv_icmp_ne (tgt := 19) hx hb dX10_errorPosition_5 (by decide) (fun c5 => ?_) (fun c5 => ?_)
  · have hF := q_brn c5 hF
    refine lv_aload_n hx hb dX10_errorPosition_19 rfl (lv_at hl 0 rfl) ?_
    refine va_get (D := E.1) (ci := 11) (v := .int x.2.2.2.2.1) (C := RX10) (T := TX10) (N := 10) hx hb ha in_X10 hown hst.k hP 0 rfl rfl 8 (by decide) (ha _ mw292) (fun _ h9 => h9) rfl dX10_errorPosition_20 ?_
    obtain rfl := Option.some.inj hF
    exact en_xi hQ (Nat.le_of_ble_eq_true rfl) (Nat.le_of_ble_eq_true rfl) hx hb hr hlocks hP hD hS rfl dX10_errorPosition_23
  · have hF := q_brp c5 hF
    obtain rfl := Option.some.inj hF
    exact en_thWN hQ hx hb hlt ha hst hz hA hml hl.1 hown mw734 (sr_324 E) nw_link dX10_errorPosition_8 dX10_errorPosition_11 dX10_errorPosition_12 dX10_errorPosition_15 dX10_errorPosition_18 hexc (Nat.le_of_ble_eq_true rfl) (Nat.le_of_ble_eq_true rfl) (Nat.le_of_ble_eq_true rfl) (Nat.le_of_ble_eq_true rfl) hlocks (Nat.le_of_ble_eq_true rfl) (Nat.le_of_ble_eq_true rfl) hP hD hS rfl

/-! X10_failedCommand -/
theorem dX10_failedCommand_0 : decode cX10_failedCommand 0 = .ok (.aload_n 0, 1) := by decide +kernel
theorem dX10_failedCommand_1 : decode cX10_failedCommand 1 = .ok (.getfield 62, 3) := by decide +kernel
theorem dX10_failedCommand_4 : decode cX10_failedCommand 4 = .ok (.iconst (-1), 1) := by decide +kernel
theorem dX10_failedCommand_5 : decode cX10_failedCommand 5 = .ok (.if_icmp .ne 14, 3) := by decide +kernel
theorem dX10_failedCommand_8 : decode cX10_failedCommand 8 = .ok (.new 155, 3) := by decide +kernel
theorem dX10_failedCommand_11 : decode cX10_failedCommand 11 = .ok (.dup, 1) := by decide +kernel
theorem dX10_failedCommand_12 : decode cX10_failedCommand 12 = .ok (.ldc_w 326, 3) := by decide +kernel
theorem dX10_failedCommand_15 : decode cX10_failedCommand 15 = .ok (.invokespecial 159, 3) := by decide +kernel
theorem dX10_failedCommand_18 : decode cX10_failedCommand 18 = .ok (.athrow, 1) := by decide +kernel
theorem dX10_failedCommand_19 : decode cX10_failedCommand 19 = .ok (.aload_n 0, 1) := by decide +kernel
theorem dX10_failedCommand_20 : decode cX10_failedCommand 20 = .ok (.getfield 62, 3) := by decide +kernel
theorem dX10_failedCommand_23 : decode cX10_failedCommand 23 = .ok (.ireturn, 1) := by decide +kernel
def f_X10_failedCommand (x_failedCommand : Int32) : Option ((Int32 ⊕ String)) :=
  q_br (x_failedCommand = (-1)) (
  some (Sum.inr "java/util/NoSuchElementException")) (
  some (Sum.inl x_failedCommand))
theorem hv_X10_failedCommand : yX10_failedCommand.cls = RX10 ∧ yX10_failedCommand.cls ≠ "java/lang/invoke/MethodHandle" ∧ yX10_failedCommand.cls ≠ "java/lang/invoke/VarHandle" ∧ (parseMethodDescriptor yX10_failedCommand.desc).map (fun d => d.parameters.length) = some 0 := by decide +kernel
abbrev rm_X10_failedCommand : Room := { frames := 6, cells := 1, slots := 6, locals := 89 }
set_option maxHeartbeats 4000000 in
set_option maxRecDepth 100000 in
theorem k_X10_failedCommand (l : Launch) (E : ET) (a : Nat → Nat) (o : Nat) (x : VB_t) (res : (Int32 ⊕ String)) (hF : f_X10_failedCommand x.2.2.2.2.2 = some res) (sz : Nat) (hlt : l.stackTraces = false) : CxI l yX10_failedCommand (mws yX10_failedCommand cX10_failedCommand 1 (some .int)) rm_X10_failedCommand 1 6 [.ref (a o)] E (bl_VB E a o x) res (bl_VB E a o x) sz := by
  refine mk_X (by decide +kernel) (Nat.le_of_ble_eq_true rfl) ?_
  intro p e s m below meth c A args Q ls hAe hsz hQ hx hb hr hml hin ha hown hlocks hA hz hzs hst hexc hP hD hS hl
  have hown : s.vm.findClass RX10 = some m.cls := hown
  rw [hAe] at hQ
  subst hsz
  have hP : va_P E.1 vwCl (List.flatten [w_VBR a o x.2.2.2.1 x.2.2.2.2.1 x.2.2.2.2.2, w_ValleyR a (o + 1), w_Key E a (o + 2) x.1.1.1, w_Bells E a (o + 3) x.1.1.2.1, w_Mel E a (o + 6) x.1.1.2.2.1, w_Cliffs E a (o + 10) x.1.1.2.2.2, w_ValleyR a (o + 13), w_Key E a (o + 14) x.1.2.1.1, w_Bells E a (o + 15) x.1.2.1.2.1, w_Mel E a (o + 18) x.1.2.1.2.2.1, w_Cliffs E a (o + 22) x.1.2.1.2.2.2, w_Prog E a (o + 25) x.1.2.2.2.1, w_Chord E a (o + 31) x.1.2.2.2.2, w_Key E a (o + 34) x.2.1, w_Line E a (o + 35) x.2.2.1, w_Hist E a (o + 37) x.1.2.2.1]) s.heap := hP
  have hD : va_D A (List.flatten [w_VBR a o x.2.2.2.1 x.2.2.2.2.1 x.2.2.2.2.2, w_ValleyR a (o + 1), w_Key E a (o + 2) x.1.1.1, w_Bells E a (o + 3) x.1.1.2.1, w_Mel E a (o + 6) x.1.1.2.2.1, w_Cliffs E a (o + 10) x.1.1.2.2.2, w_ValleyR a (o + 13), w_Key E a (o + 14) x.1.2.1.1, w_Bells E a (o + 15) x.1.2.1.2.1, w_Mel E a (o + 18) x.1.2.1.2.2.1, w_Cliffs E a (o + 22) x.1.2.1.2.2.2, w_Prog E a (o + 25) x.1.2.2.2.1, w_Chord E a (o + 31) x.1.2.2.2.2, w_Key E a (o + 34) x.2.1, w_Line E a (o + 35) x.2.2.1, w_Hist E a (o + 37) x.1.2.2.1]) := hD
  have hl : lv_has ls 1 [(0, .ref (a o))] := hl
  generalize hHe : s.heap = H at hP
  have hS : va_S A s.heap H [] := by rw [← hHe]; exact hS
  generalize ([] : List Loc) = locs at hS ⊢
  unfold f_X10_failedCommand at hF
  refine lv_aload_n hx hb dX10_failedCommand_0 rfl (lv_at hl 0 rfl) ?_
  refine va_get (D := E.1) (ci := 11) (v := .int x.2.2.2.2.2) (C := RX10) (T := TX10) (N := 10) hx hb ha in_X10 hown hst.k hP 0 rfl rfl 9 (by decide) (ha _ mw293) (fun _ h9 => h9) rfl dX10_failedCommand_1 ?_
  refine lv_iconst (v := (-1)) hx hb dX10_failedCommand_4 (by decide) ?_
  refine lv_icmp_ne (tgt := 19) hx hb dX10_failedCommand_5 (by decide) (fun c5 => ?_) (fun c5 => ?_)
  · have hF := q_brn c5 hF
    refine lv_aload_n hx hb dX10_failedCommand_19 rfl (lv_at hl 0 rfl) ?_
    refine va_get (D := E.1) (ci := 11) (v := .int x.2.2.2.2.2) (C := RX10) (T := TX10) (N := 10) hx hb ha in_X10 hown hst.k hP 0 rfl rfl 9 (by decide) (ha _ mw293) (fun _ h9 => h9) rfl dX10_failedCommand_20 ?_
    obtain rfl := Option.some.inj hF
    exact en_xi hQ (Nat.le_of_ble_eq_true rfl) (Nat.le_of_ble_eq_true rfl) hx hb hr hlocks hP hD hS rfl dX10_failedCommand_23
  · have hF := q_brp c5 hF
    obtain rfl := Option.some.inj hF
    exact en_thWN hQ hx hb hlt ha hst hz hA hml hl.1 hown mw734 (sr_326 E) nw_link dX10_failedCommand_8 dX10_failedCommand_11 dX10_failedCommand_12 dX10_failedCommand_15 dX10_failedCommand_18 hexc (Nat.le_of_ble_eq_true rfl) (Nat.le_of_ble_eq_true rfl) (Nat.le_of_ble_eq_true rfl) (Nat.le_of_ble_eq_true rfl) hlocks (Nat.le_of_ble_eq_true rfl) (Nat.le_of_ble_eq_true rfl) hP hD hS rfl

/-! X10_save -/
theorem dX10_save_0 : decode cX10_save 0 = .ok (.aload_n 0, 1) := by decide +kernel
theorem dX10_save_1 : decode cX10_save 1 = .ok (.getfield 16, 3) := by decide +kernel
theorem dX10_save_4 : decode cX10_save 4 = .ok (.aload_n 0, 1) := by decide +kernel
theorem dX10_save_5 : decode cX10_save 5 = .ok (.getfield 10, 3) := by decide +kernel
theorem dX10_save_8 : decode cX10_save 8 = .ok (.invokevirtual 313, 3) := by decide +kernel
theorem dX10_save_11 : decode cX10_save 11 = .ok (.aload_n 0, 1) := by decide +kernel
theorem dX10_save_12 : decode cX10_save 12 = .ok (.iconst 1, 1) := by decide +kernel
theorem dX10_save_13 : decode cX10_save 13 = .ok (.putfield 54, 3) := by decide +kernel
theorem dX10_save_16 : decode cX10_save 16 = .ok (.return_, 1) := by decide +kernel
def f_X10_save (x_valley_key_tonic : Int32) (x_valley_key_isMinor : Int32) (x_valley_key_tolerance : Int32) (x_valley_bells_herds : (Nat → Int32)) (x_valley_bells_pitches : (Nat → Int32)) (x_valley_bells_count : Int32) (x_valley_melodies_lengths : (Nat → Int32)) (x_valley_melodies_entries : (Nat → Int32)) (x_valley_melodies_tones : (Nat → Int32)) (x_valley_cliffs_delays : (Nat → Int32)) (x_valley_cliffs_transpositions : (Nat → Int32)) (x_valley_cliffs_count : Int32) (x_saved_key_tonic : Int32) (x_saved_key_isMinor : Int32) (x_saved_key_tolerance : Int32) (x_saved_bells_herds : (Nat → Int32)) (x_saved_bells_pitches : (Nat → Int32)) (x_saved_bells_count : Int32) (x_saved_melodies_lengths : (Nat → Int32)) (x_saved_melodies_entries : (Nat → Int32)) (x_saved_melodies_tones : (Nat → Int32)) (x_saved_cliffs_delays : (Nat → Int32)) (x_saved_cliffs_transpositions : (Nat → Int32)) (x_saved_cliffs_count : Int32) (x_isSaved : Int32) : Option (Int32 × Int32 × Int32 × (Nat → Int32) × (Nat → Int32) × Int32 × (Nat → Int32) × (Nat → Int32) × (Nat → Int32) × (Nat → Int32) × (Nat → Int32) × Int32 × Int32) :=
  q_bd (f_X9_copyFrom x_saved_key_tonic x_saved_key_isMinor x_saved_key_tolerance x_saved_bells_herds x_saved_bells_pitches x_saved_bells_count x_saved_melodies_lengths x_saved_melodies_entries x_saved_melodies_tones x_saved_cliffs_delays x_saved_cliffs_transpositions x_saved_cliffs_count x_valley_key_tonic x_valley_key_isMinor x_valley_key_tolerance x_valley_bells_herds x_valley_bells_pitches x_valley_bells_count x_valley_melodies_lengths x_valley_melodies_entries x_valley_melodies_tones x_valley_cliffs_delays x_valley_cliffs_transpositions x_valley_cliffs_count) (fun q1 =>
  some (q1.1, q1.2.1, q1.2.2.1, q1.2.2.2.1, q1.2.2.2.2.1, q1.2.2.2.2.2.1, q1.2.2.2.2.2.2.1, q1.2.2.2.2.2.2.2.1, q1.2.2.2.2.2.2.2.2.1, q1.2.2.2.2.2.2.2.2.2.1, q1.2.2.2.2.2.2.2.2.2.2.1, q1.2.2.2.2.2.2.2.2.2.2.2, 1))
theorem hv_X10_save : yX10_save.cls = RX10 ∧ yX10_save.cls ≠ "java/lang/invoke/MethodHandle" ∧ yX10_save.cls ≠ "java/lang/invoke/VarHandle" ∧ (parseMethodDescriptor yX10_save.desc).map (fun d => d.parameters.length) = some 0 := by decide +kernel
abbrev rm_X10_save : Room := { frames := 3, cells := 0, slots := 0, locals := 102 }
set_option maxHeartbeats 4000000 in
set_option maxRecDepth 100000 in
theorem k_X10_save (l : Launch) (E : ET) (a : Nat → Nat) (o : Nat) (x : VB_t) (res : Int32 × Int32 × Int32 × (Nat → Int32) × (Nat → Int32) × Int32 × (Nat → Int32) × (Nat → Int32) × (Nat → Int32) × (Nat → Int32) × (Nat → Int32) × Int32 × Int32) (hF : f_X10_save x.1.1.1.1 x.1.1.1.2.1 x.1.1.1.2.2 x.1.1.2.1.1 x.1.1.2.1.2.1 x.1.1.2.1.2.2 x.1.1.2.2.1.1 x.1.1.2.2.1.2.1 x.1.1.2.2.1.2.2 x.1.1.2.2.2.1 x.1.1.2.2.2.2.1 x.1.1.2.2.2.2.2 x.1.2.1.1.1 x.1.2.1.1.2.1 x.1.2.1.1.2.2 x.1.2.1.2.1.1 x.1.2.1.2.1.2.1 x.1.2.1.2.1.2.2 x.1.2.1.2.2.1.1 x.1.2.1.2.2.1.2.1 x.1.2.1.2.2.1.2.2 x.1.2.1.2.2.2.1 x.1.2.1.2.2.2.2.1 x.1.2.1.2.2.2.2.2 x.2.2.2.1 = some res) (sz : Nat) : CtV l yX10_save (mws yX10_save cX10_save 1 none) rm_X10_save 0 0 [.ref (a o)] E (bl_VB E a o x) (bl_VB E a o ((x.1.1, ((res.1, res.2.1, res.2.2.1), (res.2.2.2.1, res.2.2.2.2.1, res.2.2.2.2.2.1), (res.2.2.2.2.2.2.1, res.2.2.2.2.2.2.2.1, res.2.2.2.2.2.2.2.2.1), (res.2.2.2.2.2.2.2.2.2.1, res.2.2.2.2.2.2.2.2.2.2.1, res.2.2.2.2.2.2.2.2.2.2.2.1)), x.1.2.2.1, x.1.2.2.2.1, x.1.2.2.2.2), (x.2.1, x.2.2.1, res.2.2.2.2.2.2.2.2.2.2.2.2, x.2.2.2.2.1, x.2.2.2.2.2))) sz := by
  refine mk_M (by decide +kernel) (Nat.le_of_ble_eq_true rfl) ?_
  intro p e s m below meth c A args Q ls hAe hsz hQ hx hb hr hml hin ha hown hlocks hA hz hzs hst hP hD hS hl
  have hown : s.vm.findClass RX10 = some m.cls := hown
  rw [hAe] at hQ
  subst hsz
  have hP : va_P E.1 vwCl (List.flatten [w_VBR a o x.2.2.2.1 x.2.2.2.2.1 x.2.2.2.2.2, w_ValleyR a (o + 1), w_Key E a (o + 2) x.1.1.1, w_Bells E a (o + 3) x.1.1.2.1, w_Mel E a (o + 6) x.1.1.2.2.1, w_Cliffs E a (o + 10) x.1.1.2.2.2, w_ValleyR a (o + 13), w_Key E a (o + 14) x.1.2.1.1, w_Bells E a (o + 15) x.1.2.1.2.1, w_Mel E a (o + 18) x.1.2.1.2.2.1, w_Cliffs E a (o + 22) x.1.2.1.2.2.2, w_Prog E a (o + 25) x.1.2.2.2.1, w_Chord E a (o + 31) x.1.2.2.2.2, w_Key E a (o + 34) x.2.1, w_Line E a (o + 35) x.2.2.1, w_Hist E a (o + 37) x.1.2.2.1]) s.heap := hP
  have hD : va_D A (List.flatten [w_VBR a o x.2.2.2.1 x.2.2.2.2.1 x.2.2.2.2.2, w_ValleyR a (o + 1), w_Key E a (o + 2) x.1.1.1, w_Bells E a (o + 3) x.1.1.2.1, w_Mel E a (o + 6) x.1.1.2.2.1, w_Cliffs E a (o + 10) x.1.1.2.2.2, w_ValleyR a (o + 13), w_Key E a (o + 14) x.1.2.1.1, w_Bells E a (o + 15) x.1.2.1.2.1, w_Mel E a (o + 18) x.1.2.1.2.2.1, w_Cliffs E a (o + 22) x.1.2.1.2.2.2, w_Prog E a (o + 25) x.1.2.2.2.1, w_Chord E a (o + 31) x.1.2.2.2.2, w_Key E a (o + 34) x.2.1, w_Line E a (o + 35) x.2.2.1, w_Hist E a (o + 37) x.1.2.2.1]) := hD
  have hl : lv_has ls 1 [(0, .ref (a o))] := hl
  generalize hHe : s.heap = H at hP
  have hS : va_S A s.heap H [] := by rw [← hHe]; exact hS
  generalize ([] : List Loc) = locs at hS ⊢
  unfold f_X10_save at hF
  refine lv_aload_n hx hb dX10_save_0 rfl (lv_at hl 0 rfl) ?_
  refine va_get (D := E.1) (ci := 11) (v := .ref (a (o + 13))) (C := RX10) (T := TX10) (N := 10) hx hb ha in_X10 hown hst.k hP 0 rfl rfl 1 (by decide) (ha _ mw285) (fun _ h9 => h9) rfl dX10_save_1 ?_
  refine lv_aload_n hx hb dX10_save_4 rfl (lv_at hl 0 rfl) ?_
  refine va_get (D := E.1) (ci := 11) (v := .ref (a (o + 1))) (C := RX10) (T := TX10) (N := 10) hx hb ha in_X10 hown hst.k hP 0 rfl rfl 0 (by decide) (ha _ mw284) (fun _ h9 => h9) rfl dX10_save_5 ?_
  obtain ⟨q1, hq1, hF⟩ := q_bdi hF
  refine cl_v (Lc := [w_ValleyR a (o + 13), w_Key E a (o + 14) x.1.2.1.1, w_Bells E a (o + 15) x.1.2.1.2.1, w_Mel E a (o + 18) x.1.2.1.2.2.1, w_Cliffs E a (o + 22) x.1.2.1.2.2.2, w_ValleyR a (o + 1), w_Key E a (o + 2) x.1.1.1, w_Bells E a (o + 3) x.1.1.2.1, w_Mel E a (o + 6) x.1.1.2.2.1, w_Cliffs E a (o + 10) x.1.1.2.2.2]) (Lc' := [w_ValleyR a (o + 13), w_Key E a (o + 14) (q1.1, q1.2.1, q1.2.2.1), w_Bells E a (o + 15) (q1.2.2.2.1, q1.2.2.2.2.1, q1.2.2.2.2.2.1), w_Mel E a (o + 18) (q1.2.2.2.2.2.2.1, q1.2.2.2.2.2.2.2.1, q1.2.2.2.2.2.2.2.2.1), w_Cliffs E a (o + 22) (q1.2.2.2.2.2.2.2.2.2.1, q1.2.2.2.2.2.2.2.2.2.2.1, q1.2.2.2.2.2.2.2.2.2.2.2), w_ValleyR a (o + 1), w_Key E a (o + 2) x.1.1.1, w_Bells E a (o + 3) x.1.1.2.1, w_Mel E a (o + 6) x.1.1.2.2.1, w_Cliffs E a (o + 10) x.1.1.2.2.2]) (L' := [w_VBR a o x.2.2.2.1 x.2.2.2.2.1 x.2.2.2.2.2, w_ValleyR a (o + 1), w_Key E a (o + 2) x.1.1.1, w_Bells E a (o + 3) x.1.1.2.1, w_Mel E a (o + 6) x.1.1.2.2.1, w_Cliffs E a (o + 10) x.1.1.2.2.2, w_ValleyR a (o + 13), w_Key E a (o + 14) (q1.1, q1.2.1, q1.2.2.1), w_Bells E a (o + 15) (q1.2.2.2.1, q1.2.2.2.2.1, q1.2.2.2.2.2.1), w_Mel E a (o + 18) (q1.2.2.2.2.2.2.1, q1.2.2.2.2.2.2.2.1, q1.2.2.2.2.2.2.2.2.1), w_Cliffs E a (o + 22) (q1.2.2.2.2.2.2.2.2.2.1, q1.2.2.2.2.2.2.2.2.2.2.1, q1.2.2.2.2.2.2.2.2.2.2.2), w_Prog E a (o + 25) x.1.2.2.2.1, w_Chord E a (o + 31) x.1.2.2.2.2, w_Key E a (o + 34) x.2.1, w_Line E a (o + 35) x.2.2.1, w_Hist E a (o + 37) x.1.2.2.1]) (va_runV (As := [.ref (a (o + 1))]) (rest := []) ⟨hx, hb, hml, hown, ha⟩ (k_X9_copyFrom l E a (o + 13) x.1.2.1 a (o + 1) x.1.1 q1 hq1 H.size) (cwV 1 ha (gi_V (fun _ h => h) mw1042 mw330 mw331 mw27 mw332) rfl rfl rfl hv_X9_copyFrom ⟨(Nat.le_of_ble_eq_true rfl), (Nat.le_of_ble_eq_true rfl)⟩) ⟨pre_blind, va_recv hst.k (fr_P hP [6, 7, 8, 9, 10, 1, 2, 3, 4, 5] rfl) (ci := 10) (q0 := 0) rfl rfl, pre_at hP hD hS hz hzs hst [6, 7, 8, 9, 10, 1, 2, 3, 4, 5] (by decide) rfl rfl⟩ rfl rfl hl.1 rfl (lv_room (Nat.le_of_ble_eq_true rfl)) dX10_save_8 ⟨(Nat.le_of_ble_eq_true rfl), (Nat.le_of_ble_eq_true rfl)⟩) hP hD hS hA [6, 7, 8, 9, 10, 1, 2, 3, 4, 5] (by decide) rfl rfl rfl rfl (fun H locs hP hD hS => ?_)
  refine lv_aload_n hx hb dX10_save_11 rfl (lv_at hl 0 rfl) ?_
  refine lv_iconst (v := 1) hx hb dX10_save_12 (by decide) ?_
  refine va_put (D := E.1) (ci := 11) (v := .int 1) (ty := .boolean) (C := RX10) (T := TX10) (N := 10) hx hb ha in_X10 tyX10 tyX10_ok nmX10 hown hst.k hP hD hS 0 rfl rfl 7 (by decide) (ha _ mw291) (fun _ h9 => h9) rfl (tyX10_ok 7 (by decide)) (by decide) (by decide) (Nat.le_of_ble_eq_true rfl) dX10_save_13 (fun H locs hP hD hS => ?_)
  have hP : va_P E.1 vwCl (List.flatten [w_VBR a o 1 x.2.2.2.2.1 x.2.2.2.2.2, w_ValleyR a (o + 1), w_Key E a (o + 2) x.1.1.1, w_Bells E a (o + 3) x.1.1.2.1, w_Mel E a (o + 6) x.1.1.2.2.1, w_Cliffs E a (o + 10) x.1.1.2.2.2, w_ValleyR a (o + 13), w_Key E a (o + 14) (q1.1, q1.2.1, q1.2.2.1), w_Bells E a (o + 15) (q1.2.2.2.1, q1.2.2.2.2.1, q1.2.2.2.2.2.1), w_Mel E a (o + 18) (q1.2.2.2.2.2.2.1, q1.2.2.2.2.2.2.2.1, q1.2.2.2.2.2.2.2.2.1), w_Cliffs E a (o + 22) (q1.2.2.2.2.2.2.2.2.2.1, q1.2.2.2.2.2.2.2.2.2.2.1, q1.2.2.2.2.2.2.2.2.2.2.2), w_Prog E a (o + 25) x.1.2.2.2.1, w_Chord E a (o + 31) x.1.2.2.2.2, w_Key E a (o + 34) x.2.1, w_Line E a (o + 35) x.2.2.1, w_Hist E a (o + 37) x.1.2.2.1]) H := hP
  have hD : va_D A (List.flatten [w_VBR a o 1 x.2.2.2.2.1 x.2.2.2.2.2, w_ValleyR a (o + 1), w_Key E a (o + 2) x.1.1.1, w_Bells E a (o + 3) x.1.1.2.1, w_Mel E a (o + 6) x.1.1.2.2.1, w_Cliffs E a (o + 10) x.1.1.2.2.2, w_ValleyR a (o + 13), w_Key E a (o + 14) (q1.1, q1.2.1, q1.2.2.1), w_Bells E a (o + 15) (q1.2.2.2.1, q1.2.2.2.2.1, q1.2.2.2.2.2.1), w_Mel E a (o + 18) (q1.2.2.2.2.2.2.1, q1.2.2.2.2.2.2.2.1, q1.2.2.2.2.2.2.2.2.1), w_Cliffs E a (o + 22) (q1.2.2.2.2.2.2.2.2.2.1, q1.2.2.2.2.2.2.2.2.2.2.1, q1.2.2.2.2.2.2.2.2.2.2.2), w_Prog E a (o + 25) x.1.2.2.2.1, w_Chord E a (o + 31) x.1.2.2.2.2, w_Key E a (o + 34) x.2.1, w_Line E a (o + 35) x.2.2.1, w_Hist E a (o + 37) x.1.2.2.1]) := hD
  obtain rfl := Option.some.inj hF
  exact en_v hQ (Nat.le_of_ble_eq_true rfl) (Nat.le_of_ble_eq_true rfl) hx hb hr hlocks hP hD hS dX10_save_16

/-! X10_restore -/
theorem dX10_restore_0 : decode cX10_restore 0 = .ok (.aload_n 0, 1) := by decide +kernel
theorem dX10_restore_1 : decode cX10_restore 1 = .ok (.getfield 54, 3) := by decide +kernel
theorem dX10_restore_4 : decode cX10_restore 4 = .ok (.ifCond .ne 14, 3) := by decide +kernel
theorem dX10_restore_7 : decode cX10_restore 7 = .ok (.new 284, 3) := by decide +kernel
theorem dX10_restore_10 : decode cX10_restore 10 = .ok (.dup, 1) := by decide +kernel
theorem dX10_restore_11 : decode cX10_restore 11 = .ok (.ldc_w 370, 3) := by decide +kernel
theorem dX10_restore_14 : decode cX10_restore 14 = .ok (.invokespecial 288, 3) := by decide +kernel
theorem dX10_restore_17 : decode cX10_restore 17 = .ok (.athrow, 1) := by decide +kernel
theorem dX10_restore_18 : decode cX10_restore 18 = .ok (.aload_n 0, 1) := by decide +kernel
theorem dX10_restore_19 : decode cX10_restore 19 = .ok (.getfield 10, 3) := by decide +kernel
theorem dX10_restore_22 : decode cX10_restore 22 = .ok (.aload_n 0, 1) := by decide +kernel
theorem dX10_restore_23 : decode cX10_restore 23 = .ok (.getfield 16, 3) := by decide +kernel
theorem dX10_restore_26 : decode cX10_restore 26 = .ok (.invokevirtual 313, 3) := by decide +kernel
theorem dX10_restore_29 : decode cX10_restore 29 = .ok (.aload_n 0, 1) := by decide +kernel
theorem dX10_restore_30 : decode cX10_restore 30 = .ok (.getfield 22, 3) := by decide +kernel
theorem dX10_restore_33 : decode cX10_restore 33 = .ok (.invokevirtual 372, 3) := by decide +kernel
theorem dX10_restore_36 : decode cX10_restore 36 = .ok (.return_, 1) := by decide +kernel
def f_X10_restore (x_valley_key_tonic : Int32) (x_valley_key_isMinor : Int32) (x_valley_key_tolerance : Int32) (x_valley_bells_herds : (Nat → Int32)) (x_valley_bells_pitches : (Nat → Int32)) (x_valley_bells_count : Int32) (x_valley_melodies_lengths : (Nat → Int32)) (x_valley_melodies_entries : (Nat → Int32)) (x_valley_melodies_tones : (Nat → Int32)) (x_valley_cliffs_delays : (Nat → Int32)) (x_valley_cliffs_transpositions : (Nat → Int32)) (x_valley_cliffs_count : Int32) (x_saved_key_tonic : Int32) (x_saved_key_isMinor : Int32) (x_saved_key_tolerance : Int32) (x_saved_bells_herds : (Nat → Int32)) (x_saved_bells_pitches : (Nat → Int32)) (x_saved_bells_count : Int32) (x_saved_melodies_lengths : (Nat → Int32)) (x_saved_melodies_entries : (Nat → Int32)) (x_saved_melodies_tones : (Nat → Int32)) (x_saved_cliffs_delays : (Nat → Int32)) (x_saved_cliffs_transpositions : (Nat → Int32)) (x_saved_cliffs_count : Int32) (x_history_count : Int32) (x_isSaved : Int32) : Option ((Unit ⊕ String) × Int32 × Int32 × Int32 × (Nat → Int32) × (Nat → Int32) × Int32 × (Nat → Int32) × (Nat → Int32) × (Nat → Int32) × (Nat → Int32) × (Nat → Int32) × Int32 × Int32) :=
  q_br (x_isSaved = 0) (
  some (Sum.inr "java/lang/IllegalStateException", x_valley_key_tonic, x_valley_key_isMinor, x_valley_key_tolerance, x_valley_bells_herds, x_valley_bells_pitches, x_valley_bells_count, x_valley_melodies_lengths, x_valley_melodies_entries, x_valley_melodies_tones, x_valley_cliffs_delays, x_valley_cliffs_transpositions, x_valley_cliffs_count, x_history_count)) (
  q_bd (f_X9_copyFrom x_valley_key_tonic x_valley_key_isMinor x_valley_key_tolerance x_valley_bells_herds x_valley_bells_pitches x_valley_bells_count x_valley_melodies_lengths x_valley_melodies_entries x_valley_melodies_tones x_valley_cliffs_delays x_valley_cliffs_transpositions x_valley_cliffs_count x_saved_key_tonic x_saved_key_isMinor x_saved_key_tolerance x_saved_bells_herds x_saved_bells_pitches x_saved_bells_count x_saved_melodies_lengths x_saved_melodies_entries x_saved_melodies_tones x_saved_cliffs_delays x_saved_cliffs_transpositions x_saved_cliffs_count) (fun q1 =>
  q_bd (f_X5_forget x_history_count) (fun q2 =>
  some (Sum.inl (), q1.1, q1.2.1, q1.2.2.1, q1.2.2.2.1, q1.2.2.2.2.1, q1.2.2.2.2.2.1, q1.2.2.2.2.2.2.1, q1.2.2.2.2.2.2.2.1, q1.2.2.2.2.2.2.2.2.1, q1.2.2.2.2.2.2.2.2.2.1, q1.2.2.2.2.2.2.2.2.2.2.1, q1.2.2.2.2.2.2.2.2.2.2.2, q2))))
theorem hv_X10_restore : yX10_restore.cls = RX10 ∧ yX10_restore.cls ≠ "java/lang/invoke/MethodHandle" ∧ yX10_restore.cls ≠ "java/lang/invoke/VarHandle" ∧ (parseMethodDescriptor yX10_restore.desc).map (fun d => d.parameters.length) = some 0 := by decide +kernel
abbrev rm_X10_restore : Room := { frames := 6, cells := 1, slots := 6, locals := 102 }
set_option maxHeartbeats 4000000 in
set_option maxRecDepth 100000 in
theorem k_X10_restore (l : Launch) (E : ET) (a : Nat → Nat) (o : Nat) (x : VB_t) (res : (Unit ⊕ String) × Int32 × Int32 × Int32 × (Nat → Int32) × (Nat → Int32) × Int32 × (Nat → Int32) × (Nat → Int32) × (Nat → Int32) × (Nat → Int32) × (Nat → Int32) × Int32 × Int32) (hF : f_X10_restore x.1.1.1.1 x.1.1.1.2.1 x.1.1.1.2.2 x.1.1.2.1.1 x.1.1.2.1.2.1 x.1.1.2.1.2.2 x.1.1.2.2.1.1 x.1.1.2.2.1.2.1 x.1.1.2.2.1.2.2 x.1.1.2.2.2.1 x.1.1.2.2.2.2.1 x.1.1.2.2.2.2.2 x.1.2.1.1.1 x.1.2.1.1.2.1 x.1.2.1.1.2.2 x.1.2.1.2.1.1 x.1.2.1.2.1.2.1 x.1.2.1.2.1.2.2 x.1.2.1.2.2.1.1 x.1.2.1.2.2.1.2.1 x.1.2.1.2.2.1.2.2 x.1.2.1.2.2.2.1 x.1.2.1.2.2.2.2.1 x.1.2.1.2.2.2.2.2 x.1.2.2.1.2.2 x.2.2.2.1 = some res) (sz : Nat) (hlt : l.stackTraces = false) : CxV l yX10_restore (mws yX10_restore cX10_restore 1 none) rm_X10_restore 1 6 [.ref (a o)] E (bl_VB E a o x) res.1 (bl_VB E a o ((((res.2.1, res.2.2.1, res.2.2.2.1), (res.2.2.2.2.1, res.2.2.2.2.2.1, res.2.2.2.2.2.2.1), (res.2.2.2.2.2.2.2.1, res.2.2.2.2.2.2.2.2.1, res.2.2.2.2.2.2.2.2.2.1), (res.2.2.2.2.2.2.2.2.2.2.1, res.2.2.2.2.2.2.2.2.2.2.2.1, res.2.2.2.2.2.2.2.2.2.2.2.2.1)), x.1.2.1, (x.1.2.2.1.1, x.1.2.2.1.2.1, res.2.2.2.2.2.2.2.2.2.2.2.2.2), x.1.2.2.2.1, x.1.2.2.2.2), (x.2.1, x.2.2.1, x.2.2.2.1, x.2.2.2.2.1, x.2.2.2.2.2))) sz := by
  refine mk_X (by decide +kernel) (Nat.le_of_ble_eq_true rfl) ?_
  intro p e s m below meth c A args Q ls hAe hsz hQ hx hb hr hml hin ha hown hlocks hA hz hzs hst hexc hP hD hS hl
  have hown : s.vm.findClass RX10 = some m.cls := hown
  rw [hAe] at hQ
  subst hsz
  have hP : va_P E.1 vwCl (List.flatten [w_VBR a o x.2.2.2.1 x.2.2.2.2.1 x.2.2.2.2.2, w_ValleyR a (o + 1), w_Key E a (o + 2) x.1.1.1, w_Bells E a (o + 3) x.1.1.2.1, w_Mel E a (o + 6) x.1.1.2.2.1, w_Cliffs E a (o + 10) x.1.1.2.2.2, w_ValleyR a (o + 13), w_Key E a (o + 14) x.1.2.1.1, w_Bells E a (o + 15) x.1.2.1.2.1, w_Mel E a (o + 18) x.1.2.1.2.2.1, w_Cliffs E a (o + 22) x.1.2.1.2.2.2, w_Prog E a (o + 25) x.1.2.2.2.1, w_Chord E a (o + 31) x.1.2.2.2.2, w_Key E a (o + 34) x.2.1, w_Line E a (o + 35) x.2.2.1, w_Hist E a (o + 37) x.1.2.2.1]) s.heap := hP
  have hD : va_D A (List.flatten [w_VBR a o x.2.2.2.1 x.2.2.2.2.1 x.2.2.2.2.2, w_ValleyR a (o + 1), w_Key E a (o + 2) x.1.1.1, w_Bells E a (o + 3) x.1.1.2.1, w_Mel E a (o + 6) x.1.1.2.2.1, w_Cliffs E a (o + 10) x.1.1.2.2.2, w_ValleyR a (o + 13), w_Key E a (o + 14) x.1.2.1.1, w_Bells E a (o + 15) x.1.2.1.2.1, w_Mel E a (o + 18) x.1.2.1.2.2.1, w_Cliffs E a (o + 22) x.1.2.1.2.2.2, w_Prog E a (o + 25) x.1.2.2.2.1, w_Chord E a (o + 31) x.1.2.2.2.2, w_Key E a (o + 34) x.2.1, w_Line E a (o + 35) x.2.2.1, w_Hist E a (o + 37) x.1.2.2.1]) := hD
  have hl : lv_has ls 1 [(0, .ref (a o))] := hl
  generalize hHe : s.heap = H at hP
  have hS : va_S A s.heap H [] := by rw [← hHe]; exact hS
  generalize ([] : List Loc) = locs at hS ⊢
  unfold f_X10_restore at hF
  refine lv_aload_n hx hb dX10_restore_0 rfl (lv_at hl 0 rfl) ?_
  refine va_get (D := E.1) (ci := 11) (v := .int x.2.2.2.1) (C := RX10) (T := TX10) (N := 10) hx hb ha in_X10 hown hst.k hP 0 rfl rfl 7 (by decide) (ha _ mw291) (fun _ h9 => h9) rfl dX10_restore_1 ?_
  refine lv_if_ne (tgt := 18) hx hb dX10_restore_4 (by decide) (fun c4 => ?_) (fun c4 => ?_)
  · have hF := q_brn c4 hF
    refine lv_aload_n hx hb dX10_restore_18 rfl (lv_at hl 0 rfl) ?_
    refine va_get (D := E.1) (ci := 11) (v := .ref (a (o + 1))) (C := RX10) (T := TX10) (N := 10) hx hb ha in_X10 hown hst.k hP 0 rfl rfl 0 (by decide) (ha _ mw284) (fun _ h9 => h9) rfl dX10_restore_19 ?_
    refine lv_aload_n hx hb dX10_restore_22 rfl (lv_at hl 0 rfl) ?_
    refine va_get (D := E.1) (ci := 11) (v := .ref (a (o + 13))) (C := RX10) (T := TX10) (N := 10) hx hb ha in_X10 hown hst.k hP 0 rfl rfl 1 (by decide) (ha _ mw285) (fun _ h9 => h9) rfl dX10_restore_23 ?_
    obtain ⟨q1, hq1, hF⟩ := q_bdi hF
    refine cl_v (Lc := [w_ValleyR a (o + 1), w_Key E a (o + 2) x.1.1.1, w_Bells E a (o + 3) x.1.1.2.1, w_Mel E a (o + 6) x.1.1.2.2.1, w_Cliffs E a (o + 10) x.1.1.2.2.2, w_ValleyR a (o + 13), w_Key E a (o + 14) x.1.2.1.1, w_Bells E a (o + 15) x.1.2.1.2.1, w_Mel E a (o + 18) x.1.2.1.2.2.1, w_Cliffs E a (o + 22) x.1.2.1.2.2.2]) (Lc' := [w_ValleyR a (o + 1), w_Key E a (o + 2) (q1.1, q1.2.1, q1.2.2.1), w_Bells E a (o + 3) (q1.2.2.2.1, q1.2.2.2.2.1, q1.2.2.2.2.2.1), w_Mel E a (o + 6) (q1.2.2.2.2.2.2.1, q1.2.2.2.2.2.2.2.1, q1.2.2.2.2.2.2.2.2.1), w_Cliffs E a (o + 10) (q1.2.2.2.2.2.2.2.2.2.1, q1.2.2.2.2.2.2.2.2.2.2.1, q1.2.2.2.2.2.2.2.2.2.2.2), w_ValleyR a (o + 13), w_Key E a (o + 14) x.1.2.1.1, w_Bells E a (o + 15) x.1.2.1.2.1, w_Mel E a (o + 18) x.1.2.1.2.2.1, w_Cliffs E a (o + 22) x.1.2.1.2.2.2]) (L' := [w_VBR a o x.2.2.2.1 x.2.2.2.2.1 x.2.2.2.2.2, w_ValleyR a (o + 1), w_Key E a (o + 2) (q1.1, q1.2.1, q1.2.2.1), w_Bells E a (o + 3) (q1.2.2.2.1, q1.2.2.2.2.1, q1.2.2.2.2.2.1), w_Mel E a (o + 6) (q1.2.2.2.2.2.2.1, q1.2.2.2.2.2.2.2.1, q1.2.2.2.2.2.2.2.2.1), w_Cliffs E a (o + 10) (q1.2.2.2.2.2.2.2.2.2.1, q1.2.2.2.2.2.2.2.2.2.2.1, q1.2.2.2.2.2.2.2.2.2.2.2), w_ValleyR a (o + 13), w_Key E a (o + 14) x.1.2.1.1, w_Bells E a (o + 15) x.1.2.1.2.1, w_Mel E a (o + 18) x.1.2.1.2.2.1, w_Cliffs E a (o + 22) x.1.2.1.2.2.2, w_Prog E a (o + 25) x.1.2.2.2.1, w_Chord E a (o + 31) x.1.2.2.2.2, w_Key E a (o + 34) x.2.1, w_Line E a (o + 35) x.2.2.1, w_Hist E a (o + 37) x.1.2.2.1]) (va_runV (As := [.ref (a (o + 13))]) (rest := []) ⟨hx, hb, hml, hown, ha⟩ (k_X9_copyFrom l E a (o + 1) x.1.1 a (o + 13) x.1.2.1 q1 hq1 H.size) (cwV 1 ha (gi_V (fun _ h => h) mw1042 mw330 mw331 mw27 mw332) rfl rfl rfl hv_X9_copyFrom ⟨(Nat.le_of_ble_eq_true rfl), (Nat.le_of_ble_eq_true rfl)⟩) ⟨pre_blind, va_recv hst.k (fr_P hP [1, 2, 3, 4, 5, 6, 7, 8, 9, 10] rfl) (ci := 10) (q0 := 0) rfl rfl, pre_at hP hD hS hz hzs hst [1, 2, 3, 4, 5, 6, 7, 8, 9, 10] (by decide) rfl rfl⟩ rfl rfl hl.1 rfl (lv_room (Nat.le_of_ble_eq_true rfl)) dX10_restore_26 ⟨(Nat.le_of_ble_eq_true rfl), (Nat.le_of_ble_eq_true rfl)⟩) hP hD hS hA [1, 2, 3, 4, 5, 6, 7, 8, 9, 10] (by decide) rfl rfl rfl rfl (fun H locs hP hD hS => ?_)
    refine lv_aload_n hx hb dX10_restore_29 rfl (lv_at hl 0 rfl) ?_
    refine va_get (D := E.1) (ci := 11) (v := .ref (a (o + 37))) (C := RX10) (T := TX10) (N := 10) hx hb ha in_X10 hown hst.k hP 0 rfl rfl 2 (by decide) (ha _ mw286) (fun _ h9 => h9) rfl dX10_restore_30 ?_
    obtain ⟨q2, hq2, hF⟩ := q_bdi hF
    refine cl_v (Lc := [w_Hist E a (o + 37) x.1.2.2.1]) (Lc' := [w_Hist E a (o + 37) (x.1.2.2.1.1, x.1.2.2.1.2.1, q2)]) (L' := [w_VBR a o x.2.2.2.1 x.2.2.2.2.1 x.2.2.2.2.2, w_ValleyR a (o + 1), w_Key E a (o + 2) (q1.1, q1.2.1, q1.2.2.1), w_Bells E a (o + 3) (q1.2.2.2.1, q1.2.2.2.2.1, q1.2.2.2.2.2.1), w_Mel E a (o + 6) (q1.2.2.2.2.2.2.1, q1.2.2.2.2.2.2.2.1, q1.2.2.2.2.2.2.2.2.1), w_Cliffs E a (o + 10) (q1.2.2.2.2.2.2.2.2.2.1, q1.2.2.2.2.2.2.2.2.2.2.1, q1.2.2.2.2.2.2.2.2.2.2.2), w_ValleyR a (o + 13), w_Key E a (o + 14) x.1.2.1.1, w_Bells E a (o + 15) x.1.2.1.2.1, w_Mel E a (o + 18) x.1.2.1.2.2.1, w_Cliffs E a (o + 22) x.1.2.1.2.2.2, w_Prog E a (o + 25) x.1.2.2.2.1, w_Chord E a (o + 31) x.1.2.2.2.2, w_Key E a (o + 34) x.2.1, w_Line E a (o + 35) x.2.2.1, w_Hist E a (o + 37) (x.1.2.2.1.1, x.1.2.2.1.2.1, q2)]) (va_runV (As := []) (rest := []) ⟨hx, hb, hml, hown, ha⟩ (k_X5_forget l E a (o + 37) x.1.2.2.1 q2 hq2 H.size) (cwV 0 ha (gi_V (fun _ h => h) mw1082 mw1083 mw1084 mw32 mw1085) rfl rfl rfl hv_X5_forget ⟨(Nat.le_of_ble_eq_true rfl), (Nat.le_of_ble_eq_true rfl)⟩) ⟨pre_blind, va_recv hst.k (fr_P hP [15] rfl) (ci := 6) (q0 := 0) rfl rfl, pre_at hP hD hS hz hzs hst [15] (by decide) rfl rfl⟩ rfl rfl hl.1 rfl (lv_room (Nat.le_of_ble_eq_true rfl)) dX10_restore_33 ⟨(Nat.le_of_ble_eq_true rfl), (Nat.le_of_ble_eq_true rfl)⟩) hP hD hS hA [15] (by decide) rfl rfl rfl rfl (fun H locs hP hD hS => ?_)
    obtain rfl := Option.some.inj hF
    exact en_xv hQ (Nat.le_of_ble_eq_true rfl) (Nat.le_of_ble_eq_true rfl) hx hb hr hlocks hP hD hS rfl dX10_restore_36
  · have hF := q_brp c4 hF
    obtain rfl := Option.some.inj hF
    exact en_thW hQ hx hb hlt ha hst hz hml hl.1 hown (by decide) ft_x mw572 iw_IllegalStateException (sr_370 E) at_288 cs_IllegalStateException dX10_restore_7 dX10_restore_10 dX10_restore_11 dX10_restore_14 dX10_restore_17 hexc (Nat.le_of_ble_eq_true rfl) (Nat.le_of_ble_eq_true rfl) (Nat.le_of_ble_eq_true rfl) (Nat.le_of_ble_eq_true rfl) hlocks (Nat.le_of_ble_eq_true rfl) (Nat.le_of_ble_eq_true rfl) hP hD hS rfl
