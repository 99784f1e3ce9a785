/-! L_addBell -/
theorem dL_addBell_0 : decode cL_addBell 0 = .ok (.aload_n 3, 1) := by decide +kernel
theorem dL_addBell_1 : decode cL_addBell 1 = .ok (.iconst 0, 1) := by decide +kernel
theorem dL_addBell_2 : decode cL_addBell 2 = .ok (.aload_n 0, 1) := by decide +kernel
theorem dL_addBell_3 : decode cL_addBell 3 = .ok (.iload_n 1, 1) := by decide +kernel
theorem dL_addBell_4 : decode cL_addBell 4 = .ok (.iload_n 2, 1) := by decide +kernel
theorem dL_addBell_5 : decode cL_addBell 5 = .ok (.invokevirtual 7, 3) := by decide +kernel
theorem dL_addBell_8 : decode cL_addBell 8 = .ok (.i2l, 1) := by decide +kernel
theorem dL_addBell_9 : decode cL_addBell 9 = .ok (.lastore, 1) := by decide +kernel
theorem dL_addBell_10 : decode cL_addBell 10 = .ok (.goto 15, 3) := by decide +kernel
theorem dL_addBell_13 : decode cL_addBell 13 = .ok (.astore 4, 2) := by decide +kernel
theorem dL_addBell_15 : decode cL_addBell 15 = .ok (.iconst 1, 1) := by decide +kernel
theorem dL_addBell_16 : decode cL_addBell 16 = .ok (.ireturn, 1) := by decide +kernel
theorem dL_addBell_17 : decode cL_addBell 17 = .ok (.astore 4, 2) := by decide +kernel
theorem dL_addBell_19 : decode cL_addBell 19 = .ok (.iconst 2, 1) := by decide +kernel
theorem dL_addBell_20 : decode cL_addBell 20 = .ok (.ireturn, 1) := by decide +kernel
theorem dL_addBell_21 : decode cL_addBell 21 = .ok (.astore 4, 2) := by decide +kernel
theorem dL_addBell_23 : decode cL_addBell 23 = .ok (.iconst 3, 1) := by decide +kernel
theorem dL_addBell_24 : decode cL_addBell 24 = .ok (.ireturn, 1) := by decide +kernel
theorem dL_addBell_25 : decode cL_addBell 25 = .ok (.iconst 0, 1) := by decide +kernel
theorem dL_addBell_26 : decode cL_addBell 26 = .ok (.ireturn, 1) := by decide +kernel
def f_L_addBell (x_valley_key_tonic : Int32) (x_valley_key_isMinor : Int32) (x_valley_key_tolerance : Int32) (x_valley_bells_herds : (Nat → Int32)) (x_valley_bells_pitches : (Nat → Int32)) (x_valley_bells_count : Int32) (x_valley_melodies_lengths : (Nat → Int32)) (x_valley_melodies_entries : (Nat → Int32)) (x_valley_melodies_tones : (Nat → Int32)) (x_valley_cliffs_delays : (Nat → Int32)) (x_valley_cliffs_transpositions : (Nat → Int32)) (x_valley_cliffs_count : Int32) (x_history_slots : (Nat → Valley_t)) (x_history_current : Int32) (x_history_count : Int32) (y_v : (Nat → Int64)) (p2 : Int32) (p3 : Int32) : Option (Int32 × Int32 × Int32 × Int32 × (Nat → Int32) × (Nat → Int32) × Int32 × (Nat → Int32) × (Nat → Int32) × (Nat → Int32) × (Nat → Int32) × (Nat → Int32) × Int32 × (Nat → Valley_t) × Int32 × Int32 × (Nat → Int64)) :=
  q_bd (f_X10_addBell x_valley_key_tonic x_valley_key_isMinor x_valley_key_tolerance x_valley_bells_herds x_valley_bells_pitches x_valley_bells_count x_valley_melodies_lengths x_valley_melodies_entries x_valley_melodies_tones x_valley_cliffs_delays x_valley_cliffs_transpositions x_valley_cliffs_count x_history_slots x_history_current x_history_count p2 p3) (fun q1 =>
  q_sm q1.1 (fun X => q_br (X = "java/lang/IndexOutOfBoundsException") (
  some (1, q1.2.1, q1.2.2.1, q1.2.2.2.1, q1.2.2.2.2.1, q1.2.2.2.2.2.1, q1.2.2.2.2.2.2.1, q1.2.2.2.2.2.2.2.1, q1.2.2.2.2.2.2.2.2.1, q1.2.2.2.2.2.2.2.2.2.1, q1.2.2.2.2.2.2.2.2.2.2.1, q1.2.2.2.2.2.2.2.2.2.2.2.1, q1.2.2.2.2.2.2.2.2.2.2.2.2.1, q1.2.2.2.2.2.2.2.2.2.2.2.2.2.1, q1.2.2.2.2.2.2.2.2.2.2.2.2.2.2.1, q1.2.2.2.2.2.2.2.2.2.2.2.2.2.2.2, y_v)) (
  q_br (X = "java/lang/IllegalArgumentException") (
  some (2, q1.2.1, q1.2.2.1, q1.2.2.2.1, q1.2.2.2.2.1, q1.2.2.2.2.2.1, q1.2.2.2.2.2.2.1, q1.2.2.2.2.2.2.2.1, q1.2.2.2.2.2.2.2.2.1, q1.2.2.2.2.2.2.2.2.2.1, q1.2.2.2.2.2.2.2.2.2.2.1, q1.2.2.2.2.2.2.2.2.2.2.2.1, q1.2.2.2.2.2.2.2.2.2.2.2.2.1, q1.2.2.2.2.2.2.2.2.2.2.2.2.2.1, q1.2.2.2.2.2.2.2.2.2.2.2.2.2.2.1, q1.2.2.2.2.2.2.2.2.2.2.2.2.2.2.2, y_v)) (
  q_br (X = "java/lang/IllegalStateException") (
  some (3, q1.2.1, q1.2.2.1, q1.2.2.2.1, q1.2.2.2.2.1, q1.2.2.2.2.2.1, q1.2.2.2.2.2.2.1, q1.2.2.2.2.2.2.2.1, q1.2.2.2.2.2.2.2.2.1, q1.2.2.2.2.2.2.2.2.2.1, q1.2.2.2.2.2.2.2.2.2.2.1, q1.2.2.2.2.2.2.2.2.2.2.2.1, q1.2.2.2.2.2.2.2.2.2.2.2.2.1, q1.2.2.2.2.2.2.2.2.2.2.2.2.2.1, q1.2.2.2.2.2.2.2.2.2.2.2.2.2.2.1, q1.2.2.2.2.2.2.2.2.2.2.2.2.2.2.2, y_v)) (
  none)))) (fun r2 =>
  some (0, q1.2.1, q1.2.2.1, q1.2.2.2.1, q1.2.2.2.2.1, q1.2.2.2.2.2.1, q1.2.2.2.2.2.2.1, q1.2.2.2.2.2.2.2.1, q1.2.2.2.2.2.2.2.2.1, q1.2.2.2.2.2.2.2.2.2.1, q1.2.2.2.2.2.2.2.2.2.2.1, q1.2.2.2.2.2.2.2.2.2.2.2.1, q1.2.2.2.2.2.2.2.2.2.2.2.2.1, q1.2.2.2.2.2.2.2.2.2.2.2.2.2.1, q1.2.2.2.2.2.2.2.2.2.2.2.2.2.2.1, q1.2.2.2.2.2.2.2.2.2.2.2.2.2.2.2, vp_updL y_v 0 (r2.toInt64))))
theorem hv_L_addBell : yL_addBell.cls = RL ∧ yL_addBell.cls ≠ "java/lang/invoke/MethodHandle" ∧ yL_addBell.cls ≠ "java/lang/invoke/VarHandle" ∧ (parseMethodDescriptor yL_addBell.desc).map (fun d => d.parameters.length) = some 4 := by decide +kernel
abbrev rm_L_addBell : Room := { frames := 8, cells := 1, slots := 6, locals := 180 }
set_option maxHeartbeats 4000000 in
set_option maxRecDepth 100000 in
theorem k_L_addBell (l : Launch) (E : ET) (a : Nat → Nat) (o : Nat) (x : VB_t) (ay : Nat → Nat) (oy : Nat) (y : (Nat → Int64)) (p2 : Int32) (p3 : Int32) (res : Int32 × Int32 × Int32 × Int32 × (Nat → Int32) × (Nat → Int32) × Int32 × (Nat → Int32) × (Nat → Int32) × (Nat → Int32) × (Nat → Int32) × (Nat → Int32) × Int32 × (Nat → Valley_t) × Int32 × Int32 × (Nat → Int64)) (hF : f_L_addBell x.1.1.1.1 x.1.1.1.2.1 x.1.1.1.2.2 x.1.1.2.1.1 x.1.1.2.1.2.1 x.1.1.2.1.2.2 x.1.1.2.2.1.1 x.1.1.2.2.1.2.1 x.1.1.2.2.1.2.2 x.1.1.2.2.2.1 x.1.1.2.2.2.2.1 x.1.1.2.2.2.2.2 x.1.2.2.1.1 x.1.2.2.1.2.1 x.1.2.2.1.2.2 y p2 p3 = some res) (sz : Nat) (hlt : l.stackTraces = false) : CtI l yL_addBell (mwsH yL_addBell cL_addBell 5 (some .int) [(0, 10, 13, 13), (0, 10, 17, 15), (0, 10, 21, 17)]) rm_L_addBell 1 6 [.ref (a o), .int p2, .int p3, .ref (ay oy)] E (bl_VB E a o x ++ bl_LongArr E ay oy y) res.1 (bl_VB E a o ((((res.2.1, res.2.2.1, res.2.2.2.1), (res.2.2.2.2.1, res.2.2.2.2.2.1, res.2.2.2.2.2.2.1), (res.2.2.2.2.2.2.2.1, res.2.2.2.2.2.2.2.2.1, res.2.2.2.2.2.2.2.2.2.1), (res.2.2.2.2.2.2.2.2.2.2.1, res.2.2.2.2.2.2.2.2.2.2.2.1, res.2.2.2.2.2.2.2.2.2.2.2.2.1)), x.1.2.1, (res.2.2.2.2.2.2.2.2.2.2.2.2.2.1, res.2.2.2.2.2.2.2.2.2.2.2.2.2.2.1, res.2.2.2.2.2.2.2.2.2.2.2.2.2.2.2.1), x.1.2.2.2.1, x.1.2.2.2.2), (x.2.1, x.2.2.1, x.2.2.2.1, x.2.2.2.2.1, x.2.2.2.2.2)) ++ bl_LongArr E ay oy res.2.2.2.2.2.2.2.2.2.2.2.2.2.2.2.2) sz := by
  refine mk_H (by decide +kernel) (Nat.le_of_ble_eq_true rfl) ?_
  intro p e s m below meth c A args Q ls hAe hsz hQ hx hb hr hml hin ha hown hlocks hA hz hzs hst htab hP hD hS hl
  have hown : s.vm.findClass RL = some m.cls := hown
  rw [hAe] at hQ
  subst hsz
  have hP : va_P E.1 vwCl (List.flatten [w_VBR a o x.2.2.2.1 x.2.2.2.2.1 x.2.2.2.2.2, w_ValleyR a (o + 1), w_Key E a (o + 2) x.1.1.1, w_Bells E a (o + 3) x.1.1.2.1, w_Mel E a (o + 6) x.1.1.2.2.1, w_Cliffs E a (o + 10) x.1.1.2.2.2, w_ValleyR a (o + 13), w_Key E a (o + 14) x.1.2.1.1, w_Bells E a (o + 15) x.1.2.1.2.1, w_Mel E a (o + 18) x.1.2.1.2.2.1, w_Cliffs E a (o + 22) x.1.2.1.2.2.2, w_Prog E a (o + 25) x.1.2.2.2.1, w_Chord E a (o + 31) x.1.2.2.2.2, w_Key E a (o + 34) x.2.1, w_Line E a (o + 35) x.2.2.1, w_Hist E a (o + 37) x.1.2.2.1, w_LongArr E ay oy y]) s.heap := hP
  have hD : va_D A (List.flatten [w_VBR a o x.2.2.2.1 x.2.2.2.2.1 x.2.2.2.2.2, w_ValleyR a (o + 1), w_Key E a (o + 2) x.1.1.1, w_Bells E a (o + 3) x.1.1.2.1, w_Mel E a (o + 6) x.1.1.2.2.1, w_Cliffs E a (o + 10) x.1.1.2.2.2, w_ValleyR a (o + 13), w_Key E a (o + 14) x.1.2.1.1, w_Bells E a (o + 15) x.1.2.1.2.1, w_Mel E a (o + 18) x.1.2.1.2.2.1, w_Cliffs E a (o + 22) x.1.2.1.2.2.2, w_Prog E a (o + 25) x.1.2.2.2.1, w_Chord E a (o + 31) x.1.2.2.2.2, w_Key E a (o + 34) x.2.1, w_Line E a (o + 35) x.2.2.1, w_Hist E a (o + 37) x.1.2.2.1, w_LongArr E ay oy y]) := hD
  have hl : lv_has ls 5 [(0, .ref (a o)), (1, .int p2), (2, .int p3), (3, .ref (ay oy))] := hl
  generalize hHe : s.heap = H at hP
  have hS : va_S A s.heap H [] := by rw [← hHe]; exact hS
  generalize ([] : List Loc) = locs at hS ⊢
  unfold f_L_addBell at hF
  refine lv_aload_n hx hb dL_addBell_0 rfl (lv_at hl 3 rfl) ?_
  refine lv_iconst (v := 0) hx hb dL_addBell_1 (by decide) ?_
  refine lv_aload_n hx hb dL_addBell_2 rfl (lv_at hl 0 rfl) ?_
  refine lv_iload_n hx hb dL_addBell_3 rfl (lv_at hl 1 rfl) ?_
  refine lv_iload_n hx hb dL_addBell_4 rfl (lv_at hl 2 rfl) ?_
  obtain ⟨q1, hq1, hF⟩ := q_bdi hF
  refine cx_i (ro := q1.1) (Lc := [w_VBR a o x.2.2.2.1 x.2.2.2.2.1 x.2.2.2.2.2, w_ValleyR a (o + 1), w_Key E a (o + 2) x.1.1.1, w_Bells E a (o + 3) x.1.1.2.1, w_Mel E a (o + 6) x.1.1.2.2.1, w_Cliffs E a (o + 10) x.1.1.2.2.2, w_ValleyR a (o + 13), w_Key E a (o + 14) x.1.2.1.1, w_Bells E a (o + 15) x.1.2.1.2.1, w_Mel E a (o + 18) x.1.2.1.2.2.1, w_Cliffs E a (o + 22) x.1.2.1.2.2.2, w_Prog E a (o + 25) x.1.2.2.2.1, w_Chord E a (o + 31) x.1.2.2.2.2, w_Key E a (o + 34) x.2.1, w_Line E a (o + 35) x.2.2.1, w_Hist E a (o + 37) x.1.2.2.1]) (Lc' := [w_VBR a o x.2.2.2.1 x.2.2.2.2.1 x.2.2.2.2.2, w_ValleyR a (o + 1), w_Key E a (o + 2) (q1.2.1, q1.2.2.1, q1.2.2.2.1), w_Bells E a (o + 3) (q1.2.2.2.2.1, q1.2.2.2.2.2.1, q1.2.2.2.2.2.2.1), w_Mel E a (o + 6) (q1.2.2.2.2.2.2.2.1, q1.2.2.2.2.2.2.2.2.1, q1.2.2.2.2.2.2.2.2.2.1), w_Cliffs E a (o + 10) (q1.2.2.2.2.2.2.2.2.2.2.1, q1.2.2.2.2.2.2.2.2.2.2.2.1, q1.2.2.2.2.2.2.2.2.2.2.2.2.1), w_ValleyR a (o + 13), w_Key E a (o + 14) x.1.2.1.1, w_Bells E a (o + 15) x.1.2.1.2.1, w_Mel E a (o + 18) x.1.2.1.2.2.1, w_Cliffs E a (o + 22) x.1.2.1.2.2.2, w_Prog E a (o + 25) x.1.2.2.2.1, w_Chord E a (o + 31) x.1.2.2.2.2, w_Key E a (o + 34) x.2.1, w_Line E a (o + 35) x.2.2.1, w_Hist E a (o + 37) (q1.2.2.2.2.2.2.2.2.2.2.2.2.2.1, q1.2.2.2.2.2.2.2.2.2.2.2.2.2.2.1, q1.2.2.2.2.2.2.2.2.2.2.2.2.2.2.2)]) (L' := [w_VBR a o x.2.2.2.1 x.2.2.2.2.1 x.2.2.2.2.2, w_ValleyR a (o + 1), w_Key E a (o + 2) (q1.2.1, q1.2.2.1, q1.2.2.2.1), w_Bells E a (o + 3) (q1.2.2.2.2.1, q1.2.2.2.2.2.1, q1.2.2.2.2.2.2.1), w_Mel E a (o + 6) (q1.2.2.2.2.2.2.2.1, q1.2.2.2.2.2.2.2.2.1, q1.2.2.2.2.2.2.2.2.2.1), w_Cliffs E a (o + 10) (q1.2.2.2.2.2.2.2.2.2.2.1, q1.2.2.2.2.2.2.2.2.2.2.2.1, q1.2.2.2.2.2.2.2.2.2.2.2.2.1), w_ValleyR a (o + 13), w_Key E a (o + 14) x.1.2.1.1, w_Bells E a (o + 15) x.1.2.1.2.1, w_Mel E a (o + 18) x.1.2.1.2.2.1, w_Cliffs E a (o + 22) x.1.2.1.2.2.2, w_Prog E a (o + 25) x.1.2.2.2.1, w_Chord E a (o + 31) x.1.2.2.2.2, w_Key E a (o + 34) x.2.1, w_Line E a (o + 35) x.2.2.1, w_Hist E a (o + 37) (q1.2.2.2.2.2.2.2.2.2.2.2.2.2.1, q1.2.2.2.2.2.2.2.2.2.2.2.2.2.2.1, q1.2.2.2.2.2.2.2.2.2.2.2.2.2.2.2), w_LongArr E ay oy y]) (vx_runV (As := [.int p2, .int p3]) (rest := [.int 0, .ref (ay oy)]) ⟨hx, hb, hml, hown, ha⟩ (k_X10_addBell l E a o x p2 p3 q1 hq1 H.size hlt) (cwV 2 ha (gi_V (fun _ h => h) mw965 mw966 mw967 mw74 mw968) rfl rfl rfl hv_X10_addBell ⟨(Nat.le_of_ble_eq_true rfl), (Nat.le_of_ble_eq_true rfl)⟩) ⟨pre_blind, va_recv hst.k (fr_P hP [0, 1, 2, 3, 4, 5, 6, 7, 8, 9, 10, 11, 12, 13, 14, 15] rfl) (ci := 12) (q0 := 0) rfl rfl, pre_at hP hD hS hz hzs hst [0, 1, 2, 3, 4, 5, 6, 7, 8, 9, 10, 11, 12, 13, 14, 15] (by decide) rfl rfl⟩ rfl rfl hl.1 rfl (lv_room (Nat.le_of_ble_eq_true rfl)) dL_addBell_5 ⟨(Nat.le_of_ble_eq_true rfl), (Nat.le_of_ble_eq_true rfl)⟩) hP hD hS hA [0, 1, 2, 3, 4, 5, 6, 7, 8, 9, 10, 11, 12, 13, 14, 15] (by decide) rfl rfl rfl rfl (fun X ce q9 H locs eX h1 h2 h3 hP hD hS => ?_) (fun r2 H locs er2 hP hD hS => ?_)
  · have hF := q_smr eX hF
    by_cases w5_0 : X = "java/lang/IndexOutOfBoundsException"
    · have hF := q_brp w5_0 hF
      subst w5_0
      refine vx_catch (E := "java/lang/IndexOutOfBoundsException") (name := "java/lang/IndexOutOfBoundsException") hown [] ⟨0, 10, 13, 13⟩ [⟨0, 10, 17, 15⟩, ⟨0, 10, 21, 17⟩] htab (fun _ h => nomatch h) (by decide) (by decide) (ha _ mw960) (va_Nw.use rfl (hst.cs cs_IndexOutOfBoundsException)) h1 h2 h3 ?_
      refine lv_astore (lv' := [(4, .ref q9), (0, .ref (a o)), (1, .int p2), (2, .int p3), (3, .ref (ay oy))]) hx hb dL_addBell_13 hl (by decide) rfl (fun ls hl => ?_)
      refine lv_iconst (v := 1) hx hb dL_addBell_15 (by decide) ?_
      obtain rfl := Option.some.inj hF
      exact en_i hQ (Nat.le_of_ble_eq_true rfl) (Nat.le_of_ble_eq_true rfl) hx hb hr hlocks hP hD hS rfl dL_addBell_16
    have hF := q_brn w5_0 hF
    by_cases w5_1 : X = "java/lang/IllegalArgumentException"
    · have hF := q_brp w5_1 hF
      subst w5_1
      refine vx_catch (E := "java/lang/IllegalArgumentException") (name := "java/lang/IllegalArgumentException") hown [⟨0, 10, 13, 13⟩] ⟨0, 10, 17, 15⟩ [⟨0, 10, 21, 17⟩] htab (List.forall_mem_cons.mpr ⟨Or.inr ⟨by decide, "java/lang/IndexOutOfBoundsException", ha _ mw960, hst.nc (q := ("java/lang/IllegalArgumentException", "java/lang/IndexOutOfBoundsException")) (List.mem_of_getElem? (i := 5) rfl)⟩, (fun _ h => nomatch h)⟩) (by decide) (by decide) (ha _ mw963) (va_Nw.use rfl (hst.cs cs_IllegalArgumentException)) h1 h2 h3 ?_
      refine lv_astore (lv' := [(4, .ref q9), (0, .ref (a o)), (1, .int p2), (2, .int p3), (3, .ref (ay oy))]) hx hb dL_addBell_17 hl (by decide) rfl (fun ls hl => ?_)
      refine lv_iconst (v := 2) hx hb dL_addBell_19 (by decide) ?_
      obtain rfl := Option.some.inj hF
      exact en_i hQ (Nat.le_of_ble_eq_true rfl) (Nat.le_of_ble_eq_true rfl) hx hb hr hlocks hP hD hS rfl dL_addBell_20
    have hF := q_brn w5_1 hF
    by_cases w5_2 : X = "java/lang/IllegalStateException"
    · have hF := q_brp w5_2 hF
      subst w5_2
      refine vx_catch (E := "java/lang/IllegalStateException") (name := "java/lang/IllegalStateException") hown [⟨0, 10, 13, 13⟩, ⟨0, 10, 17, 15⟩] ⟨0, 10, 21, 17⟩ [] htab (List.forall_mem_cons.mpr ⟨Or.inr ⟨by decide, "java/lang/IndexOutOfBoundsException", ha _ mw960, hst.nc (q := ("java/lang/IllegalStateException", "java/lang/IndexOutOfBoundsException")) (List.mem_of_getElem? (i := 10) rfl)⟩, (List.forall_mem_cons.mpr ⟨Or.inr ⟨by decide, "java/lang/IllegalArgumentException", ha _ mw963, hst.nc (q := ("java/lang/IllegalStateException", "java/lang/IllegalArgumentException")) (List.mem_of_getElem? (i := 11) rfl)⟩, (fun _ h => nomatch h)⟩)⟩) (by decide) (by decide) (ha _ mw964) (va_Nw.use rfl (hst.cs cs_IllegalStateException)) h1 h2 h3 ?_
      refine lv_astore (lv' := [(4, .ref q9), (0, .ref (a o)), (1, .int p2), (2, .int p3), (3, .ref (ay oy))]) hx hb dL_addBell_21 hl (by decide) rfl (fun ls hl => ?_)
      refine lv_iconst (v := 3) hx hb dL_addBell_23 (by decide) ?_
      obtain rfl := Option.some.inj hF
      exact en_i hQ (Nat.le_of_ble_eq_true rfl) (Nat.le_of_ble_eq_true rfl) hx hb hr hlocks hP hD hS rfl dL_addBell_24
    have hF := q_brn w5_2 hF
    exact absurd hF (by simp)
  have hF := q_sml er2 hF
  refine lv_i2l hx hb dL_addBell_8 rfl ?_
  refine vi_last hx hb hst.k hP hD hS 147 3 rfl rfl (f := y) (k := 0) (by decide) (by decide) dL_addBell_9 (fun H locs hP hD hS => ?_)
  have hP : va_P E.1 vwCl (List.flatten [w_VBR a o x.2.2.2.1 x.2.2.2.2.1 x.2.2.2.2.2, w_ValleyR a (o + 1), w_Key E a (o + 2) (q1.2.1, q1.2.2.1, q1.2.2.2.1), w_Bells E a (o + 3) (q1.2.2.2.2.1, q1.2.2.2.2.2.1, q1.2.2.2.2.2.2.1), w_Mel E a (o + 6) (q1.2.2.2.2.2.2.2.1, q1.2.2.2.2.2.2.2.2.1, q1.2.2.2.2.2.2.2.2.2.1), w_Cliffs E a (o + 10) (q1.2.2.2.2.2.2.2.2.2.2.1, q1.2.2.2.2.2.2.2.2.2.2.2.1, q1.2.2.2.2.2.2.2.2.2.2.2.2.1), w_ValleyR a (o + 13), w_Key E a (o + 14) x.1.2.1.1, w_Bells E a (o + 15) x.1.2.1.2.1, w_Mel E a (o + 18) x.1.2.1.2.2.1, w_Cliffs E a (o + 22) x.1.2.1.2.2.2, w_Prog E a (o + 25) x.1.2.2.2.1, w_Chord E a (o + 31) x.1.2.2.2.2, w_Key E a (o + 34) x.2.1, w_Line E a (o + 35) x.2.2.1, w_Hist E a (o + 37) (q1.2.2.2.2.2.2.2.2.2.2.2.2.2.1, q1.2.2.2.2.2.2.2.2.2.2.2.2.2.2.1, q1.2.2.2.2.2.2.2.2.2.2.2.2.2.2.2), w_LongArr E ay oy (vp_updL y 0 (r2.toInt64))]) H := hP
  have hD : va_D A (List.flatten [w_VBR a o x.2.2.2.1 x.2.2.2.2.1 x.2.2.2.2.2, w_ValleyR a (o + 1), w_Key E a (o + 2) (q1.2.1, q1.2.2.1, q1.2.2.2.1), w_Bells E a (o + 3) (q1.2.2.2.2.1, q1.2.2.2.2.2.1, q1.2.2.2.2.2.2.1), w_Mel E a (o + 6) (q1.2.2.2.2.2.2.2.1, q1.2.2.2.2.2.2.2.2.1, q1.2.2.2.2.2.2.2.2.2.1), w_Cliffs E a (o + 10) (q1.2.2.2.2.2.2.2.2.2.2.1, q1.2.2.2.2.2.2.2.2.2.2.2.1, q1.2.2.2.2.2.2.2.2.2.2.2.2.1), w_ValleyR a (o + 13), w_Key E a (o + 14) x.1.2.1.1, w_Bells E a (o + 15) x.1.2.1.2.1, w_Mel E a (o + 18) x.1.2.1.2.2.1, w_Cliffs E a (o + 22) x.1.2.1.2.2.2, w_Prog E a (o + 25) x.1.2.2.2.1, w_Chord E a (o + 31) x.1.2.2.2.2, w_Key E a (o + 34) x.2.1, w_Line E a (o + 35) x.2.2.1, w_Hist E a (o + 37) (q1.2.2.2.2.2.2.2.2.2.2.2.2.2.1, q1.2.2.2.2.2.2.2.2.2.2.2.2.2.2.1, q1.2.2.2.2.2.2.2.2.2.2.2.2.2.2.2), w_LongArr E ay oy (vp_updL y 0 (r2.toInt64))]) := hD
  refine lv_goto (tgt := 25) hx hb dL_addBell_10 (by decide) ?_
  refine lv_iconst (v := 0) hx hb dL_addBell_25 (by decide) ?_
  obtain rfl := Option.some.inj hF
  exact en_i hQ (Nat.le_of_ble_eq_true rfl) (Nat.le_of_ble_eq_true rfl) hx hb hr hlocks hP hD hS rfl dL_addBell_26

/-! L_removeBell -/
theorem dL_removeBell_0 : decode cL_removeBell 0 = .ok (.aload_n 2, 1) := by decide +kernel
theorem dL_removeBell_1 : decode cL_removeBell 1 = .ok (.iconst 0, 1) := by decide +kernel
theorem dL_removeBell_2 : decode cL_removeBell 2 = .ok (.aload_n 0, 1) := by decide +kernel
theorem dL_removeBell_3 : decode cL_removeBell 3 = .ok (.iload_n 1, 1) := by decide +kernel
theorem dL_removeBell_4 : decode cL_removeBell 4 = .ok (.invokevirtual 19, 3) := by decide +kernel
theorem dL_removeBell_7 : decode cL_removeBell 7 = .ok (.i2l, 1) := by decide +kernel
theorem dL_removeBell_8 : decode cL_removeBell 8 = .ok (.lastore, 1) := by decide +kernel
theorem dL_removeBell_9 : decode cL_removeBell 9 = .ok (.goto 6, 3) := by decide +kernel
theorem dL_removeBell_12 : decode cL_removeBell 12 = .ok (.astore_n 3, 1) := by decide +kernel
theorem dL_removeBell_13 : decode cL_removeBell 13 = .ok (.iconst 1, 1) := by decide +kernel
theorem dL_removeBell_14 : decode cL_removeBell 14 = .ok (.ireturn, 1) := by decide +kernel
theorem dL_removeBell_15 : decode cL_removeBell 15 = .ok (.iconst 0, 1) := by decide +kernel
theorem dL_removeBell_16 : decode cL_removeBell 16 = .ok (.ireturn, 1) := by decide +kernel
def f_L_removeBell (x_valley_key_tonic : Int32) (x_valley_key_isMinor : Int32) (x_valley_key_tolerance : Int32) (x_valley_bells_herds : (Nat → Int32)) (x_valley_bells_pitches : (Nat → Int32)) (x_valley_bells_count : Int32) (x_valley_melodies_lengths : (Nat → Int32)) (x_valley_melodies_entries : (Nat → Int32)) (x_valley_melodies_tones : (Nat → Int32)) (x_valley_cliffs_delays : (Nat → Int32)) (x_valley_cliffs_transpositions : (Nat → Int32)) (x_valley_cliffs_count : Int32) (x_history_slots : (Nat → Valley_t)) (x_history_current : Int32) (x_history_count : Int32) (y_v : (Nat → Int64)) (p2 : Int32) : Option (Int32 × Int32 × Int32 × Int32 × (Nat → Int32) × (Nat → Int32) × Int32 × (Nat → Int32) × (Nat → Int32) × (Nat → Int32) × (Nat → Int32) × (Nat → Int32) × Int32 × (Nat → Valley_t) × Int32 × Int32 × (Nat → Int64)) :=
  q_bd (f_X10_removeBell x_valley_key_tonic x_valley_key_isMinor x_valley_key_tolerance x_valley_bells_herds x_valley_bells_pitches x_valley_bells_count x_valley_melodies_lengths x_valley_melodies_entries x_valley_melodies_tones x_valley_cliffs_delays x_valley_cliffs_transpositions x_valley_cliffs_count x_history_slots x_history_current x_history_count p2) (fun q1 =>
  q_sm q1.1 (fun X => q_br (X = "java/lang/IndexOutOfBoundsException") (
  some (1, q1.2.1, q1.2.2.1, q1.2.2.2.1, q1.2.2.2.2.1, q1.2.2.2.2.2.1, q1.2.2.2.2.2.2.1, q1.2.2.2.2.2.2.2.1, q1.2.2.2.2.2.2.2.2.1, q1.2.2.2.2.2.2.2.2.2.1, q1.2.2.2.2.2.2.2.2.2.2.1, q1.2.2.2.2.2.2.2.2.2.2.2.1, q1.2.2.2.2.2.2.2.2.2.2.2.2.1, q1.2.2.2.2.2.2.2.2.2.2.2.2.2.1, q1.2.2.2.2.2.2.2.2.2.2.2.2.2.2.1, q1.2.2.2.2.2.2.2.2.2.2.2.2.2.2.2, y_v)) (
  none)) (fun r2 =>
  some (0, q1.2.1, q1.2.2.1, q1.2.2.2.1, q1.2.2.2.2.1, q1.2.2.2.2.2.1, q1.2.2.2.2.2.2.1, q1.2.2.2.2.2.2.2.1, q1.2.2.2.2.2.2.2.2.1, q1.2.2.2.2.2.2.2.2.2.1, q1.2.2.2.2.2.2.2.2.2.2.1, q1.2.2.2.2.2.2.2.2.2.2.2.1, q1.2.2.2.2.2.2.2.2.2.2.2.2.1, q1.2.2.2.2.2.2.2.2.2.2.2.2.2.1, q1.2.2.2.2.2.2.2.2.2.2.2.2.2.2.1, q1.2.2.2.2.2.2.2.2.2.2.2.2.2.2.2, vp_updL y_v 0 (r2.toInt64))))
theorem hv_L_removeBell : yL_removeBell.cls = RL ∧ yL_removeBell.cls ≠ "java/lang/invoke/MethodHandle" ∧ yL_removeBell.cls ≠ "java/lang/invoke/VarHandle" ∧ (parseMethodDescriptor yL_removeBell.desc).map (fun d => d.parameters.length) = some 3 := by decide +kernel
abbrev rm_L_removeBell : Room := { frames := 8, cells := 1, slots := 6, locals := 179 }
set_option maxHeartbeats 4000000 in
set_option maxRecDepth 100000 in
theorem k_L_removeBell (l : Launch) (E : ET) (a : Nat → Nat) (o : Nat) (x : VB_t) (ay : Nat → Nat) (oy : Nat) (y : (Nat → Int64)) (p2 : Int32) (res : Int32 × Int32 × Int32 × Int32 × (Nat → Int32) × (Nat → Int32) × Int32 × (Nat → Int32) × (Nat → Int32) × (Nat → Int32) × (Nat → Int32) × (Nat → Int32) × Int32 × (Nat → Valley_t) × Int32 × Int32 × (Nat → Int64)) (hF : f_L_removeBell x.1.1.1.1 x.1.1.1.2.1 x.1.1.1.2.2 x.1.1.2.1.1 x.1.1.2.1.2.1 x.1.1.2.1.2.2 x.1.1.2.2.1.1 x.1.1.2.2.1.2.1 x.1.1.2.2.1.2.2 x.1.1.2.2.2.1 x.1.1.2.2.2.2.1 x.1.1.2.2.2.2.2 x.1.2.2.1.1 x.1.2.2.1.2.1 x.1.2.2.1.2.2 y p2 = some res) (sz : Nat) (hlt : l.stackTraces = false) : CtI l yL_removeBell (mwsH yL_removeBell cL_removeBell 4 (some .int) [(0, 9, 12, 13)]) rm_L_removeBell 1 6 [.ref (a o), .int p2, .ref (ay oy)] E (bl_VB E a o x ++ bl_LongArr E ay oy y) res.1 (bl_VB E a o ((((res.2.1, res.2.2.1, res.2.2.2.1), (res.2.2.2.2.1, res.2.2.2.2.2.1, res.2.2.2.2.2.2.1), (res.2.2.2.2.2.2.2.1, res.2.2.2.2.2.2.2.2.1, res.2.2.2.2.2.2.2.2.2.1), (res.2.2.2.2.2.2.2.2.2.2.1, res.2.2.2.2.2.2.2.2.2.2.2.1, res.2.2.2.2.2.2.2.2.2.2.2.2.1)), x.1.2.1, (res.2.2.2.2.2.2.2.2.2.2.2.2.2.1, res.2.2.2.2.2.2.2.2.2.2.2.2.2.2.1, res.2.2.2.2.2.2.2.2.2.2.2.2.2.2.2.1), x.1.2.2.2.1, x.1.2.2.2.2), (x.2.1, x.2.2.1, x.2.2.2.1, x.2.2.2.2.1, x.2.2.2.2.2)) ++ bl_LongArr E ay oy res.2.2.2.2.2.2.2.2.2.2.2.2.2.2.2.2) sz := by
  refine mk_H (by decide +kernel) (Nat.le_of_ble_eq_true rfl) ?_
  intro p e s m below meth c A args Q ls hAe hsz hQ hx hb hr hml hin ha hown hlocks hA hz hzs hst htab hP hD hS hl
  have hown : s.vm.findClass RL = some m.cls := hown
  rw [hAe] at hQ
  subst hsz
  have hP : va_P E.1 vwCl (List.flatten [w_VBR a o x.2.2.2.1 x.2.2.2.2.1 x.2.2.2.2.2, w_ValleyR a (o + 1), w_Key E a (o + 2) x.1.1.1, w_Bells E a (o + 3) x.1.1.2.1, w_Mel E a (o + 6) x.1.1.2.2.1, w_Cliffs E a (o + 10) x.1.1.2.2.2, w_ValleyR a (o + 13), w_Key E a (o + 14) x.1.2.1.1, w_Bells E a (o + 15) x.1.2.1.2.1, w_Mel E a (o + 18) x.1.2.1.2.2.1, w_Cliffs E a (o + 22) x.1.2.1.2.2.2, w_Prog E a (o + 25) x.1.2.2.2.1, w_Chord E a (o + 31) x.1.2.2.2.2, w_Key E a (o + 34) x.2.1, w_Line E a (o + 35) x.2.2.1, w_Hist E a (o + 37) x.1.2.2.1, w_LongArr E ay oy y]) s.heap := hP
  have hD : va_D A (List.flatten [w_VBR a o x.2.2.2.1 x.2.2.2.2.1 x.2.2.2.2.2, w_ValleyR a (o + 1), w_Key E a (o + 2) x.1.1.1, w_Bells E a (o + 3) x.1.1.2.1, w_Mel E a (o + 6) x.1.1.2.2.1, w_Cliffs E a (o + 10) x.1.1.2.2.2, w_ValleyR a (o + 13), w_Key E a (o + 14) x.1.2.1.1, w_Bells E a (o + 15) x.1.2.1.2.1, w_Mel E a (o + 18) x.1.2.1.2.2.1, w_Cliffs E a (o + 22) x.1.2.1.2.2.2, w_Prog E a (o + 25) x.1.2.2.2.1, w_Chord E a (o + 31) x.1.2.2.2.2, w_Key E a (o + 34) x.2.1, w_Line E a (o + 35) x.2.2.1, w_Hist E a (o + 37) x.1.2.2.1, w_LongArr E ay oy y]) := hD
  have hl : lv_has ls 4 [(0, .ref (a o)), (1, .int p2), (2, .ref (ay oy))] := hl
  generalize hHe : s.heap = H at hP
  have hS : va_S A s.heap H [] := by rw [← hHe]; exact hS
  generalize ([] : List Loc) = locs at hS ⊢
  unfold f_L_removeBell at hF
  refine lv_aload_n hx hb dL_removeBell_0 rfl (lv_at hl 2 rfl) ?_
  refine lv_iconst (v := 0) hx hb dL_removeBell_1 (by decide) ?_
  refine lv_aload_n hx hb dL_removeBell_2 rfl (lv_at hl 0 rfl) ?_
  refine lv_iload_n hx hb dL_removeBell_3 rfl (lv_at hl 1 rfl) ?_
  obtain ⟨q1, hq1, hF⟩ := q_bdi hF
  refine cx_i (ro := q1.1) (Lc := [w_VBR a o x.2.2.2.1 x.2.2.2.2.1 x.2.2.2.2.2, w_ValleyR a (o + 1), w_Key E a (o + 2) x.1.1.1, w_Bells E a (o + 3) x.1.1.2.1, w_Mel E a (o + 6) x.1.1.2.2.1, w_Cliffs E a (o + 10) x.1.1.2.2.2, w_ValleyR a (o + 13), w_Key E a (o + 14) x.1.2.1.1, w_Bells E a (o + 15) x.1.2.1.2.1, w_Mel E a (o + 18) x.1.2.1.2.2.1, w_Cliffs E a (o + 22) x.1.2.1.2.2.2, w_Prog E a (o + 25) x.1.2.2.2.1, w_Chord E a (o + 31) x.1.2.2.2.2, w_Key E a (o + 34) x.2.1, w_Line E a (o + 35) x.2.2.1, w_Hist E a (o + 37) x.1.2.2.1]) (Lc' := [w_VBR a o x.2.2.2.1 x.2.2.2.2.1 x.2.2.2.2.2, w_ValleyR a (o + 1), w_Key E a (o + 2) (q1.2.1, q1.2.2.1, q1.2.2.2.1), w_Bells E a (o + 3) (q1.2.2.2.2.1, q1.2.2.2.2.2.1, q1.2.2.2.2.2.2.1), w_Mel E a (o + 6) (q1.2.2.2.2.2.2.2.1, q1.2.2.2.2.2.2.2.2.1, q1.2.2.2.2.2.2.2.2.2.1), w_Cliffs E a (o + 10) (q1.2.2.2.2.2.2.2.2.2.2.1, q1.2.2.2.2.2.2.2.2.2.2.2.1, q1.2.2.2.2.2.2.2.2.2.2.2.2.1), w_ValleyR a (o + 13), w_Key E a (o + 14) x.1.2.1.1, w_Bells E a (o + 15) x.1.2.1.2.1, w_Mel E a (o + 18) x.1.2.1.2.2.1, w_Cliffs E a (o + 22) x.1.2.1.2.2.2, w_Prog E a (o + 25) x.1.2.2.2.1, w_Chord E a (o + 31) x.1.2.2.2.2, w_Key E a (o + 34) x.2.1, w_Line E a (o + 35) x.2.2.1, w_Hist E a (o + 37) (q1.2.2.2.2.2.2.2.2.2.2.2.2.2.1, q1.2.2.2.2.2.2.2.2.2.2.2.2.2.2.1, q1.2.2.2.2.2.2.2.2.2.2.2.2.2.2.2)]) (L' := [w_VBR a o x.2.2.2.1 x.2.2.2.2.1 x.2.2.2.2.2, w_ValleyR a (o + 1), w_Key E a (o + 2) (q1.2.1, q1.2.2.1, q1.2.2.2.1), w_Bells E a (o + 3) (q1.2.2.2.2.1, q1.2.2.2.2.2.1, q1.2.2.2.2.2.2.1), w_Mel E a (o + 6) (q1.2.2.2.2.2.2.2.1, q1.2.2.2.2.2.2.2.2.1, q1.2.2.2.2.2.2.2.2.2.1), w_Cliffs E a (o + 10) (q1.2.2.2.2.2.2.2.2.2.2.1, q1.2.2.2.2.2.2.2.2.2.2.2.1, q1.2.2.2.2.2.2.2.2.2.2.2.2.1), w_ValleyR a (o + 13), w_Key E a (o + 14) x.1.2.1.1, w_Bells E a (o + 15) x.1.2.1.2.1, w_Mel E a (o + 18) x.1.2.1.2.2.1, w_Cliffs E a (o + 22) x.1.2.1.2.2.2, w_Prog E a (o + 25) x.1.2.2.2.1, w_Chord E a (o + 31) x.1.2.2.2.2, w_Key E a (o + 34) x.2.1, w_Line E a (o + 35) x.2.2.1, w_Hist E a (o + 37) (q1.2.2.2.2.2.2.2.2.2.2.2.2.2.1, q1.2.2.2.2.2.2.2.2.2.2.2.2.2.2.1, q1.2.2.2.2.2.2.2.2.2.2.2.2.2.2.2), w_LongArr E ay oy y]) (vx_runV (As := [.int p2]) (rest := [.int 0, .ref (ay oy)]) ⟨hx, hb, hml, hown, ha⟩ (k_X10_removeBell l E a o x p2 q1 hq1 H.size hlt) (cwV 1 ha (gi_V (fun _ h => h) mw1107 mw1108 mw1109 mw74 mw1110) rfl rfl rfl hv_X10_removeBell ⟨(Nat.le_of_ble_eq_true rfl), (Nat.le_of_ble_eq_true rfl)⟩) ⟨pre_blind, va_recv hst.k (fr_P hP [0, 1, 2, 3, 4, 5, 6, 7, 8, 9, 10, 11, 12, 13, 14, 15] rfl) (ci := 12) (q0 := 0) rfl rfl, pre_at hP hD hS hz hzs hst [0, 1, 2, 3, 4, 5, 6, 7, 8, 9, 10, 11, 12, 13, 14, 15] (by decide) rfl rfl⟩ rfl rfl hl.1 rfl (lv_room (Nat.le_of_ble_eq_true rfl)) dL_removeBell_4 ⟨(Nat.le_of_ble_eq_true rfl), (Nat.le_of_ble_eq_true rfl)⟩) hP hD hS hA [0, 1, 2, 3, 4, 5, 6, 7, 8, 9, 10, 11, 12, 13, 14, 15] (by decide) rfl rfl rfl rfl (fun X ce q9 H locs eX h1 h2 h3 hP hD hS => ?_) (fun r2 H locs er2 hP hD hS => ?_)
  · have hF := q_smr eX hF
    by_cases w4_0 : X = "java/lang/IndexOutOfBoundsException"
    · have hF := q_brp w4_0 hF
      subst w4_0
      refine vx_catch (E := "java/lang/IndexOutOfBoundsException") (name := "java/lang/IndexOutOfBoundsException") hown [] ⟨0, 9, 12, 13⟩ [] htab (fun _ h => nomatch h) (by decide) (by decide) (ha _ mw960) (va_Nw.use rfl (hst.cs cs_IndexOutOfBoundsException)) h1 h2 h3 ?_
      refine lv_astore_n (lv' := [(3, .ref q9), (0, .ref (a o)), (1, .int p2), (2, .ref (ay oy))]) hx hb dL_removeBell_12 rfl hl (by decide) rfl (fun ls hl => ?_)
      refine lv_iconst (v := 1) hx hb dL_removeBell_13 (by decide) ?_
      obtain rfl := Option.some.inj hF
      exact en_i hQ (Nat.le_of_ble_eq_true rfl) (Nat.le_of_ble_eq_true rfl) hx hb hr hlocks hP hD hS rfl dL_removeBell_14
    have hF := q_brn w4_0 hF
    exact absurd hF (by simp)
  have hF := q_sml er2 hF
  refine lv_i2l hx hb dL_removeBell_7 rfl ?_
  refine vi_last hx hb hst.k hP hD hS 147 3 rfl rfl (f := y) (k := 0) (by decide) (by decide) dL_removeBell_8 (fun H locs hP hD hS => ?_)
  have hP : va_P E.1 vwCl (List.flatten [w_VBR a o x.2.2.2.1 x.2.2.2.2.1 x.2.2.2.2.2, w_ValleyR a (o + 1), w_Key E a (o + 2) (q1.2.1, q1.2.2.1, q1.2.2.2.1), w_Bells E a (o + 3) (q1.2.2.2.2.1, q1.2.2.2.2.2.1, q1.2.2.2.2.2.2.1), w_Mel E a (o + 6) (q1.2.2.2.2.2.2.2.1, q1.2.2.2.2.2.2.2.2.1, q1.2.2.2.2.2.2.2.2.2.1), w_Cliffs E a (o + 10) (q1.2.2.2.2.2.2.2.2.2.2.1, q1.2.2.2.2.2.2.2.2.2.2.2.1, q1.2.2.2.2.2.2.2.2.2.2.2.2.1), w_ValleyR a (o + 13), w_Key E a (o + 14) x.1.2.1.1, w_Bells E a (o + 15) x.1.2.1.2.1, w_Mel E a (o + 18) x.1.2.1.2.2.1, w_Cliffs E a (o + 22) x.1.2.1.2.2.2, w_Prog E a (o + 25) x.1.2.2.2.1, w_Chord E a (o + 31) x.1.2.2.2.2, w_Key E a (o + 34) x.2.1, w_Line E a (o + 35) x.2.2.1, w_Hist E a (o + 37) (q1.2.2.2.2.2.2.2.2.2.2.2.2.2.1, q1.2.2.2.2.2.2.2.2.2.2.2.2.2.2.1, q1.2.2.2.2.2.2.2.2.2.2.2.2.2.2.2), w_LongArr E ay oy (vp_updL y 0 (r2.toInt64))]) H := hP
  have hD : va_D A (List.flatten [w_VBR a o x.2.2.2.1 x.2.2.2.2.1 x.2.2.2.2.2, w_ValleyR a (o + 1), w_Key E a (o + 2) (q1.2.1, q1.2.2.1, q1.2.2.2.1), w_Bells E a (o + 3) (q1.2.2.2.2.1, q1.2.2.2.2.2.1, q1.2.2.2.2.2.2.1), w_Mel E a (o + 6) (q1.2.2.2.2.2.2.2.1, q1.2.2.2.2.2.2.2.2.1, q1.2.2.2.2.2.2.2.2.2.1), w_Cliffs E a (o + 10) (q1.2.2.2.2.2.2.2.2.2.2.1, q1.2.2.2.2.2.2.2.2.2.2.2.1, q1.2.2.2.2.2.2.2.2.2.2.2.2.1), w_ValleyR a (o + 13), w_Key E a (o + 14) x.1.2.1.1, w_Bells E a (o + 15) x.1.2.1.2.1, w_Mel E a (o + 18) x.1.2.1.2.2.1, w_Cliffs E a (o + 22) x.1.2.1.2.2.2, w_Prog E a (o + 25) x.1.2.2.2.1, w_Chord E a (o + 31) x.1.2.2.2.2, w_Key E a (o + 34) x.2.1, w_Line E a (o + 35) x.2.2.1, w_Hist E a (o + 37) (q1.2.2.2.2.2.2.2.2.2.2.2.2.2.1, q1.2.2.2.2.2.2.2.2.2.2.2.2.2.2.1, q1.2.2.2.2.2.2.2.2.2.2.2.2.2.2.2), w_LongArr E ay oy (vp_updL y 0 (r2.toInt64))]) := hD
  refine lv_goto (tgt := 15) hx hb dL_removeBell_9 (by decide) ?_
  refine lv_iconst (v := 0) hx hb dL_removeBell_15 (by decide) ?_
  obtain rfl := Option.some.inj hF
  exact en_i hQ (Nat.le_of_ble_eq_true rfl) (Nat.le_of_ble_eq_true rfl) hx hb hr hlocks hP hD hS rfl dL_removeBell_16

/-! L_tune -/
theorem dL_tune_0 : decode cL_tune 0 = .ok (.aload_n 3, 1) := by decide +kernel
theorem dL_tune_1 : decode cL_tune 1 = .ok (.iconst 0, 1) := by decide +kernel
theorem dL_tune_2 : decode cL_tune 2 = .ok (.aload_n 0, 1) := by decide +kernel
theorem dL_tune_3 : decode cL_tune 3 = .ok (.iload_n 1, 1) := by decide +kernel
theorem dL_tune_4 : decode cL_tune 4 = .ok (.iload_n 2, 1) := by decide +kernel
theorem dL_tune_5 : decode cL_tune 5 = .ok (.invokevirtual 23, 3) := by decide +kernel
theorem dL_tune_8 : decode cL_tune 8 = .ok (.i2l, 1) := by decide +kernel
theorem dL_tune_9 : decode cL_tune 9 = .ok (.lastore, 1) := by decide +kernel
theorem dL_tune_10 : decode cL_tune 10 = .ok (.goto 15, 3) := by decide +kernel
theorem dL_tune_13 : decode cL_tune 13 = .ok (.astore 4, 2) := by decide +kernel
theorem dL_tune_15 : decode cL_tune 15 = .ok (.iconst 1, 1) := by decide +kernel
theorem dL_tune_16 : decode cL_tune 16 = .ok (.ireturn, 1) := by decide +kernel
theorem dL_tune_17 : decode cL_tune 17 = .ok (.astore 4, 2) := by decide +kernel
theorem dL_tune_19 : decode cL_tune 19 = .ok (.iconst 2, 1) := by decide +kernel
theorem dL_tune_20 : decode cL_tune 20 = .ok (.ireturn, 1) := by decide +kernel
theorem dL_tune_21 : decode cL_tune 21 = .ok (.astore 4, 2) := by decide +kernel
theorem dL_tune_23 : decode cL_tune 23 = .ok (.iconst 3, 1) := by decide +kernel
theorem dL_tune_24 : decode cL_tune 24 = .ok (.ireturn, 1) := by decide +kernel
theorem dL_tune_25 : decode cL_tune 25 = .ok (.iconst 0, 1) := by decide +kernel
theorem dL_tune_26 : decode cL_tune 26 = .ok (.ireturn, 1) := by decide +kernel
def f_L_tune (x_valley_key_tonic : Int32) (x_valley_key_isMinor : Int32) (x_valley_key_tolerance : Int32) (x_valley_bells_herds : (Nat → Int32)) (x_valley_bells_pitches : (Nat → Int32)) (x_valley_bells_count : Int32) (x_valley_melodies_lengths : (Nat → Int32)) (x_valley_melodies_entries : (Nat → Int32)) (x_valley_melodies_tones : (Nat → Int32)) (x_valley_cliffs_delays : (Nat → Int32)) (x_valley_cliffs_transpositions : (Nat → Int32)) (x_valley_cliffs_count : Int32) (x_history_slots : (Nat → Valley_t)) (x_history_current : Int32) (x_history_count : Int32) (y_v : (Nat → Int64)) (p2 : Int32) (p3 : Int32) : Option (Int32 × Int32 × Int32 × Int32 × (Nat → Int32) × (Nat → Int32) × Int32 × (Nat → Int32) × (Nat → Int32) × (Nat → Int32) × (Nat → Int32) × (Nat → Int32) × Int32 × (Nat → Valley_t) × Int32 × Int32 × (Nat → Int64)) :=
  q_bd (f_X10_tune x_valley_key_tonic x_valley_key_isMinor x_valley_key_tolerance x_valley_bells_herds x_valley_bells_pitches x_valley_bells_count x_valley_melodies_lengths x_valley_melodies_entries x_valley_melodies_tones x_valley_cliffs_delays x_valley_cliffs_transpositions x_valley_cliffs_count x_history_slots x_history_current x_history_count p2 p3) (fun q1 =>
  q_sm q1.1 (fun X => q_br (X = "java/lang/IndexOutOfBoundsException") (
  some (1, q1.2.1, q1.2.2.1, q1.2.2.2.1, q1.2.2.2.2.1, q1.2.2.2.2.2.1, q1.2.2.2.2.2.2.1, q1.2.2.2.2.2.2.2.1, q1.2.2.2.2.2.2.2.2.1, q1.2.2.2.2.2.2.2.2.2.1, q1.2.2.2.2.2.2.2.2.2.2.1, q1.2.2.2.2.2.2.2.2.2.2.2.1, q1.2.2.2.2.2.2.2.2.2.2.2.2.1, q1.2.2.2.2.2.2.2.2.2.2.2.2.2.1, q1.2.2.2.2.2.2.2.2.2.2.2.2.2.2.1, q1.2.2.2.2.2.2.2.2.2.2.2.2.2.2.2, y_v)) (
  q_br (X = "java/lang/IllegalArgumentException") (
  some (2, q1.2.1, q1.2.2.1, q1.2.2.2.1, q1.2.2.2.2.1, q1.2.2.2.2.2.1, q1.2.2.2.2.2.2.1, q1.2.2.2.2.2.2.2.1, q1.2.2.2.2.2.2.2.2.1, q1.2.2.2.2.2.2.2.2.2.1, q1.2.2.2.2.2.2.2.2.2.2.1, q1.2.2.2.2.2.2.2.2.2.2.2.1, q1.2.2.2.2.2.2.2.2.2.2.2.2.1, q1.2.2.2.2.2.2.2.2.2.2.2.2.2.1, q1.2.2.2.2.2.2.2.2.2.2.2.2.2.2.1, q1.2.2.2.2.2.2.2.2.2.2.2.2.2.2.2, y_v)) (
  q_br (X = "java/lang/IllegalStateException") (
  some (3, q1.2.1, q1.2.2.1, q1.2.2.2.1, q1.2.2.2.2.1, q1.2.2.2.2.2.1, q1.2.2.2.2.2.2.1, q1.2.2.2.2.2.2.2.1, q1.2.2.2.2.2.2.2.2.1, q1.2.2.2.2.2.2.2.2.2.1, q1.2.2.2.2.2.2.2.2.2.2.1, q1.2.2.2.2.2.2.2.2.2.2.2.1, q1.2.2.2.2.2.2.2.2.2.2.2.2.1, q1.2.2.2.2.2.2.2.2.2.2.2.2.2.1, q1.2.2.2.2.2.2.2.2.2.2.2.2.2.2.1, q1.2.2.2.2.2.2.2.2.2.2.2.2.2.2.2, y_v)) (
  none)))) (fun r2 =>
  some (0, q1.2.1, q1.2.2.1, q1.2.2.2.1, q1.2.2.2.2.1, q1.2.2.2.2.2.1, q1.2.2.2.2.2.2.1, q1.2.2.2.2.2.2.2.1, q1.2.2.2.2.2.2.2.2.1, q1.2.2.2.2.2.2.2.2.2.1, q1.2.2.2.2.2.2.2.2.2.2.1, q1.2.2.2.2.2.2.2.2.2.2.2.1, q1.2.2.2.2.2.2.2.2.2.2.2.2.1, q1.2.2.2.2.2.2.2.2.2.2.2.2.2.1, q1.2.2.2.2.2.2.2.2.2.2.2.2.2.2.1, q1.2.2.2.2.2.2.2.2.2.2.2.2.2.2.2, vp_updL y_v 0 (r2.toInt64))))
theorem hv_L_tune : yL_tune.cls = RL ∧ yL_tune.cls ≠ "java/lang/invoke/MethodHandle" ∧ yL_tune.cls ≠ "java/lang/invoke/VarHandle" ∧ (parseMethodDescriptor yL_tune.desc).map (fun d => d.parameters.length) = some 4 := by decide +kernel
abbrev rm_L_tune : Room := { frames := 8, cells := 1, slots := 6, locals := 180 }
set_option maxHeartbeats 4000000 in
set_option maxRecDepth 100000 in
theorem k_L_tune (l : Launch) (E : ET) (a : Nat → Nat) (o : Nat) (x : VB_t) (ay : Nat → Nat) (oy : Nat) (y : (Nat → Int64)) (p2 : Int32) (p3 : Int32) (res : Int32 × Int32 × Int32 × Int32 × (Nat → Int32) × (Nat → Int32) × Int32 × (Nat → Int32) × (Nat → Int32) × (Nat → Int32) × (Nat → Int32) × (Nat → Int32) × Int32 × (Nat → Valley_t) × Int32 × Int32 × (Nat → Int64)) (hF : f_L_tune x.1.1.1.1 x.1.1.1.2.1 x.1.1.1.2.2 x.1.1.2.1.1 x.1.1.2.1.2.1 x.1.1.2.1.2.2 x.1.1.2.2.1.1 x.1.1.2.2.1.2.1 x.1.1.2.2.1.2.2 x.1.1.2.2.2.1 x.1.1.2.2.2.2.1 x.1.1.2.2.2.2.2 x.1.2.2.1.1 x.1.2.2.1.2.1 x.1.2.2.1.2.2 y p2 p3 = some res) (sz : Nat) (hlt : l.stackTraces = false) : CtI l yL_tune (mwsH yL_tune cL_tune 5 (some .int) [(0, 10, 13, 13), (0, 10, 17, 15), (0, 10, 21, 17)]) rm_L_tune 1 6 [.ref (a o), .int p2, .int p3, .ref (ay oy)] E (bl_VB E a o x ++ bl_LongArr E ay oy y) res.1 (bl_VB E a o ((((res.2.1, res.2.2.1, res.2.2.2.1), (res.2.2.2.2.1, res.2.2.2.2.2.1, res.2.2.2.2.2.2.1), (res.2.2.2.2.2.2.2.1, res.2.2.2.2.2.2.2.2.1, res.2.2.2.2.2.2.2.2.2.1), (res.2.2.2.2.2.2.2.2.2.2.1, res.2.2.2.2.2.2.2.2.2.2.2.1, res.2.2.2.2.2.2.2.2.2.2.2.2.1)), x.1.2.1, (res.2.2.2.2.2.2.2.2.2.2.2.2.2.1, res.2.2.2.2.2.2.2.2.2.2.2.2.2.2.1, res.2.2.2.2.2.2.2.2.2.2.2.2.2.2.2.1), x.1.2.2.2.1, x.1.2.2.2.2), (x.2.1, x.2.2.1, x.2.2.2.1, x.2.2.2.2.1, x.2.2.2.2.2)) ++ bl_LongArr E ay oy res.2.2.2.2.2.2.2.2.2.2.2.2.2.2.2.2) sz := by
  refine mk_H (by decide +kernel) (Nat.le_of_ble_eq_true rfl) ?_
  intro p e s m below meth c A args Q ls hAe hsz hQ hx hb hr hml hin ha hown hlocks hA hz hzs hst htab hP hD hS hl
  have hown : s.vm.findClass RL = some m.cls := hown
  rw [hAe] at hQ
  subst hsz
  have hP : va_P E.1 vwCl (List.flatten [w_VBR a o x.2.2.2.1 x.2.2.2.2.1 x.2.2.2.2.2, w_ValleyR a (o + 1), w_Key E a (o + 2) x.1.1.1, w_Bells E a (o + 3) x.1.1.2.1, w_Mel E a (o + 6) x.1.1.2.2.1, w_Cliffs E a (o + 10) x.1.1.2.2.2, w_ValleyR a (o + 13), w_Key E a (o + 14) x.1.2.1.1, w_Bells E a (o + 15) x.1.2.1.2.1, w_Mel E a (o + 18) x.1.2.1.2.2.1, w_Cliffs E a (o + 22) x.1.2.1.2.2.2, w_Prog E a (o + 25) x.1.2.2.2.1, w_Chord E a (o + 31) x.1.2.2.2.2, w_Key E a (o + 34) x.2.1, w_Line E a (o + 35) x.2.2.1, w_Hist E a (o + 37) x.1.2.2.1, w_LongArr E ay oy y]) s.heap := hP
  have hD : va_D A (List.flatten [w_VBR a o x.2.2.2.1 x.2.2.2.2.1 x.2.2.2.2.2, w_ValleyR a (o + 1), w_Key E a (o + 2) x.1.1.1, w_Bells E a (o + 3) x.1.1.2.1, w_Mel E a (o + 6) x.1.1.2.2.1, w_Cliffs E a (o + 10) x.1.1.2.2.2, w_ValleyR a (o + 13), w_Key E a (o + 14) x.1.2.1.1, w_Bells E a (o + 15) x.1.2.1.2.1, w_Mel E a (o + 18) x.1.2.1.2.2.1, w_Cliffs E a (o + 22) x.1.2.1.2.2.2, w_Prog E a (o + 25) x.1.2.2.2.1, w_Chord E a (o + 31) x.1.2.2.2.2, w_Key E a (o + 34) x.2.1, w_Line E a (o + 35) x.2.2.1, w_Hist E a (o + 37) x.1.2.2.1, w_LongArr E ay oy y]) := hD
  have hl : lv_has ls 5 [(0, .ref (a o)), (1, .int p2), (2, .int p3), (3, .ref (ay oy))] := hl
  generalize hHe : s.heap = H at hP
  have hS : va_S A s.heap H [] := by rw [← hHe]; exact hS
  generalize ([] : List Loc) = locs at hS ⊢
  unfold f_L_tune at hF
  refine lv_aload_n hx hb dL_tune_0 rfl (lv_at hl 3 rfl) ?_
  refine lv_iconst (v := 0) hx hb dL_tune_1 (by decide) ?_
  refine lv_aload_n hx hb dL_tune_2 rfl (lv_at hl 0 rfl) ?_
  refine lv_iload_n hx hb dL_tune_3 rfl (lv_at hl 1 rfl) ?_
  refine lv_iload_n hx hb dL_tune_4 rfl (lv_at hl 2 rfl) ?_
  obtain ⟨q1, hq1, hF⟩ := q_bdi hF
  refine cx_i (ro := q1.1) (Lc := [w_VBR a o x.2.2.2.1 x.2.2.2.2.1 x.2.2.2.2.2, w_ValleyR a (o + 1), w_Key E a (o + 2) x.1.1.1, w_Bells E a (o + 3) x.1.1.2.1, w_Mel E a (o + 6) x.1.1.2.2.1, w_Cliffs E a (o + 10) x.1.1.2.2.2, w_ValleyR a (o + 13), w_Key E a (o + 14) x.1.2.1.1, w_Bells E a (o + 15) x.1.2.1.2.1, w_Mel E a (o + 18) x.1.2.1.2.2.1, w_Cliffs E a (o + 22) x.1.2.1.2.2.2, w_Prog E a (o + 25) x.1.2.2.2.1, w_Chord E a (o + 31) x.1.2.2.2.2, w_Key E a (o + 34) x.2.1, w_Line E a (o + 35) x.2.2.1, w_Hist E a (o + 37) x.1.2.2.1]) (Lc' := [w_VBR a o x.2.2.2.1 x.2.2.2.2.1 x.2.2.2.2.2, w_ValleyR a (o + 1), w_Key E a (o + 2) (q1.2.1, q1.2.2.1, q1.2.2.2.1), w_Bells E a (o + 3) (q1.2.2.2.2.1, q1.2.2.2.2.2.1, q1.2.2.2.2.2.2.1), w_Mel E a (o + 6) (q1.2.2.2.2.2.2.2.1, q1.2.2.2.2.2.2.2.2.1, q1.2.2.2.2.2.2.2.2.2.1), w_Cliffs E a (o + 10) (q1.2.2.2.2.2.2.2.2.2.2.1, q1.2.2.2.2.2.2.2.2.2.2.2.1, q1.2.2.2.2.2.2.2.2.2.2.2.2.1), w_ValleyR a (o + 13), w_Key E a (o + 14) x.1.2.1.1, w_Bells E a (o + 15) x.1.2.1.2.1, w_Mel E a (o + 18) x.1.2.1.2.2.1, w_Cliffs E a (o + 22) x.1.2.1.2.2.2, w_Prog E a (o + 25) x.1.2.2.2.1, w_Chord E a (o + 31) x.1.2.2.2.2, w_Key E a (o + 34) x.2.1, w_Line E a (o + 35) x.2.2.1, w_Hist E a (o + 37) (q1.2.2.2.2.2.2.2.2.2.2.2.2.2.1, q1.2.2.2.2.2.2.2.2.2.2.2.2.2.2.1, q1.2.2.2.2.2.2.2.2.2.2.2.2.2.2.2)]) (L' := [w_VBR a o x.2.2.2.1 x.2.2.2.2.1 x.2.2.2.2.2, w_ValleyR a (o + 1), w_Key E a (o + 2) (q1.2.1, q1.2.2.1, q1.2.2.2.1), w_Bells E a (o + 3) (q1.2.2.2.2.1, q1.2.2.2.2.2.1, q1.2.2.2.2.2.2.1), w_Mel E a (o + 6) (q1.2.2.2.2.2.2.2.1, q1.2.2.2.2.2.2.2.2.1, q1.2.2.2.2.2.2.2.2.2.1), w_Cliffs E a (o + 10) (q1.2.2.2.2.2.2.2.2.2.2.1, q1.2.2.2.2.2.2.2.2.2.2.2.1, q1.2.2.2.2.2.2.2.2.2.2.2.2.1), w_ValleyR a (o + 13), w_Key E a (o + 14) x.1.2.1.1, w_Bells E a (o + 15) x.1.2.1.2.1, w_Mel E a (o + 18) x.1.2.1.2.2.1, w_Cliffs E a (o + 22) x.1.2.1.2.2.2, w_Prog E a (o + 25) x.1.2.2.2.1, w_Chord E a (o + 31) x.1.2.2.2.2, w_Key E a (o + 34) x.2.1, w_Line E a (o + 35) x.2.2.1, w_Hist E a (o + 37) (q1.2.2.2.2.2.2.2.2.2.2.2.2.2.1, q1.2.2.2.2.2.2.2.2.2.2.2.2.2.2.1, q1.2.2.2.2.2.2.2.2.2.2.2.2.2.2.2), w_LongArr E ay oy y]) (vx_runV (As := [.int p2, .int p3]) (rest := [.int 0, .ref (ay oy)]) ⟨hx, hb, hml, hown, ha⟩ (k_X10_tune l E a o x p2 p3 q1 hq1 H.size hlt) (cwV 2 ha (gi_V (fun _ h => h) mw1116 mw1117 mw1118 mw74 mw1119) rfl rfl rfl hv_X10_tune ⟨(Nat.le_of_ble_eq_true rfl), (Nat.le_of_ble_eq_true rfl)⟩) ⟨pre_blind, va_recv hst.k (fr_P hP [0, 1, 2, 3, 4, 5, 6, 7, 8, 9, 10, 11, 12, 13, 14, 15] rfl) (ci := 12) (q0 := 0) rfl rfl, pre_at hP hD hS hz hzs hst [0, 1, 2, 3, 4, 5, 6, 7, 8, 9, 10, 11, 12, 13, 14, 15] (by decide) rfl rfl⟩ rfl rfl hl.1 rfl (lv_room (Nat.le_of_ble_eq_true rfl)) dL_tune_5 ⟨(Nat.le_of_ble_eq_true rfl), (Nat.le_of_ble_eq_true rfl)⟩) hP hD hS hA [0, 1, 2, 3, 4, 5, 6, 7, 8, 9, 10, 11, 12, 13, 14, 15] (by decide) rfl rfl rfl rfl (fun X ce q9 H locs eX h1 h2 h3 hP hD hS => ?_) (fun r2 H locs er2 hP hD hS => ?_)
  · have hF := q_smr eX hF
    by_cases w5_0 : X = "java/lang/IndexOutOfBoundsException"
    · have hF := q_brp w5_0 hF
      subst w5_0
      refine vx_catch (E := "java/lang/IndexOutOfBoundsException") (name := "java/lang/IndexOutOfBoundsException") hown [] ⟨0, 10, 13, 13⟩ [⟨0, 10, 17, 15⟩, ⟨0, 10, 21, 17⟩] htab (fun _ h => nomatch h) (by decide) (by decide) (ha _ mw960) (va_Nw.use rfl (hst.cs cs_IndexOutOfBoundsException)) h1 h2 h3 ?_
      refine lv_astore (lv' := [(4, .ref q9), (0, .ref (a o)), (1, .int p2), (2, .int p3), (3, .ref (ay oy))]) hx hb dL_tune_13 hl (by decide) rfl (fun ls hl => ?_)
      refine lv_iconst (v := 1) hx hb dL_tune_15 (by decide) ?_
      obtain rfl := Option.some.inj hF
      exact en_i hQ (Nat.le_of_ble_eq_true rfl) (Nat.le_of_ble_eq_true rfl) hx hb hr hlocks hP hD hS rfl dL_tune_16
    have hF := q_brn w5_0 hF
    by_cases w5_1 : X = "java/lang/IllegalArgumentException"
    · have hF := q_brp w5_1 hF
      subst w5_1
      refine vx_catch (E := "java/lang/IllegalArgumentException") (name := "java/lang/IllegalArgumentException") hown [⟨0, 10, 13, 13⟩] ⟨0, 10, 17, 15⟩ [⟨0, 10, 21, 17⟩] htab (List.forall_mem_cons.mpr ⟨Or.inr ⟨by decide, "java/lang/IndexOutOfBoundsException", ha _ mw960, hst.nc (q := ("java/lang/IllegalArgumentException", "java/lang/IndexOutOfBoundsException")) (List.mem_of_getElem? (i := 5) rfl)⟩, (fun _ h => nomatch h)⟩) (by decide) (by decide) (ha _ mw963) (va_Nw.use rfl (hst.cs cs_IllegalArgumentException)) h1 h2 h3 ?_
      refine lv_astore (lv' := [(4, .ref q9), (0, .ref (a o)), (1, .int p2), (2, .int p3), (3, .ref (ay oy))]) hx hb dL_tune_17 hl (by decide) rfl (fun ls hl => ?_)
      refine lv_iconst (v := 2) hx hb dL_tune_19 (by decide) ?_
      obtain rfl := Option.some.inj hF
      exact en_i hQ (Nat.le_of_ble_eq_true rfl) (Nat.le_of_ble_eq_true rfl) hx hb hr hlocks hP hD hS rfl dL_tune_20
    have hF := q_brn w5_1 hF
    by_cases w5_2 : X = "java/lang/IllegalStateException"
    · have hF := q_brp w5_2 hF
      subst w5_2
      refine vx_catch (E := "java/lang/IllegalStateException") (name := "java/lang/IllegalStateException") hown [⟨0, 10, 13, 13⟩, ⟨0, 10, 17, 15⟩] ⟨0, 10, 21, 17⟩ [] htab (List.forall_mem_cons.mpr ⟨Or.inr ⟨by decide, "java/lang/IndexOutOfBoundsException", ha _ mw960, hst.nc (q := ("java/lang/IllegalStateException", "java/lang/IndexOutOfBoundsException")) (List.mem_of_getElem? (i := 10) rfl)⟩, (List.forall_mem_cons.mpr ⟨Or.inr ⟨by decide, "java/lang/IllegalArgumentException", ha _ mw963, hst.nc (q := ("java/lang/IllegalStateException", "java/lang/IllegalArgumentException")) (List.mem_of_getElem? (i := 11) rfl)⟩, (fun _ h => nomatch h)⟩)⟩) (by decide) (by decide) (ha _ mw964) (va_Nw.use rfl (hst.cs cs_IllegalStateException)) h1 h2 h3 ?_
      refine lv_astore (lv' := [(4, .ref q9), (0, .ref (a o)), (1, .int p2), (2, .int p3), (3, .ref (ay oy))]) hx hb dL_tune_21 hl (by decide) rfl (fun ls hl => ?_)
      refine lv_iconst (v := 3) hx hb dL_tune_23 (by decide) ?_
      obtain rfl := Option.some.inj hF
      exact en_i hQ (Nat.le_of_ble_eq_true rfl) (Nat.le_of_ble_eq_true rfl) hx hb hr hlocks hP hD hS rfl dL_tune_24
    have hF := q_brn w5_2 hF
    exact absurd hF (by simp)
  have hF := q_sml er2 hF
  refine lv_i2l hx hb dL_tune_8 rfl ?_
  refine vi_last hx hb hst.k hP hD hS 147 3 rfl rfl (f := y) (k := 0) (by decide) (by decide) dL_tune_9 (fun H locs hP hD hS => ?_)
  have hP : va_P E.1 vwCl (List.flatten [w_VBR a o x.2.2.2.1 x.2.2.2.2.1 x.2.2.2.2.2, w_ValleyR a (o + 1), w_Key E a (o + 2) (q1.2.1, q1.2.2.1, q1.2.2.2.1), w_Bells E a (o + 3) (q1.2.2.2.2.1, q1.2.2.2.2.2.1, q1.2.2.2.2.2.2.1), w_Mel E a (o + 6) (q1.2.2.2.2.2.2.2.1, q1.2.2.2.2.2.2.2.2.1, q1.2.2.2.2.2.2.2.2.2.1), w_Cliffs E a (o + 10) (q1.2.2.2.2.2.2.2.2.2.2.1, q1.2.2.2.2.2.2.2.2.2.2.2.1, q1.2.2.2.2.2.2.2.2.2.2.2.2.1), w_ValleyR a (o + 13), w_Key E a (o + 14) x.1.2.1.1, w_Bells E a (o + 15) x.1.2.1.2.1, w_Mel E a (o + 18) x.1.2.1.2.2.1, w_Cliffs E a (o + 22) x.1.2.1.2.2.2, w_Prog E a (o + 25) x.1.2.2.2.1, w_Chord E a (o + 31) x.1.2.2.2.2, w_Key E a (o + 34) x.2.1, w_Line E a (o + 35) x.2.2.1, w_Hist E a (o + 37) (q1.2.2.2.2.2.2.2.2.2.2.2.2.2.1, q1.2.2.2.2.2.2.2.2.2.2.2.2.2.2.1, q1.2.2.2.2.2.2.2.2.2.2.2.2.2.2.2), w_LongArr E ay oy (vp_updL y 0 (r2.toInt64))]) H := hP
  have hD : va_D A (List.flatten [w_VBR a o x.2.2.2.1 x.2.2.2.2.1 x.2.2.2.2.2, w_ValleyR a (o + 1), w_Key E a (o + 2) (q1.2.1, q1.2.2.1, q1.2.2.2.1), w_Bells E a (o + 3) (q1.2.2.2.2.1, q1.2.2.2.2.2.1, q1.2.2.2.2.2.2.1), w_Mel E a (o + 6) (q1.2.2.2.2.2.2.2.1, q1.2.2.2.2.2.2.2.2.1, q1.2.2.2.2.2.2.2.2.2.1), w_Cliffs E a (o + 10) (q1.2.2.2.2.2.2.2.2.2.2.1, q1.2.2.2.2.2.2.2.2.2.2.2.1, q1.2.2.2.2.2.2.2.2.2.2.2.2.1), w_ValleyR a (o + 13), w_Key E a (o + 14) x.1.2.1.1, w_Bells E a (o + 15) x.1.2.1.2.1, w_Mel E a (o + 18) x.1.2.1.2.2.1, w_Cliffs E a (o + 22) x.1.2.1.2.2.2, w_Prog E a (o + 25) x.1.2.2.2.1, w_Chord E a (o + 31) x.1.2.2.2.2, w_Key E a (o + 34) x.2.1, w_Line E a (o + 35) x.2.2.1, w_Hist E a (o + 37) (q1.2.2.2.2.2.2.2.2.2.2.2.2.2.1, q1.2.2.2.2.2.2.2.2.2.2.2.2.2.2.1, q1.2.2.2.2.2.2.2.2.2.2.2.2.2.2.2), w_LongArr E ay oy (vp_updL y 0 (r2.toInt64))]) := hD
  refine lv_goto (tgt := 25) hx hb dL_tune_10 (by decide) ?_
  refine lv_iconst (v := 0) hx hb dL_tune_25 (by decide) ?_
  obtain rfl := Option.some.inj hF
  exact en_i hQ (Nat.le_of_ble_eq_true rfl) (Nat.le_of_ble_eq_true rfl) hx hb hr hlocks hP hD hS rfl dL_tune_26

/-! L_moveBell -/
theorem dL_moveBell_0 : decode cL_moveBell 0 = .ok (.aload_n 3, 1) := by decide +kernel
theorem dL_moveBell_1 : decode cL_moveBell 1 = .ok (.iconst 0, 1) := by decide +kernel
theorem dL_moveBell_2 : decode cL_moveBell 2 = .ok (.aload_n 0, 1) := by decide +kernel
theorem dL_moveBell_3 : decode cL_moveBell 3 = .ok (.iload_n 1, 1) := by decide +kernel
theorem dL_moveBell_4 : decode cL_moveBell 4 = .ok (.iload_n 2, 1) := by decide +kernel
theorem dL_moveBell_5 : decode cL_moveBell 5 = .ok (.invokevirtual 26, 3) := by decide +kernel
theorem dL_moveBell_8 : decode cL_moveBell 8 = .ok (.i2l, 1) := by decide +kernel
theorem dL_moveBell_9 : decode cL_moveBell 9 = .ok (.lastore, 1) := by decide +kernel
theorem dL_moveBell_10 : decode cL_moveBell 10 = .ok (.goto 7, 3) := by decide +kernel
theorem dL_moveBell_13 : decode cL_moveBell 13 = .ok (.astore 4, 2) := by decide +kernel
theorem dL_moveBell_15 : decode cL_moveBell 15 = .ok (.iconst 1, 1) := by decide +kernel
theorem dL_moveBell_16 : decode cL_moveBell 16 = .ok (.ireturn, 1) := by decide +kernel
theorem dL_moveBell_17 : decode cL_moveBell 17 = .ok (.iconst 0, 1) := by decide +kernel
theorem dL_moveBell_18 : decode cL_moveBell 18 = .ok (.ireturn, 1) := by decide +kernel
def f_L_moveBell (x_valley_key_tonic : Int32) (x_valley_key_isMinor : Int32) (x_valley_key_tolerance : Int32) (x_valley_bells_herds : (Nat → Int32)) (x_valley_bells_pitches : (Nat → Int32)) (x_valley_bells_count : Int32) (x_valley_melodies_lengths : (Nat → Int32)) (x_valley_melodies_entries : (Nat → Int32)) (x_valley_melodies_tones : (Nat → Int32)) (x_valley_cliffs_delays : (Nat → Int32)) (x_valley_cliffs_transpositions : (Nat → Int32)) (x_valley_cliffs_count : Int32) (x_history_slots : (Nat → Valley_t)) (x_history_current : Int32) (x_history_count : Int32) (y_v : (Nat → Int64)) (p2 : Int32) (p3 : Int32) : Option (Int32 × Int32 × Int32 × Int32 × (Nat → Int32) × (Nat → Int32) × Int32 × (Nat → Int32) × (Nat → Int32) × (Nat → Int32) × (Nat → Int32) × (Nat → Int32) × Int32 × (Nat → Valley_t) × Int32 × Int32 × (Nat → Int64)) :=
  q_bd (f_X10_moveBell x_valley_key_tonic x_valley_key_isMinor x_valley_key_tolerance x_valley_bells_herds x_valley_bells_pitches x_valley_bells_count x_valley_melodies_lengths x_valley_melodies_entries x_valley_melodies_tones x_valley_cliffs_delays x_valley_cliffs_transpositions x_valley_cliffs_count x_history_slots x_history_current x_history_count p2 p3) (fun q1 =>
  q_sm q1.1 (fun X => q_br (X = "java/lang/IndexOutOfBoundsException") (
  some (1, q1.2.1, q1.2.2.1, q1.2.2.2.1, q1.2.2.2.2.1, q1.2.2.2.2.2.1, q1.2.2.2.2.2.2.1, q1.2.2.2.2.2.2.2.1, q1.2.2.2.2.2.2.2.2.1, q1.2.2.2.2.2.2.2.2.2.1, q1.2.2.2.2.2.2.2.2.2.2.1, q1.2.2.2.2.2.2.2.2.2.2.2.1, q1.2.2.2.2.2.2.2.2.2.2.2.2.1, q1.2.2.2.2.2.2.2.2.2.2.2.2.2.1, q1.2.2.2.2.2.2.2.2.2.2.2.2.2.2.1, q1.2.2.2.2.2.2.2.2.2.2.2.2.2.2.2, y_v)) (
  none)) (fun r2 =>
  some (0, q1.2.1, q1.2.2.1, q1.2.2.2.1, q1.2.2.2.2.1, q1.2.2.2.2.2.1, q1.2.2.2.2.2.2.1, q1.2.2.2.2.2.2.2.1, q1.2.2.2.2.2.2.2.2.1, q1.2.2.2.2.2.2.2.2.2.1, q1.2.2.2.2.2.2.2.2.2.2.1, q1.2.2.2.2.2.2.2.2.2.2.2.1, q1.2.2.2.2.2.2.2.2.2.2.2.2.1, q1.2.2.2.2.2.2.2.2.2.2.2.2.2.1, q1.2.2.2.2.2.2.2.2.2.2.2.2.2.2.1, q1.2.2.2.2.2.2.2.2.2.2.2.2.2.2.2, vp_updL y_v 0 (r2.toInt64))))
theorem hv_L_moveBell : yL_moveBell.cls = RL ∧ yL_moveBell.cls ≠ "java/lang/invoke/MethodHandle" ∧ yL_moveBell.cls ≠ "java/lang/invoke/VarHandle" ∧ (parseMethodDescriptor yL_moveBell.desc).map (fun d => d.parameters.length) = some 4 := by decide +kernel
abbrev rm_L_moveBell : Room := { frames := 8, cells := 1, slots := 6, locals := 180 }
set_option maxHeartbeats 4000000 in
set_option maxRecDepth 100000 in
theorem k_L_moveBell (l : Launch) (E : ET) (a : Nat → Nat) (o : Nat) (x : VB_t) (ay : Nat → Nat) (oy : Nat) (y : (Nat → Int64)) (p2 : Int32) (p3 : Int32) (res : Int32 × Int32 × Int32 × Int32 × (Nat → Int32) × (Nat → Int32) × Int32 × (Nat → Int32) × (Nat → Int32) × (Nat → Int32) × (Nat → Int32) × (Nat → Int32) × Int32 × (Nat → Valley_t) × Int32 × Int32 × (Nat → Int64)) (hF : f_L_moveBell x.1.1.1.1 x.1.1.1.2.1 x.1.1.1.2.2 x.1.1.2.1.1 x.1.1.2.1.2.1 x.1.1.2.1.2.2 x.1.1.2.2.1.1 x.1.1.2.2.1.2.1 x.1.1.2.2.1.2.2 x.1.1.2.2.2.1 x.1.1.2.2.2.2.1 x.1.1.2.2.2.2.2 x.1.2.2.1.1 x.1.2.2.1.2.1 x.1.2.2.1.2.2 y p2 p3 = some res) (sz : Nat) (hlt : l.stackTraces = false) : CtI l yL_moveBell (mwsH yL_moveBell cL_moveBell 5 (some .int) [(0, 10, 13, 13)]) rm_L_moveBell 1 6 [.ref (a o), .int p2, .int p3, .ref (ay oy)] E (bl_VB E a o x ++ bl_LongArr E ay oy y) res.1 (bl_VB E a o ((((res.2.1, res.2.2.1, res.2.2.2.1), (res.2.2.2.2.1, res.2.2.2.2.2.1, res.2.2.2.2.2.2.1), (res.2.2.2.2.2.2.2.1, res.2.2.2.2.2.2.2.2.1, res.2.2.2.2.2.2.2.2.2.1), (res.2.2.2.2.2.2.2.2.2.2.1, res.2.2.2.2.2.2.2.2.2.2.2.1, res.2.2.2.2.2.2.2.2.2.2.2.2.1)), x.1.2.1, (res.2.2.2.2.2.2.2.2.2.2.2.2.2.1, res.2.2.2.2.2.2.2.2.2.2.2.2.2.2.1, res.2.2.2.2.2.2.2.2.2.2.2.2.2.2.2.1), x.1.2.2.2.1, x.1.2.2.2.2), (x.2.1, x.2.2.1, x.2.2.2.1, x.2.2.2.2.1, x.2.2.2.2.2)) ++ bl_LongArr E ay oy res.2.2.2.2.2.2.2.2.2.2.2.2.2.2.2.2) sz := by
  refine mk_H (by decide +kernel) (Nat.le_of_ble_eq_true rfl) ?_
  intro p e s m below meth c A args Q ls hAe hsz hQ hx hb hr hml hin ha hown hlocks hA hz hzs hst htab hP hD hS hl
  have hown : s.vm.findClass RL = some m.cls := hown
  rw [hAe] at hQ
  subst hsz
  have hP : va_P E.1 vwCl (List.flatten [w_VBR a o x.2.2.2.1 x.2.2.2.2.1 x.2.2.2.2.2, w_ValleyR a (o + 1), w_Key E a (o + 2) x.1.1.1, w_Bells E a (o + 3) x.1.1.2.1, w_Mel E a (o + 6) x.1.1.2.2.1, w_Cliffs E a (o + 10) x.1.1.2.2.2, w_ValleyR a (o + 13), w_Key E a (o + 14) x.1.2.1.1, w_Bells E a (o + 15) x.1.2.1.2.1, w_Mel E a (o + 18) x.1.2.1.2.2.1, w_Cliffs E a (o + 22) x.1.2.1.2.2.2, w_Prog E a (o + 25) x.1.2.2.2.1, w_Chord E a (o + 31) x.1.2.2.2.2, w_Key E a (o + 34) x.2.1, w_Line E a (o + 35) x.2.2.1, w_Hist E a (o + 37) x.1.2.2.1, w_LongArr E ay oy y]) s.heap := hP
  have hD : va_D A (List.flatten [w_VBR a o x.2.2.2.1 x.2.2.2.2.1 x.2.2.2.2.2, w_ValleyR a (o + 1), w_Key E a (o + 2) x.1.1.1, w_Bells E a (o + 3) x.1.1.2.1, w_Mel E a (o + 6) x.1.1.2.2.1, w_Cliffs E a (o + 10) x.1.1.2.2.2, w_ValleyR a (o + 13), w_Key E a (o + 14) x.1.2.1.1, w_Bells E a (o + 15) x.1.2.1.2.1, w_Mel E a (o + 18) x.1.2.1.2.2.1, w_Cliffs E a (o + 22) x.1.2.1.2.2.2, w_Prog E a (o + 25) x.1.2.2.2.1, w_Chord E a (o + 31) x.1.2.2.2.2, w_Key E a (o + 34) x.2.1, w_Line E a (o + 35) x.2.2.1, w_Hist E a (o + 37) x.1.2.2.1, w_LongArr E ay oy y]) := hD
  have hl : lv_has ls 5 [(0, .ref (a o)), (1, .int p2), (2, .int p3), (3, .ref (ay oy))] := hl
  generalize hHe : s.heap = H at hP
  have hS : va_S A s.heap H [] := by rw [← hHe]; exact hS
  generalize ([] : List Loc) = locs at hS ⊢
  unfold f_L_moveBell at hF
  refine lv_aload_n hx hb dL_moveBell_0 rfl (lv_at hl 3 rfl) ?_
  refine lv_iconst (v := 0) hx hb dL_moveBell_1 (by decide) ?_
  refine lv_aload_n hx hb dL_moveBell_2 rfl (lv_at hl 0 rfl) ?_
  refine lv_iload_n hx hb dL_moveBell_3 rfl (lv_at hl 1 rfl) ?_
  refine lv_iload_n hx hb dL_moveBell_4 rfl (lv_at hl 2 rfl) ?_
  obtain ⟨q1, hq1, hF⟩ := q_bdi hF
  refine cx_i (ro := q1.1) (Lc := [w_VBR a o x.2.2.2.1 x.2.2.2.2.1 x.2.2.2.2.2, w_ValleyR a (o + 1), w_Key E a (o + 2) x.1.1.1, w_Bells E a (o + 3) x.1.1.2.1, w_Mel E a (o + 6) x.1.1.2.2.1, w_Cliffs E a (o + 10) x.1.1.2.2.2, w_ValleyR a (o + 13), w_Key E a (o + 14) x.1.2.1.1, w_Bells E a (o + 15) x.1.2.1.2.1, w_Mel E a (o + 18) x.1.2.1.2.2.1, w_Cliffs E a (o + 22) x.1.2.1.2.2.2, w_Prog E a (o + 25) x.1.2.2.2.1, w_Chord E a (o + 31) x.1.2.2.2.2, w_Key E a (o + 34) x.2.1, w_Line E a (o + 35) x.2.2.1, w_Hist E a (o + 37) x.1.2.2.1]) (Lc' := [w_VBR a o x.2.2.2.1 x.2.2.2.2.1 x.2.2.2.2.2, w_ValleyR a (o + 1), w_Key E a (o + 2) (q1.2.1, q1.2.2.1, q1.2.2.2.1), w_Bells E a (o + 3) (q1.2.2.2.2.1, q1.2.2.2.2.2.1, q1.2.2.2.2.2.2.1), w_Mel E a (o + 6) (q1.2.2.2.2.2.2.2.1, q1.2.2.2.2.2.2.2.2.1, q1.2.2.2.2.2.2.2.2.2.1), w_Cliffs E a (o + 10) (q1.2.2.2.2.2.2.2.2.2.2.1, q1.2.2.2.2.2.2.2.2.2.2.2.1, q1.2.2.2.2.2.2.2.2.2.2.2.2.1), w_ValleyR a (o + 13), w_Key E a (o + 14) x.1.2.1.1, w_Bells E a (o + 15) x.1.2.1.2.1, w_Mel E a (o + 18) x.1.2.1.2.2.1, w_Cliffs E a (o + 22) x.1.2.1.2.2.2, w_Prog E a (o + 25) x.1.2.2.2.1, w_Chord E a (o + 31) x.1.2.2.2.2, w_Key E a (o + 34) x.2.1, w_Line E a (o + 35) x.2.2.1, w_Hist E a (o + 37) (q1.2.2.2.2.2.2.2.2.2.2.2.2.2.1, q1.2.2.2.2.2.2.2.2.2.2.2.2.2.2.1, q1.2.2.2.2.2.2.2.2.2.2.2.2.2.2.2)]) (L' := [w_VBR a o x.2.2.2.1 x.2.2.2.2.1 x.2.2.2.2.2, w_ValleyR a (o + 1), w_Key E a (o + 2) (q1.2.1, q1.2.2.1, q1.2.2.2.1), w_Bells E a (o + 3) (q1.2.2.2.2.1, q1.2.2.2.2.2.1, q1.2.2.2.2.2.2.1), w_Mel E a (o + 6) (q1.2.2.2.2.2.2.2.1, q1.2.2.2.2.2.2.2.2.1, q1.2.2.2.2.2.2.2.2.2.1), w_Cliffs E a (o + 10) (q1.2.2.2.2.2.2.2.2.2.2.1, q1.2.2.2.2.2.2.2.2.2.2.2.1, q1.2.2.2.2.2.2.2.2.2.2.2.2.1), w_ValleyR a (o + 13), w_Key E a (o + 14) x.1.2.1.1, w_Bells E a (o + 15) x.1.2.1.2.1, w_Mel E a (o + 18) x.1.2.1.2.2.1, w_Cliffs E a (o + 22) x.1.2.1.2.2.2, w_Prog E a (o + 25) x.1.2.2.2.1, w_Chord E a (o + 31) x.1.2.2.2.2, w_Key E a (o + 34) x.2.1, w_Line E a (o + 35) x.2.2.1, w_Hist E a (o + 37) (q1.2.2.2.2.2.2.2.2.2.2.2.2.2.1, q1.2.2.2.2.2.2.2.2.2.2.2.2.2.2.1, q1.2.2.2.2.2.2.2.2.2.2.2.2.2.2.2), w_LongArr E ay oy y]) (vx_runV (As := [.int p2, .int p3]) (rest := [.int 0, .ref (ay oy)]) ⟨hx, hb, hml, hown, ha⟩ (k_X10_moveBell l E a o x p2 p3 q1 hq1 H.size hlt) (cwV 2 ha (gi_V (fun _ h => h) mw1125 mw1126 mw1127 mw74 mw1128) rfl rfl rfl hv_X10_moveBell ⟨(Nat.le_of_ble_eq_true rfl), (Nat.le_of_ble_eq_true rfl)⟩) ⟨pre_blind, va_recv hst.k (fr_P hP [0, 1, 2, 3, 4, 5, 6, 7, 8, 9, 10, 11, 12, 13, 14, 15] rfl) (ci := 12) (q0 := 0) rfl rfl, pre_at hP hD hS hz hzs hst [0, 1, 2, 3, 4, 5, 6, 7, 8, 9, 10, 11, 12, 13, 14, 15] (by decide) rfl rfl⟩ rfl rfl hl.1 rfl (lv_room (Nat.le_of_ble_eq_true rfl)) dL_moveBell_5 ⟨(Nat.le_of_ble_eq_true rfl), (Nat.le_of_ble_eq_true rfl)⟩) hP hD hS hA [0, 1, 2, 3, 4, 5, 6, 7, 8, 9, 10, 11, 12, 13, 14, 15] (by decide) rfl rfl rfl rfl (fun X ce q9 H locs eX h1 h2 h3 hP hD hS => ?_) (fun r2 H locs er2 hP hD hS => ?_)
  · have hF := q_smr eX hF
    by_cases w5_0 : X = "java/lang/IndexOutOfBoundsException"
    · have hF := q_brp w5_0 hF
      subst w5_0
      refine vx_catch (E := "java/lang/IndexOutOfBoundsException") (name := "java/lang/IndexOutOfBoundsException") hown [] ⟨0, 10, 13, 13⟩ [] htab (fun _ h => nomatch h) (by decide) (by decide) (ha _ mw960) (va_Nw.use rfl (hst.cs cs_IndexOutOfBoundsException)) h1 h2 h3 ?_
      refine lv_astore (lv' := [(4, .ref q9), (0, .ref (a o)), (1, .int p2), (2, .int p3), (3, .ref (ay oy))]) hx hb dL_moveBell_13 hl (by decide) rfl (fun ls hl => ?_)
      refine lv_iconst (v := 1) hx hb dL_moveBell_15 (by decide) ?_
      obtain rfl := Option.some.inj hF
      exact en_i hQ (Nat.le_of_ble_eq_true rfl) (Nat.le_of_ble_eq_true rfl) hx hb hr hlocks hP hD hS rfl dL_moveBell_16
    have hF := q_brn w5_0 hF
    exact absurd hF (by simp)
  have hF := q_sml er2 hF
  refine lv_i2l hx hb dL_moveBell_8 rfl ?_
  refine vi_last hx hb hst.k hP hD hS 147 3 rfl rfl (f := y) (k := 0) (by decide) (by decide) dL_moveBell_9 (fun H locs hP hD hS => ?_)
  have hP : va_P E.1 vwCl (List.flatten [w_VBR a o x.2.2.2.1 x.2.2.2.2.1 x.2.2.2.2.2, w_ValleyR a (o + 1), w_Key E a (o + 2) (q1.2.1, q1.2.2.1, q1.2.2.2.1), w_Bells E a (o + 3) (q1.2.2.2.2.1, q1.2.2.2.2.2.1, q1.2.2.2.2.2.2.1), w_Mel E a (o + 6) (q1.2.2.2.2.2.2.2.1, q1.2.2.2.2.2.2.2.2.1, q1.2.2.2.2.2.2.2.2.2.1), w_Cliffs E a (o + 10) (q1.2.2.2.2.2.2.2.2.2.2.1, q1.2.2.2.2.2.2.2.2.2.2.2.1, q1.2.2.2.2.2.2.2.2.2.2.2.2.1), w_ValleyR a (o + 13), w_Key E a (o + 14) x.1.2.1.1, w_Bells E a (o + 15) x.1.2.1.2.1, w_Mel E a (o + 18) x.1.2.1.2.2.1, w_Cliffs E a (o + 22) x.1.2.1.2.2.2, w_Prog E a (o + 25) x.1.2.2.2.1, w_Chord E a (o + 31) x.1.2.2.2.2, w_Key E a (o + 34) x.2.1, w_Line E a (o + 35) x.2.2.1, w_Hist E a (o + 37) (q1.2.2.2.2.2.2.2.2.2.2.2.2.2.1, q1.2.2.2.2.2.2.2.2.2.2.2.2.2.2.1, q1.2.2.2.2.2.2.2.2.2.2.2.2.2.2.2), w_LongArr E ay oy (vp_updL y 0 (r2.toInt64))]) H := hP
  have hD : va_D A (List.flatten [w_VBR a o x.2.2.2.1 x.2.2.2.2.1 x.2.2.2.2.2, w_ValleyR a (o + 1), w_Key E a (o + 2) (q1.2.1, q1.2.2.1, q1.2.2.2.1), w_Bells E a (o + 3) (q1.2.2.2.2.1, q1.2.2.2.2.2.1, q1.2.2.2.2.2.2.1), w_Mel E a (o + 6) (q1.2.2.2.2.2.2.2.1, q1.2.2.2.2.2.2.2.2.1, q1.2.2.2.2.2.2.2.2.2.1), w_Cliffs E a (o + 10) (q1.2.2.2.2.2.2.2.2.2.2.1, q1.2.2.2.2.2.2.2.2.2.2.2.1, q1.2.2.2.2.2.2.2.2.2.2.2.2.1), w_ValleyR a (o + 13), w_Key E a (o + 14) x.1.2.1.1, w_Bells E a (o + 15) x.1.2.1.2.1, w_Mel E a (o + 18) x.1.2.1.2.2.1, w_Cliffs E a (o + 22) x.1.2.1.2.2.2, w_Prog E a (o + 25) x.1.2.2.2.1, w_Chord E a (o + 31) x.1.2.2.2.2, w_Key E a (o + 34) x.2.1, w_Line E a (o + 35) x.2.2.1, w_Hist E a (o + 37) (q1.2.2.2.2.2.2.2.2.2.2.2.2.2.1, q1.2.2.2.2.2.2.2.2.2.2.2.2.2.2.1, q1.2.2.2.2.2.2.2.2.2.2.2.2.2.2.2), w_LongArr E ay oy (vp_updL y 0 (r2.toInt64))]) := hD
  refine lv_goto (tgt := 17) hx hb dL_moveBell_10 (by decide) ?_
  refine lv_iconst (v := 0) hx hb dL_moveBell_17 (by decide) ?_
  obtain rfl := Option.some.inj hF
  exact en_i hQ (Nat.le_of_ble_eq_true rfl) (Nat.le_of_ble_eq_true rfl) hx hb hr hlocks hP hD hS rfl dL_moveBell_18

/-! L_graze -/
theorem dL_graze_0 : decode cL_graze 0 = .ok (.aload_n 3, 1) := by decide +kernel
theorem dL_graze_1 : decode cL_graze 1 = .ok (.iconst 0, 1) := by decide +kernel
theorem dL_graze_2 : decode cL_graze 2 = .ok (.aload_n 0, 1) := by decide +kernel
theorem dL_graze_3 : decode cL_graze 3 = .ok (.iload_n 1, 1) := by decide +kernel
theorem dL_graze_4 : decode cL_graze 4 = .ok (.iload_n 2, 1) := by decide +kernel
theorem dL_graze_5 : decode cL_graze 5 = .ok (.invokevirtual 29, 3) := by decide +kernel
theorem dL_graze_8 : decode cL_graze 8 = .ok (.i2l, 1) := by decide +kernel
theorem dL_graze_9 : decode cL_graze 9 = .ok (.lastore, 1) := by decide +kernel
theorem dL_graze_10 : decode cL_graze 10 = .ok (.goto 11, 3) := by decide +kernel
theorem dL_graze_13 : decode cL_graze 13 = .ok (.astore 4, 2) := by decide +kernel
theorem dL_graze_15 : decode cL_graze 15 = .ok (.iconst 1, 1) := by decide +kernel
theorem dL_graze_16 : decode cL_graze 16 = .ok (.ireturn, 1) := by decide +kernel
theorem dL_graze_17 : decode cL_graze 17 = .ok (.astore 4, 2) := by decide +kernel
theorem dL_graze_19 : decode cL_graze 19 = .ok (.iconst 2, 1) := by decide +kernel
theorem dL_graze_20 : decode cL_graze 20 = .ok (.ireturn, 1) := by decide +kernel
theorem dL_graze_21 : decode cL_graze 21 = .ok (.iconst 0, 1) := by decide +kernel
theorem dL_graze_22 : decode cL_graze 22 = .ok (.ireturn, 1) := by decide +kernel
def f_L_graze (x_valley_key_tonic : Int32) (x_valley_key_isMinor : Int32) (x_valley_key_tolerance : Int32) (x_valley_bells_herds : (Nat → Int32)) (x_valley_bells_pitches : (Nat → Int32)) (x_valley_bells_count : Int32) (x_valley_melodies_lengths : (Nat → Int32)) (x_valley_melodies_entries : (Nat → Int32)) (x_valley_melodies_tones : (Nat → Int32)) (x_valley_cliffs_delays : (Nat → Int32)) (x_valley_cliffs_transpositions : (Nat → Int32)) (x_valley_cliffs_count : Int32) (x_history_slots : (Nat → Valley_t)) (x_history_current : Int32) (x_history_count : Int32) (y_v : (Nat → Int64)) (p2 : Int32) (p3 : Int32) : Option (Int32 × Int32 × Int32 × Int32 × (Nat → Int32) × (Nat → Int32) × Int32 × (Nat → Int32) × (Nat → Int32) × (Nat → Int32) × (Nat → Int32) × (Nat → Int32) × Int32 × (Nat → Valley_t) × Int32 × Int32 × (Nat → Int64)) :=
  q_bd (f_X10_graze x_valley_key_tonic x_valley_key_isMinor x_valley_key_tolerance x_valley_bells_herds x_valley_bells_pitches x_valley_bells_count x_valley_melodies_lengths x_valley_melodies_entries x_valley_melodies_tones x_valley_cliffs_delays x_valley_cliffs_transpositions x_valley_cliffs_count x_history_slots x_history_current x_history_count p2 p3) (fun q1 =>
  q_sm q1.1 (fun X => q_br (X = "java/lang/IndexOutOfBoundsException") (
  some (1, q1.2.1, q1.2.2.1, q1.2.2.2.1, q1.2.2.2.2.1, q1.2.2.2.2.2.1, q1.2.2.2.2.2.2.1, q1.2.2.2.2.2.2.2.1, q1.2.2.2.2.2.2.2.2.1, q1.2.2.2.2.2.2.2.2.2.1, q1.2.2.2.2.2.2.2.2.2.2.1, q1.2.2.2.2.2.2.2.2.2.2.2.1, q1.2.2.2.2.2.2.2.2.2.2.2.2.1, q1.2.2.2.2.2.2.2.2.2.2.2.2.2.1, q1.2.2.2.2.2.2.2.2.2.2.2.2.2.2.1, q1.2.2.2.2.2.2.2.2.2.2.2.2.2.2.2, y_v)) (
  q_br (X = "java/lang/IllegalArgumentException") (
  some (2, q1.2.1, q1.2.2.1, q1.2.2.2.1, q1.2.2.2.2.1, q1.2.2.2.2.2.1, q1.2.2.2.2.2.2.1, q1.2.2.2.2.2.2.2.1, q1.2.2.2.2.2.2.2.2.1, q1.2.2.2.2.2.2.2.2.2.1, q1.2.2.2.2.2.2.2.2.2.2.1, q1.2.2.2.2.2.2.2.2.2.2.2.1, q1.2.2.2.2.2.2.2.2.2.2.2.2.1, q1.2.2.2.2.2.2.2.2.2.2.2.2.2.1, q1.2.2.2.2.2.2.2.2.2.2.2.2.2.2.1, q1.2.2.2.2.2.2.2.2.2.2.2.2.2.2.2, y_v)) (
  none))) (fun r2 =>
  some (0, q1.2.1, q1.2.2.1, q1.2.2.2.1, q1.2.2.2.2.1, q1.2.2.2.2.2.1, q1.2.2.2.2.2.2.1, q1.2.2.2.2.2.2.2.1, q1.2.2.2.2.2.2.2.2.1, q1.2.2.2.2.2.2.2.2.2.1, q1.2.2.2.2.2.2.2.2.2.2.1, q1.2.2.2.2.2.2.2.2.2.2.2.1, q1.2.2.2.2.2.2.2.2.2.2.2.2.1, q1.2.2.2.2.2.2.2.2.2.2.2.2.2.1, q1.2.2.2.2.2.2.2.2.2.2.2.2.2.2.1, q1.2.2.2.2.2.2.2.2.2.2.2.2.2.2.2, vp_updL y_v 0 (r2.toInt64))))
theorem hv_L_graze : yL_graze.cls = RL ∧ yL_graze.cls ≠ "java/lang/invoke/MethodHandle" ∧ yL_graze.cls ≠ "java/lang/invoke/VarHandle" ∧ (parseMethodDescriptor yL_graze.desc).map (fun d => d.parameters.length) = some 4 := by decide +kernel
abbrev rm_L_graze : Room := { frames := 8, cells := 1, slots := 6, locals := 180 }
set_option maxHeartbeats 4000000 in
set_option maxRecDepth 100000 in
theorem k_L_graze (l : Launch) (E : ET) (a : Nat → Nat) (o : Nat) (x : VB_t) (ay : Nat → Nat) (oy : Nat) (y : (Nat → Int64)) (p2 : Int32) (p3 : Int32) (res : Int32 × Int32 × Int32 × Int32 × (Nat → Int32) × (Nat → Int32) × Int32 × (Nat → Int32) × (Nat → Int32) × (Nat → Int32) × (Nat → Int32) × (Nat → Int32) × Int32 × (Nat → Valley_t) × Int32 × Int32 × (Nat → Int64)) (hF : f_L_graze x.1.1.1.1 x.1.1.1.2.1 x.1.1.1.2.2 x.1.1.2.1.1 x.1.1.2.1.2.1 x.1.1.2.1.2.2 x.1.1.2.2.1.1 x.1.1.2.2.1.2.1 x.1.1.2.2.1.2.2 x.1.1.2.2.2.1 x.1.1.2.2.2.2.1 x.1.1.2.2.2.2.2 x.1.2.2.1.1 x.1.2.2.1.2.1 x.1.2.2.1.2.2 y p2 p3 = some res) (sz : Nat) (hlt : l.stackTraces = false) : CtI l yL_graze (mwsH yL_graze cL_graze 5 (some .int) [(0, 10, 13, 13), (0, 10, 17, 15)]) rm_L_graze 1 6 [.ref (a o), .int p2, .int p3, .ref (ay oy)] E (bl_VB E a o x ++ bl_LongArr E ay oy y) res.1 (bl_VB E a o ((((res.2.1, res.2.2.1, res.2.2.2.1), (res.2.2.2.2.1, res.2.2.2.2.2.1, res.2.2.2.2.2.2.1), (res.2.2.2.2.2.2.2.1, res.2.2.2.2.2.2.2.2.1, res.2.2.2.2.2.2.2.2.2.1), (res.2.2.2.2.2.2.2.2.2.2.1, res.2.2.2.2.2.2.2.2.2.2.2.1, res.2.2.2.2.2.2.2.2.2.2.2.2.1)), x.1.2.1, (res.2.2.2.2.2.2.2.2.2.2.2.2.2.1, res.2.2.2.2.2.2.2.2.2.2.2.2.2.2.1, res.2.2.2.2.2.2.2.2.2.2.2.2.2.2.2.1), x.1.2.2.2.1, x.1.2.2.2.2), (x.2.1, x.2.2.1, x.2.2.2.1, x.2.2.2.2.1, x.2.2.2.2.2)) ++ bl_LongArr E ay oy res.2.2.2.2.2.2.2.2.2.2.2.2.2.2.2.2) sz := by
  refine mk_H (by decide +kernel) (Nat.le_of_ble_eq_true rfl) ?_
  intro p e s m below meth c A args Q ls hAe hsz hQ hx hb hr hml hin ha hown hlocks hA hz hzs hst htab hP hD hS hl
  have hown : s.vm.findClass RL = some m.cls := hown
  rw [hAe] at hQ
  subst hsz
  have hP : va_P E.1 vwCl (List.flatten [w_VBR a o x.2.2.2.1 x.2.2.2.2.1 x.2.2.2.2.2, w_ValleyR a (o + 1), w_Key E a (o + 2) x.1.1.1, w_Bells E a (o + 3) x.1.1.2.1, w_Mel E a (o + 6) x.1.1.2.2.1, w_Cliffs E a (o + 10) x.1.1.2.2.2, w_ValleyR a (o + 13), w_Key E a (o + 14) x.1.2.1.1, w_Bells E a (o + 15) x.1.2.1.2.1, w_Mel E a (o + 18) x.1.2.1.2.2.1, w_Cliffs E a (o + 22) x.1.2.1.2.2.2, w_Prog E a (o + 25) x.1.2.2.2.1, w_Chord E a (o + 31) x.1.2.2.2.2, w_Key E a (o + 34) x.2.1, w_Line E a (o + 35) x.2.2.1, w_Hist E a (o + 37) x.1.2.2.1, w_LongArr E ay oy y]) s.heap := hP
  have hD : va_D A (List.flatten [w_VBR a o x.2.2.2.1 x.2.2.2.2.1 x.2.2.2.2.2, w_ValleyR a (o + 1), w_Key E a (o + 2) x.1.1.1, w_Bells E a (o + 3) x.1.1.2.1, w_Mel E a (o + 6) x.1.1.2.2.1, w_Cliffs E a (o + 10) x.1.1.2.2.2, w_ValleyR a (o + 13), w_Key E a (o + 14) x.1.2.1.1, w_Bells E a (o + 15) x.1.2.1.2.1, w_Mel E a (o + 18) x.1.2.1.2.2.1, w_Cliffs E a (o + 22) x.1.2.1.2.2.2, w_Prog E a (o + 25) x.1.2.2.2.1, w_Chord E a (o + 31) x.1.2.2.2.2, w_Key E a (o + 34) x.2.1, w_Line E a (o + 35) x.2.2.1, w_Hist E a (o + 37) x.1.2.2.1, w_LongArr E ay oy y]) := hD
  have hl : lv_has ls 5 [(0, .ref (a o)), (1, .int p2), (2, .int p3), (3, .ref (ay oy))] := hl
  generalize hHe : s.heap = H at hP
  have hS : va_S A s.heap H [] := by rw [← hHe]; exact hS
  generalize ([] : List Loc) = locs at hS ⊢
  unfold f_L_graze at hF
  refine lv_aload_n hx hb dL_graze_0 rfl (lv_at hl 3 rfl) ?_
  refine lv_iconst (v := 0) hx hb dL_graze_1 (by decide) ?_
  refine lv_aload_n hx hb dL_graze_2 rfl (lv_at hl 0 rfl) ?_
  refine lv_iload_n hx hb dL_graze_3 rfl (lv_at hl 1 rfl) ?_
  refine lv_iload_n hx hb dL_graze_4 rfl (lv_at hl 2 rfl) ?_
  obtain ⟨q1, hq1, hF⟩ := q_bdi hF
  refine cx_i (ro := q1.1) (Lc := [w_VBR a o x.2.2.2.1 x.2.2.2.2.1 x.2.2.2.2.2, w_ValleyR a (o + 1), w_Key E a (o + 2) x.1.1.1, w_Bells E a (o + 3) x.1.1.2.1, w_Mel E a (o + 6) x.1.1.2.2.1, w_Cliffs E a (o + 10) x.1.1.2.2.2, w_ValleyR a (o + 13), w_Key E a (o + 14) x.1.2.1.1, w_Bells E a (o + 15) x.1.2.1.2.1, w_Mel E a (o + 18) x.1.2.1.2.2.1, w_Cliffs E a (o + 22) x.1.2.1.2.2.2, w_Prog E a (o + 25) x.1.2.2.2.1, w_Chord E a (o + 31) x.1.2.2.2.2, w_Key E a (o + 34) x.2.1, w_Line E a (o + 35) x.2.2.1, w_Hist E a (o + 37) x.1.2.2.1]) (Lc' := [w_VBR a o x.2.2.2.1 x.2.2.2.2.1 x.2.2.2.2.2, w_ValleyR a (o + 1), w_Key E a (o + 2) (q1.2.1, q1.2.2.1, q1.2.2.2.1), w_Bells E a (o + 3) (q1.2.2.2.2.1, q1.2.2.2.2.2.1, q1.2.2.2.2.2.2.1), w_Mel E a (o + 6) (q1.2.2.2.2.2.2.2.1, q1.2.2.2.2.2.2.2.2.1, q1.2.2.2.2.2.2.2.2.2.1), w_Cliffs E a (o + 10) (q1.2.2.2.2.2.2.2.2.2.2.1, q1.2.2.2.2.2.2.2.2.2.2.2.1, q1.2.2.2.2.2.2.2.2.2.2.2.2.1), w_ValleyR a (o + 13), w_Key E a (o + 14) x.1.2.1.1, w_Bells E a (o + 15) x.1.2.1.2.1, w_Mel E a (o + 18) x.1.2.1.2.2.1, w_Cliffs E a (o + 22) x.1.2.1.2.2.2, w_Prog E a (o + 25) x.1.2.2.2.1, w_Chord E a (o + 31) x.1.2.2.2.2, w_Key E a (o + 34) x.2.1, w_Line E a (o + 35) x.2.2.1, w_Hist E a (o + 37) (q1.2.2.2.2.2.2.2.2.2.2.2.2.2.1, q1.2.2.2.2.2.2.2.2.2.2.2.2.2.2.1, q1.2.2.2.2.2.2.2.2.2.2.2.2.2.2.2)]) (L' := [w_VBR a o x.2.2.2.1 x.2.2.2.2.1 x.2.2.2.2.2, w_ValleyR a (o + 1), w_Key E a (o + 2) (q1.2.1, q1.2.2.1, q1.2.2.2.1), w_Bells E a (o + 3) (q1.2.2.2.2.1, q1.2.2.2.2.2.1, q1.2.2.2.2.2.2.1), w_Mel E a (o + 6) (q1.2.2.2.2.2.2.2.1, q1.2.2.2.2.2.2.2.2.1, q1.2.2.2.2.2.2.2.2.2.1), w_Cliffs E a (o + 10) (q1.2.2.2.2.2.2.2.2.2.2.1, q1.2.2.2.2.2.2.2.2.2.2.2.1, q1.2.2.2.2.2.2.2.2.2.2.2.2.1), w_ValleyR a (o + 13), w_Key E a (o + 14) x.1.2.1.1, w_Bells E a (o + 15) x.1.2.1.2.1, w_Mel E a (o + 18) x.1.2.1.2.2.1, w_Cliffs E a (o + 22) x.1.2.1.2.2.2, w_Prog E a (o + 25) x.1.2.2.2.1, w_Chord E a (o + 31) x.1.2.2.2.2, w_Key E a (o + 34) x.2.1, w_Line E a (o + 35) x.2.2.1, w_Hist E a (o + 37) (q1.2.2.2.2.2.2.2.2.2.2.2.2.2.1, q1.2.2.2.2.2.2.2.2.2.2.2.2.2.2.1, q1.2.2.2.2.2.2.2.2.2.2.2.2.2.2.2), w_LongArr E ay oy y]) (vx_runV (As := [.int p2, .int p3]) (rest := [.int 0, .ref (ay oy)]) ⟨hx, hb, hml, hown, ha⟩ (k_X10_graze l E a o x p2 p3 q1 hq1 H.size hlt) (cwV 2 ha (gi_V (fun _ h => h) mw1134 mw1135 mw1136 mw74 mw1137) rfl rfl rfl hv_X10_graze ⟨(Nat.le_of_ble_eq_true rfl), (Nat.le_of_ble_eq_true rfl)⟩) ⟨pre_blind, va_recv hst.k (fr_P hP [0, 1, 2, 3, 4, 5, 6, 7, 8, 9, 10, 11, 12, 13, 14, 15] rfl) (ci := 12) (q0 := 0) rfl rfl, pre_at hP hD hS hz hzs hst [0, 1, 2, 3, 4, 5, 6, 7, 8, 9, 10, 11, 12, 13, 14, 15] (by decide) rfl rfl⟩ rfl rfl hl.1 rfl (lv_room (Nat.le_of_ble_eq_true rfl)) dL_graze_5 ⟨(Nat.le_of_ble_eq_true rfl), (Nat.le_of_ble_eq_true rfl)⟩) hP hD hS hA [0, 1, 2, 3, 4, 5, 6, 7, 8, 9, 10, 11, 12, 13, 14, 15] (by decide) rfl rfl rfl rfl (fun X ce q9 H locs eX h1 h2 h3 hP hD hS => ?_) (fun r2 H locs er2 hP hD hS => ?_)
  · have hF := q_smr eX hF
    by_cases w5_0 : X = "java/lang/IndexOutOfBoundsException"
    · have hF := q_brp w5_0 hF
      subst w5_0
      refine vx_catch (E := "java/lang/IndexOutOfBoundsException") (name := "java/lang/IndexOutOfBoundsException") hown [] ⟨0, 10, 13, 13⟩ [⟨0, 10, 17, 15⟩] htab (fun _ h => nomatch h) (by decide) (by decide) (ha _ mw960) (va_Nw.use rfl (hst.cs cs_IndexOutOfBoundsException)) h1 h2 h3 ?_
      refine lv_astore (lv' := [(4, .ref q9), (0, .ref (a o)), (1, .int p2), (2, .int p3), (3, .ref (ay oy))]) hx hb dL_graze_13 hl (by decide) rfl (fun ls hl => ?_)
      refine lv_iconst (v := 1) hx hb dL_graze_15 (by decide) ?_
      obtain rfl := Option.some.inj hF
      exact en_i hQ (Nat.le_of_ble_eq_true rfl) (Nat.le_of_ble_eq_true rfl) hx hb hr hlocks hP hD hS rfl dL_graze_16
    have hF := q_brn w5_0 hF
    by_cases w5_1 : X = "java/lang/IllegalArgumentException"
    · have hF := q_brp w5_1 hF
      subst w5_1
      refine vx_catch (E := "java/lang/IllegalArgumentException") (name := "java/lang/IllegalArgumentException") hown [⟨0, 10, 13, 13⟩] ⟨0, 10, 17, 15⟩ [] htab (List.forall_mem_cons.mpr ⟨Or.inr ⟨by decide, "java/lang/IndexOutOfBoundsException", ha _ mw960, hst.nc (q := ("java/lang/IllegalArgumentException", "java/lang/IndexOutOfBoundsException")) (List.mem_of_getElem? (i := 5) rfl)⟩, (fun _ h => nomatch h)⟩) (by decide) (by decide) (ha _ mw963) (va_Nw.use rfl (hst.cs cs_IllegalArgumentException)) h1 h2 h3 ?_
      refine lv_astore (lv' := [(4, .ref q9), (0, .ref (a o)), (1, .int p2), (2, .int p3), (3, .ref (ay oy))]) hx hb dL_graze_17 hl (by decide) rfl (fun ls hl => ?_)
      refine lv_iconst (v := 2) hx hb dL_graze_19 (by decide) ?_
      obtain rfl := Option.some.inj hF
      exact en_i hQ (Nat.le_of_ble_eq_true rfl) (Nat.le_of_ble_eq_true rfl) hx hb hr hlocks hP hD hS rfl dL_graze_20
    have hF := q_brn w5_1 hF
    exact absurd hF (by simp)
  have hF := q_sml er2 hF
  refine lv_i2l hx hb dL_graze_8 rfl ?_
  refine vi_last hx hb hst.k hP hD hS 147 3 rfl rfl (f := y) (k := 0) (by decide) (by decide) dL_graze_9 (fun H locs hP hD hS => ?_)
  have hP : va_P E.1 vwCl (List.flatten [w_VBR a o x.2.2.2.1 x.2.2.2.2.1 x.2.2.2.2.2, w_ValleyR a (o + 1), w_Key E a (o + 2) (q1.2.1, q1.2.2.1, q1.2.2.2.1), w_Bells E a (o + 3) (q1.2.2.2.2.1, q1.2.2.2.2.2.1, q1.2.2.2.2.2.2.1), w_Mel E a (o + 6) (q1.2.2.2.2.2.2.2.1, q1.2.2.2.2.2.2.2.2.1, q1.2.2.2.2.2.2.2.2.2.1), w_Cliffs E a (o + 10) (q1.2.2.2.2.2.2.2.2.2.2.1, q1.2.2.2.2.2.2.2.2.2.2.2.1, q1.2.2.2.2.2.2.2.2.2.2.2.2.1), w_ValleyR a (o + 13), w_Key E a (o + 14) x.1.2.1.1, w_Bells E a (o + 15) x.1.2.1.2.1, w_Mel E a (o + 18) x.1.2.1.2.2.1, w_Cliffs E a (o + 22) x.1.2.1.2.2.2, w_Prog E a (o + 25) x.1.2.2.2.1, w_Chord E a (o + 31) x.1.2.2.2.2, w_Key E a (o + 34) x.2.1, w_Line E a (o + 35) x.2.2.1, w_Hist E a (o + 37) (q1.2.2.2.2.2.2.2.2.2.2.2.2.2.1, q1.2.2.2.2.2.2.2.2.2.2.2.2.2.2.1, q1.2.2.2.2.2.2.2.2.2.2.2.2.2.2.2), w_LongArr E ay oy (vp_updL y 0 (r2.toInt64))]) H := hP
  have hD : va_D A (List.flatten [w_VBR a o x.2.2.2.1 x.2.2.2.2.1 x.2.2.2.2.2, w_ValleyR a (o + 1), w_Key E a (o + 2) (q1.2.1, q1.2.2.1, q1.2.2.2.1), w_Bells E a (o + 3) (q1.2.2.2.2.1, q1.2.2.2.2.2.1, q1.2.2.2.2.2.2.1), w_Mel E a (o + 6) (q1.2.2.2.2.2.2.2.1, q1.2.2.2.2.2.2.2.2.1, q1.2.2.2.2.2.2.2.2.2.1), w_Cliffs E a (o + 10) (q1.2.2.2.2.2.2.2.2.2.2.1, q1.2.2.2.2.2.2.2.2.2.2.2.1, q1.2.2.2.2.2.2.2.2.2.2.2.2.1), w_ValleyR a (o + 13), w_Key E a (o + 14) x.1.2.1.1, w_Bells E a (o + 15) x.1.2.1.2.1, w_Mel E a (o + 18) x.1.2.1.2.2.1, w_Cliffs E a (o + 22) x.1.2.1.2.2.2, w_Prog E a (o + 25) x.1.2.2.2.1, w_Chord E a (o + 31) x.1.2.2.2.2, w_Key E a (o + 34) x.2.1, w_Line E a (o + 35) x.2.2.1, w_Hist E a (o + 37) (q1.2.2.2.2.2.2.2.2.2.2.2.2.2.1, q1.2.2.2.2.2.2.2.2.2.2.2.2.2.2.1, q1.2.2.2.2.2.2.2.2.2.2.2.2.2.2.2), w_LongArr E ay oy (vp_updL y 0 (r2.toInt64))]) := hD
  refine lv_goto (tgt := 21) hx hb dL_graze_10 (by decide) ?_
  refine lv_iconst (v := 0) hx hb dL_graze_21 (by decide) ?_
  obtain rfl := Option.some.inj hF
  exact en_i hQ (Nat.le_of_ble_eq_true rfl) (Nat.le_of_ble_eq_true rfl) hx hb hr hlocks hP hD hS rfl dL_graze_22

/-! L_setKey -/
theorem dL_setKey_0 : decode cL_setKey 0 = .ok (.aload_n 3, 1) := by decide +kernel
theorem dL_setKey_1 : decode cL_setKey 1 = .ok (.iconst 0, 1) := by decide +kernel
theorem dL_setKey_2 : decode cL_setKey 2 = .ok (.aload_n 0, 1) := by decide +kernel
theorem dL_setKey_3 : decode cL_setKey 3 = .ok (.iload_n 1, 1) := by decide +kernel
theorem dL_setKey_4 : decode cL_setKey 4 = .ok (.iload_n 2, 1) := by decide +kernel
theorem dL_setKey_5 : decode cL_setKey 5 = .ok (.invokevirtual 32, 3) := by decide +kernel
theorem dL_setKey_8 : decode cL_setKey 8 = .ok (.i2l, 1) := by decide +kernel
theorem dL_setKey_9 : decode cL_setKey 9 = .ok (.lastore, 1) := by decide +kernel
theorem dL_setKey_10 : decode cL_setKey 10 = .ok (.goto 7, 3) := by decide +kernel
theorem dL_setKey_13 : decode cL_setKey 13 = .ok (.astore 4, 2) := by decide +kernel
theorem dL_setKey_15 : decode cL_setKey 15 = .ok (.iconst 1, 1) := by decide +kernel
theorem dL_setKey_16 : decode cL_setKey 16 = .ok (.ireturn, 1) := by decide +kernel
theorem dL_setKey_17 : decode cL_setKey 17 = .ok (.iconst 0, 1) := by decide +kernel
theorem dL_setKey_18 : decode cL_setKey 18 = .ok (.ireturn, 1) := by decide +kernel
def f_L_setKey (x_valley_key_tonic : Int32) (x_valley_key_isMinor : Int32) (x_valley_key_tolerance : Int32) (x_valley_bells_herds : (Nat → Int32)) (x_valley_bells_pitches : (Nat → Int32)) (x_valley_bells_count : Int32) (x_valley_melodies_lengths : (Nat → Int32)) (x_valley_melodies_entries : (Nat → Int32)) (x_valley_melodies_tones : (Nat → Int32)) (x_valley_cliffs_delays : (Nat → Int32)) (x_valley_cliffs_transpositions : (Nat → Int32)) (x_valley_cliffs_count : Int32) (x_history_slots : (Nat → Valley_t)) (x_history_current : Int32) (x_history_count : Int32) (y_v : (Nat → Int64)) (p2 : Int32) (p3 : Int32) : Option (Int32 × Int32 × Int32 × Int32 × (Nat → Int32) × (Nat → Int32) × Int32 × (Nat → Int32) × (Nat → Int32) × (Nat → Int32) × (Nat → Int32) × (Nat → Int32) × Int32 × (Nat → Valley_t) × Int32 × Int32 × (Nat → Int64)) :=
  q_bd (f_X10_setKey x_valley_key_tonic x_valley_key_isMinor x_valley_key_tolerance x_valley_bells_herds x_valley_bells_pitches x_valley_bells_count x_valley_melodies_lengths x_valley_melodies_entries x_valley_melodies_tones x_valley_cliffs_delays x_valley_cliffs_transpositions x_valley_cliffs_count x_history_slots x_history_current x_history_count p2 p3) (fun q1 =>
  q_sm q1.1 (fun X => q_br (X = "java/lang/IllegalArgumentException") (
  some (1, q1.2.1, q1.2.2.1, q1.2.2.2.1, q1.2.2.2.2.1, q1.2.2.2.2.2.1, q1.2.2.2.2.2.2.1, q1.2.2.2.2.2.2.2.1, q1.2.2.2.2.2.2.2.2.1, q1.2.2.2.2.2.2.2.2.2.1, q1.2.2.2.2.2.2.2.2.2.2.1, q1.2.2.2.2.2.2.2.2.2.2.2.1, q1.2.2.2.2.2.2.2.2.2.2.2.2.1, q1.2.2.2.2.2.2.2.2.2.2.2.2.2.1, q1.2.2.2.2.2.2.2.2.2.2.2.2.2.2.1, q1.2.2.2.2.2.2.2.2.2.2.2.2.2.2.2, y_v)) (
  none)) (fun r2 =>
  some (0, q1.2.1, q1.2.2.1, q1.2.2.2.1, q1.2.2.2.2.1, q1.2.2.2.2.2.1, q1.2.2.2.2.2.2.1, q1.2.2.2.2.2.2.2.1, q1.2.2.2.2.2.2.2.2.1, q1.2.2.2.2.2.2.2.2.2.1, q1.2.2.2.2.2.2.2.2.2.2.1, q1.2.2.2.2.2.2.2.2.2.2.2.1, q1.2.2.2.2.2.2.2.2.2.2.2.2.1, q1.2.2.2.2.2.2.2.2.2.2.2.2.2.1, q1.2.2.2.2.2.2.2.2.2.2.2.2.2.2.1, q1.2.2.2.2.2.2.2.2.2.2.2.2.2.2.2, vp_updL y_v 0 (r2.toInt64))))
theorem hv_L_setKey : yL_setKey.cls = RL ∧ yL_setKey.cls ≠ "java/lang/invoke/MethodHandle" ∧ yL_setKey.cls ≠ "java/lang/invoke/VarHandle" ∧ (parseMethodDescriptor yL_setKey.desc).map (fun d => d.parameters.length) = some 4 := by decide +kernel
abbrev rm_L_setKey : Room := { frames := 8, cells := 1, slots := 6, locals := 180 }
set_option maxHeartbeats 4000000 in
set_option maxRecDepth 100000 in
theorem k_L_setKey (l : Launch) (E : ET) (a : Nat → Nat) (o : Nat) (x : VB_t) (ay : Nat → Nat) (oy : Nat) (y : (Nat → Int64)) (p2 : Int32) (p3 : Int32) (res : Int32 × Int32 × Int32 × Int32 × (Nat → Int32) × (Nat → Int32) × Int32 × (Nat → Int32) × (Nat → Int32) × (Nat → Int32) × (Nat → Int32) × (Nat → Int32) × Int32 × (Nat → Valley_t) × Int32 × Int32 × (Nat → Int64)) (hF : f_L_setKey x.1.1.1.1 x.1.1.1.2.1 x.1.1.1.2.2 x.1.1.2.1.1 x.1.1.2.1.2.1 x.1.1.2.1.2.2 x.1.1.2.2.1.1 x.1.1.2.2.1.2.1 x.1.1.2.2.1.2.2 x.1.1.2.2.2.1 x.1.1.2.2.2.2.1 x.1.1.2.2.2.2.2 x.1.2.2.1.1 x.1.2.2.1.2.1 x.1.2.2.1.2.2 y p2 p3 = some res) (sz : Nat) (hlt : l.stackTraces = false) : CtI l yL_setKey (mwsH yL_setKey cL_setKey 5 (some .int) [(0, 10, 13, 15)]) rm_L_setKey 1 6 [.ref (a o), .int p2, .int p3, .ref (ay oy)] E (bl_VB E a o x ++ bl_LongArr E ay oy y) res.1 (bl_VB E a o ((((res.2.1, res.2.2.1, res.2.2.2.1), (res.2.2.2.2.1, res.2.2.2.2.2.1, res.2.2.2.2.2.2.1), (res.2.2.2.2.2.2.2.1, res.2.2.2.2.2.2.2.2.1, res.2.2.2.2.2.2.2.2.2.1), (res.2.2.2.2.2.2.2.2.2.2.1, res.2.2.2.2.2.2.2.2.2.2.2.1, res.2.2.2.2.2.2.2.2.2.2.2.2.1)), x.1.2.1, (res.2.2.2.2.2.2.2.2.2.2.2.2.2.1, res.2.2.2.2.2.2.2.2.2.2.2.2.2.2.1, res.2.2.2.2.2.2.2.2.2.2.2.2.2.2.2.1), x.1.2.2.2.1, x.1.2.2.2.2), (x.2.1, x.2.2.1, x.2.2.2.1, x.2.2.2.2.1, x.2.2.2.2.2)) ++ bl_LongArr E ay oy res.2.2.2.2.2.2.2.2.2.2.2.2.2.2.2.2) sz := by
  refine mk_H (by decide +kernel) (Nat.le_of_ble_eq_true rfl) ?_
  intro p e s m below meth c A args Q ls hAe hsz hQ hx hb hr hml hin ha hown hlocks hA hz hzs hst htab hP hD hS hl
  have hown : s.vm.findClass RL = some m.cls := hown
  rw [hAe] at hQ
  subst hsz
  have hP : va_P E.1 vwCl (List.flatten [w_VBR a o x.2.2.2.1 x.2.2.2.2.1 x.2.2.2.2.2, w_ValleyR a (o + 1), w_Key E a (o + 2) x.1.1.1, w_Bells E a (o + 3) x.1.1.2.1, w_Mel E a (o + 6) x.1.1.2.2.1, w_Cliffs E a (o + 10) x.1.1.2.2.2, w_ValleyR a (o + 13), w_Key E a (o + 14) x.1.2.1.1, w_Bells E a (o + 15) x.1.2.1.2.1, w_Mel E a (o + 18) x.1.2.1.2.2.1, w_Cliffs E a (o + 22) x.1.2.1.2.2.2, w_Prog E a (o + 25) x.1.2.2.2.1, w_Chord E a (o + 31) x.1.2.2.2.2, w_Key E a (o + 34) x.2.1, w_Line E a (o + 35) x.2.2.1, w_Hist E a (o + 37) x.1.2.2.1, w_LongArr E ay oy y]) s.heap := hP
  have hD : va_D A (List.flatten [w_VBR a o x.2.2.2.1 x.2.2.2.2.1 x.2.2.2.2.2, w_ValleyR a (o + 1), w_Key E a (o + 2) x.1.1.1, w_Bells E a (o + 3) x.1.1.2.1, w_Mel E a (o + 6) x.1.1.2.2.1, w_Cliffs E a (o + 10) x.1.1.2.2.2, w_ValleyR a (o + 13), w_Key E a (o + 14) x.1.2.1.1, w_Bells E a (o + 15) x.1.2.1.2.1, w_Mel E a (o + 18) x.1.2.1.2.2.1, w_Cliffs E a (o + 22) x.1.2.1.2.2.2, w_Prog E a (o + 25) x.1.2.2.2.1, w_Chord E a (o + 31) x.1.2.2.2.2, w_Key E a (o + 34) x.2.1, w_Line E a (o + 35) x.2.2.1, w_Hist E a (o + 37) x.1.2.2.1, w_LongArr E ay oy y]) := hD
  have hl : lv_has ls 5 [(0, .ref (a o)), (1, .int p2), (2, .int p3), (3, .ref (ay oy))] := hl
  generalize hHe : s.heap = H at hP
  have hS : va_S A s.heap H [] := by rw [← hHe]; exact hS
  generalize ([] : List Loc) = locs at hS ⊢
  unfold f_L_setKey at hF
  refine lv_aload_n hx hb dL_setKey_0 rfl (lv_at hl 3 rfl) ?_
  refine lv_iconst (v := 0) hx hb dL_setKey_1 (by decide) ?_
  refine lv_aload_n hx hb dL_setKey_2 rfl (lv_at hl 0 rfl) ?_
  refine lv_iload_n hx hb dL_setKey_3 rfl (lv_at hl 1 rfl) ?_
  refine lv_iload_n hx hb dL_setKey_4 rfl (lv_at hl 2 rfl) ?_
  obtain ⟨q1, hq1, hF⟩ := q_bdi hF
  refine cx_i (ro := q1.1) (Lc := [w_VBR a o x.2.2.2.1 x.2.2.2.2.1 x.2.2.2.2.2, w_ValleyR a (o + 1), w_Key E a (o + 2) x.1.1.1, w_Bells E a (o + 3) x.1.1.2.1, w_Mel E a (o + 6) x.1.1.2.2.1, w_Cliffs E a (o + 10) x.1.1.2.2.2, w_ValleyR a (o + 13), w_Key E a (o + 14) x.1.2.1.1, w_Bells E a (o + 15) x.1.2.1.2.1, w_Mel E a (o + 18) x.1.2.1.2.2.1, w_Cliffs E a (o + 22) x.1.2.1.2.2.2, w_Prog E a (o + 25) x.1.2.2.2.1, w_Chord E a (o + 31) x.1.2.2.2.2, w_Key E a (o + 34) x.2.1, w_Line E a (o + 35) x.2.2.1, w_Hist E a (o + 37) x.1.2.2.1]) (Lc' := [w_VBR a o x.2.2.2.1 x.2.2.2.2.1 x.2.2.2.2.2, w_ValleyR a (o + 1), w_Key E a (o + 2) (q1.2.1, q1.2.2.1, q1.2.2.2.1), w_Bells E a (o + 3) (q1.2.2.2.2.1, q1.2.2.2.2.2.1, q1.2.2.2.2.2.2.1), w_Mel E a (o + 6) (q1.2.2.2.2.2.2.2.1, q1.2.2.2.2.2.2.2.2.1, q1.2.2.2.2.2.2.2.2.2.1), w_Cliffs E a (o + 10) (q1.2.2.2.2.2.2.2.2.2.2.1, q1.2.2.2.2.2.2.2.2.2.2.2.1, q1.2.2.2.2.2.2.2.2.2.2.2.2.1), w_ValleyR a (o + 13), w_Key E a (o + 14) x.1.2.1.1, w_Bells E a (o + 15) x.1.2.1.2.1, w_Mel E a (o + 18) x.1.2.1.2.2.1, w_Cliffs E a (o + 22) x.1.2.1.2.2.2, w_Prog E a (o + 25) x.1.2.2.2.1, w_Chord E a (o + 31) x.1.2.2.2.2, w_Key E a (o + 34) x.2.1, w_Line E a (o + 35) x.2.2.1, w_Hist E a (o + 37) (q1.2.2.2.2.2.2.2.2.2.2.2.2.2.1, q1.2.2.2.2.2.2.2.2.2.2.2.2.2.2.1, q1.2.2.2.2.2.2.2.2.2.2.2.2.2.2.2)]) (L' := [w_VBR a o x.2.2.2.1 x.2.2.2.2.1 x.2.2.2.2.2, w_ValleyR a (o + 1), w_Key E a (o + 2) (q1.2.1, q1.2.2.1, q1.2.2.2.1), w_Bells E a (o + 3) (q1.2.2.2.2.1, q1.2.2.2.2.2.1, q1.2.2.2.2.2.2.1), w_Mel E a (o + 6) (q1.2.2.2.2.2.2.2.1, q1.2.2.2.2.2.2.2.2.1, q1.2.2.2.2.2.2.2.2.2.1), w_Cliffs E a (o + 10) (q1.2.2.2.2.2.2.2.2.2.2.1, q1.2.2.2.2.2.2.2.2.2.2.2.1, q1.2.2.2.2.2.2.2.2.2.2.2.2.1), w_ValleyR a (o + 13), w_Key E a (o + 14) x.1.2.1.1, w_Bells E a (o + 15) x.1.2.1.2.1, w_Mel E a (o + 18) x.1.2.1.2.2.1, w_Cliffs E a (o + 22) x.1.2.1.2.2.2, w_Prog E a (o + 25) x.1.2.2.2.1, w_Chord E a (o + 31) x.1.2.2.2.2, w_Key E a (o + 34) x.2.1, w_Line E a (o + 35) x.2.2.1, w_Hist E a (o + 37) (q1.2.2.2.2.2.2.2.2.2.2.2.2.2.1, q1.2.2.2.2.2.2.2.2.2.2.2.2.2.2.1, q1.2.2.2.2.2.2.2.2.2.2.2.2.2.2.2), w_LongArr E ay oy y]) (vx_runV (As := [.int p2, .int p3]) (rest := [.int 0, .ref (ay oy)]) ⟨hx, hb, hml, hown, ha⟩ (k_X10_setKey l E a o x p2 p3 q1 hq1 H.size hlt) (cwV 2 ha (gi_V (fun _ h => h) mw1143 mw1144 mw1145 mw74 mw1146) rfl rfl rfl hv_X10_setKey ⟨(Nat.le_of_ble_eq_true rfl), (Nat.le_of_ble_eq_true rfl)⟩) ⟨pre_blind, va_recv hst.k (fr_P hP [0, 1, 2, 3, 4, 5, 6, 7, 8, 9, 10, 11, 12, 13, 14, 15] rfl) (ci := 12) (q0 := 0) rfl rfl, pre_at hP hD hS hz hzs hst [0, 1, 2, 3, 4, 5, 6, 7, 8, 9, 10, 11, 12, 13, 14, 15] (by decide) rfl rfl⟩ rfl rfl hl.1 rfl (lv_room (Nat.le_of_ble_eq_true rfl)) dL_setKey_5 ⟨(Nat.le_of_ble_eq_true rfl), (Nat.le_of_ble_eq_true rfl)⟩) hP hD hS hA [0, 1, 2, 3, 4, 5, 6, 7, 8, 9, 10, 11, 12, 13, 14, 15] (by decide) rfl rfl rfl rfl (fun X ce q9 H locs eX h1 h2 h3 hP hD hS => ?_) (fun r2 H locs er2 hP hD hS => ?_)
  · have hF := q_smr eX hF
    by_cases w5_0 : X = "java/lang/IllegalArgumentException"
    · have hF := q_brp w5_0 hF
      subst w5_0
      refine vx_catch (E := "java/lang/IllegalArgumentException") (name := "java/lang/IllegalArgumentException") hown [] ⟨0, 10, 13, 15⟩ [] htab (fun _ h => nomatch h) (by decide) (by decide) (ha _ mw963) (va_Nw.use rfl (hst.cs cs_IllegalArgumentException)) h1 h2 h3 ?_
      refine lv_astore (lv' := [(4, .ref q9), (0, .ref (a o)), (1, .int p2), (2, .int p3), (3, .ref (ay oy))]) hx hb dL_setKey_13 hl (by decide) rfl (fun ls hl => ?_)
      refine lv_iconst (v := 1) hx hb dL_setKey_15 (by decide) ?_
      obtain rfl := Option.some.inj hF
      exact en_i hQ (Nat.le_of_ble_eq_true rfl) (Nat.le_of_ble_eq_true rfl) hx hb hr hlocks hP hD hS rfl dL_setKey_16
    have hF := q_brn w5_0 hF
    exact absurd hF (by simp)
  have hF := q_sml er2 hF
  refine lv_i2l hx hb dL_setKey_8 rfl ?_
  refine vi_last hx hb hst.k hP hD hS 147 3 rfl rfl (f := y) (k := 0) (by decide) (by decide) dL_setKey_9 (fun H locs hP hD hS => ?_)
  have hP : va_P E.1 vwCl (List.flatten [w_VBR a o x.2.2.2.1 x.2.2.2.2.1 x.2.2.2.2.2, w_ValleyR a (o + 1), w_Key E a (o + 2) (q1.2.1, q1.2.2.1, q1.2.2.2.1), w_Bells E a (o + 3) (q1.2.2.2.2.1, q1.2.2.2.2.2.1, q1.2.2.2.2.2.2.1), w_Mel E a (o + 6) (q1.2.2.2.2.2.2.2.1, q1.2.2.2.2.2.2.2.2.1, q1.2.2.2.2.2.2.2.2.2.1), w_Cliffs E a (o + 10) (q1.2.2.2.2.2.2.2.2.2.2.1, q1.2.2.2.2.2.2.2.2.2.2.2.1, q1.2.2.2.2.2.2.2.2.2.2.2.2.1), w_ValleyR a (o + 13), w_Key E a (o + 14) x.1.2.1.1, w_Bells E a (o + 15) x.1.2.1.2.1, w_Mel E a (o + 18) x.1.2.1.2.2.1, w_Cliffs E a (o + 22) x.1.2.1.2.2.2, w_Prog E a (o + 25) x.1.2.2.2.1, w_Chord E a (o + 31) x.1.2.2.2.2, w_Key E a (o + 34) x.2.1, w_Line E a (o + 35) x.2.2.1, w_Hist E a (o + 37) (q1.2.2.2.2.2.2.2.2.2.2.2.2.2.1, q1.2.2.2.2.2.2.2.2.2.2.2.2.2.2.1, q1.2.2.2.2.2.2.2.2.2.2.2.2.2.2.2), w_LongArr E ay oy (vp_updL y 0 (r2.toInt64))]) H := hP
  have hD : va_D A (List.flatten [w_VBR a o x.2.2.2.1 x.2.2.2.2.1 x.2.2.2.2.2, w_ValleyR a (o + 1), w_Key E a (o + 2) (q1.2.1, q1.2.2.1, q1.2.2.2.1), w_Bells E a (o + 3) (q1.2.2.2.2.1, q1.2.2.2.2.2.1, q1.2.2.2.2.2.2.1), w_Mel E a (o + 6) (q1.2.2.2.2.2.2.2.1, q1.2.2.2.2.2.2.2.2.1, q1.2.2.2.2.2.2.2.2.2.1), w_Cliffs E a (o + 10) (q1.2.2.2.2.2.2.2.2.2.2.1, q1.2.2.2.2.2.2.2.2.2.2.2.1, q1.2.2.2.2.2.2.2.2.2.2.2.2.1), w_ValleyR a (o + 13), w_Key E a (o + 14) x.1.2.1.1, w_Bells E a (o + 15) x.1.2.1.2.1, w_Mel E a (o + 18) x.1.2.1.2.2.1, w_Cliffs E a (o + 22) x.1.2.1.2.2.2, w_Prog E a (o + 25) x.1.2.2.2.1, w_Chord E a (o + 31) x.1.2.2.2.2, w_Key E a (o + 34) x.2.1, w_Line E a (o + 35) x.2.2.1, w_Hist E a (o + 37) (q1.2.2.2.2.2.2.2.2.2.2.2.2.2.1, q1.2.2.2.2.2.2.2.2.2.2.2.2.2.2.1, q1.2.2.2.2.2.2.2.2.2.2.2.2.2.2.2), w_LongArr E ay oy (vp_updL y 0 (r2.toInt64))]) := hD
  refine lv_goto (tgt := 17) hx hb dL_setKey_10 (by decide) ?_
  refine lv_iconst (v := 0) hx hb dL_setKey_17 (by decide) ?_
  obtain rfl := Option.some.inj hF
  exact en_i hQ (Nat.le_of_ble_eq_true rfl) (Nat.le_of_ble_eq_true rfl) hx hb hr hlocks hP hD hS rfl dL_setKey_18

/-! L_setTolerance -/
theorem dL_setTolerance_0 : decode cL_setTolerance 0 = .ok (.aload_n 2, 1) := by decide +kernel
theorem dL_setTolerance_1 : decode cL_setTolerance 1 = .ok (.iconst 0, 1) := by decide +kernel
theorem dL_setTolerance_2 : decode cL_setTolerance 2 = .ok (.aload_n 0, 1) := by decide +kernel
theorem dL_setTolerance_3 : decode cL_setTolerance 3 = .ok (.iload_n 1, 1) := by decide +kernel
theorem dL_setTolerance_4 : decode cL_setTolerance 4 = .ok (.invokevirtual 36, 3) := by decide +kernel
theorem dL_setTolerance_7 : decode cL_setTolerance 7 = .ok (.i2l, 1) := by decide +kernel
theorem dL_setTolerance_8 : decode cL_setTolerance 8 = .ok (.lastore, 1) := by decide +kernel
theorem dL_setTolerance_9 : decode cL_setTolerance 9 = .ok (.goto 6, 3) := by decide +kernel
theorem dL_setTolerance_12 : decode cL_setTolerance 12 = .ok (.astore_n 3, 1) := by decide +kernel
theorem dL_setTolerance_13 : decode cL_setTolerance 13 = .ok (.iconst 1, 1) := by decide +kernel
theorem dL_setTolerance_14 : decode cL_setTolerance 14 = .ok (.ireturn, 1) := by decide +kernel
theorem dL_setTolerance_15 : decode cL_setTolerance 15 = .ok (.iconst 0, 1) := by decide +kernel
theorem dL_setTolerance_16 : decode cL_setTolerance 16 = .ok (.ireturn, 1) := by decide +kernel
def f_L_setTolerance (x_valley_key_tonic : Int32) (x_valley_key_isMinor : Int32) (x_valley_key_tolerance : Int32) (x_valley_bells_herds : (Nat → Int32)) (x_valley_bells_pitches : (Nat → Int32)) (x_valley_bells_count : Int32) (x_valley_melodies_lengths : (Nat → Int32)) (x_valley_melodies_entries : (Nat → Int32)) (x_valley_melodies_tones : (Nat → Int32)) (x_valley_cliffs_delays : (Nat → Int32)) (x_valley_cliffs_transpositions : (Nat → Int32)) (x_valley_cliffs_count : Int32) (x_history_slots : (Nat → Valley_t)) (x_history_current : Int32) (x_history_count : Int32) (y_v : (Nat → Int64)) (p2 : Int32) : Option (Int32 × Int32 × Int32 × Int32 × (Nat → Int32) × (Nat → Int32) × Int32 × (Nat → Int32) × (Nat → Int32) × (Nat → Int32) × (Nat → Int32) × (Nat → Int32) × Int32 × (Nat → Valley_t) × Int32 × Int32 × (Nat → Int64)) :=
  q_bd (f_X10_setTolerance x_valley_key_tonic x_valley_key_isMinor x_valley_key_tolerance x_valley_bells_herds x_valley_bells_pitches x_valley_bells_count x_valley_melodies_lengths x_valley_melodies_entries x_valley_melodies_tones x_valley_cliffs_delays x_valley_cliffs_transpositions x_valley_cliffs_count x_history_slots x_history_current x_history_count p2) (fun q1 =>
  q_sm q1.1 (fun X => q_br (X = "java/lang/IllegalArgumentException") (
  some (1, q1.2.1, q1.2.2.1, q1.2.2.2.1, q1.2.2.2.2.1, q1.2.2.2.2.2.1, q1.2.2.2.2.2.2.1, q1.2.2.2.2.2.2.2.1, q1.2.2.2.2.2.2.2.2.1, q1.2.2.2.2.2.2.2.2.2.1, q1.2.2.2.2.2.2.2.2.2.2.1, q1.2.2.2.2.2.2.2.2.2.2.2.1, q1.2.2.2.2.2.2.2.2.2.2.2.2.1, q1.2.2.2.2.2.2.2.2.2.2.2.2.2.1, q1.2.2.2.2.2.2.2.2.2.2.2.2.2.2.1, q1.2.2.2.2.2.2.2.2.2.2.2.2.2.2.2, y_v)) (
  none)) (fun r2 =>
  some (0, q1.2.1, q1.2.2.1, q1.2.2.2.1, q1.2.2.2.2.1, q1.2.2.2.2.2.1, q1.2.2.2.2.2.2.1, q1.2.2.2.2.2.2.2.1, q1.2.2.2.2.2.2.2.2.1, q1.2.2.2.2.2.2.2.2.2.1, q1.2.2.2.2.2.2.2.2.2.2.1, q1.2.2.2.2.2.2.2.2.2.2.2.1, q1.2.2.2.2.2.2.2.2.2.2.2.2.1, q1.2.2.2.2.2.2.2.2.2.2.2.2.2.1, q1.2.2.2.2.2.2.2.2.2.2.2.2.2.2.1, q1.2.2.2.2.2.2.2.2.2.2.2.2.2.2.2, vp_updL y_v 0 (r2.toInt64))))
theorem hv_L_setTolerance : yL_setTolerance.cls = RL ∧ yL_setTolerance.cls ≠ "java/lang/invoke/MethodHandle" ∧ yL_setTolerance.cls ≠ "java/lang/invoke/VarHandle" ∧ (parseMethodDescriptor yL_setTolerance.desc).map (fun d => d.parameters.length) = some 3 := by decide +kernel
abbrev rm_L_setTolerance : Room := { frames := 8, cells := 1, slots := 6, locals := 179 }
set_option maxHeartbeats 4000000 in
set_option maxRecDepth 100000 in
theorem k_L_setTolerance (l : Launch) (E : ET) (a : Nat → Nat) (o : Nat) (x : VB_t) (ay : Nat → Nat) (oy : Nat) (y : (Nat → Int64)) (p2 : Int32) (res : Int32 × Int32 × Int32 × Int32 × (Nat → Int32) × (Nat → Int32) × Int32 × (Nat → Int32) × (Nat → Int32) × (Nat → Int32) × (Nat → Int32) × (Nat → Int32) × Int32 × (Nat → Valley_t) × Int32 × Int32 × (Nat → Int64)) (hF : f_L_setTolerance x.1.1.1.1 x.1.1.1.2.1 x.1.1.1.2.2 x.1.1.2.1.1 x.1.1.2.1.2.1 x.1.1.2.1.2.2 x.1.1.2.2.1.1 x.1.1.2.2.1.2.1 x.1.1.2.2.1.2.2 x.1.1.2.2.2.1 x.1.1.2.2.2.2.1 x.1.1.2.2.2.2.2 x.1.2.2.1.1 x.1.2.2.1.2.1 x.1.2.2.1.2.2 y p2 = some res) (sz : Nat) (hlt : l.stackTraces = false) : CtI l yL_setTolerance (mwsH yL_setTolerance cL_setTolerance 4 (some .int) [(0, 9, 12, 15)]) rm_L_setTolerance 1 6 [.ref (a o), .int p2, .ref (ay oy)] E (bl_VB E a o x ++ bl_LongArr E ay oy y) res.1 (bl_VB E a o ((((res.2.1, res.2.2.1, res.2.2.2.1), (res.2.2.2.2.1, res.2.2.2.2.2.1, res.2.2.2.2.2.2.1), (res.2.2.2.2.2.2.2.1, res.2.2.2.2.2.2.2.2.1, res.2.2.2.2.2.2.2.2.2.1), (res.2.2.2.2.2.2.2.2.2.2.1, res.2.2.2.2.2.2.2.2.2.2.2.1, res.2.2.2.2.2.2.2.2.2.2.2.2.1)), x.1.2.1, (res.2.2.2.2.2.2.2.2.2.2.2.2.2.1, res.2.2.2.2.2.2.2.2.2.2.2.2.2.2.1, res.2.2.2.2.2.2.2.2.2.2.2.2.2.2.2.1), x.1.2.2.2.1, x.1.2.2.2.2), (x.2.1, x.2.2.1, x.2.2.2.1, x.2.2.2.2.1, x.2.2.2.2.2)) ++ bl_LongArr E ay oy res.2.2.2.2.2.2.2.2.2.2.2.2.2.2.2.2) sz := by
  refine mk_H (by decide +kernel) (Nat.le_of_ble_eq_true rfl) ?_
  intro p e s m below meth c A args Q ls hAe hsz hQ hx hb hr hml hin ha hown hlocks hA hz hzs hst htab hP hD hS hl
  have hown : s.vm.findClass RL = some m.cls := hown
  rw [hAe] at hQ
  subst hsz
  have hP : va_P E.1 vwCl (List.flatten [w_VBR a o x.2.2.2.1 x.2.2.2.2.1 x.2.2.2.2.2, w_ValleyR a (o + 1), w_Key E a (o + 2) x.1.1.1, w_Bells E a (o + 3) x.1.1.2.1, w_Mel E a (o + 6) x.1.1.2.2.1, w_Cliffs E a (o + 10) x.1.1.2.2.2, w_ValleyR a (o + 13), w_Key E a (o + 14) x.1.2.1.1, w_Bells E a (o + 15) x.1.2.1.2.1, w_Mel E a (o + 18) x.1.2.1.2.2.1, w_Cliffs E a (o + 22) x.1.2.1.2.2.2, w_Prog E a (o + 25) x.1.2.2.2.1, w_Chord E a (o + 31) x.1.2.2.2.2, w_Key E a (o + 34) x.2.1, w_Line E a (o + 35) x.2.2.1, w_Hist E a (o + 37) x.1.2.2.1, w_LongArr E ay oy y]) s.heap := hP
  have hD : va_D A (List.flatten [w_VBR a o x.2.2.2.1 x.2.2.2.2.1 x.2.2.2.2.2, w_ValleyR a (o + 1), w_Key E a (o + 2) x.1.1.1, w_Bells E a (o + 3) x.1.1.2.1, w_Mel E a (o + 6) x.1.1.2.2.1, w_Cliffs E a (o + 10) x.1.1.2.2.2, w_ValleyR a (o + 13), w_Key E a (o + 14) x.1.2.1.1, w_Bells E a (o + 15) x.1.2.1.2.1, w_Mel E a (o + 18) x.1.2.1.2.2.1, w_Cliffs E a (o + 22) x.1.2.1.2.2.2, w_Prog E a (o + 25) x.1.2.2.2.1, w_Chord E a (o + 31) x.1.2.2.2.2, w_Key E a (o + 34) x.2.1, w_Line E a (o + 35) x.2.2.1, w_Hist E a (o + 37) x.1.2.2.1, w_LongArr E ay oy y]) := hD
  have hl : lv_has ls 4 [(0, .ref (a o)), (1, .int p2), (2, .ref (ay oy))] := hl
  generalize hHe : s.heap = H at hP
  have hS : va_S A s.heap H [] := by rw [← hHe]; exact hS
  generalize ([] : List Loc) = locs at hS ⊢
  unfold f_L_setTolerance at hF
  refine lv_aload_n hx hb dL_setTolerance_0 rfl (lv_at hl 2 rfl) ?_
  refine lv_iconst (v := 0) hx hb dL_setTolerance_1 (by decide) ?_
  refine lv_aload_n hx hb dL_setTolerance_2 rfl (lv_at hl 0 rfl) ?_
  refine lv_iload_n hx hb dL_setTolerance_3 rfl (lv_at hl 1 rfl) ?_
  obtain ⟨q1, hq1, hF⟩ := q_bdi hF
  refine cx_i (ro := q1.1) (Lc := [w_VBR a o x.2.2.2.1 x.2.2.2.2.1 x.2.2.2.2.2, w_ValleyR a (o + 1), w_Key E a (o + 2) x.1.1.1, w_Bells E a (o + 3) x.1.1.2.1, w_Mel E a (o + 6) x.1.1.2.2.1, w_Cliffs E a (o + 10) x.1.1.2.2.2, w_ValleyR a (o + 13), w_Key E a (o + 14) x.1.2.1.1, w_Bells E a (o + 15) x.1.2.1.2.1, w_Mel E a (o + 18) x.1.2.1.2.2.1, w_Cliffs E a (o + 22) x.1.2.1.2.2.2, w_Prog E a (o + 25) x.1.2.2.2.1, w_Chord E a (o + 31) x.1.2.2.2.2, w_Key E a (o + 34) x.2.1, w_Line E a (o + 35) x.2.2.1, w_Hist E a (o + 37) x.1.2.2.1]) (Lc' := [w_VBR a o x.2.2.2.1 x.2.2.2.2.1 x.2.2.2.2.2, w_ValleyR a (o + 1), w_Key E a (o + 2) (q1.2.1, q1.2.2.1, q1.2.2.2.1), w_Bells E a (o + 3) (q1.2.2.2.2.1, q1.2.2.2.2.2.1, q1.2.2.2.2.2.2.1), w_Mel E a (o + 6) (q1.2.2.2.2.2.2.2.1, q1.2.2.2.2.2.2.2.2.1, q1.2.2.2.2.2.2.2.2.2.1), w_Cliffs E a (o + 10) (q1.2.2.2.2.2.2.2.2.2.2.1, q1.2.2.2.2.2.2.2.2.2.2.2.1, q1.2.2.2.2.2.2.2.2.2.2.2.2.1), w_ValleyR a (o + 13), w_Key E a (o + 14) x.1.2.1.1, w_Bells E a (o + 15) x.1.2.1.2.1, w_Mel E a (o + 18) x.1.2.1.2.2.1, w_Cliffs E a (o + 22) x.1.2.1.2.2.2, w_Prog E a (o + 25) x.1.2.2.2.1, w_Chord E a (o + 31) x.1.2.2.2.2, w_Key E a (o + 34) x.2.1, w_Line E a (o + 35) x.2.2.1, w_Hist E a (o + 37) (q1.2.2.2.2.2.2.2.2.2.2.2.2.2.1, q1.2.2.2.2.2.2.2.2.2.2.2.2.2.2.1, q1.2.2.2.2.2.2.2.2.2.2.2.2.2.2.2)]) (L' := [w_VBR a o x.2.2.2.1 x.2.2.2.2.1 x.2.2.2.2.2, w_ValleyR a (o + 1), w_Key E a (o + 2) (q1.2.1, q1.2.2.1, q1.2.2.2.1), w_Bells E a (o + 3) (q1.2.2.2.2.1, q1.2.2.2.2.2.1, q1.2.2.2.2.2.2.1), w_Mel E a (o + 6) (q1.2.2.2.2.2.2.2.1, q1.2.2.2.2.2.2.2.2.1, q1.2.2.2.2.2.2.2.2.2.1), w_Cliffs E a (o + 10) (q1.2.2.2.2.2.2.2.2.2.2.1, q1.2.2.2.2.2.2.2.2.2.2.2.1, q1.2.2.2.2.2.2.2.2.2.2.2.2.1), w_ValleyR a (o + 13), w_Key E a (o + 14) x.1.2.1.1, w_Bells E a (o + 15) x.1.2.1.2.1, w_Mel E a (o + 18) x.1.2.1.2.2.1, w_Cliffs E a (o + 22) x.1.2.1.2.2.2, w_Prog E a (o + 25) x.1.2.2.2.1, w_Chord E a (o + 31) x.1.2.2.2.2, w_Key E a (o + 34) x.2.1, w_Line E a (o + 35) x.2.2.1, w_Hist E a (o + 37) (q1.2.2.2.2.2.2.2.2.2.2.2.2.2.1, q1.2.2.2.2.2.2.2.2.2.2.2.2.2.2.1, q1.2.2.2.2.2.2.2.2.2.2.2.2.2.2.2), w_LongArr E ay oy y]) (vx_runV (As := [.int p2]) (rest := [.int 0, .ref (ay oy)]) ⟨hx, hb, hml, hown, ha⟩ (k_X10_setTolerance l E a o x p2 q1 hq1 H.size hlt) (cwV 1 ha (gi_V (fun _ h => h) mw1152 mw1153 mw1154 mw74 mw1155) rfl rfl rfl hv_X10_setTolerance ⟨(Nat.le_of_ble_eq_true rfl), (Nat.le_of_ble_eq_true rfl)⟩) ⟨pre_blind, va_recv hst.k (fr_P hP [0, 1, 2, 3, 4, 5, 6, 7, 8, 9, 10, 11, 12, 13, 14, 15] rfl) (ci := 12) (q0 := 0) rfl rfl, pre_at hP hD hS hz hzs hst [0, 1, 2, 3, 4, 5, 6, 7, 8, 9, 10, 11, 12, 13, 14, 15] (by decide) rfl rfl⟩ rfl rfl hl.1 rfl (lv_room (Nat.le_of_ble_eq_true rfl)) dL_setTolerance_4 ⟨(Nat.le_of_ble_eq_true rfl), (Nat.le_of_ble_eq_true rfl)⟩) hP hD hS hA [0, 1, 2, 3, 4, 5, 6, 7, 8, 9, 10, 11, 12, 13, 14, 15] (by decide) rfl rfl rfl rfl (fun X ce q9 H locs eX h1 h2 h3 hP hD hS => ?_) (fun r2 H locs er2 hP hD hS => ?_)
  · have hF := q_smr eX hF
    by_cases w4_0 : X = "java/lang/IllegalArgumentException"
    · have hF := q_brp w4_0 hF
      subst w4_0
      refine vx_catch (E := "java/lang/IllegalArgumentException") (name := "java/lang/IllegalArgumentException") hown [] ⟨0, 9, 12, 15⟩ [] htab (fun _ h => nomatch h) (by decide) (by decide) (ha _ mw963) (va_Nw.use rfl (hst.cs cs_IllegalArgumentException)) h1 h2 h3 ?_
      refine lv_astore_n (lv' := [(3, .ref q9), (0, .ref (a o)), (1, .int p2), (2, .ref (ay oy))]) hx hb dL_setTolerance_12 rfl hl (by decide) rfl (fun ls hl => ?_)
      refine lv_iconst (v := 1) hx hb dL_setTolerance_13 (by decide) ?_
      obtain rfl := Option.some.inj hF
      exact en_i hQ (Nat.le_of_ble_eq_true rfl) (Nat.le_of_ble_eq_true rfl) hx hb hr hlocks hP hD hS rfl dL_setTolerance_14
    have hF := q_brn w4_0 hF
    exact absurd hF (by simp)
  have hF := q_sml er2 hF
  refine lv_i2l hx hb dL_setTolerance_7 rfl ?_
  refine vi_last hx hb hst.k hP hD hS 147 3 rfl rfl (f := y) (k := 0) (by decide) (by decide) dL_setTolerance_8 (fun H locs hP hD hS => ?_)
  have hP : va_P E.1 vwCl (List.flatten [w_VBR a o x.2.2.2.1 x.2.2.2.2.1 x.2.2.2.2.2, w_ValleyR a (o + 1), w_Key E a (o + 2) (q1.2.1, q1.2.2.1, q1.2.2.2.1), w_Bells E a (o + 3) (q1.2.2.2.2.1, q1.2.2.2.2.2.1, q1.2.2.2.2.2.2.1), w_Mel E a (o + 6) (q1.2.2.2.2.2.2.2.1, q1.2.2.2.2.2.2.2.2.1, q1.2.2.2.2.2.2.2.2.2.1), w_Cliffs E a (o + 10) (q1.2.2.2.2.2.2.2.2.2.2.1, q1.2.2.2.2.2.2.2.2.2.2.2.1, q1.2.2.2.2.2.2.2.2.2.2.2.2.1), w_ValleyR a (o + 13), w_Key E a (o + 14) x.1.2.1.1, w_Bells E a (o + 15) x.1.2.1.2.1, w_Mel E a (o + 18) x.1.2.1.2.2.1, w_Cliffs E a (o + 22) x.1.2.1.2.2.2, w_Prog E a (o + 25) x.1.2.2.2.1, w_Chord E a (o + 31) x.1.2.2.2.2, w_Key E a (o + 34) x.2.1, w_Line E a (o + 35) x.2.2.1, w_Hist E a (o + 37) (q1.2.2.2.2.2.2.2.2.2.2.2.2.2.1, q1.2.2.2.2.2.2.2.2.2.2.2.2.2.2.1, q1.2.2.2.2.2.2.2.2.2.2.2.2.2.2.2), w_LongArr E ay oy (vp_updL y 0 (r2.toInt64))]) H := hP
  have hD : va_D A (List.flatten [w_VBR a o x.2.2.2.1 x.2.2.2.2.1 x.2.2.2.2.2, w_ValleyR a (o + 1), w_Key E a (o + 2) (q1.2.1, q1.2.2.1, q1.2.2.2.1), w_Bells E a (o + 3) (q1.2.2.2.2.1, q1.2.2.2.2.2.1, q1.2.2.2.2.2.2.1), w_Mel E a (o + 6) (q1.2.2.2.2.2.2.2.1, q1.2.2.2.2.2.2.2.2.1, q1.2.2.2.2.2.2.2.2.2.1), w_Cliffs E a (o + 10) (q1.2.2.2.2.2.2.2.2.2.2.1, q1.2.2.2.2.2.2.2.2.2.2.2.1, q1.2.2.2.2.2.2.2.2.2.2.2.2.1), w_ValleyR a (o + 13), w_Key E a (o + 14) x.1.2.1.1, w_Bells E a (o + 15) x.1.2.1.2.1, w_Mel E a (o + 18) x.1.2.1.2.2.1, w_Cliffs E a (o + 22) x.1.2.1.2.2.2, w_Prog E a (o + 25) x.1.2.2.2.1, w_Chord E a (o + 31) x.1.2.2.2.2, w_Key E a (o + 34) x.2.1, w_Line E a (o + 35) x.2.2.1, w_Hist E a (o + 37) (q1.2.2.2.2.2.2.2.2.2.2.2.2.2.1, q1.2.2.2.2.2.2.2.2.2.2.2.2.2.2.1, q1.2.2.2.2.2.2.2.2.2.2.2.2.2.2.2), w_LongArr E ay oy (vp_updL y 0 (r2.toInt64))]) := hD
  refine lv_goto (tgt := 15) hx hb dL_setTolerance_9 (by decide) ?_
  refine lv_iconst (v := 0) hx hb dL_setTolerance_15 (by decide) ?_
  obtain rfl := Option.some.inj hF
  exact en_i hQ (Nat.le_of_ble_eq_true rfl) (Nat.le_of_ble_eq_true rfl) hx hb hr hlocks hP hD hS rfl dL_setTolerance_16

/-! L_addTone -/
theorem dL_addTone_0 : decode cL_addTone 0 = .ok (.aload_n 3, 1) := by decide +kernel
theorem dL_addTone_1 : decode cL_addTone 1 = .ok (.iconst 0, 1) := by decide +kernel
theorem dL_addTone_2 : decode cL_addTone 2 = .ok (.aload_n 0, 1) := by decide +kernel
theorem dL_addTone_3 : decode cL_addTone 3 = .ok (.iload_n 1, 1) := by decide +kernel
theorem dL_addTone_4 : decode cL_addTone 4 = .ok (.iload_n 2, 1) := by decide +kernel
theorem dL_addTone_5 : decode cL_addTone 5 = .ok (.invokevirtual 39, 3) := by decide +kernel
theorem dL_addTone_8 : decode cL_addTone 8 = .ok (.i2l, 1) := by decide +kernel
theorem dL_addTone_9 : decode cL_addTone 9 = .ok (.lastore, 1) := by decide +kernel
theorem dL_addTone_10 : decode cL_addTone 10 = .ok (.goto 11, 3) := by decide +kernel
theorem dL_addTone_13 : decode cL_addTone 13 = .ok (.astore 4, 2) := by decide +kernel
theorem dL_addTone_15 : decode cL_addTone 15 = .ok (.iconst 1, 1) := by decide +kernel
theorem dL_addTone_16 : decode cL_addTone 16 = .ok (.ireturn, 1) := by decide +kernel
theorem dL_addTone_17 : decode cL_addTone 17 = .ok (.astore 4, 2) := by decide +kernel
theorem dL_addTone_19 : decode cL_addTone 19 = .ok (.iconst 2, 1) := by decide +kernel
theorem dL_addTone_20 : decode cL_addTone 20 = .ok (.ireturn, 1) := by decide +kernel
theorem dL_addTone_21 : decode cL_addTone 21 = .ok (.iconst 0, 1) := by decide +kernel
theorem dL_addTone_22 : decode cL_addTone 22 = .ok (.ireturn, 1) := by decide +kernel
def f_L_addTone (x_valley_key_tonic : Int32) (x_valley_key_isMinor : Int32) (x_valley_key_tolerance : Int32) (x_valley_bells_herds : (Nat → Int32)) (x_valley_bells_pitches : (Nat → Int32)) (x_valley_bells_count : Int32) (x_valley_melodies_lengths : (Nat → Int32)) (x_valley_melodies_entries : (Nat → Int32)) (x_valley_melodies_tones : (Nat → Int32)) (x_valley_cliffs_delays : (Nat → Int32)) (x_valley_cliffs_transpositions : (Nat → Int32)) (x_valley_cliffs_count : Int32) (x_history_slots : (Nat → Valley_t)) (x_history_current : Int32) (x_history_count : Int32) (y_v : (Nat → Int64)) (p2 : Int32) (p3 : Int32) : Option (Int32 × Int32 × Int32 × Int32 × (Nat → Int32) × (Nat → Int32) × Int32 × (Nat → Int32) × (Nat → Int32) × (Nat → Int32) × (Nat → Int32) × (Nat → Int32) × Int32 × (Nat → Valley_t) × Int32 × Int32 × (Nat → Int64)) :=
  q_bd (f_X10_addTone x_valley_key_tonic x_valley_key_isMinor x_valley_key_tolerance x_valley_bells_herds x_valley_bells_pitches x_valley_bells_count x_valley_melodies_lengths x_valley_melodies_entries x_valley_melodies_tones x_valley_cliffs_delays x_valley_cliffs_transpositions x_valley_cliffs_count x_history_slots x_history_current x_history_count p2 p3) (fun q1 =>
  q_sm q1.1 (fun X => q_br (X = "java/lang/IndexOutOfBoundsException") (
  some (1, q1.2.1, q1.2.2.1, q1.2.2.2.1, q1.2.2.2.2.1, q1.2.2.2.2.2.1, q1.2.2.2.2.2.2.1, q1.2.2.2.2.2.2.2.1, q1.2.2.2.2.2.2.2.2.1, q1.2.2.2.2.2.2.2.2.2.1, q1.2.2.2.2.2.2.2.2.2.2.1, q1.2.2.2.2.2.2.2.2.2.2.2.1, q1.2.2.2.2.2.2.2.2.2.2.2.2.1, q1.2.2.2.2.2.2.2.2.2.2.2.2.2.1, q1.2.2.2.2.2.2.2.2.2.2.2.2.2.2.1, q1.2.2.2.2.2.2.2.2.2.2.2.2.2.2.2, y_v)) (
  q_br (X = "java/lang/IllegalStateException") (
  some (2, q1.2.1, q1.2.2.1, q1.2.2.2.1, q1.2.2.2.2.1, q1.2.2.2.2.2.1, q1.2.2.2.2.2.2.1, q1.2.2.2.2.2.2.2.1, q1.2.2.2.2.2.2.2.2.1, q1.2.2.2.2.2.2.2.2.2.1, q1.2.2.2.2.2.2.2.2.2.2.1, q1.2.2.2.2.2.2.2.2.2.2.2.1, q1.2.2.2.2.2.2.2.2.2.2.2.2.1, q1.2.2.2.2.2.2.2.2.2.2.2.2.2.1, q1.2.2.2.2.2.2.2.2.2.2.2.2.2.2.1, q1.2.2.2.2.2.2.2.2.2.2.2.2.2.2.2, y_v)) (
  none))) (fun r2 =>
  some (0, q1.2.1, q1.2.2.1, q1.2.2.2.1, q1.2.2.2.2.1, q1.2.2.2.2.2.1, q1.2.2.2.2.2.2.1, q1.2.2.2.2.2.2.2.1, q1.2.2.2.2.2.2.2.2.1, q1.2.2.2.2.2.2.2.2.2.1, q1.2.2.2.2.2.2.2.2.2.2.1, q1.2.2.2.2.2.2.2.2.2.2.2.1, q1.2.2.2.2.2.2.2.2.2.2.2.2.1, q1.2.2.2.2.2.2.2.2.2.2.2.2.2.1, q1.2.2.2.2.2.2.2.2.2.2.2.2.2.2.1, q1.2.2.2.2.2.2.2.2.2.2.2.2.2.2.2, vp_updL y_v 0 (r2.toInt64))))
theorem hv_L_addTone : yL_addTone.cls = RL ∧ yL_addTone.cls ≠ "java/lang/invoke/MethodHandle" ∧ yL_addTone.cls ≠ "java/lang/invoke/VarHandle" ∧ (parseMethodDescriptor yL_addTone.desc).map (fun d => d.parameters.length) = some 4 := by decide +kernel
abbrev rm_L_addTone : Room := { frames := 8, cells := 1, slots := 6, locals := 180 }
set_option maxHeartbeats 4000000 in
set_option maxRecDepth 100000 in
theorem k_L_addTone (l : Launch) (E : ET) (a : Nat → Nat) (o : Nat) (x : VB_t) (ay : Nat → Nat) (oy : Nat) (y : (Nat → Int64)) (p2 : Int32) (p3 : Int32) (res : Int32 × Int32 × Int32 × Int32 × (Nat → Int32) × (Nat → Int32) × Int32 × (Nat → Int32) × (Nat → Int32) × (Nat → Int32) × (Nat → Int32) × (Nat → Int32) × Int32 × (Nat → Valley_t) × Int32 × Int32 × (Nat → Int64)) (hF : f_L_addTone x.1.1.1.1 x.1.1.1.2.1 x.1.1.1.2.2 x.1.1.2.1.1 x.1.1.2.1.2.1 x.1.1.2.1.2.2 x.1.1.2.2.1.1 x.1.1.2.2.1.2.1 x.1.1.2.2.1.2.2 x.1.1.2.2.2.1 x.1.1.2.2.2.2.1 x.1.1.2.2.2.2.2 x.1.2.2.1.1 x.1.2.2.1.2.1 x.1.2.2.1.2.2 y p2 p3 = some res) (sz : Nat) (hlt : l.stackTraces = false) : CtI l yL_addTone (mwsH yL_addTone cL_addTone 5 (some .int) [(0, 10, 13, 13), (0, 10, 17, 17)]) rm_L_addTone 1 6 [.ref (a o), .int p2, .int p3, .ref (ay oy)] E (bl_VB E a o x ++ bl_LongArr E ay oy y) res.1 (bl_VB E a o ((((res.2.1, res.2.2.1, res.2.2.2.1), (res.2.2.2.2.1, res.2.2.2.2.2.1, res.2.2.2.2.2.2.1), (res.2.2.2.2.2.2.2.1, res.2.2.2.2.2.2.2.2.1, res.2.2.2.2.2.2.2.2.2.1), (res.2.2.2.2.2.2.2.2.2.2.1, res.2.2.2.2.2.2.2.2.2.2.2.1, res.2.2.2.2.2.2.2.2.2.2.2.2.1)), x.1.2.1, (res.2.2.2.2.2.2.2.2.2.2.2.2.2.1, res.2.2.2.2.2.2.2.2.2.2.2.2.2.2.1, res.2.2.2.2.2.2.2.2.2.2.2.2.2.2.2.1), x.1.2.2.2.1, x.1.2.2.2.2), (x.2.1, x.2.2.1, x.2.2.2.1, x.2.2.2.2.1, x.2.2.2.2.2)) ++ bl_LongArr E ay oy res.2.2.2.2.2.2.2.2.2.2.2.2.2.2.2.2) sz := by
  refine mk_H (by decide +kernel) (Nat.le_of_ble_eq_true rfl) ?_
  intro p e s m below meth c A args Q ls hAe hsz hQ hx hb hr hml hin ha hown hlocks hA hz hzs hst htab hP hD hS hl
  have hown : s.vm.findClass RL = some m.cls := hown
  rw [hAe] at hQ
  subst hsz
  have hP : va_P E.1 vwCl (List.flatten [w_VBR a o x.2.2.2.1 x.2.2.2.2.1 x.2.2.2.2.2, w_ValleyR a (o + 1), w_Key E a (o + 2) x.1.1.1, w_Bells E a (o + 3) x.1.1.2.1, w_Mel E a (o + 6) x.1.1.2.2.1, w_Cliffs E a (o + 10) x.1.1.2.2.2, w_ValleyR a (o + 13), w_Key E a (o + 14) x.1.2.1.1, w_Bells E a (o + 15) x.1.2.1.2.1, w_Mel E a (o + 18) x.1.2.1.2.2.1, w_Cliffs E a (o + 22) x.1.2.1.2.2.2, w_Prog E a (o + 25) x.1.2.2.2.1, w_Chord E a (o + 31) x.1.2.2.2.2, w_Key E a (o + 34) x.2.1, w_Line E a (o + 35) x.2.2.1, w_Hist E a (o + 37) x.1.2.2.1, w_LongArr E ay oy y]) s.heap := hP
  have hD : va_D A (List.flatten [w_VBR a o x.2.2.2.1 x.2.2.2.2.1 x.2.2.2.2.2, w_ValleyR a (o + 1), w_Key E a (o + 2) x.1.1.1, w_Bells E a (o + 3) x.1.1.2.1, w_Mel E a (o + 6) x.1.1.2.2.1, w_Cliffs E a (o + 10) x.1.1.2.2.2, w_ValleyR a (o + 13), w_Key E a (o + 14) x.1.2.1.1, w_Bells E a (o + 15) x.1.2.1.2.1, w_Mel E a (o + 18) x.1.2.1.2.2.1, w_Cliffs E a (o + 22) x.1.2.1.2.2.2, w_Prog E a (o + 25) x.1.2.2.2.1, w_Chord E a (o + 31) x.1.2.2.2.2, w_Key E a (o + 34) x.2.1, w_Line E a (o + 35) x.2.2.1, w_Hist E a (o + 37) x.1.2.2.1, w_LongArr E ay oy y]) := hD
  have hl : lv_has ls 5 [(0, .ref (a o)), (1, .int p2), (2, .int p3), (3, .ref (ay oy))] := hl
  generalize hHe : s.heap = H at hP
  have hS : va_S A s.heap H [] := by rw [← hHe]; exact hS
  generalize ([] : List Loc) = locs at hS ⊢
  unfold f_L_addTone at hF
  refine lv_aload_n hx hb dL_addTone_0 rfl (lv_at hl 3 rfl) ?_
  refine lv_iconst (v := 0) hx hb dL_addTone_1 (by decide) ?_
  refine lv_aload_n hx hb dL_addTone_2 rfl (lv_at hl 0 rfl) ?_
  refine lv_iload_n hx hb dL_addTone_3 rfl (lv_at hl 1 rfl) ?_
  refine lv_iload_n hx hb dL_addTone_4 rfl (lv_at hl 2 rfl) ?_
  obtain ⟨q1, hq1, hF⟩ := q_bdi hF
  refine cx_i (ro := q1.1) (Lc := [w_VBR a o x.2.2.2.1 x.2.2.2.2.1 x.2.2.2.2.2, w_ValleyR a (o + 1), w_Key E a (o + 2) x.1.1.1, w_Bells E a (o + 3) x.1.1.2.1, w_Mel E a (o + 6) x.1.1.2.2.1, w_Cliffs E a (o + 10) x.1.1.2.2.2, w_ValleyR a (o + 13), w_Key E a (o + 14) x.1.2.1.1, w_Bells E a (o + 15) x.1.2.1.2.1, w_Mel E a (o + 18) x.1.2.1.2.2.1, w_Cliffs E a (o + 22) x.1.2.1.2.2.2, w_Prog E a (o + 25) x.1.2.2.2.1, w_Chord E a (o + 31) x.1.2.2.2.2, w_Key E a (o + 34) x.2.1, w_Line E a (o + 35) x.2.2.1, w_Hist E a (o + 37) x.1.2.2.1]) (Lc' := [w_VBR a o x.2.2.2.1 x.2.2.2.2.1 x.2.2.2.2.2, w_ValleyR a (o + 1), w_Key E a (o + 2) (q1.2.1, q1.2.2.1, q1.2.2.2.1), w_Bells E a (o + 3) (q1.2.2.2.2.1, q1.2.2.2.2.2.1, q1.2.2.2.2.2.2.1), w_Mel E a (o + 6) (q1.2.2.2.2.2.2.2.1, q1.2.2.2.2.2.2.2.2.1, q1.2.2.2.2.2.2.2.2.2.1), w_Cliffs E a (o + 10) (q1.2.2.2.2.2.2.2.2.2.2.1, q1.2.2.2.2.2.2.2.2.2.2.2.1, q1.2.2.2.2.2.2.2.2.2.2.2.2.1), w_ValleyR a (o + 13), w_Key E a (o + 14) x.1.2.1.1, w_Bells E a (o + 15) x.1.2.1.2.1, w_Mel E a (o + 18) x.1.2.1.2.2.1, w_Cliffs E a (o + 22) x.1.2.1.2.2.2, w_Prog E a (o + 25) x.1.2.2.2.1, w_Chord E a (o + 31) x.1.2.2.2.2, w_Key E a (o + 34) x.2.1, w_Line E a (o + 35) x.2.2.1, w_Hist E a (o + 37) (q1.2.2.2.2.2.2.2.2.2.2.2.2.2.1, q1.2.2.2.2.2.2.2.2.2.2.2.2.2.2.1, q1.2.2.2.2.2.2.2.2.2.2.2.2.2.2.2)]) (L' := [w_VBR a o x.2.2.2.1 x.2.2.2.2.1 x.2.2.2.2.2, w_ValleyR a (o + 1), w_Key E a (o + 2) (q1.2.1, q1.2.2.1, q1.2.2.2.1), w_Bells E a (o + 3) (q1.2.2.2.2.1, q1.2.2.2.2.2.1, q1.2.2.2.2.2.2.1), w_Mel E a (o + 6) (q1.2.2.2.2.2.2.2.1, q1.2.2.2.2.2.2.2.2.1, q1.2.2.2.2.2.2.2.2.2.1), w_Cliffs E a (o + 10) (q1.2.2.2.2.2.2.2.2.2.2.1, q1.2.2.2.2.2.2.2.2.2.2.2.1, q1.2.2.2.2.2.2.2.2.2.2.2.2.1), w_ValleyR a (o + 13), w_Key E a (o + 14) x.1.2.1.1, w_Bells E a (o + 15) x.1.2.1.2.1, w_Mel E a (o + 18) x.1.2.1.2.2.1, w_Cliffs E a (o + 22) x.1.2.1.2.2.2, w_Prog E a (o + 25) x.1.2.2.2.1, w_Chord E a (o + 31) x.1.2.2.2.2, w_Key E a (o + 34) x.2.1, w_Line E a (o + 35) x.2.2.1, w_Hist E a (o + 37) (q1.2.2.2.2.2.2.2.2.2.2.2.2.2.1, q1.2.2.2.2.2.2.2.2.2.2.2.2.2.2.1, q1.2.2.2.2.2.2.2.2.2.2.2.2.2.2.2), w_LongArr E ay oy y]) (vx_runV (As := [.int p2, .int p3]) (rest := [.int 0, .ref (ay oy)]) ⟨hx, hb, hml, hown, ha⟩ (k_X10_addTone l E a o x p2 p3 q1 hq1 H.size hlt) (cwV 2 ha (gi_V (fun _ h => h) mw1161 mw1162 mw1163 mw74 mw1164) rfl rfl rfl hv_X10_addTone ⟨(Nat.le_of_ble_eq_true rfl), (Nat.le_of_ble_eq_true rfl)⟩) ⟨pre_blind, va_recv hst.k (fr_P hP [0, 1, 2, 3, 4, 5, 6, 7, 8, 9, 10, 11, 12, 13, 14, 15] rfl) (ci := 12) (q0 := 0) rfl rfl, pre_at hP hD hS hz hzs hst [0, 1, 2, 3, 4, 5, 6, 7, 8, 9, 10, 11, 12, 13, 14, 15] (by decide) rfl rfl⟩ rfl rfl hl.1 rfl (lv_room (Nat.le_of_ble_eq_true rfl)) dL_addTone_5 ⟨(Nat.le_of_ble_eq_true rfl), (Nat.le_of_ble_eq_true rfl)⟩) hP hD hS hA [0, 1, 2, 3, 4, 5, 6, 7, 8, 9, 10, 11, 12, 13, 14, 15] (by decide) rfl rfl rfl rfl (fun X ce q9 H locs eX h1 h2 h3 hP hD hS => ?_) (fun r2 H locs er2 hP hD hS => ?_)
  · have hF := q_smr eX hF
    by_cases w5_0 : X = "java/lang/IndexOutOfBoundsException"
    · have hF := q_brp w5_0 hF
      subst w5_0
      refine vx_catch (E := "java/lang/IndexOutOfBoundsException") (name := "java/lang/IndexOutOfBoundsException") hown [] ⟨0, 10, 13, 13⟩ [⟨0, 10, 17, 17⟩] htab (fun _ h => nomatch h) (by decide) (by decide) (ha _ mw960) (va_Nw.use rfl (hst.cs cs_IndexOutOfBoundsException)) h1 h2 h3 ?_
      refine lv_astore (lv' := [(4, .ref q9), (0, .ref (a o)), (1, .int p2), (2, .int p3), (3, .ref (ay oy))]) hx hb dL_addTone_13 hl (by decide) rfl (fun ls hl => ?_)
      refine lv_iconst (v := 1) hx hb dL_addTone_15 (by decide) ?_
      obtain rfl := Option.some.inj hF
      exact en_i hQ (Nat.le_of_ble_eq_true rfl) (Nat.le_of_ble_eq_true rfl) hx hb hr hlocks hP hD hS rfl dL_addTone_16
    have hF := q_brn w5_0 hF
    by_cases w5_1 : X = "java/lang/IllegalStateException"
    · have hF := q_brp w5_1 hF
      subst w5_1
      refine vx_catch (E := "java/lang/IllegalStateException") (name := "java/lang/IllegalStateException") hown [⟨0, 10, 13, 13⟩] ⟨0, 10, 17, 17⟩ [] htab (List.forall_mem_cons.mpr ⟨Or.inr ⟨by decide, "java/lang/IndexOutOfBoundsException", ha _ mw960, hst.nc (q := ("java/lang/IllegalStateException", "java/lang/IndexOutOfBoundsException")) (List.mem_of_getElem? (i := 10) rfl)⟩, (fun _ h => nomatch h)⟩) (by decide) (by decide) (ha _ mw964) (va_Nw.use rfl (hst.cs cs_IllegalStateException)) h1 h2 h3 ?_
      refine lv_astore (lv' := [(4, .ref q9), (0, .ref (a o)), (1, .int p2), (2, .int p3), (3, .ref (ay oy))]) hx hb dL_addTone_17 hl (by decide) rfl (fun ls hl => ?_)
      refine lv_iconst (v := 2) hx hb dL_addTone_19 (by decide) ?_
      obtain rfl := Option.some.inj hF
      exact en_i hQ (Nat.le_of_ble_eq_true rfl) (Nat.le_of_ble_eq_true rfl) hx hb hr hlocks hP hD hS rfl dL_addTone_20
    have hF := q_brn w5_1 hF
    exact absurd hF (by simp)
  have hF := q_sml er2 hF
  refine lv_i2l hx hb dL_addTone_8 rfl ?_
  refine vi_last hx hb hst.k hP hD hS 147 3 rfl rfl (f := y) (k := 0) (by decide) (by decide) dL_addTone_9 (fun H locs hP hD hS => ?_)
  have hP : va_P E.1 vwCl (List.flatten [w_VBR a o x.2.2.2.1 x.2.2.2.2.1 x.2.2.2.2.2, w_ValleyR a (o + 1), w_Key E a (o + 2) (q1.2.1, q1.2.2.1, q1.2.2.2.1), w_Bells E a (o + 3) (q1.2.2.2.2.1, q1.2.2.2.2.2.1, q1.2.2.2.2.2.2.1), w_Mel E a (o + 6) (q1.2.2.2.2.2.2.2.1, q1.2.2.2.2.2.2.2.2.1, q1.2.2.2.2.2.2.2.2.2.1), w_Cliffs E a (o + 10) (q1.2.2.2.2.2.2.2.2.2.2.1, q1.2.2.2.2.2.2.2.2.2.2.2.1, q1.2.2.2.2.2.2.2.2.2.2.2.2.1), w_ValleyR a (o + 13), w_Key E a (o + 14) x.1.2.1.1, w_Bells E a (o + 15) x.1.2.1.2.1, w_Mel E a (o + 18) x.1.2.1.2.2.1, w_Cliffs E a (o + 22) x.1.2.1.2.2.2, w_Prog E a (o + 25) x.1.2.2.2.1, w_Chord E a (o + 31) x.1.2.2.2.2, w_Key E a (o + 34) x.2.1, w_Line E a (o + 35) x.2.2.1, w_Hist E a (o + 37) (q1.2.2.2.2.2.2.2.2.2.2.2.2.2.1, q1.2.2.2.2.2.2.2.2.2.2.2.2.2.2.1, q1.2.2.2.2.2.2.2.2.2.2.2.2.2.2.2), w_LongArr E ay oy (vp_updL y 0 (r2.toInt64))]) H := hP
  have hD : va_D A (List.flatten [w_VBR a o x.2.2.2.1 x.2.2.2.2.1 x.2.2.2.2.2, w_ValleyR a (o + 1), w_Key E a (o + 2) (q1.2.1, q1.2.2.1, q1.2.2.2.1), w_Bells E a (o + 3) (q1.2.2.2.2.1, q1.2.2.2.2.2.1, q1.2.2.2.2.2.2.1), w_Mel E a (o + 6) (q1.2.2.2.2.2.2.2.1, q1.2.2.2.2.2.2.2.2.1, q1.2.2.2.2.2.2.2.2.2.1), w_Cliffs E a (o + 10) (q1.2.2.2.2.2.2.2.2.2.2.1, q1.2.2.2.2.2.2.2.2.2.2.2.1, q1.2.2.2.2.2.2.2.2.2.2.2.2.1), w_ValleyR a (o + 13), w_Key E a (o + 14) x.1.2.1.1, w_Bells E a (o + 15) x.1.2.1.2.1, w_Mel E a (o + 18) x.1.2.1.2.2.1, w_Cliffs E a (o + 22) x.1.2.1.2.2.2, w_Prog E a (o + 25) x.1.2.2.2.1, w_Chord E a (o + 31) x.1.2.2.2.2, w_Key E a (o + 34) x.2.1, w_Line E a (o + 35) x.2.2.1, w_Hist E a (o + 37) (q1.2.2.2.2.2.2.2.2.2.2.2.2.2.1, q1.2.2.2.2.2.2.2.2.2.2.2.2.2.2.1, q1.2.2.2.2.2.2.2.2.2.2.2.2.2.2.2), w_LongArr E ay oy (vp_updL y 0 (r2.toInt64))]) := hD
  refine lv_goto (tgt := 21) hx hb dL_addTone_10 (by decide) ?_
  refine lv_iconst (v := 0) hx hb dL_addTone_21 (by decide) ?_
  obtain rfl := Option.some.inj hF
  exact en_i hQ (Nat.le_of_ble_eq_true rfl) (Nat.le_of_ble_eq_true rfl) hx hb hr hlocks hP hD hS rfl dL_addTone_22

/-! L_clearMelody -/
theorem dL_clearMelody_0 : decode cL_clearMelody 0 = .ok (.aload_n 2, 1) := by decide +kernel
theorem dL_clearMelody_1 : decode cL_clearMelody 1 = .ok (.iconst 0, 1) := by decide +kernel
theorem dL_clearMelody_2 : decode cL_clearMelody 2 = .ok (.aload_n 0, 1) := by decide +kernel
theorem dL_clearMelody_3 : decode cL_clearMelody 3 = .ok (.iload_n 1, 1) := by decide +kernel
theorem dL_clearMelody_4 : decode cL_clearMelody 4 = .ok (.invokevirtual 42, 3) := by decide +kernel
theorem dL_clearMelody_7 : decode cL_clearMelody 7 = .ok (.i2l, 1) := by decide +kernel
theorem dL_clearMelody_8 : decode cL_clearMelody 8 = .ok (.lastore, 1) := by decide +kernel
theorem dL_clearMelody_9 : decode cL_clearMelody 9 = .ok (.goto 6, 3) := by decide +kernel
theorem dL_clearMelody_12 : decode cL_clearMelody 12 = .ok (.astore_n 3, 1) := by decide +kernel
theorem dL_clearMelody_13 : decode cL_clearMelody 13 = .ok (.iconst 1, 1) := by decide +kernel
theorem dL_clearMelody_14 : decode cL_clearMelody 14 = .ok (.ireturn, 1) := by decide +kernel
theorem dL_clearMelody_15 : decode cL_clearMelody 15 = .ok (.iconst 0, 1) := by decide +kernel
theorem dL_clearMelody_16 : decode cL_clearMelody 16 = .ok (.ireturn, 1) := by decide +kernel
def f_L_clearMelody (x_valley_key_tonic : Int32) (x_valley_key_isMinor : Int32) (x_valley_key_tolerance : Int32) (x_valley_bells_herds : (Nat → Int32)) (x_valley_bells_pitches : (Nat → Int32)) (x_valley_bells_count : Int32) (x_valley_melodies_lengths : (Nat → Int32)) (x_valley_melodies_entries : (Nat → Int32)) (x_valley_melodies_tones : (Nat → Int32)) (x_valley_cliffs_delays : (Nat → Int32)) (x_valley_cliffs_transpositions : (Nat → Int32)) (x_valley_cliffs_count : Int32) (x_history_slots : (Nat → Valley_t)) (x_history_current : Int32) (x_history_count : Int32) (y_v : (Nat → Int64)) (p2 : Int32) : Option (Int32 × Int32 × Int32 × Int32 × (Nat → Int32) × (Nat → Int32) × Int32 × (Nat → Int32) × (Nat → Int32) × (Nat → Int32) × (Nat → Int32) × (Nat → Int32) × Int32 × (Nat → Valley_t) × Int32 × Int32 × (Nat → Int64)) :=
  q_bd (f_X10_clearMelody x_valley_key_tonic x_valley_key_isMinor x_valley_key_tolerance x_valley_bells_herds x_valley_bells_pitches x_valley_bells_count x_valley_melodies_lengths x_valley_melodies_entries x_valley_melodies_tones x_valley_cliffs_delays x_valley_cliffs_transpositions x_valley_cliffs_count x_history_slots x_history_current x_history_count p2) (fun q1 =>
  q_sm q1.1 (fun X => q_br (X = "java/lang/IndexOutOfBoundsException") (
  some (1, q1.2.1, q1.2.2.1, q1.2.2.2.1, q1.2.2.2.2.1, q1.2.2.2.2.2.1, q1.2.2.2.2.2.2.1, q1.2.2.2.2.2.2.2.1, q1.2.2.2.2.2.2.2.2.1, q1.2.2.2.2.2.2.2.2.2.1, q1.2.2.2.2.2.2.2.2.2.2.1, q1.2.2.2.2.2.2.2.2.2.2.2.1, q1.2.2.2.2.2.2.2.2.2.2.2.2.1, q1.2.2.2.2.2.2.2.2.2.2.2.2.2.1, q1.2.2.2.2.2.2.2.2.2.2.2.2.2.2.1, q1.2.2.2.2.2.2.2.2.2.2.2.2.2.2.2, y_v)) (
  none)) (fun r2 =>
  some (0, q1.2.1, q1.2.2.1, q1.2.2.2.1, q1.2.2.2.2.1, q1.2.2.2.2.2.1, q1.2.2.2.2.2.2.1, q1.2.2.2.2.2.2.2.1, q1.2.2.2.2.2.2.2.2.1, q1.2.2.2.2.2.2.2.2.2.1, q1.2.2.2.2.2.2.2.2.2.2.1, q1.2.2.2.2.2.2.2.2.2.2.2.1, q1.2.2.2.2.2.2.2.2.2.2.2.2.1, q1.2.2.2.2.2.2.2.2.2.2.2.2.2.1, q1.2.2.2.2.2.2.2.2.2.2.2.2.2.2.1, q1.2.2.2.2.2.2.2.2.2.2.2.2.2.2.2, vp_updL y_v 0 (r2.toInt64))))
theorem hv_L_clearMelody : yL_clearMelody.cls = RL ∧ yL_clearMelody.cls ≠ "java/lang/invoke/MethodHandle" ∧ yL_clearMelody.cls ≠ "java/lang/invoke/VarHandle" ∧ (parseMethodDescriptor yL_clearMelody.desc).map (fun d => d.parameters.length) = some 3 := by decide +kernel
abbrev rm_L_clearMelody : Room := { frames := 8, cells := 1, slots := 6, locals := 179 }
set_option maxHeartbeats 4000000 in
set_option maxRecDepth 100000 in
theorem k_L_clearMelody (l : Launch) (E : ET) (a : Nat → Nat) (o : Nat) (x : VB_t) (ay : Nat → Nat) (oy : Nat) (y : (Nat → Int64)) (p2 : Int32) (res : Int32 × Int32 × Int32 × Int32 × (Nat → Int32) × (Nat → Int32) × Int32 × (Nat → Int32) × (Nat → Int32) × (Nat → Int32) × (Nat → Int32) × (Nat → Int32) × Int32 × (Nat → Valley_t) × Int32 × Int32 × (Nat → Int64)) (hF : f_L_clearMelody x.1.1.1.1 x.1.1.1.2.1 x.1.1.1.2.2 x.1.1.2.1.1 x.1.1.2.1.2.1 x.1.1.2.1.2.2 x.1.1.2.2.1.1 x.1.1.2.2.1.2.1 x.1.1.2.2.1.2.2 x.1.1.2.2.2.1 x.1.1.2.2.2.2.1 x.1.1.2.2.2.2.2 x.1.2.2.1.1 x.1.2.2.1.2.1 x.1.2.2.1.2.2 y p2 = some res) (sz : Nat) (hlt : l.stackTraces = false) : CtI l yL_clearMelody (mwsH yL_clearMelody cL_clearMelody 4 (some .int) [(0, 9, 12, 13)]) rm_L_clearMelody 1 6 [.ref (a o), .int p2, .ref (ay oy)] E (bl_VB E a o x ++ bl_LongArr E ay oy y) res.1 (bl_VB E a o ((((res.2.1, res.2.2.1, res.2.2.2.1), (res.2.2.2.2.1, res.2.2.2.2.2.1, res.2.2.2.2.2.2.1), (res.2.2.2.2.2.2.2.1, res.2.2.2.2.2.2.2.2.1, res.2.2.2.2.2.2.2.2.2.1), (res.2.2.2.2.2.2.2.2.2.2.1, res.2.2.2.2.2.2.2.2.2.2.2.1, res.2.2.2.2.2.2.2.2.2.2.2.2.1)), x.1.2.1, (res.2.2.2.2.2.2.2.2.2.2.2.2.2.1, res.2.2.2.2.2.2.2.2.2.2.2.2.2.2.1, res.2.2.2.2.2.2.2.2.2.2.2.2.2.2.2.1), x.1.2.2.2.1, x.1.2.2.2.2), (x.2.1, x.2.2.1, x.2.2.2.1, x.2.2.2.2.1, x.2.2.2.2.2)) ++ bl_LongArr E ay oy res.2.2.2.2.2.2.2.2.2.2.2.2.2.2.2.2) sz := by
  refine mk_H (by decide +kernel) (Nat.le_of_ble_eq_true rfl) ?_
  intro p e s m below meth c A args Q ls hAe hsz hQ hx hb hr hml hin ha hown hlocks hA hz hzs hst htab hP hD hS hl
  have hown : s.vm.findClass RL = some m.cls := hown
  rw [hAe] at hQ
  subst hsz
  have hP : va_P E.1 vwCl (List.flatten [w_VBR a o x.2.2.2.1 x.2.2.2.2.1 x.2.2.2.2.2, w_ValleyR a (o + 1), w_Key E a (o + 2) x.1.1.1, w_Bells E a (o + 3) x.1.1.2.1, w_Mel E a (o + 6) x.1.1.2.2.1, w_Cliffs E a (o + 10) x.1.1.2.2.2, w_ValleyR a (o + 13), w_Key E a (o + 14) x.1.2.1.1, w_Bells E a (o + 15) x.1.2.1.2.1, w_Mel E a (o + 18) x.1.2.1.2.2.1, w_Cliffs E a (o + 22) x.1.2.1.2.2.2, w_Prog E a (o + 25) x.1.2.2.2.1, w_Chord E a (o + 31) x.1.2.2.2.2, w_Key E a (o + 34) x.2.1, w_Line E a (o + 35) x.2.2.1, w_Hist E a (o + 37) x.1.2.2.1, w_LongArr E ay oy y]) s.heap := hP
  have hD : va_D A (List.flatten [w_VBR a o x.2.2.2.1 x.2.2.2.2.1 x.2.2.2.2.2, w_ValleyR a (o + 1), w_Key E a (o + 2) x.1.1.1, w_Bells E a (o + 3) x.1.1.2.1, w_Mel E a (o + 6) x.1.1.2.2.1, w_Cliffs E a (o + 10) x.1.1.2.2.2, w_ValleyR a (o + 13), w_Key E a (o + 14) x.1.2.1.1, w_Bells E a (o + 15) x.1.2.1.2.1, w_Mel E a (o + 18) x.1.2.1.2.2.1, w_Cliffs E a (o + 22) x.1.2.1.2.2.2, w_Prog E a (o + 25) x.1.2.2.2.1, w_Chord E a (o + 31) x.1.2.2.2.2, w_Key E a (o + 34) x.2.1, w_Line E a (o + 35) x.2.2.1, w_Hist E a (o + 37) x.1.2.2.1, w_LongArr E ay oy y]) := hD
  have hl : lv_has ls 4 [(0, .ref (a o)), (1, .int p2), (2, .ref (ay oy))] := hl
  generalize hHe : s.heap = H at hP
  have hS : va_S A s.heap H [] := by rw [← hHe]; exact hS
  generalize ([] : List Loc) = locs at hS ⊢
  unfold f_L_clearMelody at hF
  refine lv_aload_n hx hb dL_clearMelody_0 rfl (lv_at hl 2 rfl) ?_
  refine lv_iconst (v := 0) hx hb dL_clearMelody_1 (by decide) ?_
  refine lv_aload_n hx hb dL_clearMelody_2 rfl (lv_at hl 0 rfl) ?_
  refine lv_iload_n hx hb dL_clearMelody_3 rfl (lv_at hl 1 rfl) ?_
  obtain ⟨q1, hq1, hF⟩ := q_bdi hF
  refine cx_i (ro := q1.1) (Lc := [w_VBR a o x.2.2.2.1 x.2.2.2.2.1 x.2.2.2.2.2, w_ValleyR a (o + 1), w_Key E a (o + 2) x.1.1.1, w_Bells E a (o + 3) x.1.1.2.1, w_Mel E a (o + 6) x.1.1.2.2.1, w_Cliffs E a (o + 10) x.1.1.2.2.2, w_ValleyR a (o + 13), w_Key E a (o + 14) x.1.2.1.1, w_Bells E a (o + 15) x.1.2.1.2.1, w_Mel E a (o + 18) x.1.2.1.2.2.1, w_Cliffs E a (o + 22) x.1.2.1.2.2.2, w_Prog E a (o + 25) x.1.2.2.2.1, w_Chord E a (o + 31) x.1.2.2.2.2, w_Key E a (o + 34) x.2.1, w_Line E a (o + 35) x.2.2.1, w_Hist E a (o + 37) x.1.2.2.1]) (Lc' := [w_VBR a o x.2.2.2.1 x.2.2.2.2.1 x.2.2.2.2.2, w_ValleyR a (o + 1), w_Key E a (o + 2) (q1.2.1, q1.2.2.1, q1.2.2.2.1), w_Bells E a (o + 3) (q1.2.2.2.2.1, q1.2.2.2.2.2.1, q1.2.2.2.2.2.2.1), w_Mel E a (o + 6) (q1.2.2.2.2.2.2.2.1, q1.2.2.2.2.2.2.2.2.1, q1.2.2.2.2.2.2.2.2.2.1), w_Cliffs E a (o + 10) (q1.2.2.2.2.2.2.2.2.2.2.1, q1.2.2.2.2.2.2.2.2.2.2.2.1, q1.2.2.2.2.2.2.2.2.2.2.2.2.1), w_ValleyR a (o + 13), w_Key E a (o + 14) x.1.2.1.1, w_Bells E a (o + 15) x.1.2.1.2.1, w_Mel E a (o + 18) x.1.2.1.2.2.1, w_Cliffs E a (o + 22) x.1.2.1.2.2.2, w_Prog E a (o + 25) x.1.2.2.2.1, w_Chord E a (o + 31) x.1.2.2.2.2, w_Key E a (o + 34) x.2.1, w_Line E a (o + 35) x.2.2.1, w_Hist E a (o + 37) (q1.2.2.2.2.2.2.2.2.2.2.2.2.2.1, q1.2.2.2.2.2.2.2.2.2.2.2.2.2.2.1, q1.2.2.2.2.2.2.2.2.2.2.2.2.2.2.2)]) (L' := [w_VBR a o x.2.2.2.1 x.2.2.2.2.1 x.2.2.2.2.2, w_ValleyR a (o + 1), w_Key E a (o + 2) (q1.2.1, q1.2.2.1, q1.2.2.2.1), w_Bells E a (o + 3) (q1.2.2.2.2.1, q1.2.2.2.2.2.1, q1.2.2.2.2.2.2.1), w_Mel E a (o + 6) (q1.2.2.2.2.2.2.2.1, q1.2.2.2.2.2.2.2.2.1, q1.2.2.2.2.2.2.2.2.2.1), w_Cliffs E a (o + 10) (q1.2.2.2.2.2.2.2.2.2.2.1, q1.2.2.2.2.2.2.2.2.2.2.2.1, q1.2.2.2.2.2.2.2.2.2.2.2.2.1), w_ValleyR a (o + 13), w_Key E a (o + 14) x.1.2.1.1, w_Bells E a (o + 15) x.1.2.1.2.1, w_Mel E a (o + 18) x.1.2.1.2.2.1, w_Cliffs E a (o + 22) x.1.2.1.2.2.2, w_Prog E a (o + 25) x.1.2.2.2.1, w_Chord E a (o + 31) x.1.2.2.2.2, w_Key E a (o + 34) x.2.1, w_Line E a (o + 35) x.2.2.1, w_Hist E a (o + 37) (q1.2.2.2.2.2.2.2.2.2.2.2.2.2.1, q1.2.2.2.2.2.2.2.2.2.2.2.2.2.2.1, q1.2.2.2.2.2.2.2.2.2.2.2.2.2.2.2), w_LongArr E ay oy y]) (vx_runV (As := [.int p2]) (rest := [.int 0, .ref (ay oy)]) ⟨hx, hb, hml, hown, ha⟩ (k_X10_clearMelody l E a o x p2 q1 hq1 H.size hlt) (cwV 1 ha (gi_V (fun _ h => h) mw1170 mw1171 mw1172 mw74 mw1173) rfl rfl rfl hv_X10_clearMelody ⟨(Nat.le_of_ble_eq_true rfl), (Nat.le_of_ble_eq_true rfl)⟩) ⟨pre_blind, va_recv hst.k (fr_P hP [0, 1, 2, 3, 4, 5, 6, 7, 8, 9, 10, 11, 12, 13, 14, 15] rfl) (ci := 12) (q0 := 0) rfl rfl, pre_at hP hD hS hz hzs hst [0, 1, 2, 3, 4, 5, 6, 7, 8, 9, 10, 11, 12, 13, 14, 15] (by decide) rfl rfl⟩ rfl rfl hl.1 rfl (lv_room (Nat.le_of_ble_eq_true rfl)) dL_clearMelody_4 ⟨(Nat.le_of_ble_eq_true rfl), (Nat.le_of_ble_eq_true rfl)⟩) hP hD hS hA [0, 1, 2, 3, 4, 5, 6, 7, 8, 9, 10, 11, 12, 13, 14, 15] (by decide) rfl rfl rfl rfl (fun X ce q9 H locs eX h1 h2 h3 hP hD hS => ?_) (fun r2 H locs er2 hP hD hS => ?_)
  · have hF := q_smr eX hF
    by_cases w4_0 : X = "java/lang/IndexOutOfBoundsException"
    · have hF := q_brp w4_0 hF
      subst w4_0
      refine vx_catch (E := "java/lang/IndexOutOfBoundsException") (name := "java/lang/IndexOutOfBoundsException") hown [] ⟨0, 9, 12, 13⟩ [] htab (fun _ h => nomatch h) (by decide) (by decide) (ha _ mw960) (va_Nw.use rfl (hst.cs cs_IndexOutOfBoundsException)) h1 h2 h3 ?_
      refine lv_astore_n (lv' := [(3, .ref q9), (0, .ref (a o)), (1, .int p2), (2, .ref (ay oy))]) hx hb dL_clearMelody_12 rfl hl (by decide) rfl (fun ls hl => ?_)
      refine lv_iconst (v := 1) hx hb dL_clearMelody_13 (by decide) ?_
      obtain rfl := Option.some.inj hF
      exact en_i hQ (Nat.le_of_ble_eq_true rfl) (Nat.le_of_ble_eq_true rfl) hx hb hr hlocks hP hD hS rfl dL_clearMelody_14
    have hF := q_brn w4_0 hF
    exact absurd hF (by simp)
  have hF := q_sml er2 hF
  refine lv_i2l hx hb dL_clearMelody_7 rfl ?_
  refine vi_last hx hb hst.k hP hD hS 147 3 rfl rfl (f := y) (k := 0) (by decide) (by decide) dL_clearMelody_8 (fun H locs hP hD hS => ?_)
  have hP : va_P E.1 vwCl (List.flatten [w_VBR a o x.2.2.2.1 x.2.2.2.2.1 x.2.2.2.2.2, w_ValleyR a (o + 1), w_Key E a (o + 2) (q1.2.1, q1.2.2.1, q1.2.2.2.1), w_Bells E a (o + 3) (q1.2.2.2.2.1, q1.2.2.2.2.2.1, q1.2.2.2.2.2.2.1), w_Mel E a (o + 6) (q1.2.2.2.2.2.2.2.1, q1.2.2.2.2.2.2.2.2.1, q1.2.2.2.2.2.2.2.2.2.1), w_Cliffs E a (o + 10) (q1.2.2.2.2.2.2.2.2.2.2.1, q1.2.2.2.2.2.2.2.2.2.2.2.1, q1.2.2.2.2.2.2.2.2.2.2.2.2.1), w_ValleyR a (o + 13), w_Key E a (o + 14) x.1.2.1.1, w_Bells E a (o + 15) x.1.2.1.2.1, w_Mel E a (o + 18) x.1.2.1.2.2.1, w_Cliffs E a (o + 22) x.1.2.1.2.2.2, w_Prog E a (o + 25) x.1.2.2.2.1, w_Chord E a (o + 31) x.1.2.2.2.2, w_Key E a (o + 34) x.2.1, w_Line E a (o + 35) x.2.2.1, w_Hist E a (o + 37) (q1.2.2.2.2.2.2.2.2.2.2.2.2.2.1, q1.2.2.2.2.2.2.2.2.2.2.2.2.2.2.1, q1.2.2.2.2.2.2.2.2.2.2.2.2.2.2.2), w_LongArr E ay oy (vp_updL y 0 (r2.toInt64))]) H := hP
  have hD : va_D A (List.flatten [w_VBR a o x.2.2.2.1 x.2.2.2.2.1 x.2.2.2.2.2, w_ValleyR a (o + 1), w_Key E a (o + 2) (q1.2.1, q1.2.2.1, q1.2.2.2.1), w_Bells E a (o + 3) (q1.2.2.2.2.1, q1.2.2.2.2.2.1, q1.2.2.2.2.2.2.1), w_Mel E a (o + 6) (q1.2.2.2.2.2.2.2.1, q1.2.2.2.2.2.2.2.2.1, q1.2.2.2.2.2.2.2.2.2.1), w_Cliffs E a (o + 10) (q1.2.2.2.2.2.2.2.2.2.2.1, q1.2.2.2.2.2.2.2.2.2.2.2.1, q1.2.2.2.2.2.2.2.2.2.2.2.2.1), w_ValleyR a (o + 13), w_Key E a (o + 14) x.1.2.1.1, w_Bells E a (o + 15) x.1.2.1.2.1, w_Mel E a (o + 18) x.1.2.1.2.2.1, w_Cliffs E a (o + 22) x.1.2.1.2.2.2, w_Prog E a (o + 25) x.1.2.2.2.1, w_Chord E a (o + 31) x.1.2.2.2.2, w_Key E a (o + 34) x.2.1, w_Line E a (o + 35) x.2.2.1, w_Hist E a (o + 37) (q1.2.2.2.2.2.2.2.2.2.2.2.2.2.1, q1.2.2.2.2.2.2.2.2.2.2.2.2.2.2.1, q1.2.2.2.2.2.2.2.2.2.2.2.2.2.2.2), w_LongArr E ay oy (vp_updL y 0 (r2.toInt64))]) := hD
  refine lv_goto (tgt := 15) hx hb dL_clearMelody_9 (by decide) ?_
  refine lv_iconst (v := 0) hx hb dL_clearMelody_15 (by decide) ?_
  obtain rfl := Option.some.inj hF
  exact en_i hQ (Nat.le_of_ble_eq_true rfl) (Nat.le_of_ble_eq_true rfl) hx hb hr hlocks hP hD hS rfl dL_clearMelody_16

/-! L_setEntry -/
theorem dL_setEntry_0 : decode cL_setEntry 0 = .ok (.aload_n 3, 1) := by decide +kernel
theorem dL_setEntry_1 : decode cL_setEntry 1 = .ok (.iconst 0, 1) := by decide +kernel
theorem dL_setEntry_2 : decode cL_setEntry 2 = .ok (.aload_n 0, 1) := by decide +kernel
theorem dL_setEntry_3 : decode cL_setEntry 3 = .ok (.iload_n 1, 1) := by decide +kernel
theorem dL_setEntry_4 : decode cL_setEntry 4 = .ok (.iload_n 2, 1) := by decide +kernel
theorem dL_setEntry_5 : decode cL_setEntry 5 = .ok (.invokevirtual 45, 3) := by decide +kernel
theorem dL_setEntry_8 : decode cL_setEntry 8 = .ok (.i2l, 1) := by decide +kernel
theorem dL_setEntry_9 : decode cL_setEntry 9 = .ok (.lastore, 1) := by decide +kernel
theorem dL_setEntry_10 : decode cL_setEntry 10 = .ok (.goto 11, 3) := by decide +kernel
theorem dL_setEntry_13 : decode cL_setEntry 13 = .ok (.astore 4, 2) := by decide +kernel
theorem dL_setEntry_15 : decode cL_setEntry 15 = .ok (.iconst 1, 1) := by decide +kernel
theorem dL_setEntry_16 : decode cL_setEntry 16 = .ok (.ireturn, 1) := by decide +kernel
theorem dL_setEntry_17 : decode cL_setEntry 17 = .ok (.astore 4, 2) := by decide +kernel
theorem dL_setEntry_19 : decode cL_setEntry 19 = .ok (.iconst 2, 1) := by decide +kernel
theorem dL_setEntry_20 : decode cL_setEntry 20 = .ok (.ireturn, 1) := by decide +kernel
theorem dL_setEntry_21 : decode cL_setEntry 21 = .ok (.iconst 0, 1) := by decide +kernel
theorem dL_setEntry_22 : decode cL_setEntry 22 = .ok (.ireturn, 1) := by decide +kernel
def f_L_setEntry (x_valley_key_tonic : Int32) (x_valley_key_isMinor : Int32) (x_valley_key_tolerance : Int32) (x_valley_bells_herds : (Nat → Int32)) (x_valley_bells_pitches : (Nat → Int32)) (x_valley_bells_count : Int32) (x_valley_melodies_lengths : (Nat → Int32)) (x_valley_melodies_entries : (Nat → Int32)) (x_valley_melodies_tones : (Nat → Int32)) (x_valley_cliffs_delays : (Nat → Int32)) (x_valley_cliffs_transpositions : (Nat → Int32)) (x_valley_cliffs_count : Int32) (x_history_slots : (Nat → Valley_t)) (x_history_current : Int32) (x_history_count : Int32) (y_v : (Nat → Int64)) (p2 : Int32) (p3 : Int32) : Option (Int32 × Int32 × Int32 × Int32 × (Nat → Int32) × (Nat → Int32) × Int32 × (Nat → Int32) × (Nat → Int32) × (Nat → Int32) × (Nat → Int32) × (Nat → Int32) × Int32 × (Nat → Valley_t) × Int32 × Int32 × (Nat → Int64)) :=
  q_bd (f_X10_setEntry x_valley_key_tonic x_valley_key_isMinor x_valley_key_tolerance x_valley_bells_herds x_valley_bells_pitches x_valley_bells_count x_valley_melodies_lengths x_valley_melodies_entries x_valley_melodies_tones x_valley_cliffs_delays x_valley_cliffs_transpositions x_valley_cliffs_count x_history_slots x_history_current x_history_count p2 p3) (fun q1 =>
  q_sm q1.1 (fun X => q_br (X = "java/lang/IndexOutOfBoundsException") (
  some (1, q1.2.1, q1.2.2.1, q1.2.2.2.1, q1.2.2.2.2.1, q1.2.2.2.2.2.1, q1.2.2.2.2.2.2.1, q1.2.2.2.2.2.2.2.1, q1.2.2.2.2.2.2.2.2.1, q1.2.2.2.2.2.2.2.2.2.1, q1.2.2.2.2.2.2.2.2.2.2.1, q1.2.2.2.2.2.2.2.2.2.2.2.1, q1.2.2.2.2.2.2.2.2.2.2.2.2.1, q1.2.2.2.2.2.2.2.2.2.2.2.2.2.1, q1.2.2.2.2.2.2.2.2.2.2.2.2.2.2.1, q1.2.2.2.2.2.2.2.2.2.2.2.2.2.2.2, y_v)) (
  q_br (X = "java/lang/IllegalArgumentException") (
  some (2, q1.2.1, q1.2.2.1, q1.2.2.2.1, q1.2.2.2.2.1, q1.2.2.2.2.2.1, q1.2.2.2.2.2.2.1, q1.2.2.2.2.2.2.2.1, q1.2.2.2.2.2.2.2.2.1, q1.2.2.2.2.2.2.2.2.2.1, q1.2.2.2.2.2.2.2.2.2.2.1, q1.2.2.2.2.2.2.2.2.2.2.2.1, q1.2.2.2.2.2.2.2.2.2.2.2.2.1, q1.2.2.2.2.2.2.2.2.2.2.2.2.2.1, q1.2.2.2.2.2.2.2.2.2.2.2.2.2.2.1, q1.2.2.2.2.2.2.2.2.2.2.2.2.2.2.2, y_v)) (
  none))) (fun r2 =>
  some (0, q1.2.1, q1.2.2.1, q1.2.2.2.1, q1.2.2.2.2.1, q1.2.2.2.2.2.1, q1.2.2.2.2.2.2.1, q1.2.2.2.2.2.2.2.1, q1.2.2.2.2.2.2.2.2.1, q1.2.2.2.2.2.2.2.2.2.1, q1.2.2.2.2.2.2.2.2.2.2.1, q1.2.2.2.2.2.2.2.2.2.2.2.1, q1.2.2.2.2.2.2.2.2.2.2.2.2.1, q1.2.2.2.2.2.2.2.2.2.2.2.2.2.1, q1.2.2.2.2.2.2.2.2.2.2.2.2.2.2.1, q1.2.2.2.2.2.2.2.2.2.2.2.2.2.2.2, vp_updL y_v 0 (r2.toInt64))))
theorem hv_L_setEntry : yL_setEntry.cls = RL ∧ yL_setEntry.cls ≠ "java/lang/invoke/MethodHandle" ∧ yL_setEntry.cls ≠ "java/lang/invoke/VarHandle" ∧ (parseMethodDescriptor yL_setEntry.desc).map (fun d => d.parameters.length) = some 4 := by decide +kernel
abbrev rm_L_setEntry : Room := { frames := 8, cells := 1, slots := 6, locals := 180 }
set_option maxHeartbeats 4000000 in
set_option maxRecDepth 100000 in
theorem k_L_setEntry (l : Launch) (E : ET) (a : Nat → Nat) (o : Nat) (x : VB_t) (ay : Nat → Nat) (oy : Nat) (y : (Nat → Int64)) (p2 : Int32) (p3 : Int32) (res : Int32 × Int32 × Int32 × Int32 × (Nat → Int32) × (Nat → Int32) × Int32 × (Nat → Int32) × (Nat → Int32) × (Nat → Int32) × (Nat → Int32) × (Nat → Int32) × Int32 × (Nat → Valley_t) × Int32 × Int32 × (Nat → Int64)) (hF : f_L_setEntry x.1.1.1.1 x.1.1.1.2.1 x.1.1.1.2.2 x.1.1.2.1.1 x.1.1.2.1.2.1 x.1.1.2.1.2.2 x.1.1.2.2.1.1 x.1.1.2.2.1.2.1 x.1.1.2.2.1.2.2 x.1.1.2.2.2.1 x.1.1.2.2.2.2.1 x.1.1.2.2.2.2.2 x.1.2.2.1.1 x.1.2.2.1.2.1 x.1.2.2.1.2.2 y p2 p3 = some res) (sz : Nat) (hlt : l.stackTraces = false) : CtI l yL_setEntry (mwsH yL_setEntry cL_setEntry 5 (some .int) [(0, 10, 13, 13), (0, 10, 17, 15)]) rm_L_setEntry 1 6 [.ref (a o), .int p2, .int p3, .ref (ay oy)] E (bl_VB E a o x ++ bl_LongArr E ay oy y) res.1 (bl_VB E a o ((((res.2.1, res.2.2.1, res.2.2.2.1), (res.2.2.2.2.1, res.2.2.2.2.2.1, res.2.2.2.2.2.2.1), (res.2.2.2.2.2.2.2.1, res.2.2.2.2.2.2.2.2.1, res.2.2.2.2.2.2.2.2.2.1), (res.2.2.2.2.2.2.2.2.2.2.1, res.2.2.2.2.2.2.2.2.2.2.2.1, res.2.2.2.2.2.2.2.2.2.2.2.2.1)), x.1.2.1, (res.2.2.2.2.2.2.2.2.2.2.2.2.2.1, res.2.2.2.2.2.2.2.2.2.2.2.2.2.2.1, res.2.2.2.2.2.2.2.2.2.2.2.2.2.2.2.1), x.1.2.2.2.1, x.1.2.2.2.2), (x.2.1, x.2.2.1, x.2.2.2.1, x.2.2.2.2.1, x.2.2.2.2.2)) ++ bl_LongArr E ay oy res.2.2.2.2.2.2.2.2.2.2.2.2.2.2.2.2) sz := by
  refine mk_H (by decide +kernel) (Nat.le_of_ble_eq_true rfl) ?_
  intro p e s m below meth c A args Q ls hAe hsz hQ hx hb hr hml hin ha hown hlocks hA hz hzs hst htab hP hD hS hl
  have hown : s.vm.findClass RL = some m.cls := hown
  rw [hAe] at hQ
  subst hsz
  have hP : va_P E.1 vwCl (List.flatten [w_VBR a o x.2.2.2.1 x.2.2.2.2.1 x.2.2.2.2.2, w_ValleyR a (o + 1), w_Key E a (o + 2) x.1.1.1, w_Bells E a (o + 3) x.1.1.2.1, w_Mel E a (o + 6) x.1.1.2.2.1, w_Cliffs E a (o + 10) x.1.1.2.2.2, w_ValleyR a (o + 13), w_Key E a (o + 14) x.1.2.1.1, w_Bells E a (o + 15) x.1.2.1.2.1, w_Mel E a (o + 18) x.1.2.1.2.2.1, w_Cliffs E a (o + 22) x.1.2.1.2.2.2, w_Prog E a (o + 25) x.1.2.2.2.1, w_Chord E a (o + 31) x.1.2.2.2.2, w_Key E a (o + 34) x.2.1, w_Line E a (o + 35) x.2.2.1, w_Hist E a (o + 37) x.1.2.2.1, w_LongArr E ay oy y]) s.heap := hP
  have hD : va_D A (List.flatten [w_VBR a o x.2.2.2.1 x.2.2.2.2.1 x.2.2.2.2.2, w_ValleyR a (o + 1), w_Key E a (o + 2) x.1.1.1, w_Bells E a (o + 3) x.1.1.2.1, w_Mel E a (o + 6) x.1.1.2.2.1, w_Cliffs E a (o + 10) x.1.1.2.2.2, w_ValleyR a (o + 13), w_Key E a (o + 14) x.1.2.1.1, w_Bells E a (o + 15) x.1.2.1.2.1, w_Mel E a (o + 18) x.1.2.1.2.2.1, w_Cliffs E a (o + 22) x.1.2.1.2.2.2, w_Prog E a (o + 25) x.1.2.2.2.1, w_Chord E a (o + 31) x.1.2.2.2.2, w_Key E a (o + 34) x.2.1, w_Line E a (o + 35) x.2.2.1, w_Hist E a (o + 37) x.1.2.2.1, w_LongArr E ay oy y]) := hD
  have hl : lv_has ls 5 [(0, .ref (a o)), (1, .int p2), (2, .int p3), (3, .ref (ay oy))] := hl
  generalize hHe : s.heap = H at hP
  have hS : va_S A s.heap H [] := by rw [← hHe]; exact hS
  generalize ([] : List Loc) = locs at hS ⊢
  unfold f_L_setEntry at hF
  refine lv_aload_n hx hb dL_setEntry_0 rfl (lv_at hl 3 rfl) ?_
  refine lv_iconst (v := 0) hx hb dL_setEntry_1 (by decide) ?_
  refine lv_aload_n hx hb dL_setEntry_2 rfl (lv_at hl 0 rfl) ?_
  refine lv_iload_n hx hb dL_setEntry_3 rfl (lv_at hl 1 rfl) ?_
  refine lv_iload_n hx hb dL_setEntry_4 rfl (lv_at hl 2 rfl) ?_
  obtain ⟨q1, hq1, hF⟩ := q_bdi hF
  refine cx_i (ro := q1.1) (Lc := [w_VBR a o x.2.2.2.1 x.2.2.2.2.1 x.2.2.2.2.2, w_ValleyR a (o + 1), w_Key E a (o + 2) x.1.1.1, w_Bells E a (o + 3) x.1.1.2.1, w_Mel E a (o + 6) x.1.1.2.2.1, w_Cliffs E a (o + 10) x.1.1.2.2.2, w_ValleyR a (o + 13), w_Key E a (o + 14) x.1.2.1.1, w_Bells E a (o + 15) x.1.2.1.2.1, w_Mel E a (o + 18) x.1.2.1.2.2.1, w_Cliffs E a (o + 22) x.1.2.1.2.2.2, w_Prog E a (o + 25) x.1.2.2.2.1, w_Chord E a (o + 31) x.1.2.2.2.2, w_Key E a (o + 34) x.2.1, w_Line E a (o + 35) x.2.2.1, w_Hist E a (o + 37) x.1.2.2.1]) (Lc' := [w_VBR a o x.2.2.2.1 x.2.2.2.2.1 x.2.2.2.2.2, w_ValleyR a (o + 1), w_Key E a (o + 2) (q1.2.1, q1.2.2.1, q1.2.2.2.1), w_Bells E a (o + 3) (q1.2.2.2.2.1, q1.2.2.2.2.2.1, q1.2.2.2.2.2.2.1), w_Mel E a (o + 6) (q1.2.2.2.2.2.2.2.1, q1.2.2.2.2.2.2.2.2.1, q1.2.2.2.2.2.2.2.2.2.1), w_Cliffs E a (o + 10) (q1.2.2.2.2.2.2.2.2.2.2.1, q1.2.2.2.2.2.2.2.2.2.2.2.1, q1.2.2.2.2.2.2.2.2.2.2.2.2.1), w_ValleyR a (o + 13), w_Key E a (o + 14) x.1.2.1.1, w_Bells E a (o + 15) x.1.2.1.2.1, w_Mel E a (o + 18) x.1.2.1.2.2.1, w_Cliffs E a (o + 22) x.1.2.1.2.2.2, w_Prog E a (o + 25) x.1.2.2.2.1, w_Chord E a (o + 31) x.1.2.2.2.2, w_Key E a (o + 34) x.2.1, w_Line E a (o + 35) x.2.2.1, w_Hist E a (o + 37) (q1.2.2.2.2.2.2.2.2.2.2.2.2.2.1, q1.2.2.2.2.2.2.2.2.2.2.2.2.2.2.1, q1.2.2.2.2.2.2.2.2.2.2.2.2.2.2.2)]) (L' := [w_VBR a o x.2.2.2.1 x.2.2.2.2.1 x.2.2.2.2.2, w_ValleyR a (o + 1), w_Key E a (o + 2) (q1.2.1, q1.2.2.1, q1.2.2.2.1), w_Bells E a (o + 3) (q1.2.2.2.2.1, q1.2.2.2.2.2.1, q1.2.2.2.2.2.2.1), w_Mel E a (o + 6) (q1.2.2.2.2.2.2.2.1, q1.2.2.2.2.2.2.2.2.1, q1.2.2.2.2.2.2.2.2.2.1), w_Cliffs E a (o + 10) (q1.2.2.2.2.2.2.2.2.2.2.1, q1.2.2.2.2.2.2.2.2.2.2.2.1, q1.2.2.2.2.2.2.2.2.2.2.2.2.1), w_ValleyR a (o + 13), w_Key E a (o + 14) x.1.2.1.1, w_Bells E a (o + 15) x.1.2.1.2.1, w_Mel E a (o + 18) x.1.2.1.2.2.1, w_Cliffs E a (o + 22) x.1.2.1.2.2.2, w_Prog E a (o + 25) x.1.2.2.2.1, w_Chord E a (o + 31) x.1.2.2.2.2, w_Key E a (o + 34) x.2.1, w_Line E a (o + 35) x.2.2.1, w_Hist E a (o + 37) (q1.2.2.2.2.2.2.2.2.2.2.2.2.2.1, q1.2.2.2.2.2.2.2.2.2.2.2.2.2.2.1, q1.2.2.2.2.2.2.2.2.2.2.2.2.2.2.2), w_LongArr E ay oy y]) (vx_runV (As := [.int p2, .int p3]) (rest := [.int 0, .ref (ay oy)]) ⟨hx, hb, hml, hown, ha⟩ (k_X10_setEntry l E a o x p2 p3 q1 hq1 H.size hlt) (cwV 2 ha (gi_V (fun _ h => h) mw1179 mw1180 mw1181 mw74 mw1182) rfl rfl rfl hv_X10_setEntry ⟨(Nat.le_of_ble_eq_true rfl), (Nat.le_of_ble_eq_true rfl)⟩) ⟨pre_blind, va_recv hst.k (fr_P hP [0, 1, 2, 3, 4, 5, 6, 7, 8, 9, 10, 11, 12, 13, 14, 15] rfl) (ci := 12) (q0 := 0) rfl rfl, pre_at hP hD hS hz hzs hst [0, 1, 2, 3, 4, 5, 6, 7, 8, 9, 10, 11, 12, 13, 14, 15] (by decide) rfl rfl⟩ rfl rfl hl.1 rfl (lv_room (Nat.le_of_ble_eq_true rfl)) dL_setEntry_5 ⟨(Nat.le_of_ble_eq_true rfl), (Nat.le_of_ble_eq_true rfl)⟩) hP hD hS hA [0, 1, 2, 3, 4, 5, 6, 7, 8, 9, 10, 11, 12, 13, 14, 15] (by decide) rfl rfl rfl rfl (fun X ce q9 H locs eX h1 h2 h3 hP hD hS => ?_) (fun r2 H locs er2 hP hD hS => ?_)
  · have hF := q_smr eX hF
    by_cases w5_0 : X = "java/lang/IndexOutOfBoundsException"
    · have hF := q_brp w5_0 hF
      subst w5_0
      refine vx_catch (E := "java/lang/IndexOutOfBoundsException") (name := "java/lang/IndexOutOfBoundsException") hown [] ⟨0, 10, 13, 13⟩ [⟨0, 10, 17, 15⟩] htab (fun _ h => nomatch h) (by decide) (by decide) (ha _ mw960) (va_Nw.use rfl (hst.cs cs_IndexOutOfBoundsException)) h1 h2 h3 ?_
      refine lv_astore (lv' := [(4, .ref q9), (0, .ref (a o)), (1, .int p2), (2, .int p3), (3, .ref (ay oy))]) hx hb dL_setEntry_13 hl (by decide) rfl (fun ls hl => ?_)
      refine lv_iconst (v := 1) hx hb dL_setEntry_15 (by decide) ?_
      obtain rfl := Option.some.inj hF
      exact en_i hQ (Nat.le_of_ble_eq_true rfl) (Nat.le_of_ble_eq_true rfl) hx hb hr hlocks hP hD hS rfl dL_setEntry_16
    have hF := q_brn w5_0 hF
    by_cases w5_1 : X = "java/lang/IllegalArgumentException"
    · have hF := q_brp w5_1 hF
      subst w5_1
      refine vx_catch (E := "java/lang/IllegalArgumentException") (name := "java/lang/IllegalArgumentException") hown [⟨0, 10, 13, 13⟩] ⟨0, 10, 17, 15⟩ [] htab (List.forall_mem_cons.mpr ⟨Or.inr ⟨by decide, "java/lang/IndexOutOfBoundsException", ha _ mw960, hst.nc (q := ("java/lang/IllegalArgumentException", "java/lang/IndexOutOfBoundsException")) (List.mem_of_getElem? (i := 5) rfl)⟩, (fun _ h => nomatch h)⟩) (by decide) (by decide) (ha _ mw963) (va_Nw.use rfl (hst.cs cs_IllegalArgumentException)) h1 h2 h3 ?_
      refine lv_astore (lv' := [(4, .ref q9), (0, .ref (a o)), (1, .int p2), (2, .int p3), (3, .ref (ay oy))]) hx hb dL_setEntry_17 hl (by decide) rfl (fun ls hl => ?_)
      refine lv_iconst (v := 2) hx hb dL_setEntry_19 (by decide) ?_
      obtain rfl := Option.some.inj hF
      exact en_i hQ (Nat.le_of_ble_eq_true rfl) (Nat.le_of_ble_eq_true rfl) hx hb hr hlocks hP hD hS rfl dL_setEntry_20
    have hF := q_brn w5_1 hF
    exact absurd hF (by simp)
  have hF := q_sml er2 hF
  refine lv_i2l hx hb dL_setEntry_8 rfl ?_
  refine vi_last hx hb hst.k hP hD hS 147 3 rfl rfl (f := y) (k := 0) (by decide) (by decide) dL_setEntry_9 (fun H locs hP hD hS => ?_)
  have hP : va_P E.1 vwCl (List.flatten [w_VBR a o x.2.2.2.1 x.2.2.2.2.1 x.2.2.2.2.2, w_ValleyR a (o + 1), w_Key E a (o + 2) (q1.2.1, q1.2.2.1, q1.2.2.2.1), w_Bells E a (o + 3) (q1.2.2.2.2.1, q1.2.2.2.2.2.1, q1.2.2.2.2.2.2.1), w_Mel E a (o + 6) (q1.2.2.2.2.2.2.2.1, q1.2.2.2.2.2.2.2.2.1, q1.2.2.2.2.2.2.2.2.2.1), w_Cliffs E a (o + 10) (q1.2.2.2.2.2.2.2.2.2.2.1, q1.2.2.2.2.2.2.2.2.2.2.2.1, q1.2.2.2.2.2.2.2.2.2.2.2.2.1), w_ValleyR a (o + 13), w_Key E a (o + 14) x.1.2.1.1, w_Bells E a (o + 15) x.1.2.1.2.1, w_Mel E a (o + 18) x.1.2.1.2.2.1, w_Cliffs E a (o + 22) x.1.2.1.2.2.2, w_Prog E a (o + 25) x.1.2.2.2.1, w_Chord E a (o + 31) x.1.2.2.2.2, w_Key E a (o + 34) x.2.1, w_Line E a (o + 35) x.2.2.1, w_Hist E a (o + 37) (q1.2.2.2.2.2.2.2.2.2.2.2.2.2.1, q1.2.2.2.2.2.2.2.2.2.2.2.2.2.2.1, q1.2.2.2.2.2.2.2.2.2.2.2.2.2.2.2), w_LongArr E ay oy (vp_updL y 0 (r2.toInt64))]) H := hP
  have hD : va_D A (List.flatten [w_VBR a o x.2.2.2.1 x.2.2.2.2.1 x.2.2.2.2.2, w_ValleyR a (o + 1), w_Key E a (o + 2) (q1.2.1, q1.2.2.1, q1.2.2.2.1), w_Bells E a (o + 3) (q1.2.2.2.2.1, q1.2.2.2.2.2.1, q1.2.2.2.2.2.2.1), w_Mel E a (o + 6) (q1.2.2.2.2.2.2.2.1, q1.2.2.2.2.2.2.2.2.1, q1.2.2.2.2.2.2.2.2.2.1), w_Cliffs E a (o + 10) (q1.2.2.2.2.2.2.2.2.2.2.1, q1.2.2.2.2.2.2.2.2.2.2.2.1, q1.2.2.2.2.2.2.2.2.2.2.2.2.1), w_ValleyR a (o + 13), w_Key E a (o + 14) x.1.2.1.1, w_Bells E a (o + 15) x.1.2.1.2.1, w_Mel E a (o + 18) x.1.2.1.2.2.1, w_Cliffs E a (o + 22) x.1.2.1.2.2.2, w_Prog E a (o + 25) x.1.2.2.2.1, w_Chord E a (o + 31) x.1.2.2.2.2, w_Key E a (o + 34) x.2.1, w_Line E a (o + 35) x.2.2.1, w_Hist E a (o + 37) (q1.2.2.2.2.2.2.2.2.2.2.2.2.2.1, q1.2.2.2.2.2.2.2.2.2.2.2.2.2.2.1, q1.2.2.2.2.2.2.2.2.2.2.2.2.2.2.2), w_LongArr E ay oy (vp_updL y 0 (r2.toInt64))]) := hD
  refine lv_goto (tgt := 21) hx hb dL_setEntry_10 (by decide) ?_
  refine lv_iconst (v := 0) hx hb dL_setEntry_21 (by decide) ?_
  obtain rfl := Option.some.inj hF
  exact en_i hQ (Nat.le_of_ble_eq_true rfl) (Nat.le_of_ble_eq_true rfl) hx hb hr hlocks hP hD hS rfl dL_setEntry_22

/-! L_addCliff -/
theorem dL_addCliff_0 : decode cL_addCliff 0 = .ok (.aload_n 3, 1) := by decide +kernel
theorem dL_addCliff_1 : decode cL_addCliff 1 = .ok (.iconst 0, 1) := by decide +kernel
theorem dL_addCliff_2 : decode cL_addCliff 2 = .ok (.aload_n 0, 1) := by decide +kernel
theorem dL_addCliff_3 : decode cL_addCliff 3 = .ok (.iload_n 1, 1) := by decide +kernel
theorem dL_addCliff_4 : decode cL_addCliff 4 = .ok (.iload_n 2, 1) := by decide +kernel
theorem dL_addCliff_5 : decode cL_addCliff 5 = .ok (.invokevirtual 48, 3) := by decide +kernel
theorem dL_addCliff_8 : decode cL_addCliff 8 = .ok (.i2l, 1) := by decide +kernel
theorem dL_addCliff_9 : decode cL_addCliff 9 = .ok (.lastore, 1) := by decide +kernel
theorem dL_addCliff_10 : decode cL_addCliff 10 = .ok (.goto 11, 3) := by decide +kernel
theorem dL_addCliff_13 : decode cL_addCliff 13 = .ok (.astore 4, 2) := by decide +kernel
theorem dL_addCliff_15 : decode cL_addCliff 15 = .ok (.iconst 1, 1) := by decide +kernel
theorem dL_addCliff_16 : decode cL_addCliff 16 = .ok (.ireturn, 1) := by decide +kernel
theorem dL_addCliff_17 : decode cL_addCliff 17 = .ok (.astore 4, 2) := by decide +kernel
theorem dL_addCliff_19 : decode cL_addCliff 19 = .ok (.iconst 2, 1) := by decide +kernel
theorem dL_addCliff_20 : decode cL_addCliff 20 = .ok (.ireturn, 1) := by decide +kernel
theorem dL_addCliff_21 : decode cL_addCliff 21 = .ok (.iconst 0, 1) := by decide +kernel
theorem dL_addCliff_22 : decode cL_addCliff 22 = .ok (.ireturn, 1) := by decide +kernel
def f_L_addCliff (x_valley_key_tonic : Int32) (x_valley_key_isMinor : Int32) (x_valley_key_tolerance : Int32) (x_valley_bells_herds : (Nat → Int32)) (x_valley_bells_pitches : (Nat → Int32)) (x_valley_bells_count : Int32) (x_valley_melodies_lengths : (Nat → Int32)) (x_valley_melodies_entries : (Nat → Int32)) (x_valley_melodies_tones : (Nat → Int32)) (x_valley_cliffs_delays : (Nat → Int32)) (x_valley_cliffs_transpositions : (Nat → Int32)) (x_valley_cliffs_count : Int32) (x_history_slots : (Nat → Valley_t)) (x_history_current : Int32) (x_history_count : Int32) (y_v : (Nat → Int64)) (p2 : Int32) (p3 : Int32) : Option (Int32 × Int32 × Int32 × Int32 × (Nat → Int32) × (Nat → Int32) × Int32 × (Nat → Int32) × (Nat → Int32) × (Nat → Int32) × (Nat → Int32) × (Nat → Int32) × Int32 × (Nat → Valley_t) × Int32 × Int32 × (Nat → Int64)) :=
  q_bd (f_X10_addCliff x_valley_key_tonic x_valley_key_isMinor x_valley_key_tolerance x_valley_bells_herds x_valley_bells_pitches x_valley_bells_count x_valley_melodies_lengths x_valley_melodies_entries x_valley_melodies_tones x_valley_cliffs_delays x_valley_cliffs_transpositions x_valley_cliffs_count x_history_slots x_history_current x_history_count p2 p3) (fun q1 =>
  q_sm q1.1 (fun X => q_br (X = "java/lang/IllegalArgumentException") (
  some (1, q1.2.1, q1.2.2.1, q1.2.2.2.1, q1.2.2.2.2.1, q1.2.2.2.2.2.1, q1.2.2.2.2.2.2.1, q1.2.2.2.2.2.2.2.1, q1.2.2.2.2.2.2.2.2.1, q1.2.2.2.2.2.2.2.2.2.1, q1.2.2.2.2.2.2.2.2.2.2.1, q1.2.2.2.2.2.2.2.2.2.2.2.1, q1.2.2.2.2.2.2.2.2.2.2.2.2.1, q1.2.2.2.2.2.2.2.2.2.2.2.2.2.1, q1.2.2.2.2.2.2.2.2.2.2.2.2.2.2.1, q1.2.2.2.2.2.2.2.2.2.2.2.2.2.2.2, y_v)) (
  q_br (X = "java/lang/IllegalStateException") (
  some (2, q1.2.1, q1.2.2.1, q1.2.2.2.1, q1.2.2.2.2.1, q1.2.2.2.2.2.1, q1.2.2.2.2.2.2.1, q1.2.2.2.2.2.2.2.1, q1.2.2.2.2.2.2.2.2.1, q1.2.2.2.2.2.2.2.2.2.1, q1.2.2.2.2.2.2.2.2.2.2.1, q1.2.2.2.2.2.2.2.2.2.2.2.1, q1.2.2.2.2.2.2.2.2.2.2.2.2.1, q1.2.2.2.2.2.2.2.2.2.2.2.2.2.1, q1.2.2.2.2.2.2.2.2.2.2.2.2.2.2.1, q1.2.2.2.2.2.2.2.2.2.2.2.2.2.2.2, y_v)) (
  none))) (fun r2 =>
  some (0, q1.2.1, q1.2.2.1, q1.2.2.2.1, q1.2.2.2.2.1, q1.2.2.2.2.2.1, q1.2.2.2.2.2.2.1, q1.2.2.2.2.2.2.2.1, q1.2.2.2.2.2.2.2.2.1, q1.2.2.2.2.2.2.2.2.2.1, q1.2.2.2.2.2.2.2.2.2.2.1, q1.2.2.2.2.2.2.2.2.2.2.2.1, q1.2.2.2.2.2.2.2.2.2.2.2.2.1, q1.2.2.2.2.2.2.2.2.2.2.2.2.2.1, q1.2.2.2.2.2.2.2.2.2.2.2.2.2.2.1, q1.2.2.2.2.2.2.2.2.2.2.2.2.2.2.2, vp_updL y_v 0 (r2.toInt64))))
theorem hv_L_addCliff : yL_addCliff.cls = RL ∧ yL_addCliff.cls ≠ "java/lang/invoke/MethodHandle" ∧ yL_addCliff.cls ≠ "java/lang/invoke/VarHandle" ∧ (parseMethodDescriptor yL_addCliff.desc).map (fun d => d.parameters.length) = some 4 := by decide +kernel
abbrev rm_L_addCliff : Room := { frames := 8, cells := 1, slots := 6, locals := 180 }
set_option maxHeartbeats 4000000 in
set_option maxRecDepth 100000 in
theorem k_L_addCliff (l : Launch) (E : ET) (a : Nat → Nat) (o : Nat) (x : VB_t) (ay : Nat → Nat) (oy : Nat) (y : (Nat → Int64)) (p2 : Int32) (p3 : Int32) (res : Int32 × Int32 × Int32 × Int32 × (Nat → Int32) × (Nat → Int32) × Int32 × (Nat → Int32) × (Nat → Int32) × (Nat → Int32) × (Nat → Int32) × (Nat → Int32) × Int32 × (Nat → Valley_t) × Int32 × Int32 × (Nat → Int64)) (hF : f_L_addCliff x.1.1.1.1 x.1.1.1.2.1 x.1.1.1.2.2 x.1.1.2.1.1 x.1.1.2.1.2.1 x.1.1.2.1.2.2 x.1.1.2.2.1.1 x.1.1.2.2.1.2.1 x.1.1.2.2.1.2.2 x.1.1.2.2.2.1 x.1.1.2.2.2.2.1 x.1.1.2.2.2.2.2 x.1.2.2.1.1 x.1.2.2.1.2.1 x.1.2.2.1.2.2 y p2 p3 = some res) (sz : Nat) (hlt : l.stackTraces = false) : CtI l yL_addCliff (mwsH yL_addCliff cL_addCliff 5 (some .int) [(0, 10, 13, 15), (0, 10, 17, 17)]) rm_L_addCliff 1 6 [.ref (a o), .int p2, .int p3, .ref (ay oy)] E (bl_VB E a o x ++ bl_LongArr E ay oy y) res.1 (bl_VB E a o ((((res.2.1, res.2.2.1, res.2.2.2.1), (res.2.2.2.2.1, res.2.2.2.2.2.1, res.2.2.2.2.2.2.1), (res.2.2.2.2.2.2.2.1, res.2.2.2.2.2.2.2.2.1, res.2.2.2.2.2.2.2.2.2.1), (res.2.2.2.2.2.2.2.2.2.2.1, res.2.2.2.2.2.2.2.2.2.2.2.1, res.2.2.2.2.2.2.2.2.2.2.2.2.1)), x.1.2.1, (res.2.2.2.2.2.2.2.2.2.2.2.2.2.1, res.2.2.2.2.2.2.2.2.2.2.2.2.2.2.1, res.2.2.2.2.2.2.2.2.2.2.2.2.2.2.2.1), x.1.2.2.2.1, x.1.2.2.2.2), (x.2.1, x.2.2.1, x.2.2.2.1, x.2.2.2.2.1, x.2.2.2.2.2)) ++ bl_LongArr E ay oy res.2.2.2.2.2.2.2.2.2.2.2.2.2.2.2.2) sz := by
  refine mk_H (by decide +kernel) (Nat.le_of_ble_eq_true rfl) ?_
  intro p e s m below meth c A args Q ls hAe hsz hQ hx hb hr hml hin ha hown hlocks hA hz hzs hst htab hP hD hS hl
  have hown : s.vm.findClass RL = some m.cls := hown
  rw [hAe] at hQ
  subst hsz
  have hP : va_P E.1 vwCl (List.flatten [w_VBR a o x.2.2.2.1 x.2.2.2.2.1 x.2.2.2.2.2, w_ValleyR a (o + 1), w_Key E a (o + 2) x.1.1.1, w_Bells E a (o + 3) x.1.1.2.1, w_Mel E a (o + 6) x.1.1.2.2.1, w_Cliffs E a (o + 10) x.1.1.2.2.2, w_ValleyR a (o + 13), w_Key E a (o + 14) x.1.2.1.1, w_Bells E a (o + 15) x.1.2.1.2.1, w_Mel E a (o + 18) x.1.2.1.2.2.1, w_Cliffs E a (o + 22) x.1.2.1.2.2.2, w_Prog E a (o + 25) x.1.2.2.2.1, w_Chord E a (o + 31) x.1.2.2.2.2, w_Key E a (o + 34) x.2.1, w_Line E a (o + 35) x.2.2.1, w_Hist E a (o + 37) x.1.2.2.1, w_LongArr E ay oy y]) s.heap := hP
  have hD : va_D A (List.flatten [w_VBR a o x.2.2.2.1 x.2.2.2.2.1 x.2.2.2.2.2, w_ValleyR a (o + 1), w_Key E a (o + 2) x.1.1.1, w_Bells E a (o + 3) x.1.1.2.1, w_Mel E a (o + 6) x.1.1.2.2.1, w_Cliffs E a (o + 10) x.1.1.2.2.2, w_ValleyR a (o + 13), w_Key E a (o + 14) x.1.2.1.1, w_Bells E a (o + 15) x.1.2.1.2.1, w_Mel E a (o + 18) x.1.2.1.2.2.1, w_Cliffs E a (o + 22) x.1.2.1.2.2.2, w_Prog E a (o + 25) x.1.2.2.2.1, w_Chord E a (o + 31) x.1.2.2.2.2, w_Key E a (o + 34) x.2.1, w_Line E a (o + 35) x.2.2.1, w_Hist E a (o + 37) x.1.2.2.1, w_LongArr E ay oy y]) := hD
  have hl : lv_has ls 5 [(0, .ref (a o)), (1, .int p2), (2, .int p3), (3, .ref (ay oy))] := hl
  generalize hHe : s.heap = H at hP
  have hS : va_S A s.heap H [] := by rw [← hHe]; exact hS
  generalize ([] : List Loc) = locs at hS ⊢
  unfold f_L_addCliff at hF
  refine lv_aload_n hx hb dL_addCliff_0 rfl (lv_at hl 3 rfl) ?_
  refine lv_iconst (v := 0) hx hb dL_addCliff_1 (by decide) ?_
  refine lv_aload_n hx hb dL_addCliff_2 rfl (lv_at hl 0 rfl) ?_
  refine lv_iload_n hx hb dL_addCliff_3 rfl (lv_at hl 1 rfl) ?_
  refine lv_iload_n hx hb dL_addCliff_4 rfl (lv_at hl 2 rfl) ?_
  obtain ⟨q1, hq1, hF⟩ := q_bdi hF
  refine cx_i (ro := q1.1) (Lc := [w_VBR a o x.2.2.2.1 x.2.2.2.2.1 x.2.2.2.2.2, w_ValleyR a (o + 1), w_Key E a (o + 2) x.1.1.1, w_Bells E a (o + 3) x.1.1.2.1, w_Mel E a (o + 6) x.1.1.2.2.1, w_Cliffs E a (o + 10) x.1.1.2.2.2, w_ValleyR a (o + 13), w_Key E a (o + 14) x.1.2.1.1, w_Bells E a (o + 15) x.1.2.1.2.1, w_Mel E a (o + 18) x.1.2.1.2.2.1, w_Cliffs E a (o + 22) x.1.2.1.2.2.2, w_Prog E a (o + 25) x.1.2.2.2.1, w_Chord E a (o + 31) x.1.2.2.2.2, w_Key E a (o + 34) x.2.1, w_Line E a (o + 35) x.2.2.1, w_Hist E a (o + 37) x.1.2.2.1]) (Lc' := [w_VBR a o x.2.2.2.1 x.2.2.2.2.1 x.2.2.2.2.2, w_ValleyR a (o + 1), w_Key E a (o + 2) (q1.2.1, q1.2.2.1, q1.2.2.2.1), w_Bells E a (o + 3) (q1.2.2.2.2.1, q1.2.2.2.2.2.1, q1.2.2.2.2.2.2.1), w_Mel E a (o + 6) (q1.2.2.2.2.2.2.2.1, q1.2.2.2.2.2.2.2.2.1, q1.2.2.2.2.2.2.2.2.2.1), w_Cliffs E a (o + 10) (q1.2.2.2.2.2.2.2.2.2.2.1, q1.2.2.2.2.2.2.2.2.2.2.2.1, q1.2.2.2.2.2.2.2.2.2.2.2.2.1), w_ValleyR a (o + 13), w_Key E a (o + 14) x.1.2.1.1, w_Bells E a (o + 15) x.1.2.1.2.1, w_Mel E a (o + 18) x.1.2.1.2.2.1, w_Cliffs E a (o + 22) x.1.2.1.2.2.2, w_Prog E a (o + 25) x.1.2.2.2.1, w_Chord E a (o + 31) x.1.2.2.2.2, w_Key E a (o + 34) x.2.1, w_Line E a (o + 35) x.2.2.1, w_Hist E a (o + 37) (q1.2.2.2.2.2.2.2.2.2.2.2.2.2.1, q1.2.2.2.2.2.2.2.2.2.2.2.2.2.2.1, q1.2.2.2.2.2.2.2.2.2.2.2.2.2.2.2)]) (L' := [w_VBR a o x.2.2.2.1 x.2.2.2.2.1 x.2.2.2.2.2, w_ValleyR a (o + 1), w_Key E a (o + 2) (q1.2.1, q1.2.2.1, q1.2.2.2.1), w_Bells E a (o + 3) (q1.2.2.2.2.1, q1.2.2.2.2.2.1, q1.2.2.2.2.2.2.1), w_Mel E a (o + 6) (q1.2.2.2.2.2.2.2.1, q1.2.2.2.2.2.2.2.2.1, q1.2.2.2.2.2.2.2.2.2.1), w_Cliffs E a (o + 10) (q1.2.2.2.2.2.2.2.2.2.2.1, q1.2.2.2.2.2.2.2.2.2.2.2.1, q1.2.2.2.2.2.2.2.2.2.2.2.2.1), w_ValleyR a (o + 13), w_Key E a (o + 14) x.1.2.1.1, w_Bells E a (o + 15) x.1.2.1.2.1, w_Mel E a (o + 18) x.1.2.1.2.2.1, w_Cliffs E a (o + 22) x.1.2.1.2.2.2, w_Prog E a (o + 25) x.1.2.2.2.1, w_Chord E a (o + 31) x.1.2.2.2.2, w_Key E a (o + 34) x.2.1, w_Line E a (o + 35) x.2.2.1, w_Hist E a (o + 37) (q1.2.2.2.2.2.2.2.2.2.2.2.2.2.1, q1.2.2.2.2.2.2.2.2.2.2.2.2.2.2.1, q1.2.2.2.2.2.2.2.2.2.2.2.2.2.2.2), w_LongArr E ay oy y]) (vx_runV (As := [.int p2, .int p3]) (rest := [.int 0, .ref (ay oy)]) ⟨hx, hb, hml, hown, ha⟩ (k_X10_addCliff l E a o x p2 p3 q1 hq1 H.size hlt) (cwV 2 ha (gi_V (fun _ h => h) mw1188 mw1189 mw1190 mw74 mw1191) rfl rfl rfl hv_X10_addCliff ⟨(Nat.le_of_ble_eq_true rfl), (Nat.le_of_ble_eq_true rfl)⟩) ⟨pre_blind, va_recv hst.k (fr_P hP [0, 1, 2, 3, 4, 5, 6, 7, 8, 9, 10, 11, 12, 13, 14, 15] rfl) (ci := 12) (q0 := 0) rfl rfl, pre_at hP hD hS hz hzs hst [0, 1, 2, 3, 4, 5, 6, 7, 8, 9, 10, 11, 12, 13, 14, 15] (by decide) rfl rfl⟩ rfl rfl hl.1 rfl (lv_room (Nat.le_of_ble_eq_true rfl)) dL_addCliff_5 ⟨(Nat.le_of_ble_eq_true rfl), (Nat.le_of_ble_eq_true rfl)⟩) hP hD hS hA [0, 1, 2, 3, 4, 5, 6, 7, 8, 9, 10, 11, 12, 13, 14, 15] (by decide) rfl rfl rfl rfl (fun X ce q9 H locs eX h1 h2 h3 hP hD hS => ?_) (fun r2 H locs er2 hP hD hS => ?_)
  · have hF := q_smr eX hF
    by_cases w5_0 : X = "java/lang/IllegalArgumentException"
    · have hF := q_brp w5_0 hF
      subst w5_0
      refine vx_catch (E := "java/lang/IllegalArgumentException") (name := "java/lang/IllegalArgumentException") hown [] ⟨0, 10, 13, 15⟩ [⟨0, 10, 17, 17⟩] htab (fun _ h => nomatch h) (by decide) (by decide) (ha _ mw963) (va_Nw.use rfl (hst.cs cs_IllegalArgumentException)) h1 h2 h3 ?_
      refine lv_astore (lv' := [(4, .ref q9), (0, .ref (a o)), (1, .int p2), (2, .int p3), (3, .ref (ay oy))]) hx hb dL_addCliff_13 hl (by decide) rfl (fun ls hl => ?_)
      refine lv_iconst (v := 1) hx hb dL_addCliff_15 (by decide) ?_
      obtain rfl := Option.some.inj hF
      exact en_i hQ (Nat.le_of_ble_eq_true rfl) (Nat.le_of_ble_eq_true rfl) hx hb hr hlocks hP hD hS rfl dL_addCliff_16
    have hF := q_brn w5_0 hF
    by_cases w5_1 : X = "java/lang/IllegalStateException"
    · have hF := q_brp w5_1 hF
      subst w5_1
      refine vx_catch (E := "java/lang/IllegalStateException") (name := "java/lang/IllegalStateException") hown [⟨0, 10, 13, 15⟩] ⟨0, 10, 17, 17⟩ [] htab (List.forall_mem_cons.mpr ⟨Or.inr ⟨by decide, "java/lang/IllegalArgumentException", ha _ mw963, hst.nc (q := ("java/lang/IllegalStateException", "java/lang/IllegalArgumentException")) (List.mem_of_getElem? (i := 11) rfl)⟩, (fun _ h => nomatch h)⟩) (by decide) (by decide) (ha _ mw964) (va_Nw.use rfl (hst.cs cs_IllegalStateException)) h1 h2 h3 ?_
      refine lv_astore (lv' := [(4, .ref q9), (0, .ref (a o)), (1, .int p2), (2, .int p3), (3, .ref (ay oy))]) hx hb dL_addCliff_17 hl (by decide) rfl (fun ls hl => ?_)
      refine lv_iconst (v := 2) hx hb dL_addCliff_19 (by decide) ?_
      obtain rfl := Option.some.inj hF
      exact en_i hQ (Nat.le_of_ble_eq_true rfl) (Nat.le_of_ble_eq_true rfl) hx hb hr hlocks hP hD hS rfl dL_addCliff_20
    have hF := q_brn w5_1 hF
    exact absurd hF (by simp)
  have hF := q_sml er2 hF
  refine lv_i2l hx hb dL_addCliff_8 rfl ?_
  refine vi_last hx hb hst.k hP hD hS 147 3 rfl rfl (f := y) (k := 0) (by decide) (by decide) dL_addCliff_9 (fun H locs hP hD hS => ?_)
  have hP : va_P E.1 vwCl (List.flatten [w_VBR a o x.2.2.2.1 x.2.2.2.2.1 x.2.2.2.2.2, w_ValleyR a (o + 1), w_Key E a (o + 2) (q1.2.1, q1.2.2.1, q1.2.2.2.1), w_Bells E a (o + 3) (q1.2.2.2.2.1, q1.2.2.2.2.2.1, q1.2.2.2.2.2.2.1), w_Mel E a (o + 6) (q1.2.2.2.2.2.2.2.1, q1.2.2.2.2.2.2.2.2.1, q1.2.2.2.2.2.2.2.2.2.1), w_Cliffs E a (o + 10) (q1.2.2.2.2.2.2.2.2.2.2.1, q1.2.2.2.2.2.2.2.2.2.2.2.1, q1.2.2.2.2.2.2.2.2.2.2.2.2.1), w_ValleyR a (o + 13), w_Key E a (o + 14) x.1.2.1.1, w_Bells E a (o + 15) x.1.2.1.2.1, w_Mel E a (o + 18) x.1.2.1.2.2.1, w_Cliffs E a (o + 22) x.1.2.1.2.2.2, w_Prog E a (o + 25) x.1.2.2.2.1, w_Chord E a (o + 31) x.1.2.2.2.2, w_Key E a (o + 34) x.2.1, w_Line E a (o + 35) x.2.2.1, w_Hist E a (o + 37) (q1.2.2.2.2.2.2.2.2.2.2.2.2.2.1, q1.2.2.2.2.2.2.2.2.2.2.2.2.2.2.1, q1.2.2.2.2.2.2.2.2.2.2.2.2.2.2.2), w_LongArr E ay oy (vp_updL y 0 (r2.toInt64))]) H := hP
  have hD : va_D A (List.flatten [w_VBR a o x.2.2.2.1 x.2.2.2.2.1 x.2.2.2.2.2, w_ValleyR a (o + 1), w_Key E a (o + 2) (q1.2.1, q1.2.2.1, q1.2.2.2.1), w_Bells E a (o + 3) (q1.2.2.2.2.1, q1.2.2.2.2.2.1, q1.2.2.2.2.2.2.1), w_Mel E a (o + 6) (q1.2.2.2.2.2.2.2.1, q1.2.2.2.2.2.2.2.2.1, q1.2.2.2.2.2.2.2.2.2.1), w_Cliffs E a (o + 10) (q1.2.2.2.2.2.2.2.2.2.2.1, q1.2.2.2.2.2.2.2.2.2.2.2.1, q1.2.2.2.2.2.2.2.2.2.2.2.2.1), w_ValleyR a (o + 13), w_Key E a (o + 14) x.1.2.1.1, w_Bells E a (o + 15) x.1.2.1.2.1, w_Mel E a (o + 18) x.1.2.1.2.2.1, w_Cliffs E a (o + 22) x.1.2.1.2.2.2, w_Prog E a (o + 25) x.1.2.2.2.1, w_Chord E a (o + 31) x.1.2.2.2.2, w_Key E a (o + 34) x.2.1, w_Line E a (o + 35) x.2.2.1, w_Hist E a (o + 37) (q1.2.2.2.2.2.2.2.2.2.2.2.2.2.1, q1.2.2.2.2.2.2.2.2.2.2.2.2.2.2.1, q1.2.2.2.2.2.2.2.2.2.2.2.2.2.2.2), w_LongArr E ay oy (vp_updL y 0 (r2.toInt64))]) := hD
  refine lv_goto (tgt := 21) hx hb dL_addCliff_10 (by decide) ?_
  refine lv_iconst (v := 0) hx hb dL_addCliff_21 (by decide) ?_
  obtain rfl := Option.some.inj hF
  exact en_i hQ (Nat.le_of_ble_eq_true rfl) (Nat.le_of_ble_eq_true rfl) hx hb hr hlocks hP hD hS rfl dL_addCliff_22

/-! L_removeCliff -/
theorem dL_removeCliff_0 : decode cL_removeCliff 0 = .ok (.aload_n 2, 1) := by decide +kernel
theorem dL_removeCliff_1 : decode cL_removeCliff 1 = .ok (.iconst 0, 1) := by decide +kernel
theorem dL_removeCliff_2 : decode cL_removeCliff 2 = .ok (.aload_n 0, 1) := by decide +kernel
theorem dL_removeCliff_3 : decode cL_removeCliff 3 = .ok (.iload_n 1, 1) := by decide +kernel
theorem dL_removeCliff_4 : decode cL_removeCliff 4 = .ok (.invokevirtual 51, 3) := by decide +kernel
theorem dL_removeCliff_7 : decode cL_removeCliff 7 = .ok (.i2l, 1) := by decide +kernel
theorem dL_removeCliff_8 : decode cL_removeCliff 8 = .ok (.lastore, 1) := by decide +kernel
theorem dL_removeCliff_9 : decode cL_removeCliff 9 = .ok (.goto 6, 3) := by decide +kernel
theorem dL_removeCliff_12 : decode cL_removeCliff 12 = .ok (.astore_n 3, 1) := by decide +kernel
theorem dL_removeCliff_13 : decode cL_removeCliff 13 = .ok (.iconst 1, 1) := by decide +kernel
theorem dL_removeCliff_14 : decode cL_removeCliff 14 = .ok (.ireturn, 1) := by decide +kernel
theorem dL_removeCliff_15 : decode cL_removeCliff 15 = .ok (.iconst 0, 1) := by decide +kernel
theorem dL_removeCliff_16 : decode cL_removeCliff 16 = .ok (.ireturn, 1) := by decide +kernel
def f_L_removeCliff (x_valley_key_tonic : Int32) (x_valley_key_isMinor : Int32) (x_valley_key_tolerance : Int32) (x_valley_bells_herds : (Nat → Int32)) (x_valley_bells_pitches : (Nat → Int32)) (x_valley_bells_count : Int32) (x_valley_melodies_lengths : (Nat → Int32)) (x_valley_melodies_entries : (Nat → Int32)) (x_valley_melodies_tones : (Nat → Int32)) (x_valley_cliffs_delays : (Nat → Int32)) (x_valley_cliffs_transpositions : (Nat → Int32)) (x_valley_cliffs_count : Int32) (x_history_slots : (Nat → Valley_t)) (x_history_current : Int32) (x_history_count : Int32) (y_v : (Nat → Int64)) (p2 : Int32) : Option (Int32 × Int32 × Int32 × Int32 × (Nat → Int32) × (Nat → Int32) × Int32 × (Nat → Int32) × (Nat → Int32) × (Nat → Int32) × (Nat → Int32) × (Nat → Int32) × Int32 × (Nat → Valley_t) × Int32 × Int32 × (Nat → Int64)) :=
  q_bd (f_X10_removeCliff x_valley_key_tonic x_valley_key_isMinor x_valley_key_tolerance x_valley_bells_herds x_valley_bells_pitches x_valley_bells_count x_valley_melodies_lengths x_valley_melodies_entries x_valley_melodies_tones x_valley_cliffs_delays x_valley_cliffs_transpositions x_valley_cliffs_count x_history_slots x_history_current x_history_count p2) (fun q1 =>
  q_sm q1.1 (fun X => q_br (X = "java/lang/IndexOutOfBoundsException") (
  some (1, q1.2.1, q1.2.2.1, q1.2.2.2.1, q1.2.2.2.2.1, q1.2.2.2.2.2.1, q1.2.2.2.2.2.2.1, q1.2.2.2.2.2.2.2.1, q1.2.2.2.2.2.2.2.2.1, q1.2.2.2.2.2.2.2.2.2.1, q1.2.2.2.2.2.2.2.2.2.2.1, q1.2.2.2.2.2.2.2.2.2.2.2.1, q1.2.2.2.2.2.2.2.2.2.2.2.2.1, q1.2.2.2.2.2.2.2.2.2.2.2.2.2.1, q1.2.2.2.2.2.2.2.2.2.2.2.2.2.2.1, q1.2.2.2.2.2.2.2.2.2.2.2.2.2.2.2, y_v)) (
  none)) (fun r2 =>
  some (0, q1.2.1, q1.2.2.1, q1.2.2.2.1, q1.2.2.2.2.1, q1.2.2.2.2.2.1, q1.2.2.2.2.2.2.1, q1.2.2.2.2.2.2.2.1, q1.2.2.2.2.2.2.2.2.1, q1.2.2.2.2.2.2.2.2.2.1, q1.2.2.2.2.2.2.2.2.2.2.1, q1.2.2.2.2.2.2.2.2.2.2.2.1, q1.2.2.2.2.2.2.2.2.2.2.2.2.1, q1.2.2.2.2.2.2.2.2.2.2.2.2.2.1, q1.2.2.2.2.2.2.2.2.2.2.2.2.2.2.1, q1.2.2.2.2.2.2.2.2.2.2.2.2.2.2.2, vp_updL y_v 0 (r2.toInt64))))
theorem hv_L_removeCliff : yL_removeCliff.cls = RL ∧ yL_removeCliff.cls ≠ "java/lang/invoke/MethodHandle" ∧ yL_removeCliff.cls ≠ "java/lang/invoke/VarHandle" ∧ (parseMethodDescriptor yL_removeCliff.desc).map (fun d => d.parameters.length) = some 3 := by decide +kernel
abbrev rm_L_removeCliff : Room := { frames := 8, cells := 1, slots := 6, locals := 179 }
set_option maxHeartbeats 4000000 in
set_option maxRecDepth 100000 in
theorem k_L_removeCliff (l : Launch) (E : ET) (a : Nat → Nat) (o : Nat) (x : VB_t) (ay : Nat → Nat) (oy : Nat) (y : (Nat → Int64)) (p2 : Int32) (res : Int32 × Int32 × Int32 × Int32 × (Nat → Int32) × (Nat → Int32) × Int32 × (Nat → Int32) × (Nat → Int32) × (Nat → Int32) × (Nat → Int32) × (Nat → Int32) × Int32 × (Nat → Valley_t) × Int32 × Int32 × (Nat → Int64)) (hF : f_L_removeCliff x.1.1.1.1 x.1.1.1.2.1 x.1.1.1.2.2 x.1.1.2.1.1 x.1.1.2.1.2.1 x.1.1.2.1.2.2 x.1.1.2.2.1.1 x.1.1.2.2.1.2.1 x.1.1.2.2.1.2.2 x.1.1.2.2.2.1 x.1.1.2.2.2.2.1 x.1.1.2.2.2.2.2 x.1.2.2.1.1 x.1.2.2.1.2.1 x.1.2.2.1.2.2 y p2 = some res) (sz : Nat) (hlt : l.stackTraces = false) : CtI l yL_removeCliff (mwsH yL_removeCliff cL_removeCliff 4 (some .int) [(0, 9, 12, 13)]) rm_L_removeCliff 1 6 [.ref (a o), .int p2, .ref (ay oy)] E (bl_VB E a o x ++ bl_LongArr E ay oy y) res.1 (bl_VB E a o ((((res.2.1, res.2.2.1, res.2.2.2.1), (res.2.2.2.2.1, res.2.2.2.2.2.1, res.2.2.2.2.2.2.1), (res.2.2.2.2.2.2.2.1, res.2.2.2.2.2.2.2.2.1, res.2.2.2.2.2.2.2.2.2.1), (res.2.2.2.2.2.2.2.2.2.2.1, res.2.2.2.2.2.2.2.2.2.2.2.1, res.2.2.2.2.2.2.2.2.2.2.2.2.1)), x.1.2.1, (res.2.2.2.2.2.2.2.2.2.2.2.2.2.1, res.2.2.2.2.2.2.2.2.2.2.2.2.2.2.1, res.2.2.2.2.2.2.2.2.2.2.2.2.2.2.2.1), x.1.2.2.2.1, x.1.2.2.2.2), (x.2.1, x.2.2.1, x.2.2.2.1, x.2.2.2.2.1, x.2.2.2.2.2)) ++ bl_LongArr E ay oy res.2.2.2.2.2.2.2.2.2.2.2.2.2.2.2.2) sz := by
  refine mk_H (by decide +kernel) (Nat.le_of_ble_eq_true rfl) ?_
  intro p e s m below meth c A args Q ls hAe hsz hQ hx hb hr hml hin ha hown hlocks hA hz hzs hst htab hP hD hS hl
  have hown : s.vm.findClass RL = some m.cls := hown
  rw [hAe] at hQ
  subst hsz
  have hP : va_P E.1 vwCl (List.flatten [w_VBR a o x.2.2.2.1 x.2.2.2.2.1 x.2.2.2.2.2, w_ValleyR a (o + 1), w_Key E a (o + 2) x.1.1.1, w_Bells E a (o + 3) x.1.1.2.1, w_Mel E a (o + 6) x.1.1.2.2.1, w_Cliffs E a (o + 10) x.1.1.2.2.2, w_ValleyR a (o + 13), w_Key E a (o + 14) x.1.2.1.1, w_Bells E a (o + 15) x.1.2.1.2.1, w_Mel E a (o + 18) x.1.2.1.2.2.1, w_Cliffs E a (o + 22) x.1.2.1.2.2.2, w_Prog E a (o + 25) x.1.2.2.2.1, w_Chord E a (o + 31) x.1.2.2.2.2, w_Key E a (o + 34) x.2.1, w_Line E a (o + 35) x.2.2.1, w_Hist E a (o + 37) x.1.2.2.1, w_LongArr E ay oy y]) s.heap := hP
  have hD : va_D A (List.flatten [w_VBR a o x.2.2.2.1 x.2.2.2.2.1 x.2.2.2.2.2, w_ValleyR a (o + 1), w_Key E a (o + 2) x.1.1.1, w_Bells E a (o + 3) x.1.1.2.1, w_Mel E a (o + 6) x.1.1.2.2.1, w_Cliffs E a (o + 10) x.1.1.2.2.2, w_ValleyR a (o + 13), w_Key E a (o + 14) x.1.2.1.1, w_Bells E a (o + 15) x.1.2.1.2.1, w_Mel E a (o + 18) x.1.2.1.2.2.1, w_Cliffs E a (o + 22) x.1.2.1.2.2.2, w_Prog E a (o + 25) x.1.2.2.2.1, w_Chord E a (o + 31) x.1.2.2.2.2, w_Key E a (o + 34) x.2.1, w_Line E a (o + 35) x.2.2.1, w_Hist E a (o + 37) x.1.2.2.1, w_LongArr E ay oy y]) := hD
  have hl : lv_has ls 4 [(0, .ref (a o)), (1, .int p2), (2, .ref (ay oy))] := hl
  generalize hHe : s.heap = H at hP
  have hS : va_S A s.heap H [] := by rw [← hHe]; exact hS
  generalize ([] : List Loc) = locs at hS ⊢
  unfold f_L_removeCliff at hF
  refine lv_aload_n hx hb dL_removeCliff_0 rfl (lv_at hl 2 rfl) ?_
  refine lv_iconst (v := 0) hx hb dL_removeCliff_1 (by decide) ?_
  refine lv_aload_n hx hb dL_removeCliff_2 rfl (lv_at hl 0 rfl) ?_
  refine lv_iload_n hx hb dL_removeCliff_3 rfl (lv_at hl 1 rfl) ?_
  obtain ⟨q1, hq1, hF⟩ := q_bdi hF
  refine cx_i (ro := q1.1) (Lc := [w_VBR a o x.2.2.2.1 x.2.2.2.2.1 x.2.2.2.2.2, w_ValleyR a (o + 1), w_Key E a (o + 2) x.1.1.1, w_Bells E a (o + 3) x.1.1.2.1, w_Mel E a (o + 6) x.1.1.2.2.1, w_Cliffs E a (o + 10) x.1.1.2.2.2, w_ValleyR a (o + 13), w_Key E a (o + 14) x.1.2.1.1, w_Bells E a (o + 15) x.1.2.1.2.1, w_Mel E a (o + 18) x.1.2.1.2.2.1, w_Cliffs E a (o + 22) x.1.2.1.2.2.2, w_Prog E a (o + 25) x.1.2.2.2.1, w_Chord E a (o + 31) x.1.2.2.2.2, w_Key E a (o + 34) x.2.1, w_Line E a (o + 35) x.2.2.1, w_Hist E a (o + 37) x.1.2.2.1]) (Lc' := [w_VBR a o x.2.2.2.1 x.2.2.2.2.1 x.2.2.2.2.2, w_ValleyR a (o + 1), w_Key E a (o + 2) (q1.2.1, q1.2.2.1, q1.2.2.2.1), w_Bells E a (o + 3) (q1.2.2.2.2.1, q1.2.2.2.2.2.1, q1.2.2.2.2.2.2.1), w_Mel E a (o + 6) (q1.2.2.2.2.2.2.2.1, q1.2.2.2.2.2.2.2.2.1, q1.2.2.2.2.2.2.2.2.2.1), w_Cliffs E a (o + 10) (q1.2.2.2.2.2.2.2.2.2.2.1, q1.2.2.2.2.2.2.2.2.2.2.2.1, q1.2.2.2.2.2.2.2.2.2.2.2.2.1), w_ValleyR a (o + 13), w_Key E a (o + 14) x.1.2.1.1, w_Bells E a (o + 15) x.1.2.1.2.1, w_Mel E a (o + 18) x.1.2.1.2.2.1, w_Cliffs E a (o + 22) x.1.2.1.2.2.2, w_Prog E a (o + 25) x.1.2.2.2.1, w_Chord E a (o + 31) x.1.2.2.2.2, w_Key E a (o + 34) x.2.1, w_Line E a (o + 35) x.2.2.1, w_Hist E a (o + 37) (q1.2.2.2.2.2.2.2.2.2.2.2.2.2.1, q1.2.2.2.2.2.2.2.2.2.2.2.2.2.2.1, q1.2.2.2.2.2.2.2.2.2.2.2.2.2.2.2)]) (L' := [w_VBR a o x.2.2.2.1 x.2.2.2.2.1 x.2.2.2.2.2, w_ValleyR a (o + 1), w_Key E a (o + 2) (q1.2.1, q1.2.2.1, q1.2.2.2.1), w_Bells E a (o + 3) (q1.2.2.2.2.1, q1.2.2.2.2.2.1, q1.2.2.2.2.2.2.1), w_Mel E a (o + 6) (q1.2.2.2.2.2.2.2.1, q1.2.2.2.2.2.2.2.2.1, q1.2.2.2.2.2.2.2.2.2.1), w_Cliffs E a (o + 10) (q1.2.2.2.2.2.2.2.2.2.2.1, q1.2.2.2.2.2.2.2.2.2.2.2.1, q1.2.2.2.2.2.2.2.2.2.2.2.2.1), w_ValleyR a (o + 13), w_Key E a (o + 14) x.1.2.1.1, w_Bells E a (o + 15) x.1.2.1.2.1, w_Mel E a (o + 18) x.1.2.1.2.2.1, w_Cliffs E a (o + 22) x.1.2.1.2.2.2, w_Prog E a (o + 25) x.1.2.2.2.1, w_Chord E a (o + 31) x.1.2.2.2.2, w_Key E a (o + 34) x.2.1, w_Line E a (o + 35) x.2.2.1, w_Hist E a (o + 37) (q1.2.2.2.2.2.2.2.2.2.2.2.2.2.1, q1.2.2.2.2.2.2.2.2.2.2.2.2.2.2.1, q1.2.2.2.2.2.2.2.2.2.2.2.2.2.2.2), w_LongArr E ay oy y]) (vx_runV (As := [.int p2]) (rest := [.int 0, .ref (ay oy)]) ⟨hx, hb, hml, hown, ha⟩ (k_X10_removeCliff l E a o x p2 q1 hq1 H.size hlt) (cwV 1 ha (gi_V (fun _ h => h) mw1197 mw1198 mw1199 mw74 mw1200) rfl rfl rfl hv_X10_removeCliff ⟨(Nat.le_of_ble_eq_true rfl), (Nat.le_of_ble_eq_true rfl)⟩) ⟨pre_blind, va_recv hst.k (fr_P hP [0, 1, 2, 3, 4, 5, 6, 7, 8, 9, 10, 11, 12, 13, 14, 15] rfl) (ci := 12) (q0 := 0) rfl rfl, pre_at hP hD hS hz hzs hst [0, 1, 2, 3, 4, 5, 6, 7, 8, 9, 10, 11, 12, 13, 14, 15] (by decide) rfl rfl⟩ rfl rfl hl.1 rfl (lv_room (Nat.le_of_ble_eq_true rfl)) dL_removeCliff_4 ⟨(Nat.le_of_ble_eq_true rfl), (Nat.le_of_ble_eq_true rfl)⟩) hP hD hS hA [0, 1, 2, 3, 4, 5, 6, 7, 8, 9, 10, 11, 12, 13, 14, 15] (by decide) rfl rfl rfl rfl (fun X ce q9 H locs eX h1 h2 h3 hP hD hS => ?_) (fun r2 H locs er2 hP hD hS => ?_)
  · have hF := q_smr eX hF
    by_cases w4_0 : X = "java/lang/IndexOutOfBoundsException"
    · have hF := q_brp w4_0 hF
      subst w4_0
      refine vx_catch (E := "java/lang/IndexOutOfBoundsException") (name := "java/lang/IndexOutOfBoundsException") hown [] ⟨0, 9, 12, 13⟩ [] htab (fun _ h => nomatch h) (by decide) (by decide) (ha _ mw960) (va_Nw.use rfl (hst.cs cs_IndexOutOfBoundsException)) h1 h2 h3 ?_
      refine lv_astore_n (lv' := [(3, .ref q9), (0, .ref (a o)), (1, .int p2), (2, .ref (ay oy))]) hx hb dL_removeCliff_12 rfl hl (by decide) rfl (fun ls hl => ?_)
      refine lv_iconst (v := 1) hx hb dL_removeCliff_13 (by decide) ?_
      obtain rfl := Option.some.inj hF
      exact en_i hQ (Nat.le_of_ble_eq_true rfl) (Nat.le_of_ble_eq_true rfl) hx hb hr hlocks hP hD hS rfl dL_removeCliff_14
    have hF := q_brn w4_0 hF
    exact absurd hF (by simp)
  have hF := q_sml er2 hF
  refine lv_i2l hx hb dL_removeCliff_7 rfl ?_
  refine vi_last hx hb hst.k hP hD hS 147 3 rfl rfl (f := y) (k := 0) (by decide) (by decide) dL_removeCliff_8 (fun H locs hP hD hS => ?_)
  have hP : va_P E.1 vwCl (List.flatten [w_VBR a o x.2.2.2.1 x.2.2.2.2.1 x.2.2.2.2.2, w_ValleyR a (o + 1), w_Key E a (o + 2) (q1.2.1, q1.2.2.1, q1.2.2.2.1), w_Bells E a (o + 3) (q1.2.2.2.2.1, q1.2.2.2.2.2.1, q1.2.2.2.2.2.2.1), w_Mel E a (o + 6) (q1.2.2.2.2.2.2.2.1, q1.2.2.2.2.2.2.2.2.1, q1.2.2.2.2.2.2.2.2.2.1), w_Cliffs E a (o + 10) (q1.2.2.2.2.2.2.2.2.2.2.1, q1.2.2.2.2.2.2.2.2.2.2.2.1, q1.2.2.2.2.2.2.2.2.2.2.2.2.1), w_ValleyR a (o + 13), w_Key E a (o + 14) x.1.2.1.1, w_Bells E a (o + 15) x.1.2.1.2.1, w_Mel E a (o + 18) x.1.2.1.2.2.1, w_Cliffs E a (o + 22) x.1.2.1.2.2.2, w_Prog E a (o + 25) x.1.2.2.2.1, w_Chord E a (o + 31) x.1.2.2.2.2, w_Key E a (o + 34) x.2.1, w_Line E a (o + 35) x.2.2.1, w_Hist E a (o + 37) (q1.2.2.2.2.2.2.2.2.2.2.2.2.2.1, q1.2.2.2.2.2.2.2.2.2.2.2.2.2.2.1, q1.2.2.2.2.2.2.2.2.2.2.2.2.2.2.2), w_LongArr E ay oy (vp_updL y 0 (r2.toInt64))]) H := hP
  have hD : va_D A (List.flatten [w_VBR a o x.2.2.2.1 x.2.2.2.2.1 x.2.2.2.2.2, w_ValleyR a (o + 1), w_Key E a (o + 2) (q1.2.1, q1.2.2.1, q1.2.2.2.1), w_Bells E a (o + 3) (q1.2.2.2.2.1, q1.2.2.2.2.2.1, q1.2.2.2.2.2.2.1), w_Mel E a (o + 6) (q1.2.2.2.2.2.2.2.1, q1.2.2.2.2.2.2.2.2.1, q1.2.2.2.2.2.2.2.2.2.1), w_Cliffs E a (o + 10) (q1.2.2.2.2.2.2.2.2.2.2.1, q1.2.2.2.2.2.2.2.2.2.2.2.1, q1.2.2.2.2.2.2.2.2.2.2.2.2.1), w_ValleyR a (o + 13), w_Key E a (o + 14) x.1.2.1.1, w_Bells E a (o + 15) x.1.2.1.2.1, w_Mel E a (o + 18) x.1.2.1.2.2.1, w_Cliffs E a (o + 22) x.1.2.1.2.2.2, w_Prog E a (o + 25) x.1.2.2.2.1, w_Chord E a (o + 31) x.1.2.2.2.2, w_Key E a (o + 34) x.2.1, w_Line E a (o + 35) x.2.2.1, w_Hist E a (o + 37) (q1.2.2.2.2.2.2.2.2.2.2.2.2.2.1, q1.2.2.2.2.2.2.2.2.2.2.2.2.2.2.1, q1.2.2.2.2.2.2.2.2.2.2.2.2.2.2.2), w_LongArr E ay oy (vp_updL y 0 (r2.toInt64))]) := hD
  refine lv_goto (tgt := 15) hx hb dL_removeCliff_9 (by decide) ?_
  refine lv_iconst (v := 0) hx hb dL_removeCliff_15 (by decide) ?_
  obtain rfl := Option.some.inj hF
  exact en_i hQ (Nat.le_of_ble_eq_true rfl) (Nat.le_of_ble_eq_true rfl) hx hb hr hlocks hP hD hS rfl dL_removeCliff_16

/-! L_herdOf -/
theorem dL_herdOf_0 : decode cL_herdOf 0 = .ok (.aload_n 2, 1) := by decide +kernel
theorem dL_herdOf_1 : decode cL_herdOf 1 = .ok (.iconst 0, 1) := by decide +kernel
theorem dL_herdOf_2 : decode cL_herdOf 2 = .ok (.aload_n 0, 1) := by decide +kernel
theorem dL_herdOf_3 : decode cL_herdOf 3 = .ok (.iload_n 1, 1) := by decide +kernel
theorem dL_herdOf_4 : decode cL_herdOf 4 = .ok (.invokevirtual 54, 3) := by decide +kernel
theorem dL_herdOf_7 : decode cL_herdOf 7 = .ok (.i2l, 1) := by decide +kernel
theorem dL_herdOf_8 : decode cL_herdOf 8 = .ok (.lastore, 1) := by decide +kernel
theorem dL_herdOf_9 : decode cL_herdOf 9 = .ok (.goto 6, 3) := by decide +kernel
theorem dL_herdOf_12 : decode cL_herdOf 12 = .ok (.astore_n 3, 1) := by decide +kernel
theorem dL_herdOf_13 : decode cL_herdOf 13 = .ok (.iconst 1, 1) := by decide +kernel
theorem dL_herdOf_14 : decode cL_herdOf 14 = .ok (.ireturn, 1) := by decide +kernel
theorem dL_herdOf_15 : decode cL_herdOf 15 = .ok (.iconst 0, 1) := by decide +kernel
theorem dL_herdOf_16 : decode cL_herdOf 16 = .ok (.ireturn, 1) := by decide +kernel
def f_L_herdOf (x_valley_bells_herds : (Nat → Int32)) (x_valley_bells_count : Int32) (y_v : (Nat → Int64)) (p2 : Int32) : Option (Int32 × (Nat → Int64)) :=
  q_bd (f_X10_herdOf x_valley_bells_herds x_valley_bells_count p2) (fun q1 =>
  q_sm q1 (fun X => q_br (X = "java/lang/IndexOutOfBoundsException") (
  some (1, y_v)) (
  none)) (fun r2 =>
  some (0, vp_updL y_v 0 (r2.toInt64))))
theorem hv_L_herdOf : yL_herdOf.cls = RL ∧ yL_herdOf.cls ≠ "java/lang/invoke/MethodHandle" ∧ yL_herdOf.cls ≠ "java/lang/invoke/VarHandle" ∧ (parseMethodDescriptor yL_herdOf.desc).map (fun d => d.parameters.length) = some 3 := by decide +kernel
abbrev rm_L_herdOf : Room := { frames := 8, cells := 1, slots := 6, locals := 124 }
set_option maxHeartbeats 4000000 in
set_option maxRecDepth 100000 in
theorem k_L_herdOf (l : Launch) (E : ET) (a : Nat → Nat) (o : Nat) (x : VB_t) (ay : Nat → Nat) (oy : Nat) (y : (Nat → Int64)) (p2 : Int32) (res : Int32 × (Nat → Int64)) (hF : f_L_herdOf x.1.1.2.1.1 x.1.1.2.1.2.2 y p2 = some res) (sz : Nat) (hlt : l.stackTraces = false) : CtI l yL_herdOf (mwsH yL_herdOf cL_herdOf 4 (some .int) [(0, 9, 12, 13)]) rm_L_herdOf 1 6 [.ref (a o), .int p2, .ref (ay oy)] E (bl_VB E a o x ++ bl_LongArr E ay oy y) res.1 (bl_VB E a o x ++ bl_LongArr E ay oy res.2) sz := by
  refine mk_H (by decide +kernel) (Nat.le_of_ble_eq_true rfl) ?_
  intro p e s m below meth c A args Q ls hAe hsz hQ hx hb hr hml hin ha hown hlocks hA hz hzs hst htab hP hD hS hl
  have hown : s.vm.findClass RL = some m.cls := hown
  rw [hAe] at hQ
  subst hsz
  have hP : va_P E.1 vwCl (List.flatten [w_VBR a o x.2.2.2.1 x.2.2.2.2.1 x.2.2.2.2.2, w_ValleyR a (o + 1), w_Key E a (o + 2) x.1.1.1, w_Bells E a (o + 3) x.1.1.2.1, w_Mel E a (o + 6) x.1.1.2.2.1, w_Cliffs E a (o + 10) x.1.1.2.2.2, w_ValleyR a (o + 13), w_Key E a (o + 14) x.1.2.1.1, w_Bells E a (o + 15) x.1.2.1.2.1, w_Mel E a (o + 18) x.1.2.1.2.2.1, w_Cliffs E a (o + 22) x.1.2.1.2.2.2, w_Prog E a (o + 25) x.1.2.2.2.1, w_Chord E a (o + 31) x.1.2.2.2.2, w_Key E a (o + 34) x.2.1, w_Line E a (o + 35) x.2.2.1, w_Hist E a (o + 37) x.1.2.2.1, w_LongArr E ay oy y]) s.heap := hP
  have hD : va_D A (List.flatten [w_VBR a o x.2.2.2.1 x.2.2.2.2.1 x.2.2.2.2.2, w_ValleyR a (o + 1), w_Key E a (o + 2) x.1.1.1, w_Bells E a (o + 3) x.1.1.2.1, w_Mel E a (o + 6) x.1.1.2.2.1, w_Cliffs E a (o + 10) x.1.1.2.2.2, w_ValleyR a (o + 13), w_Key E a (o + 14) x.1.2.1.1, w_Bells E a (o + 15) x.1.2.1.2.1, w_Mel E a (o + 18) x.1.2.1.2.2.1, w_Cliffs E a (o + 22) x.1.2.1.2.2.2, w_Prog E a (o + 25) x.1.2.2.2.1, w_Chord E a (o + 31) x.1.2.2.2.2, w_Key E a (o + 34) x.2.1, w_Line E a (o + 35) x.2.2.1, w_Hist E a (o + 37) x.1.2.2.1, w_LongArr E ay oy y]) := hD
  have hl : lv_has ls 4 [(0, .ref (a o)), (1, .int p2), (2, .ref (ay oy))] := hl
  generalize hHe : s.heap = H at hP
  have hS : va_S A s.heap H [] := by rw [← hHe]; exact hS
  generalize ([] : List Loc) = locs at hS ⊢
  unfold f_L_herdOf at hF
  refine lv_aload_n hx hb dL_herdOf_0 rfl (lv_at hl 2 rfl) ?_
  refine lv_iconst (v := 0) hx hb dL_herdOf_1 (by decide) ?_
  refine lv_aload_n hx hb dL_herdOf_2 rfl (lv_at hl 0 rfl) ?_
  refine lv_iload_n hx hb dL_herdOf_3 rfl (lv_at hl 1 rfl) ?_
  obtain ⟨q1, hq1, hF⟩ := q_bdi hF
  refine cx_i (ro := q1) (Lc := [w_VBR a o x.2.2.2.1 x.2.2.2.2.1 x.2.2.2.2.2, w_ValleyR a (o + 1), w_Key E a (o + 2) x.1.1.1, w_Bells E a (o + 3) x.1.1.2.1, w_Mel E a (o + 6) x.1.1.2.2.1, w_Cliffs E a (o + 10) x.1.1.2.2.2, w_ValleyR a (o + 13), w_Key E a (o + 14) x.1.2.1.1, w_Bells E a (o + 15) x.1.2.1.2.1, w_Mel E a (o + 18) x.1.2.1.2.2.1, w_Cliffs E a (o + 22) x.1.2.1.2.2.2, w_Prog E a (o + 25) x.1.2.2.2.1, w_Chord E a (o + 31) x.1.2.2.2.2, w_Key E a (o + 34) x.2.1, w_Line E a (o + 35) x.2.2.1, w_Hist E a (o + 37) x.1.2.2.1]) (Lc' := [w_VBR a o x.2.2.2.1 x.2.2.2.2.1 x.2.2.2.2.2, w_ValleyR a (o + 1), w_Key E a (o + 2) x.1.1.1, w_Bells E a (o + 3) x.1.1.2.1, w_Mel E a (o + 6) x.1.1.2.2.1, w_Cliffs E a (o + 10) x.1.1.2.2.2, w_ValleyR a (o + 13), w_Key E a (o + 14) x.1.2.1.1, w_Bells E a (o + 15) x.1.2.1.2.1, w_Mel E a (o + 18) x.1.2.1.2.2.1, w_Cliffs E a (o + 22) x.1.2.1.2.2.2, w_Prog E a (o + 25) x.1.2.2.2.1, w_Chord E a (o + 31) x.1.2.2.2.2, w_Key E a (o + 34) x.2.1, w_Line E a (o + 35) x.2.2.1, w_Hist E a (o + 37) x.1.2.2.1]) (L' := [w_VBR a o x.2.2.2.1 x.2.2.2.2.1 x.2.2.2.2.2, w_ValleyR a (o + 1), w_Key E a (o + 2) x.1.1.1, w_Bells E a (o + 3) x.1.1.2.1, w_Mel E a (o + 6) x.1.1.2.2.1, w_Cliffs E a (o + 10) x.1.1.2.2.2, w_ValleyR a (o + 13), w_Key E a (o + 14) x.1.2.1.1, w_Bells E a (o + 15) x.1.2.1.2.1, w_Mel E a (o + 18) x.1.2.1.2.2.1, w_Cliffs E a (o + 22) x.1.2.1.2.2.2, w_Prog E a (o + 25) x.1.2.2.2.1, w_Chord E a (o + 31) x.1.2.2.2.2, w_Key E a (o + 34) x.2.1, w_Line E a (o + 35) x.2.2.1, w_Hist E a (o + 37) x.1.2.2.1, w_LongArr E ay oy y]) (vx_runV (As := [.int p2]) (rest := [.int 0, .ref (ay oy)]) ⟨hx, hb, hml, hown, ha⟩ (k_X10_herdOf l E a o x p2 q1 hq1 H.size hlt) (cwV 1 ha (gi_V (fun _ h => h) mw1206 mw1207 mw1208 mw74 mw1209) rfl rfl rfl hv_X10_herdOf ⟨(Nat.le_of_ble_eq_true rfl), (Nat.le_of_ble_eq_true rfl)⟩) ⟨pre_blind, va_recv hst.k (fr_P hP [0, 1, 2, 3, 4, 5, 6, 7, 8, 9, 10, 11, 12, 13, 14, 15] rfl) (ci := 12) (q0 := 0) rfl rfl, pre_at hP hD hS hz hzs hst [0, 1, 2, 3, 4, 5, 6, 7, 8, 9, 10, 11, 12, 13, 14, 15] (by decide) rfl rfl⟩ rfl rfl hl.1 rfl (lv_room (Nat.le_of_ble_eq_true rfl)) dL_herdOf_4 ⟨(Nat.le_of_ble_eq_true rfl), (Nat.le_of_ble_eq_true rfl)⟩) hP hD hS hA [0, 1, 2, 3, 4, 5, 6, 7, 8, 9, 10, 11, 12, 13, 14, 15] (by decide) rfl rfl rfl rfl (fun X ce q9 H locs eX h1 h2 h3 hP hD hS => ?_) (fun r2 H locs er2 hP hD hS => ?_)
  · have hF := q_smr eX hF
    by_cases w4_0 : X = "java/lang/IndexOutOfBoundsException"
    · have hF := q_brp w4_0 hF
      subst w4_0
      refine vx_catch (E := "java/lang/IndexOutOfBoundsException") (name := "java/lang/IndexOutOfBoundsException") hown [] ⟨0, 9, 12, 13⟩ [] htab (fun _ h => nomatch h) (by decide) (by decide) (ha _ mw960) (va_Nw.use rfl (hst.cs cs_IndexOutOfBoundsException)) h1 h2 h3 ?_
      refine lv_astore_n (lv' := [(3, .ref q9), (0, .ref (a o)), (1, .int p2), (2, .ref (ay oy))]) hx hb dL_herdOf_12 rfl hl (by decide) rfl (fun ls hl => ?_)
      refine lv_iconst (v := 1) hx hb dL_herdOf_13 (by decide) ?_
      obtain rfl := Option.some.inj hF
      exact en_i hQ (Nat.le_of_ble_eq_true rfl) (Nat.le_of_ble_eq_true rfl) hx hb hr hlocks hP hD hS rfl dL_herdOf_14
    have hF := q_brn w4_0 hF
    exact absurd hF (by simp)
  have hF := q_sml er2 hF
  refine lv_i2l hx hb dL_herdOf_7 rfl ?_
  refine vi_last hx hb hst.k hP hD hS 147 3 rfl rfl (f := y) (k := 0) (by decide) (by decide) dL_herdOf_8 (fun H locs hP hD hS => ?_)
  have hP : va_P E.1 vwCl (List.flatten [w_VBR a o x.2.2.2.1 x.2.2.2.2.1 x.2.2.2.2.2, w_ValleyR a (o + 1), w_Key E a (o + 2) x.1.1.1, w_Bells E a (o + 3) x.1.1.2.1, w_Mel E a (o + 6) x.1.1.2.2.1, w_Cliffs E a (o + 10) x.1.1.2.2.2, w_ValleyR a (o + 13), w_Key E a (o + 14) x.1.2.1.1, w_Bells E a (o + 15) x.1.2.1.2.1, w_Mel E a (o + 18) x.1.2.1.2.2.1, w_Cliffs E a (o + 22) x.1.2.1.2.2.2, w_Prog E a (o + 25) x.1.2.2.2.1, w_Chord E a (o + 31) x.1.2.2.2.2, w_Key E a (o + 34) x.2.1, w_Line E a (o + 35) x.2.2.1, w_Hist E a (o + 37) x.1.2.2.1, w_LongArr E ay oy (vp_updL y 0 (r2.toInt64))]) H := hP
  have hD : va_D A (List.flatten [w_VBR a o x.2.2.2.1 x.2.2.2.2.1 x.2.2.2.2.2, w_ValleyR a (o + 1), w_Key E a (o + 2) x.1.1.1, w_Bells E a (o + 3) x.1.1.2.1, w_Mel E a (o + 6) x.1.1.2.2.1, w_Cliffs E a (o + 10) x.1.1.2.2.2, w_ValleyR a (o + 13), w_Key E a (o + 14) x.1.2.1.1, w_Bells E a (o + 15) x.1.2.1.2.1, w_Mel E a (o + 18) x.1.2.1.2.2.1, w_Cliffs E a (o + 22) x.1.2.1.2.2.2, w_Prog E a (o + 25) x.1.2.2.2.1, w_Chord E a (o + 31) x.1.2.2.2.2, w_Key E a (o + 34) x.2.1, w_Line E a (o + 35) x.2.2.1, w_Hist E a (o + 37) x.1.2.2.1, w_LongArr E ay oy (vp_updL y 0 (r2.toInt64))]) := hD
  refine lv_goto (tgt := 15) hx hb dL_herdOf_9 (by decide) ?_
  refine lv_iconst (v := 0) hx hb dL_herdOf_15 (by decide) ?_
  obtain rfl := Option.some.inj hF
  exact en_i hQ (Nat.le_of_ble_eq_true rfl) (Nat.le_of_ble_eq_true rfl) hx hb hr hlocks hP hD hS rfl dL_herdOf_16

/-! L_pitch -/
theorem dL_pitch_0 : decode cL_pitch 0 = .ok (.aload_n 2, 1) := by decide +kernel
theorem dL_pitch_1 : decode cL_pitch 1 = .ok (.iconst 0, 1) := by decide +kernel
theorem dL_pitch_2 : decode cL_pitch 2 = .ok (.aload_n 0, 1) := by decide +kernel
theorem dL_pitch_3 : decode cL_pitch 3 = .ok (.iload_n 1, 1) := by decide +kernel
theorem dL_pitch_4 : decode cL_pitch 4 = .ok (.invokevirtual 57, 3) := by decide +kernel
theorem dL_pitch_7 : decode cL_pitch 7 = .ok (.i2l, 1) := by decide +kernel
theorem dL_pitch_8 : decode cL_pitch 8 = .ok (.lastore, 1) := by decide +kernel
theorem dL_pitch_9 : decode cL_pitch 9 = .ok (.goto 6, 3) := by decide +kernel
theorem dL_pitch_12 : decode cL_pitch 12 = .ok (.astore_n 3, 1) := by decide +kernel
theorem dL_pitch_13 : decode cL_pitch 13 = .ok (.iconst 1, 1) := by decide +kernel
theorem dL_pitch_14 : decode cL_pitch 14 = .ok (.ireturn, 1) := by decide +kernel
theorem dL_pitch_15 : decode cL_pitch 15 = .ok (.iconst 0, 1) := by decide +kernel
theorem dL_pitch_16 : decode cL_pitch 16 = .ok (.ireturn, 1) := by decide +kernel
def f_L_pitch (x_valley_bells_pitches : (Nat → Int32)) (x_valley_bells_count : Int32) (y_v : (Nat → Int64)) (p2 : Int32) : Option (Int32 × (Nat → Int64)) :=
  q_bd (f_X10_pitch x_valley_bells_pitches x_valley_bells_count p2) (fun q1 =>
  q_sm q1 (fun X => q_br (X = "java/lang/IndexOutOfBoundsException") (
  some (1, y_v)) (
  none)) (fun r2 =>
  some (0, vp_updL y_v 0 (r2.toInt64))))
theorem hv_L_pitch : yL_pitch.cls = RL ∧ yL_pitch.cls ≠ "java/lang/invoke/MethodHandle" ∧ yL_pitch.cls ≠ "java/lang/invoke/VarHandle" ∧ (parseMethodDescriptor yL_pitch.desc).map (fun d => d.parameters.length) = some 3 := by decide +kernel
abbrev rm_L_pitch : Room := { frames := 8, cells := 1, slots := 6, locals := 124 }
set_option maxHeartbeats 4000000 in
set_option maxRecDepth 100000 in
theorem k_L_pitch (l : Launch) (E : ET) (a : Nat → Nat) (o : Nat) (x : VB_t) (ay : Nat → Nat) (oy : Nat) (y : (Nat → Int64)) (p2 : Int32) (res : Int32 × (Nat → Int64)) (hF : f_L_pitch x.1.1.2.1.2.1 x.1.1.2.1.2.2 y p2 = some res) (sz : Nat) (hlt : l.stackTraces = false) : CtI l yL_pitch (mwsH yL_pitch cL_pitch 4 (some .int) [(0, 9, 12, 13)]) rm_L_pitch 1 6 [.ref (a o), .int p2, .ref (ay oy)] E (bl_VB E a o x ++ bl_LongArr E ay oy y) res.1 (bl_VB E a o x ++ bl_LongArr E ay oy res.2) sz := by
  refine mk_H (by decide +kernel) (Nat.le_of_ble_eq_true rfl) ?_
  intro p e s m below meth c A args Q ls hAe hsz hQ hx hb hr hml hin ha hown hlocks hA hz hzs hst htab hP hD hS hl
  have hown : s.vm.findClass RL = some m.cls := hown
  rw [hAe] at hQ
  subst hsz
  have hP : va_P E.1 vwCl (List.flatten [w_VBR a o x.2.2.2.1 x.2.2.2.2.1 x.2.2.2.2.2, w_ValleyR a (o + 1), w_Key E a (o + 2) x.1.1.1, w_Bells E a (o + 3) x.1.1.2.1, w_Mel E a (o + 6) x.1.1.2.2.1, w_Cliffs E a (o + 10) x.1.1.2.2.2, w_ValleyR a (o + 13), w_Key E a (o + 14) x.1.2.1.1, w_Bells E a (o + 15) x.1.2.1.2.1, w_Mel E a (o + 18) x.1.2.1.2.2.1, w_Cliffs E a (o + 22) x.1.2.1.2.2.2, w_Prog E a (o + 25) x.1.2.2.2.1, w_Chord E a (o + 31) x.1.2.2.2.2, w_Key E a (o + 34) x.2.1, w_Line E a (o + 35) x.2.2.1, w_Hist E a (o + 37) x.1.2.2.1, w_LongArr E ay oy y]) s.heap := hP
  have hD : va_D A (List.flatten [w_VBR a o x.2.2.2.1 x.2.2.2.2.1 x.2.2.2.2.2, w_ValleyR a (o + 1), w_Key E a (o + 2) x.1.1.1, w_Bells E a (o + 3) x.1.1.2.1, w_Mel E a (o + 6) x.1.1.2.2.1, w_Cliffs E a (o + 10) x.1.1.2.2.2, w_ValleyR a (o + 13), w_Key E a (o + 14) x.1.2.1.1, w_Bells E a (o + 15) x.1.2.1.2.1, w_Mel E a (o + 18) x.1.2.1.2.2.1, w_Cliffs E a (o + 22) x.1.2.1.2.2.2, w_Prog E a (o + 25) x.1.2.2.2.1, w_Chord E a (o + 31) x.1.2.2.2.2, w_Key E a (o + 34) x.2.1, w_Line E a (o + 35) x.2.2.1, w_Hist E a (o + 37) x.1.2.2.1, w_LongArr E ay oy y]) := hD
  have hl : lv_has ls 4 [(0, .ref (a o)), (1, .int p2), (2, .ref (ay oy))] := hl
  generalize hHe : s.heap = H at hP
  have hS : va_S A s.heap H [] := by rw [← hHe]; exact hS
  generalize ([] : List Loc) = locs at hS ⊢
  unfold f_L_pitch at hF
  refine lv_aload_n hx hb dL_pitch_0 rfl (lv_at hl 2 rfl) ?_
  refine lv_iconst (v := 0) hx hb dL_pitch_1 (by decide) ?_
  refine lv_aload_n hx hb dL_pitch_2 rfl (lv_at hl 0 rfl) ?_
  refine lv_iload_n hx hb dL_pitch_3 rfl (lv_at hl 1 rfl) ?_
  obtain ⟨q1, hq1, hF⟩ := q_bdi hF
  refine cx_i (ro := q1) (Lc := [w_VBR a o x.2.2.2.1 x.2.2.2.2.1 x.2.2.2.2.2, w_ValleyR a (o + 1), w_Key E a (o + 2) x.1.1.1, w_Bells E a (o + 3) x.1.1.2.1, w_Mel E a (o + 6) x.1.1.2.2.1, w_Cliffs E a (o + 10) x.1.1.2.2.2, w_ValleyR a (o + 13), w_Key E a (o + 14) x.1.2.1.1, w_Bells E a (o + 15) x.1.2.1.2.1, w_Mel E a (o + 18) x.1.2.1.2.2.1, w_Cliffs E a (o + 22) x.1.2.1.2.2.2, w_Prog E a (o + 25) x.1.2.2.2.1, w_Chord E a (o + 31) x.1.2.2.2.2, w_Key E a (o + 34) x.2.1, w_Line E a (o + 35) x.2.2.1, w_Hist E a (o + 37) x.1.2.2.1]) (Lc' := [w_VBR a o x.2.2.2.1 x.2.2.2.2.1 x.2.2.2.2.2, w_ValleyR a (o + 1), w_Key E a (o + 2) x.1.1.1, w_Bells E a (o + 3) x.1.1.2.1, w_Mel E a (o + 6) x.1.1.2.2.1, w_Cliffs E a (o + 10) x.1.1.2.2.2, w_ValleyR a (o + 13), w_Key E a (o + 14) x.1.2.1.1, w_Bells E a (o + 15) x.1.2.1.2.1, w_Mel E a (o + 18) x.1.2.1.2.2.1, w_Cliffs E a (o + 22) x.1.2.1.2.2.2, w_Prog E a (o + 25) x.1.2.2.2.1, w_Chord E a (o + 31) x.1.2.2.2.2, w_Key E a (o + 34) x.2.1, w_Line E a (o + 35) x.2.2.1, w_Hist E a (o + 37) x.1.2.2.1]) (L' := [w_VBR a o x.2.2.2.1 x.2.2.2.2.1 x.2.2.2.2.2, w_ValleyR a (o + 1), w_Key E a (o + 2) x.1.1.1, w_Bells E a (o + 3) x.1.1.2.1, w_Mel E a (o + 6) x.1.1.2.2.1, w_Cliffs E a (o + 10) x.1.1.2.2.2, w_ValleyR a (o + 13), w_Key E a (o + 14) x.1.2.1.1, w_Bells E a (o + 15) x.1.2.1.2.1, w_Mel E a (o + 18) x.1.2.1.2.2.1, w_Cliffs E a (o + 22) x.1.2.1.2.2.2, w_Prog E a (o + 25) x.1.2.2.2.1, w_Chord E a (o + 31) x.1.2.2.2.2, w_Key E a (o + 34) x.2.1, w_Line E a (o + 35) x.2.2.1, w_Hist E a (o + 37) x.1.2.2.1, w_LongArr E ay oy y]) (vx_runV (As := [.int p2]) (rest := [.int 0, .ref (ay oy)]) ⟨hx, hb, hml, hown, ha⟩ (k_X10_pitch l E a o x p2 q1 hq1 H.size hlt) (cwV 1 ha (gi_V (fun _ h => h) mw1219 mw1220 mw1221 mw74 mw1222) rfl rfl rfl hv_X10_pitch ⟨(Nat.le_of_ble_eq_true rfl), (Nat.le_of_ble_eq_true rfl)⟩) ⟨pre_blind, va_recv hst.k (fr_P hP [0, 1, 2, 3, 4, 5, 6, 7, 8, 9, 10, 11, 12, 13, 14, 15] rfl) (ci := 12) (q0 := 0) rfl rfl, pre_at hP hD hS hz hzs hst [0, 1, 2, 3, 4, 5, 6, 7, 8, 9, 10, 11, 12, 13, 14, 15] (by decide) rfl rfl⟩ rfl rfl hl.1 rfl (lv_room (Nat.le_of_ble_eq_true rfl)) dL_pitch_4 ⟨(Nat.le_of_ble_eq_true rfl), (Nat.le_of_ble_eq_true rfl)⟩) hP hD hS hA [0, 1, 2, 3, 4, 5, 6, 7, 8, 9, 10, 11, 12, 13, 14, 15] (by decide) rfl rfl rfl rfl (fun X ce q9 H locs eX h1 h2 h3 hP hD hS => ?_) (fun r2 H locs er2 hP hD hS => ?_)
  · have hF := q_smr eX hF
    by_cases w4_0 : X = "java/lang/IndexOutOfBoundsException"
    · have hF := q_brp w4_0 hF
      subst w4_0
      refine vx_catch (E := "java/lang/IndexOutOfBoundsException") (name := "java/lang/IndexOutOfBoundsException") hown [] ⟨0, 9, 12, 13⟩ [] htab (fun _ h => nomatch h) (by decide) (by decide) (ha _ mw960) (va_Nw.use rfl (hst.cs cs_IndexOutOfBoundsException)) h1 h2 h3 ?_
      refine lv_astore_n (lv' := [(3, .ref q9), (0, .ref (a o)), (1, .int p2), (2, .ref (ay oy))]) hx hb dL_pitch_12 rfl hl (by decide) rfl (fun ls hl => ?_)
      refine lv_iconst (v := 1) hx hb dL_pitch_13 (by decide) ?_
      obtain rfl := Option.some.inj hF
      exact en_i hQ (Nat.le_of_ble_eq_true rfl) (Nat.le_of_ble_eq_true rfl) hx hb hr hlocks hP hD hS rfl dL_pitch_14
    have hF := q_brn w4_0 hF
    exact absurd hF (by simp)
  have hF := q_sml er2 hF
  refine lv_i2l hx hb dL_pitch_7 rfl ?_
  refine vi_last hx hb hst.k hP hD hS 147 3 rfl rfl (f := y) (k := 0) (by decide) (by decide) dL_pitch_8 (fun H locs hP hD hS => ?_)
  have hP : va_P E.1 vwCl (List.flatten [w_VBR a o x.2.2.2.1 x.2.2.2.2.1 x.2.2.2.2.2, w_ValleyR a (o + 1), w_Key E a (o + 2) x.1.1.1, w_Bells E a (o + 3) x.1.1.2.1, w_Mel E a (o + 6) x.1.1.2.2.1, w_Cliffs E a (o + 10) x.1.1.2.2.2, w_ValleyR a (o + 13), w_Key E a (o + 14) x.1.2.1.1, w_Bells E a (o + 15) x.1.2.1.2.1, w_Mel E a (o + 18) x.1.2.1.2.2.1, w_Cliffs E a (o + 22) x.1.2.1.2.2.2, w_Prog E a (o + 25) x.1.2.2.2.1, w_Chord E a (o + 31) x.1.2.2.2.2, w_Key E a (o + 34) x.2.1, w_Line E a (o + 35) x.2.2.1, w_Hist E a (o + 37) x.1.2.2.1, w_LongArr E ay oy (vp_updL y 0 (r2.toInt64))]) H := hP
  have hD : va_D A (List.flatten [w_VBR a o x.2.2.2.1 x.2.2.2.2.1 x.2.2.2.2.2, w_ValleyR a (o + 1), w_Key E a (o + 2) x.1.1.1, w_Bells E a (o + 3) x.1.1.2.1, w_Mel E a (o + 6) x.1.1.2.2.1, w_Cliffs E a (o + 10) x.1.1.2.2.2, w_ValleyR a (o + 13), w_Key E a (o + 14) x.1.2.1.1, w_Bells E a (o + 15) x.1.2.1.2.1, w_Mel E a (o + 18) x.1.2.1.2.2.1, w_Cliffs E a (o + 22) x.1.2.1.2.2.2, w_Prog E a (o + 25) x.1.2.2.2.1, w_Chord E a (o + 31) x.1.2.2.2.2, w_Key E a (o + 34) x.2.1, w_Line E a (o + 35) x.2.2.1, w_Hist E a (o + 37) x.1.2.2.1, w_LongArr E ay oy (vp_updL y 0 (r2.toInt64))]) := hD
  refine lv_goto (tgt := 15) hx hb dL_pitch_9 (by decide) ?_
  refine lv_iconst (v := 0) hx hb dL_pitch_15 (by decide) ?_
  obtain rfl := Option.some.inj hF
  exact en_i hQ (Nat.le_of_ble_eq_true rfl) (Nat.le_of_ble_eq_true rfl) hx hb hr hlocks hP hD hS rfl dL_pitch_16

/-! L_nearestNote -/
theorem dL_nearestNote_0 : decode cL_nearestNote 0 = .ok (.aload_n 2, 1) := by decide +kernel
theorem dL_nearestNote_1 : decode cL_nearestNote 1 = .ok (.iconst 0, 1) := by decide +kernel
theorem dL_nearestNote_2 : decode cL_nearestNote 2 = .ok (.aload_n 0, 1) := by decide +kernel
theorem dL_nearestNote_3 : decode cL_nearestNote 3 = .ok (.iload_n 1, 1) := by decide +kernel
theorem dL_nearestNote_4 : decode cL_nearestNote 4 = .ok (.invokevirtual 60, 3) := by decide +kernel
theorem dL_nearestNote_7 : decode cL_nearestNote 7 = .ok (.i2l, 1) := by decide +kernel
theorem dL_nearestNote_8 : decode cL_nearestNote 8 = .ok (.lastore, 1) := by decide +kernel
theorem dL_nearestNote_9 : decode cL_nearestNote 9 = .ok (.goto 6, 3) := by decide +kernel
theorem dL_nearestNote_12 : decode cL_nearestNote 12 = .ok (.astore_n 3, 1) := by decide +kernel
theorem dL_nearestNote_13 : decode cL_nearestNote 13 = .ok (.iconst 1, 1) := by decide +kernel
theorem dL_nearestNote_14 : decode cL_nearestNote 14 = .ok (.ireturn, 1) := by decide +kernel
theorem dL_nearestNote_15 : decode cL_nearestNote 15 = .ok (.iconst 0, 1) := by decide +kernel
theorem dL_nearestNote_16 : decode cL_nearestNote 16 = .ok (.ireturn, 1) := by decide +kernel
def f_L_nearestNote (x_valley_bells_pitches : (Nat → Int32)) (x_valley_bells_count : Int32) (y_v : (Nat → Int64)) (p2 : Int32) : Option (Int32 × (Nat → Int64)) :=
  q_bd (f_X10_nearestNote x_valley_bells_pitches x_valley_bells_count p2) (fun q1 =>
  q_sm q1 (fun X => q_br (X = "java/lang/IndexOutOfBoundsException") (
  some (1, y_v)) (
  none)) (fun r2 =>
  some (0, vp_updL y_v 0 (r2.toInt64))))
theorem hv_L_nearestNote : yL_nearestNote.cls = RL ∧ yL_nearestNote.cls ≠ "java/lang/invoke/MethodHandle" ∧ yL_nearestNote.cls ≠ "java/lang/invoke/VarHandle" ∧ (parseMethodDescriptor yL_nearestNote.desc).map (fun d => d.parameters.length) = some 3 := by decide +kernel
abbrev rm_L_nearestNote : Room := { frames := 8, cells := 1, slots := 6, locals := 124 }
set_option maxHeartbeats 4000000 in
set_option maxRecDepth 100000 in
theorem k_L_nearestNote (l : Launch) (E : ET) (a : Nat → Nat) (o : Nat) (x : VB_t) (ay : Nat → Nat) (oy : Nat) (y : (Nat → Int64)) (p2 : Int32) (res : Int32 × (Nat → Int64)) (hF : f_L_nearestNote x.1.1.2.1.2.1 x.1.1.2.1.2.2 y p2 = some res) (sz : Nat) (hlt : l.stackTraces = false) : CtI l yL_nearestNote (mwsH yL_nearestNote cL_nearestNote 4 (some .int) [(0, 9, 12, 13)]) rm_L_nearestNote 1 6 [.ref (a o), .int p2, .ref (ay oy)] E (bl_VB E a o x ++ bl_LongArr E ay oy y) res.1 (bl_VB E a o x ++ bl_LongArr E ay oy res.2) sz := by
  refine mk_H (by decide +kernel) (Nat.le_of_ble_eq_true rfl) ?_
  intro p e s m below meth c A args Q ls hAe hsz hQ hx hb hr hml hin ha hown hlocks hA hz hzs hst htab hP hD hS hl
  have hown : s.vm.findClass RL = some m.cls := hown
  rw [hAe] at hQ
  subst hsz
  have hP : va_P E.1 vwCl (List.flatten [w_VBR a o x.2.2.2.1 x.2.2.2.2.1 x.2.2.2.2.2, w_ValleyR a (o + 1), w_Key E a (o + 2) x.1.1.1, w_Bells E a (o + 3) x.1.1.2.1, w_Mel E a (o + 6) x.1.1.2.2.1, w_Cliffs E a (o + 10) x.1.1.2.2.2, w_ValleyR a (o + 13), w_Key E a (o + 14) x.1.2.1.1, w_Bells E a (o + 15) x.1.2.1.2.1, w_Mel E a (o + 18) x.1.2.1.2.2.1, w_Cliffs E a (o + 22) x.1.2.1.2.2.2, w_Prog E a (o + 25) x.1.2.2.2.1, w_Chord E a (o + 31) x.1.2.2.2.2, w_Key E a (o + 34) x.2.1, w_Line E a (o + 35) x.2.2.1, w_Hist E a (o + 37) x.1.2.2.1, w_LongArr E ay oy y]) s.heap := hP
  have hD : va_D A (List.flatten [w_VBR a o x.2.2.2.1 x.2.2.2.2.1 x.2.2.2.2.2, w_ValleyR a (o + 1), w_Key E a (o + 2) x.1.1.1, w_Bells E a (o + 3) x.1.1.2.1, w_Mel E a (o + 6) x.1.1.2.2.1, w_Cliffs E a (o + 10) x.1.1.2.2.2, w_ValleyR a (o + 13), w_Key E a (o + 14) x.1.2.1.1, w_Bells E a (o + 15) x.1.2.1.2.1, w_Mel E a (o + 18) x.1.2.1.2.2.1, w_Cliffs E a (o + 22) x.1.2.1.2.2.2, w_Prog E a (o + 25) x.1.2.2.2.1, w_Chord E a (o + 31) x.1.2.2.2.2, w_Key E a (o + 34) x.2.1, w_Line E a (o + 35) x.2.2.1, w_Hist E a (o + 37) x.1.2.2.1, w_LongArr E ay oy y]) := hD
  have hl : lv_has ls 4 [(0, .ref (a o)), (1, .int p2), (2, .ref (ay oy))] := hl
  generalize hHe : s.heap = H at hP
  have hS : va_S A s.heap H [] := by rw [← hHe]; exact hS
  generalize ([] : List Loc) = locs at hS ⊢
  unfold f_L_nearestNote at hF
  refine lv_aload_n hx hb dL_nearestNote_0 rfl (lv_at hl 2 rfl) ?_
  refine lv_iconst (v := 0) hx hb dL_nearestNote_1 (by decide) ?_
  refine lv_aload_n hx hb dL_nearestNote_2 rfl (lv_at hl 0 rfl) ?_
  refine lv_iload_n hx hb dL_nearestNote_3 rfl (lv_at hl 1 rfl) ?_
  obtain ⟨q1, hq1, hF⟩ := q_bdi hF
  refine cx_i (ro := q1) (Lc := [w_VBR a o x.2.2.2.1 x.2.2.2.2.1 x.2.2.2.2.2, w_ValleyR a (o + 1), w_Key E a (o + 2) x.1.1.1, w_Bells E a (o + 3) x.1.1.2.1, w_Mel E a (o + 6) x.1.1.2.2.1, w_Cliffs E a (o + 10) x.1.1.2.2.2, w_ValleyR a (o + 13), w_Key E a (o + 14) x.1.2.1.1, w_Bells E a (o + 15) x.1.2.1.2.1, w_Mel E a (o + 18) x.1.2.1.2.2.1, w_Cliffs E a (o + 22) x.1.2.1.2.2.2, w_Prog E a (o + 25) x.1.2.2.2.1, w_Chord E a (o + 31) x.1.2.2.2.2, w_Key E a (o + 34) x.2.1, w_Line E a (o + 35) x.2.2.1, w_Hist E a (o + 37) x.1.2.2.1]) (Lc' := [w_VBR a o x.2.2.2.1 x.2.2.2.2.1 x.2.2.2.2.2, w_ValleyR a (o + 1), w_Key E a (o + 2) x.1.1.1, w_Bells E a (o + 3) x.1.1.2.1, w_Mel E a (o + 6) x.1.1.2.2.1, w_Cliffs E a (o + 10) x.1.1.2.2.2, w_ValleyR a (o + 13), w_Key E a (o + 14) x.1.2.1.1, w_Bells E a (o + 15) x.1.2.1.2.1, w_Mel E a (o + 18) x.1.2.1.2.2.1, w_Cliffs E a (o + 22) x.1.2.1.2.2.2, w_Prog E a (o + 25) x.1.2.2.2.1, w_Chord E a (o + 31) x.1.2.2.2.2, w_Key E a (o + 34) x.2.1, w_Line E a (o + 35) x.2.2.1, w_Hist E a (o + 37) x.1.2.2.1]) (L' := [w_VBR a o x.2.2.2.1 x.2.2.2.2.1 x.2.2.2.2.2, w_ValleyR a (o + 1), w_Key E a (o + 2) x.1.1.1, w_Bells E a (o + 3) x.1.1.2.1, w_Mel E a (o + 6) x.1.1.2.2.1, w_Cliffs E a (o + 10) x.1.1.2.2.2, w_ValleyR a (o + 13), w_Key E a (o + 14) x.1.2.1.1, w_Bells E a (o + 15) x.1.2.1.2.1, w_Mel E a (o + 18) x.1.2.1.2.2.1, w_Cliffs E a (o + 22) x.1.2.1.2.2.2, w_Prog E a (o + 25) x.1.2.2.2.1, w_Chord E a (o + 31) x.1.2.2.2.2, w_Key E a (o + 34) x.2.1, w_Line E a (o + 35) x.2.2.1, w_Hist E a (o + 37) x.1.2.2.1, w_LongArr E ay oy y]) (vx_runV (As := [.int p2]) (rest := [.int 0, .ref (ay oy)]) ⟨hx, hb, hml, hown, ha⟩ (k_X10_nearestNote l E a o x p2 q1 hq1 H.size hlt) (cwV 1 ha (gi_V (fun _ h => h) mw1226 mw1227 mw1228 mw74 mw1229) rfl rfl rfl hv_X10_nearestNote ⟨(Nat.le_of_ble_eq_true rfl), (Nat.le_of_ble_eq_true rfl)⟩) ⟨pre_blind, va_recv hst.k (fr_P hP [0, 1, 2, 3, 4, 5, 6, 7, 8, 9, 10, 11, 12, 13, 14, 15] rfl) (ci := 12) (q0 := 0) rfl rfl, pre_at hP hD hS hz hzs hst [0, 1, 2, 3, 4, 5, 6, 7, 8, 9, 10, 11, 12, 13, 14, 15] (by decide) rfl rfl⟩ rfl rfl hl.1 rfl (lv_room (Nat.le_of_ble_eq_true rfl)) dL_nearestNote_4 ⟨(Nat.le_of_ble_eq_true rfl), (Nat.le_of_ble_eq_true rfl)⟩) hP hD hS hA [0, 1, 2, 3, 4, 5, 6, 7, 8, 9, 10, 11, 12, 13, 14, 15] (by decide) rfl rfl rfl rfl (fun X ce q9 H locs eX h1 h2 h3 hP hD hS => ?_) (fun r2 H locs er2 hP hD hS => ?_)
  · have hF := q_smr eX hF
    by_cases w4_0 : X = "java/lang/IndexOutOfBoundsException"
    · have hF := q_brp w4_0 hF
      subst w4_0
      refine vx_catch (E := "java/lang/IndexOutOfBoundsException") (name := "java/lang/IndexOutOfBoundsException") hown [] ⟨0, 9, 12, 13⟩ [] htab (fun _ h => nomatch h) (by decide) (by decide) (ha _ mw960) (va_Nw.use rfl (hst.cs cs_IndexOutOfBoundsException)) h1 h2 h3 ?_
      refine lv_astore_n (lv' := [(3, .ref q9), (0, .ref (a o)), (1, .int p2), (2, .ref (ay oy))]) hx hb dL_nearestNote_12 rfl hl (by decide) rfl (fun ls hl => ?_)
      refine lv_iconst (v := 1) hx hb dL_nearestNote_13 (by decide) ?_
      obtain rfl := Option.some.inj hF
      exact en_i hQ (Nat.le_of_ble_eq_true rfl) (Nat.le_of_ble_eq_true rfl) hx hb hr hlocks hP hD hS rfl dL_nearestNote_14
    have hF := q_brn w4_0 hF
    exact absurd hF (by simp)
  have hF := q_sml er2 hF
  refine lv_i2l hx hb dL_nearestNote_7 rfl ?_
  refine vi_last hx hb hst.k hP hD hS 147 3 rfl rfl (f := y) (k := 0) (by decide) (by decide) dL_nearestNote_8 (fun H locs hP hD hS => ?_)
  have hP : va_P E.1 vwCl (List.flatten [w_VBR a o x.2.2.2.1 x.2.2.2.2.1 x.2.2.2.2.2, w_ValleyR a (o + 1), w_Key E a (o + 2) x.1.1.1, w_Bells E a (o + 3) x.1.1.2.1, w_Mel E a (o + 6) x.1.1.2.2.1, w_Cliffs E a (o + 10) x.1.1.2.2.2, w_ValleyR a (o + 13), w_Key E a (o + 14) x.1.2.1.1, w_Bells E a (o + 15) x.1.2.1.2.1, w_Mel E a (o + 18) x.1.2.1.2.2.1, w_Cliffs E a (o + 22) x.1.2.1.2.2.2, w_Prog E a (o + 25) x.1.2.2.2.1, w_Chord E a (o + 31) x.1.2.2.2.2, w_Key E a (o + 34) x.2.1, w_Line E a (o + 35) x.2.2.1, w_Hist E a (o + 37) x.1.2.2.1, w_LongArr E ay oy (vp_updL y 0 (r2.toInt64))]) H := hP
  have hD : va_D A (List.flatten [w_VBR a o x.2.2.2.1 x.2.2.2.2.1 x.2.2.2.2.2, w_ValleyR a (o + 1), w_Key E a (o + 2) x.1.1.1, w_Bells E a (o + 3) x.1.1.2.1, w_Mel E a (o + 6) x.1.1.2.2.1, w_Cliffs E a (o + 10) x.1.1.2.2.2, w_ValleyR a (o + 13), w_Key E a (o + 14) x.1.2.1.1, w_Bells E a (o + 15) x.1.2.1.2.1, w_Mel E a (o + 18) x.1.2.1.2.2.1, w_Cliffs E a (o + 22) x.1.2.1.2.2.2, w_Prog E a (o + 25) x.1.2.2.2.1, w_Chord E a (o + 31) x.1.2.2.2.2, w_Key E a (o + 34) x.2.1, w_Line E a (o + 35) x.2.2.1, w_Hist E a (o + 37) x.1.2.2.1, w_LongArr E ay oy (vp_updL y 0 (r2.toInt64))]) := hD
  refine lv_goto (tgt := 15) hx hb dL_nearestNote_9 (by decide) ?_
  refine lv_iconst (v := 0) hx hb dL_nearestNote_15 (by decide) ?_
  obtain rfl := Option.some.inj hF
  exact en_i hQ (Nat.le_of_ble_eq_true rfl) (Nat.le_of_ble_eq_true rfl) hx hb hr hlocks hP hD hS rfl dL_nearestNote_16

/-! L_deviation -/
theorem dL_deviation_0 : decode cL_deviation 0 = .ok (.aload_n 2, 1) := by decide +kernel
theorem dL_deviation_1 : decode cL_deviation 1 = .ok (.iconst 0, 1) := by decide +kernel
theorem dL_deviation_2 : decode cL_deviation 2 = .ok (.aload_n 0, 1) := by decide +kernel
theorem dL_deviation_3 : decode cL_deviation 3 = .ok (.iload_n 1, 1) := by decide +kernel
theorem dL_deviation_4 : decode cL_deviation 4 = .ok (.invokevirtual 63, 3) := by decide +kernel
theorem dL_deviation_7 : decode cL_deviation 7 = .ok (.i2l, 1) := by decide +kernel
theorem dL_deviation_8 : decode cL_deviation 8 = .ok (.lastore, 1) := by decide +kernel
theorem dL_deviation_9 : decode cL_deviation 9 = .ok (.goto 6, 3) := by decide +kernel
theorem dL_deviation_12 : decode cL_deviation 12 = .ok (.astore_n 3, 1) := by decide +kernel
theorem dL_deviation_13 : decode cL_deviation 13 = .ok (.iconst 1, 1) := by decide +kernel
theorem dL_deviation_14 : decode cL_deviation 14 = .ok (.ireturn, 1) := by decide +kernel
theorem dL_deviation_15 : decode cL_deviation 15 = .ok (.iconst 0, 1) := by decide +kernel
theorem dL_deviation_16 : decode cL_deviation 16 = .ok (.ireturn, 1) := by decide +kernel
def f_L_deviation (x_valley_bells_pitches : (Nat → Int32)) (x_valley_bells_count : Int32) (y_v : (Nat → Int64)) (p2 : Int32) : Option (Int32 × (Nat → Int64)) :=
  q_bd (f_X10_deviation x_valley_bells_pitches x_valley_bells_count p2) (fun q1 =>
  q_sm q1 (fun X => q_br (X = "java/lang/IndexOutOfBoundsException") (
  some (1, y_v)) (
  none)) (fun r2 =>
  some (0, vp_updL y_v 0 (r2.toInt64))))
theorem hv_L_deviation : yL_deviation.cls = RL ∧ yL_deviation.cls ≠ "java/lang/invoke/MethodHandle" ∧ yL_deviation.cls ≠ "java/lang/invoke/VarHandle" ∧ (parseMethodDescriptor yL_deviation.desc).map (fun d => d.parameters.length) = some 3 := by decide +kernel
abbrev rm_L_deviation : Room := { frames := 8, cells := 1, slots := 6, locals := 124 }
set_option maxHeartbeats 4000000 in
set_option maxRecDepth 100000 in
theorem k_L_deviation (l : Launch) (E : ET) (a : Nat → Nat) (o : Nat) (x : VB_t) (ay : Nat → Nat) (oy : Nat) (y : (Nat → Int64)) (p2 : Int32) (res : Int32 × (Nat → Int64)) (hF : f_L_deviation x.1.1.2.1.2.1 x.1.1.2.1.2.2 y p2 = some res) (sz : Nat) (hlt : l.stackTraces = false) : CtI l yL_deviation (mwsH yL_deviation cL_deviation 4 (some .int) [(0, 9, 12, 13)]) rm_L_deviation 1 6 [.ref (a o), .int p2, .ref (ay oy)] E (bl_VB E a o x ++ bl_LongArr E ay oy y) res.1 (bl_VB E a o x ++ bl_LongArr E ay oy res.2) sz := by
  refine mk_H (by decide +kernel) (Nat.le_of_ble_eq_true rfl) ?_
  intro p e s m below meth c A args Q ls hAe hsz hQ hx hb hr hml hin ha hown hlocks hA hz hzs hst htab hP hD hS hl
  have hown : s.vm.findClass RL = some m.cls := hown
  rw [hAe] at hQ
  subst hsz
  have hP : va_P E.1 vwCl (List.flatten [w_VBR a o x.2.2.2.1 x.2.2.2.2.1 x.2.2.2.2.2, w_ValleyR a (o + 1), w_Key E a (o + 2) x.1.1.1, w_Bells E a (o + 3) x.1.1.2.1, w_Mel E a (o + 6) x.1.1.2.2.1, w_Cliffs E a (o + 10) x.1.1.2.2.2, w_ValleyR a (o + 13), w_Key E a (o + 14) x.1.2.1.1, w_Bells E a (o + 15) x.1.2.1.2.1, w_Mel E a (o + 18) x.1.2.1.2.2.1, w_Cliffs E a (o + 22) x.1.2.1.2.2.2, w_Prog E a (o + 25) x.1.2.2.2.1, w_Chord E a (o + 31) x.1.2.2.2.2, w_Key E a (o + 34) x.2.1, w_Line E a (o + 35) x.2.2.1, w_Hist E a (o + 37) x.1.2.2.1, w_LongArr E ay oy y]) s.heap := hP
  have hD : va_D A (List.flatten [w_VBR a o x.2.2.2.1 x.2.2.2.2.1 x.2.2.2.2.2, w_ValleyR a (o + 1), w_Key E a (o + 2) x.1.1.1, w_Bells E a (o + 3) x.1.1.2.1, w_Mel E a (o + 6) x.1.1.2.2.1, w_Cliffs E a (o + 10) x.1.1.2.2.2, w_ValleyR a (o + 13), w_Key E a (o + 14) x.1.2.1.1, w_Bells E a (o + 15) x.1.2.1.2.1, w_Mel E a (o + 18) x.1.2.1.2.2.1, w_Cliffs E a (o + 22) x.1.2.1.2.2.2, w_Prog E a (o + 25) x.1.2.2.2.1, w_Chord E a (o + 31) x.1.2.2.2.2, w_Key E a (o + 34) x.2.1, w_Line E a (o + 35) x.2.2.1, w_Hist E a (o + 37) x.1.2.2.1, w_LongArr E ay oy y]) := hD
  have hl : lv_has ls 4 [(0, .ref (a o)), (1, .int p2), (2, .ref (ay oy))] := hl
  generalize hHe : s.heap = H at hP
  have hS : va_S A s.heap H [] := by rw [← hHe]; exact hS
  generalize ([] : List Loc) = locs at hS ⊢
  unfold f_L_deviation at hF
  refine lv_aload_n hx hb dL_deviation_0 rfl (lv_at hl 2 rfl) ?_
  refine lv_iconst (v := 0) hx hb dL_deviation_1 (by decide) ?_
  refine lv_aload_n hx hb dL_deviation_2 rfl (lv_at hl 0 rfl) ?_
  refine lv_iload_n hx hb dL_deviation_3 rfl (lv_at hl 1 rfl) ?_
  obtain ⟨q1, hq1, hF⟩ := q_bdi hF
  refine cx_i (ro := q1) (Lc := [w_VBR a o x.2.2.2.1 x.2.2.2.2.1 x.2.2.2.2.2, w_ValleyR a (o + 1), w_Key E a (o + 2) x.1.1.1, w_Bells E a (o + 3) x.1.1.2.1, w_Mel E a (o + 6) x.1.1.2.2.1, w_Cliffs E a (o + 10) x.1.1.2.2.2, w_ValleyR a (o + 13), w_Key E a (o + 14) x.1.2.1.1, w_Bells E a (o + 15) x.1.2.1.2.1, w_Mel E a (o + 18) x.1.2.1.2.2.1, w_Cliffs E a (o + 22) x.1.2.1.2.2.2, w_Prog E a (o + 25) x.1.2.2.2.1, w_Chord E a (o + 31) x.1.2.2.2.2, w_Key E a (o + 34) x.2.1, w_Line E a (o + 35) x.2.2.1, w_Hist E a (o + 37) x.1.2.2.1]) (Lc' := [w_VBR a o x.2.2.2.1 x.2.2.2.2.1 x.2.2.2.2.2, w_ValleyR a (o + 1), w_Key E a (o + 2) x.1.1.1, w_Bells E a (o + 3) x.1.1.2.1, w_Mel E a (o + 6) x.1.1.2.2.1, w_Cliffs E a (o + 10) x.1.1.2.2.2, w_ValleyR a (o + 13), w_Key E a (o + 14) x.1.2.1.1, w_Bells E a (o + 15) x.1.2.1.2.1, w_Mel E a (o + 18) x.1.2.1.2.2.1, w_Cliffs E a (o + 22) x.1.2.1.2.2.2, w_Prog E a (o + 25) x.1.2.2.2.1, w_Chord E a (o + 31) x.1.2.2.2.2, w_Key E a (o + 34) x.2.1, w_Line E a (o + 35) x.2.2.1, w_Hist E a (o + 37) x.1.2.2.1]) (L' := [w_VBR a o x.2.2.2.1 x.2.2.2.2.1 x.2.2.2.2.2, w_ValleyR a (o + 1), w_Key E a (o + 2) x.1.1.1, w_Bells E a (o + 3) x.1.1.2.1, w_Mel E a (o + 6) x.1.1.2.2.1, w_Cliffs E a (o + 10) x.1.1.2.2.2, w_ValleyR a (o + 13), w_Key E a (o + 14) x.1.2.1.1, w_Bells E a (o + 15) x.1.2.1.2.1, w_Mel E a (o + 18) x.1.2.1.2.2.1, w_Cliffs E a (o + 22) x.1.2.1.2.2.2, w_Prog E a (o + 25) x.1.2.2.2.1, w_Chord E a (o + 31) x.1.2.2.2.2, w_Key E a (o + 34) x.2.1, w_Line E a (o + 35) x.2.2.1, w_Hist E a (o + 37) x.1.2.2.1, w_LongArr E ay oy y]) (vx_runV (As := [.int p2]) (rest := [.int 0, .ref (ay oy)]) ⟨hx, hb, hml, hown, ha⟩ (k_X10_deviation l E a o x p2 q1 hq1 H.size hlt) (cwV 1 ha (gi_V (fun _ h => h) mw1234 mw1235 mw1236 mw74 mw1237) rfl rfl rfl hv_X10_deviation ⟨(Nat.le_of_ble_eq_true rfl), (Nat.le_of_ble_eq_true rfl)⟩) ⟨pre_blind, va_recv hst.k (fr_P hP [0, 1, 2, 3, 4, 5, 6, 7, 8, 9, 10, 11, 12, 13, 14, 15] rfl) (ci := 12) (q0 := 0) rfl rfl, pre_at hP hD hS hz hzs hst [0, 1, 2, 3, 4, 5, 6, 7, 8, 9, 10, 11, 12, 13, 14, 15] (by decide) rfl rfl⟩ rfl rfl hl.1 rfl (lv_room (Nat.le_of_ble_eq_true rfl)) dL_deviation_4 ⟨(Nat.le_of_ble_eq_true rfl), (Nat.le_of_ble_eq_true rfl)⟩) hP hD hS hA [0, 1, 2, 3, 4, 5, 6, 7, 8, 9, 10, 11, 12, 13, 14, 15] (by decide) rfl rfl rfl rfl (fun X ce q9 H locs eX h1 h2 h3 hP hD hS => ?_) (fun r2 H locs er2 hP hD hS => ?_)
  · have hF := q_smr eX hF
    by_cases w4_0 : X = "java/lang/IndexOutOfBoundsException"
    · have hF := q_brp w4_0 hF
      subst w4_0
      refine vx_catch (E := "java/lang/IndexOutOfBoundsException") (name := "java/lang/IndexOutOfBoundsException") hown [] ⟨0, 9, 12, 13⟩ [] htab (fun _ h => nomatch h) (by decide) (by decide) (ha _ mw960) (va_Nw.use rfl (hst.cs cs_IndexOutOfBoundsException)) h1 h2 h3 ?_
      refine lv_astore_n (lv' := [(3, .ref q9), (0, .ref (a o)), (1, .int p2), (2, .ref (ay oy))]) hx hb dL_deviation_12 rfl hl (by decide) rfl (fun ls hl => ?_)
      refine lv_iconst (v := 1) hx hb dL_deviation_13 (by decide) ?_
      obtain rfl := Option.some.inj hF
      exact en_i hQ (Nat.le_of_ble_eq_true rfl) (Nat.le_of_ble_eq_true rfl) hx hb hr hlocks hP hD hS rfl dL_deviation_14
    have hF := q_brn w4_0 hF
    exact absurd hF (by simp)
  have hF := q_sml er2 hF
  refine lv_i2l hx hb dL_deviation_7 rfl ?_
  refine vi_last hx hb hst.k hP hD hS 147 3 rfl rfl (f := y) (k := 0) (by decide) (by decide) dL_deviation_8 (fun H locs hP hD hS => ?_)
  have hP : va_P E.1 vwCl (List.flatten [w_VBR a o x.2.2.2.1 x.2.2.2.2.1 x.2.2.2.2.2, w_ValleyR a (o + 1), w_Key E a (o + 2) x.1.1.1, w_Bells E a (o + 3) x.1.1.2.1, w_Mel E a (o + 6) x.1.1.2.2.1, w_Cliffs E a (o + 10) x.1.1.2.2.2, w_ValleyR a (o + 13), w_Key E a (o + 14) x.1.2.1.1, w_Bells E a (o + 15) x.1.2.1.2.1, w_Mel E a (o + 18) x.1.2.1.2.2.1, w_Cliffs E a (o + 22) x.1.2.1.2.2.2, w_Prog E a (o + 25) x.1.2.2.2.1, w_Chord E a (o + 31) x.1.2.2.2.2, w_Key E a (o + 34) x.2.1, w_Line E a (o + 35) x.2.2.1, w_Hist E a (o + 37) x.1.2.2.1, w_LongArr E ay oy (vp_updL y 0 (r2.toInt64))]) H := hP
  have hD : va_D A (List.flatten [w_VBR a o x.2.2.2.1 x.2.2.2.2.1 x.2.2.2.2.2, w_ValleyR a (o + 1), w_Key E a (o + 2) x.1.1.1, w_Bells E a (o + 3) x.1.1.2.1, w_Mel E a (o + 6) x.1.1.2.2.1, w_Cliffs E a (o + 10) x.1.1.2.2.2, w_ValleyR a (o + 13), w_Key E a (o + 14) x.1.2.1.1, w_Bells E a (o + 15) x.1.2.1.2.1, w_Mel E a (o + 18) x.1.2.1.2.2.1, w_Cliffs E a (o + 22) x.1.2.1.2.2.2, w_Prog E a (o + 25) x.1.2.2.2.1, w_Chord E a (o + 31) x.1.2.2.2.2, w_Key E a (o + 34) x.2.1, w_Line E a (o + 35) x.2.2.1, w_Hist E a (o + 37) x.1.2.2.1, w_LongArr E ay oy (vp_updL y 0 (r2.toInt64))]) := hD
  refine lv_goto (tgt := 15) hx hb dL_deviation_9 (by decide) ?_
  refine lv_iconst (v := 0) hx hb dL_deviation_15 (by decide) ?_
  obtain rfl := Option.some.inj hF
  exact en_i hQ (Nat.le_of_ble_eq_true rfl) (Nat.le_of_ble_eq_true rfl) hx hb hr hlocks hP hD hS rfl dL_deviation_16

/-! L_isInKey -/
theorem dL_isInKey_0 : decode cL_isInKey 0 = .ok (.aload_n 2, 1) := by decide +kernel
theorem dL_isInKey_1 : decode cL_isInKey 1 = .ok (.iconst 0, 1) := by decide +kernel
theorem dL_isInKey_2 : decode cL_isInKey 2 = .ok (.aload_n 0, 1) := by decide +kernel
theorem dL_isInKey_3 : decode cL_isInKey 3 = .ok (.iload_n 1, 1) := by decide +kernel
theorem dL_isInKey_4 : decode cL_isInKey 4 = .ok (.invokevirtual 66, 3) := by decide +kernel
theorem dL_isInKey_7 : decode cL_isInKey 7 = .ok (.ifCond .eq 7, 3) := by decide +kernel
theorem dL_isInKey_10 : decode cL_isInKey 10 = .ok (.lconst 1, 1) := by decide +kernel
theorem dL_isInKey_11 : decode cL_isInKey 11 = .ok (.goto 4, 3) := by decide +kernel
theorem dL_isInKey_14 : decode cL_isInKey 14 = .ok (.lconst 0, 1) := by decide +kernel
theorem dL_isInKey_15 : decode cL_isInKey 15 = .ok (.lastore, 1) := by decide +kernel
theorem dL_isInKey_16 : decode cL_isInKey 16 = .ok (.goto 6, 3) := by decide +kernel
theorem dL_isInKey_19 : decode cL_isInKey 19 = .ok (.astore_n 3, 1) := by decide +kernel
theorem dL_isInKey_20 : decode cL_isInKey 20 = .ok (.iconst 1, 1) := by decide +kernel
theorem dL_isInKey_21 : decode cL_isInKey 21 = .ok (.ireturn, 1) := by decide +kernel
theorem dL_isInKey_22 : decode cL_isInKey 22 = .ok (.iconst 0, 1) := by decide +kernel
theorem dL_isInKey_23 : decode cL_isInKey 23 = .ok (.ireturn, 1) := by decide +kernel
def f_L_isInKey (x_valley_key_tonic : Int32) (x_valley_key_isMinor : Int32) (x_valley_key_tolerance : Int32) (x_valley_bells_pitches : (Nat → Int32)) (x_valley_bells_count : Int32) (y_v : (Nat → Int64)) (p2 : Int32) : Option (Int32 × (Nat → Int64)) :=
  q_bd (f_X10_isInKey x_valley_key_tonic x_valley_key_isMinor x_valley_key_tolerance x_valley_bells_pitches x_valley_bells_count p2) (fun q1 =>
  q_sm q1 (fun X => q_br (X = "java/lang/IndexOutOfBoundsException") (
  some (1, y_v)) (
  none)) (fun r2 =>
  q_lt (fun (j3 : Int64) =>
  some (0, vp_updL y_v 0 j3)) (fun (J15 : Int64 → Option (Int32 × (Nat → Int64))) =>
  q_br (r2 = 0) (
  J15 0) (
  J15 1))))
theorem hv_L_isInKey : yL_isInKey.cls = RL ∧ yL_isInKey.cls ≠ "java/lang/invoke/MethodHandle" ∧ yL_isInKey.cls ≠ "java/lang/invoke/VarHandle" ∧ (parseMethodDescriptor yL_isInKey.desc).map (fun d => d.parameters.length) = some 3 := by decide +kernel
abbrev rm_L_isInKey : Room := { frames := 8, cells := 1, slots := 6, locals := 124 }
set_option maxHeartbeats 4000000 in
set_option maxRecDepth 100000 in
theorem k_L_isInKey (l : Launch) (E : ET) (a : Nat → Nat) (o : Nat) (x : VB_t) (ay : Nat → Nat) (oy : Nat) (y : (Nat → Int64)) (p2 : Int32) (res : Int32 × (Nat → Int64)) (hF : f_L_isInKey x.1.1.1.1 x.1.1.1.2.1 x.1.1.1.2.2 x.1.1.2.1.2.1 x.1.1.2.1.2.2 y p2 = some res) (sz : Nat) (hlt : l.stackTraces = false) : CtI l yL_isInKey (mwsH yL_isInKey cL_isInKey 4 (some .int) [(0, 16, 19, 13)]) rm_L_isInKey 1 6 [.ref (a o), .int p2, .ref (ay oy)] E (bl_VB E a o x ++ bl_LongArr E ay oy y) res.1 (bl_VB E a o x ++ bl_LongArr E ay oy res.2) sz := by
  refine mk_H (by decide +kernel) (Nat.le_of_ble_eq_true rfl) ?_
  intro p e s m below meth c A args Q ls hAe hsz hQ hx hb hr hml hin ha hown hlocks hA hz hzs hst htab hP hD hS hl
  have hown : s.vm.findClass RL = some m.cls := hown
  rw [hAe] at hQ
  subst hsz
  have hP : va_P E.1 vwCl (List.flatten [w_VBR a o x.2.2.2.1 x.2.2.2.2.1 x.2.2.2.2.2, w_ValleyR a (o + 1), w_Key E a (o + 2) x.1.1.1, w_Bells E a (o + 3) x.1.1.2.1, w_Mel E a (o + 6) x.1.1.2.2.1, w_Cliffs E a (o + 10) x.1.1.2.2.2, w_ValleyR a (o + 13), w_Key E a (o + 14) x.1.2.1.1, w_Bells E a (o + 15) x.1.2.1.2.1, w_Mel E a (o + 18) x.1.2.1.2.2.1, w_Cliffs E a (o + 22) x.1.2.1.2.2.2, w_Prog E a (o + 25) x.1.2.2.2.1, w_Chord E a (o + 31) x.1.2.2.2.2, w_Key E a (o + 34) x.2.1, w_Line E a (o + 35) x.2.2.1, w_Hist E a (o + 37) x.1.2.2.1, w_LongArr E ay oy y]) s.heap := hP
  have hD : va_D A (List.flatten [w_VBR a o x.2.2.2.1 x.2.2.2.2.1 x.2.2.2.2.2, w_ValleyR a (o + 1), w_Key E a (o + 2) x.1.1.1, w_Bells E a (o + 3) x.1.1.2.1, w_Mel E a (o + 6) x.1.1.2.2.1, w_Cliffs E a (o + 10) x.1.1.2.2.2, w_ValleyR a (o + 13), w_Key E a (o + 14) x.1.2.1.1, w_Bells E a (o + 15) x.1.2.1.2.1, w_Mel E a (o + 18) x.1.2.1.2.2.1, w_Cliffs E a (o + 22) x.1.2.1.2.2.2, w_Prog E a (o + 25) x.1.2.2.2.1, w_Chord E a (o + 31) x.1.2.2.2.2, w_Key E a (o + 34) x.2.1, w_Line E a (o + 35) x.2.2.1, w_Hist E a (o + 37) x.1.2.2.1, w_LongArr E ay oy y]) := hD
  have hl : lv_has ls 4 [(0, .ref (a o)), (1, .int p2), (2, .ref (ay oy))] := hl
  generalize hHe : s.heap = H at hP
  have hS : va_S A s.heap H [] := by rw [← hHe]; exact hS
  generalize ([] : List Loc) = locs at hS ⊢
  unfold f_L_isInKey at hF
  refine lv_aload_n hx hb dL_isInKey_0 rfl (lv_at hl 2 rfl) ?_
  refine lv_iconst (v := 0) hx hb dL_isInKey_1 (by decide) ?_
  refine lv_aload_n hx hb dL_isInKey_2 rfl (lv_at hl 0 rfl) ?_
  refine lv_iload_n hx hb dL_isInKey_3 rfl (lv_at hl 1 rfl) ?_
  obtain ⟨q1, hq1, hF⟩ := q_bdi hF
  refine cx_i (ro := q1) (Lc := [w_VBR a o x.2.2.2.1 x.2.2.2.2.1 x.2.2.2.2.2, w_ValleyR a (o + 1), w_Key E a (o + 2) x.1.1.1, w_Bells E a (o + 3) x.1.1.2.1, w_Mel E a (o + 6) x.1.1.2.2.1, w_Cliffs E a (o + 10) x.1.1.2.2.2, w_ValleyR a (o + 13), w_Key E a (o + 14) x.1.2.1.1, w_Bells E a (o + 15) x.1.2.1.2.1, w_Mel E a (o + 18) x.1.2.1.2.2.1, w_Cliffs E a (o + 22) x.1.2.1.2.2.2, w_Prog E a (o + 25) x.1.2.2.2.1, w_Chord E a (o + 31) x.1.2.2.2.2, w_Key E a (o + 34) x.2.1, w_Line E a (o + 35) x.2.2.1, w_Hist E a (o + 37) x.1.2.2.1]) (Lc' := [w_VBR a o x.2.2.2.1 x.2.2.2.2.1 x.2.2.2.2.2, w_ValleyR a (o + 1), w_Key E a (o + 2) x.1.1.1, w_Bells E a (o + 3) x.1.1.2.1, w_Mel E a (o + 6) x.1.1.2.2.1, w_Cliffs E a (o + 10) x.1.1.2.2.2, w_ValleyR a (o + 13), w_Key E a (o + 14) x.1.2.1.1, w_Bells E a (o + 15) x.1.2.1.2.1, w_Mel E a (o + 18) x.1.2.1.2.2.1, w_Cliffs E a (o + 22) x.1.2.1.2.2.2, w_Prog E a (o + 25) x.1.2.2.2.1, w_Chord E a (o + 31) x.1.2.2.2.2, w_Key E a (o + 34) x.2.1, w_Line E a (o + 35) x.2.2.1, w_Hist E a (o + 37) x.1.2.2.1]) (L' := [w_VBR a o x.2.2.2.1 x.2.2.2.2.1 x.2.2.2.2.2, w_ValleyR a (o + 1), w_Key E a (o + 2) x.1.1.1, w_Bells E a (o + 3) x.1.1.2.1, w_Mel E a (o + 6) x.1.1.2.2.1, w_Cliffs E a (o + 10) x.1.1.2.2.2, w_ValleyR a (o + 13), w_Key E a (o + 14) x.1.2.1.1, w_Bells E a (o + 15) x.1.2.1.2.1, w_Mel E a (o + 18) x.1.2.1.2.2.1, w_Cliffs E a (o + 22) x.1.2.1.2.2.2, w_Prog E a (o + 25) x.1.2.2.2.1, w_Chord E a (o + 31) x.1.2.2.2.2, w_Key E a (o + 34) x.2.1, w_Line E a (o + 35) x.2.2.1, w_Hist E a (o + 37) x.1.2.2.1, w_LongArr E ay oy y]) (vx_runV (As := [.int p2]) (rest := [.int 0, .ref (ay oy)]) ⟨hx, hb, hml, hown, ha⟩ (k_X10_isInKey l E a o x p2 q1 hq1 H.size hlt) (cwV 1 ha (gi_V (fun _ h => h) mw1246 mw1247 mw1248 mw74 mw1249) rfl rfl rfl hv_X10_isInKey ⟨(Nat.le_of_ble_eq_true rfl), (Nat.le_of_ble_eq_true rfl)⟩) ⟨pre_blind, va_recv hst.k (fr_P hP [0, 1, 2, 3, 4, 5, 6, 7, 8, 9, 10, 11, 12, 13, 14, 15] rfl) (ci := 12) (q0 := 0) rfl rfl, pre_at hP hD hS hz hzs hst [0, 1, 2, 3, 4, 5, 6, 7, 8, 9, 10, 11, 12, 13, 14, 15] (by decide) rfl rfl⟩ rfl rfl hl.1 rfl (lv_room (Nat.le_of_ble_eq_true rfl)) dL_isInKey_4 ⟨(Nat.le_of_ble_eq_true rfl), (Nat.le_of_ble_eq_true rfl)⟩) hP hD hS hA [0, 1, 2, 3, 4, 5, 6, 7, 8, 9, 10, 11, 12, 13, 14, 15] (by decide) rfl rfl rfl rfl (fun X ce q9 H locs eX h1 h2 h3 hP hD hS => ?_) (fun r2 H locs er2 hP hD hS => ?_)
  · have hF := q_smr eX hF
    by_cases w4_0 : X = "java/lang/IndexOutOfBoundsException"
    · have hF := q_brp w4_0 hF
      subst w4_0
      refine vx_catch (E := "java/lang/IndexOutOfBoundsException") (name := "java/lang/IndexOutOfBoundsException") hown [] ⟨0, 16, 19, 13⟩ [] htab (fun _ h => nomatch h) (by decide) (by decide) (ha _ mw960) (va_Nw.use rfl (hst.cs cs_IndexOutOfBoundsException)) h1 h2 h3 ?_
      refine lv_astore_n (lv' := [(3, .ref q9), (0, .ref (a o)), (1, .int p2), (2, .ref (ay oy))]) hx hb dL_isInKey_19 rfl hl (by decide) rfl (fun ls hl => ?_)
      refine lv_iconst (v := 1) hx hb dL_isInKey_20 (by decide) ?_
      obtain rfl := Option.some.inj hF
      exact en_i hQ (Nat.le_of_ble_eq_true rfl) (Nat.le_of_ble_eq_true rfl) hx hb hr hlocks hP hD hS rfl dL_isInKey_21
    have hF := q_brn w4_0 hF
    exact absurd hF (by simp)
  have hF := q_sml er2 hF
  obtain ⟨J15, hJ15, hF⟩ := q_jn hF
  have jJ15 : ∀ (j3 : Int64), ∀ (H : Heap) (locs : List Loc) (ls : Array Slot), J15 j3 = some res → va_P E.1 vwCl (List.flatten [w_VBR a o x.2.2.2.1 x.2.2.2.2.1 x.2.2.2.2.2, w_ValleyR a (o + 1), w_Key E a (o + 2) x.1.1.1, w_Bells E a (o + 3) x.1.1.2.1, w_Mel E a (o + 6) x.1.1.2.2.1, w_Cliffs E a (o + 10) x.1.1.2.2.2, w_ValleyR a (o + 13), w_Key E a (o + 14) x.1.2.1.1, w_Bells E a (o + 15) x.1.2.1.2.1, w_Mel E a (o + 18) x.1.2.1.2.2.1, w_Cliffs E a (o + 22) x.1.2.1.2.2.2, w_Prog E a (o + 25) x.1.2.2.2.1, w_Chord E a (o + 31) x.1.2.2.2.2, w_Key E a (o + 34) x.2.1, w_Line E a (o + 35) x.2.2.1, w_Hist E a (o + 37) x.1.2.2.1, w_LongArr E ay oy y]) H → va_D A (List.flatten [w_VBR a o x.2.2.2.1 x.2.2.2.2.1 x.2.2.2.2.2, w_ValleyR a (o + 1), w_Key E a (o + 2) x.1.1.1, w_Bells E a (o + 3) x.1.1.2.1, w_Mel E a (o + 6) x.1.1.2.2.1, w_Cliffs E a (o + 10) x.1.1.2.2.2, w_ValleyR a (o + 13), w_Key E a (o + 14) x.1.2.1.1, w_Bells E a (o + 15) x.1.2.1.2.1, w_Mel E a (o + 18) x.1.2.1.2.2.1, w_Cliffs E a (o + 22) x.1.2.1.2.2.2, w_Prog E a (o + 25) x.1.2.2.2.1, w_Chord E a (o + 31) x.1.2.2.2.2, w_Key E a (o + 34) x.2.1, w_Line E a (o + 35) x.2.2.1, w_Hist E a (o + 37) x.1.2.2.1, w_LongArr E ay oy y]) → va_S A s.heap H locs → lv_has ls 4 [] → W p l e rm_L_isInKey s m args below meth c H locs 1 6 Q (F0 m 15 ls [.long j3, .int 0, .ref (ay oy)]) := by
    intro j3 H locs ls hF hP hD hS hl
    rw [hJ15] at hF
    refine vi_last hx hb hst.k hP hD hS 147 3 rfl rfl (f := y) (k := 0) (by decide) (by decide) dL_isInKey_15 (fun H locs hP hD hS => ?_)
    have hP : va_P E.1 vwCl (List.flatten [w_VBR a o x.2.2.2.1 x.2.2.2.2.1 x.2.2.2.2.2, w_ValleyR a (o + 1), w_Key E a (o + 2) x.1.1.1, w_Bells E a (o + 3) x.1.1.2.1, w_Mel E a (o + 6) x.1.1.2.2.1, w_Cliffs E a (o + 10) x.1.1.2.2.2, w_ValleyR a (o + 13), w_Key E a (o + 14) x.1.2.1.1, w_Bells E a (o + 15) x.1.2.1.2.1, w_Mel E a (o + 18) x.1.2.1.2.2.1, w_Cliffs E a (o + 22) x.1.2.1.2.2.2, w_Prog E a (o + 25) x.1.2.2.2.1, w_Chord E a (o + 31) x.1.2.2.2.2, w_Key E a (o + 34) x.2.1, w_Line E a (o + 35) x.2.2.1, w_Hist E a (o + 37) x.1.2.2.1, w_LongArr E ay oy (vp_updL y 0 j3)]) H := hP
    have hD : va_D A (List.flatten [w_VBR a o x.2.2.2.1 x.2.2.2.2.1 x.2.2.2.2.2, w_ValleyR a (o + 1), w_Key E a (o + 2) x.1.1.1, w_Bells E a (o + 3) x.1.1.2.1, w_Mel E a (o + 6) x.1.1.2.2.1, w_Cliffs E a (o + 10) x.1.1.2.2.2, w_ValleyR a (o + 13), w_Key E a (o + 14) x.1.2.1.1, w_Bells E a (o + 15) x.1.2.1.2.1, w_Mel E a (o + 18) x.1.2.1.2.2.1, w_Cliffs E a (o + 22) x.1.2.1.2.2.2, w_Prog E a (o + 25) x.1.2.2.2.1, w_Chord E a (o + 31) x.1.2.2.2.2, w_Key E a (o + 34) x.2.1, w_Line E a (o + 35) x.2.2.1, w_Hist E a (o + 37) x.1.2.2.1, w_LongArr E ay oy (vp_updL y 0 j3)]) := hD
    refine lv_goto (tgt := 22) hx hb dL_isInKey_16 (by decide) ?_
    refine lv_iconst (v := 0) hx hb dL_isInKey_22 (by decide) ?_
    obtain rfl := Option.some.inj hF
    exact en_i hQ (Nat.le_of_ble_eq_true rfl) (Nat.le_of_ble_eq_true rfl) hx hb hr hlocks hP hD hS rfl dL_isInKey_23
  refine lv_if_eq (tgt := 14) hx hb dL_isInKey_7 (by decide) (fun c7 => ?_) (fun c7 => ?_)
  · have hF := q_brp c7 hF
    refine lv_lconst (v := 0) hx hb dL_isInKey_14 (by decide) ?_
    exact jJ15 0 H locs ls hF hP hD hS (lv_sub hl [] rfl)
  · have hF := q_brn c7 hF
    refine lv_lconst (v := 1) hx hb dL_isInKey_10 (by decide) ?_
    refine lv_goto (tgt := 15) hx hb dL_isInKey_11 (by decide) ?_
    exact jJ15 1 H locs ls hF hP hD hS (lv_sub hl [] rfl)

/-! L_centsToKey -/
theorem dL_centsToKey_0 : decode cL_centsToKey 0 = .ok (.aload_n 2, 1) := by decide +kernel
theorem dL_centsToKey_1 : decode cL_centsToKey 1 = .ok (.iconst 0, 1) := by decide +kernel
theorem dL_centsToKey_2 : decode cL_centsToKey 2 = .ok (.aload_n 0, 1) := by decide +kernel
theorem dL_centsToKey_3 : decode cL_centsToKey 3 = .ok (.iload_n 1, 1) := by decide +kernel
theorem dL_centsToKey_4 : decode cL_centsToKey 4 = .ok (.invokevirtual 70, 3) := by decide +kernel
theorem dL_centsToKey_7 : decode cL_centsToKey 7 = .ok (.i2l, 1) := by decide +kernel
theorem dL_centsToKey_8 : decode cL_centsToKey 8 = .ok (.lastore, 1) := by decide +kernel
theorem dL_centsToKey_9 : decode cL_centsToKey 9 = .ok (.goto 6, 3) := by decide +kernel
theorem dL_centsToKey_12 : decode cL_centsToKey 12 = .ok (.astore_n 3, 1) := by decide +kernel
theorem dL_centsToKey_13 : decode cL_centsToKey 13 = .ok (.iconst 1, 1) := by decide +kernel
theorem dL_centsToKey_14 : decode cL_centsToKey 14 = .ok (.ireturn, 1) := by decide +kernel
theorem dL_centsToKey_15 : decode cL_centsToKey 15 = .ok (.iconst 0, 1) := by decide +kernel
theorem dL_centsToKey_16 : decode cL_centsToKey 16 = .ok (.ireturn, 1) := by decide +kernel
def f_L_centsToKey (x_valley_key_tonic : Int32) (x_valley_key_isMinor : Int32) (x_valley_bells_pitches : (Nat → Int32)) (x_valley_bells_count : Int32) (y_v : (Nat → Int64)) (p2 : Int32) : Option (Int32 × (Nat → Int64)) :=
  q_bd (f_X10_centsToKey x_valley_key_tonic x_valley_key_isMinor x_valley_bells_pitches x_valley_bells_count p2) (fun q1 =>
  q_sm q1 (fun X => q_br (X = "java/lang/IndexOutOfBoundsException") (
  some (1, y_v)) (
  none)) (fun r2 =>
  some (0, vp_updL y_v 0 (r2.toInt64))))
theorem hv_L_centsToKey : yL_centsToKey.cls = RL ∧ yL_centsToKey.cls ≠ "java/lang/invoke/MethodHandle" ∧ yL_centsToKey.cls ≠ "java/lang/invoke/VarHandle" ∧ (parseMethodDescriptor yL_centsToKey.desc).map (fun d => d.parameters.length) = some 3 := by decide +kernel
abbrev rm_L_centsToKey : Room := { frames := 8, cells := 1, slots := 6, locals := 128 }
set_option maxHeartbeats 4000000 in
set_option maxRecDepth 100000 in
theorem k_L_centsToKey (l : Launch) (E : ET) (a : Nat → Nat) (o : Nat) (x : VB_t) (ay : Nat → Nat) (oy : Nat) (y : (Nat → Int64)) (p2 : Int32) (res : Int32 × (Nat → Int64)) (hF : f_L_centsToKey x.1.1.1.1 x.1.1.1.2.1 x.1.1.2.1.2.1 x.1.1.2.1.2.2 y p2 = some res) (sz : Nat) (hlt : l.stackTraces = false) : CtI l yL_centsToKey (mwsH yL_centsToKey cL_centsToKey 4 (some .int) [(0, 9, 12, 13)]) rm_L_centsToKey 1 6 [.ref (a o), .int p2, .ref (ay oy)] E (bl_VB E a o x ++ bl_LongArr E ay oy y) res.1 (bl_VB E a o x ++ bl_LongArr E ay oy res.2) sz := by
  refine mk_H (by decide +kernel) (Nat.le_of_ble_eq_true rfl) ?_
  intro p e s m below meth c A args Q ls hAe hsz hQ hx hb hr hml hin ha hown hlocks hA hz hzs hst htab hP hD hS hl
  have hown : s.vm.findClass RL = some m.cls := hown
  rw [hAe] at hQ
  subst hsz
  have hP : va_P E.1 vwCl (List.flatten [w_VBR a o x.2.2.2.1 x.2.2.2.2.1 x.2.2.2.2.2, w_ValleyR a (o + 1), w_Key E a (o + 2) x.1.1.1, w_Bells E a (o + 3) x.1.1.2.1, w_Mel E a (o + 6) x.1.1.2.2.1, w_Cliffs E a (o + 10) x.1.1.2.2.2, w_ValleyR a (o + 13), w_Key E a (o + 14) x.1.2.1.1, w_Bells E a (o + 15) x.1.2.1.2.1, w_Mel E a (o + 18) x.1.2.1.2.2.1, w_Cliffs E a (o + 22) x.1.2.1.2.2.2, w_Prog E a (o + 25) x.1.2.2.2.1, w_Chord E a (o + 31) x.1.2.2.2.2, w_Key E a (o + 34) x.2.1, w_Line E a (o + 35) x.2.2.1, w_Hist E a (o + 37) x.1.2.2.1, w_LongArr E ay oy y]) s.heap := hP
  have hD : va_D A (List.flatten [w_VBR a o x.2.2.2.1 x.2.2.2.2.1 x.2.2.2.2.2, w_ValleyR a (o + 1), w_Key E a (o + 2) x.1.1.1, w_Bells E a (o + 3) x.1.1.2.1, w_Mel E a (o + 6) x.1.1.2.2.1, w_Cliffs E a (o + 10) x.1.1.2.2.2, w_ValleyR a (o + 13), w_Key E a (o + 14) x.1.2.1.1, w_Bells E a (o + 15) x.1.2.1.2.1, w_Mel E a (o + 18) x.1.2.1.2.2.1, w_Cliffs E a (o + 22) x.1.2.1.2.2.2, w_Prog E a (o + 25) x.1.2.2.2.1, w_Chord E a (o + 31) x.1.2.2.2.2, w_Key E a (o + 34) x.2.1, w_Line E a (o + 35) x.2.2.1, w_Hist E a (o + 37) x.1.2.2.1, w_LongArr E ay oy y]) := hD
  have hl : lv_has ls 4 [(0, .ref (a o)), (1, .int p2), (2, .ref (ay oy))] := hl
  generalize hHe : s.heap = H at hP
  have hS : va_S A s.heap H [] := by rw [← hHe]; exact hS
  generalize ([] : List Loc) = locs at hS ⊢
  unfold f_L_centsToKey at hF
  refine lv_aload_n hx hb dL_centsToKey_0 rfl (lv_at hl 2 rfl) ?_
  refine lv_iconst (v := 0) hx hb dL_centsToKey_1 (by decide) ?_
  refine lv_aload_n hx hb dL_centsToKey_2 rfl (lv_at hl 0 rfl) ?_
  refine lv_iload_n hx hb dL_centsToKey_3 rfl (lv_at hl 1 rfl) ?_
  obtain ⟨q1, hq1, hF⟩ := q_bdi hF
  refine cx_i (ro := q1) (Lc := [w_VBR a o x.2.2.2.1 x.2.2.2.2.1 x.2.2.2.2.2, w_ValleyR a (o + 1), w_Key E a (o + 2) x.1.1.1, w_Bells E a (o + 3) x.1.1.2.1, w_Mel E a (o + 6) x.1.1.2.2.1, w_Cliffs E a (o + 10) x.1.1.2.2.2, w_ValleyR a (o + 13), w_Key E a (o + 14) x.1.2.1.1, w_Bells E a (o + 15) x.1.2.1.2.1, w_Mel E a (o + 18) x.1.2.1.2.2.1, w_Cliffs E a (o + 22) x.1.2.1.2.2.2, w_Prog E a (o + 25) x.1.2.2.2.1, w_Chord E a (o + 31) x.1.2.2.2.2, w_Key E a (o + 34) x.2.1, w_Line E a (o + 35) x.2.2.1, w_Hist E a (o + 37) x.1.2.2.1]) (Lc' := [w_VBR a o x.2.2.2.1 x.2.2.2.2.1 x.2.2.2.2.2, w_ValleyR a (o + 1), w_Key E a (o + 2) x.1.1.1, w_Bells E a (o + 3) x.1.1.2.1, w_Mel E a (o + 6) x.1.1.2.2.1, w_Cliffs E a (o + 10) x.1.1.2.2.2, w_ValleyR a (o + 13), w_Key E a (o + 14) x.1.2.1.1, w_Bells E a (o + 15) x.1.2.1.2.1, w_Mel E a (o + 18) x.1.2.1.2.2.1, w_Cliffs E a (o + 22) x.1.2.1.2.2.2, w_Prog E a (o + 25) x.1.2.2.2.1, w_Chord E a (o + 31) x.1.2.2.2.2, w_Key E a (o + 34) x.2.1, w_Line E a (o + 35) x.2.2.1, w_Hist E a (o + 37) x.1.2.2.1]) (L' := [w_VBR a o x.2.2.2.1 x.2.2.2.2.1 x.2.2.2.2.2, w_ValleyR a (o + 1), w_Key E a (o + 2) x.1.1.1, w_Bells E a (o + 3) x.1.1.2.1, w_Mel E a (o + 6) x.1.1.2.2.1, w_Cliffs E a (o + 10) x.1.1.2.2.2, w_ValleyR a (o + 13), w_Key E a (o + 14) x.1.2.1.1, w_Bells E a (o + 15) x.1.2.1.2.1, w_Mel E a (o + 18) x.1.2.1.2.2.1, w_Cliffs E a (o + 22) x.1.2.1.2.2.2, w_Prog E a (o + 25) x.1.2.2.2.1, w_Chord E a (o + 31) x.1.2.2.2.2, w_Key E a (o + 34) x.2.1, w_Line E a (o + 35) x.2.2.1, w_Hist E a (o + 37) x.1.2.2.1, w_LongArr E ay oy y]) (vx_runV (As := [.int p2]) (rest := [.int 0, .ref (ay oy)]) ⟨hx, hb, hml, hown, ha⟩ (k_X10_centsToKey l E a o x p2 q1 hq1 H.size hlt) (cwV 1 ha (gi_V (fun _ h => h) mw1254 mw1255 mw1256 mw74 mw1257) rfl rfl rfl hv_X10_centsToKey ⟨(Nat.le_of_ble_eq_true rfl), (Nat.le_of_ble_eq_true rfl)⟩) ⟨pre_blind, va_recv hst.k (fr_P hP [0, 1, 2, 3, 4, 5, 6, 7, 8, 9, 10, 11, 12, 13, 14, 15] rfl) (ci := 12) (q0 := 0) rfl rfl, pre_at hP hD hS hz hzs hst [0, 1, 2, 3, 4, 5, 6, 7, 8, 9, 10, 11, 12, 13, 14, 15] (by decide) rfl rfl⟩ rfl rfl hl.1 rfl (lv_room (Nat.le_of_ble_eq_true rfl)) dL_centsToKey_4 ⟨(Nat.le_of_ble_eq_true rfl), (Nat.le_of_ble_eq_true rfl)⟩) hP hD hS hA [0, 1, 2, 3, 4, 5, 6, 7, 8, 9, 10, 11, 12, 13, 14, 15] (by decide) rfl rfl rfl rfl (fun X ce q9 H locs eX h1 h2 h3 hP hD hS => ?_) (fun r2 H locs er2 hP hD hS => ?_)
  · have hF := q_smr eX hF
    by_cases w4_0 : X = "java/lang/IndexOutOfBoundsException"
    · have hF := q_brp w4_0 hF
      subst w4_0
      refine vx_catch (E := "java/lang/IndexOutOfBoundsException") (name := "java/lang/IndexOutOfBoundsException") hown [] ⟨0, 9, 12, 13⟩ [] htab (fun _ h => nomatch h) (by decide) (by decide) (ha _ mw960) (va_Nw.use rfl (hst.cs cs_IndexOutOfBoundsException)) h1 h2 h3 ?_
      refine lv_astore_n (lv' := [(3, .ref q9), (0, .ref (a o)), (1, .int p2), (2, .ref (ay oy))]) hx hb dL_centsToKey_12 rfl hl (by decide) rfl (fun ls hl => ?_)
      refine lv_iconst (v := 1) hx hb dL_centsToKey_13 (by decide) ?_
      obtain rfl := Option.some.inj hF
      exact en_i hQ (Nat.le_of_ble_eq_true rfl) (Nat.le_of_ble_eq_true rfl) hx hb hr hlocks hP hD hS rfl dL_centsToKey_14
    have hF := q_brn w4_0 hF
    exact absurd hF (by simp)
  have hF := q_sml er2 hF
  refine lv_i2l hx hb dL_centsToKey_7 rfl ?_
  refine vi_last hx hb hst.k hP hD hS 147 3 rfl rfl (f := y) (k := 0) (by decide) (by decide) dL_centsToKey_8 (fun H locs hP hD hS => ?_)
  have hP : va_P E.1 vwCl (List.flatten [w_VBR a o x.2.2.2.1 x.2.2.2.2.1 x.2.2.2.2.2, w_ValleyR a (o + 1), w_Key E a (o + 2) x.1.1.1, w_Bells E a (o + 3) x.1.1.2.1, w_Mel E a (o + 6) x.1.1.2.2.1, w_Cliffs E a (o + 10) x.1.1.2.2.2, w_ValleyR a (o + 13), w_Key E a (o + 14) x.1.2.1.1, w_Bells E a (o + 15) x.1.2.1.2.1, w_Mel E a (o + 18) x.1.2.1.2.2.1, w_Cliffs E a (o + 22) x.1.2.1.2.2.2, w_Prog E a (o + 25) x.1.2.2.2.1, w_Chord E a (o + 31) x.1.2.2.2.2, w_Key E a (o + 34) x.2.1, w_Line E a (o + 35) x.2.2.1, w_Hist E a (o + 37) x.1.2.2.1, w_LongArr E ay oy (vp_updL y 0 (r2.toInt64))]) H := hP
  have hD : va_D A (List.flatten [w_VBR a o x.2.2.2.1 x.2.2.2.2.1 x.2.2.2.2.2, w_ValleyR a (o + 1), w_Key E a (o + 2) x.1.1.1, w_Bells E a (o + 3) x.1.1.2.1, w_Mel E a (o + 6) x.1.1.2.2.1, w_Cliffs E a (o + 10) x.1.1.2.2.2, w_ValleyR a (o + 13), w_Key E a (o + 14) x.1.2.1.1, w_Bells E a (o + 15) x.1.2.1.2.1, w_Mel E a (o + 18) x.1.2.1.2.2.1, w_Cliffs E a (o + 22) x.1.2.1.2.2.2, w_Prog E a (o + 25) x.1.2.2.2.1, w_Chord E a (o + 31) x.1.2.2.2.2, w_Key E a (o + 34) x.2.1, w_Line E a (o + 35) x.2.2.1, w_Hist E a (o + 37) x.1.2.2.1, w_LongArr E ay oy (vp_updL y 0 (r2.toInt64))]) := hD
  refine lv_goto (tgt := 15) hx hb dL_centsToKey_9 (by decide) ?_
  refine lv_iconst (v := 0) hx hb dL_centsToKey_15 (by decide) ?_
  obtain rfl := Option.some.inj hF
  exact en_i hQ (Nat.le_of_ble_eq_true rfl) (Nat.le_of_ble_eq_true rfl) hx hb hr hlocks hP hD hS rfl dL_centsToKey_16

/-! L_centsToKeyByNotes -/
theorem dL_centsToKeyByNotes_0 : decode cL_centsToKeyByNotes 0 = .ok (.aload_n 2, 1) := by decide +kernel
theorem dL_centsToKeyByNotes_1 : decode cL_centsToKeyByNotes 1 = .ok (.iconst 0, 1) := by decide +kernel
theorem dL_centsToKeyByNotes_2 : decode cL_centsToKeyByNotes 2 = .ok (.aload_n 0, 1) := by decide +kernel
theorem dL_centsToKeyByNotes_3 : decode cL_centsToKeyByNotes 3 = .ok (.iload_n 1, 1) := by decide +kernel
theorem dL_centsToKeyByNotes_4 : decode cL_centsToKeyByNotes 4 = .ok (.invokevirtual 73, 3) := by decide +kernel
theorem dL_centsToKeyByNotes_7 : decode cL_centsToKeyByNotes 7 = .ok (.i2l, 1) := by decide +kernel
theorem dL_centsToKeyByNotes_8 : decode cL_centsToKeyByNotes 8 = .ok (.lastore, 1) := by decide +kernel
theorem dL_centsToKeyByNotes_9 : decode cL_centsToKeyByNotes 9 = .ok (.goto 6, 3) := by decide +kernel
theorem dL_centsToKeyByNotes_12 : decode cL_centsToKeyByNotes 12 = .ok (.astore_n 3, 1) := by decide +kernel
theorem dL_centsToKeyByNotes_13 : decode cL_centsToKeyByNotes 13 = .ok (.iconst 1, 1) := by decide +kernel
theorem dL_centsToKeyByNotes_14 : decode cL_centsToKeyByNotes 14 = .ok (.ireturn, 1) := by decide +kernel
theorem dL_centsToKeyByNotes_15 : decode cL_centsToKeyByNotes 15 = .ok (.iconst 0, 1) := by decide +kernel
theorem dL_centsToKeyByNotes_16 : decode cL_centsToKeyByNotes 16 = .ok (.ireturn, 1) := by decide +kernel
def f_L_centsToKeyByNotes (x_valley_key_tonic : Int32) (x_valley_key_isMinor : Int32) (x_valley_bells_pitches : (Nat → Int32)) (x_valley_bells_count : Int32) (y_v : (Nat → Int64)) (p2 : Int32) : Option (Int32 × (Nat → Int64)) :=
  q_bd (f_X10_centsToKeyByNotes x_valley_key_tonic x_valley_key_isMinor x_valley_bells_pitches x_valley_bells_count p2) (fun q1 =>
  q_sm q1 (fun X => q_br (X = "java/lang/IndexOutOfBoundsException") (
  some (1, y_v)) (
  none)) (fun r2 =>
  some (0, vp_updL y_v 0 (r2.toInt64))))
theorem hv_L_centsToKeyByNotes : yL_centsToKeyByNotes.cls = RL ∧ yL_centsToKeyByNotes.cls ≠ "java/lang/invoke/MethodHandle" ∧ yL_centsToKeyByNotes.cls ≠ "java/lang/invoke/VarHandle" ∧ (parseMethodDescriptor yL_centsToKeyByNotes.desc).map (fun d => d.parameters.length) = some 3 := by decide +kernel
abbrev rm_L_centsToKeyByNotes : Room := { frames := 8, cells := 1, slots := 6, locals := 131 }
set_option maxHeartbeats 4000000 in
set_option maxRecDepth 100000 in
theorem k_L_centsToKeyByNotes (l : Launch) (E : ET) (a : Nat → Nat) (o : Nat) (x : VB_t) (ay : Nat → Nat) (oy : Nat) (y : (Nat → Int64)) (p2 : Int32) (res : Int32 × (Nat → Int64)) (hF : f_L_centsToKeyByNotes x.1.1.1.1 x.1.1.1.2.1 x.1.1.2.1.2.1 x.1.1.2.1.2.2 y p2 = some res) (sz : Nat) (hlt : l.stackTraces = false) : CtI l yL_centsToKeyByNotes (mwsH yL_centsToKeyByNotes cL_centsToKeyByNotes 4 (some .int) [(0, 9, 12, 13)]) rm_L_centsToKeyByNotes 1 6 [.ref (a o), .int p2, .ref (ay oy)] E (bl_VB E a o x ++ bl_LongArr E ay oy y) res.1 (bl_VB E a o x ++ bl_LongArr E ay oy res.2) sz := by
  refine mk_H (by decide +kernel) (Nat.le_of_ble_eq_true rfl) ?_
  intro p e s m below meth c A args Q ls hAe hsz hQ hx hb hr hml hin ha hown hlocks hA hz hzs hst htab hP hD hS hl
  have hown : s.vm.findClass RL = some m.cls := hown
  rw [hAe] at hQ
  subst hsz
  have hP : va_P E.1 vwCl (List.flatten [w_VBR a o x.2.2.2.1 x.2.2.2.2.1 x.2.2.2.2.2, w_ValleyR a (o + 1), w_Key E a (o + 2) x.1.1.1, w_Bells E a (o + 3) x.1.1.2.1, w_Mel E a (o + 6) x.1.1.2.2.1, w_Cliffs E a (o + 10) x.1.1.2.2.2, w_ValleyR a (o + 13), w_Key E a (o + 14) x.1.2.1.1, w_Bells E a (o + 15) x.1.2.1.2.1, w_Mel E a (o + 18) x.1.2.1.2.2.1, w_Cliffs E a (o + 22) x.1.2.1.2.2.2, w_Prog E a (o + 25) x.1.2.2.2.1, w_Chord E a (o + 31) x.1.2.2.2.2, w_Key E a (o + 34) x.2.1, w_Line E a (o + 35) x.2.2.1, w_Hist E a (o + 37) x.1.2.2.1, w_LongArr E ay oy y]) s.heap := hP
  have hD : va_D A (List.flatten [w_VBR a o x.2.2.2.1 x.2.2.2.2.1 x.2.2.2.2.2, w_ValleyR a (o + 1), w_Key E a (o + 2) x.1.1.1, w_Bells E a (o + 3) x.1.1.2.1, w_Mel E a (o + 6) x.1.1.2.2.1, w_Cliffs E a (o + 10) x.1.1.2.2.2, w_ValleyR a (o + 13), w_Key E a (o + 14) x.1.2.1.1, w_Bells E a (o + 15) x.1.2.1.2.1, w_Mel E a (o + 18) x.1.2.1.2.2.1, w_Cliffs E a (o + 22) x.1.2.1.2.2.2, w_Prog E a (o + 25) x.1.2.2.2.1, w_Chord E a (o + 31) x.1.2.2.2.2, w_Key E a (o + 34) x.2.1, w_Line E a (o + 35) x.2.2.1, w_Hist E a (o + 37) x.1.2.2.1, w_LongArr E ay oy y]) := hD
  have hl : lv_has ls 4 [(0, .ref (a o)), (1, .int p2), (2, .ref (ay oy))] := hl
  generalize hHe : s.heap = H at hP
  have hS : va_S A s.heap H [] := by rw [← hHe]; exact hS
  generalize ([] : List Loc) = locs at hS ⊢
  unfold f_L_centsToKeyByNotes at hF
  refine lv_aload_n hx hb dL_centsToKeyByNotes_0 rfl (lv_at hl 2 rfl) ?_
  refine lv_iconst (v := 0) hx hb dL_centsToKeyByNotes_1 (by decide) ?_
  refine lv_aload_n hx hb dL_centsToKeyByNotes_2 rfl (lv_at hl 0 rfl) ?_
  refine lv_iload_n hx hb dL_centsToKeyByNotes_3 rfl (lv_at hl 1 rfl) ?_
  obtain ⟨q1, hq1, hF⟩ := q_bdi hF
  refine cx_i (ro := q1) (Lc := [w_VBR a o x.2.2.2.1 x.2.2.2.2.1 x.2.2.2.2.2, w_ValleyR a (o + 1), w_Key E a (o + 2) x.1.1.1, w_Bells E a (o + 3) x.1.1.2.1, w_Mel E a (o + 6) x.1.1.2.2.1, w_Cliffs E a (o + 10) x.1.1.2.2.2, w_ValleyR a (o + 13), w_Key E a (o + 14) x.1.2.1.1, w_Bells E a (o + 15) x.1.2.1.2.1, w_Mel E a (o + 18) x.1.2.1.2.2.1, w_Cliffs E a (o + 22) x.1.2.1.2.2.2, w_Prog E a (o + 25) x.1.2.2.2.1, w_Chord E a (o + 31) x.1.2.2.2.2, w_Key E a (o + 34) x.2.1, w_Line E a (o + 35) x.2.2.1, w_Hist E a (o + 37) x.1.2.2.1]) (Lc' := [w_VBR a o x.2.2.2.1 x.2.2.2.2.1 x.2.2.2.2.2, w_ValleyR a (o + 1), w_Key E a (o + 2) x.1.1.1, w_Bells E a (o + 3) x.1.1.2.1, w_Mel E a (o + 6) x.1.1.2.2.1, w_Cliffs E a (o + 10) x.1.1.2.2.2, w_ValleyR a (o + 13), w_Key E a (o + 14) x.1.2.1.1, w_Bells E a (o + 15) x.1.2.1.2.1, w_Mel E a (o + 18) x.1.2.1.2.2.1, w_Cliffs E a (o + 22) x.1.2.1.2.2.2, w_Prog E a (o + 25) x.1.2.2.2.1, w_Chord E a (o + 31) x.1.2.2.2.2, w_Key E a (o + 34) x.2.1, w_Line E a (o + 35) x.2.2.1, w_Hist E a (o + 37) x.1.2.2.1]) (L' := [w_VBR a o x.2.2.2.1 x.2.2.2.2.1 x.2.2.2.2.2, w_ValleyR a (o + 1), w_Key E a (o + 2) x.1.1.1, w_Bells E a (o + 3) x.1.1.2.1, w_Mel E a (o + 6) x.1.1.2.2.1, w_Cliffs E a (o + 10) x.1.1.2.2.2, w_ValleyR a (o + 13), w_Key E a (o + 14) x.1.2.1.1, w_Bells E a (o + 15) x.1.2.1.2.1, w_Mel E a (o + 18) x.1.2.1.2.2.1, w_Cliffs E a (o + 22) x.1.2.1.2.2.2, w_Prog E a (o + 25) x.1.2.2.2.1, w_Chord E a (o + 31) x.1.2.2.2.2, w_Key E a (o + 34) x.2.1, w_Line E a (o + 35) x.2.2.1, w_Hist E a (o + 37) x.1.2.2.1, w_LongArr E ay oy y]) (vx_runV (As := [.int p2]) (rest := [.int 0, .ref (ay oy)]) ⟨hx, hb, hml, hown, ha⟩ (k_X10_centsToKeyByNotes l E a o x p2 q1 hq1 H.size hlt) (cwV 1 ha (gi_V (fun _ h => h) mw1261 mw1262 mw1263 mw74 mw1264) rfl rfl rfl hv_X10_centsToKeyByNotes ⟨(Nat.le_of_ble_eq_true rfl), (Nat.le_of_ble_eq_true rfl)⟩) ⟨pre_blind, va_recv hst.k (fr_P hP [0, 1, 2, 3, 4, 5, 6, 7, 8, 9, 10, 11, 12, 13, 14, 15] rfl) (ci := 12) (q0 := 0) rfl rfl, pre_at hP hD hS hz hzs hst [0, 1, 2, 3, 4, 5, 6, 7, 8, 9, 10, 11, 12, 13, 14, 15] (by decide) rfl rfl⟩ rfl rfl hl.1 rfl (lv_room (Nat.le_of_ble_eq_true rfl)) dL_centsToKeyByNotes_4 ⟨(Nat.le_of_ble_eq_true rfl), (Nat.le_of_ble_eq_true rfl)⟩) hP hD hS hA [0, 1, 2, 3, 4, 5, 6, 7, 8, 9, 10, 11, 12, 13, 14, 15] (by decide) rfl rfl rfl rfl (fun X ce q9 H locs eX h1 h2 h3 hP hD hS => ?_) (fun r2 H locs er2 hP hD hS => ?_)
  · have hF := q_smr eX hF
    by_cases w4_0 : X = "java/lang/IndexOutOfBoundsException"
    · have hF := q_brp w4_0 hF
      subst w4_0
      refine vx_catch (E := "java/lang/IndexOutOfBoundsException") (name := "java/lang/IndexOutOfBoundsException") hown [] ⟨0, 9, 12, 13⟩ [] htab (fun _ h => nomatch h) (by decide) (by decide) (ha _ mw960) (va_Nw.use rfl (hst.cs cs_IndexOutOfBoundsException)) h1 h2 h3 ?_
      refine lv_astore_n (lv' := [(3, .ref q9), (0, .ref (a o)), (1, .int p2), (2, .ref (ay oy))]) hx hb dL_centsToKeyByNotes_12 rfl hl (by decide) rfl (fun ls hl => ?_)
      refine lv_iconst (v := 1) hx hb dL_centsToKeyByNotes_13 (by decide) ?_
      obtain rfl := Option.some.inj hF
      exact en_i hQ (Nat.le_of_ble_eq_true rfl) (Nat.le_of_ble_eq_true rfl) hx hb hr hlocks hP hD hS rfl dL_centsToKeyByNotes_14
    have hF := q_brn w4_0 hF
    exact absurd hF (by simp)
  have hF := q_sml er2 hF
  refine lv_i2l hx hb dL_centsToKeyByNotes_7 rfl ?_
  refine vi_last hx hb hst.k hP hD hS 147 3 rfl rfl (f := y) (k := 0) (by decide) (by decide) dL_centsToKeyByNotes_8 (fun H locs hP hD hS => ?_)
  have hP : va_P E.1 vwCl (List.flatten [w_VBR a o x.2.2.2.1 x.2.2.2.2.1 x.2.2.2.2.2, w_ValleyR a (o + 1), w_Key E a (o + 2) x.1.1.1, w_Bells E a (o + 3) x.1.1.2.1, w_Mel E a (o + 6) x.1.1.2.2.1, w_Cliffs E a (o + 10) x.1.1.2.2.2, w_ValleyR a (o + 13), w_Key E a (o + 14) x.1.2.1.1, w_Bells E a (o + 15) x.1.2.1.2.1, w_Mel E a (o + 18) x.1.2.1.2.2.1, w_Cliffs E a (o + 22) x.1.2.1.2.2.2, w_Prog E a (o + 25) x.1.2.2.2.1, w_Chord E a (o + 31) x.1.2.2.2.2, w_Key E a (o + 34) x.2.1, w_Line E a (o + 35) x.2.2.1, w_Hist E a (o + 37) x.1.2.2.1, w_LongArr E ay oy (vp_updL y 0 (r2.toInt64))]) H := hP
  have hD : va_D A (List.flatten [w_VBR a o x.2.2.2.1 x.2.2.2.2.1 x.2.2.2.2.2, w_ValleyR a (o + 1), w_Key E a (o + 2) x.1.1.1, w_Bells E a (o + 3) x.1.1.2.1, w_Mel E a (o + 6) x.1.1.2.2.1, w_Cliffs E a (o + 10) x.1.1.2.2.2, w_ValleyR a (o + 13), w_Key E a (o + 14) x.1.2.1.1, w_Bells E a (o + 15) x.1.2.1.2.1, w_Mel E a (o + 18) x.1.2.1.2.2.1, w_Cliffs E a (o + 22) x.1.2.1.2.2.2, w_Prog E a (o + 25) x.1.2.2.2.1, w_Chord E a (o + 31) x.1.2.2.2.2, w_Key E a (o + 34) x.2.1, w_Line E a (o + 35) x.2.2.1, w_Hist E a (o + 37) x.1.2.2.1, w_LongArr E ay oy (vp_updL y 0 (r2.toInt64))]) := hD
  refine lv_goto (tgt := 15) hx hb dL_centsToKeyByNotes_9 (by decide) ?_
  refine lv_iconst (v := 0) hx hb dL_centsToKeyByNotes_15 (by decide) ?_
  obtain rfl := Option.some.inj hF
  exact en_i hQ (Nat.le_of_ble_eq_true rfl) (Nat.le_of_ble_eq_true rfl) hx hb hr hlocks hP hD hS rfl dL_centsToKeyByNotes_16

/-! L_bellAtRank -/
theorem dL_bellAtRank_0 : decode cL_bellAtRank 0 = .ok (.aload_n 2, 1) := by decide +kernel
theorem dL_bellAtRank_1 : decode cL_bellAtRank 1 = .ok (.iconst 0, 1) := by decide +kernel
theorem dL_bellAtRank_2 : decode cL_bellAtRank 2 = .ok (.aload_n 0, 1) := by decide +kernel
theorem dL_bellAtRank_3 : decode cL_bellAtRank 3 = .ok (.iload_n 1, 1) := by decide +kernel
theorem dL_bellAtRank_4 : decode cL_bellAtRank 4 = .ok (.invokevirtual 76, 3) := by decide +kernel
theorem dL_bellAtRank_7 : decode cL_bellAtRank 7 = .ok (.i2l, 1) := by decide +kernel
theorem dL_bellAtRank_8 : decode cL_bellAtRank 8 = .ok (.lastore, 1) := by decide +kernel
theorem dL_bellAtRank_9 : decode cL_bellAtRank 9 = .ok (.goto 6, 3) := by decide +kernel
theorem dL_bellAtRank_12 : decode cL_bellAtRank 12 = .ok (.astore_n 3, 1) := by decide +kernel
theorem dL_bellAtRank_13 : decode cL_bellAtRank 13 = .ok (.iconst 1, 1) := by decide +kernel
theorem dL_bellAtRank_14 : decode cL_bellAtRank 14 = .ok (.ireturn, 1) := by decide +kernel
theorem dL_bellAtRank_15 : decode cL_bellAtRank 15 = .ok (.iconst 0, 1) := by decide +kernel
theorem dL_bellAtRank_16 : decode cL_bellAtRank 16 = .ok (.ireturn, 1) := by decide +kernel
def f_L_bellAtRank (x_valley_bells_pitches : (Nat → Int32)) (x_valley_bells_count : Int32) (y_v : (Nat → Int64)) (p2 : Int32) : Option (Int32 × (Nat → Int64)) :=
  q_bd (f_X10_bellAtRank x_valley_bells_pitches x_valley_bells_count p2) (fun q1 =>
  q_sm q1 (fun X => q_br (X = "java/util/NoSuchElementException") (
  some (1, y_v)) (
  none)) (fun r2 =>
  some (0, vp_updL y_v 0 (r2.toInt64))))
theorem hv_L_bellAtRank : yL_bellAtRank.cls = RL ∧ yL_bellAtRank.cls ≠ "java/lang/invoke/MethodHandle" ∧ yL_bellAtRank.cls ≠ "java/lang/invoke/VarHandle" ∧ (parseMethodDescriptor yL_bellAtRank.desc).map (fun d => d.parameters.length) = some 3 := by decide +kernel
abbrev rm_L_bellAtRank : Room := { frames := 7, cells := 1, slots := 6, locals := 111 }
set_option maxHeartbeats 4000000 in
set_option maxRecDepth 100000 in
theorem k_L_bellAtRank (l : Launch) (E : ET) (a : Nat → Nat) (o : Nat) (x : VB_t) (ay : Nat → Nat) (oy : Nat) (y : (Nat → Int64)) (p2 : Int32) (res : Int32 × (Nat → Int64)) (hF : f_L_bellAtRank x.1.1.2.1.2.1 x.1.1.2.1.2.2 y p2 = some res) (sz : Nat) (hlt : l.stackTraces = false) : CtI l yL_bellAtRank (mwsH yL_bellAtRank cL_bellAtRank 4 (some .int) [(0, 9, 12, 79)]) rm_L_bellAtRank 1 6 [.ref (a o), .int p2, .ref (ay oy)] E (bl_VB E a o x ++ bl_LongArr E ay oy y) res.1 (bl_VB E a o x ++ bl_LongArr E ay oy res.2) sz := by
  refine mk_H (by decide +kernel) (Nat.le_of_ble_eq_true rfl) ?_
  intro p e s m below meth c A args Q ls hAe hsz hQ hx hb hr hml hin ha hown hlocks hA hz hzs hst htab hP hD hS hl
  have hown : s.vm.findClass RL = some m.cls := hown
  rw [hAe] at hQ
  subst hsz
  have hP : va_P E.1 vwCl (List.flatten [w_VBR a o x.2.2.2.1 x.2.2.2.2.1 x.2.2.2.2.2, w_ValleyR a (o + 1), w_Key E a (o + 2) x.1.1.1, w_Bells E a (o + 3) x.1.1.2.1, w_Mel E a (o + 6) x.1.1.2.2.1, w_Cliffs E a (o + 10) x.1.1.2.2.2, w_ValleyR a (o + 13), w_Key E a (o + 14) x.1.2.1.1, w_Bells E a (o + 15) x.1.2.1.2.1, w_Mel E a (o + 18) x.1.2.1.2.2.1, w_Cliffs E a (o + 22) x.1.2.1.2.2.2, w_Prog E a (o + 25) x.1.2.2.2.1, w_Chord E a (o + 31) x.1.2.2.2.2, w_Key E a (o + 34) x.2.1, w_Line E a (o + 35) x.2.2.1, w_Hist E a (o + 37) x.1.2.2.1, w_LongArr E ay oy y]) s.heap := hP
  have hD : va_D A (List.flatten [w_VBR a o x.2.2.2.1 x.2.2.2.2.1 x.2.2.2.2.2, w_ValleyR a (o + 1), w_Key E a (o + 2) x.1.1.1, w_Bells E a (o + 3) x.1.1.2.1, w_Mel E a (o + 6) x.1.1.2.2.1, w_Cliffs E a (o + 10) x.1.1.2.2.2, w_ValleyR a (o + 13), w_Key E a (o + 14) x.1.2.1.1, w_Bells E a (o + 15) x.1.2.1.2.1, w_Mel E a (o + 18) x.1.2.1.2.2.1, w_Cliffs E a (o + 22) x.1.2.1.2.2.2, w_Prog E a (o + 25) x.1.2.2.2.1, w_Chord E a (o + 31) x.1.2.2.2.2, w_Key E a (o + 34) x.2.1, w_Line E a (o + 35) x.2.2.1, w_Hist E a (o + 37) x.1.2.2.1, w_LongArr E ay oy y]) := hD
  have hl : lv_has ls 4 [(0, .ref (a o)), (1, .int p2), (2, .ref (ay oy))] := hl
  generalize hHe : s.heap = H at hP
  have hS : va_S A s.heap H [] := by rw [← hHe]; exact hS
  generalize ([] : List Loc) = locs at hS ⊢
  unfold f_L_bellAtRank at hF
  refine lv_aload_n hx hb dL_bellAtRank_0 rfl (lv_at hl 2 rfl) ?_
  refine lv_iconst (v := 0) hx hb dL_bellAtRank_1 (by decide) ?_
  refine lv_aload_n hx hb dL_bellAtRank_2 rfl (lv_at hl 0 rfl) ?_
  refine lv_iload_n hx hb dL_bellAtRank_3 rfl (lv_at hl 1 rfl) ?_
  obtain ⟨q1, hq1, hF⟩ := q_bdi hF
  refine cx_i (ro := q1) (Lc := [w_VBR a o x.2.2.2.1 x.2.2.2.2.1 x.2.2.2.2.2, w_ValleyR a (o + 1), w_Key E a (o + 2) x.1.1.1, w_Bells E a (o + 3) x.1.1.2.1, w_Mel E a (o + 6) x.1.1.2.2.1, w_Cliffs E a (o + 10) x.1.1.2.2.2, w_ValleyR a (o + 13), w_Key E a (o + 14) x.1.2.1.1, w_Bells E a (o + 15) x.1.2.1.2.1, w_Mel E a (o + 18) x.1.2.1.2.2.1, w_Cliffs E a (o + 22) x.1.2.1.2.2.2, w_Prog E a (o + 25) x.1.2.2.2.1, w_Chord E a (o + 31) x.1.2.2.2.2, w_Key E a (o + 34) x.2.1, w_Line E a (o + 35) x.2.2.1, w_Hist E a (o + 37) x.1.2.2.1]) (Lc' := [w_VBR a o x.2.2.2.1 x.2.2.2.2.1 x.2.2.2.2.2, w_ValleyR a (o + 1), w_Key E a (o + 2) x.1.1.1, w_Bells E a (o + 3) x.1.1.2.1, w_Mel E a (o + 6) x.1.1.2.2.1, w_Cliffs E a (o + 10) x.1.1.2.2.2, w_ValleyR a (o + 13), w_Key E a (o + 14) x.1.2.1.1, w_Bells E a (o + 15) x.1.2.1.2.1, w_Mel E a (o + 18) x.1.2.1.2.2.1, w_Cliffs E a (o + 22) x.1.2.1.2.2.2, w_Prog E a (o + 25) x.1.2.2.2.1, w_Chord E a (o + 31) x.1.2.2.2.2, w_Key E a (o + 34) x.2.1, w_Line E a (o + 35) x.2.2.1, w_Hist E a (o + 37) x.1.2.2.1]) (L' := [w_VBR a o x.2.2.2.1 x.2.2.2.2.1 x.2.2.2.2.2, w_ValleyR a (o + 1), w_Key E a (o + 2) x.1.1.1, w_Bells E a (o + 3) x.1.1.2.1, w_Mel E a (o + 6) x.1.1.2.2.1, w_Cliffs E a (o + 10) x.1.1.2.2.2, w_ValleyR a (o + 13), w_Key E a (o + 14) x.1.2.1.1, w_Bells E a (o + 15) x.1.2.1.2.1, w_Mel E a (o + 18) x.1.2.1.2.2.1, w_Cliffs E a (o + 22) x.1.2.1.2.2.2, w_Prog E a (o + 25) x.1.2.2.2.1, w_Chord E a (o + 31) x.1.2.2.2.2, w_Key E a (o + 34) x.2.1, w_Line E a (o + 35) x.2.2.1, w_Hist E a (o + 37) x.1.2.2.1, w_LongArr E ay oy y]) (vx_runV (As := [.int p2]) (rest := [.int 0, .ref (ay oy)]) ⟨hx, hb, hml, hown, ha⟩ (k_X10_bellAtRank l E a o x p2 q1 hq1 H.size hlt) (cwV 1 ha (gi_V (fun _ h => h) mw1269 mw1270 mw1271 mw74 mw1272) rfl rfl rfl hv_X10_bellAtRank ⟨(Nat.le_of_ble_eq_true rfl), (Nat.le_of_ble_eq_true rfl)⟩) ⟨pre_blind, va_recv hst.k (fr_P hP [0, 1, 2, 3, 4, 5, 6, 7, 8, 9, 10, 11, 12, 13, 14, 15] rfl) (ci := 12) (q0 := 0) rfl rfl, pre_at hP hD hS hz hzs hst [0, 1, 2, 3, 4, 5, 6, 7, 8, 9, 10, 11, 12, 13, 14, 15] (by decide) rfl rfl⟩ rfl rfl hl.1 rfl (lv_room (Nat.le_of_ble_eq_true rfl)) dL_bellAtRank_4 ⟨(Nat.le_of_ble_eq_true rfl), (Nat.le_of_ble_eq_true rfl)⟩) hP hD hS hA [0, 1, 2, 3, 4, 5, 6, 7, 8, 9, 10, 11, 12, 13, 14, 15] (by decide) rfl rfl rfl rfl (fun X ce q9 H locs eX h1 h2 h3 hP hD hS => ?_) (fun r2 H locs er2 hP hD hS => ?_)
  · have hF := q_smr eX hF
    by_cases w4_0 : X = "java/util/NoSuchElementException"
    · have hF := q_brp w4_0 hF
      subst w4_0
      refine vx_catch (E := "java/util/NoSuchElementException") (name := "java/util/NoSuchElementException") hown [] ⟨0, 9, 12, 79⟩ [] htab (fun _ h => nomatch h) (by decide) (by decide) (ha _ mw1268) (va_Nw.use rfl (hst.cs cs_NoSuchElementException)) h1 h2 h3 ?_
      refine lv_astore_n (lv' := [(3, .ref q9), (0, .ref (a o)), (1, .int p2), (2, .ref (ay oy))]) hx hb dL_bellAtRank_12 rfl hl (by decide) rfl (fun ls hl => ?_)
      refine lv_iconst (v := 1) hx hb dL_bellAtRank_13 (by decide) ?_
      obtain rfl := Option.some.inj hF
      exact en_i hQ (Nat.le_of_ble_eq_true rfl) (Nat.le_of_ble_eq_true rfl) hx hb hr hlocks hP hD hS rfl dL_bellAtRank_14
    have hF := q_brn w4_0 hF
    exact absurd hF (by simp)
  have hF := q_sml er2 hF
  refine lv_i2l hx hb dL_bellAtRank_7 rfl ?_
  refine vi_last hx hb hst.k hP hD hS 147 3 rfl rfl (f := y) (k := 0) (by decide) (by decide) dL_bellAtRank_8 (fun H locs hP hD hS => ?_)
  have hP : va_P E.1 vwCl (List.flatten [w_VBR a o x.2.2.2.1 x.2.2.2.2.1 x.2.2.2.2.2, w_ValleyR a (o + 1), w_Key E a (o + 2) x.1.1.1, w_Bells E a (o + 3) x.1.1.2.1, w_Mel E a (o + 6) x.1.1.2.2.1, w_Cliffs E a (o + 10) x.1.1.2.2.2, w_ValleyR a (o + 13), w_Key E a (o + 14) x.1.2.1.1, w_Bells E a (o + 15) x.1.2.1.2.1, w_Mel E a (o + 18) x.1.2.1.2.2.1, w_Cliffs E a (o + 22) x.1.2.1.2.2.2, w_Prog E a (o + 25) x.1.2.2.2.1, w_Chord E a (o + 31) x.1.2.2.2.2, w_Key E a (o + 34) x.2.1, w_Line E a (o + 35) x.2.2.1, w_Hist E a (o + 37) x.1.2.2.1, w_LongArr E ay oy (vp_updL y 0 (r2.toInt64))]) H := hP
  have hD : va_D A (List.flatten [w_VBR a o x.2.2.2.1 x.2.2.2.2.1 x.2.2.2.2.2, w_ValleyR a (o + 1), w_Key E a (o + 2) x.1.1.1, w_Bells E a (o + 3) x.1.1.2.1, w_Mel E a (o + 6) x.1.1.2.2.1, w_Cliffs E a (o + 10) x.1.1.2.2.2, w_ValleyR a (o + 13), w_Key E a (o + 14) x.1.2.1.1, w_Bells E a (o + 15) x.1.2.1.2.1, w_Mel E a (o + 18) x.1.2.1.2.2.1, w_Cliffs E a (o + 22) x.1.2.1.2.2.2, w_Prog E a (o + 25) x.1.2.2.2.1, w_Chord E a (o + 31) x.1.2.2.2.2, w_Key E a (o + 34) x.2.1, w_Line E a (o + 35) x.2.2.1, w_Hist E a (o + 37) x.1.2.2.1, w_LongArr E ay oy (vp_updL y 0 (r2.toInt64))]) := hD
  refine lv_goto (tgt := 15) hx hb dL_bellAtRank_9 (by decide) ?_
  refine lv_iconst (v := 0) hx hb dL_bellAtRank_15 (by decide) ?_
  obtain rfl := Option.some.inj hF
  exact en_i hQ (Nat.le_of_ble_eq_true rfl) (Nat.le_of_ble_eq_true rfl) hx hb hr hlocks hP hD hS rfl dL_bellAtRank_16
