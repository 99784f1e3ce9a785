/-! L_meanDeviation -/
theorem dL_meanDeviation_0 : decode cL_meanDeviation 0 = .ok (.aload_n 1, 1) := by decide +kernel
theorem dL_meanDeviation_1 : decode cL_meanDeviation 1 = .ok (.iconst 0, 1) := by decide +kernel
theorem dL_meanDeviation_2 : decode cL_meanDeviation 2 = .ok (.aload_n 0, 1) := by decide +kernel
theorem dL_meanDeviation_3 : decode cL_meanDeviation 3 = .ok (.invokevirtual 81, 3) := by decide +kernel
theorem dL_meanDeviation_6 : decode cL_meanDeviation 6 = .ok (.dastore, 1) := by decide +kernel
theorem dL_meanDeviation_7 : decode cL_meanDeviation 7 = .ok (.goto 6, 3) := by decide +kernel
theorem dL_meanDeviation_10 : decode cL_meanDeviation 10 = .ok (.astore_n 2, 1) := by decide +kernel
theorem dL_meanDeviation_11 : decode cL_meanDeviation 11 = .ok (.iconst 1, 1) := by decide +kernel
theorem dL_meanDeviation_12 : decode cL_meanDeviation 12 = .ok (.ireturn, 1) := by decide +kernel
theorem dL_meanDeviation_13 : decode cL_meanDeviation 13 = .ok (.iconst 0, 1) := by decide +kernel
theorem dL_meanDeviation_14 : decode cL_meanDeviation 14 = .ok (.ireturn, 1) := by decide +kernel
def f_L_meanDeviation (x_valley_bells_pitches : (Nat → Int32)) (x_valley_bells_count : Int32) (y_v : (Nat → UInt64)) : Option (Int32 × (Nat → UInt64)) :=
  q_bd (f_X10_meanDeviation x_valley_bells_pitches x_valley_bells_count) (fun q1 =>
  q_sm q1 (fun X => q_br (X = "java/lang/ArithmeticException") (
  some (1, y_v)) (
  none)) (fun r2 =>
  some (0, vf_upd y_v 0 r2)))
theorem hv_L_meanDeviation : yL_meanDeviation.cls = RL ∧ yL_meanDeviation.cls ≠ "java/lang/invoke/MethodHandle" ∧ yL_meanDeviation.cls ≠ "java/lang/invoke/VarHandle" ∧ (parseMethodDescriptor yL_meanDeviation.desc).map (fun d => d.parameters.length) = some 2 := by decide +kernel
abbrev rm_L_meanDeviation : Room := { frames := 8, cells := 1, slots := 6, locals := 125 }
set_option maxHeartbeats 4000000 in
set_option maxRecDepth 100000 in
theorem k_L_meanDeviation (l : Launch) (E : ET) (a : Nat → Nat) (o : Nat) (x : VB_t) (ay : Nat → Nat) (oy : Nat) (y : (Nat → UInt64)) (res : Int32 × (Nat → UInt64)) (hF : f_L_meanDeviation x.1.1.2.1.2.1 x.1.1.2.1.2.2 y = some res) (sz : Nat) (hlt : l.stackTraces = false) : CtI l yL_meanDeviation (mwsH yL_meanDeviation cL_meanDeviation 3 (some .int) [(0, 7, 10, 85)]) rm_L_meanDeviation 1 6 [.ref (a o), .ref (ay oy)] E (bl_VB E a o x ++ bl_DblArr E ay oy y) res.1 (bl_VB E a o x ++ bl_DblArr E ay oy res.2) sz := by
  refine mk_H (by decide +kernel) (Nat.le_of_ble_eq_true rfl) ?_
  intro p e s m below meth c A args Q ls hAe hsz hQ hx hb hr hml hin ha hown hlocks hA hz hzs hst htab hP hD hS hl
  have hown : s.vm.findClass RL = some m.cls := hown
  rw [hAe] at hQ
  subst hsz
  have hP : va_P E.1 vwCl (List.flatten [w_VBR a o x.2.2.2.1 x.2.2.2.2.1 x.2.2.2.2.2, w_ValleyR a (o + 1), w_Key E a (o + 2) x.1.1.1, w_Bells E a (o + 3) x.1.1.2.1, w_Mel E a (o + 6) x.1.1.2.2.1, w_Cliffs E a (o + 10) x.1.1.2.2.2, w_ValleyR a (o + 13), w_Key E a (o + 14) x.1.2.1.1, w_Bells E a (o + 15) x.1.2.1.2.1, w_Mel E a (o + 18) x.1.2.1.2.2.1, w_Cliffs E a (o + 22) x.1.2.1.2.2.2, w_Prog E a (o + 25) x.1.2.2.2.1, w_Chord E a (o + 31) x.1.2.2.2.2, w_Key E a (o + 34) x.2.1, w_Line E a (o + 35) x.2.2.1, w_Hist E a (o + 37) x.1.2.2.1, w_DblArr E ay oy y]) s.heap := hP
  have hD : va_D A (List.flatten [w_VBR a o x.2.2.2.1 x.2.2.2.2.1 x.2.2.2.2.2, w_ValleyR a (o + 1), w_Key E a (o + 2) x.1.1.1, w_Bells E a (o + 3) x.1.1.2.1, w_Mel E a (o + 6) x.1.1.2.2.1, w_Cliffs E a (o + 10) x.1.1.2.2.2, w_ValleyR a (o + 13), w_Key E a (o + 14) x.1.2.1.1, w_Bells E a (o + 15) x.1.2.1.2.1, w_Mel E a (o + 18) x.1.2.1.2.2.1, w_Cliffs E a (o + 22) x.1.2.1.2.2.2, w_Prog E a (o + 25) x.1.2.2.2.1, w_Chord E a (o + 31) x.1.2.2.2.2, w_Key E a (o + 34) x.2.1, w_Line E a (o + 35) x.2.2.1, w_Hist E a (o + 37) x.1.2.2.1, w_DblArr E ay oy y]) := hD
  have hl : lv_has ls 3 [(0, .ref (a o)), (1, .ref (ay oy))] := hl
  generalize hHe : s.heap = H at hP
  have hS : va_S A s.heap H [] := by rw [← hHe]; exact hS
  generalize ([] : List Loc) = locs at hS ⊢
  unfold f_L_meanDeviation at hF
  refine lv_aload_n hx hb dL_meanDeviation_0 rfl (lv_at hl 1 rfl) ?_
  refine lv_iconst (v := 0) hx hb dL_meanDeviation_1 (by decide) ?_
  refine lv_aload_n hx hb dL_meanDeviation_2 rfl (lv_at hl 0 rfl) ?_
  obtain ⟨q1, hq1, hF⟩ := q_bdi hF
  refine cx_d (ro := q1) (Lc := [w_VBR a o x.2.2.2.1 x.2.2.2.2.1 x.2.2.2.2.2, w_ValleyR a (o + 1), w_Key E a (o + 2) x.1.1.1, w_Bells E a (o + 3) x.1.1.2.1, w_Mel E a (o + 6) x.1.1.2.2.1, w_Cliffs E a (o + 10) x.1.1.2.2.2, w_ValleyR a (o + 13), w_Key E a (o + 14) x.1.2.1.1, w_Bells E a (o + 15) x.1.2.1.2.1, w_Mel E a (o + 18) x.1.2.1.2.2.1, w_Cliffs E a (o + 22) x.1.2.1.2.2.2, w_Prog E a (o + 25) x.1.2.2.2.1, w_Chord E a (o + 31) x.1.2.2.2.2, w_Key E a (o + 34) x.2.1, w_Line E a (o + 35) x.2.2.1, w_Hist E a (o + 37) x.1.2.2.1]) (Lc' := [w_VBR a o x.2.2.2.1 x.2.2.2.2.1 x.2.2.2.2.2, w_ValleyR a (o + 1), w_Key E a (o + 2) x.1.1.1, w_Bells E a (o + 3) x.1.1.2.1, w_Mel E a (o + 6) x.1.1.2.2.1, w_Cliffs E a (o + 10) x.1.1.2.2.2, w_ValleyR a (o + 13), w_Key E a (o + 14) x.1.2.1.1, w_Bells E a (o + 15) x.1.2.1.2.1, w_Mel E a (o + 18) x.1.2.1.2.2.1, w_Cliffs E a (o + 22) x.1.2.1.2.2.2, w_Prog E a (o + 25) x.1.2.2.2.1, w_Chord E a (o + 31) x.1.2.2.2.2, w_Key E a (o + 34) x.2.1, w_Line E a (o + 35) x.2.2.1, w_Hist E a (o + 37) x.1.2.2.1]) (L' := [w_VBR a o x.2.2.2.1 x.2.2.2.2.1 x.2.2.2.2.2, w_ValleyR a (o + 1), w_Key E a (o + 2) x.1.1.1, w_Bells E a (o + 3) x.1.1.2.1, w_Mel E a (o + 6) x.1.1.2.2.1, w_Cliffs E a (o + 10) x.1.1.2.2.2, w_ValleyR a (o + 13), w_Key E a (o + 14) x.1.2.1.1, w_Bells E a (o + 15) x.1.2.1.2.1, w_Mel E a (o + 18) x.1.2.1.2.2.1, w_Cliffs E a (o + 22) x.1.2.1.2.2.2, w_Prog E a (o + 25) x.1.2.2.2.1, w_Chord E a (o + 31) x.1.2.2.2.2, w_Key E a (o + 34) x.2.1, w_Line E a (o + 35) x.2.2.1, w_Hist E a (o + 37) x.1.2.2.1, w_DblArr E ay oy y]) (vx_runV (As := []) (rest := [.int 0, .ref (ay oy)]) ⟨hx, hb, hml, hown, ha⟩ (k_X10_meanDeviation l E a o x q1 hq1 H.size hlt) (cwV 0 ha (gi_V (fun _ h => h) mw1314 mw1315 mw1316 mw74 mw1317) rfl rfl rfl hv_X10_meanDeviation ⟨(Nat.le_of_ble_eq_true rfl), (Nat.le_of_ble_eq_true rfl)⟩) ⟨pre_blind, va_recv hst.k (fr_P hP [0, 1, 2, 3, 4, 5, 6, 7, 8, 9, 10, 11, 12, 13, 14, 15] rfl) (ci := 12) (q0 := 0) rfl rfl, pre_at hP hD hS hz hzs hst [0, 1, 2, 3, 4, 5, 6, 7, 8, 9, 10, 11, 12, 13, 14, 15] (by decide) rfl rfl⟩ rfl rfl hl.1 rfl (lv_room (Nat.le_of_ble_eq_true rfl)) dL_meanDeviation_3 ⟨(Nat.le_of_ble_eq_true rfl), (Nat.le_of_ble_eq_true rfl)⟩) hP hD hS hA [0, 1, 2, 3, 4, 5, 6, 7, 8, 9, 10, 11, 12, 13, 14, 15] (by decide) rfl rfl rfl rfl (fun X ce q9 H locs eX h1 h2 h3 hP hD hS => ?_) (fun r2 H locs er2 hP hD hS => ?_)
  · have hF := q_smr eX hF
    by_cases w3_0 : X = "java/lang/ArithmeticException"
    · have hF := q_brp w3_0 hF
      subst w3_0
      refine vx_catch (E := "java/lang/ArithmeticException") (name := "java/lang/ArithmeticException") hown [] ⟨0, 7, 10, 85⟩ [] htab (fun _ h => nomatch h) (by decide) (by decide) (ha _ mw1300) (va_Nw.use rfl (hst.cs cs_ArithmeticException)) h1 h2 h3 ?_
      refine lv_astore_n (lv' := [(2, .ref q9), (0, .ref (a o)), (1, .ref (ay oy))]) hx hb dL_meanDeviation_10 rfl hl (by decide) rfl (fun ls hl => ?_)
      refine lv_iconst (v := 1) hx hb dL_meanDeviation_11 (by decide) ?_
      obtain rfl := Option.some.inj hF
      exact en_i hQ (Nat.le_of_ble_eq_true rfl) (Nat.le_of_ble_eq_true rfl) hx hb hr hlocks hP hD hS rfl dL_meanDeviation_12
    have hF := q_brn w3_0 hF
    exact absurd hF (by simp)
  have hF := q_sml er2 hF
  refine vi_dast hx hb hst.k hP hD hS 147 4 rfl rfl (f := y) (k := 0) (by decide) (by decide) dL_meanDeviation_6 (fun H locs hP hD hS => ?_)
  have hP : va_P E.1 vwCl (List.flatten [w_VBR a o x.2.2.2.1 x.2.2.2.2.1 x.2.2.2.2.2, w_ValleyR a (o + 1), w_Key E a (o + 2) x.1.1.1, w_Bells E a (o + 3) x.1.1.2.1, w_Mel E a (o + 6) x.1.1.2.2.1, w_Cliffs E a (o + 10) x.1.1.2.2.2, w_ValleyR a (o + 13), w_Key E a (o + 14) x.1.2.1.1, w_Bells E a (o + 15) x.1.2.1.2.1, w_Mel E a (o + 18) x.1.2.1.2.2.1, w_Cliffs E a (o + 22) x.1.2.1.2.2.2, w_Prog E a (o + 25) x.1.2.2.2.1, w_Chord E a (o + 31) x.1.2.2.2.2, w_Key E a (o + 34) x.2.1, w_Line E a (o + 35) x.2.2.1, w_Hist E a (o + 37) x.1.2.2.1, w_DblArr E ay oy (vf_upd y 0 r2)]) H := hP
  have hD : va_D A (List.flatten [w_VBR a o x.2.2.2.1 x.2.2.2.2.1 x.2.2.2.2.2, w_ValleyR a (o + 1), w_Key E a (o + 2) x.1.1.1, w_Bells E a (o + 3) x.1.1.2.1, w_Mel E a (o + 6) x.1.1.2.2.1, w_Cliffs E a (o + 10) x.1.1.2.2.2, w_ValleyR a (o + 13), w_Key E a (o + 14) x.1.2.1.1, w_Bells E a (o + 15) x.1.2.1.2.1, w_Mel E a (o + 18) x.1.2.1.2.2.1, w_Cliffs E a (o + 22) x.1.2.1.2.2.2, w_Prog E a (o + 25) x.1.2.2.2.1, w_Chord E a (o + 31) x.1.2.2.2.2, w_Key E a (o + 34) x.2.1, w_Line E a (o + 35) x.2.2.1, w_Hist E a (o + 37) x.1.2.2.1, w_DblArr E ay oy (vf_upd y 0 r2)]) := hD
  refine lv_goto (tgt := 13) hx hb dL_meanDeviation_7 (by decide) ?_
  refine lv_iconst (v := 0) hx hb dL_meanDeviation_13 (by decide) ?_
  obtain rfl := Option.some.inj hF
  exact en_i hQ (Nat.le_of_ble_eq_true rfl) (Nat.le_of_ble_eq_true rfl) hx hb hr hlocks hP hD hS rfl dL_meanDeviation_14

/-! L_inKeyShare -/
theorem dL_inKeyShare_0 : decode cL_inKeyShare 0 = .ok (.aload_n 1, 1) := by decide +kernel
theorem dL_inKeyShare_1 : decode cL_inKeyShare 1 = .ok (.iconst 0, 1) := by decide +kernel
theorem dL_inKeyShare_2 : decode cL_inKeyShare 2 = .ok (.aload_n 0, 1) := by decide +kernel
theorem dL_inKeyShare_3 : decode cL_inKeyShare 3 = .ok (.invokevirtual 87, 3) := by decide +kernel
theorem dL_inKeyShare_6 : decode cL_inKeyShare 6 = .ok (.f2d, 1) := by decide +kernel
theorem dL_inKeyShare_7 : decode cL_inKeyShare 7 = .ok (.dastore, 1) := by decide +kernel
theorem dL_inKeyShare_8 : decode cL_inKeyShare 8 = .ok (.goto 6, 3) := by decide +kernel
theorem dL_inKeyShare_11 : decode cL_inKeyShare 11 = .ok (.astore_n 2, 1) := by decide +kernel
theorem dL_inKeyShare_12 : decode cL_inKeyShare 12 = .ok (.iconst 1, 1) := by decide +kernel
theorem dL_inKeyShare_13 : decode cL_inKeyShare 13 = .ok (.ireturn, 1) := by decide +kernel
theorem dL_inKeyShare_14 : decode cL_inKeyShare 14 = .ok (.iconst 0, 1) := by decide +kernel
theorem dL_inKeyShare_15 : decode cL_inKeyShare 15 = .ok (.ireturn, 1) := by decide +kernel
def f_L_inKeyShare (x_valley_key_tonic : Int32) (x_valley_key_isMinor : Int32) (x_valley_key_tolerance : Int32) (x_valley_bells_pitches : (Nat → Int32)) (x_valley_bells_count : Int32) (y_v : (Nat → UInt64)) : Option (Int32 × (Nat → UInt64)) :=
  q_bd (f_X10_inKeyShare x_valley_key_tonic x_valley_key_isMinor x_valley_key_tolerance x_valley_bells_pitches x_valley_bells_count) (fun q1 =>
  q_sm q1 (fun X => q_br (X = "java/lang/ArithmeticException") (
  some (1, y_v)) (
  none)) (fun r2 =>
  q_gd ((FP.f2d r2) &&& 0x7fffffffffffffff ≤ 0x7ff0000000000000) (
  some (0, vf_upd y_v 0 (FP.f2d r2)))))
theorem hv_L_inKeyShare : yL_inKeyShare.cls = RL ∧ yL_inKeyShare.cls ≠ "java/lang/invoke/MethodHandle" ∧ yL_inKeyShare.cls ≠ "java/lang/invoke/VarHandle" ∧ (parseMethodDescriptor yL_inKeyShare.desc).map (fun d => d.parameters.length) = some 2 := by decide +kernel
abbrev rm_L_inKeyShare : Room := { frames := 8, cells := 1, slots := 6, locals := 128 }
set_option maxHeartbeats 4000000 in
set_option maxRecDepth 100000 in
theorem k_L_inKeyShare (l : Launch) (E : ET) (a : Nat → Nat) (o : Nat) (x : VB_t) (ay : Nat → Nat) (oy : Nat) (y : (Nat → UInt64)) (res : Int32 × (Nat → UInt64)) (hF : f_L_inKeyShare x.1.1.1.1 x.1.1.1.2.1 x.1.1.1.2.2 x.1.1.2.1.2.1 x.1.1.2.1.2.2 y = some res) (sz : Nat) (hlt : l.stackTraces = false) : CtI l yL_inKeyShare (mwsH yL_inKeyShare cL_inKeyShare 3 (some .int) [(0, 8, 11, 85)]) rm_L_inKeyShare 1 6 [.ref (a o), .ref (ay oy)] E (bl_VB E a o x ++ bl_DblArr E ay oy y) res.1 (bl_VB E a o x ++ bl_DblArr E ay oy res.2) sz := by
  refine mk_H (by decide +kernel) (Nat.le_of_ble_eq_true rfl) ?_
  intro p e s m below meth c A args Q ls hAe hsz hQ hx hb hr hml hin ha hown hlocks hA hz hzs hst htab hP hD hS hl
  have hown : s.vm.findClass RL = some m.cls := hown
  rw [hAe] at hQ
  subst hsz
  have hP : va_P E.1 vwCl (List.flatten [w_VBR a o x.2.2.2.1 x.2.2.2.2.1 x.2.2.2.2.2, w_ValleyR a (o + 1), w_Key E a (o + 2) x.1.1.1, w_Bells E a (o + 3) x.1.1.2.1, w_Mel E a (o + 6) x.1.1.2.2.1, w_Cliffs E a (o + 10) x.1.1.2.2.2, w_ValleyR a (o + 13), w_Key E a (o + 14) x.1.2.1.1, w_Bells E a (o + 15) x.1.2.1.2.1, w_Mel E a (o + 18) x.1.2.1.2.2.1, w_Cliffs E a (o + 22) x.1.2.1.2.2.2, w_Prog E a (o + 25) x.1.2.2.2.1, w_Chord E a (o + 31) x.1.2.2.2.2, w_Key E a (o + 34) x.2.1, w_Line E a (o + 35) x.2.2.1, w_Hist E a (o + 37) x.1.2.2.1, w_DblArr E ay oy y]) s.heap := hP
  have hD : va_D A (List.flatten [w_VBR a o x.2.2.2.1 x.2.2.2.2.1 x.2.2.2.2.2, w_ValleyR a (o + 1), w_Key E a (o + 2) x.1.1.1, w_Bells E a (o + 3) x.1.1.2.1, w_Mel E a (o + 6) x.1.1.2.2.1, w_Cliffs E a (o + 10) x.1.1.2.2.2, w_ValleyR a (o + 13), w_Key E a (o + 14) x.1.2.1.1, w_Bells E a (o + 15) x.1.2.1.2.1, w_Mel E a (o + 18) x.1.2.1.2.2.1, w_Cliffs E a (o + 22) x.1.2.1.2.2.2, w_Prog E a (o + 25) x.1.2.2.2.1, w_Chord E a (o + 31) x.1.2.2.2.2, w_Key E a (o + 34) x.2.1, w_Line E a (o + 35) x.2.2.1, w_Hist E a (o + 37) x.1.2.2.1, w_DblArr E ay oy y]) := hD
  have hl : lv_has ls 3 [(0, .ref (a o)), (1, .ref (ay oy))] := hl
  generalize hHe : s.heap = H at hP
  have hS : va_S A s.heap H [] := by rw [← hHe]; exact hS
  generalize ([] : List Loc) = locs at hS ⊢
  unfold f_L_inKeyShare at hF
  refine lv_aload_n hx hb dL_inKeyShare_0 rfl (lv_at hl 1 rfl) ?_
  refine lv_iconst (v := 0) hx hb dL_inKeyShare_1 (by decide) ?_
  refine lv_aload_n hx hb dL_inKeyShare_2 rfl (lv_at hl 0 rfl) ?_
  obtain ⟨q1, hq1, hF⟩ := q_bdi hF
  refine cx_f (ro := q1) (Lc := [w_VBR a o x.2.2.2.1 x.2.2.2.2.1 x.2.2.2.2.2, w_ValleyR a (o + 1), w_Key E a (o + 2) x.1.1.1, w_Bells E a (o + 3) x.1.1.2.1, w_Mel E a (o + 6) x.1.1.2.2.1, w_Cliffs E a (o + 10) x.1.1.2.2.2, w_ValleyR a (o + 13), w_Key E a (o + 14) x.1.2.1.1, w_Bells E a (o + 15) x.1.2.1.2.1, w_Mel E a (o + 18) x.1.2.1.2.2.1, w_Cliffs E a (o + 22) x.1.2.1.2.2.2, w_Prog E a (o + 25) x.1.2.2.2.1, w_Chord E a (o + 31) x.1.2.2.2.2, w_Key E a (o + 34) x.2.1, w_Line E a (o + 35) x.2.2.1, w_Hist E a (o + 37) x.1.2.2.1]) (Lc' := [w_VBR a o x.2.2.2.1 x.2.2.2.2.1 x.2.2.2.2.2, w_ValleyR a (o + 1), w_Key E a (o + 2) x.1.1.1, w_Bells E a (o + 3) x.1.1.2.1, w_Mel E a (o + 6) x.1.1.2.2.1, w_Cliffs E a (o + 10) x.1.1.2.2.2, w_ValleyR a (o + 13), w_Key E a (o + 14) x.1.2.1.1, w_Bells E a (o + 15) x.1.2.1.2.1, w_Mel E a (o + 18) x.1.2.1.2.2.1, w_Cliffs E a (o + 22) x.1.2.1.2.2.2, w_Prog E a (o + 25) x.1.2.2.2.1, w_Chord E a (o + 31) x.1.2.2.2.2, w_Key E a (o + 34) x.2.1, w_Line E a (o + 35) x.2.2.1, w_Hist E a (o + 37) x.1.2.2.1]) (L' := [w_VBR a o x.2.2.2.1 x.2.2.2.2.1 x.2.2.2.2.2, w_ValleyR a (o + 1), w_Key E a (o + 2) x.1.1.1, w_Bells E a (o + 3) x.1.1.2.1, w_Mel E a (o + 6) x.1.1.2.2.1, w_Cliffs E a (o + 10) x.1.1.2.2.2, w_ValleyR a (o + 13), w_Key E a (o + 14) x.1.2.1.1, w_Bells E a (o + 15) x.1.2.1.2.1, w_Mel E a (o + 18) x.1.2.1.2.2.1, w_Cliffs E a (o + 22) x.1.2.1.2.2.2, w_Prog E a (o + 25) x.1.2.2.2.1, w_Chord E a (o + 31) x.1.2.2.2.2, w_Key E a (o + 34) x.2.1, w_Line E a (o + 35) x.2.2.1, w_Hist E a (o + 37) x.1.2.2.1, w_DblArr E ay oy y]) (vx_runV (As := []) (rest := [.int 0, .ref (ay oy)]) ⟨hx, hb, hml, hown, ha⟩ (k_X10_inKeyShare l E a o x q1 hq1 H.size hlt) (cwV 0 ha (gi_V (fun _ h => h) mw1334 mw1335 mw1336 mw74 mw1337) rfl rfl rfl hv_X10_inKeyShare ⟨(Nat.le_of_ble_eq_true rfl), (Nat.le_of_ble_eq_true rfl)⟩) ⟨pre_blind, va_recv hst.k (fr_P hP [0, 1, 2, 3, 4, 5, 6, 7, 8, 9, 10, 11, 12, 13, 14, 15] rfl) (ci := 12) (q0 := 0) rfl rfl, pre_at hP hD hS hz hzs hst [0, 1, 2, 3, 4, 5, 6, 7, 8, 9, 10, 11, 12, 13, 14, 15] (by decide) rfl rfl⟩ rfl rfl hl.1 rfl (lv_room (Nat.le_of_ble_eq_true rfl)) dL_inKeyShare_3 ⟨(Nat.le_of_ble_eq_true rfl), (Nat.le_of_ble_eq_true rfl)⟩) hP hD hS hA [0, 1, 2, 3, 4, 5, 6, 7, 8, 9, 10, 11, 12, 13, 14, 15] (by decide) rfl rfl rfl rfl (fun X ce q9 H locs eX h1 h2 h3 hP hD hS => ?_) (fun r2 H locs er2 hP hD hS => ?_)
  · have hF := q_smr eX hF
    by_cases w3_0 : X = "java/lang/ArithmeticException"
    · have hF := q_brp w3_0 hF
      subst w3_0
      refine vx_catch (E := "java/lang/ArithmeticException") (name := "java/lang/ArithmeticException") hown [] ⟨0, 8, 11, 85⟩ [] htab (fun _ h => nomatch h) (by decide) (by decide) (ha _ mw1300) (va_Nw.use rfl (hst.cs cs_ArithmeticException)) h1 h2 h3 ?_
      refine lv_astore_n (lv' := [(2, .ref q9), (0, .ref (a o)), (1, .ref (ay oy))]) hx hb dL_inKeyShare_11 rfl hl (by decide) rfl (fun ls hl => ?_)
      refine lv_iconst (v := 1) hx hb dL_inKeyShare_12 (by decide) ?_
      obtain rfl := Option.some.inj hF
      exact en_i hQ (Nat.le_of_ble_eq_true rfl) (Nat.le_of_ble_eq_true rfl) hx hb hr hlocks hP hD hS rfl dL_inKeyShare_13
    have hF := q_brn w3_0 hF
    exact absurd hF (by simp)
  have hF := q_sml er2 hF
  obtain ⟨g3, hF⟩ := q_gdi hF
  refine lv_f2d hx hb dL_inKeyShare_6 g3 ?_
  refine vi_dast hx hb hst.k hP hD hS 147 4 rfl rfl (f := y) (k := 0) (by decide) (by decide) dL_inKeyShare_7 (fun H locs hP hD hS => ?_)
  have hP : va_P E.1 vwCl (List.flatten [w_VBR a o x.2.2.2.1 x.2.2.2.2.1 x.2.2.2.2.2, w_ValleyR a (o + 1), w_Key E a (o + 2) x.1.1.1, w_Bells E a (o + 3) x.1.1.2.1, w_Mel E a (o + 6) x.1.1.2.2.1, w_Cliffs E a (o + 10) x.1.1.2.2.2, w_ValleyR a (o + 13), w_Key E a (o + 14) x.1.2.1.1, w_Bells E a (o + 15) x.1.2.1.2.1, w_Mel E a (o + 18) x.1.2.1.2.2.1, w_Cliffs E a (o + 22) x.1.2.1.2.2.2, w_Prog E a (o + 25) x.1.2.2.2.1, w_Chord E a (o + 31) x.1.2.2.2.2, w_Key E a (o + 34) x.2.1, w_Line E a (o + 35) x.2.2.1, w_Hist E a (o + 37) x.1.2.2.1, w_DblArr E ay oy (vf_upd y 0 (FP.f2d r2))]) H := hP
  have hD : va_D A (List.flatten [w_VBR a o x.2.2.2.1 x.2.2.2.2.1 x.2.2.2.2.2, w_ValleyR a (o + 1), w_Key E a (o + 2) x.1.1.1, w_Bells E a (o + 3) x.1.1.2.1, w_Mel E a (o + 6) x.1.1.2.2.1, w_Cliffs E a (o + 10) x.1.1.2.2.2, w_ValleyR a (o + 13), w_Key E a (o + 14) x.1.2.1.1, w_Bells E a (o + 15) x.1.2.1.2.1, w_Mel E a (o + 18) x.1.2.1.2.2.1, w_Cliffs E a (o + 22) x.1.2.1.2.2.2, w_Prog E a (o + 25) x.1.2.2.2.1, w_Chord E a (o + 31) x.1.2.2.2.2, w_Key E a (o + 34) x.2.1, w_Line E a (o + 35) x.2.2.1, w_Hist E a (o + 37) x.1.2.2.1, w_DblArr E ay oy (vf_upd y 0 (FP.f2d r2))]) := hD
  refine lv_goto (tgt := 14) hx hb dL_inKeyShare_8 (by decide) ?_
  refine lv_iconst (v := 0) hx hb dL_inKeyShare_14 (by decide) ?_
  obtain rfl := Option.some.inj hF
  exact en_i hQ (Nat.le_of_ble_eq_true rfl) (Nat.le_of_ble_eq_true rfl) hx hb hr hlocks hP hD hS rfl dL_inKeyShare_15

/-! L_isInScale -/
theorem dL_isInScale_0 : decode cL_isInScale 0 = .ok (.aload_n 2, 1) := by decide +kernel
theorem dL_isInScale_1 : decode cL_isInScale 1 = .ok (.iconst 0, 1) := by decide +kernel
theorem dL_isInScale_2 : decode cL_isInScale 2 = .ok (.aload_n 0, 1) := by decide +kernel
theorem dL_isInScale_3 : decode cL_isInScale 3 = .ok (.iload_n 1, 1) := by decide +kernel
theorem dL_isInScale_4 : decode cL_isInScale 4 = .ok (.invokevirtual 91, 3) := by decide +kernel
theorem dL_isInScale_7 : decode cL_isInScale 7 = .ok (.ifCond .eq 7, 3) := by decide +kernel
theorem dL_isInScale_10 : decode cL_isInScale 10 = .ok (.lconst 1, 1) := by decide +kernel
theorem dL_isInScale_11 : decode cL_isInScale 11 = .ok (.goto 4, 3) := by decide +kernel
theorem dL_isInScale_14 : decode cL_isInScale 14 = .ok (.lconst 0, 1) := by decide +kernel
theorem dL_isInScale_15 : decode cL_isInScale 15 = .ok (.lastore, 1) := by decide +kernel
theorem dL_isInScale_16 : decode cL_isInScale 16 = .ok (.goto 6, 3) := by decide +kernel
theorem dL_isInScale_19 : decode cL_isInScale 19 = .ok (.astore_n 3, 1) := by decide +kernel
theorem dL_isInScale_20 : decode cL_isInScale 20 = .ok (.iconst 1, 1) := by decide +kernel
theorem dL_isInScale_21 : decode cL_isInScale 21 = .ok (.ireturn, 1) := by decide +kernel
theorem dL_isInScale_22 : decode cL_isInScale 22 = .ok (.iconst 0, 1) := by decide +kernel
theorem dL_isInScale_23 : decode cL_isInScale 23 = .ok (.ireturn, 1) := by decide +kernel
def f_L_isInScale (x_valley_key_tonic : Int32) (x_valley_key_isMinor : Int32) (y_v : (Nat → Int64)) (p2 : Int32) : Option (Int32 × (Nat → Int64)) :=
  q_bd (f_X10_isInScale x_valley_key_tonic x_valley_key_isMinor p2) (fun q1 =>
  q_sm q1 (fun X => q_br (X = "java/lang/IllegalArgumentException") (
  some (1, y_v)) (
  none)) (fun r2 =>
  q_lt (fun (j3 : Int64) =>
  some (0, vp_updL y_v 0 j3)) (fun (J15 : Int64 → Option (Int32 × (Nat → Int64))) =>
  q_br (r2 = 0) (
  J15 0) (
  J15 1))))
theorem hv_L_isInScale : yL_isInScale.cls = RL ∧ yL_isInScale.cls ≠ "java/lang/invoke/MethodHandle" ∧ yL_isInScale.cls ≠ "java/lang/invoke/VarHandle" ∧ (parseMethodDescriptor yL_isInScale.desc).map (fun d => d.parameters.length) = some 3 := by decide +kernel
abbrev rm_L_isInScale : Room := { frames := 7, cells := 1, slots := 6, locals := 103 }
set_option maxHeartbeats 4000000 in
set_option maxRecDepth 100000 in
theorem k_L_isInScale (l : Launch) (E : ET) (a : Nat → Nat) (o : Nat) (x : VB_t) (ay : Nat → Nat) (oy : Nat) (y : (Nat → Int64)) (p2 : Int32) (res : Int32 × (Nat → Int64)) (hF : f_L_isInScale x.1.1.1.1 x.1.1.1.2.1 y p2 = some res) (sz : Nat) (hlt : l.stackTraces = false) : CtI l yL_isInScale (mwsH yL_isInScale cL_isInScale 4 (some .int) [(0, 16, 19, 15)]) rm_L_isInScale 1 6 [.ref (a o), .int p2, .ref (ay oy)] E (bl_VB E a o x ++ bl_LongArr E ay oy y) res.1 (bl_VB E a o x ++ bl_LongArr E ay oy res.2) sz := by
  refine mk_H (by decide +kernel) (Nat.le_of_ble_eq_true rfl) ?_
  intro p e s m below meth c A args Q ls hAe hsz hQ hx hb hr hml hin ha hown hlocks hA hz hzs hst htab hP hD hS hl
  have hown : s.vm.findClass RL = some m.cls := hown
  rw [hAe] at hQ
  subst hsz
  have hP : va_P E.1 vwCl (List.flatten [w_VBR a o x.2.2.2.1 x.2.2.2.2.1 x.2.2.2.2.2, w_ValleyR a (o + 1), w_Key E a (o + 2) x.1.1.1, w_Bells E a (o + 3) x.1.1.2.1, w_Mel E a (o + 6) x.1.1.2.2.1, w_Cliffs E a (o + 10) x.1.1.2.2.2, w_ValleyR a (o + 13), w_Key E a (o + 14) x.1.2.1.1, w_Bells E a (o + 15) x.1.2.1.2.1, w_Mel E a (o + 18) x.1.2.1.2.2.1, w_Cliffs E a (o + 22) x.1.2.1.2.2.2, w_Prog E a (o + 25) x.1.2.2.2.1, w_Chord E a (o + 31) x.1.2.2.2.2, w_Key E a (o + 34) x.2.1, w_Line E a (o + 35) x.2.2.1, w_Hist E a (o + 37) x.1.2.2.1, w_LongArr E ay oy y]) s.heap := hP
  have hD : va_D A (List.flatten [w_VBR a o x.2.2.2.1 x.2.2.2.2.1 x.2.2.2.2.2, w_ValleyR a (o + 1), w_Key E a (o + 2) x.1.1.1, w_Bells E a (o + 3) x.1.1.2.1, w_Mel E a (o + 6) x.1.1.2.2.1, w_Cliffs E a (o + 10) x.1.1.2.2.2, w_ValleyR a (o + 13), w_Key E a (o + 14) x.1.2.1.1, w_Bells E a (o + 15) x.1.2.1.2.1, w_Mel E a (o + 18) x.1.2.1.2.2.1, w_Cliffs E a (o + 22) x.1.2.1.2.2.2, w_Prog E a (o + 25) x.1.2.2.2.1, w_Chord E a (o + 31) x.1.2.2.2.2, w_Key E a (o + 34) x.2.1, w_Line E a (o + 35) x.2.2.1, w_Hist E a (o + 37) x.1.2.2.1, w_LongArr E ay oy y]) := hD
  have hl : lv_has ls 4 [(0, .ref (a o)), (1, .int p2), (2, .ref (ay oy))] := hl
  generalize hHe : s.heap = H at hP
  have hS : va_S A s.heap H [] := by rw [← hHe]; exact hS
  generalize ([] : List Loc) = locs at hS ⊢
  unfold f_L_isInScale at hF
  refine lv_aload_n hx hb dL_isInScale_0 rfl (lv_at hl 2 rfl) ?_
  refine lv_iconst (v := 0) hx hb dL_isInScale_1 (by decide) ?_
  refine lv_aload_n hx hb dL_isInScale_2 rfl (lv_at hl 0 rfl) ?_
  refine lv_iload_n hx hb dL_isInScale_3 rfl (lv_at hl 1 rfl) ?_
  obtain ⟨q1, hq1, hF⟩ := q_bdi hF
  refine cx_i (ro := q1) (Lc := [w_VBR a o x.2.2.2.1 x.2.2.2.2.1 x.2.2.2.2.2, w_ValleyR a (o + 1), w_Key E a (o + 2) x.1.1.1, w_Bells E a (o + 3) x.1.1.2.1, w_Mel E a (o + 6) x.1.1.2.2.1, w_Cliffs E a (o + 10) x.1.1.2.2.2, w_ValleyR a (o + 13), w_Key E a (o + 14) x.1.2.1.1, w_Bells E a (o + 15) x.1.2.1.2.1, w_Mel E a (o + 18) x.1.2.1.2.2.1, w_Cliffs E a (o + 22) x.1.2.1.2.2.2, w_Prog E a (o + 25) x.1.2.2.2.1, w_Chord E a (o + 31) x.1.2.2.2.2, w_Key E a (o + 34) x.2.1, w_Line E a (o + 35) x.2.2.1, w_Hist E a (o + 37) x.1.2.2.1]) (Lc' := [w_VBR a o x.2.2.2.1 x.2.2.2.2.1 x.2.2.2.2.2, w_ValleyR a (o + 1), w_Key E a (o + 2) x.1.1.1, w_Bells E a (o + 3) x.1.1.2.1, w_Mel E a (o + 6) x.1.1.2.2.1, w_Cliffs E a (o + 10) x.1.1.2.2.2, w_ValleyR a (o + 13), w_Key E a (o + 14) x.1.2.1.1, w_Bells E a (o + 15) x.1.2.1.2.1, w_Mel E a (o + 18) x.1.2.1.2.2.1, w_Cliffs E a (o + 22) x.1.2.1.2.2.2, w_Prog E a (o + 25) x.1.2.2.2.1, w_Chord E a (o + 31) x.1.2.2.2.2, w_Key E a (o + 34) x.2.1, w_Line E a (o + 35) x.2.2.1, w_Hist E a (o + 37) x.1.2.2.1]) (L' := [w_VBR a o x.2.2.2.1 x.2.2.2.2.1 x.2.2.2.2.2, w_ValleyR a (o + 1), w_Key E a (o + 2) x.1.1.1, w_Bells E a (o + 3) x.1.1.2.1, w_Mel E a (o + 6) x.1.1.2.2.1, w_Cliffs E a (o + 10) x.1.1.2.2.2, w_ValleyR a (o + 13), w_Key E a (o + 14) x.1.2.1.1, w_Bells E a (o + 15) x.1.2.1.2.1, w_Mel E a (o + 18) x.1.2.1.2.2.1, w_Cliffs E a (o + 22) x.1.2.1.2.2.2, w_Prog E a (o + 25) x.1.2.2.2.1, w_Chord E a (o + 31) x.1.2.2.2.2, w_Key E a (o + 34) x.2.1, w_Line E a (o + 35) x.2.2.1, w_Hist E a (o + 37) x.1.2.2.1, w_LongArr E ay oy y]) (vx_runV (As := [.int p2]) (rest := [.int 0, .ref (ay oy)]) ⟨hx, hb, hml, hown, ha⟩ (k_X10_isInScale l E a o x p2 q1 hq1 H.size hlt) (cwV 1 ha (gi_V (fun _ h => h) mw1341 mw1342 mw1343 mw74 mw1344) rfl rfl rfl hv_X10_isInScale ⟨(Nat.le_of_ble_eq_true rfl), (Nat.le_of_ble_eq_true rfl)⟩) ⟨pre_blind, va_recv hst.k (fr_P hP [0, 1, 2, 3, 4, 5, 6, 7, 8, 9, 10, 11, 12, 13, 14, 15] rfl) (ci := 12) (q0 := 0) rfl rfl, pre_at hP hD hS hz hzs hst [0, 1, 2, 3, 4, 5, 6, 7, 8, 9, 10, 11, 12, 13, 14, 15] (by decide) rfl rfl⟩ rfl rfl hl.1 rfl (lv_room (Nat.le_of_ble_eq_true rfl)) dL_isInScale_4 ⟨(Nat.le_of_ble_eq_true rfl), (Nat.le_of_ble_eq_true rfl)⟩) hP hD hS hA [0, 1, 2, 3, 4, 5, 6, 7, 8, 9, 10, 11, 12, 13, 14, 15] (by decide) rfl rfl rfl rfl (fun X ce q9 H locs eX h1 h2 h3 hP hD hS => ?_) (fun r2 H locs er2 hP hD hS => ?_)
  · have hF := q_smr eX hF
    by_cases w4_0 : X = "java/lang/IllegalArgumentException"
    · have hF := q_brp w4_0 hF
      subst w4_0
      refine vx_catch (E := "java/lang/IllegalArgumentException") (name := "java/lang/IllegalArgumentException") hown [] ⟨0, 16, 19, 15⟩ [] htab (fun _ h => nomatch h) (by decide) (by decide) (ha _ mw963) (va_Nw.use rfl (hst.cs cs_IllegalArgumentException)) h1 h2 h3 ?_
      refine lv_astore_n (lv' := [(3, .ref q9), (0, .ref (a o)), (1, .int p2), (2, .ref (ay oy))]) hx hb dL_isInScale_19 rfl hl (by decide) rfl (fun ls hl => ?_)
      refine lv_iconst (v := 1) hx hb dL_isInScale_20 (by decide) ?_
      obtain rfl := Option.some.inj hF
      exact en_i hQ (Nat.le_of_ble_eq_true rfl) (Nat.le_of_ble_eq_true rfl) hx hb hr hlocks hP hD hS rfl dL_isInScale_21
    have hF := q_brn w4_0 hF
    exact absurd hF (by simp)
  have hF := q_sml er2 hF
  obtain ⟨J15, hJ15, hF⟩ := q_jn hF
  have jJ15 : ∀ (j3 : Int64), ∀ (H : Heap) (locs : List Loc) (ls : Array Slot), J15 j3 = some res → va_P E.1 vwCl (List.flatten [w_VBR a o x.2.2.2.1 x.2.2.2.2.1 x.2.2.2.2.2, w_ValleyR a (o + 1), w_Key E a (o + 2) x.1.1.1, w_Bells E a (o + 3) x.1.1.2.1, w_Mel E a (o + 6) x.1.1.2.2.1, w_Cliffs E a (o + 10) x.1.1.2.2.2, w_ValleyR a (o + 13), w_Key E a (o + 14) x.1.2.1.1, w_Bells E a (o + 15) x.1.2.1.2.1, w_Mel E a (o + 18) x.1.2.1.2.2.1, w_Cliffs E a (o + 22) x.1.2.1.2.2.2, w_Prog E a (o + 25) x.1.2.2.2.1, w_Chord E a (o + 31) x.1.2.2.2.2, w_Key E a (o + 34) x.2.1, w_Line E a (o + 35) x.2.2.1, w_Hist E a (o + 37) x.1.2.2.1, w_LongArr E ay oy y]) H → va_D A (List.flatten [w_VBR a o x.2.2.2.1 x.2.2.2.2.1 x.2.2.2.2.2, w_ValleyR a (o + 1), w_Key E a (o + 2) x.1.1.1, w_Bells E a (o + 3) x.1.1.2.1, w_Mel E a (o + 6) x.1.1.2.2.1, w_Cliffs E a (o + 10) x.1.1.2.2.2, w_ValleyR a (o + 13), w_Key E a (o + 14) x.1.2.1.1, w_Bells E a (o + 15) x.1.2.1.2.1, w_Mel E a (o + 18) x.1.2.1.2.2.1, w_Cliffs E a (o + 22) x.1.2.1.2.2.2, w_Prog E a (o + 25) x.1.2.2.2.1, w_Chord E a (o + 31) x.1.2.2.2.2, w_Key E a (o + 34) x.2.1, w_Line E a (o + 35) x.2.2.1, w_Hist E a (o + 37) x.1.2.2.1, w_LongArr E ay oy y]) → va_S A s.heap H locs → lv_has ls 4 [] → W p l e rm_L_isInScale s m args below meth c H locs 1 6 Q (F0 m 15 ls [.long j3, .int 0, .ref (ay oy)]) := by
    intro j3 H locs ls hF hP hD hS hl
    rw [hJ15] at hF
    refine vi_last hx hb hst.k hP hD hS 147 3 rfl rfl (f := y) (k := 0) (by decide) (by decide) dL_isInScale_15 (fun H locs hP hD hS => ?_)
    have hP : va_P E.1 vwCl (List.flatten [w_VBR a o x.2.2.2.1 x.2.2.2.2.1 x.2.2.2.2.2, w_ValleyR a (o + 1), w_Key E a (o + 2) x.1.1.1, w_Bells E a (o + 3) x.1.1.2.1, w_Mel E a (o + 6) x.1.1.2.2.1, w_Cliffs E a (o + 10) x.1.1.2.2.2, w_ValleyR a (o + 13), w_Key E a (o + 14) x.1.2.1.1, w_Bells E a (o + 15) x.1.2.1.2.1, w_Mel E a (o + 18) x.1.2.1.2.2.1, w_Cliffs E a (o + 22) x.1.2.1.2.2.2, w_Prog E a (o + 25) x.1.2.2.2.1, w_Chord E a (o + 31) x.1.2.2.2.2, w_Key E a (o + 34) x.2.1, w_Line E a (o + 35) x.2.2.1, w_Hist E a (o + 37) x.1.2.2.1, w_LongArr E ay oy (vp_updL y 0 j3)]) H := hP
    have hD : va_D A (List.flatten [w_VBR a o x.2.2.2.1 x.2.2.2.2.1 x.2.2.2.2.2, w_ValleyR a (o + 1), w_Key E a (o + 2) x.1.1.1, w_Bells E a (o + 3) x.1.1.2.1, w_Mel E a (o + 6) x.1.1.2.2.1, w_Cliffs E a (o + 10) x.1.1.2.2.2, w_ValleyR a (o + 13), w_Key E a (o + 14) x.1.2.1.1, w_Bells E a (o + 15) x.1.2.1.2.1, w_Mel E a (o + 18) x.1.2.1.2.2.1, w_Cliffs E a (o + 22) x.1.2.1.2.2.2, w_Prog E a (o + 25) x.1.2.2.2.1, w_Chord E a (o + 31) x.1.2.2.2.2, w_Key E a (o + 34) x.2.1, w_Line E a (o + 35) x.2.2.1, w_Hist E a (o + 37) x.1.2.2.1, w_LongArr E ay oy (vp_updL y 0 j3)]) := hD
    refine lv_goto (tgt := 22) hx hb dL_isInScale_16 (by decide) ?_
    refine lv_iconst (v := 0) hx hb dL_isInScale_22 (by decide) ?_
    obtain rfl := Option.some.inj hF
    exact en_i hQ (Nat.le_of_ble_eq_true rfl) (Nat.le_of_ble_eq_true rfl) hx hb hr hlocks hP hD hS rfl dL_isInScale_23
  refine lv_if_eq (tgt := 14) hx hb dL_isInScale_7 (by decide) (fun c7 => ?_) (fun c7 => ?_)
  · have hF := q_brp c7 hF
    refine lv_lconst (v := 0) hx hb dL_isInScale_14 (by decide) ?_
    exact jJ15 0 H locs ls hF hP hD hS (lv_sub hl [] rfl)
  · have hF := q_brn c7 hF
    refine lv_lconst (v := 1) hx hb dL_isInScale_10 (by decide) ?_
    refine lv_goto (tgt := 15) hx hb dL_isInScale_11 (by decide) ?_
    exact jJ15 1 H locs ls hF hP hD hS (lv_sub hl [] rfl)

/-! L_melodyLength -/
theorem dL_melodyLength_0 : decode cL_melodyLength 0 = .ok (.aload_n 2, 1) := by decide +kernel
theorem dL_melodyLength_1 : decode cL_melodyLength 1 = .ok (.iconst 0, 1) := by decide +kernel
theorem dL_melodyLength_2 : decode cL_melodyLength 2 = .ok (.aload_n 0, 1) := by decide +kernel
theorem dL_melodyLength_3 : decode cL_melodyLength 3 = .ok (.iload_n 1, 1) := by decide +kernel
theorem dL_melodyLength_4 : decode cL_melodyLength 4 = .ok (.invokevirtual 94, 3) := by decide +kernel
theorem dL_melodyLength_7 : decode cL_melodyLength 7 = .ok (.i2l, 1) := by decide +kernel
theorem dL_melodyLength_8 : decode cL_melodyLength 8 = .ok (.lastore, 1) := by decide +kernel
theorem dL_melodyLength_9 : decode cL_melodyLength 9 = .ok (.goto 6, 3) := by decide +kernel
theorem dL_melodyLength_12 : decode cL_melodyLength 12 = .ok (.astore_n 3, 1) := by decide +kernel
theorem dL_melodyLength_13 : decode cL_melodyLength 13 = .ok (.iconst 1, 1) := by decide +kernel
theorem dL_melodyLength_14 : decode cL_melodyLength 14 = .ok (.ireturn, 1) := by decide +kernel
theorem dL_melodyLength_15 : decode cL_melodyLength 15 = .ok (.iconst 0, 1) := by decide +kernel
theorem dL_melodyLength_16 : decode cL_melodyLength 16 = .ok (.ireturn, 1) := by decide +kernel
def f_L_melodyLength (x_valley_melodies_lengths : (Nat → Int32)) (y_v : (Nat → Int64)) (p2 : Int32) : Option (Int32 × (Nat → Int64)) :=
  q_bd (f_X10_melodyLength x_valley_melodies_lengths p2) (fun q1 =>
  q_sm q1 (fun X => q_br (X = "java/lang/IndexOutOfBoundsException") (
  some (1, y_v)) (
  none)) (fun r2 =>
  some (0, vp_updL y_v 0 (r2.toInt64))))
theorem hv_L_melodyLength : yL_melodyLength.cls = RL ∧ yL_melodyLength.cls ≠ "java/lang/invoke/MethodHandle" ∧ yL_melodyLength.cls ≠ "java/lang/invoke/VarHandle" ∧ (parseMethodDescriptor yL_melodyLength.desc).map (fun d => d.parameters.length) = some 3 := by decide +kernel
abbrev rm_L_melodyLength : Room := { frames := 8, cells := 1, slots := 6, locals := 123 }
set_option maxHeartbeats 4000000 in
set_option maxRecDepth 100000 in
theorem k_L_melodyLength (l : Launch) (E : ET) (a : Nat → Nat) (o : Nat) (x : VB_t) (ay : Nat → Nat) (oy : Nat) (y : (Nat → Int64)) (p2 : Int32) (res : Int32 × (Nat → Int64)) (hF : f_L_melodyLength x.1.1.2.2.1.1 y p2 = some res) (sz : Nat) (hlt : l.stackTraces = false) : CtI l yL_melodyLength (mwsH yL_melodyLength cL_melodyLength 4 (some .int) [(0, 9, 12, 13)]) rm_L_melodyLength 1 6 [.ref (a o), .int p2, .ref (ay oy)] E (bl_VB E a o x ++ bl_LongArr E ay oy y) res.1 (bl_VB E a o x ++ bl_LongArr E ay oy res.2) sz := by
  refine mk_H (by decide +kernel) (Nat.le_of_ble_eq_true rfl) ?_
  intro p e s m below meth c A args Q ls hAe hsz hQ hx hb hr hml hin ha hown hlocks hA hz hzs hst htab hP hD hS hl
  have hown : s.vm.findClass RL = some m.cls := hown
  rw [hAe] at hQ
  subst hsz
  have hP : va_P E.1 vwCl (List.flatten [w_VBR a o x.2.2.2.1 x.2.2.2.2.1 x.2.2.2.2.2, w_ValleyR a (o + 1), w_Key E a (o + 2) x.1.1.1, w_Bells E a (o + 3) x.1.1.2.1, w_Mel E a (o + 6) x.1.1.2.2.1, w_Cliffs E a (o + 10) x.1.1.2.2.2, w_ValleyR a (o + 13), w_Key E a (o + 14) x.1.2.1.1, w_Bells E a (o + 15) x.1.2.1.2.1, w_Mel E a (o + 18) x.1.2.1.2.2.1, w_Cliffs E a (o + 22) x.1.2.1.2.2.2, w_Prog E a (o + 25) x.1.2.2.2.1, w_Chord E a (o + 31) x.1.2.2.2.2, w_Key E a (o + 34) x.2.1, w_Line E a (o + 35) x.2.2.1, w_Hist E a (o + 37) x.1.2.2.1, w_LongArr E ay oy y]) s.heap := hP
  have hD : va_D A (List.flatten [w_VBR a o x.2.2.2.1 x.2.2.2.2.1 x.2.2.2.2.2, w_ValleyR a (o + 1), w_Key E a (o + 2) x.1.1.1, w_Bells E a (o + 3) x.1.1.2.1, w_Mel E a (o + 6) x.1.1.2.2.1, w_Cliffs E a (o + 10) x.1.1.2.2.2, w_ValleyR a (o + 13), w_Key E a (o + 14) x.1.2.1.1, w_Bells E a (o + 15) x.1.2.1.2.1, w_Mel E a (o + 18) x.1.2.1.2.2.1, w_Cliffs E a (o + 22) x.1.2.1.2.2.2, w_Prog E a (o + 25) x.1.2.2.2.1, w_Chord E a (o + 31) x.1.2.2.2.2, w_Key E a (o + 34) x.2.1, w_Line E a (o + 35) x.2.2.1, w_Hist E a (o + 37) x.1.2.2.1, w_LongArr E ay oy y]) := hD
  have hl : lv_has ls 4 [(0, .ref (a o)), (1, .int p2), (2, .ref (ay oy))] := hl
  generalize hHe : s.heap = H at hP
  have hS : va_S A s.heap H [] := by rw [← hHe]; exact hS
  generalize ([] : List Loc) = locs at hS ⊢
  unfold f_L_melodyLength at hF
  refine lv_aload_n hx hb dL_melodyLength_0 rfl (lv_at hl 2 rfl) ?_
  refine lv_iconst (v := 0) hx hb dL_melodyLength_1 (by decide) ?_
  refine lv_aload_n hx hb dL_melodyLength_2 rfl (lv_at hl 0 rfl) ?_
  refine lv_iload_n hx hb dL_melodyLength_3 rfl (lv_at hl 1 rfl) ?_
  obtain ⟨q1, hq1, hF⟩ := q_bdi hF
  refine cx_i (ro := q1) (Lc := [w_VBR a o x.2.2.2.1 x.2.2.2.2.1 x.2.2.2.2.2, w_ValleyR a (o + 1), w_Key E a (o + 2) x.1.1.1, w_Bells E a (o + 3) x.1.1.2.1, w_Mel E a (o + 6) x.1.1.2.2.1, w_Cliffs E a (o + 10) x.1.1.2.2.2, w_ValleyR a (o + 13), w_Key E a (o + 14) x.1.2.1.1, w_Bells E a (o + 15) x.1.2.1.2.1, w_Mel E a (o + 18) x.1.2.1.2.2.1, w_Cliffs E a (o + 22) x.1.2.1.2.2.2, w_Prog E a (o + 25) x.1.2.2.2.1, w_Chord E a (o + 31) x.1.2.2.2.2, w_Key E a (o + 34) x.2.1, w_Line E a (o + 35) x.2.2.1, w_Hist E a (o + 37) x.1.2.2.1]) (Lc' := [w_VBR a o x.2.2.2.1 x.2.2.2.2.1 x.2.2.2.2.2, w_ValleyR a (o + 1), w_Key E a (o + 2) x.1.1.1, w_Bells E a (o + 3) x.1.1.2.1, w_Mel E a (o + 6) x.1.1.2.2.1, w_Cliffs E a (o + 10) x.1.1.2.2.2, w_ValleyR a (o + 13), w_Key E a (o + 14) x.1.2.1.1, w_Bells E a (o + 15) x.1.2.1.2.1, w_Mel E a (o + 18) x.1.2.1.2.2.1, w_Cliffs E a (o + 22) x.1.2.1.2.2.2, w_Prog E a (o + 25) x.1.2.2.2.1, w_Chord E a (o + 31) x.1.2.2.2.2, w_Key E a (o + 34) x.2.1, w_Line E a (o + 35) x.2.2.1, w_Hist E a (o + 37) x.1.2.2.1]) (L' := [w_VBR a o x.2.2.2.1 x.2.2.2.2.1 x.2.2.2.2.2, w_ValleyR a (o + 1), w_Key E a (o + 2) x.1.1.1, w_Bells E a (o + 3) x.1.1.2.1, w_Mel E a (o + 6) x.1.1.2.2.1, w_Cliffs E a (o + 10) x.1.1.2.2.2, w_ValleyR a (o + 13), w_Key E a (o + 14) x.1.2.1.1, w_Bells E a (o + 15) x.1.2.1.2.1, w_Mel E a (o + 18) x.1.2.1.2.2.1, w_Cliffs E a (o + 22) x.1.2.1.2.2.2, w_Prog E a (o + 25) x.1.2.2.2.1, w_Chord E a (o + 31) x.1.2.2.2.2, w_Key E a (o + 34) x.2.1, w_Line E a (o + 35) x.2.2.1, w_Hist E a (o + 37) x.1.2.2.1, w_LongArr E ay oy y]) (vx_runV (As := [.int p2]) (rest := [.int 0, .ref (ay oy)]) ⟨hx, hb, hml, hown, ha⟩ (k_X10_melodyLength l E a o x p2 q1 hq1 H.size hlt) (cwV 1 ha (gi_V (fun _ h => h) mw1350 mw1351 mw1352 mw74 mw1353) rfl rfl rfl hv_X10_melodyLength ⟨(Nat.le_of_ble_eq_true rfl), (Nat.le_of_ble_eq_true rfl)⟩) ⟨pre_blind, va_recv hst.k (fr_P hP [0, 1, 2, 3, 4, 5, 6, 7, 8, 9, 10, 11, 12, 13, 14, 15] rfl) (ci := 12) (q0 := 0) rfl rfl, pre_at hP hD hS hz hzs hst [0, 1, 2, 3, 4, 5, 6, 7, 8, 9, 10, 11, 12, 13, 14, 15] (by decide) rfl rfl⟩ rfl rfl hl.1 rfl (lv_room (Nat.le_of_ble_eq_true rfl)) dL_melodyLength_4 ⟨(Nat.le_of_ble_eq_true rfl), (Nat.le_of_ble_eq_true rfl)⟩) hP hD hS hA [0, 1, 2, 3, 4, 5, 6, 7, 8, 9, 10, 11, 12, 13, 14, 15] (by decide) rfl rfl rfl rfl (fun X ce q9 H locs eX h1 h2 h3 hP hD hS => ?_) (fun r2 H locs er2 hP hD hS => ?_)
  · have hF := q_smr eX hF
    by_cases w4_0 : X = "java/lang/IndexOutOfBoundsException"
    · have hF := q_brp w4_0 hF
      subst w4_0
      refine vx_catch (E := "java/lang/IndexOutOfBoundsException") (name := "java/lang/IndexOutOfBoundsException") hown [] ⟨0, 9, 12, 13⟩ [] htab (fun _ h => nomatch h) (by decide) (by decide) (ha _ mw960) (va_Nw.use rfl (hst.cs cs_IndexOutOfBoundsException)) h1 h2 h3 ?_
      refine lv_astore_n (lv' := [(3, .ref q9), (0, .ref (a o)), (1, .int p2), (2, .ref (ay oy))]) hx hb dL_melodyLength_12 rfl hl (by decide) rfl (fun ls hl => ?_)
      refine lv_iconst (v := 1) hx hb dL_melodyLength_13 (by decide) ?_
      obtain rfl := Option.some.inj hF
      exact en_i hQ (Nat.le_of_ble_eq_true rfl) (Nat.le_of_ble_eq_true rfl) hx hb hr hlocks hP hD hS rfl dL_melodyLength_14
    have hF := q_brn w4_0 hF
    exact absurd hF (by simp)
  have hF := q_sml er2 hF
  refine lv_i2l hx hb dL_melodyLength_7 rfl ?_
  refine vi_last hx hb hst.k hP hD hS 147 3 rfl rfl (f := y) (k := 0) (by decide) (by decide) dL_melodyLength_8 (fun H locs hP hD hS => ?_)
  have hP : va_P E.1 vwCl (List.flatten [w_VBR a o x.2.2.2.1 x.2.2.2.2.1 x.2.2.2.2.2, w_ValleyR a (o + 1), w_Key E a (o + 2) x.1.1.1, w_Bells E a (o + 3) x.1.1.2.1, w_Mel E a (o + 6) x.1.1.2.2.1, w_Cliffs E a (o + 10) x.1.1.2.2.2, w_ValleyR a (o + 13), w_Key E a (o + 14) x.1.2.1.1, w_Bells E a (o + 15) x.1.2.1.2.1, w_Mel E a (o + 18) x.1.2.1.2.2.1, w_Cliffs E a (o + 22) x.1.2.1.2.2.2, w_Prog E a (o + 25) x.1.2.2.2.1, w_Chord E a (o + 31) x.1.2.2.2.2, w_Key E a (o + 34) x.2.1, w_Line E a (o + 35) x.2.2.1, w_Hist E a (o + 37) x.1.2.2.1, w_LongArr E ay oy (vp_updL y 0 (r2.toInt64))]) H := hP
  have hD : va_D A (List.flatten [w_VBR a o x.2.2.2.1 x.2.2.2.2.1 x.2.2.2.2.2, w_ValleyR a (o + 1), w_Key E a (o + 2) x.1.1.1, w_Bells E a (o + 3) x.1.1.2.1, w_Mel E a (o + 6) x.1.1.2.2.1, w_Cliffs E a (o + 10) x.1.1.2.2.2, w_ValleyR a (o + 13), w_Key E a (o + 14) x.1.2.1.1, w_Bells E a (o + 15) x.1.2.1.2.1, w_Mel E a (o + 18) x.1.2.1.2.2.1, w_Cliffs E a (o + 22) x.1.2.1.2.2.2, w_Prog E a (o + 25) x.1.2.2.2.1, w_Chord E a (o + 31) x.1.2.2.2.2, w_Key E a (o + 34) x.2.1, w_Line E a (o + 35) x.2.2.1, w_Hist E a (o + 37) x.1.2.2.1, w_LongArr E ay oy (vp_updL y 0 (r2.toInt64))]) := hD
  refine lv_goto (tgt := 15) hx hb dL_melodyLength_9 (by decide) ?_
  refine lv_iconst (v := 0) hx hb dL_melodyLength_15 (by decide) ?_
  obtain rfl := Option.some.inj hF
  exact en_i hQ (Nat.le_of_ble_eq_true rfl) (Nat.le_of_ble_eq_true rfl) hx hb hr hlocks hP hD hS rfl dL_melodyLength_16

/-! L_tone -/
theorem dL_tone_0 : decode cL_tone 0 = .ok (.aload_n 3, 1) := by decide +kernel
theorem dL_tone_1 : decode cL_tone 1 = .ok (.iconst 0, 1) := by decide +kernel
theorem dL_tone_2 : decode cL_tone 2 = .ok (.aload_n 0, 1) := by decide +kernel
theorem dL_tone_3 : decode cL_tone 3 = .ok (.iload_n 1, 1) := by decide +kernel
theorem dL_tone_4 : decode cL_tone 4 = .ok (.iload_n 2, 1) := by decide +kernel
theorem dL_tone_5 : decode cL_tone 5 = .ok (.invokevirtual 97, 3) := by decide +kernel
theorem dL_tone_8 : decode cL_tone 8 = .ok (.i2l, 1) := by decide +kernel
theorem dL_tone_9 : decode cL_tone 9 = .ok (.lastore, 1) := by decide +kernel
theorem dL_tone_10 : decode cL_tone 10 = .ok (.goto 11, 3) := by decide +kernel
theorem dL_tone_13 : decode cL_tone 13 = .ok (.astore 4, 2) := by decide +kernel
theorem dL_tone_15 : decode cL_tone 15 = .ok (.iconst 1, 1) := by decide +kernel
theorem dL_tone_16 : decode cL_tone 16 = .ok (.ireturn, 1) := by decide +kernel
theorem dL_tone_17 : decode cL_tone 17 = .ok (.astore 4, 2) := by decide +kernel
theorem dL_tone_19 : decode cL_tone 19 = .ok (.iconst 2, 1) := by decide +kernel
theorem dL_tone_20 : decode cL_tone 20 = .ok (.ireturn, 1) := by decide +kernel
theorem dL_tone_21 : decode cL_tone 21 = .ok (.iconst 0, 1) := by decide +kernel
theorem dL_tone_22 : decode cL_tone 22 = .ok (.ireturn, 1) := by decide +kernel
def f_L_tone (x_valley_melodies_lengths : (Nat → Int32)) (x_valley_melodies_tones : (Nat → Int32)) (y_v : (Nat → Int64)) (p2 : Int32) (p3 : Int32) : Option (Int32 × (Nat → Int64)) :=
  q_bd (f_X10_tone x_valley_melodies_lengths x_valley_melodies_tones p2 p3) (fun q1 =>
  q_sm q1 (fun X => q_br (X = "java/lang/IndexOutOfBoundsException") (
  some (1, y_v)) (
  q_br (X = "java/util/NoSuchElementException") (
  some (2, y_v)) (
  none))) (fun r2 =>
  some (0, vp_updL y_v 0 (r2.toInt64))))
theorem hv_L_tone : yL_tone.cls = RL ∧ yL_tone.cls ≠ "java/lang/invoke/MethodHandle" ∧ yL_tone.cls ≠ "java/lang/invoke/VarHandle" ∧ (parseMethodDescriptor yL_tone.desc).map (fun d => d.parameters.length) = some 4 := by decide +kernel
abbrev rm_L_tone : Room := { frames := 8, cells := 2, slots := 12, locals := 124 }
set_option maxHeartbeats 4000000 in
set_option maxRecDepth 100000 in
theorem k_L_tone (l : Launch) (E : ET) (a : Nat → Nat) (o : Nat) (x : VB_t) (ay : Nat → Nat) (oy : Nat) (y : (Nat → Int64)) (p2 : Int32) (p3 : Int32) (res : Int32 × (Nat → Int64)) (hF : f_L_tone x.1.1.2.2.1.1 x.1.1.2.2.1.2.2 y p2 p3 = some res) (sz : Nat) (hlt : l.stackTraces = false) : CtI l yL_tone (mwsH yL_tone cL_tone 5 (some .int) [(0, 10, 13, 13), (0, 10, 17, 79)]) rm_L_tone 2 12 [.ref (a o), .int p2, .int p3, .ref (ay oy)] E (bl_VB E a o x ++ bl_LongArr E ay oy y) res.1 (bl_VB E a o x ++ bl_LongArr E ay oy res.2) sz := by
  refine mk_H (by decide +kernel) (Nat.le_of_ble_eq_true rfl) ?_
  intro p e s m below meth c A args Q ls hAe hsz hQ hx hb hr hml hin ha hown hlocks hA hz hzs hst htab hP hD hS hl
  have hown : s.vm.findClass RL = some m.cls := hown
  rw [hAe] at hQ
  subst hsz
  have hP : va_P E.1 vwCl (List.flatten [w_VBR a o x.2.2.2.1 x.2.2.2.2.1 x.2.2.2.2.2, w_ValleyR a (o + 1), w_Key E a (o + 2) x.1.1.1, w_Bells E a (o + 3) x.1.1.2.1, w_Mel E a (o + 6) x.1.1.2.2.1, w_Cliffs E a (o + 10) x.1.1.2.2.2, w_ValleyR a (o + 13), w_Key E a (o + 14) x.1.2.1.1, w_Bells E a (o + 15) x.1.2.1.2.1, w_Mel E a (o + 18) x.1.2.1.2.2.1, w_Cliffs E a (o + 22) x.1.2.1.2.2.2, w_Prog E a (o + 25) x.1.2.2.2.1, w_Chord E a (o + 31) x.1.2.2.2.2, w_Key E a (o + 34) x.2.1, w_Line E a (o + 35) x.2.2.1, w_Hist E a (o + 37) x.1.2.2.1, w_LongArr E ay oy y]) s.heap := hP
  have hD : va_D A (List.flatten [w_VBR a o x.2.2.2.1 x.2.2.2.2.1 x.2.2.2.2.2, w_ValleyR a (o + 1), w_Key E a (o + 2) x.1.1.1, w_Bells E a (o + 3) x.1.1.2.1, w_Mel E a (o + 6) x.1.1.2.2.1, w_Cliffs E a (o + 10) x.1.1.2.2.2, w_ValleyR a (o + 13), w_Key E a (o + 14) x.1.2.1.1, w_Bells E a (o + 15) x.1.2.1.2.1, w_Mel E a (o + 18) x.1.2.1.2.2.1, w_Cliffs E a (o + 22) x.1.2.1.2.2.2, w_Prog E a (o + 25) x.1.2.2.2.1, w_Chord E a (o + 31) x.1.2.2.2.2, w_Key E a (o + 34) x.2.1, w_Line E a (o + 35) x.2.2.1, w_Hist E a (o + 37) x.1.2.2.1, w_LongArr E ay oy y]) := hD
  have hl : lv_has ls 5 [(0, .ref (a o)), (1, .int p2), (2, .int p3), (3, .ref (ay oy))] := hl
  generalize hHe : s.heap = H at hP
  have hS : va_S A s.heap H [] := by rw [← hHe]; exact hS
  generalize ([] : List Loc) = locs at hS ⊢
  unfold f_L_tone at hF
  refine lv_aload_n hx hb dL_tone_0 rfl (lv_at hl 3 rfl) ?_
  refine lv_iconst (v := 0) hx hb dL_tone_1 (by decide) ?_
  refine lv_aload_n hx hb dL_tone_2 rfl (lv_at hl 0 rfl) ?_
  refine lv_iload_n hx hb dL_tone_3 rfl (lv_at hl 1 rfl) ?_
  refine lv_iload_n hx hb dL_tone_4 rfl (lv_at hl 2 rfl) ?_
  obtain ⟨q1, hq1, hF⟩ := q_bdi hF
  refine cx_i (ro := q1) (Lc := [w_VBR a o x.2.2.2.1 x.2.2.2.2.1 x.2.2.2.2.2, w_ValleyR a (o + 1), w_Key E a (o + 2) x.1.1.1, w_Bells E a (o + 3) x.1.1.2.1, w_Mel E a (o + 6) x.1.1.2.2.1, w_Cliffs E a (o + 10) x.1.1.2.2.2, w_ValleyR a (o + 13), w_Key E a (o + 14) x.1.2.1.1, w_Bells E a (o + 15) x.1.2.1.2.1, w_Mel E a (o + 18) x.1.2.1.2.2.1, w_Cliffs E a (o + 22) x.1.2.1.2.2.2, w_Prog E a (o + 25) x.1.2.2.2.1, w_Chord E a (o + 31) x.1.2.2.2.2, w_Key E a (o + 34) x.2.1, w_Line E a (o + 35) x.2.2.1, w_Hist E a (o + 37) x.1.2.2.1]) (Lc' := [w_VBR a o x.2.2.2.1 x.2.2.2.2.1 x.2.2.2.2.2, w_ValleyR a (o + 1), w_Key E a (o + 2) x.1.1.1, w_Bells E a (o + 3) x.1.1.2.1, w_Mel E a (o + 6) x.1.1.2.2.1, w_Cliffs E a (o + 10) x.1.1.2.2.2, w_ValleyR a (o + 13), w_Key E a (o + 14) x.1.2.1.1, w_Bells E a (o + 15) x.1.2.1.2.1, w_Mel E a (o + 18) x.1.2.1.2.2.1, w_Cliffs E a (o + 22) x.1.2.1.2.2.2, w_Prog E a (o + 25) x.1.2.2.2.1, w_Chord E a (o + 31) x.1.2.2.2.2, w_Key E a (o + 34) x.2.1, w_Line E a (o + 35) x.2.2.1, w_Hist E a (o + 37) x.1.2.2.1]) (L' := [w_VBR a o x.2.2.2.1 x.2.2.2.2.1 x.2.2.2.2.2, w_ValleyR a (o + 1), w_Key E a (o + 2) x.1.1.1, w_Bells E a (o + 3) x.1.1.2.1, w_Mel E a (o + 6) x.1.1.2.2.1, w_Cliffs E a (o + 10) x.1.1.2.2.2, w_ValleyR a (o + 13), w_Key E a (o + 14) x.1.2.1.1, w_Bells E a (o + 15) x.1.2.1.2.1, w_Mel E a (o + 18) x.1.2.1.2.2.1, w_Cliffs E a (o + 22) x.1.2.1.2.2.2, w_Prog E a (o + 25) x.1.2.2.2.1, w_Chord E a (o + 31) x.1.2.2.2.2, w_Key E a (o + 34) x.2.1, w_Line E a (o + 35) x.2.2.1, w_Hist E a (o + 37) x.1.2.2.1, w_LongArr E ay oy y]) (vx_runV (As := [.int p2, .int p3]) (rest := [.int 0, .ref (ay oy)]) ⟨hx, hb, hml, hown, ha⟩ (k_X10_tone l E a o x p2 p3 q1 hq1 H.size hlt) (cwV 2 ha (gi_V (fun _ h => h) mw1362 mw1363 mw1364 mw74 mw1365) rfl rfl rfl hv_X10_tone ⟨(Nat.le_of_ble_eq_true rfl), (Nat.le_of_ble_eq_true rfl)⟩) ⟨pre_blind, va_recv hst.k (fr_P hP [0, 1, 2, 3, 4, 5, 6, 7, 8, 9, 10, 11, 12, 13, 14, 15] rfl) (ci := 12) (q0 := 0) rfl rfl, pre_at hP hD hS hz hzs hst [0, 1, 2, 3, 4, 5, 6, 7, 8, 9, 10, 11, 12, 13, 14, 15] (by decide) rfl rfl⟩ rfl rfl hl.1 rfl (lv_room (Nat.le_of_ble_eq_true rfl)) dL_tone_5 ⟨(Nat.le_of_ble_eq_true rfl), (Nat.le_of_ble_eq_true rfl)⟩) hP hD hS hA [0, 1, 2, 3, 4, 5, 6, 7, 8, 9, 10, 11, 12, 13, 14, 15] (by decide) rfl rfl rfl rfl (fun X ce q9 H locs eX h1 h2 h3 hP hD hS => ?_) (fun r2 H locs er2 hP hD hS => ?_)
  · have hF := q_smr eX hF
    by_cases w5_0 : X = "java/lang/IndexOutOfBoundsException"
    · have hF := q_brp w5_0 hF
      subst w5_0
      refine vx_catch (E := "java/lang/IndexOutOfBoundsException") (name := "java/lang/IndexOutOfBoundsException") hown [] ⟨0, 10, 13, 13⟩ [⟨0, 10, 17, 79⟩] htab (fun _ h => nomatch h) (by decide) (by decide) (ha _ mw960) (va_Nw.use rfl (hst.cs cs_IndexOutOfBoundsException)) h1 h2 h3 ?_
      refine lv_astore (lv' := [(4, .ref q9), (0, .ref (a o)), (1, .int p2), (2, .int p3), (3, .ref (ay oy))]) hx hb dL_tone_13 hl (by decide) rfl (fun ls hl => ?_)
      refine lv_iconst (v := 1) hx hb dL_tone_15 (by decide) ?_
      obtain rfl := Option.some.inj hF
      exact en_i hQ (Nat.le_of_ble_eq_true rfl) (Nat.le_of_ble_eq_true rfl) hx hb hr hlocks hP hD hS rfl dL_tone_16
    have hF := q_brn w5_0 hF
    by_cases w5_1 : X = "java/util/NoSuchElementException"
    · have hF := q_brp w5_1 hF
      subst w5_1
      refine vx_catch (E := "java/util/NoSuchElementException") (name := "java/util/NoSuchElementException") hown [⟨0, 10, 13, 13⟩] ⟨0, 10, 17, 79⟩ [] htab (List.forall_mem_cons.mpr ⟨Or.inr ⟨by decide, "java/lang/IndexOutOfBoundsException", ha _ mw960, hst.nc (q := ("java/util/NoSuchElementException", "java/lang/IndexOutOfBoundsException")) (List.mem_of_getElem? (i := 15) rfl)⟩, (fun _ h => nomatch h)⟩) (by decide) (by decide) (ha _ mw1268) (va_Nw.use rfl (hst.cs cs_NoSuchElementException)) h1 h2 h3 ?_
      refine lv_astore (lv' := [(4, .ref q9), (0, .ref (a o)), (1, .int p2), (2, .int p3), (3, .ref (ay oy))]) hx hb dL_tone_17 hl (by decide) rfl (fun ls hl => ?_)
      refine lv_iconst (v := 2) hx hb dL_tone_19 (by decide) ?_
      obtain rfl := Option.some.inj hF
      exact en_i hQ (Nat.le_of_ble_eq_true rfl) (Nat.le_of_ble_eq_true rfl) hx hb hr hlocks hP hD hS rfl dL_tone_20
    have hF := q_brn w5_1 hF
    exact absurd hF (by simp)
  have hF := q_sml er2 hF
  refine lv_i2l hx hb dL_tone_8 rfl ?_
  refine vi_last hx hb hst.k hP hD hS 147 3 rfl rfl (f := y) (k := 0) (by decide) (by decide) dL_tone_9 (fun H locs hP hD hS => ?_)
  have hP : va_P E.1 vwCl (List.flatten [w_VBR a o x.2.2.2.1 x.2.2.2.2.1 x.2.2.2.2.2, w_ValleyR a (o + 1), w_Key E a (o + 2) x.1.1.1, w_Bells E a (o + 3) x.1.1.2.1, w_Mel E a (o + 6) x.1.1.2.2.1, w_Cliffs E a (o + 10) x.1.1.2.2.2, w_ValleyR a (o + 13), w_Key E a (o + 14) x.1.2.1.1, w_Bells E a (o + 15) x.1.2.1.2.1, w_Mel E a (o + 18) x.1.2.1.2.2.1, w_Cliffs E a (o + 22) x.1.2.1.2.2.2, w_Prog E a (o + 25) x.1.2.2.2.1, w_Chord E a (o + 31) x.1.2.2.2.2, w_Key E a (o + 34) x.2.1, w_Line E a (o + 35) x.2.2.1, w_Hist E a (o + 37) x.1.2.2.1, w_LongArr E ay oy (vp_updL y 0 (r2.toInt64))]) H := hP
  have hD : va_D A (List.flatten [w_VBR a o x.2.2.2.1 x.2.2.2.2.1 x.2.2.2.2.2, w_ValleyR a (o + 1), w_Key E a (o + 2) x.1.1.1, w_Bells E a (o + 3) x.1.1.2.1, w_Mel E a (o + 6) x.1.1.2.2.1, w_Cliffs E a (o + 10) x.1.1.2.2.2, w_ValleyR a (o + 13), w_Key E a (o + 14) x.1.2.1.1, w_Bells E a (o + 15) x.1.2.1.2.1, w_Mel E a (o + 18) x.1.2.1.2.2.1, w_Cliffs E a (o + 22) x.1.2.1.2.2.2, w_Prog E a (o + 25) x.1.2.2.2.1, w_Chord E a (o + 31) x.1.2.2.2.2, w_Key E a (o + 34) x.2.1, w_Line E a (o + 35) x.2.2.1, w_Hist E a (o + 37) x.1.2.2.1, w_LongArr E ay oy (vp_updL y 0 (r2.toInt64))]) := hD
  refine lv_goto (tgt := 21) hx hb dL_tone_10 (by decide) ?_
  refine lv_iconst (v := 0) hx hb dL_tone_21 (by decide) ?_
  obtain rfl := Option.some.inj hF
  exact en_i hQ (Nat.le_of_ble_eq_true rfl) (Nat.le_of_ble_eq_true rfl) hx hb hr hlocks hP hD hS rfl dL_tone_22

/-! L_entry -/
theorem dL_entry_0 : decode cL_entry 0 = .ok (.aload_n 2, 1) := by decide +kernel
theorem dL_entry_1 : decode cL_entry 1 = .ok (.iconst 0, 1) := by decide +kernel
theorem dL_entry_2 : decode cL_entry 2 = .ok (.aload_n 0, 1) := by decide +kernel
theorem dL_entry_3 : decode cL_entry 3 = .ok (.iload_n 1, 1) := by decide +kernel
theorem dL_entry_4 : decode cL_entry 4 = .ok (.invokevirtual 100, 3) := by decide +kernel
theorem dL_entry_7 : decode cL_entry 7 = .ok (.i2l, 1) := by decide +kernel
theorem dL_entry_8 : decode cL_entry 8 = .ok (.lastore, 1) := by decide +kernel
theorem dL_entry_9 : decode cL_entry 9 = .ok (.goto 6, 3) := by decide +kernel
theorem dL_entry_12 : decode cL_entry 12 = .ok (.astore_n 3, 1) := by decide +kernel
theorem dL_entry_13 : decode cL_entry 13 = .ok (.iconst 1, 1) := by decide +kernel
theorem dL_entry_14 : decode cL_entry 14 = .ok (.ireturn, 1) := by decide +kernel
theorem dL_entry_15 : decode cL_entry 15 = .ok (.iconst 0, 1) := by decide +kernel
theorem dL_entry_16 : decode cL_entry 16 = .ok (.ireturn, 1) := by decide +kernel
def f_L_entry (x_valley_melodies_entries : (Nat → Int32)) (y_v : (Nat → Int64)) (p2 : Int32) : Option (Int32 × (Nat → Int64)) :=
  q_bd (f_X10_entry x_valley_melodies_entries p2) (fun q1 =>
  q_sm q1 (fun X => q_br (X = "java/lang/IndexOutOfBoundsException") (
  some (1, y_v)) (
  none)) (fun r2 =>
  some (0, vp_updL y_v 0 (r2.toInt64))))
theorem hv_L_entry : yL_entry.cls = RL ∧ yL_entry.cls ≠ "java/lang/invoke/MethodHandle" ∧ yL_entry.cls ≠ "java/lang/invoke/VarHandle" ∧ (parseMethodDescriptor yL_entry.desc).map (fun d => d.parameters.length) = some 3 := by decide +kernel
abbrev rm_L_entry : Room := { frames := 8, cells := 1, slots := 6, locals := 123 }
set_option maxHeartbeats 4000000 in
set_option maxRecDepth 100000 in
theorem k_L_entry (l : Launch) (E : ET) (a : Nat → Nat) (o : Nat) (x : VB_t) (ay : Nat → Nat) (oy : Nat) (y : (Nat → Int64)) (p2 : Int32) (res : Int32 × (Nat → Int64)) (hF : f_L_entry x.1.1.2.2.1.2.1 y p2 = some res) (sz : Nat) (hlt : l.stackTraces = false) : CtI l yL_entry (mwsH yL_entry cL_entry 4 (some .int) [(0, 9, 12, 13)]) rm_L_entry 1 6 [.ref (a o), .int p2, .ref (ay oy)] E (bl_VB E a o x ++ bl_LongArr E ay oy y) res.1 (bl_VB E a o x ++ bl_LongArr E ay oy res.2) sz := by
  refine mk_H (by decide +kernel) (Nat.le_of_ble_eq_true rfl) ?_
  intro p e s m below meth c A args Q ls hAe hsz hQ hx hb hr hml hin ha hown hlocks hA hz hzs hst htab hP hD hS hl
  have hown : s.vm.findClass RL = some m.cls := hown
  rw [hAe] at hQ
  subst hsz
  have hP : va_P E.1 vwCl (List.flatten [w_VBR a o x.2.2.2.1 x.2.2.2.2.1 x.2.2.2.2.2, w_ValleyR a (o + 1), w_Key E a (o + 2) x.1.1.1, w_Bells E a (o + 3) x.1.1.2.1, w_Mel E a (o + 6) x.1.1.2.2.1, w_Cliffs E a (o + 10) x.1.1.2.2.2, w_ValleyR a (o + 13), w_Key E a (o + 14) x.1.2.1.1, w_Bells E a (o + 15) x.1.2.1.2.1, w_Mel E a (o + 18) x.1.2.1.2.2.1, w_Cliffs E a (o + 22) x.1.2.1.2.2.2, w_Prog E a (o + 25) x.1.2.2.2.1, w_Chord E a (o + 31) x.1.2.2.2.2, w_Key E a (o + 34) x.2.1, w_Line E a (o + 35) x.2.2.1, w_Hist E a (o + 37) x.1.2.2.1, w_LongArr E ay oy y]) s.heap := hP
  have hD : va_D A (List.flatten [w_VBR a o x.2.2.2.1 x.2.2.2.2.1 x.2.2.2.2.2, w_ValleyR a (o + 1), w_Key E a (o + 2) x.1.1.1, w_Bells E a (o + 3) x.1.1.2.1, w_Mel E a (o + 6) x.1.1.2.2.1, w_Cliffs E a (o + 10) x.1.1.2.2.2, w_ValleyR a (o + 13), w_Key E a (o + 14) x.1.2.1.1, w_Bells E a (o + 15) x.1.2.1.2.1, w_Mel E a (o + 18) x.1.2.1.2.2.1, w_Cliffs E a (o + 22) x.1.2.1.2.2.2, w_Prog E a (o + 25) x.1.2.2.2.1, w_Chord E a (o + 31) x.1.2.2.2.2, w_Key E a (o + 34) x.2.1, w_Line E a (o + 35) x.2.2.1, w_Hist E a (o + 37) x.1.2.2.1, w_LongArr E ay oy y]) := hD
  have hl : lv_has ls 4 [(0, .ref (a o)), (1, .int p2), (2, .ref (ay oy))] := hl
  generalize hHe : s.heap = H at hP
  have hS : va_S A s.heap H [] := by rw [← hHe]; exact hS
  generalize ([] : List Loc) = locs at hS ⊢
  unfold f_L_entry at hF
  refine lv_aload_n hx hb dL_entry_0 rfl (lv_at hl 2 rfl) ?_
  refine lv_iconst (v := 0) hx hb dL_entry_1 (by decide) ?_
  refine lv_aload_n hx hb dL_entry_2 rfl (lv_at hl 0 rfl) ?_
  refine lv_iload_n hx hb dL_entry_3 rfl (lv_at hl 1 rfl) ?_
  obtain ⟨q1, hq1, hF⟩ := q_bdi hF
  refine cx_i (ro := q1) (Lc := [w_VBR a o x.2.2.2.1 x.2.2.2.2.1 x.2.2.2.2.2, w_ValleyR a (o + 1), w_Key E a (o + 2) x.1.1.1, w_Bells E a (o + 3) x.1.1.2.1, w_Mel E a (o + 6) x.1.1.2.2.1, w_Cliffs E a (o + 10) x.1.1.2.2.2, w_ValleyR a (o + 13), w_Key E a (o + 14) x.1.2.1.1, w_Bells E a (o + 15) x.1.2.1.2.1, w_Mel E a (o + 18) x.1.2.1.2.2.1, w_Cliffs E a (o + 22) x.1.2.1.2.2.2, w_Prog E a (o + 25) x.1.2.2.2.1, w_Chord E a (o + 31) x.1.2.2.2.2, w_Key E a (o + 34) x.2.1, w_Line E a (o + 35) x.2.2.1, w_Hist E a (o + 37) x.1.2.2.1]) (Lc' := [w_VBR a o x.2.2.2.1 x.2.2.2.2.1 x.2.2.2.2.2, w_ValleyR a (o + 1), w_Key E a (o + 2) x.1.1.1, w_Bells E a (o + 3) x.1.1.2.1, w_Mel E a (o + 6) x.1.1.2.2.1, w_Cliffs E a (o + 10) x.1.1.2.2.2, w_ValleyR a (o + 13), w_Key E a (o + 14) x.1.2.1.1, w_Bells E a (o + 15) x.1.2.1.2.1, w_Mel E a (o + 18) x.1.2.1.2.2.1, w_Cliffs E a (o + 22) x.1.2.1.2.2.2, w_Prog E a (o + 25) x.1.2.2.2.1, w_Chord E a (o + 31) x.1.2.2.2.2, w_Key E a (o + 34) x.2.1, w_Line E a (o + 35) x.2.2.1, w_Hist E a (o + 37) x.1.2.2.1]) (L' := [w_VBR a o x.2.2.2.1 x.2.2.2.2.1 x.2.2.2.2.2, w_ValleyR a (o + 1), w_Key E a (o + 2) x.1.1.1, w_Bells E a (o + 3) x.1.1.2.1, w_Mel E a (o + 6) x.1.1.2.2.1, w_Cliffs E a (o + 10) x.1.1.2.2.2, w_ValleyR a (o + 13), w_Key E a (o + 14) x.1.2.1.1, w_Bells E a (o + 15) x.1.2.1.2.1, w_Mel E a (o + 18) x.1.2.1.2.2.1, w_Cliffs E a (o + 22) x.1.2.1.2.2.2, w_Prog E a (o + 25) x.1.2.2.2.1, w_Chord E a (o + 31) x.1.2.2.2.2, w_Key E a (o + 34) x.2.1, w_Line E a (o + 35) x.2.2.1, w_Hist E a (o + 37) x.1.2.2.1, w_LongArr E ay oy y]) (vx_runV (As := [.int p2]) (rest := [.int 0, .ref (ay oy)]) ⟨hx, hb, hml, hown, ha⟩ (k_X10_entry l E a o x p2 q1 hq1 H.size hlt) (cwV 1 ha (gi_V (fun _ h => h) mw1372 mw1373 mw1374 mw74 mw1375) rfl rfl rfl hv_X10_entry ⟨(Nat.le_of_ble_eq_true rfl), (Nat.le_of_ble_eq_true rfl)⟩) ⟨pre_blind, va_recv hst.k (fr_P hP [0, 1, 2, 3, 4, 5, 6, 7, 8, 9, 10, 11, 12, 13, 14, 15] rfl) (ci := 12) (q0 := 0) rfl rfl, pre_at hP hD hS hz hzs hst [0, 1, 2, 3, 4, 5, 6, 7, 8, 9, 10, 11, 12, 13, 14, 15] (by decide) rfl rfl⟩ rfl rfl hl.1 rfl (lv_room (Nat.le_of_ble_eq_true rfl)) dL_entry_4 ⟨(Nat.le_of_ble_eq_true rfl), (Nat.le_of_ble_eq_true rfl)⟩) hP hD hS hA [0, 1, 2, 3, 4, 5, 6, 7, 8, 9, 10, 11, 12, 13, 14, 15] (by decide) rfl rfl rfl rfl (fun X ce q9 H locs eX h1 h2 h3 hP hD hS => ?_) (fun r2 H locs er2 hP hD hS => ?_)
  · have hF := q_smr eX hF
    by_cases w4_0 : X = "java/lang/IndexOutOfBoundsException"
    · have hF := q_brp w4_0 hF
      subst w4_0
      refine vx_catch (E := "java/lang/IndexOutOfBoundsException") (name := "java/lang/IndexOutOfBoundsException") hown [] ⟨0, 9, 12, 13⟩ [] htab (fun _ h => nomatch h) (by decide) (by decide) (ha _ mw960) (va_Nw.use rfl (hst.cs cs_IndexOutOfBoundsException)) h1 h2 h3 ?_
      refine lv_astore_n (lv' := [(3, .ref q9), (0, .ref (a o)), (1, .int p2), (2, .ref (ay oy))]) hx hb dL_entry_12 rfl hl (by decide) rfl (fun ls hl => ?_)
      refine lv_iconst (v := 1) hx hb dL_entry_13 (by decide) ?_
      obtain rfl := Option.some.inj hF
      exact en_i hQ (Nat.le_of_ble_eq_true rfl) (Nat.le_of_ble_eq_true rfl) hx hb hr hlocks hP hD hS rfl dL_entry_14
    have hF := q_brn w4_0 hF
    exact absurd hF (by simp)
  have hF := q_sml er2 hF
  refine lv_i2l hx hb dL_entry_7 rfl ?_
  refine vi_last hx hb hst.k hP hD hS 147 3 rfl rfl (f := y) (k := 0) (by decide) (by decide) dL_entry_8 (fun H locs hP hD hS => ?_)
  have hP : va_P E.1 vwCl (List.flatten [w_VBR a o x.2.2.2.1 x.2.2.2.2.1 x.2.2.2.2.2, w_ValleyR a (o + 1), w_Key E a (o + 2) x.1.1.1, w_Bells E a (o + 3) x.1.1.2.1, w_Mel E a (o + 6) x.1.1.2.2.1, w_Cliffs E a (o + 10) x.1.1.2.2.2, w_ValleyR a (o + 13), w_Key E a (o + 14) x.1.2.1.1, w_Bells E a (o + 15) x.1.2.1.2.1, w_Mel E a (o + 18) x.1.2.1.2.2.1, w_Cliffs E a (o + 22) x.1.2.1.2.2.2, w_Prog E a (o + 25) x.1.2.2.2.1, w_Chord E a (o + 31) x.1.2.2.2.2, w_Key E a (o + 34) x.2.1, w_Line E a (o + 35) x.2.2.1, w_Hist E a (o + 37) x.1.2.2.1, w_LongArr E ay oy (vp_updL y 0 (r2.toInt64))]) H := hP
  have hD : va_D A (List.flatten [w_VBR a o x.2.2.2.1 x.2.2.2.2.1 x.2.2.2.2.2, w_ValleyR a (o + 1), w_Key E a (o + 2) x.1.1.1, w_Bells E a (o + 3) x.1.1.2.1, w_Mel E a (o + 6) x.1.1.2.2.1, w_Cliffs E a (o + 10) x.1.1.2.2.2, w_ValleyR a (o + 13), w_Key E a (o + 14) x.1.2.1.1, w_Bells E a (o + 15) x.1.2.1.2.1, w_Mel E a (o + 18) x.1.2.1.2.2.1, w_Cliffs E a (o + 22) x.1.2.1.2.2.2, w_Prog E a (o + 25) x.1.2.2.2.1, w_Chord E a (o + 31) x.1.2.2.2.2, w_Key E a (o + 34) x.2.1, w_Line E a (o + 35) x.2.2.1, w_Hist E a (o + 37) x.1.2.2.1, w_LongArr E ay oy (vp_updL y 0 (r2.toInt64))]) := hD
  refine lv_goto (tgt := 15) hx hb dL_entry_9 (by decide) ?_
  refine lv_iconst (v := 0) hx hb dL_entry_15 (by decide) ?_
  obtain rfl := Option.some.inj hF
  exact en_i hQ (Nat.le_of_ble_eq_true rfl) (Nat.le_of_ble_eq_true rfl) hx hb hr hlocks hP hD hS rfl dL_entry_16

/-! L_canonInterval -/
theorem dL_canonInterval_0 : decode cL_canonInterval 0 = .ok (.aload_n 3, 1) := by decide +kernel
theorem dL_canonInterval_1 : decode cL_canonInterval 1 = .ok (.iconst 0, 1) := by decide +kernel
theorem dL_canonInterval_2 : decode cL_canonInterval 2 = .ok (.aload_n 0, 1) := by decide +kernel
theorem dL_canonInterval_3 : decode cL_canonInterval 3 = .ok (.iload_n 1, 1) := by decide +kernel
theorem dL_canonInterval_4 : decode cL_canonInterval 4 = .ok (.iload_n 2, 1) := by decide +kernel
theorem dL_canonInterval_5 : decode cL_canonInterval 5 = .ok (.invokevirtual 103, 3) := by decide +kernel
theorem dL_canonInterval_8 : decode cL_canonInterval 8 = .ok (.i2l, 1) := by decide +kernel
theorem dL_canonInterval_9 : decode cL_canonInterval 9 = .ok (.lastore, 1) := by decide +kernel
theorem dL_canonInterval_10 : decode cL_canonInterval 10 = .ok (.goto 11, 3) := by decide +kernel
theorem dL_canonInterval_13 : decode cL_canonInterval 13 = .ok (.astore 4, 2) := by decide +kernel
theorem dL_canonInterval_15 : decode cL_canonInterval 15 = .ok (.iconst 1, 1) := by decide +kernel
theorem dL_canonInterval_16 : decode cL_canonInterval 16 = .ok (.ireturn, 1) := by decide +kernel
theorem dL_canonInterval_17 : decode cL_canonInterval 17 = .ok (.astore 4, 2) := by decide +kernel
theorem dL_canonInterval_19 : decode cL_canonInterval 19 = .ok (.iconst 2, 1) := by decide +kernel
theorem dL_canonInterval_20 : decode cL_canonInterval 20 = .ok (.ireturn, 1) := by decide +kernel
theorem dL_canonInterval_21 : decode cL_canonInterval 21 = .ok (.iconst 0, 1) := by decide +kernel
theorem dL_canonInterval_22 : decode cL_canonInterval 22 = .ok (.ireturn, 1) := by decide +kernel
def f_L_canonInterval (x_valley_bells_pitches : (Nat → Int32)) (x_valley_melodies_lengths : (Nat → Int32)) (x_valley_melodies_tones : (Nat → Int32)) (y_v : (Nat → Int64)) (p2 : Int32) (p3 : Int32) : Option (Int32 × (Nat → Int64)) :=
  q_bd (f_X10_canonInterval x_valley_bells_pitches x_valley_melodies_lengths x_valley_melodies_tones p2 p3) (fun q1 =>
  q_sm q1 (fun X => q_br (X = "java/lang/IndexOutOfBoundsException") (
  some (1, y_v)) (
  q_br (X = "java/util/NoSuchElementException") (
  some (2, y_v)) (
  none))) (fun r2 =>
  some (0, vp_updL y_v 0 (r2.toInt64))))
theorem hv_L_canonInterval : yL_canonInterval.cls = RL ∧ yL_canonInterval.cls ≠ "java/lang/invoke/MethodHandle" ∧ yL_canonInterval.cls ≠ "java/lang/invoke/VarHandle" ∧ (parseMethodDescriptor yL_canonInterval.desc).map (fun d => d.parameters.length) = some 4 := by decide +kernel
abbrev rm_L_canonInterval : Room := { frames := 8, cells := 3, slots := 18, locals := 154 }
set_option maxHeartbeats 4000000 in
set_option maxRecDepth 100000 in
theorem k_L_canonInterval (l : Launch) (E : ET) (a : Nat → Nat) (o : Nat) (x : VB_t) (ay : Nat → Nat) (oy : Nat) (y : (Nat → Int64)) (p2 : Int32) (p3 : Int32) (res : Int32 × (Nat → Int64)) (hF : f_L_canonInterval x.1.1.2.1.2.1 x.1.1.2.2.1.1 x.1.1.2.2.1.2.2 y p2 p3 = some res) (sz : Nat) (hlt : l.stackTraces = false) : CtI l yL_canonInterval (mwsH yL_canonInterval cL_canonInterval 5 (some .int) [(0, 10, 13, 13), (0, 10, 17, 79)]) rm_L_canonInterval 3 18 [.ref (a o), .int p2, .int p3, .ref (ay oy)] E (bl_VB E a o x ++ bl_LongArr E ay oy y) res.1 (bl_VB E a o x ++ bl_LongArr E ay oy res.2) sz := by
  refine mk_H (by decide +kernel) (Nat.le_of_ble_eq_true rfl) ?_
  intro p e s m below meth c A args Q ls hAe hsz hQ hx hb hr hml hin ha hown hlocks hA hz hzs hst htab hP hD hS hl
  have hown : s.vm.findClass RL = some m.cls := hown
  rw [hAe] at hQ
  subst hsz
  have hP : va_P E.1 vwCl (List.flatten [w_VBR a o x.2.2.2.1 x.2.2.2.2.1 x.2.2.2.2.2, w_ValleyR a (o + 1), w_Key E a (o + 2) x.1.1.1, w_Bells E a (o + 3) x.1.1.2.1, w_Mel E a (o + 6) x.1.1.2.2.1, w_Cliffs E a (o + 10) x.1.1.2.2.2, w_ValleyR a (o + 13), w_Key E a (o + 14) x.1.2.1.1, w_Bells E a (o + 15) x.1.2.1.2.1, w_Mel E a (o + 18) x.1.2.1.2.2.1, w_Cliffs E a (o + 22) x.1.2.1.2.2.2, w_Prog E a (o + 25) x.1.2.2.2.1, w_Chord E a (o + 31) x.1.2.2.2.2, w_Key E a (o + 34) x.2.1, w_Line E a (o + 35) x.2.2.1, w_Hist E a (o + 37) x.1.2.2.1, w_LongArr E ay oy y]) s.heap := hP
  have hD : va_D A (List.flatten [w_VBR a o x.2.2.2.1 x.2.2.2.2.1 x.2.2.2.2.2, w_ValleyR a (o + 1), w_Key E a (o + 2) x.1.1.1, w_Bells E a (o + 3) x.1.1.2.1, w_Mel E a (o + 6) x.1.1.2.2.1, w_Cliffs E a (o + 10) x.1.1.2.2.2, w_ValleyR a (o + 13), w_Key E a (o + 14) x.1.2.1.1, w_Bells E a (o + 15) x.1.2.1.2.1, w_Mel E a (o + 18) x.1.2.1.2.2.1, w_Cliffs E a (o + 22) x.1.2.1.2.2.2, w_Prog E a (o + 25) x.1.2.2.2.1, w_Chord E a (o + 31) x.1.2.2.2.2, w_Key E a (o + 34) x.2.1, w_Line E a (o + 35) x.2.2.1, w_Hist E a (o + 37) x.1.2.2.1, w_LongArr E ay oy y]) := hD
  have hl : lv_has ls 5 [(0, .ref (a o)), (1, .int p2), (2, .int p3), (3, .ref (ay oy))] := hl
  generalize hHe : s.heap = H at hP
  have hS : va_S A s.heap H [] := by rw [← hHe]; exact hS
  generalize ([] : List Loc) = locs at hS ⊢
  unfold f_L_canonInterval at hF
  refine lv_aload_n hx hb dL_canonInterval_0 rfl (lv_at hl 3 rfl) ?_
  refine lv_iconst (v := 0) hx hb dL_canonInterval_1 (by decide) ?_
  refine lv_aload_n hx hb dL_canonInterval_2 rfl (lv_at hl 0 rfl) ?_
  refine lv_iload_n hx hb dL_canonInterval_3 rfl (lv_at hl 1 rfl) ?_
  refine lv_iload_n hx hb dL_canonInterval_4 rfl (lv_at hl 2 rfl) ?_
  obtain ⟨q1, hq1, hF⟩ := q_bdi hF
  refine cx_i (ro := q1) (Lc := [w_VBR a o x.2.2.2.1 x.2.2.2.2.1 x.2.2.2.2.2, w_ValleyR a (o + 1), w_Key E a (o + 2) x.1.1.1, w_Bells E a (o + 3) x.1.1.2.1, w_Mel E a (o + 6) x.1.1.2.2.1, w_Cliffs E a (o + 10) x.1.1.2.2.2, w_ValleyR a (o + 13), w_Key E a (o + 14) x.1.2.1.1, w_Bells E a (o + 15) x.1.2.1.2.1, w_Mel E a (o + 18) x.1.2.1.2.2.1, w_Cliffs E a (o + 22) x.1.2.1.2.2.2, w_Prog E a (o + 25) x.1.2.2.2.1, w_Chord E a (o + 31) x.1.2.2.2.2, w_Key E a (o + 34) x.2.1, w_Line E a (o + 35) x.2.2.1, w_Hist E a (o + 37) x.1.2.2.1]) (Lc' := [w_VBR a o x.2.2.2.1 x.2.2.2.2.1 x.2.2.2.2.2, w_ValleyR a (o + 1), w_Key E a (o + 2) x.1.1.1, w_Bells E a (o + 3) x.1.1.2.1, w_Mel E a (o + 6) x.1.1.2.2.1, w_Cliffs E a (o + 10) x.1.1.2.2.2, w_ValleyR a (o + 13), w_Key E a (o + 14) x.1.2.1.1, w_Bells E a (o + 15) x.1.2.1.2.1, w_Mel E a (o + 18) x.1.2.1.2.2.1, w_Cliffs E a (o + 22) x.1.2.1.2.2.2, w_Prog E a (o + 25) x.1.2.2.2.1, w_Chord E a (o + 31) x.1.2.2.2.2, w_Key E a (o + 34) x.2.1, w_Line E a (o + 35) x.2.2.1, w_Hist E a (o + 37) x.1.2.2.1]) (L' := [w_VBR a o x.2.2.2.1 x.2.2.2.2.1 x.2.2.2.2.2, w_ValleyR a (o + 1), w_Key E a (o + 2) x.1.1.1, w_Bells E a (o + 3) x.1.1.2.1, w_Mel E a (o + 6) x.1.1.2.2.1, w_Cliffs E a (o + 10) x.1.1.2.2.2, w_ValleyR a (o + 13), w_Key E a (o + 14) x.1.2.1.1, w_Bells E a (o + 15) x.1.2.1.2.1, w_Mel E a (o + 18) x.1.2.1.2.2.1, w_Cliffs E a (o + 22) x.1.2.1.2.2.2, w_Prog E a (o + 25) x.1.2.2.2.1, w_Chord E a (o + 31) x.1.2.2.2.2, w_Key E a (o + 34) x.2.1, w_Line E a (o + 35) x.2.2.1, w_Hist E a (o + 37) x.1.2.2.1, w_LongArr E ay oy y]) (vx_runV (As := [.int p2, .int p3]) (rest := [.int 0, .ref (ay oy)]) ⟨hx, hb, hml, hown, ha⟩ (k_X10_canonInterval l E a o x p2 p3 q1 hq1 H.size hlt) (cwV 2 ha (gi_V (fun _ h => h) mw1379 mw1380 mw1381 mw74 mw1382) rfl rfl rfl hv_X10_canonInterval ⟨(Nat.le_of_ble_eq_true rfl), (Nat.le_of_ble_eq_true rfl)⟩) ⟨pre_blind, va_recv hst.k (fr_P hP [0, 1, 2, 3, 4, 5, 6, 7, 8, 9, 10, 11, 12, 13, 14, 15] rfl) (ci := 12) (q0 := 0) rfl rfl, pre_at hP hD hS hz hzs hst [0, 1, 2, 3, 4, 5, 6, 7, 8, 9, 10, 11, 12, 13, 14, 15] (by decide) rfl rfl⟩ rfl rfl hl.1 rfl (lv_room (Nat.le_of_ble_eq_true rfl)) dL_canonInterval_5 ⟨(Nat.le_of_ble_eq_true rfl), (Nat.le_of_ble_eq_true rfl)⟩) hP hD hS hA [0, 1, 2, 3, 4, 5, 6, 7, 8, 9, 10, 11, 12, 13, 14, 15] (by decide) rfl rfl rfl rfl (fun X ce q9 H locs eX h1 h2 h3 hP hD hS => ?_) (fun r2 H locs er2 hP hD hS => ?_)
  · have hF := q_smr eX hF
    by_cases w5_0 : X = "java/lang/IndexOutOfBoundsException"
    · have hF := q_brp w5_0 hF
      subst w5_0
      refine vx_catch (E := "java/lang/IndexOutOfBoundsException") (name := "java/lang/IndexOutOfBoundsException") hown [] ⟨0, 10, 13, 13⟩ [⟨0, 10, 17, 79⟩] htab (fun _ h => nomatch h) (by decide) (by decide) (ha _ mw960) (va_Nw.use rfl (hst.cs cs_IndexOutOfBoundsException)) h1 h2 h3 ?_
      refine lv_astore (lv' := [(4, .ref q9), (0, .ref (a o)), (1, .int p2), (2, .int p3), (3, .ref (ay oy))]) hx hb dL_canonInterval_13 hl (by decide) rfl (fun ls hl => ?_)
      refine lv_iconst (v := 1) hx hb dL_canonInterval_15 (by decide) ?_
      obtain rfl := Option.some.inj hF
      exact en_i hQ (Nat.le_of_ble_eq_true rfl) (Nat.le_of_ble_eq_true rfl) hx hb hr hlocks hP hD hS rfl dL_canonInterval_16
    have hF := q_brn w5_0 hF
    by_cases w5_1 : X = "java/util/NoSuchElementException"
    · have hF := q_brp w5_1 hF
      subst w5_1
      refine vx_catch (E := "java/util/NoSuchElementException") (name := "java/util/NoSuchElementException") hown [⟨0, 10, 13, 13⟩] ⟨0, 10, 17, 79⟩ [] htab (List.forall_mem_cons.mpr ⟨Or.inr ⟨by decide, "java/lang/IndexOutOfBoundsException", ha _ mw960, hst.nc (q := ("java/util/NoSuchElementException", "java/lang/IndexOutOfBoundsException")) (List.mem_of_getElem? (i := 15) rfl)⟩, (fun _ h => nomatch h)⟩) (by decide) (by decide) (ha _ mw1268) (va_Nw.use rfl (hst.cs cs_NoSuchElementException)) h1 h2 h3 ?_
      refine lv_astore (lv' := [(4, .ref q9), (0, .ref (a o)), (1, .int p2), (2, .int p3), (3, .ref (ay oy))]) hx hb dL_canonInterval_17 hl (by decide) rfl (fun ls hl => ?_)
      refine lv_iconst (v := 2) hx hb dL_canonInterval_19 (by decide) ?_
      obtain rfl := Option.some.inj hF
      exact en_i hQ (Nat.le_of_ble_eq_true rfl) (Nat.le_of_ble_eq_true rfl) hx hb hr hlocks hP hD hS rfl dL_canonInterval_20
    have hF := q_brn w5_1 hF
    exact absurd hF (by simp)
  have hF := q_sml er2 hF
  refine lv_i2l hx hb dL_canonInterval_8 rfl ?_
  refine vi_last hx hb hst.k hP hD hS 147 3 rfl rfl (f := y) (k := 0) (by decide) (by decide) dL_canonInterval_9 (fun H locs hP hD hS => ?_)
  have hP : va_P E.1 vwCl (List.flatten [w_VBR a o x.2.2.2.1 x.2.2.2.2.1 x.2.2.2.2.2, w_ValleyR a (o + 1), w_Key E a (o + 2) x.1.1.1, w_Bells E a (o + 3) x.1.1.2.1, w_Mel E a (o + 6) x.1.1.2.2.1, w_Cliffs E a (o + 10) x.1.1.2.2.2, w_ValleyR a (o + 13), w_Key E a (o + 14) x.1.2.1.1, w_Bells E a (o + 15) x.1.2.1.2.1, w_Mel E a (o + 18) x.1.2.1.2.2.1, w_Cliffs E a (o + 22) x.1.2.1.2.2.2, w_Prog E a (o + 25) x.1.2.2.2.1, w_Chord E a (o + 31) x.1.2.2.2.2, w_Key E a (o + 34) x.2.1, w_Line E a (o + 35) x.2.2.1, w_Hist E a (o + 37) x.1.2.2.1, w_LongArr E ay oy (vp_updL y 0 (r2.toInt64))]) H := hP
  have hD : va_D A (List.flatten [w_VBR a o x.2.2.2.1 x.2.2.2.2.1 x.2.2.2.2.2, w_ValleyR a (o + 1), w_Key E a (o + 2) x.1.1.1, w_Bells E a (o + 3) x.1.1.2.1, w_Mel E a (o + 6) x.1.1.2.2.1, w_Cliffs E a (o + 10) x.1.1.2.2.2, w_ValleyR a (o + 13), w_Key E a (o + 14) x.1.2.1.1, w_Bells E a (o + 15) x.1.2.1.2.1, w_Mel E a (o + 18) x.1.2.1.2.2.1, w_Cliffs E a (o + 22) x.1.2.1.2.2.2, w_Prog E a (o + 25) x.1.2.2.2.1, w_Chord E a (o + 31) x.1.2.2.2.2, w_Key E a (o + 34) x.2.1, w_Line E a (o + 35) x.2.2.1, w_Hist E a (o + 37) x.1.2.2.1, w_LongArr E ay oy (vp_updL y 0 (r2.toInt64))]) := hD
  refine lv_goto (tgt := 21) hx hb dL_canonInterval_10 (by decide) ?_
  refine lv_iconst (v := 0) hx hb dL_canonInterval_21 (by decide) ?_
  obtain rfl := Option.some.inj hF
  exact en_i hQ (Nat.le_of_ble_eq_true rfl) (Nat.le_of_ble_eq_true rfl) hx hb hr hlocks hP hD hS rfl dL_canonInterval_22

/-! L_delay -/
theorem dL_delay_0 : decode cL_delay 0 = .ok (.aload_n 2, 1) := by decide +kernel
theorem dL_delay_1 : decode cL_delay 1 = .ok (.iconst 0, 1) := by decide +kernel
theorem dL_delay_2 : decode cL_delay 2 = .ok (.aload_n 0, 1) := by decide +kernel
theorem dL_delay_3 : decode cL_delay 3 = .ok (.iload_n 1, 1) := by decide +kernel
theorem dL_delay_4 : decode cL_delay 4 = .ok (.invokevirtual 106, 3) := by decide +kernel
theorem dL_delay_7 : decode cL_delay 7 = .ok (.i2l, 1) := by decide +kernel
theorem dL_delay_8 : decode cL_delay 8 = .ok (.lastore, 1) := by decide +kernel
theorem dL_delay_9 : decode cL_delay 9 = .ok (.goto 6, 3) := by decide +kernel
theorem dL_delay_12 : decode cL_delay 12 = .ok (.astore_n 3, 1) := by decide +kernel
theorem dL_delay_13 : decode cL_delay 13 = .ok (.iconst 1, 1) := by decide +kernel
theorem dL_delay_14 : decode cL_delay 14 = .ok (.ireturn, 1) := by decide +kernel
theorem dL_delay_15 : decode cL_delay 15 = .ok (.iconst 0, 1) := by decide +kernel
theorem dL_delay_16 : decode cL_delay 16 = .ok (.ireturn, 1) := by decide +kernel
def f_L_delay (x_valley_cliffs_delays : (Nat → Int32)) (x_valley_cliffs_count : Int32) (y_v : (Nat → Int64)) (p2 : Int32) : Option (Int32 × (Nat → Int64)) :=
  q_bd (f_X10_delay x_valley_cliffs_delays x_valley_cliffs_count p2) (fun q1 =>
  q_sm q1 (fun X => q_br (X = "java/lang/IndexOutOfBoundsException") (
  some (1, y_v)) (
  none)) (fun r2 =>
  some (0, vp_updL y_v 0 (r2.toInt64))))
theorem hv_L_delay : yL_delay.cls = RL ∧ yL_delay.cls ≠ "java/lang/invoke/MethodHandle" ∧ yL_delay.cls ≠ "java/lang/invoke/VarHandle" ∧ (parseMethodDescriptor yL_delay.desc).map (fun d => d.parameters.length) = some 3 := by decide +kernel
abbrev rm_L_delay : Room := { frames := 8, cells := 1, slots := 6, locals := 124 }
set_option maxHeartbeats 4000000 in
set_option maxRecDepth 100000 in
theorem k_L_delay (l : Launch) (E : ET) (a : Nat → Nat) (o : Nat) (x : VB_t) (ay : Nat → Nat) (oy : Nat) (y : (Nat → Int64)) (p2 : Int32) (res : Int32 × (Nat → Int64)) (hF : f_L_delay x.1.1.2.2.2.1 x.1.1.2.2.2.2.2 y p2 = some res) (sz : Nat) (hlt : l.stackTraces = false) : CtI l yL_delay (mwsH yL_delay cL_delay 4 (some .int) [(0, 9, 12, 13)]) rm_L_delay 1 6 [.ref (a o), .int p2, .ref (ay oy)] E (bl_VB E a o x ++ bl_LongArr E ay oy y) res.1 (bl_VB E a o x ++ bl_LongArr E ay oy res.2) sz := by
  refine mk_H (by decide +kernel) (Nat.le_of_ble_eq_true rfl) ?_
  intro p e s m below meth c A args Q ls hAe hsz hQ hx hb hr hml hin ha hown hlocks hA hz hzs hst htab hP hD hS hl
  have hown : s.vm.findClass RL = some m.cls := hown
  rw [hAe] at hQ
  subst hsz
  have hP : va_P E.1 vwCl (List.flatten [w_VBR a o x.2.2.2.1 x.2.2.2.2.1 x.2.2.2.2.2, w_ValleyR a (o + 1), w_Key E a (o + 2) x.1.1.1, w_Bells E a (o + 3) x.1.1.2.1, w_Mel E a (o + 6) x.1.1.2.2.1, w_Cliffs E a (o + 10) x.1.1.2.2.2, w_ValleyR a (o + 13), w_Key E a (o + 14) x.1.2.1.1, w_Bells E a (o + 15) x.1.2.1.2.1, w_Mel E a (o + 18) x.1.2.1.2.2.1, w_Cliffs E a (o + 22) x.1.2.1.2.2.2, w_Prog E a (o + 25) x.1.2.2.2.1, w_Chord E a (o + 31) x.1.2.2.2.2, w_Key E a (o + 34) x.2.1, w_Line E a (o + 35) x.2.2.1, w_Hist E a (o + 37) x.1.2.2.1, w_LongArr E ay oy y]) s.heap := hP
  have hD : va_D A (List.flatten [w_VBR a o x.2.2.2.1 x.2.2.2.2.1 x.2.2.2.2.2, w_ValleyR a (o + 1), w_Key E a (o + 2) x.1.1.1, w_Bells E a (o + 3) x.1.1.2.1, w_Mel E a (o + 6) x.1.1.2.2.1, w_Cliffs E a (o + 10) x.1.1.2.2.2, w_ValleyR a (o + 13), w_Key E a (o + 14) x.1.2.1.1, w_Bells E a (o + 15) x.1.2.1.2.1, w_Mel E a (o + 18) x.1.2.1.2.2.1, w_Cliffs E a (o + 22) x.1.2.1.2.2.2, w_Prog E a (o + 25) x.1.2.2.2.1, w_Chord E a (o + 31) x.1.2.2.2.2, w_Key E a (o + 34) x.2.1, w_Line E a (o + 35) x.2.2.1, w_Hist E a (o + 37) x.1.2.2.1, w_LongArr E ay oy y]) := hD
  have hl : lv_has ls 4 [(0, .ref (a o)), (1, .int p2), (2, .ref (ay oy))] := hl
  generalize hHe : s.heap = H at hP
  have hS : va_S A s.heap H [] := by rw [← hHe]; exact hS
  generalize ([] : List Loc) = locs at hS ⊢
  unfold f_L_delay at hF
  refine lv_aload_n hx hb dL_delay_0 rfl (lv_at hl 2 rfl) ?_
  refine lv_iconst (v := 0) hx hb dL_delay_1 (by decide) ?_
  refine lv_aload_n hx hb dL_delay_2 rfl (lv_at hl 0 rfl) ?_
  refine lv_iload_n hx hb dL_delay_3 rfl (lv_at hl 1 rfl) ?_
  obtain ⟨q1, hq1, hF⟩ := q_bdi hF
  refine cx_i (ro := q1) (Lc := [w_VBR a o x.2.2.2.1 x.2.2.2.2.1 x.2.2.2.2.2, w_ValleyR a (o + 1), w_Key E a (o + 2) x.1.1.1, w_Bells E a (o + 3) x.1.1.2.1, w_Mel E a (o + 6) x.1.1.2.2.1, w_Cliffs E a (o + 10) x.1.1.2.2.2, w_ValleyR a (o + 13), w_Key E a (o + 14) x.1.2.1.1, w_Bells E a (o + 15) x.1.2.1.2.1, w_Mel E a (o + 18) x.1.2.1.2.2.1, w_Cliffs E a (o + 22) x.1.2.1.2.2.2, w_Prog E a (o + 25) x.1.2.2.2.1, w_Chord E a (o + 31) x.1.2.2.2.2, w_Key E a (o + 34) x.2.1, w_Line E a (o + 35) x.2.2.1, w_Hist E a (o + 37) x.1.2.2.1]) (Lc' := [w_VBR a o x.2.2.2.1 x.2.2.2.2.1 x.2.2.2.2.2, w_ValleyR a (o + 1), w_Key E a (o + 2) x.1.1.1, w_Bells E a (o + 3) x.1.1.2.1, w_Mel E a (o + 6) x.1.1.2.2.1, w_Cliffs E a (o + 10) x.1.1.2.2.2, w_ValleyR a (o + 13), w_Key E a (o + 14) x.1.2.1.1, w_Bells E a (o + 15) x.1.2.1.2.1, w_Mel E a (o + 18) x.1.2.1.2.2.1, w_Cliffs E a (o + 22) x.1.2.1.2.2.2, w_Prog E a (o + 25) x.1.2.2.2.1, w_Chord E a (o + 31) x.1.2.2.2.2, w_Key E a (o + 34) x.2.1, w_Line E a (o + 35) x.2.2.1, w_Hist E a (o + 37) x.1.2.2.1]) (L' := [w_VBR a o x.2.2.2.1 x.2.2.2.2.1 x.2.2.2.2.2, w_ValleyR a (o + 1), w_Key E a (o + 2) x.1.1.1, w_Bells E a (o + 3) x.1.1.2.1, w_Mel E a (o + 6) x.1.1.2.2.1, w_Cliffs E a (o + 10) x.1.1.2.2.2, w_ValleyR a (o + 13), w_Key E a (o + 14) x.1.2.1.1, w_Bells E a (o + 15) x.1.2.1.2.1, w_Mel E a (o + 18) x.1.2.1.2.2.1, w_Cliffs E a (o + 22) x.1.2.1.2.2.2, w_Prog E a (o + 25) x.1.2.2.2.1, w_Chord E a (o + 31) x.1.2.2.2.2, w_Key E a (o + 34) x.2.1, w_Line E a (o + 35) x.2.2.1, w_Hist E a (o + 37) x.1.2.2.1, w_LongArr E ay oy y]) (vx_runV (As := [.int p2]) (rest := [.int 0, .ref (ay oy)]) ⟨hx, hb, hml, hown, ha⟩ (k_X10_delay l E a o x p2 q1 hq1 H.size hlt) (cwV 1 ha (gi_V (fun _ h => h) mw1402 mw1403 mw1404 mw74 mw1405) rfl rfl rfl hv_X10_delay ⟨(Nat.le_of_ble_eq_true rfl), (Nat.le_of_ble_eq_true rfl)⟩) ⟨pre_blind, va_recv hst.k (fr_P hP [0, 1, 2, 3, 4, 5, 6, 7, 8, 9, 10, 11, 12, 13, 14, 15] rfl) (ci := 12) (q0 := 0) rfl rfl, pre_at hP hD hS hz hzs hst [0, 1, 2, 3, 4, 5, 6, 7, 8, 9, 10, 11, 12, 13, 14, 15] (by decide) rfl rfl⟩ rfl rfl hl.1 rfl (lv_room (Nat.le_of_ble_eq_true rfl)) dL_delay_4 ⟨(Nat.le_of_ble_eq_true rfl), (Nat.le_of_ble_eq_true rfl)⟩) hP hD hS hA [0, 1, 2, 3, 4, 5, 6, 7, 8, 9, 10, 11, 12, 13, 14, 15] (by decide) rfl rfl rfl rfl (fun X ce q9 H locs eX h1 h2 h3 hP hD hS => ?_) (fun r2 H locs er2 hP hD hS => ?_)
  · have hF := q_smr eX hF
    by_cases w4_0 : X = "java/lang/IndexOutOfBoundsException"
    · have hF := q_brp w4_0 hF
      subst w4_0
      refine vx_catch (E := "java/lang/IndexOutOfBoundsException") (name := "java/lang/IndexOutOfBoundsException") hown [] ⟨0, 9, 12, 13⟩ [] htab (fun _ h => nomatch h) (by decide) (by decide) (ha _ mw960) (va_Nw.use rfl (hst.cs cs_IndexOutOfBoundsException)) h1 h2 h3 ?_
      refine lv_astore_n (lv' := [(3, .ref q9), (0, .ref (a o)), (1, .int p2), (2, .ref (ay oy))]) hx hb dL_delay_12 rfl hl (by decide) rfl (fun ls hl => ?_)
      refine lv_iconst (v := 1) hx hb dL_delay_13 (by decide) ?_
      obtain rfl := Option.some.inj hF
      exact en_i hQ (Nat.le_of_ble_eq_true rfl) (Nat.le_of_ble_eq_true rfl) hx hb hr hlocks hP hD hS rfl dL_delay_14
    have hF := q_brn w4_0 hF
    exact absurd hF (by simp)
  have hF := q_sml er2 hF
  refine lv_i2l hx hb dL_delay_7 rfl ?_
  refine vi_last hx hb hst.k hP hD hS 147 3 rfl rfl (f := y) (k := 0) (by decide) (by decide) dL_delay_8 (fun H locs hP hD hS => ?_)
  have hP : va_P E.1 vwCl (List.flatten [w_VBR a o x.2.2.2.1 x.2.2.2.2.1 x.2.2.2.2.2, w_ValleyR a (o + 1), w_Key E a (o + 2) x.1.1.1, w_Bells E a (o + 3) x.1.1.2.1, w_Mel E a (o + 6) x.1.1.2.2.1, w_Cliffs E a (o + 10) x.1.1.2.2.2, w_ValleyR a (o + 13), w_Key E a (o + 14) x.1.2.1.1, w_Bells E a (o + 15) x.1.2.1.2.1, w_Mel E a (o + 18) x.1.2.1.2.2.1, w_Cliffs E a (o + 22) x.1.2.1.2.2.2, w_Prog E a (o + 25) x.1.2.2.2.1, w_Chord E a (o + 31) x.1.2.2.2.2, w_Key E a (o + 34) x.2.1, w_Line E a (o + 35) x.2.2.1, w_Hist E a (o + 37) x.1.2.2.1, w_LongArr E ay oy (vp_updL y 0 (r2.toInt64))]) H := hP
  have hD : va_D A (List.flatten [w_VBR a o x.2.2.2.1 x.2.2.2.2.1 x.2.2.2.2.2, w_ValleyR a (o + 1), w_Key E a (o + 2) x.1.1.1, w_Bells E a (o + 3) x.1.1.2.1, w_Mel E a (o + 6) x.1.1.2.2.1, w_Cliffs E a (o + 10) x.1.1.2.2.2, w_ValleyR a (o + 13), w_Key E a (o + 14) x.1.2.1.1, w_Bells E a (o + 15) x.1.2.1.2.1, w_Mel E a (o + 18) x.1.2.1.2.2.1, w_Cliffs E a (o + 22) x.1.2.1.2.2.2, w_Prog E a (o + 25) x.1.2.2.2.1, w_Chord E a (o + 31) x.1.2.2.2.2, w_Key E a (o + 34) x.2.1, w_Line E a (o + 35) x.2.2.1, w_Hist E a (o + 37) x.1.2.2.1, w_LongArr E ay oy (vp_updL y 0 (r2.toInt64))]) := hD
  refine lv_goto (tgt := 15) hx hb dL_delay_9 (by decide) ?_
  refine lv_iconst (v := 0) hx hb dL_delay_15 (by decide) ?_
  obtain rfl := Option.some.inj hF
  exact en_i hQ (Nat.le_of_ble_eq_true rfl) (Nat.le_of_ble_eq_true rfl) hx hb hr hlocks hP hD hS rfl dL_delay_16

/-! L_transposition -/
theorem dL_transposition_0 : decode cL_transposition 0 = .ok (.aload_n 2, 1) := by decide +kernel
theorem dL_transposition_1 : decode cL_transposition 1 = .ok (.iconst 0, 1) := by decide +kernel
theorem dL_transposition_2 : decode cL_transposition 2 = .ok (.aload_n 0, 1) := by decide +kernel
theorem dL_transposition_3 : decode cL_transposition 3 = .ok (.iload_n 1, 1) := by decide +kernel
theorem dL_transposition_4 : decode cL_transposition 4 = .ok (.invokevirtual 109, 3) := by decide +kernel
theorem dL_transposition_7 : decode cL_transposition 7 = .ok (.i2l, 1) := by decide +kernel
theorem dL_transposition_8 : decode cL_transposition 8 = .ok (.lastore, 1) := by decide +kernel
theorem dL_transposition_9 : decode cL_transposition 9 = .ok (.goto 6, 3) := by decide +kernel
theorem dL_transposition_12 : decode cL_transposition 12 = .ok (.astore_n 3, 1) := by decide +kernel
theorem dL_transposition_13 : decode cL_transposition 13 = .ok (.iconst 1, 1) := by decide +kernel
theorem dL_transposition_14 : decode cL_transposition 14 = .ok (.ireturn, 1) := by decide +kernel
theorem dL_transposition_15 : decode cL_transposition 15 = .ok (.iconst 0, 1) := by decide +kernel
theorem dL_transposition_16 : decode cL_transposition 16 = .ok (.ireturn, 1) := by decide +kernel
def f_L_transposition (x_valley_cliffs_transpositions : (Nat → Int32)) (x_valley_cliffs_count : Int32) (y_v : (Nat → Int64)) (p2 : Int32) : Option (Int32 × (Nat → Int64)) :=
  q_bd (f_X10_transposition x_valley_cliffs_transpositions x_valley_cliffs_count p2) (fun q1 =>
  q_sm q1 (fun X => q_br (X = "java/lang/IndexOutOfBoundsException") (
  some (1, y_v)) (
  none)) (fun r2 =>
  some (0, vp_updL y_v 0 (r2.toInt64))))
theorem hv_L_transposition : yL_transposition.cls = RL ∧ yL_transposition.cls ≠ "java/lang/invoke/MethodHandle" ∧ yL_transposition.cls ≠ "java/lang/invoke/VarHandle" ∧ (parseMethodDescriptor yL_transposition.desc).map (fun d => d.parameters.length) = some 3 := by decide +kernel
abbrev rm_L_transposition : Room := { frames := 8, cells := 1, slots := 6, locals := 124 }
set_option maxHeartbeats 4000000 in
set_option maxRecDepth 100000 in
theorem k_L_transposition (l : Launch) (E : ET) (a : Nat → Nat) (o : Nat) (x : VB_t) (ay : Nat → Nat) (oy : Nat) (y : (Nat → Int64)) (p2 : Int32) (res : Int32 × (Nat → Int64)) (hF : f_L_transposition x.1.1.2.2.2.2.1 x.1.1.2.2.2.2.2 y p2 = some res) (sz : Nat) (hlt : l.stackTraces = false) : CtI l yL_transposition (mwsH yL_transposition cL_transposition 4 (some .int) [(0, 9, 12, 13)]) rm_L_transposition 1 6 [.ref (a o), .int p2, .ref (ay oy)] E (bl_VB E a o x ++ bl_LongArr E ay oy y) res.1 (bl_VB E a o x ++ bl_LongArr E ay oy res.2) sz := by
  refine mk_H (by decide +kernel) (Nat.le_of_ble_eq_true rfl) ?_
  intro p e s m below meth c A args Q ls hAe hsz hQ hx hb hr hml hin ha hown hlocks hA hz hzs hst htab hP hD hS hl
  have hown : s.vm.findClass RL = some m.cls := hown
  rw [hAe] at hQ
  subst hsz
  have hP : va_P E.1 vwCl (List.flatten [w_VBR a o x.2.2.2.1 x.2.2.2.2.1 x.2.2.2.2.2, w_ValleyR a (o + 1), w_Key E a (o + 2) x.1.1.1, w_Bells E a (o + 3) x.1.1.2.1, w_Mel E a (o + 6) x.1.1.2.2.1, w_Cliffs E a (o + 10) x.1.1.2.2.2, w_ValleyR a (o + 13), w_Key E a (o + 14) x.1.2.1.1, w_Bells E a (o + 15) x.1.2.1.2.1, w_Mel E a (o + 18) x.1.2.1.2.2.1, w_Cliffs E a (o + 22) x.1.2.1.2.2.2, w_Prog E a (o + 25) x.1.2.2.2.1, w_Chord E a (o + 31) x.1.2.2.2.2, w_Key E a (o + 34) x.2.1, w_Line E a (o + 35) x.2.2.1, w_Hist E a (o + 37) x.1.2.2.1, w_LongArr E ay oy y]) s.heap := hP
  have hD : va_D A (List.flatten [w_VBR a o x.2.2.2.1 x.2.2.2.2.1 x.2.2.2.2.2, w_ValleyR a (o + 1), w_Key E a (o + 2) x.1.1.1, w_Bells E a (o + 3) x.1.1.2.1, w_Mel E a (o + 6) x.1.1.2.2.1, w_Cliffs E a (o + 10) x.1.1.2.2.2, w_ValleyR a (o + 13), w_Key E a (o + 14) x.1.2.1.1, w_Bells E a (o + 15) x.1.2.1.2.1, w_Mel E a (o + 18) x.1.2.1.2.2.1, w_Cliffs E a (o + 22) x.1.2.1.2.2.2, w_Prog E a (o + 25) x.1.2.2.2.1, w_Chord E a (o + 31) x.1.2.2.2.2, w_Key E a (o + 34) x.2.1, w_Line E a (o + 35) x.2.2.1, w_Hist E a (o + 37) x.1.2.2.1, w_LongArr E ay oy y]) := hD
  have hl : lv_has ls 4 [(0, .ref (a o)), (1, .int p2), (2, .ref (ay oy))] := hl
  generalize hHe : s.heap = H at hP
  have hS : va_S A s.heap H [] := by rw [← hHe]; exact hS
  generalize ([] : List Loc) = locs at hS ⊢
  unfold f_L_transposition at hF
  refine lv_aload_n hx hb dL_transposition_0 rfl (lv_at hl 2 rfl) ?_
  refine lv_iconst (v := 0) hx hb dL_transposition_1 (by decide) ?_
  refine lv_aload_n hx hb dL_transposition_2 rfl (lv_at hl 0 rfl) ?_
  refine lv_iload_n hx hb dL_transposition_3 rfl (lv_at hl 1 rfl) ?_
  obtain ⟨q1, hq1, hF⟩ := q_bdi hF
  refine cx_i (ro := q1) (Lc := [w_VBR a o x.2.2.2.1 x.2.2.2.2.1 x.2.2.2.2.2, w_ValleyR a (o + 1), w_Key E a (o + 2) x.1.1.1, w_Bells E a (o + 3) x.1.1.2.1, w_Mel E a (o + 6) x.1.1.2.2.1, w_Cliffs E a (o + 10) x.1.1.2.2.2, w_ValleyR a (o + 13), w_Key E a (o + 14) x.1.2.1.1, w_Bells E a (o + 15) x.1.2.1.2.1, w_Mel E a (o + 18) x.1.2.1.2.2.1, w_Cliffs E a (o + 22) x.1.2.1.2.2.2, w_Prog E a (o + 25) x.1.2.2.2.1, w_Chord E a (o + 31) x.1.2.2.2.2, w_Key E a (o + 34) x.2.1, w_Line E a (o + 35) x.2.2.1, w_Hist E a (o + 37) x.1.2.2.1]) (Lc' := [w_VBR a o x.2.2.2.1 x.2.2.2.2.1 x.2.2.2.2.2, w_ValleyR a (o + 1), w_Key E a (o + 2) x.1.1.1, w_Bells E a (o + 3) x.1.1.2.1, w_Mel E a (o + 6) x.1.1.2.2.1, w_Cliffs E a (o + 10) x.1.1.2.2.2, w_ValleyR a (o + 13), w_Key E a (o + 14) x.1.2.1.1, w_Bells E a (o + 15) x.1.2.1.2.1, w_Mel E a (o + 18) x.1.2.1.2.2.1, w_Cliffs E a (o + 22) x.1.2.1.2.2.2, w_Prog E a (o + 25) x.1.2.2.2.1, w_Chord E a (o + 31) x.1.2.2.2.2, w_Key E a (o + 34) x.2.1, w_Line E a (o + 35) x.2.2.1, w_Hist E a (o + 37) x.1.2.2.1]) (L' := [w_VBR a o x.2.2.2.1 x.2.2.2.2.1 x.2.2.2.2.2, w_ValleyR a (o + 1), w_Key E a (o + 2) x.1.1.1, w_Bells E a (o + 3) x.1.1.2.1, w_Mel E a (o + 6) x.1.1.2.2.1, w_Cliffs E a (o + 10) x.1.1.2.2.2, w_ValleyR a (o + 13), w_Key E a (o + 14) x.1.2.1.1, w_Bells E a (o + 15) x.1.2.1.2.1, w_Mel E a (o + 18) x.1.2.1.2.2.1, w_Cliffs E a (o + 22) x.1.2.1.2.2.2, w_Prog E a (o + 25) x.1.2.2.2.1, w_Chord E a (o + 31) x.1.2.2.2.2, w_Key E a (o + 34) x.2.1, w_Line E a (o + 35) x.2.2.1, w_Hist E a (o + 37) x.1.2.2.1, w_LongArr E ay oy y]) (vx_runV (As := [.int p2]) (rest := [.int 0, .ref (ay oy)]) ⟨hx, hb, hml, hown, ha⟩ (k_X10_transposition l E a o x p2 q1 hq1 H.size hlt) (cwV 1 ha (gi_V (fun _ h => h) mw1415 mw1416 mw1417 mw74 mw1418) rfl rfl rfl hv_X10_transposition ⟨(Nat.le_of_ble_eq_true rfl), (Nat.le_of_ble_eq_true rfl)⟩) ⟨pre_blind, va_recv hst.k (fr_P hP [0, 1, 2, 3, 4, 5, 6, 7, 8, 9, 10, 11, 12, 13, 14, 15] rfl) (ci := 12) (q0 := 0) rfl rfl, pre_at hP hD hS hz hzs hst [0, 1, 2, 3, 4, 5, 6, 7, 8, 9, 10, 11, 12, 13, 14, 15] (by decide) rfl rfl⟩ rfl rfl hl.1 rfl (lv_room (Nat.le_of_ble_eq_true rfl)) dL_transposition_4 ⟨(Nat.le_of_ble_eq_true rfl), (Nat.le_of_ble_eq_true rfl)⟩) hP hD hS hA [0, 1, 2, 3, 4, 5, 6, 7, 8, 9, 10, 11, 12, 13, 14, 15] (by decide) rfl rfl rfl rfl (fun X ce q9 H locs eX h1 h2 h3 hP hD hS => ?_) (fun r2 H locs er2 hP hD hS => ?_)
  · have hF := q_smr eX hF
    by_cases w4_0 : X = "java/lang/IndexOutOfBoundsException"
    · have hF := q_brp w4_0 hF
      subst w4_0
      refine vx_catch (E := "java/lang/IndexOutOfBoundsException") (name := "java/lang/IndexOutOfBoundsException") hown [] ⟨0, 9, 12, 13⟩ [] htab (fun _ h => nomatch h) (by decide) (by decide) (ha _ mw960) (va_Nw.use rfl (hst.cs cs_IndexOutOfBoundsException)) h1 h2 h3 ?_
      refine lv_astore_n (lv' := [(3, .ref q9), (0, .ref (a o)), (1, .int p2), (2, .ref (ay oy))]) hx hb dL_transposition_12 rfl hl (by decide) rfl (fun ls hl => ?_)
      refine lv_iconst (v := 1) hx hb dL_transposition_13 (by decide) ?_
      obtain rfl := Option.some.inj hF
      exact en_i hQ (Nat.le_of_ble_eq_true rfl) (Nat.le_of_ble_eq_true rfl) hx hb hr hlocks hP hD hS rfl dL_transposition_14
    have hF := q_brn w4_0 hF
    exact absurd hF (by simp)
  have hF := q_sml er2 hF
  refine lv_i2l hx hb dL_transposition_7 rfl ?_
  refine vi_last hx hb hst.k hP hD hS 147 3 rfl rfl (f := y) (k := 0) (by decide) (by decide) dL_transposition_8 (fun H locs hP hD hS => ?_)
  have hP : va_P E.1 vwCl (List.flatten [w_VBR a o x.2.2.2.1 x.2.2.2.2.1 x.2.2.2.2.2, w_ValleyR a (o + 1), w_Key E a (o + 2) x.1.1.1, w_Bells E a (o + 3) x.1.1.2.1, w_Mel E a (o + 6) x.1.1.2.2.1, w_Cliffs E a (o + 10) x.1.1.2.2.2, w_ValleyR a (o + 13), w_Key E a (o + 14) x.1.2.1.1, w_Bells E a (o + 15) x.1.2.1.2.1, w_Mel E a (o + 18) x.1.2.1.2.2.1, w_Cliffs E a (o + 22) x.1.2.1.2.2.2, w_Prog E a (o + 25) x.1.2.2.2.1, w_Chord E a (o + 31) x.1.2.2.2.2, w_Key E a (o + 34) x.2.1, w_Line E a (o + 35) x.2.2.1, w_Hist E a (o + 37) x.1.2.2.1, w_LongArr E ay oy (vp_updL y 0 (r2.toInt64))]) H := hP
  have hD : va_D A (List.flatten [w_VBR a o x.2.2.2.1 x.2.2.2.2.1 x.2.2.2.2.2, w_ValleyR a (o + 1), w_Key E a (o + 2) x.1.1.1, w_Bells E a (o + 3) x.1.1.2.1, w_Mel E a (o + 6) x.1.1.2.2.1, w_Cliffs E a (o + 10) x.1.1.2.2.2, w_ValleyR a (o + 13), w_Key E a (o + 14) x.1.2.1.1, w_Bells E a (o + 15) x.1.2.1.2.1, w_Mel E a (o + 18) x.1.2.1.2.2.1, w_Cliffs E a (o + 22) x.1.2.1.2.2.2, w_Prog E a (o + 25) x.1.2.2.2.1, w_Chord E a (o + 31) x.1.2.2.2.2, w_Key E a (o + 34) x.2.1, w_Line E a (o + 35) x.2.2.1, w_Hist E a (o + 37) x.1.2.2.1, w_LongArr E ay oy (vp_updL y 0 (r2.toInt64))]) := hD
  refine lv_goto (tgt := 15) hx hb dL_transposition_9 (by decide) ?_
  refine lv_iconst (v := 0) hx hb dL_transposition_15 (by decide) ?_
  obtain rfl := Option.some.inj hF
  exact en_i hQ (Nat.le_of_ble_eq_true rfl) (Nat.le_of_ble_eq_true rfl) hx hb hr hlocks hP hD hS rfl dL_transposition_16

/-! L_chordNote -/
theorem dL_chordNote_0 : decode cL_chordNote 0 = .ok (.aload_n 3, 1) := by decide +kernel
theorem dL_chordNote_1 : decode cL_chordNote 1 = .ok (.iconst 0, 1) := by decide +kernel
theorem dL_chordNote_2 : decode cL_chordNote 2 = .ok (.aload_n 0, 1) := by decide +kernel
theorem dL_chordNote_3 : decode cL_chordNote 3 = .ok (.iload_n 1, 1) := by decide +kernel
theorem dL_chordNote_4 : decode cL_chordNote 4 = .ok (.iload_n 2, 1) := by decide +kernel
theorem dL_chordNote_5 : decode cL_chordNote 5 = .ok (.invokevirtual 112, 3) := by decide +kernel
theorem dL_chordNote_8 : decode cL_chordNote 8 = .ok (.i2l, 1) := by decide +kernel
theorem dL_chordNote_9 : decode cL_chordNote 9 = .ok (.lastore, 1) := by decide +kernel
theorem dL_chordNote_10 : decode cL_chordNote 10 = .ok (.goto 7, 3) := by decide +kernel
theorem dL_chordNote_13 : decode cL_chordNote 13 = .ok (.astore 4, 2) := by decide +kernel
theorem dL_chordNote_15 : decode cL_chordNote 15 = .ok (.iconst 1, 1) := by decide +kernel
theorem dL_chordNote_16 : decode cL_chordNote 16 = .ok (.ireturn, 1) := by decide +kernel
theorem dL_chordNote_17 : decode cL_chordNote 17 = .ok (.iconst 0, 1) := by decide +kernel
theorem dL_chordNote_18 : decode cL_chordNote 18 = .ok (.ireturn, 1) := by decide +kernel
def f_L_chordNote (x_valley_bells_pitches : (Nat → Int32)) (x_valley_bells_count : Int32) (x_valley_melodies_lengths : (Nat → Int32)) (x_valley_melodies_entries : (Nat → Int32)) (x_valley_melodies_tones : (Nat → Int32)) (x_valley_cliffs_delays : (Nat → Int32)) (x_valley_cliffs_transpositions : (Nat → Int32)) (x_valley_cliffs_count : Int32) (x_chord_notes : (Nat → Int32)) (x_chord_size : Int32) (y_v : (Nat → Int64)) (p2 : Int32) (p3 : Int32) : Option (Int32 × (Nat → Int32) × Int32 × (Nat → Int64)) :=
  q_bd (f_X10_chordNote x_valley_bells_pitches x_valley_bells_count x_valley_melodies_lengths x_valley_melodies_entries x_valley_melodies_tones x_valley_cliffs_delays x_valley_cliffs_transpositions x_valley_cliffs_count x_chord_notes x_chord_size p2 p3) (fun q1 =>
  q_sm q1.1 (fun X => q_br (X = "java/util/NoSuchElementException") (
  some (1, q1.2.1, q1.2.2, y_v)) (
  none)) (fun r2 =>
  some (0, q1.2.1, q1.2.2, vp_updL y_v 0 (r2.toInt64))))
theorem hv_L_chordNote : yL_chordNote.cls = RL ∧ yL_chordNote.cls ≠ "java/lang/invoke/MethodHandle" ∧ yL_chordNote.cls ≠ "java/lang/invoke/VarHandle" ∧ (parseMethodDescriptor yL_chordNote.desc).map (fun d => d.parameters.length) = some 4 := by decide +kernel
abbrev rm_L_chordNote : Room := { frames := 7, cells := 1, slots := 6, locals := 137 }
set_option maxHeartbeats 4000000 in
set_option maxRecDepth 100000 in
theorem k_L_chordNote (l : Launch) (E : ET) (a : Nat → Nat) (o : Nat) (x : VB_t) (ay : Nat → Nat) (oy : Nat) (y : (Nat → Int64)) (p2 : Int32) (p3 : Int32) (res : Int32 × (Nat → Int32) × Int32 × (Nat → Int64)) (hF : f_L_chordNote x.1.1.2.1.2.1 x.1.1.2.1.2.2 x.1.1.2.2.1.1 x.1.1.2.2.1.2.1 x.1.1.2.2.1.2.2 x.1.1.2.2.2.1 x.1.1.2.2.2.2.1 x.1.1.2.2.2.2.2 x.1.2.2.2.2.1 x.1.2.2.2.2.2.2 y p2 p3 = some res) (sz : Nat) (hlt : l.stackTraces = false) : CtI l yL_chordNote (mwsH yL_chordNote cL_chordNote 5 (some .int) [(0, 10, 13, 79)]) rm_L_chordNote 1 6 [.ref (a o), .int p2, .int p3, .ref (ay oy)] E (bl_VB E a o x ++ bl_LongArr E ay oy y) res.1 (bl_VB E a o ((x.1.1, x.1.2.1, x.1.2.2.1, x.1.2.2.2.1, (res.2.1, x.1.2.2.2.2.2.1, res.2.2.1)), (x.2.1, x.2.2.1, x.2.2.2.1, x.2.2.2.2.1, x.2.2.2.2.2)) ++ bl_LongArr E ay oy res.2.2.2) sz := by
  refine mk_H (by decide +kernel) (Nat.le_of_ble_eq_true rfl) ?_
  intro p e s m below meth c A args Q ls hAe hsz hQ hx hb hr hml hin ha hown hlocks hA hz hzs hst htab hP hD hS hl
  have hown : s.vm.findClass RL = some m.cls := hown
  rw [hAe] at hQ
  subst hsz
  have hP : va_P E.1 vwCl (List.flatten [w_VBR a o x.2.2.2.1 x.2.2.2.2.1 x.2.2.2.2.2, w_ValleyR a (o + 1), w_Key E a (o + 2) x.1.1.1, w_Bells E a (o + 3) x.1.1.2.1, w_Mel E a (o + 6) x.1.1.2.2.1, w_Cliffs E a (o + 10) x.1.1.2.2.2, w_ValleyR a (o + 13), w_Key E a (o + 14) x.1.2.1.1, w_Bells E a (o + 15) x.1.2.1.2.1, w_Mel E a (o + 18) x.1.2.1.2.2.1, w_Cliffs E a (o + 22) x.1.2.1.2.2.2, w_Prog E a (o + 25) x.1.2.2.2.1, w_Chord E a (o + 31) x.1.2.2.2.2, w_Key E a (o + 34) x.2.1, w_Line E a (o + 35) x.2.2.1, w_Hist E a (o + 37) x.1.2.2.1, w_LongArr E ay oy y]) s.heap := hP
  have hD : va_D A (List.flatten [w_VBR a o x.2.2.2.1 x.2.2.2.2.1 x.2.2.2.2.2, w_ValleyR a (o + 1), w_Key E a (o + 2) x.1.1.1, w_Bells E a (o + 3) x.1.1.2.1, w_Mel E a (o + 6) x.1.1.2.2.1, w_Cliffs E a (o + 10) x.1.1.2.2.2, w_ValleyR a (o + 13), w_Key E a (o + 14) x.1.2.1.1, w_Bells E a (o + 15) x.1.2.1.2.1, w_Mel E a (o + 18) x.1.2.1.2.2.1, w_Cliffs E a (o + 22) x.1.2.1.2.2.2, w_Prog E a (o + 25) x.1.2.2.2.1, w_Chord E a (o + 31) x.1.2.2.2.2, w_Key E a (o + 34) x.2.1, w_Line E a (o + 35) x.2.2.1, w_Hist E a (o + 37) x.1.2.2.1, w_LongArr E ay oy y]) := hD
  have hl : lv_has ls 5 [(0, .ref (a o)), (1, .int p2), (2, .int p3), (3, .ref (ay oy))] := hl
  generalize hHe : s.heap = H at hP
  have hS : va_S A s.heap H [] := by rw [← hHe]; exact hS
  generalize ([] : List Loc) = locs at hS ⊢
  unfold f_L_chordNote at hF
  refine lv_aload_n hx hb dL_chordNote_0 rfl (lv_at hl 3 rfl) ?_
  refine lv_iconst (v := 0) hx hb dL_chordNote_1 (by decide) ?_
  refine lv_aload_n hx hb dL_chordNote_2 rfl (lv_at hl 0 rfl) ?_
  refine lv_iload_n hx hb dL_chordNote_3 rfl (lv_at hl 1 rfl) ?_
  refine lv_iload_n hx hb dL_chordNote_4 rfl (lv_at hl 2 rfl) ?_
  obtain ⟨q1, hq1, hF⟩ := q_bdi hF
  refine cx_i (ro := q1.1) (Lc := [w_VBR a o x.2.2.2.1 x.2.2.2.2.1 x.2.2.2.2.2, w_ValleyR a (o + 1), w_Key E a (o + 2) x.1.1.1, w_Bells E a (o + 3) x.1.1.2.1, w_Mel E a (o + 6) x.1.1.2.2.1, w_Cliffs E a (o + 10) x.1.1.2.2.2, w_ValleyR a (o + 13), w_Key E a (o + 14) x.1.2.1.1, w_Bells E a (o + 15) x.1.2.1.2.1, w_Mel E a (o + 18) x.1.2.1.2.2.1, w_Cliffs E a (o + 22) x.1.2.1.2.2.2, w_Prog E a (o + 25) x.1.2.2.2.1, w_Chord E a (o + 31) x.1.2.2.2.2, w_Key E a (o + 34) x.2.1, w_Line E a (o + 35) x.2.2.1, w_Hist E a (o + 37) x.1.2.2.1]) (Lc' := [w_VBR a o x.2.2.2.1 x.2.2.2.2.1 x.2.2.2.2.2, w_ValleyR a (o + 1), w_Key E a (o + 2) x.1.1.1, w_Bells E a (o + 3) x.1.1.2.1, w_Mel E a (o + 6) x.1.1.2.2.1, w_Cliffs E a (o + 10) x.1.1.2.2.2, w_ValleyR a (o + 13), w_Key E a (o + 14) x.1.2.1.1, w_Bells E a (o + 15) x.1.2.1.2.1, w_Mel E a (o + 18) x.1.2.1.2.2.1, w_Cliffs E a (o + 22) x.1.2.1.2.2.2, w_Prog E a (o + 25) x.1.2.2.2.1, w_Chord E a (o + 31) (q1.2.1, x.1.2.2.2.2.2.1, q1.2.2), w_Key E a (o + 34) x.2.1, w_Line E a (o + 35) x.2.2.1, w_Hist E a (o + 37) x.1.2.2.1]) (L' := [w_VBR a o x.2.2.2.1 x.2.2.2.2.1 x.2.2.2.2.2, w_ValleyR a (o + 1), w_Key E a (o + 2) x.1.1.1, w_Bells E a (o + 3) x.1.1.2.1, w_Mel E a (o + 6) x.1.1.2.2.1, w_Cliffs E a (o + 10) x.1.1.2.2.2, w_ValleyR a (o + 13), w_Key E a (o + 14) x.1.2.1.1, w_Bells E a (o + 15) x.1.2.1.2.1, w_Mel E a (o + 18) x.1.2.1.2.2.1, w_Cliffs E a (o + 22) x.1.2.1.2.2.2, w_Prog E a (o + 25) x.1.2.2.2.1, w_Chord E a (o + 31) (q1.2.1, x.1.2.2.2.2.2.1, q1.2.2), w_Key E a (o + 34) x.2.1, w_Line E a (o + 35) x.2.2.1, w_Hist E a (o + 37) x.1.2.2.1, w_LongArr E ay oy y]) (vx_runV (As := [.int p2, .int p3]) (rest := [.int 0, .ref (ay oy)]) ⟨hx, hb, hml, hown, ha⟩ (k_X10_chordNote l E a o x p2 p3 q1 hq1 H.size hlt) (cwV 2 ha (gi_V (fun _ h => h) mw1422 mw1423 mw1424 mw74 mw1425) rfl rfl rfl hv_X10_chordNote ⟨(Nat.le_of_ble_eq_true rfl), (Nat.le_of_ble_eq_true rfl)⟩) ⟨pre_blind, va_recv hst.k (fr_P hP [0, 1, 2, 3, 4, 5, 6, 7, 8, 9, 10, 11, 12, 13, 14, 15] rfl) (ci := 12) (q0 := 0) rfl rfl, pre_at hP hD hS hz hzs hst [0, 1, 2, 3, 4, 5, 6, 7, 8, 9, 10, 11, 12, 13, 14, 15] (by decide) rfl rfl⟩ rfl rfl hl.1 rfl (lv_room (Nat.le_of_ble_eq_true rfl)) dL_chordNote_5 ⟨(Nat.le_of_ble_eq_true rfl), (Nat.le_of_ble_eq_true rfl)⟩) hP hD hS hA [0, 1, 2, 3, 4, 5, 6, 7, 8, 9, 10, 11, 12, 13, 14, 15] (by decide) rfl rfl rfl rfl (fun X ce q9 H locs eX h1 h2 h3 hP hD hS => ?_) (fun r2 H locs er2 hP hD hS => ?_)
  · have hF := q_smr eX hF
    by_cases w5_0 : X = "java/util/NoSuchElementException"
    · have hF := q_brp w5_0 hF
      subst w5_0
      refine vx_catch (E := "java/util/NoSuchElementException") (name := "java/util/NoSuchElementException") hown [] ⟨0, 10, 13, 79⟩ [] htab (fun _ h => nomatch h) (by decide) (by decide) (ha _ mw1268) (va_Nw.use rfl (hst.cs cs_NoSuchElementException)) h1 h2 h3 ?_
      refine lv_astore (lv' := [(4, .ref q9), (0, .ref (a o)), (1, .int p2), (2, .int p3), (3, .ref (ay oy))]) hx hb dL_chordNote_13 hl (by decide) rfl (fun ls hl => ?_)
      refine lv_iconst (v := 1) hx hb dL_chordNote_15 (by decide) ?_
      obtain rfl := Option.some.inj hF
      exact en_i hQ (Nat.le_of_ble_eq_true rfl) (Nat.le_of_ble_eq_true rfl) hx hb hr hlocks hP hD hS rfl dL_chordNote_16
    have hF := q_brn w5_0 hF
    exact absurd hF (by simp)
  have hF := q_sml er2 hF
  refine lv_i2l hx hb dL_chordNote_8 rfl ?_
  refine vi_last hx hb hst.k hP hD hS 147 3 rfl rfl (f := y) (k := 0) (by decide) (by decide) dL_chordNote_9 (fun H locs hP hD hS => ?_)
  have hP : va_P E.1 vwCl (List.flatten [w_VBR a o x.2.2.2.1 x.2.2.2.2.1 x.2.2.2.2.2, w_ValleyR a (o + 1), w_Key E a (o + 2) x.1.1.1, w_Bells E a (o + 3) x.1.1.2.1, w_Mel E a (o + 6) x.1.1.2.2.1, w_Cliffs E a (o + 10) x.1.1.2.2.2, w_ValleyR a (o + 13), w_Key E a (o + 14) x.1.2.1.1, w_Bells E a (o + 15) x.1.2.1.2.1, w_Mel E a (o + 18) x.1.2.1.2.2.1, w_Cliffs E a (o + 22) x.1.2.1.2.2.2, w_Prog E a (o + 25) x.1.2.2.2.1, w_Chord E a (o + 31) (q1.2.1, x.1.2.2.2.2.2.1, q1.2.2), w_Key E a (o + 34) x.2.1, w_Line E a (o + 35) x.2.2.1, w_Hist E a (o + 37) x.1.2.2.1, w_LongArr E ay oy (vp_updL y 0 (r2.toInt64))]) H := hP
  have hD : va_D A (List.flatten [w_VBR a o x.2.2.2.1 x.2.2.2.2.1 x.2.2.2.2.2, w_ValleyR a (o + 1), w_Key E a (o + 2) x.1.1.1, w_Bells E a (o + 3) x.1.1.2.1, w_Mel E a (o + 6) x.1.1.2.2.1, w_Cliffs E a (o + 10) x.1.1.2.2.2, w_ValleyR a (o + 13), w_Key E a (o + 14) x.1.2.1.1, w_Bells E a (o + 15) x.1.2.1.2.1, w_Mel E a (o + 18) x.1.2.1.2.2.1, w_Cliffs E a (o + 22) x.1.2.1.2.2.2, w_Prog E a (o + 25) x.1.2.2.2.1, w_Chord E a (o + 31) (q1.2.1, x.1.2.2.2.2.2.1, q1.2.2), w_Key E a (o + 34) x.2.1, w_Line E a (o + 35) x.2.2.1, w_Hist E a (o + 37) x.1.2.2.1, w_LongArr E ay oy (vp_updL y 0 (r2.toInt64))]) := hD
  refine lv_goto (tgt := 17) hx hb dL_chordNote_10 (by decide) ?_
  refine lv_iconst (v := 0) hx hb dL_chordNote_17 (by decide) ?_
  obtain rfl := Option.some.inj hF
  exact en_i hQ (Nat.le_of_ble_eq_true rfl) (Nat.le_of_ble_eq_true rfl) hx hb hr hlocks hP hD hS rfl dL_chordNote_18

/-! L_lastBeat -/
theorem dL_lastBeat_0 : decode cL_lastBeat 0 = .ok (.aload_n 1, 1) := by decide +kernel
theorem dL_lastBeat_1 : decode cL_lastBeat 1 = .ok (.iconst 0, 1) := by decide +kernel
theorem dL_lastBeat_2 : decode cL_lastBeat 2 = .ok (.aload_n 0, 1) := by decide +kernel
theorem dL_lastBeat_3 : decode cL_lastBeat 3 = .ok (.invokevirtual 115, 3) := by decide +kernel
theorem dL_lastBeat_6 : decode cL_lastBeat 6 = .ok (.i2l, 1) := by decide +kernel
theorem dL_lastBeat_7 : decode cL_lastBeat 7 = .ok (.lastore, 1) := by decide +kernel
theorem dL_lastBeat_8 : decode cL_lastBeat 8 = .ok (.goto 6, 3) := by decide +kernel
theorem dL_lastBeat_11 : decode cL_lastBeat 11 = .ok (.astore_n 2, 1) := by decide +kernel
theorem dL_lastBeat_12 : decode cL_lastBeat 12 = .ok (.iconst 1, 1) := by decide +kernel
theorem dL_lastBeat_13 : decode cL_lastBeat 13 = .ok (.ireturn, 1) := by decide +kernel
theorem dL_lastBeat_14 : decode cL_lastBeat 14 = .ok (.iconst 0, 1) := by decide +kernel
theorem dL_lastBeat_15 : decode cL_lastBeat 15 = .ok (.ireturn, 1) := by decide +kernel
def f_L_lastBeat (x_valley_bells_pitches : (Nat → Int32)) (x_valley_bells_count : Int32) (x_valley_melodies_lengths : (Nat → Int32)) (x_valley_melodies_entries : (Nat → Int32)) (x_valley_melodies_tones : (Nat → Int32)) (x_valley_cliffs_delays : (Nat → Int32)) (x_valley_cliffs_transpositions : (Nat → Int32)) (x_valley_cliffs_count : Int32) (x_chord_notes : (Nat → Int32)) (x_chord_size : Int32) (y_v : (Nat → Int64)) : Option (Int32 × (Nat → Int32) × Int32 × (Nat → Int64)) :=
  q_bd (f_X10_lastBeat x_valley_bells_pitches x_valley_bells_count x_valley_melodies_lengths x_valley_melodies_entries x_valley_melodies_tones x_valley_cliffs_delays x_valley_cliffs_transpositions x_valley_cliffs_count x_chord_notes x_chord_size) (fun q1 =>
  q_sm q1.1 (fun X => q_br (X = "java/util/NoSuchElementException") (
  some (1, q1.2.1, q1.2.2, y_v)) (
  none)) (fun r2 =>
  some (0, q1.2.1, q1.2.2, vp_updL y_v 0 (r2.toInt64))))
theorem hv_L_lastBeat : yL_lastBeat.cls = RL ∧ yL_lastBeat.cls ≠ "java/lang/invoke/MethodHandle" ∧ yL_lastBeat.cls ≠ "java/lang/invoke/VarHandle" ∧ (parseMethodDescriptor yL_lastBeat.desc).map (fun d => d.parameters.length) = some 2 := by decide +kernel
abbrev rm_L_lastBeat : Room := { frames := 8, cells := 1, slots := 6, locals := 137 }
set_option maxHeartbeats 4000000 in
set_option maxRecDepth 100000 in
theorem k_L_lastBeat (l : Launch) (E : ET) (a : Nat → Nat) (o : Nat) (x : VB_t) (ay : Nat → Nat) (oy : Nat) (y : (Nat → Int64)) (res : Int32 × (Nat → Int32) × Int32 × (Nat → Int64)) (hF : f_L_lastBeat x.1.1.2.1.2.1 x.1.1.2.1.2.2 x.1.1.2.2.1.1 x.1.1.2.2.1.2.1 x.1.1.2.2.1.2.2 x.1.1.2.2.2.1 x.1.1.2.2.2.2.1 x.1.1.2.2.2.2.2 x.1.2.2.2.2.1 x.1.2.2.2.2.2.2 y = some res) (sz : Nat) (hlt : l.stackTraces = false) : CtI l yL_lastBeat (mwsH yL_lastBeat cL_lastBeat 3 (some .int) [(0, 8, 11, 79)]) rm_L_lastBeat 1 6 [.ref (a o), .ref (ay oy)] E (bl_VB E a o x ++ bl_LongArr E ay oy y) res.1 (bl_VB E a o ((x.1.1, x.1.2.1, x.1.2.2.1, x.1.2.2.2.1, (res.2.1, x.1.2.2.2.2.2.1, res.2.2.1)), (x.2.1, x.2.2.1, x.2.2.2.1, x.2.2.2.2.1, x.2.2.2.2.2)) ++ bl_LongArr E ay oy res.2.2.2) sz := by
  refine mk_H (by decide +kernel) (Nat.le_of_ble_eq_true rfl) ?_
  intro p e s m below meth c A args Q ls hAe hsz hQ hx hb hr hml hin ha hown hlocks hA hz hzs hst htab hP hD hS hl
  have hown : s.vm.findClass RL = some m.cls := hown
  rw [hAe] at hQ
  subst hsz
  have hP : va_P E.1 vwCl (List.flatten [w_VBR a o x.2.2.2.1 x.2.2.2.2.1 x.2.2.2.2.2, w_ValleyR a (o + 1), w_Key E a (o + 2) x.1.1.1, w_Bells E a (o + 3) x.1.1.2.1, w_Mel E a (o + 6) x.1.1.2.2.1, w_Cliffs E a (o + 10) x.1.1.2.2.2, w_ValleyR a (o + 13), w_Key E a (o + 14) x.1.2.1.1, w_Bells E a (o + 15) x.1.2.1.2.1, w_Mel E a (o + 18) x.1.2.1.2.2.1, w_Cliffs E a (o + 22) x.1.2.1.2.2.2, w_Prog E a (o + 25) x.1.2.2.2.1, w_Chord E a (o + 31) x.1.2.2.2.2, w_Key E a (o + 34) x.2.1, w_Line E a (o + 35) x.2.2.1, w_Hist E a (o + 37) x.1.2.2.1, w_LongArr E ay oy y]) s.heap := hP
  have hD : va_D A (List.flatten [w_VBR a o x.2.2.2.1 x.2.2.2.2.1 x.2.2.2.2.2, w_ValleyR a (o + 1), w_Key E a (o + 2) x.1.1.1, w_Bells E a (o + 3) x.1.1.2.1, w_Mel E a (o + 6) x.1.1.2.2.1, w_Cliffs E a (o + 10) x.1.1.2.2.2, w_ValleyR a (o + 13), w_Key E a (o + 14) x.1.2.1.1, w_Bells E a (o + 15) x.1.2.1.2.1, w_Mel E a (o + 18) x.1.2.1.2.2.1, w_Cliffs E a (o + 22) x.1.2.1.2.2.2, w_Prog E a (o + 25) x.1.2.2.2.1, w_Chord E a (o + 31) x.1.2.2.2.2, w_Key E a (o + 34) x.2.1, w_Line E a (o + 35) x.2.2.1, w_Hist E a (o + 37) x.1.2.2.1, w_LongArr E ay oy y]) := hD
  have hl : lv_has ls 3 [(0, .ref (a o)), (1, .ref (ay oy))] := hl
  generalize hHe : s.heap = H at hP
  have hS : va_S A s.heap H [] := by rw [← hHe]; exact hS
  generalize ([] : List Loc) = locs at hS ⊢
  unfold f_L_lastBeat at hF
  refine lv_aload_n hx hb dL_lastBeat_0 rfl (lv_at hl 1 rfl) ?_
  refine lv_iconst (v := 0) hx hb dL_lastBeat_1 (by decide) ?_
  refine lv_aload_n hx hb dL_lastBeat_2 rfl (lv_at hl 0 rfl) ?_
  obtain ⟨q1, hq1, hF⟩ := q_bdi hF
  refine cx_i (ro := q1.1) (Lc := [w_VBR a o x.2.2.2.1 x.2.2.2.2.1 x.2.2.2.2.2, w_ValleyR a (o + 1), w_Key E a (o + 2) x.1.1.1, w_Bells E a (o + 3) x.1.1.2.1, w_Mel E a (o + 6) x.1.1.2.2.1, w_Cliffs E a (o + 10) x.1.1.2.2.2, w_ValleyR a (o + 13), w_Key E a (o + 14) x.1.2.1.1, w_Bells E a (o + 15) x.1.2.1.2.1, w_Mel E a (o + 18) x.1.2.1.2.2.1, w_Cliffs E a (o + 22) x.1.2.1.2.2.2, w_Prog E a (o + 25) x.1.2.2.2.1, w_Chord E a (o + 31) x.1.2.2.2.2, w_Key E a (o + 34) x.2.1, w_Line E a (o + 35) x.2.2.1, w_Hist E a (o + 37) x.1.2.2.1]) (Lc' := [w_VBR a o x.2.2.2.1 x.2.2.2.2.1 x.2.2.2.2.2, w_ValleyR a (o + 1), w_Key E a (o + 2) x.1.1.1, w_Bells E a (o + 3) x.1.1.2.1, w_Mel E a (o + 6) x.1.1.2.2.1, w_Cliffs E a (o + 10) x.1.1.2.2.2, w_ValleyR a (o + 13), w_Key E a (o + 14) x.1.2.1.1, w_Bells E a (o + 15) x.1.2.1.2.1, w_Mel E a (o + 18) x.1.2.1.2.2.1, w_Cliffs E a (o + 22) x.1.2.1.2.2.2, w_Prog E a (o + 25) x.1.2.2.2.1, w_Chord E a (o + 31) (q1.2.1, x.1.2.2.2.2.2.1, q1.2.2), w_Key E a (o + 34) x.2.1, w_Line E a (o + 35) x.2.2.1, w_Hist E a (o + 37) x.1.2.2.1]) (L' := [w_VBR a o x.2.2.2.1 x.2.2.2.2.1 x.2.2.2.2.2, w_ValleyR a (o + 1), w_Key E a (o + 2) x.1.1.1, w_Bells E a (o + 3) x.1.1.2.1, w_Mel E a (o + 6) x.1.1.2.2.1, w_Cliffs E a (o + 10) x.1.1.2.2.2, w_ValleyR a (o + 13), w_Key E a (o + 14) x.1.2.1.1, w_Bells E a (o + 15) x.1.2.1.2.1, w_Mel E a (o + 18) x.1.2.1.2.2.1, w_Cliffs E a (o + 22) x.1.2.1.2.2.2, w_Prog E a (o + 25) x.1.2.2.2.1, w_Chord E a (o + 31) (q1.2.1, x.1.2.2.2.2.2.1, q1.2.2), w_Key E a (o + 34) x.2.1, w_Line E a (o + 35) x.2.2.1, w_Hist E a (o + 37) x.1.2.2.1, w_LongArr E ay oy y]) (vx_runV (As := []) (rest := [.int 0, .ref (ay oy)]) ⟨hx, hb, hml, hown, ha⟩ (k_X10_lastBeat l E a o x q1 hq1 H.size hlt) (cwV 0 ha (gi_V (fun _ h => h) mw1429 mw1430 mw1431 mw74 mw1432) rfl rfl rfl hv_X10_lastBeat ⟨(Nat.le_of_ble_eq_true rfl), (Nat.le_of_ble_eq_true rfl)⟩) ⟨pre_blind, va_recv hst.k (fr_P hP [0, 1, 2, 3, 4, 5, 6, 7, 8, 9, 10, 11, 12, 13, 14, 15] rfl) (ci := 12) (q0 := 0) rfl rfl, pre_at hP hD hS hz hzs hst [0, 1, 2, 3, 4, 5, 6, 7, 8, 9, 10, 11, 12, 13, 14, 15] (by decide) rfl rfl⟩ rfl rfl hl.1 rfl (lv_room (Nat.le_of_ble_eq_true rfl)) dL_lastBeat_3 ⟨(Nat.le_of_ble_eq_true rfl), (Nat.le_of_ble_eq_true rfl)⟩) hP hD hS hA [0, 1, 2, 3, 4, 5, 6, 7, 8, 9, 10, 11, 12, 13, 14, 15] (by decide) rfl rfl rfl rfl (fun X ce q9 H locs eX h1 h2 h3 hP hD hS => ?_) (fun r2 H locs er2 hP hD hS => ?_)
  · have hF := q_smr eX hF
    by_cases w3_0 : X = "java/util/NoSuchElementException"
    · have hF := q_brp w3_0 hF
      subst w3_0
      refine vx_catch (E := "java/util/NoSuchElementException") (name := "java/util/NoSuchElementException") hown [] ⟨0, 8, 11, 79⟩ [] htab (fun _ h => nomatch h) (by decide) (by decide) (ha _ mw1268) (va_Nw.use rfl (hst.cs cs_NoSuchElementException)) h1 h2 h3 ?_
      refine lv_astore_n (lv' := [(2, .ref q9), (0, .ref (a o)), (1, .ref (ay oy))]) hx hb dL_lastBeat_11 rfl hl (by decide) rfl (fun ls hl => ?_)
      refine lv_iconst (v := 1) hx hb dL_lastBeat_12 (by decide) ?_
      obtain rfl := Option.some.inj hF
      exact en_i hQ (Nat.le_of_ble_eq_true rfl) (Nat.le_of_ble_eq_true rfl) hx hb hr hlocks hP hD hS rfl dL_lastBeat_13
    have hF := q_brn w3_0 hF
    exact absurd hF (by simp)
  have hF := q_sml er2 hF
  refine lv_i2l hx hb dL_lastBeat_6 rfl ?_
  refine vi_last hx hb hst.k hP hD hS 147 3 rfl rfl (f := y) (k := 0) (by decide) (by decide) dL_lastBeat_7 (fun H locs hP hD hS => ?_)
  have hP : va_P E.1 vwCl (List.flatten [w_VBR a o x.2.2.2.1 x.2.2.2.2.1 x.2.2.2.2.2, w_ValleyR a (o + 1), w_Key E a (o + 2) x.1.1.1, w_Bells E a (o + 3) x.1.1.2.1, w_Mel E a (o + 6) x.1.1.2.2.1, w_Cliffs E a (o + 10) x.1.1.2.2.2, w_ValleyR a (o + 13), w_Key E a (o + 14) x.1.2.1.1, w_Bells E a (o + 15) x.1.2.1.2.1, w_Mel E a (o + 18) x.1.2.1.2.2.1, w_Cliffs E a (o + 22) x.1.2.1.2.2.2, w_Prog E a (o + 25) x.1.2.2.2.1, w_Chord E a (o + 31) (q1.2.1, x.1.2.2.2.2.2.1, q1.2.2), w_Key E a (o + 34) x.2.1, w_Line E a (o + 35) x.2.2.1, w_Hist E a (o + 37) x.1.2.2.1, w_LongArr E ay oy (vp_updL y 0 (r2.toInt64))]) H := hP
  have hD : va_D A (List.flatten [w_VBR a o x.2.2.2.1 x.2.2.2.2.1 x.2.2.2.2.2, w_ValleyR a (o + 1), w_Key E a (o + 2) x.1.1.1, w_Bells E a (o + 3) x.1.1.2.1, w_Mel E a (o + 6) x.1.1.2.2.1, w_Cliffs E a (o + 10) x.1.1.2.2.2, w_ValleyR a (o + 13), w_Key E a (o + 14) x.1.2.1.1, w_Bells E a (o + 15) x.1.2.1.2.1, w_Mel E a (o + 18) x.1.2.1.2.2.1, w_Cliffs E a (o + 22) x.1.2.1.2.2.2, w_Prog E a (o + 25) x.1.2.2.2.1, w_Chord E a (o + 31) (q1.2.1, x.1.2.2.2.2.2.1, q1.2.2), w_Key E a (o + 34) x.2.1, w_Line E a (o + 35) x.2.2.1, w_Hist E a (o + 37) x.1.2.2.1, w_LongArr E ay oy (vp_updL y 0 (r2.toInt64))]) := hD
  refine lv_goto (tgt := 14) hx hb dL_lastBeat_8 (by decide) ?_
  refine lv_iconst (v := 0) hx hb dL_lastBeat_14 (by decide) ?_
  obtain rfl := Option.some.inj hF
  exact en_i hQ (Nat.le_of_ble_eq_true rfl) (Nat.le_of_ble_eq_true rfl) hx hb hr hlocks hP hD hS rfl dL_lastBeat_15

/-! L_harshestBeat -/
theorem dL_harshestBeat_0 : decode cL_harshestBeat 0 = .ok (.aload_n 1, 1) := by decide +kernel
theorem dL_harshestBeat_1 : decode cL_harshestBeat 1 = .ok (.iconst 0, 1) := by decide +kernel
theorem dL_harshestBeat_2 : decode cL_harshestBeat 2 = .ok (.aload_n 0, 1) := by decide +kernel
theorem dL_harshestBeat_3 : decode cL_harshestBeat 3 = .ok (.invokevirtual 119, 3) := by decide +kernel
theorem dL_harshestBeat_6 : decode cL_harshestBeat 6 = .ok (.i2l, 1) := by decide +kernel
theorem dL_harshestBeat_7 : decode cL_harshestBeat 7 = .ok (.lastore, 1) := by decide +kernel
theorem dL_harshestBeat_8 : decode cL_harshestBeat 8 = .ok (.goto 6, 3) := by decide +kernel
theorem dL_harshestBeat_11 : decode cL_harshestBeat 11 = .ok (.astore_n 2, 1) := by decide +kernel
theorem dL_harshestBeat_12 : decode cL_harshestBeat 12 = .ok (.iconst 1, 1) := by decide +kernel
theorem dL_harshestBeat_13 : decode cL_harshestBeat 13 = .ok (.ireturn, 1) := by decide +kernel
theorem dL_harshestBeat_14 : decode cL_harshestBeat 14 = .ok (.iconst 0, 1) := by decide +kernel
theorem dL_harshestBeat_15 : decode cL_harshestBeat 15 = .ok (.ireturn, 1) := by decide +kernel
def f_L_harshestBeat (x_valley_bells_pitches : (Nat → Int32)) (x_valley_bells_count : Int32) (x_valley_melodies_lengths : (Nat → Int32)) (x_valley_melodies_entries : (Nat → Int32)) (x_valley_melodies_tones : (Nat → Int32)) (x_valley_cliffs_delays : (Nat → Int32)) (x_valley_cliffs_transpositions : (Nat → Int32)) (x_valley_cliffs_count : Int32) (x_chord_notes : (Nat → Int32)) (x_chord_size : Int32) (y_v : (Nat → Int64)) : Option (Int32 × (Nat → Int32) × Int32 × (Nat → Int64)) :=
  q_bd (f_X10_harshestBeat x_valley_bells_pitches x_valley_bells_count x_valley_melodies_lengths x_valley_melodies_entries x_valley_melodies_tones x_valley_cliffs_delays x_valley_cliffs_transpositions x_valley_cliffs_count x_chord_notes x_chord_size) (fun q1 =>
  q_sm q1.1 (fun X => q_br (X = "java/util/NoSuchElementException") (
  some (1, q1.2.1, q1.2.2, y_v)) (
  none)) (fun r2 =>
  some (0, q1.2.1, q1.2.2, vp_updL y_v 0 (r2.toInt64))))
theorem hv_L_harshestBeat : yL_harshestBeat.cls = RL ∧ yL_harshestBeat.cls ≠ "java/lang/invoke/MethodHandle" ∧ yL_harshestBeat.cls ≠ "java/lang/invoke/VarHandle" ∧ (parseMethodDescriptor yL_harshestBeat.desc).map (fun d => d.parameters.length) = some 2 := by decide +kernel
abbrev rm_L_harshestBeat : Room := { frames := 8, cells := 1, slots := 6, locals := 139 }
set_option maxHeartbeats 4000000 in
set_option maxRecDepth 100000 in
theorem k_L_harshestBeat (l : Launch) (E : ET) (a : Nat → Nat) (o : Nat) (x : VB_t) (ay : Nat → Nat) (oy : Nat) (y : (Nat → Int64)) (res : Int32 × (Nat → Int32) × Int32 × (Nat → Int64)) (hF : f_L_harshestBeat x.1.1.2.1.2.1 x.1.1.2.1.2.2 x.1.1.2.2.1.1 x.1.1.2.2.1.2.1 x.1.1.2.2.1.2.2 x.1.1.2.2.2.1 x.1.1.2.2.2.2.1 x.1.1.2.2.2.2.2 x.1.2.2.2.2.1 x.1.2.2.2.2.2.2 y = some res) (sz : Nat) (hlt : l.stackTraces = false) : CtI l yL_harshestBeat (mwsH yL_harshestBeat cL_harshestBeat 3 (some .int) [(0, 8, 11, 79)]) rm_L_harshestBeat 1 6 [.ref (a o), .ref (ay oy)] E (bl_VB E a o x ++ bl_LongArr E ay oy y) res.1 (bl_VB E a o ((x.1.1, x.1.2.1, x.1.2.2.1, x.1.2.2.2.1, (res.2.1, x.1.2.2.2.2.2.1, res.2.2.1)), (x.2.1, x.2.2.1, x.2.2.2.1, x.2.2.2.2.1, x.2.2.2.2.2)) ++ bl_LongArr E ay oy res.2.2.2) sz := by
  refine mk_H (by decide +kernel) (Nat.le_of_ble_eq_true rfl) ?_
  intro p e s m below meth c A args Q ls hAe hsz hQ hx hb hr hml hin ha hown hlocks hA hz hzs hst htab hP hD hS hl
  have hown : s.vm.findClass RL = some m.cls := hown
  rw [hAe] at hQ
  subst hsz
  have hP : va_P E.1 vwCl (List.flatten [w_VBR a o x.2.2.2.1 x.2.2.2.2.1 x.2.2.2.2.2, w_ValleyR a (o + 1), w_Key E a (o + 2) x.1.1.1, w_Bells E a (o + 3) x.1.1.2.1, w_Mel E a (o + 6) x.1.1.2.2.1, w_Cliffs E a (o + 10) x.1.1.2.2.2, w_ValleyR a (o + 13), w_Key E a (o + 14) x.1.2.1.1, w_Bells E a (o + 15) x.1.2.1.2.1, w_Mel E a (o + 18) x.1.2.1.2.2.1, w_Cliffs E a (o + 22) x.1.2.1.2.2.2, w_Prog E a (o + 25) x.1.2.2.2.1, w_Chord E a (o + 31) x.1.2.2.2.2, w_Key E a (o + 34) x.2.1, w_Line E a (o + 35) x.2.2.1, w_Hist E a (o + 37) x.1.2.2.1, w_LongArr E ay oy y]) s.heap := hP
  have hD : va_D A (List.flatten [w_VBR a o x.2.2.2.1 x.2.2.2.2.1 x.2.2.2.2.2, w_ValleyR a (o + 1), w_Key E a (o + 2) x.1.1.1, w_Bells E a (o + 3) x.1.1.2.1, w_Mel E a (o + 6) x.1.1.2.2.1, w_Cliffs E a (o + 10) x.1.1.2.2.2, w_ValleyR a (o + 13), w_Key E a (o + 14) x.1.2.1.1, w_Bells E a (o + 15) x.1.2.1.2.1, w_Mel E a (o + 18) x.1.2.1.2.2.1, w_Cliffs E a (o + 22) x.1.2.1.2.2.2, w_Prog E a (o + 25) x.1.2.2.2.1, w_Chord E a (o + 31) x.1.2.2.2.2, w_Key E a (o + 34) x.2.1, w_Line E a (o + 35) x.2.2.1, w_Hist E a (o + 37) x.1.2.2.1, w_LongArr E ay oy y]) := hD
  have hl : lv_has ls 3 [(0, .ref (a o)), (1, .ref (ay oy))] := hl
  generalize hHe : s.heap = H at hP
  have hS : va_S A s.heap H [] := by rw [← hHe]; exact hS
  generalize ([] : List Loc) = locs at hS ⊢
  unfold f_L_harshestBeat at hF
  refine lv_aload_n hx hb dL_harshestBeat_0 rfl (lv_at hl 1 rfl) ?_
  refine lv_iconst (v := 0) hx hb dL_harshestBeat_1 (by decide) ?_
  refine lv_aload_n hx hb dL_harshestBeat_2 rfl (lv_at hl 0 rfl) ?_
  obtain ⟨q1, hq1, hF⟩ := q_bdi hF
  refine cx_i (ro := q1.1) (Lc := [w_VBR a o x.2.2.2.1 x.2.2.2.2.1 x.2.2.2.2.2, w_ValleyR a (o + 1), w_Key E a (o + 2) x.1.1.1, w_Bells E a (o + 3) x.1.1.2.1, w_Mel E a (o + 6) x.1.1.2.2.1, w_Cliffs E a (o + 10) x.1.1.2.2.2, w_ValleyR a (o + 13), w_Key E a (o + 14) x.1.2.1.1, w_Bells E a (o + 15) x.1.2.1.2.1, w_Mel E a (o + 18) x.1.2.1.2.2.1, w_Cliffs E a (o + 22) x.1.2.1.2.2.2, w_Prog E a (o + 25) x.1.2.2.2.1, w_Chord E a (o + 31) x.1.2.2.2.2, w_Key E a (o + 34) x.2.1, w_Line E a (o + 35) x.2.2.1, w_Hist E a (o + 37) x.1.2.2.1]) (Lc' := [w_VBR a o x.2.2.2.1 x.2.2.2.2.1 x.2.2.2.2.2, w_ValleyR a (o + 1), w_Key E a (o + 2) x.1.1.1, w_Bells E a (o + 3) x.1.1.2.1, w_Mel E a (o + 6) x.1.1.2.2.1, w_Cliffs E a (o + 10) x.1.1.2.2.2, w_ValleyR a (o + 13), w_Key E a (o + 14) x.1.2.1.1, w_Bells E a (o + 15) x.1.2.1.2.1, w_Mel E a (o + 18) x.1.2.1.2.2.1, w_Cliffs E a (o + 22) x.1.2.1.2.2.2, w_Prog E a (o + 25) x.1.2.2.2.1, w_Chord E a (o + 31) (q1.2.1, x.1.2.2.2.2.2.1, q1.2.2), w_Key E a (o + 34) x.2.1, w_Line E a (o + 35) x.2.2.1, w_Hist E a (o + 37) x.1.2.2.1]) (L' := [w_VBR a o x.2.2.2.1 x.2.2.2.2.1 x.2.2.2.2.2, w_ValleyR a (o + 1), w_Key E a (o + 2) x.1.1.1, w_Bells E a (o + 3) x.1.1.2.1, w_Mel E a (o + 6) x.1.1.2.2.1, w_Cliffs E a (o + 10) x.1.1.2.2.2, w_ValleyR a (o + 13), w_Key E a (o + 14) x.1.2.1.1, w_Bells E a (o + 15) x.1.2.1.2.1, w_Mel E a (o + 18) x.1.2.1.2.2.1, w_Cliffs E a (o + 22) x.1.2.1.2.2.2, w_Prog E a (o + 25) x.1.2.2.2.1, w_Chord E a (o + 31) (q1.2.1, x.1.2.2.2.2.2.1, q1.2.2), w_Key E a (o + 34) x.2.1, w_Line E a (o + 35) x.2.2.1, w_Hist E a (o + 37) x.1.2.2.1, w_LongArr E ay oy y]) (vx_runV (As := []) (rest := [.int 0, .ref (ay oy)]) ⟨hx, hb, hml, hown, ha⟩ (k_X10_harshestBeat l E a o x q1 hq1 H.size hlt) (cwV 0 ha (gi_V (fun _ h => h) mw1440 mw1441 mw1442 mw74 mw1443) rfl rfl rfl hv_X10_harshestBeat ⟨(Nat.le_of_ble_eq_true rfl), (Nat.le_of_ble_eq_true rfl)⟩) ⟨pre_blind, va_recv hst.k (fr_P hP [0, 1, 2, 3, 4, 5, 6, 7, 8, 9, 10, 11, 12, 13, 14, 15] rfl) (ci := 12) (q0 := 0) rfl rfl, pre_at hP hD hS hz hzs hst [0, 1, 2, 3, 4, 5, 6, 7, 8, 9, 10, 11, 12, 13, 14, 15] (by decide) rfl rfl⟩ rfl rfl hl.1 rfl (lv_room (Nat.le_of_ble_eq_true rfl)) dL_harshestBeat_3 ⟨(Nat.le_of_ble_eq_true rfl), (Nat.le_of_ble_eq_true rfl)⟩) hP hD hS hA [0, 1, 2, 3, 4, 5, 6, 7, 8, 9, 10, 11, 12, 13, 14, 15] (by decide) rfl rfl rfl rfl (fun X ce q9 H locs eX h1 h2 h3 hP hD hS => ?_) (fun r2 H locs er2 hP hD hS => ?_)
  · have hF := q_smr eX hF
    by_cases w3_0 : X = "java/util/NoSuchElementException"
    · have hF := q_brp w3_0 hF
      subst w3_0
      refine vx_catch (E := "java/util/NoSuchElementException") (name := "java/util/NoSuchElementException") hown [] ⟨0, 8, 11, 79⟩ [] htab (fun _ h => nomatch h) (by decide) (by decide) (ha _ mw1268) (va_Nw.use rfl (hst.cs cs_NoSuchElementException)) h1 h2 h3 ?_
      refine lv_astore_n (lv' := [(2, .ref q9), (0, .ref (a o)), (1, .ref (ay oy))]) hx hb dL_harshestBeat_11 rfl hl (by decide) rfl (fun ls hl => ?_)
      refine lv_iconst (v := 1) hx hb dL_harshestBeat_12 (by decide) ?_
      obtain rfl := Option.some.inj hF
      exact en_i hQ (Nat.le_of_ble_eq_true rfl) (Nat.le_of_ble_eq_true rfl) hx hb hr hlocks hP hD hS rfl dL_harshestBeat_13
    have hF := q_brn w3_0 hF
    exact absurd hF (by simp)
  have hF := q_sml er2 hF
  refine lv_i2l hx hb dL_harshestBeat_6 rfl ?_
  refine vi_last hx hb hst.k hP hD hS 147 3 rfl rfl (f := y) (k := 0) (by decide) (by decide) dL_harshestBeat_7 (fun H locs hP hD hS => ?_)
  have hP : va_P E.1 vwCl (List.flatten [w_VBR a o x.2.2.2.1 x.2.2.2.2.1 x.2.2.2.2.2, w_ValleyR a (o + 1), w_Key E a (o + 2) x.1.1.1, w_Bells E a (o + 3) x.1.1.2.1, w_Mel E a (o + 6) x.1.1.2.2.1, w_Cliffs E a (o + 10) x.1.1.2.2.2, w_ValleyR a (o + 13), w_Key E a (o + 14) x.1.2.1.1, w_Bells E a (o + 15) x.1.2.1.2.1, w_Mel E a (o + 18) x.1.2.1.2.2.1, w_Cliffs E a (o + 22) x.1.2.1.2.2.2, w_Prog E a (o + 25) x.1.2.2.2.1, w_Chord E a (o + 31) (q1.2.1, x.1.2.2.2.2.2.1, q1.2.2), w_Key E a (o + 34) x.2.1, w_Line E a (o + 35) x.2.2.1, w_Hist E a (o + 37) x.1.2.2.1, w_LongArr E ay oy (vp_updL y 0 (r2.toInt64))]) H := hP
  have hD : va_D A (List.flatten [w_VBR a o x.2.2.2.1 x.2.2.2.2.1 x.2.2.2.2.2, w_ValleyR a (o + 1), w_Key E a (o + 2) x.1.1.1, w_Bells E a (o + 3) x.1.1.2.1, w_Mel E a (o + 6) x.1.1.2.2.1, w_Cliffs E a (o + 10) x.1.1.2.2.2, w_ValleyR a (o + 13), w_Key E a (o + 14) x.1.2.1.1, w_Bells E a (o + 15) x.1.2.1.2.1, w_Mel E a (o + 18) x.1.2.1.2.2.1, w_Cliffs E a (o + 22) x.1.2.1.2.2.2, w_Prog E a (o + 25) x.1.2.2.2.1, w_Chord E a (o + 31) (q1.2.1, x.1.2.2.2.2.2.1, q1.2.2), w_Key E a (o + 34) x.2.1, w_Line E a (o + 35) x.2.2.1, w_Hist E a (o + 37) x.1.2.2.1, w_LongArr E ay oy (vp_updL y 0 (r2.toInt64))]) := hD
  refine lv_goto (tgt := 14) hx hb dL_harshestBeat_8 (by decide) ?_
  refine lv_iconst (v := 0) hx hb dL_harshestBeat_14 (by decide) ?_
  obtain rfl := Option.some.inj hF
  exact en_i hQ (Nat.le_of_ble_eq_true rfl) (Nat.le_of_ble_eq_true rfl) hx hb hr hlocks hP hD hS rfl dL_harshestBeat_15

/-! L_append -/
theorem dL_append_0 : decode cL_append 0 = .ok (.aload_n 2, 1) := by decide +kernel
theorem dL_append_1 : decode cL_append 1 = .ok (.iconst 0, 1) := by decide +kernel
theorem dL_append_2 : decode cL_append 2 = .ok (.aload_n 0, 1) := by decide +kernel
theorem dL_append_3 : decode cL_append 3 = .ok (.iload_n 1, 1) := by decide +kernel
theorem dL_append_4 : decode cL_append 4 = .ok (.invokevirtual 122, 3) := by decide +kernel
theorem dL_append_7 : decode cL_append 7 = .ok (.i2l, 1) := by decide +kernel
theorem dL_append_8 : decode cL_append 8 = .ok (.lastore, 1) := by decide +kernel
theorem dL_append_9 : decode cL_append 9 = .ok (.goto 6, 3) := by decide +kernel
theorem dL_append_12 : decode cL_append 12 = .ok (.astore_n 3, 1) := by decide +kernel
theorem dL_append_13 : decode cL_append 13 = .ok (.iconst 1, 1) := by decide +kernel
theorem dL_append_14 : decode cL_append 14 = .ok (.ireturn, 1) := by decide +kernel
theorem dL_append_15 : decode cL_append 15 = .ok (.iconst 0, 1) := by decide +kernel
theorem dL_append_16 : decode cL_append 16 = .ok (.ireturn, 1) := by decide +kernel
def f_L_append (x_program_text : (Nat → Int32)) (x_program_length : Int32) (y_v : (Nat → Int64)) (p2 : Int32) : Option (Int32 × (Nat → Int32) × Int32 × (Nat → Int64)) :=
  q_bd (f_X10_append x_program_text x_program_length p2) (fun q1 =>
  q_sm q1.1 (fun X => q_br (X = "java/lang/IllegalStateException") (
  some (1, q1.2.1, q1.2.2, y_v)) (
  none)) (fun r2 =>
  some (0, q1.2.1, q1.2.2, vp_updL y_v 0 (r2.toInt64))))
theorem hv_L_append : yL_append.cls = RL ∧ yL_append.cls ≠ "java/lang/invoke/MethodHandle" ∧ yL_append.cls ≠ "java/lang/invoke/VarHandle" ∧ (parseMethodDescriptor yL_append.desc).map (fun d => d.parameters.length) = some 3 := by decide +kernel
abbrev rm_L_append : Room := { frames := 7, cells := 1, slots := 6, locals := 103 }
set_option maxHeartbeats 4000000 in
set_option maxRecDepth 100000 in
theorem k_L_append (l : Launch) (E : ET) (a : Nat → Nat) (o : Nat) (x : VB_t) (ay : Nat → Nat) (oy : Nat) (y : (Nat → Int64)) (p2 : Int32) (res : Int32 × (Nat → Int32) × Int32 × (Nat → Int64)) (hF : f_L_append x.1.2.2.2.1.1.1 x.1.2.2.2.1.1.2.1 y p2 = some res) (sz : Nat) (hlt : l.stackTraces = false) : CtI l yL_append (mwsH yL_append cL_append 4 (some .int) [(0, 9, 12, 17)]) rm_L_append 1 6 [.ref (a o), .int p2, .ref (ay oy)] E (bl_VB E a o x ++ bl_LongArr E ay oy y) res.1 (bl_VB E a o ((x.1.1, x.1.2.1, x.1.2.2.1, ((res.2.1, res.2.2.1, x.1.2.2.2.1.1.2.2.1, x.1.2.2.2.1.1.2.2.2), (x.1.2.2.2.1.2.1.1, x.1.2.2.2.1.2.1.2.1, x.1.2.2.2.1.2.1.2.2.1, x.1.2.2.2.1.2.1.2.2.2), (x.1.2.2.2.1.2.2.1, x.1.2.2.2.1.2.2.2.1, x.1.2.2.2.1.2.2.2.2)), x.1.2.2.2.2), (x.2.1, x.2.2.1, x.2.2.2.1, x.2.2.2.2.1, x.2.2.2.2.2)) ++ bl_LongArr E ay oy res.2.2.2) sz := by
  refine mk_H (by decide +kernel) (Nat.le_of_ble_eq_true rfl) ?_
  intro p e s m below meth c A args Q ls hAe hsz hQ hx hb hr hml hin ha hown hlocks hA hz hzs hst htab hP hD hS hl
  have hown : s.vm.findClass RL = some m.cls := hown
  rw [hAe] at hQ
  subst hsz
  have hP : va_P E.1 vwCl (List.flatten [w_VBR a o x.2.2.2.1 x.2.2.2.2.1 x.2.2.2.2.2, w_ValleyR a (o + 1), w_Key E a (o + 2) x.1.1.1, w_Bells E a (o + 3) x.1.1.2.1, w_Mel E a (o + 6) x.1.1.2.2.1, w_Cliffs E a (o + 10) x.1.1.2.2.2, w_ValleyR a (o + 13), w_Key E a (o + 14) x.1.2.1.1, w_Bells E a (o + 15) x.1.2.1.2.1, w_Mel E a (o + 18) x.1.2.1.2.2.1, w_Cliffs E a (o + 22) x.1.2.1.2.2.2, w_Prog E a (o + 25) x.1.2.2.2.1, w_Chord E a (o + 31) x.1.2.2.2.2, w_Key E a (o + 34) x.2.1, w_Line E a (o + 35) x.2.2.1, w_Hist E a (o + 37) x.1.2.2.1, w_LongArr E ay oy y]) s.heap := hP
  have hD : va_D A (List.flatten [w_VBR a o x.2.2.2.1 x.2.2.2.2.1 x.2.2.2.2.2, w_ValleyR a (o + 1), w_Key E a (o + 2) x.1.1.1, w_Bells E a (o + 3) x.1.1.2.1, w_Mel E a (o + 6) x.1.1.2.2.1, w_Cliffs E a (o + 10) x.1.1.2.2.2, w_ValleyR a (o + 13), w_Key E a (o + 14) x.1.2.1.1, w_Bells E a (o + 15) x.1.2.1.2.1, w_Mel E a (o + 18) x.1.2.1.2.2.1, w_Cliffs E a (o + 22) x.1.2.1.2.2.2, w_Prog E a (o + 25) x.1.2.2.2.1, w_Chord E a (o + 31) x.1.2.2.2.2, w_Key E a (o + 34) x.2.1, w_Line E a (o + 35) x.2.2.1, w_Hist E a (o + 37) x.1.2.2.1, w_LongArr E ay oy y]) := hD
  have hl : lv_has ls 4 [(0, .ref (a o)), (1, .int p2), (2, .ref (ay oy))] := hl
  generalize hHe : s.heap = H at hP
  have hS : va_S A s.heap H [] := by rw [← hHe]; exact hS
  generalize ([] : List Loc) = locs at hS ⊢
  unfold f_L_append at hF
  refine lv_aload_n hx hb dL_append_0 rfl (lv_at hl 2 rfl) ?_
  refine lv_iconst (v := 0) hx hb dL_append_1 (by decide) ?_
  refine lv_aload_n hx hb dL_append_2 rfl (lv_at hl 0 rfl) ?_
  refine lv_iload_n hx hb dL_append_3 rfl (lv_at hl 1 rfl) ?_
  obtain ⟨q1, hq1, hF⟩ := q_bdi hF
  refine cx_i (ro := q1.1) (Lc := [w_VBR a o x.2.2.2.1 x.2.2.2.2.1 x.2.2.2.2.2, w_ValleyR a (o + 1), w_Key E a (o + 2) x.1.1.1, w_Bells E a (o + 3) x.1.1.2.1, w_Mel E a (o + 6) x.1.1.2.2.1, w_Cliffs E a (o + 10) x.1.1.2.2.2, w_ValleyR a (o + 13), w_Key E a (o + 14) x.1.2.1.1, w_Bells E a (o + 15) x.1.2.1.2.1, w_Mel E a (o + 18) x.1.2.1.2.2.1, w_Cliffs E a (o + 22) x.1.2.1.2.2.2, w_Prog E a (o + 25) x.1.2.2.2.1, w_Chord E a (o + 31) x.1.2.2.2.2, w_Key E a (o + 34) x.2.1, w_Line E a (o + 35) x.2.2.1, w_Hist E a (o + 37) x.1.2.2.1]) (Lc' := [w_VBR a o x.2.2.2.1 x.2.2.2.2.1 x.2.2.2.2.2, w_ValleyR a (o + 1), w_Key E a (o + 2) x.1.1.1, w_Bells E a (o + 3) x.1.1.2.1, w_Mel E a (o + 6) x.1.1.2.2.1, w_Cliffs E a (o + 10) x.1.1.2.2.2, w_ValleyR a (o + 13), w_Key E a (o + 14) x.1.2.1.1, w_Bells E a (o + 15) x.1.2.1.2.1, w_Mel E a (o + 18) x.1.2.1.2.2.1, w_Cliffs E a (o + 22) x.1.2.1.2.2.2, w_Prog E a (o + 25) ((q1.2.1, q1.2.2, x.1.2.2.2.1.1.2.2.1, x.1.2.2.2.1.1.2.2.2), (x.1.2.2.2.1.2.1.1, x.1.2.2.2.1.2.1.2.1, x.1.2.2.2.1.2.1.2.2.1, x.1.2.2.2.1.2.1.2.2.2), (x.1.2.2.2.1.2.2.1, x.1.2.2.2.1.2.2.2.1, x.1.2.2.2.1.2.2.2.2)), w_Chord E a (o + 31) x.1.2.2.2.2, w_Key E a (o + 34) x.2.1, w_Line E a (o + 35) x.2.2.1, w_Hist E a (o + 37) x.1.2.2.1]) (L' := [w_VBR a o x.2.2.2.1 x.2.2.2.2.1 x.2.2.2.2.2, w_ValleyR a (o + 1), w_Key E a (o + 2) x.1.1.1, w_Bells E a (o + 3) x.1.1.2.1, w_Mel E a (o + 6) x.1.1.2.2.1, w_Cliffs E a (o + 10) x.1.1.2.2.2, w_ValleyR a (o + 13), w_Key E a (o + 14) x.1.2.1.1, w_Bells E a (o + 15) x.1.2.1.2.1, w_Mel E a (o + 18) x.1.2.1.2.2.1, w_Cliffs E a (o + 22) x.1.2.1.2.2.2, w_Prog E a (o + 25) ((q1.2.1, q1.2.2, x.1.2.2.2.1.1.2.2.1, x.1.2.2.2.1.1.2.2.2), (x.1.2.2.2.1.2.1.1, x.1.2.2.2.1.2.1.2.1, x.1.2.2.2.1.2.1.2.2.1, x.1.2.2.2.1.2.1.2.2.2), (x.1.2.2.2.1.2.2.1, x.1.2.2.2.1.2.2.2.1, x.1.2.2.2.1.2.2.2.2)), w_Chord E a (o + 31) x.1.2.2.2.2, w_Key E a (o + 34) x.2.1, w_Line E a (o + 35) x.2.2.1, w_Hist E a (o + 37) x.1.2.2.1, w_LongArr E ay oy y]) (vx_runV (As := [.int p2]) (rest := [.int 0, .ref (ay oy)]) ⟨hx, hb, hml, hown, ha⟩ (k_X10_append l E a o x p2 q1 hq1 H.size hlt) (cwV 1 ha (gi_V (fun _ h => h) mw1447 mw1448 mw1449 mw74 mw1450) rfl rfl rfl hv_X10_append ⟨(Nat.le_of_ble_eq_true rfl), (Nat.le_of_ble_eq_true rfl)⟩) ⟨pre_blind, va_recv hst.k (fr_P hP [0, 1, 2, 3, 4, 5, 6, 7, 8, 9, 10, 11, 12, 13, 14, 15] rfl) (ci := 12) (q0 := 0) rfl rfl, pre_at hP hD hS hz hzs hst [0, 1, 2, 3, 4, 5, 6, 7, 8, 9, 10, 11, 12, 13, 14, 15] (by decide) rfl rfl⟩ rfl rfl hl.1 rfl (lv_room (Nat.le_of_ble_eq_true rfl)) dL_append_4 ⟨(Nat.le_of_ble_eq_true rfl), (Nat.le_of_ble_eq_true rfl)⟩) hP hD hS hA [0, 1, 2, 3, 4, 5, 6, 7, 8, 9, 10, 11, 12, 13, 14, 15] (by decide) rfl rfl rfl rfl (fun X ce q9 H locs eX h1 h2 h3 hP hD hS => ?_) (fun r2 H locs er2 hP hD hS => ?_)
  · have hF := q_smr eX hF
    by_cases w4_0 : X = "java/lang/IllegalStateException"
    · have hF := q_brp w4_0 hF
      subst w4_0
      refine vx_catch (E := "java/lang/IllegalStateException") (name := "java/lang/IllegalStateException") hown [] ⟨0, 9, 12, 17⟩ [] htab (fun _ h => nomatch h) (by decide) (by decide) (ha _ mw964) (va_Nw.use rfl (hst.cs cs_IllegalStateException)) h1 h2 h3 ?_
      refine lv_astore_n (lv' := [(3, .ref q9), (0, .ref (a o)), (1, .int p2), (2, .ref (ay oy))]) hx hb dL_append_12 rfl hl (by decide) rfl (fun ls hl => ?_)
      refine lv_iconst (v := 1) hx hb dL_append_13 (by decide) ?_
      obtain rfl := Option.some.inj hF
      exact en_i hQ (Nat.le_of_ble_eq_true rfl) (Nat.le_of_ble_eq_true rfl) hx hb hr hlocks hP hD hS rfl dL_append_14
    have hF := q_brn w4_0 hF
    exact absurd hF (by simp)
  have hF := q_sml er2 hF
  refine lv_i2l hx hb dL_append_7 rfl ?_
  refine vi_last hx hb hst.k hP hD hS 147 3 rfl rfl (f := y) (k := 0) (by decide) (by decide) dL_append_8 (fun H locs hP hD hS => ?_)
  have hP : va_P E.1 vwCl (List.flatten [w_VBR a o x.2.2.2.1 x.2.2.2.2.1 x.2.2.2.2.2, w_ValleyR a (o + 1), w_Key E a (o + 2) x.1.1.1, w_Bells E a (o + 3) x.1.1.2.1, w_Mel E a (o + 6) x.1.1.2.2.1, w_Cliffs E a (o + 10) x.1.1.2.2.2, w_ValleyR a (o + 13), w_Key E a (o + 14) x.1.2.1.1, w_Bells E a (o + 15) x.1.2.1.2.1, w_Mel E a (o + 18) x.1.2.1.2.2.1, w_Cliffs E a (o + 22) x.1.2.1.2.2.2, w_Prog E a (o + 25) ((q1.2.1, q1.2.2, x.1.2.2.2.1.1.2.2.1, x.1.2.2.2.1.1.2.2.2), (x.1.2.2.2.1.2.1.1, x.1.2.2.2.1.2.1.2.1, x.1.2.2.2.1.2.1.2.2.1, x.1.2.2.2.1.2.1.2.2.2), (x.1.2.2.2.1.2.2.1, x.1.2.2.2.1.2.2.2.1, x.1.2.2.2.1.2.2.2.2)), w_Chord E a (o + 31) x.1.2.2.2.2, w_Key E a (o + 34) x.2.1, w_Line E a (o + 35) x.2.2.1, w_Hist E a (o + 37) x.1.2.2.1, w_LongArr E ay oy (vp_updL y 0 (r2.toInt64))]) H := hP
  have hD : va_D A (List.flatten [w_VBR a o x.2.2.2.1 x.2.2.2.2.1 x.2.2.2.2.2, w_ValleyR a (o + 1), w_Key E a (o + 2) x.1.1.1, w_Bells E a (o + 3) x.1.1.2.1, w_Mel E a (o + 6) x.1.1.2.2.1, w_Cliffs E a (o + 10) x.1.1.2.2.2, w_ValleyR a (o + 13), w_Key E a (o + 14) x.1.2.1.1, w_Bells E a (o + 15) x.1.2.1.2.1, w_Mel E a (o + 18) x.1.2.1.2.2.1, w_Cliffs E a (o + 22) x.1.2.1.2.2.2, w_Prog E a (o + 25) ((q1.2.1, q1.2.2, x.1.2.2.2.1.1.2.2.1, x.1.2.2.2.1.1.2.2.2), (x.1.2.2.2.1.2.1.1, x.1.2.2.2.1.2.1.2.1, x.1.2.2.2.1.2.1.2.2.1, x.1.2.2.2.1.2.1.2.2.2), (x.1.2.2.2.1.2.2.1, x.1.2.2.2.1.2.2.2.1, x.1.2.2.2.1.2.2.2.2)), w_Chord E a (o + 31) x.1.2.2.2.2, w_Key E a (o + 34) x.2.1, w_Line E a (o + 35) x.2.2.1, w_Hist E a (o + 37) x.1.2.2.1, w_LongArr E ay oy (vp_updL y 0 (r2.toInt64))]) := hD
  refine lv_goto (tgt := 15) hx hb dL_append_9 (by decide) ?_
  refine lv_iconst (v := 0) hx hb dL_append_15 (by decide) ?_
  obtain rfl := Option.some.inj hF
  exact en_i hQ (Nat.le_of_ble_eq_true rfl) (Nat.le_of_ble_eq_true rfl) hx hb hr hlocks hP hD hS rfl dL_append_16

/-! L_run -/
theorem dL_run_0 : decode cL_run 0 = .ok (.aload_n 1, 1) := by decide +kernel
theorem dL_run_1 : decode cL_run 1 = .ok (.iconst 0, 1) := by decide +kernel
theorem dL_run_2 : decode cL_run 2 = .ok (.aload_n 0, 1) := by decide +kernel
theorem dL_run_3 : decode cL_run 3 = .ok (.invokevirtual 126, 3) := by decide +kernel
theorem dL_run_6 : decode cL_run 6 = .ok (.i2l, 1) := by decide +kernel
theorem dL_run_7 : decode cL_run 7 = .ok (.lastore, 1) := by decide +kernel
theorem dL_run_8 : decode cL_run 8 = .ok (.goto 9, 3) := by decide +kernel
theorem dL_run_11 : decode cL_run 11 = .ok (.astore_n 2, 1) := by decide +kernel
theorem dL_run_12 : decode cL_run 12 = .ok (.iconst 1, 1) := by decide +kernel
theorem dL_run_13 : decode cL_run 13 = .ok (.ireturn, 1) := by decide +kernel
theorem dL_run_14 : decode cL_run 14 = .ok (.astore_n 2, 1) := by decide +kernel
theorem dL_run_15 : decode cL_run 15 = .ok (.iconst 2, 1) := by decide +kernel
theorem dL_run_16 : decode cL_run 16 = .ok (.ireturn, 1) := by decide +kernel
theorem dL_run_17 : decode cL_run 17 = .ok (.iconst 0, 1) := by decide +kernel
theorem dL_run_18 : decode cL_run 18 = .ok (.ireturn, 1) := by decide +kernel
def f_L_run (x_valley_key_tonic : Int32) (x_valley_key_isMinor : Int32) (x_valley_key_tolerance : Int32) (x_valley_bells_herds : (Nat → Int32)) (x_valley_bells_pitches : (Nat → Int32)) (x_valley_bells_count : Int32) (x_valley_melodies_lengths : (Nat → Int32)) (x_valley_melodies_entries : (Nat → Int32)) (x_valley_melodies_tones : (Nat → Int32)) (x_valley_cliffs_delays : (Nat → Int32)) (x_valley_cliffs_transpositions : (Nat → Int32)) (x_valley_cliffs_count : Int32) (x_history_slots : (Nat → Valley_t)) (x_history_current : Int32) (x_history_count : Int32) (x_program_text : (Nat → Int32)) (x_program_length : Int32) (x_program_commands : (Nat → Option Nat)) (x_program_firsts : (Nat → Int32)) (x_program_seconds : (Nat → Int32)) (x_program_count : Int32) (x_program_values : (Nat → Int32)) (x_program_argument : Int32) (x_program_sign : Int32) (x_program_at : Int32) (x_program_furthest : Int32) (x_errorPosition : Int32) (x_failedCommand : Int32) (y_v : (Nat → Int64)) : Option (Int32 × Int32 × Int32 × Int32 × (Nat → Int32) × (Nat → Int32) × Int32 × (Nat → Int32) × (Nat → Int32) × (Nat → Int32) × (Nat → Int32) × (Nat → Int32) × Int32 × (Nat → Valley_t) × Int32 × Int32 × Int32 × (Nat → Option Nat) × (Nat → Int32) × (Nat → Int32) × Int32 × (Nat → Int32) × Int32 × Int32 × Int32 × Int32 × Int32 × Int32 × (Nat → Int64)) :=
  q_bd (f_X10_run x_valley_key_tonic x_valley_key_isMinor x_valley_key_tolerance x_valley_bells_herds x_valley_bells_pitches x_valley_bells_count x_valley_melodies_lengths x_valley_melodies_entries x_valley_melodies_tones x_valley_cliffs_delays x_valley_cliffs_transpositions x_valley_cliffs_count x_history_slots x_history_current x_history_count x_program_text x_program_length x_program_commands x_program_firsts x_program_seconds x_program_count x_program_values x_program_argument x_program_sign x_program_at x_program_furthest x_errorPosition x_failedCommand) (fun q1 =>
  q_sm q1.1 (fun X => q_br (X = "java/lang/IllegalArgumentException") (
  some (1, q1.2.1, q1.2.2.1, q1.2.2.2.1, q1.2.2.2.2.1, q1.2.2.2.2.2.1, q1.2.2.2.2.2.2.1, q1.2.2.2.2.2.2.2.1, q1.2.2.2.2.2.2.2.2.1, q1.2.2.2.2.2.2.2.2.2.1, q1.2.2.2.2.2.2.2.2.2.2.1, q1.2.2.2.2.2.2.2.2.2.2.2.1, q1.2.2.2.2.2.2.2.2.2.2.2.2.1, q1.2.2.2.2.2.2.2.2.2.2.2.2.2.1, q1.2.2.2.2.2.2.2.2.2.2.2.2.2.2.1, q1.2.2.2.2.2.2.2.2.2.2.2.2.2.2.2.1, q1.2.2.2.2.2.2.2.2.2.2.2.2.2.2.2.2.1, q1.2.2.2.2.2.2.2.2.2.2.2.2.2.2.2.2.2.1, q1.2.2.2.2.2.2.2.2.2.2.2.2.2.2.2.2.2.2.1, q1.2.2.2.2.2.2.2.2.2.2.2.2.2.2.2.2.2.2.2.1, q1.2.2.2.2.2.2.2.2.2.2.2.2.2.2.2.2.2.2.2.2.1, q1.2.2.2.2.2.2.2.2.2.2.2.2.2.2.2.2.2.2.2.2.2.1, q1.2.2.2.2.2.2.2.2.2.2.2.2.2.2.2.2.2.2.2.2.2.2.1, q1.2.2.2.2.2.2.2.2.2.2.2.2.2.2.2.2.2.2.2.2.2.2.2.1, q1.2.2.2.2.2.2.2.2.2.2.2.2.2.2.2.2.2.2.2.2.2.2.2.2.1, q1.2.2.2.2.2.2.2.2.2.2.2.2.2.2.2.2.2.2.2.2.2.2.2.2.2.1, q1.2.2.2.2.2.2.2.2.2.2.2.2.2.2.2.2.2.2.2.2.2.2.2.2.2.2.1, q1.2.2.2.2.2.2.2.2.2.2.2.2.2.2.2.2.2.2.2.2.2.2.2.2.2.2.2, y_v)) (
  q_br (X = "java/lang/UnsupportedOperationException") (
  some (2, q1.2.1, q1.2.2.1, q1.2.2.2.1, q1.2.2.2.2.1, q1.2.2.2.2.2.1, q1.2.2.2.2.2.2.1, q1.2.2.2.2.2.2.2.1, q1.2.2.2.2.2.2.2.2.1, q1.2.2.2.2.2.2.2.2.2.1, q1.2.2.2.2.2.2.2.2.2.2.1, q1.2.2.2.2.2.2.2.2.2.2.2.1, q1.2.2.2.2.2.2.2.2.2.2.2.2.1, q1.2.2.2.2.2.2.2.2.2.2.2.2.2.1, q1.2.2.2.2.2.2.2.2.2.2.2.2.2.2.1, q1.2.2.2.2.2.2.2.2.2.2.2.2.2.2.2.1, q1.2.2.2.2.2.2.2.2.2.2.2.2.2.2.2.2.1, q1.2.2.2.2.2.2.2.2.2.2.2.2.2.2.2.2.2.1, q1.2.2.2.2.2.2.2.2.2.2.2.2.2.2.2.2.2.2.1, q1.2.2.2.2.2.2.2.2.2.2.2.2.2.2.2.2.2.2.2.1, q1.2.2.2.2.2.2.2.2.2.2.2.2.2.2.2.2.2.2.2.2.1, q1.2.2.2.2.2.2.2.2.2.2.2.2.2.2.2.2.2.2.2.2.2.1, q1.2.2.2.2.2.2.2.2.2.2.2.2.2.2.2.2.2.2.2.2.2.2.1, q1.2.2.2.2.2.2.2.2.2.2.2.2.2.2.2.2.2.2.2.2.2.2.2.1, q1.2.2.2.2.2.2.2.2.2.2.2.2.2.2.2.2.2.2.2.2.2.2.2.2.1, q1.2.2.2.2.2.2.2.2.2.2.2.2.2.2.2.2.2.2.2.2.2.2.2.2.2.1, q1.2.2.2.2.2.2.2.2.2.2.2.2.2.2.2.2.2.2.2.2.2.2.2.2.2.2.1, q1.2.2.2.2.2.2.2.2.2.2.2.2.2.2.2.2.2.2.2.2.2.2.2.2.2.2.2, y_v)) (
  none))) (fun r2 =>
  some (0, q1.2.1, q1.2.2.1, q1.2.2.2.1, q1.2.2.2.2.1, q1.2.2.2.2.2.1, q1.2.2.2.2.2.2.1, q1.2.2.2.2.2.2.2.1, q1.2.2.2.2.2.2.2.2.1, q1.2.2.2.2.2.2.2.2.2.1, q1.2.2.2.2.2.2.2.2.2.2.1, q1.2.2.2.2.2.2.2.2.2.2.2.1, q1.2.2.2.2.2.2.2.2.2.2.2.2.1, q1.2.2.2.2.2.2.2.2.2.2.2.2.2.1, q1.2.2.2.2.2.2.2.2.2.2.2.2.2.2.1, q1.2.2.2.2.2.2.2.2.2.2.2.2.2.2.2.1, q1.2.2.2.2.2.2.2.2.2.2.2.2.2.2.2.2.1, q1.2.2.2.2.2.2.2.2.2.2.2.2.2.2.2.2.2.1, q1.2.2.2.2.2.2.2.2.2.2.2.2.2.2.2.2.2.2.1, q1.2.2.2.2.2.2.2.2.2.2.2.2.2.2.2.2.2.2.2.1, q1.2.2.2.2.2.2.2.2.2.2.2.2.2.2.2.2.2.2.2.2.1, q1.2.2.2.2.2.2.2.2.2.2.2.2.2.2.2.2.2.2.2.2.2.1, q1.2.2.2.2.2.2.2.2.2.2.2.2.2.2.2.2.2.2.2.2.2.2.1, q1.2.2.2.2.2.2.2.2.2.2.2.2.2.2.2.2.2.2.2.2.2.2.2.1, q1.2.2.2.2.2.2.2.2.2.2.2.2.2.2.2.2.2.2.2.2.2.2.2.2.1, q1.2.2.2.2.2.2.2.2.2.2.2.2.2.2.2.2.2.2.2.2.2.2.2.2.2.1, q1.2.2.2.2.2.2.2.2.2.2.2.2.2.2.2.2.2.2.2.2.2.2.2.2.2.2.1, q1.2.2.2.2.2.2.2.2.2.2.2.2.2.2.2.2.2.2.2.2.2.2.2.2.2.2.2, vp_updL y_v 0 (r2.toInt64))))
theorem hv_L_run : yL_run.cls = RL ∧ yL_run.cls ≠ "java/lang/invoke/MethodHandle" ∧ yL_run.cls ≠ "java/lang/invoke/VarHandle" ∧ (parseMethodDescriptor yL_run.desc).map (fun d => d.parameters.length) = some 2 := by decide +kernel
abbrev rm_L_run : Room := { frames := 8, cells := 1, slots := 6, locals := 178 }
set_option maxHeartbeats 4000000 in
set_option maxRecDepth 100000 in
theorem k_L_run (l : Launch) (E : ET) (a : Nat → Nat) (o : Nat) (x : VB_t) (ay : Nat → Nat) (oy : Nat) (y : (Nat → Int64)) (res : Int32 × Int32 × Int32 × Int32 × (Nat → Int32) × (Nat → Int32) × Int32 × (Nat → Int32) × (Nat → Int32) × (Nat → Int32) × (Nat → Int32) × (Nat → Int32) × Int32 × (Nat → Valley_t) × Int32 × Int32 × Int32 × (Nat → Option Nat) × (Nat → Int32) × (Nat → Int32) × Int32 × (Nat → Int32) × Int32 × Int32 × Int32 × Int32 × Int32 × Int32 × (Nat → Int64)) (hF : f_L_run x.1.1.1.1 x.1.1.1.2.1 x.1.1.1.2.2 x.1.1.2.1.1 x.1.1.2.1.2.1 x.1.1.2.1.2.2 x.1.1.2.2.1.1 x.1.1.2.2.1.2.1 x.1.1.2.2.1.2.2 x.1.1.2.2.2.1 x.1.1.2.2.2.2.1 x.1.1.2.2.2.2.2 x.1.2.2.1.1 x.1.2.2.1.2.1 x.1.2.2.1.2.2 x.1.2.2.2.1.1.1 x.1.2.2.2.1.1.2.1 x.1.2.2.2.1.1.2.2.1 x.1.2.2.2.1.1.2.2.2 x.1.2.2.2.1.2.1.1 x.1.2.2.2.1.2.1.2.1 x.1.2.2.2.1.2.1.2.2.1 x.1.2.2.2.1.2.1.2.2.2 x.1.2.2.2.1.2.2.1 x.1.2.2.2.1.2.2.2.1 x.1.2.2.2.1.2.2.2.2 x.2.2.2.2.1 x.2.2.2.2.2 y = some res) (sz : Nat) (hlt : l.stackTraces = false) : CtI l yL_run (mwsH yL_run cL_run 3 (some .int) [(0, 8, 11, 15), (0, 8, 14, 129)]) rm_L_run 1 6 [.ref (a o), .ref (ay oy)] E (bl_VB E a o x ++ bl_LongArr E ay oy y) res.1 (bl_VB E a o ((((res.2.1, res.2.2.1, res.2.2.2.1), (res.2.2.2.2.1, res.2.2.2.2.2.1, res.2.2.2.2.2.2.1), (res.2.2.2.2.2.2.2.1, res.2.2.2.2.2.2.2.2.1, res.2.2.2.2.2.2.2.2.2.1), (res.2.2.2.2.2.2.2.2.2.2.1, res.2.2.2.2.2.2.2.2.2.2.2.1, res.2.2.2.2.2.2.2.2.2.2.2.2.1)), x.1.2.1, (res.2.2.2.2.2.2.2.2.2.2.2.2.2.1, res.2.2.2.2.2.2.2.2.2.2.2.2.2.2.1, res.2.2.2.2.2.2.2.2.2.2.2.2.2.2.2.1), ((x.1.2.2.2.1.1.1, res.2.2.2.2.2.2.2.2.2.2.2.2.2.2.2.2.1, res.2.2.2.2.2.2.2.2.2.2.2.2.2.2.2.2.2.1, res.2.2.2.2.2.2.2.2.2.2.2.2.2.2.2.2.2.2.1), (res.2.2.2.2.2.2.2.2.2.2.2.2.2.2.2.2.2.2.2.1, res.2.2.2.2.2.2.2.2.2.2.2.2.2.2.2.2.2.2.2.2.1, res.2.2.2.2.2.2.2.2.2.2.2.2.2.2.2.2.2.2.2.2.2.1, res.2.2.2.2.2.2.2.2.2.2.2.2.2.2.2.2.2.2.2.2.2.2.1), (res.2.2.2.2.2.2.2.2.2.2.2.2.2.2.2.2.2.2.2.2.2.2.2.1, res.2.2.2.2.2.2.2.2.2.2.2.2.2.2.2.2.2.2.2.2.2.2.2.2.1, res.2.2.2.2.2.2.2.2.2.2.2.2.2.2.2.2.2.2.2.2.2.2.2.2.2.1)), x.1.2.2.2.2), (x.2.1, x.2.2.1, x.2.2.2.1, res.2.2.2.2.2.2.2.2.2.2.2.2.2.2.2.2.2.2.2.2.2.2.2.2.2.2.1, res.2.2.2.2.2.2.2.2.2.2.2.2.2.2.2.2.2.2.2.2.2.2.2.2.2.2.2.1)) ++ bl_LongArr E ay oy res.2.2.2.2.2.2.2.2.2.2.2.2.2.2.2.2.2.2.2.2.2.2.2.2.2.2.2.2) sz := by
  refine mk_H (by decide +kernel) (Nat.le_of_ble_eq_true rfl) ?_
  intro p e s m below meth c A args Q ls hAe hsz hQ hx hb hr hml hin ha hown hlocks hA hz hzs hst htab hP hD hS hl
  have hown : s.vm.findClass RL = some m.cls := hown
  rw [hAe] at hQ
  subst hsz
  have hP : va_P E.1 vwCl (List.flatten [w_VBR a o x.2.2.2.1 x.2.2.2.2.1 x.2.2.2.2.2, w_ValleyR a (o + 1), w_Key E a (o + 2) x.1.1.1, w_Bells E a (o + 3) x.1.1.2.1, w_Mel E a (o + 6) x.1.1.2.2.1, w_Cliffs E a (o + 10) x.1.1.2.2.2, w_ValleyR a (o + 13), w_Key E a (o + 14) x.1.2.1.1, w_Bells E a (o + 15) x.1.2.1.2.1, w_Mel E a (o + 18) x.1.2.1.2.2.1, w_Cliffs E a (o + 22) x.1.2.1.2.2.2, w_Prog E a (o + 25) x.1.2.2.2.1, w_Chord E a (o + 31) x.1.2.2.2.2, w_Key E a (o + 34) x.2.1, w_Line E a (o + 35) x.2.2.1, w_Hist E a (o + 37) x.1.2.2.1, w_LongArr E ay oy y]) s.heap := hP
  have hD : va_D A (List.flatten [w_VBR a o x.2.2.2.1 x.2.2.2.2.1 x.2.2.2.2.2, w_ValleyR a (o + 1), w_Key E a (o + 2) x.1.1.1, w_Bells E a (o + 3) x.1.1.2.1, w_Mel E a (o + 6) x.1.1.2.2.1, w_Cliffs E a (o + 10) x.1.1.2.2.2, w_ValleyR a (o + 13), w_Key E a (o + 14) x.1.2.1.1, w_Bells E a (o + 15) x.1.2.1.2.1, w_Mel E a (o + 18) x.1.2.1.2.2.1, w_Cliffs E a (o + 22) x.1.2.1.2.2.2, w_Prog E a (o + 25) x.1.2.2.2.1, w_Chord E a (o + 31) x.1.2.2.2.2, w_Key E a (o + 34) x.2.1, w_Line E a (o + 35) x.2.2.1, w_Hist E a (o + 37) x.1.2.2.1, w_LongArr E ay oy y]) := hD
  have hl : lv_has ls 3 [(0, .ref (a o)), (1, .ref (ay oy))] := hl
  generalize hHe : s.heap = H at hP
  have hS : va_S A s.heap H [] := by rw [← hHe]; exact hS
  generalize ([] : List Loc) = locs at hS ⊢
  unfold f_L_run at hF
  refine lv_aload_n hx hb dL_run_0 rfl (lv_at hl 1 rfl) ?_
  refine lv_iconst (v := 0) hx hb dL_run_1 (by decide) ?_
  refine lv_aload_n hx hb dL_run_2 rfl (lv_at hl 0 rfl) ?_
  obtain ⟨q1, hq1, hF⟩ := q_bdi hF
  refine cx_i (ro := q1.1) (Lc := [w_VBR a o x.2.2.2.1 x.2.2.2.2.1 x.2.2.2.2.2, w_ValleyR a (o + 1), w_Key E a (o + 2) x.1.1.1, w_Bells E a (o + 3) x.1.1.2.1, w_Mel E a (o + 6) x.1.1.2.2.1, w_Cliffs E a (o + 10) x.1.1.2.2.2, w_ValleyR a (o + 13), w_Key E a (o + 14) x.1.2.1.1, w_Bells E a (o + 15) x.1.2.1.2.1, w_Mel E a (o + 18) x.1.2.1.2.2.1, w_Cliffs E a (o + 22) x.1.2.1.2.2.2, w_Prog E a (o + 25) x.1.2.2.2.1, w_Chord E a (o + 31) x.1.2.2.2.2, w_Key E a (o + 34) x.2.1, w_Line E a (o + 35) x.2.2.1, w_Hist E a (o + 37) x.1.2.2.1]) (Lc' := [w_VBR a o x.2.2.2.1 q1.2.2.2.2.2.2.2.2.2.2.2.2.2.2.2.2.2.2.2.2.2.2.2.2.2.2.1 q1.2.2.2.2.2.2.2.2.2.2.2.2.2.2.2.2.2.2.2.2.2.2.2.2.2.2.2, w_ValleyR a (o + 1), w_Key E a (o + 2) (q1.2.1, q1.2.2.1, q1.2.2.2.1), w_Bells E a (o + 3) (q1.2.2.2.2.1, q1.2.2.2.2.2.1, q1.2.2.2.2.2.2.1), w_Mel E a (o + 6) (q1.2.2.2.2.2.2.2.1, q1.2.2.2.2.2.2.2.2.1, q1.2.2.2.2.2.2.2.2.2.1), w_Cliffs E a (o + 10) (q1.2.2.2.2.2.2.2.2.2.2.1, q1.2.2.2.2.2.2.2.2.2.2.2.1, q1.2.2.2.2.2.2.2.2.2.2.2.2.1), w_ValleyR a (o + 13), w_Key E a (o + 14) x.1.2.1.1, w_Bells E a (o + 15) x.1.2.1.2.1, w_Mel E a (o + 18) x.1.2.1.2.2.1, w_Cliffs E a (o + 22) x.1.2.1.2.2.2, w_Prog E a (o + 25) ((x.1.2.2.2.1.1.1, q1.2.2.2.2.2.2.2.2.2.2.2.2.2.2.2.2.1, q1.2.2.2.2.2.2.2.2.2.2.2.2.2.2.2.2.2.1, q1.2.2.2.2.2.2.2.2.2.2.2.2.2.2.2.2.2.2.1), (q1.2.2.2.2.2.2.2.2.2.2.2.2.2.2.2.2.2.2.2.1, q1.2.2.2.2.2.2.2.2.2.2.2.2.2.2.2.2.2.2.2.2.1, q1.2.2.2.2.2.2.2.2.2.2.2.2.2.2.2.2.2.2.2.2.2.1, q1.2.2.2.2.2.2.2.2.2.2.2.2.2.2.2.2.2.2.2.2.2.2.1), (q1.2.2.2.2.2.2.2.2.2.2.2.2.2.2.2.2.2.2.2.2.2.2.2.1, q1.2.2.2.2.2.2.2.2.2.2.2.2.2.2.2.2.2.2.2.2.2.2.2.2.1, q1.2.2.2.2.2.2.2.2.2.2.2.2.2.2.2.2.2.2.2.2.2.2.2.2.2.1)), w_Chord E a (o + 31) x.1.2.2.2.2, w_Key E a (o + 34) x.2.1, w_Line E a (o + 35) x.2.2.1, w_Hist E a (o + 37) (q1.2.2.2.2.2.2.2.2.2.2.2.2.2.1, q1.2.2.2.2.2.2.2.2.2.2.2.2.2.2.1, q1.2.2.2.2.2.2.2.2.2.2.2.2.2.2.2.1)]) (L' := [w_VBR a o x.2.2.2.1 q1.2.2.2.2.2.2.2.2.2.2.2.2.2.2.2.2.2.2.2.2.2.2.2.2.2.2.1 q1.2.2.2.2.2.2.2.2.2.2.2.2.2.2.2.2.2.2.2.2.2.2.2.2.2.2.2, w_ValleyR a (o + 1), w_Key E a (o + 2) (q1.2.1, q1.2.2.1, q1.2.2.2.1), w_Bells E a (o + 3) (q1.2.2.2.2.1, q1.2.2.2.2.2.1, q1.2.2.2.2.2.2.1), w_Mel E a (o + 6) (q1.2.2.2.2.2.2.2.1, q1.2.2.2.2.2.2.2.2.1, q1.2.2.2.2.2.2.2.2.2.1), w_Cliffs E a (o + 10) (q1.2.2.2.2.2.2.2.2.2.2.1, q1.2.2.2.2.2.2.2.2.2.2.2.1, q1.2.2.2.2.2.2.2.2.2.2.2.2.1), w_ValleyR a (o + 13), w_Key E a (o + 14) x.1.2.1.1, w_Bells E a (o + 15) x.1.2.1.2.1, w_Mel E a (o + 18) x.1.2.1.2.2.1, w_Cliffs E a (o + 22) x.1.2.1.2.2.2, w_Prog E a (o + 25) ((x.1.2.2.2.1.1.1, q1.2.2.2.2.2.2.2.2.2.2.2.2.2.2.2.2.1, q1.2.2.2.2.2.2.2.2.2.2.2.2.2.2.2.2.2.1, q1.2.2.2.2.2.2.2.2.2.2.2.2.2.2.2.2.2.2.1), (q1.2.2.2.2.2.2.2.2.2.2.2.2.2.2.2.2.2.2.2.1, q1.2.2.2.2.2.2.2.2.2.2.2.2.2.2.2.2.2.2.2.2.1, q1.2.2.2.2.2.2.2.2.2.2.2.2.2.2.2.2.2.2.2.2.2.1, q1.2.2.2.2.2.2.2.2.2.2.2.2.2.2.2.2.2.2.2.2.2.2.1), (q1.2.2.2.2.2.2.2.2.2.2.2.2.2.2.2.2.2.2.2.2.2.2.2.1, q1.2.2.2.2.2.2.2.2.2.2.2.2.2.2.2.2.2.2.2.2.2.2.2.2.1, q1.2.2.2.2.2.2.2.2.2.2.2.2.2.2.2.2.2.2.2.2.2.2.2.2.2.1)), w_Chord E a (o + 31) x.1.2.2.2.2, w_Key E a (o + 34) x.2.1, w_Line E a (o + 35) x.2.2.1, w_Hist E a (o + 37) (q1.2.2.2.2.2.2.2.2.2.2.2.2.2.1, q1.2.2.2.2.2.2.2.2.2.2.2.2.2.2.1, q1.2.2.2.2.2.2.2.2.2.2.2.2.2.2.2.1), w_LongArr E ay oy y]) (vx_runV (As := []) (rest := [.int 0, .ref (ay oy)]) ⟨hx, hb, hml, hown, ha⟩ (k_X10_run l E a o x q1 hq1 H.size hlt) (cwV 0 ha (gi_V (fun _ h => h) mw1465 mw1466 mw1467 mw74 mw1468) rfl rfl rfl hv_X10_run ⟨(Nat.le_of_ble_eq_true rfl), (Nat.le_of_ble_eq_true rfl)⟩) ⟨pre_blind, va_recv hst.k (fr_P hP [0, 1, 2, 3, 4, 5, 6, 7, 8, 9, 10, 11, 12, 13, 14, 15] rfl) (ci := 12) (q0 := 0) rfl rfl, pre_at hP hD hS hz hzs hst [0, 1, 2, 3, 4, 5, 6, 7, 8, 9, 10, 11, 12, 13, 14, 15] (by decide) rfl rfl⟩ rfl rfl hl.1 rfl (lv_room (Nat.le_of_ble_eq_true rfl)) dL_run_3 ⟨(Nat.le_of_ble_eq_true rfl), (Nat.le_of_ble_eq_true rfl)⟩) hP hD hS hA [0, 1, 2, 3, 4, 5, 6, 7, 8, 9, 10, 11, 12, 13, 14, 15] (by decide) rfl rfl rfl rfl (fun X ce q9 H locs eX h1 h2 h3 hP hD hS => ?_) (fun r2 H locs er2 hP hD hS => ?_)
  · have hF := q_smr eX hF
    by_cases w3_0 : X = "java/lang/IllegalArgumentException"
    · have hF := q_brp w3_0 hF
      subst w3_0
      refine vx_catch (E := "java/lang/IllegalArgumentException") (name := "java/lang/IllegalArgumentException") hown [] ⟨0, 8, 11, 15⟩ [⟨0, 8, 14, 129⟩] htab (fun _ h => nomatch h) (by decide) (by decide) (ha _ mw963) (va_Nw.use rfl (hst.cs cs_IllegalArgumentException)) h1 h2 h3 ?_
      refine lv_astore_n (lv' := [(2, .ref q9), (0, .ref (a o)), (1, .ref (ay oy))]) hx hb dL_run_11 rfl hl (by decide) rfl (fun ls hl => ?_)
      refine lv_iconst (v := 1) hx hb dL_run_12 (by decide) ?_
      obtain rfl := Option.some.inj hF
      exact en_i hQ (Nat.le_of_ble_eq_true rfl) (Nat.le_of_ble_eq_true rfl) hx hb hr hlocks hP hD hS rfl dL_run_13
    have hF := q_brn w3_0 hF
    by_cases w3_1 : X = "java/lang/UnsupportedOperationException"
    · have hF := q_brp w3_1 hF
      subst w3_1
      refine vx_catch (E := "java/lang/UnsupportedOperationException") (name := "java/lang/UnsupportedOperationException") hown [⟨0, 8, 11, 15⟩] ⟨0, 8, 14, 129⟩ [] htab (List.forall_mem_cons.mpr ⟨Or.inr ⟨by decide, "java/lang/IllegalArgumentException", ha _ mw963, hst.nc (q := ("java/lang/UnsupportedOperationException", "java/lang/IllegalArgumentException")) (List.mem_of_getElem? (i := 26) rfl)⟩, (fun _ h => nomatch h)⟩) (by decide) (by decide) (ha _ mw1464) (va_Nw.use rfl (hst.cs cs_UnsupportedOperationException)) h1 h2 h3 ?_
      refine lv_astore_n (lv' := [(2, .ref q9), (0, .ref (a o)), (1, .ref (ay oy))]) hx hb dL_run_14 rfl hl (by decide) rfl (fun ls hl => ?_)
      refine lv_iconst (v := 2) hx hb dL_run_15 (by decide) ?_
      obtain rfl := Option.some.inj hF
      exact en_i hQ (Nat.le_of_ble_eq_true rfl) (Nat.le_of_ble_eq_true rfl) hx hb hr hlocks hP hD hS rfl dL_run_16
    have hF := q_brn w3_1 hF
    exact absurd hF (by simp)
  have hF := q_sml er2 hF
  refine lv_i2l hx hb dL_run_6 rfl ?_
  refine vi_last hx hb hst.k hP hD hS 147 3 rfl rfl (f := y) (k := 0) (by decide) (by decide) dL_run_7 (fun H locs hP hD hS => ?_)
  have hP : va_P E.1 vwCl (List.flatten [w_VBR a o x.2.2.2.1 q1.2.2.2.2.2.2.2.2.2.2.2.2.2.2.2.2.2.2.2.2.2.2.2.2.2.2.1 q1.2.2.2.2.2.2.2.2.2.2.2.2.2.2.2.2.2.2.2.2.2.2.2.2.2.2.2, w_ValleyR a (o + 1), w_Key E a (o + 2) (q1.2.1, q1.2.2.1, q1.2.2.2.1), w_Bells E a (o + 3) (q1.2.2.2.2.1, q1.2.2.2.2.2.1, q1.2.2.2.2.2.2.1), w_Mel E a (o + 6) (q1.2.2.2.2.2.2.2.1, q1.2.2.2.2.2.2.2.2.1, q1.2.2.2.2.2.2.2.2.2.1), w_Cliffs E a (o + 10) (q1.2.2.2.2.2.2.2.2.2.2.1, q1.2.2.2.2.2.2.2.2.2.2.2.1, q1.2.2.2.2.2.2.2.2.2.2.2.2.1), w_ValleyR a (o + 13), w_Key E a (o + 14) x.1.2.1.1, w_Bells E a (o + 15) x.1.2.1.2.1, w_Mel E a (o + 18) x.1.2.1.2.2.1, w_Cliffs E a (o + 22) x.1.2.1.2.2.2, w_Prog E a (o + 25) ((x.1.2.2.2.1.1.1, q1.2.2.2.2.2.2.2.2.2.2.2.2.2.2.2.2.1, q1.2.2.2.2.2.2.2.2.2.2.2.2.2.2.2.2.2.1, q1.2.2.2.2.2.2.2.2.2.2.2.2.2.2.2.2.2.2.1), (q1.2.2.2.2.2.2.2.2.2.2.2.2.2.2.2.2.2.2.2.1, q1.2.2.2.2.2.2.2.2.2.2.2.2.2.2.2.2.2.2.2.2.1, q1.2.2.2.2.2.2.2.2.2.2.2.2.2.2.2.2.2.2.2.2.2.1, q1.2.2.2.2.2.2.2.2.2.2.2.2.2.2.2.2.2.2.2.2.2.2.1), (q1.2.2.2.2.2.2.2.2.2.2.2.2.2.2.2.2.2.2.2.2.2.2.2.1, q1.2.2.2.2.2.2.2.2.2.2.2.2.2.2.2.2.2.2.2.2.2.2.2.2.1, q1.2.2.2.2.2.2.2.2.2.2.2.2.2.2.2.2.2.2.2.2.2.2.2.2.2.1)), w_Chord E a (o + 31) x.1.2.2.2.2, w_Key E a (o + 34) x.2.1, w_Line E a (o + 35) x.2.2.1, w_Hist E a (o + 37) (q1.2.2.2.2.2.2.2.2.2.2.2.2.2.1, q1.2.2.2.2.2.2.2.2.2.2.2.2.2.2.1, q1.2.2.2.2.2.2.2.2.2.2.2.2.2.2.2.1), w_LongArr E ay oy (vp_updL y 0 (r2.toInt64))]) H := hP
  have hD : va_D A (List.flatten [w_VBR a o x.2.2.2.1 q1.2.2.2.2.2.2.2.2.2.2.2.2.2.2.2.2.2.2.2.2.2.2.2.2.2.2.1 q1.2.2.2.2.2.2.2.2.2.2.2.2.2.2.2.2.2.2.2.2.2.2.2.2.2.2.2, w_ValleyR a (o + 1), w_Key E a (o + 2) (q1.2.1, q1.2.2.1, q1.2.2.2.1), w_Bells E a (o + 3) (q1.2.2.2.2.1, q1.2.2.2.2.2.1, q1.2.2.2.2.2.2.1), w_Mel E a (o + 6) (q1.2.2.2.2.2.2.2.1, q1.2.2.2.2.2.2.2.2.1, q1.2.2.2.2.2.2.2.2.2.1), w_Cliffs E a (o + 10) (q1.2.2.2.2.2.2.2.2.2.2.1, q1.2.2.2.2.2.2.2.2.2.2.2.1, q1.2.2.2.2.2.2.2.2.2.2.2.2.1), w_ValleyR a (o + 13), w_Key E a (o + 14) x.1.2.1.1, w_Bells E a (o + 15) x.1.2.1.2.1, w_Mel E a (o + 18) x.1.2.1.2.2.1, w_Cliffs E a (o + 22) x.1.2.1.2.2.2, w_Prog E a (o + 25) ((x.1.2.2.2.1.1.1, q1.2.2.2.2.2.2.2.2.2.2.2.2.2.2.2.2.1, q1.2.2.2.2.2.2.2.2.2.2.2.2.2.2.2.2.2.1, q1.2.2.2.2.2.2.2.2.2.2.2.2.2.2.2.2.2.2.1), (q1.2.2.2.2.2.2.2.2.2.2.2.2.2.2.2.2.2.2.2.1, q1.2.2.2.2.2.2.2.2.2.2.2.2.2.2.2.2.2.2.2.2.1, q1.2.2.2.2.2.2.2.2.2.2.2.2.2.2.2.2.2.2.2.2.2.1, q1.2.2.2.2.2.2.2.2.2.2.2.2.2.2.2.2.2.2.2.2.2.2.1), (q1.2.2.2.2.2.2.2.2.2.2.2.2.2.2.2.2.2.2.2.2.2.2.2.1, q1.2.2.2.2.2.2.2.2.2.2.2.2.2.2.2.2.2.2.2.2.2.2.2.2.1, q1.2.2.2.2.2.2.2.2.2.2.2.2.2.2.2.2.2.2.2.2.2.2.2.2.2.1)), w_Chord E a (o + 31) x.1.2.2.2.2, w_Key E a (o + 34) x.2.1, w_Line E a (o + 35) x.2.2.1, w_Hist E a (o + 37) (q1.2.2.2.2.2.2.2.2.2.2.2.2.2.1, q1.2.2.2.2.2.2.2.2.2.2.2.2.2.2.1, q1.2.2.2.2.2.2.2.2.2.2.2.2.2.2.2.1), w_LongArr E ay oy (vp_updL y 0 (r2.toInt64))]) := hD
  refine lv_goto (tgt := 17) hx hb dL_run_8 (by decide) ?_
  refine lv_iconst (v := 0) hx hb dL_run_17 (by decide) ?_
  obtain rfl := Option.some.inj hF
  exact en_i hQ (Nat.le_of_ble_eq_true rfl) (Nat.le_of_ble_eq_true rfl) hx hb hr hlocks hP hD hS rfl dL_run_18

/-! L_errorPosition -/
theorem dL_errorPosition_0 : decode cL_errorPosition 0 = .ok (.aload_n 1, 1) := by decide +kernel
theorem dL_errorPosition_1 : decode cL_errorPosition 1 = .ok (.iconst 0, 1) := by decide +kernel
theorem dL_errorPosition_2 : decode cL_errorPosition 2 = .ok (.aload_n 0, 1) := by decide +kernel
theorem dL_errorPosition_3 : decode cL_errorPosition 3 = .ok (.invokevirtual 131, 3) := by decide +kernel
theorem dL_errorPosition_6 : decode cL_errorPosition 6 = .ok (.i2l, 1) := by decide +kernel
theorem dL_errorPosition_7 : decode cL_errorPosition 7 = .ok (.lastore, 1) := by decide +kernel
theorem dL_errorPosition_8 : decode cL_errorPosition 8 = .ok (.goto 6, 3) := by decide +kernel
theorem dL_errorPosition_11 : decode cL_errorPosition 11 = .ok (.astore_n 2, 1) := by decide +kernel
theorem dL_errorPosition_12 : decode cL_errorPosition 12 = .ok (.iconst 1, 1) := by decide +kernel
theorem dL_errorPosition_13 : decode cL_errorPosition 13 = .ok (.ireturn, 1) := by decide +kernel
theorem dL_errorPosition_14 : decode cL_errorPosition 14 = .ok (.iconst 0, 1) := by decide +kernel
theorem dL_errorPosition_15 : decode cL_errorPosition 15 = .ok (.ireturn, 1) := by decide +kernel
def f_L_errorPosition (x_errorPosition : Int32) (y_v : (Nat → Int64)) : Option (Int32 × (Nat → Int64)) :=
  q_bd (f_X10_errorPosition x_errorPosition) (fun q1 =>
  q_sm q1 (fun X => q_br (X = "java/util/NoSuchElementException") (
  some (1, y_v)) (
  none)) (fun r2 =>
  some (0, vp_updL y_v 0 (r2.toInt64))))
theorem hv_L_errorPosition : yL_errorPosition.cls = RL ∧ yL_errorPosition.cls ≠ "java/lang/invoke/MethodHandle" ∧ yL_errorPosition.cls ≠ "java/lang/invoke/VarHandle" ∧ (parseMethodDescriptor yL_errorPosition.desc).map (fun d => d.parameters.length) = some 2 := by decide +kernel
abbrev rm_L_errorPosition : Room := { frames := 7, cells := 1, slots := 6, locals := 109 }
set_option maxHeartbeats 4000000 in
set_option maxRecDepth 100000 in
theorem k_L_errorPosition (l : Launch) (E : ET) (a : Nat → Nat) (o : Nat) (x : VB_t) (ay : Nat → Nat) (oy : Nat) (y : (Nat → Int64)) (res : Int32 × (Nat → Int64)) (hF : f_L_errorPosition x.2.2.2.2.1 y = some res) (sz : Nat) (hlt : l.stackTraces = false) : CtI l yL_errorPosition (mwsH yL_errorPosition cL_errorPosition 3 (some .int) [(0, 8, 11, 79)]) rm_L_errorPosition 1 6 [.ref (a o), .ref (ay oy)] E (bl_VB E a o x ++ bl_LongArr E ay oy y) res.1 (bl_VB E a o x ++ bl_LongArr E ay oy res.2) sz := by
  refine mk_H (by decide +kernel) (Nat.le_of_ble_eq_true rfl) ?_
  intro p e s m below meth c A args Q ls hAe hsz hQ hx hb hr hml hin ha hown hlocks hA hz hzs hst htab hP hD hS hl
  have hown : s.vm.findClass RL = some m.cls := hown
  rw [hAe] at hQ
  subst hsz
  have hP : va_P E.1 vwCl (List.flatten [w_VBR a o x.2.2.2.1 x.2.2.2.2.1 x.2.2.2.2.2, w_ValleyR a (o + 1), w_Key E a (o + 2) x.1.1.1, w_Bells E a (o + 3) x.1.1.2.1, w_Mel E a (o + 6) x.1.1.2.2.1, w_Cliffs E a (o + 10) x.1.1.2.2.2, w_ValleyR a (o + 13), w_Key E a (o + 14) x.1.2.1.1, w_Bells E a (o + 15) x.1.2.1.2.1, w_Mel E a (o + 18) x.1.2.1.2.2.1, w_Cliffs E a (o + 22) x.1.2.1.2.2.2, w_Prog E a (o + 25) x.1.2.2.2.1, w_Chord E a (o + 31) x.1.2.2.2.2, w_Key E a (o + 34) x.2.1, w_Line E a (o + 35) x.2.2.1, w_Hist E a (o + 37) x.1.2.2.1, w_LongArr E ay oy y]) s.heap := hP
  have hD : va_D A (List.flatten [w_VBR a o x.2.2.2.1 x.2.2.2.2.1 x.2.2.2.2.2, w_ValleyR a (o + 1), w_Key E a (o + 2) x.1.1.1, w_Bells E a (o + 3) x.1.1.2.1, w_Mel E a (o + 6) x.1.1.2.2.1, w_Cliffs E a (o + 10) x.1.1.2.2.2, w_ValleyR a (o + 13), w_Key E a (o + 14) x.1.2.1.1, w_Bells E a (o + 15) x.1.2.1.2.1, w_Mel E a (o + 18) x.1.2.1.2.2.1, w_Cliffs E a (o + 22) x.1.2.1.2.2.2, w_Prog E a (o + 25) x.1.2.2.2.1, w_Chord E a (o + 31) x.1.2.2.2.2, w_Key E a (o + 34) x.2.1, w_Line E a (o + 35) x.2.2.1, w_Hist E a (o + 37) x.1.2.2.1, w_LongArr E ay oy y]) := hD
  have hl : lv_has ls 3 [(0, .ref (a o)), (1, .ref (ay oy))] := hl
  generalize hHe : s.heap = H at hP
  have hS : va_S A s.heap H [] := by rw [← hHe]; exact hS
  generalize ([] : List Loc) = locs at hS ⊢
  unfold f_L_errorPosition at hF
  refine lv_aload_n hx hb dL_errorPosition_0 rfl (lv_at hl 1 rfl) ?_
  refine lv_iconst (v := 0) hx hb dL_errorPosition_1 (by decide) ?_
  refine lv_aload_n hx hb dL_errorPosition_2 rfl (lv_at hl 0 rfl) ?_
  obtain ⟨q1, hq1, hF⟩ := q_bdi hF
  refine cx_i (ro := q1) (Lc := [w_VBR a o x.2.2.2.1 x.2.2.2.2.1 x.2.2.2.2.2, w_ValleyR a (o + 1), w_Key E a (o + 2) x.1.1.1, w_Bells E a (o + 3) x.1.1.2.1, w_Mel E a (o + 6) x.1.1.2.2.1, w_Cliffs E a (o + 10) x.1.1.2.2.2, w_ValleyR a (o + 13), w_Key E a (o + 14) x.1.2.1.1, w_Bells E a (o + 15) x.1.2.1.2.1, w_Mel E a (o + 18) x.1.2.1.2.2.1, w_Cliffs E a (o + 22) x.1.2.1.2.2.2, w_Prog E a (o + 25) x.1.2.2.2.1, w_Chord E a (o + 31) x.1.2.2.2.2, w_Key E a (o + 34) x.2.1, w_Line E a (o + 35) x.2.2.1, w_Hist E a (o + 37) x.1.2.2.1]) (Lc' := [w_VBR a o x.2.2.2.1 x.2.2.2.2.1 x.2.2.2.2.2, w_ValleyR a (o + 1), w_Key E a (o + 2) x.1.1.1, w_Bells E a (o + 3) x.1.1.2.1, w_Mel E a (o + 6) x.1.1.2.2.1, w_Cliffs E a (o + 10) x.1.1.2.2.2, w_ValleyR a (o + 13), w_Key E a (o + 14) x.1.2.1.1, w_Bells E a (o + 15) x.1.2.1.2.1, w_Mel E a (o + 18) x.1.2.1.2.2.1, w_Cliffs E a (o + 22) x.1.2.1.2.2.2, w_Prog E a (o + 25) x.1.2.2.2.1, w_Chord E a (o + 31) x.1.2.2.2.2, w_Key E a (o + 34) x.2.1, w_Line E a (o + 35) x.2.2.1, w_Hist E a (o + 37) x.1.2.2.1]) (L' := [w_VBR a o x.2.2.2.1 x.2.2.2.2.1 x.2.2.2.2.2, w_ValleyR a (o + 1), w_Key E a (o + 2) x.1.1.1, w_Bells E a (o + 3) x.1.1.2.1, w_Mel E a (o + 6) x.1.1.2.2.1, w_Cliffs E a (o + 10) x.1.1.2.2.2, w_ValleyR a (o + 13), w_Key E a (o + 14) x.1.2.1.1, w_Bells E a (o + 15) x.1.2.1.2.1, w_Mel E a (o + 18) x.1.2.1.2.2.1, w_Cliffs E a (o + 22) x.1.2.1.2.2.2, w_Prog E a (o + 25) x.1.2.2.2.1, w_Chord E a (o + 31) x.1.2.2.2.2, w_Key E a (o + 34) x.2.1, w_Line E a (o + 35) x.2.2.1, w_Hist E a (o + 37) x.1.2.2.1, w_LongArr E ay oy y]) (vx_runV (As := []) (rest := [.int 0, .ref (ay oy)]) ⟨hx, hb, hml, hown, ha⟩ (k_X10_errorPosition l E a o x q1 hq1 H.size hlt) (cwV 0 ha (gi_V (fun _ h => h) mw1558 mw1559 mw1560 mw74 mw1561) rfl rfl rfl hv_X10_errorPosition ⟨(Nat.le_of_ble_eq_true rfl), (Nat.le_of_ble_eq_true rfl)⟩) ⟨pre_blind, va_recv hst.k (fr_P hP [0, 1, 2, 3, 4, 5, 6, 7, 8, 9, 10, 11, 12, 13, 14, 15] rfl) (ci := 12) (q0 := 0) rfl rfl, pre_at hP hD hS hz hzs hst [0, 1, 2, 3, 4, 5, 6, 7, 8, 9, 10, 11, 12, 13, 14, 15] (by decide) rfl rfl⟩ rfl rfl hl.1 rfl (lv_room (Nat.le_of_ble_eq_true rfl)) dL_errorPosition_3 ⟨(Nat.le_of_ble_eq_true rfl), (Nat.le_of_ble_eq_true rfl)⟩) hP hD hS hA [0, 1, 2, 3, 4, 5, 6, 7, 8, 9, 10, 11, 12, 13, 14, 15] (by decide) rfl rfl rfl rfl (fun X ce q9 H locs eX h1 h2 h3 hP hD hS => ?_) (fun r2 H locs er2 hP hD hS => ?_)
  · have hF := q_smr eX hF
    by_cases w3_0 : X = "java/util/NoSuchElementException"
    · have hF := q_brp w3_0 hF
      subst w3_0
      refine vx_catch (E := "java/util/NoSuchElementException") (name := "java/util/NoSuchElementException") hown [] ⟨0, 8, 11, 79⟩ [] htab (fun _ h => nomatch h) (by decide) (by decide) (ha _ mw1268) (va_Nw.use rfl (hst.cs cs_NoSuchElementException)) h1 h2 h3 ?_
      refine lv_astore_n (lv' := [(2, .ref q9), (0, .ref (a o)), (1, .ref (ay oy))]) hx hb dL_errorPosition_11 rfl hl (by decide) rfl (fun ls hl => ?_)
      refine lv_iconst (v := 1) hx hb dL_errorPosition_12 (by decide) ?_
      obtain rfl := Option.some.inj hF
      exact en_i hQ (Nat.le_of_ble_eq_true rfl) (Nat.le_of_ble_eq_true rfl) hx hb hr hlocks hP hD hS rfl dL_errorPosition_13
    have hF := q_brn w3_0 hF
    exact absurd hF (by simp)
  have hF := q_sml er2 hF
  refine lv_i2l hx hb dL_errorPosition_6 rfl ?_
  refine vi_last hx hb hst.k hP hD hS 147 3 rfl rfl (f := y) (k := 0) (by decide) (by decide) dL_errorPosition_7 (fun H locs hP hD hS => ?_)
  have hP : va_P E.1 vwCl (List.flatten [w_VBR a o x.2.2.2.1 x.2.2.2.2.1 x.2.2.2.2.2, w_ValleyR a (o + 1), w_Key E a (o + 2) x.1.1.1, w_Bells E a (o + 3) x.1.1.2.1, w_Mel E a (o + 6) x.1.1.2.2.1, w_Cliffs E a (o + 10) x.1.1.2.2.2, w_ValleyR a (o + 13), w_Key E a (o + 14) x.1.2.1.1, w_Bells E a (o + 15) x.1.2.1.2.1, w_Mel E a (o + 18) x.1.2.1.2.2.1, w_Cliffs E a (o + 22) x.1.2.1.2.2.2, w_Prog E a (o + 25) x.1.2.2.2.1, w_Chord E a (o + 31) x.1.2.2.2.2, w_Key E a (o + 34) x.2.1, w_Line E a (o + 35) x.2.2.1, w_Hist E a (o + 37) x.1.2.2.1, w_LongArr E ay oy (vp_updL y 0 (r2.toInt64))]) H := hP
  have hD : va_D A (List.flatten [w_VBR a o x.2.2.2.1 x.2.2.2.2.1 x.2.2.2.2.2, w_ValleyR a (o + 1), w_Key E a (o + 2) x.1.1.1, w_Bells E a (o + 3) x.1.1.2.1, w_Mel E a (o + 6) x.1.1.2.2.1, w_Cliffs E a (o + 10) x.1.1.2.2.2, w_ValleyR a (o + 13), w_Key E a (o + 14) x.1.2.1.1, w_Bells E a (o + 15) x.1.2.1.2.1, w_Mel E a (o + 18) x.1.2.1.2.2.1, w_Cliffs E a (o + 22) x.1.2.1.2.2.2, w_Prog E a (o + 25) x.1.2.2.2.1, w_Chord E a (o + 31) x.1.2.2.2.2, w_Key E a (o + 34) x.2.1, w_Line E a (o + 35) x.2.2.1, w_Hist E a (o + 37) x.1.2.2.1, w_LongArr E ay oy (vp_updL y 0 (r2.toInt64))]) := hD
  refine lv_goto (tgt := 14) hx hb dL_errorPosition_8 (by decide) ?_
  refine lv_iconst (v := 0) hx hb dL_errorPosition_14 (by decide) ?_
  obtain rfl := Option.some.inj hF
  exact en_i hQ (Nat.le_of_ble_eq_true rfl) (Nat.le_of_ble_eq_true rfl) hx hb hr hlocks hP hD hS rfl dL_errorPosition_15

/-! L_failedCommand -/
theorem dL_failedCommand_0 : decode cL_failedCommand 0 = .ok (.aload_n 1, 1) := by decide +kernel
theorem dL_failedCommand_1 : decode cL_failedCommand 1 = .ok (.iconst 0, 1) := by decide +kernel
theorem dL_failedCommand_2 : decode cL_failedCommand 2 = .ok (.aload_n 0, 1) := by decide +kernel
theorem dL_failedCommand_3 : decode cL_failedCommand 3 = .ok (.invokevirtual 134, 3) := by decide +kernel
theorem dL_failedCommand_6 : decode cL_failedCommand 6 = .ok (.i2l, 1) := by decide +kernel
theorem dL_failedCommand_7 : decode cL_failedCommand 7 = .ok (.lastore, 1) := by decide +kernel
theorem dL_failedCommand_8 : decode cL_failedCommand 8 = .ok (.goto 6, 3) := by decide +kernel
theorem dL_failedCommand_11 : decode cL_failedCommand 11 = .ok (.astore_n 2, 1) := by decide +kernel
theorem dL_failedCommand_12 : decode cL_failedCommand 12 = .ok (.iconst 1, 1) := by decide +kernel
theorem dL_failedCommand_13 : decode cL_failedCommand 13 = .ok (.ireturn, 1) := by decide +kernel
theorem dL_failedCommand_14 : decode cL_failedCommand 14 = .ok (.iconst 0, 1) := by decide +kernel
theorem dL_failedCommand_15 : decode cL_failedCommand 15 = .ok (.ireturn, 1) := by decide +kernel
def f_L_failedCommand (x_failedCommand : Int32) (y_v : (Nat → Int64)) : Option (Int32 × (Nat → Int64)) :=
  q_bd (f_X10_failedCommand x_failedCommand) (fun q1 =>
  q_sm q1 (fun X => q_br (X = "java/util/NoSuchElementException") (
  some (1, y_v)) (
  none)) (fun r2 =>
  some (0, vp_updL y_v 0 (r2.toInt64))))
theorem hv_L_failedCommand : yL_failedCommand.cls = RL ∧ yL_failedCommand.cls ≠ "java/lang/invoke/MethodHandle" ∧ yL_failedCommand.cls ≠ "java/lang/invoke/VarHandle" ∧ (parseMethodDescriptor yL_failedCommand.desc).map (fun d => d.parameters.length) = some 2 := by decide +kernel
abbrev rm_L_failedCommand : Room := { frames := 7, cells := 1, slots := 6, locals := 109 }
set_option maxHeartbeats 4000000 in
set_option maxRecDepth 100000 in
theorem k_L_failedCommand (l : Launch) (E : ET) (a : Nat → Nat) (o : Nat) (x : VB_t) (ay : Nat → Nat) (oy : Nat) (y : (Nat → Int64)) (res : Int32 × (Nat → Int64)) (hF : f_L_failedCommand x.2.2.2.2.2 y = some res) (sz : Nat) (hlt : l.stackTraces = false) : CtI l yL_failedCommand (mwsH yL_failedCommand cL_failedCommand 3 (some .int) [(0, 8, 11, 79)]) rm_L_failedCommand 1 6 [.ref (a o), .ref (ay oy)] E (bl_VB E a o x ++ bl_LongArr E ay oy y) res.1 (bl_VB E a o x ++ bl_LongArr E ay oy res.2) sz := by
  refine mk_H (by decide +kernel) (Nat.le_of_ble_eq_true rfl) ?_
  intro p e s m below meth c A args Q ls hAe hsz hQ hx hb hr hml hin ha hown hlocks hA hz hzs hst htab hP hD hS hl
  have hown : s.vm.findClass RL = some m.cls := hown
  rw [hAe] at hQ
  subst hsz
  have hP : va_P E.1 vwCl (List.flatten [w_VBR a o x.2.2.2.1 x.2.2.2.2.1 x.2.2.2.2.2, w_ValleyR a (o + 1), w_Key E a (o + 2) x.1.1.1, w_Bells E a (o + 3) x.1.1.2.1, w_Mel E a (o + 6) x.1.1.2.2.1, w_Cliffs E a (o + 10) x.1.1.2.2.2, w_ValleyR a (o + 13), w_Key E a (o + 14) x.1.2.1.1, w_Bells E a (o + 15) x.1.2.1.2.1, w_Mel E a (o + 18) x.1.2.1.2.2.1, w_Cliffs E a (o + 22) x.1.2.1.2.2.2, w_Prog E a (o + 25) x.1.2.2.2.1, w_Chord E a (o + 31) x.1.2.2.2.2, w_Key E a (o + 34) x.2.1, w_Line E a (o + 35) x.2.2.1, w_Hist E a (o + 37) x.1.2.2.1, w_LongArr E ay oy y]) s.heap := hP
  have hD : va_D A (List.flatten [w_VBR a o x.2.2.2.1 x.2.2.2.2.1 x.2.2.2.2.2, w_ValleyR a (o + 1), w_Key E a (o + 2) x.1.1.1, w_Bells E a (o + 3) x.1.1.2.1, w_Mel E a (o + 6) x.1.1.2.2.1, w_Cliffs E a (o + 10) x.1.1.2.2.2, w_ValleyR a (o + 13), w_Key E a (o + 14) x.1.2.1.1, w_Bells E a (o + 15) x.1.2.1.2.1, w_Mel E a (o + 18) x.1.2.1.2.2.1, w_Cliffs E a (o + 22) x.1.2.1.2.2.2, w_Prog E a (o + 25) x.1.2.2.2.1, w_Chord E a (o + 31) x.1.2.2.2.2, w_Key E a (o + 34) x.2.1, w_Line E a (o + 35) x.2.2.1, w_Hist E a (o + 37) x.1.2.2.1, w_LongArr E ay oy y]) := hD
  have hl : lv_has ls 3 [(0, .ref (a o)), (1, .ref (ay oy))] := hl
  generalize hHe : s.heap = H at hP
  have hS : va_S A s.heap H [] := by rw [← hHe]; exact hS
  generalize ([] : List Loc) = locs at hS ⊢
  unfold f_L_failedCommand at hF
  refine lv_aload_n hx hb dL_failedCommand_0 rfl (lv_at hl 1 rfl) ?_
  refine lv_iconst (v := 0) hx hb dL_failedCommand_1 (by decide) ?_
  refine lv_aload_n hx hb dL_failedCommand_2 rfl (lv_at hl 0 rfl) ?_
  obtain ⟨q1, hq1, hF⟩ := q_bdi hF
  refine cx_i (ro := q1) (Lc := [w_VBR a o x.2.2.2.1 x.2.2.2.2.1 x.2.2.2.2.2, w_ValleyR a (o + 1), w_Key E a (o + 2) x.1.1.1, w_Bells E a (o + 3) x.1.1.2.1, w_Mel E a (o + 6) x.1.1.2.2.1, w_Cliffs E a (o + 10) x.1.1.2.2.2, w_ValleyR a (o + 13), w_Key E a (o + 14) x.1.2.1.1, w_Bells E a (o + 15) x.1.2.1.2.1, w_Mel E a (o + 18) x.1.2.1.2.2.1, w_Cliffs E a (o + 22) x.1.2.1.2.2.2, w_Prog E a (o + 25) x.1.2.2.2.1, w_Chord E a (o + 31) x.1.2.2.2.2, w_Key E a (o + 34) x.2.1, w_Line E a (o + 35) x.2.2.1, w_Hist E a (o + 37) x.1.2.2.1]) (Lc' := [w_VBR a o x.2.2.2.1 x.2.2.2.2.1 x.2.2.2.2.2, w_ValleyR a (o + 1), w_Key E a (o + 2) x.1.1.1, w_Bells E a (o + 3) x.1.1.2.1, w_Mel E a (o + 6) x.1.1.2.2.1, w_Cliffs E a (o + 10) x.1.1.2.2.2, w_ValleyR a (o + 13), w_Key E a (o + 14) x.1.2.1.1, w_Bells E a (o + 15) x.1.2.1.2.1, w_Mel E a (o + 18) x.1.2.1.2.2.1, w_Cliffs E a (o + 22) x.1.2.1.2.2.2, w_Prog E a (o + 25) x.1.2.2.2.1, w_Chord E a (o + 31) x.1.2.2.2.2, w_Key E a (o + 34) x.2.1, w_Line E a (o + 35) x.2.2.1, w_Hist E a (o + 37) x.1.2.2.1]) (L' := [w_VBR a o x.2.2.2.1 x.2.2.2.2.1 x.2.2.2.2.2, w_ValleyR a (o + 1), w_Key E a (o + 2) x.1.1.1, w_Bells E a (o + 3) x.1.1.2.1, w_Mel E a (o + 6) x.1.1.2.2.1, w_Cliffs E a (o + 10) x.1.1.2.2.2, w_ValleyR a (o + 13), w_Key E a (o + 14) x.1.2.1.1, w_Bells E a (o + 15) x.1.2.1.2.1, w_Mel E a (o + 18) x.1.2.1.2.2.1, w_Cliffs E a (o + 22) x.1.2.1.2.2.2, w_Prog E a (o + 25) x.1.2.2.2.1, w_Chord E a (o + 31) x.1.2.2.2.2, w_Key E a (o + 34) x.2.1, w_Line E a (o + 35) x.2.2.1, w_Hist E a (o + 37) x.1.2.2.1, w_LongArr E ay oy y]) (vx_runV (As := []) (rest := [.int 0, .ref (ay oy)]) ⟨hx, hb, hml, hown, ha⟩ (k_X10_failedCommand l E a o x q1 hq1 H.size hlt) (cwV 0 ha (gi_V (fun _ h => h) mw1566 mw1567 mw1568 mw74 mw1569) rfl rfl rfl hv_X10_failedCommand ⟨(Nat.le_of_ble_eq_true rfl), (Nat.le_of_ble_eq_true rfl)⟩) ⟨pre_blind, va_recv hst.k (fr_P hP [0, 1, 2, 3, 4, 5, 6, 7, 8, 9, 10, 11, 12, 13, 14, 15] rfl) (ci := 12) (q0 := 0) rfl rfl, pre_at hP hD hS hz hzs hst [0, 1, 2, 3, 4, 5, 6, 7, 8, 9, 10, 11, 12, 13, 14, 15] (by decide) rfl rfl⟩ rfl rfl hl.1 rfl (lv_room (Nat.le_of_ble_eq_true rfl)) dL_failedCommand_3 ⟨(Nat.le_of_ble_eq_true rfl), (Nat.le_of_ble_eq_true rfl)⟩) hP hD hS hA [0, 1, 2, 3, 4, 5, 6, 7, 8, 9, 10, 11, 12, 13, 14, 15] (by decide) rfl rfl rfl rfl (fun X ce q9 H locs eX h1 h2 h3 hP hD hS => ?_) (fun r2 H locs er2 hP hD hS => ?_)
  · have hF := q_smr eX hF
    by_cases w3_0 : X = "java/util/NoSuchElementException"
    · have hF := q_brp w3_0 hF
      subst w3_0
      refine vx_catch (E := "java/util/NoSuchElementException") (name := "java/util/NoSuchElementException") hown [] ⟨0, 8, 11, 79⟩ [] htab (fun _ h => nomatch h) (by decide) (by decide) (ha _ mw1268) (va_Nw.use rfl (hst.cs cs_NoSuchElementException)) h1 h2 h3 ?_
      refine lv_astore_n (lv' := [(2, .ref q9), (0, .ref (a o)), (1, .ref (ay oy))]) hx hb dL_failedCommand_11 rfl hl (by decide) rfl (fun ls hl => ?_)
      refine lv_iconst (v := 1) hx hb dL_failedCommand_12 (by decide) ?_
      obtain rfl := Option.some.inj hF
      exact en_i hQ (Nat.le_of_ble_eq_true rfl) (Nat.le_of_ble_eq_true rfl) hx hb hr hlocks hP hD hS rfl dL_failedCommand_13
    have hF := q_brn w3_0 hF
    exact absurd hF (by simp)
  have hF := q_sml er2 hF
  refine lv_i2l hx hb dL_failedCommand_6 rfl ?_
  refine vi_last hx hb hst.k hP hD hS 147 3 rfl rfl (f := y) (k := 0) (by decide) (by decide) dL_failedCommand_7 (fun H locs hP hD hS => ?_)
  have hP : va_P E.1 vwCl (List.flatten [w_VBR a o x.2.2.2.1 x.2.2.2.2.1 x.2.2.2.2.2, w_ValleyR a (o + 1), w_Key E a (o + 2) x.1.1.1, w_Bells E a (o + 3) x.1.1.2.1, w_Mel E a (o + 6) x.1.1.2.2.1, w_Cliffs E a (o + 10) x.1.1.2.2.2, w_ValleyR a (o + 13), w_Key E a (o + 14) x.1.2.1.1, w_Bells E a (o + 15) x.1.2.1.2.1, w_Mel E a (o + 18) x.1.2.1.2.2.1, w_Cliffs E a (o + 22) x.1.2.1.2.2.2, w_Prog E a (o + 25) x.1.2.2.2.1, w_Chord E a (o + 31) x.1.2.2.2.2, w_Key E a (o + 34) x.2.1, w_Line E a (o + 35) x.2.2.1, w_Hist E a (o + 37) x.1.2.2.1, w_LongArr E ay oy (vp_updL y 0 (r2.toInt64))]) H := hP
  have hD : va_D A (List.flatten [w_VBR a o x.2.2.2.1 x.2.2.2.2.1 x.2.2.2.2.2, w_ValleyR a (o + 1), w_Key E a (o + 2) x.1.1.1, w_Bells E a (o + 3) x.1.1.2.1, w_Mel E a (o + 6) x.1.1.2.2.1, w_Cliffs E a (o + 10) x.1.1.2.2.2, w_ValleyR a (o + 13), w_Key E a (o + 14) x.1.2.1.1, w_Bells E a (o + 15) x.1.2.1.2.1, w_Mel E a (o + 18) x.1.2.1.2.2.1, w_Cliffs E a (o + 22) x.1.2.1.2.2.2, w_Prog E a (o + 25) x.1.2.2.2.1, w_Chord E a (o + 31) x.1.2.2.2.2, w_Key E a (o + 34) x.2.1, w_Line E a (o + 35) x.2.2.1, w_Hist E a (o + 37) x.1.2.2.1, w_LongArr E ay oy (vp_updL y 0 (r2.toInt64))]) := hD
  refine lv_goto (tgt := 14) hx hb dL_failedCommand_8 (by decide) ?_
  refine lv_iconst (v := 0) hx hb dL_failedCommand_14 (by decide) ?_
  obtain rfl := Option.some.inj hF
  exact en_i hQ (Nat.le_of_ble_eq_true rfl) (Nat.le_of_ble_eq_true rfl) hx hb hr hlocks hP hD hS rfl dL_failedCommand_15

/-! L_writeBell -/
theorem dL_writeBell_0 : decode cL_writeBell 0 = .ok (.aload_n 2, 1) := by decide +kernel
theorem dL_writeBell_1 : decode cL_writeBell 1 = .ok (.iconst 0, 1) := by decide +kernel
theorem dL_writeBell_2 : decode cL_writeBell 2 = .ok (.aload_n 0, 1) := by decide +kernel
theorem dL_writeBell_3 : decode cL_writeBell 3 = .ok (.iload_n 1, 1) := by decide +kernel
theorem dL_writeBell_4 : decode cL_writeBell 4 = .ok (.invokevirtual 137, 3) := by decide +kernel
theorem dL_writeBell_7 : decode cL_writeBell 7 = .ok (.i2l, 1) := by decide +kernel
theorem dL_writeBell_8 : decode cL_writeBell 8 = .ok (.lastore, 1) := by decide +kernel
theorem dL_writeBell_9 : decode cL_writeBell 9 = .ok (.goto 6, 3) := by decide +kernel
theorem dL_writeBell_12 : decode cL_writeBell 12 = .ok (.astore_n 3, 1) := by decide +kernel
theorem dL_writeBell_13 : decode cL_writeBell 13 = .ok (.iconst 1, 1) := by decide +kernel
theorem dL_writeBell_14 : decode cL_writeBell 14 = .ok (.ireturn, 1) := by decide +kernel
theorem dL_writeBell_15 : decode cL_writeBell 15 = .ok (.iconst 0, 1) := by decide +kernel
theorem dL_writeBell_16 : decode cL_writeBell 16 = .ok (.ireturn, 1) := by decide +kernel
def f_L_writeBell (x_valley_key_tonic : Int32) (x_valley_key_isMinor : Int32) (x_valley_key_tolerance : Int32) (x_valley_bells_herds : (Nat → Int32)) (x_valley_bells_pitches : (Nat → Int32)) (x_valley_bells_count : Int32) (x_line_value : (Nat → Int32)) (x_line_cap : Nat) (x_line_maybeLatin1 : Int32) (x_line_count : Int32) (y_v : (Nat → Int64)) (p2 : Int32) : Option (Int32 × (Nat → Int32) × Nat × Int32 × Int32 × (Nat → Int64)) :=
  q_bd (f_X10_writeBell x_valley_key_tonic x_valley_key_isMinor x_valley_key_tolerance x_valley_bells_herds x_valley_bells_pitches x_valley_bells_count x_line_value x_line_cap x_line_maybeLatin1 x_line_count p2) (fun q1 =>
  q_sm q1.1 (fun X => q_br (X = "java/lang/IndexOutOfBoundsException") (
  some (1, q1.2.1, q1.2.2.1, q1.2.2.2.1, q1.2.2.2.2, y_v)) (
  none)) (fun r3 =>
  some (0, q1.2.1, q1.2.2.1, q1.2.2.2.1, q1.2.2.2.2, vp_updL y_v 0 (r3.toInt64))))
theorem hv_L_writeBell : yL_writeBell.cls = RL ∧ yL_writeBell.cls ≠ "java/lang/invoke/MethodHandle" ∧ yL_writeBell.cls ≠ "java/lang/invoke/VarHandle" ∧ (parseMethodDescriptor yL_writeBell.desc).map (fun d => d.parameters.length) = some 3 := by decide +kernel
abbrev rm_L_writeBell : Room := { frames := 8, cells := 12, slots := 1106, locals := 191 }
set_option maxHeartbeats 4000000 in
set_option maxRecDepth 100000 in
theorem k_L_writeBell (l : Launch) (E : ET) (a : Nat → Nat) (o : Nat) (x : VB_t) (ay : Nat → Nat) (oy : Nat) (y : (Nat → Int64)) (p2 : Int32) (res : Int32 × (Nat → Int32) × Nat × Int32 × Int32 × (Nat → Int64)) (hF : f_L_writeBell x.1.1.1.1 x.1.1.1.2.1 x.1.1.1.2.2 x.1.1.2.1.1 x.1.1.2.1.2.1 x.1.1.2.1.2.2 x.2.2.1.1 x.2.2.1.2.1 x.2.2.1.2.2.2.1 x.2.2.1.2.2.2.2 y p2 = some res) (sz : Nat) (hlt : l.stackTraces = false) : CtgI l yL_writeBell (mwsH yL_writeBell cL_writeBell 4 (some .int) [(0, 9, 12, 13)]) rm_L_writeBell 12 1106 [.ref (a o), .int p2, .ref (ay oy)] E (bl_VB E a o x ++ bl_LongArr E ay oy y) res.1 (fun ad : Nat => bl_VB E a o ((x.1.1, x.1.2.1, x.1.2.2.1, x.1.2.2.2.1, x.1.2.2.2.2), (x.2.1, (res.2.1, res.2.2.1, ad, res.2.2.2.1, res.2.2.2.2.1), x.2.2.2.1, x.2.2.2.2.1, x.2.2.2.2.2)) ++ bl_LongArr E ay oy res.2.2.2.2.2) sz := by
  refine mk_H (by decide +kernel) (Nat.le_of_ble_eq_true rfl) ?_
  intro p e s m below meth c A args Q ls hAe hsz hQ hx hb hr hml hin ha hown hlocks hA hz hzs hst htab hP hD hS hl
  have hown : s.vm.findClass RL = some m.cls := hown
  rw [hAe] at hQ
  subst hsz
  have hP : va_P E.1 vwCl (List.flatten [w_VBR a o x.2.2.2.1 x.2.2.2.2.1 x.2.2.2.2.2, w_ValleyR a (o + 1), w_Key E a (o + 2) x.1.1.1, w_Bells E a (o + 3) x.1.1.2.1, w_Mel E a (o + 6) x.1.1.2.2.1, w_Cliffs E a (o + 10) x.1.1.2.2.2, w_ValleyR a (o + 13), w_Key E a (o + 14) x.1.2.1.1, w_Bells E a (o + 15) x.1.2.1.2.1, w_Mel E a (o + 18) x.1.2.1.2.2.1, w_Cliffs E a (o + 22) x.1.2.1.2.2.2, w_Prog E a (o + 25) x.1.2.2.2.1, w_Chord E a (o + 31) x.1.2.2.2.2, w_Key E a (o + 34) x.2.1, w_Line E a (o + 35) x.2.2.1, w_Hist E a (o + 37) x.1.2.2.1, w_LongArr E ay oy y]) s.heap := hP
  have hD : va_D A (List.flatten [w_VBR a o x.2.2.2.1 x.2.2.2.2.1 x.2.2.2.2.2, w_ValleyR a (o + 1), w_Key E a (o + 2) x.1.1.1, w_Bells E a (o + 3) x.1.1.2.1, w_Mel E a (o + 6) x.1.1.2.2.1, w_Cliffs E a (o + 10) x.1.1.2.2.2, w_ValleyR a (o + 13), w_Key E a (o + 14) x.1.2.1.1, w_Bells E a (o + 15) x.1.2.1.2.1, w_Mel E a (o + 18) x.1.2.1.2.2.1, w_Cliffs E a (o + 22) x.1.2.1.2.2.2, w_Prog E a (o + 25) x.1.2.2.2.1, w_Chord E a (o + 31) x.1.2.2.2.2, w_Key E a (o + 34) x.2.1, w_Line E a (o + 35) x.2.2.1, w_Hist E a (o + 37) x.1.2.2.1, w_LongArr E ay oy y]) := hD
  have hl : lv_has ls 4 [(0, .ref (a o)), (1, .int p2), (2, .ref (ay oy))] := hl
  generalize hHe : s.heap = H at hP
  have hS : va_S A s.heap H [] := by rw [← hHe]; exact hS
  generalize ([] : List Loc) = locs at hS ⊢
  unfold f_L_writeBell at hF
  refine lv_aload_n hx hb dL_writeBell_0 rfl (lv_at hl 2 rfl) ?_
  refine lv_iconst (v := 0) hx hb dL_writeBell_1 (by decide) ?_
  refine lv_aload_n hx hb dL_writeBell_2 rfl (lv_at hl 0 rfl) ?_
  refine lv_iload_n hx hb dL_writeBell_3 rfl (lv_at hl 1 rfl) ?_
  obtain ⟨q1, hq1, hF⟩ := q_bdi hF
  refine cx_gi (ro := q1.1) (Lc := [w_VBR a o x.2.2.2.1 x.2.2.2.2.1 x.2.2.2.2.2, w_ValleyR a (o + 1), w_Key E a (o + 2) x.1.1.1, w_Bells E a (o + 3) x.1.1.2.1, w_Mel E a (o + 6) x.1.1.2.2.1, w_Cliffs E a (o + 10) x.1.1.2.2.2, w_ValleyR a (o + 13), w_Key E a (o + 14) x.1.2.1.1, w_Bells E a (o + 15) x.1.2.1.2.1, w_Mel E a (o + 18) x.1.2.1.2.2.1, w_Cliffs E a (o + 22) x.1.2.1.2.2.2, w_Prog E a (o + 25) x.1.2.2.2.1, w_Chord E a (o + 31) x.1.2.2.2.2, w_Key E a (o + 34) x.2.1, w_Line E a (o + 35) x.2.2.1, w_Hist E a (o + 37) x.1.2.2.1]) (Lc' := fun gh2 => [w_VBR a o x.2.2.2.1 x.2.2.2.2.1 x.2.2.2.2.2, w_ValleyR a (o + 1), w_Key E a (o + 2) x.1.1.1, w_Bells E a (o + 3) x.1.1.2.1, w_Mel E a (o + 6) x.1.1.2.2.1, w_Cliffs E a (o + 10) x.1.1.2.2.2, w_ValleyR a (o + 13), w_Key E a (o + 14) x.1.2.1.1, w_Bells E a (o + 15) x.1.2.1.2.1, w_Mel E a (o + 18) x.1.2.1.2.2.1, w_Cliffs E a (o + 22) x.1.2.1.2.2.2, w_Prog E a (o + 25) x.1.2.2.2.1, w_Chord E a (o + 31) x.1.2.2.2.2, w_Key E a (o + 34) x.2.1, w_Line E a (o + 35) (q1.2.1, q1.2.2.1, gh2, q1.2.2.2.1, q1.2.2.2.2), w_Hist E a (o + 37) x.1.2.2.1]) (L' := fun gh2 => [w_VBR a o x.2.2.2.1 x.2.2.2.2.1 x.2.2.2.2.2, w_ValleyR a (o + 1), w_Key E a (o + 2) x.1.1.1, w_Bells E a (o + 3) x.1.1.2.1, w_Mel E a (o + 6) x.1.1.2.2.1, w_Cliffs E a (o + 10) x.1.1.2.2.2, w_ValleyR a (o + 13), w_Key E a (o + 14) x.1.2.1.1, w_Bells E a (o + 15) x.1.2.1.2.1, w_Mel E a (o + 18) x.1.2.1.2.2.1, w_Cliffs E a (o + 22) x.1.2.1.2.2.2, w_Prog E a (o + 25) x.1.2.2.2.1, w_Chord E a (o + 31) x.1.2.2.2.2, w_Key E a (o + 34) x.2.1, w_Line E a (o + 35) (q1.2.1, q1.2.2.1, gh2, q1.2.2.2.1, q1.2.2.2.2), w_Hist E a (o + 37) x.1.2.2.1, w_LongArr E ay oy y]) (vx_runV (As := [.int p2]) (rest := [.int 0, .ref (ay oy)]) ⟨hx, hb, hml, hown, ha⟩ (k_X10_writeBell l E a o x p2 q1 hq1 H.size hlt) (cwV 1 ha (gi_V (fun _ h => h) mw1574 mw1575 mw1576 mw74 mw1577) rfl rfl rfl hv_X10_writeBell ⟨(Nat.le_of_ble_eq_true rfl), (Nat.le_of_ble_eq_true rfl)⟩) ⟨pre_blind, va_recv hst.k (fr_P hP [0, 1, 2, 3, 4, 5, 6, 7, 8, 9, 10, 11, 12, 13, 14, 15] rfl) (ci := 12) (q0 := 0) rfl rfl, pre_at hP hD hS hz hzs hst [0, 1, 2, 3, 4, 5, 6, 7, 8, 9, 10, 11, 12, 13, 14, 15] (by decide) rfl rfl⟩ rfl rfl hl.1 rfl (lv_room (Nat.le_of_ble_eq_true rfl)) dL_writeBell_4 ⟨(Nat.le_of_ble_eq_true rfl), (Nat.le_of_ble_eq_true rfl)⟩) hP hD hS hA [0, 1, 2, 3, 4, 5, 6, 7, 8, 9, 10, 11, 12, 13, 14, 15] (by decide) rfl rfl (fun _ => rfl) (fun _ => rfl) (fun X ce q9 gh2 H locs eX h1 h2 h3 hP hD hS => ?_) (fun r3 gh2 H locs er3 hP hD hS => ?_)
  · have hF := q_smr eX hF
    by_cases w4_0 : X = "java/lang/IndexOutOfBoundsException"
    · have hF := q_brp w4_0 hF
      subst w4_0
      refine vx_catch (E := "java/lang/IndexOutOfBoundsException") (name := "java/lang/IndexOutOfBoundsException") hown [] ⟨0, 9, 12, 13⟩ [] htab (fun _ h => nomatch h) (by decide) (by decide) (ha _ mw960) (va_Nw.use rfl (hst.cs cs_IndexOutOfBoundsException)) h1 h2 h3 ?_
      refine lv_astore_n (lv' := [(3, .ref q9), (0, .ref (a o)), (1, .int p2), (2, .ref (ay oy))]) hx hb dL_writeBell_12 rfl hl (by decide) rfl (fun ls hl => ?_)
      refine lv_iconst (v := 1) hx hb dL_writeBell_13 (by decide) ?_
      obtain rfl := Option.some.inj hF
      exact en_gi (ad := gh2) hQ (Nat.le_of_ble_eq_true rfl) (Nat.le_of_ble_eq_true rfl) hx hb hr hlocks hP hD hS rfl dL_writeBell_14
    have hF := q_brn w4_0 hF
    exact absurd hF (by simp)
  have hF := q_sml er3 hF
  refine lv_i2l hx hb dL_writeBell_7 rfl ?_
  refine vi_last hx hb hst.k hP hD hS 147 3 rfl rfl (f := y) (k := 0) (by decide) (by decide) dL_writeBell_8 (fun H locs hP hD hS => ?_)
  have hP : va_P E.1 vwCl (List.flatten [w_VBR a o x.2.2.2.1 x.2.2.2.2.1 x.2.2.2.2.2, w_ValleyR a (o + 1), w_Key E a (o + 2) x.1.1.1, w_Bells E a (o + 3) x.1.1.2.1, w_Mel E a (o + 6) x.1.1.2.2.1, w_Cliffs E a (o + 10) x.1.1.2.2.2, w_ValleyR a (o + 13), w_Key E a (o + 14) x.1.2.1.1, w_Bells E a (o + 15) x.1.2.1.2.1, w_Mel E a (o + 18) x.1.2.1.2.2.1, w_Cliffs E a (o + 22) x.1.2.1.2.2.2, w_Prog E a (o + 25) x.1.2.2.2.1, w_Chord E a (o + 31) x.1.2.2.2.2, w_Key E a (o + 34) x.2.1, w_Line E a (o + 35) (q1.2.1, q1.2.2.1, gh2, q1.2.2.2.1, q1.2.2.2.2), w_Hist E a (o + 37) x.1.2.2.1, w_LongArr E ay oy (vp_updL y 0 (r3.toInt64))]) H := hP
  have hD : va_D A (List.flatten [w_VBR a o x.2.2.2.1 x.2.2.2.2.1 x.2.2.2.2.2, w_ValleyR a (o + 1), w_Key E a (o + 2) x.1.1.1, w_Bells E a (o + 3) x.1.1.2.1, w_Mel E a (o + 6) x.1.1.2.2.1, w_Cliffs E a (o + 10) x.1.1.2.2.2, w_ValleyR a (o + 13), w_Key E a (o + 14) x.1.2.1.1, w_Bells E a (o + 15) x.1.2.1.2.1, w_Mel E a (o + 18) x.1.2.1.2.2.1, w_Cliffs E a (o + 22) x.1.2.1.2.2.2, w_Prog E a (o + 25) x.1.2.2.2.1, w_Chord E a (o + 31) x.1.2.2.2.2, w_Key E a (o + 34) x.2.1, w_Line E a (o + 35) (q1.2.1, q1.2.2.1, gh2, q1.2.2.2.1, q1.2.2.2.2), w_Hist E a (o + 37) x.1.2.2.1, w_LongArr E ay oy (vp_updL y 0 (r3.toInt64))]) := hD
  refine lv_goto (tgt := 15) hx hb dL_writeBell_9 (by decide) ?_
  refine lv_iconst (v := 0) hx hb dL_writeBell_15 (by decide) ?_
  obtain rfl := Option.some.inj hF
  exact en_gi (ad := gh2) hQ (Nat.le_of_ble_eq_true rfl) (Nat.le_of_ble_eq_true rfl) hx hb hr hlocks hP hD hS rfl dL_writeBell_16

/-! L_outputAt -/
theorem dL_outputAt_0 : decode cL_outputAt 0 = .ok (.aload_n 2, 1) := by decide +kernel
theorem dL_outputAt_1 : decode cL_outputAt 1 = .ok (.iconst 0, 1) := by decide +kernel
theorem dL_outputAt_2 : decode cL_outputAt 2 = .ok (.aload_n 0, 1) := by decide +kernel
theorem dL_outputAt_3 : decode cL_outputAt 3 = .ok (.iload_n 1, 1) := by decide +kernel
theorem dL_outputAt_4 : decode cL_outputAt 4 = .ok (.invokevirtual 140, 3) := by decide +kernel
theorem dL_outputAt_7 : decode cL_outputAt 7 = .ok (.i2l, 1) := by decide +kernel
theorem dL_outputAt_8 : decode cL_outputAt 8 = .ok (.lastore, 1) := by decide +kernel
theorem dL_outputAt_9 : decode cL_outputAt 9 = .ok (.goto 6, 3) := by decide +kernel
theorem dL_outputAt_12 : decode cL_outputAt 12 = .ok (.astore_n 3, 1) := by decide +kernel
theorem dL_outputAt_13 : decode cL_outputAt 13 = .ok (.iconst 1, 1) := by decide +kernel
theorem dL_outputAt_14 : decode cL_outputAt 14 = .ok (.ireturn, 1) := by decide +kernel
theorem dL_outputAt_15 : decode cL_outputAt 15 = .ok (.iconst 0, 1) := by decide +kernel
theorem dL_outputAt_16 : decode cL_outputAt 16 = .ok (.ireturn, 1) := by decide +kernel
def f_L_outputAt (x_line_value : (Nat → Int32)) (x_line_cap : Nat) (x_line_count : Int32) (y_v : (Nat → Int64)) (p2 : Int32) : Option (Int32 × (Nat → Int64)) :=
  q_bd (f_X10_outputAt x_line_value x_line_cap x_line_count p2) (fun q1 =>
  q_sm q1 (fun X => q_br (X = "java/lang/IndexOutOfBoundsException") (
  some (1, y_v)) (
  none)) (fun r2 =>
  some (0, vp_updL y_v 0 (r2.toInt64))))
theorem hv_L_outputAt : yL_outputAt.cls = RL ∧ yL_outputAt.cls ≠ "java/lang/invoke/MethodHandle" ∧ yL_outputAt.cls ≠ "java/lang/invoke/VarHandle" ∧ (parseMethodDescriptor yL_outputAt.desc).map (fun d => d.parameters.length) = some 3 := by decide +kernel
abbrev rm_L_outputAt : Room := { frames := 7, cells := 1, slots := 6, locals := 109 }
set_option maxHeartbeats 4000000 in
set_option maxRecDepth 100000 in
theorem k_L_outputAt (l : Launch) (E : ET) (a : Nat → Nat) (o : Nat) (x : VB_t) (ay : Nat → Nat) (oy : Nat) (y : (Nat → Int64)) (p2 : Int32) (res : Int32 × (Nat → Int64)) (hF : f_L_outputAt x.2.2.1.1 x.2.2.1.2.1 x.2.2.1.2.2.2.2 y p2 = some res) (sz : Nat) (hlt : l.stackTraces = false) : CtI l yL_outputAt (mwsH yL_outputAt cL_outputAt 4 (some .int) [(0, 9, 12, 13)]) rm_L_outputAt 1 6 [.ref (a o), .int p2, .ref (ay oy)] E (bl_VB E a o x ++ bl_LongArr E ay oy y) res.1 (bl_VB E a o x ++ bl_LongArr E ay oy res.2) sz := by
  refine mk_H (by decide +kernel) (Nat.le_of_ble_eq_true rfl) ?_
  intro p e s m below meth c A args Q ls hAe hsz hQ hx hb hr hml hin ha hown hlocks hA hz hzs hst htab hP hD hS hl
  have hown : s.vm.findClass RL = some m.cls := hown
  rw [hAe] at hQ
  subst hsz
  have hP : va_P E.1 vwCl (List.flatten [w_VBR a o x.2.2.2.1 x.2.2.2.2.1 x.2.2.2.2.2, w_ValleyR a (o + 1), w_Key E a (o + 2) x.1.1.1, w_Bells E a (o + 3) x.1.1.2.1, w_Mel E a (o + 6) x.1.1.2.2.1, w_Cliffs E a (o + 10) x.1.1.2.2.2, w_ValleyR a (o + 13), w_Key E a (o + 14) x.1.2.1.1, w_Bells E a (o + 15) x.1.2.1.2.1, w_Mel E a (o + 18) x.1.2.1.2.2.1, w_Cliffs E a (o + 22) x.1.2.1.2.2.2, w_Prog E a (o + 25) x.1.2.2.2.1, w_Chord E a (o + 31) x.1.2.2.2.2, w_Key E a (o + 34) x.2.1, w_Line E a (o + 35) x.2.2.1, w_Hist E a (o + 37) x.1.2.2.1, w_LongArr E ay oy y]) s.heap := hP
  have hD : va_D A (List.flatten [w_VBR a o x.2.2.2.1 x.2.2.2.2.1 x.2.2.2.2.2, w_ValleyR a (o + 1), w_Key E a (o + 2) x.1.1.1, w_Bells E a (o + 3) x.1.1.2.1, w_Mel E a (o + 6) x.1.1.2.2.1, w_Cliffs E a (o + 10) x.1.1.2.2.2, w_ValleyR a (o + 13), w_Key E a (o + 14) x.1.2.1.1, w_Bells E a (o + 15) x.1.2.1.2.1, w_Mel E a (o + 18) x.1.2.1.2.2.1, w_Cliffs E a (o + 22) x.1.2.1.2.2.2, w_Prog E a (o + 25) x.1.2.2.2.1, w_Chord E a (o + 31) x.1.2.2.2.2, w_Key E a (o + 34) x.2.1, w_Line E a (o + 35) x.2.2.1, w_Hist E a (o + 37) x.1.2.2.1, w_LongArr E ay oy y]) := hD
  have hl : lv_has ls 4 [(0, .ref (a o)), (1, .int p2), (2, .ref (ay oy))] := hl
  generalize hHe : s.heap = H at hP
  have hS : va_S A s.heap H [] := by rw [← hHe]; exact hS
  generalize ([] : List Loc) = locs at hS ⊢
  unfold f_L_outputAt at hF
  refine lv_aload_n hx hb dL_outputAt_0 rfl (lv_at hl 2 rfl) ?_
  refine lv_iconst (v := 0) hx hb dL_outputAt_1 (by decide) ?_
  refine lv_aload_n hx hb dL_outputAt_2 rfl (lv_at hl 0 rfl) ?_
  refine lv_iload_n hx hb dL_outputAt_3 rfl (lv_at hl 1 rfl) ?_
  obtain ⟨q1, hq1, hF⟩ := q_bdi hF
  refine cx_i (ro := q1) (Lc := [w_VBR a o x.2.2.2.1 x.2.2.2.2.1 x.2.2.2.2.2, w_ValleyR a (o + 1), w_Key E a (o + 2) x.1.1.1, w_Bells E a (o + 3) x.1.1.2.1, w_Mel E a (o + 6) x.1.1.2.2.1, w_Cliffs E a (o + 10) x.1.1.2.2.2, w_ValleyR a (o + 13), w_Key E a (o + 14) x.1.2.1.1, w_Bells E a (o + 15) x.1.2.1.2.1, w_Mel E a (o + 18) x.1.2.1.2.2.1, w_Cliffs E a (o + 22) x.1.2.1.2.2.2, w_Prog E a (o + 25) x.1.2.2.2.1, w_Chord E a (o + 31) x.1.2.2.2.2, w_Key E a (o + 34) x.2.1, w_Line E a (o + 35) x.2.2.1, w_Hist E a (o + 37) x.1.2.2.1]) (Lc' := [w_VBR a o x.2.2.2.1 x.2.2.2.2.1 x.2.2.2.2.2, w_ValleyR a (o + 1), w_Key E a (o + 2) x.1.1.1, w_Bells E a (o + 3) x.1.1.2.1, w_Mel E a (o + 6) x.1.1.2.2.1, w_Cliffs E a (o + 10) x.1.1.2.2.2, w_ValleyR a (o + 13), w_Key E a (o + 14) x.1.2.1.1, w_Bells E a (o + 15) x.1.2.1.2.1, w_Mel E a (o + 18) x.1.2.1.2.2.1, w_Cliffs E a (o + 22) x.1.2.1.2.2.2, w_Prog E a (o + 25) x.1.2.2.2.1, w_Chord E a (o + 31) x.1.2.2.2.2, w_Key E a (o + 34) x.2.1, w_Line E a (o + 35) x.2.2.1, w_Hist E a (o + 37) x.1.2.2.1]) (L' := [w_VBR a o x.2.2.2.1 x.2.2.2.2.1 x.2.2.2.2.2, w_ValleyR a (o + 1), w_Key E a (o + 2) x.1.1.1, w_Bells E a (o + 3) x.1.1.2.1, w_Mel E a (o + 6) x.1.1.2.2.1, w_Cliffs E a (o + 10) x.1.1.2.2.2, w_ValleyR a (o + 13), w_Key E a (o + 14) x.1.2.1.1, w_Bells E a (o + 15) x.1.2.1.2.1, w_Mel E a (o + 18) x.1.2.1.2.2.1, w_Cliffs E a (o + 22) x.1.2.1.2.2.2, w_Prog E a (o + 25) x.1.2.2.2.1, w_Chord E a (o + 31) x.1.2.2.2.2, w_Key E a (o + 34) x.2.1, w_Line E a (o + 35) x.2.2.1, w_Hist E a (o + 37) x.1.2.2.1, w_LongArr E ay oy y]) (vx_runV (As := [.int p2]) (rest := [.int 0, .ref (ay oy)]) ⟨hx, hb, hml, hown, ha⟩ (k_X10_outputAt l E a o x p2 q1 hq1 H.size hlt) (cwV 1 ha (gi_V (fun _ h => h) mw1591 mw1592 mw1593 mw74 mw1594) rfl rfl rfl hv_X10_outputAt ⟨(Nat.le_of_ble_eq_true rfl), (Nat.le_of_ble_eq_true rfl)⟩) ⟨pre_blind, va_recv hst.k (fr_P hP [0, 1, 2, 3, 4, 5, 6, 7, 8, 9, 10, 11, 12, 13, 14, 15] rfl) (ci := 12) (q0 := 0) rfl rfl, pre_at hP hD hS hz hzs hst [0, 1, 2, 3, 4, 5, 6, 7, 8, 9, 10, 11, 12, 13, 14, 15] (by decide) rfl rfl⟩ rfl rfl hl.1 rfl (lv_room (Nat.le_of_ble_eq_true rfl)) dL_outputAt_4 ⟨(Nat.le_of_ble_eq_true rfl), (Nat.le_of_ble_eq_true rfl)⟩) hP hD hS hA [0, 1, 2, 3, 4, 5, 6, 7, 8, 9, 10, 11, 12, 13, 14, 15] (by decide) rfl rfl rfl rfl (fun X ce q9 H locs eX h1 h2 h3 hP hD hS => ?_) (fun r2 H locs er2 hP hD hS => ?_)
  · have hF := q_smr eX hF
    by_cases w4_0 : X = "java/lang/IndexOutOfBoundsException"
    · have hF := q_brp w4_0 hF
      subst w4_0
      refine vx_catch (E := "java/lang/IndexOutOfBoundsException") (name := "java/lang/IndexOutOfBoundsException") hown [] ⟨0, 9, 12, 13⟩ [] htab (fun _ h => nomatch h) (by decide) (by decide) (ha _ mw960) (va_Nw.use rfl (hst.cs cs_IndexOutOfBoundsException)) h1 h2 h3 ?_
      refine lv_astore_n (lv' := [(3, .ref q9), (0, .ref (a o)), (1, .int p2), (2, .ref (ay oy))]) hx hb dL_outputAt_12 rfl hl (by decide) rfl (fun ls hl => ?_)
      refine lv_iconst (v := 1) hx hb dL_outputAt_13 (by decide) ?_
      obtain rfl := Option.some.inj hF
      exact en_i hQ (Nat.le_of_ble_eq_true rfl) (Nat.le_of_ble_eq_true rfl) hx hb hr hlocks hP hD hS rfl dL_outputAt_14
    have hF := q_brn w4_0 hF
    exact absurd hF (by simp)
  have hF := q_sml er2 hF
  refine lv_i2l hx hb dL_outputAt_7 rfl ?_
  refine vi_last hx hb hst.k hP hD hS 147 3 rfl rfl (f := y) (k := 0) (by decide) (by decide) dL_outputAt_8 (fun H locs hP hD hS => ?_)
  have hP : va_P E.1 vwCl (List.flatten [w_VBR a o x.2.2.2.1 x.2.2.2.2.1 x.2.2.2.2.2, w_ValleyR a (o + 1), w_Key E a (o + 2) x.1.1.1, w_Bells E a (o + 3) x.1.1.2.1, w_Mel E a (o + 6) x.1.1.2.2.1, w_Cliffs E a (o + 10) x.1.1.2.2.2, w_ValleyR a (o + 13), w_Key E a (o + 14) x.1.2.1.1, w_Bells E a (o + 15) x.1.2.1.2.1, w_Mel E a (o + 18) x.1.2.1.2.2.1, w_Cliffs E a (o + 22) x.1.2.1.2.2.2, w_Prog E a (o + 25) x.1.2.2.2.1, w_Chord E a (o + 31) x.1.2.2.2.2, w_Key E a (o + 34) x.2.1, w_Line E a (o + 35) x.2.2.1, w_Hist E a (o + 37) x.1.2.2.1, w_LongArr E ay oy (vp_updL y 0 (r2.toInt64))]) H := hP
  have hD : va_D A (List.flatten [w_VBR a o x.2.2.2.1 x.2.2.2.2.1 x.2.2.2.2.2, w_ValleyR a (o + 1), w_Key E a (o + 2) x.1.1.1, w_Bells E a (o + 3) x.1.1.2.1, w_Mel E a (o + 6) x.1.1.2.2.1, w_Cliffs E a (o + 10) x.1.1.2.2.2, w_ValleyR a (o + 13), w_Key E a (o + 14) x.1.2.1.1, w_Bells E a (o + 15) x.1.2.1.2.1, w_Mel E a (o + 18) x.1.2.1.2.2.1, w_Cliffs E a (o + 22) x.1.2.1.2.2.2, w_Prog E a (o + 25) x.1.2.2.2.1, w_Chord E a (o + 31) x.1.2.2.2.2, w_Key E a (o + 34) x.2.1, w_Line E a (o + 35) x.2.2.1, w_Hist E a (o + 37) x.1.2.2.1, w_LongArr E ay oy (vp_updL y 0 (r2.toInt64))]) := hD
  refine lv_goto (tgt := 15) hx hb dL_outputAt_9 (by decide) ?_
  refine lv_iconst (v := 0) hx hb dL_outputAt_15 (by decide) ?_
  obtain rfl := Option.some.inj hF
  exact en_i hQ (Nat.le_of_ble_eq_true rfl) (Nat.le_of_ble_eq_true rfl) hx hb hr hlocks hP hD hS rfl dL_outputAt_16

/-! L_undo -/
theorem dL_undo_0 : decode cL_undo 0 = .ok (.aload_n 1, 1) := by decide +kernel
theorem dL_undo_1 : decode cL_undo 1 = .ok (.iconst 0, 1) := by decide +kernel
theorem dL_undo_2 : decode cL_undo 2 = .ok (.aload_n 0, 1) := by decide +kernel
theorem dL_undo_3 : decode cL_undo 3 = .ok (.invokevirtual 144, 3) := by decide +kernel
theorem dL_undo_6 : decode cL_undo 6 = .ok (.i2l, 1) := by decide +kernel
theorem dL_undo_7 : decode cL_undo 7 = .ok (.lastore, 1) := by decide +kernel
theorem dL_undo_8 : decode cL_undo 8 = .ok (.goto 6, 3) := by decide +kernel
theorem dL_undo_11 : decode cL_undo 11 = .ok (.astore_n 2, 1) := by decide +kernel
theorem dL_undo_12 : decode cL_undo 12 = .ok (.iconst 1, 1) := by decide +kernel
theorem dL_undo_13 : decode cL_undo 13 = .ok (.ireturn, 1) := by decide +kernel
theorem dL_undo_14 : decode cL_undo 14 = .ok (.iconst 0, 1) := by decide +kernel
theorem dL_undo_15 : decode cL_undo 15 = .ok (.ireturn, 1) := by decide +kernel
def f_L_undo (x_valley_key_tonic : Int32) (x_valley_key_isMinor : Int32) (x_valley_key_tolerance : Int32) (x_valley_bells_herds : (Nat → Int32)) (x_valley_bells_pitches : (Nat → Int32)) (x_valley_bells_count : Int32) (x_valley_melodies_lengths : (Nat → Int32)) (x_valley_melodies_entries : (Nat → Int32)) (x_valley_melodies_tones : (Nat → Int32)) (x_valley_cliffs_delays : (Nat → Int32)) (x_valley_cliffs_transpositions : (Nat → Int32)) (x_valley_cliffs_count : Int32) (x_history_slots : (Nat → Valley_t)) (x_history_current : Int32) (x_history_count : Int32) (y_v : (Nat → Int64)) : Option (Int32 × Int32 × Int32 × Int32 × (Nat → Int32) × (Nat → Int32) × Int32 × (Nat → Int32) × (Nat → Int32) × (Nat → Int32) × (Nat → Int32) × (Nat → Int32) × Int32 × Int32 × Int32 × (Nat → Int64)) :=
  q_bd (f_X10_undo x_valley_key_tonic x_valley_key_isMinor x_valley_key_tolerance x_valley_bells_herds x_valley_bells_pitches x_valley_bells_count x_valley_melodies_lengths x_valley_melodies_entries x_valley_melodies_tones x_valley_cliffs_delays x_valley_cliffs_transpositions x_valley_cliffs_count x_history_slots x_history_current x_history_count) (fun q1 =>
  q_sm q1.1 (fun X => q_br (X = "java/lang/IllegalStateException") (
  some (1, q1.2.1, q1.2.2.1, q1.2.2.2.1, q1.2.2.2.2.1, q1.2.2.2.2.2.1, q1.2.2.2.2.2.2.1, q1.2.2.2.2.2.2.2.1, q1.2.2.2.2.2.2.2.2.1, q1.2.2.2.2.2.2.2.2.2.1, q1.2.2.2.2.2.2.2.2.2.2.1, q1.2.2.2.2.2.2.2.2.2.2.2.1, q1.2.2.2.2.2.2.2.2.2.2.2.2.1, q1.2.2.2.2.2.2.2.2.2.2.2.2.2.1, q1.2.2.2.2.2.2.2.2.2.2.2.2.2.2, y_v)) (
  none)) (fun r2 =>
  some (0, q1.2.1, q1.2.2.1, q1.2.2.2.1, q1.2.2.2.2.1, q1.2.2.2.2.2.1, q1.2.2.2.2.2.2.1, q1.2.2.2.2.2.2.2.1, q1.2.2.2.2.2.2.2.2.1, q1.2.2.2.2.2.2.2.2.2.1, q1.2.2.2.2.2.2.2.2.2.2.1, q1.2.2.2.2.2.2.2.2.2.2.2.1, q1.2.2.2.2.2.2.2.2.2.2.2.2.1, q1.2.2.2.2.2.2.2.2.2.2.2.2.2.1, q1.2.2.2.2.2.2.2.2.2.2.2.2.2.2, vp_updL y_v 0 (r2.toInt64))))
theorem hv_L_undo : yL_undo.cls = RL ∧ yL_undo.cls ≠ "java/lang/invoke/MethodHandle" ∧ yL_undo.cls ≠ "java/lang/invoke/VarHandle" ∧ (parseMethodDescriptor yL_undo.desc).map (fun d => d.parameters.length) = some 2 := by decide +kernel
abbrev rm_L_undo : Room := { frames := 7, cells := 1, slots := 6, locals := 122 }
set_option maxHeartbeats 4000000 in
set_option maxRecDepth 100000 in
theorem k_L_undo (l : Launch) (E : ET) (a : Nat → Nat) (o : Nat) (x : VB_t) (ay : Nat → Nat) (oy : Nat) (y : (Nat → Int64)) (res : Int32 × Int32 × Int32 × Int32 × (Nat → Int32) × (Nat → Int32) × Int32 × (Nat → Int32) × (Nat → Int32) × (Nat → Int32) × (Nat → Int32) × (Nat → Int32) × Int32 × Int32 × Int32 × (Nat → Int64)) (hF : f_L_undo x.1.1.1.1 x.1.1.1.2.1 x.1.1.1.2.2 x.1.1.2.1.1 x.1.1.2.1.2.1 x.1.1.2.1.2.2 x.1.1.2.2.1.1 x.1.1.2.2.1.2.1 x.1.1.2.2.1.2.2 x.1.1.2.2.2.1 x.1.1.2.2.2.2.1 x.1.1.2.2.2.2.2 x.1.2.2.1.1 x.1.2.2.1.2.1 x.1.2.2.1.2.2 y = some res) (sz : Nat) (hlt : l.stackTraces = false) : CtI l yL_undo (mwsH yL_undo cL_undo 3 (some .int) [(0, 8, 11, 17)]) rm_L_undo 1 6 [.ref (a o), .ref (ay oy)] E (bl_VB E a o x ++ bl_LongArr E ay oy y) res.1 (bl_VB E a o ((((res.2.1, res.2.2.1, res.2.2.2.1), (res.2.2.2.2.1, res.2.2.2.2.2.1, res.2.2.2.2.2.2.1), (res.2.2.2.2.2.2.2.1, res.2.2.2.2.2.2.2.2.1, res.2.2.2.2.2.2.2.2.2.1), (res.2.2.2.2.2.2.2.2.2.2.1, res.2.2.2.2.2.2.2.2.2.2.2.1, res.2.2.2.2.2.2.2.2.2.2.2.2.1)), x.1.2.1, (x.1.2.2.1.1, res.2.2.2.2.2.2.2.2.2.2.2.2.2.1, res.2.2.2.2.2.2.2.2.2.2.2.2.2.2.1), x.1.2.2.2.1, x.1.2.2.2.2), (x.2.1, x.2.2.1, x.2.2.2.1, x.2.2.2.2.1, x.2.2.2.2.2)) ++ bl_LongArr E ay oy res.2.2.2.2.2.2.2.2.2.2.2.2.2.2.2) sz := by
  refine mk_H (by decide +kernel) (Nat.le_of_ble_eq_true rfl) ?_
  intro p e s m below meth c A args Q ls hAe hsz hQ hx hb hr hml hin ha hown hlocks hA hz hzs hst htab hP hD hS hl
  have hown : s.vm.findClass RL = some m.cls := hown
  rw [hAe] at hQ
  subst hsz
  have hP : va_P E.1 vwCl (List.flatten [w_VBR a o x.2.2.2.1 x.2.2.2.2.1 x.2.2.2.2.2, w_ValleyR a (o + 1), w_Key E a (o + 2) x.1.1.1, w_Bells E a (o + 3) x.1.1.2.1, w_Mel E a (o + 6) x.1.1.2.2.1, w_Cliffs E a (o + 10) x.1.1.2.2.2, w_ValleyR a (o + 13), w_Key E a (o + 14) x.1.2.1.1, w_Bells E a (o + 15) x.1.2.1.2.1, w_Mel E a (o + 18) x.1.2.1.2.2.1, w_Cliffs E a (o + 22) x.1.2.1.2.2.2, w_Prog E a (o + 25) x.1.2.2.2.1, w_Chord E a (o + 31) x.1.2.2.2.2, w_Key E a (o + 34) x.2.1, w_Line E a (o + 35) x.2.2.1, w_Hist E a (o + 37) x.1.2.2.1, w_LongArr E ay oy y]) s.heap := hP
  have hD : va_D A (List.flatten [w_VBR a o x.2.2.2.1 x.2.2.2.2.1 x.2.2.2.2.2, w_ValleyR a (o + 1), w_Key E a (o + 2) x.1.1.1, w_Bells E a (o + 3) x.1.1.2.1, w_Mel E a (o + 6) x.1.1.2.2.1, w_Cliffs E a (o + 10) x.1.1.2.2.2, w_ValleyR a (o + 13), w_Key E a (o + 14) x.1.2.1.1, w_Bells E a (o + 15) x.1.2.1.2.1, w_Mel E a (o + 18) x.1.2.1.2.2.1, w_Cliffs E a (o + 22) x.1.2.1.2.2.2, w_Prog E a (o + 25) x.1.2.2.2.1, w_Chord E a (o + 31) x.1.2.2.2.2, w_Key E a (o + 34) x.2.1, w_Line E a (o + 35) x.2.2.1, w_Hist E a (o + 37) x.1.2.2.1, w_LongArr E ay oy y]) := hD
  have hl : lv_has ls 3 [(0, .ref (a o)), (1, .ref (ay oy))] := hl
  generalize hHe : s.heap = H at hP
  have hS : va_S A s.heap H [] := by rw [← hHe]; exact hS
  generalize ([] : List Loc) = locs at hS ⊢
  unfold f_L_undo at hF
  refine lv_aload_n hx hb dL_undo_0 rfl (lv_at hl 1 rfl) ?_
  refine lv_iconst (v := 0) hx hb dL_undo_1 (by decide) ?_
  refine lv_aload_n hx hb dL_undo_2 rfl (lv_at hl 0 rfl) ?_
  obtain ⟨q1, hq1, hF⟩ := q_bdi hF
  refine cx_i (ro := q1.1) (Lc := [w_VBR a o x.2.2.2.1 x.2.2.2.2.1 x.2.2.2.2.2, w_ValleyR a (o + 1), w_Key E a (o + 2) x.1.1.1, w_Bells E a (o + 3) x.1.1.2.1, w_Mel E a (o + 6) x.1.1.2.2.1, w_Cliffs E a (o + 10) x.1.1.2.2.2, w_ValleyR a (o + 13), w_Key E a (o + 14) x.1.2.1.1, w_Bells E a (o + 15) x.1.2.1.2.1, w_Mel E a (o + 18) x.1.2.1.2.2.1, w_Cliffs E a (o + 22) x.1.2.1.2.2.2, w_Prog E a (o + 25) x.1.2.2.2.1, w_Chord E a (o + 31) x.1.2.2.2.2, w_Key E a (o + 34) x.2.1, w_Line E a (o + 35) x.2.2.1, w_Hist E a (o + 37) x.1.2.2.1]) (Lc' := [w_VBR a o x.2.2.2.1 x.2.2.2.2.1 x.2.2.2.2.2, w_ValleyR a (o + 1), w_Key E a (o + 2) (q1.2.1, q1.2.2.1, q1.2.2.2.1), w_Bells E a (o + 3) (q1.2.2.2.2.1, q1.2.2.2.2.2.1, q1.2.2.2.2.2.2.1), w_Mel E a (o + 6) (q1.2.2.2.2.2.2.2.1, q1.2.2.2.2.2.2.2.2.1, q1.2.2.2.2.2.2.2.2.2.1), w_Cliffs E a (o + 10) (q1.2.2.2.2.2.2.2.2.2.2.1, q1.2.2.2.2.2.2.2.2.2.2.2.1, q1.2.2.2.2.2.2.2.2.2.2.2.2.1), w_ValleyR a (o + 13), w_Key E a (o + 14) x.1.2.1.1, w_Bells E a (o + 15) x.1.2.1.2.1, w_Mel E a (o + 18) x.1.2.1.2.2.1, w_Cliffs E a (o + 22) x.1.2.1.2.2.2, w_Prog E a (o + 25) x.1.2.2.2.1, w_Chord E a (o + 31) x.1.2.2.2.2, w_Key E a (o + 34) x.2.1, w_Line E a (o + 35) x.2.2.1, w_Hist E a (o + 37) (x.1.2.2.1.1, q1.2.2.2.2.2.2.2.2.2.2.2.2.2.1, q1.2.2.2.2.2.2.2.2.2.2.2.2.2.2)]) (L' := [w_VBR a o x.2.2.2.1 x.2.2.2.2.1 x.2.2.2.2.2, w_ValleyR a (o + 1), w_Key E a (o + 2) (q1.2.1, q1.2.2.1, q1.2.2.2.1), w_Bells E a (o + 3) (q1.2.2.2.2.1, q1.2.2.2.2.2.1, q1.2.2.2.2.2.2.1), w_Mel E a (o + 6) (q1.2.2.2.2.2.2.2.1, q1.2.2.2.2.2.2.2.2.1, q1.2.2.2.2.2.2.2.2.2.1), w_Cliffs E a (o + 10) (q1.2.2.2.2.2.2.2.2.2.2.1, q1.2.2.2.2.2.2.2.2.2.2.2.1, q1.2.2.2.2.2.2.2.2.2.2.2.2.1), w_ValleyR a (o + 13), w_Key E a (o + 14) x.1.2.1.1, w_Bells E a (o + 15) x.1.2.1.2.1, w_Mel E a (o + 18) x.1.2.1.2.2.1, w_Cliffs E a (o + 22) x.1.2.1.2.2.2, w_Prog E a (o + 25) x.1.2.2.2.1, w_Chord E a (o + 31) x.1.2.2.2.2, w_Key E a (o + 34) x.2.1, w_Line E a (o + 35) x.2.2.1, w_Hist E a (o + 37) (x.1.2.2.1.1, q1.2.2.2.2.2.2.2.2.2.2.2.2.2.1, q1.2.2.2.2.2.2.2.2.2.2.2.2.2.2), w_LongArr E ay oy y]) (vx_runV (As := []) (rest := [.int 0, .ref (ay oy)]) ⟨hx, hb, hml, hown, ha⟩ (k_X10_undo l E a o x q1 hq1 H.size hlt) (cwV 0 ha (gi_V (fun _ h => h) mw1609 mw1610 mw1611 mw74 mw1612) rfl rfl rfl hv_X10_undo ⟨(Nat.le_of_ble_eq_true rfl), (Nat.le_of_ble_eq_true rfl)⟩) ⟨pre_blind, va_recv hst.k (fr_P hP [0, 1, 2, 3, 4, 5, 6, 7, 8, 9, 10, 11, 12, 13, 14, 15] rfl) (ci := 12) (q0 := 0) rfl rfl, pre_at hP hD hS hz hzs hst [0, 1, 2, 3, 4, 5, 6, 7, 8, 9, 10, 11, 12, 13, 14, 15] (by decide) rfl rfl⟩ rfl rfl hl.1 rfl (lv_room (Nat.le_of_ble_eq_true rfl)) dL_undo_3 ⟨(Nat.le_of_ble_eq_true rfl), (Nat.le_of_ble_eq_true rfl)⟩) hP hD hS hA [0, 1, 2, 3, 4, 5, 6, 7, 8, 9, 10, 11, 12, 13, 14, 15] (by decide) rfl rfl rfl rfl (fun X ce q9 H locs eX h1 h2 h3 hP hD hS => ?_) (fun r2 H locs er2 hP hD hS => ?_)
  · have hF := q_smr eX hF
    by_cases w3_0 : X = "java/lang/IllegalStateException"
    · have hF := q_brp w3_0 hF
      subst w3_0
      refine vx_catch (E := "java/lang/IllegalStateException") (name := "java/lang/IllegalStateException") hown [] ⟨0, 8, 11, 17⟩ [] htab (fun _ h => nomatch h) (by decide) (by decide) (ha _ mw964) (va_Nw.use rfl (hst.cs cs_IllegalStateException)) h1 h2 h3 ?_
      refine lv_astore_n (lv' := [(2, .ref q9), (0, .ref (a o)), (1, .ref (ay oy))]) hx hb dL_undo_11 rfl hl (by decide) rfl (fun ls hl => ?_)
      refine lv_iconst (v := 1) hx hb dL_undo_12 (by decide) ?_
      obtain rfl := Option.some.inj hF
      exact en_i hQ (Nat.le_of_ble_eq_true rfl) (Nat.le_of_ble_eq_true rfl) hx hb hr hlocks hP hD hS rfl dL_undo_13
    have hF := q_brn w3_0 hF
    exact absurd hF (by simp)
  have hF := q_sml er2 hF
  refine lv_i2l hx hb dL_undo_6 rfl ?_
  refine vi_last hx hb hst.k hP hD hS 147 3 rfl rfl (f := y) (k := 0) (by decide) (by decide) dL_undo_7 (fun H locs hP hD hS => ?_)
  have hP : va_P E.1 vwCl (List.flatten [w_VBR a o x.2.2.2.1 x.2.2.2.2.1 x.2.2.2.2.2, w_ValleyR a (o + 1), w_Key E a (o + 2) (q1.2.1, q1.2.2.1, q1.2.2.2.1), w_Bells E a (o + 3) (q1.2.2.2.2.1, q1.2.2.2.2.2.1, q1.2.2.2.2.2.2.1), w_Mel E a (o + 6) (q1.2.2.2.2.2.2.2.1, q1.2.2.2.2.2.2.2.2.1, q1.2.2.2.2.2.2.2.2.2.1), w_Cliffs E a (o + 10) (q1.2.2.2.2.2.2.2.2.2.2.1, q1.2.2.2.2.2.2.2.2.2.2.2.1, q1.2.2.2.2.2.2.2.2.2.2.2.2.1), w_ValleyR a (o + 13), w_Key E a (o + 14) x.1.2.1.1, w_Bells E a (o + 15) x.1.2.1.2.1, w_Mel E a (o + 18) x.1.2.1.2.2.1, w_Cliffs E a (o + 22) x.1.2.1.2.2.2, w_Prog E a (o + 25) x.1.2.2.2.1, w_Chord E a (o + 31) x.1.2.2.2.2, w_Key E a (o + 34) x.2.1, w_Line E a (o + 35) x.2.2.1, w_Hist E a (o + 37) (x.1.2.2.1.1, q1.2.2.2.2.2.2.2.2.2.2.2.2.2.1, q1.2.2.2.2.2.2.2.2.2.2.2.2.2.2), w_LongArr E ay oy (vp_updL y 0 (r2.toInt64))]) H := hP
  have hD : va_D A (List.flatten [w_VBR a o x.2.2.2.1 x.2.2.2.2.1 x.2.2.2.2.2, w_ValleyR a (o + 1), w_Key E a (o + 2) (q1.2.1, q1.2.2.1, q1.2.2.2.1), w_Bells E a (o + 3) (q1.2.2.2.2.1, q1.2.2.2.2.2.1, q1.2.2.2.2.2.2.1), w_Mel E a (o + 6) (q1.2.2.2.2.2.2.2.1, q1.2.2.2.2.2.2.2.2.1, q1.2.2.2.2.2.2.2.2.2.1), w_Cliffs E a (o + 10) (q1.2.2.2.2.2.2.2.2.2.2.1, q1.2.2.2.2.2.2.2.2.2.2.2.1, q1.2.2.2.2.2.2.2.2.2.2.2.2.1), w_ValleyR a (o + 13), w_Key E a (o + 14) x.1.2.1.1, w_Bells E a (o + 15) x.1.2.1.2.1, w_Mel E a (o + 18) x.1.2.1.2.2.1, w_Cliffs E a (o + 22) x.1.2.1.2.2.2, w_Prog E a (o + 25) x.1.2.2.2.1, w_Chord E a (o + 31) x.1.2.2.2.2, w_Key E a (o + 34) x.2.1, w_Line E a (o + 35) x.2.2.1, w_Hist E a (o + 37) (x.1.2.2.1.1, q1.2.2.2.2.2.2.2.2.2.2.2.2.2.1, q1.2.2.2.2.2.2.2.2.2.2.2.2.2.2), w_LongArr E ay oy (vp_updL y 0 (r2.toInt64))]) := hD
  refine lv_goto (tgt := 14) hx hb dL_undo_8 (by decide) ?_
  refine lv_iconst (v := 0) hx hb dL_undo_14 (by decide) ?_
  obtain rfl := Option.some.inj hF
  exact en_i hQ (Nat.le_of_ble_eq_true rfl) (Nat.le_of_ble_eq_true rfl) hx hb hr hlocks hP hD hS rfl dL_undo_15

/-! L_restore -/
theorem dL_restore_0 : decode cL_restore 0 = .ok (.aload_n 0, 1) := by decide +kernel
theorem dL_restore_1 : decode cL_restore 1 = .ok (.invokevirtual 147, 3) := by decide +kernel
theorem dL_restore_4 : decode cL_restore 4 = .ok (.goto 6, 3) := by decide +kernel
theorem dL_restore_7 : decode cL_restore 7 = .ok (.astore_n 1, 1) := by decide +kernel
theorem dL_restore_8 : decode cL_restore 8 = .ok (.iconst 1, 1) := by decide +kernel
theorem dL_restore_9 : decode cL_restore 9 = .ok (.ireturn, 1) := by decide +kernel
theorem dL_restore_10 : decode cL_restore 10 = .ok (.iconst 0, 1) := by decide +kernel
theorem dL_restore_11 : decode cL_restore 11 = .ok (.ireturn, 1) := by decide +kernel
def f_L_restore (x_valley_key_tonic : Int32) (x_valley_key_isMinor : Int32) (x_valley_key_tolerance : Int32) (x_valley_bells_herds : (Nat → Int32)) (x_valley_bells_pitches : (Nat → Int32)) (x_valley_bells_count : Int32) (x_valley_melodies_lengths : (Nat → Int32)) (x_valley_melodies_entries : (Nat → Int32)) (x_valley_melodies_tones : (Nat → Int32)) (x_valley_cliffs_delays : (Nat → Int32)) (x_valley_cliffs_transpositions : (Nat → Int32)) (x_valley_cliffs_count : Int32) (x_saved_key_tonic : Int32) (x_saved_key_isMinor : Int32) (x_saved_key_tolerance : Int32) (x_saved_bells_herds : (Nat → Int32)) (x_saved_bells_pitches : (Nat → Int32)) (x_saved_bells_count : Int32) (x_saved_melodies_lengths : (Nat → Int32)) (x_saved_melodies_entries : (Nat → Int32)) (x_saved_melodies_tones : (Nat → Int32)) (x_saved_cliffs_delays : (Nat → Int32)) (x_saved_cliffs_transpositions : (Nat → Int32)) (x_saved_cliffs_count : Int32) (x_history_count : Int32) (x_isSaved : Int32) : Option (Int32 × Int32 × Int32 × Int32 × (Nat → Int32) × (Nat → Int32) × Int32 × (Nat → Int32) × (Nat → Int32) × (Nat → Int32) × (Nat → Int32) × (Nat → Int32) × Int32 × Int32) :=
  q_bd (f_X10_restore x_valley_key_tonic x_valley_key_isMinor x_valley_key_tolerance x_valley_bells_herds x_valley_bells_pitches x_valley_bells_count x_valley_melodies_lengths x_valley_melodies_entries x_valley_melodies_tones x_valley_cliffs_delays x_valley_cliffs_transpositions x_valley_cliffs_count x_saved_key_tonic x_saved_key_isMinor x_saved_key_tolerance x_saved_bells_herds x_saved_bells_pitches x_saved_bells_count x_saved_melodies_lengths x_saved_melodies_entries x_saved_melodies_tones x_saved_cliffs_delays x_saved_cliffs_transpositions x_saved_cliffs_count x_history_count x_isSaved) (fun q1 =>
  q_sm q1.1 (fun X => q_br (X = "java/lang/IllegalStateException") (
  some (1, q1.2.1, q1.2.2.1, q1.2.2.2.1, q1.2.2.2.2.1, q1.2.2.2.2.2.1, q1.2.2.2.2.2.2.1, q1.2.2.2.2.2.2.2.1, q1.2.2.2.2.2.2.2.2.1, q1.2.2.2.2.2.2.2.2.2.1, q1.2.2.2.2.2.2.2.2.2.2.1, q1.2.2.2.2.2.2.2.2.2.2.2.1, q1.2.2.2.2.2.2.2.2.2.2.2.2.1, q1.2.2.2.2.2.2.2.2.2.2.2.2.2)) (
  none)) (fun r2 =>
  some (0, q1.2.1, q1.2.2.1, q1.2.2.2.1, q1.2.2.2.2.1, q1.2.2.2.2.2.1, q1.2.2.2.2.2.2.1, q1.2.2.2.2.2.2.2.1, q1.2.2.2.2.2.2.2.2.1, q1.2.2.2.2.2.2.2.2.2.1, q1.2.2.2.2.2.2.2.2.2.2.1, q1.2.2.2.2.2.2.2.2.2.2.2.1, q1.2.2.2.2.2.2.2.2.2.2.2.2.1, q1.2.2.2.2.2.2.2.2.2.2.2.2.2)))
theorem hv_L_restore : yL_restore.cls = RL ∧ yL_restore.cls ≠ "java/lang/invoke/MethodHandle" ∧ yL_restore.cls ≠ "java/lang/invoke/VarHandle" ∧ (parseMethodDescriptor yL_restore.desc).map (fun d => d.parameters.length) = some 1 := by decide +kernel
abbrev rm_L_restore : Room := { frames := 7, cells := 1, slots := 6, locals := 122 }
set_option maxHeartbeats 4000000 in
set_option maxRecDepth 100000 in
theorem k_L_restore (l : Launch) (E : ET) (a : Nat → Nat) (o : Nat) (x : VB_t) (res : Int32 × Int32 × Int32 × Int32 × (Nat → Int32) × (Nat → Int32) × Int32 × (Nat → Int32) × (Nat → Int32) × (Nat → Int32) × (Nat → Int32) × (Nat → Int32) × Int32 × Int32) (hF : f_L_restore x.1.1.1.1 x.1.1.1.2.1 x.1.1.1.2.2 x.1.1.2.1.1 x.1.1.2.1.2.1 x.1.1.2.1.2.2 x.1.1.2.2.1.1 x.1.1.2.2.1.2.1 x.1.1.2.2.1.2.2 x.1.1.2.2.2.1 x.1.1.2.2.2.2.1 x.1.1.2.2.2.2.2 x.1.2.1.1.1 x.1.2.1.1.2.1 x.1.2.1.1.2.2 x.1.2.1.2.1.1 x.1.2.1.2.1.2.1 x.1.2.1.2.1.2.2 x.1.2.1.2.2.1.1 x.1.2.1.2.2.1.2.1 x.1.2.1.2.2.1.2.2 x.1.2.1.2.2.2.1 x.1.2.1.2.2.2.2.1 x.1.2.1.2.2.2.2.2 x.1.2.2.1.2.2 x.2.2.2.1 = some res) (sz : Nat) (hlt : l.stackTraces = false) : CtI l yL_restore (mwsH yL_restore cL_restore 2 (some .int) [(0, 4, 7, 17)]) rm_L_restore 1 6 [.ref (a o)] E (bl_VB E a o x) res.1 (bl_VB E a o ((((res.2.1, res.2.2.1, res.2.2.2.1), (res.2.2.2.2.1, res.2.2.2.2.2.1, res.2.2.2.2.2.2.1), (res.2.2.2.2.2.2.2.1, res.2.2.2.2.2.2.2.2.1, res.2.2.2.2.2.2.2.2.2.1), (res.2.2.2.2.2.2.2.2.2.2.1, res.2.2.2.2.2.2.2.2.2.2.2.1, res.2.2.2.2.2.2.2.2.2.2.2.2.1)), x.1.2.1, (x.1.2.2.1.1, x.1.2.2.1.2.1, res.2.2.2.2.2.2.2.2.2.2.2.2.2), x.1.2.2.2.1, x.1.2.2.2.2), (x.2.1, x.2.2.1, x.2.2.2.1, x.2.2.2.2.1, x.2.2.2.2.2))) sz := by
  refine mk_H (by decide +kernel) (Nat.le_of_ble_eq_true rfl) ?_
  intro p e s m below meth c A args Q ls hAe hsz hQ hx hb hr hml hin ha hown hlocks hA hz hzs hst htab hP hD hS hl
  have hown : s.vm.findClass RL = some m.cls := hown
  rw [hAe] at hQ
  subst hsz
  have hP : va_P E.1 vwCl (List.flatten [w_VBR a o x.2.2.2.1 x.2.2.2.2.1 x.2.2.2.2.2, w_ValleyR a (o + 1), w_Key E a (o + 2) x.1.1.1, w_Bells E a (o + 3) x.1.1.2.1, w_Mel E a (o + 6) x.1.1.2.2.1, w_Cliffs E a (o + 10) x.1.1.2.2.2, w_ValleyR a (o + 13), w_Key E a (o + 14) x.1.2.1.1, w_Bells E a (o + 15) x.1.2.1.2.1, w_Mel E a (o + 18) x.1.2.1.2.2.1, w_Cliffs E a (o + 22) x.1.2.1.2.2.2, w_Prog E a (o + 25) x.1.2.2.2.1, w_Chord E a (o + 31) x.1.2.2.2.2, w_Key E a (o + 34) x.2.1, w_Line E a (o + 35) x.2.2.1, w_Hist E a (o + 37) x.1.2.2.1]) s.heap := hP
  have hD : va_D A (List.flatten [w_VBR a o x.2.2.2.1 x.2.2.2.2.1 x.2.2.2.2.2, w_ValleyR a (o + 1), w_Key E a (o + 2) x.1.1.1, w_Bells E a (o + 3) x.1.1.2.1, w_Mel E a (o + 6) x.1.1.2.2.1, w_Cliffs E a (o + 10) x.1.1.2.2.2, w_ValleyR a (o + 13), w_Key E a (o + 14) x.1.2.1.1, w_Bells E a (o + 15) x.1.2.1.2.1, w_Mel E a (o + 18) x.1.2.1.2.2.1, w_Cliffs E a (o + 22) x.1.2.1.2.2.2, w_Prog E a (o + 25) x.1.2.2.2.1, w_Chord E a (o + 31) x.1.2.2.2.2, w_Key E a (o + 34) x.2.1, w_Line E a (o + 35) x.2.2.1, w_Hist E a (o + 37) x.1.2.2.1]) := hD
  have hl : lv_has ls 2 [(0, .ref (a o))] := hl
  generalize hHe : s.heap = H at hP
  have hS : va_S A s.heap H [] := by rw [← hHe]; exact hS
  generalize ([] : List Loc) = locs at hS ⊢
  unfold f_L_restore at hF
  refine lv_aload_n hx hb dL_restore_0 rfl (lv_at hl 0 rfl) ?_
  obtain ⟨q1, hq1, hF⟩ := q_bdi hF
  refine cx_v (ro := q1.1) (Lc := [w_VBR a o x.2.2.2.1 x.2.2.2.2.1 x.2.2.2.2.2, w_ValleyR a (o + 1), w_Key E a (o + 2) x.1.1.1, w_Bells E a (o + 3) x.1.1.2.1, w_Mel E a (o + 6) x.1.1.2.2.1, w_Cliffs E a (o + 10) x.1.1.2.2.2, w_ValleyR a (o + 13), w_Key E a (o + 14) x.1.2.1.1, w_Bells E a (o + 15) x.1.2.1.2.1, w_Mel E a (o + 18) x.1.2.1.2.2.1, w_Cliffs E a (o + 22) x.1.2.1.2.2.2, w_Prog E a (o + 25) x.1.2.2.2.1, w_Chord E a (o + 31) x.1.2.2.2.2, w_Key E a (o + 34) x.2.1, w_Line E a (o + 35) x.2.2.1, w_Hist E a (o + 37) x.1.2.2.1]) (Lc' := [w_VBR a o x.2.2.2.1 x.2.2.2.2.1 x.2.2.2.2.2, w_ValleyR a (o + 1), w_Key E a (o + 2) (q1.2.1, q1.2.2.1, q1.2.2.2.1), w_Bells E a (o + 3) (q1.2.2.2.2.1, q1.2.2.2.2.2.1, q1.2.2.2.2.2.2.1), w_Mel E a (o + 6) (q1.2.2.2.2.2.2.2.1, q1.2.2.2.2.2.2.2.2.1, q1.2.2.2.2.2.2.2.2.2.1), w_Cliffs E a (o + 10) (q1.2.2.2.2.2.2.2.2.2.2.1, q1.2.2.2.2.2.2.2.2.2.2.2.1, q1.2.2.2.2.2.2.2.2.2.2.2.2.1), w_ValleyR a (o + 13), w_Key E a (o + 14) x.1.2.1.1, w_Bells E a (o + 15) x.1.2.1.2.1, w_Mel E a (o + 18) x.1.2.1.2.2.1, w_Cliffs E a (o + 22) x.1.2.1.2.2.2, w_Prog E a (o + 25) x.1.2.2.2.1, w_Chord E a (o + 31) x.1.2.2.2.2, w_Key E a (o + 34) x.2.1, w_Line E a (o + 35) x.2.2.1, w_Hist E a (o + 37) (x.1.2.2.1.1, x.1.2.2.1.2.1, q1.2.2.2.2.2.2.2.2.2.2.2.2.2)]) (L' := [w_VBR a o x.2.2.2.1 x.2.2.2.2.1 x.2.2.2.2.2, w_ValleyR a (o + 1), w_Key E a (o + 2) (q1.2.1, q1.2.2.1, q1.2.2.2.1), w_Bells E a (o + 3) (q1.2.2.2.2.1, q1.2.2.2.2.2.1, q1.2.2.2.2.2.2.1), w_Mel E a (o + 6) (q1.2.2.2.2.2.2.2.1, q1.2.2.2.2.2.2.2.2.1, q1.2.2.2.2.2.2.2.2.2.1), w_Cliffs E a (o + 10) (q1.2.2.2.2.2.2.2.2.2.2.1, q1.2.2.2.2.2.2.2.2.2.2.2.1, q1.2.2.2.2.2.2.2.2.2.2.2.2.1), w_ValleyR a (o + 13), w_Key E a (o + 14) x.1.2.1.1, w_Bells E a (o + 15) x.1.2.1.2.1, w_Mel E a (o + 18) x.1.2.1.2.2.1, w_Cliffs E a (o + 22) x.1.2.1.2.2.2, w_Prog E a (o + 25) x.1.2.2.2.1, w_Chord E a (o + 31) x.1.2.2.2.2, w_Key E a (o + 34) x.2.1, w_Line E a (o + 35) x.2.2.1, w_Hist E a (o + 37) (x.1.2.2.1.1, x.1.2.2.1.2.1, q1.2.2.2.2.2.2.2.2.2.2.2.2.2)]) (vx_runV (As := []) (rest := []) ⟨hx, hb, hml, hown, ha⟩ (k_X10_restore l E a o x q1 hq1 H.size hlt) (cwV 0 ha (gi_V (fun _ h => h) mw1621 mw1622 mw1623 mw74 mw1624) rfl rfl rfl hv_X10_restore ⟨(Nat.le_of_ble_eq_true rfl), (Nat.le_of_ble_eq_true rfl)⟩) ⟨pre_blind, va_recv hst.k (fr_P hP [0, 1, 2, 3, 4, 5, 6, 7, 8, 9, 10, 11, 12, 13, 14, 15] rfl) (ci := 12) (q0 := 0) rfl rfl, pre_at hP hD hS hz hzs hst [0, 1, 2, 3, 4, 5, 6, 7, 8, 9, 10, 11, 12, 13, 14, 15] (by decide) rfl rfl⟩ rfl rfl hl.1 rfl (lv_room (Nat.le_of_ble_eq_true rfl)) dL_restore_1 ⟨(Nat.le_of_ble_eq_true rfl), (Nat.le_of_ble_eq_true rfl)⟩) hP hD hS hA [0, 1, 2, 3, 4, 5, 6, 7, 8, 9, 10, 11, 12, 13, 14, 15] (by decide) rfl rfl rfl rfl (fun X ce q9 H locs eX h1 h2 h3 hP hD hS => ?_) (fun r2 H locs er2 hP hD hS => ?_)
  · have hF := q_smr eX hF
    by_cases w1_0 : X = "java/lang/IllegalStateException"
    · have hF := q_brp w1_0 hF
      subst w1_0
      refine vx_catch (E := "java/lang/IllegalStateException") (name := "java/lang/IllegalStateException") hown [] ⟨0, 4, 7, 17⟩ [] htab (fun _ h => nomatch h) (by decide) (by decide) (ha _ mw964) (va_Nw.use rfl (hst.cs cs_IllegalStateException)) h1 h2 h3 ?_
      refine lv_astore_n (lv' := [(1, .ref q9), (0, .ref (a o))]) hx hb dL_restore_7 rfl hl (by decide) rfl (fun ls hl => ?_)
      refine lv_iconst (v := 1) hx hb dL_restore_8 (by decide) ?_
      obtain rfl := Option.some.inj hF
      exact en_i hQ (Nat.le_of_ble_eq_true rfl) (Nat.le_of_ble_eq_true rfl) hx hb hr hlocks hP hD hS rfl dL_restore_9
    have hF := q_brn w1_0 hF
    exact absurd hF (by simp)
  have hF := q_sml er2 hF
  refine lv_goto (tgt := 10) hx hb dL_restore_4 (by decide) ?_
  refine lv_iconst (v := 0) hx hb dL_restore_10 (by decide) ?_
  obtain rfl := Option.some.inj hF
  exact en_i hQ (Nat.le_of_ble_eq_true rfl) (Nat.le_of_ble_eq_true rfl) hx hb hr hlocks hP hD hS rfl dL_restore_11
