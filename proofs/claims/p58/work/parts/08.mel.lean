/-! X7_copyFrom -/
theorem dX7_copyFrom_0 : decode cX7_copyFrom 0 = .ok (.aload_n 1, 1) := by decide +kernel
theorem dX7_copyFrom_1 : decode cX7_copyFrom 1 = .ok (.getfield 9, 3) := by decide +kernel
theorem dX7_copyFrom_4 : decode cX7_copyFrom 4 = .ok (.iconst 0, 1) := by decide +kernel
theorem dX7_copyFrom_5 : decode cX7_copyFrom 5 = .ok (.aload_n 0, 1) := by decide +kernel
theorem dX7_copyFrom_6 : decode cX7_copyFrom 6 = .ok (.getfield 9, 3) := by decide +kernel
theorem dX7_copyFrom_9 : decode cX7_copyFrom 9 = .ok (.iconst 0, 1) := by decide +kernel
theorem dX7_copyFrom_10 : decode cX7_copyFrom 10 = .ok (.iconst 4, 1) := by decide +kernel
theorem dX7_copyFrom_11 : decode cX7_copyFrom 11 = .ok (.invokestatic 21, 3) := by decide +kernel
theorem dX7_copyFrom_14 : decode cX7_copyFrom 14 = .ok (.aload_n 1, 1) := by decide +kernel
theorem dX7_copyFrom_15 : decode cX7_copyFrom 15 = .ok (.getfield 15, 3) := by decide +kernel
theorem dX7_copyFrom_18 : decode cX7_copyFrom 18 = .ok (.iconst 0, 1) := by decide +kernel
theorem dX7_copyFrom_19 : decode cX7_copyFrom 19 = .ok (.aload_n 0, 1) := by decide +kernel
theorem dX7_copyFrom_20 : decode cX7_copyFrom 20 = .ok (.getfield 15, 3) := by decide +kernel
theorem dX7_copyFrom_23 : decode cX7_copyFrom 23 = .ok (.iconst 0, 1) := by decide +kernel
theorem dX7_copyFrom_24 : decode cX7_copyFrom 24 = .ok (.iconst 4, 1) := by decide +kernel
theorem dX7_copyFrom_25 : decode cX7_copyFrom 25 = .ok (.invokestatic 21, 3) := by decide +kernel
theorem dX7_copyFrom_28 : decode cX7_copyFrom 28 = .ok (.aload_n 1, 1) := by decide +kernel
theorem dX7_copyFrom_29 : decode cX7_copyFrom 29 = .ok (.getfield 18, 3) := by decide +kernel
theorem dX7_copyFrom_32 : decode cX7_copyFrom 32 = .ok (.iconst 0, 1) := by decide +kernel
theorem dX7_copyFrom_33 : decode cX7_copyFrom 33 = .ok (.aload_n 0, 1) := by decide +kernel
theorem dX7_copyFrom_34 : decode cX7_copyFrom 34 = .ok (.getfield 18, 3) := by decide +kernel
theorem dX7_copyFrom_37 : decode cX7_copyFrom 37 = .ok (.iconst 0, 1) := by decide +kernel
theorem dX7_copyFrom_38 : decode cX7_copyFrom 38 = .ok (.bipush 32, 2) := by decide +kernel
theorem dX7_copyFrom_40 : decode cX7_copyFrom 40 = .ok (.invokestatic 21, 3) := by decide +kernel
theorem dX7_copyFrom_43 : decode cX7_copyFrom 43 = .ok (.return_, 1) := by decide +kernel
def f_X7_copyFrom (x_lengths : (Nat → Int32)) (x_entries : (Nat → Int32)) (x_tones : (Nat → Int32)) (y_lengths : (Nat → Int32)) (y_entries : (Nat → Int32)) (y_tones : (Nat → Int32)) : Option ((Nat → Int32) × (Nat → Int32) × (Nat → Int32)) :=
  some (va_cpy y_lengths x_lengths 0 0 4, va_cpy y_entries x_entries 0 0 4, va_cpy y_tones x_tones 0 0 32)
theorem hv_X7_copyFrom : yX7_copyFrom.cls = RX7 ∧ yX7_copyFrom.cls ≠ "java/lang/invoke/MethodHandle" ∧ yX7_copyFrom.cls ≠ "java/lang/invoke/VarHandle" ∧ (parseMethodDescriptor yX7_copyFrom.desc).map (fun d => d.parameters.length) = some 1 := by decide +kernel
abbrev rm_X7_copyFrom : Room := { frames := 1, cells := 0, slots := 0, locals := 60 }
set_option maxHeartbeats 4000000 in
set_option maxRecDepth 100000 in
theorem k_X7_copyFrom (l : Launch) (E : ET) (a : Nat → Nat) (o : Nat) (x : Mel_t) (ay : Nat → Nat) (oy : Nat) (y : Mel_t) (res : (Nat → Int32) × (Nat → Int32) × (Nat → Int32)) (hF : f_X7_copyFrom x.1 x.2.1 x.2.2 y.1 y.2.1 y.2.2 = some res) (sz : Nat) : CtV l yX7_copyFrom (mws yX7_copyFrom cX7_copyFrom 2 none) rm_X7_copyFrom 0 0 [.ref (a o), .ref (ay oy)] E (bl_Mel E a o x ++ bl_Mel E ay oy y) (bl_Mel E a o (res.1, res.2.1, res.2.2) ++ bl_Mel E ay oy y) sz := by
  refine mk_M (by decide +kernel) (Nat.le_of_ble_eq_true rfl) ?_
  intro p e s m below meth c A args Q ls hAe hsz hQ hx hb hr hml hin ha hown hlocks hA hz hzs hst hP hD hS hl
  have hown : s.vm.findClass RX7 = some m.cls := hown
  rw [hAe] at hQ
  subst hsz
  have hP : va_P E.1 vwCl (List.flatten [w_Mel E a o x, w_Mel E ay oy y]) s.heap := hP
  have hD : va_D A (List.flatten [w_Mel E a o x, w_Mel E ay oy y]) := hD
  have hl : lv_has ls 2 [(0, .ref (a o)), (1, .ref (ay oy))] := hl
  generalize hHe : s.heap = H at hP
  have hS : va_S A s.heap H [] := by rw [← hHe]; exact hS
  generalize ([] : List Loc) = locs at hS ⊢
  unfold f_X7_copyFrom at hF
  refine lv_aload_n hx hb dX7_copyFrom_0 rfl (lv_at hl 1 rfl) ?_
  refine va_get (D := E.1) (ci := 8) (v := .ref (ay (oy + 1))) (C := RX7) (T := TX7) (N := 3) hx hb ha in_X7 hown hst.k hP 4 rfl rfl 0 (by decide) (ha _ mw115) (fun _ h9 => h9) rfl dX7_copyFrom_1 ?_
  refine lv_iconst (v := 0) hx hb dX7_copyFrom_4 (by decide) ?_
  refine lv_aload_n hx hb dX7_copyFrom_5 rfl (lv_at hl 0 rfl) ?_
  refine va_get (D := E.1) (ci := 8) (v := .ref (a (o + 1))) (C := RX7) (T := TX7) (N := 3) hx hb ha in_X7 hown hst.k hP 0 rfl rfl 0 (by decide) (ha _ mw115) (fun _ h9 => h9) rfl dX7_copyFrom_6 ?_
  refine lv_iconst (v := 0) hx hb dX7_copyFrom_9 (by decide) ?_
  refine lv_iconst (v := 4) hx hb dX7_copyFrom_10 (by decide) ?_
  refine vi_copy hx hb (hml.trans hl.1.symm) hown (ha _ mw348) (ha _ mw343) (ha _ mw342) (ha _ mw46) hst.k hP hD hS 5 1 0 rfl rfl rfl rfl (k0 := 0) (k1 := 0) (kn := 4) (by decide) (by decide) (by decide) (by decide) (by decide) (by decide) (by decide) (by decide) (fun _ _ => rfl) (Nat.le_of_ble_eq_true rfl) (Nat.le_of_ble_eq_true rfl) dX7_copyFrom_11 (fun H locs hP hD hS => ?_)
  have hP : va_P E.1 vwCl (List.flatten [w_Mel E a o (va_cpy y.1 x.1 0 0 4, x.2.1, x.2.2), w_Mel E ay oy y]) H := hP
  have hD : va_D A (List.flatten [w_Mel E a o (va_cpy y.1 x.1 0 0 4, x.2.1, x.2.2), w_Mel E ay oy y]) := hD
  refine lv_aload_n hx hb dX7_copyFrom_14 rfl (lv_at hl 1 rfl) ?_
  refine va_get (D := E.1) (ci := 8) (v := .ref (ay (oy + 2))) (C := RX7) (T := TX7) (N := 3) hx hb ha in_X7 hown hst.k hP 4 rfl rfl 1 (by decide) (ha _ mw118) (fun _ h9 => h9) rfl dX7_copyFrom_15 ?_
  refine lv_iconst (v := 0) hx hb dX7_copyFrom_18 (by decide) ?_
  refine lv_aload_n hx hb dX7_copyFrom_19 rfl (lv_at hl 0 rfl) ?_
  refine va_get (D := E.1) (ci := 8) (v := .ref (a (o + 2))) (C := RX7) (T := TX7) (N := 3) hx hb ha in_X7 hown hst.k hP 0 rfl rfl 1 (by decide) (ha _ mw118) (fun _ h9 => h9) rfl dX7_copyFrom_20 ?_
  refine lv_iconst (v := 0) hx hb dX7_copyFrom_23 (by decide) ?_
  refine lv_iconst (v := 4) hx hb dX7_copyFrom_24 (by decide) ?_
  refine vi_copy hx hb (hml.trans hl.1.symm) hown (ha _ mw348) (ha _ mw343) (ha _ mw342) (ha _ mw46) hst.k hP hD hS 6 2 0 rfl rfl rfl rfl (k0 := 0) (k1 := 0) (kn := 4) (by decide) (by decide) (by decide) (by decide) (by decide) (by decide) (by decide) (by decide) (fun _ _ => rfl) (Nat.le_of_ble_eq_true rfl) (Nat.le_of_ble_eq_true rfl) dX7_copyFrom_25 (fun H locs hP hD hS => ?_)
  have hP : va_P E.1 vwCl (List.flatten [w_Mel E a o (va_cpy y.1 x.1 0 0 4, va_cpy y.2.1 x.2.1 0 0 4, x.2.2), w_Mel E ay oy y]) H := hP
  have hD : va_D A (List.flatten [w_Mel E a o (va_cpy y.1 x.1 0 0 4, va_cpy y.2.1 x.2.1 0 0 4, x.2.2), w_Mel E ay oy y]) := hD
  refine lv_aload_n hx hb dX7_copyFrom_28 rfl (lv_at hl 1 rfl) ?_
  refine va_get (D := E.1) (ci := 8) (v := .ref (ay (oy + 3))) (C := RX7) (T := TX7) (N := 3) hx hb ha in_X7 hown hst.k hP 4 rfl rfl 2 (by decide) (ha _ mw120) (fun _ h9 => h9) rfl dX7_copyFrom_29 ?_
  refine lv_iconst (v := 0) hx hb dX7_copyFrom_32 (by decide) ?_
  refine lv_aload_n hx hb dX7_copyFrom_33 rfl (lv_at hl 0 rfl) ?_
  refine va_get (D := E.1) (ci := 8) (v := .ref (a (o + 3))) (C := RX7) (T := TX7) (N := 3) hx hb ha in_X7 hown hst.k hP 0 rfl rfl 2 (by decide) (ha _ mw120) (fun _ h9 => h9) rfl dX7_copyFrom_34 ?_
  refine lv_iconst (v := 0) hx hb dX7_copyFrom_37 (by decide) ?_
  refine lv_bipush (v := 32) hx hb dX7_copyFrom_38 (by decide) ?_
  refine vi_copy hx hb (hml.trans hl.1.symm) hown (ha _ mw348) (ha _ mw343) (ha _ mw342) (ha _ mw46) hst.k hP hD hS 7 3 0 rfl rfl rfl rfl (k0 := 0) (k1 := 0) (kn := 32) (by decide) (by decide) (by decide) (by decide) (by decide) (by decide) (by decide) (by decide) (fun _ _ => rfl) (Nat.le_of_ble_eq_true rfl) (Nat.le_of_ble_eq_true rfl) dX7_copyFrom_40 (fun H locs hP hD hS => ?_)
  have hP : va_P E.1 vwCl (List.flatten [w_Mel E a o (va_cpy y.1 x.1 0 0 4, va_cpy y.2.1 x.2.1 0 0 4, va_cpy y.2.2 x.2.2 0 0 32), w_Mel E ay oy y]) H := hP
  have hD : va_D A (List.flatten [w_Mel E a o (va_cpy y.1 x.1 0 0 4, va_cpy y.2.1 x.2.1 0 0 4, va_cpy y.2.2 x.2.2 0 0 32), w_Mel E ay oy y]) := hD
  obtain rfl := Option.some.inj hF
  exact en_v hQ (Nat.le_of_ble_eq_true rfl) (Nat.le_of_ble_eq_true rfl) hx hb hr hlocks hP hD hS dX7_copyFrom_43

/-! X7_has -/
theorem dX7_has_0 : decode cX7_has 0 = .ok (.iload_n 2, 1) := by decide +kernel
theorem dX7_has_1 : decode cX7_has 1 = .ok (.iconst 0, 1) := by decide +kernel
theorem dX7_has_2 : decode cX7_has 2 = .ok (.aload_n 0, 1) := by decide +kernel
theorem dX7_has_3 : decode cX7_has 3 = .ok (.getfield 9, 3) := by decide +kernel
theorem dX7_has_6 : decode cX7_has 6 = .ok (.iload_n 1, 1) := by decide +kernel
theorem dX7_has_7 : decode cX7_has 7 = .ok (.iaload, 1) := by decide +kernel
theorem dX7_has_8 : decode cX7_has 8 = .ok (.iconst 1, 1) := by decide +kernel
theorem dX7_has_9 : decode cX7_has 9 = .ok (.isub, 1) := by decide +kernel
theorem dX7_has_10 : decode cX7_has 10 = .ok (.invokestatic 27, 3) := by decide +kernel
theorem dX7_has_13 : decode cX7_has 13 = .ok (.ireturn, 1) := by decide +kernel
def f_X7_has (x_lengths : (Nat → Int32)) (p1 : Int32) (p2 : Int32) : Option (Int32) :=
  q_gd (q_in p1 4) (
  q_bd (f_X10_isWithin p2 0 ((x_lengths (p1.toNatClampNeg)) - 1)) (fun q2 =>
  q_gd (q2 = 0 ∨ q2 = 1) (
  some q2)))
theorem hv_X7_has : yX7_has.cls = RX7 ∧ yX7_has.cls ≠ "java/lang/invoke/MethodHandle" ∧ yX7_has.cls ≠ "java/lang/invoke/VarHandle" ∧ (parseMethodDescriptor yX7_has.desc).map (fun d => d.parameters.length) = some 2 := by decide +kernel
abbrev rm_X7_has : Room := { frames := 1, cells := 0, slots := 0, locals := 22 }
set_option maxHeartbeats 4000000 in
set_option maxRecDepth 100000 in
theorem k_X7_has (l : Launch) (E : ET) (a : Nat → Nat) (o : Nat) (x : Mel_t) (p1 : Int32) (p2 : Int32) (res : Int32) (hF : f_X7_has x.1 p1 p2 = some res) (sz : Nat) : CtI l yX7_has (mws yX7_has cX7_has 3 (some .boolean)) rm_X7_has 0 0 [.ref (a o), .int p1, .int p2] E (bl_Mel E a o x) res (bl_Mel E a o x) sz := by
  refine mk_M (by decide +kernel) (Nat.le_of_ble_eq_true rfl) ?_
  intro p e s m below meth c A args Q ls hAe hsz hQ hx hb hr hml hin ha hown hlocks hA hz hzs hst hP hD hS hl
  have hown : s.vm.findClass RX7 = some m.cls := hown
  rw [hAe] at hQ
  subst hsz
  have hP : va_P E.1 vwCl (List.flatten [w_Mel E a o x]) s.heap := hP
  have hD : va_D A (List.flatten [w_Mel E a o x]) := hD
  have hl : lv_has ls 3 [(0, .ref (a o)), (1, .int p1), (2, .int p2)] := hl
  generalize hHe : s.heap = H at hP
  have hS : va_S A s.heap H [] := by rw [← hHe]; exact hS
  generalize ([] : List Loc) = locs at hS ⊢
  unfold f_X7_has at hF
  refine lv_iload_n hx hb dX7_has_0 rfl (lv_at hl 2 rfl) ?_
  refine lv_iconst (v := 0) hx hb dX7_has_1 (by decide) ?_
  refine lv_aload_n hx hb dX7_has_2 rfl (lv_at hl 0 rfl) ?_
  refine va_get (D := E.1) (ci := 8) (v := .ref (a (o + 1))) (C := RX7) (T := TX7) (N := 3) hx hb ha in_X7 hown hst.k hP 0 rfl rfl 0 (by decide) (ha _ mw115) (fun _ h9 => h9) rfl dX7_has_3 ?_
  refine lv_iload_n hx hb dX7_has_6 rfl (lv_at hl 1 rfl) ?_
  obtain ⟨g1, hF⟩ := q_gdi hF
  refine vi_iald hx hb hst.k hP 1 0 rfl rfl (f := x.1) (k := p1.toNatClampNeg) rfl g1 dX7_has_7 ?_
  refine lv_iconst (v := 1) hx hb dX7_has_8 (by decide) ?_
  refine lv_isub hx hb dX7_has_9 ?_
  obtain ⟨q2, hq2, hF⟩ := q_bdi hF
  refine cl_i (Lc := []) (Lc' := []) (L' := [w_Mel E a o x]) (rv := q2) (va_runSN (As := [.int p2, .int 0, .int ((x.1 (p1.toNatClampNeg)) - 1)]) (rest := []) ⟨hx, hb, hml, hown, ha⟩ (k_X10_isWithin l E p2 0 ((x.1 (p1.toNatClampNeg)) - 1) q2 hq2 H.size) ⟨va_cnB 3 ha (gi_B (fun _ h => h) mw375) rfl rfl rfl (nm16 hst) (ha _ mw26) hv_X10_isWithin.2 ⟨(Nat.le_of_ble_eq_true rfl), (Nat.le_of_ble_eq_true rfl)⟩, (ha _ mw374), trivial⟩ ⟨pre_blind, pre_at hP hD hS hz hzs hst [] (by decide) rfl rfl⟩ rfl rfl hl.1 rfl (lv_room (Nat.le_of_ble_eq_true rfl)) dX7_has_10 ⟨(Nat.le_of_ble_eq_true rfl), (Nat.le_of_ble_eq_true rfl)⟩) hP hD hS hA [] (by decide) rfl rfl rfl rfl (fun H locs hP hD hS => ?_)
  obtain ⟨g3, hF⟩ := q_gdi hF
  obtain rfl := Option.some.inj hF
  exact en_z hQ (Nat.le_of_ble_eq_true rfl) (Nat.le_of_ble_eq_true rfl) hx hb hr hlocks (nz_b g3) hP hD hS rfl dX7_has_13

/-! X7_bellOf -/
theorem dX7_bellOf_0 : decode cX7_bellOf 0 = .ok (.aload_n 0, 1) := by decide +kernel
theorem dX7_bellOf_1 : decode cX7_bellOf 1 = .ok (.getfield 18, 3) := by decide +kernel
theorem dX7_bellOf_4 : decode cX7_bellOf 4 = .ok (.iload_n 1, 1) := by decide +kernel
theorem dX7_bellOf_5 : decode cX7_bellOf 5 = .ok (.bipush 8, 2) := by decide +kernel
theorem dX7_bellOf_7 : decode cX7_bellOf 7 = .ok (.imul, 1) := by decide +kernel
theorem dX7_bellOf_8 : decode cX7_bellOf 8 = .ok (.iload_n 2, 1) := by decide +kernel
theorem dX7_bellOf_9 : decode cX7_bellOf 9 = .ok (.iadd, 1) := by decide +kernel
theorem dX7_bellOf_10 : decode cX7_bellOf 10 = .ok (.iaload, 1) := by decide +kernel
theorem dX7_bellOf_11 : decode cX7_bellOf 11 = .ok (.ireturn, 1) := by decide +kernel
def f_X7_bellOf (x_tones : (Nat → Int32)) (p1 : Int32) (p2 : Int32) : Option (Int32) :=
  q_gd (q_in ((p1 * 8) + p2) 32) (
  some (x_tones (((p1 * 8) + p2).toNatClampNeg)))
theorem hv_X7_bellOf : yX7_bellOf.cls = RX7 ∧ yX7_bellOf.cls ≠ "java/lang/invoke/MethodHandle" ∧ yX7_bellOf.cls ≠ "java/lang/invoke/VarHandle" ∧ (parseMethodDescriptor yX7_bellOf.desc).map (fun d => d.parameters.length) = some 2 := by decide +kernel
abbrev rm_X7_bellOf : Room := { frames := 0, cells := 0, slots := 0, locals := 0 }
set_option maxHeartbeats 4000000 in
set_option maxRecDepth 100000 in
theorem k_X7_bellOf (l : Launch) (E : ET) (a : Nat → Nat) (o : Nat) (x : Mel_t) (p1 : Int32) (p2 : Int32) (res : Int32) (hF : f_X7_bellOf x.2.2 p1 p2 = some res) (sz : Nat) : CtI l yX7_bellOf (mws yX7_bellOf cX7_bellOf 3 (some .int)) rm_X7_bellOf 0 0 [.ref (a o), .int p1, .int p2] E (bl_Mel E a o x) res (bl_Mel E a o x) sz := by
  refine mk_M (by decide +kernel) (Nat.le_of_ble_eq_true rfl) ?_
  intro p e s m below meth c A args Q ls hAe hsz hQ hx hb hr hml hin ha hown hlocks hA hz hzs hst hP hD hS hl
  have hown : s.vm.findClass RX7 = some m.cls := hown
  rw [hAe] at hQ
  subst hsz
  have hP : va_P E.1 vwCl (List.flatten [w_Mel E a o x]) s.heap := hP
  have hD : va_D A (List.flatten [w_Mel E a o x]) := hD
  have hl : lv_has ls 3 [(0, .ref (a o)), (1, .int p1), (2, .int p2)] := hl
  generalize hHe : s.heap = H at hP
  have hS : va_S A s.heap H [] := by rw [← hHe]; exact hS
  generalize ([] : List Loc) = locs at hS ⊢
  unfold f_X7_bellOf at hF
  refine lv_aload_n hx hb dX7_bellOf_0 rfl (lv_at hl 0 rfl) ?_
  refine va_get (D := E.1) (ci := 8) (v := .ref (a (o + 3))) (C := RX7) (T := TX7) (N := 3) hx hb ha in_X7 hown hst.k hP 0 rfl rfl 2 (by decide) (ha _ mw120) (fun _ h9 => h9) rfl dX7_bellOf_1 ?_
  refine lv_iload_n hx hb dX7_bellOf_4 rfl (lv_at hl 1 rfl) ?_
  refine lv_bipush (v := 8) hx hb dX7_bellOf_5 (by decide) ?_
  refine lv_imul hx hb dX7_bellOf_7 ?_
  refine lv_iload_n hx hb dX7_bellOf_8 rfl (lv_at hl 2 rfl) ?_
  refine lv_iadd hx hb dX7_bellOf_9 ?_
  obtain ⟨g1, hF⟩ := q_gdi hF
  refine vi_iald hx hb hst.k hP 3 0 rfl rfl (f := x.2.2) (k := ((p1 * 8) + p2).toNatClampNeg) rfl g1 dX7_bellOf_10 ?_
  obtain rfl := Option.some.inj hF
  exact en_i hQ (Nat.le_of_ble_eq_true rfl) (Nat.le_of_ble_eq_true rfl) hx hb hr hlocks hP hD hS rfl dX7_bellOf_11

/-! X7_lengthen -/
theorem dX7_lengthen_0 : decode cX7_lengthen 0 = .ok (.iload_n 1, 1) := by decide +kernel
theorem dX7_lengthen_1 : decode cX7_lengthen 1 = .ok (.invokestatic 31, 3) := by decide +kernel
theorem dX7_lengthen_4 : decode cX7_lengthen 4 = .ok (.ifCond .eq 11, 3) := by decide +kernel
theorem dX7_lengthen_7 : decode cX7_lengthen 7 = .ok (.aload_n 3, 1) := by decide +kernel
theorem dX7_lengthen_8 : decode cX7_lengthen 8 = .ok (.iload_n 2, 1) := by decide +kernel
theorem dX7_lengthen_9 : decode cX7_lengthen 9 = .ok (.invokevirtual 35, 3) := by decide +kernel
theorem dX7_lengthen_12 : decode cX7_lengthen 12 = .ok (.ifCond .ne 5, 3) := by decide +kernel
theorem dX7_lengthen_15 : decode cX7_lengthen 15 = .ok (.iconst (-1), 1) := by decide +kernel
theorem dX7_lengthen_16 : decode cX7_lengthen 16 = .ok (.ireturn, 1) := by decide +kernel
theorem dX7_lengthen_17 : decode cX7_lengthen 17 = .ok (.aload_n 0, 1) := by decide +kernel
theorem dX7_lengthen_18 : decode cX7_lengthen 18 = .ok (.getfield 9, 3) := by decide +kernel
theorem dX7_lengthen_21 : decode cX7_lengthen 21 = .ok (.iload_n 1, 1) := by decide +kernel
theorem dX7_lengthen_22 : decode cX7_lengthen 22 = .ok (.iaload, 1) := by decide +kernel
theorem dX7_lengthen_23 : decode cX7_lengthen 23 = .ok (.bipush 8, 2) := by decide +kernel
theorem dX7_lengthen_25 : decode cX7_lengthen 25 = .ok (.if_icmp .lt 6, 3) := by decide +kernel
theorem dX7_lengthen_28 : decode cX7_lengthen 28 = .ok (.bipush (-3), 2) := by decide +kernel
theorem dX7_lengthen_30 : decode cX7_lengthen 30 = .ok (.ireturn, 1) := by decide +kernel
theorem dX7_lengthen_31 : decode cX7_lengthen 31 = .ok (.aload_n 0, 1) := by decide +kernel
theorem dX7_lengthen_32 : decode cX7_lengthen 32 = .ok (.getfield 18, 3) := by decide +kernel
theorem dX7_lengthen_35 : decode cX7_lengthen 35 = .ok (.iload_n 1, 1) := by decide +kernel
theorem dX7_lengthen_36 : decode cX7_lengthen 36 = .ok (.bipush 8, 2) := by decide +kernel
theorem dX7_lengthen_38 : decode cX7_lengthen 38 = .ok (.imul, 1) := by decide +kernel
theorem dX7_lengthen_39 : decode cX7_lengthen 39 = .ok (.aload_n 0, 1) := by decide +kernel
theorem dX7_lengthen_40 : decode cX7_lengthen 40 = .ok (.getfield 9, 3) := by decide +kernel
theorem dX7_lengthen_43 : decode cX7_lengthen 43 = .ok (.iload_n 1, 1) := by decide +kernel
theorem dX7_lengthen_44 : decode cX7_lengthen 44 = .ok (.iaload, 1) := by decide +kernel
theorem dX7_lengthen_45 : decode cX7_lengthen 45 = .ok (.iadd, 1) := by decide +kernel
theorem dX7_lengthen_46 : decode cX7_lengthen 46 = .ok (.iload_n 2, 1) := by decide +kernel
theorem dX7_lengthen_47 : decode cX7_lengthen 47 = .ok (.iastore, 1) := by decide +kernel
theorem dX7_lengthen_48 : decode cX7_lengthen 48 = .ok (.aload_n 0, 1) := by decide +kernel
theorem dX7_lengthen_49 : decode cX7_lengthen 49 = .ok (.getfield 9, 3) := by decide +kernel
theorem dX7_lengthen_52 : decode cX7_lengthen 52 = .ok (.iload_n 1, 1) := by decide +kernel
theorem dX7_lengthen_53 : decode cX7_lengthen 53 = .ok (.dup2, 1) := by decide +kernel
theorem dX7_lengthen_54 : decode cX7_lengthen 54 = .ok (.iaload, 1) := by decide +kernel
theorem dX7_lengthen_55 : decode cX7_lengthen 55 = .ok (.iconst 1, 1) := by decide +kernel
theorem dX7_lengthen_56 : decode cX7_lengthen 56 = .ok (.iadd, 1) := by decide +kernel
theorem dX7_lengthen_57 : decode cX7_lengthen 57 = .ok (.iastore, 1) := by decide +kernel
theorem dX7_lengthen_58 : decode cX7_lengthen 58 = .ok (.aload_n 0, 1) := by decide +kernel
theorem dX7_lengthen_59 : decode cX7_lengthen 59 = .ok (.getfield 9, 3) := by decide +kernel
theorem dX7_lengthen_62 : decode cX7_lengthen 62 = .ok (.iload_n 1, 1) := by decide +kernel
theorem dX7_lengthen_63 : decode cX7_lengthen 63 = .ok (.iaload, 1) := by decide +kernel
theorem dX7_lengthen_64 : decode cX7_lengthen 64 = .ok (.ireturn, 1) := by decide +kernel
def f_X7_lengthen (x_lengths : (Nat → Int32)) (x_tones : (Nat → Int32)) (y_count : Int32) (p1 : Int32) (p2 : Int32) : Option (Int32 × (Nat → Int32) × (Nat → Int32)) :=
  q_bd (f_X10_isHerd p1) (fun q1 =>
  q_br (q1 = 0) (
  some ((-1), x_lengths, x_tones)) (
  q_bd (f_X1_has y_count p2) (fun q2 =>
  q_br (q2 = 0) (
  some ((-1), x_lengths, x_tones)) (
  q_gd (q_in p1 4) (
  q_br ((x_lengths (p1.toNatClampNeg)) < 8) (
  q_gd (q_in p1 4) (
  q_gd (q_in ((p1 * 8) + (x_lengths (p1.toNatClampNeg))) 32) (
  q_lt (upd x_tones (((p1 * 8) + (x_lengths (p1.toNatClampNeg))).toNatClampNeg) p2) (fun u6 =>
  q_gd (q_in p1 4) (
  q_gd (q_in p1 4) (
  q_lt (upd x_lengths (p1.toNatClampNeg) ((x_lengths (p1.toNatClampNeg)) + 1)) (fun u9 =>
  q_gd (q_in p1 4) (
  some (u9 (p1.toNatClampNeg), u9, u6))))))))) (
  some ((-3), x_lengths, x_tones)))))))
theorem hv_X7_lengthen : yX7_lengthen.cls = RX7 ∧ yX7_lengthen.cls ≠ "java/lang/invoke/MethodHandle" ∧ yX7_lengthen.cls ≠ "java/lang/invoke/VarHandle" ∧ (parseMethodDescriptor yX7_lengthen.desc).map (fun d => d.parameters.length) = some 3 := by decide +kernel
abbrev rm_X7_lengthen : Room := { frames := 2, cells := 0, slots := 0, locals := 43 }
set_option maxHeartbeats 4000000 in
set_option maxRecDepth 100000 in
theorem k_X7_lengthen (l : Launch) (E : ET) (a : Nat → Nat) (o : Nat) (x : Mel_t) (ay : Nat → Nat) (oy : Nat) (y : Bells_t) (p1 : Int32) (p2 : Int32) (res : Int32 × (Nat → Int32) × (Nat → Int32)) (hF : f_X7_lengthen x.1 x.2.2 y.2.2 p1 p2 = some res) (sz : Nat) : CtI l yX7_lengthen (mws yX7_lengthen cX7_lengthen 4 (some .int)) rm_X7_lengthen 0 0 [.ref (a o), .int p1, .int p2, .ref (ay oy)] E (bl_Mel E a o x ++ bl_Bells E ay oy y) res.1 (bl_Mel E a o (res.2.1, x.2.1, res.2.2) ++ bl_Bells E ay oy y) sz := by
  refine mk_M (by decide +kernel) (Nat.le_of_ble_eq_true rfl) ?_
  intro p e s m below meth c A args Q ls hAe hsz hQ hx hb hr hml hin ha hown hlocks hA hz hzs hst hP hD hS hl
  have hown : s.vm.findClass RX7 = some m.cls := hown
  rw [hAe] at hQ
  subst hsz
  have hP : va_P E.1 vwCl (List.flatten [w_Mel E a o x, w_Bells E ay oy y]) s.heap := hP
  have hD : va_D A (List.flatten [w_Mel E a o x, w_Bells E ay oy y]) := hD
  have hl : lv_has ls 4 [(0, .ref (a o)), (1, .int p1), (2, .int p2), (3, .ref (ay oy))] := hl
  generalize hHe : s.heap = H at hP
  have hS : va_S A s.heap H [] := by rw [← hHe]; exact hS
  generalize ([] : List Loc) = locs at hS ⊢
  unfold f_X7_lengthen at hF
  refine lv_iload_n hx hb dX7_lengthen_0 rfl (lv_at hl 1 rfl) ?_
  obtain ⟨q1, hq1, hF⟩ := q_bdi hF
  refine cl_i (Lc := []) (Lc' := []) (L' := [w_Mel E a o x, w_Bells E ay oy y]) (rv := q1) (va_runSN (As := [.int p1]) (rest := []) ⟨hx, hb, hml, hown, ha⟩ (k_X10_isHerd l E p1 q1 hq1 H.size) ⟨va_cnB 1 ha (gi_B (fun _ h => h) mw372) rfl rfl rfl (nm15 hst) (ha _ mw26) hv_X10_isHerd.2 ⟨(Nat.le_of_ble_eq_true rfl), (Nat.le_of_ble_eq_true rfl)⟩, (ha _ mw371), trivial⟩ ⟨pre_blind, pre_at hP hD hS hz hzs hst [] (by decide) rfl rfl⟩ rfl rfl hl.1 rfl (lv_room (Nat.le_of_ble_eq_true rfl)) dX7_lengthen_1 ⟨(Nat.le_of_ble_eq_true rfl), (Nat.le_of_ble_eq_true rfl)⟩) hP hD hS hA [] (by decide) rfl rfl rfl rfl (fun H locs hP hD hS => ?_)
  refine lv_if_eq (tgt := 15) hx hb dX7_lengthen_4 (by decide) (fun c4 => ?_) (fun c4 => ?_)
  · have hF := q_brp c4 hF
    refine lv_iconst (v := (-1)) hx hb dX7_lengthen_15 (by decide) ?_
    obtain rfl := Option.some.inj hF
    exact en_i hQ (Nat.le_of_ble_eq_true rfl) (Nat.le_of_ble_eq_true rfl) hx hb hr hlocks hP hD hS rfl dX7_lengthen_16
  · have hF := q_brn c4 hF
    refine lv_aload_n hx hb dX7_lengthen_7 rfl (lv_at hl 3 rfl) ?_
    refine lv_iload_n hx hb dX7_lengthen_8 rfl (lv_at hl 2 rfl) ?_
    obtain ⟨q2, hq2, hF⟩ := q_bdi hF
    refine cl_i (Lc := [w_Bells E ay oy y]) (Lc' := [w_Bells E ay oy y]) (L' := [w_Mel E a o x, w_Bells E ay oy y]) (rv := q2) (va_runV (As := [.int p2]) (rest := []) ⟨hx, hb, hml, hown, ha⟩ (k_X1_has l E ay oy y p2 q2 hq2 H.size) (cwV 1 ha (gi_V (fun _ h => h) mw455 mw382 mw383 mw29 mw384) rfl rfl rfl hv_X1_has ⟨(Nat.le_of_ble_eq_true rfl), (Nat.le_of_ble_eq_true rfl)⟩) ⟨pre_blind, va_recv hst.k (fr_P hP [1] rfl) (ci := 3) (q0 := 0) rfl rfl, pre_at hP hD hS hz hzs hst [1] (by decide) rfl rfl⟩ rfl rfl hl.1 rfl (lv_room (Nat.le_of_ble_eq_true rfl)) dX7_lengthen_9 ⟨(Nat.le_of_ble_eq_true rfl), (Nat.le_of_ble_eq_true rfl)⟩) hP hD hS hA [1] (by decide) rfl rfl rfl rfl (fun H locs hP hD hS => ?_)
    refine lv_if_ne (tgt := 17) hx hb dX7_lengthen_12 (by decide) (fun c12 => ?_) (fun c12 => ?_)
    · have hF := q_brn c12 hF
      refine lv_aload_n hx hb dX7_lengthen_17 rfl (lv_at hl 0 rfl) ?_
      refine va_get (D := E.1) (ci := 8) (v := .ref (a (o + 1))) (C := RX7) (T := TX7) (N := 3) hx hb ha in_X7 hown hst.k hP 0 rfl rfl 0 (by decide) (ha _ mw115) (fun _ h9 => h9) rfl dX7_lengthen_18 ?_
      refine lv_iload_n hx hb dX7_lengthen_21 rfl (lv_at hl 1 rfl) ?_
      obtain ⟨g3, hF⟩ := q_gdi hF
      refine vi_iald hx hb hst.k hP 1 0 rfl rfl (f := x.1) (k := p1.toNatClampNeg) rfl g3 dX7_lengthen_22 ?_
      refine lv_bipush (v := 8) hx hb dX7_lengthen_23 (by decide) ?_
      refine lv_icmp_lt (tgt := 31) hx hb dX7_lengthen_25 (by decide) (fun c25 => ?_) (fun c25 => ?_)
      · have hF := q_brp c25 hF
        refine lv_aload_n hx hb dX7_lengthen_31 rfl (lv_at hl 0 rfl) ?_
        refine va_get (D := E.1) (ci := 8) (v := .ref (a (o + 3))) (C := RX7) (T := TX7) (N := 3) hx hb ha in_X7 hown hst.k hP 0 rfl rfl 2 (by decide) (ha _ mw120) (fun _ h9 => h9) rfl dX7_lengthen_32 ?_
        refine lv_iload_n hx hb dX7_lengthen_35 rfl (lv_at hl 1 rfl) ?_
        refine lv_bipush (v := 8) hx hb dX7_lengthen_36 (by decide) ?_
        refine lv_imul hx hb dX7_lengthen_38 ?_
        refine lv_aload_n hx hb dX7_lengthen_39 rfl (lv_at hl 0 rfl) ?_
        refine va_get (D := E.1) (ci := 8) (v := .ref (a (o + 1))) (C := RX7) (T := TX7) (N := 3) hx hb ha in_X7 hown hst.k hP 0 rfl rfl 0 (by decide) (ha _ mw115) (fun _ h9 => h9) rfl dX7_lengthen_40 ?_
        refine lv_iload_n hx hb dX7_lengthen_43 rfl (lv_at hl 1 rfl) ?_
        obtain ⟨g4, hF⟩ := q_gdi hF
        refine vi_iald hx hb hst.k hP 1 0 rfl rfl (f := x.1) (k := p1.toNatClampNeg) rfl g4 dX7_lengthen_44 ?_
        refine lv_iadd hx hb dX7_lengthen_45 ?_
        refine lv_iload_n hx hb dX7_lengthen_46 rfl (lv_at hl 2 rfl) ?_
        obtain ⟨g5, hF⟩ := q_gdi hF
        refine vj_iast hx hb hst.k hP hD hS 3 0 rfl rfl (f := x.2.2) (k := ((p1 * 8) + (x.1 (p1.toNatClampNeg))).toNatClampNeg) rfl g5 dX7_lengthen_47 (fun u6 eu6 H locs hP hD hS => ?_)
        have hF := q_lti eu6 hF
        have hP : va_P E.1 vwCl (List.flatten [w_Mel E a o (x.1, x.2.1, u6), w_Bells E ay oy y]) H := hP
        have hD : va_D A (List.flatten [w_Mel E a o (x.1, x.2.1, u6), w_Bells E ay oy y]) := hD
        refine lv_aload_n hx hb dX7_lengthen_48 rfl (lv_at hl 0 rfl) ?_
        refine va_get (D := E.1) (ci := 8) (v := .ref (a (o + 1))) (C := RX7) (T := TX7) (N := 3) hx hb ha in_X7 hown hst.k hP 0 rfl rfl 0 (by decide) (ha _ mw115) (fun _ h9 => h9) rfl dX7_lengthen_49 ?_
        refine lv_iload_n hx hb dX7_lengthen_52 rfl (lv_at hl 1 rfl) ?_
        refine lv_dup2_11 hx hb dX7_lengthen_53 rfl rfl ?_
        obtain ⟨g7, hF⟩ := q_gdi hF
        refine vi_iald hx hb hst.k hP 1 0 rfl rfl (f := x.1) (k := p1.toNatClampNeg) rfl g7 dX7_lengthen_54 ?_
        refine lv_iconst (v := 1) hx hb dX7_lengthen_55 (by decide) ?_
        refine lv_iadd hx hb dX7_lengthen_56 ?_
        obtain ⟨g8, hF⟩ := q_gdi hF
        refine vj_iast hx hb hst.k hP hD hS 1 0 rfl rfl (f := x.1) (k := p1.toNatClampNeg) rfl g8 dX7_lengthen_57 (fun u9 eu9 H locs hP hD hS => ?_)
        have hF := q_lti eu9 hF
        have hP : va_P E.1 vwCl (List.flatten [w_Mel E a o (u9, x.2.1, u6), w_Bells E ay oy y]) H := hP
        have hD : va_D A (List.flatten [w_Mel E a o (u9, x.2.1, u6), w_Bells E ay oy y]) := hD
        refine lv_aload_n hx hb dX7_lengthen_58 rfl (lv_at hl 0 rfl) ?_
        refine va_get (D := E.1) (ci := 8) (v := .ref (a (o + 1))) (C := RX7) (T := TX7) (N := 3) hx hb ha in_X7 hown hst.k hP 0 rfl rfl 0 (by decide) (ha _ mw115) (fun _ h9 => h9) rfl dX7_lengthen_59 ?_
        refine lv_iload_n hx hb dX7_lengthen_62 rfl (lv_at hl 1 rfl) ?_
        obtain ⟨g10, hF⟩ := q_gdi hF
        refine vi_iald hx hb hst.k hP 1 0 rfl rfl (f := u9) (k := p1.toNatClampNeg) rfl g10 dX7_lengthen_63 ?_
        obtain rfl := Option.some.inj hF
        exact en_i hQ (Nat.le_of_ble_eq_true rfl) (Nat.le_of_ble_eq_true rfl) hx hb hr hlocks hP hD hS rfl dX7_lengthen_64
      · have hF := q_brn c25 hF
        refine lv_bipush (v := (-3)) hx hb dX7_lengthen_28 (by decide) ?_
        obtain rfl := Option.some.inj hF
        exact en_i hQ (Nat.le_of_ble_eq_true rfl) (Nat.le_of_ble_eq_true rfl) hx hb hr hlocks hP hD hS rfl dX7_lengthen_30
    · have hF := q_brp c12 hF
      refine lv_iconst (v := (-1)) hx hb dX7_lengthen_15 (by decide) ?_
      obtain rfl := Option.some.inj hF
      exact en_i hQ (Nat.le_of_ble_eq_true rfl) (Nat.le_of_ble_eq_true rfl) hx hb hr hlocks hP hD hS rfl dX7_lengthen_16

/-! X7_silence -/
theorem dX7_silence_0 : decode cX7_silence 0 = .ok (.iload_n 1, 1) := by decide +kernel
theorem dX7_silence_1 : decode cX7_silence 1 = .ok (.invokestatic 31, 3) := by decide +kernel
theorem dX7_silence_4 : decode cX7_silence 4 = .ok (.ifCond .ne 5, 3) := by decide +kernel
theorem dX7_silence_7 : decode cX7_silence 7 = .ok (.iconst (-1), 1) := by decide +kernel
theorem dX7_silence_8 : decode cX7_silence 8 = .ok (.ireturn, 1) := by decide +kernel
theorem dX7_silence_9 : decode cX7_silence 9 = .ok (.aload_n 0, 1) := by decide +kernel
theorem dX7_silence_10 : decode cX7_silence 10 = .ok (.getfield 9, 3) := by decide +kernel
theorem dX7_silence_13 : decode cX7_silence 13 = .ok (.iload_n 1, 1) := by decide +kernel
theorem dX7_silence_14 : decode cX7_silence 14 = .ok (.iaload, 1) := by decide +kernel
theorem dX7_silence_15 : decode cX7_silence 15 = .ok (.istore_n 2, 1) := by decide +kernel
theorem dX7_silence_16 : decode cX7_silence 16 = .ok (.aload_n 0, 1) := by decide +kernel
theorem dX7_silence_17 : decode cX7_silence 17 = .ok (.getfield 9, 3) := by decide +kernel
theorem dX7_silence_20 : decode cX7_silence 20 = .ok (.iload_n 1, 1) := by decide +kernel
theorem dX7_silence_21 : decode cX7_silence 21 = .ok (.iconst 0, 1) := by decide +kernel
theorem dX7_silence_22 : decode cX7_silence 22 = .ok (.iastore, 1) := by decide +kernel
theorem dX7_silence_23 : decode cX7_silence 23 = .ok (.iload_n 2, 1) := by decide +kernel
theorem dX7_silence_24 : decode cX7_silence 24 = .ok (.ireturn, 1) := by decide +kernel
def f_X7_silence (x_lengths : (Nat → Int32)) (p1 : Int32) : Option (Int32 × (Nat → Int32)) :=
  q_bd (f_X10_isHerd p1) (fun q1 =>
  q_br (q1 = 0) (
  some ((-1), x_lengths)) (
  q_gd (q_in p1 4) (
  q_lt (x_lengths (p1.toNatClampNeg) : Int32) (fun v3 =>
  q_gd (q_in p1 4) (
  q_lt (upd x_lengths (p1.toNatClampNeg) 0) (fun u5 =>
  some (v3, u5)))))))
theorem hv_X7_silence : yX7_silence.cls = RX7 ∧ yX7_silence.cls ≠ "java/lang/invoke/MethodHandle" ∧ yX7_silence.cls ≠ "java/lang/invoke/VarHandle" ∧ (parseMethodDescriptor yX7_silence.desc).map (fun d => d.parameters.length) = some 1 := by decide +kernel
abbrev rm_X7_silence : Room := { frames := 2, cells := 0, slots := 0, locals := 42 }
set_option maxHeartbeats 4000000 in
set_option maxRecDepth 100000 in
theorem k_X7_silence (l : Launch) (E : ET) (a : Nat → Nat) (o : Nat) (x : Mel_t) (p1 : Int32) (res : Int32 × (Nat → Int32)) (hF : f_X7_silence x.1 p1 = some res) (sz : Nat) : CtI l yX7_silence (mws yX7_silence cX7_silence 3 (some .int)) rm_X7_silence 0 0 [.ref (a o), .int p1] E (bl_Mel E a o x) res.1 (bl_Mel E a o (res.2, x.2.1, x.2.2)) sz := by
  refine mk_M (by decide +kernel) (Nat.le_of_ble_eq_true rfl) ?_
  intro p e s m below meth c A args Q ls hAe hsz hQ hx hb hr hml hin ha hown hlocks hA hz hzs hst hP hD hS hl
  have hown : s.vm.findClass RX7 = some m.cls := hown
  rw [hAe] at hQ
  subst hsz
  have hP : va_P E.1 vwCl (List.flatten [w_Mel E a o x]) s.heap := hP
  have hD : va_D A (List.flatten [w_Mel E a o x]) := hD
  have hl : lv_has ls 3 [(0, .ref (a o)), (1, .int p1)] := hl
  generalize hHe : s.heap = H at hP
  have hS : va_S A s.heap H [] := by rw [← hHe]; exact hS
  generalize ([] : List Loc) = locs at hS ⊢
  unfold f_X7_silence at hF
  refine lv_iload_n hx hb dX7_silence_0 rfl (lv_at hl 1 rfl) ?_
  obtain ⟨q1, hq1, hF⟩ := q_bdi hF
  refine cl_i (Lc := []) (Lc' := []) (L' := [w_Mel E a o x]) (rv := q1) (va_runSN (As := [.int p1]) (rest := []) ⟨hx, hb, hml, hown, ha⟩ (k_X10_isHerd l E p1 q1 hq1 H.size) ⟨va_cnB 1 ha (gi_B (fun _ h => h) mw372) rfl rfl rfl (nm15 hst) (ha _ mw26) hv_X10_isHerd.2 ⟨(Nat.le_of_ble_eq_true rfl), (Nat.le_of_ble_eq_true rfl)⟩, (ha _ mw371), trivial⟩ ⟨pre_blind, pre_at hP hD hS hz hzs hst [] (by decide) rfl rfl⟩ rfl rfl hl.1 rfl (lv_room (Nat.le_of_ble_eq_true rfl)) dX7_silence_1 ⟨(Nat.le_of_ble_eq_true rfl), (Nat.le_of_ble_eq_true rfl)⟩) hP hD hS hA [] (by decide) rfl rfl rfl rfl (fun H locs hP hD hS => ?_)
  refine lv_if_ne (tgt := 9) hx hb dX7_silence_4 (by decide) (fun c4 => ?_) (fun c4 => ?_)
  · have hF := q_brn c4 hF
    refine lv_aload_n hx hb dX7_silence_9 rfl (lv_at hl 0 rfl) ?_
    refine va_get (D := E.1) (ci := 8) (v := .ref (a (o + 1))) (C := RX7) (T := TX7) (N := 3) hx hb ha in_X7 hown hst.k hP 0 rfl rfl 0 (by decide) (ha _ mw115) (fun _ h9 => h9) rfl dX7_silence_10 ?_
    refine lv_iload_n hx hb dX7_silence_13 rfl (lv_at hl 1 rfl) ?_
    obtain ⟨g2, hF⟩ := q_gdi hF
    refine vi_iald hx hb hst.k hP 1 0 rfl rfl (f := x.1) (k := p1.toNatClampNeg) rfl g2 dX7_silence_14 ?_
    refine lv_topi (fun v3 ev3 => ?_)
    have hF := q_lti ev3 hF
    refine lv_istore_n (lv' := [(2, .int v3), (0, .ref (a o)), (1, .int p1)]) hx hb dX7_silence_15 rfl hl (by decide) rfl (fun ls hl => ?_)
    refine lv_aload_n hx hb dX7_silence_16 rfl (lv_at hl 1 rfl) ?_
    refine va_get (D := E.1) (ci := 8) (v := .ref (a (o + 1))) (C := RX7) (T := TX7) (N := 3) hx hb ha in_X7 hown hst.k hP 0 rfl rfl 0 (by decide) (ha _ mw115) (fun _ h9 => h9) rfl dX7_silence_17 ?_
    refine lv_iload_n hx hb dX7_silence_20 rfl (lv_at hl 2 rfl) ?_
    refine lv_iconst (v := 0) hx hb dX7_silence_21 (by decide) ?_
    obtain ⟨g4, hF⟩ := q_gdi hF
    refine vj_iast hx hb hst.k hP hD hS 1 0 rfl rfl (f := x.1) (k := p1.toNatClampNeg) rfl g4 dX7_silence_22 (fun u5 eu5 H locs hP hD hS => ?_)
    have hF := q_lti eu5 hF
    have hP : va_P E.1 vwCl (List.flatten [w_Mel E a o (u5, x.2.1, x.2.2)]) H := hP
    have hD : va_D A (List.flatten [w_Mel E a o (u5, x.2.1, x.2.2)]) := hD
    refine lv_iload_n hx hb dX7_silence_23 rfl (lv_at hl 0 rfl) ?_
    obtain rfl := Option.some.inj hF
    exact en_i hQ (Nat.le_of_ble_eq_true rfl) (Nat.le_of_ble_eq_true rfl) hx hb hr hlocks hP hD hS rfl dX7_silence_24
  · have hF := q_brp c4 hF
    refine lv_iconst (v := (-1)) hx hb dX7_silence_7 (by decide) ?_
    obtain rfl := Option.some.inj hF
    exact en_i hQ (Nat.le_of_ble_eq_true rfl) (Nat.le_of_ble_eq_true rfl) hx hb hr hlocks hP hD hS rfl dX7_silence_8

/-! X7_enter -/
theorem dX7_enter_0 : decode cX7_enter 0 = .ok (.iload_n 1, 1) := by decide +kernel
theorem dX7_enter_1 : decode cX7_enter 1 = .ok (.invokestatic 31, 3) := by decide +kernel
theorem dX7_enter_4 : decode cX7_enter 4 = .ok (.ifCond .ne 5, 3) := by decide +kernel
theorem dX7_enter_7 : decode cX7_enter 7 = .ok (.iconst (-1), 1) := by decide +kernel
theorem dX7_enter_8 : decode cX7_enter 8 = .ok (.ireturn, 1) := by decide +kernel
theorem dX7_enter_9 : decode cX7_enter 9 = .ok (.iload_n 2, 1) := by decide +kernel
theorem dX7_enter_10 : decode cX7_enter 10 = .ok (.iconst 0, 1) := by decide +kernel
theorem dX7_enter_11 : decode cX7_enter 11 = .ok (.bipush 15, 2) := by decide +kernel
theorem dX7_enter_13 : decode cX7_enter 13 = .ok (.invokestatic 27, 3) := by decide +kernel
theorem dX7_enter_16 : decode cX7_enter 16 = .ok (.ifCond .ne 6, 3) := by decide +kernel
theorem dX7_enter_19 : decode cX7_enter 19 = .ok (.bipush (-2), 2) := by decide +kernel
theorem dX7_enter_21 : decode cX7_enter 21 = .ok (.ireturn, 1) := by decide +kernel
theorem dX7_enter_22 : decode cX7_enter 22 = .ok (.aload_n 0, 1) := by decide +kernel
theorem dX7_enter_23 : decode cX7_enter 23 = .ok (.getfield 15, 3) := by decide +kernel
theorem dX7_enter_26 : decode cX7_enter 26 = .ok (.iload_n 1, 1) := by decide +kernel
theorem dX7_enter_27 : decode cX7_enter 27 = .ok (.iaload, 1) := by decide +kernel
theorem dX7_enter_28 : decode cX7_enter 28 = .ok (.istore_n 3, 1) := by decide +kernel
theorem dX7_enter_29 : decode cX7_enter 29 = .ok (.aload_n 0, 1) := by decide +kernel
theorem dX7_enter_30 : decode cX7_enter 30 = .ok (.getfield 15, 3) := by decide +kernel
theorem dX7_enter_33 : decode cX7_enter 33 = .ok (.iload_n 1, 1) := by decide +kernel
theorem dX7_enter_34 : decode cX7_enter 34 = .ok (.iload_n 2, 1) := by decide +kernel
theorem dX7_enter_35 : decode cX7_enter 35 = .ok (.iastore, 1) := by decide +kernel
theorem dX7_enter_36 : decode cX7_enter 36 = .ok (.iload_n 3, 1) := by decide +kernel
theorem dX7_enter_37 : decode cX7_enter 37 = .ok (.ireturn, 1) := by decide +kernel
def f_X7_enter (x_entries : (Nat → Int32)) (p1 : Int32) (p2 : Int32) : Option (Int32 × (Nat → Int32)) :=
  q_bd (f_X10_isHerd p1) (fun q1 =>
  q_br (q1 = 0) (
  some ((-1), x_entries)) (
  q_bd (f_X10_isWithin p2 0 15) (fun q2 =>
  q_br (q2 = 0) (
  some ((-2), x_entries)) (
  q_gd (q_in p1 4) (
  q_lt (x_entries (p1.toNatClampNeg) : Int32) (fun v4 =>
  q_gd (q_in p1 4) (
  q_lt (upd x_entries (p1.toNatClampNeg) p2) (fun u6 =>
  some (v4, u6)))))))))
theorem hv_X7_enter : yX7_enter.cls = RX7 ∧ yX7_enter.cls ≠ "java/lang/invoke/MethodHandle" ∧ yX7_enter.cls ≠ "java/lang/invoke/VarHandle" ∧ (parseMethodDescriptor yX7_enter.desc).map (fun d => d.parameters.length) = some 2 := by decide +kernel
abbrev rm_X7_enter : Room := { frames := 2, cells := 0, slots := 0, locals := 42 }
set_option maxHeartbeats 4000000 in
set_option maxRecDepth 100000 in
theorem k_X7_enter (l : Launch) (E : ET) (a : Nat → Nat) (o : Nat) (x : Mel_t) (p1 : Int32) (p2 : Int32) (res : Int32 × (Nat → Int32)) (hF : f_X7_enter x.2.1 p1 p2 = some res) (sz : Nat) : CtI l yX7_enter (mws yX7_enter cX7_enter 4 (some .int)) rm_X7_enter 0 0 [.ref (a o), .int p1, .int p2] E (bl_Mel E a o x) res.1 (bl_Mel E a o (x.1, res.2, x.2.2)) sz := by
  refine mk_M (by decide +kernel) (Nat.le_of_ble_eq_true rfl) ?_
  intro p e s m below meth c A args Q ls hAe hsz hQ hx hb hr hml hin ha hown hlocks hA hz hzs hst hP hD hS hl
  have hown : s.vm.findClass RX7 = some m.cls := hown
  rw [hAe] at hQ
  subst hsz
  have hP : va_P E.1 vwCl (List.flatten [w_Mel E a o x]) s.heap := hP
  have hD : va_D A (List.flatten [w_Mel E a o x]) := hD
  have hl : lv_has ls 4 [(0, .ref (a o)), (1, .int p1), (2, .int p2)] := hl
  generalize hHe : s.heap = H at hP
  have hS : va_S A s.heap H [] := by rw [← hHe]; exact hS
  generalize ([] : List Loc) = locs at hS ⊢
  unfold f_X7_enter at hF
  refine lv_iload_n hx hb dX7_enter_0 rfl (lv_at hl 1 rfl) ?_
  obtain ⟨q1, hq1, hF⟩ := q_bdi hF
  refine cl_i (Lc := []) (Lc' := []) (L' := [w_Mel E a o x]) (rv := q1) (va_runSN (As := [.int p1]) (rest := []) ⟨hx, hb, hml, hown, ha⟩ (k_X10_isHerd l E p1 q1 hq1 H.size) ⟨va_cnB 1 ha (gi_B (fun _ h => h) mw372) rfl rfl rfl (nm15 hst) (ha _ mw26) hv_X10_isHerd.2 ⟨(Nat.le_of_ble_eq_true rfl), (Nat.le_of_ble_eq_true rfl)⟩, (ha _ mw371), trivial⟩ ⟨pre_blind, pre_at hP hD hS hz hzs hst [] (by decide) rfl rfl⟩ rfl rfl hl.1 rfl (lv_room (Nat.le_of_ble_eq_true rfl)) dX7_enter_1 ⟨(Nat.le_of_ble_eq_true rfl), (Nat.le_of_ble_eq_true rfl)⟩) hP hD hS hA [] (by decide) rfl rfl rfl rfl (fun H locs hP hD hS => ?_)
  refine lv_if_ne (tgt := 9) hx hb dX7_enter_4 (by decide) (fun c4 => ?_) (fun c4 => ?_)
  · have hF := q_brn c4 hF
    refine lv_iload_n hx hb dX7_enter_9 rfl (lv_at hl 2 rfl) ?_
    refine lv_iconst (v := 0) hx hb dX7_enter_10 (by decide) ?_
    refine lv_bipush (v := 15) hx hb dX7_enter_11 (by decide) ?_
    obtain ⟨q2, hq2, hF⟩ := q_bdi hF
    refine cl_i (Lc := []) (Lc' := []) (L' := [w_Mel E a o x]) (rv := q2) (va_runSN (As := [.int p2, .int 0, .int 15]) (rest := []) ⟨hx, hb, hml, hown, ha⟩ (k_X10_isWithin l E p2 0 15 q2 hq2 H.size) ⟨va_cnB 3 ha (gi_B (fun _ h => h) mw375) rfl rfl rfl (nm16 hst) (ha _ mw26) hv_X10_isWithin.2 ⟨(Nat.le_of_ble_eq_true rfl), (Nat.le_of_ble_eq_true rfl)⟩, (ha _ mw374), trivial⟩ ⟨pre_blind, pre_at hP hD hS hz hzs hst [] (by decide) rfl rfl⟩ rfl rfl hl.1 rfl (lv_room (Nat.le_of_ble_eq_true rfl)) dX7_enter_13 ⟨(Nat.le_of_ble_eq_true rfl), (Nat.le_of_ble_eq_true rfl)⟩) hP hD hS hA [] (by decide) rfl rfl rfl rfl (fun H locs hP hD hS => ?_)
    refine lv_if_ne (tgt := 22) hx hb dX7_enter_16 (by decide) (fun c16 => ?_) (fun c16 => ?_)
    · have hF := q_brn c16 hF
      refine lv_aload_n hx hb dX7_enter_22 rfl (lv_at hl 0 rfl) ?_
      refine va_get (D := E.1) (ci := 8) (v := .ref (a (o + 2))) (C := RX7) (T := TX7) (N := 3) hx hb ha in_X7 hown hst.k hP 0 rfl rfl 1 (by decide) (ha _ mw118) (fun _ h9 => h9) rfl dX7_enter_23 ?_
      refine lv_iload_n hx hb dX7_enter_26 rfl (lv_at hl 1 rfl) ?_
      obtain ⟨g3, hF⟩ := q_gdi hF
      refine vi_iald hx hb hst.k hP 2 0 rfl rfl (f := x.2.1) (k := p1.toNatClampNeg) rfl g3 dX7_enter_27 ?_
      refine lv_topi (fun v4 ev4 => ?_)
      have hF := q_lti ev4 hF
      refine lv_istore_n (lv' := [(3, .int v4), (0, .ref (a o)), (1, .int p1), (2, .int p2)]) hx hb dX7_enter_28 rfl hl (by decide) rfl (fun ls hl => ?_)
      refine lv_aload_n hx hb dX7_enter_29 rfl (lv_at hl 1 rfl) ?_
      refine va_get (D := E.1) (ci := 8) (v := .ref (a (o + 2))) (C := RX7) (T := TX7) (N := 3) hx hb ha in_X7 hown hst.k hP 0 rfl rfl 1 (by decide) (ha _ mw118) (fun _ h9 => h9) rfl dX7_enter_30 ?_
      refine lv_iload_n hx hb dX7_enter_33 rfl (lv_at hl 2 rfl) ?_
      refine lv_iload_n hx hb dX7_enter_34 rfl (lv_at hl 3 rfl) ?_
      obtain ⟨g5, hF⟩ := q_gdi hF
      refine vj_iast hx hb hst.k hP hD hS 2 0 rfl rfl (f := x.2.1) (k := p1.toNatClampNeg) rfl g5 dX7_enter_35 (fun u6 eu6 H locs hP hD hS => ?_)
      have hF := q_lti eu6 hF
      have hP : va_P E.1 vwCl (List.flatten [w_Mel E a o (x.1, u6, x.2.2)]) H := hP
      have hD : va_D A (List.flatten [w_Mel E a o (x.1, u6, x.2.2)]) := hD
      refine lv_iload_n hx hb dX7_enter_36 rfl (lv_at hl 0 rfl) ?_
      obtain rfl := Option.some.inj hF
      exact en_i hQ (Nat.le_of_ble_eq_true rfl) (Nat.le_of_ble_eq_true rfl) hx hb hr hlocks hP hD hS rfl dX7_enter_37
    · have hF := q_brp c16 hF
      refine lv_bipush (v := (-2)) hx hb dX7_enter_19 (by decide) ?_
      obtain rfl := Option.some.inj hF
      exact en_i hQ (Nat.le_of_ble_eq_true rfl) (Nat.le_of_ble_eq_true rfl) hx hb hr hlocks hP hD hS rfl dX7_enter_21
  · have hF := q_brp c4 hF
    refine lv_iconst (v := (-1)) hx hb dX7_enter_7 (by decide) ?_
    obtain rfl := Option.some.inj hF
    exact en_i hQ (Nat.le_of_ble_eq_true rfl) (Nat.le_of_ble_eq_true rfl) hx hb hr hlocks hP hD hS rfl dX7_enter_8

/-! X7_forgetBellIn -/
theorem dX7_forgetBellIn_0 : decode cX7_forgetBellIn 0 = .ok (.iload_n 1, 1) := by decide +kernel
theorem dX7_forgetBellIn_1 : decode cX7_forgetBellIn 1 = .ok (.bipush 8, 2) := by decide +kernel
theorem dX7_forgetBellIn_3 : decode cX7_forgetBellIn 3 = .ok (.imul, 1) := by decide +kernel
theorem dX7_forgetBellIn_4 : decode cX7_forgetBellIn 4 = .ok (.istore_n 3, 1) := by decide +kernel
theorem dX7_forgetBellIn_5 : decode cX7_forgetBellIn 5 = .ok (.aload_n 0, 1) := by decide +kernel
theorem dX7_forgetBellIn_6 : decode cX7_forgetBellIn 6 = .ok (.getfield 9, 3) := by decide +kernel
theorem dX7_forgetBellIn_9 : decode cX7_forgetBellIn 9 = .ok (.iload_n 1, 1) := by decide +kernel
theorem dX7_forgetBellIn_10 : decode cX7_forgetBellIn 10 = .ok (.iaload, 1) := by decide +kernel
theorem dX7_forgetBellIn_11 : decode cX7_forgetBellIn 11 = .ok (.istore 4, 2) := by decide +kernel
theorem dX7_forgetBellIn_13 : decode cX7_forgetBellIn 13 = .ok (.iconst 0, 1) := by decide +kernel
theorem dX7_forgetBellIn_14 : decode cX7_forgetBellIn 14 = .ok (.istore 5, 2) := by decide +kernel
theorem dX7_forgetBellIn_16 : decode cX7_forgetBellIn 16 = .ok (.iconst 0, 1) := by decide +kernel
theorem dX7_forgetBellIn_17 : decode cX7_forgetBellIn 17 = .ok (.istore 6, 2) := by decide +kernel
theorem dX7_forgetBellIn_19 : decode cX7_forgetBellIn 19 = .ok (.iload 6, 2) := by decide +kernel
theorem dX7_forgetBellIn_21 : decode cX7_forgetBellIn 21 = .ok (.iload 4, 2) := by decide +kernel
theorem dX7_forgetBellIn_23 : decode cX7_forgetBellIn 23 = .ok (.if_icmp .ge 53, 3) := by decide +kernel
theorem dX7_forgetBellIn_26 : decode cX7_forgetBellIn 26 = .ok (.aload_n 0, 1) := by decide +kernel
theorem dX7_forgetBellIn_27 : decode cX7_forgetBellIn 27 = .ok (.getfield 18, 3) := by decide +kernel
theorem dX7_forgetBellIn_30 : decode cX7_forgetBellIn 30 = .ok (.iload_n 3, 1) := by decide +kernel
theorem dX7_forgetBellIn_31 : decode cX7_forgetBellIn 31 = .ok (.iload 6, 2) := by decide +kernel
theorem dX7_forgetBellIn_33 : decode cX7_forgetBellIn 33 = .ok (.iadd, 1) := by decide +kernel
theorem dX7_forgetBellIn_34 : decode cX7_forgetBellIn 34 = .ok (.iaload, 1) := by decide +kernel
theorem dX7_forgetBellIn_35 : decode cX7_forgetBellIn 35 = .ok (.istore 7, 2) := by decide +kernel
theorem dX7_forgetBellIn_37 : decode cX7_forgetBellIn 37 = .ok (.iload 7, 2) := by decide +kernel
theorem dX7_forgetBellIn_39 : decode cX7_forgetBellIn 39 = .ok (.iload_n 2, 1) := by decide +kernel
theorem dX7_forgetBellIn_40 : decode cX7_forgetBellIn 40 = .ok (.if_icmp .eq 30, 3) := by decide +kernel
theorem dX7_forgetBellIn_43 : decode cX7_forgetBellIn 43 = .ok (.aload_n 0, 1) := by decide +kernel
theorem dX7_forgetBellIn_44 : decode cX7_forgetBellIn 44 = .ok (.getfield 18, 3) := by decide +kernel
theorem dX7_forgetBellIn_47 : decode cX7_forgetBellIn 47 = .ok (.iload_n 3, 1) := by decide +kernel
theorem dX7_forgetBellIn_48 : decode cX7_forgetBellIn 48 = .ok (.iload 5, 2) := by decide +kernel
theorem dX7_forgetBellIn_50 : decode cX7_forgetBellIn 50 = .ok (.iadd, 1) := by decide +kernel
theorem dX7_forgetBellIn_51 : decode cX7_forgetBellIn 51 = .ok (.iload 7, 2) := by decide +kernel
theorem dX7_forgetBellIn_53 : decode cX7_forgetBellIn 53 = .ok (.iload_n 2, 1) := by decide +kernel
theorem dX7_forgetBellIn_54 : decode cX7_forgetBellIn 54 = .ok (.if_icmp .le 10, 3) := by decide +kernel
theorem dX7_forgetBellIn_57 : decode cX7_forgetBellIn 57 = .ok (.iload 7, 2) := by decide +kernel
theorem dX7_forgetBellIn_59 : decode cX7_forgetBellIn 59 = .ok (.iconst 1, 1) := by decide +kernel
theorem dX7_forgetBellIn_60 : decode cX7_forgetBellIn 60 = .ok (.isub, 1) := by decide +kernel
theorem dX7_forgetBellIn_61 : decode cX7_forgetBellIn 61 = .ok (.goto 5, 3) := by decide +kernel
theorem dX7_forgetBellIn_64 : decode cX7_forgetBellIn 64 = .ok (.iload 7, 2) := by decide +kernel
theorem dX7_forgetBellIn_66 : decode cX7_forgetBellIn 66 = .ok (.iastore, 1) := by decide +kernel
theorem dX7_forgetBellIn_67 : decode cX7_forgetBellIn 67 = .ok (.iinc 5 1, 3) := by decide +kernel
theorem dX7_forgetBellIn_70 : decode cX7_forgetBellIn 70 = .ok (.iinc 6 1, 3) := by decide +kernel
theorem dX7_forgetBellIn_73 : decode cX7_forgetBellIn 73 = .ok (.goto (-54), 3) := by decide +kernel
theorem dX7_forgetBellIn_76 : decode cX7_forgetBellIn 76 = .ok (.aload_n 0, 1) := by decide +kernel
theorem dX7_forgetBellIn_77 : decode cX7_forgetBellIn 77 = .ok (.getfield 9, 3) := by decide +kernel
theorem dX7_forgetBellIn_80 : decode cX7_forgetBellIn 80 = .ok (.iload_n 1, 1) := by decide +kernel
theorem dX7_forgetBellIn_81 : decode cX7_forgetBellIn 81 = .ok (.iload 5, 2) := by decide +kernel
theorem dX7_forgetBellIn_83 : decode cX7_forgetBellIn 83 = .ok (.iastore, 1) := by decide +kernel
theorem dX7_forgetBellIn_84 : decode cX7_forgetBellIn 84 = .ok (.iload 4, 2) := by decide +kernel
theorem dX7_forgetBellIn_86 : decode cX7_forgetBellIn 86 = .ok (.iload 5, 2) := by decide +kernel
theorem dX7_forgetBellIn_88 : decode cX7_forgetBellIn 88 = .ok (.isub, 1) := by decide +kernel
theorem dX7_forgetBellIn_89 : decode cX7_forgetBellIn 89 = .ok (.ireturn, 1) := by decide +kernel
def f_X7_forgetBellIn_L19 (p2 : Int32) (v1 : Int32) (v3 : Int32) (K19 : Int32 → (Nat → Int32) → Option (Int32 × (Nat → Int32) × (Nat → Int32))) : Nat → Int32 → Int32 → (Nat → Int32) → Option (Int32 × (Nat → Int32) × (Nat → Int32))
  | 0, _, _, _ => none
  | n19 + 1, i4, i5, i6 =>
    q_br (v3 ≤ i4) (
  K19 i5 i6) (
  q_gd (q_in (v1 + i4) 32) (
  q_lt (i6 ((v1 + i4).toNatClampNeg) : Int32) (fun v10 =>
  q_lt (fun (j11 : Int32) (j12 : (Nat → Int32)) =>
  q_lt (i4 + 1 : Int32) (fun v13 =>
  f_X7_forgetBellIn_L19 p2 v1 v3 K19 n19 v13 j11 j12)) (fun (J70 : Int32 → (Nat → Int32) → Option (Int32 × (Nat → Int32) × (Nat → Int32))) =>
  q_br (v10 = p2) (
  J70 i5 i6) (
  q_lt (fun (j14 : Int32) =>
  q_gd (q_in (v1 + i5) 32) (
  q_lt (upd i6 ((v1 + i5).toNatClampNeg) j14) (fun u16 =>
  q_lt (i5 + 1 : Int32) (fun v17 =>
  J70 v17 u16)))) (fun (J66 : Int32 → Option (Int32 × (Nat → Int32) × (Nat → Int32))) =>
  q_br (v10 ≤ p2) (
  J66 v10) (
  J66 (v10 - 1))))))))
def f_X7_forgetBellIn (x_lengths : (Nat → Int32)) (x_tones : (Nat → Int32)) (p1 : Int32) (p2 : Int32) : Option (Int32 × (Nat → Int32) × (Nat → Int32)) :=
  q_lt (p1 * 8 : Int32) (fun v1 =>
  q_gd (q_in p1 4) (
  q_lt (x_lengths (p1.toNatClampNeg) : Int32) (fun v3 =>
  f_X7_forgetBellIn_L19 p2 v1 v3 (fun y7 y8 =>
  q_gd (q_in p1 4) (
  q_lt (upd x_lengths (p1.toNatClampNeg) y7) (fun u19 =>
  some (v3 - y7, u19, y8)))) 2000 0 0 x_tones)))
theorem hv_X7_forgetBellIn : yX7_forgetBellIn.cls = RX7 ∧ yX7_forgetBellIn.cls ≠ "java/lang/invoke/MethodHandle" ∧ yX7_forgetBellIn.cls ≠ "java/lang/invoke/VarHandle" ∧ (parseMethodDescriptor yX7_forgetBellIn.desc).map (fun d => d.parameters.length) = some 2 := by decide +kernel
abbrev rm_X7_forgetBellIn : Room := { frames := 0, cells := 0, slots := 0, locals := 0 }
set_option maxHeartbeats 4000000 in
set_option maxRecDepth 100000 in
theorem k_X7_forgetBellIn (l : Launch) (E : ET) (a : Nat → Nat) (o : Nat) (x : Mel_t) (p1 : Int32) (p2 : Int32) (res : Int32 × (Nat → Int32) × (Nat → Int32)) (hF : f_X7_forgetBellIn x.1 x.2.2 p1 p2 = some res) (sz : Nat) : CtI l yX7_forgetBellIn (mws yX7_forgetBellIn cX7_forgetBellIn 8 (some .int)) rm_X7_forgetBellIn 0 0 [.ref (a o), .int p1, .int p2] E (bl_Mel E a o x) res.1 (bl_Mel E a o (res.2.1, x.2.1, res.2.2)) sz := by
  refine mk_M (by decide +kernel) (Nat.le_of_ble_eq_true rfl) ?_
  intro p e s m below meth c A args Q ls hAe hsz hQ hx hb hr hml hin ha hown hlocks hA hz hzs hst hP hD hS hl
  have hown : s.vm.findClass RX7 = some m.cls := hown
  rw [hAe] at hQ
  subst hsz
  have hP : va_P E.1 vwCl (List.flatten [w_Mel E a o x]) s.heap := hP
  have hD : va_D A (List.flatten [w_Mel E a o x]) := hD
  have hl : lv_has ls 8 [(0, .ref (a o)), (1, .int p1), (2, .int p2)] := hl
  generalize hHe : s.heap = H at hP
  have hS : va_S A s.heap H [] := by rw [← hHe]; exact hS
  generalize ([] : List Loc) = locs at hS ⊢
  unfold f_X7_forgetBellIn at hF
  refine lv_iload_n hx hb dX7_forgetBellIn_0 rfl (lv_at hl 1 rfl) ?_
  refine lv_bipush (v := 8) hx hb dX7_forgetBellIn_1 (by decide) ?_
  refine lv_imul hx hb dX7_forgetBellIn_3 ?_
  refine lv_topi (fun v1 ev1 => ?_)
  have hF := q_lti ev1 hF
  refine lv_istore_n (lv' := [(3, .int v1), (0, .ref (a o)), (1, .int p1), (2, .int p2)]) hx hb dX7_forgetBellIn_4 rfl hl (by decide) rfl (fun ls hl => ?_)
  refine lv_aload_n hx hb dX7_forgetBellIn_5 rfl (lv_at hl 1 rfl) ?_
  refine va_get (D := E.1) (ci := 8) (v := .ref (a (o + 1))) (C := RX7) (T := TX7) (N := 3) hx hb ha in_X7 hown hst.k hP 0 rfl rfl 0 (by decide) (ha _ mw115) (fun _ h9 => h9) rfl dX7_forgetBellIn_6 ?_
  refine lv_iload_n hx hb dX7_forgetBellIn_9 rfl (lv_at hl 2 rfl) ?_
  obtain ⟨g2, hF⟩ := q_gdi hF
  refine vi_iald hx hb hst.k hP 1 0 rfl rfl (f := x.1) (k := p1.toNatClampNeg) rfl g2 dX7_forgetBellIn_10 ?_
  refine lv_topi (fun v3 ev3 => ?_)
  have hF := q_lti ev3 hF
  refine lv_istore (lv' := [(4, .int v3), (3, .int v1), (0, .ref (a o)), (1, .int p1), (2, .int p2)]) hx hb dX7_forgetBellIn_11 hl (by decide) rfl (fun ls hl => ?_)
  refine lv_iconst (v := 0) hx hb dX7_forgetBellIn_13 (by decide) ?_
  refine lv_istore (lv' := [(5, .int 0), (4, .int v3), (3, .int v1), (0, .ref (a o)), (1, .int p1), (2, .int p2)]) hx hb dX7_forgetBellIn_14 hl (by decide) rfl (fun ls hl => ?_)
  refine lv_iconst (v := 0) hx hb dX7_forgetBellIn_16 (by decide) ?_
  refine lv_istore (lv' := [(6, .int 0), (5, .int 0), (4, .int v3), (3, .int v1), (0, .ref (a o)), (1, .int p1), (2, .int p2)]) hx hb dX7_forgetBellIn_17 hl (by decide) rfl (fun ls hl => ?_)
  have key19 : ∀ (K : Int32 → (Nat → Int32) → Option (Int32 × (Nat → Int32) × (Nat → Int32))), (∀ (y7 : Int32) (y8 : (Nat → Int32)) (H : Heap) (locs : List Loc) (ls : Array Slot), K y7 y8 = some res → va_P E.1 vwCl (List.flatten [w_Mel E a o (x.1, x.2.1, y8)]) H → va_D A (List.flatten [w_Mel E a o (x.1, x.2.1, y8)]) → va_S A s.heap H locs → lv_has ls 8 [(5, .int y7), (4, .int v3), (0, .ref (a o)), (1, .int p1)] → W p l e rm_X7_forgetBellIn s m args below meth c H locs 0 0 Q (F0 m 76 ls [])) → ∀ (n : Nat) (i4 : Int32) (i5 : Int32) (i6 : (Nat → Int32)) (H : Heap) (locs : List Loc) (ls : Array Slot), f_X7_forgetBellIn_L19 p2 v1 v3 K n i4 i5 i6 = some res → va_P E.1 vwCl (List.flatten [w_Mel E a o (x.1, x.2.1, i6)]) H → va_D A (List.flatten [w_Mel E a o (x.1, x.2.1, i6)]) → va_S A s.heap H locs → lv_has ls 8 [(6, .int i4), (5, .int i5), (4, .int v3), (3, .int v1), (0, .ref (a o)), (1, .int p1), (2, .int p2)] → W p l e rm_X7_forgetBellIn s m args below meth c H locs 0 0 Q (F0 m 19 ls []) := by
    intro K19 hK19 n19
    induction n19 with
    | zero => intro i4 i5 i6 H locs ls hF; exact absurd hF (by simp [f_X7_forgetBellIn_L19])
    | succ n19 ih19 =>
      intro i4 i5 i6 H locs ls hF hP hD hS hl
      rw [f_X7_forgetBellIn_L19] at hF
      refine lv_iload hx hb dX7_forgetBellIn_19 (lv_at hl 0 rfl) ?_
      refine lv_iload hx hb dX7_forgetBellIn_21 (lv_at hl 2 rfl) ?_
      refine lv_icmp_ge (tgt := 76) hx hb dX7_forgetBellIn_23 (by decide) (fun c23 => ?_) (fun c23 => ?_)
      · have hF := q_brp c23 hF
        exact hK19 i5 i6 H locs ls hF hP hD hS (lv_sub hl [1, 2, 4, 5] rfl)
      · have hF := q_brn c23 hF
        refine lv_aload_n hx hb dX7_forgetBellIn_26 rfl (lv_at hl 4 rfl) ?_
        refine va_get (D := E.1) (ci := 8) (v := .ref (a (o + 3))) (C := RX7) (T := TX7) (N := 3) hx hb ha in_X7 hown hst.k hP 0 rfl rfl 2 (by decide) (ha _ mw120) (fun _ h9 => h9) rfl dX7_forgetBellIn_27 ?_
        refine lv_iload_n hx hb dX7_forgetBellIn_30 rfl (lv_at hl 3 rfl) ?_
        refine lv_iload hx hb dX7_forgetBellIn_31 (lv_at hl 0 rfl) ?_
        refine lv_iadd hx hb dX7_forgetBellIn_33 ?_
        obtain ⟨g9, hF⟩ := q_gdi hF
        refine vi_iald hx hb hst.k hP 3 0 rfl rfl (f := i6) (k := (v1 + i4).toNatClampNeg) rfl g9 dX7_forgetBellIn_34 ?_
        refine lv_topi (fun v10 ev10 => ?_)
        have hF := q_lti ev10 hF
        refine lv_istore (lv' := [(7, .int v10), (6, .int i4), (5, .int i5), (4, .int v3), (3, .int v1), (0, .ref (a o)), (1, .int p1), (2, .int p2)]) hx hb dX7_forgetBellIn_35 hl (by decide) rfl (fun ls hl => ?_)
        refine lv_iload hx hb dX7_forgetBellIn_37 (lv_at hl 0 rfl) ?_
        refine lv_iload_n hx hb dX7_forgetBellIn_39 rfl (lv_at hl 7 rfl) ?_
        obtain ⟨J70, hJ70, hF⟩ := q_jn hF
        have jJ70 : ∀ (j11 : Int32) (j12 : (Nat → Int32)), ∀ (H : Heap) (locs : List Loc) (ls : Array Slot), J70 j11 j12 = some res → va_P E.1 vwCl (List.flatten [w_Mel E a o (x.1, x.2.1, j12)]) H → va_D A (List.flatten [w_Mel E a o (x.1, x.2.1, j12)]) → va_S A s.heap H locs → lv_has ls 8 [(6, .int i4), (5, .int j11), (4, .int v3), (3, .int v1), (0, .ref (a o)), (1, .int p1), (2, .int p2)] → W p l e rm_X7_forgetBellIn s m args below meth c H locs 0 0 Q (F0 m 70 ls []) := by
          intro j11 j12 H locs ls hF hP hD hS hl
          rw [hJ70] at hF
          obtain ⟨v13, ev13⟩ : ∃ y : Int32, y = i4 + 1 := ⟨_, rfl⟩
          have hF := q_lti ev13 hF
          refine lv_iinc (v := v13) (lv' := [(6, .int v13), (5, .int j11), (4, .int v3), (3, .int v1), (0, .ref (a o)), (1, .int p1), (2, .int p2)]) hx hb dX7_forgetBellIn_70 hl (k := 0) rfl (by rw [ev13]; rfl) (by decide) rfl (fun ls hl => ?_)
          refine lv_goto (tgt := 19) hx hb dX7_forgetBellIn_73 (by decide) ?_
          exact ih19 v13 j11 j12 H locs ls hF hP hD hS (lv_sub hl [0, 1, 2, 3, 4, 5, 6] rfl)
        refine lv_icmp_eq (tgt := 70) hx hb dX7_forgetBellIn_40 (by decide) (fun c40 => ?_) (fun c40 => ?_)
        · have hF := q_brp c40 hF
          exact jJ70 i5 i6 H locs ls hF hP hD hS (lv_sub hl [1, 2, 3, 4, 5, 6, 7] rfl)
        · have hF := q_brn c40 hF
          refine lv_aload_n hx hb dX7_forgetBellIn_43 rfl (lv_at hl 5 rfl) ?_
          refine va_get (D := E.1) (ci := 8) (v := .ref (a (o + 3))) (C := RX7) (T := TX7) (N := 3) hx hb ha in_X7 hown hst.k hP 0 rfl rfl 2 (by decide) (ha _ mw120) (fun _ h9 => h9) rfl dX7_forgetBellIn_44 ?_
          refine lv_iload_n hx hb dX7_forgetBellIn_47 rfl (lv_at hl 4 rfl) ?_
          refine lv_iload hx hb dX7_forgetBellIn_48 (lv_at hl 2 rfl) ?_
          refine lv_iadd hx hb dX7_forgetBellIn_50 ?_
          refine lv_iload hx hb dX7_forgetBellIn_51 (lv_at hl 0 rfl) ?_
          refine lv_iload_n hx hb dX7_forgetBellIn_53 rfl (lv_at hl 7 rfl) ?_
          obtain ⟨J66, hJ66, hF⟩ := q_jn hF
          have jJ66 : ∀ (j14 : Int32), ∀ (H : Heap) (locs : List Loc) (ls : Array Slot), J66 j14 = some res → va_P E.1 vwCl (List.flatten [w_Mel E a o (x.1, x.2.1, i6)]) H → va_D A (List.flatten [w_Mel E a o (x.1, x.2.1, i6)]) → va_S A s.heap H locs → lv_has ls 8 [(6, .int i4), (5, .int i5), (4, .int v3), (3, .int v1), (0, .ref (a o)), (1, .int p1), (2, .int p2)] → W p l e rm_X7_forgetBellIn s m args below meth c H locs 0 0 Q (F0 m 66 ls [.int j14, .int (v1 + i5), .ref (a (o + 3))]) := by
            intro j14 H locs ls hF hP hD hS hl
            rw [hJ66] at hF
            obtain ⟨g15, hF⟩ := q_gdi hF
            refine vj_iast hx hb hst.k hP hD hS 3 0 rfl rfl (f := i6) (k := (v1 + i5).toNatClampNeg) rfl g15 dX7_forgetBellIn_66 (fun u16 eu16 H locs hP hD hS => ?_)
            have hF := q_lti eu16 hF
            have hP : va_P E.1 vwCl (List.flatten [w_Mel E a o (x.1, x.2.1, u16)]) H := hP
            have hD : va_D A (List.flatten [w_Mel E a o (x.1, x.2.1, u16)]) := hD
            obtain ⟨v17, ev17⟩ : ∃ y : Int32, y = i5 + 1 := ⟨_, rfl⟩
            have hF := q_lti ev17 hF
            refine lv_iinc (v := v17) (lv' := [(5, .int v17), (6, .int i4), (4, .int v3), (3, .int v1), (0, .ref (a o)), (1, .int p1), (2, .int p2)]) hx hb dX7_forgetBellIn_67 hl (k := 1) rfl (by rw [ev17]; rfl) (by decide) rfl (fun ls hl => ?_)
            exact jJ70 v17 u16 H locs ls hF hP hD hS (lv_sub hl [1, 0, 2, 3, 4, 5, 6] rfl)
          refine lv_icmp_le (tgt := 64) hx hb dX7_forgetBellIn_54 (by decide) (fun c54 => ?_) (fun c54 => ?_)
          · have hF := q_brp c54 hF
            refine lv_iload hx hb dX7_forgetBellIn_64 (lv_at hl 0 rfl) ?_
            exact jJ66 v10 H locs ls hF hP hD hS (lv_sub hl [1, 2, 3, 4, 5, 6, 7] rfl)
          · have hF := q_brn c54 hF
            refine lv_iload hx hb dX7_forgetBellIn_57 (lv_at hl 0 rfl) ?_
            refine lv_iconst (v := 1) hx hb dX7_forgetBellIn_59 (by decide) ?_
            refine lv_isub hx hb dX7_forgetBellIn_60 ?_
            refine lv_goto (tgt := 66) hx hb dX7_forgetBellIn_61 (by decide) ?_
            exact jJ66 (v10 - 1) H locs ls hF hP hD hS (lv_sub hl [1, 2, 3, 4, 5, 6, 7] rfl)
  refine key19 _ ?_ _ 0 0 x.2.2 H locs ls hF hP hD hS (lv_sub hl [0, 1, 2, 3, 4, 5, 6] rfl)
  intro y7 y8 H locs ls hF hP hD hS hl
  refine lv_aload_n hx hb dX7_forgetBellIn_76 rfl (lv_at hl 2 rfl) ?_
  refine va_get (D := E.1) (ci := 8) (v := .ref (a (o + 1))) (C := RX7) (T := TX7) (N := 3) hx hb ha in_X7 hown hst.k hP 0 rfl rfl 0 (by decide) (ha _ mw115) (fun _ h9 => h9) rfl dX7_forgetBellIn_77 ?_
  refine lv_iload_n hx hb dX7_forgetBellIn_80 rfl (lv_at hl 3 rfl) ?_
  refine lv_iload hx hb dX7_forgetBellIn_81 (lv_at hl 0 rfl) ?_
  obtain ⟨g18, hF⟩ := q_gdi hF
  refine vj_iast hx hb hst.k hP hD hS 1 0 rfl rfl (f := x.1) (k := p1.toNatClampNeg) rfl g18 dX7_forgetBellIn_83 (fun u19 eu19 H locs hP hD hS => ?_)
  have hF := q_lti eu19 hF
  have hP : va_P E.1 vwCl (List.flatten [w_Mel E a o (u19, x.2.1, y8)]) H := hP
  have hD : va_D A (List.flatten [w_Mel E a o (u19, x.2.1, y8)]) := hD
  refine lv_iload hx hb dX7_forgetBellIn_84 (lv_at hl 1 rfl) ?_
  refine lv_iload hx hb dX7_forgetBellIn_86 (lv_at hl 0 rfl) ?_
  refine lv_isub hx hb dX7_forgetBellIn_88 ?_
  obtain rfl := Option.some.inj hF
  exact en_i hQ (Nat.le_of_ble_eq_true rfl) (Nat.le_of_ble_eq_true rfl) hx hb hr hlocks hP hD hS rfl dX7_forgetBellIn_89

/-! X7_forgetBell -/
theorem dX7_forgetBell_0 : decode cX7_forgetBell 0 = .ok (.iconst 0, 1) := by decide +kernel
theorem dX7_forgetBell_1 : decode cX7_forgetBell 1 = .ok (.istore_n 2, 1) := by decide +kernel
theorem dX7_forgetBell_2 : decode cX7_forgetBell 2 = .ok (.iconst 0, 1) := by decide +kernel
theorem dX7_forgetBell_3 : decode cX7_forgetBell 3 = .ok (.istore_n 3, 1) := by decide +kernel
theorem dX7_forgetBell_4 : decode cX7_forgetBell 4 = .ok (.iload_n 3, 1) := by decide +kernel
theorem dX7_forgetBell_5 : decode cX7_forgetBell 5 = .ok (.iconst 4, 1) := by decide +kernel
theorem dX7_forgetBell_6 : decode cX7_forgetBell 6 = .ok (.if_icmp .ge 18, 3) := by decide +kernel
theorem dX7_forgetBell_9 : decode cX7_forgetBell 9 = .ok (.iload_n 2, 1) := by decide +kernel
theorem dX7_forgetBell_10 : decode cX7_forgetBell 10 = .ok (.aload_n 0, 1) := by decide +kernel
theorem dX7_forgetBell_11 : decode cX7_forgetBell 11 = .ok (.iload_n 3, 1) := by decide +kernel
theorem dX7_forgetBell_12 : decode cX7_forgetBell 12 = .ok (.iload_n 1, 1) := by decide +kernel
theorem dX7_forgetBell_13 : decode cX7_forgetBell 13 = .ok (.invokevirtual 40, 3) := by decide +kernel
theorem dX7_forgetBell_16 : decode cX7_forgetBell 16 = .ok (.iadd, 1) := by decide +kernel
theorem dX7_forgetBell_17 : decode cX7_forgetBell 17 = .ok (.istore_n 2, 1) := by decide +kernel
theorem dX7_forgetBell_18 : decode cX7_forgetBell 18 = .ok (.iinc 3 1, 3) := by decide +kernel
theorem dX7_forgetBell_21 : decode cX7_forgetBell 21 = .ok (.goto (-17), 3) := by decide +kernel
theorem dX7_forgetBell_24 : decode cX7_forgetBell 24 = .ok (.iload_n 2, 1) := by decide +kernel
theorem dX7_forgetBell_25 : decode cX7_forgetBell 25 = .ok (.ireturn, 1) := by decide +kernel
def f_X7_forgetBell_L4 (p1 : Int32) : Nat → Int32 → Int32 → (Nat → Int32) → (Nat → Int32) → Option (Int32 × (Nat → Int32) × (Nat → Int32))
  | 0, _, _, _, _ => none
  | n4 + 1, i1, i2, i3, i4 =>
    q_br (4 ≤ i1) (
  some (i2, i3, i4)) (
  q_bd (f_X7_forgetBellIn i3 i4 i1 p1) (fun q5 =>
  q_lt (i2 + q5.1 : Int32) (fun v6 =>
  q_lt (i1 + 1 : Int32) (fun v7 =>
  f_X7_forgetBell_L4 p1 n4 v7 v6 q5.2.1 q5.2.2))))
def f_X7_forgetBell (x_lengths : (Nat → Int32)) (x_tones : (Nat → Int32)) (p1 : Int32) : Option (Int32 × (Nat → Int32) × (Nat → Int32)) :=
  f_X7_forgetBell_L4 p1 2000 0 0 x_lengths x_tones
theorem hv_X7_forgetBell : yX7_forgetBell.cls = RX7 ∧ yX7_forgetBell.cls ≠ "java/lang/invoke/MethodHandle" ∧ yX7_forgetBell.cls ≠ "java/lang/invoke/VarHandle" ∧ (parseMethodDescriptor yX7_forgetBell.desc).map (fun d => d.parameters.length) = some 1 := by decide +kernel
abbrev rm_X7_forgetBell : Room := { frames := 1, cells := 0, slots := 0, locals := 27 }
set_option maxHeartbeats 4000000 in
set_option maxRecDepth 100000 in
theorem k_X7_forgetBell (l : Launch) (E : ET) (a : Nat → Nat) (o : Nat) (x : Mel_t) (p1 : Int32) (res : Int32 × (Nat → Int32) × (Nat → Int32)) (hF : f_X7_forgetBell x.1 x.2.2 p1 = some res) (sz : Nat) : CtI l yX7_forgetBell (mws yX7_forgetBell cX7_forgetBell 4 (some .int)) rm_X7_forgetBell 0 0 [.ref (a o), .int p1] E (bl_Mel E a o x) res.1 (bl_Mel E a o (res.2.1, x.2.1, res.2.2)) sz := by
  refine mk_M (by decide +kernel) (Nat.le_of_ble_eq_true rfl) ?_
  intro p e s m below meth c A args Q ls hAe hsz hQ hx hb hr hml hin ha hown hlocks hA hz hzs hst hP hD hS hl
  have hown : s.vm.findClass RX7 = some m.cls := hown
  rw [hAe] at hQ
  subst hsz
  have hP : va_P E.1 vwCl (List.flatten [w_Mel E a o x]) s.heap := hP
  have hD : va_D A (List.flatten [w_Mel E a o x]) := hD
  have hl : lv_has ls 4 [(0, .ref (a o)), (1, .int p1)] := hl
  generalize hHe : s.heap = H at hP
  have hS : va_S A s.heap H [] := by rw [← hHe]; exact hS
  generalize ([] : List Loc) = locs at hS ⊢
  unfold f_X7_forgetBell at hF
  refine lv_iconst (v := 0) hx hb dX7_forgetBell_0 (by decide) ?_
  refine lv_istore_n (lv' := [(2, .int 0), (0, .ref (a o)), (1, .int p1)]) hx hb dX7_forgetBell_1 rfl hl (by decide) rfl (fun ls hl => ?_)
  refine lv_iconst (v := 0) hx hb dX7_forgetBell_2 (by decide) ?_
  refine lv_istore_n (lv' := [(3, .int 0), (2, .int 0), (0, .ref (a o)), (1, .int p1)]) hx hb dX7_forgetBell_3 rfl hl (by decide) rfl (fun ls hl => ?_)
  have key4 : ∀ (n : Nat) (i1 : Int32) (i2 : Int32) (i3 : (Nat → Int32)) (i4 : (Nat → Int32)) (H : Heap) (locs : List Loc) (ls : Array Slot), f_X7_forgetBell_L4 p1 n i1 i2 i3 i4 = some res → va_P E.1 vwCl (List.flatten [w_Mel E a o (i3, x.2.1, i4)]) H → va_D A (List.flatten [w_Mel E a o (i3, x.2.1, i4)]) → va_S A s.heap H locs → lv_has ls 4 [(3, .int i1), (2, .int i2), (0, .ref (a o)), (1, .int p1)] → W p l e rm_X7_forgetBell s m args below meth c H locs 0 0 Q (F0 m 4 ls []) := by
    intro n4
    induction n4 with
    | zero => intro i1 i2 i3 i4 H locs ls hF; exact absurd hF (by simp [f_X7_forgetBell_L4])
    | succ n4 ih4 =>
      intro i1 i2 i3 i4 H locs ls hF hP hD hS hl
      rw [f_X7_forgetBell_L4] at hF
      refine lv_iload_n hx hb dX7_forgetBell_4 rfl (lv_at hl 0 rfl) ?_
      refine lv_iconst (v := 4) hx hb dX7_forgetBell_5 (by decide) ?_
      refine lv_icmp_ge (tgt := 24) hx hb dX7_forgetBell_6 (by decide) (fun c6 => ?_) (fun c6 => ?_)
      · have hF := q_brp c6 hF
        refine lv_iload_n hx hb dX7_forgetBell_24 rfl (lv_at hl 1 rfl) ?_
        obtain rfl := Option.some.inj hF
        exact en_i hQ (Nat.le_of_ble_eq_true rfl) (Nat.le_of_ble_eq_true rfl) hx hb hr hlocks hP hD hS rfl dX7_forgetBell_25
      · have hF := q_brn c6 hF
        refine lv_iload_n hx hb dX7_forgetBell_9 rfl (lv_at hl 1 rfl) ?_
        refine lv_aload_n hx hb dX7_forgetBell_10 rfl (lv_at hl 2 rfl) ?_
        refine lv_iload_n hx hb dX7_forgetBell_11 rfl (lv_at hl 0 rfl) ?_
        refine lv_iload_n hx hb dX7_forgetBell_12 rfl (lv_at hl 3 rfl) ?_
        obtain ⟨q5, hq5, hF⟩ := q_bdi hF
        refine cl_i (Lc := [w_Mel E a o (i3, x.2.1, i4)]) (Lc' := [w_Mel E a o (q5.2.1, x.2.1, q5.2.2)]) (L' := [w_Mel E a o (q5.2.1, x.2.1, q5.2.2)]) (rv := q5.1) (va_runV (As := [.int i1, .int p1]) (rest := [.int i2]) ⟨hx, hb, hml, hown, ha⟩ (k_X7_forgetBellIn l E a o (i3, x.2.1, i4) i1 p1 q5 hq5 H.size) (cwV 2 ha (gi_V (fun _ h => h) mw393 mw395 mw2 mw30 mw396) rfl rfl rfl hv_X7_forgetBellIn ⟨(Nat.le_of_ble_eq_true rfl), (Nat.le_of_ble_eq_true rfl)⟩) ⟨pre_blind, va_recv hst.k (fr_P hP [0] rfl) (ci := 8) (q0 := 0) rfl rfl, pre_at hP hD hS hz hzs hst [0] (by decide) rfl rfl⟩ rfl rfl hl.1 rfl (lv_room (Nat.le_of_ble_eq_true rfl)) dX7_forgetBell_13 ⟨(Nat.le_of_ble_eq_true rfl), (Nat.le_of_ble_eq_true rfl)⟩) hP hD hS hA [0] (by decide) rfl rfl rfl rfl (fun H locs hP hD hS => ?_)
        refine lv_iadd hx hb dX7_forgetBell_16 ?_
        refine lv_topi (fun v6 ev6 => ?_)
        have hF := q_lti ev6 hF
        refine lv_istore_n (lv' := [(2, .int v6), (3, .int i1), (0, .ref (a o)), (1, .int p1)]) hx hb dX7_forgetBell_17 rfl hl (by decide) rfl (fun ls hl => ?_)
        obtain ⟨v7, ev7⟩ : ∃ y : Int32, y = i1 + 1 := ⟨_, rfl⟩
        have hF := q_lti ev7 hF
        refine lv_iinc (v := v7) (lv' := [(3, .int v7), (2, .int v6), (0, .ref (a o)), (1, .int p1)]) hx hb dX7_forgetBell_18 hl (k := 1) rfl (by rw [ev7]; rfl) (by decide) rfl (fun ls hl => ?_)
        refine lv_goto (tgt := 4) hx hb dX7_forgetBell_21 (by decide) ?_
        exact ih4 v7 v6 q5.2.1 q5.2.2 H locs ls hF hP hD hS (lv_sub hl [0, 1, 2, 3] rfl)
  exact key4 _ 0 0 x.1 x.2.2 H locs ls hF hP hD hS (lv_sub hl [0, 1, 2, 3] rfl)

/-! X7_bellAtBeat -/
theorem dX7_bellAtBeat_0 : decode cX7_bellAtBeat 0 = .ok (.iload_n 2, 1) := by decide +kernel
theorem dX7_bellAtBeat_1 : decode cX7_bellAtBeat 1 = .ok (.aload_n 0, 1) := by decide +kernel
theorem dX7_bellAtBeat_2 : decode cX7_bellAtBeat 2 = .ok (.getfield 15, 3) := by decide +kernel
theorem dX7_bellAtBeat_5 : decode cX7_bellAtBeat 5 = .ok (.iload_n 1, 1) := by decide +kernel
theorem dX7_bellAtBeat_6 : decode cX7_bellAtBeat 6 = .ok (.iaload, 1) := by decide +kernel
theorem dX7_bellAtBeat_7 : decode cX7_bellAtBeat 7 = .ok (.isub, 1) := by decide +kernel
theorem dX7_bellAtBeat_8 : decode cX7_bellAtBeat 8 = .ok (.istore_n 3, 1) := by decide +kernel
theorem dX7_bellAtBeat_9 : decode cX7_bellAtBeat 9 = .ok (.aload_n 0, 1) := by decide +kernel
theorem dX7_bellAtBeat_10 : decode cX7_bellAtBeat 10 = .ok (.iload_n 1, 1) := by decide +kernel
theorem dX7_bellAtBeat_11 : decode cX7_bellAtBeat 11 = .ok (.iload_n 3, 1) := by decide +kernel
theorem dX7_bellAtBeat_12 : decode cX7_bellAtBeat 12 = .ok (.invokevirtual 44, 3) := by decide +kernel
theorem dX7_bellAtBeat_15 : decode cX7_bellAtBeat 15 = .ok (.ifCond .eq 12, 3) := by decide +kernel
theorem dX7_bellAtBeat_18 : decode cX7_bellAtBeat 18 = .ok (.aload_n 0, 1) := by decide +kernel
theorem dX7_bellAtBeat_19 : decode cX7_bellAtBeat 19 = .ok (.iload_n 1, 1) := by decide +kernel
theorem dX7_bellAtBeat_20 : decode cX7_bellAtBeat 20 = .ok (.iload_n 3, 1) := by decide +kernel
theorem dX7_bellAtBeat_21 : decode cX7_bellAtBeat 21 = .ok (.invokevirtual 47, 3) := by decide +kernel
theorem dX7_bellAtBeat_24 : decode cX7_bellAtBeat 24 = .ok (.goto 4, 3) := by decide +kernel
theorem dX7_bellAtBeat_27 : decode cX7_bellAtBeat 27 = .ok (.iconst (-1), 1) := by decide +kernel
theorem dX7_bellAtBeat_28 : decode cX7_bellAtBeat 28 = .ok (.ireturn, 1) := by decide +kernel
def f_X7_bellAtBeat (x_lengths : (Nat → Int32)) (x_entries : (Nat → Int32)) (x_tones : (Nat → Int32)) (p1 : Int32) (p2 : Int32) : Option (Int32) :=
  q_gd (q_in p1 4) (
  q_lt (p2 - (x_entries (p1.toNatClampNeg)) : Int32) (fun v2 =>
  q_bd (f_X7_has x_lengths p1 v2) (fun q3 =>
  q_br (q3 = 0) (
  some (-1)) (
  q_bd (f_X7_bellOf x_tones p1 v2) (fun q4 =>
  some q4)))))
theorem hv_X7_bellAtBeat : yX7_bellAtBeat.cls = RX7 ∧ yX7_bellAtBeat.cls ≠ "java/lang/invoke/MethodHandle" ∧ yX7_bellAtBeat.cls ≠ "java/lang/invoke/VarHandle" ∧ (parseMethodDescriptor yX7_bellAtBeat.desc).map (fun d => d.parameters.length) = some 2 := by decide +kernel
abbrev rm_X7_bellAtBeat : Room := { frames := 2, cells := 0, slots := 0, locals := 44 }
set_option maxHeartbeats 4000000 in
set_option maxRecDepth 100000 in
theorem k_X7_bellAtBeat (l : Launch) (E : ET) (a : Nat → Nat) (o : Nat) (x : Mel_t) (p1 : Int32) (p2 : Int32) (res : Int32) (hF : f_X7_bellAtBeat x.1 x.2.1 x.2.2 p1 p2 = some res) (sz : Nat) : CtI l yX7_bellAtBeat (mws yX7_bellAtBeat cX7_bellAtBeat 4 (some .int)) rm_X7_bellAtBeat 0 0 [.ref (a o), .int p1, .int p2] E (bl_Mel E a o x) res (bl_Mel E a o x) sz := by
  refine mk_M (by decide +kernel) (Nat.le_of_ble_eq_true rfl) ?_
  intro p e s m below meth c A args Q ls hAe hsz hQ hx hb hr hml hin ha hown hlocks hA hz hzs hst hP hD hS hl
  have hown : s.vm.findClass RX7 = some m.cls := hown
  rw [hAe] at hQ
  subst hsz
  have hP : va_P E.1 vwCl (List.flatten [w_Mel E a o x]) s.heap := hP
  have hD : va_D A (List.flatten [w_Mel E a o x]) := hD
  have hl : lv_has ls 4 [(0, .ref (a o)), (1, .int p1), (2, .int p2)] := hl
  generalize hHe : s.heap = H at hP
  have hS : va_S A s.heap H [] := by rw [← hHe]; exact hS
  generalize ([] : List Loc) = locs at hS ⊢
  unfold f_X7_bellAtBeat at hF
  refine lv_iload_n hx hb dX7_bellAtBeat_0 rfl (lv_at hl 2 rfl) ?_
  refine lv_aload_n hx hb dX7_bellAtBeat_1 rfl (lv_at hl 0 rfl) ?_
  refine va_get (D := E.1) (ci := 8) (v := .ref (a (o + 2))) (C := RX7) (T := TX7) (N := 3) hx hb ha in_X7 hown hst.k hP 0 rfl rfl 1 (by decide) (ha _ mw118) (fun _ h9 => h9) rfl dX7_bellAtBeat_2 ?_
  refine lv_iload_n hx hb dX7_bellAtBeat_5 rfl (lv_at hl 1 rfl) ?_
  obtain ⟨g1, hF⟩ := q_gdi hF
  refine vi_iald hx hb hst.k hP 2 0 rfl rfl (f := x.2.1) (k := p1.toNatClampNeg) rfl g1 dX7_bellAtBeat_6 ?_
  refine lv_isub hx hb dX7_bellAtBeat_7 ?_
  refine lv_topi (fun v2 ev2 => ?_)
  have hF := q_lti ev2 hF
  refine lv_istore_n (lv' := [(3, .int v2), (0, .ref (a o)), (1, .int p1), (2, .int p2)]) hx hb dX7_bellAtBeat_8 rfl hl (by decide) rfl (fun ls hl => ?_)
  refine lv_aload_n hx hb dX7_bellAtBeat_9 rfl (lv_at hl 1 rfl) ?_
  refine lv_iload_n hx hb dX7_bellAtBeat_10 rfl (lv_at hl 2 rfl) ?_
  refine lv_iload_n hx hb dX7_bellAtBeat_11 rfl (lv_at hl 0 rfl) ?_
  obtain ⟨q3, hq3, hF⟩ := q_bdi hF
  refine cl_i (Lc := [w_Mel E a o x]) (Lc' := [w_Mel E a o x]) (L' := [w_Mel E a o x]) (rv := q3) (va_runV (As := [.int p1, .int v2]) (rest := []) ⟨hx, hb, hml, hown, ha⟩ (k_X7_has l E a o x p1 v2 q3 hq3 H.size) (cwV 2 ha (gi_V (fun _ h => h) mw858 mw813 mw814 mw30 mw815) rfl rfl rfl hv_X7_has ⟨(Nat.le_of_ble_eq_true rfl), (Nat.le_of_ble_eq_true rfl)⟩) ⟨pre_blind, va_recv hst.k (fr_P hP [0] rfl) (ci := 8) (q0 := 0) rfl rfl, pre_at hP hD hS hz hzs hst [0] (by decide) rfl rfl⟩ rfl rfl hl.1 rfl (lv_room (Nat.le_of_ble_eq_true rfl)) dX7_bellAtBeat_12 ⟨(Nat.le_of_ble_eq_true rfl), (Nat.le_of_ble_eq_true rfl)⟩) hP hD hS hA [0] (by decide) rfl rfl rfl rfl (fun H locs hP hD hS => ?_)
  refine lv_if_eq (tgt := 27) hx hb dX7_bellAtBeat_15 (by decide) (fun c15 => ?_) (fun c15 => ?_)
  · have hF := q_brp c15 hF
    refine lv_iconst (v := (-1)) hx hb dX7_bellAtBeat_27 (by decide) ?_
    obtain rfl := Option.some.inj hF
    exact en_i hQ (Nat.le_of_ble_eq_true rfl) (Nat.le_of_ble_eq_true rfl) hx hb hr hlocks hP hD hS rfl dX7_bellAtBeat_28
  · have hF := q_brn c15 hF
    refine lv_aload_n hx hb dX7_bellAtBeat_18 rfl (lv_at hl 1 rfl) ?_
    refine lv_iload_n hx hb dX7_bellAtBeat_19 rfl (lv_at hl 2 rfl) ?_
    refine lv_iload_n hx hb dX7_bellAtBeat_20 rfl (lv_at hl 0 rfl) ?_
    obtain ⟨q4, hq4, hF⟩ := q_bdi hF
    refine cl_i (Lc := [w_Mel E a o x]) (Lc' := [w_Mel E a o x]) (L' := [w_Mel E a o x]) (rv := q4) (va_runV (As := [.int p1, .int v2]) (rest := []) ⟨hx, hb, hml, hown, ha⟩ (k_X7_bellOf l E a o x p1 v2 q4 hq4 H.size) (cwV 2 ha (gi_V (fun _ h => h) mw859 mw818 mw819 mw30 mw820) rfl rfl rfl hv_X7_bellOf ⟨(Nat.le_of_ble_eq_true rfl), (Nat.le_of_ble_eq_true rfl)⟩) ⟨pre_blind, va_recv hst.k (fr_P hP [0] rfl) (ci := 8) (q0 := 0) rfl rfl, pre_at hP hD hS hz hzs hst [0] (by decide) rfl rfl⟩ rfl rfl hl.1 rfl (lv_room (Nat.le_of_ble_eq_true rfl)) dX7_bellAtBeat_21 ⟨(Nat.le_of_ble_eq_true rfl), (Nat.le_of_ble_eq_true rfl)⟩) hP hD hS hA [0] (by decide) rfl rfl rfl rfl (fun H locs hP hD hS => ?_)
    refine lv_goto (tgt := 28) hx hb dX7_bellAtBeat_24 (by decide) ?_
    obtain rfl := Option.some.inj hF
    exact en_i hQ (Nat.le_of_ble_eq_true rfl) (Nat.le_of_ble_eq_true rfl) hx hb hr hlocks hP hD hS rfl dX7_bellAtBeat_28

/-! X7_useOnly -/
theorem dX7_useOnly_0 : decode cX7_useOnly 0 = .ok (.iconst 0, 1) := by decide +kernel
theorem dX7_useOnly_1 : decode cX7_useOnly 1 = .ok (.istore_n 2, 1) := by decide +kernel
theorem dX7_useOnly_2 : decode cX7_useOnly 2 = .ok (.iload_n 2, 1) := by decide +kernel
theorem dX7_useOnly_3 : decode cX7_useOnly 3 = .ok (.iconst 4, 1) := by decide +kernel
theorem dX7_useOnly_4 : decode cX7_useOnly 4 = .ok (.if_icmp .ge 42, 3) := by decide +kernel
theorem dX7_useOnly_7 : decode cX7_useOnly 7 = .ok (.iconst 0, 1) := by decide +kernel
theorem dX7_useOnly_8 : decode cX7_useOnly 8 = .ok (.istore_n 3, 1) := by decide +kernel
theorem dX7_useOnly_9 : decode cX7_useOnly 9 = .ok (.iload_n 3, 1) := by decide +kernel
theorem dX7_useOnly_10 : decode cX7_useOnly 10 = .ok (.aload_n 0, 1) := by decide +kernel
theorem dX7_useOnly_11 : decode cX7_useOnly 11 = .ok (.getfield 9, 3) := by decide +kernel
theorem dX7_useOnly_14 : decode cX7_useOnly 14 = .ok (.iload_n 2, 1) := by decide +kernel
theorem dX7_useOnly_15 : decode cX7_useOnly 15 = .ok (.iaload, 1) := by decide +kernel
theorem dX7_useOnly_16 : decode cX7_useOnly 16 = .ok (.if_icmp .ge 24, 3) := by decide +kernel
theorem dX7_useOnly_19 : decode cX7_useOnly 19 = .ok (.aload_n 1, 1) := by decide +kernel
theorem dX7_useOnly_20 : decode cX7_useOnly 20 = .ok (.aload_n 0, 1) := by decide +kernel
theorem dX7_useOnly_21 : decode cX7_useOnly 21 = .ok (.iload_n 2, 1) := by decide +kernel
theorem dX7_useOnly_22 : decode cX7_useOnly 22 = .ok (.iload_n 3, 1) := by decide +kernel
theorem dX7_useOnly_23 : decode cX7_useOnly 23 = .ok (.invokevirtual 47, 3) := by decide +kernel
theorem dX7_useOnly_26 : decode cX7_useOnly 26 = .ok (.invokevirtual 35, 3) := by decide +kernel
theorem dX7_useOnly_29 : decode cX7_useOnly 29 = .ok (.ifCond .ne 5, 3) := by decide +kernel
theorem dX7_useOnly_32 : decode cX7_useOnly 32 = .ok (.iconst 0, 1) := by decide +kernel
theorem dX7_useOnly_33 : decode cX7_useOnly 33 = .ok (.ireturn, 1) := by decide +kernel
theorem dX7_useOnly_34 : decode cX7_useOnly 34 = .ok (.iinc 3 1, 3) := by decide +kernel
theorem dX7_useOnly_37 : decode cX7_useOnly 37 = .ok (.goto (-28), 3) := by decide +kernel
theorem dX7_useOnly_40 : decode cX7_useOnly 40 = .ok (.iinc 2 1, 3) := by decide +kernel
theorem dX7_useOnly_43 : decode cX7_useOnly 43 = .ok (.goto (-41), 3) := by decide +kernel
theorem dX7_useOnly_46 : decode cX7_useOnly 46 = .ok (.iconst 1, 1) := by decide +kernel
theorem dX7_useOnly_47 : decode cX7_useOnly 47 = .ok (.ireturn, 1) := by decide +kernel
def f_X7_useOnly_L9 (x_lengths : (Nat → Int32)) (x_tones : (Nat → Int32)) (y_count : Int32) (i1 : Int32) (K9 : Unit → Option (Int32)) : Nat → Int32 → Option (Int32)
  | 0, _ => none
  | n9 + 1, i2 =>
    q_gd (q_in i1 4) (
  q_br ((x_lengths (i1.toNatClampNeg)) ≤ i2) (
  K9 (())) (
  q_bd (f_X7_bellOf x_tones i1 i2) (fun q4 =>
  q_bd (f_X1_has y_count q4) (fun q5 =>
  q_br (q5 = 0) (
  some 0) (
  q_lt (i2 + 1 : Int32) (fun v6 =>
  f_X7_useOnly_L9 x_lengths x_tones y_count i1 K9 n9 v6))))))
def f_X7_useOnly_L2 (x_lengths : (Nat → Int32)) (x_tones : (Nat → Int32)) (y_count : Int32) : Nat → Int32 → Option (Int32)
  | 0, _ => none
  | n2 + 1, i1 =>
    q_br (4 ≤ i1) (
  some 1) (
  f_X7_useOnly_L9 x_lengths x_tones y_count i1 (fun _ =>
  q_lt (i1 + 1 : Int32) (fun v7 =>
  f_X7_useOnly_L2 x_lengths x_tones y_count n2 v7)) 2000 0)
def f_X7_useOnly (x_lengths : (Nat → Int32)) (x_tones : (Nat → Int32)) (y_count : Int32) : Option (Int32) :=
  f_X7_useOnly_L2 x_lengths x_tones y_count 2000 0
theorem hv_X7_useOnly : yX7_useOnly.cls = RX7 ∧ yX7_useOnly.cls ≠ "java/lang/invoke/MethodHandle" ∧ yX7_useOnly.cls ≠ "java/lang/invoke/VarHandle" ∧ (parseMethodDescriptor yX7_useOnly.desc).map (fun d => d.parameters.length) = some 1 := by decide +kernel
abbrev rm_X7_useOnly : Room := { frames := 2, cells := 0, slots := 0, locals := 43 }
set_option maxHeartbeats 4000000 in
set_option maxRecDepth 100000 in
theorem k_X7_useOnly (l : Launch) (E : ET) (a : Nat → Nat) (o : Nat) (x : Mel_t) (ay : Nat → Nat) (oy : Nat) (y : Bells_t) (res : Int32) (hF : f_X7_useOnly x.1 x.2.2 y.2.2 = some res) (sz : Nat) : CtI l yX7_useOnly (mws yX7_useOnly cX7_useOnly 4 (some .boolean)) rm_X7_useOnly 0 0 [.ref (a o), .ref (ay oy)] E (bl_Mel E a o x ++ bl_Bells E ay oy y) res (bl_Mel E a o x ++ bl_Bells E ay oy y) sz := by
  refine mk_M (by decide +kernel) (Nat.le_of_ble_eq_true rfl) ?_
  intro p e s m below meth c A args Q ls hAe hsz hQ hx hb hr hml hin ha hown hlocks hA hz hzs hst hP hD hS hl
  have hown : s.vm.findClass RX7 = some m.cls := hown
  rw [hAe] at hQ
  subst hsz
  have hP : va_P E.1 vwCl (List.flatten [w_Mel E a o x, w_Bells E ay oy y]) s.heap := hP
  have hD : va_D A (List.flatten [w_Mel E a o x, w_Bells E ay oy y]) := hD
  have hl : lv_has ls 4 [(0, .ref (a o)), (1, .ref (ay oy))] := hl
  generalize hHe : s.heap = H at hP
  have hS : va_S A s.heap H [] := by rw [← hHe]; exact hS
  generalize ([] : List Loc) = locs at hS ⊢
  unfold f_X7_useOnly at hF
  refine lv_iconst (v := 0) hx hb dX7_useOnly_0 (by decide) ?_
  refine lv_istore_n (lv' := [(2, .int 0), (0, .ref (a o)), (1, .ref (ay oy))]) hx hb dX7_useOnly_1 rfl hl (by decide) rfl (fun ls hl => ?_)
  have key2 : ∀ (n : Nat) (i1 : Int32) (H : Heap) (locs : List Loc) (ls : Array Slot), f_X7_useOnly_L2 x.1 x.2.2 y.2.2 n i1 = some res → va_P E.1 vwCl (List.flatten [w_Mel E a o x, w_Bells E ay oy y]) H → va_D A (List.flatten [w_Mel E a o x, w_Bells E ay oy y]) → va_S A s.heap H locs → lv_has ls 4 [(2, .int i1), (0, .ref (a o)), (1, .ref (ay oy))] → W p l e rm_X7_useOnly s m args below meth c H locs 0 0 Q (F0 m 2 ls []) := by
    intro n2
    induction n2 with
    | zero => intro i1 H locs ls hF; exact absurd hF (by simp [f_X7_useOnly_L2])
    | succ n2 ih2 =>
      intro i1 H locs ls hF hP hD hS hl
      rw [f_X7_useOnly_L2] at hF
      refine lv_iload_n hx hb dX7_useOnly_2 rfl (lv_at hl 0 rfl) ?_
      refine lv_iconst (v := 4) hx hb dX7_useOnly_3 (by decide) ?_
      refine lv_icmp_ge (tgt := 46) hx hb dX7_useOnly_4 (by decide) (fun c4 => ?_) (fun c4 => ?_)
      · have hF := q_brp c4 hF
        refine lv_iconst (v := 1) hx hb dX7_useOnly_46 (by decide) ?_
        obtain rfl := Option.some.inj hF
        exact en_z hQ (Nat.le_of_ble_eq_true rfl) (Nat.le_of_ble_eq_true rfl) hx hb hr hlocks (by decide) hP hD hS rfl dX7_useOnly_47
      · have hF := q_brn c4 hF
        refine lv_iconst (v := 0) hx hb dX7_useOnly_7 (by decide) ?_
        refine lv_istore_n (lv' := [(3, .int 0), (2, .int i1), (0, .ref (a o)), (1, .ref (ay oy))]) hx hb dX7_useOnly_8 rfl hl (by decide) rfl (fun ls hl => ?_)
        have key9 : ∀ (K : Unit → Option (Int32)), (∀ (H : Heap) (locs : List Loc) (ls : Array Slot), K () = some res → va_P E.1 vwCl (List.flatten [w_Mel E a o x, w_Bells E ay oy y]) H → va_D A (List.flatten [w_Mel E a o x, w_Bells E ay oy y]) → va_S A s.heap H locs → lv_has ls 4 [(2, .int i1), (0, .ref (a o)), (1, .ref (ay oy))] → W p l e rm_X7_useOnly s m args below meth c H locs 0 0 Q (F0 m 40 ls [])) → ∀ (n : Nat) (i2 : Int32) (H : Heap) (locs : List Loc) (ls : Array Slot), f_X7_useOnly_L9 x.1 x.2.2 y.2.2 i1 K n i2 = some res → va_P E.1 vwCl (List.flatten [w_Mel E a o x, w_Bells E ay oy y]) H → va_D A (List.flatten [w_Mel E a o x, w_Bells E ay oy y]) → va_S A s.heap H locs → lv_has ls 4 [(3, .int i2), (2, .int i1), (0, .ref (a o)), (1, .ref (ay oy))] → W p l e rm_X7_useOnly s m args below meth c H locs 0 0 Q (F0 m 9 ls []) := by
          intro K9 hK9 n9
          induction n9 with
          | zero => intro i2 H locs ls hF; exact absurd hF (by simp [f_X7_useOnly_L9])
          | succ n9 ih9 =>
            intro i2 H locs ls hF hP hD hS hl
            rw [f_X7_useOnly_L9] at hF
            refine lv_iload_n hx hb dX7_useOnly_9 rfl (lv_at hl 0 rfl) ?_
            refine lv_aload_n hx hb dX7_useOnly_10 rfl (lv_at hl 2 rfl) ?_
            refine va_get (D := E.1) (ci := 8) (v := .ref (a (o + 1))) (C := RX7) (T := TX7) (N := 3) hx hb ha in_X7 hown hst.k hP 0 rfl rfl 0 (by decide) (ha _ mw115) (fun _ h9 => h9) rfl dX7_useOnly_11 ?_
            refine lv_iload_n hx hb dX7_useOnly_14 rfl (lv_at hl 1 rfl) ?_
            obtain ⟨g3, hF⟩ := q_gdi hF
            refine vi_iald hx hb hst.k hP 1 0 rfl rfl (f := x.1) (k := i1.toNatClampNeg) rfl g3 dX7_useOnly_15 ?_
            refine lv_icmp_ge (tgt := 40) hx hb dX7_useOnly_16 (by decide) (fun c16 => ?_) (fun c16 => ?_)
            · have hF := q_brp c16 hF
              exact hK9 H locs ls hF hP hD hS (lv_sub hl [1, 2, 3] rfl)
            · have hF := q_brn c16 hF
              refine lv_aload_n hx hb dX7_useOnly_19 rfl (lv_at hl 3 rfl) ?_
              refine lv_aload_n hx hb dX7_useOnly_20 rfl (lv_at hl 2 rfl) ?_
              refine lv_iload_n hx hb dX7_useOnly_21 rfl (lv_at hl 1 rfl) ?_
              refine lv_iload_n hx hb dX7_useOnly_22 rfl (lv_at hl 0 rfl) ?_
              obtain ⟨q4, hq4, hF⟩ := q_bdi hF
              refine cl_i (Lc := [w_Mel E a o x]) (Lc' := [w_Mel E a o x]) (L' := [w_Mel E a o x, w_Bells E ay oy y]) (rv := q4) (va_runV (As := [.int i1, .int i2]) (rest := [.ref (ay oy)]) ⟨hx, hb, hml, hown, ha⟩ (k_X7_bellOf l E a o x i1 i2 q4 hq4 H.size) (cwV 2 ha (gi_V (fun _ h => h) mw859 mw818 mw819 mw30 mw820) rfl rfl rfl hv_X7_bellOf ⟨(Nat.le_of_ble_eq_true rfl), (Nat.le_of_ble_eq_true rfl)⟩) ⟨pre_blind, va_recv hst.k (fr_P hP [0] rfl) (ci := 8) (q0 := 0) rfl rfl, pre_at hP hD hS hz hzs hst [0] (by decide) rfl rfl⟩ rfl rfl hl.1 rfl (lv_room (Nat.le_of_ble_eq_true rfl)) dX7_useOnly_23 ⟨(Nat.le_of_ble_eq_true rfl), (Nat.le_of_ble_eq_true rfl)⟩) hP hD hS hA [0] (by decide) rfl rfl rfl rfl (fun H locs hP hD hS => ?_)
              obtain ⟨q5, hq5, hF⟩ := q_bdi hF
              refine cl_i (Lc := [w_Bells E ay oy y]) (Lc' := [w_Bells E ay oy y]) (L' := [w_Mel E a o x, w_Bells E ay oy y]) (rv := q5) (va_runV (As := [.int q4]) (rest := []) ⟨hx, hb, hml, hown, ha⟩ (k_X1_has l E ay oy y q4 q5 hq5 H.size) (cwV 1 ha (gi_V (fun _ h => h) mw455 mw382 mw383 mw29 mw384) rfl rfl rfl hv_X1_has ⟨(Nat.le_of_ble_eq_true rfl), (Nat.le_of_ble_eq_true rfl)⟩) ⟨pre_blind, va_recv hst.k (fr_P hP [1] rfl) (ci := 3) (q0 := 0) rfl rfl, pre_at hP hD hS hz hzs hst [1] (by decide) rfl rfl⟩ rfl rfl hl.1 rfl (lv_room (Nat.le_of_ble_eq_true rfl)) dX7_useOnly_26 ⟨(Nat.le_of_ble_eq_true rfl), (Nat.le_of_ble_eq_true rfl)⟩) hP hD hS hA [1] (by decide) rfl rfl rfl rfl (fun H locs hP hD hS => ?_)
              refine lv_if_ne (tgt := 34) hx hb dX7_useOnly_29 (by decide) (fun c29 => ?_) (fun c29 => ?_)
              · have hF := q_brn c29 hF
                obtain ⟨v6, ev6⟩ : ∃ y : Int32, y = i2 + 1 := ⟨_, rfl⟩
                have hF := q_lti ev6 hF
                refine lv_iinc (v := v6) (lv' := [(3, .int v6), (2, .int i1), (0, .ref (a o)), (1, .ref (ay oy))]) hx hb dX7_useOnly_34 hl (k := 0) rfl (by rw [ev6]; rfl) (by decide) rfl (fun ls hl => ?_)
                refine lv_goto (tgt := 9) hx hb dX7_useOnly_37 (by decide) ?_
                exact ih9 v6 H locs ls hF hP hD hS (lv_sub hl [0, 1, 2, 3] rfl)
              · have hF := q_brp c29 hF
                refine lv_iconst (v := 0) hx hb dX7_useOnly_32 (by decide) ?_
                obtain rfl := Option.some.inj hF
                exact en_z hQ (Nat.le_of_ble_eq_true rfl) (Nat.le_of_ble_eq_true rfl) hx hb hr hlocks (by decide) hP hD hS rfl dX7_useOnly_33
        refine key9 _ ?_ _ 0 H locs ls hF hP hD hS (lv_sub hl [0, 1, 2, 3] rfl)
        intro  H locs ls hF hP hD hS hl
        obtain ⟨v7, ev7⟩ : ∃ y : Int32, y = i1 + 1 := ⟨_, rfl⟩
        have hF := q_lti ev7 hF
        refine lv_iinc (v := v7) (lv' := [(2, .int v7), (0, .ref (a o)), (1, .ref (ay oy))]) hx hb dX7_useOnly_40 hl (k := 0) rfl (by rw [ev7]; rfl) (by decide) rfl (fun ls hl => ?_)
        refine lv_goto (tgt := 2) hx hb dX7_useOnly_43 (by decide) ?_
        exact ih2 v7 H locs ls hF hP hD hS (lv_sub hl [0, 1, 2] rfl)
  exact key2 _ 0 H locs ls hF hP hD hS (lv_sub hl [0, 1, 2] rfl)

/-! X3_copyFrom -/
theorem dX3_copyFrom_0 : decode cX3_copyFrom 0 = .ok (.aload_n 1, 1) := by decide +kernel
theorem dX3_copyFrom_1 : decode cX3_copyFrom 1 = .ok (.getfield 11, 3) := by decide +kernel
theorem dX3_copyFrom_4 : decode cX3_copyFrom 4 = .ok (.iconst 0, 1) := by decide +kernel
theorem dX3_copyFrom_5 : decode cX3_copyFrom 5 = .ok (.aload_n 0, 1) := by decide +kernel
theorem dX3_copyFrom_6 : decode cX3_copyFrom 6 = .ok (.getfield 11, 3) := by decide +kernel
theorem dX3_copyFrom_9 : decode cX3_copyFrom 9 = .ok (.iconst 0, 1) := by decide +kernel
theorem dX3_copyFrom_10 : decode cX3_copyFrom 10 = .ok (.iconst 4, 1) := by decide +kernel
theorem dX3_copyFrom_11 : decode cX3_copyFrom 11 = .ok (.invokestatic 22, 3) := by decide +kernel
theorem dX3_copyFrom_14 : decode cX3_copyFrom 14 = .ok (.aload_n 1, 1) := by decide +kernel
theorem dX3_copyFrom_15 : decode cX3_copyFrom 15 = .ok (.getfield 15, 3) := by decide +kernel
theorem dX3_copyFrom_18 : decode cX3_copyFrom 18 = .ok (.iconst 0, 1) := by decide +kernel
theorem dX3_copyFrom_19 : decode cX3_copyFrom 19 = .ok (.aload_n 0, 1) := by decide +kernel
theorem dX3_copyFrom_20 : decode cX3_copyFrom 20 = .ok (.getfield 15, 3) := by decide +kernel
theorem dX3_copyFrom_23 : decode cX3_copyFrom 23 = .ok (.iconst 0, 1) := by decide +kernel
theorem dX3_copyFrom_24 : decode cX3_copyFrom 24 = .ok (.iconst 4, 1) := by decide +kernel
theorem dX3_copyFrom_25 : decode cX3_copyFrom 25 = .ok (.invokestatic 22, 3) := by decide +kernel
theorem dX3_copyFrom_28 : decode cX3_copyFrom 28 = .ok (.aload_n 0, 1) := by decide +kernel
theorem dX3_copyFrom_29 : decode cX3_copyFrom 29 = .ok (.aload_n 1, 1) := by decide +kernel
theorem dX3_copyFrom_30 : decode cX3_copyFrom 30 = .ok (.getfield 18, 3) := by decide +kernel
theorem dX3_copyFrom_33 : decode cX3_copyFrom 33 = .ok (.putfield 18, 3) := by decide +kernel
theorem dX3_copyFrom_36 : decode cX3_copyFrom 36 = .ok (.return_, 1) := by decide +kernel
def f_X3_copyFrom (x_delays : (Nat → Int32)) (x_transpositions : (Nat → Int32)) (x_count : Int32) (y_delays : (Nat → Int32)) (y_transpositions : (Nat → Int32)) (y_count : Int32) : Option ((Nat → Int32) × (Nat → Int32) × Int32) :=
  some (va_cpy y_delays x_delays 0 0 4, va_cpy y_transpositions x_transpositions 0 0 4, y_count)
theorem hv_X3_copyFrom : yX3_copyFrom.cls = RX3 ∧ yX3_copyFrom.cls ≠ "java/lang/invoke/MethodHandle" ∧ yX3_copyFrom.cls ≠ "java/lang/invoke/VarHandle" ∧ (parseMethodDescriptor yX3_copyFrom.desc).map (fun d => d.parameters.length) = some 1 := by decide +kernel
abbrev rm_X3_copyFrom : Room := { frames := 1, cells := 0, slots := 0, locals := 60 }
set_option maxHeartbeats 4000000 in
set_option maxRecDepth 100000 in
theorem k_X3_copyFrom (l : Launch) (E : ET) (a : Nat → Nat) (o : Nat) (x : Cliffs_t) (ay : Nat → Nat) (oy : Nat) (y : Cliffs_t) (res : (Nat → Int32) × (Nat → Int32) × Int32) (hF : f_X3_copyFrom x.1 x.2.1 x.2.2 y.1 y.2.1 y.2.2 = some res) (sz : Nat) : CtV l yX3_copyFrom (mws yX3_copyFrom cX3_copyFrom 2 none) rm_X3_copyFrom 0 0 [.ref (a o), .ref (ay oy)] E (bl_Cliffs E a o x ++ bl_Cliffs E ay oy y) (bl_Cliffs E a o (res.1, res.2.1, res.2.2) ++ bl_Cliffs E ay oy y) sz := by
  refine mk_M (by decide +kernel) (Nat.le_of_ble_eq_true rfl) ?_
  intro p e s m below meth c A args Q ls hAe hsz hQ hx hb hr hml hin ha hown hlocks hA hz hzs hst hP hD hS hl
  have hown : s.vm.findClass RX3 = some m.cls := hown
  rw [hAe] at hQ
  subst hsz
  have hP : va_P E.1 vwCl (List.flatten [w_Cliffs E a o x, w_Cliffs E ay oy y]) s.heap := hP
  have hD : va_D A (List.flatten [w_Cliffs E a o x, w_Cliffs E ay oy y]) := hD
  have hl : lv_has ls 2 [(0, .ref (a o)), (1, .ref (ay oy))] := hl
  generalize hHe : s.heap = H at hP
  have hS : va_S A s.heap H [] := by rw [← hHe]; exact hS
  generalize ([] : List Loc) = locs at hS ⊢
  unfold f_X3_copyFrom at hF
  refine lv_aload_n hx hb dX3_copyFrom_0 rfl (lv_at hl 1 rfl) ?_
  refine va_get (D := E.1) (ci := 5) (v := .ref (ay (oy + 1))) (C := RX3) (T := TX3) (N := 3) hx hb ha in_X3 hown hst.k hP 3 rfl rfl 0 (by decide) (ha _ mw134) (fun _ h9 => h9) rfl dX3_copyFrom_1 ?_
  refine lv_iconst (v := 0) hx hb dX3_copyFrom_4 (by decide) ?_
  refine lv_aload_n hx hb dX3_copyFrom_5 rfl (lv_at hl 0 rfl) ?_
  refine va_get (D := E.1) (ci := 5) (v := .ref (a (o + 1))) (C := RX3) (T := TX3) (N := 3) hx hb ha in_X3 hown hst.k hP 0 rfl rfl 0 (by decide) (ha _ mw134) (fun _ h9 => h9) rfl dX3_copyFrom_6 ?_
  refine lv_iconst (v := 0) hx hb dX3_copyFrom_9 (by decide) ?_
  refine lv_iconst (v := 4) hx hb dX3_copyFrom_10 (by decide) ?_
  refine vi_copy hx hb (hml.trans hl.1.symm) hown (ha _ mw353) (ha _ mw343) (ha _ mw342) (ha _ mw46) hst.k hP hD hS 4 1 0 rfl rfl rfl rfl (k0 := 0) (k1 := 0) (kn := 4) (by decide) (by decide) (by decide) (by decide) (by decide) (by decide) (by decide) (by decide) (fun _ _ => rfl) (Nat.le_of_ble_eq_true rfl) (Nat.le_of_ble_eq_true rfl) dX3_copyFrom_11 (fun H locs hP hD hS => ?_)
  have hP : va_P E.1 vwCl (List.flatten [w_Cliffs E a o (va_cpy y.1 x.1 0 0 4, x.2.1, x.2.2), w_Cliffs E ay oy y]) H := hP
  have hD : va_D A (List.flatten [w_Cliffs E a o (va_cpy y.1 x.1 0 0 4, x.2.1, x.2.2), w_Cliffs E ay oy y]) := hD
  refine lv_aload_n hx hb dX3_copyFrom_14 rfl (lv_at hl 1 rfl) ?_
  refine va_get (D := E.1) (ci := 5) (v := .ref (ay (oy + 2))) (C := RX3) (T := TX3) (N := 3) hx hb ha in_X3 hown hst.k hP 3 rfl rfl 1 (by decide) (ha _ mw137) (fun _ h9 => h9) rfl dX3_copyFrom_15 ?_
  refine lv_iconst (v := 0) hx hb dX3_copyFrom_18 (by decide) ?_
  refine lv_aload_n hx hb dX3_copyFrom_19 rfl (lv_at hl 0 rfl) ?_
  refine va_get (D := E.1) (ci := 5) (v := .ref (a (o + 2))) (C := RX3) (T := TX3) (N := 3) hx hb ha in_X3 hown hst.k hP 0 rfl rfl 1 (by decide) (ha _ mw137) (fun _ h9 => h9) rfl dX3_copyFrom_20 ?_
  refine lv_iconst (v := 0) hx hb dX3_copyFrom_23 (by decide) ?_
  refine lv_iconst (v := 4) hx hb dX3_copyFrom_24 (by decide) ?_
  refine vi_copy hx hb (hml.trans hl.1.symm) hown (ha _ mw353) (ha _ mw343) (ha _ mw342) (ha _ mw46) hst.k hP hD hS 5 2 0 rfl rfl rfl rfl (k0 := 0) (k1 := 0) (kn := 4) (by decide) (by decide) (by decide) (by decide) (by decide) (by decide) (by decide) (by decide) (fun _ _ => rfl) (Nat.le_of_ble_eq_true rfl) (Nat.le_of_ble_eq_true rfl) dX3_copyFrom_25 (fun H locs hP hD hS => ?_)
  have hP : va_P E.1 vwCl (List.flatten [w_Cliffs E a o (va_cpy y.1 x.1 0 0 4, va_cpy y.2.1 x.2.1 0 0 4, x.2.2), w_Cliffs E ay oy y]) H := hP
  have hD : va_D A (List.flatten [w_Cliffs E a o (va_cpy y.1 x.1 0 0 4, va_cpy y.2.1 x.2.1 0 0 4, x.2.2), w_Cliffs E ay oy y]) := hD
  refine lv_aload_n hx hb dX3_copyFrom_28 rfl (lv_at hl 0 rfl) ?_
  refine lv_aload_n hx hb dX3_copyFrom_29 rfl (lv_at hl 1 rfl) ?_
  refine va_get (D := E.1) (ci := 5) (v := .int y.2.2) (C := RX3) (T := TX3) (N := 3) hx hb ha in_X3 hown hst.k hP 3 rfl rfl 2 (by decide) (ha _ mw140) (fun _ h9 => h9) rfl dX3_copyFrom_30 ?_
  refine va_put (D := E.1) (ci := 5) (v := .int y.2.2) (ty := .int) (C := RX3) (T := TX3) (N := 3) hx hb ha in_X3 tyX3 tyX3_ok nmX3 hown hst.k hP hD hS 0 rfl rfl 2 (by decide) (ha _ mw140) (fun _ h9 => h9) rfl (tyX3_ok 2 (by decide)) rfl rfl (Nat.le_of_ble_eq_true rfl) dX3_copyFrom_33 (fun H locs hP hD hS => ?_)
  have hP : va_P E.1 vwCl (List.flatten [w_Cliffs E a o (va_cpy y.1 x.1 0 0 4, va_cpy y.2.1 x.2.1 0 0 4, y.2.2), w_Cliffs E ay oy y]) H := hP
  have hD : va_D A (List.flatten [w_Cliffs E a o (va_cpy y.1 x.1 0 0 4, va_cpy y.2.1 x.2.1 0 0 4, y.2.2), w_Cliffs E ay oy y]) := hD
  obtain rfl := Option.some.inj hF
  exact en_v hQ (Nat.le_of_ble_eq_true rfl) (Nat.le_of_ble_eq_true rfl) hx hb hr hlocks hP hD hS dX3_copyFrom_36

/-! X3_has -/
theorem dX3_has_0 : decode cX3_has 0 = .ok (.iload_n 1, 1) := by decide +kernel
theorem dX3_has_1 : decode cX3_has 1 = .ok (.iconst 0, 1) := by decide +kernel
theorem dX3_has_2 : decode cX3_has 2 = .ok (.aload_n 0, 1) := by decide +kernel
theorem dX3_has_3 : decode cX3_has 3 = .ok (.getfield 18, 3) := by decide +kernel
theorem dX3_has_6 : decode cX3_has 6 = .ok (.iconst 1, 1) := by decide +kernel
theorem dX3_has_7 : decode cX3_has 7 = .ok (.isub, 1) := by decide +kernel
theorem dX3_has_8 : decode cX3_has 8 = .ok (.invokestatic 28, 3) := by decide +kernel
theorem dX3_has_11 : decode cX3_has 11 = .ok (.ireturn, 1) := by decide +kernel
def f_X3_has (x_count : Int32) (p1 : Int32) : Option (Int32) :=
  q_bd (f_X10_isWithin p1 0 (x_count - 1)) (fun q1 =>
  q_gd (q1 = 0 ∨ q1 = 1) (
  some q1))
theorem hv_X3_has : yX3_has.cls = RX3 ∧ yX3_has.cls ≠ "java/lang/invoke/MethodHandle" ∧ yX3_has.cls ≠ "java/lang/invoke/VarHandle" ∧ (parseMethodDescriptor yX3_has.desc).map (fun d => d.parameters.length) = some 1 := by decide +kernel
abbrev rm_X3_has : Room := { frames := 1, cells := 0, slots := 0, locals := 22 }
set_option maxHeartbeats 4000000 in
set_option maxRecDepth 100000 in
theorem k_X3_has (l : Launch) (E : ET) (a : Nat → Nat) (o : Nat) (x : Cliffs_t) (p1 : Int32) (res : Int32) (hF : f_X3_has x.2.2 p1 = some res) (sz : Nat) : CtI l yX3_has (mws yX3_has cX3_has 2 (some .boolean)) rm_X3_has 0 0 [.ref (a o), .int p1] E (bl_Cliffs E a o x) res (bl_Cliffs E a o x) sz := by
  refine mk_M (by decide +kernel) (Nat.le_of_ble_eq_true rfl) ?_
  intro p e s m below meth c A args Q ls hAe hsz hQ hx hb hr hml hin ha hown hlocks hA hz hzs hst hP hD hS hl
  have hown : s.vm.findClass RX3 = some m.cls := hown
  rw [hAe] at hQ
  subst hsz
  have hP : va_P E.1 vwCl (List.flatten [w_Cliffs E a o x]) s.heap := hP
  have hD : va_D A (List.flatten [w_Cliffs E a o x]) := hD
  have hl : lv_has ls 2 [(0, .ref (a o)), (1, .int p1)] := hl
  generalize hHe : s.heap = H at hP
  have hS : va_S A s.heap H [] := by rw [← hHe]; exact hS
  generalize ([] : List Loc) = locs at hS ⊢
  unfold f_X3_has at hF
  refine lv_iload_n hx hb dX3_has_0 rfl (lv_at hl 1 rfl) ?_
  refine lv_iconst (v := 0) hx hb dX3_has_1 (by decide) ?_
  refine lv_aload_n hx hb dX3_has_2 rfl (lv_at hl 0 rfl) ?_
  refine va_get (D := E.1) (ci := 5) (v := .int x.2.2) (C := RX3) (T := TX3) (N := 3) hx hb ha in_X3 hown hst.k hP 0 rfl rfl 2 (by decide) (ha _ mw140) (fun _ h9 => h9) rfl dX3_has_3 ?_
  refine lv_iconst (v := 1) hx hb dX3_has_6 (by decide) ?_
  refine lv_isub hx hb dX3_has_7 ?_
  obtain ⟨q1, hq1, hF⟩ := q_bdi hF
  refine cl_i (Lc := []) (Lc' := []) (L' := [w_Cliffs E a o x]) (rv := q1) (va_runSN (As := [.int p1, .int 0, .int (x.2.2 - 1)]) (rest := []) ⟨hx, hb, hml, hown, ha⟩ (k_X10_isWithin l E p1 0 (x.2.2 - 1) q1 hq1 H.size) ⟨va_cnB 3 ha (gi_B (fun _ h => h) mw375) rfl rfl rfl (nm17 hst) (ha _ mw26) hv_X10_isWithin.2 ⟨(Nat.le_of_ble_eq_true rfl), (Nat.le_of_ble_eq_true rfl)⟩, (ha _ mw374), trivial⟩ ⟨pre_blind, pre_at hP hD hS hz hzs hst [] (by decide) rfl rfl⟩ rfl rfl hl.1 rfl (lv_room (Nat.le_of_ble_eq_true rfl)) dX3_has_8 ⟨(Nat.le_of_ble_eq_true rfl), (Nat.le_of_ble_eq_true rfl)⟩) hP hD hS hA [] (by decide) rfl rfl rfl rfl (fun H locs hP hD hS => ?_)
  obtain ⟨g2, hF⟩ := q_gdi hF
  obtain rfl := Option.some.inj hF
  exact en_z hQ (Nat.le_of_ble_eq_true rfl) (Nat.le_of_ble_eq_true rfl) hx hb hr hlocks (nz_b g2) hP hD hS rfl dX3_has_11

/-! X3_raise -/
theorem dX3_raise_0 : decode cX3_raise 0 = .ok (.iload_n 1, 1) := by decide +kernel
theorem dX3_raise_1 : decode cX3_raise 1 = .ok (.iconst 1, 1) := by decide +kernel
theorem dX3_raise_2 : decode cX3_raise 2 = .ok (.bipush 8, 2) := by decide +kernel
theorem dX3_raise_4 : decode cX3_raise 4 = .ok (.invokestatic 28, 3) := by decide +kernel
theorem dX3_raise_7 : decode cX3_raise 7 = .ok (.ifCond .eq 14, 3) := by decide +kernel
theorem dX3_raise_10 : decode cX3_raise 10 = .ok (.iload_n 2, 1) := by decide +kernel
theorem dX3_raise_11 : decode cX3_raise 11 = .ok (.bipush (-12), 2) := by decide +kernel
theorem dX3_raise_13 : decode cX3_raise 13 = .ok (.bipush 12, 2) := by decide +kernel
theorem dX3_raise_15 : decode cX3_raise 15 = .ok (.invokestatic 28, 3) := by decide +kernel
theorem dX3_raise_18 : decode cX3_raise 18 = .ok (.ifCond .ne 6, 3) := by decide +kernel
theorem dX3_raise_21 : decode cX3_raise 21 = .ok (.bipush (-2), 2) := by decide +kernel
theorem dX3_raise_23 : decode cX3_raise 23 = .ok (.ireturn, 1) := by decide +kernel
theorem dX3_raise_24 : decode cX3_raise 24 = .ok (.aload_n 0, 1) := by decide +kernel
theorem dX3_raise_25 : decode cX3_raise 25 = .ok (.getfield 18, 3) := by decide +kernel
theorem dX3_raise_28 : decode cX3_raise 28 = .ok (.iconst 4, 1) := by decide +kernel
theorem dX3_raise_29 : decode cX3_raise 29 = .ok (.if_icmp .lt 6, 3) := by decide +kernel
theorem dX3_raise_32 : decode cX3_raise 32 = .ok (.bipush (-3), 2) := by decide +kernel
theorem dX3_raise_34 : decode cX3_raise 34 = .ok (.ireturn, 1) := by decide +kernel
theorem dX3_raise_35 : decode cX3_raise 35 = .ok (.aload_n 0, 1) := by decide +kernel
theorem dX3_raise_36 : decode cX3_raise 36 = .ok (.getfield 11, 3) := by decide +kernel
theorem dX3_raise_39 : decode cX3_raise 39 = .ok (.aload_n 0, 1) := by decide +kernel
theorem dX3_raise_40 : decode cX3_raise 40 = .ok (.getfield 18, 3) := by decide +kernel
theorem dX3_raise_43 : decode cX3_raise 43 = .ok (.iload_n 1, 1) := by decide +kernel
theorem dX3_raise_44 : decode cX3_raise 44 = .ok (.iastore, 1) := by decide +kernel
theorem dX3_raise_45 : decode cX3_raise 45 = .ok (.aload_n 0, 1) := by decide +kernel
theorem dX3_raise_46 : decode cX3_raise 46 = .ok (.getfield 15, 3) := by decide +kernel
theorem dX3_raise_49 : decode cX3_raise 49 = .ok (.aload_n 0, 1) := by decide +kernel
theorem dX3_raise_50 : decode cX3_raise 50 = .ok (.getfield 18, 3) := by decide +kernel
theorem dX3_raise_53 : decode cX3_raise 53 = .ok (.iload_n 2, 1) := by decide +kernel
theorem dX3_raise_54 : decode cX3_raise 54 = .ok (.iastore, 1) := by decide +kernel
theorem dX3_raise_55 : decode cX3_raise 55 = .ok (.aload_n 0, 1) := by decide +kernel
theorem dX3_raise_56 : decode cX3_raise 56 = .ok (.dup, 1) := by decide +kernel
theorem dX3_raise_57 : decode cX3_raise 57 = .ok (.getfield 18, 3) := by decide +kernel
theorem dX3_raise_60 : decode cX3_raise 60 = .ok (.iconst 1, 1) := by decide +kernel
theorem dX3_raise_61 : decode cX3_raise 61 = .ok (.iadd, 1) := by decide +kernel
theorem dX3_raise_62 : decode cX3_raise 62 = .ok (.putfield 18, 3) := by decide +kernel
theorem dX3_raise_65 : decode cX3_raise 65 = .ok (.aload_n 0, 1) := by decide +kernel
theorem dX3_raise_66 : decode cX3_raise 66 = .ok (.getfield 18, 3) := by decide +kernel
theorem dX3_raise_69 : decode cX3_raise 69 = .ok (.iconst 1, 1) := by decide +kernel
theorem dX3_raise_70 : decode cX3_raise 70 = .ok (.isub, 1) := by decide +kernel
theorem dX3_raise_71 : decode cX3_raise 71 = .ok (.ireturn, 1) := by decide +kernel
def f_X3_raise (x_delays : (Nat → Int32)) (x_transpositions : (Nat → Int32)) (x_count : Int32) (p1 : Int32) (p2 : Int32) : Option (Int32 × (Nat → Int32) × (Nat → Int32) × Int32) :=
  q_bd (f_X10_isWithin p1 1 8) (fun q1 =>
  q_br (q1 = 0) (
  some ((-2), x_delays, x_transpositions, x_count)) (
  q_bd (f_X10_isWithin p2 (-12) 12) (fun q2 =>
  q_br (q2 = 0) (
  some ((-2), x_delays, x_transpositions, x_count)) (
  q_br (x_count < 4) (
  q_gd (q_in x_count 4) (
  q_lt (upd x_delays (x_count.toNatClampNeg) p1) (fun u4 =>
  q_gd (q_in x_count 4) (
  q_lt (upd x_transpositions (x_count.toNatClampNeg) p2) (fun u6 =>
  some ((x_count + 1) - 1, u4, u6, x_count + 1)))))) (
  some ((-3), x_delays, x_transpositions, x_count))))))
theorem hv_X3_raise : yX3_raise.cls = RX3 ∧ yX3_raise.cls ≠ "java/lang/invoke/MethodHandle" ∧ yX3_raise.cls ≠ "java/lang/invoke/VarHandle" ∧ (parseMethodDescriptor yX3_raise.desc).map (fun d => d.parameters.length) = some 2 := by decide +kernel
abbrev rm_X3_raise : Room := { frames := 1, cells := 0, slots := 0, locals := 22 }
set_option maxHeartbeats 4000000 in
set_option maxRecDepth 100000 in
theorem k_X3_raise (l : Launch) (E : ET) (a : Nat → Nat) (o : Nat) (x : Cliffs_t) (p1 : Int32) (p2 : Int32) (res : Int32 × (Nat → Int32) × (Nat → Int32) × Int32) (hF : f_X3_raise x.1 x.2.1 x.2.2 p1 p2 = some res) (sz : Nat) : CtI l yX3_raise (mws yX3_raise cX3_raise 3 (some .int)) rm_X3_raise 0 0 [.ref (a o), .int p1, .int p2] E (bl_Cliffs E a o x) res.1 (bl_Cliffs E a o (res.2.1, res.2.2.1, res.2.2.2)) sz := by
  refine mk_M (by decide +kernel) (Nat.le_of_ble_eq_true rfl) ?_
  intro p e s m below meth c A args Q ls hAe hsz hQ hx hb hr hml hin ha hown hlocks hA hz hzs hst hP hD hS hl
  have hown : s.vm.findClass RX3 = some m.cls := hown
  rw [hAe] at hQ
  subst hsz
  have hP : va_P E.1 vwCl (List.flatten [w_Cliffs E a o x]) s.heap := hP
  have hD : va_D A (List.flatten [w_Cliffs E a o x]) := hD
  have hl : lv_has ls 3 [(0, .ref (a o)), (1, .int p1), (2, .int p2)] := hl
  generalize hHe : s.heap = H at hP
  have hS : va_S A s.heap H [] := by rw [← hHe]; exact hS
  generalize ([] : List Loc) = locs at hS ⊢
  unfold f_X3_raise at hF
  refine lv_iload_n hx hb dX3_raise_0 rfl (lv_at hl 1 rfl) ?_
  refine lv_iconst (v := 1) hx hb dX3_raise_1 (by decide) ?_
  refine lv_bipush (v := 8) hx hb dX3_raise_2 (by decide) ?_
  obtain ⟨q1, hq1, hF⟩ := q_bdi hF
  refine cl_i (Lc := []) (Lc' := []) (L' := [w_Cliffs E a o x]) (rv := q1) (va_runSN (As := [.int p1, .int 1, .int 8]) (rest := []) ⟨hx, hb, hml, hown, ha⟩ (k_X10_isWithin l E p1 1 8 q1 hq1 H.size) ⟨va_cnB 3 ha (gi_B (fun _ h => h) mw375) rfl rfl rfl (nm17 hst) (ha _ mw26) hv_X10_isWithin.2 ⟨(Nat.le_of_ble_eq_true rfl), (Nat.le_of_ble_eq_true rfl)⟩, (ha _ mw374), trivial⟩ ⟨pre_blind, pre_at hP hD hS hz hzs hst [] (by decide) rfl rfl⟩ rfl rfl hl.1 rfl (lv_room (Nat.le_of_ble_eq_true rfl)) dX3_raise_4 ⟨(Nat.le_of_ble_eq_true rfl), (Nat.le_of_ble_eq_true rfl)⟩) hP hD hS hA [] (by decide) rfl rfl rfl rfl (fun H locs hP hD hS => ?_)
  refine lv_if_eq (tgt := 21) hx hb dX3_raise_7 (by decide) (fun c7 => ?_) (fun c7 => ?_)
  · have hF := q_brp c7 hF
    refine lv_bipush (v := (-2)) hx hb dX3_raise_21 (by decide) ?_
    obtain rfl := Option.some.inj hF
    exact en_i hQ (Nat.le_of_ble_eq_true rfl) (Nat.le_of_ble_eq_true rfl) hx hb hr hlocks hP hD hS rfl dX3_raise_23
  · have hF := q_brn c7 hF
    refine lv_iload_n hx hb dX3_raise_10 rfl (lv_at hl 2 rfl) ?_
    refine lv_bipush (v := (-12)) hx hb dX3_raise_11 (by decide) ?_
    refine lv_bipush (v := 12) hx hb dX3_raise_13 (by decide) ?_
    obtain ⟨q2, hq2, hF⟩ := q_bdi hF
    refine cl_i (Lc := []) (Lc' := []) (L' := [w_Cliffs E a o x]) (rv := q2) (va_runSN (As := [.int p2, .int (-12), .int 12]) (rest := []) ⟨hx, hb, hml, hown, ha⟩ (k_X10_isWithin l E p2 (-12) 12 q2 hq2 H.size) ⟨va_cnB 3 ha (gi_B (fun _ h => h) mw375) rfl rfl rfl (nm17 hst) (ha _ mw26) hv_X10_isWithin.2 ⟨(Nat.le_of_ble_eq_true rfl), (Nat.le_of_ble_eq_true rfl)⟩, (ha _ mw374), trivial⟩ ⟨pre_blind, pre_at hP hD hS hz hzs hst [] (by decide) rfl rfl⟩ rfl rfl hl.1 rfl (lv_room (Nat.le_of_ble_eq_true rfl)) dX3_raise_15 ⟨(Nat.le_of_ble_eq_true rfl), (Nat.le_of_ble_eq_true rfl)⟩) hP hD hS hA [] (by decide) rfl rfl rfl rfl (fun H locs hP hD hS => ?_)
    refine lv_if_ne (tgt := 24) hx hb dX3_raise_18 (by decide) (fun c18 => ?_) (fun c18 => ?_)
    · have hF := q_brn c18 hF
      refine lv_aload_n hx hb dX3_raise_24 rfl (lv_at hl 0 rfl) ?_
      refine va_get (D := E.1) (ci := 5) (v := .int x.2.2) (C := RX3) (T := TX3) (N := 3) hx hb ha in_X3 hown hst.k hP 0 rfl rfl 2 (by decide) (ha _ mw140) (fun _ h9 => h9) rfl dX3_raise_25 ?_
      refine lv_iconst (v := 4) hx hb dX3_raise_28 (by decide) ?_
      refine lv_icmp_lt (tgt := 35) hx hb dX3_raise_29 (by decide) (fun c29 => ?_) (fun c29 => ?_)
      · have hF := q_brp c29 hF
        refine lv_aload_n hx hb dX3_raise_35 rfl (lv_at hl 0 rfl) ?_
        refine va_get (D := E.1) (ci := 5) (v := .ref (a (o + 1))) (C := RX3) (T := TX3) (N := 3) hx hb ha in_X3 hown hst.k hP 0 rfl rfl 0 (by decide) (ha _ mw134) (fun _ h9 => h9) rfl dX3_raise_36 ?_
        refine lv_aload_n hx hb dX3_raise_39 rfl (lv_at hl 0 rfl) ?_
        refine va_get (D := E.1) (ci := 5) (v := .int x.2.2) (C := RX3) (T := TX3) (N := 3) hx hb ha in_X3 hown hst.k hP 0 rfl rfl 2 (by decide) (ha _ mw140) (fun _ h9 => h9) rfl dX3_raise_40 ?_
        refine lv_iload_n hx hb dX3_raise_43 rfl (lv_at hl 1 rfl) ?_
        obtain ⟨g3, hF⟩ := q_gdi hF
        refine vj_iast hx hb hst.k hP hD hS 1 0 rfl rfl (f := x.1) (k := x.2.2.toNatClampNeg) rfl g3 dX3_raise_44 (fun u4 eu4 H locs hP hD hS => ?_)
        have hF := q_lti eu4 hF
        have hP : va_P E.1 vwCl (List.flatten [w_Cliffs E a o (u4, x.2.1, x.2.2)]) H := hP
        have hD : va_D A (List.flatten [w_Cliffs E a o (u4, x.2.1, x.2.2)]) := hD
        refine lv_aload_n hx hb dX3_raise_45 rfl (lv_at hl 0 rfl) ?_
        refine va_get (D := E.1) (ci := 5) (v := .ref (a (o + 2))) (C := RX3) (T := TX3) (N := 3) hx hb ha in_X3 hown hst.k hP 0 rfl rfl 1 (by decide) (ha _ mw137) (fun _ h9 => h9) rfl dX3_raise_46 ?_
        refine lv_aload_n hx hb dX3_raise_49 rfl (lv_at hl 0 rfl) ?_
        refine va_get (D := E.1) (ci := 5) (v := .int x.2.2) (C := RX3) (T := TX3) (N := 3) hx hb ha in_X3 hown hst.k hP 0 rfl rfl 2 (by decide) (ha _ mw140) (fun _ h9 => h9) rfl dX3_raise_50 ?_
        refine lv_iload_n hx hb dX3_raise_53 rfl (lv_at hl 2 rfl) ?_
        obtain ⟨g5, hF⟩ := q_gdi hF
        refine vj_iast hx hb hst.k hP hD hS 2 0 rfl rfl (f := x.2.1) (k := x.2.2.toNatClampNeg) rfl g5 dX3_raise_54 (fun u6 eu6 H locs hP hD hS => ?_)
        have hF := q_lti eu6 hF
        have hP : va_P E.1 vwCl (List.flatten [w_Cliffs E a o (u4, u6, x.2.2)]) H := hP
        have hD : va_D A (List.flatten [w_Cliffs E a o (u4, u6, x.2.2)]) := hD
        refine lv_aload_n hx hb dX3_raise_55 rfl (lv_at hl 0 rfl) ?_
        refine lv_dup hx hb dX3_raise_56 rfl ?_
        refine va_get (D := E.1) (ci := 5) (v := .int x.2.2) (C := RX3) (T := TX3) (N := 3) hx hb ha in_X3 hown hst.k hP 0 rfl rfl 2 (by decide) (ha _ mw140) (fun _ h9 => h9) rfl dX3_raise_57 ?_
        refine lv_iconst (v := 1) hx hb dX3_raise_60 (by decide) ?_
        refine lv_iadd hx hb dX3_raise_61 ?_
        refine va_put (D := E.1) (ci := 5) (v := .int (x.2.2 + 1)) (ty := .int) (C := RX3) (T := TX3) (N := 3) hx hb ha in_X3 tyX3 tyX3_ok nmX3 hown hst.k hP hD hS 0 rfl rfl 2 (by decide) (ha _ mw140) (fun _ h9 => h9) rfl (tyX3_ok 2 (by decide)) rfl rfl (Nat.le_of_ble_eq_true rfl) dX3_raise_62 (fun H locs hP hD hS => ?_)
        have hP : va_P E.1 vwCl (List.flatten [w_Cliffs E a o (u4, u6, x.2.2 + 1)]) H := hP
        have hD : va_D A (List.flatten [w_Cliffs E a o (u4, u6, x.2.2 + 1)]) := hD
        refine lv_aload_n hx hb dX3_raise_65 rfl (lv_at hl 0 rfl) ?_
        refine va_get (D := E.1) (ci := 5) (v := .int (x.2.2 + 1)) (C := RX3) (T := TX3) (N := 3) hx hb ha in_X3 hown hst.k hP 0 rfl rfl 2 (by decide) (ha _ mw140) (fun _ h9 => h9) rfl dX3_raise_66 ?_
        refine lv_iconst (v := 1) hx hb dX3_raise_69 (by decide) ?_
        refine lv_isub hx hb dX3_raise_70 ?_
        obtain rfl := Option.some.inj hF
        exact en_i hQ (Nat.le_of_ble_eq_true rfl) (Nat.le_of_ble_eq_true rfl) hx hb hr hlocks hP hD hS rfl dX3_raise_71
      · have hF := q_brn c29 hF
        refine lv_bipush (v := (-3)) hx hb dX3_raise_32 (by decide) ?_
        obtain rfl := Option.some.inj hF
        exact en_i hQ (Nat.le_of_ble_eq_true rfl) (Nat.le_of_ble_eq_true rfl) hx hb hr hlocks hP hD hS rfl dX3_raise_34
    · have hF := q_brp c18 hF
      refine lv_bipush (v := (-2)) hx hb dX3_raise_21 (by decide) ?_
      obtain rfl := Option.some.inj hF
      exact en_i hQ (Nat.le_of_ble_eq_true rfl) (Nat.le_of_ble_eq_true rfl) hx hb hr hlocks hP hD hS rfl dX3_raise_23

/-! X3_fell -/
theorem dX3_fell_0 : decode cX3_fell 0 = .ok (.aload_n 0, 1) := by decide +kernel
theorem dX3_fell_1 : decode cX3_fell 1 = .ok (.iload_n 1, 1) := by decide +kernel
theorem dX3_fell_2 : decode cX3_fell 2 = .ok (.invokevirtual 32, 3) := by decide +kernel
theorem dX3_fell_5 : decode cX3_fell 5 = .ok (.ifCond .ne 5, 3) := by decide +kernel
theorem dX3_fell_8 : decode cX3_fell 8 = .ok (.iconst (-1), 1) := by decide +kernel
theorem dX3_fell_9 : decode cX3_fell 9 = .ok (.ireturn, 1) := by decide +kernel
theorem dX3_fell_10 : decode cX3_fell 10 = .ok (.iload_n 1, 1) := by decide +kernel
theorem dX3_fell_11 : decode cX3_fell 11 = .ok (.istore_n 2, 1) := by decide +kernel
theorem dX3_fell_12 : decode cX3_fell 12 = .ok (.iload_n 2, 1) := by decide +kernel
theorem dX3_fell_13 : decode cX3_fell 13 = .ok (.aload_n 0, 1) := by decide +kernel
theorem dX3_fell_14 : decode cX3_fell 14 = .ok (.getfield 18, 3) := by decide +kernel
theorem dX3_fell_17 : decode cX3_fell 17 = .ok (.iconst 1, 1) := by decide +kernel
theorem dX3_fell_18 : decode cX3_fell 18 = .ok (.isub, 1) := by decide +kernel
theorem dX3_fell_19 : decode cX3_fell 19 = .ok (.if_icmp .ge 37, 3) := by decide +kernel
theorem dX3_fell_22 : decode cX3_fell 22 = .ok (.aload_n 0, 1) := by decide +kernel
theorem dX3_fell_23 : decode cX3_fell 23 = .ok (.getfield 11, 3) := by decide +kernel
theorem dX3_fell_26 : decode cX3_fell 26 = .ok (.iload_n 2, 1) := by decide +kernel
theorem dX3_fell_27 : decode cX3_fell 27 = .ok (.aload_n 0, 1) := by decide +kernel
theorem dX3_fell_28 : decode cX3_fell 28 = .ok (.getfield 11, 3) := by decide +kernel
theorem dX3_fell_31 : decode cX3_fell 31 = .ok (.iload_n 2, 1) := by decide +kernel
theorem dX3_fell_32 : decode cX3_fell 32 = .ok (.iconst 1, 1) := by decide +kernel
theorem dX3_fell_33 : decode cX3_fell 33 = .ok (.iadd, 1) := by decide +kernel
theorem dX3_fell_34 : decode cX3_fell 34 = .ok (.iaload, 1) := by decide +kernel
theorem dX3_fell_35 : decode cX3_fell 35 = .ok (.iastore, 1) := by decide +kernel
theorem dX3_fell_36 : decode cX3_fell 36 = .ok (.aload_n 0, 1) := by decide +kernel
theorem dX3_fell_37 : decode cX3_fell 37 = .ok (.getfield 15, 3) := by decide +kernel
theorem dX3_fell_40 : decode cX3_fell 40 = .ok (.iload_n 2, 1) := by decide +kernel
theorem dX3_fell_41 : decode cX3_fell 41 = .ok (.aload_n 0, 1) := by decide +kernel
theorem dX3_fell_42 : decode cX3_fell 42 = .ok (.getfield 15, 3) := by decide +kernel
theorem dX3_fell_45 : decode cX3_fell 45 = .ok (.iload_n 2, 1) := by decide +kernel
theorem dX3_fell_46 : decode cX3_fell 46 = .ok (.iconst 1, 1) := by decide +kernel
theorem dX3_fell_47 : decode cX3_fell 47 = .ok (.iadd, 1) := by decide +kernel
theorem dX3_fell_48 : decode cX3_fell 48 = .ok (.iaload, 1) := by decide +kernel
theorem dX3_fell_49 : decode cX3_fell 49 = .ok (.iastore, 1) := by decide +kernel
theorem dX3_fell_50 : decode cX3_fell 50 = .ok (.iinc 2 1, 3) := by decide +kernel
theorem dX3_fell_53 : decode cX3_fell 53 = .ok (.goto (-41), 3) := by decide +kernel
theorem dX3_fell_56 : decode cX3_fell 56 = .ok (.aload_n 0, 1) := by decide +kernel
theorem dX3_fell_57 : decode cX3_fell 57 = .ok (.dup, 1) := by decide +kernel
theorem dX3_fell_58 : decode cX3_fell 58 = .ok (.getfield 18, 3) := by decide +kernel
theorem dX3_fell_61 : decode cX3_fell 61 = .ok (.iconst 1, 1) := by decide +kernel
theorem dX3_fell_62 : decode cX3_fell 62 = .ok (.isub, 1) := by decide +kernel
theorem dX3_fell_63 : decode cX3_fell 63 = .ok (.putfield 18, 3) := by decide +kernel
theorem dX3_fell_66 : decode cX3_fell 66 = .ok (.aload_n 0, 1) := by decide +kernel
theorem dX3_fell_67 : decode cX3_fell 67 = .ok (.getfield 18, 3) := by decide +kernel
theorem dX3_fell_70 : decode cX3_fell 70 = .ok (.ireturn, 1) := by decide +kernel
def f_X3_fell_L12 (x_count : Int32) (K12 : (Nat → Int32) → (Nat → Int32) → Option (Int32 × (Nat → Int32) × (Nat → Int32) × Int32)) : Nat → Int32 → (Nat → Int32) → (Nat → Int32) → Option (Int32 × (Nat → Int32) × (Nat → Int32) × Int32)
  | 0, _, _, _ => none
  | n12 + 1, i2, i3, i4 =>
    q_br ((x_count - 1) ≤ i2) (
  K12 i3 i4) (
  q_gd (q_in (i2 + 1) 4) (
  q_gd (q_in i2 4) (
  q_lt (upd i3 (i2.toNatClampNeg) (i3 ((i2 + 1).toNatClampNeg))) (fun u9 =>
  q_gd (q_in (i2 + 1) 4) (
  q_gd (q_in i2 4) (
  q_lt (upd i4 (i2.toNatClampNeg) (i4 ((i2 + 1).toNatClampNeg))) (fun u12 =>
  q_lt (i2 + 1 : Int32) (fun v13 =>
  f_X3_fell_L12 x_count K12 n12 v13 u9 u12))))))))
def f_X3_fell (x_delays : (Nat → Int32)) (x_transpositions : (Nat → Int32)) (x_count : Int32) (p1 : Int32) : Option (Int32 × (Nat → Int32) × (Nat → Int32) × Int32) :=
  q_bd (f_X3_has x_count p1) (fun q1 =>
  q_br (q1 = 0) (
  some ((-1), x_delays, x_transpositions, x_count)) (
  f_X3_fell_L12 x_count (fun y5 y6 =>
  some (x_count - 1, y5, y6, x_count - 1)) 2000 p1 x_delays x_transpositions))
theorem hv_X3_fell : yX3_fell.cls = RX3 ∧ yX3_fell.cls ≠ "java/lang/invoke/MethodHandle" ∧ yX3_fell.cls ≠ "java/lang/invoke/VarHandle" ∧ (parseMethodDescriptor yX3_fell.desc).map (fun d => d.parameters.length) = some 1 := by decide +kernel
abbrev rm_X3_fell : Room := { frames := 2, cells := 0, slots := 0, locals := 43 }
set_option maxHeartbeats 4000000 in
set_option maxRecDepth 100000 in
theorem k_X3_fell (l : Launch) (E : ET) (a : Nat → Nat) (o : Nat) (x : Cliffs_t) (p1 : Int32) (res : Int32 × (Nat → Int32) × (Nat → Int32) × Int32) (hF : f_X3_fell x.1 x.2.1 x.2.2 p1 = some res) (sz : Nat) : CtI l yX3_fell (mws yX3_fell cX3_fell 3 (some .int)) rm_X3_fell 0 0 [.ref (a o), .int p1] E (bl_Cliffs E a o x) res.1 (bl_Cliffs E a o (res.2.1, res.2.2.1, res.2.2.2)) sz := by
  refine mk_M (by decide +kernel) (Nat.le_of_ble_eq_true rfl) ?_
  intro p e s m below meth c A args Q ls hAe hsz hQ hx hb hr hml hin ha hown hlocks hA hz hzs hst hP hD hS hl
  have hown : s.vm.findClass RX3 = some m.cls := hown
  rw [hAe] at hQ
  subst hsz
  have hP : va_P E.1 vwCl (List.flatten [w_Cliffs E a o x]) s.heap := hP
  have hD : va_D A (List.flatten [w_Cliffs E a o x]) := hD
  have hl : lv_has ls 3 [(0, .ref (a o)), (1, .int p1)] := hl
  generalize hHe : s.heap = H at hP
  have hS : va_S A s.heap H [] := by rw [← hHe]; exact hS
  generalize ([] : List Loc) = locs at hS ⊢
  unfold f_X3_fell at hF
  refine lv_aload_n hx hb dX3_fell_0 rfl (lv_at hl 0 rfl) ?_
  refine lv_iload_n hx hb dX3_fell_1 rfl (lv_at hl 1 rfl) ?_
  obtain ⟨q1, hq1, hF⟩ := q_bdi hF
  refine cl_i (Lc := [w_Cliffs E a o x]) (Lc' := [w_Cliffs E a o x]) (L' := [w_Cliffs E a o x]) (rv := q1) (va_runV (As := [.int p1]) (rest := []) ⟨hx, hb, hml, hown, ha⟩ (k_X3_has l E a o x p1 q1 hq1 H.size) (cwV 1 ha (gi_V (fun _ h => h) mw474 mw475 mw476 mw31 mw477) rfl rfl rfl hv_X3_has ⟨(Nat.le_of_ble_eq_true rfl), (Nat.le_of_ble_eq_true rfl)⟩) ⟨pre_blind, va_recv hst.k (fr_P hP [0] rfl) (ci := 5) (q0 := 0) rfl rfl, pre_at hP hD hS hz hzs hst [0] (by decide) rfl rfl⟩ rfl rfl hl.1 rfl (lv_room (Nat.le_of_ble_eq_true rfl)) dX3_fell_2 ⟨(Nat.le_of_ble_eq_true rfl), (Nat.le_of_ble_eq_true rfl)⟩) hP hD hS hA [0] (by decide) rfl rfl rfl rfl (fun H locs hP hD hS => ?_)
  refine lv_if_ne (tgt := 10) hx hb dX3_fell_5 (by decide) (fun c5 => ?_) (fun c5 => ?_)
  · have hF := q_brn c5 hF
    refine lv_iload_n hx hb dX3_fell_10 rfl (lv_at hl 1 rfl) ?_
    refine lv_istore_n (lv' := [(2, .int p1), (0, .ref (a o)), (1, .int p1)]) hx hb dX3_fell_11 rfl hl (by decide) rfl (fun ls hl => ?_)
    have key12 : ∀ (K : (Nat → Int32) → (Nat → Int32) → Option (Int32 × (Nat → Int32) × (Nat → Int32) × Int32)), (∀ (y5 : (Nat → Int32)) (y6 : (Nat → Int32)) (H : Heap) (locs : List Loc) (ls : Array Slot), K y5 y6 = some res → va_P E.1 vwCl (List.flatten [w_Cliffs E a o (y5, y6, x.2.2)]) H → va_D A (List.flatten [w_Cliffs E a o (y5, y6, x.2.2)]) → va_S A s.heap H locs → lv_has ls 3 [(0, .ref (a o))] → W p l e rm_X3_fell s m args below meth c H locs 0 0 Q (F0 m 56 ls [])) → ∀ (n : Nat) (i2 : Int32) (i3 : (Nat → Int32)) (i4 : (Nat → Int32)) (H : Heap) (locs : List Loc) (ls : Array Slot), f_X3_fell_L12 x.2.2 K n i2 i3 i4 = some res → va_P E.1 vwCl (List.flatten [w_Cliffs E a o (i3, i4, x.2.2)]) H → va_D A (List.flatten [w_Cliffs E a o (i3, i4, x.2.2)]) → va_S A s.heap H locs → lv_has ls 3 [(2, .int i2), (0, .ref (a o))] → W p l e rm_X3_fell s m args below meth c H locs 0 0 Q (F0 m 12 ls []) := by
      intro K12 hK12 n12
      induction n12 with
      | zero => intro i2 i3 i4 H locs ls hF; exact absurd hF (by simp [f_X3_fell_L12])
      | succ n12 ih12 =>
        intro i2 i3 i4 H locs ls hF hP hD hS hl
        rw [f_X3_fell_L12] at hF
        refine lv_iload_n hx hb dX3_fell_12 rfl (lv_at hl 0 rfl) ?_
        refine lv_aload_n hx hb dX3_fell_13 rfl (lv_at hl 1 rfl) ?_
        refine va_get (D := E.1) (ci := 5) (v := .int x.2.2) (C := RX3) (T := TX3) (N := 3) hx hb ha in_X3 hown hst.k hP 0 rfl rfl 2 (by decide) (ha _ mw140) (fun _ h9 => h9) rfl dX3_fell_14 ?_
        refine lv_iconst (v := 1) hx hb dX3_fell_17 (by decide) ?_
        refine lv_isub hx hb dX3_fell_18 ?_
        refine lv_icmp_ge (tgt := 56) hx hb dX3_fell_19 (by decide) (fun c19 => ?_) (fun c19 => ?_)
        · have hF := q_brp c19 hF
          exact hK12 i3 i4 H locs ls hF hP hD hS (lv_sub hl [1] rfl)
        · have hF := q_brn c19 hF
          refine lv_aload_n hx hb dX3_fell_22 rfl (lv_at hl 1 rfl) ?_
          refine va_get (D := E.1) (ci := 5) (v := .ref (a (o + 1))) (C := RX3) (T := TX3) (N := 3) hx hb ha in_X3 hown hst.k hP 0 rfl rfl 0 (by decide) (ha _ mw134) (fun _ h9 => h9) rfl dX3_fell_23 ?_
          refine lv_iload_n hx hb dX3_fell_26 rfl (lv_at hl 0 rfl) ?_
          refine lv_aload_n hx hb dX3_fell_27 rfl (lv_at hl 1 rfl) ?_
          refine va_get (D := E.1) (ci := 5) (v := .ref (a (o + 1))) (C := RX3) (T := TX3) (N := 3) hx hb ha in_X3 hown hst.k hP 0 rfl rfl 0 (by decide) (ha _ mw134) (fun _ h9 => h9) rfl dX3_fell_28 ?_
          refine lv_iload_n hx hb dX3_fell_31 rfl (lv_at hl 0 rfl) ?_
          refine lv_iconst (v := 1) hx hb dX3_fell_32 (by decide) ?_
          refine lv_iadd hx hb dX3_fell_33 ?_
          obtain ⟨g7, hF⟩ := q_gdi hF
          refine vi_iald hx hb hst.k hP 1 0 rfl rfl (f := i3) (k := (i2 + 1).toNatClampNeg) rfl g7 dX3_fell_34 ?_
          obtain ⟨g8, hF⟩ := q_gdi hF
          refine vj_iast hx hb hst.k hP hD hS 1 0 rfl rfl (f := i3) (k := i2.toNatClampNeg) rfl g8 dX3_fell_35 (fun u9 eu9 H locs hP hD hS => ?_)
          have hF := q_lti eu9 hF
          have hP : va_P E.1 vwCl (List.flatten [w_Cliffs E a o (u9, i4, x.2.2)]) H := hP
          have hD : va_D A (List.flatten [w_Cliffs E a o (u9, i4, x.2.2)]) := hD
          refine lv_aload_n hx hb dX3_fell_36 rfl (lv_at hl 1 rfl) ?_
          refine va_get (D := E.1) (ci := 5) (v := .ref (a (o + 2))) (C := RX3) (T := TX3) (N := 3) hx hb ha in_X3 hown hst.k hP 0 rfl rfl 1 (by decide) (ha _ mw137) (fun _ h9 => h9) rfl dX3_fell_37 ?_
          refine lv_iload_n hx hb dX3_fell_40 rfl (lv_at hl 0 rfl) ?_
          refine lv_aload_n hx hb dX3_fell_41 rfl (lv_at hl 1 rfl) ?_
          refine va_get (D := E.1) (ci := 5) (v := .ref (a (o + 2))) (C := RX3) (T := TX3) (N := 3) hx hb ha in_X3 hown hst.k hP 0 rfl rfl 1 (by decide) (ha _ mw137) (fun _ h9 => h9) rfl dX3_fell_42 ?_
          refine lv_iload_n hx hb dX3_fell_45 rfl (lv_at hl 0 rfl) ?_
          refine lv_iconst (v := 1) hx hb dX3_fell_46 (by decide) ?_
          refine lv_iadd hx hb dX3_fell_47 ?_
          obtain ⟨g10, hF⟩ := q_gdi hF
          refine vi_iald hx hb hst.k hP 2 0 rfl rfl (f := i4) (k := (i2 + 1).toNatClampNeg) rfl g10 dX3_fell_48 ?_
          obtain ⟨g11, hF⟩ := q_gdi hF
          refine vj_iast hx hb hst.k hP hD hS 2 0 rfl rfl (f := i4) (k := i2.toNatClampNeg) rfl g11 dX3_fell_49 (fun u12 eu12 H locs hP hD hS => ?_)
          have hF := q_lti eu12 hF
          have hP : va_P E.1 vwCl (List.flatten [w_Cliffs E a o (u9, u12, x.2.2)]) H := hP
          have hD : va_D A (List.flatten [w_Cliffs E a o (u9, u12, x.2.2)]) := hD
          obtain ⟨v13, ev13⟩ : ∃ y : Int32, y = i2 + 1 := ⟨_, rfl⟩
          have hF := q_lti ev13 hF
          refine lv_iinc (v := v13) (lv' := [(2, .int v13), (0, .ref (a o))]) hx hb dX3_fell_50 hl (k := 0) rfl (by rw [ev13]; rfl) (by decide) rfl (fun ls hl => ?_)
          refine lv_goto (tgt := 12) hx hb dX3_fell_53 (by decide) ?_
          exact ih12 v13 u9 u12 H locs ls hF hP hD hS (lv_sub hl [0, 1] rfl)
    refine key12 _ ?_ _ p1 x.1 x.2.1 H locs ls hF hP hD hS (lv_sub hl [0, 1] rfl)
    intro y5 y6 H locs ls hF hP hD hS hl
    refine lv_aload_n hx hb dX3_fell_56 rfl (lv_at hl 0 rfl) ?_
    refine lv_dup hx hb dX3_fell_57 rfl ?_
    refine va_get (D := E.1) (ci := 5) (v := .int x.2.2) (C := RX3) (T := TX3) (N := 3) hx hb ha in_X3 hown hst.k hP 0 rfl rfl 2 (by decide) (ha _ mw140) (fun _ h9 => h9) rfl dX3_fell_58 ?_
    refine lv_iconst (v := 1) hx hb dX3_fell_61 (by decide) ?_
    refine lv_isub hx hb dX3_fell_62 ?_
    refine va_put (D := E.1) (ci := 5) (v := .int (x.2.2 - 1)) (ty := .int) (C := RX3) (T := TX3) (N := 3) hx hb ha in_X3 tyX3 tyX3_ok nmX3 hown hst.k hP hD hS 0 rfl rfl 2 (by decide) (ha _ mw140) (fun _ h9 => h9) rfl (tyX3_ok 2 (by decide)) rfl rfl (Nat.le_of_ble_eq_true rfl) dX3_fell_63 (fun H locs hP hD hS => ?_)
    have hP : va_P E.1 vwCl (List.flatten [w_Cliffs E a o (y5, y6, x.2.2 - 1)]) H := hP
    have hD : va_D A (List.flatten [w_Cliffs E a o (y5, y6, x.2.2 - 1)]) := hD
    refine lv_aload_n hx hb dX3_fell_66 rfl (lv_at hl 0 rfl) ?_
    refine va_get (D := E.1) (ci := 5) (v := .int (x.2.2 - 1)) (C := RX3) (T := TX3) (N := 3) hx hb ha in_X3 hown hst.k hP 0 rfl rfl 2 (by decide) (ha _ mw140) (fun _ h9 => h9) rfl dX3_fell_67 ?_
    obtain rfl := Option.some.inj hF
    exact en_i hQ (Nat.le_of_ble_eq_true rfl) (Nat.le_of_ble_eq_true rfl) hx hb hr hlocks hP hD hS rfl dX3_fell_70
  · have hF := q_brp c5 hF
    refine lv_iconst (v := (-1)) hx hb dX3_fell_8 (by decide) ?_
    obtain rfl := Option.some.inj hF
    exact en_i hQ (Nat.le_of_ble_eq_true rfl) (Nat.le_of_ble_eq_true rfl) hx hb hr hlocks hP hD hS rfl dX3_fell_9
