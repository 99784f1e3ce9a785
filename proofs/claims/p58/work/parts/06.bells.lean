/-! X1_has -/
theorem dX1_has_0 : decode cX1_has 0 = .ok (.iload_n 1, 1) := by decide +kernel
theorem dX1_has_1 : decode cX1_has 1 = .ok (.iconst 0, 1) := by decide +kernel
theorem dX1_has_2 : decode cX1_has 2 = .ok (.aload_n 0, 1) := by decide +kernel
theorem dX1_has_3 : decode cX1_has 3 = .ok (.getfield 18, 3) := by decide +kernel
theorem dX1_has_6 : decode cX1_has 6 = .ok (.iconst 1, 1) := by decide +kernel
theorem dX1_has_7 : decode cX1_has 7 = .ok (.isub, 1) := by decide +kernel
theorem dX1_has_8 : decode cX1_has 8 = .ok (.invokestatic 28, 3) := by decide +kernel
theorem dX1_has_11 : decode cX1_has 11 = .ok (.ireturn, 1) := by decide +kernel
def f_X1_has (x_count : Int32) (p1 : Int32) : Option (Int32) :=
  q_bd (f_X10_isWithin p1 0 (x_count - 1)) (fun q1 =>
  q_gd (q1 = 0 ∨ q1 = 1) (
  some q1))
theorem hv_X1_has : yX1_has.cls = RX1 ∧ yX1_has.cls ≠ "java/lang/invoke/MethodHandle" ∧ yX1_has.cls ≠ "java/lang/invoke/VarHandle" ∧ (parseMethodDescriptor yX1_has.desc).map (fun d => d.parameters.length) = some 1 := by decide +kernel
abbrev rm_X1_has : Room := { frames := 1, cells := 0, slots := 0, locals := 22 }
set_option maxHeartbeats 4000000 in
set_option maxRecDepth 100000 in
theorem k_X1_has (l : Launch) (E : ET) (a : Nat → Nat) (o : Nat) (x : Bells_t) (p1 : Int32) (res : Int32) (hF : f_X1_has x.2.2 p1 = some res) (sz : Nat) : CtI l yX1_has (mws yX1_has cX1_has 2 (some .boolean)) rm_X1_has 0 0 [.ref (a o), .int p1] E (bl_Bells E a o x) res (bl_Bells E a o x) sz := by
  refine mk_M (by decide +kernel) (Nat.le_of_ble_eq_true rfl) ?_
  intro p e s m below meth c A args Q ls hAe hsz hQ hx hb hr hml hin ha hown hlocks hA hz hzs hst hP hD hS hl
  have hown : s.vm.findClass RX1 = some m.cls := hown
  rw [hAe] at hQ
  subst hsz
  have hP : va_P E.1 vwCl (List.flatten [w_Bells E a o x]) s.heap := hP
  have hD : va_D A (List.flatten [w_Bells E a o x]) := hD
  have hl : lv_has ls 2 [(0, .ref (a o)), (1, .int p1)] := hl
  generalize hHe : s.heap = H at hP
  have hS : va_S A s.heap H [] := by rw [← hHe]; exact hS
  generalize ([] : List Loc) = locs at hS ⊢
  unfold f_X1_has at hF
  refine lv_iload_n hx hb dX1_has_0 rfl (lv_at hl 1 rfl) ?_
  refine lv_iconst (v := 0) hx hb dX1_has_1 (by decide) ?_
  refine lv_aload_n hx hb dX1_has_2 rfl (lv_at hl 0 rfl) ?_
  refine va_get (D := E.1) (ci := 3) (v := .int x.2.2) (C := RX1) (T := TX1) (N := 3) hx hb ha in_X1 hown hst.k hP 0 rfl rfl 2 (by decide) (ha _ mw99) (fun _ h9 => h9) rfl dX1_has_3 ?_
  refine lv_iconst (v := 1) hx hb dX1_has_6 (by decide) ?_
  refine lv_isub hx hb dX1_has_7 ?_
  obtain ⟨q1, hq1, hF⟩ := q_bdi hF
  refine cl_i (Lc := []) (Lc' := []) (L' := [w_Bells E a o x]) (rv := q1) (va_runSN (As := [.int p1, .int 0, .int (x.2.2 - 1)]) (rest := []) ⟨hx, hb, hml, hown, ha⟩ (k_X10_isWithin l E p1 0 (x.2.2 - 1) q1 hq1 H.size) ⟨va_cnB 3 ha (gi_B (fun _ h => h) mw375) rfl rfl rfl (nm10 hst) (ha _ mw26) hv_X10_isWithin.2 ⟨(Nat.le_of_ble_eq_true rfl), (Nat.le_of_ble_eq_true rfl)⟩, (ha _ mw374), trivial⟩ ⟨pre_blind, pre_at hP hD hS hz hzs hst [] (by decide) rfl rfl⟩ rfl rfl hl.1 rfl (lv_room (Nat.le_of_ble_eq_true rfl)) dX1_has_8 ⟨(Nat.le_of_ble_eq_true rfl), (Nat.le_of_ble_eq_true rfl)⟩) hP hD hS hA [] (by decide) rfl rfl rfl rfl (fun H locs hP hD hS => ?_)
  obtain ⟨g2, hF⟩ := q_gdi hF
  obtain rfl := Option.some.inj hF
  exact en_z hQ (Nat.le_of_ble_eq_true rfl) (Nat.le_of_ble_eq_true rfl) hx hb hr hlocks (nz_b g2) hP hD hS rfl dX1_has_11

/-! X1_hang -/
theorem dX1_hang_0 : decode cX1_hang 0 = .ok (.iload_n 1, 1) := by decide +kernel
theorem dX1_hang_1 : decode cX1_hang 1 = .ok (.invokestatic 32, 3) := by decide +kernel
theorem dX1_hang_4 : decode cX1_hang 4 = .ok (.ifCond .ne 5, 3) := by decide +kernel
theorem dX1_hang_7 : decode cX1_hang 7 = .ok (.iconst (-1), 1) := by decide +kernel
theorem dX1_hang_8 : decode cX1_hang 8 = .ok (.ireturn, 1) := by decide +kernel
theorem dX1_hang_9 : decode cX1_hang 9 = .ok (.iload_n 2, 1) := by decide +kernel
theorem dX1_hang_10 : decode cX1_hang 10 = .ok (.sipush 3600, 3) := by decide +kernel
theorem dX1_hang_13 : decode cX1_hang 13 = .ok (.sipush 8400, 3) := by decide +kernel
theorem dX1_hang_16 : decode cX1_hang 16 = .ok (.invokestatic 28, 3) := by decide +kernel
theorem dX1_hang_19 : decode cX1_hang 19 = .ok (.ifCond .ne 6, 3) := by decide +kernel
theorem dX1_hang_22 : decode cX1_hang 22 = .ok (.bipush (-2), 2) := by decide +kernel
theorem dX1_hang_24 : decode cX1_hang 24 = .ok (.ireturn, 1) := by decide +kernel
theorem dX1_hang_25 : decode cX1_hang 25 = .ok (.aload_n 0, 1) := by decide +kernel
theorem dX1_hang_26 : decode cX1_hang 26 = .ok (.getfield 18, 3) := by decide +kernel
theorem dX1_hang_29 : decode cX1_hang 29 = .ok (.bipush 12, 2) := by decide +kernel
theorem dX1_hang_31 : decode cX1_hang 31 = .ok (.if_icmp .lt 6, 3) := by decide +kernel
theorem dX1_hang_34 : decode cX1_hang 34 = .ok (.bipush (-3), 2) := by decide +kernel
theorem dX1_hang_36 : decode cX1_hang 36 = .ok (.ireturn, 1) := by decide +kernel
theorem dX1_hang_37 : decode cX1_hang 37 = .ok (.aload_n 0, 1) := by decide +kernel
theorem dX1_hang_38 : decode cX1_hang 38 = .ok (.getfield 11, 3) := by decide +kernel
theorem dX1_hang_41 : decode cX1_hang 41 = .ok (.aload_n 0, 1) := by decide +kernel
theorem dX1_hang_42 : decode cX1_hang 42 = .ok (.getfield 18, 3) := by decide +kernel
theorem dX1_hang_45 : decode cX1_hang 45 = .ok (.iload_n 1, 1) := by decide +kernel
theorem dX1_hang_46 : decode cX1_hang 46 = .ok (.iastore, 1) := by decide +kernel
theorem dX1_hang_47 : decode cX1_hang 47 = .ok (.aload_n 0, 1) := by decide +kernel
theorem dX1_hang_48 : decode cX1_hang 48 = .ok (.getfield 15, 3) := by decide +kernel
theorem dX1_hang_51 : decode cX1_hang 51 = .ok (.aload_n 0, 1) := by decide +kernel
theorem dX1_hang_52 : decode cX1_hang 52 = .ok (.getfield 18, 3) := by decide +kernel
theorem dX1_hang_55 : decode cX1_hang 55 = .ok (.iload_n 2, 1) := by decide +kernel
theorem dX1_hang_56 : decode cX1_hang 56 = .ok (.iastore, 1) := by decide +kernel
theorem dX1_hang_57 : decode cX1_hang 57 = .ok (.aload_n 0, 1) := by decide +kernel
theorem dX1_hang_58 : decode cX1_hang 58 = .ok (.dup, 1) := by decide +kernel
theorem dX1_hang_59 : decode cX1_hang 59 = .ok (.getfield 18, 3) := by decide +kernel
theorem dX1_hang_62 : decode cX1_hang 62 = .ok (.iconst 1, 1) := by decide +kernel
theorem dX1_hang_63 : decode cX1_hang 63 = .ok (.iadd, 1) := by decide +kernel
theorem dX1_hang_64 : decode cX1_hang 64 = .ok (.putfield 18, 3) := by decide +kernel
theorem dX1_hang_67 : decode cX1_hang 67 = .ok (.aload_n 0, 1) := by decide +kernel
theorem dX1_hang_68 : decode cX1_hang 68 = .ok (.getfield 18, 3) := by decide +kernel
theorem dX1_hang_71 : decode cX1_hang 71 = .ok (.iconst 1, 1) := by decide +kernel
theorem dX1_hang_72 : decode cX1_hang 72 = .ok (.isub, 1) := by decide +kernel
theorem dX1_hang_73 : decode cX1_hang 73 = .ok (.ireturn, 1) := by decide +kernel
def f_X1_hang (x_herds : (Nat → Int32)) (x_pitches : (Nat → Int32)) (x_count : Int32) (p1 : Int32) (p2 : Int32) : Option (Int32 × (Nat → Int32) × (Nat → Int32) × Int32) :=
  q_bd (f_X10_isHerd p1) (fun q1 =>
  q_br (q1 = 0) (
  some ((-1), x_herds, x_pitches, x_count)) (
  q_bd (f_X10_isWithin p2 3600 8400) (fun q2 =>
  q_br (q2 = 0) (
  some ((-2), x_herds, x_pitches, x_count)) (
  q_br (x_count < 12) (
  q_gd (q_in x_count 12) (
  q_lt (upd x_herds (x_count.toNatClampNeg) p1) (fun u4 =>
  q_gd (q_in x_count 12) (
  q_lt (upd x_pitches (x_count.toNatClampNeg) p2) (fun u6 =>
  some ((x_count + 1) - 1, u4, u6, x_count + 1)))))) (
  some ((-3), x_herds, x_pitches, x_count))))))
theorem hv_X1_hang : yX1_hang.cls = RX1 ∧ yX1_hang.cls ≠ "java/lang/invoke/MethodHandle" ∧ yX1_hang.cls ≠ "java/lang/invoke/VarHandle" ∧ (parseMethodDescriptor yX1_hang.desc).map (fun d => d.parameters.length) = some 2 := by decide +kernel
abbrev rm_X1_hang : Room := { frames := 2, cells := 0, slots := 0, locals := 42 }
set_option maxHeartbeats 4000000 in
set_option maxRecDepth 100000 in
theorem k_X1_hang (l : Launch) (E : ET) (a : Nat → Nat) (o : Nat) (x : Bells_t) (p1 : Int32) (p2 : Int32) (res : Int32 × (Nat → Int32) × (Nat → Int32) × Int32) (hF : f_X1_hang x.1 x.2.1 x.2.2 p1 p2 = some res) (sz : Nat) : CtI l yX1_hang (mws yX1_hang cX1_hang 3 (some .int)) rm_X1_hang 0 0 [.ref (a o), .int p1, .int p2] E (bl_Bells E a o x) res.1 (bl_Bells E a o (res.2.1, res.2.2.1, res.2.2.2)) sz := by
  refine mk_M (by decide +kernel) (Nat.le_of_ble_eq_true rfl) ?_
  intro p e s m below meth c A args Q ls hAe hsz hQ hx hb hr hml hin ha hown hlocks hA hz hzs hst hP hD hS hl
  have hown : s.vm.findClass RX1 = some m.cls := hown
  rw [hAe] at hQ
  subst hsz
  have hP : va_P E.1 vwCl (List.flatten [w_Bells E a o x]) s.heap := hP
  have hD : va_D A (List.flatten [w_Bells E a o x]) := hD
  have hl : lv_has ls 3 [(0, .ref (a o)), (1, .int p1), (2, .int p2)] := hl
  generalize hHe : s.heap = H at hP
  have hS : va_S A s.heap H [] := by rw [← hHe]; exact hS
  generalize ([] : List Loc) = locs at hS ⊢
  unfold f_X1_hang at hF
  refine lv_iload_n hx hb dX1_hang_0 rfl (lv_at hl 1 rfl) ?_
  obtain ⟨q1, hq1, hF⟩ := q_bdi hF
  refine cl_i (Lc := []) (Lc' := []) (L' := [w_Bells E a o x]) (rv := q1) (va_runSN (As := [.int p1]) (rest := []) ⟨hx, hb, hml, hown, ha⟩ (k_X10_isHerd l E p1 q1 hq1 H.size) ⟨va_cnB 1 ha (gi_B (fun _ h => h) mw372) rfl rfl rfl (nm9 hst) (ha _ mw26) hv_X10_isHerd.2 ⟨(Nat.le_of_ble_eq_true rfl), (Nat.le_of_ble_eq_true rfl)⟩, (ha _ mw371), trivial⟩ ⟨pre_blind, pre_at hP hD hS hz hzs hst [] (by decide) rfl rfl⟩ rfl rfl hl.1 rfl (lv_room (Nat.le_of_ble_eq_true rfl)) dX1_hang_1 ⟨(Nat.le_of_ble_eq_true rfl), (Nat.le_of_ble_eq_true rfl)⟩) hP hD hS hA [] (by decide) rfl rfl rfl rfl (fun H locs hP hD hS => ?_)
  refine lv_if_ne (tgt := 9) hx hb dX1_hang_4 (by decide) (fun c4 => ?_) (fun c4 => ?_)
  · have hF := q_brn c4 hF
    refine lv_iload_n hx hb dX1_hang_9 rfl (lv_at hl 2 rfl) ?_
    refine lv_sipush (v := 3600) hx hb dX1_hang_10 (by decide) ?_
    refine lv_sipush (v := 8400) hx hb dX1_hang_13 (by decide) ?_
    obtain ⟨q2, hq2, hF⟩ := q_bdi hF
    refine cl_i (Lc := []) (Lc' := []) (L' := [w_Bells E a o x]) (rv := q2) (va_runSN (As := [.int p2, .int 3600, .int 8400]) (rest := []) ⟨hx, hb, hml, hown, ha⟩ (k_X10_isWithin l E p2 3600 8400 q2 hq2 H.size) ⟨va_cnB 3 ha (gi_B (fun _ h => h) mw375) rfl rfl rfl (nm10 hst) (ha _ mw26) hv_X10_isWithin.2 ⟨(Nat.le_of_ble_eq_true rfl), (Nat.le_of_ble_eq_true rfl)⟩, (ha _ mw374), trivial⟩ ⟨pre_blind, pre_at hP hD hS hz hzs hst [] (by decide) rfl rfl⟩ rfl rfl hl.1 rfl (lv_room (Nat.le_of_ble_eq_true rfl)) dX1_hang_16 ⟨(Nat.le_of_ble_eq_true rfl), (Nat.le_of_ble_eq_true rfl)⟩) hP hD hS hA [] (by decide) rfl rfl rfl rfl (fun H locs hP hD hS => ?_)
    refine lv_if_ne (tgt := 25) hx hb dX1_hang_19 (by decide) (fun c19 => ?_) (fun c19 => ?_)
    · have hF := q_brn c19 hF
      refine lv_aload_n hx hb dX1_hang_25 rfl (lv_at hl 0 rfl) ?_
      refine va_get (D := E.1) (ci := 3) (v := .int x.2.2) (C := RX1) (T := TX1) (N := 3) hx hb ha in_X1 hown hst.k hP 0 rfl rfl 2 (by decide) (ha _ mw99) (fun _ h9 => h9) rfl dX1_hang_26 ?_
      refine lv_bipush (v := 12) hx hb dX1_hang_29 (by decide) ?_
      refine lv_icmp_lt (tgt := 37) hx hb dX1_hang_31 (by decide) (fun c31 => ?_) (fun c31 => ?_)
      · have hF := q_brp c31 hF
        refine lv_aload_n hx hb dX1_hang_37 rfl (lv_at hl 0 rfl) ?_
        refine va_get (D := E.1) (ci := 3) (v := .ref (a (o + 1))) (C := RX1) (T := TX1) (N := 3) hx hb ha in_X1 hown hst.k hP 0 rfl rfl 0 (by decide) (ha _ mw95) (fun _ h9 => h9) rfl dX1_hang_38 ?_
        refine lv_aload_n hx hb dX1_hang_41 rfl (lv_at hl 0 rfl) ?_
        refine va_get (D := E.1) (ci := 3) (v := .int x.2.2) (C := RX1) (T := TX1) (N := 3) hx hb ha in_X1 hown hst.k hP 0 rfl rfl 2 (by decide) (ha _ mw99) (fun _ h9 => h9) rfl dX1_hang_42 ?_
        refine lv_iload_n hx hb dX1_hang_45 rfl (lv_at hl 1 rfl) ?_
        obtain ⟨g3, hF⟩ := q_gdi hF
        refine vj_iast hx hb hst.k hP hD hS 1 0 rfl rfl (f := x.1) (k := x.2.2.toNatClampNeg) rfl g3 dX1_hang_46 (fun u4 eu4 H locs hP hD hS => ?_)
        have hF := q_lti eu4 hF
        have hP : va_P E.1 vwCl (List.flatten [w_Bells E a o (u4, x.2.1, x.2.2)]) H := hP
        have hD : va_D A (List.flatten [w_Bells E a o (u4, x.2.1, x.2.2)]) := hD
        refine lv_aload_n hx hb dX1_hang_47 rfl (lv_at hl 0 rfl) ?_
        refine va_get (D := E.1) (ci := 3) (v := .ref (a (o + 2))) (C := RX1) (T := TX1) (N := 3) hx hb ha in_X1 hown hst.k hP 0 rfl rfl 1 (by decide) (ha _ mw97) (fun _ h9 => h9) rfl dX1_hang_48 ?_
        refine lv_aload_n hx hb dX1_hang_51 rfl (lv_at hl 0 rfl) ?_
        refine va_get (D := E.1) (ci := 3) (v := .int x.2.2) (C := RX1) (T := TX1) (N := 3) hx hb ha in_X1 hown hst.k hP 0 rfl rfl 2 (by decide) (ha _ mw99) (fun _ h9 => h9) rfl dX1_hang_52 ?_
        refine lv_iload_n hx hb dX1_hang_55 rfl (lv_at hl 2 rfl) ?_
        obtain ⟨g5, hF⟩ := q_gdi hF
        refine vj_iast hx hb hst.k hP hD hS 2 0 rfl rfl (f := x.2.1) (k := x.2.2.toNatClampNeg) rfl g5 dX1_hang_56 (fun u6 eu6 H locs hP hD hS => ?_)
        have hF := q_lti eu6 hF
        have hP : va_P E.1 vwCl (List.flatten [w_Bells E a o (u4, u6, x.2.2)]) H := hP
        have hD : va_D A (List.flatten [w_Bells E a o (u4, u6, x.2.2)]) := hD
        refine lv_aload_n hx hb dX1_hang_57 rfl (lv_at hl 0 rfl) ?_
        refine lv_dup hx hb dX1_hang_58 rfl ?_
        refine va_get (D := E.1) (ci := 3) (v := .int x.2.2) (C := RX1) (T := TX1) (N := 3) hx hb ha in_X1 hown hst.k hP 0 rfl rfl 2 (by decide) (ha _ mw99) (fun _ h9 => h9) rfl dX1_hang_59 ?_
        refine lv_iconst (v := 1) hx hb dX1_hang_62 (by decide) ?_
        refine lv_iadd hx hb dX1_hang_63 ?_
        refine va_put (D := E.1) (ci := 3) (v := .int (x.2.2 + 1)) (ty := .int) (C := RX1) (T := TX1) (N := 3) hx hb ha in_X1 tyX1 tyX1_ok nmX1 hown hst.k hP hD hS 0 rfl rfl 2 (by decide) (ha _ mw99) (fun _ h9 => h9) rfl (tyX1_ok 2 (by decide)) rfl rfl (Nat.le_of_ble_eq_true rfl) dX1_hang_64 (fun H locs hP hD hS => ?_)
        have hP : va_P E.1 vwCl (List.flatten [w_Bells E a o (u4, u6, x.2.2 + 1)]) H := hP
        have hD : va_D A (List.flatten [w_Bells E a o (u4, u6, x.2.2 + 1)]) := hD
        refine lv_aload_n hx hb dX1_hang_67 rfl (lv_at hl 0 rfl) ?_
        refine va_get (D := E.1) (ci := 3) (v := .int (x.2.2 + 1)) (C := RX1) (T := TX1) (N := 3) hx hb ha in_X1 hown hst.k hP 0 rfl rfl 2 (by decide) (ha _ mw99) (fun _ h9 => h9) rfl dX1_hang_68 ?_
        refine lv_iconst (v := 1) hx hb dX1_hang_71 (by decide) ?_
        refine lv_isub hx hb dX1_hang_72 ?_
        obtain rfl := Option.some.inj hF
        exact en_i hQ (Nat.le_of_ble_eq_true rfl) (Nat.le_of_ble_eq_true rfl) hx hb hr hlocks hP hD hS rfl dX1_hang_73
      · have hF := q_brn c31 hF
        refine lv_bipush (v := (-3)) hx hb dX1_hang_34 (by decide) ?_
        obtain rfl := Option.some.inj hF
        exact en_i hQ (Nat.le_of_ble_eq_true rfl) (Nat.le_of_ble_eq_true rfl) hx hb hr hlocks hP hD hS rfl dX1_hang_36
    · have hF := q_brp c19 hF
      refine lv_bipush (v := (-2)) hx hb dX1_hang_22 (by decide) ?_
      obtain rfl := Option.some.inj hF
      exact en_i hQ (Nat.le_of_ble_eq_true rfl) (Nat.le_of_ble_eq_true rfl) hx hb hr hlocks hP hD hS rfl dX1_hang_24
  · have hF := q_brp c4 hF
    refine lv_iconst (v := (-1)) hx hb dX1_hang_7 (by decide) ?_
    obtain rfl := Option.some.inj hF
    exact en_i hQ (Nat.le_of_ble_eq_true rfl) (Nat.le_of_ble_eq_true rfl) hx hb hr hlocks hP hD hS rfl dX1_hang_8

/-! X1_takeDown -/
theorem dX1_takeDown_0 : decode cX1_takeDown 0 = .ok (.iload_n 1, 1) := by decide +kernel
theorem dX1_takeDown_1 : decode cX1_takeDown 1 = .ok (.istore_n 2, 1) := by decide +kernel
theorem dX1_takeDown_2 : decode cX1_takeDown 2 = .ok (.iload_n 2, 1) := by decide +kernel
theorem dX1_takeDown_3 : decode cX1_takeDown 3 = .ok (.aload_n 0, 1) := by decide +kernel
theorem dX1_takeDown_4 : decode cX1_takeDown 4 = .ok (.getfield 18, 3) := by decide +kernel
theorem dX1_takeDown_7 : decode cX1_takeDown 7 = .ok (.iconst 1, 1) := by decide +kernel
theorem dX1_takeDown_8 : decode cX1_takeDown 8 = .ok (.isub, 1) := by decide +kernel
theorem dX1_takeDown_9 : decode cX1_takeDown 9 = .ok (.if_icmp .ge 37, 3) := by decide +kernel
theorem dX1_takeDown_12 : decode cX1_takeDown 12 = .ok (.aload_n 0, 1) := by decide +kernel
theorem dX1_takeDown_13 : decode cX1_takeDown 13 = .ok (.getfield 11, 3) := by decide +kernel
theorem dX1_takeDown_16 : decode cX1_takeDown 16 = .ok (.iload_n 2, 1) := by decide +kernel
theorem dX1_takeDown_17 : decode cX1_takeDown 17 = .ok (.aload_n 0, 1) := by decide +kernel
theorem dX1_takeDown_18 : decode cX1_takeDown 18 = .ok (.getfield 11, 3) := by decide +kernel
theorem dX1_takeDown_21 : decode cX1_takeDown 21 = .ok (.iload_n 2, 1) := by decide +kernel
theorem dX1_takeDown_22 : decode cX1_takeDown 22 = .ok (.iconst 1, 1) := by decide +kernel
theorem dX1_takeDown_23 : decode cX1_takeDown 23 = .ok (.iadd, 1) := by decide +kernel
theorem dX1_takeDown_24 : decode cX1_takeDown 24 = .ok (.iaload, 1) := by decide +kernel
theorem dX1_takeDown_25 : decode cX1_takeDown 25 = .ok (.iastore, 1) := by decide +kernel
theorem dX1_takeDown_26 : decode cX1_takeDown 26 = .ok (.aload_n 0, 1) := by decide +kernel
theorem dX1_takeDown_27 : decode cX1_takeDown 27 = .ok (.getfield 15, 3) := by decide +kernel
theorem dX1_takeDown_30 : decode cX1_takeDown 30 = .ok (.iload_n 2, 1) := by decide +kernel
theorem dX1_takeDown_31 : decode cX1_takeDown 31 = .ok (.aload_n 0, 1) := by decide +kernel
theorem dX1_takeDown_32 : decode cX1_takeDown 32 = .ok (.getfield 15, 3) := by decide +kernel
theorem dX1_takeDown_35 : decode cX1_takeDown 35 = .ok (.iload_n 2, 1) := by decide +kernel
theorem dX1_takeDown_36 : decode cX1_takeDown 36 = .ok (.iconst 1, 1) := by decide +kernel
theorem dX1_takeDown_37 : decode cX1_takeDown 37 = .ok (.iadd, 1) := by decide +kernel
theorem dX1_takeDown_38 : decode cX1_takeDown 38 = .ok (.iaload, 1) := by decide +kernel
theorem dX1_takeDown_39 : decode cX1_takeDown 39 = .ok (.iastore, 1) := by decide +kernel
theorem dX1_takeDown_40 : decode cX1_takeDown 40 = .ok (.iinc 2 1, 3) := by decide +kernel
theorem dX1_takeDown_43 : decode cX1_takeDown 43 = .ok (.goto (-41), 3) := by decide +kernel
theorem dX1_takeDown_46 : decode cX1_takeDown 46 = .ok (.aload_n 0, 1) := by decide +kernel
theorem dX1_takeDown_47 : decode cX1_takeDown 47 = .ok (.dup, 1) := by decide +kernel
theorem dX1_takeDown_48 : decode cX1_takeDown 48 = .ok (.getfield 18, 3) := by decide +kernel
theorem dX1_takeDown_51 : decode cX1_takeDown 51 = .ok (.iconst 1, 1) := by decide +kernel
theorem dX1_takeDown_52 : decode cX1_takeDown 52 = .ok (.isub, 1) := by decide +kernel
theorem dX1_takeDown_53 : decode cX1_takeDown 53 = .ok (.putfield 18, 3) := by decide +kernel
theorem dX1_takeDown_56 : decode cX1_takeDown 56 = .ok (.return_, 1) := by decide +kernel
def f_X1_takeDown_L2 (x_count : Int32) (K2 : (Nat → Int32) → (Nat → Int32) → Option ((Nat → Int32) × (Nat → Int32) × Int32)) : Nat → Int32 → (Nat → Int32) → (Nat → Int32) → Option ((Nat → Int32) × (Nat → Int32) × Int32)
  | 0, _, _, _ => none
  | n2 + 1, i1, i2, i3 =>
    q_br ((x_count - 1) ≤ i1) (
  K2 i2 i3) (
  q_gd (q_in (i1 + 1) 12) (
  q_gd (q_in i1 12) (
  q_lt (upd i2 (i1.toNatClampNeg) (i2 ((i1 + 1).toNatClampNeg))) (fun u8 =>
  q_gd (q_in (i1 + 1) 12) (
  q_gd (q_in i1 12) (
  q_lt (upd i3 (i1.toNatClampNeg) (i3 ((i1 + 1).toNatClampNeg))) (fun u11 =>
  q_lt (i1 + 1 : Int32) (fun v12 =>
  f_X1_takeDown_L2 x_count K2 n2 v12 u8 u11))))))))
def f_X1_takeDown (x_herds : (Nat → Int32)) (x_pitches : (Nat → Int32)) (x_count : Int32) (p1 : Int32) : Option ((Nat → Int32) × (Nat → Int32) × Int32) :=
  f_X1_takeDown_L2 x_count (fun y4 y5 =>
  some (y4, y5, x_count - 1)) 2000 p1 x_herds x_pitches
theorem hv_X1_takeDown : yX1_takeDown.cls = RX1 ∧ yX1_takeDown.cls ≠ "java/lang/invoke/MethodHandle" ∧ yX1_takeDown.cls ≠ "java/lang/invoke/VarHandle" ∧ (parseMethodDescriptor yX1_takeDown.desc).map (fun d => d.parameters.length) = some 1 := by decide +kernel
abbrev rm_X1_takeDown : Room := { frames := 0, cells := 0, slots := 0, locals := 0 }
set_option maxHeartbeats 4000000 in
set_option maxRecDepth 100000 in
theorem k_X1_takeDown (l : Launch) (E : ET) (a : Nat → Nat) (o : Nat) (x : Bells_t) (p1 : Int32) (res : (Nat → Int32) × (Nat → Int32) × Int32) (hF : f_X1_takeDown x.1 x.2.1 x.2.2 p1 = some res) (sz : Nat) : CtV l yX1_takeDown (mws yX1_takeDown cX1_takeDown 3 none) rm_X1_takeDown 0 0 [.ref (a o), .int p1] E (bl_Bells E a o x) (bl_Bells E a o (res.1, res.2.1, res.2.2)) sz := by
  refine mk_M (by decide +kernel) (Nat.le_of_ble_eq_true rfl) ?_
  intro p e s m below meth c A args Q ls hAe hsz hQ hx hb hr hml hin ha hown hlocks hA hz hzs hst hP hD hS hl
  have hown : s.vm.findClass RX1 = some m.cls := hown
  rw [hAe] at hQ
  subst hsz
  have hP : va_P E.1 vwCl (List.flatten [w_Bells E a o x]) s.heap := hP
  have hD : va_D A (List.flatten [w_Bells E a o x]) := hD
  have hl : lv_has ls 3 [(0, .ref (a o)), (1, .int p1)] := hl
  generalize hHe : s.heap = H at hP
  have hS : va_S A s.heap H [] := by rw [← hHe]; exact hS
  generalize ([] : List Loc) = locs at hS ⊢
  unfold f_X1_takeDown at hF
  refine lv_iload_n hx hb dX1_takeDown_0 rfl (lv_at hl 1 rfl) ?_
  refine lv_istore_n (lv' := [(2, .int p1), (0, .ref (a o)), (1, .int p1)]) hx hb dX1_takeDown_1 rfl hl (by decide) rfl (fun ls hl => ?_)
  have key2 : ∀ (K : (Nat → Int32) → (Nat → Int32) → Option ((Nat → Int32) × (Nat → Int32) × Int32)), (∀ (y4 : (Nat → Int32)) (y5 : (Nat → Int32)) (H : Heap) (locs : List Loc) (ls : Array Slot), K y4 y5 = some res → va_P E.1 vwCl (List.flatten [w_Bells E a o (y4, y5, x.2.2)]) H → va_D A (List.flatten [w_Bells E a o (y4, y5, x.2.2)]) → va_S A s.heap H locs → lv_has ls 3 [(0, .ref (a o))] → W p l e rm_X1_takeDown s m args below meth c H locs 0 0 Q (F0 m 46 ls [])) → ∀ (n : Nat) (i1 : Int32) (i2 : (Nat → Int32)) (i3 : (Nat → Int32)) (H : Heap) (locs : List Loc) (ls : Array Slot), f_X1_takeDown_L2 x.2.2 K n i1 i2 i3 = some res → va_P E.1 vwCl (List.flatten [w_Bells E a o (i2, i3, x.2.2)]) H → va_D A (List.flatten [w_Bells E a o (i2, i3, x.2.2)]) → va_S A s.heap H locs → lv_has ls 3 [(2, .int i1), (0, .ref (a o))] → W p l e rm_X1_takeDown s m args below meth c H locs 0 0 Q (F0 m 2 ls []) := by
    intro K2 hK2 n2
    induction n2 with
    | zero => intro i1 i2 i3 H locs ls hF; exact absurd hF (by simp [f_X1_takeDown_L2])
    | succ n2 ih2 =>
      intro i1 i2 i3 H locs ls hF hP hD hS hl
      rw [f_X1_takeDown_L2] at hF
      refine lv_iload_n hx hb dX1_takeDown_2 rfl (lv_at hl 0 rfl) ?_
      refine lv_aload_n hx hb dX1_takeDown_3 rfl (lv_at hl 1 rfl) ?_
      refine va_get (D := E.1) (ci := 3) (v := .int x.2.2) (C := RX1) (T := TX1) (N := 3) hx hb ha in_X1 hown hst.k hP 0 rfl rfl 2 (by decide) (ha _ mw99) (fun _ h9 => h9) rfl dX1_takeDown_4 ?_
      refine lv_iconst (v := 1) hx hb dX1_takeDown_7 (by decide) ?_
      refine lv_isub hx hb dX1_takeDown_8 ?_
      refine lv_icmp_ge (tgt := 46) hx hb dX1_takeDown_9 (by decide) (fun c9 => ?_) (fun c9 => ?_)
      · have hF := q_brp c9 hF
        exact hK2 i2 i3 H locs ls hF hP hD hS (lv_sub hl [1] rfl)
      · have hF := q_brn c9 hF
        refine lv_aload_n hx hb dX1_takeDown_12 rfl (lv_at hl 1 rfl) ?_
        refine va_get (D := E.1) (ci := 3) (v := .ref (a (o + 1))) (C := RX1) (T := TX1) (N := 3) hx hb ha in_X1 hown hst.k hP 0 rfl rfl 0 (by decide) (ha _ mw95) (fun _ h9 => h9) rfl dX1_takeDown_13 ?_
        refine lv_iload_n hx hb dX1_takeDown_16 rfl (lv_at hl 0 rfl) ?_
        refine lv_aload_n hx hb dX1_takeDown_17 rfl (lv_at hl 1 rfl) ?_
        refine va_get (D := E.1) (ci := 3) (v := .ref (a (o + 1))) (C := RX1) (T := TX1) (N := 3) hx hb ha in_X1 hown hst.k hP 0 rfl rfl 0 (by decide) (ha _ mw95) (fun _ h9 => h9) rfl dX1_takeDown_18 ?_
        refine lv_iload_n hx hb dX1_takeDown_21 rfl (lv_at hl 0 rfl) ?_
        refine lv_iconst (v := 1) hx hb dX1_takeDown_22 (by decide) ?_
        refine lv_iadd hx hb dX1_takeDown_23 ?_
        obtain ⟨g6, hF⟩ := q_gdi hF
        refine vi_iald hx hb hst.k hP 1 0 rfl rfl (f := i2) (k := (i1 + 1).toNatClampNeg) rfl g6 dX1_takeDown_24 ?_
        obtain ⟨g7, hF⟩ := q_gdi hF
        refine vj_iast hx hb hst.k hP hD hS 1 0 rfl rfl (f := i2) (k := i1.toNatClampNeg) rfl g7 dX1_takeDown_25 (fun u8 eu8 H locs hP hD hS => ?_)
        have hF := q_lti eu8 hF
        have hP : va_P E.1 vwCl (List.flatten [w_Bells E a o (u8, i3, x.2.2)]) H := hP
        have hD : va_D A (List.flatten [w_Bells E a o (u8, i3, x.2.2)]) := hD
        refine lv_aload_n hx hb dX1_takeDown_26 rfl (lv_at hl 1 rfl) ?_
        refine va_get (D := E.1) (ci := 3) (v := .ref (a (o + 2))) (C := RX1) (T := TX1) (N := 3) hx hb ha in_X1 hown hst.k hP 0 rfl rfl 1 (by decide) (ha _ mw97) (fun _ h9 => h9) rfl dX1_takeDown_27 ?_
        refine lv_iload_n hx hb dX1_takeDown_30 rfl (lv_at hl 0 rfl) ?_
        refine lv_aload_n hx hb dX1_takeDown_31 rfl (lv_at hl 1 rfl) ?_
        refine va_get (D := E.1) (ci := 3) (v := .ref (a (o + 2))) (C := RX1) (T := TX1) (N := 3) hx hb ha in_X1 hown hst.k hP 0 rfl rfl 1 (by decide) (ha _ mw97) (fun _ h9 => h9) rfl dX1_takeDown_32 ?_
        refine lv_iload_n hx hb dX1_takeDown_35 rfl (lv_at hl 0 rfl) ?_
        refine lv_iconst (v := 1) hx hb dX1_takeDown_36 (by decide) ?_
        refine lv_iadd hx hb dX1_takeDown_37 ?_
        obtain ⟨g9, hF⟩ := q_gdi hF
        refine vi_iald hx hb hst.k hP 2 0 rfl rfl (f := i3) (k := (i1 + 1).toNatClampNeg) rfl g9 dX1_takeDown_38 ?_
        obtain ⟨g10, hF⟩ := q_gdi hF
        refine vj_iast hx hb hst.k hP hD hS 2 0 rfl rfl (f := i3) (k := i1.toNatClampNeg) rfl g10 dX1_takeDown_39 (fun u11 eu11 H locs hP hD hS => ?_)
        have hF := q_lti eu11 hF
        have hP : va_P E.1 vwCl (List.flatten [w_Bells E a o (u8, u11, x.2.2)]) H := hP
        have hD : va_D A (List.flatten [w_Bells E a o (u8, u11, x.2.2)]) := hD
        obtain ⟨v12, ev12⟩ : ∃ y : Int32, y = i1 + 1 := ⟨_, rfl⟩
        have hF := q_lti ev12 hF
        refine lv_iinc (v := v12) (lv' := [(2, .int v12), (0, .ref (a o))]) hx hb dX1_takeDown_40 hl (k := 0) rfl (by rw [ev12]; rfl) (by decide) rfl (fun ls hl => ?_)
        refine lv_goto (tgt := 2) hx hb dX1_takeDown_43 (by decide) ?_
        exact ih2 v12 u8 u11 H locs ls hF hP hD hS (lv_sub hl [0, 1] rfl)
  refine key2 _ ?_ _ p1 x.1 x.2.1 H locs ls hF hP hD hS (lv_sub hl [0, 1] rfl)
  intro y4 y5 H locs ls hF hP hD hS hl
  refine lv_aload_n hx hb dX1_takeDown_46 rfl (lv_at hl 0 rfl) ?_
  refine lv_dup hx hb dX1_takeDown_47 rfl ?_
  refine va_get (D := E.1) (ci := 3) (v := .int x.2.2) (C := RX1) (T := TX1) (N := 3) hx hb ha in_X1 hown hst.k hP 0 rfl rfl 2 (by decide) (ha _ mw99) (fun _ h9 => h9) rfl dX1_takeDown_48 ?_
  refine lv_iconst (v := 1) hx hb dX1_takeDown_51 (by decide) ?_
  refine lv_isub hx hb dX1_takeDown_52 ?_
  refine va_put (D := E.1) (ci := 3) (v := .int (x.2.2 - 1)) (ty := .int) (C := RX1) (T := TX1) (N := 3) hx hb ha in_X1 tyX1 tyX1_ok nmX1 hown hst.k hP hD hS 0 rfl rfl 2 (by decide) (ha _ mw99) (fun _ h9 => h9) rfl (tyX1_ok 2 (by decide)) rfl rfl (Nat.le_of_ble_eq_true rfl) dX1_takeDown_53 (fun H locs hP hD hS => ?_)
  have hP : va_P E.1 vwCl (List.flatten [w_Bells E a o (y4, y5, x.2.2 - 1)]) H := hP
  have hD : va_D A (List.flatten [w_Bells E a o (y4, y5, x.2.2 - 1)]) := hD
  obtain rfl := Option.some.inj hF
  exact en_v hQ (Nat.le_of_ble_eq_true rfl) (Nat.le_of_ble_eq_true rfl) hx hb hr hlocks hP hD hS dX1_takeDown_56

/-! X1_shift -/
theorem dX1_shift_0 : decode cX1_shift 0 = .ok (.aload_n 0, 1) := by decide +kernel
theorem dX1_shift_1 : decode cX1_shift 1 = .ok (.iload_n 1, 1) := by decide +kernel
theorem dX1_shift_2 : decode cX1_shift 2 = .ok (.invokevirtual 36, 3) := by decide +kernel
theorem dX1_shift_5 : decode cX1_shift 5 = .ok (.ifCond .ne 5, 3) := by decide +kernel
theorem dX1_shift_8 : decode cX1_shift 8 = .ok (.iconst (-1), 1) := by decide +kernel
theorem dX1_shift_9 : decode cX1_shift 9 = .ok (.ireturn, 1) := by decide +kernel
theorem dX1_shift_10 : decode cX1_shift 10 = .ok (.iload_n 2, 1) := by decide +kernel
theorem dX1_shift_11 : decode cX1_shift 11 = .ok (.bipush (-99), 2) := by decide +kernel
theorem dX1_shift_13 : decode cX1_shift 13 = .ok (.bipush 99, 2) := by decide +kernel
theorem dX1_shift_15 : decode cX1_shift 15 = .ok (.invokestatic 28, 3) := by decide +kernel
theorem dX1_shift_18 : decode cX1_shift 18 = .ok (.ifCond .ne 6, 3) := by decide +kernel
theorem dX1_shift_21 : decode cX1_shift 21 = .ok (.bipush (-2), 2) := by decide +kernel
theorem dX1_shift_23 : decode cX1_shift 23 = .ok (.ireturn, 1) := by decide +kernel
theorem dX1_shift_24 : decode cX1_shift 24 = .ok (.aload_n 0, 1) := by decide +kernel
theorem dX1_shift_25 : decode cX1_shift 25 = .ok (.getfield 15, 3) := by decide +kernel
theorem dX1_shift_28 : decode cX1_shift 28 = .ok (.iload_n 1, 1) := by decide +kernel
theorem dX1_shift_29 : decode cX1_shift 29 = .ok (.iaload, 1) := by decide +kernel
theorem dX1_shift_30 : decode cX1_shift 30 = .ok (.iload_n 2, 1) := by decide +kernel
theorem dX1_shift_31 : decode cX1_shift 31 = .ok (.iadd, 1) := by decide +kernel
theorem dX1_shift_32 : decode cX1_shift 32 = .ok (.sipush 3600, 3) := by decide +kernel
theorem dX1_shift_35 : decode cX1_shift 35 = .ok (.sipush 8400, 3) := by decide +kernel
theorem dX1_shift_38 : decode cX1_shift 38 = .ok (.invokestatic 28, 3) := by decide +kernel
theorem dX1_shift_41 : decode cX1_shift 41 = .ok (.ifCond .ne 6, 3) := by decide +kernel
theorem dX1_shift_44 : decode cX1_shift 44 = .ok (.bipush (-3), 2) := by decide +kernel
theorem dX1_shift_46 : decode cX1_shift 46 = .ok (.ireturn, 1) := by decide +kernel
theorem dX1_shift_47 : decode cX1_shift 47 = .ok (.aload_n 0, 1) := by decide +kernel
theorem dX1_shift_48 : decode cX1_shift 48 = .ok (.getfield 15, 3) := by decide +kernel
theorem dX1_shift_51 : decode cX1_shift 51 = .ok (.iload_n 1, 1) := by decide +kernel
theorem dX1_shift_52 : decode cX1_shift 52 = .ok (.dup2, 1) := by decide +kernel
theorem dX1_shift_53 : decode cX1_shift 53 = .ok (.iaload, 1) := by decide +kernel
theorem dX1_shift_54 : decode cX1_shift 54 = .ok (.iload_n 2, 1) := by decide +kernel
theorem dX1_shift_55 : decode cX1_shift 55 = .ok (.iadd, 1) := by decide +kernel
theorem dX1_shift_56 : decode cX1_shift 56 = .ok (.iastore, 1) := by decide +kernel
theorem dX1_shift_57 : decode cX1_shift 57 = .ok (.aload_n 0, 1) := by decide +kernel
theorem dX1_shift_58 : decode cX1_shift 58 = .ok (.getfield 15, 3) := by decide +kernel
theorem dX1_shift_61 : decode cX1_shift 61 = .ok (.iload_n 1, 1) := by decide +kernel
theorem dX1_shift_62 : decode cX1_shift 62 = .ok (.iaload, 1) := by decide +kernel
theorem dX1_shift_63 : decode cX1_shift 63 = .ok (.ireturn, 1) := by decide +kernel
def f_X1_shift (x_pitches : (Nat → Int32)) (x_count : Int32) (p1 : Int32) (p2 : Int32) : Option (Int32 × (Nat → Int32)) :=
  q_bd (f_X1_has x_count p1) (fun q1 =>
  q_br (q1 = 0) (
  some ((-1), x_pitches)) (
  q_bd (f_X10_isWithin p2 (-99) 99) (fun q2 =>
  q_br (q2 = 0) (
  some ((-2), x_pitches)) (
  q_gd (q_in p1 12) (
  q_bd (f_X10_isWithin ((x_pitches (p1.toNatClampNeg)) + p2) 3600 8400) (fun q4 =>
  q_br (q4 = 0) (
  some ((-3), x_pitches)) (
  q_gd (q_in p1 12) (
  q_gd (q_in p1 12) (
  q_lt (upd x_pitches (p1.toNatClampNeg) ((x_pitches (p1.toNatClampNeg)) + p2)) (fun u7 =>
  q_gd (q_in p1 12) (
  some (u7 (p1.toNatClampNeg), u7))))))))))))
theorem hv_X1_shift : yX1_shift.cls = RX1 ∧ yX1_shift.cls ≠ "java/lang/invoke/MethodHandle" ∧ yX1_shift.cls ≠ "java/lang/invoke/VarHandle" ∧ (parseMethodDescriptor yX1_shift.desc).map (fun d => d.parameters.length) = some 2 := by decide +kernel
abbrev rm_X1_shift : Room := { frames := 2, cells := 0, slots := 0, locals := 43 }
set_option maxHeartbeats 4000000 in
set_option maxRecDepth 100000 in
theorem k_X1_shift (l : Launch) (E : ET) (a : Nat → Nat) (o : Nat) (x : Bells_t) (p1 : Int32) (p2 : Int32) (res : Int32 × (Nat → Int32)) (hF : f_X1_shift x.2.1 x.2.2 p1 p2 = some res) (sz : Nat) : CtI l yX1_shift (mws yX1_shift cX1_shift 3 (some .int)) rm_X1_shift 0 0 [.ref (a o), .int p1, .int p2] E (bl_Bells E a o x) res.1 (bl_Bells E a o (x.1, res.2, x.2.2)) sz := by
  refine mk_M (by decide +kernel) (Nat.le_of_ble_eq_true rfl) ?_
  intro p e s m below meth c A args Q ls hAe hsz hQ hx hb hr hml hin ha hown hlocks hA hz hzs hst hP hD hS hl
  have hown : s.vm.findClass RX1 = some m.cls := hown
  rw [hAe] at hQ
  subst hsz
  have hP : va_P E.1 vwCl (List.flatten [w_Bells E a o x]) s.heap := hP
  have hD : va_D A (List.flatten [w_Bells E a o x]) := hD
  have hl : lv_has ls 3 [(0, .ref (a o)), (1, .int p1), (2, .int p2)] := hl
  generalize hHe : s.heap = H at hP
  have hS : va_S A s.heap H [] := by rw [← hHe]; exact hS
  generalize ([] : List Loc) = locs at hS ⊢
  unfold f_X1_shift at hF
  refine lv_aload_n hx hb dX1_shift_0 rfl (lv_at hl 0 rfl) ?_
  refine lv_iload_n hx hb dX1_shift_1 rfl (lv_at hl 1 rfl) ?_
  obtain ⟨q1, hq1, hF⟩ := q_bdi hF
  refine cl_i (Lc := [w_Bells E a o x]) (Lc' := [w_Bells E a o x]) (L' := [w_Bells E a o x]) (rv := q1) (va_runV (As := [.int p1]) (rest := []) ⟨hx, hb, hml, hown, ha⟩ (k_X1_has l E a o x p1 q1 hq1 H.size) (cwV 1 ha (gi_V (fun _ h => h) mw401 mw382 mw383 mw29 mw384) rfl rfl rfl hv_X1_has ⟨(Nat.le_of_ble_eq_true rfl), (Nat.le_of_ble_eq_true rfl)⟩) ⟨pre_blind, va_recv hst.k (fr_P hP [0] rfl) (ci := 3) (q0 := 0) rfl rfl, pre_at hP hD hS hz hzs hst [0] (by decide) rfl rfl⟩ rfl rfl hl.1 rfl (lv_room (Nat.le_of_ble_eq_true rfl)) dX1_shift_2 ⟨(Nat.le_of_ble_eq_true rfl), (Nat.le_of_ble_eq_true rfl)⟩) hP hD hS hA [0] (by decide) rfl rfl rfl rfl (fun H locs hP hD hS => ?_)
  refine lv_if_ne (tgt := 10) hx hb dX1_shift_5 (by decide) (fun c5 => ?_) (fun c5 => ?_)
  · have hF := q_brn c5 hF
    refine lv_iload_n hx hb dX1_shift_10 rfl (lv_at hl 2 rfl) ?_
    refine lv_bipush (v := (-99)) hx hb dX1_shift_11 (by decide) ?_
    refine lv_bipush (v := 99) hx hb dX1_shift_13 (by decide) ?_
    obtain ⟨q2, hq2, hF⟩ := q_bdi hF
    refine cl_i (Lc := []) (Lc' := []) (L' := [w_Bells E a o x]) (rv := q2) (va_runSN (As := [.int p2, .int (-99), .int 99]) (rest := []) ⟨hx, hb, hml, hown, ha⟩ (k_X10_isWithin l E p2 (-99) 99 q2 hq2 H.size) ⟨va_cnB 3 ha (gi_B (fun _ h => h) mw375) rfl rfl rfl (nm10 hst) (ha _ mw26) hv_X10_isWithin.2 ⟨(Nat.le_of_ble_eq_true rfl), (Nat.le_of_ble_eq_true rfl)⟩, (ha _ mw374), trivial⟩ ⟨pre_blind, pre_at hP hD hS hz hzs hst [] (by decide) rfl rfl⟩ rfl rfl hl.1 rfl (lv_room (Nat.le_of_ble_eq_true rfl)) dX1_shift_15 ⟨(Nat.le_of_ble_eq_true rfl), (Nat.le_of_ble_eq_true rfl)⟩) hP hD hS hA [] (by decide) rfl rfl rfl rfl (fun H locs hP hD hS => ?_)
    refine lv_if_ne (tgt := 24) hx hb dX1_shift_18 (by decide) (fun c18 => ?_) (fun c18 => ?_)
    · have hF := q_brn c18 hF
      refine lv_aload_n hx hb dX1_shift_24 rfl (lv_at hl 0 rfl) ?_
      refine va_get (D := E.1) (ci := 3) (v := .ref (a (o + 2))) (C := RX1) (T := TX1) (N := 3) hx hb ha in_X1 hown hst.k hP 0 rfl rfl 1 (by decide) (ha _ mw97) (fun _ h9 => h9) rfl dX1_shift_25 ?_
      refine lv_iload_n hx hb dX1_shift_28 rfl (lv_at hl 1 rfl) ?_
      obtain ⟨g3, hF⟩ := q_gdi hF
      refine vi_iald hx hb hst.k hP 2 0 rfl rfl (f := x.2.1) (k := p1.toNatClampNeg) rfl g3 dX1_shift_29 ?_
      refine lv_iload_n hx hb dX1_shift_30 rfl (lv_at hl 2 rfl) ?_
      refine lv_iadd hx hb dX1_shift_31 ?_
      refine lv_sipush (v := 3600) hx hb dX1_shift_32 (by decide) ?_
      refine lv_sipush (v := 8400) hx hb dX1_shift_35 (by decide) ?_
      obtain ⟨q4, hq4, hF⟩ := q_bdi hF
      refine cl_i (Lc := []) (Lc' := []) (L' := [w_Bells E a o x]) (rv := q4) (va_runSN (As := [.int ((x.2.1 (p1.toNatClampNeg)) + p2), .int 3600, .int 8400]) (rest := []) ⟨hx, hb, hml, hown, ha⟩ (k_X10_isWithin l E ((x.2.1 (p1.toNatClampNeg)) + p2) 3600 8400 q4 hq4 H.size) ⟨va_cnB 3 ha (gi_B (fun _ h => h) mw375) rfl rfl rfl (nm10 hst) (ha _ mw26) hv_X10_isWithin.2 ⟨(Nat.le_of_ble_eq_true rfl), (Nat.le_of_ble_eq_true rfl)⟩, (ha _ mw374), trivial⟩ ⟨pre_blind, pre_at hP hD hS hz hzs hst [] (by decide) rfl rfl⟩ rfl rfl hl.1 rfl (lv_room (Nat.le_of_ble_eq_true rfl)) dX1_shift_38 ⟨(Nat.le_of_ble_eq_true rfl), (Nat.le_of_ble_eq_true rfl)⟩) hP hD hS hA [] (by decide) rfl rfl rfl rfl (fun H locs hP hD hS => ?_)
      refine lv_if_ne (tgt := 47) hx hb dX1_shift_41 (by decide) (fun c41 => ?_) (fun c41 => ?_)
      · have hF := q_brn c41 hF
        refine lv_aload_n hx hb dX1_shift_47 rfl (lv_at hl 0 rfl) ?_
        refine va_get (D := E.1) (ci := 3) (v := .ref (a (o + 2))) (C := RX1) (T := TX1) (N := 3) hx hb ha in_X1 hown hst.k hP 0 rfl rfl 1 (by decide) (ha _ mw97) (fun _ h9 => h9) rfl dX1_shift_48 ?_
        refine lv_iload_n hx hb dX1_shift_51 rfl (lv_at hl 1 rfl) ?_
        refine lv_dup2_11 hx hb dX1_shift_52 rfl rfl ?_
        obtain ⟨g5, hF⟩ := q_gdi hF
        refine vi_iald hx hb hst.k hP 2 0 rfl rfl (f := x.2.1) (k := p1.toNatClampNeg) rfl g5 dX1_shift_53 ?_
        refine lv_iload_n hx hb dX1_shift_54 rfl (lv_at hl 2 rfl) ?_
        refine lv_iadd hx hb dX1_shift_55 ?_
        obtain ⟨g6, hF⟩ := q_gdi hF
        refine vj_iast hx hb hst.k hP hD hS 2 0 rfl rfl (f := x.2.1) (k := p1.toNatClampNeg) rfl g6 dX1_shift_56 (fun u7 eu7 H locs hP hD hS => ?_)
        have hF := q_lti eu7 hF
        have hP : va_P E.1 vwCl (List.flatten [w_Bells E a o (x.1, u7, x.2.2)]) H := hP
        have hD : va_D A (List.flatten [w_Bells E a o (x.1, u7, x.2.2)]) := hD
        refine lv_aload_n hx hb dX1_shift_57 rfl (lv_at hl 0 rfl) ?_
        refine va_get (D := E.1) (ci := 3) (v := .ref (a (o + 2))) (C := RX1) (T := TX1) (N := 3) hx hb ha in_X1 hown hst.k hP 0 rfl rfl 1 (by decide) (ha _ mw97) (fun _ h9 => h9) rfl dX1_shift_58 ?_
        refine lv_iload_n hx hb dX1_shift_61 rfl (lv_at hl 1 rfl) ?_
        obtain ⟨g8, hF⟩ := q_gdi hF
        refine vi_iald hx hb hst.k hP 2 0 rfl rfl (f := u7) (k := p1.toNatClampNeg) rfl g8 dX1_shift_62 ?_
        obtain rfl := Option.some.inj hF
        exact en_i hQ (Nat.le_of_ble_eq_true rfl) (Nat.le_of_ble_eq_true rfl) hx hb hr hlocks hP hD hS rfl dX1_shift_63
      · have hF := q_brp c41 hF
        refine lv_bipush (v := (-3)) hx hb dX1_shift_44 (by decide) ?_
        obtain rfl := Option.some.inj hF
        exact en_i hQ (Nat.le_of_ble_eq_true rfl) (Nat.le_of_ble_eq_true rfl) hx hb hr hlocks hP hD hS rfl dX1_shift_46
    · have hF := q_brp c18 hF
      refine lv_bipush (v := (-2)) hx hb dX1_shift_21 (by decide) ?_
      obtain rfl := Option.some.inj hF
      exact en_i hQ (Nat.le_of_ble_eq_true rfl) (Nat.le_of_ble_eq_true rfl) hx hb hr hlocks hP hD hS rfl dX1_shift_23
  · have hF := q_brp c5 hF
    refine lv_iconst (v := (-1)) hx hb dX1_shift_8 (by decide) ?_
    obtain rfl := Option.some.inj hF
    exact en_i hQ (Nat.le_of_ble_eq_true rfl) (Nat.le_of_ble_eq_true rfl) hx hb hr hlocks hP hD hS rfl dX1_shift_9

/-! X1_drive -/
theorem dX1_drive_0 : decode cX1_drive 0 = .ok (.aload_n 0, 1) := by decide +kernel
theorem dX1_drive_1 : decode cX1_drive 1 = .ok (.iload_n 1, 1) := by decide +kernel
theorem dX1_drive_2 : decode cX1_drive 2 = .ok (.invokevirtual 36, 3) := by decide +kernel
theorem dX1_drive_5 : decode cX1_drive 5 = .ok (.ifCond .eq 10, 3) := by decide +kernel
theorem dX1_drive_8 : decode cX1_drive 8 = .ok (.iload_n 2, 1) := by decide +kernel
theorem dX1_drive_9 : decode cX1_drive 9 = .ok (.invokestatic 32, 3) := by decide +kernel
theorem dX1_drive_12 : decode cX1_drive 12 = .ok (.ifCond .ne 5, 3) := by decide +kernel
theorem dX1_drive_15 : decode cX1_drive 15 = .ok (.iconst (-1), 1) := by decide +kernel
theorem dX1_drive_16 : decode cX1_drive 16 = .ok (.ireturn, 1) := by decide +kernel
theorem dX1_drive_17 : decode cX1_drive 17 = .ok (.aload_n 0, 1) := by decide +kernel
theorem dX1_drive_18 : decode cX1_drive 18 = .ok (.getfield 11, 3) := by decide +kernel
theorem dX1_drive_21 : decode cX1_drive 21 = .ok (.iload_n 1, 1) := by decide +kernel
theorem dX1_drive_22 : decode cX1_drive 22 = .ok (.iaload, 1) := by decide +kernel
theorem dX1_drive_23 : decode cX1_drive 23 = .ok (.istore_n 3, 1) := by decide +kernel
theorem dX1_drive_24 : decode cX1_drive 24 = .ok (.aload_n 0, 1) := by decide +kernel
theorem dX1_drive_25 : decode cX1_drive 25 = .ok (.getfield 11, 3) := by decide +kernel
theorem dX1_drive_28 : decode cX1_drive 28 = .ok (.iload_n 1, 1) := by decide +kernel
theorem dX1_drive_29 : decode cX1_drive 29 = .ok (.iload_n 2, 1) := by decide +kernel
theorem dX1_drive_30 : decode cX1_drive 30 = .ok (.iastore, 1) := by decide +kernel
theorem dX1_drive_31 : decode cX1_drive 31 = .ok (.iload_n 3, 1) := by decide +kernel
theorem dX1_drive_32 : decode cX1_drive 32 = .ok (.ireturn, 1) := by decide +kernel
def f_X1_drive (x_herds : (Nat → Int32)) (x_count : Int32) (p1 : Int32) (p2 : Int32) : Option (Int32 × (Nat → Int32)) :=
  q_bd (f_X1_has x_count p1) (fun q1 =>
  q_br (q1 = 0) (
  some ((-1), x_herds)) (
  q_bd (f_X10_isHerd p2) (fun q2 =>
  q_br (q2 = 0) (
  some ((-1), x_herds)) (
  q_gd (q_in p1 12) (
  q_lt (x_herds (p1.toNatClampNeg) : Int32) (fun v4 =>
  q_gd (q_in p1 12) (
  q_lt (upd x_herds (p1.toNatClampNeg) p2) (fun u6 =>
  some (v4, u6)))))))))
theorem hv_X1_drive : yX1_drive.cls = RX1 ∧ yX1_drive.cls ≠ "java/lang/invoke/MethodHandle" ∧ yX1_drive.cls ≠ "java/lang/invoke/VarHandle" ∧ (parseMethodDescriptor yX1_drive.desc).map (fun d => d.parameters.length) = some 2 := by decide +kernel
abbrev rm_X1_drive : Room := { frames := 2, cells := 0, slots := 0, locals := 43 }
set_option maxHeartbeats 4000000 in
set_option maxRecDepth 100000 in
theorem k_X1_drive (l : Launch) (E : ET) (a : Nat → Nat) (o : Nat) (x : Bells_t) (p1 : Int32) (p2 : Int32) (res : Int32 × (Nat → Int32)) (hF : f_X1_drive x.1 x.2.2 p1 p2 = some res) (sz : Nat) : CtI l yX1_drive (mws yX1_drive cX1_drive 4 (some .int)) rm_X1_drive 0 0 [.ref (a o), .int p1, .int p2] E (bl_Bells E a o x) res.1 (bl_Bells E a o (res.2, x.2.1, x.2.2)) sz := by
  refine mk_M (by decide +kernel) (Nat.le_of_ble_eq_true rfl) ?_
  intro p e s m below meth c A args Q ls hAe hsz hQ hx hb hr hml hin ha hown hlocks hA hz hzs hst hP hD hS hl
  have hown : s.vm.findClass RX1 = some m.cls := hown
  rw [hAe] at hQ
  subst hsz
  have hP : va_P E.1 vwCl (List.flatten [w_Bells E a o x]) s.heap := hP
  have hD : va_D A (List.flatten [w_Bells E a o x]) := hD
  have hl : lv_has ls 4 [(0, .ref (a o)), (1, .int p1), (2, .int p2)] := hl
  generalize hHe : s.heap = H at hP
  have hS : va_S A s.heap H [] := by rw [← hHe]; exact hS
  generalize ([] : List Loc) = locs at hS ⊢
  unfold f_X1_drive at hF
  refine lv_aload_n hx hb dX1_drive_0 rfl (lv_at hl 0 rfl) ?_
  refine lv_iload_n hx hb dX1_drive_1 rfl (lv_at hl 1 rfl) ?_
  obtain ⟨q1, hq1, hF⟩ := q_bdi hF
  refine cl_i (Lc := [w_Bells E a o x]) (Lc' := [w_Bells E a o x]) (L' := [w_Bells E a o x]) (rv := q1) (va_runV (As := [.int p1]) (rest := []) ⟨hx, hb, hml, hown, ha⟩ (k_X1_has l E a o x p1 q1 hq1 H.size) (cwV 1 ha (gi_V (fun _ h => h) mw401 mw382 mw383 mw29 mw384) rfl rfl rfl hv_X1_has ⟨(Nat.le_of_ble_eq_true rfl), (Nat.le_of_ble_eq_true rfl)⟩) ⟨pre_blind, va_recv hst.k (fr_P hP [0] rfl) (ci := 3) (q0 := 0) rfl rfl, pre_at hP hD hS hz hzs hst [0] (by decide) rfl rfl⟩ rfl rfl hl.1 rfl (lv_room (Nat.le_of_ble_eq_true rfl)) dX1_drive_2 ⟨(Nat.le_of_ble_eq_true rfl), (Nat.le_of_ble_eq_true rfl)⟩) hP hD hS hA [0] (by decide) rfl rfl rfl rfl (fun H locs hP hD hS => ?_)
  refine lv_if_eq (tgt := 15) hx hb dX1_drive_5 (by decide) (fun c5 => ?_) (fun c5 => ?_)
  · have hF := q_brp c5 hF
    refine lv_iconst (v := (-1)) hx hb dX1_drive_15 (by decide) ?_
    obtain rfl := Option.some.inj hF
    exact en_i hQ (Nat.le_of_ble_eq_true rfl) (Nat.le_of_ble_eq_true rfl) hx hb hr hlocks hP hD hS rfl dX1_drive_16
  · have hF := q_brn c5 hF
    refine lv_iload_n hx hb dX1_drive_8 rfl (lv_at hl 2 rfl) ?_
    obtain ⟨q2, hq2, hF⟩ := q_bdi hF
    refine cl_i (Lc := []) (Lc' := []) (L' := [w_Bells E a o x]) (rv := q2) (va_runSN (As := [.int p2]) (rest := []) ⟨hx, hb, hml, hown, ha⟩ (k_X10_isHerd l E p2 q2 hq2 H.size) ⟨va_cnB 1 ha (gi_B (fun _ h => h) mw372) rfl rfl rfl (nm9 hst) (ha _ mw26) hv_X10_isHerd.2 ⟨(Nat.le_of_ble_eq_true rfl), (Nat.le_of_ble_eq_true rfl)⟩, (ha _ mw371), trivial⟩ ⟨pre_blind, pre_at hP hD hS hz hzs hst [] (by decide) rfl rfl⟩ rfl rfl hl.1 rfl (lv_room (Nat.le_of_ble_eq_true rfl)) dX1_drive_9 ⟨(Nat.le_of_ble_eq_true rfl), (Nat.le_of_ble_eq_true rfl)⟩) hP hD hS hA [] (by decide) rfl rfl rfl rfl (fun H locs hP hD hS => ?_)
    refine lv_if_ne (tgt := 17) hx hb dX1_drive_12 (by decide) (fun c12 => ?_) (fun c12 => ?_)
    · have hF := q_brn c12 hF
      refine lv_aload_n hx hb dX1_drive_17 rfl (lv_at hl 0 rfl) ?_
      refine va_get (D := E.1) (ci := 3) (v := .ref (a (o + 1))) (C := RX1) (T := TX1) (N := 3) hx hb ha in_X1 hown hst.k hP 0 rfl rfl 0 (by decide) (ha _ mw95) (fun _ h9 => h9) rfl dX1_drive_18 ?_
      refine lv_iload_n hx hb dX1_drive_21 rfl (lv_at hl 1 rfl) ?_
      obtain ⟨g3, hF⟩ := q_gdi hF
      refine vi_iald hx hb hst.k hP 1 0 rfl rfl (f := x.1) (k := p1.toNatClampNeg) rfl g3 dX1_drive_22 ?_
      refine lv_topi (fun v4 ev4 => ?_)
      have hF := q_lti ev4 hF
      refine lv_istore_n (lv' := [(3, .int v4), (0, .ref (a o)), (1, .int p1), (2, .int p2)]) hx hb dX1_drive_23 rfl hl (by decide) rfl (fun ls hl => ?_)
      refine lv_aload_n hx hb dX1_drive_24 rfl (lv_at hl 1 rfl) ?_
      refine va_get (D := E.1) (ci := 3) (v := .ref (a (o + 1))) (C := RX1) (T := TX1) (N := 3) hx hb ha in_X1 hown hst.k hP 0 rfl rfl 0 (by decide) (ha _ mw95) (fun _ h9 => h9) rfl dX1_drive_25 ?_
      refine lv_iload_n hx hb dX1_drive_28 rfl (lv_at hl 2 rfl) ?_
      refine lv_iload_n hx hb dX1_drive_29 rfl (lv_at hl 3 rfl) ?_
      obtain ⟨g5, hF⟩ := q_gdi hF
      refine vj_iast hx hb hst.k hP hD hS 1 0 rfl rfl (f := x.1) (k := p1.toNatClampNeg) rfl g5 dX1_drive_30 (fun u6 eu6 H locs hP hD hS => ?_)
      have hF := q_lti eu6 hF
      have hP : va_P E.1 vwCl (List.flatten [w_Bells E a o (u6, x.2.1, x.2.2)]) H := hP
      have hD : va_D A (List.flatten [w_Bells E a o (u6, x.2.1, x.2.2)]) := hD
      refine lv_iload_n hx hb dX1_drive_31 rfl (lv_at hl 0 rfl) ?_
      obtain rfl := Option.some.inj hF
      exact en_i hQ (Nat.le_of_ble_eq_true rfl) (Nat.le_of_ble_eq_true rfl) hx hb hr hlocks hP hD hS rfl dX1_drive_32
    · have hF := q_brp c12 hF
      refine lv_iconst (v := (-1)) hx hb dX1_drive_15 (by decide) ?_
      obtain rfl := Option.some.inj hF
      exact en_i hQ (Nat.le_of_ble_eq_true rfl) (Nat.le_of_ble_eq_true rfl) hx hb hr hlocks hP hD hS rfl dX1_drive_16

/-! X1_noteOf -/
theorem dX1_noteOf_0 : decode cX1_noteOf 0 = .ok (.aload_n 0, 1) := by decide +kernel
theorem dX1_noteOf_1 : decode cX1_noteOf 1 = .ok (.getfield 15, 3) := by decide +kernel
theorem dX1_noteOf_4 : decode cX1_noteOf 4 = .ok (.iload_n 1, 1) := by decide +kernel
theorem dX1_noteOf_5 : decode cX1_noteOf 5 = .ok (.iaload, 1) := by decide +kernel
theorem dX1_noteOf_6 : decode cX1_noteOf 6 = .ok (.invokestatic 50, 3) := by decide +kernel
theorem dX1_noteOf_9 : decode cX1_noteOf 9 = .ok (.ireturn, 1) := by decide +kernel
def f_X1_noteOf (x_pitches : (Nat → Int32)) (p1 : Int32) : Option (Int32) :=
  q_gd (q_in p1 12) (
  q_bd (f_X10_nearest (x_pitches (p1.toNatClampNeg))) (fun q2 =>
  some q2))
theorem hv_X1_noteOf : yX1_noteOf.cls = RX1 ∧ yX1_noteOf.cls ≠ "java/lang/invoke/MethodHandle" ∧ yX1_noteOf.cls ≠ "java/lang/invoke/VarHandle" ∧ (parseMethodDescriptor yX1_noteOf.desc).map (fun d => d.parameters.length) = some 1 := by decide +kernel
abbrev rm_X1_noteOf : Room := { frames := 2, cells := 0, slots := 0, locals := 42 }
set_option maxHeartbeats 4000000 in
set_option maxRecDepth 100000 in
theorem k_X1_noteOf (l : Launch) (E : ET) (a : Nat → Nat) (o : Nat) (x : Bells_t) (p1 : Int32) (res : Int32) (hF : f_X1_noteOf x.2.1 p1 = some res) (sz : Nat) : CtI l yX1_noteOf (mws yX1_noteOf cX1_noteOf 2 (some .int)) rm_X1_noteOf 0 0 [.ref (a o), .int p1] E (bl_Bells E a o x) res (bl_Bells E a o x) sz := by
  refine mk_M (by decide +kernel) (Nat.le_of_ble_eq_true rfl) ?_
  intro p e s m below meth c A args Q ls hAe hsz hQ hx hb hr hml hin ha hown hlocks hA hz hzs hst hP hD hS hl
  have hown : s.vm.findClass RX1 = some m.cls := hown
  rw [hAe] at hQ
  subst hsz
  have hP : va_P E.1 vwCl (List.flatten [w_Bells E a o x]) s.heap := hP
  have hD : va_D A (List.flatten [w_Bells E a o x]) := hD
  have hl : lv_has ls 2 [(0, .ref (a o)), (1, .int p1)] := hl
  generalize hHe : s.heap = H at hP
  have hS : va_S A s.heap H [] := by rw [← hHe]; exact hS
  generalize ([] : List Loc) = locs at hS ⊢
  unfold f_X1_noteOf at hF
  refine lv_aload_n hx hb dX1_noteOf_0 rfl (lv_at hl 0 rfl) ?_
  refine va_get (D := E.1) (ci := 3) (v := .ref (a (o + 2))) (C := RX1) (T := TX1) (N := 3) hx hb ha in_X1 hown hst.k hP 0 rfl rfl 1 (by decide) (ha _ mw97) (fun _ h9 => h9) rfl dX1_noteOf_1 ?_
  refine lv_iload_n hx hb dX1_noteOf_4 rfl (lv_at hl 1 rfl) ?_
  obtain ⟨g1, hF⟩ := q_gdi hF
  refine vi_iald hx hb hst.k hP 2 0 rfl rfl (f := x.2.1) (k := p1.toNatClampNeg) rfl g1 dX1_noteOf_5 ?_
  obtain ⟨q2, hq2, hF⟩ := q_bdi hF
  refine cl_i (Lc := []) (Lc' := []) (L' := [w_Bells E a o x]) (rv := q2) (va_runSN (As := [.int (x.2.1 (p1.toNatClampNeg))]) (rest := []) ⟨hx, hb, hml, hown, ha⟩ (k_X10_nearest l E (x.2.1 (p1.toNatClampNeg)) q2 hq2 H.size) ⟨va_cnB 1 ha (gi_B (fun _ h => h) mw421) rfl rfl rfl (nm18 hst) (ha _ mw26) hv_X10_nearest.2 ⟨(Nat.le_of_ble_eq_true rfl), (Nat.le_of_ble_eq_true rfl)⟩, (ha _ mw420), trivial⟩ ⟨pre_blind, pre_at hP hD hS hz hzs hst [] (by decide) rfl rfl⟩ rfl rfl hl.1 rfl (lv_room (Nat.le_of_ble_eq_true rfl)) dX1_noteOf_6 ⟨(Nat.le_of_ble_eq_true rfl), (Nat.le_of_ble_eq_true rfl)⟩) hP hD hS hA [] (by decide) rfl rfl rfl rfl (fun H locs hP hD hS => ?_)
  obtain rfl := Option.some.inj hF
  exact en_i hQ (Nat.le_of_ble_eq_true rfl) (Nat.le_of_ble_eq_true rfl) hx hb hr hlocks hP hD hS rfl dX1_noteOf_9

/-! X1_deviationOf -/
theorem dX1_deviationOf_0 : decode cX1_deviationOf 0 = .ok (.aload_n 0, 1) := by decide +kernel
theorem dX1_deviationOf_1 : decode cX1_deviationOf 1 = .ok (.getfield 15, 3) := by decide +kernel
theorem dX1_deviationOf_4 : decode cX1_deviationOf 4 = .ok (.iload_n 1, 1) := by decide +kernel
theorem dX1_deviationOf_5 : decode cX1_deviationOf 5 = .ok (.iaload, 1) := by decide +kernel
theorem dX1_deviationOf_6 : decode cX1_deviationOf 6 = .ok (.invokestatic 54, 3) := by decide +kernel
theorem dX1_deviationOf_9 : decode cX1_deviationOf 9 = .ok (.ireturn, 1) := by decide +kernel
def f_X1_deviationOf (x_pitches : (Nat → Int32)) (p1 : Int32) : Option (Int32) :=
  q_gd (q_in p1 12) (
  q_bd (f_X10_offset (x_pitches (p1.toNatClampNeg))) (fun q2 =>
  some q2))
theorem hv_X1_deviationOf : yX1_deviationOf.cls = RX1 ∧ yX1_deviationOf.cls ≠ "java/lang/invoke/MethodHandle" ∧ yX1_deviationOf.cls ≠ "java/lang/invoke/VarHandle" ∧ (parseMethodDescriptor yX1_deviationOf.desc).map (fun d => d.parameters.length) = some 1 := by decide +kernel
abbrev rm_X1_deviationOf : Room := { frames := 3, cells := 0, slots := 0, locals := 62 }
set_option maxHeartbeats 4000000 in
set_option maxRecDepth 100000 in
theorem k_X1_deviationOf (l : Launch) (E : ET) (a : Nat → Nat) (o : Nat) (x : Bells_t) (p1 : Int32) (res : Int32) (hF : f_X1_deviationOf x.2.1 p1 = some res) (sz : Nat) : CtI l yX1_deviationOf (mws yX1_deviationOf cX1_deviationOf 2 (some .int)) rm_X1_deviationOf 0 0 [.ref (a o), .int p1] E (bl_Bells E a o x) res (bl_Bells E a o x) sz := by
  refine mk_M (by decide +kernel) (Nat.le_of_ble_eq_true rfl) ?_
  intro p e s m below meth c A args Q ls hAe hsz hQ hx hb hr hml hin ha hown hlocks hA hz hzs hst hP hD hS hl
  have hown : s.vm.findClass RX1 = some m.cls := hown
  rw [hAe] at hQ
  subst hsz
  have hP : va_P E.1 vwCl (List.flatten [w_Bells E a o x]) s.heap := hP
  have hD : va_D A (List.flatten [w_Bells E a o x]) := hD
  have hl : lv_has ls 2 [(0, .ref (a o)), (1, .int p1)] := hl
  generalize hHe : s.heap = H at hP
  have hS : va_S A s.heap H [] := by rw [← hHe]; exact hS
  generalize ([] : List Loc) = locs at hS ⊢
  unfold f_X1_deviationOf at hF
  refine lv_aload_n hx hb dX1_deviationOf_0 rfl (lv_at hl 0 rfl) ?_
  refine va_get (D := E.1) (ci := 3) (v := .ref (a (o + 2))) (C := RX1) (T := TX1) (N := 3) hx hb ha in_X1 hown hst.k hP 0 rfl rfl 1 (by decide) (ha _ mw97) (fun _ h9 => h9) rfl dX1_deviationOf_1 ?_
  refine lv_iload_n hx hb dX1_deviationOf_4 rfl (lv_at hl 1 rfl) ?_
  obtain ⟨g1, hF⟩ := q_gdi hF
  refine vi_iald hx hb hst.k hP 2 0 rfl rfl (f := x.2.1) (k := p1.toNatClampNeg) rfl g1 dX1_deviationOf_5 ?_
  obtain ⟨q2, hq2, hF⟩ := q_bdi hF
  refine cl_i (Lc := []) (Lc' := []) (L' := [w_Bells E a o x]) (rv := q2) (va_runSN (As := [.int (x.2.1 (p1.toNatClampNeg))]) (rest := []) ⟨hx, hb, hml, hown, ha⟩ (k_X10_offset l E (x.2.1 (p1.toNatClampNeg)) q2 hq2 H.size) ⟨va_cnB 1 ha (gi_B (fun _ h => h) mw441) rfl rfl rfl (nm19 hst) (ha _ mw26) hv_X10_offset.2 ⟨(Nat.le_of_ble_eq_true rfl), (Nat.le_of_ble_eq_true rfl)⟩, (ha _ mw440), trivial⟩ ⟨pre_blind, pre_at hP hD hS hz hzs hst [] (by decide) rfl rfl⟩ rfl rfl hl.1 rfl (lv_room (Nat.le_of_ble_eq_true rfl)) dX1_deviationOf_6 ⟨(Nat.le_of_ble_eq_true rfl), (Nat.le_of_ble_eq_true rfl)⟩) hP hD hS hA [] (by decide) rfl rfl rfl rfl (fun H locs hP hD hS => ?_)
  obtain rfl := Option.some.inj hF
  exact en_i hQ (Nat.le_of_ble_eq_true rfl) (Nat.le_of_ble_eq_true rfl) hx hb hr hlocks hP hD hS rfl dX1_deviationOf_9

/-! X1_absoluteDeviations -/
theorem dX1_absoluteDeviations_0 : decode cX1_absoluteDeviations 0 = .ok (.iconst 0, 1) := by decide +kernel
theorem dX1_absoluteDeviations_1 : decode cX1_absoluteDeviations 1 = .ok (.istore_n 1, 1) := by decide +kernel
theorem dX1_absoluteDeviations_2 : decode cX1_absoluteDeviations 2 = .ok (.iconst 0, 1) := by decide +kernel
theorem dX1_absoluteDeviations_3 : decode cX1_absoluteDeviations 3 = .ok (.istore_n 2, 1) := by decide +kernel
theorem dX1_absoluteDeviations_4 : decode cX1_absoluteDeviations 4 = .ok (.iload_n 2, 1) := by decide +kernel
theorem dX1_absoluteDeviations_5 : decode cX1_absoluteDeviations 5 = .ok (.aload_n 0, 1) := by decide +kernel
theorem dX1_absoluteDeviations_6 : decode cX1_absoluteDeviations 6 = .ok (.getfield 18, 3) := by decide +kernel
theorem dX1_absoluteDeviations_9 : decode cX1_absoluteDeviations 9 = .ok (.if_icmp .ge 20, 3) := by decide +kernel
theorem dX1_absoluteDeviations_12 : decode cX1_absoluteDeviations 12 = .ok (.iload_n 1, 1) := by decide +kernel
theorem dX1_absoluteDeviations_13 : decode cX1_absoluteDeviations 13 = .ok (.aload_n 0, 1) := by decide +kernel
theorem dX1_absoluteDeviations_14 : decode cX1_absoluteDeviations 14 = .ok (.iload_n 2, 1) := by decide +kernel
theorem dX1_absoluteDeviations_15 : decode cX1_absoluteDeviations 15 = .ok (.invokevirtual 57, 3) := by decide +kernel
theorem dX1_absoluteDeviations_18 : decode cX1_absoluteDeviations 18 = .ok (.invokestatic 60, 3) := by decide +kernel
theorem dX1_absoluteDeviations_21 : decode cX1_absoluteDeviations 21 = .ok (.iadd, 1) := by decide +kernel
theorem dX1_absoluteDeviations_22 : decode cX1_absoluteDeviations 22 = .ok (.istore_n 1, 1) := by decide +kernel
theorem dX1_absoluteDeviations_23 : decode cX1_absoluteDeviations 23 = .ok (.iinc 2 1, 3) := by decide +kernel
theorem dX1_absoluteDeviations_26 : decode cX1_absoluteDeviations 26 = .ok (.goto (-22), 3) := by decide +kernel
theorem dX1_absoluteDeviations_29 : decode cX1_absoluteDeviations 29 = .ok (.iload_n 1, 1) := by decide +kernel
theorem dX1_absoluteDeviations_30 : decode cX1_absoluteDeviations 30 = .ok (.ireturn, 1) := by decide +kernel
def f_X1_absoluteDeviations_L4 (x_pitches : (Nat → Int32)) (x_count : Int32) : Nat → Int32 → Int32 → Option (Int32)
  | 0, _, _ => none
  | n4 + 1, i1, i2 =>
    q_br (x_count ≤ i1) (
  some i2) (
  q_bd (f_X1_deviationOf x_pitches i1) (fun q3 =>
  q_lt (i2 + (if 0 ≤ q3 then q3 else 0 - q3) : Int32) (fun v4 =>
  q_lt (i1 + 1 : Int32) (fun v5 =>
  f_X1_absoluteDeviations_L4 x_pitches x_count n4 v5 v4))))
def f_X1_absoluteDeviations (x_pitches : (Nat → Int32)) (x_count : Int32) : Option (Int32) :=
  f_X1_absoluteDeviations_L4 x_pitches x_count 2000 0 0
theorem hv_X1_absoluteDeviations : yX1_absoluteDeviations.cls = RX1 ∧ yX1_absoluteDeviations.cls ≠ "java/lang/invoke/MethodHandle" ∧ yX1_absoluteDeviations.cls ≠ "java/lang/invoke/VarHandle" ∧ (parseMethodDescriptor yX1_absoluteDeviations.desc).map (fun d => d.parameters.length) = some 0 := by decide +kernel
abbrev rm_X1_absoluteDeviations : Room := { frames := 4, cells := 0, slots := 0, locals := 83 }
set_option maxHeartbeats 4000000 in
set_option maxRecDepth 100000 in
theorem k_X1_absoluteDeviations (l : Launch) (E : ET) (a : Nat → Nat) (o : Nat) (x : Bells_t) (res : Int32) (hF : f_X1_absoluteDeviations x.2.1 x.2.2 = some res) (sz : Nat) : CtI l yX1_absoluteDeviations (mws yX1_absoluteDeviations cX1_absoluteDeviations 3 (some .int)) rm_X1_absoluteDeviations 0 0 [.ref (a o)] E (bl_Bells E a o x) res (bl_Bells E a o x) sz := by
  refine mk_M (by decide +kernel) (Nat.le_of_ble_eq_true rfl) ?_
  intro p e s m below meth c A args Q ls hAe hsz hQ hx hb hr hml hin ha hown hlocks hA hz hzs hst hP hD hS hl
  have hown : s.vm.findClass RX1 = some m.cls := hown
  rw [hAe] at hQ
  subst hsz
  have hP : va_P E.1 vwCl (List.flatten [w_Bells E a o x]) s.heap := hP
  have hD : va_D A (List.flatten [w_Bells E a o x]) := hD
  have hl : lv_has ls 3 [(0, .ref (a o))] := hl
  generalize hHe : s.heap = H at hP
  have hS : va_S A s.heap H [] := by rw [← hHe]; exact hS
  generalize ([] : List Loc) = locs at hS ⊢
  unfold f_X1_absoluteDeviations at hF
  refine lv_iconst (v := 0) hx hb dX1_absoluteDeviations_0 (by decide) ?_
  refine lv_istore_n (lv' := [(1, .int 0), (0, .ref (a o))]) hx hb dX1_absoluteDeviations_1 rfl hl (by decide) rfl (fun ls hl => ?_)
  refine lv_iconst (v := 0) hx hb dX1_absoluteDeviations_2 (by decide) ?_
  refine lv_istore_n (lv' := [(2, .int 0), (1, .int 0), (0, .ref (a o))]) hx hb dX1_absoluteDeviations_3 rfl hl (by decide) rfl (fun ls hl => ?_)
  have key4 : ∀ (n : Nat) (i1 : Int32) (i2 : Int32) (H : Heap) (locs : List Loc) (ls : Array Slot), f_X1_absoluteDeviations_L4 x.2.1 x.2.2 n i1 i2 = some res → va_P E.1 vwCl (List.flatten [w_Bells E a o x]) H → va_D A (List.flatten [w_Bells E a o x]) → va_S A s.heap H locs → lv_has ls 3 [(2, .int i1), (1, .int i2), (0, .ref (a o))] → W p l e rm_X1_absoluteDeviations s m args below meth c H locs 0 0 Q (F0 m 4 ls []) := by
    intro n4
    induction n4 with
    | zero => intro i1 i2 H locs ls hF; exact absurd hF (by simp [f_X1_absoluteDeviations_L4])
    | succ n4 ih4 =>
      intro i1 i2 H locs ls hF hP hD hS hl
      rw [f_X1_absoluteDeviations_L4] at hF
      refine lv_iload_n hx hb dX1_absoluteDeviations_4 rfl (lv_at hl 0 rfl) ?_
      refine lv_aload_n hx hb dX1_absoluteDeviations_5 rfl (lv_at hl 2 rfl) ?_
      refine va_get (D := E.1) (ci := 3) (v := .int x.2.2) (C := RX1) (T := TX1) (N := 3) hx hb ha in_X1 hown hst.k hP 0 rfl rfl 2 (by decide) (ha _ mw99) (fun _ h9 => h9) rfl dX1_absoluteDeviations_6 ?_
      refine lv_icmp_ge (tgt := 29) hx hb dX1_absoluteDeviations_9 (by decide) (fun c9 => ?_) (fun c9 => ?_)
      · have hF := q_brp c9 hF
        refine lv_iload_n hx hb dX1_absoluteDeviations_29 rfl (lv_at hl 1 rfl) ?_
        obtain rfl := Option.some.inj hF
        exact en_i hQ (Nat.le_of_ble_eq_true rfl) (Nat.le_of_ble_eq_true rfl) hx hb hr hlocks hP hD hS rfl dX1_absoluteDeviations_30
      · have hF := q_brn c9 hF
        refine lv_iload_n hx hb dX1_absoluteDeviations_12 rfl (lv_at hl 1 rfl) ?_
        refine lv_aload_n hx hb dX1_absoluteDeviations_13 rfl (lv_at hl 2 rfl) ?_
        refine lv_iload_n hx hb dX1_absoluteDeviations_14 rfl (lv_at hl 0 rfl) ?_
        obtain ⟨q3, hq3, hF⟩ := q_bdi hF
        refine cl_i (Lc := [w_Bells E a o x]) (Lc' := [w_Bells E a o x]) (L' := [w_Bells E a o x]) (rv := q3) (va_runV (As := [.int i1]) (rest := [.int i2]) ⟨hx, hb, hml, hown, ha⟩ (k_X1_deviationOf l E a o x i1 q3 hq3 H.size) (cwV 1 ha (gi_V (fun _ h => h) mw778 mw679 mw680 mw29 mw681) rfl rfl rfl hv_X1_deviationOf ⟨(Nat.le_of_ble_eq_true rfl), (Nat.le_of_ble_eq_true rfl)⟩) ⟨pre_blind, va_recv hst.k (fr_P hP [0] rfl) (ci := 3) (q0 := 0) rfl rfl, pre_at hP hD hS hz hzs hst [0] (by decide) rfl rfl⟩ rfl rfl hl.1 rfl (lv_room (Nat.le_of_ble_eq_true rfl)) dX1_absoluteDeviations_15 ⟨(Nat.le_of_ble_eq_true rfl), (Nat.le_of_ble_eq_true rfl)⟩) hP hD hS hA [0] (by decide) rfl rfl rfl rfl (fun H locs hP hD hS => ?_)
        refine va_mabs hx hb (hml.trans hl.1.symm) hown (ha _ mw779) (ha _ mw444) (ha _ mw48) (ha _ mw445) (Nat.le_of_ble_eq_true rfl) (Nat.le_of_ble_eq_true rfl) (Nat.le_of_ble_eq_true rfl) (Nat.le_of_ble_eq_true rfl) dX1_absoluteDeviations_18 ?_
        refine lv_iadd hx hb dX1_absoluteDeviations_21 ?_
        refine lv_topi (fun v4 ev4 => ?_)
        have hF := q_lti ev4 hF
        refine lv_istore_n (lv' := [(1, .int v4), (2, .int i1), (0, .ref (a o))]) hx hb dX1_absoluteDeviations_22 rfl hl (by decide) rfl (fun ls hl => ?_)
        obtain ⟨v5, ev5⟩ : ∃ y : Int32, y = i1 + 1 := ⟨_, rfl⟩
        have hF := q_lti ev5 hF
        refine lv_iinc (v := v5) (lv' := [(2, .int v5), (1, .int v4), (0, .ref (a o))]) hx hb dX1_absoluteDeviations_23 hl (k := 1) rfl (by rw [ev5]; rfl) (by decide) rfl (fun ls hl => ?_)
        refine lv_goto (tgt := 4) hx hb dX1_absoluteDeviations_26 (by decide) ?_
        exact ih4 v5 v4 H locs ls hF hP hD hS (lv_sub hl [0, 1, 2] rfl)
  exact key4 _ 0 0 H locs ls hF hP hD hS (lv_sub hl [0, 1, 2] rfl)

/-! X1_bellsBefore -/
theorem dX1_bellsBefore_0 : decode cX1_bellsBefore 0 = .ok (.iconst 0, 1) := by decide +kernel
theorem dX1_bellsBefore_1 : decode cX1_bellsBefore 1 = .ok (.istore_n 2, 1) := by decide +kernel
theorem dX1_bellsBefore_2 : decode cX1_bellsBefore 2 = .ok (.iconst 0, 1) := by decide +kernel
theorem dX1_bellsBefore_3 : decode cX1_bellsBefore 3 = .ok (.istore_n 3, 1) := by decide +kernel
theorem dX1_bellsBefore_4 : decode cX1_bellsBefore 4 = .ok (.iload_n 3, 1) := by decide +kernel
theorem dX1_bellsBefore_5 : decode cX1_bellsBefore 5 = .ok (.aload_n 0, 1) := by decide +kernel
theorem dX1_bellsBefore_6 : decode cX1_bellsBefore 6 = .ok (.getfield 18, 3) := by decide +kernel
theorem dX1_bellsBefore_9 : decode cX1_bellsBefore 9 = .ok (.if_icmp .ge 59, 3) := by decide +kernel
theorem dX1_bellsBefore_12 : decode cX1_bellsBefore 12 = .ok (.aload_n 0, 1) := by decide +kernel
theorem dX1_bellsBefore_13 : decode cX1_bellsBefore 13 = .ok (.getfield 15, 3) := by decide +kernel
theorem dX1_bellsBefore_16 : decode cX1_bellsBefore 16 = .ok (.iload_n 3, 1) := by decide +kernel
theorem dX1_bellsBefore_17 : decode cX1_bellsBefore 17 = .ok (.iaload, 1) := by decide +kernel
theorem dX1_bellsBefore_18 : decode cX1_bellsBefore 18 = .ok (.aload_n 0, 1) := by decide +kernel
theorem dX1_bellsBefore_19 : decode cX1_bellsBefore 19 = .ok (.getfield 15, 3) := by decide +kernel
theorem dX1_bellsBefore_22 : decode cX1_bellsBefore 22 = .ok (.iload_n 1, 1) := by decide +kernel
theorem dX1_bellsBefore_23 : decode cX1_bellsBefore 23 = .ok (.iaload, 1) := by decide +kernel
theorem dX1_bellsBefore_24 : decode cX1_bellsBefore 24 = .ok (.if_icmp .ne 12, 3) := by decide +kernel
theorem dX1_bellsBefore_27 : decode cX1_bellsBefore 27 = .ok (.iload_n 3, 1) := by decide +kernel
theorem dX1_bellsBefore_28 : decode cX1_bellsBefore 28 = .ok (.iload_n 1, 1) := by decide +kernel
theorem dX1_bellsBefore_29 : decode cX1_bellsBefore 29 = .ok (.if_icmp .ge 7, 3) := by decide +kernel
theorem dX1_bellsBefore_32 : decode cX1_bellsBefore 32 = .ok (.iconst 1, 1) := by decide +kernel
theorem dX1_bellsBefore_33 : decode cX1_bellsBefore 33 = .ok (.goto 4, 3) := by decide +kernel
theorem dX1_bellsBefore_36 : decode cX1_bellsBefore 36 = .ok (.iconst 0, 1) := by decide +kernel
theorem dX1_bellsBefore_37 : decode cX1_bellsBefore 37 = .ok (.istore 4, 2) := by decide +kernel
theorem dX1_bellsBefore_39 : decode cX1_bellsBefore 39 = .ok (.aload_n 0, 1) := by decide +kernel
theorem dX1_bellsBefore_40 : decode cX1_bellsBefore 40 = .ok (.getfield 15, 3) := by decide +kernel
theorem dX1_bellsBefore_43 : decode cX1_bellsBefore 43 = .ok (.iload_n 3, 1) := by decide +kernel
theorem dX1_bellsBefore_44 : decode cX1_bellsBefore 44 = .ok (.iaload, 1) := by decide +kernel
theorem dX1_bellsBefore_45 : decode cX1_bellsBefore 45 = .ok (.aload_n 0, 1) := by decide +kernel
theorem dX1_bellsBefore_46 : decode cX1_bellsBefore 46 = .ok (.getfield 15, 3) := by decide +kernel
theorem dX1_bellsBefore_49 : decode cX1_bellsBefore 49 = .ok (.iload_n 1, 1) := by decide +kernel
theorem dX1_bellsBefore_50 : decode cX1_bellsBefore 50 = .ok (.iaload, 1) := by decide +kernel
theorem dX1_bellsBefore_51 : decode cX1_bellsBefore 51 = .ok (.if_icmp .lt 8, 3) := by decide +kernel
theorem dX1_bellsBefore_54 : decode cX1_bellsBefore 54 = .ok (.iload 4, 2) := by decide +kernel
theorem dX1_bellsBefore_56 : decode cX1_bellsBefore 56 = .ok (.ifCond .eq 6, 3) := by decide +kernel
theorem dX1_bellsBefore_59 : decode cX1_bellsBefore 59 = .ok (.iinc 2 1, 3) := by decide +kernel
theorem dX1_bellsBefore_62 : decode cX1_bellsBefore 62 = .ok (.iinc 3 1, 3) := by decide +kernel
theorem dX1_bellsBefore_65 : decode cX1_bellsBefore 65 = .ok (.goto (-61), 3) := by decide +kernel
theorem dX1_bellsBefore_68 : decode cX1_bellsBefore 68 = .ok (.iload_n 2, 1) := by decide +kernel
theorem dX1_bellsBefore_69 : decode cX1_bellsBefore 69 = .ok (.ireturn, 1) := by decide +kernel
def f_X1_bellsBefore_L4 (x_pitches : (Nat → Int32)) (x_count : Int32) (p1 : Int32) : Nat → Int32 → Int32 → Option (Int32)
  | 0, _, _ => none
  | n4 + 1, i1, i2 =>
    q_br (x_count ≤ i1) (
  some i2) (
  q_gd (q_in i1 12) (
  q_gd (q_in p1 12) (
  q_lt (fun (j5 : Int32) =>
  q_gd (q_in i1 12) (
  q_gd (q_in p1 12) (
  q_lt (fun (j8 : Int32) =>
  q_lt (i1 + 1 : Int32) (fun v9 =>
  f_X1_bellsBefore_L4 x_pitches x_count p1 n4 v9 j8)) (fun (J62 : Int32 → Option (Int32)) =>
  q_lt (fun (_ : Unit) =>
  q_lt (i2 + 1 : Int32) (fun v10 =>
  J62 v10)) (fun (J59 : Unit → Option (Int32)) =>
  q_br ((x_pitches (i1.toNatClampNeg)) < (x_pitches (p1.toNatClampNeg))) (
  J59 (())) (
  q_br (j5 = 0) (
  J62 i2) (
  J59 (())))))))) (fun (J37 : Int32 → Option (Int32)) =>
  q_br ((x_pitches (i1.toNatClampNeg)) = (x_pitches (p1.toNatClampNeg))) (
  q_br (p1 ≤ i1) (
  J37 0) (
  J37 1)) (
  J37 0)))))
def f_X1_bellsBefore (x_pitches : (Nat → Int32)) (x_count : Int32) (p1 : Int32) : Option (Int32) :=
  f_X1_bellsBefore_L4 x_pitches x_count p1 2000 0 0
theorem hv_X1_bellsBefore : yX1_bellsBefore.cls = RX1 ∧ yX1_bellsBefore.cls ≠ "java/lang/invoke/MethodHandle" ∧ yX1_bellsBefore.cls ≠ "java/lang/invoke/VarHandle" ∧ (parseMethodDescriptor yX1_bellsBefore.desc).map (fun d => d.parameters.length) = some 1 := by decide +kernel
abbrev rm_X1_bellsBefore : Room := { frames := 0, cells := 0, slots := 0, locals := 0 }
set_option maxHeartbeats 4000000 in
set_option maxRecDepth 100000 in
theorem k_X1_bellsBefore (l : Launch) (E : ET) (a : Nat → Nat) (o : Nat) (x : Bells_t) (p1 : Int32) (res : Int32) (hF : f_X1_bellsBefore x.2.1 x.2.2 p1 = some res) (sz : Nat) : CtI l yX1_bellsBefore (mws yX1_bellsBefore cX1_bellsBefore 5 (some .int)) rm_X1_bellsBefore 0 0 [.ref (a o), .int p1] E (bl_Bells E a o x) res (bl_Bells E a o x) sz := by
  refine mk_M (by decide +kernel) (Nat.le_of_ble_eq_true rfl) ?_
  intro p e s m below meth c A args Q ls hAe hsz hQ hx hb hr hml hin ha hown hlocks hA hz hzs hst hP hD hS hl
  have hown : s.vm.findClass RX1 = some m.cls := hown
  rw [hAe] at hQ
  subst hsz
  have hP : va_P E.1 vwCl (List.flatten [w_Bells E a o x]) s.heap := hP
  have hD : va_D A (List.flatten [w_Bells E a o x]) := hD
  have hl : lv_has ls 5 [(0, .ref (a o)), (1, .int p1)] := hl
  generalize hHe : s.heap = H at hP
  have hS : va_S A s.heap H [] := by rw [← hHe]; exact hS
  generalize ([] : List Loc) = locs at hS ⊢
  unfold f_X1_bellsBefore at hF
  refine lv_iconst (v := 0) hx hb dX1_bellsBefore_0 (by decide) ?_
  refine lv_istore_n (lv' := [(2, .int 0), (0, .ref (a o)), (1, .int p1)]) hx hb dX1_bellsBefore_1 rfl hl (by decide) rfl (fun ls hl => ?_)
  refine lv_iconst (v := 0) hx hb dX1_bellsBefore_2 (by decide) ?_
  refine lv_istore_n (lv' := [(3, .int 0), (2, .int 0), (0, .ref (a o)), (1, .int p1)]) hx hb dX1_bellsBefore_3 rfl hl (by decide) rfl (fun ls hl => ?_)
  have key4 : ∀ (n : Nat) (i1 : Int32) (i2 : Int32) (H : Heap) (locs : List Loc) (ls : Array Slot), f_X1_bellsBefore_L4 x.2.1 x.2.2 p1 n i1 i2 = some res → va_P E.1 vwCl (List.flatten [w_Bells E a o x]) H → va_D A (List.flatten [w_Bells E a o x]) → va_S A s.heap H locs → lv_has ls 5 [(3, .int i1), (2, .int i2), (0, .ref (a o)), (1, .int p1)] → W p l e rm_X1_bellsBefore s m args below meth c H locs 0 0 Q (F0 m 4 ls []) := by
    intro n4
    induction n4 with
    | zero => intro i1 i2 H locs ls hF; exact absurd hF (by simp [f_X1_bellsBefore_L4])
    | succ n4 ih4 =>
      intro i1 i2 H locs ls hF hP hD hS hl
      rw [f_X1_bellsBefore_L4] at hF
      refine lv_iload_n hx hb dX1_bellsBefore_4 rfl (lv_at hl 0 rfl) ?_
      refine lv_aload_n hx hb dX1_bellsBefore_5 rfl (lv_at hl 2 rfl) ?_
      refine va_get (D := E.1) (ci := 3) (v := .int x.2.2) (C := RX1) (T := TX1) (N := 3) hx hb ha in_X1 hown hst.k hP 0 rfl rfl 2 (by decide) (ha _ mw99) (fun _ h9 => h9) rfl dX1_bellsBefore_6 ?_
      refine lv_icmp_ge (tgt := 68) hx hb dX1_bellsBefore_9 (by decide) (fun c9 => ?_) (fun c9 => ?_)
      · have hF := q_brp c9 hF
        refine lv_iload_n hx hb dX1_bellsBefore_68 rfl (lv_at hl 1 rfl) ?_
        obtain rfl := Option.some.inj hF
        exact en_i hQ (Nat.le_of_ble_eq_true rfl) (Nat.le_of_ble_eq_true rfl) hx hb hr hlocks hP hD hS rfl dX1_bellsBefore_69
      · have hF := q_brn c9 hF
        refine lv_aload_n hx hb dX1_bellsBefore_12 rfl (lv_at hl 2 rfl) ?_
        refine va_get (D := E.1) (ci := 3) (v := .ref (a (o + 2))) (C := RX1) (T := TX1) (N := 3) hx hb ha in_X1 hown hst.k hP 0 rfl rfl 1 (by decide) (ha _ mw97) (fun _ h9 => h9) rfl dX1_bellsBefore_13 ?_
        refine lv_iload_n hx hb dX1_bellsBefore_16 rfl (lv_at hl 0 rfl) ?_
        obtain ⟨g3, hF⟩ := q_gdi hF
        refine vi_iald hx hb hst.k hP 2 0 rfl rfl (f := x.2.1) (k := i1.toNatClampNeg) rfl g3 dX1_bellsBefore_17 ?_
        refine lv_aload_n hx hb dX1_bellsBefore_18 rfl (lv_at hl 2 rfl) ?_
        refine va_get (D := E.1) (ci := 3) (v := .ref (a (o + 2))) (C := RX1) (T := TX1) (N := 3) hx hb ha in_X1 hown hst.k hP 0 rfl rfl 1 (by decide) (ha _ mw97) (fun _ h9 => h9) rfl dX1_bellsBefore_19 ?_
        refine lv_iload_n hx hb dX1_bellsBefore_22 rfl (lv_at hl 3 rfl) ?_
        obtain ⟨g4, hF⟩ := q_gdi hF
        refine vi_iald hx hb hst.k hP 2 0 rfl rfl (f := x.2.1) (k := p1.toNatClampNeg) rfl g4 dX1_bellsBefore_23 ?_
        obtain ⟨J37, hJ37, hF⟩ := q_jn hF
        have jJ37 : ∀ (j5 : Int32), ∀ (H : Heap) (locs : List Loc) (ls : Array Slot), J37 j5 = some res → va_P E.1 vwCl (List.flatten [w_Bells E a o x]) H → va_D A (List.flatten [w_Bells E a o x]) → va_S A s.heap H locs → lv_has ls 5 [(3, .int i1), (2, .int i2), (0, .ref (a o)), (1, .int p1)] → W p l e rm_X1_bellsBefore s m args below meth c H locs 0 0 Q (F0 m 37 ls [.int j5]) := by
          intro j5 H locs ls hF hP hD hS hl
          rw [hJ37] at hF
          refine lv_istore (lv' := [(4, .int j5), (3, .int i1), (2, .int i2), (0, .ref (a o)), (1, .int p1)]) hx hb dX1_bellsBefore_37 hl (by decide) rfl (fun ls hl => ?_)
          refine lv_aload_n hx hb dX1_bellsBefore_39 rfl (lv_at hl 3 rfl) ?_
          refine va_get (D := E.1) (ci := 3) (v := .ref (a (o + 2))) (C := RX1) (T := TX1) (N := 3) hx hb ha in_X1 hown hst.k hP 0 rfl rfl 1 (by decide) (ha _ mw97) (fun _ h9 => h9) rfl dX1_bellsBefore_40 ?_
          refine lv_iload_n hx hb dX1_bellsBefore_43 rfl (lv_at hl 1 rfl) ?_
          obtain ⟨g6, hF⟩ := q_gdi hF
          refine vi_iald hx hb hst.k hP 2 0 rfl rfl (f := x.2.1) (k := i1.toNatClampNeg) rfl g6 dX1_bellsBefore_44 ?_
          refine lv_aload_n hx hb dX1_bellsBefore_45 rfl (lv_at hl 3 rfl) ?_
          refine va_get (D := E.1) (ci := 3) (v := .ref (a (o + 2))) (C := RX1) (T := TX1) (N := 3) hx hb ha in_X1 hown hst.k hP 0 rfl rfl 1 (by decide) (ha _ mw97) (fun _ h9 => h9) rfl dX1_bellsBefore_46 ?_
          refine lv_iload_n hx hb dX1_bellsBefore_49 rfl (lv_at hl 4 rfl) ?_
          obtain ⟨g7, hF⟩ := q_gdi hF
          refine vi_iald hx hb hst.k hP 2 0 rfl rfl (f := x.2.1) (k := p1.toNatClampNeg) rfl g7 dX1_bellsBefore_50 ?_
          obtain ⟨J62, hJ62, hF⟩ := q_jn hF
          have jJ62 : ∀ (j8 : Int32), ∀ (H : Heap) (locs : List Loc) (ls : Array Slot), J62 j8 = some res → va_P E.1 vwCl (List.flatten [w_Bells E a o x]) H → va_D A (List.flatten [w_Bells E a o x]) → va_S A s.heap H locs → lv_has ls 5 [(3, .int i1), (2, .int j8), (0, .ref (a o)), (1, .int p1)] → W p l e rm_X1_bellsBefore s m args below meth c H locs 0 0 Q (F0 m 62 ls []) := by
            intro j8 H locs ls hF hP hD hS hl
            rw [hJ62] at hF
            obtain ⟨v9, ev9⟩ : ∃ y : Int32, y = i1 + 1 := ⟨_, rfl⟩
            have hF := q_lti ev9 hF
            refine lv_iinc (v := v9) (lv' := [(3, .int v9), (2, .int j8), (0, .ref (a o)), (1, .int p1)]) hx hb dX1_bellsBefore_62 hl (k := 0) rfl (by rw [ev9]; rfl) (by decide) rfl (fun ls hl => ?_)
            refine lv_goto (tgt := 4) hx hb dX1_bellsBefore_65 (by decide) ?_
            exact ih4 v9 j8 H locs ls hF hP hD hS (lv_sub hl [0, 1, 2, 3] rfl)
          obtain ⟨J59, hJ59, hF⟩ := q_jn hF
          have jJ59 : ∀ (H : Heap) (locs : List Loc) (ls : Array Slot), J59 () = some res → va_P E.1 vwCl (List.flatten [w_Bells E a o x]) H → va_D A (List.flatten [w_Bells E a o x]) → va_S A s.heap H locs → lv_has ls 5 [(3, .int i1), (2, .int i2), (0, .ref (a o)), (1, .int p1)] → W p l e rm_X1_bellsBefore s m args below meth c H locs 0 0 Q (F0 m 59 ls []) := by
            intro  H locs ls hF hP hD hS hl
            rw [hJ59] at hF
            obtain ⟨v10, ev10⟩ : ∃ y : Int32, y = i2 + 1 := ⟨_, rfl⟩
            have hF := q_lti ev10 hF
            refine lv_iinc (v := v10) (lv' := [(2, .int v10), (3, .int i1), (0, .ref (a o)), (1, .int p1)]) hx hb dX1_bellsBefore_59 hl (k := 1) rfl (by rw [ev10]; rfl) (by decide) rfl (fun ls hl => ?_)
            exact jJ62 v10 H locs ls hF hP hD hS (lv_sub hl [1, 0, 2, 3] rfl)
          refine lv_icmp_lt (tgt := 59) hx hb dX1_bellsBefore_51 (by decide) (fun c51 => ?_) (fun c51 => ?_)
          · have hF := q_brp c51 hF
            exact jJ59 H locs ls hF hP hD hS (lv_sub hl [1, 2, 3, 4] rfl)
          · have hF := q_brn c51 hF
            refine lv_iload hx hb dX1_bellsBefore_54 (lv_at hl 0 rfl) ?_
            refine lv_if_eq (tgt := 62) hx hb dX1_bellsBefore_56 (by decide) (fun c56 => ?_) (fun c56 => ?_)
            · have hF := q_brp c56 hF
              exact jJ62 i2 H locs ls hF hP hD hS (lv_sub hl [1, 2, 3, 4] rfl)
            · have hF := q_brn c56 hF
              exact jJ59 H locs ls hF hP hD hS (lv_sub hl [1, 2, 3, 4] rfl)
        refine lv_icmp_ne (tgt := 36) hx hb dX1_bellsBefore_24 (by decide) (fun c24 => ?_) (fun c24 => ?_)
        · have hF := q_brn c24 hF
          refine lv_iconst (v := 0) hx hb dX1_bellsBefore_36 (by decide) ?_
          exact jJ37 0 H locs ls hF hP hD hS (lv_sub hl [0, 1, 2, 3] rfl)
        · have hF := q_brp c24 hF
          refine lv_iload_n hx hb dX1_bellsBefore_27 rfl (lv_at hl 0 rfl) ?_
          refine lv_iload_n hx hb dX1_bellsBefore_28 rfl (lv_at hl 3 rfl) ?_
          refine lv_icmp_ge (tgt := 36) hx hb dX1_bellsBefore_29 (by decide) (fun c29 => ?_) (fun c29 => ?_)
          · have hF := q_brp c29 hF
            refine lv_iconst (v := 0) hx hb dX1_bellsBefore_36 (by decide) ?_
            exact jJ37 0 H locs ls hF hP hD hS (lv_sub hl [0, 1, 2, 3] rfl)
          · have hF := q_brn c29 hF
            refine lv_iconst (v := 1) hx hb dX1_bellsBefore_32 (by decide) ?_
            refine lv_goto (tgt := 37) hx hb dX1_bellsBefore_33 (by decide) ?_
            exact jJ37 1 H locs ls hF hP hD hS (lv_sub hl [0, 1, 2, 3] rfl)
  exact key4 _ 0 0 H locs ls hF hP hD hS (lv_sub hl [0, 1, 2, 3] rfl)

/-! X1_ranked -/
theorem dX1_ranked_0 : decode cX1_ranked 0 = .ok (.iconst 0, 1) := by decide +kernel
theorem dX1_ranked_1 : decode cX1_ranked 1 = .ok (.istore_n 2, 1) := by decide +kernel
theorem dX1_ranked_2 : decode cX1_ranked 2 = .ok (.iload_n 2, 1) := by decide +kernel
theorem dX1_ranked_3 : decode cX1_ranked 3 = .ok (.aload_n 0, 1) := by decide +kernel
theorem dX1_ranked_4 : decode cX1_ranked 4 = .ok (.getfield 18, 3) := by decide +kernel
theorem dX1_ranked_7 : decode cX1_ranked 7 = .ok (.if_icmp .ge 20, 3) := by decide +kernel
theorem dX1_ranked_10 : decode cX1_ranked 10 = .ok (.aload_n 0, 1) := by decide +kernel
theorem dX1_ranked_11 : decode cX1_ranked 11 = .ok (.iload_n 2, 1) := by decide +kernel
theorem dX1_ranked_12 : decode cX1_ranked 12 = .ok (.invokevirtual 63, 3) := by decide +kernel
theorem dX1_ranked_15 : decode cX1_ranked 15 = .ok (.iload_n 1, 1) := by decide +kernel
theorem dX1_ranked_16 : decode cX1_ranked 16 = .ok (.if_icmp .ne 5, 3) := by decide +kernel
theorem dX1_ranked_19 : decode cX1_ranked 19 = .ok (.iload_n 2, 1) := by decide +kernel
theorem dX1_ranked_20 : decode cX1_ranked 20 = .ok (.ireturn, 1) := by decide +kernel
theorem dX1_ranked_21 : decode cX1_ranked 21 = .ok (.iinc 2 1, 3) := by decide +kernel
theorem dX1_ranked_24 : decode cX1_ranked 24 = .ok (.goto (-22), 3) := by decide +kernel
theorem dX1_ranked_27 : decode cX1_ranked 27 = .ok (.iconst (-1), 1) := by decide +kernel
theorem dX1_ranked_28 : decode cX1_ranked 28 = .ok (.ireturn, 1) := by decide +kernel
def f_X1_ranked_L2 (x_pitches : (Nat → Int32)) (x_count : Int32) (p1 : Int32) : Nat → Int32 → Option (Int32)
  | 0, _ => none
  | n2 + 1, i1 =>
    q_br (x_count ≤ i1) (
  some (-1)) (
  q_bd (f_X1_bellsBefore x_pitches x_count i1) (fun q2 =>
  q_br (q2 = p1) (
  some i1) (
  q_lt (i1 + 1 : Int32) (fun v3 =>
  f_X1_ranked_L2 x_pitches x_count p1 n2 v3))))
def f_X1_ranked (x_pitches : (Nat → Int32)) (x_count : Int32) (p1 : Int32) : Option (Int32) :=
  f_X1_ranked_L2 x_pitches x_count p1 2000 0
theorem hv_X1_ranked : yX1_ranked.cls = RX1 ∧ yX1_ranked.cls ≠ "java/lang/invoke/MethodHandle" ∧ yX1_ranked.cls ≠ "java/lang/invoke/VarHandle" ∧ (parseMethodDescriptor yX1_ranked.desc).map (fun d => d.parameters.length) = some 1 := by decide +kernel
abbrev rm_X1_ranked : Room := { frames := 1, cells := 0, slots := 0, locals := 24 }
set_option maxHeartbeats 4000000 in
set_option maxRecDepth 100000 in
theorem k_X1_ranked (l : Launch) (E : ET) (a : Nat → Nat) (o : Nat) (x : Bells_t) (p1 : Int32) (res : Int32) (hF : f_X1_ranked x.2.1 x.2.2 p1 = some res) (sz : Nat) : CtI l yX1_ranked (mws yX1_ranked cX1_ranked 3 (some .int)) rm_X1_ranked 0 0 [.ref (a o), .int p1] E (bl_Bells E a o x) res (bl_Bells E a o x) sz := by
  refine mk_M (by decide +kernel) (Nat.le_of_ble_eq_true rfl) ?_
  intro p e s m below meth c A args Q ls hAe hsz hQ hx hb hr hml hin ha hown hlocks hA hz hzs hst hP hD hS hl
  have hown : s.vm.findClass RX1 = some m.cls := hown
  rw [hAe] at hQ
  subst hsz
  have hP : va_P E.1 vwCl (List.flatten [w_Bells E a o x]) s.heap := hP
  have hD : va_D A (List.flatten [w_Bells E a o x]) := hD
  have hl : lv_has ls 3 [(0, .ref (a o)), (1, .int p1)] := hl
  generalize hHe : s.heap = H at hP
  have hS : va_S A s.heap H [] := by rw [← hHe]; exact hS
  generalize ([] : List Loc) = locs at hS ⊢
  unfold f_X1_ranked at hF
  refine lv_iconst (v := 0) hx hb dX1_ranked_0 (by decide) ?_
  refine lv_istore_n (lv' := [(2, .int 0), (0, .ref (a o)), (1, .int p1)]) hx hb dX1_ranked_1 rfl hl (by decide) rfl (fun ls hl => ?_)
  have key2 : ∀ (n : Nat) (i1 : Int32) (H : Heap) (locs : List Loc) (ls : Array Slot), f_X1_ranked_L2 x.2.1 x.2.2 p1 n i1 = some res → va_P E.1 vwCl (List.flatten [w_Bells E a o x]) H → va_D A (List.flatten [w_Bells E a o x]) → va_S A s.heap H locs → lv_has ls 3 [(2, .int i1), (0, .ref (a o)), (1, .int p1)] → W p l e rm_X1_ranked s m args below meth c H locs 0 0 Q (F0 m 2 ls []) := by
    intro n2
    induction n2 with
    | zero => intro i1 H locs ls hF; exact absurd hF (by simp [f_X1_ranked_L2])
    | succ n2 ih2 =>
      intro i1 H locs ls hF hP hD hS hl
      rw [f_X1_ranked_L2] at hF
      refine lv_iload_n hx hb dX1_ranked_2 rfl (lv_at hl 0 rfl) ?_
      refine lv_aload_n hx hb dX1_ranked_3 rfl (lv_at hl 1 rfl) ?_
      refine va_get (D := E.1) (ci := 3) (v := .int x.2.2) (C := RX1) (T := TX1) (N := 3) hx hb ha in_X1 hown hst.k hP 0 rfl rfl 2 (by decide) (ha _ mw99) (fun _ h9 => h9) rfl dX1_ranked_4 ?_
      refine lv_icmp_ge (tgt := 27) hx hb dX1_ranked_7 (by decide) (fun c7 => ?_) (fun c7 => ?_)
      · have hF := q_brp c7 hF
        refine lv_iconst (v := (-1)) hx hb dX1_ranked_27 (by decide) ?_
        obtain rfl := Option.some.inj hF
        exact en_i hQ (Nat.le_of_ble_eq_true rfl) (Nat.le_of_ble_eq_true rfl) hx hb hr hlocks hP hD hS rfl dX1_ranked_28
      · have hF := q_brn c7 hF
        refine lv_aload_n hx hb dX1_ranked_10 rfl (lv_at hl 1 rfl) ?_
        refine lv_iload_n hx hb dX1_ranked_11 rfl (lv_at hl 0 rfl) ?_
        obtain ⟨q2, hq2, hF⟩ := q_bdi hF
        refine cl_i (Lc := [w_Bells E a o x]) (Lc' := [w_Bells E a o x]) (L' := [w_Bells E a o x]) (rv := q2) (va_runV (As := [.int i1]) (rest := []) ⟨hx, hb, hml, hown, ha⟩ (k_X1_bellsBefore l E a o x i1 q2 hq2 H.size) (cwV 1 ha (gi_V (fun _ h => h) mw730 mw732 mw8 mw29 mw733) rfl rfl rfl hv_X1_bellsBefore ⟨(Nat.le_of_ble_eq_true rfl), (Nat.le_of_ble_eq_true rfl)⟩) ⟨pre_blind, va_recv hst.k (fr_P hP [0] rfl) (ci := 3) (q0 := 0) rfl rfl, pre_at hP hD hS hz hzs hst [0] (by decide) rfl rfl⟩ rfl rfl hl.1 rfl (lv_room (Nat.le_of_ble_eq_true rfl)) dX1_ranked_12 ⟨(Nat.le_of_ble_eq_true rfl), (Nat.le_of_ble_eq_true rfl)⟩) hP hD hS hA [0] (by decide) rfl rfl rfl rfl (fun H locs hP hD hS => ?_)
        refine lv_iload_n hx hb dX1_ranked_15 rfl (lv_at hl 2 rfl) ?_
        refine lv_icmp_ne (tgt := 21) hx hb dX1_ranked_16 (by decide) (fun c16 => ?_) (fun c16 => ?_)
        · have hF := q_brn c16 hF
          obtain ⟨v3, ev3⟩ : ∃ y : Int32, y = i1 + 1 := ⟨_, rfl⟩
          have hF := q_lti ev3 hF
          refine lv_iinc (v := v3) (lv' := [(2, .int v3), (0, .ref (a o)), (1, .int p1)]) hx hb dX1_ranked_21 hl (k := 0) rfl (by rw [ev3]; rfl) (by decide) rfl (fun ls hl => ?_)
          refine lv_goto (tgt := 2) hx hb dX1_ranked_24 (by decide) ?_
          exact ih2 v3 H locs ls hF hP hD hS (lv_sub hl [0, 1, 2] rfl)
        · have hF := q_brp c16 hF
          refine lv_iload_n hx hb dX1_ranked_19 rfl (lv_at hl 0 rfl) ?_
          obtain rfl := Option.some.inj hF
          exact en_i hQ (Nat.le_of_ble_eq_true rfl) (Nat.le_of_ble_eq_true rfl) hx hb hr hlocks hP hD hS rfl dX1_ranked_20
  exact key2 _ 0 H locs ls hF hP hD hS (lv_sub hl [0, 1, 2] rfl)

/-! X1_copyFrom -/
theorem dX1_copyFrom_0 : decode cX1_copyFrom 0 = .ok (.aload_n 1, 1) := by decide +kernel
theorem dX1_copyFrom_1 : decode cX1_copyFrom 1 = .ok (.getfield 11, 3) := by decide +kernel
theorem dX1_copyFrom_4 : decode cX1_copyFrom 4 = .ok (.iconst 0, 1) := by decide +kernel
theorem dX1_copyFrom_5 : decode cX1_copyFrom 5 = .ok (.aload_n 0, 1) := by decide +kernel
theorem dX1_copyFrom_6 : decode cX1_copyFrom 6 = .ok (.getfield 11, 3) := by decide +kernel
theorem dX1_copyFrom_9 : decode cX1_copyFrom 9 = .ok (.iconst 0, 1) := by decide +kernel
theorem dX1_copyFrom_10 : decode cX1_copyFrom 10 = .ok (.bipush 12, 2) := by decide +kernel
theorem dX1_copyFrom_12 : decode cX1_copyFrom 12 = .ok (.invokestatic 22, 3) := by decide +kernel
theorem dX1_copyFrom_15 : decode cX1_copyFrom 15 = .ok (.aload_n 1, 1) := by decide +kernel
theorem dX1_copyFrom_16 : decode cX1_copyFrom 16 = .ok (.getfield 15, 3) := by decide +kernel
theorem dX1_copyFrom_19 : decode cX1_copyFrom 19 = .ok (.iconst 0, 1) := by decide +kernel
theorem dX1_copyFrom_20 : decode cX1_copyFrom 20 = .ok (.aload_n 0, 1) := by decide +kernel
theorem dX1_copyFrom_21 : decode cX1_copyFrom 21 = .ok (.getfield 15, 3) := by decide +kernel
theorem dX1_copyFrom_24 : decode cX1_copyFrom 24 = .ok (.iconst 0, 1) := by decide +kernel
theorem dX1_copyFrom_25 : decode cX1_copyFrom 25 = .ok (.bipush 12, 2) := by decide +kernel
theorem dX1_copyFrom_27 : decode cX1_copyFrom 27 = .ok (.invokestatic 22, 3) := by decide +kernel
theorem dX1_copyFrom_30 : decode cX1_copyFrom 30 = .ok (.aload_n 0, 1) := by decide +kernel
theorem dX1_copyFrom_31 : decode cX1_copyFrom 31 = .ok (.aload_n 1, 1) := by decide +kernel
theorem dX1_copyFrom_32 : decode cX1_copyFrom 32 = .ok (.getfield 18, 3) := by decide +kernel
theorem dX1_copyFrom_35 : decode cX1_copyFrom 35 = .ok (.putfield 18, 3) := by decide +kernel
theorem dX1_copyFrom_38 : decode cX1_copyFrom 38 = .ok (.return_, 1) := by decide +kernel
def f_X1_copyFrom (x_herds : (Nat → Int32)) (x_pitches : (Nat → Int32)) (x_count : Int32) (y_herds : (Nat → Int32)) (y_pitches : (Nat → Int32)) (y_count : Int32) : Option ((Nat → Int32) × (Nat → Int32) × Int32) :=
  some (va_cpy y_herds x_herds 0 0 12, va_cpy y_pitches x_pitches 0 0 12, y_count)
theorem hv_X1_copyFrom : yX1_copyFrom.cls = RX1 ∧ yX1_copyFrom.cls ≠ "java/lang/invoke/MethodHandle" ∧ yX1_copyFrom.cls ≠ "java/lang/invoke/VarHandle" ∧ (parseMethodDescriptor yX1_copyFrom.desc).map (fun d => d.parameters.length) = some 1 := by decide +kernel
abbrev rm_X1_copyFrom : Room := { frames := 1, cells := 0, slots := 0, locals := 60 }
set_option maxHeartbeats 4000000 in
set_option maxRecDepth 100000 in
theorem k_X1_copyFrom (l : Launch) (E : ET) (a : Nat → Nat) (o : Nat) (x : Bells_t) (ay : Nat → Nat) (oy : Nat) (y : Bells_t) (res : (Nat → Int32) × (Nat → Int32) × Int32) (hF : f_X1_copyFrom x.1 x.2.1 x.2.2 y.1 y.2.1 y.2.2 = some res) (sz : Nat) : CtV l yX1_copyFrom (mws yX1_copyFrom cX1_copyFrom 2 none) rm_X1_copyFrom 0 0 [.ref (a o), .ref (ay oy)] E (bl_Bells E a o x ++ bl_Bells E ay oy y) (bl_Bells E a o (res.1, res.2.1, res.2.2) ++ bl_Bells E ay oy y) sz := by
  refine mk_M (by decide +kernel) (Nat.le_of_ble_eq_true rfl) ?_
  intro p e s m below meth c A args Q ls hAe hsz hQ hx hb hr hml hin ha hown hlocks hA hz hzs hst hP hD hS hl
  have hown : s.vm.findClass RX1 = some m.cls := hown
  rw [hAe] at hQ
  subst hsz
  have hP : va_P E.1 vwCl (List.flatten [w_Bells E a o x, w_Bells E ay oy y]) s.heap := hP
  have hD : va_D A (List.flatten [w_Bells E a o x, w_Bells E ay oy y]) := hD
  have hl : lv_has ls 2 [(0, .ref (a o)), (1, .ref (ay oy))] := hl
  generalize hHe : s.heap = H at hP
  have hS : va_S A s.heap H [] := by rw [← hHe]; exact hS
  generalize ([] : List Loc) = locs at hS ⊢
  unfold f_X1_copyFrom at hF
  refine lv_aload_n hx hb dX1_copyFrom_0 rfl (lv_at hl 1 rfl) ?_
  refine va_get (D := E.1) (ci := 3) (v := .ref (ay (oy + 1))) (C := RX1) (T := TX1) (N := 3) hx hb ha in_X1 hown hst.k hP 3 rfl rfl 0 (by decide) (ha _ mw95) (fun _ h9 => h9) rfl dX1_copyFrom_1 ?_
  refine lv_iconst (v := 0) hx hb dX1_copyFrom_4 (by decide) ?_
  refine lv_aload_n hx hb dX1_copyFrom_5 rfl (lv_at hl 0 rfl) ?_
  refine va_get (D := E.1) (ci := 3) (v := .ref (a (o + 1))) (C := RX1) (T := TX1) (N := 3) hx hb ha in_X1 hown hst.k hP 0 rfl rfl 0 (by decide) (ha _ mw95) (fun _ h9 => h9) rfl dX1_copyFrom_6 ?_
  refine lv_iconst (v := 0) hx hb dX1_copyFrom_9 (by decide) ?_
  refine lv_bipush (v := 12) hx hb dX1_copyFrom_10 (by decide) ?_
  refine vi_copy hx hb (hml.trans hl.1.symm) hown (ha _ mw341) (ha _ mw343) (ha _ mw342) (ha _ mw46) hst.k hP hD hS 4 1 0 rfl rfl rfl rfl (k0 := 0) (k1 := 0) (kn := 12) (by decide) (by decide) (by decide) (by decide) (by decide) (by decide) (by decide) (by decide) (fun _ _ => rfl) (Nat.le_of_ble_eq_true rfl) (Nat.le_of_ble_eq_true rfl) dX1_copyFrom_12 (fun H locs hP hD hS => ?_)
  have hP : va_P E.1 vwCl (List.flatten [w_Bells E a o (va_cpy y.1 x.1 0 0 12, x.2.1, x.2.2), w_Bells E ay oy y]) H := hP
  have hD : va_D A (List.flatten [w_Bells E a o (va_cpy y.1 x.1 0 0 12, x.2.1, x.2.2), w_Bells E ay oy y]) := hD
  refine lv_aload_n hx hb dX1_copyFrom_15 rfl (lv_at hl 1 rfl) ?_
  refine va_get (D := E.1) (ci := 3) (v := .ref (ay (oy + 2))) (C := RX1) (T := TX1) (N := 3) hx hb ha in_X1 hown hst.k hP 3 rfl rfl 1 (by decide) (ha _ mw97) (fun _ h9 => h9) rfl dX1_copyFrom_16 ?_
  refine lv_iconst (v := 0) hx hb dX1_copyFrom_19 (by decide) ?_
  refine lv_aload_n hx hb dX1_copyFrom_20 rfl (lv_at hl 0 rfl) ?_
  refine va_get (D := E.1) (ci := 3) (v := .ref (a (o + 2))) (C := RX1) (T := TX1) (N := 3) hx hb ha in_X1 hown hst.k hP 0 rfl rfl 1 (by decide) (ha _ mw97) (fun _ h9 => h9) rfl dX1_copyFrom_21 ?_
  refine lv_iconst (v := 0) hx hb dX1_copyFrom_24 (by decide) ?_
  refine lv_bipush (v := 12) hx hb dX1_copyFrom_25 (by decide) ?_
  refine vi_copy hx hb (hml.trans hl.1.symm) hown (ha _ mw341) (ha _ mw343) (ha _ mw342) (ha _ mw46) hst.k hP hD hS 5 2 0 rfl rfl rfl rfl (k0 := 0) (k1 := 0) (kn := 12) (by decide) (by decide) (by decide) (by decide) (by decide) (by decide) (by decide) (by decide) (fun _ _ => rfl) (Nat.le_of_ble_eq_true rfl) (Nat.le_of_ble_eq_true rfl) dX1_copyFrom_27 (fun H locs hP hD hS => ?_)
  have hP : va_P E.1 vwCl (List.flatten [w_Bells E a o (va_cpy y.1 x.1 0 0 12, va_cpy y.2.1 x.2.1 0 0 12, x.2.2), w_Bells E ay oy y]) H := hP
  have hD : va_D A (List.flatten [w_Bells E a o (va_cpy y.1 x.1 0 0 12, va_cpy y.2.1 x.2.1 0 0 12, x.2.2), w_Bells E ay oy y]) := hD
  refine lv_aload_n hx hb dX1_copyFrom_30 rfl (lv_at hl 0 rfl) ?_
  refine lv_aload_n hx hb dX1_copyFrom_31 rfl (lv_at hl 1 rfl) ?_
  refine va_get (D := E.1) (ci := 3) (v := .int y.2.2) (C := RX1) (T := TX1) (N := 3) hx hb ha in_X1 hown hst.k hP 3 rfl rfl 2 (by decide) (ha _ mw99) (fun _ h9 => h9) rfl dX1_copyFrom_32 ?_
  refine va_put (D := E.1) (ci := 3) (v := .int y.2.2) (ty := .int) (C := RX1) (T := TX1) (N := 3) hx hb ha in_X1 tyX1 tyX1_ok nmX1 hown hst.k hP hD hS 0 rfl rfl 2 (by decide) (ha _ mw99) (fun _ h9 => h9) rfl (tyX1_ok 2 (by decide)) rfl rfl (Nat.le_of_ble_eq_true rfl) dX1_copyFrom_35 (fun H locs hP hD hS => ?_)
  have hP : va_P E.1 vwCl (List.flatten [w_Bells E a o (va_cpy y.1 x.1 0 0 12, va_cpy y.2.1 x.2.1 0 0 12, y.2.2), w_Bells E ay oy y]) H := hP
  have hD : va_D A (List.flatten [w_Bells E a o (va_cpy y.1 x.1 0 0 12, va_cpy y.2.1 x.2.1 0 0 12, y.2.2), w_Bells E ay oy y]) := hD
  obtain rfl := Option.some.inj hF
  exact en_v hQ (Nat.le_of_ble_eq_true rfl) (Nat.le_of_ble_eq_true rfl) hx hb hr hlocks hP hD hS dX1_copyFrom_38
