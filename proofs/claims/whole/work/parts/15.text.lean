/-! X11_append -/
theorem dX11_append_0 : decode cX11_append 0 = .ok (.aload_n 0, 1) := by decide +kernel
theorem dX11_append_1 : decode cX11_append 1 = .ok (.getfield 184, 3) := by decide +kernel
theorem dX11_append_4 : decode cX11_append 4 = .ok (.bipush 60, 2) := by decide +kernel
theorem dX11_append_6 : decode cX11_append 6 = .ok (.if_icmp .ne 9, 3) := by decide +kernel
theorem dX11_append_9 : decode cX11_append 9 = .ok (.aload_n 0, 1) := by decide +kernel
theorem dX11_append_10 : decode cX11_append 10 = .ok (.iconst 1, 1) := by decide +kernel
theorem dX11_append_11 : decode cX11_append 11 = .ok (.invokevirtual 80, 3) := by decide +kernel
theorem dX11_append_14 : decode cX11_append 14 = .ok (.ireturn, 1) := by decide +kernel
theorem dX11_append_15 : decode cX11_append 15 = .ok (.aload_n 0, 1) := by decide +kernel
theorem dX11_append_16 : decode cX11_append 16 = .ok (.getfield 22, 3) := by decide +kernel
theorem dX11_append_19 : decode cX11_append 19 = .ok (.aload_n 0, 1) := by decide +kernel
theorem dX11_append_20 : decode cX11_append 20 = .ok (.getfield 184, 3) := by decide +kernel
theorem dX11_append_23 : decode cX11_append 23 = .ok (.iload_n 1, 1) := by decide +kernel
theorem dX11_append_24 : decode cX11_append 24 = .ok (.castore, 1) := by decide +kernel
theorem dX11_append_25 : decode cX11_append 25 = .ok (.aload_n 0, 1) := by decide +kernel
theorem dX11_append_26 : decode cX11_append 26 = .ok (.dup, 1) := by decide +kernel
theorem dX11_append_27 : decode cX11_append 27 = .ok (.getfield 184, 3) := by decide +kernel
theorem dX11_append_30 : decode cX11_append 30 = .ok (.iconst 1, 1) := by decide +kernel
theorem dX11_append_31 : decode cX11_append 31 = .ok (.iadd, 1) := by decide +kernel
theorem dX11_append_32 : decode cX11_append 32 = .ok (.putfield 184, 3) := by decide +kernel
theorem dX11_append_35 : decode cX11_append 35 = .ok (.aload_n 0, 1) := by decide +kernel
theorem dX11_append_36 : decode cX11_append 36 = .ok (.aload_n 0, 1) := by decide +kernel
theorem dX11_append_37 : decode cX11_append 37 = .ok (.getfield 184, 3) := by decide +kernel
theorem dX11_append_40 : decode cX11_append 40 = .ok (.invokevirtual 83, 3) := by decide +kernel
theorem dX11_append_43 : decode cX11_append 43 = .ok (.ireturn, 1) := by decide +kernel
def f_X11_append (x_buffer : (Nat → Int32)) (x_typed : Int32) (x_thrown : Int32) (p1 : Int32) : Option (Int32 × (Nat → Int32) × Int32 × Int32) :=
  q_br (x_typed = 60) (
  q_bd (f_X11_fails x_thrown 1) (fun q4 =>
  some (q4.1, x_buffer, x_typed, q4.2))) (
  q_gd (q_in x_typed 60) (
  q_lt (upd x_buffer (x_typed.toNatClampNeg) (vp_nar .char p1)) (fun u2 =>
  q_bd (f_X11_done x_thrown (x_typed + 1)) (fun q3 =>
  some (q3.1, u2, x_typed + 1, q3.2)))))
theorem hv_X11_append : yX11_append.cls = RX11 ∧ yX11_append.cls ≠ "java/lang/invoke/MethodHandle" ∧ yX11_append.cls ≠ "java/lang/invoke/VarHandle" ∧ (parseMethodDescriptor yX11_append.desc).map (fun d => d.parameters.length) = some 1 := by decide +kernel
abbrev rm_X11_append : Room := { frames := 1, cells := 0, slots := 0, locals := 21 }
set_option maxHeartbeats 4000000 in
set_option maxRecDepth 100000 in
theorem k_X11_append (l : Launch) (E : ET) (a : Nat → Nat) (o : Nat) (x : Model_t) (p1 : Int32) (res : Int32 × (Nat → Int32) × Int32 × Int32) (hF : f_X11_append x.2.1.2.1 x.2.1.2.2.1 x.2.2.2.1 p1 = some res) (sz : Nat) : CtI l yX11_append (mws yX11_append cX11_append 2 (some .int)) rm_X11_append 0 0 [.ref (a o), .int p1] E (bl_Model E a o x) res.1 (bl_Model E a o ((x.1.1, x.1.2.1, x.1.2.2.1, x.1.2.2.2.1, x.1.2.2.2.2), (x.2.1.1, res.2.1, res.2.2.1, x.2.1.2.2.2.1, x.2.1.2.2.2.2), (x.2.2.1.1, x.2.2.1.2.1, x.2.2.1.2.2.1, x.2.2.1.2.2.2), (res.2.2.2, x.2.2.2.2.1, x.2.2.2.2.2.1, x.2.2.2.2.2.2))) sz := by
  refine mk_M (by decide +kernel) (Nat.le_of_ble_eq_true rfl) ?_
  intro p e s m below meth c A args Q ls hAe hsz hQ hx hb hr hml hin ha hown hlocks hA hz hzs hst hP hD hS hl
  have hown : s.vm.findClass RX11 = some m.cls := hown
  rw [hAe] at hQ
  subst hsz
  have hP : va_P E.1 vwCl (List.flatten [w_Model E a o x]) s.heap := hP
  have hD : va_D A (List.flatten [w_Model E a o x]) := hD
  have hl : lv_has ls 2 [(0, .ref (a o)), (1, .int p1)] := hl
  generalize hHe : s.heap = H at hP
  have hS : va_S A s.heap H [] := by rw [← hHe]; exact hS
  generalize ([] : List Loc) = locs at hS ⊢
  unfold f_X11_append at hF
  refine lv_aload_n hx hb dX11_append_0 rfl (lv_at hl 0 rfl) ?_
  refine va_get (D := E.1) (ci := 13) (v := .int x.2.1.2.2.1) (C := RX11) (T := TX11) (N := 18) hx hb ha in_X11 hown hst.k hP 0 rfl rfl 7 (by decide) (ha _ mw1643) (fun _ h9 => h9) rfl dX11_append_1 ?_
  refine lv_bipush (v := 60) hx hb dX11_append_4 (by decide) ?_
  refine lv_icmp_ne (tgt := 15) hx hb dX11_append_6 (by decide) (fun c6 => ?_) (fun c6 => ?_)
  · have hF := q_brn c6 hF
    refine lv_aload_n hx hb dX11_append_15 rfl (lv_at hl 0 rfl) ?_
    refine va_get (D := E.1) (ci := 13) (v := .ref (a (o + 5))) (C := RX11) (T := TX11) (N := 18) hx hb ha in_X11 hown hst.k hP 0 rfl rfl 6 (by decide) (ha _ mw1642) (fun _ h9 => h9) rfl dX11_append_16 ?_
    refine lv_aload_n hx hb dX11_append_19 rfl (lv_at hl 0 rfl) ?_
    refine va_get (D := E.1) (ci := 13) (v := .int x.2.1.2.2.1) (C := RX11) (T := TX11) (N := 18) hx hb ha in_X11 hown hst.k hP 0 rfl rfl 7 (by decide) (ha _ mw1643) (fun _ h9 => h9) rfl dX11_append_20 ?_
    refine lv_iload_n hx hb dX11_append_23 rfl (lv_at hl 1 rfl) ?_
    obtain ⟨g1, hF⟩ := q_gdi hF
    refine vj_cast hx hb hst.k hP hD hS 5 1 rfl rfl (f := x.2.1.2.1) (k := x.2.1.2.2.1.toNatClampNeg) rfl g1 dX11_append_24 (fun u2 eu2 H locs hP hD hS => ?_)
    have hF := q_lti eu2 hF
    have hP : va_P E.1 vwCl (List.flatten [w_Model E a o ((x.1.1, x.1.2.1, x.1.2.2.1, x.1.2.2.2.1, x.1.2.2.2.2), (x.2.1.1, u2, x.2.1.2.2.1, x.2.1.2.2.2.1, x.2.1.2.2.2.2), (x.2.2.1.1, x.2.2.1.2.1, x.2.2.1.2.2.1, x.2.2.1.2.2.2), (x.2.2.2.1, x.2.2.2.2.1, x.2.2.2.2.2.1, x.2.2.2.2.2.2))]) H := hP
    have hD : va_D A (List.flatten [w_Model E a o ((x.1.1, x.1.2.1, x.1.2.2.1, x.1.2.2.2.1, x.1.2.2.2.2), (x.2.1.1, u2, x.2.1.2.2.1, x.2.1.2.2.2.1, x.2.1.2.2.2.2), (x.2.2.1.1, x.2.2.1.2.1, x.2.2.1.2.2.1, x.2.2.1.2.2.2), (x.2.2.2.1, x.2.2.2.2.1, x.2.2.2.2.2.1, x.2.2.2.2.2.2))]) := hD
    refine lv_aload_n hx hb dX11_append_25 rfl (lv_at hl 0 rfl) ?_
    refine lv_dup hx hb dX11_append_26 rfl ?_
    refine va_get (D := E.1) (ci := 13) (v := .int x.2.1.2.2.1) (C := RX11) (T := TX11) (N := 18) hx hb ha in_X11 hown hst.k hP 0 rfl rfl 7 (by decide) (ha _ mw1643) (fun _ h9 => h9) rfl dX11_append_27 ?_
    refine lv_iconst (v := 1) hx hb dX11_append_30 (by decide) ?_
    refine lv_iadd hx hb dX11_append_31 ?_
    refine va_put (D := E.1) (ci := 13) (v := .int (x.2.1.2.2.1 + 1)) (ty := .int) (C := RX11) (T := TX11) (N := 18) hx hb ha in_X11 tyX11 tyX11_ok nmX11 hown hst.k hP hD hS 0 rfl rfl 7 (by decide) (ha _ mw1643) (fun _ h9 => h9) rfl (tyX11_ok 7 (by decide)) rfl rfl (Nat.le_of_ble_eq_true rfl) dX11_append_32 (fun H locs hP hD hS => ?_)
    have hP : va_P E.1 vwCl (List.flatten [w_Model E a o ((x.1.1, x.1.2.1, x.1.2.2.1, x.1.2.2.2.1, x.1.2.2.2.2), (x.2.1.1, u2, x.2.1.2.2.1 + 1, x.2.1.2.2.2.1, x.2.1.2.2.2.2), (x.2.2.1.1, x.2.2.1.2.1, x.2.2.1.2.2.1, x.2.2.1.2.2.2), (x.2.2.2.1, x.2.2.2.2.1, x.2.2.2.2.2.1, x.2.2.2.2.2.2))]) H := hP
    have hD : va_D A (List.flatten [w_Model E a o ((x.1.1, x.1.2.1, x.1.2.2.1, x.1.2.2.2.1, x.1.2.2.2.2), (x.2.1.1, u2, x.2.1.2.2.1 + 1, x.2.1.2.2.2.1, x.2.1.2.2.2.2), (x.2.2.1.1, x.2.2.1.2.1, x.2.2.1.2.2.1, x.2.2.1.2.2.2), (x.2.2.2.1, x.2.2.2.2.1, x.2.2.2.2.2.1, x.2.2.2.2.2.2))]) := hD
    refine lv_aload_n hx hb dX11_append_35 rfl (lv_at hl 0 rfl) ?_
    refine lv_aload_n hx hb dX11_append_36 rfl (lv_at hl 0 rfl) ?_
    refine va_get (D := E.1) (ci := 13) (v := .int (x.2.1.2.2.1 + 1)) (C := RX11) (T := TX11) (N := 18) hx hb ha in_X11 hown hst.k hP 0 rfl rfl 7 (by decide) (ha _ mw1643) (fun _ h9 => h9) rfl dX11_append_37 ?_
    obtain ⟨q3, hq3, hF⟩ := q_bdi hF
    refine cl_i (Lc := [w_Model E a o ((x.1.1, x.1.2.1, x.1.2.2.1, x.1.2.2.2.1, x.1.2.2.2.2), (x.2.1.1, u2, x.2.1.2.2.1 + 1, x.2.1.2.2.2.1, x.2.1.2.2.2.2), (x.2.2.1.1, x.2.2.1.2.1, x.2.2.1.2.2.1, x.2.2.1.2.2.2), (x.2.2.2.1, x.2.2.2.2.1, x.2.2.2.2.2.1, x.2.2.2.2.2.2))]) (Lc' := [w_Model E a o ((x.1.1, x.1.2.1, x.1.2.2.1, x.1.2.2.2.1, x.1.2.2.2.2), (x.2.1.1, u2, x.2.1.2.2.1 + 1, x.2.1.2.2.2.1, x.2.1.2.2.2.2), (x.2.2.1.1, x.2.2.1.2.1, x.2.2.1.2.2.1, x.2.2.1.2.2.2), (q3.2, x.2.2.2.2.1, x.2.2.2.2.2.1, x.2.2.2.2.2.2))]) (L' := [w_Model E a o ((x.1.1, x.1.2.1, x.1.2.2.1, x.1.2.2.2.1, x.1.2.2.2.2), (x.2.1.1, u2, x.2.1.2.2.1 + 1, x.2.1.2.2.2.1, x.2.1.2.2.2.2), (x.2.2.1.1, x.2.2.1.2.1, x.2.2.1.2.2.1, x.2.2.1.2.2.2), (q3.2, x.2.2.2.2.1, x.2.2.2.2.2.1, x.2.2.2.2.2.2))]) (rv := q3.1) (va_runV (As := [.int (x.2.1.2.2.1 + 1)]) (rest := []) ⟨hx, hb, hml, hown, ha⟩ (k_X11_done l E a o ((x.1.1, x.1.2.1, x.1.2.2.1, x.1.2.2.2.1, x.1.2.2.2.2), (x.2.1.1, u2, x.2.1.2.2.1 + 1, x.2.1.2.2.2.1, x.2.1.2.2.2.2), (x.2.2.1.1, x.2.2.1.2.1, x.2.2.1.2.2.1, x.2.2.1.2.2.2), (x.2.2.2.1, x.2.2.2.2.1, x.2.2.2.2.2.1, x.2.2.2.2.2.2)) (x.2.1.2.2.1 + 1) q3 hq3 H.size) (cwV 1 ha (gi_V (fun _ h => h) mw1720 mw1722 mw30 mw87 mw1723) rfl rfl rfl hv_X11_done ⟨(Nat.le_of_ble_eq_true rfl), (Nat.le_of_ble_eq_true rfl)⟩) ⟨pre_blind, va_recv hst.k (fr_P hP [0] rfl) (ci := 13) (q0 := 0) rfl rfl, pre_at hP hD hS hz hzs hst [0] (by decide) rfl rfl⟩ rfl rfl hl.1 rfl (lv_room (Nat.le_of_ble_eq_true rfl)) dX11_append_40 ⟨(Nat.le_of_ble_eq_true rfl), (Nat.le_of_ble_eq_true rfl)⟩) hP hD hS hA [0] (by decide) rfl rfl rfl rfl (fun H locs hP hD hS => ?_)
    obtain rfl := Option.some.inj hF
    exact en_i hQ (Nat.le_of_ble_eq_true rfl) (Nat.le_of_ble_eq_true rfl) hx hb hr hlocks hP hD hS rfl dX11_append_43
  · have hF := q_brp c6 hF
    refine lv_aload_n hx hb dX11_append_9 rfl (lv_at hl 0 rfl) ?_
    refine lv_iconst (v := 1) hx hb dX11_append_10 (by decide) ?_
    obtain ⟨q4, hq4, hF⟩ := q_bdi hF
    refine cl_i (Lc := [w_Model E a o x]) (Lc' := [w_Model E a o ((x.1.1, x.1.2.1, x.1.2.2.1, x.1.2.2.2.1, x.1.2.2.2.2), (x.2.1.1, x.2.1.2.1, x.2.1.2.2.1, x.2.1.2.2.2.1, x.2.1.2.2.2.2), (x.2.2.1.1, x.2.2.1.2.1, x.2.2.1.2.2.1, x.2.2.1.2.2.2), (q4.2, x.2.2.2.2.1, x.2.2.2.2.2.1, x.2.2.2.2.2.2))]) (L' := [w_Model E a o ((x.1.1, x.1.2.1, x.1.2.2.1, x.1.2.2.2.1, x.1.2.2.2.2), (x.2.1.1, x.2.1.2.1, x.2.1.2.2.1, x.2.1.2.2.2.1, x.2.1.2.2.2.2), (x.2.2.1.1, x.2.2.1.2.1, x.2.2.1.2.2.1, x.2.2.1.2.2.2), (q4.2, x.2.2.2.2.1, x.2.2.2.2.2.1, x.2.2.2.2.2.2))]) (rv := q4.1) (va_runV (As := [.int 1]) (rest := []) ⟨hx, hb, hml, hown, ha⟩ (k_X11_fails l E a o x 1 q4 hq4 H.size) (cwV 1 ha (gi_V (fun _ h => h) mw1716 mw1718 mw29 mw87 mw1719) rfl rfl rfl hv_X11_fails ⟨(Nat.le_of_ble_eq_true rfl), (Nat.le_of_ble_eq_true rfl)⟩) ⟨pre_blind, va_recv hst.k (fr_P hP [0] rfl) (ci := 13) (q0 := 0) rfl rfl, pre_at hP hD hS hz hzs hst [0] (by decide) rfl rfl⟩ rfl rfl hl.1 rfl (lv_room (Nat.le_of_ble_eq_true rfl)) dX11_append_11 ⟨(Nat.le_of_ble_eq_true rfl), (Nat.le_of_ble_eq_true rfl)⟩) hP hD hS hA [0] (by decide) rfl rfl rfl rfl (fun H locs hP hD hS => ?_)
    obtain rfl := Option.some.inj hF
    exact en_i hQ (Nat.le_of_ble_eq_true rfl) (Nat.le_of_ble_eq_true rfl) hx hb hr hlocks hP hD hS rfl dX11_append_14

/-! X11_here -/
theorem dX11_here_0 : decode cX11_here 0 = .ok (.aload_n 0, 1) := by decide +kernel
theorem dX11_here_1 : decode cX11_here 1 = .ok (.getfield 187, 3) := by decide +kernel
theorem dX11_here_4 : decode cX11_here 4 = .ok (.aload_n 0, 1) := by decide +kernel
theorem dX11_here_5 : decode cX11_here 5 = .ok (.getfield 184, 3) := by decide +kernel
theorem dX11_here_8 : decode cX11_here 8 = .ok (.if_icmp .ge 15, 3) := by decide +kernel
theorem dX11_here_11 : decode cX11_here 11 = .ok (.aload_n 0, 1) := by decide +kernel
theorem dX11_here_12 : decode cX11_here 12 = .ok (.getfield 22, 3) := by decide +kernel
theorem dX11_here_15 : decode cX11_here 15 = .ok (.aload_n 0, 1) := by decide +kernel
theorem dX11_here_16 : decode cX11_here 16 = .ok (.getfield 187, 3) := by decide +kernel
theorem dX11_here_19 : decode cX11_here 19 = .ok (.caload, 1) := by decide +kernel
theorem dX11_here_20 : decode cX11_here 20 = .ok (.goto 4, 3) := by decide +kernel
theorem dX11_here_23 : decode cX11_here 23 = .ok (.iconst (-1), 1) := by decide +kernel
theorem dX11_here_24 : decode cX11_here 24 = .ok (.ireturn, 1) := by decide +kernel
def f_X11_here (x_buffer : (Nat → Int32)) (x_typed : Int32) (x_spot : Int32) : Option (Int32) :=
  q_br (x_typed ≤ x_spot) (
  some (-1)) (
  q_gd (q_in x_spot 60) (
  some (x_buffer (x_spot.toNatClampNeg))))
theorem hv_X11_here : yX11_here.cls = RX11 ∧ yX11_here.cls ≠ "java/lang/invoke/MethodHandle" ∧ yX11_here.cls ≠ "java/lang/invoke/VarHandle" ∧ (parseMethodDescriptor yX11_here.desc).map (fun d => d.parameters.length) = some 0 := by decide +kernel
abbrev rm_X11_here : Room := { frames := 0, cells := 0, slots := 0, locals := 0 }
set_option maxHeartbeats 4000000 in
set_option maxRecDepth 100000 in
theorem k_X11_here (l : Launch) (E : ET) (a : Nat → Nat) (o : Nat) (x : Model_t) (res : Int32) (hF : f_X11_here x.2.1.2.1 x.2.1.2.2.1 x.2.2.2.2.1 = some res) (sz : Nat) : CtI l yX11_here (mws yX11_here cX11_here 1 (some .int)) rm_X11_here 0 0 [.ref (a o)] E (bl_Model E a o x) res (bl_Model E a o x) sz := by
  refine mk_M (by decide +kernel) (Nat.le_of_ble_eq_true rfl) ?_
  intro p e s m below meth c A args Q ls hAe hsz hQ hx hb hr hml hin ha hown hlocks hA hz hzs hst hP hD hS hl
  have hown : s.vm.findClass RX11 = some m.cls := hown
  rw [hAe] at hQ
  subst hsz
  have hP : va_P E.1 vwCl (List.flatten [w_Model E a o x]) s.heap := hP
  have hD : va_D A (List.flatten [w_Model E a o x]) := hD
  have hl : lv_has ls 1 [(0, .ref (a o))] := hl
  generalize hHe : s.heap = H at hP
  have hS : va_S A s.heap H [] := by rw [← hHe]; exact hS
  generalize ([] : List Loc) = locs at hS ⊢
  unfold f_X11_here at hF
  refine lv_aload_n hx hb dX11_here_0 rfl (lv_at hl 0 rfl) ?_
  refine va_get (D := E.1) (ci := 13) (v := .int x.2.2.2.2.1) (C := RX11) (T := TX11) (N := 18) hx hb ha in_X11 hown hst.k hP 0 rfl rfl 15 (by decide) (ha _ mw1651) (fun _ h9 => h9) rfl dX11_here_1 ?_
  refine lv_aload_n hx hb dX11_here_4 rfl (lv_at hl 0 rfl) ?_
  refine va_get (D := E.1) (ci := 13) (v := .int x.2.1.2.2.1) (C := RX11) (T := TX11) (N := 18) hx hb ha in_X11 hown hst.k hP 0 rfl rfl 7 (by decide) (ha _ mw1643) (fun _ h9 => h9) rfl dX11_here_5 ?_
  refine lv_icmp_ge (tgt := 23) hx hb dX11_here_8 (by decide) (fun c8 => ?_) (fun c8 => ?_)
  · have hF := q_brp c8 hF
    refine lv_iconst (v := (-1)) hx hb dX11_here_23 (by decide) ?_
    obtain rfl := Option.some.inj hF
    exact en_i hQ (Nat.le_of_ble_eq_true rfl) (Nat.le_of_ble_eq_true rfl) hx hb hr hlocks hP hD hS rfl dX11_here_24
  · have hF := q_brn c8 hF
    refine lv_aload_n hx hb dX11_here_11 rfl (lv_at hl 0 rfl) ?_
    refine va_get (D := E.1) (ci := 13) (v := .ref (a (o + 5))) (C := RX11) (T := TX11) (N := 18) hx hb ha in_X11 hown hst.k hP 0 rfl rfl 6 (by decide) (ha _ mw1642) (fun _ h9 => h9) rfl dX11_here_12 ?_
    refine lv_aload_n hx hb dX11_here_15 rfl (lv_at hl 0 rfl) ?_
    refine va_get (D := E.1) (ci := 13) (v := .int x.2.2.2.2.1) (C := RX11) (T := TX11) (N := 18) hx hb ha in_X11 hown hst.k hP 0 rfl rfl 15 (by decide) (ha _ mw1651) (fun _ h9 => h9) rfl dX11_here_16 ?_
    obtain ⟨g1, hF⟩ := q_gdi hF
    refine vi_cald hx hb hst.k hP 5 1 rfl rfl (f := x.2.1.2.1) (k := x.2.2.2.2.1.toNatClampNeg) rfl g1 dX11_here_19 ?_
    refine lv_goto (tgt := 24) hx hb dX11_here_20 (by decide) ?_
    obtain rfl := Option.some.inj hF
    exact en_i hQ (Nat.le_of_ble_eq_true rfl) (Nat.le_of_ble_eq_true rfl) hx hb hr hlocks hP hD hS rfl dX11_here_24

/-! X11_needs -/
theorem dX11_needs_0 : decode cX11_needs 0 = .ok (.aload_n 0, 1) := by decide +kernel
theorem dX11_needs_1 : decode cX11_needs 1 = .ok (.aload_n 0, 1) := by decide +kernel
theorem dX11_needs_2 : decode cX11_needs 2 = .ok (.getfield 190, 3) := by decide +kernel
theorem dX11_needs_5 : decode cX11_needs 5 = .ok (.ifCond .ne 11, 3) := by decide +kernel
theorem dX11_needs_8 : decode cX11_needs 8 = .ok (.aload_n 0, 1) := by decide +kernel
theorem dX11_needs_9 : decode cX11_needs 9 = .ok (.invokevirtual 194, 3) := by decide +kernel
theorem dX11_needs_12 : decode cX11_needs 12 = .ok (.iload_n 1, 1) := by decide +kernel
theorem dX11_needs_13 : decode cX11_needs 13 = .ok (.if_icmp .eq 7, 3) := by decide +kernel
theorem dX11_needs_16 : decode cX11_needs 16 = .ok (.iconst 1, 1) := by decide +kernel
theorem dX11_needs_17 : decode cX11_needs 17 = .ok (.goto 4, 3) := by decide +kernel
theorem dX11_needs_20 : decode cX11_needs 20 = .ok (.iconst 0, 1) := by decide +kernel
theorem dX11_needs_21 : decode cX11_needs 21 = .ok (.putfield 190, 3) := by decide +kernel
theorem dX11_needs_24 : decode cX11_needs 24 = .ok (.aload_n 0, 1) := by decide +kernel
theorem dX11_needs_25 : decode cX11_needs 25 = .ok (.dup, 1) := by decide +kernel
theorem dX11_needs_26 : decode cX11_needs 26 = .ok (.getfield 187, 3) := by decide +kernel
theorem dX11_needs_29 : decode cX11_needs 29 = .ok (.aload_n 0, 1) := by decide +kernel
theorem dX11_needs_30 : decode cX11_needs 30 = .ok (.getfield 190, 3) := by decide +kernel
theorem dX11_needs_33 : decode cX11_needs 33 = .ok (.ifCond .eq 7, 3) := by decide +kernel
theorem dX11_needs_36 : decode cX11_needs 36 = .ok (.iconst 0, 1) := by decide +kernel
theorem dX11_needs_37 : decode cX11_needs 37 = .ok (.goto 4, 3) := by decide +kernel
theorem dX11_needs_40 : decode cX11_needs 40 = .ok (.iconst 1, 1) := by decide +kernel
theorem dX11_needs_41 : decode cX11_needs 41 = .ok (.iadd, 1) := by decide +kernel
theorem dX11_needs_42 : decode cX11_needs 42 = .ok (.putfield 187, 3) := by decide +kernel
theorem dX11_needs_45 : decode cX11_needs 45 = .ok (.return_, 1) := by decide +kernel
def f_X11_needs (x_buffer : (Nat → Int32)) (x_typed : Int32) (x_spot : Int32) (x_isWrong : Int32) (p1 : Int32) : Option (Int32 × Int32) :=
  q_lt (fun (j1 : Int32) =>
  q_gd (j1 = 0 ∨ j1 = 1) (
  q_lt (fun (j3 : Int32) =>
  some (x_spot + j3, j1)) (fun (J41 : Int32 → Option (Int32 × Int32)) =>
  q_br (j1 = 0) (
  J41 1) (
  J41 0)))) (fun (J21 : Int32 → Option (Int32 × Int32)) =>
  q_br (x_isWrong = 0) (
  q_bd (f_X11_here x_buffer x_typed x_spot) (fun q4 =>
  q_br (q4 = p1) (
  J21 0) (
  J21 1))) (
  J21 1))
theorem hv_X11_needs : yX11_needs.cls = RX11 ∧ yX11_needs.cls ≠ "java/lang/invoke/MethodHandle" ∧ yX11_needs.cls ≠ "java/lang/invoke/VarHandle" ∧ (parseMethodDescriptor yX11_needs.desc).map (fun d => d.parameters.length) = some 1 := by decide +kernel
abbrev rm_X11_needs : Room := { frames := 1, cells := 0, slots := 0, locals := 20 }
set_option maxHeartbeats 4000000 in
set_option maxRecDepth 100000 in
theorem k_X11_needs (l : Launch) (E : ET) (a : Nat → Nat) (o : Nat) (x : Model_t) (p1 : Int32) (res : Int32 × Int32) (hF : f_X11_needs x.2.1.2.1 x.2.1.2.2.1 x.2.2.2.2.1 x.2.2.2.2.2.1 p1 = some res) (sz : Nat) : CtV l yX11_needs (mws yX11_needs cX11_needs 2 none) rm_X11_needs 0 0 [.ref (a o), .int p1] E (bl_Model E a o x) (bl_Model E a o ((x.1.1, x.1.2.1, x.1.2.2.1, x.1.2.2.2.1, x.1.2.2.2.2), (x.2.1.1, x.2.1.2.1, x.2.1.2.2.1, x.2.1.2.2.2.1, x.2.1.2.2.2.2), (x.2.2.1.1, x.2.2.1.2.1, x.2.2.1.2.2.1, x.2.2.1.2.2.2), (x.2.2.2.1, res.1, res.2, x.2.2.2.2.2.2))) sz := by
  refine mk_M (by decide +kernel) (Nat.le_of_ble_eq_true rfl) ?_
  intro p e s m below meth c A args Q ls hAe hsz hQ hx hb hr hml hin ha hown hlocks hA hz hzs hst hP hD hS hl
  have hown : s.vm.findClass RX11 = some m.cls := hown
  rw [hAe] at hQ
  subst hsz
  have hP : va_P E.1 vwCl (List.flatten [w_Model E a o x]) s.heap := hP
  have hD : va_D A (List.flatten [w_Model E a o x]) := hD
  have hl : lv_has ls 2 [(0, .ref (a o)), (1, .int p1)] := hl
  generalize hHe : s.heap = H at hP
  have hS : va_S A s.heap H [] := by rw [← hHe]; exact hS
  generalize ([] : List Loc) = locs at hS ⊢
  unfold f_X11_needs at hF
  refine lv_aload_n hx hb dX11_needs_0 rfl (lv_at hl 0 rfl) ?_
  refine lv_aload_n hx hb dX11_needs_1 rfl (lv_at hl 0 rfl) ?_
  refine va_get (D := E.1) (ci := 13) (v := .int x.2.2.2.2.2.1) (C := RX11) (T := TX11) (N := 18) hx hb ha in_X11 hown hst.k hP 0 rfl rfl 16 (by decide) (ha _ mw1652) (fun _ h9 => h9) rfl dX11_needs_2 ?_
  obtain ⟨J21, hJ21, hF⟩ := q_jn hF
  have jJ21 : ∀ (j1 : Int32), ∀ (H : Heap) (locs : List Loc) (ls : Array Slot), J21 j1 = some res → va_P E.1 vwCl (List.flatten [w_Model E a o x]) H → va_D A (List.flatten [w_Model E a o x]) → va_S A s.heap H locs → lv_has ls 2 [(0, .ref (a o))] → W p l e rm_X11_needs s m args below meth c H locs 0 0 Q (F0 m 21 ls [.int j1, .ref (a o)]) := by
    intro j1 H locs ls hF hP hD hS hl
    rw [hJ21] at hF
    obtain ⟨g2, hF⟩ := q_gdi hF
    refine va_put (D := E.1) (ci := 13) (v := .int j1) (ty := .boolean) (C := RX11) (T := TX11) (N := 18) hx hb ha in_X11 tyX11 tyX11_ok nmX11 hown hst.k hP hD hS 0 rfl rfl 16 (by decide) (ha _ mw1652) (fun _ h9 => h9) rfl (tyX11_ok 16 (by decide)) (nz_b g2) (fz_b g2) (Nat.le_of_ble_eq_true rfl) dX11_needs_21 (fun H locs hP hD hS => ?_)
    have hP : va_P E.1 vwCl (List.flatten [w_Model E a o ((x.1.1, x.1.2.1, x.1.2.2.1, x.1.2.2.2.1, x.1.2.2.2.2), (x.2.1.1, x.2.1.2.1, x.2.1.2.2.1, x.2.1.2.2.2.1, x.2.1.2.2.2.2), (x.2.2.1.1, x.2.2.1.2.1, x.2.2.1.2.2.1, x.2.2.1.2.2.2), (x.2.2.2.1, x.2.2.2.2.1, j1, x.2.2.2.2.2.2))]) H := hP
    have hD : va_D A (List.flatten [w_Model E a o ((x.1.1, x.1.2.1, x.1.2.2.1, x.1.2.2.2.1, x.1.2.2.2.2), (x.2.1.1, x.2.1.2.1, x.2.1.2.2.1, x.2.1.2.2.2.1, x.2.1.2.2.2.2), (x.2.2.1.1, x.2.2.1.2.1, x.2.2.1.2.2.1, x.2.2.1.2.2.2), (x.2.2.2.1, x.2.2.2.2.1, j1, x.2.2.2.2.2.2))]) := hD
    refine lv_aload_n hx hb dX11_needs_24 rfl (lv_at hl 0 rfl) ?_
    refine lv_dup hx hb dX11_needs_25 rfl ?_
    refine va_get (D := E.1) (ci := 13) (v := .int x.2.2.2.2.1) (C := RX11) (T := TX11) (N := 18) hx hb ha in_X11 hown hst.k hP 0 rfl rfl 15 (by decide) (ha _ mw1651) (fun _ h9 => h9) rfl dX11_needs_26 ?_
    refine lv_aload_n hx hb dX11_needs_29 rfl (lv_at hl 0 rfl) ?_
    refine va_get (D := E.1) (ci := 13) (v := .int j1) (C := RX11) (T := TX11) (N := 18) hx hb ha in_X11 hown hst.k hP 0 rfl rfl 16 (by decide) (ha _ mw1652) (fun _ h9 => h9) rfl dX11_needs_30 ?_
    obtain ⟨J41, hJ41, hF⟩ := q_jn hF
    have jJ41 : ∀ (j3 : Int32), ∀ (H : Heap) (locs : List Loc) (ls : Array Slot), J41 j3 = some res → va_P E.1 vwCl (List.flatten [w_Model E a o ((x.1.1, x.1.2.1, x.1.2.2.1, x.1.2.2.2.1, x.1.2.2.2.2), (x.2.1.1, x.2.1.2.1, x.2.1.2.2.1, x.2.1.2.2.2.1, x.2.1.2.2.2.2), (x.2.2.1.1, x.2.2.1.2.1, x.2.2.1.2.2.1, x.2.2.1.2.2.2), (x.2.2.2.1, x.2.2.2.2.1, j1, x.2.2.2.2.2.2))]) H → va_D A (List.flatten [w_Model E a o ((x.1.1, x.1.2.1, x.1.2.2.1, x.1.2.2.2.1, x.1.2.2.2.2), (x.2.1.1, x.2.1.2.1, x.2.1.2.2.1, x.2.1.2.2.2.1, x.2.1.2.2.2.2), (x.2.2.1.1, x.2.2.1.2.1, x.2.2.1.2.2.1, x.2.2.1.2.2.2), (x.2.2.2.1, x.2.2.2.2.1, j1, x.2.2.2.2.2.2))]) → va_S A s.heap H locs → lv_has ls 2 [] → W p l e rm_X11_needs s m args below meth c H locs 0 0 Q (F0 m 41 ls [.int j3, .int x.2.2.2.2.1, .ref (a o)]) := by
      intro j3 H locs ls hF hP hD hS hl
      rw [hJ41] at hF
      refine lv_iadd hx hb dX11_needs_41 ?_
      refine va_put (D := E.1) (ci := 13) (v := .int (x.2.2.2.2.1 + j3)) (ty := .int) (C := RX11) (T := TX11) (N := 18) hx hb ha in_X11 tyX11 tyX11_ok nmX11 hown hst.k hP hD hS 0 rfl rfl 15 (by decide) (ha _ mw1651) (fun _ h9 => h9) rfl (tyX11_ok 15 (by decide)) rfl rfl (Nat.le_of_ble_eq_true rfl) dX11_needs_42 (fun H locs hP hD hS => ?_)
      have hP : va_P E.1 vwCl (List.flatten [w_Model E a o ((x.1.1, x.1.2.1, x.1.2.2.1, x.1.2.2.2.1, x.1.2.2.2.2), (x.2.1.1, x.2.1.2.1, x.2.1.2.2.1, x.2.1.2.2.2.1, x.2.1.2.2.2.2), (x.2.2.1.1, x.2.2.1.2.1, x.2.2.1.2.2.1, x.2.2.1.2.2.2), (x.2.2.2.1, x.2.2.2.2.1 + j3, j1, x.2.2.2.2.2.2))]) H := hP
      have hD : va_D A (List.flatten [w_Model E a o ((x.1.1, x.1.2.1, x.1.2.2.1, x.1.2.2.2.1, x.1.2.2.2.2), (x.2.1.1, x.2.1.2.1, x.2.1.2.2.1, x.2.1.2.2.2.1, x.2.1.2.2.2.2), (x.2.2.1.1, x.2.2.1.2.1, x.2.2.1.2.2.1, x.2.2.1.2.2.2), (x.2.2.2.1, x.2.2.2.2.1 + j3, j1, x.2.2.2.2.2.2))]) := hD
      obtain rfl := Option.some.inj hF
      exact en_v hQ (Nat.le_of_ble_eq_true rfl) (Nat.le_of_ble_eq_true rfl) hx hb hr hlocks hP hD hS dX11_needs_45
    refine lv_if_eq (tgt := 40) hx hb dX11_needs_33 (by decide) (fun c33 => ?_) (fun c33 => ?_)
    · have hF := q_brp c33 hF
      refine lv_iconst (v := 1) hx hb dX11_needs_40 (by decide) ?_
      exact jJ41 1 H locs ls hF hP hD hS (lv_sub hl [] rfl)
    · have hF := q_brn c33 hF
      refine lv_iconst (v := 0) hx hb dX11_needs_36 (by decide) ?_
      refine lv_goto (tgt := 41) hx hb dX11_needs_37 (by decide) ?_
      exact jJ41 0 H locs ls hF hP hD hS (lv_sub hl [] rfl)
  refine lv_if_ne (tgt := 16) hx hb dX11_needs_5 (by decide) (fun c5 => ?_) (fun c5 => ?_)
  · have hF := q_brn c5 hF
    refine lv_iconst (v := 1) hx hb dX11_needs_16 (by decide) ?_
    refine lv_goto (tgt := 21) hx hb dX11_needs_17 (by decide) ?_
    exact jJ21 1 H locs ls hF hP hD hS (lv_sub hl [0] rfl)
  · have hF := q_brp c5 hF
    refine lv_aload_n hx hb dX11_needs_8 rfl (lv_at hl 0 rfl) ?_
    obtain ⟨q4, hq4, hF⟩ := q_bdi hF
    refine cl_i (Lc := [w_Model E a o x]) (Lc' := [w_Model E a o x]) (L' := [w_Model E a o x]) (rv := q4) (va_runV (As := []) (rest := [.ref (a o)]) ⟨hx, hb, hml, hown, ha⟩ (k_X11_here l E a o x q4 hq4 H.size) (cwV 0 ha (gi_V (fun _ h => h) mw2038 mw2040 mw60 mw87 mw2041) rfl rfl rfl hv_X11_here ⟨(Nat.le_of_ble_eq_true rfl), (Nat.le_of_ble_eq_true rfl)⟩) ⟨pre_blind, va_recv hst.k (fr_P hP [0] rfl) (ci := 13) (q0 := 0) rfl rfl, pre_at hP hD hS hz hzs hst [0] (by decide) rfl rfl⟩ rfl rfl hl.1 rfl (lv_room (Nat.le_of_ble_eq_true rfl)) dX11_needs_9 ⟨(Nat.le_of_ble_eq_true rfl), (Nat.le_of_ble_eq_true rfl)⟩) hP hD hS hA [0] (by decide) rfl rfl rfl rfl (fun H locs hP hD hS => ?_)
    refine lv_iload_n hx hb dX11_needs_12 rfl (lv_at hl 1 rfl) ?_
    refine lv_icmp_eq (tgt := 20) hx hb dX11_needs_13 (by decide) (fun c13 => ?_) (fun c13 => ?_)
    · have hF := q_brp c13 hF
      refine lv_iconst (v := 0) hx hb dX11_needs_20 (by decide) ?_
      exact jJ21 0 H locs ls hF hP hD hS (lv_sub hl [0] rfl)
    · have hF := q_brn c13 hF
      refine lv_iconst (v := 1) hx hb dX11_needs_16 (by decide) ?_
      refine lv_goto (tgt := 21) hx hb dX11_needs_17 (by decide) ?_
      exact jJ21 1 H locs ls hF hP hD hS (lv_sub hl [0] rfl)

/-! X11_needsThree -/
theorem dX11_needsThree_0 : decode cX11_needsThree 0 = .ok (.aload_n 0, 1) := by decide +kernel
theorem dX11_needsThree_1 : decode cX11_needsThree 1 = .ok (.iload_n 1, 1) := by decide +kernel
theorem dX11_needsThree_2 : decode cX11_needsThree 2 = .ok (.invokevirtual 198, 3) := by decide +kernel
theorem dX11_needsThree_5 : decode cX11_needsThree 5 = .ok (.aload_n 0, 1) := by decide +kernel
theorem dX11_needsThree_6 : decode cX11_needsThree 6 = .ok (.iload_n 2, 1) := by decide +kernel
theorem dX11_needsThree_7 : decode cX11_needsThree 7 = .ok (.invokevirtual 198, 3) := by decide +kernel
theorem dX11_needsThree_10 : decode cX11_needsThree 10 = .ok (.aload_n 0, 1) := by decide +kernel
theorem dX11_needsThree_11 : decode cX11_needsThree 11 = .ok (.iload_n 3, 1) := by decide +kernel
theorem dX11_needsThree_12 : decode cX11_needsThree 12 = .ok (.invokevirtual 198, 3) := by decide +kernel
theorem dX11_needsThree_15 : decode cX11_needsThree 15 = .ok (.return_, 1) := by decide +kernel
def f_X11_needsThree (x_buffer : (Nat → Int32)) (x_typed : Int32) (x_spot : Int32) (x_isWrong : Int32) (p1 : Int32) (p2 : Int32) (p3 : Int32) : Option (Int32 × Int32) :=
  q_bd (f_X11_needs x_buffer x_typed x_spot x_isWrong p1) (fun q1 =>
  q_bd (f_X11_needs x_buffer x_typed q1.1 q1.2 p2) (fun q2 =>
  q_bd (f_X11_needs x_buffer x_typed q2.1 q2.2 p3) (fun q3 =>
  some (q3.1, q3.2))))
theorem hv_X11_needsThree : yX11_needsThree.cls = RX11 ∧ yX11_needsThree.cls ≠ "java/lang/invoke/MethodHandle" ∧ yX11_needsThree.cls ≠ "java/lang/invoke/VarHandle" ∧ (parseMethodDescriptor yX11_needsThree.desc).map (fun d => d.parameters.length) = some 3 := by decide +kernel
abbrev rm_X11_needsThree : Room := { frames := 2, cells := 0, slots := 0, locals := 41 }
set_option maxHeartbeats 4000000 in
set_option maxRecDepth 100000 in
theorem k_X11_needsThree (l : Launch) (E : ET) (a : Nat → Nat) (o : Nat) (x : Model_t) (p1 : Int32) (p2 : Int32) (p3 : Int32) (res : Int32 × Int32) (hF : f_X11_needsThree x.2.1.2.1 x.2.1.2.2.1 x.2.2.2.2.1 x.2.2.2.2.2.1 p1 p2 p3 = some res) (sz : Nat) : CtV l yX11_needsThree (mws yX11_needsThree cX11_needsThree 4 none) rm_X11_needsThree 0 0 [.ref (a o), .int p1, .int p2, .int p3] E (bl_Model E a o x) (bl_Model E a o ((x.1.1, x.1.2.1, x.1.2.2.1, x.1.2.2.2.1, x.1.2.2.2.2), (x.2.1.1, x.2.1.2.1, x.2.1.2.2.1, x.2.1.2.2.2.1, x.2.1.2.2.2.2), (x.2.2.1.1, x.2.2.1.2.1, x.2.2.1.2.2.1, x.2.2.1.2.2.2), (x.2.2.2.1, res.1, res.2, x.2.2.2.2.2.2))) sz := by
  refine mk_M (by decide +kernel) (Nat.le_of_ble_eq_true rfl) ?_
  intro p e s m below meth c A args Q ls hAe hsz hQ hx hb hr hml hin ha hown hlocks hA hz hzs hst hP hD hS hl
  have hown : s.vm.findClass RX11 = some m.cls := hown
  rw [hAe] at hQ
  subst hsz
  have hP : va_P E.1 vwCl (List.flatten [w_Model E a o x]) s.heap := hP
  have hD : va_D A (List.flatten [w_Model E a o x]) := hD
  have hl : lv_has ls 4 [(0, .ref (a o)), (1, .int p1), (2, .int p2), (3, .int p3)] := hl
  generalize hHe : s.heap = H at hP
  have hS : va_S A s.heap H [] := by rw [← hHe]; exact hS
  generalize ([] : List Loc) = locs at hS ⊢
  unfold f_X11_needsThree at hF
  refine lv_aload_n hx hb dX11_needsThree_0 rfl (lv_at hl 0 rfl) ?_
  refine lv_iload_n hx hb dX11_needsThree_1 rfl (lv_at hl 1 rfl) ?_
  obtain ⟨q1, hq1, hF⟩ := q_bdi hF
  refine cl_v (Lc := [w_Model E a o x]) (Lc' := [w_Model E a o ((x.1.1, x.1.2.1, x.1.2.2.1, x.1.2.2.2.1, x.1.2.2.2.2), (x.2.1.1, x.2.1.2.1, x.2.1.2.2.1, x.2.1.2.2.2.1, x.2.1.2.2.2.2), (x.2.2.1.1, x.2.2.1.2.1, x.2.2.1.2.2.1, x.2.2.1.2.2.2), (x.2.2.2.1, q1.1, q1.2, x.2.2.2.2.2.2))]) (L' := [w_Model E a o ((x.1.1, x.1.2.1, x.1.2.2.1, x.1.2.2.2.1, x.1.2.2.2.2), (x.2.1.1, x.2.1.2.1, x.2.1.2.2.1, x.2.1.2.2.2.1, x.2.1.2.2.2.2), (x.2.2.1.1, x.2.2.1.2.1, x.2.2.1.2.2.1, x.2.2.1.2.2.2), (x.2.2.2.1, q1.1, q1.2, x.2.2.2.2.2.2))]) (va_runV (As := [.int p1]) (rest := []) ⟨hx, hb, hml, hown, ha⟩ (k_X11_needs l E a o x p1 q1 hq1 H.size) (cwV 1 ha (gi_V (fun _ h => h) mw2046 mw2048 mw62 mw87 mw2049) rfl rfl rfl hv_X11_needs ⟨(Nat.le_of_ble_eq_true rfl), (Nat.le_of_ble_eq_true rfl)⟩) ⟨pre_blind, va_recv hst.k (fr_P hP [0] rfl) (ci := 13) (q0 := 0) rfl rfl, pre_at hP hD hS hz hzs hst [0] (by decide) rfl rfl⟩ rfl rfl hl.1 rfl (lv_room (Nat.le_of_ble_eq_true rfl)) dX11_needsThree_2 ⟨(Nat.le_of_ble_eq_true rfl), (Nat.le_of_ble_eq_true rfl)⟩) hP hD hS hA [0] (by decide) rfl rfl rfl rfl (fun H locs hP hD hS => ?_)
  refine lv_aload_n hx hb dX11_needsThree_5 rfl (lv_at hl 0 rfl) ?_
  refine lv_iload_n hx hb dX11_needsThree_6 rfl (lv_at hl 2 rfl) ?_
  obtain ⟨q2, hq2, hF⟩ := q_bdi hF
  refine cl_v (Lc := [w_Model E a o ((x.1.1, x.1.2.1, x.1.2.2.1, x.1.2.2.2.1, x.1.2.2.2.2), (x.2.1.1, x.2.1.2.1, x.2.1.2.2.1, x.2.1.2.2.2.1, x.2.1.2.2.2.2), (x.2.2.1.1, x.2.2.1.2.1, x.2.2.1.2.2.1, x.2.2.1.2.2.2), (x.2.2.2.1, q1.1, q1.2, x.2.2.2.2.2.2))]) (Lc' := [w_Model E a o ((x.1.1, x.1.2.1, x.1.2.2.1, x.1.2.2.2.1, x.1.2.2.2.2), (x.2.1.1, x.2.1.2.1, x.2.1.2.2.1, x.2.1.2.2.2.1, x.2.1.2.2.2.2), (x.2.2.1.1, x.2.2.1.2.1, x.2.2.1.2.2.1, x.2.2.1.2.2.2), (x.2.2.2.1, q2.1, q2.2, x.2.2.2.2.2.2))]) (L' := [w_Model E a o ((x.1.1, x.1.2.1, x.1.2.2.1, x.1.2.2.2.1, x.1.2.2.2.2), (x.2.1.1, x.2.1.2.1, x.2.1.2.2.1, x.2.1.2.2.2.1, x.2.1.2.2.2.2), (x.2.2.1.1, x.2.2.1.2.1, x.2.2.1.2.2.1, x.2.2.1.2.2.2), (x.2.2.2.1, q2.1, q2.2, x.2.2.2.2.2.2))]) (va_runV (As := [.int p2]) (rest := []) ⟨hx, hb, hml, hown, ha⟩ (k_X11_needs l E a o ((x.1.1, x.1.2.1, x.1.2.2.1, x.1.2.2.2.1, x.1.2.2.2.2), (x.2.1.1, x.2.1.2.1, x.2.1.2.2.1, x.2.1.2.2.2.1, x.2.1.2.2.2.2), (x.2.2.1.1, x.2.2.1.2.1, x.2.2.1.2.2.1, x.2.2.1.2.2.2), (x.2.2.2.1, q1.1, q1.2, x.2.2.2.2.2.2)) p2 q2 hq2 H.size) (cwV 1 ha (gi_V (fun _ h => h) mw2046 mw2048 mw62 mw87 mw2049) rfl rfl rfl hv_X11_needs ⟨(Nat.le_of_ble_eq_true rfl), (Nat.le_of_ble_eq_true rfl)⟩) ⟨pre_blind, va_recv hst.k (fr_P hP [0] rfl) (ci := 13) (q0 := 0) rfl rfl, pre_at hP hD hS hz hzs hst [0] (by decide) rfl rfl⟩ rfl rfl hl.1 rfl (lv_room (Nat.le_of_ble_eq_true rfl)) dX11_needsThree_7 ⟨(Nat.le_of_ble_eq_true rfl), (Nat.le_of_ble_eq_true rfl)⟩) hP hD hS hA [0] (by decide) rfl rfl rfl rfl (fun H locs hP hD hS => ?_)
  refine lv_aload_n hx hb dX11_needsThree_10 rfl (lv_at hl 0 rfl) ?_
  refine lv_iload_n hx hb dX11_needsThree_11 rfl (lv_at hl 3 rfl) ?_
  obtain ⟨q3, hq3, hF⟩ := q_bdi hF
  refine cl_v (Lc := [w_Model E a o ((x.1.1, x.1.2.1, x.1.2.2.1, x.1.2.2.2.1, x.1.2.2.2.2), (x.2.1.1, x.2.1.2.1, x.2.1.2.2.1, x.2.1.2.2.2.1, x.2.1.2.2.2.2), (x.2.2.1.1, x.2.2.1.2.1, x.2.2.1.2.2.1, x.2.2.1.2.2.2), (x.2.2.2.1, q2.1, q2.2, x.2.2.2.2.2.2))]) (Lc' := [w_Model E a o ((x.1.1, x.1.2.1, x.1.2.2.1, x.1.2.2.2.1, x.1.2.2.2.2), (x.2.1.1, x.2.1.2.1, x.2.1.2.2.1, x.2.1.2.2.2.1, x.2.1.2.2.2.2), (x.2.2.1.1, x.2.2.1.2.1, x.2.2.1.2.2.1, x.2.2.1.2.2.2), (x.2.2.2.1, q3.1, q3.2, x.2.2.2.2.2.2))]) (L' := [w_Model E a o ((x.1.1, x.1.2.1, x.1.2.2.1, x.1.2.2.2.1, x.1.2.2.2.2), (x.2.1.1, x.2.1.2.1, x.2.1.2.2.1, x.2.1.2.2.2.1, x.2.1.2.2.2.2), (x.2.2.1.1, x.2.2.1.2.1, x.2.2.1.2.2.1, x.2.2.1.2.2.2), (x.2.2.2.1, q3.1, q3.2, x.2.2.2.2.2.2))]) (va_runV (As := [.int p3]) (rest := []) ⟨hx, hb, hml, hown, ha⟩ (k_X11_needs l E a o ((x.1.1, x.1.2.1, x.1.2.2.1, x.1.2.2.2.1, x.1.2.2.2.2), (x.2.1.1, x.2.1.2.1, x.2.1.2.2.1, x.2.1.2.2.2.1, x.2.1.2.2.2.2), (x.2.2.1.1, x.2.2.1.2.1, x.2.2.1.2.2.1, x.2.2.1.2.2.2), (x.2.2.2.1, q2.1, q2.2, x.2.2.2.2.2.2)) p3 q3 hq3 H.size) (cwV 1 ha (gi_V (fun _ h => h) mw2046 mw2048 mw62 mw87 mw2049) rfl rfl rfl hv_X11_needs ⟨(Nat.le_of_ble_eq_true rfl), (Nat.le_of_ble_eq_true rfl)⟩) ⟨pre_blind, va_recv hst.k (fr_P hP [0] rfl) (ci := 13) (q0 := 0) rfl rfl, pre_at hP hD hS hz hzs hst [0] (by decide) rfl rfl⟩ rfl rfl hl.1 rfl (lv_room (Nat.le_of_ble_eq_true rfl)) dX11_needsThree_12 ⟨(Nat.le_of_ble_eq_true rfl), (Nat.le_of_ble_eq_true rfl)⟩) hP hD hS hA [0] (by decide) rfl rfl rfl rfl (fun H locs hP hD hS => ?_)
  obtain rfl := Option.some.inj hF
  exact en_v hQ (Nat.le_of_ble_eq_true rfl) (Nat.le_of_ble_eq_true rfl) hx hb hr hlocks hP hD hS dX11_needsThree_15

/-! X11_digits -/
theorem dX11_digits_0 : decode cX11_digits 0 = .ok (.iconst 0, 1) := by decide +kernel
theorem dX11_digits_1 : decode cX11_digits 1 = .ok (.istore_n 3, 1) := by decide +kernel
theorem dX11_digits_2 : decode cX11_digits 2 = .ok (.iconst 0, 1) := by decide +kernel
theorem dX11_digits_3 : decode cX11_digits 3 = .ok (.istore 4, 2) := by decide +kernel
theorem dX11_digits_5 : decode cX11_digits 5 = .ok (.aload_n 0, 1) := by decide +kernel
theorem dX11_digits_6 : decode cX11_digits 6 = .ok (.getfield 190, 3) := by decide +kernel
theorem dX11_digits_9 : decode cX11_digits 9 = .ok (.ifCond .ne 52, 3) := by decide +kernel
theorem dX11_digits_12 : decode cX11_digits 12 = .ok (.iload 4, 2) := by decide +kernel
theorem dX11_digits_14 : decode cX11_digits 14 = .ok (.iload_n 2, 1) := by decide +kernel
theorem dX11_digits_15 : decode cX11_digits 15 = .ok (.if_icmp .ge 46, 3) := by decide +kernel
theorem dX11_digits_18 : decode cX11_digits 18 = .ok (.aload_n 0, 1) := by decide +kernel
theorem dX11_digits_19 : decode cX11_digits 19 = .ok (.invokevirtual 194, 3) := by decide +kernel
theorem dX11_digits_22 : decode cX11_digits 22 = .ok (.bipush 48, 2) := by decide +kernel
theorem dX11_digits_24 : decode cX11_digits 24 = .ok (.bipush 57, 2) := by decide +kernel
theorem dX11_digits_26 : decode cX11_digits 26 = .ok (.invokestatic 52, 3) := by decide +kernel
theorem dX11_digits_29 : decode cX11_digits 29 = .ok (.ifCond .eq 32, 3) := by decide +kernel
theorem dX11_digits_32 : decode cX11_digits 32 = .ok (.bipush 10, 2) := by decide +kernel
theorem dX11_digits_34 : decode cX11_digits 34 = .ok (.iload_n 3, 1) := by decide +kernel
theorem dX11_digits_35 : decode cX11_digits 35 = .ok (.imul, 1) := by decide +kernel
theorem dX11_digits_36 : decode cX11_digits 36 = .ok (.aload_n 0, 1) := by decide +kernel
theorem dX11_digits_37 : decode cX11_digits 37 = .ok (.invokevirtual 194, 3) := by decide +kernel
theorem dX11_digits_40 : decode cX11_digits 40 = .ok (.iadd, 1) := by decide +kernel
theorem dX11_digits_41 : decode cX11_digits 41 = .ok (.bipush 48, 2) := by decide +kernel
theorem dX11_digits_43 : decode cX11_digits 43 = .ok (.isub, 1) := by decide +kernel
theorem dX11_digits_44 : decode cX11_digits 44 = .ok (.istore_n 3, 1) := by decide +kernel
theorem dX11_digits_45 : decode cX11_digits 45 = .ok (.aload_n 0, 1) := by decide +kernel
theorem dX11_digits_46 : decode cX11_digits 46 = .ok (.dup, 1) := by decide +kernel
theorem dX11_digits_47 : decode cX11_digits 47 = .ok (.getfield 187, 3) := by decide +kernel
theorem dX11_digits_50 : decode cX11_digits 50 = .ok (.iconst 1, 1) := by decide +kernel
theorem dX11_digits_51 : decode cX11_digits 51 = .ok (.iadd, 1) := by decide +kernel
theorem dX11_digits_52 : decode cX11_digits 52 = .ok (.putfield 187, 3) := by decide +kernel
theorem dX11_digits_55 : decode cX11_digits 55 = .ok (.iinc 4 1, 3) := by decide +kernel
theorem dX11_digits_58 : decode cX11_digits 58 = .ok (.goto (-53), 3) := by decide +kernel
theorem dX11_digits_61 : decode cX11_digits 61 = .ok (.aload_n 0, 1) := by decide +kernel
theorem dX11_digits_62 : decode cX11_digits 62 = .ok (.aload_n 0, 1) := by decide +kernel
theorem dX11_digits_63 : decode cX11_digits 63 = .ok (.getfield 190, 3) := by decide +kernel
theorem dX11_digits_66 : decode cX11_digits 66 = .ok (.ifCond .ne 9, 3) := by decide +kernel
theorem dX11_digits_69 : decode cX11_digits 69 = .ok (.iload 4, 2) := by decide +kernel
theorem dX11_digits_71 : decode cX11_digits 71 = .ok (.iload_n 1, 1) := by decide +kernel
theorem dX11_digits_72 : decode cX11_digits 72 = .ok (.if_icmp .ge 7, 3) := by decide +kernel
theorem dX11_digits_75 : decode cX11_digits 75 = .ok (.iconst 1, 1) := by decide +kernel
theorem dX11_digits_76 : decode cX11_digits 76 = .ok (.goto 4, 3) := by decide +kernel
theorem dX11_digits_79 : decode cX11_digits 79 = .ok (.iconst 0, 1) := by decide +kernel
theorem dX11_digits_80 : decode cX11_digits 80 = .ok (.putfield 190, 3) := by decide +kernel
theorem dX11_digits_83 : decode cX11_digits 83 = .ok (.iload_n 3, 1) := by decide +kernel
theorem dX11_digits_84 : decode cX11_digits 84 = .ok (.ireturn, 1) := by decide +kernel
def f_X11_digits_L5 (x_buffer : (Nat → Int32)) (x_typed : Int32) (x_isWrong : Int32) (p2 : Int32) (K5 : Int32 → Int32 → Int32 → Option (Int32 × Int32 × Int32)) : Nat → Int32 → Int32 → Int32 → Option (Int32 × Int32 × Int32)
  | 0, _, _, _ => none
  | n5 + 1, i1, i2, i3 =>
    q_br (x_isWrong = 0) (
  q_br (p2 ≤ i1) (
  K5 i1 i2 i3) (
  q_bd (f_X11_here x_buffer x_typed i3) (fun q7 =>
  q_bd (f_X11_in q7 48 57) (fun q8 =>
  q_br (q8 = 0) (
  K5 i1 i2 i3) (
  q_bd (f_X11_here x_buffer x_typed i3) (fun q9 =>
  q_lt (((10 * i2) + q9) - 48 : Int32) (fun v10 =>
  q_lt (i1 + 1 : Int32) (fun v11 =>
  f_X11_digits_L5 x_buffer x_typed x_isWrong p2 K5 n5 v11 v10 (i3 + 1))))))))) (
  K5 i1 i2 i3)
def f_X11_digits (x_buffer : (Nat → Int32)) (x_typed : Int32) (x_spot : Int32) (x_isWrong : Int32) (p1 : Int32) (p2 : Int32) : Option (Int32 × Int32 × Int32) :=
  f_X11_digits_L5 x_buffer x_typed x_isWrong p2 (fun y4 y5 y6 =>
  q_lt (fun (j12 : Int32) =>
  q_gd (j12 = 0 ∨ j12 = 1) (
  some (y5, y6, j12))) (fun (J80 : Int32 → Option (Int32 × Int32 × Int32)) =>
  q_br (x_isWrong = 0) (
  q_br (p1 ≤ y4) (
  J80 0) (
  J80 1)) (
  J80 1))) 2000 0 0 x_spot
theorem hv_X11_digits : yX11_digits.cls = RX11 ∧ yX11_digits.cls ≠ "java/lang/invoke/MethodHandle" ∧ yX11_digits.cls ≠ "java/lang/invoke/VarHandle" ∧ (parseMethodDescriptor yX11_digits.desc).map (fun d => d.parameters.length) = some 2 := by decide +kernel
abbrev rm_X11_digits : Room := { frames := 1, cells := 0, slots := 0, locals := 22 }
set_option maxHeartbeats 4000000 in
set_option maxRecDepth 100000 in
theorem k_X11_digits (l : Launch) (E : ET) (a : Nat → Nat) (o : Nat) (x : Model_t) (p1 : Int32) (p2 : Int32) (res : Int32 × Int32 × Int32) (hF : f_X11_digits x.2.1.2.1 x.2.1.2.2.1 x.2.2.2.2.1 x.2.2.2.2.2.1 p1 p2 = some res) (sz : Nat) : CtI l yX11_digits (mws yX11_digits cX11_digits 5 (some .int)) rm_X11_digits 0 0 [.ref (a o), .int p1, .int p2] E (bl_Model E a o x) res.1 (bl_Model E a o ((x.1.1, x.1.2.1, x.1.2.2.1, x.1.2.2.2.1, x.1.2.2.2.2), (x.2.1.1, x.2.1.2.1, x.2.1.2.2.1, x.2.1.2.2.2.1, x.2.1.2.2.2.2), (x.2.2.1.1, x.2.2.1.2.1, x.2.2.1.2.2.1, x.2.2.1.2.2.2), (x.2.2.2.1, res.2.1, res.2.2, x.2.2.2.2.2.2))) sz := by
  refine mk_M (by decide +kernel) (Nat.le_of_ble_eq_true rfl) ?_
  intro p e s m below meth c A args Q ls hAe hsz hQ hx hb hr hml hin ha hown hlocks hA hz hzs hst hP hD hS hl
  have hown : s.vm.findClass RX11 = some m.cls := hown
  rw [hAe] at hQ
  subst hsz
  have hP : va_P E.1 vwCl (List.flatten [w_Model E a o x]) s.heap := hP
  have hD : va_D A (List.flatten [w_Model E a o x]) := hD
  have hl : lv_has ls 5 [(0, .ref (a o)), (1, .int p1), (2, .int p2)] := hl
  generalize hHe : s.heap = H at hP
  have hS : va_S A s.heap H [] := by rw [← hHe]; exact hS
  generalize ([] : List Loc) = locs at hS ⊢
  unfold f_X11_digits at hF
  refine lv_iconst (v := 0) hx hb dX11_digits_0 (by decide) ?_
  refine lv_istore_n (lv' := [(3, .int 0), (0, .ref (a o)), (1, .int p1), (2, .int p2)]) hx hb dX11_digits_1 rfl hl (by decide) rfl (fun ls hl => ?_)
  refine lv_iconst (v := 0) hx hb dX11_digits_2 (by decide) ?_
  refine lv_istore (lv' := [(4, .int 0), (3, .int 0), (0, .ref (a o)), (1, .int p1), (2, .int p2)]) hx hb dX11_digits_3 hl (by decide) rfl (fun ls hl => ?_)
  have key5 : ∀ (K : Int32 → Int32 → Int32 → Option (Int32 × Int32 × Int32)), (∀ (y4 : Int32) (y5 : Int32) (y6 : Int32) (H : Heap) (locs : List Loc) (ls : Array Slot), K y4 y5 y6 = some res → va_P E.1 vwCl (List.flatten [w_Model E a o ((x.1.1, x.1.2.1, x.1.2.2.1, x.1.2.2.2.1, x.1.2.2.2.2), (x.2.1.1, x.2.1.2.1, x.2.1.2.2.1, x.2.1.2.2.2.1, x.2.1.2.2.2.2), (x.2.2.1.1, x.2.2.1.2.1, x.2.2.1.2.2.1, x.2.2.1.2.2.2), (x.2.2.2.1, y6, x.2.2.2.2.2.1, x.2.2.2.2.2.2))]) H → va_D A (List.flatten [w_Model E a o ((x.1.1, x.1.2.1, x.1.2.2.1, x.1.2.2.2.1, x.1.2.2.2.2), (x.2.1.1, x.2.1.2.1, x.2.1.2.2.1, x.2.1.2.2.2.1, x.2.1.2.2.2.2), (x.2.2.1.1, x.2.2.1.2.1, x.2.2.1.2.2.1, x.2.2.1.2.2.2), (x.2.2.2.1, y6, x.2.2.2.2.2.1, x.2.2.2.2.2.2))]) → va_S A s.heap H locs → lv_has ls 5 [(4, .int y4), (3, .int y5), (0, .ref (a o)), (1, .int p1)] → W p l e rm_X11_digits s m args below meth c H locs 0 0 Q (F0 m 61 ls [])) → ∀ (n : Nat) (i1 : Int32) (i2 : Int32) (i3 : Int32) (H : Heap) (locs : List Loc) (ls : Array Slot), f_X11_digits_L5 x.2.1.2.1 x.2.1.2.2.1 x.2.2.2.2.2.1 p2 K n i1 i2 i3 = some res → va_P E.1 vwCl (List.flatten [w_Model E a o ((x.1.1, x.1.2.1, x.1.2.2.1, x.1.2.2.2.1, x.1.2.2.2.2), (x.2.1.1, x.2.1.2.1, x.2.1.2.2.1, x.2.1.2.2.2.1, x.2.1.2.2.2.2), (x.2.2.1.1, x.2.2.1.2.1, x.2.2.1.2.2.1, x.2.2.1.2.2.2), (x.2.2.2.1, i3, x.2.2.2.2.2.1, x.2.2.2.2.2.2))]) H → va_D A (List.flatten [w_Model E a o ((x.1.1, x.1.2.1, x.1.2.2.1, x.1.2.2.2.1, x.1.2.2.2.2), (x.2.1.1, x.2.1.2.1, x.2.1.2.2.1, x.2.1.2.2.2.1, x.2.1.2.2.2.2), (x.2.2.1.1, x.2.2.1.2.1, x.2.2.1.2.2.1, x.2.2.1.2.2.2), (x.2.2.2.1, i3, x.2.2.2.2.2.1, x.2.2.2.2.2.2))]) → va_S A s.heap H locs → lv_has ls 5 [(4, .int i1), (3, .int i2), (0, .ref (a o)), (1, .int p1), (2, .int p2)] → W p l e rm_X11_digits s m args below meth c H locs 0 0 Q (F0 m 5 ls []) := by
    intro K5 hK5 n5
    induction n5 with
    | zero => intro i1 i2 i3 H locs ls hF; exact absurd hF (by simp [f_X11_digits_L5])
    | succ n5 ih5 =>
      intro i1 i2 i3 H locs ls hF hP hD hS hl
      rw [f_X11_digits_L5] at hF
      refine lv_aload_n hx hb dX11_digits_5 rfl (lv_at hl 2 rfl) ?_
      refine va_get (D := E.1) (ci := 13) (v := .int x.2.2.2.2.2.1) (C := RX11) (T := TX11) (N := 18) hx hb ha in_X11 hown hst.k hP 0 rfl rfl 16 (by decide) (ha _ mw1652) (fun _ h9 => h9) rfl dX11_digits_6 ?_
      refine lv_if_ne (tgt := 61) hx hb dX11_digits_9 (by decide) (fun c9 => ?_) (fun c9 => ?_)
      · have hF := q_brn c9 hF
        exact hK5 i1 i2 i3 H locs ls hF hP hD hS (lv_sub hl [0, 1, 2, 3] rfl)
      · have hF := q_brp c9 hF
        refine lv_iload hx hb dX11_digits_12 (lv_at hl 0 rfl) ?_
        refine lv_iload_n hx hb dX11_digits_14 rfl (lv_at hl 4 rfl) ?_
        refine lv_icmp_ge (tgt := 61) hx hb dX11_digits_15 (by decide) (fun c15 => ?_) (fun c15 => ?_)
        · have hF := q_brp c15 hF
          exact hK5 i1 i2 i3 H locs ls hF hP hD hS (lv_sub hl [0, 1, 2, 3] rfl)
        · have hF := q_brn c15 hF
          refine lv_aload_n hx hb dX11_digits_18 rfl (lv_at hl 2 rfl) ?_
          obtain ⟨q7, hq7, hF⟩ := q_bdi hF
          refine cl_i (Lc := [w_Model E a o ((x.1.1, x.1.2.1, x.1.2.2.1, x.1.2.2.2.1, x.1.2.2.2.2), (x.2.1.1, x.2.1.2.1, x.2.1.2.2.1, x.2.1.2.2.2.1, x.2.1.2.2.2.2), (x.2.2.1.1, x.2.2.1.2.1, x.2.2.1.2.2.1, x.2.2.1.2.2.2), (x.2.2.2.1, i3, x.2.2.2.2.2.1, x.2.2.2.2.2.2))]) (Lc' := [w_Model E a o ((x.1.1, x.1.2.1, x.1.2.2.1, x.1.2.2.2.1, x.1.2.2.2.2), (x.2.1.1, x.2.1.2.1, x.2.1.2.2.1, x.2.1.2.2.2.1, x.2.1.2.2.2.2), (x.2.2.1.1, x.2.2.1.2.1, x.2.2.1.2.2.1, x.2.2.1.2.2.2), (x.2.2.2.1, i3, x.2.2.2.2.2.1, x.2.2.2.2.2.2))]) (L' := [w_Model E a o ((x.1.1, x.1.2.1, x.1.2.2.1, x.1.2.2.2.1, x.1.2.2.2.2), (x.2.1.1, x.2.1.2.1, x.2.1.2.2.1, x.2.1.2.2.2.1, x.2.1.2.2.2.2), (x.2.2.1.1, x.2.2.1.2.1, x.2.2.1.2.2.1, x.2.2.1.2.2.2), (x.2.2.2.1, i3, x.2.2.2.2.2.1, x.2.2.2.2.2.2))]) (rv := q7) (va_runV (As := []) (rest := []) ⟨hx, hb, hml, hown, ha⟩ (k_X11_here l E a o ((x.1.1, x.1.2.1, x.1.2.2.1, x.1.2.2.2.1, x.1.2.2.2.2), (x.2.1.1, x.2.1.2.1, x.2.1.2.2.1, x.2.1.2.2.2.1, x.2.1.2.2.2.2), (x.2.2.1.1, x.2.2.1.2.1, x.2.2.1.2.2.1, x.2.2.1.2.2.2), (x.2.2.2.1, i3, x.2.2.2.2.2.1, x.2.2.2.2.2.2)) q7 hq7 H.size) (cwV 0 ha (gi_V (fun _ h => h) mw2038 mw2040 mw60 mw87 mw2041) rfl rfl rfl hv_X11_here ⟨(Nat.le_of_ble_eq_true rfl), (Nat.le_of_ble_eq_true rfl)⟩) ⟨pre_blind, va_recv hst.k (fr_P hP [0] rfl) (ci := 13) (q0 := 0) rfl rfl, pre_at hP hD hS hz hzs hst [0] (by decide) rfl rfl⟩ rfl rfl hl.1 rfl (lv_room (Nat.le_of_ble_eq_true rfl)) dX11_digits_19 ⟨(Nat.le_of_ble_eq_true rfl), (Nat.le_of_ble_eq_true rfl)⟩) hP hD hS hA [0] (by decide) rfl rfl rfl rfl (fun H locs hP hD hS => ?_)
          refine lv_bipush (v := 48) hx hb dX11_digits_22 (by decide) ?_
          refine lv_bipush (v := 57) hx hb dX11_digits_24 (by decide) ?_
          obtain ⟨q8, hq8, hF⟩ := q_bdi hF
          refine cl_i (Lc := []) (Lc' := []) (L' := [w_Model E a o ((x.1.1, x.1.2.1, x.1.2.2.1, x.1.2.2.2.1, x.1.2.2.2.2), (x.2.1.1, x.2.1.2.1, x.2.1.2.2.1, x.2.1.2.2.2.1, x.2.1.2.2.2.2), (x.2.2.1.1, x.2.2.1.2.1, x.2.2.1.2.2.1, x.2.2.1.2.2.2), (x.2.2.2.1, i3, x.2.2.2.2.2.1, x.2.2.2.2.2.2))]) (rv := q8) (va_runS (As := [.int q7, .int 48, .int 57]) (rest := []) ⟨hx, hb, hml, hown, ha⟩ (k_X11_in l E q7 48 57 q8 hq8 H.size) (cwS 3 ha (gi_S (fun _ h => h) mw1713 mw1714 mw87 mw1715) rfl rfl rfl hv_X11_in ⟨(Nat.le_of_ble_eq_true rfl), (Nat.le_of_ble_eq_true rfl)⟩) ⟨pre_blind, pre_at hP hD hS hz hzs hst [] (by decide) rfl rfl⟩ rfl rfl hl.1 rfl (lv_room (Nat.le_of_ble_eq_true rfl)) dX11_digits_26 ⟨(Nat.le_of_ble_eq_true rfl), (Nat.le_of_ble_eq_true rfl)⟩) hP hD hS hA [] (by decide) rfl rfl rfl rfl (fun H locs hP hD hS => ?_)
          refine lv_if_eq (tgt := 61) hx hb dX11_digits_29 (by decide) (fun c29 => ?_) (fun c29 => ?_)
          · have hF := q_brp c29 hF
            exact hK5 i1 i2 i3 H locs ls hF hP hD hS (lv_sub hl [0, 1, 2, 3] rfl)
          · have hF := q_brn c29 hF
            refine lv_bipush (v := 10) hx hb dX11_digits_32 (by decide) ?_
            refine lv_iload_n hx hb dX11_digits_34 rfl (lv_at hl 1 rfl) ?_
            refine lv_imul hx hb dX11_digits_35 ?_
            refine lv_aload_n hx hb dX11_digits_36 rfl (lv_at hl 2 rfl) ?_
            obtain ⟨q9, hq9, hF⟩ := q_bdi hF
            refine cl_i (Lc := [w_Model E a o ((x.1.1, x.1.2.1, x.1.2.2.1, x.1.2.2.2.1, x.1.2.2.2.2), (x.2.1.1, x.2.1.2.1, x.2.1.2.2.1, x.2.1.2.2.2.1, x.2.1.2.2.2.2), (x.2.2.1.1, x.2.2.1.2.1, x.2.2.1.2.2.1, x.2.2.1.2.2.2), (x.2.2.2.1, i3, x.2.2.2.2.2.1, x.2.2.2.2.2.2))]) (Lc' := [w_Model E a o ((x.1.1, x.1.2.1, x.1.2.2.1, x.1.2.2.2.1, x.1.2.2.2.2), (x.2.1.1, x.2.1.2.1, x.2.1.2.2.1, x.2.1.2.2.2.1, x.2.1.2.2.2.2), (x.2.2.1.1, x.2.2.1.2.1, x.2.2.1.2.2.1, x.2.2.1.2.2.2), (x.2.2.2.1, i3, x.2.2.2.2.2.1, x.2.2.2.2.2.2))]) (L' := [w_Model E a o ((x.1.1, x.1.2.1, x.1.2.2.1, x.1.2.2.2.1, x.1.2.2.2.2), (x.2.1.1, x.2.1.2.1, x.2.1.2.2.1, x.2.1.2.2.2.1, x.2.1.2.2.2.2), (x.2.2.1.1, x.2.2.1.2.1, x.2.2.1.2.2.1, x.2.2.1.2.2.2), (x.2.2.2.1, i3, x.2.2.2.2.2.1, x.2.2.2.2.2.2))]) (rv := q9) (va_runV (As := []) (rest := [.int (10 * i2)]) ⟨hx, hb, hml, hown, ha⟩ (k_X11_here l E a o ((x.1.1, x.1.2.1, x.1.2.2.1, x.1.2.2.2.1, x.1.2.2.2.2), (x.2.1.1, x.2.1.2.1, x.2.1.2.2.1, x.2.1.2.2.2.1, x.2.1.2.2.2.2), (x.2.2.1.1, x.2.2.1.2.1, x.2.2.1.2.2.1, x.2.2.1.2.2.2), (x.2.2.2.1, i3, x.2.2.2.2.2.1, x.2.2.2.2.2.2)) q9 hq9 H.size) (cwV 0 ha (gi_V (fun _ h => h) mw2038 mw2040 mw60 mw87 mw2041) rfl rfl rfl hv_X11_here ⟨(Nat.le_of_ble_eq_true rfl), (Nat.le_of_ble_eq_true rfl)⟩) ⟨pre_blind, va_recv hst.k (fr_P hP [0] rfl) (ci := 13) (q0 := 0) rfl rfl, pre_at hP hD hS hz hzs hst [0] (by decide) rfl rfl⟩ rfl rfl hl.1 rfl (lv_room (Nat.le_of_ble_eq_true rfl)) dX11_digits_37 ⟨(Nat.le_of_ble_eq_true rfl), (Nat.le_of_ble_eq_true rfl)⟩) hP hD hS hA [0] (by decide) rfl rfl rfl rfl (fun H locs hP hD hS => ?_)
            refine lv_iadd hx hb dX11_digits_40 ?_
            refine lv_bipush (v := 48) hx hb dX11_digits_41 (by decide) ?_
            refine lv_isub hx hb dX11_digits_43 ?_
            refine lv_topi (fun v10 ev10 => ?_)
            have hF := q_lti ev10 hF
            refine lv_istore_n (lv' := [(3, .int v10), (4, .int i1), (0, .ref (a o)), (1, .int p1), (2, .int p2)]) hx hb dX11_digits_44 rfl hl (by decide) rfl (fun ls hl => ?_)
            refine lv_aload_n hx hb dX11_digits_45 rfl (lv_at hl 2 rfl) ?_
            refine lv_dup hx hb dX11_digits_46 rfl ?_
            refine va_get (D := E.1) (ci := 13) (v := .int i3) (C := RX11) (T := TX11) (N := 18) hx hb ha in_X11 hown hst.k hP 0 rfl rfl 15 (by decide) (ha _ mw1651) (fun _ h9 => h9) rfl dX11_digits_47 ?_
            refine lv_iconst (v := 1) hx hb dX11_digits_50 (by decide) ?_
            refine lv_iadd hx hb dX11_digits_51 ?_
            refine va_put (D := E.1) (ci := 13) (v := .int (i3 + 1)) (ty := .int) (C := RX11) (T := TX11) (N := 18) hx hb ha in_X11 tyX11 tyX11_ok nmX11 hown hst.k hP hD hS 0 rfl rfl 15 (by decide) (ha _ mw1651) (fun _ h9 => h9) rfl (tyX11_ok 15 (by decide)) rfl rfl (Nat.le_of_ble_eq_true rfl) dX11_digits_52 (fun H locs hP hD hS => ?_)
            have hP : va_P E.1 vwCl (List.flatten [w_Model E a o ((x.1.1, x.1.2.1, x.1.2.2.1, x.1.2.2.2.1, x.1.2.2.2.2), (x.2.1.1, x.2.1.2.1, x.2.1.2.2.1, x.2.1.2.2.2.1, x.2.1.2.2.2.2), (x.2.2.1.1, x.2.2.1.2.1, x.2.2.1.2.2.1, x.2.2.1.2.2.2), (x.2.2.2.1, i3 + 1, x.2.2.2.2.2.1, x.2.2.2.2.2.2))]) H := hP
            have hD : va_D A (List.flatten [w_Model E a o ((x.1.1, x.1.2.1, x.1.2.2.1, x.1.2.2.2.1, x.1.2.2.2.2), (x.2.1.1, x.2.1.2.1, x.2.1.2.2.1, x.2.1.2.2.2.1, x.2.1.2.2.2.2), (x.2.2.1.1, x.2.2.1.2.1, x.2.2.1.2.2.1, x.2.2.1.2.2.2), (x.2.2.2.1, i3 + 1, x.2.2.2.2.2.1, x.2.2.2.2.2.2))]) := hD
            obtain ⟨v11, ev11⟩ : ∃ y : Int32, y = i1 + 1 := ⟨_, rfl⟩
            have hF := q_lti ev11 hF
            refine lv_iinc (v := v11) (lv' := [(4, .int v11), (3, .int v10), (0, .ref (a o)), (1, .int p1), (2, .int p2)]) hx hb dX11_digits_55 hl (k := 1) rfl (by rw [ev11]; rfl) (by decide) rfl (fun ls hl => ?_)
            refine lv_goto (tgt := 5) hx hb dX11_digits_58 (by decide) ?_
            exact ih5 v11 v10 (i3 + 1) H locs ls hF hP hD hS (lv_sub hl [0, 1, 2, 3, 4] rfl)
  refine key5 _ ?_ _ 0 0 x.2.2.2.2.1 H locs ls hF hP hD hS (lv_sub hl [0, 1, 2, 3, 4] rfl)
  intro y4 y5 y6 H locs ls hF hP hD hS hl
  refine lv_aload_n hx hb dX11_digits_61 rfl (lv_at hl 2 rfl) ?_
  refine lv_aload_n hx hb dX11_digits_62 rfl (lv_at hl 2 rfl) ?_
  refine va_get (D := E.1) (ci := 13) (v := .int x.2.2.2.2.2.1) (C := RX11) (T := TX11) (N := 18) hx hb ha in_X11 hown hst.k hP 0 rfl rfl 16 (by decide) (ha _ mw1652) (fun _ h9 => h9) rfl dX11_digits_63 ?_
  obtain ⟨J80, hJ80, hF⟩ := q_jn hF
  have jJ80 : ∀ (j12 : Int32), ∀ (H : Heap) (locs : List Loc) (ls : Array Slot), J80 j12 = some res → va_P E.1 vwCl (List.flatten [w_Model E a o ((x.1.1, x.1.2.1, x.1.2.2.1, x.1.2.2.2.1, x.1.2.2.2.2), (x.2.1.1, x.2.1.2.1, x.2.1.2.2.1, x.2.1.2.2.2.1, x.2.1.2.2.2.2), (x.2.2.1.1, x.2.2.1.2.1, x.2.2.1.2.2.1, x.2.2.1.2.2.2), (x.2.2.2.1, y6, x.2.2.2.2.2.1, x.2.2.2.2.2.2))]) H → va_D A (List.flatten [w_Model E a o ((x.1.1, x.1.2.1, x.1.2.2.1, x.1.2.2.2.1, x.1.2.2.2.2), (x.2.1.1, x.2.1.2.1, x.2.1.2.2.1, x.2.1.2.2.2.1, x.2.1.2.2.2.2), (x.2.2.1.1, x.2.2.1.2.1, x.2.2.1.2.2.1, x.2.2.1.2.2.2), (x.2.2.2.1, y6, x.2.2.2.2.2.1, x.2.2.2.2.2.2))]) → va_S A s.heap H locs → lv_has ls 5 [(3, .int y5)] → W p l e rm_X11_digits s m args below meth c H locs 0 0 Q (F0 m 80 ls [.int j12, .ref (a o)]) := by
    intro j12 H locs ls hF hP hD hS hl
    rw [hJ80] at hF
    obtain ⟨g13, hF⟩ := q_gdi hF
    refine va_put (D := E.1) (ci := 13) (v := .int j12) (ty := .boolean) (C := RX11) (T := TX11) (N := 18) hx hb ha in_X11 tyX11 tyX11_ok nmX11 hown hst.k hP hD hS 0 rfl rfl 16 (by decide) (ha _ mw1652) (fun _ h9 => h9) rfl (tyX11_ok 16 (by decide)) (nz_b g13) (fz_b g13) (Nat.le_of_ble_eq_true rfl) dX11_digits_80 (fun H locs hP hD hS => ?_)
    have hP : va_P E.1 vwCl (List.flatten [w_Model E a o ((x.1.1, x.1.2.1, x.1.2.2.1, x.1.2.2.2.1, x.1.2.2.2.2), (x.2.1.1, x.2.1.2.1, x.2.1.2.2.1, x.2.1.2.2.2.1, x.2.1.2.2.2.2), (x.2.2.1.1, x.2.2.1.2.1, x.2.2.1.2.2.1, x.2.2.1.2.2.2), (x.2.2.2.1, y6, j12, x.2.2.2.2.2.2))]) H := hP
    have hD : va_D A (List.flatten [w_Model E a o ((x.1.1, x.1.2.1, x.1.2.2.1, x.1.2.2.2.1, x.1.2.2.2.2), (x.2.1.1, x.2.1.2.1, x.2.1.2.2.1, x.2.1.2.2.2.1, x.2.1.2.2.2.2), (x.2.2.1.1, x.2.2.1.2.1, x.2.2.1.2.2.1, x.2.2.1.2.2.2), (x.2.2.2.1, y6, j12, x.2.2.2.2.2.2))]) := hD
    refine lv_iload_n hx hb dX11_digits_83 rfl (lv_at hl 0 rfl) ?_
    obtain rfl := Option.some.inj hF
    exact en_i hQ (Nat.le_of_ble_eq_true rfl) (Nat.le_of_ble_eq_true rfl) hx hb hr hlocks hP hD hS rfl dX11_digits_84
  refine lv_if_ne (tgt := 75) hx hb dX11_digits_66 (by decide) (fun c66 => ?_) (fun c66 => ?_)
  · have hF := q_brn c66 hF
    refine lv_iconst (v := 1) hx hb dX11_digits_75 (by decide) ?_
    refine lv_goto (tgt := 80) hx hb dX11_digits_76 (by decide) ?_
    exact jJ80 1 H locs ls hF hP hD hS (lv_sub hl [1] rfl)
  · have hF := q_brp c66 hF
    refine lv_iload hx hb dX11_digits_69 (lv_at hl 0 rfl) ?_
    refine lv_iload_n hx hb dX11_digits_71 rfl (lv_at hl 3 rfl) ?_
    refine lv_icmp_ge (tgt := 79) hx hb dX11_digits_72 (by decide) (fun c72 => ?_) (fun c72 => ?_)
    · have hF := q_brp c72 hF
      refine lv_iconst (v := 0) hx hb dX11_digits_79 (by decide) ?_
      exact jJ80 0 H locs ls hF hP hD hS (lv_sub hl [1] rfl)
    · have hF := q_brn c72 hF
      refine lv_iconst (v := 1) hx hb dX11_digits_75 (by decide) ?_
      refine lv_goto (tgt := 80) hx hb dX11_digits_76 (by decide) ?_
      exact jJ80 1 H locs ls hF hP hD hS (lv_sub hl [1] rfl)

/-! X11_afterBlank -/
theorem dX11_afterBlank_0 : decode cX11_afterBlank 0 = .ok (.aload_n 0, 1) := by decide +kernel
theorem dX11_afterBlank_1 : decode cX11_afterBlank 1 = .ok (.bipush 32, 2) := by decide +kernel
theorem dX11_afterBlank_3 : decode cX11_afterBlank 3 = .ok (.invokevirtual 198, 3) := by decide +kernel
theorem dX11_afterBlank_6 : decode cX11_afterBlank 6 = .ok (.aload_n 0, 1) := by decide +kernel
theorem dX11_afterBlank_7 : decode cX11_afterBlank 7 = .ok (.iload_n 1, 1) := by decide +kernel
theorem dX11_afterBlank_8 : decode cX11_afterBlank 8 = .ok (.iload_n 2, 1) := by decide +kernel
theorem dX11_afterBlank_9 : decode cX11_afterBlank 9 = .ok (.invokevirtual 201, 3) := by decide +kernel
theorem dX11_afterBlank_12 : decode cX11_afterBlank 12 = .ok (.ireturn, 1) := by decide +kernel
def f_X11_afterBlank (x_buffer : (Nat → Int32)) (x_typed : Int32) (x_spot : Int32) (x_isWrong : Int32) (p1 : Int32) (p2 : Int32) : Option (Int32 × Int32 × Int32) :=
  q_bd (f_X11_needs x_buffer x_typed x_spot x_isWrong 32) (fun q1 =>
  q_bd (f_X11_digits x_buffer x_typed q1.1 q1.2 p1 p2) (fun q2 =>
  some (q2.1, q2.2.1, q2.2.2)))
theorem hv_X11_afterBlank : yX11_afterBlank.cls = RX11 ∧ yX11_afterBlank.cls ≠ "java/lang/invoke/MethodHandle" ∧ yX11_afterBlank.cls ≠ "java/lang/invoke/VarHandle" ∧ (parseMethodDescriptor yX11_afterBlank.desc).map (fun d => d.parameters.length) = some 2 := by decide +kernel
abbrev rm_X11_afterBlank : Room := { frames := 2, cells := 0, slots := 0, locals := 46 }
set_option maxHeartbeats 4000000 in
set_option maxRecDepth 100000 in
theorem k_X11_afterBlank (l : Launch) (E : ET) (a : Nat → Nat) (o : Nat) (x : Model_t) (p1 : Int32) (p2 : Int32) (res : Int32 × Int32 × Int32) (hF : f_X11_afterBlank x.2.1.2.1 x.2.1.2.2.1 x.2.2.2.2.1 x.2.2.2.2.2.1 p1 p2 = some res) (sz : Nat) : CtI l yX11_afterBlank (mws yX11_afterBlank cX11_afterBlank 3 (some .int)) rm_X11_afterBlank 0 0 [.ref (a o), .int p1, .int p2] E (bl_Model E a o x) res.1 (bl_Model E a o ((x.1.1, x.1.2.1, x.1.2.2.1, x.1.2.2.2.1, x.1.2.2.2.2), (x.2.1.1, x.2.1.2.1, x.2.1.2.2.1, x.2.1.2.2.2.1, x.2.1.2.2.2.2), (x.2.2.1.1, x.2.2.1.2.1, x.2.2.1.2.2.1, x.2.2.1.2.2.2), (x.2.2.2.1, res.2.1, res.2.2, x.2.2.2.2.2.2))) sz := by
  refine mk_M (by decide +kernel) (Nat.le_of_ble_eq_true rfl) ?_
  intro p e s m below meth c A args Q ls hAe hsz hQ hx hb hr hml hin ha hown hlocks hA hz hzs hst hP hD hS hl
  have hown : s.vm.findClass RX11 = some m.cls := hown
  rw [hAe] at hQ
  subst hsz
  have hP : va_P E.1 vwCl (List.flatten [w_Model E a o x]) s.heap := hP
  have hD : va_D A (List.flatten [w_Model E a o x]) := hD
  have hl : lv_has ls 3 [(0, .ref (a o)), (1, .int p1), (2, .int p2)] := hl
  generalize hHe : s.heap = H at hP
  have hS : va_S A s.heap H [] := by rw [← hHe]; exact hS
  generalize ([] : List Loc) = locs at hS ⊢
  unfold f_X11_afterBlank at hF
  refine lv_aload_n hx hb dX11_afterBlank_0 rfl (lv_at hl 0 rfl) ?_
  refine lv_bipush (v := 32) hx hb dX11_afterBlank_1 (by decide) ?_
  obtain ⟨q1, hq1, hF⟩ := q_bdi hF
  refine cl_v (Lc := [w_Model E a o x]) (Lc' := [w_Model E a o ((x.1.1, x.1.2.1, x.1.2.2.1, x.1.2.2.2.1, x.1.2.2.2.2), (x.2.1.1, x.2.1.2.1, x.2.1.2.2.1, x.2.1.2.2.2.1, x.2.1.2.2.2.2), (x.2.2.1.1, x.2.2.1.2.1, x.2.2.1.2.2.1, x.2.2.1.2.2.2), (x.2.2.2.1, q1.1, q1.2, x.2.2.2.2.2.2))]) (L' := [w_Model E a o ((x.1.1, x.1.2.1, x.1.2.2.1, x.1.2.2.2.1, x.1.2.2.2.2), (x.2.1.1, x.2.1.2.1, x.2.1.2.2.1, x.2.1.2.2.2.1, x.2.1.2.2.2.2), (x.2.2.1.1, x.2.2.1.2.1, x.2.2.1.2.2.1, x.2.2.1.2.2.2), (x.2.2.2.1, q1.1, q1.2, x.2.2.2.2.2.2))]) (va_runV (As := [.int 32]) (rest := []) ⟨hx, hb, hml, hown, ha⟩ (k_X11_needs l E a o x 32 q1 hq1 H.size) (cwV 1 ha (gi_V (fun _ h => h) mw2046 mw2048 mw62 mw87 mw2049) rfl rfl rfl hv_X11_needs ⟨(Nat.le_of_ble_eq_true rfl), (Nat.le_of_ble_eq_true rfl)⟩) ⟨pre_blind, va_recv hst.k (fr_P hP [0] rfl) (ci := 13) (q0 := 0) rfl rfl, pre_at hP hD hS hz hzs hst [0] (by decide) rfl rfl⟩ rfl rfl hl.1 rfl (lv_room (Nat.le_of_ble_eq_true rfl)) dX11_afterBlank_3 ⟨(Nat.le_of_ble_eq_true rfl), (Nat.le_of_ble_eq_true rfl)⟩) hP hD hS hA [0] (by decide) rfl rfl rfl rfl (fun H locs hP hD hS => ?_)
  refine lv_aload_n hx hb dX11_afterBlank_6 rfl (lv_at hl 0 rfl) ?_
  refine lv_iload_n hx hb dX11_afterBlank_7 rfl (lv_at hl 1 rfl) ?_
  refine lv_iload_n hx hb dX11_afterBlank_8 rfl (lv_at hl 2 rfl) ?_
  obtain ⟨q2, hq2, hF⟩ := q_bdi hF
  refine cl_i (Lc := [w_Model E a o ((x.1.1, x.1.2.1, x.1.2.2.1, x.1.2.2.2.1, x.1.2.2.2.2), (x.2.1.1, x.2.1.2.1, x.2.1.2.2.1, x.2.1.2.2.2.1, x.2.1.2.2.2.2), (x.2.2.1.1, x.2.2.1.2.1, x.2.2.1.2.2.1, x.2.2.1.2.2.2), (x.2.2.2.1, q1.1, q1.2, x.2.2.2.2.2.2))]) (Lc' := [w_Model E a o ((x.1.1, x.1.2.1, x.1.2.2.1, x.1.2.2.2.1, x.1.2.2.2.2), (x.2.1.1, x.2.1.2.1, x.2.1.2.2.1, x.2.1.2.2.2.1, x.2.1.2.2.2.2), (x.2.2.1.1, x.2.2.1.2.1, x.2.2.1.2.2.1, x.2.2.1.2.2.2), (x.2.2.2.1, q2.2.1, q2.2.2, x.2.2.2.2.2.2))]) (L' := [w_Model E a o ((x.1.1, x.1.2.1, x.1.2.2.1, x.1.2.2.2.1, x.1.2.2.2.2), (x.2.1.1, x.2.1.2.1, x.2.1.2.2.1, x.2.1.2.2.2.1, x.2.1.2.2.2.2), (x.2.2.1.1, x.2.2.1.2.1, x.2.2.1.2.2.1, x.2.2.1.2.2.2), (x.2.2.2.1, q2.2.1, q2.2.2, x.2.2.2.2.2.2))]) (rv := q2.1) (va_runV (As := [.int p1, .int p2]) (rest := []) ⟨hx, hb, hml, hown, ha⟩ (k_X11_digits l E a o ((x.1.1, x.1.2.1, x.1.2.2.1, x.1.2.2.2.1, x.1.2.2.2.2), (x.2.1.1, x.2.1.2.1, x.2.1.2.2.1, x.2.1.2.2.2.1, x.2.1.2.2.2.2), (x.2.2.1.1, x.2.2.1.2.1, x.2.2.1.2.2.1, x.2.2.1.2.2.2), (x.2.2.2.1, q1.1, q1.2, x.2.2.2.2.2.2)) p1 p2 q2 hq2 H.size) (cwV 2 ha (gi_V (fun _ h => h) mw2054 mw2056 mw64 mw87 mw2057) rfl rfl rfl hv_X11_digits ⟨(Nat.le_of_ble_eq_true rfl), (Nat.le_of_ble_eq_true rfl)⟩) ⟨pre_blind, va_recv hst.k (fr_P hP [0] rfl) (ci := 13) (q0 := 0) rfl rfl, pre_at hP hD hS hz hzs hst [0] (by decide) rfl rfl⟩ rfl rfl hl.1 rfl (lv_room (Nat.le_of_ble_eq_true rfl)) dX11_afterBlank_9 ⟨(Nat.le_of_ble_eq_true rfl), (Nat.le_of_ble_eq_true rfl)⟩) hP hD hS hA [0] (by decide) rfl rfl rfl rfl (fun H locs hP hD hS => ?_)
  obtain rfl := Option.some.inj hF
  exact en_i hQ (Nat.le_of_ble_eq_true rfl) (Nat.le_of_ble_eq_true rfl) hx hb hr hlocks hP hD hS rfl dX11_afterBlank_12

/-! X11_signed -/
theorem dX11_signed_0 : decode cX11_signed 0 = .ok (.aload_n 0, 1) := by decide +kernel
theorem dX11_signed_1 : decode cX11_signed 1 = .ok (.getfield 190, 3) := by decide +kernel
theorem dX11_signed_4 : decode cX11_signed 4 = .ok (.ifCond .ne 16, 3) := by decide +kernel
theorem dX11_signed_7 : decode cX11_signed 7 = .ok (.aload_n 0, 1) := by decide +kernel
theorem dX11_signed_8 : decode cX11_signed 8 = .ok (.invokevirtual 194, 3) := by decide +kernel
theorem dX11_signed_11 : decode cX11_signed 11 = .ok (.bipush 45, 2) := by decide +kernel
theorem dX11_signed_13 : decode cX11_signed 13 = .ok (.if_icmp .ne 7, 3) := by decide +kernel
theorem dX11_signed_16 : decode cX11_signed 16 = .ok (.iconst 1, 1) := by decide +kernel
theorem dX11_signed_17 : decode cX11_signed 17 = .ok (.goto 4, 3) := by decide +kernel
theorem dX11_signed_20 : decode cX11_signed 20 = .ok (.iconst 0, 1) := by decide +kernel
theorem dX11_signed_21 : decode cX11_signed 21 = .ok (.istore_n 1, 1) := by decide +kernel
theorem dX11_signed_22 : decode cX11_signed 22 = .ok (.aload_n 0, 1) := by decide +kernel
theorem dX11_signed_23 : decode cX11_signed 23 = .ok (.iload_n 1, 1) := by decide +kernel
theorem dX11_signed_24 : decode cX11_signed 24 = .ok (.ifCond .eq 8, 3) := by decide +kernel
theorem dX11_signed_27 : decode cX11_signed 27 = .ok (.bipush 45, 2) := by decide +kernel
theorem dX11_signed_29 : decode cX11_signed 29 = .ok (.goto 5, 3) := by decide +kernel
theorem dX11_signed_32 : decode cX11_signed 32 = .ok (.bipush 43, 2) := by decide +kernel
theorem dX11_signed_34 : decode cX11_signed 34 = .ok (.invokevirtual 198, 3) := by decide +kernel
theorem dX11_signed_37 : decode cX11_signed 37 = .ok (.aload_n 0, 1) := by decide +kernel
theorem dX11_signed_38 : decode cX11_signed 38 = .ok (.iconst 1, 1) := by decide +kernel
theorem dX11_signed_39 : decode cX11_signed 39 = .ok (.iconst 2, 1) := by decide +kernel
theorem dX11_signed_40 : decode cX11_signed 40 = .ok (.invokevirtual 201, 3) := by decide +kernel
theorem dX11_signed_43 : decode cX11_signed 43 = .ok (.istore_n 2, 1) := by decide +kernel
theorem dX11_signed_44 : decode cX11_signed 44 = .ok (.iload_n 1, 1) := by decide +kernel
theorem dX11_signed_45 : decode cX11_signed 45 = .ok (.ifCond .eq 8, 3) := by decide +kernel
theorem dX11_signed_48 : decode cX11_signed 48 = .ok (.iload_n 2, 1) := by decide +kernel
theorem dX11_signed_49 : decode cX11_signed 49 = .ok (.ineg, 1) := by decide +kernel
theorem dX11_signed_50 : decode cX11_signed 50 = .ok (.goto 4, 3) := by decide +kernel
theorem dX11_signed_53 : decode cX11_signed 53 = .ok (.iload_n 2, 1) := by decide +kernel
theorem dX11_signed_54 : decode cX11_signed 54 = .ok (.ireturn, 1) := by decide +kernel
def f_X11_signed (x_buffer : (Nat → Int32)) (x_typed : Int32) (x_spot : Int32) (x_isWrong : Int32) : Option (Int32 × Int32 × Int32) :=
  q_lt (fun (j1 : Int32) =>
  q_lt (fun (j2 : Int32) =>
  q_bd (f_X11_needs x_buffer x_typed x_spot x_isWrong j2) (fun q3 =>
  q_bd (f_X11_digits x_buffer x_typed q3.1 q3.2 1 2) (fun q4 =>
  q_br (j1 = 0) (
  some (q4.1, q4.2.1, q4.2.2)) (
  some (-q4.1, q4.2.1, q4.2.2))))) (fun (J34 : Int32 → Option (Int32 × Int32 × Int32)) =>
  q_br (j1 = 0) (
  J34 43) (
  J34 45))) (fun (J21 : Int32 → Option (Int32 × Int32 × Int32)) =>
  q_br (x_isWrong = 0) (
  q_bd (f_X11_here x_buffer x_typed x_spot) (fun q5 =>
  q_br (q5 = 45) (
  J21 1) (
  J21 0))) (
  J21 0))
theorem hv_X11_signed : yX11_signed.cls = RX11 ∧ yX11_signed.cls ≠ "java/lang/invoke/MethodHandle" ∧ yX11_signed.cls ≠ "java/lang/invoke/VarHandle" ∧ (parseMethodDescriptor yX11_signed.desc).map (fun d => d.parameters.length) = some 0 := by decide +kernel
abbrev rm_X11_signed : Room := { frames := 2, cells := 0, slots := 0, locals := 46 }
set_option maxHeartbeats 4000000 in
set_option maxRecDepth 100000 in
theorem k_X11_signed (l : Launch) (E : ET) (a : Nat → Nat) (o : Nat) (x : Model_t) (res : Int32 × Int32 × Int32) (hF : f_X11_signed x.2.1.2.1 x.2.1.2.2.1 x.2.2.2.2.1 x.2.2.2.2.2.1 = some res) (sz : Nat) : CtI l yX11_signed (mws yX11_signed cX11_signed 3 (some .int)) rm_X11_signed 0 0 [.ref (a o)] E (bl_Model E a o x) res.1 (bl_Model E a o ((x.1.1, x.1.2.1, x.1.2.2.1, x.1.2.2.2.1, x.1.2.2.2.2), (x.2.1.1, x.2.1.2.1, x.2.1.2.2.1, x.2.1.2.2.2.1, x.2.1.2.2.2.2), (x.2.2.1.1, x.2.2.1.2.1, x.2.2.1.2.2.1, x.2.2.1.2.2.2), (x.2.2.2.1, res.2.1, res.2.2, x.2.2.2.2.2.2))) sz := by
  refine mk_M (by decide +kernel) (Nat.le_of_ble_eq_true rfl) ?_
  intro p e s m below meth c A args Q ls hAe hsz hQ hx hb hr hml hin ha hown hlocks hA hz hzs hst hP hD hS hl
  have hown : s.vm.findClass RX11 = some m.cls := hown
  rw [hAe] at hQ
  subst hsz
  have hP : va_P E.1 vwCl (List.flatten [w_Model E a o x]) s.heap := hP
  have hD : va_D A (List.flatten [w_Model E a o x]) := hD
  have hl : lv_has ls 3 [(0, .ref (a o))] := hl
  generalize hHe : s.heap = H at hP
  have hS : va_S A s.heap H [] := by rw [← hHe]; exact hS
  generalize ([] : List Loc) = locs at hS ⊢
  unfold f_X11_signed at hF
  refine lv_aload_n hx hb dX11_signed_0 rfl (lv_at hl 0 rfl) ?_
  refine va_get (D := E.1) (ci := 13) (v := .int x.2.2.2.2.2.1) (C := RX11) (T := TX11) (N := 18) hx hb ha in_X11 hown hst.k hP 0 rfl rfl 16 (by decide) (ha _ mw1652) (fun _ h9 => h9) rfl dX11_signed_1 ?_
  obtain ⟨J21, hJ21, hF⟩ := q_jn hF
  have jJ21 : ∀ (j1 : Int32), ∀ (H : Heap) (locs : List Loc) (ls : Array Slot), J21 j1 = some res → va_P E.1 vwCl (List.flatten [w_Model E a o x]) H → va_D A (List.flatten [w_Model E a o x]) → va_S A s.heap H locs → lv_has ls 3 [(0, .ref (a o))] → W p l e rm_X11_signed s m args below meth c H locs 0 0 Q (F0 m 21 ls [.int j1]) := by
    intro j1 H locs ls hF hP hD hS hl
    rw [hJ21] at hF
    refine lv_istore_n (lv' := [(1, .int j1), (0, .ref (a o))]) hx hb dX11_signed_21 rfl hl (by decide) rfl (fun ls hl => ?_)
    refine lv_aload_n hx hb dX11_signed_22 rfl (lv_at hl 1 rfl) ?_
    refine lv_iload_n hx hb dX11_signed_23 rfl (lv_at hl 0 rfl) ?_
    obtain ⟨J34, hJ34, hF⟩ := q_jn hF
    have jJ34 : ∀ (j2 : Int32), ∀ (H : Heap) (locs : List Loc) (ls : Array Slot), J34 j2 = some res → va_P E.1 vwCl (List.flatten [w_Model E a o x]) H → va_D A (List.flatten [w_Model E a o x]) → va_S A s.heap H locs → lv_has ls 3 [(1, .int j1), (0, .ref (a o))] → W p l e rm_X11_signed s m args below meth c H locs 0 0 Q (F0 m 34 ls [.int j2, .ref (a o)]) := by
      intro j2 H locs ls hF hP hD hS hl
      rw [hJ34] at hF
      obtain ⟨q3, hq3, hF⟩ := q_bdi hF
      refine cl_v (Lc := [w_Model E a o x]) (Lc' := [w_Model E a o ((x.1.1, x.1.2.1, x.1.2.2.1, x.1.2.2.2.1, x.1.2.2.2.2), (x.2.1.1, x.2.1.2.1, x.2.1.2.2.1, x.2.1.2.2.2.1, x.2.1.2.2.2.2), (x.2.2.1.1, x.2.2.1.2.1, x.2.2.1.2.2.1, x.2.2.1.2.2.2), (x.2.2.2.1, q3.1, q3.2, x.2.2.2.2.2.2))]) (L' := [w_Model E a o ((x.1.1, x.1.2.1, x.1.2.2.1, x.1.2.2.2.1, x.1.2.2.2.2), (x.2.1.1, x.2.1.2.1, x.2.1.2.2.1, x.2.1.2.2.2.1, x.2.1.2.2.2.2), (x.2.2.1.1, x.2.2.1.2.1, x.2.2.1.2.2.1, x.2.2.1.2.2.2), (x.2.2.2.1, q3.1, q3.2, x.2.2.2.2.2.2))]) (va_runV (As := [.int j2]) (rest := []) ⟨hx, hb, hml, hown, ha⟩ (k_X11_needs l E a o x j2 q3 hq3 H.size) (cwV 1 ha (gi_V (fun _ h => h) mw2046 mw2048 mw62 mw87 mw2049) rfl rfl rfl hv_X11_needs ⟨(Nat.le_of_ble_eq_true rfl), (Nat.le_of_ble_eq_true rfl)⟩) ⟨pre_blind, va_recv hst.k (fr_P hP [0] rfl) (ci := 13) (q0 := 0) rfl rfl, pre_at hP hD hS hz hzs hst [0] (by decide) rfl rfl⟩ rfl rfl hl.1 rfl (lv_room (Nat.le_of_ble_eq_true rfl)) dX11_signed_34 ⟨(Nat.le_of_ble_eq_true rfl), (Nat.le_of_ble_eq_true rfl)⟩) hP hD hS hA [0] (by decide) rfl rfl rfl rfl (fun H locs hP hD hS => ?_)
      refine lv_aload_n hx hb dX11_signed_37 rfl (lv_at hl 1 rfl) ?_
      refine lv_iconst (v := 1) hx hb dX11_signed_38 (by decide) ?_
      refine lv_iconst (v := 2) hx hb dX11_signed_39 (by decide) ?_
      obtain ⟨q4, hq4, hF⟩ := q_bdi hF
      refine cl_i (Lc := [w_Model E a o ((x.1.1, x.1.2.1, x.1.2.2.1, x.1.2.2.2.1, x.1.2.2.2.2), (x.2.1.1, x.2.1.2.1, x.2.1.2.2.1, x.2.1.2.2.2.1, x.2.1.2.2.2.2), (x.2.2.1.1, x.2.2.1.2.1, x.2.2.1.2.2.1, x.2.2.1.2.2.2), (x.2.2.2.1, q3.1, q3.2, x.2.2.2.2.2.2))]) (Lc' := [w_Model E a o ((x.1.1, x.1.2.1, x.1.2.2.1, x.1.2.2.2.1, x.1.2.2.2.2), (x.2.1.1, x.2.1.2.1, x.2.1.2.2.1, x.2.1.2.2.2.1, x.2.1.2.2.2.2), (x.2.2.1.1, x.2.2.1.2.1, x.2.2.1.2.2.1, x.2.2.1.2.2.2), (x.2.2.2.1, q4.2.1, q4.2.2, x.2.2.2.2.2.2))]) (L' := [w_Model E a o ((x.1.1, x.1.2.1, x.1.2.2.1, x.1.2.2.2.1, x.1.2.2.2.2), (x.2.1.1, x.2.1.2.1, x.2.1.2.2.1, x.2.1.2.2.2.1, x.2.1.2.2.2.2), (x.2.2.1.1, x.2.2.1.2.1, x.2.2.1.2.2.1, x.2.2.1.2.2.2), (x.2.2.2.1, q4.2.1, q4.2.2, x.2.2.2.2.2.2))]) (rv := q4.1) (va_runV (As := [.int 1, .int 2]) (rest := []) ⟨hx, hb, hml, hown, ha⟩ (k_X11_digits l E a o ((x.1.1, x.1.2.1, x.1.2.2.1, x.1.2.2.2.1, x.1.2.2.2.2), (x.2.1.1, x.2.1.2.1, x.2.1.2.2.1, x.2.1.2.2.2.1, x.2.1.2.2.2.2), (x.2.2.1.1, x.2.2.1.2.1, x.2.2.1.2.2.1, x.2.2.1.2.2.2), (x.2.2.2.1, q3.1, q3.2, x.2.2.2.2.2.2)) 1 2 q4 hq4 H.size) (cwV 2 ha (gi_V (fun _ h => h) mw2054 mw2056 mw64 mw87 mw2057) rfl rfl rfl hv_X11_digits ⟨(Nat.le_of_ble_eq_true rfl), (Nat.le_of_ble_eq_true rfl)⟩) ⟨pre_blind, va_recv hst.k (fr_P hP [0] rfl) (ci := 13) (q0 := 0) rfl rfl, pre_at hP hD hS hz hzs hst [0] (by decide) rfl rfl⟩ rfl rfl hl.1 rfl (lv_room (Nat.le_of_ble_eq_true rfl)) dX11_signed_40 ⟨(Nat.le_of_ble_eq_true rfl), (Nat.le_of_ble_eq_true rfl)⟩) hP hD hS hA [0] (by decide) rfl rfl rfl rfl (fun H locs hP hD hS => ?_)
      refine lv_istore_n (lv' := [(2, .int q4.1), (1, .int j1), (0, .ref (a o))]) hx hb dX11_signed_43 rfl hl (by decide) rfl (fun ls hl => ?_)
      refine lv_iload_n hx hb dX11_signed_44 rfl (lv_at hl 1 rfl) ?_
      refine lv_if_eq (tgt := 53) hx hb dX11_signed_45 (by decide) (fun c45 => ?_) (fun c45 => ?_)
      · have hF := q_brp c45 hF
        refine lv_iload_n hx hb dX11_signed_53 rfl (lv_at hl 0 rfl) ?_
        obtain rfl := Option.some.inj hF
        exact en_i hQ (Nat.le_of_ble_eq_true rfl) (Nat.le_of_ble_eq_true rfl) hx hb hr hlocks hP hD hS rfl dX11_signed_54
      · have hF := q_brn c45 hF
        refine lv_iload_n hx hb dX11_signed_48 rfl (lv_at hl 0 rfl) ?_
        refine lv_ineg hx hb dX11_signed_49 ?_
        refine lv_goto (tgt := 54) hx hb dX11_signed_50 (by decide) ?_
        obtain rfl := Option.some.inj hF
        exact en_i hQ (Nat.le_of_ble_eq_true rfl) (Nat.le_of_ble_eq_true rfl) hx hb hr hlocks hP hD hS rfl dX11_signed_54
    refine lv_if_eq (tgt := 32) hx hb dX11_signed_24 (by decide) (fun c24 => ?_) (fun c24 => ?_)
    · have hF := q_brp c24 hF
      refine lv_bipush (v := 43) hx hb dX11_signed_32 (by decide) ?_
      exact jJ34 43 H locs ls hF hP hD hS (lv_sub hl [0, 1] rfl)
    · have hF := q_brn c24 hF
      refine lv_bipush (v := 45) hx hb dX11_signed_27 (by decide) ?_
      refine lv_goto (tgt := 34) hx hb dX11_signed_29 (by decide) ?_
      exact jJ34 45 H locs ls hF hP hD hS (lv_sub hl [0, 1] rfl)
  refine lv_if_ne (tgt := 20) hx hb dX11_signed_4 (by decide) (fun c4 => ?_) (fun c4 => ?_)
  · have hF := q_brn c4 hF
    refine lv_iconst (v := 0) hx hb dX11_signed_20 (by decide) ?_
    exact jJ21 0 H locs ls hF hP hD hS (lv_sub hl [0] rfl)
  · have hF := q_brp c4 hF
    refine lv_aload_n hx hb dX11_signed_7 rfl (lv_at hl 0 rfl) ?_
    obtain ⟨q5, hq5, hF⟩ := q_bdi hF
    refine cl_i (Lc := [w_Model E a o x]) (Lc' := [w_Model E a o x]) (L' := [w_Model E a o x]) (rv := q5) (va_runV (As := []) (rest := []) ⟨hx, hb, hml, hown, ha⟩ (k_X11_here l E a o x q5 hq5 H.size) (cwV 0 ha (gi_V (fun _ h => h) mw2038 mw2040 mw60 mw87 mw2041) rfl rfl rfl hv_X11_here ⟨(Nat.le_of_ble_eq_true rfl), (Nat.le_of_ble_eq_true rfl)⟩) ⟨pre_blind, va_recv hst.k (fr_P hP [0] rfl) (ci := 13) (q0 := 0) rfl rfl, pre_at hP hD hS hz hzs hst [0] (by decide) rfl rfl⟩ rfl rfl hl.1 rfl (lv_room (Nat.le_of_ble_eq_true rfl)) dX11_signed_8 ⟨(Nat.le_of_ble_eq_true rfl), (Nat.le_of_ble_eq_true rfl)⟩) hP hD hS hA [0] (by decide) rfl rfl rfl rfl (fun H locs hP hD hS => ?_)
    refine lv_bipush (v := 45) hx hb dX11_signed_11 (by decide) ?_
    refine lv_icmp_ne (tgt := 20) hx hb dX11_signed_13 (by decide) (fun c13 => ?_) (fun c13 => ?_)
    · have hF := q_brn c13 hF
      refine lv_iconst (v := 0) hx hb dX11_signed_20 (by decide) ?_
      exact jJ21 0 H locs ls hF hP hD hS (lv_sub hl [0] rfl)
    · have hF := q_brp c13 hF
      refine lv_iconst (v := 1) hx hb dX11_signed_16 (by decide) ?_
      refine lv_goto (tgt := 21) hx hb dX11_signed_17 (by decide) ?_
      exact jJ21 1 H locs ls hF hP hD hS (lv_sub hl [0] rfl)
