/-! X11_addBell -/
theorem dX11_addBell_0 : decode cX11_addBell 0 = .ok (.aload_n 0, 1) := by decide +kernel
theorem dX11_addBell_1 : decode cX11_addBell 1 = .ok (.invokevirtual 86, 3) := by decide +kernel
theorem dX11_addBell_4 : decode cX11_addBell 4 = .ok (.aload_n 0, 1) := by decide +kernel
theorem dX11_addBell_5 : decode cX11_addBell 5 = .ok (.aload_n 0, 1) := by decide +kernel
theorem dX11_addBell_6 : decode cX11_addBell 6 = .ok (.iload_n 1, 1) := by decide +kernel
theorem dX11_addBell_7 : decode cX11_addBell 7 = .ok (.iload_n 2, 1) := by decide +kernel
theorem dX11_addBell_8 : decode cX11_addBell 8 = .ok (.invokevirtual 89, 3) := by decide +kernel
theorem dX11_addBell_11 : decode cX11_addBell 11 = .ok (.invokevirtual 93, 3) := by decide +kernel
theorem dX11_addBell_14 : decode cX11_addBell 14 = .ok (.ireturn, 1) := by decide +kernel
def f_X11_addBell (x_g : (Nat → Int32)) (x_before : (Nat → Int32)) (x_history : (Nat → Int32)) (x_changes : Int32) (x_thrown : Int32) (p1 : Int32) (p2 : Int32) : Option (Int32 × (Nat → Int32) × (Nat → Int32) × (Nat → Int32) × Int32 × Int32) :=
  q_bd (f_X11_begin x_g x_before) (fun q1 =>
  q_bd (f_X11_adds x_g x_thrown p1 p2) (fun q2 =>
  q_bd (f_X11_kept q2.2.1 q1 x_history x_changes q2.2.2 q2.1) (fun q3 =>
  some (q3.1, q3.2.1, q1, q3.2.2.1, q3.2.2.2, q2.2.2))))
theorem hv_X11_addBell : yX11_addBell.cls = RX11 ∧ yX11_addBell.cls ≠ "java/lang/invoke/MethodHandle" ∧ yX11_addBell.cls ≠ "java/lang/invoke/VarHandle" ∧ (parseMethodDescriptor yX11_addBell.desc).map (fun d => d.parameters.length) = some 2 := by decide +kernel
abbrev rm_X11_addBell : Room := { frames := 3, cells := 0, slots := 0, locals := 65 }
set_option maxHeartbeats 4000000 in
set_option maxRecDepth 100000 in
theorem k_X11_addBell (l : Launch) (E : ET) (a : Nat → Nat) (o : Nat) (x : Model_t) (p1 : Int32) (p2 : Int32) (res : Int32 × (Nat → Int32) × (Nat → Int32) × (Nat → Int32) × Int32 × Int32) (hF : f_X11_addBell x.1.1 x.1.2.1 x.1.2.2.1 x.1.2.2.2.1 x.2.2.2.1 p1 p2 = some res) (sz : Nat) : CtI l yX11_addBell (mws yX11_addBell cX11_addBell 3 (some .int)) rm_X11_addBell 0 0 [.ref (a o), .int p1, .int p2] E (bl_Model E a o x) res.1 (bl_Model E a o ((res.2.1, res.2.2.1, res.2.2.2.1, res.2.2.2.2.1, x.1.2.2.2.2), (x.2.1.1, x.2.1.2.1, x.2.1.2.2.1, x.2.1.2.2.2.1, x.2.1.2.2.2.2), (x.2.2.1.1, x.2.2.1.2.1, x.2.2.1.2.2.1, x.2.2.1.2.2.2), (res.2.2.2.2.2, x.2.2.2.2.1, x.2.2.2.2.2.1, x.2.2.2.2.2.2))) sz := by
  refine mk_M (by decide +kernel) (Nat.le_of_ble_eq_true rfl) ?_
  intro p e s m below meth c A args Q ls hAe hsz hQ hx hb hr hml hin ha hown hlocks hA hz hzs hst hP hD hS hl
  have hown : s.vm.findClass RX11 = some m.cls := hown
  rw [hAe] at hQ
  subst hsz
  have hP : va_P E.1 vwCl (List.flatten [w_Model E a o x]) s.heap := hP
  have hD : va_D A (List.flatten [w_Model E a o x]) := hD
  have hl : lv_has ls 3 [(0, .ref (a o)), (1, .int p1), (2, .int p2)] := hl
  generalize hHe : s.heap = H at hP
  have hS : va_S A s.heap H [] := by rw [← hHe]; exact hS
  generalize ([] : List Loc) = locs at hS ⊢
  unfold f_X11_addBell at hF
  refine lv_aload_n hx hb dX11_addBell_0 rfl (lv_at hl 0 rfl) ?_
  obtain ⟨q1, hq1, hF⟩ := q_bdi hF
  refine cl_v (Lc := [w_Model E a o x]) (Lc' := [w_Model E a o ((x.1.1, q1, x.1.2.2.1, x.1.2.2.2.1, x.1.2.2.2.2), (x.2.1.1, x.2.1.2.1, x.2.1.2.2.1, x.2.1.2.2.2.1, x.2.1.2.2.2.2), (x.2.2.1.1, x.2.2.1.2.1, x.2.2.1.2.2.1, x.2.2.1.2.2.2), (x.2.2.2.1, x.2.2.2.2.1, x.2.2.2.2.2.1, x.2.2.2.2.2.2))]) (L' := [w_Model E a o ((x.1.1, q1, x.1.2.2.1, x.1.2.2.2.1, x.1.2.2.2.2), (x.2.1.1, x.2.1.2.1, x.2.1.2.2.1, x.2.1.2.2.2.1, x.2.1.2.2.2.2), (x.2.2.1.1, x.2.2.1.2.1, x.2.2.1.2.2.1, x.2.2.1.2.2.2), (x.2.2.2.1, x.2.2.2.2.1, x.2.2.2.2.2.1, x.2.2.2.2.2.2))]) (va_runV (As := []) (rest := []) ⟨hx, hb, hml, hown, ha⟩ (k_X11_begin l E a o x q1 hq1 H.size) (cwV 0 ha (gi_V (fun _ h => h) mw1699 mw1701 mw27 mw87 mw1702) rfl rfl rfl hv_X11_begin ⟨(Nat.le_of_ble_eq_true rfl), (Nat.le_of_ble_eq_true rfl)⟩) ⟨pre_blind, va_recv hst.k (fr_P hP [0] rfl) (ci := 13) (q0 := 0) rfl rfl, pre_at hP hD hS hz hzs hst [0] (by decide) rfl rfl⟩ rfl rfl hl.1 rfl (lv_room (Nat.le_of_ble_eq_true rfl)) dX11_addBell_1 ⟨(Nat.le_of_ble_eq_true rfl), (Nat.le_of_ble_eq_true rfl)⟩) hP hD hS hA [0] (by decide) rfl rfl rfl rfl (fun H locs hP hD hS => ?_)
  refine lv_aload_n hx hb dX11_addBell_4 rfl (lv_at hl 0 rfl) ?_
  refine lv_aload_n hx hb dX11_addBell_5 rfl (lv_at hl 0 rfl) ?_
  refine lv_iload_n hx hb dX11_addBell_6 rfl (lv_at hl 1 rfl) ?_
  refine lv_iload_n hx hb dX11_addBell_7 rfl (lv_at hl 2 rfl) ?_
  obtain ⟨q2, hq2, hF⟩ := q_bdi hF
  refine cl_i (Lc := [w_Model E a o ((x.1.1, q1, x.1.2.2.1, x.1.2.2.2.1, x.1.2.2.2.2), (x.2.1.1, x.2.1.2.1, x.2.1.2.2.1, x.2.1.2.2.2.1, x.2.1.2.2.2.2), (x.2.2.1.1, x.2.2.1.2.1, x.2.2.1.2.2.1, x.2.2.1.2.2.2), (x.2.2.2.1, x.2.2.2.2.1, x.2.2.2.2.2.1, x.2.2.2.2.2.2))]) (Lc' := [w_Model E a o ((q2.2.1, q1, x.1.2.2.1, x.1.2.2.2.1, x.1.2.2.2.2), (x.2.1.1, x.2.1.2.1, x.2.1.2.2.1, x.2.1.2.2.2.1, x.2.1.2.2.2.2), (x.2.2.1.1, x.2.2.1.2.1, x.2.2.1.2.2.1, x.2.2.1.2.2.2), (q2.2.2, x.2.2.2.2.1, x.2.2.2.2.2.1, x.2.2.2.2.2.2))]) (L' := [w_Model E a o ((q2.2.1, q1, x.1.2.2.1, x.1.2.2.2.1, x.1.2.2.2.2), (x.2.1.1, x.2.1.2.1, x.2.1.2.2.1, x.2.1.2.2.2.1, x.2.1.2.2.2.2), (x.2.2.1.1, x.2.2.1.2.1, x.2.2.1.2.2.1, x.2.2.1.2.2.2), (q2.2.2, x.2.2.2.2.1, x.2.2.2.2.2.1, x.2.2.2.2.2.2))]) (rv := q2.1) (va_runV (As := [.int p1, .int p2]) (rest := [.ref (a o)]) ⟨hx, hb, hml, hown, ha⟩ (k_X11_adds l E a o ((x.1.1, q1, x.1.2.2.1, x.1.2.2.2.1, x.1.2.2.2.2), (x.2.1.1, x.2.1.2.1, x.2.1.2.2.1, x.2.1.2.2.2.1, x.2.1.2.2.2.2), (x.2.2.1.1, x.2.2.1.2.1, x.2.2.1.2.2.1, x.2.2.1.2.2.2), (x.2.2.2.1, x.2.2.2.2.1, x.2.2.2.2.2.1, x.2.2.2.2.2.2)) p1 p2 q2 hq2 H.size) (cwV 2 ha (gi_V (fun _ h => h) mw1706 mw1708 mw28 mw87 mw1709) rfl rfl rfl hv_X11_adds ⟨(Nat.le_of_ble_eq_true rfl), (Nat.le_of_ble_eq_true rfl)⟩) ⟨pre_blind, va_recv hst.k (fr_P hP [0] rfl) (ci := 13) (q0 := 0) rfl rfl, pre_at hP hD hS hz hzs hst [0] (by decide) rfl rfl⟩ rfl rfl hl.1 rfl (lv_room (Nat.le_of_ble_eq_true rfl)) dX11_addBell_8 ⟨(Nat.le_of_ble_eq_true rfl), (Nat.le_of_ble_eq_true rfl)⟩) hP hD hS hA [0] (by decide) rfl rfl rfl rfl (fun H locs hP hD hS => ?_)
  obtain ⟨q3, hq3, hF⟩ := q_bdi hF
  refine cl_i (Lc := [w_Model E a o ((q2.2.1, q1, x.1.2.2.1, x.1.2.2.2.1, x.1.2.2.2.2), (x.2.1.1, x.2.1.2.1, x.2.1.2.2.1, x.2.1.2.2.2.1, x.2.1.2.2.2.2), (x.2.2.1.1, x.2.2.1.2.1, x.2.2.1.2.2.1, x.2.2.1.2.2.2), (q2.2.2, x.2.2.2.2.1, x.2.2.2.2.2.1, x.2.2.2.2.2.2))]) (Lc' := [w_Model E a o ((q3.2.1, q1, q3.2.2.1, q3.2.2.2, x.1.2.2.2.2), (x.2.1.1, x.2.1.2.1, x.2.1.2.2.1, x.2.1.2.2.2.1, x.2.1.2.2.2.2), (x.2.2.1.1, x.2.2.1.2.1, x.2.2.1.2.2.1, x.2.2.1.2.2.2), (q2.2.2, x.2.2.2.2.1, x.2.2.2.2.2.1, x.2.2.2.2.2.2))]) (L' := [w_Model E a o ((q3.2.1, q1, q3.2.2.1, q3.2.2.2, x.1.2.2.2.2), (x.2.1.1, x.2.1.2.1, x.2.1.2.2.1, x.2.1.2.2.2.1, x.2.1.2.2.2.2), (x.2.2.1.1, x.2.2.1.2.1, x.2.2.1.2.2.1, x.2.2.1.2.2.2), (q2.2.2, x.2.2.2.2.1, x.2.2.2.2.2.1, x.2.2.2.2.2.2))]) (rv := q3.1) (va_runV (As := [.int q2.1]) (rest := []) ⟨hx, hb, hml, hown, ha⟩ (k_X11_kept l E a o ((q2.2.1, q1, x.1.2.2.1, x.1.2.2.2.1, x.1.2.2.2.2), (x.2.1.1, x.2.1.2.1, x.2.1.2.2.1, x.2.1.2.2.2.1, x.2.1.2.2.2.2), (x.2.2.1.1, x.2.2.1.2.1, x.2.2.1.2.2.1, x.2.2.1.2.2.2), (q2.2.2, x.2.2.2.2.1, x.2.2.2.2.2.1, x.2.2.2.2.2.2)) q2.1 q3 hq3 H.size) (cwV 1 ha (gi_V (fun _ h => h) mw1724 mw1726 mw31 mw87 mw1727) rfl rfl rfl hv_X11_kept ⟨(Nat.le_of_ble_eq_true rfl), (Nat.le_of_ble_eq_true rfl)⟩) ⟨pre_blind, va_recv hst.k (fr_P hP [0] rfl) (ci := 13) (q0 := 0) rfl rfl, pre_at hP hD hS hz hzs hst [0] (by decide) rfl rfl⟩ rfl rfl hl.1 rfl (lv_room (Nat.le_of_ble_eq_true rfl)) dX11_addBell_11 ⟨(Nat.le_of_ble_eq_true rfl), (Nat.le_of_ble_eq_true rfl)⟩) hP hD hS hA [0] (by decide) rfl rfl rfl rfl (fun H locs hP hD hS => ?_)
  obtain rfl := Option.some.inj hF
  exact en_i hQ (Nat.le_of_ble_eq_true rfl) (Nat.le_of_ble_eq_true rfl) hx hb hr hlocks hP hD hS rfl dX11_addBell_14

/-! X11_removeBell -/
theorem dX11_removeBell_0 : decode cX11_removeBell 0 = .ok (.aload_n 0, 1) := by decide +kernel
theorem dX11_removeBell_1 : decode cX11_removeBell 1 = .ok (.invokevirtual 86, 3) := by decide +kernel
theorem dX11_removeBell_4 : decode cX11_removeBell 4 = .ok (.aload_n 0, 1) := by decide +kernel
theorem dX11_removeBell_5 : decode cX11_removeBell 5 = .ok (.aload_n 0, 1) := by decide +kernel
theorem dX11_removeBell_6 : decode cX11_removeBell 6 = .ok (.iload_n 1, 1) := by decide +kernel
theorem dX11_removeBell_7 : decode cX11_removeBell 7 = .ok (.invokevirtual 102, 3) := by decide +kernel
theorem dX11_removeBell_10 : decode cX11_removeBell 10 = .ok (.invokevirtual 93, 3) := by decide +kernel
theorem dX11_removeBell_13 : decode cX11_removeBell 13 = .ok (.ireturn, 1) := by decide +kernel
def f_X11_removeBell (x_g : (Nat → Int32)) (x_before : (Nat → Int32)) (x_history : (Nat → Int32)) (x_changes : Int32) (x_thrown : Int32) (p1 : Int32) : Option (Int32 × (Nat → Int32) × (Nat → Int32) × (Nat → Int32) × Int32 × Int32) :=
  q_bd (f_X11_begin x_g x_before) (fun q1 =>
  q_bd (f_X11_removes x_g x_thrown p1) (fun q2 =>
  q_bd (f_X11_kept q2.2.1 q1 x_history x_changes q2.2.2 q2.1) (fun q3 =>
  some (q3.1, q3.2.1, q1, q3.2.2.1, q3.2.2.2, q2.2.2))))
theorem hv_X11_removeBell : yX11_removeBell.cls = RX11 ∧ yX11_removeBell.cls ≠ "java/lang/invoke/MethodHandle" ∧ yX11_removeBell.cls ≠ "java/lang/invoke/VarHandle" ∧ (parseMethodDescriptor yX11_removeBell.desc).map (fun d => d.parameters.length) = some 1 := by decide +kernel
abbrev rm_X11_removeBell : Room := { frames := 3, cells := 0, slots := 0, locals := 66 }
set_option maxHeartbeats 4000000 in
set_option maxRecDepth 100000 in
theorem k_X11_removeBell (l : Launch) (E : ET) (a : Nat → Nat) (o : Nat) (x : Model_t) (p1 : Int32) (res : Int32 × (Nat → Int32) × (Nat → Int32) × (Nat → Int32) × Int32 × Int32) (hF : f_X11_removeBell x.1.1 x.1.2.1 x.1.2.2.1 x.1.2.2.2.1 x.2.2.2.1 p1 = some res) (sz : Nat) : CtI l yX11_removeBell (mws yX11_removeBell cX11_removeBell 2 (some .int)) rm_X11_removeBell 0 0 [.ref (a o), .int p1] E (bl_Model E a o x) res.1 (bl_Model E a o ((res.2.1, res.2.2.1, res.2.2.2.1, res.2.2.2.2.1, x.1.2.2.2.2), (x.2.1.1, x.2.1.2.1, x.2.1.2.2.1, x.2.1.2.2.2.1, x.2.1.2.2.2.2), (x.2.2.1.1, x.2.2.1.2.1, x.2.2.1.2.2.1, x.2.2.1.2.2.2), (res.2.2.2.2.2, x.2.2.2.2.1, x.2.2.2.2.2.1, x.2.2.2.2.2.2))) sz := by
  refine mk_M (by decide +kernel) (Nat.le_of_ble_eq_true rfl) ?_
  intro p e s m below meth c A args Q ls hAe hsz hQ hx hb hr hml hin ha hown hlocks hA hz hzs hst hP hD hS hl
  have hown : s.vm.findClass RX11 = some m.cls := hown
  rw [hAe] at hQ
  subst hsz
  have hP : va_P E.1 vwCl (List.flatten [w_Model E a o x]) s.heap := hP
  have hD : va_D A (List.flatten [w_Model E a o x]) := hD
  have hl : lv_has ls 2 [(0, .ref (a o)), (1, .int p1)] := hl
  generalize hHe : s.heap = H at hP
  have hS : va_S A s.heap H [] := by rw [← hHe]; exact hS
  generalize ([] : List Loc) = locs at hS ⊢
  unfold f_X11_removeBell at hF
  refine lv_aload_n hx hb dX11_removeBell_0 rfl (lv_at hl 0 rfl) ?_
  obtain ⟨q1, hq1, hF⟩ := q_bdi hF
  refine cl_v (Lc := [w_Model E a o x]) (Lc' := [w_Model E a o ((x.1.1, q1, x.1.2.2.1, x.1.2.2.2.1, x.1.2.2.2.2), (x.2.1.1, x.2.1.2.1, x.2.1.2.2.1, x.2.1.2.2.2.1, x.2.1.2.2.2.2), (x.2.2.1.1, x.2.2.1.2.1, x.2.2.1.2.2.1, x.2.2.1.2.2.2), (x.2.2.2.1, x.2.2.2.2.1, x.2.2.2.2.2.1, x.2.2.2.2.2.2))]) (L' := [w_Model E a o ((x.1.1, q1, x.1.2.2.1, x.1.2.2.2.1, x.1.2.2.2.2), (x.2.1.1, x.2.1.2.1, x.2.1.2.2.1, x.2.1.2.2.2.1, x.2.1.2.2.2.2), (x.2.2.1.1, x.2.2.1.2.1, x.2.2.1.2.2.1, x.2.2.1.2.2.2), (x.2.2.2.1, x.2.2.2.2.1, x.2.2.2.2.2.1, x.2.2.2.2.2.2))]) (va_runV (As := []) (rest := []) ⟨hx, hb, hml, hown, ha⟩ (k_X11_begin l E a o x q1 hq1 H.size) (cwV 0 ha (gi_V (fun _ h => h) mw1699 mw1701 mw27 mw87 mw1702) rfl rfl rfl hv_X11_begin ⟨(Nat.le_of_ble_eq_true rfl), (Nat.le_of_ble_eq_true rfl)⟩) ⟨pre_blind, va_recv hst.k (fr_P hP [0] rfl) (ci := 13) (q0 := 0) rfl rfl, pre_at hP hD hS hz hzs hst [0] (by decide) rfl rfl⟩ rfl rfl hl.1 rfl (lv_room (Nat.le_of_ble_eq_true rfl)) dX11_removeBell_1 ⟨(Nat.le_of_ble_eq_true rfl), (Nat.le_of_ble_eq_true rfl)⟩) hP hD hS hA [0] (by decide) rfl rfl rfl rfl (fun H locs hP hD hS => ?_)
  refine lv_aload_n hx hb dX11_removeBell_4 rfl (lv_at hl 0 rfl) ?_
  refine lv_aload_n hx hb dX11_removeBell_5 rfl (lv_at hl 0 rfl) ?_
  refine lv_iload_n hx hb dX11_removeBell_6 rfl (lv_at hl 1 rfl) ?_
  obtain ⟨q2, hq2, hF⟩ := q_bdi hF
  refine cl_i (Lc := [w_Model E a o ((x.1.1, q1, x.1.2.2.1, x.1.2.2.2.1, x.1.2.2.2.2), (x.2.1.1, x.2.1.2.1, x.2.1.2.2.1, x.2.1.2.2.2.1, x.2.1.2.2.2.2), (x.2.2.1.1, x.2.2.1.2.1, x.2.2.1.2.2.1, x.2.2.1.2.2.2), (x.2.2.2.1, x.2.2.2.2.1, x.2.2.2.2.2.1, x.2.2.2.2.2.2))]) (Lc' := [w_Model E a o ((q2.2.1, q1, x.1.2.2.1, x.1.2.2.2.1, x.1.2.2.2.2), (x.2.1.1, x.2.1.2.1, x.2.1.2.2.1, x.2.1.2.2.2.1, x.2.1.2.2.2.2), (x.2.2.1.1, x.2.2.1.2.1, x.2.2.1.2.2.1, x.2.2.1.2.2.2), (q2.2.2, x.2.2.2.2.1, x.2.2.2.2.2.1, x.2.2.2.2.2.2))]) (L' := [w_Model E a o ((q2.2.1, q1, x.1.2.2.1, x.1.2.2.2.1, x.1.2.2.2.2), (x.2.1.1, x.2.1.2.1, x.2.1.2.2.1, x.2.1.2.2.2.1, x.2.1.2.2.2.2), (x.2.2.1.1, x.2.2.1.2.1, x.2.2.1.2.2.1, x.2.2.1.2.2.2), (q2.2.2, x.2.2.2.2.1, x.2.2.2.2.2.1, x.2.2.2.2.2.2))]) (rv := q2.1) (va_runV (As := [.int p1]) (rest := [.ref (a o)]) ⟨hx, hb, hml, hown, ha⟩ (k_X11_removes l E a o ((x.1.1, q1, x.1.2.2.1, x.1.2.2.2.1, x.1.2.2.2.2), (x.2.1.1, x.2.1.2.1, x.2.1.2.2.1, x.2.1.2.2.2.1, x.2.1.2.2.2.2), (x.2.2.1.1, x.2.2.1.2.1, x.2.2.1.2.2.1, x.2.2.1.2.2.2), (x.2.2.2.1, x.2.2.2.2.1, x.2.2.2.2.2.1, x.2.2.2.2.2.2)) p1 q2 hq2 H.size) (cwV 1 ha (gi_V (fun _ h => h) mw1732 mw1734 mw32 mw87 mw1735) rfl rfl rfl hv_X11_removes ⟨(Nat.le_of_ble_eq_true rfl), (Nat.le_of_ble_eq_true rfl)⟩) ⟨pre_blind, va_recv hst.k (fr_P hP [0] rfl) (ci := 13) (q0 := 0) rfl rfl, pre_at hP hD hS hz hzs hst [0] (by decide) rfl rfl⟩ rfl rfl hl.1 rfl (lv_room (Nat.le_of_ble_eq_true rfl)) dX11_removeBell_7 ⟨(Nat.le_of_ble_eq_true rfl), (Nat.le_of_ble_eq_true rfl)⟩) hP hD hS hA [0] (by decide) rfl rfl rfl rfl (fun H locs hP hD hS => ?_)
  obtain ⟨q3, hq3, hF⟩ := q_bdi hF
  refine cl_i (Lc := [w_Model E a o ((q2.2.1, q1, x.1.2.2.1, x.1.2.2.2.1, x.1.2.2.2.2), (x.2.1.1, x.2.1.2.1, x.2.1.2.2.1, x.2.1.2.2.2.1, x.2.1.2.2.2.2), (x.2.2.1.1, x.2.2.1.2.1, x.2.2.1.2.2.1, x.2.2.1.2.2.2), (q2.2.2, x.2.2.2.2.1, x.2.2.2.2.2.1, x.2.2.2.2.2.2))]) (Lc' := [w_Model E a o ((q3.2.1, q1, q3.2.2.1, q3.2.2.2, x.1.2.2.2.2), (x.2.1.1, x.2.1.2.1, x.2.1.2.2.1, x.2.1.2.2.2.1, x.2.1.2.2.2.2), (x.2.2.1.1, x.2.2.1.2.1, x.2.2.1.2.2.1, x.2.2.1.2.2.2), (q2.2.2, x.2.2.2.2.1, x.2.2.2.2.2.1, x.2.2.2.2.2.2))]) (L' := [w_Model E a o ((q3.2.1, q1, q3.2.2.1, q3.2.2.2, x.1.2.2.2.2), (x.2.1.1, x.2.1.2.1, x.2.1.2.2.1, x.2.1.2.2.2.1, x.2.1.2.2.2.2), (x.2.2.1.1, x.2.2.1.2.1, x.2.2.1.2.2.1, x.2.2.1.2.2.2), (q2.2.2, x.2.2.2.2.1, x.2.2.2.2.2.1, x.2.2.2.2.2.2))]) (rv := q3.1) (va_runV (As := [.int q2.1]) (rest := []) ⟨hx, hb, hml, hown, ha⟩ (k_X11_kept l E a o ((q2.2.1, q1, x.1.2.2.1, x.1.2.2.2.1, x.1.2.2.2.2), (x.2.1.1, x.2.1.2.1, x.2.1.2.2.1, x.2.1.2.2.2.1, x.2.1.2.2.2.2), (x.2.2.1.1, x.2.2.1.2.1, x.2.2.1.2.2.1, x.2.2.1.2.2.2), (q2.2.2, x.2.2.2.2.1, x.2.2.2.2.2.1, x.2.2.2.2.2.2)) q2.1 q3 hq3 H.size) (cwV 1 ha (gi_V (fun _ h => h) mw1724 mw1726 mw31 mw87 mw1727) rfl rfl rfl hv_X11_kept ⟨(Nat.le_of_ble_eq_true rfl), (Nat.le_of_ble_eq_true rfl)⟩) ⟨pre_blind, va_recv hst.k (fr_P hP [0] rfl) (ci := 13) (q0 := 0) rfl rfl, pre_at hP hD hS hz hzs hst [0] (by decide) rfl rfl⟩ rfl rfl hl.1 rfl (lv_room (Nat.le_of_ble_eq_true rfl)) dX11_removeBell_10 ⟨(Nat.le_of_ble_eq_true rfl), (Nat.le_of_ble_eq_true rfl)⟩) hP hD hS hA [0] (by decide) rfl rfl rfl rfl (fun H locs hP hD hS => ?_)
  obtain rfl := Option.some.inj hF
  exact en_i hQ (Nat.le_of_ble_eq_true rfl) (Nat.le_of_ble_eq_true rfl) hx hb hr hlocks hP hD hS rfl dX11_removeBell_13

/-! X11_tune -/
theorem dX11_tune_0 : decode cX11_tune 0 = .ok (.aload_n 0, 1) := by decide +kernel
theorem dX11_tune_1 : decode cX11_tune 1 = .ok (.invokevirtual 86, 3) := by decide +kernel
theorem dX11_tune_4 : decode cX11_tune 4 = .ok (.aload_n 0, 1) := by decide +kernel
theorem dX11_tune_5 : decode cX11_tune 5 = .ok (.aload_n 0, 1) := by decide +kernel
theorem dX11_tune_6 : decode cX11_tune 6 = .ok (.iload_n 1, 1) := by decide +kernel
theorem dX11_tune_7 : decode cX11_tune 7 = .ok (.iload_n 2, 1) := by decide +kernel
theorem dX11_tune_8 : decode cX11_tune 8 = .ok (.invokevirtual 105, 3) := by decide +kernel
theorem dX11_tune_11 : decode cX11_tune 11 = .ok (.invokevirtual 93, 3) := by decide +kernel
theorem dX11_tune_14 : decode cX11_tune 14 = .ok (.ireturn, 1) := by decide +kernel
def f_X11_tune (x_g : (Nat → Int32)) (x_before : (Nat → Int32)) (x_history : (Nat → Int32)) (x_changes : Int32) (x_thrown : Int32) (p1 : Int32) (p2 : Int32) : Option (Int32 × (Nat → Int32) × (Nat → Int32) × (Nat → Int32) × Int32 × Int32) :=
  q_bd (f_X11_begin x_g x_before) (fun q1 =>
  q_bd (f_X11_tunes x_g x_thrown p1 p2) (fun q2 =>
  q_bd (f_X11_kept q2.2.1 q1 x_history x_changes q2.2.2 q2.1) (fun q3 =>
  some (q3.1, q3.2.1, q1, q3.2.2.1, q3.2.2.2, q2.2.2))))
theorem hv_X11_tune : yX11_tune.cls = RX11 ∧ yX11_tune.cls ≠ "java/lang/invoke/MethodHandle" ∧ yX11_tune.cls ≠ "java/lang/invoke/VarHandle" ∧ (parseMethodDescriptor yX11_tune.desc).map (fun d => d.parameters.length) = some 2 := by decide +kernel
abbrev rm_X11_tune : Room := { frames := 3, cells := 0, slots := 0, locals := 66 }
set_option maxHeartbeats 4000000 in
set_option maxRecDepth 100000 in
theorem k_X11_tune (l : Launch) (E : ET) (a : Nat → Nat) (o : Nat) (x : Model_t) (p1 : Int32) (p2 : Int32) (res : Int32 × (Nat → Int32) × (Nat → Int32) × (Nat → Int32) × Int32 × Int32) (hF : f_X11_tune x.1.1 x.1.2.1 x.1.2.2.1 x.1.2.2.2.1 x.2.2.2.1 p1 p2 = some res) (sz : Nat) : CtI l yX11_tune (mws yX11_tune cX11_tune 3 (some .int)) rm_X11_tune 0 0 [.ref (a o), .int p1, .int p2] E (bl_Model E a o x) res.1 (bl_Model E a o ((res.2.1, res.2.2.1, res.2.2.2.1, res.2.2.2.2.1, x.1.2.2.2.2), (x.2.1.1, x.2.1.2.1, x.2.1.2.2.1, x.2.1.2.2.2.1, x.2.1.2.2.2.2), (x.2.2.1.1, x.2.2.1.2.1, x.2.2.1.2.2.1, x.2.2.1.2.2.2), (res.2.2.2.2.2, x.2.2.2.2.1, x.2.2.2.2.2.1, x.2.2.2.2.2.2))) sz := by
  refine mk_M (by decide +kernel) (Nat.le_of_ble_eq_true rfl) ?_
  intro p e s m below meth c A args Q ls hAe hsz hQ hx hb hr hml hin ha hown hlocks hA hz hzs hst hP hD hS hl
  have hown : s.vm.findClass RX11 = some m.cls := hown
  rw [hAe] at hQ
  subst hsz
  have hP : va_P E.1 vwCl (List.flatten [w_Model E a o x]) s.heap := hP
  have hD : va_D A (List.flatten [w_Model E a o x]) := hD
  have hl : lv_has ls 3 [(0, .ref (a o)), (1, .int p1), (2, .int p2)] := hl
  generalize hHe : s.heap = H at hP
  have hS : va_S A s.heap H [] := by rw [← hHe]; exact hS
  generalize ([] : List Loc) = locs at hS ⊢
  unfold f_X11_tune at hF
  refine lv_aload_n hx hb dX11_tune_0 rfl (lv_at hl 0 rfl) ?_
  obtain ⟨q1, hq1, hF⟩ := q_bdi hF
  refine cl_v (Lc := [w_Model E a o x]) (Lc' := [w_Model E a o ((x.1.1, q1, x.1.2.2.1, x.1.2.2.2.1, x.1.2.2.2.2), (x.2.1.1, x.2.1.2.1, x.2.1.2.2.1, x.2.1.2.2.2.1, x.2.1.2.2.2.2), (x.2.2.1.1, x.2.2.1.2.1, x.2.2.1.2.2.1, x.2.2.1.2.2.2), (x.2.2.2.1, x.2.2.2.2.1, x.2.2.2.2.2.1, x.2.2.2.2.2.2))]) (L' := [w_Model E a o ((x.1.1, q1, x.1.2.2.1, x.1.2.2.2.1, x.1.2.2.2.2), (x.2.1.1, x.2.1.2.1, x.2.1.2.2.1, x.2.1.2.2.2.1, x.2.1.2.2.2.2), (x.2.2.1.1, x.2.2.1.2.1, x.2.2.1.2.2.1, x.2.2.1.2.2.2), (x.2.2.2.1, x.2.2.2.2.1, x.2.2.2.2.2.1, x.2.2.2.2.2.2))]) (va_runV (As := []) (rest := []) ⟨hx, hb, hml, hown, ha⟩ (k_X11_begin l E a o x q1 hq1 H.size) (cwV 0 ha (gi_V (fun _ h => h) mw1699 mw1701 mw27 mw87 mw1702) rfl rfl rfl hv_X11_begin ⟨(Nat.le_of_ble_eq_true rfl), (Nat.le_of_ble_eq_true rfl)⟩) ⟨pre_blind, va_recv hst.k (fr_P hP [0] rfl) (ci := 13) (q0 := 0) rfl rfl, pre_at hP hD hS hz hzs hst [0] (by decide) rfl rfl⟩ rfl rfl hl.1 rfl (lv_room (Nat.le_of_ble_eq_true rfl)) dX11_tune_1 ⟨(Nat.le_of_ble_eq_true rfl), (Nat.le_of_ble_eq_true rfl)⟩) hP hD hS hA [0] (by decide) rfl rfl rfl rfl (fun H locs hP hD hS => ?_)
  refine lv_aload_n hx hb dX11_tune_4 rfl (lv_at hl 0 rfl) ?_
  refine lv_aload_n hx hb dX11_tune_5 rfl (lv_at hl 0 rfl) ?_
  refine lv_iload_n hx hb dX11_tune_6 rfl (lv_at hl 1 rfl) ?_
  refine lv_iload_n hx hb dX11_tune_7 rfl (lv_at hl 2 rfl) ?_
  obtain ⟨q2, hq2, hF⟩ := q_bdi hF
  refine cl_i (Lc := [w_Model E a o ((x.1.1, q1, x.1.2.2.1, x.1.2.2.2.1, x.1.2.2.2.2), (x.2.1.1, x.2.1.2.1, x.2.1.2.2.1, x.2.1.2.2.2.1, x.2.1.2.2.2.2), (x.2.2.1.1, x.2.2.1.2.1, x.2.2.1.2.2.1, x.2.2.1.2.2.2), (x.2.2.2.1, x.2.2.2.2.1, x.2.2.2.2.2.1, x.2.2.2.2.2.2))]) (Lc' := [w_Model E a o ((q2.2.1, q1, x.1.2.2.1, x.1.2.2.2.1, x.1.2.2.2.2), (x.2.1.1, x.2.1.2.1, x.2.1.2.2.1, x.2.1.2.2.2.1, x.2.1.2.2.2.2), (x.2.2.1.1, x.2.2.1.2.1, x.2.2.1.2.2.1, x.2.2.1.2.2.2), (q2.2.2, x.2.2.2.2.1, x.2.2.2.2.2.1, x.2.2.2.2.2.2))]) (L' := [w_Model E a o ((q2.2.1, q1, x.1.2.2.1, x.1.2.2.2.1, x.1.2.2.2.2), (x.2.1.1, x.2.1.2.1, x.2.1.2.2.1, x.2.1.2.2.2.1, x.2.1.2.2.2.2), (x.2.2.1.1, x.2.2.1.2.1, x.2.2.1.2.2.1, x.2.2.1.2.2.2), (q2.2.2, x.2.2.2.2.1, x.2.2.2.2.2.1, x.2.2.2.2.2.2))]) (rv := q2.1) (va_runV (As := [.int p1, .int p2]) (rest := [.ref (a o)]) ⟨hx, hb, hml, hown, ha⟩ (k_X11_tunes l E a o ((x.1.1, q1, x.1.2.2.1, x.1.2.2.2.1, x.1.2.2.2.2), (x.2.1.1, x.2.1.2.1, x.2.1.2.2.1, x.2.1.2.2.2.1, x.2.1.2.2.2.2), (x.2.2.1.1, x.2.2.1.2.1, x.2.2.1.2.2.1, x.2.2.1.2.2.2), (x.2.2.2.1, x.2.2.2.2.1, x.2.2.2.2.2.1, x.2.2.2.2.2.2)) p1 p2 q2 hq2 H.size) (cwV 2 ha (gi_V (fun _ h => h) mw1748 mw1750 mw35 mw87 mw1751) rfl rfl rfl hv_X11_tunes ⟨(Nat.le_of_ble_eq_true rfl), (Nat.le_of_ble_eq_true rfl)⟩) ⟨pre_blind, va_recv hst.k (fr_P hP [0] rfl) (ci := 13) (q0 := 0) rfl rfl, pre_at hP hD hS hz hzs hst [0] (by decide) rfl rfl⟩ rfl rfl hl.1 rfl (lv_room (Nat.le_of_ble_eq_true rfl)) dX11_tune_8 ⟨(Nat.le_of_ble_eq_true rfl), (Nat.le_of_ble_eq_true rfl)⟩) hP hD hS hA [0] (by decide) rfl rfl rfl rfl (fun H locs hP hD hS => ?_)
  obtain ⟨q3, hq3, hF⟩ := q_bdi hF
  refine cl_i (Lc := [w_Model E a o ((q2.2.1, q1, x.1.2.2.1, x.1.2.2.2.1, x.1.2.2.2.2), (x.2.1.1, x.2.1.2.1, x.2.1.2.2.1, x.2.1.2.2.2.1, x.2.1.2.2.2.2), (x.2.2.1.1, x.2.2.1.2.1, x.2.2.1.2.2.1, x.2.2.1.2.2.2), (q2.2.2, x.2.2.2.2.1, x.2.2.2.2.2.1, x.2.2.2.2.2.2))]) (Lc' := [w_Model E a o ((q3.2.1, q1, q3.2.2.1, q3.2.2.2, x.1.2.2.2.2), (x.2.1.1, x.2.1.2.1, x.2.1.2.2.1, x.2.1.2.2.2.1, x.2.1.2.2.2.2), (x.2.2.1.1, x.2.2.1.2.1, x.2.2.1.2.2.1, x.2.2.1.2.2.2), (q2.2.2, x.2.2.2.2.1, x.2.2.2.2.2.1, x.2.2.2.2.2.2))]) (L' := [w_Model E a o ((q3.2.1, q1, q3.2.2.1, q3.2.2.2, x.1.2.2.2.2), (x.2.1.1, x.2.1.2.1, x.2.1.2.2.1, x.2.1.2.2.2.1, x.2.1.2.2.2.2), (x.2.2.1.1, x.2.2.1.2.1, x.2.2.1.2.2.1, x.2.2.1.2.2.2), (q2.2.2, x.2.2.2.2.1, x.2.2.2.2.2.1, x.2.2.2.2.2.2))]) (rv := q3.1) (va_runV (As := [.int q2.1]) (rest := []) ⟨hx, hb, hml, hown, ha⟩ (k_X11_kept l E a o ((q2.2.1, q1, x.1.2.2.1, x.1.2.2.2.1, x.1.2.2.2.2), (x.2.1.1, x.2.1.2.1, x.2.1.2.2.1, x.2.1.2.2.2.1, x.2.1.2.2.2.2), (x.2.2.1.1, x.2.2.1.2.1, x.2.2.1.2.2.1, x.2.2.1.2.2.2), (q2.2.2, x.2.2.2.2.1, x.2.2.2.2.2.1, x.2.2.2.2.2.2)) q2.1 q3 hq3 H.size) (cwV 1 ha (gi_V (fun _ h => h) mw1724 mw1726 mw31 mw87 mw1727) rfl rfl rfl hv_X11_kept ⟨(Nat.le_of_ble_eq_true rfl), (Nat.le_of_ble_eq_true rfl)⟩) ⟨pre_blind, va_recv hst.k (fr_P hP [0] rfl) (ci := 13) (q0 := 0) rfl rfl, pre_at hP hD hS hz hzs hst [0] (by decide) rfl rfl⟩ rfl rfl hl.1 rfl (lv_room (Nat.le_of_ble_eq_true rfl)) dX11_tune_11 ⟨(Nat.le_of_ble_eq_true rfl), (Nat.le_of_ble_eq_true rfl)⟩) hP hD hS hA [0] (by decide) rfl rfl rfl rfl (fun H locs hP hD hS => ?_)
  obtain rfl := Option.some.inj hF
  exact en_i hQ (Nat.le_of_ble_eq_true rfl) (Nat.le_of_ble_eq_true rfl) hx hb hr hlocks hP hD hS rfl dX11_tune_14

/-! X11_moveBell -/
theorem dX11_moveBell_0 : decode cX11_moveBell 0 = .ok (.aload_n 0, 1) := by decide +kernel
theorem dX11_moveBell_1 : decode cX11_moveBell 1 = .ok (.invokevirtual 86, 3) := by decide +kernel
theorem dX11_moveBell_4 : decode cX11_moveBell 4 = .ok (.aload_n 0, 1) := by decide +kernel
theorem dX11_moveBell_5 : decode cX11_moveBell 5 = .ok (.aload_n 0, 1) := by decide +kernel
theorem dX11_moveBell_6 : decode cX11_moveBell 6 = .ok (.iload_n 1, 1) := by decide +kernel
theorem dX11_moveBell_7 : decode cX11_moveBell 7 = .ok (.iload_n 2, 1) := by decide +kernel
theorem dX11_moveBell_8 : decode cX11_moveBell 8 = .ok (.invokevirtual 108, 3) := by decide +kernel
theorem dX11_moveBell_11 : decode cX11_moveBell 11 = .ok (.invokevirtual 93, 3) := by decide +kernel
theorem dX11_moveBell_14 : decode cX11_moveBell 14 = .ok (.ireturn, 1) := by decide +kernel
def f_X11_moveBell (x_g : (Nat → Int32)) (x_before : (Nat → Int32)) (x_history : (Nat → Int32)) (x_changes : Int32) (x_thrown : Int32) (p1 : Int32) (p2 : Int32) : Option (Int32 × (Nat → Int32) × (Nat → Int32) × (Nat → Int32) × Int32 × Int32) :=
  q_bd (f_X11_begin x_g x_before) (fun q1 =>
  q_bd (f_X11_moves x_g x_thrown p1 p2) (fun q2 =>
  q_bd (f_X11_kept q2.2.1 q1 x_history x_changes q2.2.2 q2.1) (fun q3 =>
  some (q3.1, q3.2.1, q1, q3.2.2.1, q3.2.2.2, q2.2.2))))
theorem hv_X11_moveBell : yX11_moveBell.cls = RX11 ∧ yX11_moveBell.cls ≠ "java/lang/invoke/MethodHandle" ∧ yX11_moveBell.cls ≠ "java/lang/invoke/VarHandle" ∧ (parseMethodDescriptor yX11_moveBell.desc).map (fun d => d.parameters.length) = some 2 := by decide +kernel
abbrev rm_X11_moveBell : Room := { frames := 3, cells := 0, slots := 0, locals := 66 }
set_option maxHeartbeats 4000000 in
set_option maxRecDepth 100000 in
theorem k_X11_moveBell (l : Launch) (E : ET) (a : Nat → Nat) (o : Nat) (x : Model_t) (p1 : Int32) (p2 : Int32) (res : Int32 × (Nat → Int32) × (Nat → Int32) × (Nat → Int32) × Int32 × Int32) (hF : f_X11_moveBell x.1.1 x.1.2.1 x.1.2.2.1 x.1.2.2.2.1 x.2.2.2.1 p1 p2 = some res) (sz : Nat) : CtI l yX11_moveBell (mws yX11_moveBell cX11_moveBell 3 (some .int)) rm_X11_moveBell 0 0 [.ref (a o), .int p1, .int p2] E (bl_Model E a o x) res.1 (bl_Model E a o ((res.2.1, res.2.2.1, res.2.2.2.1, res.2.2.2.2.1, x.1.2.2.2.2), (x.2.1.1, x.2.1.2.1, x.2.1.2.2.1, x.2.1.2.2.2.1, x.2.1.2.2.2.2), (x.2.2.1.1, x.2.2.1.2.1, x.2.2.1.2.2.1, x.2.2.1.2.2.2), (res.2.2.2.2.2, x.2.2.2.2.1, x.2.2.2.2.2.1, x.2.2.2.2.2.2))) sz := by
  refine mk_M (by decide +kernel) (Nat.le_of_ble_eq_true rfl) ?_
  intro p e s m below meth c A args Q ls hAe hsz hQ hx hb hr hml hin ha hown hlocks hA hz hzs hst hP hD hS hl
  have hown : s.vm.findClass RX11 = some m.cls := hown
  rw [hAe] at hQ
  subst hsz
  have hP : va_P E.1 vwCl (List.flatten [w_Model E a o x]) s.heap := hP
  have hD : va_D A (List.flatten [w_Model E a o x]) := hD
  have hl : lv_has ls 3 [(0, .ref (a o)), (1, .int p1), (2, .int p2)] := hl
  generalize hHe : s.heap = H at hP
  have hS : va_S A s.heap H [] := by rw [← hHe]; exact hS
  generalize ([] : List Loc) = locs at hS ⊢
  unfold f_X11_moveBell at hF
  refine lv_aload_n hx hb dX11_moveBell_0 rfl (lv_at hl 0 rfl) ?_
  obtain ⟨q1, hq1, hF⟩ := q_bdi hF
  refine cl_v (Lc := [w_Model E a o x]) (Lc' := [w_Model E a o ((x.1.1, q1, x.1.2.2.1, x.1.2.2.2.1, x.1.2.2.2.2), (x.2.1.1, x.2.1.2.1, x.2.1.2.2.1, x.2.1.2.2.2.1, x.2.1.2.2.2.2), (x.2.2.1.1, x.2.2.1.2.1, x.2.2.1.2.2.1, x.2.2.1.2.2.2), (x.2.2.2.1, x.2.2.2.2.1, x.2.2.2.2.2.1, x.2.2.2.2.2.2))]) (L' := [w_Model E a o ((x.1.1, q1, x.1.2.2.1, x.1.2.2.2.1, x.1.2.2.2.2), (x.2.1.1, x.2.1.2.1, x.2.1.2.2.1, x.2.1.2.2.2.1, x.2.1.2.2.2.2), (x.2.2.1.1, x.2.2.1.2.1, x.2.2.1.2.2.1, x.2.2.1.2.2.2), (x.2.2.2.1, x.2.2.2.2.1, x.2.2.2.2.2.1, x.2.2.2.2.2.2))]) (va_runV (As := []) (rest := []) ⟨hx, hb, hml, hown, ha⟩ (k_X11_begin l E a o x q1 hq1 H.size) (cwV 0 ha (gi_V (fun _ h => h) mw1699 mw1701 mw27 mw87 mw1702) rfl rfl rfl hv_X11_begin ⟨(Nat.le_of_ble_eq_true rfl), (Nat.le_of_ble_eq_true rfl)⟩) ⟨pre_blind, va_recv hst.k (fr_P hP [0] rfl) (ci := 13) (q0 := 0) rfl rfl, pre_at hP hD hS hz hzs hst [0] (by decide) rfl rfl⟩ rfl rfl hl.1 rfl (lv_room (Nat.le_of_ble_eq_true rfl)) dX11_moveBell_1 ⟨(Nat.le_of_ble_eq_true rfl), (Nat.le_of_ble_eq_true rfl)⟩) hP hD hS hA [0] (by decide) rfl rfl rfl rfl (fun H locs hP hD hS => ?_)
  refine lv_aload_n hx hb dX11_moveBell_4 rfl (lv_at hl 0 rfl) ?_
  refine lv_aload_n hx hb dX11_moveBell_5 rfl (lv_at hl 0 rfl) ?_
  refine lv_iload_n hx hb dX11_moveBell_6 rfl (lv_at hl 1 rfl) ?_
  refine lv_iload_n hx hb dX11_moveBell_7 rfl (lv_at hl 2 rfl) ?_
  obtain ⟨q2, hq2, hF⟩ := q_bdi hF
  refine cl_i (Lc := [w_Model E a o ((x.1.1, q1, x.1.2.2.1, x.1.2.2.2.1, x.1.2.2.2.2), (x.2.1.1, x.2.1.2.1, x.2.1.2.2.1, x.2.1.2.2.2.1, x.2.1.2.2.2.2), (x.2.2.1.1, x.2.2.1.2.1, x.2.2.1.2.2.1, x.2.2.1.2.2.2), (x.2.2.2.1, x.2.2.2.2.1, x.2.2.2.2.2.1, x.2.2.2.2.2.2))]) (Lc' := [w_Model E a o ((q2.2.1, q1, x.1.2.2.1, x.1.2.2.2.1, x.1.2.2.2.2), (x.2.1.1, x.2.1.2.1, x.2.1.2.2.1, x.2.1.2.2.2.1, x.2.1.2.2.2.2), (x.2.2.1.1, x.2.2.1.2.1, x.2.2.1.2.2.1, x.2.2.1.2.2.2), (q2.2.2, x.2.2.2.2.1, x.2.2.2.2.2.1, x.2.2.2.2.2.2))]) (L' := [w_Model E a o ((q2.2.1, q1, x.1.2.2.1, x.1.2.2.2.1, x.1.2.2.2.2), (x.2.1.1, x.2.1.2.1, x.2.1.2.2.1, x.2.1.2.2.2.1, x.2.1.2.2.2.2), (x.2.2.1.1, x.2.2.1.2.1, x.2.2.1.2.2.1, x.2.2.1.2.2.2), (q2.2.2, x.2.2.2.2.1, x.2.2.2.2.2.1, x.2.2.2.2.2.2))]) (rv := q2.1) (va_runV (As := [.int p1, .int p2]) (rest := [.ref (a o)]) ⟨hx, hb, hml, hown, ha⟩ (k_X11_moves l E a o ((x.1.1, q1, x.1.2.2.1, x.1.2.2.2.1, x.1.2.2.2.2), (x.2.1.1, x.2.1.2.1, x.2.1.2.2.1, x.2.1.2.2.2.1, x.2.1.2.2.2.2), (x.2.2.1.1, x.2.2.1.2.1, x.2.2.1.2.2.1, x.2.2.1.2.2.2), (x.2.2.2.1, x.2.2.2.2.1, x.2.2.2.2.2.1, x.2.2.2.2.2.2)) p1 p2 q2 hq2 H.size) (cwV 2 ha (gi_V (fun _ h => h) mw1756 mw1758 mw36 mw87 mw1759) rfl rfl rfl hv_X11_moves ⟨(Nat.le_of_ble_eq_true rfl), (Nat.le_of_ble_eq_true rfl)⟩) ⟨pre_blind, va_recv hst.k (fr_P hP [0] rfl) (ci := 13) (q0 := 0) rfl rfl, pre_at hP hD hS hz hzs hst [0] (by decide) rfl rfl⟩ rfl rfl hl.1 rfl (lv_room (Nat.le_of_ble_eq_true rfl)) dX11_moveBell_8 ⟨(Nat.le_of_ble_eq_true rfl), (Nat.le_of_ble_eq_true rfl)⟩) hP hD hS hA [0] (by decide) rfl rfl rfl rfl (fun H locs hP hD hS => ?_)
  obtain ⟨q3, hq3, hF⟩ := q_bdi hF
  refine cl_i (Lc := [w_Model E a o ((q2.2.1, q1, x.1.2.2.1, x.1.2.2.2.1, x.1.2.2.2.2), (x.2.1.1, x.2.1.2.1, x.2.1.2.2.1, x.2.1.2.2.2.1, x.2.1.2.2.2.2), (x.2.2.1.1, x.2.2.1.2.1, x.2.2.1.2.2.1, x.2.2.1.2.2.2), (q2.2.2, x.2.2.2.2.1, x.2.2.2.2.2.1, x.2.2.2.2.2.2))]) (Lc' := [w_Model E a o ((q3.2.1, q1, q3.2.2.1, q3.2.2.2, x.1.2.2.2.2), (x.2.1.1, x.2.1.2.1, x.2.1.2.2.1, x.2.1.2.2.2.1, x.2.1.2.2.2.2), (x.2.2.1.1, x.2.2.1.2.1, x.2.2.1.2.2.1, x.2.2.1.2.2.2), (q2.2.2, x.2.2.2.2.1, x.2.2.2.2.2.1, x.2.2.2.2.2.2))]) (L' := [w_Model E a o ((q3.2.1, q1, q3.2.2.1, q3.2.2.2, x.1.2.2.2.2), (x.2.1.1, x.2.1.2.1, x.2.1.2.2.1, x.2.1.2.2.2.1, x.2.1.2.2.2.2), (x.2.2.1.1, x.2.2.1.2.1, x.2.2.1.2.2.1, x.2.2.1.2.2.2), (q2.2.2, x.2.2.2.2.1, x.2.2.2.2.2.1, x.2.2.2.2.2.2))]) (rv := q3.1) (va_runV (As := [.int q2.1]) (rest := []) ⟨hx, hb, hml, hown, ha⟩ (k_X11_kept l E a o ((q2.2.1, q1, x.1.2.2.1, x.1.2.2.2.1, x.1.2.2.2.2), (x.2.1.1, x.2.1.2.1, x.2.1.2.2.1, x.2.1.2.2.2.1, x.2.1.2.2.2.2), (x.2.2.1.1, x.2.2.1.2.1, x.2.2.1.2.2.1, x.2.2.1.2.2.2), (q2.2.2, x.2.2.2.2.1, x.2.2.2.2.2.1, x.2.2.2.2.2.2)) q2.1 q3 hq3 H.size) (cwV 1 ha (gi_V (fun _ h => h) mw1724 mw1726 mw31 mw87 mw1727) rfl rfl rfl hv_X11_kept ⟨(Nat.le_of_ble_eq_true rfl), (Nat.le_of_ble_eq_true rfl)⟩) ⟨pre_blind, va_recv hst.k (fr_P hP [0] rfl) (ci := 13) (q0 := 0) rfl rfl, pre_at hP hD hS hz hzs hst [0] (by decide) rfl rfl⟩ rfl rfl hl.1 rfl (lv_room (Nat.le_of_ble_eq_true rfl)) dX11_moveBell_11 ⟨(Nat.le_of_ble_eq_true rfl), (Nat.le_of_ble_eq_true rfl)⟩) hP hD hS hA [0] (by decide) rfl rfl rfl rfl (fun H locs hP hD hS => ?_)
  obtain rfl := Option.some.inj hF
  exact en_i hQ (Nat.le_of_ble_eq_true rfl) (Nat.le_of_ble_eq_true rfl) hx hb hr hlocks hP hD hS rfl dX11_moveBell_14

/-! X11_graze -/
theorem dX11_graze_0 : decode cX11_graze 0 = .ok (.aload_n 0, 1) := by decide +kernel
theorem dX11_graze_1 : decode cX11_graze 1 = .ok (.invokevirtual 86, 3) := by decide +kernel
theorem dX11_graze_4 : decode cX11_graze 4 = .ok (.aload_n 0, 1) := by decide +kernel
theorem dX11_graze_5 : decode cX11_graze 5 = .ok (.aload_n 0, 1) := by decide +kernel
theorem dX11_graze_6 : decode cX11_graze 6 = .ok (.iload_n 1, 1) := by decide +kernel
theorem dX11_graze_7 : decode cX11_graze 7 = .ok (.iload_n 2, 1) := by decide +kernel
theorem dX11_graze_8 : decode cX11_graze 8 = .ok (.invokevirtual 114, 3) := by decide +kernel
theorem dX11_graze_11 : decode cX11_graze 11 = .ok (.invokevirtual 93, 3) := by decide +kernel
theorem dX11_graze_14 : decode cX11_graze 14 = .ok (.ireturn, 1) := by decide +kernel
def f_X11_graze (x_g : (Nat → Int32)) (x_before : (Nat → Int32)) (x_history : (Nat → Int32)) (x_changes : Int32) (x_thrown : Int32) (p1 : Int32) (p2 : Int32) : Option (Int32 × (Nat → Int32) × (Nat → Int32) × (Nat → Int32) × Int32 × Int32) :=
  q_bd (f_X11_begin x_g x_before) (fun q1 =>
  q_bd (f_X11_grazes x_g x_thrown p1 p2) (fun q2 =>
  q_bd (f_X11_kept q2.2.1 q1 x_history x_changes q2.2.2 q2.1) (fun q3 =>
  some (q3.1, q3.2.1, q1, q3.2.2.1, q3.2.2.2, q2.2.2))))
theorem hv_X11_graze : yX11_graze.cls = RX11 ∧ yX11_graze.cls ≠ "java/lang/invoke/MethodHandle" ∧ yX11_graze.cls ≠ "java/lang/invoke/VarHandle" ∧ (parseMethodDescriptor yX11_graze.desc).map (fun d => d.parameters.length) = some 2 := by decide +kernel
abbrev rm_X11_graze : Room := { frames := 5, cells := 0, slots := 0, locals := 115 }
set_option maxHeartbeats 4000000 in
set_option maxRecDepth 100000 in
theorem k_X11_graze (l : Launch) (E : ET) (a : Nat → Nat) (o : Nat) (x : Model_t) (p1 : Int32) (p2 : Int32) (res : Int32 × (Nat → Int32) × (Nat → Int32) × (Nat → Int32) × Int32 × Int32) (hF : f_X11_graze x.1.1 x.1.2.1 x.1.2.2.1 x.1.2.2.2.1 x.2.2.2.1 p1 p2 = some res) (sz : Nat) : CtI l yX11_graze (mws yX11_graze cX11_graze 3 (some .int)) rm_X11_graze 0 0 [.ref (a o), .int p1, .int p2] E (bl_Model E a o x) res.1 (bl_Model E a o ((res.2.1, res.2.2.1, res.2.2.2.1, res.2.2.2.2.1, x.1.2.2.2.2), (x.2.1.1, x.2.1.2.1, x.2.1.2.2.1, x.2.1.2.2.2.1, x.2.1.2.2.2.2), (x.2.2.1.1, x.2.2.1.2.1, x.2.2.1.2.2.1, x.2.2.1.2.2.2), (res.2.2.2.2.2, x.2.2.2.2.1, x.2.2.2.2.2.1, x.2.2.2.2.2.2))) sz := by
  refine mk_M (by decide +kernel) (Nat.le_of_ble_eq_true rfl) ?_
  intro p e s m below meth c A args Q ls hAe hsz hQ hx hb hr hml hin ha hown hlocks hA hz hzs hst hP hD hS hl
  have hown : s.vm.findClass RX11 = some m.cls := hown
  rw [hAe] at hQ
  subst hsz
  have hP : va_P E.1 vwCl (List.flatten [w_Model E a o x]) s.heap := hP
  have hD : va_D A (List.flatten [w_Model E a o x]) := hD
  have hl : lv_has ls 3 [(0, .ref (a o)), (1, .int p1), (2, .int p2)] := hl
  generalize hHe : s.heap = H at hP
  have hS : va_S A s.heap H [] := by rw [← hHe]; exact hS
  generalize ([] : List Loc) = locs at hS ⊢
  unfold f_X11_graze at hF
  refine lv_aload_n hx hb dX11_graze_0 rfl (lv_at hl 0 rfl) ?_
  obtain ⟨q1, hq1, hF⟩ := q_bdi hF
  refine cl_v (Lc := [w_Model E a o x]) (Lc' := [w_Model E a o ((x.1.1, q1, x.1.2.2.1, x.1.2.2.2.1, x.1.2.2.2.2), (x.2.1.1, x.2.1.2.1, x.2.1.2.2.1, x.2.1.2.2.2.1, x.2.1.2.2.2.2), (x.2.2.1.1, x.2.2.1.2.1, x.2.2.1.2.2.1, x.2.2.1.2.2.2), (x.2.2.2.1, x.2.2.2.2.1, x.2.2.2.2.2.1, x.2.2.2.2.2.2))]) (L' := [w_Model E a o ((x.1.1, q1, x.1.2.2.1, x.1.2.2.2.1, x.1.2.2.2.2), (x.2.1.1, x.2.1.2.1, x.2.1.2.2.1, x.2.1.2.2.2.1, x.2.1.2.2.2.2), (x.2.2.1.1, x.2.2.1.2.1, x.2.2.1.2.2.1, x.2.2.1.2.2.2), (x.2.2.2.1, x.2.2.2.2.1, x.2.2.2.2.2.1, x.2.2.2.2.2.2))]) (va_runV (As := []) (rest := []) ⟨hx, hb, hml, hown, ha⟩ (k_X11_begin l E a o x q1 hq1 H.size) (cwV 0 ha (gi_V (fun _ h => h) mw1699 mw1701 mw27 mw87 mw1702) rfl rfl rfl hv_X11_begin ⟨(Nat.le_of_ble_eq_true rfl), (Nat.le_of_ble_eq_true rfl)⟩) ⟨pre_blind, va_recv hst.k (fr_P hP [0] rfl) (ci := 13) (q0 := 0) rfl rfl, pre_at hP hD hS hz hzs hst [0] (by decide) rfl rfl⟩ rfl rfl hl.1 rfl (lv_room (Nat.le_of_ble_eq_true rfl)) dX11_graze_1 ⟨(Nat.le_of_ble_eq_true rfl), (Nat.le_of_ble_eq_true rfl)⟩) hP hD hS hA [0] (by decide) rfl rfl rfl rfl (fun H locs hP hD hS => ?_)
  refine lv_aload_n hx hb dX11_graze_4 rfl (lv_at hl 0 rfl) ?_
  refine lv_aload_n hx hb dX11_graze_5 rfl (lv_at hl 0 rfl) ?_
  refine lv_iload_n hx hb dX11_graze_6 rfl (lv_at hl 1 rfl) ?_
  refine lv_iload_n hx hb dX11_graze_7 rfl (lv_at hl 2 rfl) ?_
  obtain ⟨q2, hq2, hF⟩ := q_bdi hF
  refine cl_i (Lc := [w_Model E a o ((x.1.1, q1, x.1.2.2.1, x.1.2.2.2.1, x.1.2.2.2.2), (x.2.1.1, x.2.1.2.1, x.2.1.2.2.1, x.2.1.2.2.2.1, x.2.1.2.2.2.2), (x.2.2.1.1, x.2.2.1.2.1, x.2.2.1.2.2.1, x.2.2.1.2.2.2), (x.2.2.2.1, x.2.2.2.2.1, x.2.2.2.2.2.1, x.2.2.2.2.2.2))]) (Lc' := [w_Model E a o ((q2.2.1, q1, x.1.2.2.1, x.1.2.2.2.1, x.1.2.2.2.2), (x.2.1.1, x.2.1.2.1, x.2.1.2.2.1, x.2.1.2.2.2.1, x.2.1.2.2.2.2), (x.2.2.1.1, x.2.2.1.2.1, x.2.2.1.2.2.1, x.2.2.1.2.2.2), (q2.2.2, x.2.2.2.2.1, x.2.2.2.2.2.1, x.2.2.2.2.2.2))]) (L' := [w_Model E a o ((q2.2.1, q1, x.1.2.2.1, x.1.2.2.2.1, x.1.2.2.2.2), (x.2.1.1, x.2.1.2.1, x.2.1.2.2.1, x.2.1.2.2.2.1, x.2.1.2.2.2.2), (x.2.2.1.1, x.2.2.1.2.1, x.2.2.1.2.2.1, x.2.2.1.2.2.2), (q2.2.2, x.2.2.2.2.1, x.2.2.2.2.2.1, x.2.2.2.2.2.2))]) (rv := q2.1) (va_runV (As := [.int p1, .int p2]) (rest := [.ref (a o)]) ⟨hx, hb, hml, hown, ha⟩ (k_X11_grazes l E a o ((x.1.1, q1, x.1.2.2.1, x.1.2.2.2.1, x.1.2.2.2.2), (x.2.1.1, x.2.1.2.1, x.2.1.2.2.1, x.2.1.2.2.2.1, x.2.1.2.2.2.2), (x.2.2.1.1, x.2.2.1.2.1, x.2.2.1.2.2.1, x.2.2.1.2.2.2), (x.2.2.2.1, x.2.2.2.2.1, x.2.2.2.2.2.1, x.2.2.2.2.2.2)) p1 p2 q2 hq2 H.size) (cwV 2 ha (gi_V (fun _ h => h) mw1764 mw1766 mw37 mw87 mw1767) rfl rfl rfl hv_X11_grazes ⟨(Nat.le_of_ble_eq_true rfl), (Nat.le_of_ble_eq_true rfl)⟩) ⟨pre_blind, va_recv hst.k (fr_P hP [0] rfl) (ci := 13) (q0 := 0) rfl rfl, pre_at hP hD hS hz hzs hst [0] (by decide) rfl rfl⟩ rfl rfl hl.1 rfl (lv_room (Nat.le_of_ble_eq_true rfl)) dX11_graze_8 ⟨(Nat.le_of_ble_eq_true rfl), (Nat.le_of_ble_eq_true rfl)⟩) hP hD hS hA [0] (by decide) rfl rfl rfl rfl (fun H locs hP hD hS => ?_)
  obtain ⟨q3, hq3, hF⟩ := q_bdi hF
  refine cl_i (Lc := [w_Model E a o ((q2.2.1, q1, x.1.2.2.1, x.1.2.2.2.1, x.1.2.2.2.2), (x.2.1.1, x.2.1.2.1, x.2.1.2.2.1, x.2.1.2.2.2.1, x.2.1.2.2.2.2), (x.2.2.1.1, x.2.2.1.2.1, x.2.2.1.2.2.1, x.2.2.1.2.2.2), (q2.2.2, x.2.2.2.2.1, x.2.2.2.2.2.1, x.2.2.2.2.2.2))]) (Lc' := [w_Model E a o ((q3.2.1, q1, q3.2.2.1, q3.2.2.2, x.1.2.2.2.2), (x.2.1.1, x.2.1.2.1, x.2.1.2.2.1, x.2.1.2.2.2.1, x.2.1.2.2.2.2), (x.2.2.1.1, x.2.2.1.2.1, x.2.2.1.2.2.1, x.2.2.1.2.2.2), (q2.2.2, x.2.2.2.2.1, x.2.2.2.2.2.1, x.2.2.2.2.2.2))]) (L' := [w_Model E a o ((q3.2.1, q1, q3.2.2.1, q3.2.2.2, x.1.2.2.2.2), (x.2.1.1, x.2.1.2.1, x.2.1.2.2.1, x.2.1.2.2.2.1, x.2.1.2.2.2.2), (x.2.2.1.1, x.2.2.1.2.1, x.2.2.1.2.2.1, x.2.2.1.2.2.2), (q2.2.2, x.2.2.2.2.1, x.2.2.2.2.2.1, x.2.2.2.2.2.2))]) (rv := q3.1) (va_runV (As := [.int q2.1]) (rest := []) ⟨hx, hb, hml, hown, ha⟩ (k_X11_kept l E a o ((q2.2.1, q1, x.1.2.2.1, x.1.2.2.2.1, x.1.2.2.2.2), (x.2.1.1, x.2.1.2.1, x.2.1.2.2.1, x.2.1.2.2.2.1, x.2.1.2.2.2.2), (x.2.2.1.1, x.2.2.1.2.1, x.2.2.1.2.2.1, x.2.2.1.2.2.2), (q2.2.2, x.2.2.2.2.1, x.2.2.2.2.2.1, x.2.2.2.2.2.2)) q2.1 q3 hq3 H.size) (cwV 1 ha (gi_V (fun _ h => h) mw1724 mw1726 mw31 mw87 mw1727) rfl rfl rfl hv_X11_kept ⟨(Nat.le_of_ble_eq_true rfl), (Nat.le_of_ble_eq_true rfl)⟩) ⟨pre_blind, va_recv hst.k (fr_P hP [0] rfl) (ci := 13) (q0 := 0) rfl rfl, pre_at hP hD hS hz hzs hst [0] (by decide) rfl rfl⟩ rfl rfl hl.1 rfl (lv_room (Nat.le_of_ble_eq_true rfl)) dX11_graze_11 ⟨(Nat.le_of_ble_eq_true rfl), (Nat.le_of_ble_eq_true rfl)⟩) hP hD hS hA [0] (by decide) rfl rfl rfl rfl (fun H locs hP hD hS => ?_)
  obtain rfl := Option.some.inj hF
  exact en_i hQ (Nat.le_of_ble_eq_true rfl) (Nat.le_of_ble_eq_true rfl) hx hb hr hlocks hP hD hS rfl dX11_graze_14

/-! X11_setKey -/
theorem dX11_setKey_0 : decode cX11_setKey 0 = .ok (.aload_n 0, 1) := by decide +kernel
theorem dX11_setKey_1 : decode cX11_setKey 1 = .ok (.invokevirtual 86, 3) := by decide +kernel
theorem dX11_setKey_4 : decode cX11_setKey 4 = .ok (.aload_n 0, 1) := by decide +kernel
theorem dX11_setKey_5 : decode cX11_setKey 5 = .ok (.aload_n 0, 1) := by decide +kernel
theorem dX11_setKey_6 : decode cX11_setKey 6 = .ok (.iload_n 1, 1) := by decide +kernel
theorem dX11_setKey_7 : decode cX11_setKey 7 = .ok (.iload_n 2, 1) := by decide +kernel
theorem dX11_setKey_8 : decode cX11_setKey 8 = .ok (.ifCond .eq 7, 3) := by decide +kernel
theorem dX11_setKey_11 : decode cX11_setKey 11 = .ok (.iconst 1, 1) := by decide +kernel
theorem dX11_setKey_12 : decode cX11_setKey 12 = .ok (.goto 4, 3) := by decide +kernel
theorem dX11_setKey_15 : decode cX11_setKey 15 = .ok (.iconst 0, 1) := by decide +kernel
theorem dX11_setKey_16 : decode cX11_setKey 16 = .ok (.invokevirtual 120, 3) := by decide +kernel
theorem dX11_setKey_19 : decode cX11_setKey 19 = .ok (.invokevirtual 93, 3) := by decide +kernel
theorem dX11_setKey_22 : decode cX11_setKey 22 = .ok (.ireturn, 1) := by decide +kernel
def f_X11_setKey (x_g : (Nat → Int32)) (x_before : (Nat → Int32)) (x_history : (Nat → Int32)) (x_changes : Int32) (x_thrown : Int32) (p1 : Int32) (p2 : Int32) : Option (Int32 × (Nat → Int32) × (Nat → Int32) × (Nat → Int32) × Int32 × Int32) :=
  q_bd (f_X11_begin x_g x_before) (fun q1 =>
  q_lt (fun (j2 : Int32) =>
  q_bd (f_X11_keys x_g x_thrown p1 j2) (fun q3 =>
  q_bd (f_X11_kept q3.2.1 q1 x_history x_changes q3.2.2 q3.1) (fun q4 =>
  some (q4.1, q4.2.1, q1, q4.2.2.1, q4.2.2.2, q3.2.2)))) (fun (J16 : Int32 → Option (Int32 × (Nat → Int32) × (Nat → Int32) × (Nat → Int32) × Int32 × Int32)) =>
  q_br (p2 = 0) (
  J16 0) (
  J16 1)))
theorem hv_X11_setKey : yX11_setKey.cls = RX11 ∧ yX11_setKey.cls ≠ "java/lang/invoke/MethodHandle" ∧ yX11_setKey.cls ≠ "java/lang/invoke/VarHandle" ∧ (parseMethodDescriptor yX11_setKey.desc).map (fun d => d.parameters.length) = some 2 := by decide +kernel
abbrev rm_X11_setKey : Room := { frames := 5, cells := 0, slots := 0, locals := 114 }
set_option maxHeartbeats 4000000 in
set_option maxRecDepth 100000 in
theorem k_X11_setKey (l : Launch) (E : ET) (a : Nat → Nat) (o : Nat) (x : Model_t) (p1 : Int32) (p2 : Int32) (res : Int32 × (Nat → Int32) × (Nat → Int32) × (Nat → Int32) × Int32 × Int32) (hF : f_X11_setKey x.1.1 x.1.2.1 x.1.2.2.1 x.1.2.2.2.1 x.2.2.2.1 p1 p2 = some res) (sz : Nat) : CtI l yX11_setKey (mws yX11_setKey cX11_setKey 3 (some .int)) rm_X11_setKey 0 0 [.ref (a o), .int p1, .int p2] E (bl_Model E a o x) res.1 (bl_Model E a o ((res.2.1, res.2.2.1, res.2.2.2.1, res.2.2.2.2.1, x.1.2.2.2.2), (x.2.1.1, x.2.1.2.1, x.2.1.2.2.1, x.2.1.2.2.2.1, x.2.1.2.2.2.2), (x.2.2.1.1, x.2.2.1.2.1, x.2.2.1.2.2.1, x.2.2.1.2.2.2), (res.2.2.2.2.2, x.2.2.2.2.1, x.2.2.2.2.2.1, x.2.2.2.2.2.2))) sz := by
  refine mk_M (by decide +kernel) (Nat.le_of_ble_eq_true rfl) ?_
  intro p e s m below meth c A args Q ls hAe hsz hQ hx hb hr hml hin ha hown hlocks hA hz hzs hst hP hD hS hl
  have hown : s.vm.findClass RX11 = some m.cls := hown
  rw [hAe] at hQ
  subst hsz
  have hP : va_P E.1 vwCl (List.flatten [w_Model E a o x]) s.heap := hP
  have hD : va_D A (List.flatten [w_Model E a o x]) := hD
  have hl : lv_has ls 3 [(0, .ref (a o)), (1, .int p1), (2, .int p2)] := hl
  generalize hHe : s.heap = H at hP
  have hS : va_S A s.heap H [] := by rw [← hHe]; exact hS
  generalize ([] : List Loc) = locs at hS ⊢
  unfold f_X11_setKey at hF
  refine lv_aload_n hx hb dX11_setKey_0 rfl (lv_at hl 0 rfl) ?_
  obtain ⟨q1, hq1, hF⟩ := q_bdi hF
  refine cl_v (Lc := [w_Model E a o x]) (Lc' := [w_Model E a o ((x.1.1, q1, x.1.2.2.1, x.1.2.2.2.1, x.1.2.2.2.2), (x.2.1.1, x.2.1.2.1, x.2.1.2.2.1, x.2.1.2.2.2.1, x.2.1.2.2.2.2), (x.2.2.1.1, x.2.2.1.2.1, x.2.2.1.2.2.1, x.2.2.1.2.2.2), (x.2.2.2.1, x.2.2.2.2.1, x.2.2.2.2.2.1, x.2.2.2.2.2.2))]) (L' := [w_Model E a o ((x.1.1, q1, x.1.2.2.1, x.1.2.2.2.1, x.1.2.2.2.2), (x.2.1.1, x.2.1.2.1, x.2.1.2.2.1, x.2.1.2.2.2.1, x.2.1.2.2.2.2), (x.2.2.1.1, x.2.2.1.2.1, x.2.2.1.2.2.1, x.2.2.1.2.2.2), (x.2.2.2.1, x.2.2.2.2.1, x.2.2.2.2.2.1, x.2.2.2.2.2.2))]) (va_runV (As := []) (rest := []) ⟨hx, hb, hml, hown, ha⟩ (k_X11_begin l E a o x q1 hq1 H.size) (cwV 0 ha (gi_V (fun _ h => h) mw1699 mw1701 mw27 mw87 mw1702) rfl rfl rfl hv_X11_begin ⟨(Nat.le_of_ble_eq_true rfl), (Nat.le_of_ble_eq_true rfl)⟩) ⟨pre_blind, va_recv hst.k (fr_P hP [0] rfl) (ci := 13) (q0 := 0) rfl rfl, pre_at hP hD hS hz hzs hst [0] (by decide) rfl rfl⟩ rfl rfl hl.1 rfl (lv_room (Nat.le_of_ble_eq_true rfl)) dX11_setKey_1 ⟨(Nat.le_of_ble_eq_true rfl), (Nat.le_of_ble_eq_true rfl)⟩) hP hD hS hA [0] (by decide) rfl rfl rfl rfl (fun H locs hP hD hS => ?_)
  refine lv_aload_n hx hb dX11_setKey_4 rfl (lv_at hl 0 rfl) ?_
  refine lv_aload_n hx hb dX11_setKey_5 rfl (lv_at hl 0 rfl) ?_
  refine lv_iload_n hx hb dX11_setKey_6 rfl (lv_at hl 1 rfl) ?_
  refine lv_iload_n hx hb dX11_setKey_7 rfl (lv_at hl 2 rfl) ?_
  obtain ⟨J16, hJ16, hF⟩ := q_jn hF
  have jJ16 : ∀ (j2 : Int32), ∀ (H : Heap) (locs : List Loc) (ls : Array Slot), J16 j2 = some res → va_P E.1 vwCl (List.flatten [w_Model E a o ((x.1.1, q1, x.1.2.2.1, x.1.2.2.2.1, x.1.2.2.2.2), (x.2.1.1, x.2.1.2.1, x.2.1.2.2.1, x.2.1.2.2.2.1, x.2.1.2.2.2.2), (x.2.2.1.1, x.2.2.1.2.1, x.2.2.1.2.2.1, x.2.2.1.2.2.2), (x.2.2.2.1, x.2.2.2.2.1, x.2.2.2.2.2.1, x.2.2.2.2.2.2))]) H → va_D A (List.flatten [w_Model E a o ((x.1.1, q1, x.1.2.2.1, x.1.2.2.2.1, x.1.2.2.2.2), (x.2.1.1, x.2.1.2.1, x.2.1.2.2.1, x.2.1.2.2.2.1, x.2.1.2.2.2.2), (x.2.2.1.1, x.2.2.1.2.1, x.2.2.1.2.2.1, x.2.2.1.2.2.2), (x.2.2.2.1, x.2.2.2.2.1, x.2.2.2.2.2.1, x.2.2.2.2.2.2))]) → va_S A s.heap H locs → lv_has ls 3 [] → W p l e rm_X11_setKey s m args below meth c H locs 0 0 Q (F0 m 16 ls [.int j2, .int p1, .ref (a o), .ref (a o)]) := by
    intro j2 H locs ls hF hP hD hS hl
    rw [hJ16] at hF
    obtain ⟨q3, hq3, hF⟩ := q_bdi hF
    refine cl_i (Lc := [w_Model E a o ((x.1.1, q1, x.1.2.2.1, x.1.2.2.2.1, x.1.2.2.2.2), (x.2.1.1, x.2.1.2.1, x.2.1.2.2.1, x.2.1.2.2.2.1, x.2.1.2.2.2.2), (x.2.2.1.1, x.2.2.1.2.1, x.2.2.1.2.2.1, x.2.2.1.2.2.2), (x.2.2.2.1, x.2.2.2.2.1, x.2.2.2.2.2.1, x.2.2.2.2.2.2))]) (Lc' := [w_Model E a o ((q3.2.1, q1, x.1.2.2.1, x.1.2.2.2.1, x.1.2.2.2.2), (x.2.1.1, x.2.1.2.1, x.2.1.2.2.1, x.2.1.2.2.2.1, x.2.1.2.2.2.2), (x.2.2.1.1, x.2.2.1.2.1, x.2.2.1.2.2.1, x.2.2.1.2.2.2), (q3.2.2, x.2.2.2.2.1, x.2.2.2.2.2.1, x.2.2.2.2.2.2))]) (L' := [w_Model E a o ((q3.2.1, q1, x.1.2.2.1, x.1.2.2.2.1, x.1.2.2.2.2), (x.2.1.1, x.2.1.2.1, x.2.1.2.2.1, x.2.1.2.2.2.1, x.2.1.2.2.2.2), (x.2.2.1.1, x.2.2.1.2.1, x.2.2.1.2.2.1, x.2.2.1.2.2.2), (q3.2.2, x.2.2.2.2.1, x.2.2.2.2.2.1, x.2.2.2.2.2.2))]) (rv := q3.1) (va_runV (As := [.int p1, .int j2]) (rest := [.ref (a o)]) ⟨hx, hb, hml, hown, ha⟩ (k_X11_keys l E a o ((x.1.1, q1, x.1.2.2.1, x.1.2.2.2.1, x.1.2.2.2.2), (x.2.1.1, x.2.1.2.1, x.2.1.2.2.1, x.2.1.2.2.2.1, x.2.1.2.2.2.2), (x.2.2.1.1, x.2.2.1.2.1, x.2.2.1.2.2.1, x.2.2.1.2.2.2), (x.2.2.2.1, x.2.2.2.2.1, x.2.2.2.2.2.1, x.2.2.2.2.2.2)) p1 j2 q3 hq3 H.size) (cwV 2 ha (gi_V (fun _ h => h) mw1797 mw1799 mw42 mw87 mw1800) rfl rfl rfl hv_X11_keys ⟨(Nat.le_of_ble_eq_true rfl), (Nat.le_of_ble_eq_true rfl)⟩) ⟨pre_blind, va_recv hst.k (fr_P hP [0] rfl) (ci := 13) (q0 := 0) rfl rfl, pre_at hP hD hS hz hzs hst [0] (by decide) rfl rfl⟩ rfl rfl hl.1 rfl (lv_room (Nat.le_of_ble_eq_true rfl)) dX11_setKey_16 ⟨(Nat.le_of_ble_eq_true rfl), (Nat.le_of_ble_eq_true rfl)⟩) hP hD hS hA [0] (by decide) rfl rfl rfl rfl (fun H locs hP hD hS => ?_)
    obtain ⟨q4, hq4, hF⟩ := q_bdi hF
    refine cl_i (Lc := [w_Model E a o ((q3.2.1, q1, x.1.2.2.1, x.1.2.2.2.1, x.1.2.2.2.2), (x.2.1.1, x.2.1.2.1, x.2.1.2.2.1, x.2.1.2.2.2.1, x.2.1.2.2.2.2), (x.2.2.1.1, x.2.2.1.2.1, x.2.2.1.2.2.1, x.2.2.1.2.2.2), (q3.2.2, x.2.2.2.2.1, x.2.2.2.2.2.1, x.2.2.2.2.2.2))]) (Lc' := [w_Model E a o ((q4.2.1, q1, q4.2.2.1, q4.2.2.2, x.1.2.2.2.2), (x.2.1.1, x.2.1.2.1, x.2.1.2.2.1, x.2.1.2.2.2.1, x.2.1.2.2.2.2), (x.2.2.1.1, x.2.2.1.2.1, x.2.2.1.2.2.1, x.2.2.1.2.2.2), (q3.2.2, x.2.2.2.2.1, x.2.2.2.2.2.1, x.2.2.2.2.2.2))]) (L' := [w_Model E a o ((q4.2.1, q1, q4.2.2.1, q4.2.2.2, x.1.2.2.2.2), (x.2.1.1, x.2.1.2.1, x.2.1.2.2.1, x.2.1.2.2.2.1, x.2.1.2.2.2.2), (x.2.2.1.1, x.2.2.1.2.1, x.2.2.1.2.2.1, x.2.2.1.2.2.2), (q3.2.2, x.2.2.2.2.1, x.2.2.2.2.2.1, x.2.2.2.2.2.2))]) (rv := q4.1) (va_runV (As := [.int q3.1]) (rest := []) ⟨hx, hb, hml, hown, ha⟩ (k_X11_kept l E a o ((q3.2.1, q1, x.1.2.2.1, x.1.2.2.2.1, x.1.2.2.2.2), (x.2.1.1, x.2.1.2.1, x.2.1.2.2.1, x.2.1.2.2.2.1, x.2.1.2.2.2.2), (x.2.2.1.1, x.2.2.1.2.1, x.2.2.1.2.2.1, x.2.2.1.2.2.2), (q3.2.2, x.2.2.2.2.1, x.2.2.2.2.2.1, x.2.2.2.2.2.2)) q3.1 q4 hq4 H.size) (cwV 1 ha (gi_V (fun _ h => h) mw1724 mw1726 mw31 mw87 mw1727) rfl rfl rfl hv_X11_kept ⟨(Nat.le_of_ble_eq_true rfl), (Nat.le_of_ble_eq_true rfl)⟩) ⟨pre_blind, va_recv hst.k (fr_P hP [0] rfl) (ci := 13) (q0 := 0) rfl rfl, pre_at hP hD hS hz hzs hst [0] (by decide) rfl rfl⟩ rfl rfl hl.1 rfl (lv_room (Nat.le_of_ble_eq_true rfl)) dX11_setKey_19 ⟨(Nat.le_of_ble_eq_true rfl), (Nat.le_of_ble_eq_true rfl)⟩) hP hD hS hA [0] (by decide) rfl rfl rfl rfl (fun H locs hP hD hS => ?_)
    obtain rfl := Option.some.inj hF
    exact en_i hQ (Nat.le_of_ble_eq_true rfl) (Nat.le_of_ble_eq_true rfl) hx hb hr hlocks hP hD hS rfl dX11_setKey_22
  refine lv_if_eq (tgt := 15) hx hb dX11_setKey_8 (by decide) (fun c8 => ?_) (fun c8 => ?_)
  · have hF := q_brp c8 hF
    refine lv_iconst (v := 0) hx hb dX11_setKey_15 (by decide) ?_
    exact jJ16 0 H locs ls hF hP hD hS (lv_sub hl [] rfl)
  · have hF := q_brn c8 hF
    refine lv_iconst (v := 1) hx hb dX11_setKey_11 (by decide) ?_
    refine lv_goto (tgt := 16) hx hb dX11_setKey_12 (by decide) ?_
    exact jJ16 1 H locs ls hF hP hD hS (lv_sub hl [] rfl)

/-! X11_setTolerance -/
theorem dX11_setTolerance_0 : decode cX11_setTolerance 0 = .ok (.aload_n 0, 1) := by decide +kernel
theorem dX11_setTolerance_1 : decode cX11_setTolerance 1 = .ok (.invokevirtual 86, 3) := by decide +kernel
theorem dX11_setTolerance_4 : decode cX11_setTolerance 4 = .ok (.aload_n 0, 1) := by decide +kernel
theorem dX11_setTolerance_5 : decode cX11_setTolerance 5 = .ok (.aload_n 0, 1) := by decide +kernel
theorem dX11_setTolerance_6 : decode cX11_setTolerance 6 = .ok (.iload_n 1, 1) := by decide +kernel
theorem dX11_setTolerance_7 : decode cX11_setTolerance 7 = .ok (.invokevirtual 123, 3) := by decide +kernel
theorem dX11_setTolerance_10 : decode cX11_setTolerance 10 = .ok (.invokevirtual 93, 3) := by decide +kernel
theorem dX11_setTolerance_13 : decode cX11_setTolerance 13 = .ok (.ireturn, 1) := by decide +kernel
def f_X11_setTolerance (x_g : (Nat → Int32)) (x_before : (Nat → Int32)) (x_history : (Nat → Int32)) (x_changes : Int32) (x_thrown : Int32) (p1 : Int32) : Option (Int32 × (Nat → Int32) × (Nat → Int32) × (Nat → Int32) × Int32 × Int32) :=
  q_bd (f_X11_begin x_g x_before) (fun q1 =>
  q_bd (f_X11_tolerates x_g x_thrown p1) (fun q2 =>
  q_bd (f_X11_kept q2.2.1 q1 x_history x_changes q2.2.2 q2.1) (fun q3 =>
  some (q3.1, q3.2.1, q1, q3.2.2.1, q3.2.2.2, q2.2.2))))
theorem hv_X11_setTolerance : yX11_setTolerance.cls = RX11 ∧ yX11_setTolerance.cls ≠ "java/lang/invoke/MethodHandle" ∧ yX11_setTolerance.cls ≠ "java/lang/invoke/VarHandle" ∧ (parseMethodDescriptor yX11_setTolerance.desc).map (fun d => d.parameters.length) = some 1 := by decide +kernel
abbrev rm_X11_setTolerance : Room := { frames := 2, cells := 0, slots := 0, locals := 46 }
set_option maxHeartbeats 4000000 in
set_option maxRecDepth 100000 in
theorem k_X11_setTolerance (l : Launch) (E : ET) (a : Nat → Nat) (o : Nat) (x : Model_t) (p1 : Int32) (res : Int32 × (Nat → Int32) × (Nat → Int32) × (Nat → Int32) × Int32 × Int32) (hF : f_X11_setTolerance x.1.1 x.1.2.1 x.1.2.2.1 x.1.2.2.2.1 x.2.2.2.1 p1 = some res) (sz : Nat) : CtI l yX11_setTolerance (mws yX11_setTolerance cX11_setTolerance 2 (some .int)) rm_X11_setTolerance 0 0 [.ref (a o), .int p1] E (bl_Model E a o x) res.1 (bl_Model E a o ((res.2.1, res.2.2.1, res.2.2.2.1, res.2.2.2.2.1, x.1.2.2.2.2), (x.2.1.1, x.2.1.2.1, x.2.1.2.2.1, x.2.1.2.2.2.1, x.2.1.2.2.2.2), (x.2.2.1.1, x.2.2.1.2.1, x.2.2.1.2.2.1, x.2.2.1.2.2.2), (res.2.2.2.2.2, x.2.2.2.2.1, x.2.2.2.2.2.1, x.2.2.2.2.2.2))) sz := by
  refine mk_M (by decide +kernel) (Nat.le_of_ble_eq_true rfl) ?_
  intro p e s m below meth c A args Q ls hAe hsz hQ hx hb hr hml hin ha hown hlocks hA hz hzs hst hP hD hS hl
  have hown : s.vm.findClass RX11 = some m.cls := hown
  rw [hAe] at hQ
  subst hsz
  have hP : va_P E.1 vwCl (List.flatten [w_Model E a o x]) s.heap := hP
  have hD : va_D A (List.flatten [w_Model E a o x]) := hD
  have hl : lv_has ls 2 [(0, .ref (a o)), (1, .int p1)] := hl
  generalize hHe : s.heap = H at hP
  have hS : va_S A s.heap H [] := by rw [← hHe]; exact hS
  generalize ([] : List Loc) = locs at hS ⊢
  unfold f_X11_setTolerance at hF
  refine lv_aload_n hx hb dX11_setTolerance_0 rfl (lv_at hl 0 rfl) ?_
  obtain ⟨q1, hq1, hF⟩ := q_bdi hF
  refine cl_v (Lc := [w_Model E a o x]) (Lc' := [w_Model E a o ((x.1.1, q1, x.1.2.2.1, x.1.2.2.2.1, x.1.2.2.2.2), (x.2.1.1, x.2.1.2.1, x.2.1.2.2.1, x.2.1.2.2.2.1, x.2.1.2.2.2.2), (x.2.2.1.1, x.2.2.1.2.1, x.2.2.1.2.2.1, x.2.2.1.2.2.2), (x.2.2.2.1, x.2.2.2.2.1, x.2.2.2.2.2.1, x.2.2.2.2.2.2))]) (L' := [w_Model E a o ((x.1.1, q1, x.1.2.2.1, x.1.2.2.2.1, x.1.2.2.2.2), (x.2.1.1, x.2.1.2.1, x.2.1.2.2.1, x.2.1.2.2.2.1, x.2.1.2.2.2.2), (x.2.2.1.1, x.2.2.1.2.1, x.2.2.1.2.2.1, x.2.2.1.2.2.2), (x.2.2.2.1, x.2.2.2.2.1, x.2.2.2.2.2.1, x.2.2.2.2.2.2))]) (va_runV (As := []) (rest := []) ⟨hx, hb, hml, hown, ha⟩ (k_X11_begin l E a o x q1 hq1 H.size) (cwV 0 ha (gi_V (fun _ h => h) mw1699 mw1701 mw27 mw87 mw1702) rfl rfl rfl hv_X11_begin ⟨(Nat.le_of_ble_eq_true rfl), (Nat.le_of_ble_eq_true rfl)⟩) ⟨pre_blind, va_recv hst.k (fr_P hP [0] rfl) (ci := 13) (q0 := 0) rfl rfl, pre_at hP hD hS hz hzs hst [0] (by decide) rfl rfl⟩ rfl rfl hl.1 rfl (lv_room (Nat.le_of_ble_eq_true rfl)) dX11_setTolerance_1 ⟨(Nat.le_of_ble_eq_true rfl), (Nat.le_of_ble_eq_true rfl)⟩) hP hD hS hA [0] (by decide) rfl rfl rfl rfl (fun H locs hP hD hS => ?_)
  refine lv_aload_n hx hb dX11_setTolerance_4 rfl (lv_at hl 0 rfl) ?_
  refine lv_aload_n hx hb dX11_setTolerance_5 rfl (lv_at hl 0 rfl) ?_
  refine lv_iload_n hx hb dX11_setTolerance_6 rfl (lv_at hl 1 rfl) ?_
  obtain ⟨q2, hq2, hF⟩ := q_bdi hF
  refine cl_i (Lc := [w_Model E a o ((x.1.1, q1, x.1.2.2.1, x.1.2.2.2.1, x.1.2.2.2.2), (x.2.1.1, x.2.1.2.1, x.2.1.2.2.1, x.2.1.2.2.2.1, x.2.1.2.2.2.2), (x.2.2.1.1, x.2.2.1.2.1, x.2.2.1.2.2.1, x.2.2.1.2.2.2), (x.2.2.2.1, x.2.2.2.2.1, x.2.2.2.2.2.1, x.2.2.2.2.2.2))]) (Lc' := [w_Model E a o ((q2.2.1, q1, x.1.2.2.1, x.1.2.2.2.1, x.1.2.2.2.2), (x.2.1.1, x.2.1.2.1, x.2.1.2.2.1, x.2.1.2.2.2.1, x.2.1.2.2.2.2), (x.2.2.1.1, x.2.2.1.2.1, x.2.2.1.2.2.1, x.2.2.1.2.2.2), (q2.2.2, x.2.2.2.2.1, x.2.2.2.2.2.1, x.2.2.2.2.2.2))]) (L' := [w_Model E a o ((q2.2.1, q1, x.1.2.2.1, x.1.2.2.2.1, x.1.2.2.2.2), (x.2.1.1, x.2.1.2.1, x.2.1.2.2.1, x.2.1.2.2.2.1, x.2.1.2.2.2.2), (x.2.2.1.1, x.2.2.1.2.1, x.2.2.1.2.2.1, x.2.2.1.2.2.2), (q2.2.2, x.2.2.2.2.1, x.2.2.2.2.2.1, x.2.2.2.2.2.2))]) (rv := q2.1) (va_runV (As := [.int p1]) (rest := [.ref (a o)]) ⟨hx, hb, hml, hown, ha⟩ (k_X11_tolerates l E a o ((x.1.1, q1, x.1.2.2.1, x.1.2.2.2.1, x.1.2.2.2.2), (x.2.1.1, x.2.1.2.1, x.2.1.2.2.1, x.2.1.2.2.2.1, x.2.1.2.2.2.2), (x.2.2.1.1, x.2.2.1.2.1, x.2.2.1.2.2.1, x.2.2.1.2.2.2), (x.2.2.2.1, x.2.2.2.2.1, x.2.2.2.2.2.1, x.2.2.2.2.2.2)) p1 q2 hq2 H.size) (cwV 1 ha (gi_V (fun _ h => h) mw1809 mw1811 mw44 mw87 mw1812) rfl rfl rfl hv_X11_tolerates ⟨(Nat.le_of_ble_eq_true rfl), (Nat.le_of_ble_eq_true rfl)⟩) ⟨pre_blind, va_recv hst.k (fr_P hP [0] rfl) (ci := 13) (q0 := 0) rfl rfl, pre_at hP hD hS hz hzs hst [0] (by decide) rfl rfl⟩ rfl rfl hl.1 rfl (lv_room (Nat.le_of_ble_eq_true rfl)) dX11_setTolerance_7 ⟨(Nat.le_of_ble_eq_true rfl), (Nat.le_of_ble_eq_true rfl)⟩) hP hD hS hA [0] (by decide) rfl rfl rfl rfl (fun H locs hP hD hS => ?_)
  obtain ⟨q3, hq3, hF⟩ := q_bdi hF
  refine cl_i (Lc := [w_Model E a o ((q2.2.1, q1, x.1.2.2.1, x.1.2.2.2.1, x.1.2.2.2.2), (x.2.1.1, x.2.1.2.1, x.2.1.2.2.1, x.2.1.2.2.2.1, x.2.1.2.2.2.2), (x.2.2.1.1, x.2.2.1.2.1, x.2.2.1.2.2.1, x.2.2.1.2.2.2), (q2.2.2, x.2.2.2.2.1, x.2.2.2.2.2.1, x.2.2.2.2.2.2))]) (Lc' := [w_Model E a o ((q3.2.1, q1, q3.2.2.1, q3.2.2.2, x.1.2.2.2.2), (x.2.1.1, x.2.1.2.1, x.2.1.2.2.1, x.2.1.2.2.2.1, x.2.1.2.2.2.2), (x.2.2.1.1, x.2.2.1.2.1, x.2.2.1.2.2.1, x.2.2.1.2.2.2), (q2.2.2, x.2.2.2.2.1, x.2.2.2.2.2.1, x.2.2.2.2.2.2))]) (L' := [w_Model E a o ((q3.2.1, q1, q3.2.2.1, q3.2.2.2, x.1.2.2.2.2), (x.2.1.1, x.2.1.2.1, x.2.1.2.2.1, x.2.1.2.2.2.1, x.2.1.2.2.2.2), (x.2.2.1.1, x.2.2.1.2.1, x.2.2.1.2.2.1, x.2.2.1.2.2.2), (q2.2.2, x.2.2.2.2.1, x.2.2.2.2.2.1, x.2.2.2.2.2.2))]) (rv := q3.1) (va_runV (As := [.int q2.1]) (rest := []) ⟨hx, hb, hml, hown, ha⟩ (k_X11_kept l E a o ((q2.2.1, q1, x.1.2.2.1, x.1.2.2.2.1, x.1.2.2.2.2), (x.2.1.1, x.2.1.2.1, x.2.1.2.2.1, x.2.1.2.2.2.1, x.2.1.2.2.2.2), (x.2.2.1.1, x.2.2.1.2.1, x.2.2.1.2.2.1, x.2.2.1.2.2.2), (q2.2.2, x.2.2.2.2.1, x.2.2.2.2.2.1, x.2.2.2.2.2.2)) q2.1 q3 hq3 H.size) (cwV 1 ha (gi_V (fun _ h => h) mw1724 mw1726 mw31 mw87 mw1727) rfl rfl rfl hv_X11_kept ⟨(Nat.le_of_ble_eq_true rfl), (Nat.le_of_ble_eq_true rfl)⟩) ⟨pre_blind, va_recv hst.k (fr_P hP [0] rfl) (ci := 13) (q0 := 0) rfl rfl, pre_at hP hD hS hz hzs hst [0] (by decide) rfl rfl⟩ rfl rfl hl.1 rfl (lv_room (Nat.le_of_ble_eq_true rfl)) dX11_setTolerance_10 ⟨(Nat.le_of_ble_eq_true rfl), (Nat.le_of_ble_eq_true rfl)⟩) hP hD hS hA [0] (by decide) rfl rfl rfl rfl (fun H locs hP hD hS => ?_)
  obtain rfl := Option.some.inj hF
  exact en_i hQ (Nat.le_of_ble_eq_true rfl) (Nat.le_of_ble_eq_true rfl) hx hb hr hlocks hP hD hS rfl dX11_setTolerance_13

/-! X11_addTone -/
theorem dX11_addTone_0 : decode cX11_addTone 0 = .ok (.aload_n 0, 1) := by decide +kernel
theorem dX11_addTone_1 : decode cX11_addTone 1 = .ok (.invokevirtual 86, 3) := by decide +kernel
theorem dX11_addTone_4 : decode cX11_addTone 4 = .ok (.aload_n 0, 1) := by decide +kernel
theorem dX11_addTone_5 : decode cX11_addTone 5 = .ok (.aload_n 0, 1) := by decide +kernel
theorem dX11_addTone_6 : decode cX11_addTone 6 = .ok (.iload_n 1, 1) := by decide +kernel
theorem dX11_addTone_7 : decode cX11_addTone 7 = .ok (.iload_n 2, 1) := by decide +kernel
theorem dX11_addTone_8 : decode cX11_addTone 8 = .ok (.invokevirtual 126, 3) := by decide +kernel
theorem dX11_addTone_11 : decode cX11_addTone 11 = .ok (.invokevirtual 93, 3) := by decide +kernel
theorem dX11_addTone_14 : decode cX11_addTone 14 = .ok (.ireturn, 1) := by decide +kernel
def f_X11_addTone (x_g : (Nat → Int32)) (x_before : (Nat → Int32)) (x_history : (Nat → Int32)) (x_changes : Int32) (x_thrown : Int32) (p1 : Int32) (p2 : Int32) : Option (Int32 × (Nat → Int32) × (Nat → Int32) × (Nat → Int32) × Int32 × Int32) :=
  q_bd (f_X11_begin x_g x_before) (fun q1 =>
  q_bd (f_X11_addsTone x_g x_thrown p1 p2) (fun q2 =>
  q_bd (f_X11_kept q2.2.1 q1 x_history x_changes q2.2.2 q2.1) (fun q3 =>
  some (q3.1, q3.2.1, q1, q3.2.2.1, q3.2.2.2, q2.2.2))))
theorem hv_X11_addTone : yX11_addTone.cls = RX11 ∧ yX11_addTone.cls ≠ "java/lang/invoke/MethodHandle" ∧ yX11_addTone.cls ≠ "java/lang/invoke/VarHandle" ∧ (parseMethodDescriptor yX11_addTone.desc).map (fun d => d.parameters.length) = some 2 := by decide +kernel
abbrev rm_X11_addTone : Room := { frames := 3, cells := 0, slots := 0, locals := 66 }
set_option maxHeartbeats 4000000 in
set_option maxRecDepth 100000 in
theorem k_X11_addTone (l : Launch) (E : ET) (a : Nat → Nat) (o : Nat) (x : Model_t) (p1 : Int32) (p2 : Int32) (res : Int32 × (Nat → Int32) × (Nat → Int32) × (Nat → Int32) × Int32 × Int32) (hF : f_X11_addTone x.1.1 x.1.2.1 x.1.2.2.1 x.1.2.2.2.1 x.2.2.2.1 p1 p2 = some res) (sz : Nat) : CtI l yX11_addTone (mws yX11_addTone cX11_addTone 3 (some .int)) rm_X11_addTone 0 0 [.ref (a o), .int p1, .int p2] E (bl_Model E a o x) res.1 (bl_Model E a o ((res.2.1, res.2.2.1, res.2.2.2.1, res.2.2.2.2.1, x.1.2.2.2.2), (x.2.1.1, x.2.1.2.1, x.2.1.2.2.1, x.2.1.2.2.2.1, x.2.1.2.2.2.2), (x.2.2.1.1, x.2.2.1.2.1, x.2.2.1.2.2.1, x.2.2.1.2.2.2), (res.2.2.2.2.2, x.2.2.2.2.1, x.2.2.2.2.2.1, x.2.2.2.2.2.2))) sz := by
  refine mk_M (by decide +kernel) (Nat.le_of_ble_eq_true rfl) ?_
  intro p e s m below meth c A args Q ls hAe hsz hQ hx hb hr hml hin ha hown hlocks hA hz hzs hst hP hD hS hl
  have hown : s.vm.findClass RX11 = some m.cls := hown
  rw [hAe] at hQ
  subst hsz
  have hP : va_P E.1 vwCl (List.flatten [w_Model E a o x]) s.heap := hP
  have hD : va_D A (List.flatten [w_Model E a o x]) := hD
  have hl : lv_has ls 3 [(0, .ref (a o)), (1, .int p1), (2, .int p2)] := hl
  generalize hHe : s.heap = H at hP
  have hS : va_S A s.heap H [] := by rw [← hHe]; exact hS
  generalize ([] : List Loc) = locs at hS ⊢
  unfold f_X11_addTone at hF
  refine lv_aload_n hx hb dX11_addTone_0 rfl (lv_at hl 0 rfl) ?_
  obtain ⟨q1, hq1, hF⟩ := q_bdi hF
  refine cl_v (Lc := [w_Model E a o x]) (Lc' := [w_Model E a o ((x.1.1, q1, x.1.2.2.1, x.1.2.2.2.1, x.1.2.2.2.2), (x.2.1.1, x.2.1.2.1, x.2.1.2.2.1, x.2.1.2.2.2.1, x.2.1.2.2.2.2), (x.2.2.1.1, x.2.2.1.2.1, x.2.2.1.2.2.1, x.2.2.1.2.2.2), (x.2.2.2.1, x.2.2.2.2.1, x.2.2.2.2.2.1, x.2.2.2.2.2.2))]) (L' := [w_Model E a o ((x.1.1, q1, x.1.2.2.1, x.1.2.2.2.1, x.1.2.2.2.2), (x.2.1.1, x.2.1.2.1, x.2.1.2.2.1, x.2.1.2.2.2.1, x.2.1.2.2.2.2), (x.2.2.1.1, x.2.2.1.2.1, x.2.2.1.2.2.1, x.2.2.1.2.2.2), (x.2.2.2.1, x.2.2.2.2.1, x.2.2.2.2.2.1, x.2.2.2.2.2.2))]) (va_runV (As := []) (rest := []) ⟨hx, hb, hml, hown, ha⟩ (k_X11_begin l E a o x q1 hq1 H.size) (cwV 0 ha (gi_V (fun _ h => h) mw1699 mw1701 mw27 mw87 mw1702) rfl rfl rfl hv_X11_begin ⟨(Nat.le_of_ble_eq_true rfl), (Nat.le_of_ble_eq_true rfl)⟩) ⟨pre_blind, va_recv hst.k (fr_P hP [0] rfl) (ci := 13) (q0 := 0) rfl rfl, pre_at hP hD hS hz hzs hst [0] (by decide) rfl rfl⟩ rfl rfl hl.1 rfl (lv_room (Nat.le_of_ble_eq_true rfl)) dX11_addTone_1 ⟨(Nat.le_of_ble_eq_true rfl), (Nat.le_of_ble_eq_true rfl)⟩) hP hD hS hA [0] (by decide) rfl rfl rfl rfl (fun H locs hP hD hS => ?_)
  refine lv_aload_n hx hb dX11_addTone_4 rfl (lv_at hl 0 rfl) ?_
  refine lv_aload_n hx hb dX11_addTone_5 rfl (lv_at hl 0 rfl) ?_
  refine lv_iload_n hx hb dX11_addTone_6 rfl (lv_at hl 1 rfl) ?_
  refine lv_iload_n hx hb dX11_addTone_7 rfl (lv_at hl 2 rfl) ?_
  obtain ⟨q2, hq2, hF⟩ := q_bdi hF
  refine cl_i (Lc := [w_Model E a o ((x.1.1, q1, x.1.2.2.1, x.1.2.2.2.1, x.1.2.2.2.2), (x.2.1.1, x.2.1.2.1, x.2.1.2.2.1, x.2.1.2.2.2.1, x.2.1.2.2.2.2), (x.2.2.1.1, x.2.2.1.2.1, x.2.2.1.2.2.1, x.2.2.1.2.2.2), (x.2.2.2.1, x.2.2.2.2.1, x.2.2.2.2.2.1, x.2.2.2.2.2.2))]) (Lc' := [w_Model E a o ((q2.2.1, q1, x.1.2.2.1, x.1.2.2.2.1, x.1.2.2.2.2), (x.2.1.1, x.2.1.2.1, x.2.1.2.2.1, x.2.1.2.2.2.1, x.2.1.2.2.2.2), (x.2.2.1.1, x.2.2.1.2.1, x.2.2.1.2.2.1, x.2.2.1.2.2.2), (q2.2.2, x.2.2.2.2.1, x.2.2.2.2.2.1, x.2.2.2.2.2.2))]) (L' := [w_Model E a o ((q2.2.1, q1, x.1.2.2.1, x.1.2.2.2.1, x.1.2.2.2.2), (x.2.1.1, x.2.1.2.1, x.2.1.2.2.1, x.2.1.2.2.2.1, x.2.1.2.2.2.2), (x.2.2.1.1, x.2.2.1.2.1, x.2.2.1.2.2.1, x.2.2.1.2.2.2), (q2.2.2, x.2.2.2.2.1, x.2.2.2.2.2.1, x.2.2.2.2.2.2))]) (rv := q2.1) (va_runV (As := [.int p1, .int p2]) (rest := [.ref (a o)]) ⟨hx, hb, hml, hown, ha⟩ (k_X11_addsTone l E a o ((x.1.1, q1, x.1.2.2.1, x.1.2.2.2.1, x.1.2.2.2.2), (x.2.1.1, x.2.1.2.1, x.2.1.2.2.1, x.2.1.2.2.2.1, x.2.1.2.2.2.2), (x.2.2.1.1, x.2.2.1.2.1, x.2.2.1.2.2.1, x.2.2.1.2.2.2), (x.2.2.2.1, x.2.2.2.2.1, x.2.2.2.2.2.1, x.2.2.2.2.2.2)) p1 p2 q2 hq2 H.size) (cwV 2 ha (gi_V (fun _ h => h) mw1817 mw1819 mw45 mw87 mw1820) rfl rfl rfl hv_X11_addsTone ⟨(Nat.le_of_ble_eq_true rfl), (Nat.le_of_ble_eq_true rfl)⟩) ⟨pre_blind, va_recv hst.k (fr_P hP [0] rfl) (ci := 13) (q0 := 0) rfl rfl, pre_at hP hD hS hz hzs hst [0] (by decide) rfl rfl⟩ rfl rfl hl.1 rfl (lv_room (Nat.le_of_ble_eq_true rfl)) dX11_addTone_8 ⟨(Nat.le_of_ble_eq_true rfl), (Nat.le_of_ble_eq_true rfl)⟩) hP hD hS hA [0] (by decide) rfl rfl rfl rfl (fun H locs hP hD hS => ?_)
  obtain ⟨q3, hq3, hF⟩ := q_bdi hF
  refine cl_i (Lc := [w_Model E a o ((q2.2.1, q1, x.1.2.2.1, x.1.2.2.2.1, x.1.2.2.2.2), (x.2.1.1, x.2.1.2.1, x.2.1.2.2.1, x.2.1.2.2.2.1, x.2.1.2.2.2.2), (x.2.2.1.1, x.2.2.1.2.1, x.2.2.1.2.2.1, x.2.2.1.2.2.2), (q2.2.2, x.2.2.2.2.1, x.2.2.2.2.2.1, x.2.2.2.2.2.2))]) (Lc' := [w_Model E a o ((q3.2.1, q1, q3.2.2.1, q3.2.2.2, x.1.2.2.2.2), (x.2.1.1, x.2.1.2.1, x.2.1.2.2.1, x.2.1.2.2.2.1, x.2.1.2.2.2.2), (x.2.2.1.1, x.2.2.1.2.1, x.2.2.1.2.2.1, x.2.2.1.2.2.2), (q2.2.2, x.2.2.2.2.1, x.2.2.2.2.2.1, x.2.2.2.2.2.2))]) (L' := [w_Model E a o ((q3.2.1, q1, q3.2.2.1, q3.2.2.2, x.1.2.2.2.2), (x.2.1.1, x.2.1.2.1, x.2.1.2.2.1, x.2.1.2.2.2.1, x.2.1.2.2.2.2), (x.2.2.1.1, x.2.2.1.2.1, x.2.2.1.2.2.1, x.2.2.1.2.2.2), (q2.2.2, x.2.2.2.2.1, x.2.2.2.2.2.1, x.2.2.2.2.2.2))]) (rv := q3.1) (va_runV (As := [.int q2.1]) (rest := []) ⟨hx, hb, hml, hown, ha⟩ (k_X11_kept l E a o ((q2.2.1, q1, x.1.2.2.1, x.1.2.2.2.1, x.1.2.2.2.2), (x.2.1.1, x.2.1.2.1, x.2.1.2.2.1, x.2.1.2.2.2.1, x.2.1.2.2.2.2), (x.2.2.1.1, x.2.2.1.2.1, x.2.2.1.2.2.1, x.2.2.1.2.2.2), (q2.2.2, x.2.2.2.2.1, x.2.2.2.2.2.1, x.2.2.2.2.2.2)) q2.1 q3 hq3 H.size) (cwV 1 ha (gi_V (fun _ h => h) mw1724 mw1726 mw31 mw87 mw1727) rfl rfl rfl hv_X11_kept ⟨(Nat.le_of_ble_eq_true rfl), (Nat.le_of_ble_eq_true rfl)⟩) ⟨pre_blind, va_recv hst.k (fr_P hP [0] rfl) (ci := 13) (q0 := 0) rfl rfl, pre_at hP hD hS hz hzs hst [0] (by decide) rfl rfl⟩ rfl rfl hl.1 rfl (lv_room (Nat.le_of_ble_eq_true rfl)) dX11_addTone_11 ⟨(Nat.le_of_ble_eq_true rfl), (Nat.le_of_ble_eq_true rfl)⟩) hP hD hS hA [0] (by decide) rfl rfl rfl rfl (fun H locs hP hD hS => ?_)
  obtain rfl := Option.some.inj hF
  exact en_i hQ (Nat.le_of_ble_eq_true rfl) (Nat.le_of_ble_eq_true rfl) hx hb hr hlocks hP hD hS rfl dX11_addTone_14

/-! X11_clearMelody -/
theorem dX11_clearMelody_0 : decode cX11_clearMelody 0 = .ok (.aload_n 0, 1) := by decide +kernel
theorem dX11_clearMelody_1 : decode cX11_clearMelody 1 = .ok (.invokevirtual 86, 3) := by decide +kernel
theorem dX11_clearMelody_4 : decode cX11_clearMelody 4 = .ok (.aload_n 0, 1) := by decide +kernel
theorem dX11_clearMelody_5 : decode cX11_clearMelody 5 = .ok (.aload_n 0, 1) := by decide +kernel
theorem dX11_clearMelody_6 : decode cX11_clearMelody 6 = .ok (.iload_n 1, 1) := by decide +kernel
theorem dX11_clearMelody_7 : decode cX11_clearMelody 7 = .ok (.invokevirtual 129, 3) := by decide +kernel
theorem dX11_clearMelody_10 : decode cX11_clearMelody 10 = .ok (.invokevirtual 93, 3) := by decide +kernel
theorem dX11_clearMelody_13 : decode cX11_clearMelody 13 = .ok (.ireturn, 1) := by decide +kernel
def f_X11_clearMelody (x_g : (Nat → Int32)) (x_before : (Nat → Int32)) (x_history : (Nat → Int32)) (x_changes : Int32) (x_thrown : Int32) (p1 : Int32) : Option (Int32 × (Nat → Int32) × (Nat → Int32) × (Nat → Int32) × Int32 × Int32) :=
  q_bd (f_X11_begin x_g x_before) (fun q1 =>
  q_bd (f_X11_clears x_g x_thrown p1) (fun q2 =>
  q_bd (f_X11_kept q2.2.1 q1 x_history x_changes q2.2.2 q2.1) (fun q3 =>
  some (q3.1, q3.2.1, q1, q3.2.2.1, q3.2.2.2, q2.2.2))))
theorem hv_X11_clearMelody : yX11_clearMelody.cls = RX11 ∧ yX11_clearMelody.cls ≠ "java/lang/invoke/MethodHandle" ∧ yX11_clearMelody.cls ≠ "java/lang/invoke/VarHandle" ∧ (parseMethodDescriptor yX11_clearMelody.desc).map (fun d => d.parameters.length) = some 1 := by decide +kernel
abbrev rm_X11_clearMelody : Room := { frames := 3, cells := 0, slots := 0, locals := 65 }
set_option maxHeartbeats 4000000 in
set_option maxRecDepth 100000 in
theorem k_X11_clearMelody (l : Launch) (E : ET) (a : Nat → Nat) (o : Nat) (x : Model_t) (p1 : Int32) (res : Int32 × (Nat → Int32) × (Nat → Int32) × (Nat → Int32) × Int32 × Int32) (hF : f_X11_clearMelody x.1.1 x.1.2.1 x.1.2.2.1 x.1.2.2.2.1 x.2.2.2.1 p1 = some res) (sz : Nat) : CtI l yX11_clearMelody (mws yX11_clearMelody cX11_clearMelody 2 (some .int)) rm_X11_clearMelody 0 0 [.ref (a o), .int p1] E (bl_Model E a o x) res.1 (bl_Model E a o ((res.2.1, res.2.2.1, res.2.2.2.1, res.2.2.2.2.1, x.1.2.2.2.2), (x.2.1.1, x.2.1.2.1, x.2.1.2.2.1, x.2.1.2.2.2.1, x.2.1.2.2.2.2), (x.2.2.1.1, x.2.2.1.2.1, x.2.2.1.2.2.1, x.2.2.1.2.2.2), (res.2.2.2.2.2, x.2.2.2.2.1, x.2.2.2.2.2.1, x.2.2.2.2.2.2))) sz := by
  refine mk_M (by decide +kernel) (Nat.le_of_ble_eq_true rfl) ?_
  intro p e s m below meth c A args Q ls hAe hsz hQ hx hb hr hml hin ha hown hlocks hA hz hzs hst hP hD hS hl
  have hown : s.vm.findClass RX11 = some m.cls := hown
  rw [hAe] at hQ
  subst hsz
  have hP : va_P E.1 vwCl (List.flatten [w_Model E a o x]) s.heap := hP
  have hD : va_D A (List.flatten [w_Model E a o x]) := hD
  have hl : lv_has ls 2 [(0, .ref (a o)), (1, .int p1)] := hl
  generalize hHe : s.heap = H at hP
  have hS : va_S A s.heap H [] := by rw [← hHe]; exact hS
  generalize ([] : List Loc) = locs at hS ⊢
  unfold f_X11_clearMelody at hF
  refine lv_aload_n hx hb dX11_clearMelody_0 rfl (lv_at hl 0 rfl) ?_
  obtain ⟨q1, hq1, hF⟩ := q_bdi hF
  refine cl_v (Lc := [w_Model E a o x]) (Lc' := [w_Model E a o ((x.1.1, q1, x.1.2.2.1, x.1.2.2.2.1, x.1.2.2.2.2), (x.2.1.1, x.2.1.2.1, x.2.1.2.2.1, x.2.1.2.2.2.1, x.2.1.2.2.2.2), (x.2.2.1.1, x.2.2.1.2.1, x.2.2.1.2.2.1, x.2.2.1.2.2.2), (x.2.2.2.1, x.2.2.2.2.1, x.2.2.2.2.2.1, x.2.2.2.2.2.2))]) (L' := [w_Model E a o ((x.1.1, q1, x.1.2.2.1, x.1.2.2.2.1, x.1.2.2.2.2), (x.2.1.1, x.2.1.2.1, x.2.1.2.2.1, x.2.1.2.2.2.1, x.2.1.2.2.2.2), (x.2.2.1.1, x.2.2.1.2.1, x.2.2.1.2.2.1, x.2.2.1.2.2.2), (x.2.2.2.1, x.2.2.2.2.1, x.2.2.2.2.2.1, x.2.2.2.2.2.2))]) (va_runV (As := []) (rest := []) ⟨hx, hb, hml, hown, ha⟩ (k_X11_begin l E a o x q1 hq1 H.size) (cwV 0 ha (gi_V (fun _ h => h) mw1699 mw1701 mw27 mw87 mw1702) rfl rfl rfl hv_X11_begin ⟨(Nat.le_of_ble_eq_true rfl), (Nat.le_of_ble_eq_true rfl)⟩) ⟨pre_blind, va_recv hst.k (fr_P hP [0] rfl) (ci := 13) (q0 := 0) rfl rfl, pre_at hP hD hS hz hzs hst [0] (by decide) rfl rfl⟩ rfl rfl hl.1 rfl (lv_room (Nat.le_of_ble_eq_true rfl)) dX11_clearMelody_1 ⟨(Nat.le_of_ble_eq_true rfl), (Nat.le_of_ble_eq_true rfl)⟩) hP hD hS hA [0] (by decide) rfl rfl rfl rfl (fun H locs hP hD hS => ?_)
  refine lv_aload_n hx hb dX11_clearMelody_4 rfl (lv_at hl 0 rfl) ?_
  refine lv_aload_n hx hb dX11_clearMelody_5 rfl (lv_at hl 0 rfl) ?_
  refine lv_iload_n hx hb dX11_clearMelody_6 rfl (lv_at hl 1 rfl) ?_
  obtain ⟨q2, hq2, hF⟩ := q_bdi hF
  refine cl_i (Lc := [w_Model E a o ((x.1.1, q1, x.1.2.2.1, x.1.2.2.2.1, x.1.2.2.2.2), (x.2.1.1, x.2.1.2.1, x.2.1.2.2.1, x.2.1.2.2.2.1, x.2.1.2.2.2.2), (x.2.2.1.1, x.2.2.1.2.1, x.2.2.1.2.2.1, x.2.2.1.2.2.2), (x.2.2.2.1, x.2.2.2.2.1, x.2.2.2.2.2.1, x.2.2.2.2.2.2))]) (Lc' := [w_Model E a o ((q2.2.1, q1, x.1.2.2.1, x.1.2.2.2.1, x.1.2.2.2.2), (x.2.1.1, x.2.1.2.1, x.2.1.2.2.1, x.2.1.2.2.2.1, x.2.1.2.2.2.2), (x.2.2.1.1, x.2.2.1.2.1, x.2.2.1.2.2.1, x.2.2.1.2.2.2), (q2.2.2, x.2.2.2.2.1, x.2.2.2.2.2.1, x.2.2.2.2.2.2))]) (L' := [w_Model E a o ((q2.2.1, q1, x.1.2.2.1, x.1.2.2.2.1, x.1.2.2.2.2), (x.2.1.1, x.2.1.2.1, x.2.1.2.2.1, x.2.1.2.2.2.1, x.2.1.2.2.2.2), (x.2.2.1.1, x.2.2.1.2.1, x.2.2.1.2.2.1, x.2.2.1.2.2.2), (q2.2.2, x.2.2.2.2.1, x.2.2.2.2.2.1, x.2.2.2.2.2.2))]) (rv := q2.1) (va_runV (As := [.int p1]) (rest := [.ref (a o)]) ⟨hx, hb, hml, hown, ha⟩ (k_X11_clears l E a o ((x.1.1, q1, x.1.2.2.1, x.1.2.2.2.1, x.1.2.2.2.2), (x.2.1.1, x.2.1.2.1, x.2.1.2.2.1, x.2.1.2.2.2.1, x.2.1.2.2.2.2), (x.2.2.1.1, x.2.2.1.2.1, x.2.2.1.2.2.1, x.2.2.1.2.2.2), (x.2.2.2.1, x.2.2.2.2.1, x.2.2.2.2.2.1, x.2.2.2.2.2.2)) p1 q2 hq2 H.size) (cwV 1 ha (gi_V (fun _ h => h) mw1825 mw1827 mw46 mw87 mw1828) rfl rfl rfl hv_X11_clears ⟨(Nat.le_of_ble_eq_true rfl), (Nat.le_of_ble_eq_true rfl)⟩) ⟨pre_blind, va_recv hst.k (fr_P hP [0] rfl) (ci := 13) (q0 := 0) rfl rfl, pre_at hP hD hS hz hzs hst [0] (by decide) rfl rfl⟩ rfl rfl hl.1 rfl (lv_room (Nat.le_of_ble_eq_true rfl)) dX11_clearMelody_7 ⟨(Nat.le_of_ble_eq_true rfl), (Nat.le_of_ble_eq_true rfl)⟩) hP hD hS hA [0] (by decide) rfl rfl rfl rfl (fun H locs hP hD hS => ?_)
  obtain ⟨q3, hq3, hF⟩ := q_bdi hF
  refine cl_i (Lc := [w_Model E a o ((q2.2.1, q1, x.1.2.2.1, x.1.2.2.2.1, x.1.2.2.2.2), (x.2.1.1, x.2.1.2.1, x.2.1.2.2.1, x.2.1.2.2.2.1, x.2.1.2.2.2.2), (x.2.2.1.1, x.2.2.1.2.1, x.2.2.1.2.2.1, x.2.2.1.2.2.2), (q2.2.2, x.2.2.2.2.1, x.2.2.2.2.2.1, x.2.2.2.2.2.2))]) (Lc' := [w_Model E a o ((q3.2.1, q1, q3.2.2.1, q3.2.2.2, x.1.2.2.2.2), (x.2.1.1, x.2.1.2.1, x.2.1.2.2.1, x.2.1.2.2.2.1, x.2.1.2.2.2.2), (x.2.2.1.1, x.2.2.1.2.1, x.2.2.1.2.2.1, x.2.2.1.2.2.2), (q2.2.2, x.2.2.2.2.1, x.2.2.2.2.2.1, x.2.2.2.2.2.2))]) (L' := [w_Model E a o ((q3.2.1, q1, q3.2.2.1, q3.2.2.2, x.1.2.2.2.2), (x.2.1.1, x.2.1.2.1, x.2.1.2.2.1, x.2.1.2.2.2.1, x.2.1.2.2.2.2), (x.2.2.1.1, x.2.2.1.2.1, x.2.2.1.2.2.1, x.2.2.1.2.2.2), (q2.2.2, x.2.2.2.2.1, x.2.2.2.2.2.1, x.2.2.2.2.2.2))]) (rv := q3.1) (va_runV (As := [.int q2.1]) (rest := []) ⟨hx, hb, hml, hown, ha⟩ (k_X11_kept l E a o ((q2.2.1, q1, x.1.2.2.1, x.1.2.2.2.1, x.1.2.2.2.2), (x.2.1.1, x.2.1.2.1, x.2.1.2.2.1, x.2.1.2.2.2.1, x.2.1.2.2.2.2), (x.2.2.1.1, x.2.2.1.2.1, x.2.2.1.2.2.1, x.2.2.1.2.2.2), (q2.2.2, x.2.2.2.2.1, x.2.2.2.2.2.1, x.2.2.2.2.2.2)) q2.1 q3 hq3 H.size) (cwV 1 ha (gi_V (fun _ h => h) mw1724 mw1726 mw31 mw87 mw1727) rfl rfl rfl hv_X11_kept ⟨(Nat.le_of_ble_eq_true rfl), (Nat.le_of_ble_eq_true rfl)⟩) ⟨pre_blind, va_recv hst.k (fr_P hP [0] rfl) (ci := 13) (q0 := 0) rfl rfl, pre_at hP hD hS hz hzs hst [0] (by decide) rfl rfl⟩ rfl rfl hl.1 rfl (lv_room (Nat.le_of_ble_eq_true rfl)) dX11_clearMelody_10 ⟨(Nat.le_of_ble_eq_true rfl), (Nat.le_of_ble_eq_true rfl)⟩) hP hD hS hA [0] (by decide) rfl rfl rfl rfl (fun H locs hP hD hS => ?_)
  obtain rfl := Option.some.inj hF
  exact en_i hQ (Nat.le_of_ble_eq_true rfl) (Nat.le_of_ble_eq_true rfl) hx hb hr hlocks hP hD hS rfl dX11_clearMelody_13

/-! X11_setEntry -/
theorem dX11_setEntry_0 : decode cX11_setEntry 0 = .ok (.aload_n 0, 1) := by decide +kernel
theorem dX11_setEntry_1 : decode cX11_setEntry 1 = .ok (.invokevirtual 86, 3) := by decide +kernel
theorem dX11_setEntry_4 : decode cX11_setEntry 4 = .ok (.aload_n 0, 1) := by decide +kernel
theorem dX11_setEntry_5 : decode cX11_setEntry 5 = .ok (.aload_n 0, 1) := by decide +kernel
theorem dX11_setEntry_6 : decode cX11_setEntry 6 = .ok (.iload_n 1, 1) := by decide +kernel
theorem dX11_setEntry_7 : decode cX11_setEntry 7 = .ok (.iload_n 2, 1) := by decide +kernel
theorem dX11_setEntry_8 : decode cX11_setEntry 8 = .ok (.invokevirtual 132, 3) := by decide +kernel
theorem dX11_setEntry_11 : decode cX11_setEntry 11 = .ok (.invokevirtual 93, 3) := by decide +kernel
theorem dX11_setEntry_14 : decode cX11_setEntry 14 = .ok (.ireturn, 1) := by decide +kernel
def f_X11_setEntry (x_g : (Nat → Int32)) (x_before : (Nat → Int32)) (x_history : (Nat → Int32)) (x_changes : Int32) (x_thrown : Int32) (p1 : Int32) (p2 : Int32) : Option (Int32 × (Nat → Int32) × (Nat → Int32) × (Nat → Int32) × Int32 × Int32) :=
  q_bd (f_X11_begin x_g x_before) (fun q1 =>
  q_bd (f_X11_enters x_g x_thrown p1 p2) (fun q2 =>
  q_bd (f_X11_kept q2.2.1 q1 x_history x_changes q2.2.2 q2.1) (fun q3 =>
  some (q3.1, q3.2.1, q1, q3.2.2.1, q3.2.2.2, q2.2.2))))
theorem hv_X11_setEntry : yX11_setEntry.cls = RX11 ∧ yX11_setEntry.cls ≠ "java/lang/invoke/MethodHandle" ∧ yX11_setEntry.cls ≠ "java/lang/invoke/VarHandle" ∧ (parseMethodDescriptor yX11_setEntry.desc).map (fun d => d.parameters.length) = some 2 := by decide +kernel
abbrev rm_X11_setEntry : Room := { frames := 3, cells := 0, slots := 0, locals := 65 }
set_option maxHeartbeats 4000000 in
set_option maxRecDepth 100000 in
theorem k_X11_setEntry (l : Launch) (E : ET) (a : Nat → Nat) (o : Nat) (x : Model_t) (p1 : Int32) (p2 : Int32) (res : Int32 × (Nat → Int32) × (Nat → Int32) × (Nat → Int32) × Int32 × Int32) (hF : f_X11_setEntry x.1.1 x.1.2.1 x.1.2.2.1 x.1.2.2.2.1 x.2.2.2.1 p1 p2 = some res) (sz : Nat) : CtI l yX11_setEntry (mws yX11_setEntry cX11_setEntry 3 (some .int)) rm_X11_setEntry 0 0 [.ref (a o), .int p1, .int p2] E (bl_Model E a o x) res.1 (bl_Model E a o ((res.2.1, res.2.2.1, res.2.2.2.1, res.2.2.2.2.1, x.1.2.2.2.2), (x.2.1.1, x.2.1.2.1, x.2.1.2.2.1, x.2.1.2.2.2.1, x.2.1.2.2.2.2), (x.2.2.1.1, x.2.2.1.2.1, x.2.2.1.2.2.1, x.2.2.1.2.2.2), (res.2.2.2.2.2, x.2.2.2.2.1, x.2.2.2.2.2.1, x.2.2.2.2.2.2))) sz := by
  refine mk_M (by decide +kernel) (Nat.le_of_ble_eq_true rfl) ?_
  intro p e s m below meth c A args Q ls hAe hsz hQ hx hb hr hml hin ha hown hlocks hA hz hzs hst hP hD hS hl
  have hown : s.vm.findClass RX11 = some m.cls := hown
  rw [hAe] at hQ
  subst hsz
  have hP : va_P E.1 vwCl (List.flatten [w_Model E a o x]) s.heap := hP
  have hD : va_D A (List.flatten [w_Model E a o x]) := hD
  have hl : lv_has ls 3 [(0, .ref (a o)), (1, .int p1), (2, .int p2)] := hl
  generalize hHe : s.heap = H at hP
  have hS : va_S A s.heap H [] := by rw [← hHe]; exact hS
  generalize ([] : List Loc) = locs at hS ⊢
  unfold f_X11_setEntry at hF
  refine lv_aload_n hx hb dX11_setEntry_0 rfl (lv_at hl 0 rfl) ?_
  obtain ⟨q1, hq1, hF⟩ := q_bdi hF
  refine cl_v (Lc := [w_Model E a o x]) (Lc' := [w_Model E a o ((x.1.1, q1, x.1.2.2.1, x.1.2.2.2.1, x.1.2.2.2.2), (x.2.1.1, x.2.1.2.1, x.2.1.2.2.1, x.2.1.2.2.2.1, x.2.1.2.2.2.2), (x.2.2.1.1, x.2.2.1.2.1, x.2.2.1.2.2.1, x.2.2.1.2.2.2), (x.2.2.2.1, x.2.2.2.2.1, x.2.2.2.2.2.1, x.2.2.2.2.2.2))]) (L' := [w_Model E a o ((x.1.1, q1, x.1.2.2.1, x.1.2.2.2.1, x.1.2.2.2.2), (x.2.1.1, x.2.1.2.1, x.2.1.2.2.1, x.2.1.2.2.2.1, x.2.1.2.2.2.2), (x.2.2.1.1, x.2.2.1.2.1, x.2.2.1.2.2.1, x.2.2.1.2.2.2), (x.2.2.2.1, x.2.2.2.2.1, x.2.2.2.2.2.1, x.2.2.2.2.2.2))]) (va_runV (As := []) (rest := []) ⟨hx, hb, hml, hown, ha⟩ (k_X11_begin l E a o x q1 hq1 H.size) (cwV 0 ha (gi_V (fun _ h => h) mw1699 mw1701 mw27 mw87 mw1702) rfl rfl rfl hv_X11_begin ⟨(Nat.le_of_ble_eq_true rfl), (Nat.le_of_ble_eq_true rfl)⟩) ⟨pre_blind, va_recv hst.k (fr_P hP [0] rfl) (ci := 13) (q0 := 0) rfl rfl, pre_at hP hD hS hz hzs hst [0] (by decide) rfl rfl⟩ rfl rfl hl.1 rfl (lv_room (Nat.le_of_ble_eq_true rfl)) dX11_setEntry_1 ⟨(Nat.le_of_ble_eq_true rfl), (Nat.le_of_ble_eq_true rfl)⟩) hP hD hS hA [0] (by decide) rfl rfl rfl rfl (fun H locs hP hD hS => ?_)
  refine lv_aload_n hx hb dX11_setEntry_4 rfl (lv_at hl 0 rfl) ?_
  refine lv_aload_n hx hb dX11_setEntry_5 rfl (lv_at hl 0 rfl) ?_
  refine lv_iload_n hx hb dX11_setEntry_6 rfl (lv_at hl 1 rfl) ?_
  refine lv_iload_n hx hb dX11_setEntry_7 rfl (lv_at hl 2 rfl) ?_
  obtain ⟨q2, hq2, hF⟩ := q_bdi hF
  refine cl_i (Lc := [w_Model E a o ((x.1.1, q1, x.1.2.2.1, x.1.2.2.2.1, x.1.2.2.2.2), (x.2.1.1, x.2.1.2.1, x.2.1.2.2.1, x.2.1.2.2.2.1, x.2.1.2.2.2.2), (x.2.2.1.1, x.2.2.1.2.1, x.2.2.1.2.2.1, x.2.2.1.2.2.2), (x.2.2.2.1, x.2.2.2.2.1, x.2.2.2.2.2.1, x.2.2.2.2.2.2))]) (Lc' := [w_Model E a o ((q2.2.1, q1, x.1.2.2.1, x.1.2.2.2.1, x.1.2.2.2.2), (x.2.1.1, x.2.1.2.1, x.2.1.2.2.1, x.2.1.2.2.2.1, x.2.1.2.2.2.2), (x.2.2.1.1, x.2.2.1.2.1, x.2.2.1.2.2.1, x.2.2.1.2.2.2), (q2.2.2, x.2.2.2.2.1, x.2.2.2.2.2.1, x.2.2.2.2.2.2))]) (L' := [w_Model E a o ((q2.2.1, q1, x.1.2.2.1, x.1.2.2.2.1, x.1.2.2.2.2), (x.2.1.1, x.2.1.2.1, x.2.1.2.2.1, x.2.1.2.2.2.1, x.2.1.2.2.2.2), (x.2.2.1.1, x.2.2.1.2.1, x.2.2.1.2.2.1, x.2.2.1.2.2.2), (q2.2.2, x.2.2.2.2.1, x.2.2.2.2.2.1, x.2.2.2.2.2.2))]) (rv := q2.1) (va_runV (As := [.int p1, .int p2]) (rest := [.ref (a o)]) ⟨hx, hb, hml, hown, ha⟩ (k_X11_enters l E a o ((x.1.1, q1, x.1.2.2.1, x.1.2.2.2.1, x.1.2.2.2.2), (x.2.1.1, x.2.1.2.1, x.2.1.2.2.1, x.2.1.2.2.2.1, x.2.1.2.2.2.2), (x.2.2.1.1, x.2.2.1.2.1, x.2.2.1.2.2.1, x.2.2.1.2.2.2), (x.2.2.2.1, x.2.2.2.2.1, x.2.2.2.2.2.1, x.2.2.2.2.2.2)) p1 p2 q2 hq2 H.size) (cwV 2 ha (gi_V (fun _ h => h) mw1833 mw1835 mw47 mw87 mw1836) rfl rfl rfl hv_X11_enters ⟨(Nat.le_of_ble_eq_true rfl), (Nat.le_of_ble_eq_true rfl)⟩) ⟨pre_blind, va_recv hst.k (fr_P hP [0] rfl) (ci := 13) (q0 := 0) rfl rfl, pre_at hP hD hS hz hzs hst [0] (by decide) rfl rfl⟩ rfl rfl hl.1 rfl (lv_room (Nat.le_of_ble_eq_true rfl)) dX11_setEntry_8 ⟨(Nat.le_of_ble_eq_true rfl), (Nat.le_of_ble_eq_true rfl)⟩) hP hD hS hA [0] (by decide) rfl rfl rfl rfl (fun H locs hP hD hS => ?_)
  obtain ⟨q3, hq3, hF⟩ := q_bdi hF
  refine cl_i (Lc := [w_Model E a o ((q2.2.1, q1, x.1.2.2.1, x.1.2.2.2.1, x.1.2.2.2.2), (x.2.1.1, x.2.1.2.1, x.2.1.2.2.1, x.2.1.2.2.2.1, x.2.1.2.2.2.2), (x.2.2.1.1, x.2.2.1.2.1, x.2.2.1.2.2.1, x.2.2.1.2.2.2), (q2.2.2, x.2.2.2.2.1, x.2.2.2.2.2.1, x.2.2.2.2.2.2))]) (Lc' := [w_Model E a o ((q3.2.1, q1, q3.2.2.1, q3.2.2.2, x.1.2.2.2.2), (x.2.1.1, x.2.1.2.1, x.2.1.2.2.1, x.2.1.2.2.2.1, x.2.1.2.2.2.2), (x.2.2.1.1, x.2.2.1.2.1, x.2.2.1.2.2.1, x.2.2.1.2.2.2), (q2.2.2, x.2.2.2.2.1, x.2.2.2.2.2.1, x.2.2.2.2.2.2))]) (L' := [w_Model E a o ((q3.2.1, q1, q3.2.2.1, q3.2.2.2, x.1.2.2.2.2), (x.2.1.1, x.2.1.2.1, x.2.1.2.2.1, x.2.1.2.2.2.1, x.2.1.2.2.2.2), (x.2.2.1.1, x.2.2.1.2.1, x.2.2.1.2.2.1, x.2.2.1.2.2.2), (q2.2.2, x.2.2.2.2.1, x.2.2.2.2.2.1, x.2.2.2.2.2.2))]) (rv := q3.1) (va_runV (As := [.int q2.1]) (rest := []) ⟨hx, hb, hml, hown, ha⟩ (k_X11_kept l E a o ((q2.2.1, q1, x.1.2.2.1, x.1.2.2.2.1, x.1.2.2.2.2), (x.2.1.1, x.2.1.2.1, x.2.1.2.2.1, x.2.1.2.2.2.1, x.2.1.2.2.2.2), (x.2.2.1.1, x.2.2.1.2.1, x.2.2.1.2.2.1, x.2.2.1.2.2.2), (q2.2.2, x.2.2.2.2.1, x.2.2.2.2.2.1, x.2.2.2.2.2.2)) q2.1 q3 hq3 H.size) (cwV 1 ha (gi_V (fun _ h => h) mw1724 mw1726 mw31 mw87 mw1727) rfl rfl rfl hv_X11_kept ⟨(Nat.le_of_ble_eq_true rfl), (Nat.le_of_ble_eq_true rfl)⟩) ⟨pre_blind, va_recv hst.k (fr_P hP [0] rfl) (ci := 13) (q0 := 0) rfl rfl, pre_at hP hD hS hz hzs hst [0] (by decide) rfl rfl⟩ rfl rfl hl.1 rfl (lv_room (Nat.le_of_ble_eq_true rfl)) dX11_setEntry_11 ⟨(Nat.le_of_ble_eq_true rfl), (Nat.le_of_ble_eq_true rfl)⟩) hP hD hS hA [0] (by decide) rfl rfl rfl rfl (fun H locs hP hD hS => ?_)
  obtain rfl := Option.some.inj hF
  exact en_i hQ (Nat.le_of_ble_eq_true rfl) (Nat.le_of_ble_eq_true rfl) hx hb hr hlocks hP hD hS rfl dX11_setEntry_14

/-! X11_addCliff -/
theorem dX11_addCliff_0 : decode cX11_addCliff 0 = .ok (.aload_n 0, 1) := by decide +kernel
theorem dX11_addCliff_1 : decode cX11_addCliff 1 = .ok (.invokevirtual 86, 3) := by decide +kernel
theorem dX11_addCliff_4 : decode cX11_addCliff 4 = .ok (.aload_n 0, 1) := by decide +kernel
theorem dX11_addCliff_5 : decode cX11_addCliff 5 = .ok (.aload_n 0, 1) := by decide +kernel
theorem dX11_addCliff_6 : decode cX11_addCliff 6 = .ok (.iload_n 1, 1) := by decide +kernel
theorem dX11_addCliff_7 : decode cX11_addCliff 7 = .ok (.iload_n 2, 1) := by decide +kernel
theorem dX11_addCliff_8 : decode cX11_addCliff 8 = .ok (.invokevirtual 135, 3) := by decide +kernel
theorem dX11_addCliff_11 : decode cX11_addCliff 11 = .ok (.invokevirtual 93, 3) := by decide +kernel
theorem dX11_addCliff_14 : decode cX11_addCliff 14 = .ok (.ireturn, 1) := by decide +kernel
def f_X11_addCliff (x_g : (Nat → Int32)) (x_before : (Nat → Int32)) (x_history : (Nat → Int32)) (x_changes : Int32) (x_thrown : Int32) (p1 : Int32) (p2 : Int32) : Option (Int32 × (Nat → Int32) × (Nat → Int32) × (Nat → Int32) × Int32 × Int32) :=
  q_bd (f_X11_begin x_g x_before) (fun q1 =>
  q_bd (f_X11_addsCliff x_g x_thrown p1 p2) (fun q2 =>
  q_bd (f_X11_kept q2.2.1 q1 x_history x_changes q2.2.2 q2.1) (fun q3 =>
  some (q3.1, q3.2.1, q1, q3.2.2.1, q3.2.2.2, q2.2.2))))
theorem hv_X11_addCliff : yX11_addCliff.cls = RX11 ∧ yX11_addCliff.cls ≠ "java/lang/invoke/MethodHandle" ∧ yX11_addCliff.cls ≠ "java/lang/invoke/VarHandle" ∧ (parseMethodDescriptor yX11_addCliff.desc).map (fun d => d.parameters.length) = some 2 := by decide +kernel
abbrev rm_X11_addCliff : Room := { frames := 2, cells := 0, slots := 0, locals := 46 }
set_option maxHeartbeats 4000000 in
set_option maxRecDepth 100000 in
theorem k_X11_addCliff (l : Launch) (E : ET) (a : Nat → Nat) (o : Nat) (x : Model_t) (p1 : Int32) (p2 : Int32) (res : Int32 × (Nat → Int32) × (Nat → Int32) × (Nat → Int32) × Int32 × Int32) (hF : f_X11_addCliff x.1.1 x.1.2.1 x.1.2.2.1 x.1.2.2.2.1 x.2.2.2.1 p1 p2 = some res) (sz : Nat) : CtI l yX11_addCliff (mws yX11_addCliff cX11_addCliff 3 (some .int)) rm_X11_addCliff 0 0 [.ref (a o), .int p1, .int p2] E (bl_Model E a o x) res.1 (bl_Model E a o ((res.2.1, res.2.2.1, res.2.2.2.1, res.2.2.2.2.1, x.1.2.2.2.2), (x.2.1.1, x.2.1.2.1, x.2.1.2.2.1, x.2.1.2.2.2.1, x.2.1.2.2.2.2), (x.2.2.1.1, x.2.2.1.2.1, x.2.2.1.2.2.1, x.2.2.1.2.2.2), (res.2.2.2.2.2, x.2.2.2.2.1, x.2.2.2.2.2.1, x.2.2.2.2.2.2))) sz := by
  refine mk_M (by decide +kernel) (Nat.le_of_ble_eq_true rfl) ?_
  intro p e s m below meth c A args Q ls hAe hsz hQ hx hb hr hml hin ha hown hlocks hA hz hzs hst hP hD hS hl
  have hown : s.vm.findClass RX11 = some m.cls := hown
  rw [hAe] at hQ
  subst hsz
  have hP : va_P E.1 vwCl (List.flatten [w_Model E a o x]) s.heap := hP
  have hD : va_D A (List.flatten [w_Model E a o x]) := hD
  have hl : lv_has ls 3 [(0, .ref (a o)), (1, .int p1), (2, .int p2)] := hl
  generalize hHe : s.heap = H at hP
  have hS : va_S A s.heap H [] := by rw [← hHe]; exact hS
  generalize ([] : List Loc) = locs at hS ⊢
  unfold f_X11_addCliff at hF
  refine lv_aload_n hx hb dX11_addCliff_0 rfl (lv_at hl 0 rfl) ?_
  obtain ⟨q1, hq1, hF⟩ := q_bdi hF
  refine cl_v (Lc := [w_Model E a o x]) (Lc' := [w_Model E a o ((x.1.1, q1, x.1.2.2.1, x.1.2.2.2.1, x.1.2.2.2.2), (x.2.1.1, x.2.1.2.1, x.2.1.2.2.1, x.2.1.2.2.2.1, x.2.1.2.2.2.2), (x.2.2.1.1, x.2.2.1.2.1, x.2.2.1.2.2.1, x.2.2.1.2.2.2), (x.2.2.2.1, x.2.2.2.2.1, x.2.2.2.2.2.1, x.2.2.2.2.2.2))]) (L' := [w_Model E a o ((x.1.1, q1, x.1.2.2.1, x.1.2.2.2.1, x.1.2.2.2.2), (x.2.1.1, x.2.1.2.1, x.2.1.2.2.1, x.2.1.2.2.2.1, x.2.1.2.2.2.2), (x.2.2.1.1, x.2.2.1.2.1, x.2.2.1.2.2.1, x.2.2.1.2.2.2), (x.2.2.2.1, x.2.2.2.2.1, x.2.2.2.2.2.1, x.2.2.2.2.2.2))]) (va_runV (As := []) (rest := []) ⟨hx, hb, hml, hown, ha⟩ (k_X11_begin l E a o x q1 hq1 H.size) (cwV 0 ha (gi_V (fun _ h => h) mw1699 mw1701 mw27 mw87 mw1702) rfl rfl rfl hv_X11_begin ⟨(Nat.le_of_ble_eq_true rfl), (Nat.le_of_ble_eq_true rfl)⟩) ⟨pre_blind, va_recv hst.k (fr_P hP [0] rfl) (ci := 13) (q0 := 0) rfl rfl, pre_at hP hD hS hz hzs hst [0] (by decide) rfl rfl⟩ rfl rfl hl.1 rfl (lv_room (Nat.le_of_ble_eq_true rfl)) dX11_addCliff_1 ⟨(Nat.le_of_ble_eq_true rfl), (Nat.le_of_ble_eq_true rfl)⟩) hP hD hS hA [0] (by decide) rfl rfl rfl rfl (fun H locs hP hD hS => ?_)
  refine lv_aload_n hx hb dX11_addCliff_4 rfl (lv_at hl 0 rfl) ?_
  refine lv_aload_n hx hb dX11_addCliff_5 rfl (lv_at hl 0 rfl) ?_
  refine lv_iload_n hx hb dX11_addCliff_6 rfl (lv_at hl 1 rfl) ?_
  refine lv_iload_n hx hb dX11_addCliff_7 rfl (lv_at hl 2 rfl) ?_
  obtain ⟨q2, hq2, hF⟩ := q_bdi hF
  refine cl_i (Lc := [w_Model E a o ((x.1.1, q1, x.1.2.2.1, x.1.2.2.2.1, x.1.2.2.2.2), (x.2.1.1, x.2.1.2.1, x.2.1.2.2.1, x.2.1.2.2.2.1, x.2.1.2.2.2.2), (x.2.2.1.1, x.2.2.1.2.1, x.2.2.1.2.2.1, x.2.2.1.2.2.2), (x.2.2.2.1, x.2.2.2.2.1, x.2.2.2.2.2.1, x.2.2.2.2.2.2))]) (Lc' := [w_Model E a o ((q2.2.1, q1, x.1.2.2.1, x.1.2.2.2.1, x.1.2.2.2.2), (x.2.1.1, x.2.1.2.1, x.2.1.2.2.1, x.2.1.2.2.2.1, x.2.1.2.2.2.2), (x.2.2.1.1, x.2.2.1.2.1, x.2.2.1.2.2.1, x.2.2.1.2.2.2), (q2.2.2, x.2.2.2.2.1, x.2.2.2.2.2.1, x.2.2.2.2.2.2))]) (L' := [w_Model E a o ((q2.2.1, q1, x.1.2.2.1, x.1.2.2.2.1, x.1.2.2.2.2), (x.2.1.1, x.2.1.2.1, x.2.1.2.2.1, x.2.1.2.2.2.1, x.2.1.2.2.2.2), (x.2.2.1.1, x.2.2.1.2.1, x.2.2.1.2.2.1, x.2.2.1.2.2.2), (q2.2.2, x.2.2.2.2.1, x.2.2.2.2.2.1, x.2.2.2.2.2.2))]) (rv := q2.1) (va_runV (As := [.int p1, .int p2]) (rest := [.ref (a o)]) ⟨hx, hb, hml, hown, ha⟩ (k_X11_addsCliff l E a o ((x.1.1, q1, x.1.2.2.1, x.1.2.2.2.1, x.1.2.2.2.2), (x.2.1.1, x.2.1.2.1, x.2.1.2.2.1, x.2.1.2.2.2.1, x.2.1.2.2.2.2), (x.2.2.1.1, x.2.2.1.2.1, x.2.2.1.2.2.1, x.2.2.1.2.2.2), (x.2.2.2.1, x.2.2.2.2.1, x.2.2.2.2.2.1, x.2.2.2.2.2.2)) p1 p2 q2 hq2 H.size) (cwV 2 ha (gi_V (fun _ h => h) mw1841 mw1843 mw48 mw87 mw1844) rfl rfl rfl hv_X11_addsCliff ⟨(Nat.le_of_ble_eq_true rfl), (Nat.le_of_ble_eq_true rfl)⟩) ⟨pre_blind, va_recv hst.k (fr_P hP [0] rfl) (ci := 13) (q0 := 0) rfl rfl, pre_at hP hD hS hz hzs hst [0] (by decide) rfl rfl⟩ rfl rfl hl.1 rfl (lv_room (Nat.le_of_ble_eq_true rfl)) dX11_addCliff_8 ⟨(Nat.le_of_ble_eq_true rfl), (Nat.le_of_ble_eq_true rfl)⟩) hP hD hS hA [0] (by decide) rfl rfl rfl rfl (fun H locs hP hD hS => ?_)
  obtain ⟨q3, hq3, hF⟩ := q_bdi hF
  refine cl_i (Lc := [w_Model E a o ((q2.2.1, q1, x.1.2.2.1, x.1.2.2.2.1, x.1.2.2.2.2), (x.2.1.1, x.2.1.2.1, x.2.1.2.2.1, x.2.1.2.2.2.1, x.2.1.2.2.2.2), (x.2.2.1.1, x.2.2.1.2.1, x.2.2.1.2.2.1, x.2.2.1.2.2.2), (q2.2.2, x.2.2.2.2.1, x.2.2.2.2.2.1, x.2.2.2.2.2.2))]) (Lc' := [w_Model E a o ((q3.2.1, q1, q3.2.2.1, q3.2.2.2, x.1.2.2.2.2), (x.2.1.1, x.2.1.2.1, x.2.1.2.2.1, x.2.1.2.2.2.1, x.2.1.2.2.2.2), (x.2.2.1.1, x.2.2.1.2.1, x.2.2.1.2.2.1, x.2.2.1.2.2.2), (q2.2.2, x.2.2.2.2.1, x.2.2.2.2.2.1, x.2.2.2.2.2.2))]) (L' := [w_Model E a o ((q3.2.1, q1, q3.2.2.1, q3.2.2.2, x.1.2.2.2.2), (x.2.1.1, x.2.1.2.1, x.2.1.2.2.1, x.2.1.2.2.2.1, x.2.1.2.2.2.2), (x.2.2.1.1, x.2.2.1.2.1, x.2.2.1.2.2.1, x.2.2.1.2.2.2), (q2.2.2, x.2.2.2.2.1, x.2.2.2.2.2.1, x.2.2.2.2.2.2))]) (rv := q3.1) (va_runV (As := [.int q2.1]) (rest := []) ⟨hx, hb, hml, hown, ha⟩ (k_X11_kept l E a o ((q2.2.1, q1, x.1.2.2.1, x.1.2.2.2.1, x.1.2.2.2.2), (x.2.1.1, x.2.1.2.1, x.2.1.2.2.1, x.2.1.2.2.2.1, x.2.1.2.2.2.2), (x.2.2.1.1, x.2.2.1.2.1, x.2.2.1.2.2.1, x.2.2.1.2.2.2), (q2.2.2, x.2.2.2.2.1, x.2.2.2.2.2.1, x.2.2.2.2.2.2)) q2.1 q3 hq3 H.size) (cwV 1 ha (gi_V (fun _ h => h) mw1724 mw1726 mw31 mw87 mw1727) rfl rfl rfl hv_X11_kept ⟨(Nat.le_of_ble_eq_true rfl), (Nat.le_of_ble_eq_true rfl)⟩) ⟨pre_blind, va_recv hst.k (fr_P hP [0] rfl) (ci := 13) (q0 := 0) rfl rfl, pre_at hP hD hS hz hzs hst [0] (by decide) rfl rfl⟩ rfl rfl hl.1 rfl (lv_room (Nat.le_of_ble_eq_true rfl)) dX11_addCliff_11 ⟨(Nat.le_of_ble_eq_true rfl), (Nat.le_of_ble_eq_true rfl)⟩) hP hD hS hA [0] (by decide) rfl rfl rfl rfl (fun H locs hP hD hS => ?_)
  obtain rfl := Option.some.inj hF
  exact en_i hQ (Nat.le_of_ble_eq_true rfl) (Nat.le_of_ble_eq_true rfl) hx hb hr hlocks hP hD hS rfl dX11_addCliff_14

/-! X11_removeCliff -/
theorem dX11_removeCliff_0 : decode cX11_removeCliff 0 = .ok (.aload_n 0, 1) := by decide +kernel
theorem dX11_removeCliff_1 : decode cX11_removeCliff 1 = .ok (.invokevirtual 86, 3) := by decide +kernel
theorem dX11_removeCliff_4 : decode cX11_removeCliff 4 = .ok (.aload_n 0, 1) := by decide +kernel
theorem dX11_removeCliff_5 : decode cX11_removeCliff 5 = .ok (.aload_n 0, 1) := by decide +kernel
theorem dX11_removeCliff_6 : decode cX11_removeCliff 6 = .ok (.iload_n 1, 1) := by decide +kernel
theorem dX11_removeCliff_7 : decode cX11_removeCliff 7 = .ok (.invokevirtual 141, 3) := by decide +kernel
theorem dX11_removeCliff_10 : decode cX11_removeCliff 10 = .ok (.invokevirtual 93, 3) := by decide +kernel
theorem dX11_removeCliff_13 : decode cX11_removeCliff 13 = .ok (.ireturn, 1) := by decide +kernel
def f_X11_removeCliff (x_g : (Nat → Int32)) (x_before : (Nat → Int32)) (x_history : (Nat → Int32)) (x_changes : Int32) (x_thrown : Int32) (p1 : Int32) : Option (Int32 × (Nat → Int32) × (Nat → Int32) × (Nat → Int32) × Int32 × Int32) :=
  q_bd (f_X11_begin x_g x_before) (fun q1 =>
  q_bd (f_X11_fells x_g x_thrown p1) (fun q2 =>
  q_bd (f_X11_kept q2.2.1 q1 x_history x_changes q2.2.2 q2.1) (fun q3 =>
  some (q3.1, q3.2.1, q1, q3.2.2.1, q3.2.2.2, q2.2.2))))
theorem hv_X11_removeCliff : yX11_removeCliff.cls = RX11 ∧ yX11_removeCliff.cls ≠ "java/lang/invoke/MethodHandle" ∧ yX11_removeCliff.cls ≠ "java/lang/invoke/VarHandle" ∧ (parseMethodDescriptor yX11_removeCliff.desc).map (fun d => d.parameters.length) = some 1 := by decide +kernel
abbrev rm_X11_removeCliff : Room := { frames := 3, cells := 0, slots := 0, locals := 65 }
set_option maxHeartbeats 4000000 in
set_option maxRecDepth 100000 in
theorem k_X11_removeCliff (l : Launch) (E : ET) (a : Nat → Nat) (o : Nat) (x : Model_t) (p1 : Int32) (res : Int32 × (Nat → Int32) × (Nat → Int32) × (Nat → Int32) × Int32 × Int32) (hF : f_X11_removeCliff x.1.1 x.1.2.1 x.1.2.2.1 x.1.2.2.2.1 x.2.2.2.1 p1 = some res) (sz : Nat) : CtI l yX11_removeCliff (mws yX11_removeCliff cX11_removeCliff 2 (some .int)) rm_X11_removeCliff 0 0 [.ref (a o), .int p1] E (bl_Model E a o x) res.1 (bl_Model E a o ((res.2.1, res.2.2.1, res.2.2.2.1, res.2.2.2.2.1, x.1.2.2.2.2), (x.2.1.1, x.2.1.2.1, x.2.1.2.2.1, x.2.1.2.2.2.1, x.2.1.2.2.2.2), (x.2.2.1.1, x.2.2.1.2.1, x.2.2.1.2.2.1, x.2.2.1.2.2.2), (res.2.2.2.2.2, x.2.2.2.2.1, x.2.2.2.2.2.1, x.2.2.2.2.2.2))) sz := by
  refine mk_M (by decide +kernel) (Nat.le_of_ble_eq_true rfl) ?_
  intro p e s m below meth c A args Q ls hAe hsz hQ hx hb hr hml hin ha hown hlocks hA hz hzs hst hP hD hS hl
  have hown : s.vm.findClass RX11 = some m.cls := hown
  rw [hAe] at hQ
  subst hsz
  have hP : va_P E.1 vwCl (List.flatten [w_Model E a o x]) s.heap := hP
  have hD : va_D A (List.flatten [w_Model E a o x]) := hD
  have hl : lv_has ls 2 [(0, .ref (a o)), (1, .int p1)] := hl
  generalize hHe : s.heap = H at hP
  have hS : va_S A s.heap H [] := by rw [← hHe]; exact hS
  generalize ([] : List Loc) = locs at hS ⊢
  unfold f_X11_removeCliff at hF
  refine lv_aload_n hx hb dX11_removeCliff_0 rfl (lv_at hl 0 rfl) ?_
  obtain ⟨q1, hq1, hF⟩ := q_bdi hF
  refine cl_v (Lc := [w_Model E a o x]) (Lc' := [w_Model E a o ((x.1.1, q1, x.1.2.2.1, x.1.2.2.2.1, x.1.2.2.2.2), (x.2.1.1, x.2.1.2.1, x.2.1.2.2.1, x.2.1.2.2.2.1, x.2.1.2.2.2.2), (x.2.2.1.1, x.2.2.1.2.1, x.2.2.1.2.2.1, x.2.2.1.2.2.2), (x.2.2.2.1, x.2.2.2.2.1, x.2.2.2.2.2.1, x.2.2.2.2.2.2))]) (L' := [w_Model E a o ((x.1.1, q1, x.1.2.2.1, x.1.2.2.2.1, x.1.2.2.2.2), (x.2.1.1, x.2.1.2.1, x.2.1.2.2.1, x.2.1.2.2.2.1, x.2.1.2.2.2.2), (x.2.2.1.1, x.2.2.1.2.1, x.2.2.1.2.2.1, x.2.2.1.2.2.2), (x.2.2.2.1, x.2.2.2.2.1, x.2.2.2.2.2.1, x.2.2.2.2.2.2))]) (va_runV (As := []) (rest := []) ⟨hx, hb, hml, hown, ha⟩ (k_X11_begin l E a o x q1 hq1 H.size) (cwV 0 ha (gi_V (fun _ h => h) mw1699 mw1701 mw27 mw87 mw1702) rfl rfl rfl hv_X11_begin ⟨(Nat.le_of_ble_eq_true rfl), (Nat.le_of_ble_eq_true rfl)⟩) ⟨pre_blind, va_recv hst.k (fr_P hP [0] rfl) (ci := 13) (q0 := 0) rfl rfl, pre_at hP hD hS hz hzs hst [0] (by decide) rfl rfl⟩ rfl rfl hl.1 rfl (lv_room (Nat.le_of_ble_eq_true rfl)) dX11_removeCliff_1 ⟨(Nat.le_of_ble_eq_true rfl), (Nat.le_of_ble_eq_true rfl)⟩) hP hD hS hA [0] (by decide) rfl rfl rfl rfl (fun H locs hP hD hS => ?_)
  refine lv_aload_n hx hb dX11_removeCliff_4 rfl (lv_at hl 0 rfl) ?_
  refine lv_aload_n hx hb dX11_removeCliff_5 rfl (lv_at hl 0 rfl) ?_
  refine lv_iload_n hx hb dX11_removeCliff_6 rfl (lv_at hl 1 rfl) ?_
  obtain ⟨q2, hq2, hF⟩ := q_bdi hF
  refine cl_i (Lc := [w_Model E a o ((x.1.1, q1, x.1.2.2.1, x.1.2.2.2.1, x.1.2.2.2.2), (x.2.1.1, x.2.1.2.1, x.2.1.2.2.1, x.2.1.2.2.2.1, x.2.1.2.2.2.2), (x.2.2.1.1, x.2.2.1.2.1, x.2.2.1.2.2.1, x.2.2.1.2.2.2), (x.2.2.2.1, x.2.2.2.2.1, x.2.2.2.2.2.1, x.2.2.2.2.2.2))]) (Lc' := [w_Model E a o ((q2.2.1, q1, x.1.2.2.1, x.1.2.2.2.1, x.1.2.2.2.2), (x.2.1.1, x.2.1.2.1, x.2.1.2.2.1, x.2.1.2.2.2.1, x.2.1.2.2.2.2), (x.2.2.1.1, x.2.2.1.2.1, x.2.2.1.2.2.1, x.2.2.1.2.2.2), (q2.2.2, x.2.2.2.2.1, x.2.2.2.2.2.1, x.2.2.2.2.2.2))]) (L' := [w_Model E a o ((q2.2.1, q1, x.1.2.2.1, x.1.2.2.2.1, x.1.2.2.2.2), (x.2.1.1, x.2.1.2.1, x.2.1.2.2.1, x.2.1.2.2.2.1, x.2.1.2.2.2.2), (x.2.2.1.1, x.2.2.1.2.1, x.2.2.1.2.2.1, x.2.2.1.2.2.2), (q2.2.2, x.2.2.2.2.1, x.2.2.2.2.2.1, x.2.2.2.2.2.2))]) (rv := q2.1) (va_runV (As := [.int p1]) (rest := [.ref (a o)]) ⟨hx, hb, hml, hown, ha⟩ (k_X11_fells l E a o ((x.1.1, q1, x.1.2.2.1, x.1.2.2.2.1, x.1.2.2.2.2), (x.2.1.1, x.2.1.2.1, x.2.1.2.2.1, x.2.1.2.2.2.1, x.2.1.2.2.2.2), (x.2.2.1.1, x.2.2.1.2.1, x.2.2.1.2.2.1, x.2.2.1.2.2.2), (x.2.2.2.1, x.2.2.2.2.1, x.2.2.2.2.2.1, x.2.2.2.2.2.2)) p1 q2 hq2 H.size) (cwV 1 ha (gi_V (fun _ h => h) mw1849 mw1851 mw49 mw87 mw1852) rfl rfl rfl hv_X11_fells ⟨(Nat.le_of_ble_eq_true rfl), (Nat.le_of_ble_eq_true rfl)⟩) ⟨pre_blind, va_recv hst.k (fr_P hP [0] rfl) (ci := 13) (q0 := 0) rfl rfl, pre_at hP hD hS hz hzs hst [0] (by decide) rfl rfl⟩ rfl rfl hl.1 rfl (lv_room (Nat.le_of_ble_eq_true rfl)) dX11_removeCliff_7 ⟨(Nat.le_of_ble_eq_true rfl), (Nat.le_of_ble_eq_true rfl)⟩) hP hD hS hA [0] (by decide) rfl rfl rfl rfl (fun H locs hP hD hS => ?_)
  obtain ⟨q3, hq3, hF⟩ := q_bdi hF
  refine cl_i (Lc := [w_Model E a o ((q2.2.1, q1, x.1.2.2.1, x.1.2.2.2.1, x.1.2.2.2.2), (x.2.1.1, x.2.1.2.1, x.2.1.2.2.1, x.2.1.2.2.2.1, x.2.1.2.2.2.2), (x.2.2.1.1, x.2.2.1.2.1, x.2.2.1.2.2.1, x.2.2.1.2.2.2), (q2.2.2, x.2.2.2.2.1, x.2.2.2.2.2.1, x.2.2.2.2.2.2))]) (Lc' := [w_Model E a o ((q3.2.1, q1, q3.2.2.1, q3.2.2.2, x.1.2.2.2.2), (x.2.1.1, x.2.1.2.1, x.2.1.2.2.1, x.2.1.2.2.2.1, x.2.1.2.2.2.2), (x.2.2.1.1, x.2.2.1.2.1, x.2.2.1.2.2.1, x.2.2.1.2.2.2), (q2.2.2, x.2.2.2.2.1, x.2.2.2.2.2.1, x.2.2.2.2.2.2))]) (L' := [w_Model E a o ((q3.2.1, q1, q3.2.2.1, q3.2.2.2, x.1.2.2.2.2), (x.2.1.1, x.2.1.2.1, x.2.1.2.2.1, x.2.1.2.2.2.1, x.2.1.2.2.2.2), (x.2.2.1.1, x.2.2.1.2.1, x.2.2.1.2.2.1, x.2.2.1.2.2.2), (q2.2.2, x.2.2.2.2.1, x.2.2.2.2.2.1, x.2.2.2.2.2.2))]) (rv := q3.1) (va_runV (As := [.int q2.1]) (rest := []) ⟨hx, hb, hml, hown, ha⟩ (k_X11_kept l E a o ((q2.2.1, q1, x.1.2.2.1, x.1.2.2.2.1, x.1.2.2.2.2), (x.2.1.1, x.2.1.2.1, x.2.1.2.2.1, x.2.1.2.2.2.1, x.2.1.2.2.2.2), (x.2.2.1.1, x.2.2.1.2.1, x.2.2.1.2.2.1, x.2.2.1.2.2.2), (q2.2.2, x.2.2.2.2.1, x.2.2.2.2.2.1, x.2.2.2.2.2.2)) q2.1 q3 hq3 H.size) (cwV 1 ha (gi_V (fun _ h => h) mw1724 mw1726 mw31 mw87 mw1727) rfl rfl rfl hv_X11_kept ⟨(Nat.le_of_ble_eq_true rfl), (Nat.le_of_ble_eq_true rfl)⟩) ⟨pre_blind, va_recv hst.k (fr_P hP [0] rfl) (ci := 13) (q0 := 0) rfl rfl, pre_at hP hD hS hz hzs hst [0] (by decide) rfl rfl⟩ rfl rfl hl.1 rfl (lv_room (Nat.le_of_ble_eq_true rfl)) dX11_removeCliff_10 ⟨(Nat.le_of_ble_eq_true rfl), (Nat.le_of_ble_eq_true rfl)⟩) hP hD hS hA [0] (by decide) rfl rfl rfl rfl (fun H locs hP hD hS => ?_)
  obtain rfl := Option.some.inj hF
  exact en_i hQ (Nat.le_of_ble_eq_true rfl) (Nat.le_of_ble_eq_true rfl) hx hb hr hlocks hP hD hS rfl dX11_removeCliff_13

/-! X11_bellCount -/
theorem dX11_bellCount_0 : decode cX11_bellCount 0 = .ok (.aload_n 0, 1) := by decide +kernel
theorem dX11_bellCount_1 : decode cX11_bellCount 1 = .ok (.aload_n 0, 1) := by decide +kernel
theorem dX11_bellCount_2 : decode cX11_bellCount 2 = .ok (.getfield 7, 3) := by decide +kernel
theorem dX11_bellCount_5 : decode cX11_bellCount 5 = .ok (.iconst 0, 1) := by decide +kernel
theorem dX11_bellCount_6 : decode cX11_bellCount 6 = .ok (.iaload, 1) := by decide +kernel
theorem dX11_bellCount_7 : decode cX11_bellCount 7 = .ok (.invokevirtual 83, 3) := by decide +kernel
theorem dX11_bellCount_10 : decode cX11_bellCount 10 = .ok (.ireturn, 1) := by decide +kernel
def f_X11_bellCount (x_g : (Nat → Int32)) (x_thrown : Int32) : Option (Int32 × Int32) :=
  q_bd (f_X11_done x_thrown (x_g 0)) (fun q1 =>
  some (q1.1, q1.2))
theorem hv_X11_bellCount : yX11_bellCount.cls = RX11 ∧ yX11_bellCount.cls ≠ "java/lang/invoke/MethodHandle" ∧ yX11_bellCount.cls ≠ "java/lang/invoke/VarHandle" ∧ (parseMethodDescriptor yX11_bellCount.desc).map (fun d => d.parameters.length) = some 0 := by decide +kernel
abbrev rm_X11_bellCount : Room := { frames := 1, cells := 0, slots := 0, locals := 21 }
set_option maxHeartbeats 4000000 in
set_option maxRecDepth 100000 in
theorem k_X11_bellCount (l : Launch) (E : ET) (a : Nat → Nat) (o : Nat) (x : Model_t) (res : Int32 × Int32) (hF : f_X11_bellCount x.1.1 x.2.2.2.1 = some res) (sz : Nat) : CtI l yX11_bellCount (mws yX11_bellCount cX11_bellCount 1 (some .int)) rm_X11_bellCount 0 0 [.ref (a o)] E (bl_Model E a o x) res.1 (bl_Model E a o ((x.1.1, x.1.2.1, x.1.2.2.1, x.1.2.2.2.1, x.1.2.2.2.2), (x.2.1.1, x.2.1.2.1, x.2.1.2.2.1, x.2.1.2.2.2.1, x.2.1.2.2.2.2), (x.2.2.1.1, x.2.2.1.2.1, x.2.2.1.2.2.1, x.2.2.1.2.2.2), (res.2, x.2.2.2.2.1, x.2.2.2.2.2.1, x.2.2.2.2.2.2))) sz := by
  refine mk_M (by decide +kernel) (Nat.le_of_ble_eq_true rfl) ?_
  intro p e s m below meth c A args Q ls hAe hsz hQ hx hb hr hml hin ha hown hlocks hA hz hzs hst hP hD hS hl
  have hown : s.vm.findClass RX11 = some m.cls := hown
  rw [hAe] at hQ
  subst hsz
  have hP : va_P E.1 vwCl (List.flatten [w_Model E a o x]) s.heap := hP
  have hD : va_D A (List.flatten [w_Model E a o x]) := hD
  have hl : lv_has ls 1 [(0, .ref (a o))] := hl
  generalize hHe : s.heap = H at hP
  have hS : va_S A s.heap H [] := by rw [← hHe]; exact hS
  generalize ([] : List Loc) = locs at hS ⊢
  unfold f_X11_bellCount at hF
  refine lv_aload_n hx hb dX11_bellCount_0 rfl (lv_at hl 0 rfl) ?_
  refine lv_aload_n hx hb dX11_bellCount_1 rfl (lv_at hl 0 rfl) ?_
  refine va_get (D := E.1) (ci := 13) (v := .ref (a (o + 1))) (C := RX11) (T := TX11) (N := 18) hx hb ha in_X11 hown hst.k hP 0 rfl rfl 0 (by decide) (ha _ mw1636) (fun _ h9 => h9) rfl dX11_bellCount_2 ?_
  refine lv_iconst (v := 0) hx hb dX11_bellCount_5 (by decide) ?_
  refine vi_iald hx hb hst.k hP 1 0 rfl rfl (f := x.1.1) (k := 0) (by decide) (by decide) dX11_bellCount_6 ?_
  obtain ⟨q1, hq1, hF⟩ := q_bdi hF
  refine cl_i (Lc := [w_Model E a o x]) (Lc' := [w_Model E a o ((x.1.1, x.1.2.1, x.1.2.2.1, x.1.2.2.2.1, x.1.2.2.2.2), (x.2.1.1, x.2.1.2.1, x.2.1.2.2.1, x.2.1.2.2.2.1, x.2.1.2.2.2.2), (x.2.2.1.1, x.2.2.1.2.1, x.2.2.1.2.2.1, x.2.2.1.2.2.2), (q1.2, x.2.2.2.2.1, x.2.2.2.2.2.1, x.2.2.2.2.2.2))]) (L' := [w_Model E a o ((x.1.1, x.1.2.1, x.1.2.2.1, x.1.2.2.2.1, x.1.2.2.2.2), (x.2.1.1, x.2.1.2.1, x.2.1.2.2.1, x.2.1.2.2.2.1, x.2.1.2.2.2.2), (x.2.2.1.1, x.2.2.1.2.1, x.2.2.1.2.2.1, x.2.2.1.2.2.2), (q1.2, x.2.2.2.2.1, x.2.2.2.2.2.1, x.2.2.2.2.2.2))]) (rv := q1.1) (va_runV (As := [.int (x.1.1 0)]) (rest := []) ⟨hx, hb, hml, hown, ha⟩ (k_X11_done l E a o x (x.1.1 0) q1 hq1 H.size) (cwV 1 ha (gi_V (fun _ h => h) mw1720 mw1722 mw30 mw87 mw1723) rfl rfl rfl hv_X11_done ⟨(Nat.le_of_ble_eq_true rfl), (Nat.le_of_ble_eq_true rfl)⟩) ⟨pre_blind, va_recv hst.k (fr_P hP [0] rfl) (ci := 13) (q0 := 0) rfl rfl, pre_at hP hD hS hz hzs hst [0] (by decide) rfl rfl⟩ rfl rfl hl.1 rfl (lv_room (Nat.le_of_ble_eq_true rfl)) dX11_bellCount_7 ⟨(Nat.le_of_ble_eq_true rfl), (Nat.le_of_ble_eq_true rfl)⟩) hP hD hS hA [0] (by decide) rfl rfl rfl rfl (fun H locs hP hD hS => ?_)
  obtain rfl := Option.some.inj hF
  exact en_i hQ (Nat.le_of_ble_eq_true rfl) (Nat.le_of_ble_eq_true rfl) hx hb hr hlocks hP hD hS rfl dX11_bellCount_10

/-! X11_herdOf -/
theorem dX11_herdOf_0 : decode cX11_herdOf 0 = .ok (.aload_n 0, 1) := by decide +kernel
theorem dX11_herdOf_1 : decode cX11_herdOf 1 = .ok (.iload_n 1, 1) := by decide +kernel
theorem dX11_herdOf_2 : decode cX11_herdOf 2 = .ok (.invokevirtual 96, 3) := by decide +kernel
theorem dX11_herdOf_5 : decode cX11_herdOf 5 = .ok (.ifCond .eq 18, 3) := by decide +kernel
theorem dX11_herdOf_8 : decode cX11_herdOf 8 = .ok (.aload_n 0, 1) := by decide +kernel
theorem dX11_herdOf_9 : decode cX11_herdOf 9 = .ok (.aload_n 0, 1) := by decide +kernel
theorem dX11_herdOf_10 : decode cX11_herdOf 10 = .ok (.getfield 7, 3) := by decide +kernel
theorem dX11_herdOf_13 : decode cX11_herdOf 13 = .ok (.iconst 5, 1) := by decide +kernel
theorem dX11_herdOf_14 : decode cX11_herdOf 14 = .ok (.iload_n 1, 1) := by decide +kernel
theorem dX11_herdOf_15 : decode cX11_herdOf 15 = .ok (.iadd, 1) := by decide +kernel
theorem dX11_herdOf_16 : decode cX11_herdOf 16 = .ok (.iaload, 1) := by decide +kernel
theorem dX11_herdOf_17 : decode cX11_herdOf 17 = .ok (.invokevirtual 83, 3) := by decide +kernel
theorem dX11_herdOf_20 : decode cX11_herdOf 20 = .ok (.goto 8, 3) := by decide +kernel
theorem dX11_herdOf_23 : decode cX11_herdOf 23 = .ok (.aload_n 0, 1) := by decide +kernel
theorem dX11_herdOf_24 : decode cX11_herdOf 24 = .ok (.iconst 1, 1) := by decide +kernel
theorem dX11_herdOf_25 : decode cX11_herdOf 25 = .ok (.invokevirtual 80, 3) := by decide +kernel
theorem dX11_herdOf_28 : decode cX11_herdOf 28 = .ok (.ireturn, 1) := by decide +kernel
def f_X11_herdOf (x_g : (Nat → Int32)) (x_thrown : Int32) (p1 : Int32) : Option (Int32 × Int32) :=
  q_bd (f_X11_isBell x_g p1) (fun q1 =>
  q_br (q1 = 0) (
  q_bd (f_X11_fails x_thrown 1) (fun q2 =>
  some (q2.1, q2.2))) (
  q_gd (q_in (5 + p1) 77) (
  q_bd (f_X11_done x_thrown (x_g ((5 + p1).toNatClampNeg))) (fun q4 =>
  some (q4.1, q4.2)))))
theorem hv_X11_herdOf : yX11_herdOf.cls = RX11 ∧ yX11_herdOf.cls ≠ "java/lang/invoke/MethodHandle" ∧ yX11_herdOf.cls ≠ "java/lang/invoke/VarHandle" ∧ (parseMethodDescriptor yX11_herdOf.desc).map (fun d => d.parameters.length) = some 1 := by decide +kernel
abbrev rm_X11_herdOf : Room := { frames := 2, cells := 0, slots := 0, locals := 43 }
set_option maxHeartbeats 4000000 in
set_option maxRecDepth 100000 in
theorem k_X11_herdOf (l : Launch) (E : ET) (a : Nat → Nat) (o : Nat) (x : Model_t) (p1 : Int32) (res : Int32 × Int32) (hF : f_X11_herdOf x.1.1 x.2.2.2.1 p1 = some res) (sz : Nat) : CtI l yX11_herdOf (mws yX11_herdOf cX11_herdOf 2 (some .int)) rm_X11_herdOf 0 0 [.ref (a o), .int p1] E (bl_Model E a o x) res.1 (bl_Model E a o ((x.1.1, x.1.2.1, x.1.2.2.1, x.1.2.2.2.1, x.1.2.2.2.2), (x.2.1.1, x.2.1.2.1, x.2.1.2.2.1, x.2.1.2.2.2.1, x.2.1.2.2.2.2), (x.2.2.1.1, x.2.2.1.2.1, x.2.2.1.2.2.1, x.2.2.1.2.2.2), (res.2, x.2.2.2.2.1, x.2.2.2.2.2.1, x.2.2.2.2.2.2))) sz := by
  refine mk_M (by decide +kernel) (Nat.le_of_ble_eq_true rfl) ?_
  intro p e s m below meth c A args Q ls hAe hsz hQ hx hb hr hml hin ha hown hlocks hA hz hzs hst hP hD hS hl
  have hown : s.vm.findClass RX11 = some m.cls := hown
  rw [hAe] at hQ
  subst hsz
  have hP : va_P E.1 vwCl (List.flatten [w_Model E a o x]) s.heap := hP
  have hD : va_D A (List.flatten [w_Model E a o x]) := hD
  have hl : lv_has ls 2 [(0, .ref (a o)), (1, .int p1)] := hl
  generalize hHe : s.heap = H at hP
  have hS : va_S A s.heap H [] := by rw [← hHe]; exact hS
  generalize ([] : List Loc) = locs at hS ⊢
  unfold f_X11_herdOf at hF
  refine lv_aload_n hx hb dX11_herdOf_0 rfl (lv_at hl 0 rfl) ?_
  refine lv_iload_n hx hb dX11_herdOf_1 rfl (lv_at hl 1 rfl) ?_
  obtain ⟨q1, hq1, hF⟩ := q_bdi hF
  refine cl_i (Lc := [w_Model E a o x]) (Lc' := [w_Model E a o x]) (L' := [w_Model E a o x]) (rv := q1) (va_runV (As := [.int p1]) (rest := []) ⟨hx, hb, hml, hown, ha⟩ (k_X11_isBell l E a o x p1 q1 hq1 H.size) (cwV 1 ha (gi_V (fun _ h => h) mw1736 mw1738 mw33 mw87 mw1739) rfl rfl rfl hv_X11_isBell ⟨(Nat.le_of_ble_eq_true rfl), (Nat.le_of_ble_eq_true rfl)⟩) ⟨pre_blind, va_recv hst.k (fr_P hP [0] rfl) (ci := 13) (q0 := 0) rfl rfl, pre_at hP hD hS hz hzs hst [0] (by decide) rfl rfl⟩ rfl rfl hl.1 rfl (lv_room (Nat.le_of_ble_eq_true rfl)) dX11_herdOf_2 ⟨(Nat.le_of_ble_eq_true rfl), (Nat.le_of_ble_eq_true rfl)⟩) hP hD hS hA [0] (by decide) rfl rfl rfl rfl (fun H locs hP hD hS => ?_)
  refine lv_if_eq (tgt := 23) hx hb dX11_herdOf_5 (by decide) (fun c5 => ?_) (fun c5 => ?_)
  · have hF := q_brp c5 hF
    refine lv_aload_n hx hb dX11_herdOf_23 rfl (lv_at hl 0 rfl) ?_
    refine lv_iconst (v := 1) hx hb dX11_herdOf_24 (by decide) ?_
    obtain ⟨q2, hq2, hF⟩ := q_bdi hF
    refine cl_i (Lc := [w_Model E a o x]) (Lc' := [w_Model E a o ((x.1.1, x.1.2.1, x.1.2.2.1, x.1.2.2.2.1, x.1.2.2.2.2), (x.2.1.1, x.2.1.2.1, x.2.1.2.2.1, x.2.1.2.2.2.1, x.2.1.2.2.2.2), (x.2.2.1.1, x.2.2.1.2.1, x.2.2.1.2.2.1, x.2.2.1.2.2.2), (q2.2, x.2.2.2.2.1, x.2.2.2.2.2.1, x.2.2.2.2.2.2))]) (L' := [w_Model E a o ((x.1.1, x.1.2.1, x.1.2.2.1, x.1.2.2.2.1, x.1.2.2.2.2), (x.2.1.1, x.2.1.2.1, x.2.1.2.2.1, x.2.1.2.2.2.1, x.2.1.2.2.2.2), (x.2.2.1.1, x.2.2.1.2.1, x.2.2.1.2.2.1, x.2.2.1.2.2.2), (q2.2, x.2.2.2.2.1, x.2.2.2.2.2.1, x.2.2.2.2.2.2))]) (rv := q2.1) (va_runV (As := [.int 1]) (rest := []) ⟨hx, hb, hml, hown, ha⟩ (k_X11_fails l E a o x 1 q2 hq2 H.size) (cwV 1 ha (gi_V (fun _ h => h) mw1716 mw1718 mw29 mw87 mw1719) rfl rfl rfl hv_X11_fails ⟨(Nat.le_of_ble_eq_true rfl), (Nat.le_of_ble_eq_true rfl)⟩) ⟨pre_blind, va_recv hst.k (fr_P hP [0] rfl) (ci := 13) (q0 := 0) rfl rfl, pre_at hP hD hS hz hzs hst [0] (by decide) rfl rfl⟩ rfl rfl hl.1 rfl (lv_room (Nat.le_of_ble_eq_true rfl)) dX11_herdOf_25 ⟨(Nat.le_of_ble_eq_true rfl), (Nat.le_of_ble_eq_true rfl)⟩) hP hD hS hA [0] (by decide) rfl rfl rfl rfl (fun H locs hP hD hS => ?_)
    obtain rfl := Option.some.inj hF
    exact en_i hQ (Nat.le_of_ble_eq_true rfl) (Nat.le_of_ble_eq_true rfl) hx hb hr hlocks hP hD hS rfl dX11_herdOf_28
  · have hF := q_brn c5 hF
    refine lv_aload_n hx hb dX11_herdOf_8 rfl (lv_at hl 0 rfl) ?_
    refine lv_aload_n hx hb dX11_herdOf_9 rfl (lv_at hl 0 rfl) ?_
    refine va_get (D := E.1) (ci := 13) (v := .ref (a (o + 1))) (C := RX11) (T := TX11) (N := 18) hx hb ha in_X11 hown hst.k hP 0 rfl rfl 0 (by decide) (ha _ mw1636) (fun _ h9 => h9) rfl dX11_herdOf_10 ?_
    refine lv_iconst (v := 5) hx hb dX11_herdOf_13 (by decide) ?_
    refine lv_iload_n hx hb dX11_herdOf_14 rfl (lv_at hl 1 rfl) ?_
    refine lv_iadd hx hb dX11_herdOf_15 ?_
    obtain ⟨g3, hF⟩ := q_gdi hF
    refine vi_iald hx hb hst.k hP 1 0 rfl rfl (f := x.1.1) (k := (5 + p1).toNatClampNeg) rfl g3 dX11_herdOf_16 ?_
    obtain ⟨q4, hq4, hF⟩ := q_bdi hF
    refine cl_i (Lc := [w_Model E a o x]) (Lc' := [w_Model E a o ((x.1.1, x.1.2.1, x.1.2.2.1, x.1.2.2.2.1, x.1.2.2.2.2), (x.2.1.1, x.2.1.2.1, x.2.1.2.2.1, x.2.1.2.2.2.1, x.2.1.2.2.2.2), (x.2.2.1.1, x.2.2.1.2.1, x.2.2.1.2.2.1, x.2.2.1.2.2.2), (q4.2, x.2.2.2.2.1, x.2.2.2.2.2.1, x.2.2.2.2.2.2))]) (L' := [w_Model E a o ((x.1.1, x.1.2.1, x.1.2.2.1, x.1.2.2.2.1, x.1.2.2.2.2), (x.2.1.1, x.2.1.2.1, x.2.1.2.2.1, x.2.1.2.2.2.1, x.2.1.2.2.2.2), (x.2.2.1.1, x.2.2.1.2.1, x.2.2.1.2.2.1, x.2.2.1.2.2.2), (q4.2, x.2.2.2.2.1, x.2.2.2.2.2.1, x.2.2.2.2.2.2))]) (rv := q4.1) (va_runV (As := [.int (x.1.1 ((5 + p1).toNatClampNeg))]) (rest := []) ⟨hx, hb, hml, hown, ha⟩ (k_X11_done l E a o x (x.1.1 ((5 + p1).toNatClampNeg)) q4 hq4 H.size) (cwV 1 ha (gi_V (fun _ h => h) mw1720 mw1722 mw30 mw87 mw1723) rfl rfl rfl hv_X11_done ⟨(Nat.le_of_ble_eq_true rfl), (Nat.le_of_ble_eq_true rfl)⟩) ⟨pre_blind, va_recv hst.k (fr_P hP [0] rfl) (ci := 13) (q0 := 0) rfl rfl, pre_at hP hD hS hz hzs hst [0] (by decide) rfl rfl⟩ rfl rfl hl.1 rfl (lv_room (Nat.le_of_ble_eq_true rfl)) dX11_herdOf_17 ⟨(Nat.le_of_ble_eq_true rfl), (Nat.le_of_ble_eq_true rfl)⟩) hP hD hS hA [0] (by decide) rfl rfl rfl rfl (fun H locs hP hD hS => ?_)
    refine lv_goto (tgt := 28) hx hb dX11_herdOf_20 (by decide) ?_
    obtain rfl := Option.some.inj hF
    exact en_i hQ (Nat.le_of_ble_eq_true rfl) (Nat.le_of_ble_eq_true rfl) hx hb hr hlocks hP hD hS rfl dX11_herdOf_28

/-! X11_pitch -/
theorem dX11_pitch_0 : decode cX11_pitch 0 = .ok (.aload_n 0, 1) := by decide +kernel
theorem dX11_pitch_1 : decode cX11_pitch 1 = .ok (.iload_n 1, 1) := by decide +kernel
theorem dX11_pitch_2 : decode cX11_pitch 2 = .ok (.invokevirtual 96, 3) := by decide +kernel
theorem dX11_pitch_5 : decode cX11_pitch 5 = .ok (.ifCond .eq 19, 3) := by decide +kernel
theorem dX11_pitch_8 : decode cX11_pitch 8 = .ok (.aload_n 0, 1) := by decide +kernel
theorem dX11_pitch_9 : decode cX11_pitch 9 = .ok (.aload_n 0, 1) := by decide +kernel
theorem dX11_pitch_10 : decode cX11_pitch 10 = .ok (.getfield 7, 3) := by decide +kernel
theorem dX11_pitch_13 : decode cX11_pitch 13 = .ok (.bipush 17, 2) := by decide +kernel
theorem dX11_pitch_15 : decode cX11_pitch 15 = .ok (.iload_n 1, 1) := by decide +kernel
theorem dX11_pitch_16 : decode cX11_pitch 16 = .ok (.iadd, 1) := by decide +kernel
theorem dX11_pitch_17 : decode cX11_pitch 17 = .ok (.iaload, 1) := by decide +kernel
theorem dX11_pitch_18 : decode cX11_pitch 18 = .ok (.invokevirtual 83, 3) := by decide +kernel
theorem dX11_pitch_21 : decode cX11_pitch 21 = .ok (.goto 8, 3) := by decide +kernel
theorem dX11_pitch_24 : decode cX11_pitch 24 = .ok (.aload_n 0, 1) := by decide +kernel
theorem dX11_pitch_25 : decode cX11_pitch 25 = .ok (.iconst 1, 1) := by decide +kernel
theorem dX11_pitch_26 : decode cX11_pitch 26 = .ok (.invokevirtual 80, 3) := by decide +kernel
theorem dX11_pitch_29 : decode cX11_pitch 29 = .ok (.ireturn, 1) := by decide +kernel
def f_X11_pitch (x_g : (Nat → Int32)) (x_thrown : Int32) (p1 : Int32) : Option (Int32 × Int32) :=
  q_bd (f_X11_isBell x_g p1) (fun q1 =>
  q_br (q1 = 0) (
  q_bd (f_X11_fails x_thrown 1) (fun q2 =>
  some (q2.1, q2.2))) (
  q_gd (q_in (17 + p1) 77) (
  q_bd (f_X11_done x_thrown (x_g ((17 + p1).toNatClampNeg))) (fun q4 =>
  some (q4.1, q4.2)))))
theorem hv_X11_pitch : yX11_pitch.cls = RX11 ∧ yX11_pitch.cls ≠ "java/lang/invoke/MethodHandle" ∧ yX11_pitch.cls ≠ "java/lang/invoke/VarHandle" ∧ (parseMethodDescriptor yX11_pitch.desc).map (fun d => d.parameters.length) = some 1 := by decide +kernel
abbrev rm_X11_pitch : Room := { frames := 2, cells := 0, slots := 0, locals := 43 }
set_option maxHeartbeats 4000000 in
set_option maxRecDepth 100000 in
theorem k_X11_pitch (l : Launch) (E : ET) (a : Nat → Nat) (o : Nat) (x : Model_t) (p1 : Int32) (res : Int32 × Int32) (hF : f_X11_pitch x.1.1 x.2.2.2.1 p1 = some res) (sz : Nat) : CtI l yX11_pitch (mws yX11_pitch cX11_pitch 2 (some .int)) rm_X11_pitch 0 0 [.ref (a o), .int p1] E (bl_Model E a o x) res.1 (bl_Model E a o ((x.1.1, x.1.2.1, x.1.2.2.1, x.1.2.2.2.1, x.1.2.2.2.2), (x.2.1.1, x.2.1.2.1, x.2.1.2.2.1, x.2.1.2.2.2.1, x.2.1.2.2.2.2), (x.2.2.1.1, x.2.2.1.2.1, x.2.2.1.2.2.1, x.2.2.1.2.2.2), (res.2, x.2.2.2.2.1, x.2.2.2.2.2.1, x.2.2.2.2.2.2))) sz := by
  refine mk_M (by decide +kernel) (Nat.le_of_ble_eq_true rfl) ?_
  intro p e s m below meth c A args Q ls hAe hsz hQ hx hb hr hml hin ha hown hlocks hA hz hzs hst hP hD hS hl
  have hown : s.vm.findClass RX11 = some m.cls := hown
  rw [hAe] at hQ
  subst hsz
  have hP : va_P E.1 vwCl (List.flatten [w_Model E a o x]) s.heap := hP
  have hD : va_D A (List.flatten [w_Model E a o x]) := hD
  have hl : lv_has ls 2 [(0, .ref (a o)), (1, .int p1)] := hl
  generalize hHe : s.heap = H at hP
  have hS : va_S A s.heap H [] := by rw [← hHe]; exact hS
  generalize ([] : List Loc) = locs at hS ⊢
  unfold f_X11_pitch at hF
  refine lv_aload_n hx hb dX11_pitch_0 rfl (lv_at hl 0 rfl) ?_
  refine lv_iload_n hx hb dX11_pitch_1 rfl (lv_at hl 1 rfl) ?_
  obtain ⟨q1, hq1, hF⟩ := q_bdi hF
  refine cl_i (Lc := [w_Model E a o x]) (Lc' := [w_Model E a o x]) (L' := [w_Model E a o x]) (rv := q1) (va_runV (As := [.int p1]) (rest := []) ⟨hx, hb, hml, hown, ha⟩ (k_X11_isBell l E a o x p1 q1 hq1 H.size) (cwV 1 ha (gi_V (fun _ h => h) mw1736 mw1738 mw33 mw87 mw1739) rfl rfl rfl hv_X11_isBell ⟨(Nat.le_of_ble_eq_true rfl), (Nat.le_of_ble_eq_true rfl)⟩) ⟨pre_blind, va_recv hst.k (fr_P hP [0] rfl) (ci := 13) (q0 := 0) rfl rfl, pre_at hP hD hS hz hzs hst [0] (by decide) rfl rfl⟩ rfl rfl hl.1 rfl (lv_room (Nat.le_of_ble_eq_true rfl)) dX11_pitch_2 ⟨(Nat.le_of_ble_eq_true rfl), (Nat.le_of_ble_eq_true rfl)⟩) hP hD hS hA [0] (by decide) rfl rfl rfl rfl (fun H locs hP hD hS => ?_)
  refine lv_if_eq (tgt := 24) hx hb dX11_pitch_5 (by decide) (fun c5 => ?_) (fun c5 => ?_)
  · have hF := q_brp c5 hF
    refine lv_aload_n hx hb dX11_pitch_24 rfl (lv_at hl 0 rfl) ?_
    refine lv_iconst (v := 1) hx hb dX11_pitch_25 (by decide) ?_
    obtain ⟨q2, hq2, hF⟩ := q_bdi hF
    refine cl_i (Lc := [w_Model E a o x]) (Lc' := [w_Model E a o ((x.1.1, x.1.2.1, x.1.2.2.1, x.1.2.2.2.1, x.1.2.2.2.2), (x.2.1.1, x.2.1.2.1, x.2.1.2.2.1, x.2.1.2.2.2.1, x.2.1.2.2.2.2), (x.2.2.1.1, x.2.2.1.2.1, x.2.2.1.2.2.1, x.2.2.1.2.2.2), (q2.2, x.2.2.2.2.1, x.2.2.2.2.2.1, x.2.2.2.2.2.2))]) (L' := [w_Model E a o ((x.1.1, x.1.2.1, x.1.2.2.1, x.1.2.2.2.1, x.1.2.2.2.2), (x.2.1.1, x.2.1.2.1, x.2.1.2.2.1, x.2.1.2.2.2.1, x.2.1.2.2.2.2), (x.2.2.1.1, x.2.2.1.2.1, x.2.2.1.2.2.1, x.2.2.1.2.2.2), (q2.2, x.2.2.2.2.1, x.2.2.2.2.2.1, x.2.2.2.2.2.2))]) (rv := q2.1) (va_runV (As := [.int 1]) (rest := []) ⟨hx, hb, hml, hown, ha⟩ (k_X11_fails l E a o x 1 q2 hq2 H.size) (cwV 1 ha (gi_V (fun _ h => h) mw1716 mw1718 mw29 mw87 mw1719) rfl rfl rfl hv_X11_fails ⟨(Nat.le_of_ble_eq_true rfl), (Nat.le_of_ble_eq_true rfl)⟩) ⟨pre_blind, va_recv hst.k (fr_P hP [0] rfl) (ci := 13) (q0 := 0) rfl rfl, pre_at hP hD hS hz hzs hst [0] (by decide) rfl rfl⟩ rfl rfl hl.1 rfl (lv_room (Nat.le_of_ble_eq_true rfl)) dX11_pitch_26 ⟨(Nat.le_of_ble_eq_true rfl), (Nat.le_of_ble_eq_true rfl)⟩) hP hD hS hA [0] (by decide) rfl rfl rfl rfl (fun H locs hP hD hS => ?_)
    obtain rfl := Option.some.inj hF
    exact en_i hQ (Nat.le_of_ble_eq_true rfl) (Nat.le_of_ble_eq_true rfl) hx hb hr hlocks hP hD hS rfl dX11_pitch_29
  · have hF := q_brn c5 hF
    refine lv_aload_n hx hb dX11_pitch_8 rfl (lv_at hl 0 rfl) ?_
    refine lv_aload_n hx hb dX11_pitch_9 rfl (lv_at hl 0 rfl) ?_
    refine va_get (D := E.1) (ci := 13) (v := .ref (a (o + 1))) (C := RX11) (T := TX11) (N := 18) hx hb ha in_X11 hown hst.k hP 0 rfl rfl 0 (by decide) (ha _ mw1636) (fun _ h9 => h9) rfl dX11_pitch_10 ?_
    refine lv_bipush (v := 17) hx hb dX11_pitch_13 (by decide) ?_
    refine lv_iload_n hx hb dX11_pitch_15 rfl (lv_at hl 1 rfl) ?_
    refine lv_iadd hx hb dX11_pitch_16 ?_
    obtain ⟨g3, hF⟩ := q_gdi hF
    refine vi_iald hx hb hst.k hP 1 0 rfl rfl (f := x.1.1) (k := (17 + p1).toNatClampNeg) rfl g3 dX11_pitch_17 ?_
    obtain ⟨q4, hq4, hF⟩ := q_bdi hF
    refine cl_i (Lc := [w_Model E a o x]) (Lc' := [w_Model E a o ((x.1.1, x.1.2.1, x.1.2.2.1, x.1.2.2.2.1, x.1.2.2.2.2), (x.2.1.1, x.2.1.2.1, x.2.1.2.2.1, x.2.1.2.2.2.1, x.2.1.2.2.2.2), (x.2.2.1.1, x.2.2.1.2.1, x.2.2.1.2.2.1, x.2.2.1.2.2.2), (q4.2, x.2.2.2.2.1, x.2.2.2.2.2.1, x.2.2.2.2.2.2))]) (L' := [w_Model E a o ((x.1.1, x.1.2.1, x.1.2.2.1, x.1.2.2.2.1, x.1.2.2.2.2), (x.2.1.1, x.2.1.2.1, x.2.1.2.2.1, x.2.1.2.2.2.1, x.2.1.2.2.2.2), (x.2.2.1.1, x.2.2.1.2.1, x.2.2.1.2.2.1, x.2.2.1.2.2.2), (q4.2, x.2.2.2.2.1, x.2.2.2.2.2.1, x.2.2.2.2.2.2))]) (rv := q4.1) (va_runV (As := [.int (x.1.1 ((17 + p1).toNatClampNeg))]) (rest := []) ⟨hx, hb, hml, hown, ha⟩ (k_X11_done l E a o x (x.1.1 ((17 + p1).toNatClampNeg)) q4 hq4 H.size) (cwV 1 ha (gi_V (fun _ h => h) mw1720 mw1722 mw30 mw87 mw1723) rfl rfl rfl hv_X11_done ⟨(Nat.le_of_ble_eq_true rfl), (Nat.le_of_ble_eq_true rfl)⟩) ⟨pre_blind, va_recv hst.k (fr_P hP [0] rfl) (ci := 13) (q0 := 0) rfl rfl, pre_at hP hD hS hz hzs hst [0] (by decide) rfl rfl⟩ rfl rfl hl.1 rfl (lv_room (Nat.le_of_ble_eq_true rfl)) dX11_pitch_18 ⟨(Nat.le_of_ble_eq_true rfl), (Nat.le_of_ble_eq_true rfl)⟩) hP hD hS hA [0] (by decide) rfl rfl rfl rfl (fun H locs hP hD hS => ?_)
    refine lv_goto (tgt := 29) hx hb dX11_pitch_21 (by decide) ?_
    obtain rfl := Option.some.inj hF
    exact en_i hQ (Nat.le_of_ble_eq_true rfl) (Nat.le_of_ble_eq_true rfl) hx hb hr hlocks hP hD hS rfl dX11_pitch_29

/-! X11_nearestNote -/
theorem dX11_nearestNote_0 : decode cX11_nearestNote 0 = .ok (.aload_n 0, 1) := by decide +kernel
theorem dX11_nearestNote_1 : decode cX11_nearestNote 1 = .ok (.iload_n 1, 1) := by decide +kernel
theorem dX11_nearestNote_2 : decode cX11_nearestNote 2 = .ok (.invokevirtual 96, 3) := by decide +kernel
theorem dX11_nearestNote_5 : decode cX11_nearestNote 5 = .ok (.ifCond .eq 15, 3) := by decide +kernel
theorem dX11_nearestNote_8 : decode cX11_nearestNote 8 = .ok (.aload_n 0, 1) := by decide +kernel
theorem dX11_nearestNote_9 : decode cX11_nearestNote 9 = .ok (.aload_n 0, 1) := by decide +kernel
theorem dX11_nearestNote_10 : decode cX11_nearestNote 10 = .ok (.iload_n 1, 1) := by decide +kernel
theorem dX11_nearestNote_11 : decode cX11_nearestNote 11 = .ok (.invokevirtual 60, 3) := by decide +kernel
theorem dX11_nearestNote_14 : decode cX11_nearestNote 14 = .ok (.invokevirtual 83, 3) := by decide +kernel
theorem dX11_nearestNote_17 : decode cX11_nearestNote 17 = .ok (.goto 8, 3) := by decide +kernel
theorem dX11_nearestNote_20 : decode cX11_nearestNote 20 = .ok (.aload_n 0, 1) := by decide +kernel
theorem dX11_nearestNote_21 : decode cX11_nearestNote 21 = .ok (.iconst 1, 1) := by decide +kernel
theorem dX11_nearestNote_22 : decode cX11_nearestNote 22 = .ok (.invokevirtual 80, 3) := by decide +kernel
theorem dX11_nearestNote_25 : decode cX11_nearestNote 25 = .ok (.ireturn, 1) := by decide +kernel
def f_X11_nearestNote (x_g : (Nat → Int32)) (x_thrown : Int32) (p1 : Int32) : Option (Int32 × Int32) :=
  q_bd (f_X11_isBell x_g p1) (fun q1 =>
  q_br (q1 = 0) (
  q_bd (f_X11_fails x_thrown 1) (fun q2 =>
  some (q2.1, q2.2))) (
  q_bd (f_X11_noteOf x_g p1) (fun q3 =>
  q_bd (f_X11_done x_thrown q3) (fun q4 =>
  some (q4.1, q4.2)))))
theorem hv_X11_nearestNote : yX11_nearestNote.cls = RX11 ∧ yX11_nearestNote.cls ≠ "java/lang/invoke/MethodHandle" ∧ yX11_nearestNote.cls ≠ "java/lang/invoke/VarHandle" ∧ (parseMethodDescriptor yX11_nearestNote.desc).map (fun d => d.parameters.length) = some 1 := by decide +kernel
abbrev rm_X11_nearestNote : Room := { frames := 2, cells := 0, slots := 0, locals := 43 }
set_option maxHeartbeats 4000000 in
set_option maxRecDepth 100000 in
theorem k_X11_nearestNote (l : Launch) (E : ET) (a : Nat → Nat) (o : Nat) (x : Model_t) (p1 : Int32) (res : Int32 × Int32) (hF : f_X11_nearestNote x.1.1 x.2.2.2.1 p1 = some res) (sz : Nat) : CtI l yX11_nearestNote (mws yX11_nearestNote cX11_nearestNote 2 (some .int)) rm_X11_nearestNote 0 0 [.ref (a o), .int p1] E (bl_Model E a o x) res.1 (bl_Model E a o ((x.1.1, x.1.2.1, x.1.2.2.1, x.1.2.2.2.1, x.1.2.2.2.2), (x.2.1.1, x.2.1.2.1, x.2.1.2.2.1, x.2.1.2.2.2.1, x.2.1.2.2.2.2), (x.2.2.1.1, x.2.2.1.2.1, x.2.2.1.2.2.1, x.2.2.1.2.2.2), (res.2, x.2.2.2.2.1, x.2.2.2.2.2.1, x.2.2.2.2.2.2))) sz := by
  refine mk_M (by decide +kernel) (Nat.le_of_ble_eq_true rfl) ?_
  intro p e s m below meth c A args Q ls hAe hsz hQ hx hb hr hml hin ha hown hlocks hA hz hzs hst hP hD hS hl
  have hown : s.vm.findClass RX11 = some m.cls := hown
  rw [hAe] at hQ
  subst hsz
  have hP : va_P E.1 vwCl (List.flatten [w_Model E a o x]) s.heap := hP
  have hD : va_D A (List.flatten [w_Model E a o x]) := hD
  have hl : lv_has ls 2 [(0, .ref (a o)), (1, .int p1)] := hl
  generalize hHe : s.heap = H at hP
  have hS : va_S A s.heap H [] := by rw [← hHe]; exact hS
  generalize ([] : List Loc) = locs at hS ⊢
  unfold f_X11_nearestNote at hF
  refine lv_aload_n hx hb dX11_nearestNote_0 rfl (lv_at hl 0 rfl) ?_
  refine lv_iload_n hx hb dX11_nearestNote_1 rfl (lv_at hl 1 rfl) ?_
  obtain ⟨q1, hq1, hF⟩ := q_bdi hF
  refine cl_i (Lc := [w_Model E a o x]) (Lc' := [w_Model E a o x]) (L' := [w_Model E a o x]) (rv := q1) (va_runV (As := [.int p1]) (rest := []) ⟨hx, hb, hml, hown, ha⟩ (k_X11_isBell l E a o x p1 q1 hq1 H.size) (cwV 1 ha (gi_V (fun _ h => h) mw1736 mw1738 mw33 mw87 mw1739) rfl rfl rfl hv_X11_isBell ⟨(Nat.le_of_ble_eq_true rfl), (Nat.le_of_ble_eq_true rfl)⟩) ⟨pre_blind, va_recv hst.k (fr_P hP [0] rfl) (ci := 13) (q0 := 0) rfl rfl, pre_at hP hD hS hz hzs hst [0] (by decide) rfl rfl⟩ rfl rfl hl.1 rfl (lv_room (Nat.le_of_ble_eq_true rfl)) dX11_nearestNote_2 ⟨(Nat.le_of_ble_eq_true rfl), (Nat.le_of_ble_eq_true rfl)⟩) hP hD hS hA [0] (by decide) rfl rfl rfl rfl (fun H locs hP hD hS => ?_)
  refine lv_if_eq (tgt := 20) hx hb dX11_nearestNote_5 (by decide) (fun c5 => ?_) (fun c5 => ?_)
  · have hF := q_brp c5 hF
    refine lv_aload_n hx hb dX11_nearestNote_20 rfl (lv_at hl 0 rfl) ?_
    refine lv_iconst (v := 1) hx hb dX11_nearestNote_21 (by decide) ?_
    obtain ⟨q2, hq2, hF⟩ := q_bdi hF
    refine cl_i (Lc := [w_Model E a o x]) (Lc' := [w_Model E a o ((x.1.1, x.1.2.1, x.1.2.2.1, x.1.2.2.2.1, x.1.2.2.2.2), (x.2.1.1, x.2.1.2.1, x.2.1.2.2.1, x.2.1.2.2.2.1, x.2.1.2.2.2.2), (x.2.2.1.1, x.2.2.1.2.1, x.2.2.1.2.2.1, x.2.2.1.2.2.2), (q2.2, x.2.2.2.2.1, x.2.2.2.2.2.1, x.2.2.2.2.2.2))]) (L' := [w_Model E a o ((x.1.1, x.1.2.1, x.1.2.2.1, x.1.2.2.2.1, x.1.2.2.2.2), (x.2.1.1, x.2.1.2.1, x.2.1.2.2.1, x.2.1.2.2.2.1, x.2.1.2.2.2.2), (x.2.2.1.1, x.2.2.1.2.1, x.2.2.1.2.2.1, x.2.2.1.2.2.2), (q2.2, x.2.2.2.2.1, x.2.2.2.2.2.1, x.2.2.2.2.2.2))]) (rv := q2.1) (va_runV (As := [.int 1]) (rest := []) ⟨hx, hb, hml, hown, ha⟩ (k_X11_fails l E a o x 1 q2 hq2 H.size) (cwV 1 ha (gi_V (fun _ h => h) mw1716 mw1718 mw29 mw87 mw1719) rfl rfl rfl hv_X11_fails ⟨(Nat.le_of_ble_eq_true rfl), (Nat.le_of_ble_eq_true rfl)⟩) ⟨pre_blind, va_recv hst.k (fr_P hP [0] rfl) (ci := 13) (q0 := 0) rfl rfl, pre_at hP hD hS hz hzs hst [0] (by decide) rfl rfl⟩ rfl rfl hl.1 rfl (lv_room (Nat.le_of_ble_eq_true rfl)) dX11_nearestNote_22 ⟨(Nat.le_of_ble_eq_true rfl), (Nat.le_of_ble_eq_true rfl)⟩) hP hD hS hA [0] (by decide) rfl rfl rfl rfl (fun H locs hP hD hS => ?_)
    obtain rfl := Option.some.inj hF
    exact en_i hQ (Nat.le_of_ble_eq_true rfl) (Nat.le_of_ble_eq_true rfl) hx hb hr hlocks hP hD hS rfl dX11_nearestNote_25
  · have hF := q_brn c5 hF
    refine lv_aload_n hx hb dX11_nearestNote_8 rfl (lv_at hl 0 rfl) ?_
    refine lv_aload_n hx hb dX11_nearestNote_9 rfl (lv_at hl 0 rfl) ?_
    refine lv_iload_n hx hb dX11_nearestNote_10 rfl (lv_at hl 1 rfl) ?_
    obtain ⟨q3, hq3, hF⟩ := q_bdi hF
    refine cl_i (Lc := [w_Model E a o x]) (Lc' := [w_Model E a o x]) (L' := [w_Model E a o x]) (rv := q3) (va_runV (As := [.int p1]) (rest := [.ref (a o)]) ⟨hx, hb, hml, hown, ha⟩ (k_X11_noteOf l E a o x p1 q3 hq3 H.size) (cwV 1 ha (gi_V (fun _ h => h) mw1776 mw1778 mw40 mw87 mw1779) rfl rfl rfl hv_X11_noteOf ⟨(Nat.le_of_ble_eq_true rfl), (Nat.le_of_ble_eq_true rfl)⟩) ⟨pre_blind, va_recv hst.k (fr_P hP [0] rfl) (ci := 13) (q0 := 0) rfl rfl, pre_at hP hD hS hz hzs hst [0] (by decide) rfl rfl⟩ rfl rfl hl.1 rfl (lv_room (Nat.le_of_ble_eq_true rfl)) dX11_nearestNote_11 ⟨(Nat.le_of_ble_eq_true rfl), (Nat.le_of_ble_eq_true rfl)⟩) hP hD hS hA [0] (by decide) rfl rfl rfl rfl (fun H locs hP hD hS => ?_)
    obtain ⟨q4, hq4, hF⟩ := q_bdi hF
    refine cl_i (Lc := [w_Model E a o x]) (Lc' := [w_Model E a o ((x.1.1, x.1.2.1, x.1.2.2.1, x.1.2.2.2.1, x.1.2.2.2.2), (x.2.1.1, x.2.1.2.1, x.2.1.2.2.1, x.2.1.2.2.2.1, x.2.1.2.2.2.2), (x.2.2.1.1, x.2.2.1.2.1, x.2.2.1.2.2.1, x.2.2.1.2.2.2), (q4.2, x.2.2.2.2.1, x.2.2.2.2.2.1, x.2.2.2.2.2.2))]) (L' := [w_Model E a o ((x.1.1, x.1.2.1, x.1.2.2.1, x.1.2.2.2.1, x.1.2.2.2.2), (x.2.1.1, x.2.1.2.1, x.2.1.2.2.1, x.2.1.2.2.2.1, x.2.1.2.2.2.2), (x.2.2.1.1, x.2.2.1.2.1, x.2.2.1.2.2.1, x.2.2.1.2.2.2), (q4.2, x.2.2.2.2.1, x.2.2.2.2.2.1, x.2.2.2.2.2.2))]) (rv := q4.1) (va_runV (As := [.int q3]) (rest := []) ⟨hx, hb, hml, hown, ha⟩ (k_X11_done l E a o x q3 q4 hq4 H.size) (cwV 1 ha (gi_V (fun _ h => h) mw1720 mw1722 mw30 mw87 mw1723) rfl rfl rfl hv_X11_done ⟨(Nat.le_of_ble_eq_true rfl), (Nat.le_of_ble_eq_true rfl)⟩) ⟨pre_blind, va_recv hst.k (fr_P hP [0] rfl) (ci := 13) (q0 := 0) rfl rfl, pre_at hP hD hS hz hzs hst [0] (by decide) rfl rfl⟩ rfl rfl hl.1 rfl (lv_room (Nat.le_of_ble_eq_true rfl)) dX11_nearestNote_14 ⟨(Nat.le_of_ble_eq_true rfl), (Nat.le_of_ble_eq_true rfl)⟩) hP hD hS hA [0] (by decide) rfl rfl rfl rfl (fun H locs hP hD hS => ?_)
    refine lv_goto (tgt := 25) hx hb dX11_nearestNote_17 (by decide) ?_
    obtain rfl := Option.some.inj hF
    exact en_i hQ (Nat.le_of_ble_eq_true rfl) (Nat.le_of_ble_eq_true rfl) hx hb hr hlocks hP hD hS rfl dX11_nearestNote_25

/-! X11_deviation -/
theorem dX11_deviation_0 : decode cX11_deviation 0 = .ok (.aload_n 0, 1) := by decide +kernel
theorem dX11_deviation_1 : decode cX11_deviation 1 = .ok (.iload_n 1, 1) := by decide +kernel
theorem dX11_deviation_2 : decode cX11_deviation 2 = .ok (.invokevirtual 96, 3) := by decide +kernel
theorem dX11_deviation_5 : decode cX11_deviation 5 = .ok (.ifCond .eq 15, 3) := by decide +kernel
theorem dX11_deviation_8 : decode cX11_deviation 8 = .ok (.aload_n 0, 1) := by decide +kernel
theorem dX11_deviation_9 : decode cX11_deviation 9 = .ok (.aload_n 0, 1) := by decide +kernel
theorem dX11_deviation_10 : decode cX11_deviation 10 = .ok (.iload_n 1, 1) := by decide +kernel
theorem dX11_deviation_11 : decode cX11_deviation 11 = .ok (.invokevirtual 67, 3) := by decide +kernel
theorem dX11_deviation_14 : decode cX11_deviation 14 = .ok (.invokevirtual 83, 3) := by decide +kernel
theorem dX11_deviation_17 : decode cX11_deviation 17 = .ok (.goto 8, 3) := by decide +kernel
theorem dX11_deviation_20 : decode cX11_deviation 20 = .ok (.aload_n 0, 1) := by decide +kernel
theorem dX11_deviation_21 : decode cX11_deviation 21 = .ok (.iconst 1, 1) := by decide +kernel
theorem dX11_deviation_22 : decode cX11_deviation 22 = .ok (.invokevirtual 80, 3) := by decide +kernel
theorem dX11_deviation_25 : decode cX11_deviation 25 = .ok (.ireturn, 1) := by decide +kernel
def f_X11_deviation (x_g : (Nat → Int32)) (x_thrown : Int32) (p1 : Int32) : Option (Int32 × Int32) :=
  q_bd (f_X11_isBell x_g p1) (fun q1 =>
  q_br (q1 = 0) (
  q_bd (f_X11_fails x_thrown 1) (fun q2 =>
  some (q2.1, q2.2))) (
  q_bd (f_X11_deviationOf x_g p1) (fun q3 =>
  q_bd (f_X11_done x_thrown q3) (fun q4 =>
  some (q4.1, q4.2)))))
theorem hv_X11_deviation : yX11_deviation.cls = RX11 ∧ yX11_deviation.cls ≠ "java/lang/invoke/MethodHandle" ∧ yX11_deviation.cls ≠ "java/lang/invoke/VarHandle" ∧ (parseMethodDescriptor yX11_deviation.desc).map (fun d => d.parameters.length) = some 1 := by decide +kernel
abbrev rm_X11_deviation : Room := { frames := 2, cells := 0, slots := 0, locals := 43 }
set_option maxHeartbeats 4000000 in
set_option maxRecDepth 100000 in
theorem k_X11_deviation (l : Launch) (E : ET) (a : Nat → Nat) (o : Nat) (x : Model_t) (p1 : Int32) (res : Int32 × Int32) (hF : f_X11_deviation x.1.1 x.2.2.2.1 p1 = some res) (sz : Nat) : CtI l yX11_deviation (mws yX11_deviation cX11_deviation 2 (some .int)) rm_X11_deviation 0 0 [.ref (a o), .int p1] E (bl_Model E a o x) res.1 (bl_Model E a o ((x.1.1, x.1.2.1, x.1.2.2.1, x.1.2.2.2.1, x.1.2.2.2.2), (x.2.1.1, x.2.1.2.1, x.2.1.2.2.1, x.2.1.2.2.2.1, x.2.1.2.2.2.2), (x.2.2.1.1, x.2.2.1.2.1, x.2.2.1.2.2.1, x.2.2.1.2.2.2), (res.2, x.2.2.2.2.1, x.2.2.2.2.2.1, x.2.2.2.2.2.2))) sz := by
  refine mk_M (by decide +kernel) (Nat.le_of_ble_eq_true rfl) ?_
  intro p e s m below meth c A args Q ls hAe hsz hQ hx hb hr hml hin ha hown hlocks hA hz hzs hst hP hD hS hl
  have hown : s.vm.findClass RX11 = some m.cls := hown
  rw [hAe] at hQ
  subst hsz
  have hP : va_P E.1 vwCl (List.flatten [w_Model E a o x]) s.heap := hP
  have hD : va_D A (List.flatten [w_Model E a o x]) := hD
  have hl : lv_has ls 2 [(0, .ref (a o)), (1, .int p1)] := hl
  generalize hHe : s.heap = H at hP
  have hS : va_S A s.heap H [] := by rw [← hHe]; exact hS
  generalize ([] : List Loc) = locs at hS ⊢
  unfold f_X11_deviation at hF
  refine lv_aload_n hx hb dX11_deviation_0 rfl (lv_at hl 0 rfl) ?_
  refine lv_iload_n hx hb dX11_deviation_1 rfl (lv_at hl 1 rfl) ?_
  obtain ⟨q1, hq1, hF⟩ := q_bdi hF
  refine cl_i (Lc := [w_Model E a o x]) (Lc' := [w_Model E a o x]) (L' := [w_Model E a o x]) (rv := q1) (va_runV (As := [.int p1]) (rest := []) ⟨hx, hb, hml, hown, ha⟩ (k_X11_isBell l E a o x p1 q1 hq1 H.size) (cwV 1 ha (gi_V (fun _ h => h) mw1736 mw1738 mw33 mw87 mw1739) rfl rfl rfl hv_X11_isBell ⟨(Nat.le_of_ble_eq_true rfl), (Nat.le_of_ble_eq_true rfl)⟩) ⟨pre_blind, va_recv hst.k (fr_P hP [0] rfl) (ci := 13) (q0 := 0) rfl rfl, pre_at hP hD hS hz hzs hst [0] (by decide) rfl rfl⟩ rfl rfl hl.1 rfl (lv_room (Nat.le_of_ble_eq_true rfl)) dX11_deviation_2 ⟨(Nat.le_of_ble_eq_true rfl), (Nat.le_of_ble_eq_true rfl)⟩) hP hD hS hA [0] (by decide) rfl rfl rfl rfl (fun H locs hP hD hS => ?_)
  refine lv_if_eq (tgt := 20) hx hb dX11_deviation_5 (by decide) (fun c5 => ?_) (fun c5 => ?_)
  · have hF := q_brp c5 hF
    refine lv_aload_n hx hb dX11_deviation_20 rfl (lv_at hl 0 rfl) ?_
    refine lv_iconst (v := 1) hx hb dX11_deviation_21 (by decide) ?_
    obtain ⟨q2, hq2, hF⟩ := q_bdi hF
    refine cl_i (Lc := [w_Model E a o x]) (Lc' := [w_Model E a o ((x.1.1, x.1.2.1, x.1.2.2.1, x.1.2.2.2.1, x.1.2.2.2.2), (x.2.1.1, x.2.1.2.1, x.2.1.2.2.1, x.2.1.2.2.2.1, x.2.1.2.2.2.2), (x.2.2.1.1, x.2.2.1.2.1, x.2.2.1.2.2.1, x.2.2.1.2.2.2), (q2.2, x.2.2.2.2.1, x.2.2.2.2.2.1, x.2.2.2.2.2.2))]) (L' := [w_Model E a o ((x.1.1, x.1.2.1, x.1.2.2.1, x.1.2.2.2.1, x.1.2.2.2.2), (x.2.1.1, x.2.1.2.1, x.2.1.2.2.1, x.2.1.2.2.2.1, x.2.1.2.2.2.2), (x.2.2.1.1, x.2.2.1.2.1, x.2.2.1.2.2.1, x.2.2.1.2.2.2), (q2.2, x.2.2.2.2.1, x.2.2.2.2.2.1, x.2.2.2.2.2.2))]) (rv := q2.1) (va_runV (As := [.int 1]) (rest := []) ⟨hx, hb, hml, hown, ha⟩ (k_X11_fails l E a o x 1 q2 hq2 H.size) (cwV 1 ha (gi_V (fun _ h => h) mw1716 mw1718 mw29 mw87 mw1719) rfl rfl rfl hv_X11_fails ⟨(Nat.le_of_ble_eq_true rfl), (Nat.le_of_ble_eq_true rfl)⟩) ⟨pre_blind, va_recv hst.k (fr_P hP [0] rfl) (ci := 13) (q0 := 0) rfl rfl, pre_at hP hD hS hz hzs hst [0] (by decide) rfl rfl⟩ rfl rfl hl.1 rfl (lv_room (Nat.le_of_ble_eq_true rfl)) dX11_deviation_22 ⟨(Nat.le_of_ble_eq_true rfl), (Nat.le_of_ble_eq_true rfl)⟩) hP hD hS hA [0] (by decide) rfl rfl rfl rfl (fun H locs hP hD hS => ?_)
    obtain rfl := Option.some.inj hF
    exact en_i hQ (Nat.le_of_ble_eq_true rfl) (Nat.le_of_ble_eq_true rfl) hx hb hr hlocks hP hD hS rfl dX11_deviation_25
  · have hF := q_brn c5 hF
    refine lv_aload_n hx hb dX11_deviation_8 rfl (lv_at hl 0 rfl) ?_
    refine lv_aload_n hx hb dX11_deviation_9 rfl (lv_at hl 0 rfl) ?_
    refine lv_iload_n hx hb dX11_deviation_10 rfl (lv_at hl 1 rfl) ?_
    obtain ⟨q3, hq3, hF⟩ := q_bdi hF
    refine cl_i (Lc := [w_Model E a o x]) (Lc' := [w_Model E a o x]) (L' := [w_Model E a o x]) (rv := q3) (va_runV (As := [.int p1]) (rest := [.ref (a o)]) ⟨hx, hb, hml, hown, ha⟩ (k_X11_deviationOf l E a o x p1 q3 hq3 H.size) (cwV 1 ha (gi_V (fun _ h => h) mw1786 mw1788 mw41 mw87 mw1789) rfl rfl rfl hv_X11_deviationOf ⟨(Nat.le_of_ble_eq_true rfl), (Nat.le_of_ble_eq_true rfl)⟩) ⟨pre_blind, va_recv hst.k (fr_P hP [0] rfl) (ci := 13) (q0 := 0) rfl rfl, pre_at hP hD hS hz hzs hst [0] (by decide) rfl rfl⟩ rfl rfl hl.1 rfl (lv_room (Nat.le_of_ble_eq_true rfl)) dX11_deviation_11 ⟨(Nat.le_of_ble_eq_true rfl), (Nat.le_of_ble_eq_true rfl)⟩) hP hD hS hA [0] (by decide) rfl rfl rfl rfl (fun H locs hP hD hS => ?_)
    obtain ⟨q4, hq4, hF⟩ := q_bdi hF
    refine cl_i (Lc := [w_Model E a o x]) (Lc' := [w_Model E a o ((x.1.1, x.1.2.1, x.1.2.2.1, x.1.2.2.2.1, x.1.2.2.2.2), (x.2.1.1, x.2.1.2.1, x.2.1.2.2.1, x.2.1.2.2.2.1, x.2.1.2.2.2.2), (x.2.2.1.1, x.2.2.1.2.1, x.2.2.1.2.2.1, x.2.2.1.2.2.2), (q4.2, x.2.2.2.2.1, x.2.2.2.2.2.1, x.2.2.2.2.2.2))]) (L' := [w_Model E a o ((x.1.1, x.1.2.1, x.1.2.2.1, x.1.2.2.2.1, x.1.2.2.2.2), (x.2.1.1, x.2.1.2.1, x.2.1.2.2.1, x.2.1.2.2.2.1, x.2.1.2.2.2.2), (x.2.2.1.1, x.2.2.1.2.1, x.2.2.1.2.2.1, x.2.2.1.2.2.2), (q4.2, x.2.2.2.2.1, x.2.2.2.2.2.1, x.2.2.2.2.2.2))]) (rv := q4.1) (va_runV (As := [.int q3]) (rest := []) ⟨hx, hb, hml, hown, ha⟩ (k_X11_done l E a o x q3 q4 hq4 H.size) (cwV 1 ha (gi_V (fun _ h => h) mw1720 mw1722 mw30 mw87 mw1723) rfl rfl rfl hv_X11_done ⟨(Nat.le_of_ble_eq_true rfl), (Nat.le_of_ble_eq_true rfl)⟩) ⟨pre_blind, va_recv hst.k (fr_P hP [0] rfl) (ci := 13) (q0 := 0) rfl rfl, pre_at hP hD hS hz hzs hst [0] (by decide) rfl rfl⟩ rfl rfl hl.1 rfl (lv_room (Nat.le_of_ble_eq_true rfl)) dX11_deviation_14 ⟨(Nat.le_of_ble_eq_true rfl), (Nat.le_of_ble_eq_true rfl)⟩) hP hD hS hA [0] (by decide) rfl rfl rfl rfl (fun H locs hP hD hS => ?_)
    refine lv_goto (tgt := 25) hx hb dX11_deviation_17 (by decide) ?_
    obtain rfl := Option.some.inj hF
    exact en_i hQ (Nat.le_of_ble_eq_true rfl) (Nat.le_of_ble_eq_true rfl) hx hb hr hlocks hP hD hS rfl dX11_deviation_25

/-! X11_isInKey -/
theorem dX11_isInKey_0 : decode cX11_isInKey 0 = .ok (.aload_n 0, 1) := by decide +kernel
theorem dX11_isInKey_1 : decode cX11_isInKey 1 = .ok (.aload_n 0, 1) := by decide +kernel
theorem dX11_isInKey_2 : decode cX11_isInKey 2 = .ok (.iload_n 1, 1) := by decide +kernel
theorem dX11_isInKey_3 : decode cX11_isInKey 3 = .ok (.invokevirtual 96, 3) := by decide +kernel
theorem dX11_isInKey_6 : decode cX11_isInKey 6 = .ok (.ifCond .eq 7, 3) := by decide +kernel
theorem dX11_isInKey_9 : decode cX11_isInKey 9 = .ok (.iconst 0, 1) := by decide +kernel
theorem dX11_isInKey_10 : decode cX11_isInKey 10 = .ok (.goto 4, 3) := by decide +kernel
theorem dX11_isInKey_13 : decode cX11_isInKey 13 = .ok (.iconst 1, 1) := by decide +kernel
theorem dX11_isInKey_14 : decode cX11_isInKey 14 = .ok (.putfield 42, 3) := by decide +kernel
theorem dX11_isInKey_17 : decode cX11_isInKey 17 = .ok (.aload_n 0, 1) := by decide +kernel
theorem dX11_isInKey_18 : decode cX11_isInKey 18 = .ok (.getfield 42, 3) := by decide +kernel
theorem dX11_isInKey_21 : decode cX11_isInKey 21 = .ok (.ifCond .ne 15, 3) := by decide +kernel
theorem dX11_isInKey_24 : decode cX11_isInKey 24 = .ok (.aload_n 0, 1) := by decide +kernel
theorem dX11_isInKey_25 : decode cX11_isInKey 25 = .ok (.iload_n 1, 1) := by decide +kernel
theorem dX11_isInKey_26 : decode cX11_isInKey 26 = .ok (.invokevirtual 111, 3) := by decide +kernel
theorem dX11_isInKey_29 : decode cX11_isInKey 29 = .ok (.ifCond .eq 7, 3) := by decide +kernel
theorem dX11_isInKey_32 : decode cX11_isInKey 32 = .ok (.iconst 1, 1) := by decide +kernel
theorem dX11_isInKey_33 : decode cX11_isInKey 33 = .ok (.goto 4, 3) := by decide +kernel
theorem dX11_isInKey_36 : decode cX11_isInKey 36 = .ok (.iconst 0, 1) := by decide +kernel
theorem dX11_isInKey_37 : decode cX11_isInKey 37 = .ok (.ireturn, 1) := by decide +kernel
def f_X11_isInKey (x_g : (Nat → Int32)) (x_thrown : Int32) (p1 : Int32) : Option (Int32 × Int32) :=
  q_bd (f_X11_isBell x_g p1) (fun q1 =>
  q_lt (fun (j2 : Int32) =>
  q_br (j2 = 0) (
  q_bd (f_X11_isKeyed x_g p1) (fun q3 =>
  q_br (q3 = 0) (
  some (0, j2)) (
  some (1, j2)))) (
  some (0, j2))) (fun (J14 : Int32 → Option (Int32 × Int32)) =>
  q_br (q1 = 0) (
  J14 1) (
  J14 0)))
theorem hv_X11_isInKey : yX11_isInKey.cls = RX11 ∧ yX11_isInKey.cls ≠ "java/lang/invoke/MethodHandle" ∧ yX11_isInKey.cls ≠ "java/lang/invoke/VarHandle" ∧ (parseMethodDescriptor yX11_isInKey.desc).map (fun d => d.parameters.length) = some 1 := by decide +kernel
abbrev rm_X11_isInKey : Room := { frames := 4, cells := 0, slots := 0, locals := 89 }
set_option maxHeartbeats 4000000 in
set_option maxRecDepth 100000 in
theorem k_X11_isInKey (l : Launch) (E : ET) (a : Nat → Nat) (o : Nat) (x : Model_t) (p1 : Int32) (res : Int32 × Int32) (hF : f_X11_isInKey x.1.1 x.2.2.2.1 p1 = some res) (sz : Nat) : CtI l yX11_isInKey (mws yX11_isInKey cX11_isInKey 2 (some .boolean)) rm_X11_isInKey 0 0 [.ref (a o), .int p1] E (bl_Model E a o x) res.1 (bl_Model E a o ((x.1.1, x.1.2.1, x.1.2.2.1, x.1.2.2.2.1, x.1.2.2.2.2), (x.2.1.1, x.2.1.2.1, x.2.1.2.2.1, x.2.1.2.2.2.1, x.2.1.2.2.2.2), (x.2.2.1.1, x.2.2.1.2.1, x.2.2.1.2.2.1, x.2.2.1.2.2.2), (res.2, x.2.2.2.2.1, x.2.2.2.2.2.1, x.2.2.2.2.2.2))) sz := by
  refine mk_M (by decide +kernel) (Nat.le_of_ble_eq_true rfl) ?_
  intro p e s m below meth c A args Q ls hAe hsz hQ hx hb hr hml hin ha hown hlocks hA hz hzs hst hP hD hS hl
  have hown : s.vm.findClass RX11 = some m.cls := hown
  rw [hAe] at hQ
  subst hsz
  have hP : va_P E.1 vwCl (List.flatten [w_Model E a o x]) s.heap := hP
  have hD : va_D A (List.flatten [w_Model E a o x]) := hD
  have hl : lv_has ls 2 [(0, .ref (a o)), (1, .int p1)] := hl
  generalize hHe : s.heap = H at hP
  have hS : va_S A s.heap H [] := by rw [← hHe]; exact hS
  generalize ([] : List Loc) = locs at hS ⊢
  unfold f_X11_isInKey at hF
  refine lv_aload_n hx hb dX11_isInKey_0 rfl (lv_at hl 0 rfl) ?_
  refine lv_aload_n hx hb dX11_isInKey_1 rfl (lv_at hl 0 rfl) ?_
  refine lv_iload_n hx hb dX11_isInKey_2 rfl (lv_at hl 1 rfl) ?_
  obtain ⟨q1, hq1, hF⟩ := q_bdi hF
  refine cl_i (Lc := [w_Model E a o x]) (Lc' := [w_Model E a o x]) (L' := [w_Model E a o x]) (rv := q1) (va_runV (As := [.int p1]) (rest := [.ref (a o)]) ⟨hx, hb, hml, hown, ha⟩ (k_X11_isBell l E a o x p1 q1 hq1 H.size) (cwV 1 ha (gi_V (fun _ h => h) mw1736 mw1738 mw33 mw87 mw1739) rfl rfl rfl hv_X11_isBell ⟨(Nat.le_of_ble_eq_true rfl), (Nat.le_of_ble_eq_true rfl)⟩) ⟨pre_blind, va_recv hst.k (fr_P hP [0] rfl) (ci := 13) (q0 := 0) rfl rfl, pre_at hP hD hS hz hzs hst [0] (by decide) rfl rfl⟩ rfl rfl hl.1 rfl (lv_room (Nat.le_of_ble_eq_true rfl)) dX11_isInKey_3 ⟨(Nat.le_of_ble_eq_true rfl), (Nat.le_of_ble_eq_true rfl)⟩) hP hD hS hA [0] (by decide) rfl rfl rfl rfl (fun H locs hP hD hS => ?_)
  obtain ⟨J14, hJ14, hF⟩ := q_jn hF
  have jJ14 : ∀ (j2 : Int32), ∀ (H : Heap) (locs : List Loc) (ls : Array Slot), J14 j2 = some res → va_P E.1 vwCl (List.flatten [w_Model E a o x]) H → va_D A (List.flatten [w_Model E a o x]) → va_S A s.heap H locs → lv_has ls 2 [(0, .ref (a o)), (1, .int p1)] → W p l e rm_X11_isInKey s m args below meth c H locs 0 0 Q (F0 m 14 ls [.int j2, .ref (a o)]) := by
    intro j2 H locs ls hF hP hD hS hl
    rw [hJ14] at hF
    refine va_put (D := E.1) (ci := 13) (v := .int j2) (ty := .int) (C := RX11) (T := TX11) (N := 18) hx hb ha in_X11 tyX11 tyX11_ok nmX11 hown hst.k hP hD hS 0 rfl rfl 14 (by decide) (ha _ mw1650) (fun _ h9 => h9) rfl (tyX11_ok 14 (by decide)) rfl rfl (Nat.le_of_ble_eq_true rfl) dX11_isInKey_14 (fun H locs hP hD hS => ?_)
    have hP : va_P E.1 vwCl (List.flatten [w_Model E a o ((x.1.1, x.1.2.1, x.1.2.2.1, x.1.2.2.2.1, x.1.2.2.2.2), (x.2.1.1, x.2.1.2.1, x.2.1.2.2.1, x.2.1.2.2.2.1, x.2.1.2.2.2.2), (x.2.2.1.1, x.2.2.1.2.1, x.2.2.1.2.2.1, x.2.2.1.2.2.2), (j2, x.2.2.2.2.1, x.2.2.2.2.2.1, x.2.2.2.2.2.2))]) H := hP
    have hD : va_D A (List.flatten [w_Model E a o ((x.1.1, x.1.2.1, x.1.2.2.1, x.1.2.2.2.1, x.1.2.2.2.2), (x.2.1.1, x.2.1.2.1, x.2.1.2.2.1, x.2.1.2.2.2.1, x.2.1.2.2.2.2), (x.2.2.1.1, x.2.2.1.2.1, x.2.2.1.2.2.1, x.2.2.1.2.2.2), (j2, x.2.2.2.2.1, x.2.2.2.2.2.1, x.2.2.2.2.2.2))]) := hD
    refine lv_aload_n hx hb dX11_isInKey_17 rfl (lv_at hl 0 rfl) ?_
    refine va_get (D := E.1) (ci := 13) (v := .int j2) (C := RX11) (T := TX11) (N := 18) hx hb ha in_X11 hown hst.k hP 0 rfl rfl 14 (by decide) (ha _ mw1650) (fun _ h9 => h9) rfl dX11_isInKey_18 ?_
    refine lv_if_ne (tgt := 36) hx hb dX11_isInKey_21 (by decide) (fun c21 => ?_) (fun c21 => ?_)
    · have hF := q_brn c21 hF
      refine lv_iconst (v := 0) hx hb dX11_isInKey_36 (by decide) ?_
      obtain rfl := Option.some.inj hF
      exact en_z hQ (Nat.le_of_ble_eq_true rfl) (Nat.le_of_ble_eq_true rfl) hx hb hr hlocks (by decide) hP hD hS rfl dX11_isInKey_37
    · have hF := q_brp c21 hF
      refine lv_aload_n hx hb dX11_isInKey_24 rfl (lv_at hl 0 rfl) ?_
      refine lv_iload_n hx hb dX11_isInKey_25 rfl (lv_at hl 1 rfl) ?_
      obtain ⟨q3, hq3, hF⟩ := q_bdi hF
      refine cl_i (Lc := [w_Model E a o ((x.1.1, x.1.2.1, x.1.2.2.1, x.1.2.2.2.1, x.1.2.2.2.2), (x.2.1.1, x.2.1.2.1, x.2.1.2.2.1, x.2.1.2.2.2.1, x.2.1.2.2.2.2), (x.2.2.1.1, x.2.2.1.2.1, x.2.2.1.2.2.1, x.2.2.1.2.2.2), (j2, x.2.2.2.2.1, x.2.2.2.2.2.1, x.2.2.2.2.2.2))]) (Lc' := [w_Model E a o ((x.1.1, x.1.2.1, x.1.2.2.1, x.1.2.2.2.1, x.1.2.2.2.2), (x.2.1.1, x.2.1.2.1, x.2.1.2.2.1, x.2.1.2.2.2.1, x.2.1.2.2.2.2), (x.2.2.1.1, x.2.2.1.2.1, x.2.2.1.2.2.1, x.2.2.1.2.2.2), (j2, x.2.2.2.2.1, x.2.2.2.2.2.1, x.2.2.2.2.2.2))]) (L' := [w_Model E a o ((x.1.1, x.1.2.1, x.1.2.2.1, x.1.2.2.2.1, x.1.2.2.2.2), (x.2.1.1, x.2.1.2.1, x.2.1.2.2.1, x.2.1.2.2.2.1, x.2.1.2.2.2.2), (x.2.2.1.1, x.2.2.1.2.1, x.2.2.1.2.2.1, x.2.2.1.2.2.2), (j2, x.2.2.2.2.1, x.2.2.2.2.2.1, x.2.2.2.2.2.2))]) (rv := q3) (va_runV (As := [.int p1]) (rest := []) ⟨hx, hb, hml, hown, ha⟩ (k_X11_isKeyed l E a o ((x.1.1, x.1.2.1, x.1.2.2.1, x.1.2.2.2.1, x.1.2.2.2.2), (x.2.1.1, x.2.1.2.1, x.2.1.2.2.1, x.2.1.2.2.2.1, x.2.1.2.2.2.2), (x.2.2.1.1, x.2.2.1.2.1, x.2.2.1.2.2.1, x.2.2.1.2.2.2), (j2, x.2.2.2.2.1, x.2.2.2.2.2.1, x.2.2.2.2.2.2)) p1 q3 hq3 H.size) (cwV 1 ha (gi_V (fun _ h => h) mw1768 mw1770 mw38 mw87 mw1771) rfl rfl rfl hv_X11_isKeyed ⟨(Nat.le_of_ble_eq_true rfl), (Nat.le_of_ble_eq_true rfl)⟩) ⟨pre_blind, va_recv hst.k (fr_P hP [0] rfl) (ci := 13) (q0 := 0) rfl rfl, pre_at hP hD hS hz hzs hst [0] (by decide) rfl rfl⟩ rfl rfl hl.1 rfl (lv_room (Nat.le_of_ble_eq_true rfl)) dX11_isInKey_26 ⟨(Nat.le_of_ble_eq_true rfl), (Nat.le_of_ble_eq_true rfl)⟩) hP hD hS hA [0] (by decide) rfl rfl rfl rfl (fun H locs hP hD hS => ?_)
      refine lv_if_eq (tgt := 36) hx hb dX11_isInKey_29 (by decide) (fun c29 => ?_) (fun c29 => ?_)
      · have hF := q_brp c29 hF
        refine lv_iconst (v := 0) hx hb dX11_isInKey_36 (by decide) ?_
        obtain rfl := Option.some.inj hF
        exact en_z hQ (Nat.le_of_ble_eq_true rfl) (Nat.le_of_ble_eq_true rfl) hx hb hr hlocks (by decide) hP hD hS rfl dX11_isInKey_37
      · have hF := q_brn c29 hF
        refine lv_iconst (v := 1) hx hb dX11_isInKey_32 (by decide) ?_
        refine lv_goto (tgt := 37) hx hb dX11_isInKey_33 (by decide) ?_
        obtain rfl := Option.some.inj hF
        exact en_z hQ (Nat.le_of_ble_eq_true rfl) (Nat.le_of_ble_eq_true rfl) hx hb hr hlocks (by decide) hP hD hS rfl dX11_isInKey_37
  refine lv_if_eq (tgt := 13) hx hb dX11_isInKey_6 (by decide) (fun c6 => ?_) (fun c6 => ?_)
  · have hF := q_brp c6 hF
    refine lv_iconst (v := 1) hx hb dX11_isInKey_13 (by decide) ?_
    exact jJ14 1 H locs ls hF hP hD hS (lv_sub hl [0, 1] rfl)
  · have hF := q_brn c6 hF
    refine lv_iconst (v := 0) hx hb dX11_isInKey_9 (by decide) ?_
    refine lv_goto (tgt := 14) hx hb dX11_isInKey_10 (by decide) ?_
    exact jJ14 0 H locs ls hF hP hD hS (lv_sub hl [0, 1] rfl)

/-! X11_isTuned -/
theorem dX11_isTuned_0 : decode cX11_isTuned 0 = .ok (.aload_n 0, 1) := by decide +kernel
theorem dX11_isTuned_1 : decode cX11_isTuned 1 = .ok (.iconst 0, 1) := by decide +kernel
theorem dX11_isTuned_2 : decode cX11_isTuned 2 = .ok (.putfield 42, 3) := by decide +kernel
theorem dX11_isTuned_5 : decode cX11_isTuned 5 = .ok (.aload_n 0, 1) := by decide +kernel
theorem dX11_isTuned_6 : decode cX11_isTuned 6 = .ok (.aload_n 0, 1) := by decide +kernel
theorem dX11_isTuned_7 : decode cX11_isTuned 7 = .ok (.getfield 7, 3) := by decide +kernel
theorem dX11_isTuned_10 : decode cX11_isTuned 10 = .ok (.iconst 2, 1) := by decide +kernel
theorem dX11_isTuned_11 : decode cX11_isTuned 11 = .ok (.iaload, 1) := by decide +kernel
theorem dX11_isTuned_12 : decode cX11_isTuned 12 = .ok (.aload_n 0, 1) := by decide +kernel
theorem dX11_isTuned_13 : decode cX11_isTuned 13 = .ok (.getfield 7, 3) := by decide +kernel
theorem dX11_isTuned_16 : decode cX11_isTuned 16 = .ok (.iconst 3, 1) := by decide +kernel
theorem dX11_isTuned_17 : decode cX11_isTuned 17 = .ok (.iaload, 1) := by decide +kernel
theorem dX11_isTuned_18 : decode cX11_isTuned 18 = .ok (.invokevirtual 117, 3) := by decide +kernel
theorem dX11_isTuned_21 : decode cX11_isTuned 21 = .ok (.aload_n 0, 1) := by decide +kernel
theorem dX11_isTuned_22 : decode cX11_isTuned 22 = .ok (.getfield 7, 3) := by decide +kernel
theorem dX11_isTuned_25 : decode cX11_isTuned 25 = .ok (.iconst 0, 1) := by decide +kernel
theorem dX11_isTuned_26 : decode cX11_isTuned 26 = .ok (.iaload, 1) := by decide +kernel
theorem dX11_isTuned_27 : decode cX11_isTuned 27 = .ok (.if_icmp .ne 7, 3) := by decide +kernel
theorem dX11_isTuned_30 : decode cX11_isTuned 30 = .ok (.iconst 1, 1) := by decide +kernel
theorem dX11_isTuned_31 : decode cX11_isTuned 31 = .ok (.goto 4, 3) := by decide +kernel
theorem dX11_isTuned_34 : decode cX11_isTuned 34 = .ok (.iconst 0, 1) := by decide +kernel
theorem dX11_isTuned_35 : decode cX11_isTuned 35 = .ok (.ireturn, 1) := by decide +kernel
def f_X11_isTuned (x_g : (Nat → Int32)) (x_thrown : Int32) : Option (Int32 × Int32) :=
  q_bd (f_X11_keyed x_g (x_g 2) (x_g 3)) (fun q1 =>
  q_br (q1 = (x_g 0)) (
  some (1, 0)) (
  some (0, 0)))
theorem hv_X11_isTuned : yX11_isTuned.cls = RX11 ∧ yX11_isTuned.cls ≠ "java/lang/invoke/MethodHandle" ∧ yX11_isTuned.cls ≠ "java/lang/invoke/VarHandle" ∧ (parseMethodDescriptor yX11_isTuned.desc).map (fun d => d.parameters.length) = some 0 := by decide +kernel
abbrev rm_X11_isTuned : Room := { frames := 4, cells := 0, slots := 0, locals := 92 }
set_option maxHeartbeats 4000000 in
set_option maxRecDepth 100000 in
theorem k_X11_isTuned (l : Launch) (E : ET) (a : Nat → Nat) (o : Nat) (x : Model_t) (res : Int32 × Int32) (hF : f_X11_isTuned x.1.1 x.2.2.2.1 = some res) (sz : Nat) : CtI l yX11_isTuned (mws yX11_isTuned cX11_isTuned 1 (some .boolean)) rm_X11_isTuned 0 0 [.ref (a o)] E (bl_Model E a o x) res.1 (bl_Model E a o ((x.1.1, x.1.2.1, x.1.2.2.1, x.1.2.2.2.1, x.1.2.2.2.2), (x.2.1.1, x.2.1.2.1, x.2.1.2.2.1, x.2.1.2.2.2.1, x.2.1.2.2.2.2), (x.2.2.1.1, x.2.2.1.2.1, x.2.2.1.2.2.1, x.2.2.1.2.2.2), (res.2, x.2.2.2.2.1, x.2.2.2.2.2.1, x.2.2.2.2.2.2))) sz := by
  refine mk_M (by decide +kernel) (Nat.le_of_ble_eq_true rfl) ?_
  intro p e s m below meth c A args Q ls hAe hsz hQ hx hb hr hml hin ha hown hlocks hA hz hzs hst hP hD hS hl
  have hown : s.vm.findClass RX11 = some m.cls := hown
  rw [hAe] at hQ
  subst hsz
  have hP : va_P E.1 vwCl (List.flatten [w_Model E a o x]) s.heap := hP
  have hD : va_D A (List.flatten [w_Model E a o x]) := hD
  have hl : lv_has ls 1 [(0, .ref (a o))] := hl
  generalize hHe : s.heap = H at hP
  have hS : va_S A s.heap H [] := by rw [← hHe]; exact hS
  generalize ([] : List Loc) = locs at hS ⊢
  unfold f_X11_isTuned at hF
  refine lv_aload_n hx hb dX11_isTuned_0 rfl (lv_at hl 0 rfl) ?_
  refine lv_iconst (v := 0) hx hb dX11_isTuned_1 (by decide) ?_
  refine va_put (D := E.1) (ci := 13) (v := .int 0) (ty := .int) (C := RX11) (T := TX11) (N := 18) hx hb ha in_X11 tyX11 tyX11_ok nmX11 hown hst.k hP hD hS 0 rfl rfl 14 (by decide) (ha _ mw1650) (fun _ h9 => h9) rfl (tyX11_ok 14 (by decide)) rfl rfl (Nat.le_of_ble_eq_true rfl) dX11_isTuned_2 (fun H locs hP hD hS => ?_)
  have hP : va_P E.1 vwCl (List.flatten [w_Model E a o ((x.1.1, x.1.2.1, x.1.2.2.1, x.1.2.2.2.1, x.1.2.2.2.2), (x.2.1.1, x.2.1.2.1, x.2.1.2.2.1, x.2.1.2.2.2.1, x.2.1.2.2.2.2), (x.2.2.1.1, x.2.2.1.2.1, x.2.2.1.2.2.1, x.2.2.1.2.2.2), (0, x.2.2.2.2.1, x.2.2.2.2.2.1, x.2.2.2.2.2.2))]) H := hP
  have hD : va_D A (List.flatten [w_Model E a o ((x.1.1, x.1.2.1, x.1.2.2.1, x.1.2.2.2.1, x.1.2.2.2.2), (x.2.1.1, x.2.1.2.1, x.2.1.2.2.1, x.2.1.2.2.2.1, x.2.1.2.2.2.2), (x.2.2.1.1, x.2.2.1.2.1, x.2.2.1.2.2.1, x.2.2.1.2.2.2), (0, x.2.2.2.2.1, x.2.2.2.2.2.1, x.2.2.2.2.2.2))]) := hD
  refine lv_aload_n hx hb dX11_isTuned_5 rfl (lv_at hl 0 rfl) ?_
  refine lv_aload_n hx hb dX11_isTuned_6 rfl (lv_at hl 0 rfl) ?_
  refine va_get (D := E.1) (ci := 13) (v := .ref (a (o + 1))) (C := RX11) (T := TX11) (N := 18) hx hb ha in_X11 hown hst.k hP 0 rfl rfl 0 (by decide) (ha _ mw1636) (fun _ h9 => h9) rfl dX11_isTuned_7 ?_
  refine lv_iconst (v := 2) hx hb dX11_isTuned_10 (by decide) ?_
  refine vi_iald hx hb hst.k hP 1 0 rfl rfl (f := x.1.1) (k := 2) (by decide) (by decide) dX11_isTuned_11 ?_
  refine lv_aload_n hx hb dX11_isTuned_12 rfl (lv_at hl 0 rfl) ?_
  refine va_get (D := E.1) (ci := 13) (v := .ref (a (o + 1))) (C := RX11) (T := TX11) (N := 18) hx hb ha in_X11 hown hst.k hP 0 rfl rfl 0 (by decide) (ha _ mw1636) (fun _ h9 => h9) rfl dX11_isTuned_13 ?_
  refine lv_iconst (v := 3) hx hb dX11_isTuned_16 (by decide) ?_
  refine vi_iald hx hb hst.k hP 1 0 rfl rfl (f := x.1.1) (k := 3) (by decide) (by decide) dX11_isTuned_17 ?_
  obtain ⟨q1, hq1, hF⟩ := q_bdi hF
  refine cl_i (Lc := [w_Model E a o ((x.1.1, x.1.2.1, x.1.2.2.1, x.1.2.2.2.1, x.1.2.2.2.2), (x.2.1.1, x.2.1.2.1, x.2.1.2.2.1, x.2.1.2.2.2.1, x.2.1.2.2.2.2), (x.2.2.1.1, x.2.2.1.2.1, x.2.2.1.2.2.1, x.2.2.1.2.2.2), (0, x.2.2.2.2.1, x.2.2.2.2.2.1, x.2.2.2.2.2.2))]) (Lc' := [w_Model E a o ((x.1.1, x.1.2.1, x.1.2.2.1, x.1.2.2.2.1, x.1.2.2.2.2), (x.2.1.1, x.2.1.2.1, x.2.1.2.2.1, x.2.1.2.2.2.1, x.2.1.2.2.2.2), (x.2.2.1.1, x.2.2.1.2.1, x.2.2.1.2.2.1, x.2.2.1.2.2.2), (0, x.2.2.2.2.1, x.2.2.2.2.2.1, x.2.2.2.2.2.2))]) (L' := [w_Model E a o ((x.1.1, x.1.2.1, x.1.2.2.1, x.1.2.2.2.1, x.1.2.2.2.2), (x.2.1.1, x.2.1.2.1, x.2.1.2.2.1, x.2.1.2.2.2.1, x.2.1.2.2.2.2), (x.2.2.1.1, x.2.2.1.2.1, x.2.2.1.2.2.1, x.2.2.1.2.2.2), (0, x.2.2.2.2.1, x.2.2.2.2.2.1, x.2.2.2.2.2.2))]) (rv := q1) (va_runV (As := [.int (x.1.1 2), .int (x.1.1 3)]) (rest := []) ⟨hx, hb, hml, hown, ha⟩ (k_X11_keyed l E a o ((x.1.1, x.1.2.1, x.1.2.2.1, x.1.2.2.2.1, x.1.2.2.2.2), (x.2.1.1, x.2.1.2.1, x.2.1.2.2.1, x.2.1.2.2.2.1, x.2.1.2.2.2.2), (x.2.2.1.1, x.2.2.1.2.1, x.2.2.1.2.2.1, x.2.2.1.2.2.2), (0, x.2.2.2.2.1, x.2.2.2.2.2.1, x.2.2.2.2.2.2)) (x.1.1 2) (x.1.1 3) q1 hq1 H.size) (cwV 2 ha (gi_V (fun _ h => h) mw1801 mw1803 mw43 mw87 mw1804) rfl rfl rfl hv_X11_keyed ⟨(Nat.le_of_ble_eq_true rfl), (Nat.le_of_ble_eq_true rfl)⟩) ⟨pre_blind, va_recv hst.k (fr_P hP [0] rfl) (ci := 13) (q0 := 0) rfl rfl, pre_at hP hD hS hz hzs hst [0] (by decide) rfl rfl⟩ rfl rfl hl.1 rfl (lv_room (Nat.le_of_ble_eq_true rfl)) dX11_isTuned_18 ⟨(Nat.le_of_ble_eq_true rfl), (Nat.le_of_ble_eq_true rfl)⟩) hP hD hS hA [0] (by decide) rfl rfl rfl rfl (fun H locs hP hD hS => ?_)
  refine lv_aload_n hx hb dX11_isTuned_21 rfl (lv_at hl 0 rfl) ?_
  refine va_get (D := E.1) (ci := 13) (v := .ref (a (o + 1))) (C := RX11) (T := TX11) (N := 18) hx hb ha in_X11 hown hst.k hP 0 rfl rfl 0 (by decide) (ha _ mw1636) (fun _ h9 => h9) rfl dX11_isTuned_22 ?_
  refine lv_iconst (v := 0) hx hb dX11_isTuned_25 (by decide) ?_
  refine vi_iald hx hb hst.k hP 1 0 rfl rfl (f := x.1.1) (k := 0) (by decide) (by decide) dX11_isTuned_26 ?_
  refine lv_icmp_ne (tgt := 34) hx hb dX11_isTuned_27 (by decide) (fun c27 => ?_) (fun c27 => ?_)
  · have hF := q_brn c27 hF
    refine lv_iconst (v := 0) hx hb dX11_isTuned_34 (by decide) ?_
    obtain rfl := Option.some.inj hF
    exact en_z hQ (Nat.le_of_ble_eq_true rfl) (Nat.le_of_ble_eq_true rfl) hx hb hr hlocks (by decide) hP hD hS rfl dX11_isTuned_35
  · have hF := q_brp c27 hF
    refine lv_iconst (v := 1) hx hb dX11_isTuned_30 (by decide) ?_
    refine lv_goto (tgt := 35) hx hb dX11_isTuned_31 (by decide) ?_
    obtain rfl := Option.some.inj hF
    exact en_z hQ (Nat.le_of_ble_eq_true rfl) (Nat.le_of_ble_eq_true rfl) hx hb hr hlocks (by decide) hP hD hS rfl dX11_isTuned_35

/-! X11_isExact -/
theorem dX11_isExact_0 : decode cX11_isExact 0 = .ok (.iload_n 1, 1) := by decide +kernel
theorem dX11_isExact_1 : decode cX11_isExact 1 = .ok (.bipush 100, 2) := by decide +kernel
theorem dX11_isExact_3 : decode cX11_isExact 3 = .ok (.irem, 1) := by decide +kernel
theorem dX11_isExact_4 : decode cX11_isExact 4 = .ok (.ifCond .ne 29, 3) := by decide +kernel
theorem dX11_isExact_7 : decode cX11_isExact 7 = .ok (.iload_n 1, 1) := by decide +kernel
theorem dX11_isExact_8 : decode cX11_isExact 8 = .ok (.bipush 100, 2) := by decide +kernel
theorem dX11_isExact_10 : decode cX11_isExact 10 = .ok (.idiv, 1) := by decide +kernel
theorem dX11_isExact_11 : decode cX11_isExact 11 = .ok (.aload_n 0, 1) := by decide +kernel
theorem dX11_isExact_12 : decode cX11_isExact 12 = .ok (.getfield 7, 3) := by decide +kernel
theorem dX11_isExact_15 : decode cX11_isExact 15 = .ok (.iconst 2, 1) := by decide +kernel
theorem dX11_isExact_16 : decode cX11_isExact 16 = .ok (.iaload, 1) := by decide +kernel
theorem dX11_isExact_17 : decode cX11_isExact 17 = .ok (.aload_n 0, 1) := by decide +kernel
theorem dX11_isExact_18 : decode cX11_isExact 18 = .ok (.getfield 7, 3) := by decide +kernel
theorem dX11_isExact_21 : decode cX11_isExact 21 = .ok (.iconst 3, 1) := by decide +kernel
theorem dX11_isExact_22 : decode cX11_isExact 22 = .ok (.iaload, 1) := by decide +kernel
theorem dX11_isExact_23 : decode cX11_isExact 23 = .ok (.invokestatic 64, 3) := by decide +kernel
theorem dX11_isExact_26 : decode cX11_isExact 26 = .ok (.ifCond .eq 7, 3) := by decide +kernel
theorem dX11_isExact_29 : decode cX11_isExact 29 = .ok (.iconst 1, 1) := by decide +kernel
theorem dX11_isExact_30 : decode cX11_isExact 30 = .ok (.goto 4, 3) := by decide +kernel
theorem dX11_isExact_33 : decode cX11_isExact 33 = .ok (.iconst 0, 1) := by decide +kernel
theorem dX11_isExact_34 : decode cX11_isExact 34 = .ok (.ireturn, 1) := by decide +kernel
def f_X11_isExact (x_g : (Nat → Int32)) (p1 : Int32) : Option (Int32) :=
  q_br ((p1 - p1 / 100 * 100) = 0) (
  q_bd (f_X11_isInScaleOf (p1 / 100) (x_g 2) (x_g 3)) (fun q1 =>
  q_br (q1 = 0) (
  some 0) (
  some 1))) (
  some 0)
theorem hv_X11_isExact : yX11_isExact.cls = RX11 ∧ yX11_isExact.cls ≠ "java/lang/invoke/MethodHandle" ∧ yX11_isExact.cls ≠ "java/lang/invoke/VarHandle" ∧ (parseMethodDescriptor yX11_isExact.desc).map (fun d => d.parameters.length) = some 1 := by decide +kernel
abbrev rm_X11_isExact : Room := { frames := 2, cells := 0, slots := 0, locals := 45 }
set_option maxHeartbeats 4000000 in
set_option maxRecDepth 100000 in
theorem k_X11_isExact (l : Launch) (E : ET) (a : Nat → Nat) (o : Nat) (x : Model_t) (p1 : Int32) (res : Int32) (hF : f_X11_isExact x.1.1 p1 = some res) (sz : Nat) : CtI l yX11_isExact (mws yX11_isExact cX11_isExact 2 (some .boolean)) rm_X11_isExact 0 0 [.ref (a o), .int p1] E (bl_Model E a o x) res (bl_Model E a o x) sz := by
  refine mk_M (by decide +kernel) (Nat.le_of_ble_eq_true rfl) ?_
  intro p e s m below meth c A args Q ls hAe hsz hQ hx hb hr hml hin ha hown hlocks hA hz hzs hst hP hD hS hl
  have hown : s.vm.findClass RX11 = some m.cls := hown
  rw [hAe] at hQ
  subst hsz
  have hP : va_P E.1 vwCl (List.flatten [w_Model E a o x]) s.heap := hP
  have hD : va_D A (List.flatten [w_Model E a o x]) := hD
  have hl : lv_has ls 2 [(0, .ref (a o)), (1, .int p1)] := hl
  generalize hHe : s.heap = H at hP
  have hS : va_S A s.heap H [] := by rw [← hHe]; exact hS
  generalize ([] : List Loc) = locs at hS ⊢
  unfold f_X11_isExact at hF
  refine lv_iload_n hx hb dX11_isExact_0 rfl (lv_at hl 1 rfl) ?_
  refine lv_bipush (v := 100) hx hb dX11_isExact_1 (by decide) ?_
  refine lv_irem hx hb dX11_isExact_3 (by decide) ?_
  refine lv_if_ne (tgt := 33) hx hb dX11_isExact_4 (by decide) (fun c4 => ?_) (fun c4 => ?_)
  · have hF := q_brn c4 hF
    refine lv_iconst (v := 0) hx hb dX11_isExact_33 (by decide) ?_
    obtain rfl := Option.some.inj hF
    exact en_z hQ (Nat.le_of_ble_eq_true rfl) (Nat.le_of_ble_eq_true rfl) hx hb hr hlocks (by decide) hP hD hS rfl dX11_isExact_34
  · have hF := q_brp c4 hF
    refine lv_iload_n hx hb dX11_isExact_7 rfl (lv_at hl 1 rfl) ?_
    refine lv_bipush (v := 100) hx hb dX11_isExact_8 (by decide) ?_
    refine lv_idiv hx hb dX11_isExact_10 (by decide) ?_
    refine lv_aload_n hx hb dX11_isExact_11 rfl (lv_at hl 0 rfl) ?_
    refine va_get (D := E.1) (ci := 13) (v := .ref (a (o + 1))) (C := RX11) (T := TX11) (N := 18) hx hb ha in_X11 hown hst.k hP 0 rfl rfl 0 (by decide) (ha _ mw1636) (fun _ h9 => h9) rfl dX11_isExact_12 ?_
    refine lv_iconst (v := 2) hx hb dX11_isExact_15 (by decide) ?_
    refine vi_iald hx hb hst.k hP 1 0 rfl rfl (f := x.1.1) (k := 2) (by decide) (by decide) dX11_isExact_16 ?_
    refine lv_aload_n hx hb dX11_isExact_17 rfl (lv_at hl 0 rfl) ?_
    refine va_get (D := E.1) (ci := 13) (v := .ref (a (o + 1))) (C := RX11) (T := TX11) (N := 18) hx hb ha in_X11 hown hst.k hP 0 rfl rfl 0 (by decide) (ha _ mw1636) (fun _ h9 => h9) rfl dX11_isExact_18 ?_
    refine lv_iconst (v := 3) hx hb dX11_isExact_21 (by decide) ?_
    refine vi_iald hx hb hst.k hP 1 0 rfl rfl (f := x.1.1) (k := 3) (by decide) (by decide) dX11_isExact_22 ?_
    obtain ⟨q1, hq1, hF⟩ := q_bdi hF
    refine cl_i (Lc := []) (Lc' := []) (L' := [w_Model E a o x]) (rv := q1) (va_runS (As := [.int (p1 / 100), .int (x.1.1 2), .int (x.1.1 3)]) (rest := []) ⟨hx, hb, hml, hown, ha⟩ (k_X11_isInScaleOf l E (p1 / 100) (x.1.1 2) (x.1.1 3) q1 hq1 H.size) (cwS 3 ha (gi_S (fun _ h => h) mw1780 mw1781 mw87 mw1782) rfl rfl rfl hv_X11_isInScaleOf ⟨(Nat.le_of_ble_eq_true rfl), (Nat.le_of_ble_eq_true rfl)⟩) ⟨pre_blind, pre_at hP hD hS hz hzs hst [] (by decide) rfl rfl⟩ rfl rfl hl.1 rfl (lv_room (Nat.le_of_ble_eq_true rfl)) dX11_isExact_23 ⟨(Nat.le_of_ble_eq_true rfl), (Nat.le_of_ble_eq_true rfl)⟩) hP hD hS hA [] (by decide) rfl rfl rfl rfl (fun H locs hP hD hS => ?_)
    refine lv_if_eq (tgt := 33) hx hb dX11_isExact_26 (by decide) (fun c26 => ?_) (fun c26 => ?_)
    · have hF := q_brp c26 hF
      refine lv_iconst (v := 0) hx hb dX11_isExact_33 (by decide) ?_
      obtain rfl := Option.some.inj hF
      exact en_z hQ (Nat.le_of_ble_eq_true rfl) (Nat.le_of_ble_eq_true rfl) hx hb hr hlocks (by decide) hP hD hS rfl dX11_isExact_34
    · have hF := q_brn c26 hF
      refine lv_iconst (v := 1) hx hb dX11_isExact_29 (by decide) ?_
      refine lv_goto (tgt := 34) hx hb dX11_isExact_30 (by decide) ?_
      obtain rfl := Option.some.inj hF
      exact en_z hQ (Nat.le_of_ble_eq_true rfl) (Nat.le_of_ble_eq_true rfl) hx hb hr hlocks (by decide) hP hD hS rfl dX11_isExact_34

/-! X11_centsToKey -/
theorem dX11_centsToKey_0 : decode cX11_centsToKey 0 = .ok (.aload_n 0, 1) := by decide +kernel
theorem dX11_centsToKey_1 : decode cX11_centsToKey 1 = .ok (.iload_n 1, 1) := by decide +kernel
theorem dX11_centsToKey_2 : decode cX11_centsToKey 2 = .ok (.invokevirtual 96, 3) := by decide +kernel
theorem dX11_centsToKey_5 : decode cX11_centsToKey 5 = .ok (.ifCond .ne 9, 3) := by decide +kernel
theorem dX11_centsToKey_8 : decode cX11_centsToKey 8 = .ok (.aload_n 0, 1) := by decide +kernel
theorem dX11_centsToKey_9 : decode cX11_centsToKey 9 = .ok (.iconst 1, 1) := by decide +kernel
theorem dX11_centsToKey_10 : decode cX11_centsToKey 10 = .ok (.invokevirtual 80, 3) := by decide +kernel
theorem dX11_centsToKey_13 : decode cX11_centsToKey 13 = .ok (.ireturn, 1) := by decide +kernel
theorem dX11_centsToKey_14 : decode cX11_centsToKey 14 = .ok (.iconst 0, 1) := by decide +kernel
theorem dX11_centsToKey_15 : decode cX11_centsToKey 15 = .ok (.istore_n 2, 1) := by decide +kernel
theorem dX11_centsToKey_16 : decode cX11_centsToKey 16 = .ok (.aload_n 0, 1) := by decide +kernel
theorem dX11_centsToKey_17 : decode cX11_centsToKey 17 = .ok (.aload_n 0, 1) := by decide +kernel
theorem dX11_centsToKey_18 : decode cX11_centsToKey 18 = .ok (.getfield 7, 3) := by decide +kernel
theorem dX11_centsToKey_21 : decode cX11_centsToKey 21 = .ok (.bipush 17, 2) := by decide +kernel
theorem dX11_centsToKey_23 : decode cX11_centsToKey 23 = .ok (.iload_n 1, 1) := by decide +kernel
theorem dX11_centsToKey_24 : decode cX11_centsToKey 24 = .ok (.iadd, 1) := by decide +kernel
theorem dX11_centsToKey_25 : decode cX11_centsToKey 25 = .ok (.iaload, 1) := by decide +kernel
theorem dX11_centsToKey_26 : decode cX11_centsToKey 26 = .ok (.iload_n 2, 1) := by decide +kernel
theorem dX11_centsToKey_27 : decode cX11_centsToKey 27 = .ok (.iadd, 1) := by decide +kernel
theorem dX11_centsToKey_28 : decode cX11_centsToKey 28 = .ok (.invokevirtual 144, 3) := by decide +kernel
theorem dX11_centsToKey_31 : decode cX11_centsToKey 31 = .ok (.ifCond .ne 27, 3) := by decide +kernel
theorem dX11_centsToKey_34 : decode cX11_centsToKey 34 = .ok (.aload_n 0, 1) := by decide +kernel
theorem dX11_centsToKey_35 : decode cX11_centsToKey 35 = .ok (.aload_n 0, 1) := by decide +kernel
theorem dX11_centsToKey_36 : decode cX11_centsToKey 36 = .ok (.getfield 7, 3) := by decide +kernel
theorem dX11_centsToKey_39 : decode cX11_centsToKey 39 = .ok (.bipush 17, 2) := by decide +kernel
theorem dX11_centsToKey_41 : decode cX11_centsToKey 41 = .ok (.iload_n 1, 1) := by decide +kernel
theorem dX11_centsToKey_42 : decode cX11_centsToKey 42 = .ok (.iadd, 1) := by decide +kernel
theorem dX11_centsToKey_43 : decode cX11_centsToKey 43 = .ok (.iaload, 1) := by decide +kernel
theorem dX11_centsToKey_44 : decode cX11_centsToKey 44 = .ok (.iload_n 2, 1) := by decide +kernel
theorem dX11_centsToKey_45 : decode cX11_centsToKey 45 = .ok (.isub, 1) := by decide +kernel
theorem dX11_centsToKey_46 : decode cX11_centsToKey 46 = .ok (.invokevirtual 144, 3) := by decide +kernel
theorem dX11_centsToKey_49 : decode cX11_centsToKey 49 = .ok (.ifCond .ne 9, 3) := by decide +kernel
theorem dX11_centsToKey_52 : decode cX11_centsToKey 52 = .ok (.iinc 2 1, 3) := by decide +kernel
theorem dX11_centsToKey_55 : decode cX11_centsToKey 55 = .ok (.goto (-39), 3) := by decide +kernel
theorem dX11_centsToKey_58 : decode cX11_centsToKey 58 = .ok (.aload_n 0, 1) := by decide +kernel
theorem dX11_centsToKey_59 : decode cX11_centsToKey 59 = .ok (.aload_n 0, 1) := by decide +kernel
theorem dX11_centsToKey_60 : decode cX11_centsToKey 60 = .ok (.aload_n 0, 1) := by decide +kernel
theorem dX11_centsToKey_61 : decode cX11_centsToKey 61 = .ok (.getfield 7, 3) := by decide +kernel
theorem dX11_centsToKey_64 : decode cX11_centsToKey 64 = .ok (.bipush 17, 2) := by decide +kernel
theorem dX11_centsToKey_66 : decode cX11_centsToKey 66 = .ok (.iload_n 1, 1) := by decide +kernel
theorem dX11_centsToKey_67 : decode cX11_centsToKey 67 = .ok (.iadd, 1) := by decide +kernel
theorem dX11_centsToKey_68 : decode cX11_centsToKey 68 = .ok (.iaload, 1) := by decide +kernel
theorem dX11_centsToKey_69 : decode cX11_centsToKey 69 = .ok (.iload_n 2, 1) := by decide +kernel
theorem dX11_centsToKey_70 : decode cX11_centsToKey 70 = .ok (.iadd, 1) := by decide +kernel
theorem dX11_centsToKey_71 : decode cX11_centsToKey 71 = .ok (.invokevirtual 144, 3) := by decide +kernel
theorem dX11_centsToKey_74 : decode cX11_centsToKey 74 = .ok (.ifCond .eq 7, 3) := by decide +kernel
theorem dX11_centsToKey_77 : decode cX11_centsToKey 77 = .ok (.iload_n 2, 1) := by decide +kernel
theorem dX11_centsToKey_78 : decode cX11_centsToKey 78 = .ok (.goto 5, 3) := by decide +kernel
theorem dX11_centsToKey_81 : decode cX11_centsToKey 81 = .ok (.iload_n 2, 1) := by decide +kernel
theorem dX11_centsToKey_82 : decode cX11_centsToKey 82 = .ok (.ineg, 1) := by decide +kernel
theorem dX11_centsToKey_83 : decode cX11_centsToKey 83 = .ok (.invokevirtual 83, 3) := by decide +kernel
theorem dX11_centsToKey_86 : decode cX11_centsToKey 86 = .ok (.ireturn, 1) := by decide +kernel
def f_X11_centsToKey_L16 (x_g : (Nat → Int32)) (p1 : Int32) (K16 : Int32 → Option (Int32 × Int32)) : Nat → Int32 → Option (Int32 × Int32)
  | 0, _ => none
  | n16 + 1, i2 =>
    q_gd (q_in (17 + p1) 77) (
  q_bd (f_X11_isExact x_g ((x_g ((17 + p1).toNatClampNeg)) + i2)) (fun q5 =>
  q_br (q5 = 0) (
  q_gd (q_in (17 + p1) 77) (
  q_bd (f_X11_isExact x_g ((x_g ((17 + p1).toNatClampNeg)) - i2)) (fun q7 =>
  q_br (q7 = 0) (
  q_lt (i2 + 1 : Int32) (fun v8 =>
  f_X11_centsToKey_L16 x_g p1 K16 n16 v8)) (
  K16 i2)))) (
  K16 i2)))
def f_X11_centsToKey (x_g : (Nat → Int32)) (x_thrown : Int32) (p1 : Int32) : Option (Int32 × Int32) :=
  q_bd (f_X11_isBell x_g p1) (fun q1 =>
  q_br (q1 = 0) (
  q_bd (f_X11_fails x_thrown 1) (fun q13 =>
  some (q13.1, q13.2))) (
  f_X11_centsToKey_L16 x_g p1 (fun y3 =>
  q_gd (q_in (17 + p1) 77) (
  q_bd (f_X11_isExact x_g ((x_g ((17 + p1).toNatClampNeg)) + y3)) (fun q10 =>
  q_br (q10 = 0) (
  q_bd (f_X11_done x_thrown (-y3)) (fun q11 =>
  some (q11.1, q11.2))) (
  q_bd (f_X11_done x_thrown y3) (fun q12 =>
  some (q12.1, q12.2)))))) 2000 0))
theorem hv_X11_centsToKey : yX11_centsToKey.cls = RX11 ∧ yX11_centsToKey.cls ≠ "java/lang/invoke/MethodHandle" ∧ yX11_centsToKey.cls ≠ "java/lang/invoke/VarHandle" ∧ (parseMethodDescriptor yX11_centsToKey.desc).map (fun d => d.parameters.length) = some 1 := by decide +kernel
abbrev rm_X11_centsToKey : Room := { frames := 3, cells := 0, slots := 0, locals := 66 }
set_option maxHeartbeats 4000000 in
set_option maxRecDepth 100000 in
theorem k_X11_centsToKey (l : Launch) (E : ET) (a : Nat → Nat) (o : Nat) (x : Model_t) (p1 : Int32) (res : Int32 × Int32) (hF : f_X11_centsToKey x.1.1 x.2.2.2.1 p1 = some res) (sz : Nat) : CtI l yX11_centsToKey (mws yX11_centsToKey cX11_centsToKey 3 (some .int)) rm_X11_centsToKey 0 0 [.ref (a o), .int p1] E (bl_Model E a o x) res.1 (bl_Model E a o ((x.1.1, x.1.2.1, x.1.2.2.1, x.1.2.2.2.1, x.1.2.2.2.2), (x.2.1.1, x.2.1.2.1, x.2.1.2.2.1, x.2.1.2.2.2.1, x.2.1.2.2.2.2), (x.2.2.1.1, x.2.2.1.2.1, x.2.2.1.2.2.1, x.2.2.1.2.2.2), (res.2, x.2.2.2.2.1, x.2.2.2.2.2.1, x.2.2.2.2.2.2))) sz := by
  refine mk_M (by decide +kernel) (Nat.le_of_ble_eq_true rfl) ?_
  intro p e s m below meth c A args Q ls hAe hsz hQ hx hb hr hml hin ha hown hlocks hA hz hzs hst hP hD hS hl
  have hown : s.vm.findClass RX11 = some m.cls := hown
  rw [hAe] at hQ
  subst hsz
  have hP : va_P E.1 vwCl (List.flatten [w_Model E a o x]) s.heap := hP
  have hD : va_D A (List.flatten [w_Model E a o x]) := hD
  have hl : lv_has ls 3 [(0, .ref (a o)), (1, .int p1)] := hl
  generalize hHe : s.heap = H at hP
  have hS : va_S A s.heap H [] := by rw [← hHe]; exact hS
  generalize ([] : List Loc) = locs at hS ⊢
  unfold f_X11_centsToKey at hF
  refine lv_aload_n hx hb dX11_centsToKey_0 rfl (lv_at hl 0 rfl) ?_
  refine lv_iload_n hx hb dX11_centsToKey_1 rfl (lv_at hl 1 rfl) ?_
  obtain ⟨q1, hq1, hF⟩ := q_bdi hF
  refine cl_i (Lc := [w_Model E a o x]) (Lc' := [w_Model E a o x]) (L' := [w_Model E a o x]) (rv := q1) (va_runV (As := [.int p1]) (rest := []) ⟨hx, hb, hml, hown, ha⟩ (k_X11_isBell l E a o x p1 q1 hq1 H.size) (cwV 1 ha (gi_V (fun _ h => h) mw1736 mw1738 mw33 mw87 mw1739) rfl rfl rfl hv_X11_isBell ⟨(Nat.le_of_ble_eq_true rfl), (Nat.le_of_ble_eq_true rfl)⟩) ⟨pre_blind, va_recv hst.k (fr_P hP [0] rfl) (ci := 13) (q0 := 0) rfl rfl, pre_at hP hD hS hz hzs hst [0] (by decide) rfl rfl⟩ rfl rfl hl.1 rfl (lv_room (Nat.le_of_ble_eq_true rfl)) dX11_centsToKey_2 ⟨(Nat.le_of_ble_eq_true rfl), (Nat.le_of_ble_eq_true rfl)⟩) hP hD hS hA [0] (by decide) rfl rfl rfl rfl (fun H locs hP hD hS => ?_)
  refine lv_if_ne (tgt := 14) hx hb dX11_centsToKey_5 (by decide) (fun c5 => ?_) (fun c5 => ?_)
  · have hF := q_brn c5 hF
    refine lv_iconst (v := 0) hx hb dX11_centsToKey_14 (by decide) ?_
    refine lv_istore_n (lv' := [(2, .int 0), (0, .ref (a o)), (1, .int p1)]) hx hb dX11_centsToKey_15 rfl hl (by decide) rfl (fun ls hl => ?_)
    have key16 : ∀ (K : Int32 → Option (Int32 × Int32)), (∀ (y3 : Int32) (H : Heap) (locs : List Loc) (ls : Array Slot), K y3 = some res → va_P E.1 vwCl (List.flatten [w_Model E a o x]) H → va_D A (List.flatten [w_Model E a o x]) → va_S A s.heap H locs → lv_has ls 3 [(2, .int y3), (0, .ref (a o)), (1, .int p1)] → W p l e rm_X11_centsToKey s m args below meth c H locs 0 0 Q (F0 m 58 ls [])) → ∀ (n : Nat) (i2 : Int32) (H : Heap) (locs : List Loc) (ls : Array Slot), f_X11_centsToKey_L16 x.1.1 p1 K n i2 = some res → va_P E.1 vwCl (List.flatten [w_Model E a o x]) H → va_D A (List.flatten [w_Model E a o x]) → va_S A s.heap H locs → lv_has ls 3 [(2, .int i2), (0, .ref (a o)), (1, .int p1)] → W p l e rm_X11_centsToKey s m args below meth c H locs 0 0 Q (F0 m 16 ls []) := by
      intro K16 hK16 n16
      induction n16 with
      | zero => intro i2 H locs ls hF; exact absurd hF (by simp [f_X11_centsToKey_L16])
      | succ n16 ih16 =>
        intro i2 H locs ls hF hP hD hS hl
        rw [f_X11_centsToKey_L16] at hF
        refine lv_aload_n hx hb dX11_centsToKey_16 rfl (lv_at hl 1 rfl) ?_
        refine lv_aload_n hx hb dX11_centsToKey_17 rfl (lv_at hl 1 rfl) ?_
        refine va_get (D := E.1) (ci := 13) (v := .ref (a (o + 1))) (C := RX11) (T := TX11) (N := 18) hx hb ha in_X11 hown hst.k hP 0 rfl rfl 0 (by decide) (ha _ mw1636) (fun _ h9 => h9) rfl dX11_centsToKey_18 ?_
        refine lv_bipush (v := 17) hx hb dX11_centsToKey_21 (by decide) ?_
        refine lv_iload_n hx hb dX11_centsToKey_23 rfl (lv_at hl 2 rfl) ?_
        refine lv_iadd hx hb dX11_centsToKey_24 ?_
        obtain ⟨g4, hF⟩ := q_gdi hF
        refine vi_iald hx hb hst.k hP 1 0 rfl rfl (f := x.1.1) (k := (17 + p1).toNatClampNeg) rfl g4 dX11_centsToKey_25 ?_
        refine lv_iload_n hx hb dX11_centsToKey_26 rfl (lv_at hl 0 rfl) ?_
        refine lv_iadd hx hb dX11_centsToKey_27 ?_
        obtain ⟨q5, hq5, hF⟩ := q_bdi hF
        refine cl_i (Lc := [w_Model E a o x]) (Lc' := [w_Model E a o x]) (L' := [w_Model E a o x]) (rv := q5) (va_runV (As := [.int ((x.1.1 ((17 + p1).toNatClampNeg)) + i2)]) (rest := []) ⟨hx, hb, hml, hown, ha⟩ (k_X11_isExact l E a o x ((x.1.1 ((17 + p1).toNatClampNeg)) + i2) q5 hq5 H.size) (cwV 1 ha (gi_V (fun _ h => h) mw1889 mw1891 mw51 mw87 mw1892) rfl rfl rfl hv_X11_isExact ⟨(Nat.le_of_ble_eq_true rfl), (Nat.le_of_ble_eq_true rfl)⟩) ⟨pre_blind, va_recv hst.k (fr_P hP [0] rfl) (ci := 13) (q0 := 0) rfl rfl, pre_at hP hD hS hz hzs hst [0] (by decide) rfl rfl⟩ rfl rfl hl.1 rfl (lv_room (Nat.le_of_ble_eq_true rfl)) dX11_centsToKey_28 ⟨(Nat.le_of_ble_eq_true rfl), (Nat.le_of_ble_eq_true rfl)⟩) hP hD hS hA [0] (by decide) rfl rfl rfl rfl (fun H locs hP hD hS => ?_)
        refine lv_if_ne (tgt := 58) hx hb dX11_centsToKey_31 (by decide) (fun c31 => ?_) (fun c31 => ?_)
        · have hF := q_brn c31 hF
          exact hK16 i2 H locs ls hF hP hD hS (lv_sub hl [0, 1, 2] rfl)
        · have hF := q_brp c31 hF
          refine lv_aload_n hx hb dX11_centsToKey_34 rfl (lv_at hl 1 rfl) ?_
          refine lv_aload_n hx hb dX11_centsToKey_35 rfl (lv_at hl 1 rfl) ?_
          refine va_get (D := E.1) (ci := 13) (v := .ref (a (o + 1))) (C := RX11) (T := TX11) (N := 18) hx hb ha in_X11 hown hst.k hP 0 rfl rfl 0 (by decide) (ha _ mw1636) (fun _ h9 => h9) rfl dX11_centsToKey_36 ?_
          refine lv_bipush (v := 17) hx hb dX11_centsToKey_39 (by decide) ?_
          refine lv_iload_n hx hb dX11_centsToKey_41 rfl (lv_at hl 2 rfl) ?_
          refine lv_iadd hx hb dX11_centsToKey_42 ?_
          obtain ⟨g6, hF⟩ := q_gdi hF
          refine vi_iald hx hb hst.k hP 1 0 rfl rfl (f := x.1.1) (k := (17 + p1).toNatClampNeg) rfl g6 dX11_centsToKey_43 ?_
          refine lv_iload_n hx hb dX11_centsToKey_44 rfl (lv_at hl 0 rfl) ?_
          refine lv_isub hx hb dX11_centsToKey_45 ?_
          obtain ⟨q7, hq7, hF⟩ := q_bdi hF
          refine cl_i (Lc := [w_Model E a o x]) (Lc' := [w_Model E a o x]) (L' := [w_Model E a o x]) (rv := q7) (va_runV (As := [.int ((x.1.1 ((17 + p1).toNatClampNeg)) - i2)]) (rest := []) ⟨hx, hb, hml, hown, ha⟩ (k_X11_isExact l E a o x ((x.1.1 ((17 + p1).toNatClampNeg)) - i2) q7 hq7 H.size) (cwV 1 ha (gi_V (fun _ h => h) mw1889 mw1891 mw51 mw87 mw1892) rfl rfl rfl hv_X11_isExact ⟨(Nat.le_of_ble_eq_true rfl), (Nat.le_of_ble_eq_true rfl)⟩) ⟨pre_blind, va_recv hst.k (fr_P hP [0] rfl) (ci := 13) (q0 := 0) rfl rfl, pre_at hP hD hS hz hzs hst [0] (by decide) rfl rfl⟩ rfl rfl hl.1 rfl (lv_room (Nat.le_of_ble_eq_true rfl)) dX11_centsToKey_46 ⟨(Nat.le_of_ble_eq_true rfl), (Nat.le_of_ble_eq_true rfl)⟩) hP hD hS hA [0] (by decide) rfl rfl rfl rfl (fun H locs hP hD hS => ?_)
          refine lv_if_ne (tgt := 58) hx hb dX11_centsToKey_49 (by decide) (fun c49 => ?_) (fun c49 => ?_)
          · have hF := q_brn c49 hF
            exact hK16 i2 H locs ls hF hP hD hS (lv_sub hl [0, 1, 2] rfl)
          · have hF := q_brp c49 hF
            obtain ⟨v8, ev8⟩ : ∃ y : Int32, y = i2 + 1 := ⟨_, rfl⟩
            have hF := q_lti ev8 hF
            refine lv_iinc (v := v8) (lv' := [(2, .int v8), (0, .ref (a o)), (1, .int p1)]) hx hb dX11_centsToKey_52 hl (k := 0) rfl (by rw [ev8]; rfl) (by decide) rfl (fun ls hl => ?_)
            refine lv_goto (tgt := 16) hx hb dX11_centsToKey_55 (by decide) ?_
            exact ih16 v8 H locs ls hF hP hD hS (lv_sub hl [0, 1, 2] rfl)
    refine key16 _ ?_ _ 0 H locs ls hF hP hD hS (lv_sub hl [0, 1, 2] rfl)
    intro y3 H locs ls hF hP hD hS hl
    refine lv_aload_n hx hb dX11_centsToKey_58 rfl (lv_at hl 1 rfl) ?_
    refine lv_aload_n hx hb dX11_centsToKey_59 rfl (lv_at hl 1 rfl) ?_
    refine lv_aload_n hx hb dX11_centsToKey_60 rfl (lv_at hl 1 rfl) ?_
    refine va_get (D := E.1) (ci := 13) (v := .ref (a (o + 1))) (C := RX11) (T := TX11) (N := 18) hx hb ha in_X11 hown hst.k hP 0 rfl rfl 0 (by decide) (ha _ mw1636) (fun _ h9 => h9) rfl dX11_centsToKey_61 ?_
    refine lv_bipush (v := 17) hx hb dX11_centsToKey_64 (by decide) ?_
    refine lv_iload_n hx hb dX11_centsToKey_66 rfl (lv_at hl 2 rfl) ?_
    refine lv_iadd hx hb dX11_centsToKey_67 ?_
    obtain ⟨g9, hF⟩ := q_gdi hF
    refine vi_iald hx hb hst.k hP 1 0 rfl rfl (f := x.1.1) (k := (17 + p1).toNatClampNeg) rfl g9 dX11_centsToKey_68 ?_
    refine lv_iload_n hx hb dX11_centsToKey_69 rfl (lv_at hl 0 rfl) ?_
    refine lv_iadd hx hb dX11_centsToKey_70 ?_
    obtain ⟨q10, hq10, hF⟩ := q_bdi hF
    refine cl_i (Lc := [w_Model E a o x]) (Lc' := [w_Model E a o x]) (L' := [w_Model E a o x]) (rv := q10) (va_runV (As := [.int ((x.1.1 ((17 + p1).toNatClampNeg)) + y3)]) (rest := [.ref (a o)]) ⟨hx, hb, hml, hown, ha⟩ (k_X11_isExact l E a o x ((x.1.1 ((17 + p1).toNatClampNeg)) + y3) q10 hq10 H.size) (cwV 1 ha (gi_V (fun _ h => h) mw1889 mw1891 mw51 mw87 mw1892) rfl rfl rfl hv_X11_isExact ⟨(Nat.le_of_ble_eq_true rfl), (Nat.le_of_ble_eq_true rfl)⟩) ⟨pre_blind, va_recv hst.k (fr_P hP [0] rfl) (ci := 13) (q0 := 0) rfl rfl, pre_at hP hD hS hz hzs hst [0] (by decide) rfl rfl⟩ rfl rfl hl.1 rfl (lv_room (Nat.le_of_ble_eq_true rfl)) dX11_centsToKey_71 ⟨(Nat.le_of_ble_eq_true rfl), (Nat.le_of_ble_eq_true rfl)⟩) hP hD hS hA [0] (by decide) rfl rfl rfl rfl (fun H locs hP hD hS => ?_)
    refine lv_if_eq (tgt := 81) hx hb dX11_centsToKey_74 (by decide) (fun c74 => ?_) (fun c74 => ?_)
    · have hF := q_brp c74 hF
      refine lv_iload_n hx hb dX11_centsToKey_81 rfl (lv_at hl 0 rfl) ?_
      refine lv_ineg hx hb dX11_centsToKey_82 ?_
      obtain ⟨q11, hq11, hF⟩ := q_bdi hF
      refine cl_i (Lc := [w_Model E a o x]) (Lc' := [w_Model E a o ((x.1.1, x.1.2.1, x.1.2.2.1, x.1.2.2.2.1, x.1.2.2.2.2), (x.2.1.1, x.2.1.2.1, x.2.1.2.2.1, x.2.1.2.2.2.1, x.2.1.2.2.2.2), (x.2.2.1.1, x.2.2.1.2.1, x.2.2.1.2.2.1, x.2.2.1.2.2.2), (q11.2, x.2.2.2.2.1, x.2.2.2.2.2.1, x.2.2.2.2.2.2))]) (L' := [w_Model E a o ((x.1.1, x.1.2.1, x.1.2.2.1, x.1.2.2.2.1, x.1.2.2.2.2), (x.2.1.1, x.2.1.2.1, x.2.1.2.2.1, x.2.1.2.2.2.1, x.2.1.2.2.2.2), (x.2.2.1.1, x.2.2.1.2.1, x.2.2.1.2.2.1, x.2.2.1.2.2.2), (q11.2, x.2.2.2.2.1, x.2.2.2.2.2.1, x.2.2.2.2.2.2))]) (rv := q11.1) (va_runV (As := [.int (-y3)]) (rest := []) ⟨hx, hb, hml, hown, ha⟩ (k_X11_done l E a o x (-y3) q11 hq11 H.size) (cwV 1 ha (gi_V (fun _ h => h) mw1720 mw1722 mw30 mw87 mw1723) rfl rfl rfl hv_X11_done ⟨(Nat.le_of_ble_eq_true rfl), (Nat.le_of_ble_eq_true rfl)⟩) ⟨pre_blind, va_recv hst.k (fr_P hP [0] rfl) (ci := 13) (q0 := 0) rfl rfl, pre_at hP hD hS hz hzs hst [0] (by decide) rfl rfl⟩ rfl rfl hl.1 rfl (lv_room (Nat.le_of_ble_eq_true rfl)) dX11_centsToKey_83 ⟨(Nat.le_of_ble_eq_true rfl), (Nat.le_of_ble_eq_true rfl)⟩) hP hD hS hA [0] (by decide) rfl rfl rfl rfl (fun H locs hP hD hS => ?_)
      obtain rfl := Option.some.inj hF
      exact en_i hQ (Nat.le_of_ble_eq_true rfl) (Nat.le_of_ble_eq_true rfl) hx hb hr hlocks hP hD hS rfl dX11_centsToKey_86
    · have hF := q_brn c74 hF
      refine lv_iload_n hx hb dX11_centsToKey_77 rfl (lv_at hl 0 rfl) ?_
      refine lv_goto (tgt := 83) hx hb dX11_centsToKey_78 (by decide) ?_
      obtain ⟨q12, hq12, hF⟩ := q_bdi hF
      refine cl_i (Lc := [w_Model E a o x]) (Lc' := [w_Model E a o ((x.1.1, x.1.2.1, x.1.2.2.1, x.1.2.2.2.1, x.1.2.2.2.2), (x.2.1.1, x.2.1.2.1, x.2.1.2.2.1, x.2.1.2.2.2.1, x.2.1.2.2.2.2), (x.2.2.1.1, x.2.2.1.2.1, x.2.2.1.2.2.1, x.2.2.1.2.2.2), (q12.2, x.2.2.2.2.1, x.2.2.2.2.2.1, x.2.2.2.2.2.2))]) (L' := [w_Model E a o ((x.1.1, x.1.2.1, x.1.2.2.1, x.1.2.2.2.1, x.1.2.2.2.2), (x.2.1.1, x.2.1.2.1, x.2.1.2.2.1, x.2.1.2.2.2.1, x.2.1.2.2.2.2), (x.2.2.1.1, x.2.2.1.2.1, x.2.2.1.2.2.1, x.2.2.1.2.2.2), (q12.2, x.2.2.2.2.1, x.2.2.2.2.2.1, x.2.2.2.2.2.2))]) (rv := q12.1) (va_runV (As := [.int y3]) (rest := []) ⟨hx, hb, hml, hown, ha⟩ (k_X11_done l E a o x y3 q12 hq12 H.size) (cwV 1 ha (gi_V (fun _ h => h) mw1720 mw1722 mw30 mw87 mw1723) rfl rfl rfl hv_X11_done ⟨(Nat.le_of_ble_eq_true rfl), (Nat.le_of_ble_eq_true rfl)⟩) ⟨pre_blind, va_recv hst.k (fr_P hP [0] rfl) (ci := 13) (q0 := 0) rfl rfl, pre_at hP hD hS hz hzs hst [0] (by decide) rfl rfl⟩ rfl rfl hl.1 rfl (lv_room (Nat.le_of_ble_eq_true rfl)) dX11_centsToKey_83 ⟨(Nat.le_of_ble_eq_true rfl), (Nat.le_of_ble_eq_true rfl)⟩) hP hD hS hA [0] (by decide) rfl rfl rfl rfl (fun H locs hP hD hS => ?_)
      obtain rfl := Option.some.inj hF
      exact en_i hQ (Nat.le_of_ble_eq_true rfl) (Nat.le_of_ble_eq_true rfl) hx hb hr hlocks hP hD hS rfl dX11_centsToKey_86
  · have hF := q_brp c5 hF
    refine lv_aload_n hx hb dX11_centsToKey_8 rfl (lv_at hl 0 rfl) ?_
    refine lv_iconst (v := 1) hx hb dX11_centsToKey_9 (by decide) ?_
    obtain ⟨q13, hq13, hF⟩ := q_bdi hF
    refine cl_i (Lc := [w_Model E a o x]) (Lc' := [w_Model E a o ((x.1.1, x.1.2.1, x.1.2.2.1, x.1.2.2.2.1, x.1.2.2.2.2), (x.2.1.1, x.2.1.2.1, x.2.1.2.2.1, x.2.1.2.2.2.1, x.2.1.2.2.2.2), (x.2.2.1.1, x.2.2.1.2.1, x.2.2.1.2.2.1, x.2.2.1.2.2.2), (q13.2, x.2.2.2.2.1, x.2.2.2.2.2.1, x.2.2.2.2.2.2))]) (L' := [w_Model E a o ((x.1.1, x.1.2.1, x.1.2.2.1, x.1.2.2.2.1, x.1.2.2.2.2), (x.2.1.1, x.2.1.2.1, x.2.1.2.2.1, x.2.1.2.2.2.1, x.2.1.2.2.2.2), (x.2.2.1.1, x.2.2.1.2.1, x.2.2.1.2.2.1, x.2.2.1.2.2.2), (q13.2, x.2.2.2.2.1, x.2.2.2.2.2.1, x.2.2.2.2.2.2))]) (rv := q13.1) (va_runV (As := [.int 1]) (rest := []) ⟨hx, hb, hml, hown, ha⟩ (k_X11_fails l E a o x 1 q13 hq13 H.size) (cwV 1 ha (gi_V (fun _ h => h) mw1716 mw1718 mw29 mw87 mw1719) rfl rfl rfl hv_X11_fails ⟨(Nat.le_of_ble_eq_true rfl), (Nat.le_of_ble_eq_true rfl)⟩) ⟨pre_blind, va_recv hst.k (fr_P hP [0] rfl) (ci := 13) (q0 := 0) rfl rfl, pre_at hP hD hS hz hzs hst [0] (by decide) rfl rfl⟩ rfl rfl hl.1 rfl (lv_room (Nat.le_of_ble_eq_true rfl)) dX11_centsToKey_10 ⟨(Nat.le_of_ble_eq_true rfl), (Nat.le_of_ble_eq_true rfl)⟩) hP hD hS hA [0] (by decide) rfl rfl rfl rfl (fun H locs hP hD hS => ?_)
    obtain rfl := Option.some.inj hF
    exact en_i hQ (Nat.le_of_ble_eq_true rfl) (Nat.le_of_ble_eq_true rfl) hx hb hr hlocks hP hD hS rfl dX11_centsToKey_13

/-! X11_centsToKeyByNotes -/
theorem dX11_centsToKeyByNotes_0 : decode cX11_centsToKeyByNotes 0 = .ok (.aload_n 0, 1) := by decide +kernel
theorem dX11_centsToKeyByNotes_1 : decode cX11_centsToKeyByNotes 1 = .ok (.iload_n 1, 1) := by decide +kernel
theorem dX11_centsToKeyByNotes_2 : decode cX11_centsToKeyByNotes 2 = .ok (.invokevirtual 147, 3) := by decide +kernel
theorem dX11_centsToKeyByNotes_5 : decode cX11_centsToKeyByNotes 5 = .ok (.ireturn, 1) := by decide +kernel
def f_X11_centsToKeyByNotes (x_g : (Nat → Int32)) (x_thrown : Int32) (p1 : Int32) : Option (Int32 × Int32) :=
  q_bd (f_X11_centsToKey x_g x_thrown p1) (fun q1 =>
  some (q1.1, q1.2))
theorem hv_X11_centsToKeyByNotes : yX11_centsToKeyByNotes.cls = RX11 ∧ yX11_centsToKeyByNotes.cls ≠ "java/lang/invoke/MethodHandle" ∧ yX11_centsToKeyByNotes.cls ≠ "java/lang/invoke/VarHandle" ∧ (parseMethodDescriptor yX11_centsToKeyByNotes.desc).map (fun d => d.parameters.length) = some 1 := by decide +kernel
abbrev rm_X11_centsToKeyByNotes : Room := { frames := 4, cells := 0, slots := 0, locals := 88 }
set_option maxHeartbeats 4000000 in
set_option maxRecDepth 100000 in
theorem k_X11_centsToKeyByNotes (l : Launch) (E : ET) (a : Nat → Nat) (o : Nat) (x : Model_t) (p1 : Int32) (res : Int32 × Int32) (hF : f_X11_centsToKeyByNotes x.1.1 x.2.2.2.1 p1 = some res) (sz : Nat) : CtI l yX11_centsToKeyByNotes (mws yX11_centsToKeyByNotes cX11_centsToKeyByNotes 2 (some .int)) rm_X11_centsToKeyByNotes 0 0 [.ref (a o), .int p1] E (bl_Model E a o x) res.1 (bl_Model E a o ((x.1.1, x.1.2.1, x.1.2.2.1, x.1.2.2.2.1, x.1.2.2.2.2), (x.2.1.1, x.2.1.2.1, x.2.1.2.2.1, x.2.1.2.2.2.1, x.2.1.2.2.2.2), (x.2.2.1.1, x.2.2.1.2.1, x.2.2.1.2.2.1, x.2.2.1.2.2.2), (res.2, x.2.2.2.2.1, x.2.2.2.2.2.1, x.2.2.2.2.2.2))) sz := by
  refine mk_M (by decide +kernel) (Nat.le_of_ble_eq_true rfl) ?_
  intro p e s m below meth c A args Q ls hAe hsz hQ hx hb hr hml hin ha hown hlocks hA hz hzs hst hP hD hS hl
  have hown : s.vm.findClass RX11 = some m.cls := hown
  rw [hAe] at hQ
  subst hsz
  have hP : va_P E.1 vwCl (List.flatten [w_Model E a o x]) s.heap := hP
  have hD : va_D A (List.flatten [w_Model E a o x]) := hD
  have hl : lv_has ls 2 [(0, .ref (a o)), (1, .int p1)] := hl
  generalize hHe : s.heap = H at hP
  have hS : va_S A s.heap H [] := by rw [← hHe]; exact hS
  generalize ([] : List Loc) = locs at hS ⊢
  unfold f_X11_centsToKeyByNotes at hF
  refine lv_aload_n hx hb dX11_centsToKeyByNotes_0 rfl (lv_at hl 0 rfl) ?_
  refine lv_iload_n hx hb dX11_centsToKeyByNotes_1 rfl (lv_at hl 1 rfl) ?_
  obtain ⟨q1, hq1, hF⟩ := q_bdi hF
  refine cl_i (Lc := [w_Model E a o x]) (Lc' := [w_Model E a o ((x.1.1, x.1.2.1, x.1.2.2.1, x.1.2.2.2.1, x.1.2.2.2.2), (x.2.1.1, x.2.1.2.1, x.2.1.2.2.1, x.2.1.2.2.2.1, x.2.1.2.2.2.2), (x.2.2.1.1, x.2.2.1.2.1, x.2.2.1.2.2.1, x.2.2.1.2.2.2), (q1.2, x.2.2.2.2.1, x.2.2.2.2.2.1, x.2.2.2.2.2.2))]) (L' := [w_Model E a o ((x.1.1, x.1.2.1, x.1.2.2.1, x.1.2.2.2.1, x.1.2.2.2.2), (x.2.1.1, x.2.1.2.1, x.2.1.2.2.1, x.2.1.2.2.2.1, x.2.1.2.2.2.2), (x.2.2.1.1, x.2.2.1.2.1, x.2.2.1.2.2.1, x.2.2.1.2.2.2), (q1.2, x.2.2.2.2.1, x.2.2.2.2.2.1, x.2.2.2.2.2.2))]) (rv := q1.1) (va_runV (As := [.int p1]) (rest := []) ⟨hx, hb, hml, hown, ha⟩ (k_X11_centsToKey l E a o x p1 q1 hq1 H.size) (cwV 1 ha (gi_V (fun _ h => h) mw1897 mw1886 mw1887 mw87 mw1888) rfl rfl rfl hv_X11_centsToKey ⟨(Nat.le_of_ble_eq_true rfl), (Nat.le_of_ble_eq_true rfl)⟩) ⟨pre_blind, va_recv hst.k (fr_P hP [0] rfl) (ci := 13) (q0 := 0) rfl rfl, pre_at hP hD hS hz hzs hst [0] (by decide) rfl rfl⟩ rfl rfl hl.1 rfl (lv_room (Nat.le_of_ble_eq_true rfl)) dX11_centsToKeyByNotes_2 ⟨(Nat.le_of_ble_eq_true rfl), (Nat.le_of_ble_eq_true rfl)⟩) hP hD hS hA [0] (by decide) rfl rfl rfl rfl (fun H locs hP hD hS => ?_)
  obtain rfl := Option.some.inj hF
  exact en_i hQ (Nat.le_of_ble_eq_true rfl) (Nat.le_of_ble_eq_true rfl) hx hb hr hlocks hP hD hS rfl dX11_centsToKeyByNotes_5

/-! X11_bellAtRank -/
theorem dX11_bellAtRank_0 : decode cX11_bellAtRank 0 = .ok (.iconst 0, 1) := by decide +kernel
theorem dX11_bellAtRank_1 : decode cX11_bellAtRank 1 = .ok (.istore_n 2, 1) := by decide +kernel
theorem dX11_bellAtRank_2 : decode cX11_bellAtRank 2 = .ok (.iload_n 2, 1) := by decide +kernel
theorem dX11_bellAtRank_3 : decode cX11_bellAtRank 3 = .ok (.aload_n 0, 1) := by decide +kernel
theorem dX11_bellAtRank_4 : decode cX11_bellAtRank 4 = .ok (.getfield 7, 3) := by decide +kernel
theorem dX11_bellAtRank_7 : decode cX11_bellAtRank 7 = .ok (.iconst 0, 1) := by decide +kernel
theorem dX11_bellAtRank_8 : decode cX11_bellAtRank 8 = .ok (.iaload, 1) := by decide +kernel
theorem dX11_bellAtRank_9 : decode cX11_bellAtRank 9 = .ok (.if_icmp .ge 88, 3) := by decide +kernel
theorem dX11_bellAtRank_12 : decode cX11_bellAtRank 12 = .ok (.iconst 0, 1) := by decide +kernel
theorem dX11_bellAtRank_13 : decode cX11_bellAtRank 13 = .ok (.istore_n 3, 1) := by decide +kernel
theorem dX11_bellAtRank_14 : decode cX11_bellAtRank 14 = .ok (.iconst 0, 1) := by decide +kernel
theorem dX11_bellAtRank_15 : decode cX11_bellAtRank 15 = .ok (.istore 4, 2) := by decide +kernel
theorem dX11_bellAtRank_17 : decode cX11_bellAtRank 17 = .ok (.iload 4, 2) := by decide +kernel
theorem dX11_bellAtRank_19 : decode cX11_bellAtRank 19 = .ok (.aload_n 0, 1) := by decide +kernel
theorem dX11_bellAtRank_20 : decode cX11_bellAtRank 20 = .ok (.getfield 7, 3) := by decide +kernel
theorem dX11_bellAtRank_23 : decode cX11_bellAtRank 23 = .ok (.iconst 0, 1) := by decide +kernel
theorem dX11_bellAtRank_24 : decode cX11_bellAtRank 24 = .ok (.iaload, 1) := by decide +kernel
theorem dX11_bellAtRank_25 : decode cX11_bellAtRank 25 = .ok (.if_icmp .ge 55, 3) := by decide +kernel
theorem dX11_bellAtRank_28 : decode cX11_bellAtRank 28 = .ok (.aload_n 0, 1) := by decide +kernel
theorem dX11_bellAtRank_29 : decode cX11_bellAtRank 29 = .ok (.getfield 7, 3) := by decide +kernel
theorem dX11_bellAtRank_32 : decode cX11_bellAtRank 32 = .ok (.bipush 17, 2) := by decide +kernel
theorem dX11_bellAtRank_34 : decode cX11_bellAtRank 34 = .ok (.iload_n 2, 1) := by decide +kernel
theorem dX11_bellAtRank_35 : decode cX11_bellAtRank 35 = .ok (.iadd, 1) := by decide +kernel
theorem dX11_bellAtRank_36 : decode cX11_bellAtRank 36 = .ok (.iaload, 1) := by decide +kernel
theorem dX11_bellAtRank_37 : decode cX11_bellAtRank 37 = .ok (.aload_n 0, 1) := by decide +kernel
theorem dX11_bellAtRank_38 : decode cX11_bellAtRank 38 = .ok (.getfield 7, 3) := by decide +kernel
theorem dX11_bellAtRank_41 : decode cX11_bellAtRank 41 = .ok (.bipush 17, 2) := by decide +kernel
theorem dX11_bellAtRank_43 : decode cX11_bellAtRank 43 = .ok (.iload 4, 2) := by decide +kernel
theorem dX11_bellAtRank_45 : decode cX11_bellAtRank 45 = .ok (.iadd, 1) := by decide +kernel
theorem dX11_bellAtRank_46 : decode cX11_bellAtRank 46 = .ok (.iaload, 1) := by decide +kernel
theorem dX11_bellAtRank_47 : decode cX11_bellAtRank 47 = .ok (.isub, 1) := by decide +kernel
theorem dX11_bellAtRank_48 : decode cX11_bellAtRank 48 = .ok (.istore 5, 2) := by decide +kernel
theorem dX11_bellAtRank_50 : decode cX11_bellAtRank 50 = .ok (.iload_n 3, 1) := by decide +kernel
theorem dX11_bellAtRank_51 : decode cX11_bellAtRank 51 = .ok (.iload 5, 2) := by decide +kernel
theorem dX11_bellAtRank_53 : decode cX11_bellAtRank 53 = .ok (.ifCond .gt 14, 3) := by decide +kernel
theorem dX11_bellAtRank_56 : decode cX11_bellAtRank 56 = .ok (.iload 5, 2) := by decide +kernel
theorem dX11_bellAtRank_58 : decode cX11_bellAtRank 58 = .ok (.ifCond .ne 13, 3) := by decide +kernel
theorem dX11_bellAtRank_61 : decode cX11_bellAtRank 61 = .ok (.iload 4, 2) := by decide +kernel
theorem dX11_bellAtRank_63 : decode cX11_bellAtRank 63 = .ok (.iload_n 2, 1) := by decide +kernel
theorem dX11_bellAtRank_64 : decode cX11_bellAtRank 64 = .ok (.if_icmp .ge 7, 3) := by decide +kernel
theorem dX11_bellAtRank_67 : decode cX11_bellAtRank 67 = .ok (.iconst 1, 1) := by decide +kernel
theorem dX11_bellAtRank_68 : decode cX11_bellAtRank 68 = .ok (.goto 4, 3) := by decide +kernel
theorem dX11_bellAtRank_71 : decode cX11_bellAtRank 71 = .ok (.iconst 0, 1) := by decide +kernel
theorem dX11_bellAtRank_72 : decode cX11_bellAtRank 72 = .ok (.iadd, 1) := by decide +kernel
theorem dX11_bellAtRank_73 : decode cX11_bellAtRank 73 = .ok (.istore_n 3, 1) := by decide +kernel
theorem dX11_bellAtRank_74 : decode cX11_bellAtRank 74 = .ok (.iinc 4 1, 3) := by decide +kernel
theorem dX11_bellAtRank_77 : decode cX11_bellAtRank 77 = .ok (.goto (-60), 3) := by decide +kernel
theorem dX11_bellAtRank_80 : decode cX11_bellAtRank 80 = .ok (.iload_n 3, 1) := by decide +kernel
theorem dX11_bellAtRank_81 : decode cX11_bellAtRank 81 = .ok (.iload_n 1, 1) := by decide +kernel
theorem dX11_bellAtRank_82 : decode cX11_bellAtRank 82 = .ok (.if_icmp .ne 9, 3) := by decide +kernel
theorem dX11_bellAtRank_85 : decode cX11_bellAtRank 85 = .ok (.aload_n 0, 1) := by decide +kernel
theorem dX11_bellAtRank_86 : decode cX11_bellAtRank 86 = .ok (.iload_n 2, 1) := by decide +kernel
theorem dX11_bellAtRank_87 : decode cX11_bellAtRank 87 = .ok (.invokevirtual 83, 3) := by decide +kernel
theorem dX11_bellAtRank_90 : decode cX11_bellAtRank 90 = .ok (.ireturn, 1) := by decide +kernel
theorem dX11_bellAtRank_91 : decode cX11_bellAtRank 91 = .ok (.iinc 2 1, 3) := by decide +kernel
theorem dX11_bellAtRank_94 : decode cX11_bellAtRank 94 = .ok (.goto (-92), 3) := by decide +kernel
theorem dX11_bellAtRank_97 : decode cX11_bellAtRank 97 = .ok (.aload_n 0, 1) := by decide +kernel
theorem dX11_bellAtRank_98 : decode cX11_bellAtRank 98 = .ok (.iconst 1, 1) := by decide +kernel
theorem dX11_bellAtRank_99 : decode cX11_bellAtRank 99 = .ok (.invokevirtual 80, 3) := by decide +kernel
theorem dX11_bellAtRank_102 : decode cX11_bellAtRank 102 = .ok (.ireturn, 1) := by decide +kernel
def f_X11_bellAtRank_L17 (x_g : (Nat → Int32)) (i1 : Int32) (K17 : Int32 → Option (Int32 × Int32)) : Nat → Int32 → Int32 → Option (Int32 × Int32)
  | 0, _, _ => none
  | n17 + 1, i3, i4 =>
    q_br ((x_g 0) ≤ i3) (
  K17 i4) (
  q_gd (q_in (17 + i1) 77) (
  q_gd (q_in (17 + i3) 77) (
  q_lt ((x_g ((17 + i1).toNatClampNeg)) - (x_g ((17 + i3).toNatClampNeg)) : Int32) (fun v8 =>
  q_lt (fun (j9 : Int32) =>
  q_lt (i4 + j9 : Int32) (fun v10 =>
  q_lt (i3 + 1 : Int32) (fun v11 =>
  f_X11_bellAtRank_L17 x_g i1 K17 n17 v11 v10))) (fun (J72 : Int32 → Option (Int32 × Int32)) =>
  q_br (0 < v8) (
  J72 1) (
  q_br (v8 = 0) (
  q_br (i1 ≤ i3) (
  J72 0) (
  J72 1)) (
  J72 0)))))))
def f_X11_bellAtRank_L2 (x_g : (Nat → Int32)) (x_thrown : Int32) (p1 : Int32) : Nat → Int32 → Option (Int32 × Int32)
  | 0, _ => none
  | n2 + 1, i1 =>
    q_br ((x_g 0) ≤ i1) (
  q_bd (f_X11_fails x_thrown 1) (fun q2 =>
  some (q2.1, q2.2))) (
  f_X11_bellAtRank_L17 x_g i1 (fun y5 =>
  q_br (y5 = p1) (
  q_bd (f_X11_done x_thrown i1) (fun q13 =>
  some (q13.1, q13.2))) (
  q_lt (i1 + 1 : Int32) (fun v12 =>
  f_X11_bellAtRank_L2 x_g x_thrown p1 n2 v12))) 2000 0 0)
def f_X11_bellAtRank (x_g : (Nat → Int32)) (x_thrown : Int32) (p1 : Int32) : Option (Int32 × Int32) :=
  f_X11_bellAtRank_L2 x_g x_thrown p1 2000 0
theorem hv_X11_bellAtRank : yX11_bellAtRank.cls = RX11 ∧ yX11_bellAtRank.cls ≠ "java/lang/invoke/MethodHandle" ∧ yX11_bellAtRank.cls ≠ "java/lang/invoke/VarHandle" ∧ (parseMethodDescriptor yX11_bellAtRank.desc).map (fun d => d.parameters.length) = some 1 := by decide +kernel
abbrev rm_X11_bellAtRank : Room := { frames := 1, cells := 0, slots := 0, locals := 21 }
set_option maxHeartbeats 4000000 in
set_option maxRecDepth 100000 in
theorem k_X11_bellAtRank (l : Launch) (E : ET) (a : Nat → Nat) (o : Nat) (x : Model_t) (p1 : Int32) (res : Int32 × Int32) (hF : f_X11_bellAtRank x.1.1 x.2.2.2.1 p1 = some res) (sz : Nat) : CtI l yX11_bellAtRank (mws yX11_bellAtRank cX11_bellAtRank 6 (some .int)) rm_X11_bellAtRank 0 0 [.ref (a o), .int p1] E (bl_Model E a o x) res.1 (bl_Model E a o ((x.1.1, x.1.2.1, x.1.2.2.1, x.1.2.2.2.1, x.1.2.2.2.2), (x.2.1.1, x.2.1.2.1, x.2.1.2.2.1, x.2.1.2.2.2.1, x.2.1.2.2.2.2), (x.2.2.1.1, x.2.2.1.2.1, x.2.2.1.2.2.1, x.2.2.1.2.2.2), (res.2, x.2.2.2.2.1, x.2.2.2.2.2.1, x.2.2.2.2.2.2))) sz := by
  refine mk_M (by decide +kernel) (Nat.le_of_ble_eq_true rfl) ?_
  intro p e s m below meth c A args Q ls hAe hsz hQ hx hb hr hml hin ha hown hlocks hA hz hzs hst hP hD hS hl
  have hown : s.vm.findClass RX11 = some m.cls := hown
  rw [hAe] at hQ
  subst hsz
  have hP : va_P E.1 vwCl (List.flatten [w_Model E a o x]) s.heap := hP
  have hD : va_D A (List.flatten [w_Model E a o x]) := hD
  have hl : lv_has ls 6 [(0, .ref (a o)), (1, .int p1)] := hl
  generalize hHe : s.heap = H at hP
  have hS : va_S A s.heap H [] := by rw [← hHe]; exact hS
  generalize ([] : List Loc) = locs at hS ⊢
  unfold f_X11_bellAtRank at hF
  refine lv_iconst (v := 0) hx hb dX11_bellAtRank_0 (by decide) ?_
  refine lv_istore_n (lv' := [(2, .int 0), (0, .ref (a o)), (1, .int p1)]) hx hb dX11_bellAtRank_1 rfl hl (by decide) rfl (fun ls hl => ?_)
  have key2 : ∀ (n : Nat) (i1 : Int32) (H : Heap) (locs : List Loc) (ls : Array Slot), f_X11_bellAtRank_L2 x.1.1 x.2.2.2.1 p1 n i1 = some res → va_P E.1 vwCl (List.flatten [w_Model E a o x]) H → va_D A (List.flatten [w_Model E a o x]) → va_S A s.heap H locs → lv_has ls 6 [(2, .int i1), (0, .ref (a o)), (1, .int p1)] → W p l e rm_X11_bellAtRank s m args below meth c H locs 0 0 Q (F0 m 2 ls []) := by
    intro n2
    induction n2 with
    | zero => intro i1 H locs ls hF; exact absurd hF (by simp [f_X11_bellAtRank_L2])
    | succ n2 ih2 =>
      intro i1 H locs ls hF hP hD hS hl
      rw [f_X11_bellAtRank_L2] at hF
      refine lv_iload_n hx hb dX11_bellAtRank_2 rfl (lv_at hl 0 rfl) ?_
      refine lv_aload_n hx hb dX11_bellAtRank_3 rfl (lv_at hl 1 rfl) ?_
      refine va_get (D := E.1) (ci := 13) (v := .ref (a (o + 1))) (C := RX11) (T := TX11) (N := 18) hx hb ha in_X11 hown hst.k hP 0 rfl rfl 0 (by decide) (ha _ mw1636) (fun _ h9 => h9) rfl dX11_bellAtRank_4 ?_
      refine lv_iconst (v := 0) hx hb dX11_bellAtRank_7 (by decide) ?_
      refine vi_iald hx hb hst.k hP 1 0 rfl rfl (f := x.1.1) (k := 0) (by decide) (by decide) dX11_bellAtRank_8 ?_
      refine lv_icmp_ge (tgt := 97) hx hb dX11_bellAtRank_9 (by decide) (fun c9 => ?_) (fun c9 => ?_)
      · have hF := q_brp c9 hF
        refine lv_aload_n hx hb dX11_bellAtRank_97 rfl (lv_at hl 1 rfl) ?_
        refine lv_iconst (v := 1) hx hb dX11_bellAtRank_98 (by decide) ?_
        obtain ⟨q2, hq2, hF⟩ := q_bdi hF
        refine cl_i (Lc := [w_Model E a o x]) (Lc' := [w_Model E a o ((x.1.1, x.1.2.1, x.1.2.2.1, x.1.2.2.2.1, x.1.2.2.2.2), (x.2.1.1, x.2.1.2.1, x.2.1.2.2.1, x.2.1.2.2.2.1, x.2.1.2.2.2.2), (x.2.2.1.1, x.2.2.1.2.1, x.2.2.1.2.2.1, x.2.2.1.2.2.2), (q2.2, x.2.2.2.2.1, x.2.2.2.2.2.1, x.2.2.2.2.2.2))]) (L' := [w_Model E a o ((x.1.1, x.1.2.1, x.1.2.2.1, x.1.2.2.2.1, x.1.2.2.2.2), (x.2.1.1, x.2.1.2.1, x.2.1.2.2.1, x.2.1.2.2.2.1, x.2.1.2.2.2.2), (x.2.2.1.1, x.2.2.1.2.1, x.2.2.1.2.2.1, x.2.2.1.2.2.2), (q2.2, x.2.2.2.2.1, x.2.2.2.2.2.1, x.2.2.2.2.2.2))]) (rv := q2.1) (va_runV (As := [.int 1]) (rest := []) ⟨hx, hb, hml, hown, ha⟩ (k_X11_fails l E a o x 1 q2 hq2 H.size) (cwV 1 ha (gi_V (fun _ h => h) mw1716 mw1718 mw29 mw87 mw1719) rfl rfl rfl hv_X11_fails ⟨(Nat.le_of_ble_eq_true rfl), (Nat.le_of_ble_eq_true rfl)⟩) ⟨pre_blind, va_recv hst.k (fr_P hP [0] rfl) (ci := 13) (q0 := 0) rfl rfl, pre_at hP hD hS hz hzs hst [0] (by decide) rfl rfl⟩ rfl rfl hl.1 rfl (lv_room (Nat.le_of_ble_eq_true rfl)) dX11_bellAtRank_99 ⟨(Nat.le_of_ble_eq_true rfl), (Nat.le_of_ble_eq_true rfl)⟩) hP hD hS hA [0] (by decide) rfl rfl rfl rfl (fun H locs hP hD hS => ?_)
        obtain rfl := Option.some.inj hF
        exact en_i hQ (Nat.le_of_ble_eq_true rfl) (Nat.le_of_ble_eq_true rfl) hx hb hr hlocks hP hD hS rfl dX11_bellAtRank_102
      · have hF := q_brn c9 hF
        refine lv_iconst (v := 0) hx hb dX11_bellAtRank_12 (by decide) ?_
        refine lv_istore_n (lv' := [(3, .int 0), (2, .int i1), (0, .ref (a o)), (1, .int p1)]) hx hb dX11_bellAtRank_13 rfl hl (by decide) rfl (fun ls hl => ?_)
        refine lv_iconst (v := 0) hx hb dX11_bellAtRank_14 (by decide) ?_
        refine lv_istore (lv' := [(4, .int 0), (3, .int 0), (2, .int i1), (0, .ref (a o)), (1, .int p1)]) hx hb dX11_bellAtRank_15 hl (by decide) rfl (fun ls hl => ?_)
        have key17 : ∀ (K : Int32 → Option (Int32 × Int32)), (∀ (y5 : Int32) (H : Heap) (locs : List Loc) (ls : Array Slot), K y5 = some res → va_P E.1 vwCl (List.flatten [w_Model E a o x]) H → va_D A (List.flatten [w_Model E a o x]) → va_S A s.heap H locs → lv_has ls 6 [(3, .int y5), (2, .int i1), (0, .ref (a o)), (1, .int p1)] → W p l e rm_X11_bellAtRank s m args below meth c H locs 0 0 Q (F0 m 80 ls [])) → ∀ (n : Nat) (i3 : Int32) (i4 : Int32) (H : Heap) (locs : List Loc) (ls : Array Slot), f_X11_bellAtRank_L17 x.1.1 i1 K n i3 i4 = some res → va_P E.1 vwCl (List.flatten [w_Model E a o x]) H → va_D A (List.flatten [w_Model E a o x]) → va_S A s.heap H locs → lv_has ls 6 [(4, .int i3), (3, .int i4), (2, .int i1), (0, .ref (a o)), (1, .int p1)] → W p l e rm_X11_bellAtRank s m args below meth c H locs 0 0 Q (F0 m 17 ls []) := by
          intro K17 hK17 n17
          induction n17 with
          | zero => intro i3 i4 H locs ls hF; exact absurd hF (by simp [f_X11_bellAtRank_L17])
          | succ n17 ih17 =>
            intro i3 i4 H locs ls hF hP hD hS hl
            rw [f_X11_bellAtRank_L17] at hF
            refine lv_iload hx hb dX11_bellAtRank_17 (lv_at hl 0 rfl) ?_
            refine lv_aload_n hx hb dX11_bellAtRank_19 rfl (lv_at hl 3 rfl) ?_
            refine va_get (D := E.1) (ci := 13) (v := .ref (a (o + 1))) (C := RX11) (T := TX11) (N := 18) hx hb ha in_X11 hown hst.k hP 0 rfl rfl 0 (by decide) (ha _ mw1636) (fun _ h9 => h9) rfl dX11_bellAtRank_20 ?_
            refine lv_iconst (v := 0) hx hb dX11_bellAtRank_23 (by decide) ?_
            refine vi_iald hx hb hst.k hP 1 0 rfl rfl (f := x.1.1) (k := 0) (by decide) (by decide) dX11_bellAtRank_24 ?_
            refine lv_icmp_ge (tgt := 80) hx hb dX11_bellAtRank_25 (by decide) (fun c25 => ?_) (fun c25 => ?_)
            · have hF := q_brp c25 hF
              exact hK17 i4 H locs ls hF hP hD hS (lv_sub hl [1, 2, 3, 4] rfl)
            · have hF := q_brn c25 hF
              refine lv_aload_n hx hb dX11_bellAtRank_28 rfl (lv_at hl 3 rfl) ?_
              refine va_get (D := E.1) (ci := 13) (v := .ref (a (o + 1))) (C := RX11) (T := TX11) (N := 18) hx hb ha in_X11 hown hst.k hP 0 rfl rfl 0 (by decide) (ha _ mw1636) (fun _ h9 => h9) rfl dX11_bellAtRank_29 ?_
              refine lv_bipush (v := 17) hx hb dX11_bellAtRank_32 (by decide) ?_
              refine lv_iload_n hx hb dX11_bellAtRank_34 rfl (lv_at hl 2 rfl) ?_
              refine lv_iadd hx hb dX11_bellAtRank_35 ?_
              obtain ⟨g6, hF⟩ := q_gdi hF
              refine vi_iald hx hb hst.k hP 1 0 rfl rfl (f := x.1.1) (k := (17 + i1).toNatClampNeg) rfl g6 dX11_bellAtRank_36 ?_
              refine lv_aload_n hx hb dX11_bellAtRank_37 rfl (lv_at hl 3 rfl) ?_
              refine va_get (D := E.1) (ci := 13) (v := .ref (a (o + 1))) (C := RX11) (T := TX11) (N := 18) hx hb ha in_X11 hown hst.k hP 0 rfl rfl 0 (by decide) (ha _ mw1636) (fun _ h9 => h9) rfl dX11_bellAtRank_38 ?_
              refine lv_bipush (v := 17) hx hb dX11_bellAtRank_41 (by decide) ?_
              refine lv_iload hx hb dX11_bellAtRank_43 (lv_at hl 0 rfl) ?_
              refine lv_iadd hx hb dX11_bellAtRank_45 ?_
              obtain ⟨g7, hF⟩ := q_gdi hF
              refine vi_iald hx hb hst.k hP 1 0 rfl rfl (f := x.1.1) (k := (17 + i3).toNatClampNeg) rfl g7 dX11_bellAtRank_46 ?_
              refine lv_isub hx hb dX11_bellAtRank_47 ?_
              refine lv_topi (fun v8 ev8 => ?_)
              have hF := q_lti ev8 hF
              refine lv_istore (lv' := [(5, .int v8), (4, .int i3), (3, .int i4), (2, .int i1), (0, .ref (a o)), (1, .int p1)]) hx hb dX11_bellAtRank_48 hl (by decide) rfl (fun ls hl => ?_)
              refine lv_iload_n hx hb dX11_bellAtRank_50 rfl (lv_at hl 2 rfl) ?_
              refine lv_iload hx hb dX11_bellAtRank_51 (lv_at hl 0 rfl) ?_
              obtain ⟨J72, hJ72, hF⟩ := q_jn hF
              have jJ72 : ∀ (j9 : Int32), ∀ (H : Heap) (locs : List Loc) (ls : Array Slot), J72 j9 = some res → va_P E.1 vwCl (List.flatten [w_Model E a o x]) H → va_D A (List.flatten [w_Model E a o x]) → va_S A s.heap H locs → lv_has ls 6 [(4, .int i3), (2, .int i1), (0, .ref (a o)), (1, .int p1)] → W p l e rm_X11_bellAtRank s m args below meth c H locs 0 0 Q (F0 m 72 ls [.int j9, .int i4]) := by
                intro j9 H locs ls hF hP hD hS hl
                rw [hJ72] at hF
                refine lv_iadd hx hb dX11_bellAtRank_72 ?_
                refine lv_topi (fun v10 ev10 => ?_)
                have hF := q_lti ev10 hF
                refine lv_istore_n (lv' := [(3, .int v10), (4, .int i3), (2, .int i1), (0, .ref (a o)), (1, .int p1)]) hx hb dX11_bellAtRank_73 rfl hl (by decide) rfl (fun ls hl => ?_)
                obtain ⟨v11, ev11⟩ : ∃ y : Int32, y = i3 + 1 := ⟨_, rfl⟩
                have hF := q_lti ev11 hF
                refine lv_iinc (v := v11) (lv' := [(4, .int v11), (3, .int v10), (2, .int i1), (0, .ref (a o)), (1, .int p1)]) hx hb dX11_bellAtRank_74 hl (k := 1) rfl (by rw [ev11]; rfl) (by decide) rfl (fun ls hl => ?_)
                refine lv_goto (tgt := 17) hx hb dX11_bellAtRank_77 (by decide) ?_
                exact ih17 v11 v10 H locs ls hF hP hD hS (lv_sub hl [0, 1, 2, 3, 4] rfl)
              refine lv_if_gt (tgt := 67) hx hb dX11_bellAtRank_53 (by decide) (fun c53 => ?_) (fun c53 => ?_)
              · have hF := q_brp c53 hF
                refine lv_iconst (v := 1) hx hb dX11_bellAtRank_67 (by decide) ?_
                refine lv_goto (tgt := 72) hx hb dX11_bellAtRank_68 (by decide) ?_
                exact jJ72 1 H locs ls hF hP hD hS (lv_sub hl [1, 3, 4, 5] rfl)
              · have hF := q_brn c53 hF
                refine lv_iload hx hb dX11_bellAtRank_56 (lv_at hl 0 rfl) ?_
                refine lv_if_ne (tgt := 71) hx hb dX11_bellAtRank_58 (by decide) (fun c58 => ?_) (fun c58 => ?_)
                · have hF := q_brn c58 hF
                  refine lv_iconst (v := 0) hx hb dX11_bellAtRank_71 (by decide) ?_
                  exact jJ72 0 H locs ls hF hP hD hS (lv_sub hl [1, 3, 4, 5] rfl)
                · have hF := q_brp c58 hF
                  refine lv_iload hx hb dX11_bellAtRank_61 (lv_at hl 1 rfl) ?_
                  refine lv_iload_n hx hb dX11_bellAtRank_63 rfl (lv_at hl 3 rfl) ?_
                  refine lv_icmp_ge (tgt := 71) hx hb dX11_bellAtRank_64 (by decide) (fun c64 => ?_) (fun c64 => ?_)
                  · have hF := q_brp c64 hF
                    refine lv_iconst (v := 0) hx hb dX11_bellAtRank_71 (by decide) ?_
                    exact jJ72 0 H locs ls hF hP hD hS (lv_sub hl [1, 3, 4, 5] rfl)
                  · have hF := q_brn c64 hF
                    refine lv_iconst (v := 1) hx hb dX11_bellAtRank_67 (by decide) ?_
                    refine lv_goto (tgt := 72) hx hb dX11_bellAtRank_68 (by decide) ?_
                    exact jJ72 1 H locs ls hF hP hD hS (lv_sub hl [1, 3, 4, 5] rfl)
        refine key17 _ ?_ _ 0 0 H locs ls hF hP hD hS (lv_sub hl [0, 1, 2, 3, 4] rfl)
        intro y5 H locs ls hF hP hD hS hl
        refine lv_iload_n hx hb dX11_bellAtRank_80 rfl (lv_at hl 0 rfl) ?_
        refine lv_iload_n hx hb dX11_bellAtRank_81 rfl (lv_at hl 3 rfl) ?_
        refine lv_icmp_ne (tgt := 91) hx hb dX11_bellAtRank_82 (by decide) (fun c82 => ?_) (fun c82 => ?_)
        · have hF := q_brn c82 hF
          obtain ⟨v12, ev12⟩ : ∃ y : Int32, y = i1 + 1 := ⟨_, rfl⟩
          have hF := q_lti ev12 hF
          refine lv_iinc (v := v12) (lv' := [(2, .int v12), (3, .int y5), (0, .ref (a o)), (1, .int p1)]) hx hb dX11_bellAtRank_91 hl (k := 1) rfl (by rw [ev12]; rfl) (by decide) rfl (fun ls hl => ?_)
          refine lv_goto (tgt := 2) hx hb dX11_bellAtRank_94 (by decide) ?_
          exact ih2 v12 H locs ls hF hP hD hS (lv_sub hl [0, 2, 3] rfl)
        · have hF := q_brp c82 hF
          refine lv_aload_n hx hb dX11_bellAtRank_85 rfl (lv_at hl 2 rfl) ?_
          refine lv_iload_n hx hb dX11_bellAtRank_86 rfl (lv_at hl 1 rfl) ?_
          obtain ⟨q13, hq13, hF⟩ := q_bdi hF
          refine cl_i (Lc := [w_Model E a o x]) (Lc' := [w_Model E a o ((x.1.1, x.1.2.1, x.1.2.2.1, x.1.2.2.2.1, x.1.2.2.2.2), (x.2.1.1, x.2.1.2.1, x.2.1.2.2.1, x.2.1.2.2.2.1, x.2.1.2.2.2.2), (x.2.2.1.1, x.2.2.1.2.1, x.2.2.1.2.2.1, x.2.2.1.2.2.2), (q13.2, x.2.2.2.2.1, x.2.2.2.2.2.1, x.2.2.2.2.2.2))]) (L' := [w_Model E a o ((x.1.1, x.1.2.1, x.1.2.2.1, x.1.2.2.2.1, x.1.2.2.2.2), (x.2.1.1, x.2.1.2.1, x.2.1.2.2.1, x.2.1.2.2.2.1, x.2.1.2.2.2.2), (x.2.2.1.1, x.2.2.1.2.1, x.2.2.1.2.2.1, x.2.2.1.2.2.2), (q13.2, x.2.2.2.2.1, x.2.2.2.2.2.1, x.2.2.2.2.2.2))]) (rv := q13.1) (va_runV (As := [.int i1]) (rest := []) ⟨hx, hb, hml, hown, ha⟩ (k_X11_done l E a o x i1 q13 hq13 H.size) (cwV 1 ha (gi_V (fun _ h => h) mw1720 mw1722 mw30 mw87 mw1723) rfl rfl rfl hv_X11_done ⟨(Nat.le_of_ble_eq_true rfl), (Nat.le_of_ble_eq_true rfl)⟩) ⟨pre_blind, va_recv hst.k (fr_P hP [0] rfl) (ci := 13) (q0 := 0) rfl rfl, pre_at hP hD hS hz hzs hst [0] (by decide) rfl rfl⟩ rfl rfl hl.1 rfl (lv_room (Nat.le_of_ble_eq_true rfl)) dX11_bellAtRank_87 ⟨(Nat.le_of_ble_eq_true rfl), (Nat.le_of_ble_eq_true rfl)⟩) hP hD hS hA [0] (by decide) rfl rfl rfl rfl (fun H locs hP hD hS => ?_)
          obtain rfl := Option.some.inj hF
          exact en_i hQ (Nat.le_of_ble_eq_true rfl) (Nat.le_of_ble_eq_true rfl) hx hb hr hlocks hP hD hS rfl dX11_bellAtRank_90
  exact key2 _ 0 H locs ls hF hP hD hS (lv_sub hl [0, 1, 2] rfl)

/-! X11_meanDeviation -/
theorem dX11_meanDeviation_0 : decode cX11_meanDeviation 0 = .ok (.iconst 0, 1) := by decide +kernel
theorem dX11_meanDeviation_1 : decode cX11_meanDeviation 1 = .ok (.istore_n 1, 1) := by decide +kernel
theorem dX11_meanDeviation_2 : decode cX11_meanDeviation 2 = .ok (.iconst 0, 1) := by decide +kernel
theorem dX11_meanDeviation_3 : decode cX11_meanDeviation 3 = .ok (.istore_n 2, 1) := by decide +kernel
theorem dX11_meanDeviation_4 : decode cX11_meanDeviation 4 = .ok (.iload_n 2, 1) := by decide +kernel
theorem dX11_meanDeviation_5 : decode cX11_meanDeviation 5 = .ok (.aload_n 0, 1) := by decide +kernel
theorem dX11_meanDeviation_6 : decode cX11_meanDeviation 6 = .ok (.getfield 7, 3) := by decide +kernel
theorem dX11_meanDeviation_9 : decode cX11_meanDeviation 9 = .ok (.iconst 0, 1) := by decide +kernel
theorem dX11_meanDeviation_10 : decode cX11_meanDeviation 10 = .ok (.iaload, 1) := by decide +kernel
theorem dX11_meanDeviation_11 : decode cX11_meanDeviation 11 = .ok (.if_icmp .ge 20, 3) := by decide +kernel
theorem dX11_meanDeviation_14 : decode cX11_meanDeviation 14 = .ok (.iload_n 1, 1) := by decide +kernel
theorem dX11_meanDeviation_15 : decode cX11_meanDeviation 15 = .ok (.aload_n 0, 1) := by decide +kernel
theorem dX11_meanDeviation_16 : decode cX11_meanDeviation 16 = .ok (.iload_n 2, 1) := by decide +kernel
theorem dX11_meanDeviation_17 : decode cX11_meanDeviation 17 = .ok (.invokevirtual 67, 3) := by decide +kernel
theorem dX11_meanDeviation_20 : decode cX11_meanDeviation 20 = .ok (.invokestatic 70, 3) := by decide +kernel
theorem dX11_meanDeviation_23 : decode cX11_meanDeviation 23 = .ok (.iadd, 1) := by decide +kernel
theorem dX11_meanDeviation_24 : decode cX11_meanDeviation 24 = .ok (.istore_n 1, 1) := by decide +kernel
theorem dX11_meanDeviation_25 : decode cX11_meanDeviation 25 = .ok (.iinc 2 1, 3) := by decide +kernel
theorem dX11_meanDeviation_28 : decode cX11_meanDeviation 28 = .ok (.goto (-24), 3) := by decide +kernel
theorem dX11_meanDeviation_31 : decode cX11_meanDeviation 31 = .ok (.aload_n 0, 1) := by decide +kernel
theorem dX11_meanDeviation_32 : decode cX11_meanDeviation 32 = .ok (.aload_n 0, 1) := by decide +kernel
theorem dX11_meanDeviation_33 : decode cX11_meanDeviation 33 = .ok (.getfield 7, 3) := by decide +kernel
theorem dX11_meanDeviation_36 : decode cX11_meanDeviation 36 = .ok (.iconst 0, 1) := by decide +kernel
theorem dX11_meanDeviation_37 : decode cX11_meanDeviation 37 = .ok (.iaload, 1) := by decide +kernel
theorem dX11_meanDeviation_38 : decode cX11_meanDeviation 38 = .ok (.ifCond .ne 7, 3) := by decide +kernel
theorem dX11_meanDeviation_41 : decode cX11_meanDeviation 41 = .ok (.iconst 1, 1) := by decide +kernel
theorem dX11_meanDeviation_42 : decode cX11_meanDeviation 42 = .ok (.goto 4, 3) := by decide +kernel
theorem dX11_meanDeviation_45 : decode cX11_meanDeviation 45 = .ok (.iconst 0, 1) := by decide +kernel
theorem dX11_meanDeviation_46 : decode cX11_meanDeviation 46 = .ok (.putfield 42, 3) := by decide +kernel
theorem dX11_meanDeviation_49 : decode cX11_meanDeviation 49 = .ok (.aload_n 0, 1) := by decide +kernel
theorem dX11_meanDeviation_50 : decode cX11_meanDeviation 50 = .ok (.getfield 42, 3) := by decide +kernel
theorem dX11_meanDeviation_53 : decode cX11_meanDeviation 53 = .ok (.ifCond .ne 16, 3) := by decide +kernel
theorem dX11_meanDeviation_56 : decode cX11_meanDeviation 56 = .ok (.iload_n 1, 1) := by decide +kernel
theorem dX11_meanDeviation_57 : decode cX11_meanDeviation 57 = .ok (.i2d, 1) := by decide +kernel
theorem dX11_meanDeviation_58 : decode cX11_meanDeviation 58 = .ok (.aload_n 0, 1) := by decide +kernel
theorem dX11_meanDeviation_59 : decode cX11_meanDeviation 59 = .ok (.getfield 7, 3) := by decide +kernel
theorem dX11_meanDeviation_62 : decode cX11_meanDeviation 62 = .ok (.iconst 0, 1) := by decide +kernel
theorem dX11_meanDeviation_63 : decode cX11_meanDeviation 63 = .ok (.iaload, 1) := by decide +kernel
theorem dX11_meanDeviation_64 : decode cX11_meanDeviation 64 = .ok (.i2d, 1) := by decide +kernel
theorem dX11_meanDeviation_65 : decode cX11_meanDeviation 65 = .ok (.ddiv, 1) := by decide +kernel
theorem dX11_meanDeviation_66 : decode cX11_meanDeviation 66 = .ok (.goto 4, 3) := by decide +kernel
theorem dX11_meanDeviation_69 : decode cX11_meanDeviation 69 = .ok (.dconst 0, 1) := by decide +kernel
theorem dX11_meanDeviation_70 : decode cX11_meanDeviation 70 = .ok (.dreturn, 1) := by decide +kernel
def f_X11_meanDeviation_L4 (x_g : (Nat → Int32)) (K4 : Int32 → Option (UInt64 × Int32)) : Nat → Int32 → Int32 → Option (UInt64 × Int32)
  | 0, _, _ => none
  | n4 + 1, i1, i2 =>
    q_br ((x_g 0) ≤ i1) (
  K4 i2) (
  q_bd (f_X11_deviationOf x_g i1) (fun q4 =>
  q_bd (f_X11_size q4) (fun q5 =>
  q_lt (i2 + q5 : Int32) (fun v6 =>
  q_lt (i1 + 1 : Int32) (fun v7 =>
  f_X11_meanDeviation_L4 x_g K4 n4 v7 v6)))))
def f_X11_meanDeviation (x_g : (Nat → Int32)) (x_thrown : Int32) : Option (UInt64 × Int32) :=
  f_X11_meanDeviation_L4 x_g (fun y3 =>
  q_lt (fun (j8 : Int32) =>
  q_lt (fun (j9 : UInt64) =>
  some (j9, j8)) (fun (J70 : UInt64 → Option (UInt64 × Int32)) =>
  q_br (j8 = 0) (
  q_gd ((FP.ddiv (FP.i2d y3) (FP.i2d ((x_g 0)))) &&& 0x7fffffffffffffff ≤ 0x7ff0000000000000) (
  J70 (FP.ddiv (FP.i2d y3) (FP.i2d ((x_g 0)))))) (
  J70 (FP.dconst0)))) (fun (J46 : Int32 → Option (UInt64 × Int32)) =>
  q_br ((x_g 0) = 0) (
  J46 1) (
  J46 0))) 2000 0 0
theorem hv_X11_meanDeviation : yX11_meanDeviation.cls = RX11 ∧ yX11_meanDeviation.cls ≠ "java/lang/invoke/MethodHandle" ∧ yX11_meanDeviation.cls ≠ "java/lang/invoke/VarHandle" ∧ (parseMethodDescriptor yX11_meanDeviation.desc).map (fun d => d.parameters.length) = some 0 := by decide +kernel
abbrev rm_X11_meanDeviation : Room := { frames := 2, cells := 0, slots := 0, locals := 42 }
set_option maxHeartbeats 4000000 in
set_option maxRecDepth 100000 in
theorem k_X11_meanDeviation (l : Launch) (E : ET) (a : Nat → Nat) (o : Nat) (x : Model_t) (res : UInt64 × Int32) (hF : f_X11_meanDeviation x.1.1 x.2.2.2.1 = some res) (sz : Nat) : CtD l yX11_meanDeviation (mws yX11_meanDeviation cX11_meanDeviation 3 (some .double)) rm_X11_meanDeviation 0 0 [.ref (a o)] E (bl_Model E a o x) res.1 (bl_Model E a o ((x.1.1, x.1.2.1, x.1.2.2.1, x.1.2.2.2.1, x.1.2.2.2.2), (x.2.1.1, x.2.1.2.1, x.2.1.2.2.1, x.2.1.2.2.2.1, x.2.1.2.2.2.2), (x.2.2.1.1, x.2.2.1.2.1, x.2.2.1.2.2.1, x.2.2.1.2.2.2), (res.2, x.2.2.2.2.1, x.2.2.2.2.2.1, x.2.2.2.2.2.2))) sz := by
  refine mk_M (by decide +kernel) (Nat.le_of_ble_eq_true rfl) ?_
  intro p e s m below meth c A args Q ls hAe hsz hQ hx hb hr hml hin ha hown hlocks hA hz hzs hst hP hD hS hl
  have hown : s.vm.findClass RX11 = some m.cls := hown
  rw [hAe] at hQ
  subst hsz
  have hP : va_P E.1 vwCl (List.flatten [w_Model E a o x]) s.heap := hP
  have hD : va_D A (List.flatten [w_Model E a o x]) := hD
  have hl : lv_has ls 3 [(0, .ref (a o))] := hl
  generalize hHe : s.heap = H at hP
  have hS : va_S A s.heap H [] := by rw [← hHe]; exact hS
  generalize ([] : List Loc) = locs at hS ⊢
  unfold f_X11_meanDeviation at hF
  refine lv_iconst (v := 0) hx hb dX11_meanDeviation_0 (by decide) ?_
  refine lv_istore_n (lv' := [(1, .int 0), (0, .ref (a o))]) hx hb dX11_meanDeviation_1 rfl hl (by decide) rfl (fun ls hl => ?_)
  refine lv_iconst (v := 0) hx hb dX11_meanDeviation_2 (by decide) ?_
  refine lv_istore_n (lv' := [(2, .int 0), (1, .int 0), (0, .ref (a o))]) hx hb dX11_meanDeviation_3 rfl hl (by decide) rfl (fun ls hl => ?_)
  have key4 : ∀ (K : Int32 → Option (UInt64 × Int32)), (∀ (y3 : Int32) (H : Heap) (locs : List Loc) (ls : Array Slot), K y3 = some res → va_P E.1 vwCl (List.flatten [w_Model E a o x]) H → va_D A (List.flatten [w_Model E a o x]) → va_S A s.heap H locs → lv_has ls 3 [(1, .int y3), (0, .ref (a o))] → W p l e rm_X11_meanDeviation s m args below meth c H locs 0 0 Q (F0 m 31 ls [])) → ∀ (n : Nat) (i1 : Int32) (i2 : Int32) (H : Heap) (locs : List Loc) (ls : Array Slot), f_X11_meanDeviation_L4 x.1.1 K n i1 i2 = some res → va_P E.1 vwCl (List.flatten [w_Model E a o x]) H → va_D A (List.flatten [w_Model E a o x]) → va_S A s.heap H locs → lv_has ls 3 [(2, .int i1), (1, .int i2), (0, .ref (a o))] → W p l e rm_X11_meanDeviation s m args below meth c H locs 0 0 Q (F0 m 4 ls []) := by
    intro K4 hK4 n4
    induction n4 with
    | zero => intro i1 i2 H locs ls hF; exact absurd hF (by simp [f_X11_meanDeviation_L4])
    | succ n4 ih4 =>
      intro i1 i2 H locs ls hF hP hD hS hl
      rw [f_X11_meanDeviation_L4] at hF
      refine lv_iload_n hx hb dX11_meanDeviation_4 rfl (lv_at hl 0 rfl) ?_
      refine lv_aload_n hx hb dX11_meanDeviation_5 rfl (lv_at hl 2 rfl) ?_
      refine va_get (D := E.1) (ci := 13) (v := .ref (a (o + 1))) (C := RX11) (T := TX11) (N := 18) hx hb ha in_X11 hown hst.k hP 0 rfl rfl 0 (by decide) (ha _ mw1636) (fun _ h9 => h9) rfl dX11_meanDeviation_6 ?_
      refine lv_iconst (v := 0) hx hb dX11_meanDeviation_9 (by decide) ?_
      refine vi_iald hx hb hst.k hP 1 0 rfl rfl (f := x.1.1) (k := 0) (by decide) (by decide) dX11_meanDeviation_10 ?_
      refine lv_icmp_ge (tgt := 31) hx hb dX11_meanDeviation_11 (by decide) (fun c11 => ?_) (fun c11 => ?_)
      · have hF := q_brp c11 hF
        exact hK4 i2 H locs ls hF hP hD hS (lv_sub hl [1, 2] rfl)
      · have hF := q_brn c11 hF
        refine lv_iload_n hx hb dX11_meanDeviation_14 rfl (lv_at hl 1 rfl) ?_
        refine lv_aload_n hx hb dX11_meanDeviation_15 rfl (lv_at hl 2 rfl) ?_
        refine lv_iload_n hx hb dX11_meanDeviation_16 rfl (lv_at hl 0 rfl) ?_
        obtain ⟨q4, hq4, hF⟩ := q_bdi hF
        refine cl_i (Lc := [w_Model E a o x]) (Lc' := [w_Model E a o x]) (L' := [w_Model E a o x]) (rv := q4) (va_runV (As := [.int i1]) (rest := [.int i2]) ⟨hx, hb, hml, hown, ha⟩ (k_X11_deviationOf l E a o x i1 q4 hq4 H.size) (cwV 1 ha (gi_V (fun _ h => h) mw1786 mw1788 mw41 mw87 mw1789) rfl rfl rfl hv_X11_deviationOf ⟨(Nat.le_of_ble_eq_true rfl), (Nat.le_of_ble_eq_true rfl)⟩) ⟨pre_blind, va_recv hst.k (fr_P hP [0] rfl) (ci := 13) (q0 := 0) rfl rfl, pre_at hP hD hS hz hzs hst [0] (by decide) rfl rfl⟩ rfl rfl hl.1 rfl (lv_room (Nat.le_of_ble_eq_true rfl)) dX11_meanDeviation_17 ⟨(Nat.le_of_ble_eq_true rfl), (Nat.le_of_ble_eq_true rfl)⟩) hP hD hS hA [0] (by decide) rfl rfl rfl rfl (fun H locs hP hD hS => ?_)
        obtain ⟨q5, hq5, hF⟩ := q_bdi hF
        refine cl_i (Lc := []) (Lc' := []) (L' := [w_Model E a o x]) (rv := q5) (va_runS (As := [.int q4]) (rest := [.int i2]) ⟨hx, hb, hml, hown, ha⟩ (k_X11_size l E q4 q5 hq5 H.size) (cwS 1 ha (gi_S (fun _ h => h) mw1790 mw1791 mw87 mw1792) rfl rfl rfl hv_X11_size ⟨(Nat.le_of_ble_eq_true rfl), (Nat.le_of_ble_eq_true rfl)⟩) ⟨pre_blind, pre_at hP hD hS hz hzs hst [] (by decide) rfl rfl⟩ rfl rfl hl.1 rfl (lv_room (Nat.le_of_ble_eq_true rfl)) dX11_meanDeviation_20 ⟨(Nat.le_of_ble_eq_true rfl), (Nat.le_of_ble_eq_true rfl)⟩) hP hD hS hA [] (by decide) rfl rfl rfl rfl (fun H locs hP hD hS => ?_)
        refine lv_iadd hx hb dX11_meanDeviation_23 ?_
        refine lv_topi (fun v6 ev6 => ?_)
        have hF := q_lti ev6 hF
        refine lv_istore_n (lv' := [(1, .int v6), (2, .int i1), (0, .ref (a o))]) hx hb dX11_meanDeviation_24 rfl hl (by decide) rfl (fun ls hl => ?_)
        obtain ⟨v7, ev7⟩ : ∃ y : Int32, y = i1 + 1 := ⟨_, rfl⟩
        have hF := q_lti ev7 hF
        refine lv_iinc (v := v7) (lv' := [(2, .int v7), (1, .int v6), (0, .ref (a o))]) hx hb dX11_meanDeviation_25 hl (k := 1) rfl (by rw [ev7]; rfl) (by decide) rfl (fun ls hl => ?_)
        refine lv_goto (tgt := 4) hx hb dX11_meanDeviation_28 (by decide) ?_
        exact ih4 v7 v6 H locs ls hF hP hD hS (lv_sub hl [0, 1, 2] rfl)
  refine key4 _ ?_ _ 0 0 H locs ls hF hP hD hS (lv_sub hl [0, 1, 2] rfl)
  intro y3 H locs ls hF hP hD hS hl
  refine lv_aload_n hx hb dX11_meanDeviation_31 rfl (lv_at hl 1 rfl) ?_
  refine lv_aload_n hx hb dX11_meanDeviation_32 rfl (lv_at hl 1 rfl) ?_
  refine va_get (D := E.1) (ci := 13) (v := .ref (a (o + 1))) (C := RX11) (T := TX11) (N := 18) hx hb ha in_X11 hown hst.k hP 0 rfl rfl 0 (by decide) (ha _ mw1636) (fun _ h9 => h9) rfl dX11_meanDeviation_33 ?_
  refine lv_iconst (v := 0) hx hb dX11_meanDeviation_36 (by decide) ?_
  refine vi_iald hx hb hst.k hP 1 0 rfl rfl (f := x.1.1) (k := 0) (by decide) (by decide) dX11_meanDeviation_37 ?_
  obtain ⟨J46, hJ46, hF⟩ := q_jn hF
  have jJ46 : ∀ (j8 : Int32), ∀ (H : Heap) (locs : List Loc) (ls : Array Slot), J46 j8 = some res → va_P E.1 vwCl (List.flatten [w_Model E a o x]) H → va_D A (List.flatten [w_Model E a o x]) → va_S A s.heap H locs → lv_has ls 3 [(1, .int y3), (0, .ref (a o))] → W p l e rm_X11_meanDeviation s m args below meth c H locs 0 0 Q (F0 m 46 ls [.int j8, .ref (a o)]) := by
    intro j8 H locs ls hF hP hD hS hl
    rw [hJ46] at hF
    refine va_put (D := E.1) (ci := 13) (v := .int j8) (ty := .int) (C := RX11) (T := TX11) (N := 18) hx hb ha in_X11 tyX11 tyX11_ok nmX11 hown hst.k hP hD hS 0 rfl rfl 14 (by decide) (ha _ mw1650) (fun _ h9 => h9) rfl (tyX11_ok 14 (by decide)) rfl rfl (Nat.le_of_ble_eq_true rfl) dX11_meanDeviation_46 (fun H locs hP hD hS => ?_)
    have hP : va_P E.1 vwCl (List.flatten [w_Model E a o ((x.1.1, x.1.2.1, x.1.2.2.1, x.1.2.2.2.1, x.1.2.2.2.2), (x.2.1.1, x.2.1.2.1, x.2.1.2.2.1, x.2.1.2.2.2.1, x.2.1.2.2.2.2), (x.2.2.1.1, x.2.2.1.2.1, x.2.2.1.2.2.1, x.2.2.1.2.2.2), (j8, x.2.2.2.2.1, x.2.2.2.2.2.1, x.2.2.2.2.2.2))]) H := hP
    have hD : va_D A (List.flatten [w_Model E a o ((x.1.1, x.1.2.1, x.1.2.2.1, x.1.2.2.2.1, x.1.2.2.2.2), (x.2.1.1, x.2.1.2.1, x.2.1.2.2.1, x.2.1.2.2.2.1, x.2.1.2.2.2.2), (x.2.2.1.1, x.2.2.1.2.1, x.2.2.1.2.2.1, x.2.2.1.2.2.2), (j8, x.2.2.2.2.1, x.2.2.2.2.2.1, x.2.2.2.2.2.2))]) := hD
    refine lv_aload_n hx hb dX11_meanDeviation_49 rfl (lv_at hl 1 rfl) ?_
    refine va_get (D := E.1) (ci := 13) (v := .int j8) (C := RX11) (T := TX11) (N := 18) hx hb ha in_X11 hown hst.k hP 0 rfl rfl 14 (by decide) (ha _ mw1650) (fun _ h9 => h9) rfl dX11_meanDeviation_50 ?_
    obtain ⟨J70, hJ70, hF⟩ := q_jn hF
    have jJ70 : ∀ (j9 : UInt64), ∀ (H : Heap) (locs : List Loc) (ls : Array Slot), J70 j9 = some res → va_P E.1 vwCl (List.flatten [w_Model E a o ((x.1.1, x.1.2.1, x.1.2.2.1, x.1.2.2.2.1, x.1.2.2.2.2), (x.2.1.1, x.2.1.2.1, x.2.1.2.2.1, x.2.1.2.2.2.1, x.2.1.2.2.2.2), (x.2.2.1.1, x.2.2.1.2.1, x.2.2.1.2.2.1, x.2.2.1.2.2.2), (j8, x.2.2.2.2.1, x.2.2.2.2.2.1, x.2.2.2.2.2.2))]) H → va_D A (List.flatten [w_Model E a o ((x.1.1, x.1.2.1, x.1.2.2.1, x.1.2.2.2.1, x.1.2.2.2.2), (x.2.1.1, x.2.1.2.1, x.2.1.2.2.1, x.2.1.2.2.2.1, x.2.1.2.2.2.2), (x.2.2.1.1, x.2.2.1.2.1, x.2.2.1.2.2.1, x.2.2.1.2.2.2), (j8, x.2.2.2.2.1, x.2.2.2.2.2.1, x.2.2.2.2.2.2))]) → va_S A s.heap H locs → lv_has ls 3 [] → W p l e rm_X11_meanDeviation s m args below meth c H locs 0 0 Q (F0 m 70 ls [.double j9]) := by
      intro j9 H locs ls hF hP hD hS hl
      rw [hJ70] at hF
      obtain rfl := Option.some.inj hF
      exact en_d hQ (Nat.le_of_ble_eq_true rfl) (Nat.le_of_ble_eq_true rfl) hx hb hr hlocks hP hD hS rfl dX11_meanDeviation_70
    refine lv_if_ne (tgt := 69) hx hb dX11_meanDeviation_53 (by decide) (fun c53 => ?_) (fun c53 => ?_)
    · have hF := q_brn c53 hF
      refine lv_dconst0 hx hb dX11_meanDeviation_69 ?_
      exact jJ70 (FP.dconst0) H locs ls hF hP hD hS (lv_sub hl [] rfl)
    · have hF := q_brp c53 hF
      refine lv_iload_n hx hb dX11_meanDeviation_56 rfl (lv_at hl 0 rfl) ?_
      refine lv_i2d hx hb dX11_meanDeviation_57 ?_
      refine lv_aload_n hx hb dX11_meanDeviation_58 rfl (lv_at hl 1 rfl) ?_
      refine va_get (D := E.1) (ci := 13) (v := .ref (a (o + 1))) (C := RX11) (T := TX11) (N := 18) hx hb ha in_X11 hown hst.k hP 0 rfl rfl 0 (by decide) (ha _ mw1636) (fun _ h9 => h9) rfl dX11_meanDeviation_59 ?_
      refine lv_iconst (v := 0) hx hb dX11_meanDeviation_62 (by decide) ?_
      refine vi_iald hx hb hst.k hP 1 0 rfl rfl (f := x.1.1) (k := 0) (by decide) (by decide) dX11_meanDeviation_63 ?_
      refine lv_i2d hx hb dX11_meanDeviation_64 ?_
      obtain ⟨g10, hF⟩ := q_gdi hF
      refine lv_ddiv hx hb dX11_meanDeviation_65 g10 ?_
      refine lv_goto (tgt := 70) hx hb dX11_meanDeviation_66 (by decide) ?_
      exact jJ70 (FP.ddiv (FP.i2d y3) (FP.i2d ((x.1.1 0)))) H locs ls hF hP hD hS (lv_sub hl [] rfl)
  refine lv_if_ne (tgt := 45) hx hb dX11_meanDeviation_38 (by decide) (fun c38 => ?_) (fun c38 => ?_)
  · have hF := q_brn c38 hF
    refine lv_iconst (v := 0) hx hb dX11_meanDeviation_45 (by decide) ?_
    exact jJ46 0 H locs ls hF hP hD hS (lv_sub hl [0, 1] rfl)
  · have hF := q_brp c38 hF
    refine lv_iconst (v := 1) hx hb dX11_meanDeviation_41 (by decide) ?_
    refine lv_goto (tgt := 46) hx hb dX11_meanDeviation_42 (by decide) ?_
    exact jJ46 1 H locs ls hF hP hD hS (lv_sub hl [0, 1] rfl)

/-! X11_inKeyShare -/
theorem dX11_inKeyShare_0 : decode cX11_inKeyShare 0 = .ok (.aload_n 0, 1) := by decide +kernel
theorem dX11_inKeyShare_1 : decode cX11_inKeyShare 1 = .ok (.aload_n 0, 1) := by decide +kernel
theorem dX11_inKeyShare_2 : decode cX11_inKeyShare 2 = .ok (.getfield 7, 3) := by decide +kernel
theorem dX11_inKeyShare_5 : decode cX11_inKeyShare 5 = .ok (.iconst 0, 1) := by decide +kernel
theorem dX11_inKeyShare_6 : decode cX11_inKeyShare 6 = .ok (.iaload, 1) := by decide +kernel
theorem dX11_inKeyShare_7 : decode cX11_inKeyShare 7 = .ok (.ifCond .ne 7, 3) := by decide +kernel
theorem dX11_inKeyShare_10 : decode cX11_inKeyShare 10 = .ok (.iconst 1, 1) := by decide +kernel
theorem dX11_inKeyShare_11 : decode cX11_inKeyShare 11 = .ok (.goto 4, 3) := by decide +kernel
theorem dX11_inKeyShare_14 : decode cX11_inKeyShare 14 = .ok (.iconst 0, 1) := by decide +kernel
theorem dX11_inKeyShare_15 : decode cX11_inKeyShare 15 = .ok (.putfield 42, 3) := by decide +kernel
theorem dX11_inKeyShare_18 : decode cX11_inKeyShare 18 = .ok (.aload_n 0, 1) := by decide +kernel
theorem dX11_inKeyShare_19 : decode cX11_inKeyShare 19 = .ok (.getfield 42, 3) := by decide +kernel
theorem dX11_inKeyShare_22 : decode cX11_inKeyShare 22 = .ok (.ifCond .ne 31, 3) := by decide +kernel
theorem dX11_inKeyShare_25 : decode cX11_inKeyShare 25 = .ok (.aload_n 0, 1) := by decide +kernel
theorem dX11_inKeyShare_26 : decode cX11_inKeyShare 26 = .ok (.aload_n 0, 1) := by decide +kernel
theorem dX11_inKeyShare_27 : decode cX11_inKeyShare 27 = .ok (.getfield 7, 3) := by decide +kernel
theorem dX11_inKeyShare_30 : decode cX11_inKeyShare 30 = .ok (.iconst 2, 1) := by decide +kernel
theorem dX11_inKeyShare_31 : decode cX11_inKeyShare 31 = .ok (.iaload, 1) := by decide +kernel
theorem dX11_inKeyShare_32 : decode cX11_inKeyShare 32 = .ok (.aload_n 0, 1) := by decide +kernel
theorem dX11_inKeyShare_33 : decode cX11_inKeyShare 33 = .ok (.getfield 7, 3) := by decide +kernel
theorem dX11_inKeyShare_36 : decode cX11_inKeyShare 36 = .ok (.iconst 3, 1) := by decide +kernel
theorem dX11_inKeyShare_37 : decode cX11_inKeyShare 37 = .ok (.iaload, 1) := by decide +kernel
theorem dX11_inKeyShare_38 : decode cX11_inKeyShare 38 = .ok (.invokevirtual 117, 3) := by decide +kernel
theorem dX11_inKeyShare_41 : decode cX11_inKeyShare 41 = .ok (.i2f, 1) := by decide +kernel
theorem dX11_inKeyShare_42 : decode cX11_inKeyShare 42 = .ok (.aload_n 0, 1) := by decide +kernel
theorem dX11_inKeyShare_43 : decode cX11_inKeyShare 43 = .ok (.getfield 7, 3) := by decide +kernel
theorem dX11_inKeyShare_46 : decode cX11_inKeyShare 46 = .ok (.iconst 0, 1) := by decide +kernel
theorem dX11_inKeyShare_47 : decode cX11_inKeyShare 47 = .ok (.iaload, 1) := by decide +kernel
theorem dX11_inKeyShare_48 : decode cX11_inKeyShare 48 = .ok (.i2f, 1) := by decide +kernel
theorem dX11_inKeyShare_49 : decode cX11_inKeyShare 49 = .ok (.fdiv, 1) := by decide +kernel
theorem dX11_inKeyShare_50 : decode cX11_inKeyShare 50 = .ok (.goto 4, 3) := by decide +kernel
theorem dX11_inKeyShare_53 : decode cX11_inKeyShare 53 = .ok (.fconst 0, 1) := by decide +kernel
theorem dX11_inKeyShare_54 : decode cX11_inKeyShare 54 = .ok (.freturn, 1) := by decide +kernel
def f_X11_inKeyShare (x_g : (Nat → Int32)) (x_thrown : Int32) : Option (UInt32 × Int32) :=
  q_lt (fun (j1 : Int32) =>
  q_lt (fun (j2 : UInt32) =>
  some (j2, j1)) (fun (J54 : UInt32 → Option (UInt32 × Int32)) =>
  q_br (j1 = 0) (
  q_bd (f_X11_keyed x_g (x_g 2) (x_g 3)) (fun q3 =>
  q_gd ((FP.fdiv (FP.i2f q3) (FP.i2f ((x_g 0)))) &&& 0x7fffffff ≤ 0x7f800000) (
  J54 (FP.fdiv (FP.i2f q3) (FP.i2f ((x_g 0))))))) (
  J54 (FP.fconst0)))) (fun (J15 : Int32 → Option (UInt32 × Int32)) =>
  q_br ((x_g 0) = 0) (
  J15 1) (
  J15 0))
theorem hv_X11_inKeyShare : yX11_inKeyShare.cls = RX11 ∧ yX11_inKeyShare.cls ≠ "java/lang/invoke/MethodHandle" ∧ yX11_inKeyShare.cls ≠ "java/lang/invoke/VarHandle" ∧ (parseMethodDescriptor yX11_inKeyShare.desc).map (fun d => d.parameters.length) = some 0 := by decide +kernel
abbrev rm_X11_inKeyShare : Room := { frames := 4, cells := 0, slots := 0, locals := 92 }
set_option maxHeartbeats 4000000 in
set_option maxRecDepth 100000 in
theorem k_X11_inKeyShare (l : Launch) (E : ET) (a : Nat → Nat) (o : Nat) (x : Model_t) (res : UInt32 × Int32) (hF : f_X11_inKeyShare x.1.1 x.2.2.2.1 = some res) (sz : Nat) : CtF l yX11_inKeyShare (mws yX11_inKeyShare cX11_inKeyShare 1 (some .float)) rm_X11_inKeyShare 0 0 [.ref (a o)] E (bl_Model E a o x) res.1 (bl_Model E a o ((x.1.1, x.1.2.1, x.1.2.2.1, x.1.2.2.2.1, x.1.2.2.2.2), (x.2.1.1, x.2.1.2.1, x.2.1.2.2.1, x.2.1.2.2.2.1, x.2.1.2.2.2.2), (x.2.2.1.1, x.2.2.1.2.1, x.2.2.1.2.2.1, x.2.2.1.2.2.2), (res.2, x.2.2.2.2.1, x.2.2.2.2.2.1, x.2.2.2.2.2.2))) sz := by
  refine mk_M (by decide +kernel) (Nat.le_of_ble_eq_true rfl) ?_
  intro p e s m below meth c A args Q ls hAe hsz hQ hx hb hr hml hin ha hown hlocks hA hz hzs hst hP hD hS hl
  have hown : s.vm.findClass RX11 = some m.cls := hown
  rw [hAe] at hQ
  subst hsz
  have hP : va_P E.1 vwCl (List.flatten [w_Model E a o x]) s.heap := hP
  have hD : va_D A (List.flatten [w_Model E a o x]) := hD
  have hl : lv_has ls 1 [(0, .ref (a o))] := hl
  generalize hHe : s.heap = H at hP
  have hS : va_S A s.heap H [] := by rw [← hHe]; exact hS
  generalize ([] : List Loc) = locs at hS ⊢
  unfold f_X11_inKeyShare at hF
  refine lv_aload_n hx hb dX11_inKeyShare_0 rfl (lv_at hl 0 rfl) ?_
  refine lv_aload_n hx hb dX11_inKeyShare_1 rfl (lv_at hl 0 rfl) ?_
  refine va_get (D := E.1) (ci := 13) (v := .ref (a (o + 1))) (C := RX11) (T := TX11) (N := 18) hx hb ha in_X11 hown hst.k hP 0 rfl rfl 0 (by decide) (ha _ mw1636) (fun _ h9 => h9) rfl dX11_inKeyShare_2 ?_
  refine lv_iconst (v := 0) hx hb dX11_inKeyShare_5 (by decide) ?_
  refine vi_iald hx hb hst.k hP 1 0 rfl rfl (f := x.1.1) (k := 0) (by decide) (by decide) dX11_inKeyShare_6 ?_
  obtain ⟨J15, hJ15, hF⟩ := q_jn hF
  have jJ15 : ∀ (j1 : Int32), ∀ (H : Heap) (locs : List Loc) (ls : Array Slot), J15 j1 = some res → va_P E.1 vwCl (List.flatten [w_Model E a o x]) H → va_D A (List.flatten [w_Model E a o x]) → va_S A s.heap H locs → lv_has ls 1 [(0, .ref (a o))] → W p l e rm_X11_inKeyShare s m args below meth c H locs 0 0 Q (F0 m 15 ls [.int j1, .ref (a o)]) := by
    intro j1 H locs ls hF hP hD hS hl
    rw [hJ15] at hF
    refine va_put (D := E.1) (ci := 13) (v := .int j1) (ty := .int) (C := RX11) (T := TX11) (N := 18) hx hb ha in_X11 tyX11 tyX11_ok nmX11 hown hst.k hP hD hS 0 rfl rfl 14 (by decide) (ha _ mw1650) (fun _ h9 => h9) rfl (tyX11_ok 14 (by decide)) rfl rfl (Nat.le_of_ble_eq_true rfl) dX11_inKeyShare_15 (fun H locs hP hD hS => ?_)
    have hP : va_P E.1 vwCl (List.flatten [w_Model E a o ((x.1.1, x.1.2.1, x.1.2.2.1, x.1.2.2.2.1, x.1.2.2.2.2), (x.2.1.1, x.2.1.2.1, x.2.1.2.2.1, x.2.1.2.2.2.1, x.2.1.2.2.2.2), (x.2.2.1.1, x.2.2.1.2.1, x.2.2.1.2.2.1, x.2.2.1.2.2.2), (j1, x.2.2.2.2.1, x.2.2.2.2.2.1, x.2.2.2.2.2.2))]) H := hP
    have hD : va_D A (List.flatten [w_Model E a o ((x.1.1, x.1.2.1, x.1.2.2.1, x.1.2.2.2.1, x.1.2.2.2.2), (x.2.1.1, x.2.1.2.1, x.2.1.2.2.1, x.2.1.2.2.2.1, x.2.1.2.2.2.2), (x.2.2.1.1, x.2.2.1.2.1, x.2.2.1.2.2.1, x.2.2.1.2.2.2), (j1, x.2.2.2.2.1, x.2.2.2.2.2.1, x.2.2.2.2.2.2))]) := hD
    refine lv_aload_n hx hb dX11_inKeyShare_18 rfl (lv_at hl 0 rfl) ?_
    refine va_get (D := E.1) (ci := 13) (v := .int j1) (C := RX11) (T := TX11) (N := 18) hx hb ha in_X11 hown hst.k hP 0 rfl rfl 14 (by decide) (ha _ mw1650) (fun _ h9 => h9) rfl dX11_inKeyShare_19 ?_
    obtain ⟨J54, hJ54, hF⟩ := q_jn hF
    have jJ54 : ∀ (j2 : UInt32), ∀ (H : Heap) (locs : List Loc) (ls : Array Slot), J54 j2 = some res → va_P E.1 vwCl (List.flatten [w_Model E a o ((x.1.1, x.1.2.1, x.1.2.2.1, x.1.2.2.2.1, x.1.2.2.2.2), (x.2.1.1, x.2.1.2.1, x.2.1.2.2.1, x.2.1.2.2.2.1, x.2.1.2.2.2.2), (x.2.2.1.1, x.2.2.1.2.1, x.2.2.1.2.2.1, x.2.2.1.2.2.2), (j1, x.2.2.2.2.1, x.2.2.2.2.2.1, x.2.2.2.2.2.2))]) H → va_D A (List.flatten [w_Model E a o ((x.1.1, x.1.2.1, x.1.2.2.1, x.1.2.2.2.1, x.1.2.2.2.2), (x.2.1.1, x.2.1.2.1, x.2.1.2.2.1, x.2.1.2.2.2.1, x.2.1.2.2.2.2), (x.2.2.1.1, x.2.2.1.2.1, x.2.2.1.2.2.1, x.2.2.1.2.2.2), (j1, x.2.2.2.2.1, x.2.2.2.2.2.1, x.2.2.2.2.2.2))]) → va_S A s.heap H locs → lv_has ls 1 [] → W p l e rm_X11_inKeyShare s m args below meth c H locs 0 0 Q (F0 m 54 ls [.float j2]) := by
      intro j2 H locs ls hF hP hD hS hl
      rw [hJ54] at hF
      obtain rfl := Option.some.inj hF
      exact en_f hQ (Nat.le_of_ble_eq_true rfl) (Nat.le_of_ble_eq_true rfl) hx hb hr hlocks hP hD hS rfl dX11_inKeyShare_54
    refine lv_if_ne (tgt := 53) hx hb dX11_inKeyShare_22 (by decide) (fun c22 => ?_) (fun c22 => ?_)
    · have hF := q_brn c22 hF
      refine lv_fconst0 hx hb dX11_inKeyShare_53 ?_
      exact jJ54 (FP.fconst0) H locs ls hF hP hD hS (lv_sub hl [] rfl)
    · have hF := q_brp c22 hF
      refine lv_aload_n hx hb dX11_inKeyShare_25 rfl (lv_at hl 0 rfl) ?_
      refine lv_aload_n hx hb dX11_inKeyShare_26 rfl (lv_at hl 0 rfl) ?_
      refine va_get (D := E.1) (ci := 13) (v := .ref (a (o + 1))) (C := RX11) (T := TX11) (N := 18) hx hb ha in_X11 hown hst.k hP 0 rfl rfl 0 (by decide) (ha _ mw1636) (fun _ h9 => h9) rfl dX11_inKeyShare_27 ?_
      refine lv_iconst (v := 2) hx hb dX11_inKeyShare_30 (by decide) ?_
      refine vi_iald hx hb hst.k hP 1 0 rfl rfl (f := x.1.1) (k := 2) (by decide) (by decide) dX11_inKeyShare_31 ?_
      refine lv_aload_n hx hb dX11_inKeyShare_32 rfl (lv_at hl 0 rfl) ?_
      refine va_get (D := E.1) (ci := 13) (v := .ref (a (o + 1))) (C := RX11) (T := TX11) (N := 18) hx hb ha in_X11 hown hst.k hP 0 rfl rfl 0 (by decide) (ha _ mw1636) (fun _ h9 => h9) rfl dX11_inKeyShare_33 ?_
      refine lv_iconst (v := 3) hx hb dX11_inKeyShare_36 (by decide) ?_
      refine vi_iald hx hb hst.k hP 1 0 rfl rfl (f := x.1.1) (k := 3) (by decide) (by decide) dX11_inKeyShare_37 ?_
      obtain ⟨q3, hq3, hF⟩ := q_bdi hF
      refine cl_i (Lc := [w_Model E a o ((x.1.1, x.1.2.1, x.1.2.2.1, x.1.2.2.2.1, x.1.2.2.2.2), (x.2.1.1, x.2.1.2.1, x.2.1.2.2.1, x.2.1.2.2.2.1, x.2.1.2.2.2.2), (x.2.2.1.1, x.2.2.1.2.1, x.2.2.1.2.2.1, x.2.2.1.2.2.2), (j1, x.2.2.2.2.1, x.2.2.2.2.2.1, x.2.2.2.2.2.2))]) (Lc' := [w_Model E a o ((x.1.1, x.1.2.1, x.1.2.2.1, x.1.2.2.2.1, x.1.2.2.2.2), (x.2.1.1, x.2.1.2.1, x.2.1.2.2.1, x.2.1.2.2.2.1, x.2.1.2.2.2.2), (x.2.2.1.1, x.2.2.1.2.1, x.2.2.1.2.2.1, x.2.2.1.2.2.2), (j1, x.2.2.2.2.1, x.2.2.2.2.2.1, x.2.2.2.2.2.2))]) (L' := [w_Model E a o ((x.1.1, x.1.2.1, x.1.2.2.1, x.1.2.2.2.1, x.1.2.2.2.2), (x.2.1.1, x.2.1.2.1, x.2.1.2.2.1, x.2.1.2.2.2.1, x.2.1.2.2.2.2), (x.2.2.1.1, x.2.2.1.2.1, x.2.2.1.2.2.1, x.2.2.1.2.2.2), (j1, x.2.2.2.2.1, x.2.2.2.2.2.1, x.2.2.2.2.2.2))]) (rv := q3) (va_runV (As := [.int (x.1.1 2), .int (x.1.1 3)]) (rest := []) ⟨hx, hb, hml, hown, ha⟩ (k_X11_keyed l E a o ((x.1.1, x.1.2.1, x.1.2.2.1, x.1.2.2.2.1, x.1.2.2.2.2), (x.2.1.1, x.2.1.2.1, x.2.1.2.2.1, x.2.1.2.2.2.1, x.2.1.2.2.2.2), (x.2.2.1.1, x.2.2.1.2.1, x.2.2.1.2.2.1, x.2.2.1.2.2.2), (j1, x.2.2.2.2.1, x.2.2.2.2.2.1, x.2.2.2.2.2.2)) (x.1.1 2) (x.1.1 3) q3 hq3 H.size) (cwV 2 ha (gi_V (fun _ h => h) mw1801 mw1803 mw43 mw87 mw1804) rfl rfl rfl hv_X11_keyed ⟨(Nat.le_of_ble_eq_true rfl), (Nat.le_of_ble_eq_true rfl)⟩) ⟨pre_blind, va_recv hst.k (fr_P hP [0] rfl) (ci := 13) (q0 := 0) rfl rfl, pre_at hP hD hS hz hzs hst [0] (by decide) rfl rfl⟩ rfl rfl hl.1 rfl (lv_room (Nat.le_of_ble_eq_true rfl)) dX11_inKeyShare_38 ⟨(Nat.le_of_ble_eq_true rfl), (Nat.le_of_ble_eq_true rfl)⟩) hP hD hS hA [0] (by decide) rfl rfl rfl rfl (fun H locs hP hD hS => ?_)
      refine lv_i2f hx hb dX11_inKeyShare_41 ?_
      refine lv_aload_n hx hb dX11_inKeyShare_42 rfl (lv_at hl 0 rfl) ?_
      refine va_get (D := E.1) (ci := 13) (v := .ref (a (o + 1))) (C := RX11) (T := TX11) (N := 18) hx hb ha in_X11 hown hst.k hP 0 rfl rfl 0 (by decide) (ha _ mw1636) (fun _ h9 => h9) rfl dX11_inKeyShare_43 ?_
      refine lv_iconst (v := 0) hx hb dX11_inKeyShare_46 (by decide) ?_
      refine vi_iald hx hb hst.k hP 1 0 rfl rfl (f := x.1.1) (k := 0) (by decide) (by decide) dX11_inKeyShare_47 ?_
      refine lv_i2f hx hb dX11_inKeyShare_48 ?_
      obtain ⟨g4, hF⟩ := q_gdi hF
      refine lv_fdiv hx hb dX11_inKeyShare_49 g4 ?_
      refine lv_goto (tgt := 54) hx hb dX11_inKeyShare_50 (by decide) ?_
      exact jJ54 (FP.fdiv (FP.i2f q3) (FP.i2f ((x.1.1 0)))) H locs ls hF hP hD hS (lv_sub hl [] rfl)
  refine lv_if_ne (tgt := 14) hx hb dX11_inKeyShare_7 (by decide) (fun c7 => ?_) (fun c7 => ?_)
  · have hF := q_brn c7 hF
    refine lv_iconst (v := 0) hx hb dX11_inKeyShare_14 (by decide) ?_
    exact jJ15 0 H locs ls hF hP hD hS (lv_sub hl [0] rfl)
  · have hF := q_brp c7 hF
    refine lv_iconst (v := 1) hx hb dX11_inKeyShare_10 (by decide) ?_
    refine lv_goto (tgt := 15) hx hb dX11_inKeyShare_11 (by decide) ?_
    exact jJ15 1 H locs ls hF hP hD hS (lv_sub hl [0] rfl)

/-! X11_tonic -/
theorem dX11_tonic_0 : decode cX11_tonic 0 = .ok (.aload_n 0, 1) := by decide +kernel
theorem dX11_tonic_1 : decode cX11_tonic 1 = .ok (.aload_n 0, 1) := by decide +kernel
theorem dX11_tonic_2 : decode cX11_tonic 2 = .ok (.getfield 7, 3) := by decide +kernel
theorem dX11_tonic_5 : decode cX11_tonic 5 = .ok (.iconst 2, 1) := by decide +kernel
theorem dX11_tonic_6 : decode cX11_tonic 6 = .ok (.iaload, 1) := by decide +kernel
theorem dX11_tonic_7 : decode cX11_tonic 7 = .ok (.invokevirtual 83, 3) := by decide +kernel
theorem dX11_tonic_10 : decode cX11_tonic 10 = .ok (.ireturn, 1) := by decide +kernel
def f_X11_tonic (x_g : (Nat → Int32)) (x_thrown : Int32) : Option (Int32 × Int32) :=
  q_bd (f_X11_done x_thrown (x_g 2)) (fun q1 =>
  some (q1.1, q1.2))
theorem hv_X11_tonic : yX11_tonic.cls = RX11 ∧ yX11_tonic.cls ≠ "java/lang/invoke/MethodHandle" ∧ yX11_tonic.cls ≠ "java/lang/invoke/VarHandle" ∧ (parseMethodDescriptor yX11_tonic.desc).map (fun d => d.parameters.length) = some 0 := by decide +kernel
abbrev rm_X11_tonic : Room := { frames := 1, cells := 0, slots := 0, locals := 21 }
set_option maxHeartbeats 4000000 in
set_option maxRecDepth 100000 in
theorem k_X11_tonic (l : Launch) (E : ET) (a : Nat → Nat) (o : Nat) (x : Model_t) (res : Int32 × Int32) (hF : f_X11_tonic x.1.1 x.2.2.2.1 = some res) (sz : Nat) : CtI l yX11_tonic (mws yX11_tonic cX11_tonic 1 (some .int)) rm_X11_tonic 0 0 [.ref (a o)] E (bl_Model E a o x) res.1 (bl_Model E a o ((x.1.1, x.1.2.1, x.1.2.2.1, x.1.2.2.2.1, x.1.2.2.2.2), (x.2.1.1, x.2.1.2.1, x.2.1.2.2.1, x.2.1.2.2.2.1, x.2.1.2.2.2.2), (x.2.2.1.1, x.2.2.1.2.1, x.2.2.1.2.2.1, x.2.2.1.2.2.2), (res.2, x.2.2.2.2.1, x.2.2.2.2.2.1, x.2.2.2.2.2.2))) sz := by
  refine mk_M (by decide +kernel) (Nat.le_of_ble_eq_true rfl) ?_
  intro p e s m below meth c A args Q ls hAe hsz hQ hx hb hr hml hin ha hown hlocks hA hz hzs hst hP hD hS hl
  have hown : s.vm.findClass RX11 = some m.cls := hown
  rw [hAe] at hQ
  subst hsz
  have hP : va_P E.1 vwCl (List.flatten [w_Model E a o x]) s.heap := hP
  have hD : va_D A (List.flatten [w_Model E a o x]) := hD
  have hl : lv_has ls 1 [(0, .ref (a o))] := hl
  generalize hHe : s.heap = H at hP
  have hS : va_S A s.heap H [] := by rw [← hHe]; exact hS
  generalize ([] : List Loc) = locs at hS ⊢
  unfold f_X11_tonic at hF
  refine lv_aload_n hx hb dX11_tonic_0 rfl (lv_at hl 0 rfl) ?_
  refine lv_aload_n hx hb dX11_tonic_1 rfl (lv_at hl 0 rfl) ?_
  refine va_get (D := E.1) (ci := 13) (v := .ref (a (o + 1))) (C := RX11) (T := TX11) (N := 18) hx hb ha in_X11 hown hst.k hP 0 rfl rfl 0 (by decide) (ha _ mw1636) (fun _ h9 => h9) rfl dX11_tonic_2 ?_
  refine lv_iconst (v := 2) hx hb dX11_tonic_5 (by decide) ?_
  refine vi_iald hx hb hst.k hP 1 0 rfl rfl (f := x.1.1) (k := 2) (by decide) (by decide) dX11_tonic_6 ?_
  obtain ⟨q1, hq1, hF⟩ := q_bdi hF
  refine cl_i (Lc := [w_Model E a o x]) (Lc' := [w_Model E a o ((x.1.1, x.1.2.1, x.1.2.2.1, x.1.2.2.2.1, x.1.2.2.2.2), (x.2.1.1, x.2.1.2.1, x.2.1.2.2.1, x.2.1.2.2.2.1, x.2.1.2.2.2.2), (x.2.2.1.1, x.2.2.1.2.1, x.2.2.1.2.2.1, x.2.2.1.2.2.2), (q1.2, x.2.2.2.2.1, x.2.2.2.2.2.1, x.2.2.2.2.2.2))]) (L' := [w_Model E a o ((x.1.1, x.1.2.1, x.1.2.2.1, x.1.2.2.2.1, x.1.2.2.2.2), (x.2.1.1, x.2.1.2.1, x.2.1.2.2.1, x.2.1.2.2.2.1, x.2.1.2.2.2.2), (x.2.2.1.1, x.2.2.1.2.1, x.2.2.1.2.2.1, x.2.2.1.2.2.2), (q1.2, x.2.2.2.2.1, x.2.2.2.2.2.1, x.2.2.2.2.2.2))]) (rv := q1.1) (va_runV (As := [.int (x.1.1 2)]) (rest := []) ⟨hx, hb, hml, hown, ha⟩ (k_X11_done l E a o x (x.1.1 2) q1 hq1 H.size) (cwV 1 ha (gi_V (fun _ h => h) mw1720 mw1722 mw30 mw87 mw1723) rfl rfl rfl hv_X11_done ⟨(Nat.le_of_ble_eq_true rfl), (Nat.le_of_ble_eq_true rfl)⟩) ⟨pre_blind, va_recv hst.k (fr_P hP [0] rfl) (ci := 13) (q0 := 0) rfl rfl, pre_at hP hD hS hz hzs hst [0] (by decide) rfl rfl⟩ rfl rfl hl.1 rfl (lv_room (Nat.le_of_ble_eq_true rfl)) dX11_tonic_7 ⟨(Nat.le_of_ble_eq_true rfl), (Nat.le_of_ble_eq_true rfl)⟩) hP hD hS hA [0] (by decide) rfl rfl rfl rfl (fun H locs hP hD hS => ?_)
  obtain rfl := Option.some.inj hF
  exact en_i hQ (Nat.le_of_ble_eq_true rfl) (Nat.le_of_ble_eq_true rfl) hx hb hr hlocks hP hD hS rfl dX11_tonic_10

/-! X11_isMinor -/
theorem dX11_isMinor_0 : decode cX11_isMinor 0 = .ok (.aload_n 0, 1) := by decide +kernel
theorem dX11_isMinor_1 : decode cX11_isMinor 1 = .ok (.iconst 0, 1) := by decide +kernel
theorem dX11_isMinor_2 : decode cX11_isMinor 2 = .ok (.putfield 42, 3) := by decide +kernel
theorem dX11_isMinor_5 : decode cX11_isMinor 5 = .ok (.aload_n 0, 1) := by decide +kernel
theorem dX11_isMinor_6 : decode cX11_isMinor 6 = .ok (.getfield 7, 3) := by decide +kernel
theorem dX11_isMinor_9 : decode cX11_isMinor 9 = .ok (.iconst 3, 1) := by decide +kernel
theorem dX11_isMinor_10 : decode cX11_isMinor 10 = .ok (.iaload, 1) := by decide +kernel
theorem dX11_isMinor_11 : decode cX11_isMinor 11 = .ok (.iconst 1, 1) := by decide +kernel
theorem dX11_isMinor_12 : decode cX11_isMinor 12 = .ok (.if_icmp .ne 7, 3) := by decide +kernel
theorem dX11_isMinor_15 : decode cX11_isMinor 15 = .ok (.iconst 1, 1) := by decide +kernel
theorem dX11_isMinor_16 : decode cX11_isMinor 16 = .ok (.goto 4, 3) := by decide +kernel
theorem dX11_isMinor_19 : decode cX11_isMinor 19 = .ok (.iconst 0, 1) := by decide +kernel
theorem dX11_isMinor_20 : decode cX11_isMinor 20 = .ok (.ireturn, 1) := by decide +kernel
def f_X11_isMinor (x_g : (Nat → Int32)) (x_thrown : Int32) : Option (Int32 × Int32) :=
  q_br ((x_g 3) = 1) (
  some (1, 0)) (
  some (0, 0))
theorem hv_X11_isMinor : yX11_isMinor.cls = RX11 ∧ yX11_isMinor.cls ≠ "java/lang/invoke/MethodHandle" ∧ yX11_isMinor.cls ≠ "java/lang/invoke/VarHandle" ∧ (parseMethodDescriptor yX11_isMinor.desc).map (fun d => d.parameters.length) = some 0 := by decide +kernel
abbrev rm_X11_isMinor : Room := { frames := 0, cells := 0, slots := 0, locals := 0 }
set_option maxHeartbeats 4000000 in
set_option maxRecDepth 100000 in
theorem k_X11_isMinor (l : Launch) (E : ET) (a : Nat → Nat) (o : Nat) (x : Model_t) (res : Int32 × Int32) (hF : f_X11_isMinor x.1.1 x.2.2.2.1 = some res) (sz : Nat) : CtI l yX11_isMinor (mws yX11_isMinor cX11_isMinor 1 (some .boolean)) rm_X11_isMinor 0 0 [.ref (a o)] E (bl_Model E a o x) res.1 (bl_Model E a o ((x.1.1, x.1.2.1, x.1.2.2.1, x.1.2.2.2.1, x.1.2.2.2.2), (x.2.1.1, x.2.1.2.1, x.2.1.2.2.1, x.2.1.2.2.2.1, x.2.1.2.2.2.2), (x.2.2.1.1, x.2.2.1.2.1, x.2.2.1.2.2.1, x.2.2.1.2.2.2), (res.2, x.2.2.2.2.1, x.2.2.2.2.2.1, x.2.2.2.2.2.2))) sz := by
  refine mk_M (by decide +kernel) (Nat.le_of_ble_eq_true rfl) ?_
  intro p e s m below meth c A args Q ls hAe hsz hQ hx hb hr hml hin ha hown hlocks hA hz hzs hst hP hD hS hl
  have hown : s.vm.findClass RX11 = some m.cls := hown
  rw [hAe] at hQ
  subst hsz
  have hP : va_P E.1 vwCl (List.flatten [w_Model E a o x]) s.heap := hP
  have hD : va_D A (List.flatten [w_Model E a o x]) := hD
  have hl : lv_has ls 1 [(0, .ref (a o))] := hl
  generalize hHe : s.heap = H at hP
  have hS : va_S A s.heap H [] := by rw [← hHe]; exact hS
  generalize ([] : List Loc) = locs at hS ⊢
  unfold f_X11_isMinor at hF
  refine lv_aload_n hx hb dX11_isMinor_0 rfl (lv_at hl 0 rfl) ?_
  refine lv_iconst (v := 0) hx hb dX11_isMinor_1 (by decide) ?_
  refine va_put (D := E.1) (ci := 13) (v := .int 0) (ty := .int) (C := RX11) (T := TX11) (N := 18) hx hb ha in_X11 tyX11 tyX11_ok nmX11 hown hst.k hP hD hS 0 rfl rfl 14 (by decide) (ha _ mw1650) (fun _ h9 => h9) rfl (tyX11_ok 14 (by decide)) rfl rfl (Nat.le_of_ble_eq_true rfl) dX11_isMinor_2 (fun H locs hP hD hS => ?_)
  have hP : va_P E.1 vwCl (List.flatten [w_Model E a o ((x.1.1, x.1.2.1, x.1.2.2.1, x.1.2.2.2.1, x.1.2.2.2.2), (x.2.1.1, x.2.1.2.1, x.2.1.2.2.1, x.2.1.2.2.2.1, x.2.1.2.2.2.2), (x.2.2.1.1, x.2.2.1.2.1, x.2.2.1.2.2.1, x.2.2.1.2.2.2), (0, x.2.2.2.2.1, x.2.2.2.2.2.1, x.2.2.2.2.2.2))]) H := hP
  have hD : va_D A (List.flatten [w_Model E a o ((x.1.1, x.1.2.1, x.1.2.2.1, x.1.2.2.2.1, x.1.2.2.2.2), (x.2.1.1, x.2.1.2.1, x.2.1.2.2.1, x.2.1.2.2.2.1, x.2.1.2.2.2.2), (x.2.2.1.1, x.2.2.1.2.1, x.2.2.1.2.2.1, x.2.2.1.2.2.2), (0, x.2.2.2.2.1, x.2.2.2.2.2.1, x.2.2.2.2.2.2))]) := hD
  refine lv_aload_n hx hb dX11_isMinor_5 rfl (lv_at hl 0 rfl) ?_
  refine va_get (D := E.1) (ci := 13) (v := .ref (a (o + 1))) (C := RX11) (T := TX11) (N := 18) hx hb ha in_X11 hown hst.k hP 0 rfl rfl 0 (by decide) (ha _ mw1636) (fun _ h9 => h9) rfl dX11_isMinor_6 ?_
  refine lv_iconst (v := 3) hx hb dX11_isMinor_9 (by decide) ?_
  refine vi_iald hx hb hst.k hP 1 0 rfl rfl (f := x.1.1) (k := 3) (by decide) (by decide) dX11_isMinor_10 ?_
  refine lv_iconst (v := 1) hx hb dX11_isMinor_11 (by decide) ?_
  refine lv_icmp_ne (tgt := 19) hx hb dX11_isMinor_12 (by decide) (fun c12 => ?_) (fun c12 => ?_)
  · have hF := q_brn c12 hF
    refine lv_iconst (v := 0) hx hb dX11_isMinor_19 (by decide) ?_
    obtain rfl := Option.some.inj hF
    exact en_z hQ (Nat.le_of_ble_eq_true rfl) (Nat.le_of_ble_eq_true rfl) hx hb hr hlocks (by decide) hP hD hS rfl dX11_isMinor_20
  · have hF := q_brp c12 hF
    refine lv_iconst (v := 1) hx hb dX11_isMinor_15 (by decide) ?_
    refine lv_goto (tgt := 20) hx hb dX11_isMinor_16 (by decide) ?_
    obtain rfl := Option.some.inj hF
    exact en_z hQ (Nat.le_of_ble_eq_true rfl) (Nat.le_of_ble_eq_true rfl) hx hb hr hlocks (by decide) hP hD hS rfl dX11_isMinor_20

/-! X11_tolerance -/
theorem dX11_tolerance_0 : decode cX11_tolerance 0 = .ok (.aload_n 0, 1) := by decide +kernel
theorem dX11_tolerance_1 : decode cX11_tolerance 1 = .ok (.aload_n 0, 1) := by decide +kernel
theorem dX11_tolerance_2 : decode cX11_tolerance 2 = .ok (.getfield 7, 3) := by decide +kernel
theorem dX11_tolerance_5 : decode cX11_tolerance 5 = .ok (.iconst 4, 1) := by decide +kernel
theorem dX11_tolerance_6 : decode cX11_tolerance 6 = .ok (.iaload, 1) := by decide +kernel
theorem dX11_tolerance_7 : decode cX11_tolerance 7 = .ok (.invokevirtual 83, 3) := by decide +kernel
theorem dX11_tolerance_10 : decode cX11_tolerance 10 = .ok (.ireturn, 1) := by decide +kernel
def f_X11_tolerance (x_g : (Nat → Int32)) (x_thrown : Int32) : Option (Int32 × Int32) :=
  q_bd (f_X11_done x_thrown (x_g 4)) (fun q1 =>
  some (q1.1, q1.2))
theorem hv_X11_tolerance : yX11_tolerance.cls = RX11 ∧ yX11_tolerance.cls ≠ "java/lang/invoke/MethodHandle" ∧ yX11_tolerance.cls ≠ "java/lang/invoke/VarHandle" ∧ (parseMethodDescriptor yX11_tolerance.desc).map (fun d => d.parameters.length) = some 0 := by decide +kernel
abbrev rm_X11_tolerance : Room := { frames := 1, cells := 0, slots := 0, locals := 21 }
set_option maxHeartbeats 4000000 in
set_option maxRecDepth 100000 in
theorem k_X11_tolerance (l : Launch) (E : ET) (a : Nat → Nat) (o : Nat) (x : Model_t) (res : Int32 × Int32) (hF : f_X11_tolerance x.1.1 x.2.2.2.1 = some res) (sz : Nat) : CtI l yX11_tolerance (mws yX11_tolerance cX11_tolerance 1 (some .int)) rm_X11_tolerance 0 0 [.ref (a o)] E (bl_Model E a o x) res.1 (bl_Model E a o ((x.1.1, x.1.2.1, x.1.2.2.1, x.1.2.2.2.1, x.1.2.2.2.2), (x.2.1.1, x.2.1.2.1, x.2.1.2.2.1, x.2.1.2.2.2.1, x.2.1.2.2.2.2), (x.2.2.1.1, x.2.2.1.2.1, x.2.2.1.2.2.1, x.2.2.1.2.2.2), (res.2, x.2.2.2.2.1, x.2.2.2.2.2.1, x.2.2.2.2.2.2))) sz := by
  refine mk_M (by decide +kernel) (Nat.le_of_ble_eq_true rfl) ?_
  intro p e s m below meth c A args Q ls hAe hsz hQ hx hb hr hml hin ha hown hlocks hA hz hzs hst hP hD hS hl
  have hown : s.vm.findClass RX11 = some m.cls := hown
  rw [hAe] at hQ
  subst hsz
  have hP : va_P E.1 vwCl (List.flatten [w_Model E a o x]) s.heap := hP
  have hD : va_D A (List.flatten [w_Model E a o x]) := hD
  have hl : lv_has ls 1 [(0, .ref (a o))] := hl
  generalize hHe : s.heap = H at hP
  have hS : va_S A s.heap H [] := by rw [← hHe]; exact hS
  generalize ([] : List Loc) = locs at hS ⊢
  unfold f_X11_tolerance at hF
  refine lv_aload_n hx hb dX11_tolerance_0 rfl (lv_at hl 0 rfl) ?_
  refine lv_aload_n hx hb dX11_tolerance_1 rfl (lv_at hl 0 rfl) ?_
  refine va_get (D := E.1) (ci := 13) (v := .ref (a (o + 1))) (C := RX11) (T := TX11) (N := 18) hx hb ha in_X11 hown hst.k hP 0 rfl rfl 0 (by decide) (ha _ mw1636) (fun _ h9 => h9) rfl dX11_tolerance_2 ?_
  refine lv_iconst (v := 4) hx hb dX11_tolerance_5 (by decide) ?_
  refine vi_iald hx hb hst.k hP 1 0 rfl rfl (f := x.1.1) (k := 4) (by decide) (by decide) dX11_tolerance_6 ?_
  obtain ⟨q1, hq1, hF⟩ := q_bdi hF
  refine cl_i (Lc := [w_Model E a o x]) (Lc' := [w_Model E a o ((x.1.1, x.1.2.1, x.1.2.2.1, x.1.2.2.2.1, x.1.2.2.2.2), (x.2.1.1, x.2.1.2.1, x.2.1.2.2.1, x.2.1.2.2.2.1, x.2.1.2.2.2.2), (x.2.2.1.1, x.2.2.1.2.1, x.2.2.1.2.2.1, x.2.2.1.2.2.2), (q1.2, x.2.2.2.2.1, x.2.2.2.2.2.1, x.2.2.2.2.2.2))]) (L' := [w_Model E a o ((x.1.1, x.1.2.1, x.1.2.2.1, x.1.2.2.2.1, x.1.2.2.2.2), (x.2.1.1, x.2.1.2.1, x.2.1.2.2.1, x.2.1.2.2.2.1, x.2.1.2.2.2.2), (x.2.2.1.1, x.2.2.1.2.1, x.2.2.1.2.2.1, x.2.2.1.2.2.2), (q1.2, x.2.2.2.2.1, x.2.2.2.2.2.1, x.2.2.2.2.2.2))]) (rv := q1.1) (va_runV (As := [.int (x.1.1 4)]) (rest := []) ⟨hx, hb, hml, hown, ha⟩ (k_X11_done l E a o x (x.1.1 4) q1 hq1 H.size) (cwV 1 ha (gi_V (fun _ h => h) mw1720 mw1722 mw30 mw87 mw1723) rfl rfl rfl hv_X11_done ⟨(Nat.le_of_ble_eq_true rfl), (Nat.le_of_ble_eq_true rfl)⟩) ⟨pre_blind, va_recv hst.k (fr_P hP [0] rfl) (ci := 13) (q0 := 0) rfl rfl, pre_at hP hD hS hz hzs hst [0] (by decide) rfl rfl⟩ rfl rfl hl.1 rfl (lv_room (Nat.le_of_ble_eq_true rfl)) dX11_tolerance_7 ⟨(Nat.le_of_ble_eq_true rfl), (Nat.le_of_ble_eq_true rfl)⟩) hP hD hS hA [0] (by decide) rfl rfl rfl rfl (fun H locs hP hD hS => ?_)
  obtain rfl := Option.some.inj hF
  exact en_i hQ (Nat.le_of_ble_eq_true rfl) (Nat.le_of_ble_eq_true rfl) hx hb hr hlocks hP hD hS rfl dX11_tolerance_10

/-! X11_isInScale -/
theorem dX11_isInScale_0 : decode cX11_isInScale 0 = .ok (.aload_n 0, 1) := by decide +kernel
theorem dX11_isInScale_1 : decode cX11_isInScale 1 = .ok (.iload_n 1, 1) := by decide +kernel
theorem dX11_isInScale_2 : decode cX11_isInScale 2 = .ok (.iconst 0, 1) := by decide +kernel
theorem dX11_isInScale_3 : decode cX11_isInScale 3 = .ok (.bipush 11, 2) := by decide +kernel
theorem dX11_isInScale_5 : decode cX11_isInScale 5 = .ok (.invokestatic 52, 3) := by decide +kernel
theorem dX11_isInScale_8 : decode cX11_isInScale 8 = .ok (.ifCond .eq 7, 3) := by decide +kernel
theorem dX11_isInScale_11 : decode cX11_isInScale 11 = .ok (.iconst 0, 1) := by decide +kernel
theorem dX11_isInScale_12 : decode cX11_isInScale 12 = .ok (.goto 4, 3) := by decide +kernel
theorem dX11_isInScale_15 : decode cX11_isInScale 15 = .ok (.iconst 1, 1) := by decide +kernel
theorem dX11_isInScale_16 : decode cX11_isInScale 16 = .ok (.putfield 42, 3) := by decide +kernel
theorem dX11_isInScale_19 : decode cX11_isInScale 19 = .ok (.aload_n 0, 1) := by decide +kernel
theorem dX11_isInScale_20 : decode cX11_isInScale 20 = .ok (.getfield 42, 3) := by decide +kernel
theorem dX11_isInScale_23 : decode cX11_isInScale 23 = .ok (.ifCond .ne 26, 3) := by decide +kernel
theorem dX11_isInScale_26 : decode cX11_isInScale 26 = .ok (.iload_n 1, 1) := by decide +kernel
theorem dX11_isInScale_27 : decode cX11_isInScale 27 = .ok (.aload_n 0, 1) := by decide +kernel
theorem dX11_isInScale_28 : decode cX11_isInScale 28 = .ok (.getfield 7, 3) := by decide +kernel
theorem dX11_isInScale_31 : decode cX11_isInScale 31 = .ok (.iconst 2, 1) := by decide +kernel
theorem dX11_isInScale_32 : decode cX11_isInScale 32 = .ok (.iaload, 1) := by decide +kernel
theorem dX11_isInScale_33 : decode cX11_isInScale 33 = .ok (.aload_n 0, 1) := by decide +kernel
theorem dX11_isInScale_34 : decode cX11_isInScale 34 = .ok (.getfield 7, 3) := by decide +kernel
theorem dX11_isInScale_37 : decode cX11_isInScale 37 = .ok (.iconst 3, 1) := by decide +kernel
theorem dX11_isInScale_38 : decode cX11_isInScale 38 = .ok (.iaload, 1) := by decide +kernel
theorem dX11_isInScale_39 : decode cX11_isInScale 39 = .ok (.invokestatic 64, 3) := by decide +kernel
theorem dX11_isInScale_42 : decode cX11_isInScale 42 = .ok (.ifCond .eq 7, 3) := by decide +kernel
theorem dX11_isInScale_45 : decode cX11_isInScale 45 = .ok (.iconst 1, 1) := by decide +kernel
theorem dX11_isInScale_46 : decode cX11_isInScale 46 = .ok (.goto 4, 3) := by decide +kernel
theorem dX11_isInScale_49 : decode cX11_isInScale 49 = .ok (.iconst 0, 1) := by decide +kernel
theorem dX11_isInScale_50 : decode cX11_isInScale 50 = .ok (.ireturn, 1) := by decide +kernel
def f_X11_isInScale (x_g : (Nat → Int32)) (x_thrown : Int32) (p1 : Int32) : Option (Int32 × Int32) :=
  q_bd (f_X11_in p1 0 11) (fun q1 =>
  q_lt (fun (j2 : Int32) =>
  q_br (j2 = 0) (
  q_bd (f_X11_isInScaleOf p1 (x_g 2) (x_g 3)) (fun q3 =>
  q_br (q3 = 0) (
  some (0, j2)) (
  some (1, j2)))) (
  some (0, j2))) (fun (J16 : Int32 → Option (Int32 × Int32)) =>
  q_br (q1 = 0) (
  J16 1) (
  J16 0)))
theorem hv_X11_isInScale : yX11_isInScale.cls = RX11 ∧ yX11_isInScale.cls ≠ "java/lang/invoke/MethodHandle" ∧ yX11_isInScale.cls ≠ "java/lang/invoke/VarHandle" ∧ (parseMethodDescriptor yX11_isInScale.desc).map (fun d => d.parameters.length) = some 1 := by decide +kernel
abbrev rm_X11_isInScale : Room := { frames := 2, cells := 0, slots := 0, locals := 45 }
set_option maxHeartbeats 4000000 in
set_option maxRecDepth 100000 in
theorem k_X11_isInScale (l : Launch) (E : ET) (a : Nat → Nat) (o : Nat) (x : Model_t) (p1 : Int32) (res : Int32 × Int32) (hF : f_X11_isInScale x.1.1 x.2.2.2.1 p1 = some res) (sz : Nat) : CtI l yX11_isInScale (mws yX11_isInScale cX11_isInScale 2 (some .boolean)) rm_X11_isInScale 0 0 [.ref (a o), .int p1] E (bl_Model E a o x) res.1 (bl_Model E a o ((x.1.1, x.1.2.1, x.1.2.2.1, x.1.2.2.2.1, x.1.2.2.2.2), (x.2.1.1, x.2.1.2.1, x.2.1.2.2.1, x.2.1.2.2.2.1, x.2.1.2.2.2.2), (x.2.2.1.1, x.2.2.1.2.1, x.2.2.1.2.2.1, x.2.2.1.2.2.2), (res.2, x.2.2.2.2.1, x.2.2.2.2.2.1, x.2.2.2.2.2.2))) sz := by
  refine mk_M (by decide +kernel) (Nat.le_of_ble_eq_true rfl) ?_
  intro p e s m below meth c A args Q ls hAe hsz hQ hx hb hr hml hin ha hown hlocks hA hz hzs hst hP hD hS hl
  have hown : s.vm.findClass RX11 = some m.cls := hown
  rw [hAe] at hQ
  subst hsz
  have hP : va_P E.1 vwCl (List.flatten [w_Model E a o x]) s.heap := hP
  have hD : va_D A (List.flatten [w_Model E a o x]) := hD
  have hl : lv_has ls 2 [(0, .ref (a o)), (1, .int p1)] := hl
  generalize hHe : s.heap = H at hP
  have hS : va_S A s.heap H [] := by rw [← hHe]; exact hS
  generalize ([] : List Loc) = locs at hS ⊢
  unfold f_X11_isInScale at hF
  refine lv_aload_n hx hb dX11_isInScale_0 rfl (lv_at hl 0 rfl) ?_
  refine lv_iload_n hx hb dX11_isInScale_1 rfl (lv_at hl 1 rfl) ?_
  refine lv_iconst (v := 0) hx hb dX11_isInScale_2 (by decide) ?_
  refine lv_bipush (v := 11) hx hb dX11_isInScale_3 (by decide) ?_
  obtain ⟨q1, hq1, hF⟩ := q_bdi hF
  refine cl_i (Lc := []) (Lc' := []) (L' := [w_Model E a o x]) (rv := q1) (va_runS (As := [.int p1, .int 0, .int 11]) (rest := [.ref (a o)]) ⟨hx, hb, hml, hown, ha⟩ (k_X11_in l E p1 0 11 q1 hq1 H.size) (cwS 3 ha (gi_S (fun _ h => h) mw1713 mw1714 mw87 mw1715) rfl rfl rfl hv_X11_in ⟨(Nat.le_of_ble_eq_true rfl), (Nat.le_of_ble_eq_true rfl)⟩) ⟨pre_blind, pre_at hP hD hS hz hzs hst [] (by decide) rfl rfl⟩ rfl rfl hl.1 rfl (lv_room (Nat.le_of_ble_eq_true rfl)) dX11_isInScale_5 ⟨(Nat.le_of_ble_eq_true rfl), (Nat.le_of_ble_eq_true rfl)⟩) hP hD hS hA [] (by decide) rfl rfl rfl rfl (fun H locs hP hD hS => ?_)
  obtain ⟨J16, hJ16, hF⟩ := q_jn hF
  have jJ16 : ∀ (j2 : Int32), ∀ (H : Heap) (locs : List Loc) (ls : Array Slot), J16 j2 = some res → va_P E.1 vwCl (List.flatten [w_Model E a o x]) H → va_D A (List.flatten [w_Model E a o x]) → va_S A s.heap H locs → lv_has ls 2 [(0, .ref (a o)), (1, .int p1)] → W p l e rm_X11_isInScale s m args below meth c H locs 0 0 Q (F0 m 16 ls [.int j2, .ref (a o)]) := by
    intro j2 H locs ls hF hP hD hS hl
    rw [hJ16] at hF
    refine va_put (D := E.1) (ci := 13) (v := .int j2) (ty := .int) (C := RX11) (T := TX11) (N := 18) hx hb ha in_X11 tyX11 tyX11_ok nmX11 hown hst.k hP hD hS 0 rfl rfl 14 (by decide) (ha _ mw1650) (fun _ h9 => h9) rfl (tyX11_ok 14 (by decide)) rfl rfl (Nat.le_of_ble_eq_true rfl) dX11_isInScale_16 (fun H locs hP hD hS => ?_)
    have hP : va_P E.1 vwCl (List.flatten [w_Model E a o ((x.1.1, x.1.2.1, x.1.2.2.1, x.1.2.2.2.1, x.1.2.2.2.2), (x.2.1.1, x.2.1.2.1, x.2.1.2.2.1, x.2.1.2.2.2.1, x.2.1.2.2.2.2), (x.2.2.1.1, x.2.2.1.2.1, x.2.2.1.2.2.1, x.2.2.1.2.2.2), (j2, x.2.2.2.2.1, x.2.2.2.2.2.1, x.2.2.2.2.2.2))]) H := hP
    have hD : va_D A (List.flatten [w_Model E a o ((x.1.1, x.1.2.1, x.1.2.2.1, x.1.2.2.2.1, x.1.2.2.2.2), (x.2.1.1, x.2.1.2.1, x.2.1.2.2.1, x.2.1.2.2.2.1, x.2.1.2.2.2.2), (x.2.2.1.1, x.2.2.1.2.1, x.2.2.1.2.2.1, x.2.2.1.2.2.2), (j2, x.2.2.2.2.1, x.2.2.2.2.2.1, x.2.2.2.2.2.2))]) := hD
    refine lv_aload_n hx hb dX11_isInScale_19 rfl (lv_at hl 0 rfl) ?_
    refine va_get (D := E.1) (ci := 13) (v := .int j2) (C := RX11) (T := TX11) (N := 18) hx hb ha in_X11 hown hst.k hP 0 rfl rfl 14 (by decide) (ha _ mw1650) (fun _ h9 => h9) rfl dX11_isInScale_20 ?_
    refine lv_if_ne (tgt := 49) hx hb dX11_isInScale_23 (by decide) (fun c23 => ?_) (fun c23 => ?_)
    · have hF := q_brn c23 hF
      refine lv_iconst (v := 0) hx hb dX11_isInScale_49 (by decide) ?_
      obtain rfl := Option.some.inj hF
      exact en_z hQ (Nat.le_of_ble_eq_true rfl) (Nat.le_of_ble_eq_true rfl) hx hb hr hlocks (by decide) hP hD hS rfl dX11_isInScale_50
    · have hF := q_brp c23 hF
      refine lv_iload_n hx hb dX11_isInScale_26 rfl (lv_at hl 1 rfl) ?_
      refine lv_aload_n hx hb dX11_isInScale_27 rfl (lv_at hl 0 rfl) ?_
      refine va_get (D := E.1) (ci := 13) (v := .ref (a (o + 1))) (C := RX11) (T := TX11) (N := 18) hx hb ha in_X11 hown hst.k hP 0 rfl rfl 0 (by decide) (ha _ mw1636) (fun _ h9 => h9) rfl dX11_isInScale_28 ?_
      refine lv_iconst (v := 2) hx hb dX11_isInScale_31 (by decide) ?_
      refine vi_iald hx hb hst.k hP 1 0 rfl rfl (f := x.1.1) (k := 2) (by decide) (by decide) dX11_isInScale_32 ?_
      refine lv_aload_n hx hb dX11_isInScale_33 rfl (lv_at hl 0 rfl) ?_
      refine va_get (D := E.1) (ci := 13) (v := .ref (a (o + 1))) (C := RX11) (T := TX11) (N := 18) hx hb ha in_X11 hown hst.k hP 0 rfl rfl 0 (by decide) (ha _ mw1636) (fun _ h9 => h9) rfl dX11_isInScale_34 ?_
      refine lv_iconst (v := 3) hx hb dX11_isInScale_37 (by decide) ?_
      refine vi_iald hx hb hst.k hP 1 0 rfl rfl (f := x.1.1) (k := 3) (by decide) (by decide) dX11_isInScale_38 ?_
      obtain ⟨q3, hq3, hF⟩ := q_bdi hF
      refine cl_i (Lc := []) (Lc' := []) (L' := [w_Model E a o ((x.1.1, x.1.2.1, x.1.2.2.1, x.1.2.2.2.1, x.1.2.2.2.2), (x.2.1.1, x.2.1.2.1, x.2.1.2.2.1, x.2.1.2.2.2.1, x.2.1.2.2.2.2), (x.2.2.1.1, x.2.2.1.2.1, x.2.2.1.2.2.1, x.2.2.1.2.2.2), (j2, x.2.2.2.2.1, x.2.2.2.2.2.1, x.2.2.2.2.2.2))]) (rv := q3) (va_runS (As := [.int p1, .int (x.1.1 2), .int (x.1.1 3)]) (rest := []) ⟨hx, hb, hml, hown, ha⟩ (k_X11_isInScaleOf l E p1 (x.1.1 2) (x.1.1 3) q3 hq3 H.size) (cwS 3 ha (gi_S (fun _ h => h) mw1780 mw1781 mw87 mw1782) rfl rfl rfl hv_X11_isInScaleOf ⟨(Nat.le_of_ble_eq_true rfl), (Nat.le_of_ble_eq_true rfl)⟩) ⟨pre_blind, pre_at hP hD hS hz hzs hst [] (by decide) rfl rfl⟩ rfl rfl hl.1 rfl (lv_room (Nat.le_of_ble_eq_true rfl)) dX11_isInScale_39 ⟨(Nat.le_of_ble_eq_true rfl), (Nat.le_of_ble_eq_true rfl)⟩) hP hD hS hA [] (by decide) rfl rfl rfl rfl (fun H locs hP hD hS => ?_)
      refine lv_if_eq (tgt := 49) hx hb dX11_isInScale_42 (by decide) (fun c42 => ?_) (fun c42 => ?_)
      · have hF := q_brp c42 hF
        refine lv_iconst (v := 0) hx hb dX11_isInScale_49 (by decide) ?_
        obtain rfl := Option.some.inj hF
        exact en_z hQ (Nat.le_of_ble_eq_true rfl) (Nat.le_of_ble_eq_true rfl) hx hb hr hlocks (by decide) hP hD hS rfl dX11_isInScale_50
      · have hF := q_brn c42 hF
        refine lv_iconst (v := 1) hx hb dX11_isInScale_45 (by decide) ?_
        refine lv_goto (tgt := 50) hx hb dX11_isInScale_46 (by decide) ?_
        obtain rfl := Option.some.inj hF
        exact en_z hQ (Nat.le_of_ble_eq_true rfl) (Nat.le_of_ble_eq_true rfl) hx hb hr hlocks (by decide) hP hD hS rfl dX11_isInScale_50
  refine lv_if_eq (tgt := 15) hx hb dX11_isInScale_8 (by decide) (fun c8 => ?_) (fun c8 => ?_)
  · have hF := q_brp c8 hF
    refine lv_iconst (v := 1) hx hb dX11_isInScale_15 (by decide) ?_
    exact jJ16 1 H locs ls hF hP hD hS (lv_sub hl [0, 1] rfl)
  · have hF := q_brn c8 hF
    refine lv_iconst (v := 0) hx hb dX11_isInScale_11 (by decide) ?_
    refine lv_goto (tgt := 16) hx hb dX11_isInScale_12 (by decide) ?_
    exact jJ16 0 H locs ls hF hP hD hS (lv_sub hl [0, 1] rfl)

/-! X11_bestTonic -/
theorem dX11_bestTonic_0 : decode cX11_bestTonic 0 = .ok (.iload_n 1, 1) := by decide +kernel
theorem dX11_bestTonic_1 : decode cX11_bestTonic 1 = .ok (.ifCond .eq 7, 3) := by decide +kernel
theorem dX11_bestTonic_4 : decode cX11_bestTonic 4 = .ok (.iconst 1, 1) := by decide +kernel
theorem dX11_bestTonic_5 : decode cX11_bestTonic 5 = .ok (.goto 4, 3) := by decide +kernel
theorem dX11_bestTonic_8 : decode cX11_bestTonic 8 = .ok (.iconst 0, 1) := by decide +kernel
theorem dX11_bestTonic_9 : decode cX11_bestTonic 9 = .ok (.istore_n 2, 1) := by decide +kernel
theorem dX11_bestTonic_10 : decode cX11_bestTonic 10 = .ok (.iconst 0, 1) := by decide +kernel
theorem dX11_bestTonic_11 : decode cX11_bestTonic 11 = .ok (.istore_n 3, 1) := by decide +kernel
theorem dX11_bestTonic_12 : decode cX11_bestTonic 12 = .ok (.iconst 1, 1) := by decide +kernel
theorem dX11_bestTonic_13 : decode cX11_bestTonic 13 = .ok (.istore 4, 2) := by decide +kernel
theorem dX11_bestTonic_15 : decode cX11_bestTonic 15 = .ok (.iload 4, 2) := by decide +kernel
theorem dX11_bestTonic_17 : decode cX11_bestTonic 17 = .ok (.bipush 12, 2) := by decide +kernel
theorem dX11_bestTonic_19 : decode cX11_bestTonic 19 = .ok (.if_icmp .ge 32, 3) := by decide +kernel
theorem dX11_bestTonic_22 : decode cX11_bestTonic 22 = .ok (.aload_n 0, 1) := by decide +kernel
theorem dX11_bestTonic_23 : decode cX11_bestTonic 23 = .ok (.iload 4, 2) := by decide +kernel
theorem dX11_bestTonic_25 : decode cX11_bestTonic 25 = .ok (.iload_n 2, 1) := by decide +kernel
theorem dX11_bestTonic_26 : decode cX11_bestTonic 26 = .ok (.invokevirtual 117, 3) := by decide +kernel
theorem dX11_bestTonic_29 : decode cX11_bestTonic 29 = .ok (.aload_n 0, 1) := by decide +kernel
theorem dX11_bestTonic_30 : decode cX11_bestTonic 30 = .ok (.iload_n 3, 1) := by decide +kernel
theorem dX11_bestTonic_31 : decode cX11_bestTonic 31 = .ok (.iload_n 2, 1) := by decide +kernel
theorem dX11_bestTonic_32 : decode cX11_bestTonic 32 = .ok (.invokevirtual 117, 3) := by decide +kernel
theorem dX11_bestTonic_35 : decode cX11_bestTonic 35 = .ok (.if_icmp .le 8, 3) := by decide +kernel
theorem dX11_bestTonic_38 : decode cX11_bestTonic 38 = .ok (.iload 4, 2) := by decide +kernel
theorem dX11_bestTonic_40 : decode cX11_bestTonic 40 = .ok (.goto 4, 3) := by decide +kernel
theorem dX11_bestTonic_43 : decode cX11_bestTonic 43 = .ok (.iload_n 3, 1) := by decide +kernel
theorem dX11_bestTonic_44 : decode cX11_bestTonic 44 = .ok (.istore_n 3, 1) := by decide +kernel
theorem dX11_bestTonic_45 : decode cX11_bestTonic 45 = .ok (.iinc 4 1, 3) := by decide +kernel
theorem dX11_bestTonic_48 : decode cX11_bestTonic 48 = .ok (.goto (-33), 3) := by decide +kernel
theorem dX11_bestTonic_51 : decode cX11_bestTonic 51 = .ok (.aload_n 0, 1) := by decide +kernel
theorem dX11_bestTonic_52 : decode cX11_bestTonic 52 = .ok (.iload_n 3, 1) := by decide +kernel
theorem dX11_bestTonic_53 : decode cX11_bestTonic 53 = .ok (.invokevirtual 83, 3) := by decide +kernel
theorem dX11_bestTonic_56 : decode cX11_bestTonic 56 = .ok (.ireturn, 1) := by decide +kernel
def f_X11_bestTonic_L15 (x_g : (Nat → Int32)) (x_thrown : Int32) (j1 : Int32) : Nat → Int32 → Int32 → Option (Int32 × Int32)
  | 0, _, _ => none
  | n15 + 1, i2, i3 =>
    q_br (12 ≤ i2) (
  q_bd (f_X11_done x_thrown i3) (fun q4 =>
  some (q4.1, q4.2))) (
  q_bd (f_X11_keyed x_g i2 j1) (fun q5 =>
  q_bd (f_X11_keyed x_g i3 j1) (fun q6 =>
  q_lt (fun (j7 : Int32) =>
  q_lt (i2 + 1 : Int32) (fun v8 =>
  f_X11_bestTonic_L15 x_g x_thrown j1 n15 v8 j7)) (fun (J44 : Int32 → Option (Int32 × Int32)) =>
  q_br (q5 ≤ q6) (
  J44 i3) (
  J44 i2)))))
def f_X11_bestTonic (x_g : (Nat → Int32)) (x_thrown : Int32) (p1 : Int32) : Option (Int32 × Int32) :=
  q_lt (fun (j1 : Int32) =>
  f_X11_bestTonic_L15 x_g x_thrown j1 2000 1 0) (fun (J9 : Int32 → Option (Int32 × Int32)) =>
  q_br (p1 = 0) (
  J9 0) (
  J9 1))
theorem hv_X11_bestTonic : yX11_bestTonic.cls = RX11 ∧ yX11_bestTonic.cls ≠ "java/lang/invoke/MethodHandle" ∧ yX11_bestTonic.cls ≠ "java/lang/invoke/VarHandle" ∧ (parseMethodDescriptor yX11_bestTonic.desc).map (fun d => d.parameters.length) = some 1 := by decide +kernel
abbrev rm_X11_bestTonic : Room := { frames := 4, cells := 0, slots := 0, locals := 92 }
set_option maxHeartbeats 4000000 in
set_option maxRecDepth 100000 in
theorem k_X11_bestTonic (l : Launch) (E : ET) (a : Nat → Nat) (o : Nat) (x : Model_t) (p1 : Int32) (res : Int32 × Int32) (hF : f_X11_bestTonic x.1.1 x.2.2.2.1 p1 = some res) (sz : Nat) : CtI l yX11_bestTonic (mws yX11_bestTonic cX11_bestTonic 5 (some .int)) rm_X11_bestTonic 0 0 [.ref (a o), .int p1] E (bl_Model E a o x) res.1 (bl_Model E a o ((x.1.1, x.1.2.1, x.1.2.2.1, x.1.2.2.2.1, x.1.2.2.2.2), (x.2.1.1, x.2.1.2.1, x.2.1.2.2.1, x.2.1.2.2.2.1, x.2.1.2.2.2.2), (x.2.2.1.1, x.2.2.1.2.1, x.2.2.1.2.2.1, x.2.2.1.2.2.2), (res.2, x.2.2.2.2.1, x.2.2.2.2.2.1, x.2.2.2.2.2.2))) sz := by
  refine mk_M (by decide +kernel) (Nat.le_of_ble_eq_true rfl) ?_
  intro p e s m below meth c A args Q ls hAe hsz hQ hx hb hr hml hin ha hown hlocks hA hz hzs hst hP hD hS hl
  have hown : s.vm.findClass RX11 = some m.cls := hown
  rw [hAe] at hQ
  subst hsz
  have hP : va_P E.1 vwCl (List.flatten [w_Model E a o x]) s.heap := hP
  have hD : va_D A (List.flatten [w_Model E a o x]) := hD
  have hl : lv_has ls 5 [(0, .ref (a o)), (1, .int p1)] := hl
  generalize hHe : s.heap = H at hP
  have hS : va_S A s.heap H [] := by rw [← hHe]; exact hS
  generalize ([] : List Loc) = locs at hS ⊢
  unfold f_X11_bestTonic at hF
  refine lv_iload_n hx hb dX11_bestTonic_0 rfl (lv_at hl 1 rfl) ?_
  obtain ⟨J9, hJ9, hF⟩ := q_jn hF
  have jJ9 : ∀ (j1 : Int32), ∀ (H : Heap) (locs : List Loc) (ls : Array Slot), J9 j1 = some res → va_P E.1 vwCl (List.flatten [w_Model E a o x]) H → va_D A (List.flatten [w_Model E a o x]) → va_S A s.heap H locs → lv_has ls 5 [(0, .ref (a o))] → W p l e rm_X11_bestTonic s m args below meth c H locs 0 0 Q (F0 m 9 ls [.int j1]) := by
    intro j1 H locs ls hF hP hD hS hl
    rw [hJ9] at hF
    refine lv_istore_n (lv' := [(2, .int j1), (0, .ref (a o))]) hx hb dX11_bestTonic_9 rfl hl (by decide) rfl (fun ls hl => ?_)
    refine lv_iconst (v := 0) hx hb dX11_bestTonic_10 (by decide) ?_
    refine lv_istore_n (lv' := [(3, .int 0), (2, .int j1), (0, .ref (a o))]) hx hb dX11_bestTonic_11 rfl hl (by decide) rfl (fun ls hl => ?_)
    refine lv_iconst (v := 1) hx hb dX11_bestTonic_12 (by decide) ?_
    refine lv_istore (lv' := [(4, .int 1), (3, .int 0), (2, .int j1), (0, .ref (a o))]) hx hb dX11_bestTonic_13 hl (by decide) rfl (fun ls hl => ?_)
    have key15 : ∀ (n : Nat) (i2 : Int32) (i3 : Int32) (H : Heap) (locs : List Loc) (ls : Array Slot), f_X11_bestTonic_L15 x.1.1 x.2.2.2.1 j1 n i2 i3 = some res → va_P E.1 vwCl (List.flatten [w_Model E a o x]) H → va_D A (List.flatten [w_Model E a o x]) → va_S A s.heap H locs → lv_has ls 5 [(4, .int i2), (3, .int i3), (2, .int j1), (0, .ref (a o))] → W p l e rm_X11_bestTonic s m args below meth c H locs 0 0 Q (F0 m 15 ls []) := by
      intro n15
      induction n15 with
      | zero => intro i2 i3 H locs ls hF; exact absurd hF (by simp [f_X11_bestTonic_L15])
      | succ n15 ih15 =>
        intro i2 i3 H locs ls hF hP hD hS hl
        rw [f_X11_bestTonic_L15] at hF
        refine lv_iload hx hb dX11_bestTonic_15 (lv_at hl 0 rfl) ?_
        refine lv_bipush (v := 12) hx hb dX11_bestTonic_17 (by decide) ?_
        refine lv_icmp_ge (tgt := 51) hx hb dX11_bestTonic_19 (by decide) (fun c19 => ?_) (fun c19 => ?_)
        · have hF := q_brp c19 hF
          refine lv_aload_n hx hb dX11_bestTonic_51 rfl (lv_at hl 3 rfl) ?_
          refine lv_iload_n hx hb dX11_bestTonic_52 rfl (lv_at hl 1 rfl) ?_
          obtain ⟨q4, hq4, hF⟩ := q_bdi hF
          refine cl_i (Lc := [w_Model E a o x]) (Lc' := [w_Model E a o ((x.1.1, x.1.2.1, x.1.2.2.1, x.1.2.2.2.1, x.1.2.2.2.2), (x.2.1.1, x.2.1.2.1, x.2.1.2.2.1, x.2.1.2.2.2.1, x.2.1.2.2.2.2), (x.2.2.1.1, x.2.2.1.2.1, x.2.2.1.2.2.1, x.2.2.1.2.2.2), (q4.2, x.2.2.2.2.1, x.2.2.2.2.2.1, x.2.2.2.2.2.2))]) (L' := [w_Model E a o ((x.1.1, x.1.2.1, x.1.2.2.1, x.1.2.2.2.1, x.1.2.2.2.2), (x.2.1.1, x.2.1.2.1, x.2.1.2.2.1, x.2.1.2.2.2.1, x.2.1.2.2.2.2), (x.2.2.1.1, x.2.2.1.2.1, x.2.2.1.2.2.1, x.2.2.1.2.2.2), (q4.2, x.2.2.2.2.1, x.2.2.2.2.2.1, x.2.2.2.2.2.2))]) (rv := q4.1) (va_runV (As := [.int i3]) (rest := []) ⟨hx, hb, hml, hown, ha⟩ (k_X11_done l E a o x i3 q4 hq4 H.size) (cwV 1 ha (gi_V (fun _ h => h) mw1720 mw1722 mw30 mw87 mw1723) rfl rfl rfl hv_X11_done ⟨(Nat.le_of_ble_eq_true rfl), (Nat.le_of_ble_eq_true rfl)⟩) ⟨pre_blind, va_recv hst.k (fr_P hP [0] rfl) (ci := 13) (q0 := 0) rfl rfl, pre_at hP hD hS hz hzs hst [0] (by decide) rfl rfl⟩ rfl rfl hl.1 rfl (lv_room (Nat.le_of_ble_eq_true rfl)) dX11_bestTonic_53 ⟨(Nat.le_of_ble_eq_true rfl), (Nat.le_of_ble_eq_true rfl)⟩) hP hD hS hA [0] (by decide) rfl rfl rfl rfl (fun H locs hP hD hS => ?_)
          obtain rfl := Option.some.inj hF
          exact en_i hQ (Nat.le_of_ble_eq_true rfl) (Nat.le_of_ble_eq_true rfl) hx hb hr hlocks hP hD hS rfl dX11_bestTonic_56
        · have hF := q_brn c19 hF
          refine lv_aload_n hx hb dX11_bestTonic_22 rfl (lv_at hl 3 rfl) ?_
          refine lv_iload hx hb dX11_bestTonic_23 (lv_at hl 0 rfl) ?_
          refine lv_iload_n hx hb dX11_bestTonic_25 rfl (lv_at hl 2 rfl) ?_
          obtain ⟨q5, hq5, hF⟩ := q_bdi hF
          refine cl_i (Lc := [w_Model E a o x]) (Lc' := [w_Model E a o x]) (L' := [w_Model E a o x]) (rv := q5) (va_runV (As := [.int i2, .int j1]) (rest := []) ⟨hx, hb, hml, hown, ha⟩ (k_X11_keyed l E a o x i2 j1 q5 hq5 H.size) (cwV 2 ha (gi_V (fun _ h => h) mw1801 mw1803 mw43 mw87 mw1804) rfl rfl rfl hv_X11_keyed ⟨(Nat.le_of_ble_eq_true rfl), (Nat.le_of_ble_eq_true rfl)⟩) ⟨pre_blind, va_recv hst.k (fr_P hP [0] rfl) (ci := 13) (q0 := 0) rfl rfl, pre_at hP hD hS hz hzs hst [0] (by decide) rfl rfl⟩ rfl rfl hl.1 rfl (lv_room (Nat.le_of_ble_eq_true rfl)) dX11_bestTonic_26 ⟨(Nat.le_of_ble_eq_true rfl), (Nat.le_of_ble_eq_true rfl)⟩) hP hD hS hA [0] (by decide) rfl rfl rfl rfl (fun H locs hP hD hS => ?_)
          refine lv_aload_n hx hb dX11_bestTonic_29 rfl (lv_at hl 3 rfl) ?_
          refine lv_iload_n hx hb dX11_bestTonic_30 rfl (lv_at hl 1 rfl) ?_
          refine lv_iload_n hx hb dX11_bestTonic_31 rfl (lv_at hl 2 rfl) ?_
          obtain ⟨q6, hq6, hF⟩ := q_bdi hF
          refine cl_i (Lc := [w_Model E a o x]) (Lc' := [w_Model E a o x]) (L' := [w_Model E a o x]) (rv := q6) (va_runV (As := [.int i3, .int j1]) (rest := [.int q5]) ⟨hx, hb, hml, hown, ha⟩ (k_X11_keyed l E a o x i3 j1 q6 hq6 H.size) (cwV 2 ha (gi_V (fun _ h => h) mw1801 mw1803 mw43 mw87 mw1804) rfl rfl rfl hv_X11_keyed ⟨(Nat.le_of_ble_eq_true rfl), (Nat.le_of_ble_eq_true rfl)⟩) ⟨pre_blind, va_recv hst.k (fr_P hP [0] rfl) (ci := 13) (q0 := 0) rfl rfl, pre_at hP hD hS hz hzs hst [0] (by decide) rfl rfl⟩ rfl rfl hl.1 rfl (lv_room (Nat.le_of_ble_eq_true rfl)) dX11_bestTonic_32 ⟨(Nat.le_of_ble_eq_true rfl), (Nat.le_of_ble_eq_true rfl)⟩) hP hD hS hA [0] (by decide) rfl rfl rfl rfl (fun H locs hP hD hS => ?_)
          obtain ⟨J44, hJ44, hF⟩ := q_jn hF
          have jJ44 : ∀ (j7 : Int32), ∀ (H : Heap) (locs : List Loc) (ls : Array Slot), J44 j7 = some res → va_P E.1 vwCl (List.flatten [w_Model E a o x]) H → va_D A (List.flatten [w_Model E a o x]) → va_S A s.heap H locs → lv_has ls 5 [(4, .int i2), (2, .int j1), (0, .ref (a o))] → W p l e rm_X11_bestTonic s m args below meth c H locs 0 0 Q (F0 m 44 ls [.int j7]) := by
            intro j7 H locs ls hF hP hD hS hl
            rw [hJ44] at hF
            refine lv_istore_n (lv' := [(3, .int j7), (4, .int i2), (2, .int j1), (0, .ref (a o))]) hx hb dX11_bestTonic_44 rfl hl (by decide) rfl (fun ls hl => ?_)
            obtain ⟨v8, ev8⟩ : ∃ y : Int32, y = i2 + 1 := ⟨_, rfl⟩
            have hF := q_lti ev8 hF
            refine lv_iinc (v := v8) (lv' := [(4, .int v8), (3, .int j7), (2, .int j1), (0, .ref (a o))]) hx hb dX11_bestTonic_45 hl (k := 1) rfl (by rw [ev8]; rfl) (by decide) rfl (fun ls hl => ?_)
            refine lv_goto (tgt := 15) hx hb dX11_bestTonic_48 (by decide) ?_
            exact ih15 v8 j7 H locs ls hF hP hD hS (lv_sub hl [0, 1, 2, 3] rfl)
          refine lv_icmp_le (tgt := 43) hx hb dX11_bestTonic_35 (by decide) (fun c35 => ?_) (fun c35 => ?_)
          · have hF := q_brp c35 hF
            refine lv_iload_n hx hb dX11_bestTonic_43 rfl (lv_at hl 1 rfl) ?_
            exact jJ44 i3 H locs ls hF hP hD hS (lv_sub hl [0, 2, 3] rfl)
          · have hF := q_brn c35 hF
            refine lv_iload hx hb dX11_bestTonic_38 (lv_at hl 0 rfl) ?_
            refine lv_goto (tgt := 44) hx hb dX11_bestTonic_40 (by decide) ?_
            exact jJ44 i2 H locs ls hF hP hD hS (lv_sub hl [0, 2, 3] rfl)
    exact key15 _ 1 0 H locs ls hF hP hD hS (lv_sub hl [0, 1, 2, 3] rfl)
  refine lv_if_eq (tgt := 8) hx hb dX11_bestTonic_1 (by decide) (fun c1 => ?_) (fun c1 => ?_)
  · have hF := q_brp c1 hF
    refine lv_iconst (v := 0) hx hb dX11_bestTonic_8 (by decide) ?_
    exact jJ9 0 H locs ls hF hP hD hS (lv_sub hl [0] rfl)
  · have hF := q_brn c1 hF
    refine lv_iconst (v := 1) hx hb dX11_bestTonic_4 (by decide) ?_
    refine lv_goto (tgt := 9) hx hb dX11_bestTonic_5 (by decide) ?_
    exact jJ9 1 H locs ls hF hP hD hS (lv_sub hl [0] rfl)

/-! X11_toneAt -/
theorem dX11_toneAt_0 : decode cX11_toneAt 0 = .ok (.aload_n 0, 1) := by decide +kernel
theorem dX11_toneAt_1 : decode cX11_toneAt 1 = .ok (.getfield 7, 3) := by decide +kernel
theorem dX11_toneAt_4 : decode cX11_toneAt 4 = .ok (.bipush 37, 2) := by decide +kernel
theorem dX11_toneAt_6 : decode cX11_toneAt 6 = .ok (.bipush 8, 2) := by decide +kernel
theorem dX11_toneAt_8 : decode cX11_toneAt 8 = .ok (.iload_n 1, 1) := by decide +kernel
theorem dX11_toneAt_9 : decode cX11_toneAt 9 = .ok (.imul, 1) := by decide +kernel
theorem dX11_toneAt_10 : decode cX11_toneAt 10 = .ok (.iadd, 1) := by decide +kernel
theorem dX11_toneAt_11 : decode cX11_toneAt 11 = .ok (.iload_n 2, 1) := by decide +kernel
theorem dX11_toneAt_12 : decode cX11_toneAt 12 = .ok (.iadd, 1) := by decide +kernel
theorem dX11_toneAt_13 : decode cX11_toneAt 13 = .ok (.iaload, 1) := by decide +kernel
theorem dX11_toneAt_14 : decode cX11_toneAt 14 = .ok (.ireturn, 1) := by decide +kernel
def f_X11_toneAt (x_g : (Nat → Int32)) (p1 : Int32) (p2 : Int32) : Option (Int32) :=
  q_gd (q_in ((37 + (8 * p1)) + p2) 77) (
  some (x_g (((37 + (8 * p1)) + p2).toNatClampNeg)))
theorem hv_X11_toneAt : yX11_toneAt.cls = RX11 ∧ yX11_toneAt.cls ≠ "java/lang/invoke/MethodHandle" ∧ yX11_toneAt.cls ≠ "java/lang/invoke/VarHandle" ∧ (parseMethodDescriptor yX11_toneAt.desc).map (fun d => d.parameters.length) = some 2 := by decide +kernel
abbrev rm_X11_toneAt : Room := { frames := 0, cells := 0, slots := 0, locals := 0 }
set_option maxHeartbeats 4000000 in
set_option maxRecDepth 100000 in
theorem k_X11_toneAt (l : Launch) (E : ET) (a : Nat → Nat) (o : Nat) (x : Model_t) (p1 : Int32) (p2 : Int32) (res : Int32) (hF : f_X11_toneAt x.1.1 p1 p2 = some res) (sz : Nat) : CtI l yX11_toneAt (mws yX11_toneAt cX11_toneAt 3 (some .int)) rm_X11_toneAt 0 0 [.ref (a o), .int p1, .int p2] E (bl_Model E a o x) res (bl_Model E a o x) sz := by
  refine mk_M (by decide +kernel) (Nat.le_of_ble_eq_true rfl) ?_
  intro p e s m below meth c A args Q ls hAe hsz hQ hx hb hr hml hin ha hown hlocks hA hz hzs hst hP hD hS hl
  have hown : s.vm.findClass RX11 = some m.cls := hown
  rw [hAe] at hQ
  subst hsz
  have hP : va_P E.1 vwCl (List.flatten [w_Model E a o x]) s.heap := hP
  have hD : va_D A (List.flatten [w_Model E a o x]) := hD
  have hl : lv_has ls 3 [(0, .ref (a o)), (1, .int p1), (2, .int p2)] := hl
  generalize hHe : s.heap = H at hP
  have hS : va_S A s.heap H [] := by rw [← hHe]; exact hS
  generalize ([] : List Loc) = locs at hS ⊢
  unfold f_X11_toneAt at hF
  refine lv_aload_n hx hb dX11_toneAt_0 rfl (lv_at hl 0 rfl) ?_
  refine va_get (D := E.1) (ci := 13) (v := .ref (a (o + 1))) (C := RX11) (T := TX11) (N := 18) hx hb ha in_X11 hown hst.k hP 0 rfl rfl 0 (by decide) (ha _ mw1636) (fun _ h9 => h9) rfl dX11_toneAt_1 ?_
  refine lv_bipush (v := 37) hx hb dX11_toneAt_4 (by decide) ?_
  refine lv_bipush (v := 8) hx hb dX11_toneAt_6 (by decide) ?_
  refine lv_iload_n hx hb dX11_toneAt_8 rfl (lv_at hl 1 rfl) ?_
  refine lv_imul hx hb dX11_toneAt_9 ?_
  refine lv_iadd hx hb dX11_toneAt_10 ?_
  refine lv_iload_n hx hb dX11_toneAt_11 rfl (lv_at hl 2 rfl) ?_
  refine lv_iadd hx hb dX11_toneAt_12 ?_
  obtain ⟨g1, hF⟩ := q_gdi hF
  refine vi_iald hx hb hst.k hP 1 0 rfl rfl (f := x.1.1) (k := ((37 + (8 * p1)) + p2).toNatClampNeg) rfl g1 dX11_toneAt_13 ?_
  obtain rfl := Option.some.inj hF
  exact en_i hQ (Nat.le_of_ble_eq_true rfl) (Nat.le_of_ble_eq_true rfl) hx hb hr hlocks hP hD hS rfl dX11_toneAt_14

/-! X11_melodyLength -/
theorem dX11_melodyLength_0 : decode cX11_melodyLength 0 = .ok (.iload_n 1, 1) := by decide +kernel
theorem dX11_melodyLength_1 : decode cX11_melodyLength 1 = .ok (.invokestatic 76, 3) := by decide +kernel
theorem dX11_melodyLength_4 : decode cX11_melodyLength 4 = .ok (.ifCond .eq 19, 3) := by decide +kernel
theorem dX11_melodyLength_7 : decode cX11_melodyLength 7 = .ok (.aload_n 0, 1) := by decide +kernel
theorem dX11_melodyLength_8 : decode cX11_melodyLength 8 = .ok (.aload_n 0, 1) := by decide +kernel
theorem dX11_melodyLength_9 : decode cX11_melodyLength 9 = .ok (.getfield 7, 3) := by decide +kernel
theorem dX11_melodyLength_12 : decode cX11_melodyLength 12 = .ok (.bipush 33, 2) := by decide +kernel
theorem dX11_melodyLength_14 : decode cX11_melodyLength 14 = .ok (.iload_n 1, 1) := by decide +kernel
theorem dX11_melodyLength_15 : decode cX11_melodyLength 15 = .ok (.iadd, 1) := by decide +kernel
theorem dX11_melodyLength_16 : decode cX11_melodyLength 16 = .ok (.iaload, 1) := by decide +kernel
theorem dX11_melodyLength_17 : decode cX11_melodyLength 17 = .ok (.invokevirtual 83, 3) := by decide +kernel
theorem dX11_melodyLength_20 : decode cX11_melodyLength 20 = .ok (.goto 8, 3) := by decide +kernel
theorem dX11_melodyLength_23 : decode cX11_melodyLength 23 = .ok (.aload_n 0, 1) := by decide +kernel
theorem dX11_melodyLength_24 : decode cX11_melodyLength 24 = .ok (.iconst 1, 1) := by decide +kernel
theorem dX11_melodyLength_25 : decode cX11_melodyLength 25 = .ok (.invokevirtual 80, 3) := by decide +kernel
theorem dX11_melodyLength_28 : decode cX11_melodyLength 28 = .ok (.ireturn, 1) := by decide +kernel
def f_X11_melodyLength (x_g : (Nat → Int32)) (x_thrown : Int32) (p1 : Int32) : Option (Int32 × Int32) :=
  q_bd (f_X11_isHerd p1) (fun q1 =>
  q_br (q1 = 0) (
  q_bd (f_X11_fails x_thrown 1) (fun q2 =>
  some (q2.1, q2.2))) (
  q_gd (q_in (33 + p1) 77) (
  q_bd (f_X11_done x_thrown (x_g ((33 + p1).toNatClampNeg))) (fun q4 =>
  some (q4.1, q4.2)))))
theorem hv_X11_melodyLength : yX11_melodyLength.cls = RX11 ∧ yX11_melodyLength.cls ≠ "java/lang/invoke/MethodHandle" ∧ yX11_melodyLength.cls ≠ "java/lang/invoke/VarHandle" ∧ (parseMethodDescriptor yX11_melodyLength.desc).map (fun d => d.parameters.length) = some 1 := by decide +kernel
abbrev rm_X11_melodyLength : Room := { frames := 2, cells := 0, slots := 0, locals := 42 }
set_option maxHeartbeats 4000000 in
set_option maxRecDepth 100000 in
theorem k_X11_melodyLength (l : Launch) (E : ET) (a : Nat → Nat) (o : Nat) (x : Model_t) (p1 : Int32) (res : Int32 × Int32) (hF : f_X11_melodyLength x.1.1 x.2.2.2.1 p1 = some res) (sz : Nat) : CtI l yX11_melodyLength (mws yX11_melodyLength cX11_melodyLength 2 (some .int)) rm_X11_melodyLength 0 0 [.ref (a o), .int p1] E (bl_Model E a o x) res.1 (bl_Model E a o ((x.1.1, x.1.2.1, x.1.2.2.1, x.1.2.2.2.1, x.1.2.2.2.2), (x.2.1.1, x.2.1.2.1, x.2.1.2.2.1, x.2.1.2.2.2.1, x.2.1.2.2.2.2), (x.2.2.1.1, x.2.2.1.2.1, x.2.2.1.2.2.1, x.2.2.1.2.2.2), (res.2, x.2.2.2.2.1, x.2.2.2.2.2.1, x.2.2.2.2.2.2))) sz := by
  refine mk_M (by decide +kernel) (Nat.le_of_ble_eq_true rfl) ?_
  intro p e s m below meth c A args Q ls hAe hsz hQ hx hb hr hml hin ha hown hlocks hA hz hzs hst hP hD hS hl
  have hown : s.vm.findClass RX11 = some m.cls := hown
  rw [hAe] at hQ
  subst hsz
  have hP : va_P E.1 vwCl (List.flatten [w_Model E a o x]) s.heap := hP
  have hD : va_D A (List.flatten [w_Model E a o x]) := hD
  have hl : lv_has ls 2 [(0, .ref (a o)), (1, .int p1)] := hl
  generalize hHe : s.heap = H at hP
  have hS : va_S A s.heap H [] := by rw [← hHe]; exact hS
  generalize ([] : List Loc) = locs at hS ⊢
  unfold f_X11_melodyLength at hF
  refine lv_iload_n hx hb dX11_melodyLength_0 rfl (lv_at hl 1 rfl) ?_
  obtain ⟨q1, hq1, hF⟩ := q_bdi hF
  refine cl_i (Lc := []) (Lc' := []) (L' := [w_Model E a o x]) (rv := q1) (va_runS (As := [.int p1]) (rest := []) ⟨hx, hb, hml, hown, ha⟩ (k_X11_isHerd l E p1 q1 hq1 H.size) (cwS 1 ha (gi_S (fun _ h => h) mw1710 mw1711 mw87 mw1712) rfl rfl rfl hv_X11_isHerd ⟨(Nat.le_of_ble_eq_true rfl), (Nat.le_of_ble_eq_true rfl)⟩) ⟨pre_blind, pre_at hP hD hS hz hzs hst [] (by decide) rfl rfl⟩ rfl rfl hl.1 rfl (lv_room (Nat.le_of_ble_eq_true rfl)) dX11_melodyLength_1 ⟨(Nat.le_of_ble_eq_true rfl), (Nat.le_of_ble_eq_true rfl)⟩) hP hD hS hA [] (by decide) rfl rfl rfl rfl (fun H locs hP hD hS => ?_)
  refine lv_if_eq (tgt := 23) hx hb dX11_melodyLength_4 (by decide) (fun c4 => ?_) (fun c4 => ?_)
  · have hF := q_brp c4 hF
    refine lv_aload_n hx hb dX11_melodyLength_23 rfl (lv_at hl 0 rfl) ?_
    refine lv_iconst (v := 1) hx hb dX11_melodyLength_24 (by decide) ?_
    obtain ⟨q2, hq2, hF⟩ := q_bdi hF
    refine cl_i (Lc := [w_Model E a o x]) (Lc' := [w_Model E a o ((x.1.1, x.1.2.1, x.1.2.2.1, x.1.2.2.2.1, x.1.2.2.2.2), (x.2.1.1, x.2.1.2.1, x.2.1.2.2.1, x.2.1.2.2.2.1, x.2.1.2.2.2.2), (x.2.2.1.1, x.2.2.1.2.1, x.2.2.1.2.2.1, x.2.2.1.2.2.2), (q2.2, x.2.2.2.2.1, x.2.2.2.2.2.1, x.2.2.2.2.2.2))]) (L' := [w_Model E a o ((x.1.1, x.1.2.1, x.1.2.2.1, x.1.2.2.2.1, x.1.2.2.2.2), (x.2.1.1, x.2.1.2.1, x.2.1.2.2.1, x.2.1.2.2.2.1, x.2.1.2.2.2.2), (x.2.2.1.1, x.2.2.1.2.1, x.2.2.1.2.2.1, x.2.2.1.2.2.2), (q2.2, x.2.2.2.2.1, x.2.2.2.2.2.1, x.2.2.2.2.2.2))]) (rv := q2.1) (va_runV (As := [.int 1]) (rest := []) ⟨hx, hb, hml, hown, ha⟩ (k_X11_fails l E a o x 1 q2 hq2 H.size) (cwV 1 ha (gi_V (fun _ h => h) mw1716 mw1718 mw29 mw87 mw1719) rfl rfl rfl hv_X11_fails ⟨(Nat.le_of_ble_eq_true rfl), (Nat.le_of_ble_eq_true rfl)⟩) ⟨pre_blind, va_recv hst.k (fr_P hP [0] rfl) (ci := 13) (q0 := 0) rfl rfl, pre_at hP hD hS hz hzs hst [0] (by decide) rfl rfl⟩ rfl rfl hl.1 rfl (lv_room (Nat.le_of_ble_eq_true rfl)) dX11_melodyLength_25 ⟨(Nat.le_of_ble_eq_true rfl), (Nat.le_of_ble_eq_true rfl)⟩) hP hD hS hA [0] (by decide) rfl rfl rfl rfl (fun H locs hP hD hS => ?_)
    obtain rfl := Option.some.inj hF
    exact en_i hQ (Nat.le_of_ble_eq_true rfl) (Nat.le_of_ble_eq_true rfl) hx hb hr hlocks hP hD hS rfl dX11_melodyLength_28
  · have hF := q_brn c4 hF
    refine lv_aload_n hx hb dX11_melodyLength_7 rfl (lv_at hl 0 rfl) ?_
    refine lv_aload_n hx hb dX11_melodyLength_8 rfl (lv_at hl 0 rfl) ?_
    refine va_get (D := E.1) (ci := 13) (v := .ref (a (o + 1))) (C := RX11) (T := TX11) (N := 18) hx hb ha in_X11 hown hst.k hP 0 rfl rfl 0 (by decide) (ha _ mw1636) (fun _ h9 => h9) rfl dX11_melodyLength_9 ?_
    refine lv_bipush (v := 33) hx hb dX11_melodyLength_12 (by decide) ?_
    refine lv_iload_n hx hb dX11_melodyLength_14 rfl (lv_at hl 1 rfl) ?_
    refine lv_iadd hx hb dX11_melodyLength_15 ?_
    obtain ⟨g3, hF⟩ := q_gdi hF
    refine vi_iald hx hb hst.k hP 1 0 rfl rfl (f := x.1.1) (k := (33 + p1).toNatClampNeg) rfl g3 dX11_melodyLength_16 ?_
    obtain ⟨q4, hq4, hF⟩ := q_bdi hF
    refine cl_i (Lc := [w_Model E a o x]) (Lc' := [w_Model E a o ((x.1.1, x.1.2.1, x.1.2.2.1, x.1.2.2.2.1, x.1.2.2.2.2), (x.2.1.1, x.2.1.2.1, x.2.1.2.2.1, x.2.1.2.2.2.1, x.2.1.2.2.2.2), (x.2.2.1.1, x.2.2.1.2.1, x.2.2.1.2.2.1, x.2.2.1.2.2.2), (q4.2, x.2.2.2.2.1, x.2.2.2.2.2.1, x.2.2.2.2.2.2))]) (L' := [w_Model E a o ((x.1.1, x.1.2.1, x.1.2.2.1, x.1.2.2.2.1, x.1.2.2.2.2), (x.2.1.1, x.2.1.2.1, x.2.1.2.2.1, x.2.1.2.2.2.1, x.2.1.2.2.2.2), (x.2.2.1.1, x.2.2.1.2.1, x.2.2.1.2.2.1, x.2.2.1.2.2.2), (q4.2, x.2.2.2.2.1, x.2.2.2.2.2.1, x.2.2.2.2.2.2))]) (rv := q4.1) (va_runV (As := [.int (x.1.1 ((33 + p1).toNatClampNeg))]) (rest := []) ⟨hx, hb, hml, hown, ha⟩ (k_X11_done l E a o x (x.1.1 ((33 + p1).toNatClampNeg)) q4 hq4 H.size) (cwV 1 ha (gi_V (fun _ h => h) mw1720 mw1722 mw30 mw87 mw1723) rfl rfl rfl hv_X11_done ⟨(Nat.le_of_ble_eq_true rfl), (Nat.le_of_ble_eq_true rfl)⟩) ⟨pre_blind, va_recv hst.k (fr_P hP [0] rfl) (ci := 13) (q0 := 0) rfl rfl, pre_at hP hD hS hz hzs hst [0] (by decide) rfl rfl⟩ rfl rfl hl.1 rfl (lv_room (Nat.le_of_ble_eq_true rfl)) dX11_melodyLength_17 ⟨(Nat.le_of_ble_eq_true rfl), (Nat.le_of_ble_eq_true rfl)⟩) hP hD hS hA [0] (by decide) rfl rfl rfl rfl (fun H locs hP hD hS => ?_)
    refine lv_goto (tgt := 28) hx hb dX11_melodyLength_20 (by decide) ?_
    obtain rfl := Option.some.inj hF
    exact en_i hQ (Nat.le_of_ble_eq_true rfl) (Nat.le_of_ble_eq_true rfl) hx hb hr hlocks hP hD hS rfl dX11_melodyLength_28

/-! X11_tone -/
theorem dX11_tone_0 : decode cX11_tone 0 = .ok (.iload_n 1, 1) := by decide +kernel
theorem dX11_tone_1 : decode cX11_tone 1 = .ok (.invokestatic 76, 3) := by decide +kernel
theorem dX11_tone_4 : decode cX11_tone 4 = .ok (.ifCond .ne 9, 3) := by decide +kernel
theorem dX11_tone_7 : decode cX11_tone 7 = .ok (.aload_n 0, 1) := by decide +kernel
theorem dX11_tone_8 : decode cX11_tone 8 = .ok (.iconst 1, 1) := by decide +kernel
theorem dX11_tone_9 : decode cX11_tone 9 = .ok (.invokevirtual 80, 3) := by decide +kernel
theorem dX11_tone_12 : decode cX11_tone 12 = .ok (.ireturn, 1) := by decide +kernel
theorem dX11_tone_13 : decode cX11_tone 13 = .ok (.iload_n 2, 1) := by decide +kernel
theorem dX11_tone_14 : decode cX11_tone 14 = .ok (.iconst 0, 1) := by decide +kernel
theorem dX11_tone_15 : decode cX11_tone 15 = .ok (.aload_n 0, 1) := by decide +kernel
theorem dX11_tone_16 : decode cX11_tone 16 = .ok (.getfield 7, 3) := by decide +kernel
theorem dX11_tone_19 : decode cX11_tone 19 = .ok (.bipush 33, 2) := by decide +kernel
theorem dX11_tone_21 : decode cX11_tone 21 = .ok (.iload_n 1, 1) := by decide +kernel
theorem dX11_tone_22 : decode cX11_tone 22 = .ok (.iadd, 1) := by decide +kernel
theorem dX11_tone_23 : decode cX11_tone 23 = .ok (.iaload, 1) := by decide +kernel
theorem dX11_tone_24 : decode cX11_tone 24 = .ok (.iconst 1, 1) := by decide +kernel
theorem dX11_tone_25 : decode cX11_tone 25 = .ok (.isub, 1) := by decide +kernel
theorem dX11_tone_26 : decode cX11_tone 26 = .ok (.invokestatic 52, 3) := by decide +kernel
theorem dX11_tone_29 : decode cX11_tone 29 = .ok (.ifCond .eq 16, 3) := by decide +kernel
theorem dX11_tone_32 : decode cX11_tone 32 = .ok (.aload_n 0, 1) := by decide +kernel
theorem dX11_tone_33 : decode cX11_tone 33 = .ok (.aload_n 0, 1) := by decide +kernel
theorem dX11_tone_34 : decode cX11_tone 34 = .ok (.iload_n 1, 1) := by decide +kernel
theorem dX11_tone_35 : decode cX11_tone 35 = .ok (.iload_n 2, 1) := by decide +kernel
theorem dX11_tone_36 : decode cX11_tone 36 = .ok (.invokevirtual 150, 3) := by decide +kernel
theorem dX11_tone_39 : decode cX11_tone 39 = .ok (.invokevirtual 83, 3) := by decide +kernel
theorem dX11_tone_42 : decode cX11_tone 42 = .ok (.goto 8, 3) := by decide +kernel
theorem dX11_tone_45 : decode cX11_tone 45 = .ok (.aload_n 0, 1) := by decide +kernel
theorem dX11_tone_46 : decode cX11_tone 46 = .ok (.iconst 2, 1) := by decide +kernel
theorem dX11_tone_47 : decode cX11_tone 47 = .ok (.invokevirtual 80, 3) := by decide +kernel
theorem dX11_tone_50 : decode cX11_tone 50 = .ok (.ireturn, 1) := by decide +kernel
def f_X11_tone (x_g : (Nat → Int32)) (x_thrown : Int32) (p1 : Int32) (p2 : Int32) : Option (Int32 × Int32) :=
  q_bd (f_X11_isHerd p1) (fun q1 =>
  q_br (q1 = 0) (
  q_bd (f_X11_fails x_thrown 1) (fun q7 =>
  some (q7.1, q7.2))) (
  q_gd (q_in (33 + p1) 77) (
  q_bd (f_X11_in p2 0 ((x_g ((33 + p1).toNatClampNeg)) - 1)) (fun q3 =>
  q_br (q3 = 0) (
  q_bd (f_X11_fails x_thrown 2) (fun q4 =>
  some (q4.1, q4.2))) (
  q_bd (f_X11_toneAt x_g p1 p2) (fun q5 =>
  q_bd (f_X11_done x_thrown q5) (fun q6 =>
  some (q6.1, q6.2))))))))
theorem hv_X11_tone : yX11_tone.cls = RX11 ∧ yX11_tone.cls ≠ "java/lang/invoke/MethodHandle" ∧ yX11_tone.cls ≠ "java/lang/invoke/VarHandle" ∧ (parseMethodDescriptor yX11_tone.desc).map (fun d => d.parameters.length) = some 2 := by decide +kernel
abbrev rm_X11_tone : Room := { frames := 2, cells := 0, slots := 0, locals := 42 }
set_option maxHeartbeats 4000000 in
set_option maxRecDepth 100000 in
theorem k_X11_tone (l : Launch) (E : ET) (a : Nat → Nat) (o : Nat) (x : Model_t) (p1 : Int32) (p2 : Int32) (res : Int32 × Int32) (hF : f_X11_tone x.1.1 x.2.2.2.1 p1 p2 = some res) (sz : Nat) : CtI l yX11_tone (mws yX11_tone cX11_tone 3 (some .int)) rm_X11_tone 0 0 [.ref (a o), .int p1, .int p2] E (bl_Model E a o x) res.1 (bl_Model E a o ((x.1.1, x.1.2.1, x.1.2.2.1, x.1.2.2.2.1, x.1.2.2.2.2), (x.2.1.1, x.2.1.2.1, x.2.1.2.2.1, x.2.1.2.2.2.1, x.2.1.2.2.2.2), (x.2.2.1.1, x.2.2.1.2.1, x.2.2.1.2.2.1, x.2.2.1.2.2.2), (res.2, x.2.2.2.2.1, x.2.2.2.2.2.1, x.2.2.2.2.2.2))) sz := by
  refine mk_M (by decide +kernel) (Nat.le_of_ble_eq_true rfl) ?_
  intro p e s m below meth c A args Q ls hAe hsz hQ hx hb hr hml hin ha hown hlocks hA hz hzs hst hP hD hS hl
  have hown : s.vm.findClass RX11 = some m.cls := hown
  rw [hAe] at hQ
  subst hsz
  have hP : va_P E.1 vwCl (List.flatten [w_Model E a o x]) s.heap := hP
  have hD : va_D A (List.flatten [w_Model E a o x]) := hD
  have hl : lv_has ls 3 [(0, .ref (a o)), (1, .int p1), (2, .int p2)] := hl
  generalize hHe : s.heap = H at hP
  have hS : va_S A s.heap H [] := by rw [← hHe]; exact hS
  generalize ([] : List Loc) = locs at hS ⊢
  unfold f_X11_tone at hF
  refine lv_iload_n hx hb dX11_tone_0 rfl (lv_at hl 1 rfl) ?_
  obtain ⟨q1, hq1, hF⟩ := q_bdi hF
  refine cl_i (Lc := []) (Lc' := []) (L' := [w_Model E a o x]) (rv := q1) (va_runS (As := [.int p1]) (rest := []) ⟨hx, hb, hml, hown, ha⟩ (k_X11_isHerd l E p1 q1 hq1 H.size) (cwS 1 ha (gi_S (fun _ h => h) mw1710 mw1711 mw87 mw1712) rfl rfl rfl hv_X11_isHerd ⟨(Nat.le_of_ble_eq_true rfl), (Nat.le_of_ble_eq_true rfl)⟩) ⟨pre_blind, pre_at hP hD hS hz hzs hst [] (by decide) rfl rfl⟩ rfl rfl hl.1 rfl (lv_room (Nat.le_of_ble_eq_true rfl)) dX11_tone_1 ⟨(Nat.le_of_ble_eq_true rfl), (Nat.le_of_ble_eq_true rfl)⟩) hP hD hS hA [] (by decide) rfl rfl rfl rfl (fun H locs hP hD hS => ?_)
  refine lv_if_ne (tgt := 13) hx hb dX11_tone_4 (by decide) (fun c4 => ?_) (fun c4 => ?_)
  · have hF := q_brn c4 hF
    refine lv_iload_n hx hb dX11_tone_13 rfl (lv_at hl 2 rfl) ?_
    refine lv_iconst (v := 0) hx hb dX11_tone_14 (by decide) ?_
    refine lv_aload_n hx hb dX11_tone_15 rfl (lv_at hl 0 rfl) ?_
    refine va_get (D := E.1) (ci := 13) (v := .ref (a (o + 1))) (C := RX11) (T := TX11) (N := 18) hx hb ha in_X11 hown hst.k hP 0 rfl rfl 0 (by decide) (ha _ mw1636) (fun _ h9 => h9) rfl dX11_tone_16 ?_
    refine lv_bipush (v := 33) hx hb dX11_tone_19 (by decide) ?_
    refine lv_iload_n hx hb dX11_tone_21 rfl (lv_at hl 1 rfl) ?_
    refine lv_iadd hx hb dX11_tone_22 ?_
    obtain ⟨g2, hF⟩ := q_gdi hF
    refine vi_iald hx hb hst.k hP 1 0 rfl rfl (f := x.1.1) (k := (33 + p1).toNatClampNeg) rfl g2 dX11_tone_23 ?_
    refine lv_iconst (v := 1) hx hb dX11_tone_24 (by decide) ?_
    refine lv_isub hx hb dX11_tone_25 ?_
    obtain ⟨q3, hq3, hF⟩ := q_bdi hF
    refine cl_i (Lc := []) (Lc' := []) (L' := [w_Model E a o x]) (rv := q3) (va_runS (As := [.int p2, .int 0, .int ((x.1.1 ((33 + p1).toNatClampNeg)) - 1)]) (rest := []) ⟨hx, hb, hml, hown, ha⟩ (k_X11_in l E p2 0 ((x.1.1 ((33 + p1).toNatClampNeg)) - 1) q3 hq3 H.size) (cwS 3 ha (gi_S (fun _ h => h) mw1713 mw1714 mw87 mw1715) rfl rfl rfl hv_X11_in ⟨(Nat.le_of_ble_eq_true rfl), (Nat.le_of_ble_eq_true rfl)⟩) ⟨pre_blind, pre_at hP hD hS hz hzs hst [] (by decide) rfl rfl⟩ rfl rfl hl.1 rfl (lv_room (Nat.le_of_ble_eq_true rfl)) dX11_tone_26 ⟨(Nat.le_of_ble_eq_true rfl), (Nat.le_of_ble_eq_true rfl)⟩) hP hD hS hA [] (by decide) rfl rfl rfl rfl (fun H locs hP hD hS => ?_)
    refine lv_if_eq (tgt := 45) hx hb dX11_tone_29 (by decide) (fun c29 => ?_) (fun c29 => ?_)
    · have hF := q_brp c29 hF
      refine lv_aload_n hx hb dX11_tone_45 rfl (lv_at hl 0 rfl) ?_
      refine lv_iconst (v := 2) hx hb dX11_tone_46 (by decide) ?_
      obtain ⟨q4, hq4, hF⟩ := q_bdi hF
      refine cl_i (Lc := [w_Model E a o x]) (Lc' := [w_Model E a o ((x.1.1, x.1.2.1, x.1.2.2.1, x.1.2.2.2.1, x.1.2.2.2.2), (x.2.1.1, x.2.1.2.1, x.2.1.2.2.1, x.2.1.2.2.2.1, x.2.1.2.2.2.2), (x.2.2.1.1, x.2.2.1.2.1, x.2.2.1.2.2.1, x.2.2.1.2.2.2), (q4.2, x.2.2.2.2.1, x.2.2.2.2.2.1, x.2.2.2.2.2.2))]) (L' := [w_Model E a o ((x.1.1, x.1.2.1, x.1.2.2.1, x.1.2.2.2.1, x.1.2.2.2.2), (x.2.1.1, x.2.1.2.1, x.2.1.2.2.1, x.2.1.2.2.2.1, x.2.1.2.2.2.2), (x.2.2.1.1, x.2.2.1.2.1, x.2.2.1.2.2.1, x.2.2.1.2.2.2), (q4.2, x.2.2.2.2.1, x.2.2.2.2.2.1, x.2.2.2.2.2.2))]) (rv := q4.1) (va_runV (As := [.int 2]) (rest := []) ⟨hx, hb, hml, hown, ha⟩ (k_X11_fails l E a o x 2 q4 hq4 H.size) (cwV 1 ha (gi_V (fun _ h => h) mw1716 mw1718 mw29 mw87 mw1719) rfl rfl rfl hv_X11_fails ⟨(Nat.le_of_ble_eq_true rfl), (Nat.le_of_ble_eq_true rfl)⟩) ⟨pre_blind, va_recv hst.k (fr_P hP [0] rfl) (ci := 13) (q0 := 0) rfl rfl, pre_at hP hD hS hz hzs hst [0] (by decide) rfl rfl⟩ rfl rfl hl.1 rfl (lv_room (Nat.le_of_ble_eq_true rfl)) dX11_tone_47 ⟨(Nat.le_of_ble_eq_true rfl), (Nat.le_of_ble_eq_true rfl)⟩) hP hD hS hA [0] (by decide) rfl rfl rfl rfl (fun H locs hP hD hS => ?_)
      obtain rfl := Option.some.inj hF
      exact en_i hQ (Nat.le_of_ble_eq_true rfl) (Nat.le_of_ble_eq_true rfl) hx hb hr hlocks hP hD hS rfl dX11_tone_50
    · have hF := q_brn c29 hF
      refine lv_aload_n hx hb dX11_tone_32 rfl (lv_at hl 0 rfl) ?_
      refine lv_aload_n hx hb dX11_tone_33 rfl (lv_at hl 0 rfl) ?_
      refine lv_iload_n hx hb dX11_tone_34 rfl (lv_at hl 1 rfl) ?_
      refine lv_iload_n hx hb dX11_tone_35 rfl (lv_at hl 2 rfl) ?_
      obtain ⟨q5, hq5, hF⟩ := q_bdi hF
      refine cl_i (Lc := [w_Model E a o x]) (Lc' := [w_Model E a o x]) (L' := [w_Model E a o x]) (rv := q5) (va_runV (As := [.int p1, .int p2]) (rest := [.ref (a o)]) ⟨hx, hb, hml, hown, ha⟩ (k_X11_toneAt l E a o x p1 p2 q5 hq5 H.size) (cwV 2 ha (gi_V (fun _ h => h) mw1938 mw1940 mw52 mw87 mw1941) rfl rfl rfl hv_X11_toneAt ⟨(Nat.le_of_ble_eq_true rfl), (Nat.le_of_ble_eq_true rfl)⟩) ⟨pre_blind, va_recv hst.k (fr_P hP [0] rfl) (ci := 13) (q0 := 0) rfl rfl, pre_at hP hD hS hz hzs hst [0] (by decide) rfl rfl⟩ rfl rfl hl.1 rfl (lv_room (Nat.le_of_ble_eq_true rfl)) dX11_tone_36 ⟨(Nat.le_of_ble_eq_true rfl), (Nat.le_of_ble_eq_true rfl)⟩) hP hD hS hA [0] (by decide) rfl rfl rfl rfl (fun H locs hP hD hS => ?_)
      obtain ⟨q6, hq6, hF⟩ := q_bdi hF
      refine cl_i (Lc := [w_Model E a o x]) (Lc' := [w_Model E a o ((x.1.1, x.1.2.1, x.1.2.2.1, x.1.2.2.2.1, x.1.2.2.2.2), (x.2.1.1, x.2.1.2.1, x.2.1.2.2.1, x.2.1.2.2.2.1, x.2.1.2.2.2.2), (x.2.2.1.1, x.2.2.1.2.1, x.2.2.1.2.2.1, x.2.2.1.2.2.2), (q6.2, x.2.2.2.2.1, x.2.2.2.2.2.1, x.2.2.2.2.2.2))]) (L' := [w_Model E a o ((x.1.1, x.1.2.1, x.1.2.2.1, x.1.2.2.2.1, x.1.2.2.2.2), (x.2.1.1, x.2.1.2.1, x.2.1.2.2.1, x.2.1.2.2.2.1, x.2.1.2.2.2.2), (x.2.2.1.1, x.2.2.1.2.1, x.2.2.1.2.2.1, x.2.2.1.2.2.2), (q6.2, x.2.2.2.2.1, x.2.2.2.2.2.1, x.2.2.2.2.2.2))]) (rv := q6.1) (va_runV (As := [.int q5]) (rest := []) ⟨hx, hb, hml, hown, ha⟩ (k_X11_done l E a o x q5 q6 hq6 H.size) (cwV 1 ha (gi_V (fun _ h => h) mw1720 mw1722 mw30 mw87 mw1723) rfl rfl rfl hv_X11_done ⟨(Nat.le_of_ble_eq_true rfl), (Nat.le_of_ble_eq_true rfl)⟩) ⟨pre_blind, va_recv hst.k (fr_P hP [0] rfl) (ci := 13) (q0 := 0) rfl rfl, pre_at hP hD hS hz hzs hst [0] (by decide) rfl rfl⟩ rfl rfl hl.1 rfl (lv_room (Nat.le_of_ble_eq_true rfl)) dX11_tone_39 ⟨(Nat.le_of_ble_eq_true rfl), (Nat.le_of_ble_eq_true rfl)⟩) hP hD hS hA [0] (by decide) rfl rfl rfl rfl (fun H locs hP hD hS => ?_)
      refine lv_goto (tgt := 50) hx hb dX11_tone_42 (by decide) ?_
      obtain rfl := Option.some.inj hF
      exact en_i hQ (Nat.le_of_ble_eq_true rfl) (Nat.le_of_ble_eq_true rfl) hx hb hr hlocks hP hD hS rfl dX11_tone_50
  · have hF := q_brp c4 hF
    refine lv_aload_n hx hb dX11_tone_7 rfl (lv_at hl 0 rfl) ?_
    refine lv_iconst (v := 1) hx hb dX11_tone_8 (by decide) ?_
    obtain ⟨q7, hq7, hF⟩ := q_bdi hF
    refine cl_i (Lc := [w_Model E a o x]) (Lc' := [w_Model E a o ((x.1.1, x.1.2.1, x.1.2.2.1, x.1.2.2.2.1, x.1.2.2.2.2), (x.2.1.1, x.2.1.2.1, x.2.1.2.2.1, x.2.1.2.2.2.1, x.2.1.2.2.2.2), (x.2.2.1.1, x.2.2.1.2.1, x.2.2.1.2.2.1, x.2.2.1.2.2.2), (q7.2, x.2.2.2.2.1, x.2.2.2.2.2.1, x.2.2.2.2.2.2))]) (L' := [w_Model E a o ((x.1.1, x.1.2.1, x.1.2.2.1, x.1.2.2.2.1, x.1.2.2.2.2), (x.2.1.1, x.2.1.2.1, x.2.1.2.2.1, x.2.1.2.2.2.1, x.2.1.2.2.2.2), (x.2.2.1.1, x.2.2.1.2.1, x.2.2.1.2.2.1, x.2.2.1.2.2.2), (q7.2, x.2.2.2.2.1, x.2.2.2.2.2.1, x.2.2.2.2.2.2))]) (rv := q7.1) (va_runV (As := [.int 1]) (rest := []) ⟨hx, hb, hml, hown, ha⟩ (k_X11_fails l E a o x 1 q7 hq7 H.size) (cwV 1 ha (gi_V (fun _ h => h) mw1716 mw1718 mw29 mw87 mw1719) rfl rfl rfl hv_X11_fails ⟨(Nat.le_of_ble_eq_true rfl), (Nat.le_of_ble_eq_true rfl)⟩) ⟨pre_blind, va_recv hst.k (fr_P hP [0] rfl) (ci := 13) (q0 := 0) rfl rfl, pre_at hP hD hS hz hzs hst [0] (by decide) rfl rfl⟩ rfl rfl hl.1 rfl (lv_room (Nat.le_of_ble_eq_true rfl)) dX11_tone_9 ⟨(Nat.le_of_ble_eq_true rfl), (Nat.le_of_ble_eq_true rfl)⟩) hP hD hS hA [0] (by decide) rfl rfl rfl rfl (fun H locs hP hD hS => ?_)
    obtain rfl := Option.some.inj hF
    exact en_i hQ (Nat.le_of_ble_eq_true rfl) (Nat.le_of_ble_eq_true rfl) hx hb hr hlocks hP hD hS rfl dX11_tone_12

/-! X11_entry -/
theorem dX11_entry_0 : decode cX11_entry 0 = .ok (.iload_n 1, 1) := by decide +kernel
theorem dX11_entry_1 : decode cX11_entry 1 = .ok (.invokestatic 76, 3) := by decide +kernel
theorem dX11_entry_4 : decode cX11_entry 4 = .ok (.ifCond .eq 19, 3) := by decide +kernel
theorem dX11_entry_7 : decode cX11_entry 7 = .ok (.aload_n 0, 1) := by decide +kernel
theorem dX11_entry_8 : decode cX11_entry 8 = .ok (.aload_n 0, 1) := by decide +kernel
theorem dX11_entry_9 : decode cX11_entry 9 = .ok (.getfield 7, 3) := by decide +kernel
theorem dX11_entry_12 : decode cX11_entry 12 = .ok (.bipush 29, 2) := by decide +kernel
theorem dX11_entry_14 : decode cX11_entry 14 = .ok (.iload_n 1, 1) := by decide +kernel
theorem dX11_entry_15 : decode cX11_entry 15 = .ok (.iadd, 1) := by decide +kernel
theorem dX11_entry_16 : decode cX11_entry 16 = .ok (.iaload, 1) := by decide +kernel
theorem dX11_entry_17 : decode cX11_entry 17 = .ok (.invokevirtual 83, 3) := by decide +kernel
theorem dX11_entry_20 : decode cX11_entry 20 = .ok (.goto 8, 3) := by decide +kernel
theorem dX11_entry_23 : decode cX11_entry 23 = .ok (.aload_n 0, 1) := by decide +kernel
theorem dX11_entry_24 : decode cX11_entry 24 = .ok (.iconst 1, 1) := by decide +kernel
theorem dX11_entry_25 : decode cX11_entry 25 = .ok (.invokevirtual 80, 3) := by decide +kernel
theorem dX11_entry_28 : decode cX11_entry 28 = .ok (.ireturn, 1) := by decide +kernel
def f_X11_entry (x_g : (Nat → Int32)) (x_thrown : Int32) (p1 : Int32) : Option (Int32 × Int32) :=
  q_bd (f_X11_isHerd p1) (fun q1 =>
  q_br (q1 = 0) (
  q_bd (f_X11_fails x_thrown 1) (fun q2 =>
  some (q2.1, q2.2))) (
  q_gd (q_in (29 + p1) 77) (
  q_bd (f_X11_done x_thrown (x_g ((29 + p1).toNatClampNeg))) (fun q4 =>
  some (q4.1, q4.2)))))
theorem hv_X11_entry : yX11_entry.cls = RX11 ∧ yX11_entry.cls ≠ "java/lang/invoke/MethodHandle" ∧ yX11_entry.cls ≠ "java/lang/invoke/VarHandle" ∧ (parseMethodDescriptor yX11_entry.desc).map (fun d => d.parameters.length) = some 1 := by decide +kernel
abbrev rm_X11_entry : Room := { frames := 2, cells := 0, slots := 0, locals := 42 }
set_option maxHeartbeats 4000000 in
set_option maxRecDepth 100000 in
theorem k_X11_entry (l : Launch) (E : ET) (a : Nat → Nat) (o : Nat) (x : Model_t) (p1 : Int32) (res : Int32 × Int32) (hF : f_X11_entry x.1.1 x.2.2.2.1 p1 = some res) (sz : Nat) : CtI l yX11_entry (mws yX11_entry cX11_entry 2 (some .int)) rm_X11_entry 0 0 [.ref (a o), .int p1] E (bl_Model E a o x) res.1 (bl_Model E a o ((x.1.1, x.1.2.1, x.1.2.2.1, x.1.2.2.2.1, x.1.2.2.2.2), (x.2.1.1, x.2.1.2.1, x.2.1.2.2.1, x.2.1.2.2.2.1, x.2.1.2.2.2.2), (x.2.2.1.1, x.2.2.1.2.1, x.2.2.1.2.2.1, x.2.2.1.2.2.2), (res.2, x.2.2.2.2.1, x.2.2.2.2.2.1, x.2.2.2.2.2.2))) sz := by
  refine mk_M (by decide +kernel) (Nat.le_of_ble_eq_true rfl) ?_
  intro p e s m below meth c A args Q ls hAe hsz hQ hx hb hr hml hin ha hown hlocks hA hz hzs hst hP hD hS hl
  have hown : s.vm.findClass RX11 = some m.cls := hown
  rw [hAe] at hQ
  subst hsz
  have hP : va_P E.1 vwCl (List.flatten [w_Model E a o x]) s.heap := hP
  have hD : va_D A (List.flatten [w_Model E a o x]) := hD
  have hl : lv_has ls 2 [(0, .ref (a o)), (1, .int p1)] := hl
  generalize hHe : s.heap = H at hP
  have hS : va_S A s.heap H [] := by rw [← hHe]; exact hS
  generalize ([] : List Loc) = locs at hS ⊢
  unfold f_X11_entry at hF
  refine lv_iload_n hx hb dX11_entry_0 rfl (lv_at hl 1 rfl) ?_
  obtain ⟨q1, hq1, hF⟩ := q_bdi hF
  refine cl_i (Lc := []) (Lc' := []) (L' := [w_Model E a o x]) (rv := q1) (va_runS (As := [.int p1]) (rest := []) ⟨hx, hb, hml, hown, ha⟩ (k_X11_isHerd l E p1 q1 hq1 H.size) (cwS 1 ha (gi_S (fun _ h => h) mw1710 mw1711 mw87 mw1712) rfl rfl rfl hv_X11_isHerd ⟨(Nat.le_of_ble_eq_true rfl), (Nat.le_of_ble_eq_true rfl)⟩) ⟨pre_blind, pre_at hP hD hS hz hzs hst [] (by decide) rfl rfl⟩ rfl rfl hl.1 rfl (lv_room (Nat.le_of_ble_eq_true rfl)) dX11_entry_1 ⟨(Nat.le_of_ble_eq_true rfl), (Nat.le_of_ble_eq_true rfl)⟩) hP hD hS hA [] (by decide) rfl rfl rfl rfl (fun H locs hP hD hS => ?_)
  refine lv_if_eq (tgt := 23) hx hb dX11_entry_4 (by decide) (fun c4 => ?_) (fun c4 => ?_)
  · have hF := q_brp c4 hF
    refine lv_aload_n hx hb dX11_entry_23 rfl (lv_at hl 0 rfl) ?_
    refine lv_iconst (v := 1) hx hb dX11_entry_24 (by decide) ?_
    obtain ⟨q2, hq2, hF⟩ := q_bdi hF
    refine cl_i (Lc := [w_Model E a o x]) (Lc' := [w_Model E a o ((x.1.1, x.1.2.1, x.1.2.2.1, x.1.2.2.2.1, x.1.2.2.2.2), (x.2.1.1, x.2.1.2.1, x.2.1.2.2.1, x.2.1.2.2.2.1, x.2.1.2.2.2.2), (x.2.2.1.1, x.2.2.1.2.1, x.2.2.1.2.2.1, x.2.2.1.2.2.2), (q2.2, x.2.2.2.2.1, x.2.2.2.2.2.1, x.2.2.2.2.2.2))]) (L' := [w_Model E a o ((x.1.1, x.1.2.1, x.1.2.2.1, x.1.2.2.2.1, x.1.2.2.2.2), (x.2.1.1, x.2.1.2.1, x.2.1.2.2.1, x.2.1.2.2.2.1, x.2.1.2.2.2.2), (x.2.2.1.1, x.2.2.1.2.1, x.2.2.1.2.2.1, x.2.2.1.2.2.2), (q2.2, x.2.2.2.2.1, x.2.2.2.2.2.1, x.2.2.2.2.2.2))]) (rv := q2.1) (va_runV (As := [.int 1]) (rest := []) ⟨hx, hb, hml, hown, ha⟩ (k_X11_fails l E a o x 1 q2 hq2 H.size) (cwV 1 ha (gi_V (fun _ h => h) mw1716 mw1718 mw29 mw87 mw1719) rfl rfl rfl hv_X11_fails ⟨(Nat.le_of_ble_eq_true rfl), (Nat.le_of_ble_eq_true rfl)⟩) ⟨pre_blind, va_recv hst.k (fr_P hP [0] rfl) (ci := 13) (q0 := 0) rfl rfl, pre_at hP hD hS hz hzs hst [0] (by decide) rfl rfl⟩ rfl rfl hl.1 rfl (lv_room (Nat.le_of_ble_eq_true rfl)) dX11_entry_25 ⟨(Nat.le_of_ble_eq_true rfl), (Nat.le_of_ble_eq_true rfl)⟩) hP hD hS hA [0] (by decide) rfl rfl rfl rfl (fun H locs hP hD hS => ?_)
    obtain rfl := Option.some.inj hF
    exact en_i hQ (Nat.le_of_ble_eq_true rfl) (Nat.le_of_ble_eq_true rfl) hx hb hr hlocks hP hD hS rfl dX11_entry_28
  · have hF := q_brn c4 hF
    refine lv_aload_n hx hb dX11_entry_7 rfl (lv_at hl 0 rfl) ?_
    refine lv_aload_n hx hb dX11_entry_8 rfl (lv_at hl 0 rfl) ?_
    refine va_get (D := E.1) (ci := 13) (v := .ref (a (o + 1))) (C := RX11) (T := TX11) (N := 18) hx hb ha in_X11 hown hst.k hP 0 rfl rfl 0 (by decide) (ha _ mw1636) (fun _ h9 => h9) rfl dX11_entry_9 ?_
    refine lv_bipush (v := 29) hx hb dX11_entry_12 (by decide) ?_
    refine lv_iload_n hx hb dX11_entry_14 rfl (lv_at hl 1 rfl) ?_
    refine lv_iadd hx hb dX11_entry_15 ?_
    obtain ⟨g3, hF⟩ := q_gdi hF
    refine vi_iald hx hb hst.k hP 1 0 rfl rfl (f := x.1.1) (k := (29 + p1).toNatClampNeg) rfl g3 dX11_entry_16 ?_
    obtain ⟨q4, hq4, hF⟩ := q_bdi hF
    refine cl_i (Lc := [w_Model E a o x]) (Lc' := [w_Model E a o ((x.1.1, x.1.2.1, x.1.2.2.1, x.1.2.2.2.1, x.1.2.2.2.2), (x.2.1.1, x.2.1.2.1, x.2.1.2.2.1, x.2.1.2.2.2.1, x.2.1.2.2.2.2), (x.2.2.1.1, x.2.2.1.2.1, x.2.2.1.2.2.1, x.2.2.1.2.2.2), (q4.2, x.2.2.2.2.1, x.2.2.2.2.2.1, x.2.2.2.2.2.2))]) (L' := [w_Model E a o ((x.1.1, x.1.2.1, x.1.2.2.1, x.1.2.2.2.1, x.1.2.2.2.2), (x.2.1.1, x.2.1.2.1, x.2.1.2.2.1, x.2.1.2.2.2.1, x.2.1.2.2.2.2), (x.2.2.1.1, x.2.2.1.2.1, x.2.2.1.2.2.1, x.2.2.1.2.2.2), (q4.2, x.2.2.2.2.1, x.2.2.2.2.2.1, x.2.2.2.2.2.2))]) (rv := q4.1) (va_runV (As := [.int (x.1.1 ((29 + p1).toNatClampNeg))]) (rest := []) ⟨hx, hb, hml, hown, ha⟩ (k_X11_done l E a o x (x.1.1 ((29 + p1).toNatClampNeg)) q4 hq4 H.size) (cwV 1 ha (gi_V (fun _ h => h) mw1720 mw1722 mw30 mw87 mw1723) rfl rfl rfl hv_X11_done ⟨(Nat.le_of_ble_eq_true rfl), (Nat.le_of_ble_eq_true rfl)⟩) ⟨pre_blind, va_recv hst.k (fr_P hP [0] rfl) (ci := 13) (q0 := 0) rfl rfl, pre_at hP hD hS hz hzs hst [0] (by decide) rfl rfl⟩ rfl rfl hl.1 rfl (lv_room (Nat.le_of_ble_eq_true rfl)) dX11_entry_17 ⟨(Nat.le_of_ble_eq_true rfl), (Nat.le_of_ble_eq_true rfl)⟩) hP hD hS hA [0] (by decide) rfl rfl rfl rfl (fun H locs hP hD hS => ?_)
    refine lv_goto (tgt := 28) hx hb dX11_entry_20 (by decide) ?_
    obtain rfl := Option.some.inj hF
    exact en_i hQ (Nat.le_of_ble_eq_true rfl) (Nat.le_of_ble_eq_true rfl) hx hb hr hlocks hP hD hS rfl dX11_entry_28

/-! X11_stepAt -/
theorem dX11_stepAt_0 : decode cX11_stepAt 0 = .ok (.aload_n 0, 1) := by decide +kernel
theorem dX11_stepAt_1 : decode cX11_stepAt 1 = .ok (.aload_n 0, 1) := by decide +kernel
theorem dX11_stepAt_2 : decode cX11_stepAt 2 = .ok (.iload_n 2, 1) := by decide +kernel
theorem dX11_stepAt_3 : decode cX11_stepAt 3 = .ok (.iload_n 3, 1) := by decide +kernel
theorem dX11_stepAt_4 : decode cX11_stepAt 4 = .ok (.invokevirtual 150, 3) := by decide +kernel
theorem dX11_stepAt_7 : decode cX11_stepAt 7 = .ok (.invokevirtual 60, 3) := by decide +kernel
theorem dX11_stepAt_10 : decode cX11_stepAt 10 = .ok (.aload_n 0, 1) := by decide +kernel
theorem dX11_stepAt_11 : decode cX11_stepAt 11 = .ok (.aload_n 0, 1) := by decide +kernel
theorem dX11_stepAt_12 : decode cX11_stepAt 12 = .ok (.iload_n 1, 1) := by decide +kernel
theorem dX11_stepAt_13 : decode cX11_stepAt 13 = .ok (.iload_n 3, 1) := by decide +kernel
theorem dX11_stepAt_14 : decode cX11_stepAt 14 = .ok (.invokevirtual 150, 3) := by decide +kernel
theorem dX11_stepAt_17 : decode cX11_stepAt 17 = .ok (.invokevirtual 60, 3) := by decide +kernel
theorem dX11_stepAt_20 : decode cX11_stepAt 20 = .ok (.isub, 1) := by decide +kernel
theorem dX11_stepAt_21 : decode cX11_stepAt 21 = .ok (.ireturn, 1) := by decide +kernel
def f_X11_stepAt (x_g : (Nat → Int32)) (p1 : Int32) (p2 : Int32) (p3 : Int32) : Option (Int32) :=
  q_bd (f_X11_toneAt x_g p2 p3) (fun q1 =>
  q_bd (f_X11_noteOf x_g q1) (fun q2 =>
  q_bd (f_X11_toneAt x_g p1 p3) (fun q3 =>
  q_bd (f_X11_noteOf x_g q3) (fun q4 =>
  some (q2 - q4)))))
theorem hv_X11_stepAt : yX11_stepAt.cls = RX11 ∧ yX11_stepAt.cls ≠ "java/lang/invoke/MethodHandle" ∧ yX11_stepAt.cls ≠ "java/lang/invoke/VarHandle" ∧ (parseMethodDescriptor yX11_stepAt.desc).map (fun d => d.parameters.length) = some 3 := by decide +kernel
abbrev rm_X11_stepAt : Room := { frames := 1, cells := 0, slots := 0, locals := 22 }
set_option maxHeartbeats 4000000 in
set_option maxRecDepth 100000 in
theorem k_X11_stepAt (l : Launch) (E : ET) (a : Nat → Nat) (o : Nat) (x : Model_t) (p1 : Int32) (p2 : Int32) (p3 : Int32) (res : Int32) (hF : f_X11_stepAt x.1.1 p1 p2 p3 = some res) (sz : Nat) : CtI l yX11_stepAt (mws yX11_stepAt cX11_stepAt 4 (some .int)) rm_X11_stepAt 0 0 [.ref (a o), .int p1, .int p2, .int p3] E (bl_Model E a o x) res (bl_Model E a o x) sz := by
  refine mk_M (by decide +kernel) (Nat.le_of_ble_eq_true rfl) ?_
  intro p e s m below meth c A args Q ls hAe hsz hQ hx hb hr hml hin ha hown hlocks hA hz hzs hst hP hD hS hl
  have hown : s.vm.findClass RX11 = some m.cls := hown
  rw [hAe] at hQ
  subst hsz
  have hP : va_P E.1 vwCl (List.flatten [w_Model E a o x]) s.heap := hP
  have hD : va_D A (List.flatten [w_Model E a o x]) := hD
  have hl : lv_has ls 4 [(0, .ref (a o)), (1, .int p1), (2, .int p2), (3, .int p3)] := hl
  generalize hHe : s.heap = H at hP
  have hS : va_S A s.heap H [] := by rw [← hHe]; exact hS
  generalize ([] : List Loc) = locs at hS ⊢
  unfold f_X11_stepAt at hF
  refine lv_aload_n hx hb dX11_stepAt_0 rfl (lv_at hl 0 rfl) ?_
  refine lv_aload_n hx hb dX11_stepAt_1 rfl (lv_at hl 0 rfl) ?_
  refine lv_iload_n hx hb dX11_stepAt_2 rfl (lv_at hl 2 rfl) ?_
  refine lv_iload_n hx hb dX11_stepAt_3 rfl (lv_at hl 3 rfl) ?_
  obtain ⟨q1, hq1, hF⟩ := q_bdi hF
  refine cl_i (Lc := [w_Model E a o x]) (Lc' := [w_Model E a o x]) (L' := [w_Model E a o x]) (rv := q1) (va_runV (As := [.int p2, .int p3]) (rest := [.ref (a o)]) ⟨hx, hb, hml, hown, ha⟩ (k_X11_toneAt l E a o x p2 p3 q1 hq1 H.size) (cwV 2 ha (gi_V (fun _ h => h) mw1938 mw1940 mw52 mw87 mw1941) rfl rfl rfl hv_X11_toneAt ⟨(Nat.le_of_ble_eq_true rfl), (Nat.le_of_ble_eq_true rfl)⟩) ⟨pre_blind, va_recv hst.k (fr_P hP [0] rfl) (ci := 13) (q0 := 0) rfl rfl, pre_at hP hD hS hz hzs hst [0] (by decide) rfl rfl⟩ rfl rfl hl.1 rfl (lv_room (Nat.le_of_ble_eq_true rfl)) dX11_stepAt_4 ⟨(Nat.le_of_ble_eq_true rfl), (Nat.le_of_ble_eq_true rfl)⟩) hP hD hS hA [0] (by decide) rfl rfl rfl rfl (fun H locs hP hD hS => ?_)
  obtain ⟨q2, hq2, hF⟩ := q_bdi hF
  refine cl_i (Lc := [w_Model E a o x]) (Lc' := [w_Model E a o x]) (L' := [w_Model E a o x]) (rv := q2) (va_runV (As := [.int q1]) (rest := []) ⟨hx, hb, hml, hown, ha⟩ (k_X11_noteOf l E a o x q1 q2 hq2 H.size) (cwV 1 ha (gi_V (fun _ h => h) mw1776 mw1778 mw40 mw87 mw1779) rfl rfl rfl hv_X11_noteOf ⟨(Nat.le_of_ble_eq_true rfl), (Nat.le_of_ble_eq_true rfl)⟩) ⟨pre_blind, va_recv hst.k (fr_P hP [0] rfl) (ci := 13) (q0 := 0) rfl rfl, pre_at hP hD hS hz hzs hst [0] (by decide) rfl rfl⟩ rfl rfl hl.1 rfl (lv_room (Nat.le_of_ble_eq_true rfl)) dX11_stepAt_7 ⟨(Nat.le_of_ble_eq_true rfl), (Nat.le_of_ble_eq_true rfl)⟩) hP hD hS hA [0] (by decide) rfl rfl rfl rfl (fun H locs hP hD hS => ?_)
  refine lv_aload_n hx hb dX11_stepAt_10 rfl (lv_at hl 0 rfl) ?_
  refine lv_aload_n hx hb dX11_stepAt_11 rfl (lv_at hl 0 rfl) ?_
  refine lv_iload_n hx hb dX11_stepAt_12 rfl (lv_at hl 1 rfl) ?_
  refine lv_iload_n hx hb dX11_stepAt_13 rfl (lv_at hl 3 rfl) ?_
  obtain ⟨q3, hq3, hF⟩ := q_bdi hF
  refine cl_i (Lc := [w_Model E a o x]) (Lc' := [w_Model E a o x]) (L' := [w_Model E a o x]) (rv := q3) (va_runV (As := [.int p1, .int p3]) (rest := [.ref (a o), .int q2]) ⟨hx, hb, hml, hown, ha⟩ (k_X11_toneAt l E a o x p1 p3 q3 hq3 H.size) (cwV 2 ha (gi_V (fun _ h => h) mw1938 mw1940 mw52 mw87 mw1941) rfl rfl rfl hv_X11_toneAt ⟨(Nat.le_of_ble_eq_true rfl), (Nat.le_of_ble_eq_true rfl)⟩) ⟨pre_blind, va_recv hst.k (fr_P hP [0] rfl) (ci := 13) (q0 := 0) rfl rfl, pre_at hP hD hS hz hzs hst [0] (by decide) rfl rfl⟩ rfl rfl hl.1 rfl (lv_room (Nat.le_of_ble_eq_true rfl)) dX11_stepAt_14 ⟨(Nat.le_of_ble_eq_true rfl), (Nat.le_of_ble_eq_true rfl)⟩) hP hD hS hA [0] (by decide) rfl rfl rfl rfl (fun H locs hP hD hS => ?_)
  obtain ⟨q4, hq4, hF⟩ := q_bdi hF
  refine cl_i (Lc := [w_Model E a o x]) (Lc' := [w_Model E a o x]) (L' := [w_Model E a o x]) (rv := q4) (va_runV (As := [.int q3]) (rest := [.int q2]) ⟨hx, hb, hml, hown, ha⟩ (k_X11_noteOf l E a o x q3 q4 hq4 H.size) (cwV 1 ha (gi_V (fun _ h => h) mw1776 mw1778 mw40 mw87 mw1779) rfl rfl rfl hv_X11_noteOf ⟨(Nat.le_of_ble_eq_true rfl), (Nat.le_of_ble_eq_true rfl)⟩) ⟨pre_blind, va_recv hst.k (fr_P hP [0] rfl) (ci := 13) (q0 := 0) rfl rfl, pre_at hP hD hS hz hzs hst [0] (by decide) rfl rfl⟩ rfl rfl hl.1 rfl (lv_room (Nat.le_of_ble_eq_true rfl)) dX11_stepAt_17 ⟨(Nat.le_of_ble_eq_true rfl), (Nat.le_of_ble_eq_true rfl)⟩) hP hD hS hA [0] (by decide) rfl rfl rfl rfl (fun H locs hP hD hS => ?_)
  refine lv_isub hx hb dX11_stepAt_20 ?_
  obtain rfl := Option.some.inj hF
  exact en_i hQ (Nat.le_of_ble_eq_true rfl) (Nat.le_of_ble_eq_true rfl) hx hb hr hlocks hP hD hS rfl dX11_stepAt_21

/-! X11_canonInterval -/
theorem dX11_canonInterval_0 : decode cX11_canonInterval 0 = .ok (.iload_n 1, 1) := by decide +kernel
theorem dX11_canonInterval_1 : decode cX11_canonInterval 1 = .ok (.invokestatic 76, 3) := by decide +kernel
theorem dX11_canonInterval_4 : decode cX11_canonInterval 4 = .ok (.ifCond .eq 10, 3) := by decide +kernel
theorem dX11_canonInterval_7 : decode cX11_canonInterval 7 = .ok (.iload_n 2, 1) := by decide +kernel
theorem dX11_canonInterval_8 : decode cX11_canonInterval 8 = .ok (.invokestatic 76, 3) := by decide +kernel
theorem dX11_canonInterval_11 : decode cX11_canonInterval 11 = .ok (.ifCond .ne 9, 3) := by decide +kernel
theorem dX11_canonInterval_14 : decode cX11_canonInterval 14 = .ok (.aload_n 0, 1) := by decide +kernel
theorem dX11_canonInterval_15 : decode cX11_canonInterval 15 = .ok (.iconst 1, 1) := by decide +kernel
theorem dX11_canonInterval_16 : decode cX11_canonInterval 16 = .ok (.invokevirtual 80, 3) := by decide +kernel
theorem dX11_canonInterval_19 : decode cX11_canonInterval 19 = .ok (.ireturn, 1) := by decide +kernel
theorem dX11_canonInterval_20 : decode cX11_canonInterval 20 = .ok (.aload_n 0, 1) := by decide +kernel
theorem dX11_canonInterval_21 : decode cX11_canonInterval 21 = .ok (.getfield 7, 3) := by decide +kernel
theorem dX11_canonInterval_24 : decode cX11_canonInterval 24 = .ok (.bipush 33, 2) := by decide +kernel
theorem dX11_canonInterval_26 : decode cX11_canonInterval 26 = .ok (.iload_n 1, 1) := by decide +kernel
theorem dX11_canonInterval_27 : decode cX11_canonInterval 27 = .ok (.iadd, 1) := by decide +kernel
theorem dX11_canonInterval_28 : decode cX11_canonInterval 28 = .ok (.iaload, 1) := by decide +kernel
theorem dX11_canonInterval_29 : decode cX11_canonInterval 29 = .ok (.istore_n 3, 1) := by decide +kernel
theorem dX11_canonInterval_30 : decode cX11_canonInterval 30 = .ok (.iload_n 3, 1) := by decide +kernel
theorem dX11_canonInterval_31 : decode cX11_canonInterval 31 = .ok (.ifCond .eq 16, 3) := by decide +kernel
theorem dX11_canonInterval_34 : decode cX11_canonInterval 34 = .ok (.iload_n 3, 1) := by decide +kernel
theorem dX11_canonInterval_35 : decode cX11_canonInterval 35 = .ok (.aload_n 0, 1) := by decide +kernel
theorem dX11_canonInterval_36 : decode cX11_canonInterval 36 = .ok (.getfield 7, 3) := by decide +kernel
theorem dX11_canonInterval_39 : decode cX11_canonInterval 39 = .ok (.bipush 33, 2) := by decide +kernel
theorem dX11_canonInterval_41 : decode cX11_canonInterval 41 = .ok (.iload_n 2, 1) := by decide +kernel
theorem dX11_canonInterval_42 : decode cX11_canonInterval 42 = .ok (.iadd, 1) := by decide +kernel
theorem dX11_canonInterval_43 : decode cX11_canonInterval 43 = .ok (.iaload, 1) := by decide +kernel
theorem dX11_canonInterval_44 : decode cX11_canonInterval 44 = .ok (.if_icmp .eq 9, 3) := by decide +kernel
theorem dX11_canonInterval_47 : decode cX11_canonInterval 47 = .ok (.aload_n 0, 1) := by decide +kernel
theorem dX11_canonInterval_48 : decode cX11_canonInterval 48 = .ok (.iconst 2, 1) := by decide +kernel
theorem dX11_canonInterval_49 : decode cX11_canonInterval 49 = .ok (.invokevirtual 80, 3) := by decide +kernel
theorem dX11_canonInterval_52 : decode cX11_canonInterval 52 = .ok (.ireturn, 1) := by decide +kernel
theorem dX11_canonInterval_53 : decode cX11_canonInterval 53 = .ok (.aload_n 0, 1) := by decide +kernel
theorem dX11_canonInterval_54 : decode cX11_canonInterval 54 = .ok (.iload_n 1, 1) := by decide +kernel
theorem dX11_canonInterval_55 : decode cX11_canonInterval 55 = .ok (.iload_n 2, 1) := by decide +kernel
theorem dX11_canonInterval_56 : decode cX11_canonInterval 56 = .ok (.iconst 0, 1) := by decide +kernel
theorem dX11_canonInterval_57 : decode cX11_canonInterval 57 = .ok (.invokevirtual 153, 3) := by decide +kernel
theorem dX11_canonInterval_60 : decode cX11_canonInterval 60 = .ok (.istore 4, 2) := by decide +kernel
theorem dX11_canonInterval_62 : decode cX11_canonInterval 62 = .ok (.iconst 1, 1) := by decide +kernel
theorem dX11_canonInterval_63 : decode cX11_canonInterval 63 = .ok (.istore 5, 2) := by decide +kernel
theorem dX11_canonInterval_65 : decode cX11_canonInterval 65 = .ok (.iload 5, 2) := by decide +kernel
theorem dX11_canonInterval_67 : decode cX11_canonInterval 67 = .ok (.iload_n 3, 1) := by decide +kernel
theorem dX11_canonInterval_68 : decode cX11_canonInterval 68 = .ok (.if_icmp .ge 28, 3) := by decide +kernel
theorem dX11_canonInterval_71 : decode cX11_canonInterval 71 = .ok (.aload_n 0, 1) := by decide +kernel
theorem dX11_canonInterval_72 : decode cX11_canonInterval 72 = .ok (.iload_n 1, 1) := by decide +kernel
theorem dX11_canonInterval_73 : decode cX11_canonInterval 73 = .ok (.iload_n 2, 1) := by decide +kernel
theorem dX11_canonInterval_74 : decode cX11_canonInterval 74 = .ok (.iload 5, 2) := by decide +kernel
theorem dX11_canonInterval_76 : decode cX11_canonInterval 76 = .ok (.invokevirtual 153, 3) := by decide +kernel
theorem dX11_canonInterval_79 : decode cX11_canonInterval 79 = .ok (.iload 4, 2) := by decide +kernel
theorem dX11_canonInterval_81 : decode cX11_canonInterval 81 = .ok (.if_icmp .eq 9, 3) := by decide +kernel
theorem dX11_canonInterval_84 : decode cX11_canonInterval 84 = .ok (.aload_n 0, 1) := by decide +kernel
theorem dX11_canonInterval_85 : decode cX11_canonInterval 85 = .ok (.iconst 2, 1) := by decide +kernel
theorem dX11_canonInterval_86 : decode cX11_canonInterval 86 = .ok (.invokevirtual 80, 3) := by decide +kernel
theorem dX11_canonInterval_89 : decode cX11_canonInterval 89 = .ok (.ireturn, 1) := by decide +kernel
theorem dX11_canonInterval_90 : decode cX11_canonInterval 90 = .ok (.iinc 5 1, 3) := by decide +kernel
theorem dX11_canonInterval_93 : decode cX11_canonInterval 93 = .ok (.goto (-28), 3) := by decide +kernel
theorem dX11_canonInterval_96 : decode cX11_canonInterval 96 = .ok (.aload_n 0, 1) := by decide +kernel
theorem dX11_canonInterval_97 : decode cX11_canonInterval 97 = .ok (.iload 4, 2) := by decide +kernel
theorem dX11_canonInterval_99 : decode cX11_canonInterval 99 = .ok (.invokevirtual 83, 3) := by decide +kernel
theorem dX11_canonInterval_102 : decode cX11_canonInterval 102 = .ok (.ireturn, 1) := by decide +kernel
def f_X11_canonInterval_L65 (x_g : (Nat → Int32)) (x_thrown : Int32) (p1 : Int32) (p2 : Int32) (v5 : Int32) (q8 : Int32) : Nat → Int32 → Option (Int32 × Int32)
  | 0, _ => none
  | n65 + 1, i9 =>
    q_br (v5 ≤ i9) (
  q_bd (f_X11_done x_thrown q8) (fun q10 =>
  some (q10.1, q10.2))) (
  q_bd (f_X11_stepAt x_g p1 p2 i9) (fun q11 =>
  q_br (q11 = q8) (
  q_lt (i9 + 1 : Int32) (fun v12 =>
  f_X11_canonInterval_L65 x_g x_thrown p1 p2 v5 q8 n65 v12)) (
  q_bd (f_X11_fails x_thrown 2) (fun q13 =>
  some (q13.1, q13.2)))))
def f_X11_canonInterval (x_g : (Nat → Int32)) (x_thrown : Int32) (p1 : Int32) (p2 : Int32) : Option (Int32 × Int32) :=
  q_bd (f_X11_isHerd p1) (fun q1 =>
  q_br (q1 = 0) (
  q_bd (f_X11_fails x_thrown 1) (fun q2 =>
  some (q2.1, q2.2))) (
  q_bd (f_X11_isHerd p2) (fun q3 =>
  q_br (q3 = 0) (
  q_bd (f_X11_fails x_thrown 1) (fun q15 =>
  some (q15.1, q15.2))) (
  q_gd (q_in (33 + p1) 77) (
  q_lt (x_g ((33 + p1).toNatClampNeg) : Int32) (fun v5 =>
  q_br (v5 = 0) (
  q_bd (f_X11_fails x_thrown 2) (fun q6 =>
  some (q6.1, q6.2))) (
  q_gd (q_in (33 + p2) 77) (
  q_br (v5 = (x_g ((33 + p2).toNatClampNeg))) (
  q_bd (f_X11_stepAt x_g p1 p2 0) (fun q8 =>
  f_X11_canonInterval_L65 x_g x_thrown p1 p2 v5 q8 2000 1)) (
  q_bd (f_X11_fails x_thrown 2) (fun q14 =>
  some (q14.1, q14.2)))))))))))
theorem hv_X11_canonInterval : yX11_canonInterval.cls = RX11 ∧ yX11_canonInterval.cls ≠ "java/lang/invoke/MethodHandle" ∧ yX11_canonInterval.cls ≠ "java/lang/invoke/VarHandle" ∧ (parseMethodDescriptor yX11_canonInterval.desc).map (fun d => d.parameters.length) = some 2 := by decide +kernel
abbrev rm_X11_canonInterval : Room := { frames := 2, cells := 0, slots := 0, locals := 45 }
set_option maxHeartbeats 4000000 in
set_option maxRecDepth 100000 in
theorem k_X11_canonInterval (l : Launch) (E : ET) (a : Nat → Nat) (o : Nat) (x : Model_t) (p1 : Int32) (p2 : Int32) (res : Int32 × Int32) (hF : f_X11_canonInterval x.1.1 x.2.2.2.1 p1 p2 = some res) (sz : Nat) : CtI l yX11_canonInterval (mws yX11_canonInterval cX11_canonInterval 6 (some .int)) rm_X11_canonInterval 0 0 [.ref (a o), .int p1, .int p2] E (bl_Model E a o x) res.1 (bl_Model E a o ((x.1.1, x.1.2.1, x.1.2.2.1, x.1.2.2.2.1, x.1.2.2.2.2), (x.2.1.1, x.2.1.2.1, x.2.1.2.2.1, x.2.1.2.2.2.1, x.2.1.2.2.2.2), (x.2.2.1.1, x.2.2.1.2.1, x.2.2.1.2.2.1, x.2.2.1.2.2.2), (res.2, x.2.2.2.2.1, x.2.2.2.2.2.1, x.2.2.2.2.2.2))) sz := by
  refine mk_M (by decide +kernel) (Nat.le_of_ble_eq_true rfl) ?_
  intro p e s m below meth c A args Q ls hAe hsz hQ hx hb hr hml hin ha hown hlocks hA hz hzs hst hP hD hS hl
  have hown : s.vm.findClass RX11 = some m.cls := hown
  rw [hAe] at hQ
  subst hsz
  have hP : va_P E.1 vwCl (List.flatten [w_Model E a o x]) s.heap := hP
  have hD : va_D A (List.flatten [w_Model E a o x]) := hD
  have hl : lv_has ls 6 [(0, .ref (a o)), (1, .int p1), (2, .int p2)] := hl
  generalize hHe : s.heap = H at hP
  have hS : va_S A s.heap H [] := by rw [← hHe]; exact hS
  generalize ([] : List Loc) = locs at hS ⊢
  unfold f_X11_canonInterval at hF
  refine lv_iload_n hx hb dX11_canonInterval_0 rfl (lv_at hl 1 rfl) ?_
  obtain ⟨q1, hq1, hF⟩ := q_bdi hF
  refine cl_i (Lc := []) (Lc' := []) (L' := [w_Model E a o x]) (rv := q1) (va_runS (As := [.int p1]) (rest := []) ⟨hx, hb, hml, hown, ha⟩ (k_X11_isHerd l E p1 q1 hq1 H.size) (cwS 1 ha (gi_S (fun _ h => h) mw1710 mw1711 mw87 mw1712) rfl rfl rfl hv_X11_isHerd ⟨(Nat.le_of_ble_eq_true rfl), (Nat.le_of_ble_eq_true rfl)⟩) ⟨pre_blind, pre_at hP hD hS hz hzs hst [] (by decide) rfl rfl⟩ rfl rfl hl.1 rfl (lv_room (Nat.le_of_ble_eq_true rfl)) dX11_canonInterval_1 ⟨(Nat.le_of_ble_eq_true rfl), (Nat.le_of_ble_eq_true rfl)⟩) hP hD hS hA [] (by decide) rfl rfl rfl rfl (fun H locs hP hD hS => ?_)
  refine lv_if_eq (tgt := 14) hx hb dX11_canonInterval_4 (by decide) (fun c4 => ?_) (fun c4 => ?_)
  · have hF := q_brp c4 hF
    refine lv_aload_n hx hb dX11_canonInterval_14 rfl (lv_at hl 0 rfl) ?_
    refine lv_iconst (v := 1) hx hb dX11_canonInterval_15 (by decide) ?_
    obtain ⟨q2, hq2, hF⟩ := q_bdi hF
    refine cl_i (Lc := [w_Model E a o x]) (Lc' := [w_Model E a o ((x.1.1, x.1.2.1, x.1.2.2.1, x.1.2.2.2.1, x.1.2.2.2.2), (x.2.1.1, x.2.1.2.1, x.2.1.2.2.1, x.2.1.2.2.2.1, x.2.1.2.2.2.2), (x.2.2.1.1, x.2.2.1.2.1, x.2.2.1.2.2.1, x.2.2.1.2.2.2), (q2.2, x.2.2.2.2.1, x.2.2.2.2.2.1, x.2.2.2.2.2.2))]) (L' := [w_Model E a o ((x.1.1, x.1.2.1, x.1.2.2.1, x.1.2.2.2.1, x.1.2.2.2.2), (x.2.1.1, x.2.1.2.1, x.2.1.2.2.1, x.2.1.2.2.2.1, x.2.1.2.2.2.2), (x.2.2.1.1, x.2.2.1.2.1, x.2.2.1.2.2.1, x.2.2.1.2.2.2), (q2.2, x.2.2.2.2.1, x.2.2.2.2.2.1, x.2.2.2.2.2.2))]) (rv := q2.1) (va_runV (As := [.int 1]) (rest := []) ⟨hx, hb, hml, hown, ha⟩ (k_X11_fails l E a o x 1 q2 hq2 H.size) (cwV 1 ha (gi_V (fun _ h => h) mw1716 mw1718 mw29 mw87 mw1719) rfl rfl rfl hv_X11_fails ⟨(Nat.le_of_ble_eq_true rfl), (Nat.le_of_ble_eq_true rfl)⟩) ⟨pre_blind, va_recv hst.k (fr_P hP [0] rfl) (ci := 13) (q0 := 0) rfl rfl, pre_at hP hD hS hz hzs hst [0] (by decide) rfl rfl⟩ rfl rfl hl.1 rfl (lv_room (Nat.le_of_ble_eq_true rfl)) dX11_canonInterval_16 ⟨(Nat.le_of_ble_eq_true rfl), (Nat.le_of_ble_eq_true rfl)⟩) hP hD hS hA [0] (by decide) rfl rfl rfl rfl (fun H locs hP hD hS => ?_)
    obtain rfl := Option.some.inj hF
    exact en_i hQ (Nat.le_of_ble_eq_true rfl) (Nat.le_of_ble_eq_true rfl) hx hb hr hlocks hP hD hS rfl dX11_canonInterval_19
  · have hF := q_brn c4 hF
    refine lv_iload_n hx hb dX11_canonInterval_7 rfl (lv_at hl 2 rfl) ?_
    obtain ⟨q3, hq3, hF⟩ := q_bdi hF
    refine cl_i (Lc := []) (Lc' := []) (L' := [w_Model E a o x]) (rv := q3) (va_runS (As := [.int p2]) (rest := []) ⟨hx, hb, hml, hown, ha⟩ (k_X11_isHerd l E p2 q3 hq3 H.size) (cwS 1 ha (gi_S (fun _ h => h) mw1710 mw1711 mw87 mw1712) rfl rfl rfl hv_X11_isHerd ⟨(Nat.le_of_ble_eq_true rfl), (Nat.le_of_ble_eq_true rfl)⟩) ⟨pre_blind, pre_at hP hD hS hz hzs hst [] (by decide) rfl rfl⟩ rfl rfl hl.1 rfl (lv_room (Nat.le_of_ble_eq_true rfl)) dX11_canonInterval_8 ⟨(Nat.le_of_ble_eq_true rfl), (Nat.le_of_ble_eq_true rfl)⟩) hP hD hS hA [] (by decide) rfl rfl rfl rfl (fun H locs hP hD hS => ?_)
    refine lv_if_ne (tgt := 20) hx hb dX11_canonInterval_11 (by decide) (fun c11 => ?_) (fun c11 => ?_)
    · have hF := q_brn c11 hF
      refine lv_aload_n hx hb dX11_canonInterval_20 rfl (lv_at hl 0 rfl) ?_
      refine va_get (D := E.1) (ci := 13) (v := .ref (a (o + 1))) (C := RX11) (T := TX11) (N := 18) hx hb ha in_X11 hown hst.k hP 0 rfl rfl 0 (by decide) (ha _ mw1636) (fun _ h9 => h9) rfl dX11_canonInterval_21 ?_
      refine lv_bipush (v := 33) hx hb dX11_canonInterval_24 (by decide) ?_
      refine lv_iload_n hx hb dX11_canonInterval_26 rfl (lv_at hl 1 rfl) ?_
      refine lv_iadd hx hb dX11_canonInterval_27 ?_
      obtain ⟨g4, hF⟩ := q_gdi hF
      refine vi_iald hx hb hst.k hP 1 0 rfl rfl (f := x.1.1) (k := (33 + p1).toNatClampNeg) rfl g4 dX11_canonInterval_28 ?_
      refine lv_topi (fun v5 ev5 => ?_)
      have hF := q_lti ev5 hF
      refine lv_istore_n (lv' := [(3, .int v5), (0, .ref (a o)), (1, .int p1), (2, .int p2)]) hx hb dX11_canonInterval_29 rfl hl (by decide) rfl (fun ls hl => ?_)
      refine lv_iload_n hx hb dX11_canonInterval_30 rfl (lv_at hl 0 rfl) ?_
      refine lv_if_eq (tgt := 47) hx hb dX11_canonInterval_31 (by decide) (fun c31 => ?_) (fun c31 => ?_)
      · have hF := q_brp c31 hF
        refine lv_aload_n hx hb dX11_canonInterval_47 rfl (lv_at hl 1 rfl) ?_
        refine lv_iconst (v := 2) hx hb dX11_canonInterval_48 (by decide) ?_
        obtain ⟨q6, hq6, hF⟩ := q_bdi hF
        refine cl_i (Lc := [w_Model E a o x]) (Lc' := [w_Model E a o ((x.1.1, x.1.2.1, x.1.2.2.1, x.1.2.2.2.1, x.1.2.2.2.2), (x.2.1.1, x.2.1.2.1, x.2.1.2.2.1, x.2.1.2.2.2.1, x.2.1.2.2.2.2), (x.2.2.1.1, x.2.2.1.2.1, x.2.2.1.2.2.1, x.2.2.1.2.2.2), (q6.2, x.2.2.2.2.1, x.2.2.2.2.2.1, x.2.2.2.2.2.2))]) (L' := [w_Model E a o ((x.1.1, x.1.2.1, x.1.2.2.1, x.1.2.2.2.1, x.1.2.2.2.2), (x.2.1.1, x.2.1.2.1, x.2.1.2.2.1, x.2.1.2.2.2.1, x.2.1.2.2.2.2), (x.2.2.1.1, x.2.2.1.2.1, x.2.2.1.2.2.1, x.2.2.1.2.2.2), (q6.2, x.2.2.2.2.1, x.2.2.2.2.2.1, x.2.2.2.2.2.2))]) (rv := q6.1) (va_runV (As := [.int 2]) (rest := []) ⟨hx, hb, hml, hown, ha⟩ (k_X11_fails l E a o x 2 q6 hq6 H.size) (cwV 1 ha (gi_V (fun _ h => h) mw1716 mw1718 mw29 mw87 mw1719) rfl rfl rfl hv_X11_fails ⟨(Nat.le_of_ble_eq_true rfl), (Nat.le_of_ble_eq_true rfl)⟩) ⟨pre_blind, va_recv hst.k (fr_P hP [0] rfl) (ci := 13) (q0 := 0) rfl rfl, pre_at hP hD hS hz hzs hst [0] (by decide) rfl rfl⟩ rfl rfl hl.1 rfl (lv_room (Nat.le_of_ble_eq_true rfl)) dX11_canonInterval_49 ⟨(Nat.le_of_ble_eq_true rfl), (Nat.le_of_ble_eq_true rfl)⟩) hP hD hS hA [0] (by decide) rfl rfl rfl rfl (fun H locs hP hD hS => ?_)
        obtain rfl := Option.some.inj hF
        exact en_i hQ (Nat.le_of_ble_eq_true rfl) (Nat.le_of_ble_eq_true rfl) hx hb hr hlocks hP hD hS rfl dX11_canonInterval_52
      · have hF := q_brn c31 hF
        refine lv_iload_n hx hb dX11_canonInterval_34 rfl (lv_at hl 0 rfl) ?_
        refine lv_aload_n hx hb dX11_canonInterval_35 rfl (lv_at hl 1 rfl) ?_
        refine va_get (D := E.1) (ci := 13) (v := .ref (a (o + 1))) (C := RX11) (T := TX11) (N := 18) hx hb ha in_X11 hown hst.k hP 0 rfl rfl 0 (by decide) (ha _ mw1636) (fun _ h9 => h9) rfl dX11_canonInterval_36 ?_
        refine lv_bipush (v := 33) hx hb dX11_canonInterval_39 (by decide) ?_
        refine lv_iload_n hx hb dX11_canonInterval_41 rfl (lv_at hl 3 rfl) ?_
        refine lv_iadd hx hb dX11_canonInterval_42 ?_
        obtain ⟨g7, hF⟩ := q_gdi hF
        refine vi_iald hx hb hst.k hP 1 0 rfl rfl (f := x.1.1) (k := (33 + p2).toNatClampNeg) rfl g7 dX11_canonInterval_43 ?_
        refine lv_icmp_eq (tgt := 53) hx hb dX11_canonInterval_44 (by decide) (fun c44 => ?_) (fun c44 => ?_)
        · have hF := q_brp c44 hF
          refine lv_aload_n hx hb dX11_canonInterval_53 rfl (lv_at hl 1 rfl) ?_
          refine lv_iload_n hx hb dX11_canonInterval_54 rfl (lv_at hl 2 rfl) ?_
          refine lv_iload_n hx hb dX11_canonInterval_55 rfl (lv_at hl 3 rfl) ?_
          refine lv_iconst (v := 0) hx hb dX11_canonInterval_56 (by decide) ?_
          obtain ⟨q8, hq8, hF⟩ := q_bdi hF
          refine cl_i (Lc := [w_Model E a o x]) (Lc' := [w_Model E a o x]) (L' := [w_Model E a o x]) (rv := q8) (va_runV (As := [.int p1, .int p2, .int 0]) (rest := []) ⟨hx, hb, hml, hown, ha⟩ (k_X11_stepAt l E a o x p1 p2 0 q8 hq8 H.size) (cwV 3 ha (gi_V (fun _ h => h) mw1950 mw1952 mw53 mw87 mw1953) rfl rfl rfl hv_X11_stepAt ⟨(Nat.le_of_ble_eq_true rfl), (Nat.le_of_ble_eq_true rfl)⟩) ⟨pre_blind, va_recv hst.k (fr_P hP [0] rfl) (ci := 13) (q0 := 0) rfl rfl, pre_at hP hD hS hz hzs hst [0] (by decide) rfl rfl⟩ rfl rfl hl.1 rfl (lv_room (Nat.le_of_ble_eq_true rfl)) dX11_canonInterval_57 ⟨(Nat.le_of_ble_eq_true rfl), (Nat.le_of_ble_eq_true rfl)⟩) hP hD hS hA [0] (by decide) rfl rfl rfl rfl (fun H locs hP hD hS => ?_)
          refine lv_istore (lv' := [(4, .int q8), (3, .int v5), (0, .ref (a o)), (1, .int p1), (2, .int p2)]) hx hb dX11_canonInterval_60 hl (by decide) rfl (fun ls hl => ?_)
          refine lv_iconst (v := 1) hx hb dX11_canonInterval_62 (by decide) ?_
          refine lv_istore (lv' := [(5, .int 1), (4, .int q8), (3, .int v5), (0, .ref (a o)), (1, .int p1), (2, .int p2)]) hx hb dX11_canonInterval_63 hl (by decide) rfl (fun ls hl => ?_)
          have key65 : ∀ (n : Nat) (i9 : Int32) (H : Heap) (locs : List Loc) (ls : Array Slot), f_X11_canonInterval_L65 x.1.1 x.2.2.2.1 p1 p2 v5 q8 n i9 = some res → va_P E.1 vwCl (List.flatten [w_Model E a o x]) H → va_D A (List.flatten [w_Model E a o x]) → va_S A s.heap H locs → lv_has ls 6 [(5, .int i9), (4, .int q8), (3, .int v5), (0, .ref (a o)), (1, .int p1), (2, .int p2)] → W p l e rm_X11_canonInterval s m args below meth c H locs 0 0 Q (F0 m 65 ls []) := by
            intro n65
            induction n65 with
            | zero => intro i9 H locs ls hF; exact absurd hF (by simp [f_X11_canonInterval_L65])
            | succ n65 ih65 =>
              intro i9 H locs ls hF hP hD hS hl
              rw [f_X11_canonInterval_L65] at hF
              refine lv_iload hx hb dX11_canonInterval_65 (lv_at hl 0 rfl) ?_
              refine lv_iload_n hx hb dX11_canonInterval_67 rfl (lv_at hl 2 rfl) ?_
              refine lv_icmp_ge (tgt := 96) hx hb dX11_canonInterval_68 (by decide) (fun c68 => ?_) (fun c68 => ?_)
              · have hF := q_brp c68 hF
                refine lv_aload_n hx hb dX11_canonInterval_96 rfl (lv_at hl 3 rfl) ?_
                refine lv_iload hx hb dX11_canonInterval_97 (lv_at hl 1 rfl) ?_
                obtain ⟨q10, hq10, hF⟩ := q_bdi hF
                refine cl_i (Lc := [w_Model E a o x]) (Lc' := [w_Model E a o ((x.1.1, x.1.2.1, x.1.2.2.1, x.1.2.2.2.1, x.1.2.2.2.2), (x.2.1.1, x.2.1.2.1, x.2.1.2.2.1, x.2.1.2.2.2.1, x.2.1.2.2.2.2), (x.2.2.1.1, x.2.2.1.2.1, x.2.2.1.2.2.1, x.2.2.1.2.2.2), (q10.2, x.2.2.2.2.1, x.2.2.2.2.2.1, x.2.2.2.2.2.2))]) (L' := [w_Model E a o ((x.1.1, x.1.2.1, x.1.2.2.1, x.1.2.2.2.1, x.1.2.2.2.2), (x.2.1.1, x.2.1.2.1, x.2.1.2.2.1, x.2.1.2.2.2.1, x.2.1.2.2.2.2), (x.2.2.1.1, x.2.2.1.2.1, x.2.2.1.2.2.1, x.2.2.1.2.2.2), (q10.2, x.2.2.2.2.1, x.2.2.2.2.2.1, x.2.2.2.2.2.2))]) (rv := q10.1) (va_runV (As := [.int q8]) (rest := []) ⟨hx, hb, hml, hown, ha⟩ (k_X11_done l E a o x q8 q10 hq10 H.size) (cwV 1 ha (gi_V (fun _ h => h) mw1720 mw1722 mw30 mw87 mw1723) rfl rfl rfl hv_X11_done ⟨(Nat.le_of_ble_eq_true rfl), (Nat.le_of_ble_eq_true rfl)⟩) ⟨pre_blind, va_recv hst.k (fr_P hP [0] rfl) (ci := 13) (q0 := 0) rfl rfl, pre_at hP hD hS hz hzs hst [0] (by decide) rfl rfl⟩ rfl rfl hl.1 rfl (lv_room (Nat.le_of_ble_eq_true rfl)) dX11_canonInterval_99 ⟨(Nat.le_of_ble_eq_true rfl), (Nat.le_of_ble_eq_true rfl)⟩) hP hD hS hA [0] (by decide) rfl rfl rfl rfl (fun H locs hP hD hS => ?_)
                obtain rfl := Option.some.inj hF
                exact en_i hQ (Nat.le_of_ble_eq_true rfl) (Nat.le_of_ble_eq_true rfl) hx hb hr hlocks hP hD hS rfl dX11_canonInterval_102
              · have hF := q_brn c68 hF
                refine lv_aload_n hx hb dX11_canonInterval_71 rfl (lv_at hl 3 rfl) ?_
                refine lv_iload_n hx hb dX11_canonInterval_72 rfl (lv_at hl 4 rfl) ?_
                refine lv_iload_n hx hb dX11_canonInterval_73 rfl (lv_at hl 5 rfl) ?_
                refine lv_iload hx hb dX11_canonInterval_74 (lv_at hl 0 rfl) ?_
                obtain ⟨q11, hq11, hF⟩ := q_bdi hF
                refine cl_i (Lc := [w_Model E a o x]) (Lc' := [w_Model E a o x]) (L' := [w_Model E a o x]) (rv := q11) (va_runV (As := [.int p1, .int p2, .int i9]) (rest := []) ⟨hx, hb, hml, hown, ha⟩ (k_X11_stepAt l E a o x p1 p2 i9 q11 hq11 H.size) (cwV 3 ha (gi_V (fun _ h => h) mw1950 mw1952 mw53 mw87 mw1953) rfl rfl rfl hv_X11_stepAt ⟨(Nat.le_of_ble_eq_true rfl), (Nat.le_of_ble_eq_true rfl)⟩) ⟨pre_blind, va_recv hst.k (fr_P hP [0] rfl) (ci := 13) (q0 := 0) rfl rfl, pre_at hP hD hS hz hzs hst [0] (by decide) rfl rfl⟩ rfl rfl hl.1 rfl (lv_room (Nat.le_of_ble_eq_true rfl)) dX11_canonInterval_76 ⟨(Nat.le_of_ble_eq_true rfl), (Nat.le_of_ble_eq_true rfl)⟩) hP hD hS hA [0] (by decide) rfl rfl rfl rfl (fun H locs hP hD hS => ?_)
                refine lv_iload hx hb dX11_canonInterval_79 (lv_at hl 1 rfl) ?_
                refine lv_icmp_eq (tgt := 90) hx hb dX11_canonInterval_81 (by decide) (fun c81 => ?_) (fun c81 => ?_)
                · have hF := q_brp c81 hF
                  obtain ⟨v12, ev12⟩ : ∃ y : Int32, y = i9 + 1 := ⟨_, rfl⟩
                  have hF := q_lti ev12 hF
                  refine lv_iinc (v := v12) (lv' := [(5, .int v12), (4, .int q8), (3, .int v5), (0, .ref (a o)), (1, .int p1), (2, .int p2)]) hx hb dX11_canonInterval_90 hl (k := 0) rfl (by rw [ev12]; rfl) (by decide) rfl (fun ls hl => ?_)
                  refine lv_goto (tgt := 65) hx hb dX11_canonInterval_93 (by decide) ?_
                  exact ih65 v12 H locs ls hF hP hD hS (lv_sub hl [0, 1, 2, 3, 4, 5] rfl)
                · have hF := q_brn c81 hF
                  refine lv_aload_n hx hb dX11_canonInterval_84 rfl (lv_at hl 3 rfl) ?_
                  refine lv_iconst (v := 2) hx hb dX11_canonInterval_85 (by decide) ?_
                  obtain ⟨q13, hq13, hF⟩ := q_bdi hF
                  refine cl_i (Lc := [w_Model E a o x]) (Lc' := [w_Model E a o ((x.1.1, x.1.2.1, x.1.2.2.1, x.1.2.2.2.1, x.1.2.2.2.2), (x.2.1.1, x.2.1.2.1, x.2.1.2.2.1, x.2.1.2.2.2.1, x.2.1.2.2.2.2), (x.2.2.1.1, x.2.2.1.2.1, x.2.2.1.2.2.1, x.2.2.1.2.2.2), (q13.2, x.2.2.2.2.1, x.2.2.2.2.2.1, x.2.2.2.2.2.2))]) (L' := [w_Model E a o ((x.1.1, x.1.2.1, x.1.2.2.1, x.1.2.2.2.1, x.1.2.2.2.2), (x.2.1.1, x.2.1.2.1, x.2.1.2.2.1, x.2.1.2.2.2.1, x.2.1.2.2.2.2), (x.2.2.1.1, x.2.2.1.2.1, x.2.2.1.2.2.1, x.2.2.1.2.2.2), (q13.2, x.2.2.2.2.1, x.2.2.2.2.2.1, x.2.2.2.2.2.2))]) (rv := q13.1) (va_runV (As := [.int 2]) (rest := []) ⟨hx, hb, hml, hown, ha⟩ (k_X11_fails l E a o x 2 q13 hq13 H.size) (cwV 1 ha (gi_V (fun _ h => h) mw1716 mw1718 mw29 mw87 mw1719) rfl rfl rfl hv_X11_fails ⟨(Nat.le_of_ble_eq_true rfl), (Nat.le_of_ble_eq_true rfl)⟩) ⟨pre_blind, va_recv hst.k (fr_P hP [0] rfl) (ci := 13) (q0 := 0) rfl rfl, pre_at hP hD hS hz hzs hst [0] (by decide) rfl rfl⟩ rfl rfl hl.1 rfl (lv_room (Nat.le_of_ble_eq_true rfl)) dX11_canonInterval_86 ⟨(Nat.le_of_ble_eq_true rfl), (Nat.le_of_ble_eq_true rfl)⟩) hP hD hS hA [0] (by decide) rfl rfl rfl rfl (fun H locs hP hD hS => ?_)
                  obtain rfl := Option.some.inj hF
                  exact en_i hQ (Nat.le_of_ble_eq_true rfl) (Nat.le_of_ble_eq_true rfl) hx hb hr hlocks hP hD hS rfl dX11_canonInterval_89
          exact key65 _ 1 H locs ls hF hP hD hS (lv_sub hl [0, 1, 2, 3, 4, 5] rfl)
        · have hF := q_brn c44 hF
          refine lv_aload_n hx hb dX11_canonInterval_47 rfl (lv_at hl 1 rfl) ?_
          refine lv_iconst (v := 2) hx hb dX11_canonInterval_48 (by decide) ?_
          obtain ⟨q14, hq14, hF⟩ := q_bdi hF
          refine cl_i (Lc := [w_Model E a o x]) (Lc' := [w_Model E a o ((x.1.1, x.1.2.1, x.1.2.2.1, x.1.2.2.2.1, x.1.2.2.2.2), (x.2.1.1, x.2.1.2.1, x.2.1.2.2.1, x.2.1.2.2.2.1, x.2.1.2.2.2.2), (x.2.2.1.1, x.2.2.1.2.1, x.2.2.1.2.2.1, x.2.2.1.2.2.2), (q14.2, x.2.2.2.2.1, x.2.2.2.2.2.1, x.2.2.2.2.2.2))]) (L' := [w_Model E a o ((x.1.1, x.1.2.1, x.1.2.2.1, x.1.2.2.2.1, x.1.2.2.2.2), (x.2.1.1, x.2.1.2.1, x.2.1.2.2.1, x.2.1.2.2.2.1, x.2.1.2.2.2.2), (x.2.2.1.1, x.2.2.1.2.1, x.2.2.1.2.2.1, x.2.2.1.2.2.2), (q14.2, x.2.2.2.2.1, x.2.2.2.2.2.1, x.2.2.2.2.2.2))]) (rv := q14.1) (va_runV (As := [.int 2]) (rest := []) ⟨hx, hb, hml, hown, ha⟩ (k_X11_fails l E a o x 2 q14 hq14 H.size) (cwV 1 ha (gi_V (fun _ h => h) mw1716 mw1718 mw29 mw87 mw1719) rfl rfl rfl hv_X11_fails ⟨(Nat.le_of_ble_eq_true rfl), (Nat.le_of_ble_eq_true rfl)⟩) ⟨pre_blind, va_recv hst.k (fr_P hP [0] rfl) (ci := 13) (q0 := 0) rfl rfl, pre_at hP hD hS hz hzs hst [0] (by decide) rfl rfl⟩ rfl rfl hl.1 rfl (lv_room (Nat.le_of_ble_eq_true rfl)) dX11_canonInterval_49 ⟨(Nat.le_of_ble_eq_true rfl), (Nat.le_of_ble_eq_true rfl)⟩) hP hD hS hA [0] (by decide) rfl rfl rfl rfl (fun H locs hP hD hS => ?_)
          obtain rfl := Option.some.inj hF
          exact en_i hQ (Nat.le_of_ble_eq_true rfl) (Nat.le_of_ble_eq_true rfl) hx hb hr hlocks hP hD hS rfl dX11_canonInterval_52
    · have hF := q_brp c11 hF
      refine lv_aload_n hx hb dX11_canonInterval_14 rfl (lv_at hl 0 rfl) ?_
      refine lv_iconst (v := 1) hx hb dX11_canonInterval_15 (by decide) ?_
      obtain ⟨q15, hq15, hF⟩ := q_bdi hF
      refine cl_i (Lc := [w_Model E a o x]) (Lc' := [w_Model E a o ((x.1.1, x.1.2.1, x.1.2.2.1, x.1.2.2.2.1, x.1.2.2.2.2), (x.2.1.1, x.2.1.2.1, x.2.1.2.2.1, x.2.1.2.2.2.1, x.2.1.2.2.2.2), (x.2.2.1.1, x.2.2.1.2.1, x.2.2.1.2.2.1, x.2.2.1.2.2.2), (q15.2, x.2.2.2.2.1, x.2.2.2.2.2.1, x.2.2.2.2.2.2))]) (L' := [w_Model E a o ((x.1.1, x.1.2.1, x.1.2.2.1, x.1.2.2.2.1, x.1.2.2.2.2), (x.2.1.1, x.2.1.2.1, x.2.1.2.2.1, x.2.1.2.2.2.1, x.2.1.2.2.2.2), (x.2.2.1.1, x.2.2.1.2.1, x.2.2.1.2.2.1, x.2.2.1.2.2.2), (q15.2, x.2.2.2.2.1, x.2.2.2.2.2.1, x.2.2.2.2.2.2))]) (rv := q15.1) (va_runV (As := [.int 1]) (rest := []) ⟨hx, hb, hml, hown, ha⟩ (k_X11_fails l E a o x 1 q15 hq15 H.size) (cwV 1 ha (gi_V (fun _ h => h) mw1716 mw1718 mw29 mw87 mw1719) rfl rfl rfl hv_X11_fails ⟨(Nat.le_of_ble_eq_true rfl), (Nat.le_of_ble_eq_true rfl)⟩) ⟨pre_blind, va_recv hst.k (fr_P hP [0] rfl) (ci := 13) (q0 := 0) rfl rfl, pre_at hP hD hS hz hzs hst [0] (by decide) rfl rfl⟩ rfl rfl hl.1 rfl (lv_room (Nat.le_of_ble_eq_true rfl)) dX11_canonInterval_16 ⟨(Nat.le_of_ble_eq_true rfl), (Nat.le_of_ble_eq_true rfl)⟩) hP hD hS hA [0] (by decide) rfl rfl rfl rfl (fun H locs hP hD hS => ?_)
      obtain rfl := Option.some.inj hF
      exact en_i hQ (Nat.le_of_ble_eq_true rfl) (Nat.le_of_ble_eq_true rfl) hx hb hr hlocks hP hD hS rfl dX11_canonInterval_19

/-! X11_cliffCount -/
theorem dX11_cliffCount_0 : decode cX11_cliffCount 0 = .ok (.aload_n 0, 1) := by decide +kernel
theorem dX11_cliffCount_1 : decode cX11_cliffCount 1 = .ok (.aload_n 0, 1) := by decide +kernel
theorem dX11_cliffCount_2 : decode cX11_cliffCount 2 = .ok (.getfield 7, 3) := by decide +kernel
theorem dX11_cliffCount_5 : decode cX11_cliffCount 5 = .ok (.iconst 1, 1) := by decide +kernel
theorem dX11_cliffCount_6 : decode cX11_cliffCount 6 = .ok (.iaload, 1) := by decide +kernel
theorem dX11_cliffCount_7 : decode cX11_cliffCount 7 = .ok (.invokevirtual 83, 3) := by decide +kernel
theorem dX11_cliffCount_10 : decode cX11_cliffCount 10 = .ok (.ireturn, 1) := by decide +kernel
def f_X11_cliffCount (x_g : (Nat → Int32)) (x_thrown : Int32) : Option (Int32 × Int32) :=
  q_bd (f_X11_done x_thrown (x_g 1)) (fun q1 =>
  some (q1.1, q1.2))
theorem hv_X11_cliffCount : yX11_cliffCount.cls = RX11 ∧ yX11_cliffCount.cls ≠ "java/lang/invoke/MethodHandle" ∧ yX11_cliffCount.cls ≠ "java/lang/invoke/VarHandle" ∧ (parseMethodDescriptor yX11_cliffCount.desc).map (fun d => d.parameters.length) = some 0 := by decide +kernel
abbrev rm_X11_cliffCount : Room := { frames := 1, cells := 0, slots := 0, locals := 21 }
set_option maxHeartbeats 4000000 in
set_option maxRecDepth 100000 in
theorem k_X11_cliffCount (l : Launch) (E : ET) (a : Nat → Nat) (o : Nat) (x : Model_t) (res : Int32 × Int32) (hF : f_X11_cliffCount x.1.1 x.2.2.2.1 = some res) (sz : Nat) : CtI l yX11_cliffCount (mws yX11_cliffCount cX11_cliffCount 1 (some .int)) rm_X11_cliffCount 0 0 [.ref (a o)] E (bl_Model E a o x) res.1 (bl_Model E a o ((x.1.1, x.1.2.1, x.1.2.2.1, x.1.2.2.2.1, x.1.2.2.2.2), (x.2.1.1, x.2.1.2.1, x.2.1.2.2.1, x.2.1.2.2.2.1, x.2.1.2.2.2.2), (x.2.2.1.1, x.2.2.1.2.1, x.2.2.1.2.2.1, x.2.2.1.2.2.2), (res.2, x.2.2.2.2.1, x.2.2.2.2.2.1, x.2.2.2.2.2.2))) sz := by
  refine mk_M (by decide +kernel) (Nat.le_of_ble_eq_true rfl) ?_
  intro p e s m below meth c A args Q ls hAe hsz hQ hx hb hr hml hin ha hown hlocks hA hz hzs hst hP hD hS hl
  have hown : s.vm.findClass RX11 = some m.cls := hown
  rw [hAe] at hQ
  subst hsz
  have hP : va_P E.1 vwCl (List.flatten [w_Model E a o x]) s.heap := hP
  have hD : va_D A (List.flatten [w_Model E a o x]) := hD
  have hl : lv_has ls 1 [(0, .ref (a o))] := hl
  generalize hHe : s.heap = H at hP
  have hS : va_S A s.heap H [] := by rw [← hHe]; exact hS
  generalize ([] : List Loc) = locs at hS ⊢
  unfold f_X11_cliffCount at hF
  refine lv_aload_n hx hb dX11_cliffCount_0 rfl (lv_at hl 0 rfl) ?_
  refine lv_aload_n hx hb dX11_cliffCount_1 rfl (lv_at hl 0 rfl) ?_
  refine va_get (D := E.1) (ci := 13) (v := .ref (a (o + 1))) (C := RX11) (T := TX11) (N := 18) hx hb ha in_X11 hown hst.k hP 0 rfl rfl 0 (by decide) (ha _ mw1636) (fun _ h9 => h9) rfl dX11_cliffCount_2 ?_
  refine lv_iconst (v := 1) hx hb dX11_cliffCount_5 (by decide) ?_
  refine vi_iald hx hb hst.k hP 1 0 rfl rfl (f := x.1.1) (k := 1) (by decide) (by decide) dX11_cliffCount_6 ?_
  obtain ⟨q1, hq1, hF⟩ := q_bdi hF
  refine cl_i (Lc := [w_Model E a o x]) (Lc' := [w_Model E a o ((x.1.1, x.1.2.1, x.1.2.2.1, x.1.2.2.2.1, x.1.2.2.2.2), (x.2.1.1, x.2.1.2.1, x.2.1.2.2.1, x.2.1.2.2.2.1, x.2.1.2.2.2.2), (x.2.2.1.1, x.2.2.1.2.1, x.2.2.1.2.2.1, x.2.2.1.2.2.2), (q1.2, x.2.2.2.2.1, x.2.2.2.2.2.1, x.2.2.2.2.2.2))]) (L' := [w_Model E a o ((x.1.1, x.1.2.1, x.1.2.2.1, x.1.2.2.2.1, x.1.2.2.2.2), (x.2.1.1, x.2.1.2.1, x.2.1.2.2.1, x.2.1.2.2.2.1, x.2.1.2.2.2.2), (x.2.2.1.1, x.2.2.1.2.1, x.2.2.1.2.2.1, x.2.2.1.2.2.2), (q1.2, x.2.2.2.2.1, x.2.2.2.2.2.1, x.2.2.2.2.2.2))]) (rv := q1.1) (va_runV (As := [.int (x.1.1 1)]) (rest := []) ⟨hx, hb, hml, hown, ha⟩ (k_X11_done l E a o x (x.1.1 1) q1 hq1 H.size) (cwV 1 ha (gi_V (fun _ h => h) mw1720 mw1722 mw30 mw87 mw1723) rfl rfl rfl hv_X11_done ⟨(Nat.le_of_ble_eq_true rfl), (Nat.le_of_ble_eq_true rfl)⟩) ⟨pre_blind, va_recv hst.k (fr_P hP [0] rfl) (ci := 13) (q0 := 0) rfl rfl, pre_at hP hD hS hz hzs hst [0] (by decide) rfl rfl⟩ rfl rfl hl.1 rfl (lv_room (Nat.le_of_ble_eq_true rfl)) dX11_cliffCount_7 ⟨(Nat.le_of_ble_eq_true rfl), (Nat.le_of_ble_eq_true rfl)⟩) hP hD hS hA [0] (by decide) rfl rfl rfl rfl (fun H locs hP hD hS => ?_)
  obtain rfl := Option.some.inj hF
  exact en_i hQ (Nat.le_of_ble_eq_true rfl) (Nat.le_of_ble_eq_true rfl) hx hb hr hlocks hP hD hS rfl dX11_cliffCount_10

/-! X11_delay -/
theorem dX11_delay_0 : decode cX11_delay 0 = .ok (.aload_n 0, 1) := by decide +kernel
theorem dX11_delay_1 : decode cX11_delay 1 = .ok (.iload_n 1, 1) := by decide +kernel
theorem dX11_delay_2 : decode cX11_delay 2 = .ok (.invokevirtual 138, 3) := by decide +kernel
theorem dX11_delay_5 : decode cX11_delay 5 = .ok (.ifCond .eq 19, 3) := by decide +kernel
theorem dX11_delay_8 : decode cX11_delay 8 = .ok (.aload_n 0, 1) := by decide +kernel
theorem dX11_delay_9 : decode cX11_delay 9 = .ok (.aload_n 0, 1) := by decide +kernel
theorem dX11_delay_10 : decode cX11_delay 10 = .ok (.getfield 7, 3) := by decide +kernel
theorem dX11_delay_13 : decode cX11_delay 13 = .ok (.bipush 69, 2) := by decide +kernel
theorem dX11_delay_15 : decode cX11_delay 15 = .ok (.iload_n 1, 1) := by decide +kernel
theorem dX11_delay_16 : decode cX11_delay 16 = .ok (.iadd, 1) := by decide +kernel
theorem dX11_delay_17 : decode cX11_delay 17 = .ok (.iaload, 1) := by decide +kernel
theorem dX11_delay_18 : decode cX11_delay 18 = .ok (.invokevirtual 83, 3) := by decide +kernel
theorem dX11_delay_21 : decode cX11_delay 21 = .ok (.goto 8, 3) := by decide +kernel
theorem dX11_delay_24 : decode cX11_delay 24 = .ok (.aload_n 0, 1) := by decide +kernel
theorem dX11_delay_25 : decode cX11_delay 25 = .ok (.iconst 1, 1) := by decide +kernel
theorem dX11_delay_26 : decode cX11_delay 26 = .ok (.invokevirtual 80, 3) := by decide +kernel
theorem dX11_delay_29 : decode cX11_delay 29 = .ok (.ireturn, 1) := by decide +kernel
def f_X11_delay (x_g : (Nat → Int32)) (x_thrown : Int32) (p1 : Int32) : Option (Int32 × Int32) :=
  q_bd (f_X11_isCliff x_g p1) (fun q1 =>
  q_br (q1 = 0) (
  q_bd (f_X11_fails x_thrown 1) (fun q2 =>
  some (q2.1, q2.2))) (
  q_gd (q_in (69 + p1) 77) (
  q_bd (f_X11_done x_thrown (x_g ((69 + p1).toNatClampNeg))) (fun q4 =>
  some (q4.1, q4.2)))))
theorem hv_X11_delay : yX11_delay.cls = RX11 ∧ yX11_delay.cls ≠ "java/lang/invoke/MethodHandle" ∧ yX11_delay.cls ≠ "java/lang/invoke/VarHandle" ∧ (parseMethodDescriptor yX11_delay.desc).map (fun d => d.parameters.length) = some 1 := by decide +kernel
abbrev rm_X11_delay : Room := { frames := 2, cells := 0, slots := 0, locals := 43 }
set_option maxHeartbeats 4000000 in
set_option maxRecDepth 100000 in
theorem k_X11_delay (l : Launch) (E : ET) (a : Nat → Nat) (o : Nat) (x : Model_t) (p1 : Int32) (res : Int32 × Int32) (hF : f_X11_delay x.1.1 x.2.2.2.1 p1 = some res) (sz : Nat) : CtI l yX11_delay (mws yX11_delay cX11_delay 2 (some .int)) rm_X11_delay 0 0 [.ref (a o), .int p1] E (bl_Model E a o x) res.1 (bl_Model E a o ((x.1.1, x.1.2.1, x.1.2.2.1, x.1.2.2.2.1, x.1.2.2.2.2), (x.2.1.1, x.2.1.2.1, x.2.1.2.2.1, x.2.1.2.2.2.1, x.2.1.2.2.2.2), (x.2.2.1.1, x.2.2.1.2.1, x.2.2.1.2.2.1, x.2.2.1.2.2.2), (res.2, x.2.2.2.2.1, x.2.2.2.2.2.1, x.2.2.2.2.2.2))) sz := by
  refine mk_M (by decide +kernel) (Nat.le_of_ble_eq_true rfl) ?_
  intro p e s m below meth c A args Q ls hAe hsz hQ hx hb hr hml hin ha hown hlocks hA hz hzs hst hP hD hS hl
  have hown : s.vm.findClass RX11 = some m.cls := hown
  rw [hAe] at hQ
  subst hsz
  have hP : va_P E.1 vwCl (List.flatten [w_Model E a o x]) s.heap := hP
  have hD : va_D A (List.flatten [w_Model E a o x]) := hD
  have hl : lv_has ls 2 [(0, .ref (a o)), (1, .int p1)] := hl
  generalize hHe : s.heap = H at hP
  have hS : va_S A s.heap H [] := by rw [← hHe]; exact hS
  generalize ([] : List Loc) = locs at hS ⊢
  unfold f_X11_delay at hF
  refine lv_aload_n hx hb dX11_delay_0 rfl (lv_at hl 0 rfl) ?_
  refine lv_iload_n hx hb dX11_delay_1 rfl (lv_at hl 1 rfl) ?_
  obtain ⟨q1, hq1, hF⟩ := q_bdi hF
  refine cl_i (Lc := [w_Model E a o x]) (Lc' := [w_Model E a o x]) (L' := [w_Model E a o x]) (rv := q1) (va_runV (As := [.int p1]) (rest := []) ⟨hx, hb, hml, hown, ha⟩ (k_X11_isCliff l E a o x p1 q1 hq1 H.size) (cwV 1 ha (gi_V (fun _ h => h) mw1853 mw1855 mw50 mw87 mw1856) rfl rfl rfl hv_X11_isCliff ⟨(Nat.le_of_ble_eq_true rfl), (Nat.le_of_ble_eq_true rfl)⟩) ⟨pre_blind, va_recv hst.k (fr_P hP [0] rfl) (ci := 13) (q0 := 0) rfl rfl, pre_at hP hD hS hz hzs hst [0] (by decide) rfl rfl⟩ rfl rfl hl.1 rfl (lv_room (Nat.le_of_ble_eq_true rfl)) dX11_delay_2 ⟨(Nat.le_of_ble_eq_true rfl), (Nat.le_of_ble_eq_true rfl)⟩) hP hD hS hA [0] (by decide) rfl rfl rfl rfl (fun H locs hP hD hS => ?_)
  refine lv_if_eq (tgt := 24) hx hb dX11_delay_5 (by decide) (fun c5 => ?_) (fun c5 => ?_)
  · have hF := q_brp c5 hF
    refine lv_aload_n hx hb dX11_delay_24 rfl (lv_at hl 0 rfl) ?_
    refine lv_iconst (v := 1) hx hb dX11_delay_25 (by decide) ?_
    obtain ⟨q2, hq2, hF⟩ := q_bdi hF
    refine cl_i (Lc := [w_Model E a o x]) (Lc' := [w_Model E a o ((x.1.1, x.1.2.1, x.1.2.2.1, x.1.2.2.2.1, x.1.2.2.2.2), (x.2.1.1, x.2.1.2.1, x.2.1.2.2.1, x.2.1.2.2.2.1, x.2.1.2.2.2.2), (x.2.2.1.1, x.2.2.1.2.1, x.2.2.1.2.2.1, x.2.2.1.2.2.2), (q2.2, x.2.2.2.2.1, x.2.2.2.2.2.1, x.2.2.2.2.2.2))]) (L' := [w_Model E a o ((x.1.1, x.1.2.1, x.1.2.2.1, x.1.2.2.2.1, x.1.2.2.2.2), (x.2.1.1, x.2.1.2.1, x.2.1.2.2.1, x.2.1.2.2.2.1, x.2.1.2.2.2.2), (x.2.2.1.1, x.2.2.1.2.1, x.2.2.1.2.2.1, x.2.2.1.2.2.2), (q2.2, x.2.2.2.2.1, x.2.2.2.2.2.1, x.2.2.2.2.2.2))]) (rv := q2.1) (va_runV (As := [.int 1]) (rest := []) ⟨hx, hb, hml, hown, ha⟩ (k_X11_fails l E a o x 1 q2 hq2 H.size) (cwV 1 ha (gi_V (fun _ h => h) mw1716 mw1718 mw29 mw87 mw1719) rfl rfl rfl hv_X11_fails ⟨(Nat.le_of_ble_eq_true rfl), (Nat.le_of_ble_eq_true rfl)⟩) ⟨pre_blind, va_recv hst.k (fr_P hP [0] rfl) (ci := 13) (q0 := 0) rfl rfl, pre_at hP hD hS hz hzs hst [0] (by decide) rfl rfl⟩ rfl rfl hl.1 rfl (lv_room (Nat.le_of_ble_eq_true rfl)) dX11_delay_26 ⟨(Nat.le_of_ble_eq_true rfl), (Nat.le_of_ble_eq_true rfl)⟩) hP hD hS hA [0] (by decide) rfl rfl rfl rfl (fun H locs hP hD hS => ?_)
    obtain rfl := Option.some.inj hF
    exact en_i hQ (Nat.le_of_ble_eq_true rfl) (Nat.le_of_ble_eq_true rfl) hx hb hr hlocks hP hD hS rfl dX11_delay_29
  · have hF := q_brn c5 hF
    refine lv_aload_n hx hb dX11_delay_8 rfl (lv_at hl 0 rfl) ?_
    refine lv_aload_n hx hb dX11_delay_9 rfl (lv_at hl 0 rfl) ?_
    refine va_get (D := E.1) (ci := 13) (v := .ref (a (o + 1))) (C := RX11) (T := TX11) (N := 18) hx hb ha in_X11 hown hst.k hP 0 rfl rfl 0 (by decide) (ha _ mw1636) (fun _ h9 => h9) rfl dX11_delay_10 ?_
    refine lv_bipush (v := 69) hx hb dX11_delay_13 (by decide) ?_
    refine lv_iload_n hx hb dX11_delay_15 rfl (lv_at hl 1 rfl) ?_
    refine lv_iadd hx hb dX11_delay_16 ?_
    obtain ⟨g3, hF⟩ := q_gdi hF
    refine vi_iald hx hb hst.k hP 1 0 rfl rfl (f := x.1.1) (k := (69 + p1).toNatClampNeg) rfl g3 dX11_delay_17 ?_
    obtain ⟨q4, hq4, hF⟩ := q_bdi hF
    refine cl_i (Lc := [w_Model E a o x]) (Lc' := [w_Model E a o ((x.1.1, x.1.2.1, x.1.2.2.1, x.1.2.2.2.1, x.1.2.2.2.2), (x.2.1.1, x.2.1.2.1, x.2.1.2.2.1, x.2.1.2.2.2.1, x.2.1.2.2.2.2), (x.2.2.1.1, x.2.2.1.2.1, x.2.2.1.2.2.1, x.2.2.1.2.2.2), (q4.2, x.2.2.2.2.1, x.2.2.2.2.2.1, x.2.2.2.2.2.2))]) (L' := [w_Model E a o ((x.1.1, x.1.2.1, x.1.2.2.1, x.1.2.2.2.1, x.1.2.2.2.2), (x.2.1.1, x.2.1.2.1, x.2.1.2.2.1, x.2.1.2.2.2.1, x.2.1.2.2.2.2), (x.2.2.1.1, x.2.2.1.2.1, x.2.2.1.2.2.1, x.2.2.1.2.2.2), (q4.2, x.2.2.2.2.1, x.2.2.2.2.2.1, x.2.2.2.2.2.2))]) (rv := q4.1) (va_runV (As := [.int (x.1.1 ((69 + p1).toNatClampNeg))]) (rest := []) ⟨hx, hb, hml, hown, ha⟩ (k_X11_done l E a o x (x.1.1 ((69 + p1).toNatClampNeg)) q4 hq4 H.size) (cwV 1 ha (gi_V (fun _ h => h) mw1720 mw1722 mw30 mw87 mw1723) rfl rfl rfl hv_X11_done ⟨(Nat.le_of_ble_eq_true rfl), (Nat.le_of_ble_eq_true rfl)⟩) ⟨pre_blind, va_recv hst.k (fr_P hP [0] rfl) (ci := 13) (q0 := 0) rfl rfl, pre_at hP hD hS hz hzs hst [0] (by decide) rfl rfl⟩ rfl rfl hl.1 rfl (lv_room (Nat.le_of_ble_eq_true rfl)) dX11_delay_18 ⟨(Nat.le_of_ble_eq_true rfl), (Nat.le_of_ble_eq_true rfl)⟩) hP hD hS hA [0] (by decide) rfl rfl rfl rfl (fun H locs hP hD hS => ?_)
    refine lv_goto (tgt := 29) hx hb dX11_delay_21 (by decide) ?_
    obtain rfl := Option.some.inj hF
    exact en_i hQ (Nat.le_of_ble_eq_true rfl) (Nat.le_of_ble_eq_true rfl) hx hb hr hlocks hP hD hS rfl dX11_delay_29

/-! X11_transposition -/
theorem dX11_transposition_0 : decode cX11_transposition 0 = .ok (.aload_n 0, 1) := by decide +kernel
theorem dX11_transposition_1 : decode cX11_transposition 1 = .ok (.iload_n 1, 1) := by decide +kernel
theorem dX11_transposition_2 : decode cX11_transposition 2 = .ok (.invokevirtual 138, 3) := by decide +kernel
theorem dX11_transposition_5 : decode cX11_transposition 5 = .ok (.ifCond .eq 19, 3) := by decide +kernel
theorem dX11_transposition_8 : decode cX11_transposition 8 = .ok (.aload_n 0, 1) := by decide +kernel
theorem dX11_transposition_9 : decode cX11_transposition 9 = .ok (.aload_n 0, 1) := by decide +kernel
theorem dX11_transposition_10 : decode cX11_transposition 10 = .ok (.getfield 7, 3) := by decide +kernel
theorem dX11_transposition_13 : decode cX11_transposition 13 = .ok (.bipush 73, 2) := by decide +kernel
theorem dX11_transposition_15 : decode cX11_transposition 15 = .ok (.iload_n 1, 1) := by decide +kernel
theorem dX11_transposition_16 : decode cX11_transposition 16 = .ok (.iadd, 1) := by decide +kernel
theorem dX11_transposition_17 : decode cX11_transposition 17 = .ok (.iaload, 1) := by decide +kernel
theorem dX11_transposition_18 : decode cX11_transposition 18 = .ok (.invokevirtual 83, 3) := by decide +kernel
theorem dX11_transposition_21 : decode cX11_transposition 21 = .ok (.goto 8, 3) := by decide +kernel
theorem dX11_transposition_24 : decode cX11_transposition 24 = .ok (.aload_n 0, 1) := by decide +kernel
theorem dX11_transposition_25 : decode cX11_transposition 25 = .ok (.iconst 1, 1) := by decide +kernel
theorem dX11_transposition_26 : decode cX11_transposition 26 = .ok (.invokevirtual 80, 3) := by decide +kernel
theorem dX11_transposition_29 : decode cX11_transposition 29 = .ok (.ireturn, 1) := by decide +kernel
def f_X11_transposition (x_g : (Nat → Int32)) (x_thrown : Int32) (p1 : Int32) : Option (Int32 × Int32) :=
  q_bd (f_X11_isCliff x_g p1) (fun q1 =>
  q_br (q1 = 0) (
  q_bd (f_X11_fails x_thrown 1) (fun q2 =>
  some (q2.1, q2.2))) (
  q_gd (q_in (73 + p1) 77) (
  q_bd (f_X11_done x_thrown (x_g ((73 + p1).toNatClampNeg))) (fun q4 =>
  some (q4.1, q4.2)))))
theorem hv_X11_transposition : yX11_transposition.cls = RX11 ∧ yX11_transposition.cls ≠ "java/lang/invoke/MethodHandle" ∧ yX11_transposition.cls ≠ "java/lang/invoke/VarHandle" ∧ (parseMethodDescriptor yX11_transposition.desc).map (fun d => d.parameters.length) = some 1 := by decide +kernel
abbrev rm_X11_transposition : Room := { frames := 2, cells := 0, slots := 0, locals := 43 }
set_option maxHeartbeats 4000000 in
set_option maxRecDepth 100000 in
theorem k_X11_transposition (l : Launch) (E : ET) (a : Nat → Nat) (o : Nat) (x : Model_t) (p1 : Int32) (res : Int32 × Int32) (hF : f_X11_transposition x.1.1 x.2.2.2.1 p1 = some res) (sz : Nat) : CtI l yX11_transposition (mws yX11_transposition cX11_transposition 2 (some .int)) rm_X11_transposition 0 0 [.ref (a o), .int p1] E (bl_Model E a o x) res.1 (bl_Model E a o ((x.1.1, x.1.2.1, x.1.2.2.1, x.1.2.2.2.1, x.1.2.2.2.2), (x.2.1.1, x.2.1.2.1, x.2.1.2.2.1, x.2.1.2.2.2.1, x.2.1.2.2.2.2), (x.2.2.1.1, x.2.2.1.2.1, x.2.2.1.2.2.1, x.2.2.1.2.2.2), (res.2, x.2.2.2.2.1, x.2.2.2.2.2.1, x.2.2.2.2.2.2))) sz := by
  refine mk_M (by decide +kernel) (Nat.le_of_ble_eq_true rfl) ?_
  intro p e s m below meth c A args Q ls hAe hsz hQ hx hb hr hml hin ha hown hlocks hA hz hzs hst hP hD hS hl
  have hown : s.vm.findClass RX11 = some m.cls := hown
  rw [hAe] at hQ
  subst hsz
  have hP : va_P E.1 vwCl (List.flatten [w_Model E a o x]) s.heap := hP
  have hD : va_D A (List.flatten [w_Model E a o x]) := hD
  have hl : lv_has ls 2 [(0, .ref (a o)), (1, .int p1)] := hl
  generalize hHe : s.heap = H at hP
  have hS : va_S A s.heap H [] := by rw [← hHe]; exact hS
  generalize ([] : List Loc) = locs at hS ⊢
  unfold f_X11_transposition at hF
  refine lv_aload_n hx hb dX11_transposition_0 rfl (lv_at hl 0 rfl) ?_
  refine lv_iload_n hx hb dX11_transposition_1 rfl (lv_at hl 1 rfl) ?_
  obtain ⟨q1, hq1, hF⟩ := q_bdi hF
  refine cl_i (Lc := [w_Model E a o x]) (Lc' := [w_Model E a o x]) (L' := [w_Model E a o x]) (rv := q1) (va_runV (As := [.int p1]) (rest := []) ⟨hx, hb, hml, hown, ha⟩ (k_X11_isCliff l E a o x p1 q1 hq1 H.size) (cwV 1 ha (gi_V (fun _ h => h) mw1853 mw1855 mw50 mw87 mw1856) rfl rfl rfl hv_X11_isCliff ⟨(Nat.le_of_ble_eq_true rfl), (Nat.le_of_ble_eq_true rfl)⟩) ⟨pre_blind, va_recv hst.k (fr_P hP [0] rfl) (ci := 13) (q0 := 0) rfl rfl, pre_at hP hD hS hz hzs hst [0] (by decide) rfl rfl⟩ rfl rfl hl.1 rfl (lv_room (Nat.le_of_ble_eq_true rfl)) dX11_transposition_2 ⟨(Nat.le_of_ble_eq_true rfl), (Nat.le_of_ble_eq_true rfl)⟩) hP hD hS hA [0] (by decide) rfl rfl rfl rfl (fun H locs hP hD hS => ?_)
  refine lv_if_eq (tgt := 24) hx hb dX11_transposition_5 (by decide) (fun c5 => ?_) (fun c5 => ?_)
  · have hF := q_brp c5 hF
    refine lv_aload_n hx hb dX11_transposition_24 rfl (lv_at hl 0 rfl) ?_
    refine lv_iconst (v := 1) hx hb dX11_transposition_25 (by decide) ?_
    obtain ⟨q2, hq2, hF⟩ := q_bdi hF
    refine cl_i (Lc := [w_Model E a o x]) (Lc' := [w_Model E a o ((x.1.1, x.1.2.1, x.1.2.2.1, x.1.2.2.2.1, x.1.2.2.2.2), (x.2.1.1, x.2.1.2.1, x.2.1.2.2.1, x.2.1.2.2.2.1, x.2.1.2.2.2.2), (x.2.2.1.1, x.2.2.1.2.1, x.2.2.1.2.2.1, x.2.2.1.2.2.2), (q2.2, x.2.2.2.2.1, x.2.2.2.2.2.1, x.2.2.2.2.2.2))]) (L' := [w_Model E a o ((x.1.1, x.1.2.1, x.1.2.2.1, x.1.2.2.2.1, x.1.2.2.2.2), (x.2.1.1, x.2.1.2.1, x.2.1.2.2.1, x.2.1.2.2.2.1, x.2.1.2.2.2.2), (x.2.2.1.1, x.2.2.1.2.1, x.2.2.1.2.2.1, x.2.2.1.2.2.2), (q2.2, x.2.2.2.2.1, x.2.2.2.2.2.1, x.2.2.2.2.2.2))]) (rv := q2.1) (va_runV (As := [.int 1]) (rest := []) ⟨hx, hb, hml, hown, ha⟩ (k_X11_fails l E a o x 1 q2 hq2 H.size) (cwV 1 ha (gi_V (fun _ h => h) mw1716 mw1718 mw29 mw87 mw1719) rfl rfl rfl hv_X11_fails ⟨(Nat.le_of_ble_eq_true rfl), (Nat.le_of_ble_eq_true rfl)⟩) ⟨pre_blind, va_recv hst.k (fr_P hP [0] rfl) (ci := 13) (q0 := 0) rfl rfl, pre_at hP hD hS hz hzs hst [0] (by decide) rfl rfl⟩ rfl rfl hl.1 rfl (lv_room (Nat.le_of_ble_eq_true rfl)) dX11_transposition_26 ⟨(Nat.le_of_ble_eq_true rfl), (Nat.le_of_ble_eq_true rfl)⟩) hP hD hS hA [0] (by decide) rfl rfl rfl rfl (fun H locs hP hD hS => ?_)
    obtain rfl := Option.some.inj hF
    exact en_i hQ (Nat.le_of_ble_eq_true rfl) (Nat.le_of_ble_eq_true rfl) hx hb hr hlocks hP hD hS rfl dX11_transposition_29
  · have hF := q_brn c5 hF
    refine lv_aload_n hx hb dX11_transposition_8 rfl (lv_at hl 0 rfl) ?_
    refine lv_aload_n hx hb dX11_transposition_9 rfl (lv_at hl 0 rfl) ?_
    refine va_get (D := E.1) (ci := 13) (v := .ref (a (o + 1))) (C := RX11) (T := TX11) (N := 18) hx hb ha in_X11 hown hst.k hP 0 rfl rfl 0 (by decide) (ha _ mw1636) (fun _ h9 => h9) rfl dX11_transposition_10 ?_
    refine lv_bipush (v := 73) hx hb dX11_transposition_13 (by decide) ?_
    refine lv_iload_n hx hb dX11_transposition_15 rfl (lv_at hl 1 rfl) ?_
    refine lv_iadd hx hb dX11_transposition_16 ?_
    obtain ⟨g3, hF⟩ := q_gdi hF
    refine vi_iald hx hb hst.k hP 1 0 rfl rfl (f := x.1.1) (k := (73 + p1).toNatClampNeg) rfl g3 dX11_transposition_17 ?_
    obtain ⟨q4, hq4, hF⟩ := q_bdi hF
    refine cl_i (Lc := [w_Model E a o x]) (Lc' := [w_Model E a o ((x.1.1, x.1.2.1, x.1.2.2.1, x.1.2.2.2.1, x.1.2.2.2.2), (x.2.1.1, x.2.1.2.1, x.2.1.2.2.1, x.2.1.2.2.2.1, x.2.1.2.2.2.2), (x.2.2.1.1, x.2.2.1.2.1, x.2.2.1.2.2.1, x.2.2.1.2.2.2), (q4.2, x.2.2.2.2.1, x.2.2.2.2.2.1, x.2.2.2.2.2.2))]) (L' := [w_Model E a o ((x.1.1, x.1.2.1, x.1.2.2.1, x.1.2.2.2.1, x.1.2.2.2.2), (x.2.1.1, x.2.1.2.1, x.2.1.2.2.1, x.2.1.2.2.2.1, x.2.1.2.2.2.2), (x.2.2.1.1, x.2.2.1.2.1, x.2.2.1.2.2.1, x.2.2.1.2.2.2), (q4.2, x.2.2.2.2.1, x.2.2.2.2.2.1, x.2.2.2.2.2.2))]) (rv := q4.1) (va_runV (As := [.int (x.1.1 ((73 + p1).toNatClampNeg))]) (rest := []) ⟨hx, hb, hml, hown, ha⟩ (k_X11_done l E a o x (x.1.1 ((73 + p1).toNatClampNeg)) q4 hq4 H.size) (cwV 1 ha (gi_V (fun _ h => h) mw1720 mw1722 mw30 mw87 mw1723) rfl rfl rfl hv_X11_done ⟨(Nat.le_of_ble_eq_true rfl), (Nat.le_of_ble_eq_true rfl)⟩) ⟨pre_blind, va_recv hst.k (fr_P hP [0] rfl) (ci := 13) (q0 := 0) rfl rfl, pre_at hP hD hS hz hzs hst [0] (by decide) rfl rfl⟩ rfl rfl hl.1 rfl (lv_room (Nat.le_of_ble_eq_true rfl)) dX11_transposition_18 ⟨(Nat.le_of_ble_eq_true rfl), (Nat.le_of_ble_eq_true rfl)⟩) hP hD hS hA [0] (by decide) rfl rfl rfl rfl (fun H locs hP hD hS => ?_)
    refine lv_goto (tgt := 29) hx hb dX11_transposition_21 (by decide) ?_
    obtain rfl := Option.some.inj hF
    exact en_i hQ (Nat.le_of_ble_eq_true rfl) (Nat.le_of_ble_eq_true rfl) hx hb hr hlocks hP hD hS rfl dX11_transposition_29
