/-! X11_in -/
theorem dX11_in_0 : decode cX11_in 0 = .ok (.iload_n 0, 1) := by decide +kernel
theorem dX11_in_1 : decode cX11_in 1 = .ok (.iload_n 1, 1) := by decide +kernel
theorem dX11_in_2 : decode cX11_in 2 = .ok (.if_icmp .lt 12, 3) := by decide +kernel
theorem dX11_in_5 : decode cX11_in 5 = .ok (.iload_n 0, 1) := by decide +kernel
theorem dX11_in_6 : decode cX11_in 6 = .ok (.iload_n 2, 1) := by decide +kernel
theorem dX11_in_7 : decode cX11_in 7 = .ok (.if_icmp .gt 7, 3) := by decide +kernel
theorem dX11_in_10 : decode cX11_in 10 = .ok (.iconst 1, 1) := by decide +kernel
theorem dX11_in_11 : decode cX11_in 11 = .ok (.goto 4, 3) := by decide +kernel
theorem dX11_in_14 : decode cX11_in 14 = .ok (.iconst 0, 1) := by decide +kernel
theorem dX11_in_15 : decode cX11_in 15 = .ok (.ireturn, 1) := by decide +kernel
def f_X11_in (p1 : Int32) (p2 : Int32) (p3 : Int32) : Option (Int32) :=
  q_br (p1 < p2) (
  some 0) (
  q_br (p3 < p1) (
  some 0) (
  some 1))
theorem hv_X11_in : yX11_in.cls = RX11 ∧ yX11_in.cls ≠ "java/lang/invoke/MethodHandle" ∧ yX11_in.cls ≠ "java/lang/invoke/VarHandle" ∧ (parseMethodDescriptor yX11_in.desc).map (fun d => d.parameters.length) = some 3 := by decide +kernel
abbrev rm_X11_in : Room := { frames := 0, cells := 0, slots := 0, locals := 0 }
set_option maxHeartbeats 4000000 in
set_option maxRecDepth 100000 in
theorem k_X11_in (l : Launch) (E : ET) (p1 : Int32) (p2 : Int32) (p3 : Int32) (res : Int32) (hF : f_X11_in p1 p2 p3 = some res) (sz : Nat) : CtI l yX11_in (mws yX11_in cX11_in 3 (some .boolean)) rm_X11_in 0 0 [.int p1, .int p2, .int p3] E ([]) res ([]) sz := by
  refine mk_M (by decide +kernel) (Nat.le_of_ble_eq_true rfl) ?_
  intro p e s m below meth c A args Q ls hAe hsz hQ hx hb hr hml hin ha hown hlocks hA hz hzs hst hP hD hS hl
  have hown : s.vm.findClass RX11 = some m.cls := hown
  rw [hAe] at hQ
  subst hsz
  have hP : va_P E.1 vwCl (List.flatten []) s.heap := hP
  have hD : va_D A (List.flatten []) := hD
  have hl : lv_has ls 3 [(0, .int p1), (1, .int p2), (2, .int p3)] := hl
  generalize hHe : s.heap = H at hP
  have hS : va_S A s.heap H [] := by rw [← hHe]; exact hS
  generalize ([] : List Loc) = locs at hS ⊢
  unfold f_X11_in at hF
  refine lv_iload_n hx hb dX11_in_0 rfl (lv_at hl 0 rfl) ?_
  refine lv_iload_n hx hb dX11_in_1 rfl (lv_at hl 1 rfl) ?_
  refine lv_icmp_lt (tgt := 14) hx hb dX11_in_2 (by decide) (fun c2 => ?_) (fun c2 => ?_)
  · have hF := q_brp c2 hF
    refine lv_iconst (v := 0) hx hb dX11_in_14 (by decide) ?_
    obtain rfl := Option.some.inj hF
    exact en_z hQ (Nat.le_of_ble_eq_true rfl) (Nat.le_of_ble_eq_true rfl) hx hb hr hlocks (by decide) hP hD hS rfl dX11_in_15
  · have hF := q_brn c2 hF
    refine lv_iload_n hx hb dX11_in_5 rfl (lv_at hl 0 rfl) ?_
    refine lv_iload_n hx hb dX11_in_6 rfl (lv_at hl 2 rfl) ?_
    refine lv_icmp_gt (tgt := 14) hx hb dX11_in_7 (by decide) (fun c7 => ?_) (fun c7 => ?_)
    · have hF := q_brp c7 hF
      refine lv_iconst (v := 0) hx hb dX11_in_14 (by decide) ?_
      obtain rfl := Option.some.inj hF
      exact en_z hQ (Nat.le_of_ble_eq_true rfl) (Nat.le_of_ble_eq_true rfl) hx hb hr hlocks (by decide) hP hD hS rfl dX11_in_15
    · have hF := q_brn c7 hF
      refine lv_iconst (v := 1) hx hb dX11_in_10 (by decide) ?_
      refine lv_goto (tgt := 15) hx hb dX11_in_11 (by decide) ?_
      obtain rfl := Option.some.inj hF
      exact en_z hQ (Nat.le_of_ble_eq_true rfl) (Nat.le_of_ble_eq_true rfl) hx hb hr hlocks (by decide) hP hD hS rfl dX11_in_15

/-! X11_size -/
theorem dX11_size_0 : decode cX11_size 0 = .ok (.iload_n 0, 1) := by decide +kernel
theorem dX11_size_1 : decode cX11_size 1 = .ok (.ifCond .ge 8, 3) := by decide +kernel
theorem dX11_size_4 : decode cX11_size 4 = .ok (.iload_n 0, 1) := by decide +kernel
theorem dX11_size_5 : decode cX11_size 5 = .ok (.ineg, 1) := by decide +kernel
theorem dX11_size_6 : decode cX11_size 6 = .ok (.goto 4, 3) := by decide +kernel
theorem dX11_size_9 : decode cX11_size 9 = .ok (.iload_n 0, 1) := by decide +kernel
theorem dX11_size_10 : decode cX11_size 10 = .ok (.ireturn, 1) := by decide +kernel
def f_X11_size (p1 : Int32) : Option (Int32) :=
  q_br (0 ≤ p1) (
  some p1) (
  some (-p1))
theorem hv_X11_size : yX11_size.cls = RX11 ∧ yX11_size.cls ≠ "java/lang/invoke/MethodHandle" ∧ yX11_size.cls ≠ "java/lang/invoke/VarHandle" ∧ (parseMethodDescriptor yX11_size.desc).map (fun d => d.parameters.length) = some 1 := by decide +kernel
abbrev rm_X11_size : Room := { frames := 0, cells := 0, slots := 0, locals := 0 }
set_option maxHeartbeats 4000000 in
set_option maxRecDepth 100000 in
theorem k_X11_size (l : Launch) (E : ET) (p1 : Int32) (res : Int32) (hF : f_X11_size p1 = some res) (sz : Nat) : CtI l yX11_size (mws yX11_size cX11_size 1 (some .int)) rm_X11_size 0 0 [.int p1] E ([]) res ([]) sz := by
  refine mk_M (by decide +kernel) (Nat.le_of_ble_eq_true rfl) ?_
  intro p e s m below meth c A args Q ls hAe hsz hQ hx hb hr hml hin ha hown hlocks hA hz hzs hst hP hD hS hl
  have hown : s.vm.findClass RX11 = some m.cls := hown
  rw [hAe] at hQ
  subst hsz
  have hP : va_P E.1 vwCl (List.flatten []) s.heap := hP
  have hD : va_D A (List.flatten []) := hD
  have hl : lv_has ls 1 [(0, .int p1)] := hl
  generalize hHe : s.heap = H at hP
  have hS : va_S A s.heap H [] := by rw [← hHe]; exact hS
  generalize ([] : List Loc) = locs at hS ⊢
  unfold f_X11_size at hF
  refine lv_iload_n hx hb dX11_size_0 rfl (lv_at hl 0 rfl) ?_
  refine lv_if_ge (tgt := 9) hx hb dX11_size_1 (by decide) (fun c1 => ?_) (fun c1 => ?_)
  · have hF := q_brp c1 hF
    refine lv_iload_n hx hb dX11_size_9 rfl (lv_at hl 0 rfl) ?_
    obtain rfl := Option.some.inj hF
    exact en_i hQ (Nat.le_of_ble_eq_true rfl) (Nat.le_of_ble_eq_true rfl) hx hb hr hlocks hP hD hS rfl dX11_size_10
  · have hF := q_brn c1 hF
    refine lv_iload_n hx hb dX11_size_4 rfl (lv_at hl 0 rfl) ?_
    refine lv_ineg hx hb dX11_size_5 ?_
    refine lv_goto (tgt := 10) hx hb dX11_size_6 (by decide) ?_
    obtain rfl := Option.some.inj hF
    exact en_i hQ (Nat.le_of_ble_eq_true rfl) (Nat.le_of_ble_eq_true rfl) hx hb hr hlocks hP hD hS rfl dX11_size_10

/-! X11_thrown -/
theorem dX11_thrown_0 : decode cX11_thrown 0 = .ok (.aload_n 0, 1) := by decide +kernel
theorem dX11_thrown_1 : decode cX11_thrown 1 = .ok (.getfield 42, 3) := by decide +kernel
theorem dX11_thrown_4 : decode cX11_thrown 4 = .ok (.ireturn, 1) := by decide +kernel
def f_X11_thrown (x_thrown : Int32) : Option (Int32) :=
  some x_thrown
theorem hv_X11_thrown : yX11_thrown.cls = RX11 ∧ yX11_thrown.cls ≠ "java/lang/invoke/MethodHandle" ∧ yX11_thrown.cls ≠ "java/lang/invoke/VarHandle" ∧ (parseMethodDescriptor yX11_thrown.desc).map (fun d => d.parameters.length) = some 0 := by decide +kernel
abbrev rm_X11_thrown : Room := { frames := 0, cells := 0, slots := 0, locals := 0 }
set_option maxHeartbeats 4000000 in
set_option maxRecDepth 100000 in
theorem k_X11_thrown (l : Launch) (E : ET) (a : Nat → Nat) (o : Nat) (x : Model_t) (res : Int32) (hF : f_X11_thrown x.2.2.2.1 = some res) (sz : Nat) : CtI l yX11_thrown (mws yX11_thrown cX11_thrown 1 (some .int)) rm_X11_thrown 0 0 [.ref (a o)] E (bl_Model E a o x) res (bl_Model E a o x) sz := by
  refine mk_M (by decide +kernel) (Nat.le_of_ble_eq_true rfl) ?_
  intro p e s m below meth c A args Q ls hAe hsz hQ hx hb hr hml hin ha hown hlocks hA hz hzs hst hP hD hS hl
  have hown : s.vm.findClass RX11 = some m.cls := hown
  rw [hAe] at hQ
  subst hsz
  have hP : va_P E.1 vwCl (List.flatten [w_Model E a o x]) s.heap := hP
  have hD : va_D A (List.flatten [w_Model E a o x]) := hD
  have hl : lv_has ls 1 [(0, .ref (a o))] := hl
  generalize hHe : s.heap = H at hP
  have hS : va_S A s.heap H [] := by rw [← hHe]; exact hS
  generalize ([] : List Loc) = locs at hS ⊢
  unfold f_X11_thrown at hF
  refine lv_aload_n hx hb dX11_thrown_0 rfl (lv_at hl 0 rfl) ?_
  refine va_get (D := E.1) (ci := 13) (v := .int x.2.2.2.1) (C := RX11) (T := TX11) (N := 18) hx hb ha in_X11 hown hst.k hP 0 rfl rfl 14 (by decide) (ha _ mw1650) (fun _ h9 => h9) rfl dX11_thrown_1 ?_
  obtain rfl := Option.some.inj hF
  exact en_i hQ (Nat.le_of_ble_eq_true rfl) (Nat.le_of_ble_eq_true rfl) hx hb hr hlocks hP hD hS rfl dX11_thrown_4

/-! X11_done -/
theorem dX11_done_0 : decode cX11_done 0 = .ok (.aload_n 0, 1) := by decide +kernel
theorem dX11_done_1 : decode cX11_done 1 = .ok (.iconst 0, 1) := by decide +kernel
theorem dX11_done_2 : decode cX11_done 2 = .ok (.putfield 42, 3) := by decide +kernel
theorem dX11_done_5 : decode cX11_done 5 = .ok (.iload_n 1, 1) := by decide +kernel
theorem dX11_done_6 : decode cX11_done 6 = .ok (.ireturn, 1) := by decide +kernel
def f_X11_done (x_thrown : Int32) (p1 : Int32) : Option (Int32 × Int32) :=
  some (p1, 0)
theorem hv_X11_done : yX11_done.cls = RX11 ∧ yX11_done.cls ≠ "java/lang/invoke/MethodHandle" ∧ yX11_done.cls ≠ "java/lang/invoke/VarHandle" ∧ (parseMethodDescriptor yX11_done.desc).map (fun d => d.parameters.length) = some 1 := by decide +kernel
abbrev rm_X11_done : Room := { frames := 0, cells := 0, slots := 0, locals := 0 }
set_option maxHeartbeats 4000000 in
set_option maxRecDepth 100000 in
theorem k_X11_done (l : Launch) (E : ET) (a : Nat → Nat) (o : Nat) (x : Model_t) (p1 : Int32) (res : Int32 × Int32) (hF : f_X11_done x.2.2.2.1 p1 = some res) (sz : Nat) : CtI l yX11_done (mws yX11_done cX11_done 2 (some .int)) rm_X11_done 0 0 [.ref (a o), .int p1] E (bl_Model E a o x) res.1 (bl_Model E a o ((x.1.1, x.1.2.1, x.1.2.2.1, x.1.2.2.2.1, x.1.2.2.2.2), (x.2.1.1, x.2.1.2.1, x.2.1.2.2.1, x.2.1.2.2.2.1, x.2.1.2.2.2.2), (x.2.2.1.1, x.2.2.1.2.1, x.2.2.1.2.2.1, x.2.2.1.2.2.2), (res.2, x.2.2.2.2.1, x.2.2.2.2.2.1, x.2.2.2.2.2.2))) sz := by
  refine mk_M (by decide +kernel) (Nat.le_of_ble_eq_true rfl) ?_
  intro p e s m below meth c A args Q ls hAe hsz hQ hx hb hr hml hin ha hown hlocks hA hz hzs hst hP hD hS hl
  have hown : s.vm.findClass RX11 = some m.cls := hown
  rw [hAe] at hQ
  subst hsz
  have hP : va_P E.1 vwCl (List.flatten [w_Model E a o x]) s.heap := hP
  have hD : va_D A (List.flatten [w_Model E a o x]) := hD
  have hl : lv_has ls 2 [(0, .ref (a o)), (1, .int p1)] := hl
  generalize hHe : s.heap = H at hP
  have hS : va_S A s.heap H [] := by rw [← hHe]; exact hS
  generalize ([] : List Loc) = locs at hS ⊢
  unfold f_X11_done at hF
  refine lv_aload_n hx hb dX11_done_0 rfl (lv_at hl 0 rfl) ?_
  refine lv_iconst (v := 0) hx hb dX11_done_1 (by decide) ?_
  refine va_put (D := E.1) (ci := 13) (v := .int 0) (ty := .int) (C := RX11) (T := TX11) (N := 18) hx hb ha in_X11 tyX11 tyX11_ok nmX11 hown hst.k hP hD hS 0 rfl rfl 14 (by decide) (ha _ mw1650) (fun _ h9 => h9) rfl (tyX11_ok 14 (by decide)) rfl rfl (Nat.le_of_ble_eq_true rfl) dX11_done_2 (fun H locs hP hD hS => ?_)
  have hP : va_P E.1 vwCl (List.flatten [w_Model E a o ((x.1.1, x.1.2.1, x.1.2.2.1, x.1.2.2.2.1, x.1.2.2.2.2), (x.2.1.1, x.2.1.2.1, x.2.1.2.2.1, x.2.1.2.2.2.1, x.2.1.2.2.2.2), (x.2.2.1.1, x.2.2.1.2.1, x.2.2.1.2.2.1, x.2.2.1.2.2.2), (0, x.2.2.2.2.1, x.2.2.2.2.2.1, x.2.2.2.2.2.2))]) H := hP
  have hD : va_D A (List.flatten [w_Model E a o ((x.1.1, x.1.2.1, x.1.2.2.1, x.1.2.2.2.1, x.1.2.2.2.2), (x.2.1.1, x.2.1.2.1, x.2.1.2.2.1, x.2.1.2.2.2.1, x.2.1.2.2.2.2), (x.2.2.1.1, x.2.2.1.2.1, x.2.2.1.2.2.1, x.2.2.1.2.2.2), (0, x.2.2.2.2.1, x.2.2.2.2.2.1, x.2.2.2.2.2.2))]) := hD
  refine lv_iload_n hx hb dX11_done_5 rfl (lv_at hl 1 rfl) ?_
  obtain rfl := Option.some.inj hF
  exact en_i hQ (Nat.le_of_ble_eq_true rfl) (Nat.le_of_ble_eq_true rfl) hx hb hr hlocks hP hD hS rfl dX11_done_6

/-! X11_fails -/
theorem dX11_fails_0 : decode cX11_fails 0 = .ok (.aload_n 0, 1) := by decide +kernel
theorem dX11_fails_1 : decode cX11_fails 1 = .ok (.iload_n 1, 1) := by decide +kernel
theorem dX11_fails_2 : decode cX11_fails 2 = .ok (.putfield 42, 3) := by decide +kernel
theorem dX11_fails_5 : decode cX11_fails 5 = .ok (.iconst 0, 1) := by decide +kernel
theorem dX11_fails_6 : decode cX11_fails 6 = .ok (.ireturn, 1) := by decide +kernel
def f_X11_fails (x_thrown : Int32) (p1 : Int32) : Option (Int32 × Int32) :=
  some (0, p1)
theorem hv_X11_fails : yX11_fails.cls = RX11 ∧ yX11_fails.cls ≠ "java/lang/invoke/MethodHandle" ∧ yX11_fails.cls ≠ "java/lang/invoke/VarHandle" ∧ (parseMethodDescriptor yX11_fails.desc).map (fun d => d.parameters.length) = some 1 := by decide +kernel
abbrev rm_X11_fails : Room := { frames := 0, cells := 0, slots := 0, locals := 0 }
set_option maxHeartbeats 4000000 in
set_option maxRecDepth 100000 in
theorem k_X11_fails (l : Launch) (E : ET) (a : Nat → Nat) (o : Nat) (x : Model_t) (p1 : Int32) (res : Int32 × Int32) (hF : f_X11_fails x.2.2.2.1 p1 = some res) (sz : Nat) : CtI l yX11_fails (mws yX11_fails cX11_fails 2 (some .int)) rm_X11_fails 0 0 [.ref (a o), .int p1] E (bl_Model E a o x) res.1 (bl_Model E a o ((x.1.1, x.1.2.1, x.1.2.2.1, x.1.2.2.2.1, x.1.2.2.2.2), (x.2.1.1, x.2.1.2.1, x.2.1.2.2.1, x.2.1.2.2.2.1, x.2.1.2.2.2.2), (x.2.2.1.1, x.2.2.1.2.1, x.2.2.1.2.2.1, x.2.2.1.2.2.2), (res.2, x.2.2.2.2.1, x.2.2.2.2.2.1, x.2.2.2.2.2.2))) sz := by
  refine mk_M (by decide +kernel) (Nat.le_of_ble_eq_true rfl) ?_
  intro p e s m below meth c A args Q ls hAe hsz hQ hx hb hr hml hin ha hown hlocks hA hz hzs hst hP hD hS hl
  have hown : s.vm.findClass RX11 = some m.cls := hown
  rw [hAe] at hQ
  subst hsz
  have hP : va_P E.1 vwCl (List.flatten [w_Model E a o x]) s.heap := hP
  have hD : va_D A (List.flatten [w_Model E a o x]) := hD
  have hl : lv_has ls 2 [(0, .ref (a o)), (1, .int p1)] := hl
  generalize hHe : s.heap = H at hP
  have hS : va_S A s.heap H [] := by rw [← hHe]; exact hS
  generalize ([] : List Loc) = locs at hS ⊢
  unfold f_X11_fails at hF
  refine lv_aload_n hx hb dX11_fails_0 rfl (lv_at hl 0 rfl) ?_
  refine lv_iload_n hx hb dX11_fails_1 rfl (lv_at hl 1 rfl) ?_
  refine va_put (D := E.1) (ci := 13) (v := .int p1) (ty := .int) (C := RX11) (T := TX11) (N := 18) hx hb ha in_X11 tyX11 tyX11_ok nmX11 hown hst.k hP hD hS 0 rfl rfl 14 (by decide) (ha _ mw1650) (fun _ h9 => h9) rfl (tyX11_ok 14 (by decide)) rfl rfl (Nat.le_of_ble_eq_true rfl) dX11_fails_2 (fun H locs hP hD hS => ?_)
  have hP : va_P E.1 vwCl (List.flatten [w_Model E a o ((x.1.1, x.1.2.1, x.1.2.2.1, x.1.2.2.2.1, x.1.2.2.2.2), (x.2.1.1, x.2.1.2.1, x.2.1.2.2.1, x.2.1.2.2.2.1, x.2.1.2.2.2.2), (x.2.2.1.1, x.2.2.1.2.1, x.2.2.1.2.2.1, x.2.2.1.2.2.2), (p1, x.2.2.2.2.1, x.2.2.2.2.2.1, x.2.2.2.2.2.2))]) H := hP
  have hD : va_D A (List.flatten [w_Model E a o ((x.1.1, x.1.2.1, x.1.2.2.1, x.1.2.2.2.1, x.1.2.2.2.2), (x.2.1.1, x.2.1.2.1, x.2.1.2.2.1, x.2.1.2.2.2.1, x.2.1.2.2.2.2), (x.2.2.1.1, x.2.2.1.2.1, x.2.2.1.2.2.1, x.2.2.1.2.2.2), (p1, x.2.2.2.2.1, x.2.2.2.2.2.1, x.2.2.2.2.2.2))]) := hD
  refine lv_iconst (v := 0) hx hb dX11_fails_5 (by decide) ?_
  obtain rfl := Option.some.inj hF
  exact en_i hQ (Nat.le_of_ble_eq_true rfl) (Nat.le_of_ble_eq_true rfl) hx hb hr hlocks hP hD hS rfl dX11_fails_6

/-! X11_copy -/
theorem dX11_copy_0 : decode cX11_copy 0 = .ok (.iconst 0, 1) := by decide +kernel
theorem dX11_copy_1 : decode cX11_copy 1 = .ok (.istore 4, 2) := by decide +kernel
theorem dX11_copy_3 : decode cX11_copy 3 = .ok (.iload 4, 2) := by decide +kernel
theorem dX11_copy_5 : decode cX11_copy 5 = .ok (.bipush 77, 2) := by decide +kernel
theorem dX11_copy_7 : decode cX11_copy 7 = .ok (.if_icmp .ge 21, 3) := by decide +kernel
theorem dX11_copy_10 : decode cX11_copy 10 = .ok (.aload_n 2, 1) := by decide +kernel
theorem dX11_copy_11 : decode cX11_copy 11 = .ok (.iload_n 3, 1) := by decide +kernel
theorem dX11_copy_12 : decode cX11_copy 12 = .ok (.iload 4, 2) := by decide +kernel
theorem dX11_copy_14 : decode cX11_copy 14 = .ok (.iadd, 1) := by decide +kernel
theorem dX11_copy_15 : decode cX11_copy 15 = .ok (.aload_n 0, 1) := by decide +kernel
theorem dX11_copy_16 : decode cX11_copy 16 = .ok (.iload_n 1, 1) := by decide +kernel
theorem dX11_copy_17 : decode cX11_copy 17 = .ok (.iload 4, 2) := by decide +kernel
theorem dX11_copy_19 : decode cX11_copy 19 = .ok (.iadd, 1) := by decide +kernel
theorem dX11_copy_20 : decode cX11_copy 20 = .ok (.iaload, 1) := by decide +kernel
theorem dX11_copy_21 : decode cX11_copy 21 = .ok (.iastore, 1) := by decide +kernel
theorem dX11_copy_22 : decode cX11_copy 22 = .ok (.iinc 4 1, 3) := by decide +kernel
theorem dX11_copy_25 : decode cX11_copy 25 = .ok (.goto (-22), 3) := by decide +kernel
theorem dX11_copy_28 : decode cX11_copy 28 = .ok (.return_, 1) := by decide +kernel
def f_X11_copy_L3 (x_v : (Nat → Int32)) (nx : Nat) (p2 : Int32) (ny : Nat) (p4 : Int32) : Nat → Int32 → (Nat → Int32) → Option ((Nat → Int32))
  | 0, _, _ => none
  | n3 + 1, i1, i2 =>
    q_br (77 ≤ i1) (
  some i2) (
  q_gd (q_in (p2 + i1) nx) (
  q_gd (q_in (p4 + i1) ny) (
  q_lt (upd i2 ((p4 + i1).toNatClampNeg) (x_v ((p2 + i1).toNatClampNeg))) (fun u5 =>
  q_lt (i1 + 1 : Int32) (fun v6 =>
  f_X11_copy_L3 x_v nx p2 ny p4 n3 v6 u5)))))
def f_X11_copy (x_v : (Nat → Int32)) (y_v : (Nat → Int32)) (nx : Nat) (p2 : Int32) (ny : Nat) (p4 : Int32) : Option ((Nat → Int32)) :=
  f_X11_copy_L3 x_v nx p2 ny p4 2000 0 y_v
theorem hv_X11_copy : yX11_copy.cls = RX11 ∧ yX11_copy.cls ≠ "java/lang/invoke/MethodHandle" ∧ yX11_copy.cls ≠ "java/lang/invoke/VarHandle" ∧ (parseMethodDescriptor yX11_copy.desc).map (fun d => d.parameters.length) = some 4 := by decide +kernel
abbrev rm_X11_copy : Room := { frames := 0, cells := 0, slots := 0, locals := 0 }
set_option maxHeartbeats 4000000 in
set_option maxRecDepth 100000 in
theorem k_X11_copy (l : Launch) (E : ET) (a : Nat → Nat) (o : Nat) (x : (Nat → Int32)) (ay : Nat → Nat) (oy : Nat) (y : (Nat → Int32)) (nx : Nat) (p2 : Int32) (ny : Nat) (p4 : Int32) (res : (Nat → Int32)) (hF : f_X11_copy x y nx p2 ny p4 = some res) (sz : Nat) : CtV l yX11_copy (mws yX11_copy cX11_copy 5 none) rm_X11_copy 0 0 [.ref (a o), .int p2, .ref (ay oy), .int p4] E (bl_IntArr E a o nx x ++ bl_IntArr E ay oy ny y) (bl_IntArr E a o nx x ++ bl_IntArr E ay oy ny res) sz := by
  refine mk_M (by decide +kernel) (Nat.le_of_ble_eq_true rfl) ?_
  intro p e s m below meth c A args Q ls hAe hsz hQ hx hb hr hml hin ha hown hlocks hA hz hzs hst hP hD hS hl
  have hown : s.vm.findClass RX11 = some m.cls := hown
  rw [hAe] at hQ
  subst hsz
  have hP : va_P E.1 vwCl (List.flatten [w_IntArr E a o nx x, w_IntArr E ay oy ny y]) s.heap := hP
  have hD : va_D A (List.flatten [w_IntArr E a o nx x, w_IntArr E ay oy ny y]) := hD
  have hl : lv_has ls 5 [(0, .ref (a o)), (1, .int p2), (2, .ref (ay oy)), (3, .int p4)] := hl
  generalize hHe : s.heap = H at hP
  have hS : va_S A s.heap H [] := by rw [← hHe]; exact hS
  generalize ([] : List Loc) = locs at hS ⊢
  unfold f_X11_copy at hF
  refine lv_iconst (v := 0) hx hb dX11_copy_0 (by decide) ?_
  refine lv_istore (lv' := [(4, .int 0), (0, .ref (a o)), (1, .int p2), (2, .ref (ay oy)), (3, .int p4)]) hx hb dX11_copy_1 hl (by decide) rfl (fun ls hl => ?_)
  have key3 : ∀ (n : Nat) (i1 : Int32) (i2 : (Nat → Int32)) (H : Heap) (locs : List Loc) (ls : Array Slot), f_X11_copy_L3 x nx p2 ny p4 n i1 i2 = some res → va_P E.1 vwCl (List.flatten [w_IntArr E a o nx x, w_IntArr E ay oy ny i2]) H → va_D A (List.flatten [w_IntArr E a o nx x, w_IntArr E ay oy ny i2]) → va_S A s.heap H locs → lv_has ls 5 [(4, .int i1), (0, .ref (a o)), (1, .int p2), (2, .ref (ay oy)), (3, .int p4)] → W p l e rm_X11_copy s m args below meth c H locs 0 0 Q (F0 m 3 ls []) := by
    intro n3
    induction n3 with
    | zero => intro i1 i2 H locs ls hF; exact absurd hF (by simp [f_X11_copy_L3])
    | succ n3 ih3 =>
      intro i1 i2 H locs ls hF hP hD hS hl
      rw [f_X11_copy_L3] at hF
      refine lv_iload hx hb dX11_copy_3 (lv_at hl 0 rfl) ?_
      refine lv_bipush (v := 77) hx hb dX11_copy_5 (by decide) ?_
      refine lv_icmp_ge (tgt := 28) hx hb dX11_copy_7 (by decide) (fun c7 => ?_) (fun c7 => ?_)
      · have hF := q_brp c7 hF
        obtain rfl := Option.some.inj hF
        exact en_v hQ (Nat.le_of_ble_eq_true rfl) (Nat.le_of_ble_eq_true rfl) hx hb hr hlocks hP hD hS dX11_copy_28
      · have hF := q_brn c7 hF
        refine lv_aload_n hx hb dX11_copy_10 rfl (lv_at hl 3 rfl) ?_
        refine lv_iload_n hx hb dX11_copy_11 rfl (lv_at hl 4 rfl) ?_
        refine lv_iload hx hb dX11_copy_12 (lv_at hl 0 rfl) ?_
        refine lv_iadd hx hb dX11_copy_14 ?_
        refine lv_aload_n hx hb dX11_copy_15 rfl (lv_at hl 1 rfl) ?_
        refine lv_iload_n hx hb dX11_copy_16 rfl (lv_at hl 2 rfl) ?_
        refine lv_iload hx hb dX11_copy_17 (lv_at hl 0 rfl) ?_
        refine lv_iadd hx hb dX11_copy_19 ?_
        obtain ⟨g3, hF⟩ := q_gdi hF
        refine vi_iald hx hb hst.k hP 0 0 rfl rfl (f := x) (k := (p2 + i1).toNatClampNeg) rfl g3 dX11_copy_20 ?_
        obtain ⟨g4, hF⟩ := q_gdi hF
        refine vj_iast hx hb hst.k hP hD hS 1 0 rfl rfl (f := i2) (k := (p4 + i1).toNatClampNeg) rfl g4 dX11_copy_21 (fun u5 eu5 H locs hP hD hS => ?_)
        have hF := q_lti eu5 hF
        have hP : va_P E.1 vwCl (List.flatten [w_IntArr E a o nx x, w_IntArr E ay oy ny u5]) H := hP
        have hD : va_D A (List.flatten [w_IntArr E a o nx x, w_IntArr E ay oy ny u5]) := hD
        obtain ⟨v6, ev6⟩ : ∃ y : Int32, y = i1 + 1 := ⟨_, rfl⟩
        have hF := q_lti ev6 hF
        refine lv_iinc (v := v6) (lv' := [(4, .int v6), (0, .ref (a o)), (1, .int p2), (2, .ref (ay oy)), (3, .int p4)]) hx hb dX11_copy_22 hl (k := 0) rfl (by rw [ev6]; rfl) (by decide) rfl (fun ls hl => ?_)
        refine lv_goto (tgt := 3) hx hb dX11_copy_25 (by decide) ?_
        exact ih3 v6 u5 H locs ls hF hP hD hS (lv_sub hl [0, 1, 2, 3, 4] rfl)
  exact key3 _ 0 y H locs ls hF hP hD hS (lv_sub hl [0, 1, 2, 3, 4] rfl)

/-! X11_begin -/
theorem dX11_begin_0 : decode cX11_begin 0 = .ok (.aload_n 0, 1) := by decide +kernel
theorem dX11_begin_1 : decode cX11_begin 1 = .ok (.getfield 7, 3) := by decide +kernel
theorem dX11_begin_4 : decode cX11_begin 4 = .ok (.iconst 0, 1) := by decide +kernel
theorem dX11_begin_5 : decode cX11_begin 5 = .ok (.aload_n 0, 1) := by decide +kernel
theorem dX11_begin_6 : decode cX11_begin 6 = .ok (.getfield 13, 3) := by decide +kernel
theorem dX11_begin_9 : decode cX11_begin 9 = .ok (.iconst 0, 1) := by decide +kernel
theorem dX11_begin_10 : decode cX11_begin 10 = .ok (.invokestatic 45, 3) := by decide +kernel
theorem dX11_begin_13 : decode cX11_begin 13 = .ok (.return_, 1) := by decide +kernel
def f_X11_begin (x_g : (Nat → Int32)) (x_before : (Nat → Int32)) : Option ((Nat → Int32)) :=
  q_bd (f_X11_copy x_g x_before 77 0 77 0) (fun q1 =>
  some q1)
theorem hv_X11_begin : yX11_begin.cls = RX11 ∧ yX11_begin.cls ≠ "java/lang/invoke/MethodHandle" ∧ yX11_begin.cls ≠ "java/lang/invoke/VarHandle" ∧ (parseMethodDescriptor yX11_begin.desc).map (fun d => d.parameters.length) = some 0 := by decide +kernel
abbrev rm_X11_begin : Room := { frames := 1, cells := 0, slots := 0, locals := 24 }
set_option maxHeartbeats 4000000 in
set_option maxRecDepth 100000 in
theorem k_X11_begin (l : Launch) (E : ET) (a : Nat → Nat) (o : Nat) (x : Model_t) (res : (Nat → Int32)) (hF : f_X11_begin x.1.1 x.1.2.1 = some res) (sz : Nat) : CtV l yX11_begin (mws yX11_begin cX11_begin 1 none) rm_X11_begin 0 0 [.ref (a o)] E (bl_Model E a o x) (bl_Model E a o ((x.1.1, res, x.1.2.2.1, x.1.2.2.2.1, x.1.2.2.2.2), (x.2.1.1, x.2.1.2.1, x.2.1.2.2.1, x.2.1.2.2.2.1, x.2.1.2.2.2.2), (x.2.2.1.1, x.2.2.1.2.1, x.2.2.1.2.2.1, x.2.2.1.2.2.2), (x.2.2.2.1, x.2.2.2.2.1, x.2.2.2.2.2.1, x.2.2.2.2.2.2))) sz := by
  refine mk_M (by decide +kernel) (Nat.le_of_ble_eq_true rfl) ?_
  intro p e s m below meth c A args Q ls hAe hsz hQ hx hb hr hml hin ha hown hlocks hA hz hzs hst hP hD hS hl
  have hown : s.vm.findClass RX11 = some m.cls := hown
  rw [hAe] at hQ
  subst hsz
  have hP : va_P E.1 vwCl (List.flatten [w_Model E a o x]) s.heap := hP
  have hD : va_D A (List.flatten [w_Model E a o x]) := hD
  have hl : lv_has ls 1 [(0, .ref (a o))] := hl
  generalize hHe : s.heap = H at hP
  have hS : va_S A s.heap H [] := by rw [← hHe]; exact hS
  generalize ([] : List Loc) = locs at hS ⊢
  unfold f_X11_begin at hF
  refine lv_aload_n hx hb dX11_begin_0 rfl (lv_at hl 0 rfl) ?_
  refine va_get (D := E.1) (ci := 13) (v := .ref (a (o + 1))) (C := RX11) (T := TX11) (N := 18) hx hb ha in_X11 hown hst.k hP 0 rfl rfl 0 (by decide) (ha _ mw1636) (fun _ h9 => h9) rfl dX11_begin_1 ?_
  refine lv_iconst (v := 0) hx hb dX11_begin_4 (by decide) ?_
  refine lv_aload_n hx hb dX11_begin_5 rfl (lv_at hl 0 rfl) ?_
  refine va_get (D := E.1) (ci := 13) (v := .ref (a (o + 2))) (C := RX11) (T := TX11) (N := 18) hx hb ha in_X11 hown hst.k hP 0 rfl rfl 1 (by decide) (ha _ mw1637) (fun _ h9 => h9) rfl dX11_begin_6 ?_
  refine lv_iconst (v := 0) hx hb dX11_begin_9 (by decide) ?_
  have hP : va_P E.1 vwCl (List.flatten [[(a o, .inr (13, [.ref (a (o + 1)), .ref (a (o + 2)), .ref (a (o + 3)), .int x.1.2.2.2.1, .ref (a (o + 4)), .int x.2.1.1, .ref (a (o + 5)), .int x.2.1.2.2.1, .int x.2.1.2.2.2.1, .int x.2.1.2.2.2.2, .ref (a (o + 6)), .int x.2.2.1.2.1, .ref (a (o + 7)), .int x.2.2.1.2.2.2, .int x.2.2.2.1, .int x.2.2.2.2.1, .int x.2.2.2.2.2.1, .ref (a (o + 8))]))], [(a (o + 1), .inl (E.2 1, 77, .inl x.1.1))], [(a (o + 2), .inl (E.2 1, 77, .inl x.1.2.1))], [(a (o + 3), .inl (E.2 1, 616, .inl x.1.2.2.1))], [(a (o + 4), .inl (E.2 1, 77, .inl x.1.2.2.2.2))], [(a (o + 5), .inl (E.2 2, 60, .inl x.2.1.2.1))], [(a (o + 6), .inl (E.2 2, 80, .inl x.2.2.1.1))], [(a (o + 7), .inl (E.2 1, 24, .inl x.2.2.1.2.2.1))], [(a (o + 8), .inl (E.2 1, 180, .inl x.2.2.2.2.2.2))]]) H := hP
  have hD : va_D A (List.flatten [[(a o, .inr (13, [.ref (a (o + 1)), .ref (a (o + 2)), .ref (a (o + 3)), .int x.1.2.2.2.1, .ref (a (o + 4)), .int x.2.1.1, .ref (a (o + 5)), .int x.2.1.2.2.1, .int x.2.1.2.2.2.1, .int x.2.1.2.2.2.2, .ref (a (o + 6)), .int x.2.2.1.2.1, .ref (a (o + 7)), .int x.2.2.1.2.2.2, .int x.2.2.2.1, .int x.2.2.2.2.1, .int x.2.2.2.2.2.1, .ref (a (o + 8))]))], [(a (o + 1), .inl (E.2 1, 77, .inl x.1.1))], [(a (o + 2), .inl (E.2 1, 77, .inl x.1.2.1))], [(a (o + 3), .inl (E.2 1, 616, .inl x.1.2.2.1))], [(a (o + 4), .inl (E.2 1, 77, .inl x.1.2.2.2.2))], [(a (o + 5), .inl (E.2 2, 60, .inl x.2.1.2.1))], [(a (o + 6), .inl (E.2 2, 80, .inl x.2.2.1.1))], [(a (o + 7), .inl (E.2 1, 24, .inl x.2.2.1.2.2.1))], [(a (o + 8), .inl (E.2 1, 180, .inl x.2.2.2.2.2.2))]]) := hD
  obtain ⟨q1, hq1, hF⟩ := q_bdi hF
  refine cl_v (Lc := [[(a (o + 1), .inl (E.2 1, 77, .inl x.1.1))], [(a (o + 2), .inl (E.2 1, 77, .inl x.1.2.1))]]) (Lc' := [[(a (o + 1), .inl (E.2 1, 77, .inl x.1.1))], [(a (o + 2), .inl (E.2 1, 77, .inl q1))]]) (L' := [[(a o, .inr (13, [.ref (a (o + 1)), .ref (a (o + 2)), .ref (a (o + 3)), .int x.1.2.2.2.1, .ref (a (o + 4)), .int x.2.1.1, .ref (a (o + 5)), .int x.2.1.2.2.1, .int x.2.1.2.2.2.1, .int x.2.1.2.2.2.2, .ref (a (o + 6)), .int x.2.2.1.2.1, .ref (a (o + 7)), .int x.2.2.1.2.2.2, .int x.2.2.2.1, .int x.2.2.2.2.1, .int x.2.2.2.2.2.1, .ref (a (o + 8))]))], [(a (o + 1), .inl (E.2 1, 77, .inl x.1.1))], [(a (o + 2), .inl (E.2 1, 77, .inl q1))], [(a (o + 3), .inl (E.2 1, 616, .inl x.1.2.2.1))], [(a (o + 4), .inl (E.2 1, 77, .inl x.1.2.2.2.2))], [(a (o + 5), .inl (E.2 2, 60, .inl x.2.1.2.1))], [(a (o + 6), .inl (E.2 2, 80, .inl x.2.2.1.1))], [(a (o + 7), .inl (E.2 1, 24, .inl x.2.2.1.2.2.1))], [(a (o + 8), .inl (E.2 1, 180, .inl x.2.2.2.2.2.2))]]) (va_runS (As := [.ref (a (o + 1)), .int 0, .ref (a (o + 2)), .int 0]) (rest := []) ⟨hx, hb, hml, hown, ha⟩ (k_X11_copy l E a (o + 1) x.1.1 a (o + 2) x.1.2.1 77 0 77 0 q1 hq1 H.size) (cwS 4 ha (gi_S (fun _ h => h) mw1703 mw1704 mw87 mw1705) rfl rfl rfl hv_X11_copy ⟨(Nat.le_of_ble_eq_true rfl), (Nat.le_of_ble_eq_true rfl)⟩) ⟨pre_blind, pre_at hP hD hS hz hzs hst [1, 2] (by decide) rfl rfl⟩ rfl rfl hl.1 rfl (lv_room (Nat.le_of_ble_eq_true rfl)) dX11_begin_10 ⟨(Nat.le_of_ble_eq_true rfl), (Nat.le_of_ble_eq_true rfl)⟩) hP hD hS hA [1, 2] (by decide) rfl rfl rfl rfl (fun H locs hP hD hS => ?_)
  have hP : va_P E.1 vwCl (List.flatten [w_Model E a o ((x.1.1, q1, x.1.2.2.1, x.1.2.2.2.1, x.1.2.2.2.2), (x.2.1.1, x.2.1.2.1, x.2.1.2.2.1, x.2.1.2.2.2.1, x.2.1.2.2.2.2), (x.2.2.1.1, x.2.2.1.2.1, x.2.2.1.2.2.1, x.2.2.1.2.2.2), (x.2.2.2.1, x.2.2.2.2.1, x.2.2.2.2.2.1, x.2.2.2.2.2.2))]) H := hP
  have hD : va_D A (List.flatten [w_Model E a o ((x.1.1, q1, x.1.2.2.1, x.1.2.2.2.1, x.1.2.2.2.2), (x.2.1.1, x.2.1.2.1, x.2.1.2.2.1, x.2.1.2.2.2.1, x.2.1.2.2.2.2), (x.2.2.1.1, x.2.2.1.2.1, x.2.2.1.2.2.1, x.2.2.1.2.2.2), (x.2.2.2.1, x.2.2.2.2.1, x.2.2.2.2.2.1, x.2.2.2.2.2.2))]) := hD
  obtain rfl := Option.some.inj hF
  exact en_v hQ (Nat.le_of_ble_eq_true rfl) (Nat.le_of_ble_eq_true rfl) hx hb hr hlocks hP hD hS dX11_begin_13

/-! X11_kept -/
theorem dX11_kept_0 : decode cX11_kept 0 = .ok (.aload_n 0, 1) := by decide +kernel
theorem dX11_kept_1 : decode cX11_kept 1 = .ok (.getfield 42, 3) := by decide +kernel
theorem dX11_kept_4 : decode cX11_kept 4 = .ok (.ifCond .eq 18, 3) := by decide +kernel
theorem dX11_kept_7 : decode cX11_kept 7 = .ok (.aload_n 0, 1) := by decide +kernel
theorem dX11_kept_8 : decode cX11_kept 8 = .ok (.getfield 13, 3) := by decide +kernel
theorem dX11_kept_11 : decode cX11_kept 11 = .ok (.iconst 0, 1) := by decide +kernel
theorem dX11_kept_12 : decode cX11_kept 12 = .ok (.aload_n 0, 1) := by decide +kernel
theorem dX11_kept_13 : decode cX11_kept 13 = .ok (.getfield 7, 3) := by decide +kernel
theorem dX11_kept_16 : decode cX11_kept 16 = .ok (.iconst 0, 1) := by decide +kernel
theorem dX11_kept_17 : decode cX11_kept 17 = .ok (.invokestatic 45, 3) := by decide +kernel
theorem dX11_kept_20 : decode cX11_kept 20 = .ok (.iconst 0, 1) := by decide +kernel
theorem dX11_kept_21 : decode cX11_kept 21 = .ok (.ireturn, 1) := by decide +kernel
theorem dX11_kept_22 : decode cX11_kept 22 = .ok (.aload_n 0, 1) := by decide +kernel
theorem dX11_kept_23 : decode cX11_kept 23 = .ok (.getfield 49, 3) := by decide +kernel
theorem dX11_kept_26 : decode cX11_kept 26 = .ok (.bipush 8, 2) := by decide +kernel
theorem dX11_kept_28 : decode cX11_kept 28 = .ok (.if_icmp .ne 43, 3) := by decide +kernel
theorem dX11_kept_31 : decode cX11_kept 31 = .ok (.iconst 0, 1) := by decide +kernel
theorem dX11_kept_32 : decode cX11_kept 32 = .ok (.istore_n 2, 1) := by decide +kernel
theorem dX11_kept_33 : decode cX11_kept 33 = .ok (.iload_n 2, 1) := by decide +kernel
theorem dX11_kept_34 : decode cX11_kept 34 = .ok (.sipush 539, 3) := by decide +kernel
theorem dX11_kept_37 : decode cX11_kept 37 = .ok (.if_icmp .ge 24, 3) := by decide +kernel
theorem dX11_kept_40 : decode cX11_kept 40 = .ok (.aload_n 0, 1) := by decide +kernel
theorem dX11_kept_41 : decode cX11_kept 41 = .ok (.getfield 16, 3) := by decide +kernel
theorem dX11_kept_44 : decode cX11_kept 44 = .ok (.iload_n 2, 1) := by decide +kernel
theorem dX11_kept_45 : decode cX11_kept 45 = .ok (.aload_n 0, 1) := by decide +kernel
theorem dX11_kept_46 : decode cX11_kept 46 = .ok (.getfield 16, 3) := by decide +kernel
theorem dX11_kept_49 : decode cX11_kept 49 = .ok (.iload_n 2, 1) := by decide +kernel
theorem dX11_kept_50 : decode cX11_kept 50 = .ok (.bipush 77, 2) := by decide +kernel
theorem dX11_kept_52 : decode cX11_kept 52 = .ok (.iadd, 1) := by decide +kernel
theorem dX11_kept_53 : decode cX11_kept 53 = .ok (.iaload, 1) := by decide +kernel
theorem dX11_kept_54 : decode cX11_kept 54 = .ok (.iastore, 1) := by decide +kernel
theorem dX11_kept_55 : decode cX11_kept 55 = .ok (.iinc 2 1, 3) := by decide +kernel
theorem dX11_kept_58 : decode cX11_kept 58 = .ok (.goto (-25), 3) := by decide +kernel
theorem dX11_kept_61 : decode cX11_kept 61 = .ok (.aload_n 0, 1) := by decide +kernel
theorem dX11_kept_62 : decode cX11_kept 62 = .ok (.dup, 1) := by decide +kernel
theorem dX11_kept_63 : decode cX11_kept 63 = .ok (.getfield 49, 3) := by decide +kernel
theorem dX11_kept_66 : decode cX11_kept 66 = .ok (.iconst 1, 1) := by decide +kernel
theorem dX11_kept_67 : decode cX11_kept 67 = .ok (.isub, 1) := by decide +kernel
theorem dX11_kept_68 : decode cX11_kept 68 = .ok (.putfield 49, 3) := by decide +kernel
theorem dX11_kept_71 : decode cX11_kept 71 = .ok (.aload_n 0, 1) := by decide +kernel
theorem dX11_kept_72 : decode cX11_kept 72 = .ok (.getfield 13, 3) := by decide +kernel
theorem dX11_kept_75 : decode cX11_kept 75 = .ok (.iconst 0, 1) := by decide +kernel
theorem dX11_kept_76 : decode cX11_kept 76 = .ok (.aload_n 0, 1) := by decide +kernel
theorem dX11_kept_77 : decode cX11_kept 77 = .ok (.getfield 16, 3) := by decide +kernel
theorem dX11_kept_80 : decode cX11_kept 80 = .ok (.aload_n 0, 1) := by decide +kernel
theorem dX11_kept_81 : decode cX11_kept 81 = .ok (.getfield 49, 3) := by decide +kernel
theorem dX11_kept_84 : decode cX11_kept 84 = .ok (.bipush 77, 2) := by decide +kernel
theorem dX11_kept_86 : decode cX11_kept 86 = .ok (.imul, 1) := by decide +kernel
theorem dX11_kept_87 : decode cX11_kept 87 = .ok (.invokestatic 45, 3) := by decide +kernel
theorem dX11_kept_90 : decode cX11_kept 90 = .ok (.aload_n 0, 1) := by decide +kernel
theorem dX11_kept_91 : decode cX11_kept 91 = .ok (.dup, 1) := by decide +kernel
theorem dX11_kept_92 : decode cX11_kept 92 = .ok (.getfield 49, 3) := by decide +kernel
theorem dX11_kept_95 : decode cX11_kept 95 = .ok (.iconst 1, 1) := by decide +kernel
theorem dX11_kept_96 : decode cX11_kept 96 = .ok (.iadd, 1) := by decide +kernel
theorem dX11_kept_97 : decode cX11_kept 97 = .ok (.putfield 49, 3) := by decide +kernel
theorem dX11_kept_100 : decode cX11_kept 100 = .ok (.iload_n 1, 1) := by decide +kernel
theorem dX11_kept_101 : decode cX11_kept 101 = .ok (.ireturn, 1) := by decide +kernel
def f_X11_kept_L33 (K33 : (Nat → Int32) → Option (Int32 × (Nat → Int32) × (Nat → Int32) × Int32)) : Nat → Int32 → (Nat → Int32) → Option (Int32 × (Nat → Int32) × (Nat → Int32) × Int32)
  | 0, _, _ => none
  | n33 + 1, i4, i5 =>
    q_br (539 ≤ i4) (
  K33 i5) (
  q_gd (q_in (i4 + 77) 616) (
  q_gd (q_in i4 616) (
  q_lt (upd i5 (i4.toNatClampNeg) (i5 ((i4 + 77).toNatClampNeg))) (fun u9 =>
  q_lt (i4 + 1 : Int32) (fun v10 =>
  f_X11_kept_L33  K33 n33 v10 u9)))))
def f_X11_kept (x_g : (Nat → Int32)) (x_before : (Nat → Int32)) (x_history : (Nat → Int32)) (x_changes : Int32) (x_thrown : Int32) (p1 : Int32) : Option (Int32 × (Nat → Int32) × (Nat → Int32) × Int32) :=
  q_br (x_thrown = 0) (
  q_lt (fun (j1 : (Nat → Int32)) (j2 : Int32) =>
  q_bd (f_X11_copy x_before j1 77 0 616 (j2 * 77)) (fun q3 =>
  some (p1, x_g, q3, j2 + 1))) (fun (J71 : (Nat → Int32) → Int32 → Option (Int32 × (Nat → Int32) × (Nat → Int32) × Int32)) =>
  q_br (x_changes = 8) (
  f_X11_kept_L33  (fun y6 =>
  J71 y6 (x_changes - 1)) 2000 0 x_history) (
  J71 x_history x_changes))) (
  q_bd (f_X11_copy x_before x_g 77 0 77 0) (fun q11 =>
  some (0, q11, x_history, x_changes)))
theorem hv_X11_kept : yX11_kept.cls = RX11 ∧ yX11_kept.cls ≠ "java/lang/invoke/MethodHandle" ∧ yX11_kept.cls ≠ "java/lang/invoke/VarHandle" ∧ (parseMethodDescriptor yX11_kept.desc).map (fun d => d.parameters.length) = some 1 := by decide +kernel
abbrev rm_X11_kept : Room := { frames := 1, cells := 0, slots := 0, locals := 24 }
set_option maxHeartbeats 4000000 in
set_option maxRecDepth 100000 in
theorem k_X11_kept (l : Launch) (E : ET) (a : Nat → Nat) (o : Nat) (x : Model_t) (p1 : Int32) (res : Int32 × (Nat → Int32) × (Nat → Int32) × Int32) (hF : f_X11_kept x.1.1 x.1.2.1 x.1.2.2.1 x.1.2.2.2.1 x.2.2.2.1 p1 = some res) (sz : Nat) : CtI l yX11_kept (mws yX11_kept cX11_kept 3 (some .int)) rm_X11_kept 0 0 [.ref (a o), .int p1] E (bl_Model E a o x) res.1 (bl_Model E a o ((res.2.1, x.1.2.1, res.2.2.1, res.2.2.2, x.1.2.2.2.2), (x.2.1.1, x.2.1.2.1, x.2.1.2.2.1, x.2.1.2.2.2.1, x.2.1.2.2.2.2), (x.2.2.1.1, x.2.2.1.2.1, x.2.2.1.2.2.1, x.2.2.1.2.2.2), (x.2.2.2.1, x.2.2.2.2.1, x.2.2.2.2.2.1, x.2.2.2.2.2.2))) sz := by
  refine mk_M (by decide +kernel) (Nat.le_of_ble_eq_true rfl) ?_
  intro p e s m below meth c A args Q ls hAe hsz hQ hx hb hr hml hin ha hown hlocks hA hz hzs hst hP hD hS hl
  have hown : s.vm.findClass RX11 = some m.cls := hown
  rw [hAe] at hQ
  subst hsz
  have hP : va_P E.1 vwCl (List.flatten [w_Model E a o x]) s.heap := hP
  have hD : va_D A (List.flatten [w_Model E a o x]) := hD
  have hl : lv_has ls 3 [(0, .ref (a o)), (1, .int p1)] := hl
  generalize hHe : s.heap = H at hP
  have hS : va_S A s.heap H [] := by rw [← hHe]; exact hS
  generalize ([] : List Loc) = locs at hS ⊢
  unfold f_X11_kept at hF
  refine lv_aload_n hx hb dX11_kept_0 rfl (lv_at hl 0 rfl) ?_
  refine va_get (D := E.1) (ci := 13) (v := .int x.2.2.2.1) (C := RX11) (T := TX11) (N := 18) hx hb ha in_X11 hown hst.k hP 0 rfl rfl 14 (by decide) (ha _ mw1650) (fun _ h9 => h9) rfl dX11_kept_1 ?_
  refine lv_if_eq (tgt := 22) hx hb dX11_kept_4 (by decide) (fun c4 => ?_) (fun c4 => ?_)
  · have hF := q_brp c4 hF
    refine lv_aload_n hx hb dX11_kept_22 rfl (lv_at hl 0 rfl) ?_
    refine va_get (D := E.1) (ci := 13) (v := .int x.1.2.2.2.1) (C := RX11) (T := TX11) (N := 18) hx hb ha in_X11 hown hst.k hP 0 rfl rfl 3 (by decide) (ha _ mw1639) (fun _ h9 => h9) rfl dX11_kept_23 ?_
    refine lv_bipush (v := 8) hx hb dX11_kept_26 (by decide) ?_
    obtain ⟨J71, hJ71, hF⟩ := q_jn hF
    have jJ71 : ∀ (j1 : (Nat → Int32)) (j2 : Int32), ∀ (H : Heap) (locs : List Loc) (ls : Array Slot), J71 j1 j2 = some res → va_P E.1 vwCl (List.flatten [w_Model E a o ((x.1.1, x.1.2.1, j1, j2, x.1.2.2.2.2), (x.2.1.1, x.2.1.2.1, x.2.1.2.2.1, x.2.1.2.2.2.1, x.2.1.2.2.2.2), (x.2.2.1.1, x.2.2.1.2.1, x.2.2.1.2.2.1, x.2.2.1.2.2.2), (x.2.2.2.1, x.2.2.2.2.1, x.2.2.2.2.2.1, x.2.2.2.2.2.2))]) H → va_D A (List.flatten [w_Model E a o ((x.1.1, x.1.2.1, j1, j2, x.1.2.2.2.2), (x.2.1.1, x.2.1.2.1, x.2.1.2.2.1, x.2.1.2.2.2.1, x.2.1.2.2.2.2), (x.2.2.1.1, x.2.2.1.2.1, x.2.2.1.2.2.1, x.2.2.1.2.2.2), (x.2.2.2.1, x.2.2.2.2.1, x.2.2.2.2.2.1, x.2.2.2.2.2.2))]) → va_S A s.heap H locs → lv_has ls 3 [(0, .ref (a o)), (1, .int p1)] → W p l e rm_X11_kept s m args below meth c H locs 0 0 Q (F0 m 71 ls []) := by
      intro j1 j2 H locs ls hF hP hD hS hl
      rw [hJ71] at hF
      refine lv_aload_n hx hb dX11_kept_71 rfl (lv_at hl 0 rfl) ?_
      refine va_get (D := E.1) (ci := 13) (v := .ref (a (o + 2))) (C := RX11) (T := TX11) (N := 18) hx hb ha in_X11 hown hst.k hP 0 rfl rfl 1 (by decide) (ha _ mw1637) (fun _ h9 => h9) rfl dX11_kept_72 ?_
      refine lv_iconst (v := 0) hx hb dX11_kept_75 (by decide) ?_
      refine lv_aload_n hx hb dX11_kept_76 rfl (lv_at hl 0 rfl) ?_
      refine va_get (D := E.1) (ci := 13) (v := .ref (a (o + 3))) (C := RX11) (T := TX11) (N := 18) hx hb ha in_X11 hown hst.k hP 0 rfl rfl 2 (by decide) (ha _ mw1638) (fun _ h9 => h9) rfl dX11_kept_77 ?_
      refine lv_aload_n hx hb dX11_kept_80 rfl (lv_at hl 0 rfl) ?_
      refine va_get (D := E.1) (ci := 13) (v := .int j2) (C := RX11) (T := TX11) (N := 18) hx hb ha in_X11 hown hst.k hP 0 rfl rfl 3 (by decide) (ha _ mw1639) (fun _ h9 => h9) rfl dX11_kept_81 ?_
      refine lv_bipush (v := 77) hx hb dX11_kept_84 (by decide) ?_
      refine lv_imul hx hb dX11_kept_86 ?_
      have hP : va_P E.1 vwCl (List.flatten [[(a o, .inr (13, [.ref (a (o + 1)), .ref (a (o + 2)), .ref (a (o + 3)), .int j2, .ref (a (o + 4)), .int x.2.1.1, .ref (a (o + 5)), .int x.2.1.2.2.1, .int x.2.1.2.2.2.1, .int x.2.1.2.2.2.2, .ref (a (o + 6)), .int x.2.2.1.2.1, .ref (a (o + 7)), .int x.2.2.1.2.2.2, .int x.2.2.2.1, .int x.2.2.2.2.1, .int x.2.2.2.2.2.1, .ref (a (o + 8))]))], [(a (o + 1), .inl (E.2 1, 77, .inl x.1.1))], [(a (o + 2), .inl (E.2 1, 77, .inl x.1.2.1))], [(a (o + 3), .inl (E.2 1, 616, .inl j1))], [(a (o + 4), .inl (E.2 1, 77, .inl x.1.2.2.2.2))], [(a (o + 5), .inl (E.2 2, 60, .inl x.2.1.2.1))], [(a (o + 6), .inl (E.2 2, 80, .inl x.2.2.1.1))], [(a (o + 7), .inl (E.2 1, 24, .inl x.2.2.1.2.2.1))], [(a (o + 8), .inl (E.2 1, 180, .inl x.2.2.2.2.2.2))]]) H := hP
      have hD : va_D A (List.flatten [[(a o, .inr (13, [.ref (a (o + 1)), .ref (a (o + 2)), .ref (a (o + 3)), .int j2, .ref (a (o + 4)), .int x.2.1.1, .ref (a (o + 5)), .int x.2.1.2.2.1, .int x.2.1.2.2.2.1, .int x.2.1.2.2.2.2, .ref (a (o + 6)), .int x.2.2.1.2.1, .ref (a (o + 7)), .int x.2.2.1.2.2.2, .int x.2.2.2.1, .int x.2.2.2.2.1, .int x.2.2.2.2.2.1, .ref (a (o + 8))]))], [(a (o + 1), .inl (E.2 1, 77, .inl x.1.1))], [(a (o + 2), .inl (E.2 1, 77, .inl x.1.2.1))], [(a (o + 3), .inl (E.2 1, 616, .inl j1))], [(a (o + 4), .inl (E.2 1, 77, .inl x.1.2.2.2.2))], [(a (o + 5), .inl (E.2 2, 60, .inl x.2.1.2.1))], [(a (o + 6), .inl (E.2 2, 80, .inl x.2.2.1.1))], [(a (o + 7), .inl (E.2 1, 24, .inl x.2.2.1.2.2.1))], [(a (o + 8), .inl (E.2 1, 180, .inl x.2.2.2.2.2.2))]]) := hD
      obtain ⟨q3, hq3, hF⟩ := q_bdi hF
      refine cl_v (Lc := [[(a (o + 2), .inl (E.2 1, 77, .inl x.1.2.1))], [(a (o + 3), .inl (E.2 1, 616, .inl j1))]]) (Lc' := [[(a (o + 2), .inl (E.2 1, 77, .inl x.1.2.1))], [(a (o + 3), .inl (E.2 1, 616, .inl q3))]]) (L' := [[(a o, .inr (13, [.ref (a (o + 1)), .ref (a (o + 2)), .ref (a (o + 3)), .int j2, .ref (a (o + 4)), .int x.2.1.1, .ref (a (o + 5)), .int x.2.1.2.2.1, .int x.2.1.2.2.2.1, .int x.2.1.2.2.2.2, .ref (a (o + 6)), .int x.2.2.1.2.1, .ref (a (o + 7)), .int x.2.2.1.2.2.2, .int x.2.2.2.1, .int x.2.2.2.2.1, .int x.2.2.2.2.2.1, .ref (a (o + 8))]))], [(a (o + 1), .inl (E.2 1, 77, .inl x.1.1))], [(a (o + 2), .inl (E.2 1, 77, .inl x.1.2.1))], [(a (o + 3), .inl (E.2 1, 616, .inl q3))], [(a (o + 4), .inl (E.2 1, 77, .inl x.1.2.2.2.2))], [(a (o + 5), .inl (E.2 2, 60, .inl x.2.1.2.1))], [(a (o + 6), .inl (E.2 2, 80, .inl x.2.2.1.1))], [(a (o + 7), .inl (E.2 1, 24, .inl x.2.2.1.2.2.1))], [(a (o + 8), .inl (E.2 1, 180, .inl x.2.2.2.2.2.2))]]) (va_runS (As := [.ref (a (o + 2)), .int 0, .ref (a (o + 3)), .int (j2 * 77)]) (rest := []) ⟨hx, hb, hml, hown, ha⟩ (k_X11_copy l E a (o + 2) x.1.2.1 a (o + 3) j1 77 0 616 (j2 * 77) q3 hq3 H.size) (cwS 4 ha (gi_S (fun _ h => h) mw1703 mw1704 mw87 mw1705) rfl rfl rfl hv_X11_copy ⟨(Nat.le_of_ble_eq_true rfl), (Nat.le_of_ble_eq_true rfl)⟩) ⟨pre_blind, pre_at hP hD hS hz hzs hst [2, 3] (by decide) rfl rfl⟩ rfl rfl hl.1 rfl (lv_room (Nat.le_of_ble_eq_true rfl)) dX11_kept_87 ⟨(Nat.le_of_ble_eq_true rfl), (Nat.le_of_ble_eq_true rfl)⟩) hP hD hS hA [2, 3] (by decide) rfl rfl rfl rfl (fun H locs hP hD hS => ?_)
      have hP : va_P E.1 vwCl (List.flatten [w_Model E a o ((x.1.1, x.1.2.1, q3, j2, x.1.2.2.2.2), (x.2.1.1, x.2.1.2.1, x.2.1.2.2.1, x.2.1.2.2.2.1, x.2.1.2.2.2.2), (x.2.2.1.1, x.2.2.1.2.1, x.2.2.1.2.2.1, x.2.2.1.2.2.2), (x.2.2.2.1, x.2.2.2.2.1, x.2.2.2.2.2.1, x.2.2.2.2.2.2))]) H := hP
      have hD : va_D A (List.flatten [w_Model E a o ((x.1.1, x.1.2.1, q3, j2, x.1.2.2.2.2), (x.2.1.1, x.2.1.2.1, x.2.1.2.2.1, x.2.1.2.2.2.1, x.2.1.2.2.2.2), (x.2.2.1.1, x.2.2.1.2.1, x.2.2.1.2.2.1, x.2.2.1.2.2.2), (x.2.2.2.1, x.2.2.2.2.1, x.2.2.2.2.2.1, x.2.2.2.2.2.2))]) := hD
      refine lv_aload_n hx hb dX11_kept_90 rfl (lv_at hl 0 rfl) ?_
      refine lv_dup hx hb dX11_kept_91 rfl ?_
      refine va_get (D := E.1) (ci := 13) (v := .int j2) (C := RX11) (T := TX11) (N := 18) hx hb ha in_X11 hown hst.k hP 0 rfl rfl 3 (by decide) (ha _ mw1639) (fun _ h9 => h9) rfl dX11_kept_92 ?_
      refine lv_iconst (v := 1) hx hb dX11_kept_95 (by decide) ?_
      refine lv_iadd hx hb dX11_kept_96 ?_
      refine va_put (D := E.1) (ci := 13) (v := .int (j2 + 1)) (ty := .int) (C := RX11) (T := TX11) (N := 18) hx hb ha in_X11 tyX11 tyX11_ok nmX11 hown hst.k hP hD hS 0 rfl rfl 3 (by decide) (ha _ mw1639) (fun _ h9 => h9) rfl (tyX11_ok 3 (by decide)) rfl rfl (Nat.le_of_ble_eq_true rfl) dX11_kept_97 (fun H locs hP hD hS => ?_)
      have hP : va_P E.1 vwCl (List.flatten [w_Model E a o ((x.1.1, x.1.2.1, q3, j2 + 1, x.1.2.2.2.2), (x.2.1.1, x.2.1.2.1, x.2.1.2.2.1, x.2.1.2.2.2.1, x.2.1.2.2.2.2), (x.2.2.1.1, x.2.2.1.2.1, x.2.2.1.2.2.1, x.2.2.1.2.2.2), (x.2.2.2.1, x.2.2.2.2.1, x.2.2.2.2.2.1, x.2.2.2.2.2.2))]) H := hP
      have hD : va_D A (List.flatten [w_Model E a o ((x.1.1, x.1.2.1, q3, j2 + 1, x.1.2.2.2.2), (x.2.1.1, x.2.1.2.1, x.2.1.2.2.1, x.2.1.2.2.2.1, x.2.1.2.2.2.2), (x.2.2.1.1, x.2.2.1.2.1, x.2.2.1.2.2.1, x.2.2.1.2.2.2), (x.2.2.2.1, x.2.2.2.2.1, x.2.2.2.2.2.1, x.2.2.2.2.2.2))]) := hD
      refine lv_iload_n hx hb dX11_kept_100 rfl (lv_at hl 1 rfl) ?_
      obtain rfl := Option.some.inj hF
      exact en_i hQ (Nat.le_of_ble_eq_true rfl) (Nat.le_of_ble_eq_true rfl) hx hb hr hlocks hP hD hS rfl dX11_kept_101
    refine lv_icmp_ne (tgt := 71) hx hb dX11_kept_28 (by decide) (fun c28 => ?_) (fun c28 => ?_)
    · have hF := q_brn c28 hF
      exact jJ71 x.1.2.2.1 x.1.2.2.2.1 H locs ls hF hP hD hS (lv_sub hl [0, 1] rfl)
    · have hF := q_brp c28 hF
      refine lv_iconst (v := 0) hx hb dX11_kept_31 (by decide) ?_
      refine lv_istore_n (lv' := [(2, .int 0), (0, .ref (a o)), (1, .int p1)]) hx hb dX11_kept_32 rfl hl (by decide) rfl (fun ls hl => ?_)
      have key33 : ∀ (K : (Nat → Int32) → Option (Int32 × (Nat → Int32) × (Nat → Int32) × Int32)), (∀ (y6 : (Nat → Int32)) (H : Heap) (locs : List Loc) (ls : Array Slot), K y6 = some res → va_P E.1 vwCl (List.flatten [w_Model E a o ((x.1.1, x.1.2.1, y6, x.1.2.2.2.1, x.1.2.2.2.2), (x.2.1.1, x.2.1.2.1, x.2.1.2.2.1, x.2.1.2.2.2.1, x.2.1.2.2.2.2), (x.2.2.1.1, x.2.2.1.2.1, x.2.2.1.2.2.1, x.2.2.1.2.2.2), (x.2.2.2.1, x.2.2.2.2.1, x.2.2.2.2.2.1, x.2.2.2.2.2.2))]) H → va_D A (List.flatten [w_Model E a o ((x.1.1, x.1.2.1, y6, x.1.2.2.2.1, x.1.2.2.2.2), (x.2.1.1, x.2.1.2.1, x.2.1.2.2.1, x.2.1.2.2.2.1, x.2.1.2.2.2.2), (x.2.2.1.1, x.2.2.1.2.1, x.2.2.1.2.2.1, x.2.2.1.2.2.2), (x.2.2.2.1, x.2.2.2.2.1, x.2.2.2.2.2.1, x.2.2.2.2.2.2))]) → va_S A s.heap H locs → lv_has ls 3 [(0, .ref (a o)), (1, .int p1)] → W p l e rm_X11_kept s m args below meth c H locs 0 0 Q (F0 m 61 ls [])) → ∀ (n : Nat) (i4 : Int32) (i5 : (Nat → Int32)) (H : Heap) (locs : List Loc) (ls : Array Slot), f_X11_kept_L33  K n i4 i5 = some res → va_P E.1 vwCl (List.flatten [w_Model E a o ((x.1.1, x.1.2.1, i5, x.1.2.2.2.1, x.1.2.2.2.2), (x.2.1.1, x.2.1.2.1, x.2.1.2.2.1, x.2.1.2.2.2.1, x.2.1.2.2.2.2), (x.2.2.1.1, x.2.2.1.2.1, x.2.2.1.2.2.1, x.2.2.1.2.2.2), (x.2.2.2.1, x.2.2.2.2.1, x.2.2.2.2.2.1, x.2.2.2.2.2.2))]) H → va_D A (List.flatten [w_Model E a o ((x.1.1, x.1.2.1, i5, x.1.2.2.2.1, x.1.2.2.2.2), (x.2.1.1, x.2.1.2.1, x.2.1.2.2.1, x.2.1.2.2.2.1, x.2.1.2.2.2.2), (x.2.2.1.1, x.2.2.1.2.1, x.2.2.1.2.2.1, x.2.2.1.2.2.2), (x.2.2.2.1, x.2.2.2.2.1, x.2.2.2.2.2.1, x.2.2.2.2.2.2))]) → va_S A s.heap H locs → lv_has ls 3 [(2, .int i4), (0, .ref (a o)), (1, .int p1)] → W p l e rm_X11_kept s m args below meth c H locs 0 0 Q (F0 m 33 ls []) := by
        intro K33 hK33 n33
        induction n33 with
        | zero => intro i4 i5 H locs ls hF; exact absurd hF (by simp [f_X11_kept_L33])
        | succ n33 ih33 =>
          intro i4 i5 H locs ls hF hP hD hS hl
          rw [f_X11_kept_L33] at hF
          refine lv_iload_n hx hb dX11_kept_33 rfl (lv_at hl 0 rfl) ?_
          refine lv_sipush (v := 539) hx hb dX11_kept_34 (by decide) ?_
          refine lv_icmp_ge (tgt := 61) hx hb dX11_kept_37 (by decide) (fun c37 => ?_) (fun c37 => ?_)
          · have hF := q_brp c37 hF
            exact hK33 i5 H locs ls hF hP hD hS (lv_sub hl [1, 2] rfl)
          · have hF := q_brn c37 hF
            refine lv_aload_n hx hb dX11_kept_40 rfl (lv_at hl 1 rfl) ?_
            refine va_get (D := E.1) (ci := 13) (v := .ref (a (o + 3))) (C := RX11) (T := TX11) (N := 18) hx hb ha in_X11 hown hst.k hP 0 rfl rfl 2 (by decide) (ha _ mw1638) (fun _ h9 => h9) rfl dX11_kept_41 ?_
            refine lv_iload_n hx hb dX11_kept_44 rfl (lv_at hl 0 rfl) ?_
            refine lv_aload_n hx hb dX11_kept_45 rfl (lv_at hl 1 rfl) ?_
            refine va_get (D := E.1) (ci := 13) (v := .ref (a (o + 3))) (C := RX11) (T := TX11) (N := 18) hx hb ha in_X11 hown hst.k hP 0 rfl rfl 2 (by decide) (ha _ mw1638) (fun _ h9 => h9) rfl dX11_kept_46 ?_
            refine lv_iload_n hx hb dX11_kept_49 rfl (lv_at hl 0 rfl) ?_
            refine lv_bipush (v := 77) hx hb dX11_kept_50 (by decide) ?_
            refine lv_iadd hx hb dX11_kept_52 ?_
            obtain ⟨g7, hF⟩ := q_gdi hF
            refine vi_iald hx hb hst.k hP 3 0 rfl rfl (f := i5) (k := (i4 + 77).toNatClampNeg) rfl g7 dX11_kept_53 ?_
            obtain ⟨g8, hF⟩ := q_gdi hF
            refine vj_iast hx hb hst.k hP hD hS 3 0 rfl rfl (f := i5) (k := i4.toNatClampNeg) rfl g8 dX11_kept_54 (fun u9 eu9 H locs hP hD hS => ?_)
            have hF := q_lti eu9 hF
            have hP : va_P E.1 vwCl (List.flatten [w_Model E a o ((x.1.1, x.1.2.1, u9, x.1.2.2.2.1, x.1.2.2.2.2), (x.2.1.1, x.2.1.2.1, x.2.1.2.2.1, x.2.1.2.2.2.1, x.2.1.2.2.2.2), (x.2.2.1.1, x.2.2.1.2.1, x.2.2.1.2.2.1, x.2.2.1.2.2.2), (x.2.2.2.1, x.2.2.2.2.1, x.2.2.2.2.2.1, x.2.2.2.2.2.2))]) H := hP
            have hD : va_D A (List.flatten [w_Model E a o ((x.1.1, x.1.2.1, u9, x.1.2.2.2.1, x.1.2.2.2.2), (x.2.1.1, x.2.1.2.1, x.2.1.2.2.1, x.2.1.2.2.2.1, x.2.1.2.2.2.2), (x.2.2.1.1, x.2.2.1.2.1, x.2.2.1.2.2.1, x.2.2.1.2.2.2), (x.2.2.2.1, x.2.2.2.2.1, x.2.2.2.2.2.1, x.2.2.2.2.2.2))]) := hD
            obtain ⟨v10, ev10⟩ : ∃ y : Int32, y = i4 + 1 := ⟨_, rfl⟩
            have hF := q_lti ev10 hF
            refine lv_iinc (v := v10) (lv' := [(2, .int v10), (0, .ref (a o)), (1, .int p1)]) hx hb dX11_kept_55 hl (k := 0) rfl (by rw [ev10]; rfl) (by decide) rfl (fun ls hl => ?_)
            refine lv_goto (tgt := 33) hx hb dX11_kept_58 (by decide) ?_
            exact ih33 v10 u9 H locs ls hF hP hD hS (lv_sub hl [0, 1, 2] rfl)
      refine key33 _ ?_ _ 0 x.1.2.2.1 H locs ls hF hP hD hS (lv_sub hl [0, 1, 2] rfl)
      intro y6 H locs ls hF hP hD hS hl
      refine lv_aload_n hx hb dX11_kept_61 rfl (lv_at hl 0 rfl) ?_
      refine lv_dup hx hb dX11_kept_62 rfl ?_
      refine va_get (D := E.1) (ci := 13) (v := .int x.1.2.2.2.1) (C := RX11) (T := TX11) (N := 18) hx hb ha in_X11 hown hst.k hP 0 rfl rfl 3 (by decide) (ha _ mw1639) (fun _ h9 => h9) rfl dX11_kept_63 ?_
      refine lv_iconst (v := 1) hx hb dX11_kept_66 (by decide) ?_
      refine lv_isub hx hb dX11_kept_67 ?_
      refine va_put (D := E.1) (ci := 13) (v := .int (x.1.2.2.2.1 - 1)) (ty := .int) (C := RX11) (T := TX11) (N := 18) hx hb ha in_X11 tyX11 tyX11_ok nmX11 hown hst.k hP hD hS 0 rfl rfl 3 (by decide) (ha _ mw1639) (fun _ h9 => h9) rfl (tyX11_ok 3 (by decide)) rfl rfl (Nat.le_of_ble_eq_true rfl) dX11_kept_68 (fun H locs hP hD hS => ?_)
      have hP : va_P E.1 vwCl (List.flatten [w_Model E a o ((x.1.1, x.1.2.1, y6, x.1.2.2.2.1 - 1, x.1.2.2.2.2), (x.2.1.1, x.2.1.2.1, x.2.1.2.2.1, x.2.1.2.2.2.1, x.2.1.2.2.2.2), (x.2.2.1.1, x.2.2.1.2.1, x.2.2.1.2.2.1, x.2.2.1.2.2.2), (x.2.2.2.1, x.2.2.2.2.1, x.2.2.2.2.2.1, x.2.2.2.2.2.2))]) H := hP
      have hD : va_D A (List.flatten [w_Model E a o ((x.1.1, x.1.2.1, y6, x.1.2.2.2.1 - 1, x.1.2.2.2.2), (x.2.1.1, x.2.1.2.1, x.2.1.2.2.1, x.2.1.2.2.2.1, x.2.1.2.2.2.2), (x.2.2.1.1, x.2.2.1.2.1, x.2.2.1.2.2.1, x.2.2.1.2.2.2), (x.2.2.2.1, x.2.2.2.2.1, x.2.2.2.2.2.1, x.2.2.2.2.2.2))]) := hD
      exact jJ71 y6 (x.1.2.2.2.1 - 1) H locs ls hF hP hD hS (lv_sub hl [0, 1] rfl)
  · have hF := q_brn c4 hF
    refine lv_aload_n hx hb dX11_kept_7 rfl (lv_at hl 0 rfl) ?_
    refine va_get (D := E.1) (ci := 13) (v := .ref (a (o + 2))) (C := RX11) (T := TX11) (N := 18) hx hb ha in_X11 hown hst.k hP 0 rfl rfl 1 (by decide) (ha _ mw1637) (fun _ h9 => h9) rfl dX11_kept_8 ?_
    refine lv_iconst (v := 0) hx hb dX11_kept_11 (by decide) ?_
    refine lv_aload_n hx hb dX11_kept_12 rfl (lv_at hl 0 rfl) ?_
    refine va_get (D := E.1) (ci := 13) (v := .ref (a (o + 1))) (C := RX11) (T := TX11) (N := 18) hx hb ha in_X11 hown hst.k hP 0 rfl rfl 0 (by decide) (ha _ mw1636) (fun _ h9 => h9) rfl dX11_kept_13 ?_
    refine lv_iconst (v := 0) hx hb dX11_kept_16 (by decide) ?_
    have hP : va_P E.1 vwCl (List.flatten [[(a o, .inr (13, [.ref (a (o + 1)), .ref (a (o + 2)), .ref (a (o + 3)), .int x.1.2.2.2.1, .ref (a (o + 4)), .int x.2.1.1, .ref (a (o + 5)), .int x.2.1.2.2.1, .int x.2.1.2.2.2.1, .int x.2.1.2.2.2.2, .ref (a (o + 6)), .int x.2.2.1.2.1, .ref (a (o + 7)), .int x.2.2.1.2.2.2, .int x.2.2.2.1, .int x.2.2.2.2.1, .int x.2.2.2.2.2.1, .ref (a (o + 8))]))], [(a (o + 1), .inl (E.2 1, 77, .inl x.1.1))], [(a (o + 2), .inl (E.2 1, 77, .inl x.1.2.1))], [(a (o + 3), .inl (E.2 1, 616, .inl x.1.2.2.1))], [(a (o + 4), .inl (E.2 1, 77, .inl x.1.2.2.2.2))], [(a (o + 5), .inl (E.2 2, 60, .inl x.2.1.2.1))], [(a (o + 6), .inl (E.2 2, 80, .inl x.2.2.1.1))], [(a (o + 7), .inl (E.2 1, 24, .inl x.2.2.1.2.2.1))], [(a (o + 8), .inl (E.2 1, 180, .inl x.2.2.2.2.2.2))]]) H := hP
    have hD : va_D A (List.flatten [[(a o, .inr (13, [.ref (a (o + 1)), .ref (a (o + 2)), .ref (a (o + 3)), .int x.1.2.2.2.1, .ref (a (o + 4)), .int x.2.1.1, .ref (a (o + 5)), .int x.2.1.2.2.1, .int x.2.1.2.2.2.1, .int x.2.1.2.2.2.2, .ref (a (o + 6)), .int x.2.2.1.2.1, .ref (a (o + 7)), .int x.2.2.1.2.2.2, .int x.2.2.2.1, .int x.2.2.2.2.1, .int x.2.2.2.2.2.1, .ref (a (o + 8))]))], [(a (o + 1), .inl (E.2 1, 77, .inl x.1.1))], [(a (o + 2), .inl (E.2 1, 77, .inl x.1.2.1))], [(a (o + 3), .inl (E.2 1, 616, .inl x.1.2.2.1))], [(a (o + 4), .inl (E.2 1, 77, .inl x.1.2.2.2.2))], [(a (o + 5), .inl (E.2 2, 60, .inl x.2.1.2.1))], [(a (o + 6), .inl (E.2 2, 80, .inl x.2.2.1.1))], [(a (o + 7), .inl (E.2 1, 24, .inl x.2.2.1.2.2.1))], [(a (o + 8), .inl (E.2 1, 180, .inl x.2.2.2.2.2.2))]]) := hD
    obtain ⟨q11, hq11, hF⟩ := q_bdi hF
    refine cl_v (Lc := [[(a (o + 2), .inl (E.2 1, 77, .inl x.1.2.1))], [(a (o + 1), .inl (E.2 1, 77, .inl x.1.1))]]) (Lc' := [[(a (o + 2), .inl (E.2 1, 77, .inl x.1.2.1))], [(a (o + 1), .inl (E.2 1, 77, .inl q11))]]) (L' := [[(a o, .inr (13, [.ref (a (o + 1)), .ref (a (o + 2)), .ref (a (o + 3)), .int x.1.2.2.2.1, .ref (a (o + 4)), .int x.2.1.1, .ref (a (o + 5)), .int x.2.1.2.2.1, .int x.2.1.2.2.2.1, .int x.2.1.2.2.2.2, .ref (a (o + 6)), .int x.2.2.1.2.1, .ref (a (o + 7)), .int x.2.2.1.2.2.2, .int x.2.2.2.1, .int x.2.2.2.2.1, .int x.2.2.2.2.2.1, .ref (a (o + 8))]))], [(a (o + 1), .inl (E.2 1, 77, .inl q11))], [(a (o + 2), .inl (E.2 1, 77, .inl x.1.2.1))], [(a (o + 3), .inl (E.2 1, 616, .inl x.1.2.2.1))], [(a (o + 4), .inl (E.2 1, 77, .inl x.1.2.2.2.2))], [(a (o + 5), .inl (E.2 2, 60, .inl x.2.1.2.1))], [(a (o + 6), .inl (E.2 2, 80, .inl x.2.2.1.1))], [(a (o + 7), .inl (E.2 1, 24, .inl x.2.2.1.2.2.1))], [(a (o + 8), .inl (E.2 1, 180, .inl x.2.2.2.2.2.2))]]) (va_runS (As := [.ref (a (o + 2)), .int 0, .ref (a (o + 1)), .int 0]) (rest := []) ⟨hx, hb, hml, hown, ha⟩ (k_X11_copy l E a (o + 2) x.1.2.1 a (o + 1) x.1.1 77 0 77 0 q11 hq11 H.size) (cwS 4 ha (gi_S (fun _ h => h) mw1703 mw1704 mw87 mw1705) rfl rfl rfl hv_X11_copy ⟨(Nat.le_of_ble_eq_true rfl), (Nat.le_of_ble_eq_true rfl)⟩) ⟨pre_blind, pre_at hP hD hS hz hzs hst [2, 1] (by decide) rfl rfl⟩ rfl rfl hl.1 rfl (lv_room (Nat.le_of_ble_eq_true rfl)) dX11_kept_17 ⟨(Nat.le_of_ble_eq_true rfl), (Nat.le_of_ble_eq_true rfl)⟩) hP hD hS hA [2, 1] (by decide) rfl rfl rfl rfl (fun H locs hP hD hS => ?_)
    have hP : va_P E.1 vwCl (List.flatten [w_Model E a o ((q11, x.1.2.1, x.1.2.2.1, x.1.2.2.2.1, x.1.2.2.2.2), (x.2.1.1, x.2.1.2.1, x.2.1.2.2.1, x.2.1.2.2.2.1, x.2.1.2.2.2.2), (x.2.2.1.1, x.2.2.1.2.1, x.2.2.1.2.2.1, x.2.2.1.2.2.2), (x.2.2.2.1, x.2.2.2.2.1, x.2.2.2.2.2.1, x.2.2.2.2.2.2))]) H := hP
    have hD : va_D A (List.flatten [w_Model E a o ((q11, x.1.2.1, x.1.2.2.1, x.1.2.2.2.1, x.1.2.2.2.2), (x.2.1.1, x.2.1.2.1, x.2.1.2.2.1, x.2.1.2.2.2.1, x.2.1.2.2.2.2), (x.2.2.1.1, x.2.2.1.2.1, x.2.2.1.2.2.1, x.2.2.1.2.2.2), (x.2.2.2.1, x.2.2.2.2.1, x.2.2.2.2.2.1, x.2.2.2.2.2.2))]) := hD
    refine lv_iconst (v := 0) hx hb dX11_kept_20 (by decide) ?_
    obtain rfl := Option.some.inj hF
    exact en_i hQ (Nat.le_of_ble_eq_true rfl) (Nat.le_of_ble_eq_true rfl) hx hb hr hlocks hP hD hS rfl dX11_kept_21

/-! X11_isBell -/
theorem dX11_isBell_0 : decode cX11_isBell 0 = .ok (.iload_n 1, 1) := by decide +kernel
theorem dX11_isBell_1 : decode cX11_isBell 1 = .ok (.iconst 0, 1) := by decide +kernel
theorem dX11_isBell_2 : decode cX11_isBell 2 = .ok (.aload_n 0, 1) := by decide +kernel
theorem dX11_isBell_3 : decode cX11_isBell 3 = .ok (.getfield 7, 3) := by decide +kernel
theorem dX11_isBell_6 : decode cX11_isBell 6 = .ok (.iconst 0, 1) := by decide +kernel
theorem dX11_isBell_7 : decode cX11_isBell 7 = .ok (.iaload, 1) := by decide +kernel
theorem dX11_isBell_8 : decode cX11_isBell 8 = .ok (.iconst 1, 1) := by decide +kernel
theorem dX11_isBell_9 : decode cX11_isBell 9 = .ok (.isub, 1) := by decide +kernel
theorem dX11_isBell_10 : decode cX11_isBell 10 = .ok (.invokestatic 52, 3) := by decide +kernel
theorem dX11_isBell_13 : decode cX11_isBell 13 = .ok (.ireturn, 1) := by decide +kernel
def f_X11_isBell (x_g : (Nat → Int32)) (p1 : Int32) : Option (Int32) :=
  q_bd (f_X11_in p1 0 ((x_g 0) - 1)) (fun q1 =>
  q_gd (q1 = 0 ∨ q1 = 1) (
  some q1))
theorem hv_X11_isBell : yX11_isBell.cls = RX11 ∧ yX11_isBell.cls ≠ "java/lang/invoke/MethodHandle" ∧ yX11_isBell.cls ≠ "java/lang/invoke/VarHandle" ∧ (parseMethodDescriptor yX11_isBell.desc).map (fun d => d.parameters.length) = some 1 := by decide +kernel
abbrev rm_X11_isBell : Room := { frames := 1, cells := 0, slots := 0, locals := 22 }
set_option maxHeartbeats 4000000 in
set_option maxRecDepth 100000 in
theorem k_X11_isBell (l : Launch) (E : ET) (a : Nat → Nat) (o : Nat) (x : Model_t) (p1 : Int32) (res : Int32) (hF : f_X11_isBell x.1.1 p1 = some res) (sz : Nat) : CtI l yX11_isBell (mws yX11_isBell cX11_isBell 2 (some .boolean)) rm_X11_isBell 0 0 [.ref (a o), .int p1] E (bl_Model E a o x) res (bl_Model E a o x) sz := by
  refine mk_M (by decide +kernel) (Nat.le_of_ble_eq_true rfl) ?_
  intro p e s m below meth c A args Q ls hAe hsz hQ hx hb hr hml hin ha hown hlocks hA hz hzs hst hP hD hS hl
  have hown : s.vm.findClass RX11 = some m.cls := hown
  rw [hAe] at hQ
  subst hsz
  have hP : va_P E.1 vwCl (List.flatten [w_Model E a o x]) s.heap := hP
  have hD : va_D A (List.flatten [w_Model E a o x]) := hD
  have hl : lv_has ls 2 [(0, .ref (a o)), (1, .int p1)] := hl
  generalize hHe : s.heap = H at hP
  have hS : va_S A s.heap H [] := by rw [← hHe]; exact hS
  generalize ([] : List Loc) = locs at hS ⊢
  unfold f_X11_isBell at hF
  refine lv_iload_n hx hb dX11_isBell_0 rfl (lv_at hl 1 rfl) ?_
  refine lv_iconst (v := 0) hx hb dX11_isBell_1 (by decide) ?_
  refine lv_aload_n hx hb dX11_isBell_2 rfl (lv_at hl 0 rfl) ?_
  refine va_get (D := E.1) (ci := 13) (v := .ref (a (o + 1))) (C := RX11) (T := TX11) (N := 18) hx hb ha in_X11 hown hst.k hP 0 rfl rfl 0 (by decide) (ha _ mw1636) (fun _ h9 => h9) rfl dX11_isBell_3 ?_
  refine lv_iconst (v := 0) hx hb dX11_isBell_6 (by decide) ?_
  refine vi_iald hx hb hst.k hP 1 0 rfl rfl (f := x.1.1) (k := 0) (by decide) (by decide) dX11_isBell_7 ?_
  refine lv_iconst (v := 1) hx hb dX11_isBell_8 (by decide) ?_
  refine lv_isub hx hb dX11_isBell_9 ?_
  obtain ⟨q1, hq1, hF⟩ := q_bdi hF
  refine cl_i (Lc := []) (Lc' := []) (L' := [w_Model E a o x]) (rv := q1) (va_runS (As := [.int p1, .int 0, .int ((x.1.1 0) - 1)]) (rest := []) ⟨hx, hb, hml, hown, ha⟩ (k_X11_in l E p1 0 ((x.1.1 0) - 1) q1 hq1 H.size) (cwS 3 ha (gi_S (fun _ h => h) mw1713 mw1714 mw87 mw1715) rfl rfl rfl hv_X11_in ⟨(Nat.le_of_ble_eq_true rfl), (Nat.le_of_ble_eq_true rfl)⟩) ⟨pre_blind, pre_at hP hD hS hz hzs hst [] (by decide) rfl rfl⟩ rfl rfl hl.1 rfl (lv_room (Nat.le_of_ble_eq_true rfl)) dX11_isBell_10 ⟨(Nat.le_of_ble_eq_true rfl), (Nat.le_of_ble_eq_true rfl)⟩) hP hD hS hA [] (by decide) rfl rfl rfl rfl (fun H locs hP hD hS => ?_)
  obtain ⟨g2, hF⟩ := q_gdi hF
  obtain rfl := Option.some.inj hF
  exact en_z hQ (Nat.le_of_ble_eq_true rfl) (Nat.le_of_ble_eq_true rfl) hx hb hr hlocks (nz_b g2) hP hD hS rfl dX11_isBell_13

/-! X11_isHerd -/
theorem dX11_isHerd_0 : decode cX11_isHerd 0 = .ok (.iload_n 0, 1) := by decide +kernel
theorem dX11_isHerd_1 : decode cX11_isHerd 1 = .ok (.iconst 0, 1) := by decide +kernel
theorem dX11_isHerd_2 : decode cX11_isHerd 2 = .ok (.iconst 3, 1) := by decide +kernel
theorem dX11_isHerd_3 : decode cX11_isHerd 3 = .ok (.invokestatic 52, 3) := by decide +kernel
theorem dX11_isHerd_6 : decode cX11_isHerd 6 = .ok (.ireturn, 1) := by decide +kernel
def f_X11_isHerd (p1 : Int32) : Option (Int32) :=
  q_bd (f_X11_in p1 0 3) (fun q1 =>
  q_gd (q1 = 0 ∨ q1 = 1) (
  some q1))
theorem hv_X11_isHerd : yX11_isHerd.cls = RX11 ∧ yX11_isHerd.cls ≠ "java/lang/invoke/MethodHandle" ∧ yX11_isHerd.cls ≠ "java/lang/invoke/VarHandle" ∧ (parseMethodDescriptor yX11_isHerd.desc).map (fun d => d.parameters.length) = some 1 := by decide +kernel
abbrev rm_X11_isHerd : Room := { frames := 1, cells := 0, slots := 0, locals := 22 }
set_option maxHeartbeats 4000000 in
set_option maxRecDepth 100000 in
theorem k_X11_isHerd (l : Launch) (E : ET) (p1 : Int32) (res : Int32) (hF : f_X11_isHerd p1 = some res) (sz : Nat) : CtI l yX11_isHerd (mws yX11_isHerd cX11_isHerd 1 (some .boolean)) rm_X11_isHerd 0 0 [.int p1] E ([]) res ([]) sz := by
  refine mk_M (by decide +kernel) (Nat.le_of_ble_eq_true rfl) ?_
  intro p e s m below meth c A args Q ls hAe hsz hQ hx hb hr hml hin ha hown hlocks hA hz hzs hst hP hD hS hl
  have hown : s.vm.findClass RX11 = some m.cls := hown
  rw [hAe] at hQ
  subst hsz
  have hP : va_P E.1 vwCl (List.flatten []) s.heap := hP
  have hD : va_D A (List.flatten []) := hD
  have hl : lv_has ls 1 [(0, .int p1)] := hl
  generalize hHe : s.heap = H at hP
  have hS : va_S A s.heap H [] := by rw [← hHe]; exact hS
  generalize ([] : List Loc) = locs at hS ⊢
  unfold f_X11_isHerd at hF
  refine lv_iload_n hx hb dX11_isHerd_0 rfl (lv_at hl 0 rfl) ?_
  refine lv_iconst (v := 0) hx hb dX11_isHerd_1 (by decide) ?_
  refine lv_iconst (v := 3) hx hb dX11_isHerd_2 (by decide) ?_
  obtain ⟨q1, hq1, hF⟩ := q_bdi hF
  refine cl_i (Lc := []) (Lc' := []) (L' := []) (rv := q1) (va_runS (As := [.int p1, .int 0, .int 3]) (rest := []) ⟨hx, hb, hml, hown, ha⟩ (k_X11_in l E p1 0 3 q1 hq1 H.size) (cwS 3 ha (gi_S (fun _ h => h) mw1713 mw1714 mw87 mw1715) rfl rfl rfl hv_X11_in ⟨(Nat.le_of_ble_eq_true rfl), (Nat.le_of_ble_eq_true rfl)⟩) ⟨pre_blind, pre_at hP hD hS hz hzs hst [] (by decide) rfl rfl⟩ rfl rfl hl.1 rfl (lv_room (Nat.le_of_ble_eq_true rfl)) dX11_isHerd_3 ⟨(Nat.le_of_ble_eq_true rfl), (Nat.le_of_ble_eq_true rfl)⟩) hP hD hS hA [] (by decide) rfl rfl rfl rfl (fun H locs hP hD hS => ?_)
  obtain ⟨g2, hF⟩ := q_gdi hF
  obtain rfl := Option.some.inj hF
  exact en_z hQ (Nat.le_of_ble_eq_true rfl) (Nat.le_of_ble_eq_true rfl) hx hb hr hlocks (nz_b g2) hP hD hS rfl dX11_isHerd_6

/-! X11_isCliff -/
theorem dX11_isCliff_0 : decode cX11_isCliff 0 = .ok (.iload_n 1, 1) := by decide +kernel
theorem dX11_isCliff_1 : decode cX11_isCliff 1 = .ok (.iconst 0, 1) := by decide +kernel
theorem dX11_isCliff_2 : decode cX11_isCliff 2 = .ok (.aload_n 0, 1) := by decide +kernel
theorem dX11_isCliff_3 : decode cX11_isCliff 3 = .ok (.getfield 7, 3) := by decide +kernel
theorem dX11_isCliff_6 : decode cX11_isCliff 6 = .ok (.iconst 1, 1) := by decide +kernel
theorem dX11_isCliff_7 : decode cX11_isCliff 7 = .ok (.iaload, 1) := by decide +kernel
theorem dX11_isCliff_8 : decode cX11_isCliff 8 = .ok (.iconst 1, 1) := by decide +kernel
theorem dX11_isCliff_9 : decode cX11_isCliff 9 = .ok (.isub, 1) := by decide +kernel
theorem dX11_isCliff_10 : decode cX11_isCliff 10 = .ok (.invokestatic 52, 3) := by decide +kernel
theorem dX11_isCliff_13 : decode cX11_isCliff 13 = .ok (.ireturn, 1) := by decide +kernel
def f_X11_isCliff (x_g : (Nat → Int32)) (p1 : Int32) : Option (Int32) :=
  q_bd (f_X11_in p1 0 ((x_g 1) - 1)) (fun q1 =>
  q_gd (q1 = 0 ∨ q1 = 1) (
  some q1))
theorem hv_X11_isCliff : yX11_isCliff.cls = RX11 ∧ yX11_isCliff.cls ≠ "java/lang/invoke/MethodHandle" ∧ yX11_isCliff.cls ≠ "java/lang/invoke/VarHandle" ∧ (parseMethodDescriptor yX11_isCliff.desc).map (fun d => d.parameters.length) = some 1 := by decide +kernel
abbrev rm_X11_isCliff : Room := { frames := 1, cells := 0, slots := 0, locals := 22 }
set_option maxHeartbeats 4000000 in
set_option maxRecDepth 100000 in
theorem k_X11_isCliff (l : Launch) (E : ET) (a : Nat → Nat) (o : Nat) (x : Model_t) (p1 : Int32) (res : Int32) (hF : f_X11_isCliff x.1.1 p1 = some res) (sz : Nat) : CtI l yX11_isCliff (mws yX11_isCliff cX11_isCliff 2 (some .boolean)) rm_X11_isCliff 0 0 [.ref (a o), .int p1] E (bl_Model E a o x) res (bl_Model E a o x) sz := by
  refine mk_M (by decide +kernel) (Nat.le_of_ble_eq_true rfl) ?_
  intro p e s m below meth c A args Q ls hAe hsz hQ hx hb hr hml hin ha hown hlocks hA hz hzs hst hP hD hS hl
  have hown : s.vm.findClass RX11 = some m.cls := hown
  rw [hAe] at hQ
  subst hsz
  have hP : va_P E.1 vwCl (List.flatten [w_Model E a o x]) s.heap := hP
  have hD : va_D A (List.flatten [w_Model E a o x]) := hD
  have hl : lv_has ls 2 [(0, .ref (a o)), (1, .int p1)] := hl
  generalize hHe : s.heap = H at hP
  have hS : va_S A s.heap H [] := by rw [← hHe]; exact hS
  generalize ([] : List Loc) = locs at hS ⊢
  unfold f_X11_isCliff at hF
  refine lv_iload_n hx hb dX11_isCliff_0 rfl (lv_at hl 1 rfl) ?_
  refine lv_iconst (v := 0) hx hb dX11_isCliff_1 (by decide) ?_
  refine lv_aload_n hx hb dX11_isCliff_2 rfl (lv_at hl 0 rfl) ?_
  refine va_get (D := E.1) (ci := 13) (v := .ref (a (o + 1))) (C := RX11) (T := TX11) (N := 18) hx hb ha in_X11 hown hst.k hP 0 rfl rfl 0 (by decide) (ha _ mw1636) (fun _ h9 => h9) rfl dX11_isCliff_3 ?_
  refine lv_iconst (v := 1) hx hb dX11_isCliff_6 (by decide) ?_
  refine vi_iald hx hb hst.k hP 1 0 rfl rfl (f := x.1.1) (k := 1) (by decide) (by decide) dX11_isCliff_7 ?_
  refine lv_iconst (v := 1) hx hb dX11_isCliff_8 (by decide) ?_
  refine lv_isub hx hb dX11_isCliff_9 ?_
  obtain ⟨q1, hq1, hF⟩ := q_bdi hF
  refine cl_i (Lc := []) (Lc' := []) (L' := [w_Model E a o x]) (rv := q1) (va_runS (As := [.int p1, .int 0, .int ((x.1.1 1) - 1)]) (rest := []) ⟨hx, hb, hml, hown, ha⟩ (k_X11_in l E p1 0 ((x.1.1 1) - 1) q1 hq1 H.size) (cwS 3 ha (gi_S (fun _ h => h) mw1713 mw1714 mw87 mw1715) rfl rfl rfl hv_X11_in ⟨(Nat.le_of_ble_eq_true rfl), (Nat.le_of_ble_eq_true rfl)⟩) ⟨pre_blind, pre_at hP hD hS hz hzs hst [] (by decide) rfl rfl⟩ rfl rfl hl.1 rfl (lv_room (Nat.le_of_ble_eq_true rfl)) dX11_isCliff_10 ⟨(Nat.le_of_ble_eq_true rfl), (Nat.le_of_ble_eq_true rfl)⟩) hP hD hS hA [] (by decide) rfl rfl rfl rfl (fun H locs hP hD hS => ?_)
  obtain ⟨g2, hF⟩ := q_gdi hF
  obtain rfl := Option.some.inj hF
  exact en_z hQ (Nat.le_of_ble_eq_true rfl) (Nat.le_of_ble_eq_true rfl) hx hb hr hlocks (nz_b g2) hP hD hS rfl dX11_isCliff_13

/-! X11_isStep -/
theorem dX11_isStep_0 : decode cX11_isStep 0 = .ok (.iload_n 0, 1) := by decide +kernel
theorem dX11_isStep_1 : decode cX11_isStep 1 = .ok (.ifCond .eq 36, 3) := by decide +kernel
theorem dX11_isStep_4 : decode cX11_isStep 4 = .ok (.iload_n 0, 1) := by decide +kernel
theorem dX11_isStep_5 : decode cX11_isStep 5 = .ok (.iconst 2, 1) := by decide +kernel
theorem dX11_isStep_6 : decode cX11_isStep 6 = .ok (.if_icmp .eq 31, 3) := by decide +kernel
theorem dX11_isStep_9 : decode cX11_isStep 9 = .ok (.iload_n 0, 1) := by decide +kernel
theorem dX11_isStep_10 : decode cX11_isStep 10 = .ok (.iconst 4, 1) := by decide +kernel
theorem dX11_isStep_11 : decode cX11_isStep 11 = .ok (.if_icmp .eq 26, 3) := by decide +kernel
theorem dX11_isStep_14 : decode cX11_isStep 14 = .ok (.iload_n 0, 1) := by decide +kernel
theorem dX11_isStep_15 : decode cX11_isStep 15 = .ok (.iconst 5, 1) := by decide +kernel
theorem dX11_isStep_16 : decode cX11_isStep 16 = .ok (.if_icmp .eq 21, 3) := by decide +kernel
theorem dX11_isStep_19 : decode cX11_isStep 19 = .ok (.iload_n 0, 1) := by decide +kernel
theorem dX11_isStep_20 : decode cX11_isStep 20 = .ok (.bipush 7, 2) := by decide +kernel
theorem dX11_isStep_22 : decode cX11_isStep 22 = .ok (.if_icmp .eq 15, 3) := by decide +kernel
theorem dX11_isStep_25 : decode cX11_isStep 25 = .ok (.iload_n 0, 1) := by decide +kernel
theorem dX11_isStep_26 : decode cX11_isStep 26 = .ok (.bipush 9, 2) := by decide +kernel
theorem dX11_isStep_28 : decode cX11_isStep 28 = .ok (.if_icmp .eq 9, 3) := by decide +kernel
theorem dX11_isStep_31 : decode cX11_isStep 31 = .ok (.iload_n 0, 1) := by decide +kernel
theorem dX11_isStep_32 : decode cX11_isStep 32 = .ok (.bipush 11, 2) := by decide +kernel
theorem dX11_isStep_34 : decode cX11_isStep 34 = .ok (.if_icmp .ne 7, 3) := by decide +kernel
theorem dX11_isStep_37 : decode cX11_isStep 37 = .ok (.iconst 1, 1) := by decide +kernel
theorem dX11_isStep_38 : decode cX11_isStep 38 = .ok (.goto 4, 3) := by decide +kernel
theorem dX11_isStep_41 : decode cX11_isStep 41 = .ok (.iconst 0, 1) := by decide +kernel
theorem dX11_isStep_42 : decode cX11_isStep 42 = .ok (.istore_n 2, 1) := by decide +kernel
theorem dX11_isStep_43 : decode cX11_isStep 43 = .ok (.iload_n 0, 1) := by decide +kernel
theorem dX11_isStep_44 : decode cX11_isStep 44 = .ok (.ifCond .eq 36, 3) := by decide +kernel
theorem dX11_isStep_47 : decode cX11_isStep 47 = .ok (.iload_n 0, 1) := by decide +kernel
theorem dX11_isStep_48 : decode cX11_isStep 48 = .ok (.iconst 2, 1) := by decide +kernel
theorem dX11_isStep_49 : decode cX11_isStep 49 = .ok (.if_icmp .eq 31, 3) := by decide +kernel
theorem dX11_isStep_52 : decode cX11_isStep 52 = .ok (.iload_n 0, 1) := by decide +kernel
theorem dX11_isStep_53 : decode cX11_isStep 53 = .ok (.iconst 3, 1) := by decide +kernel
theorem dX11_isStep_54 : decode cX11_isStep 54 = .ok (.if_icmp .eq 26, 3) := by decide +kernel
theorem dX11_isStep_57 : decode cX11_isStep 57 = .ok (.iload_n 0, 1) := by decide +kernel
theorem dX11_isStep_58 : decode cX11_isStep 58 = .ok (.iconst 5, 1) := by decide +kernel
theorem dX11_isStep_59 : decode cX11_isStep 59 = .ok (.if_icmp .eq 21, 3) := by decide +kernel
theorem dX11_isStep_62 : decode cX11_isStep 62 = .ok (.iload_n 0, 1) := by decide +kernel
theorem dX11_isStep_63 : decode cX11_isStep 63 = .ok (.bipush 7, 2) := by decide +kernel
theorem dX11_isStep_65 : decode cX11_isStep 65 = .ok (.if_icmp .eq 15, 3) := by decide +kernel
theorem dX11_isStep_68 : decode cX11_isStep 68 = .ok (.iload_n 0, 1) := by decide +kernel
theorem dX11_isStep_69 : decode cX11_isStep 69 = .ok (.bipush 8, 2) := by decide +kernel
theorem dX11_isStep_71 : decode cX11_isStep 71 = .ok (.if_icmp .eq 9, 3) := by decide +kernel
theorem dX11_isStep_74 : decode cX11_isStep 74 = .ok (.iload_n 0, 1) := by decide +kernel
theorem dX11_isStep_75 : decode cX11_isStep 75 = .ok (.bipush 10, 2) := by decide +kernel
theorem dX11_isStep_77 : decode cX11_isStep 77 = .ok (.if_icmp .ne 7, 3) := by decide +kernel
theorem dX11_isStep_80 : decode cX11_isStep 80 = .ok (.iconst 1, 1) := by decide +kernel
theorem dX11_isStep_81 : decode cX11_isStep 81 = .ok (.goto 4, 3) := by decide +kernel
theorem dX11_isStep_84 : decode cX11_isStep 84 = .ok (.iconst 0, 1) := by decide +kernel
theorem dX11_isStep_85 : decode cX11_isStep 85 = .ok (.istore_n 3, 1) := by decide +kernel
theorem dX11_isStep_86 : decode cX11_isStep 86 = .ok (.iload_n 1, 1) := by decide +kernel
theorem dX11_isStep_87 : decode cX11_isStep 87 = .ok (.ifCond .ne 7, 3) := by decide +kernel
theorem dX11_isStep_90 : decode cX11_isStep 90 = .ok (.iload_n 2, 1) := by decide +kernel
theorem dX11_isStep_91 : decode cX11_isStep 91 = .ok (.goto 4, 3) := by decide +kernel
theorem dX11_isStep_94 : decode cX11_isStep 94 = .ok (.iload_n 3, 1) := by decide +kernel
theorem dX11_isStep_95 : decode cX11_isStep 95 = .ok (.ireturn, 1) := by decide +kernel
def f_X11_isStep (p1 : Int32) (p2 : Int32) : Option (Int32) :=
  q_lt (fun (j1 : Int32) =>
  q_lt (fun (j2 : Int32) =>
  q_br (p2 = 0) (
  q_gd (j1 = 0 ∨ j1 = 1) (
  some j1)) (
  q_gd (j2 = 0 ∨ j2 = 1) (
  some j2))) (fun (J85 : Int32 → Option (Int32)) =>
  q_br (p1 = 0) (
  J85 1) (
  q_br (p1 = 2) (
  J85 1) (
  q_br (p1 = 3) (
  J85 1) (
  q_br (p1 = 5) (
  J85 1) (
  q_br (p1 = 7) (
  J85 1) (
  q_br (p1 = 8) (
  J85 1) (
  q_br (p1 = 10) (
  J85 1) (
  J85 0))))))))) (fun (J42 : Int32 → Option (Int32)) =>
  q_br (p1 = 0) (
  J42 1) (
  q_br (p1 = 2) (
  J42 1) (
  q_br (p1 = 4) (
  J42 1) (
  q_br (p1 = 5) (
  J42 1) (
  q_br (p1 = 7) (
  J42 1) (
  q_br (p1 = 9) (
  J42 1) (
  q_br (p1 = 11) (
  J42 1) (
  J42 0))))))))
theorem hv_X11_isStep : yX11_isStep.cls = RX11 ∧ yX11_isStep.cls ≠ "java/lang/invoke/MethodHandle" ∧ yX11_isStep.cls ≠ "java/lang/invoke/VarHandle" ∧ (parseMethodDescriptor yX11_isStep.desc).map (fun d => d.parameters.length) = some 2 := by decide +kernel
abbrev rm_X11_isStep : Room := { frames := 0, cells := 0, slots := 0, locals := 0 }
set_option maxHeartbeats 4000000 in
set_option maxRecDepth 100000 in
theorem k_X11_isStep (l : Launch) (E : ET) (p1 : Int32) (p2 : Int32) (res : Int32) (hF : f_X11_isStep p1 p2 = some res) (sz : Nat) : CtI l yX11_isStep (mws yX11_isStep cX11_isStep 4 (some .boolean)) rm_X11_isStep 0 0 [.int p1, .int p2] E ([]) res ([]) sz := by
  refine mk_M (by decide +kernel) (Nat.le_of_ble_eq_true rfl) ?_
  intro p e s m below meth c A args Q ls hAe hsz hQ hx hb hr hml hin ha hown hlocks hA hz hzs hst hP hD hS hl
  have hown : s.vm.findClass RX11 = some m.cls := hown
  rw [hAe] at hQ
  subst hsz
  have hP : va_P E.1 vwCl (List.flatten []) s.heap := hP
  have hD : va_D A (List.flatten []) := hD
  have hl : lv_has ls 4 [(0, .int p1), (1, .int p2)] := hl
  generalize hHe : s.heap = H at hP
  have hS : va_S A s.heap H [] := by rw [← hHe]; exact hS
  generalize ([] : List Loc) = locs at hS ⊢
  unfold f_X11_isStep at hF
  refine lv_iload_n hx hb dX11_isStep_0 rfl (lv_at hl 0 rfl) ?_
  obtain ⟨J42, hJ42, hF⟩ := q_jn hF
  have jJ42 : ∀ (j1 : Int32), ∀ (H : Heap) (locs : List Loc) (ls : Array Slot), J42 j1 = some res → va_P E.1 vwCl (List.flatten []) H → va_D A (List.flatten []) → va_S A s.heap H locs → lv_has ls 4 [(0, .int p1), (1, .int p2)] → W p l e rm_X11_isStep s m args below meth c H locs 0 0 Q (F0 m 42 ls [.int j1]) := by
    intro j1 H locs ls hF hP hD hS hl
    rw [hJ42] at hF
    refine lv_istore_n (lv' := [(2, .int j1), (0, .int p1), (1, .int p2)]) hx hb dX11_isStep_42 rfl hl (by decide) rfl (fun ls hl => ?_)
    refine lv_iload_n hx hb dX11_isStep_43 rfl (lv_at hl 1 rfl) ?_
    obtain ⟨J85, hJ85, hF⟩ := q_jn hF
    have jJ85 : ∀ (j2 : Int32), ∀ (H : Heap) (locs : List Loc) (ls : Array Slot), J85 j2 = some res → va_P E.1 vwCl (List.flatten []) H → va_D A (List.flatten []) → va_S A s.heap H locs → lv_has ls 4 [(2, .int j1), (1, .int p2)] → W p l e rm_X11_isStep s m args below meth c H locs 0 0 Q (F0 m 85 ls [.int j2]) := by
      intro j2 H locs ls hF hP hD hS hl
      rw [hJ85] at hF
      refine lv_istore_n (lv' := [(3, .int j2), (2, .int j1), (1, .int p2)]) hx hb dX11_isStep_85 rfl hl (by decide) rfl (fun ls hl => ?_)
      refine lv_iload_n hx hb dX11_isStep_86 rfl (lv_at hl 2 rfl) ?_
      refine lv_if_ne (tgt := 94) hx hb dX11_isStep_87 (by decide) (fun c87 => ?_) (fun c87 => ?_)
      · have hF := q_brn c87 hF
        refine lv_iload_n hx hb dX11_isStep_94 rfl (lv_at hl 0 rfl) ?_
        obtain ⟨g3, hF⟩ := q_gdi hF
        obtain rfl := Option.some.inj hF
        exact en_z hQ (Nat.le_of_ble_eq_true rfl) (Nat.le_of_ble_eq_true rfl) hx hb hr hlocks (nz_b g3) hP hD hS rfl dX11_isStep_95
      · have hF := q_brp c87 hF
        refine lv_iload_n hx hb dX11_isStep_90 rfl (lv_at hl 1 rfl) ?_
        refine lv_goto (tgt := 95) hx hb dX11_isStep_91 (by decide) ?_
        obtain ⟨g4, hF⟩ := q_gdi hF
        obtain rfl := Option.some.inj hF
        exact en_z hQ (Nat.le_of_ble_eq_true rfl) (Nat.le_of_ble_eq_true rfl) hx hb hr hlocks (nz_b g4) hP hD hS rfl dX11_isStep_95
    refine lv_if_eq (tgt := 80) hx hb dX11_isStep_44 (by decide) (fun c44 => ?_) (fun c44 => ?_)
    · have hF := q_brp c44 hF
      refine lv_iconst (v := 1) hx hb dX11_isStep_80 (by decide) ?_
      refine lv_goto (tgt := 85) hx hb dX11_isStep_81 (by decide) ?_
      exact jJ85 1 H locs ls hF hP hD hS (lv_sub hl [0, 2] rfl)
    · have hF := q_brn c44 hF
      refine lv_iload_n hx hb dX11_isStep_47 rfl (lv_at hl 1 rfl) ?_
      refine lv_iconst (v := 2) hx hb dX11_isStep_48 (by decide) ?_
      refine lv_icmp_eq (tgt := 80) hx hb dX11_isStep_49 (by decide) (fun c49 => ?_) (fun c49 => ?_)
      · have hF := q_brp c49 hF
        refine lv_iconst (v := 1) hx hb dX11_isStep_80 (by decide) ?_
        refine lv_goto (tgt := 85) hx hb dX11_isStep_81 (by decide) ?_
        exact jJ85 1 H locs ls hF hP hD hS (lv_sub hl [0, 2] rfl)
      · have hF := q_brn c49 hF
        refine lv_iload_n hx hb dX11_isStep_52 rfl (lv_at hl 1 rfl) ?_
        refine lv_iconst (v := 3) hx hb dX11_isStep_53 (by decide) ?_
        refine lv_icmp_eq (tgt := 80) hx hb dX11_isStep_54 (by decide) (fun c54 => ?_) (fun c54 => ?_)
        · have hF := q_brp c54 hF
          refine lv_iconst (v := 1) hx hb dX11_isStep_80 (by decide) ?_
          refine lv_goto (tgt := 85) hx hb dX11_isStep_81 (by decide) ?_
          exact jJ85 1 H locs ls hF hP hD hS (lv_sub hl [0, 2] rfl)
        · have hF := q_brn c54 hF
          refine lv_iload_n hx hb dX11_isStep_57 rfl (lv_at hl 1 rfl) ?_
          refine lv_iconst (v := 5) hx hb dX11_isStep_58 (by decide) ?_
          refine lv_icmp_eq (tgt := 80) hx hb dX11_isStep_59 (by decide) (fun c59 => ?_) (fun c59 => ?_)
          · have hF := q_brp c59 hF
            refine lv_iconst (v := 1) hx hb dX11_isStep_80 (by decide) ?_
            refine lv_goto (tgt := 85) hx hb dX11_isStep_81 (by decide) ?_
            exact jJ85 1 H locs ls hF hP hD hS (lv_sub hl [0, 2] rfl)
          · have hF := q_brn c59 hF
            refine lv_iload_n hx hb dX11_isStep_62 rfl (lv_at hl 1 rfl) ?_
            refine lv_bipush (v := 7) hx hb dX11_isStep_63 (by decide) ?_
            refine lv_icmp_eq (tgt := 80) hx hb dX11_isStep_65 (by decide) (fun c65 => ?_) (fun c65 => ?_)
            · have hF := q_brp c65 hF
              refine lv_iconst (v := 1) hx hb dX11_isStep_80 (by decide) ?_
              refine lv_goto (tgt := 85) hx hb dX11_isStep_81 (by decide) ?_
              exact jJ85 1 H locs ls hF hP hD hS (lv_sub hl [0, 2] rfl)
            · have hF := q_brn c65 hF
              refine lv_iload_n hx hb dX11_isStep_68 rfl (lv_at hl 1 rfl) ?_
              refine lv_bipush (v := 8) hx hb dX11_isStep_69 (by decide) ?_
              refine lv_icmp_eq (tgt := 80) hx hb dX11_isStep_71 (by decide) (fun c71 => ?_) (fun c71 => ?_)
              · have hF := q_brp c71 hF
                refine lv_iconst (v := 1) hx hb dX11_isStep_80 (by decide) ?_
                refine lv_goto (tgt := 85) hx hb dX11_isStep_81 (by decide) ?_
                exact jJ85 1 H locs ls hF hP hD hS (lv_sub hl [0, 2] rfl)
              · have hF := q_brn c71 hF
                refine lv_iload_n hx hb dX11_isStep_74 rfl (lv_at hl 1 rfl) ?_
                refine lv_bipush (v := 10) hx hb dX11_isStep_75 (by decide) ?_
                refine lv_icmp_ne (tgt := 84) hx hb dX11_isStep_77 (by decide) (fun c77 => ?_) (fun c77 => ?_)
                · have hF := q_brn c77 hF
                  refine lv_iconst (v := 0) hx hb dX11_isStep_84 (by decide) ?_
                  exact jJ85 0 H locs ls hF hP hD hS (lv_sub hl [0, 2] rfl)
                · have hF := q_brp c77 hF
                  refine lv_iconst (v := 1) hx hb dX11_isStep_80 (by decide) ?_
                  refine lv_goto (tgt := 85) hx hb dX11_isStep_81 (by decide) ?_
                  exact jJ85 1 H locs ls hF hP hD hS (lv_sub hl [0, 2] rfl)
  refine lv_if_eq (tgt := 37) hx hb dX11_isStep_1 (by decide) (fun c1 => ?_) (fun c1 => ?_)
  · have hF := q_brp c1 hF
    refine lv_iconst (v := 1) hx hb dX11_isStep_37 (by decide) ?_
    refine lv_goto (tgt := 42) hx hb dX11_isStep_38 (by decide) ?_
    exact jJ42 1 H locs ls hF hP hD hS (lv_sub hl [0, 1] rfl)
  · have hF := q_brn c1 hF
    refine lv_iload_n hx hb dX11_isStep_4 rfl (lv_at hl 0 rfl) ?_
    refine lv_iconst (v := 2) hx hb dX11_isStep_5 (by decide) ?_
    refine lv_icmp_eq (tgt := 37) hx hb dX11_isStep_6 (by decide) (fun c6 => ?_) (fun c6 => ?_)
    · have hF := q_brp c6 hF
      refine lv_iconst (v := 1) hx hb dX11_isStep_37 (by decide) ?_
      refine lv_goto (tgt := 42) hx hb dX11_isStep_38 (by decide) ?_
      exact jJ42 1 H locs ls hF hP hD hS (lv_sub hl [0, 1] rfl)
    · have hF := q_brn c6 hF
      refine lv_iload_n hx hb dX11_isStep_9 rfl (lv_at hl 0 rfl) ?_
      refine lv_iconst (v := 4) hx hb dX11_isStep_10 (by decide) ?_
      refine lv_icmp_eq (tgt := 37) hx hb dX11_isStep_11 (by decide) (fun c11 => ?_) (fun c11 => ?_)
      · have hF := q_brp c11 hF
        refine lv_iconst (v := 1) hx hb dX11_isStep_37 (by decide) ?_
        refine lv_goto (tgt := 42) hx hb dX11_isStep_38 (by decide) ?_
        exact jJ42 1 H locs ls hF hP hD hS (lv_sub hl [0, 1] rfl)
      · have hF := q_brn c11 hF
        refine lv_iload_n hx hb dX11_isStep_14 rfl (lv_at hl 0 rfl) ?_
        refine lv_iconst (v := 5) hx hb dX11_isStep_15 (by decide) ?_
        refine lv_icmp_eq (tgt := 37) hx hb dX11_isStep_16 (by decide) (fun c16 => ?_) (fun c16 => ?_)
        · have hF := q_brp c16 hF
          refine lv_iconst (v := 1) hx hb dX11_isStep_37 (by decide) ?_
          refine lv_goto (tgt := 42) hx hb dX11_isStep_38 (by decide) ?_
          exact jJ42 1 H locs ls hF hP hD hS (lv_sub hl [0, 1] rfl)
        · have hF := q_brn c16 hF
          refine lv_iload_n hx hb dX11_isStep_19 rfl (lv_at hl 0 rfl) ?_
          refine lv_bipush (v := 7) hx hb dX11_isStep_20 (by decide) ?_
          refine lv_icmp_eq (tgt := 37) hx hb dX11_isStep_22 (by decide) (fun c22 => ?_) (fun c22 => ?_)
          · have hF := q_brp c22 hF
            refine lv_iconst (v := 1) hx hb dX11_isStep_37 (by decide) ?_
            refine lv_goto (tgt := 42) hx hb dX11_isStep_38 (by decide) ?_
            exact jJ42 1 H locs ls hF hP hD hS (lv_sub hl [0, 1] rfl)
          · have hF := q_brn c22 hF
            refine lv_iload_n hx hb dX11_isStep_25 rfl (lv_at hl 0 rfl) ?_
            refine lv_bipush (v := 9) hx hb dX11_isStep_26 (by decide) ?_
            refine lv_icmp_eq (tgt := 37) hx hb dX11_isStep_28 (by decide) (fun c28 => ?_) (fun c28 => ?_)
            · have hF := q_brp c28 hF
              refine lv_iconst (v := 1) hx hb dX11_isStep_37 (by decide) ?_
              refine lv_goto (tgt := 42) hx hb dX11_isStep_38 (by decide) ?_
              exact jJ42 1 H locs ls hF hP hD hS (lv_sub hl [0, 1] rfl)
            · have hF := q_brn c28 hF
              refine lv_iload_n hx hb dX11_isStep_31 rfl (lv_at hl 0 rfl) ?_
              refine lv_bipush (v := 11) hx hb dX11_isStep_32 (by decide) ?_
              refine lv_icmp_ne (tgt := 41) hx hb dX11_isStep_34 (by decide) (fun c34 => ?_) (fun c34 => ?_)
              · have hF := q_brn c34 hF
                refine lv_iconst (v := 0) hx hb dX11_isStep_41 (by decide) ?_
                exact jJ42 0 H locs ls hF hP hD hS (lv_sub hl [0, 1] rfl)
              · have hF := q_brp c34 hF
                refine lv_iconst (v := 1) hx hb dX11_isStep_37 (by decide) ?_
                refine lv_goto (tgt := 42) hx hb dX11_isStep_38 (by decide) ?_
                exact jJ42 1 H locs ls hF hP hD hS (lv_sub hl [0, 1] rfl)

/-! X11_isInScaleOf -/
theorem dX11_isInScaleOf_0 : decode cX11_isInScaleOf 0 = .ok (.iload_n 0, 1) := by decide +kernel
theorem dX11_isInScaleOf_1 : decode cX11_isInScaleOf 1 = .ok (.bipush 120, 2) := by decide +kernel
theorem dX11_isInScaleOf_3 : decode cX11_isInScaleOf 3 = .ok (.iadd, 1) := by decide +kernel
theorem dX11_isInScaleOf_4 : decode cX11_isInScaleOf 4 = .ok (.iload_n 1, 1) := by decide +kernel
theorem dX11_isInScaleOf_5 : decode cX11_isInScaleOf 5 = .ok (.isub, 1) := by decide +kernel
theorem dX11_isInScaleOf_6 : decode cX11_isInScaleOf 6 = .ok (.bipush 12, 2) := by decide +kernel
theorem dX11_isInScaleOf_8 : decode cX11_isInScaleOf 8 = .ok (.irem, 1) := by decide +kernel
theorem dX11_isInScaleOf_9 : decode cX11_isInScaleOf 9 = .ok (.iload_n 2, 1) := by decide +kernel
theorem dX11_isInScaleOf_10 : decode cX11_isInScaleOf 10 = .ok (.invokestatic 56, 3) := by decide +kernel
theorem dX11_isInScaleOf_13 : decode cX11_isInScaleOf 13 = .ok (.ireturn, 1) := by decide +kernel
def f_X11_isInScaleOf (p1 : Int32) (p2 : Int32) (p3 : Int32) : Option (Int32) :=
  q_bd (f_X11_isStep (((p1 + 120) - p2) - ((p1 + 120) - p2) / 12 * 12) p3) (fun q1 =>
  q_gd (q1 = 0 ∨ q1 = 1) (
  some q1))
theorem hv_X11_isInScaleOf : yX11_isInScaleOf.cls = RX11 ∧ yX11_isInScaleOf.cls ≠ "java/lang/invoke/MethodHandle" ∧ yX11_isInScaleOf.cls ≠ "java/lang/invoke/VarHandle" ∧ (parseMethodDescriptor yX11_isInScaleOf.desc).map (fun d => d.parameters.length) = some 3 := by decide +kernel
abbrev rm_X11_isInScaleOf : Room := { frames := 1, cells := 0, slots := 0, locals := 23 }
set_option maxHeartbeats 4000000 in
set_option maxRecDepth 100000 in
theorem k_X11_isInScaleOf (l : Launch) (E : ET) (p1 : Int32) (p2 : Int32) (p3 : Int32) (res : Int32) (hF : f_X11_isInScaleOf p1 p2 p3 = some res) (sz : Nat) : CtI l yX11_isInScaleOf (mws yX11_isInScaleOf cX11_isInScaleOf 3 (some .boolean)) rm_X11_isInScaleOf 0 0 [.int p1, .int p2, .int p3] E ([]) res ([]) sz := by
  refine mk_M (by decide +kernel) (Nat.le_of_ble_eq_true rfl) ?_
  intro p e s m below meth c A args Q ls hAe hsz hQ hx hb hr hml hin ha hown hlocks hA hz hzs hst hP hD hS hl
  have hown : s.vm.findClass RX11 = some m.cls := hown
  rw [hAe] at hQ
  subst hsz
  have hP : va_P E.1 vwCl (List.flatten []) s.heap := hP
  have hD : va_D A (List.flatten []) := hD
  have hl : lv_has ls 3 [(0, .int p1), (1, .int p2), (2, .int p3)] := hl
  generalize hHe : s.heap = H at hP
  have hS : va_S A s.heap H [] := by rw [← hHe]; exact hS
  generalize ([] : List Loc) = locs at hS ⊢
  unfold f_X11_isInScaleOf at hF
  refine lv_iload_n hx hb dX11_isInScaleOf_0 rfl (lv_at hl 0 rfl) ?_
  refine lv_bipush (v := 120) hx hb dX11_isInScaleOf_1 (by decide) ?_
  refine lv_iadd hx hb dX11_isInScaleOf_3 ?_
  refine lv_iload_n hx hb dX11_isInScaleOf_4 rfl (lv_at hl 1 rfl) ?_
  refine lv_isub hx hb dX11_isInScaleOf_5 ?_
  refine lv_bipush (v := 12) hx hb dX11_isInScaleOf_6 (by decide) ?_
  refine lv_irem hx hb dX11_isInScaleOf_8 (by decide) ?_
  refine lv_iload_n hx hb dX11_isInScaleOf_9 rfl (lv_at hl 2 rfl) ?_
  obtain ⟨q1, hq1, hF⟩ := q_bdi hF
  refine cl_i (Lc := []) (Lc' := []) (L' := []) (rv := q1) (va_runS (As := [.int (((p1 + 120) - p2) - ((p1 + 120) - p2) / 12 * 12), .int p3]) (rest := []) ⟨hx, hb, hml, hown, ha⟩ (k_X11_isStep l E (((p1 + 120) - p2) - ((p1 + 120) - p2) / 12 * 12) p3 q1 hq1 H.size) (cwS 2 ha (gi_S (fun _ h => h) mw1783 mw1784 mw87 mw1785) rfl rfl rfl hv_X11_isStep ⟨(Nat.le_of_ble_eq_true rfl), (Nat.le_of_ble_eq_true rfl)⟩) ⟨pre_blind, pre_at hP hD hS hz hzs hst [] (by decide) rfl rfl⟩ rfl rfl hl.1 rfl (lv_room (Nat.le_of_ble_eq_true rfl)) dX11_isInScaleOf_10 ⟨(Nat.le_of_ble_eq_true rfl), (Nat.le_of_ble_eq_true rfl)⟩) hP hD hS hA [] (by decide) rfl rfl rfl rfl (fun H locs hP hD hS => ?_)
  obtain ⟨g2, hF⟩ := q_gdi hF
  obtain rfl := Option.some.inj hF
  exact en_z hQ (Nat.le_of_ble_eq_true rfl) (Nat.le_of_ble_eq_true rfl) hx hb hr hlocks (nz_b g2) hP hD hS rfl dX11_isInScaleOf_13

/-! X11_noteOf -/
theorem dX11_noteOf_0 : decode cX11_noteOf 0 = .ok (.aload_n 0, 1) := by decide +kernel
theorem dX11_noteOf_1 : decode cX11_noteOf 1 = .ok (.getfield 7, 3) := by decide +kernel
theorem dX11_noteOf_4 : decode cX11_noteOf 4 = .ok (.bipush 17, 2) := by decide +kernel
theorem dX11_noteOf_6 : decode cX11_noteOf 6 = .ok (.iload_n 1, 1) := by decide +kernel
theorem dX11_noteOf_7 : decode cX11_noteOf 7 = .ok (.iadd, 1) := by decide +kernel
theorem dX11_noteOf_8 : decode cX11_noteOf 8 = .ok (.iaload, 1) := by decide +kernel
theorem dX11_noteOf_9 : decode cX11_noteOf 9 = .ok (.bipush 50, 2) := by decide +kernel
theorem dX11_noteOf_11 : decode cX11_noteOf 11 = .ok (.iadd, 1) := by decide +kernel
theorem dX11_noteOf_12 : decode cX11_noteOf 12 = .ok (.bipush 100, 2) := by decide +kernel
theorem dX11_noteOf_14 : decode cX11_noteOf 14 = .ok (.idiv, 1) := by decide +kernel
theorem dX11_noteOf_15 : decode cX11_noteOf 15 = .ok (.ireturn, 1) := by decide +kernel
def f_X11_noteOf (x_g : (Nat → Int32)) (p1 : Int32) : Option (Int32) :=
  q_gd (q_in (17 + p1) 77) (
  some (((x_g ((17 + p1).toNatClampNeg)) + 50) / 100))
theorem hv_X11_noteOf : yX11_noteOf.cls = RX11 ∧ yX11_noteOf.cls ≠ "java/lang/invoke/MethodHandle" ∧ yX11_noteOf.cls ≠ "java/lang/invoke/VarHandle" ∧ (parseMethodDescriptor yX11_noteOf.desc).map (fun d => d.parameters.length) = some 1 := by decide +kernel
abbrev rm_X11_noteOf : Room := { frames := 0, cells := 0, slots := 0, locals := 0 }
set_option maxHeartbeats 4000000 in
set_option maxRecDepth 100000 in
theorem k_X11_noteOf (l : Launch) (E : ET) (a : Nat → Nat) (o : Nat) (x : Model_t) (p1 : Int32) (res : Int32) (hF : f_X11_noteOf x.1.1 p1 = some res) (sz : Nat) : CtI l yX11_noteOf (mws yX11_noteOf cX11_noteOf 2 (some .int)) rm_X11_noteOf 0 0 [.ref (a o), .int p1] E (bl_Model E a o x) res (bl_Model E a o x) sz := by
  refine mk_M (by decide +kernel) (Nat.le_of_ble_eq_true rfl) ?_
  intro p e s m below meth c A args Q ls hAe hsz hQ hx hb hr hml hin ha hown hlocks hA hz hzs hst hP hD hS hl
  have hown : s.vm.findClass RX11 = some m.cls := hown
  rw [hAe] at hQ
  subst hsz
  have hP : va_P E.1 vwCl (List.flatten [w_Model E a o x]) s.heap := hP
  have hD : va_D A (List.flatten [w_Model E a o x]) := hD
  have hl : lv_has ls 2 [(0, .ref (a o)), (1, .int p1)] := hl
  generalize hHe : s.heap = H at hP
  have hS : va_S A s.heap H [] := by rw [← hHe]; exact hS
  generalize ([] : List Loc) = locs at hS ⊢
  unfold f_X11_noteOf at hF
  refine lv_aload_n hx hb dX11_noteOf_0 rfl (lv_at hl 0 rfl) ?_
  refine va_get (D := E.1) (ci := 13) (v := .ref (a (o + 1))) (C := RX11) (T := TX11) (N := 18) hx hb ha in_X11 hown hst.k hP 0 rfl rfl 0 (by decide) (ha _ mw1636) (fun _ h9 => h9) rfl dX11_noteOf_1 ?_
  refine lv_bipush (v := 17) hx hb dX11_noteOf_4 (by decide) ?_
  refine lv_iload_n hx hb dX11_noteOf_6 rfl (lv_at hl 1 rfl) ?_
  refine lv_iadd hx hb dX11_noteOf_7 ?_
  obtain ⟨g1, hF⟩ := q_gdi hF
  refine vi_iald hx hb hst.k hP 1 0 rfl rfl (f := x.1.1) (k := (17 + p1).toNatClampNeg) rfl g1 dX11_noteOf_8 ?_
  refine lv_bipush (v := 50) hx hb dX11_noteOf_9 (by decide) ?_
  refine lv_iadd hx hb dX11_noteOf_11 ?_
  refine lv_bipush (v := 100) hx hb dX11_noteOf_12 (by decide) ?_
  refine lv_idiv hx hb dX11_noteOf_14 (by decide) ?_
  obtain rfl := Option.some.inj hF
  exact en_i hQ (Nat.le_of_ble_eq_true rfl) (Nat.le_of_ble_eq_true rfl) hx hb hr hlocks hP hD hS rfl dX11_noteOf_15

/-! X11_deviationOf -/
theorem dX11_deviationOf_0 : decode cX11_deviationOf 0 = .ok (.aload_n 0, 1) := by decide +kernel
theorem dX11_deviationOf_1 : decode cX11_deviationOf 1 = .ok (.getfield 7, 3) := by decide +kernel
theorem dX11_deviationOf_4 : decode cX11_deviationOf 4 = .ok (.bipush 17, 2) := by decide +kernel
theorem dX11_deviationOf_6 : decode cX11_deviationOf 6 = .ok (.iload_n 1, 1) := by decide +kernel
theorem dX11_deviationOf_7 : decode cX11_deviationOf 7 = .ok (.iadd, 1) := by decide +kernel
theorem dX11_deviationOf_8 : decode cX11_deviationOf 8 = .ok (.iaload, 1) := by decide +kernel
theorem dX11_deviationOf_9 : decode cX11_deviationOf 9 = .ok (.bipush 100, 2) := by decide +kernel
theorem dX11_deviationOf_11 : decode cX11_deviationOf 11 = .ok (.aload_n 0, 1) := by decide +kernel
theorem dX11_deviationOf_12 : decode cX11_deviationOf 12 = .ok (.iload_n 1, 1) := by decide +kernel
theorem dX11_deviationOf_13 : decode cX11_deviationOf 13 = .ok (.invokevirtual 60, 3) := by decide +kernel
theorem dX11_deviationOf_16 : decode cX11_deviationOf 16 = .ok (.imul, 1) := by decide +kernel
theorem dX11_deviationOf_17 : decode cX11_deviationOf 17 = .ok (.isub, 1) := by decide +kernel
theorem dX11_deviationOf_18 : decode cX11_deviationOf 18 = .ok (.ireturn, 1) := by decide +kernel
def f_X11_deviationOf (x_g : (Nat → Int32)) (p1 : Int32) : Option (Int32) :=
  q_gd (q_in (17 + p1) 77) (
  q_bd (f_X11_noteOf x_g p1) (fun q2 =>
  some ((x_g ((17 + p1).toNatClampNeg)) - (100 * q2))))
theorem hv_X11_deviationOf : yX11_deviationOf.cls = RX11 ∧ yX11_deviationOf.cls ≠ "java/lang/invoke/MethodHandle" ∧ yX11_deviationOf.cls ≠ "java/lang/invoke/VarHandle" ∧ (parseMethodDescriptor yX11_deviationOf.desc).map (fun d => d.parameters.length) = some 1 := by decide +kernel
abbrev rm_X11_deviationOf : Room := { frames := 1, cells := 0, slots := 0, locals := 21 }
set_option maxHeartbeats 4000000 in
set_option maxRecDepth 100000 in
theorem k_X11_deviationOf (l : Launch) (E : ET) (a : Nat → Nat) (o : Nat) (x : Model_t) (p1 : Int32) (res : Int32) (hF : f_X11_deviationOf x.1.1 p1 = some res) (sz : Nat) : CtI l yX11_deviationOf (mws yX11_deviationOf cX11_deviationOf 2 (some .int)) rm_X11_deviationOf 0 0 [.ref (a o), .int p1] E (bl_Model E a o x) res (bl_Model E a o x) sz := by
  refine mk_M (by decide +kernel) (Nat.le_of_ble_eq_true rfl) ?_
  intro p e s m below meth c A args Q ls hAe hsz hQ hx hb hr hml hin ha hown hlocks hA hz hzs hst hP hD hS hl
  have hown : s.vm.findClass RX11 = some m.cls := hown
  rw [hAe] at hQ
  subst hsz
  have hP : va_P E.1 vwCl (List.flatten [w_Model E a o x]) s.heap := hP
  have hD : va_D A (List.flatten [w_Model E a o x]) := hD
  have hl : lv_has ls 2 [(0, .ref (a o)), (1, .int p1)] := hl
  generalize hHe : s.heap = H at hP
  have hS : va_S A s.heap H [] := by rw [← hHe]; exact hS
  generalize ([] : List Loc) = locs at hS ⊢
  unfold f_X11_deviationOf at hF
  refine lv_aload_n hx hb dX11_deviationOf_0 rfl (lv_at hl 0 rfl) ?_
  refine va_get (D := E.1) (ci := 13) (v := .ref (a (o + 1))) (C := RX11) (T := TX11) (N := 18) hx hb ha in_X11 hown hst.k hP 0 rfl rfl 0 (by decide) (ha _ mw1636) (fun _ h9 => h9) rfl dX11_deviationOf_1 ?_
  refine lv_bipush (v := 17) hx hb dX11_deviationOf_4 (by decide) ?_
  refine lv_iload_n hx hb dX11_deviationOf_6 rfl (lv_at hl 1 rfl) ?_
  refine lv_iadd hx hb dX11_deviationOf_7 ?_
  obtain ⟨g1, hF⟩ := q_gdi hF
  refine vi_iald hx hb hst.k hP 1 0 rfl rfl (f := x.1.1) (k := (17 + p1).toNatClampNeg) rfl g1 dX11_deviationOf_8 ?_
  refine lv_bipush (v := 100) hx hb dX11_deviationOf_9 (by decide) ?_
  refine lv_aload_n hx hb dX11_deviationOf_11 rfl (lv_at hl 0 rfl) ?_
  refine lv_iload_n hx hb dX11_deviationOf_12 rfl (lv_at hl 1 rfl) ?_
  obtain ⟨q2, hq2, hF⟩ := q_bdi hF
  refine cl_i (Lc := [w_Model E a o x]) (Lc' := [w_Model E a o x]) (L' := [w_Model E a o x]) (rv := q2) (va_runV (As := [.int p1]) (rest := [.int 100, .int (x.1.1 ((17 + p1).toNatClampNeg))]) ⟨hx, hb, hml, hown, ha⟩ (k_X11_noteOf l E a o x p1 q2 hq2 H.size) (cwV 1 ha (gi_V (fun _ h => h) mw1776 mw1778 mw40 mw87 mw1779) rfl rfl rfl hv_X11_noteOf ⟨(Nat.le_of_ble_eq_true rfl), (Nat.le_of_ble_eq_true rfl)⟩) ⟨pre_blind, va_recv hst.k (fr_P hP [0] rfl) (ci := 13) (q0 := 0) rfl rfl, pre_at hP hD hS hz hzs hst [0] (by decide) rfl rfl⟩ rfl rfl hl.1 rfl (lv_room (Nat.le_of_ble_eq_true rfl)) dX11_deviationOf_13 ⟨(Nat.le_of_ble_eq_true rfl), (Nat.le_of_ble_eq_true rfl)⟩) hP hD hS hA [0] (by decide) rfl rfl rfl rfl (fun H locs hP hD hS => ?_)
  refine lv_imul hx hb dX11_deviationOf_16 ?_
  refine lv_isub hx hb dX11_deviationOf_17 ?_
  obtain rfl := Option.some.inj hF
  exact en_i hQ (Nat.le_of_ble_eq_true rfl) (Nat.le_of_ble_eq_true rfl) hx hb hr hlocks hP hD hS rfl dX11_deviationOf_18

/-! X11_fits -/
theorem dX11_fits_0 : decode cX11_fits 0 = .ok (.aload_n 0, 1) := by decide +kernel
theorem dX11_fits_1 : decode cX11_fits 1 = .ok (.iload_n 1, 1) := by decide +kernel
theorem dX11_fits_2 : decode cX11_fits 2 = .ok (.invokevirtual 60, 3) := by decide +kernel
theorem dX11_fits_5 : decode cX11_fits 5 = .ok (.iload_n 2, 1) := by decide +kernel
theorem dX11_fits_6 : decode cX11_fits 6 = .ok (.iload_n 3, 1) := by decide +kernel
theorem dX11_fits_7 : decode cX11_fits 7 = .ok (.invokestatic 64, 3) := by decide +kernel
theorem dX11_fits_10 : decode cX11_fits 10 = .ok (.ifCond .eq 24, 3) := by decide +kernel
theorem dX11_fits_13 : decode cX11_fits 13 = .ok (.aload_n 0, 1) := by decide +kernel
theorem dX11_fits_14 : decode cX11_fits 14 = .ok (.iload_n 1, 1) := by decide +kernel
theorem dX11_fits_15 : decode cX11_fits 15 = .ok (.invokevirtual 67, 3) := by decide +kernel
theorem dX11_fits_18 : decode cX11_fits 18 = .ok (.invokestatic 70, 3) := by decide +kernel
theorem dX11_fits_21 : decode cX11_fits 21 = .ok (.aload_n 0, 1) := by decide +kernel
theorem dX11_fits_22 : decode cX11_fits 22 = .ok (.getfield 7, 3) := by decide +kernel
theorem dX11_fits_25 : decode cX11_fits 25 = .ok (.iconst 4, 1) := by decide +kernel
theorem dX11_fits_26 : decode cX11_fits 26 = .ok (.iaload, 1) := by decide +kernel
theorem dX11_fits_27 : decode cX11_fits 27 = .ok (.if_icmp .gt 7, 3) := by decide +kernel
theorem dX11_fits_30 : decode cX11_fits 30 = .ok (.iconst 1, 1) := by decide +kernel
theorem dX11_fits_31 : decode cX11_fits 31 = .ok (.goto 4, 3) := by decide +kernel
theorem dX11_fits_34 : decode cX11_fits 34 = .ok (.iconst 0, 1) := by decide +kernel
theorem dX11_fits_35 : decode cX11_fits 35 = .ok (.ireturn, 1) := by decide +kernel
def f_X11_fits (x_g : (Nat → Int32)) (p1 : Int32) (p2 : Int32) (p3 : Int32) : Option (Int32) :=
  q_bd (f_X11_noteOf x_g p1) (fun q1 =>
  q_bd (f_X11_isInScaleOf q1 p2 p3) (fun q2 =>
  q_br (q2 = 0) (
  some 0) (
  q_bd (f_X11_deviationOf x_g p1) (fun q3 =>
  q_bd (f_X11_size q3) (fun q4 =>
  q_br ((x_g 4) < q4) (
  some 0) (
  some 1))))))
theorem hv_X11_fits : yX11_fits.cls = RX11 ∧ yX11_fits.cls ≠ "java/lang/invoke/MethodHandle" ∧ yX11_fits.cls ≠ "java/lang/invoke/VarHandle" ∧ (parseMethodDescriptor yX11_fits.desc).map (fun d => d.parameters.length) = some 3 := by decide +kernel
abbrev rm_X11_fits : Room := { frames := 2, cells := 0, slots := 0, locals := 45 }
set_option maxHeartbeats 4000000 in
set_option maxRecDepth 100000 in
theorem k_X11_fits (l : Launch) (E : ET) (a : Nat → Nat) (o : Nat) (x : Model_t) (p1 : Int32) (p2 : Int32) (p3 : Int32) (res : Int32) (hF : f_X11_fits x.1.1 p1 p2 p3 = some res) (sz : Nat) : CtI l yX11_fits (mws yX11_fits cX11_fits 4 (some .boolean)) rm_X11_fits 0 0 [.ref (a o), .int p1, .int p2, .int p3] E (bl_Model E a o x) res (bl_Model E a o x) sz := by
  refine mk_M (by decide +kernel) (Nat.le_of_ble_eq_true rfl) ?_
  intro p e s m below meth c A args Q ls hAe hsz hQ hx hb hr hml hin ha hown hlocks hA hz hzs hst hP hD hS hl
  have hown : s.vm.findClass RX11 = some m.cls := hown
  rw [hAe] at hQ
  subst hsz
  have hP : va_P E.1 vwCl (List.flatten [w_Model E a o x]) s.heap := hP
  have hD : va_D A (List.flatten [w_Model E a o x]) := hD
  have hl : lv_has ls 4 [(0, .ref (a o)), (1, .int p1), (2, .int p2), (3, .int p3)] := hl
  generalize hHe : s.heap = H at hP
  have hS : va_S A s.heap H [] := by rw [← hHe]; exact hS
  generalize ([] : List Loc) = locs at hS ⊢
  unfold f_X11_fits at hF
  refine lv_aload_n hx hb dX11_fits_0 rfl (lv_at hl 0 rfl) ?_
  refine lv_iload_n hx hb dX11_fits_1 rfl (lv_at hl 1 rfl) ?_
  obtain ⟨q1, hq1, hF⟩ := q_bdi hF
  refine cl_i (Lc := [w_Model E a o x]) (Lc' := [w_Model E a o x]) (L' := [w_Model E a o x]) (rv := q1) (va_runV (As := [.int p1]) (rest := []) ⟨hx, hb, hml, hown, ha⟩ (k_X11_noteOf l E a o x p1 q1 hq1 H.size) (cwV 1 ha (gi_V (fun _ h => h) mw1776 mw1778 mw40 mw87 mw1779) rfl rfl rfl hv_X11_noteOf ⟨(Nat.le_of_ble_eq_true rfl), (Nat.le_of_ble_eq_true rfl)⟩) ⟨pre_blind, va_recv hst.k (fr_P hP [0] rfl) (ci := 13) (q0 := 0) rfl rfl, pre_at hP hD hS hz hzs hst [0] (by decide) rfl rfl⟩ rfl rfl hl.1 rfl (lv_room (Nat.le_of_ble_eq_true rfl)) dX11_fits_2 ⟨(Nat.le_of_ble_eq_true rfl), (Nat.le_of_ble_eq_true rfl)⟩) hP hD hS hA [0] (by decide) rfl rfl rfl rfl (fun H locs hP hD hS => ?_)
  refine lv_iload_n hx hb dX11_fits_5 rfl (lv_at hl 2 rfl) ?_
  refine lv_iload_n hx hb dX11_fits_6 rfl (lv_at hl 3 rfl) ?_
  obtain ⟨q2, hq2, hF⟩ := q_bdi hF
  refine cl_i (Lc := []) (Lc' := []) (L' := [w_Model E a o x]) (rv := q2) (va_runS (As := [.int q1, .int p2, .int p3]) (rest := []) ⟨hx, hb, hml, hown, ha⟩ (k_X11_isInScaleOf l E q1 p2 p3 q2 hq2 H.size) (cwS 3 ha (gi_S (fun _ h => h) mw1780 mw1781 mw87 mw1782) rfl rfl rfl hv_X11_isInScaleOf ⟨(Nat.le_of_ble_eq_true rfl), (Nat.le_of_ble_eq_true rfl)⟩) ⟨pre_blind, pre_at hP hD hS hz hzs hst [] (by decide) rfl rfl⟩ rfl rfl hl.1 rfl (lv_room (Nat.le_of_ble_eq_true rfl)) dX11_fits_7 ⟨(Nat.le_of_ble_eq_true rfl), (Nat.le_of_ble_eq_true rfl)⟩) hP hD hS hA [] (by decide) rfl rfl rfl rfl (fun H locs hP hD hS => ?_)
  refine lv_if_eq (tgt := 34) hx hb dX11_fits_10 (by decide) (fun c10 => ?_) (fun c10 => ?_)
  · have hF := q_brp c10 hF
    refine lv_iconst (v := 0) hx hb dX11_fits_34 (by decide) ?_
    obtain rfl := Option.some.inj hF
    exact en_z hQ (Nat.le_of_ble_eq_true rfl) (Nat.le_of_ble_eq_true rfl) hx hb hr hlocks (by decide) hP hD hS rfl dX11_fits_35
  · have hF := q_brn c10 hF
    refine lv_aload_n hx hb dX11_fits_13 rfl (lv_at hl 0 rfl) ?_
    refine lv_iload_n hx hb dX11_fits_14 rfl (lv_at hl 1 rfl) ?_
    obtain ⟨q3, hq3, hF⟩ := q_bdi hF
    refine cl_i (Lc := [w_Model E a o x]) (Lc' := [w_Model E a o x]) (L' := [w_Model E a o x]) (rv := q3) (va_runV (As := [.int p1]) (rest := []) ⟨hx, hb, hml, hown, ha⟩ (k_X11_deviationOf l E a o x p1 q3 hq3 H.size) (cwV 1 ha (gi_V (fun _ h => h) mw1786 mw1788 mw41 mw87 mw1789) rfl rfl rfl hv_X11_deviationOf ⟨(Nat.le_of_ble_eq_true rfl), (Nat.le_of_ble_eq_true rfl)⟩) ⟨pre_blind, va_recv hst.k (fr_P hP [0] rfl) (ci := 13) (q0 := 0) rfl rfl, pre_at hP hD hS hz hzs hst [0] (by decide) rfl rfl⟩ rfl rfl hl.1 rfl (lv_room (Nat.le_of_ble_eq_true rfl)) dX11_fits_15 ⟨(Nat.le_of_ble_eq_true rfl), (Nat.le_of_ble_eq_true rfl)⟩) hP hD hS hA [0] (by decide) rfl rfl rfl rfl (fun H locs hP hD hS => ?_)
    obtain ⟨q4, hq4, hF⟩ := q_bdi hF
    refine cl_i (Lc := []) (Lc' := []) (L' := [w_Model E a o x]) (rv := q4) (va_runS (As := [.int q3]) (rest := []) ⟨hx, hb, hml, hown, ha⟩ (k_X11_size l E q3 q4 hq4 H.size) (cwS 1 ha (gi_S (fun _ h => h) mw1790 mw1791 mw87 mw1792) rfl rfl rfl hv_X11_size ⟨(Nat.le_of_ble_eq_true rfl), (Nat.le_of_ble_eq_true rfl)⟩) ⟨pre_blind, pre_at hP hD hS hz hzs hst [] (by decide) rfl rfl⟩ rfl rfl hl.1 rfl (lv_room (Nat.le_of_ble_eq_true rfl)) dX11_fits_18 ⟨(Nat.le_of_ble_eq_true rfl), (Nat.le_of_ble_eq_true rfl)⟩) hP hD hS hA [] (by decide) rfl rfl rfl rfl (fun H locs hP hD hS => ?_)
    refine lv_aload_n hx hb dX11_fits_21 rfl (lv_at hl 0 rfl) ?_
    refine va_get (D := E.1) (ci := 13) (v := .ref (a (o + 1))) (C := RX11) (T := TX11) (N := 18) hx hb ha in_X11 hown hst.k hP 0 rfl rfl 0 (by decide) (ha _ mw1636) (fun _ h9 => h9) rfl dX11_fits_22 ?_
    refine lv_iconst (v := 4) hx hb dX11_fits_25 (by decide) ?_
    refine vi_iald hx hb hst.k hP 1 0 rfl rfl (f := x.1.1) (k := 4) (by decide) (by decide) dX11_fits_26 ?_
    refine lv_icmp_gt (tgt := 34) hx hb dX11_fits_27 (by decide) (fun c27 => ?_) (fun c27 => ?_)
    · have hF := q_brp c27 hF
      refine lv_iconst (v := 0) hx hb dX11_fits_34 (by decide) ?_
      obtain rfl := Option.some.inj hF
      exact en_z hQ (Nat.le_of_ble_eq_true rfl) (Nat.le_of_ble_eq_true rfl) hx hb hr hlocks (by decide) hP hD hS rfl dX11_fits_35
    · have hF := q_brn c27 hF
      refine lv_iconst (v := 1) hx hb dX11_fits_30 (by decide) ?_
      refine lv_goto (tgt := 35) hx hb dX11_fits_31 (by decide) ?_
      obtain rfl := Option.some.inj hF
      exact en_z hQ (Nat.le_of_ble_eq_true rfl) (Nat.le_of_ble_eq_true rfl) hx hb hr hlocks (by decide) hP hD hS rfl dX11_fits_35

/-! X11_isKeyed -/
theorem dX11_isKeyed_0 : decode cX11_isKeyed 0 = .ok (.aload_n 0, 1) := by decide +kernel
theorem dX11_isKeyed_1 : decode cX11_isKeyed 1 = .ok (.iload_n 1, 1) := by decide +kernel
theorem dX11_isKeyed_2 : decode cX11_isKeyed 2 = .ok (.aload_n 0, 1) := by decide +kernel
theorem dX11_isKeyed_3 : decode cX11_isKeyed 3 = .ok (.getfield 7, 3) := by decide +kernel
theorem dX11_isKeyed_6 : decode cX11_isKeyed 6 = .ok (.iconst 2, 1) := by decide +kernel
theorem dX11_isKeyed_7 : decode cX11_isKeyed 7 = .ok (.iaload, 1) := by decide +kernel
theorem dX11_isKeyed_8 : decode cX11_isKeyed 8 = .ok (.aload_n 0, 1) := by decide +kernel
theorem dX11_isKeyed_9 : decode cX11_isKeyed 9 = .ok (.getfield 7, 3) := by decide +kernel
theorem dX11_isKeyed_12 : decode cX11_isKeyed 12 = .ok (.iconst 3, 1) := by decide +kernel
theorem dX11_isKeyed_13 : decode cX11_isKeyed 13 = .ok (.iaload, 1) := by decide +kernel
theorem dX11_isKeyed_14 : decode cX11_isKeyed 14 = .ok (.invokevirtual 73, 3) := by decide +kernel
theorem dX11_isKeyed_17 : decode cX11_isKeyed 17 = .ok (.ireturn, 1) := by decide +kernel
def f_X11_isKeyed (x_g : (Nat → Int32)) (p1 : Int32) : Option (Int32) :=
  q_bd (f_X11_fits x_g p1 (x_g 2) (x_g 3)) (fun q1 =>
  q_gd (q1 = 0 ∨ q1 = 1) (
  some q1))
theorem hv_X11_isKeyed : yX11_isKeyed.cls = RX11 ∧ yX11_isKeyed.cls ≠ "java/lang/invoke/MethodHandle" ∧ yX11_isKeyed.cls ≠ "java/lang/invoke/VarHandle" ∧ (parseMethodDescriptor yX11_isKeyed.desc).map (fun d => d.parameters.length) = some 1 := by decide +kernel
abbrev rm_X11_isKeyed : Room := { frames := 3, cells := 0, slots := 0, locals := 68 }
set_option maxHeartbeats 4000000 in
set_option maxRecDepth 100000 in
theorem k_X11_isKeyed (l : Launch) (E : ET) (a : Nat → Nat) (o : Nat) (x : Model_t) (p1 : Int32) (res : Int32) (hF : f_X11_isKeyed x.1.1 p1 = some res) (sz : Nat) : CtI l yX11_isKeyed (mws yX11_isKeyed cX11_isKeyed 2 (some .boolean)) rm_X11_isKeyed 0 0 [.ref (a o), .int p1] E (bl_Model E a o x) res (bl_Model E a o x) sz := by
  refine mk_M (by decide +kernel) (Nat.le_of_ble_eq_true rfl) ?_
  intro p e s m below meth c A args Q ls hAe hsz hQ hx hb hr hml hin ha hown hlocks hA hz hzs hst hP hD hS hl
  have hown : s.vm.findClass RX11 = some m.cls := hown
  rw [hAe] at hQ
  subst hsz
  have hP : va_P E.1 vwCl (List.flatten [w_Model E a o x]) s.heap := hP
  have hD : va_D A (List.flatten [w_Model E a o x]) := hD
  have hl : lv_has ls 2 [(0, .ref (a o)), (1, .int p1)] := hl
  generalize hHe : s.heap = H at hP
  have hS : va_S A s.heap H [] := by rw [← hHe]; exact hS
  generalize ([] : List Loc) = locs at hS ⊢
  unfold f_X11_isKeyed at hF
  refine lv_aload_n hx hb dX11_isKeyed_0 rfl (lv_at hl 0 rfl) ?_
  refine lv_iload_n hx hb dX11_isKeyed_1 rfl (lv_at hl 1 rfl) ?_
  refine lv_aload_n hx hb dX11_isKeyed_2 rfl (lv_at hl 0 rfl) ?_
  refine va_get (D := E.1) (ci := 13) (v := .ref (a (o + 1))) (C := RX11) (T := TX11) (N := 18) hx hb ha in_X11 hown hst.k hP 0 rfl rfl 0 (by decide) (ha _ mw1636) (fun _ h9 => h9) rfl dX11_isKeyed_3 ?_
  refine lv_iconst (v := 2) hx hb dX11_isKeyed_6 (by decide) ?_
  refine vi_iald hx hb hst.k hP 1 0 rfl rfl (f := x.1.1) (k := 2) (by decide) (by decide) dX11_isKeyed_7 ?_
  refine lv_aload_n hx hb dX11_isKeyed_8 rfl (lv_at hl 0 rfl) ?_
  refine va_get (D := E.1) (ci := 13) (v := .ref (a (o + 1))) (C := RX11) (T := TX11) (N := 18) hx hb ha in_X11 hown hst.k hP 0 rfl rfl 0 (by decide) (ha _ mw1636) (fun _ h9 => h9) rfl dX11_isKeyed_9 ?_
  refine lv_iconst (v := 3) hx hb dX11_isKeyed_12 (by decide) ?_
  refine vi_iald hx hb hst.k hP 1 0 rfl rfl (f := x.1.1) (k := 3) (by decide) (by decide) dX11_isKeyed_13 ?_
  obtain ⟨q1, hq1, hF⟩ := q_bdi hF
  refine cl_i (Lc := [w_Model E a o x]) (Lc' := [w_Model E a o x]) (L' := [w_Model E a o x]) (rv := q1) (va_runV (As := [.int p1, .int (x.1.1 2), .int (x.1.1 3)]) (rest := []) ⟨hx, hb, hml, hown, ha⟩ (k_X11_fits l E a o x p1 (x.1.1 2) (x.1.1 3) q1 hq1 H.size) (cwV 3 ha (gi_V (fun _ h => h) mw1772 mw1774 mw39 mw87 mw1775) rfl rfl rfl hv_X11_fits ⟨(Nat.le_of_ble_eq_true rfl), (Nat.le_of_ble_eq_true rfl)⟩) ⟨pre_blind, va_recv hst.k (fr_P hP [0] rfl) (ci := 13) (q0 := 0) rfl rfl, pre_at hP hD hS hz hzs hst [0] (by decide) rfl rfl⟩ rfl rfl hl.1 rfl (lv_room (Nat.le_of_ble_eq_true rfl)) dX11_isKeyed_14 ⟨(Nat.le_of_ble_eq_true rfl), (Nat.le_of_ble_eq_true rfl)⟩) hP hD hS hA [0] (by decide) rfl rfl rfl rfl (fun H locs hP hD hS => ?_)
  obtain ⟨g2, hF⟩ := q_gdi hF
  obtain rfl := Option.some.inj hF
  exact en_z hQ (Nat.le_of_ble_eq_true rfl) (Nat.le_of_ble_eq_true rfl) hx hb hr hlocks (nz_b g2) hP hD hS rfl dX11_isKeyed_17

/-! X11_keyed -/
theorem dX11_keyed_0 : decode cX11_keyed 0 = .ok (.iconst 0, 1) := by decide +kernel
theorem dX11_keyed_1 : decode cX11_keyed 1 = .ok (.istore_n 3, 1) := by decide +kernel
theorem dX11_keyed_2 : decode cX11_keyed 2 = .ok (.iconst 0, 1) := by decide +kernel
theorem dX11_keyed_3 : decode cX11_keyed 3 = .ok (.istore 4, 2) := by decide +kernel
theorem dX11_keyed_5 : decode cX11_keyed 5 = .ok (.iload 4, 2) := by decide +kernel
theorem dX11_keyed_7 : decode cX11_keyed 7 = .ok (.aload_n 0, 1) := by decide +kernel
theorem dX11_keyed_8 : decode cX11_keyed 8 = .ok (.getfield 7, 3) := by decide +kernel
theorem dX11_keyed_11 : decode cX11_keyed 11 = .ok (.iconst 0, 1) := by decide +kernel
theorem dX11_keyed_12 : decode cX11_keyed 12 = .ok (.iaload, 1) := by decide +kernel
theorem dX11_keyed_13 : decode cX11_keyed 13 = .ok (.if_icmp .ge 28, 3) := by decide +kernel
theorem dX11_keyed_16 : decode cX11_keyed 16 = .ok (.iload_n 3, 1) := by decide +kernel
theorem dX11_keyed_17 : decode cX11_keyed 17 = .ok (.aload_n 0, 1) := by decide +kernel
theorem dX11_keyed_18 : decode cX11_keyed 18 = .ok (.iload 4, 2) := by decide +kernel
theorem dX11_keyed_20 : decode cX11_keyed 20 = .ok (.iload_n 1, 1) := by decide +kernel
theorem dX11_keyed_21 : decode cX11_keyed 21 = .ok (.iload_n 2, 1) := by decide +kernel
theorem dX11_keyed_22 : decode cX11_keyed 22 = .ok (.invokevirtual 73, 3) := by decide +kernel
theorem dX11_keyed_25 : decode cX11_keyed 25 = .ok (.ifCond .eq 7, 3) := by decide +kernel
theorem dX11_keyed_28 : decode cX11_keyed 28 = .ok (.iconst 1, 1) := by decide +kernel
theorem dX11_keyed_29 : decode cX11_keyed 29 = .ok (.goto 4, 3) := by decide +kernel
theorem dX11_keyed_32 : decode cX11_keyed 32 = .ok (.iconst 0, 1) := by decide +kernel
theorem dX11_keyed_33 : decode cX11_keyed 33 = .ok (.iadd, 1) := by decide +kernel
theorem dX11_keyed_34 : decode cX11_keyed 34 = .ok (.istore_n 3, 1) := by decide +kernel
theorem dX11_keyed_35 : decode cX11_keyed 35 = .ok (.iinc 4 1, 3) := by decide +kernel
theorem dX11_keyed_38 : decode cX11_keyed 38 = .ok (.goto (-33), 3) := by decide +kernel
theorem dX11_keyed_41 : decode cX11_keyed 41 = .ok (.iload_n 3, 1) := by decide +kernel
theorem dX11_keyed_42 : decode cX11_keyed 42 = .ok (.ireturn, 1) := by decide +kernel
def f_X11_keyed_L5 (x_g : (Nat → Int32)) (p1 : Int32) (p2 : Int32) : Nat → Int32 → Int32 → Option (Int32)
  | 0, _, _ => none
  | n5 + 1, i1, i2 =>
    q_br ((x_g 0) ≤ i1) (
  some i2) (
  q_bd (f_X11_fits x_g i1 p1 p2) (fun q3 =>
  q_lt (fun (j4 : Int32) =>
  q_lt (i2 + j4 : Int32) (fun v5 =>
  q_lt (i1 + 1 : Int32) (fun v6 =>
  f_X11_keyed_L5 x_g p1 p2 n5 v6 v5))) (fun (J33 : Int32 → Option (Int32)) =>
  q_br (q3 = 0) (
  J33 0) (
  J33 1))))
def f_X11_keyed (x_g : (Nat → Int32)) (p1 : Int32) (p2 : Int32) : Option (Int32) :=
  f_X11_keyed_L5 x_g p1 p2 2000 0 0
theorem hv_X11_keyed : yX11_keyed.cls = RX11 ∧ yX11_keyed.cls ≠ "java/lang/invoke/MethodHandle" ∧ yX11_keyed.cls ≠ "java/lang/invoke/VarHandle" ∧ (parseMethodDescriptor yX11_keyed.desc).map (fun d => d.parameters.length) = some 2 := by decide +kernel
abbrev rm_X11_keyed : Room := { frames := 3, cells := 0, slots := 0, locals := 68 }
set_option maxHeartbeats 4000000 in
set_option maxRecDepth 100000 in
theorem k_X11_keyed (l : Launch) (E : ET) (a : Nat → Nat) (o : Nat) (x : Model_t) (p1 : Int32) (p2 : Int32) (res : Int32) (hF : f_X11_keyed x.1.1 p1 p2 = some res) (sz : Nat) : CtI l yX11_keyed (mws yX11_keyed cX11_keyed 5 (some .int)) rm_X11_keyed 0 0 [.ref (a o), .int p1, .int p2] E (bl_Model E a o x) res (bl_Model E a o x) sz := by
  refine mk_M (by decide +kernel) (Nat.le_of_ble_eq_true rfl) ?_
  intro p e s m below meth c A args Q ls hAe hsz hQ hx hb hr hml hin ha hown hlocks hA hz hzs hst hP hD hS hl
  have hown : s.vm.findClass RX11 = some m.cls := hown
  rw [hAe] at hQ
  subst hsz
  have hP : va_P E.1 vwCl (List.flatten [w_Model E a o x]) s.heap := hP
  have hD : va_D A (List.flatten [w_Model E a o x]) := hD
  have hl : lv_has ls 5 [(0, .ref (a o)), (1, .int p1), (2, .int p2)] := hl
  generalize hHe : s.heap = H at hP
  have hS : va_S A s.heap H [] := by rw [← hHe]; exact hS
  generalize ([] : List Loc) = locs at hS ⊢
  unfold f_X11_keyed at hF
  refine lv_iconst (v := 0) hx hb dX11_keyed_0 (by decide) ?_
  refine lv_istore_n (lv' := [(3, .int 0), (0, .ref (a o)), (1, .int p1), (2, .int p2)]) hx hb dX11_keyed_1 rfl hl (by decide) rfl (fun ls hl => ?_)
  refine lv_iconst (v := 0) hx hb dX11_keyed_2 (by decide) ?_
  refine lv_istore (lv' := [(4, .int 0), (3, .int 0), (0, .ref (a o)), (1, .int p1), (2, .int p2)]) hx hb dX11_keyed_3 hl (by decide) rfl (fun ls hl => ?_)
  have key5 : ∀ (n : Nat) (i1 : Int32) (i2 : Int32) (H : Heap) (locs : List Loc) (ls : Array Slot), f_X11_keyed_L5 x.1.1 p1 p2 n i1 i2 = some res → va_P E.1 vwCl (List.flatten [w_Model E a o x]) H → va_D A (List.flatten [w_Model E a o x]) → va_S A s.heap H locs → lv_has ls 5 [(4, .int i1), (3, .int i2), (0, .ref (a o)), (1, .int p1), (2, .int p2)] → W p l e rm_X11_keyed s m args below meth c H locs 0 0 Q (F0 m 5 ls []) := by
    intro n5
    induction n5 with
    | zero => intro i1 i2 H locs ls hF; exact absurd hF (by simp [f_X11_keyed_L5])
    | succ n5 ih5 =>
      intro i1 i2 H locs ls hF hP hD hS hl
      rw [f_X11_keyed_L5] at hF
      refine lv_iload hx hb dX11_keyed_5 (lv_at hl 0 rfl) ?_
      refine lv_aload_n hx hb dX11_keyed_7 rfl (lv_at hl 2 rfl) ?_
      refine va_get (D := E.1) (ci := 13) (v := .ref (a (o + 1))) (C := RX11) (T := TX11) (N := 18) hx hb ha in_X11 hown hst.k hP 0 rfl rfl 0 (by decide) (ha _ mw1636) (fun _ h9 => h9) rfl dX11_keyed_8 ?_
      refine lv_iconst (v := 0) hx hb dX11_keyed_11 (by decide) ?_
      refine vi_iald hx hb hst.k hP 1 0 rfl rfl (f := x.1.1) (k := 0) (by decide) (by decide) dX11_keyed_12 ?_
      refine lv_icmp_ge (tgt := 41) hx hb dX11_keyed_13 (by decide) (fun c13 => ?_) (fun c13 => ?_)
      · have hF := q_brp c13 hF
        refine lv_iload_n hx hb dX11_keyed_41 rfl (lv_at hl 1 rfl) ?_
        obtain rfl := Option.some.inj hF
        exact en_i hQ (Nat.le_of_ble_eq_true rfl) (Nat.le_of_ble_eq_true rfl) hx hb hr hlocks hP hD hS rfl dX11_keyed_42
      · have hF := q_brn c13 hF
        refine lv_iload_n hx hb dX11_keyed_16 rfl (lv_at hl 1 rfl) ?_
        refine lv_aload_n hx hb dX11_keyed_17 rfl (lv_at hl 2 rfl) ?_
        refine lv_iload hx hb dX11_keyed_18 (lv_at hl 0 rfl) ?_
        refine lv_iload_n hx hb dX11_keyed_20 rfl (lv_at hl 3 rfl) ?_
        refine lv_iload_n hx hb dX11_keyed_21 rfl (lv_at hl 4 rfl) ?_
        obtain ⟨q3, hq3, hF⟩ := q_bdi hF
        refine cl_i (Lc := [w_Model E a o x]) (Lc' := [w_Model E a o x]) (L' := [w_Model E a o x]) (rv := q3) (va_runV (As := [.int i1, .int p1, .int p2]) (rest := [.int i2]) ⟨hx, hb, hml, hown, ha⟩ (k_X11_fits l E a o x i1 p1 p2 q3 hq3 H.size) (cwV 3 ha (gi_V (fun _ h => h) mw1772 mw1774 mw39 mw87 mw1775) rfl rfl rfl hv_X11_fits ⟨(Nat.le_of_ble_eq_true rfl), (Nat.le_of_ble_eq_true rfl)⟩) ⟨pre_blind, va_recv hst.k (fr_P hP [0] rfl) (ci := 13) (q0 := 0) rfl rfl, pre_at hP hD hS hz hzs hst [0] (by decide) rfl rfl⟩ rfl rfl hl.1 rfl (lv_room (Nat.le_of_ble_eq_true rfl)) dX11_keyed_22 ⟨(Nat.le_of_ble_eq_true rfl), (Nat.le_of_ble_eq_true rfl)⟩) hP hD hS hA [0] (by decide) rfl rfl rfl rfl (fun H locs hP hD hS => ?_)
        obtain ⟨J33, hJ33, hF⟩ := q_jn hF
        have jJ33 : ∀ (j4 : Int32), ∀ (H : Heap) (locs : List Loc) (ls : Array Slot), J33 j4 = some res → va_P E.1 vwCl (List.flatten [w_Model E a o x]) H → va_D A (List.flatten [w_Model E a o x]) → va_S A s.heap H locs → lv_has ls 5 [(4, .int i1), (0, .ref (a o)), (1, .int p1), (2, .int p2)] → W p l e rm_X11_keyed s m args below meth c H locs 0 0 Q (F0 m 33 ls [.int j4, .int i2]) := by
          intro j4 H locs ls hF hP hD hS hl
          rw [hJ33] at hF
          refine lv_iadd hx hb dX11_keyed_33 ?_
          refine lv_topi (fun v5 ev5 => ?_)
          have hF := q_lti ev5 hF
          refine lv_istore_n (lv' := [(3, .int v5), (4, .int i1), (0, .ref (a o)), (1, .int p1), (2, .int p2)]) hx hb dX11_keyed_34 rfl hl (by decide) rfl (fun ls hl => ?_)
          obtain ⟨v6, ev6⟩ : ∃ y : Int32, y = i1 + 1 := ⟨_, rfl⟩
          have hF := q_lti ev6 hF
          refine lv_iinc (v := v6) (lv' := [(4, .int v6), (3, .int v5), (0, .ref (a o)), (1, .int p1), (2, .int p2)]) hx hb dX11_keyed_35 hl (k := 1) rfl (by rw [ev6]; rfl) (by decide) rfl (fun ls hl => ?_)
          refine lv_goto (tgt := 5) hx hb dX11_keyed_38 (by decide) ?_
          exact ih5 v6 v5 H locs ls hF hP hD hS (lv_sub hl [0, 1, 2, 3, 4] rfl)
        refine lv_if_eq (tgt := 32) hx hb dX11_keyed_25 (by decide) (fun c25 => ?_) (fun c25 => ?_)
        · have hF := q_brp c25 hF
          refine lv_iconst (v := 0) hx hb dX11_keyed_32 (by decide) ?_
          exact jJ33 0 H locs ls hF hP hD hS (lv_sub hl [0, 2, 3, 4] rfl)
        · have hF := q_brn c25 hF
          refine lv_iconst (v := 1) hx hb dX11_keyed_28 (by decide) ?_
          refine lv_goto (tgt := 33) hx hb dX11_keyed_29 (by decide) ?_
          exact jJ33 1 H locs ls hF hP hD hS (lv_sub hl [0, 2, 3, 4] rfl)
  exact key5 _ 0 0 H locs ls hF hP hD hS (lv_sub hl [0, 1, 2, 3, 4] rfl)

/-! X11_adds -/
theorem dX11_adds_0 : decode cX11_adds 0 = .ok (.iload_n 1, 1) := by decide +kernel
theorem dX11_adds_1 : decode cX11_adds 1 = .ok (.invokestatic 76, 3) := by decide +kernel
theorem dX11_adds_4 : decode cX11_adds 4 = .ok (.ifCond .ne 9, 3) := by decide +kernel
theorem dX11_adds_7 : decode cX11_adds 7 = .ok (.aload_n 0, 1) := by decide +kernel
theorem dX11_adds_8 : decode cX11_adds 8 = .ok (.iconst 1, 1) := by decide +kernel
theorem dX11_adds_9 : decode cX11_adds 9 = .ok (.invokevirtual 80, 3) := by decide +kernel
theorem dX11_adds_12 : decode cX11_adds 12 = .ok (.ireturn, 1) := by decide +kernel
theorem dX11_adds_13 : decode cX11_adds 13 = .ok (.iload_n 2, 1) := by decide +kernel
theorem dX11_adds_14 : decode cX11_adds 14 = .ok (.sipush 3600, 3) := by decide +kernel
theorem dX11_adds_17 : decode cX11_adds 17 = .ok (.sipush 8400, 3) := by decide +kernel
theorem dX11_adds_20 : decode cX11_adds 20 = .ok (.invokestatic 52, 3) := by decide +kernel
theorem dX11_adds_23 : decode cX11_adds 23 = .ok (.ifCond .ne 9, 3) := by decide +kernel
theorem dX11_adds_26 : decode cX11_adds 26 = .ok (.aload_n 0, 1) := by decide +kernel
theorem dX11_adds_27 : decode cX11_adds 27 = .ok (.iconst 2, 1) := by decide +kernel
theorem dX11_adds_28 : decode cX11_adds 28 = .ok (.invokevirtual 80, 3) := by decide +kernel
theorem dX11_adds_31 : decode cX11_adds 31 = .ok (.ireturn, 1) := by decide +kernel
theorem dX11_adds_32 : decode cX11_adds 32 = .ok (.aload_n 0, 1) := by decide +kernel
theorem dX11_adds_33 : decode cX11_adds 33 = .ok (.getfield 7, 3) := by decide +kernel
theorem dX11_adds_36 : decode cX11_adds 36 = .ok (.iconst 0, 1) := by decide +kernel
theorem dX11_adds_37 : decode cX11_adds 37 = .ok (.iaload, 1) := by decide +kernel
theorem dX11_adds_38 : decode cX11_adds 38 = .ok (.istore_n 3, 1) := by decide +kernel
theorem dX11_adds_39 : decode cX11_adds 39 = .ok (.iload_n 3, 1) := by decide +kernel
theorem dX11_adds_40 : decode cX11_adds 40 = .ok (.bipush 12, 2) := by decide +kernel
theorem dX11_adds_42 : decode cX11_adds 42 = .ok (.if_icmp .ne 9, 3) := by decide +kernel
theorem dX11_adds_45 : decode cX11_adds 45 = .ok (.aload_n 0, 1) := by decide +kernel
theorem dX11_adds_46 : decode cX11_adds 46 = .ok (.iconst 3, 1) := by decide +kernel
theorem dX11_adds_47 : decode cX11_adds 47 = .ok (.invokevirtual 80, 3) := by decide +kernel
theorem dX11_adds_50 : decode cX11_adds 50 = .ok (.ireturn, 1) := by decide +kernel
theorem dX11_adds_51 : decode cX11_adds 51 = .ok (.aload_n 0, 1) := by decide +kernel
theorem dX11_adds_52 : decode cX11_adds 52 = .ok (.getfield 7, 3) := by decide +kernel
theorem dX11_adds_55 : decode cX11_adds 55 = .ok (.iconst 5, 1) := by decide +kernel
theorem dX11_adds_56 : decode cX11_adds 56 = .ok (.iload_n 3, 1) := by decide +kernel
theorem dX11_adds_57 : decode cX11_adds 57 = .ok (.iadd, 1) := by decide +kernel
theorem dX11_adds_58 : decode cX11_adds 58 = .ok (.iload_n 1, 1) := by decide +kernel
theorem dX11_adds_59 : decode cX11_adds 59 = .ok (.iastore, 1) := by decide +kernel
theorem dX11_adds_60 : decode cX11_adds 60 = .ok (.aload_n 0, 1) := by decide +kernel
theorem dX11_adds_61 : decode cX11_adds 61 = .ok (.getfield 7, 3) := by decide +kernel
theorem dX11_adds_64 : decode cX11_adds 64 = .ok (.bipush 17, 2) := by decide +kernel
theorem dX11_adds_66 : decode cX11_adds 66 = .ok (.iload_n 3, 1) := by decide +kernel
theorem dX11_adds_67 : decode cX11_adds 67 = .ok (.iadd, 1) := by decide +kernel
theorem dX11_adds_68 : decode cX11_adds 68 = .ok (.iload_n 2, 1) := by decide +kernel
theorem dX11_adds_69 : decode cX11_adds 69 = .ok (.iastore, 1) := by decide +kernel
theorem dX11_adds_70 : decode cX11_adds 70 = .ok (.aload_n 0, 1) := by decide +kernel
theorem dX11_adds_71 : decode cX11_adds 71 = .ok (.getfield 7, 3) := by decide +kernel
theorem dX11_adds_74 : decode cX11_adds 74 = .ok (.iconst 0, 1) := by decide +kernel
theorem dX11_adds_75 : decode cX11_adds 75 = .ok (.dup2, 1) := by decide +kernel
theorem dX11_adds_76 : decode cX11_adds 76 = .ok (.iaload, 1) := by decide +kernel
theorem dX11_adds_77 : decode cX11_adds 77 = .ok (.iconst 1, 1) := by decide +kernel
theorem dX11_adds_78 : decode cX11_adds 78 = .ok (.iadd, 1) := by decide +kernel
theorem dX11_adds_79 : decode cX11_adds 79 = .ok (.iastore, 1) := by decide +kernel
theorem dX11_adds_80 : decode cX11_adds 80 = .ok (.aload_n 0, 1) := by decide +kernel
theorem dX11_adds_81 : decode cX11_adds 81 = .ok (.iload_n 3, 1) := by decide +kernel
theorem dX11_adds_82 : decode cX11_adds 82 = .ok (.invokevirtual 83, 3) := by decide +kernel
theorem dX11_adds_85 : decode cX11_adds 85 = .ok (.ireturn, 1) := by decide +kernel
def f_X11_adds (x_g : (Nat → Int32)) (x_thrown : Int32) (p1 : Int32) (p2 : Int32) : Option (Int32 × (Nat → Int32) × Int32) :=
  q_bd (f_X11_isHerd p1) (fun q1 =>
  q_br (q1 = 0) (
  q_bd (f_X11_fails x_thrown 1) (fun q12 =>
  some (q12.1, x_g, q12.2))) (
  q_bd (f_X11_in p2 3600 8400) (fun q2 =>
  q_br (q2 = 0) (
  q_bd (f_X11_fails x_thrown 2) (fun q11 =>
  some (q11.1, x_g, q11.2))) (
  q_lt (x_g 0 : Int32) (fun v3 =>
  q_br (v3 = 12) (
  q_bd (f_X11_fails x_thrown 3) (fun q10 =>
  some (q10.1, x_g, q10.2))) (
  q_gd (q_in (5 + v3) 77) (
  q_lt (upd x_g ((5 + v3).toNatClampNeg) p1) (fun u5 =>
  q_gd (q_in (17 + v3) 77) (
  q_lt (upd u5 ((17 + v3).toNatClampNeg) p2) (fun u7 =>
  q_lt (upd u7 0 ((u7 0) + 1)) (fun u8 =>
  q_bd (f_X11_done x_thrown v3) (fun q9 =>
  some (q9.1, u8, q9.2)))))))))))))
theorem hv_X11_adds : yX11_adds.cls = RX11 ∧ yX11_adds.cls ≠ "java/lang/invoke/MethodHandle" ∧ yX11_adds.cls ≠ "java/lang/invoke/VarHandle" ∧ (parseMethodDescriptor yX11_adds.desc).map (fun d => d.parameters.length) = some 2 := by decide +kernel
abbrev rm_X11_adds : Room := { frames := 2, cells := 0, slots := 0, locals := 42 }
set_option maxHeartbeats 4000000 in
set_option maxRecDepth 100000 in
theorem k_X11_adds (l : Launch) (E : ET) (a : Nat → Nat) (o : Nat) (x : Model_t) (p1 : Int32) (p2 : Int32) (res : Int32 × (Nat → Int32) × Int32) (hF : f_X11_adds x.1.1 x.2.2.2.1 p1 p2 = some res) (sz : Nat) : CtI l yX11_adds (mws yX11_adds cX11_adds 4 (some .int)) rm_X11_adds 0 0 [.ref (a o), .int p1, .int p2] E (bl_Model E a o x) res.1 (bl_Model E a o ((res.2.1, x.1.2.1, x.1.2.2.1, x.1.2.2.2.1, x.1.2.2.2.2), (x.2.1.1, x.2.1.2.1, x.2.1.2.2.1, x.2.1.2.2.2.1, x.2.1.2.2.2.2), (x.2.2.1.1, x.2.2.1.2.1, x.2.2.1.2.2.1, x.2.2.1.2.2.2), (res.2.2, x.2.2.2.2.1, x.2.2.2.2.2.1, x.2.2.2.2.2.2))) sz := by
  refine mk_M (by decide +kernel) (Nat.le_of_ble_eq_true rfl) ?_
  intro p e s m below meth c A args Q ls hAe hsz hQ hx hb hr hml hin ha hown hlocks hA hz hzs hst hP hD hS hl
  have hown : s.vm.findClass RX11 = some m.cls := hown
  rw [hAe] at hQ
  subst hsz
  have hP : va_P E.1 vwCl (List.flatten [w_Model E a o x]) s.heap := hP
  have hD : va_D A (List.flatten [w_Model E a o x]) := hD
  have hl : lv_has ls 4 [(0, .ref (a o)), (1, .int p1), (2, .int p2)] := hl
  generalize hHe : s.heap = H at hP
  have hS : va_S A s.heap H [] := by rw [← hHe]; exact hS
  generalize ([] : List Loc) = locs at hS ⊢
  unfold f_X11_adds at hF
  refine lv_iload_n hx hb dX11_adds_0 rfl (lv_at hl 1 rfl) ?_
  obtain ⟨q1, hq1, hF⟩ := q_bdi hF
  refine cl_i (Lc := []) (Lc' := []) (L' := [w_Model E a o x]) (rv := q1) (va_runS (As := [.int p1]) (rest := []) ⟨hx, hb, hml, hown, ha⟩ (k_X11_isHerd l E p1 q1 hq1 H.size) (cwS 1 ha (gi_S (fun _ h => h) mw1710 mw1711 mw87 mw1712) rfl rfl rfl hv_X11_isHerd ⟨(Nat.le_of_ble_eq_true rfl), (Nat.le_of_ble_eq_true rfl)⟩) ⟨pre_blind, pre_at hP hD hS hz hzs hst [] (by decide) rfl rfl⟩ rfl rfl hl.1 rfl (lv_room (Nat.le_of_ble_eq_true rfl)) dX11_adds_1 ⟨(Nat.le_of_ble_eq_true rfl), (Nat.le_of_ble_eq_true rfl)⟩) hP hD hS hA [] (by decide) rfl rfl rfl rfl (fun H locs hP hD hS => ?_)
  refine lv_if_ne (tgt := 13) hx hb dX11_adds_4 (by decide) (fun c4 => ?_) (fun c4 => ?_)
  · have hF := q_brn c4 hF
    refine lv_iload_n hx hb dX11_adds_13 rfl (lv_at hl 2 rfl) ?_
    refine lv_sipush (v := 3600) hx hb dX11_adds_14 (by decide) ?_
    refine lv_sipush (v := 8400) hx hb dX11_adds_17 (by decide) ?_
    obtain ⟨q2, hq2, hF⟩ := q_bdi hF
    refine cl_i (Lc := []) (Lc' := []) (L' := [w_Model E a o x]) (rv := q2) (va_runS (As := [.int p2, .int 3600, .int 8400]) (rest := []) ⟨hx, hb, hml, hown, ha⟩ (k_X11_in l E p2 3600 8400 q2 hq2 H.size) (cwS 3 ha (gi_S (fun _ h => h) mw1713 mw1714 mw87 mw1715) rfl rfl rfl hv_X11_in ⟨(Nat.le_of_ble_eq_true rfl), (Nat.le_of_ble_eq_true rfl)⟩) ⟨pre_blind, pre_at hP hD hS hz hzs hst [] (by decide) rfl rfl⟩ rfl rfl hl.1 rfl (lv_room (Nat.le_of_ble_eq_true rfl)) dX11_adds_20 ⟨(Nat.le_of_ble_eq_true rfl), (Nat.le_of_ble_eq_true rfl)⟩) hP hD hS hA [] (by decide) rfl rfl rfl rfl (fun H locs hP hD hS => ?_)
    refine lv_if_ne (tgt := 32) hx hb dX11_adds_23 (by decide) (fun c23 => ?_) (fun c23 => ?_)
    · have hF := q_brn c23 hF
      refine lv_aload_n hx hb dX11_adds_32 rfl (lv_at hl 0 rfl) ?_
      refine va_get (D := E.1) (ci := 13) (v := .ref (a (o + 1))) (C := RX11) (T := TX11) (N := 18) hx hb ha in_X11 hown hst.k hP 0 rfl rfl 0 (by decide) (ha _ mw1636) (fun _ h9 => h9) rfl dX11_adds_33 ?_
      refine lv_iconst (v := 0) hx hb dX11_adds_36 (by decide) ?_
      refine vi_iald hx hb hst.k hP 1 0 rfl rfl (f := x.1.1) (k := 0) (by decide) (by decide) dX11_adds_37 ?_
      refine lv_topi (fun v3 ev3 => ?_)
      have hF := q_lti ev3 hF
      refine lv_istore_n (lv' := [(3, .int v3), (0, .ref (a o)), (1, .int p1), (2, .int p2)]) hx hb dX11_adds_38 rfl hl (by decide) rfl (fun ls hl => ?_)
      refine lv_iload_n hx hb dX11_adds_39 rfl (lv_at hl 0 rfl) ?_
      refine lv_bipush (v := 12) hx hb dX11_adds_40 (by decide) ?_
      refine lv_icmp_ne (tgt := 51) hx hb dX11_adds_42 (by decide) (fun c42 => ?_) (fun c42 => ?_)
      · have hF := q_brn c42 hF
        refine lv_aload_n hx hb dX11_adds_51 rfl (lv_at hl 1 rfl) ?_
        refine va_get (D := E.1) (ci := 13) (v := .ref (a (o + 1))) (C := RX11) (T := TX11) (N := 18) hx hb ha in_X11 hown hst.k hP 0 rfl rfl 0 (by decide) (ha _ mw1636) (fun _ h9 => h9) rfl dX11_adds_52 ?_
        refine lv_iconst (v := 5) hx hb dX11_adds_55 (by decide) ?_
        refine lv_iload_n hx hb dX11_adds_56 rfl (lv_at hl 0 rfl) ?_
        refine lv_iadd hx hb dX11_adds_57 ?_
        refine lv_iload_n hx hb dX11_adds_58 rfl (lv_at hl 2 rfl) ?_
        obtain ⟨g4, hF⟩ := q_gdi hF
        refine vj_iast hx hb hst.k hP hD hS 1 0 rfl rfl (f := x.1.1) (k := (5 + v3).toNatClampNeg) rfl g4 dX11_adds_59 (fun u5 eu5 H locs hP hD hS => ?_)
        have hF := q_lti eu5 hF
        have hP : va_P E.1 vwCl (List.flatten [w_Model E a o ((u5, x.1.2.1, x.1.2.2.1, x.1.2.2.2.1, x.1.2.2.2.2), (x.2.1.1, x.2.1.2.1, x.2.1.2.2.1, x.2.1.2.2.2.1, x.2.1.2.2.2.2), (x.2.2.1.1, x.2.2.1.2.1, x.2.2.1.2.2.1, x.2.2.1.2.2.2), (x.2.2.2.1, x.2.2.2.2.1, x.2.2.2.2.2.1, x.2.2.2.2.2.2))]) H := hP
        have hD : va_D A (List.flatten [w_Model E a o ((u5, x.1.2.1, x.1.2.2.1, x.1.2.2.2.1, x.1.2.2.2.2), (x.2.1.1, x.2.1.2.1, x.2.1.2.2.1, x.2.1.2.2.2.1, x.2.1.2.2.2.2), (x.2.2.1.1, x.2.2.1.2.1, x.2.2.1.2.2.1, x.2.2.1.2.2.2), (x.2.2.2.1, x.2.2.2.2.1, x.2.2.2.2.2.1, x.2.2.2.2.2.2))]) := hD
        refine lv_aload_n hx hb dX11_adds_60 rfl (lv_at hl 1 rfl) ?_
        refine va_get (D := E.1) (ci := 13) (v := .ref (a (o + 1))) (C := RX11) (T := TX11) (N := 18) hx hb ha in_X11 hown hst.k hP 0 rfl rfl 0 (by decide) (ha _ mw1636) (fun _ h9 => h9) rfl dX11_adds_61 ?_
        refine lv_bipush (v := 17) hx hb dX11_adds_64 (by decide) ?_
        refine lv_iload_n hx hb dX11_adds_66 rfl (lv_at hl 0 rfl) ?_
        refine lv_iadd hx hb dX11_adds_67 ?_
        refine lv_iload_n hx hb dX11_adds_68 rfl (lv_at hl 3 rfl) ?_
        obtain ⟨g6, hF⟩ := q_gdi hF
        refine vj_iast hx hb hst.k hP hD hS 1 0 rfl rfl (f := u5) (k := (17 + v3).toNatClampNeg) rfl g6 dX11_adds_69 (fun u7 eu7 H locs hP hD hS => ?_)
        have hF := q_lti eu7 hF
        have hP : va_P E.1 vwCl (List.flatten [w_Model E a o ((u7, x.1.2.1, x.1.2.2.1, x.1.2.2.2.1, x.1.2.2.2.2), (x.2.1.1, x.2.1.2.1, x.2.1.2.2.1, x.2.1.2.2.2.1, x.2.1.2.2.2.2), (x.2.2.1.1, x.2.2.1.2.1, x.2.2.1.2.2.1, x.2.2.1.2.2.2), (x.2.2.2.1, x.2.2.2.2.1, x.2.2.2.2.2.1, x.2.2.2.2.2.2))]) H := hP
        have hD : va_D A (List.flatten [w_Model E a o ((u7, x.1.2.1, x.1.2.2.1, x.1.2.2.2.1, x.1.2.2.2.2), (x.2.1.1, x.2.1.2.1, x.2.1.2.2.1, x.2.1.2.2.2.1, x.2.1.2.2.2.2), (x.2.2.1.1, x.2.2.1.2.1, x.2.2.1.2.2.1, x.2.2.1.2.2.2), (x.2.2.2.1, x.2.2.2.2.1, x.2.2.2.2.2.1, x.2.2.2.2.2.2))]) := hD
        refine lv_aload_n hx hb dX11_adds_70 rfl (lv_at hl 1 rfl) ?_
        refine va_get (D := E.1) (ci := 13) (v := .ref (a (o + 1))) (C := RX11) (T := TX11) (N := 18) hx hb ha in_X11 hown hst.k hP 0 rfl rfl 0 (by decide) (ha _ mw1636) (fun _ h9 => h9) rfl dX11_adds_71 ?_
        refine lv_iconst (v := 0) hx hb dX11_adds_74 (by decide) ?_
        refine lv_dup2_11 hx hb dX11_adds_75 rfl rfl ?_
        refine vi_iald hx hb hst.k hP 1 0 rfl rfl (f := u7) (k := 0) (by decide) (by decide) dX11_adds_76 ?_
        refine lv_iconst (v := 1) hx hb dX11_adds_77 (by decide) ?_
        refine lv_iadd hx hb dX11_adds_78 ?_
        refine vj_iast hx hb hst.k hP hD hS 1 0 rfl rfl (f := u7) (k := 0) (by decide) (by decide) dX11_adds_79 (fun u8 eu8 H locs hP hD hS => ?_)
        have hF := q_lti eu8 hF
        have hP : va_P E.1 vwCl (List.flatten [w_Model E a o ((u8, x.1.2.1, x.1.2.2.1, x.1.2.2.2.1, x.1.2.2.2.2), (x.2.1.1, x.2.1.2.1, x.2.1.2.2.1, x.2.1.2.2.2.1, x.2.1.2.2.2.2), (x.2.2.1.1, x.2.2.1.2.1, x.2.2.1.2.2.1, x.2.2.1.2.2.2), (x.2.2.2.1, x.2.2.2.2.1, x.2.2.2.2.2.1, x.2.2.2.2.2.2))]) H := hP
        have hD : va_D A (List.flatten [w_Model E a o ((u8, x.1.2.1, x.1.2.2.1, x.1.2.2.2.1, x.1.2.2.2.2), (x.2.1.1, x.2.1.2.1, x.2.1.2.2.1, x.2.1.2.2.2.1, x.2.1.2.2.2.2), (x.2.2.1.1, x.2.2.1.2.1, x.2.2.1.2.2.1, x.2.2.1.2.2.2), (x.2.2.2.1, x.2.2.2.2.1, x.2.2.2.2.2.1, x.2.2.2.2.2.2))]) := hD
        refine lv_aload_n hx hb dX11_adds_80 rfl (lv_at hl 1 rfl) ?_
        refine lv_iload_n hx hb dX11_adds_81 rfl (lv_at hl 0 rfl) ?_
        obtain ⟨q9, hq9, hF⟩ := q_bdi hF
        refine cl_i (Lc := [w_Model E a o ((u8, x.1.2.1, x.1.2.2.1, x.1.2.2.2.1, x.1.2.2.2.2), (x.2.1.1, x.2.1.2.1, x.2.1.2.2.1, x.2.1.2.2.2.1, x.2.1.2.2.2.2), (x.2.2.1.1, x.2.2.1.2.1, x.2.2.1.2.2.1, x.2.2.1.2.2.2), (x.2.2.2.1, x.2.2.2.2.1, x.2.2.2.2.2.1, x.2.2.2.2.2.2))]) (Lc' := [w_Model E a o ((u8, x.1.2.1, x.1.2.2.1, x.1.2.2.2.1, x.1.2.2.2.2), (x.2.1.1, x.2.1.2.1, x.2.1.2.2.1, x.2.1.2.2.2.1, x.2.1.2.2.2.2), (x.2.2.1.1, x.2.2.1.2.1, x.2.2.1.2.2.1, x.2.2.1.2.2.2), (q9.2, x.2.2.2.2.1, x.2.2.2.2.2.1, x.2.2.2.2.2.2))]) (L' := [w_Model E a o ((u8, x.1.2.1, x.1.2.2.1, x.1.2.2.2.1, x.1.2.2.2.2), (x.2.1.1, x.2.1.2.1, x.2.1.2.2.1, x.2.1.2.2.2.1, x.2.1.2.2.2.2), (x.2.2.1.1, x.2.2.1.2.1, x.2.2.1.2.2.1, x.2.2.1.2.2.2), (q9.2, x.2.2.2.2.1, x.2.2.2.2.2.1, x.2.2.2.2.2.2))]) (rv := q9.1) (va_runV (As := [.int v3]) (rest := []) ⟨hx, hb, hml, hown, ha⟩ (k_X11_done l E a o ((u8, x.1.2.1, x.1.2.2.1, x.1.2.2.2.1, x.1.2.2.2.2), (x.2.1.1, x.2.1.2.1, x.2.1.2.2.1, x.2.1.2.2.2.1, x.2.1.2.2.2.2), (x.2.2.1.1, x.2.2.1.2.1, x.2.2.1.2.2.1, x.2.2.1.2.2.2), (x.2.2.2.1, x.2.2.2.2.1, x.2.2.2.2.2.1, x.2.2.2.2.2.2)) v3 q9 hq9 H.size) (cwV 1 ha (gi_V (fun _ h => h) mw1720 mw1722 mw30 mw87 mw1723) rfl rfl rfl hv_X11_done ⟨(Nat.le_of_ble_eq_true rfl), (Nat.le_of_ble_eq_true rfl)⟩) ⟨pre_blind, va_recv hst.k (fr_P hP [0] rfl) (ci := 13) (q0 := 0) rfl rfl, pre_at hP hD hS hz hzs hst [0] (by decide) rfl rfl⟩ rfl rfl hl.1 rfl (lv_room (Nat.le_of_ble_eq_true rfl)) dX11_adds_82 ⟨(Nat.le_of_ble_eq_true rfl), (Nat.le_of_ble_eq_true rfl)⟩) hP hD hS hA [0] (by decide) rfl rfl rfl rfl (fun H locs hP hD hS => ?_)
        obtain rfl := Option.some.inj hF
        exact en_i hQ (Nat.le_of_ble_eq_true rfl) (Nat.le_of_ble_eq_true rfl) hx hb hr hlocks hP hD hS rfl dX11_adds_85
      · have hF := q_brp c42 hF
        refine lv_aload_n hx hb dX11_adds_45 rfl (lv_at hl 1 rfl) ?_
        refine lv_iconst (v := 3) hx hb dX11_adds_46 (by decide) ?_
        obtain ⟨q10, hq10, hF⟩ := q_bdi hF
        refine cl_i (Lc := [w_Model E a o x]) (Lc' := [w_Model E a o ((x.1.1, x.1.2.1, x.1.2.2.1, x.1.2.2.2.1, x.1.2.2.2.2), (x.2.1.1, x.2.1.2.1, x.2.1.2.2.1, x.2.1.2.2.2.1, x.2.1.2.2.2.2), (x.2.2.1.1, x.2.2.1.2.1, x.2.2.1.2.2.1, x.2.2.1.2.2.2), (q10.2, x.2.2.2.2.1, x.2.2.2.2.2.1, x.2.2.2.2.2.2))]) (L' := [w_Model E a o ((x.1.1, x.1.2.1, x.1.2.2.1, x.1.2.2.2.1, x.1.2.2.2.2), (x.2.1.1, x.2.1.2.1, x.2.1.2.2.1, x.2.1.2.2.2.1, x.2.1.2.2.2.2), (x.2.2.1.1, x.2.2.1.2.1, x.2.2.1.2.2.1, x.2.2.1.2.2.2), (q10.2, x.2.2.2.2.1, x.2.2.2.2.2.1, x.2.2.2.2.2.2))]) (rv := q10.1) (va_runV (As := [.int 3]) (rest := []) ⟨hx, hb, hml, hown, ha⟩ (k_X11_fails l E a o x 3 q10 hq10 H.size) (cwV 1 ha (gi_V (fun _ h => h) mw1716 mw1718 mw29 mw87 mw1719) rfl rfl rfl hv_X11_fails ⟨(Nat.le_of_ble_eq_true rfl), (Nat.le_of_ble_eq_true rfl)⟩) ⟨pre_blind, va_recv hst.k (fr_P hP [0] rfl) (ci := 13) (q0 := 0) rfl rfl, pre_at hP hD hS hz hzs hst [0] (by decide) rfl rfl⟩ rfl rfl hl.1 rfl (lv_room (Nat.le_of_ble_eq_true rfl)) dX11_adds_47 ⟨(Nat.le_of_ble_eq_true rfl), (Nat.le_of_ble_eq_true rfl)⟩) hP hD hS hA [0] (by decide) rfl rfl rfl rfl (fun H locs hP hD hS => ?_)
        obtain rfl := Option.some.inj hF
        exact en_i hQ (Nat.le_of_ble_eq_true rfl) (Nat.le_of_ble_eq_true rfl) hx hb hr hlocks hP hD hS rfl dX11_adds_50
    · have hF := q_brp c23 hF
      refine lv_aload_n hx hb dX11_adds_26 rfl (lv_at hl 0 rfl) ?_
      refine lv_iconst (v := 2) hx hb dX11_adds_27 (by decide) ?_
      obtain ⟨q11, hq11, hF⟩ := q_bdi hF
      refine cl_i (Lc := [w_Model E a o x]) (Lc' := [w_Model E a o ((x.1.1, x.1.2.1, x.1.2.2.1, x.1.2.2.2.1, x.1.2.2.2.2), (x.2.1.1, x.2.1.2.1, x.2.1.2.2.1, x.2.1.2.2.2.1, x.2.1.2.2.2.2), (x.2.2.1.1, x.2.2.1.2.1, x.2.2.1.2.2.1, x.2.2.1.2.2.2), (q11.2, x.2.2.2.2.1, x.2.2.2.2.2.1, x.2.2.2.2.2.2))]) (L' := [w_Model E a o ((x.1.1, x.1.2.1, x.1.2.2.1, x.1.2.2.2.1, x.1.2.2.2.2), (x.2.1.1, x.2.1.2.1, x.2.1.2.2.1, x.2.1.2.2.2.1, x.2.1.2.2.2.2), (x.2.2.1.1, x.2.2.1.2.1, x.2.2.1.2.2.1, x.2.2.1.2.2.2), (q11.2, x.2.2.2.2.1, x.2.2.2.2.2.1, x.2.2.2.2.2.2))]) (rv := q11.1) (va_runV (As := [.int 2]) (rest := []) ⟨hx, hb, hml, hown, ha⟩ (k_X11_fails l E a o x 2 q11 hq11 H.size) (cwV 1 ha (gi_V (fun _ h => h) mw1716 mw1718 mw29 mw87 mw1719) rfl rfl rfl hv_X11_fails ⟨(Nat.le_of_ble_eq_true rfl), (Nat.le_of_ble_eq_true rfl)⟩) ⟨pre_blind, va_recv hst.k (fr_P hP [0] rfl) (ci := 13) (q0 := 0) rfl rfl, pre_at hP hD hS hz hzs hst [0] (by decide) rfl rfl⟩ rfl rfl hl.1 rfl (lv_room (Nat.le_of_ble_eq_true rfl)) dX11_adds_28 ⟨(Nat.le_of_ble_eq_true rfl), (Nat.le_of_ble_eq_true rfl)⟩) hP hD hS hA [0] (by decide) rfl rfl rfl rfl (fun H locs hP hD hS => ?_)
      obtain rfl := Option.some.inj hF
      exact en_i hQ (Nat.le_of_ble_eq_true rfl) (Nat.le_of_ble_eq_true rfl) hx hb hr hlocks hP hD hS rfl dX11_adds_31
  · have hF := q_brp c4 hF
    refine lv_aload_n hx hb dX11_adds_7 rfl (lv_at hl 0 rfl) ?_
    refine lv_iconst (v := 1) hx hb dX11_adds_8 (by decide) ?_
    obtain ⟨q12, hq12, hF⟩ := q_bdi hF
    refine cl_i (Lc := [w_Model E a o x]) (Lc' := [w_Model E a o ((x.1.1, x.1.2.1, x.1.2.2.1, x.1.2.2.2.1, x.1.2.2.2.2), (x.2.1.1, x.2.1.2.1, x.2.1.2.2.1, x.2.1.2.2.2.1, x.2.1.2.2.2.2), (x.2.2.1.1, x.2.2.1.2.1, x.2.2.1.2.2.1, x.2.2.1.2.2.2), (q12.2, x.2.2.2.2.1, x.2.2.2.2.2.1, x.2.2.2.2.2.2))]) (L' := [w_Model E a o ((x.1.1, x.1.2.1, x.1.2.2.1, x.1.2.2.2.1, x.1.2.2.2.2), (x.2.1.1, x.2.1.2.1, x.2.1.2.2.1, x.2.1.2.2.2.1, x.2.1.2.2.2.2), (x.2.2.1.1, x.2.2.1.2.1, x.2.2.1.2.2.1, x.2.2.1.2.2.2), (q12.2, x.2.2.2.2.1, x.2.2.2.2.2.1, x.2.2.2.2.2.2))]) (rv := q12.1) (va_runV (As := [.int 1]) (rest := []) ⟨hx, hb, hml, hown, ha⟩ (k_X11_fails l E a o x 1 q12 hq12 H.size) (cwV 1 ha (gi_V (fun _ h => h) mw1716 mw1718 mw29 mw87 mw1719) rfl rfl rfl hv_X11_fails ⟨(Nat.le_of_ble_eq_true rfl), (Nat.le_of_ble_eq_true rfl)⟩) ⟨pre_blind, va_recv hst.k (fr_P hP [0] rfl) (ci := 13) (q0 := 0) rfl rfl, pre_at hP hD hS hz hzs hst [0] (by decide) rfl rfl⟩ rfl rfl hl.1 rfl (lv_room (Nat.le_of_ble_eq_true rfl)) dX11_adds_9 ⟨(Nat.le_of_ble_eq_true rfl), (Nat.le_of_ble_eq_true rfl)⟩) hP hD hS hA [0] (by decide) rfl rfl rfl rfl (fun H locs hP hD hS => ?_)
    obtain rfl := Option.some.inj hF
    exact en_i hQ (Nat.le_of_ble_eq_true rfl) (Nat.le_of_ble_eq_true rfl) hx hb hr hlocks hP hD hS rfl dX11_adds_12

/-! X11_dropsTones -/
theorem dX11_dropsTones_0 : decode cX11_dropsTones 0 = .ok (.bipush 37, 2) := by decide +kernel
theorem dX11_dropsTones_2 : decode cX11_dropsTones 2 = .ok (.bipush 8, 2) := by decide +kernel
theorem dX11_dropsTones_4 : decode cX11_dropsTones 4 = .ok (.iload_n 1, 1) := by decide +kernel
theorem dX11_dropsTones_5 : decode cX11_dropsTones 5 = .ok (.imul, 1) := by decide +kernel
theorem dX11_dropsTones_6 : decode cX11_dropsTones 6 = .ok (.iadd, 1) := by decide +kernel
theorem dX11_dropsTones_7 : decode cX11_dropsTones 7 = .ok (.istore_n 3, 1) := by decide +kernel
theorem dX11_dropsTones_8 : decode cX11_dropsTones 8 = .ok (.aload_n 0, 1) := by decide +kernel
theorem dX11_dropsTones_9 : decode cX11_dropsTones 9 = .ok (.getfield 7, 3) := by decide +kernel
theorem dX11_dropsTones_12 : decode cX11_dropsTones 12 = .ok (.bipush 33, 2) := by decide +kernel
theorem dX11_dropsTones_14 : decode cX11_dropsTones 14 = .ok (.iload_n 1, 1) := by decide +kernel
theorem dX11_dropsTones_15 : decode cX11_dropsTones 15 = .ok (.iadd, 1) := by decide +kernel
theorem dX11_dropsTones_16 : decode cX11_dropsTones 16 = .ok (.iaload, 1) := by decide +kernel
theorem dX11_dropsTones_17 : decode cX11_dropsTones 17 = .ok (.istore 4, 2) := by decide +kernel
theorem dX11_dropsTones_19 : decode cX11_dropsTones 19 = .ok (.iconst 0, 1) := by decide +kernel
theorem dX11_dropsTones_20 : decode cX11_dropsTones 20 = .ok (.istore 5, 2) := by decide +kernel
theorem dX11_dropsTones_22 : decode cX11_dropsTones 22 = .ok (.iconst 0, 1) := by decide +kernel
theorem dX11_dropsTones_23 : decode cX11_dropsTones 23 = .ok (.istore 6, 2) := by decide +kernel
theorem dX11_dropsTones_25 : decode cX11_dropsTones 25 = .ok (.iload 6, 2) := by decide +kernel
theorem dX11_dropsTones_27 : decode cX11_dropsTones 27 = .ok (.iload 4, 2) := by decide +kernel
theorem dX11_dropsTones_29 : decode cX11_dropsTones 29 = .ok (.if_icmp .ge 53, 3) := by decide +kernel
theorem dX11_dropsTones_32 : decode cX11_dropsTones 32 = .ok (.aload_n 0, 1) := by decide +kernel
theorem dX11_dropsTones_33 : decode cX11_dropsTones 33 = .ok (.getfield 7, 3) := by decide +kernel
theorem dX11_dropsTones_36 : decode cX11_dropsTones 36 = .ok (.iload_n 3, 1) := by decide +kernel
theorem dX11_dropsTones_37 : decode cX11_dropsTones 37 = .ok (.iload 6, 2) := by decide +kernel
theorem dX11_dropsTones_39 : decode cX11_dropsTones 39 = .ok (.iadd, 1) := by decide +kernel
theorem dX11_dropsTones_40 : decode cX11_dropsTones 40 = .ok (.iaload, 1) := by decide +kernel
theorem dX11_dropsTones_41 : decode cX11_dropsTones 41 = .ok (.istore 7, 2) := by decide +kernel
theorem dX11_dropsTones_43 : decode cX11_dropsTones 43 = .ok (.iload 7, 2) := by decide +kernel
theorem dX11_dropsTones_45 : decode cX11_dropsTones 45 = .ok (.iload_n 2, 1) := by decide +kernel
theorem dX11_dropsTones_46 : decode cX11_dropsTones 46 = .ok (.if_icmp .eq 30, 3) := by decide +kernel
theorem dX11_dropsTones_49 : decode cX11_dropsTones 49 = .ok (.aload_n 0, 1) := by decide +kernel
theorem dX11_dropsTones_50 : decode cX11_dropsTones 50 = .ok (.getfield 7, 3) := by decide +kernel
theorem dX11_dropsTones_53 : decode cX11_dropsTones 53 = .ok (.iload_n 3, 1) := by decide +kernel
theorem dX11_dropsTones_54 : decode cX11_dropsTones 54 = .ok (.iload 5, 2) := by decide +kernel
theorem dX11_dropsTones_56 : decode cX11_dropsTones 56 = .ok (.iadd, 1) := by decide +kernel
theorem dX11_dropsTones_57 : decode cX11_dropsTones 57 = .ok (.iload 7, 2) := by decide +kernel
theorem dX11_dropsTones_59 : decode cX11_dropsTones 59 = .ok (.iload_n 2, 1) := by decide +kernel
theorem dX11_dropsTones_60 : decode cX11_dropsTones 60 = .ok (.if_icmp .le 10, 3) := by decide +kernel
theorem dX11_dropsTones_63 : decode cX11_dropsTones 63 = .ok (.iload 7, 2) := by decide +kernel
theorem dX11_dropsTones_65 : decode cX11_dropsTones 65 = .ok (.iconst 1, 1) := by decide +kernel
theorem dX11_dropsTones_66 : decode cX11_dropsTones 66 = .ok (.isub, 1) := by decide +kernel
theorem dX11_dropsTones_67 : decode cX11_dropsTones 67 = .ok (.goto 5, 3) := by decide +kernel
theorem dX11_dropsTones_70 : decode cX11_dropsTones 70 = .ok (.iload 7, 2) := by decide +kernel
theorem dX11_dropsTones_72 : decode cX11_dropsTones 72 = .ok (.iastore, 1) := by decide +kernel
theorem dX11_dropsTones_73 : decode cX11_dropsTones 73 = .ok (.iinc 5 1, 3) := by decide +kernel
theorem dX11_dropsTones_76 : decode cX11_dropsTones 76 = .ok (.iinc 6 1, 3) := by decide +kernel
theorem dX11_dropsTones_79 : decode cX11_dropsTones 79 = .ok (.goto (-54), 3) := by decide +kernel
theorem dX11_dropsTones_82 : decode cX11_dropsTones 82 = .ok (.iload 5, 2) := by decide +kernel
theorem dX11_dropsTones_84 : decode cX11_dropsTones 84 = .ok (.istore 6, 2) := by decide +kernel
theorem dX11_dropsTones_86 : decode cX11_dropsTones 86 = .ok (.iload 6, 2) := by decide +kernel
theorem dX11_dropsTones_88 : decode cX11_dropsTones 88 = .ok (.iload 4, 2) := by decide +kernel
theorem dX11_dropsTones_90 : decode cX11_dropsTones 90 = .ok (.if_icmp .ge 19, 3) := by decide +kernel
theorem dX11_dropsTones_93 : decode cX11_dropsTones 93 = .ok (.aload_n 0, 1) := by decide +kernel
theorem dX11_dropsTones_94 : decode cX11_dropsTones 94 = .ok (.getfield 7, 3) := by decide +kernel
theorem dX11_dropsTones_97 : decode cX11_dropsTones 97 = .ok (.iload_n 3, 1) := by decide +kernel
theorem dX11_dropsTones_98 : decode cX11_dropsTones 98 = .ok (.iload 6, 2) := by decide +kernel
theorem dX11_dropsTones_100 : decode cX11_dropsTones 100 = .ok (.iadd, 1) := by decide +kernel
theorem dX11_dropsTones_101 : decode cX11_dropsTones 101 = .ok (.iconst 0, 1) := by decide +kernel
theorem dX11_dropsTones_102 : decode cX11_dropsTones 102 = .ok (.iastore, 1) := by decide +kernel
theorem dX11_dropsTones_103 : decode cX11_dropsTones 103 = .ok (.iinc 6 1, 3) := by decide +kernel
theorem dX11_dropsTones_106 : decode cX11_dropsTones 106 = .ok (.goto (-20), 3) := by decide +kernel
theorem dX11_dropsTones_109 : decode cX11_dropsTones 109 = .ok (.aload_n 0, 1) := by decide +kernel
theorem dX11_dropsTones_110 : decode cX11_dropsTones 110 = .ok (.getfield 7, 3) := by decide +kernel
theorem dX11_dropsTones_113 : decode cX11_dropsTones 113 = .ok (.bipush 33, 2) := by decide +kernel
theorem dX11_dropsTones_115 : decode cX11_dropsTones 115 = .ok (.iload_n 1, 1) := by decide +kernel
theorem dX11_dropsTones_116 : decode cX11_dropsTones 116 = .ok (.iadd, 1) := by decide +kernel
theorem dX11_dropsTones_117 : decode cX11_dropsTones 117 = .ok (.iload 5, 2) := by decide +kernel
theorem dX11_dropsTones_119 : decode cX11_dropsTones 119 = .ok (.iastore, 1) := by decide +kernel
theorem dX11_dropsTones_120 : decode cX11_dropsTones 120 = .ok (.iload 4, 2) := by decide +kernel
theorem dX11_dropsTones_122 : decode cX11_dropsTones 122 = .ok (.iload 5, 2) := by decide +kernel
theorem dX11_dropsTones_124 : decode cX11_dropsTones 124 = .ok (.isub, 1) := by decide +kernel
theorem dX11_dropsTones_125 : decode cX11_dropsTones 125 = .ok (.ireturn, 1) := by decide +kernel
def f_X11_dropsTones_L25 (p2 : Int32) (v1 : Int32) (v3 : Int32) (K25 : Int32 → (Nat → Int32) → Option (Int32 × (Nat → Int32))) : Nat → Int32 → Int32 → (Nat → Int32) → Option (Int32 × (Nat → Int32))
  | 0, _, _, _ => none
  | n25 + 1, i4, i5, i6 =>
    q_br (v3 ≤ i4) (
  K25 i5 i6) (
  q_gd (q_in (v1 + i4) 77) (
  q_lt (i6 ((v1 + i4).toNatClampNeg) : Int32) (fun v10 =>
  q_lt (fun (j11 : Int32) (j12 : (Nat → Int32)) =>
  q_lt (i4 + 1 : Int32) (fun v13 =>
  f_X11_dropsTones_L25 p2 v1 v3 K25 n25 v13 j11 j12)) (fun (J76 : Int32 → (Nat → Int32) → Option (Int32 × (Nat → Int32))) =>
  q_br (v10 = p2) (
  J76 i5 i6) (
  q_lt (fun (j14 : Int32) =>
  q_gd (q_in (v1 + i5) 77) (
  q_lt (upd i6 ((v1 + i5).toNatClampNeg) j14) (fun u16 =>
  q_lt (i5 + 1 : Int32) (fun v17 =>
  J76 v17 u16)))) (fun (J72 : Int32 → Option (Int32 × (Nat → Int32))) =>
  q_br (v10 ≤ p2) (
  J72 v10) (
  J72 (v10 - 1))))))))
def f_X11_dropsTones_L86 (v1 : Int32) (v3 : Int32) (K86 : (Nat → Int32) → Option (Int32 × (Nat → Int32))) : Nat → Int32 → (Nat → Int32) → Option (Int32 × (Nat → Int32))
  | 0, _, _ => none
  | n86 + 1, i18, i19 =>
    q_br (v3 ≤ i18) (
  K86 i19) (
  q_gd (q_in (v1 + i18) 77) (
  q_lt (upd i19 ((v1 + i18).toNatClampNeg) 0) (fun u22 =>
  q_lt (i18 + 1 : Int32) (fun v23 =>
  f_X11_dropsTones_L86 v1 v3 K86 n86 v23 u22))))
def f_X11_dropsTones (x_g : (Nat → Int32)) (p1 : Int32) (p2 : Int32) : Option (Int32 × (Nat → Int32)) :=
  q_lt (37 + (8 * p1) : Int32) (fun v1 =>
  q_gd (q_in (33 + p1) 77) (
  q_lt (x_g ((33 + p1).toNatClampNeg) : Int32) (fun v3 =>
  f_X11_dropsTones_L25 p2 v1 v3 (fun y7 y8 =>
  f_X11_dropsTones_L86 v1 v3 (fun y20 =>
  q_gd (q_in (33 + p1) 77) (
  q_lt (upd y20 ((33 + p1).toNatClampNeg) y7) (fun u25 =>
  some (v3 - y7, u25)))) 2000 y7 y8) 2000 0 0 x_g)))
theorem hv_X11_dropsTones : yX11_dropsTones.cls = RX11 ∧ yX11_dropsTones.cls ≠ "java/lang/invoke/MethodHandle" ∧ yX11_dropsTones.cls ≠ "java/lang/invoke/VarHandle" ∧ (parseMethodDescriptor yX11_dropsTones.desc).map (fun d => d.parameters.length) = some 2 := by decide +kernel
abbrev rm_X11_dropsTones : Room := { frames := 0, cells := 0, slots := 0, locals := 0 }
set_option maxHeartbeats 4000000 in
set_option maxRecDepth 100000 in
theorem k_X11_dropsTones (l : Launch) (E : ET) (a : Nat → Nat) (o : Nat) (x : Model_t) (p1 : Int32) (p2 : Int32) (res : Int32 × (Nat → Int32)) (hF : f_X11_dropsTones x.1.1 p1 p2 = some res) (sz : Nat) : CtI l yX11_dropsTones (mws yX11_dropsTones cX11_dropsTones 8 (some .int)) rm_X11_dropsTones 0 0 [.ref (a o), .int p1, .int p2] E (bl_Model E a o x) res.1 (bl_Model E a o ((res.2, x.1.2.1, x.1.2.2.1, x.1.2.2.2.1, x.1.2.2.2.2), (x.2.1.1, x.2.1.2.1, x.2.1.2.2.1, x.2.1.2.2.2.1, x.2.1.2.2.2.2), (x.2.2.1.1, x.2.2.1.2.1, x.2.2.1.2.2.1, x.2.2.1.2.2.2), (x.2.2.2.1, x.2.2.2.2.1, x.2.2.2.2.2.1, x.2.2.2.2.2.2))) sz := by
  refine mk_M (by decide +kernel) (Nat.le_of_ble_eq_true rfl) ?_
  intro p e s m below meth c A args Q ls hAe hsz hQ hx hb hr hml hin ha hown hlocks hA hz hzs hst hP hD hS hl
  have hown : s.vm.findClass RX11 = some m.cls := hown
  rw [hAe] at hQ
  subst hsz
  have hP : va_P E.1 vwCl (List.flatten [w_Model E a o x]) s.heap := hP
  have hD : va_D A (List.flatten [w_Model E a o x]) := hD
  have hl : lv_has ls 8 [(0, .ref (a o)), (1, .int p1), (2, .int p2)] := hl
  generalize hHe : s.heap = H at hP
  have hS : va_S A s.heap H [] := by rw [← hHe]; exact hS
  generalize ([] : List Loc) = locs at hS ⊢
  unfold f_X11_dropsTones at hF
  refine lv_bipush (v := 37) hx hb dX11_dropsTones_0 (by decide) ?_
  refine lv_bipush (v := 8) hx hb dX11_dropsTones_2 (by decide) ?_
  refine lv_iload_n hx hb dX11_dropsTones_4 rfl (lv_at hl 1 rfl) ?_
  refine lv_imul hx hb dX11_dropsTones_5 ?_
  refine lv_iadd hx hb dX11_dropsTones_6 ?_
  refine lv_topi (fun v1 ev1 => ?_)
  have hF := q_lti ev1 hF
  refine lv_istore_n (lv' := [(3, .int v1), (0, .ref (a o)), (1, .int p1), (2, .int p2)]) hx hb dX11_dropsTones_7 rfl hl (by decide) rfl (fun ls hl => ?_)
  refine lv_aload_n hx hb dX11_dropsTones_8 rfl (lv_at hl 1 rfl) ?_
  refine va_get (D := E.1) (ci := 13) (v := .ref (a (o + 1))) (C := RX11) (T := TX11) (N := 18) hx hb ha in_X11 hown hst.k hP 0 rfl rfl 0 (by decide) (ha _ mw1636) (fun _ h9 => h9) rfl dX11_dropsTones_9 ?_
  refine lv_bipush (v := 33) hx hb dX11_dropsTones_12 (by decide) ?_
  refine lv_iload_n hx hb dX11_dropsTones_14 rfl (lv_at hl 2 rfl) ?_
  refine lv_iadd hx hb dX11_dropsTones_15 ?_
  obtain ⟨g2, hF⟩ := q_gdi hF
  refine vi_iald hx hb hst.k hP 1 0 rfl rfl (f := x.1.1) (k := (33 + p1).toNatClampNeg) rfl g2 dX11_dropsTones_16 ?_
  refine lv_topi (fun v3 ev3 => ?_)
  have hF := q_lti ev3 hF
  refine lv_istore (lv' := [(4, .int v3), (3, .int v1), (0, .ref (a o)), (1, .int p1), (2, .int p2)]) hx hb dX11_dropsTones_17 hl (by decide) rfl (fun ls hl => ?_)
  refine lv_iconst (v := 0) hx hb dX11_dropsTones_19 (by decide) ?_
  refine lv_istore (lv' := [(5, .int 0), (4, .int v3), (3, .int v1), (0, .ref (a o)), (1, .int p1), (2, .int p2)]) hx hb dX11_dropsTones_20 hl (by decide) rfl (fun ls hl => ?_)
  refine lv_iconst (v := 0) hx hb dX11_dropsTones_22 (by decide) ?_
  refine lv_istore (lv' := [(6, .int 0), (5, .int 0), (4, .int v3), (3, .int v1), (0, .ref (a o)), (1, .int p1), (2, .int p2)]) hx hb dX11_dropsTones_23 hl (by decide) rfl (fun ls hl => ?_)
  have key25 : ∀ (K : Int32 → (Nat → Int32) → Option (Int32 × (Nat → Int32))), (∀ (y7 : Int32) (y8 : (Nat → Int32)) (H : Heap) (locs : List Loc) (ls : Array Slot), K y7 y8 = some res → va_P E.1 vwCl (List.flatten [w_Model E a o ((y8, x.1.2.1, x.1.2.2.1, x.1.2.2.2.1, x.1.2.2.2.2), (x.2.1.1, x.2.1.2.1, x.2.1.2.2.1, x.2.1.2.2.2.1, x.2.1.2.2.2.2), (x.2.2.1.1, x.2.2.1.2.1, x.2.2.1.2.2.1, x.2.2.1.2.2.2), (x.2.2.2.1, x.2.2.2.2.1, x.2.2.2.2.2.1, x.2.2.2.2.2.2))]) H → va_D A (List.flatten [w_Model E a o ((y8, x.1.2.1, x.1.2.2.1, x.1.2.2.2.1, x.1.2.2.2.2), (x.2.1.1, x.2.1.2.1, x.2.1.2.2.1, x.2.1.2.2.2.1, x.2.1.2.2.2.2), (x.2.2.1.1, x.2.2.1.2.1, x.2.2.1.2.2.1, x.2.2.1.2.2.2), (x.2.2.2.1, x.2.2.2.2.1, x.2.2.2.2.2.1, x.2.2.2.2.2.2))]) → va_S A s.heap H locs → lv_has ls 8 [(5, .int y7), (4, .int v3), (3, .int v1), (0, .ref (a o)), (1, .int p1)] → W p l e rm_X11_dropsTones s m args below meth c H locs 0 0 Q (F0 m 82 ls [])) → ∀ (n : Nat) (i4 : Int32) (i5 : Int32) (i6 : (Nat → Int32)) (H : Heap) (locs : List Loc) (ls : Array Slot), f_X11_dropsTones_L25 p2 v1 v3 K n i4 i5 i6 = some res → va_P E.1 vwCl (List.flatten [w_Model E a o ((i6, x.1.2.1, x.1.2.2.1, x.1.2.2.2.1, x.1.2.2.2.2), (x.2.1.1, x.2.1.2.1, x.2.1.2.2.1, x.2.1.2.2.2.1, x.2.1.2.2.2.2), (x.2.2.1.1, x.2.2.1.2.1, x.2.2.1.2.2.1, x.2.2.1.2.2.2), (x.2.2.2.1, x.2.2.2.2.1, x.2.2.2.2.2.1, x.2.2.2.2.2.2))]) H → va_D A (List.flatten [w_Model E a o ((i6, x.1.2.1, x.1.2.2.1, x.1.2.2.2.1, x.1.2.2.2.2), (x.2.1.1, x.2.1.2.1, x.2.1.2.2.1, x.2.1.2.2.2.1, x.2.1.2.2.2.2), (x.2.2.1.1, x.2.2.1.2.1, x.2.2.1.2.2.1, x.2.2.1.2.2.2), (x.2.2.2.1, x.2.2.2.2.1, x.2.2.2.2.2.1, x.2.2.2.2.2.2))]) → va_S A s.heap H locs → lv_has ls 8 [(6, .int i4), (5, .int i5), (4, .int v3), (3, .int v1), (0, .ref (a o)), (1, .int p1), (2, .int p2)] → W p l e rm_X11_dropsTones s m args below meth c H locs 0 0 Q (F0 m 25 ls []) := by
    intro K25 hK25 n25
    induction n25 with
    | zero => intro i4 i5 i6 H locs ls hF; exact absurd hF (by simp [f_X11_dropsTones_L25])
    | succ n25 ih25 =>
      intro i4 i5 i6 H locs ls hF hP hD hS hl
      rw [f_X11_dropsTones_L25] at hF
      refine lv_iload hx hb dX11_dropsTones_25 (lv_at hl 0 rfl) ?_
      refine lv_iload hx hb dX11_dropsTones_27 (lv_at hl 2 rfl) ?_
      refine lv_icmp_ge (tgt := 82) hx hb dX11_dropsTones_29 (by decide) (fun c29 => ?_) (fun c29 => ?_)
      · have hF := q_brp c29 hF
        exact hK25 i5 i6 H locs ls hF hP hD hS (lv_sub hl [1, 2, 3, 4, 5] rfl)
      · have hF := q_brn c29 hF
        refine lv_aload_n hx hb dX11_dropsTones_32 rfl (lv_at hl 4 rfl) ?_
        refine va_get (D := E.1) (ci := 13) (v := .ref (a (o + 1))) (C := RX11) (T := TX11) (N := 18) hx hb ha in_X11 hown hst.k hP 0 rfl rfl 0 (by decide) (ha _ mw1636) (fun _ h9 => h9) rfl dX11_dropsTones_33 ?_
        refine lv_iload_n hx hb dX11_dropsTones_36 rfl (lv_at hl 3 rfl) ?_
        refine lv_iload hx hb dX11_dropsTones_37 (lv_at hl 0 rfl) ?_
        refine lv_iadd hx hb dX11_dropsTones_39 ?_
        obtain ⟨g9, hF⟩ := q_gdi hF
        refine vi_iald hx hb hst.k hP 1 0 rfl rfl (f := i6) (k := (v1 + i4).toNatClampNeg) rfl g9 dX11_dropsTones_40 ?_
        refine lv_topi (fun v10 ev10 => ?_)
        have hF := q_lti ev10 hF
        refine lv_istore (lv' := [(7, .int v10), (6, .int i4), (5, .int i5), (4, .int v3), (3, .int v1), (0, .ref (a o)), (1, .int p1), (2, .int p2)]) hx hb dX11_dropsTones_41 hl (by decide) rfl (fun ls hl => ?_)
        refine lv_iload hx hb dX11_dropsTones_43 (lv_at hl 0 rfl) ?_
        refine lv_iload_n hx hb dX11_dropsTones_45 rfl (lv_at hl 7 rfl) ?_
        obtain ⟨J76, hJ76, hF⟩ := q_jn hF
        have jJ76 : ∀ (j11 : Int32) (j12 : (Nat → Int32)), ∀ (H : Heap) (locs : List Loc) (ls : Array Slot), J76 j11 j12 = some res → va_P E.1 vwCl (List.flatten [w_Model E a o ((j12, x.1.2.1, x.1.2.2.1, x.1.2.2.2.1, x.1.2.2.2.2), (x.2.1.1, x.2.1.2.1, x.2.1.2.2.1, x.2.1.2.2.2.1, x.2.1.2.2.2.2), (x.2.2.1.1, x.2.2.1.2.1, x.2.2.1.2.2.1, x.2.2.1.2.2.2), (x.2.2.2.1, x.2.2.2.2.1, x.2.2.2.2.2.1, x.2.2.2.2.2.2))]) H → va_D A (List.flatten [w_Model E a o ((j12, x.1.2.1, x.1.2.2.1, x.1.2.2.2.1, x.1.2.2.2.2), (x.2.1.1, x.2.1.2.1, x.2.1.2.2.1, x.2.1.2.2.2.1, x.2.1.2.2.2.2), (x.2.2.1.1, x.2.2.1.2.1, x.2.2.1.2.2.1, x.2.2.1.2.2.2), (x.2.2.2.1, x.2.2.2.2.1, x.2.2.2.2.2.1, x.2.2.2.2.2.2))]) → va_S A s.heap H locs → lv_has ls 8 [(6, .int i4), (5, .int j11), (4, .int v3), (3, .int v1), (0, .ref (a o)), (1, .int p1), (2, .int p2)] → W p l e rm_X11_dropsTones s m args below meth c H locs 0 0 Q (F0 m 76 ls []) := by
          intro j11 j12 H locs ls hF hP hD hS hl
          rw [hJ76] at hF
          obtain ⟨v13, ev13⟩ : ∃ y : Int32, y = i4 + 1 := ⟨_, rfl⟩
          have hF := q_lti ev13 hF
          refine lv_iinc (v := v13) (lv' := [(6, .int v13), (5, .int j11), (4, .int v3), (3, .int v1), (0, .ref (a o)), (1, .int p1), (2, .int p2)]) hx hb dX11_dropsTones_76 hl (k := 0) rfl (by rw [ev13]; rfl) (by decide) rfl (fun ls hl => ?_)
          refine lv_goto (tgt := 25) hx hb dX11_dropsTones_79 (by decide) ?_
          exact ih25 v13 j11 j12 H locs ls hF hP hD hS (lv_sub hl [0, 1, 2, 3, 4, 5, 6] rfl)
        refine lv_icmp_eq (tgt := 76) hx hb dX11_dropsTones_46 (by decide) (fun c46 => ?_) (fun c46 => ?_)
        · have hF := q_brp c46 hF
          exact jJ76 i5 i6 H locs ls hF hP hD hS (lv_sub hl [1, 2, 3, 4, 5, 6, 7] rfl)
        · have hF := q_brn c46 hF
          refine lv_aload_n hx hb dX11_dropsTones_49 rfl (lv_at hl 5 rfl) ?_
          refine va_get (D := E.1) (ci := 13) (v := .ref (a (o + 1))) (C := RX11) (T := TX11) (N := 18) hx hb ha in_X11 hown hst.k hP 0 rfl rfl 0 (by decide) (ha _ mw1636) (fun _ h9 => h9) rfl dX11_dropsTones_50 ?_
          refine lv_iload_n hx hb dX11_dropsTones_53 rfl (lv_at hl 4 rfl) ?_
          refine lv_iload hx hb dX11_dropsTones_54 (lv_at hl 2 rfl) ?_
          refine lv_iadd hx hb dX11_dropsTones_56 ?_
          refine lv_iload hx hb dX11_dropsTones_57 (lv_at hl 0 rfl) ?_
          refine lv_iload_n hx hb dX11_dropsTones_59 rfl (lv_at hl 7 rfl) ?_
          obtain ⟨J72, hJ72, hF⟩ := q_jn hF
          have jJ72 : ∀ (j14 : Int32), ∀ (H : Heap) (locs : List Loc) (ls : Array Slot), J72 j14 = some res → va_P E.1 vwCl (List.flatten [w_Model E a o ((i6, x.1.2.1, x.1.2.2.1, x.1.2.2.2.1, x.1.2.2.2.2), (x.2.1.1, x.2.1.2.1, x.2.1.2.2.1, x.2.1.2.2.2.1, x.2.1.2.2.2.2), (x.2.2.1.1, x.2.2.1.2.1, x.2.2.1.2.2.1, x.2.2.1.2.2.2), (x.2.2.2.1, x.2.2.2.2.1, x.2.2.2.2.2.1, x.2.2.2.2.2.2))]) H → va_D A (List.flatten [w_Model E a o ((i6, x.1.2.1, x.1.2.2.1, x.1.2.2.2.1, x.1.2.2.2.2), (x.2.1.1, x.2.1.2.1, x.2.1.2.2.1, x.2.1.2.2.2.1, x.2.1.2.2.2.2), (x.2.2.1.1, x.2.2.1.2.1, x.2.2.1.2.2.1, x.2.2.1.2.2.2), (x.2.2.2.1, x.2.2.2.2.1, x.2.2.2.2.2.1, x.2.2.2.2.2.2))]) → va_S A s.heap H locs → lv_has ls 8 [(6, .int i4), (5, .int i5), (4, .int v3), (3, .int v1), (0, .ref (a o)), (1, .int p1), (2, .int p2)] → W p l e rm_X11_dropsTones s m args below meth c H locs 0 0 Q (F0 m 72 ls [.int j14, .int (v1 + i5), .ref (a (o + 1))]) := by
            intro j14 H locs ls hF hP hD hS hl
            rw [hJ72] at hF
            obtain ⟨g15, hF⟩ := q_gdi hF
            refine vj_iast hx hb hst.k hP hD hS 1 0 rfl rfl (f := i6) (k := (v1 + i5).toNatClampNeg) rfl g15 dX11_dropsTones_72 (fun u16 eu16 H locs hP hD hS => ?_)
            have hF := q_lti eu16 hF
            have hP : va_P E.1 vwCl (List.flatten [w_Model E a o ((u16, x.1.2.1, x.1.2.2.1, x.1.2.2.2.1, x.1.2.2.2.2), (x.2.1.1, x.2.1.2.1, x.2.1.2.2.1, x.2.1.2.2.2.1, x.2.1.2.2.2.2), (x.2.2.1.1, x.2.2.1.2.1, x.2.2.1.2.2.1, x.2.2.1.2.2.2), (x.2.2.2.1, x.2.2.2.2.1, x.2.2.2.2.2.1, x.2.2.2.2.2.2))]) H := hP
            have hD : va_D A (List.flatten [w_Model E a o ((u16, x.1.2.1, x.1.2.2.1, x.1.2.2.2.1, x.1.2.2.2.2), (x.2.1.1, x.2.1.2.1, x.2.1.2.2.1, x.2.1.2.2.2.1, x.2.1.2.2.2.2), (x.2.2.1.1, x.2.2.1.2.1, x.2.2.1.2.2.1, x.2.2.1.2.2.2), (x.2.2.2.1, x.2.2.2.2.1, x.2.2.2.2.2.1, x.2.2.2.2.2.2))]) := hD
            obtain ⟨v17, ev17⟩ : ∃ y : Int32, y = i5 + 1 := ⟨_, rfl⟩
            have hF := q_lti ev17 hF
            refine lv_iinc (v := v17) (lv' := [(5, .int v17), (6, .int i4), (4, .int v3), (3, .int v1), (0, .ref (a o)), (1, .int p1), (2, .int p2)]) hx hb dX11_dropsTones_73 hl (k := 1) rfl (by rw [ev17]; rfl) (by decide) rfl (fun ls hl => ?_)
            exact jJ76 v17 u16 H locs ls hF hP hD hS (lv_sub hl [1, 0, 2, 3, 4, 5, 6] rfl)
          refine lv_icmp_le (tgt := 70) hx hb dX11_dropsTones_60 (by decide) (fun c60 => ?_) (fun c60 => ?_)
          · have hF := q_brp c60 hF
            refine lv_iload hx hb dX11_dropsTones_70 (lv_at hl 0 rfl) ?_
            exact jJ72 v10 H locs ls hF hP hD hS (lv_sub hl [1, 2, 3, 4, 5, 6, 7] rfl)
          · have hF := q_brn c60 hF
            refine lv_iload hx hb dX11_dropsTones_63 (lv_at hl 0 rfl) ?_
            refine lv_iconst (v := 1) hx hb dX11_dropsTones_65 (by decide) ?_
            refine lv_isub hx hb dX11_dropsTones_66 ?_
            refine lv_goto (tgt := 72) hx hb dX11_dropsTones_67 (by decide) ?_
            exact jJ72 (v10 - 1) H locs ls hF hP hD hS (lv_sub hl [1, 2, 3, 4, 5, 6, 7] rfl)
  refine key25 _ ?_ _ 0 0 x.1.1 H locs ls hF hP hD hS (lv_sub hl [0, 1, 2, 3, 4, 5, 6] rfl)
  intro y7 y8 H locs ls hF hP hD hS hl
  refine lv_iload hx hb dX11_dropsTones_82 (lv_at hl 0 rfl) ?_
  refine lv_istore (lv' := [(6, .int y7), (5, .int y7), (4, .int v3), (3, .int v1), (0, .ref (a o)), (1, .int p1)]) hx hb dX11_dropsTones_84 hl (by decide) rfl (fun ls hl => ?_)
  have key86 : ∀ (K : (Nat → Int32) → Option (Int32 × (Nat → Int32))), (∀ (y20 : (Nat → Int32)) (H : Heap) (locs : List Loc) (ls : Array Slot), K y20 = some res → va_P E.1 vwCl (List.flatten [w_Model E a o ((y20, x.1.2.1, x.1.2.2.1, x.1.2.2.2.1, x.1.2.2.2.2), (x.2.1.1, x.2.1.2.1, x.2.1.2.2.1, x.2.1.2.2.2.1, x.2.1.2.2.2.2), (x.2.2.1.1, x.2.2.1.2.1, x.2.2.1.2.2.1, x.2.2.1.2.2.2), (x.2.2.2.1, x.2.2.2.2.1, x.2.2.2.2.2.1, x.2.2.2.2.2.2))]) H → va_D A (List.flatten [w_Model E a o ((y20, x.1.2.1, x.1.2.2.1, x.1.2.2.2.1, x.1.2.2.2.2), (x.2.1.1, x.2.1.2.1, x.2.1.2.2.1, x.2.1.2.2.2.1, x.2.1.2.2.2.2), (x.2.2.1.1, x.2.2.1.2.1, x.2.2.1.2.2.1, x.2.2.1.2.2.2), (x.2.2.2.1, x.2.2.2.2.1, x.2.2.2.2.2.1, x.2.2.2.2.2.2))]) → va_S A s.heap H locs → lv_has ls 8 [(5, .int y7), (4, .int v3), (0, .ref (a o)), (1, .int p1)] → W p l e rm_X11_dropsTones s m args below meth c H locs 0 0 Q (F0 m 109 ls [])) → ∀ (n : Nat) (i18 : Int32) (i19 : (Nat → Int32)) (H : Heap) (locs : List Loc) (ls : Array Slot), f_X11_dropsTones_L86 v1 v3 K n i18 i19 = some res → va_P E.1 vwCl (List.flatten [w_Model E a o ((i19, x.1.2.1, x.1.2.2.1, x.1.2.2.2.1, x.1.2.2.2.2), (x.2.1.1, x.2.1.2.1, x.2.1.2.2.1, x.2.1.2.2.2.1, x.2.1.2.2.2.2), (x.2.2.1.1, x.2.2.1.2.1, x.2.2.1.2.2.1, x.2.2.1.2.2.2), (x.2.2.2.1, x.2.2.2.2.1, x.2.2.2.2.2.1, x.2.2.2.2.2.2))]) H → va_D A (List.flatten [w_Model E a o ((i19, x.1.2.1, x.1.2.2.1, x.1.2.2.2.1, x.1.2.2.2.2), (x.2.1.1, x.2.1.2.1, x.2.1.2.2.1, x.2.1.2.2.2.1, x.2.1.2.2.2.2), (x.2.2.1.1, x.2.2.1.2.1, x.2.2.1.2.2.1, x.2.2.1.2.2.2), (x.2.2.2.1, x.2.2.2.2.1, x.2.2.2.2.2.1, x.2.2.2.2.2.2))]) → va_S A s.heap H locs → lv_has ls 8 [(6, .int i18), (5, .int y7), (4, .int v3), (3, .int v1), (0, .ref (a o)), (1, .int p1)] → W p l e rm_X11_dropsTones s m args below meth c H locs 0 0 Q (F0 m 86 ls []) := by
    intro K86 hK86 n86
    induction n86 with
    | zero => intro i18 i19 H locs ls hF; exact absurd hF (by simp [f_X11_dropsTones_L86])
    | succ n86 ih86 =>
      intro i18 i19 H locs ls hF hP hD hS hl
      rw [f_X11_dropsTones_L86] at hF
      refine lv_iload hx hb dX11_dropsTones_86 (lv_at hl 0 rfl) ?_
      refine lv_iload hx hb dX11_dropsTones_88 (lv_at hl 2 rfl) ?_
      refine lv_icmp_ge (tgt := 109) hx hb dX11_dropsTones_90 (by decide) (fun c90 => ?_) (fun c90 => ?_)
      · have hF := q_brp c90 hF
        exact hK86 i19 H locs ls hF hP hD hS (lv_sub hl [1, 2, 4, 5] rfl)
      · have hF := q_brn c90 hF
        refine lv_aload_n hx hb dX11_dropsTones_93 rfl (lv_at hl 4 rfl) ?_
        refine va_get (D := E.1) (ci := 13) (v := .ref (a (o + 1))) (C := RX11) (T := TX11) (N := 18) hx hb ha in_X11 hown hst.k hP 0 rfl rfl 0 (by decide) (ha _ mw1636) (fun _ h9 => h9) rfl dX11_dropsTones_94 ?_
        refine lv_iload_n hx hb dX11_dropsTones_97 rfl (lv_at hl 3 rfl) ?_
        refine lv_iload hx hb dX11_dropsTones_98 (lv_at hl 0 rfl) ?_
        refine lv_iadd hx hb dX11_dropsTones_100 ?_
        refine lv_iconst (v := 0) hx hb dX11_dropsTones_101 (by decide) ?_
        obtain ⟨g21, hF⟩ := q_gdi hF
        refine vj_iast hx hb hst.k hP hD hS 1 0 rfl rfl (f := i19) (k := (v1 + i18).toNatClampNeg) rfl g21 dX11_dropsTones_102 (fun u22 eu22 H locs hP hD hS => ?_)
        have hF := q_lti eu22 hF
        have hP : va_P E.1 vwCl (List.flatten [w_Model E a o ((u22, x.1.2.1, x.1.2.2.1, x.1.2.2.2.1, x.1.2.2.2.2), (x.2.1.1, x.2.1.2.1, x.2.1.2.2.1, x.2.1.2.2.2.1, x.2.1.2.2.2.2), (x.2.2.1.1, x.2.2.1.2.1, x.2.2.1.2.2.1, x.2.2.1.2.2.2), (x.2.2.2.1, x.2.2.2.2.1, x.2.2.2.2.2.1, x.2.2.2.2.2.2))]) H := hP
        have hD : va_D A (List.flatten [w_Model E a o ((u22, x.1.2.1, x.1.2.2.1, x.1.2.2.2.1, x.1.2.2.2.2), (x.2.1.1, x.2.1.2.1, x.2.1.2.2.1, x.2.1.2.2.2.1, x.2.1.2.2.2.2), (x.2.2.1.1, x.2.2.1.2.1, x.2.2.1.2.2.1, x.2.2.1.2.2.2), (x.2.2.2.1, x.2.2.2.2.1, x.2.2.2.2.2.1, x.2.2.2.2.2.2))]) := hD
        obtain ⟨v23, ev23⟩ : ∃ y : Int32, y = i18 + 1 := ⟨_, rfl⟩
        have hF := q_lti ev23 hF
        refine lv_iinc (v := v23) (lv' := [(6, .int v23), (5, .int y7), (4, .int v3), (3, .int v1), (0, .ref (a o)), (1, .int p1)]) hx hb dX11_dropsTones_103 hl (k := 0) rfl (by rw [ev23]; rfl) (by decide) rfl (fun ls hl => ?_)
        refine lv_goto (tgt := 86) hx hb dX11_dropsTones_106 (by decide) ?_
        exact ih86 v23 u22 H locs ls hF hP hD hS (lv_sub hl [0, 1, 2, 3, 4, 5] rfl)
  refine key86 _ ?_ _ y7 y8 H locs ls hF hP hD hS (lv_sub hl [0, 1, 2, 3, 4, 5] rfl)
  intro y20 H locs ls hF hP hD hS hl
  refine lv_aload_n hx hb dX11_dropsTones_109 rfl (lv_at hl 2 rfl) ?_
  refine va_get (D := E.1) (ci := 13) (v := .ref (a (o + 1))) (C := RX11) (T := TX11) (N := 18) hx hb ha in_X11 hown hst.k hP 0 rfl rfl 0 (by decide) (ha _ mw1636) (fun _ h9 => h9) rfl dX11_dropsTones_110 ?_
  refine lv_bipush (v := 33) hx hb dX11_dropsTones_113 (by decide) ?_
  refine lv_iload_n hx hb dX11_dropsTones_115 rfl (lv_at hl 3 rfl) ?_
  refine lv_iadd hx hb dX11_dropsTones_116 ?_
  refine lv_iload hx hb dX11_dropsTones_117 (lv_at hl 0 rfl) ?_
  obtain ⟨g24, hF⟩ := q_gdi hF
  refine vj_iast hx hb hst.k hP hD hS 1 0 rfl rfl (f := y20) (k := (33 + p1).toNatClampNeg) rfl g24 dX11_dropsTones_119 (fun u25 eu25 H locs hP hD hS => ?_)
  have hF := q_lti eu25 hF
  have hP : va_P E.1 vwCl (List.flatten [w_Model E a o ((u25, x.1.2.1, x.1.2.2.1, x.1.2.2.2.1, x.1.2.2.2.2), (x.2.1.1, x.2.1.2.1, x.2.1.2.2.1, x.2.1.2.2.2.1, x.2.1.2.2.2.2), (x.2.2.1.1, x.2.2.1.2.1, x.2.2.1.2.2.1, x.2.2.1.2.2.2), (x.2.2.2.1, x.2.2.2.2.1, x.2.2.2.2.2.1, x.2.2.2.2.2.2))]) H := hP
  have hD : va_D A (List.flatten [w_Model E a o ((u25, x.1.2.1, x.1.2.2.1, x.1.2.2.2.1, x.1.2.2.2.2), (x.2.1.1, x.2.1.2.1, x.2.1.2.2.1, x.2.1.2.2.2.1, x.2.1.2.2.2.2), (x.2.2.1.1, x.2.2.1.2.1, x.2.2.1.2.2.1, x.2.2.1.2.2.2), (x.2.2.2.1, x.2.2.2.2.1, x.2.2.2.2.2.1, x.2.2.2.2.2.2))]) := hD
  refine lv_iload hx hb dX11_dropsTones_120 (lv_at hl 1 rfl) ?_
  refine lv_iload hx hb dX11_dropsTones_122 (lv_at hl 0 rfl) ?_
  refine lv_isub hx hb dX11_dropsTones_124 ?_
  obtain rfl := Option.some.inj hF
  exact en_i hQ (Nat.le_of_ble_eq_true rfl) (Nat.le_of_ble_eq_true rfl) hx hb hr hlocks hP hD hS rfl dX11_dropsTones_125

/-! X11_removes -/
theorem dX11_removes_0 : decode cX11_removes 0 = .ok (.aload_n 0, 1) := by decide +kernel
theorem dX11_removes_1 : decode cX11_removes 1 = .ok (.iload_n 1, 1) := by decide +kernel
theorem dX11_removes_2 : decode cX11_removes 2 = .ok (.invokevirtual 96, 3) := by decide +kernel
theorem dX11_removes_5 : decode cX11_removes 5 = .ok (.ifCond .ne 9, 3) := by decide +kernel
theorem dX11_removes_8 : decode cX11_removes 8 = .ok (.aload_n 0, 1) := by decide +kernel
theorem dX11_removes_9 : decode cX11_removes 9 = .ok (.iconst 1, 1) := by decide +kernel
theorem dX11_removes_10 : decode cX11_removes 10 = .ok (.invokevirtual 80, 3) := by decide +kernel
theorem dX11_removes_13 : decode cX11_removes 13 = .ok (.ireturn, 1) := by decide +kernel
theorem dX11_removes_14 : decode cX11_removes 14 = .ok (.iconst 0, 1) := by decide +kernel
theorem dX11_removes_15 : decode cX11_removes 15 = .ok (.istore_n 2, 1) := by decide +kernel
theorem dX11_removes_16 : decode cX11_removes 16 = .ok (.iconst 0, 1) := by decide +kernel
theorem dX11_removes_17 : decode cX11_removes 17 = .ok (.istore_n 3, 1) := by decide +kernel
theorem dX11_removes_18 : decode cX11_removes 18 = .ok (.iload_n 3, 1) := by decide +kernel
theorem dX11_removes_19 : decode cX11_removes 19 = .ok (.iconst 4, 1) := by decide +kernel
theorem dX11_removes_20 : decode cX11_removes 20 = .ok (.if_icmp .ge 18, 3) := by decide +kernel
theorem dX11_removes_23 : decode cX11_removes 23 = .ok (.iload_n 2, 1) := by decide +kernel
theorem dX11_removes_24 : decode cX11_removes 24 = .ok (.aload_n 0, 1) := by decide +kernel
theorem dX11_removes_25 : decode cX11_removes 25 = .ok (.iload_n 3, 1) := by decide +kernel
theorem dX11_removes_26 : decode cX11_removes 26 = .ok (.iload_n 1, 1) := by decide +kernel
theorem dX11_removes_27 : decode cX11_removes 27 = .ok (.invokevirtual 99, 3) := by decide +kernel
theorem dX11_removes_30 : decode cX11_removes 30 = .ok (.iadd, 1) := by decide +kernel
theorem dX11_removes_31 : decode cX11_removes 31 = .ok (.istore_n 2, 1) := by decide +kernel
theorem dX11_removes_32 : decode cX11_removes 32 = .ok (.iinc 3 1, 3) := by decide +kernel
theorem dX11_removes_35 : decode cX11_removes 35 = .ok (.goto (-17), 3) := by decide +kernel
theorem dX11_removes_38 : decode cX11_removes 38 = .ok (.iload_n 1, 1) := by decide +kernel
theorem dX11_removes_39 : decode cX11_removes 39 = .ok (.istore_n 3, 1) := by decide +kernel
theorem dX11_removes_40 : decode cX11_removes 40 = .ok (.iload_n 3, 1) := by decide +kernel
theorem dX11_removes_41 : decode cX11_removes 41 = .ok (.bipush 12, 2) := by decide +kernel
theorem dX11_removes_43 : decode cX11_removes 43 = .ok (.if_icmp .ge 67, 3) := by decide +kernel
theorem dX11_removes_46 : decode cX11_removes 46 = .ok (.aload_n 0, 1) := by decide +kernel
theorem dX11_removes_47 : decode cX11_removes 47 = .ok (.getfield 7, 3) := by decide +kernel
theorem dX11_removes_50 : decode cX11_removes 50 = .ok (.iconst 5, 1) := by decide +kernel
theorem dX11_removes_51 : decode cX11_removes 51 = .ok (.iload_n 3, 1) := by decide +kernel
theorem dX11_removes_52 : decode cX11_removes 52 = .ok (.iadd, 1) := by decide +kernel
theorem dX11_removes_53 : decode cX11_removes 53 = .ok (.iload_n 3, 1) := by decide +kernel
theorem dX11_removes_54 : decode cX11_removes 54 = .ok (.bipush 11, 2) := by decide +kernel
theorem dX11_removes_56 : decode cX11_removes 56 = .ok (.if_icmp .ge 16, 3) := by decide +kernel
theorem dX11_removes_59 : decode cX11_removes 59 = .ok (.aload_n 0, 1) := by decide +kernel
theorem dX11_removes_60 : decode cX11_removes 60 = .ok (.getfield 7, 3) := by decide +kernel
theorem dX11_removes_63 : decode cX11_removes 63 = .ok (.iconst 5, 1) := by decide +kernel
theorem dX11_removes_64 : decode cX11_removes 64 = .ok (.iload_n 3, 1) := by decide +kernel
theorem dX11_removes_65 : decode cX11_removes 65 = .ok (.iadd, 1) := by decide +kernel
theorem dX11_removes_66 : decode cX11_removes 66 = .ok (.iconst 1, 1) := by decide +kernel
theorem dX11_removes_67 : decode cX11_removes 67 = .ok (.iadd, 1) := by decide +kernel
theorem dX11_removes_68 : decode cX11_removes 68 = .ok (.iaload, 1) := by decide +kernel
theorem dX11_removes_69 : decode cX11_removes 69 = .ok (.goto 4, 3) := by decide +kernel
theorem dX11_removes_72 : decode cX11_removes 72 = .ok (.iconst 0, 1) := by decide +kernel
theorem dX11_removes_73 : decode cX11_removes 73 = .ok (.iastore, 1) := by decide +kernel
theorem dX11_removes_74 : decode cX11_removes 74 = .ok (.aload_n 0, 1) := by decide +kernel
theorem dX11_removes_75 : decode cX11_removes 75 = .ok (.getfield 7, 3) := by decide +kernel
theorem dX11_removes_78 : decode cX11_removes 78 = .ok (.bipush 17, 2) := by decide +kernel
theorem dX11_removes_80 : decode cX11_removes 80 = .ok (.iload_n 3, 1) := by decide +kernel
theorem dX11_removes_81 : decode cX11_removes 81 = .ok (.iadd, 1) := by decide +kernel
theorem dX11_removes_82 : decode cX11_removes 82 = .ok (.iload_n 3, 1) := by decide +kernel
theorem dX11_removes_83 : decode cX11_removes 83 = .ok (.bipush 11, 2) := by decide +kernel
theorem dX11_removes_85 : decode cX11_removes 85 = .ok (.if_icmp .ge 17, 3) := by decide +kernel
theorem dX11_removes_88 : decode cX11_removes 88 = .ok (.aload_n 0, 1) := by decide +kernel
theorem dX11_removes_89 : decode cX11_removes 89 = .ok (.getfield 7, 3) := by decide +kernel
theorem dX11_removes_92 : decode cX11_removes 92 = .ok (.bipush 17, 2) := by decide +kernel
theorem dX11_removes_94 : decode cX11_removes 94 = .ok (.iload_n 3, 1) := by decide +kernel
theorem dX11_removes_95 : decode cX11_removes 95 = .ok (.iadd, 1) := by decide +kernel
theorem dX11_removes_96 : decode cX11_removes 96 = .ok (.iconst 1, 1) := by decide +kernel
theorem dX11_removes_97 : decode cX11_removes 97 = .ok (.iadd, 1) := by decide +kernel
theorem dX11_removes_98 : decode cX11_removes 98 = .ok (.iaload, 1) := by decide +kernel
theorem dX11_removes_99 : decode cX11_removes 99 = .ok (.goto 4, 3) := by decide +kernel
theorem dX11_removes_102 : decode cX11_removes 102 = .ok (.iconst 0, 1) := by decide +kernel
theorem dX11_removes_103 : decode cX11_removes 103 = .ok (.iastore, 1) := by decide +kernel
theorem dX11_removes_104 : decode cX11_removes 104 = .ok (.iinc 3 1, 3) := by decide +kernel
theorem dX11_removes_107 : decode cX11_removes 107 = .ok (.goto (-67), 3) := by decide +kernel
theorem dX11_removes_110 : decode cX11_removes 110 = .ok (.aload_n 0, 1) := by decide +kernel
theorem dX11_removes_111 : decode cX11_removes 111 = .ok (.getfield 7, 3) := by decide +kernel
theorem dX11_removes_114 : decode cX11_removes 114 = .ok (.iconst 0, 1) := by decide +kernel
theorem dX11_removes_115 : decode cX11_removes 115 = .ok (.dup2, 1) := by decide +kernel
theorem dX11_removes_116 : decode cX11_removes 116 = .ok (.iaload, 1) := by decide +kernel
theorem dX11_removes_117 : decode cX11_removes 117 = .ok (.iconst 1, 1) := by decide +kernel
theorem dX11_removes_118 : decode cX11_removes 118 = .ok (.isub, 1) := by decide +kernel
theorem dX11_removes_119 : decode cX11_removes 119 = .ok (.iastore, 1) := by decide +kernel
theorem dX11_removes_120 : decode cX11_removes 120 = .ok (.aload_n 0, 1) := by decide +kernel
theorem dX11_removes_121 : decode cX11_removes 121 = .ok (.iload_n 2, 1) := by decide +kernel
theorem dX11_removes_122 : decode cX11_removes 122 = .ok (.invokevirtual 83, 3) := by decide +kernel
theorem dX11_removes_125 : decode cX11_removes 125 = .ok (.ireturn, 1) := by decide +kernel
def f_X11_removes_L18 (p1 : Int32) (K18 : Int32 → (Nat → Int32) → Option (Int32 × (Nat → Int32) × Int32)) : Nat → Int32 → Int32 → (Nat → Int32) → Option (Int32 × (Nat → Int32) × Int32)
  | 0, _, _, _ => none
  | n18 + 1, i2, i3, i4 =>
    q_br (4 ≤ i2) (
  K18 i3 i4) (
  q_bd (f_X11_dropsTones i4 i2 p1) (fun q7 =>
  q_lt (i3 + q7.1 : Int32) (fun v8 =>
  q_lt (i2 + 1 : Int32) (fun v9 =>
  f_X11_removes_L18 p1 K18 n18 v9 v8 q7.2))))
def f_X11_removes_L40 (K40 : (Nat → Int32) → Option (Int32 × (Nat → Int32) × Int32)) : Nat → Int32 → (Nat → Int32) → Option (Int32 × (Nat → Int32) × Int32)
  | 0, _, _ => none
  | n40 + 1, i10, i11 =>
    q_br (12 ≤ i10) (
  K40 i11) (
  q_lt (fun (j13 : Int32) =>
  q_gd (q_in (5 + i10) 77) (
  q_lt (upd i11 ((5 + i10).toNatClampNeg) j13) (fun u15 =>
  q_lt (fun (j16 : Int32) =>
  q_gd (q_in (17 + i10) 77) (
  q_lt (upd u15 ((17 + i10).toNatClampNeg) j16) (fun u18 =>
  q_lt (i10 + 1 : Int32) (fun v19 =>
  f_X11_removes_L40  K40 n40 v19 u18)))) (fun (J103 : Int32 → Option (Int32 × (Nat → Int32) × Int32)) =>
  q_br (11 ≤ i10) (
  J103 0) (
  q_gd (q_in ((17 + i10) + 1) 77) (
  J103 (u15 (((17 + i10) + 1).toNatClampNeg)))))))) (fun (J73 : Int32 → Option (Int32 × (Nat → Int32) × Int32)) =>
  q_br (11 ≤ i10) (
  J73 0) (
  q_gd (q_in ((5 + i10) + 1) 77) (
  J73 (i11 (((5 + i10) + 1).toNatClampNeg))))))
def f_X11_removes (x_g : (Nat → Int32)) (x_thrown : Int32) (p1 : Int32) : Option (Int32 × (Nat → Int32) × Int32) :=
  q_bd (f_X11_isBell x_g p1) (fun q1 =>
  q_br (q1 = 0) (
  q_bd (f_X11_fails x_thrown 1) (fun q24 =>
  some (q24.1, x_g, q24.2))) (
  f_X11_removes_L18 p1 (fun y5 y6 =>
  f_X11_removes_L40  (fun y12 =>
  q_lt (upd y12 0 ((y12 0) - 1)) (fun u22 =>
  q_bd (f_X11_done x_thrown y5) (fun q23 =>
  some (q23.1, u22, q23.2)))) 2000 p1 y6) 2000 0 0 x_g))
theorem hv_X11_removes : yX11_removes.cls = RX11 ∧ yX11_removes.cls ≠ "java/lang/invoke/MethodHandle" ∧ yX11_removes.cls ≠ "java/lang/invoke/VarHandle" ∧ (parseMethodDescriptor yX11_removes.desc).map (fun d => d.parameters.length) = some 1 := by decide +kernel
abbrev rm_X11_removes : Room := { frames := 2, cells := 0, slots := 0, locals := 43 }
set_option maxHeartbeats 4000000 in
set_option maxRecDepth 100000 in
theorem k_X11_removes (l : Launch) (E : ET) (a : Nat → Nat) (o : Nat) (x : Model_t) (p1 : Int32) (res : Int32 × (Nat → Int32) × Int32) (hF : f_X11_removes x.1.1 x.2.2.2.1 p1 = some res) (sz : Nat) : CtI l yX11_removes (mws yX11_removes cX11_removes 4 (some .int)) rm_X11_removes 0 0 [.ref (a o), .int p1] E (bl_Model E a o x) res.1 (bl_Model E a o ((res.2.1, x.1.2.1, x.1.2.2.1, x.1.2.2.2.1, x.1.2.2.2.2), (x.2.1.1, x.2.1.2.1, x.2.1.2.2.1, x.2.1.2.2.2.1, x.2.1.2.2.2.2), (x.2.2.1.1, x.2.2.1.2.1, x.2.2.1.2.2.1, x.2.2.1.2.2.2), (res.2.2, x.2.2.2.2.1, x.2.2.2.2.2.1, x.2.2.2.2.2.2))) sz := by
  refine mk_M (by decide +kernel) (Nat.le_of_ble_eq_true rfl) ?_
  intro p e s m below meth c A args Q ls hAe hsz hQ hx hb hr hml hin ha hown hlocks hA hz hzs hst hP hD hS hl
  have hown : s.vm.findClass RX11 = some m.cls := hown
  rw [hAe] at hQ
  subst hsz
  have hP : va_P E.1 vwCl (List.flatten [w_Model E a o x]) s.heap := hP
  have hD : va_D A (List.flatten [w_Model E a o x]) := hD
  have hl : lv_has ls 4 [(0, .ref (a o)), (1, .int p1)] := hl
  generalize hHe : s.heap = H at hP
  have hS : va_S A s.heap H [] := by rw [← hHe]; exact hS
  generalize ([] : List Loc) = locs at hS ⊢
  unfold f_X11_removes at hF
  refine lv_aload_n hx hb dX11_removes_0 rfl (lv_at hl 0 rfl) ?_
  refine lv_iload_n hx hb dX11_removes_1 rfl (lv_at hl 1 rfl) ?_
  obtain ⟨q1, hq1, hF⟩ := q_bdi hF
  refine cl_i (Lc := [w_Model E a o x]) (Lc' := [w_Model E a o x]) (L' := [w_Model E a o x]) (rv := q1) (va_runV (As := [.int p1]) (rest := []) ⟨hx, hb, hml, hown, ha⟩ (k_X11_isBell l E a o x p1 q1 hq1 H.size) (cwV 1 ha (gi_V (fun _ h => h) mw1736 mw1738 mw33 mw87 mw1739) rfl rfl rfl hv_X11_isBell ⟨(Nat.le_of_ble_eq_true rfl), (Nat.le_of_ble_eq_true rfl)⟩) ⟨pre_blind, va_recv hst.k (fr_P hP [0] rfl) (ci := 13) (q0 := 0) rfl rfl, pre_at hP hD hS hz hzs hst [0] (by decide) rfl rfl⟩ rfl rfl hl.1 rfl (lv_room (Nat.le_of_ble_eq_true rfl)) dX11_removes_2 ⟨(Nat.le_of_ble_eq_true rfl), (Nat.le_of_ble_eq_true rfl)⟩) hP hD hS hA [0] (by decide) rfl rfl rfl rfl (fun H locs hP hD hS => ?_)
  refine lv_if_ne (tgt := 14) hx hb dX11_removes_5 (by decide) (fun c5 => ?_) (fun c5 => ?_)
  · have hF := q_brn c5 hF
    refine lv_iconst (v := 0) hx hb dX11_removes_14 (by decide) ?_
    refine lv_istore_n (lv' := [(2, .int 0), (0, .ref (a o)), (1, .int p1)]) hx hb dX11_removes_15 rfl hl (by decide) rfl (fun ls hl => ?_)
    refine lv_iconst (v := 0) hx hb dX11_removes_16 (by decide) ?_
    refine lv_istore_n (lv' := [(3, .int 0), (2, .int 0), (0, .ref (a o)), (1, .int p1)]) hx hb dX11_removes_17 rfl hl (by decide) rfl (fun ls hl => ?_)
    have key18 : ∀ (K : Int32 → (Nat → Int32) → Option (Int32 × (Nat → Int32) × Int32)), (∀ (y5 : Int32) (y6 : (Nat → Int32)) (H : Heap) (locs : List Loc) (ls : Array Slot), K y5 y6 = some res → va_P E.1 vwCl (List.flatten [w_Model E a o ((y6, x.1.2.1, x.1.2.2.1, x.1.2.2.2.1, x.1.2.2.2.2), (x.2.1.1, x.2.1.2.1, x.2.1.2.2.1, x.2.1.2.2.2.1, x.2.1.2.2.2.2), (x.2.2.1.1, x.2.2.1.2.1, x.2.2.1.2.2.1, x.2.2.1.2.2.2), (x.2.2.2.1, x.2.2.2.2.1, x.2.2.2.2.2.1, x.2.2.2.2.2.2))]) H → va_D A (List.flatten [w_Model E a o ((y6, x.1.2.1, x.1.2.2.1, x.1.2.2.2.1, x.1.2.2.2.2), (x.2.1.1, x.2.1.2.1, x.2.1.2.2.1, x.2.1.2.2.2.1, x.2.1.2.2.2.2), (x.2.2.1.1, x.2.2.1.2.1, x.2.2.1.2.2.1, x.2.2.1.2.2.2), (x.2.2.2.1, x.2.2.2.2.1, x.2.2.2.2.2.1, x.2.2.2.2.2.2))]) → va_S A s.heap H locs → lv_has ls 4 [(2, .int y5), (0, .ref (a o)), (1, .int p1)] → W p l e rm_X11_removes s m args below meth c H locs 0 0 Q (F0 m 38 ls [])) → ∀ (n : Nat) (i2 : Int32) (i3 : Int32) (i4 : (Nat → Int32)) (H : Heap) (locs : List Loc) (ls : Array Slot), f_X11_removes_L18 p1 K n i2 i3 i4 = some res → va_P E.1 vwCl (List.flatten [w_Model E a o ((i4, x.1.2.1, x.1.2.2.1, x.1.2.2.2.1, x.1.2.2.2.2), (x.2.1.1, x.2.1.2.1, x.2.1.2.2.1, x.2.1.2.2.2.1, x.2.1.2.2.2.2), (x.2.2.1.1, x.2.2.1.2.1, x.2.2.1.2.2.1, x.2.2.1.2.2.2), (x.2.2.2.1, x.2.2.2.2.1, x.2.2.2.2.2.1, x.2.2.2.2.2.2))]) H → va_D A (List.flatten [w_Model E a o ((i4, x.1.2.1, x.1.2.2.1, x.1.2.2.2.1, x.1.2.2.2.2), (x.2.1.1, x.2.1.2.1, x.2.1.2.2.1, x.2.1.2.2.2.1, x.2.1.2.2.2.2), (x.2.2.1.1, x.2.2.1.2.1, x.2.2.1.2.2.1, x.2.2.1.2.2.2), (x.2.2.2.1, x.2.2.2.2.1, x.2.2.2.2.2.1, x.2.2.2.2.2.2))]) → va_S A s.heap H locs → lv_has ls 4 [(3, .int i2), (2, .int i3), (0, .ref (a o)), (1, .int p1)] → W p l e rm_X11_removes s m args below meth c H locs 0 0 Q (F0 m 18 ls []) := by
      intro K18 hK18 n18
      induction n18 with
      | zero => intro i2 i3 i4 H locs ls hF; exact absurd hF (by simp [f_X11_removes_L18])
      | succ n18 ih18 =>
        intro i2 i3 i4 H locs ls hF hP hD hS hl
        rw [f_X11_removes_L18] at hF
        refine lv_iload_n hx hb dX11_removes_18 rfl (lv_at hl 0 rfl) ?_
        refine lv_iconst (v := 4) hx hb dX11_removes_19 (by decide) ?_
        refine lv_icmp_ge (tgt := 38) hx hb dX11_removes_20 (by decide) (fun c20 => ?_) (fun c20 => ?_)
        · have hF := q_brp c20 hF
          exact hK18 i3 i4 H locs ls hF hP hD hS (lv_sub hl [1, 2, 3] rfl)
        · have hF := q_brn c20 hF
          refine lv_iload_n hx hb dX11_removes_23 rfl (lv_at hl 1 rfl) ?_
          refine lv_aload_n hx hb dX11_removes_24 rfl (lv_at hl 2 rfl) ?_
          refine lv_iload_n hx hb dX11_removes_25 rfl (lv_at hl 0 rfl) ?_
          refine lv_iload_n hx hb dX11_removes_26 rfl (lv_at hl 3 rfl) ?_
          obtain ⟨q7, hq7, hF⟩ := q_bdi hF
          refine cl_i (Lc := [w_Model E a o ((i4, x.1.2.1, x.1.2.2.1, x.1.2.2.2.1, x.1.2.2.2.2), (x.2.1.1, x.2.1.2.1, x.2.1.2.2.1, x.2.1.2.2.2.1, x.2.1.2.2.2.2), (x.2.2.1.1, x.2.2.1.2.1, x.2.2.1.2.2.1, x.2.2.1.2.2.2), (x.2.2.2.1, x.2.2.2.2.1, x.2.2.2.2.2.1, x.2.2.2.2.2.2))]) (Lc' := [w_Model E a o ((q7.2, x.1.2.1, x.1.2.2.1, x.1.2.2.2.1, x.1.2.2.2.2), (x.2.1.1, x.2.1.2.1, x.2.1.2.2.1, x.2.1.2.2.2.1, x.2.1.2.2.2.2), (x.2.2.1.1, x.2.2.1.2.1, x.2.2.1.2.2.1, x.2.2.1.2.2.2), (x.2.2.2.1, x.2.2.2.2.1, x.2.2.2.2.2.1, x.2.2.2.2.2.2))]) (L' := [w_Model E a o ((q7.2, x.1.2.1, x.1.2.2.1, x.1.2.2.2.1, x.1.2.2.2.2), (x.2.1.1, x.2.1.2.1, x.2.1.2.2.1, x.2.1.2.2.2.1, x.2.1.2.2.2.2), (x.2.2.1.1, x.2.2.1.2.1, x.2.2.1.2.2.1, x.2.2.1.2.2.2), (x.2.2.2.1, x.2.2.2.2.1, x.2.2.2.2.2.1, x.2.2.2.2.2.2))]) (rv := q7.1) (va_runV (As := [.int i2, .int p1]) (rest := [.int i3]) ⟨hx, hb, hml, hown, ha⟩ (k_X11_dropsTones l E a o ((i4, x.1.2.1, x.1.2.2.1, x.1.2.2.2.1, x.1.2.2.2.2), (x.2.1.1, x.2.1.2.1, x.2.1.2.2.1, x.2.1.2.2.2.1, x.2.1.2.2.2.2), (x.2.2.1.1, x.2.2.1.2.1, x.2.2.1.2.2.1, x.2.2.1.2.2.2), (x.2.2.2.1, x.2.2.2.2.1, x.2.2.2.2.2.1, x.2.2.2.2.2.2)) i2 p1 q7 hq7 H.size) (cwV 2 ha (gi_V (fun _ h => h) mw1740 mw1742 mw34 mw87 mw1743) rfl rfl rfl hv_X11_dropsTones ⟨(Nat.le_of_ble_eq_true rfl), (Nat.le_of_ble_eq_true rfl)⟩) ⟨pre_blind, va_recv hst.k (fr_P hP [0] rfl) (ci := 13) (q0 := 0) rfl rfl, pre_at hP hD hS hz hzs hst [0] (by decide) rfl rfl⟩ rfl rfl hl.1 rfl (lv_room (Nat.le_of_ble_eq_true rfl)) dX11_removes_27 ⟨(Nat.le_of_ble_eq_true rfl), (Nat.le_of_ble_eq_true rfl)⟩) hP hD hS hA [0] (by decide) rfl rfl rfl rfl (fun H locs hP hD hS => ?_)
          refine lv_iadd hx hb dX11_removes_30 ?_
          refine lv_topi (fun v8 ev8 => ?_)
          have hF := q_lti ev8 hF
          refine lv_istore_n (lv' := [(2, .int v8), (3, .int i2), (0, .ref (a o)), (1, .int p1)]) hx hb dX11_removes_31 rfl hl (by decide) rfl (fun ls hl => ?_)
          obtain ⟨v9, ev9⟩ : ∃ y : Int32, y = i2 + 1 := ⟨_, rfl⟩
          have hF := q_lti ev9 hF
          refine lv_iinc (v := v9) (lv' := [(3, .int v9), (2, .int v8), (0, .ref (a o)), (1, .int p1)]) hx hb dX11_removes_32 hl (k := 1) rfl (by rw [ev9]; rfl) (by decide) rfl (fun ls hl => ?_)
          refine lv_goto (tgt := 18) hx hb dX11_removes_35 (by decide) ?_
          exact ih18 v9 v8 q7.2 H locs ls hF hP hD hS (lv_sub hl [0, 1, 2, 3] rfl)
    refine key18 _ ?_ _ 0 0 x.1.1 H locs ls hF hP hD hS (lv_sub hl [0, 1, 2, 3] rfl)
    intro y5 y6 H locs ls hF hP hD hS hl
    refine lv_iload_n hx hb dX11_removes_38 rfl (lv_at hl 2 rfl) ?_
    refine lv_istore_n (lv' := [(3, .int p1), (2, .int y5), (0, .ref (a o)), (1, .int p1)]) hx hb dX11_removes_39 rfl hl (by decide) rfl (fun ls hl => ?_)
    have key40 : ∀ (K : (Nat → Int32) → Option (Int32 × (Nat → Int32) × Int32)), (∀ (y12 : (Nat → Int32)) (H : Heap) (locs : List Loc) (ls : Array Slot), K y12 = some res → va_P E.1 vwCl (List.flatten [w_Model E a o ((y12, x.1.2.1, x.1.2.2.1, x.1.2.2.2.1, x.1.2.2.2.2), (x.2.1.1, x.2.1.2.1, x.2.1.2.2.1, x.2.1.2.2.2.1, x.2.1.2.2.2.2), (x.2.2.1.1, x.2.2.1.2.1, x.2.2.1.2.2.1, x.2.2.1.2.2.2), (x.2.2.2.1, x.2.2.2.2.1, x.2.2.2.2.2.1, x.2.2.2.2.2.2))]) H → va_D A (List.flatten [w_Model E a o ((y12, x.1.2.1, x.1.2.2.1, x.1.2.2.2.1, x.1.2.2.2.2), (x.2.1.1, x.2.1.2.1, x.2.1.2.2.1, x.2.1.2.2.2.1, x.2.1.2.2.2.2), (x.2.2.1.1, x.2.2.1.2.1, x.2.2.1.2.2.1, x.2.2.1.2.2.2), (x.2.2.2.1, x.2.2.2.2.1, x.2.2.2.2.2.1, x.2.2.2.2.2.2))]) → va_S A s.heap H locs → lv_has ls 4 [(2, .int y5), (0, .ref (a o))] → W p l e rm_X11_removes s m args below meth c H locs 0 0 Q (F0 m 110 ls [])) → ∀ (n : Nat) (i10 : Int32) (i11 : (Nat → Int32)) (H : Heap) (locs : List Loc) (ls : Array Slot), f_X11_removes_L40  K n i10 i11 = some res → va_P E.1 vwCl (List.flatten [w_Model E a o ((i11, x.1.2.1, x.1.2.2.1, x.1.2.2.2.1, x.1.2.2.2.2), (x.2.1.1, x.2.1.2.1, x.2.1.2.2.1, x.2.1.2.2.2.1, x.2.1.2.2.2.2), (x.2.2.1.1, x.2.2.1.2.1, x.2.2.1.2.2.1, x.2.2.1.2.2.2), (x.2.2.2.1, x.2.2.2.2.1, x.2.2.2.2.2.1, x.2.2.2.2.2.2))]) H → va_D A (List.flatten [w_Model E a o ((i11, x.1.2.1, x.1.2.2.1, x.1.2.2.2.1, x.1.2.2.2.2), (x.2.1.1, x.2.1.2.1, x.2.1.2.2.1, x.2.1.2.2.2.1, x.2.1.2.2.2.2), (x.2.2.1.1, x.2.2.1.2.1, x.2.2.1.2.2.1, x.2.2.1.2.2.2), (x.2.2.2.1, x.2.2.2.2.1, x.2.2.2.2.2.1, x.2.2.2.2.2.2))]) → va_S A s.heap H locs → lv_has ls 4 [(3, .int i10), (2, .int y5), (0, .ref (a o))] → W p l e rm_X11_removes s m args below meth c H locs 0 0 Q (F0 m 40 ls []) := by
      intro K40 hK40 n40
      induction n40 with
      | zero => intro i10 i11 H locs ls hF; exact absurd hF (by simp [f_X11_removes_L40])
      | succ n40 ih40 =>
        intro i10 i11 H locs ls hF hP hD hS hl
        rw [f_X11_removes_L40] at hF
        refine lv_iload_n hx hb dX11_removes_40 rfl (lv_at hl 0 rfl) ?_
        refine lv_bipush (v := 12) hx hb dX11_removes_41 (by decide) ?_
        refine lv_icmp_ge (tgt := 110) hx hb dX11_removes_43 (by decide) (fun c43 => ?_) (fun c43 => ?_)
        · have hF := q_brp c43 hF
          exact hK40 i11 H locs ls hF hP hD hS (lv_sub hl [1, 2] rfl)
        · have hF := q_brn c43 hF
          refine lv_aload_n hx hb dX11_removes_46 rfl (lv_at hl 2 rfl) ?_
          refine va_get (D := E.1) (ci := 13) (v := .ref (a (o + 1))) (C := RX11) (T := TX11) (N := 18) hx hb ha in_X11 hown hst.k hP 0 rfl rfl 0 (by decide) (ha _ mw1636) (fun _ h9 => h9) rfl dX11_removes_47 ?_
          refine lv_iconst (v := 5) hx hb dX11_removes_50 (by decide) ?_
          refine lv_iload_n hx hb dX11_removes_51 rfl (lv_at hl 0 rfl) ?_
          refine lv_iadd hx hb dX11_removes_52 ?_
          refine lv_iload_n hx hb dX11_removes_53 rfl (lv_at hl 0 rfl) ?_
          refine lv_bipush (v := 11) hx hb dX11_removes_54 (by decide) ?_
          obtain ⟨J73, hJ73, hF⟩ := q_jn hF
          have jJ73 : ∀ (j13 : Int32), ∀ (H : Heap) (locs : List Loc) (ls : Array Slot), J73 j13 = some res → va_P E.1 vwCl (List.flatten [w_Model E a o ((i11, x.1.2.1, x.1.2.2.1, x.1.2.2.2.1, x.1.2.2.2.2), (x.2.1.1, x.2.1.2.1, x.2.1.2.2.1, x.2.1.2.2.2.1, x.2.1.2.2.2.2), (x.2.2.1.1, x.2.2.1.2.1, x.2.2.1.2.2.1, x.2.2.1.2.2.2), (x.2.2.2.1, x.2.2.2.2.1, x.2.2.2.2.2.1, x.2.2.2.2.2.2))]) H → va_D A (List.flatten [w_Model E a o ((i11, x.1.2.1, x.1.2.2.1, x.1.2.2.2.1, x.1.2.2.2.2), (x.2.1.1, x.2.1.2.1, x.2.1.2.2.1, x.2.1.2.2.2.1, x.2.1.2.2.2.2), (x.2.2.1.1, x.2.2.1.2.1, x.2.2.1.2.2.1, x.2.2.1.2.2.2), (x.2.2.2.1, x.2.2.2.2.1, x.2.2.2.2.2.1, x.2.2.2.2.2.2))]) → va_S A s.heap H locs → lv_has ls 4 [(3, .int i10), (2, .int y5), (0, .ref (a o))] → W p l e rm_X11_removes s m args below meth c H locs 0 0 Q (F0 m 73 ls [.int j13, .int (5 + i10), .ref (a (o + 1))]) := by
            intro j13 H locs ls hF hP hD hS hl
            rw [hJ73] at hF
            obtain ⟨g14, hF⟩ := q_gdi hF
            refine vj_iast hx hb hst.k hP hD hS 1 0 rfl rfl (f := i11) (k := (5 + i10).toNatClampNeg) rfl g14 dX11_removes_73 (fun u15 eu15 H locs hP hD hS => ?_)
            have hF := q_lti eu15 hF
            have hP : va_P E.1 vwCl (List.flatten [w_Model E a o ((u15, x.1.2.1, x.1.2.2.1, x.1.2.2.2.1, x.1.2.2.2.2), (x.2.1.1, x.2.1.2.1, x.2.1.2.2.1, x.2.1.2.2.2.1, x.2.1.2.2.2.2), (x.2.2.1.1, x.2.2.1.2.1, x.2.2.1.2.2.1, x.2.2.1.2.2.2), (x.2.2.2.1, x.2.2.2.2.1, x.2.2.2.2.2.1, x.2.2.2.2.2.2))]) H := hP
            have hD : va_D A (List.flatten [w_Model E a o ((u15, x.1.2.1, x.1.2.2.1, x.1.2.2.2.1, x.1.2.2.2.2), (x.2.1.1, x.2.1.2.1, x.2.1.2.2.1, x.2.1.2.2.2.1, x.2.1.2.2.2.2), (x.2.2.1.1, x.2.2.1.2.1, x.2.2.1.2.2.1, x.2.2.1.2.2.2), (x.2.2.2.1, x.2.2.2.2.1, x.2.2.2.2.2.1, x.2.2.2.2.2.2))]) := hD
            refine lv_aload_n hx hb dX11_removes_74 rfl (lv_at hl 2 rfl) ?_
            refine va_get (D := E.1) (ci := 13) (v := .ref (a (o + 1))) (C := RX11) (T := TX11) (N := 18) hx hb ha in_X11 hown hst.k hP 0 rfl rfl 0 (by decide) (ha _ mw1636) (fun _ h9 => h9) rfl dX11_removes_75 ?_
            refine lv_bipush (v := 17) hx hb dX11_removes_78 (by decide) ?_
            refine lv_iload_n hx hb dX11_removes_80 rfl (lv_at hl 0 rfl) ?_
            refine lv_iadd hx hb dX11_removes_81 ?_
            refine lv_iload_n hx hb dX11_removes_82 rfl (lv_at hl 0 rfl) ?_
            refine lv_bipush (v := 11) hx hb dX11_removes_83 (by decide) ?_
            obtain ⟨J103, hJ103, hF⟩ := q_jn hF
            have jJ103 : ∀ (j16 : Int32), ∀ (H : Heap) (locs : List Loc) (ls : Array Slot), J103 j16 = some res → va_P E.1 vwCl (List.flatten [w_Model E a o ((u15, x.1.2.1, x.1.2.2.1, x.1.2.2.2.1, x.1.2.2.2.2), (x.2.1.1, x.2.1.2.1, x.2.1.2.2.1, x.2.1.2.2.2.1, x.2.1.2.2.2.2), (x.2.2.1.1, x.2.2.1.2.1, x.2.2.1.2.2.1, x.2.2.1.2.2.2), (x.2.2.2.1, x.2.2.2.2.1, x.2.2.2.2.2.1, x.2.2.2.2.2.2))]) H → va_D A (List.flatten [w_Model E a o ((u15, x.1.2.1, x.1.2.2.1, x.1.2.2.2.1, x.1.2.2.2.2), (x.2.1.1, x.2.1.2.1, x.2.1.2.2.1, x.2.1.2.2.2.1, x.2.1.2.2.2.2), (x.2.2.1.1, x.2.2.1.2.1, x.2.2.1.2.2.1, x.2.2.1.2.2.2), (x.2.2.2.1, x.2.2.2.2.1, x.2.2.2.2.2.1, x.2.2.2.2.2.2))]) → va_S A s.heap H locs → lv_has ls 4 [(3, .int i10), (2, .int y5), (0, .ref (a o))] → W p l e rm_X11_removes s m args below meth c H locs 0 0 Q (F0 m 103 ls [.int j16, .int (17 + i10), .ref (a (o + 1))]) := by
              intro j16 H locs ls hF hP hD hS hl
              rw [hJ103] at hF
              obtain ⟨g17, hF⟩ := q_gdi hF
              refine vj_iast hx hb hst.k hP hD hS 1 0 rfl rfl (f := u15) (k := (17 + i10).toNatClampNeg) rfl g17 dX11_removes_103 (fun u18 eu18 H locs hP hD hS => ?_)
              have hF := q_lti eu18 hF
              have hP : va_P E.1 vwCl (List.flatten [w_Model E a o ((u18, x.1.2.1, x.1.2.2.1, x.1.2.2.2.1, x.1.2.2.2.2), (x.2.1.1, x.2.1.2.1, x.2.1.2.2.1, x.2.1.2.2.2.1, x.2.1.2.2.2.2), (x.2.2.1.1, x.2.2.1.2.1, x.2.2.1.2.2.1, x.2.2.1.2.2.2), (x.2.2.2.1, x.2.2.2.2.1, x.2.2.2.2.2.1, x.2.2.2.2.2.2))]) H := hP
              have hD : va_D A (List.flatten [w_Model E a o ((u18, x.1.2.1, x.1.2.2.1, x.1.2.2.2.1, x.1.2.2.2.2), (x.2.1.1, x.2.1.2.1, x.2.1.2.2.1, x.2.1.2.2.2.1, x.2.1.2.2.2.2), (x.2.2.1.1, x.2.2.1.2.1, x.2.2.1.2.2.1, x.2.2.1.2.2.2), (x.2.2.2.1, x.2.2.2.2.1, x.2.2.2.2.2.1, x.2.2.2.2.2.2))]) := hD
              obtain ⟨v19, ev19⟩ : ∃ y : Int32, y = i10 + 1 := ⟨_, rfl⟩
              have hF := q_lti ev19 hF
              refine lv_iinc (v := v19) (lv' := [(3, .int v19), (2, .int y5), (0, .ref (a o))]) hx hb dX11_removes_104 hl (k := 0) rfl (by rw [ev19]; rfl) (by decide) rfl (fun ls hl => ?_)
              refine lv_goto (tgt := 40) hx hb dX11_removes_107 (by decide) ?_
              exact ih40 v19 u18 H locs ls hF hP hD hS (lv_sub hl [0, 1, 2] rfl)
            refine lv_icmp_ge (tgt := 102) hx hb dX11_removes_85 (by decide) (fun c85 => ?_) (fun c85 => ?_)
            · have hF := q_brp c85 hF
              refine lv_iconst (v := 0) hx hb dX11_removes_102 (by decide) ?_
              exact jJ103 0 H locs ls hF hP hD hS (lv_sub hl [0, 1, 2] rfl)
            · have hF := q_brn c85 hF
              refine lv_aload_n hx hb dX11_removes_88 rfl (lv_at hl 2 rfl) ?_
              refine va_get (D := E.1) (ci := 13) (v := .ref (a (o + 1))) (C := RX11) (T := TX11) (N := 18) hx hb ha in_X11 hown hst.k hP 0 rfl rfl 0 (by decide) (ha _ mw1636) (fun _ h9 => h9) rfl dX11_removes_89 ?_
              refine lv_bipush (v := 17) hx hb dX11_removes_92 (by decide) ?_
              refine lv_iload_n hx hb dX11_removes_94 rfl (lv_at hl 0 rfl) ?_
              refine lv_iadd hx hb dX11_removes_95 ?_
              refine lv_iconst (v := 1) hx hb dX11_removes_96 (by decide) ?_
              refine lv_iadd hx hb dX11_removes_97 ?_
              obtain ⟨g20, hF⟩ := q_gdi hF
              refine vi_iald hx hb hst.k hP 1 0 rfl rfl (f := u15) (k := ((17 + i10) + 1).toNatClampNeg) rfl g20 dX11_removes_98 ?_
              refine lv_goto (tgt := 103) hx hb dX11_removes_99 (by decide) ?_
              exact jJ103 (u15 (((17 + i10) + 1).toNatClampNeg)) H locs ls hF hP hD hS (lv_sub hl [0, 1, 2] rfl)
          refine lv_icmp_ge (tgt := 72) hx hb dX11_removes_56 (by decide) (fun c56 => ?_) (fun c56 => ?_)
          · have hF := q_brp c56 hF
            refine lv_iconst (v := 0) hx hb dX11_removes_72 (by decide) ?_
            exact jJ73 0 H locs ls hF hP hD hS (lv_sub hl [0, 1, 2] rfl)
          · have hF := q_brn c56 hF
            refine lv_aload_n hx hb dX11_removes_59 rfl (lv_at hl 2 rfl) ?_
            refine va_get (D := E.1) (ci := 13) (v := .ref (a (o + 1))) (C := RX11) (T := TX11) (N := 18) hx hb ha in_X11 hown hst.k hP 0 rfl rfl 0 (by decide) (ha _ mw1636) (fun _ h9 => h9) rfl dX11_removes_60 ?_
            refine lv_iconst (v := 5) hx hb dX11_removes_63 (by decide) ?_
            refine lv_iload_n hx hb dX11_removes_64 rfl (lv_at hl 0 rfl) ?_
            refine lv_iadd hx hb dX11_removes_65 ?_
            refine lv_iconst (v := 1) hx hb dX11_removes_66 (by decide) ?_
            refine lv_iadd hx hb dX11_removes_67 ?_
            obtain ⟨g21, hF⟩ := q_gdi hF
            refine vi_iald hx hb hst.k hP 1 0 rfl rfl (f := i11) (k := ((5 + i10) + 1).toNatClampNeg) rfl g21 dX11_removes_68 ?_
            refine lv_goto (tgt := 73) hx hb dX11_removes_69 (by decide) ?_
            exact jJ73 (i11 (((5 + i10) + 1).toNatClampNeg)) H locs ls hF hP hD hS (lv_sub hl [0, 1, 2] rfl)
    refine key40 _ ?_ _ p1 y6 H locs ls hF hP hD hS (lv_sub hl [0, 1, 2] rfl)
    intro y12 H locs ls hF hP hD hS hl
    refine lv_aload_n hx hb dX11_removes_110 rfl (lv_at hl 1 rfl) ?_
    refine va_get (D := E.1) (ci := 13) (v := .ref (a (o + 1))) (C := RX11) (T := TX11) (N := 18) hx hb ha in_X11 hown hst.k hP 0 rfl rfl 0 (by decide) (ha _ mw1636) (fun _ h9 => h9) rfl dX11_removes_111 ?_
    refine lv_iconst (v := 0) hx hb dX11_removes_114 (by decide) ?_
    refine lv_dup2_11 hx hb dX11_removes_115 rfl rfl ?_
    refine vi_iald hx hb hst.k hP 1 0 rfl rfl (f := y12) (k := 0) (by decide) (by decide) dX11_removes_116 ?_
    refine lv_iconst (v := 1) hx hb dX11_removes_117 (by decide) ?_
    refine lv_isub hx hb dX11_removes_118 ?_
    refine vj_iast hx hb hst.k hP hD hS 1 0 rfl rfl (f := y12) (k := 0) (by decide) (by decide) dX11_removes_119 (fun u22 eu22 H locs hP hD hS => ?_)
    have hF := q_lti eu22 hF
    have hP : va_P E.1 vwCl (List.flatten [w_Model E a o ((u22, x.1.2.1, x.1.2.2.1, x.1.2.2.2.1, x.1.2.2.2.2), (x.2.1.1, x.2.1.2.1, x.2.1.2.2.1, x.2.1.2.2.2.1, x.2.1.2.2.2.2), (x.2.2.1.1, x.2.2.1.2.1, x.2.2.1.2.2.1, x.2.2.1.2.2.2), (x.2.2.2.1, x.2.2.2.2.1, x.2.2.2.2.2.1, x.2.2.2.2.2.2))]) H := hP
    have hD : va_D A (List.flatten [w_Model E a o ((u22, x.1.2.1, x.1.2.2.1, x.1.2.2.2.1, x.1.2.2.2.2), (x.2.1.1, x.2.1.2.1, x.2.1.2.2.1, x.2.1.2.2.2.1, x.2.1.2.2.2.2), (x.2.2.1.1, x.2.2.1.2.1, x.2.2.1.2.2.1, x.2.2.1.2.2.2), (x.2.2.2.1, x.2.2.2.2.1, x.2.2.2.2.2.1, x.2.2.2.2.2.2))]) := hD
    refine lv_aload_n hx hb dX11_removes_120 rfl (lv_at hl 1 rfl) ?_
    refine lv_iload_n hx hb dX11_removes_121 rfl (lv_at hl 0 rfl) ?_
    obtain ⟨q23, hq23, hF⟩ := q_bdi hF
    refine cl_i (Lc := [w_Model E a o ((u22, x.1.2.1, x.1.2.2.1, x.1.2.2.2.1, x.1.2.2.2.2), (x.2.1.1, x.2.1.2.1, x.2.1.2.2.1, x.2.1.2.2.2.1, x.2.1.2.2.2.2), (x.2.2.1.1, x.2.2.1.2.1, x.2.2.1.2.2.1, x.2.2.1.2.2.2), (x.2.2.2.1, x.2.2.2.2.1, x.2.2.2.2.2.1, x.2.2.2.2.2.2))]) (Lc' := [w_Model E a o ((u22, x.1.2.1, x.1.2.2.1, x.1.2.2.2.1, x.1.2.2.2.2), (x.2.1.1, x.2.1.2.1, x.2.1.2.2.1, x.2.1.2.2.2.1, x.2.1.2.2.2.2), (x.2.2.1.1, x.2.2.1.2.1, x.2.2.1.2.2.1, x.2.2.1.2.2.2), (q23.2, x.2.2.2.2.1, x.2.2.2.2.2.1, x.2.2.2.2.2.2))]) (L' := [w_Model E a o ((u22, x.1.2.1, x.1.2.2.1, x.1.2.2.2.1, x.1.2.2.2.2), (x.2.1.1, x.2.1.2.1, x.2.1.2.2.1, x.2.1.2.2.2.1, x.2.1.2.2.2.2), (x.2.2.1.1, x.2.2.1.2.1, x.2.2.1.2.2.1, x.2.2.1.2.2.2), (q23.2, x.2.2.2.2.1, x.2.2.2.2.2.1, x.2.2.2.2.2.2))]) (rv := q23.1) (va_runV (As := [.int y5]) (rest := []) ⟨hx, hb, hml, hown, ha⟩ (k_X11_done l E a o ((u22, x.1.2.1, x.1.2.2.1, x.1.2.2.2.1, x.1.2.2.2.2), (x.2.1.1, x.2.1.2.1, x.2.1.2.2.1, x.2.1.2.2.2.1, x.2.1.2.2.2.2), (x.2.2.1.1, x.2.2.1.2.1, x.2.2.1.2.2.1, x.2.2.1.2.2.2), (x.2.2.2.1, x.2.2.2.2.1, x.2.2.2.2.2.1, x.2.2.2.2.2.2)) y5 q23 hq23 H.size) (cwV 1 ha (gi_V (fun _ h => h) mw1720 mw1722 mw30 mw87 mw1723) rfl rfl rfl hv_X11_done ⟨(Nat.le_of_ble_eq_true rfl), (Nat.le_of_ble_eq_true rfl)⟩) ⟨pre_blind, va_recv hst.k (fr_P hP [0] rfl) (ci := 13) (q0 := 0) rfl rfl, pre_at hP hD hS hz hzs hst [0] (by decide) rfl rfl⟩ rfl rfl hl.1 rfl (lv_room (Nat.le_of_ble_eq_true rfl)) dX11_removes_122 ⟨(Nat.le_of_ble_eq_true rfl), (Nat.le_of_ble_eq_true rfl)⟩) hP hD hS hA [0] (by decide) rfl rfl rfl rfl (fun H locs hP hD hS => ?_)
    obtain rfl := Option.some.inj hF
    exact en_i hQ (Nat.le_of_ble_eq_true rfl) (Nat.le_of_ble_eq_true rfl) hx hb hr hlocks hP hD hS rfl dX11_removes_125
  · have hF := q_brp c5 hF
    refine lv_aload_n hx hb dX11_removes_8 rfl (lv_at hl 0 rfl) ?_
    refine lv_iconst (v := 1) hx hb dX11_removes_9 (by decide) ?_
    obtain ⟨q24, hq24, hF⟩ := q_bdi hF
    refine cl_i (Lc := [w_Model E a o x]) (Lc' := [w_Model E a o ((x.1.1, x.1.2.1, x.1.2.2.1, x.1.2.2.2.1, x.1.2.2.2.2), (x.2.1.1, x.2.1.2.1, x.2.1.2.2.1, x.2.1.2.2.2.1, x.2.1.2.2.2.2), (x.2.2.1.1, x.2.2.1.2.1, x.2.2.1.2.2.1, x.2.2.1.2.2.2), (q24.2, x.2.2.2.2.1, x.2.2.2.2.2.1, x.2.2.2.2.2.2))]) (L' := [w_Model E a o ((x.1.1, x.1.2.1, x.1.2.2.1, x.1.2.2.2.1, x.1.2.2.2.2), (x.2.1.1, x.2.1.2.1, x.2.1.2.2.1, x.2.1.2.2.2.1, x.2.1.2.2.2.2), (x.2.2.1.1, x.2.2.1.2.1, x.2.2.1.2.2.1, x.2.2.1.2.2.2), (q24.2, x.2.2.2.2.1, x.2.2.2.2.2.1, x.2.2.2.2.2.2))]) (rv := q24.1) (va_runV (As := [.int 1]) (rest := []) ⟨hx, hb, hml, hown, ha⟩ (k_X11_fails l E a o x 1 q24 hq24 H.size) (cwV 1 ha (gi_V (fun _ h => h) mw1716 mw1718 mw29 mw87 mw1719) rfl rfl rfl hv_X11_fails ⟨(Nat.le_of_ble_eq_true rfl), (Nat.le_of_ble_eq_true rfl)⟩) ⟨pre_blind, va_recv hst.k (fr_P hP [0] rfl) (ci := 13) (q0 := 0) rfl rfl, pre_at hP hD hS hz hzs hst [0] (by decide) rfl rfl⟩ rfl rfl hl.1 rfl (lv_room (Nat.le_of_ble_eq_true rfl)) dX11_removes_10 ⟨(Nat.le_of_ble_eq_true rfl), (Nat.le_of_ble_eq_true rfl)⟩) hP hD hS hA [0] (by decide) rfl rfl rfl rfl (fun H locs hP hD hS => ?_)
    obtain rfl := Option.some.inj hF
    exact en_i hQ (Nat.le_of_ble_eq_true rfl) (Nat.le_of_ble_eq_true rfl) hx hb hr hlocks hP hD hS rfl dX11_removes_13

/-! X11_tunes -/
theorem dX11_tunes_0 : decode cX11_tunes 0 = .ok (.aload_n 0, 1) := by decide +kernel
theorem dX11_tunes_1 : decode cX11_tunes 1 = .ok (.iload_n 1, 1) := by decide +kernel
theorem dX11_tunes_2 : decode cX11_tunes 2 = .ok (.invokevirtual 96, 3) := by decide +kernel
theorem dX11_tunes_5 : decode cX11_tunes 5 = .ok (.ifCond .ne 9, 3) := by decide +kernel
theorem dX11_tunes_8 : decode cX11_tunes 8 = .ok (.aload_n 0, 1) := by decide +kernel
theorem dX11_tunes_9 : decode cX11_tunes 9 = .ok (.iconst 1, 1) := by decide +kernel
theorem dX11_tunes_10 : decode cX11_tunes 10 = .ok (.invokevirtual 80, 3) := by decide +kernel
theorem dX11_tunes_13 : decode cX11_tunes 13 = .ok (.ireturn, 1) := by decide +kernel
theorem dX11_tunes_14 : decode cX11_tunes 14 = .ok (.iload_n 2, 1) := by decide +kernel
theorem dX11_tunes_15 : decode cX11_tunes 15 = .ok (.bipush (-99), 2) := by decide +kernel
theorem dX11_tunes_17 : decode cX11_tunes 17 = .ok (.bipush 99, 2) := by decide +kernel
theorem dX11_tunes_19 : decode cX11_tunes 19 = .ok (.invokestatic 52, 3) := by decide +kernel
theorem dX11_tunes_22 : decode cX11_tunes 22 = .ok (.ifCond .ne 9, 3) := by decide +kernel
theorem dX11_tunes_25 : decode cX11_tunes 25 = .ok (.aload_n 0, 1) := by decide +kernel
theorem dX11_tunes_26 : decode cX11_tunes 26 = .ok (.iconst 2, 1) := by decide +kernel
theorem dX11_tunes_27 : decode cX11_tunes 27 = .ok (.invokevirtual 80, 3) := by decide +kernel
theorem dX11_tunes_30 : decode cX11_tunes 30 = .ok (.ireturn, 1) := by decide +kernel
theorem dX11_tunes_31 : decode cX11_tunes 31 = .ok (.aload_n 0, 1) := by decide +kernel
theorem dX11_tunes_32 : decode cX11_tunes 32 = .ok (.getfield 7, 3) := by decide +kernel
theorem dX11_tunes_35 : decode cX11_tunes 35 = .ok (.bipush 17, 2) := by decide +kernel
theorem dX11_tunes_37 : decode cX11_tunes 37 = .ok (.iload_n 1, 1) := by decide +kernel
theorem dX11_tunes_38 : decode cX11_tunes 38 = .ok (.iadd, 1) := by decide +kernel
theorem dX11_tunes_39 : decode cX11_tunes 39 = .ok (.iaload, 1) := by decide +kernel
theorem dX11_tunes_40 : decode cX11_tunes 40 = .ok (.iload_n 2, 1) := by decide +kernel
theorem dX11_tunes_41 : decode cX11_tunes 41 = .ok (.iadd, 1) := by decide +kernel
theorem dX11_tunes_42 : decode cX11_tunes 42 = .ok (.istore_n 3, 1) := by decide +kernel
theorem dX11_tunes_43 : decode cX11_tunes 43 = .ok (.iload_n 3, 1) := by decide +kernel
theorem dX11_tunes_44 : decode cX11_tunes 44 = .ok (.sipush 3600, 3) := by decide +kernel
theorem dX11_tunes_47 : decode cX11_tunes 47 = .ok (.sipush 8400, 3) := by decide +kernel
theorem dX11_tunes_50 : decode cX11_tunes 50 = .ok (.invokestatic 52, 3) := by decide +kernel
theorem dX11_tunes_53 : decode cX11_tunes 53 = .ok (.ifCond .ne 9, 3) := by decide +kernel
theorem dX11_tunes_56 : decode cX11_tunes 56 = .ok (.aload_n 0, 1) := by decide +kernel
theorem dX11_tunes_57 : decode cX11_tunes 57 = .ok (.iconst 3, 1) := by decide +kernel
theorem dX11_tunes_58 : decode cX11_tunes 58 = .ok (.invokevirtual 80, 3) := by decide +kernel
theorem dX11_tunes_61 : decode cX11_tunes 61 = .ok (.ireturn, 1) := by decide +kernel
theorem dX11_tunes_62 : decode cX11_tunes 62 = .ok (.aload_n 0, 1) := by decide +kernel
theorem dX11_tunes_63 : decode cX11_tunes 63 = .ok (.getfield 7, 3) := by decide +kernel
theorem dX11_tunes_66 : decode cX11_tunes 66 = .ok (.bipush 17, 2) := by decide +kernel
theorem dX11_tunes_68 : decode cX11_tunes 68 = .ok (.iload_n 1, 1) := by decide +kernel
theorem dX11_tunes_69 : decode cX11_tunes 69 = .ok (.iadd, 1) := by decide +kernel
theorem dX11_tunes_70 : decode cX11_tunes 70 = .ok (.iload_n 3, 1) := by decide +kernel
theorem dX11_tunes_71 : decode cX11_tunes 71 = .ok (.iastore, 1) := by decide +kernel
theorem dX11_tunes_72 : decode cX11_tunes 72 = .ok (.aload_n 0, 1) := by decide +kernel
theorem dX11_tunes_73 : decode cX11_tunes 73 = .ok (.iload_n 3, 1) := by decide +kernel
theorem dX11_tunes_74 : decode cX11_tunes 74 = .ok (.invokevirtual 83, 3) := by decide +kernel
theorem dX11_tunes_77 : decode cX11_tunes 77 = .ok (.ireturn, 1) := by decide +kernel
def f_X11_tunes (x_g : (Nat → Int32)) (x_thrown : Int32) (p1 : Int32) (p2 : Int32) : Option (Int32 × (Nat → Int32) × Int32) :=
  q_bd (f_X11_isBell x_g p1) (fun q1 =>
  q_br (q1 = 0) (
  q_bd (f_X11_fails x_thrown 1) (fun q11 =>
  some (q11.1, x_g, q11.2))) (
  q_bd (f_X11_in p2 (-99) 99) (fun q2 =>
  q_br (q2 = 0) (
  q_bd (f_X11_fails x_thrown 2) (fun q10 =>
  some (q10.1, x_g, q10.2))) (
  q_gd (q_in (17 + p1) 77) (
  q_lt ((x_g ((17 + p1).toNatClampNeg)) + p2 : Int32) (fun v4 =>
  q_bd (f_X11_in v4 3600 8400) (fun q5 =>
  q_br (q5 = 0) (
  q_bd (f_X11_fails x_thrown 3) (fun q9 =>
  some (q9.1, x_g, q9.2))) (
  q_gd (q_in (17 + p1) 77) (
  q_lt (upd x_g ((17 + p1).toNatClampNeg) v4) (fun u7 =>
  q_bd (f_X11_done x_thrown v4) (fun q8 =>
  some (q8.1, u7, q8.2))))))))))))
theorem hv_X11_tunes : yX11_tunes.cls = RX11 ∧ yX11_tunes.cls ≠ "java/lang/invoke/MethodHandle" ∧ yX11_tunes.cls ≠ "java/lang/invoke/VarHandle" ∧ (parseMethodDescriptor yX11_tunes.desc).map (fun d => d.parameters.length) = some 2 := by decide +kernel
abbrev rm_X11_tunes : Room := { frames := 2, cells := 0, slots := 0, locals := 43 }
set_option maxHeartbeats 4000000 in
set_option maxRecDepth 100000 in
theorem k_X11_tunes (l : Launch) (E : ET) (a : Nat → Nat) (o : Nat) (x : Model_t) (p1 : Int32) (p2 : Int32) (res : Int32 × (Nat → Int32) × Int32) (hF : f_X11_tunes x.1.1 x.2.2.2.1 p1 p2 = some res) (sz : Nat) : CtI l yX11_tunes (mws yX11_tunes cX11_tunes 4 (some .int)) rm_X11_tunes 0 0 [.ref (a o), .int p1, .int p2] E (bl_Model E a o x) res.1 (bl_Model E a o ((res.2.1, x.1.2.1, x.1.2.2.1, x.1.2.2.2.1, x.1.2.2.2.2), (x.2.1.1, x.2.1.2.1, x.2.1.2.2.1, x.2.1.2.2.2.1, x.2.1.2.2.2.2), (x.2.2.1.1, x.2.2.1.2.1, x.2.2.1.2.2.1, x.2.2.1.2.2.2), (res.2.2, x.2.2.2.2.1, x.2.2.2.2.2.1, x.2.2.2.2.2.2))) sz := by
  refine mk_M (by decide +kernel) (Nat.le_of_ble_eq_true rfl) ?_
  intro p e s m below meth c A args Q ls hAe hsz hQ hx hb hr hml hin ha hown hlocks hA hz hzs hst hP hD hS hl
  have hown : s.vm.findClass RX11 = some m.cls := hown
  rw [hAe] at hQ
  subst hsz
  have hP : va_P E.1 vwCl (List.flatten [w_Model E a o x]) s.heap := hP
  have hD : va_D A (List.flatten [w_Model E a o x]) := hD
  have hl : lv_has ls 4 [(0, .ref (a o)), (1, .int p1), (2, .int p2)] := hl
  generalize hHe : s.heap = H at hP
  have hS : va_S A s.heap H [] := by rw [← hHe]; exact hS
  generalize ([] : List Loc) = locs at hS ⊢
  unfold f_X11_tunes at hF
  refine lv_aload_n hx hb dX11_tunes_0 rfl (lv_at hl 0 rfl) ?_
  refine lv_iload_n hx hb dX11_tunes_1 rfl (lv_at hl 1 rfl) ?_
  obtain ⟨q1, hq1, hF⟩ := q_bdi hF
  refine cl_i (Lc := [w_Model E a o x]) (Lc' := [w_Model E a o x]) (L' := [w_Model E a o x]) (rv := q1) (va_runV (As := [.int p1]) (rest := []) ⟨hx, hb, hml, hown, ha⟩ (k_X11_isBell l E a o x p1 q1 hq1 H.size) (cwV 1 ha (gi_V (fun _ h => h) mw1736 mw1738 mw33 mw87 mw1739) rfl rfl rfl hv_X11_isBell ⟨(Nat.le_of_ble_eq_true rfl), (Nat.le_of_ble_eq_true rfl)⟩) ⟨pre_blind, va_recv hst.k (fr_P hP [0] rfl) (ci := 13) (q0 := 0) rfl rfl, pre_at hP hD hS hz hzs hst [0] (by decide) rfl rfl⟩ rfl rfl hl.1 rfl (lv_room (Nat.le_of_ble_eq_true rfl)) dX11_tunes_2 ⟨(Nat.le_of_ble_eq_true rfl), (Nat.le_of_ble_eq_true rfl)⟩) hP hD hS hA [0] (by decide) rfl rfl rfl rfl (fun H locs hP hD hS => ?_)
  refine lv_if_ne (tgt := 14) hx hb dX11_tunes_5 (by decide) (fun c5 => ?_) (fun c5 => ?_)
  · have hF := q_brn c5 hF
    refine lv_iload_n hx hb dX11_tunes_14 rfl (lv_at hl 2 rfl) ?_
    refine lv_bipush (v := (-99)) hx hb dX11_tunes_15 (by decide) ?_
    refine lv_bipush (v := 99) hx hb dX11_tunes_17 (by decide) ?_
    obtain ⟨q2, hq2, hF⟩ := q_bdi hF
    refine cl_i (Lc := []) (Lc' := []) (L' := [w_Model E a o x]) (rv := q2) (va_runS (As := [.int p2, .int (-99), .int 99]) (rest := []) ⟨hx, hb, hml, hown, ha⟩ (k_X11_in l E p2 (-99) 99 q2 hq2 H.size) (cwS 3 ha (gi_S (fun _ h => h) mw1713 mw1714 mw87 mw1715) rfl rfl rfl hv_X11_in ⟨(Nat.le_of_ble_eq_true rfl), (Nat.le_of_ble_eq_true rfl)⟩) ⟨pre_blind, pre_at hP hD hS hz hzs hst [] (by decide) rfl rfl⟩ rfl rfl hl.1 rfl (lv_room (Nat.le_of_ble_eq_true rfl)) dX11_tunes_19 ⟨(Nat.le_of_ble_eq_true rfl), (Nat.le_of_ble_eq_true rfl)⟩) hP hD hS hA [] (by decide) rfl rfl rfl rfl (fun H locs hP hD hS => ?_)
    refine lv_if_ne (tgt := 31) hx hb dX11_tunes_22 (by decide) (fun c22 => ?_) (fun c22 => ?_)
    · have hF := q_brn c22 hF
      refine lv_aload_n hx hb dX11_tunes_31 rfl (lv_at hl 0 rfl) ?_
      refine va_get (D := E.1) (ci := 13) (v := .ref (a (o + 1))) (C := RX11) (T := TX11) (N := 18) hx hb ha in_X11 hown hst.k hP 0 rfl rfl 0 (by decide) (ha _ mw1636) (fun _ h9 => h9) rfl dX11_tunes_32 ?_
      refine lv_bipush (v := 17) hx hb dX11_tunes_35 (by decide) ?_
      refine lv_iload_n hx hb dX11_tunes_37 rfl (lv_at hl 1 rfl) ?_
      refine lv_iadd hx hb dX11_tunes_38 ?_
      obtain ⟨g3, hF⟩ := q_gdi hF
      refine vi_iald hx hb hst.k hP 1 0 rfl rfl (f := x.1.1) (k := (17 + p1).toNatClampNeg) rfl g3 dX11_tunes_39 ?_
      refine lv_iload_n hx hb dX11_tunes_40 rfl (lv_at hl 2 rfl) ?_
      refine lv_iadd hx hb dX11_tunes_41 ?_
      refine lv_topi (fun v4 ev4 => ?_)
      have hF := q_lti ev4 hF
      refine lv_istore_n (lv' := [(3, .int v4), (0, .ref (a o)), (1, .int p1), (2, .int p2)]) hx hb dX11_tunes_42 rfl hl (by decide) rfl (fun ls hl => ?_)
      refine lv_iload_n hx hb dX11_tunes_43 rfl (lv_at hl 0 rfl) ?_
      refine lv_sipush (v := 3600) hx hb dX11_tunes_44 (by decide) ?_
      refine lv_sipush (v := 8400) hx hb dX11_tunes_47 (by decide) ?_
      obtain ⟨q5, hq5, hF⟩ := q_bdi hF
      refine cl_i (Lc := []) (Lc' := []) (L' := [w_Model E a o x]) (rv := q5) (va_runS (As := [.int v4, .int 3600, .int 8400]) (rest := []) ⟨hx, hb, hml, hown, ha⟩ (k_X11_in l E v4 3600 8400 q5 hq5 H.size) (cwS 3 ha (gi_S (fun _ h => h) mw1713 mw1714 mw87 mw1715) rfl rfl rfl hv_X11_in ⟨(Nat.le_of_ble_eq_true rfl), (Nat.le_of_ble_eq_true rfl)⟩) ⟨pre_blind, pre_at hP hD hS hz hzs hst [] (by decide) rfl rfl⟩ rfl rfl hl.1 rfl (lv_room (Nat.le_of_ble_eq_true rfl)) dX11_tunes_50 ⟨(Nat.le_of_ble_eq_true rfl), (Nat.le_of_ble_eq_true rfl)⟩) hP hD hS hA [] (by decide) rfl rfl rfl rfl (fun H locs hP hD hS => ?_)
      refine lv_if_ne (tgt := 62) hx hb dX11_tunes_53 (by decide) (fun c53 => ?_) (fun c53 => ?_)
      · have hF := q_brn c53 hF
        refine lv_aload_n hx hb dX11_tunes_62 rfl (lv_at hl 1 rfl) ?_
        refine va_get (D := E.1) (ci := 13) (v := .ref (a (o + 1))) (C := RX11) (T := TX11) (N := 18) hx hb ha in_X11 hown hst.k hP 0 rfl rfl 0 (by decide) (ha _ mw1636) (fun _ h9 => h9) rfl dX11_tunes_63 ?_
        refine lv_bipush (v := 17) hx hb dX11_tunes_66 (by decide) ?_
        refine lv_iload_n hx hb dX11_tunes_68 rfl (lv_at hl 2 rfl) ?_
        refine lv_iadd hx hb dX11_tunes_69 ?_
        refine lv_iload_n hx hb dX11_tunes_70 rfl (lv_at hl 0 rfl) ?_
        obtain ⟨g6, hF⟩ := q_gdi hF
        refine vj_iast hx hb hst.k hP hD hS 1 0 rfl rfl (f := x.1.1) (k := (17 + p1).toNatClampNeg) rfl g6 dX11_tunes_71 (fun u7 eu7 H locs hP hD hS => ?_)
        have hF := q_lti eu7 hF
        have hP : va_P E.1 vwCl (List.flatten [w_Model E a o ((u7, x.1.2.1, x.1.2.2.1, x.1.2.2.2.1, x.1.2.2.2.2), (x.2.1.1, x.2.1.2.1, x.2.1.2.2.1, x.2.1.2.2.2.1, x.2.1.2.2.2.2), (x.2.2.1.1, x.2.2.1.2.1, x.2.2.1.2.2.1, x.2.2.1.2.2.2), (x.2.2.2.1, x.2.2.2.2.1, x.2.2.2.2.2.1, x.2.2.2.2.2.2))]) H := hP
        have hD : va_D A (List.flatten [w_Model E a o ((u7, x.1.2.1, x.1.2.2.1, x.1.2.2.2.1, x.1.2.2.2.2), (x.2.1.1, x.2.1.2.1, x.2.1.2.2.1, x.2.1.2.2.2.1, x.2.1.2.2.2.2), (x.2.2.1.1, x.2.2.1.2.1, x.2.2.1.2.2.1, x.2.2.1.2.2.2), (x.2.2.2.1, x.2.2.2.2.1, x.2.2.2.2.2.1, x.2.2.2.2.2.2))]) := hD
        refine lv_aload_n hx hb dX11_tunes_72 rfl (lv_at hl 1 rfl) ?_
        refine lv_iload_n hx hb dX11_tunes_73 rfl (lv_at hl 0 rfl) ?_
        obtain ⟨q8, hq8, hF⟩ := q_bdi hF
        refine cl_i (Lc := [w_Model E a o ((u7, x.1.2.1, x.1.2.2.1, x.1.2.2.2.1, x.1.2.2.2.2), (x.2.1.1, x.2.1.2.1, x.2.1.2.2.1, x.2.1.2.2.2.1, x.2.1.2.2.2.2), (x.2.2.1.1, x.2.2.1.2.1, x.2.2.1.2.2.1, x.2.2.1.2.2.2), (x.2.2.2.1, x.2.2.2.2.1, x.2.2.2.2.2.1, x.2.2.2.2.2.2))]) (Lc' := [w_Model E a o ((u7, x.1.2.1, x.1.2.2.1, x.1.2.2.2.1, x.1.2.2.2.2), (x.2.1.1, x.2.1.2.1, x.2.1.2.2.1, x.2.1.2.2.2.1, x.2.1.2.2.2.2), (x.2.2.1.1, x.2.2.1.2.1, x.2.2.1.2.2.1, x.2.2.1.2.2.2), (q8.2, x.2.2.2.2.1, x.2.2.2.2.2.1, x.2.2.2.2.2.2))]) (L' := [w_Model E a o ((u7, x.1.2.1, x.1.2.2.1, x.1.2.2.2.1, x.1.2.2.2.2), (x.2.1.1, x.2.1.2.1, x.2.1.2.2.1, x.2.1.2.2.2.1, x.2.1.2.2.2.2), (x.2.2.1.1, x.2.2.1.2.1, x.2.2.1.2.2.1, x.2.2.1.2.2.2), (q8.2, x.2.2.2.2.1, x.2.2.2.2.2.1, x.2.2.2.2.2.2))]) (rv := q8.1) (va_runV (As := [.int v4]) (rest := []) ⟨hx, hb, hml, hown, ha⟩ (k_X11_done l E a o ((u7, x.1.2.1, x.1.2.2.1, x.1.2.2.2.1, x.1.2.2.2.2), (x.2.1.1, x.2.1.2.1, x.2.1.2.2.1, x.2.1.2.2.2.1, x.2.1.2.2.2.2), (x.2.2.1.1, x.2.2.1.2.1, x.2.2.1.2.2.1, x.2.2.1.2.2.2), (x.2.2.2.1, x.2.2.2.2.1, x.2.2.2.2.2.1, x.2.2.2.2.2.2)) v4 q8 hq8 H.size) (cwV 1 ha (gi_V (fun _ h => h) mw1720 mw1722 mw30 mw87 mw1723) rfl rfl rfl hv_X11_done ⟨(Nat.le_of_ble_eq_true rfl), (Nat.le_of_ble_eq_true rfl)⟩) ⟨pre_blind, va_recv hst.k (fr_P hP [0] rfl) (ci := 13) (q0 := 0) rfl rfl, pre_at hP hD hS hz hzs hst [0] (by decide) rfl rfl⟩ rfl rfl hl.1 rfl (lv_room (Nat.le_of_ble_eq_true rfl)) dX11_tunes_74 ⟨(Nat.le_of_ble_eq_true rfl), (Nat.le_of_ble_eq_true rfl)⟩) hP hD hS hA [0] (by decide) rfl rfl rfl rfl (fun H locs hP hD hS => ?_)
        obtain rfl := Option.some.inj hF
        exact en_i hQ (Nat.le_of_ble_eq_true rfl) (Nat.le_of_ble_eq_true rfl) hx hb hr hlocks hP hD hS rfl dX11_tunes_77
      · have hF := q_brp c53 hF
        refine lv_aload_n hx hb dX11_tunes_56 rfl (lv_at hl 1 rfl) ?_
        refine lv_iconst (v := 3) hx hb dX11_tunes_57 (by decide) ?_
        obtain ⟨q9, hq9, hF⟩ := q_bdi hF
        refine cl_i (Lc := [w_Model E a o x]) (Lc' := [w_Model E a o ((x.1.1, x.1.2.1, x.1.2.2.1, x.1.2.2.2.1, x.1.2.2.2.2), (x.2.1.1, x.2.1.2.1, x.2.1.2.2.1, x.2.1.2.2.2.1, x.2.1.2.2.2.2), (x.2.2.1.1, x.2.2.1.2.1, x.2.2.1.2.2.1, x.2.2.1.2.2.2), (q9.2, x.2.2.2.2.1, x.2.2.2.2.2.1, x.2.2.2.2.2.2))]) (L' := [w_Model E a o ((x.1.1, x.1.2.1, x.1.2.2.1, x.1.2.2.2.1, x.1.2.2.2.2), (x.2.1.1, x.2.1.2.1, x.2.1.2.2.1, x.2.1.2.2.2.1, x.2.1.2.2.2.2), (x.2.2.1.1, x.2.2.1.2.1, x.2.2.1.2.2.1, x.2.2.1.2.2.2), (q9.2, x.2.2.2.2.1, x.2.2.2.2.2.1, x.2.2.2.2.2.2))]) (rv := q9.1) (va_runV (As := [.int 3]) (rest := []) ⟨hx, hb, hml, hown, ha⟩ (k_X11_fails l E a o x 3 q9 hq9 H.size) (cwV 1 ha (gi_V (fun _ h => h) mw1716 mw1718 mw29 mw87 mw1719) rfl rfl rfl hv_X11_fails ⟨(Nat.le_of_ble_eq_true rfl), (Nat.le_of_ble_eq_true rfl)⟩) ⟨pre_blind, va_recv hst.k (fr_P hP [0] rfl) (ci := 13) (q0 := 0) rfl rfl, pre_at hP hD hS hz hzs hst [0] (by decide) rfl rfl⟩ rfl rfl hl.1 rfl (lv_room (Nat.le_of_ble_eq_true rfl)) dX11_tunes_58 ⟨(Nat.le_of_ble_eq_true rfl), (Nat.le_of_ble_eq_true rfl)⟩) hP hD hS hA [0] (by decide) rfl rfl rfl rfl (fun H locs hP hD hS => ?_)
        obtain rfl := Option.some.inj hF
        exact en_i hQ (Nat.le_of_ble_eq_true rfl) (Nat.le_of_ble_eq_true rfl) hx hb hr hlocks hP hD hS rfl dX11_tunes_61
    · have hF := q_brp c22 hF
      refine lv_aload_n hx hb dX11_tunes_25 rfl (lv_at hl 0 rfl) ?_
      refine lv_iconst (v := 2) hx hb dX11_tunes_26 (by decide) ?_
      obtain ⟨q10, hq10, hF⟩ := q_bdi hF
      refine cl_i (Lc := [w_Model E a o x]) (Lc' := [w_Model E a o ((x.1.1, x.1.2.1, x.1.2.2.1, x.1.2.2.2.1, x.1.2.2.2.2), (x.2.1.1, x.2.1.2.1, x.2.1.2.2.1, x.2.1.2.2.2.1, x.2.1.2.2.2.2), (x.2.2.1.1, x.2.2.1.2.1, x.2.2.1.2.2.1, x.2.2.1.2.2.2), (q10.2, x.2.2.2.2.1, x.2.2.2.2.2.1, x.2.2.2.2.2.2))]) (L' := [w_Model E a o ((x.1.1, x.1.2.1, x.1.2.2.1, x.1.2.2.2.1, x.1.2.2.2.2), (x.2.1.1, x.2.1.2.1, x.2.1.2.2.1, x.2.1.2.2.2.1, x.2.1.2.2.2.2), (x.2.2.1.1, x.2.2.1.2.1, x.2.2.1.2.2.1, x.2.2.1.2.2.2), (q10.2, x.2.2.2.2.1, x.2.2.2.2.2.1, x.2.2.2.2.2.2))]) (rv := q10.1) (va_runV (As := [.int 2]) (rest := []) ⟨hx, hb, hml, hown, ha⟩ (k_X11_fails l E a o x 2 q10 hq10 H.size) (cwV 1 ha (gi_V (fun _ h => h) mw1716 mw1718 mw29 mw87 mw1719) rfl rfl rfl hv_X11_fails ⟨(Nat.le_of_ble_eq_true rfl), (Nat.le_of_ble_eq_true rfl)⟩) ⟨pre_blind, va_recv hst.k (fr_P hP [0] rfl) (ci := 13) (q0 := 0) rfl rfl, pre_at hP hD hS hz hzs hst [0] (by decide) rfl rfl⟩ rfl rfl hl.1 rfl (lv_room (Nat.le_of_ble_eq_true rfl)) dX11_tunes_27 ⟨(Nat.le_of_ble_eq_true rfl), (Nat.le_of_ble_eq_true rfl)⟩) hP hD hS hA [0] (by decide) rfl rfl rfl rfl (fun H locs hP hD hS => ?_)
      obtain rfl := Option.some.inj hF
      exact en_i hQ (Nat.le_of_ble_eq_true rfl) (Nat.le_of_ble_eq_true rfl) hx hb hr hlocks hP hD hS rfl dX11_tunes_30
  · have hF := q_brp c5 hF
    refine lv_aload_n hx hb dX11_tunes_8 rfl (lv_at hl 0 rfl) ?_
    refine lv_iconst (v := 1) hx hb dX11_tunes_9 (by decide) ?_
    obtain ⟨q11, hq11, hF⟩ := q_bdi hF
    refine cl_i (Lc := [w_Model E a o x]) (Lc' := [w_Model E a o ((x.1.1, x.1.2.1, x.1.2.2.1, x.1.2.2.2.1, x.1.2.2.2.2), (x.2.1.1, x.2.1.2.1, x.2.1.2.2.1, x.2.1.2.2.2.1, x.2.1.2.2.2.2), (x.2.2.1.1, x.2.2.1.2.1, x.2.2.1.2.2.1, x.2.2.1.2.2.2), (q11.2, x.2.2.2.2.1, x.2.2.2.2.2.1, x.2.2.2.2.2.2))]) (L' := [w_Model E a o ((x.1.1, x.1.2.1, x.1.2.2.1, x.1.2.2.2.1, x.1.2.2.2.2), (x.2.1.1, x.2.1.2.1, x.2.1.2.2.1, x.2.1.2.2.2.1, x.2.1.2.2.2.2), (x.2.2.1.1, x.2.2.1.2.1, x.2.2.1.2.2.1, x.2.2.1.2.2.2), (q11.2, x.2.2.2.2.1, x.2.2.2.2.2.1, x.2.2.2.2.2.2))]) (rv := q11.1) (va_runV (As := [.int 1]) (rest := []) ⟨hx, hb, hml, hown, ha⟩ (k_X11_fails l E a o x 1 q11 hq11 H.size) (cwV 1 ha (gi_V (fun _ h => h) mw1716 mw1718 mw29 mw87 mw1719) rfl rfl rfl hv_X11_fails ⟨(Nat.le_of_ble_eq_true rfl), (Nat.le_of_ble_eq_true rfl)⟩) ⟨pre_blind, va_recv hst.k (fr_P hP [0] rfl) (ci := 13) (q0 := 0) rfl rfl, pre_at hP hD hS hz hzs hst [0] (by decide) rfl rfl⟩ rfl rfl hl.1 rfl (lv_room (Nat.le_of_ble_eq_true rfl)) dX11_tunes_10 ⟨(Nat.le_of_ble_eq_true rfl), (Nat.le_of_ble_eq_true rfl)⟩) hP hD hS hA [0] (by decide) rfl rfl rfl rfl (fun H locs hP hD hS => ?_)
    obtain rfl := Option.some.inj hF
    exact en_i hQ (Nat.le_of_ble_eq_true rfl) (Nat.le_of_ble_eq_true rfl) hx hb hr hlocks hP hD hS rfl dX11_tunes_13

/-! X11_moves -/
theorem dX11_moves_0 : decode cX11_moves 0 = .ok (.aload_n 0, 1) := by decide +kernel
theorem dX11_moves_1 : decode cX11_moves 1 = .ok (.iload_n 1, 1) := by decide +kernel
theorem dX11_moves_2 : decode cX11_moves 2 = .ok (.invokevirtual 96, 3) := by decide +kernel
theorem dX11_moves_5 : decode cX11_moves 5 = .ok (.ifCond .eq 10, 3) := by decide +kernel
theorem dX11_moves_8 : decode cX11_moves 8 = .ok (.iload_n 2, 1) := by decide +kernel
theorem dX11_moves_9 : decode cX11_moves 9 = .ok (.invokestatic 76, 3) := by decide +kernel
theorem dX11_moves_12 : decode cX11_moves 12 = .ok (.ifCond .ne 9, 3) := by decide +kernel
theorem dX11_moves_15 : decode cX11_moves 15 = .ok (.aload_n 0, 1) := by decide +kernel
theorem dX11_moves_16 : decode cX11_moves 16 = .ok (.iconst 1, 1) := by decide +kernel
theorem dX11_moves_17 : decode cX11_moves 17 = .ok (.invokevirtual 80, 3) := by decide +kernel
theorem dX11_moves_20 : decode cX11_moves 20 = .ok (.ireturn, 1) := by decide +kernel
theorem dX11_moves_21 : decode cX11_moves 21 = .ok (.aload_n 0, 1) := by decide +kernel
theorem dX11_moves_22 : decode cX11_moves 22 = .ok (.getfield 7, 3) := by decide +kernel
theorem dX11_moves_25 : decode cX11_moves 25 = .ok (.iconst 5, 1) := by decide +kernel
theorem dX11_moves_26 : decode cX11_moves 26 = .ok (.iload_n 1, 1) := by decide +kernel
theorem dX11_moves_27 : decode cX11_moves 27 = .ok (.iadd, 1) := by decide +kernel
theorem dX11_moves_28 : decode cX11_moves 28 = .ok (.iaload, 1) := by decide +kernel
theorem dX11_moves_29 : decode cX11_moves 29 = .ok (.istore_n 3, 1) := by decide +kernel
theorem dX11_moves_30 : decode cX11_moves 30 = .ok (.aload_n 0, 1) := by decide +kernel
theorem dX11_moves_31 : decode cX11_moves 31 = .ok (.getfield 7, 3) := by decide +kernel
theorem dX11_moves_34 : decode cX11_moves 34 = .ok (.iconst 5, 1) := by decide +kernel
theorem dX11_moves_35 : decode cX11_moves 35 = .ok (.iload_n 1, 1) := by decide +kernel
theorem dX11_moves_36 : decode cX11_moves 36 = .ok (.iadd, 1) := by decide +kernel
theorem dX11_moves_37 : decode cX11_moves 37 = .ok (.iload_n 2, 1) := by decide +kernel
theorem dX11_moves_38 : decode cX11_moves 38 = .ok (.iastore, 1) := by decide +kernel
theorem dX11_moves_39 : decode cX11_moves 39 = .ok (.aload_n 0, 1) := by decide +kernel
theorem dX11_moves_40 : decode cX11_moves 40 = .ok (.iload_n 3, 1) := by decide +kernel
theorem dX11_moves_41 : decode cX11_moves 41 = .ok (.invokevirtual 83, 3) := by decide +kernel
theorem dX11_moves_44 : decode cX11_moves 44 = .ok (.ireturn, 1) := by decide +kernel
def f_X11_moves (x_g : (Nat → Int32)) (x_thrown : Int32) (p1 : Int32) (p2 : Int32) : Option (Int32 × (Nat → Int32) × Int32) :=
  q_bd (f_X11_isBell x_g p1) (fun q1 =>
  q_br (q1 = 0) (
  q_bd (f_X11_fails x_thrown 1) (fun q2 =>
  some (q2.1, x_g, q2.2))) (
  q_bd (f_X11_isHerd p2) (fun q3 =>
  q_br (q3 = 0) (
  q_bd (f_X11_fails x_thrown 1) (fun q9 =>
  some (q9.1, x_g, q9.2))) (
  q_gd (q_in (5 + p1) 77) (
  q_lt (x_g ((5 + p1).toNatClampNeg) : Int32) (fun v5 =>
  q_gd (q_in (5 + p1) 77) (
  q_lt (upd x_g ((5 + p1).toNatClampNeg) p2) (fun u7 =>
  q_bd (f_X11_done x_thrown v5) (fun q8 =>
  some (q8.1, u7, q8.2))))))))))
theorem hv_X11_moves : yX11_moves.cls = RX11 ∧ yX11_moves.cls ≠ "java/lang/invoke/MethodHandle" ∧ yX11_moves.cls ≠ "java/lang/invoke/VarHandle" ∧ (parseMethodDescriptor yX11_moves.desc).map (fun d => d.parameters.length) = some 2 := by decide +kernel
abbrev rm_X11_moves : Room := { frames := 2, cells := 0, slots := 0, locals := 43 }
set_option maxHeartbeats 4000000 in
set_option maxRecDepth 100000 in
theorem k_X11_moves (l : Launch) (E : ET) (a : Nat → Nat) (o : Nat) (x : Model_t) (p1 : Int32) (p2 : Int32) (res : Int32 × (Nat → Int32) × Int32) (hF : f_X11_moves x.1.1 x.2.2.2.1 p1 p2 = some res) (sz : Nat) : CtI l yX11_moves (mws yX11_moves cX11_moves 4 (some .int)) rm_X11_moves 0 0 [.ref (a o), .int p1, .int p2] E (bl_Model E a o x) res.1 (bl_Model E a o ((res.2.1, x.1.2.1, x.1.2.2.1, x.1.2.2.2.1, x.1.2.2.2.2), (x.2.1.1, x.2.1.2.1, x.2.1.2.2.1, x.2.1.2.2.2.1, x.2.1.2.2.2.2), (x.2.2.1.1, x.2.2.1.2.1, x.2.2.1.2.2.1, x.2.2.1.2.2.2), (res.2.2, x.2.2.2.2.1, x.2.2.2.2.2.1, x.2.2.2.2.2.2))) sz := by
  refine mk_M (by decide +kernel) (Nat.le_of_ble_eq_true rfl) ?_
  intro p e s m below meth c A args Q ls hAe hsz hQ hx hb hr hml hin ha hown hlocks hA hz hzs hst hP hD hS hl
  have hown : s.vm.findClass RX11 = some m.cls := hown
  rw [hAe] at hQ
  subst hsz
  have hP : va_P E.1 vwCl (List.flatten [w_Model E a o x]) s.heap := hP
  have hD : va_D A (List.flatten [w_Model E a o x]) := hD
  have hl : lv_has ls 4 [(0, .ref (a o)), (1, .int p1), (2, .int p2)] := hl
  generalize hHe : s.heap = H at hP
  have hS : va_S A s.heap H [] := by rw [← hHe]; exact hS
  generalize ([] : List Loc) = locs at hS ⊢
  unfold f_X11_moves at hF
  refine lv_aload_n hx hb dX11_moves_0 rfl (lv_at hl 0 rfl) ?_
  refine lv_iload_n hx hb dX11_moves_1 rfl (lv_at hl 1 rfl) ?_
  obtain ⟨q1, hq1, hF⟩ := q_bdi hF
  refine cl_i (Lc := [w_Model E a o x]) (Lc' := [w_Model E a o x]) (L' := [w_Model E a o x]) (rv := q1) (va_runV (As := [.int p1]) (rest := []) ⟨hx, hb, hml, hown, ha⟩ (k_X11_isBell l E a o x p1 q1 hq1 H.size) (cwV 1 ha (gi_V (fun _ h => h) mw1736 mw1738 mw33 mw87 mw1739) rfl rfl rfl hv_X11_isBell ⟨(Nat.le_of_ble_eq_true rfl), (Nat.le_of_ble_eq_true rfl)⟩) ⟨pre_blind, va_recv hst.k (fr_P hP [0] rfl) (ci := 13) (q0 := 0) rfl rfl, pre_at hP hD hS hz hzs hst [0] (by decide) rfl rfl⟩ rfl rfl hl.1 rfl (lv_room (Nat.le_of_ble_eq_true rfl)) dX11_moves_2 ⟨(Nat.le_of_ble_eq_true rfl), (Nat.le_of_ble_eq_true rfl)⟩) hP hD hS hA [0] (by decide) rfl rfl rfl rfl (fun H locs hP hD hS => ?_)
  refine lv_if_eq (tgt := 15) hx hb dX11_moves_5 (by decide) (fun c5 => ?_) (fun c5 => ?_)
  · have hF := q_brp c5 hF
    refine lv_aload_n hx hb dX11_moves_15 rfl (lv_at hl 0 rfl) ?_
    refine lv_iconst (v := 1) hx hb dX11_moves_16 (by decide) ?_
    obtain ⟨q2, hq2, hF⟩ := q_bdi hF
    refine cl_i (Lc := [w_Model E a o x]) (Lc' := [w_Model E a o ((x.1.1, x.1.2.1, x.1.2.2.1, x.1.2.2.2.1, x.1.2.2.2.2), (x.2.1.1, x.2.1.2.1, x.2.1.2.2.1, x.2.1.2.2.2.1, x.2.1.2.2.2.2), (x.2.2.1.1, x.2.2.1.2.1, x.2.2.1.2.2.1, x.2.2.1.2.2.2), (q2.2, x.2.2.2.2.1, x.2.2.2.2.2.1, x.2.2.2.2.2.2))]) (L' := [w_Model E a o ((x.1.1, x.1.2.1, x.1.2.2.1, x.1.2.2.2.1, x.1.2.2.2.2), (x.2.1.1, x.2.1.2.1, x.2.1.2.2.1, x.2.1.2.2.2.1, x.2.1.2.2.2.2), (x.2.2.1.1, x.2.2.1.2.1, x.2.2.1.2.2.1, x.2.2.1.2.2.2), (q2.2, x.2.2.2.2.1, x.2.2.2.2.2.1, x.2.2.2.2.2.2))]) (rv := q2.1) (va_runV (As := [.int 1]) (rest := []) ⟨hx, hb, hml, hown, ha⟩ (k_X11_fails l E a o x 1 q2 hq2 H.size) (cwV 1 ha (gi_V (fun _ h => h) mw1716 mw1718 mw29 mw87 mw1719) rfl rfl rfl hv_X11_fails ⟨(Nat.le_of_ble_eq_true rfl), (Nat.le_of_ble_eq_true rfl)⟩) ⟨pre_blind, va_recv hst.k (fr_P hP [0] rfl) (ci := 13) (q0 := 0) rfl rfl, pre_at hP hD hS hz hzs hst [0] (by decide) rfl rfl⟩ rfl rfl hl.1 rfl (lv_room (Nat.le_of_ble_eq_true rfl)) dX11_moves_17 ⟨(Nat.le_of_ble_eq_true rfl), (Nat.le_of_ble_eq_true rfl)⟩) hP hD hS hA [0] (by decide) rfl rfl rfl rfl (fun H locs hP hD hS => ?_)
    obtain rfl := Option.some.inj hF
    exact en_i hQ (Nat.le_of_ble_eq_true rfl) (Nat.le_of_ble_eq_true rfl) hx hb hr hlocks hP hD hS rfl dX11_moves_20
  · have hF := q_brn c5 hF
    refine lv_iload_n hx hb dX11_moves_8 rfl (lv_at hl 2 rfl) ?_
    obtain ⟨q3, hq3, hF⟩ := q_bdi hF
    refine cl_i (Lc := []) (Lc' := []) (L' := [w_Model E a o x]) (rv := q3) (va_runS (As := [.int p2]) (rest := []) ⟨hx, hb, hml, hown, ha⟩ (k_X11_isHerd l E p2 q3 hq3 H.size) (cwS 1 ha (gi_S (fun _ h => h) mw1710 mw1711 mw87 mw1712) rfl rfl rfl hv_X11_isHerd ⟨(Nat.le_of_ble_eq_true rfl), (Nat.le_of_ble_eq_true rfl)⟩) ⟨pre_blind, pre_at hP hD hS hz hzs hst [] (by decide) rfl rfl⟩ rfl rfl hl.1 rfl (lv_room (Nat.le_of_ble_eq_true rfl)) dX11_moves_9 ⟨(Nat.le_of_ble_eq_true rfl), (Nat.le_of_ble_eq_true rfl)⟩) hP hD hS hA [] (by decide) rfl rfl rfl rfl (fun H locs hP hD hS => ?_)
    refine lv_if_ne (tgt := 21) hx hb dX11_moves_12 (by decide) (fun c12 => ?_) (fun c12 => ?_)
    · have hF := q_brn c12 hF
      refine lv_aload_n hx hb dX11_moves_21 rfl (lv_at hl 0 rfl) ?_
      refine va_get (D := E.1) (ci := 13) (v := .ref (a (o + 1))) (C := RX11) (T := TX11) (N := 18) hx hb ha in_X11 hown hst.k hP 0 rfl rfl 0 (by decide) (ha _ mw1636) (fun _ h9 => h9) rfl dX11_moves_22 ?_
      refine lv_iconst (v := 5) hx hb dX11_moves_25 (by decide) ?_
      refine lv_iload_n hx hb dX11_moves_26 rfl (lv_at hl 1 rfl) ?_
      refine lv_iadd hx hb dX11_moves_27 ?_
      obtain ⟨g4, hF⟩ := q_gdi hF
      refine vi_iald hx hb hst.k hP 1 0 rfl rfl (f := x.1.1) (k := (5 + p1).toNatClampNeg) rfl g4 dX11_moves_28 ?_
      refine lv_topi (fun v5 ev5 => ?_)
      have hF := q_lti ev5 hF
      refine lv_istore_n (lv' := [(3, .int v5), (0, .ref (a o)), (1, .int p1), (2, .int p2)]) hx hb dX11_moves_29 rfl hl (by decide) rfl (fun ls hl => ?_)
      refine lv_aload_n hx hb dX11_moves_30 rfl (lv_at hl 1 rfl) ?_
      refine va_get (D := E.1) (ci := 13) (v := .ref (a (o + 1))) (C := RX11) (T := TX11) (N := 18) hx hb ha in_X11 hown hst.k hP 0 rfl rfl 0 (by decide) (ha _ mw1636) (fun _ h9 => h9) rfl dX11_moves_31 ?_
      refine lv_iconst (v := 5) hx hb dX11_moves_34 (by decide) ?_
      refine lv_iload_n hx hb dX11_moves_35 rfl (lv_at hl 2 rfl) ?_
      refine lv_iadd hx hb dX11_moves_36 ?_
      refine lv_iload_n hx hb dX11_moves_37 rfl (lv_at hl 3 rfl) ?_
      obtain ⟨g6, hF⟩ := q_gdi hF
      refine vj_iast hx hb hst.k hP hD hS 1 0 rfl rfl (f := x.1.1) (k := (5 + p1).toNatClampNeg) rfl g6 dX11_moves_38 (fun u7 eu7 H locs hP hD hS => ?_)
      have hF := q_lti eu7 hF
      have hP : va_P E.1 vwCl (List.flatten [w_Model E a o ((u7, x.1.2.1, x.1.2.2.1, x.1.2.2.2.1, x.1.2.2.2.2), (x.2.1.1, x.2.1.2.1, x.2.1.2.2.1, x.2.1.2.2.2.1, x.2.1.2.2.2.2), (x.2.2.1.1, x.2.2.1.2.1, x.2.2.1.2.2.1, x.2.2.1.2.2.2), (x.2.2.2.1, x.2.2.2.2.1, x.2.2.2.2.2.1, x.2.2.2.2.2.2))]) H := hP
      have hD : va_D A (List.flatten [w_Model E a o ((u7, x.1.2.1, x.1.2.2.1, x.1.2.2.2.1, x.1.2.2.2.2), (x.2.1.1, x.2.1.2.1, x.2.1.2.2.1, x.2.1.2.2.2.1, x.2.1.2.2.2.2), (x.2.2.1.1, x.2.2.1.2.1, x.2.2.1.2.2.1, x.2.2.1.2.2.2), (x.2.2.2.1, x.2.2.2.2.1, x.2.2.2.2.2.1, x.2.2.2.2.2.2))]) := hD
      refine lv_aload_n hx hb dX11_moves_39 rfl (lv_at hl 1 rfl) ?_
      refine lv_iload_n hx hb dX11_moves_40 rfl (lv_at hl 0 rfl) ?_
      obtain ⟨q8, hq8, hF⟩ := q_bdi hF
      refine cl_i (Lc := [w_Model E a o ((u7, x.1.2.1, x.1.2.2.1, x.1.2.2.2.1, x.1.2.2.2.2), (x.2.1.1, x.2.1.2.1, x.2.1.2.2.1, x.2.1.2.2.2.1, x.2.1.2.2.2.2), (x.2.2.1.1, x.2.2.1.2.1, x.2.2.1.2.2.1, x.2.2.1.2.2.2), (x.2.2.2.1, x.2.2.2.2.1, x.2.2.2.2.2.1, x.2.2.2.2.2.2))]) (Lc' := [w_Model E a o ((u7, x.1.2.1, x.1.2.2.1, x.1.2.2.2.1, x.1.2.2.2.2), (x.2.1.1, x.2.1.2.1, x.2.1.2.2.1, x.2.1.2.2.2.1, x.2.1.2.2.2.2), (x.2.2.1.1, x.2.2.1.2.1, x.2.2.1.2.2.1, x.2.2.1.2.2.2), (q8.2, x.2.2.2.2.1, x.2.2.2.2.2.1, x.2.2.2.2.2.2))]) (L' := [w_Model E a o ((u7, x.1.2.1, x.1.2.2.1, x.1.2.2.2.1, x.1.2.2.2.2), (x.2.1.1, x.2.1.2.1, x.2.1.2.2.1, x.2.1.2.2.2.1, x.2.1.2.2.2.2), (x.2.2.1.1, x.2.2.1.2.1, x.2.2.1.2.2.1, x.2.2.1.2.2.2), (q8.2, x.2.2.2.2.1, x.2.2.2.2.2.1, x.2.2.2.2.2.2))]) (rv := q8.1) (va_runV (As := [.int v5]) (rest := []) ⟨hx, hb, hml, hown, ha⟩ (k_X11_done l E a o ((u7, x.1.2.1, x.1.2.2.1, x.1.2.2.2.1, x.1.2.2.2.2), (x.2.1.1, x.2.1.2.1, x.2.1.2.2.1, x.2.1.2.2.2.1, x.2.1.2.2.2.2), (x.2.2.1.1, x.2.2.1.2.1, x.2.2.1.2.2.1, x.2.2.1.2.2.2), (x.2.2.2.1, x.2.2.2.2.1, x.2.2.2.2.2.1, x.2.2.2.2.2.2)) v5 q8 hq8 H.size) (cwV 1 ha (gi_V (fun _ h => h) mw1720 mw1722 mw30 mw87 mw1723) rfl rfl rfl hv_X11_done ⟨(Nat.le_of_ble_eq_true rfl), (Nat.le_of_ble_eq_true rfl)⟩) ⟨pre_blind, va_recv hst.k (fr_P hP [0] rfl) (ci := 13) (q0 := 0) rfl rfl, pre_at hP hD hS hz hzs hst [0] (by decide) rfl rfl⟩ rfl rfl hl.1 rfl (lv_room (Nat.le_of_ble_eq_true rfl)) dX11_moves_41 ⟨(Nat.le_of_ble_eq_true rfl), (Nat.le_of_ble_eq_true rfl)⟩) hP hD hS hA [0] (by decide) rfl rfl rfl rfl (fun H locs hP hD hS => ?_)
      obtain rfl := Option.some.inj hF
      exact en_i hQ (Nat.le_of_ble_eq_true rfl) (Nat.le_of_ble_eq_true rfl) hx hb hr hlocks hP hD hS rfl dX11_moves_44
    · have hF := q_brp c12 hF
      refine lv_aload_n hx hb dX11_moves_15 rfl (lv_at hl 0 rfl) ?_
      refine lv_iconst (v := 1) hx hb dX11_moves_16 (by decide) ?_
      obtain ⟨q9, hq9, hF⟩ := q_bdi hF
      refine cl_i (Lc := [w_Model E a o x]) (Lc' := [w_Model E a o ((x.1.1, x.1.2.1, x.1.2.2.1, x.1.2.2.2.1, x.1.2.2.2.2), (x.2.1.1, x.2.1.2.1, x.2.1.2.2.1, x.2.1.2.2.2.1, x.2.1.2.2.2.2), (x.2.2.1.1, x.2.2.1.2.1, x.2.2.1.2.2.1, x.2.2.1.2.2.2), (q9.2, x.2.2.2.2.1, x.2.2.2.2.2.1, x.2.2.2.2.2.2))]) (L' := [w_Model E a o ((x.1.1, x.1.2.1, x.1.2.2.1, x.1.2.2.2.1, x.1.2.2.2.2), (x.2.1.1, x.2.1.2.1, x.2.1.2.2.1, x.2.1.2.2.2.1, x.2.1.2.2.2.2), (x.2.2.1.1, x.2.2.1.2.1, x.2.2.1.2.2.1, x.2.2.1.2.2.2), (q9.2, x.2.2.2.2.1, x.2.2.2.2.2.1, x.2.2.2.2.2.2))]) (rv := q9.1) (va_runV (As := [.int 1]) (rest := []) ⟨hx, hb, hml, hown, ha⟩ (k_X11_fails l E a o x 1 q9 hq9 H.size) (cwV 1 ha (gi_V (fun _ h => h) mw1716 mw1718 mw29 mw87 mw1719) rfl rfl rfl hv_X11_fails ⟨(Nat.le_of_ble_eq_true rfl), (Nat.le_of_ble_eq_true rfl)⟩) ⟨pre_blind, va_recv hst.k (fr_P hP [0] rfl) (ci := 13) (q0 := 0) rfl rfl, pre_at hP hD hS hz hzs hst [0] (by decide) rfl rfl⟩ rfl rfl hl.1 rfl (lv_room (Nat.le_of_ble_eq_true rfl)) dX11_moves_17 ⟨(Nat.le_of_ble_eq_true rfl), (Nat.le_of_ble_eq_true rfl)⟩) hP hD hS hA [0] (by decide) rfl rfl rfl rfl (fun H locs hP hD hS => ?_)
      obtain rfl := Option.some.inj hF
      exact en_i hQ (Nat.le_of_ble_eq_true rfl) (Nat.le_of_ble_eq_true rfl) hx hb hr hlocks hP hD hS rfl dX11_moves_20

/-! X11_grazes -/
theorem dX11_grazes_0 : decode cX11_grazes 0 = .ok (.iload_n 1, 1) := by decide +kernel
theorem dX11_grazes_1 : decode cX11_grazes 1 = .ok (.invokestatic 76, 3) := by decide +kernel
theorem dX11_grazes_4 : decode cX11_grazes 4 = .ok (.ifCond .ne 9, 3) := by decide +kernel
theorem dX11_grazes_7 : decode cX11_grazes 7 = .ok (.aload_n 0, 1) := by decide +kernel
theorem dX11_grazes_8 : decode cX11_grazes 8 = .ok (.iconst 1, 1) := by decide +kernel
theorem dX11_grazes_9 : decode cX11_grazes 9 = .ok (.invokevirtual 80, 3) := by decide +kernel
theorem dX11_grazes_12 : decode cX11_grazes 12 = .ok (.ireturn, 1) := by decide +kernel
theorem dX11_grazes_13 : decode cX11_grazes 13 = .ok (.iload_n 2, 1) := by decide +kernel
theorem dX11_grazes_14 : decode cX11_grazes 14 = .ok (.iconst 1, 1) := by decide +kernel
theorem dX11_grazes_15 : decode cX11_grazes 15 = .ok (.bipush 99, 2) := by decide +kernel
theorem dX11_grazes_17 : decode cX11_grazes 17 = .ok (.invokestatic 52, 3) := by decide +kernel
theorem dX11_grazes_20 : decode cX11_grazes 20 = .ok (.ifCond .ne 9, 3) := by decide +kernel
theorem dX11_grazes_23 : decode cX11_grazes 23 = .ok (.aload_n 0, 1) := by decide +kernel
theorem dX11_grazes_24 : decode cX11_grazes 24 = .ok (.iconst 2, 1) := by decide +kernel
theorem dX11_grazes_25 : decode cX11_grazes 25 = .ok (.invokevirtual 80, 3) := by decide +kernel
theorem dX11_grazes_28 : decode cX11_grazes 28 = .ok (.ireturn, 1) := by decide +kernel
theorem dX11_grazes_29 : decode cX11_grazes 29 = .ok (.iconst 0, 1) := by decide +kernel
theorem dX11_grazes_30 : decode cX11_grazes 30 = .ok (.istore_n 3, 1) := by decide +kernel
theorem dX11_grazes_31 : decode cX11_grazes 31 = .ok (.iconst 0, 1) := by decide +kernel
theorem dX11_grazes_32 : decode cX11_grazes 32 = .ok (.istore 4, 2) := by decide +kernel
theorem dX11_grazes_34 : decode cX11_grazes 34 = .ok (.iload 4, 2) := by decide +kernel
theorem dX11_grazes_36 : decode cX11_grazes 36 = .ok (.aload_n 0, 1) := by decide +kernel
theorem dX11_grazes_37 : decode cX11_grazes 37 = .ok (.getfield 7, 3) := by decide +kernel
theorem dX11_grazes_40 : decode cX11_grazes 40 = .ok (.iconst 0, 1) := by decide +kernel
theorem dX11_grazes_41 : decode cX11_grazes 41 = .ok (.iaload, 1) := by decide +kernel
theorem dX11_grazes_42 : decode cX11_grazes 42 = .ok (.if_icmp .ge 92, 3) := by decide +kernel
theorem dX11_grazes_45 : decode cX11_grazes 45 = .ok (.aload_n 0, 1) := by decide +kernel
theorem dX11_grazes_46 : decode cX11_grazes 46 = .ok (.getfield 7, 3) := by decide +kernel
theorem dX11_grazes_49 : decode cX11_grazes 49 = .ok (.iconst 5, 1) := by decide +kernel
theorem dX11_grazes_50 : decode cX11_grazes 50 = .ok (.iload 4, 2) := by decide +kernel
theorem dX11_grazes_52 : decode cX11_grazes 52 = .ok (.iadd, 1) := by decide +kernel
theorem dX11_grazes_53 : decode cX11_grazes 53 = .ok (.iaload, 1) := by decide +kernel
theorem dX11_grazes_54 : decode cX11_grazes 54 = .ok (.iload_n 1, 1) := by decide +kernel
theorem dX11_grazes_55 : decode cX11_grazes 55 = .ok (.if_icmp .ne 73, 3) := by decide +kernel
theorem dX11_grazes_58 : decode cX11_grazes 58 = .ok (.aload_n 0, 1) := by decide +kernel
theorem dX11_grazes_59 : decode cX11_grazes 59 = .ok (.iload 4, 2) := by decide +kernel
theorem dX11_grazes_61 : decode cX11_grazes 61 = .ok (.invokevirtual 111, 3) := by decide +kernel
theorem dX11_grazes_64 : decode cX11_grazes 64 = .ok (.istore 5, 2) := by decide +kernel
theorem dX11_grazes_66 : decode cX11_grazes 66 = .ok (.aload_n 0, 1) := by decide +kernel
theorem dX11_grazes_67 : decode cX11_grazes 67 = .ok (.getfield 7, 3) := by decide +kernel
theorem dX11_grazes_70 : decode cX11_grazes 70 = .ok (.bipush 17, 2) := by decide +kernel
theorem dX11_grazes_72 : decode cX11_grazes 72 = .ok (.iload 4, 2) := by decide +kernel
theorem dX11_grazes_74 : decode cX11_grazes 74 = .ok (.iadd, 1) := by decide +kernel
theorem dX11_grazes_75 : decode cX11_grazes 75 = .ok (.iaload, 1) := by decide +kernel
theorem dX11_grazes_76 : decode cX11_grazes 76 = .ok (.iload_n 2, 1) := by decide +kernel
theorem dX11_grazes_77 : decode cX11_grazes 77 = .ok (.isub, 1) := by decide +kernel
theorem dX11_grazes_78 : decode cX11_grazes 78 = .ok (.istore 6, 2) := by decide +kernel
theorem dX11_grazes_80 : decode cX11_grazes 80 = .ok (.aload_n 0, 1) := by decide +kernel
theorem dX11_grazes_81 : decode cX11_grazes 81 = .ok (.getfield 7, 3) := by decide +kernel
theorem dX11_grazes_84 : decode cX11_grazes 84 = .ok (.bipush 17, 2) := by decide +kernel
theorem dX11_grazes_86 : decode cX11_grazes 86 = .ok (.iload 4, 2) := by decide +kernel
theorem dX11_grazes_88 : decode cX11_grazes 88 = .ok (.iadd, 1) := by decide +kernel
theorem dX11_grazes_89 : decode cX11_grazes 89 = .ok (.iload 6, 2) := by decide +kernel
theorem dX11_grazes_91 : decode cX11_grazes 91 = .ok (.sipush 3600, 3) := by decide +kernel
theorem dX11_grazes_94 : decode cX11_grazes 94 = .ok (.if_icmp .ge 9, 3) := by decide +kernel
theorem dX11_grazes_97 : decode cX11_grazes 97 = .ok (.sipush 3600, 3) := by decide +kernel
theorem dX11_grazes_100 : decode cX11_grazes 100 = .ok (.goto 5, 3) := by decide +kernel
theorem dX11_grazes_103 : decode cX11_grazes 103 = .ok (.iload 6, 2) := by decide +kernel
theorem dX11_grazes_105 : decode cX11_grazes 105 = .ok (.iastore, 1) := by decide +kernel
theorem dX11_grazes_106 : decode cX11_grazes 106 = .ok (.iload_n 3, 1) := by decide +kernel
theorem dX11_grazes_107 : decode cX11_grazes 107 = .ok (.iload 5, 2) := by decide +kernel
theorem dX11_grazes_109 : decode cX11_grazes 109 = .ok (.ifCond .eq 16, 3) := by decide +kernel
theorem dX11_grazes_112 : decode cX11_grazes 112 = .ok (.aload_n 0, 1) := by decide +kernel
theorem dX11_grazes_113 : decode cX11_grazes 113 = .ok (.iload 4, 2) := by decide +kernel
theorem dX11_grazes_115 : decode cX11_grazes 115 = .ok (.invokevirtual 111, 3) := by decide +kernel
theorem dX11_grazes_118 : decode cX11_grazes 118 = .ok (.ifCond .ne 7, 3) := by decide +kernel
theorem dX11_grazes_121 : decode cX11_grazes 121 = .ok (.iconst 1, 1) := by decide +kernel
theorem dX11_grazes_122 : decode cX11_grazes 122 = .ok (.goto 4, 3) := by decide +kernel
theorem dX11_grazes_125 : decode cX11_grazes 125 = .ok (.iconst 0, 1) := by decide +kernel
theorem dX11_grazes_126 : decode cX11_grazes 126 = .ok (.iadd, 1) := by decide +kernel
theorem dX11_grazes_127 : decode cX11_grazes 127 = .ok (.istore_n 3, 1) := by decide +kernel
theorem dX11_grazes_128 : decode cX11_grazes 128 = .ok (.iinc 4 1, 3) := by decide +kernel
theorem dX11_grazes_131 : decode cX11_grazes 131 = .ok (.goto (-97), 3) := by decide +kernel
theorem dX11_grazes_134 : decode cX11_grazes 134 = .ok (.aload_n 0, 1) := by decide +kernel
theorem dX11_grazes_135 : decode cX11_grazes 135 = .ok (.iload_n 3, 1) := by decide +kernel
theorem dX11_grazes_136 : decode cX11_grazes 136 = .ok (.invokevirtual 83, 3) := by decide +kernel
theorem dX11_grazes_139 : decode cX11_grazes 139 = .ok (.ireturn, 1) := by decide +kernel
def f_X11_grazes_L34 (x_thrown : Int32) (p1 : Int32) (p2 : Int32) : Nat → Int32 → Int32 → (Nat → Int32) → Option (Int32 × (Nat → Int32) × Int32)
  | 0, _, _, _ => none
  | n34 + 1, i3, i4, i5 =>
    q_br ((i5 0) ≤ i3) (
  q_bd (f_X11_done x_thrown i4) (fun q6 =>
  some (q6.1, i5, q6.2))) (
  q_gd (q_in (5 + i3) 77) (
  q_lt (fun (j8 : Int32) (j9 : (Nat → Int32)) =>
  q_lt (i3 + 1 : Int32) (fun v10 =>
  f_X11_grazes_L34 x_thrown p1 p2 n34 v10 j8 j9)) (fun (J128 : Int32 → (Nat → Int32) → Option (Int32 × (Nat → Int32) × Int32)) =>
  q_br ((i5 ((5 + i3).toNatClampNeg)) = p1) (
  q_bd (f_X11_isKeyed i5 i3) (fun q11 =>
  q_gd (q_in (17 + i3) 77) (
  q_lt ((i5 ((17 + i3).toNatClampNeg)) - p2 : Int32) (fun v13 =>
  q_lt (fun (j14 : Int32) =>
  q_gd (q_in (17 + i3) 77) (
  q_lt (upd i5 ((17 + i3).toNatClampNeg) j14) (fun u16 =>
  q_lt (fun (j17 : Int32) =>
  q_lt (i4 + j17 : Int32) (fun v18 =>
  J128 v18 u16)) (fun (J126 : Int32 → Option (Int32 × (Nat → Int32) × Int32)) =>
  q_br (q11 = 0) (
  J126 0) (
  q_bd (f_X11_isKeyed u16 i3) (fun q19 =>
  q_br (q19 = 0) (
  J126 1) (
  J126 0))))))) (fun (J105 : Int32 → Option (Int32 × (Nat → Int32) × Int32)) =>
  q_br (3600 ≤ v13) (
  J105 v13) (
  J105 3600)))))) (
  J128 i4 i5))))
def f_X11_grazes (x_g : (Nat → Int32)) (x_thrown : Int32) (p1 : Int32) (p2 : Int32) : Option (Int32 × (Nat → Int32) × Int32) :=
  q_bd (f_X11_isHerd p1) (fun q1 =>
  q_br (q1 = 0) (
  q_bd (f_X11_fails x_thrown 1) (fun q21 =>
  some (q21.1, x_g, q21.2))) (
  q_bd (f_X11_in p2 1 99) (fun q2 =>
  q_br (q2 = 0) (
  q_bd (f_X11_fails x_thrown 2) (fun q20 =>
  some (q20.1, x_g, q20.2))) (
  f_X11_grazes_L34 x_thrown p1 p2 2000 0 0 x_g))))
theorem hv_X11_grazes : yX11_grazes.cls = RX11 ∧ yX11_grazes.cls ≠ "java/lang/invoke/MethodHandle" ∧ yX11_grazes.cls ≠ "java/lang/invoke/VarHandle" ∧ (parseMethodDescriptor yX11_grazes.desc).map (fun d => d.parameters.length) = some 2 := by decide +kernel
abbrev rm_X11_grazes : Room := { frames := 4, cells := 0, slots := 0, locals := 89 }
set_option maxHeartbeats 4000000 in
set_option maxRecDepth 100000 in
theorem k_X11_grazes (l : Launch) (E : ET) (a : Nat → Nat) (o : Nat) (x : Model_t) (p1 : Int32) (p2 : Int32) (res : Int32 × (Nat → Int32) × Int32) (hF : f_X11_grazes x.1.1 x.2.2.2.1 p1 p2 = some res) (sz : Nat) : CtI l yX11_grazes (mws yX11_grazes cX11_grazes 7 (some .int)) rm_X11_grazes 0 0 [.ref (a o), .int p1, .int p2] E (bl_Model E a o x) res.1 (bl_Model E a o ((res.2.1, x.1.2.1, x.1.2.2.1, x.1.2.2.2.1, x.1.2.2.2.2), (x.2.1.1, x.2.1.2.1, x.2.1.2.2.1, x.2.1.2.2.2.1, x.2.1.2.2.2.2), (x.2.2.1.1, x.2.2.1.2.1, x.2.2.1.2.2.1, x.2.2.1.2.2.2), (res.2.2, x.2.2.2.2.1, x.2.2.2.2.2.1, x.2.2.2.2.2.2))) sz := by
  refine mk_M (by decide +kernel) (Nat.le_of_ble_eq_true rfl) ?_
  intro p e s m below meth c A args Q ls hAe hsz hQ hx hb hr hml hin ha hown hlocks hA hz hzs hst hP hD hS hl
  have hown : s.vm.findClass RX11 = some m.cls := hown
  rw [hAe] at hQ
  subst hsz
  have hP : va_P E.1 vwCl (List.flatten [w_Model E a o x]) s.heap := hP
  have hD : va_D A (List.flatten [w_Model E a o x]) := hD
  have hl : lv_has ls 7 [(0, .ref (a o)), (1, .int p1), (2, .int p2)] := hl
  generalize hHe : s.heap = H at hP
  have hS : va_S A s.heap H [] := by rw [← hHe]; exact hS
  generalize ([] : List Loc) = locs at hS ⊢
  unfold f_X11_grazes at hF
  refine lv_iload_n hx hb dX11_grazes_0 rfl (lv_at hl 1 rfl) ?_
  obtain ⟨q1, hq1, hF⟩ := q_bdi hF
  refine cl_i (Lc := []) (Lc' := []) (L' := [w_Model E a o x]) (rv := q1) (va_runS (As := [.int p1]) (rest := []) ⟨hx, hb, hml, hown, ha⟩ (k_X11_isHerd l E p1 q1 hq1 H.size) (cwS 1 ha (gi_S (fun _ h => h) mw1710 mw1711 mw87 mw1712) rfl rfl rfl hv_X11_isHerd ⟨(Nat.le_of_ble_eq_true rfl), (Nat.le_of_ble_eq_true rfl)⟩) ⟨pre_blind, pre_at hP hD hS hz hzs hst [] (by decide) rfl rfl⟩ rfl rfl hl.1 rfl (lv_room (Nat.le_of_ble_eq_true rfl)) dX11_grazes_1 ⟨(Nat.le_of_ble_eq_true rfl), (Nat.le_of_ble_eq_true rfl)⟩) hP hD hS hA [] (by decide) rfl rfl rfl rfl (fun H locs hP hD hS => ?_)
  refine lv_if_ne (tgt := 13) hx hb dX11_grazes_4 (by decide) (fun c4 => ?_) (fun c4 => ?_)
  · have hF := q_brn c4 hF
    refine lv_iload_n hx hb dX11_grazes_13 rfl (lv_at hl 2 rfl) ?_
    refine lv_iconst (v := 1) hx hb dX11_grazes_14 (by decide) ?_
    refine lv_bipush (v := 99) hx hb dX11_grazes_15 (by decide) ?_
    obtain ⟨q2, hq2, hF⟩ := q_bdi hF
    refine cl_i (Lc := []) (Lc' := []) (L' := [w_Model E a o x]) (rv := q2) (va_runS (As := [.int p2, .int 1, .int 99]) (rest := []) ⟨hx, hb, hml, hown, ha⟩ (k_X11_in l E p2 1 99 q2 hq2 H.size) (cwS 3 ha (gi_S (fun _ h => h) mw1713 mw1714 mw87 mw1715) rfl rfl rfl hv_X11_in ⟨(Nat.le_of_ble_eq_true rfl), (Nat.le_of_ble_eq_true rfl)⟩) ⟨pre_blind, pre_at hP hD hS hz hzs hst [] (by decide) rfl rfl⟩ rfl rfl hl.1 rfl (lv_room (Nat.le_of_ble_eq_true rfl)) dX11_grazes_17 ⟨(Nat.le_of_ble_eq_true rfl), (Nat.le_of_ble_eq_true rfl)⟩) hP hD hS hA [] (by decide) rfl rfl rfl rfl (fun H locs hP hD hS => ?_)
    refine lv_if_ne (tgt := 29) hx hb dX11_grazes_20 (by decide) (fun c20 => ?_) (fun c20 => ?_)
    · have hF := q_brn c20 hF
      refine lv_iconst (v := 0) hx hb dX11_grazes_29 (by decide) ?_
      refine lv_istore_n (lv' := [(3, .int 0), (0, .ref (a o)), (1, .int p1), (2, .int p2)]) hx hb dX11_grazes_30 rfl hl (by decide) rfl (fun ls hl => ?_)
      refine lv_iconst (v := 0) hx hb dX11_grazes_31 (by decide) ?_
      refine lv_istore (lv' := [(4, .int 0), (3, .int 0), (0, .ref (a o)), (1, .int p1), (2, .int p2)]) hx hb dX11_grazes_32 hl (by decide) rfl (fun ls hl => ?_)
      have key34 : ∀ (n : Nat) (i3 : Int32) (i4 : Int32) (i5 : (Nat → Int32)) (H : Heap) (locs : List Loc) (ls : Array Slot), f_X11_grazes_L34 x.2.2.2.1 p1 p2 n i3 i4 i5 = some res → va_P E.1 vwCl (List.flatten [w_Model E a o ((i5, x.1.2.1, x.1.2.2.1, x.1.2.2.2.1, x.1.2.2.2.2), (x.2.1.1, x.2.1.2.1, x.2.1.2.2.1, x.2.1.2.2.2.1, x.2.1.2.2.2.2), (x.2.2.1.1, x.2.2.1.2.1, x.2.2.1.2.2.1, x.2.2.1.2.2.2), (x.2.2.2.1, x.2.2.2.2.1, x.2.2.2.2.2.1, x.2.2.2.2.2.2))]) H → va_D A (List.flatten [w_Model E a o ((i5, x.1.2.1, x.1.2.2.1, x.1.2.2.2.1, x.1.2.2.2.2), (x.2.1.1, x.2.1.2.1, x.2.1.2.2.1, x.2.1.2.2.2.1, x.2.1.2.2.2.2), (x.2.2.1.1, x.2.2.1.2.1, x.2.2.1.2.2.1, x.2.2.1.2.2.2), (x.2.2.2.1, x.2.2.2.2.1, x.2.2.2.2.2.1, x.2.2.2.2.2.2))]) → va_S A s.heap H locs → lv_has ls 7 [(4, .int i3), (3, .int i4), (0, .ref (a o)), (1, .int p1), (2, .int p2)] → W p l e rm_X11_grazes s m args below meth c H locs 0 0 Q (F0 m 34 ls []) := by
        intro n34
        induction n34 with
        | zero => intro i3 i4 i5 H locs ls hF; exact absurd hF (by simp [f_X11_grazes_L34])
        | succ n34 ih34 =>
          intro i3 i4 i5 H locs ls hF hP hD hS hl
          rw [f_X11_grazes_L34] at hF
          refine lv_iload hx hb dX11_grazes_34 (lv_at hl 0 rfl) ?_
          refine lv_aload_n hx hb dX11_grazes_36 rfl (lv_at hl 2 rfl) ?_
          refine va_get (D := E.1) (ci := 13) (v := .ref (a (o + 1))) (C := RX11) (T := TX11) (N := 18) hx hb ha in_X11 hown hst.k hP 0 rfl rfl 0 (by decide) (ha _ mw1636) (fun _ h9 => h9) rfl dX11_grazes_37 ?_
          refine lv_iconst (v := 0) hx hb dX11_grazes_40 (by decide) ?_
          refine vi_iald hx hb hst.k hP 1 0 rfl rfl (f := i5) (k := 0) (by decide) (by decide) dX11_grazes_41 ?_
          refine lv_icmp_ge (tgt := 134) hx hb dX11_grazes_42 (by decide) (fun c42 => ?_) (fun c42 => ?_)
          · have hF := q_brp c42 hF
            refine lv_aload_n hx hb dX11_grazes_134 rfl (lv_at hl 2 rfl) ?_
            refine lv_iload_n hx hb dX11_grazes_135 rfl (lv_at hl 1 rfl) ?_
            obtain ⟨q6, hq6, hF⟩ := q_bdi hF
            refine cl_i (Lc := [w_Model E a o ((i5, x.1.2.1, x.1.2.2.1, x.1.2.2.2.1, x.1.2.2.2.2), (x.2.1.1, x.2.1.2.1, x.2.1.2.2.1, x.2.1.2.2.2.1, x.2.1.2.2.2.2), (x.2.2.1.1, x.2.2.1.2.1, x.2.2.1.2.2.1, x.2.2.1.2.2.2), (x.2.2.2.1, x.2.2.2.2.1, x.2.2.2.2.2.1, x.2.2.2.2.2.2))]) (Lc' := [w_Model E a o ((i5, x.1.2.1, x.1.2.2.1, x.1.2.2.2.1, x.1.2.2.2.2), (x.2.1.1, x.2.1.2.1, x.2.1.2.2.1, x.2.1.2.2.2.1, x.2.1.2.2.2.2), (x.2.2.1.1, x.2.2.1.2.1, x.2.2.1.2.2.1, x.2.2.1.2.2.2), (q6.2, x.2.2.2.2.1, x.2.2.2.2.2.1, x.2.2.2.2.2.2))]) (L' := [w_Model E a o ((i5, x.1.2.1, x.1.2.2.1, x.1.2.2.2.1, x.1.2.2.2.2), (x.2.1.1, x.2.1.2.1, x.2.1.2.2.1, x.2.1.2.2.2.1, x.2.1.2.2.2.2), (x.2.2.1.1, x.2.2.1.2.1, x.2.2.1.2.2.1, x.2.2.1.2.2.2), (q6.2, x.2.2.2.2.1, x.2.2.2.2.2.1, x.2.2.2.2.2.2))]) (rv := q6.1) (va_runV (As := [.int i4]) (rest := []) ⟨hx, hb, hml, hown, ha⟩ (k_X11_done l E a o ((i5, x.1.2.1, x.1.2.2.1, x.1.2.2.2.1, x.1.2.2.2.2), (x.2.1.1, x.2.1.2.1, x.2.1.2.2.1, x.2.1.2.2.2.1, x.2.1.2.2.2.2), (x.2.2.1.1, x.2.2.1.2.1, x.2.2.1.2.2.1, x.2.2.1.2.2.2), (x.2.2.2.1, x.2.2.2.2.1, x.2.2.2.2.2.1, x.2.2.2.2.2.2)) i4 q6 hq6 H.size) (cwV 1 ha (gi_V (fun _ h => h) mw1720 mw1722 mw30 mw87 mw1723) rfl rfl rfl hv_X11_done ⟨(Nat.le_of_ble_eq_true rfl), (Nat.le_of_ble_eq_true rfl)⟩) ⟨pre_blind, va_recv hst.k (fr_P hP [0] rfl) (ci := 13) (q0 := 0) rfl rfl, pre_at hP hD hS hz hzs hst [0] (by decide) rfl rfl⟩ rfl rfl hl.1 rfl (lv_room (Nat.le_of_ble_eq_true rfl)) dX11_grazes_136 ⟨(Nat.le_of_ble_eq_true rfl), (Nat.le_of_ble_eq_true rfl)⟩) hP hD hS hA [0] (by decide) rfl rfl rfl rfl (fun H locs hP hD hS => ?_)
            obtain rfl := Option.some.inj hF
            exact en_i hQ (Nat.le_of_ble_eq_true rfl) (Nat.le_of_ble_eq_true rfl) hx hb hr hlocks hP hD hS rfl dX11_grazes_139
          · have hF := q_brn c42 hF
            refine lv_aload_n hx hb dX11_grazes_45 rfl (lv_at hl 2 rfl) ?_
            refine va_get (D := E.1) (ci := 13) (v := .ref (a (o + 1))) (C := RX11) (T := TX11) (N := 18) hx hb ha in_X11 hown hst.k hP 0 rfl rfl 0 (by decide) (ha _ mw1636) (fun _ h9 => h9) rfl dX11_grazes_46 ?_
            refine lv_iconst (v := 5) hx hb dX11_grazes_49 (by decide) ?_
            refine lv_iload hx hb dX11_grazes_50 (lv_at hl 0 rfl) ?_
            refine lv_iadd hx hb dX11_grazes_52 ?_
            obtain ⟨g7, hF⟩ := q_gdi hF
            refine vi_iald hx hb hst.k hP 1 0 rfl rfl (f := i5) (k := (5 + i3).toNatClampNeg) rfl g7 dX11_grazes_53 ?_
            refine lv_iload_n hx hb dX11_grazes_54 rfl (lv_at hl 3 rfl) ?_
            obtain ⟨J128, hJ128, hF⟩ := q_jn hF
            have jJ128 : ∀ (j8 : Int32) (j9 : (Nat → Int32)), ∀ (H : Heap) (locs : List Loc) (ls : Array Slot), J128 j8 j9 = some res → va_P E.1 vwCl (List.flatten [w_Model E a o ((j9, x.1.2.1, x.1.2.2.1, x.1.2.2.2.1, x.1.2.2.2.2), (x.2.1.1, x.2.1.2.1, x.2.1.2.2.1, x.2.1.2.2.2.1, x.2.1.2.2.2.2), (x.2.2.1.1, x.2.2.1.2.1, x.2.2.1.2.2.1, x.2.2.1.2.2.2), (x.2.2.2.1, x.2.2.2.2.1, x.2.2.2.2.2.1, x.2.2.2.2.2.2))]) H → va_D A (List.flatten [w_Model E a o ((j9, x.1.2.1, x.1.2.2.1, x.1.2.2.2.1, x.1.2.2.2.2), (x.2.1.1, x.2.1.2.1, x.2.1.2.2.1, x.2.1.2.2.2.1, x.2.1.2.2.2.2), (x.2.2.1.1, x.2.2.1.2.1, x.2.2.1.2.2.1, x.2.2.1.2.2.2), (x.2.2.2.1, x.2.2.2.2.1, x.2.2.2.2.2.1, x.2.2.2.2.2.2))]) → va_S A s.heap H locs → lv_has ls 7 [(4, .int i3), (3, .int j8), (0, .ref (a o)), (1, .int p1), (2, .int p2)] → W p l e rm_X11_grazes s m args below meth c H locs 0 0 Q (F0 m 128 ls []) := by
              intro j8 j9 H locs ls hF hP hD hS hl
              rw [hJ128] at hF
              obtain ⟨v10, ev10⟩ : ∃ y : Int32, y = i3 + 1 := ⟨_, rfl⟩
              have hF := q_lti ev10 hF
              refine lv_iinc (v := v10) (lv' := [(4, .int v10), (3, .int j8), (0, .ref (a o)), (1, .int p1), (2, .int p2)]) hx hb dX11_grazes_128 hl (k := 0) rfl (by rw [ev10]; rfl) (by decide) rfl (fun ls hl => ?_)
              refine lv_goto (tgt := 34) hx hb dX11_grazes_131 (by decide) ?_
              exact ih34 v10 j8 j9 H locs ls hF hP hD hS (lv_sub hl [0, 1, 2, 3, 4] rfl)
            refine lv_icmp_ne (tgt := 128) hx hb dX11_grazes_55 (by decide) (fun c55 => ?_) (fun c55 => ?_)
            · have hF := q_brn c55 hF
              exact jJ128 i4 i5 H locs ls hF hP hD hS (lv_sub hl [0, 1, 2, 3, 4] rfl)
            · have hF := q_brp c55 hF
              refine lv_aload_n hx hb dX11_grazes_58 rfl (lv_at hl 2 rfl) ?_
              refine lv_iload hx hb dX11_grazes_59 (lv_at hl 0 rfl) ?_
              obtain ⟨q11, hq11, hF⟩ := q_bdi hF
              refine cl_i (Lc := [w_Model E a o ((i5, x.1.2.1, x.1.2.2.1, x.1.2.2.2.1, x.1.2.2.2.2), (x.2.1.1, x.2.1.2.1, x.2.1.2.2.1, x.2.1.2.2.2.1, x.2.1.2.2.2.2), (x.2.2.1.1, x.2.2.1.2.1, x.2.2.1.2.2.1, x.2.2.1.2.2.2), (x.2.2.2.1, x.2.2.2.2.1, x.2.2.2.2.2.1, x.2.2.2.2.2.2))]) (Lc' := [w_Model E a o ((i5, x.1.2.1, x.1.2.2.1, x.1.2.2.2.1, x.1.2.2.2.2), (x.2.1.1, x.2.1.2.1, x.2.1.2.2.1, x.2.1.2.2.2.1, x.2.1.2.2.2.2), (x.2.2.1.1, x.2.2.1.2.1, x.2.2.1.2.2.1, x.2.2.1.2.2.2), (x.2.2.2.1, x.2.2.2.2.1, x.2.2.2.2.2.1, x.2.2.2.2.2.2))]) (L' := [w_Model E a o ((i5, x.1.2.1, x.1.2.2.1, x.1.2.2.2.1, x.1.2.2.2.2), (x.2.1.1, x.2.1.2.1, x.2.1.2.2.1, x.2.1.2.2.2.1, x.2.1.2.2.2.2), (x.2.2.1.1, x.2.2.1.2.1, x.2.2.1.2.2.1, x.2.2.1.2.2.2), (x.2.2.2.1, x.2.2.2.2.1, x.2.2.2.2.2.1, x.2.2.2.2.2.2))]) (rv := q11) (va_runV (As := [.int i3]) (rest := []) ⟨hx, hb, hml, hown, ha⟩ (k_X11_isKeyed l E a o ((i5, x.1.2.1, x.1.2.2.1, x.1.2.2.2.1, x.1.2.2.2.2), (x.2.1.1, x.2.1.2.1, x.2.1.2.2.1, x.2.1.2.2.2.1, x.2.1.2.2.2.2), (x.2.2.1.1, x.2.2.1.2.1, x.2.2.1.2.2.1, x.2.2.1.2.2.2), (x.2.2.2.1, x.2.2.2.2.1, x.2.2.2.2.2.1, x.2.2.2.2.2.2)) i3 q11 hq11 H.size) (cwV 1 ha (gi_V (fun _ h => h) mw1768 mw1770 mw38 mw87 mw1771) rfl rfl rfl hv_X11_isKeyed ⟨(Nat.le_of_ble_eq_true rfl), (Nat.le_of_ble_eq_true rfl)⟩) ⟨pre_blind, va_recv hst.k (fr_P hP [0] rfl) (ci := 13) (q0 := 0) rfl rfl, pre_at hP hD hS hz hzs hst [0] (by decide) rfl rfl⟩ rfl rfl hl.1 rfl (lv_room (Nat.le_of_ble_eq_true rfl)) dX11_grazes_61 ⟨(Nat.le_of_ble_eq_true rfl), (Nat.le_of_ble_eq_true rfl)⟩) hP hD hS hA [0] (by decide) rfl rfl rfl rfl (fun H locs hP hD hS => ?_)
              refine lv_istore (lv' := [(5, .int q11), (4, .int i3), (3, .int i4), (0, .ref (a o)), (1, .int p1), (2, .int p2)]) hx hb dX11_grazes_64 hl (by decide) rfl (fun ls hl => ?_)
              refine lv_aload_n hx hb dX11_grazes_66 rfl (lv_at hl 3 rfl) ?_
              refine va_get (D := E.1) (ci := 13) (v := .ref (a (o + 1))) (C := RX11) (T := TX11) (N := 18) hx hb ha in_X11 hown hst.k hP 0 rfl rfl 0 (by decide) (ha _ mw1636) (fun _ h9 => h9) rfl dX11_grazes_67 ?_
              refine lv_bipush (v := 17) hx hb dX11_grazes_70 (by decide) ?_
              refine lv_iload hx hb dX11_grazes_72 (lv_at hl 1 rfl) ?_
              refine lv_iadd hx hb dX11_grazes_74 ?_
              obtain ⟨g12, hF⟩ := q_gdi hF
              refine vi_iald hx hb hst.k hP 1 0 rfl rfl (f := i5) (k := (17 + i3).toNatClampNeg) rfl g12 dX11_grazes_75 ?_
              refine lv_iload_n hx hb dX11_grazes_76 rfl (lv_at hl 5 rfl) ?_
              refine lv_isub hx hb dX11_grazes_77 ?_
              refine lv_topi (fun v13 ev13 => ?_)
              have hF := q_lti ev13 hF
              refine lv_istore (lv' := [(6, .int v13), (5, .int q11), (4, .int i3), (3, .int i4), (0, .ref (a o)), (1, .int p1), (2, .int p2)]) hx hb dX11_grazes_78 hl (by decide) rfl (fun ls hl => ?_)
              refine lv_aload_n hx hb dX11_grazes_80 rfl (lv_at hl 4 rfl) ?_
              refine va_get (D := E.1) (ci := 13) (v := .ref (a (o + 1))) (C := RX11) (T := TX11) (N := 18) hx hb ha in_X11 hown hst.k hP 0 rfl rfl 0 (by decide) (ha _ mw1636) (fun _ h9 => h9) rfl dX11_grazes_81 ?_
              refine lv_bipush (v := 17) hx hb dX11_grazes_84 (by decide) ?_
              refine lv_iload hx hb dX11_grazes_86 (lv_at hl 2 rfl) ?_
              refine lv_iadd hx hb dX11_grazes_88 ?_
              refine lv_iload hx hb dX11_grazes_89 (lv_at hl 0 rfl) ?_
              refine lv_sipush (v := 3600) hx hb dX11_grazes_91 (by decide) ?_
              obtain ⟨J105, hJ105, hF⟩ := q_jn hF
              have jJ105 : ∀ (j14 : Int32), ∀ (H : Heap) (locs : List Loc) (ls : Array Slot), J105 j14 = some res → va_P E.1 vwCl (List.flatten [w_Model E a o ((i5, x.1.2.1, x.1.2.2.1, x.1.2.2.2.1, x.1.2.2.2.2), (x.2.1.1, x.2.1.2.1, x.2.1.2.2.1, x.2.1.2.2.2.1, x.2.1.2.2.2.2), (x.2.2.1.1, x.2.2.1.2.1, x.2.2.1.2.2.1, x.2.2.1.2.2.2), (x.2.2.2.1, x.2.2.2.2.1, x.2.2.2.2.2.1, x.2.2.2.2.2.2))]) H → va_D A (List.flatten [w_Model E a o ((i5, x.1.2.1, x.1.2.2.1, x.1.2.2.2.1, x.1.2.2.2.2), (x.2.1.1, x.2.1.2.1, x.2.1.2.2.1, x.2.1.2.2.2.1, x.2.1.2.2.2.2), (x.2.2.1.1, x.2.2.1.2.1, x.2.2.1.2.2.1, x.2.2.1.2.2.2), (x.2.2.2.1, x.2.2.2.2.1, x.2.2.2.2.2.1, x.2.2.2.2.2.2))]) → va_S A s.heap H locs → lv_has ls 7 [(5, .int q11), (4, .int i3), (3, .int i4), (0, .ref (a o)), (1, .int p1), (2, .int p2)] → W p l e rm_X11_grazes s m args below meth c H locs 0 0 Q (F0 m 105 ls [.int j14, .int (17 + i3), .ref (a (o + 1))]) := by
                intro j14 H locs ls hF hP hD hS hl
                rw [hJ105] at hF
                obtain ⟨g15, hF⟩ := q_gdi hF
                refine vj_iast hx hb hst.k hP hD hS 1 0 rfl rfl (f := i5) (k := (17 + i3).toNatClampNeg) rfl g15 dX11_grazes_105 (fun u16 eu16 H locs hP hD hS => ?_)
                have hF := q_lti eu16 hF
                have hP : va_P E.1 vwCl (List.flatten [w_Model E a o ((u16, x.1.2.1, x.1.2.2.1, x.1.2.2.2.1, x.1.2.2.2.2), (x.2.1.1, x.2.1.2.1, x.2.1.2.2.1, x.2.1.2.2.2.1, x.2.1.2.2.2.2), (x.2.2.1.1, x.2.2.1.2.1, x.2.2.1.2.2.1, x.2.2.1.2.2.2), (x.2.2.2.1, x.2.2.2.2.1, x.2.2.2.2.2.1, x.2.2.2.2.2.2))]) H := hP
                have hD : va_D A (List.flatten [w_Model E a o ((u16, x.1.2.1, x.1.2.2.1, x.1.2.2.2.1, x.1.2.2.2.2), (x.2.1.1, x.2.1.2.1, x.2.1.2.2.1, x.2.1.2.2.2.1, x.2.1.2.2.2.2), (x.2.2.1.1, x.2.2.1.2.1, x.2.2.1.2.2.1, x.2.2.1.2.2.2), (x.2.2.2.1, x.2.2.2.2.1, x.2.2.2.2.2.1, x.2.2.2.2.2.2))]) := hD
                refine lv_iload_n hx hb dX11_grazes_106 rfl (lv_at hl 2 rfl) ?_
                refine lv_iload hx hb dX11_grazes_107 (lv_at hl 0 rfl) ?_
                obtain ⟨J126, hJ126, hF⟩ := q_jn hF
                have jJ126 : ∀ (j17 : Int32), ∀ (H : Heap) (locs : List Loc) (ls : Array Slot), J126 j17 = some res → va_P E.1 vwCl (List.flatten [w_Model E a o ((u16, x.1.2.1, x.1.2.2.1, x.1.2.2.2.1, x.1.2.2.2.2), (x.2.1.1, x.2.1.2.1, x.2.1.2.2.1, x.2.1.2.2.2.1, x.2.1.2.2.2.2), (x.2.2.1.1, x.2.2.1.2.1, x.2.2.1.2.2.1, x.2.2.1.2.2.2), (x.2.2.2.1, x.2.2.2.2.1, x.2.2.2.2.2.1, x.2.2.2.2.2.2))]) H → va_D A (List.flatten [w_Model E a o ((u16, x.1.2.1, x.1.2.2.1, x.1.2.2.2.1, x.1.2.2.2.2), (x.2.1.1, x.2.1.2.1, x.2.1.2.2.1, x.2.1.2.2.2.1, x.2.1.2.2.2.2), (x.2.2.1.1, x.2.2.1.2.1, x.2.2.1.2.2.1, x.2.2.1.2.2.2), (x.2.2.2.1, x.2.2.2.2.1, x.2.2.2.2.2.1, x.2.2.2.2.2.2))]) → va_S A s.heap H locs → lv_has ls 7 [(4, .int i3), (0, .ref (a o)), (1, .int p1), (2, .int p2)] → W p l e rm_X11_grazes s m args below meth c H locs 0 0 Q (F0 m 126 ls [.int j17, .int i4]) := by
                  intro j17 H locs ls hF hP hD hS hl
                  rw [hJ126] at hF
                  refine lv_iadd hx hb dX11_grazes_126 ?_
                  refine lv_topi (fun v18 ev18 => ?_)
                  have hF := q_lti ev18 hF
                  refine lv_istore_n (lv' := [(3, .int v18), (4, .int i3), (0, .ref (a o)), (1, .int p1), (2, .int p2)]) hx hb dX11_grazes_127 rfl hl (by decide) rfl (fun ls hl => ?_)
                  exact jJ128 v18 u16 H locs ls hF hP hD hS (lv_sub hl [1, 0, 2, 3, 4] rfl)
                refine lv_if_eq (tgt := 125) hx hb dX11_grazes_109 (by decide) (fun c109 => ?_) (fun c109 => ?_)
                · have hF := q_brp c109 hF
                  refine lv_iconst (v := 0) hx hb dX11_grazes_125 (by decide) ?_
                  exact jJ126 0 H locs ls hF hP hD hS (lv_sub hl [1, 3, 4, 5] rfl)
                · have hF := q_brn c109 hF
                  refine lv_aload_n hx hb dX11_grazes_112 rfl (lv_at hl 3 rfl) ?_
                  refine lv_iload hx hb dX11_grazes_113 (lv_at hl 1 rfl) ?_
                  obtain ⟨q19, hq19, hF⟩ := q_bdi hF
                  refine cl_i (Lc := [w_Model E a o ((u16, x.1.2.1, x.1.2.2.1, x.1.2.2.2.1, x.1.2.2.2.2), (x.2.1.1, x.2.1.2.1, x.2.1.2.2.1, x.2.1.2.2.2.1, x.2.1.2.2.2.2), (x.2.2.1.1, x.2.2.1.2.1, x.2.2.1.2.2.1, x.2.2.1.2.2.2), (x.2.2.2.1, x.2.2.2.2.1, x.2.2.2.2.2.1, x.2.2.2.2.2.2))]) (Lc' := [w_Model E a o ((u16, x.1.2.1, x.1.2.2.1, x.1.2.2.2.1, x.1.2.2.2.2), (x.2.1.1, x.2.1.2.1, x.2.1.2.2.1, x.2.1.2.2.2.1, x.2.1.2.2.2.2), (x.2.2.1.1, x.2.2.1.2.1, x.2.2.1.2.2.1, x.2.2.1.2.2.2), (x.2.2.2.1, x.2.2.2.2.1, x.2.2.2.2.2.1, x.2.2.2.2.2.2))]) (L' := [w_Model E a o ((u16, x.1.2.1, x.1.2.2.1, x.1.2.2.2.1, x.1.2.2.2.2), (x.2.1.1, x.2.1.2.1, x.2.1.2.2.1, x.2.1.2.2.2.1, x.2.1.2.2.2.2), (x.2.2.1.1, x.2.2.1.2.1, x.2.2.1.2.2.1, x.2.2.1.2.2.2), (x.2.2.2.1, x.2.2.2.2.1, x.2.2.2.2.2.1, x.2.2.2.2.2.2))]) (rv := q19) (va_runV (As := [.int i3]) (rest := [.int i4]) ⟨hx, hb, hml, hown, ha⟩ (k_X11_isKeyed l E a o ((u16, x.1.2.1, x.1.2.2.1, x.1.2.2.2.1, x.1.2.2.2.2), (x.2.1.1, x.2.1.2.1, x.2.1.2.2.1, x.2.1.2.2.2.1, x.2.1.2.2.2.2), (x.2.2.1.1, x.2.2.1.2.1, x.2.2.1.2.2.1, x.2.2.1.2.2.2), (x.2.2.2.1, x.2.2.2.2.1, x.2.2.2.2.2.1, x.2.2.2.2.2.2)) i3 q19 hq19 H.size) (cwV 1 ha (gi_V (fun _ h => h) mw1768 mw1770 mw38 mw87 mw1771) rfl rfl rfl hv_X11_isKeyed ⟨(Nat.le_of_ble_eq_true rfl), (Nat.le_of_ble_eq_true rfl)⟩) ⟨pre_blind, va_recv hst.k (fr_P hP [0] rfl) (ci := 13) (q0 := 0) rfl rfl, pre_at hP hD hS hz hzs hst [0] (by decide) rfl rfl⟩ rfl rfl hl.1 rfl (lv_room (Nat.le_of_ble_eq_true rfl)) dX11_grazes_115 ⟨(Nat.le_of_ble_eq_true rfl), (Nat.le_of_ble_eq_true rfl)⟩) hP hD hS hA [0] (by decide) rfl rfl rfl rfl (fun H locs hP hD hS => ?_)
                  refine lv_if_ne (tgt := 125) hx hb dX11_grazes_118 (by decide) (fun c118 => ?_) (fun c118 => ?_)
                  · have hF := q_brn c118 hF
                    refine lv_iconst (v := 0) hx hb dX11_grazes_125 (by decide) ?_
                    exact jJ126 0 H locs ls hF hP hD hS (lv_sub hl [1, 3, 4, 5] rfl)
                  · have hF := q_brp c118 hF
                    refine lv_iconst (v := 1) hx hb dX11_grazes_121 (by decide) ?_
                    refine lv_goto (tgt := 126) hx hb dX11_grazes_122 (by decide) ?_
                    exact jJ126 1 H locs ls hF hP hD hS (lv_sub hl [1, 3, 4, 5] rfl)
              refine lv_icmp_ge (tgt := 103) hx hb dX11_grazes_94 (by decide) (fun c94 => ?_) (fun c94 => ?_)
              · have hF := q_brp c94 hF
                refine lv_iload hx hb dX11_grazes_103 (lv_at hl 0 rfl) ?_
                exact jJ105 v13 H locs ls hF hP hD hS (lv_sub hl [1, 2, 3, 4, 5, 6] rfl)
              · have hF := q_brn c94 hF
                refine lv_sipush (v := 3600) hx hb dX11_grazes_97 (by decide) ?_
                refine lv_goto (tgt := 105) hx hb dX11_grazes_100 (by decide) ?_
                exact jJ105 3600 H locs ls hF hP hD hS (lv_sub hl [1, 2, 3, 4, 5, 6] rfl)
      exact key34 _ 0 0 x.1.1 H locs ls hF hP hD hS (lv_sub hl [0, 1, 2, 3, 4] rfl)
    · have hF := q_brp c20 hF
      refine lv_aload_n hx hb dX11_grazes_23 rfl (lv_at hl 0 rfl) ?_
      refine lv_iconst (v := 2) hx hb dX11_grazes_24 (by decide) ?_
      obtain ⟨q20, hq20, hF⟩ := q_bdi hF
      refine cl_i (Lc := [w_Model E a o x]) (Lc' := [w_Model E a o ((x.1.1, x.1.2.1, x.1.2.2.1, x.1.2.2.2.1, x.1.2.2.2.2), (x.2.1.1, x.2.1.2.1, x.2.1.2.2.1, x.2.1.2.2.2.1, x.2.1.2.2.2.2), (x.2.2.1.1, x.2.2.1.2.1, x.2.2.1.2.2.1, x.2.2.1.2.2.2), (q20.2, x.2.2.2.2.1, x.2.2.2.2.2.1, x.2.2.2.2.2.2))]) (L' := [w_Model E a o ((x.1.1, x.1.2.1, x.1.2.2.1, x.1.2.2.2.1, x.1.2.2.2.2), (x.2.1.1, x.2.1.2.1, x.2.1.2.2.1, x.2.1.2.2.2.1, x.2.1.2.2.2.2), (x.2.2.1.1, x.2.2.1.2.1, x.2.2.1.2.2.1, x.2.2.1.2.2.2), (q20.2, x.2.2.2.2.1, x.2.2.2.2.2.1, x.2.2.2.2.2.2))]) (rv := q20.1) (va_runV (As := [.int 2]) (rest := []) ⟨hx, hb, hml, hown, ha⟩ (k_X11_fails l E a o x 2 q20 hq20 H.size) (cwV 1 ha (gi_V (fun _ h => h) mw1716 mw1718 mw29 mw87 mw1719) rfl rfl rfl hv_X11_fails ⟨(Nat.le_of_ble_eq_true rfl), (Nat.le_of_ble_eq_true rfl)⟩) ⟨pre_blind, va_recv hst.k (fr_P hP [0] rfl) (ci := 13) (q0 := 0) rfl rfl, pre_at hP hD hS hz hzs hst [0] (by decide) rfl rfl⟩ rfl rfl hl.1 rfl (lv_room (Nat.le_of_ble_eq_true rfl)) dX11_grazes_25 ⟨(Nat.le_of_ble_eq_true rfl), (Nat.le_of_ble_eq_true rfl)⟩) hP hD hS hA [0] (by decide) rfl rfl rfl rfl (fun H locs hP hD hS => ?_)
      obtain rfl := Option.some.inj hF
      exact en_i hQ (Nat.le_of_ble_eq_true rfl) (Nat.le_of_ble_eq_true rfl) hx hb hr hlocks hP hD hS rfl dX11_grazes_28
  · have hF := q_brp c4 hF
    refine lv_aload_n hx hb dX11_grazes_7 rfl (lv_at hl 0 rfl) ?_
    refine lv_iconst (v := 1) hx hb dX11_grazes_8 (by decide) ?_
    obtain ⟨q21, hq21, hF⟩ := q_bdi hF
    refine cl_i (Lc := [w_Model E a o x]) (Lc' := [w_Model E a o ((x.1.1, x.1.2.1, x.1.2.2.1, x.1.2.2.2.1, x.1.2.2.2.2), (x.2.1.1, x.2.1.2.1, x.2.1.2.2.1, x.2.1.2.2.2.1, x.2.1.2.2.2.2), (x.2.2.1.1, x.2.2.1.2.1, x.2.2.1.2.2.1, x.2.2.1.2.2.2), (q21.2, x.2.2.2.2.1, x.2.2.2.2.2.1, x.2.2.2.2.2.2))]) (L' := [w_Model E a o ((x.1.1, x.1.2.1, x.1.2.2.1, x.1.2.2.2.1, x.1.2.2.2.2), (x.2.1.1, x.2.1.2.1, x.2.1.2.2.1, x.2.1.2.2.2.1, x.2.1.2.2.2.2), (x.2.2.1.1, x.2.2.1.2.1, x.2.2.1.2.2.1, x.2.2.1.2.2.2), (q21.2, x.2.2.2.2.1, x.2.2.2.2.2.1, x.2.2.2.2.2.2))]) (rv := q21.1) (va_runV (As := [.int 1]) (rest := []) ⟨hx, hb, hml, hown, ha⟩ (k_X11_fails l E a o x 1 q21 hq21 H.size) (cwV 1 ha (gi_V (fun _ h => h) mw1716 mw1718 mw29 mw87 mw1719) rfl rfl rfl hv_X11_fails ⟨(Nat.le_of_ble_eq_true rfl), (Nat.le_of_ble_eq_true rfl)⟩) ⟨pre_blind, va_recv hst.k (fr_P hP [0] rfl) (ci := 13) (q0 := 0) rfl rfl, pre_at hP hD hS hz hzs hst [0] (by decide) rfl rfl⟩ rfl rfl hl.1 rfl (lv_room (Nat.le_of_ble_eq_true rfl)) dX11_grazes_9 ⟨(Nat.le_of_ble_eq_true rfl), (Nat.le_of_ble_eq_true rfl)⟩) hP hD hS hA [0] (by decide) rfl rfl rfl rfl (fun H locs hP hD hS => ?_)
    obtain rfl := Option.some.inj hF
    exact en_i hQ (Nat.le_of_ble_eq_true rfl) (Nat.le_of_ble_eq_true rfl) hx hb hr hlocks hP hD hS rfl dX11_grazes_12

/-! X11_keys -/
theorem dX11_keys_0 : decode cX11_keys 0 = .ok (.iload_n 1, 1) := by decide +kernel
theorem dX11_keys_1 : decode cX11_keys 1 = .ok (.iconst 0, 1) := by decide +kernel
theorem dX11_keys_2 : decode cX11_keys 2 = .ok (.bipush 11, 2) := by decide +kernel
theorem dX11_keys_4 : decode cX11_keys 4 = .ok (.invokestatic 52, 3) := by decide +kernel
theorem dX11_keys_7 : decode cX11_keys 7 = .ok (.ifCond .ne 9, 3) := by decide +kernel
theorem dX11_keys_10 : decode cX11_keys 10 = .ok (.aload_n 0, 1) := by decide +kernel
theorem dX11_keys_11 : decode cX11_keys 11 = .ok (.iconst 1, 1) := by decide +kernel
theorem dX11_keys_12 : decode cX11_keys 12 = .ok (.invokevirtual 80, 3) := by decide +kernel
theorem dX11_keys_15 : decode cX11_keys 15 = .ok (.ireturn, 1) := by decide +kernel
theorem dX11_keys_16 : decode cX11_keys 16 = .ok (.aload_n 0, 1) := by decide +kernel
theorem dX11_keys_17 : decode cX11_keys 17 = .ok (.getfield 7, 3) := by decide +kernel
theorem dX11_keys_20 : decode cX11_keys 20 = .ok (.iconst 2, 1) := by decide +kernel
theorem dX11_keys_21 : decode cX11_keys 21 = .ok (.iload_n 1, 1) := by decide +kernel
theorem dX11_keys_22 : decode cX11_keys 22 = .ok (.iastore, 1) := by decide +kernel
theorem dX11_keys_23 : decode cX11_keys 23 = .ok (.aload_n 0, 1) := by decide +kernel
theorem dX11_keys_24 : decode cX11_keys 24 = .ok (.getfield 7, 3) := by decide +kernel
theorem dX11_keys_27 : decode cX11_keys 27 = .ok (.iconst 3, 1) := by decide +kernel
theorem dX11_keys_28 : decode cX11_keys 28 = .ok (.iload_n 2, 1) := by decide +kernel
theorem dX11_keys_29 : decode cX11_keys 29 = .ok (.iastore, 1) := by decide +kernel
theorem dX11_keys_30 : decode cX11_keys 30 = .ok (.aload_n 0, 1) := by decide +kernel
theorem dX11_keys_31 : decode cX11_keys 31 = .ok (.aload_n 0, 1) := by decide +kernel
theorem dX11_keys_32 : decode cX11_keys 32 = .ok (.iload_n 1, 1) := by decide +kernel
theorem dX11_keys_33 : decode cX11_keys 33 = .ok (.iload_n 2, 1) := by decide +kernel
theorem dX11_keys_34 : decode cX11_keys 34 = .ok (.invokevirtual 117, 3) := by decide +kernel
theorem dX11_keys_37 : decode cX11_keys 37 = .ok (.invokevirtual 83, 3) := by decide +kernel
theorem dX11_keys_40 : decode cX11_keys 40 = .ok (.ireturn, 1) := by decide +kernel
def f_X11_keys (x_g : (Nat → Int32)) (x_thrown : Int32) (p1 : Int32) (p2 : Int32) : Option (Int32 × (Nat → Int32) × Int32) :=
  q_bd (f_X11_in p1 0 11) (fun q1 =>
  q_br (q1 = 0) (
  q_bd (f_X11_fails x_thrown 1) (fun q6 =>
  some (q6.1, x_g, q6.2))) (
  q_lt (upd x_g 2 p1) (fun u2 =>
  q_lt (upd u2 3 p2) (fun u3 =>
  q_bd (f_X11_keyed u3 p1 p2) (fun q4 =>
  q_bd (f_X11_done x_thrown q4) (fun q5 =>
  some (q5.1, u3, q5.2)))))))
theorem hv_X11_keys : yX11_keys.cls = RX11 ∧ yX11_keys.cls ≠ "java/lang/invoke/MethodHandle" ∧ yX11_keys.cls ≠ "java/lang/invoke/VarHandle" ∧ (parseMethodDescriptor yX11_keys.desc).map (fun d => d.parameters.length) = some 2 := by decide +kernel
abbrev rm_X11_keys : Room := { frames := 4, cells := 0, slots := 0, locals := 92 }
set_option maxHeartbeats 4000000 in
set_option maxRecDepth 100000 in
theorem k_X11_keys (l : Launch) (E : ET) (a : Nat → Nat) (o : Nat) (x : Model_t) (p1 : Int32) (p2 : Int32) (res : Int32 × (Nat → Int32) × Int32) (hF : f_X11_keys x.1.1 x.2.2.2.1 p1 p2 = some res) (sz : Nat) : CtI l yX11_keys (mws yX11_keys cX11_keys 3 (some .int)) rm_X11_keys 0 0 [.ref (a o), .int p1, .int p2] E (bl_Model E a o x) res.1 (bl_Model E a o ((res.2.1, x.1.2.1, x.1.2.2.1, x.1.2.2.2.1, x.1.2.2.2.2), (x.2.1.1, x.2.1.2.1, x.2.1.2.2.1, x.2.1.2.2.2.1, x.2.1.2.2.2.2), (x.2.2.1.1, x.2.2.1.2.1, x.2.2.1.2.2.1, x.2.2.1.2.2.2), (res.2.2, x.2.2.2.2.1, x.2.2.2.2.2.1, x.2.2.2.2.2.2))) sz := by
  refine mk_M (by decide +kernel) (Nat.le_of_ble_eq_true rfl) ?_
  intro p e s m below meth c A args Q ls hAe hsz hQ hx hb hr hml hin ha hown hlocks hA hz hzs hst hP hD hS hl
  have hown : s.vm.findClass RX11 = some m.cls := hown
  rw [hAe] at hQ
  subst hsz
  have hP : va_P E.1 vwCl (List.flatten [w_Model E a o x]) s.heap := hP
  have hD : va_D A (List.flatten [w_Model E a o x]) := hD
  have hl : lv_has ls 3 [(0, .ref (a o)), (1, .int p1), (2, .int p2)] := hl
  generalize hHe : s.heap = H at hP
  have hS : va_S A s.heap H [] := by rw [← hHe]; exact hS
  generalize ([] : List Loc) = locs at hS ⊢
  unfold f_X11_keys at hF
  refine lv_iload_n hx hb dX11_keys_0 rfl (lv_at hl 1 rfl) ?_
  refine lv_iconst (v := 0) hx hb dX11_keys_1 (by decide) ?_
  refine lv_bipush (v := 11) hx hb dX11_keys_2 (by decide) ?_
  obtain ⟨q1, hq1, hF⟩ := q_bdi hF
  refine cl_i (Lc := []) (Lc' := []) (L' := [w_Model E a o x]) (rv := q1) (va_runS (As := [.int p1, .int 0, .int 11]) (rest := []) ⟨hx, hb, hml, hown, ha⟩ (k_X11_in l E p1 0 11 q1 hq1 H.size) (cwS 3 ha (gi_S (fun _ h => h) mw1713 mw1714 mw87 mw1715) rfl rfl rfl hv_X11_in ⟨(Nat.le_of_ble_eq_true rfl), (Nat.le_of_ble_eq_true rfl)⟩) ⟨pre_blind, pre_at hP hD hS hz hzs hst [] (by decide) rfl rfl⟩ rfl rfl hl.1 rfl (lv_room (Nat.le_of_ble_eq_true rfl)) dX11_keys_4 ⟨(Nat.le_of_ble_eq_true rfl), (Nat.le_of_ble_eq_true rfl)⟩) hP hD hS hA [] (by decide) rfl rfl rfl rfl (fun H locs hP hD hS => ?_)
  refine lv_if_ne (tgt := 16) hx hb dX11_keys_7 (by decide) (fun c7 => ?_) (fun c7 => ?_)
  · have hF := q_brn c7 hF
    refine lv_aload_n hx hb dX11_keys_16 rfl (lv_at hl 0 rfl) ?_
    refine va_get (D := E.1) (ci := 13) (v := .ref (a (o + 1))) (C := RX11) (T := TX11) (N := 18) hx hb ha in_X11 hown hst.k hP 0 rfl rfl 0 (by decide) (ha _ mw1636) (fun _ h9 => h9) rfl dX11_keys_17 ?_
    refine lv_iconst (v := 2) hx hb dX11_keys_20 (by decide) ?_
    refine lv_iload_n hx hb dX11_keys_21 rfl (lv_at hl 1 rfl) ?_
    refine vj_iast hx hb hst.k hP hD hS 1 0 rfl rfl (f := x.1.1) (k := 2) (by decide) (by decide) dX11_keys_22 (fun u2 eu2 H locs hP hD hS => ?_)
    have hF := q_lti eu2 hF
    have hP : va_P E.1 vwCl (List.flatten [w_Model E a o ((u2, x.1.2.1, x.1.2.2.1, x.1.2.2.2.1, x.1.2.2.2.2), (x.2.1.1, x.2.1.2.1, x.2.1.2.2.1, x.2.1.2.2.2.1, x.2.1.2.2.2.2), (x.2.2.1.1, x.2.2.1.2.1, x.2.2.1.2.2.1, x.2.2.1.2.2.2), (x.2.2.2.1, x.2.2.2.2.1, x.2.2.2.2.2.1, x.2.2.2.2.2.2))]) H := hP
    have hD : va_D A (List.flatten [w_Model E a o ((u2, x.1.2.1, x.1.2.2.1, x.1.2.2.2.1, x.1.2.2.2.2), (x.2.1.1, x.2.1.2.1, x.2.1.2.2.1, x.2.1.2.2.2.1, x.2.1.2.2.2.2), (x.2.2.1.1, x.2.2.1.2.1, x.2.2.1.2.2.1, x.2.2.1.2.2.2), (x.2.2.2.1, x.2.2.2.2.1, x.2.2.2.2.2.1, x.2.2.2.2.2.2))]) := hD
    refine lv_aload_n hx hb dX11_keys_23 rfl (lv_at hl 0 rfl) ?_
    refine va_get (D := E.1) (ci := 13) (v := .ref (a (o + 1))) (C := RX11) (T := TX11) (N := 18) hx hb ha in_X11 hown hst.k hP 0 rfl rfl 0 (by decide) (ha _ mw1636) (fun _ h9 => h9) rfl dX11_keys_24 ?_
    refine lv_iconst (v := 3) hx hb dX11_keys_27 (by decide) ?_
    refine lv_iload_n hx hb dX11_keys_28 rfl (lv_at hl 2 rfl) ?_
    refine vj_iast hx hb hst.k hP hD hS 1 0 rfl rfl (f := u2) (k := 3) (by decide) (by decide) dX11_keys_29 (fun u3 eu3 H locs hP hD hS => ?_)
    have hF := q_lti eu3 hF
    have hP : va_P E.1 vwCl (List.flatten [w_Model E a o ((u3, x.1.2.1, x.1.2.2.1, x.1.2.2.2.1, x.1.2.2.2.2), (x.2.1.1, x.2.1.2.1, x.2.1.2.2.1, x.2.1.2.2.2.1, x.2.1.2.2.2.2), (x.2.2.1.1, x.2.2.1.2.1, x.2.2.1.2.2.1, x.2.2.1.2.2.2), (x.2.2.2.1, x.2.2.2.2.1, x.2.2.2.2.2.1, x.2.2.2.2.2.2))]) H := hP
    have hD : va_D A (List.flatten [w_Model E a o ((u3, x.1.2.1, x.1.2.2.1, x.1.2.2.2.1, x.1.2.2.2.2), (x.2.1.1, x.2.1.2.1, x.2.1.2.2.1, x.2.1.2.2.2.1, x.2.1.2.2.2.2), (x.2.2.1.1, x.2.2.1.2.1, x.2.2.1.2.2.1, x.2.2.1.2.2.2), (x.2.2.2.1, x.2.2.2.2.1, x.2.2.2.2.2.1, x.2.2.2.2.2.2))]) := hD
    refine lv_aload_n hx hb dX11_keys_30 rfl (lv_at hl 0 rfl) ?_
    refine lv_aload_n hx hb dX11_keys_31 rfl (lv_at hl 0 rfl) ?_
    refine lv_iload_n hx hb dX11_keys_32 rfl (lv_at hl 1 rfl) ?_
    refine lv_iload_n hx hb dX11_keys_33 rfl (lv_at hl 2 rfl) ?_
    obtain ⟨q4, hq4, hF⟩ := q_bdi hF
    refine cl_i (Lc := [w_Model E a o ((u3, x.1.2.1, x.1.2.2.1, x.1.2.2.2.1, x.1.2.2.2.2), (x.2.1.1, x.2.1.2.1, x.2.1.2.2.1, x.2.1.2.2.2.1, x.2.1.2.2.2.2), (x.2.2.1.1, x.2.2.1.2.1, x.2.2.1.2.2.1, x.2.2.1.2.2.2), (x.2.2.2.1, x.2.2.2.2.1, x.2.2.2.2.2.1, x.2.2.2.2.2.2))]) (Lc' := [w_Model E a o ((u3, x.1.2.1, x.1.2.2.1, x.1.2.2.2.1, x.1.2.2.2.2), (x.2.1.1, x.2.1.2.1, x.2.1.2.2.1, x.2.1.2.2.2.1, x.2.1.2.2.2.2), (x.2.2.1.1, x.2.2.1.2.1, x.2.2.1.2.2.1, x.2.2.1.2.2.2), (x.2.2.2.1, x.2.2.2.2.1, x.2.2.2.2.2.1, x.2.2.2.2.2.2))]) (L' := [w_Model E a o ((u3, x.1.2.1, x.1.2.2.1, x.1.2.2.2.1, x.1.2.2.2.2), (x.2.1.1, x.2.1.2.1, x.2.1.2.2.1, x.2.1.2.2.2.1, x.2.1.2.2.2.2), (x.2.2.1.1, x.2.2.1.2.1, x.2.2.1.2.2.1, x.2.2.1.2.2.2), (x.2.2.2.1, x.2.2.2.2.1, x.2.2.2.2.2.1, x.2.2.2.2.2.2))]) (rv := q4) (va_runV (As := [.int p1, .int p2]) (rest := [.ref (a o)]) ⟨hx, hb, hml, hown, ha⟩ (k_X11_keyed l E a o ((u3, x.1.2.1, x.1.2.2.1, x.1.2.2.2.1, x.1.2.2.2.2), (x.2.1.1, x.2.1.2.1, x.2.1.2.2.1, x.2.1.2.2.2.1, x.2.1.2.2.2.2), (x.2.2.1.1, x.2.2.1.2.1, x.2.2.1.2.2.1, x.2.2.1.2.2.2), (x.2.2.2.1, x.2.2.2.2.1, x.2.2.2.2.2.1, x.2.2.2.2.2.2)) p1 p2 q4 hq4 H.size) (cwV 2 ha (gi_V (fun _ h => h) mw1801 mw1803 mw43 mw87 mw1804) rfl rfl rfl hv_X11_keyed ⟨(Nat.le_of_ble_eq_true rfl), (Nat.le_of_ble_eq_true rfl)⟩) ⟨pre_blind, va_recv hst.k (fr_P hP [0] rfl) (ci := 13) (q0 := 0) rfl rfl, pre_at hP hD hS hz hzs hst [0] (by decide) rfl rfl⟩ rfl rfl hl.1 rfl (lv_room (Nat.le_of_ble_eq_true rfl)) dX11_keys_34 ⟨(Nat.le_of_ble_eq_true rfl), (Nat.le_of_ble_eq_true rfl)⟩) hP hD hS hA [0] (by decide) rfl rfl rfl rfl (fun H locs hP hD hS => ?_)
    obtain ⟨q5, hq5, hF⟩ := q_bdi hF
    refine cl_i (Lc := [w_Model E a o ((u3, x.1.2.1, x.1.2.2.1, x.1.2.2.2.1, x.1.2.2.2.2), (x.2.1.1, x.2.1.2.1, x.2.1.2.2.1, x.2.1.2.2.2.1, x.2.1.2.2.2.2), (x.2.2.1.1, x.2.2.1.2.1, x.2.2.1.2.2.1, x.2.2.1.2.2.2), (x.2.2.2.1, x.2.2.2.2.1, x.2.2.2.2.2.1, x.2.2.2.2.2.2))]) (Lc' := [w_Model E a o ((u3, x.1.2.1, x.1.2.2.1, x.1.2.2.2.1, x.1.2.2.2.2), (x.2.1.1, x.2.1.2.1, x.2.1.2.2.1, x.2.1.2.2.2.1, x.2.1.2.2.2.2), (x.2.2.1.1, x.2.2.1.2.1, x.2.2.1.2.2.1, x.2.2.1.2.2.2), (q5.2, x.2.2.2.2.1, x.2.2.2.2.2.1, x.2.2.2.2.2.2))]) (L' := [w_Model E a o ((u3, x.1.2.1, x.1.2.2.1, x.1.2.2.2.1, x.1.2.2.2.2), (x.2.1.1, x.2.1.2.1, x.2.1.2.2.1, x.2.1.2.2.2.1, x.2.1.2.2.2.2), (x.2.2.1.1, x.2.2.1.2.1, x.2.2.1.2.2.1, x.2.2.1.2.2.2), (q5.2, x.2.2.2.2.1, x.2.2.2.2.2.1, x.2.2.2.2.2.2))]) (rv := q5.1) (va_runV (As := [.int q4]) (rest := []) ⟨hx, hb, hml, hown, ha⟩ (k_X11_done l E a o ((u3, x.1.2.1, x.1.2.2.1, x.1.2.2.2.1, x.1.2.2.2.2), (x.2.1.1, x.2.1.2.1, x.2.1.2.2.1, x.2.1.2.2.2.1, x.2.1.2.2.2.2), (x.2.2.1.1, x.2.2.1.2.1, x.2.2.1.2.2.1, x.2.2.1.2.2.2), (x.2.2.2.1, x.2.2.2.2.1, x.2.2.2.2.2.1, x.2.2.2.2.2.2)) q4 q5 hq5 H.size) (cwV 1 ha (gi_V (fun _ h => h) mw1720 mw1722 mw30 mw87 mw1723) rfl rfl rfl hv_X11_done ⟨(Nat.le_of_ble_eq_true rfl), (Nat.le_of_ble_eq_true rfl)⟩) ⟨pre_blind, va_recv hst.k (fr_P hP [0] rfl) (ci := 13) (q0 := 0) rfl rfl, pre_at hP hD hS hz hzs hst [0] (by decide) rfl rfl⟩ rfl rfl hl.1 rfl (lv_room (Nat.le_of_ble_eq_true rfl)) dX11_keys_37 ⟨(Nat.le_of_ble_eq_true rfl), (Nat.le_of_ble_eq_true rfl)⟩) hP hD hS hA [0] (by decide) rfl rfl rfl rfl (fun H locs hP hD hS => ?_)
    obtain rfl := Option.some.inj hF
    exact en_i hQ (Nat.le_of_ble_eq_true rfl) (Nat.le_of_ble_eq_true rfl) hx hb hr hlocks hP hD hS rfl dX11_keys_40
  · have hF := q_brp c7 hF
    refine lv_aload_n hx hb dX11_keys_10 rfl (lv_at hl 0 rfl) ?_
    refine lv_iconst (v := 1) hx hb dX11_keys_11 (by decide) ?_
    obtain ⟨q6, hq6, hF⟩ := q_bdi hF
    refine cl_i (Lc := [w_Model E a o x]) (Lc' := [w_Model E a o ((x.1.1, x.1.2.1, x.1.2.2.1, x.1.2.2.2.1, x.1.2.2.2.2), (x.2.1.1, x.2.1.2.1, x.2.1.2.2.1, x.2.1.2.2.2.1, x.2.1.2.2.2.2), (x.2.2.1.1, x.2.2.1.2.1, x.2.2.1.2.2.1, x.2.2.1.2.2.2), (q6.2, x.2.2.2.2.1, x.2.2.2.2.2.1, x.2.2.2.2.2.2))]) (L' := [w_Model E a o ((x.1.1, x.1.2.1, x.1.2.2.1, x.1.2.2.2.1, x.1.2.2.2.2), (x.2.1.1, x.2.1.2.1, x.2.1.2.2.1, x.2.1.2.2.2.1, x.2.1.2.2.2.2), (x.2.2.1.1, x.2.2.1.2.1, x.2.2.1.2.2.1, x.2.2.1.2.2.2), (q6.2, x.2.2.2.2.1, x.2.2.2.2.2.1, x.2.2.2.2.2.2))]) (rv := q6.1) (va_runV (As := [.int 1]) (rest := []) ⟨hx, hb, hml, hown, ha⟩ (k_X11_fails l E a o x 1 q6 hq6 H.size) (cwV 1 ha (gi_V (fun _ h => h) mw1716 mw1718 mw29 mw87 mw1719) rfl rfl rfl hv_X11_fails ⟨(Nat.le_of_ble_eq_true rfl), (Nat.le_of_ble_eq_true rfl)⟩) ⟨pre_blind, va_recv hst.k (fr_P hP [0] rfl) (ci := 13) (q0 := 0) rfl rfl, pre_at hP hD hS hz hzs hst [0] (by decide) rfl rfl⟩ rfl rfl hl.1 rfl (lv_room (Nat.le_of_ble_eq_true rfl)) dX11_keys_12 ⟨(Nat.le_of_ble_eq_true rfl), (Nat.le_of_ble_eq_true rfl)⟩) hP hD hS hA [0] (by decide) rfl rfl rfl rfl (fun H locs hP hD hS => ?_)
    obtain rfl := Option.some.inj hF
    exact en_i hQ (Nat.le_of_ble_eq_true rfl) (Nat.le_of_ble_eq_true rfl) hx hb hr hlocks hP hD hS rfl dX11_keys_15

/-! X11_tolerates -/
theorem dX11_tolerates_0 : decode cX11_tolerates 0 = .ok (.iload_n 1, 1) := by decide +kernel
theorem dX11_tolerates_1 : decode cX11_tolerates 1 = .ok (.iconst 0, 1) := by decide +kernel
theorem dX11_tolerates_2 : decode cX11_tolerates 2 = .ok (.bipush 50, 2) := by decide +kernel
theorem dX11_tolerates_4 : decode cX11_tolerates 4 = .ok (.invokestatic 52, 3) := by decide +kernel
theorem dX11_tolerates_7 : decode cX11_tolerates 7 = .ok (.ifCond .ne 9, 3) := by decide +kernel
theorem dX11_tolerates_10 : decode cX11_tolerates 10 = .ok (.aload_n 0, 1) := by decide +kernel
theorem dX11_tolerates_11 : decode cX11_tolerates 11 = .ok (.iconst 1, 1) := by decide +kernel
theorem dX11_tolerates_12 : decode cX11_tolerates 12 = .ok (.invokevirtual 80, 3) := by decide +kernel
theorem dX11_tolerates_15 : decode cX11_tolerates 15 = .ok (.ireturn, 1) := by decide +kernel
theorem dX11_tolerates_16 : decode cX11_tolerates 16 = .ok (.aload_n 0, 1) := by decide +kernel
theorem dX11_tolerates_17 : decode cX11_tolerates 17 = .ok (.getfield 7, 3) := by decide +kernel
theorem dX11_tolerates_20 : decode cX11_tolerates 20 = .ok (.iconst 4, 1) := by decide +kernel
theorem dX11_tolerates_21 : decode cX11_tolerates 21 = .ok (.iaload, 1) := by decide +kernel
theorem dX11_tolerates_22 : decode cX11_tolerates 22 = .ok (.istore_n 2, 1) := by decide +kernel
theorem dX11_tolerates_23 : decode cX11_tolerates 23 = .ok (.aload_n 0, 1) := by decide +kernel
theorem dX11_tolerates_24 : decode cX11_tolerates 24 = .ok (.getfield 7, 3) := by decide +kernel
theorem dX11_tolerates_27 : decode cX11_tolerates 27 = .ok (.iconst 4, 1) := by decide +kernel
theorem dX11_tolerates_28 : decode cX11_tolerates 28 = .ok (.iload_n 1, 1) := by decide +kernel
theorem dX11_tolerates_29 : decode cX11_tolerates 29 = .ok (.iastore, 1) := by decide +kernel
theorem dX11_tolerates_30 : decode cX11_tolerates 30 = .ok (.aload_n 0, 1) := by decide +kernel
theorem dX11_tolerates_31 : decode cX11_tolerates 31 = .ok (.iload_n 2, 1) := by decide +kernel
theorem dX11_tolerates_32 : decode cX11_tolerates 32 = .ok (.invokevirtual 83, 3) := by decide +kernel
theorem dX11_tolerates_35 : decode cX11_tolerates 35 = .ok (.ireturn, 1) := by decide +kernel
def f_X11_tolerates (x_g : (Nat → Int32)) (x_thrown : Int32) (p1 : Int32) : Option (Int32 × (Nat → Int32) × Int32) :=
  q_bd (f_X11_in p1 0 50) (fun q1 =>
  q_br (q1 = 0) (
  q_bd (f_X11_fails x_thrown 1) (fun q5 =>
  some (q5.1, x_g, q5.2))) (
  q_lt (x_g 4 : Int32) (fun v2 =>
  q_lt (upd x_g 4 p1) (fun u3 =>
  q_bd (f_X11_done x_thrown v2) (fun q4 =>
  some (q4.1, u3, q4.2))))))
theorem hv_X11_tolerates : yX11_tolerates.cls = RX11 ∧ yX11_tolerates.cls ≠ "java/lang/invoke/MethodHandle" ∧ yX11_tolerates.cls ≠ "java/lang/invoke/VarHandle" ∧ (parseMethodDescriptor yX11_tolerates.desc).map (fun d => d.parameters.length) = some 1 := by decide +kernel
abbrev rm_X11_tolerates : Room := { frames := 1, cells := 0, slots := 0, locals := 22 }
set_option maxHeartbeats 4000000 in
set_option maxRecDepth 100000 in
theorem k_X11_tolerates (l : Launch) (E : ET) (a : Nat → Nat) (o : Nat) (x : Model_t) (p1 : Int32) (res : Int32 × (Nat → Int32) × Int32) (hF : f_X11_tolerates x.1.1 x.2.2.2.1 p1 = some res) (sz : Nat) : CtI l yX11_tolerates (mws yX11_tolerates cX11_tolerates 3 (some .int)) rm_X11_tolerates 0 0 [.ref (a o), .int p1] E (bl_Model E a o x) res.1 (bl_Model E a o ((res.2.1, x.1.2.1, x.1.2.2.1, x.1.2.2.2.1, x.1.2.2.2.2), (x.2.1.1, x.2.1.2.1, x.2.1.2.2.1, x.2.1.2.2.2.1, x.2.1.2.2.2.2), (x.2.2.1.1, x.2.2.1.2.1, x.2.2.1.2.2.1, x.2.2.1.2.2.2), (res.2.2, x.2.2.2.2.1, x.2.2.2.2.2.1, x.2.2.2.2.2.2))) sz := by
  refine mk_M (by decide +kernel) (Nat.le_of_ble_eq_true rfl) ?_
  intro p e s m below meth c A args Q ls hAe hsz hQ hx hb hr hml hin ha hown hlocks hA hz hzs hst hP hD hS hl
  have hown : s.vm.findClass RX11 = some m.cls := hown
  rw [hAe] at hQ
  subst hsz
  have hP : va_P E.1 vwCl (List.flatten [w_Model E a o x]) s.heap := hP
  have hD : va_D A (List.flatten [w_Model E a o x]) := hD
  have hl : lv_has ls 3 [(0, .ref (a o)), (1, .int p1)] := hl
  generalize hHe : s.heap = H at hP
  have hS : va_S A s.heap H [] := by rw [← hHe]; exact hS
  generalize ([] : List Loc) = locs at hS ⊢
  unfold f_X11_tolerates at hF
  refine lv_iload_n hx hb dX11_tolerates_0 rfl (lv_at hl 1 rfl) ?_
  refine lv_iconst (v := 0) hx hb dX11_tolerates_1 (by decide) ?_
  refine lv_bipush (v := 50) hx hb dX11_tolerates_2 (by decide) ?_
  obtain ⟨q1, hq1, hF⟩ := q_bdi hF
  refine cl_i (Lc := []) (Lc' := []) (L' := [w_Model E a o x]) (rv := q1) (va_runS (As := [.int p1, .int 0, .int 50]) (rest := []) ⟨hx, hb, hml, hown, ha⟩ (k_X11_in l E p1 0 50 q1 hq1 H.size) (cwS 3 ha (gi_S (fun _ h => h) mw1713 mw1714 mw87 mw1715) rfl rfl rfl hv_X11_in ⟨(Nat.le_of_ble_eq_true rfl), (Nat.le_of_ble_eq_true rfl)⟩) ⟨pre_blind, pre_at hP hD hS hz hzs hst [] (by decide) rfl rfl⟩ rfl rfl hl.1 rfl (lv_room (Nat.le_of_ble_eq_true rfl)) dX11_tolerates_4 ⟨(Nat.le_of_ble_eq_true rfl), (Nat.le_of_ble_eq_true rfl)⟩) hP hD hS hA [] (by decide) rfl rfl rfl rfl (fun H locs hP hD hS => ?_)
  refine lv_if_ne (tgt := 16) hx hb dX11_tolerates_7 (by decide) (fun c7 => ?_) (fun c7 => ?_)
  · have hF := q_brn c7 hF
    refine lv_aload_n hx hb dX11_tolerates_16 rfl (lv_at hl 0 rfl) ?_
    refine va_get (D := E.1) (ci := 13) (v := .ref (a (o + 1))) (C := RX11) (T := TX11) (N := 18) hx hb ha in_X11 hown hst.k hP 0 rfl rfl 0 (by decide) (ha _ mw1636) (fun _ h9 => h9) rfl dX11_tolerates_17 ?_
    refine lv_iconst (v := 4) hx hb dX11_tolerates_20 (by decide) ?_
    refine vi_iald hx hb hst.k hP 1 0 rfl rfl (f := x.1.1) (k := 4) (by decide) (by decide) dX11_tolerates_21 ?_
    refine lv_topi (fun v2 ev2 => ?_)
    have hF := q_lti ev2 hF
    refine lv_istore_n (lv' := [(2, .int v2), (0, .ref (a o)), (1, .int p1)]) hx hb dX11_tolerates_22 rfl hl (by decide) rfl (fun ls hl => ?_)
    refine lv_aload_n hx hb dX11_tolerates_23 rfl (lv_at hl 1 rfl) ?_
    refine va_get (D := E.1) (ci := 13) (v := .ref (a (o + 1))) (C := RX11) (T := TX11) (N := 18) hx hb ha in_X11 hown hst.k hP 0 rfl rfl 0 (by decide) (ha _ mw1636) (fun _ h9 => h9) rfl dX11_tolerates_24 ?_
    refine lv_iconst (v := 4) hx hb dX11_tolerates_27 (by decide) ?_
    refine lv_iload_n hx hb dX11_tolerates_28 rfl (lv_at hl 2 rfl) ?_
    refine vj_iast hx hb hst.k hP hD hS 1 0 rfl rfl (f := x.1.1) (k := 4) (by decide) (by decide) dX11_tolerates_29 (fun u3 eu3 H locs hP hD hS => ?_)
    have hF := q_lti eu3 hF
    have hP : va_P E.1 vwCl (List.flatten [w_Model E a o ((u3, x.1.2.1, x.1.2.2.1, x.1.2.2.2.1, x.1.2.2.2.2), (x.2.1.1, x.2.1.2.1, x.2.1.2.2.1, x.2.1.2.2.2.1, x.2.1.2.2.2.2), (x.2.2.1.1, x.2.2.1.2.1, x.2.2.1.2.2.1, x.2.2.1.2.2.2), (x.2.2.2.1, x.2.2.2.2.1, x.2.2.2.2.2.1, x.2.2.2.2.2.2))]) H := hP
    have hD : va_D A (List.flatten [w_Model E a o ((u3, x.1.2.1, x.1.2.2.1, x.1.2.2.2.1, x.1.2.2.2.2), (x.2.1.1, x.2.1.2.1, x.2.1.2.2.1, x.2.1.2.2.2.1, x.2.1.2.2.2.2), (x.2.2.1.1, x.2.2.1.2.1, x.2.2.1.2.2.1, x.2.2.1.2.2.2), (x.2.2.2.1, x.2.2.2.2.1, x.2.2.2.2.2.1, x.2.2.2.2.2.2))]) := hD
    refine lv_aload_n hx hb dX11_tolerates_30 rfl (lv_at hl 1 rfl) ?_
    refine lv_iload_n hx hb dX11_tolerates_31 rfl (lv_at hl 0 rfl) ?_
    obtain ⟨q4, hq4, hF⟩ := q_bdi hF
    refine cl_i (Lc := [w_Model E a o ((u3, x.1.2.1, x.1.2.2.1, x.1.2.2.2.1, x.1.2.2.2.2), (x.2.1.1, x.2.1.2.1, x.2.1.2.2.1, x.2.1.2.2.2.1, x.2.1.2.2.2.2), (x.2.2.1.1, x.2.2.1.2.1, x.2.2.1.2.2.1, x.2.2.1.2.2.2), (x.2.2.2.1, x.2.2.2.2.1, x.2.2.2.2.2.1, x.2.2.2.2.2.2))]) (Lc' := [w_Model E a o ((u3, x.1.2.1, x.1.2.2.1, x.1.2.2.2.1, x.1.2.2.2.2), (x.2.1.1, x.2.1.2.1, x.2.1.2.2.1, x.2.1.2.2.2.1, x.2.1.2.2.2.2), (x.2.2.1.1, x.2.2.1.2.1, x.2.2.1.2.2.1, x.2.2.1.2.2.2), (q4.2, x.2.2.2.2.1, x.2.2.2.2.2.1, x.2.2.2.2.2.2))]) (L' := [w_Model E a o ((u3, x.1.2.1, x.1.2.2.1, x.1.2.2.2.1, x.1.2.2.2.2), (x.2.1.1, x.2.1.2.1, x.2.1.2.2.1, x.2.1.2.2.2.1, x.2.1.2.2.2.2), (x.2.2.1.1, x.2.2.1.2.1, x.2.2.1.2.2.1, x.2.2.1.2.2.2), (q4.2, x.2.2.2.2.1, x.2.2.2.2.2.1, x.2.2.2.2.2.2))]) (rv := q4.1) (va_runV (As := [.int v2]) (rest := []) ⟨hx, hb, hml, hown, ha⟩ (k_X11_done l E a o ((u3, x.1.2.1, x.1.2.2.1, x.1.2.2.2.1, x.1.2.2.2.2), (x.2.1.1, x.2.1.2.1, x.2.1.2.2.1, x.2.1.2.2.2.1, x.2.1.2.2.2.2), (x.2.2.1.1, x.2.2.1.2.1, x.2.2.1.2.2.1, x.2.2.1.2.2.2), (x.2.2.2.1, x.2.2.2.2.1, x.2.2.2.2.2.1, x.2.2.2.2.2.2)) v2 q4 hq4 H.size) (cwV 1 ha (gi_V (fun _ h => h) mw1720 mw1722 mw30 mw87 mw1723) rfl rfl rfl hv_X11_done ⟨(Nat.le_of_ble_eq_true rfl), (Nat.le_of_ble_eq_true rfl)⟩) ⟨pre_blind, va_recv hst.k (fr_P hP [0] rfl) (ci := 13) (q0 := 0) rfl rfl, pre_at hP hD hS hz hzs hst [0] (by decide) rfl rfl⟩ rfl rfl hl.1 rfl (lv_room (Nat.le_of_ble_eq_true rfl)) dX11_tolerates_32 ⟨(Nat.le_of_ble_eq_true rfl), (Nat.le_of_ble_eq_true rfl)⟩) hP hD hS hA [0] (by decide) rfl rfl rfl rfl (fun H locs hP hD hS => ?_)
    obtain rfl := Option.some.inj hF
    exact en_i hQ (Nat.le_of_ble_eq_true rfl) (Nat.le_of_ble_eq_true rfl) hx hb hr hlocks hP hD hS rfl dX11_tolerates_35
  · have hF := q_brp c7 hF
    refine lv_aload_n hx hb dX11_tolerates_10 rfl (lv_at hl 0 rfl) ?_
    refine lv_iconst (v := 1) hx hb dX11_tolerates_11 (by decide) ?_
    obtain ⟨q5, hq5, hF⟩ := q_bdi hF
    refine cl_i (Lc := [w_Model E a o x]) (Lc' := [w_Model E a o ((x.1.1, x.1.2.1, x.1.2.2.1, x.1.2.2.2.1, x.1.2.2.2.2), (x.2.1.1, x.2.1.2.1, x.2.1.2.2.1, x.2.1.2.2.2.1, x.2.1.2.2.2.2), (x.2.2.1.1, x.2.2.1.2.1, x.2.2.1.2.2.1, x.2.2.1.2.2.2), (q5.2, x.2.2.2.2.1, x.2.2.2.2.2.1, x.2.2.2.2.2.2))]) (L' := [w_Model E a o ((x.1.1, x.1.2.1, x.1.2.2.1, x.1.2.2.2.1, x.1.2.2.2.2), (x.2.1.1, x.2.1.2.1, x.2.1.2.2.1, x.2.1.2.2.2.1, x.2.1.2.2.2.2), (x.2.2.1.1, x.2.2.1.2.1, x.2.2.1.2.2.1, x.2.2.1.2.2.2), (q5.2, x.2.2.2.2.1, x.2.2.2.2.2.1, x.2.2.2.2.2.2))]) (rv := q5.1) (va_runV (As := [.int 1]) (rest := []) ⟨hx, hb, hml, hown, ha⟩ (k_X11_fails l E a o x 1 q5 hq5 H.size) (cwV 1 ha (gi_V (fun _ h => h) mw1716 mw1718 mw29 mw87 mw1719) rfl rfl rfl hv_X11_fails ⟨(Nat.le_of_ble_eq_true rfl), (Nat.le_of_ble_eq_true rfl)⟩) ⟨pre_blind, va_recv hst.k (fr_P hP [0] rfl) (ci := 13) (q0 := 0) rfl rfl, pre_at hP hD hS hz hzs hst [0] (by decide) rfl rfl⟩ rfl rfl hl.1 rfl (lv_room (Nat.le_of_ble_eq_true rfl)) dX11_tolerates_12 ⟨(Nat.le_of_ble_eq_true rfl), (Nat.le_of_ble_eq_true rfl)⟩) hP hD hS hA [0] (by decide) rfl rfl rfl rfl (fun H locs hP hD hS => ?_)
    obtain rfl := Option.some.inj hF
    exact en_i hQ (Nat.le_of_ble_eq_true rfl) (Nat.le_of_ble_eq_true rfl) hx hb hr hlocks hP hD hS rfl dX11_tolerates_15

/-! X11_addsTone -/
theorem dX11_addsTone_0 : decode cX11_addsTone 0 = .ok (.iload_n 1, 1) := by decide +kernel
theorem dX11_addsTone_1 : decode cX11_addsTone 1 = .ok (.invokestatic 76, 3) := by decide +kernel
theorem dX11_addsTone_4 : decode cX11_addsTone 4 = .ok (.ifCond .eq 11, 3) := by decide +kernel
theorem dX11_addsTone_7 : decode cX11_addsTone 7 = .ok (.aload_n 0, 1) := by decide +kernel
theorem dX11_addsTone_8 : decode cX11_addsTone 8 = .ok (.iload_n 2, 1) := by decide +kernel
theorem dX11_addsTone_9 : decode cX11_addsTone 9 = .ok (.invokevirtual 96, 3) := by decide +kernel
theorem dX11_addsTone_12 : decode cX11_addsTone 12 = .ok (.ifCond .ne 9, 3) := by decide +kernel
theorem dX11_addsTone_15 : decode cX11_addsTone 15 = .ok (.aload_n 0, 1) := by decide +kernel
theorem dX11_addsTone_16 : decode cX11_addsTone 16 = .ok (.iconst 1, 1) := by decide +kernel
theorem dX11_addsTone_17 : decode cX11_addsTone 17 = .ok (.invokevirtual 80, 3) := by decide +kernel
theorem dX11_addsTone_20 : decode cX11_addsTone 20 = .ok (.ireturn, 1) := by decide +kernel
theorem dX11_addsTone_21 : decode cX11_addsTone 21 = .ok (.aload_n 0, 1) := by decide +kernel
theorem dX11_addsTone_22 : decode cX11_addsTone 22 = .ok (.getfield 7, 3) := by decide +kernel
theorem dX11_addsTone_25 : decode cX11_addsTone 25 = .ok (.bipush 33, 2) := by decide +kernel
theorem dX11_addsTone_27 : decode cX11_addsTone 27 = .ok (.iload_n 1, 1) := by decide +kernel
theorem dX11_addsTone_28 : decode cX11_addsTone 28 = .ok (.iadd, 1) := by decide +kernel
theorem dX11_addsTone_29 : decode cX11_addsTone 29 = .ok (.iaload, 1) := by decide +kernel
theorem dX11_addsTone_30 : decode cX11_addsTone 30 = .ok (.istore_n 3, 1) := by decide +kernel
theorem dX11_addsTone_31 : decode cX11_addsTone 31 = .ok (.iload_n 3, 1) := by decide +kernel
theorem dX11_addsTone_32 : decode cX11_addsTone 32 = .ok (.bipush 8, 2) := by decide +kernel
theorem dX11_addsTone_34 : decode cX11_addsTone 34 = .ok (.if_icmp .ne 9, 3) := by decide +kernel
theorem dX11_addsTone_37 : decode cX11_addsTone 37 = .ok (.aload_n 0, 1) := by decide +kernel
theorem dX11_addsTone_38 : decode cX11_addsTone 38 = .ok (.iconst 2, 1) := by decide +kernel
theorem dX11_addsTone_39 : decode cX11_addsTone 39 = .ok (.invokevirtual 80, 3) := by decide +kernel
theorem dX11_addsTone_42 : decode cX11_addsTone 42 = .ok (.ireturn, 1) := by decide +kernel
theorem dX11_addsTone_43 : decode cX11_addsTone 43 = .ok (.aload_n 0, 1) := by decide +kernel
theorem dX11_addsTone_44 : decode cX11_addsTone 44 = .ok (.getfield 7, 3) := by decide +kernel
theorem dX11_addsTone_47 : decode cX11_addsTone 47 = .ok (.bipush 37, 2) := by decide +kernel
theorem dX11_addsTone_49 : decode cX11_addsTone 49 = .ok (.bipush 8, 2) := by decide +kernel
theorem dX11_addsTone_51 : decode cX11_addsTone 51 = .ok (.iload_n 1, 1) := by decide +kernel
theorem dX11_addsTone_52 : decode cX11_addsTone 52 = .ok (.imul, 1) := by decide +kernel
theorem dX11_addsTone_53 : decode cX11_addsTone 53 = .ok (.iadd, 1) := by decide +kernel
theorem dX11_addsTone_54 : decode cX11_addsTone 54 = .ok (.iload_n 3, 1) := by decide +kernel
theorem dX11_addsTone_55 : decode cX11_addsTone 55 = .ok (.iadd, 1) := by decide +kernel
theorem dX11_addsTone_56 : decode cX11_addsTone 56 = .ok (.iload_n 2, 1) := by decide +kernel
theorem dX11_addsTone_57 : decode cX11_addsTone 57 = .ok (.iastore, 1) := by decide +kernel
theorem dX11_addsTone_58 : decode cX11_addsTone 58 = .ok (.aload_n 0, 1) := by decide +kernel
theorem dX11_addsTone_59 : decode cX11_addsTone 59 = .ok (.getfield 7, 3) := by decide +kernel
theorem dX11_addsTone_62 : decode cX11_addsTone 62 = .ok (.bipush 33, 2) := by decide +kernel
theorem dX11_addsTone_64 : decode cX11_addsTone 64 = .ok (.iload_n 1, 1) := by decide +kernel
theorem dX11_addsTone_65 : decode cX11_addsTone 65 = .ok (.iadd, 1) := by decide +kernel
theorem dX11_addsTone_66 : decode cX11_addsTone 66 = .ok (.dup2, 1) := by decide +kernel
theorem dX11_addsTone_67 : decode cX11_addsTone 67 = .ok (.iaload, 1) := by decide +kernel
theorem dX11_addsTone_68 : decode cX11_addsTone 68 = .ok (.iconst 1, 1) := by decide +kernel
theorem dX11_addsTone_69 : decode cX11_addsTone 69 = .ok (.iadd, 1) := by decide +kernel
theorem dX11_addsTone_70 : decode cX11_addsTone 70 = .ok (.iastore, 1) := by decide +kernel
theorem dX11_addsTone_71 : decode cX11_addsTone 71 = .ok (.aload_n 0, 1) := by decide +kernel
theorem dX11_addsTone_72 : decode cX11_addsTone 72 = .ok (.iload_n 3, 1) := by decide +kernel
theorem dX11_addsTone_73 : decode cX11_addsTone 73 = .ok (.iconst 1, 1) := by decide +kernel
theorem dX11_addsTone_74 : decode cX11_addsTone 74 = .ok (.iadd, 1) := by decide +kernel
theorem dX11_addsTone_75 : decode cX11_addsTone 75 = .ok (.invokevirtual 83, 3) := by decide +kernel
theorem dX11_addsTone_78 : decode cX11_addsTone 78 = .ok (.ireturn, 1) := by decide +kernel
def f_X11_addsTone (x_g : (Nat → Int32)) (x_thrown : Int32) (p1 : Int32) (p2 : Int32) : Option (Int32 × (Nat → Int32) × Int32) :=
  q_bd (f_X11_isHerd p1) (fun q1 =>
  q_br (q1 = 0) (
  q_bd (f_X11_fails x_thrown 1) (fun q2 =>
  some (q2.1, x_g, q2.2))) (
  q_bd (f_X11_isBell x_g p2) (fun q3 =>
  q_br (q3 = 0) (
  q_bd (f_X11_fails x_thrown 1) (fun q13 =>
  some (q13.1, x_g, q13.2))) (
  q_gd (q_in (33 + p1) 77) (
  q_lt (x_g ((33 + p1).toNatClampNeg) : Int32) (fun v5 =>
  q_br (v5 = 8) (
  q_bd (f_X11_fails x_thrown 2) (fun q12 =>
  some (q12.1, x_g, q12.2))) (
  q_gd (q_in ((37 + (8 * p1)) + v5) 77) (
  q_lt (upd x_g (((37 + (8 * p1)) + v5).toNatClampNeg) p2) (fun u7 =>
  q_gd (q_in (33 + p1) 77) (
  q_gd (q_in (33 + p1) 77) (
  q_lt (upd u7 ((33 + p1).toNatClampNeg) ((u7 ((33 + p1).toNatClampNeg)) + 1)) (fun u10 =>
  q_bd (f_X11_done x_thrown (v5 + 1)) (fun q11 =>
  some (q11.1, u10, q11.2))))))))))))))
theorem hv_X11_addsTone : yX11_addsTone.cls = RX11 ∧ yX11_addsTone.cls ≠ "java/lang/invoke/MethodHandle" ∧ yX11_addsTone.cls ≠ "java/lang/invoke/VarHandle" ∧ (parseMethodDescriptor yX11_addsTone.desc).map (fun d => d.parameters.length) = some 2 := by decide +kernel
abbrev rm_X11_addsTone : Room := { frames := 2, cells := 0, slots := 0, locals := 43 }
set_option maxHeartbeats 4000000 in
set_option maxRecDepth 100000 in
theorem k_X11_addsTone (l : Launch) (E : ET) (a : Nat → Nat) (o : Nat) (x : Model_t) (p1 : Int32) (p2 : Int32) (res : Int32 × (Nat → Int32) × Int32) (hF : f_X11_addsTone x.1.1 x.2.2.2.1 p1 p2 = some res) (sz : Nat) : CtI l yX11_addsTone (mws yX11_addsTone cX11_addsTone 4 (some .int)) rm_X11_addsTone 0 0 [.ref (a o), .int p1, .int p2] E (bl_Model E a o x) res.1 (bl_Model E a o ((res.2.1, x.1.2.1, x.1.2.2.1, x.1.2.2.2.1, x.1.2.2.2.2), (x.2.1.1, x.2.1.2.1, x.2.1.2.2.1, x.2.1.2.2.2.1, x.2.1.2.2.2.2), (x.2.2.1.1, x.2.2.1.2.1, x.2.2.1.2.2.1, x.2.2.1.2.2.2), (res.2.2, x.2.2.2.2.1, x.2.2.2.2.2.1, x.2.2.2.2.2.2))) sz := by
  refine mk_M (by decide +kernel) (Nat.le_of_ble_eq_true rfl) ?_
  intro p e s m below meth c A args Q ls hAe hsz hQ hx hb hr hml hin ha hown hlocks hA hz hzs hst hP hD hS hl
  have hown : s.vm.findClass RX11 = some m.cls := hown
  rw [hAe] at hQ
  subst hsz
  have hP : va_P E.1 vwCl (List.flatten [w_Model E a o x]) s.heap := hP
  have hD : va_D A (List.flatten [w_Model E a o x]) := hD
  have hl : lv_has ls 4 [(0, .ref (a o)), (1, .int p1), (2, .int p2)] := hl
  generalize hHe : s.heap = H at hP
  have hS : va_S A s.heap H [] := by rw [← hHe]; exact hS
  generalize ([] : List Loc) = locs at hS ⊢
  unfold f_X11_addsTone at hF
  refine lv_iload_n hx hb dX11_addsTone_0 rfl (lv_at hl 1 rfl) ?_
  obtain ⟨q1, hq1, hF⟩ := q_bdi hF
  refine cl_i (Lc := []) (Lc' := []) (L' := [w_Model E a o x]) (rv := q1) (va_runS (As := [.int p1]) (rest := []) ⟨hx, hb, hml, hown, ha⟩ (k_X11_isHerd l E p1 q1 hq1 H.size) (cwS 1 ha (gi_S (fun _ h => h) mw1710 mw1711 mw87 mw1712) rfl rfl rfl hv_X11_isHerd ⟨(Nat.le_of_ble_eq_true rfl), (Nat.le_of_ble_eq_true rfl)⟩) ⟨pre_blind, pre_at hP hD hS hz hzs hst [] (by decide) rfl rfl⟩ rfl rfl hl.1 rfl (lv_room (Nat.le_of_ble_eq_true rfl)) dX11_addsTone_1 ⟨(Nat.le_of_ble_eq_true rfl), (Nat.le_of_ble_eq_true rfl)⟩) hP hD hS hA [] (by decide) rfl rfl rfl rfl (fun H locs hP hD hS => ?_)
  refine lv_if_eq (tgt := 15) hx hb dX11_addsTone_4 (by decide) (fun c4 => ?_) (fun c4 => ?_)
  · have hF := q_brp c4 hF
    refine lv_aload_n hx hb dX11_addsTone_15 rfl (lv_at hl 0 rfl) ?_
    refine lv_iconst (v := 1) hx hb dX11_addsTone_16 (by decide) ?_
    obtain ⟨q2, hq2, hF⟩ := q_bdi hF
    refine cl_i (Lc := [w_Model E a o x]) (Lc' := [w_Model E a o ((x.1.1, x.1.2.1, x.1.2.2.1, x.1.2.2.2.1, x.1.2.2.2.2), (x.2.1.1, x.2.1.2.1, x.2.1.2.2.1, x.2.1.2.2.2.1, x.2.1.2.2.2.2), (x.2.2.1.1, x.2.2.1.2.1, x.2.2.1.2.2.1, x.2.2.1.2.2.2), (q2.2, x.2.2.2.2.1, x.2.2.2.2.2.1, x.2.2.2.2.2.2))]) (L' := [w_Model E a o ((x.1.1, x.1.2.1, x.1.2.2.1, x.1.2.2.2.1, x.1.2.2.2.2), (x.2.1.1, x.2.1.2.1, x.2.1.2.2.1, x.2.1.2.2.2.1, x.2.1.2.2.2.2), (x.2.2.1.1, x.2.2.1.2.1, x.2.2.1.2.2.1, x.2.2.1.2.2.2), (q2.2, x.2.2.2.2.1, x.2.2.2.2.2.1, x.2.2.2.2.2.2))]) (rv := q2.1) (va_runV (As := [.int 1]) (rest := []) ⟨hx, hb, hml, hown, ha⟩ (k_X11_fails l E a o x 1 q2 hq2 H.size) (cwV 1 ha (gi_V (fun _ h => h) mw1716 mw1718 mw29 mw87 mw1719) rfl rfl rfl hv_X11_fails ⟨(Nat.le_of_ble_eq_true rfl), (Nat.le_of_ble_eq_true rfl)⟩) ⟨pre_blind, va_recv hst.k (fr_P hP [0] rfl) (ci := 13) (q0 := 0) rfl rfl, pre_at hP hD hS hz hzs hst [0] (by decide) rfl rfl⟩ rfl rfl hl.1 rfl (lv_room (Nat.le_of_ble_eq_true rfl)) dX11_addsTone_17 ⟨(Nat.le_of_ble_eq_true rfl), (Nat.le_of_ble_eq_true rfl)⟩) hP hD hS hA [0] (by decide) rfl rfl rfl rfl (fun H locs hP hD hS => ?_)
    obtain rfl := Option.some.inj hF
    exact en_i hQ (Nat.le_of_ble_eq_true rfl) (Nat.le_of_ble_eq_true rfl) hx hb hr hlocks hP hD hS rfl dX11_addsTone_20
  · have hF := q_brn c4 hF
    refine lv_aload_n hx hb dX11_addsTone_7 rfl (lv_at hl 0 rfl) ?_
    refine lv_iload_n hx hb dX11_addsTone_8 rfl (lv_at hl 2 rfl) ?_
    obtain ⟨q3, hq3, hF⟩ := q_bdi hF
    refine cl_i (Lc := [w_Model E a o x]) (Lc' := [w_Model E a o x]) (L' := [w_Model E a o x]) (rv := q3) (va_runV (As := [.int p2]) (rest := []) ⟨hx, hb, hml, hown, ha⟩ (k_X11_isBell l E a o x p2 q3 hq3 H.size) (cwV 1 ha (gi_V (fun _ h => h) mw1736 mw1738 mw33 mw87 mw1739) rfl rfl rfl hv_X11_isBell ⟨(Nat.le_of_ble_eq_true rfl), (Nat.le_of_ble_eq_true rfl)⟩) ⟨pre_blind, va_recv hst.k (fr_P hP [0] rfl) (ci := 13) (q0 := 0) rfl rfl, pre_at hP hD hS hz hzs hst [0] (by decide) rfl rfl⟩ rfl rfl hl.1 rfl (lv_room (Nat.le_of_ble_eq_true rfl)) dX11_addsTone_9 ⟨(Nat.le_of_ble_eq_true rfl), (Nat.le_of_ble_eq_true rfl)⟩) hP hD hS hA [0] (by decide) rfl rfl rfl rfl (fun H locs hP hD hS => ?_)
    refine lv_if_ne (tgt := 21) hx hb dX11_addsTone_12 (by decide) (fun c12 => ?_) (fun c12 => ?_)
    · have hF := q_brn c12 hF
      refine lv_aload_n hx hb dX11_addsTone_21 rfl (lv_at hl 0 rfl) ?_
      refine va_get (D := E.1) (ci := 13) (v := .ref (a (o + 1))) (C := RX11) (T := TX11) (N := 18) hx hb ha in_X11 hown hst.k hP 0 rfl rfl 0 (by decide) (ha _ mw1636) (fun _ h9 => h9) rfl dX11_addsTone_22 ?_
      refine lv_bipush (v := 33) hx hb dX11_addsTone_25 (by decide) ?_
      refine lv_iload_n hx hb dX11_addsTone_27 rfl (lv_at hl 1 rfl) ?_
      refine lv_iadd hx hb dX11_addsTone_28 ?_
      obtain ⟨g4, hF⟩ := q_gdi hF
      refine vi_iald hx hb hst.k hP 1 0 rfl rfl (f := x.1.1) (k := (33 + p1).toNatClampNeg) rfl g4 dX11_addsTone_29 ?_
      refine lv_topi (fun v5 ev5 => ?_)
      have hF := q_lti ev5 hF
      refine lv_istore_n (lv' := [(3, .int v5), (0, .ref (a o)), (1, .int p1), (2, .int p2)]) hx hb dX11_addsTone_30 rfl hl (by decide) rfl (fun ls hl => ?_)
      refine lv_iload_n hx hb dX11_addsTone_31 rfl (lv_at hl 0 rfl) ?_
      refine lv_bipush (v := 8) hx hb dX11_addsTone_32 (by decide) ?_
      refine lv_icmp_ne (tgt := 43) hx hb dX11_addsTone_34 (by decide) (fun c34 => ?_) (fun c34 => ?_)
      · have hF := q_brn c34 hF
        refine lv_aload_n hx hb dX11_addsTone_43 rfl (lv_at hl 1 rfl) ?_
        refine va_get (D := E.1) (ci := 13) (v := .ref (a (o + 1))) (C := RX11) (T := TX11) (N := 18) hx hb ha in_X11 hown hst.k hP 0 rfl rfl 0 (by decide) (ha _ mw1636) (fun _ h9 => h9) rfl dX11_addsTone_44 ?_
        refine lv_bipush (v := 37) hx hb dX11_addsTone_47 (by decide) ?_
        refine lv_bipush (v := 8) hx hb dX11_addsTone_49 (by decide) ?_
        refine lv_iload_n hx hb dX11_addsTone_51 rfl (lv_at hl 2 rfl) ?_
        refine lv_imul hx hb dX11_addsTone_52 ?_
        refine lv_iadd hx hb dX11_addsTone_53 ?_
        refine lv_iload_n hx hb dX11_addsTone_54 rfl (lv_at hl 0 rfl) ?_
        refine lv_iadd hx hb dX11_addsTone_55 ?_
        refine lv_iload_n hx hb dX11_addsTone_56 rfl (lv_at hl 3 rfl) ?_
        obtain ⟨g6, hF⟩ := q_gdi hF
        refine vj_iast hx hb hst.k hP hD hS 1 0 rfl rfl (f := x.1.1) (k := ((37 + (8 * p1)) + v5).toNatClampNeg) rfl g6 dX11_addsTone_57 (fun u7 eu7 H locs hP hD hS => ?_)
        have hF := q_lti eu7 hF
        have hP : va_P E.1 vwCl (List.flatten [w_Model E a o ((u7, x.1.2.1, x.1.2.2.1, x.1.2.2.2.1, x.1.2.2.2.2), (x.2.1.1, x.2.1.2.1, x.2.1.2.2.1, x.2.1.2.2.2.1, x.2.1.2.2.2.2), (x.2.2.1.1, x.2.2.1.2.1, x.2.2.1.2.2.1, x.2.2.1.2.2.2), (x.2.2.2.1, x.2.2.2.2.1, x.2.2.2.2.2.1, x.2.2.2.2.2.2))]) H := hP
        have hD : va_D A (List.flatten [w_Model E a o ((u7, x.1.2.1, x.1.2.2.1, x.1.2.2.2.1, x.1.2.2.2.2), (x.2.1.1, x.2.1.2.1, x.2.1.2.2.1, x.2.1.2.2.2.1, x.2.1.2.2.2.2), (x.2.2.1.1, x.2.2.1.2.1, x.2.2.1.2.2.1, x.2.2.1.2.2.2), (x.2.2.2.1, x.2.2.2.2.1, x.2.2.2.2.2.1, x.2.2.2.2.2.2))]) := hD
        refine lv_aload_n hx hb dX11_addsTone_58 rfl (lv_at hl 1 rfl) ?_
        refine va_get (D := E.1) (ci := 13) (v := .ref (a (o + 1))) (C := RX11) (T := TX11) (N := 18) hx hb ha in_X11 hown hst.k hP 0 rfl rfl 0 (by decide) (ha _ mw1636) (fun _ h9 => h9) rfl dX11_addsTone_59 ?_
        refine lv_bipush (v := 33) hx hb dX11_addsTone_62 (by decide) ?_
        refine lv_iload_n hx hb dX11_addsTone_64 rfl (lv_at hl 2 rfl) ?_
        refine lv_iadd hx hb dX11_addsTone_65 ?_
        refine lv_dup2_11 hx hb dX11_addsTone_66 rfl rfl ?_
        obtain ⟨g8, hF⟩ := q_gdi hF
        refine vi_iald hx hb hst.k hP 1 0 rfl rfl (f := u7) (k := (33 + p1).toNatClampNeg) rfl g8 dX11_addsTone_67 ?_
        refine lv_iconst (v := 1) hx hb dX11_addsTone_68 (by decide) ?_
        refine lv_iadd hx hb dX11_addsTone_69 ?_
        obtain ⟨g9, hF⟩ := q_gdi hF
        refine vj_iast hx hb hst.k hP hD hS 1 0 rfl rfl (f := u7) (k := (33 + p1).toNatClampNeg) rfl g9 dX11_addsTone_70 (fun u10 eu10 H locs hP hD hS => ?_)
        have hF := q_lti eu10 hF
        have hP : va_P E.1 vwCl (List.flatten [w_Model E a o ((u10, x.1.2.1, x.1.2.2.1, x.1.2.2.2.1, x.1.2.2.2.2), (x.2.1.1, x.2.1.2.1, x.2.1.2.2.1, x.2.1.2.2.2.1, x.2.1.2.2.2.2), (x.2.2.1.1, x.2.2.1.2.1, x.2.2.1.2.2.1, x.2.2.1.2.2.2), (x.2.2.2.1, x.2.2.2.2.1, x.2.2.2.2.2.1, x.2.2.2.2.2.2))]) H := hP
        have hD : va_D A (List.flatten [w_Model E a o ((u10, x.1.2.1, x.1.2.2.1, x.1.2.2.2.1, x.1.2.2.2.2), (x.2.1.1, x.2.1.2.1, x.2.1.2.2.1, x.2.1.2.2.2.1, x.2.1.2.2.2.2), (x.2.2.1.1, x.2.2.1.2.1, x.2.2.1.2.2.1, x.2.2.1.2.2.2), (x.2.2.2.1, x.2.2.2.2.1, x.2.2.2.2.2.1, x.2.2.2.2.2.2))]) := hD
        refine lv_aload_n hx hb dX11_addsTone_71 rfl (lv_at hl 1 rfl) ?_
        refine lv_iload_n hx hb dX11_addsTone_72 rfl (lv_at hl 0 rfl) ?_
        refine lv_iconst (v := 1) hx hb dX11_addsTone_73 (by decide) ?_
        refine lv_iadd hx hb dX11_addsTone_74 ?_
        obtain ⟨q11, hq11, hF⟩ := q_bdi hF
        refine cl_i (Lc := [w_Model E a o ((u10, x.1.2.1, x.1.2.2.1, x.1.2.2.2.1, x.1.2.2.2.2), (x.2.1.1, x.2.1.2.1, x.2.1.2.2.1, x.2.1.2.2.2.1, x.2.1.2.2.2.2), (x.2.2.1.1, x.2.2.1.2.1, x.2.2.1.2.2.1, x.2.2.1.2.2.2), (x.2.2.2.1, x.2.2.2.2.1, x.2.2.2.2.2.1, x.2.2.2.2.2.2))]) (Lc' := [w_Model E a o ((u10, x.1.2.1, x.1.2.2.1, x.1.2.2.2.1, x.1.2.2.2.2), (x.2.1.1, x.2.1.2.1, x.2.1.2.2.1, x.2.1.2.2.2.1, x.2.1.2.2.2.2), (x.2.2.1.1, x.2.2.1.2.1, x.2.2.1.2.2.1, x.2.2.1.2.2.2), (q11.2, x.2.2.2.2.1, x.2.2.2.2.2.1, x.2.2.2.2.2.2))]) (L' := [w_Model E a o ((u10, x.1.2.1, x.1.2.2.1, x.1.2.2.2.1, x.1.2.2.2.2), (x.2.1.1, x.2.1.2.1, x.2.1.2.2.1, x.2.1.2.2.2.1, x.2.1.2.2.2.2), (x.2.2.1.1, x.2.2.1.2.1, x.2.2.1.2.2.1, x.2.2.1.2.2.2), (q11.2, x.2.2.2.2.1, x.2.2.2.2.2.1, x.2.2.2.2.2.2))]) (rv := q11.1) (va_runV (As := [.int (v5 + 1)]) (rest := []) ⟨hx, hb, hml, hown, ha⟩ (k_X11_done l E a o ((u10, x.1.2.1, x.1.2.2.1, x.1.2.2.2.1, x.1.2.2.2.2), (x.2.1.1, x.2.1.2.1, x.2.1.2.2.1, x.2.1.2.2.2.1, x.2.1.2.2.2.2), (x.2.2.1.1, x.2.2.1.2.1, x.2.2.1.2.2.1, x.2.2.1.2.2.2), (x.2.2.2.1, x.2.2.2.2.1, x.2.2.2.2.2.1, x.2.2.2.2.2.2)) (v5 + 1) q11 hq11 H.size) (cwV 1 ha (gi_V (fun _ h => h) mw1720 mw1722 mw30 mw87 mw1723) rfl rfl rfl hv_X11_done ⟨(Nat.le_of_ble_eq_true rfl), (Nat.le_of_ble_eq_true rfl)⟩) ⟨pre_blind, va_recv hst.k (fr_P hP [0] rfl) (ci := 13) (q0 := 0) rfl rfl, pre_at hP hD hS hz hzs hst [0] (by decide) rfl rfl⟩ rfl rfl hl.1 rfl (lv_room (Nat.le_of_ble_eq_true rfl)) dX11_addsTone_75 ⟨(Nat.le_of_ble_eq_true rfl), (Nat.le_of_ble_eq_true rfl)⟩) hP hD hS hA [0] (by decide) rfl rfl rfl rfl (fun H locs hP hD hS => ?_)
        obtain rfl := Option.some.inj hF
        exact en_i hQ (Nat.le_of_ble_eq_true rfl) (Nat.le_of_ble_eq_true rfl) hx hb hr hlocks hP hD hS rfl dX11_addsTone_78
      · have hF := q_brp c34 hF
        refine lv_aload_n hx hb dX11_addsTone_37 rfl (lv_at hl 1 rfl) ?_
        refine lv_iconst (v := 2) hx hb dX11_addsTone_38 (by decide) ?_
        obtain ⟨q12, hq12, hF⟩ := q_bdi hF
        refine cl_i (Lc := [w_Model E a o x]) (Lc' := [w_Model E a o ((x.1.1, x.1.2.1, x.1.2.2.1, x.1.2.2.2.1, x.1.2.2.2.2), (x.2.1.1, x.2.1.2.1, x.2.1.2.2.1, x.2.1.2.2.2.1, x.2.1.2.2.2.2), (x.2.2.1.1, x.2.2.1.2.1, x.2.2.1.2.2.1, x.2.2.1.2.2.2), (q12.2, x.2.2.2.2.1, x.2.2.2.2.2.1, x.2.2.2.2.2.2))]) (L' := [w_Model E a o ((x.1.1, x.1.2.1, x.1.2.2.1, x.1.2.2.2.1, x.1.2.2.2.2), (x.2.1.1, x.2.1.2.1, x.2.1.2.2.1, x.2.1.2.2.2.1, x.2.1.2.2.2.2), (x.2.2.1.1, x.2.2.1.2.1, x.2.2.1.2.2.1, x.2.2.1.2.2.2), (q12.2, x.2.2.2.2.1, x.2.2.2.2.2.1, x.2.2.2.2.2.2))]) (rv := q12.1) (va_runV (As := [.int 2]) (rest := []) ⟨hx, hb, hml, hown, ha⟩ (k_X11_fails l E a o x 2 q12 hq12 H.size) (cwV 1 ha (gi_V (fun _ h => h) mw1716 mw1718 mw29 mw87 mw1719) rfl rfl rfl hv_X11_fails ⟨(Nat.le_of_ble_eq_true rfl), (Nat.le_of_ble_eq_true rfl)⟩) ⟨pre_blind, va_recv hst.k (fr_P hP [0] rfl) (ci := 13) (q0 := 0) rfl rfl, pre_at hP hD hS hz hzs hst [0] (by decide) rfl rfl⟩ rfl rfl hl.1 rfl (lv_room (Nat.le_of_ble_eq_true rfl)) dX11_addsTone_39 ⟨(Nat.le_of_ble_eq_true rfl), (Nat.le_of_ble_eq_true rfl)⟩) hP hD hS hA [0] (by decide) rfl rfl rfl rfl (fun H locs hP hD hS => ?_)
        obtain rfl := Option.some.inj hF
        exact en_i hQ (Nat.le_of_ble_eq_true rfl) (Nat.le_of_ble_eq_true rfl) hx hb hr hlocks hP hD hS rfl dX11_addsTone_42
    · have hF := q_brp c12 hF
      refine lv_aload_n hx hb dX11_addsTone_15 rfl (lv_at hl 0 rfl) ?_
      refine lv_iconst (v := 1) hx hb dX11_addsTone_16 (by decide) ?_
      obtain ⟨q13, hq13, hF⟩ := q_bdi hF
      refine cl_i (Lc := [w_Model E a o x]) (Lc' := [w_Model E a o ((x.1.1, x.1.2.1, x.1.2.2.1, x.1.2.2.2.1, x.1.2.2.2.2), (x.2.1.1, x.2.1.2.1, x.2.1.2.2.1, x.2.1.2.2.2.1, x.2.1.2.2.2.2), (x.2.2.1.1, x.2.2.1.2.1, x.2.2.1.2.2.1, x.2.2.1.2.2.2), (q13.2, x.2.2.2.2.1, x.2.2.2.2.2.1, x.2.2.2.2.2.2))]) (L' := [w_Model E a o ((x.1.1, x.1.2.1, x.1.2.2.1, x.1.2.2.2.1, x.1.2.2.2.2), (x.2.1.1, x.2.1.2.1, x.2.1.2.2.1, x.2.1.2.2.2.1, x.2.1.2.2.2.2), (x.2.2.1.1, x.2.2.1.2.1, x.2.2.1.2.2.1, x.2.2.1.2.2.2), (q13.2, x.2.2.2.2.1, x.2.2.2.2.2.1, x.2.2.2.2.2.2))]) (rv := q13.1) (va_runV (As := [.int 1]) (rest := []) ⟨hx, hb, hml, hown, ha⟩ (k_X11_fails l E a o x 1 q13 hq13 H.size) (cwV 1 ha (gi_V (fun _ h => h) mw1716 mw1718 mw29 mw87 mw1719) rfl rfl rfl hv_X11_fails ⟨(Nat.le_of_ble_eq_true rfl), (Nat.le_of_ble_eq_true rfl)⟩) ⟨pre_blind, va_recv hst.k (fr_P hP [0] rfl) (ci := 13) (q0 := 0) rfl rfl, pre_at hP hD hS hz hzs hst [0] (by decide) rfl rfl⟩ rfl rfl hl.1 rfl (lv_room (Nat.le_of_ble_eq_true rfl)) dX11_addsTone_17 ⟨(Nat.le_of_ble_eq_true rfl), (Nat.le_of_ble_eq_true rfl)⟩) hP hD hS hA [0] (by decide) rfl rfl rfl rfl (fun H locs hP hD hS => ?_)
      obtain rfl := Option.some.inj hF
      exact en_i hQ (Nat.le_of_ble_eq_true rfl) (Nat.le_of_ble_eq_true rfl) hx hb hr hlocks hP hD hS rfl dX11_addsTone_20

/-! X11_clears -/
theorem dX11_clears_0 : decode cX11_clears 0 = .ok (.iload_n 1, 1) := by decide +kernel
theorem dX11_clears_1 : decode cX11_clears 1 = .ok (.invokestatic 76, 3) := by decide +kernel
theorem dX11_clears_4 : decode cX11_clears 4 = .ok (.ifCond .ne 9, 3) := by decide +kernel
theorem dX11_clears_7 : decode cX11_clears 7 = .ok (.aload_n 0, 1) := by decide +kernel
theorem dX11_clears_8 : decode cX11_clears 8 = .ok (.iconst 1, 1) := by decide +kernel
theorem dX11_clears_9 : decode cX11_clears 9 = .ok (.invokevirtual 80, 3) := by decide +kernel
theorem dX11_clears_12 : decode cX11_clears 12 = .ok (.ireturn, 1) := by decide +kernel
theorem dX11_clears_13 : decode cX11_clears 13 = .ok (.aload_n 0, 1) := by decide +kernel
theorem dX11_clears_14 : decode cX11_clears 14 = .ok (.getfield 7, 3) := by decide +kernel
theorem dX11_clears_17 : decode cX11_clears 17 = .ok (.bipush 33, 2) := by decide +kernel
theorem dX11_clears_19 : decode cX11_clears 19 = .ok (.iload_n 1, 1) := by decide +kernel
theorem dX11_clears_20 : decode cX11_clears 20 = .ok (.iadd, 1) := by decide +kernel
theorem dX11_clears_21 : decode cX11_clears 21 = .ok (.iaload, 1) := by decide +kernel
theorem dX11_clears_22 : decode cX11_clears 22 = .ok (.istore_n 2, 1) := by decide +kernel
theorem dX11_clears_23 : decode cX11_clears 23 = .ok (.iconst 0, 1) := by decide +kernel
theorem dX11_clears_24 : decode cX11_clears 24 = .ok (.istore_n 3, 1) := by decide +kernel
theorem dX11_clears_25 : decode cX11_clears 25 = .ok (.iload_n 3, 1) := by decide +kernel
theorem dX11_clears_26 : decode cX11_clears 26 = .ok (.bipush 8, 2) := by decide +kernel
theorem dX11_clears_28 : decode cX11_clears 28 = .ok (.if_icmp .ge 24, 3) := by decide +kernel
theorem dX11_clears_31 : decode cX11_clears 31 = .ok (.aload_n 0, 1) := by decide +kernel
theorem dX11_clears_32 : decode cX11_clears 32 = .ok (.getfield 7, 3) := by decide +kernel
theorem dX11_clears_35 : decode cX11_clears 35 = .ok (.bipush 37, 2) := by decide +kernel
theorem dX11_clears_37 : decode cX11_clears 37 = .ok (.bipush 8, 2) := by decide +kernel
theorem dX11_clears_39 : decode cX11_clears 39 = .ok (.iload_n 1, 1) := by decide +kernel
theorem dX11_clears_40 : decode cX11_clears 40 = .ok (.imul, 1) := by decide +kernel
theorem dX11_clears_41 : decode cX11_clears 41 = .ok (.iadd, 1) := by decide +kernel
theorem dX11_clears_42 : decode cX11_clears 42 = .ok (.iload_n 3, 1) := by decide +kernel
theorem dX11_clears_43 : decode cX11_clears 43 = .ok (.iadd, 1) := by decide +kernel
theorem dX11_clears_44 : decode cX11_clears 44 = .ok (.iconst 0, 1) := by decide +kernel
theorem dX11_clears_45 : decode cX11_clears 45 = .ok (.iastore, 1) := by decide +kernel
theorem dX11_clears_46 : decode cX11_clears 46 = .ok (.iinc 3 1, 3) := by decide +kernel
theorem dX11_clears_49 : decode cX11_clears 49 = .ok (.goto (-24), 3) := by decide +kernel
theorem dX11_clears_52 : decode cX11_clears 52 = .ok (.aload_n 0, 1) := by decide +kernel
theorem dX11_clears_53 : decode cX11_clears 53 = .ok (.getfield 7, 3) := by decide +kernel
theorem dX11_clears_56 : decode cX11_clears 56 = .ok (.bipush 33, 2) := by decide +kernel
theorem dX11_clears_58 : decode cX11_clears 58 = .ok (.iload_n 1, 1) := by decide +kernel
theorem dX11_clears_59 : decode cX11_clears 59 = .ok (.iadd, 1) := by decide +kernel
theorem dX11_clears_60 : decode cX11_clears 60 = .ok (.iconst 0, 1) := by decide +kernel
theorem dX11_clears_61 : decode cX11_clears 61 = .ok (.iastore, 1) := by decide +kernel
theorem dX11_clears_62 : decode cX11_clears 62 = .ok (.aload_n 0, 1) := by decide +kernel
theorem dX11_clears_63 : decode cX11_clears 63 = .ok (.iload_n 2, 1) := by decide +kernel
theorem dX11_clears_64 : decode cX11_clears 64 = .ok (.invokevirtual 83, 3) := by decide +kernel
theorem dX11_clears_67 : decode cX11_clears 67 = .ok (.ireturn, 1) := by decide +kernel
def f_X11_clears_L25 (p1 : Int32) (K25 : (Nat → Int32) → Option (Int32 × (Nat → Int32) × Int32)) : Nat → Int32 → (Nat → Int32) → Option (Int32 × (Nat → Int32) × Int32)
  | 0, _, _ => none
  | n25 + 1, i4, i5 =>
    q_br (8 ≤ i4) (
  K25 i5) (
  q_gd (q_in ((37 + (8 * p1)) + i4) 77) (
  q_lt (upd i5 (((37 + (8 * p1)) + i4).toNatClampNeg) 0) (fun u8 =>
  q_lt (i4 + 1 : Int32) (fun v9 =>
  f_X11_clears_L25 p1 K25 n25 v9 u8))))
def f_X11_clears (x_g : (Nat → Int32)) (x_thrown : Int32) (p1 : Int32) : Option (Int32 × (Nat → Int32) × Int32) :=
  q_bd (f_X11_isHerd p1) (fun q1 =>
  q_br (q1 = 0) (
  q_bd (f_X11_fails x_thrown 1) (fun q13 =>
  some (q13.1, x_g, q13.2))) (
  q_gd (q_in (33 + p1) 77) (
  q_lt (x_g ((33 + p1).toNatClampNeg) : Int32) (fun v3 =>
  f_X11_clears_L25 p1 (fun y6 =>
  q_gd (q_in (33 + p1) 77) (
  q_lt (upd y6 ((33 + p1).toNatClampNeg) 0) (fun u11 =>
  q_bd (f_X11_done x_thrown v3) (fun q12 =>
  some (q12.1, u11, q12.2))))) 2000 0 x_g))))
theorem hv_X11_clears : yX11_clears.cls = RX11 ∧ yX11_clears.cls ≠ "java/lang/invoke/MethodHandle" ∧ yX11_clears.cls ≠ "java/lang/invoke/VarHandle" ∧ (parseMethodDescriptor yX11_clears.desc).map (fun d => d.parameters.length) = some 1 := by decide +kernel
abbrev rm_X11_clears : Room := { frames := 2, cells := 0, slots := 0, locals := 42 }
set_option maxHeartbeats 4000000 in
set_option maxRecDepth 100000 in
theorem k_X11_clears (l : Launch) (E : ET) (a : Nat → Nat) (o : Nat) (x : Model_t) (p1 : Int32) (res : Int32 × (Nat → Int32) × Int32) (hF : f_X11_clears x.1.1 x.2.2.2.1 p1 = some res) (sz : Nat) : CtI l yX11_clears (mws yX11_clears cX11_clears 4 (some .int)) rm_X11_clears 0 0 [.ref (a o), .int p1] E (bl_Model E a o x) res.1 (bl_Model E a o ((res.2.1, x.1.2.1, x.1.2.2.1, x.1.2.2.2.1, x.1.2.2.2.2), (x.2.1.1, x.2.1.2.1, x.2.1.2.2.1, x.2.1.2.2.2.1, x.2.1.2.2.2.2), (x.2.2.1.1, x.2.2.1.2.1, x.2.2.1.2.2.1, x.2.2.1.2.2.2), (res.2.2, x.2.2.2.2.1, x.2.2.2.2.2.1, x.2.2.2.2.2.2))) sz := by
  refine mk_M (by decide +kernel) (Nat.le_of_ble_eq_true rfl) ?_
  intro p e s m below meth c A args Q ls hAe hsz hQ hx hb hr hml hin ha hown hlocks hA hz hzs hst hP hD hS hl
  have hown : s.vm.findClass RX11 = some m.cls := hown
  rw [hAe] at hQ
  subst hsz
  have hP : va_P E.1 vwCl (List.flatten [w_Model E a o x]) s.heap := hP
  have hD : va_D A (List.flatten [w_Model E a o x]) := hD
  have hl : lv_has ls 4 [(0, .ref (a o)), (1, .int p1)] := hl
  generalize hHe : s.heap = H at hP
  have hS : va_S A s.heap H [] := by rw [← hHe]; exact hS
  generalize ([] : List Loc) = locs at hS ⊢
  unfold f_X11_clears at hF
  refine lv_iload_n hx hb dX11_clears_0 rfl (lv_at hl 1 rfl) ?_
  obtain ⟨q1, hq1, hF⟩ := q_bdi hF
  refine cl_i (Lc := []) (Lc' := []) (L' := [w_Model E a o x]) (rv := q1) (va_runS (As := [.int p1]) (rest := []) ⟨hx, hb, hml, hown, ha⟩ (k_X11_isHerd l E p1 q1 hq1 H.size) (cwS 1 ha (gi_S (fun _ h => h) mw1710 mw1711 mw87 mw1712) rfl rfl rfl hv_X11_isHerd ⟨(Nat.le_of_ble_eq_true rfl), (Nat.le_of_ble_eq_true rfl)⟩) ⟨pre_blind, pre_at hP hD hS hz hzs hst [] (by decide) rfl rfl⟩ rfl rfl hl.1 rfl (lv_room (Nat.le_of_ble_eq_true rfl)) dX11_clears_1 ⟨(Nat.le_of_ble_eq_true rfl), (Nat.le_of_ble_eq_true rfl)⟩) hP hD hS hA [] (by decide) rfl rfl rfl rfl (fun H locs hP hD hS => ?_)
  refine lv_if_ne (tgt := 13) hx hb dX11_clears_4 (by decide) (fun c4 => ?_) (fun c4 => ?_)
  · have hF := q_brn c4 hF
    refine lv_aload_n hx hb dX11_clears_13 rfl (lv_at hl 0 rfl) ?_
    refine va_get (D := E.1) (ci := 13) (v := .ref (a (o + 1))) (C := RX11) (T := TX11) (N := 18) hx hb ha in_X11 hown hst.k hP 0 rfl rfl 0 (by decide) (ha _ mw1636) (fun _ h9 => h9) rfl dX11_clears_14 ?_
    refine lv_bipush (v := 33) hx hb dX11_clears_17 (by decide) ?_
    refine lv_iload_n hx hb dX11_clears_19 rfl (lv_at hl 1 rfl) ?_
    refine lv_iadd hx hb dX11_clears_20 ?_
    obtain ⟨g2, hF⟩ := q_gdi hF
    refine vi_iald hx hb hst.k hP 1 0 rfl rfl (f := x.1.1) (k := (33 + p1).toNatClampNeg) rfl g2 dX11_clears_21 ?_
    refine lv_topi (fun v3 ev3 => ?_)
    have hF := q_lti ev3 hF
    refine lv_istore_n (lv' := [(2, .int v3), (0, .ref (a o)), (1, .int p1)]) hx hb dX11_clears_22 rfl hl (by decide) rfl (fun ls hl => ?_)
    refine lv_iconst (v := 0) hx hb dX11_clears_23 (by decide) ?_
    refine lv_istore_n (lv' := [(3, .int 0), (2, .int v3), (0, .ref (a o)), (1, .int p1)]) hx hb dX11_clears_24 rfl hl (by decide) rfl (fun ls hl => ?_)
    have key25 : ∀ (K : (Nat → Int32) → Option (Int32 × (Nat → Int32) × Int32)), (∀ (y6 : (Nat → Int32)) (H : Heap) (locs : List Loc) (ls : Array Slot), K y6 = some res → va_P E.1 vwCl (List.flatten [w_Model E a o ((y6, x.1.2.1, x.1.2.2.1, x.1.2.2.2.1, x.1.2.2.2.2), (x.2.1.1, x.2.1.2.1, x.2.1.2.2.1, x.2.1.2.2.2.1, x.2.1.2.2.2.2), (x.2.2.1.1, x.2.2.1.2.1, x.2.2.1.2.2.1, x.2.2.1.2.2.2), (x.2.2.2.1, x.2.2.2.2.1, x.2.2.2.2.2.1, x.2.2.2.2.2.2))]) H → va_D A (List.flatten [w_Model E a o ((y6, x.1.2.1, x.1.2.2.1, x.1.2.2.2.1, x.1.2.2.2.2), (x.2.1.1, x.2.1.2.1, x.2.1.2.2.1, x.2.1.2.2.2.1, x.2.1.2.2.2.2), (x.2.2.1.1, x.2.2.1.2.1, x.2.2.1.2.2.1, x.2.2.1.2.2.2), (x.2.2.2.1, x.2.2.2.2.1, x.2.2.2.2.2.1, x.2.2.2.2.2.2))]) → va_S A s.heap H locs → lv_has ls 4 [(2, .int v3), (0, .ref (a o)), (1, .int p1)] → W p l e rm_X11_clears s m args below meth c H locs 0 0 Q (F0 m 52 ls [])) → ∀ (n : Nat) (i4 : Int32) (i5 : (Nat → Int32)) (H : Heap) (locs : List Loc) (ls : Array Slot), f_X11_clears_L25 p1 K n i4 i5 = some res → va_P E.1 vwCl (List.flatten [w_Model E a o ((i5, x.1.2.1, x.1.2.2.1, x.1.2.2.2.1, x.1.2.2.2.2), (x.2.1.1, x.2.1.2.1, x.2.1.2.2.1, x.2.1.2.2.2.1, x.2.1.2.2.2.2), (x.2.2.1.1, x.2.2.1.2.1, x.2.2.1.2.2.1, x.2.2.1.2.2.2), (x.2.2.2.1, x.2.2.2.2.1, x.2.2.2.2.2.1, x.2.2.2.2.2.2))]) H → va_D A (List.flatten [w_Model E a o ((i5, x.1.2.1, x.1.2.2.1, x.1.2.2.2.1, x.1.2.2.2.2), (x.2.1.1, x.2.1.2.1, x.2.1.2.2.1, x.2.1.2.2.2.1, x.2.1.2.2.2.2), (x.2.2.1.1, x.2.2.1.2.1, x.2.2.1.2.2.1, x.2.2.1.2.2.2), (x.2.2.2.1, x.2.2.2.2.1, x.2.2.2.2.2.1, x.2.2.2.2.2.2))]) → va_S A s.heap H locs → lv_has ls 4 [(3, .int i4), (2, .int v3), (0, .ref (a o)), (1, .int p1)] → W p l e rm_X11_clears s m args below meth c H locs 0 0 Q (F0 m 25 ls []) := by
      intro K25 hK25 n25
      induction n25 with
      | zero => intro i4 i5 H locs ls hF; exact absurd hF (by simp [f_X11_clears_L25])
      | succ n25 ih25 =>
        intro i4 i5 H locs ls hF hP hD hS hl
        rw [f_X11_clears_L25] at hF
        refine lv_iload_n hx hb dX11_clears_25 rfl (lv_at hl 0 rfl) ?_
        refine lv_bipush (v := 8) hx hb dX11_clears_26 (by decide) ?_
        refine lv_icmp_ge (tgt := 52) hx hb dX11_clears_28 (by decide) (fun c28 => ?_) (fun c28 => ?_)
        · have hF := q_brp c28 hF
          exact hK25 i5 H locs ls hF hP hD hS (lv_sub hl [1, 2, 3] rfl)
        · have hF := q_brn c28 hF
          refine lv_aload_n hx hb dX11_clears_31 rfl (lv_at hl 2 rfl) ?_
          refine va_get (D := E.1) (ci := 13) (v := .ref (a (o + 1))) (C := RX11) (T := TX11) (N := 18) hx hb ha in_X11 hown hst.k hP 0 rfl rfl 0 (by decide) (ha _ mw1636) (fun _ h9 => h9) rfl dX11_clears_32 ?_
          refine lv_bipush (v := 37) hx hb dX11_clears_35 (by decide) ?_
          refine lv_bipush (v := 8) hx hb dX11_clears_37 (by decide) ?_
          refine lv_iload_n hx hb dX11_clears_39 rfl (lv_at hl 3 rfl) ?_
          refine lv_imul hx hb dX11_clears_40 ?_
          refine lv_iadd hx hb dX11_clears_41 ?_
          refine lv_iload_n hx hb dX11_clears_42 rfl (lv_at hl 0 rfl) ?_
          refine lv_iadd hx hb dX11_clears_43 ?_
          refine lv_iconst (v := 0) hx hb dX11_clears_44 (by decide) ?_
          obtain ⟨g7, hF⟩ := q_gdi hF
          refine vj_iast hx hb hst.k hP hD hS 1 0 rfl rfl (f := i5) (k := ((37 + (8 * p1)) + i4).toNatClampNeg) rfl g7 dX11_clears_45 (fun u8 eu8 H locs hP hD hS => ?_)
          have hF := q_lti eu8 hF
          have hP : va_P E.1 vwCl (List.flatten [w_Model E a o ((u8, x.1.2.1, x.1.2.2.1, x.1.2.2.2.1, x.1.2.2.2.2), (x.2.1.1, x.2.1.2.1, x.2.1.2.2.1, x.2.1.2.2.2.1, x.2.1.2.2.2.2), (x.2.2.1.1, x.2.2.1.2.1, x.2.2.1.2.2.1, x.2.2.1.2.2.2), (x.2.2.2.1, x.2.2.2.2.1, x.2.2.2.2.2.1, x.2.2.2.2.2.2))]) H := hP
          have hD : va_D A (List.flatten [w_Model E a o ((u8, x.1.2.1, x.1.2.2.1, x.1.2.2.2.1, x.1.2.2.2.2), (x.2.1.1, x.2.1.2.1, x.2.1.2.2.1, x.2.1.2.2.2.1, x.2.1.2.2.2.2), (x.2.2.1.1, x.2.2.1.2.1, x.2.2.1.2.2.1, x.2.2.1.2.2.2), (x.2.2.2.1, x.2.2.2.2.1, x.2.2.2.2.2.1, x.2.2.2.2.2.2))]) := hD
          obtain ⟨v9, ev9⟩ : ∃ y : Int32, y = i4 + 1 := ⟨_, rfl⟩
          have hF := q_lti ev9 hF
          refine lv_iinc (v := v9) (lv' := [(3, .int v9), (2, .int v3), (0, .ref (a o)), (1, .int p1)]) hx hb dX11_clears_46 hl (k := 0) rfl (by rw [ev9]; rfl) (by decide) rfl (fun ls hl => ?_)
          refine lv_goto (tgt := 25) hx hb dX11_clears_49 (by decide) ?_
          exact ih25 v9 u8 H locs ls hF hP hD hS (lv_sub hl [0, 1, 2, 3] rfl)
    refine key25 _ ?_ _ 0 x.1.1 H locs ls hF hP hD hS (lv_sub hl [0, 1, 2, 3] rfl)
    intro y6 H locs ls hF hP hD hS hl
    refine lv_aload_n hx hb dX11_clears_52 rfl (lv_at hl 1 rfl) ?_
    refine va_get (D := E.1) (ci := 13) (v := .ref (a (o + 1))) (C := RX11) (T := TX11) (N := 18) hx hb ha in_X11 hown hst.k hP 0 rfl rfl 0 (by decide) (ha _ mw1636) (fun _ h9 => h9) rfl dX11_clears_53 ?_
    refine lv_bipush (v := 33) hx hb dX11_clears_56 (by decide) ?_
    refine lv_iload_n hx hb dX11_clears_58 rfl (lv_at hl 2 rfl) ?_
    refine lv_iadd hx hb dX11_clears_59 ?_
    refine lv_iconst (v := 0) hx hb dX11_clears_60 (by decide) ?_
    obtain ⟨g10, hF⟩ := q_gdi hF
    refine vj_iast hx hb hst.k hP hD hS 1 0 rfl rfl (f := y6) (k := (33 + p1).toNatClampNeg) rfl g10 dX11_clears_61 (fun u11 eu11 H locs hP hD hS => ?_)
    have hF := q_lti eu11 hF
    have hP : va_P E.1 vwCl (List.flatten [w_Model E a o ((u11, x.1.2.1, x.1.2.2.1, x.1.2.2.2.1, x.1.2.2.2.2), (x.2.1.1, x.2.1.2.1, x.2.1.2.2.1, x.2.1.2.2.2.1, x.2.1.2.2.2.2), (x.2.2.1.1, x.2.2.1.2.1, x.2.2.1.2.2.1, x.2.2.1.2.2.2), (x.2.2.2.1, x.2.2.2.2.1, x.2.2.2.2.2.1, x.2.2.2.2.2.2))]) H := hP
    have hD : va_D A (List.flatten [w_Model E a o ((u11, x.1.2.1, x.1.2.2.1, x.1.2.2.2.1, x.1.2.2.2.2), (x.2.1.1, x.2.1.2.1, x.2.1.2.2.1, x.2.1.2.2.2.1, x.2.1.2.2.2.2), (x.2.2.1.1, x.2.2.1.2.1, x.2.2.1.2.2.1, x.2.2.1.2.2.2), (x.2.2.2.1, x.2.2.2.2.1, x.2.2.2.2.2.1, x.2.2.2.2.2.2))]) := hD
    refine lv_aload_n hx hb dX11_clears_62 rfl (lv_at hl 1 rfl) ?_
    refine lv_iload_n hx hb dX11_clears_63 rfl (lv_at hl 0 rfl) ?_
    obtain ⟨q12, hq12, hF⟩ := q_bdi hF
    refine cl_i (Lc := [w_Model E a o ((u11, x.1.2.1, x.1.2.2.1, x.1.2.2.2.1, x.1.2.2.2.2), (x.2.1.1, x.2.1.2.1, x.2.1.2.2.1, x.2.1.2.2.2.1, x.2.1.2.2.2.2), (x.2.2.1.1, x.2.2.1.2.1, x.2.2.1.2.2.1, x.2.2.1.2.2.2), (x.2.2.2.1, x.2.2.2.2.1, x.2.2.2.2.2.1, x.2.2.2.2.2.2))]) (Lc' := [w_Model E a o ((u11, x.1.2.1, x.1.2.2.1, x.1.2.2.2.1, x.1.2.2.2.2), (x.2.1.1, x.2.1.2.1, x.2.1.2.2.1, x.2.1.2.2.2.1, x.2.1.2.2.2.2), (x.2.2.1.1, x.2.2.1.2.1, x.2.2.1.2.2.1, x.2.2.1.2.2.2), (q12.2, x.2.2.2.2.1, x.2.2.2.2.2.1, x.2.2.2.2.2.2))]) (L' := [w_Model E a o ((u11, x.1.2.1, x.1.2.2.1, x.1.2.2.2.1, x.1.2.2.2.2), (x.2.1.1, x.2.1.2.1, x.2.1.2.2.1, x.2.1.2.2.2.1, x.2.1.2.2.2.2), (x.2.2.1.1, x.2.2.1.2.1, x.2.2.1.2.2.1, x.2.2.1.2.2.2), (q12.2, x.2.2.2.2.1, x.2.2.2.2.2.1, x.2.2.2.2.2.2))]) (rv := q12.1) (va_runV (As := [.int v3]) (rest := []) ⟨hx, hb, hml, hown, ha⟩ (k_X11_done l E a o ((u11, x.1.2.1, x.1.2.2.1, x.1.2.2.2.1, x.1.2.2.2.2), (x.2.1.1, x.2.1.2.1, x.2.1.2.2.1, x.2.1.2.2.2.1, x.2.1.2.2.2.2), (x.2.2.1.1, x.2.2.1.2.1, x.2.2.1.2.2.1, x.2.2.1.2.2.2), (x.2.2.2.1, x.2.2.2.2.1, x.2.2.2.2.2.1, x.2.2.2.2.2.2)) v3 q12 hq12 H.size) (cwV 1 ha (gi_V (fun _ h => h) mw1720 mw1722 mw30 mw87 mw1723) rfl rfl rfl hv_X11_done ⟨(Nat.le_of_ble_eq_true rfl), (Nat.le_of_ble_eq_true rfl)⟩) ⟨pre_blind, va_recv hst.k (fr_P hP [0] rfl) (ci := 13) (q0 := 0) rfl rfl, pre_at hP hD hS hz hzs hst [0] (by decide) rfl rfl⟩ rfl rfl hl.1 rfl (lv_room (Nat.le_of_ble_eq_true rfl)) dX11_clears_64 ⟨(Nat.le_of_ble_eq_true rfl), (Nat.le_of_ble_eq_true rfl)⟩) hP hD hS hA [0] (by decide) rfl rfl rfl rfl (fun H locs hP hD hS => ?_)
    obtain rfl := Option.some.inj hF
    exact en_i hQ (Nat.le_of_ble_eq_true rfl) (Nat.le_of_ble_eq_true rfl) hx hb hr hlocks hP hD hS rfl dX11_clears_67
  · have hF := q_brp c4 hF
    refine lv_aload_n hx hb dX11_clears_7 rfl (lv_at hl 0 rfl) ?_
    refine lv_iconst (v := 1) hx hb dX11_clears_8 (by decide) ?_
    obtain ⟨q13, hq13, hF⟩ := q_bdi hF
    refine cl_i (Lc := [w_Model E a o x]) (Lc' := [w_Model E a o ((x.1.1, x.1.2.1, x.1.2.2.1, x.1.2.2.2.1, x.1.2.2.2.2), (x.2.1.1, x.2.1.2.1, x.2.1.2.2.1, x.2.1.2.2.2.1, x.2.1.2.2.2.2), (x.2.2.1.1, x.2.2.1.2.1, x.2.2.1.2.2.1, x.2.2.1.2.2.2), (q13.2, x.2.2.2.2.1, x.2.2.2.2.2.1, x.2.2.2.2.2.2))]) (L' := [w_Model E a o ((x.1.1, x.1.2.1, x.1.2.2.1, x.1.2.2.2.1, x.1.2.2.2.2), (x.2.1.1, x.2.1.2.1, x.2.1.2.2.1, x.2.1.2.2.2.1, x.2.1.2.2.2.2), (x.2.2.1.1, x.2.2.1.2.1, x.2.2.1.2.2.1, x.2.2.1.2.2.2), (q13.2, x.2.2.2.2.1, x.2.2.2.2.2.1, x.2.2.2.2.2.2))]) (rv := q13.1) (va_runV (As := [.int 1]) (rest := []) ⟨hx, hb, hml, hown, ha⟩ (k_X11_fails l E a o x 1 q13 hq13 H.size) (cwV 1 ha (gi_V (fun _ h => h) mw1716 mw1718 mw29 mw87 mw1719) rfl rfl rfl hv_X11_fails ⟨(Nat.le_of_ble_eq_true rfl), (Nat.le_of_ble_eq_true rfl)⟩) ⟨pre_blind, va_recv hst.k (fr_P hP [0] rfl) (ci := 13) (q0 := 0) rfl rfl, pre_at hP hD hS hz hzs hst [0] (by decide) rfl rfl⟩ rfl rfl hl.1 rfl (lv_room (Nat.le_of_ble_eq_true rfl)) dX11_clears_9 ⟨(Nat.le_of_ble_eq_true rfl), (Nat.le_of_ble_eq_true rfl)⟩) hP hD hS hA [0] (by decide) rfl rfl rfl rfl (fun H locs hP hD hS => ?_)
    obtain rfl := Option.some.inj hF
    exact en_i hQ (Nat.le_of_ble_eq_true rfl) (Nat.le_of_ble_eq_true rfl) hx hb hr hlocks hP hD hS rfl dX11_clears_12

/-! X11_enters -/
theorem dX11_enters_0 : decode cX11_enters 0 = .ok (.iload_n 1, 1) := by decide +kernel
theorem dX11_enters_1 : decode cX11_enters 1 = .ok (.invokestatic 76, 3) := by decide +kernel
theorem dX11_enters_4 : decode cX11_enters 4 = .ok (.ifCond .ne 9, 3) := by decide +kernel
theorem dX11_enters_7 : decode cX11_enters 7 = .ok (.aload_n 0, 1) := by decide +kernel
theorem dX11_enters_8 : decode cX11_enters 8 = .ok (.iconst 1, 1) := by decide +kernel
theorem dX11_enters_9 : decode cX11_enters 9 = .ok (.invokevirtual 80, 3) := by decide +kernel
theorem dX11_enters_12 : decode cX11_enters 12 = .ok (.ireturn, 1) := by decide +kernel
theorem dX11_enters_13 : decode cX11_enters 13 = .ok (.iload_n 2, 1) := by decide +kernel
theorem dX11_enters_14 : decode cX11_enters 14 = .ok (.iconst 0, 1) := by decide +kernel
theorem dX11_enters_15 : decode cX11_enters 15 = .ok (.bipush 15, 2) := by decide +kernel
theorem dX11_enters_17 : decode cX11_enters 17 = .ok (.invokestatic 52, 3) := by decide +kernel
theorem dX11_enters_20 : decode cX11_enters 20 = .ok (.ifCond .ne 9, 3) := by decide +kernel
theorem dX11_enters_23 : decode cX11_enters 23 = .ok (.aload_n 0, 1) := by decide +kernel
theorem dX11_enters_24 : decode cX11_enters 24 = .ok (.iconst 2, 1) := by decide +kernel
theorem dX11_enters_25 : decode cX11_enters 25 = .ok (.invokevirtual 80, 3) := by decide +kernel
theorem dX11_enters_28 : decode cX11_enters 28 = .ok (.ireturn, 1) := by decide +kernel
theorem dX11_enters_29 : decode cX11_enters 29 = .ok (.aload_n 0, 1) := by decide +kernel
theorem dX11_enters_30 : decode cX11_enters 30 = .ok (.getfield 7, 3) := by decide +kernel
theorem dX11_enters_33 : decode cX11_enters 33 = .ok (.bipush 29, 2) := by decide +kernel
theorem dX11_enters_35 : decode cX11_enters 35 = .ok (.iload_n 1, 1) := by decide +kernel
theorem dX11_enters_36 : decode cX11_enters 36 = .ok (.iadd, 1) := by decide +kernel
theorem dX11_enters_37 : decode cX11_enters 37 = .ok (.iaload, 1) := by decide +kernel
theorem dX11_enters_38 : decode cX11_enters 38 = .ok (.istore_n 3, 1) := by decide +kernel
theorem dX11_enters_39 : decode cX11_enters 39 = .ok (.aload_n 0, 1) := by decide +kernel
theorem dX11_enters_40 : decode cX11_enters 40 = .ok (.getfield 7, 3) := by decide +kernel
theorem dX11_enters_43 : decode cX11_enters 43 = .ok (.bipush 29, 2) := by decide +kernel
theorem dX11_enters_45 : decode cX11_enters 45 = .ok (.iload_n 1, 1) := by decide +kernel
theorem dX11_enters_46 : decode cX11_enters 46 = .ok (.iadd, 1) := by decide +kernel
theorem dX11_enters_47 : decode cX11_enters 47 = .ok (.iload_n 2, 1) := by decide +kernel
theorem dX11_enters_48 : decode cX11_enters 48 = .ok (.iastore, 1) := by decide +kernel
theorem dX11_enters_49 : decode cX11_enters 49 = .ok (.aload_n 0, 1) := by decide +kernel
theorem dX11_enters_50 : decode cX11_enters 50 = .ok (.iload_n 3, 1) := by decide +kernel
theorem dX11_enters_51 : decode cX11_enters 51 = .ok (.invokevirtual 83, 3) := by decide +kernel
theorem dX11_enters_54 : decode cX11_enters 54 = .ok (.ireturn, 1) := by decide +kernel
def f_X11_enters (x_g : (Nat → Int32)) (x_thrown : Int32) (p1 : Int32) (p2 : Int32) : Option (Int32 × (Nat → Int32) × Int32) :=
  q_bd (f_X11_isHerd p1) (fun q1 =>
  q_br (q1 = 0) (
  q_bd (f_X11_fails x_thrown 1) (fun q9 =>
  some (q9.1, x_g, q9.2))) (
  q_bd (f_X11_in p2 0 15) (fun q2 =>
  q_br (q2 = 0) (
  q_bd (f_X11_fails x_thrown 2) (fun q8 =>
  some (q8.1, x_g, q8.2))) (
  q_gd (q_in (29 + p1) 77) (
  q_lt (x_g ((29 + p1).toNatClampNeg) : Int32) (fun v4 =>
  q_gd (q_in (29 + p1) 77) (
  q_lt (upd x_g ((29 + p1).toNatClampNeg) p2) (fun u6 =>
  q_bd (f_X11_done x_thrown v4) (fun q7 =>
  some (q7.1, u6, q7.2))))))))))
theorem hv_X11_enters : yX11_enters.cls = RX11 ∧ yX11_enters.cls ≠ "java/lang/invoke/MethodHandle" ∧ yX11_enters.cls ≠ "java/lang/invoke/VarHandle" ∧ (parseMethodDescriptor yX11_enters.desc).map (fun d => d.parameters.length) = some 2 := by decide +kernel
abbrev rm_X11_enters : Room := { frames := 2, cells := 0, slots := 0, locals := 42 }
set_option maxHeartbeats 4000000 in
set_option maxRecDepth 100000 in
theorem k_X11_enters (l : Launch) (E : ET) (a : Nat → Nat) (o : Nat) (x : Model_t) (p1 : Int32) (p2 : Int32) (res : Int32 × (Nat → Int32) × Int32) (hF : f_X11_enters x.1.1 x.2.2.2.1 p1 p2 = some res) (sz : Nat) : CtI l yX11_enters (mws yX11_enters cX11_enters 4 (some .int)) rm_X11_enters 0 0 [.ref (a o), .int p1, .int p2] E (bl_Model E a o x) res.1 (bl_Model E a o ((res.2.1, x.1.2.1, x.1.2.2.1, x.1.2.2.2.1, x.1.2.2.2.2), (x.2.1.1, x.2.1.2.1, x.2.1.2.2.1, x.2.1.2.2.2.1, x.2.1.2.2.2.2), (x.2.2.1.1, x.2.2.1.2.1, x.2.2.1.2.2.1, x.2.2.1.2.2.2), (res.2.2, x.2.2.2.2.1, x.2.2.2.2.2.1, x.2.2.2.2.2.2))) sz := by
  refine mk_M (by decide +kernel) (Nat.le_of_ble_eq_true rfl) ?_
  intro p e s m below meth c A args Q ls hAe hsz hQ hx hb hr hml hin ha hown hlocks hA hz hzs hst hP hD hS hl
  have hown : s.vm.findClass RX11 = some m.cls := hown
  rw [hAe] at hQ
  subst hsz
  have hP : va_P E.1 vwCl (List.flatten [w_Model E a o x]) s.heap := hP
  have hD : va_D A (List.flatten [w_Model E a o x]) := hD
  have hl : lv_has ls 4 [(0, .ref (a o)), (1, .int p1), (2, .int p2)] := hl
  generalize hHe : s.heap = H at hP
  have hS : va_S A s.heap H [] := by rw [← hHe]; exact hS
  generalize ([] : List Loc) = locs at hS ⊢
  unfold f_X11_enters at hF
  refine lv_iload_n hx hb dX11_enters_0 rfl (lv_at hl 1 rfl) ?_
  obtain ⟨q1, hq1, hF⟩ := q_bdi hF
  refine cl_i (Lc := []) (Lc' := []) (L' := [w_Model E a o x]) (rv := q1) (va_runS (As := [.int p1]) (rest := []) ⟨hx, hb, hml, hown, ha⟩ (k_X11_isHerd l E p1 q1 hq1 H.size) (cwS 1 ha (gi_S (fun _ h => h) mw1710 mw1711 mw87 mw1712) rfl rfl rfl hv_X11_isHerd ⟨(Nat.le_of_ble_eq_true rfl), (Nat.le_of_ble_eq_true rfl)⟩) ⟨pre_blind, pre_at hP hD hS hz hzs hst [] (by decide) rfl rfl⟩ rfl rfl hl.1 rfl (lv_room (Nat.le_of_ble_eq_true rfl)) dX11_enters_1 ⟨(Nat.le_of_ble_eq_true rfl), (Nat.le_of_ble_eq_true rfl)⟩) hP hD hS hA [] (by decide) rfl rfl rfl rfl (fun H locs hP hD hS => ?_)
  refine lv_if_ne (tgt := 13) hx hb dX11_enters_4 (by decide) (fun c4 => ?_) (fun c4 => ?_)
  · have hF := q_brn c4 hF
    refine lv_iload_n hx hb dX11_enters_13 rfl (lv_at hl 2 rfl) ?_
    refine lv_iconst (v := 0) hx hb dX11_enters_14 (by decide) ?_
    refine lv_bipush (v := 15) hx hb dX11_enters_15 (by decide) ?_
    obtain ⟨q2, hq2, hF⟩ := q_bdi hF
    refine cl_i (Lc := []) (Lc' := []) (L' := [w_Model E a o x]) (rv := q2) (va_runS (As := [.int p2, .int 0, .int 15]) (rest := []) ⟨hx, hb, hml, hown, ha⟩ (k_X11_in l E p2 0 15 q2 hq2 H.size) (cwS 3 ha (gi_S (fun _ h => h) mw1713 mw1714 mw87 mw1715) rfl rfl rfl hv_X11_in ⟨(Nat.le_of_ble_eq_true rfl), (Nat.le_of_ble_eq_true rfl)⟩) ⟨pre_blind, pre_at hP hD hS hz hzs hst [] (by decide) rfl rfl⟩ rfl rfl hl.1 rfl (lv_room (Nat.le_of_ble_eq_true rfl)) dX11_enters_17 ⟨(Nat.le_of_ble_eq_true rfl), (Nat.le_of_ble_eq_true rfl)⟩) hP hD hS hA [] (by decide) rfl rfl rfl rfl (fun H locs hP hD hS => ?_)
    refine lv_if_ne (tgt := 29) hx hb dX11_enters_20 (by decide) (fun c20 => ?_) (fun c20 => ?_)
    · have hF := q_brn c20 hF
      refine lv_aload_n hx hb dX11_enters_29 rfl (lv_at hl 0 rfl) ?_
      refine va_get (D := E.1) (ci := 13) (v := .ref (a (o + 1))) (C := RX11) (T := TX11) (N := 18) hx hb ha in_X11 hown hst.k hP 0 rfl rfl 0 (by decide) (ha _ mw1636) (fun _ h9 => h9) rfl dX11_enters_30 ?_
      refine lv_bipush (v := 29) hx hb dX11_enters_33 (by decide) ?_
      refine lv_iload_n hx hb dX11_enters_35 rfl (lv_at hl 1 rfl) ?_
      refine lv_iadd hx hb dX11_enters_36 ?_
      obtain ⟨g3, hF⟩ := q_gdi hF
      refine vi_iald hx hb hst.k hP 1 0 rfl rfl (f := x.1.1) (k := (29 + p1).toNatClampNeg) rfl g3 dX11_enters_37 ?_
      refine lv_topi (fun v4 ev4 => ?_)
      have hF := q_lti ev4 hF
      refine lv_istore_n (lv' := [(3, .int v4), (0, .ref (a o)), (1, .int p1), (2, .int p2)]) hx hb dX11_enters_38 rfl hl (by decide) rfl (fun ls hl => ?_)
      refine lv_aload_n hx hb dX11_enters_39 rfl (lv_at hl 1 rfl) ?_
      refine va_get (D := E.1) (ci := 13) (v := .ref (a (o + 1))) (C := RX11) (T := TX11) (N := 18) hx hb ha in_X11 hown hst.k hP 0 rfl rfl 0 (by decide) (ha _ mw1636) (fun _ h9 => h9) rfl dX11_enters_40 ?_
      refine lv_bipush (v := 29) hx hb dX11_enters_43 (by decide) ?_
      refine lv_iload_n hx hb dX11_enters_45 rfl (lv_at hl 2 rfl) ?_
      refine lv_iadd hx hb dX11_enters_46 ?_
      refine lv_iload_n hx hb dX11_enters_47 rfl (lv_at hl 3 rfl) ?_
      obtain ⟨g5, hF⟩ := q_gdi hF
      refine vj_iast hx hb hst.k hP hD hS 1 0 rfl rfl (f := x.1.1) (k := (29 + p1).toNatClampNeg) rfl g5 dX11_enters_48 (fun u6 eu6 H locs hP hD hS => ?_)
      have hF := q_lti eu6 hF
      have hP : va_P E.1 vwCl (List.flatten [w_Model E a o ((u6, x.1.2.1, x.1.2.2.1, x.1.2.2.2.1, x.1.2.2.2.2), (x.2.1.1, x.2.1.2.1, x.2.1.2.2.1, x.2.1.2.2.2.1, x.2.1.2.2.2.2), (x.2.2.1.1, x.2.2.1.2.1, x.2.2.1.2.2.1, x.2.2.1.2.2.2), (x.2.2.2.1, x.2.2.2.2.1, x.2.2.2.2.2.1, x.2.2.2.2.2.2))]) H := hP
      have hD : va_D A (List.flatten [w_Model E a o ((u6, x.1.2.1, x.1.2.2.1, x.1.2.2.2.1, x.1.2.2.2.2), (x.2.1.1, x.2.1.2.1, x.2.1.2.2.1, x.2.1.2.2.2.1, x.2.1.2.2.2.2), (x.2.2.1.1, x.2.2.1.2.1, x.2.2.1.2.2.1, x.2.2.1.2.2.2), (x.2.2.2.1, x.2.2.2.2.1, x.2.2.2.2.2.1, x.2.2.2.2.2.2))]) := hD
      refine lv_aload_n hx hb dX11_enters_49 rfl (lv_at hl 1 rfl) ?_
      refine lv_iload_n hx hb dX11_enters_50 rfl (lv_at hl 0 rfl) ?_
      obtain ⟨q7, hq7, hF⟩ := q_bdi hF
      refine cl_i (Lc := [w_Model E a o ((u6, x.1.2.1, x.1.2.2.1, x.1.2.2.2.1, x.1.2.2.2.2), (x.2.1.1, x.2.1.2.1, x.2.1.2.2.1, x.2.1.2.2.2.1, x.2.1.2.2.2.2), (x.2.2.1.1, x.2.2.1.2.1, x.2.2.1.2.2.1, x.2.2.1.2.2.2), (x.2.2.2.1, x.2.2.2.2.1, x.2.2.2.2.2.1, x.2.2.2.2.2.2))]) (Lc' := [w_Model E a o ((u6, x.1.2.1, x.1.2.2.1, x.1.2.2.2.1, x.1.2.2.2.2), (x.2.1.1, x.2.1.2.1, x.2.1.2.2.1, x.2.1.2.2.2.1, x.2.1.2.2.2.2), (x.2.2.1.1, x.2.2.1.2.1, x.2.2.1.2.2.1, x.2.2.1.2.2.2), (q7.2, x.2.2.2.2.1, x.2.2.2.2.2.1, x.2.2.2.2.2.2))]) (L' := [w_Model E a o ((u6, x.1.2.1, x.1.2.2.1, x.1.2.2.2.1, x.1.2.2.2.2), (x.2.1.1, x.2.1.2.1, x.2.1.2.2.1, x.2.1.2.2.2.1, x.2.1.2.2.2.2), (x.2.2.1.1, x.2.2.1.2.1, x.2.2.1.2.2.1, x.2.2.1.2.2.2), (q7.2, x.2.2.2.2.1, x.2.2.2.2.2.1, x.2.2.2.2.2.2))]) (rv := q7.1) (va_runV (As := [.int v4]) (rest := []) ⟨hx, hb, hml, hown, ha⟩ (k_X11_done l E a o ((u6, x.1.2.1, x.1.2.2.1, x.1.2.2.2.1, x.1.2.2.2.2), (x.2.1.1, x.2.1.2.1, x.2.1.2.2.1, x.2.1.2.2.2.1, x.2.1.2.2.2.2), (x.2.2.1.1, x.2.2.1.2.1, x.2.2.1.2.2.1, x.2.2.1.2.2.2), (x.2.2.2.1, x.2.2.2.2.1, x.2.2.2.2.2.1, x.2.2.2.2.2.2)) v4 q7 hq7 H.size) (cwV 1 ha (gi_V (fun _ h => h) mw1720 mw1722 mw30 mw87 mw1723) rfl rfl rfl hv_X11_done ⟨(Nat.le_of_ble_eq_true rfl), (Nat.le_of_ble_eq_true rfl)⟩) ⟨pre_blind, va_recv hst.k (fr_P hP [0] rfl) (ci := 13) (q0 := 0) rfl rfl, pre_at hP hD hS hz hzs hst [0] (by decide) rfl rfl⟩ rfl rfl hl.1 rfl (lv_room (Nat.le_of_ble_eq_true rfl)) dX11_enters_51 ⟨(Nat.le_of_ble_eq_true rfl), (Nat.le_of_ble_eq_true rfl)⟩) hP hD hS hA [0] (by decide) rfl rfl rfl rfl (fun H locs hP hD hS => ?_)
      obtain rfl := Option.some.inj hF
      exact en_i hQ (Nat.le_of_ble_eq_true rfl) (Nat.le_of_ble_eq_true rfl) hx hb hr hlocks hP hD hS rfl dX11_enters_54
    · have hF := q_brp c20 hF
      refine lv_aload_n hx hb dX11_enters_23 rfl (lv_at hl 0 rfl) ?_
      refine lv_iconst (v := 2) hx hb dX11_enters_24 (by decide) ?_
      obtain ⟨q8, hq8, hF⟩ := q_bdi hF
      refine cl_i (Lc := [w_Model E a o x]) (Lc' := [w_Model E a o ((x.1.1, x.1.2.1, x.1.2.2.1, x.1.2.2.2.1, x.1.2.2.2.2), (x.2.1.1, x.2.1.2.1, x.2.1.2.2.1, x.2.1.2.2.2.1, x.2.1.2.2.2.2), (x.2.2.1.1, x.2.2.1.2.1, x.2.2.1.2.2.1, x.2.2.1.2.2.2), (q8.2, x.2.2.2.2.1, x.2.2.2.2.2.1, x.2.2.2.2.2.2))]) (L' := [w_Model E a o ((x.1.1, x.1.2.1, x.1.2.2.1, x.1.2.2.2.1, x.1.2.2.2.2), (x.2.1.1, x.2.1.2.1, x.2.1.2.2.1, x.2.1.2.2.2.1, x.2.1.2.2.2.2), (x.2.2.1.1, x.2.2.1.2.1, x.2.2.1.2.2.1, x.2.2.1.2.2.2), (q8.2, x.2.2.2.2.1, x.2.2.2.2.2.1, x.2.2.2.2.2.2))]) (rv := q8.1) (va_runV (As := [.int 2]) (rest := []) ⟨hx, hb, hml, hown, ha⟩ (k_X11_fails l E a o x 2 q8 hq8 H.size) (cwV 1 ha (gi_V (fun _ h => h) mw1716 mw1718 mw29 mw87 mw1719) rfl rfl rfl hv_X11_fails ⟨(Nat.le_of_ble_eq_true rfl), (Nat.le_of_ble_eq_true rfl)⟩) ⟨pre_blind, va_recv hst.k (fr_P hP [0] rfl) (ci := 13) (q0 := 0) rfl rfl, pre_at hP hD hS hz hzs hst [0] (by decide) rfl rfl⟩ rfl rfl hl.1 rfl (lv_room (Nat.le_of_ble_eq_true rfl)) dX11_enters_25 ⟨(Nat.le_of_ble_eq_true rfl), (Nat.le_of_ble_eq_true rfl)⟩) hP hD hS hA [0] (by decide) rfl rfl rfl rfl (fun H locs hP hD hS => ?_)
      obtain rfl := Option.some.inj hF
      exact en_i hQ (Nat.le_of_ble_eq_true rfl) (Nat.le_of_ble_eq_true rfl) hx hb hr hlocks hP hD hS rfl dX11_enters_28
  · have hF := q_brp c4 hF
    refine lv_aload_n hx hb dX11_enters_7 rfl (lv_at hl 0 rfl) ?_
    refine lv_iconst (v := 1) hx hb dX11_enters_8 (by decide) ?_
    obtain ⟨q9, hq9, hF⟩ := q_bdi hF
    refine cl_i (Lc := [w_Model E a o x]) (Lc' := [w_Model E a o ((x.1.1, x.1.2.1, x.1.2.2.1, x.1.2.2.2.1, x.1.2.2.2.2), (x.2.1.1, x.2.1.2.1, x.2.1.2.2.1, x.2.1.2.2.2.1, x.2.1.2.2.2.2), (x.2.2.1.1, x.2.2.1.2.1, x.2.2.1.2.2.1, x.2.2.1.2.2.2), (q9.2, x.2.2.2.2.1, x.2.2.2.2.2.1, x.2.2.2.2.2.2))]) (L' := [w_Model E a o ((x.1.1, x.1.2.1, x.1.2.2.1, x.1.2.2.2.1, x.1.2.2.2.2), (x.2.1.1, x.2.1.2.1, x.2.1.2.2.1, x.2.1.2.2.2.1, x.2.1.2.2.2.2), (x.2.2.1.1, x.2.2.1.2.1, x.2.2.1.2.2.1, x.2.2.1.2.2.2), (q9.2, x.2.2.2.2.1, x.2.2.2.2.2.1, x.2.2.2.2.2.2))]) (rv := q9.1) (va_runV (As := [.int 1]) (rest := []) ⟨hx, hb, hml, hown, ha⟩ (k_X11_fails l E a o x 1 q9 hq9 H.size) (cwV 1 ha (gi_V (fun _ h => h) mw1716 mw1718 mw29 mw87 mw1719) rfl rfl rfl hv_X11_fails ⟨(Nat.le_of_ble_eq_true rfl), (Nat.le_of_ble_eq_true rfl)⟩) ⟨pre_blind, va_recv hst.k (fr_P hP [0] rfl) (ci := 13) (q0 := 0) rfl rfl, pre_at hP hD hS hz hzs hst [0] (by decide) rfl rfl⟩ rfl rfl hl.1 rfl (lv_room (Nat.le_of_ble_eq_true rfl)) dX11_enters_9 ⟨(Nat.le_of_ble_eq_true rfl), (Nat.le_of_ble_eq_true rfl)⟩) hP hD hS hA [0] (by decide) rfl rfl rfl rfl (fun H locs hP hD hS => ?_)
    obtain rfl := Option.some.inj hF
    exact en_i hQ (Nat.le_of_ble_eq_true rfl) (Nat.le_of_ble_eq_true rfl) hx hb hr hlocks hP hD hS rfl dX11_enters_12

/-! X11_addsCliff -/
theorem dX11_addsCliff_0 : decode cX11_addsCliff 0 = .ok (.iload_n 1, 1) := by decide +kernel
theorem dX11_addsCliff_1 : decode cX11_addsCliff 1 = .ok (.iconst 1, 1) := by decide +kernel
theorem dX11_addsCliff_2 : decode cX11_addsCliff 2 = .ok (.bipush 8, 2) := by decide +kernel
theorem dX11_addsCliff_4 : decode cX11_addsCliff 4 = .ok (.invokestatic 52, 3) := by decide +kernel
theorem dX11_addsCliff_7 : decode cX11_addsCliff 7 = .ok (.ifCond .eq 14, 3) := by decide +kernel
theorem dX11_addsCliff_10 : decode cX11_addsCliff 10 = .ok (.iload_n 2, 1) := by decide +kernel
theorem dX11_addsCliff_11 : decode cX11_addsCliff 11 = .ok (.bipush (-12), 2) := by decide +kernel
theorem dX11_addsCliff_13 : decode cX11_addsCliff 13 = .ok (.bipush 12, 2) := by decide +kernel
theorem dX11_addsCliff_15 : decode cX11_addsCliff 15 = .ok (.invokestatic 52, 3) := by decide +kernel
theorem dX11_addsCliff_18 : decode cX11_addsCliff 18 = .ok (.ifCond .ne 9, 3) := by decide +kernel
theorem dX11_addsCliff_21 : decode cX11_addsCliff 21 = .ok (.aload_n 0, 1) := by decide +kernel
theorem dX11_addsCliff_22 : decode cX11_addsCliff 22 = .ok (.iconst 1, 1) := by decide +kernel
theorem dX11_addsCliff_23 : decode cX11_addsCliff 23 = .ok (.invokevirtual 80, 3) := by decide +kernel
theorem dX11_addsCliff_26 : decode cX11_addsCliff 26 = .ok (.ireturn, 1) := by decide +kernel
theorem dX11_addsCliff_27 : decode cX11_addsCliff 27 = .ok (.aload_n 0, 1) := by decide +kernel
theorem dX11_addsCliff_28 : decode cX11_addsCliff 28 = .ok (.getfield 7, 3) := by decide +kernel
theorem dX11_addsCliff_31 : decode cX11_addsCliff 31 = .ok (.iconst 1, 1) := by decide +kernel
theorem dX11_addsCliff_32 : decode cX11_addsCliff 32 = .ok (.iaload, 1) := by decide +kernel
theorem dX11_addsCliff_33 : decode cX11_addsCliff 33 = .ok (.istore_n 3, 1) := by decide +kernel
theorem dX11_addsCliff_34 : decode cX11_addsCliff 34 = .ok (.iload_n 3, 1) := by decide +kernel
theorem dX11_addsCliff_35 : decode cX11_addsCliff 35 = .ok (.iconst 4, 1) := by decide +kernel
theorem dX11_addsCliff_36 : decode cX11_addsCliff 36 = .ok (.if_icmp .ne 9, 3) := by decide +kernel
theorem dX11_addsCliff_39 : decode cX11_addsCliff 39 = .ok (.aload_n 0, 1) := by decide +kernel
theorem dX11_addsCliff_40 : decode cX11_addsCliff 40 = .ok (.iconst 2, 1) := by decide +kernel
theorem dX11_addsCliff_41 : decode cX11_addsCliff 41 = .ok (.invokevirtual 80, 3) := by decide +kernel
theorem dX11_addsCliff_44 : decode cX11_addsCliff 44 = .ok (.ireturn, 1) := by decide +kernel
theorem dX11_addsCliff_45 : decode cX11_addsCliff 45 = .ok (.aload_n 0, 1) := by decide +kernel
theorem dX11_addsCliff_46 : decode cX11_addsCliff 46 = .ok (.getfield 7, 3) := by decide +kernel
theorem dX11_addsCliff_49 : decode cX11_addsCliff 49 = .ok (.bipush 69, 2) := by decide +kernel
theorem dX11_addsCliff_51 : decode cX11_addsCliff 51 = .ok (.iload_n 3, 1) := by decide +kernel
theorem dX11_addsCliff_52 : decode cX11_addsCliff 52 = .ok (.iadd, 1) := by decide +kernel
theorem dX11_addsCliff_53 : decode cX11_addsCliff 53 = .ok (.iload_n 1, 1) := by decide +kernel
theorem dX11_addsCliff_54 : decode cX11_addsCliff 54 = .ok (.iastore, 1) := by decide +kernel
theorem dX11_addsCliff_55 : decode cX11_addsCliff 55 = .ok (.aload_n 0, 1) := by decide +kernel
theorem dX11_addsCliff_56 : decode cX11_addsCliff 56 = .ok (.getfield 7, 3) := by decide +kernel
theorem dX11_addsCliff_59 : decode cX11_addsCliff 59 = .ok (.bipush 73, 2) := by decide +kernel
theorem dX11_addsCliff_61 : decode cX11_addsCliff 61 = .ok (.iload_n 3, 1) := by decide +kernel
theorem dX11_addsCliff_62 : decode cX11_addsCliff 62 = .ok (.iadd, 1) := by decide +kernel
theorem dX11_addsCliff_63 : decode cX11_addsCliff 63 = .ok (.iload_n 2, 1) := by decide +kernel
theorem dX11_addsCliff_64 : decode cX11_addsCliff 64 = .ok (.iastore, 1) := by decide +kernel
theorem dX11_addsCliff_65 : decode cX11_addsCliff 65 = .ok (.aload_n 0, 1) := by decide +kernel
theorem dX11_addsCliff_66 : decode cX11_addsCliff 66 = .ok (.getfield 7, 3) := by decide +kernel
theorem dX11_addsCliff_69 : decode cX11_addsCliff 69 = .ok (.iconst 1, 1) := by decide +kernel
theorem dX11_addsCliff_70 : decode cX11_addsCliff 70 = .ok (.dup2, 1) := by decide +kernel
theorem dX11_addsCliff_71 : decode cX11_addsCliff 71 = .ok (.iaload, 1) := by decide +kernel
theorem dX11_addsCliff_72 : decode cX11_addsCliff 72 = .ok (.iconst 1, 1) := by decide +kernel
theorem dX11_addsCliff_73 : decode cX11_addsCliff 73 = .ok (.iadd, 1) := by decide +kernel
theorem dX11_addsCliff_74 : decode cX11_addsCliff 74 = .ok (.iastore, 1) := by decide +kernel
theorem dX11_addsCliff_75 : decode cX11_addsCliff 75 = .ok (.aload_n 0, 1) := by decide +kernel
theorem dX11_addsCliff_76 : decode cX11_addsCliff 76 = .ok (.iload_n 3, 1) := by decide +kernel
theorem dX11_addsCliff_77 : decode cX11_addsCliff 77 = .ok (.invokevirtual 83, 3) := by decide +kernel
theorem dX11_addsCliff_80 : decode cX11_addsCliff 80 = .ok (.ireturn, 1) := by decide +kernel
def f_X11_addsCliff (x_g : (Nat → Int32)) (x_thrown : Int32) (p1 : Int32) (p2 : Int32) : Option (Int32 × (Nat → Int32) × Int32) :=
  q_bd (f_X11_in p1 1 8) (fun q1 =>
  q_br (q1 = 0) (
  q_bd (f_X11_fails x_thrown 1) (fun q2 =>
  some (q2.1, x_g, q2.2))) (
  q_bd (f_X11_in p2 (-12) 12) (fun q3 =>
  q_br (q3 = 0) (
  q_bd (f_X11_fails x_thrown 1) (fun q12 =>
  some (q12.1, x_g, q12.2))) (
  q_lt (x_g 1 : Int32) (fun v4 =>
  q_br (v4 = 4) (
  q_bd (f_X11_fails x_thrown 2) (fun q11 =>
  some (q11.1, x_g, q11.2))) (
  q_gd (q_in (69 + v4) 77) (
  q_lt (upd x_g ((69 + v4).toNatClampNeg) p1) (fun u6 =>
  q_gd (q_in (73 + v4) 77) (
  q_lt (upd u6 ((73 + v4).toNatClampNeg) p2) (fun u8 =>
  q_lt (upd u8 1 ((u8 1) + 1)) (fun u9 =>
  q_bd (f_X11_done x_thrown v4) (fun q10 =>
  some (q10.1, u9, q10.2)))))))))))))
theorem hv_X11_addsCliff : yX11_addsCliff.cls = RX11 ∧ yX11_addsCliff.cls ≠ "java/lang/invoke/MethodHandle" ∧ yX11_addsCliff.cls ≠ "java/lang/invoke/VarHandle" ∧ (parseMethodDescriptor yX11_addsCliff.desc).map (fun d => d.parameters.length) = some 2 := by decide +kernel
abbrev rm_X11_addsCliff : Room := { frames := 1, cells := 0, slots := 0, locals := 22 }
set_option maxHeartbeats 4000000 in
set_option maxRecDepth 100000 in
theorem k_X11_addsCliff (l : Launch) (E : ET) (a : Nat → Nat) (o : Nat) (x : Model_t) (p1 : Int32) (p2 : Int32) (res : Int32 × (Nat → Int32) × Int32) (hF : f_X11_addsCliff x.1.1 x.2.2.2.1 p1 p2 = some res) (sz : Nat) : CtI l yX11_addsCliff (mws yX11_addsCliff cX11_addsCliff 4 (some .int)) rm_X11_addsCliff 0 0 [.ref (a o), .int p1, .int p2] E (bl_Model E a o x) res.1 (bl_Model E a o ((res.2.1, x.1.2.1, x.1.2.2.1, x.1.2.2.2.1, x.1.2.2.2.2), (x.2.1.1, x.2.1.2.1, x.2.1.2.2.1, x.2.1.2.2.2.1, x.2.1.2.2.2.2), (x.2.2.1.1, x.2.2.1.2.1, x.2.2.1.2.2.1, x.2.2.1.2.2.2), (res.2.2, x.2.2.2.2.1, x.2.2.2.2.2.1, x.2.2.2.2.2.2))) sz := by
  refine mk_M (by decide +kernel) (Nat.le_of_ble_eq_true rfl) ?_
  intro p e s m below meth c A args Q ls hAe hsz hQ hx hb hr hml hin ha hown hlocks hA hz hzs hst hP hD hS hl
  have hown : s.vm.findClass RX11 = some m.cls := hown
  rw [hAe] at hQ
  subst hsz
  have hP : va_P E.1 vwCl (List.flatten [w_Model E a o x]) s.heap := hP
  have hD : va_D A (List.flatten [w_Model E a o x]) := hD
  have hl : lv_has ls 4 [(0, .ref (a o)), (1, .int p1), (2, .int p2)] := hl
  generalize hHe : s.heap = H at hP
  have hS : va_S A s.heap H [] := by rw [← hHe]; exact hS
  generalize ([] : List Loc) = locs at hS ⊢
  unfold f_X11_addsCliff at hF
  refine lv_iload_n hx hb dX11_addsCliff_0 rfl (lv_at hl 1 rfl) ?_
  refine lv_iconst (v := 1) hx hb dX11_addsCliff_1 (by decide) ?_
  refine lv_bipush (v := 8) hx hb dX11_addsCliff_2 (by decide) ?_
  obtain ⟨q1, hq1, hF⟩ := q_bdi hF
  refine cl_i (Lc := []) (Lc' := []) (L' := [w_Model E a o x]) (rv := q1) (va_runS (As := [.int p1, .int 1, .int 8]) (rest := []) ⟨hx, hb, hml, hown, ha⟩ (k_X11_in l E p1 1 8 q1 hq1 H.size) (cwS 3 ha (gi_S (fun _ h => h) mw1713 mw1714 mw87 mw1715) rfl rfl rfl hv_X11_in ⟨(Nat.le_of_ble_eq_true rfl), (Nat.le_of_ble_eq_true rfl)⟩) ⟨pre_blind, pre_at hP hD hS hz hzs hst [] (by decide) rfl rfl⟩ rfl rfl hl.1 rfl (lv_room (Nat.le_of_ble_eq_true rfl)) dX11_addsCliff_4 ⟨(Nat.le_of_ble_eq_true rfl), (Nat.le_of_ble_eq_true rfl)⟩) hP hD hS hA [] (by decide) rfl rfl rfl rfl (fun H locs hP hD hS => ?_)
  refine lv_if_eq (tgt := 21) hx hb dX11_addsCliff_7 (by decide) (fun c7 => ?_) (fun c7 => ?_)
  · have hF := q_brp c7 hF
    refine lv_aload_n hx hb dX11_addsCliff_21 rfl (lv_at hl 0 rfl) ?_
    refine lv_iconst (v := 1) hx hb dX11_addsCliff_22 (by decide) ?_
    obtain ⟨q2, hq2, hF⟩ := q_bdi hF
    refine cl_i (Lc := [w_Model E a o x]) (Lc' := [w_Model E a o ((x.1.1, x.1.2.1, x.1.2.2.1, x.1.2.2.2.1, x.1.2.2.2.2), (x.2.1.1, x.2.1.2.1, x.2.1.2.2.1, x.2.1.2.2.2.1, x.2.1.2.2.2.2), (x.2.2.1.1, x.2.2.1.2.1, x.2.2.1.2.2.1, x.2.2.1.2.2.2), (q2.2, x.2.2.2.2.1, x.2.2.2.2.2.1, x.2.2.2.2.2.2))]) (L' := [w_Model E a o ((x.1.1, x.1.2.1, x.1.2.2.1, x.1.2.2.2.1, x.1.2.2.2.2), (x.2.1.1, x.2.1.2.1, x.2.1.2.2.1, x.2.1.2.2.2.1, x.2.1.2.2.2.2), (x.2.2.1.1, x.2.2.1.2.1, x.2.2.1.2.2.1, x.2.2.1.2.2.2), (q2.2, x.2.2.2.2.1, x.2.2.2.2.2.1, x.2.2.2.2.2.2))]) (rv := q2.1) (va_runV (As := [.int 1]) (rest := []) ⟨hx, hb, hml, hown, ha⟩ (k_X11_fails l E a o x 1 q2 hq2 H.size) (cwV 1 ha (gi_V (fun _ h => h) mw1716 mw1718 mw29 mw87 mw1719) rfl rfl rfl hv_X11_fails ⟨(Nat.le_of_ble_eq_true rfl), (Nat.le_of_ble_eq_true rfl)⟩) ⟨pre_blind, va_recv hst.k (fr_P hP [0] rfl) (ci := 13) (q0 := 0) rfl rfl, pre_at hP hD hS hz hzs hst [0] (by decide) rfl rfl⟩ rfl rfl hl.1 rfl (lv_room (Nat.le_of_ble_eq_true rfl)) dX11_addsCliff_23 ⟨(Nat.le_of_ble_eq_true rfl), (Nat.le_of_ble_eq_true rfl)⟩) hP hD hS hA [0] (by decide) rfl rfl rfl rfl (fun H locs hP hD hS => ?_)
    obtain rfl := Option.some.inj hF
    exact en_i hQ (Nat.le_of_ble_eq_true rfl) (Nat.le_of_ble_eq_true rfl) hx hb hr hlocks hP hD hS rfl dX11_addsCliff_26
  · have hF := q_brn c7 hF
    refine lv_iload_n hx hb dX11_addsCliff_10 rfl (lv_at hl 2 rfl) ?_
    refine lv_bipush (v := (-12)) hx hb dX11_addsCliff_11 (by decide) ?_
    refine lv_bipush (v := 12) hx hb dX11_addsCliff_13 (by decide) ?_
    obtain ⟨q3, hq3, hF⟩ := q_bdi hF
    refine cl_i (Lc := []) (Lc' := []) (L' := [w_Model E a o x]) (rv := q3) (va_runS (As := [.int p2, .int (-12), .int 12]) (rest := []) ⟨hx, hb, hml, hown, ha⟩ (k_X11_in l E p2 (-12) 12 q3 hq3 H.size) (cwS 3 ha (gi_S (fun _ h => h) mw1713 mw1714 mw87 mw1715) rfl rfl rfl hv_X11_in ⟨(Nat.le_of_ble_eq_true rfl), (Nat.le_of_ble_eq_true rfl)⟩) ⟨pre_blind, pre_at hP hD hS hz hzs hst [] (by decide) rfl rfl⟩ rfl rfl hl.1 rfl (lv_room (Nat.le_of_ble_eq_true rfl)) dX11_addsCliff_15 ⟨(Nat.le_of_ble_eq_true rfl), (Nat.le_of_ble_eq_true rfl)⟩) hP hD hS hA [] (by decide) rfl rfl rfl rfl (fun H locs hP hD hS => ?_)
    refine lv_if_ne (tgt := 27) hx hb dX11_addsCliff_18 (by decide) (fun c18 => ?_) (fun c18 => ?_)
    · have hF := q_brn c18 hF
      refine lv_aload_n hx hb dX11_addsCliff_27 rfl (lv_at hl 0 rfl) ?_
      refine va_get (D := E.1) (ci := 13) (v := .ref (a (o + 1))) (C := RX11) (T := TX11) (N := 18) hx hb ha in_X11 hown hst.k hP 0 rfl rfl 0 (by decide) (ha _ mw1636) (fun _ h9 => h9) rfl dX11_addsCliff_28 ?_
      refine lv_iconst (v := 1) hx hb dX11_addsCliff_31 (by decide) ?_
      refine vi_iald hx hb hst.k hP 1 0 rfl rfl (f := x.1.1) (k := 1) (by decide) (by decide) dX11_addsCliff_32 ?_
      refine lv_topi (fun v4 ev4 => ?_)
      have hF := q_lti ev4 hF
      refine lv_istore_n (lv' := [(3, .int v4), (0, .ref (a o)), (1, .int p1), (2, .int p2)]) hx hb dX11_addsCliff_33 rfl hl (by decide) rfl (fun ls hl => ?_)
      refine lv_iload_n hx hb dX11_addsCliff_34 rfl (lv_at hl 0 rfl) ?_
      refine lv_iconst (v := 4) hx hb dX11_addsCliff_35 (by decide) ?_
      refine lv_icmp_ne (tgt := 45) hx hb dX11_addsCliff_36 (by decide) (fun c36 => ?_) (fun c36 => ?_)
      · have hF := q_brn c36 hF
        refine lv_aload_n hx hb dX11_addsCliff_45 rfl (lv_at hl 1 rfl) ?_
        refine va_get (D := E.1) (ci := 13) (v := .ref (a (o + 1))) (C := RX11) (T := TX11) (N := 18) hx hb ha in_X11 hown hst.k hP 0 rfl rfl 0 (by decide) (ha _ mw1636) (fun _ h9 => h9) rfl dX11_addsCliff_46 ?_
        refine lv_bipush (v := 69) hx hb dX11_addsCliff_49 (by decide) ?_
        refine lv_iload_n hx hb dX11_addsCliff_51 rfl (lv_at hl 0 rfl) ?_
        refine lv_iadd hx hb dX11_addsCliff_52 ?_
        refine lv_iload_n hx hb dX11_addsCliff_53 rfl (lv_at hl 2 rfl) ?_
        obtain ⟨g5, hF⟩ := q_gdi hF
        refine vj_iast hx hb hst.k hP hD hS 1 0 rfl rfl (f := x.1.1) (k := (69 + v4).toNatClampNeg) rfl g5 dX11_addsCliff_54 (fun u6 eu6 H locs hP hD hS => ?_)
        have hF := q_lti eu6 hF
        have hP : va_P E.1 vwCl (List.flatten [w_Model E a o ((u6, x.1.2.1, x.1.2.2.1, x.1.2.2.2.1, x.1.2.2.2.2), (x.2.1.1, x.2.1.2.1, x.2.1.2.2.1, x.2.1.2.2.2.1, x.2.1.2.2.2.2), (x.2.2.1.1, x.2.2.1.2.1, x.2.2.1.2.2.1, x.2.2.1.2.2.2), (x.2.2.2.1, x.2.2.2.2.1, x.2.2.2.2.2.1, x.2.2.2.2.2.2))]) H := hP
        have hD : va_D A (List.flatten [w_Model E a o ((u6, x.1.2.1, x.1.2.2.1, x.1.2.2.2.1, x.1.2.2.2.2), (x.2.1.1, x.2.1.2.1, x.2.1.2.2.1, x.2.1.2.2.2.1, x.2.1.2.2.2.2), (x.2.2.1.1, x.2.2.1.2.1, x.2.2.1.2.2.1, x.2.2.1.2.2.2), (x.2.2.2.1, x.2.2.2.2.1, x.2.2.2.2.2.1, x.2.2.2.2.2.2))]) := hD
        refine lv_aload_n hx hb dX11_addsCliff_55 rfl (lv_at hl 1 rfl) ?_
        refine va_get (D := E.1) (ci := 13) (v := .ref (a (o + 1))) (C := RX11) (T := TX11) (N := 18) hx hb ha in_X11 hown hst.k hP 0 rfl rfl 0 (by decide) (ha _ mw1636) (fun _ h9 => h9) rfl dX11_addsCliff_56 ?_
        refine lv_bipush (v := 73) hx hb dX11_addsCliff_59 (by decide) ?_
        refine lv_iload_n hx hb dX11_addsCliff_61 rfl (lv_at hl 0 rfl) ?_
        refine lv_iadd hx hb dX11_addsCliff_62 ?_
        refine lv_iload_n hx hb dX11_addsCliff_63 rfl (lv_at hl 3 rfl) ?_
        obtain ⟨g7, hF⟩ := q_gdi hF
        refine vj_iast hx hb hst.k hP hD hS 1 0 rfl rfl (f := u6) (k := (73 + v4).toNatClampNeg) rfl g7 dX11_addsCliff_64 (fun u8 eu8 H locs hP hD hS => ?_)
        have hF := q_lti eu8 hF
        have hP : va_P E.1 vwCl (List.flatten [w_Model E a o ((u8, x.1.2.1, x.1.2.2.1, x.1.2.2.2.1, x.1.2.2.2.2), (x.2.1.1, x.2.1.2.1, x.2.1.2.2.1, x.2.1.2.2.2.1, x.2.1.2.2.2.2), (x.2.2.1.1, x.2.2.1.2.1, x.2.2.1.2.2.1, x.2.2.1.2.2.2), (x.2.2.2.1, x.2.2.2.2.1, x.2.2.2.2.2.1, x.2.2.2.2.2.2))]) H := hP
        have hD : va_D A (List.flatten [w_Model E a o ((u8, x.1.2.1, x.1.2.2.1, x.1.2.2.2.1, x.1.2.2.2.2), (x.2.1.1, x.2.1.2.1, x.2.1.2.2.1, x.2.1.2.2.2.1, x.2.1.2.2.2.2), (x.2.2.1.1, x.2.2.1.2.1, x.2.2.1.2.2.1, x.2.2.1.2.2.2), (x.2.2.2.1, x.2.2.2.2.1, x.2.2.2.2.2.1, x.2.2.2.2.2.2))]) := hD
        refine lv_aload_n hx hb dX11_addsCliff_65 rfl (lv_at hl 1 rfl) ?_
        refine va_get (D := E.1) (ci := 13) (v := .ref (a (o + 1))) (C := RX11) (T := TX11) (N := 18) hx hb ha in_X11 hown hst.k hP 0 rfl rfl 0 (by decide) (ha _ mw1636) (fun _ h9 => h9) rfl dX11_addsCliff_66 ?_
        refine lv_iconst (v := 1) hx hb dX11_addsCliff_69 (by decide) ?_
        refine lv_dup2_11 hx hb dX11_addsCliff_70 rfl rfl ?_
        refine vi_iald hx hb hst.k hP 1 0 rfl rfl (f := u8) (k := 1) (by decide) (by decide) dX11_addsCliff_71 ?_
        refine lv_iconst (v := 1) hx hb dX11_addsCliff_72 (by decide) ?_
        refine lv_iadd hx hb dX11_addsCliff_73 ?_
        refine vj_iast hx hb hst.k hP hD hS 1 0 rfl rfl (f := u8) (k := 1) (by decide) (by decide) dX11_addsCliff_74 (fun u9 eu9 H locs hP hD hS => ?_)
        have hF := q_lti eu9 hF
        have hP : va_P E.1 vwCl (List.flatten [w_Model E a o ((u9, x.1.2.1, x.1.2.2.1, x.1.2.2.2.1, x.1.2.2.2.2), (x.2.1.1, x.2.1.2.1, x.2.1.2.2.1, x.2.1.2.2.2.1, x.2.1.2.2.2.2), (x.2.2.1.1, x.2.2.1.2.1, x.2.2.1.2.2.1, x.2.2.1.2.2.2), (x.2.2.2.1, x.2.2.2.2.1, x.2.2.2.2.2.1, x.2.2.2.2.2.2))]) H := hP
        have hD : va_D A (List.flatten [w_Model E a o ((u9, x.1.2.1, x.1.2.2.1, x.1.2.2.2.1, x.1.2.2.2.2), (x.2.1.1, x.2.1.2.1, x.2.1.2.2.1, x.2.1.2.2.2.1, x.2.1.2.2.2.2), (x.2.2.1.1, x.2.2.1.2.1, x.2.2.1.2.2.1, x.2.2.1.2.2.2), (x.2.2.2.1, x.2.2.2.2.1, x.2.2.2.2.2.1, x.2.2.2.2.2.2))]) := hD
        refine lv_aload_n hx hb dX11_addsCliff_75 rfl (lv_at hl 1 rfl) ?_
        refine lv_iload_n hx hb dX11_addsCliff_76 rfl (lv_at hl 0 rfl) ?_
        obtain ⟨q10, hq10, hF⟩ := q_bdi hF
        refine cl_i (Lc := [w_Model E a o ((u9, x.1.2.1, x.1.2.2.1, x.1.2.2.2.1, x.1.2.2.2.2), (x.2.1.1, x.2.1.2.1, x.2.1.2.2.1, x.2.1.2.2.2.1, x.2.1.2.2.2.2), (x.2.2.1.1, x.2.2.1.2.1, x.2.2.1.2.2.1, x.2.2.1.2.2.2), (x.2.2.2.1, x.2.2.2.2.1, x.2.2.2.2.2.1, x.2.2.2.2.2.2))]) (Lc' := [w_Model E a o ((u9, x.1.2.1, x.1.2.2.1, x.1.2.2.2.1, x.1.2.2.2.2), (x.2.1.1, x.2.1.2.1, x.2.1.2.2.1, x.2.1.2.2.2.1, x.2.1.2.2.2.2), (x.2.2.1.1, x.2.2.1.2.1, x.2.2.1.2.2.1, x.2.2.1.2.2.2), (q10.2, x.2.2.2.2.1, x.2.2.2.2.2.1, x.2.2.2.2.2.2))]) (L' := [w_Model E a o ((u9, x.1.2.1, x.1.2.2.1, x.1.2.2.2.1, x.1.2.2.2.2), (x.2.1.1, x.2.1.2.1, x.2.1.2.2.1, x.2.1.2.2.2.1, x.2.1.2.2.2.2), (x.2.2.1.1, x.2.2.1.2.1, x.2.2.1.2.2.1, x.2.2.1.2.2.2), (q10.2, x.2.2.2.2.1, x.2.2.2.2.2.1, x.2.2.2.2.2.2))]) (rv := q10.1) (va_runV (As := [.int v4]) (rest := []) ⟨hx, hb, hml, hown, ha⟩ (k_X11_done l E a o ((u9, x.1.2.1, x.1.2.2.1, x.1.2.2.2.1, x.1.2.2.2.2), (x.2.1.1, x.2.1.2.1, x.2.1.2.2.1, x.2.1.2.2.2.1, x.2.1.2.2.2.2), (x.2.2.1.1, x.2.2.1.2.1, x.2.2.1.2.2.1, x.2.2.1.2.2.2), (x.2.2.2.1, x.2.2.2.2.1, x.2.2.2.2.2.1, x.2.2.2.2.2.2)) v4 q10 hq10 H.size) (cwV 1 ha (gi_V (fun _ h => h) mw1720 mw1722 mw30 mw87 mw1723) rfl rfl rfl hv_X11_done ⟨(Nat.le_of_ble_eq_true rfl), (Nat.le_of_ble_eq_true rfl)⟩) ⟨pre_blind, va_recv hst.k (fr_P hP [0] rfl) (ci := 13) (q0 := 0) rfl rfl, pre_at hP hD hS hz hzs hst [0] (by decide) rfl rfl⟩ rfl rfl hl.1 rfl (lv_room (Nat.le_of_ble_eq_true rfl)) dX11_addsCliff_77 ⟨(Nat.le_of_ble_eq_true rfl), (Nat.le_of_ble_eq_true rfl)⟩) hP hD hS hA [0] (by decide) rfl rfl rfl rfl (fun H locs hP hD hS => ?_)
        obtain rfl := Option.some.inj hF
        exact en_i hQ (Nat.le_of_ble_eq_true rfl) (Nat.le_of_ble_eq_true rfl) hx hb hr hlocks hP hD hS rfl dX11_addsCliff_80
      · have hF := q_brp c36 hF
        refine lv_aload_n hx hb dX11_addsCliff_39 rfl (lv_at hl 1 rfl) ?_
        refine lv_iconst (v := 2) hx hb dX11_addsCliff_40 (by decide) ?_
        obtain ⟨q11, hq11, hF⟩ := q_bdi hF
        refine cl_i (Lc := [w_Model E a o x]) (Lc' := [w_Model E a o ((x.1.1, x.1.2.1, x.1.2.2.1, x.1.2.2.2.1, x.1.2.2.2.2), (x.2.1.1, x.2.1.2.1, x.2.1.2.2.1, x.2.1.2.2.2.1, x.2.1.2.2.2.2), (x.2.2.1.1, x.2.2.1.2.1, x.2.2.1.2.2.1, x.2.2.1.2.2.2), (q11.2, x.2.2.2.2.1, x.2.2.2.2.2.1, x.2.2.2.2.2.2))]) (L' := [w_Model E a o ((x.1.1, x.1.2.1, x.1.2.2.1, x.1.2.2.2.1, x.1.2.2.2.2), (x.2.1.1, x.2.1.2.1, x.2.1.2.2.1, x.2.1.2.2.2.1, x.2.1.2.2.2.2), (x.2.2.1.1, x.2.2.1.2.1, x.2.2.1.2.2.1, x.2.2.1.2.2.2), (q11.2, x.2.2.2.2.1, x.2.2.2.2.2.1, x.2.2.2.2.2.2))]) (rv := q11.1) (va_runV (As := [.int 2]) (rest := []) ⟨hx, hb, hml, hown, ha⟩ (k_X11_fails l E a o x 2 q11 hq11 H.size) (cwV 1 ha (gi_V (fun _ h => h) mw1716 mw1718 mw29 mw87 mw1719) rfl rfl rfl hv_X11_fails ⟨(Nat.le_of_ble_eq_true rfl), (Nat.le_of_ble_eq_true rfl)⟩) ⟨pre_blind, va_recv hst.k (fr_P hP [0] rfl) (ci := 13) (q0 := 0) rfl rfl, pre_at hP hD hS hz hzs hst [0] (by decide) rfl rfl⟩ rfl rfl hl.1 rfl (lv_room (Nat.le_of_ble_eq_true rfl)) dX11_addsCliff_41 ⟨(Nat.le_of_ble_eq_true rfl), (Nat.le_of_ble_eq_true rfl)⟩) hP hD hS hA [0] (by decide) rfl rfl rfl rfl (fun H locs hP hD hS => ?_)
        obtain rfl := Option.some.inj hF
        exact en_i hQ (Nat.le_of_ble_eq_true rfl) (Nat.le_of_ble_eq_true rfl) hx hb hr hlocks hP hD hS rfl dX11_addsCliff_44
    · have hF := q_brp c18 hF
      refine lv_aload_n hx hb dX11_addsCliff_21 rfl (lv_at hl 0 rfl) ?_
      refine lv_iconst (v := 1) hx hb dX11_addsCliff_22 (by decide) ?_
      obtain ⟨q12, hq12, hF⟩ := q_bdi hF
      refine cl_i (Lc := [w_Model E a o x]) (Lc' := [w_Model E a o ((x.1.1, x.1.2.1, x.1.2.2.1, x.1.2.2.2.1, x.1.2.2.2.2), (x.2.1.1, x.2.1.2.1, x.2.1.2.2.1, x.2.1.2.2.2.1, x.2.1.2.2.2.2), (x.2.2.1.1, x.2.2.1.2.1, x.2.2.1.2.2.1, x.2.2.1.2.2.2), (q12.2, x.2.2.2.2.1, x.2.2.2.2.2.1, x.2.2.2.2.2.2))]) (L' := [w_Model E a o ((x.1.1, x.1.2.1, x.1.2.2.1, x.1.2.2.2.1, x.1.2.2.2.2), (x.2.1.1, x.2.1.2.1, x.2.1.2.2.1, x.2.1.2.2.2.1, x.2.1.2.2.2.2), (x.2.2.1.1, x.2.2.1.2.1, x.2.2.1.2.2.1, x.2.2.1.2.2.2), (q12.2, x.2.2.2.2.1, x.2.2.2.2.2.1, x.2.2.2.2.2.2))]) (rv := q12.1) (va_runV (As := [.int 1]) (rest := []) ⟨hx, hb, hml, hown, ha⟩ (k_X11_fails l E a o x 1 q12 hq12 H.size) (cwV 1 ha (gi_V (fun _ h => h) mw1716 mw1718 mw29 mw87 mw1719) rfl rfl rfl hv_X11_fails ⟨(Nat.le_of_ble_eq_true rfl), (Nat.le_of_ble_eq_true rfl)⟩) ⟨pre_blind, va_recv hst.k (fr_P hP [0] rfl) (ci := 13) (q0 := 0) rfl rfl, pre_at hP hD hS hz hzs hst [0] (by decide) rfl rfl⟩ rfl rfl hl.1 rfl (lv_room (Nat.le_of_ble_eq_true rfl)) dX11_addsCliff_23 ⟨(Nat.le_of_ble_eq_true rfl), (Nat.le_of_ble_eq_true rfl)⟩) hP hD hS hA [0] (by decide) rfl rfl rfl rfl (fun H locs hP hD hS => ?_)
      obtain rfl := Option.some.inj hF
      exact en_i hQ (Nat.le_of_ble_eq_true rfl) (Nat.le_of_ble_eq_true rfl) hx hb hr hlocks hP hD hS rfl dX11_addsCliff_26

/-! X11_fells -/
theorem dX11_fells_0 : decode cX11_fells 0 = .ok (.aload_n 0, 1) := by decide +kernel
theorem dX11_fells_1 : decode cX11_fells 1 = .ok (.iload_n 1, 1) := by decide +kernel
theorem dX11_fells_2 : decode cX11_fells 2 = .ok (.invokevirtual 138, 3) := by decide +kernel
theorem dX11_fells_5 : decode cX11_fells 5 = .ok (.ifCond .ne 9, 3) := by decide +kernel
theorem dX11_fells_8 : decode cX11_fells 8 = .ok (.aload_n 0, 1) := by decide +kernel
theorem dX11_fells_9 : decode cX11_fells 9 = .ok (.iconst 1, 1) := by decide +kernel
theorem dX11_fells_10 : decode cX11_fells 10 = .ok (.invokevirtual 80, 3) := by decide +kernel
theorem dX11_fells_13 : decode cX11_fells 13 = .ok (.ireturn, 1) := by decide +kernel
theorem dX11_fells_14 : decode cX11_fells 14 = .ok (.iload_n 1, 1) := by decide +kernel
theorem dX11_fells_15 : decode cX11_fells 15 = .ok (.istore_n 2, 1) := by decide +kernel
theorem dX11_fells_16 : decode cX11_fells 16 = .ok (.iload_n 2, 1) := by decide +kernel
theorem dX11_fells_17 : decode cX11_fells 17 = .ok (.iconst 4, 1) := by decide +kernel
theorem dX11_fells_18 : decode cX11_fells 18 = .ok (.if_icmp .ge 67, 3) := by decide +kernel
theorem dX11_fells_21 : decode cX11_fells 21 = .ok (.aload_n 0, 1) := by decide +kernel
theorem dX11_fells_22 : decode cX11_fells 22 = .ok (.getfield 7, 3) := by decide +kernel
theorem dX11_fells_25 : decode cX11_fells 25 = .ok (.bipush 69, 2) := by decide +kernel
theorem dX11_fells_27 : decode cX11_fells 27 = .ok (.iload_n 2, 1) := by decide +kernel
theorem dX11_fells_28 : decode cX11_fells 28 = .ok (.iadd, 1) := by decide +kernel
theorem dX11_fells_29 : decode cX11_fells 29 = .ok (.iload_n 2, 1) := by decide +kernel
theorem dX11_fells_30 : decode cX11_fells 30 = .ok (.iconst 3, 1) := by decide +kernel
theorem dX11_fells_31 : decode cX11_fells 31 = .ok (.if_icmp .ge 17, 3) := by decide +kernel
theorem dX11_fells_34 : decode cX11_fells 34 = .ok (.aload_n 0, 1) := by decide +kernel
theorem dX11_fells_35 : decode cX11_fells 35 = .ok (.getfield 7, 3) := by decide +kernel
theorem dX11_fells_38 : decode cX11_fells 38 = .ok (.bipush 69, 2) := by decide +kernel
theorem dX11_fells_40 : decode cX11_fells 40 = .ok (.iload_n 2, 1) := by decide +kernel
theorem dX11_fells_41 : decode cX11_fells 41 = .ok (.iadd, 1) := by decide +kernel
theorem dX11_fells_42 : decode cX11_fells 42 = .ok (.iconst 1, 1) := by decide +kernel
theorem dX11_fells_43 : decode cX11_fells 43 = .ok (.iadd, 1) := by decide +kernel
theorem dX11_fells_44 : decode cX11_fells 44 = .ok (.iaload, 1) := by decide +kernel
theorem dX11_fells_45 : decode cX11_fells 45 = .ok (.goto 4, 3) := by decide +kernel
theorem dX11_fells_48 : decode cX11_fells 48 = .ok (.iconst 0, 1) := by decide +kernel
theorem dX11_fells_49 : decode cX11_fells 49 = .ok (.iastore, 1) := by decide +kernel
theorem dX11_fells_50 : decode cX11_fells 50 = .ok (.aload_n 0, 1) := by decide +kernel
theorem dX11_fells_51 : decode cX11_fells 51 = .ok (.getfield 7, 3) := by decide +kernel
theorem dX11_fells_54 : decode cX11_fells 54 = .ok (.bipush 73, 2) := by decide +kernel
theorem dX11_fells_56 : decode cX11_fells 56 = .ok (.iload_n 2, 1) := by decide +kernel
theorem dX11_fells_57 : decode cX11_fells 57 = .ok (.iadd, 1) := by decide +kernel
theorem dX11_fells_58 : decode cX11_fells 58 = .ok (.iload_n 2, 1) := by decide +kernel
theorem dX11_fells_59 : decode cX11_fells 59 = .ok (.iconst 3, 1) := by decide +kernel
theorem dX11_fells_60 : decode cX11_fells 60 = .ok (.if_icmp .ge 17, 3) := by decide +kernel
theorem dX11_fells_63 : decode cX11_fells 63 = .ok (.aload_n 0, 1) := by decide +kernel
theorem dX11_fells_64 : decode cX11_fells 64 = .ok (.getfield 7, 3) := by decide +kernel
theorem dX11_fells_67 : decode cX11_fells 67 = .ok (.bipush 73, 2) := by decide +kernel
theorem dX11_fells_69 : decode cX11_fells 69 = .ok (.iload_n 2, 1) := by decide +kernel
theorem dX11_fells_70 : decode cX11_fells 70 = .ok (.iadd, 1) := by decide +kernel
theorem dX11_fells_71 : decode cX11_fells 71 = .ok (.iconst 1, 1) := by decide +kernel
theorem dX11_fells_72 : decode cX11_fells 72 = .ok (.iadd, 1) := by decide +kernel
theorem dX11_fells_73 : decode cX11_fells 73 = .ok (.iaload, 1) := by decide +kernel
theorem dX11_fells_74 : decode cX11_fells 74 = .ok (.goto 4, 3) := by decide +kernel
theorem dX11_fells_77 : decode cX11_fells 77 = .ok (.iconst 0, 1) := by decide +kernel
theorem dX11_fells_78 : decode cX11_fells 78 = .ok (.iastore, 1) := by decide +kernel
theorem dX11_fells_79 : decode cX11_fells 79 = .ok (.iinc 2 1, 3) := by decide +kernel
theorem dX11_fells_82 : decode cX11_fells 82 = .ok (.goto (-66), 3) := by decide +kernel
theorem dX11_fells_85 : decode cX11_fells 85 = .ok (.aload_n 0, 1) := by decide +kernel
theorem dX11_fells_86 : decode cX11_fells 86 = .ok (.getfield 7, 3) := by decide +kernel
theorem dX11_fells_89 : decode cX11_fells 89 = .ok (.iconst 1, 1) := by decide +kernel
theorem dX11_fells_90 : decode cX11_fells 90 = .ok (.dup2, 1) := by decide +kernel
theorem dX11_fells_91 : decode cX11_fells 91 = .ok (.iaload, 1) := by decide +kernel
theorem dX11_fells_92 : decode cX11_fells 92 = .ok (.iconst 1, 1) := by decide +kernel
theorem dX11_fells_93 : decode cX11_fells 93 = .ok (.isub, 1) := by decide +kernel
theorem dX11_fells_94 : decode cX11_fells 94 = .ok (.iastore, 1) := by decide +kernel
theorem dX11_fells_95 : decode cX11_fells 95 = .ok (.aload_n 0, 1) := by decide +kernel
theorem dX11_fells_96 : decode cX11_fells 96 = .ok (.aload_n 0, 1) := by decide +kernel
theorem dX11_fells_97 : decode cX11_fells 97 = .ok (.getfield 7, 3) := by decide +kernel
theorem dX11_fells_100 : decode cX11_fells 100 = .ok (.iconst 1, 1) := by decide +kernel
theorem dX11_fells_101 : decode cX11_fells 101 = .ok (.iaload, 1) := by decide +kernel
theorem dX11_fells_102 : decode cX11_fells 102 = .ok (.invokevirtual 83, 3) := by decide +kernel
theorem dX11_fells_105 : decode cX11_fells 105 = .ok (.ireturn, 1) := by decide +kernel
def f_X11_fells_L16 (K16 : (Nat → Int32) → Option (Int32 × (Nat → Int32) × Int32)) : Nat → Int32 → (Nat → Int32) → Option (Int32 × (Nat → Int32) × Int32)
  | 0, _, _ => none
  | n16 + 1, i2, i3 =>
    q_br (4 ≤ i2) (
  K16 i3) (
  q_lt (fun (j5 : Int32) =>
  q_gd (q_in (69 + i2) 77) (
  q_lt (upd i3 ((69 + i2).toNatClampNeg) j5) (fun u7 =>
  q_lt (fun (j8 : Int32) =>
  q_gd (q_in (73 + i2) 77) (
  q_lt (upd u7 ((73 + i2).toNatClampNeg) j8) (fun u10 =>
  q_lt (i2 + 1 : Int32) (fun v11 =>
  f_X11_fells_L16  K16 n16 v11 u10)))) (fun (J78 : Int32 → Option (Int32 × (Nat → Int32) × Int32)) =>
  q_br (3 ≤ i2) (
  J78 0) (
  q_gd (q_in ((73 + i2) + 1) 77) (
  J78 (u7 (((73 + i2) + 1).toNatClampNeg)))))))) (fun (J49 : Int32 → Option (Int32 × (Nat → Int32) × Int32)) =>
  q_br (3 ≤ i2) (
  J49 0) (
  q_gd (q_in ((69 + i2) + 1) 77) (
  J49 (i3 (((69 + i2) + 1).toNatClampNeg))))))
def f_X11_fells (x_g : (Nat → Int32)) (x_thrown : Int32) (p1 : Int32) : Option (Int32 × (Nat → Int32) × Int32) :=
  q_bd (f_X11_isCliff x_g p1) (fun q1 =>
  q_br (q1 = 0) (
  q_bd (f_X11_fails x_thrown 1) (fun q16 =>
  some (q16.1, x_g, q16.2))) (
  f_X11_fells_L16  (fun y4 =>
  q_lt (upd y4 1 ((y4 1) - 1)) (fun u14 =>
  q_bd (f_X11_done x_thrown (u14 1)) (fun q15 =>
  some (q15.1, u14, q15.2)))) 2000 p1 x_g))
theorem hv_X11_fells : yX11_fells.cls = RX11 ∧ yX11_fells.cls ≠ "java/lang/invoke/MethodHandle" ∧ yX11_fells.cls ≠ "java/lang/invoke/VarHandle" ∧ (parseMethodDescriptor yX11_fells.desc).map (fun d => d.parameters.length) = some 1 := by decide +kernel
abbrev rm_X11_fells : Room := { frames := 2, cells := 0, slots := 0, locals := 43 }
set_option maxHeartbeats 4000000 in
set_option maxRecDepth 100000 in
theorem k_X11_fells (l : Launch) (E : ET) (a : Nat → Nat) (o : Nat) (x : Model_t) (p1 : Int32) (res : Int32 × (Nat → Int32) × Int32) (hF : f_X11_fells x.1.1 x.2.2.2.1 p1 = some res) (sz : Nat) : CtI l yX11_fells (mws yX11_fells cX11_fells 3 (some .int)) rm_X11_fells 0 0 [.ref (a o), .int p1] E (bl_Model E a o x) res.1 (bl_Model E a o ((res.2.1, x.1.2.1, x.1.2.2.1, x.1.2.2.2.1, x.1.2.2.2.2), (x.2.1.1, x.2.1.2.1, x.2.1.2.2.1, x.2.1.2.2.2.1, x.2.1.2.2.2.2), (x.2.2.1.1, x.2.2.1.2.1, x.2.2.1.2.2.1, x.2.2.1.2.2.2), (res.2.2, x.2.2.2.2.1, x.2.2.2.2.2.1, x.2.2.2.2.2.2))) sz := by
  refine mk_M (by decide +kernel) (Nat.le_of_ble_eq_true rfl) ?_
  intro p e s m below meth c A args Q ls hAe hsz hQ hx hb hr hml hin ha hown hlocks hA hz hzs hst hP hD hS hl
  have hown : s.vm.findClass RX11 = some m.cls := hown
  rw [hAe] at hQ
  subst hsz
  have hP : va_P E.1 vwCl (List.flatten [w_Model E a o x]) s.heap := hP
  have hD : va_D A (List.flatten [w_Model E a o x]) := hD
  have hl : lv_has ls 3 [(0, .ref (a o)), (1, .int p1)] := hl
  generalize hHe : s.heap = H at hP
  have hS : va_S A s.heap H [] := by rw [← hHe]; exact hS
  generalize ([] : List Loc) = locs at hS ⊢
  unfold f_X11_fells at hF
  refine lv_aload_n hx hb dX11_fells_0 rfl (lv_at hl 0 rfl) ?_
  refine lv_iload_n hx hb dX11_fells_1 rfl (lv_at hl 1 rfl) ?_
  obtain ⟨q1, hq1, hF⟩ := q_bdi hF
  refine cl_i (Lc := [w_Model E a o x]) (Lc' := [w_Model E a o x]) (L' := [w_Model E a o x]) (rv := q1) (va_runV (As := [.int p1]) (rest := []) ⟨hx, hb, hml, hown, ha⟩ (k_X11_isCliff l E a o x p1 q1 hq1 H.size) (cwV 1 ha (gi_V (fun _ h => h) mw1853 mw1855 mw50 mw87 mw1856) rfl rfl rfl hv_X11_isCliff ⟨(Nat.le_of_ble_eq_true rfl), (Nat.le_of_ble_eq_true rfl)⟩) ⟨pre_blind, va_recv hst.k (fr_P hP [0] rfl) (ci := 13) (q0 := 0) rfl rfl, pre_at hP hD hS hz hzs hst [0] (by decide) rfl rfl⟩ rfl rfl hl.1 rfl (lv_room (Nat.le_of_ble_eq_true rfl)) dX11_fells_2 ⟨(Nat.le_of_ble_eq_true rfl), (Nat.le_of_ble_eq_true rfl)⟩) hP hD hS hA [0] (by decide) rfl rfl rfl rfl (fun H locs hP hD hS => ?_)
  refine lv_if_ne (tgt := 14) hx hb dX11_fells_5 (by decide) (fun c5 => ?_) (fun c5 => ?_)
  · have hF := q_brn c5 hF
    refine lv_iload_n hx hb dX11_fells_14 rfl (lv_at hl 1 rfl) ?_
    refine lv_istore_n (lv' := [(2, .int p1), (0, .ref (a o)), (1, .int p1)]) hx hb dX11_fells_15 rfl hl (by decide) rfl (fun ls hl => ?_)
    have key16 : ∀ (K : (Nat → Int32) → Option (Int32 × (Nat → Int32) × Int32)), (∀ (y4 : (Nat → Int32)) (H : Heap) (locs : List Loc) (ls : Array Slot), K y4 = some res → va_P E.1 vwCl (List.flatten [w_Model E a o ((y4, x.1.2.1, x.1.2.2.1, x.1.2.2.2.1, x.1.2.2.2.2), (x.2.1.1, x.2.1.2.1, x.2.1.2.2.1, x.2.1.2.2.2.1, x.2.1.2.2.2.2), (x.2.2.1.1, x.2.2.1.2.1, x.2.2.1.2.2.1, x.2.2.1.2.2.2), (x.2.2.2.1, x.2.2.2.2.1, x.2.2.2.2.2.1, x.2.2.2.2.2.2))]) H → va_D A (List.flatten [w_Model E a o ((y4, x.1.2.1, x.1.2.2.1, x.1.2.2.2.1, x.1.2.2.2.2), (x.2.1.1, x.2.1.2.1, x.2.1.2.2.1, x.2.1.2.2.2.1, x.2.1.2.2.2.2), (x.2.2.1.1, x.2.2.1.2.1, x.2.2.1.2.2.1, x.2.2.1.2.2.2), (x.2.2.2.1, x.2.2.2.2.1, x.2.2.2.2.2.1, x.2.2.2.2.2.2))]) → va_S A s.heap H locs → lv_has ls 3 [(0, .ref (a o))] → W p l e rm_X11_fells s m args below meth c H locs 0 0 Q (F0 m 85 ls [])) → ∀ (n : Nat) (i2 : Int32) (i3 : (Nat → Int32)) (H : Heap) (locs : List Loc) (ls : Array Slot), f_X11_fells_L16  K n i2 i3 = some res → va_P E.1 vwCl (List.flatten [w_Model E a o ((i3, x.1.2.1, x.1.2.2.1, x.1.2.2.2.1, x.1.2.2.2.2), (x.2.1.1, x.2.1.2.1, x.2.1.2.2.1, x.2.1.2.2.2.1, x.2.1.2.2.2.2), (x.2.2.1.1, x.2.2.1.2.1, x.2.2.1.2.2.1, x.2.2.1.2.2.2), (x.2.2.2.1, x.2.2.2.2.1, x.2.2.2.2.2.1, x.2.2.2.2.2.2))]) H → va_D A (List.flatten [w_Model E a o ((i3, x.1.2.1, x.1.2.2.1, x.1.2.2.2.1, x.1.2.2.2.2), (x.2.1.1, x.2.1.2.1, x.2.1.2.2.1, x.2.1.2.2.2.1, x.2.1.2.2.2.2), (x.2.2.1.1, x.2.2.1.2.1, x.2.2.1.2.2.1, x.2.2.1.2.2.2), (x.2.2.2.1, x.2.2.2.2.1, x.2.2.2.2.2.1, x.2.2.2.2.2.2))]) → va_S A s.heap H locs → lv_has ls 3 [(2, .int i2), (0, .ref (a o))] → W p l e rm_X11_fells s m args below meth c H locs 0 0 Q (F0 m 16 ls []) := by
      intro K16 hK16 n16
      induction n16 with
      | zero => intro i2 i3 H locs ls hF; exact absurd hF (by simp [f_X11_fells_L16])
      | succ n16 ih16 =>
        intro i2 i3 H locs ls hF hP hD hS hl
        rw [f_X11_fells_L16] at hF
        refine lv_iload_n hx hb dX11_fells_16 rfl (lv_at hl 0 rfl) ?_
        refine lv_iconst (v := 4) hx hb dX11_fells_17 (by decide) ?_
        refine lv_icmp_ge (tgt := 85) hx hb dX11_fells_18 (by decide) (fun c18 => ?_) (fun c18 => ?_)
        · have hF := q_brp c18 hF
          exact hK16 i3 H locs ls hF hP hD hS (lv_sub hl [1] rfl)
        · have hF := q_brn c18 hF
          refine lv_aload_n hx hb dX11_fells_21 rfl (lv_at hl 1 rfl) ?_
          refine va_get (D := E.1) (ci := 13) (v := .ref (a (o + 1))) (C := RX11) (T := TX11) (N := 18) hx hb ha in_X11 hown hst.k hP 0 rfl rfl 0 (by decide) (ha _ mw1636) (fun _ h9 => h9) rfl dX11_fells_22 ?_
          refine lv_bipush (v := 69) hx hb dX11_fells_25 (by decide) ?_
          refine lv_iload_n hx hb dX11_fells_27 rfl (lv_at hl 0 rfl) ?_
          refine lv_iadd hx hb dX11_fells_28 ?_
          refine lv_iload_n hx hb dX11_fells_29 rfl (lv_at hl 0 rfl) ?_
          refine lv_iconst (v := 3) hx hb dX11_fells_30 (by decide) ?_
          obtain ⟨J49, hJ49, hF⟩ := q_jn hF
          have jJ49 : ∀ (j5 : Int32), ∀ (H : Heap) (locs : List Loc) (ls : Array Slot), J49 j5 = some res → va_P E.1 vwCl (List.flatten [w_Model E a o ((i3, x.1.2.1, x.1.2.2.1, x.1.2.2.2.1, x.1.2.2.2.2), (x.2.1.1, x.2.1.2.1, x.2.1.2.2.1, x.2.1.2.2.2.1, x.2.1.2.2.2.2), (x.2.2.1.1, x.2.2.1.2.1, x.2.2.1.2.2.1, x.2.2.1.2.2.2), (x.2.2.2.1, x.2.2.2.2.1, x.2.2.2.2.2.1, x.2.2.2.2.2.2))]) H → va_D A (List.flatten [w_Model E a o ((i3, x.1.2.1, x.1.2.2.1, x.1.2.2.2.1, x.1.2.2.2.2), (x.2.1.1, x.2.1.2.1, x.2.1.2.2.1, x.2.1.2.2.2.1, x.2.1.2.2.2.2), (x.2.2.1.1, x.2.2.1.2.1, x.2.2.1.2.2.1, x.2.2.1.2.2.2), (x.2.2.2.1, x.2.2.2.2.1, x.2.2.2.2.2.1, x.2.2.2.2.2.2))]) → va_S A s.heap H locs → lv_has ls 3 [(2, .int i2), (0, .ref (a o))] → W p l e rm_X11_fells s m args below meth c H locs 0 0 Q (F0 m 49 ls [.int j5, .int (69 + i2), .ref (a (o + 1))]) := by
            intro j5 H locs ls hF hP hD hS hl
            rw [hJ49] at hF
            obtain ⟨g6, hF⟩ := q_gdi hF
            refine vj_iast hx hb hst.k hP hD hS 1 0 rfl rfl (f := i3) (k := (69 + i2).toNatClampNeg) rfl g6 dX11_fells_49 (fun u7 eu7 H locs hP hD hS => ?_)
            have hF := q_lti eu7 hF
            have hP : va_P E.1 vwCl (List.flatten [w_Model E a o ((u7, x.1.2.1, x.1.2.2.1, x.1.2.2.2.1, x.1.2.2.2.2), (x.2.1.1, x.2.1.2.1, x.2.1.2.2.1, x.2.1.2.2.2.1, x.2.1.2.2.2.2), (x.2.2.1.1, x.2.2.1.2.1, x.2.2.1.2.2.1, x.2.2.1.2.2.2), (x.2.2.2.1, x.2.2.2.2.1, x.2.2.2.2.2.1, x.2.2.2.2.2.2))]) H := hP
            have hD : va_D A (List.flatten [w_Model E a o ((u7, x.1.2.1, x.1.2.2.1, x.1.2.2.2.1, x.1.2.2.2.2), (x.2.1.1, x.2.1.2.1, x.2.1.2.2.1, x.2.1.2.2.2.1, x.2.1.2.2.2.2), (x.2.2.1.1, x.2.2.1.2.1, x.2.2.1.2.2.1, x.2.2.1.2.2.2), (x.2.2.2.1, x.2.2.2.2.1, x.2.2.2.2.2.1, x.2.2.2.2.2.2))]) := hD
            refine lv_aload_n hx hb dX11_fells_50 rfl (lv_at hl 1 rfl) ?_
            refine va_get (D := E.1) (ci := 13) (v := .ref (a (o + 1))) (C := RX11) (T := TX11) (N := 18) hx hb ha in_X11 hown hst.k hP 0 rfl rfl 0 (by decide) (ha _ mw1636) (fun _ h9 => h9) rfl dX11_fells_51 ?_
            refine lv_bipush (v := 73) hx hb dX11_fells_54 (by decide) ?_
            refine lv_iload_n hx hb dX11_fells_56 rfl (lv_at hl 0 rfl) ?_
            refine lv_iadd hx hb dX11_fells_57 ?_
            refine lv_iload_n hx hb dX11_fells_58 rfl (lv_at hl 0 rfl) ?_
            refine lv_iconst (v := 3) hx hb dX11_fells_59 (by decide) ?_
            obtain ⟨J78, hJ78, hF⟩ := q_jn hF
            have jJ78 : ∀ (j8 : Int32), ∀ (H : Heap) (locs : List Loc) (ls : Array Slot), J78 j8 = some res → va_P E.1 vwCl (List.flatten [w_Model E a o ((u7, x.1.2.1, x.1.2.2.1, x.1.2.2.2.1, x.1.2.2.2.2), (x.2.1.1, x.2.1.2.1, x.2.1.2.2.1, x.2.1.2.2.2.1, x.2.1.2.2.2.2), (x.2.2.1.1, x.2.2.1.2.1, x.2.2.1.2.2.1, x.2.2.1.2.2.2), (x.2.2.2.1, x.2.2.2.2.1, x.2.2.2.2.2.1, x.2.2.2.2.2.2))]) H → va_D A (List.flatten [w_Model E a o ((u7, x.1.2.1, x.1.2.2.1, x.1.2.2.2.1, x.1.2.2.2.2), (x.2.1.1, x.2.1.2.1, x.2.1.2.2.1, x.2.1.2.2.2.1, x.2.1.2.2.2.2), (x.2.2.1.1, x.2.2.1.2.1, x.2.2.1.2.2.1, x.2.2.1.2.2.2), (x.2.2.2.1, x.2.2.2.2.1, x.2.2.2.2.2.1, x.2.2.2.2.2.2))]) → va_S A s.heap H locs → lv_has ls 3 [(2, .int i2), (0, .ref (a o))] → W p l e rm_X11_fells s m args below meth c H locs 0 0 Q (F0 m 78 ls [.int j8, .int (73 + i2), .ref (a (o + 1))]) := by
              intro j8 H locs ls hF hP hD hS hl
              rw [hJ78] at hF
              obtain ⟨g9, hF⟩ := q_gdi hF
              refine vj_iast hx hb hst.k hP hD hS 1 0 rfl rfl (f := u7) (k := (73 + i2).toNatClampNeg) rfl g9 dX11_fells_78 (fun u10 eu10 H locs hP hD hS => ?_)
              have hF := q_lti eu10 hF
              have hP : va_P E.1 vwCl (List.flatten [w_Model E a o ((u10, x.1.2.1, x.1.2.2.1, x.1.2.2.2.1, x.1.2.2.2.2), (x.2.1.1, x.2.1.2.1, x.2.1.2.2.1, x.2.1.2.2.2.1, x.2.1.2.2.2.2), (x.2.2.1.1, x.2.2.1.2.1, x.2.2.1.2.2.1, x.2.2.1.2.2.2), (x.2.2.2.1, x.2.2.2.2.1, x.2.2.2.2.2.1, x.2.2.2.2.2.2))]) H := hP
              have hD : va_D A (List.flatten [w_Model E a o ((u10, x.1.2.1, x.1.2.2.1, x.1.2.2.2.1, x.1.2.2.2.2), (x.2.1.1, x.2.1.2.1, x.2.1.2.2.1, x.2.1.2.2.2.1, x.2.1.2.2.2.2), (x.2.2.1.1, x.2.2.1.2.1, x.2.2.1.2.2.1, x.2.2.1.2.2.2), (x.2.2.2.1, x.2.2.2.2.1, x.2.2.2.2.2.1, x.2.2.2.2.2.2))]) := hD
              obtain ⟨v11, ev11⟩ : ∃ y : Int32, y = i2 + 1 := ⟨_, rfl⟩
              have hF := q_lti ev11 hF
              refine lv_iinc (v := v11) (lv' := [(2, .int v11), (0, .ref (a o))]) hx hb dX11_fells_79 hl (k := 0) rfl (by rw [ev11]; rfl) (by decide) rfl (fun ls hl => ?_)
              refine lv_goto (tgt := 16) hx hb dX11_fells_82 (by decide) ?_
              exact ih16 v11 u10 H locs ls hF hP hD hS (lv_sub hl [0, 1] rfl)
            refine lv_icmp_ge (tgt := 77) hx hb dX11_fells_60 (by decide) (fun c60 => ?_) (fun c60 => ?_)
            · have hF := q_brp c60 hF
              refine lv_iconst (v := 0) hx hb dX11_fells_77 (by decide) ?_
              exact jJ78 0 H locs ls hF hP hD hS (lv_sub hl [0, 1] rfl)
            · have hF := q_brn c60 hF
              refine lv_aload_n hx hb dX11_fells_63 rfl (lv_at hl 1 rfl) ?_
              refine va_get (D := E.1) (ci := 13) (v := .ref (a (o + 1))) (C := RX11) (T := TX11) (N := 18) hx hb ha in_X11 hown hst.k hP 0 rfl rfl 0 (by decide) (ha _ mw1636) (fun _ h9 => h9) rfl dX11_fells_64 ?_
              refine lv_bipush (v := 73) hx hb dX11_fells_67 (by decide) ?_
              refine lv_iload_n hx hb dX11_fells_69 rfl (lv_at hl 0 rfl) ?_
              refine lv_iadd hx hb dX11_fells_70 ?_
              refine lv_iconst (v := 1) hx hb dX11_fells_71 (by decide) ?_
              refine lv_iadd hx hb dX11_fells_72 ?_
              obtain ⟨g12, hF⟩ := q_gdi hF
              refine vi_iald hx hb hst.k hP 1 0 rfl rfl (f := u7) (k := ((73 + i2) + 1).toNatClampNeg) rfl g12 dX11_fells_73 ?_
              refine lv_goto (tgt := 78) hx hb dX11_fells_74 (by decide) ?_
              exact jJ78 (u7 (((73 + i2) + 1).toNatClampNeg)) H locs ls hF hP hD hS (lv_sub hl [0, 1] rfl)
          refine lv_icmp_ge (tgt := 48) hx hb dX11_fells_31 (by decide) (fun c31 => ?_) (fun c31 => ?_)
          · have hF := q_brp c31 hF
            refine lv_iconst (v := 0) hx hb dX11_fells_48 (by decide) ?_
            exact jJ49 0 H locs ls hF hP hD hS (lv_sub hl [0, 1] rfl)
          · have hF := q_brn c31 hF
            refine lv_aload_n hx hb dX11_fells_34 rfl (lv_at hl 1 rfl) ?_
            refine va_get (D := E.1) (ci := 13) (v := .ref (a (o + 1))) (C := RX11) (T := TX11) (N := 18) hx hb ha in_X11 hown hst.k hP 0 rfl rfl 0 (by decide) (ha _ mw1636) (fun _ h9 => h9) rfl dX11_fells_35 ?_
            refine lv_bipush (v := 69) hx hb dX11_fells_38 (by decide) ?_
            refine lv_iload_n hx hb dX11_fells_40 rfl (lv_at hl 0 rfl) ?_
            refine lv_iadd hx hb dX11_fells_41 ?_
            refine lv_iconst (v := 1) hx hb dX11_fells_42 (by decide) ?_
            refine lv_iadd hx hb dX11_fells_43 ?_
            obtain ⟨g13, hF⟩ := q_gdi hF
            refine vi_iald hx hb hst.k hP 1 0 rfl rfl (f := i3) (k := ((69 + i2) + 1).toNatClampNeg) rfl g13 dX11_fells_44 ?_
            refine lv_goto (tgt := 49) hx hb dX11_fells_45 (by decide) ?_
            exact jJ49 (i3 (((69 + i2) + 1).toNatClampNeg)) H locs ls hF hP hD hS (lv_sub hl [0, 1] rfl)
    refine key16 _ ?_ _ p1 x.1.1 H locs ls hF hP hD hS (lv_sub hl [0, 1] rfl)
    intro y4 H locs ls hF hP hD hS hl
    refine lv_aload_n hx hb dX11_fells_85 rfl (lv_at hl 0 rfl) ?_
    refine va_get (D := E.1) (ci := 13) (v := .ref (a (o + 1))) (C := RX11) (T := TX11) (N := 18) hx hb ha in_X11 hown hst.k hP 0 rfl rfl 0 (by decide) (ha _ mw1636) (fun _ h9 => h9) rfl dX11_fells_86 ?_
    refine lv_iconst (v := 1) hx hb dX11_fells_89 (by decide) ?_
    refine lv_dup2_11 hx hb dX11_fells_90 rfl rfl ?_
    refine vi_iald hx hb hst.k hP 1 0 rfl rfl (f := y4) (k := 1) (by decide) (by decide) dX11_fells_91 ?_
    refine lv_iconst (v := 1) hx hb dX11_fells_92 (by decide) ?_
    refine lv_isub hx hb dX11_fells_93 ?_
    refine vj_iast hx hb hst.k hP hD hS 1 0 rfl rfl (f := y4) (k := 1) (by decide) (by decide) dX11_fells_94 (fun u14 eu14 H locs hP hD hS => ?_)
    have hF := q_lti eu14 hF
    have hP : va_P E.1 vwCl (List.flatten [w_Model E a o ((u14, x.1.2.1, x.1.2.2.1, x.1.2.2.2.1, x.1.2.2.2.2), (x.2.1.1, x.2.1.2.1, x.2.1.2.2.1, x.2.1.2.2.2.1, x.2.1.2.2.2.2), (x.2.2.1.1, x.2.2.1.2.1, x.2.2.1.2.2.1, x.2.2.1.2.2.2), (x.2.2.2.1, x.2.2.2.2.1, x.2.2.2.2.2.1, x.2.2.2.2.2.2))]) H := hP
    have hD : va_D A (List.flatten [w_Model E a o ((u14, x.1.2.1, x.1.2.2.1, x.1.2.2.2.1, x.1.2.2.2.2), (x.2.1.1, x.2.1.2.1, x.2.1.2.2.1, x.2.1.2.2.2.1, x.2.1.2.2.2.2), (x.2.2.1.1, x.2.2.1.2.1, x.2.2.1.2.2.1, x.2.2.1.2.2.2), (x.2.2.2.1, x.2.2.2.2.1, x.2.2.2.2.2.1, x.2.2.2.2.2.2))]) := hD
    refine lv_aload_n hx hb dX11_fells_95 rfl (lv_at hl 0 rfl) ?_
    refine lv_aload_n hx hb dX11_fells_96 rfl (lv_at hl 0 rfl) ?_
    refine va_get (D := E.1) (ci := 13) (v := .ref (a (o + 1))) (C := RX11) (T := TX11) (N := 18) hx hb ha in_X11 hown hst.k hP 0 rfl rfl 0 (by decide) (ha _ mw1636) (fun _ h9 => h9) rfl dX11_fells_97 ?_
    refine lv_iconst (v := 1) hx hb dX11_fells_100 (by decide) ?_
    refine vi_iald hx hb hst.k hP 1 0 rfl rfl (f := u14) (k := 1) (by decide) (by decide) dX11_fells_101 ?_
    obtain ⟨q15, hq15, hF⟩ := q_bdi hF
    refine cl_i (Lc := [w_Model E a o ((u14, x.1.2.1, x.1.2.2.1, x.1.2.2.2.1, x.1.2.2.2.2), (x.2.1.1, x.2.1.2.1, x.2.1.2.2.1, x.2.1.2.2.2.1, x.2.1.2.2.2.2), (x.2.2.1.1, x.2.2.1.2.1, x.2.2.1.2.2.1, x.2.2.1.2.2.2), (x.2.2.2.1, x.2.2.2.2.1, x.2.2.2.2.2.1, x.2.2.2.2.2.2))]) (Lc' := [w_Model E a o ((u14, x.1.2.1, x.1.2.2.1, x.1.2.2.2.1, x.1.2.2.2.2), (x.2.1.1, x.2.1.2.1, x.2.1.2.2.1, x.2.1.2.2.2.1, x.2.1.2.2.2.2), (x.2.2.1.1, x.2.2.1.2.1, x.2.2.1.2.2.1, x.2.2.1.2.2.2), (q15.2, x.2.2.2.2.1, x.2.2.2.2.2.1, x.2.2.2.2.2.2))]) (L' := [w_Model E a o ((u14, x.1.2.1, x.1.2.2.1, x.1.2.2.2.1, x.1.2.2.2.2), (x.2.1.1, x.2.1.2.1, x.2.1.2.2.1, x.2.1.2.2.2.1, x.2.1.2.2.2.2), (x.2.2.1.1, x.2.2.1.2.1, x.2.2.1.2.2.1, x.2.2.1.2.2.2), (q15.2, x.2.2.2.2.1, x.2.2.2.2.2.1, x.2.2.2.2.2.2))]) (rv := q15.1) (va_runV (As := [.int (u14 1)]) (rest := []) ⟨hx, hb, hml, hown, ha⟩ (k_X11_done l E a o ((u14, x.1.2.1, x.1.2.2.1, x.1.2.2.2.1, x.1.2.2.2.2), (x.2.1.1, x.2.1.2.1, x.2.1.2.2.1, x.2.1.2.2.2.1, x.2.1.2.2.2.2), (x.2.2.1.1, x.2.2.1.2.1, x.2.2.1.2.2.1, x.2.2.1.2.2.2), (x.2.2.2.1, x.2.2.2.2.1, x.2.2.2.2.2.1, x.2.2.2.2.2.2)) (u14 1) q15 hq15 H.size) (cwV 1 ha (gi_V (fun _ h => h) mw1720 mw1722 mw30 mw87 mw1723) rfl rfl rfl hv_X11_done ⟨(Nat.le_of_ble_eq_true rfl), (Nat.le_of_ble_eq_true rfl)⟩) ⟨pre_blind, va_recv hst.k (fr_P hP [0] rfl) (ci := 13) (q0 := 0) rfl rfl, pre_at hP hD hS hz hzs hst [0] (by decide) rfl rfl⟩ rfl rfl hl.1 rfl (lv_room (Nat.le_of_ble_eq_true rfl)) dX11_fells_102 ⟨(Nat.le_of_ble_eq_true rfl), (Nat.le_of_ble_eq_true rfl)⟩) hP hD hS hA [0] (by decide) rfl rfl rfl rfl (fun H locs hP hD hS => ?_)
    obtain rfl := Option.some.inj hF
    exact en_i hQ (Nat.le_of_ble_eq_true rfl) (Nat.le_of_ble_eq_true rfl) hx hb hr hlocks hP hD hS rfl dX11_fells_105
  · have hF := q_brp c5 hF
    refine lv_aload_n hx hb dX11_fells_8 rfl (lv_at hl 0 rfl) ?_
    refine lv_iconst (v := 1) hx hb dX11_fells_9 (by decide) ?_
    obtain ⟨q16, hq16, hF⟩ := q_bdi hF
    refine cl_i (Lc := [w_Model E a o x]) (Lc' := [w_Model E a o ((x.1.1, x.1.2.1, x.1.2.2.1, x.1.2.2.2.1, x.1.2.2.2.2), (x.2.1.1, x.2.1.2.1, x.2.1.2.2.1, x.2.1.2.2.2.1, x.2.1.2.2.2.2), (x.2.2.1.1, x.2.2.1.2.1, x.2.2.1.2.2.1, x.2.2.1.2.2.2), (q16.2, x.2.2.2.2.1, x.2.2.2.2.2.1, x.2.2.2.2.2.2))]) (L' := [w_Model E a o ((x.1.1, x.1.2.1, x.1.2.2.1, x.1.2.2.2.1, x.1.2.2.2.2), (x.2.1.1, x.2.1.2.1, x.2.1.2.2.1, x.2.1.2.2.2.1, x.2.1.2.2.2.2), (x.2.2.1.1, x.2.2.1.2.1, x.2.2.1.2.2.1, x.2.2.1.2.2.2), (q16.2, x.2.2.2.2.1, x.2.2.2.2.2.1, x.2.2.2.2.2.2))]) (rv := q16.1) (va_runV (As := [.int 1]) (rest := []) ⟨hx, hb, hml, hown, ha⟩ (k_X11_fails l E a o x 1 q16 hq16 H.size) (cwV 1 ha (gi_V (fun _ h => h) mw1716 mw1718 mw29 mw87 mw1719) rfl rfl rfl hv_X11_fails ⟨(Nat.le_of_ble_eq_true rfl), (Nat.le_of_ble_eq_true rfl)⟩) ⟨pre_blind, va_recv hst.k (fr_P hP [0] rfl) (ci := 13) (q0 := 0) rfl rfl, pre_at hP hD hS hz hzs hst [0] (by decide) rfl rfl⟩ rfl rfl hl.1 rfl (lv_room (Nat.le_of_ble_eq_true rfl)) dX11_fells_10 ⟨(Nat.le_of_ble_eq_true rfl), (Nat.le_of_ble_eq_true rfl)⟩) hP hD hS hA [0] (by decide) rfl rfl rfl rfl (fun H locs hP hD hS => ?_)
    obtain rfl := Option.some.inj hF
    exact en_i hQ (Nat.le_of_ble_eq_true rfl) (Nat.le_of_ble_eq_true rfl) hx hb hr hlocks hP hD hS rfl dX11_fells_13
