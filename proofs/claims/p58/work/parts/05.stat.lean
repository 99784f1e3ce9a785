/-! X10_isWithin -/
theorem dX10_isWithin_0 : decode cX10_isWithin 0 = .ok (.iload_n 0, 1) := by decide +kernel
theorem dX10_isWithin_1 : decode cX10_isWithin 1 = .ok (.iload_n 1, 1) := by decide +kernel
theorem dX10_isWithin_2 : decode cX10_isWithin 2 = .ok (.if_icmp .lt 12, 3) := by decide +kernel
theorem dX10_isWithin_5 : decode cX10_isWithin 5 = .ok (.iload_n 0, 1) := by decide +kernel
theorem dX10_isWithin_6 : decode cX10_isWithin 6 = .ok (.iload_n 2, 1) := by decide +kernel
theorem dX10_isWithin_7 : decode cX10_isWithin 7 = .ok (.if_icmp .gt 7, 3) := by decide +kernel
theorem dX10_isWithin_10 : decode cX10_isWithin 10 = .ok (.iconst 1, 1) := by decide +kernel
theorem dX10_isWithin_11 : decode cX10_isWithin 11 = .ok (.goto 4, 3) := by decide +kernel
theorem dX10_isWithin_14 : decode cX10_isWithin 14 = .ok (.iconst 0, 1) := by decide +kernel
theorem dX10_isWithin_15 : decode cX10_isWithin 15 = .ok (.ireturn, 1) := by decide +kernel
def f_X10_isWithin (p1 : Int32) (p2 : Int32) (p3 : Int32) : Option (Int32) :=
  q_br (p1 < p2) (
  some 0) (
  q_br (p3 < p1) (
  some 0) (
  some 1))
theorem hv_X10_isWithin : yX10_isWithin.cls = RX10 ∧ yX10_isWithin.cls ≠ "java/lang/invoke/MethodHandle" ∧ yX10_isWithin.cls ≠ "java/lang/invoke/VarHandle" ∧ (parseMethodDescriptor yX10_isWithin.desc).map (fun d => d.parameters.length) = some 3 := by decide +kernel
abbrev rm_X10_isWithin : Room := { frames := 0, cells := 0, slots := 0, locals := 0 }
set_option maxHeartbeats 4000000 in
set_option maxRecDepth 100000 in
theorem k_X10_isWithin (l : Launch) (E : ET) (p1 : Int32) (p2 : Int32) (p3 : Int32) (res : Int32) (hF : f_X10_isWithin p1 p2 p3 = some res) (sz : Nat) : CtI l yX10_isWithin (mws yX10_isWithin cX10_isWithin 3 (some .boolean)) rm_X10_isWithin 0 0 [.int p1, .int p2, .int p3] E ([]) res ([]) sz := by
  refine mk_M (by decide +kernel) (Nat.le_of_ble_eq_true rfl) ?_
  intro p e s m below meth c A args Q ls hAe hsz hQ hx hb hr hml hin ha hown hlocks hA hz hzs hst hP hD hS hl
  have hown : s.vm.findClass RX10 = some m.cls := hown
  rw [hAe] at hQ
  subst hsz
  have hP : va_P E.1 vwCl (List.flatten []) s.heap := hP
  have hD : va_D A (List.flatten []) := hD
  have hl : lv_has ls 3 [(0, .int p1), (1, .int p2), (2, .int p3)] := hl
  generalize hHe : s.heap = H at hP
  have hS : va_S A s.heap H [] := by rw [← hHe]; exact hS
  generalize ([] : List Loc) = locs at hS ⊢
  unfold f_X10_isWithin at hF
  refine lv_iload_n hx hb dX10_isWithin_0 rfl (lv_at hl 0 rfl) ?_
  refine lv_iload_n hx hb dX10_isWithin_1 rfl (lv_at hl 1 rfl) ?_
  refine lv_icmp_lt (tgt := 14) hx hb dX10_isWithin_2 (by decide) (fun c2 => ?_) (fun c2 => ?_)
  · have hF := q_brp c2 hF
    refine lv_iconst (v := 0) hx hb dX10_isWithin_14 (by decide) ?_
    obtain rfl := Option.some.inj hF
    exact en_z hQ (Nat.le_of_ble_eq_true rfl) (Nat.le_of_ble_eq_true rfl) hx hb hr hlocks (by decide) hP hD hS rfl dX10_isWithin_15
  · have hF := q_brn c2 hF
    refine lv_iload_n hx hb dX10_isWithin_5 rfl (lv_at hl 0 rfl) ?_
    refine lv_iload_n hx hb dX10_isWithin_6 rfl (lv_at hl 2 rfl) ?_
    refine lv_icmp_gt (tgt := 14) hx hb dX10_isWithin_7 (by decide) (fun c7 => ?_) (fun c7 => ?_)
    · have hF := q_brp c7 hF
      refine lv_iconst (v := 0) hx hb dX10_isWithin_14 (by decide) ?_
      obtain rfl := Option.some.inj hF
      exact en_z hQ (Nat.le_of_ble_eq_true rfl) (Nat.le_of_ble_eq_true rfl) hx hb hr hlocks (by decide) hP hD hS rfl dX10_isWithin_15
    · have hF := q_brn c7 hF
      refine lv_iconst (v := 1) hx hb dX10_isWithin_10 (by decide) ?_
      refine lv_goto (tgt := 15) hx hb dX10_isWithin_11 (by decide) ?_
      obtain rfl := Option.some.inj hF
      exact en_z hQ (Nat.le_of_ble_eq_true rfl) (Nat.le_of_ble_eq_true rfl) hx hb hr hlocks (by decide) hP hD hS rfl dX10_isWithin_15

/-! X10_isHerd -/
theorem dX10_isHerd_0 : decode cX10_isHerd 0 = .ok (.iload_n 0, 1) := by decide +kernel
theorem dX10_isHerd_1 : decode cX10_isHerd 1 = .ok (.iconst 0, 1) := by decide +kernel
theorem dX10_isHerd_2 : decode cX10_isHerd 2 = .ok (.iconst 3, 1) := by decide +kernel
theorem dX10_isHerd_3 : decode cX10_isHerd 3 = .ok (.invokestatic 178, 3) := by decide +kernel
theorem dX10_isHerd_6 : decode cX10_isHerd 6 = .ok (.ireturn, 1) := by decide +kernel
def f_X10_isHerd (p1 : Int32) : Option (Int32) :=
  q_bd (f_X10_isWithin p1 0 3) (fun q1 =>
  q_gd (q1 = 0 ∨ q1 = 1) (
  some q1))
theorem hv_X10_isHerd : yX10_isHerd.cls = RX10 ∧ yX10_isHerd.cls ≠ "java/lang/invoke/MethodHandle" ∧ yX10_isHerd.cls ≠ "java/lang/invoke/VarHandle" ∧ (parseMethodDescriptor yX10_isHerd.desc).map (fun d => d.parameters.length) = some 1 := by decide +kernel
abbrev rm_X10_isHerd : Room := { frames := 1, cells := 0, slots := 0, locals := 22 }
set_option maxHeartbeats 4000000 in
set_option maxRecDepth 100000 in
theorem k_X10_isHerd (l : Launch) (E : ET) (p1 : Int32) (res : Int32) (hF : f_X10_isHerd p1 = some res) (sz : Nat) : CtI l yX10_isHerd (mws yX10_isHerd cX10_isHerd 1 (some .boolean)) rm_X10_isHerd 0 0 [.int p1] E ([]) res ([]) sz := by
  refine mk_M (by decide +kernel) (Nat.le_of_ble_eq_true rfl) ?_
  intro p e s m below meth c A args Q ls hAe hsz hQ hx hb hr hml hin ha hown hlocks hA hz hzs hst hP hD hS hl
  have hown : s.vm.findClass RX10 = some m.cls := hown
  rw [hAe] at hQ
  subst hsz
  have hP : va_P E.1 vwCl (List.flatten []) s.heap := hP
  have hD : va_D A (List.flatten []) := hD
  have hl : lv_has ls 1 [(0, .int p1)] := hl
  generalize hHe : s.heap = H at hP
  have hS : va_S A s.heap H [] := by rw [← hHe]; exact hS
  generalize ([] : List Loc) = locs at hS ⊢
  unfold f_X10_isHerd at hF
  refine lv_iload_n hx hb dX10_isHerd_0 rfl (lv_at hl 0 rfl) ?_
  refine lv_iconst (v := 0) hx hb dX10_isHerd_1 (by decide) ?_
  refine lv_iconst (v := 3) hx hb dX10_isHerd_2 (by decide) ?_
  obtain ⟨q1, hq1, hF⟩ := q_bdi hF
  refine cl_i (Lc := []) (Lc' := []) (L' := []) (rv := q1) (va_runS (As := [.int p1, .int 0, .int 3]) (rest := []) ⟨hx, hb, hml, hown, ha⟩ (k_X10_isWithin l E p1 0 3 q1 hq1 H.size) (cwS 3 ha (gi_S (fun _ h => h) mw373 mw374 mw26 mw375) rfl rfl rfl hv_X10_isWithin ⟨(Nat.le_of_ble_eq_true rfl), (Nat.le_of_ble_eq_true rfl)⟩) ⟨pre_blind, pre_at hP hD hS hz hzs hst [] (by decide) rfl rfl⟩ rfl rfl hl.1 rfl (lv_room (Nat.le_of_ble_eq_true rfl)) dX10_isHerd_3 ⟨(Nat.le_of_ble_eq_true rfl), (Nat.le_of_ble_eq_true rfl)⟩) hP hD hS hA [] (by decide) rfl rfl rfl rfl (fun H locs hP hD hS => ?_)
  obtain ⟨g2, hF⟩ := q_gdi hF
  obtain rfl := Option.some.inj hF
  exact en_z hQ (Nat.le_of_ble_eq_true rfl) (Nat.le_of_ble_eq_true rfl) hx hb hr hlocks (nz_b g2) hP hD hS rfl dX10_isHerd_6

/-! J9_floorDiv_7cf53 -/
theorem dJ9_floorDiv_7cf53_0 : decode cJ9_floorDiv_7cf53 0 = .ok (.iload_n 0, 1) := by decide +kernel
theorem dJ9_floorDiv_7cf53_1 : decode cJ9_floorDiv_7cf53 1 = .ok (.iload_n 1, 1) := by decide +kernel
theorem dJ9_floorDiv_7cf53_2 : decode cJ9_floorDiv_7cf53 2 = .ok (.idiv, 1) := by decide +kernel
theorem dJ9_floorDiv_7cf53_3 : decode cJ9_floorDiv_7cf53 3 = .ok (.istore_n 2, 1) := by decide +kernel
theorem dJ9_floorDiv_7cf53_4 : decode cJ9_floorDiv_7cf53 4 = .ok (.iload_n 0, 1) := by decide +kernel
theorem dJ9_floorDiv_7cf53_5 : decode cJ9_floorDiv_7cf53 5 = .ok (.iload_n 1, 1) := by decide +kernel
theorem dJ9_floorDiv_7cf53_6 : decode cJ9_floorDiv_7cf53 6 = .ok (.ixor, 1) := by decide +kernel
theorem dJ9_floorDiv_7cf53_7 : decode cJ9_floorDiv_7cf53 7 = .ok (.ifCond .ge 14, 3) := by decide +kernel
theorem dJ9_floorDiv_7cf53_10 : decode cJ9_floorDiv_7cf53 10 = .ok (.iload_n 2, 1) := by decide +kernel
theorem dJ9_floorDiv_7cf53_11 : decode cJ9_floorDiv_7cf53 11 = .ok (.iload_n 1, 1) := by decide +kernel
theorem dJ9_floorDiv_7cf53_12 : decode cJ9_floorDiv_7cf53 12 = .ok (.imul, 1) := by decide +kernel
theorem dJ9_floorDiv_7cf53_13 : decode cJ9_floorDiv_7cf53 13 = .ok (.iload_n 0, 1) := by decide +kernel
theorem dJ9_floorDiv_7cf53_14 : decode cJ9_floorDiv_7cf53 14 = .ok (.if_icmp .eq 7, 3) := by decide +kernel
theorem dJ9_floorDiv_7cf53_17 : decode cJ9_floorDiv_7cf53 17 = .ok (.iload_n 2, 1) := by decide +kernel
theorem dJ9_floorDiv_7cf53_18 : decode cJ9_floorDiv_7cf53 18 = .ok (.iconst 1, 1) := by decide +kernel
theorem dJ9_floorDiv_7cf53_19 : decode cJ9_floorDiv_7cf53 19 = .ok (.isub, 1) := by decide +kernel
theorem dJ9_floorDiv_7cf53_20 : decode cJ9_floorDiv_7cf53 20 = .ok (.ireturn, 1) := by decide +kernel
theorem dJ9_floorDiv_7cf53_21 : decode cJ9_floorDiv_7cf53 21 = .ok (.iload_n 2, 1) := by decide +kernel
theorem dJ9_floorDiv_7cf53_22 : decode cJ9_floorDiv_7cf53 22 = .ok (.ireturn, 1) := by decide +kernel
def f_J9_floorDiv_7cf53 (p1 : Int32) (p2 : Int32) : Option (Int32) :=
  q_gd (¬ p2 = 0) (
  q_lt (p1 / p2 : Int32) (fun v2 =>
  q_br (0 ≤ (p1 ^^^ p2)) (
  some v2) (
  q_br ((v2 * p2) = p1) (
  some v2) (
  some (v2 - 1)))))
theorem hv_J9_floorDiv_7cf53 : yJ9_floorDiv_7cf53.cls = RJ9 ∧ yJ9_floorDiv_7cf53.cls ≠ "java/lang/invoke/MethodHandle" ∧ yJ9_floorDiv_7cf53.cls ≠ "java/lang/invoke/VarHandle" ∧ (parseMethodDescriptor yJ9_floorDiv_7cf53.desc).map (fun d => d.parameters.length) = some 2 := by decide +kernel
abbrev rm_J9_floorDiv_7cf53 : Room := { frames := 0, cells := 0, slots := 0, locals := 0 }
set_option maxHeartbeats 4000000 in
set_option maxRecDepth 100000 in
theorem k_J9_floorDiv_7cf53 (l : Launch) (E : ET) (p1 : Int32) (p2 : Int32) (res : Int32) (hF : f_J9_floorDiv_7cf53 p1 p2 = some res) (sz : Nat) : CtI l yJ9_floorDiv_7cf53 (mws yJ9_floorDiv_7cf53 cJ9_floorDiv_7cf53 3 (some .int)) rm_J9_floorDiv_7cf53 0 0 [.int p1, .int p2] E ([]) res ([]) sz := by
  refine mk_M (by decide +kernel) (Nat.le_of_ble_eq_true rfl) ?_
  intro p e s m below meth c A args Q ls hAe hsz hQ hx hb hr hml hin ha hown hlocks hA hz hzs hst hP hD hS hl
  have hown : s.vm.findClass RJ9 = some m.cls := hown
  rw [hAe] at hQ
  subst hsz
  have hP : va_P E.1 vwCl (List.flatten []) s.heap := hP
  have hD : va_D A (List.flatten []) := hD
  have hl : lv_has ls 3 [(0, .int p1), (1, .int p2)] := hl
  generalize hHe : s.heap = H at hP
  have hS : va_S A s.heap H [] := by rw [← hHe]; exact hS
  generalize ([] : List Loc) = locs at hS ⊢
  unfold f_J9_floorDiv_7cf53 at hF
  refine lv_iload_n hx hb dJ9_floorDiv_7cf53_0 rfl (lv_at hl 0 rfl) ?_
  refine lv_iload_n hx hb dJ9_floorDiv_7cf53_1 rfl (lv_at hl 1 rfl) ?_
  obtain ⟨g1, hF⟩ := q_gdi hF
  refine lv_idiv hx hb dJ9_floorDiv_7cf53_2 g1 ?_
  refine lv_topi (fun v2 ev2 => ?_)
  have hF := q_lti ev2 hF
  refine lv_istore_n (lv' := [(2, .int v2), (0, .int p1), (1, .int p2)]) hx hb dJ9_floorDiv_7cf53_3 rfl hl (by decide) rfl (fun ls hl => ?_)
  refine lv_iload_n hx hb dJ9_floorDiv_7cf53_4 rfl (lv_at hl 1 rfl) ?_
  refine lv_iload_n hx hb dJ9_floorDiv_7cf53_5 rfl (lv_at hl 2 rfl) ?_
  refine lv_ixor hx hb dJ9_floorDiv_7cf53_6 ?_
  refine lv_if_ge (tgt := 21) hx hb dJ9_floorDiv_7cf53_7 (by decide) (fun c7 => ?_) (fun c7 => ?_)
  · have hF := q_brp c7 hF
    refine lv_iload_n hx hb dJ9_floorDiv_7cf53_21 rfl (lv_at hl 0 rfl) ?_
    obtain rfl := Option.some.inj hF
    exact en_i hQ (Nat.le_of_ble_eq_true rfl) (Nat.le_of_ble_eq_true rfl) hx hb hr hlocks hP hD hS rfl dJ9_floorDiv_7cf53_22
  · have hF := q_brn c7 hF
    refine lv_iload_n hx hb dJ9_floorDiv_7cf53_10 rfl (lv_at hl 0 rfl) ?_
    refine lv_iload_n hx hb dJ9_floorDiv_7cf53_11 rfl (lv_at hl 2 rfl) ?_
    refine lv_imul hx hb dJ9_floorDiv_7cf53_12 ?_
    refine lv_iload_n hx hb dJ9_floorDiv_7cf53_13 rfl (lv_at hl 1 rfl) ?_
    refine lv_icmp_eq (tgt := 21) hx hb dJ9_floorDiv_7cf53_14 (by decide) (fun c14 => ?_) (fun c14 => ?_)
    · have hF := q_brp c14 hF
      refine lv_iload_n hx hb dJ9_floorDiv_7cf53_21 rfl (lv_at hl 0 rfl) ?_
      obtain rfl := Option.some.inj hF
      exact en_i hQ (Nat.le_of_ble_eq_true rfl) (Nat.le_of_ble_eq_true rfl) hx hb hr hlocks hP hD hS rfl dJ9_floorDiv_7cf53_22
    · have hF := q_brn c14 hF
      refine lv_iload_n hx hb dJ9_floorDiv_7cf53_17 rfl (lv_at hl 0 rfl) ?_
      refine lv_iconst (v := 1) hx hb dJ9_floorDiv_7cf53_18 (by decide) ?_
      refine lv_isub hx hb dJ9_floorDiv_7cf53_19 ?_
      obtain rfl := Option.some.inj hF
      exact en_i hQ (Nat.le_of_ble_eq_true rfl) (Nat.le_of_ble_eq_true rfl) hx hb hr hlocks hP hD hS rfl dJ9_floorDiv_7cf53_20

/-! J9_floorMod_7cf53 -/
theorem dJ9_floorMod_7cf53_0 : decode cJ9_floorMod_7cf53 0 = .ok (.iload_n 0, 1) := by decide +kernel
theorem dJ9_floorMod_7cf53_1 : decode cJ9_floorMod_7cf53 1 = .ok (.iload_n 1, 1) := by decide +kernel
theorem dJ9_floorMod_7cf53_2 : decode cJ9_floorMod_7cf53 2 = .ok (.irem, 1) := by decide +kernel
theorem dJ9_floorMod_7cf53_3 : decode cJ9_floorMod_7cf53 3 = .ok (.istore_n 2, 1) := by decide +kernel
theorem dJ9_floorMod_7cf53_4 : decode cJ9_floorMod_7cf53 4 = .ok (.iload_n 0, 1) := by decide +kernel
theorem dJ9_floorMod_7cf53_5 : decode cJ9_floorMod_7cf53 5 = .ok (.iload_n 1, 1) := by decide +kernel
theorem dJ9_floorMod_7cf53_6 : decode cJ9_floorMod_7cf53 6 = .ok (.ixor, 1) := by decide +kernel
theorem dJ9_floorMod_7cf53_7 : decode cJ9_floorMod_7cf53 7 = .ok (.ifCond .ge 11, 3) := by decide +kernel
theorem dJ9_floorMod_7cf53_10 : decode cJ9_floorMod_7cf53 10 = .ok (.iload_n 2, 1) := by decide +kernel
theorem dJ9_floorMod_7cf53_11 : decode cJ9_floorMod_7cf53 11 = .ok (.ifCond .eq 7, 3) := by decide +kernel
theorem dJ9_floorMod_7cf53_14 : decode cJ9_floorMod_7cf53 14 = .ok (.iload_n 2, 1) := by decide +kernel
theorem dJ9_floorMod_7cf53_15 : decode cJ9_floorMod_7cf53 15 = .ok (.iload_n 1, 1) := by decide +kernel
theorem dJ9_floorMod_7cf53_16 : decode cJ9_floorMod_7cf53 16 = .ok (.iadd, 1) := by decide +kernel
theorem dJ9_floorMod_7cf53_17 : decode cJ9_floorMod_7cf53 17 = .ok (.ireturn, 1) := by decide +kernel
theorem dJ9_floorMod_7cf53_18 : decode cJ9_floorMod_7cf53 18 = .ok (.iload_n 2, 1) := by decide +kernel
theorem dJ9_floorMod_7cf53_19 : decode cJ9_floorMod_7cf53 19 = .ok (.ireturn, 1) := by decide +kernel
def f_J9_floorMod_7cf53 (p1 : Int32) (p2 : Int32) : Option (Int32) :=
  q_gd (¬ p2 = 0) (
  q_lt (p1 - p1 / p2 * p2 : Int32) (fun v2 =>
  q_br (0 ≤ (p1 ^^^ p2)) (
  some v2) (
  q_br (v2 = 0) (
  some v2) (
  some (v2 + p2)))))
theorem hv_J9_floorMod_7cf53 : yJ9_floorMod_7cf53.cls = RJ9 ∧ yJ9_floorMod_7cf53.cls ≠ "java/lang/invoke/MethodHandle" ∧ yJ9_floorMod_7cf53.cls ≠ "java/lang/invoke/VarHandle" ∧ (parseMethodDescriptor yJ9_floorMod_7cf53.desc).map (fun d => d.parameters.length) = some 2 := by decide +kernel
abbrev rm_J9_floorMod_7cf53 : Room := { frames := 0, cells := 0, slots := 0, locals := 0 }
set_option maxHeartbeats 4000000 in
set_option maxRecDepth 100000 in
theorem k_J9_floorMod_7cf53 (l : Launch) (E : ET) (p1 : Int32) (p2 : Int32) (res : Int32) (hF : f_J9_floorMod_7cf53 p1 p2 = some res) (sz : Nat) : CtI l yJ9_floorMod_7cf53 (mws yJ9_floorMod_7cf53 cJ9_floorMod_7cf53 3 (some .int)) rm_J9_floorMod_7cf53 0 0 [.int p1, .int p2] E ([]) res ([]) sz := by
  refine mk_M (by decide +kernel) (Nat.le_of_ble_eq_true rfl) ?_
  intro p e s m below meth c A args Q ls hAe hsz hQ hx hb hr hml hin ha hown hlocks hA hz hzs hst hP hD hS hl
  have hown : s.vm.findClass RJ9 = some m.cls := hown
  rw [hAe] at hQ
  subst hsz
  have hP : va_P E.1 vwCl (List.flatten []) s.heap := hP
  have hD : va_D A (List.flatten []) := hD
  have hl : lv_has ls 3 [(0, .int p1), (1, .int p2)] := hl
  generalize hHe : s.heap = H at hP
  have hS : va_S A s.heap H [] := by rw [← hHe]; exact hS
  generalize ([] : List Loc) = locs at hS ⊢
  unfold f_J9_floorMod_7cf53 at hF
  refine lv_iload_n hx hb dJ9_floorMod_7cf53_0 rfl (lv_at hl 0 rfl) ?_
  refine lv_iload_n hx hb dJ9_floorMod_7cf53_1 rfl (lv_at hl 1 rfl) ?_
  obtain ⟨g1, hF⟩ := q_gdi hF
  refine lv_irem hx hb dJ9_floorMod_7cf53_2 g1 ?_
  refine lv_topi (fun v2 ev2 => ?_)
  have hF := q_lti ev2 hF
  refine lv_istore_n (lv' := [(2, .int v2), (0, .int p1), (1, .int p2)]) hx hb dJ9_floorMod_7cf53_3 rfl hl (by decide) rfl (fun ls hl => ?_)
  refine lv_iload_n hx hb dJ9_floorMod_7cf53_4 rfl (lv_at hl 1 rfl) ?_
  refine lv_iload_n hx hb dJ9_floorMod_7cf53_5 rfl (lv_at hl 2 rfl) ?_
  refine lv_ixor hx hb dJ9_floorMod_7cf53_6 ?_
  refine lv_if_ge (tgt := 18) hx hb dJ9_floorMod_7cf53_7 (by decide) (fun c7 => ?_) (fun c7 => ?_)
  · have hF := q_brp c7 hF
    refine lv_iload_n hx hb dJ9_floorMod_7cf53_18 rfl (lv_at hl 0 rfl) ?_
    obtain rfl := Option.some.inj hF
    exact en_i hQ (Nat.le_of_ble_eq_true rfl) (Nat.le_of_ble_eq_true rfl) hx hb hr hlocks hP hD hS rfl dJ9_floorMod_7cf53_19
  · have hF := q_brn c7 hF
    refine lv_iload_n hx hb dJ9_floorMod_7cf53_10 rfl (lv_at hl 0 rfl) ?_
    refine lv_if_eq (tgt := 18) hx hb dJ9_floorMod_7cf53_11 (by decide) (fun c11 => ?_) (fun c11 => ?_)
    · have hF := q_brp c11 hF
      refine lv_iload_n hx hb dJ9_floorMod_7cf53_18 rfl (lv_at hl 0 rfl) ?_
      obtain rfl := Option.some.inj hF
      exact en_i hQ (Nat.le_of_ble_eq_true rfl) (Nat.le_of_ble_eq_true rfl) hx hb hr hlocks hP hD hS rfl dJ9_floorMod_7cf53_19
    · have hF := q_brn c11 hF
      refine lv_iload_n hx hb dJ9_floorMod_7cf53_14 rfl (lv_at hl 0 rfl) ?_
      refine lv_iload_n hx hb dJ9_floorMod_7cf53_15 rfl (lv_at hl 2 rfl) ?_
      refine lv_iadd hx hb dJ9_floorMod_7cf53_16 ?_
      obtain rfl := Option.some.inj hF
      exact en_i hQ (Nat.le_of_ble_eq_true rfl) (Nat.le_of_ble_eq_true rfl) hx hb hr hlocks hP hD hS rfl dJ9_floorMod_7cf53_17

/-! X10_belongs -/
theorem dX10_belongs_0 : decode cX10_belongs 0 = .ok (.aload_n 1, 1) := by decide +kernel
theorem dX10_belongs_1 : decode cX10_belongs 1 = .ok (.iload_n 0, 1) := by decide +kernel
theorem dX10_belongs_2 : decode cX10_belongs 2 = .ok (.bipush 12, 2) := by decide +kernel
theorem dX10_belongs_4 : decode cX10_belongs 4 = .ok (.invokestatic 338, 3) := by decide +kernel
theorem dX10_belongs_7 : decode cX10_belongs 7 = .ok (.iaload, 1) := by decide +kernel
theorem dX10_belongs_8 : decode cX10_belongs 8 = .ok (.iconst 1, 1) := by decide +kernel
theorem dX10_belongs_9 : decode cX10_belongs 9 = .ok (.if_icmp .ne 7, 3) := by decide +kernel
theorem dX10_belongs_12 : decode cX10_belongs 12 = .ok (.iconst 1, 1) := by decide +kernel
theorem dX10_belongs_13 : decode cX10_belongs 13 = .ok (.goto 4, 3) := by decide +kernel
theorem dX10_belongs_16 : decode cX10_belongs 16 = .ok (.iconst 0, 1) := by decide +kernel
theorem dX10_belongs_17 : decode cX10_belongs 17 = .ok (.ireturn, 1) := by decide +kernel
def f_X10_belongs (p1 : Int32) (p2 : List Int32) : Option (Int32) :=
  q_bd (f_J9_floorMod_7cf53 p1 12) (fun q1 =>
  q_gd (q_in q1 12) (
  q_br ((p2.getD (q1.toNatClampNeg) 0) = 1) (
  some 1) (
  some 0)))
theorem hv_X10_belongs : yX10_belongs.cls = RX10 ∧ yX10_belongs.cls ≠ "java/lang/invoke/MethodHandle" ∧ yX10_belongs.cls ≠ "java/lang/invoke/VarHandle" ∧ (parseMethodDescriptor yX10_belongs.desc).map (fun d => d.parameters.length) = some 2 := by decide +kernel
abbrev rm_X10_belongs : Room := { frames := 1, cells := 0, slots := 0, locals := 22 }
set_option maxHeartbeats 4000000 in
set_option maxRecDepth 100000 in
theorem k_X10_belongs (l : Launch) (E : ET) (p1 : Int32) (p2 : List Int32) (t2 : Nat) (hTt2 : (FieldType.int, t2, 12, fun j => Value.int (p2.getD j 0)) ∈ tsL E) (res : Int32) (hF : f_X10_belongs p1 p2 = some res) (sz : Nat) : CtI l yX10_belongs (mws yX10_belongs cX10_belongs 2 (some .boolean)) rm_X10_belongs 0 0 [.int p1, .ref (t2)] E ([]) res ([]) sz := by
  refine mk_M (by decide +kernel) (Nat.le_of_ble_eq_true rfl) ?_
  intro p e s m below meth c A args Q ls hAe hsz hQ hx hb hr hml hin ha hown hlocks hA hz hzs hst hP hD hS hl
  have hown : s.vm.findClass RX10 = some m.cls := hown
  rw [hAe] at hQ
  subst hsz
  have hP : va_P E.1 vwCl (List.flatten []) s.heap := hP
  have hD : va_D A (List.flatten []) := hD
  have hl : lv_has ls 2 [(0, .int p1), (1, .ref (t2))] := hl
  generalize hHe : s.heap = H at hP
  have hS : va_S A s.heap H [] := by rw [← hHe]; exact hS
  generalize ([] : List Loc) = locs at hS ⊢
  unfold f_X10_belongs at hF
  refine lv_aload_n hx hb dX10_belongs_0 rfl (lv_at hl 1 rfl) ?_
  refine lv_iload_n hx hb dX10_belongs_1 rfl (lv_at hl 0 rfl) ?_
  refine lv_bipush (v := 12) hx hb dX10_belongs_2 (by decide) ?_
  obtain ⟨q1, hq1, hF⟩ := q_bdi hF
  refine cl_i (Lc := []) (Lc' := []) (L' := []) (rv := q1) (va_runS (As := [.int p1, .int 12]) (rest := [.ref (t2)]) ⟨hx, hb, hml, hown, ha⟩ (k_J9_floorMod_7cf53 l E p1 12 q1 hq1 H.size) (va_cwS 2 ha (gi_T (fun _ h => h) mw436 mw437 mw48 mw438) rfl rfl rfl hv_J9_floorMod_7cf53.2 ⟨(Nat.le_of_ble_eq_true rfl), (Nat.le_of_ble_eq_true rfl)⟩) ⟨pre_blind, pre_at hP hD hS hz hzs hst [] (by decide) rfl rfl⟩ rfl rfl hl.1 rfl (lv_room (Nat.le_of_ble_eq_true rfl)) dX10_belongs_4 ⟨(Nat.le_of_ble_eq_true rfl), (Nat.le_of_ble_eq_true rfl)⟩) hP hD hS hA [] (by decide) rfl rfl rfl rfl (fun H locs hP hD hS => ?_)
  obtain ⟨g2, hF⟩ := q_gdi hF
  refine vi_tbl (E := E) (k := q1.toNatClampNeg) hx hb hst (hTt2) hz hS rfl g2 dX10_belongs_7 ?_
  refine lv_iconst (v := 1) hx hb dX10_belongs_8 (by decide) ?_
  refine lv_icmp_ne (tgt := 16) hx hb dX10_belongs_9 (by decide) (fun c9 => ?_) (fun c9 => ?_)
  · have hF := q_brn c9 hF
    refine lv_iconst (v := 0) hx hb dX10_belongs_16 (by decide) ?_
    obtain rfl := Option.some.inj hF
    exact en_z hQ (Nat.le_of_ble_eq_true rfl) (Nat.le_of_ble_eq_true rfl) hx hb hr hlocks (by decide) hP hD hS rfl dX10_belongs_17
  · have hF := q_brp c9 hF
    refine lv_iconst (v := 1) hx hb dX10_belongs_12 (by decide) ?_
    refine lv_goto (tgt := 17) hx hb dX10_belongs_13 (by decide) ?_
    obtain rfl := Option.some.inj hF
    exact en_z hQ (Nat.le_of_ble_eq_true rfl) (Nat.le_of_ble_eq_true rfl) hx hb hr hlocks (by decide) hP hD hS rfl dX10_belongs_17

/-! X10_nearest -/
theorem dX10_nearest_0 : decode cX10_nearest 0 = .ok (.iload_n 0, 1) := by decide +kernel
theorem dX10_nearest_1 : decode cX10_nearest 1 = .ok (.bipush 50, 2) := by decide +kernel
theorem dX10_nearest_3 : decode cX10_nearest 3 = .ok (.iadd, 1) := by decide +kernel
theorem dX10_nearest_4 : decode cX10_nearest 4 = .ok (.bipush 100, 2) := by decide +kernel
theorem dX10_nearest_6 : decode cX10_nearest 6 = .ok (.invokestatic 346, 3) := by decide +kernel
theorem dX10_nearest_9 : decode cX10_nearest 9 = .ok (.ireturn, 1) := by decide +kernel
def f_X10_nearest (p1 : Int32) : Option (Int32) :=
  q_bd (f_J9_floorDiv_7cf53 (p1 + 50) 100) (fun q1 =>
  some q1)
theorem hv_X10_nearest : yX10_nearest.cls = RX10 ∧ yX10_nearest.cls ≠ "java/lang/invoke/MethodHandle" ∧ yX10_nearest.cls ≠ "java/lang/invoke/VarHandle" ∧ (parseMethodDescriptor yX10_nearest.desc).map (fun d => d.parameters.length) = some 1 := by decide +kernel
abbrev rm_X10_nearest : Room := { frames := 1, cells := 0, slots := 0, locals := 22 }
set_option maxHeartbeats 4000000 in
set_option maxRecDepth 100000 in
theorem k_X10_nearest (l : Launch) (E : ET) (p1 : Int32) (res : Int32) (hF : f_X10_nearest p1 = some res) (sz : Nat) : CtI l yX10_nearest (mws yX10_nearest cX10_nearest 1 (some .int)) rm_X10_nearest 0 0 [.int p1] E ([]) res ([]) sz := by
  refine mk_M (by decide +kernel) (Nat.le_of_ble_eq_true rfl) ?_
  intro p e s m below meth c A args Q ls hAe hsz hQ hx hb hr hml hin ha hown hlocks hA hz hzs hst hP hD hS hl
  have hown : s.vm.findClass RX10 = some m.cls := hown
  rw [hAe] at hQ
  subst hsz
  have hP : va_P E.1 vwCl (List.flatten []) s.heap := hP
  have hD : va_D A (List.flatten []) := hD
  have hl : lv_has ls 1 [(0, .int p1)] := hl
  generalize hHe : s.heap = H at hP
  have hS : va_S A s.heap H [] := by rw [← hHe]; exact hS
  generalize ([] : List Loc) = locs at hS ⊢
  unfold f_X10_nearest at hF
  refine lv_iload_n hx hb dX10_nearest_0 rfl (lv_at hl 0 rfl) ?_
  refine lv_bipush (v := 50) hx hb dX10_nearest_1 (by decide) ?_
  refine lv_iadd hx hb dX10_nearest_3 ?_
  refine lv_bipush (v := 100) hx hb dX10_nearest_4 (by decide) ?_
  obtain ⟨q1, hq1, hF⟩ := q_bdi hF
  refine cl_i (Lc := []) (Lc' := []) (L' := []) (rv := q1) (va_runS (As := [.int (p1 + 50), .int 100]) (rest := []) ⟨hx, hb, hml, hown, ha⟩ (k_J9_floorDiv_7cf53 l E (p1 + 50) 100 q1 hq1 H.size) (va_cwS 2 ha (gi_T (fun _ h => h) mw422 mw423 mw48 mw424) rfl rfl rfl hv_J9_floorDiv_7cf53.2 ⟨(Nat.le_of_ble_eq_true rfl), (Nat.le_of_ble_eq_true rfl)⟩) ⟨pre_blind, pre_at hP hD hS hz hzs hst [] (by decide) rfl rfl⟩ rfl rfl hl.1 rfl (lv_room (Nat.le_of_ble_eq_true rfl)) dX10_nearest_6 ⟨(Nat.le_of_ble_eq_true rfl), (Nat.le_of_ble_eq_true rfl)⟩) hP hD hS hA [] (by decide) rfl rfl rfl rfl (fun H locs hP hD hS => ?_)
  obtain rfl := Option.some.inj hF
  exact en_i hQ (Nat.le_of_ble_eq_true rfl) (Nat.le_of_ble_eq_true rfl) hx hb hr hlocks hP hD hS rfl dX10_nearest_9

/-! X10_offset -/
theorem dX10_offset_0 : decode cX10_offset 0 = .ok (.iload_n 0, 1) := by decide +kernel
theorem dX10_offset_1 : decode cX10_offset 1 = .ok (.bipush 100, 2) := by decide +kernel
theorem dX10_offset_3 : decode cX10_offset 3 = .ok (.iload_n 0, 1) := by decide +kernel
theorem dX10_offset_4 : decode cX10_offset 4 = .ok (.invokestatic 408, 3) := by decide +kernel
theorem dX10_offset_7 : decode cX10_offset 7 = .ok (.imul, 1) := by decide +kernel
theorem dX10_offset_8 : decode cX10_offset 8 = .ok (.isub, 1) := by decide +kernel
theorem dX10_offset_9 : decode cX10_offset 9 = .ok (.ireturn, 1) := by decide +kernel
def f_X10_offset (p1 : Int32) : Option (Int32) :=
  q_bd (f_X10_nearest p1) (fun q1 =>
  some (p1 - (100 * q1)))
theorem hv_X10_offset : yX10_offset.cls = RX10 ∧ yX10_offset.cls ≠ "java/lang/invoke/MethodHandle" ∧ yX10_offset.cls ≠ "java/lang/invoke/VarHandle" ∧ (parseMethodDescriptor yX10_offset.desc).map (fun d => d.parameters.length) = some 1 := by decide +kernel
abbrev rm_X10_offset : Room := { frames := 2, cells := 0, slots := 0, locals := 42 }
set_option maxHeartbeats 4000000 in
set_option maxRecDepth 100000 in
theorem k_X10_offset (l : Launch) (E : ET) (p1 : Int32) (res : Int32) (hF : f_X10_offset p1 = some res) (sz : Nat) : CtI l yX10_offset (mws yX10_offset cX10_offset 1 (some .int)) rm_X10_offset 0 0 [.int p1] E ([]) res ([]) sz := by
  refine mk_M (by decide +kernel) (Nat.le_of_ble_eq_true rfl) ?_
  intro p e s m below meth c A args Q ls hAe hsz hQ hx hb hr hml hin ha hown hlocks hA hz hzs hst hP hD hS hl
  have hown : s.vm.findClass RX10 = some m.cls := hown
  rw [hAe] at hQ
  subst hsz
  have hP : va_P E.1 vwCl (List.flatten []) s.heap := hP
  have hD : va_D A (List.flatten []) := hD
  have hl : lv_has ls 1 [(0, .int p1)] := hl
  generalize hHe : s.heap = H at hP
  have hS : va_S A s.heap H [] := by rw [← hHe]; exact hS
  generalize ([] : List Loc) = locs at hS ⊢
  unfold f_X10_offset at hF
  refine lv_iload_n hx hb dX10_offset_0 rfl (lv_at hl 0 rfl) ?_
  refine lv_bipush (v := 100) hx hb dX10_offset_1 (by decide) ?_
  refine lv_iload_n hx hb dX10_offset_3 rfl (lv_at hl 0 rfl) ?_
  obtain ⟨q1, hq1, hF⟩ := q_bdi hF
  refine cl_i (Lc := []) (Lc' := []) (L' := []) (rv := q1) (va_runS (As := [.int p1]) (rest := [.int 100, .int p1]) ⟨hx, hb, hml, hown, ha⟩ (k_X10_nearest l E p1 q1 hq1 H.size) (cwS 1 ha (gi_S (fun _ h => h) mw442 mw420 mw26 mw421) rfl rfl rfl hv_X10_nearest ⟨(Nat.le_of_ble_eq_true rfl), (Nat.le_of_ble_eq_true rfl)⟩) ⟨pre_blind, pre_at hP hD hS hz hzs hst [] (by decide) rfl rfl⟩ rfl rfl hl.1 rfl (lv_room (Nat.le_of_ble_eq_true rfl)) dX10_offset_4 ⟨(Nat.le_of_ble_eq_true rfl), (Nat.le_of_ble_eq_true rfl)⟩) hP hD hS hA [] (by decide) rfl rfl rfl rfl (fun H locs hP hD hS => ?_)
  refine lv_imul hx hb dX10_offset_7 ?_
  refine lv_isub hx hb dX10_offset_8 ?_
  obtain rfl := Option.some.inj hF
  exact en_i hQ (Nat.le_of_ble_eq_true rfl) (Nat.le_of_ble_eq_true rfl) hx hb hr hlocks hP hD hS rfl dX10_offset_9
