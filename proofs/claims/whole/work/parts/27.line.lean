theorem dJ7_copyOf_9075b_0 : decode cJ7_copyOf_9075b 0 = .ok (.iload_n 1, 1) := by decide +kernel
theorem dJ7_copyOf_9075b_1 : decode cJ7_copyOf_9075b 1 = .ok (.aload_n 0, 1) := by decide +kernel
theorem dJ7_copyOf_9075b_2 : decode cJ7_copyOf_9075b 2 = .ok (.arraylength, 1) := by decide +kernel
theorem dJ7_copyOf_9075b_3 : decode cJ7_copyOf_9075b 3 = .ok (.if_icmp .ne 11, 3) := by decide +kernel
theorem dJ7_copyOf_9075b_6 : decode cJ7_copyOf_9075b 6 = .ok (.aload_n 0, 1) := by decide +kernel
theorem dJ7_copyOf_9075b_7 : decode cJ7_copyOf_9075b 7 = .ok (.invokevirtual 310, 3) := by decide +kernel
theorem dJ7_copyOf_9075b_10 : decode cJ7_copyOf_9075b 10 = .ok (.checkcast 311, 3) := by decide +kernel
theorem dJ7_copyOf_9075b_13 : decode cJ7_copyOf_9075b 13 = .ok (.areturn, 1) := by decide +kernel
theorem dJ7_copyOf_9075b_14 : decode cJ7_copyOf_9075b 14 = .ok (.iload_n 1, 1) := by decide +kernel
theorem dJ7_copyOf_9075b_15 : decode cJ7_copyOf_9075b 15 = .ok (.newarray .byte, 2) := by decide +kernel
theorem dJ7_copyOf_9075b_17 : decode cJ7_copyOf_9075b 17 = .ok (.astore_n 2, 1) := by decide +kernel
theorem dJ7_copyOf_9075b_18 : decode cJ7_copyOf_9075b 18 = .ok (.aload_n 0, 1) := by decide +kernel
theorem dJ7_copyOf_9075b_19 : decode cJ7_copyOf_9075b 19 = .ok (.iconst 0, 1) := by decide +kernel
theorem dJ7_copyOf_9075b_20 : decode cJ7_copyOf_9075b 20 = .ok (.aload_n 2, 1) := by decide +kernel
theorem dJ7_copyOf_9075b_21 : decode cJ7_copyOf_9075b 21 = .ok (.iconst 0, 1) := by decide +kernel
theorem dJ7_copyOf_9075b_22 : decode cJ7_copyOf_9075b 22 = .ok (.aload_n 0, 1) := by decide +kernel
theorem dJ7_copyOf_9075b_23 : decode cJ7_copyOf_9075b 23 = .ok (.arraylength, 1) := by decide +kernel
theorem dJ7_copyOf_9075b_24 : decode cJ7_copyOf_9075b 24 = .ok (.iload_n 1, 1) := by decide +kernel
theorem dJ7_copyOf_9075b_25 : decode cJ7_copyOf_9075b 25 = .ok (.invokestatic 304, 3) := by decide +kernel
theorem dJ7_copyOf_9075b_28 : decode cJ7_copyOf_9075b 28 = .ok (.invokestatic 150, 3) := by decide +kernel
theorem dJ7_copyOf_9075b_31 : decode cJ7_copyOf_9075b 31 = .ok (.aload_n 2, 1) := by decide +kernel
theorem dJ7_copyOf_9075b_32 : decode cJ7_copyOf_9075b 32 = .ok (.areturn, 1) := by decide +kernel
def f_J7_copyOf_9075b (f : Nat → Int32) (n : Nat) (p1 : Int32) : Option (Nat × (Nat → Int32)) := q_br (p1 = Int32.ofNat n) none (q_gd (¬ p1 < 0 ∧ p1.toNatClampNeg ≤ 100 ∧ ¬ (if p1 < Int32.ofNat n then p1 else Int32.ofNat n) < 0 ∧ 0 + (if p1 < Int32.ofNat n then p1 else Int32.ofNat n).toNatClampNeg ≤ n ∧ 0 + (if p1 < Int32.ofNat n then p1 else Int32.ofNat n).toNatClampNeg ≤ p1.toNatClampNeg ∧ ∀ i, i < (if p1 < Int32.ofNat n then p1 else Int32.ofNat n).toNatClampNeg → fits .byte (.int (f (0 + i))) = true) (some (p1.toNatClampNeg, va_cpy f (fun _ => 0) 0 0 (if p1 < Int32.ofNat n then p1 else Int32.ofNat n).toNatClampNeg)))
theorem hv_J7_copyOf_9075b : yJ7_copyOf_9075b.cls ≠ "java/lang/invoke/MethodHandle" ∧ yJ7_copyOf_9075b.cls ≠ "java/lang/invoke/VarHandle" ∧ (parseMethodDescriptor yJ7_copyOf_9075b.desc).map (fun d => d.parameters.length) = some 2 := by decide +kernel
abbrev rm_J7_copyOf_9075b : Room := { frames := 2, cells := 1, slots := 100, locals := 60 }
set_option maxHeartbeats 4000000 in
set_option maxRecDepth 100000 in
theorem k_J7_copyOf_9075b (l : Launch) (E : ET) (a0 : Nat) (f : Nat → Int32) (n : Nat) (p1 : Int32) (res : Nat × (Nat → Int32)) (hF : f_J7_copyOf_9075b f n p1 = some res) (sz : Nat) : CtN l yJ7_copyOf_9075b (mws yJ7_copyOf_9075b cJ7_copyOf_9075b 3 (some (.array .byte))) rm_J7_copyOf_9075b 1 100 [.ref a0, .int p1] E [[(a0, .inl (E.2 3, n, .inl f))]] (fun r => [[(a0, .inl (E.2 3, n, .inl f))], [(r, .inl (E.2 3, res.1, .inl res.2))]]) sz := by
  refine mk_M (by decide +kernel) (Nat.le_of_ble_eq_true rfl) ?_
  intro p e s m below meth c A args Q ls hAe hsz hQ hx hb hr hml hin ha hown hlocks hA hz hzs hst hP hD hS hl
  have hown : s.vm.findClass RJ7 = some m.cls := hown
  rw [hAe] at hQ
  subst hsz
  have hl : lv_has ls 3 [(0, .ref a0), (1, .int p1)] := hl
  generalize hHe : s.heap = H at hP
  have hS : va_S A s.heap H [] := by rw [← hHe]; exact hS
  generalize ([] : List Loc) = locs at hS ⊢
  have hP : va_P E.1 vwCl (List.flatten [[(a0, .inl (E.2 3, n, .inl f))]]) H := hP
  have hD : va_D A (List.flatten [[(a0, .inl (E.2 3, n, .inl f))]]) := hD
  refine lv_iload_n hx hb dJ7_copyOf_9075b_0 rfl (lv_at hl 1 rfl) ?_
  refine lv_aload_n hx hb dJ7_copyOf_9075b_1 rfl (lv_at hl 0 rfl) ?_
  refine va_alen (v := Int32.ofNat n) hx hb hst.k hP 0 2 rfl rfl rfl dJ7_copyOf_9075b_2 ?_
  refine lv_icmp_ne (tgt := 14) hx hb dJ7_copyOf_9075b_3 (by decide) (fun c => ?_) (fun c => ?_)
  · have hF := q_brn c hF
    obtain ⟨⟨g1, g2, g3, g4, g5, g6⟩, hF⟩ := q_gdi hF
    obtain rfl := Option.some.inj hF
    refine lv_iload_n hx hb dJ7_copyOf_9075b_14 rfl (lv_at hl 1 rfl) ?_
    refine vi_newa (atype := .byte) (b0 := (p1.toNatClampNeg, .inl (fun _ => 0))) hx hb hst (ty := .byte) (ha _ mw340) rfl hP hD hS hA (fun _ => rfl) 3 2 rfl (fun _ h => h) g1 rfl (by show _ * 1 ≤ _; omega) (Nat.le_of_ble_eq_true rfl) (by show 0 + _ ≤ 100; omega) dJ7_copyOf_9075b_15 (fun q H hP hD hS => ?_)
    have hP : va_P E.1 vwCl (List.flatten [[(a0, .inl (E.2 3, n, .inl f))], [(q, .inl (E.2 3, p1.toNatClampNeg, .inl (fun _ => 0)))]]) H := hP
    have hD : va_D A (List.flatten [[(a0, .inl (E.2 3, n, .inl f))], [(q, .inl (E.2 3, p1.toNatClampNeg, .inl (fun _ => 0)))]]) := hD
    refine lv_astore_n (lv' := [(2, .ref q), (0, .ref a0), (1, .int p1)]) hx hb dJ7_copyOf_9075b_17 rfl hl (by decide) rfl (fun ls hl => ?_)
    refine lv_aload_n hx hb dJ7_copyOf_9075b_18 rfl (lv_at hl 1 rfl) ?_
    refine lv_iconst (v := 0) hx hb dJ7_copyOf_9075b_19 (by decide) ?_
    refine lv_aload_n hx hb dJ7_copyOf_9075b_20 rfl (lv_at hl 0 rfl) ?_
    refine lv_iconst (v := 0) hx hb dJ7_copyOf_9075b_21 (by decide) ?_
    refine lv_aload_n hx hb dJ7_copyOf_9075b_22 rfl (lv_at hl 1 rfl) ?_
    refine va_alen (v := Int32.ofNat n) hx hb hst.k hP 0 2 rfl rfl rfl dJ7_copyOf_9075b_23 ?_
    refine lv_iload_n hx hb dJ7_copyOf_9075b_24 rfl (lv_at hl 2 rfl) ?_
    refine va_mmin hx hb (hml.trans hl.1.symm) hown (ha _ mw617) (ha _ mw618) (ha _ mw97) (ha _ mw619) (Nat.le_of_ble_eq_true rfl) (Nat.le_of_ble_eq_true rfl) (Nat.le_of_ble_eq_true rfl) (by show 0 + p1.toNatClampNeg ≤ 100; omega) dJ7_copyOf_9075b_25 ?_
    refine vi_copy hx hb (hml.trans hl.1.symm) hown (ha _ mw620) (ha _ mw622) (ha _ mw621) (ha _ mw95) hst.k hP hD hS 0 1 2 rfl rfl rfl rfl (k0 := 0) (k1 := 0) (kn := (if p1 < Int32.ofNat n then p1 else Int32.ofNat n).toNatClampNeg) (by decide) (by decide) rfl (by decide) (by decide) g3 g4 g5 g6 (Nat.le_of_ble_eq_true rfl) (Nat.le_of_ble_eq_true rfl) dJ7_copyOf_9075b_28 (fun H locs hP hD hS => ?_)
    refine lv_aload_n hx hb dJ7_copyOf_9075b_31 rfl (lv_at hl 0 rfl) ?_
    exact en_n hQ (Nat.le_of_ble_eq_true rfl) (by show 0 + _ ≤ 100; omega) hx hb hr (Or.inr ⟨_, rfl⟩) hlocks hP hD hS dJ7_copyOf_9075b_32
  · exact absurd (q_brp c hF) (by simp)

/-! J5_isLatin1_aae02 -/
theorem dJ5_isLatin1_aae02_0 : decode cJ5_isLatin1_aae02 0 = .ok (.getstatic 18, 3) := by decide +kernel
theorem dJ5_isLatin1_aae02_3 : decode cJ5_isLatin1_aae02 3 = .ok (.ifCond .eq 14, 3) := by decide +kernel
theorem dJ5_isLatin1_aae02_6 : decode cJ5_isLatin1_aae02 6 = .ok (.aload_n 0, 1) := by decide +kernel
theorem dJ5_isLatin1_aae02_7 : decode cJ5_isLatin1_aae02 7 = .ok (.getfield 22, 3) := by decide +kernel
theorem dJ5_isLatin1_aae02_10 : decode cJ5_isLatin1_aae02 10 = .ok (.ifCond .ne 7, 3) := by decide +kernel
theorem dJ5_isLatin1_aae02_13 : decode cJ5_isLatin1_aae02 13 = .ok (.iconst 1, 1) := by decide +kernel
theorem dJ5_isLatin1_aae02_14 : decode cJ5_isLatin1_aae02 14 = .ok (.goto 4, 3) := by decide +kernel
theorem dJ5_isLatin1_aae02_17 : decode cJ5_isLatin1_aae02 17 = .ok (.iconst 0, 1) := by decide +kernel
theorem dJ5_isLatin1_aae02_18 : decode cJ5_isLatin1_aae02 18 = .ok (.ireturn, 1) := by decide +kernel
def f_J5_isLatin1_aae02 : Option (Int32) :=
  q_br ((1 : Int32) = (0 : Int32)) (
  some 0) (
  q_br ((0 : Int32) = (0 : Int32)) (
  some 1) (
  some 0))
theorem hv_J5_isLatin1_aae02 : yJ5_isLatin1_aae02.cls = RJ5 ∧ yJ5_isLatin1_aae02.cls ≠ "java/lang/invoke/MethodHandle" ∧ yJ5_isLatin1_aae02.cls ≠ "java/lang/invoke/VarHandle" ∧ (parseMethodDescriptor yJ5_isLatin1_aae02.desc).map (fun d => d.parameters.length) = some 0 := by decide +kernel
abbrev rm_J5_isLatin1_aae02 : Room := { frames := 0, cells := 0, slots := 0, locals := 0 }
set_option maxHeartbeats 4000000 in
set_option maxRecDepth 100000 in
theorem k_J5_isLatin1_aae02 (l : Launch) (E : ET) (a : Nat → Nat) (o : Nat) (x : Line_t) (res : Int32) (hF : f_J5_isLatin1_aae02 = some res) (sz : Nat) : CtI l yJ5_isLatin1_aae02 (mws yJ5_isLatin1_aae02 cJ5_isLatin1_aae02 1 (some .boolean)) rm_J5_isLatin1_aae02 0 0 [.ref (a o)] E (bl_Line E a o x) res (bl_Line E a o x) sz := by
  refine mk_M (by decide +kernel) (Nat.le_of_ble_eq_true rfl) ?_
  intro p e s m below meth c A args Q ls hAe hsz hQ hx hb hr hml hin ha hown hlocks hA hz hzs hst hP hD hS hl
  have hown : s.vm.findClass RJ5 = some m.cls := hown
  rw [hAe] at hQ
  subst hsz
  have hP : va_P E.1 vwCl (List.flatten [w_Line E a o x]) s.heap := hP
  have hD : va_D A (List.flatten [w_Line E a o x]) := hD
  have hl : lv_has ls 1 [(0, .ref (a o))] := hl
  generalize hHe : s.heap = H at hP
  have hS : va_S A s.heap H [] := by rw [← hHe]; exact hS
  generalize ([] : List Loc) = locs at hS ⊢
  unfold f_J5_isLatin1_aae02 at hF
  refine va_gets (v := .int 1) hx hb (sz8 hst hz) hS hown (ha _ mw317) (fun _ h9 => h9) dJ5_isLatin1_aae02_0 ?_
  refine lv_if_eq (tgt := 17) hx hb dJ5_isLatin1_aae02_3 (by decide) (fun c3 => ?_) (fun c3 => ?_)
  · have hF := q_brp c3 hF
    refine lv_iconst (v := 0) hx hb dJ5_isLatin1_aae02_17 (by decide) ?_
    obtain rfl := Option.some.inj hF
    exact en_z hQ (Nat.le_of_ble_eq_true rfl) (Nat.le_of_ble_eq_true rfl) hx hb hr hlocks (by decide) hP hD hS rfl dJ5_isLatin1_aae02_18
  · have hF := q_brn c3 hF
    refine lv_aload_n hx hb dJ5_isLatin1_aae02_6 rfl (lv_at hl 0 rfl) ?_
    refine va_get (D := E.1) (ci := 1) (v := .int 0) (C := RJ4) (T := TJ4) (N := 4) hx hb ha in_J4 hown hst.k hP 0 rfl rfl 1 (by decide) (ha _ mw327) (fun _ h9 => h9) rfl dJ5_isLatin1_aae02_7 ?_
    refine lv_if_ne (tgt := 17) hx hb dJ5_isLatin1_aae02_10 (by decide) (fun c10 => ?_) (fun c10 => ?_)
    · have hF := q_brn c10 hF
      refine lv_iconst (v := 0) hx hb dJ5_isLatin1_aae02_17 (by decide) ?_
      obtain rfl := Option.some.inj hF
      exact en_z hQ (Nat.le_of_ble_eq_true rfl) (Nat.le_of_ble_eq_true rfl) hx hb hr hlocks (by decide) hP hD hS rfl dJ5_isLatin1_aae02_18
    · have hF := q_brp c10 hF
      refine lv_iconst (v := 1) hx hb dJ5_isLatin1_aae02_13 (by decide) ?_
      refine lv_goto (tgt := 18) hx hb dJ5_isLatin1_aae02_14 (by decide) ?_
      obtain rfl := Option.some.inj hF
      exact en_z hQ (Nat.le_of_ble_eq_true rfl) (Nat.le_of_ble_eq_true rfl) hx hb hr hlocks (by decide) hP hD hS rfl dJ5_isLatin1_aae02_18

/-! J8_newLength_cabcc -/
theorem dJ8_newLength_cabcc_0 : decode cJ8_newLength_cabcc 0 = .ok (.iload_n 0, 1) := by decide +kernel
theorem dJ8_newLength_cabcc_1 : decode cJ8_newLength_cabcc 1 = .ok (.iload_n 1, 1) := by decide +kernel
theorem dJ8_newLength_cabcc_2 : decode cJ8_newLength_cabcc 2 = .ok (.iload_n 2, 1) := by decide +kernel
theorem dJ8_newLength_cabcc_3 : decode cJ8_newLength_cabcc 3 = .ok (.invokestatic 194, 3) := by decide +kernel
theorem dJ8_newLength_cabcc_6 : decode cJ8_newLength_cabcc 6 = .ok (.iadd, 1) := by decide +kernel
theorem dJ8_newLength_cabcc_7 : decode cJ8_newLength_cabcc 7 = .ok (.istore_n 3, 1) := by decide +kernel
theorem dJ8_newLength_cabcc_8 : decode cJ8_newLength_cabcc 8 = .ok (.iconst 0, 1) := by decide +kernel
theorem dJ8_newLength_cabcc_9 : decode cJ8_newLength_cabcc 9 = .ok (.iload_n 3, 1) := by decide +kernel
theorem dJ8_newLength_cabcc_10 : decode cJ8_newLength_cabcc 10 = .ok (.if_icmp .ge 11, 3) := by decide +kernel
theorem dJ8_newLength_cabcc_13 : decode cJ8_newLength_cabcc 13 = .ok (.iload_n 3, 1) := by decide +kernel
theorem dJ8_newLength_cabcc_14 : decode cJ8_newLength_cabcc 14 = .ok (.ldc 200, 2) := by decide +kernel
theorem dJ8_newLength_cabcc_16 : decode cJ8_newLength_cabcc 16 = .ok (.if_icmp .gt 5, 3) := by decide +kernel
theorem dJ8_newLength_cabcc_19 : decode cJ8_newLength_cabcc 19 = .ok (.iload_n 3, 1) := by decide +kernel
theorem dJ8_newLength_cabcc_20 : decode cJ8_newLength_cabcc 20 = .ok (.ireturn, 1) := by decide +kernel
def f_J8_newLength_cabcc (p1 : Int32) (p2 : Int32) (p3 : Int32) : Option (Int32) :=
  q_lt (p1 + (if p2 < p3 then p3 else p2) : Int32) (fun v1 =>
  q_br (v1 ≤ (0 : Int32)) (
  none) (
  q_br (2147483639 < v1) (
  none) (
  some v1)))
theorem hv_J8_newLength_cabcc : yJ8_newLength_cabcc.cls = RJ8 ∧ yJ8_newLength_cabcc.cls ≠ "java/lang/invoke/MethodHandle" ∧ yJ8_newLength_cabcc.cls ≠ "java/lang/invoke/VarHandle" ∧ (parseMethodDescriptor yJ8_newLength_cabcc.desc).map (fun d => d.parameters.length) = some 3 := by decide +kernel
abbrev rm_J8_newLength_cabcc : Room := { frames := 1, cells := 0, slots := 0, locals := 14 }
set_option maxHeartbeats 4000000 in
set_option maxRecDepth 100000 in
theorem k_J8_newLength_cabcc (l : Launch) (E : ET) (p1 : Int32) (p2 : Int32) (p3 : Int32) (res : Int32) (hF : f_J8_newLength_cabcc p1 p2 p3 = some res) (sz : Nat) : CtI l yJ8_newLength_cabcc (mws yJ8_newLength_cabcc cJ8_newLength_cabcc 4 (some .int)) rm_J8_newLength_cabcc 0 0 [.int p1, .int p2, .int p3] E ([]) res ([]) sz := by
  refine mk_M (by decide +kernel) (Nat.le_of_ble_eq_true rfl) ?_
  intro p e s m below meth c A args Q ls hAe hsz hQ hx hb hr hml hin ha hown hlocks hA hz hzs hst hP hD hS hl
  have hown : s.vm.findClass RJ8 = some m.cls := hown
  rw [hAe] at hQ
  subst hsz
  have hP : va_P E.1 vwCl (List.flatten []) s.heap := hP
  have hD : va_D A (List.flatten []) := hD
  have hl : lv_has ls 4 [(0, .int p1), (1, .int p2), (2, .int p3)] := hl
  generalize hHe : s.heap = H at hP
  have hS : va_S A s.heap H [] := by rw [← hHe]; exact hS
  generalize ([] : List Loc) = locs at hS ⊢
  unfold f_J8_newLength_cabcc at hF
  refine lv_iload_n hx hb dJ8_newLength_cabcc_0 rfl (lv_at hl 0 rfl) ?_
  refine lv_iload_n hx hb dJ8_newLength_cabcc_1 rfl (lv_at hl 1 rfl) ?_
  refine lv_iload_n hx hb dJ8_newLength_cabcc_2 rfl (lv_at hl 2 rfl) ?_
  refine va_mmax hx hb (hml.trans hl.1.symm) hown (ha _ mw599) (ha _ mw600) (ha _ mw97) (ha _ mw601) (Nat.le_of_ble_eq_true rfl) (Nat.le_of_ble_eq_true rfl) (Nat.le_of_ble_eq_true rfl) (Nat.le_of_ble_eq_true rfl) dJ8_newLength_cabcc_3 ?_
  refine lv_iadd hx hb dJ8_newLength_cabcc_6 ?_
  refine lv_topi (fun v1 ev1 => ?_)
  have hF := q_lti ev1 hF
  refine lv_istore_n (lv' := [(3, .int v1), (0, .int p1), (1, .int p2), (2, .int p3)]) hx hb dJ8_newLength_cabcc_7 rfl hl (by decide) rfl (fun ls hl => ?_)
  refine lv_iconst (v := 0) hx hb dJ8_newLength_cabcc_8 (by decide) ?_
  refine lv_iload_n hx hb dJ8_newLength_cabcc_9 rfl (lv_at hl 0 rfl) ?_
  refine lv_icmp_ge (tgt := 21) hx hb dJ8_newLength_cabcc_10 (by decide) (fun c10 => ?_) (fun c10 => ?_)
  · have hF := q_brp c10 hF
    exact absurd hF (by simp)
  · have hF := q_brn c10 hF
    refine lv_iload_n hx hb dJ8_newLength_cabcc_13 rfl (lv_at hl 0 rfl) ?_
    refine lv_ldc (v := 2147483639) hx hb hown (ha _ mw602) dJ8_newLength_cabcc_14 ?_
    refine lv_icmp_gt (tgt := 21) hx hb dJ8_newLength_cabcc_16 (by decide) (fun c16 => ?_) (fun c16 => ?_)
    · have hF := q_brp c16 hF
      exact absurd hF (by simp)
    · have hF := q_brn c16 hF
      refine lv_iload_n hx hb dJ8_newLength_cabcc_19 rfl (lv_at hl 0 rfl) ?_
      obtain rfl := Option.some.inj hF
      exact en_i hQ (Nat.le_of_ble_eq_true rfl) (Nat.le_of_ble_eq_true rfl) hx hb hr hlocks hP hD hS rfl dJ8_newLength_cabcc_20

/-! J5_newCapacity_0f7a4 -/
theorem dJ5_newCapacity_0f7a4_0 : decode cJ5_newCapacity_0f7a4 0 = .ok (.aload_n 0, 1) := by decide +kernel
theorem dJ5_newCapacity_0f7a4_1 : decode cJ5_newCapacity_0f7a4 1 = .ok (.getfield 15, 3) := by decide +kernel
theorem dJ5_newCapacity_0f7a4_4 : decode cJ5_newCapacity_0f7a4 4 = .ok (.arraylength, 1) := by decide +kernel
theorem dJ5_newCapacity_0f7a4_5 : decode cJ5_newCapacity_0f7a4 5 = .ok (.istore_n 2, 1) := by decide +kernel
theorem dJ5_newCapacity_0f7a4_6 : decode cJ5_newCapacity_0f7a4 6 = .ok (.iload_n 1, 1) := by decide +kernel
theorem dJ5_newCapacity_0f7a4_7 : decode cJ5_newCapacity_0f7a4 7 = .ok (.aload_n 0, 1) := by decide +kernel
theorem dJ5_newCapacity_0f7a4_8 : decode cJ5_newCapacity_0f7a4 8 = .ok (.getfield 22, 3) := by decide +kernel
theorem dJ5_newCapacity_0f7a4_11 : decode cJ5_newCapacity_0f7a4 11 = .ok (.ishl, 1) := by decide +kernel
theorem dJ5_newCapacity_0f7a4_12 : decode cJ5_newCapacity_0f7a4 12 = .ok (.istore_n 3, 1) := by decide +kernel
theorem dJ5_newCapacity_0f7a4_13 : decode cJ5_newCapacity_0f7a4 13 = .ok (.iload_n 3, 1) := by decide +kernel
theorem dJ5_newCapacity_0f7a4_14 : decode cJ5_newCapacity_0f7a4 14 = .ok (.iload_n 2, 1) := by decide +kernel
theorem dJ5_newCapacity_0f7a4_15 : decode cJ5_newCapacity_0f7a4 15 = .ok (.isub, 1) := by decide +kernel
theorem dJ5_newCapacity_0f7a4_16 : decode cJ5_newCapacity_0f7a4 16 = .ok (.istore 4, 2) := by decide +kernel
theorem dJ5_newCapacity_0f7a4_18 : decode cJ5_newCapacity_0f7a4 18 = .ok (.iload_n 2, 1) := by decide +kernel
theorem dJ5_newCapacity_0f7a4_19 : decode cJ5_newCapacity_0f7a4 19 = .ok (.iload 4, 2) := by decide +kernel
theorem dJ5_newCapacity_0f7a4_21 : decode cJ5_newCapacity_0f7a4 21 = .ok (.iload_n 2, 1) := by decide +kernel
theorem dJ5_newCapacity_0f7a4_22 : decode cJ5_newCapacity_0f7a4 22 = .ok (.iconst 2, 1) := by decide +kernel
theorem dJ5_newCapacity_0f7a4_23 : decode cJ5_newCapacity_0f7a4 23 = .ok (.aload_n 0, 1) := by decide +kernel
theorem dJ5_newCapacity_0f7a4_24 : decode cJ5_newCapacity_0f7a4 24 = .ok (.getfield 22, 3) := by decide +kernel
theorem dJ5_newCapacity_0f7a4_27 : decode cJ5_newCapacity_0f7a4 27 = .ok (.ishl, 1) := by decide +kernel
theorem dJ5_newCapacity_0f7a4_28 : decode cJ5_newCapacity_0f7a4 28 = .ok (.iadd, 1) := by decide +kernel
theorem dJ5_newCapacity_0f7a4_29 : decode cJ5_newCapacity_0f7a4 29 = .ok (.invokestatic 114, 3) := by decide +kernel
theorem dJ5_newCapacity_0f7a4_32 : decode cJ5_newCapacity_0f7a4 32 = .ok (.istore 5, 2) := by decide +kernel
theorem dJ5_newCapacity_0f7a4_34 : decode cJ5_newCapacity_0f7a4 34 = .ok (.iload 5, 2) := by decide +kernel
theorem dJ5_newCapacity_0f7a4_36 : decode cJ5_newCapacity_0f7a4 36 = .ok (.ldc 39, 2) := by decide +kernel
theorem dJ5_newCapacity_0f7a4_38 : decode cJ5_newCapacity_0f7a4 38 = .ok (.if_icmp .ne 13, 3) := by decide +kernel
theorem dJ5_newCapacity_0f7a4_51 : decode cJ5_newCapacity_0f7a4 51 = .ok (.iload 5, 2) := by decide +kernel
theorem dJ5_newCapacity_0f7a4_53 : decode cJ5_newCapacity_0f7a4 53 = .ok (.aload_n 0, 1) := by decide +kernel
theorem dJ5_newCapacity_0f7a4_54 : decode cJ5_newCapacity_0f7a4 54 = .ok (.getfield 22, 3) := by decide +kernel
theorem dJ5_newCapacity_0f7a4_57 : decode cJ5_newCapacity_0f7a4 57 = .ok (.ishr, 1) := by decide +kernel
theorem dJ5_newCapacity_0f7a4_58 : decode cJ5_newCapacity_0f7a4 58 = .ok (.ireturn, 1) := by decide +kernel
def f_J5_newCapacity_0f7a4 (x_cap : Nat) (p1 : Int32) : Option (Int32) :=
  q_lt (Int32.ofNat x_cap : Int32) (fun v1 =>
  q_lt (p1 <<< ((0 : Int32) &&& 31) : Int32) (fun v2 =>
  q_lt (v2 - v1 : Int32) (fun v3 =>
  q_bd (f_J8_newLength_cabcc v1 v3 (v1 + (2 <<< ((0 : Int32) &&& 31)))) (fun q4 =>
  q_br (q4 = 2147483647) (
  none) (
  some (q4 >>> ((0 : Int32) &&& 31)))))))
theorem hv_J5_newCapacity_0f7a4 : yJ5_newCapacity_0f7a4.cls = RJ5 ∧ yJ5_newCapacity_0f7a4.cls ≠ "java/lang/invoke/MethodHandle" ∧ yJ5_newCapacity_0f7a4.cls ≠ "java/lang/invoke/VarHandle" ∧ (parseMethodDescriptor yJ5_newCapacity_0f7a4.desc).map (fun d => d.parameters.length) = some 1 := by decide +kernel
abbrev rm_J5_newCapacity_0f7a4 : Room := { frames := 2, cells := 0, slots := 0, locals := 37 }
set_option maxHeartbeats 4000000 in
set_option maxRecDepth 100000 in
theorem k_J5_newCapacity_0f7a4 (l : Launch) (E : ET) (a : Nat → Nat) (o : Nat) (x : Line_t) (p1 : Int32) (res : Int32) (hF : f_J5_newCapacity_0f7a4 x.2.1 p1 = some res) (sz : Nat) : CtI l yJ5_newCapacity_0f7a4 (mws yJ5_newCapacity_0f7a4 cJ5_newCapacity_0f7a4 6 (some .int)) rm_J5_newCapacity_0f7a4 0 0 [.ref (a o), .int p1] E (bl_Line E a o x) res (bl_Line E a o x) sz := by
  refine mk_M (by decide +kernel) (Nat.le_of_ble_eq_true rfl) ?_
  intro p e s m below meth c A args Q ls hAe hsz hQ hx hb hr hml hin ha hown hlocks hA hz hzs hst hP hD hS hl
  have hown : s.vm.findClass RJ5 = some m.cls := hown
  rw [hAe] at hQ
  subst hsz
  have hP : va_P E.1 vwCl (List.flatten [w_Line E a o x]) s.heap := hP
  have hD : va_D A (List.flatten [w_Line E a o x]) := hD
  have hl : lv_has ls 6 [(0, .ref (a o)), (1, .int p1)] := hl
  generalize hHe : s.heap = H at hP
  have hS : va_S A s.heap H [] := by rw [← hHe]; exact hS
  generalize ([] : List Loc) = locs at hS ⊢
  unfold f_J5_newCapacity_0f7a4 at hF
  refine lv_aload_n hx hb dJ5_newCapacity_0f7a4_0 rfl (lv_at hl 0 rfl) ?_
  refine va_get (D := E.1) (ci := 1) (v := .ref x.2.2.1) (C := RJ4) (T := TJ4) (N := 4) hx hb ha in_J4 hown hst.k hP 0 rfl rfl 0 (by decide) (ha _ mw326) (fun _ h9 => h9) rfl dJ5_newCapacity_0f7a4_1 ?_
  refine va_alen (v := Int32.ofNat x.2.1) hx hb hst.k hP 1 2 rfl rfl rfl dJ5_newCapacity_0f7a4_4 ?_
  refine lv_topi (fun v1 ev1 => ?_)
  have hF := q_lti ev1 hF
  refine lv_istore_n (lv' := [(2, .int v1), (0, .ref (a o)), (1, .int p1)]) hx hb dJ5_newCapacity_0f7a4_5 rfl hl (by decide) rfl (fun ls hl => ?_)
  refine lv_iload_n hx hb dJ5_newCapacity_0f7a4_6 rfl (lv_at hl 2 rfl) ?_
  refine lv_aload_n hx hb dJ5_newCapacity_0f7a4_7 rfl (lv_at hl 1 rfl) ?_
  refine va_get (D := E.1) (ci := 1) (v := .int 0) (C := RJ4) (T := TJ4) (N := 4) hx hb ha in_J4 hown hst.k hP 0 rfl rfl 1 (by decide) (ha _ mw327) (fun _ h9 => h9) rfl dJ5_newCapacity_0f7a4_8 ?_
  refine lv_ishl hx hb dJ5_newCapacity_0f7a4_11 ?_
  refine lv_topi (fun v2 ev2 => ?_)
  have hF := q_lti ev2 hF
  refine lv_istore_n (lv' := [(3, .int v2), (2, .int v1), (0, .ref (a o)), (1, .int p1)]) hx hb dJ5_newCapacity_0f7a4_12 rfl hl (by decide) rfl (fun ls hl => ?_)
  refine lv_iload_n hx hb dJ5_newCapacity_0f7a4_13 rfl (lv_at hl 0 rfl) ?_
  refine lv_iload_n hx hb dJ5_newCapacity_0f7a4_14 rfl (lv_at hl 1 rfl) ?_
  refine lv_isub hx hb dJ5_newCapacity_0f7a4_15 ?_
  refine lv_topi (fun v3 ev3 => ?_)
  have hF := q_lti ev3 hF
  refine lv_istore (lv' := [(4, .int v3), (3, .int v2), (2, .int v1), (0, .ref (a o)), (1, .int p1)]) hx hb dJ5_newCapacity_0f7a4_16 hl (by decide) rfl (fun ls hl => ?_)
  refine lv_iload_n hx hb dJ5_newCapacity_0f7a4_18 rfl (lv_at hl 2 rfl) ?_
  refine lv_iload hx hb dJ5_newCapacity_0f7a4_19 (lv_at hl 0 rfl) ?_
  refine lv_iload_n hx hb dJ5_newCapacity_0f7a4_21 rfl (lv_at hl 2 rfl) ?_
  refine lv_iconst (v := 2) hx hb dJ5_newCapacity_0f7a4_22 (by decide) ?_
  refine lv_aload_n hx hb dJ5_newCapacity_0f7a4_23 rfl (lv_at hl 3 rfl) ?_
  refine va_get (D := E.1) (ci := 1) (v := .int 0) (C := RJ4) (T := TJ4) (N := 4) hx hb ha in_J4 hown hst.k hP 0 rfl rfl 1 (by decide) (ha _ mw327) (fun _ h9 => h9) rfl dJ5_newCapacity_0f7a4_24 ?_
  refine lv_ishl hx hb dJ5_newCapacity_0f7a4_27 ?_
  refine lv_iadd hx hb dJ5_newCapacity_0f7a4_28 ?_
  obtain ⟨q4, hq4, hF⟩ := q_bdi hF
  refine cl_i (Lc := []) (Lc' := []) (L' := [w_Line E a o x]) (rv := q4) (va_runS (As := [.int v1, .int v3, .int (v1 + (2 <<< ((0 : Int32) &&& 31)))]) (rest := []) ⟨hx, hb, hml, hown, ha⟩ (k_J8_newLength_cabcc l E v1 v3 (v1 + (2 <<< ((0 : Int32) &&& 31))) q4 hq4 H.size) (va_cwS 3 ha (gi_T (fun _ h => h) mw596 mw597 mw106 mw598) rfl rfl rfl hv_J8_newLength_cabcc.2 ⟨(Nat.le_of_ble_eq_true rfl), (Nat.le_of_ble_eq_true rfl)⟩) ⟨pre_blind, pre_at hP hD hS hz hzs hst [] (by decide) rfl rfl⟩ rfl rfl hl.1 rfl (lv_room (Nat.le_of_ble_eq_true rfl)) dJ5_newCapacity_0f7a4_29 ⟨(Nat.le_of_ble_eq_true rfl), (Nat.le_of_ble_eq_true rfl)⟩) hP hD hS hA [] (by decide) rfl rfl rfl rfl (fun H locs hP hD hS => ?_)
  refine lv_istore (lv' := [(5, .int q4), (4, .int v3), (3, .int v2), (2, .int v1), (0, .ref (a o)), (1, .int p1)]) hx hb dJ5_newCapacity_0f7a4_32 hl (by decide) rfl (fun ls hl => ?_)
  refine lv_iload hx hb dJ5_newCapacity_0f7a4_34 (lv_at hl 0 rfl) ?_
  refine lv_ldc (v := 2147483647) hx hb hown (ha _ mw606) dJ5_newCapacity_0f7a4_36 ?_
  refine lv_icmp_ne (tgt := 51) hx hb dJ5_newCapacity_0f7a4_38 (by decide) (fun c38 => ?_) (fun c38 => ?_)
  · have hF := q_brn c38 hF
    refine lv_iload hx hb dJ5_newCapacity_0f7a4_51 (lv_at hl 0 rfl) ?_
    refine lv_aload_n hx hb dJ5_newCapacity_0f7a4_53 rfl (lv_at hl 4 rfl) ?_
    refine va_get (D := E.1) (ci := 1) (v := .int 0) (C := RJ4) (T := TJ4) (N := 4) hx hb ha in_J4 hown hst.k hP 0 rfl rfl 1 (by decide) (ha _ mw327) (fun _ h9 => h9) rfl dJ5_newCapacity_0f7a4_54 ?_
    refine lv_ishr hx hb dJ5_newCapacity_0f7a4_57 ?_
    obtain rfl := Option.some.inj hF
    exact en_i hQ (Nat.le_of_ble_eq_true rfl) (Nat.le_of_ble_eq_true rfl) hx hb hr hlocks hP hD hS rfl dJ5_newCapacity_0f7a4_58
  · have hF := q_brp c38 hF
    exact absurd hF (by simp)

/-! J5_ensureCapacityInternal_d00df -/
theorem dJ5_ensureCapacityInternal_d00df_0 : decode cJ5_ensureCapacityInternal_d00df 0 = .ok (.aload_n 0, 1) := by decide +kernel
theorem dJ5_ensureCapacityInternal_d00df_1 : decode cJ5_ensureCapacityInternal_d00df 1 = .ok (.getfield 15, 3) := by decide +kernel
theorem dJ5_ensureCapacityInternal_d00df_4 : decode cJ5_ensureCapacityInternal_d00df 4 = .ok (.arraylength, 1) := by decide +kernel
theorem dJ5_ensureCapacityInternal_d00df_5 : decode cJ5_ensureCapacityInternal_d00df 5 = .ok (.aload_n 0, 1) := by decide +kernel
theorem dJ5_ensureCapacityInternal_d00df_6 : decode cJ5_ensureCapacityInternal_d00df 6 = .ok (.getfield 22, 3) := by decide +kernel
theorem dJ5_ensureCapacityInternal_d00df_9 : decode cJ5_ensureCapacityInternal_d00df 9 = .ok (.ishr, 1) := by decide +kernel
theorem dJ5_ensureCapacityInternal_d00df_10 : decode cJ5_ensureCapacityInternal_d00df 10 = .ok (.istore_n 2, 1) := by decide +kernel
theorem dJ5_ensureCapacityInternal_d00df_11 : decode cJ5_ensureCapacityInternal_d00df 11 = .ok (.iload_n 1, 1) := by decide +kernel
theorem dJ5_ensureCapacityInternal_d00df_12 : decode cJ5_ensureCapacityInternal_d00df 12 = .ok (.iload_n 2, 1) := by decide +kernel
theorem dJ5_ensureCapacityInternal_d00df_13 : decode cJ5_ensureCapacityInternal_d00df 13 = .ok (.isub, 1) := by decide +kernel
theorem dJ5_ensureCapacityInternal_d00df_14 : decode cJ5_ensureCapacityInternal_d00df 14 = .ok (.ifCond .le 24, 3) := by decide +kernel
theorem dJ5_ensureCapacityInternal_d00df_17 : decode cJ5_ensureCapacityInternal_d00df 17 = .ok (.aload_n 0, 1) := by decide +kernel
theorem dJ5_ensureCapacityInternal_d00df_18 : decode cJ5_ensureCapacityInternal_d00df 18 = .ok (.aload_n 0, 1) := by decide +kernel
theorem dJ5_ensureCapacityInternal_d00df_19 : decode cJ5_ensureCapacityInternal_d00df 19 = .ok (.getfield 15, 3) := by decide +kernel
theorem dJ5_ensureCapacityInternal_d00df_22 : decode cJ5_ensureCapacityInternal_d00df 22 = .ok (.aload_n 0, 1) := by decide +kernel
theorem dJ5_ensureCapacityInternal_d00df_23 : decode cJ5_ensureCapacityInternal_d00df 23 = .ok (.iload_n 1, 1) := by decide +kernel
theorem dJ5_ensureCapacityInternal_d00df_24 : decode cJ5_ensureCapacityInternal_d00df 24 = .ok (.invokevirtual 104, 3) := by decide +kernel
theorem dJ5_ensureCapacityInternal_d00df_27 : decode cJ5_ensureCapacityInternal_d00df 27 = .ok (.aload_n 0, 1) := by decide +kernel
theorem dJ5_ensureCapacityInternal_d00df_28 : decode cJ5_ensureCapacityInternal_d00df 28 = .ok (.getfield 22, 3) := by decide +kernel
theorem dJ5_ensureCapacityInternal_d00df_31 : decode cJ5_ensureCapacityInternal_d00df 31 = .ok (.ishl, 1) := by decide +kernel
theorem dJ5_ensureCapacityInternal_d00df_32 : decode cJ5_ensureCapacityInternal_d00df 32 = .ok (.invokestatic 108, 3) := by decide +kernel
theorem dJ5_ensureCapacityInternal_d00df_35 : decode cJ5_ensureCapacityInternal_d00df 35 = .ok (.putfield 15, 3) := by decide +kernel
theorem dJ5_ensureCapacityInternal_d00df_38 : decode cJ5_ensureCapacityInternal_d00df 38 = .ok (.return_, 1) := by decide +kernel
def f_J5_ensureCapacityInternal_d00df (x_value : (Nat → Int32)) (x_cap : Nat) (p1 : Int32) : Option ((Nat → Int32) × Nat) :=
  q_lt ((Int32.ofNat x_cap) >>> ((0 : Int32) &&& 31) : Int32) (fun v1 =>
  q_br ((p1 - v1) ≤ 0) (
  some (x_value, x_cap)) (
  q_bd (f_J5_newCapacity_0f7a4 x_cap p1) (fun q2 =>
  q_bd (f_J7_copyOf_9075b x_value x_cap (q2 <<< ((0 : Int32) &&& 31))) (fun q3 =>
  some (q3.2, q3.1)))))
theorem hv_J5_ensureCapacityInternal_d00df : yJ5_ensureCapacityInternal_d00df.cls = RJ5 ∧ yJ5_ensureCapacityInternal_d00df.cls ≠ "java/lang/invoke/MethodHandle" ∧ yJ5_ensureCapacityInternal_d00df.cls ≠ "java/lang/invoke/VarHandle" ∧ (parseMethodDescriptor yJ5_ensureCapacityInternal_d00df.desc).map (fun d => d.parameters.length) = some 1 := by decide +kernel
abbrev rm_J5_ensureCapacityInternal_d00df : Room := { frames := 3, cells := 1, slots := 100, locals := 82 }
set_option maxHeartbeats 4000000 in
set_option maxRecDepth 100000 in
theorem k_J5_ensureCapacityInternal_d00df (l : Launch) (E : ET) (a : Nat → Nat) (o : Nat) (x : Line_t) (p1 : Int32) (res : (Nat → Int32) × Nat) (hF : f_J5_ensureCapacityInternal_d00df x.1 x.2.1 p1 = some res) (sz : Nat) : CtgV l yJ5_ensureCapacityInternal_d00df (mws yJ5_ensureCapacityInternal_d00df cJ5_ensureCapacityInternal_d00df 3 none) rm_J5_ensureCapacityInternal_d00df 1 100 [.ref (a o), .int p1] E (bl_Line E a o x) (fun ad : Nat => bl_Line E a o (res.1, res.2, ad, x.2.2.2.1, x.2.2.2.2)) sz := by
  refine mk_M (by decide +kernel) (Nat.le_of_ble_eq_true rfl) ?_
  intro p e s m below meth c A args Q ls hAe hsz hQ hx hb hr hml hin ha hown hlocks hA hz hzs hst hP hD hS hl
  have hown : s.vm.findClass RJ5 = some m.cls := hown
  rw [hAe] at hQ
  subst hsz
  have hP : va_P E.1 vwCl (List.flatten [w_Line E a o x]) s.heap := hP
  have hD : va_D A (List.flatten [w_Line E a o x]) := hD
  have hl : lv_has ls 3 [(0, .ref (a o)), (1, .int p1)] := hl
  generalize hHe : s.heap = H at hP
  have hS : va_S A s.heap H [] := by rw [← hHe]; exact hS
  generalize ([] : List Loc) = locs at hS ⊢
  unfold f_J5_ensureCapacityInternal_d00df at hF
  refine lv_aload_n hx hb dJ5_ensureCapacityInternal_d00df_0 rfl (lv_at hl 0 rfl) ?_
  refine va_get (D := E.1) (ci := 1) (v := .ref x.2.2.1) (C := RJ4) (T := TJ4) (N := 4) hx hb ha in_J4 hown hst.k hP 0 rfl rfl 0 (by decide) (ha _ mw326) (fun _ h9 => h9) rfl dJ5_ensureCapacityInternal_d00df_1 ?_
  refine va_alen (v := Int32.ofNat x.2.1) hx hb hst.k hP 1 2 rfl rfl rfl dJ5_ensureCapacityInternal_d00df_4 ?_
  refine lv_aload_n hx hb dJ5_ensureCapacityInternal_d00df_5 rfl (lv_at hl 0 rfl) ?_
  refine va_get (D := E.1) (ci := 1) (v := .int 0) (C := RJ4) (T := TJ4) (N := 4) hx hb ha in_J4 hown hst.k hP 0 rfl rfl 1 (by decide) (ha _ mw327) (fun _ h9 => h9) rfl dJ5_ensureCapacityInternal_d00df_6 ?_
  refine lv_ishr hx hb dJ5_ensureCapacityInternal_d00df_9 ?_
  refine lv_topi (fun v1 ev1 => ?_)
  have hF := q_lti ev1 hF
  refine lv_istore_n (lv' := [(2, .int v1), (0, .ref (a o)), (1, .int p1)]) hx hb dJ5_ensureCapacityInternal_d00df_10 rfl hl (by decide) rfl (fun ls hl => ?_)
  refine lv_iload_n hx hb dJ5_ensureCapacityInternal_d00df_11 rfl (lv_at hl 2 rfl) ?_
  refine lv_iload_n hx hb dJ5_ensureCapacityInternal_d00df_12 rfl (lv_at hl 0 rfl) ?_
  refine lv_isub hx hb dJ5_ensureCapacityInternal_d00df_13 ?_
  refine lv_if_le (tgt := 38) hx hb dJ5_ensureCapacityInternal_d00df_14 (by decide) (fun c14 => ?_) (fun c14 => ?_)
  · have hF := q_brp c14 hF
    obtain rfl := Option.some.inj hF
    exact en_gv (ad := x.2.2.1) hQ (Nat.le_of_ble_eq_true rfl) (Nat.le_of_ble_eq_true rfl) hx hb hr hlocks hP hD hS dJ5_ensureCapacityInternal_d00df_38
  · have hF := q_brn c14 hF
    refine lv_aload_n hx hb dJ5_ensureCapacityInternal_d00df_17 rfl (lv_at hl 1 rfl) ?_
    refine lv_aload_n hx hb dJ5_ensureCapacityInternal_d00df_18 rfl (lv_at hl 1 rfl) ?_
    refine va_get (D := E.1) (ci := 1) (v := .ref x.2.2.1) (C := RJ4) (T := TJ4) (N := 4) hx hb ha in_J4 hown hst.k hP 0 rfl rfl 0 (by decide) (ha _ mw326) (fun _ h9 => h9) rfl dJ5_ensureCapacityInternal_d00df_19 ?_
    refine lv_aload_n hx hb dJ5_ensureCapacityInternal_d00df_22 rfl (lv_at hl 1 rfl) ?_
    refine lv_iload_n hx hb dJ5_ensureCapacityInternal_d00df_23 rfl (lv_at hl 2 rfl) ?_
    obtain ⟨q2, hq2, hF⟩ := q_bdi hF
    refine cl_i (Lc := [w_Line E a o x]) (Lc' := [w_Line E a o x]) (L' := [w_Line E a o x]) (rv := q2) (va_runU (As := [.int p1]) (rest := [.ref x.2.2.1, .ref (a o)]) ⟨hx, hb, hml, hown, ha⟩ (k_J5_newCapacity_0f7a4 l E a o x p1 q2 hq2 H.size) (va_cwU 1 ha (gi_U (fun _ h => h) mw592 mw2128 mwX1 mw594 mw83 mw595) rfl rfl rfl rfl hv_J5_newCapacity_0f7a4.2 ⟨(Nat.le_of_ble_eq_true rfl), (Nat.le_of_ble_eq_true rfl)⟩) ⟨pre_blind, va_recv hst.k (fr_P hP [0] rfl) (ci := 1) (q0 := 0) rfl rfl, pre_at hP hD hS hz hzs hst [0] (by decide) rfl rfl⟩ rfl rfl hl.1 rfl (lv_room (Nat.le_of_ble_eq_true rfl)) dJ5_ensureCapacityInternal_d00df_24 ⟨(Nat.le_of_ble_eq_true rfl), (Nat.le_of_ble_eq_true rfl)⟩) hP hD hS hA [0] (by decide) rfl rfl rfl rfl (fun H locs hP hD hS => ?_)
    refine lv_aload_n hx hb dJ5_ensureCapacityInternal_d00df_27 rfl (lv_at hl 1 rfl) ?_
    refine va_get (D := E.1) (ci := 1) (v := .int 0) (C := RJ4) (T := TJ4) (N := 4) hx hb ha in_J4 hown hst.k hP 0 rfl rfl 1 (by decide) (ha _ mw327) (fun _ h9 => h9) rfl dJ5_ensureCapacityInternal_d00df_28 ?_
    refine lv_ishl hx hb dJ5_ensureCapacityInternal_d00df_31 ?_
    obtain ⟨q3, hq3, hF⟩ := q_bdi hF
    have hP : va_P E.1 vwCl (List.flatten [[(a o, .inr (1, [.ref x.2.2.1, .int 0, .int x.2.2.2.1, .int x.2.2.2.2]))], [(x.2.2.1, .inl (E.2 3, x.2.1, .inl x.1))]]) H := hP
    have hD : va_D A (List.flatten [[(a o, .inr (1, [.ref x.2.2.1, .int 0, .int x.2.2.2.1, .int x.2.2.2.2]))], [(x.2.2.1, .inl (E.2 3, x.2.1, .inl x.1))]]) := hD
    refine cl_n (L0 := [[(a o, .inr (1, [.ref x.2.2.1, .int 0, .int x.2.2.2.1, .int x.2.2.2.2]))]]) (Lc := [[(x.2.2.1, .inl (E.2 3, x.2.1, .inl x.1))]]) (Lf := fun r => [[(x.2.2.1, .inl (E.2 3, x.2.1, .inl x.1))], [(r, .inl (E.2 3, q3.1, .inl q3.2))]]) (va_runS (As := [.ref x.2.2.1, .int (q2 <<< ((0 : Int32) &&& 31))]) (rest := [.ref (a o)]) ⟨hx, hb, hml, hown, ha⟩ (k_J7_copyOf_9075b l E x.2.2.1 x.1 x.2.1 (q2 <<< ((0 : Int32) &&& 31)) q3 hq3 H.size) (va_cwS 2 ha (gi_T (fun _ h => h) mw607 mw608 mw107 mw609) rfl rfl rfl hv_J7_copyOf_9075b ⟨(Nat.le_of_ble_eq_true rfl), (Nat.le_of_ble_eq_true rfl)⟩) ⟨pre_blind, pre_at (L := [[(a o, .inr (1, [.ref x.2.2.1, .int 0, .int x.2.2.2.1, .int x.2.2.2.2]))], [(x.2.2.1, .inl (E.2 3, x.2.1, .inl x.1))]]) hP hD hS hz hzs hst [1] (by decide) rfl rfl⟩ rfl rfl hl.1 rfl (lv_room (Nat.le_of_ble_eq_true rfl)) dJ5_ensureCapacityInternal_d00df_32 ⟨(Nat.le_of_ble_eq_true rfl), (Nat.le_of_ble_eq_true rfl)⟩) hP hD hS hA (fun rq3 H locs hP hD hS => ?_)
    have hP : va_P E.1 vwCl (List.flatten [[(a o, .inr (1, [.ref x.2.2.1, .int 0, .int x.2.2.2.1, .int x.2.2.2.2]))], [(x.2.2.1, .inl (E.2 3, x.2.1, .inl x.1))], [(rq3, .inl (E.2 3, q3.1, .inl q3.2))]]) H := hP
    have hD : va_D A (List.flatten [[(a o, .inr (1, [.ref x.2.2.1, .int 0, .int x.2.2.2.1, .int x.2.2.2.2]))], [(x.2.2.1, .inl (E.2 3, x.2.1, .inl x.1))], [(rq3, .inl (E.2 3, q3.1, .inl q3.2))]]) := hD
    refine va_put (D := E.1) (ci := 1) (v := .ref rq3) (ty := .array .byte) (C := RJ4) (T := TJ4) (N := 4) hx hb ha in_J4 tyJ4 tyJ4_ok nmJ4 hown hst.k hP hD hS 0 rfl rfl 0 (by decide) (ha _ mw326) (fun _ h9 => h9) rfl (tyJ4_ok 0 (by decide)) rfl rfl (Nat.le_of_ble_eq_true rfl) dJ5_ensureCapacityInternal_d00df_35 (fun H locs hP hD hS => ?_)
    have hP := va_P.sub (ws' := List.flatten [w_Line E a o (q3.2, q3.1, rq3, x.2.2.2.1, x.2.2.2.2)]) hP [0, 2] rfl
    have hD := va_D.sub (ws' := List.flatten [w_Line E a o (q3.2, q3.1, rq3, x.2.2.2.1, x.2.2.2.2)]) hD [0, 2] (by decide) rfl
    have hP : va_P E.1 vwCl (List.flatten [w_Line E a o (q3.2, q3.1, rq3, x.2.2.2.1, x.2.2.2.2)]) H := hP
    have hD : va_D A (List.flatten [w_Line E a o (q3.2, q3.1, rq3, x.2.2.2.1, x.2.2.2.2)]) := hD
    obtain rfl := Option.some.inj hF
    exact en_gv (ad := rq3) hQ (Nat.le_of_ble_eq_true rfl) (Nat.le_of_ble_eq_true rfl) hx hb hr hlocks hP hD hS dJ5_ensureCapacityInternal_d00df_38

/-! J1_canEncode_fc78d -/
theorem dJ1_canEncode_fc78d_0 : decode cJ1_canEncode_fc78d 0 = .ok (.iload_n 0, 1) := by decide +kernel
theorem dJ1_canEncode_fc78d_1 : decode cJ1_canEncode_fc78d 1 = .ok (.sipush 255, 3) := by decide +kernel
theorem dJ1_canEncode_fc78d_4 : decode cJ1_canEncode_fc78d 4 = .ok (.if_icmp .gt 7, 3) := by decide +kernel
theorem dJ1_canEncode_fc78d_7 : decode cJ1_canEncode_fc78d 7 = .ok (.iconst 1, 1) := by decide +kernel
theorem dJ1_canEncode_fc78d_8 : decode cJ1_canEncode_fc78d 8 = .ok (.goto 4, 3) := by decide +kernel
theorem dJ1_canEncode_fc78d_11 : decode cJ1_canEncode_fc78d 11 = .ok (.iconst 0, 1) := by decide +kernel
theorem dJ1_canEncode_fc78d_12 : decode cJ1_canEncode_fc78d 12 = .ok (.ireturn, 1) := by decide +kernel
def f_J1_canEncode_fc78d (p1 : Int32) : Option (Int32) :=
  q_br (255 < p1) (
  some 0) (
  some 1)
theorem hv_J1_canEncode_fc78d : yJ1_canEncode_fc78d.cls = RJ1 ∧ yJ1_canEncode_fc78d.cls ≠ "java/lang/invoke/MethodHandle" ∧ yJ1_canEncode_fc78d.cls ≠ "java/lang/invoke/VarHandle" ∧ (parseMethodDescriptor yJ1_canEncode_fc78d.desc).map (fun d => d.parameters.length) = some 1 := by decide +kernel
abbrev rm_J1_canEncode_fc78d : Room := { frames := 0, cells := 0, slots := 0, locals := 0 }
set_option maxHeartbeats 4000000 in
set_option maxRecDepth 100000 in
theorem k_J1_canEncode_fc78d (l : Launch) (E : ET) (p1 : Int32) (res : Int32) (hF : f_J1_canEncode_fc78d p1 = some res) (sz : Nat) : CtI l yJ1_canEncode_fc78d (mws yJ1_canEncode_fc78d cJ1_canEncode_fc78d 1 (some .boolean)) rm_J1_canEncode_fc78d 0 0 [.int p1] E ([]) res ([]) sz := by
  refine mk_M (by decide +kernel) (Nat.le_of_ble_eq_true rfl) ?_
  intro p e s m below meth c A args Q ls hAe hsz hQ hx hb hr hml hin ha hown hlocks hA hz hzs hst hP hD hS hl
  have hown : s.vm.findClass RJ1 = some m.cls := hown
  rw [hAe] at hQ
  subst hsz
  have hP : va_P E.1 vwCl (List.flatten []) s.heap := hP
  have hD : va_D A (List.flatten []) := hD
  have hl : lv_has ls 1 [(0, .int p1)] := hl
  generalize hHe : s.heap = H at hP
  have hS : va_S A s.heap H [] := by rw [← hHe]; exact hS
  generalize ([] : List Loc) = locs at hS ⊢
  unfold f_J1_canEncode_fc78d at hF
  refine lv_iload_n hx hb dJ1_canEncode_fc78d_0 rfl (lv_at hl 0 rfl) ?_
  refine lv_sipush (v := 255) hx hb dJ1_canEncode_fc78d_1 (by decide) ?_
  refine lv_icmp_gt (tgt := 11) hx hb dJ1_canEncode_fc78d_4 (by decide) (fun c4 => ?_) (fun c4 => ?_)
  · have hF := q_brp c4 hF
    refine lv_iconst (v := 0) hx hb dJ1_canEncode_fc78d_11 (by decide) ?_
    obtain rfl := Option.some.inj hF
    exact en_z hQ (Nat.le_of_ble_eq_true rfl) (Nat.le_of_ble_eq_true rfl) hx hb hr hlocks (by decide) hP hD hS rfl dJ1_canEncode_fc78d_12
  · have hF := q_brn c4 hF
    refine lv_iconst (v := 1) hx hb dJ1_canEncode_fc78d_7 (by decide) ?_
    refine lv_goto (tgt := 12) hx hb dJ1_canEncode_fc78d_8 (by decide) ?_
    obtain rfl := Option.some.inj hF
    exact en_z hQ (Nat.le_of_ble_eq_true rfl) (Nat.le_of_ble_eq_true rfl) hx hb hr hlocks (by decide) hP hD hS rfl dJ1_canEncode_fc78d_12

/-! J5_append_3fe6f -/
theorem dJ5_append_3fe6f_0 : decode cJ5_append_3fe6f 0 = .ok (.aload_n 0, 1) := by decide +kernel
theorem dJ5_append_3fe6f_1 : decode cJ5_append_3fe6f 1 = .ok (.aload_n 0, 1) := by decide +kernel
theorem dJ5_append_3fe6f_2 : decode cJ5_append_3fe6f 2 = .ok (.getfield 79, 3) := by decide +kernel
theorem dJ5_append_3fe6f_5 : decode cJ5_append_3fe6f 5 = .ok (.iconst 1, 1) := by decide +kernel
theorem dJ5_append_3fe6f_6 : decode cJ5_append_3fe6f 6 = .ok (.iadd, 1) := by decide +kernel
theorem dJ5_append_3fe6f_7 : decode cJ5_append_3fe6f 7 = .ok (.invokevirtual 100, 3) := by decide +kernel
theorem dJ5_append_3fe6f_10 : decode cJ5_append_3fe6f 10 = .ok (.aload_n 0, 1) := by decide +kernel
theorem dJ5_append_3fe6f_11 : decode cJ5_append_3fe6f 11 = .ok (.invokevirtual 83, 3) := by decide +kernel
theorem dJ5_append_3fe6f_14 : decode cJ5_append_3fe6f 14 = .ok (.ifCond .eq 31, 3) := by decide +kernel
theorem dJ5_append_3fe6f_17 : decode cJ5_append_3fe6f 17 = .ok (.iload_n 1, 1) := by decide +kernel
theorem dJ5_append_3fe6f_18 : decode cJ5_append_3fe6f 18 = .ok (.invokestatic 191, 3) := by decide +kernel
theorem dJ5_append_3fe6f_21 : decode cJ5_append_3fe6f 21 = .ok (.ifCond .eq 24, 3) := by decide +kernel
theorem dJ5_append_3fe6f_24 : decode cJ5_append_3fe6f 24 = .ok (.aload_n 0, 1) := by decide +kernel
theorem dJ5_append_3fe6f_25 : decode cJ5_append_3fe6f 25 = .ok (.getfield 15, 3) := by decide +kernel
theorem dJ5_append_3fe6f_28 : decode cJ5_append_3fe6f 28 = .ok (.aload_n 0, 1) := by decide +kernel
theorem dJ5_append_3fe6f_29 : decode cJ5_append_3fe6f 29 = .ok (.dup, 1) := by decide +kernel
theorem dJ5_append_3fe6f_30 : decode cJ5_append_3fe6f 30 = .ok (.getfield 79, 3) := by decide +kernel
theorem dJ5_append_3fe6f_33 : decode cJ5_append_3fe6f 33 = .ok (.dup_x1, 1) := by decide +kernel
theorem dJ5_append_3fe6f_34 : decode cJ5_append_3fe6f 34 = .ok (.iconst 1, 1) := by decide +kernel
theorem dJ5_append_3fe6f_35 : decode cJ5_append_3fe6f 35 = .ok (.iadd, 1) := by decide +kernel
theorem dJ5_append_3fe6f_36 : decode cJ5_append_3fe6f 36 = .ok (.putfield 79, 3) := by decide +kernel
theorem dJ5_append_3fe6f_39 : decode cJ5_append_3fe6f 39 = .ok (.iload_n 1, 1) := by decide +kernel
theorem dJ5_append_3fe6f_40 : decode cJ5_append_3fe6f 40 = .ok (.i2b, 1) := by decide +kernel
theorem dJ5_append_3fe6f_41 : decode cJ5_append_3fe6f 41 = .ok (.bastore, 1) := by decide +kernel
theorem dJ5_append_3fe6f_42 : decode cJ5_append_3fe6f 42 = .ok (.goto 33, 3) := by decide +kernel
theorem dJ5_append_3fe6f_75 : decode cJ5_append_3fe6f 75 = .ok (.aload_n 0, 1) := by decide +kernel
theorem dJ5_append_3fe6f_76 : decode cJ5_append_3fe6f 76 = .ok (.areturn, 1) := by decide +kernel
def f_J5_append_3fe6f (x_value : (Nat → Int32)) (x_cap : Nat) (x_count : Int32) (p1 : Int32) : Option ((Nat → Int32) × Nat × Int32) :=
  q_bd (f_J5_ensureCapacityInternal_d00df x_value x_cap (x_count + 1)) (fun q1 =>
  q_bd (f_J5_isLatin1_aae02) (fun q3 =>
  q_br (q3 = 0) (
  none) (
  q_bd (f_J1_canEncode_fc78d p1) (fun q4 =>
  q_br (q4 = 0) (
  none) (
  q_gd (q_in x_count q1.2) (
  q_lt (upd q1.1 (x_count.toNatClampNeg) (vp_nar .byte (p1.toInt8.toInt32))) (fun u6 =>
  some (u6, q1.2, x_count + 1))))))))
theorem hv_J5_append_3fe6f : yJ5_append_3fe6f.cls = RJ5 ∧ yJ5_append_3fe6f.cls ≠ "java/lang/invoke/MethodHandle" ∧ yJ5_append_3fe6f.cls ≠ "java/lang/invoke/VarHandle" ∧ (parseMethodDescriptor yJ5_append_3fe6f.desc).map (fun d => d.parameters.length) = some 1 := by decide +kernel
abbrev rm_J5_append_3fe6f : Room := { frames := 4, cells := 1, slots := 100, locals := 104 }
set_option maxHeartbeats 4000000 in
set_option maxRecDepth 100000 in
theorem k_J5_append_3fe6f (l : Launch) (E : ET) (a : Nat → Nat) (o : Nat) (x : Line_t) (p1 : Int32) (res : (Nat → Int32) × Nat × Int32) (hF : f_J5_append_3fe6f x.1 x.2.1 x.2.2.2.2 p1 = some res) (sz : Nat) : CtgR l yJ5_append_3fe6f (mws yJ5_append_3fe6f cJ5_append_3fe6f 2 (some (.object "java/lang/AbstractStringBuilder"))) rm_J5_append_3fe6f 1 100 [.ref (a o), .int p1] E (bl_Line E a o x) (a o) (fun ad : Nat => bl_Line E a o (res.1, res.2.1, ad, x.2.2.2.1, res.2.2)) sz := by
  refine mk_M (by decide +kernel) (Nat.le_of_ble_eq_true rfl) ?_
  intro p e s m below meth c A args Q ls hAe hsz hQ hx hb hr hml hin ha hown hlocks hA hz hzs hst hP hD hS hl
  have hown : s.vm.findClass RJ5 = some m.cls := hown
  rw [hAe] at hQ
  subst hsz
  have hP : va_P E.1 vwCl (List.flatten [w_Line E a o x]) s.heap := hP
  have hD : va_D A (List.flatten [w_Line E a o x]) := hD
  have hl : lv_has ls 2 [(0, .ref (a o)), (1, .int p1)] := hl
  generalize hHe : s.heap = H at hP
  have hS : va_S A s.heap H [] := by rw [← hHe]; exact hS
  generalize ([] : List Loc) = locs at hS ⊢
  unfold f_J5_append_3fe6f at hF
  refine lv_aload_n hx hb dJ5_append_3fe6f_0 rfl (lv_at hl 0 rfl) ?_
  refine lv_aload_n hx hb dJ5_append_3fe6f_1 rfl (lv_at hl 0 rfl) ?_
  refine va_get (D := E.1) (ci := 1) (v := .int x.2.2.2.2) (C := RJ4) (T := TJ4) (N := 4) hx hb ha in_J4 hown hst.k hP 0 rfl rfl 3 (by decide) (ha _ mw330) (fun _ h9 => h9) rfl dJ5_append_3fe6f_2 ?_
  refine lv_iconst (v := 1) hx hb dJ5_append_3fe6f_5 (by decide) ?_
  refine lv_iadd hx hb dJ5_append_3fe6f_6 ?_
  obtain ⟨q1, hq1, hF⟩ := q_bdi hF
  refine cl_gv (Lc := [w_Line E a o x]) (Lc' := fun gh2 => [w_Line E a o (q1.1, q1.2, gh2, x.2.2.2.1, x.2.2.2.2)]) (L' := fun gh2 => [w_Line E a o (q1.1, q1.2, gh2, x.2.2.2.1, x.2.2.2.2)]) (va_runU (As := [.int (x.2.2.2.2 + 1)]) (rest := []) ⟨hx, hb, hml, hown, ha⟩ (k_J5_ensureCapacityInternal_d00df l E a o x (x.2.2.2.2 + 1) q1 hq1 H.size) (va_cwU 1 ha (gi_U (fun _ h => h) mw588 mw2127 mwX0 mw590 mw83 mw591) rfl rfl rfl rfl hv_J5_ensureCapacityInternal_d00df.2 ⟨(Nat.le_of_ble_eq_true rfl), (Nat.le_of_ble_eq_true rfl)⟩) ⟨pre_blind, va_recv hst.k (fr_P hP [0] rfl) (ci := 1) (q0 := 0) rfl rfl, pre_at hP hD hS hz hzs hst [0] (by decide) rfl rfl⟩ rfl rfl hl.1 rfl (lv_room (Nat.le_of_ble_eq_true rfl)) dJ5_append_3fe6f_7 ⟨(Nat.le_of_ble_eq_true rfl), (Nat.le_of_ble_eq_true rfl)⟩) hP hD hS hA [0] (by decide) rfl rfl (fun _ => rfl) (fun _ => rfl) (fun gh2 H locs hP hD hS => ?_)
  refine lv_aload_n hx hb dJ5_append_3fe6f_10 rfl (lv_at hl 0 rfl) ?_
  obtain ⟨q3, hq3, hF⟩ := q_bdi hF
  refine cl_i (Lc := [w_Line E a o (q1.1, q1.2, gh2, x.2.2.2.1, x.2.2.2.2)]) (Lc' := [w_Line E a o (q1.1, q1.2, gh2, x.2.2.2.1, x.2.2.2.2)]) (L' := [w_Line E a o (q1.1, q1.2, gh2, x.2.2.2.1, x.2.2.2.2)]) (rv := q3) (va_runU (As := []) (rest := []) ⟨hx, hb, hml, hown, ha⟩ (k_J5_isLatin1_aae02 l E a o (q1.1, q1.2, gh2, x.2.2.2.1, x.2.2.2.2) q3 hq3 H.size) (va_cwU 0 ha (gi_U (fun _ h => h) mw623 mw625 mw626 mw624 mw83 mw627) rfl rfl rfl rfl hv_J5_isLatin1_aae02.2 ⟨(Nat.le_of_ble_eq_true rfl), (Nat.le_of_ble_eq_true rfl)⟩) ⟨pre_blind, va_recv hst.k (fr_P hP [0] rfl) (ci := 1) (q0 := 0) rfl rfl, pre_at hP hD hS hz hzs hst [0] (by decide) rfl rfl⟩ rfl rfl hl.1 rfl (lv_room (Nat.le_of_ble_eq_true rfl)) dJ5_append_3fe6f_11 ⟨(Nat.le_of_ble_eq_true rfl), (Nat.le_of_ble_eq_true rfl)⟩) hP hD hS hA [0] (by decide) rfl rfl rfl rfl (fun H locs hP hD hS => ?_)
  refine lv_if_eq (tgt := 45) hx hb dJ5_append_3fe6f_14 (by decide) (fun c14 => ?_) (fun c14 => ?_)
  · have hF := q_brp c14 hF
    exact absurd hF (by simp)
  · have hF := q_brn c14 hF
    refine lv_iload_n hx hb dJ5_append_3fe6f_17 rfl (lv_at hl 1 rfl) ?_
    obtain ⟨q4, hq4, hF⟩ := q_bdi hF
    refine cl_i (Lc := []) (Lc' := []) (L' := [w_Line E a o (q1.1, q1.2, gh2, x.2.2.2.1, x.2.2.2.2)]) (rv := q4) (va_runS (As := [.int p1]) (rest := []) ⟨hx, hb, hml, hown, ha⟩ (k_J1_canEncode_fc78d l E p1 q4 hq4 H.size) (va_cwS 1 ha (gi_T (fun _ h => h) mw916 mw917 mw102 mw918) rfl rfl rfl hv_J1_canEncode_fc78d.2 ⟨(Nat.le_of_ble_eq_true rfl), (Nat.le_of_ble_eq_true rfl)⟩) ⟨pre_blind, pre_at hP hD hS hz hzs hst [] (by decide) rfl rfl⟩ rfl rfl hl.1 rfl (lv_room (Nat.le_of_ble_eq_true rfl)) dJ5_append_3fe6f_18 ⟨(Nat.le_of_ble_eq_true rfl), (Nat.le_of_ble_eq_true rfl)⟩) hP hD hS hA [] (by decide) rfl rfl rfl rfl (fun H locs hP hD hS => ?_)
    refine lv_if_eq (tgt := 45) hx hb dJ5_append_3fe6f_21 (by decide) (fun c21 => ?_) (fun c21 => ?_)
    · have hF := q_brp c21 hF
      exact absurd hF (by simp)
    · have hF := q_brn c21 hF
      refine lv_aload_n hx hb dJ5_append_3fe6f_24 rfl (lv_at hl 0 rfl) ?_
      refine va_get (D := E.1) (ci := 1) (v := .ref gh2) (C := RJ4) (T := TJ4) (N := 4) hx hb ha in_J4 hown hst.k hP 0 rfl rfl 0 (by decide) (ha _ mw326) (fun _ h9 => h9) rfl dJ5_append_3fe6f_25 ?_
      refine lv_aload_n hx hb dJ5_append_3fe6f_28 rfl (lv_at hl 0 rfl) ?_
      refine lv_dup hx hb dJ5_append_3fe6f_29 rfl ?_
      refine va_get (D := E.1) (ci := 1) (v := .int x.2.2.2.2) (C := RJ4) (T := TJ4) (N := 4) hx hb ha in_J4 hown hst.k hP 0 rfl rfl 3 (by decide) (ha _ mw330) (fun _ h9 => h9) rfl dJ5_append_3fe6f_30 ?_
      refine lv_dup_x1 hx hb dJ5_append_3fe6f_33 rfl rfl ?_
      refine lv_iconst (v := 1) hx hb dJ5_append_3fe6f_34 (by decide) ?_
      refine lv_iadd hx hb dJ5_append_3fe6f_35 ?_
      refine va_put (D := E.1) (ci := 1) (v := .int (x.2.2.2.2 + 1)) (ty := .int) (C := RJ4) (T := TJ4) (N := 4) hx hb ha in_J4 tyJ4 tyJ4_ok nmJ4 hown hst.k hP hD hS 0 rfl rfl 3 (by decide) (ha _ mw330) (fun _ h9 => h9) rfl (tyJ4_ok 3 (by decide)) rfl rfl (Nat.le_of_ble_eq_true rfl) dJ5_append_3fe6f_36 (fun H locs hP hD hS => ?_)
      have hP : va_P E.1 vwCl (List.flatten [w_Line E a o (q1.1, q1.2, gh2, x.2.2.2.1, x.2.2.2.2 + 1)]) H := hP
      have hD : va_D A (List.flatten [w_Line E a o (q1.1, q1.2, gh2, x.2.2.2.1, x.2.2.2.2 + 1)]) := hD
      refine lv_iload_n hx hb dJ5_append_3fe6f_39 rfl (lv_at hl 1 rfl) ?_
      refine lv_i2b hx hb dJ5_append_3fe6f_40 rfl ?_
      obtain ⟨g5, hF⟩ := q_gdi hF
      refine vj_bast hx hb hst.k hP hD hS 1 2 rfl rfl (f := q1.1) (k := x.2.2.2.2.toNatClampNeg) rfl g5 dJ5_append_3fe6f_41 (fun u6 eu6 H locs hP hD hS => ?_)
      have hF := q_lti eu6 hF
      have hP : va_P E.1 vwCl (List.flatten [w_Line E a o (u6, q1.2, gh2, x.2.2.2.1, x.2.2.2.2 + 1)]) H := hP
      have hD : va_D A (List.flatten [w_Line E a o (u6, q1.2, gh2, x.2.2.2.1, x.2.2.2.2 + 1)]) := hD
      refine lv_goto (tgt := 75) hx hb dJ5_append_3fe6f_42 (by decide) ?_
      refine lv_aload_n hx hb dJ5_append_3fe6f_75 rfl (lv_at hl 0 rfl) ?_
      obtain rfl := Option.some.inj hF
      exact en_gr (ad := gh2) hQ (Nat.le_of_ble_eq_true rfl) (Nat.le_of_ble_eq_true rfl) hx hb hr (Or.inl ⟨_, rfl⟩) hlocks hP hD hS rfl dJ5_append_3fe6f_76

/-! J4_append_cf468 -/
theorem dJ4_append_cf468_0 : decode cJ4_append_cf468 0 = .ok (.aload_n 0, 1) := by decide +kernel
theorem dJ4_append_cf468_1 : decode cJ4_append_cf468 1 = .ok (.iload_n 1, 1) := by decide +kernel
theorem dJ4_append_cf468_2 : decode cJ4_append_cf468 2 = .ok (.invokespecial 50, 3) := by decide +kernel
theorem dJ4_append_cf468_5 : decode cJ4_append_cf468 5 = .ok (.pop, 1) := by decide +kernel
theorem dJ4_append_cf468_6 : decode cJ4_append_cf468 6 = .ok (.aload_n 0, 1) := by decide +kernel
theorem dJ4_append_cf468_7 : decode cJ4_append_cf468 7 = .ok (.areturn, 1) := by decide +kernel
def f_J4_append_cf468 (x_value : (Nat → Int32)) (x_cap : Nat) (x_count : Int32) (p1 : Int32) : Option ((Nat → Int32) × Nat × Int32) :=
  q_bd (f_J5_append_3fe6f x_value x_cap x_count p1) (fun q1 =>
  some (q1.1, q1.2.1, q1.2.2))
theorem hv_J4_append_cf468 : yJ4_append_cf468.cls = RJ4 ∧ yJ4_append_cf468.cls ≠ "java/lang/invoke/MethodHandle" ∧ yJ4_append_cf468.cls ≠ "java/lang/invoke/VarHandle" ∧ (parseMethodDescriptor yJ4_append_cf468.desc).map (fun d => d.parameters.length) = some 1 := by decide +kernel
abbrev rm_J4_append_cf468 : Room := { frames := 5, cells := 1, slots := 100, locals := 125 }
set_option maxHeartbeats 4000000 in
set_option maxRecDepth 100000 in
theorem k_J4_append_cf468 (l : Launch) (E : ET) (a : Nat → Nat) (o : Nat) (x : Line_t) (p1 : Int32) (res : (Nat → Int32) × Nat × Int32) (hF : f_J4_append_cf468 x.1 x.2.1 x.2.2.2.2 p1 = some res) (sz : Nat) : CtgR l yJ4_append_cf468 (mws yJ4_append_cf468 cJ4_append_cf468 2 (some (.object "java/lang/StringBuilder"))) rm_J4_append_cf468 1 100 [.ref (a o), .int p1] E (bl_Line E a o x) (a o) (fun ad : Nat => bl_Line E a o (res.1, res.2.1, ad, x.2.2.2.1, res.2.2)) sz := by
  refine mk_M (by decide +kernel) (Nat.le_of_ble_eq_true rfl) ?_
  intro p e s m below meth c A args Q ls hAe hsz hQ hx hb hr hml hin ha hown hlocks hA hz hzs hst hP hD hS hl
  have hown : s.vm.findClass RJ4 = some m.cls := hown
  rw [hAe] at hQ
  subst hsz
  have hP : va_P E.1 vwCl (List.flatten [w_Line E a o x]) s.heap := hP
  have hD : va_D A (List.flatten [w_Line E a o x]) := hD
  have hl : lv_has ls 2 [(0, .ref (a o)), (1, .int p1)] := hl
  generalize hHe : s.heap = H at hP
  have hS : va_S A s.heap H [] := by rw [← hHe]; exact hS
  generalize ([] : List Loc) = locs at hS ⊢
  unfold f_J4_append_cf468 at hF
  refine lv_aload_n hx hb dJ4_append_cf468_0 rfl (lv_at hl 0 rfl) ?_
  refine lv_iload_n hx hb dJ4_append_cf468_1 rfl (lv_at hl 1 rfl) ?_
  obtain ⟨q1, hq1, hF⟩ := q_bdi hF
  refine cl_gr (Lc := [w_Line E a o x]) (Lc' := fun gh2 => [w_Line E a o (q1.1, q1.2.1, gh2, x.2.2.2.1, q1.2.2)]) (L' := fun gh2 => [w_Line E a o (q1.1, q1.2.1, gh2, x.2.2.2.1, q1.2.2)]) (ra := a o) (va_runSU (ClassAt_J4 hst) (As := [.int p1]) (rest := []) ⟨hx, hb, hml, hown, ha⟩ (k_J5_append_3fe6f l E a o x p1 q1 hq1 H.size) (va_cwSU 1 ha (gi_SU (fun _ h => h) mw913 mw2134 mw339 mw914 mw83 mw915) rfl rfl rfl ⟨by decide, hv_J5_append_3fe6f.2.2.2⟩ ⟨(Nat.le_of_ble_eq_true rfl), (Nat.le_of_ble_eq_true rfl)⟩) ⟨pre_blind, va_recv hst.k (fr_P hP [0] rfl) (ci := 1) (q0 := 0) rfl rfl, pre_at hP hD hS hz hzs hst [0] (by decide) rfl rfl⟩ rfl rfl hl.1 rfl (lv_room (Nat.le_of_ble_eq_true rfl)) dJ4_append_cf468_2 ⟨(Nat.le_of_ble_eq_true rfl), (Nat.le_of_ble_eq_true rfl)⟩) hP hD hS hA [0] (by decide) rfl rfl (fun _ => rfl) (fun _ => rfl) (fun gh2 H locs hP hD hS => ?_)
  refine lv_pop hx hb dJ4_append_cf468_5 rfl ?_
  refine lv_aload_n hx hb dJ4_append_cf468_6 rfl (lv_at hl 0 rfl) ?_
  obtain rfl := Option.some.inj hF
  exact en_gr (ad := gh2) hQ (Nat.le_of_ble_eq_true rfl) (Nat.le_of_ble_eq_true rfl) hx hb hr (Or.inl ⟨_, rfl⟩) hlocks hP hD hS rfl dJ4_append_cf468_7

/-! J6_stringSize_0f7a4 -/
theorem dJ6_stringSize_0f7a4_0 : decode cJ6_stringSize_0f7a4 0 = .ok (.iconst 1, 1) := by decide +kernel
theorem dJ6_stringSize_0f7a4_1 : decode cJ6_stringSize_0f7a4 1 = .ok (.istore_n 1, 1) := by decide +kernel
theorem dJ6_stringSize_0f7a4_2 : decode cJ6_stringSize_0f7a4 2 = .ok (.iload_n 0, 1) := by decide +kernel
theorem dJ6_stringSize_0f7a4_3 : decode cJ6_stringSize_0f7a4 3 = .ok (.ifCond .lt 8, 3) := by decide +kernel
theorem dJ6_stringSize_0f7a4_6 : decode cJ6_stringSize_0f7a4 6 = .ok (.iconst 0, 1) := by decide +kernel
theorem dJ6_stringSize_0f7a4_7 : decode cJ6_stringSize_0f7a4 7 = .ok (.istore_n 1, 1) := by decide +kernel
theorem dJ6_stringSize_0f7a4_8 : decode cJ6_stringSize_0f7a4 8 = .ok (.iload_n 0, 1) := by decide +kernel
theorem dJ6_stringSize_0f7a4_9 : decode cJ6_stringSize_0f7a4 9 = .ok (.ineg, 1) := by decide +kernel
theorem dJ6_stringSize_0f7a4_10 : decode cJ6_stringSize_0f7a4 10 = .ok (.istore_n 0, 1) := by decide +kernel
theorem dJ6_stringSize_0f7a4_11 : decode cJ6_stringSize_0f7a4 11 = .ok (.bipush (-10), 2) := by decide +kernel
theorem dJ6_stringSize_0f7a4_13 : decode cJ6_stringSize_0f7a4 13 = .ok (.istore_n 2, 1) := by decide +kernel
theorem dJ6_stringSize_0f7a4_14 : decode cJ6_stringSize_0f7a4 14 = .ok (.iconst 1, 1) := by decide +kernel
theorem dJ6_stringSize_0f7a4_15 : decode cJ6_stringSize_0f7a4 15 = .ok (.istore_n 3, 1) := by decide +kernel
theorem dJ6_stringSize_0f7a4_16 : decode cJ6_stringSize_0f7a4 16 = .ok (.iload_n 3, 1) := by decide +kernel
theorem dJ6_stringSize_0f7a4_17 : decode cJ6_stringSize_0f7a4 17 = .ok (.bipush 10, 2) := by decide +kernel
theorem dJ6_stringSize_0f7a4_19 : decode cJ6_stringSize_0f7a4 19 = .ok (.if_icmp .ge 23, 3) := by decide +kernel
theorem dJ6_stringSize_0f7a4_22 : decode cJ6_stringSize_0f7a4 22 = .ok (.iload_n 0, 1) := by decide +kernel
theorem dJ6_stringSize_0f7a4_23 : decode cJ6_stringSize_0f7a4 23 = .ok (.iload_n 2, 1) := by decide +kernel
theorem dJ6_stringSize_0f7a4_24 : decode cJ6_stringSize_0f7a4 24 = .ok (.if_icmp .le 7, 3) := by decide +kernel
theorem dJ6_stringSize_0f7a4_27 : decode cJ6_stringSize_0f7a4 27 = .ok (.iload_n 3, 1) := by decide +kernel
theorem dJ6_stringSize_0f7a4_28 : decode cJ6_stringSize_0f7a4 28 = .ok (.iload_n 1, 1) := by decide +kernel
theorem dJ6_stringSize_0f7a4_29 : decode cJ6_stringSize_0f7a4 29 = .ok (.iadd, 1) := by decide +kernel
theorem dJ6_stringSize_0f7a4_30 : decode cJ6_stringSize_0f7a4 30 = .ok (.ireturn, 1) := by decide +kernel
theorem dJ6_stringSize_0f7a4_31 : decode cJ6_stringSize_0f7a4 31 = .ok (.bipush 10, 2) := by decide +kernel
theorem dJ6_stringSize_0f7a4_33 : decode cJ6_stringSize_0f7a4 33 = .ok (.iload_n 2, 1) := by decide +kernel
theorem dJ6_stringSize_0f7a4_34 : decode cJ6_stringSize_0f7a4 34 = .ok (.imul, 1) := by decide +kernel
theorem dJ6_stringSize_0f7a4_35 : decode cJ6_stringSize_0f7a4 35 = .ok (.istore_n 2, 1) := by decide +kernel
theorem dJ6_stringSize_0f7a4_36 : decode cJ6_stringSize_0f7a4 36 = .ok (.iinc 3 1, 3) := by decide +kernel
theorem dJ6_stringSize_0f7a4_39 : decode cJ6_stringSize_0f7a4 39 = .ok (.goto (-23), 3) := by decide +kernel
theorem dJ6_stringSize_0f7a4_42 : decode cJ6_stringSize_0f7a4 42 = .ok (.bipush 10, 2) := by decide +kernel
theorem dJ6_stringSize_0f7a4_44 : decode cJ6_stringSize_0f7a4 44 = .ok (.iload_n 1, 1) := by decide +kernel
theorem dJ6_stringSize_0f7a4_45 : decode cJ6_stringSize_0f7a4 45 = .ok (.iadd, 1) := by decide +kernel
theorem dJ6_stringSize_0f7a4_46 : decode cJ6_stringSize_0f7a4 46 = .ok (.ireturn, 1) := by decide +kernel
def f_J6_stringSize_0f7a4_L16 (j1 : Int32) (j2 : Int32) (K16 : Unit → Option (Int32)) : Nat → Int32 → Int32 → Option (Int32)
  | 0, _, _ => none
  | n16 + 1, i3, i4 =>
    q_br (10 ≤ i3) (
  K16 (())) (
  q_br (j2 ≤ i4) (
  q_lt (10 * i4 : Int32) (fun v5 =>
  q_lt (i3 + 1 : Int32) (fun v6 =>
  f_J6_stringSize_0f7a4_L16 j1 j2 K16 n16 v6 v5))) (
  some (i3 + j1)))
def f_J6_stringSize_0f7a4 (p1 : Int32) : Option (Int32) :=
  q_lt (fun (j1 : Int32) (j2 : Int32) =>
  f_J6_stringSize_0f7a4_L16 j1 j2 (fun _ =>
  some (10 + j1)) 2000 1 (-10)) (fun (J11 : Int32 → Int32 → Option (Int32)) =>
  q_br (p1 < 0) (
  J11 1 p1) (
  q_lt (-p1 : Int32) (fun v7 =>
  J11 0 v7)))
theorem hv_J6_stringSize_0f7a4 : yJ6_stringSize_0f7a4.cls = RJ6 ∧ yJ6_stringSize_0f7a4.cls ≠ "java/lang/invoke/MethodHandle" ∧ yJ6_stringSize_0f7a4.cls ≠ "java/lang/invoke/VarHandle" ∧ (parseMethodDescriptor yJ6_stringSize_0f7a4.desc).map (fun d => d.parameters.length) = some 1 := by decide +kernel
abbrev rm_J6_stringSize_0f7a4 : Room := { frames := 0, cells := 0, slots := 0, locals := 0 }
set_option maxHeartbeats 4000000 in
set_option maxRecDepth 100000 in
theorem k_J6_stringSize_0f7a4 (l : Launch) (E : ET) (p1 : Int32) (res : Int32) (hF : f_J6_stringSize_0f7a4 p1 = some res) (sz : Nat) : CtI l yJ6_stringSize_0f7a4 (mws yJ6_stringSize_0f7a4 cJ6_stringSize_0f7a4 4 (some .int)) rm_J6_stringSize_0f7a4 0 0 [.int p1] E ([]) res ([]) sz := by
  refine mk_M (by decide +kernel) (Nat.le_of_ble_eq_true rfl) ?_
  intro p e s m below meth c A args Q ls hAe hsz hQ hx hb hr hml hin ha hown hlocks hA hz hzs hst hP hD hS hl
  have hown : s.vm.findClass RJ6 = some m.cls := hown
  rw [hAe] at hQ
  subst hsz
  have hP : va_P E.1 vwCl (List.flatten []) s.heap := hP
  have hD : va_D A (List.flatten []) := hD
  have hl : lv_has ls 4 [(0, .int p1)] := hl
  generalize hHe : s.heap = H at hP
  have hS : va_S A s.heap H [] := by rw [← hHe]; exact hS
  generalize ([] : List Loc) = locs at hS ⊢
  unfold f_J6_stringSize_0f7a4 at hF
  refine lv_iconst (v := 1) hx hb dJ6_stringSize_0f7a4_0 (by decide) ?_
  refine lv_istore_n (lv' := [(1, .int 1), (0, .int p1)]) hx hb dJ6_stringSize_0f7a4_1 rfl hl (by decide) rfl (fun ls hl => ?_)
  refine lv_iload_n hx hb dJ6_stringSize_0f7a4_2 rfl (lv_at hl 1 rfl) ?_
  obtain ⟨J11, hJ11, hF⟩ := q_jn hF
  have jJ11 : ∀ (j1 : Int32) (j2 : Int32), ∀ (H : Heap) (locs : List Loc) (ls : Array Slot), J11 j1 j2 = some res → va_P E.1 vwCl (List.flatten []) H → va_D A (List.flatten []) → va_S A s.heap H locs → lv_has ls 4 [(1, .int j1), (0, .int j2)] → W p l e rm_J6_stringSize_0f7a4 s m args below meth c H locs 0 0 Q (F0 m 11 ls []) := by
    intro j1 j2 H locs ls hF hP hD hS hl
    rw [hJ11] at hF
    refine lv_bipush (v := (-10)) hx hb dJ6_stringSize_0f7a4_11 (by decide) ?_
    refine lv_istore_n (lv' := [(2, .int (-10)), (1, .int j1), (0, .int j2)]) hx hb dJ6_stringSize_0f7a4_13 rfl hl (by decide) rfl (fun ls hl => ?_)
    refine lv_iconst (v := 1) hx hb dJ6_stringSize_0f7a4_14 (by decide) ?_
    refine lv_istore_n (lv' := [(3, .int 1), (2, .int (-10)), (1, .int j1), (0, .int j2)]) hx hb dJ6_stringSize_0f7a4_15 rfl hl (by decide) rfl (fun ls hl => ?_)
    have key16 : ∀ (K : Unit → Option (Int32)), (∀ (H : Heap) (locs : List Loc) (ls : Array Slot), K () = some res → va_P E.1 vwCl (List.flatten []) H → va_D A (List.flatten []) → va_S A s.heap H locs → lv_has ls 4 [(1, .int j1)] → W p l e rm_J6_stringSize_0f7a4 s m args below meth c H locs 0 0 Q (F0 m 42 ls [])) → ∀ (n : Nat) (i3 : Int32) (i4 : Int32) (H : Heap) (locs : List Loc) (ls : Array Slot), f_J6_stringSize_0f7a4_L16 j1 j2 K n i3 i4 = some res → va_P E.1 vwCl (List.flatten []) H → va_D A (List.flatten []) → va_S A s.heap H locs → lv_has ls 4 [(3, .int i3), (2, .int i4), (1, .int j1), (0, .int j2)] → W p l e rm_J6_stringSize_0f7a4 s m args below meth c H locs 0 0 Q (F0 m 16 ls []) := by
      intro K16 hK16 n16
      induction n16 with
      | zero => intro i3 i4 H locs ls hF; exact absurd hF (by simp [f_J6_stringSize_0f7a4_L16])
      | succ n16 ih16 =>
        intro i3 i4 H locs ls hF hP hD hS hl
        rw [f_J6_stringSize_0f7a4_L16] at hF
        refine lv_iload_n hx hb dJ6_stringSize_0f7a4_16 rfl (lv_at hl 0 rfl) ?_
        refine lv_bipush (v := 10) hx hb dJ6_stringSize_0f7a4_17 (by decide) ?_
        refine lv_icmp_ge (tgt := 42) hx hb dJ6_stringSize_0f7a4_19 (by decide) (fun c19 => ?_) (fun c19 => ?_)
        · have hF := q_brp c19 hF
          exact hK16 H locs ls hF hP hD hS (lv_sub hl [2] rfl)
        · have hF := q_brn c19 hF
          refine lv_iload_n hx hb dJ6_stringSize_0f7a4_22 rfl (lv_at hl 3 rfl) ?_
          refine lv_iload_n hx hb dJ6_stringSize_0f7a4_23 rfl (lv_at hl 1 rfl) ?_
          refine lv_icmp_le (tgt := 31) hx hb dJ6_stringSize_0f7a4_24 (by decide) (fun c24 => ?_) (fun c24 => ?_)
          · have hF := q_brp c24 hF
            refine lv_bipush (v := 10) hx hb dJ6_stringSize_0f7a4_31 (by decide) ?_
            refine lv_iload_n hx hb dJ6_stringSize_0f7a4_33 rfl (lv_at hl 1 rfl) ?_
            refine lv_imul hx hb dJ6_stringSize_0f7a4_34 ?_
            refine lv_topi (fun v5 ev5 => ?_)
            have hF := q_lti ev5 hF
            refine lv_istore_n (lv' := [(2, .int v5), (3, .int i3), (1, .int j1), (0, .int j2)]) hx hb dJ6_stringSize_0f7a4_35 rfl hl (by decide) rfl (fun ls hl => ?_)
            obtain ⟨v6, ev6⟩ : ∃ y : Int32, y = i3 + 1 := ⟨_, rfl⟩
            have hF := q_lti ev6 hF
            refine lv_iinc (v := v6) (lv' := [(3, .int v6), (2, .int v5), (1, .int j1), (0, .int j2)]) hx hb dJ6_stringSize_0f7a4_36 hl (k := 1) rfl (by rw [ev6]; rfl) (by decide) rfl (fun ls hl => ?_)
            refine lv_goto (tgt := 16) hx hb dJ6_stringSize_0f7a4_39 (by decide) ?_
            exact ih16 v6 v5 H locs ls hF hP hD hS (lv_sub hl [0, 1, 2, 3] rfl)
          · have hF := q_brn c24 hF
            refine lv_iload_n hx hb dJ6_stringSize_0f7a4_27 rfl (lv_at hl 0 rfl) ?_
            refine lv_iload_n hx hb dJ6_stringSize_0f7a4_28 rfl (lv_at hl 2 rfl) ?_
            refine lv_iadd hx hb dJ6_stringSize_0f7a4_29 ?_
            obtain rfl := Option.some.inj hF
            exact en_i hQ (Nat.le_of_ble_eq_true rfl) (Nat.le_of_ble_eq_true rfl) hx hb hr hlocks hP hD hS rfl dJ6_stringSize_0f7a4_30
    refine key16 _ ?_ _ 1 (-10) H locs ls hF hP hD hS (lv_sub hl [0, 1, 2, 3] rfl)
    intro  H locs ls hF hP hD hS hl
    refine lv_bipush (v := 10) hx hb dJ6_stringSize_0f7a4_42 (by decide) ?_
    refine lv_iload_n hx hb dJ6_stringSize_0f7a4_44 rfl (lv_at hl 0 rfl) ?_
    refine lv_iadd hx hb dJ6_stringSize_0f7a4_45 ?_
    obtain rfl := Option.some.inj hF
    exact en_i hQ (Nat.le_of_ble_eq_true rfl) (Nat.le_of_ble_eq_true rfl) hx hb hr hlocks hP hD hS rfl dJ6_stringSize_0f7a4_46
  refine lv_if_lt (tgt := 11) hx hb dJ6_stringSize_0f7a4_3 (by decide) (fun c3 => ?_) (fun c3 => ?_)
  · have hF := q_brp c3 hF
    exact jJ11 1 p1 H locs ls hF hP hD hS (lv_sub hl [0, 1] rfl)
  · have hF := q_brn c3 hF
    refine lv_iconst (v := 0) hx hb dJ6_stringSize_0f7a4_6 (by decide) ?_
    refine lv_istore_n (lv' := [(1, .int 0), (0, .int p1)]) hx hb dJ6_stringSize_0f7a4_7 rfl hl (by decide) rfl (fun ls hl => ?_)
    refine lv_iload_n hx hb dJ6_stringSize_0f7a4_8 rfl (lv_at hl 1 rfl) ?_
    refine lv_ineg hx hb dJ6_stringSize_0f7a4_9 ?_
    refine lv_topi (fun v7 ev7 => ?_)
    have hF := q_lti ev7 hF
    refine lv_istore_n (lv' := [(0, .int v7), (1, .int 0)]) hx hb dJ6_stringSize_0f7a4_10 rfl hl (by decide) rfl (fun ls hl => ?_)
    exact jJ11 0 v7 H locs ls hF hP hD hS (lv_sub hl [1, 0] rfl)

/-! J6_getChars_ba4f3 -/
theorem dJ6_getChars_ba4f3_0 : decode cJ6_getChars_ba4f3 0 = .ok (.iload_n 1, 1) := by decide +kernel
theorem dJ6_getChars_ba4f3_1 : decode cJ6_getChars_ba4f3 1 = .ok (.istore 5, 2) := by decide +kernel
theorem dJ6_getChars_ba4f3_3 : decode cJ6_getChars_ba4f3 3 = .ok (.iload_n 0, 1) := by decide +kernel
theorem dJ6_getChars_ba4f3_4 : decode cJ6_getChars_ba4f3 4 = .ok (.ifCond .ge 7, 3) := by decide +kernel
theorem dJ6_getChars_ba4f3_7 : decode cJ6_getChars_ba4f3 7 = .ok (.iconst 1, 1) := by decide +kernel
theorem dJ6_getChars_ba4f3_8 : decode cJ6_getChars_ba4f3 8 = .ok (.goto 4, 3) := by decide +kernel
theorem dJ6_getChars_ba4f3_11 : decode cJ6_getChars_ba4f3 11 = .ok (.iconst 0, 1) := by decide +kernel
theorem dJ6_getChars_ba4f3_12 : decode cJ6_getChars_ba4f3 12 = .ok (.istore 6, 2) := by decide +kernel
theorem dJ6_getChars_ba4f3_14 : decode cJ6_getChars_ba4f3 14 = .ok (.iload 6, 2) := by decide +kernel
theorem dJ6_getChars_ba4f3_16 : decode cJ6_getChars_ba4f3 16 = .ok (.ifCond .ne 6, 3) := by decide +kernel
theorem dJ6_getChars_ba4f3_19 : decode cJ6_getChars_ba4f3 19 = .ok (.iload_n 0, 1) := by decide +kernel
theorem dJ6_getChars_ba4f3_20 : decode cJ6_getChars_ba4f3 20 = .ok (.ineg, 1) := by decide +kernel
theorem dJ6_getChars_ba4f3_21 : decode cJ6_getChars_ba4f3 21 = .ok (.istore_n 0, 1) := by decide +kernel
theorem dJ6_getChars_ba4f3_22 : decode cJ6_getChars_ba4f3 22 = .ok (.iload_n 0, 1) := by decide +kernel
theorem dJ6_getChars_ba4f3_23 : decode cJ6_getChars_ba4f3 23 = .ok (.bipush (-100), 2) := by decide +kernel
theorem dJ6_getChars_ba4f3_25 : decode cJ6_getChars_ba4f3 25 = .ok (.if_icmp .gt 47, 3) := by decide +kernel
theorem dJ6_getChars_ba4f3_28 : decode cJ6_getChars_ba4f3 28 = .ok (.iload_n 0, 1) := by decide +kernel
theorem dJ6_getChars_ba4f3_29 : decode cJ6_getChars_ba4f3 29 = .ok (.bipush 100, 2) := by decide +kernel
theorem dJ6_getChars_ba4f3_31 : decode cJ6_getChars_ba4f3 31 = .ok (.idiv, 1) := by decide +kernel
theorem dJ6_getChars_ba4f3_32 : decode cJ6_getChars_ba4f3 32 = .ok (.istore_n 3, 1) := by decide +kernel
theorem dJ6_getChars_ba4f3_33 : decode cJ6_getChars_ba4f3 33 = .ok (.iload_n 3, 1) := by decide +kernel
theorem dJ6_getChars_ba4f3_34 : decode cJ6_getChars_ba4f3 34 = .ok (.bipush 100, 2) := by decide +kernel
theorem dJ6_getChars_ba4f3_36 : decode cJ6_getChars_ba4f3 36 = .ok (.imul, 1) := by decide +kernel
theorem dJ6_getChars_ba4f3_37 : decode cJ6_getChars_ba4f3 37 = .ok (.iload_n 0, 1) := by decide +kernel
theorem dJ6_getChars_ba4f3_38 : decode cJ6_getChars_ba4f3 38 = .ok (.isub, 1) := by decide +kernel
theorem dJ6_getChars_ba4f3_39 : decode cJ6_getChars_ba4f3 39 = .ok (.istore 4, 2) := by decide +kernel
theorem dJ6_getChars_ba4f3_41 : decode cJ6_getChars_ba4f3 41 = .ok (.iload_n 3, 1) := by decide +kernel
theorem dJ6_getChars_ba4f3_42 : decode cJ6_getChars_ba4f3 42 = .ok (.istore_n 0, 1) := by decide +kernel
theorem dJ6_getChars_ba4f3_43 : decode cJ6_getChars_ba4f3 43 = .ok (.aload_n 2, 1) := by decide +kernel
theorem dJ6_getChars_ba4f3_44 : decode cJ6_getChars_ba4f3 44 = .ok (.iinc 5 (-1), 3) := by decide +kernel
theorem dJ6_getChars_ba4f3_47 : decode cJ6_getChars_ba4f3 47 = .ok (.iload 5, 2) := by decide +kernel
theorem dJ6_getChars_ba4f3_49 : decode cJ6_getChars_ba4f3 49 = .ok (.getstatic 83, 3) := by decide +kernel
theorem dJ6_getChars_ba4f3_52 : decode cJ6_getChars_ba4f3 52 = .ok (.iload 4, 2) := by decide +kernel
theorem dJ6_getChars_ba4f3_54 : decode cJ6_getChars_ba4f3 54 = .ok (.baload, 1) := by decide +kernel
theorem dJ6_getChars_ba4f3_55 : decode cJ6_getChars_ba4f3 55 = .ok (.bastore, 1) := by decide +kernel
theorem dJ6_getChars_ba4f3_56 : decode cJ6_getChars_ba4f3 56 = .ok (.aload_n 2, 1) := by decide +kernel
theorem dJ6_getChars_ba4f3_57 : decode cJ6_getChars_ba4f3 57 = .ok (.iinc 5 (-1), 3) := by decide +kernel
theorem dJ6_getChars_ba4f3_60 : decode cJ6_getChars_ba4f3 60 = .ok (.iload 5, 2) := by decide +kernel
theorem dJ6_getChars_ba4f3_62 : decode cJ6_getChars_ba4f3 62 = .ok (.getstatic 87, 3) := by decide +kernel
theorem dJ6_getChars_ba4f3_65 : decode cJ6_getChars_ba4f3 65 = .ok (.iload 4, 2) := by decide +kernel
theorem dJ6_getChars_ba4f3_67 : decode cJ6_getChars_ba4f3 67 = .ok (.baload, 1) := by decide +kernel
theorem dJ6_getChars_ba4f3_68 : decode cJ6_getChars_ba4f3 68 = .ok (.bastore, 1) := by decide +kernel
theorem dJ6_getChars_ba4f3_69 : decode cJ6_getChars_ba4f3 69 = .ok (.goto (-47), 3) := by decide +kernel
theorem dJ6_getChars_ba4f3_72 : decode cJ6_getChars_ba4f3 72 = .ok (.aload_n 2, 1) := by decide +kernel
theorem dJ6_getChars_ba4f3_73 : decode cJ6_getChars_ba4f3 73 = .ok (.iinc 5 (-1), 3) := by decide +kernel
theorem dJ6_getChars_ba4f3_76 : decode cJ6_getChars_ba4f3 76 = .ok (.iload 5, 2) := by decide +kernel
theorem dJ6_getChars_ba4f3_78 : decode cJ6_getChars_ba4f3 78 = .ok (.getstatic 83, 3) := by decide +kernel
theorem dJ6_getChars_ba4f3_81 : decode cJ6_getChars_ba4f3 81 = .ok (.iload_n 0, 1) := by decide +kernel
theorem dJ6_getChars_ba4f3_82 : decode cJ6_getChars_ba4f3 82 = .ok (.ineg, 1) := by decide +kernel
theorem dJ6_getChars_ba4f3_83 : decode cJ6_getChars_ba4f3 83 = .ok (.baload, 1) := by decide +kernel
theorem dJ6_getChars_ba4f3_84 : decode cJ6_getChars_ba4f3 84 = .ok (.bastore, 1) := by decide +kernel
theorem dJ6_getChars_ba4f3_85 : decode cJ6_getChars_ba4f3 85 = .ok (.iload_n 0, 1) := by decide +kernel
theorem dJ6_getChars_ba4f3_86 : decode cJ6_getChars_ba4f3 86 = .ok (.bipush (-9), 2) := by decide +kernel
theorem dJ6_getChars_ba4f3_88 : decode cJ6_getChars_ba4f3 88 = .ok (.if_icmp .ge 16, 3) := by decide +kernel
theorem dJ6_getChars_ba4f3_91 : decode cJ6_getChars_ba4f3 91 = .ok (.aload_n 2, 1) := by decide +kernel
theorem dJ6_getChars_ba4f3_92 : decode cJ6_getChars_ba4f3 92 = .ok (.iinc 5 (-1), 3) := by decide +kernel
theorem dJ6_getChars_ba4f3_95 : decode cJ6_getChars_ba4f3 95 = .ok (.iload 5, 2) := by decide +kernel
theorem dJ6_getChars_ba4f3_97 : decode cJ6_getChars_ba4f3 97 = .ok (.getstatic 87, 3) := by decide +kernel
theorem dJ6_getChars_ba4f3_100 : decode cJ6_getChars_ba4f3 100 = .ok (.iload_n 0, 1) := by decide +kernel
theorem dJ6_getChars_ba4f3_101 : decode cJ6_getChars_ba4f3 101 = .ok (.ineg, 1) := by decide +kernel
theorem dJ6_getChars_ba4f3_102 : decode cJ6_getChars_ba4f3 102 = .ok (.baload, 1) := by decide +kernel
theorem dJ6_getChars_ba4f3_103 : decode cJ6_getChars_ba4f3 103 = .ok (.bastore, 1) := by decide +kernel
theorem dJ6_getChars_ba4f3_104 : decode cJ6_getChars_ba4f3 104 = .ok (.iload 6, 2) := by decide +kernel
theorem dJ6_getChars_ba4f3_106 : decode cJ6_getChars_ba4f3 106 = .ok (.ifCond .eq 12, 3) := by decide +kernel
theorem dJ6_getChars_ba4f3_109 : decode cJ6_getChars_ba4f3 109 = .ok (.aload_n 2, 1) := by decide +kernel
theorem dJ6_getChars_ba4f3_110 : decode cJ6_getChars_ba4f3 110 = .ok (.iinc 5 (-1), 3) := by decide +kernel
theorem dJ6_getChars_ba4f3_113 : decode cJ6_getChars_ba4f3 113 = .ok (.iload 5, 2) := by decide +kernel
theorem dJ6_getChars_ba4f3_115 : decode cJ6_getChars_ba4f3 115 = .ok (.bipush 45, 2) := by decide +kernel
theorem dJ6_getChars_ba4f3_117 : decode cJ6_getChars_ba4f3 117 = .ok (.bastore, 1) := by decide +kernel
theorem dJ6_getChars_ba4f3_118 : decode cJ6_getChars_ba4f3 118 = .ok (.iload 5, 2) := by decide +kernel
theorem dJ6_getChars_ba4f3_120 : decode cJ6_getChars_ba4f3 120 = .ok (.ireturn, 1) := by decide +kernel
def f_J6_getChars_ba4f3_L22 (nx : Nat) (K22 : Int32 → Int32 → (Nat → Int32) → Option (Int32 × (Nat → Int32))) : Nat → Int32 → Int32 → (Nat → Int32) → Option (Int32 × (Nat → Int32))
  | 0, _, _, _ => none
  | n22 + 1, i5, i6, i7 =>
    q_br ((-100) < i6) (
  K22 i5 i6 i7) (
  q_lt (i6 / 100 : Int32) (fun v11 =>
  q_lt ((v11 * 100) - i6 : Int32) (fun v12 =>
  q_lt (i5 + (-1) : Int32) (fun v13 =>
  q_gd (q_in v12 100) (
  q_gd (q_in v13 nx) (
  q_lt (upd i7 (v13.toNatClampNeg) (vp_nar .byte (tb_ones.getD (v12.toNatClampNeg) 0))) (fun u16 =>
  q_lt (v13 + (-1) : Int32) (fun v17 =>
  q_gd (q_in v12 100) (
  q_gd (q_in v17 nx) (
  q_lt (upd u16 (v17.toNatClampNeg) (vp_nar .byte (tb_tens.getD (v12.toNatClampNeg) 0))) (fun u20 =>
  f_J6_getChars_ba4f3_L22 nx K22 n22 v17 v11 u20)))))))))))
def f_J6_getChars_ba4f3 (x_v : (Nat → Int32)) (p1 : Int32) (p2 : Int32) (nx : Nat) : Option (Int32 × (Nat → Int32)) :=
  q_lt (fun (j1 : Int32) =>
  q_lt (fun (j2 : Int32) (j3 : Int32) (j4 : (Nat → Int32)) =>
  f_J6_getChars_ba4f3_L22 nx (fun y8 y9 y10 =>
  q_lt (y8 + (-1) : Int32) (fun v21 =>
  q_gd (q_in (-y9) 100) (
  q_gd (q_in v21 nx) (
  q_lt (upd y10 (v21.toNatClampNeg) (vp_nar .byte (tb_ones.getD ((-y9).toNatClampNeg) 0))) (fun u24 =>
  q_lt (fun (j25 : Int32) (j26 : (Nat → Int32)) =>
  q_br (j1 = 0) (
  some (j25, j26)) (
  q_lt (j25 + (-1) : Int32) (fun v27 =>
  q_gd (q_in v27 nx) (
  q_lt (upd j26 (v27.toNatClampNeg) (vp_nar .byte 45)) (fun u29 =>
  some (v27, u29)))))) (fun (J104 : Int32 → (Nat → Int32) → Option (Int32 × (Nat → Int32))) =>
  q_br ((-9) ≤ y9) (
  J104 v21 u24) (
  q_lt (v21 + (-1) : Int32) (fun v30 =>
  q_gd (q_in (-y9) 100) (
  q_gd (q_in v30 nx) (
  q_lt (upd u24 (v30.toNatClampNeg) (vp_nar .byte (tb_tens.getD ((-y9).toNatClampNeg) 0))) (fun u33 =>
  J104 v30 u33))))))))))) 2000 j2 j3 j4) (fun (J22 : Int32 → Int32 → (Nat → Int32) → Option (Int32 × (Nat → Int32))) =>
  q_br (j1 = 0) (
  q_lt (-p1 : Int32) (fun v34 =>
  J22 p2 v34 x_v)) (
  J22 p2 p1 x_v))) (fun (J12 : Int32 → Option (Int32 × (Nat → Int32))) =>
  q_br (0 ≤ p1) (
  J12 0) (
  J12 1))
theorem hv_J6_getChars_ba4f3 : yJ6_getChars_ba4f3.cls = RJ6 ∧ yJ6_getChars_ba4f3.cls ≠ "java/lang/invoke/MethodHandle" ∧ yJ6_getChars_ba4f3.cls ≠ "java/lang/invoke/VarHandle" ∧ (parseMethodDescriptor yJ6_getChars_ba4f3.desc).map (fun d => d.parameters.length) = some 3 := by decide +kernel
abbrev rm_J6_getChars_ba4f3 : Room := { frames := 0, cells := 0, slots := 0, locals := 0 }
set_option maxHeartbeats 4000000 in
set_option maxRecDepth 100000 in
theorem k_J6_getChars_ba4f3 (l : Launch) (E : ET) (a : Nat → Nat) (o : Nat) (x : (Nat → Int32)) (p1 : Int32) (p2 : Int32) (nx : Nat) (res : Int32 × (Nat → Int32)) (hF : f_J6_getChars_ba4f3 x p1 p2 nx = some res) (sz : Nat) : CtI l yJ6_getChars_ba4f3 (mws yJ6_getChars_ba4f3 cJ6_getChars_ba4f3 7 (some .int)) rm_J6_getChars_ba4f3 0 0 [.int p1, .int p2, .ref (a o)] E (bl_ByteArr E a o nx x) res.1 (bl_ByteArr E a o nx res.2) sz := by
  refine mk_M (by decide +kernel) (Nat.le_of_ble_eq_true rfl) ?_
  intro p e s m below meth c A args Q ls hAe hsz hQ hx hb hr hml hin ha hown hlocks hA hz hzs hst hP hD hS hl
  have hown : s.vm.findClass RJ6 = some m.cls := hown
  rw [hAe] at hQ
  subst hsz
  have hP : va_P E.1 vwCl (List.flatten [w_ByteArr E a o nx x]) s.heap := hP
  have hD : va_D A (List.flatten [w_ByteArr E a o nx x]) := hD
  have hl : lv_has ls 7 [(0, .int p1), (1, .int p2), (2, .ref (a o))] := hl
  generalize hHe : s.heap = H at hP
  have hS : va_S A s.heap H [] := by rw [← hHe]; exact hS
  generalize ([] : List Loc) = locs at hS ⊢
  unfold f_J6_getChars_ba4f3 at hF
  refine lv_iload_n hx hb dJ6_getChars_ba4f3_0 rfl (lv_at hl 1 rfl) ?_
  refine lv_istore (lv' := [(5, .int p2), (0, .int p1), (1, .int p2), (2, .ref (a o))]) hx hb dJ6_getChars_ba4f3_1 hl (by decide) rfl (fun ls hl => ?_)
  refine lv_iload_n hx hb dJ6_getChars_ba4f3_3 rfl (lv_at hl 1 rfl) ?_
  obtain ⟨J12, hJ12, hF⟩ := q_jn hF
  have jJ12 : ∀ (j1 : Int32), ∀ (H : Heap) (locs : List Loc) (ls : Array Slot), J12 j1 = some res → va_P E.1 vwCl (List.flatten [w_ByteArr E a o nx x]) H → va_D A (List.flatten [w_ByteArr E a o nx x]) → va_S A s.heap H locs → lv_has ls 7 [(5, .int p2), (0, .int p1), (2, .ref (a o))] → W p l e rm_J6_getChars_ba4f3 s m args below meth c H locs 0 0 Q (F0 m 12 ls [.int j1]) := by
    intro j1 H locs ls hF hP hD hS hl
    rw [hJ12] at hF
    refine lv_istore (lv' := [(6, .int j1), (5, .int p2), (0, .int p1), (2, .ref (a o))]) hx hb dJ6_getChars_ba4f3_12 hl (by decide) rfl (fun ls hl => ?_)
    refine lv_iload hx hb dJ6_getChars_ba4f3_14 (lv_at hl 0 rfl) ?_
    obtain ⟨J22, hJ22, hF⟩ := q_jn hF
    have jJ22 : ∀ (j2 : Int32) (j3 : Int32) (j4 : (Nat → Int32)), ∀ (H : Heap) (locs : List Loc) (ls : Array Slot), J22 j2 j3 j4 = some res → va_P E.1 vwCl (List.flatten [w_ByteArr E a o nx j4]) H → va_D A (List.flatten [w_ByteArr E a o nx j4]) → va_S A s.heap H locs → lv_has ls 7 [(6, .int j1), (5, .int j2), (0, .int j3), (2, .ref (a o))] → W p l e rm_J6_getChars_ba4f3 s m args below meth c H locs 0 0 Q (F0 m 22 ls []) := by
      intro j2 j3 j4 H locs ls hF hP hD hS hl
      rw [hJ22] at hF
      have key22 : ∀ (K : Int32 → Int32 → (Nat → Int32) → Option (Int32 × (Nat → Int32))), (∀ (y8 : Int32) (y9 : Int32) (y10 : (Nat → Int32)) (H : Heap) (locs : List Loc) (ls : Array Slot), K y8 y9 y10 = some res → va_P E.1 vwCl (List.flatten [w_ByteArr E a o nx y10]) H → va_D A (List.flatten [w_ByteArr E a o nx y10]) → va_S A s.heap H locs → lv_has ls 7 [(6, .int j1), (5, .int y8), (0, .int y9), (2, .ref (a o))] → W p l e rm_J6_getChars_ba4f3 s m args below meth c H locs 0 0 Q (F0 m 72 ls [])) → ∀ (n : Nat) (i5 : Int32) (i6 : Int32) (i7 : (Nat → Int32)) (H : Heap) (locs : List Loc) (ls : Array Slot), f_J6_getChars_ba4f3_L22 nx K n i5 i6 i7 = some res → va_P E.1 vwCl (List.flatten [w_ByteArr E a o nx i7]) H → va_D A (List.flatten [w_ByteArr E a o nx i7]) → va_S A s.heap H locs → lv_has ls 7 [(6, .int j1), (5, .int i5), (0, .int i6), (2, .ref (a o))] → W p l e rm_J6_getChars_ba4f3 s m args below meth c H locs 0 0 Q (F0 m 22 ls []) := by
        intro K22 hK22 n22
        induction n22 with
        | zero => intro i5 i6 i7 H locs ls hF; exact absurd hF (by simp [f_J6_getChars_ba4f3_L22])
        | succ n22 ih22 =>
          intro i5 i6 i7 H locs ls hF hP hD hS hl
          rw [f_J6_getChars_ba4f3_L22] at hF
          refine lv_iload_n hx hb dJ6_getChars_ba4f3_22 rfl (lv_at hl 2 rfl) ?_
          refine lv_bipush (v := (-100)) hx hb dJ6_getChars_ba4f3_23 (by decide) ?_
          refine lv_icmp_gt (tgt := 72) hx hb dJ6_getChars_ba4f3_25 (by decide) (fun c25 => ?_) (fun c25 => ?_)
          · have hF := q_brp c25 hF
            exact hK22 i5 i6 i7 H locs ls hF hP hD hS (lv_sub hl [0, 1, 2, 3] rfl)
          · have hF := q_brn c25 hF
            refine lv_iload_n hx hb dJ6_getChars_ba4f3_28 rfl (lv_at hl 2 rfl) ?_
            refine lv_bipush (v := 100) hx hb dJ6_getChars_ba4f3_29 (by decide) ?_
            refine lv_idiv hx hb dJ6_getChars_ba4f3_31 (by decide) ?_
            refine lv_topi (fun v11 ev11 => ?_)
            have hF := q_lti ev11 hF
            refine lv_istore_n (lv' := [(3, .int v11), (6, .int j1), (5, .int i5), (0, .int i6), (2, .ref (a o))]) hx hb dJ6_getChars_ba4f3_32 rfl hl (by decide) rfl (fun ls hl => ?_)
            refine lv_iload_n hx hb dJ6_getChars_ba4f3_33 rfl (lv_at hl 0 rfl) ?_
            refine lv_bipush (v := 100) hx hb dJ6_getChars_ba4f3_34 (by decide) ?_
            refine lv_imul hx hb dJ6_getChars_ba4f3_36 ?_
            refine lv_iload_n hx hb dJ6_getChars_ba4f3_37 rfl (lv_at hl 3 rfl) ?_
            refine lv_isub hx hb dJ6_getChars_ba4f3_38 ?_
            refine lv_topi (fun v12 ev12 => ?_)
            have hF := q_lti ev12 hF
            refine lv_istore (lv' := [(4, .int v12), (3, .int v11), (6, .int j1), (5, .int i5), (0, .int i6), (2, .ref (a o))]) hx hb dJ6_getChars_ba4f3_39 hl (by decide) rfl (fun ls hl => ?_)
            refine lv_iload_n hx hb dJ6_getChars_ba4f3_41 rfl (lv_at hl 1 rfl) ?_
            refine lv_istore_n (lv' := [(0, .int v11), (4, .int v12), (3, .int v11), (6, .int j1), (5, .int i5), (2, .ref (a o))]) hx hb dJ6_getChars_ba4f3_42 rfl hl (by decide) rfl (fun ls hl => ?_)
            refine lv_aload_n hx hb dJ6_getChars_ba4f3_43 rfl (lv_at hl 5 rfl) ?_
            obtain ⟨v13, ev13⟩ : ∃ y : Int32, y = i5 + (-1) := ⟨_, rfl⟩
            have hF := q_lti ev13 hF
            refine lv_iinc (v := v13) (lv' := [(5, .int v13), (0, .int v11), (4, .int v12), (3, .int v11), (6, .int j1), (2, .ref (a o))]) hx hb dJ6_getChars_ba4f3_44 hl (k := 4) rfl (by rw [ev13]; rfl) (by decide) rfl (fun ls hl => ?_)
            refine lv_iload hx hb dJ6_getChars_ba4f3_47 (lv_at hl 0 rfl) ?_
            refine va_gets (v := .ref (E.2 17)) hx hb (sz7 hst hz) hS hown (ha _ mw710) (fun _ h9 => h9) dJ6_getChars_ba4f3_49 ?_
            refine lv_iload hx hb dJ6_getChars_ba4f3_52 (lv_at hl 2 rfl) ?_
            obtain ⟨g14, hF⟩ := q_gdi hF
            refine vi_tby (E := E) (k := v12.toNatClampNeg) hx hb hst (mt7 E) hz hS rfl g14 dJ6_getChars_ba4f3_54 ?_
            obtain ⟨g15, hF⟩ := q_gdi hF
            refine vj_bast hx hb hst.k hP hD hS 0 2 rfl rfl (f := i7) (k := v13.toNatClampNeg) rfl g15 dJ6_getChars_ba4f3_55 (fun u16 eu16 H locs hP hD hS => ?_)
            have hF := q_lti eu16 hF
            have hP : va_P E.1 vwCl (List.flatten [w_ByteArr E a o nx u16]) H := hP
            have hD : va_D A (List.flatten [w_ByteArr E a o nx u16]) := hD
            refine lv_aload_n hx hb dJ6_getChars_ba4f3_56 rfl (lv_at hl 5 rfl) ?_
            obtain ⟨v17, ev17⟩ : ∃ y : Int32, y = v13 + (-1) := ⟨_, rfl⟩
            have hF := q_lti ev17 hF
            refine lv_iinc (v := v17) (lv' := [(5, .int v17), (0, .int v11), (4, .int v12), (3, .int v11), (6, .int j1), (2, .ref (a o))]) hx hb dJ6_getChars_ba4f3_57 hl (k := 0) rfl (by rw [ev17]; rfl) (by decide) rfl (fun ls hl => ?_)
            refine lv_iload hx hb dJ6_getChars_ba4f3_60 (lv_at hl 0 rfl) ?_
            refine va_gets (v := .ref (E.2 16)) hx hb (sz6 hst hz) hS hown (ha _ mw712) (fun _ h9 => h9) dJ6_getChars_ba4f3_62 ?_
            refine lv_iload hx hb dJ6_getChars_ba4f3_65 (lv_at hl 2 rfl) ?_
            obtain ⟨g18, hF⟩ := q_gdi hF
            refine vi_tby (E := E) (k := v12.toNatClampNeg) hx hb hst (mt6 E) hz hS rfl g18 dJ6_getChars_ba4f3_67 ?_
            obtain ⟨g19, hF⟩ := q_gdi hF
            refine vj_bast hx hb hst.k hP hD hS 0 2 rfl rfl (f := u16) (k := v17.toNatClampNeg) rfl g19 dJ6_getChars_ba4f3_68 (fun u20 eu20 H locs hP hD hS => ?_)
            have hF := q_lti eu20 hF
            have hP : va_P E.1 vwCl (List.flatten [w_ByteArr E a o nx u20]) H := hP
            have hD : va_D A (List.flatten [w_ByteArr E a o nx u20]) := hD
            refine lv_goto (tgt := 22) hx hb dJ6_getChars_ba4f3_69 (by decide) ?_
            exact ih22 v17 v11 u20 H locs ls hF hP hD hS (lv_sub hl [4, 0, 1, 5] rfl)
      refine key22 _ ?_ _ j2 j3 j4 H locs ls hF hP hD hS (lv_sub hl [0, 1, 2, 3] rfl)
      intro y8 y9 y10 H locs ls hF hP hD hS hl
      refine lv_aload_n hx hb dJ6_getChars_ba4f3_72 rfl (lv_at hl 3 rfl) ?_
      obtain ⟨v21, ev21⟩ : ∃ y : Int32, y = y8 + (-1) := ⟨_, rfl⟩
      have hF := q_lti ev21 hF
      refine lv_iinc (v := v21) (lv' := [(5, .int v21), (6, .int j1), (0, .int y9), (2, .ref (a o))]) hx hb dJ6_getChars_ba4f3_73 hl (k := 1) rfl (by rw [ev21]; rfl) (by decide) rfl (fun ls hl => ?_)
      refine lv_iload hx hb dJ6_getChars_ba4f3_76 (lv_at hl 0 rfl) ?_
      refine va_gets (v := .ref (E.2 17)) hx hb (sz7 hst hz) hS hown (ha _ mw710) (fun _ h9 => h9) dJ6_getChars_ba4f3_78 ?_
      refine lv_iload_n hx hb dJ6_getChars_ba4f3_81 rfl (lv_at hl 2 rfl) ?_
      refine lv_ineg hx hb dJ6_getChars_ba4f3_82 ?_
      obtain ⟨g22, hF⟩ := q_gdi hF
      refine vi_tby (E := E) (k := (-y9).toNatClampNeg) hx hb hst (mt7 E) hz hS rfl g22 dJ6_getChars_ba4f3_83 ?_
      obtain ⟨g23, hF⟩ := q_gdi hF
      refine vj_bast hx hb hst.k hP hD hS 0 2 rfl rfl (f := y10) (k := v21.toNatClampNeg) rfl g23 dJ6_getChars_ba4f3_84 (fun u24 eu24 H locs hP hD hS => ?_)
      have hF := q_lti eu24 hF
      have hP : va_P E.1 vwCl (List.flatten [w_ByteArr E a o nx u24]) H := hP
      have hD : va_D A (List.flatten [w_ByteArr E a o nx u24]) := hD
      refine lv_iload_n hx hb dJ6_getChars_ba4f3_85 rfl (lv_at hl 2 rfl) ?_
      refine lv_bipush (v := (-9)) hx hb dJ6_getChars_ba4f3_86 (by decide) ?_
      obtain ⟨J104, hJ104, hF⟩ := q_jn hF
      have jJ104 : ∀ (j25 : Int32) (j26 : (Nat → Int32)), ∀ (H : Heap) (locs : List Loc) (ls : Array Slot), J104 j25 j26 = some res → va_P E.1 vwCl (List.flatten [w_ByteArr E a o nx j26]) H → va_D A (List.flatten [w_ByteArr E a o nx j26]) → va_S A s.heap H locs → lv_has ls 7 [(5, .int j25), (6, .int j1), (2, .ref (a o))] → W p l e rm_J6_getChars_ba4f3 s m args below meth c H locs 0 0 Q (F0 m 104 ls []) := by
        intro j25 j26 H locs ls hF hP hD hS hl
        rw [hJ104] at hF
        refine lv_iload hx hb dJ6_getChars_ba4f3_104 (lv_at hl 1 rfl) ?_
        refine lv_if_eq (tgt := 118) hx hb dJ6_getChars_ba4f3_106 (by decide) (fun c106 => ?_) (fun c106 => ?_)
        · have hF := q_brp c106 hF
          refine lv_iload hx hb dJ6_getChars_ba4f3_118 (lv_at hl 0 rfl) ?_
          obtain rfl := Option.some.inj hF
          exact en_i hQ (Nat.le_of_ble_eq_true rfl) (Nat.le_of_ble_eq_true rfl) hx hb hr hlocks hP hD hS rfl dJ6_getChars_ba4f3_120
        · have hF := q_brn c106 hF
          refine lv_aload_n hx hb dJ6_getChars_ba4f3_109 rfl (lv_at hl 2 rfl) ?_
          obtain ⟨v27, ev27⟩ : ∃ y : Int32, y = j25 + (-1) := ⟨_, rfl⟩
          have hF := q_lti ev27 hF
          refine lv_iinc (v := v27) (lv' := [(5, .int v27), (6, .int j1), (2, .ref (a o))]) hx hb dJ6_getChars_ba4f3_110 hl (k := 0) rfl (by rw [ev27]; rfl) (by decide) rfl (fun ls hl => ?_)
          refine lv_iload hx hb dJ6_getChars_ba4f3_113 (lv_at hl 0 rfl) ?_
          refine lv_bipush (v := 45) hx hb dJ6_getChars_ba4f3_115 (by decide) ?_
          obtain ⟨g28, hF⟩ := q_gdi hF
          refine vj_bast hx hb hst.k hP hD hS 0 2 rfl rfl (f := j26) (k := v27.toNatClampNeg) rfl g28 dJ6_getChars_ba4f3_117 (fun u29 eu29 H locs hP hD hS => ?_)
          have hF := q_lti eu29 hF
          have hP : va_P E.1 vwCl (List.flatten [w_ByteArr E a o nx u29]) H := hP
          have hD : va_D A (List.flatten [w_ByteArr E a o nx u29]) := hD
          refine lv_iload hx hb dJ6_getChars_ba4f3_118 (lv_at hl 0 rfl) ?_
          obtain rfl := Option.some.inj hF
          exact en_i hQ (Nat.le_of_ble_eq_true rfl) (Nat.le_of_ble_eq_true rfl) hx hb hr hlocks hP hD hS rfl dJ6_getChars_ba4f3_120
      refine lv_icmp_ge (tgt := 104) hx hb dJ6_getChars_ba4f3_88 (by decide) (fun c88 => ?_) (fun c88 => ?_)
      · have hF := q_brp c88 hF
        exact jJ104 v21 u24 H locs ls hF hP hD hS (lv_sub hl [0, 1, 3] rfl)
      · have hF := q_brn c88 hF
        refine lv_aload_n hx hb dJ6_getChars_ba4f3_91 rfl (lv_at hl 3 rfl) ?_
        obtain ⟨v30, ev30⟩ : ∃ y : Int32, y = v21 + (-1) := ⟨_, rfl⟩
        have hF := q_lti ev30 hF
        refine lv_iinc (v := v30) (lv' := [(5, .int v30), (6, .int j1), (0, .int y9), (2, .ref (a o))]) hx hb dJ6_getChars_ba4f3_92 hl (k := 0) rfl (by rw [ev30]; rfl) (by decide) rfl (fun ls hl => ?_)
        refine lv_iload hx hb dJ6_getChars_ba4f3_95 (lv_at hl 0 rfl) ?_
        refine va_gets (v := .ref (E.2 16)) hx hb (sz6 hst hz) hS hown (ha _ mw712) (fun _ h9 => h9) dJ6_getChars_ba4f3_97 ?_
        refine lv_iload_n hx hb dJ6_getChars_ba4f3_100 rfl (lv_at hl 2 rfl) ?_
        refine lv_ineg hx hb dJ6_getChars_ba4f3_101 ?_
        obtain ⟨g31, hF⟩ := q_gdi hF
        refine vi_tby (E := E) (k := (-y9).toNatClampNeg) hx hb hst (mt6 E) hz hS rfl g31 dJ6_getChars_ba4f3_102 ?_
        obtain ⟨g32, hF⟩ := q_gdi hF
        refine vj_bast hx hb hst.k hP hD hS 0 2 rfl rfl (f := u24) (k := v30.toNatClampNeg) rfl g32 dJ6_getChars_ba4f3_103 (fun u33 eu33 H locs hP hD hS => ?_)
        have hF := q_lti eu33 hF
        have hP : va_P E.1 vwCl (List.flatten [w_ByteArr E a o nx u33]) H := hP
        have hD : va_D A (List.flatten [w_ByteArr E a o nx u33]) := hD
        exact jJ104 v30 u33 H locs ls hF hP hD hS (lv_sub hl [0, 1, 3] rfl)
    refine lv_if_ne (tgt := 22) hx hb dJ6_getChars_ba4f3_16 (by decide) (fun c16 => ?_) (fun c16 => ?_)
    · have hF := q_brn c16 hF
      exact jJ22 p2 p1 x H locs ls hF hP hD hS (lv_sub hl [0, 1, 2, 3] rfl)
    · have hF := q_brp c16 hF
      refine lv_iload_n hx hb dJ6_getChars_ba4f3_19 rfl (lv_at hl 2 rfl) ?_
      refine lv_ineg hx hb dJ6_getChars_ba4f3_20 ?_
      refine lv_topi (fun v34 ev34 => ?_)
      have hF := q_lti ev34 hF
      refine lv_istore_n (lv' := [(0, .int v34), (6, .int j1), (5, .int p2), (2, .ref (a o))]) hx hb dJ6_getChars_ba4f3_21 rfl hl (by decide) rfl (fun ls hl => ?_)
      exact jJ22 p2 v34 x H locs ls hF hP hD hS (lv_sub hl [1, 2, 0, 3] rfl)
  refine lv_if_ge (tgt := 11) hx hb dJ6_getChars_ba4f3_4 (by decide) (fun c4 => ?_) (fun c4 => ?_)
  · have hF := q_brp c4 hF
    refine lv_iconst (v := 0) hx hb dJ6_getChars_ba4f3_11 (by decide) ?_
    exact jJ12 0 H locs ls hF hP hD hS (lv_sub hl [0, 1, 3] rfl)
  · have hF := q_brn c4 hF
    refine lv_iconst (v := 1) hx hb dJ6_getChars_ba4f3_7 (by decide) ?_
    refine lv_goto (tgt := 12) hx hb dJ6_getChars_ba4f3_8 (by decide) ?_
    exact jJ12 1 H locs ls hF hP hD hS (lv_sub hl [0, 1, 3] rfl)

/-! J5_append_c97b9 -/
theorem dJ5_append_c97b9_0 : decode cJ5_append_c97b9 0 = .ok (.aload_n 0, 1) := by decide +kernel
theorem dJ5_append_c97b9_1 : decode cJ5_append_c97b9 1 = .ok (.getfield 79, 3) := by decide +kernel
theorem dJ5_append_c97b9_4 : decode cJ5_append_c97b9 4 = .ok (.istore_n 2, 1) := by decide +kernel
theorem dJ5_append_c97b9_5 : decode cJ5_append_c97b9 5 = .ok (.iload_n 2, 1) := by decide +kernel
theorem dJ5_append_c97b9_6 : decode cJ5_append_c97b9 6 = .ok (.iload_n 1, 1) := by decide +kernel
theorem dJ5_append_c97b9_7 : decode cJ5_append_c97b9 7 = .ok (.invokestatic 245, 3) := by decide +kernel
theorem dJ5_append_c97b9_10 : decode cJ5_append_c97b9 10 = .ok (.iadd, 1) := by decide +kernel
theorem dJ5_append_c97b9_11 : decode cJ5_append_c97b9 11 = .ok (.istore_n 3, 1) := by decide +kernel
theorem dJ5_append_c97b9_12 : decode cJ5_append_c97b9 12 = .ok (.aload_n 0, 1) := by decide +kernel
theorem dJ5_append_c97b9_13 : decode cJ5_append_c97b9 13 = .ok (.iload_n 3, 1) := by decide +kernel
theorem dJ5_append_c97b9_14 : decode cJ5_append_c97b9 14 = .ok (.invokevirtual 100, 3) := by decide +kernel
theorem dJ5_append_c97b9_17 : decode cJ5_append_c97b9 17 = .ok (.aload_n 0, 1) := by decide +kernel
theorem dJ5_append_c97b9_18 : decode cJ5_append_c97b9 18 = .ok (.invokevirtual 83, 3) := by decide +kernel
theorem dJ5_append_c97b9_21 : decode cJ5_append_c97b9 21 = .ok (.ifCond .eq 16, 3) := by decide +kernel
theorem dJ5_append_c97b9_24 : decode cJ5_append_c97b9 24 = .ok (.iload_n 1, 1) := by decide +kernel
theorem dJ5_append_c97b9_25 : decode cJ5_append_c97b9 25 = .ok (.iload_n 3, 1) := by decide +kernel
theorem dJ5_append_c97b9_26 : decode cJ5_append_c97b9 26 = .ok (.aload_n 0, 1) := by decide +kernel
theorem dJ5_append_c97b9_27 : decode cJ5_append_c97b9 27 = .ok (.getfield 15, 3) := by decide +kernel
theorem dJ5_append_c97b9_30 : decode cJ5_append_c97b9 30 = .ok (.invokestatic 248, 3) := by decide +kernel
theorem dJ5_append_c97b9_33 : decode cJ5_append_c97b9 33 = .ok (.pop, 1) := by decide +kernel
theorem dJ5_append_c97b9_34 : decode cJ5_append_c97b9 34 = .ok (.goto 14, 3) := by decide +kernel
theorem dJ5_append_c97b9_48 : decode cJ5_append_c97b9 48 = .ok (.aload_n 0, 1) := by decide +kernel
theorem dJ5_append_c97b9_49 : decode cJ5_append_c97b9 49 = .ok (.iload_n 3, 1) := by decide +kernel
theorem dJ5_append_c97b9_50 : decode cJ5_append_c97b9 50 = .ok (.putfield 79, 3) := by decide +kernel
theorem dJ5_append_c97b9_53 : decode cJ5_append_c97b9 53 = .ok (.aload_n 0, 1) := by decide +kernel
theorem dJ5_append_c97b9_54 : decode cJ5_append_c97b9 54 = .ok (.areturn, 1) := by decide +kernel
def f_J5_append_c97b9 (x_value : (Nat → Int32)) (x_cap : Nat) (x_count : Int32) (p1 : Int32) : Option ((Nat → Int32) × Nat × Int32) :=
  q_bd (f_J6_stringSize_0f7a4 p1) (fun q1 =>
  q_lt (x_count + q1 : Int32) (fun v2 =>
  q_bd (f_J5_ensureCapacityInternal_d00df x_value x_cap v2) (fun q3 =>
  q_bd (f_J5_isLatin1_aae02) (fun q5 =>
  q_br (q5 = 0) (
  none) (
  q_bd (f_J6_getChars_ba4f3 q3.1 p1 v2 q3.2) (fun q6 =>
  some (q6.2, q3.2, v2)))))))
theorem hv_J5_append_c97b9 : yJ5_append_c97b9.cls = RJ5 ∧ yJ5_append_c97b9.cls ≠ "java/lang/invoke/MethodHandle" ∧ yJ5_append_c97b9.cls ≠ "java/lang/invoke/VarHandle" ∧ (parseMethodDescriptor yJ5_append_c97b9.desc).map (fun d => d.parameters.length) = some 1 := by decide +kernel
abbrev rm_J5_append_c97b9 : Room := { frames := 4, cells := 1, slots := 100, locals := 104 }
set_option maxHeartbeats 4000000 in
set_option maxRecDepth 100000 in
theorem k_J5_append_c97b9 (l : Launch) (E : ET) (a : Nat → Nat) (o : Nat) (x : Line_t) (p1 : Int32) (res : (Nat → Int32) × Nat × Int32) (hF : f_J5_append_c97b9 x.1 x.2.1 x.2.2.2.2 p1 = some res) (sz : Nat) : CtgR l yJ5_append_c97b9 (mws yJ5_append_c97b9 cJ5_append_c97b9 4 (some (.object "java/lang/AbstractStringBuilder"))) rm_J5_append_c97b9 1 100 [.ref (a o), .int p1] E (bl_Line E a o x) (a o) (fun ad : Nat => bl_Line E a o (res.1, res.2.1, ad, x.2.2.2.1, res.2.2)) sz := by
  refine mk_M (by decide +kernel) (Nat.le_of_ble_eq_true rfl) ?_
  intro p e s m below meth c A args Q ls hAe hsz hQ hx hb hr hml hin ha hown hlocks hA hz hzs hst hP hD hS hl
  have hown : s.vm.findClass RJ5 = some m.cls := hown
  rw [hAe] at hQ
  subst hsz
  have hP : va_P E.1 vwCl (List.flatten [w_Line E a o x]) s.heap := hP
  have hD : va_D A (List.flatten [w_Line E a o x]) := hD
  have hl : lv_has ls 4 [(0, .ref (a o)), (1, .int p1)] := hl
  generalize hHe : s.heap = H at hP
  have hS : va_S A s.heap H [] := by rw [← hHe]; exact hS
  generalize ([] : List Loc) = locs at hS ⊢
  unfold f_J5_append_c97b9 at hF
  refine lv_aload_n hx hb dJ5_append_c97b9_0 rfl (lv_at hl 0 rfl) ?_
  refine va_get (D := E.1) (ci := 1) (v := .int x.2.2.2.2) (C := RJ4) (T := TJ4) (N := 4) hx hb ha in_J4 hown hst.k hP 0 rfl rfl 3 (by decide) (ha _ mw330) (fun _ h9 => h9) rfl dJ5_append_c97b9_1 ?_
  refine lv_istore_n (lv' := [(2, .int x.2.2.2.2), (0, .ref (a o)), (1, .int p1)]) hx hb dJ5_append_c97b9_4 rfl hl (by decide) rfl (fun ls hl => ?_)
  refine lv_iload_n hx hb dJ5_append_c97b9_5 rfl (lv_at hl 0 rfl) ?_
  refine lv_iload_n hx hb dJ5_append_c97b9_6 rfl (lv_at hl 2 rfl) ?_
  obtain ⟨q1, hq1, hF⟩ := q_bdi hF
  refine cl_i (Lc := []) (Lc' := []) (L' := [w_Line E a o x]) (rv := q1) (va_runS (As := [.int p1]) (rest := [.int x.2.2.2.2]) ⟨hx, hb, hml, hown, ha⟩ (k_J6_stringSize_0f7a4 l E p1 q1 hq1 H.size) (va_cwS 1 ha (gi_T (fun _ h => h) mw704 mw705 mw109 mw706) rfl rfl rfl hv_J6_stringSize_0f7a4.2 ⟨(Nat.le_of_ble_eq_true rfl), (Nat.le_of_ble_eq_true rfl)⟩) ⟨pre_blind, pre_at hP hD hS hz hzs hst [] (by decide) rfl rfl⟩ rfl rfl hl.1 rfl (lv_room (Nat.le_of_ble_eq_true rfl)) dJ5_append_c97b9_7 ⟨(Nat.le_of_ble_eq_true rfl), (Nat.le_of_ble_eq_true rfl)⟩) hP hD hS hA [] (by decide) rfl rfl rfl rfl (fun H locs hP hD hS => ?_)
  refine lv_iadd hx hb dJ5_append_c97b9_10 ?_
  refine lv_topi (fun v2 ev2 => ?_)
  have hF := q_lti ev2 hF
  refine lv_istore_n (lv' := [(3, .int v2), (2, .int x.2.2.2.2), (0, .ref (a o)), (1, .int p1)]) hx hb dJ5_append_c97b9_11 rfl hl (by decide) rfl (fun ls hl => ?_)
  refine lv_aload_n hx hb dJ5_append_c97b9_12 rfl (lv_at hl 2 rfl) ?_
  refine lv_iload_n hx hb dJ5_append_c97b9_13 rfl (lv_at hl 0 rfl) ?_
  obtain ⟨q3, hq3, hF⟩ := q_bdi hF
  refine cl_gv (Lc := [w_Line E a o x]) (Lc' := fun gh4 => [w_Line E a o (q3.1, q3.2, gh4, x.2.2.2.1, x.2.2.2.2)]) (L' := fun gh4 => [w_Line E a o (q3.1, q3.2, gh4, x.2.2.2.1, x.2.2.2.2)]) (va_runU (As := [.int v2]) (rest := []) ⟨hx, hb, hml, hown, ha⟩ (k_J5_ensureCapacityInternal_d00df l E a o x v2 q3 hq3 H.size) (va_cwU 1 ha (gi_U (fun _ h => h) mw588 mw2127 mwX0 mw590 mw83 mw591) rfl rfl rfl rfl hv_J5_ensureCapacityInternal_d00df.2 ⟨(Nat.le_of_ble_eq_true rfl), (Nat.le_of_ble_eq_true rfl)⟩) ⟨pre_blind, va_recv hst.k (fr_P hP [0] rfl) (ci := 1) (q0 := 0) rfl rfl, pre_at hP hD hS hz hzs hst [0] (by decide) rfl rfl⟩ rfl rfl hl.1 rfl (lv_room (Nat.le_of_ble_eq_true rfl)) dJ5_append_c97b9_14 ⟨(Nat.le_of_ble_eq_true rfl), (Nat.le_of_ble_eq_true rfl)⟩) hP hD hS hA [0] (by decide) rfl rfl (fun _ => rfl) (fun _ => rfl) (fun gh4 H locs hP hD hS => ?_)
  refine lv_aload_n hx hb dJ5_append_c97b9_17 rfl (lv_at hl 2 rfl) ?_
  obtain ⟨q5, hq5, hF⟩ := q_bdi hF
  refine cl_i (Lc := [w_Line E a o (q3.1, q3.2, gh4, x.2.2.2.1, x.2.2.2.2)]) (Lc' := [w_Line E a o (q3.1, q3.2, gh4, x.2.2.2.1, x.2.2.2.2)]) (L' := [w_Line E a o (q3.1, q3.2, gh4, x.2.2.2.1, x.2.2.2.2)]) (rv := q5) (va_runU (As := []) (rest := []) ⟨hx, hb, hml, hown, ha⟩ (k_J5_isLatin1_aae02 l E a o (q3.1, q3.2, gh4, x.2.2.2.1, x.2.2.2.2) q5 hq5 H.size) (va_cwU 0 ha (gi_U (fun _ h => h) mw623 mw625 mw626 mw624 mw83 mw627) rfl rfl rfl rfl hv_J5_isLatin1_aae02.2 ⟨(Nat.le_of_ble_eq_true rfl), (Nat.le_of_ble_eq_true rfl)⟩) ⟨pre_blind, va_recv hst.k (fr_P hP [0] rfl) (ci := 1) (q0 := 0) rfl rfl, pre_at hP hD hS hz hzs hst [0] (by decide) rfl rfl⟩ rfl rfl hl.1 rfl (lv_room (Nat.le_of_ble_eq_true rfl)) dJ5_append_c97b9_18 ⟨(Nat.le_of_ble_eq_true rfl), (Nat.le_of_ble_eq_true rfl)⟩) hP hD hS hA [0] (by decide) rfl rfl rfl rfl (fun H locs hP hD hS => ?_)
  refine lv_if_eq (tgt := 37) hx hb dJ5_append_c97b9_21 (by decide) (fun c21 => ?_) (fun c21 => ?_)
  · have hF := q_brp c21 hF
    exact absurd hF (by simp)
  · have hF := q_brn c21 hF
    refine lv_iload_n hx hb dJ5_append_c97b9_24 rfl (lv_at hl 3 rfl) ?_
    refine lv_iload_n hx hb dJ5_append_c97b9_25 rfl (lv_at hl 0 rfl) ?_
    refine lv_aload_n hx hb dJ5_append_c97b9_26 rfl (lv_at hl 2 rfl) ?_
    refine va_get (D := E.1) (ci := 1) (v := .ref gh4) (C := RJ4) (T := TJ4) (N := 4) hx hb ha in_J4 hown hst.k hP 0 rfl rfl 0 (by decide) (ha _ mw326) (fun _ h9 => h9) rfl dJ5_append_c97b9_27 ?_
    have hP : va_P E.1 vwCl (List.flatten [[(a o, .inr (1, [.ref gh4, .int 0, .int x.2.2.2.1, .int x.2.2.2.2]))], [(gh4, .inl (E.2 3, q3.2, .inl q3.1))]]) H := hP
    have hD : va_D A (List.flatten [[(a o, .inr (1, [.ref gh4, .int 0, .int x.2.2.2.1, .int x.2.2.2.2]))], [(gh4, .inl (E.2 3, q3.2, .inl q3.1))]]) := hD
    obtain ⟨q6, hq6, hF⟩ := q_bdi hF
    refine cl_i (Lc := [[(gh4, .inl (E.2 3, q3.2, .inl q3.1))]]) (Lc' := [[(gh4, .inl (E.2 3, q3.2, .inl q6.2))]]) (L' := [[(a o, .inr (1, [.ref gh4, .int 0, .int x.2.2.2.1, .int x.2.2.2.2]))], [(gh4, .inl (E.2 3, q3.2, .inl q6.2))]]) (rv := q6.1) (va_runS (As := [.int p1, .int v2, .ref gh4]) (rest := []) ⟨hx, hb, hml, hown, ha⟩ (k_J6_getChars_ba4f3 l E (fun _ => gh4) 0 q3.1 p1 v2 q3.2 q6 hq6 H.size) (va_cwS 3 ha (gi_T (fun _ h => h) mw707 mw708 mw109 mw709) rfl rfl rfl hv_J6_getChars_ba4f3.2 ⟨(Nat.le_of_ble_eq_true rfl), (Nat.le_of_ble_eq_true rfl)⟩) ⟨pre_blind, pre_at hP hD hS hz hzs hst [1] (by decide) rfl rfl⟩ rfl rfl hl.1 rfl (lv_room (Nat.le_of_ble_eq_true rfl)) dJ5_append_c97b9_30 ⟨(Nat.le_of_ble_eq_true rfl), (Nat.le_of_ble_eq_true rfl)⟩) hP hD hS hA [1] (by decide) rfl rfl rfl rfl (fun H locs hP hD hS => ?_)
    have hP : va_P E.1 vwCl (List.flatten [w_Line E a o (q6.2, q3.2, gh4, x.2.2.2.1, x.2.2.2.2)]) H := hP
    have hD : va_D A (List.flatten [w_Line E a o (q6.2, q3.2, gh4, x.2.2.2.1, x.2.2.2.2)]) := hD
    refine lv_pop hx hb dJ5_append_c97b9_33 rfl ?_
    refine lv_goto (tgt := 48) hx hb dJ5_append_c97b9_34 (by decide) ?_
    refine lv_aload_n hx hb dJ5_append_c97b9_48 rfl (lv_at hl 2 rfl) ?_
    refine lv_iload_n hx hb dJ5_append_c97b9_49 rfl (lv_at hl 0 rfl) ?_
    refine va_put (D := E.1) (ci := 1) (v := .int v2) (ty := .int) (C := RJ4) (T := TJ4) (N := 4) hx hb ha in_J4 tyJ4 tyJ4_ok nmJ4 hown hst.k hP hD hS 0 rfl rfl 3 (by decide) (ha _ mw330) (fun _ h9 => h9) rfl (tyJ4_ok 3 (by decide)) rfl rfl (Nat.le_of_ble_eq_true rfl) dJ5_append_c97b9_50 (fun H locs hP hD hS => ?_)
    have hP : va_P E.1 vwCl (List.flatten [w_Line E a o (q6.2, q3.2, gh4, x.2.2.2.1, v2)]) H := hP
    have hD : va_D A (List.flatten [w_Line E a o (q6.2, q3.2, gh4, x.2.2.2.1, v2)]) := hD
    refine lv_aload_n hx hb dJ5_append_c97b9_53 rfl (lv_at hl 2 rfl) ?_
    obtain rfl := Option.some.inj hF
    exact en_gr (ad := gh4) hQ (Nat.le_of_ble_eq_true rfl) (Nat.le_of_ble_eq_true rfl) hx hb hr (Or.inl ⟨_, rfl⟩) hlocks hP hD hS rfl dJ5_append_c97b9_54

/-! J4_append_bf812 -/
theorem dJ4_append_bf812_0 : decode cJ4_append_bf812 0 = .ok (.aload_n 0, 1) := by decide +kernel
theorem dJ4_append_bf812_1 : decode cJ4_append_bf812 1 = .ok (.iload_n 1, 1) := by decide +kernel
theorem dJ4_append_bf812_2 : decode cJ4_append_bf812 2 = .ok (.invokespecial 53, 3) := by decide +kernel
theorem dJ4_append_bf812_5 : decode cJ4_append_bf812 5 = .ok (.pop, 1) := by decide +kernel
theorem dJ4_append_bf812_6 : decode cJ4_append_bf812 6 = .ok (.aload_n 0, 1) := by decide +kernel
theorem dJ4_append_bf812_7 : decode cJ4_append_bf812 7 = .ok (.areturn, 1) := by decide +kernel
def f_J4_append_bf812 (x_value : (Nat → Int32)) (x_cap : Nat) (x_count : Int32) (p1 : Int32) : Option ((Nat → Int32) × Nat × Int32) :=
  q_bd (f_J5_append_c97b9 x_value x_cap x_count p1) (fun q1 =>
  some (q1.1, q1.2.1, q1.2.2))
theorem hv_J4_append_bf812 : yJ4_append_bf812.cls = RJ4 ∧ yJ4_append_bf812.cls ≠ "java/lang/invoke/MethodHandle" ∧ yJ4_append_bf812.cls ≠ "java/lang/invoke/VarHandle" ∧ (parseMethodDescriptor yJ4_append_bf812.desc).map (fun d => d.parameters.length) = some 1 := by decide +kernel
abbrev rm_J4_append_bf812 : Room := { frames := 5, cells := 1, slots := 100, locals := 127 }
set_option maxHeartbeats 4000000 in
set_option maxRecDepth 100000 in
theorem k_J4_append_bf812 (l : Launch) (E : ET) (a : Nat → Nat) (o : Nat) (x : Line_t) (p1 : Int32) (res : (Nat → Int32) × Nat × Int32) (hF : f_J4_append_bf812 x.1 x.2.1 x.2.2.2.2 p1 = some res) (sz : Nat) : CtgR l yJ4_append_bf812 (mws yJ4_append_bf812 cJ4_append_bf812 2 (some (.object "java/lang/StringBuilder"))) rm_J4_append_bf812 1 100 [.ref (a o), .int p1] E (bl_Line E a o x) (a o) (fun ad : Nat => bl_Line E a o (res.1, res.2.1, ad, x.2.2.2.1, res.2.2)) sz := by
  refine mk_M (by decide +kernel) (Nat.le_of_ble_eq_true rfl) ?_
  intro p e s m below meth c A args Q ls hAe hsz hQ hx hb hr hml hin ha hown hlocks hA hz hzs hst hP hD hS hl
  have hown : s.vm.findClass RJ4 = some m.cls := hown
  rw [hAe] at hQ
  subst hsz
  have hP : va_P E.1 vwCl (List.flatten [w_Line E a o x]) s.heap := hP
  have hD : va_D A (List.flatten [w_Line E a o x]) := hD
  have hl : lv_has ls 2 [(0, .ref (a o)), (1, .int p1)] := hl
  generalize hHe : s.heap = H at hP
  have hS : va_S A s.heap H [] := by rw [← hHe]; exact hS
  generalize ([] : List Loc) = locs at hS ⊢
  unfold f_J4_append_bf812 at hF
  refine lv_aload_n hx hb dJ4_append_bf812_0 rfl (lv_at hl 0 rfl) ?_
  refine lv_iload_n hx hb dJ4_append_bf812_1 rfl (lv_at hl 1 rfl) ?_
  obtain ⟨q1, hq1, hF⟩ := q_bdi hF
  refine cl_gr (Lc := [w_Line E a o x]) (Lc' := fun gh2 => [w_Line E a o (q1.1, q1.2.1, gh2, x.2.2.2.1, q1.2.2)]) (L' := fun gh2 => [w_Line E a o (q1.1, q1.2.1, gh2, x.2.2.2.1, q1.2.2)]) (ra := a o) (va_runSU (ClassAt_J4 hst) (As := [.int p1]) (rest := []) ⟨hx, hb, hml, hown, ha⟩ (k_J5_append_c97b9 l E a o x p1 q1 hq1 H.size) (va_cwSU 1 ha (gi_SU (fun _ h => h) mw701 mw2132 mw339 mw702 mw83 mw703) rfl rfl rfl ⟨by decide, hv_J5_append_c97b9.2.2.2⟩ ⟨(Nat.le_of_ble_eq_true rfl), (Nat.le_of_ble_eq_true rfl)⟩) ⟨pre_blind, va_recv hst.k (fr_P hP [0] rfl) (ci := 1) (q0 := 0) rfl rfl, pre_at hP hD hS hz hzs hst [0] (by decide) rfl rfl⟩ rfl rfl hl.1 rfl (lv_room (Nat.le_of_ble_eq_true rfl)) dJ4_append_bf812_2 ⟨(Nat.le_of_ble_eq_true rfl), (Nat.le_of_ble_eq_true rfl)⟩) hP hD hS hA [0] (by decide) rfl rfl (fun _ => rfl) (fun _ => rfl) (fun gh2 H locs hP hD hS => ?_)
  refine lv_pop hx hb dJ4_append_bf812_5 rfl ?_
  refine lv_aload_n hx hb dJ4_append_bf812_6 rfl (lv_at hl 0 rfl) ?_
  obtain rfl := Option.some.inj hF
  exact en_gr (ad := gh2) hQ (Nat.le_of_ble_eq_true rfl) (Nat.le_of_ble_eq_true rfl) hx hb hr (Or.inl ⟨_, rfl⟩) hlocks hP hD hS rfl dJ4_append_bf812_7

/-! J5_setLength_d00df -/
theorem dJ5_setLength_d00df_0 : decode cJ5_setLength_d00df 0 = .ok (.iload_n 1, 1) := by decide +kernel
theorem dJ5_setLength_d00df_1 : decode cJ5_setLength_d00df 1 = .ok (.ifCond .ge 12, 3) := by decide +kernel
theorem dJ5_setLength_d00df_13 : decode cJ5_setLength_d00df 13 = .ok (.aload_n 0, 1) := by decide +kernel
theorem dJ5_setLength_d00df_14 : decode cJ5_setLength_d00df 14 = .ok (.iload_n 1, 1) := by decide +kernel
theorem dJ5_setLength_d00df_15 : decode cJ5_setLength_d00df 15 = .ok (.invokevirtual 100, 3) := by decide +kernel
theorem dJ5_setLength_d00df_18 : decode cJ5_setLength_d00df 18 = .ok (.aload_n 0, 1) := by decide +kernel
theorem dJ5_setLength_d00df_19 : decode cJ5_setLength_d00df 19 = .ok (.getfield 79, 3) := by decide +kernel
theorem dJ5_setLength_d00df_22 : decode cJ5_setLength_d00df 22 = .ok (.iload_n 1, 1) := by decide +kernel
theorem dJ5_setLength_d00df_23 : decode cJ5_setLength_d00df 23 = .ok (.if_icmp .ge 40, 3) := by decide +kernel
theorem dJ5_setLength_d00df_63 : decode cJ5_setLength_d00df 63 = .ok (.aload_n 0, 1) := by decide +kernel
theorem dJ5_setLength_d00df_64 : decode cJ5_setLength_d00df 64 = .ok (.getfield 79, 3) := by decide +kernel
theorem dJ5_setLength_d00df_67 : decode cJ5_setLength_d00df 67 = .ok (.iload_n 1, 1) := by decide +kernel
theorem dJ5_setLength_d00df_68 : decode cJ5_setLength_d00df 68 = .ok (.if_icmp .le 8, 3) := by decide +kernel
theorem dJ5_setLength_d00df_71 : decode cJ5_setLength_d00df 71 = .ok (.aload_n 0, 1) := by decide +kernel
theorem dJ5_setLength_d00df_72 : decode cJ5_setLength_d00df 72 = .ok (.iconst 1, 1) := by decide +kernel
theorem dJ5_setLength_d00df_73 : decode cJ5_setLength_d00df 73 = .ok (.putfield 73, 3) := by decide +kernel
theorem dJ5_setLength_d00df_76 : decode cJ5_setLength_d00df 76 = .ok (.aload_n 0, 1) := by decide +kernel
theorem dJ5_setLength_d00df_77 : decode cJ5_setLength_d00df 77 = .ok (.iload_n 1, 1) := by decide +kernel
theorem dJ5_setLength_d00df_78 : decode cJ5_setLength_d00df 78 = .ok (.putfield 79, 3) := by decide +kernel
theorem dJ5_setLength_d00df_81 : decode cJ5_setLength_d00df 81 = .ok (.return_, 1) := by decide +kernel
def f_J5_setLength_d00df (x_value : (Nat → Int32)) (x_cap : Nat) (x_maybeLatin1 : Int32) (x_count : Int32) (p1 : Int32) : Option ((Nat → Int32) × Nat × Int32 × Int32) :=
  q_br (0 ≤ p1) (
  q_bd (f_J5_ensureCapacityInternal_d00df x_value x_cap p1) (fun q1 =>
  q_br (p1 ≤ x_count) (
  q_lt (fun (j3 : Int32) =>
  some (q1.1, q1.2, j3, p1)) (fun (J76 : Int32 → Option ((Nat → Int32) × Nat × Int32 × Int32)) =>
  q_br (x_count ≤ p1) (
  J76 x_maybeLatin1) (
  J76 1))) (
  none))) (
  none)
theorem hv_J5_setLength_d00df : yJ5_setLength_d00df.cls = RJ5 ∧ yJ5_setLength_d00df.cls ≠ "java/lang/invoke/MethodHandle" ∧ yJ5_setLength_d00df.cls ≠ "java/lang/invoke/VarHandle" ∧ (parseMethodDescriptor yJ5_setLength_d00df.desc).map (fun d => d.parameters.length) = some 1 := by decide +kernel
abbrev rm_J5_setLength_d00df : Room := { frames := 4, cells := 1, slots := 100, locals := 104 }
set_option maxHeartbeats 4000000 in
set_option maxRecDepth 100000 in
theorem k_J5_setLength_d00df (l : Launch) (E : ET) (a : Nat → Nat) (o : Nat) (x : Line_t) (p1 : Int32) (res : (Nat → Int32) × Nat × Int32 × Int32) (hF : f_J5_setLength_d00df x.1 x.2.1 x.2.2.2.1 x.2.2.2.2 p1 = some res) (sz : Nat) : CtgV l yJ5_setLength_d00df (mws yJ5_setLength_d00df cJ5_setLength_d00df 2 none) rm_J5_setLength_d00df 1 100 [.ref (a o), .int p1] E (bl_Line E a o x) (fun ad : Nat => bl_Line E a o (res.1, res.2.1, ad, res.2.2.1, res.2.2.2)) sz := by
  refine mk_M (by decide +kernel) (Nat.le_of_ble_eq_true rfl) ?_
  intro p e s m below meth c A args Q ls hAe hsz hQ hx hb hr hml hin ha hown hlocks hA hz hzs hst hP hD hS hl
  have hown : s.vm.findClass RJ5 = some m.cls := hown
  rw [hAe] at hQ
  subst hsz
  have hP : va_P E.1 vwCl (List.flatten [w_Line E a o x]) s.heap := hP
  have hD : va_D A (List.flatten [w_Line E a o x]) := hD
  have hl : lv_has ls 2 [(0, .ref (a o)), (1, .int p1)] := hl
  generalize hHe : s.heap = H at hP
  have hS : va_S A s.heap H [] := by rw [← hHe]; exact hS
  generalize ([] : List Loc) = locs at hS ⊢
  unfold f_J5_setLength_d00df at hF
  refine lv_iload_n hx hb dJ5_setLength_d00df_0 rfl (lv_at hl 1 rfl) ?_
  refine lv_if_ge (tgt := 13) hx hb dJ5_setLength_d00df_1 (by decide) (fun c1 => ?_) (fun c1 => ?_)
  · have hF := q_brp c1 hF
    refine lv_aload_n hx hb dJ5_setLength_d00df_13 rfl (lv_at hl 0 rfl) ?_
    refine lv_iload_n hx hb dJ5_setLength_d00df_14 rfl (lv_at hl 1 rfl) ?_
    obtain ⟨q1, hq1, hF⟩ := q_bdi hF
    refine cl_gv (Lc := [w_Line E a o x]) (Lc' := fun gh2 => [w_Line E a o (q1.1, q1.2, gh2, x.2.2.2.1, x.2.2.2.2)]) (L' := fun gh2 => [w_Line E a o (q1.1, q1.2, gh2, x.2.2.2.1, x.2.2.2.2)]) (va_runU (As := [.int p1]) (rest := []) ⟨hx, hb, hml, hown, ha⟩ (k_J5_ensureCapacityInternal_d00df l E a o x p1 q1 hq1 H.size) (va_cwU 1 ha (gi_U (fun _ h => h) mw588 mw2127 mwX0 mw590 mw83 mw591) rfl rfl rfl rfl hv_J5_ensureCapacityInternal_d00df.2 ⟨(Nat.le_of_ble_eq_true rfl), (Nat.le_of_ble_eq_true rfl)⟩) ⟨pre_blind, va_recv hst.k (fr_P hP [0] rfl) (ci := 1) (q0 := 0) rfl rfl, pre_at hP hD hS hz hzs hst [0] (by decide) rfl rfl⟩ rfl rfl hl.1 rfl (lv_room (Nat.le_of_ble_eq_true rfl)) dJ5_setLength_d00df_15 ⟨(Nat.le_of_ble_eq_true rfl), (Nat.le_of_ble_eq_true rfl)⟩) hP hD hS hA [0] (by decide) rfl rfl (fun _ => rfl) (fun _ => rfl) (fun gh2 H locs hP hD hS => ?_)
    refine lv_aload_n hx hb dJ5_setLength_d00df_18 rfl (lv_at hl 0 rfl) ?_
    refine va_get (D := E.1) (ci := 1) (v := .int x.2.2.2.2) (C := RJ4) (T := TJ4) (N := 4) hx hb ha in_J4 hown hst.k hP 0 rfl rfl 3 (by decide) (ha _ mw330) (fun _ h9 => h9) rfl dJ5_setLength_d00df_19 ?_
    refine lv_iload_n hx hb dJ5_setLength_d00df_22 rfl (lv_at hl 1 rfl) ?_
    refine lv_icmp_ge (tgt := 63) hx hb dJ5_setLength_d00df_23 (by decide) (fun c23 => ?_) (fun c23 => ?_)
    · have hF := q_brp c23 hF
      refine lv_aload_n hx hb dJ5_setLength_d00df_63 rfl (lv_at hl 0 rfl) ?_
      refine va_get (D := E.1) (ci := 1) (v := .int x.2.2.2.2) (C := RJ4) (T := TJ4) (N := 4) hx hb ha in_J4 hown hst.k hP 0 rfl rfl 3 (by decide) (ha _ mw330) (fun _ h9 => h9) rfl dJ5_setLength_d00df_64 ?_
      refine lv_iload_n hx hb dJ5_setLength_d00df_67 rfl (lv_at hl 1 rfl) ?_
      obtain ⟨J76, hJ76, hF⟩ := q_jn hF
      have jJ76 : ∀ (j3 : Int32), ∀ (H : Heap) (locs : List Loc) (ls : Array Slot), J76 j3 = some res → va_P E.1 vwCl (List.flatten [w_Line E a o (q1.1, q1.2, gh2, j3, x.2.2.2.2)]) H → va_D A (List.flatten [w_Line E a o (q1.1, q1.2, gh2, j3, x.2.2.2.2)]) → va_S A s.heap H locs → lv_has ls 2 [(0, .ref (a o)), (1, .int p1)] → W p l e rm_J5_setLength_d00df s m args below meth c H locs 1 100 Q (F0 m 76 ls []) := by
        intro j3 H locs ls hF hP hD hS hl
        rw [hJ76] at hF
        refine lv_aload_n hx hb dJ5_setLength_d00df_76 rfl (lv_at hl 0 rfl) ?_
        refine lv_iload_n hx hb dJ5_setLength_d00df_77 rfl (lv_at hl 1 rfl) ?_
        refine va_put (D := E.1) (ci := 1) (v := .int p1) (ty := .int) (C := RJ4) (T := TJ4) (N := 4) hx hb ha in_J4 tyJ4 tyJ4_ok nmJ4 hown hst.k hP hD hS 0 rfl rfl 3 (by decide) (ha _ mw330) (fun _ h9 => h9) rfl (tyJ4_ok 3 (by decide)) rfl rfl (Nat.le_of_ble_eq_true rfl) dJ5_setLength_d00df_78 (fun H locs hP hD hS => ?_)
        have hP : va_P E.1 vwCl (List.flatten [w_Line E a o (q1.1, q1.2, gh2, j3, p1)]) H := hP
        have hD : va_D A (List.flatten [w_Line E a o (q1.1, q1.2, gh2, j3, p1)]) := hD
        obtain rfl := Option.some.inj hF
        exact en_gv (ad := gh2) hQ (Nat.le_of_ble_eq_true rfl) (Nat.le_of_ble_eq_true rfl) hx hb hr hlocks hP hD hS dJ5_setLength_d00df_81
      refine lv_icmp_le (tgt := 76) hx hb dJ5_setLength_d00df_68 (by decide) (fun c68 => ?_) (fun c68 => ?_)
      · have hF := q_brp c68 hF
        exact jJ76 x.2.2.2.1 H locs ls hF hP hD hS (lv_sub hl [0, 1] rfl)
      · have hF := q_brn c68 hF
        refine lv_aload_n hx hb dJ5_setLength_d00df_71 rfl (lv_at hl 0 rfl) ?_
        refine lv_iconst (v := 1) hx hb dJ5_setLength_d00df_72 (by decide) ?_
        refine va_put (D := E.1) (ci := 1) (v := .int 1) (ty := .boolean) (C := RJ4) (T := TJ4) (N := 4) hx hb ha in_J4 tyJ4 tyJ4_ok nmJ4 hown hst.k hP hD hS 0 rfl rfl 2 (by decide) (ha _ mw328) (fun _ h9 => h9) rfl (tyJ4_ok 2 (by decide)) (by decide) (by decide) (Nat.le_of_ble_eq_true rfl) dJ5_setLength_d00df_73 (fun H locs hP hD hS => ?_)
        have hP : va_P E.1 vwCl (List.flatten [w_Line E a o (q1.1, q1.2, gh2, 1, x.2.2.2.2)]) H := hP
        have hD : va_D A (List.flatten [w_Line E a o (q1.1, q1.2, gh2, 1, x.2.2.2.2)]) := hD
        exact jJ76 1 H locs ls hF hP hD hS (lv_sub hl [0, 1] rfl)
    · have hF := q_brn c23 hF
      exact absurd hF (by simp)
  · have hF := q_brn c1 hF
    exact absurd hF (by simp)

/-! J4_setLength_d00df -/
theorem dJ4_setLength_d00df_0 : decode cJ4_setLength_d00df 0 = .ok (.aload_n 0, 1) := by decide +kernel
theorem dJ4_setLength_d00df_1 : decode cJ4_setLength_d00df 1 = .ok (.iload_n 1, 1) := by decide +kernel
theorem dJ4_setLength_d00df_2 : decode cJ4_setLength_d00df 2 = .ok (.invokespecial 333, 3) := by decide +kernel
theorem dJ4_setLength_d00df_5 : decode cJ4_setLength_d00df 5 = .ok (.return_, 1) := by decide +kernel
def f_J4_setLength_d00df (x_value : (Nat → Int32)) (x_cap : Nat) (x_maybeLatin1 : Int32) (x_count : Int32) (p1 : Int32) : Option ((Nat → Int32) × Nat × Int32 × Int32) :=
  q_bd (f_J5_setLength_d00df x_value x_cap x_maybeLatin1 x_count p1) (fun q1 =>
  some (q1.1, q1.2.1, q1.2.2.1, q1.2.2.2))
theorem hv_J4_setLength_d00df : yJ4_setLength_d00df.cls = RJ4 ∧ yJ4_setLength_d00df.cls ≠ "java/lang/invoke/MethodHandle" ∧ yJ4_setLength_d00df.cls ≠ "java/lang/invoke/VarHandle" ∧ (parseMethodDescriptor yJ4_setLength_d00df.desc).map (fun d => d.parameters.length) = some 1 := by decide +kernel
abbrev rm_J4_setLength_d00df : Room := { frames := 5, cells := 1, slots := 100, locals := 125 }
set_option maxHeartbeats 4000000 in
set_option maxRecDepth 100000 in
theorem k_J4_setLength_d00df (l : Launch) (E : ET) (a : Nat → Nat) (o : Nat) (x : Line_t) (p1 : Int32) (res : (Nat → Int32) × Nat × Int32 × Int32) (hF : f_J4_setLength_d00df x.1 x.2.1 x.2.2.2.1 x.2.2.2.2 p1 = some res) (sz : Nat) : CtgV l yJ4_setLength_d00df (mws yJ4_setLength_d00df cJ4_setLength_d00df 2 none) rm_J4_setLength_d00df 1 100 [.ref (a o), .int p1] E (bl_Line E a o x) (fun ad : Nat => bl_Line E a o (res.1, res.2.1, ad, res.2.2.1, res.2.2.2)) sz := by
  refine mk_M (by decide +kernel) (Nat.le_of_ble_eq_true rfl) ?_
  intro p e s m below meth c A args Q ls hAe hsz hQ hx hb hr hml hin ha hown hlocks hA hz hzs hst hP hD hS hl
  have hown : s.vm.findClass RJ4 = some m.cls := hown
  rw [hAe] at hQ
  subst hsz
  have hP : va_P E.1 vwCl (List.flatten [w_Line E a o x]) s.heap := hP
  have hD : va_D A (List.flatten [w_Line E a o x]) := hD
  have hl : lv_has ls 2 [(0, .ref (a o)), (1, .int p1)] := hl
  generalize hHe : s.heap = H at hP
  have hS : va_S A s.heap H [] := by rw [← hHe]; exact hS
  generalize ([] : List Loc) = locs at hS ⊢
  unfold f_J4_setLength_d00df at hF
  refine lv_aload_n hx hb dJ4_setLength_d00df_0 rfl (lv_at hl 0 rfl) ?_
  refine lv_iload_n hx hb dJ4_setLength_d00df_1 rfl (lv_at hl 1 rfl) ?_
  obtain ⟨q1, hq1, hF⟩ := q_bdi hF
  refine cl_gv (Lc := [w_Line E a o x]) (Lc' := fun gh2 => [w_Line E a o (q1.1, q1.2.1, gh2, q1.2.2.1, q1.2.2.2)]) (L' := fun gh2 => [w_Line E a o (q1.1, q1.2.1, gh2, q1.2.2.1, q1.2.2.2)]) (va_runSU (ClassAt_J4 hst) (As := [.int p1]) (rest := []) ⟨hx, hb, hml, hown, ha⟩ (k_J5_setLength_d00df l E a o x p1 q1 hq1 H.size) (va_cwSU 1 ha (gi_SU (fun _ h => h) mw566 mw2124 mw339 mw567 mw83 mw568) rfl rfl rfl ⟨by decide, hv_J5_setLength_d00df.2.2.2⟩ ⟨(Nat.le_of_ble_eq_true rfl), (Nat.le_of_ble_eq_true rfl)⟩) ⟨pre_blind, va_recv hst.k (fr_P hP [0] rfl) (ci := 1) (q0 := 0) rfl rfl, pre_at hP hD hS hz hzs hst [0] (by decide) rfl rfl⟩ rfl rfl hl.1 rfl (lv_room (Nat.le_of_ble_eq_true rfl)) dJ4_setLength_d00df_2 ⟨(Nat.le_of_ble_eq_true rfl), (Nat.le_of_ble_eq_true rfl)⟩) hP hD hS hA [0] (by decide) rfl rfl (fun _ => rfl) (fun _ => rfl) (fun gh2 H locs hP hD hS => ?_)
  obtain rfl := Option.some.inj hF
  exact en_gv (ad := gh2) hQ (Nat.le_of_ble_eq_true rfl) (Nat.le_of_ble_eq_true rfl) hx hb hr hlocks hP hD hS dJ4_setLength_d00df_5

/-! J5_length_8abf5 -/
theorem dJ5_length_8abf5_0 : decode cJ5_length_8abf5 0 = .ok (.aload_n 0, 1) := by decide +kernel
theorem dJ5_length_8abf5_1 : decode cJ5_length_8abf5 1 = .ok (.getfield 79, 3) := by decide +kernel
theorem dJ5_length_8abf5_4 : decode cJ5_length_8abf5 4 = .ok (.ireturn, 1) := by decide +kernel
def f_J5_length_8abf5 (x_count : Int32) : Option (Int32) :=
  some x_count
theorem hv_J5_length_8abf5 : yJ5_length_8abf5.cls = RJ5 ∧ yJ5_length_8abf5.cls ≠ "java/lang/invoke/MethodHandle" ∧ yJ5_length_8abf5.cls ≠ "java/lang/invoke/VarHandle" ∧ (parseMethodDescriptor yJ5_length_8abf5.desc).map (fun d => d.parameters.length) = some 0 := by decide +kernel
abbrev rm_J5_length_8abf5 : Room := { frames := 0, cells := 0, slots := 0, locals := 0 }
set_option maxHeartbeats 4000000 in
set_option maxRecDepth 100000 in
theorem k_J5_length_8abf5 (l : Launch) (E : ET) (a : Nat → Nat) (o : Nat) (x : Line_t) (res : Int32) (hF : f_J5_length_8abf5 x.2.2.2.2 = some res) (sz : Nat) : CtI l yJ5_length_8abf5 (mws yJ5_length_8abf5 cJ5_length_8abf5 1 (some .int)) rm_J5_length_8abf5 0 0 [.ref (a o)] E (bl_Line E a o x) res (bl_Line E a o x) sz := by
  refine mk_M (by decide +kernel) (Nat.le_of_ble_eq_true rfl) ?_
  intro p e s m below meth c A args Q ls hAe hsz hQ hx hb hr hml hin ha hown hlocks hA hz hzs hst hP hD hS hl
  have hown : s.vm.findClass RJ5 = some m.cls := hown
  rw [hAe] at hQ
  subst hsz
  have hP : va_P E.1 vwCl (List.flatten [w_Line E a o x]) s.heap := hP
  have hD : va_D A (List.flatten [w_Line E a o x]) := hD
  have hl : lv_has ls 1 [(0, .ref (a o))] := hl
  generalize hHe : s.heap = H at hP
  have hS : va_S A s.heap H [] := by rw [← hHe]; exact hS
  generalize ([] : List Loc) = locs at hS ⊢
  unfold f_J5_length_8abf5 at hF
  refine lv_aload_n hx hb dJ5_length_8abf5_0 rfl (lv_at hl 0 rfl) ?_
  refine va_get (D := E.1) (ci := 1) (v := .int x.2.2.2.2) (C := RJ4) (T := TJ4) (N := 4) hx hb ha in_J4 hown hst.k hP 0 rfl rfl 3 (by decide) (ha _ mw330) (fun _ h9 => h9) rfl dJ5_length_8abf5_1 ?_
  obtain rfl := Option.some.inj hF
  exact en_i hQ (Nat.le_of_ble_eq_true rfl) (Nat.le_of_ble_eq_true rfl) hx hb hr hlocks hP hD hS rfl dJ5_length_8abf5_4

/-! J4_length_8abf5 -/
theorem dJ4_length_8abf5_0 : decode cJ4_length_8abf5 0 = .ok (.aload_n 0, 1) := by decide +kernel
theorem dJ4_length_8abf5_1 : decode cJ4_length_8abf5 1 = .ok (.invokespecial 343, 3) := by decide +kernel
theorem dJ4_length_8abf5_4 : decode cJ4_length_8abf5 4 = .ok (.ireturn, 1) := by decide +kernel
def f_J4_length_8abf5 (x_count : Int32) : Option (Int32) :=
  q_bd (f_J5_length_8abf5 x_count) (fun q1 =>
  some q1)
theorem hv_J4_length_8abf5 : yJ4_length_8abf5.cls = RJ4 ∧ yJ4_length_8abf5.cls ≠ "java/lang/invoke/MethodHandle" ∧ yJ4_length_8abf5.cls ≠ "java/lang/invoke/VarHandle" ∧ (parseMethodDescriptor yJ4_length_8abf5.desc).map (fun d => d.parameters.length) = some 0 := by decide +kernel
abbrev rm_J4_length_8abf5 : Room := { frames := 1, cells := 0, slots := 0, locals := 20 }
set_option maxHeartbeats 4000000 in
set_option maxRecDepth 100000 in
theorem k_J4_length_8abf5 (l : Launch) (E : ET) (a : Nat → Nat) (o : Nat) (x : Line_t) (res : Int32) (hF : f_J4_length_8abf5 x.2.2.2.2 = some res) (sz : Nat) : CtI l yJ4_length_8abf5 (mws yJ4_length_8abf5 cJ4_length_8abf5 1 (some .int)) rm_J4_length_8abf5 0 0 [.ref (a o)] E (bl_Line E a o x) res (bl_Line E a o x) sz := by
  refine mk_M (by decide +kernel) (Nat.le_of_ble_eq_true rfl) ?_
  intro p e s m below meth c A args Q ls hAe hsz hQ hx hb hr hml hin ha hown hlocks hA hz hzs hst hP hD hS hl
  have hown : s.vm.findClass RJ4 = some m.cls := hown
  rw [hAe] at hQ
  subst hsz
  have hP : va_P E.1 vwCl (List.flatten [w_Line E a o x]) s.heap := hP
  have hD : va_D A (List.flatten [w_Line E a o x]) := hD
  have hl : lv_has ls 1 [(0, .ref (a o))] := hl
  generalize hHe : s.heap = H at hP
  have hS : va_S A s.heap H [] := by rw [← hHe]; exact hS
  generalize ([] : List Loc) = locs at hS ⊢
  unfold f_J4_length_8abf5 at hF
  refine lv_aload_n hx hb dJ4_length_8abf5_0 rfl (lv_at hl 0 rfl) ?_
  obtain ⟨q1, hq1, hF⟩ := q_bdi hF
  refine cl_i (Lc := [w_Line E a o x]) (Lc' := [w_Line E a o x]) (L' := [w_Line E a o x]) (rv := q1) (va_runSU (ClassAt_J4 hst) (As := []) (rest := []) ⟨hx, hb, hml, hown, ha⟩ (k_J5_length_8abf5 l E a o x q1 hq1 H.size) (va_cwSU 0 ha (gi_SU (fun _ h => h) mw746 mw742 mw339 mw741 mw83 mw747) rfl rfl rfl ⟨by decide, hv_J5_length_8abf5.2.2.2⟩ ⟨(Nat.le_of_ble_eq_true rfl), (Nat.le_of_ble_eq_true rfl)⟩) ⟨pre_blind, va_recv hst.k (fr_P hP [0] rfl) (ci := 1) (q0 := 0) rfl rfl, pre_at hP hD hS hz hzs hst [0] (by decide) rfl rfl⟩ rfl rfl hl.1 rfl (lv_room (Nat.le_of_ble_eq_true rfl)) dJ4_length_8abf5_1 ⟨(Nat.le_of_ble_eq_true rfl), (Nat.le_of_ble_eq_true rfl)⟩) hP hD hS hA [0] (by decide) rfl rfl rfl rfl (fun H locs hP hD hS => ?_)
  obtain rfl := Option.some.inj hF
  exact en_i hQ (Nat.le_of_ble_eq_true rfl) (Nat.le_of_ble_eq_true rfl) hx hb hr hlocks hP hD hS rfl dJ4_length_8abf5_4

/-! J5_charAt_5068e -/
theorem dJ5_charAt_5068e_0 : decode cJ5_charAt_5068e 0 = .ok (.aload_n 0, 1) := by decide +kernel
theorem dJ5_charAt_5068e_1 : decode cJ5_charAt_5068e 1 = .ok (.getfield 22, 3) := by decide +kernel
theorem dJ5_charAt_5068e_4 : decode cJ5_charAt_5068e 4 = .ok (.istore_n 2, 1) := by decide +kernel
theorem dJ5_charAt_5068e_5 : decode cJ5_charAt_5068e 5 = .ok (.aload_n 0, 1) := by decide +kernel
theorem dJ5_charAt_5068e_6 : decode cJ5_charAt_5068e 6 = .ok (.getfield 15, 3) := by decide +kernel
theorem dJ5_charAt_5068e_9 : decode cJ5_charAt_5068e 9 = .ok (.astore_n 3, 1) := by decide +kernel
theorem dJ5_charAt_5068e_10 : decode cJ5_charAt_5068e 10 = .ok (.aload_n 0, 1) := by decide +kernel
theorem dJ5_charAt_5068e_11 : decode cJ5_charAt_5068e 11 = .ok (.getfield 79, 3) := by decide +kernel
theorem dJ5_charAt_5068e_14 : decode cJ5_charAt_5068e 14 = .ok (.aload_n 3, 1) := by decide +kernel
theorem dJ5_charAt_5068e_15 : decode cJ5_charAt_5068e 15 = .ok (.arraylength, 1) := by decide +kernel
theorem dJ5_charAt_5068e_16 : decode cJ5_charAt_5068e 16 = .ok (.iload_n 2, 1) := by decide +kernel
theorem dJ5_charAt_5068e_17 : decode cJ5_charAt_5068e 17 = .ok (.ishr, 1) := by decide +kernel
theorem dJ5_charAt_5068e_18 : decode cJ5_charAt_5068e 18 = .ok (.invokestatic 138, 3) := by decide +kernel
theorem dJ5_charAt_5068e_21 : decode cJ5_charAt_5068e 21 = .ok (.istore 4, 2) := by decide +kernel
theorem dJ5_charAt_5068e_23 : decode cJ5_charAt_5068e 23 = .ok (.iload_n 1, 1) := by decide +kernel
theorem dJ5_charAt_5068e_24 : decode cJ5_charAt_5068e 24 = .ok (.iload 4, 2) := by decide +kernel
theorem dJ5_charAt_5068e_26 : decode cJ5_charAt_5068e 26 = .ok (.invokestatic 144, 3) := by decide +kernel
theorem dJ5_charAt_5068e_29 : decode cJ5_charAt_5068e 29 = .ok (.iload_n 2, 1) := by decide +kernel
theorem dJ5_charAt_5068e_30 : decode cJ5_charAt_5068e 30 = .ok (.ifCond .ne 12, 3) := by decide +kernel
theorem dJ5_charAt_5068e_33 : decode cJ5_charAt_5068e 33 = .ok (.aload_n 3, 1) := by decide +kernel
theorem dJ5_charAt_5068e_34 : decode cJ5_charAt_5068e 34 = .ok (.iload_n 1, 1) := by decide +kernel
theorem dJ5_charAt_5068e_35 : decode cJ5_charAt_5068e 35 = .ok (.baload, 1) := by decide +kernel
theorem dJ5_charAt_5068e_36 : decode cJ5_charAt_5068e 36 = .ok (.sipush 255, 3) := by decide +kernel
theorem dJ5_charAt_5068e_39 : decode cJ5_charAt_5068e 39 = .ok (.iand, 1) := by decide +kernel
theorem dJ5_charAt_5068e_40 : decode cJ5_charAt_5068e 40 = .ok (.i2c, 1) := by decide +kernel
theorem dJ5_charAt_5068e_41 : decode cJ5_charAt_5068e 41 = .ok (.ireturn, 1) := by decide +kernel
def f_J5_charAt_5068e (x_value : (Nat → Int32)) (x_cap : Nat) (x_count : Int32) (p1 : Int32) : Option (Int32) :=
  q_lt (if ((Int32.ofNat x_cap) >>> ((0 : Int32) &&& 31)) < x_count then ((Int32.ofNat x_cap) >>> ((0 : Int32) &&& 31)) else x_count : Int32) (fun v1 =>
  q_bd (f_J0_checkIndex_df160 p1 v1) (fun q2 =>
  q_br ((0 : Int32) = (0 : Int32)) (
  q_gd (q_in p1 x_cap) (
  q_gd ((((((x_value (p1.toNatClampNeg)) &&& 255).toUInt32 % 65536).toInt32).toUInt32 % 65536).toInt32 = ((((x_value (p1.toNatClampNeg)) &&& 255).toUInt32 % 65536).toInt32)) (
  some ((((x_value (p1.toNatClampNeg)) &&& 255).toUInt32 % 65536).toInt32)))) (
  none)))
theorem hv_J5_charAt_5068e : yJ5_charAt_5068e.cls = RJ5 ∧ yJ5_charAt_5068e.cls ≠ "java/lang/invoke/MethodHandle" ∧ yJ5_charAt_5068e.cls ≠ "java/lang/invoke/VarHandle" ∧ (parseMethodDescriptor yJ5_charAt_5068e.desc).map (fun d => d.parameters.length) = some 1 := by decide +kernel
abbrev rm_J5_charAt_5068e : Room := { frames := 2, cells := 0, slots := 0, locals := 43 }
set_option maxHeartbeats 4000000 in
set_option maxRecDepth 100000 in
theorem k_J5_charAt_5068e (l : Launch) (E : ET) (a : Nat → Nat) (o : Nat) (x : Line_t) (p1 : Int32) (res : Int32) (hF : f_J5_charAt_5068e x.1 x.2.1 x.2.2.2.2 p1 = some res) (sz : Nat) : CtI l yJ5_charAt_5068e (mws yJ5_charAt_5068e cJ5_charAt_5068e 5 (some .char)) rm_J5_charAt_5068e 0 0 [.ref (a o), .int p1] E (bl_Line E a o x) res (bl_Line E a o x) sz := by
  refine mk_M (by decide +kernel) (Nat.le_of_ble_eq_true rfl) ?_
  intro p e s m below meth c A args Q ls hAe hsz hQ hx hb hr hml hin ha hown hlocks hA hz hzs hst hP hD hS hl
  have hown : s.vm.findClass RJ5 = some m.cls := hown
  rw [hAe] at hQ
  subst hsz
  have hP : va_P E.1 vwCl (List.flatten [w_Line E a o x]) s.heap := hP
  have hD : va_D A (List.flatten [w_Line E a o x]) := hD
  have hl : lv_has ls 5 [(0, .ref (a o)), (1, .int p1)] := hl
  generalize hHe : s.heap = H at hP
  have hS : va_S A s.heap H [] := by rw [← hHe]; exact hS
  generalize ([] : List Loc) = locs at hS ⊢
  unfold f_J5_charAt_5068e at hF
  refine lv_aload_n hx hb dJ5_charAt_5068e_0 rfl (lv_at hl 0 rfl) ?_
  refine va_get (D := E.1) (ci := 1) (v := .int 0) (C := RJ4) (T := TJ4) (N := 4) hx hb ha in_J4 hown hst.k hP 0 rfl rfl 1 (by decide) (ha _ mw327) (fun _ h9 => h9) rfl dJ5_charAt_5068e_1 ?_
  refine lv_istore_n (lv' := [(2, .int 0), (0, .ref (a o)), (1, .int p1)]) hx hb dJ5_charAt_5068e_4 rfl hl (by decide) rfl (fun ls hl => ?_)
  refine lv_aload_n hx hb dJ5_charAt_5068e_5 rfl (lv_at hl 1 rfl) ?_
  refine va_get (D := E.1) (ci := 1) (v := .ref x.2.2.1) (C := RJ4) (T := TJ4) (N := 4) hx hb ha in_J4 hown hst.k hP 0 rfl rfl 0 (by decide) (ha _ mw326) (fun _ h9 => h9) rfl dJ5_charAt_5068e_6 ?_
  refine lv_astore_n (lv' := [(3, .ref x.2.2.1), (2, .int 0), (0, .ref (a o)), (1, .int p1)]) hx hb dJ5_charAt_5068e_9 rfl hl (by decide) rfl (fun ls hl => ?_)
  refine lv_aload_n hx hb dJ5_charAt_5068e_10 rfl (lv_at hl 2 rfl) ?_
  refine va_get (D := E.1) (ci := 1) (v := .int x.2.2.2.2) (C := RJ4) (T := TJ4) (N := 4) hx hb ha in_J4 hown hst.k hP 0 rfl rfl 3 (by decide) (ha _ mw330) (fun _ h9 => h9) rfl dJ5_charAt_5068e_11 ?_
  refine lv_aload_n hx hb dJ5_charAt_5068e_14 rfl (lv_at hl 0 rfl) ?_
  refine va_alen (v := Int32.ofNat x.2.1) hx hb hst.k hP 1 2 rfl rfl rfl dJ5_charAt_5068e_15 ?_
  refine lv_iload_n hx hb dJ5_charAt_5068e_16 rfl (lv_at hl 1 rfl) ?_
  refine lv_ishr hx hb dJ5_charAt_5068e_17 ?_
  refine va_mmin hx hb (hml.trans hl.1.symm) hown (ha _ mw1603) (ha _ mw618) (ha _ mw97) (ha _ mw619) (Nat.le_of_ble_eq_true rfl) (Nat.le_of_ble_eq_true rfl) (Nat.le_of_ble_eq_true rfl) (Nat.le_of_ble_eq_true rfl) dJ5_charAt_5068e_18 ?_
  refine lv_topi (fun v1 ev1 => ?_)
  have hF := q_lti ev1 hF
  refine lv_istore (lv' := [(4, .int v1), (3, .ref x.2.2.1), (2, .int 0), (0, .ref (a o)), (1, .int p1)]) hx hb dJ5_charAt_5068e_21 hl (by decide) rfl (fun ls hl => ?_)
  refine lv_iload_n hx hb dJ5_charAt_5068e_23 rfl (lv_at hl 4 rfl) ?_
  refine lv_iload hx hb dJ5_charAt_5068e_24 (lv_at hl 0 rfl) ?_
  obtain ⟨q2, hq2, hF⟩ := q_bdi hF
  refine cl_v (Lc := []) (Lc' := []) (L' := [w_Line E a o x]) (va_runS (As := [.int p1, .int v1]) (rest := []) ⟨hx, hb, hml, hown, ha⟩ (k_J0_checkIndex_df160 l E p1 v1 q2 hq2 H.size) (va_cwS 2 ha (gi_T (fun _ h => h) mw1604 mw926 mw85 mw927) rfl rfl rfl hv_J0_checkIndex_df160.2 ⟨(Nat.le_of_ble_eq_true rfl), (Nat.le_of_ble_eq_true rfl)⟩) ⟨pre_blind, pre_at hP hD hS hz hzs hst [] (by decide) rfl rfl⟩ rfl rfl hl.1 rfl (lv_room (Nat.le_of_ble_eq_true rfl)) dJ5_charAt_5068e_26 ⟨(Nat.le_of_ble_eq_true rfl), (Nat.le_of_ble_eq_true rfl)⟩) hP hD hS hA [] (by decide) rfl rfl rfl rfl (fun H locs hP hD hS => ?_)
  refine lv_iload_n hx hb dJ5_charAt_5068e_29 rfl (lv_at hl 2 rfl) ?_
  refine lv_if_ne (tgt := 42) hx hb dJ5_charAt_5068e_30 (by decide) (fun c30 => ?_) (fun c30 => ?_)
  · have hF := q_brn c30 hF
    exact absurd hF (by simp)
  · have hF := q_brp c30 hF
    refine lv_aload_n hx hb dJ5_charAt_5068e_33 rfl (lv_at hl 1 rfl) ?_
    refine lv_iload_n hx hb dJ5_charAt_5068e_34 rfl (lv_at hl 4 rfl) ?_
    obtain ⟨g3, hF⟩ := q_gdi hF
    refine vi_bald hx hb hst.k hP 1 2 rfl rfl (f := x.1) (k := p1.toNatClampNeg) rfl g3 dJ5_charAt_5068e_35 ?_
    refine lv_sipush (v := 255) hx hb dJ5_charAt_5068e_36 (by decide) ?_
    refine lv_iand hx hb dJ5_charAt_5068e_39 ?_
    refine lv_i2c hx hb dJ5_charAt_5068e_40 rfl ?_
    obtain ⟨g4, hF⟩ := q_gdi hF
    obtain rfl := Option.some.inj hF
    exact en_z hQ (Nat.le_of_ble_eq_true rfl) (Nat.le_of_ble_eq_true rfl) hx hb hr hlocks (nz_c g4) hP hD hS rfl dJ5_charAt_5068e_41

/-! J4_charAt_5068e -/
theorem dJ4_charAt_5068e_0 : decode cJ4_charAt_5068e 0 = .ok (.aload_n 0, 1) := by decide +kernel
theorem dJ4_charAt_5068e_1 : decode cJ4_charAt_5068e 1 = .ok (.iload_n 1, 1) := by decide +kernel
theorem dJ4_charAt_5068e_2 : decode cJ4_charAt_5068e 2 = .ok (.invokespecial 329, 3) := by decide +kernel
theorem dJ4_charAt_5068e_5 : decode cJ4_charAt_5068e 5 = .ok (.ireturn, 1) := by decide +kernel
def f_J4_charAt_5068e (x_value : (Nat → Int32)) (x_cap : Nat) (x_count : Int32) (p1 : Int32) : Option (Int32) :=
  q_bd (f_J5_charAt_5068e x_value x_cap x_count p1) (fun q1 =>
  q_gd ((q1.toUInt32 % 65536).toInt32 = q1) (
  some q1))
theorem hv_J4_charAt_5068e : yJ4_charAt_5068e.cls = RJ4 ∧ yJ4_charAt_5068e.cls ≠ "java/lang/invoke/MethodHandle" ∧ yJ4_charAt_5068e.cls ≠ "java/lang/invoke/VarHandle" ∧ (parseMethodDescriptor yJ4_charAt_5068e.desc).map (fun d => d.parameters.length) = some 1 := by decide +kernel
abbrev rm_J4_charAt_5068e : Room := { frames := 3, cells := 0, slots := 0, locals := 67 }
set_option maxHeartbeats 4000000 in
set_option maxRecDepth 100000 in
theorem k_J4_charAt_5068e (l : Launch) (E : ET) (a : Nat → Nat) (o : Nat) (x : Line_t) (p1 : Int32) (res : Int32) (hF : f_J4_charAt_5068e x.1 x.2.1 x.2.2.2.2 p1 = some res) (sz : Nat) : CtI l yJ4_charAt_5068e (mws yJ4_charAt_5068e cJ4_charAt_5068e 2 (some .char)) rm_J4_charAt_5068e 0 0 [.ref (a o), .int p1] E (bl_Line E a o x) res (bl_Line E a o x) sz := by
  refine mk_M (by decide +kernel) (Nat.le_of_ble_eq_true rfl) ?_
  intro p e s m below meth c A args Q ls hAe hsz hQ hx hb hr hml hin ha hown hlocks hA hz hzs hst hP hD hS hl
  have hown : s.vm.findClass RJ4 = some m.cls := hown
  rw [hAe] at hQ
  subst hsz
  have hP : va_P E.1 vwCl (List.flatten [w_Line E a o x]) s.heap := hP
  have hD : va_D A (List.flatten [w_Line E a o x]) := hD
  have hl : lv_has ls 2 [(0, .ref (a o)), (1, .int p1)] := hl
  generalize hHe : s.heap = H at hP
  have hS : va_S A s.heap H [] := by rw [← hHe]; exact hS
  generalize ([] : List Loc) = locs at hS ⊢
  unfold f_J4_charAt_5068e at hF
  refine lv_aload_n hx hb dJ4_charAt_5068e_0 rfl (lv_at hl 0 rfl) ?_
  refine lv_iload_n hx hb dJ4_charAt_5068e_1 rfl (lv_at hl 1 rfl) ?_
  obtain ⟨q1, hq1, hF⟩ := q_bdi hF
  refine cl_i (Lc := [w_Line E a o x]) (Lc' := [w_Line E a o x]) (L' := [w_Line E a o x]) (rv := q1) (va_runSU (ClassAt_J4 hst) (As := [.int p1]) (rest := []) ⟨hx, hb, hml, hown, ha⟩ (k_J5_charAt_5068e l E a o x p1 q1 hq1 H.size) (va_cwSU 1 ha (gi_SU (fun _ h => h) mw1600 mw2136 mw339 mw1601 mw83 mw1602) rfl rfl rfl ⟨by decide, hv_J5_charAt_5068e.2.2.2⟩ ⟨(Nat.le_of_ble_eq_true rfl), (Nat.le_of_ble_eq_true rfl)⟩) ⟨pre_blind, va_recv hst.k (fr_P hP [0] rfl) (ci := 1) (q0 := 0) rfl rfl, pre_at hP hD hS hz hzs hst [0] (by decide) rfl rfl⟩ rfl rfl hl.1 rfl (lv_room (Nat.le_of_ble_eq_true rfl)) dJ4_charAt_5068e_2 ⟨(Nat.le_of_ble_eq_true rfl), (Nat.le_of_ble_eq_true rfl)⟩) hP hD hS hA [0] (by decide) rfl rfl rfl rfl (fun H locs hP hD hS => ?_)
  obtain ⟨g2, hF⟩ := q_gdi hF
  obtain rfl := Option.some.inj hF
  exact en_z hQ (Nat.le_of_ble_eq_true rfl) (Nat.le_of_ble_eq_true rfl) hx hb hr hlocks (nz_c g2) hP hD hS rfl dJ4_charAt_5068e_5
