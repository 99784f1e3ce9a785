/-! X2_insert -/
theorem dX2_insert_0 : decode cX2_insert 0 = .ok (.aload_n 0, 1) := by decide +kernel
theorem dX2_insert_1 : decode cX2_insert 1 = .ok (.getfield 20, 3) := by decide +kernel
theorem dX2_insert_4 : decode cX2_insert 4 = .ok (.bipush 20, 2) := by decide +kernel
theorem dX2_insert_6 : decode cX2_insert 6 = .ok (.if_icmp .lt 4, 3) := by decide +kernel
theorem dX2_insert_9 : decode cX2_insert 9 = .ok (.return_, 1) := by decide +kernel
theorem dX2_insert_10 : decode cX2_insert 10 = .ok (.aload_n 0, 1) := by decide +kernel
theorem dX2_insert_11 : decode cX2_insert 11 = .ok (.getfield 20, 3) := by decide +kernel
theorem dX2_insert_14 : decode cX2_insert 14 = .ok (.istore_n 2, 1) := by decide +kernel
theorem dX2_insert_15 : decode cX2_insert 15 = .ok (.iload_n 2, 1) := by decide +kernel
theorem dX2_insert_16 : decode cX2_insert 16 = .ok (.ifCond .le 35, 3) := by decide +kernel
theorem dX2_insert_19 : decode cX2_insert 19 = .ok (.aload_n 0, 1) := by decide +kernel
theorem dX2_insert_20 : decode cX2_insert 20 = .ok (.getfield 13, 3) := by decide +kernel
theorem dX2_insert_23 : decode cX2_insert 23 = .ok (.iload_n 2, 1) := by decide +kernel
theorem dX2_insert_24 : decode cX2_insert 24 = .ok (.iconst 1, 1) := by decide +kernel
theorem dX2_insert_25 : decode cX2_insert 25 = .ok (.isub, 1) := by decide +kernel
theorem dX2_insert_26 : decode cX2_insert 26 = .ok (.iaload, 1) := by decide +kernel
theorem dX2_insert_27 : decode cX2_insert 27 = .ok (.iload_n 1, 1) := by decide +kernel
theorem dX2_insert_28 : decode cX2_insert 28 = .ok (.if_icmp .le 23, 3) := by decide +kernel
theorem dX2_insert_31 : decode cX2_insert 31 = .ok (.aload_n 0, 1) := by decide +kernel
theorem dX2_insert_32 : decode cX2_insert 32 = .ok (.getfield 13, 3) := by decide +kernel
theorem dX2_insert_35 : decode cX2_insert 35 = .ok (.iload_n 2, 1) := by decide +kernel
theorem dX2_insert_36 : decode cX2_insert 36 = .ok (.aload_n 0, 1) := by decide +kernel
theorem dX2_insert_37 : decode cX2_insert 37 = .ok (.getfield 13, 3) := by decide +kernel
theorem dX2_insert_40 : decode cX2_insert 40 = .ok (.iload_n 2, 1) := by decide +kernel
theorem dX2_insert_41 : decode cX2_insert 41 = .ok (.iconst 1, 1) := by decide +kernel
theorem dX2_insert_42 : decode cX2_insert 42 = .ok (.isub, 1) := by decide +kernel
theorem dX2_insert_43 : decode cX2_insert 43 = .ok (.iaload, 1) := by decide +kernel
theorem dX2_insert_44 : decode cX2_insert 44 = .ok (.iastore, 1) := by decide +kernel
theorem dX2_insert_45 : decode cX2_insert 45 = .ok (.iinc 2 (-1), 3) := by decide +kernel
theorem dX2_insert_48 : decode cX2_insert 48 = .ok (.goto (-33), 3) := by decide +kernel
theorem dX2_insert_51 : decode cX2_insert 51 = .ok (.aload_n 0, 1) := by decide +kernel
theorem dX2_insert_52 : decode cX2_insert 52 = .ok (.getfield 13, 3) := by decide +kernel
theorem dX2_insert_55 : decode cX2_insert 55 = .ok (.iload_n 2, 1) := by decide +kernel
theorem dX2_insert_56 : decode cX2_insert 56 = .ok (.iload_n 1, 1) := by decide +kernel
theorem dX2_insert_57 : decode cX2_insert 57 = .ok (.iastore, 1) := by decide +kernel
theorem dX2_insert_58 : decode cX2_insert 58 = .ok (.aload_n 0, 1) := by decide +kernel
theorem dX2_insert_59 : decode cX2_insert 59 = .ok (.dup, 1) := by decide +kernel
theorem dX2_insert_60 : decode cX2_insert 60 = .ok (.getfield 20, 3) := by decide +kernel
theorem dX2_insert_63 : decode cX2_insert 63 = .ok (.iconst 1, 1) := by decide +kernel
theorem dX2_insert_64 : decode cX2_insert 64 = .ok (.iadd, 1) := by decide +kernel
theorem dX2_insert_65 : decode cX2_insert 65 = .ok (.putfield 20, 3) := by decide +kernel
theorem dX2_insert_68 : decode cX2_insert 68 = .ok (.return_, 1) := by decide +kernel
def f_X2_insert_L15 (p1 : Int32) (K15 : Int32 → (Nat → Int32) → Option ((Nat → Int32) × Int32)) : Nat → Int32 → (Nat → Int32) → Option ((Nat → Int32) × Int32)
  | 0, _, _ => none
  | n15 + 1, i1, i2 =>
    q_br (i1 ≤ 0) (
  K15 i1 i2) (
  q_gd (q_in (i1 - 1) 20) (
  q_br ((i2 ((i1 - 1).toNatClampNeg)) ≤ p1) (
  K15 i1 i2) (
  q_gd (q_in (i1 - 1) 20) (
  q_gd (q_in i1 20) (
  q_lt (upd i2 (i1.toNatClampNeg) (i2 ((i1 - 1).toNatClampNeg))) (fun u8 =>
  q_lt (i1 + (-1) : Int32) (fun v9 =>
  f_X2_insert_L15 p1 K15 n15 v9 u8)))))))
def f_X2_insert (x_notes : (Nat → Int32)) (x_size : Int32) (p1 : Int32) : Option ((Nat → Int32) × Int32) :=
  q_br (x_size < 20) (
  f_X2_insert_L15 p1 (fun y3 y4 =>
  q_gd (q_in y3 20) (
  q_lt (upd y4 (y3.toNatClampNeg) p1) (fun u11 =>
  some (u11, x_size + 1)))) 2000 x_size x_notes) (
  some (x_notes, x_size))
theorem hv_X2_insert : yX2_insert.cls = RX2 ∧ yX2_insert.cls ≠ "java/lang/invoke/MethodHandle" ∧ yX2_insert.cls ≠ "java/lang/invoke/VarHandle" ∧ (parseMethodDescriptor yX2_insert.desc).map (fun d => d.parameters.length) = some 1 := by decide +kernel
abbrev rm_X2_insert : Room := { frames := 0, cells := 0, slots := 0, locals := 0 }
set_option maxHeartbeats 4000000 in
set_option maxRecDepth 100000 in
theorem k_X2_insert (l : Launch) (E : ET) (a : Nat → Nat) (o : Nat) (x : Chord_t) (p1 : Int32) (res : (Nat → Int32) × Int32) (hF : f_X2_insert x.1 x.2.2 p1 = some res) (sz : Nat) : CtV l yX2_insert (mws yX2_insert cX2_insert 3 none) rm_X2_insert 0 0 [.ref (a o), .int p1] E (bl_Chord E a o x) (bl_Chord E a o (res.1, x.2.1, res.2)) sz := by
  refine mk_M (by decide +kernel) (Nat.le_of_ble_eq_true rfl) ?_
  intro p e s m below meth c A args Q ls hAe hsz hQ hx hb hr hml hin ha hown hlocks hA hz hzs hst hP hD hS hl
  have hown : s.vm.findClass RX2 = some m.cls := hown
  rw [hAe] at hQ
  subst hsz
  have hP : va_P E.1 vwCl (List.flatten [w_Chord E a o x]) s.heap := hP
  have hD : va_D A (List.flatten [w_Chord E a o x]) := hD
  have hl : lv_has ls 3 [(0, .ref (a o)), (1, .int p1)] := hl
  generalize hHe : s.heap = H at hP
  have hS : va_S A s.heap H [] := by rw [← hHe]; exact hS
  generalize ([] : List Loc) = locs at hS ⊢
  unfold f_X2_insert at hF
  refine lv_aload_n hx hb dX2_insert_0 rfl (lv_at hl 0 rfl) ?_
  refine va_get (D := E.1) (ci := 4) (v := .int x.2.2) (C := RX2) (T := TX2) (N := 3) hx hb ha in_X2 hown hst.k hP 0 rfl rfl 2 (by decide) (ha _ mw243) (fun _ h9 => h9) rfl dX2_insert_1 ?_
  refine lv_bipush (v := 20) hx hb dX2_insert_4 (by decide) ?_
  refine lv_icmp_lt (tgt := 10) hx hb dX2_insert_6 (by decide) (fun c6 => ?_) (fun c6 => ?_)
  · have hF := q_brp c6 hF
    refine lv_aload_n hx hb dX2_insert_10 rfl (lv_at hl 0 rfl) ?_
    refine va_get (D := E.1) (ci := 4) (v := .int x.2.2) (C := RX2) (T := TX2) (N := 3) hx hb ha in_X2 hown hst.k hP 0 rfl rfl 2 (by decide) (ha _ mw243) (fun _ h9 => h9) rfl dX2_insert_11 ?_
    refine lv_istore_n (lv' := [(2, .int x.2.2), (0, .ref (a o)), (1, .int p1)]) hx hb dX2_insert_14 rfl hl (by decide) rfl (fun ls hl => ?_)
    have key15 : ∀ (K : Int32 → (Nat → Int32) → Option ((Nat → Int32) × Int32)), (∀ (y3 : Int32) (y4 : (Nat → Int32)) (H : Heap) (locs : List Loc) (ls : Array Slot), K y3 y4 = some res → va_P E.1 vwCl (List.flatten [w_Chord E a o (y4, x.2.1, x.2.2)]) H → va_D A (List.flatten [w_Chord E a o (y4, x.2.1, x.2.2)]) → va_S A s.heap H locs → lv_has ls 3 [(2, .int y3), (0, .ref (a o)), (1, .int p1)] → W p l e rm_X2_insert s m args below meth c H locs 0 0 Q (F0 m 51 ls [])) → ∀ (n : Nat) (i1 : Int32) (i2 : (Nat → Int32)) (H : Heap) (locs : List Loc) (ls : Array Slot), f_X2_insert_L15 p1 K n i1 i2 = some res → va_P E.1 vwCl (List.flatten [w_Chord E a o (i2, x.2.1, x.2.2)]) H → va_D A (List.flatten [w_Chord E a o (i2, x.2.1, x.2.2)]) → va_S A s.heap H locs → lv_has ls 3 [(2, .int i1), (0, .ref (a o)), (1, .int p1)] → W p l e rm_X2_insert s m args below meth c H locs 0 0 Q (F0 m 15 ls []) := by
      intro K15 hK15 n15
      induction n15 with
      | zero => intro i1 i2 H locs ls hF; exact absurd hF (by simp [f_X2_insert_L15])
      | succ n15 ih15 =>
        intro i1 i2 H locs ls hF hP hD hS hl
        rw [f_X2_insert_L15] at hF
        refine lv_iload_n hx hb dX2_insert_15 rfl (lv_at hl 0 rfl) ?_
        refine lv_if_le (tgt := 51) hx hb dX2_insert_16 (by decide) (fun c16 => ?_) (fun c16 => ?_)
        · have hF := q_brp c16 hF
          exact hK15 i1 i2 H locs ls hF hP hD hS (lv_sub hl [0, 1, 2] rfl)
        · have hF := q_brn c16 hF
          refine lv_aload_n hx hb dX2_insert_19 rfl (lv_at hl 1 rfl) ?_
          refine va_get (D := E.1) (ci := 4) (v := .ref (a (o + 1))) (C := RX2) (T := TX2) (N := 3) hx hb ha in_X2 hown hst.k hP 0 rfl rfl 0 (by decide) (ha _ mw240) (fun _ h9 => h9) rfl dX2_insert_20 ?_
          refine lv_iload_n hx hb dX2_insert_23 rfl (lv_at hl 0 rfl) ?_
          refine lv_iconst (v := 1) hx hb dX2_insert_24 (by decide) ?_
          refine lv_isub hx hb dX2_insert_25 ?_
          obtain ⟨g5, hF⟩ := q_gdi hF
          refine vi_iald hx hb hst.k hP 1 0 rfl rfl (f := i2) (k := (i1 - 1).toNatClampNeg) rfl g5 dX2_insert_26 ?_
          refine lv_iload_n hx hb dX2_insert_27 rfl (lv_at hl 2 rfl) ?_
          refine lv_icmp_le (tgt := 51) hx hb dX2_insert_28 (by decide) (fun c28 => ?_) (fun c28 => ?_)
          · have hF := q_brp c28 hF
            exact hK15 i1 i2 H locs ls hF hP hD hS (lv_sub hl [0, 1, 2] rfl)
          · have hF := q_brn c28 hF
            refine lv_aload_n hx hb dX2_insert_31 rfl (lv_at hl 1 rfl) ?_
            refine va_get (D := E.1) (ci := 4) (v := .ref (a (o + 1))) (C := RX2) (T := TX2) (N := 3) hx hb ha in_X2 hown hst.k hP 0 rfl rfl 0 (by decide) (ha _ mw240) (fun _ h9 => h9) rfl dX2_insert_32 ?_
            refine lv_iload_n hx hb dX2_insert_35 rfl (lv_at hl 0 rfl) ?_
            refine lv_aload_n hx hb dX2_insert_36 rfl (lv_at hl 1 rfl) ?_
            refine va_get (D := E.1) (ci := 4) (v := .ref (a (o + 1))) (C := RX2) (T := TX2) (N := 3) hx hb ha in_X2 hown hst.k hP 0 rfl rfl 0 (by decide) (ha _ mw240) (fun _ h9 => h9) rfl dX2_insert_37 ?_
            refine lv_iload_n hx hb dX2_insert_40 rfl (lv_at hl 0 rfl) ?_
            refine lv_iconst (v := 1) hx hb dX2_insert_41 (by decide) ?_
            refine lv_isub hx hb dX2_insert_42 ?_
            obtain ⟨g6, hF⟩ := q_gdi hF
            refine vi_iald hx hb hst.k hP 1 0 rfl rfl (f := i2) (k := (i1 - 1).toNatClampNeg) rfl g6 dX2_insert_43 ?_
            obtain ⟨g7, hF⟩ := q_gdi hF
            refine vj_iast hx hb hst.k hP hD hS 1 0 rfl rfl (f := i2) (k := i1.toNatClampNeg) rfl g7 dX2_insert_44 (fun u8 eu8 H locs hP hD hS => ?_)
            have hF := q_lti eu8 hF
            have hP : va_P E.1 vwCl (List.flatten [w_Chord E a o (u8, x.2.1, x.2.2)]) H := hP
            have hD : va_D A (List.flatten [w_Chord E a o (u8, x.2.1, x.2.2)]) := hD
            obtain ⟨v9, ev9⟩ : ∃ y : Int32, y = i1 + (-1) := ⟨_, rfl⟩
            have hF := q_lti ev9 hF
            refine lv_iinc (v := v9) (lv' := [(2, .int v9), (0, .ref (a o)), (1, .int p1)]) hx hb dX2_insert_45 hl (k := 0) rfl (by rw [ev9]; rfl) (by decide) rfl (fun ls hl => ?_)
            refine lv_goto (tgt := 15) hx hb dX2_insert_48 (by decide) ?_
            exact ih15 v9 u8 H locs ls hF hP hD hS (lv_sub hl [0, 1, 2] rfl)
    refine key15 _ ?_ _ x.2.2 x.1 H locs ls hF hP hD hS (lv_sub hl [0, 1, 2] rfl)
    intro y3 y4 H locs ls hF hP hD hS hl
    refine lv_aload_n hx hb dX2_insert_51 rfl (lv_at hl 1 rfl) ?_
    refine va_get (D := E.1) (ci := 4) (v := .ref (a (o + 1))) (C := RX2) (T := TX2) (N := 3) hx hb ha in_X2 hown hst.k hP 0 rfl rfl 0 (by decide) (ha _ mw240) (fun _ h9 => h9) rfl dX2_insert_52 ?_
    refine lv_iload_n hx hb dX2_insert_55 rfl (lv_at hl 0 rfl) ?_
    refine lv_iload_n hx hb dX2_insert_56 rfl (lv_at hl 2 rfl) ?_
    obtain ⟨g10, hF⟩ := q_gdi hF
    refine vj_iast hx hb hst.k hP hD hS 1 0 rfl rfl (f := y4) (k := y3.toNatClampNeg) rfl g10 dX2_insert_57 (fun u11 eu11 H locs hP hD hS => ?_)
    have hF := q_lti eu11 hF
    have hP : va_P E.1 vwCl (List.flatten [w_Chord E a o (u11, x.2.1, x.2.2)]) H := hP
    have hD : va_D A (List.flatten [w_Chord E a o (u11, x.2.1, x.2.2)]) := hD
    refine lv_aload_n hx hb dX2_insert_58 rfl (lv_at hl 1 rfl) ?_
    refine lv_dup hx hb dX2_insert_59 rfl ?_
    refine va_get (D := E.1) (ci := 4) (v := .int x.2.2) (C := RX2) (T := TX2) (N := 3) hx hb ha in_X2 hown hst.k hP 0 rfl rfl 2 (by decide) (ha _ mw243) (fun _ h9 => h9) rfl dX2_insert_60 ?_
    refine lv_iconst (v := 1) hx hb dX2_insert_63 (by decide) ?_
    refine lv_iadd hx hb dX2_insert_64 ?_
    refine va_put (D := E.1) (ci := 4) (v := .int (x.2.2 + 1)) (ty := .int) (C := RX2) (T := TX2) (N := 3) hx hb ha in_X2 tyX2 tyX2_ok nmX2 hown hst.k hP hD hS 0 rfl rfl 2 (by decide) (ha _ mw243) (fun _ h9 => h9) rfl (tyX2_ok 2 (by decide)) rfl rfl (Nat.le_of_ble_eq_true rfl) dX2_insert_65 (fun H locs hP hD hS => ?_)
    have hP : va_P E.1 vwCl (List.flatten [w_Chord E a o (u11, x.2.1, x.2.2 + 1)]) H := hP
    have hD : va_D A (List.flatten [w_Chord E a o (u11, x.2.1, x.2.2 + 1)]) := hD
    obtain rfl := Option.some.inj hF
    exact en_v hQ (Nat.le_of_ble_eq_true rfl) (Nat.le_of_ble_eq_true rfl) hx hb hr hlocks hP hD hS dX2_insert_68
  · have hF := q_brn c6 hF
    obtain rfl := Option.some.inj hF
    exact en_v hQ (Nat.le_of_ble_eq_true rfl) (Nat.le_of_ble_eq_true rfl) hx hb hr hlocks hP hD hS dX2_insert_9

/-! X2_addTones -/
theorem dX2_addTones_0 : decode cX2_addTones 0 = .ok (.iconst 0, 1) := by decide +kernel
theorem dX2_addTones_1 : decode cX2_addTones 1 = .ok (.istore 4, 2) := by decide +kernel
theorem dX2_addTones_3 : decode cX2_addTones 3 = .ok (.iload 4, 2) := by decide +kernel
theorem dX2_addTones_5 : decode cX2_addTones 5 = .ok (.iconst 4, 1) := by decide +kernel
theorem dX2_addTones_6 : decode cX2_addTones 6 = .ok (.if_icmp .ge 48, 3) := by decide +kernel
theorem dX2_addTones_9 : decode cX2_addTones 9 = .ok (.aload_n 1, 1) := by decide +kernel
theorem dX2_addTones_10 : decode cX2_addTones 10 = .ok (.getfield 47, 3) := by decide +kernel
theorem dX2_addTones_13 : decode cX2_addTones 13 = .ok (.iload 4, 2) := by decide +kernel
theorem dX2_addTones_15 : decode cX2_addTones 15 = .ok (.iload_n 2, 1) := by decide +kernel
theorem dX2_addTones_16 : decode cX2_addTones 16 = .ok (.invokevirtual 51, 3) := by decide +kernel
theorem dX2_addTones_19 : decode cX2_addTones 19 = .ok (.istore 5, 2) := by decide +kernel
theorem dX2_addTones_21 : decode cX2_addTones 21 = .ok (.aload_n 1, 1) := by decide +kernel
theorem dX2_addTones_22 : decode cX2_addTones 22 = .ok (.getfield 57, 3) := by decide +kernel
theorem dX2_addTones_25 : decode cX2_addTones 25 = .ok (.iload 5, 2) := by decide +kernel
theorem dX2_addTones_27 : decode cX2_addTones 27 = .ok (.invokevirtual 61, 3) := by decide +kernel
theorem dX2_addTones_30 : decode cX2_addTones 30 = .ok (.ifCond .eq 18, 3) := by decide +kernel
theorem dX2_addTones_33 : decode cX2_addTones 33 = .ok (.aload_n 0, 1) := by decide +kernel
theorem dX2_addTones_34 : decode cX2_addTones 34 = .ok (.aload_n 1, 1) := by decide +kernel
theorem dX2_addTones_35 : decode cX2_addTones 35 = .ok (.getfield 57, 3) := by decide +kernel
theorem dX2_addTones_38 : decode cX2_addTones 38 = .ok (.iload 5, 2) := by decide +kernel
theorem dX2_addTones_40 : decode cX2_addTones 40 = .ok (.invokevirtual 67, 3) := by decide +kernel
theorem dX2_addTones_43 : decode cX2_addTones 43 = .ok (.iload_n 3, 1) := by decide +kernel
theorem dX2_addTones_44 : decode cX2_addTones 44 = .ok (.iadd, 1) := by decide +kernel
theorem dX2_addTones_45 : decode cX2_addTones 45 = .ok (.invokevirtual 71, 3) := by decide +kernel
theorem dX2_addTones_48 : decode cX2_addTones 48 = .ok (.iinc 4 1, 3) := by decide +kernel
theorem dX2_addTones_51 : decode cX2_addTones 51 = .ok (.goto (-48), 3) := by decide +kernel
theorem dX2_addTones_54 : decode cX2_addTones 54 = .ok (.return_, 1) := by decide +kernel
def f_X2_addTones_L3 (y_bells_pitches : (Nat → Int32)) (y_bells_count : Int32) (y_melodies_lengths : (Nat → Int32)) (y_melodies_entries : (Nat → Int32)) (y_melodies_tones : (Nat → Int32)) (p2 : Int32) (p3 : Int32) : Nat → Int32 → (Nat → Int32) → Int32 → Option ((Nat → Int32) × Int32)
  | 0, _, _, _ => none
  | n3 + 1, i1, i2, i3 =>
    q_br (4 ≤ i1) (
  some (i2, i3)) (
  q_bd (f_X7_bellAtBeat y_melodies_lengths y_melodies_entries y_melodies_tones i1 p2) (fun q4 =>
  q_bd (f_X1_has y_bells_count q4) (fun q5 =>
  q_lt (fun (j6 : (Nat → Int32)) (j7 : Int32) =>
  q_lt (i1 + 1 : Int32) (fun v8 =>
  f_X2_addTones_L3 y_bells_pitches y_bells_count y_melodies_lengths y_melodies_entries y_melodies_tones p2 p3 n3 v8 j6 j7)) (fun (J48 : (Nat → Int32) → Int32 → Option ((Nat → Int32) × Int32)) =>
  q_br (q5 = 0) (
  J48 i2 i3) (
  q_bd (f_X1_noteOf y_bells_pitches q4) (fun q9 =>
  q_bd (f_X2_insert i2 i3 (q9 + p3)) (fun q10 =>
  J48 q10.1 q10.2)))))))
def f_X2_addTones (x_notes : (Nat → Int32)) (x_size : Int32) (y_bells_pitches : (Nat → Int32)) (y_bells_count : Int32) (y_melodies_lengths : (Nat → Int32)) (y_melodies_entries : (Nat → Int32)) (y_melodies_tones : (Nat → Int32)) (p2 : Int32) (p3 : Int32) : Option ((Nat → Int32) × Int32) :=
  f_X2_addTones_L3 y_bells_pitches y_bells_count y_melodies_lengths y_melodies_entries y_melodies_tones p2 p3 2000 0 x_notes x_size
theorem hv_X2_addTones : yX2_addTones.cls = RX2 ∧ yX2_addTones.cls ≠ "java/lang/invoke/MethodHandle" ∧ yX2_addTones.cls ≠ "java/lang/invoke/VarHandle" ∧ (parseMethodDescriptor yX2_addTones.desc).map (fun d => d.parameters.length) = some 3 := by decide +kernel
abbrev rm_X2_addTones : Room := { frames := 3, cells := 0, slots := 0, locals := 67 }
set_option maxHeartbeats 4000000 in
set_option maxRecDepth 100000 in
theorem k_X2_addTones (l : Launch) (E : ET) (a : Nat → Nat) (o : Nat) (x : Chord_t) (ay : Nat → Nat) (oy : Nat) (y : Valley_t) (p2 : Int32) (p3 : Int32) (res : (Nat → Int32) × Int32) (hF : f_X2_addTones x.1 x.2.2 y.2.1.2.1 y.2.1.2.2 y.2.2.1.1 y.2.2.1.2.1 y.2.2.1.2.2 p2 p3 = some res) (sz : Nat) : CtV l yX2_addTones (mws yX2_addTones cX2_addTones 6 none) rm_X2_addTones 0 0 [.ref (a o), .ref (ay oy), .int p2, .int p3] E (bl_Chord E a o x ++ bl_Valley E ay oy y) (bl_Chord E a o (res.1, x.2.1, res.2) ++ bl_Valley E ay oy y) sz := by
  refine mk_M (by decide +kernel) (Nat.le_of_ble_eq_true rfl) ?_
  intro p e s m below meth c A args Q ls hAe hsz hQ hx hb hr hml hin ha hown hlocks hA hz hzs hst hP hD hS hl
  have hown : s.vm.findClass RX2 = some m.cls := hown
  rw [hAe] at hQ
  subst hsz
  have hP : va_P E.1 vwCl (List.flatten [w_Chord E a o x, w_ValleyR ay oy, w_Key E ay (oy + 1) y.1, w_Bells E ay (oy + 2) y.2.1, w_Mel E ay (oy + 5) y.2.2.1, w_Cliffs E ay (oy + 9) y.2.2.2]) s.heap := hP
  have hD : va_D A (List.flatten [w_Chord E a o x, w_ValleyR ay oy, w_Key E ay (oy + 1) y.1, w_Bells E ay (oy + 2) y.2.1, w_Mel E ay (oy + 5) y.2.2.1, w_Cliffs E ay (oy + 9) y.2.2.2]) := hD
  have hl : lv_has ls 6 [(0, .ref (a o)), (1, .ref (ay oy)), (2, .int p2), (3, .int p3)] := hl
  generalize hHe : s.heap = H at hP
  have hS : va_S A s.heap H [] := by rw [← hHe]; exact hS
  generalize ([] : List Loc) = locs at hS ⊢
  unfold f_X2_addTones at hF
  refine lv_iconst (v := 0) hx hb dX2_addTones_0 (by decide) ?_
  refine lv_istore (lv' := [(4, .int 0), (0, .ref (a o)), (1, .ref (ay oy)), (2, .int p2), (3, .int p3)]) hx hb dX2_addTones_1 hl (by decide) rfl (fun ls hl => ?_)
  have key3 : ∀ (n : Nat) (i1 : Int32) (i2 : (Nat → Int32)) (i3 : Int32) (H : Heap) (locs : List Loc) (ls : Array Slot), f_X2_addTones_L3 y.2.1.2.1 y.2.1.2.2 y.2.2.1.1 y.2.2.1.2.1 y.2.2.1.2.2 p2 p3 n i1 i2 i3 = some res → va_P E.1 vwCl (List.flatten [w_Chord E a o (i2, x.2.1, i3), w_ValleyR ay oy, w_Key E ay (oy + 1) y.1, w_Bells E ay (oy + 2) y.2.1, w_Mel E ay (oy + 5) y.2.2.1, w_Cliffs E ay (oy + 9) y.2.2.2]) H → va_D A (List.flatten [w_Chord E a o (i2, x.2.1, i3), w_ValleyR ay oy, w_Key E ay (oy + 1) y.1, w_Bells E ay (oy + 2) y.2.1, w_Mel E ay (oy + 5) y.2.2.1, w_Cliffs E ay (oy + 9) y.2.2.2]) → va_S A s.heap H locs → lv_has ls 6 [(4, .int i1), (0, .ref (a o)), (1, .ref (ay oy)), (2, .int p2), (3, .int p3)] → W p l e rm_X2_addTones s m args below meth c H locs 0 0 Q (F0 m 3 ls []) := by
    intro n3
    induction n3 with
    | zero => intro i1 i2 i3 H locs ls hF; exact absurd hF (by simp [f_X2_addTones_L3])
    | succ n3 ih3 =>
      intro i1 i2 i3 H locs ls hF hP hD hS hl
      rw [f_X2_addTones_L3] at hF
      refine lv_iload hx hb dX2_addTones_3 (lv_at hl 0 rfl) ?_
      refine lv_iconst (v := 4) hx hb dX2_addTones_5 (by decide) ?_
      refine lv_icmp_ge (tgt := 54) hx hb dX2_addTones_6 (by decide) (fun c6 => ?_) (fun c6 => ?_)
      · have hF := q_brp c6 hF
        obtain rfl := Option.some.inj hF
        exact en_v hQ (Nat.le_of_ble_eq_true rfl) (Nat.le_of_ble_eq_true rfl) hx hb hr hlocks hP hD hS dX2_addTones_54
      · have hF := q_brn c6 hF
        refine lv_aload_n hx hb dX2_addTones_9 rfl (lv_at hl 2 rfl) ?_
        refine va_getN (D := E.1) (ci := 10) (v := .ref (ay (oy + 5))) (C := RX9) (T := TX9) (N := 4) hx hb ha in_X9 hown hst.k hP 3 rfl rfl 2 (by decide) (va_Nw.use rfl (nf18 hst)) (fun _ h9 => h9) rfl dX2_addTones_10 ?_
        refine lv_iload hx hb dX2_addTones_13 (lv_at hl 0 rfl) ?_
        refine lv_iload_n hx hb dX2_addTones_15 rfl (lv_at hl 3 rfl) ?_
        obtain ⟨q4, hq4, hF⟩ := q_bdi hF
        refine cl_i (Lc := [w_Mel E ay (oy + 5) y.2.2.1]) (Lc' := [w_Mel E ay (oy + 5) y.2.2.1]) (L' := [w_Chord E a o (i2, x.2.1, i3), w_ValleyR ay oy, w_Key E ay (oy + 1) y.1, w_Bells E ay (oy + 2) y.2.1, w_Mel E ay (oy + 5) y.2.2.1, w_Cliffs E ay (oy + 9) y.2.2.2]) (rv := q4) (va_runV (As := [.int i1, .int p2]) (rest := []) ⟨hx, hb, hml, hown, ha⟩ (k_X7_bellAtBeat l E ay (oy + 5) y.2.2.1 i1 p2 q4 hq4 H.size) (cwV 2 ha (gi_V (fun _ h => h) mw854 mw855 mw856 mw30 mw857) rfl rfl rfl hv_X7_bellAtBeat ⟨(Nat.le_of_ble_eq_true rfl), (Nat.le_of_ble_eq_true rfl)⟩) ⟨pre_blind, va_recv hst.k (fr_P hP [4] rfl) (ci := 8) (q0 := 0) rfl rfl, pre_at hP hD hS hz hzs hst [4] (by decide) rfl rfl⟩ rfl rfl hl.1 rfl (lv_room (Nat.le_of_ble_eq_true rfl)) dX2_addTones_16 ⟨(Nat.le_of_ble_eq_true rfl), (Nat.le_of_ble_eq_true rfl)⟩) hP hD hS hA [4] (by decide) rfl rfl rfl rfl (fun H locs hP hD hS => ?_)
        refine lv_istore (lv' := [(5, .int q4), (4, .int i1), (0, .ref (a o)), (1, .ref (ay oy)), (2, .int p2), (3, .int p3)]) hx hb dX2_addTones_19 hl (by decide) rfl (fun ls hl => ?_)
        refine lv_aload_n hx hb dX2_addTones_21 rfl (lv_at hl 3 rfl) ?_
        refine va_getN (D := E.1) (ci := 10) (v := .ref (ay (oy + 2))) (C := RX9) (T := TX9) (N := 4) hx hb ha in_X9 hown hst.k hP 3 rfl rfl 1 (by decide) (va_Nw.use rfl (nf16 hst)) (fun _ h9 => h9) rfl dX2_addTones_22 ?_
        refine lv_iload hx hb dX2_addTones_25 (lv_at hl 0 rfl) ?_
        obtain ⟨q5, hq5, hF⟩ := q_bdi hF
        refine cl_i (Lc := [w_Bells E ay (oy + 2) y.2.1]) (Lc' := [w_Bells E ay (oy + 2) y.2.1]) (L' := [w_Chord E a o (i2, x.2.1, i3), w_ValleyR ay oy, w_Key E ay (oy + 1) y.1, w_Bells E ay (oy + 2) y.2.1, w_Mel E ay (oy + 5) y.2.2.1, w_Cliffs E ay (oy + 9) y.2.2.2]) (rv := q5) (va_runV (As := [.int q4]) (rest := []) ⟨hx, hb, hml, hown, ha⟩ (k_X1_has l E ay (oy + 2) y.2.1 q4 q5 hq5 H.size) (cwV 1 ha (gi_V (fun _ h => h) mw860 mw382 mw383 mw29 mw384) rfl rfl rfl hv_X1_has ⟨(Nat.le_of_ble_eq_true rfl), (Nat.le_of_ble_eq_true rfl)⟩) ⟨pre_blind, va_recv hst.k (fr_P hP [3] rfl) (ci := 3) (q0 := 0) rfl rfl, pre_at hP hD hS hz hzs hst [3] (by decide) rfl rfl⟩ rfl rfl hl.1 rfl (lv_room (Nat.le_of_ble_eq_true rfl)) dX2_addTones_27 ⟨(Nat.le_of_ble_eq_true rfl), (Nat.le_of_ble_eq_true rfl)⟩) hP hD hS hA [3] (by decide) rfl rfl rfl rfl (fun H locs hP hD hS => ?_)
        obtain ⟨J48, hJ48, hF⟩ := q_jn hF
        have jJ48 : ∀ (j6 : (Nat → Int32)) (j7 : Int32), ∀ (H : Heap) (locs : List Loc) (ls : Array Slot), J48 j6 j7 = some res → va_P E.1 vwCl (List.flatten [w_Chord E a o (j6, x.2.1, j7), w_ValleyR ay oy, w_Key E ay (oy + 1) y.1, w_Bells E ay (oy + 2) y.2.1, w_Mel E ay (oy + 5) y.2.2.1, w_Cliffs E ay (oy + 9) y.2.2.2]) H → va_D A (List.flatten [w_Chord E a o (j6, x.2.1, j7), w_ValleyR ay oy, w_Key E ay (oy + 1) y.1, w_Bells E ay (oy + 2) y.2.1, w_Mel E ay (oy + 5) y.2.2.1, w_Cliffs E ay (oy + 9) y.2.2.2]) → va_S A s.heap H locs → lv_has ls 6 [(4, .int i1), (0, .ref (a o)), (1, .ref (ay oy)), (2, .int p2), (3, .int p3)] → W p l e rm_X2_addTones s m args below meth c H locs 0 0 Q (F0 m 48 ls []) := by
          intro j6 j7 H locs ls hF hP hD hS hl
          rw [hJ48] at hF
          obtain ⟨v8, ev8⟩ : ∃ y : Int32, y = i1 + 1 := ⟨_, rfl⟩
          have hF := q_lti ev8 hF
          refine lv_iinc (v := v8) (lv' := [(4, .int v8), (0, .ref (a o)), (1, .ref (ay oy)), (2, .int p2), (3, .int p3)]) hx hb dX2_addTones_48 hl (k := 0) rfl (by rw [ev8]; rfl) (by decide) rfl (fun ls hl => ?_)
          refine lv_goto (tgt := 3) hx hb dX2_addTones_51 (by decide) ?_
          exact ih3 v8 j6 j7 H locs ls hF hP hD hS (lv_sub hl [0, 1, 2, 3, 4] rfl)
        refine lv_if_eq (tgt := 48) hx hb dX2_addTones_30 (by decide) (fun c30 => ?_) (fun c30 => ?_)
        · have hF := q_brp c30 hF
          exact jJ48 i2 i3 H locs ls hF hP hD hS (lv_sub hl [1, 2, 3, 4, 5] rfl)
        · have hF := q_brn c30 hF
          refine lv_aload_n hx hb dX2_addTones_33 rfl (lv_at hl 2 rfl) ?_
          refine lv_aload_n hx hb dX2_addTones_34 rfl (lv_at hl 3 rfl) ?_
          refine va_getN (D := E.1) (ci := 10) (v := .ref (ay (oy + 2))) (C := RX9) (T := TX9) (N := 4) hx hb ha in_X9 hown hst.k hP 3 rfl rfl 1 (by decide) (va_Nw.use rfl (nf16 hst)) (fun _ h9 => h9) rfl dX2_addTones_35 ?_
          refine lv_iload hx hb dX2_addTones_38 (lv_at hl 0 rfl) ?_
          obtain ⟨q9, hq9, hF⟩ := q_bdi hF
          refine cl_i (Lc := [w_Bells E ay (oy + 2) y.2.1]) (Lc' := [w_Bells E ay (oy + 2) y.2.1]) (L' := [w_Chord E a o (i2, x.2.1, i3), w_ValleyR ay oy, w_Key E ay (oy + 1) y.1, w_Bells E ay (oy + 2) y.2.1, w_Mel E ay (oy + 5) y.2.2.1, w_Cliffs E ay (oy + 9) y.2.2.2]) (rv := q9) (va_runV (As := [.int q4]) (rest := [.ref (a o)]) ⟨hx, hb, hml, hown, ha⟩ (k_X1_noteOf l E ay (oy + 2) y.2.1 q4 q9 hq9 H.size) (cwV 1 ha (gi_V (fun _ h => h) mw861 mw670 mw671 mw29 mw672) rfl rfl rfl hv_X1_noteOf ⟨(Nat.le_of_ble_eq_true rfl), (Nat.le_of_ble_eq_true rfl)⟩) ⟨pre_blind, va_recv hst.k (fr_P hP [3] rfl) (ci := 3) (q0 := 0) rfl rfl, pre_at hP hD hS hz hzs hst [3] (by decide) rfl rfl⟩ rfl rfl hl.1 rfl (lv_room (Nat.le_of_ble_eq_true rfl)) dX2_addTones_40 ⟨(Nat.le_of_ble_eq_true rfl), (Nat.le_of_ble_eq_true rfl)⟩) hP hD hS hA [3] (by decide) rfl rfl rfl rfl (fun H locs hP hD hS => ?_)
          refine lv_iload_n hx hb dX2_addTones_43 rfl (lv_at hl 5 rfl) ?_
          refine lv_iadd hx hb dX2_addTones_44 ?_
          obtain ⟨q10, hq10, hF⟩ := q_bdi hF
          refine cl_v (Lc := [w_Chord E a o (i2, x.2.1, i3)]) (Lc' := [w_Chord E a o (q10.1, x.2.1, q10.2)]) (L' := [w_Chord E a o (q10.1, x.2.1, q10.2), w_ValleyR ay oy, w_Key E ay (oy + 1) y.1, w_Bells E ay (oy + 2) y.2.1, w_Mel E ay (oy + 5) y.2.2.1, w_Cliffs E ay (oy + 9) y.2.2.2]) (va_runV (As := [.int (q9 + p3)]) (rest := []) ⟨hx, hb, hml, hown, ha⟩ (k_X2_insert l E a o (i2, x.2.1, i3) (q9 + p3) q10 hq10 H.size) (cwV 1 ha (gi_V (fun _ h => h) mw862 mw864 mw12 mw34 mw865) rfl rfl rfl hv_X2_insert ⟨(Nat.le_of_ble_eq_true rfl), (Nat.le_of_ble_eq_true rfl)⟩) ⟨pre_blind, va_recv hst.k (fr_P hP [0] rfl) (ci := 4) (q0 := 0) rfl rfl, pre_at hP hD hS hz hzs hst [0] (by decide) rfl rfl⟩ rfl rfl hl.1 rfl (lv_room (Nat.le_of_ble_eq_true rfl)) dX2_addTones_45 ⟨(Nat.le_of_ble_eq_true rfl), (Nat.le_of_ble_eq_true rfl)⟩) hP hD hS hA [0] (by decide) rfl rfl rfl rfl (fun H locs hP hD hS => ?_)
          exact jJ48 q10.1 q10.2 H locs ls hF hP hD hS (lv_sub hl [1, 2, 3, 4, 5] rfl)
  exact key3 _ 0 x.1 x.2.2 H locs ls hF hP hD hS (lv_sub hl [0, 1, 2, 3, 4] rfl)

/-! X2_listen -/
theorem dX2_listen_0 : decode cX2_listen 0 = .ok (.aload_n 0, 1) := by decide +kernel
theorem dX2_listen_1 : decode cX2_listen 1 = .ok (.iconst 0, 1) := by decide +kernel
theorem dX2_listen_2 : decode cX2_listen 2 = .ok (.putfield 20, 3) := by decide +kernel
theorem dX2_listen_5 : decode cX2_listen 5 = .ok (.iload_n 2, 1) := by decide +kernel
theorem dX2_listen_6 : decode cX2_listen 6 = .ok (.iconst 0, 1) := by decide +kernel
theorem dX2_listen_7 : decode cX2_listen 7 = .ok (.bipush 30, 2) := by decide +kernel
theorem dX2_listen_9 : decode cX2_listen 9 = .ok (.invokestatic 24, 3) := by decide +kernel
theorem dX2_listen_12 : decode cX2_listen 12 = .ok (.ifCond .ne 4, 3) := by decide +kernel
theorem dX2_listen_15 : decode cX2_listen 15 = .ok (.return_, 1) := by decide +kernel
theorem dX2_listen_16 : decode cX2_listen 16 = .ok (.aload_n 0, 1) := by decide +kernel
theorem dX2_listen_17 : decode cX2_listen 17 = .ok (.aload_n 1, 1) := by decide +kernel
theorem dX2_listen_18 : decode cX2_listen 18 = .ok (.iload_n 2, 1) := by decide +kernel
theorem dX2_listen_19 : decode cX2_listen 19 = .ok (.iconst 0, 1) := by decide +kernel
theorem dX2_listen_20 : decode cX2_listen 20 = .ok (.invokevirtual 28, 3) := by decide +kernel
theorem dX2_listen_23 : decode cX2_listen 23 = .ok (.iconst 0, 1) := by decide +kernel
theorem dX2_listen_24 : decode cX2_listen 24 = .ok (.istore_n 3, 1) := by decide +kernel
theorem dX2_listen_25 : decode cX2_listen 25 = .ok (.iload_n 3, 1) := by decide +kernel
theorem dX2_listen_26 : decode cX2_listen 26 = .ok (.aload_n 1, 1) := by decide +kernel
theorem dX2_listen_27 : decode cX2_listen 27 = .ok (.getfield 32, 3) := by decide +kernel
theorem dX2_listen_30 : decode cX2_listen 30 = .ok (.getfield 38, 3) := by decide +kernel
theorem dX2_listen_33 : decode cX2_listen 33 = .ok (.if_icmp .ge 34, 3) := by decide +kernel
theorem dX2_listen_36 : decode cX2_listen 36 = .ok (.aload_n 0, 1) := by decide +kernel
theorem dX2_listen_37 : decode cX2_listen 37 = .ok (.aload_n 1, 1) := by decide +kernel
theorem dX2_listen_38 : decode cX2_listen 38 = .ok (.iload_n 2, 1) := by decide +kernel
theorem dX2_listen_39 : decode cX2_listen 39 = .ok (.aload_n 1, 1) := by decide +kernel
theorem dX2_listen_40 : decode cX2_listen 40 = .ok (.getfield 32, 3) := by decide +kernel
theorem dX2_listen_43 : decode cX2_listen 43 = .ok (.getfield 41, 3) := by decide +kernel
theorem dX2_listen_46 : decode cX2_listen 46 = .ok (.iload_n 3, 1) := by decide +kernel
theorem dX2_listen_47 : decode cX2_listen 47 = .ok (.iaload, 1) := by decide +kernel
theorem dX2_listen_48 : decode cX2_listen 48 = .ok (.isub, 1) := by decide +kernel
theorem dX2_listen_49 : decode cX2_listen 49 = .ok (.aload_n 1, 1) := by decide +kernel
theorem dX2_listen_50 : decode cX2_listen 50 = .ok (.getfield 32, 3) := by decide +kernel
theorem dX2_listen_53 : decode cX2_listen 53 = .ok (.getfield 44, 3) := by decide +kernel
theorem dX2_listen_56 : decode cX2_listen 56 = .ok (.iload_n 3, 1) := by decide +kernel
theorem dX2_listen_57 : decode cX2_listen 57 = .ok (.iaload, 1) := by decide +kernel
theorem dX2_listen_58 : decode cX2_listen 58 = .ok (.invokevirtual 28, 3) := by decide +kernel
theorem dX2_listen_61 : decode cX2_listen 61 = .ok (.iinc 3 1, 3) := by decide +kernel
theorem dX2_listen_64 : decode cX2_listen 64 = .ok (.goto (-39), 3) := by decide +kernel
theorem dX2_listen_67 : decode cX2_listen 67 = .ok (.return_, 1) := by decide +kernel
def f_X2_listen_L25 (y_bells_pitches : (Nat → Int32)) (y_bells_count : Int32) (y_melodies_lengths : (Nat → Int32)) (y_melodies_entries : (Nat → Int32)) (y_melodies_tones : (Nat → Int32)) (y_cliffs_delays : (Nat → Int32)) (y_cliffs_transpositions : (Nat → Int32)) (y_cliffs_count : Int32) (p2 : Int32) : Nat → Int32 → (Nat → Int32) → Int32 → Option ((Nat → Int32) × Int32)
  | 0, _, _, _ => none
  | n25 + 1, i3, i4, i5 =>
    q_br (y_cliffs_count ≤ i3) (
  some (i4, i5)) (
  q_gd (q_in i3 4) (
  q_gd (q_in i3 4) (
  q_bd (f_X2_addTones i4 i5 y_bells_pitches y_bells_count y_melodies_lengths y_melodies_entries y_melodies_tones (p2 - (y_cliffs_delays (i3.toNatClampNeg))) (y_cliffs_transpositions (i3.toNatClampNeg))) (fun q8 =>
  q_lt (i3 + 1 : Int32) (fun v9 =>
  f_X2_listen_L25 y_bells_pitches y_bells_count y_melodies_lengths y_melodies_entries y_melodies_tones y_cliffs_delays y_cliffs_transpositions y_cliffs_count p2 n25 v9 q8.1 q8.2)))))
def f_X2_listen (x_notes : (Nat → Int32)) (x_size : Int32) (y_bells_pitches : (Nat → Int32)) (y_bells_count : Int32) (y_melodies_lengths : (Nat → Int32)) (y_melodies_entries : (Nat → Int32)) (y_melodies_tones : (Nat → Int32)) (y_cliffs_delays : (Nat → Int32)) (y_cliffs_transpositions : (Nat → Int32)) (y_cliffs_count : Int32) (p2 : Int32) : Option ((Nat → Int32) × Int32) :=
  q_bd (f_X10_isWithin p2 0 30) (fun q1 =>
  q_br (q1 = 0) (
  some (x_notes, 0)) (
  q_bd (f_X2_addTones x_notes 0 y_bells_pitches y_bells_count y_melodies_lengths y_melodies_entries y_melodies_tones p2 0) (fun q2 =>
  f_X2_listen_L25 y_bells_pitches y_bells_count y_melodies_lengths y_melodies_entries y_melodies_tones y_cliffs_delays y_cliffs_transpositions y_cliffs_count p2 2000 0 q2.1 q2.2)))
theorem hv_X2_listen : yX2_listen.cls = RX2 ∧ yX2_listen.cls ≠ "java/lang/invoke/MethodHandle" ∧ yX2_listen.cls ≠ "java/lang/invoke/VarHandle" ∧ (parseMethodDescriptor yX2_listen.desc).map (fun d => d.parameters.length) = some 2 := by decide +kernel
abbrev rm_X2_listen : Room := { frames := 4, cells := 0, slots := 0, locals := 92 }
set_option maxHeartbeats 4000000 in
set_option maxRecDepth 100000 in
theorem k_X2_listen (l : Launch) (E : ET) (a : Nat → Nat) (o : Nat) (x : Chord_t) (ay : Nat → Nat) (oy : Nat) (y : Valley_t) (p2 : Int32) (res : (Nat → Int32) × Int32) (hF : f_X2_listen x.1 x.2.2 y.2.1.2.1 y.2.1.2.2 y.2.2.1.1 y.2.2.1.2.1 y.2.2.1.2.2 y.2.2.2.1 y.2.2.2.2.1 y.2.2.2.2.2 p2 = some res) (sz : Nat) : CtV l yX2_listen (mws yX2_listen cX2_listen 4 none) rm_X2_listen 0 0 [.ref (a o), .ref (ay oy), .int p2] E (bl_Chord E a o x ++ bl_Valley E ay oy y) (bl_Chord E a o (res.1, x.2.1, res.2) ++ bl_Valley E ay oy y) sz := by
  refine mk_M (by decide +kernel) (Nat.le_of_ble_eq_true rfl) ?_
  intro p e s m below meth c A args Q ls hAe hsz hQ hx hb hr hml hin ha hown hlocks hA hz hzs hst hP hD hS hl
  have hown : s.vm.findClass RX2 = some m.cls := hown
  rw [hAe] at hQ
  subst hsz
  have hP : va_P E.1 vwCl (List.flatten [w_Chord E a o x, w_ValleyR ay oy, w_Key E ay (oy + 1) y.1, w_Bells E ay (oy + 2) y.2.1, w_Mel E ay (oy + 5) y.2.2.1, w_Cliffs E ay (oy + 9) y.2.2.2]) s.heap := hP
  have hD : va_D A (List.flatten [w_Chord E a o x, w_ValleyR ay oy, w_Key E ay (oy + 1) y.1, w_Bells E ay (oy + 2) y.2.1, w_Mel E ay (oy + 5) y.2.2.1, w_Cliffs E ay (oy + 9) y.2.2.2]) := hD
  have hl : lv_has ls 4 [(0, .ref (a o)), (1, .ref (ay oy)), (2, .int p2)] := hl
  generalize hHe : s.heap = H at hP
  have hS : va_S A s.heap H [] := by rw [← hHe]; exact hS
  generalize ([] : List Loc) = locs at hS ⊢
  unfold f_X2_listen at hF
  refine lv_aload_n hx hb dX2_listen_0 rfl (lv_at hl 0 rfl) ?_
  refine lv_iconst (v := 0) hx hb dX2_listen_1 (by decide) ?_
  refine va_put (D := E.1) (ci := 4) (v := .int 0) (ty := .int) (C := RX2) (T := TX2) (N := 3) hx hb ha in_X2 tyX2 tyX2_ok nmX2 hown hst.k hP hD hS 0 rfl rfl 2 (by decide) (ha _ mw243) (fun _ h9 => h9) rfl (tyX2_ok 2 (by decide)) rfl rfl (Nat.le_of_ble_eq_true rfl) dX2_listen_2 (fun H locs hP hD hS => ?_)
  have hP : va_P E.1 vwCl (List.flatten [w_Chord E a o (x.1, x.2.1, 0), w_ValleyR ay oy, w_Key E ay (oy + 1) y.1, w_Bells E ay (oy + 2) y.2.1, w_Mel E ay (oy + 5) y.2.2.1, w_Cliffs E ay (oy + 9) y.2.2.2]) H := hP
  have hD : va_D A (List.flatten [w_Chord E a o (x.1, x.2.1, 0), w_ValleyR ay oy, w_Key E ay (oy + 1) y.1, w_Bells E ay (oy + 2) y.2.1, w_Mel E ay (oy + 5) y.2.2.1, w_Cliffs E ay (oy + 9) y.2.2.2]) := hD
  refine lv_iload_n hx hb dX2_listen_5 rfl (lv_at hl 2 rfl) ?_
  refine lv_iconst (v := 0) hx hb dX2_listen_6 (by decide) ?_
  refine lv_bipush (v := 30) hx hb dX2_listen_7 (by decide) ?_
  obtain ⟨q1, hq1, hF⟩ := q_bdi hF
  refine cl_i (Lc := []) (Lc' := []) (L' := [w_Chord E a o (x.1, x.2.1, 0), w_ValleyR ay oy, w_Key E ay (oy + 1) y.1, w_Bells E ay (oy + 2) y.2.1, w_Mel E ay (oy + 5) y.2.2.1, w_Cliffs E ay (oy + 9) y.2.2.2]) (rv := q1) (va_runSN (As := [.int p2, .int 0, .int 30]) (rest := []) ⟨hx, hb, hml, hown, ha⟩ (k_X10_isWithin l E p2 0 30 q1 hq1 H.size) ⟨va_cnB 3 ha (gi_B (fun _ h => h) mw375) rfl rfl rfl (nm20 hst) (ha _ mw26) hv_X10_isWithin.2 ⟨(Nat.le_of_ble_eq_true rfl), (Nat.le_of_ble_eq_true rfl)⟩, (ha _ mw374), trivial⟩ ⟨pre_blind, pre_at hP hD hS hz hzs hst [] (by decide) rfl rfl⟩ rfl rfl hl.1 rfl (lv_room (Nat.le_of_ble_eq_true rfl)) dX2_listen_9 ⟨(Nat.le_of_ble_eq_true rfl), (Nat.le_of_ble_eq_true rfl)⟩) hP hD hS hA [] (by decide) rfl rfl rfl rfl (fun H locs hP hD hS => ?_)
  refine lv_if_ne (tgt := 16) hx hb dX2_listen_12 (by decide) (fun c12 => ?_) (fun c12 => ?_)
  · have hF := q_brn c12 hF
    refine lv_aload_n hx hb dX2_listen_16 rfl (lv_at hl 0 rfl) ?_
    refine lv_aload_n hx hb dX2_listen_17 rfl (lv_at hl 1 rfl) ?_
    refine lv_iload_n hx hb dX2_listen_18 rfl (lv_at hl 2 rfl) ?_
    refine lv_iconst (v := 0) hx hb dX2_listen_19 (by decide) ?_
    obtain ⟨q2, hq2, hF⟩ := q_bdi hF
    refine cl_v (Lc := [w_Chord E a o (x.1, x.2.1, 0), w_ValleyR ay oy, w_Key E ay (oy + 1) y.1, w_Bells E ay (oy + 2) y.2.1, w_Mel E ay (oy + 5) y.2.2.1, w_Cliffs E ay (oy + 9) y.2.2.2]) (Lc' := [w_Chord E a o (q2.1, x.2.1, q2.2), w_ValleyR ay oy, w_Key E ay (oy + 1) y.1, w_Bells E ay (oy + 2) y.2.1, w_Mel E ay (oy + 5) y.2.2.1, w_Cliffs E ay (oy + 9) y.2.2.2]) (L' := [w_Chord E a o (q2.1, x.2.1, q2.2), w_ValleyR ay oy, w_Key E ay (oy + 1) y.1, w_Bells E ay (oy + 2) y.2.1, w_Mel E ay (oy + 5) y.2.2.1, w_Cliffs E ay (oy + 9) y.2.2.2]) (va_runV (As := [.ref (ay oy), .int p2, .int 0]) (rest := []) ⟨hx, hb, hml, hown, ha⟩ (k_X2_addTones l E a o (x.1, x.2.1, 0) ay oy y p2 0 q2 hq2 H.size) (cwV 3 ha (gi_V (fun _ h => h) mw850 mw852 mw11 mw34 mw853) rfl rfl rfl hv_X2_addTones ⟨(Nat.le_of_ble_eq_true rfl), (Nat.le_of_ble_eq_true rfl)⟩) ⟨pre_blind, va_recv hst.k (fr_P hP [0, 1, 2, 3, 4, 5] rfl) (ci := 4) (q0 := 0) rfl rfl, pre_at hP hD hS hz hzs hst [0, 1, 2, 3, 4, 5] (by decide) rfl rfl⟩ rfl rfl hl.1 rfl (lv_room (Nat.le_of_ble_eq_true rfl)) dX2_listen_20 ⟨(Nat.le_of_ble_eq_true rfl), (Nat.le_of_ble_eq_true rfl)⟩) hP hD hS hA [0, 1, 2, 3, 4, 5] (by decide) rfl rfl rfl rfl (fun H locs hP hD hS => ?_)
    refine lv_iconst (v := 0) hx hb dX2_listen_23 (by decide) ?_
    refine lv_istore_n (lv' := [(3, .int 0), (0, .ref (a o)), (1, .ref (ay oy)), (2, .int p2)]) hx hb dX2_listen_24 rfl hl (by decide) rfl (fun ls hl => ?_)
    have key25 : ∀ (n : Nat) (i3 : Int32) (i4 : (Nat → Int32)) (i5 : Int32) (H : Heap) (locs : List Loc) (ls : Array Slot), f_X2_listen_L25 y.2.1.2.1 y.2.1.2.2 y.2.2.1.1 y.2.2.1.2.1 y.2.2.1.2.2 y.2.2.2.1 y.2.2.2.2.1 y.2.2.2.2.2 p2 n i3 i4 i5 = some res → va_P E.1 vwCl (List.flatten [w_Chord E a o (i4, x.2.1, i5), w_ValleyR ay oy, w_Key E ay (oy + 1) y.1, w_Bells E ay (oy + 2) y.2.1, w_Mel E ay (oy + 5) y.2.2.1, w_Cliffs E ay (oy + 9) y.2.2.2]) H → va_D A (List.flatten [w_Chord E a o (i4, x.2.1, i5), w_ValleyR ay oy, w_Key E ay (oy + 1) y.1, w_Bells E ay (oy + 2) y.2.1, w_Mel E ay (oy + 5) y.2.2.1, w_Cliffs E ay (oy + 9) y.2.2.2]) → va_S A s.heap H locs → lv_has ls 4 [(3, .int i3), (0, .ref (a o)), (1, .ref (ay oy)), (2, .int p2)] → W p l e rm_X2_listen s m args below meth c H locs 0 0 Q (F0 m 25 ls []) := by
      intro n25
      induction n25 with
      | zero => intro i3 i4 i5 H locs ls hF; exact absurd hF (by simp [f_X2_listen_L25])
      | succ n25 ih25 =>
        intro i3 i4 i5 H locs ls hF hP hD hS hl
        rw [f_X2_listen_L25] at hF
        refine lv_iload_n hx hb dX2_listen_25 rfl (lv_at hl 0 rfl) ?_
        refine lv_aload_n hx hb dX2_listen_26 rfl (lv_at hl 2 rfl) ?_
        refine va_getN (D := E.1) (ci := 10) (v := .ref (ay (oy + 9))) (C := RX9) (T := TX9) (N := 4) hx hb ha in_X9 hown hst.k hP 3 rfl rfl 3 (by decide) (va_Nw.use rfl (nf20 hst)) (fun _ h9 => h9) rfl dX2_listen_27 ?_
        refine va_getN (D := E.1) (ci := 5) (v := .int y.2.2.2.2.2) (C := RX3) (T := TX3) (N := 3) hx hb ha in_X3 hown hst.k hP 12 rfl rfl 2 (by decide) (va_Nw.use rfl (nf13 hst)) (fun _ h9 => h9) rfl dX2_listen_30 ?_
        refine lv_icmp_ge (tgt := 67) hx hb dX2_listen_33 (by decide) (fun c33 => ?_) (fun c33 => ?_)
        · have hF := q_brp c33 hF
          obtain rfl := Option.some.inj hF
          exact en_v hQ (Nat.le_of_ble_eq_true rfl) (Nat.le_of_ble_eq_true rfl) hx hb hr hlocks hP hD hS dX2_listen_67
        · have hF := q_brn c33 hF
          refine lv_aload_n hx hb dX2_listen_36 rfl (lv_at hl 1 rfl) ?_
          refine lv_aload_n hx hb dX2_listen_37 rfl (lv_at hl 2 rfl) ?_
          refine lv_iload_n hx hb dX2_listen_38 rfl (lv_at hl 3 rfl) ?_
          refine lv_aload_n hx hb dX2_listen_39 rfl (lv_at hl 2 rfl) ?_
          refine va_getN (D := E.1) (ci := 10) (v := .ref (ay (oy + 9))) (C := RX9) (T := TX9) (N := 4) hx hb ha in_X9 hown hst.k hP 3 rfl rfl 3 (by decide) (va_Nw.use rfl (nf20 hst)) (fun _ h9 => h9) rfl dX2_listen_40 ?_
          refine va_getN (D := E.1) (ci := 5) (v := .ref (ay (oy + 10))) (C := RX3) (T := TX3) (N := 3) hx hb ha in_X3 hown hst.k hP 12 rfl rfl 0 (by decide) (va_Nw.use rfl (nf9 hst)) (fun _ h9 => h9) rfl dX2_listen_43 ?_
          refine lv_iload_n hx hb dX2_listen_46 rfl (lv_at hl 0 rfl) ?_
          obtain ⟨g6, hF⟩ := q_gdi hF
          refine vi_iald hx hb hst.k hP 13 0 rfl rfl (f := y.2.2.2.1) (k := i3.toNatClampNeg) rfl g6 dX2_listen_47 ?_
          refine lv_isub hx hb dX2_listen_48 ?_
          refine lv_aload_n hx hb dX2_listen_49 rfl (lv_at hl 2 rfl) ?_
          refine va_getN (D := E.1) (ci := 10) (v := .ref (ay (oy + 9))) (C := RX9) (T := TX9) (N := 4) hx hb ha in_X9 hown hst.k hP 3 rfl rfl 3 (by decide) (va_Nw.use rfl (nf20 hst)) (fun _ h9 => h9) rfl dX2_listen_50 ?_
          refine va_getN (D := E.1) (ci := 5) (v := .ref (ay (oy + 11))) (C := RX3) (T := TX3) (N := 3) hx hb ha in_X3 hown hst.k hP 12 rfl rfl 1 (by decide) (va_Nw.use rfl (nf11 hst)) (fun _ h9 => h9) rfl dX2_listen_53 ?_
          refine lv_iload_n hx hb dX2_listen_56 rfl (lv_at hl 0 rfl) ?_
          obtain ⟨g7, hF⟩ := q_gdi hF
          refine vi_iald hx hb hst.k hP 14 0 rfl rfl (f := y.2.2.2.2.1) (k := i3.toNatClampNeg) rfl g7 dX2_listen_57 ?_
          obtain ⟨q8, hq8, hF⟩ := q_bdi hF
          refine cl_v (Lc := [w_Chord E a o (i4, x.2.1, i5), w_ValleyR ay oy, w_Key E ay (oy + 1) y.1, w_Bells E ay (oy + 2) y.2.1, w_Mel E ay (oy + 5) y.2.2.1, w_Cliffs E ay (oy + 9) y.2.2.2]) (Lc' := [w_Chord E a o (q8.1, x.2.1, q8.2), w_ValleyR ay oy, w_Key E ay (oy + 1) y.1, w_Bells E ay (oy + 2) y.2.1, w_Mel E ay (oy + 5) y.2.2.1, w_Cliffs E ay (oy + 9) y.2.2.2]) (L' := [w_Chord E a o (q8.1, x.2.1, q8.2), w_ValleyR ay oy, w_Key E ay (oy + 1) y.1, w_Bells E ay (oy + 2) y.2.1, w_Mel E ay (oy + 5) y.2.2.1, w_Cliffs E ay (oy + 9) y.2.2.2]) (va_runV (As := [.ref (ay oy), .int (p2 - (y.2.2.2.1 (i3.toNatClampNeg))), .int (y.2.2.2.2.1 (i3.toNatClampNeg))]) (rest := []) ⟨hx, hb, hml, hown, ha⟩ (k_X2_addTones l E a o (i4, x.2.1, i5) ay oy y (p2 - (y.2.2.2.1 (i3.toNatClampNeg))) (y.2.2.2.2.1 (i3.toNatClampNeg)) q8 hq8 H.size) (cwV 3 ha (gi_V (fun _ h => h) mw850 mw852 mw11 mw34 mw853) rfl rfl rfl hv_X2_addTones ⟨(Nat.le_of_ble_eq_true rfl), (Nat.le_of_ble_eq_true rfl)⟩) ⟨pre_blind, va_recv hst.k (fr_P hP [0, 1, 2, 3, 4, 5] rfl) (ci := 4) (q0 := 0) rfl rfl, pre_at hP hD hS hz hzs hst [0, 1, 2, 3, 4, 5] (by decide) rfl rfl⟩ rfl rfl hl.1 rfl (lv_room (Nat.le_of_ble_eq_true rfl)) dX2_listen_58 ⟨(Nat.le_of_ble_eq_true rfl), (Nat.le_of_ble_eq_true rfl)⟩) hP hD hS hA [0, 1, 2, 3, 4, 5] (by decide) rfl rfl rfl rfl (fun H locs hP hD hS => ?_)
          obtain ⟨v9, ev9⟩ : ∃ y : Int32, y = i3 + 1 := ⟨_, rfl⟩
          have hF := q_lti ev9 hF
          refine lv_iinc (v := v9) (lv' := [(3, .int v9), (0, .ref (a o)), (1, .ref (ay oy)), (2, .int p2)]) hx hb dX2_listen_61 hl (k := 0) rfl (by rw [ev9]; rfl) (by decide) rfl (fun ls hl => ?_)
          refine lv_goto (tgt := 25) hx hb dX2_listen_64 (by decide) ?_
          exact ih25 v9 q8.1 q8.2 H locs ls hF hP hD hS (lv_sub hl [0, 1, 2, 3] rfl)
    exact key25 _ 0 q2.1 q2.2 H locs ls hF hP hD hS (lv_sub hl [0, 1, 2, 3] rfl)
  · have hF := q_brp c12 hF
    obtain rfl := Option.some.inj hF
    exact en_v hQ (Nat.le_of_ble_eq_true rfl) (Nat.le_of_ble_eq_true rfl) hx hb hr hlocks hP hD hS dX2_listen_15

/-! X2_pairsOf -/
theorem dX2_pairsOf_0 : decode cX2_pairsOf 0 = .ok (.iconst 0, 1) := by decide +kernel
theorem dX2_pairsOf_1 : decode cX2_pairsOf 1 = .ok (.istore_n 2, 1) := by decide +kernel
theorem dX2_pairsOf_2 : decode cX2_pairsOf 2 = .ok (.iconst 0, 1) := by decide +kernel
theorem dX2_pairsOf_3 : decode cX2_pairsOf 3 = .ok (.istore_n 3, 1) := by decide +kernel
theorem dX2_pairsOf_4 : decode cX2_pairsOf 4 = .ok (.iload_n 3, 1) := by decide +kernel
theorem dX2_pairsOf_5 : decode cX2_pairsOf 5 = .ok (.aload_n 0, 1) := by decide +kernel
theorem dX2_pairsOf_6 : decode cX2_pairsOf 6 = .ok (.getfield 20, 3) := by decide +kernel
theorem dX2_pairsOf_9 : decode cX2_pairsOf 9 = .ok (.if_icmp .ge 53, 3) := by decide +kernel
theorem dX2_pairsOf_12 : decode cX2_pairsOf 12 = .ok (.iload_n 3, 1) := by decide +kernel
theorem dX2_pairsOf_13 : decode cX2_pairsOf 13 = .ok (.iconst 1, 1) := by decide +kernel
theorem dX2_pairsOf_14 : decode cX2_pairsOf 14 = .ok (.iadd, 1) := by decide +kernel
theorem dX2_pairsOf_15 : decode cX2_pairsOf 15 = .ok (.istore 4, 2) := by decide +kernel
theorem dX2_pairsOf_17 : decode cX2_pairsOf 17 = .ok (.iload 4, 2) := by decide +kernel
theorem dX2_pairsOf_19 : decode cX2_pairsOf 19 = .ok (.aload_n 0, 1) := by decide +kernel
theorem dX2_pairsOf_20 : decode cX2_pairsOf 20 = .ok (.getfield 20, 3) := by decide +kernel
theorem dX2_pairsOf_23 : decode cX2_pairsOf 23 = .ok (.if_icmp .ge 33, 3) := by decide +kernel
theorem dX2_pairsOf_26 : decode cX2_pairsOf 26 = .ok (.aload_n 0, 1) := by decide +kernel
theorem dX2_pairsOf_27 : decode cX2_pairsOf 27 = .ok (.getfield 13, 3) := by decide +kernel
theorem dX2_pairsOf_30 : decode cX2_pairsOf 30 = .ok (.iload 4, 2) := by decide +kernel
theorem dX2_pairsOf_32 : decode cX2_pairsOf 32 = .ok (.iaload, 1) := by decide +kernel
theorem dX2_pairsOf_33 : decode cX2_pairsOf 33 = .ok (.aload_n 0, 1) := by decide +kernel
theorem dX2_pairsOf_34 : decode cX2_pairsOf 34 = .ok (.getfield 13, 3) := by decide +kernel
theorem dX2_pairsOf_37 : decode cX2_pairsOf 37 = .ok (.iload_n 3, 1) := by decide +kernel
theorem dX2_pairsOf_38 : decode cX2_pairsOf 38 = .ok (.iaload, 1) := by decide +kernel
theorem dX2_pairsOf_39 : decode cX2_pairsOf 39 = .ok (.isub, 1) := by decide +kernel
theorem dX2_pairsOf_40 : decode cX2_pairsOf 40 = .ok (.aload_n 1, 1) := by decide +kernel
theorem dX2_pairsOf_41 : decode cX2_pairsOf 41 = .ok (.invokestatic 75, 3) := by decide +kernel
theorem dX2_pairsOf_44 : decode cX2_pairsOf 44 = .ok (.ifCond .eq 6, 3) := by decide +kernel
theorem dX2_pairsOf_47 : decode cX2_pairsOf 47 = .ok (.iinc 2 1, 3) := by decide +kernel
theorem dX2_pairsOf_50 : decode cX2_pairsOf 50 = .ok (.iinc 4 1, 3) := by decide +kernel
theorem dX2_pairsOf_53 : decode cX2_pairsOf 53 = .ok (.goto (-36), 3) := by decide +kernel
theorem dX2_pairsOf_56 : decode cX2_pairsOf 56 = .ok (.iinc 3 1, 3) := by decide +kernel
theorem dX2_pairsOf_59 : decode cX2_pairsOf 59 = .ok (.goto (-55), 3) := by decide +kernel
theorem dX2_pairsOf_62 : decode cX2_pairsOf 62 = .ok (.iload_n 2, 1) := by decide +kernel
theorem dX2_pairsOf_63 : decode cX2_pairsOf 63 = .ok (.ireturn, 1) := by decide +kernel
def f_X2_pairsOf_L17 (x_notes : (Nat → Int32)) (x_size : Int32) (p1 : List Int32) (i1 : Int32) (K17 : Int32 → Option (Int32)) : Nat → Int32 → Int32 → Option (Int32)
  | 0, _, _ => none
  | n17 + 1, i4, i5 =>
    q_br (x_size ≤ i4) (
  K17 i5) (
  q_gd (q_in i4 20) (
  q_gd (q_in i1 20) (
  q_bd (f_X10_belongs ((x_notes (i4.toNatClampNeg)) - (x_notes (i1.toNatClampNeg))) p1) (fun q9 =>
  q_lt (fun (j10 : Int32) =>
  q_lt (i4 + 1 : Int32) (fun v11 =>
  f_X2_pairsOf_L17 x_notes x_size p1 i1 K17 n17 v11 j10)) (fun (J50 : Int32 → Option (Int32)) =>
  q_br (q9 = 0) (
  J50 i5) (
  q_lt (i5 + 1 : Int32) (fun v12 =>
  J50 v12)))))))
def f_X2_pairsOf_L4 (x_notes : (Nat → Int32)) (x_size : Int32) (p1 : List Int32) : Nat → Int32 → Int32 → Option (Int32)
  | 0, _, _ => none
  | n4 + 1, i1, i2 =>
    q_br (x_size ≤ i1) (
  some i2) (
  q_lt (i1 + 1 : Int32) (fun v3 =>
  f_X2_pairsOf_L17 x_notes x_size p1 i1 (fun y6 =>
  q_lt (i1 + 1 : Int32) (fun v13 =>
  f_X2_pairsOf_L4 x_notes x_size p1 n4 v13 y6)) 2000 v3 i2))
def f_X2_pairsOf (x_notes : (Nat → Int32)) (x_size : Int32) (p1 : List Int32) : Option (Int32) :=
  f_X2_pairsOf_L4 x_notes x_size p1 2000 0 0
theorem hv_X2_pairsOf : yX2_pairsOf.cls = RX2 ∧ yX2_pairsOf.cls ≠ "java/lang/invoke/MethodHandle" ∧ yX2_pairsOf.cls ≠ "java/lang/invoke/VarHandle" ∧ (parseMethodDescriptor yX2_pairsOf.desc).map (fun d => d.parameters.length) = some 1 := by decide +kernel
abbrev rm_X2_pairsOf : Room := { frames := 2, cells := 0, slots := 0, locals := 43 }
set_option maxHeartbeats 4000000 in
set_option maxRecDepth 100000 in
theorem k_X2_pairsOf (l : Launch) (E : ET) (a : Nat → Nat) (o : Nat) (x : Chord_t) (p1 : List Int32) (t1 : Nat) (hTt1 : (FieldType.int, t1, 12, fun j => Value.int (p1.getD j 0)) ∈ tsL E) (res : Int32) (hF : f_X2_pairsOf x.1 x.2.2 p1 = some res) (sz : Nat) : CtI l yX2_pairsOf (mws yX2_pairsOf cX2_pairsOf 5 (some .int)) rm_X2_pairsOf 0 0 [.ref (a o), .ref (t1)] E (bl_Chord E a o x) res (bl_Chord E a o x) sz := by
  refine mk_M (by decide +kernel) (Nat.le_of_ble_eq_true rfl) ?_
  intro p e s m below meth c A args Q ls hAe hsz hQ hx hb hr hml hin ha hown hlocks hA hz hzs hst hP hD hS hl
  have hown : s.vm.findClass RX2 = some m.cls := hown
  rw [hAe] at hQ
  subst hsz
  have hP : va_P E.1 vwCl (List.flatten [w_Chord E a o x]) s.heap := hP
  have hD : va_D A (List.flatten [w_Chord E a o x]) := hD
  have hl : lv_has ls 5 [(0, .ref (a o)), (1, .ref (t1))] := hl
  generalize hHe : s.heap = H at hP
  have hS : va_S A s.heap H [] := by rw [← hHe]; exact hS
  generalize ([] : List Loc) = locs at hS ⊢
  unfold f_X2_pairsOf at hF
  refine lv_iconst (v := 0) hx hb dX2_pairsOf_0 (by decide) ?_
  refine lv_istore_n (lv' := [(2, .int 0), (0, .ref (a o)), (1, .ref (t1))]) hx hb dX2_pairsOf_1 rfl hl (by decide) rfl (fun ls hl => ?_)
  refine lv_iconst (v := 0) hx hb dX2_pairsOf_2 (by decide) ?_
  refine lv_istore_n (lv' := [(3, .int 0), (2, .int 0), (0, .ref (a o)), (1, .ref (t1))]) hx hb dX2_pairsOf_3 rfl hl (by decide) rfl (fun ls hl => ?_)
  have key4 : ∀ (n : Nat) (i1 : Int32) (i2 : Int32) (H : Heap) (locs : List Loc) (ls : Array Slot), f_X2_pairsOf_L4 x.1 x.2.2 p1 n i1 i2 = some res → va_P E.1 vwCl (List.flatten [w_Chord E a o x]) H → va_D A (List.flatten [w_Chord E a o x]) → va_S A s.heap H locs → lv_has ls 5 [(3, .int i1), (2, .int i2), (0, .ref (a o)), (1, .ref (t1))] → W p l e rm_X2_pairsOf s m args below meth c H locs 0 0 Q (F0 m 4 ls []) := by
    intro n4
    induction n4 with
    | zero => intro i1 i2 H locs ls hF; exact absurd hF (by simp [f_X2_pairsOf_L4])
    | succ n4 ih4 =>
      intro i1 i2 H locs ls hF hP hD hS hl
      rw [f_X2_pairsOf_L4] at hF
      refine lv_iload_n hx hb dX2_pairsOf_4 rfl (lv_at hl 0 rfl) ?_
      refine lv_aload_n hx hb dX2_pairsOf_5 rfl (lv_at hl 2 rfl) ?_
      refine va_get (D := E.1) (ci := 4) (v := .int x.2.2) (C := RX2) (T := TX2) (N := 3) hx hb ha in_X2 hown hst.k hP 0 rfl rfl 2 (by decide) (ha _ mw243) (fun _ h9 => h9) rfl dX2_pairsOf_6 ?_
      refine lv_icmp_ge (tgt := 62) hx hb dX2_pairsOf_9 (by decide) (fun c9 => ?_) (fun c9 => ?_)
      · have hF := q_brp c9 hF
        refine lv_iload_n hx hb dX2_pairsOf_62 rfl (lv_at hl 1 rfl) ?_
        obtain rfl := Option.some.inj hF
        exact en_i hQ (Nat.le_of_ble_eq_true rfl) (Nat.le_of_ble_eq_true rfl) hx hb hr hlocks hP hD hS rfl dX2_pairsOf_63
      · have hF := q_brn c9 hF
        refine lv_iload_n hx hb dX2_pairsOf_12 rfl (lv_at hl 0 rfl) ?_
        refine lv_iconst (v := 1) hx hb dX2_pairsOf_13 (by decide) ?_
        refine lv_iadd hx hb dX2_pairsOf_14 ?_
        refine lv_topi (fun v3 ev3 => ?_)
        have hF := q_lti ev3 hF
        refine lv_istore (lv' := [(4, .int v3), (3, .int i1), (2, .int i2), (0, .ref (a o)), (1, .ref (t1))]) hx hb dX2_pairsOf_15 hl (by decide) rfl (fun ls hl => ?_)
        have key17 : ∀ (K : Int32 → Option (Int32)), (∀ (y6 : Int32) (H : Heap) (locs : List Loc) (ls : Array Slot), K y6 = some res → va_P E.1 vwCl (List.flatten [w_Chord E a o x]) H → va_D A (List.flatten [w_Chord E a o x]) → va_S A s.heap H locs → lv_has ls 5 [(3, .int i1), (2, .int y6), (0, .ref (a o)), (1, .ref (t1))] → W p l e rm_X2_pairsOf s m args below meth c H locs 0 0 Q (F0 m 56 ls [])) → ∀ (n : Nat) (i4 : Int32) (i5 : Int32) (H : Heap) (locs : List Loc) (ls : Array Slot), f_X2_pairsOf_L17 x.1 x.2.2 p1 i1 K n i4 i5 = some res → va_P E.1 vwCl (List.flatten [w_Chord E a o x]) H → va_D A (List.flatten [w_Chord E a o x]) → va_S A s.heap H locs → lv_has ls 5 [(4, .int i4), (3, .int i1), (2, .int i5), (0, .ref (a o)), (1, .ref (t1))] → W p l e rm_X2_pairsOf s m args below meth c H locs 0 0 Q (F0 m 17 ls []) := by
          intro K17 hK17 n17
          induction n17 with
          | zero => intro i4 i5 H locs ls hF; exact absurd hF (by simp [f_X2_pairsOf_L17])
          | succ n17 ih17 =>
            intro i4 i5 H locs ls hF hP hD hS hl
            rw [f_X2_pairsOf_L17] at hF
            refine lv_iload hx hb dX2_pairsOf_17 (lv_at hl 0 rfl) ?_
            refine lv_aload_n hx hb dX2_pairsOf_19 rfl (lv_at hl 3 rfl) ?_
            refine va_get (D := E.1) (ci := 4) (v := .int x.2.2) (C := RX2) (T := TX2) (N := 3) hx hb ha in_X2 hown hst.k hP 0 rfl rfl 2 (by decide) (ha _ mw243) (fun _ h9 => h9) rfl dX2_pairsOf_20 ?_
            refine lv_icmp_ge (tgt := 56) hx hb dX2_pairsOf_23 (by decide) (fun c23 => ?_) (fun c23 => ?_)
            · have hF := q_brp c23 hF
              exact hK17 i5 H locs ls hF hP hD hS (lv_sub hl [1, 2, 3, 4] rfl)
            · have hF := q_brn c23 hF
              refine lv_aload_n hx hb dX2_pairsOf_26 rfl (lv_at hl 3 rfl) ?_
              refine va_get (D := E.1) (ci := 4) (v := .ref (a (o + 1))) (C := RX2) (T := TX2) (N := 3) hx hb ha in_X2 hown hst.k hP 0 rfl rfl 0 (by decide) (ha _ mw240) (fun _ h9 => h9) rfl dX2_pairsOf_27 ?_
              refine lv_iload hx hb dX2_pairsOf_30 (lv_at hl 0 rfl) ?_
              obtain ⟨g7, hF⟩ := q_gdi hF
              refine vi_iald hx hb hst.k hP 1 0 rfl rfl (f := x.1) (k := i4.toNatClampNeg) rfl g7 dX2_pairsOf_32 ?_
              refine lv_aload_n hx hb dX2_pairsOf_33 rfl (lv_at hl 3 rfl) ?_
              refine va_get (D := E.1) (ci := 4) (v := .ref (a (o + 1))) (C := RX2) (T := TX2) (N := 3) hx hb ha in_X2 hown hst.k hP 0 rfl rfl 0 (by decide) (ha _ mw240) (fun _ h9 => h9) rfl dX2_pairsOf_34 ?_
              refine lv_iload_n hx hb dX2_pairsOf_37 rfl (lv_at hl 1 rfl) ?_
              obtain ⟨g8, hF⟩ := q_gdi hF
              refine vi_iald hx hb hst.k hP 1 0 rfl rfl (f := x.1) (k := i1.toNatClampNeg) rfl g8 dX2_pairsOf_38 ?_
              refine lv_isub hx hb dX2_pairsOf_39 ?_
              refine lv_aload_n hx hb dX2_pairsOf_40 rfl (lv_at hl 4 rfl) ?_
              obtain ⟨q9, hq9, hF⟩ := q_bdi hF
              refine cl_i (Lc := []) (Lc' := []) (L' := [w_Chord E a o x]) (rv := q9) (va_runSN (As := [.int ((x.1 (i4.toNatClampNeg)) - (x.1 (i1.toNatClampNeg))), .ref (t1)]) (rest := []) ⟨hx, hb, hml, hown, ha⟩ (k_X10_belongs l E ((x.1 (i4.toNatClampNeg)) - (x.1 (i1.toNatClampNeg))) p1 t1 (hTt1) q9 hq9 H.size) ⟨va_cnB 2 ha (gi_B (fun _ h => h) mw435) rfl rfl rfl (nm21 hst) (ha _ mw26) hv_X10_belongs.2 ⟨(Nat.le_of_ble_eq_true rfl), (Nat.le_of_ble_eq_true rfl)⟩, (ha _ mw434), trivial⟩ ⟨pre_blind, pre_at hP hD hS hz hzs hst [] (by decide) rfl rfl⟩ rfl rfl hl.1 rfl (lv_room (Nat.le_of_ble_eq_true rfl)) dX2_pairsOf_41 ⟨(Nat.le_of_ble_eq_true rfl), (Nat.le_of_ble_eq_true rfl)⟩) hP hD hS hA [] (by decide) rfl rfl rfl rfl (fun H locs hP hD hS => ?_)
              obtain ⟨J50, hJ50, hF⟩ := q_jn hF
              have jJ50 : ∀ (j10 : Int32), ∀ (H : Heap) (locs : List Loc) (ls : Array Slot), J50 j10 = some res → va_P E.1 vwCl (List.flatten [w_Chord E a o x]) H → va_D A (List.flatten [w_Chord E a o x]) → va_S A s.heap H locs → lv_has ls 5 [(4, .int i4), (3, .int i1), (2, .int j10), (0, .ref (a o)), (1, .ref (t1))] → W p l e rm_X2_pairsOf s m args below meth c H locs 0 0 Q (F0 m 50 ls []) := by
                intro j10 H locs ls hF hP hD hS hl
                rw [hJ50] at hF
                obtain ⟨v11, ev11⟩ : ∃ y : Int32, y = i4 + 1 := ⟨_, rfl⟩
                have hF := q_lti ev11 hF
                refine lv_iinc (v := v11) (lv' := [(4, .int v11), (3, .int i1), (2, .int j10), (0, .ref (a o)), (1, .ref (t1))]) hx hb dX2_pairsOf_50 hl (k := 0) rfl (by rw [ev11]; rfl) (by decide) rfl (fun ls hl => ?_)
                refine lv_goto (tgt := 17) hx hb dX2_pairsOf_53 (by decide) ?_
                exact ih17 v11 j10 H locs ls hF hP hD hS (lv_sub hl [0, 1, 2, 3, 4] rfl)
              refine lv_if_eq (tgt := 50) hx hb dX2_pairsOf_44 (by decide) (fun c44 => ?_) (fun c44 => ?_)
              · have hF := q_brp c44 hF
                exact jJ50 i5 H locs ls hF hP hD hS (lv_sub hl [0, 1, 2, 3, 4] rfl)
              · have hF := q_brn c44 hF
                obtain ⟨v12, ev12⟩ : ∃ y : Int32, y = i5 + 1 := ⟨_, rfl⟩
                have hF := q_lti ev12 hF
                refine lv_iinc (v := v12) (lv' := [(2, .int v12), (4, .int i4), (3, .int i1), (0, .ref (a o)), (1, .ref (t1))]) hx hb dX2_pairsOf_47 hl (k := 2) rfl (by rw [ev12]; rfl) (by decide) rfl (fun ls hl => ?_)
                exact jJ50 v12 H locs ls hF hP hD hS (lv_sub hl [1, 2, 0, 3, 4] rfl)
        refine key17 _ ?_ _ v3 i2 H locs ls hF hP hD hS (lv_sub hl [0, 1, 2, 3, 4] rfl)
        intro y6 H locs ls hF hP hD hS hl
        obtain ⟨v13, ev13⟩ : ∃ y : Int32, y = i1 + 1 := ⟨_, rfl⟩
        have hF := q_lti ev13 hF
        refine lv_iinc (v := v13) (lv' := [(3, .int v13), (2, .int y6), (0, .ref (a o)), (1, .ref (t1))]) hx hb dX2_pairsOf_56 hl (k := 0) rfl (by rw [ev13]; rfl) (by decide) rfl (fun ls hl => ?_)
        refine lv_goto (tgt := 4) hx hb dX2_pairsOf_59 (by decide) ?_
        exact ih4 v13 y6 H locs ls hF hP hD hS (lv_sub hl [0, 1, 2, 3] rfl)
  exact key4 _ 0 0 H locs ls hF hP hD hS (lv_sub hl [0, 1, 2, 3] rfl)

/-! X2_dissonantPairs -/
theorem dX2_dissonantPairs_0 : decode cX2_dissonantPairs 0 = .ok (.aload_n 0, 1) := by decide +kernel
theorem dX2_dissonantPairs_1 : decode cX2_dissonantPairs 1 = .ok (.getfield 20, 3) := by decide +kernel
theorem dX2_dissonantPairs_4 : decode cX2_dissonantPairs 4 = .ok (.aload_n 0, 1) := by decide +kernel
theorem dX2_dissonantPairs_5 : decode cX2_dissonantPairs 5 = .ok (.getfield 20, 3) := by decide +kernel
theorem dX2_dissonantPairs_8 : decode cX2_dissonantPairs 8 = .ok (.iconst 1, 1) := by decide +kernel
theorem dX2_dissonantPairs_9 : decode cX2_dissonantPairs 9 = .ok (.isub, 1) := by decide +kernel
theorem dX2_dissonantPairs_10 : decode cX2_dissonantPairs 10 = .ok (.imul, 1) := by decide +kernel
theorem dX2_dissonantPairs_11 : decode cX2_dissonantPairs 11 = .ok (.iconst 2, 1) := by decide +kernel
theorem dX2_dissonantPairs_12 : decode cX2_dissonantPairs 12 = .ok (.idiv, 1) := by decide +kernel
theorem dX2_dissonantPairs_13 : decode cX2_dissonantPairs 13 = .ok (.aload_n 0, 1) := by decide +kernel
theorem dX2_dissonantPairs_14 : decode cX2_dissonantPairs 14 = .ok (.getstatic 79, 3) := by decide +kernel
theorem dX2_dissonantPairs_17 : decode cX2_dissonantPairs 17 = .ok (.invokevirtual 82, 3) := by decide +kernel
theorem dX2_dissonantPairs_20 : decode cX2_dissonantPairs 20 = .ok (.isub, 1) := by decide +kernel
theorem dX2_dissonantPairs_21 : decode cX2_dissonantPairs 21 = .ok (.ireturn, 1) := by decide +kernel
def f_X2_dissonantPairs (x_notes : (Nat → Int32)) (x_size : Int32) : Option (Int32) :=
  q_bd (f_X2_pairsOf x_notes x_size tb_cons) (fun q1 =>
  some (((x_size * (x_size - 1)) / 2) - q1))
theorem hv_X2_dissonantPairs : yX2_dissonantPairs.cls = RX2 ∧ yX2_dissonantPairs.cls ≠ "java/lang/invoke/MethodHandle" ∧ yX2_dissonantPairs.cls ≠ "java/lang/invoke/VarHandle" ∧ (parseMethodDescriptor yX2_dissonantPairs.desc).map (fun d => d.parameters.length) = some 0 := by decide +kernel
abbrev rm_X2_dissonantPairs : Room := { frames := 3, cells := 0, slots := 0, locals := 67 }
set_option maxHeartbeats 4000000 in
set_option maxRecDepth 100000 in
theorem k_X2_dissonantPairs (l : Launch) (E : ET) (a : Nat → Nat) (o : Nat) (x : Chord_t) (res : Int32) (hF : f_X2_dissonantPairs x.1 x.2.2 = some res) (sz : Nat) : CtI l yX2_dissonantPairs (mws yX2_dissonantPairs cX2_dissonantPairs 1 (some .int)) rm_X2_dissonantPairs 0 0 [.ref (a o)] E (bl_Chord E a o x) res (bl_Chord E a o x) sz := by
  refine mk_M (by decide +kernel) (Nat.le_of_ble_eq_true rfl) ?_
  intro p e s m below meth c A args Q ls hAe hsz hQ hx hb hr hml hin ha hown hlocks hA hz hzs hst hP hD hS hl
  have hown : s.vm.findClass RX2 = some m.cls := hown
  rw [hAe] at hQ
  subst hsz
  have hP : va_P E.1 vwCl (List.flatten [w_Chord E a o x]) s.heap := hP
  have hD : va_D A (List.flatten [w_Chord E a o x]) := hD
  have hl : lv_has ls 1 [(0, .ref (a o))] := hl
  generalize hHe : s.heap = H at hP
  have hS : va_S A s.heap H [] := by rw [← hHe]; exact hS
  generalize ([] : List Loc) = locs at hS ⊢
  unfold f_X2_dissonantPairs at hF
  refine lv_aload_n hx hb dX2_dissonantPairs_0 rfl (lv_at hl 0 rfl) ?_
  refine va_get (D := E.1) (ci := 4) (v := .int x.2.2) (C := RX2) (T := TX2) (N := 3) hx hb ha in_X2 hown hst.k hP 0 rfl rfl 2 (by decide) (ha _ mw243) (fun _ h9 => h9) rfl dX2_dissonantPairs_1 ?_
  refine lv_aload_n hx hb dX2_dissonantPairs_4 rfl (lv_at hl 0 rfl) ?_
  refine va_get (D := E.1) (ci := 4) (v := .int x.2.2) (C := RX2) (T := TX2) (N := 3) hx hb ha in_X2 hown hst.k hP 0 rfl rfl 2 (by decide) (ha _ mw243) (fun _ h9 => h9) rfl dX2_dissonantPairs_5 ?_
  refine lv_iconst (v := 1) hx hb dX2_dissonantPairs_8 (by decide) ?_
  refine lv_isub hx hb dX2_dissonantPairs_9 ?_
  refine lv_imul hx hb dX2_dissonantPairs_10 ?_
  refine lv_iconst (v := 2) hx hb dX2_dissonantPairs_11 (by decide) ?_
  refine lv_idiv hx hb dX2_dissonantPairs_12 (by decide) ?_
  refine lv_aload_n hx hb dX2_dissonantPairs_13 rfl (lv_at hl 0 rfl) ?_
  refine va_getsN (v := .ref (E.2 10)) hx hb (sz0 hst hz) hS hown (va_Nw.use rfl (nf26 hst)) (fun _ h9 => h9) dX2_dissonantPairs_14 ?_
  obtain ⟨q1, hq1, hF⟩ := q_bdi hF
  refine cl_i (Lc := [w_Chord E a o x]) (Lc' := [w_Chord E a o x]) (L' := [w_Chord E a o x]) (rv := q1) (va_runV (As := [.ref (E.2 10)]) (rest := [.int ((x.2.2 * (x.2.2 - 1)) / 2)]) ⟨hx, hb, hml, hown, ha⟩ (k_X2_pairsOf l E a o x tb_cons (E.2 10) (mt0 E) q1 hq1 H.size) (cwV 1 ha (gi_V (fun _ h => h) mw880 mw881 mw882 mw34 mw883) rfl rfl rfl hv_X2_pairsOf ⟨(Nat.le_of_ble_eq_true rfl), (Nat.le_of_ble_eq_true rfl)⟩) ⟨pre_blind, va_recv hst.k (fr_P hP [0] rfl) (ci := 4) (q0 := 0) rfl rfl, pre_at hP hD hS hz hzs hst [0] (by decide) rfl rfl⟩ rfl rfl hl.1 rfl (lv_room (Nat.le_of_ble_eq_true rfl)) dX2_dissonantPairs_17 ⟨(Nat.le_of_ble_eq_true rfl), (Nat.le_of_ble_eq_true rfl)⟩) hP hD hS hA [0] (by decide) rfl rfl rfl rfl (fun H locs hP hD hS => ?_)
  refine lv_isub hx hb dX2_dissonantPairs_20 ?_
  obtain rfl := Option.some.inj hF
  exact en_i hQ (Nat.le_of_ble_eq_true rfl) (Nat.le_of_ble_eq_true rfl) hx hb hr hlocks hP hD hS rfl dX2_dissonantPairs_21

/-! X2_countClasses -/
theorem dX2_countClasses_0 : decode cX2_countClasses 0 = .ok (.iconst 0, 1) := by decide +kernel
theorem dX2_countClasses_1 : decode cX2_countClasses 1 = .ok (.istore_n 1, 1) := by decide +kernel
theorem dX2_countClasses_2 : decode cX2_countClasses 2 = .ok (.iload_n 1, 1) := by decide +kernel
theorem dX2_countClasses_3 : decode cX2_countClasses 3 = .ok (.bipush 12, 2) := by decide +kernel
theorem dX2_countClasses_5 : decode cX2_countClasses 5 = .ok (.if_icmp .ge 16, 3) := by decide +kernel
theorem dX2_countClasses_8 : decode cX2_countClasses 8 = .ok (.aload_n 0, 1) := by decide +kernel
theorem dX2_countClasses_9 : decode cX2_countClasses 9 = .ok (.getfield 17, 3) := by decide +kernel
theorem dX2_countClasses_12 : decode cX2_countClasses 12 = .ok (.iload_n 1, 1) := by decide +kernel
theorem dX2_countClasses_13 : decode cX2_countClasses 13 = .ok (.iconst 0, 1) := by decide +kernel
theorem dX2_countClasses_14 : decode cX2_countClasses 14 = .ok (.iastore, 1) := by decide +kernel
theorem dX2_countClasses_15 : decode cX2_countClasses 15 = .ok (.iinc 1 1, 3) := by decide +kernel
theorem dX2_countClasses_18 : decode cX2_countClasses 18 = .ok (.goto (-16), 3) := by decide +kernel
theorem dX2_countClasses_21 : decode cX2_countClasses 21 = .ok (.iconst 0, 1) := by decide +kernel
theorem dX2_countClasses_22 : decode cX2_countClasses 22 = .ok (.istore_n 1, 1) := by decide +kernel
theorem dX2_countClasses_23 : decode cX2_countClasses 23 = .ok (.iload_n 1, 1) := by decide +kernel
theorem dX2_countClasses_24 : decode cX2_countClasses 24 = .ok (.aload_n 0, 1) := by decide +kernel
theorem dX2_countClasses_25 : decode cX2_countClasses 25 = .ok (.getfield 20, 3) := by decide +kernel
theorem dX2_countClasses_28 : decode cX2_countClasses 28 = .ok (.if_icmp .ge 29, 3) := by decide +kernel
theorem dX2_countClasses_31 : decode cX2_countClasses 31 = .ok (.aload_n 0, 1) := by decide +kernel
theorem dX2_countClasses_32 : decode cX2_countClasses 32 = .ok (.getfield 17, 3) := by decide +kernel
theorem dX2_countClasses_35 : decode cX2_countClasses 35 = .ok (.aload_n 0, 1) := by decide +kernel
theorem dX2_countClasses_36 : decode cX2_countClasses 36 = .ok (.getfield 13, 3) := by decide +kernel
theorem dX2_countClasses_39 : decode cX2_countClasses 39 = .ok (.iload_n 1, 1) := by decide +kernel
theorem dX2_countClasses_40 : decode cX2_countClasses 40 = .ok (.iaload, 1) := by decide +kernel
theorem dX2_countClasses_41 : decode cX2_countClasses 41 = .ok (.bipush 12, 2) := by decide +kernel
theorem dX2_countClasses_43 : decode cX2_countClasses 43 = .ok (.invokestatic 89, 3) := by decide +kernel
theorem dX2_countClasses_46 : decode cX2_countClasses 46 = .ok (.dup2, 1) := by decide +kernel
theorem dX2_countClasses_47 : decode cX2_countClasses 47 = .ok (.iaload, 1) := by decide +kernel
theorem dX2_countClasses_48 : decode cX2_countClasses 48 = .ok (.iconst 1, 1) := by decide +kernel
theorem dX2_countClasses_49 : decode cX2_countClasses 49 = .ok (.iadd, 1) := by decide +kernel
theorem dX2_countClasses_50 : decode cX2_countClasses 50 = .ok (.iastore, 1) := by decide +kernel
theorem dX2_countClasses_51 : decode cX2_countClasses 51 = .ok (.iinc 1 1, 3) := by decide +kernel
theorem dX2_countClasses_54 : decode cX2_countClasses 54 = .ok (.goto (-31), 3) := by decide +kernel
theorem dX2_countClasses_57 : decode cX2_countClasses 57 = .ok (.return_, 1) := by decide +kernel
def f_X2_countClasses_L2 (K2 : (Nat → Int32) → Option ((Nat → Int32))) : Nat → Int32 → (Nat → Int32) → Option ((Nat → Int32))
  | 0, _, _ => none
  | n2 + 1, i1, i2 =>
    q_br (12 ≤ i1) (
  K2 i2) (
  q_gd (q_in i1 12) (
  q_lt (upd i2 (i1.toNatClampNeg) 0) (fun u5 =>
  q_lt (i1 + 1 : Int32) (fun v6 =>
  f_X2_countClasses_L2  K2 n2 v6 u5))))
def f_X2_countClasses_L23 (x_notes : (Nat → Int32)) (x_size : Int32) : Nat → Int32 → (Nat → Int32) → Option ((Nat → Int32))
  | 0, _, _ => none
  | n23 + 1, i7, i8 =>
    q_br (x_size ≤ i7) (
  some i8) (
  q_gd (q_in i7 20) (
  q_bd (f_J9_floorMod_7cf53 (x_notes (i7.toNatClampNeg)) 12) (fun q10 =>
  q_gd (q_in q10 12) (
  q_gd (q_in q10 12) (
  q_lt (upd i8 (q10.toNatClampNeg) ((i8 (q10.toNatClampNeg)) + 1)) (fun u13 =>
  q_lt (i7 + 1 : Int32) (fun v14 =>
  f_X2_countClasses_L23 x_notes x_size n23 v14 u13)))))))
def f_X2_countClasses (x_notes : (Nat → Int32)) (x_classCounts : (Nat → Int32)) (x_size : Int32) : Option ((Nat → Int32)) :=
  f_X2_countClasses_L2  (fun y3 =>
  f_X2_countClasses_L23 x_notes x_size 2000 0 y3) 2000 0 x_classCounts
theorem hv_X2_countClasses : yX2_countClasses.cls = RX2 ∧ yX2_countClasses.cls ≠ "java/lang/invoke/MethodHandle" ∧ yX2_countClasses.cls ≠ "java/lang/invoke/VarHandle" ∧ (parseMethodDescriptor yX2_countClasses.desc).map (fun d => d.parameters.length) = some 0 := by decide +kernel
abbrev rm_X2_countClasses : Room := { frames := 1, cells := 0, slots := 0, locals := 22 }
set_option maxHeartbeats 4000000 in
set_option maxRecDepth 100000 in
theorem k_X2_countClasses (l : Launch) (E : ET) (a : Nat → Nat) (o : Nat) (x : Chord_t) (res : (Nat → Int32)) (hF : f_X2_countClasses x.1 x.2.1 x.2.2 = some res) (sz : Nat) : CtV l yX2_countClasses (mws yX2_countClasses cX2_countClasses 2 none) rm_X2_countClasses 0 0 [.ref (a o)] E (bl_Chord E a o x) (bl_Chord E a o (x.1, res, x.2.2)) sz := by
  refine mk_M (by decide +kernel) (Nat.le_of_ble_eq_true rfl) ?_
  intro p e s m below meth c A args Q ls hAe hsz hQ hx hb hr hml hin ha hown hlocks hA hz hzs hst hP hD hS hl
  have hown : s.vm.findClass RX2 = some m.cls := hown
  rw [hAe] at hQ
  subst hsz
  have hP : va_P E.1 vwCl (List.flatten [w_Chord E a o x]) s.heap := hP
  have hD : va_D A (List.flatten [w_Chord E a o x]) := hD
  have hl : lv_has ls 2 [(0, .ref (a o))] := hl
  generalize hHe : s.heap = H at hP
  have hS : va_S A s.heap H [] := by rw [← hHe]; exact hS
  generalize ([] : List Loc) = locs at hS ⊢
  unfold f_X2_countClasses at hF
  refine lv_iconst (v := 0) hx hb dX2_countClasses_0 (by decide) ?_
  refine lv_istore_n (lv' := [(1, .int 0), (0, .ref (a o))]) hx hb dX2_countClasses_1 rfl hl (by decide) rfl (fun ls hl => ?_)
  have key2 : ∀ (K : (Nat → Int32) → Option ((Nat → Int32))), (∀ (y3 : (Nat → Int32)) (H : Heap) (locs : List Loc) (ls : Array Slot), K y3 = some res → va_P E.1 vwCl (List.flatten [w_Chord E a o (x.1, y3, x.2.2)]) H → va_D A (List.flatten [w_Chord E a o (x.1, y3, x.2.2)]) → va_S A s.heap H locs → lv_has ls 2 [(0, .ref (a o))] → W p l e rm_X2_countClasses s m args below meth c H locs 0 0 Q (F0 m 21 ls [])) → ∀ (n : Nat) (i1 : Int32) (i2 : (Nat → Int32)) (H : Heap) (locs : List Loc) (ls : Array Slot), f_X2_countClasses_L2  K n i1 i2 = some res → va_P E.1 vwCl (List.flatten [w_Chord E a o (x.1, i2, x.2.2)]) H → va_D A (List.flatten [w_Chord E a o (x.1, i2, x.2.2)]) → va_S A s.heap H locs → lv_has ls 2 [(1, .int i1), (0, .ref (a o))] → W p l e rm_X2_countClasses s m args below meth c H locs 0 0 Q (F0 m 2 ls []) := by
    intro K2 hK2 n2
    induction n2 with
    | zero => intro i1 i2 H locs ls hF; exact absurd hF (by simp [f_X2_countClasses_L2])
    | succ n2 ih2 =>
      intro i1 i2 H locs ls hF hP hD hS hl
      rw [f_X2_countClasses_L2] at hF
      refine lv_iload_n hx hb dX2_countClasses_2 rfl (lv_at hl 0 rfl) ?_
      refine lv_bipush (v := 12) hx hb dX2_countClasses_3 (by decide) ?_
      refine lv_icmp_ge (tgt := 21) hx hb dX2_countClasses_5 (by decide) (fun c5 => ?_) (fun c5 => ?_)
      · have hF := q_brp c5 hF
        exact hK2 i2 H locs ls hF hP hD hS (lv_sub hl [1] rfl)
      · have hF := q_brn c5 hF
        refine lv_aload_n hx hb dX2_countClasses_8 rfl (lv_at hl 1 rfl) ?_
        refine va_get (D := E.1) (ci := 4) (v := .ref (a (o + 2))) (C := RX2) (T := TX2) (N := 3) hx hb ha in_X2 hown hst.k hP 0 rfl rfl 1 (by decide) (ha _ mw242) (fun _ h9 => h9) rfl dX2_countClasses_9 ?_
        refine lv_iload_n hx hb dX2_countClasses_12 rfl (lv_at hl 0 rfl) ?_
        refine lv_iconst (v := 0) hx hb dX2_countClasses_13 (by decide) ?_
        obtain ⟨g4, hF⟩ := q_gdi hF
        refine vj_iast hx hb hst.k hP hD hS 2 0 rfl rfl (f := i2) (k := i1.toNatClampNeg) rfl g4 dX2_countClasses_14 (fun u5 eu5 H locs hP hD hS => ?_)
        have hF := q_lti eu5 hF
        have hP : va_P E.1 vwCl (List.flatten [w_Chord E a o (x.1, u5, x.2.2)]) H := hP
        have hD : va_D A (List.flatten [w_Chord E a o (x.1, u5, x.2.2)]) := hD
        obtain ⟨v6, ev6⟩ : ∃ y : Int32, y = i1 + 1 := ⟨_, rfl⟩
        have hF := q_lti ev6 hF
        refine lv_iinc (v := v6) (lv' := [(1, .int v6), (0, .ref (a o))]) hx hb dX2_countClasses_15 hl (k := 0) rfl (by rw [ev6]; rfl) (by decide) rfl (fun ls hl => ?_)
        refine lv_goto (tgt := 2) hx hb dX2_countClasses_18 (by decide) ?_
        exact ih2 v6 u5 H locs ls hF hP hD hS (lv_sub hl [0, 1] rfl)
  refine key2 _ ?_ _ 0 x.2.1 H locs ls hF hP hD hS (lv_sub hl [0, 1] rfl)
  intro y3 H locs ls hF hP hD hS hl
  refine lv_iconst (v := 0) hx hb dX2_countClasses_21 (by decide) ?_
  refine lv_istore_n (lv' := [(1, .int 0), (0, .ref (a o))]) hx hb dX2_countClasses_22 rfl hl (by decide) rfl (fun ls hl => ?_)
  have key23 : ∀ (n : Nat) (i7 : Int32) (i8 : (Nat → Int32)) (H : Heap) (locs : List Loc) (ls : Array Slot), f_X2_countClasses_L23 x.1 x.2.2 n i7 i8 = some res → va_P E.1 vwCl (List.flatten [w_Chord E a o (x.1, i8, x.2.2)]) H → va_D A (List.flatten [w_Chord E a o (x.1, i8, x.2.2)]) → va_S A s.heap H locs → lv_has ls 2 [(1, .int i7), (0, .ref (a o))] → W p l e rm_X2_countClasses s m args below meth c H locs 0 0 Q (F0 m 23 ls []) := by
    intro n23
    induction n23 with
    | zero => intro i7 i8 H locs ls hF; exact absurd hF (by simp [f_X2_countClasses_L23])
    | succ n23 ih23 =>
      intro i7 i8 H locs ls hF hP hD hS hl
      rw [f_X2_countClasses_L23] at hF
      refine lv_iload_n hx hb dX2_countClasses_23 rfl (lv_at hl 0 rfl) ?_
      refine lv_aload_n hx hb dX2_countClasses_24 rfl (lv_at hl 1 rfl) ?_
      refine va_get (D := E.1) (ci := 4) (v := .int x.2.2) (C := RX2) (T := TX2) (N := 3) hx hb ha in_X2 hown hst.k hP 0 rfl rfl 2 (by decide) (ha _ mw243) (fun _ h9 => h9) rfl dX2_countClasses_25 ?_
      refine lv_icmp_ge (tgt := 57) hx hb dX2_countClasses_28 (by decide) (fun c28 => ?_) (fun c28 => ?_)
      · have hF := q_brp c28 hF
        obtain rfl := Option.some.inj hF
        exact en_v hQ (Nat.le_of_ble_eq_true rfl) (Nat.le_of_ble_eq_true rfl) hx hb hr hlocks hP hD hS dX2_countClasses_57
      · have hF := q_brn c28 hF
        refine lv_aload_n hx hb dX2_countClasses_31 rfl (lv_at hl 1 rfl) ?_
        refine va_get (D := E.1) (ci := 4) (v := .ref (a (o + 2))) (C := RX2) (T := TX2) (N := 3) hx hb ha in_X2 hown hst.k hP 0 rfl rfl 1 (by decide) (ha _ mw242) (fun _ h9 => h9) rfl dX2_countClasses_32 ?_
        refine lv_aload_n hx hb dX2_countClasses_35 rfl (lv_at hl 1 rfl) ?_
        refine va_get (D := E.1) (ci := 4) (v := .ref (a (o + 1))) (C := RX2) (T := TX2) (N := 3) hx hb ha in_X2 hown hst.k hP 0 rfl rfl 0 (by decide) (ha _ mw240) (fun _ h9 => h9) rfl dX2_countClasses_36 ?_
        refine lv_iload_n hx hb dX2_countClasses_39 rfl (lv_at hl 0 rfl) ?_
        obtain ⟨g9, hF⟩ := q_gdi hF
        refine vi_iald hx hb hst.k hP 1 0 rfl rfl (f := x.1) (k := i7.toNatClampNeg) rfl g9 dX2_countClasses_40 ?_
        refine lv_bipush (v := 12) hx hb dX2_countClasses_41 (by decide) ?_
        obtain ⟨q10, hq10, hF⟩ := q_bdi hF
        refine cl_i (Lc := []) (Lc' := []) (L' := [w_Chord E a o (x.1, i8, x.2.2)]) (rv := q10) (va_runS (As := [.int (x.1 (i7.toNatClampNeg)), .int 12]) (rest := [.ref (a (o + 2))]) ⟨hx, hb, hml, hown, ha⟩ (k_J9_floorMod_7cf53 l E (x.1 (i7.toNatClampNeg)) 12 q10 hq10 H.size) (va_cwS 2 ha (gi_T (fun _ h => h) mw897 mw437 mw48 mw438) rfl rfl rfl hv_J9_floorMod_7cf53.2 ⟨(Nat.le_of_ble_eq_true rfl), (Nat.le_of_ble_eq_true rfl)⟩) ⟨pre_blind, pre_at hP hD hS hz hzs hst [] (by decide) rfl rfl⟩ rfl rfl hl.1 rfl (lv_room (Nat.le_of_ble_eq_true rfl)) dX2_countClasses_43 ⟨(Nat.le_of_ble_eq_true rfl), (Nat.le_of_ble_eq_true rfl)⟩) hP hD hS hA [] (by decide) rfl rfl rfl rfl (fun H locs hP hD hS => ?_)
        refine lv_dup2_11 hx hb dX2_countClasses_46 rfl rfl ?_
        obtain ⟨g11, hF⟩ := q_gdi hF
        refine vi_iald hx hb hst.k hP 2 0 rfl rfl (f := i8) (k := q10.toNatClampNeg) rfl g11 dX2_countClasses_47 ?_
        refine lv_iconst (v := 1) hx hb dX2_countClasses_48 (by decide) ?_
        refine lv_iadd hx hb dX2_countClasses_49 ?_
        obtain ⟨g12, hF⟩ := q_gdi hF
        refine vj_iast hx hb hst.k hP hD hS 2 0 rfl rfl (f := i8) (k := q10.toNatClampNeg) rfl g12 dX2_countClasses_50 (fun u13 eu13 H locs hP hD hS => ?_)
        have hF := q_lti eu13 hF
        have hP : va_P E.1 vwCl (List.flatten [w_Chord E a o (x.1, u13, x.2.2)]) H := hP
        have hD : va_D A (List.flatten [w_Chord E a o (x.1, u13, x.2.2)]) := hD
        obtain ⟨v14, ev14⟩ : ∃ y : Int32, y = i7 + 1 := ⟨_, rfl⟩
        have hF := q_lti ev14 hF
        refine lv_iinc (v := v14) (lv' := [(1, .int v14), (0, .ref (a o))]) hx hb dX2_countClasses_51 hl (k := 0) rfl (by rw [ev14]; rfl) (by decide) rfl (fun ls hl => ?_)
        refine lv_goto (tgt := 23) hx hb dX2_countClasses_54 (by decide) ?_
        exact ih23 v14 u13 H locs ls hF hP hD hS (lv_sub hl [0, 1] rfl)
  exact key23 _ 0 y3 H locs ls hF hP hD hS (lv_sub hl [0, 1] rfl)

/-! X2_dissonantPairsByClasses -/
theorem dX2_dissonantPairsByClasses_0 : decode cX2_dissonantPairsByClasses 0 = .ok (.aload_n 0, 1) := by decide +kernel
theorem dX2_dissonantPairsByClasses_1 : decode cX2_dissonantPairsByClasses 1 = .ok (.invokevirtual 86, 3) := by decide +kernel
theorem dX2_dissonantPairsByClasses_4 : decode cX2_dissonantPairsByClasses 4 = .ok (.iconst 0, 1) := by decide +kernel
theorem dX2_dissonantPairsByClasses_5 : decode cX2_dissonantPairsByClasses 5 = .ok (.istore_n 1, 1) := by decide +kernel
theorem dX2_dissonantPairsByClasses_6 : decode cX2_dissonantPairsByClasses 6 = .ok (.iconst 0, 1) := by decide +kernel
theorem dX2_dissonantPairsByClasses_7 : decode cX2_dissonantPairsByClasses 7 = .ok (.istore_n 2, 1) := by decide +kernel
theorem dX2_dissonantPairsByClasses_8 : decode cX2_dissonantPairsByClasses 8 = .ok (.iload_n 2, 1) := by decide +kernel
theorem dX2_dissonantPairsByClasses_9 : decode cX2_dissonantPairsByClasses 9 = .ok (.bipush 12, 2) := by decide +kernel
theorem dX2_dissonantPairsByClasses_11 : decode cX2_dissonantPairsByClasses 11 = .ok (.if_icmp .ge 53, 3) := by decide +kernel
theorem dX2_dissonantPairsByClasses_14 : decode cX2_dissonantPairsByClasses 14 = .ok (.iload_n 2, 1) := by decide +kernel
theorem dX2_dissonantPairsByClasses_15 : decode cX2_dissonantPairsByClasses 15 = .ok (.iconst 1, 1) := by decide +kernel
theorem dX2_dissonantPairsByClasses_16 : decode cX2_dissonantPairsByClasses 16 = .ok (.iadd, 1) := by decide +kernel
theorem dX2_dissonantPairsByClasses_17 : decode cX2_dissonantPairsByClasses 17 = .ok (.istore_n 3, 1) := by decide +kernel
theorem dX2_dissonantPairsByClasses_18 : decode cX2_dissonantPairsByClasses 18 = .ok (.iload_n 3, 1) := by decide +kernel
theorem dX2_dissonantPairsByClasses_19 : decode cX2_dissonantPairsByClasses 19 = .ok (.bipush 12, 2) := by decide +kernel
theorem dX2_dissonantPairsByClasses_21 : decode cX2_dissonantPairsByClasses 21 = .ok (.if_icmp .ge 37, 3) := by decide +kernel
theorem dX2_dissonantPairsByClasses_24 : decode cX2_dissonantPairsByClasses 24 = .ok (.iload_n 3, 1) := by decide +kernel
theorem dX2_dissonantPairsByClasses_25 : decode cX2_dissonantPairsByClasses 25 = .ok (.iload_n 2, 1) := by decide +kernel
theorem dX2_dissonantPairsByClasses_26 : decode cX2_dissonantPairsByClasses 26 = .ok (.isub, 1) := by decide +kernel
theorem dX2_dissonantPairsByClasses_27 : decode cX2_dissonantPairsByClasses 27 = .ok (.getstatic 79, 3) := by decide +kernel
theorem dX2_dissonantPairsByClasses_30 : decode cX2_dissonantPairsByClasses 30 = .ok (.invokestatic 75, 3) := by decide +kernel
theorem dX2_dissonantPairsByClasses_33 : decode cX2_dissonantPairsByClasses 33 = .ok (.ifCond .ne 19, 3) := by decide +kernel
theorem dX2_dissonantPairsByClasses_36 : decode cX2_dissonantPairsByClasses 36 = .ok (.iload_n 1, 1) := by decide +kernel
theorem dX2_dissonantPairsByClasses_37 : decode cX2_dissonantPairsByClasses 37 = .ok (.aload_n 0, 1) := by decide +kernel
theorem dX2_dissonantPairsByClasses_38 : decode cX2_dissonantPairsByClasses 38 = .ok (.getfield 17, 3) := by decide +kernel
theorem dX2_dissonantPairsByClasses_41 : decode cX2_dissonantPairsByClasses 41 = .ok (.iload_n 2, 1) := by decide +kernel
theorem dX2_dissonantPairsByClasses_42 : decode cX2_dissonantPairsByClasses 42 = .ok (.iaload, 1) := by decide +kernel
theorem dX2_dissonantPairsByClasses_43 : decode cX2_dissonantPairsByClasses 43 = .ok (.aload_n 0, 1) := by decide +kernel
theorem dX2_dissonantPairsByClasses_44 : decode cX2_dissonantPairsByClasses 44 = .ok (.getfield 17, 3) := by decide +kernel
theorem dX2_dissonantPairsByClasses_47 : decode cX2_dissonantPairsByClasses 47 = .ok (.iload_n 3, 1) := by decide +kernel
theorem dX2_dissonantPairsByClasses_48 : decode cX2_dissonantPairsByClasses 48 = .ok (.iaload, 1) := by decide +kernel
theorem dX2_dissonantPairsByClasses_49 : decode cX2_dissonantPairsByClasses 49 = .ok (.imul, 1) := by decide +kernel
theorem dX2_dissonantPairsByClasses_50 : decode cX2_dissonantPairsByClasses 50 = .ok (.iadd, 1) := by decide +kernel
theorem dX2_dissonantPairsByClasses_51 : decode cX2_dissonantPairsByClasses 51 = .ok (.istore_n 1, 1) := by decide +kernel
theorem dX2_dissonantPairsByClasses_52 : decode cX2_dissonantPairsByClasses 52 = .ok (.iinc 3 1, 3) := by decide +kernel
theorem dX2_dissonantPairsByClasses_55 : decode cX2_dissonantPairsByClasses 55 = .ok (.goto (-37), 3) := by decide +kernel
theorem dX2_dissonantPairsByClasses_58 : decode cX2_dissonantPairsByClasses 58 = .ok (.iinc 2 1, 3) := by decide +kernel
theorem dX2_dissonantPairsByClasses_61 : decode cX2_dissonantPairsByClasses 61 = .ok (.goto (-53), 3) := by decide +kernel
theorem dX2_dissonantPairsByClasses_64 : decode cX2_dissonantPairsByClasses 64 = .ok (.iload_n 1, 1) := by decide +kernel
theorem dX2_dissonantPairsByClasses_65 : decode cX2_dissonantPairsByClasses 65 = .ok (.ireturn, 1) := by decide +kernel
def f_X2_dissonantPairsByClasses_L18 (q1 : (Nat → Int32)) (i2 : Int32) (K18 : Int32 → Option (Int32 × (Nat → Int32))) : Nat → Int32 → Int32 → Option (Int32 × (Nat → Int32))
  | 0, _, _ => none
  | n18 + 1, i5, i6 =>
    q_br (12 ≤ i5) (
  K18 i6) (
  q_bd (f_X10_belongs (i5 - i2) tb_cons) (fun q8 =>
  q_lt (fun (j9 : Int32) =>
  q_lt (i5 + 1 : Int32) (fun v10 =>
  f_X2_dissonantPairsByClasses_L18 q1 i2 K18 n18 v10 j9)) (fun (J52 : Int32 → Option (Int32 × (Nat → Int32))) =>
  q_br (q8 = 0) (
  q_gd (q_in i2 12) (
  q_gd (q_in i5 12) (
  q_lt (i6 + ((q1 (i2.toNatClampNeg)) * (q1 (i5.toNatClampNeg))) : Int32) (fun v13 =>
  J52 v13)))) (
  J52 i6))))
def f_X2_dissonantPairsByClasses_L8 (q1 : (Nat → Int32)) : Nat → Int32 → Int32 → Option (Int32 × (Nat → Int32))
  | 0, _, _ => none
  | n8 + 1, i2, i3 =>
    q_br (12 ≤ i2) (
  some (i3, q1)) (
  q_lt (i2 + 1 : Int32) (fun v4 =>
  f_X2_dissonantPairsByClasses_L18 q1 i2 (fun y7 =>
  q_lt (i2 + 1 : Int32) (fun v14 =>
  f_X2_dissonantPairsByClasses_L8 q1 n8 v14 y7)) 2000 v4 i3))
def f_X2_dissonantPairsByClasses (x_notes : (Nat → Int32)) (x_classCounts : (Nat → Int32)) (x_size : Int32) : Option (Int32 × (Nat → Int32)) :=
  q_bd (f_X2_countClasses x_notes x_classCounts x_size) (fun q1 =>
  f_X2_dissonantPairsByClasses_L8 q1 2000 0 0)
theorem hv_X2_dissonantPairsByClasses : yX2_dissonantPairsByClasses.cls = RX2 ∧ yX2_dissonantPairsByClasses.cls ≠ "java/lang/invoke/MethodHandle" ∧ yX2_dissonantPairsByClasses.cls ≠ "java/lang/invoke/VarHandle" ∧ (parseMethodDescriptor yX2_dissonantPairsByClasses.desc).map (fun d => d.parameters.length) = some 0 := by decide +kernel
abbrev rm_X2_dissonantPairsByClasses : Room := { frames := 2, cells := 0, slots := 0, locals := 43 }
set_option maxHeartbeats 4000000 in
set_option maxRecDepth 100000 in
theorem k_X2_dissonantPairsByClasses (l : Launch) (E : ET) (a : Nat → Nat) (o : Nat) (x : Chord_t) (res : Int32 × (Nat → Int32)) (hF : f_X2_dissonantPairsByClasses x.1 x.2.1 x.2.2 = some res) (sz : Nat) : CtI l yX2_dissonantPairsByClasses (mws yX2_dissonantPairsByClasses cX2_dissonantPairsByClasses 4 (some .int)) rm_X2_dissonantPairsByClasses 0 0 [.ref (a o)] E (bl_Chord E a o x) res.1 (bl_Chord E a o (x.1, res.2, x.2.2)) sz := by
  refine mk_M (by decide +kernel) (Nat.le_of_ble_eq_true rfl) ?_
  intro p e s m below meth c A args Q ls hAe hsz hQ hx hb hr hml hin ha hown hlocks hA hz hzs hst hP hD hS hl
  have hown : s.vm.findClass RX2 = some m.cls := hown
  rw [hAe] at hQ
  subst hsz
  have hP : va_P E.1 vwCl (List.flatten [w_Chord E a o x]) s.heap := hP
  have hD : va_D A (List.flatten [w_Chord E a o x]) := hD
  have hl : lv_has ls 4 [(0, .ref (a o))] := hl
  generalize hHe : s.heap = H at hP
  have hS : va_S A s.heap H [] := by rw [← hHe]; exact hS
  generalize ([] : List Loc) = locs at hS ⊢
  unfold f_X2_dissonantPairsByClasses at hF
  refine lv_aload_n hx hb dX2_dissonantPairsByClasses_0 rfl (lv_at hl 0 rfl) ?_
  obtain ⟨q1, hq1, hF⟩ := q_bdi hF
  refine cl_v (Lc := [w_Chord E a o x]) (Lc' := [w_Chord E a o (x.1, q1, x.2.2)]) (L' := [w_Chord E a o (x.1, q1, x.2.2)]) (va_runV (As := []) (rest := []) ⟨hx, hb, hml, hown, ha⟩ (k_X2_countClasses l E a o x q1 hq1 H.size) (cwV 0 ha (gi_V (fun _ h => h) mw893 mw895 mw13 mw34 mw896) rfl rfl rfl hv_X2_countClasses ⟨(Nat.le_of_ble_eq_true rfl), (Nat.le_of_ble_eq_true rfl)⟩) ⟨pre_blind, va_recv hst.k (fr_P hP [0] rfl) (ci := 4) (q0 := 0) rfl rfl, pre_at hP hD hS hz hzs hst [0] (by decide) rfl rfl⟩ rfl rfl hl.1 rfl (lv_room (Nat.le_of_ble_eq_true rfl)) dX2_dissonantPairsByClasses_1 ⟨(Nat.le_of_ble_eq_true rfl), (Nat.le_of_ble_eq_true rfl)⟩) hP hD hS hA [0] (by decide) rfl rfl rfl rfl (fun H locs hP hD hS => ?_)
  refine lv_iconst (v := 0) hx hb dX2_dissonantPairsByClasses_4 (by decide) ?_
  refine lv_istore_n (lv' := [(1, .int 0), (0, .ref (a o))]) hx hb dX2_dissonantPairsByClasses_5 rfl hl (by decide) rfl (fun ls hl => ?_)
  refine lv_iconst (v := 0) hx hb dX2_dissonantPairsByClasses_6 (by decide) ?_
  refine lv_istore_n (lv' := [(2, .int 0), (1, .int 0), (0, .ref (a o))]) hx hb dX2_dissonantPairsByClasses_7 rfl hl (by decide) rfl (fun ls hl => ?_)
  have key8 : ∀ (n : Nat) (i2 : Int32) (i3 : Int32) (H : Heap) (locs : List Loc) (ls : Array Slot), f_X2_dissonantPairsByClasses_L8 q1 n i2 i3 = some res → va_P E.1 vwCl (List.flatten [w_Chord E a o (x.1, q1, x.2.2)]) H → va_D A (List.flatten [w_Chord E a o (x.1, q1, x.2.2)]) → va_S A s.heap H locs → lv_has ls 4 [(2, .int i2), (1, .int i3), (0, .ref (a o))] → W p l e rm_X2_dissonantPairsByClasses s m args below meth c H locs 0 0 Q (F0 m 8 ls []) := by
    intro n8
    induction n8 with
    | zero => intro i2 i3 H locs ls hF; exact absurd hF (by simp [f_X2_dissonantPairsByClasses_L8])
    | succ n8 ih8 =>
      intro i2 i3 H locs ls hF hP hD hS hl
      rw [f_X2_dissonantPairsByClasses_L8] at hF
      refine lv_iload_n hx hb dX2_dissonantPairsByClasses_8 rfl (lv_at hl 0 rfl) ?_
      refine lv_bipush (v := 12) hx hb dX2_dissonantPairsByClasses_9 (by decide) ?_
      refine lv_icmp_ge (tgt := 64) hx hb dX2_dissonantPairsByClasses_11 (by decide) (fun c11 => ?_) (fun c11 => ?_)
      · have hF := q_brp c11 hF
        refine lv_iload_n hx hb dX2_dissonantPairsByClasses_64 rfl (lv_at hl 1 rfl) ?_
        obtain rfl := Option.some.inj hF
        exact en_i hQ (Nat.le_of_ble_eq_true rfl) (Nat.le_of_ble_eq_true rfl) hx hb hr hlocks hP hD hS rfl dX2_dissonantPairsByClasses_65
      · have hF := q_brn c11 hF
        refine lv_iload_n hx hb dX2_dissonantPairsByClasses_14 rfl (lv_at hl 0 rfl) ?_
        refine lv_iconst (v := 1) hx hb dX2_dissonantPairsByClasses_15 (by decide) ?_
        refine lv_iadd hx hb dX2_dissonantPairsByClasses_16 ?_
        refine lv_topi (fun v4 ev4 => ?_)
        have hF := q_lti ev4 hF
        refine lv_istore_n (lv' := [(3, .int v4), (2, .int i2), (1, .int i3), (0, .ref (a o))]) hx hb dX2_dissonantPairsByClasses_17 rfl hl (by decide) rfl (fun ls hl => ?_)
        have key18 : ∀ (K : Int32 → Option (Int32 × (Nat → Int32))), (∀ (y7 : Int32) (H : Heap) (locs : List Loc) (ls : Array Slot), K y7 = some res → va_P E.1 vwCl (List.flatten [w_Chord E a o (x.1, q1, x.2.2)]) H → va_D A (List.flatten [w_Chord E a o (x.1, q1, x.2.2)]) → va_S A s.heap H locs → lv_has ls 4 [(2, .int i2), (1, .int y7), (0, .ref (a o))] → W p l e rm_X2_dissonantPairsByClasses s m args below meth c H locs 0 0 Q (F0 m 58 ls [])) → ∀ (n : Nat) (i5 : Int32) (i6 : Int32) (H : Heap) (locs : List Loc) (ls : Array Slot), f_X2_dissonantPairsByClasses_L18 q1 i2 K n i5 i6 = some res → va_P E.1 vwCl (List.flatten [w_Chord E a o (x.1, q1, x.2.2)]) H → va_D A (List.flatten [w_Chord E a o (x.1, q1, x.2.2)]) → va_S A s.heap H locs → lv_has ls 4 [(3, .int i5), (2, .int i2), (1, .int i6), (0, .ref (a o))] → W p l e rm_X2_dissonantPairsByClasses s m args below meth c H locs 0 0 Q (F0 m 18 ls []) := by
          intro K18 hK18 n18
          induction n18 with
          | zero => intro i5 i6 H locs ls hF; exact absurd hF (by simp [f_X2_dissonantPairsByClasses_L18])
          | succ n18 ih18 =>
            intro i5 i6 H locs ls hF hP hD hS hl
            rw [f_X2_dissonantPairsByClasses_L18] at hF
            refine lv_iload_n hx hb dX2_dissonantPairsByClasses_18 rfl (lv_at hl 0 rfl) ?_
            refine lv_bipush (v := 12) hx hb dX2_dissonantPairsByClasses_19 (by decide) ?_
            refine lv_icmp_ge (tgt := 58) hx hb dX2_dissonantPairsByClasses_21 (by decide) (fun c21 => ?_) (fun c21 => ?_)
            · have hF := q_brp c21 hF
              exact hK18 i6 H locs ls hF hP hD hS (lv_sub hl [1, 2, 3] rfl)
            · have hF := q_brn c21 hF
              refine lv_iload_n hx hb dX2_dissonantPairsByClasses_24 rfl (lv_at hl 0 rfl) ?_
              refine lv_iload_n hx hb dX2_dissonantPairsByClasses_25 rfl (lv_at hl 1 rfl) ?_
              refine lv_isub hx hb dX2_dissonantPairsByClasses_26 ?_
              refine va_getsN (v := .ref (E.2 10)) hx hb (sz0 hst hz) hS hown (va_Nw.use rfl (nf26 hst)) (fun _ h9 => h9) dX2_dissonantPairsByClasses_27 ?_
              obtain ⟨q8, hq8, hF⟩ := q_bdi hF
              refine cl_i (Lc := []) (Lc' := []) (L' := [w_Chord E a o (x.1, q1, x.2.2)]) (rv := q8) (va_runSN (As := [.int (i5 - i2), .ref (E.2 10)]) (rest := []) ⟨hx, hb, hml, hown, ha⟩ (k_X10_belongs l E (i5 - i2) tb_cons (E.2 10) (mt0 E) q8 hq8 H.size) ⟨va_cnB 2 ha (gi_B (fun _ h => h) mw435) rfl rfl rfl (nm21 hst) (ha _ mw26) hv_X10_belongs.2 ⟨(Nat.le_of_ble_eq_true rfl), (Nat.le_of_ble_eq_true rfl)⟩, (ha _ mw434), trivial⟩ ⟨pre_blind, pre_at hP hD hS hz hzs hst [] (by decide) rfl rfl⟩ rfl rfl hl.1 rfl (lv_room (Nat.le_of_ble_eq_true rfl)) dX2_dissonantPairsByClasses_30 ⟨(Nat.le_of_ble_eq_true rfl), (Nat.le_of_ble_eq_true rfl)⟩) hP hD hS hA [] (by decide) rfl rfl rfl rfl (fun H locs hP hD hS => ?_)
              obtain ⟨J52, hJ52, hF⟩ := q_jn hF
              have jJ52 : ∀ (j9 : Int32), ∀ (H : Heap) (locs : List Loc) (ls : Array Slot), J52 j9 = some res → va_P E.1 vwCl (List.flatten [w_Chord E a o (x.1, q1, x.2.2)]) H → va_D A (List.flatten [w_Chord E a o (x.1, q1, x.2.2)]) → va_S A s.heap H locs → lv_has ls 4 [(3, .int i5), (2, .int i2), (1, .int j9), (0, .ref (a o))] → W p l e rm_X2_dissonantPairsByClasses s m args below meth c H locs 0 0 Q (F0 m 52 ls []) := by
                intro j9 H locs ls hF hP hD hS hl
                rw [hJ52] at hF
                obtain ⟨v10, ev10⟩ : ∃ y : Int32, y = i5 + 1 := ⟨_, rfl⟩
                have hF := q_lti ev10 hF
                refine lv_iinc (v := v10) (lv' := [(3, .int v10), (2, .int i2), (1, .int j9), (0, .ref (a o))]) hx hb dX2_dissonantPairsByClasses_52 hl (k := 0) rfl (by rw [ev10]; rfl) (by decide) rfl (fun ls hl => ?_)
                refine lv_goto (tgt := 18) hx hb dX2_dissonantPairsByClasses_55 (by decide) ?_
                exact ih18 v10 j9 H locs ls hF hP hD hS (lv_sub hl [0, 1, 2, 3] rfl)
              refine lv_if_ne (tgt := 52) hx hb dX2_dissonantPairsByClasses_33 (by decide) (fun c33 => ?_) (fun c33 => ?_)
              · have hF := q_brn c33 hF
                exact jJ52 i6 H locs ls hF hP hD hS (lv_sub hl [0, 1, 2, 3] rfl)
              · have hF := q_brp c33 hF
                refine lv_iload_n hx hb dX2_dissonantPairsByClasses_36 rfl (lv_at hl 2 rfl) ?_
                refine lv_aload_n hx hb dX2_dissonantPairsByClasses_37 rfl (lv_at hl 3 rfl) ?_
                refine va_get (D := E.1) (ci := 4) (v := .ref (a (o + 2))) (C := RX2) (T := TX2) (N := 3) hx hb ha in_X2 hown hst.k hP 0 rfl rfl 1 (by decide) (ha _ mw242) (fun _ h9 => h9) rfl dX2_dissonantPairsByClasses_38 ?_
                refine lv_iload_n hx hb dX2_dissonantPairsByClasses_41 rfl (lv_at hl 1 rfl) ?_
                obtain ⟨g11, hF⟩ := q_gdi hF
                refine vi_iald hx hb hst.k hP 2 0 rfl rfl (f := q1) (k := i2.toNatClampNeg) rfl g11 dX2_dissonantPairsByClasses_42 ?_
                refine lv_aload_n hx hb dX2_dissonantPairsByClasses_43 rfl (lv_at hl 3 rfl) ?_
                refine va_get (D := E.1) (ci := 4) (v := .ref (a (o + 2))) (C := RX2) (T := TX2) (N := 3) hx hb ha in_X2 hown hst.k hP 0 rfl rfl 1 (by decide) (ha _ mw242) (fun _ h9 => h9) rfl dX2_dissonantPairsByClasses_44 ?_
                refine lv_iload_n hx hb dX2_dissonantPairsByClasses_47 rfl (lv_at hl 0 rfl) ?_
                obtain ⟨g12, hF⟩ := q_gdi hF
                refine vi_iald hx hb hst.k hP 2 0 rfl rfl (f := q1) (k := i5.toNatClampNeg) rfl g12 dX2_dissonantPairsByClasses_48 ?_
                refine lv_imul hx hb dX2_dissonantPairsByClasses_49 ?_
                refine lv_iadd hx hb dX2_dissonantPairsByClasses_50 ?_
                refine lv_topi (fun v13 ev13 => ?_)
                have hF := q_lti ev13 hF
                refine lv_istore_n (lv' := [(1, .int v13), (3, .int i5), (2, .int i2), (0, .ref (a o))]) hx hb dX2_dissonantPairsByClasses_51 rfl hl (by decide) rfl (fun ls hl => ?_)
                exact jJ52 v13 H locs ls hF hP hD hS (lv_sub hl [1, 2, 0, 3] rfl)
        refine key18 _ ?_ _ v4 i3 H locs ls hF hP hD hS (lv_sub hl [0, 1, 2, 3] rfl)
        intro y7 H locs ls hF hP hD hS hl
        obtain ⟨v14, ev14⟩ : ∃ y : Int32, y = i2 + 1 := ⟨_, rfl⟩
        have hF := q_lti ev14 hF
        refine lv_iinc (v := v14) (lv' := [(2, .int v14), (1, .int y7), (0, .ref (a o))]) hx hb dX2_dissonantPairsByClasses_58 hl (k := 0) rfl (by rw [ev14]; rfl) (by decide) rfl (fun ls hl => ?_)
        refine lv_goto (tgt := 8) hx hb dX2_dissonantPairsByClasses_61 (by decide) ?_
        exact ih8 v14 y7 H locs ls hF hP hD hS (lv_sub hl [0, 1, 2] rfl)
  exact key8 _ 0 0 H locs ls hF hP hD hS (lv_sub hl [0, 1, 2] rfl)
