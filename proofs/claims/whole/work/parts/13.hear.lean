/-! X11_hears -/
theorem dX11_hears_0 : decode cX11_hears 0 = .ok (.aload_n 0, 1) := by decide +kernel
theorem dX11_hears_1 : decode cX11_hears 1 = .ok (.getfield 157, 3) := by decide +kernel
theorem dX11_hears_4 : decode cX11_hears 4 = .ok (.istore_n 2, 1) := by decide +kernel
theorem dX11_hears_5 : decode cX11_hears 5 = .ok (.iload_n 2, 1) := by decide +kernel
theorem dX11_hears_6 : decode cX11_hears 6 = .ok (.ifCond .le 35, 3) := by decide +kernel
theorem dX11_hears_9 : decode cX11_hears 9 = .ok (.aload_n 0, 1) := by decide +kernel
theorem dX11_hears_10 : decode cX11_hears 10 = .ok (.getfield 36, 3) := by decide +kernel
theorem dX11_hears_13 : decode cX11_hears 13 = .ok (.iload_n 2, 1) := by decide +kernel
theorem dX11_hears_14 : decode cX11_hears 14 = .ok (.iconst 1, 1) := by decide +kernel
theorem dX11_hears_15 : decode cX11_hears 15 = .ok (.isub, 1) := by decide +kernel
theorem dX11_hears_16 : decode cX11_hears 16 = .ok (.iaload, 1) := by decide +kernel
theorem dX11_hears_17 : decode cX11_hears 17 = .ok (.iload_n 1, 1) := by decide +kernel
theorem dX11_hears_18 : decode cX11_hears 18 = .ok (.if_icmp .le 23, 3) := by decide +kernel
theorem dX11_hears_21 : decode cX11_hears 21 = .ok (.aload_n 0, 1) := by decide +kernel
theorem dX11_hears_22 : decode cX11_hears 22 = .ok (.getfield 36, 3) := by decide +kernel
theorem dX11_hears_25 : decode cX11_hears 25 = .ok (.iload_n 2, 1) := by decide +kernel
theorem dX11_hears_26 : decode cX11_hears 26 = .ok (.aload_n 0, 1) := by decide +kernel
theorem dX11_hears_27 : decode cX11_hears 27 = .ok (.getfield 36, 3) := by decide +kernel
theorem dX11_hears_30 : decode cX11_hears 30 = .ok (.iload_n 2, 1) := by decide +kernel
theorem dX11_hears_31 : decode cX11_hears 31 = .ok (.iconst 1, 1) := by decide +kernel
theorem dX11_hears_32 : decode cX11_hears 32 = .ok (.isub, 1) := by decide +kernel
theorem dX11_hears_33 : decode cX11_hears 33 = .ok (.iaload, 1) := by decide +kernel
theorem dX11_hears_34 : decode cX11_hears 34 = .ok (.iastore, 1) := by decide +kernel
theorem dX11_hears_35 : decode cX11_hears 35 = .ok (.iinc 2 (-1), 3) := by decide +kernel
theorem dX11_hears_38 : decode cX11_hears 38 = .ok (.goto (-33), 3) := by decide +kernel
theorem dX11_hears_41 : decode cX11_hears 41 = .ok (.aload_n 0, 1) := by decide +kernel
theorem dX11_hears_42 : decode cX11_hears 42 = .ok (.getfield 36, 3) := by decide +kernel
theorem dX11_hears_45 : decode cX11_hears 45 = .ok (.iload_n 2, 1) := by decide +kernel
theorem dX11_hears_46 : decode cX11_hears 46 = .ok (.iload_n 1, 1) := by decide +kernel
theorem dX11_hears_47 : decode cX11_hears 47 = .ok (.iastore, 1) := by decide +kernel
theorem dX11_hears_48 : decode cX11_hears 48 = .ok (.aload_n 0, 1) := by decide +kernel
theorem dX11_hears_49 : decode cX11_hears 49 = .ok (.dup, 1) := by decide +kernel
theorem dX11_hears_50 : decode cX11_hears 50 = .ok (.getfield 157, 3) := by decide +kernel
theorem dX11_hears_53 : decode cX11_hears 53 = .ok (.iconst 1, 1) := by decide +kernel
theorem dX11_hears_54 : decode cX11_hears 54 = .ok (.iadd, 1) := by decide +kernel
theorem dX11_hears_55 : decode cX11_hears 55 = .ok (.putfield 157, 3) := by decide +kernel
theorem dX11_hears_58 : decode cX11_hears 58 = .ok (.return_, 1) := by decide +kernel
def f_X11_hears_L5 (p1 : Int32) (K5 : Int32 → (Nat → Int32) → Option ((Nat → Int32) × Int32)) : Nat → Int32 → (Nat → Int32) → Option ((Nat → Int32) × Int32)
  | 0, _, _ => none
  | n5 + 1, i1, i2 =>
    q_br (i1 ≤ 0) (
  K5 i1 i2) (
  q_gd (q_in (i1 - 1) 24) (
  q_br ((i2 ((i1 - 1).toNatClampNeg)) ≤ p1) (
  K5 i1 i2) (
  q_gd (q_in (i1 - 1) 24) (
  q_gd (q_in i1 24) (
  q_lt (upd i2 (i1.toNatClampNeg) (i2 ((i1 - 1).toNatClampNeg))) (fun u8 =>
  q_lt (i1 + (-1) : Int32) (fun v9 =>
  f_X11_hears_L5 p1 K5 n5 v9 u8)))))))
def f_X11_hears (x_notes : (Nat → Int32)) (x_noteCount : Int32) (p1 : Int32) : Option ((Nat → Int32) × Int32) :=
  f_X11_hears_L5 p1 (fun y3 y4 =>
  q_gd (q_in y3 24) (
  q_lt (upd y4 (y3.toNatClampNeg) p1) (fun u11 =>
  some (u11, x_noteCount + 1)))) 2000 x_noteCount x_notes
theorem hv_X11_hears : yX11_hears.cls = RX11 ∧ yX11_hears.cls ≠ "java/lang/invoke/MethodHandle" ∧ yX11_hears.cls ≠ "java/lang/invoke/VarHandle" ∧ (parseMethodDescriptor yX11_hears.desc).map (fun d => d.parameters.length) = some 1 := by decide +kernel
abbrev rm_X11_hears : Room := { frames := 0, cells := 0, slots := 0, locals := 0 }
set_option maxHeartbeats 4000000 in
set_option maxRecDepth 100000 in
theorem k_X11_hears (l : Launch) (E : ET) (a : Nat → Nat) (o : Nat) (x : Model_t) (p1 : Int32) (res : (Nat → Int32) × Int32) (hF : f_X11_hears x.2.2.1.2.2.1 x.2.2.1.2.2.2 p1 = some res) (sz : Nat) : CtV l yX11_hears (mws yX11_hears cX11_hears 3 none) rm_X11_hears 0 0 [.ref (a o), .int p1] E (bl_Model E a o x) (bl_Model E a o ((x.1.1, x.1.2.1, x.1.2.2.1, x.1.2.2.2.1, x.1.2.2.2.2), (x.2.1.1, x.2.1.2.1, x.2.1.2.2.1, x.2.1.2.2.2.1, x.2.1.2.2.2.2), (x.2.2.1.1, x.2.2.1.2.1, res.1, res.2), (x.2.2.2.1, x.2.2.2.2.1, x.2.2.2.2.2.1, x.2.2.2.2.2.2))) sz := by
  refine mk_M (by decide +kernel) (Nat.le_of_ble_eq_true rfl) ?_
  intro p e s m below meth c A args Q ls hAe hsz hQ hx hb hr hml hin ha hown hlocks hA hz hzs hst hP hD hS hl
  have hown : s.vm.findClass RX11 = some m.cls := hown
  rw [hAe] at hQ
  subst hsz
  have hP : va_P E.1 vwCl (List.flatten [w_Model E a o x]) s.heap := hP
  have hD : va_D A (List.flatten [w_Model E a o x]) := hD
  have hl : lv_has ls 3 [(0, .ref (a o)), (1, .int p1)] := hl
  generalize hHe : s.heap = H at hP
  have hS : va_S A s.heap H [] := by rw [← hHe]; exact hS
  generalize ([] : List Loc) = locs at hS ⊢
  unfold f_X11_hears at hF
  refine lv_aload_n hx hb dX11_hears_0 rfl (lv_at hl 0 rfl) ?_
  refine va_get (D := E.1) (ci := 13) (v := .int x.2.2.1.2.2.2) (C := RX11) (T := TX11) (N := 18) hx hb ha in_X11 hown hst.k hP 0 rfl rfl 13 (by decide) (ha _ mw1649) (fun _ h9 => h9) rfl dX11_hears_1 ?_
  refine lv_istore_n (lv' := [(2, .int x.2.2.1.2.2.2), (0, .ref (a o)), (1, .int p1)]) hx hb dX11_hears_4 rfl hl (by decide) rfl (fun ls hl => ?_)
  have key5 : ∀ (K : Int32 → (Nat → Int32) → Option ((Nat → Int32) × Int32)), (∀ (y3 : Int32) (y4 : (Nat → Int32)) (H : Heap) (locs : List Loc) (ls : Array Slot), K y3 y4 = some res → va_P E.1 vwCl (List.flatten [w_Model E a o ((x.1.1, x.1.2.1, x.1.2.2.1, x.1.2.2.2.1, x.1.2.2.2.2), (x.2.1.1, x.2.1.2.1, x.2.1.2.2.1, x.2.1.2.2.2.1, x.2.1.2.2.2.2), (x.2.2.1.1, x.2.2.1.2.1, y4, x.2.2.1.2.2.2), (x.2.2.2.1, x.2.2.2.2.1, x.2.2.2.2.2.1, x.2.2.2.2.2.2))]) H → va_D A (List.flatten [w_Model E a o ((x.1.1, x.1.2.1, x.1.2.2.1, x.1.2.2.2.1, x.1.2.2.2.2), (x.2.1.1, x.2.1.2.1, x.2.1.2.2.1, x.2.1.2.2.2.1, x.2.1.2.2.2.2), (x.2.2.1.1, x.2.2.1.2.1, y4, x.2.2.1.2.2.2), (x.2.2.2.1, x.2.2.2.2.1, x.2.2.2.2.2.1, x.2.2.2.2.2.2))]) → va_S A s.heap H locs → lv_has ls 3 [(2, .int y3), (0, .ref (a o)), (1, .int p1)] → W p l e rm_X11_hears s m args below meth c H locs 0 0 Q (F0 m 41 ls [])) → ∀ (n : Nat) (i1 : Int32) (i2 : (Nat → Int32)) (H : Heap) (locs : List Loc) (ls : Array Slot), f_X11_hears_L5 p1 K n i1 i2 = some res → va_P E.1 vwCl (List.flatten [w_Model E a o ((x.1.1, x.1.2.1, x.1.2.2.1, x.1.2.2.2.1, x.1.2.2.2.2), (x.2.1.1, x.2.1.2.1, x.2.1.2.2.1, x.2.1.2.2.2.1, x.2.1.2.2.2.2), (x.2.2.1.1, x.2.2.1.2.1, i2, x.2.2.1.2.2.2), (x.2.2.2.1, x.2.2.2.2.1, x.2.2.2.2.2.1, x.2.2.2.2.2.2))]) H → va_D A (List.flatten [w_Model E a o ((x.1.1, x.1.2.1, x.1.2.2.1, x.1.2.2.2.1, x.1.2.2.2.2), (x.2.1.1, x.2.1.2.1, x.2.1.2.2.1, x.2.1.2.2.2.1, x.2.1.2.2.2.2), (x.2.2.1.1, x.2.2.1.2.1, i2, x.2.2.1.2.2.2), (x.2.2.2.1, x.2.2.2.2.1, x.2.2.2.2.2.1, x.2.2.2.2.2.2))]) → va_S A s.heap H locs → lv_has ls 3 [(2, .int i1), (0, .ref (a o)), (1, .int p1)] → W p l e rm_X11_hears s m args below meth c H locs 0 0 Q (F0 m 5 ls []) := by
    intro K5 hK5 n5
    induction n5 with
    | zero => intro i1 i2 H locs ls hF; exact absurd hF (by simp [f_X11_hears_L5])
    | succ n5 ih5 =>
      intro i1 i2 H locs ls hF hP hD hS hl
      rw [f_X11_hears_L5] at hF
      refine lv_iload_n hx hb dX11_hears_5 rfl (lv_at hl 0 rfl) ?_
      refine lv_if_le (tgt := 41) hx hb dX11_hears_6 (by decide) (fun c6 => ?_) (fun c6 => ?_)
      · have hF := q_brp c6 hF
        exact hK5 i1 i2 H locs ls hF hP hD hS (lv_sub hl [0, 1, 2] rfl)
      · have hF := q_brn c6 hF
        refine lv_aload_n hx hb dX11_hears_9 rfl (lv_at hl 1 rfl) ?_
        refine va_get (D := E.1) (ci := 13) (v := .ref (a (o + 7))) (C := RX11) (T := TX11) (N := 18) hx hb ha in_X11 hown hst.k hP 0 rfl rfl 12 (by decide) (ha _ mw1648) (fun _ h9 => h9) rfl dX11_hears_10 ?_
        refine lv_iload_n hx hb dX11_hears_13 rfl (lv_at hl 0 rfl) ?_
        refine lv_iconst (v := 1) hx hb dX11_hears_14 (by decide) ?_
        refine lv_isub hx hb dX11_hears_15 ?_
        obtain ⟨g5, hF⟩ := q_gdi hF
        refine vi_iald hx hb hst.k hP 7 0 rfl rfl (f := i2) (k := (i1 - 1).toNatClampNeg) rfl g5 dX11_hears_16 ?_
        refine lv_iload_n hx hb dX11_hears_17 rfl (lv_at hl 2 rfl) ?_
        refine lv_icmp_le (tgt := 41) hx hb dX11_hears_18 (by decide) (fun c18 => ?_) (fun c18 => ?_)
        · have hF := q_brp c18 hF
          exact hK5 i1 i2 H locs ls hF hP hD hS (lv_sub hl [0, 1, 2] rfl)
        · have hF := q_brn c18 hF
          refine lv_aload_n hx hb dX11_hears_21 rfl (lv_at hl 1 rfl) ?_
          refine va_get (D := E.1) (ci := 13) (v := .ref (a (o + 7))) (C := RX11) (T := TX11) (N := 18) hx hb ha in_X11 hown hst.k hP 0 rfl rfl 12 (by decide) (ha _ mw1648) (fun _ h9 => h9) rfl dX11_hears_22 ?_
          refine lv_iload_n hx hb dX11_hears_25 rfl (lv_at hl 0 rfl) ?_
          refine lv_aload_n hx hb dX11_hears_26 rfl (lv_at hl 1 rfl) ?_
          refine va_get (D := E.1) (ci := 13) (v := .ref (a (o + 7))) (C := RX11) (T := TX11) (N := 18) hx hb ha in_X11 hown hst.k hP 0 rfl rfl 12 (by decide) (ha _ mw1648) (fun _ h9 => h9) rfl dX11_hears_27 ?_
          refine lv_iload_n hx hb dX11_hears_30 rfl (lv_at hl 0 rfl) ?_
          refine lv_iconst (v := 1) hx hb dX11_hears_31 (by decide) ?_
          refine lv_isub hx hb dX11_hears_32 ?_
          obtain ⟨g6, hF⟩ := q_gdi hF
          refine vi_iald hx hb hst.k hP 7 0 rfl rfl (f := i2) (k := (i1 - 1).toNatClampNeg) rfl g6 dX11_hears_33 ?_
          obtain ⟨g7, hF⟩ := q_gdi hF
          refine vj_iast hx hb hst.k hP hD hS 7 0 rfl rfl (f := i2) (k := i1.toNatClampNeg) rfl g7 dX11_hears_34 (fun u8 eu8 H locs hP hD hS => ?_)
          have hF := q_lti eu8 hF
          have hP : va_P E.1 vwCl (List.flatten [w_Model E a o ((x.1.1, x.1.2.1, x.1.2.2.1, x.1.2.2.2.1, x.1.2.2.2.2), (x.2.1.1, x.2.1.2.1, x.2.1.2.2.1, x.2.1.2.2.2.1, x.2.1.2.2.2.2), (x.2.2.1.1, x.2.2.1.2.1, u8, x.2.2.1.2.2.2), (x.2.2.2.1, x.2.2.2.2.1, x.2.2.2.2.2.1, x.2.2.2.2.2.2))]) H := hP
          have hD : va_D A (List.flatten [w_Model E a o ((x.1.1, x.1.2.1, x.1.2.2.1, x.1.2.2.2.1, x.1.2.2.2.2), (x.2.1.1, x.2.1.2.1, x.2.1.2.2.1, x.2.1.2.2.2.1, x.2.1.2.2.2.2), (x.2.2.1.1, x.2.2.1.2.1, u8, x.2.2.1.2.2.2), (x.2.2.2.1, x.2.2.2.2.1, x.2.2.2.2.2.1, x.2.2.2.2.2.2))]) := hD
          obtain ⟨v9, ev9⟩ : ∃ y : Int32, y = i1 + (-1) := ⟨_, rfl⟩
          have hF := q_lti ev9 hF
          refine lv_iinc (v := v9) (lv' := [(2, .int v9), (0, .ref (a o)), (1, .int p1)]) hx hb dX11_hears_35 hl (k := 0) rfl (by rw [ev9]; rfl) (by decide) rfl (fun ls hl => ?_)
          refine lv_goto (tgt := 5) hx hb dX11_hears_38 (by decide) ?_
          exact ih5 v9 u8 H locs ls hF hP hD hS (lv_sub hl [0, 1, 2] rfl)
  refine key5 _ ?_ _ x.2.2.1.2.2.2 x.2.2.1.2.2.1 H locs ls hF hP hD hS (lv_sub hl [0, 1, 2] rfl)
  intro y3 y4 H locs ls hF hP hD hS hl
  refine lv_aload_n hx hb dX11_hears_41 rfl (lv_at hl 1 rfl) ?_
  refine va_get (D := E.1) (ci := 13) (v := .ref (a (o + 7))) (C := RX11) (T := TX11) (N := 18) hx hb ha in_X11 hown hst.k hP 0 rfl rfl 12 (by decide) (ha _ mw1648) (fun _ h9 => h9) rfl dX11_hears_42 ?_
  refine lv_iload_n hx hb dX11_hears_45 rfl (lv_at hl 0 rfl) ?_
  refine lv_iload_n hx hb dX11_hears_46 rfl (lv_at hl 2 rfl) ?_
  obtain ⟨g10, hF⟩ := q_gdi hF
  refine vj_iast hx hb hst.k hP hD hS 7 0 rfl rfl (f := y4) (k := y3.toNatClampNeg) rfl g10 dX11_hears_47 (fun u11 eu11 H locs hP hD hS => ?_)
  have hF := q_lti eu11 hF
  have hP : va_P E.1 vwCl (List.flatten [w_Model E a o ((x.1.1, x.1.2.1, x.1.2.2.1, x.1.2.2.2.1, x.1.2.2.2.2), (x.2.1.1, x.2.1.2.1, x.2.1.2.2.1, x.2.1.2.2.2.1, x.2.1.2.2.2.2), (x.2.2.1.1, x.2.2.1.2.1, u11, x.2.2.1.2.2.2), (x.2.2.2.1, x.2.2.2.2.1, x.2.2.2.2.2.1, x.2.2.2.2.2.2))]) H := hP
  have hD : va_D A (List.flatten [w_Model E a o ((x.1.1, x.1.2.1, x.1.2.2.1, x.1.2.2.2.1, x.1.2.2.2.2), (x.2.1.1, x.2.1.2.1, x.2.1.2.2.1, x.2.1.2.2.2.1, x.2.1.2.2.2.2), (x.2.2.1.1, x.2.2.1.2.1, u11, x.2.2.1.2.2.2), (x.2.2.2.1, x.2.2.2.2.1, x.2.2.2.2.2.1, x.2.2.2.2.2.2))]) := hD
  refine lv_aload_n hx hb dX11_hears_48 rfl (lv_at hl 1 rfl) ?_
  refine lv_dup hx hb dX11_hears_49 rfl ?_
  refine va_get (D := E.1) (ci := 13) (v := .int x.2.2.1.2.2.2) (C := RX11) (T := TX11) (N := 18) hx hb ha in_X11 hown hst.k hP 0 rfl rfl 13 (by decide) (ha _ mw1649) (fun _ h9 => h9) rfl dX11_hears_50 ?_
  refine lv_iconst (v := 1) hx hb dX11_hears_53 (by decide) ?_
  refine lv_iadd hx hb dX11_hears_54 ?_
  refine va_put (D := E.1) (ci := 13) (v := .int (x.2.2.1.2.2.2 + 1)) (ty := .int) (C := RX11) (T := TX11) (N := 18) hx hb ha in_X11 tyX11 tyX11_ok nmX11 hown hst.k hP hD hS 0 rfl rfl 13 (by decide) (ha _ mw1649) (fun _ h9 => h9) rfl (tyX11_ok 13 (by decide)) rfl rfl (Nat.le_of_ble_eq_true rfl) dX11_hears_55 (fun H locs hP hD hS => ?_)
  have hP : va_P E.1 vwCl (List.flatten [w_Model E a o ((x.1.1, x.1.2.1, x.1.2.2.1, x.1.2.2.2.1, x.1.2.2.2.2), (x.2.1.1, x.2.1.2.1, x.2.1.2.2.1, x.2.1.2.2.2.1, x.2.1.2.2.2.2), (x.2.2.1.1, x.2.2.1.2.1, u11, x.2.2.1.2.2.2 + 1), (x.2.2.2.1, x.2.2.2.2.1, x.2.2.2.2.2.1, x.2.2.2.2.2.2))]) H := hP
  have hD : va_D A (List.flatten [w_Model E a o ((x.1.1, x.1.2.1, x.1.2.2.1, x.1.2.2.2.1, x.1.2.2.2.2), (x.2.1.1, x.2.1.2.1, x.2.1.2.2.1, x.2.1.2.2.2.1, x.2.1.2.2.2.2), (x.2.2.1.1, x.2.2.1.2.1, u11, x.2.2.1.2.2.2 + 1), (x.2.2.2.1, x.2.2.2.2.1, x.2.2.2.2.2.1, x.2.2.2.2.2.2))]) := hD
  obtain rfl := Option.some.inj hF
  exact en_v hQ (Nat.le_of_ble_eq_true rfl) (Nat.le_of_ble_eq_true rfl) hx hb hr hlocks hP hD hS dX11_hears_58

/-! X11_hearsTones -/
theorem dX11_hearsTones_0 : decode cX11_hearsTones 0 = .ok (.iconst 0, 1) := by decide +kernel
theorem dX11_hearsTones_1 : decode cX11_hearsTones 1 = .ok (.istore_n 3, 1) := by decide +kernel
theorem dX11_hearsTones_2 : decode cX11_hearsTones 2 = .ok (.iload_n 3, 1) := by decide +kernel
theorem dX11_hearsTones_3 : decode cX11_hearsTones 3 = .ok (.iconst 4, 1) := by decide +kernel
theorem dX11_hearsTones_4 : decode cX11_hearsTones 4 = .ok (.if_icmp .ge 69, 3) := by decide +kernel
theorem dX11_hearsTones_7 : decode cX11_hearsTones 7 = .ok (.iload_n 1, 1) := by decide +kernel
theorem dX11_hearsTones_8 : decode cX11_hearsTones 8 = .ok (.aload_n 0, 1) := by decide +kernel
theorem dX11_hearsTones_9 : decode cX11_hearsTones 9 = .ok (.getfield 7, 3) := by decide +kernel
theorem dX11_hearsTones_12 : decode cX11_hearsTones 12 = .ok (.bipush 29, 2) := by decide +kernel
theorem dX11_hearsTones_14 : decode cX11_hearsTones 14 = .ok (.iload_n 3, 1) := by decide +kernel
theorem dX11_hearsTones_15 : decode cX11_hearsTones 15 = .ok (.iadd, 1) := by decide +kernel
theorem dX11_hearsTones_16 : decode cX11_hearsTones 16 = .ok (.iaload, 1) := by decide +kernel
theorem dX11_hearsTones_17 : decode cX11_hearsTones 17 = .ok (.isub, 1) := by decide +kernel
theorem dX11_hearsTones_18 : decode cX11_hearsTones 18 = .ok (.istore 4, 2) := by decide +kernel
theorem dX11_hearsTones_20 : decode cX11_hearsTones 20 = .ok (.iload_n 1, 1) := by decide +kernel
theorem dX11_hearsTones_21 : decode cX11_hearsTones 21 = .ok (.iconst 0, 1) := by decide +kernel
theorem dX11_hearsTones_22 : decode cX11_hearsTones 22 = .ok (.bipush 31, 2) := by decide +kernel
theorem dX11_hearsTones_24 : decode cX11_hearsTones 24 = .ok (.invokestatic 52, 3) := by decide +kernel
theorem dX11_hearsTones_27 : decode cX11_hearsTones 27 = .ok (.ifCond .eq 40, 3) := by decide +kernel
theorem dX11_hearsTones_30 : decode cX11_hearsTones 30 = .ok (.iload 4, 2) := by decide +kernel
theorem dX11_hearsTones_32 : decode cX11_hearsTones 32 = .ok (.iconst 0, 1) := by decide +kernel
theorem dX11_hearsTones_33 : decode cX11_hearsTones 33 = .ok (.aload_n 0, 1) := by decide +kernel
theorem dX11_hearsTones_34 : decode cX11_hearsTones 34 = .ok (.getfield 7, 3) := by decide +kernel
theorem dX11_hearsTones_37 : decode cX11_hearsTones 37 = .ok (.bipush 33, 2) := by decide +kernel
theorem dX11_hearsTones_39 : decode cX11_hearsTones 39 = .ok (.iload_n 3, 1) := by decide +kernel
theorem dX11_hearsTones_40 : decode cX11_hearsTones 40 = .ok (.iadd, 1) := by decide +kernel
theorem dX11_hearsTones_41 : decode cX11_hearsTones 41 = .ok (.iaload, 1) := by decide +kernel
theorem dX11_hearsTones_42 : decode cX11_hearsTones 42 = .ok (.iconst 1, 1) := by decide +kernel
theorem dX11_hearsTones_43 : decode cX11_hearsTones 43 = .ok (.isub, 1) := by decide +kernel
theorem dX11_hearsTones_44 : decode cX11_hearsTones 44 = .ok (.invokestatic 52, 3) := by decide +kernel
theorem dX11_hearsTones_47 : decode cX11_hearsTones 47 = .ok (.ifCond .eq 20, 3) := by decide +kernel
theorem dX11_hearsTones_50 : decode cX11_hearsTones 50 = .ok (.aload_n 0, 1) := by decide +kernel
theorem dX11_hearsTones_51 : decode cX11_hearsTones 51 = .ok (.aload_n 0, 1) := by decide +kernel
theorem dX11_hearsTones_52 : decode cX11_hearsTones 52 = .ok (.aload_n 0, 1) := by decide +kernel
theorem dX11_hearsTones_53 : decode cX11_hearsTones 53 = .ok (.iload_n 3, 1) := by decide +kernel
theorem dX11_hearsTones_54 : decode cX11_hearsTones 54 = .ok (.iload 4, 2) := by decide +kernel
theorem dX11_hearsTones_56 : decode cX11_hearsTones 56 = .ok (.invokevirtual 150, 3) := by decide +kernel
theorem dX11_hearsTones_59 : decode cX11_hearsTones 59 = .ok (.invokevirtual 60, 3) := by decide +kernel
theorem dX11_hearsTones_62 : decode cX11_hearsTones 62 = .ok (.iload_n 2, 1) := by decide +kernel
theorem dX11_hearsTones_63 : decode cX11_hearsTones 63 = .ok (.iadd, 1) := by decide +kernel
theorem dX11_hearsTones_64 : decode cX11_hearsTones 64 = .ok (.invokevirtual 160, 3) := by decide +kernel
theorem dX11_hearsTones_67 : decode cX11_hearsTones 67 = .ok (.iinc 3 1, 3) := by decide +kernel
theorem dX11_hearsTones_70 : decode cX11_hearsTones 70 = .ok (.goto (-68), 3) := by decide +kernel
theorem dX11_hearsTones_73 : decode cX11_hearsTones 73 = .ok (.return_, 1) := by decide +kernel
def f_X11_hearsTones_L2 (x_g : (Nat → Int32)) (p1 : Int32) (p2 : Int32) : Nat → Int32 → (Nat → Int32) → Int32 → Option ((Nat → Int32) × Int32)
  | 0, _, _, _ => none
  | n2 + 1, i1, i2, i3 =>
    q_br (4 ≤ i1) (
  some (i2, i3)) (
  q_gd (q_in (29 + i1) 77) (
  q_lt (p1 - (x_g ((29 + i1).toNatClampNeg)) : Int32) (fun v5 =>
  q_bd (f_X11_in p1 0 31) (fun q6 =>
  q_lt (fun (j7 : (Nat → Int32)) (j8 : Int32) =>
  q_lt (i1 + 1 : Int32) (fun v9 =>
  f_X11_hearsTones_L2 x_g p1 p2 n2 v9 j7 j8)) (fun (J67 : (Nat → Int32) → Int32 → Option ((Nat → Int32) × Int32)) =>
  q_br (q6 = 0) (
  J67 i2 i3) (
  q_gd (q_in (33 + i1) 77) (
  q_bd (f_X11_in v5 0 ((x_g ((33 + i1).toNatClampNeg)) - 1)) (fun q11 =>
  q_br (q11 = 0) (
  J67 i2 i3) (
  q_bd (f_X11_toneAt x_g i1 v5) (fun q12 =>
  q_bd (f_X11_noteOf x_g q12) (fun q13 =>
  q_bd (f_X11_hears i2 i3 (q13 + p2)) (fun q14 =>
  J67 q14.1 q14.2))))))))))))
def f_X11_hearsTones (x_g : (Nat → Int32)) (x_notes : (Nat → Int32)) (x_noteCount : Int32) (p1 : Int32) (p2 : Int32) : Option ((Nat → Int32) × Int32) :=
  f_X11_hearsTones_L2 x_g p1 p2 2000 0 x_notes x_noteCount
theorem hv_X11_hearsTones : yX11_hearsTones.cls = RX11 ∧ yX11_hearsTones.cls ≠ "java/lang/invoke/MethodHandle" ∧ yX11_hearsTones.cls ≠ "java/lang/invoke/VarHandle" ∧ (parseMethodDescriptor yX11_hearsTones.desc).map (fun d => d.parameters.length) = some 2 := by decide +kernel
abbrev rm_X11_hearsTones : Room := { frames := 1, cells := 0, slots := 0, locals := 22 }
set_option maxHeartbeats 4000000 in
set_option maxRecDepth 100000 in
theorem k_X11_hearsTones (l : Launch) (E : ET) (a : Nat → Nat) (o : Nat) (x : Model_t) (p1 : Int32) (p2 : Int32) (res : (Nat → Int32) × Int32) (hF : f_X11_hearsTones x.1.1 x.2.2.1.2.2.1 x.2.2.1.2.2.2 p1 p2 = some res) (sz : Nat) : CtV l yX11_hearsTones (mws yX11_hearsTones cX11_hearsTones 5 none) rm_X11_hearsTones 0 0 [.ref (a o), .int p1, .int p2] E (bl_Model E a o x) (bl_Model E a o ((x.1.1, x.1.2.1, x.1.2.2.1, x.1.2.2.2.1, x.1.2.2.2.2), (x.2.1.1, x.2.1.2.1, x.2.1.2.2.1, x.2.1.2.2.2.1, x.2.1.2.2.2.2), (x.2.2.1.1, x.2.2.1.2.1, res.1, res.2), (x.2.2.2.1, x.2.2.2.2.1, x.2.2.2.2.2.1, x.2.2.2.2.2.2))) sz := by
  refine mk_M (by decide +kernel) (Nat.le_of_ble_eq_true rfl) ?_
  intro p e s m below meth c A args Q ls hAe hsz hQ hx hb hr hml hin ha hown hlocks hA hz hzs hst hP hD hS hl
  have hown : s.vm.findClass RX11 = some m.cls := hown
  rw [hAe] at hQ
  subst hsz
  have hP : va_P E.1 vwCl (List.flatten [w_Model E a o x]) s.heap := hP
  have hD : va_D A (List.flatten [w_Model E a o x]) := hD
  have hl : lv_has ls 5 [(0, .ref (a o)), (1, .int p1), (2, .int p2)] := hl
  generalize hHe : s.heap = H at hP
  have hS : va_S A s.heap H [] := by rw [← hHe]; exact hS
  generalize ([] : List Loc) = locs at hS ⊢
  unfold f_X11_hearsTones at hF
  refine lv_iconst (v := 0) hx hb dX11_hearsTones_0 (by decide) ?_
  refine lv_istore_n (lv' := [(3, .int 0), (0, .ref (a o)), (1, .int p1), (2, .int p2)]) hx hb dX11_hearsTones_1 rfl hl (by decide) rfl (fun ls hl => ?_)
  have key2 : ∀ (n : Nat) (i1 : Int32) (i2 : (Nat → Int32)) (i3 : Int32) (H : Heap) (locs : List Loc) (ls : Array Slot), f_X11_hearsTones_L2 x.1.1 p1 p2 n i1 i2 i3 = some res → va_P E.1 vwCl (List.flatten [w_Model E a o ((x.1.1, x.1.2.1, x.1.2.2.1, x.1.2.2.2.1, x.1.2.2.2.2), (x.2.1.1, x.2.1.2.1, x.2.1.2.2.1, x.2.1.2.2.2.1, x.2.1.2.2.2.2), (x.2.2.1.1, x.2.2.1.2.1, i2, i3), (x.2.2.2.1, x.2.2.2.2.1, x.2.2.2.2.2.1, x.2.2.2.2.2.2))]) H → va_D A (List.flatten [w_Model E a o ((x.1.1, x.1.2.1, x.1.2.2.1, x.1.2.2.2.1, x.1.2.2.2.2), (x.2.1.1, x.2.1.2.1, x.2.1.2.2.1, x.2.1.2.2.2.1, x.2.1.2.2.2.2), (x.2.2.1.1, x.2.2.1.2.1, i2, i3), (x.2.2.2.1, x.2.2.2.2.1, x.2.2.2.2.2.1, x.2.2.2.2.2.2))]) → va_S A s.heap H locs → lv_has ls 5 [(3, .int i1), (0, .ref (a o)), (1, .int p1), (2, .int p2)] → W p l e rm_X11_hearsTones s m args below meth c H locs 0 0 Q (F0 m 2 ls []) := by
    intro n2
    induction n2 with
    | zero => intro i1 i2 i3 H locs ls hF; exact absurd hF (by simp [f_X11_hearsTones_L2])
    | succ n2 ih2 =>
      intro i1 i2 i3 H locs ls hF hP hD hS hl
      rw [f_X11_hearsTones_L2] at hF
      refine lv_iload_n hx hb dX11_hearsTones_2 rfl (lv_at hl 0 rfl) ?_
      refine lv_iconst (v := 4) hx hb dX11_hearsTones_3 (by decide) ?_
      refine lv_icmp_ge (tgt := 73) hx hb dX11_hearsTones_4 (by decide) (fun c4 => ?_) (fun c4 => ?_)
      · have hF := q_brp c4 hF
        obtain rfl := Option.some.inj hF
        exact en_v hQ (Nat.le_of_ble_eq_true rfl) (Nat.le_of_ble_eq_true rfl) hx hb hr hlocks hP hD hS dX11_hearsTones_73
      · have hF := q_brn c4 hF
        refine lv_iload_n hx hb dX11_hearsTones_7 rfl (lv_at hl 2 rfl) ?_
        refine lv_aload_n hx hb dX11_hearsTones_8 rfl (lv_at hl 1 rfl) ?_
        refine va_get (D := E.1) (ci := 13) (v := .ref (a (o + 1))) (C := RX11) (T := TX11) (N := 18) hx hb ha in_X11 hown hst.k hP 0 rfl rfl 0 (by decide) (ha _ mw1636) (fun _ h9 => h9) rfl dX11_hearsTones_9 ?_
        refine lv_bipush (v := 29) hx hb dX11_hearsTones_12 (by decide) ?_
        refine lv_iload_n hx hb dX11_hearsTones_14 rfl (lv_at hl 0 rfl) ?_
        refine lv_iadd hx hb dX11_hearsTones_15 ?_
        obtain ⟨g4, hF⟩ := q_gdi hF
        refine vi_iald hx hb hst.k hP 1 0 rfl rfl (f := x.1.1) (k := (29 + i1).toNatClampNeg) rfl g4 dX11_hearsTones_16 ?_
        refine lv_isub hx hb dX11_hearsTones_17 ?_
        refine lv_topi (fun v5 ev5 => ?_)
        have hF := q_lti ev5 hF
        refine lv_istore (lv' := [(4, .int v5), (3, .int i1), (0, .ref (a o)), (1, .int p1), (2, .int p2)]) hx hb dX11_hearsTones_18 hl (by decide) rfl (fun ls hl => ?_)
        refine lv_iload_n hx hb dX11_hearsTones_20 rfl (lv_at hl 3 rfl) ?_
        refine lv_iconst (v := 0) hx hb dX11_hearsTones_21 (by decide) ?_
        refine lv_bipush (v := 31) hx hb dX11_hearsTones_22 (by decide) ?_
        obtain ⟨q6, hq6, hF⟩ := q_bdi hF
        refine cl_i (Lc := []) (Lc' := []) (L' := [w_Model E a o ((x.1.1, x.1.2.1, x.1.2.2.1, x.1.2.2.2.1, x.1.2.2.2.2), (x.2.1.1, x.2.1.2.1, x.2.1.2.2.1, x.2.1.2.2.2.1, x.2.1.2.2.2.2), (x.2.2.1.1, x.2.2.1.2.1, i2, i3), (x.2.2.2.1, x.2.2.2.2.1, x.2.2.2.2.2.1, x.2.2.2.2.2.2))]) (rv := q6) (va_runS (As := [.int p1, .int 0, .int 31]) (rest := []) ⟨hx, hb, hml, hown, ha⟩ (k_X11_in l E p1 0 31 q6 hq6 H.size) (cwS 3 ha (gi_S (fun _ h => h) mw1713 mw1714 mw87 mw1715) rfl rfl rfl hv_X11_in ⟨(Nat.le_of_ble_eq_true rfl), (Nat.le_of_ble_eq_true rfl)⟩) ⟨pre_blind, pre_at hP hD hS hz hzs hst [] (by decide) rfl rfl⟩ rfl rfl hl.1 rfl (lv_room (Nat.le_of_ble_eq_true rfl)) dX11_hearsTones_24 ⟨(Nat.le_of_ble_eq_true rfl), (Nat.le_of_ble_eq_true rfl)⟩) hP hD hS hA [] (by decide) rfl rfl rfl rfl (fun H locs hP hD hS => ?_)
        obtain ⟨J67, hJ67, hF⟩ := q_jn hF
        have jJ67 : ∀ (j7 : (Nat → Int32)) (j8 : Int32), ∀ (H : Heap) (locs : List Loc) (ls : Array Slot), J67 j7 j8 = some res → va_P E.1 vwCl (List.flatten [w_Model E a o ((x.1.1, x.1.2.1, x.1.2.2.1, x.1.2.2.2.1, x.1.2.2.2.2), (x.2.1.1, x.2.1.2.1, x.2.1.2.2.1, x.2.1.2.2.2.1, x.2.1.2.2.2.2), (x.2.2.1.1, x.2.2.1.2.1, j7, j8), (x.2.2.2.1, x.2.2.2.2.1, x.2.2.2.2.2.1, x.2.2.2.2.2.2))]) H → va_D A (List.flatten [w_Model E a o ((x.1.1, x.1.2.1, x.1.2.2.1, x.1.2.2.2.1, x.1.2.2.2.2), (x.2.1.1, x.2.1.2.1, x.2.1.2.2.1, x.2.1.2.2.2.1, x.2.1.2.2.2.2), (x.2.2.1.1, x.2.2.1.2.1, j7, j8), (x.2.2.2.1, x.2.2.2.2.1, x.2.2.2.2.2.1, x.2.2.2.2.2.2))]) → va_S A s.heap H locs → lv_has ls 5 [(3, .int i1), (0, .ref (a o)), (1, .int p1), (2, .int p2)] → W p l e rm_X11_hearsTones s m args below meth c H locs 0 0 Q (F0 m 67 ls []) := by
          intro j7 j8 H locs ls hF hP hD hS hl
          rw [hJ67] at hF
          obtain ⟨v9, ev9⟩ : ∃ y : Int32, y = i1 + 1 := ⟨_, rfl⟩
          have hF := q_lti ev9 hF
          refine lv_iinc (v := v9) (lv' := [(3, .int v9), (0, .ref (a o)), (1, .int p1), (2, .int p2)]) hx hb dX11_hearsTones_67 hl (k := 0) rfl (by rw [ev9]; rfl) (by decide) rfl (fun ls hl => ?_)
          refine lv_goto (tgt := 2) hx hb dX11_hearsTones_70 (by decide) ?_
          exact ih2 v9 j7 j8 H locs ls hF hP hD hS (lv_sub hl [0, 1, 2, 3] rfl)
        refine lv_if_eq (tgt := 67) hx hb dX11_hearsTones_27 (by decide) (fun c27 => ?_) (fun c27 => ?_)
        · have hF := q_brp c27 hF
          exact jJ67 i2 i3 H locs ls hF hP hD hS (lv_sub hl [1, 2, 3, 4] rfl)
        · have hF := q_brn c27 hF
          refine lv_iload hx hb dX11_hearsTones_30 (lv_at hl 0 rfl) ?_
          refine lv_iconst (v := 0) hx hb dX11_hearsTones_32 (by decide) ?_
          refine lv_aload_n hx hb dX11_hearsTones_33 rfl (lv_at hl 2 rfl) ?_
          refine va_get (D := E.1) (ci := 13) (v := .ref (a (o + 1))) (C := RX11) (T := TX11) (N := 18) hx hb ha in_X11 hown hst.k hP 0 rfl rfl 0 (by decide) (ha _ mw1636) (fun _ h9 => h9) rfl dX11_hearsTones_34 ?_
          refine lv_bipush (v := 33) hx hb dX11_hearsTones_37 (by decide) ?_
          refine lv_iload_n hx hb dX11_hearsTones_39 rfl (lv_at hl 1 rfl) ?_
          refine lv_iadd hx hb dX11_hearsTones_40 ?_
          obtain ⟨g10, hF⟩ := q_gdi hF
          refine vi_iald hx hb hst.k hP 1 0 rfl rfl (f := x.1.1) (k := (33 + i1).toNatClampNeg) rfl g10 dX11_hearsTones_41 ?_
          refine lv_iconst (v := 1) hx hb dX11_hearsTones_42 (by decide) ?_
          refine lv_isub hx hb dX11_hearsTones_43 ?_
          obtain ⟨q11, hq11, hF⟩ := q_bdi hF
          refine cl_i (Lc := []) (Lc' := []) (L' := [w_Model E a o ((x.1.1, x.1.2.1, x.1.2.2.1, x.1.2.2.2.1, x.1.2.2.2.2), (x.2.1.1, x.2.1.2.1, x.2.1.2.2.1, x.2.1.2.2.2.1, x.2.1.2.2.2.2), (x.2.2.1.1, x.2.2.1.2.1, i2, i3), (x.2.2.2.1, x.2.2.2.2.1, x.2.2.2.2.2.1, x.2.2.2.2.2.2))]) (rv := q11) (va_runS (As := [.int v5, .int 0, .int ((x.1.1 ((33 + i1).toNatClampNeg)) - 1)]) (rest := []) ⟨hx, hb, hml, hown, ha⟩ (k_X11_in l E v5 0 ((x.1.1 ((33 + i1).toNatClampNeg)) - 1) q11 hq11 H.size) (cwS 3 ha (gi_S (fun _ h => h) mw1713 mw1714 mw87 mw1715) rfl rfl rfl hv_X11_in ⟨(Nat.le_of_ble_eq_true rfl), (Nat.le_of_ble_eq_true rfl)⟩) ⟨pre_blind, pre_at hP hD hS hz hzs hst [] (by decide) rfl rfl⟩ rfl rfl hl.1 rfl (lv_room (Nat.le_of_ble_eq_true rfl)) dX11_hearsTones_44 ⟨(Nat.le_of_ble_eq_true rfl), (Nat.le_of_ble_eq_true rfl)⟩) hP hD hS hA [] (by decide) rfl rfl rfl rfl (fun H locs hP hD hS => ?_)
          refine lv_if_eq (tgt := 67) hx hb dX11_hearsTones_47 (by decide) (fun c47 => ?_) (fun c47 => ?_)
          · have hF := q_brp c47 hF
            exact jJ67 i2 i3 H locs ls hF hP hD hS (lv_sub hl [1, 2, 3, 4] rfl)
          · have hF := q_brn c47 hF
            refine lv_aload_n hx hb dX11_hearsTones_50 rfl (lv_at hl 2 rfl) ?_
            refine lv_aload_n hx hb dX11_hearsTones_51 rfl (lv_at hl 2 rfl) ?_
            refine lv_aload_n hx hb dX11_hearsTones_52 rfl (lv_at hl 2 rfl) ?_
            refine lv_iload_n hx hb dX11_hearsTones_53 rfl (lv_at hl 1 rfl) ?_
            refine lv_iload hx hb dX11_hearsTones_54 (lv_at hl 0 rfl) ?_
            obtain ⟨q12, hq12, hF⟩ := q_bdi hF
            refine cl_i (Lc := [w_Model E a o ((x.1.1, x.1.2.1, x.1.2.2.1, x.1.2.2.2.1, x.1.2.2.2.2), (x.2.1.1, x.2.1.2.1, x.2.1.2.2.1, x.2.1.2.2.2.1, x.2.1.2.2.2.2), (x.2.2.1.1, x.2.2.1.2.1, i2, i3), (x.2.2.2.1, x.2.2.2.2.1, x.2.2.2.2.2.1, x.2.2.2.2.2.2))]) (Lc' := [w_Model E a o ((x.1.1, x.1.2.1, x.1.2.2.1, x.1.2.2.2.1, x.1.2.2.2.2), (x.2.1.1, x.2.1.2.1, x.2.1.2.2.1, x.2.1.2.2.2.1, x.2.1.2.2.2.2), (x.2.2.1.1, x.2.2.1.2.1, i2, i3), (x.2.2.2.1, x.2.2.2.2.1, x.2.2.2.2.2.1, x.2.2.2.2.2.2))]) (L' := [w_Model E a o ((x.1.1, x.1.2.1, x.1.2.2.1, x.1.2.2.2.1, x.1.2.2.2.2), (x.2.1.1, x.2.1.2.1, x.2.1.2.2.1, x.2.1.2.2.2.1, x.2.1.2.2.2.2), (x.2.2.1.1, x.2.2.1.2.1, i2, i3), (x.2.2.2.1, x.2.2.2.2.1, x.2.2.2.2.2.1, x.2.2.2.2.2.2))]) (rv := q12) (va_runV (As := [.int i1, .int v5]) (rest := [.ref (a o), .ref (a o)]) ⟨hx, hb, hml, hown, ha⟩ (k_X11_toneAt l E a o ((x.1.1, x.1.2.1, x.1.2.2.1, x.1.2.2.2.1, x.1.2.2.2.2), (x.2.1.1, x.2.1.2.1, x.2.1.2.2.1, x.2.1.2.2.2.1, x.2.1.2.2.2.2), (x.2.2.1.1, x.2.2.1.2.1, i2, i3), (x.2.2.2.1, x.2.2.2.2.1, x.2.2.2.2.2.1, x.2.2.2.2.2.2)) i1 v5 q12 hq12 H.size) (cwV 2 ha (gi_V (fun _ h => h) mw1938 mw1940 mw52 mw87 mw1941) rfl rfl rfl hv_X11_toneAt ⟨(Nat.le_of_ble_eq_true rfl), (Nat.le_of_ble_eq_true rfl)⟩) ⟨pre_blind, va_recv hst.k (fr_P hP [0] rfl) (ci := 13) (q0 := 0) rfl rfl, pre_at hP hD hS hz hzs hst [0] (by decide) rfl rfl⟩ rfl rfl hl.1 rfl (lv_room (Nat.le_of_ble_eq_true rfl)) dX11_hearsTones_56 ⟨(Nat.le_of_ble_eq_true rfl), (Nat.le_of_ble_eq_true rfl)⟩) hP hD hS hA [0] (by decide) rfl rfl rfl rfl (fun H locs hP hD hS => ?_)
            obtain ⟨q13, hq13, hF⟩ := q_bdi hF
            refine cl_i (Lc := [w_Model E a o ((x.1.1, x.1.2.1, x.1.2.2.1, x.1.2.2.2.1, x.1.2.2.2.2), (x.2.1.1, x.2.1.2.1, x.2.1.2.2.1, x.2.1.2.2.2.1, x.2.1.2.2.2.2), (x.2.2.1.1, x.2.2.1.2.1, i2, i3), (x.2.2.2.1, x.2.2.2.2.1, x.2.2.2.2.2.1, x.2.2.2.2.2.2))]) (Lc' := [w_Model E a o ((x.1.1, x.1.2.1, x.1.2.2.1, x.1.2.2.2.1, x.1.2.2.2.2), (x.2.1.1, x.2.1.2.1, x.2.1.2.2.1, x.2.1.2.2.2.1, x.2.1.2.2.2.2), (x.2.2.1.1, x.2.2.1.2.1, i2, i3), (x.2.2.2.1, x.2.2.2.2.1, x.2.2.2.2.2.1, x.2.2.2.2.2.2))]) (L' := [w_Model E a o ((x.1.1, x.1.2.1, x.1.2.2.1, x.1.2.2.2.1, x.1.2.2.2.2), (x.2.1.1, x.2.1.2.1, x.2.1.2.2.1, x.2.1.2.2.2.1, x.2.1.2.2.2.2), (x.2.2.1.1, x.2.2.1.2.1, i2, i3), (x.2.2.2.1, x.2.2.2.2.1, x.2.2.2.2.2.1, x.2.2.2.2.2.2))]) (rv := q13) (va_runV (As := [.int q12]) (rest := [.ref (a o)]) ⟨hx, hb, hml, hown, ha⟩ (k_X11_noteOf l E a o ((x.1.1, x.1.2.1, x.1.2.2.1, x.1.2.2.2.1, x.1.2.2.2.2), (x.2.1.1, x.2.1.2.1, x.2.1.2.2.1, x.2.1.2.2.2.1, x.2.1.2.2.2.2), (x.2.2.1.1, x.2.2.1.2.1, i2, i3), (x.2.2.2.1, x.2.2.2.2.1, x.2.2.2.2.2.1, x.2.2.2.2.2.2)) q12 q13 hq13 H.size) (cwV 1 ha (gi_V (fun _ h => h) mw1776 mw1778 mw40 mw87 mw1779) rfl rfl rfl hv_X11_noteOf ⟨(Nat.le_of_ble_eq_true rfl), (Nat.le_of_ble_eq_true rfl)⟩) ⟨pre_blind, va_recv hst.k (fr_P hP [0] rfl) (ci := 13) (q0 := 0) rfl rfl, pre_at hP hD hS hz hzs hst [0] (by decide) rfl rfl⟩ rfl rfl hl.1 rfl (lv_room (Nat.le_of_ble_eq_true rfl)) dX11_hearsTones_59 ⟨(Nat.le_of_ble_eq_true rfl), (Nat.le_of_ble_eq_true rfl)⟩) hP hD hS hA [0] (by decide) rfl rfl rfl rfl (fun H locs hP hD hS => ?_)
            refine lv_iload_n hx hb dX11_hearsTones_62 rfl (lv_at hl 4 rfl) ?_
            refine lv_iadd hx hb dX11_hearsTones_63 ?_
            obtain ⟨q14, hq14, hF⟩ := q_bdi hF
            refine cl_v (Lc := [w_Model E a o ((x.1.1, x.1.2.1, x.1.2.2.1, x.1.2.2.2.1, x.1.2.2.2.2), (x.2.1.1, x.2.1.2.1, x.2.1.2.2.1, x.2.1.2.2.2.1, x.2.1.2.2.2.2), (x.2.2.1.1, x.2.2.1.2.1, i2, i3), (x.2.2.2.1, x.2.2.2.2.1, x.2.2.2.2.2.1, x.2.2.2.2.2.2))]) (Lc' := [w_Model E a o ((x.1.1, x.1.2.1, x.1.2.2.1, x.1.2.2.2.1, x.1.2.2.2.2), (x.2.1.1, x.2.1.2.1, x.2.1.2.2.1, x.2.1.2.2.2.1, x.2.1.2.2.2.2), (x.2.2.1.1, x.2.2.1.2.1, q14.1, q14.2), (x.2.2.2.1, x.2.2.2.2.1, x.2.2.2.2.2.1, x.2.2.2.2.2.2))]) (L' := [w_Model E a o ((x.1.1, x.1.2.1, x.1.2.2.1, x.1.2.2.2.1, x.1.2.2.2.2), (x.2.1.1, x.2.1.2.1, x.2.1.2.2.1, x.2.1.2.2.2.1, x.2.1.2.2.2.2), (x.2.2.1.1, x.2.2.1.2.1, q14.1, q14.2), (x.2.2.2.1, x.2.2.2.2.1, x.2.2.2.2.2.1, x.2.2.2.2.2.2))]) (va_runV (As := [.int (q13 + p2)]) (rest := []) ⟨hx, hb, hml, hown, ha⟩ (k_X11_hears l E a o ((x.1.1, x.1.2.1, x.1.2.2.1, x.1.2.2.2.1, x.1.2.2.2.2), (x.2.1.1, x.2.1.2.1, x.2.1.2.2.1, x.2.1.2.2.2.1, x.2.1.2.2.2.2), (x.2.2.1.1, x.2.2.1.2.1, i2, i3), (x.2.2.2.1, x.2.2.2.2.1, x.2.2.2.2.2.1, x.2.2.2.2.2.2)) (q13 + p2) q14 hq14 H.size) (cwV 1 ha (gi_V (fun _ h => h) mw1978 mw1980 mw56 mw87 mw1981) rfl rfl rfl hv_X11_hears ⟨(Nat.le_of_ble_eq_true rfl), (Nat.le_of_ble_eq_true rfl)⟩) ⟨pre_blind, va_recv hst.k (fr_P hP [0] rfl) (ci := 13) (q0 := 0) rfl rfl, pre_at hP hD hS hz hzs hst [0] (by decide) rfl rfl⟩ rfl rfl hl.1 rfl (lv_room (Nat.le_of_ble_eq_true rfl)) dX11_hearsTones_64 ⟨(Nat.le_of_ble_eq_true rfl), (Nat.le_of_ble_eq_true rfl)⟩) hP hD hS hA [0] (by decide) rfl rfl rfl rfl (fun H locs hP hD hS => ?_)
            exact jJ67 q14.1 q14.2 H locs ls hF hP hD hS (lv_sub hl [1, 2, 3, 4] rfl)
  exact key2 _ 0 x.2.2.1.2.2.1 x.2.2.1.2.2.2 H locs ls hF hP hD hS (lv_sub hl [0, 1, 2, 3] rfl)

/-! X11_listens -/
theorem dX11_listens_0 : decode cX11_listens 0 = .ok (.aload_n 0, 1) := by decide +kernel
theorem dX11_listens_1 : decode cX11_listens 1 = .ok (.iconst 0, 1) := by decide +kernel
theorem dX11_listens_2 : decode cX11_listens 2 = .ok (.putfield 157, 3) := by decide +kernel
theorem dX11_listens_5 : decode cX11_listens 5 = .ok (.iload_n 1, 1) := by decide +kernel
theorem dX11_listens_6 : decode cX11_listens 6 = .ok (.iconst 0, 1) := by decide +kernel
theorem dX11_listens_7 : decode cX11_listens 7 = .ok (.bipush 31, 2) := by decide +kernel
theorem dX11_listens_9 : decode cX11_listens 9 = .ok (.invokestatic 52, 3) := by decide +kernel
theorem dX11_listens_12 : decode cX11_listens 12 = .ok (.ifCond .eq 51, 3) := by decide +kernel
theorem dX11_listens_15 : decode cX11_listens 15 = .ok (.aload_n 0, 1) := by decide +kernel
theorem dX11_listens_16 : decode cX11_listens 16 = .ok (.iload_n 1, 1) := by decide +kernel
theorem dX11_listens_17 : decode cX11_listens 17 = .ok (.iconst 0, 1) := by decide +kernel
theorem dX11_listens_18 : decode cX11_listens 18 = .ok (.invokevirtual 164, 3) := by decide +kernel
theorem dX11_listens_21 : decode cX11_listens 21 = .ok (.iconst 0, 1) := by decide +kernel
theorem dX11_listens_22 : decode cX11_listens 22 = .ok (.istore_n 2, 1) := by decide +kernel
theorem dX11_listens_23 : decode cX11_listens 23 = .ok (.iload_n 2, 1) := by decide +kernel
theorem dX11_listens_24 : decode cX11_listens 24 = .ok (.aload_n 0, 1) := by decide +kernel
theorem dX11_listens_25 : decode cX11_listens 25 = .ok (.getfield 7, 3) := by decide +kernel
theorem dX11_listens_28 : decode cX11_listens 28 = .ok (.iconst 1, 1) := by decide +kernel
theorem dX11_listens_29 : decode cX11_listens 29 = .ok (.iaload, 1) := by decide +kernel
theorem dX11_listens_30 : decode cX11_listens 30 = .ok (.if_icmp .ge 33, 3) := by decide +kernel
theorem dX11_listens_33 : decode cX11_listens 33 = .ok (.aload_n 0, 1) := by decide +kernel
theorem dX11_listens_34 : decode cX11_listens 34 = .ok (.iload_n 1, 1) := by decide +kernel
theorem dX11_listens_35 : decode cX11_listens 35 = .ok (.aload_n 0, 1) := by decide +kernel
theorem dX11_listens_36 : decode cX11_listens 36 = .ok (.getfield 7, 3) := by decide +kernel
theorem dX11_listens_39 : decode cX11_listens 39 = .ok (.bipush 69, 2) := by decide +kernel
theorem dX11_listens_41 : decode cX11_listens 41 = .ok (.iload_n 2, 1) := by decide +kernel
theorem dX11_listens_42 : decode cX11_listens 42 = .ok (.iadd, 1) := by decide +kernel
theorem dX11_listens_43 : decode cX11_listens 43 = .ok (.iaload, 1) := by decide +kernel
theorem dX11_listens_44 : decode cX11_listens 44 = .ok (.isub, 1) := by decide +kernel
theorem dX11_listens_45 : decode cX11_listens 45 = .ok (.aload_n 0, 1) := by decide +kernel
theorem dX11_listens_46 : decode cX11_listens 46 = .ok (.getfield 7, 3) := by decide +kernel
theorem dX11_listens_49 : decode cX11_listens 49 = .ok (.bipush 73, 2) := by decide +kernel
theorem dX11_listens_51 : decode cX11_listens 51 = .ok (.iload_n 2, 1) := by decide +kernel
theorem dX11_listens_52 : decode cX11_listens 52 = .ok (.iadd, 1) := by decide +kernel
theorem dX11_listens_53 : decode cX11_listens 53 = .ok (.iaload, 1) := by decide +kernel
theorem dX11_listens_54 : decode cX11_listens 54 = .ok (.invokevirtual 164, 3) := by decide +kernel
theorem dX11_listens_57 : decode cX11_listens 57 = .ok (.iinc 2 1, 3) := by decide +kernel
theorem dX11_listens_60 : decode cX11_listens 60 = .ok (.goto (-37), 3) := by decide +kernel
theorem dX11_listens_63 : decode cX11_listens 63 = .ok (.return_, 1) := by decide +kernel
def f_X11_listens_L23 (x_g : (Nat → Int32)) (p1 : Int32) : Nat → Int32 → (Nat → Int32) → Int32 → Option ((Nat → Int32) × Int32)
  | 0, _, _, _ => none
  | n23 + 1, i3, i4, i5 =>
    q_br ((x_g 1) ≤ i3) (
  some (i4, i5)) (
  q_gd (q_in (69 + i3) 77) (
  q_gd (q_in (73 + i3) 77) (
  q_bd (f_X11_hearsTones x_g i4 i5 (p1 - (x_g ((69 + i3).toNatClampNeg))) (x_g ((73 + i3).toNatClampNeg))) (fun q8 =>
  q_lt (i3 + 1 : Int32) (fun v9 =>
  f_X11_listens_L23 x_g p1 n23 v9 q8.1 q8.2)))))
def f_X11_listens (x_g : (Nat → Int32)) (x_notes : (Nat → Int32)) (x_noteCount : Int32) (p1 : Int32) : Option ((Nat → Int32) × Int32) :=
  q_bd (f_X11_in p1 0 31) (fun q1 =>
  q_br (q1 = 0) (
  some (x_notes, 0)) (
  q_bd (f_X11_hearsTones x_g x_notes 0 p1 0) (fun q2 =>
  f_X11_listens_L23 x_g p1 2000 0 q2.1 q2.2)))
theorem hv_X11_listens : yX11_listens.cls = RX11 ∧ yX11_listens.cls ≠ "java/lang/invoke/MethodHandle" ∧ yX11_listens.cls ≠ "java/lang/invoke/VarHandle" ∧ (parseMethodDescriptor yX11_listens.desc).map (fun d => d.parameters.length) = some 1 := by decide +kernel
abbrev rm_X11_listens : Room := { frames := 2, cells := 0, slots := 0, locals := 46 }
set_option maxHeartbeats 4000000 in
set_option maxRecDepth 100000 in
theorem k_X11_listens (l : Launch) (E : ET) (a : Nat → Nat) (o : Nat) (x : Model_t) (p1 : Int32) (res : (Nat → Int32) × Int32) (hF : f_X11_listens x.1.1 x.2.2.1.2.2.1 x.2.2.1.2.2.2 p1 = some res) (sz : Nat) : CtV l yX11_listens (mws yX11_listens cX11_listens 3 none) rm_X11_listens 0 0 [.ref (a o), .int p1] E (bl_Model E a o x) (bl_Model E a o ((x.1.1, x.1.2.1, x.1.2.2.1, x.1.2.2.2.1, x.1.2.2.2.2), (x.2.1.1, x.2.1.2.1, x.2.1.2.2.1, x.2.1.2.2.2.1, x.2.1.2.2.2.2), (x.2.2.1.1, x.2.2.1.2.1, res.1, res.2), (x.2.2.2.1, x.2.2.2.2.1, x.2.2.2.2.2.1, x.2.2.2.2.2.2))) sz := by
  refine mk_M (by decide +kernel) (Nat.le_of_ble_eq_true rfl) ?_
  intro p e s m below meth c A args Q ls hAe hsz hQ hx hb hr hml hin ha hown hlocks hA hz hzs hst hP hD hS hl
  have hown : s.vm.findClass RX11 = some m.cls := hown
  rw [hAe] at hQ
  subst hsz
  have hP : va_P E.1 vwCl (List.flatten [w_Model E a o x]) s.heap := hP
  have hD : va_D A (List.flatten [w_Model E a o x]) := hD
  have hl : lv_has ls 3 [(0, .ref (a o)), (1, .int p1)] := hl
  generalize hHe : s.heap = H at hP
  have hS : va_S A s.heap H [] := by rw [← hHe]; exact hS
  generalize ([] : List Loc) = locs at hS ⊢
  unfold f_X11_listens at hF
  refine lv_aload_n hx hb dX11_listens_0 rfl (lv_at hl 0 rfl) ?_
  refine lv_iconst (v := 0) hx hb dX11_listens_1 (by decide) ?_
  refine va_put (D := E.1) (ci := 13) (v := .int 0) (ty := .int) (C := RX11) (T := TX11) (N := 18) hx hb ha in_X11 tyX11 tyX11_ok nmX11 hown hst.k hP hD hS 0 rfl rfl 13 (by decide) (ha _ mw1649) (fun _ h9 => h9) rfl (tyX11_ok 13 (by decide)) rfl rfl (Nat.le_of_ble_eq_true rfl) dX11_listens_2 (fun H locs hP hD hS => ?_)
  have hP : va_P E.1 vwCl (List.flatten [w_Model E a o ((x.1.1, x.1.2.1, x.1.2.2.1, x.1.2.2.2.1, x.1.2.2.2.2), (x.2.1.1, x.2.1.2.1, x.2.1.2.2.1, x.2.1.2.2.2.1, x.2.1.2.2.2.2), (x.2.2.1.1, x.2.2.1.2.1, x.2.2.1.2.2.1, 0), (x.2.2.2.1, x.2.2.2.2.1, x.2.2.2.2.2.1, x.2.2.2.2.2.2))]) H := hP
  have hD : va_D A (List.flatten [w_Model E a o ((x.1.1, x.1.2.1, x.1.2.2.1, x.1.2.2.2.1, x.1.2.2.2.2), (x.2.1.1, x.2.1.2.1, x.2.1.2.2.1, x.2.1.2.2.2.1, x.2.1.2.2.2.2), (x.2.2.1.1, x.2.2.1.2.1, x.2.2.1.2.2.1, 0), (x.2.2.2.1, x.2.2.2.2.1, x.2.2.2.2.2.1, x.2.2.2.2.2.2))]) := hD
  refine lv_iload_n hx hb dX11_listens_5 rfl (lv_at hl 1 rfl) ?_
  refine lv_iconst (v := 0) hx hb dX11_listens_6 (by decide) ?_
  refine lv_bipush (v := 31) hx hb dX11_listens_7 (by decide) ?_
  obtain ⟨q1, hq1, hF⟩ := q_bdi hF
  refine cl_i (Lc := []) (Lc' := []) (L' := [w_Model E a o ((x.1.1, x.1.2.1, x.1.2.2.1, x.1.2.2.2.1, x.1.2.2.2.2), (x.2.1.1, x.2.1.2.1, x.2.1.2.2.1, x.2.1.2.2.2.1, x.2.1.2.2.2.2), (x.2.2.1.1, x.2.2.1.2.1, x.2.2.1.2.2.1, 0), (x.2.2.2.1, x.2.2.2.2.1, x.2.2.2.2.2.1, x.2.2.2.2.2.2))]) (rv := q1) (va_runS (As := [.int p1, .int 0, .int 31]) (rest := []) ⟨hx, hb, hml, hown, ha⟩ (k_X11_in l E p1 0 31 q1 hq1 H.size) (cwS 3 ha (gi_S (fun _ h => h) mw1713 mw1714 mw87 mw1715) rfl rfl rfl hv_X11_in ⟨(Nat.le_of_ble_eq_true rfl), (Nat.le_of_ble_eq_true rfl)⟩) ⟨pre_blind, pre_at hP hD hS hz hzs hst [] (by decide) rfl rfl⟩ rfl rfl hl.1 rfl (lv_room (Nat.le_of_ble_eq_true rfl)) dX11_listens_9 ⟨(Nat.le_of_ble_eq_true rfl), (Nat.le_of_ble_eq_true rfl)⟩) hP hD hS hA [] (by decide) rfl rfl rfl rfl (fun H locs hP hD hS => ?_)
  refine lv_if_eq (tgt := 63) hx hb dX11_listens_12 (by decide) (fun c12 => ?_) (fun c12 => ?_)
  · have hF := q_brp c12 hF
    obtain rfl := Option.some.inj hF
    exact en_v hQ (Nat.le_of_ble_eq_true rfl) (Nat.le_of_ble_eq_true rfl) hx hb hr hlocks hP hD hS dX11_listens_63
  · have hF := q_brn c12 hF
    refine lv_aload_n hx hb dX11_listens_15 rfl (lv_at hl 0 rfl) ?_
    refine lv_iload_n hx hb dX11_listens_16 rfl (lv_at hl 1 rfl) ?_
    refine lv_iconst (v := 0) hx hb dX11_listens_17 (by decide) ?_
    obtain ⟨q2, hq2, hF⟩ := q_bdi hF
    refine cl_v (Lc := [w_Model E a o ((x.1.1, x.1.2.1, x.1.2.2.1, x.1.2.2.2.1, x.1.2.2.2.2), (x.2.1.1, x.2.1.2.1, x.2.1.2.2.1, x.2.1.2.2.2.1, x.2.1.2.2.2.2), (x.2.2.1.1, x.2.2.1.2.1, x.2.2.1.2.2.1, 0), (x.2.2.2.1, x.2.2.2.2.1, x.2.2.2.2.2.1, x.2.2.2.2.2.2))]) (Lc' := [w_Model E a o ((x.1.1, x.1.2.1, x.1.2.2.1, x.1.2.2.2.1, x.1.2.2.2.2), (x.2.1.1, x.2.1.2.1, x.2.1.2.2.1, x.2.1.2.2.2.1, x.2.1.2.2.2.2), (x.2.2.1.1, x.2.2.1.2.1, q2.1, q2.2), (x.2.2.2.1, x.2.2.2.2.1, x.2.2.2.2.2.1, x.2.2.2.2.2.2))]) (L' := [w_Model E a o ((x.1.1, x.1.2.1, x.1.2.2.1, x.1.2.2.2.1, x.1.2.2.2.2), (x.2.1.1, x.2.1.2.1, x.2.1.2.2.1, x.2.1.2.2.2.1, x.2.1.2.2.2.2), (x.2.2.1.1, x.2.2.1.2.1, q2.1, q2.2), (x.2.2.2.1, x.2.2.2.2.1, x.2.2.2.2.2.1, x.2.2.2.2.2.2))]) (va_runV (As := [.int p1, .int 0]) (rest := []) ⟨hx, hb, hml, hown, ha⟩ (k_X11_hearsTones l E a o ((x.1.1, x.1.2.1, x.1.2.2.1, x.1.2.2.2.1, x.1.2.2.2.2), (x.2.1.1, x.2.1.2.1, x.2.1.2.2.1, x.2.1.2.2.2.1, x.2.1.2.2.2.2), (x.2.2.1.1, x.2.2.1.2.1, x.2.2.1.2.2.1, 0), (x.2.2.2.1, x.2.2.2.2.1, x.2.2.2.2.2.1, x.2.2.2.2.2.2)) p1 0 q2 hq2 H.size) (cwV 2 ha (gi_V (fun _ h => h) mw1974 mw1976 mw55 mw87 mw1977) rfl rfl rfl hv_X11_hearsTones ⟨(Nat.le_of_ble_eq_true rfl), (Nat.le_of_ble_eq_true rfl)⟩) ⟨pre_blind, va_recv hst.k (fr_P hP [0] rfl) (ci := 13) (q0 := 0) rfl rfl, pre_at hP hD hS hz hzs hst [0] (by decide) rfl rfl⟩ rfl rfl hl.1 rfl (lv_room (Nat.le_of_ble_eq_true rfl)) dX11_listens_18 ⟨(Nat.le_of_ble_eq_true rfl), (Nat.le_of_ble_eq_true rfl)⟩) hP hD hS hA [0] (by decide) rfl rfl rfl rfl (fun H locs hP hD hS => ?_)
    refine lv_iconst (v := 0) hx hb dX11_listens_21 (by decide) ?_
    refine lv_istore_n (lv' := [(2, .int 0), (0, .ref (a o)), (1, .int p1)]) hx hb dX11_listens_22 rfl hl (by decide) rfl (fun ls hl => ?_)
    have key23 : ∀ (n : Nat) (i3 : Int32) (i4 : (Nat → Int32)) (i5 : Int32) (H : Heap) (locs : List Loc) (ls : Array Slot), f_X11_listens_L23 x.1.1 p1 n i3 i4 i5 = some res → va_P E.1 vwCl (List.flatten [w_Model E a o ((x.1.1, x.1.2.1, x.1.2.2.1, x.1.2.2.2.1, x.1.2.2.2.2), (x.2.1.1, x.2.1.2.1, x.2.1.2.2.1, x.2.1.2.2.2.1, x.2.1.2.2.2.2), (x.2.2.1.1, x.2.2.1.2.1, i4, i5), (x.2.2.2.1, x.2.2.2.2.1, x.2.2.2.2.2.1, x.2.2.2.2.2.2))]) H → va_D A (List.flatten [w_Model E a o ((x.1.1, x.1.2.1, x.1.2.2.1, x.1.2.2.2.1, x.1.2.2.2.2), (x.2.1.1, x.2.1.2.1, x.2.1.2.2.1, x.2.1.2.2.2.1, x.2.1.2.2.2.2), (x.2.2.1.1, x.2.2.1.2.1, i4, i5), (x.2.2.2.1, x.2.2.2.2.1, x.2.2.2.2.2.1, x.2.2.2.2.2.2))]) → va_S A s.heap H locs → lv_has ls 3 [(2, .int i3), (0, .ref (a o)), (1, .int p1)] → W p l e rm_X11_listens s m args below meth c H locs 0 0 Q (F0 m 23 ls []) := by
      intro n23
      induction n23 with
      | zero => intro i3 i4 i5 H locs ls hF; exact absurd hF (by simp [f_X11_listens_L23])
      | succ n23 ih23 =>
        intro i3 i4 i5 H locs ls hF hP hD hS hl
        rw [f_X11_listens_L23] at hF
        refine lv_iload_n hx hb dX11_listens_23 rfl (lv_at hl 0 rfl) ?_
        refine lv_aload_n hx hb dX11_listens_24 rfl (lv_at hl 1 rfl) ?_
        refine va_get (D := E.1) (ci := 13) (v := .ref (a (o + 1))) (C := RX11) (T := TX11) (N := 18) hx hb ha in_X11 hown hst.k hP 0 rfl rfl 0 (by decide) (ha _ mw1636) (fun _ h9 => h9) rfl dX11_listens_25 ?_
        refine lv_iconst (v := 1) hx hb dX11_listens_28 (by decide) ?_
        refine vi_iald hx hb hst.k hP 1 0 rfl rfl (f := x.1.1) (k := 1) (by decide) (by decide) dX11_listens_29 ?_
        refine lv_icmp_ge (tgt := 63) hx hb dX11_listens_30 (by decide) (fun c30 => ?_) (fun c30 => ?_)
        · have hF := q_brp c30 hF
          obtain rfl := Option.some.inj hF
          exact en_v hQ (Nat.le_of_ble_eq_true rfl) (Nat.le_of_ble_eq_true rfl) hx hb hr hlocks hP hD hS dX11_listens_63
        · have hF := q_brn c30 hF
          refine lv_aload_n hx hb dX11_listens_33 rfl (lv_at hl 1 rfl) ?_
          refine lv_iload_n hx hb dX11_listens_34 rfl (lv_at hl 2 rfl) ?_
          refine lv_aload_n hx hb dX11_listens_35 rfl (lv_at hl 1 rfl) ?_
          refine va_get (D := E.1) (ci := 13) (v := .ref (a (o + 1))) (C := RX11) (T := TX11) (N := 18) hx hb ha in_X11 hown hst.k hP 0 rfl rfl 0 (by decide) (ha _ mw1636) (fun _ h9 => h9) rfl dX11_listens_36 ?_
          refine lv_bipush (v := 69) hx hb dX11_listens_39 (by decide) ?_
          refine lv_iload_n hx hb dX11_listens_41 rfl (lv_at hl 0 rfl) ?_
          refine lv_iadd hx hb dX11_listens_42 ?_
          obtain ⟨g6, hF⟩ := q_gdi hF
          refine vi_iald hx hb hst.k hP 1 0 rfl rfl (f := x.1.1) (k := (69 + i3).toNatClampNeg) rfl g6 dX11_listens_43 ?_
          refine lv_isub hx hb dX11_listens_44 ?_
          refine lv_aload_n hx hb dX11_listens_45 rfl (lv_at hl 1 rfl) ?_
          refine va_get (D := E.1) (ci := 13) (v := .ref (a (o + 1))) (C := RX11) (T := TX11) (N := 18) hx hb ha in_X11 hown hst.k hP 0 rfl rfl 0 (by decide) (ha _ mw1636) (fun _ h9 => h9) rfl dX11_listens_46 ?_
          refine lv_bipush (v := 73) hx hb dX11_listens_49 (by decide) ?_
          refine lv_iload_n hx hb dX11_listens_51 rfl (lv_at hl 0 rfl) ?_
          refine lv_iadd hx hb dX11_listens_52 ?_
          obtain ⟨g7, hF⟩ := q_gdi hF
          refine vi_iald hx hb hst.k hP 1 0 rfl rfl (f := x.1.1) (k := (73 + i3).toNatClampNeg) rfl g7 dX11_listens_53 ?_
          obtain ⟨q8, hq8, hF⟩ := q_bdi hF
          refine cl_v (Lc := [w_Model E a o ((x.1.1, x.1.2.1, x.1.2.2.1, x.1.2.2.2.1, x.1.2.2.2.2), (x.2.1.1, x.2.1.2.1, x.2.1.2.2.1, x.2.1.2.2.2.1, x.2.1.2.2.2.2), (x.2.2.1.1, x.2.2.1.2.1, i4, i5), (x.2.2.2.1, x.2.2.2.2.1, x.2.2.2.2.2.1, x.2.2.2.2.2.2))]) (Lc' := [w_Model E a o ((x.1.1, x.1.2.1, x.1.2.2.1, x.1.2.2.2.1, x.1.2.2.2.2), (x.2.1.1, x.2.1.2.1, x.2.1.2.2.1, x.2.1.2.2.2.1, x.2.1.2.2.2.2), (x.2.2.1.1, x.2.2.1.2.1, q8.1, q8.2), (x.2.2.2.1, x.2.2.2.2.1, x.2.2.2.2.2.1, x.2.2.2.2.2.2))]) (L' := [w_Model E a o ((x.1.1, x.1.2.1, x.1.2.2.1, x.1.2.2.2.1, x.1.2.2.2.2), (x.2.1.1, x.2.1.2.1, x.2.1.2.2.1, x.2.1.2.2.2.1, x.2.1.2.2.2.2), (x.2.2.1.1, x.2.2.1.2.1, q8.1, q8.2), (x.2.2.2.1, x.2.2.2.2.1, x.2.2.2.2.2.1, x.2.2.2.2.2.2))]) (va_runV (As := [.int (p1 - (x.1.1 ((69 + i3).toNatClampNeg))), .int (x.1.1 ((73 + i3).toNatClampNeg))]) (rest := []) ⟨hx, hb, hml, hown, ha⟩ (k_X11_hearsTones l E a o ((x.1.1, x.1.2.1, x.1.2.2.1, x.1.2.2.2.1, x.1.2.2.2.2), (x.2.1.1, x.2.1.2.1, x.2.1.2.2.1, x.2.1.2.2.2.1, x.2.1.2.2.2.2), (x.2.2.1.1, x.2.2.1.2.1, i4, i5), (x.2.2.2.1, x.2.2.2.2.1, x.2.2.2.2.2.1, x.2.2.2.2.2.2)) (p1 - (x.1.1 ((69 + i3).toNatClampNeg))) (x.1.1 ((73 + i3).toNatClampNeg)) q8 hq8 H.size) (cwV 2 ha (gi_V (fun _ h => h) mw1974 mw1976 mw55 mw87 mw1977) rfl rfl rfl hv_X11_hearsTones ⟨(Nat.le_of_ble_eq_true rfl), (Nat.le_of_ble_eq_true rfl)⟩) ⟨pre_blind, va_recv hst.k (fr_P hP [0] rfl) (ci := 13) (q0 := 0) rfl rfl, pre_at hP hD hS hz hzs hst [0] (by decide) rfl rfl⟩ rfl rfl hl.1 rfl (lv_room (Nat.le_of_ble_eq_true rfl)) dX11_listens_54 ⟨(Nat.le_of_ble_eq_true rfl), (Nat.le_of_ble_eq_true rfl)⟩) hP hD hS hA [0] (by decide) rfl rfl rfl rfl (fun H locs hP hD hS => ?_)
          obtain ⟨v9, ev9⟩ : ∃ y : Int32, y = i3 + 1 := ⟨_, rfl⟩
          have hF := q_lti ev9 hF
          refine lv_iinc (v := v9) (lv' := [(2, .int v9), (0, .ref (a o)), (1, .int p1)]) hx hb dX11_listens_57 hl (k := 0) rfl (by rw [ev9]; rfl) (by decide) rfl (fun ls hl => ?_)
          refine lv_goto (tgt := 23) hx hb dX11_listens_60 (by decide) ?_
          exact ih23 v9 q8.1 q8.2 H locs ls hF hP hD hS (lv_sub hl [0, 1, 2] rfl)
    exact key23 _ 0 q2.1 q2.2 H locs ls hF hP hD hS (lv_sub hl [0, 1, 2] rfl)

/-! X11_chordSize -/
theorem dX11_chordSize_0 : decode cX11_chordSize 0 = .ok (.aload_n 0, 1) := by decide +kernel
theorem dX11_chordSize_1 : decode cX11_chordSize 1 = .ok (.iload_n 1, 1) := by decide +kernel
theorem dX11_chordSize_2 : decode cX11_chordSize 2 = .ok (.invokevirtual 168, 3) := by decide +kernel
theorem dX11_chordSize_5 : decode cX11_chordSize 5 = .ok (.aload_n 0, 1) := by decide +kernel
theorem dX11_chordSize_6 : decode cX11_chordSize 6 = .ok (.aload_n 0, 1) := by decide +kernel
theorem dX11_chordSize_7 : decode cX11_chordSize 7 = .ok (.getfield 157, 3) := by decide +kernel
theorem dX11_chordSize_10 : decode cX11_chordSize 10 = .ok (.invokevirtual 83, 3) := by decide +kernel
theorem dX11_chordSize_13 : decode cX11_chordSize 13 = .ok (.ireturn, 1) := by decide +kernel
def f_X11_chordSize (x_g : (Nat → Int32)) (x_notes : (Nat → Int32)) (x_noteCount : Int32) (x_thrown : Int32) (p1 : Int32) : Option (Int32 × (Nat → Int32) × Int32 × Int32) :=
  q_bd (f_X11_listens x_g x_notes x_noteCount p1) (fun q1 =>
  q_bd (f_X11_done x_thrown q1.2) (fun q2 =>
  some (q2.1, q1.1, q1.2, q2.2)))
theorem hv_X11_chordSize : yX11_chordSize.cls = RX11 ∧ yX11_chordSize.cls ≠ "java/lang/invoke/MethodHandle" ∧ yX11_chordSize.cls ≠ "java/lang/invoke/VarHandle" ∧ (parseMethodDescriptor yX11_chordSize.desc).map (fun d => d.parameters.length) = some 1 := by decide +kernel
abbrev rm_X11_chordSize : Room := { frames := 3, cells := 0, slots := 0, locals := 68 }
set_option maxHeartbeats 4000000 in
set_option maxRecDepth 100000 in
theorem k_X11_chordSize (l : Launch) (E : ET) (a : Nat → Nat) (o : Nat) (x : Model_t) (p1 : Int32) (res : Int32 × (Nat → Int32) × Int32 × Int32) (hF : f_X11_chordSize x.1.1 x.2.2.1.2.2.1 x.2.2.1.2.2.2 x.2.2.2.1 p1 = some res) (sz : Nat) : CtI l yX11_chordSize (mws yX11_chordSize cX11_chordSize 2 (some .int)) rm_X11_chordSize 0 0 [.ref (a o), .int p1] E (bl_Model E a o x) res.1 (bl_Model E a o ((x.1.1, x.1.2.1, x.1.2.2.1, x.1.2.2.2.1, x.1.2.2.2.2), (x.2.1.1, x.2.1.2.1, x.2.1.2.2.1, x.2.1.2.2.2.1, x.2.1.2.2.2.2), (x.2.2.1.1, x.2.2.1.2.1, res.2.1, res.2.2.1), (res.2.2.2, x.2.2.2.2.1, x.2.2.2.2.2.1, x.2.2.2.2.2.2))) sz := by
  refine mk_M (by decide +kernel) (Nat.le_of_ble_eq_true rfl) ?_
  intro p e s m below meth c A args Q ls hAe hsz hQ hx hb hr hml hin ha hown hlocks hA hz hzs hst hP hD hS hl
  have hown : s.vm.findClass RX11 = some m.cls := hown
  rw [hAe] at hQ
  subst hsz
  have hP : va_P E.1 vwCl (List.flatten [w_Model E a o x]) s.heap := hP
  have hD : va_D A (List.flatten [w_Model E a o x]) := hD
  have hl : lv_has ls 2 [(0, .ref (a o)), (1, .int p1)] := hl
  generalize hHe : s.heap = H at hP
  have hS : va_S A s.heap H [] := by rw [← hHe]; exact hS
  generalize ([] : List Loc) = locs at hS ⊢
  unfold f_X11_chordSize at hF
  refine lv_aload_n hx hb dX11_chordSize_0 rfl (lv_at hl 0 rfl) ?_
  refine lv_iload_n hx hb dX11_chordSize_1 rfl (lv_at hl 1 rfl) ?_
  obtain ⟨q1, hq1, hF⟩ := q_bdi hF
  refine cl_v (Lc := [w_Model E a o x]) (Lc' := [w_Model E a o ((x.1.1, x.1.2.1, x.1.2.2.1, x.1.2.2.2.1, x.1.2.2.2.2), (x.2.1.1, x.2.1.2.1, x.2.1.2.2.1, x.2.1.2.2.2.1, x.2.1.2.2.2.2), (x.2.2.1.1, x.2.2.1.2.1, q1.1, q1.2), (x.2.2.2.1, x.2.2.2.2.1, x.2.2.2.2.2.1, x.2.2.2.2.2.2))]) (L' := [w_Model E a o ((x.1.1, x.1.2.1, x.1.2.2.1, x.1.2.2.2.1, x.1.2.2.2.2), (x.2.1.1, x.2.1.2.1, x.2.1.2.2.1, x.2.1.2.2.2.1, x.2.1.2.2.2.2), (x.2.2.1.1, x.2.2.1.2.1, q1.1, q1.2), (x.2.2.2.1, x.2.2.2.2.1, x.2.2.2.2.2.1, x.2.2.2.2.2.2))]) (va_runV (As := [.int p1]) (rest := []) ⟨hx, hb, hml, hown, ha⟩ (k_X11_listens l E a o x p1 q1 hq1 H.size) (cwV 1 ha (gi_V (fun _ h => h) mw1970 mw1972 mw54 mw87 mw1973) rfl rfl rfl hv_X11_listens ⟨(Nat.le_of_ble_eq_true rfl), (Nat.le_of_ble_eq_true rfl)⟩) ⟨pre_blind, va_recv hst.k (fr_P hP [0] rfl) (ci := 13) (q0 := 0) rfl rfl, pre_at hP hD hS hz hzs hst [0] (by decide) rfl rfl⟩ rfl rfl hl.1 rfl (lv_room (Nat.le_of_ble_eq_true rfl)) dX11_chordSize_2 ⟨(Nat.le_of_ble_eq_true rfl), (Nat.le_of_ble_eq_true rfl)⟩) hP hD hS hA [0] (by decide) rfl rfl rfl rfl (fun H locs hP hD hS => ?_)
  refine lv_aload_n hx hb dX11_chordSize_5 rfl (lv_at hl 0 rfl) ?_
  refine lv_aload_n hx hb dX11_chordSize_6 rfl (lv_at hl 0 rfl) ?_
  refine va_get (D := E.1) (ci := 13) (v := .int q1.2) (C := RX11) (T := TX11) (N := 18) hx hb ha in_X11 hown hst.k hP 0 rfl rfl 13 (by decide) (ha _ mw1649) (fun _ h9 => h9) rfl dX11_chordSize_7 ?_
  obtain ⟨q2, hq2, hF⟩ := q_bdi hF
  refine cl_i (Lc := [w_Model E a o ((x.1.1, x.1.2.1, x.1.2.2.1, x.1.2.2.2.1, x.1.2.2.2.2), (x.2.1.1, x.2.1.2.1, x.2.1.2.2.1, x.2.1.2.2.2.1, x.2.1.2.2.2.2), (x.2.2.1.1, x.2.2.1.2.1, q1.1, q1.2), (x.2.2.2.1, x.2.2.2.2.1, x.2.2.2.2.2.1, x.2.2.2.2.2.2))]) (Lc' := [w_Model E a o ((x.1.1, x.1.2.1, x.1.2.2.1, x.1.2.2.2.1, x.1.2.2.2.2), (x.2.1.1, x.2.1.2.1, x.2.1.2.2.1, x.2.1.2.2.2.1, x.2.1.2.2.2.2), (x.2.2.1.1, x.2.2.1.2.1, q1.1, q1.2), (q2.2, x.2.2.2.2.1, x.2.2.2.2.2.1, x.2.2.2.2.2.2))]) (L' := [w_Model E a o ((x.1.1, x.1.2.1, x.1.2.2.1, x.1.2.2.2.1, x.1.2.2.2.2), (x.2.1.1, x.2.1.2.1, x.2.1.2.2.1, x.2.1.2.2.2.1, x.2.1.2.2.2.2), (x.2.2.1.1, x.2.2.1.2.1, q1.1, q1.2), (q2.2, x.2.2.2.2.1, x.2.2.2.2.2.1, x.2.2.2.2.2.2))]) (rv := q2.1) (va_runV (As := [.int q1.2]) (rest := []) ⟨hx, hb, hml, hown, ha⟩ (k_X11_done l E a o ((x.1.1, x.1.2.1, x.1.2.2.1, x.1.2.2.2.1, x.1.2.2.2.2), (x.2.1.1, x.2.1.2.1, x.2.1.2.2.1, x.2.1.2.2.2.1, x.2.1.2.2.2.2), (x.2.2.1.1, x.2.2.1.2.1, q1.1, q1.2), (x.2.2.2.1, x.2.2.2.2.1, x.2.2.2.2.2.1, x.2.2.2.2.2.2)) q1.2 q2 hq2 H.size) (cwV 1 ha (gi_V (fun _ h => h) mw1720 mw1722 mw30 mw87 mw1723) rfl rfl rfl hv_X11_done ⟨(Nat.le_of_ble_eq_true rfl), (Nat.le_of_ble_eq_true rfl)⟩) ⟨pre_blind, va_recv hst.k (fr_P hP [0] rfl) (ci := 13) (q0 := 0) rfl rfl, pre_at hP hD hS hz hzs hst [0] (by decide) rfl rfl⟩ rfl rfl hl.1 rfl (lv_room (Nat.le_of_ble_eq_true rfl)) dX11_chordSize_10 ⟨(Nat.le_of_ble_eq_true rfl), (Nat.le_of_ble_eq_true rfl)⟩) hP hD hS hA [0] (by decide) rfl rfl rfl rfl (fun H locs hP hD hS => ?_)
  obtain rfl := Option.some.inj hF
  exact en_i hQ (Nat.le_of_ble_eq_true rfl) (Nat.le_of_ble_eq_true rfl) hx hb hr hlocks hP hD hS rfl dX11_chordSize_13

/-! X11_chordNote -/
theorem dX11_chordNote_0 : decode cX11_chordNote 0 = .ok (.aload_n 0, 1) := by decide +kernel
theorem dX11_chordNote_1 : decode cX11_chordNote 1 = .ok (.iload_n 1, 1) := by decide +kernel
theorem dX11_chordNote_2 : decode cX11_chordNote 2 = .ok (.invokevirtual 168, 3) := by decide +kernel
theorem dX11_chordNote_5 : decode cX11_chordNote 5 = .ok (.iload_n 2, 1) := by decide +kernel
theorem dX11_chordNote_6 : decode cX11_chordNote 6 = .ok (.iconst 0, 1) := by decide +kernel
theorem dX11_chordNote_7 : decode cX11_chordNote 7 = .ok (.aload_n 0, 1) := by decide +kernel
theorem dX11_chordNote_8 : decode cX11_chordNote 8 = .ok (.getfield 157, 3) := by decide +kernel
theorem dX11_chordNote_11 : decode cX11_chordNote 11 = .ok (.iconst 1, 1) := by decide +kernel
theorem dX11_chordNote_12 : decode cX11_chordNote 12 = .ok (.isub, 1) := by decide +kernel
theorem dX11_chordNote_13 : decode cX11_chordNote 13 = .ok (.invokestatic 52, 3) := by decide +kernel
theorem dX11_chordNote_16 : decode cX11_chordNote 16 = .ok (.ifCond .eq 16, 3) := by decide +kernel
theorem dX11_chordNote_19 : decode cX11_chordNote 19 = .ok (.aload_n 0, 1) := by decide +kernel
theorem dX11_chordNote_20 : decode cX11_chordNote 20 = .ok (.aload_n 0, 1) := by decide +kernel
theorem dX11_chordNote_21 : decode cX11_chordNote 21 = .ok (.getfield 36, 3) := by decide +kernel
theorem dX11_chordNote_24 : decode cX11_chordNote 24 = .ok (.iload_n 2, 1) := by decide +kernel
theorem dX11_chordNote_25 : decode cX11_chordNote 25 = .ok (.iaload, 1) := by decide +kernel
theorem dX11_chordNote_26 : decode cX11_chordNote 26 = .ok (.invokevirtual 83, 3) := by decide +kernel
theorem dX11_chordNote_29 : decode cX11_chordNote 29 = .ok (.goto 8, 3) := by decide +kernel
theorem dX11_chordNote_32 : decode cX11_chordNote 32 = .ok (.aload_n 0, 1) := by decide +kernel
theorem dX11_chordNote_33 : decode cX11_chordNote 33 = .ok (.iconst 1, 1) := by decide +kernel
theorem dX11_chordNote_34 : decode cX11_chordNote 34 = .ok (.invokevirtual 80, 3) := by decide +kernel
theorem dX11_chordNote_37 : decode cX11_chordNote 37 = .ok (.ireturn, 1) := by decide +kernel
def f_X11_chordNote (x_g : (Nat → Int32)) (x_notes : (Nat → Int32)) (x_noteCount : Int32) (x_thrown : Int32) (p1 : Int32) (p2 : Int32) : Option (Int32 × (Nat → Int32) × Int32 × Int32) :=
  q_bd (f_X11_listens x_g x_notes x_noteCount p1) (fun q1 =>
  q_bd (f_X11_in p2 0 (q1.2 - 1)) (fun q2 =>
  q_br (q2 = 0) (
  q_bd (f_X11_fails x_thrown 1) (fun q3 =>
  some (q3.1, q1.1, q1.2, q3.2))) (
  q_gd (q_in p2 24) (
  q_bd (f_X11_done x_thrown (q1.1 (p2.toNatClampNeg))) (fun q5 =>
  some (q5.1, q1.1, q1.2, q5.2))))))
theorem hv_X11_chordNote : yX11_chordNote.cls = RX11 ∧ yX11_chordNote.cls ≠ "java/lang/invoke/MethodHandle" ∧ yX11_chordNote.cls ≠ "java/lang/invoke/VarHandle" ∧ (parseMethodDescriptor yX11_chordNote.desc).map (fun d => d.parameters.length) = some 2 := by decide +kernel
abbrev rm_X11_chordNote : Room := { frames := 3, cells := 0, slots := 0, locals := 68 }
set_option maxHeartbeats 4000000 in
set_option maxRecDepth 100000 in
theorem k_X11_chordNote (l : Launch) (E : ET) (a : Nat → Nat) (o : Nat) (x : Model_t) (p1 : Int32) (p2 : Int32) (res : Int32 × (Nat → Int32) × Int32 × Int32) (hF : f_X11_chordNote x.1.1 x.2.2.1.2.2.1 x.2.2.1.2.2.2 x.2.2.2.1 p1 p2 = some res) (sz : Nat) : CtI l yX11_chordNote (mws yX11_chordNote cX11_chordNote 3 (some .int)) rm_X11_chordNote 0 0 [.ref (a o), .int p1, .int p2] E (bl_Model E a o x) res.1 (bl_Model E a o ((x.1.1, x.1.2.1, x.1.2.2.1, x.1.2.2.2.1, x.1.2.2.2.2), (x.2.1.1, x.2.1.2.1, x.2.1.2.2.1, x.2.1.2.2.2.1, x.2.1.2.2.2.2), (x.2.2.1.1, x.2.2.1.2.1, res.2.1, res.2.2.1), (res.2.2.2, x.2.2.2.2.1, x.2.2.2.2.2.1, x.2.2.2.2.2.2))) sz := by
  refine mk_M (by decide +kernel) (Nat.le_of_ble_eq_true rfl) ?_
  intro p e s m below meth c A args Q ls hAe hsz hQ hx hb hr hml hin ha hown hlocks hA hz hzs hst hP hD hS hl
  have hown : s.vm.findClass RX11 = some m.cls := hown
  rw [hAe] at hQ
  subst hsz
  have hP : va_P E.1 vwCl (List.flatten [w_Model E a o x]) s.heap := hP
  have hD : va_D A (List.flatten [w_Model E a o x]) := hD
  have hl : lv_has ls 3 [(0, .ref (a o)), (1, .int p1), (2, .int p2)] := hl
  generalize hHe : s.heap = H at hP
  have hS : va_S A s.heap H [] := by rw [← hHe]; exact hS
  generalize ([] : List Loc) = locs at hS ⊢
  unfold f_X11_chordNote at hF
  refine lv_aload_n hx hb dX11_chordNote_0 rfl (lv_at hl 0 rfl) ?_
  refine lv_iload_n hx hb dX11_chordNote_1 rfl (lv_at hl 1 rfl) ?_
  obtain ⟨q1, hq1, hF⟩ := q_bdi hF
  refine cl_v (Lc := [w_Model E a o x]) (Lc' := [w_Model E a o ((x.1.1, x.1.2.1, x.1.2.2.1, x.1.2.2.2.1, x.1.2.2.2.2), (x.2.1.1, x.2.1.2.1, x.2.1.2.2.1, x.2.1.2.2.2.1, x.2.1.2.2.2.2), (x.2.2.1.1, x.2.2.1.2.1, q1.1, q1.2), (x.2.2.2.1, x.2.2.2.2.1, x.2.2.2.2.2.1, x.2.2.2.2.2.2))]) (L' := [w_Model E a o ((x.1.1, x.1.2.1, x.1.2.2.1, x.1.2.2.2.1, x.1.2.2.2.2), (x.2.1.1, x.2.1.2.1, x.2.1.2.2.1, x.2.1.2.2.2.1, x.2.1.2.2.2.2), (x.2.2.1.1, x.2.2.1.2.1, q1.1, q1.2), (x.2.2.2.1, x.2.2.2.2.1, x.2.2.2.2.2.1, x.2.2.2.2.2.2))]) (va_runV (As := [.int p1]) (rest := []) ⟨hx, hb, hml, hown, ha⟩ (k_X11_listens l E a o x p1 q1 hq1 H.size) (cwV 1 ha (gi_V (fun _ h => h) mw1970 mw1972 mw54 mw87 mw1973) rfl rfl rfl hv_X11_listens ⟨(Nat.le_of_ble_eq_true rfl), (Nat.le_of_ble_eq_true rfl)⟩) ⟨pre_blind, va_recv hst.k (fr_P hP [0] rfl) (ci := 13) (q0 := 0) rfl rfl, pre_at hP hD hS hz hzs hst [0] (by decide) rfl rfl⟩ rfl rfl hl.1 rfl (lv_room (Nat.le_of_ble_eq_true rfl)) dX11_chordNote_2 ⟨(Nat.le_of_ble_eq_true rfl), (Nat.le_of_ble_eq_true rfl)⟩) hP hD hS hA [0] (by decide) rfl rfl rfl rfl (fun H locs hP hD hS => ?_)
  refine lv_iload_n hx hb dX11_chordNote_5 rfl (lv_at hl 2 rfl) ?_
  refine lv_iconst (v := 0) hx hb dX11_chordNote_6 (by decide) ?_
  refine lv_aload_n hx hb dX11_chordNote_7 rfl (lv_at hl 0 rfl) ?_
  refine va_get (D := E.1) (ci := 13) (v := .int q1.2) (C := RX11) (T := TX11) (N := 18) hx hb ha in_X11 hown hst.k hP 0 rfl rfl 13 (by decide) (ha _ mw1649) (fun _ h9 => h9) rfl dX11_chordNote_8 ?_
  refine lv_iconst (v := 1) hx hb dX11_chordNote_11 (by decide) ?_
  refine lv_isub hx hb dX11_chordNote_12 ?_
  obtain ⟨q2, hq2, hF⟩ := q_bdi hF
  refine cl_i (Lc := []) (Lc' := []) (L' := [w_Model E a o ((x.1.1, x.1.2.1, x.1.2.2.1, x.1.2.2.2.1, x.1.2.2.2.2), (x.2.1.1, x.2.1.2.1, x.2.1.2.2.1, x.2.1.2.2.2.1, x.2.1.2.2.2.2), (x.2.2.1.1, x.2.2.1.2.1, q1.1, q1.2), (x.2.2.2.1, x.2.2.2.2.1, x.2.2.2.2.2.1, x.2.2.2.2.2.2))]) (rv := q2) (va_runS (As := [.int p2, .int 0, .int (q1.2 - 1)]) (rest := []) ⟨hx, hb, hml, hown, ha⟩ (k_X11_in l E p2 0 (q1.2 - 1) q2 hq2 H.size) (cwS 3 ha (gi_S (fun _ h => h) mw1713 mw1714 mw87 mw1715) rfl rfl rfl hv_X11_in ⟨(Nat.le_of_ble_eq_true rfl), (Nat.le_of_ble_eq_true rfl)⟩) ⟨pre_blind, pre_at hP hD hS hz hzs hst [] (by decide) rfl rfl⟩ rfl rfl hl.1 rfl (lv_room (Nat.le_of_ble_eq_true rfl)) dX11_chordNote_13 ⟨(Nat.le_of_ble_eq_true rfl), (Nat.le_of_ble_eq_true rfl)⟩) hP hD hS hA [] (by decide) rfl rfl rfl rfl (fun H locs hP hD hS => ?_)
  refine lv_if_eq (tgt := 32) hx hb dX11_chordNote_16 (by decide) (fun c16 => ?_) (fun c16 => ?_)
  · have hF := q_brp c16 hF
    refine lv_aload_n hx hb dX11_chordNote_32 rfl (lv_at hl 0 rfl) ?_
    refine lv_iconst (v := 1) hx hb dX11_chordNote_33 (by decide) ?_
    obtain ⟨q3, hq3, hF⟩ := q_bdi hF
    refine cl_i (Lc := [w_Model E a o ((x.1.1, x.1.2.1, x.1.2.2.1, x.1.2.2.2.1, x.1.2.2.2.2), (x.2.1.1, x.2.1.2.1, x.2.1.2.2.1, x.2.1.2.2.2.1, x.2.1.2.2.2.2), (x.2.2.1.1, x.2.2.1.2.1, q1.1, q1.2), (x.2.2.2.1, x.2.2.2.2.1, x.2.2.2.2.2.1, x.2.2.2.2.2.2))]) (Lc' := [w_Model E a o ((x.1.1, x.1.2.1, x.1.2.2.1, x.1.2.2.2.1, x.1.2.2.2.2), (x.2.1.1, x.2.1.2.1, x.2.1.2.2.1, x.2.1.2.2.2.1, x.2.1.2.2.2.2), (x.2.2.1.1, x.2.2.1.2.1, q1.1, q1.2), (q3.2, x.2.2.2.2.1, x.2.2.2.2.2.1, x.2.2.2.2.2.2))]) (L' := [w_Model E a o ((x.1.1, x.1.2.1, x.1.2.2.1, x.1.2.2.2.1, x.1.2.2.2.2), (x.2.1.1, x.2.1.2.1, x.2.1.2.2.1, x.2.1.2.2.2.1, x.2.1.2.2.2.2), (x.2.2.1.1, x.2.2.1.2.1, q1.1, q1.2), (q3.2, x.2.2.2.2.1, x.2.2.2.2.2.1, x.2.2.2.2.2.2))]) (rv := q3.1) (va_runV (As := [.int 1]) (rest := []) ⟨hx, hb, hml, hown, ha⟩ (k_X11_fails l E a o ((x.1.1, x.1.2.1, x.1.2.2.1, x.1.2.2.2.1, x.1.2.2.2.2), (x.2.1.1, x.2.1.2.1, x.2.1.2.2.1, x.2.1.2.2.2.1, x.2.1.2.2.2.2), (x.2.2.1.1, x.2.2.1.2.1, q1.1, q1.2), (x.2.2.2.1, x.2.2.2.2.1, x.2.2.2.2.2.1, x.2.2.2.2.2.2)) 1 q3 hq3 H.size) (cwV 1 ha (gi_V (fun _ h => h) mw1716 mw1718 mw29 mw87 mw1719) rfl rfl rfl hv_X11_fails ⟨(Nat.le_of_ble_eq_true rfl), (Nat.le_of_ble_eq_true rfl)⟩) ⟨pre_blind, va_recv hst.k (fr_P hP [0] rfl) (ci := 13) (q0 := 0) rfl rfl, pre_at hP hD hS hz hzs hst [0] (by decide) rfl rfl⟩ rfl rfl hl.1 rfl (lv_room (Nat.le_of_ble_eq_true rfl)) dX11_chordNote_34 ⟨(Nat.le_of_ble_eq_true rfl), (Nat.le_of_ble_eq_true rfl)⟩) hP hD hS hA [0] (by decide) rfl rfl rfl rfl (fun H locs hP hD hS => ?_)
    obtain rfl := Option.some.inj hF
    exact en_i hQ (Nat.le_of_ble_eq_true rfl) (Nat.le_of_ble_eq_true rfl) hx hb hr hlocks hP hD hS rfl dX11_chordNote_37
  · have hF := q_brn c16 hF
    refine lv_aload_n hx hb dX11_chordNote_19 rfl (lv_at hl 0 rfl) ?_
    refine lv_aload_n hx hb dX11_chordNote_20 rfl (lv_at hl 0 rfl) ?_
    refine va_get (D := E.1) (ci := 13) (v := .ref (a (o + 7))) (C := RX11) (T := TX11) (N := 18) hx hb ha in_X11 hown hst.k hP 0 rfl rfl 12 (by decide) (ha _ mw1648) (fun _ h9 => h9) rfl dX11_chordNote_21 ?_
    refine lv_iload_n hx hb dX11_chordNote_24 rfl (lv_at hl 2 rfl) ?_
    obtain ⟨g4, hF⟩ := q_gdi hF
    refine vi_iald hx hb hst.k hP 7 0 rfl rfl (f := q1.1) (k := p2.toNatClampNeg) rfl g4 dX11_chordNote_25 ?_
    obtain ⟨q5, hq5, hF⟩ := q_bdi hF
    refine cl_i (Lc := [w_Model E a o ((x.1.1, x.1.2.1, x.1.2.2.1, x.1.2.2.2.1, x.1.2.2.2.2), (x.2.1.1, x.2.1.2.1, x.2.1.2.2.1, x.2.1.2.2.2.1, x.2.1.2.2.2.2), (x.2.2.1.1, x.2.2.1.2.1, q1.1, q1.2), (x.2.2.2.1, x.2.2.2.2.1, x.2.2.2.2.2.1, x.2.2.2.2.2.2))]) (Lc' := [w_Model E a o ((x.1.1, x.1.2.1, x.1.2.2.1, x.1.2.2.2.1, x.1.2.2.2.2), (x.2.1.1, x.2.1.2.1, x.2.1.2.2.1, x.2.1.2.2.2.1, x.2.1.2.2.2.2), (x.2.2.1.1, x.2.2.1.2.1, q1.1, q1.2), (q5.2, x.2.2.2.2.1, x.2.2.2.2.2.1, x.2.2.2.2.2.2))]) (L' := [w_Model E a o ((x.1.1, x.1.2.1, x.1.2.2.1, x.1.2.2.2.1, x.1.2.2.2.2), (x.2.1.1, x.2.1.2.1, x.2.1.2.2.1, x.2.1.2.2.2.1, x.2.1.2.2.2.2), (x.2.2.1.1, x.2.2.1.2.1, q1.1, q1.2), (q5.2, x.2.2.2.2.1, x.2.2.2.2.2.1, x.2.2.2.2.2.2))]) (rv := q5.1) (va_runV (As := [.int (q1.1 (p2.toNatClampNeg))]) (rest := []) ⟨hx, hb, hml, hown, ha⟩ (k_X11_done l E a o ((x.1.1, x.1.2.1, x.1.2.2.1, x.1.2.2.2.1, x.1.2.2.2.2), (x.2.1.1, x.2.1.2.1, x.2.1.2.2.1, x.2.1.2.2.2.1, x.2.1.2.2.2.2), (x.2.2.1.1, x.2.2.1.2.1, q1.1, q1.2), (x.2.2.2.1, x.2.2.2.2.1, x.2.2.2.2.2.1, x.2.2.2.2.2.2)) (q1.1 (p2.toNatClampNeg)) q5 hq5 H.size) (cwV 1 ha (gi_V (fun _ h => h) mw1720 mw1722 mw30 mw87 mw1723) rfl rfl rfl hv_X11_done ⟨(Nat.le_of_ble_eq_true rfl), (Nat.le_of_ble_eq_true rfl)⟩) ⟨pre_blind, va_recv hst.k (fr_P hP [0] rfl) (ci := 13) (q0 := 0) rfl rfl, pre_at hP hD hS hz hzs hst [0] (by decide) rfl rfl⟩ rfl rfl hl.1 rfl (lv_room (Nat.le_of_ble_eq_true rfl)) dX11_chordNote_26 ⟨(Nat.le_of_ble_eq_true rfl), (Nat.le_of_ble_eq_true rfl)⟩) hP hD hS hA [0] (by decide) rfl rfl rfl rfl (fun H locs hP hD hS => ?_)
    refine lv_goto (tgt := 37) hx hb dX11_chordNote_29 (by decide) ?_
    obtain rfl := Option.some.inj hF
    exact en_i hQ (Nat.le_of_ble_eq_true rfl) (Nat.le_of_ble_eq_true rfl) hx hb hr hlocks hP hD hS rfl dX11_chordNote_37

/-! X11_isDissonant -/
theorem dX11_isDissonant_0 : decode cX11_isDissonant 0 = .ok (.iload_n 0, 1) := by decide +kernel
theorem dX11_isDissonant_1 : decode cX11_isDissonant 1 = .ok (.iconst 1, 1) := by decide +kernel
theorem dX11_isDissonant_2 : decode cX11_isDissonant 2 = .ok (.if_icmp .eq 26, 3) := by decide +kernel
theorem dX11_isDissonant_5 : decode cX11_isDissonant 5 = .ok (.iload_n 0, 1) := by decide +kernel
theorem dX11_isDissonant_6 : decode cX11_isDissonant 6 = .ok (.iconst 2, 1) := by decide +kernel
theorem dX11_isDissonant_7 : decode cX11_isDissonant 7 = .ok (.if_icmp .eq 21, 3) := by decide +kernel
theorem dX11_isDissonant_10 : decode cX11_isDissonant 10 = .ok (.iload_n 0, 1) := by decide +kernel
theorem dX11_isDissonant_11 : decode cX11_isDissonant 11 = .ok (.bipush 6, 2) := by decide +kernel
theorem dX11_isDissonant_13 : decode cX11_isDissonant 13 = .ok (.if_icmp .eq 15, 3) := by decide +kernel
theorem dX11_isDissonant_16 : decode cX11_isDissonant 16 = .ok (.iload_n 0, 1) := by decide +kernel
theorem dX11_isDissonant_17 : decode cX11_isDissonant 17 = .ok (.bipush 10, 2) := by decide +kernel
theorem dX11_isDissonant_19 : decode cX11_isDissonant 19 = .ok (.if_icmp .eq 9, 3) := by decide +kernel
theorem dX11_isDissonant_22 : decode cX11_isDissonant 22 = .ok (.iload_n 0, 1) := by decide +kernel
theorem dX11_isDissonant_23 : decode cX11_isDissonant 23 = .ok (.bipush 11, 2) := by decide +kernel
theorem dX11_isDissonant_25 : decode cX11_isDissonant 25 = .ok (.if_icmp .ne 7, 3) := by decide +kernel
theorem dX11_isDissonant_28 : decode cX11_isDissonant 28 = .ok (.iconst 1, 1) := by decide +kernel
theorem dX11_isDissonant_29 : decode cX11_isDissonant 29 = .ok (.goto 4, 3) := by decide +kernel
theorem dX11_isDissonant_32 : decode cX11_isDissonant 32 = .ok (.iconst 0, 1) := by decide +kernel
theorem dX11_isDissonant_33 : decode cX11_isDissonant 33 = .ok (.ireturn, 1) := by decide +kernel
def f_X11_isDissonant (p1 : Int32) : Option (Int32) :=
  q_br (p1 = 1) (
  some 1) (
  q_br (p1 = 2) (
  some 1) (
  q_br (p1 = 6) (
  some 1) (
  q_br (p1 = 10) (
  some 1) (
  q_br (p1 = 11) (
  some 1) (
  some 0)))))
theorem hv_X11_isDissonant : yX11_isDissonant.cls = RX11 ∧ yX11_isDissonant.cls ≠ "java/lang/invoke/MethodHandle" ∧ yX11_isDissonant.cls ≠ "java/lang/invoke/VarHandle" ∧ (parseMethodDescriptor yX11_isDissonant.desc).map (fun d => d.parameters.length) = some 1 := by decide +kernel
abbrev rm_X11_isDissonant : Room := { frames := 0, cells := 0, slots := 0, locals := 0 }
set_option maxHeartbeats 4000000 in
set_option maxRecDepth 100000 in
theorem k_X11_isDissonant (l : Launch) (E : ET) (p1 : Int32) (res : Int32) (hF : f_X11_isDissonant p1 = some res) (sz : Nat) : CtI l yX11_isDissonant (mws yX11_isDissonant cX11_isDissonant 1 (some .boolean)) rm_X11_isDissonant 0 0 [.int p1] E ([]) res ([]) sz := by
  refine mk_M (by decide +kernel) (Nat.le_of_ble_eq_true rfl) ?_
  intro p e s m below meth c A args Q ls hAe hsz hQ hx hb hr hml hin ha hown hlocks hA hz hzs hst hP hD hS hl
  have hown : s.vm.findClass RX11 = some m.cls := hown
  rw [hAe] at hQ
  subst hsz
  have hP : va_P E.1 vwCl (List.flatten []) s.heap := hP
  have hD : va_D A (List.flatten []) := hD
  have hl : lv_has ls 1 [(0, .int p1)] := hl
  generalize hHe : s.heap = H at hP
  have hS : va_S A s.heap H [] := by rw [← hHe]; exact hS
  generalize ([] : List Loc) = locs at hS ⊢
  unfold f_X11_isDissonant at hF
  refine lv_iload_n hx hb dX11_isDissonant_0 rfl (lv_at hl 0 rfl) ?_
  refine lv_iconst (v := 1) hx hb dX11_isDissonant_1 (by decide) ?_
  refine lv_icmp_eq (tgt := 28) hx hb dX11_isDissonant_2 (by decide) (fun c2 => ?_) (fun c2 => ?_)
  · have hF := q_brp c2 hF
    refine lv_iconst (v := 1) hx hb dX11_isDissonant_28 (by decide) ?_
    refine lv_goto (tgt := 33) hx hb dX11_isDissonant_29 (by decide) ?_
    obtain rfl := Option.some.inj hF
    exact en_z hQ (Nat.le_of_ble_eq_true rfl) (Nat.le_of_ble_eq_true rfl) hx hb hr hlocks (by decide) hP hD hS rfl dX11_isDissonant_33
  · have hF := q_brn c2 hF
    refine lv_iload_n hx hb dX11_isDissonant_5 rfl (lv_at hl 0 rfl) ?_
    refine lv_iconst (v := 2) hx hb dX11_isDissonant_6 (by decide) ?_
    refine lv_icmp_eq (tgt := 28) hx hb dX11_isDissonant_7 (by decide) (fun c7 => ?_) (fun c7 => ?_)
    · have hF := q_brp c7 hF
      refine lv_iconst (v := 1) hx hb dX11_isDissonant_28 (by decide) ?_
      refine lv_goto (tgt := 33) hx hb dX11_isDissonant_29 (by decide) ?_
      obtain rfl := Option.some.inj hF
      exact en_z hQ (Nat.le_of_ble_eq_true rfl) (Nat.le_of_ble_eq_true rfl) hx hb hr hlocks (by decide) hP hD hS rfl dX11_isDissonant_33
    · have hF := q_brn c7 hF
      refine lv_iload_n hx hb dX11_isDissonant_10 rfl (lv_at hl 0 rfl) ?_
      refine lv_bipush (v := 6) hx hb dX11_isDissonant_11 (by decide) ?_
      refine lv_icmp_eq (tgt := 28) hx hb dX11_isDissonant_13 (by decide) (fun c13 => ?_) (fun c13 => ?_)
      · have hF := q_brp c13 hF
        refine lv_iconst (v := 1) hx hb dX11_isDissonant_28 (by decide) ?_
        refine lv_goto (tgt := 33) hx hb dX11_isDissonant_29 (by decide) ?_
        obtain rfl := Option.some.inj hF
        exact en_z hQ (Nat.le_of_ble_eq_true rfl) (Nat.le_of_ble_eq_true rfl) hx hb hr hlocks (by decide) hP hD hS rfl dX11_isDissonant_33
      · have hF := q_brn c13 hF
        refine lv_iload_n hx hb dX11_isDissonant_16 rfl (lv_at hl 0 rfl) ?_
        refine lv_bipush (v := 10) hx hb dX11_isDissonant_17 (by decide) ?_
        refine lv_icmp_eq (tgt := 28) hx hb dX11_isDissonant_19 (by decide) (fun c19 => ?_) (fun c19 => ?_)
        · have hF := q_brp c19 hF
          refine lv_iconst (v := 1) hx hb dX11_isDissonant_28 (by decide) ?_
          refine lv_goto (tgt := 33) hx hb dX11_isDissonant_29 (by decide) ?_
          obtain rfl := Option.some.inj hF
          exact en_z hQ (Nat.le_of_ble_eq_true rfl) (Nat.le_of_ble_eq_true rfl) hx hb hr hlocks (by decide) hP hD hS rfl dX11_isDissonant_33
        · have hF := q_brn c19 hF
          refine lv_iload_n hx hb dX11_isDissonant_22 rfl (lv_at hl 0 rfl) ?_
          refine lv_bipush (v := 11) hx hb dX11_isDissonant_23 (by decide) ?_
          refine lv_icmp_ne (tgt := 32) hx hb dX11_isDissonant_25 (by decide) (fun c25 => ?_) (fun c25 => ?_)
          · have hF := q_brn c25 hF
            refine lv_iconst (v := 0) hx hb dX11_isDissonant_32 (by decide) ?_
            obtain rfl := Option.some.inj hF
            exact en_z hQ (Nat.le_of_ble_eq_true rfl) (Nat.le_of_ble_eq_true rfl) hx hb hr hlocks (by decide) hP hD hS rfl dX11_isDissonant_33
          · have hF := q_brp c25 hF
            refine lv_iconst (v := 1) hx hb dX11_isDissonant_28 (by decide) ?_
            refine lv_goto (tgt := 33) hx hb dX11_isDissonant_29 (by decide) ?_
            obtain rfl := Option.some.inj hF
            exact en_z hQ (Nat.le_of_ble_eq_true rfl) (Nat.le_of_ble_eq_true rfl) hx hb hr hlocks (by decide) hP hD hS rfl dX11_isDissonant_33

/-! X11_pairs -/
theorem dX11_pairs_0 : decode cX11_pairs 0 = .ok (.aload_n 0, 1) := by decide +kernel
theorem dX11_pairs_1 : decode cX11_pairs 1 = .ok (.iload_n 1, 1) := by decide +kernel
theorem dX11_pairs_2 : decode cX11_pairs 2 = .ok (.invokevirtual 168, 3) := by decide +kernel
theorem dX11_pairs_5 : decode cX11_pairs 5 = .ok (.iconst 0, 1) := by decide +kernel
theorem dX11_pairs_6 : decode cX11_pairs 6 = .ok (.istore_n 3, 1) := by decide +kernel
theorem dX11_pairs_7 : decode cX11_pairs 7 = .ok (.iconst 0, 1) := by decide +kernel
theorem dX11_pairs_8 : decode cX11_pairs 8 = .ok (.istore 4, 2) := by decide +kernel
theorem dX11_pairs_10 : decode cX11_pairs 10 = .ok (.iload 4, 2) := by decide +kernel
theorem dX11_pairs_12 : decode cX11_pairs 12 = .ok (.aload_n 0, 1) := by decide +kernel
theorem dX11_pairs_13 : decode cX11_pairs 13 = .ok (.getfield 157, 3) := by decide +kernel
theorem dX11_pairs_16 : decode cX11_pairs 16 = .ok (.if_icmp .ge 93, 3) := by decide +kernel
theorem dX11_pairs_19 : decode cX11_pairs 19 = .ok (.iconst 0, 1) := by decide +kernel
theorem dX11_pairs_20 : decode cX11_pairs 20 = .ok (.istore 5, 2) := by decide +kernel
theorem dX11_pairs_22 : decode cX11_pairs 22 = .ok (.iload 5, 2) := by decide +kernel
theorem dX11_pairs_24 : decode cX11_pairs 24 = .ok (.iload 4, 2) := by decide +kernel
theorem dX11_pairs_26 : decode cX11_pairs 26 = .ok (.if_icmp .ge 77, 3) := by decide +kernel
theorem dX11_pairs_29 : decode cX11_pairs 29 = .ok (.aload_n 0, 1) := by decide +kernel
theorem dX11_pairs_30 : decode cX11_pairs 30 = .ok (.getfield 36, 3) := by decide +kernel
theorem dX11_pairs_33 : decode cX11_pairs 33 = .ok (.iload 4, 2) := by decide +kernel
theorem dX11_pairs_35 : decode cX11_pairs 35 = .ok (.iaload, 1) := by decide +kernel
theorem dX11_pairs_36 : decode cX11_pairs 36 = .ok (.aload_n 0, 1) := by decide +kernel
theorem dX11_pairs_37 : decode cX11_pairs 37 = .ok (.getfield 36, 3) := by decide +kernel
theorem dX11_pairs_40 : decode cX11_pairs 40 = .ok (.iload 5, 2) := by decide +kernel
theorem dX11_pairs_42 : decode cX11_pairs 42 = .ok (.iaload, 1) := by decide +kernel
theorem dX11_pairs_43 : decode cX11_pairs 43 = .ok (.isub, 1) := by decide +kernel
theorem dX11_pairs_44 : decode cX11_pairs 44 = .ok (.bipush 12, 2) := by decide +kernel
theorem dX11_pairs_46 : decode cX11_pairs 46 = .ok (.irem, 1) := by decide +kernel
theorem dX11_pairs_47 : decode cX11_pairs 47 = .ok (.istore 6, 2) := by decide +kernel
theorem dX11_pairs_49 : decode cX11_pairs 49 = .ok (.iload 6, 2) := by decide +kernel
theorem dX11_pairs_51 : decode cX11_pairs 51 = .ok (.iconst 3, 1) := by decide +kernel
theorem dX11_pairs_52 : decode cX11_pairs 52 = .ok (.if_icmp .eq 9, 3) := by decide +kernel
theorem dX11_pairs_55 : decode cX11_pairs 55 = .ok (.iload 6, 2) := by decide +kernel
theorem dX11_pairs_57 : decode cX11_pairs 57 = .ok (.iconst 4, 1) := by decide +kernel
theorem dX11_pairs_58 : decode cX11_pairs 58 = .ok (.if_icmp .ne 7, 3) := by decide +kernel
theorem dX11_pairs_61 : decode cX11_pairs 61 = .ok (.iconst 1, 1) := by decide +kernel
theorem dX11_pairs_62 : decode cX11_pairs 62 = .ok (.goto 4, 3) := by decide +kernel
theorem dX11_pairs_65 : decode cX11_pairs 65 = .ok (.iconst 0, 1) := by decide +kernel
theorem dX11_pairs_66 : decode cX11_pairs 66 = .ok (.istore 7, 2) := by decide +kernel
theorem dX11_pairs_68 : decode cX11_pairs 68 = .ok (.iload_n 3, 1) := by decide +kernel
theorem dX11_pairs_69 : decode cX11_pairs 69 = .ok (.iload_n 2, 1) := by decide +kernel
theorem dX11_pairs_70 : decode cX11_pairs 70 = .ok (.ifCond .eq 8, 3) := by decide +kernel
theorem dX11_pairs_73 : decode cX11_pairs 73 = .ok (.iload 7, 2) := by decide +kernel
theorem dX11_pairs_75 : decode cX11_pairs 75 = .ok (.ifCond .ne 15, 3) := by decide +kernel
theorem dX11_pairs_78 : decode cX11_pairs 78 = .ok (.iload_n 2, 1) := by decide +kernel
theorem dX11_pairs_79 : decode cX11_pairs 79 = .ok (.ifCond .ne 15, 3) := by decide +kernel
theorem dX11_pairs_82 : decode cX11_pairs 82 = .ok (.iload 6, 2) := by decide +kernel
theorem dX11_pairs_84 : decode cX11_pairs 84 = .ok (.invokestatic 171, 3) := by decide +kernel
theorem dX11_pairs_87 : decode cX11_pairs 87 = .ok (.ifCond .eq 7, 3) := by decide +kernel
theorem dX11_pairs_90 : decode cX11_pairs 90 = .ok (.iconst 1, 1) := by decide +kernel
theorem dX11_pairs_91 : decode cX11_pairs 91 = .ok (.goto 4, 3) := by decide +kernel
theorem dX11_pairs_94 : decode cX11_pairs 94 = .ok (.iconst 0, 1) := by decide +kernel
theorem dX11_pairs_95 : decode cX11_pairs 95 = .ok (.iadd, 1) := by decide +kernel
theorem dX11_pairs_96 : decode cX11_pairs 96 = .ok (.istore_n 3, 1) := by decide +kernel
theorem dX11_pairs_97 : decode cX11_pairs 97 = .ok (.iinc 5 1, 3) := by decide +kernel
theorem dX11_pairs_100 : decode cX11_pairs 100 = .ok (.goto (-78), 3) := by decide +kernel
theorem dX11_pairs_103 : decode cX11_pairs 103 = .ok (.iinc 4 1, 3) := by decide +kernel
theorem dX11_pairs_106 : decode cX11_pairs 106 = .ok (.goto (-96), 3) := by decide +kernel
theorem dX11_pairs_109 : decode cX11_pairs 109 = .ok (.iload_n 3, 1) := by decide +kernel
theorem dX11_pairs_110 : decode cX11_pairs 110 = .ok (.ireturn, 1) := by decide +kernel
def f_X11_pairs_L22 (p2 : Int32) (q1 : (Nat → Int32) × Int32) (i2 : Int32) (K22 : Int32 → Option (Int32 × (Nat → Int32) × Int32)) : Nat → Int32 → Int32 → Option (Int32 × (Nat → Int32) × Int32)
  | 0, _, _ => none
  | n22 + 1, i4, i5 =>
    q_br (i2 ≤ i4) (
  K22 i5) (
  q_gd (q_in i2 24) (
  q_gd (q_in i4 24) (
  q_lt (((q1.1 (i2.toNatClampNeg)) - (q1.1 (i4.toNatClampNeg))) - ((q1.1 (i2.toNatClampNeg)) - (q1.1 (i4.toNatClampNeg))) / 12 * 12 : Int32) (fun v9 =>
  q_lt (fun (j10 : Int32) =>
  q_lt (fun (j11 : Int32) =>
  q_lt (i5 + j11 : Int32) (fun v12 =>
  q_lt (i4 + 1 : Int32) (fun v13 =>
  f_X11_pairs_L22 p2 q1 i2 K22 n22 v13 v12))) (fun (J95 : Int32 → Option (Int32 × (Nat → Int32) × Int32)) =>
  q_lt (fun (_ : Unit) =>
  q_br (p2 = 0) (
  q_bd (f_X11_isDissonant v9) (fun q14 =>
  q_br (q14 = 0) (
  J95 0) (
  J95 1))) (
  J95 0)) (fun (J78 : Unit → Option (Int32 × (Nat → Int32) × Int32)) =>
  q_br (p2 = 0) (
  J78 (())) (
  q_br (j10 = 0) (
  J78 (())) (
  J95 1))))) (fun (J66 : Int32 → Option (Int32 × (Nat → Int32) × Int32)) =>
  q_br (v9 = 3) (
  J66 1) (
  q_br (v9 = 4) (
  J66 1) (
  J66 0)))))))
def f_X11_pairs_L10 (p2 : Int32) (q1 : (Nat → Int32) × Int32) : Nat → Int32 → Int32 → Option (Int32 × (Nat → Int32) × Int32)
  | 0, _, _ => none
  | n10 + 1, i2, i3 =>
    q_br (q1.2 ≤ i2) (
  some (i3, q1.1, q1.2)) (
  f_X11_pairs_L22 p2 q1 i2 (fun y6 =>
  q_lt (i2 + 1 : Int32) (fun v15 =>
  f_X11_pairs_L10 p2 q1 n10 v15 y6)) 2000 0 i3)
def f_X11_pairs (x_g : (Nat → Int32)) (x_notes : (Nat → Int32)) (x_noteCount : Int32) (p1 : Int32) (p2 : Int32) : Option (Int32 × (Nat → Int32) × Int32) :=
  q_bd (f_X11_listens x_g x_notes x_noteCount p1) (fun q1 =>
  f_X11_pairs_L10 p2 q1 2000 0 0)
theorem hv_X11_pairs : yX11_pairs.cls = RX11 ∧ yX11_pairs.cls ≠ "java/lang/invoke/MethodHandle" ∧ yX11_pairs.cls ≠ "java/lang/invoke/VarHandle" ∧ (parseMethodDescriptor yX11_pairs.desc).map (fun d => d.parameters.length) = some 2 := by decide +kernel
abbrev rm_X11_pairs : Room := { frames := 3, cells := 0, slots := 0, locals := 68 }
set_option maxHeartbeats 4000000 in
set_option maxRecDepth 100000 in
theorem k_X11_pairs (l : Launch) (E : ET) (a : Nat → Nat) (o : Nat) (x : Model_t) (p1 : Int32) (p2 : Int32) (res : Int32 × (Nat → Int32) × Int32) (hF : f_X11_pairs x.1.1 x.2.2.1.2.2.1 x.2.2.1.2.2.2 p1 p2 = some res) (sz : Nat) : CtI l yX11_pairs (mws yX11_pairs cX11_pairs 8 (some .int)) rm_X11_pairs 0 0 [.ref (a o), .int p1, .int p2] E (bl_Model E a o x) res.1 (bl_Model E a o ((x.1.1, x.1.2.1, x.1.2.2.1, x.1.2.2.2.1, x.1.2.2.2.2), (x.2.1.1, x.2.1.2.1, x.2.1.2.2.1, x.2.1.2.2.2.1, x.2.1.2.2.2.2), (x.2.2.1.1, x.2.2.1.2.1, res.2.1, res.2.2), (x.2.2.2.1, x.2.2.2.2.1, x.2.2.2.2.2.1, x.2.2.2.2.2.2))) sz := by
  refine mk_M (by decide +kernel) (Nat.le_of_ble_eq_true rfl) ?_
  intro p e s m below meth c A args Q ls hAe hsz hQ hx hb hr hml hin ha hown hlocks hA hz hzs hst hP hD hS hl
  have hown : s.vm.findClass RX11 = some m.cls := hown
  rw [hAe] at hQ
  subst hsz
  have hP : va_P E.1 vwCl (List.flatten [w_Model E a o x]) s.heap := hP
  have hD : va_D A (List.flatten [w_Model E a o x]) := hD
  have hl : lv_has ls 8 [(0, .ref (a o)), (1, .int p1), (2, .int p2)] := hl
  generalize hHe : s.heap = H at hP
  have hS : va_S A s.heap H [] := by rw [← hHe]; exact hS
  generalize ([] : List Loc) = locs at hS ⊢
  unfold f_X11_pairs at hF
  refine lv_aload_n hx hb dX11_pairs_0 rfl (lv_at hl 0 rfl) ?_
  refine lv_iload_n hx hb dX11_pairs_1 rfl (lv_at hl 1 rfl) ?_
  obtain ⟨q1, hq1, hF⟩ := q_bdi hF
  refine cl_v (Lc := [w_Model E a o x]) (Lc' := [w_Model E a o ((x.1.1, x.1.2.1, x.1.2.2.1, x.1.2.2.2.1, x.1.2.2.2.2), (x.2.1.1, x.2.1.2.1, x.2.1.2.2.1, x.2.1.2.2.2.1, x.2.1.2.2.2.2), (x.2.2.1.1, x.2.2.1.2.1, q1.1, q1.2), (x.2.2.2.1, x.2.2.2.2.1, x.2.2.2.2.2.1, x.2.2.2.2.2.2))]) (L' := [w_Model E a o ((x.1.1, x.1.2.1, x.1.2.2.1, x.1.2.2.2.1, x.1.2.2.2.2), (x.2.1.1, x.2.1.2.1, x.2.1.2.2.1, x.2.1.2.2.2.1, x.2.1.2.2.2.2), (x.2.2.1.1, x.2.2.1.2.1, q1.1, q1.2), (x.2.2.2.1, x.2.2.2.2.1, x.2.2.2.2.2.1, x.2.2.2.2.2.2))]) (va_runV (As := [.int p1]) (rest := []) ⟨hx, hb, hml, hown, ha⟩ (k_X11_listens l E a o x p1 q1 hq1 H.size) (cwV 1 ha (gi_V (fun _ h => h) mw1970 mw1972 mw54 mw87 mw1973) rfl rfl rfl hv_X11_listens ⟨(Nat.le_of_ble_eq_true rfl), (Nat.le_of_ble_eq_true rfl)⟩) ⟨pre_blind, va_recv hst.k (fr_P hP [0] rfl) (ci := 13) (q0 := 0) rfl rfl, pre_at hP hD hS hz hzs hst [0] (by decide) rfl rfl⟩ rfl rfl hl.1 rfl (lv_room (Nat.le_of_ble_eq_true rfl)) dX11_pairs_2 ⟨(Nat.le_of_ble_eq_true rfl), (Nat.le_of_ble_eq_true rfl)⟩) hP hD hS hA [0] (by decide) rfl rfl rfl rfl (fun H locs hP hD hS => ?_)
  refine lv_iconst (v := 0) hx hb dX11_pairs_5 (by decide) ?_
  refine lv_istore_n (lv' := [(3, .int 0), (0, .ref (a o)), (1, .int p1), (2, .int p2)]) hx hb dX11_pairs_6 rfl hl (by decide) rfl (fun ls hl => ?_)
  refine lv_iconst (v := 0) hx hb dX11_pairs_7 (by decide) ?_
  refine lv_istore (lv' := [(4, .int 0), (3, .int 0), (0, .ref (a o)), (1, .int p1), (2, .int p2)]) hx hb dX11_pairs_8 hl (by decide) rfl (fun ls hl => ?_)
  have key10 : ∀ (n : Nat) (i2 : Int32) (i3 : Int32) (H : Heap) (locs : List Loc) (ls : Array Slot), f_X11_pairs_L10 p2 q1 n i2 i3 = some res → va_P E.1 vwCl (List.flatten [w_Model E a o ((x.1.1, x.1.2.1, x.1.2.2.1, x.1.2.2.2.1, x.1.2.2.2.2), (x.2.1.1, x.2.1.2.1, x.2.1.2.2.1, x.2.1.2.2.2.1, x.2.1.2.2.2.2), (x.2.2.1.1, x.2.2.1.2.1, q1.1, q1.2), (x.2.2.2.1, x.2.2.2.2.1, x.2.2.2.2.2.1, x.2.2.2.2.2.2))]) H → va_D A (List.flatten [w_Model E a o ((x.1.1, x.1.2.1, x.1.2.2.1, x.1.2.2.2.1, x.1.2.2.2.2), (x.2.1.1, x.2.1.2.1, x.2.1.2.2.1, x.2.1.2.2.2.1, x.2.1.2.2.2.2), (x.2.2.1.1, x.2.2.1.2.1, q1.1, q1.2), (x.2.2.2.1, x.2.2.2.2.1, x.2.2.2.2.2.1, x.2.2.2.2.2.2))]) → va_S A s.heap H locs → lv_has ls 8 [(4, .int i2), (3, .int i3), (0, .ref (a o)), (2, .int p2)] → W p l e rm_X11_pairs s m args below meth c H locs 0 0 Q (F0 m 10 ls []) := by
    intro n10
    induction n10 with
    | zero => intro i2 i3 H locs ls hF; exact absurd hF (by simp [f_X11_pairs_L10])
    | succ n10 ih10 =>
      intro i2 i3 H locs ls hF hP hD hS hl
      rw [f_X11_pairs_L10] at hF
      refine lv_iload hx hb dX11_pairs_10 (lv_at hl 0 rfl) ?_
      refine lv_aload_n hx hb dX11_pairs_12 rfl (lv_at hl 2 rfl) ?_
      refine va_get (D := E.1) (ci := 13) (v := .int q1.2) (C := RX11) (T := TX11) (N := 18) hx hb ha in_X11 hown hst.k hP 0 rfl rfl 13 (by decide) (ha _ mw1649) (fun _ h9 => h9) rfl dX11_pairs_13 ?_
      refine lv_icmp_ge (tgt := 109) hx hb dX11_pairs_16 (by decide) (fun c16 => ?_) (fun c16 => ?_)
      · have hF := q_brp c16 hF
        refine lv_iload_n hx hb dX11_pairs_109 rfl (lv_at hl 1 rfl) ?_
        obtain rfl := Option.some.inj hF
        exact en_i hQ (Nat.le_of_ble_eq_true rfl) (Nat.le_of_ble_eq_true rfl) hx hb hr hlocks hP hD hS rfl dX11_pairs_110
      · have hF := q_brn c16 hF
        refine lv_iconst (v := 0) hx hb dX11_pairs_19 (by decide) ?_
        refine lv_istore (lv' := [(5, .int 0), (4, .int i2), (3, .int i3), (0, .ref (a o)), (2, .int p2)]) hx hb dX11_pairs_20 hl (by decide) rfl (fun ls hl => ?_)
        have key22 : ∀ (K : Int32 → Option (Int32 × (Nat → Int32) × Int32)), (∀ (y6 : Int32) (H : Heap) (locs : List Loc) (ls : Array Slot), K y6 = some res → va_P E.1 vwCl (List.flatten [w_Model E a o ((x.1.1, x.1.2.1, x.1.2.2.1, x.1.2.2.2.1, x.1.2.2.2.2), (x.2.1.1, x.2.1.2.1, x.2.1.2.2.1, x.2.1.2.2.2.1, x.2.1.2.2.2.2), (x.2.2.1.1, x.2.2.1.2.1, q1.1, q1.2), (x.2.2.2.1, x.2.2.2.2.1, x.2.2.2.2.2.1, x.2.2.2.2.2.2))]) H → va_D A (List.flatten [w_Model E a o ((x.1.1, x.1.2.1, x.1.2.2.1, x.1.2.2.2.1, x.1.2.2.2.2), (x.2.1.1, x.2.1.2.1, x.2.1.2.2.1, x.2.1.2.2.2.1, x.2.1.2.2.2.2), (x.2.2.1.1, x.2.2.1.2.1, q1.1, q1.2), (x.2.2.2.1, x.2.2.2.2.1, x.2.2.2.2.2.1, x.2.2.2.2.2.2))]) → va_S A s.heap H locs → lv_has ls 8 [(4, .int i2), (3, .int y6), (0, .ref (a o)), (2, .int p2)] → W p l e rm_X11_pairs s m args below meth c H locs 0 0 Q (F0 m 103 ls [])) → ∀ (n : Nat) (i4 : Int32) (i5 : Int32) (H : Heap) (locs : List Loc) (ls : Array Slot), f_X11_pairs_L22 p2 q1 i2 K n i4 i5 = some res → va_P E.1 vwCl (List.flatten [w_Model E a o ((x.1.1, x.1.2.1, x.1.2.2.1, x.1.2.2.2.1, x.1.2.2.2.2), (x.2.1.1, x.2.1.2.1, x.2.1.2.2.1, x.2.1.2.2.2.1, x.2.1.2.2.2.2), (x.2.2.1.1, x.2.2.1.2.1, q1.1, q1.2), (x.2.2.2.1, x.2.2.2.2.1, x.2.2.2.2.2.1, x.2.2.2.2.2.2))]) H → va_D A (List.flatten [w_Model E a o ((x.1.1, x.1.2.1, x.1.2.2.1, x.1.2.2.2.1, x.1.2.2.2.2), (x.2.1.1, x.2.1.2.1, x.2.1.2.2.1, x.2.1.2.2.2.1, x.2.1.2.2.2.2), (x.2.2.1.1, x.2.2.1.2.1, q1.1, q1.2), (x.2.2.2.1, x.2.2.2.2.1, x.2.2.2.2.2.1, x.2.2.2.2.2.2))]) → va_S A s.heap H locs → lv_has ls 8 [(5, .int i4), (4, .int i2), (3, .int i5), (0, .ref (a o)), (2, .int p2)] → W p l e rm_X11_pairs s m args below meth c H locs 0 0 Q (F0 m 22 ls []) := by
          intro K22 hK22 n22
          induction n22 with
          | zero => intro i4 i5 H locs ls hF; exact absurd hF (by simp [f_X11_pairs_L22])
          | succ n22 ih22 =>
            intro i4 i5 H locs ls hF hP hD hS hl
            rw [f_X11_pairs_L22] at hF
            refine lv_iload hx hb dX11_pairs_22 (lv_at hl 0 rfl) ?_
            refine lv_iload hx hb dX11_pairs_24 (lv_at hl 1 rfl) ?_
            refine lv_icmp_ge (tgt := 103) hx hb dX11_pairs_26 (by decide) (fun c26 => ?_) (fun c26 => ?_)
            · have hF := q_brp c26 hF
              exact hK22 i5 H locs ls hF hP hD hS (lv_sub hl [1, 2, 3, 4] rfl)
            · have hF := q_brn c26 hF
              refine lv_aload_n hx hb dX11_pairs_29 rfl (lv_at hl 3 rfl) ?_
              refine va_get (D := E.1) (ci := 13) (v := .ref (a (o + 7))) (C := RX11) (T := TX11) (N := 18) hx hb ha in_X11 hown hst.k hP 0 rfl rfl 12 (by decide) (ha _ mw1648) (fun _ h9 => h9) rfl dX11_pairs_30 ?_
              refine lv_iload hx hb dX11_pairs_33 (lv_at hl 1 rfl) ?_
              obtain ⟨g7, hF⟩ := q_gdi hF
              refine vi_iald hx hb hst.k hP 7 0 rfl rfl (f := q1.1) (k := i2.toNatClampNeg) rfl g7 dX11_pairs_35 ?_
              refine lv_aload_n hx hb dX11_pairs_36 rfl (lv_at hl 3 rfl) ?_
              refine va_get (D := E.1) (ci := 13) (v := .ref (a (o + 7))) (C := RX11) (T := TX11) (N := 18) hx hb ha in_X11 hown hst.k hP 0 rfl rfl 12 (by decide) (ha _ mw1648) (fun _ h9 => h9) rfl dX11_pairs_37 ?_
              refine lv_iload hx hb dX11_pairs_40 (lv_at hl 0 rfl) ?_
              obtain ⟨g8, hF⟩ := q_gdi hF
              refine vi_iald hx hb hst.k hP 7 0 rfl rfl (f := q1.1) (k := i4.toNatClampNeg) rfl g8 dX11_pairs_42 ?_
              refine lv_isub hx hb dX11_pairs_43 ?_
              refine lv_bipush (v := 12) hx hb dX11_pairs_44 (by decide) ?_
              refine lv_irem hx hb dX11_pairs_46 (by decide) ?_
              refine lv_topi (fun v9 ev9 => ?_)
              have hF := q_lti ev9 hF
              refine lv_istore (lv' := [(6, .int v9), (5, .int i4), (4, .int i2), (3, .int i5), (0, .ref (a o)), (2, .int p2)]) hx hb dX11_pairs_47 hl (by decide) rfl (fun ls hl => ?_)
              refine lv_iload hx hb dX11_pairs_49 (lv_at hl 0 rfl) ?_
              refine lv_iconst (v := 3) hx hb dX11_pairs_51 (by decide) ?_
              obtain ⟨J66, hJ66, hF⟩ := q_jn hF
              have jJ66 : ∀ (j10 : Int32), ∀ (H : Heap) (locs : List Loc) (ls : Array Slot), J66 j10 = some res → va_P E.1 vwCl (List.flatten [w_Model E a o ((x.1.1, x.1.2.1, x.1.2.2.1, x.1.2.2.2.1, x.1.2.2.2.2), (x.2.1.1, x.2.1.2.1, x.2.1.2.2.1, x.2.1.2.2.2.1, x.2.1.2.2.2.2), (x.2.2.1.1, x.2.2.1.2.1, q1.1, q1.2), (x.2.2.2.1, x.2.2.2.2.1, x.2.2.2.2.2.1, x.2.2.2.2.2.2))]) H → va_D A (List.flatten [w_Model E a o ((x.1.1, x.1.2.1, x.1.2.2.1, x.1.2.2.2.1, x.1.2.2.2.2), (x.2.1.1, x.2.1.2.1, x.2.1.2.2.1, x.2.1.2.2.2.1, x.2.1.2.2.2.2), (x.2.2.1.1, x.2.2.1.2.1, q1.1, q1.2), (x.2.2.2.1, x.2.2.2.2.1, x.2.2.2.2.2.1, x.2.2.2.2.2.2))]) → va_S A s.heap H locs → lv_has ls 8 [(6, .int v9), (5, .int i4), (4, .int i2), (3, .int i5), (0, .ref (a o)), (2, .int p2)] → W p l e rm_X11_pairs s m args below meth c H locs 0 0 Q (F0 m 66 ls [.int j10]) := by
                intro j10 H locs ls hF hP hD hS hl
                rw [hJ66] at hF
                refine lv_istore (lv' := [(7, .int j10), (6, .int v9), (5, .int i4), (4, .int i2), (3, .int i5), (0, .ref (a o)), (2, .int p2)]) hx hb dX11_pairs_66 hl (by decide) rfl (fun ls hl => ?_)
                refine lv_iload_n hx hb dX11_pairs_68 rfl (lv_at hl 4 rfl) ?_
                refine lv_iload_n hx hb dX11_pairs_69 rfl (lv_at hl 6 rfl) ?_
                obtain ⟨J95, hJ95, hF⟩ := q_jn hF
                have jJ95 : ∀ (j11 : Int32), ∀ (H : Heap) (locs : List Loc) (ls : Array Slot), J95 j11 = some res → va_P E.1 vwCl (List.flatten [w_Model E a o ((x.1.1, x.1.2.1, x.1.2.2.1, x.1.2.2.2.1, x.1.2.2.2.2), (x.2.1.1, x.2.1.2.1, x.2.1.2.2.1, x.2.1.2.2.2.1, x.2.1.2.2.2.2), (x.2.2.1.1, x.2.2.1.2.1, q1.1, q1.2), (x.2.2.2.1, x.2.2.2.2.1, x.2.2.2.2.2.1, x.2.2.2.2.2.2))]) H → va_D A (List.flatten [w_Model E a o ((x.1.1, x.1.2.1, x.1.2.2.1, x.1.2.2.2.1, x.1.2.2.2.2), (x.2.1.1, x.2.1.2.1, x.2.1.2.2.1, x.2.1.2.2.2.1, x.2.1.2.2.2.2), (x.2.2.1.1, x.2.2.1.2.1, q1.1, q1.2), (x.2.2.2.1, x.2.2.2.2.1, x.2.2.2.2.2.1, x.2.2.2.2.2.2))]) → va_S A s.heap H locs → lv_has ls 8 [(5, .int i4), (4, .int i2), (0, .ref (a o)), (2, .int p2)] → W p l e rm_X11_pairs s m args below meth c H locs 0 0 Q (F0 m 95 ls [.int j11, .int i5]) := by
                  intro j11 H locs ls hF hP hD hS hl
                  rw [hJ95] at hF
                  refine lv_iadd hx hb dX11_pairs_95 ?_
                  refine lv_topi (fun v12 ev12 => ?_)
                  have hF := q_lti ev12 hF
                  refine lv_istore_n (lv' := [(3, .int v12), (5, .int i4), (4, .int i2), (0, .ref (a o)), (2, .int p2)]) hx hb dX11_pairs_96 rfl hl (by decide) rfl (fun ls hl => ?_)
                  obtain ⟨v13, ev13⟩ : ∃ y : Int32, y = i4 + 1 := ⟨_, rfl⟩
                  have hF := q_lti ev13 hF
                  refine lv_iinc (v := v13) (lv' := [(5, .int v13), (3, .int v12), (4, .int i2), (0, .ref (a o)), (2, .int p2)]) hx hb dX11_pairs_97 hl (k := 1) rfl (by rw [ev13]; rfl) (by decide) rfl (fun ls hl => ?_)
                  refine lv_goto (tgt := 22) hx hb dX11_pairs_100 (by decide) ?_
                  exact ih22 v13 v12 H locs ls hF hP hD hS (lv_sub hl [0, 2, 1, 3, 4] rfl)
                obtain ⟨J78, hJ78, hF⟩ := q_jn hF
                have jJ78 : ∀ (H : Heap) (locs : List Loc) (ls : Array Slot), J78 () = some res → va_P E.1 vwCl (List.flatten [w_Model E a o ((x.1.1, x.1.2.1, x.1.2.2.1, x.1.2.2.2.1, x.1.2.2.2.2), (x.2.1.1, x.2.1.2.1, x.2.1.2.2.1, x.2.1.2.2.2.1, x.2.1.2.2.2.2), (x.2.2.1.1, x.2.2.1.2.1, q1.1, q1.2), (x.2.2.2.1, x.2.2.2.2.1, x.2.2.2.2.2.1, x.2.2.2.2.2.2))]) H → va_D A (List.flatten [w_Model E a o ((x.1.1, x.1.2.1, x.1.2.2.1, x.1.2.2.2.1, x.1.2.2.2.2), (x.2.1.1, x.2.1.2.1, x.2.1.2.2.1, x.2.1.2.2.2.1, x.2.1.2.2.2.2), (x.2.2.1.1, x.2.2.1.2.1, q1.1, q1.2), (x.2.2.2.1, x.2.2.2.2.1, x.2.2.2.2.2.1, x.2.2.2.2.2.2))]) → va_S A s.heap H locs → lv_has ls 8 [(6, .int v9), (5, .int i4), (4, .int i2), (0, .ref (a o)), (2, .int p2)] → W p l e rm_X11_pairs s m args below meth c H locs 0 0 Q (F0 m 78 ls [.int i5]) := by
                  intro  H locs ls hF hP hD hS hl
                  rw [hJ78] at hF
                  refine lv_iload_n hx hb dX11_pairs_78 rfl (lv_at hl 4 rfl) ?_
                  refine lv_if_ne (tgt := 94) hx hb dX11_pairs_79 (by decide) (fun c79 => ?_) (fun c79 => ?_)
                  · have hF := q_brn c79 hF
                    refine lv_iconst (v := 0) hx hb dX11_pairs_94 (by decide) ?_
                    exact jJ95 0 H locs ls hF hP hD hS (lv_sub hl [1, 2, 3, 4] rfl)
                  · have hF := q_brp c79 hF
                    refine lv_iload hx hb dX11_pairs_82 (lv_at hl 0 rfl) ?_
                    obtain ⟨q14, hq14, hF⟩ := q_bdi hF
                    refine cl_i (Lc := []) (Lc' := []) (L' := [w_Model E a o ((x.1.1, x.1.2.1, x.1.2.2.1, x.1.2.2.2.1, x.1.2.2.2.2), (x.2.1.1, x.2.1.2.1, x.2.1.2.2.1, x.2.1.2.2.2.1, x.2.1.2.2.2.2), (x.2.2.1.1, x.2.2.1.2.1, q1.1, q1.2), (x.2.2.2.1, x.2.2.2.2.1, x.2.2.2.2.2.1, x.2.2.2.2.2.2))]) (rv := q14) (va_runS (As := [.int v9]) (rest := [.int i5]) ⟨hx, hb, hml, hown, ha⟩ (k_X11_isDissonant l E v9 q14 hq14 H.size) (cwS 1 ha (gi_S (fun _ h => h) mw1994 mw1995 mw87 mw1996) rfl rfl rfl hv_X11_isDissonant ⟨(Nat.le_of_ble_eq_true rfl), (Nat.le_of_ble_eq_true rfl)⟩) ⟨pre_blind, pre_at hP hD hS hz hzs hst [] (by decide) rfl rfl⟩ rfl rfl hl.1 rfl (lv_room (Nat.le_of_ble_eq_true rfl)) dX11_pairs_84 ⟨(Nat.le_of_ble_eq_true rfl), (Nat.le_of_ble_eq_true rfl)⟩) hP hD hS hA [] (by decide) rfl rfl rfl rfl (fun H locs hP hD hS => ?_)
                    refine lv_if_eq (tgt := 94) hx hb dX11_pairs_87 (by decide) (fun c87 => ?_) (fun c87 => ?_)
                    · have hF := q_brp c87 hF
                      refine lv_iconst (v := 0) hx hb dX11_pairs_94 (by decide) ?_
                      exact jJ95 0 H locs ls hF hP hD hS (lv_sub hl [1, 2, 3, 4] rfl)
                    · have hF := q_brn c87 hF
                      refine lv_iconst (v := 1) hx hb dX11_pairs_90 (by decide) ?_
                      refine lv_goto (tgt := 95) hx hb dX11_pairs_91 (by decide) ?_
                      exact jJ95 1 H locs ls hF hP hD hS (lv_sub hl [1, 2, 3, 4] rfl)
                refine lv_if_eq (tgt := 78) hx hb dX11_pairs_70 (by decide) (fun c70 => ?_) (fun c70 => ?_)
                · have hF := q_brp c70 hF
                  exact jJ78 H locs ls hF hP hD hS (lv_sub hl [1, 2, 3, 5, 6] rfl)
                · have hF := q_brn c70 hF
                  refine lv_iload hx hb dX11_pairs_73 (lv_at hl 0 rfl) ?_
                  refine lv_if_ne (tgt := 90) hx hb dX11_pairs_75 (by decide) (fun c75 => ?_) (fun c75 => ?_)
                  · have hF := q_brn c75 hF
                    refine lv_iconst (v := 1) hx hb dX11_pairs_90 (by decide) ?_
                    refine lv_goto (tgt := 95) hx hb dX11_pairs_91 (by decide) ?_
                    exact jJ95 1 H locs ls hF hP hD hS (lv_sub hl [2, 3, 5, 6] rfl)
                  · have hF := q_brp c75 hF
                    exact jJ78 H locs ls hF hP hD hS (lv_sub hl [1, 2, 3, 5, 6] rfl)
              refine lv_icmp_eq (tgt := 61) hx hb dX11_pairs_52 (by decide) (fun c52 => ?_) (fun c52 => ?_)
              · have hF := q_brp c52 hF
                refine lv_iconst (v := 1) hx hb dX11_pairs_61 (by decide) ?_
                refine lv_goto (tgt := 66) hx hb dX11_pairs_62 (by decide) ?_
                exact jJ66 1 H locs ls hF hP hD hS (lv_sub hl [0, 1, 2, 3, 4, 5] rfl)
              · have hF := q_brn c52 hF
                refine lv_iload hx hb dX11_pairs_55 (lv_at hl 0 rfl) ?_
                refine lv_iconst (v := 4) hx hb dX11_pairs_57 (by decide) ?_
                refine lv_icmp_ne (tgt := 65) hx hb dX11_pairs_58 (by decide) (fun c58 => ?_) (fun c58 => ?_)
                · have hF := q_brn c58 hF
                  refine lv_iconst (v := 0) hx hb dX11_pairs_65 (by decide) ?_
                  exact jJ66 0 H locs ls hF hP hD hS (lv_sub hl [0, 1, 2, 3, 4, 5] rfl)
                · have hF := q_brp c58 hF
                  refine lv_iconst (v := 1) hx hb dX11_pairs_61 (by decide) ?_
                  refine lv_goto (tgt := 66) hx hb dX11_pairs_62 (by decide) ?_
                  exact jJ66 1 H locs ls hF hP hD hS (lv_sub hl [0, 1, 2, 3, 4, 5] rfl)
        refine key22 _ ?_ _ 0 i3 H locs ls hF hP hD hS (lv_sub hl [0, 1, 2, 3, 4] rfl)
        intro y6 H locs ls hF hP hD hS hl
        obtain ⟨v15, ev15⟩ : ∃ y : Int32, y = i2 + 1 := ⟨_, rfl⟩
        have hF := q_lti ev15 hF
        refine lv_iinc (v := v15) (lv' := [(4, .int v15), (3, .int y6), (0, .ref (a o)), (2, .int p2)]) hx hb dX11_pairs_103 hl (k := 0) rfl (by rw [ev15]; rfl) (by decide) rfl (fun ls hl => ?_)
        refine lv_goto (tgt := 10) hx hb dX11_pairs_106 (by decide) ?_
        exact ih10 v15 y6 H locs ls hF hP hD hS (lv_sub hl [0, 1, 2, 3] rfl)
  exact key10 _ 0 0 H locs ls hF hP hD hS (lv_sub hl [0, 1, 2, 4] rfl)

/-! X11_dissonances -/
theorem dX11_dissonances_0 : decode cX11_dissonances 0 = .ok (.aload_n 0, 1) := by decide +kernel
theorem dX11_dissonances_1 : decode cX11_dissonances 1 = .ok (.aload_n 0, 1) := by decide +kernel
theorem dX11_dissonances_2 : decode cX11_dissonances 2 = .ok (.iload_n 1, 1) := by decide +kernel
theorem dX11_dissonances_3 : decode cX11_dissonances 3 = .ok (.iconst 0, 1) := by decide +kernel
theorem dX11_dissonances_4 : decode cX11_dissonances 4 = .ok (.invokevirtual 174, 3) := by decide +kernel
theorem dX11_dissonances_7 : decode cX11_dissonances 7 = .ok (.invokevirtual 83, 3) := by decide +kernel
theorem dX11_dissonances_10 : decode cX11_dissonances 10 = .ok (.ireturn, 1) := by decide +kernel
def f_X11_dissonances (x_g : (Nat → Int32)) (x_notes : (Nat → Int32)) (x_noteCount : Int32) (x_thrown : Int32) (p1 : Int32) : Option (Int32 × (Nat → Int32) × Int32 × Int32) :=
  q_bd (f_X11_pairs x_g x_notes x_noteCount p1 0) (fun q1 =>
  q_bd (f_X11_done x_thrown q1.1) (fun q2 =>
  some (q2.1, q1.2.1, q1.2.2, q2.2)))
theorem hv_X11_dissonances : yX11_dissonances.cls = RX11 ∧ yX11_dissonances.cls ≠ "java/lang/invoke/MethodHandle" ∧ yX11_dissonances.cls ≠ "java/lang/invoke/VarHandle" ∧ (parseMethodDescriptor yX11_dissonances.desc).map (fun d => d.parameters.length) = some 1 := by decide +kernel
abbrev rm_X11_dissonances : Room := { frames := 4, cells := 0, slots := 0, locals := 95 }
set_option maxHeartbeats 4000000 in
set_option maxRecDepth 100000 in
theorem k_X11_dissonances (l : Launch) (E : ET) (a : Nat → Nat) (o : Nat) (x : Model_t) (p1 : Int32) (res : Int32 × (Nat → Int32) × Int32 × Int32) (hF : f_X11_dissonances x.1.1 x.2.2.1.2.2.1 x.2.2.1.2.2.2 x.2.2.2.1 p1 = some res) (sz : Nat) : CtI l yX11_dissonances (mws yX11_dissonances cX11_dissonances 2 (some .int)) rm_X11_dissonances 0 0 [.ref (a o), .int p1] E (bl_Model E a o x) res.1 (bl_Model E a o ((x.1.1, x.1.2.1, x.1.2.2.1, x.1.2.2.2.1, x.1.2.2.2.2), (x.2.1.1, x.2.1.2.1, x.2.1.2.2.1, x.2.1.2.2.2.1, x.2.1.2.2.2.2), (x.2.2.1.1, x.2.2.1.2.1, res.2.1, res.2.2.1), (res.2.2.2, x.2.2.2.2.1, x.2.2.2.2.2.1, x.2.2.2.2.2.2))) sz := by
  refine mk_M (by decide +kernel) (Nat.le_of_ble_eq_true rfl) ?_
  intro p e s m below meth c A args Q ls hAe hsz hQ hx hb hr hml hin ha hown hlocks hA hz hzs hst hP hD hS hl
  have hown : s.vm.findClass RX11 = some m.cls := hown
  rw [hAe] at hQ
  subst hsz
  have hP : va_P E.1 vwCl (List.flatten [w_Model E a o x]) s.heap := hP
  have hD : va_D A (List.flatten [w_Model E a o x]) := hD
  have hl : lv_has ls 2 [(0, .ref (a o)), (1, .int p1)] := hl
  generalize hHe : s.heap = H at hP
  have hS : va_S A s.heap H [] := by rw [← hHe]; exact hS
  generalize ([] : List Loc) = locs at hS ⊢
  unfold f_X11_dissonances at hF
  refine lv_aload_n hx hb dX11_dissonances_0 rfl (lv_at hl 0 rfl) ?_
  refine lv_aload_n hx hb dX11_dissonances_1 rfl (lv_at hl 0 rfl) ?_
  refine lv_iload_n hx hb dX11_dissonances_2 rfl (lv_at hl 1 rfl) ?_
  refine lv_iconst (v := 0) hx hb dX11_dissonances_3 (by decide) ?_
  obtain ⟨q1, hq1, hF⟩ := q_bdi hF
  refine cl_i (Lc := [w_Model E a o x]) (Lc' := [w_Model E a o ((x.1.1, x.1.2.1, x.1.2.2.1, x.1.2.2.2.1, x.1.2.2.2.2), (x.2.1.1, x.2.1.2.1, x.2.1.2.2.1, x.2.1.2.2.2.1, x.2.1.2.2.2.2), (x.2.2.1.1, x.2.2.1.2.1, q1.2.1, q1.2.2), (x.2.2.2.1, x.2.2.2.2.1, x.2.2.2.2.2.1, x.2.2.2.2.2.2))]) (L' := [w_Model E a o ((x.1.1, x.1.2.1, x.1.2.2.1, x.1.2.2.2.1, x.1.2.2.2.2), (x.2.1.1, x.2.1.2.1, x.2.1.2.2.1, x.2.1.2.2.2.1, x.2.1.2.2.2.2), (x.2.2.1.1, x.2.2.1.2.1, q1.2.1, q1.2.2), (x.2.2.2.1, x.2.2.2.2.1, x.2.2.2.2.2.1, x.2.2.2.2.2.2))]) (rv := q1.1) (va_runV (As := [.int p1, .int 0]) (rest := [.ref (a o)]) ⟨hx, hb, hml, hown, ha⟩ (k_X11_pairs l E a o x p1 0 q1 hq1 H.size) (cwV 2 ha (gi_V (fun _ h => h) mw1990 mw1992 mw57 mw87 mw1993) rfl rfl rfl hv_X11_pairs ⟨(Nat.le_of_ble_eq_true rfl), (Nat.le_of_ble_eq_true rfl)⟩) ⟨pre_blind, va_recv hst.k (fr_P hP [0] rfl) (ci := 13) (q0 := 0) rfl rfl, pre_at hP hD hS hz hzs hst [0] (by decide) rfl rfl⟩ rfl rfl hl.1 rfl (lv_room (Nat.le_of_ble_eq_true rfl)) dX11_dissonances_4 ⟨(Nat.le_of_ble_eq_true rfl), (Nat.le_of_ble_eq_true rfl)⟩) hP hD hS hA [0] (by decide) rfl rfl rfl rfl (fun H locs hP hD hS => ?_)
  obtain ⟨q2, hq2, hF⟩ := q_bdi hF
  refine cl_i (Lc := [w_Model E a o ((x.1.1, x.1.2.1, x.1.2.2.1, x.1.2.2.2.1, x.1.2.2.2.2), (x.2.1.1, x.2.1.2.1, x.2.1.2.2.1, x.2.1.2.2.2.1, x.2.1.2.2.2.2), (x.2.2.1.1, x.2.2.1.2.1, q1.2.1, q1.2.2), (x.2.2.2.1, x.2.2.2.2.1, x.2.2.2.2.2.1, x.2.2.2.2.2.2))]) (Lc' := [w_Model E a o ((x.1.1, x.1.2.1, x.1.2.2.1, x.1.2.2.2.1, x.1.2.2.2.2), (x.2.1.1, x.2.1.2.1, x.2.1.2.2.1, x.2.1.2.2.2.1, x.2.1.2.2.2.2), (x.2.2.1.1, x.2.2.1.2.1, q1.2.1, q1.2.2), (q2.2, x.2.2.2.2.1, x.2.2.2.2.2.1, x.2.2.2.2.2.2))]) (L' := [w_Model E a o ((x.1.1, x.1.2.1, x.1.2.2.1, x.1.2.2.2.1, x.1.2.2.2.2), (x.2.1.1, x.2.1.2.1, x.2.1.2.2.1, x.2.1.2.2.2.1, x.2.1.2.2.2.2), (x.2.2.1.1, x.2.2.1.2.1, q1.2.1, q1.2.2), (q2.2, x.2.2.2.2.1, x.2.2.2.2.2.1, x.2.2.2.2.2.2))]) (rv := q2.1) (va_runV (As := [.int q1.1]) (rest := []) ⟨hx, hb, hml, hown, ha⟩ (k_X11_done l E a o ((x.1.1, x.1.2.1, x.1.2.2.1, x.1.2.2.2.1, x.1.2.2.2.2), (x.2.1.1, x.2.1.2.1, x.2.1.2.2.1, x.2.1.2.2.2.1, x.2.1.2.2.2.2), (x.2.2.1.1, x.2.2.1.2.1, q1.2.1, q1.2.2), (x.2.2.2.1, x.2.2.2.2.1, x.2.2.2.2.2.1, x.2.2.2.2.2.2)) q1.1 q2 hq2 H.size) (cwV 1 ha (gi_V (fun _ h => h) mw1720 mw1722 mw30 mw87 mw1723) rfl rfl rfl hv_X11_done ⟨(Nat.le_of_ble_eq_true rfl), (Nat.le_of_ble_eq_true rfl)⟩) ⟨pre_blind, va_recv hst.k (fr_P hP [0] rfl) (ci := 13) (q0 := 0) rfl rfl, pre_at hP hD hS hz hzs hst [0] (by decide) rfl rfl⟩ rfl rfl hl.1 rfl (lv_room (Nat.le_of_ble_eq_true rfl)) dX11_dissonances_7 ⟨(Nat.le_of_ble_eq_true rfl), (Nat.le_of_ble_eq_true rfl)⟩) hP hD hS hA [0] (by decide) rfl rfl rfl rfl (fun H locs hP hD hS => ?_)
  obtain rfl := Option.some.inj hF
  exact en_i hQ (Nat.le_of_ble_eq_true rfl) (Nat.le_of_ble_eq_true rfl) hx hb hr hlocks hP hD hS rfl dX11_dissonances_10

/-! X11_dissonancesByClasses -/
theorem dX11_dissonancesByClasses_0 : decode cX11_dissonancesByClasses 0 = .ok (.aload_n 0, 1) := by decide +kernel
theorem dX11_dissonancesByClasses_1 : decode cX11_dissonancesByClasses 1 = .ok (.iload_n 1, 1) := by decide +kernel
theorem dX11_dissonancesByClasses_2 : decode cX11_dissonancesByClasses 2 = .ok (.invokevirtual 178, 3) := by decide +kernel
theorem dX11_dissonancesByClasses_5 : decode cX11_dissonancesByClasses 5 = .ok (.ireturn, 1) := by decide +kernel
def f_X11_dissonancesByClasses (x_g : (Nat → Int32)) (x_notes : (Nat → Int32)) (x_noteCount : Int32) (x_thrown : Int32) (p1 : Int32) : Option (Int32 × (Nat → Int32) × Int32 × Int32) :=
  q_bd (f_X11_dissonances x_g x_notes x_noteCount x_thrown p1) (fun q1 =>
  some (q1.1, q1.2.1, q1.2.2.1, q1.2.2.2))
theorem hv_X11_dissonancesByClasses : yX11_dissonancesByClasses.cls = RX11 ∧ yX11_dissonancesByClasses.cls ≠ "java/lang/invoke/MethodHandle" ∧ yX11_dissonancesByClasses.cls ≠ "java/lang/invoke/VarHandle" ∧ (parseMethodDescriptor yX11_dissonancesByClasses.desc).map (fun d => d.parameters.length) = some 1 := by decide +kernel
abbrev rm_X11_dissonancesByClasses : Room := { frames := 5, cells := 0, slots := 0, locals := 116 }
set_option maxHeartbeats 4000000 in
set_option maxRecDepth 100000 in
theorem k_X11_dissonancesByClasses (l : Launch) (E : ET) (a : Nat → Nat) (o : Nat) (x : Model_t) (p1 : Int32) (res : Int32 × (Nat → Int32) × Int32 × Int32) (hF : f_X11_dissonancesByClasses x.1.1 x.2.2.1.2.2.1 x.2.2.1.2.2.2 x.2.2.2.1 p1 = some res) (sz : Nat) : CtI l yX11_dissonancesByClasses (mws yX11_dissonancesByClasses cX11_dissonancesByClasses 2 (some .int)) rm_X11_dissonancesByClasses 0 0 [.ref (a o), .int p1] E (bl_Model E a o x) res.1 (bl_Model E a o ((x.1.1, x.1.2.1, x.1.2.2.1, x.1.2.2.2.1, x.1.2.2.2.2), (x.2.1.1, x.2.1.2.1, x.2.1.2.2.1, x.2.1.2.2.2.1, x.2.1.2.2.2.2), (x.2.2.1.1, x.2.2.1.2.1, res.2.1, res.2.2.1), (res.2.2.2, x.2.2.2.2.1, x.2.2.2.2.2.1, x.2.2.2.2.2.2))) sz := by
  refine mk_M (by decide +kernel) (Nat.le_of_ble_eq_true rfl) ?_
  intro p e s m below meth c A args Q ls hAe hsz hQ hx hb hr hml hin ha hown hlocks hA hz hzs hst hP hD hS hl
  have hown : s.vm.findClass RX11 = some m.cls := hown
  rw [hAe] at hQ
  subst hsz
  have hP : va_P E.1 vwCl (List.flatten [w_Model E a o x]) s.heap := hP
  have hD : va_D A (List.flatten [w_Model E a o x]) := hD
  have hl : lv_has ls 2 [(0, .ref (a o)), (1, .int p1)] := hl
  generalize hHe : s.heap = H at hP
  have hS : va_S A s.heap H [] := by rw [← hHe]; exact hS
  generalize ([] : List Loc) = locs at hS ⊢
  unfold f_X11_dissonancesByClasses at hF
  refine lv_aload_n hx hb dX11_dissonancesByClasses_0 rfl (lv_at hl 0 rfl) ?_
  refine lv_iload_n hx hb dX11_dissonancesByClasses_1 rfl (lv_at hl 1 rfl) ?_
  obtain ⟨q1, hq1, hF⟩ := q_bdi hF
  refine cl_i (Lc := [w_Model E a o x]) (Lc' := [w_Model E a o ((x.1.1, x.1.2.1, x.1.2.2.1, x.1.2.2.2.1, x.1.2.2.2.2), (x.2.1.1, x.2.1.2.1, x.2.1.2.2.1, x.2.1.2.2.2.1, x.2.1.2.2.2.2), (x.2.2.1.1, x.2.2.1.2.1, q1.2.1, q1.2.2.1), (q1.2.2.2, x.2.2.2.2.1, x.2.2.2.2.2.1, x.2.2.2.2.2.2))]) (L' := [w_Model E a o ((x.1.1, x.1.2.1, x.1.2.2.1, x.1.2.2.2.1, x.1.2.2.2.2), (x.2.1.1, x.2.1.2.1, x.2.1.2.2.1, x.2.1.2.2.2.1, x.2.1.2.2.2.2), (x.2.2.1.1, x.2.2.1.2.1, q1.2.1, q1.2.2.1), (q1.2.2.2, x.2.2.2.2.1, x.2.2.2.2.2.1, x.2.2.2.2.2.2))]) (rv := q1.1) (va_runV (As := [.int p1]) (rest := []) ⟨hx, hb, hml, hown, ha⟩ (k_X11_dissonances l E a o x p1 q1 hq1 H.size) (cwV 1 ha (gi_V (fun _ h => h) mw2001 mw1987 mw1988 mw87 mw1989) rfl rfl rfl hv_X11_dissonances ⟨(Nat.le_of_ble_eq_true rfl), (Nat.le_of_ble_eq_true rfl)⟩) ⟨pre_blind, va_recv hst.k (fr_P hP [0] rfl) (ci := 13) (q0 := 0) rfl rfl, pre_at hP hD hS hz hzs hst [0] (by decide) rfl rfl⟩ rfl rfl hl.1 rfl (lv_room (Nat.le_of_ble_eq_true rfl)) dX11_dissonancesByClasses_2 ⟨(Nat.le_of_ble_eq_true rfl), (Nat.le_of_ble_eq_true rfl)⟩) hP hD hS hA [0] (by decide) rfl rfl rfl rfl (fun H locs hP hD hS => ?_)
  obtain rfl := Option.some.inj hF
  exact en_i hQ (Nat.le_of_ble_eq_true rfl) (Nat.le_of_ble_eq_true rfl) hx hb hr hlocks hP hD hS rfl dX11_dissonancesByClasses_5

/-! X11_thirds -/
theorem dX11_thirds_0 : decode cX11_thirds 0 = .ok (.aload_n 0, 1) := by decide +kernel
theorem dX11_thirds_1 : decode cX11_thirds 1 = .ok (.aload_n 0, 1) := by decide +kernel
theorem dX11_thirds_2 : decode cX11_thirds 2 = .ok (.iload_n 1, 1) := by decide +kernel
theorem dX11_thirds_3 : decode cX11_thirds 3 = .ok (.iconst 1, 1) := by decide +kernel
theorem dX11_thirds_4 : decode cX11_thirds 4 = .ok (.invokevirtual 174, 3) := by decide +kernel
theorem dX11_thirds_7 : decode cX11_thirds 7 = .ok (.invokevirtual 83, 3) := by decide +kernel
theorem dX11_thirds_10 : decode cX11_thirds 10 = .ok (.ireturn, 1) := by decide +kernel
def f_X11_thirds (x_g : (Nat → Int32)) (x_notes : (Nat → Int32)) (x_noteCount : Int32) (x_thrown : Int32) (p1 : Int32) : Option (Int32 × (Nat → Int32) × Int32 × Int32) :=
  q_bd (f_X11_pairs x_g x_notes x_noteCount p1 1) (fun q1 =>
  q_bd (f_X11_done x_thrown q1.1) (fun q2 =>
  some (q2.1, q1.2.1, q1.2.2, q2.2)))
theorem hv_X11_thirds : yX11_thirds.cls = RX11 ∧ yX11_thirds.cls ≠ "java/lang/invoke/MethodHandle" ∧ yX11_thirds.cls ≠ "java/lang/invoke/VarHandle" ∧ (parseMethodDescriptor yX11_thirds.desc).map (fun d => d.parameters.length) = some 1 := by decide +kernel
abbrev rm_X11_thirds : Room := { frames := 4, cells := 0, slots := 0, locals := 95 }
set_option maxHeartbeats 4000000 in
set_option maxRecDepth 100000 in
theorem k_X11_thirds (l : Launch) (E : ET) (a : Nat → Nat) (o : Nat) (x : Model_t) (p1 : Int32) (res : Int32 × (Nat → Int32) × Int32 × Int32) (hF : f_X11_thirds x.1.1 x.2.2.1.2.2.1 x.2.2.1.2.2.2 x.2.2.2.1 p1 = some res) (sz : Nat) : CtI l yX11_thirds (mws yX11_thirds cX11_thirds 2 (some .int)) rm_X11_thirds 0 0 [.ref (a o), .int p1] E (bl_Model E a o x) res.1 (bl_Model E a o ((x.1.1, x.1.2.1, x.1.2.2.1, x.1.2.2.2.1, x.1.2.2.2.2), (x.2.1.1, x.2.1.2.1, x.2.1.2.2.1, x.2.1.2.2.2.1, x.2.1.2.2.2.2), (x.2.2.1.1, x.2.2.1.2.1, res.2.1, res.2.2.1), (res.2.2.2, x.2.2.2.2.1, x.2.2.2.2.2.1, x.2.2.2.2.2.2))) sz := by
  refine mk_M (by decide +kernel) (Nat.le_of_ble_eq_true rfl) ?_
  intro p e s m below meth c A args Q ls hAe hsz hQ hx hb hr hml hin ha hown hlocks hA hz hzs hst hP hD hS hl
  have hown : s.vm.findClass RX11 = some m.cls := hown
  rw [hAe] at hQ
  subst hsz
  have hP : va_P E.1 vwCl (List.flatten [w_Model E a o x]) s.heap := hP
  have hD : va_D A (List.flatten [w_Model E a o x]) := hD
  have hl : lv_has ls 2 [(0, .ref (a o)), (1, .int p1)] := hl
  generalize hHe : s.heap = H at hP
  have hS : va_S A s.heap H [] := by rw [← hHe]; exact hS
  generalize ([] : List Loc) = locs at hS ⊢
  unfold f_X11_thirds at hF
  refine lv_aload_n hx hb dX11_thirds_0 rfl (lv_at hl 0 rfl) ?_
  refine lv_aload_n hx hb dX11_thirds_1 rfl (lv_at hl 0 rfl) ?_
  refine lv_iload_n hx hb dX11_thirds_2 rfl (lv_at hl 1 rfl) ?_
  refine lv_iconst (v := 1) hx hb dX11_thirds_3 (by decide) ?_
  obtain ⟨q1, hq1, hF⟩ := q_bdi hF
  refine cl_i (Lc := [w_Model E a o x]) (Lc' := [w_Model E a o ((x.1.1, x.1.2.1, x.1.2.2.1, x.1.2.2.2.1, x.1.2.2.2.2), (x.2.1.1, x.2.1.2.1, x.2.1.2.2.1, x.2.1.2.2.2.1, x.2.1.2.2.2.2), (x.2.2.1.1, x.2.2.1.2.1, q1.2.1, q1.2.2), (x.2.2.2.1, x.2.2.2.2.1, x.2.2.2.2.2.1, x.2.2.2.2.2.2))]) (L' := [w_Model E a o ((x.1.1, x.1.2.1, x.1.2.2.1, x.1.2.2.2.1, x.1.2.2.2.2), (x.2.1.1, x.2.1.2.1, x.2.1.2.2.1, x.2.1.2.2.2.1, x.2.1.2.2.2.2), (x.2.2.1.1, x.2.2.1.2.1, q1.2.1, q1.2.2), (x.2.2.2.1, x.2.2.2.2.1, x.2.2.2.2.2.1, x.2.2.2.2.2.2))]) (rv := q1.1) (va_runV (As := [.int p1, .int 1]) (rest := [.ref (a o)]) ⟨hx, hb, hml, hown, ha⟩ (k_X11_pairs l E a o x p1 1 q1 hq1 H.size) (cwV 2 ha (gi_V (fun _ h => h) mw1990 mw1992 mw57 mw87 mw1993) rfl rfl rfl hv_X11_pairs ⟨(Nat.le_of_ble_eq_true rfl), (Nat.le_of_ble_eq_true rfl)⟩) ⟨pre_blind, va_recv hst.k (fr_P hP [0] rfl) (ci := 13) (q0 := 0) rfl rfl, pre_at hP hD hS hz hzs hst [0] (by decide) rfl rfl⟩ rfl rfl hl.1 rfl (lv_room (Nat.le_of_ble_eq_true rfl)) dX11_thirds_4 ⟨(Nat.le_of_ble_eq_true rfl), (Nat.le_of_ble_eq_true rfl)⟩) hP hD hS hA [0] (by decide) rfl rfl rfl rfl (fun H locs hP hD hS => ?_)
  obtain ⟨q2, hq2, hF⟩ := q_bdi hF
  refine cl_i (Lc := [w_Model E a o ((x.1.1, x.1.2.1, x.1.2.2.1, x.1.2.2.2.1, x.1.2.2.2.2), (x.2.1.1, x.2.1.2.1, x.2.1.2.2.1, x.2.1.2.2.2.1, x.2.1.2.2.2.2), (x.2.2.1.1, x.2.2.1.2.1, q1.2.1, q1.2.2), (x.2.2.2.1, x.2.2.2.2.1, x.2.2.2.2.2.1, x.2.2.2.2.2.2))]) (Lc' := [w_Model E a o ((x.1.1, x.1.2.1, x.1.2.2.1, x.1.2.2.2.1, x.1.2.2.2.2), (x.2.1.1, x.2.1.2.1, x.2.1.2.2.1, x.2.1.2.2.2.1, x.2.1.2.2.2.2), (x.2.2.1.1, x.2.2.1.2.1, q1.2.1, q1.2.2), (q2.2, x.2.2.2.2.1, x.2.2.2.2.2.1, x.2.2.2.2.2.2))]) (L' := [w_Model E a o ((x.1.1, x.1.2.1, x.1.2.2.1, x.1.2.2.2.1, x.1.2.2.2.2), (x.2.1.1, x.2.1.2.1, x.2.1.2.2.1, x.2.1.2.2.2.1, x.2.1.2.2.2.2), (x.2.2.1.1, x.2.2.1.2.1, q1.2.1, q1.2.2), (q2.2, x.2.2.2.2.1, x.2.2.2.2.2.1, x.2.2.2.2.2.2))]) (rv := q2.1) (va_runV (As := [.int q1.1]) (rest := []) ⟨hx, hb, hml, hown, ha⟩ (k_X11_done l E a o ((x.1.1, x.1.2.1, x.1.2.2.1, x.1.2.2.2.1, x.1.2.2.2.2), (x.2.1.1, x.2.1.2.1, x.2.1.2.2.1, x.2.1.2.2.2.1, x.2.1.2.2.2.2), (x.2.2.1.1, x.2.2.1.2.1, q1.2.1, q1.2.2), (x.2.2.2.1, x.2.2.2.2.1, x.2.2.2.2.2.1, x.2.2.2.2.2.2)) q1.1 q2 hq2 H.size) (cwV 1 ha (gi_V (fun _ h => h) mw1720 mw1722 mw30 mw87 mw1723) rfl rfl rfl hv_X11_done ⟨(Nat.le_of_ble_eq_true rfl), (Nat.le_of_ble_eq_true rfl)⟩) ⟨pre_blind, va_recv hst.k (fr_P hP [0] rfl) (ci := 13) (q0 := 0) rfl rfl, pre_at hP hD hS hz hzs hst [0] (by decide) rfl rfl⟩ rfl rfl hl.1 rfl (lv_room (Nat.le_of_ble_eq_true rfl)) dX11_thirds_7 ⟨(Nat.le_of_ble_eq_true rfl), (Nat.le_of_ble_eq_true rfl)⟩) hP hD hS hA [0] (by decide) rfl rfl rfl rfl (fun H locs hP hD hS => ?_)
  obtain rfl := Option.some.inj hF
  exact en_i hQ (Nat.le_of_ble_eq_true rfl) (Nat.le_of_ble_eq_true rfl) hx hb hr hlocks hP hD hS rfl dX11_thirds_10

/-! X11_isHeard -/
theorem dX11_isHeard_0 : decode cX11_isHeard 0 = .ok (.aload_n 0, 1) := by decide +kernel
theorem dX11_isHeard_1 : decode cX11_isHeard 1 = .ok (.iload_n 1, 1) := by decide +kernel
theorem dX11_isHeard_2 : decode cX11_isHeard 2 = .ok (.invokevirtual 168, 3) := by decide +kernel
theorem dX11_isHeard_5 : decode cX11_isHeard 5 = .ok (.aload_n 0, 1) := by decide +kernel
theorem dX11_isHeard_6 : decode cX11_isHeard 6 = .ok (.getfield 157, 3) := by decide +kernel
theorem dX11_isHeard_9 : decode cX11_isHeard 9 = .ok (.ifCond .le 7, 3) := by decide +kernel
theorem dX11_isHeard_12 : decode cX11_isHeard 12 = .ok (.iconst 1, 1) := by decide +kernel
theorem dX11_isHeard_13 : decode cX11_isHeard 13 = .ok (.goto 4, 3) := by decide +kernel
theorem dX11_isHeard_16 : decode cX11_isHeard 16 = .ok (.iconst 0, 1) := by decide +kernel
theorem dX11_isHeard_17 : decode cX11_isHeard 17 = .ok (.ireturn, 1) := by decide +kernel
def f_X11_isHeard (x_g : (Nat → Int32)) (x_notes : (Nat → Int32)) (x_noteCount : Int32) (p1 : Int32) : Option (Int32 × (Nat → Int32) × Int32) :=
  q_bd (f_X11_listens x_g x_notes x_noteCount p1) (fun q1 =>
  q_br (q1.2 ≤ 0) (
  some (0, q1.1, q1.2)) (
  some (1, q1.1, q1.2)))
theorem hv_X11_isHeard : yX11_isHeard.cls = RX11 ∧ yX11_isHeard.cls ≠ "java/lang/invoke/MethodHandle" ∧ yX11_isHeard.cls ≠ "java/lang/invoke/VarHandle" ∧ (parseMethodDescriptor yX11_isHeard.desc).map (fun d => d.parameters.length) = some 1 := by decide +kernel
abbrev rm_X11_isHeard : Room := { frames := 3, cells := 0, slots := 0, locals := 68 }
set_option maxHeartbeats 4000000 in
set_option maxRecDepth 100000 in
theorem k_X11_isHeard (l : Launch) (E : ET) (a : Nat → Nat) (o : Nat) (x : Model_t) (p1 : Int32) (res : Int32 × (Nat → Int32) × Int32) (hF : f_X11_isHeard x.1.1 x.2.2.1.2.2.1 x.2.2.1.2.2.2 p1 = some res) (sz : Nat) : CtI l yX11_isHeard (mws yX11_isHeard cX11_isHeard 2 (some .boolean)) rm_X11_isHeard 0 0 [.ref (a o), .int p1] E (bl_Model E a o x) res.1 (bl_Model E a o ((x.1.1, x.1.2.1, x.1.2.2.1, x.1.2.2.2.1, x.1.2.2.2.2), (x.2.1.1, x.2.1.2.1, x.2.1.2.2.1, x.2.1.2.2.2.1, x.2.1.2.2.2.2), (x.2.2.1.1, x.2.2.1.2.1, res.2.1, res.2.2), (x.2.2.2.1, x.2.2.2.2.1, x.2.2.2.2.2.1, x.2.2.2.2.2.2))) sz := by
  refine mk_M (by decide +kernel) (Nat.le_of_ble_eq_true rfl) ?_
  intro p e s m below meth c A args Q ls hAe hsz hQ hx hb hr hml hin ha hown hlocks hA hz hzs hst hP hD hS hl
  have hown : s.vm.findClass RX11 = some m.cls := hown
  rw [hAe] at hQ
  subst hsz
  have hP : va_P E.1 vwCl (List.flatten [w_Model E a o x]) s.heap := hP
  have hD : va_D A (List.flatten [w_Model E a o x]) := hD
  have hl : lv_has ls 2 [(0, .ref (a o)), (1, .int p1)] := hl
  generalize hHe : s.heap = H at hP
  have hS : va_S A s.heap H [] := by rw [← hHe]; exact hS
  generalize ([] : List Loc) = locs at hS ⊢
  unfold f_X11_isHeard at hF
  refine lv_aload_n hx hb dX11_isHeard_0 rfl (lv_at hl 0 rfl) ?_
  refine lv_iload_n hx hb dX11_isHeard_1 rfl (lv_at hl 1 rfl) ?_
  obtain ⟨q1, hq1, hF⟩ := q_bdi hF
  refine cl_v (Lc := [w_Model E a o x]) (Lc' := [w_Model E a o ((x.1.1, x.1.2.1, x.1.2.2.1, x.1.2.2.2.1, x.1.2.2.2.2), (x.2.1.1, x.2.1.2.1, x.2.1.2.2.1, x.2.1.2.2.2.1, x.2.1.2.2.2.2), (x.2.2.1.1, x.2.2.1.2.1, q1.1, q1.2), (x.2.2.2.1, x.2.2.2.2.1, x.2.2.2.2.2.1, x.2.2.2.2.2.2))]) (L' := [w_Model E a o ((x.1.1, x.1.2.1, x.1.2.2.1, x.1.2.2.2.1, x.1.2.2.2.2), (x.2.1.1, x.2.1.2.1, x.2.1.2.2.1, x.2.1.2.2.2.1, x.2.1.2.2.2.2), (x.2.2.1.1, x.2.2.1.2.1, q1.1, q1.2), (x.2.2.2.1, x.2.2.2.2.1, x.2.2.2.2.2.1, x.2.2.2.2.2.2))]) (va_runV (As := [.int p1]) (rest := []) ⟨hx, hb, hml, hown, ha⟩ (k_X11_listens l E a o x p1 q1 hq1 H.size) (cwV 1 ha (gi_V (fun _ h => h) mw1970 mw1972 mw54 mw87 mw1973) rfl rfl rfl hv_X11_listens ⟨(Nat.le_of_ble_eq_true rfl), (Nat.le_of_ble_eq_true rfl)⟩) ⟨pre_blind, va_recv hst.k (fr_P hP [0] rfl) (ci := 13) (q0 := 0) rfl rfl, pre_at hP hD hS hz hzs hst [0] (by decide) rfl rfl⟩ rfl rfl hl.1 rfl (lv_room (Nat.le_of_ble_eq_true rfl)) dX11_isHeard_2 ⟨(Nat.le_of_ble_eq_true rfl), (Nat.le_of_ble_eq_true rfl)⟩) hP hD hS hA [0] (by decide) rfl rfl rfl rfl (fun H locs hP hD hS => ?_)
  refine lv_aload_n hx hb dX11_isHeard_5 rfl (lv_at hl 0 rfl) ?_
  refine va_get (D := E.1) (ci := 13) (v := .int q1.2) (C := RX11) (T := TX11) (N := 18) hx hb ha in_X11 hown hst.k hP 0 rfl rfl 13 (by decide) (ha _ mw1649) (fun _ h9 => h9) rfl dX11_isHeard_6 ?_
  refine lv_if_le (tgt := 16) hx hb dX11_isHeard_9 (by decide) (fun c9 => ?_) (fun c9 => ?_)
  · have hF := q_brp c9 hF
    refine lv_iconst (v := 0) hx hb dX11_isHeard_16 (by decide) ?_
    obtain rfl := Option.some.inj hF
    exact en_z hQ (Nat.le_of_ble_eq_true rfl) (Nat.le_of_ble_eq_true rfl) hx hb hr hlocks (by decide) hP hD hS rfl dX11_isHeard_17
  · have hF := q_brn c9 hF
    refine lv_iconst (v := 1) hx hb dX11_isHeard_12 (by decide) ?_
    refine lv_goto (tgt := 17) hx hb dX11_isHeard_13 (by decide) ?_
    obtain rfl := Option.some.inj hF
    exact en_z hQ (Nat.le_of_ble_eq_true rfl) (Nat.le_of_ble_eq_true rfl) hx hb hr hlocks (by decide) hP hD hS rfl dX11_isHeard_17
