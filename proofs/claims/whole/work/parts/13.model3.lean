/-! X11_hears -/
theorem dX11_hears_0 : decode cX11_hears 0 = .ok (.aload_n 0, 1) := by decide +kernel
theorem dX11_hears_1 : decode cX11_hears 1 = .ok (.getfield 157, 3) := by decide +kernel
theorem dX11_hears_4 : decode cX11_hears 4 = .ok (.istore_n 2, 1) := by decide +kernel
theorem dX11_hears_5 : decode cX11_hears 5 = .ok (.iload_n 2, 1) := by decide +kernel
theorem dX11_hears_6 : decode cX11_hears 6 = .ok (.ifCond .le 35, 3) := by decide +kernel
theorem dX11_hears_9 : decode cX11_hears 9 = .ok (.aload_n 0, 1) := by decide +kernel
theorem dX11_hears_10 : decode cX11_hears 10 = .ok (.getfield 36, 3) := by decide +kernel
theorem dX11_hears_13 : decode cX11_hears 13 = .ok (.iload_n 2, 1) := by decide +kernel
theorem dX11_hears_14 : decode cX11_hears 14 = .ok (.iconst 1, 1) := by decide +kernel
theorem dX11_hears_15 : decode cX11_hears 15 = .ok (.isub, 1) := by decide +kernel
theorem dX11_hears_16 : decode cX11_hears 16 = .ok (.iaload, 1) := by decide +kernel
theorem dX11_hears_17 : decode cX11_hears 17 = .ok (.iload_n 1, 1) := by decide +kernel
theorem dX11_hears_18 : decode cX11_hears 18 = .ok (.if_icmp .le 23, 3) := by decide +kernel
theorem dX11_hears_21 : decode cX11_hears 21 = .ok (.aload_n 0, 1) := by decide +kernel
theorem dX11_hears_22 : decode cX11_hears 22 = .ok (.getfield 36, 3) := by decide +kernel
theorem dX11_hears_25 : decode cX11_hears 25 = .ok (.iload_n 2, 1) := by decide +kernel
theorem dX11_hears_26 : decode cX11_hears 26 = .ok (.aload_n 0, 1) := by decide +kernel
theorem dX11_hears_27 : decode cX11_hears 27 = .ok (.getfield 36, 3) := by decide +kernel
theorem dX11_hears_30 : decode cX11_hears 30 = .ok (.iload_n 2, 1) := by decide +kernel
theorem dX11_hears_31 : decode cX11_hears 31 = .ok (.iconst 1, 1) := by decide +kernel
theorem dX11_hears_32 : decode cX11_hears 32 = .ok (.isub, 1) := by decide +kernel
theorem dX11_hears_33 : decode cX11_hears 33 = .ok (.iaload, 1) := by decide +kernel
theorem dX11_hears_34 : decode cX11_hears 34 = .ok (.iastore, 1) := by decide +kernel
theorem dX11_hears_35 : decode cX11_hears 35 = .ok (.iinc 2 (-1), 3) := by decide +kernel
theorem dX11_hears_38 : decode cX11_hears 38 = .ok (.goto (-33), 3) := by decide +kernel
theorem dX11_hears_41 : decode cX11_hears 41 = .ok (.aload_n 0, 1) := by decide +kernel
theorem dX11_hears_42 : decode cX11_hears 42 = .ok (.getfield 36, 3) := by decide +kernel
theorem dX11_hears_45 : decode cX11_hears 45 = .ok (.iload_n 2, 1) := by decide +kernel
theorem dX11_hears_46 : decode cX11_hears 46 = .ok (.iload_n 1, 1) := by decide +kernel
theorem dX11_hears_47 : decode cX11_hears 47 = .ok (.iastore, 1) := by decide +kernel
theorem dX11_hears_48 : decode cX11_hears 48 = .ok (.aload_n 0, 1) := by decide +kernel
theorem dX11_hears_49 : decode cX11_hears 49 = .ok (.dup, 1) := by decide +kernel
theorem dX11_hears_50 : decode cX11_hears 50 = .ok (.getfield 157, 3) := by decide +kernel
theorem dX11_hears_53 : decode cX11_hears 53 = .ok (.iconst 1, 1) := by decide +kernel
theorem dX11_hears_54 : decode cX11_hears 54 = .ok (.iadd, 1) := by decide +kernel
theorem dX11_hears_55 : decode cX11_hears 55 = .ok (.putfield 157, 3) := by decide +kernel
theorem dX11_hears_58 : decode cX11_hears 58 = .ok (.return_, 1) := by decide +kernel
def f_X11_hears_L5 (p1 : Int32) (K5 : Int32 → (Nat → Int32) → Option ((Nat → Int32) × Int32)) : Nat → Int32 → (Nat → Int32) → Option ((Nat → Int32) × Int32)
  | 0, _, _ => none
  | n5 + 1, i1, i2 =>
    q_br (i1 ≤ 0) (
  K5 i1 i2) (
  q_gd (q_in (i1 - 1) 24) (
  q_br ((i2 ((i1 - 1).toNatClampNeg)) ≤ p1) (
  K5 i1 i2) (
  q_gd (q_in (i1 - 1) 24) (
  q_gd (q_in i1 24) (
  q_lt (i1 + (-1) : Int32) (fun v8 =>
  f_X11_hears_L5 p1 K5 n5 v8 (upd i2 (i1.toNatClampNeg) (i2 ((i1 - 1).toNatClampNeg)))))))))
def f_X11_hears (x_notes : (Nat → Int32)) (x_noteCount : Int32) (p1 : Int32) : Option ((Nat → Int32) × Int32) :=
  f_X11_hears_L5 p1 (fun y3 y4 =>
  q_gd (q_in y3 24) (
  some (upd y4 (y3.toNatClampNeg) p1, x_noteCount + 1))) 2000 x_noteCount x_notes
theorem hv_X11_hears : yX11_hears.cls = RX11 ∧ yX11_hears.cls ≠ "java/lang/invoke/MethodHandle" ∧ yX11_hears.cls ≠ "java/lang/invoke/VarHandle" ∧ (parseMethodDescriptor yX11_hears.desc).map (fun d => d.parameters.length) = some 1 := by decide +kernel
abbrev rm_X11_hears : Room := { frames := 0, cells := 0, slots := 0, locals := 0 }
set_option maxHeartbeats 4000000 in
set_option maxRecDepth 100000 in
theorem k_X11_hears (l : Launch) (E : ET) (a : Nat → Nat) (o : Nat) (x : Model_t) (p1 : Int32) (res : (Nat → Int32) × Int32) (hF : f_X11_hears x.2.2.2.2.2.2.2.2.2.2.2.2.1 x.2.2.2.2.2.2.2.2.2.2.2.2.2.1 p1 = some res) (sz : Nat) : CtV l yX11_hears (mws yX11_hears cX11_hears 3 none) rm_X11_hears 0 0 [.ref (a o), .int p1] E (bl_Model E a o x) (bl_Model E a o (x.1, x.2.1, x.2.2.1, x.2.2.2.1, x.2.2.2.2.1, x.2.2.2.2.2.1, x.2.2.2.2.2.2.1, x.2.2.2.2.2.2.2.1, x.2.2.2.2.2.2.2.2.1, x.2.2.2.2.2.2.2.2.2.1, x.2.2.2.2.2.2.2.2.2.2.1, x.2.2.2.2.2.2.2.2.2.2.2.1, res.1, res.2, x.2.2.2.2.2.2.2.2.2.2.2.2.2.2.1, x.2.2.2.2.2.2.2.2.2.2.2.2.2.2.2.1, x.2.2.2.2.2.2.2.2.2.2.2.2.2.2.2.2.1, x.2.2.2.2.2.2.2.2.2.2.2.2.2.2.2.2.2)) sz := by
  refine mk_M (by decide +kernel) (Nat.le_of_ble_eq_true rfl) ?_
  intro p e s m below meth c A args Q ls hAe hsz hQ hx hb hr hml hin ha hown hlocks hA hz hzs hst hP hD hS hl
  have hown : s.vm.findClass RX11 = some m.cls := hown
  rw [hAe] at hQ
  subst hsz
  have hP : va_P E.1 vwCl (List.flatten [w_Model E a o x]) s.heap := hP
  have hD : va_D A (List.flatten [w_Model E a o x]) := hD
  have hl : lv_has ls 3 [(0, .ref (a o)), (1, .int p1)] := hl
  generalize hHe : s.heap = H at hP
  have hS : va_S A s.heap H [] := by rw [← hHe]; exact hS
  generalize ([] : List Loc) = locs at hS ⊢
  unfold f_X11_hears at hF
  refine lv_aload_n hx hb dX11_hears_0 rfl (lv_at hl 0 rfl) ?_
  refine va_get (D := E.1) (ci := 13) (v := .int x.2.2.2.2.2.2.2.2.2.2.2.2.2.1) (C := RX11) (T := TX11) (N := 18) hx hb ha in_X11 hown hst.k hP 0 rfl rfl 13 (by decide) (ha _ mw1649) (fun _ h9 => h9) rfl dX11_hears_1 ?_
  refine lv_istore_n (lv' := [(2, .int x.2.2.2.2.2.2.2.2.2.2.2.2.2.1), (0, .ref (a o)), (1, .int p1)]) hx hb dX11_hears_4 rfl hl (by decide) rfl (fun ls hl => ?_)
  have key5 : ∀ (K : Int32 → (Nat → Int32) → Option ((Nat → Int32) × Int32)), (∀ (y3 : Int32) (y4 : (Nat → Int32)) (H : Heap) (locs : List Loc) (ls : Array Slot), K y3 y4 = some res → va_P E.1 vwCl (List.flatten [w_Model E a o (x.1, x.2.1, x.2.2.1, x.2.2.2.1, x.2.2.2.2.1, x.2.2.2.2.2.1, x.2.2.2.2.2.2.1, x.2.2.2.2.2.2.2.1, x.2.2.2.2.2.2.2.2.1, x.2.2.2.2.2.2.2.2.2.1, x.2.2.2.2.2.2.2.2.2.2.1, x.2.2.2.2.2.2.2.2.2.2.2.1, y4, x.2.2.2.2.2.2.2.2.2.2.2.2.2.1, x.2.2.2.2.2.2.2.2.2.2.2.2.2.2.1, x.2.2.2.2.2.2.2.2.2.2.2.2.2.2.2.1, x.2.2.2.2.2.2.2.2.2.2.2.2.2.2.2.2.1, x.2.2.2.2.2.2.2.2.2.2.2.2.2.2.2.2.2)]) H → va_D A (List.flatten [w_Model E a o (x.1, x.2.1, x.2.2.1, x.2.2.2.1, x.2.2.2.2.1, x.2.2.2.2.2.1, x.2.2.2.2.2.2.1, x.2.2.2.2.2.2.2.1, x.2.2.2.2.2.2.2.2.1, x.2.2.2.2.2.2.2.2.2.1, x.2.2.2.2.2.2.2.2.2.2.1, x.2.2.2.2.2.2.2.2.2.2.2.1, y4, x.2.2.2.2.2.2.2.2.2.2.2.2.2.1, x.2.2.2.2.2.2.2.2.2.2.2.2.2.2.1, x.2.2.2.2.2.2.2.2.2.2.2.2.2.2.2.1, x.2.2.2.2.2.2.2.2.2.2.2.2.2.2.2.2.1, x.2.2.2.2.2.2.2.2.2.2.2.2.2.2.2.2.2)]) → va_S A s.heap H locs → lv_has ls 3 [(2, .int y3), (0, .ref (a o)), (1, .int p1)] → W p l e rm_X11_hears s m args below meth c H locs 0 0 Q (F0 m 41 ls [])) → ∀ (n : Nat) (i1 : Int32) (i2 : (Nat → Int32)) (H : Heap) (locs : List Loc) (ls : Array Slot), f_X11_hears_L5 p1 K n i1 i2 = some res → va_P E.1 vwCl (List.flatten [w_Model E a o (x.1, x.2.1, x.2.2.1, x.2.2.2.1, x.2.2.2.2.1, x.2.2.2.2.2.1, x.2.2.2.2.2.2.1, x.2.2.2.2.2.2.2.1, x.2.2.2.2.2.2.2.2.1, x.2.2.2.2.2.2.2.2.2.1, x.2.2.2.2.2.2.2.2.2.2.1, x.2.2.2.2.2.2.2.2.2.2.2.1, i2, x.2.2.2.2.2.2.2.2.2.2.2.2.2.1, x.2.2.2.2.2.2.2.2.2.2.2.2.2.2.1, x.2.2.2.2.2.2.2.2.2.2.2.2.2.2.2.1, x.2.2.2.2.2.2.2.2.2.2.2.2.2.2.2.2.1, x.2.2.2.2.2.2.2.2.2.2.2.2.2.2.2.2.2)]) H → va_D A (List.flatten [w_Model E a o (x.1, x.2.1, x.2.2.1, x.2.2.2.1, x.2.2.2.2.1, x.2.2.2.2.2.1, x.2.2.2.2.2.2.1, x.2.2.2.2.2.2.2.1, x.2.2.2.2.2.2.2.2.1, x.2.2.2.2.2.2.2.2.2.1, x.2.2.2.2.2.2.2.2.2.2.1, x.2.2.2.2.2.2.2.2.2.2.2.1, i2, x.2.2.2.2.2.2.2.2.2.2.2.2.2.1, x.2.2.2.2.2.2.2.2.2.2.2.2.2.2.1, x.2.2.2.2.2.2.2.2.2.2.2.2.2.2.2.1, x.2.2.2.2.2.2.2.2.2.2.2.2.2.2.2.2.1, x.2.2.2.2.2.2.2.2.2.2.2.2.2.2.2.2.2)]) → va_S A s.heap H locs → lv_has ls 3 [(2, .int i1), (0, .ref (a o)), (1, .int p1)] → W p l e rm_X11_hears s m args below meth c H locs 0 0 Q (F0 m 5 ls []) := by
    intro K5 hK5 n5
    induction n5 with
    | zero => intro i1 i2 H locs ls hF; exact absurd hF (by simp [f_X11_hears_L5])
    | succ n5 ih5 =>
      intro i1 i2 H locs ls hF hP hD hS hl
      rw [f_X11_hears_L5] at hF
      refine lv_iload_n hx hb dX11_hears_5 rfl (lv_at hl 0 rfl) ?_
      refine lv_if_le (tgt := 41) hx hb dX11_hears_6 (by decide) (fun c6 => ?_) (fun c6 => ?_)
      · have hF := q_brp c6 hF
        exact hK5 i1 i2 H locs ls hF hP hD hS (lv_sub hl [0, 1, 2] rfl)
      · have hF := q_brn c6 hF
        refine lv_aload_n hx hb dX11_hears_9 rfl (lv_at hl 1 rfl) ?_
        refine va_get (D := E.1) (ci := 13) (v := .ref (a (o + 7))) (C := RX11) (T := TX11) (N := 18) hx hb ha in_X11 hown hst.k hP 0 rfl rfl 12 (by decide) (ha _ mw1648) (fun _ h9 => h9) rfl dX11_hears_10 ?_
        refine lv_iload_n hx hb dX11_hears_13 rfl (lv_at hl 0 rfl) ?_
        refine lv_iconst (v := 1) hx hb dX11_hears_14 (by decide) ?_
        refine lv_isub hx hb dX11_hears_15 ?_
        obtain ⟨g5, hF⟩ := q_gdi hF
        refine vi_iald hx hb hst.k hP 7 0 rfl rfl (f := i2) (k := (i1 - 1).toNatClampNeg) rfl g5 dX11_hears_16 ?_
        refine lv_iload_n hx hb dX11_hears_17 rfl (lv_at hl 2 rfl) ?_
        refine lv_icmp_le (tgt := 41) hx hb dX11_hears_18 (by decide) (fun c18 => ?_) (fun c18 => ?_)
        · have hF := q_brp c18 hF
          exact hK5 i1 i2 H locs ls hF hP hD hS (lv_sub hl [0, 1, 2] rfl)
        · have hF := q_brn c18 hF
          refine lv_aload_n hx hb dX11_hears_21 rfl (lv_at hl 1 rfl) ?_
          refine va_get (D := E.1) (ci := 13) (v := .ref (a (o + 7))) (C := RX11) (T := TX11) (N := 18) hx hb ha in_X11 hown hst.k hP 0 rfl rfl 12 (by decide) (ha _ mw1648) (fun _ h9 => h9) rfl dX11_hears_22 ?_
          refine lv_iload_n hx hb dX11_hears_25 rfl (lv_at hl 0 rfl) ?_
          refine lv_aload_n hx hb dX11_hears_26 rfl (lv_at hl 1 rfl) ?_
          refine va_get (D := E.1) (ci := 13) (v := .ref (a (o + 7))) (C := RX11) (T := TX11) (N := 18) hx hb ha in_X11 hown hst.k hP 0 rfl rfl 12 (by decide) (ha _ mw1648) (fun _ h9 => h9) rfl dX11_hears_27 ?_
          refine lv_iload_n hx hb dX11_hears_30 rfl (lv_at hl 0 rfl) ?_
          refine lv_iconst (v := 1) hx hb dX11_hears_31 (by decide) ?_
          refine lv_isub hx hb dX11_hears_32 ?_
          obtain ⟨g6, hF⟩ := q_gdi hF
          refine vi_iald hx hb hst.k hP 7 0 rfl rfl (f := i2) (k := (i1 - 1).toNatClampNeg) rfl g6 dX11_hears_33 ?_
          obtain ⟨g7, hF⟩ := q_gdi hF
          refine vi_iast hx hb hst.k hP hD hS 7 0 rfl rfl (k := i1.toNatClampNeg) rfl g7 dX11_hears_34 (fun H locs hP hD hS => ?_)
          have hP : va_P E.1 vwCl (List.flatten [w_Model E a o (x.1, x.2.1, x.2.2.1, x.2.2.2.1, x.2.2.2.2.1, x.2.2.2.2.2.1, x.2.2.2.2.2.2.1, x.2.2.2.2.2.2.2.1, x.2.2.2.2.2.2.2.2.1, x.2.2.2.2.2.2.2.2.2.1, x.2.2.2.2.2.2.2.2.2.2.1, x.2.2.2.2.2.2.2.2.2.2.2.1, upd i2 (i1.toNatClampNeg) (i2 ((i1 - 1).toNatClampNeg)), x.2.2.2.2.2.2.2.2.2.2.2.2.2.1, x.2.2.2.2.2.2.2.2.2.2.2.2.2.2.1, x.2.2.2.2.2.2.2.2.2.2.2.2.2.2.2.1, x.2.2.2.2.2.2.2.2.2.2.2.2.2.2.2.2.1, x.2.2.2.2.2.2.2.2.2.2.2.2.2.2.2.2.2)]) H := hP
          have hD : va_D A (List.flatten [w_Model E a o (x.1, x.2.1, x.2.2.1, x.2.2.2.1, x.2.2.2.2.1, x.2.2.2.2.2.1, x.2.2.2.2.2.2.1, x.2.2.2.2.2.2.2.1, x.2.2.2.2.2.2.2.2.1, x.2.2.2.2.2.2.2.2.2.1, x.2.2.2.2.2.2.2.2.2.2.1, x.2.2.2.2.2.2.2.2.2.2.2.1, upd i2 (i1.toNatClampNeg) (i2 ((i1 - 1).toNatClampNeg)), x.2.2.2.2.2.2.2.2.2.2.2.2.2.1, x.2.2.2.2.2.2.2.2.2.2.2.2.2.2.1, x.2.2.2.2.2.2.2.2.2.2.2.2.2.2.2.1, x.2.2.2.2.2.2.2.2.2.2.2.2.2.2.2.2.1, x.2.2.2.2.2.2.2.2.2.2.2.2.2.2.2.2.2)]) := hD
          obtain ⟨v8, ev8⟩ : ∃ y : Int32, y = i1 + (-1) := ⟨_, rfl⟩
          have hF := q_lti ev8 hF
          refine lv_iinc (v := v8) (lv' := [(2, .int v8), (0, .ref (a o)), (1, .int p1)]) hx hb dX11_hears_35 hl (k := 0) rfl (by rw [ev8]; rfl) (by decide) rfl (fun ls hl => ?_)
          refine lv_goto (tgt := 5) hx hb dX11_hears_38 (by decide) ?_
          exact ih5 v8 (upd i2 (i1.toNatClampNeg) (i2 ((i1 - 1).toNatClampNeg))) H locs ls hF hP hD hS (lv_sub hl [0, 1, 2] rfl)
  refine key5 _ ?_ _ x.2.2.2.2.2.2.2.2.2.2.2.2.2.1 x.2.2.2.2.2.2.2.2.2.2.2.2.1 H locs ls hF hP hD hS (lv_sub hl [0, 1, 2] rfl)
  intro y3 y4 H locs ls hF hP hD hS hl
  refine lv_aload_n hx hb dX11_hears_41 rfl (lv_at hl 1 rfl) ?_
  refine va_get (D := E.1) (ci := 13) (v := .ref (a (o + 7))) (C := RX11) (T := TX11) (N := 18) hx hb ha in_X11 hown hst.k hP 0 rfl rfl 12 (by decide) (ha _ mw1648) (fun _ h9 => h9) rfl dX11_hears_42 ?_
  refine lv_iload_n hx hb dX11_hears_45 rfl (lv_at hl 0 rfl) ?_
  refine lv_iload_n hx hb dX11_hears_46 rfl (lv_at hl 2 rfl) ?_
  obtain ⟨g9, hF⟩ := q_gdi hF
  refine vi_iast hx hb hst.k hP hD hS 7 0 rfl rfl (k := y3.toNatClampNeg) rfl g9 dX11_hears_47 (fun H locs hP hD hS => ?_)
  have hP : va_P E.1 vwCl (List.flatten [w_Model E a o (x.1, x.2.1, x.2.2.1, x.2.2.2.1, x.2.2.2.2.1, x.2.2.2.2.2.1, x.2.2.2.2.2.2.1, x.2.2.2.2.2.2.2.1, x.2.2.2.2.2.2.2.2.1, x.2.2.2.2.2.2.2.2.2.1, x.2.2.2.2.2.2.2.2.2.2.1, x.2.2.2.2.2.2.2.2.2.2.2.1, upd y4 (y3.toNatClampNeg) p1, x.2.2.2.2.2.2.2.2.2.2.2.2.2.1, x.2.2.2.2.2.2.2.2.2.2.2.2.2.2.1, x.2.2.2.2.2.2.2.2.2.2.2.2.2.2.2.1, x.2.2.2.2.2.2.2.2.2.2.2.2.2.2.2.2.1, x.2.2.2.2.2.2.2.2.2.2.2.2.2.2.2.2.2)]) H := hP
  have hD : va_D A (List.flatten [w_Model E a o (x.1, x.2.1, x.2.2.1, x.2.2.2.1, x.2.2.2.2.1, x.2.2.2.2.2.1, x.2.2.2.2.2.2.1, x.2.2.2.2.2.2.2.1, x.2.2.2.2.2.2.2.2.1, x.2.2.2.2.2.2.2.2.2.1, x.2.2.2.2.2.2.2.2.2.2.1, x.2.2.2.2.2.2.2.2.2.2.2.1, upd y4 (y3.toNatClampNeg) p1, x.2.2.2.2.2.2.2.2.2.2.2.2.2.1, x.2.2.2.2.2.2.2.2.2.2.2.2.2.2.1, x.2.2.2.2.2.2.2.2.2.2.2.2.2.2.2.1, x.2.2.2.2.2.2.2.2.2.2.2.2.2.2.2.2.1, x.2.2.2.2.2.2.2.2.2.2.2.2.2.2.2.2.2)]) := hD
  refine lv_aload_n hx hb dX11_hears_48 rfl (lv_at hl 1 rfl) ?_
  refine lv_dup hx hb dX11_hears_49 rfl ?_
  refine va_get (D := E.1) (ci := 13) (v := .int x.2.2.2.2.2.2.2.2.2.2.2.2.2.1) (C := RX11) (T := TX11) (N := 18) hx hb ha in_X11 hown hst.k hP 0 rfl rfl 13 (by decide) (ha _ mw1649) (fun _ h9 => h9) rfl dX11_hears_50 ?_
  refine lv_iconst (v := 1) hx hb dX11_hears_53 (by decide) ?_
  refine lv_iadd hx hb dX11_hears_54 ?_
  refine va_put (D := E.1) (ci := 13) (v := .int (x.2.2.2.2.2.2.2.2.2.2.2.2.2.1 + 1)) (ty := .int) (C := RX11) (T := TX11) (N := 18) hx hb ha in_X11 tyX11 tyX11_ok nmX11 hown hst.k hP hD hS 0 rfl rfl 13 (by decide) (ha _ mw1649) (fun _ h9 => h9) rfl (tyX11_ok 13 (by decide)) rfl rfl (Nat.le_of_ble_eq_true rfl) dX11_hears_55 (fun H locs hP hD hS => ?_)
  have hP : va_P E.1 vwCl (List.flatten [w_Model E a o (x.1, x.2.1, x.2.2.1, x.2.2.2.1, x.2.2.2.2.1, x.2.2.2.2.2.1, x.2.2.2.2.2.2.1, x.2.2.2.2.2.2.2.1, x.2.2.2.2.2.2.2.2.1, x.2.2.2.2.2.2.2.2.2.1, x.2.2.2.2.2.2.2.2.2.2.1, x.2.2.2.2.2.2.2.2.2.2.2.1, upd y4 (y3.toNatClampNeg) p1, x.2.2.2.2.2.2.2.2.2.2.2.2.2.1 + 1, x.2.2.2.2.2.2.2.2.2.2.2.2.2.2.1, x.2.2.2.2.2.2.2.2.2.2.2.2.2.2.2.1, x.2.2.2.2.2.2.2.2.2.2.2.2.2.2.2.2.1, x.2.2.2.2.2.2.2.2.2.2.2.2.2.2.2.2.2)]) H := hP
  have hD : va_D A (List.flatten [w_Model E a o (x.1, x.2.1, x.2.2.1, x.2.2.2.1, x.2.2.2.2.1, x.2.2.2.2.2.1, x.2.2.2.2.2.2.1, x.2.2.2.2.2.2.2.1, x.2.2.2.2.2.2.2.2.1, x.2.2.2.2.2.2.2.2.2.1, x.2.2.2.2.2.2.2.2.2.2.1, x.2.2.2.2.2.2.2.2.2.2.2.1, upd y4 (y3.toNatClampNeg) p1, x.2.2.2.2.2.2.2.2.2.2.2.2.2.1 + 1, x.2.2.2.2.2.2.2.2.2.2.2.2.2.2.1, x.2.2.2.2.2.2.2.2.2.2.2.2.2.2.2.1, x.2.2.2.2.2.2.2.2.2.2.2.2.2.2.2.2.1, x.2.2.2.2.2.2.2.2.2.2.2.2.2.2.2.2.2)]) := hD
  obtain rfl := Option.some.inj hF
  exact en_v hQ (Nat.le_of_ble_eq_true rfl) (Nat.le_of_ble_eq_true rfl) hx hb hr hlocks hP hD hS dX11_hears_58

/-! X11_hearsTones -/
theorem dX11_hearsTones_0 : decode cX11_hearsTones 0 = .ok (.iconst 0, 1) := by decide +kernel
theorem dX11_hearsTones_1 : decode cX11_hearsTones 1 = .ok (.istore_n 3, 1) := by decide +kernel
theorem dX11_hearsTones_2 : decode cX11_hearsTones 2 = .ok (.iload_n 3, 1) := by decide +kernel
theorem dX11_hearsTones_3 : decode cX11_hearsTones 3 = .ok (.iconst 4, 1) := by decide +kernel
theorem dX11_hearsTones_4 : decode cX11_hearsTones 4 = .ok (.if_icmp .ge 69, 3) := by decide +kernel
theorem dX11_hearsTones_7 : decode cX11_hearsTones 7 = .ok (.iload_n 1, 1) := by decide +kernel
theorem dX11_hearsTones_8 : decode cX11_hearsTones 8 = .ok (.aload_n 0, 1) := by decide +kernel
theorem dX11_hearsTones_9 : decode cX11_hearsTones 9 = .ok (.getfield 7, 3) := by decide +kernel
theorem dX11_hearsTones_12 : decode cX11_hearsTones 12 = .ok (.bipush 29, 2) := by decide +kernel
theorem dX11_hearsTones_14 : decode cX11_hearsTones 14 = .ok (.iload_n 3, 1) := by decide +kernel
theorem dX11_hearsTones_15 : decode cX11_hearsTones 15 = .ok (.iadd, 1) := by decide +kernel
theorem dX11_hearsTones_16 : decode cX11_hearsTones 16 = .ok (.iaload, 1) := by decide +kernel
theorem dX11_hearsTones_17 : decode cX11_hearsTones 17 = .ok (.isub, 1) := by decide +kernel
theorem dX11_hearsTones_18 : decode cX11_hearsTones 18 = .ok (.istore 4, 2) := by decide +kernel
theorem dX11_hearsTones_20 : decode cX11_hearsTones 20 = .ok (.iload_n 1, 1) := by decide +kernel
theorem dX11_hearsTones_21 : decode cX11_hearsTones 21 = .ok (.iconst 0, 1) := by decide +kernel
theorem dX11_hearsTones_22 : decode cX11_hearsTones 22 = .ok (.bipush 31, 2) := by decide +kernel
theorem dX11_hearsTones_24 : decode cX11_hearsTones 24 = .ok (.invokestatic 52, 3) := by decide +kernel
theorem dX11_hearsTones_27 : decode cX11_hearsTones 27 = .ok (.ifCond .eq 40, 3) := by decide +kernel
theorem dX11_hearsTones_30 : decode cX11_hearsTones 30 = .ok (.iload 4, 2) := by decide +kernel
theorem dX11_hearsTones_32 : decode cX11_hearsTones 32 = .ok (.iconst 0, 1) := by decide +kernel
theorem dX11_hearsTones_33 : decode cX11_hearsTones 33 = .ok (.aload_n 0, 1) := by decide +kernel
theorem dX11_hearsTones_34 : decode cX11_hearsTones 34 = .ok (.getfield 7, 3) := by decide +kernel
theorem dX11_hearsTones_37 : decode cX11_hearsTones 37 = .ok (.bipush 33, 2) := by decide +kernel
theorem dX11_hearsTones_39 : decode cX11_hearsTones 39 = .ok (.iload_n 3, 1) := by decide +kernel
theorem dX11_hearsTones_40 : decode cX11_hearsTones 40 = .ok (.iadd, 1) := by decide +kernel
theorem dX11_hearsTones_41 : decode cX11_hearsTones 41 = .ok (.iaload, 1) := by decide +kernel
theorem dX11_hearsTones_42 : decode cX11_hearsTones 42 = .ok (.iconst 1, 1) := by decide +kernel
theorem dX11_hearsTones_43 : decode cX11_hearsTones 43 = .ok (.isub, 1) := by decide +kernel
theorem dX11_hearsTones_44 : decode cX11_hearsTones 44 = .ok (.invokestatic 52, 3) := by decide +kernel
theorem dX11_hearsTones_47 : decode cX11_hearsTones 47 = .ok (.ifCond .eq 20, 3) := by decide +kernel
theorem dX11_hearsTones_50 : decode cX11_hearsTones 50 = .ok (.aload_n 0, 1) := by decide +kernel
theorem dX11_hearsTones_51 : decode cX11_hearsTones 51 = .ok (.aload_n 0, 1) := by decide +kernel
theorem dX11_hearsTones_52 : decode cX11_hearsTones 52 = .ok (.aload_n 0, 1) := by decide +kernel
theorem dX11_hearsTones_53 : decode cX11_hearsTones 53 = .ok (.iload_n 3, 1) := by decide +kernel
theorem dX11_hearsTones_54 : decode cX11_hearsTones 54 = .ok (.iload 4, 2) := by decide +kernel
theorem dX11_hearsTones_56 : decode cX11_hearsTones 56 = .ok (.invokevirtual 150, 3) := by decide +kernel
theorem dX11_hearsTones_59 : decode cX11_hearsTones 59 = .ok (.invokevirtual 60, 3) := by decide +kernel
theorem dX11_hearsTones_62 : decode cX11_hearsTones 62 = .ok (.iload_n 2, 1) := by decide +kernel
theorem dX11_hearsTones_63 : decode cX11_hearsTones 63 = .ok (.iadd, 1) := by decide +kernel
theorem dX11_hearsTones_64 : decode cX11_hearsTones 64 = .ok (.invokevirtual 160, 3) := by decide +kernel
theorem dX11_hearsTones_67 : decode cX11_hearsTones 67 = .ok (.iinc 3 1, 3) := by decide +kernel
theorem dX11_hearsTones_70 : decode cX11_hearsTones 70 = .ok (.goto (-68), 3) := by decide +kernel
theorem dX11_hearsTones_73 : decode cX11_hearsTones 73 = .ok (.return_, 1) := by decide +kernel
def f_X11_hearsTones_L2 (x_g : (Nat → Int32)) (p1 : Int32) (p2 : Int32) : Nat → Int32 → (Nat → Int32) → Int32 → Option ((Nat → Int32) × Int32)
  | 0, _, _, _ => none
  | n2 + 1, i1, i2, i3 =>
    q_br (4 ≤ i1) (
  some (i2, i3)) (
  q_gd (q_in (29 + i1) 77) (
  q_lt (p1 - (x_g ((29 + i1).toNatClampNeg)) : Int32) (fun v5 =>
  q_bd (f_X11_in p1 0 31) (fun q6 =>
  q_lt (fun (j7 : (Nat → Int32)) (j8 : Int32) =>
  q_lt (i1 + 1 : Int32) (fun v9 =>
  f_X11_hearsTones_L2 x_g p1 p2 n2 v9 j7 j8)) (fun (J67 : (Nat → Int32) → Int32 → Option ((Nat → Int32) × Int32)) =>
  q_br (q6 = 0) (
  J67 i2 i3) (
  q_gd (q_in (33 + i1) 77) (
  q_bd (f_X11_in v5 0 ((x_g ((33 + i1).toNatClampNeg)) - 1)) (fun q11 =>
  q_br (q11 = 0) (
  J67 i2 i3) (
  q_bd (f_X11_toneAt x_g i1 v5) (fun q12 =>
  q_bd (f_X11_noteOf x_g q12) (fun q13 =>
  q_bd (f_X11_hears i2 i3 (q13 + p2)) (fun q14 =>
  J67 q14.1 q14.2))))))))))))
def f_X11_hearsTones (x_g : (Nat → Int32)) (x_notes : (Nat → Int32)) (x_noteCount : Int32) (p1 : Int32) (p2 : Int32) : Option ((Nat → Int32) × Int32) :=
  f_X11_hearsTones_L2 x_g p1 p2 2000 0 x_notes x_noteCount
theorem hv_X11_hearsTones : yX11_hearsTones.cls = RX11 ∧ yX11_hearsTones.cls ≠ "java/lang/invoke/MethodHandle" ∧ yX11_hearsTones.cls ≠ "java/lang/invoke/VarHandle" ∧ (parseMethodDescriptor yX11_hearsTones.desc).map (fun d => d.parameters.length) = some 2 := by decide +kernel
abbrev rm_X11_hearsTones : Room := { frames := 1, cells := 0, slots := 0, locals := 22 }
set_option maxHeartbeats 4000000 in
set_option maxRecDepth 100000 in
theorem k_X11_hearsTones (l : Launch) (E : ET) (a : Nat → Nat) (o : Nat) (x : Model_t) (p1 : Int32) (p2 : Int32) (res : (Nat → Int32) × Int32) (hF : f_X11_hearsTones x.1 x.2.2.2.2.2.2.2.2.2.2.2.2.1 x.2.2.2.2.2.2.2.2.2.2.2.2.2.1 p1 p2 = some res) (sz : Nat) : CtV l yX11_hearsTones (mws yX11_hearsTones cX11_hearsTones 5 none) rm_X11_hearsTones 0 0 [.ref (a o), .int p1, .int p2] E (bl_Model E a o x) (bl_Model E a o (x.1, x.2.1, x.2.2.1, x.2.2.2.1, x.2.2.2.2.1, x.2.2.2.2.2.1, x.2.2.2.2.2.2.1, x.2.2.2.2.2.2.2.1, x.2.2.2.2.2.2.2.2.1, x.2.2.2.2.2.2.2.2.2.1, x.2.2.2.2.2.2.2.2.2.2.1, x.2.2.2.2.2.2.2.2.2.2.2.1, res.1, res.2, x.2.2.2.2.2.2.2.2.2.2.2.2.2.2.1, x.2.2.2.2.2.2.2.2.2.2.2.2.2.2.2.1, x.2.2.2.2.2.2.2.2.2.2.2.2.2.2.2.2.1, x.2.2.2.2.2.2.2.2.2.2.2.2.2.2.2.2.2)) sz := by
  refine mk_M (by decide +kernel) (Nat.le_of_ble_eq_true rfl) ?_
  intro p e s m below meth c A args Q ls hAe hsz hQ hx hb hr hml hin ha hown hlocks hA hz hzs hst hP hD hS hl
  have hown : s.vm.findClass RX11 = some m.cls := hown
  rw [hAe] at hQ
  subst hsz
  have hP : va_P E.1 vwCl (List.flatten [w_Model E a o x]) s.heap := hP
  have hD : va_D A (List.flatten [w_Model E a o x]) := hD
  have hl : lv_has ls 5 [(0, .ref (a o)), (1, .int p1), (2, .int p2)] := hl
  generalize hHe : s.heap = H at hP
  have hS : va_S A s.heap H [] := by rw [← hHe]; exact hS
  generalize ([] : List Loc) = locs at hS ⊢
  unfold f_X11_hearsTones at hF
  refine lv_iconst (v := 0) hx hb dX11_hearsTones_0 (by decide) ?_
  refine lv_istore_n (lv' := [(3, .int 0), (0, .ref (a o)), (1, .int p1), (2, .int p2)]) hx hb dX11_hearsTones_1 rfl hl (by decide) rfl (fun ls hl => ?_)
  have key2 : ∀ (n : Nat) (i1 : Int32) (i2 : (Nat → Int32)) (i3 : Int32) (H : Heap) (locs : List Loc) (ls : Array Slot), f_X11_hearsTones_L2 x.1 p1 p2 n i1 i2 i3 = some res → va_P E.1 vwCl (List.flatten [w_Model E a o (x.1, x.2.1, x.2.2.1, x.2.2.2.1, x.2.2.2.2.1, x.2.2.2.2.2.1, x.2.2.2.2.2.2.1, x.2.2.2.2.2.2.2.1, x.2.2.2.2.2.2.2.2.1, x.2.2.2.2.2.2.2.2.2.1, x.2.2.2.2.2.2.2.2.2.2.1, x.2.2.2.2.2.2.2.2.2.2.2.1, i2, i3, x.2.2.2.2.2.2.2.2.2.2.2.2.2.2.1, x.2.2.2.2.2.2.2.2.2.2.2.2.2.2.2.1, x.2.2.2.2.2.2.2.2.2.2.2.2.2.2.2.2.1, x.2.2.2.2.2.2.2.2.2.2.2.2.2.2.2.2.2)]) H → va_D A (List.flatten [w_Model E a o (x.1, x.2.1, x.2.2.1, x.2.2.2.1, x.2.2.2.2.1, x.2.2.2.2.2.1, x.2.2.2.2.2.2.1, x.2.2.2.2.2.2.2.1, x.2.2.2.2.2.2.2.2.1, x.2.2.2.2.2.2.2.2.2.1, x.2.2.2.2.2.2.2.2.2.2.1, x.2.2.2.2.2.2.2.2.2.2.2.1, i2, i3, x.2.2.2.2.2.2.2.2.2.2.2.2.2.2.1, x.2.2.2.2.2.2.2.2.2.2.2.2.2.2.2.1, x.2.2.2.2.2.2.2.2.2.2.2.2.2.2.2.2.1, x.2.2.2.2.2.2.2.2.2.2.2.2.2.2.2.2.2)]) → va_S A s.heap H locs → lv_has ls 5 [(3, .int i1), (0, .ref (a o)), (1, .int p1), (2, .int p2)] → W p l e rm_X11_hearsTones s m args below meth c H locs 0 0 Q (F0 m 2 ls []) := by
    intro n2
    induction n2 with
    | zero => intro i1 i2 i3 H locs ls hF; exact absurd hF (by simp [f_X11_hearsTones_L2])
    | succ n2 ih2 =>
      intro i1 i2 i3 H locs ls hF hP hD hS hl
      rw [f_X11_hearsTones_L2] at hF
      refine lv_iload_n hx hb dX11_hearsTones_2 rfl (lv_at hl 0 rfl) ?_
      refine lv_iconst (v := 4) hx hb dX11_hearsTones_3 (by decide) ?_
      refine lv_icmp_ge (tgt := 73) hx hb dX11_hearsTones_4 (by decide) (fun c4 => ?_) (fun c4 => ?_)
      · have hF := q_brp c4 hF
        obtain rfl := Option.some.inj hF
        exact en_v hQ (Nat.le_of_ble_eq_true rfl) (Nat.le_of_ble_eq_true rfl) hx hb hr hlocks hP hD hS dX11_hearsTones_73
      · have hF := q_brn c4 hF
        refine lv_iload_n hx hb dX11_hearsTones_7 rfl (lv_at hl 2 rfl) ?_
        refine lv_aload_n hx hb dX11_hearsTones_8 rfl (lv_at hl 1 rfl) ?_
        refine va_get (D := E.1) (ci := 13) (v := .ref (a (o + 1))) (C := RX11) (T := TX11) (N := 18) hx hb ha in_X11 hown hst.k hP 0 rfl rfl 0 (by decide) (ha _ mw1636) (fun _ h9 => h9) rfl dX11_hearsTones_9 ?_
        refine lv_bipush (v := 29) hx hb dX11_hearsTones_12 (by decide) ?_
        refine lv_iload_n hx hb dX11_hearsTones_14 rfl (lv_at hl 0 rfl) ?_
        refine lv_iadd hx hb dX11_hearsTones_15 ?_
        obtain ⟨g4, hF⟩ := q_gdi hF
        refine vi_iald hx hb hst.k hP 1 0 rfl rfl (f := x.1) (k := (29 + i1).toNatClampNeg) rfl g4 dX11_hearsTones_16 ?_
        refine lv_isub hx hb dX11_hearsTones_17 ?_
        refine lv_topi (fun v5 ev5 => ?_)
        have hF := q_lti ev5 hF
        refine lv_istore (lv' := [(4, .int v5), (3, .int i1), (0, .ref (a o)), (1, .int p1), (2, .int p2)]) hx hb dX11_hearsTones_18 hl (by decide) rfl (fun ls hl => ?_)
        refine lv_iload_n hx hb dX11_hearsTones_20 rfl (lv_at hl 3 rfl) ?_
        refine lv_iconst (v := 0) hx hb dX11_hearsTones_21 (by decide) ?_
        refine lv_bipush (v := 31) hx hb dX11_hearsTones_22 (by decide) ?_
        obtain ⟨q6, hq6, hF⟩ := q_bdi hF
        refine cl_i (Lc := []) (Lc' := []) (L' := [w_Model E a o (x.1, x.2.1, x.2.2.1, x.2.2.2.1, x.2.2.2.2.1, x.2.2.2.2.2.1, x.2.2.2.2.2.2.1, x.2.2.2.2.2.2.2.1, x.2.2.2.2.2.2.2.2.1, x.2.2.2.2.2.2.2.2.2.1, x.2.2.2.2.2.2.2.2.2.2.1, x.2.2.2.2.2.2.2.2.2.2.2.1, i2, i3, x.2.2.2.2.2.2.2.2.2.2.2.2.2.2.1, x.2.2.2.2.2.2.2.2.2.2.2.2.2.2.2.1, x.2.2.2.2.2.2.2.2.2.2.2.2.2.2.2.2.1, x.2.2.2.2.2.2.2.2.2.2.2.2.2.2.2.2.2)]) (rv := q6) (va_runS (As := [.int p1, .int 0, .int 31]) (rest := []) ⟨hx, hb, hml, hown, ha⟩ (k_X11_in l E p1 0 31 q6 hq6 H.size) (cwS 3 ha (gi_S (fun _ h => h) mw1713 mw1714 mw87 mw1715) rfl rfl rfl hv_X11_in ⟨(Nat.le_of_ble_eq_true rfl), (Nat.le_of_ble_eq_true rfl)⟩) ⟨pre_blind, pre_at hP hD hS hz hzs hst [] (by decide) rfl rfl⟩ rfl rfl hl.1 rfl (lv_room (Nat.le_of_ble_eq_true rfl)) dX11_hearsTones_24 ⟨(Nat.le_of_ble_eq_true rfl), (Nat.le_of_ble_eq_true rfl)⟩) hP hD hS hA [] (by decide) rfl rfl rfl rfl (fun H locs hP hD hS => ?_)
        obtain ⟨J67, hJ67, hF⟩ := q_jn hF
        have jJ67 : ∀ (j7 : (Nat → Int32)) (j8 : Int32), ∀ (H : Heap) (locs : List Loc) (ls : Array Slot), J67 j7 j8 = some res → va_P E.1 vwCl (List.flatten [w_Model E a o (x.1, x.2.1, x.2.2.1, x.2.2.2.1, x.2.2.2.2.1, x.2.2.2.2.2.1, x.2.2.2.2.2.2.1, x.2.2.2.2.2.2.2.1, x.2.2.2.2.2.2.2.2.1, x.2.2.2.2.2.2.2.2.2.1, x.2.2.2.2.2.2.2.2.2.2.1, x.2.2.2.2.2.2.2.2.2.2.2.1, j7, j8, x.2.2.2.2.2.2.2.2.2.2.2.2.2.2.1, x.2.2.2.2.2.2.2.2.2.2.2.2.2.2.2.1, x.2.2.2.2.2.2.2.2.2.2.2.2.2.2.2.2.1, x.2.2.2.2.2.2.2.2.2.2.2.2.2.2.2.2.2)]) H → va_D A (List.flatten [w_Model E a o (x.1, x.2.1, x.2.2.1, x.2.2.2.1, x.2.2.2.2.1, x.2.2.2.2.2.1, x.2.2.2.2.2.2.1, x.2.2.2.2.2.2.2.1, x.2.2.2.2.2.2.2.2.1, x.2.2.2.2.2.2.2.2.2.1, x.2.2.2.2.2.2.2.2.2.2.1, x.2.2.2.2.2.2.2.2.2.2.2.1, j7, j8, x.2.2.2.2.2.2.2.2.2.2.2.2.2.2.1, x.2.2.2.2.2.2.2.2.2.2.2.2.2.2.2.1, x.2.2.2.2.2.2.2.2.2.2.2.2.2.2.2.2.1, x.2.2.2.2.2.2.2.2.2.2.2.2.2.2.2.2.2)]) → va_S A s.heap H locs → lv_has ls 5 [(3, .int i1), (0, .ref (a o)), (1, .int p1), (2, .int p2)] → W p l e rm_X11_hearsTones s m args below meth c H locs 0 0 Q (F0 m 67 ls []) := by
          intro j7 j8 H locs ls hF hP hD hS hl
          rw [hJ67] at hF
          obtain ⟨v9, ev9⟩ : ∃ y : Int32, y = i1 + 1 := ⟨_, rfl⟩
          have hF := q_lti ev9 hF
          refine lv_iinc (v := v9) (lv' := [(3, .int v9), (0, .ref (a o)), (1, .int p1), (2, .int p2)]) hx hb dX11_hearsTones_67 hl (k := 0) rfl (by rw [ev9]; rfl) (by decide) rfl (fun ls hl => ?_)
          refine lv_goto (tgt := 2) hx hb dX11_hearsTones_70 (by decide) ?_
          exact ih2 v9 j7 j8 H locs ls hF hP hD hS (lv_sub hl [0, 1, 2, 3] rfl)
        refine lv_if_eq (tgt := 67) hx hb dX11_hearsTones_27 (by decide) (fun c27 => ?_) (fun c27 => ?_)
        · have hF := q_brp c27 hF
          exact jJ67 i2 i3 H locs ls hF hP hD hS (lv_sub hl [1, 2, 3, 4] rfl)
        · have hF := q_brn c27 hF
          refine lv_iload hx hb dX11_hearsTones_30 (lv_at hl 0 rfl) ?_
          refine lv_iconst (v := 0) hx hb dX11_hearsTones_32 (by decide) ?_
          refine lv_aload_n hx hb dX11_hearsTones_33 rfl (lv_at hl 2 rfl) ?_
          refine va_get (D := E.1) (ci := 13) (v := .ref (a (o + 1))) (C := RX11) (T := TX11) (N := 18) hx hb ha in_X11 hown hst.k hP 0 rfl rfl 0 (by decide) (ha _ mw1636) (fun _ h9 => h9) rfl dX11_hearsTones_34 ?_
          refine lv_bipush (v := 33) hx hb dX11_hearsTones_37 (by decide) ?_
          refine lv_iload_n hx hb dX11_hearsTones_39 rfl (lv_at hl 1 rfl) ?_
          refine lv_iadd hx hb dX11_hearsTones_40 ?_
          obtain ⟨g10, hF⟩ := q_gdi hF
          refine vi_iald hx hb hst.k hP 1 0 rfl rfl (f := x.1) (k := (33 + i1).toNatClampNeg) rfl g10 dX11_hearsTones_41 ?_
          refine lv_iconst (v := 1) hx hb dX11_hearsTones_42 (by decide) ?_
          refine lv_isub hx hb dX11_hearsTones_43 ?_
          obtain ⟨q11, hq11, hF⟩ := q_bdi hF
          refine cl_i (Lc := []) (Lc' := []) (L' := [w_Model E a o (x.1, x.2.1, x.2.2.1, x.2.2.2.1, x.2.2.2.2.1, x.2.2.2.2.2.1, x.2.2.2.2.2.2.1, x.2.2.2.2.2.2.2.1, x.2.2.2.2.2.2.2.2.1, x.2.2.2.2.2.2.2.2.2.1, x.2.2.2.2.2.2.2.2.2.2.1, x.2.2.2.2.2.2.2.2.2.2.2.1, i2, i3, x.2.2.2.2.2.2.2.2.2.2.2.2.2.2.1, x.2.2.2.2.2.2.2.2.2.2.2.2.2.2.2.1, x.2.2.2.2.2.2.2.2.2.2.2.2.2.2.2.2.1, x.2.2.2.2.2.2.2.2.2.2.2.2.2.2.2.2.2)]) (rv := q11) (va_runS (As := [.int v5, .int 0, .int ((x.1 ((33 + i1).toNatClampNeg)) - 1)]) (rest := []) ⟨hx, hb, hml, hown, ha⟩ (k_X11_in l E v5 0 ((x.1 ((33 + i1).toNatClampNeg)) - 1) q11 hq11 H.size) (cwS 3 ha (gi_S (fun _ h => h) mw1713 mw1714 mw87 mw1715) rfl rfl rfl hv_X11_in ⟨(Nat.le_of_ble_eq_true rfl), (Nat.le_of_ble_eq_true rfl)⟩) ⟨pre_blind, pre_at hP hD hS hz hzs hst [] (by decide) rfl rfl⟩ rfl rfl hl.1 rfl (lv_room (Nat.le_of_ble_eq_true rfl)) dX11_hearsTones_44 ⟨(Nat.le_of_ble_eq_true rfl), (Nat.le_of_ble_eq_true rfl)⟩) hP hD hS hA [] (by decide) rfl rfl rfl rfl (fun H locs hP hD hS => ?_)
          refine lv_if_eq (tgt := 67) hx hb dX11_hearsTones_47 (by decide) (fun c47 => ?_) (fun c47 => ?_)
          · have hF := q_brp c47 hF
            exact jJ67 i2 i3 H locs ls hF hP hD hS (lv_sub hl [1, 2, 3, 4] rfl)
          · have hF := q_brn c47 hF
            refine lv_aload_n hx hb dX11_hearsTones_50 rfl (lv_at hl 2 rfl) ?_
            refine lv_aload_n hx hb dX11_hearsTones_51 rfl (lv_at hl 2 rfl) ?_
            refine lv_aload_n hx hb dX11_hearsTones_52 rfl (lv_at hl 2 rfl) ?_
            refine lv_iload_n hx hb dX11_hearsTones_53 rfl (lv_at hl 1 rfl) ?_
            refine lv_iload hx hb dX11_hearsTones_54 (lv_at hl 0 rfl) ?_
            obtain ⟨q12, hq12, hF⟩ := q_bdi hF
            refine cl_i (Lc := [w_Model E a o (x.1, x.2.1, x.2.2.1, x.2.2.2.1, x.2.2.2.2.1, x.2.2.2.2.2.1, x.2.2.2.2.2.2.1, x.2.2.2.2.2.2.2.1, x.2.2.2.2.2.2.2.2.1, x.2.2.2.2.2.2.2.2.2.1, x.2.2.2.2.2.2.2.2.2.2.1, x.2.2.2.2.2.2.2.2.2.2.2.1, i2, i3, x.2.2.2.2.2.2.2.2.2.2.2.2.2.2.1, x.2.2.2.2.2.2.2.2.2.2.2.2.2.2.2.1, x.2.2.2.2.2.2.2.2.2.2.2.2.2.2.2.2.1, x.2.2.2.2.2.2.2.2.2.2.2.2.2.2.2.2.2)]) (Lc' := [w_Model E a o (x.1, x.2.1, x.2.2.1, x.2.2.2.1, x.2.2.2.2.1, x.2.2.2.2.2.1, x.2.2.2.2.2.2.1, x.2.2.2.2.2.2.2.1, x.2.2.2.2.2.2.2.2.1, x.2.2.2.2.2.2.2.2.2.1, x.2.2.2.2.2.2.2.2.2.2.1, x.2.2.2.2.2.2.2.2.2.2.2.1, i2, i3, x.2.2.2.2.2.2.2.2.2.2.2.2.2.2.1, x.2.2.2.2.2.2.2.2.2.2.2.2.2.2.2.1, x.2.2.2.2.2.2.2.2.2.2.2.2.2.2.2.2.1, x.2.2.2.2.2.2.2.2.2.2.2.2.2.2.2.2.2)]) (L' := [w_Model E a o (x.1, x.2.1, x.2.2.1, x.2.2.2.1, x.2.2.2.2.1, x.2.2.2.2.2.1, x.2.2.2.2.2.2.1, x.2.2.2.2.2.2.2.1, x.2.2.2.2.2.2.2.2.1, x.2.2.2.2.2.2.2.2.2.1, x.2.2.2.2.2.2.2.2.2.2.1, x.2.2.2.2.2.2.2.2.2.2.2.1, i2, i3, x.2.2.2.2.2.2.2.2.2.2.2.2.2.2.1, x.2.2.2.2.2.2.2.2.2.2.2.2.2.2.2.1, x.2.2.2.2.2.2.2.2.2.2.2.2.2.2.2.2.1, x.2.2.2.2.2.2.2.2.2.2.2.2.2.2.2.2.2)]) (rv := q12) (va_runV (As := [.int i1, .int v5]) (rest := [.ref (a o), .ref (a o)]) ⟨hx, hb, hml, hown, ha⟩ (k_X11_toneAt l E a o (x.1, x.2.1, x.2.2.1, x.2.2.2.1, x.2.2.2.2.1, x.2.2.2.2.2.1, x.2.2.2.2.2.2.1, x.2.2.2.2.2.2.2.1, x.2.2.2.2.2.2.2.2.1, x.2.2.2.2.2.2.2.2.2.1, x.2.2.2.2.2.2.2.2.2.2.1, x.2.2.2.2.2.2.2.2.2.2.2.1, i2, i3, x.2.2.2.2.2.2.2.2.2.2.2.2.2.2.1, x.2.2.2.2.2.2.2.2.2.2.2.2.2.2.2.1, x.2.2.2.2.2.2.2.2.2.2.2.2.2.2.2.2.1, x.2.2.2.2.2.2.2.2.2.2.2.2.2.2.2.2.2) i1 v5 q12 hq12 H.size) (cwV 2 ha (gi_V (fun _ h => h) mw1938 mw1940 mw52 mw87 mw1941) rfl rfl rfl hv_X11_toneAt ⟨(Nat.le_of_ble_eq_true rfl), (Nat.le_of_ble_eq_true rfl)⟩) ⟨pre_blind, va_recv hst.k (fr_P hP [0] rfl) (ci := 13) (q0 := 0) rfl rfl, pre_at hP hD hS hz hzs hst [0] (by decide) rfl rfl⟩ rfl rfl hl.1 rfl (lv_room (Nat.le_of_ble_eq_true rfl)) dX11_hearsTones_56 ⟨(Nat.le_of_ble_eq_true rfl), (Nat.le_of_ble_eq_true rfl)⟩) hP hD hS hA [0] (by decide) rfl rfl rfl rfl (fun H locs hP hD hS => ?_)
            obtain ⟨q13, hq13, hF⟩ := q_bdi hF
            refine cl_i (Lc := [w_Model E a o (x.1, x.2.1, x.2.2.1, x.2.2.2.1, x.2.2.2.2.1, x.2.2.2.2.2.1, x.2.2.2.2.2.2.1, x.2.2.2.2.2.2.2.1, x.2.2.2.2.2.2.2.2.1, x.2.2.2.2.2.2.2.2.2.1, x.2.2.2.2.2.2.2.2.2.2.1, x.2.2.2.2.2.2.2.2.2.2.2.1, i2, i3, x.2.2.2.2.2.2.2.2.2.2.2.2.2.2.1, x.2.2.2.2.2.2.2.2.2.2.2.2.2.2.2.1, x.2.2.2.2.2.2.2.2.2.2.2.2.2.2.2.2.1, x.2.2.2.2.2.2.2.2.2.2.2.2.2.2.2.2.2)]) (Lc' := [w_Model E a o (x.1, x.2.1, x.2.2.1, x.2.2.2.1, x.2.2.2.2.1, x.2.2.2.2.2.1, x.2.2.2.2.2.2.1, x.2.2.2.2.2.2.2.1, x.2.2.2.2.2.2.2.2.1, x.2.2.2.2.2.2.2.2.2.1, x.2.2.2.2.2.2.2.2.2.2.1, x.2.2.2.2.2.2.2.2.2.2.2.1, i2, i3, x.2.2.2.2.2.2.2.2.2.2.2.2.2.2.1, x.2.2.2.2.2.2.2.2.2.2.2.2.2.2.2.1, x.2.2.2.2.2.2.2.2.2.2.2.2.2.2.2.2.1, x.2.2.2.2.2.2.2.2.2.2.2.2.2.2.2.2.2)]) (L' := [w_Model E a o (x.1, x.2.1, x.2.2.1, x.2.2.2.1, x.2.2.2.2.1, x.2.2.2.2.2.1, x.2.2.2.2.2.2.1, x.2.2.2.2.2.2.2.1, x.2.2.2.2.2.2.2.2.1, x.2.2.2.2.2.2.2.2.2.1, x.2.2.2.2.2.2.2.2.2.2.1, x.2.2.2.2.2.2.2.2.2.2.2.1, i2, i3, x.2.2.2.2.2.2.2.2.2.2.2.2.2.2.1, x.2.2.2.2.2.2.2.2.2.2.2.2.2.2.2.1, x.2.2.2.2.2.2.2.2.2.2.2.2.2.2.2.2.1, x.2.2.2.2.2.2.2.2.2.2.2.2.2.2.2.2.2)]) (rv := q13) (va_runV (As := [.int q12]) (rest := [.ref (a o)]) ⟨hx, hb, hml, hown, ha⟩ (k_X11_noteOf l E a o (x.1, x.2.1, x.2.2.1, x.2.2.2.1, x.2.2.2.2.1, x.2.2.2.2.2.1, x.2.2.2.2.2.2.1, x.2.2.2.2.2.2.2.1, x.2.2.2.2.2.2.2.2.1, x.2.2.2.2.2.2.2.2.2.1, x.2.2.2.2.2.2.2.2.2.2.1, x.2.2.2.2.2.2.2.2.2.2.2.1, i2, i3, x.2.2.2.2.2.2.2.2.2.2.2.2.2.2.1, x.2.2.2.2.2.2.2.2.2.2.2.2.2.2.2.1, x.2.2.2.2.2.2.2.2.2.2.2.2.2.2.2.2.1, x.2.2.2.2.2.2.2.2.2.2.2.2.2.2.2.2.2) q12 q13 hq13 H.size) (cwV 1 ha (gi_V (fun _ h => h) mw1776 mw1778 mw40 mw87 mw1779) rfl rfl rfl hv_X11_noteOf ⟨(Nat.le_of_ble_eq_true rfl), (Nat.le_of_ble_eq_true rfl)⟩) ⟨pre_blind, va_recv hst.k (fr_P hP [0] rfl) (ci := 13) (q0 := 0) rfl rfl, pre_at hP hD hS hz hzs hst [0] (by decide) rfl rfl⟩ rfl rfl hl.1 rfl (lv_room (Nat.le_of_ble_eq_true rfl)) dX11_hearsTones_59 ⟨(Nat.le_of_ble_eq_true rfl), (Nat.le_of_ble_eq_true rfl)⟩) hP hD hS hA [0] (by decide) rfl rfl rfl rfl (fun H locs hP hD hS => ?_)
            refine lv_iload_n hx hb dX11_hearsTones_62 rfl (lv_at hl 4 rfl) ?_
            refine lv_iadd hx hb dX11_hearsTones_63 ?_
            obtain ⟨q14, hq14, hF⟩ := q_bdi hF
            refine cl_v (Lc := [w_Model E a o (x.1, x.2.1, x.2.2.1, x.2.2.2.1, x.2.2.2.2.1, x.2.2.2.2.2.1, x.2.2.2.2.2.2.1, x.2.2.2.2.2.2.2.1, x.2.2.2.2.2.2.2.2.1, x.2.2.2.2.2.2.2.2.2.1, x.2.2.2.2.2.2.2.2.2.2.1, x.2.2.2.2.2.2.2.2.2.2.2.1, i2, i3, x.2.2.2.2.2.2.2.2.2.2.2.2.2.2.1, x.2.2.2.2.2.2.2.2.2.2.2.2.2.2.2.1, x.2.2.2.2.2.2.2.2.2.2.2.2.2.2.2.2.1, x.2.2.2.2.2.2.2.2.2.2.2.2.2.2.2.2.2)]) (Lc' := [w_Model E a o (x.1, x.2.1, x.2.2.1, x.2.2.2.1, x.2.2.2.2.1, x.2.2.2.2.2.1, x.2.2.2.2.2.2.1, x.2.2.2.2.2.2.2.1, x.2.2.2.2.2.2.2.2.1, x.2.2.2.2.2.2.2.2.2.1, x.2.2.2.2.2.2.2.2.2.2.1, x.2.2.2.2.2.2.2.2.2.2.2.1, q14.1, q14.2, x.2.2.2.2.2.2.2.2.2.2.2.2.2.2.1, x.2.2.2.2.2.2.2.2.2.2.2.2.2.2.2.1, x.2.2.2.2.2.2.2.2.2.2.2.2.2.2.2.2.1, x.2.2.2.2.2.2.2.2.2.2.2.2.2.2.2.2.2)]) (L' := [w_Model E a o (x.1, x.2.1, x.2.2.1, x.2.2.2.1, x.2.2.2.2.1, x.2.2.2.2.2.1, x.2.2.2.2.2.2.1, x.2.2.2.2.2.2.2.1, x.2.2.2.2.2.2.2.2.1, x.2.2.2.2.2.2.2.2.2.1, x.2.2.2.2.2.2.2.2.2.2.1, x.2.2.2.2.2.2.2.2.2.2.2.1, q14.1, q14.2, x.2.2.2.2.2.2.2.2.2.2.2.2.2.2.1, x.2.2.2.2.2.2.2.2.2.2.2.2.2.2.2.1, x.2.2.2.2.2.2.2.2.2.2.2.2.2.2.2.2.1, x.2.2.2.2.2.2.2.2.2.2.2.2.2.2.2.2.2)]) (va_runV (As := [.int (q13 + p2)]) (rest := []) ⟨hx, hb, hml, hown, ha⟩ (k_X11_hears l E a o (x.1, x.2.1, x.2.2.1, x.2.2.2.1, x.2.2.2.2.1, x.2.2.2.2.2.1, x.2.2.2.2.2.2.1, x.2.2.2.2.2.2.2.1, x.2.2.2.2.2.2.2.2.1, x.2.2.2.2.2.2.2.2.2.1, x.2.2.2.2.2.2.2.2.2.2.1, x.2.2.2.2.2.2.2.2.2.2.2.1, i2, i3, x.2.2.2.2.2.2.2.2.2.2.2.2.2.2.1, x.2.2.2.2.2.2.2.2.2.2.2.2.2.2.2.1, x.2.2.2.2.2.2.2.2.2.2.2.2.2.2.2.2.1, x.2.2.2.2.2.2.2.2.2.2.2.2.2.2.2.2.2) (q13 + p2) q14 hq14 H.size) (cwV 1 ha (gi_V (fun _ h => h) mw1978 mw1980 mw56 mw87 mw1981) rfl rfl rfl hv_X11_hears ⟨(Nat.le_of_ble_eq_true rfl), (Nat.le_of_ble_eq_true rfl)⟩) ⟨pre_blind, va_recv hst.k (fr_P hP [0] rfl) (ci := 13) (q0 := 0) rfl rfl, pre_at hP hD hS hz hzs hst [0] (by decide) rfl rfl⟩ rfl rfl hl.1 rfl (lv_room (Nat.le_of_ble_eq_true rfl)) dX11_hearsTones_64 ⟨(Nat.le_of_ble_eq_true rfl), (Nat.le_of_ble_eq_true rfl)⟩) hP hD hS hA [0] (by decide) rfl rfl rfl rfl (fun H locs hP hD hS => ?_)
            exact jJ67 q14.1 q14.2 H locs ls hF hP hD hS (lv_sub hl [1, 2, 3, 4] rfl)
  exact key2 _ 0 x.2.2.2.2.2.2.2.2.2.2.2.2.1 x.2.2.2.2.2.2.2.2.2.2.2.2.2.1 H locs ls hF hP hD hS (lv_sub hl [0, 1, 2, 3] rfl)

/-! X11_listens -/
theorem dX11_listens_0 : decode cX11_listens 0 = .ok (.aload_n 0, 1) := by decide +kernel
theorem dX11_listens_1 : decode cX11_listens 1 = .ok (.iconst 0, 1) := by decide +kernel
theorem dX11_listens_2 : decode cX11_listens 2 = .ok (.putfield 157, 3) := by decide +kernel
theorem dX11_listens_5 : decode cX11_listens 5 = .ok (.iload_n 1, 1) := by decide +kernel
theorem dX11_listens_6 : decode cX11_listens 6 = .ok (.iconst 0, 1) := by decide +kernel
theorem dX11_listens_7 : decode cX11_listens 7 = .ok (.bipush 31, 2) := by decide +kernel
theorem dX11_listens_9 : decode cX11_listens 9 = .ok (.invokestatic 52, 3) := by decide +kernel
theorem dX11_listens_12 : decode cX11_listens 12 = .ok (.ifCond .eq 51, 3) := by decide +kernel
theorem dX11_listens_15 : decode cX11_listens 15 = .ok (.aload_n 0, 1) := by decide +kernel
theorem dX11_listens_16 : decode cX11_listens 16 = .ok (.iload_n 1, 1) := by decide +kernel
theorem dX11_listens_17 : decode cX11_listens 17 = .ok (.iconst 0, 1) := by decide +kernel
theorem dX11_listens_18 : decode cX11_listens 18 = .ok (.invokevirtual 164, 3) := by decide +kernel
theorem dX11_listens_21 : decode cX11_listens 21 = .ok (.iconst 0, 1) := by decide +kernel
theorem dX11_listens_22 : decode cX11_listens 22 = .ok (.istore_n 2, 1) := by decide +kernel
theorem dX11_listens_23 : decode cX11_listens 23 = .ok (.iload_n 2, 1) := by decide +kernel
theorem dX11_listens_24 : decode cX11_listens 24 = .ok (.aload_n 0, 1) := by decide +kernel
theorem dX11_listens_25 : decode cX11_listens 25 = .ok (.getfield 7, 3) := by decide +kernel
theorem dX11_listens_28 : decode cX11_listens 28 = .ok (.iconst 1, 1) := by decide +kernel
theorem dX11_listens_29 : decode cX11_listens 29 = .ok (.iaload, 1) := by decide +kernel
theorem dX11_listens_30 : decode cX11_listens 30 = .ok (.if_icmp .ge 33, 3) := by decide +kernel
theorem dX11_listens_33 : decode cX11_listens 33 = .ok (.aload_n 0, 1) := by decide +kernel
theorem dX11_listens_34 : decode cX11_listens 34 = .ok (.iload_n 1, 1) := by decide +kernel
theorem dX11_listens_35 : decode cX11_listens 35 = .ok (.aload_n 0, 1) := by decide +kernel
theorem dX11_listens_36 : decode cX11_listens 36 = .ok (.getfield 7, 3) := by decide +kernel
theorem dX11_listens_39 : decode cX11_listens 39 = .ok (.bipush 69, 2) := by decide +kernel
theorem dX11_listens_41 : decode cX11_listens 41 = .ok (.iload_n 2, 1) := by decide +kernel
theorem dX11_listens_42 : decode cX11_listens 42 = .ok (.iadd, 1) := by decide +kernel
theorem dX11_listens_43 : decode cX11_listens 43 = .ok (.iaload, 1) := by decide +kernel
theorem dX11_listens_44 : decode cX11_listens 44 = .ok (.isub, 1) := by decide +kernel
theorem dX11_listens_45 : decode cX11_listens 45 = .ok (.aload_n 0, 1) := by decide +kernel
theorem dX11_listens_46 : decode cX11_listens 46 = .ok (.getfield 7, 3) := by decide +kernel
theorem dX11_listens_49 : decode cX11_listens 49 = .ok (.bipush 73, 2) := by decide +kernel
theorem dX11_listens_51 : decode cX11_listens 51 = .ok (.iload_n 2, 1) := by decide +kernel
theorem dX11_listens_52 : decode cX11_listens 52 = .ok (.iadd, 1) := by decide +kernel
theorem dX11_listens_53 : decode cX11_listens 53 = .ok (.iaload, 1) := by decide +kernel
theorem dX11_listens_54 : decode cX11_listens 54 = .ok (.invokevirtual 164, 3) := by decide +kernel
theorem dX11_listens_57 : decode cX11_listens 57 = .ok (.iinc 2 1, 3) := by decide +kernel
theorem dX11_listens_60 : decode cX11_listens 60 = .ok (.goto (-37), 3) := by decide +kernel
theorem dX11_listens_63 : decode cX11_listens 63 = .ok (.return_, 1) := by decide +kernel
def f_X11_listens_L23 (x_g : (Nat → Int32)) (p1 : Int32) : Nat → Int32 → (Nat → Int32) → Int32 → Option ((Nat → Int32) × Int32)
  | 0, _, _, _ => none
  | n23 + 1, i3, i4, i5 =>
    q_br ((x_g 1) ≤ i3) (
  some (i4, i5)) (
  q_gd (q_in (69 + i3) 77) (
  q_gd (q_in (73 + i3) 77) (
  q_bd (f_X11_hearsTones x_g i4 i5 (p1 - (x_g ((69 + i3).toNatClampNeg))) (x_g ((73 + i3).toNatClampNeg))) (fun q8 =>
  q_lt (i3 + 1 : Int32) (fun v9 =>
  f_X11_listens_L23 x_g p1 n23 v9 q8.1 q8.2)))))
def f_X11_listens (x_g : (Nat → Int32)) (x_notes : (Nat → Int32)) (x_noteCount : Int32) (p1 : Int32) : Option ((Nat → Int32) × Int32) :=
  q_bd (f_X11_in p1 0 31) (fun q1 =>
  q_br (q1 = 0) (
  some (x_notes, 0)) (
  q_bd (f_X11_hearsTones x_g x_notes 0 p1 0) (fun q2 =>
  f_X11_listens_L23 x_g p1 2000 0 q2.1 q2.2)))
theorem hv_X11_listens : yX11_listens.cls = RX11 ∧ yX11_listens.cls ≠ "java/lang/invoke/MethodHandle" ∧ yX11_listens.cls ≠ "java/lang/invoke/VarHandle" ∧ (parseMethodDescriptor yX11_listens.desc).map (fun d => d.parameters.length) = some 1 := by decide +kernel
abbrev rm_X11_listens : Room := { frames := 2, cells := 0, slots := 0, locals := 46 }
set_option maxHeartbeats 4000000 in
set_option maxRecDepth 100000 in
theorem k_X11_listens (l : Launch) (E : ET) (a : Nat → Nat) (o : Nat) (x : Model_t) (p1 : Int32) (res : (Nat → Int32) × Int32) (hF : f_X11_listens x.1 x.2.2.2.2.2.2.2.2.2.2.2.2.1 x.2.2.2.2.2.2.2.2.2.2.2.2.2.1 p1 = some res) (sz : Nat) : CtV l yX11_listens (mws yX11_listens cX11_listens 3 none) rm_X11_listens 0 0 [.ref (a o), .int p1] E (bl_Model E a o x) (bl_Model E a o (x.1, x.2.1, x.2.2.1, x.2.2.2.1, x.2.2.2.2.1, x.2.2.2.2.2.1, x.2.2.2.2.2.2.1, x.2.2.2.2.2.2.2.1, x.2.2.2.2.2.2.2.2.1, x.2.2.2.2.2.2.2.2.2.1, x.2.2.2.2.2.2.2.2.2.2.1, x.2.2.2.2.2.2.2.2.2.2.2.1, res.1, res.2, x.2.2.2.2.2.2.2.2.2.2.2.2.2.2.1, x.2.2.2.2.2.2.2.2.2.2.2.2.2.2.2.1, x.2.2.2.2.2.2.2.2.2.2.2.2.2.2.2.2.1, x.2.2.2.2.2.2.2.2.2.2.2.2.2.2.2.2.2)) sz := by
  refine mk_M (by decide +kernel) (Nat.le_of_ble_eq_true rfl) ?_
  intro p e s m below meth c A args Q ls hAe hsz hQ hx hb hr hml hin ha hown hlocks hA hz hzs hst hP hD hS hl
  have hown : s.vm.findClass RX11 = some m.cls := hown
  rw [hAe] at hQ
  subst hsz
  have hP : va_P E.1 vwCl (List.flatten [w_Model E a o x]) s.heap := hP
  have hD : va_D A (List.flatten [w_Model E a o x]) := hD
  have hl : lv_has ls 3 [(0, .ref (a o)), (1, .int p1)] := hl
  generalize hHe : s.heap = H at hP
  have hS : va_S A s.heap H [] := by rw [← hHe]; exact hS
  generalize ([] : List Loc) = locs at hS ⊢
  unfold f_X11_listens at hF
  refine lv_aload_n hx hb dX11_listens_0 rfl (lv_at hl 0 rfl) ?_
  refine lv_iconst (v := 0) hx hb dX11_listens_1 (by decide) ?_
  refine va_put (D := E.1) (ci := 13) (v := .int 0) (ty := .int) (C := RX11) (T := TX11) (N := 18) hx hb ha in_X11 tyX11 tyX11_ok nmX11 hown hst.k hP hD hS 0 rfl rfl 13 (by decide) (ha _ mw1649) (fun _ h9 => h9) rfl (tyX11_ok 13 (by decide)) rfl rfl (Nat.le_of_ble_eq_true rfl) dX11_listens_2 (fun H locs hP hD hS => ?_)
  have hP : va_P E.1 vwCl (List.flatten [w_Model E a o (x.1, x.2.1, x.2.2.1, x.2.2.2.1, x.2.2.2.2.1, x.2.2.2.2.2.1, x.2.2.2.2.2.2.1, x.2.2.2.2.2.2.2.1, x.2.2.2.2.2.2.2.2.1, x.2.2.2.2.2.2.2.2.2.1, x.2.2.2.2.2.2.2.2.2.2.1, x.2.2.2.2.2.2.2.2.2.2.2.1, x.2.2.2.2.2.2.2.2.2.2.2.2.1, 0, x.2.2.2.2.2.2.2.2.2.2.2.2.2.2.1, x.2.2.2.2.2.2.2.2.2.2.2.2.2.2.2.1, x.2.2.2.2.2.2.2.2.2.2.2.2.2.2.2.2.1, x.2.2.2.2.2.2.2.2.2.2.2.2.2.2.2.2.2)]) H := hP
  have hD : va_D A (List.flatten [w_Model E a o (x.1, x.2.1, x.2.2.1, x.2.2.2.1, x.2.2.2.2.1, x.2.2.2.2.2.1, x.2.2.2.2.2.2.1, x.2.2.2.2.2.2.2.1, x.2.2.2.2.2.2.2.2.1, x.2.2.2.2.2.2.2.2.2.1, x.2.2.2.2.2.2.2.2.2.2.1, x.2.2.2.2.2.2.2.2.2.2.2.1, x.2.2.2.2.2.2.2.2.2.2.2.2.1, 0, x.2.2.2.2.2.2.2.2.2.2.2.2.2.2.1, x.2.2.2.2.2.2.2.2.2.2.2.2.2.2.2.1, x.2.2.2.2.2.2.2.2.2.2.2.2.2.2.2.2.1, x.2.2.2.2.2.2.2.2.2.2.2.2.2.2.2.2.2)]) := hD
  refine lv_iload_n hx hb dX11_listens_5 rfl (lv_at hl 1 rfl) ?_
  refine lv_iconst (v := 0) hx hb dX11_listens_6 (by decide) ?_
  refine lv_bipush (v := 31) hx hb dX11_listens_7 (by decide) ?_
  obtain ⟨q1, hq1, hF⟩ := q_bdi hF
  refine cl_i (Lc := []) (Lc' := []) (L' := [w_Model E a o (x.1, x.2.1, x.2.2.1, x.2.2.2.1, x.2.2.2.2.1, x.2.2.2.2.2.1, x.2.2.2.2.2.2.1, x.2.2.2.2.2.2.2.1, x.2.2.2.2.2.2.2.2.1, x.2.2.2.2.2.2.2.2.2.1, x.2.2.2.2.2.2.2.2.2.2.1, x.2.2.2.2.2.2.2.2.2.2.2.1, x.2.2.2.2.2.2.2.2.2.2.2.2.1, 0, x.2.2.2.2.2.2.2.2.2.2.2.2.2.2.1, x.2.2.2.2.2.2.2.2.2.2.2.2.2.2.2.1, x.2.2.2.2.2.2.2.2.2.2.2.2.2.2.2.2.1, x.2.2.2.2.2.2.2.2.2.2.2.2.2.2.2.2.2)]) (rv := q1) (va_runS (As := [.int p1, .int 0, .int 31]) (rest := []) ⟨hx, hb, hml, hown, ha⟩ (k_X11_in l E p1 0 31 q1 hq1 H.size) (cwS 3 ha (gi_S (fun _ h => h) mw1713 mw1714 mw87 mw1715) rfl rfl rfl hv_X11_in ⟨(Nat.le_of_ble_eq_true rfl), (Nat.le_of_ble_eq_true rfl)⟩) ⟨pre_blind, pre_at hP hD hS hz hzs hst [] (by decide) rfl rfl⟩ rfl rfl hl.1 rfl (lv_room (Nat.le_of_ble_eq_true rfl)) dX11_listens_9 ⟨(Nat.le_of_ble_eq_true rfl), (Nat.le_of_ble_eq_true rfl)⟩) hP hD hS hA [] (by decide) rfl rfl rfl rfl (fun H locs hP hD hS => ?_)
  refine lv_if_eq (tgt := 63) hx hb dX11_listens_12 (by decide) (fun c12 => ?_) (fun c12 => ?_)
  · have hF := q_brp c12 hF
    obtain rfl := Option.some.inj hF
    exact en_v hQ (Nat.le_of_ble_eq_true rfl) (Nat.le_of_ble_eq_true rfl) hx hb hr hlocks hP hD hS dX11_listens_63
  · have hF := q_brn c12 hF
    refine lv_aload_n hx hb dX11_listens_15 rfl (lv_at hl 0 rfl) ?_
    refine lv_iload_n hx hb dX11_listens_16 rfl (lv_at hl 1 rfl) ?_
    refine lv_iconst (v := 0) hx hb dX11_listens_17 (by decide) ?_
    obtain ⟨q2, hq2, hF⟩ := q_bdi hF
    refine cl_v (Lc := [w_Model E a o (x.1, x.2.1, x.2.2.1, x.2.2.2.1, x.2.2.2.2.1, x.2.2.2.2.2.1, x.2.2.2.2.2.2.1, x.2.2.2.2.2.2.2.1, x.2.2.2.2.2.2.2.2.1, x.2.2.2.2.2.2.2.2.2.1, x.2.2.2.2.2.2.2.2.2.2.1, x.2.2.2.2.2.2.2.2.2.2.2.1, x.2.2.2.2.2.2.2.2.2.2.2.2.1, 0, x.2.2.2.2.2.2.2.2.2.2.2.2.2.2.1, x.2.2.2.2.2.2.2.2.2.2.2.2.2.2.2.1, x.2.2.2.2.2.2.2.2.2.2.2.2.2.2.2.2.1, x.2.2.2.2.2.2.2.2.2.2.2.2.2.2.2.2.2)]) (Lc' := [w_Model E a o (x.1, x.2.1, x.2.2.1, x.2.2.2.1, x.2.2.2.2.1, x.2.2.2.2.2.1, x.2.2.2.2.2.2.1, x.2.2.2.2.2.2.2.1, x.2.2.2.2.2.2.2.2.1, x.2.2.2.2.2.2.2.2.2.1, x.2.2.2.2.2.2.2.2.2.2.1, x.2.2.2.2.2.2.2.2.2.2.2.1, q2.1, q2.2, x.2.2.2.2.2.2.2.2.2.2.2.2.2.2.1, x.2.2.2.2.2.2.2.2.2.2.2.2.2.2.2.1, x.2.2.2.2.2.2.2.2.2.2.2.2.2.2.2.2.1, x.2.2.2.2.2.2.2.2.2.2.2.2.2.2.2.2.2)]) (L' := [w_Model E a o (x.1, x.2.1, x.2.2.1, x.2.2.2.1, x.2.2.2.2.1, x.2.2.2.2.2.1, x.2.2.2.2.2.2.1, x.2.2.2.2.2.2.2.1, x.2.2.2.2.2.2.2.2.1, x.2.2.2.2.2.2.2.2.2.1, x.2.2.2.2.2.2.2.2.2.2.1, x.2.2.2.2.2.2.2.2.2.2.2.1, q2.1, q2.2, x.2.2.2.2.2.2.2.2.2.2.2.2.2.2.1, x.2.2.2.2.2.2.2.2.2.2.2.2.2.2.2.1, x.2.2.2.2.2.2.2.2.2.2.2.2.2.2.2.2.1, x.2.2.2.2.2.2.2.2.2.2.2.2.2.2.2.2.2)]) (va_runV (As := [.int p1, .int 0]) (rest := []) ⟨hx, hb, hml, hown, ha⟩ (k_X11_hearsTones l E a o (x.1, x.2.1, x.2.2.1, x.2.2.2.1, x.2.2.2.2.1, x.2.2.2.2.2.1, x.2.2.2.2.2.2.1, x.2.2.2.2.2.2.2.1, x.2.2.2.2.2.2.2.2.1, x.2.2.2.2.2.2.2.2.2.1, x.2.2.2.2.2.2.2.2.2.2.1, x.2.2.2.2.2.2.2.2.2.2.2.1, x.2.2.2.2.2.2.2.2.2.2.2.2.1, 0, x.2.2.2.2.2.2.2.2.2.2.2.2.2.2.1, x.2.2.2.2.2.2.2.2.2.2.2.2.2.2.2.1, x.2.2.2.2.2.2.2.2.2.2.2.2.2.2.2.2.1, x.2.2.2.2.2.2.2.2.2.2.2.2.2.2.2.2.2) p1 0 q2 hq2 H.size) (cwV 2 ha (gi_V (fun _ h => h) mw1974 mw1976 mw55 mw87 mw1977) rfl rfl rfl hv_X11_hearsTones ⟨(Nat.le_of_ble_eq_true rfl), (Nat.le_of_ble_eq_true rfl)⟩) ⟨pre_blind, va_recv hst.k (fr_P hP [0] rfl) (ci := 13) (q0 := 0) rfl rfl, pre_at hP hD hS hz hzs hst [0] (by decide) rfl rfl⟩ rfl rfl hl.1 rfl (lv_room (Nat.le_of_ble_eq_true rfl)) dX11_listens_18 ⟨(Nat.le_of_ble_eq_true rfl), (Nat.le_of_ble_eq_true rfl)⟩) hP hD hS hA [0] (by decide) rfl rfl rfl rfl (fun H locs hP hD hS => ?_)
    refine lv_iconst (v := 0) hx hb dX11_listens_21 (by decide) ?_
    refine lv_istore_n (lv' := [(2, .int 0), (0, .ref (a o)), (1, .int p1)]) hx hb dX11_listens_22 rfl hl (by decide) rfl (fun ls hl => ?_)
    have key23 : ∀ (n : Nat) (i3 : Int32) (i4 : (Nat → Int32)) (i5 : Int32) (H : Heap) (locs : List Loc) (ls : Array Slot), f_X11_listens_L23 x.1 p1 n i3 i4 i5 = some res → va_P E.1 vwCl (List.flatten [w_Model E a o (x.1, x.2.1, x.2.2.1, x.2.2.2.1, x.2.2.2.2.1, x.2.2.2.2.2.1, x.2.2.2.2.2.2.1, x.2.2.2.2.2.2.2.1, x.2.2.2.2.2.2.2.2.1, x.2.2.2.2.2.2.2.2.2.1, x.2.2.2.2.2.2.2.2.2.2.1, x.2.2.2.2.2.2.2.2.2.2.2.1, i4, i5, x.2.2.2.2.2.2.2.2.2.2.2.2.2.2.1, x.2.2.2.2.2.2.2.2.2.2.2.2.2.2.2.1, x.2.2.2.2.2.2.2.2.2.2.2.2.2.2.2.2.1, x.2.2.2.2.2.2.2.2.2.2.2.2.2.2.2.2.2)]) H → va_D A (List.flatten [w_Model E a o (x.1, x.2.1, x.2.2.1, x.2.2.2.1, x.2.2.2.2.1, x.2.2.2.2.2.1, x.2.2.2.2.2.2.1, x.2.2.2.2.2.2.2.1, x.2.2.2.2.2.2.2.2.1, x.2.2.2.2.2.2.2.2.2.1, x.2.2.2.2.2.2.2.2.2.2.1, x.2.2.2.2.2.2.2.2.2.2.2.1, i4, i5, x.2.2.2.2.2.2.2.2.2.2.2.2.2.2.1, x.2.2.2.2.2.2.2.2.2.2.2.2.2.2.2.1, x.2.2.2.2.2.2.2.2.2.2.2.2.2.2.2.2.1, x.2.2.2.2.2.2.2.2.2.2.2.2.2.2.2.2.2)]) → va_S A s.heap H locs → lv_has ls 3 [(2, .int i3), (0, .ref (a o)), (1, .int p1)] → W p l e rm_X11_listens s m args below meth c H locs 0 0 Q (F0 m 23 ls []) := by
      intro n23
      induction n23 with
      | zero => intro i3 i4 i5 H locs ls hF; exact absurd hF (by simp [f_X11_listens_L23])
      | succ n23 ih23 =>
        intro i3 i4 i5 H locs ls hF hP hD hS hl
        rw [f_X11_listens_L23] at hF
        refine lv_iload_n hx hb dX11_listens_23 rfl (lv_at hl 0 rfl) ?_
        refine lv_aload_n hx hb dX11_listens_24 rfl (lv_at hl 1 rfl) ?_
        refine va_get (D := E.1) (ci := 13) (v := .ref (a (o + 1))) (C := RX11) (T := TX11) (N := 18) hx hb ha in_X11 hown hst.k hP 0 rfl rfl 0 (by decide) (ha _ mw1636) (fun _ h9 => h9) rfl dX11_listens_25 ?_
        refine lv_iconst (v := 1) hx hb dX11_listens_28 (by decide) ?_
        refine vi_iald hx hb hst.k hP 1 0 rfl rfl (f := x.1) (k := 1) (by decide) (by decide) dX11_listens_29 ?_
        refine lv_icmp_ge (tgt := 63) hx hb dX11_listens_30 (by decide) (fun c30 => ?_) (fun c30 => ?_)
        · have hF := q_brp c30 hF
          obtain rfl := Option.some.inj hF
          exact en_v hQ (Nat.le_of_ble_eq_true rfl) (Nat.le_of_ble_eq_true rfl) hx hb hr hlocks hP hD hS dX11_listens_63
        · have hF := q_brn c30 hF
          refine lv_aload_n hx hb dX11_listens_33 rfl (lv_at hl 1 rfl) ?_
          refine lv_iload_n hx hb dX11_listens_34 rfl (lv_at hl 2 rfl) ?_
          refine lv_aload_n hx hb dX11_listens_35 rfl (lv_at hl 1 rfl) ?_
          refine va_get (D := E.1) (ci := 13) (v := .ref (a (o + 1))) (C := RX11) (T := TX11) (N := 18) hx hb ha in_X11 hown hst.k hP 0 rfl rfl 0 (by decide) (ha _ mw1636) (fun _ h9 => h9) rfl dX11_listens_36 ?_
          refine lv_bipush (v := 69) hx hb dX11_listens_39 (by decide) ?_
          refine lv_iload_n hx hb dX11_listens_41 rfl (lv_at hl 0 rfl) ?_
          refine lv_iadd hx hb dX11_listens_42 ?_
          obtain ⟨g6, hF⟩ := q_gdi hF
          refine vi_iald hx hb hst.k hP 1 0 rfl rfl (f := x.1) (k := (69 + i3).toNatClampNeg) rfl g6 dX11_listens_43 ?_
          refine lv_isub hx hb dX11_listens_44 ?_
          refine lv_aload_n hx hb dX11_listens_45 rfl (lv_at hl 1 rfl) ?_
          refine va_get (D := E.1) (ci := 13) (v := .ref (a (o + 1))) (C := RX11) (T := TX11) (N := 18) hx hb ha in_X11 hown hst.k hP 0 rfl rfl 0 (by decide) (ha _ mw1636) (fun _ h9 => h9) rfl dX11_listens_46 ?_
          refine lv_bipush (v := 73) hx hb dX11_listens_49 (by decide) ?_
          refine lv_iload_n hx hb dX11_listens_51 rfl (lv_at hl 0 rfl) ?_
          refine lv_iadd hx hb dX11_listens_52 ?_
          obtain ⟨g7, hF⟩ := q_gdi hF
          refine vi_iald hx hb hst.k hP 1 0 rfl rfl (f := x.1) (k := (73 + i3).toNatClampNeg) rfl g7 dX11_listens_53 ?_
          obtain ⟨q8, hq8, hF⟩ := q_bdi hF
          refine cl_v (Lc := [w_Model E a o (x.1, x.2.1, x.2.2.1, x.2.2.2.1, x.2.2.2.2.1, x.2.2.2.2.2.1, x.2.2.2.2.2.2.1, x.2.2.2.2.2.2.2.1, x.2.2.2.2.2.2.2.2.1, x.2.2.2.2.2.2.2.2.2.1, x.2.2.2.2.2.2.2.2.2.2.1, x.2.2.2.2.2.2.2.2.2.2.2.1, i4, i5, x.2.2.2.2.2.2.2.2.2.2.2.2.2.2.1, x.2.2.2.2.2.2.2.2.2.2.2.2.2.2.2.1, x.2.2.2.2.2.2.2.2.2.2.2.2.2.2.2.2.1, x.2.2.2.2.2.2.2.2.2.2.2.2.2.2.2.2.2)]) (Lc' := [w_Model E a o (x.1, x.2.1, x.2.2.1, x.2.2.2.1, x.2.2.2.2.1, x.2.2.2.2.2.1, x.2.2.2.2.2.2.1, x.2.2.2.2.2.2.2.1, x.2.2.2.2.2.2.2.2.1, x.2.2.2.2.2.2.2.2.2.1, x.2.2.2.2.2.2.2.2.2.2.1, x.2.2.2.2.2.2.2.2.2.2.2.1, q8.1, q8.2, x.2.2.2.2.2.2.2.2.2.2.2.2.2.2.1, x.2.2.2.2.2.2.2.2.2.2.2.2.2.2.2.1, x.2.2.2.2.2.2.2.2.2.2.2.2.2.2.2.2.1, x.2.2.2.2.2.2.2.2.2.2.2.2.2.2.2.2.2)]) (L' := [w_Model E a o (x.1, x.2.1, x.2.2.1, x.2.2.2.1, x.2.2.2.2.1, x.2.2.2.2.2.1, x.2.2.2.2.2.2.1, x.2.2.2.2.2.2.2.1, x.2.2.2.2.2.2.2.2.1, x.2.2.2.2.2.2.2.2.2.1, x.2.2.2.2.2.2.2.2.2.2.1, x.2.2.2.2.2.2.2.2.2.2.2.1, q8.1, q8.2, x.2.2.2.2.2.2.2.2.2.2.2.2.2.2.1, x.2.2.2.2.2.2.2.2.2.2.2.2.2.2.2.1, x.2.2.2.2.2.2.2.2.2.2.2.2.2.2.2.2.1, x.2.2.2.2.2.2.2.2.2.2.2.2.2.2.2.2.2)]) (va_runV (As := [.int (p1 - (x.1 ((69 + i3).toNatClampNeg))), .int (x.1 ((73 + i3).toNatClampNeg))]) (rest := []) ⟨hx, hb, hml, hown, ha⟩ (k_X11_hearsTones l E a o (x.1, x.2.1, x.2.2.1, x.2.2.2.1, x.2.2.2.2.1, x.2.2.2.2.2.1, x.2.2.2.2.2.2.1, x.2.2.2.2.2.2.2.1, x.2.2.2.2.2.2.2.2.1, x.2.2.2.2.2.2.2.2.2.1, x.2.2.2.2.2.2.2.2.2.2.1, x.2.2.2.2.2.2.2.2.2.2.2.1, i4, i5, x.2.2.2.2.2.2.2.2.2.2.2.2.2.2.1, x.2.2.2.2.2.2.2.2.2.2.2.2.2.2.2.1, x.2.2.2.2.2.2.2.2.2.2.2.2.2.2.2.2.1, x.2.2.2.2.2.2.2.2.2.2.2.2.2.2.2.2.2) (p1 - (x.1 ((69 + i3).toNatClampNeg))) (x.1 ((73 + i3).toNatClampNeg)) q8 hq8 H.size) (cwV 2 ha (gi_V (fun _ h => h) mw1974 mw1976 mw55 mw87 mw1977) rfl rfl rfl hv_X11_hearsTones ⟨(Nat.le_of_ble_eq_true rfl), (Nat.le_of_ble_eq_true rfl)⟩) ⟨pre_blind, va_recv hst.k (fr_P hP [0] rfl) (ci := 13) (q0 := 0) rfl rfl, pre_at hP hD hS hz hzs hst [0] (by decide) rfl rfl⟩ rfl rfl hl.1 rfl (lv_room (Nat.le_of_ble_eq_true rfl)) dX11_listens_54 ⟨(Nat.le_of_ble_eq_true rfl), (Nat.le_of_ble_eq_true rfl)⟩) hP hD hS hA [0] (by decide) rfl rfl rfl rfl (fun H locs hP hD hS => ?_)
          obtain ⟨v9, ev9⟩ : ∃ y : Int32, y = i3 + 1 := ⟨_, rfl⟩
          have hF := q_lti ev9 hF
          refine lv_iinc (v := v9) (lv' := [(2, .int v9), (0, .ref (a o)), (1, .int p1)]) hx hb dX11_listens_57 hl (k := 0) rfl (by rw [ev9]; rfl) (by decide) rfl (fun ls hl => ?_)
          refine lv_goto (tgt := 23) hx hb dX11_listens_60 (by decide) ?_
          exact ih23 v9 q8.1 q8.2 H locs ls hF hP hD hS (lv_sub hl [0, 1, 2] rfl)
    exact key23 _ 0 q2.1 q2.2 H locs ls hF hP hD hS (lv_sub hl [0, 1, 2] rfl)

/-! X11_chordSize -/
theorem dX11_chordSize_0 : decode cX11_chordSize 0 = .ok (.aload_n 0, 1) := by decide +kernel
theorem dX11_chordSize_1 : decode cX11_chordSize 1 = .ok (.iload_n 1, 1) := by decide +kernel
theorem dX11_chordSize_2 : decode cX11_chordSize 2 = .ok (.invokevirtual 168, 3) := by decide +kernel
theorem dX11_chordSize_5 : decode cX11_chordSize 5 = .ok (.aload_n 0, 1) := by decide +kernel
theorem dX11_chordSize_6 : decode cX11_chordSize 6 = .ok (.aload_n 0, 1) := by decide +kernel
theorem dX11_chordSize_7 : decode cX11_chordSize 7 = .ok (.getfield 157, 3) := by decide +kernel
theorem dX11_chordSize_10 : decode cX11_chordSize 10 = .ok (.invokevirtual 83, 3) := by decide +kernel
theorem dX11_chordSize_13 : decode cX11_chordSize 13 = .ok (.ireturn, 1) := by decide +kernel
def f_X11_chordSize (x_g : (Nat → Int32)) (x_notes : (Nat → Int32)) (x_noteCount : Int32) (x_thrown : Int32) (p1 : Int32) : Option (Int32 × (Nat → Int32) × Int32 × Int32) :=
  q_bd (f_X11_listens x_g x_notes x_noteCount p1) (fun q1 =>
  q_bd (f_X11_done x_thrown q1.2) (fun q2 =>
  some (q2.1, q1.1, q1.2, q2.2)))
theorem hv_X11_chordSize : yX11_chordSize.cls = RX11 ∧ yX11_chordSize.cls ≠ "java/lang/invoke/MethodHandle" ∧ yX11_chordSize.cls ≠ "java/lang/invoke/VarHandle" ∧ (parseMethodDescriptor yX11_chordSize.desc).map (fun d => d.parameters.length) = some 1 := by decide +kernel
abbrev rm_X11_chordSize : Room := { frames := 3, cells := 0, slots := 0, locals := 68 }
set_option maxHeartbeats 4000000 in
set_option maxRecDepth 100000 in
theorem k_X11_chordSize (l : Launch) (E : ET) (a : Nat → Nat) (o : Nat) (x : Model_t) (p1 : Int32) (res : Int32 × (Nat → Int32) × Int32 × Int32) (hF : f_X11_chordSize x.1 x.2.2.2.2.2.2.2.2.2.2.2.2.1 x.2.2.2.2.2.2.2.2.2.2.2.2.2.1 x.2.2.2.2.2.2.2.2.2.2.2.2.2.2.1 p1 = some res) (sz : Nat) : CtI l yX11_chordSize (mws yX11_chordSize cX11_chordSize 2 (some .int)) rm_X11_chordSize 0 0 [.ref (a o), .int p1] E (bl_Model E a o x) res.1 (bl_Model E a o (x.1, x.2.1, x.2.2.1, x.2.2.2.1, x.2.2.2.2.1, x.2.2.2.2.2.1, x.2.2.2.2.2.2.1, x.2.2.2.2.2.2.2.1, x.2.2.2.2.2.2.2.2.1, x.2.2.2.2.2.2.2.2.2.1, x.2.2.2.2.2.2.2.2.2.2.1, x.2.2.2.2.2.2.2.2.2.2.2.1, res.2.1, res.2.2.1, res.2.2.2, x.2.2.2.2.2.2.2.2.2.2.2.2.2.2.2.1, x.2.2.2.2.2.2.2.2.2.2.2.2.2.2.2.2.1, x.2.2.2.2.2.2.2.2.2.2.2.2.2.2.2.2.2)) sz := by
  refine mk_M (by decide +kernel) (Nat.le_of_ble_eq_true rfl) ?_
  intro p e s m below meth c A args Q ls hAe hsz hQ hx hb hr hml hin ha hown hlocks hA hz hzs hst hP hD hS hl
  have hown : s.vm.findClass RX11 = some m.cls := hown
  rw [hAe] at hQ
  subst hsz
  have hP : va_P E.1 vwCl (List.flatten [w_Model E a o x]) s.heap := hP
  have hD : va_D A (List.flatten [w_Model E a o x]) := hD
  have hl : lv_has ls 2 [(0, .ref (a o)), (1, .int p1)] := hl
  generalize hHe : s.heap = H at hP
  have hS : va_S A s.heap H [] := by rw [← hHe]; exact hS
  generalize ([] : List Loc) = locs at hS ⊢
  unfold f_X11_chordSize at hF
  refine lv_aload_n hx hb dX11_chordSize_0 rfl (lv_at hl 0 rfl) ?_
  refine lv_iload_n hx hb dX11_chordSize_1 rfl (lv_at hl 1 rfl) ?_
  obtain ⟨q1, hq1, hF⟩ := q_bdi hF
  refine cl_v (Lc := [w_Model E a o x]) (Lc' := [w_Model E a o (x.1, x.2.1, x.2.2.1, x.2.2.2.1, x.2.2.2.2.1, x.2.2.2.2.2.1, x.2.2.2.2.2.2.1, x.2.2.2.2.2.2.2.1, x.2.2.2.2.2.2.2.2.1, x.2.2.2.2.2.2.2.2.2.1, x.2.2.2.2.2.2.2.2.2.2.1, x.2.2.2.2.2.2.2.2.2.2.2.1, q1.1, q1.2, x.2.2.2.2.2.2.2.2.2.2.2.2.2.2.1, x.2.2.2.2.2.2.2.2.2.2.2.2.2.2.2.1, x.2.2.2.2.2.2.2.2.2.2.2.2.2.2.2.2.1, x.2.2.2.2.2.2.2.2.2.2.2.2.2.2.2.2.2)]) (L' := [w_Model E a o (x.1, x.2.1, x.2.2.1, x.2.2.2.1, x.2.2.2.2.1, x.2.2.2.2.2.1, x.2.2.2.2.2.2.1, x.2.2.2.2.2.2.2.1, x.2.2.2.2.2.2.2.2.1, x.2.2.2.2.2.2.2.2.2.1, x.2.2.2.2.2.2.2.2.2.2.1, x.2.2.2.2.2.2.2.2.2.2.2.1, q1.1, q1.2, x.2.2.2.2.2.2.2.2.2.2.2.2.2.2.1, x.2.2.2.2.2.2.2.2.2.2.2.2.2.2.2.1, x.2.2.2.2.2.2.2.2.2.2.2.2.2.2.2.2.1, x.2.2.2.2.2.2.2.2.2.2.2.2.2.2.2.2.2)]) (va_runV (As := [.int p1]) (rest := []) ⟨hx, hb, hml, hown, ha⟩ (k_X11_listens l E a o x p1 q1 hq1 H.size) (cwV 1 ha (gi_V (fun _ h => h) mw1970 mw1972 mw54 mw87 mw1973) rfl rfl rfl hv_X11_listens ⟨(Nat.le_of_ble_eq_true rfl), (Nat.le_of_ble_eq_true rfl)⟩) ⟨pre_blind, va_recv hst.k (fr_P hP [0] rfl) (ci := 13) (q0 := 0) rfl rfl, pre_at hP hD hS hz hzs hst [0] (by decide) rfl rfl⟩ rfl rfl hl.1 rfl (lv_room (Nat.le_of_ble_eq_true rfl)) dX11_chordSize_2 ⟨(Nat.le_of_ble_eq_true rfl), (Nat.le_of_ble_eq_true rfl)⟩) hP hD hS hA [0] (by decide) rfl rfl rfl rfl (fun H locs hP hD hS => ?_)
  refine lv_aload_n hx hb dX11_chordSize_5 rfl (lv_at hl 0 rfl) ?_
  refine lv_aload_n hx hb dX11_chordSize_6 rfl (lv_at hl 0 rfl) ?_
  refine va_get (D := E.1) (ci := 13) (v := .int q1.2) (C := RX11) (T := TX11) (N := 18) hx hb ha in_X11 hown hst.k hP 0 rfl rfl 13 (by decide) (ha _ mw1649) (fun _ h9 => h9) rfl dX11_chordSize_7 ?_
  obtain ⟨q2, hq2, hF⟩ := q_bdi hF
  refine cl_i (Lc := [w_Model E a o (x.1, x.2.1, x.2.2.1, x.2.2.2.1, x.2.2.2.2.1, x.2.2.2.2.2.1, x.2.2.2.2.2.2.1, x.2.2.2.2.2.2.2.1, x.2.2.2.2.2.2.2.2.1, x.2.2.2.2.2.2.2.2.2.1, x.2.2.2.2.2.2.2.2.2.2.1, x.2.2.2.2.2.2.2.2.2.2.2.1, q1.1, q1.2, x.2.2.2.2.2.2.2.2.2.2.2.2.2.2.1, x.2.2.2.2.2.2.2.2.2.2.2.2.2.2.2.1, x.2.2.2.2.2.2.2.2.2.2.2.2.2.2.2.2.1, x.2.2.2.2.2.2.2.2.2.2.2.2.2.2.2.2.2)]) (Lc' := [w_Model E a o (x.1, x.2.1, x.2.2.1, x.2.2.2.1, x.2.2.2.2.1, x.2.2.2.2.2.1, x.2.2.2.2.2.2.1, x.2.2.2.2.2.2.2.1, x.2.2.2.2.2.2.2.2.1, x.2.2.2.2.2.2.2.2.2.1, x.2.2.2.2.2.2.2.2.2.2.1, x.2.2.2.2.2.2.2.2.2.2.2.1, q1.1, q1.2, q2.2, x.2.2.2.2.2.2.2.2.2.2.2.2.2.2.2.1, x.2.2.2.2.2.2.2.2.2.2.2.2.2.2.2.2.1, x.2.2.2.2.2.2.2.2.2.2.2.2.2.2.2.2.2)]) (L' := [w_Model E a o (x.1, x.2.1, x.2.2.1, x.2.2.2.1, x.2.2.2.2.1, x.2.2.2.2.2.1, x.2.2.2.2.2.2.1, x.2.2.2.2.2.2.2.1, x.2.2.2.2.2.2.2.2.1, x.2.2.2.2.2.2.2.2.2.1, x.2.2.2.2.2.2.2.2.2.2.1, x.2.2.2.2.2.2.2.2.2.2.2.1, q1.1, q1.2, q2.2, x.2.2.2.2.2.2.2.2.2.2.2.2.2.2.2.1, x.2.2.2.2.2.2.2.2.2.2.2.2.2.2.2.2.1, x.2.2.2.2.2.2.2.2.2.2.2.2.2.2.2.2.2)]) (rv := q2.1) (va_runV (As := [.int q1.2]) (rest := []) ⟨hx, hb, hml, hown, ha⟩ (k_X11_done l E a o (x.1, x.2.1, x.2.2.1, x.2.2.2.1, x.2.2.2.2.1, x.2.2.2.2.2.1, x.2.2.2.2.2.2.1, x.2.2.2.2.2.2.2.1, x.2.2.2.2.2.2.2.2.1, x.2.2.2.2.2.2.2.2.2.1, x.2.2.2.2.2.2.2.2.2.2.1, x.2.2.2.2.2.2.2.2.2.2.2.1, q1.1, q1.2, x.2.2.2.2.2.2.2.2.2.2.2.2.2.2.1, x.2.2.2.2.2.2.2.2.2.2.2.2.2.2.2.1, x.2.2.2.2.2.2.2.2.2.2.2.2.2.2.2.2.1, x.2.2.2.2.2.2.2.2.2.2.2.2.2.2.2.2.2) q1.2 q2 hq2 H.size) (cwV 1 ha (gi_V (fun _ h => h) mw1720 mw1722 mw30 mw87 mw1723) rfl rfl rfl hv_X11_done ⟨(Nat.le_of_ble_eq_true rfl), (Nat.le_of_ble_eq_true rfl)⟩) ⟨pre_blind, va_recv hst.k (fr_P hP [0] rfl) (ci := 13) (q0 := 0) rfl rfl, pre_at hP hD hS hz hzs hst [0] (by decide) rfl rfl⟩ rfl rfl hl.1 rfl (lv_room (Nat.le_of_ble_eq_true rfl)) dX11_chordSize_10 ⟨(Nat.le_of_ble_eq_true rfl), (Nat.le_of_ble_eq_true rfl)⟩) hP hD hS hA [0] (by decide) rfl rfl rfl rfl (fun H locs hP hD hS => ?_)
  obtain rfl := Option.some.inj hF
  exact en_i hQ (Nat.le_of_ble_eq_true rfl) (Nat.le_of_ble_eq_true rfl) hx hb hr hlocks hP hD hS rfl dX11_chordSize_13

/-! X11_chordNote -/
theorem dX11_chordNote_0 : decode cX11_chordNote 0 = .ok (.aload_n 0, 1) := by decide +kernel
theorem dX11_chordNote_1 : decode cX11_chordNote 1 = .ok (.iload_n 1, 1) := by decide +kernel
theorem dX11_chordNote_2 : decode cX11_chordNote 2 = .ok (.invokevirtual 168, 3) := by decide +kernel
theorem dX11_chordNote_5 : decode cX11_chordNote 5 = .ok (.iload_n 2, 1) := by decide +kernel
theorem dX11_chordNote_6 : decode cX11_chordNote 6 = .ok (.iconst 0, 1) := by decide +kernel
theorem dX11_chordNote_7 : decode cX11_chordNote 7 = .ok (.aload_n 0, 1) := by decide +kernel
theorem dX11_chordNote_8 : decode cX11_chordNote 8 = .ok (.getfield 157, 3) := by decide +kernel
theorem dX11_chordNote_11 : decode cX11_chordNote 11 = .ok (.iconst 1, 1) := by decide +kernel
theorem dX11_chordNote_12 : decode cX11_chordNote 12 = .ok (.isub, 1) := by decide +kernel
theorem dX11_chordNote_13 : decode cX11_chordNote 13 = .ok (.invokestatic 52, 3) := by decide +kernel
theorem dX11_chordNote_16 : decode cX11_chordNote 16 = .ok (.ifCond .eq 16, 3) := by decide +kernel
theorem dX11_chordNote_19 : decode cX11_chordNote 19 = .ok (.aload_n 0, 1) := by decide +kernel
theorem dX11_chordNote_20 : decode cX11_chordNote 20 = .ok (.aload_n 0, 1) := by decide +kernel
theorem dX11_chordNote_21 : decode cX11_chordNote 21 = .ok (.getfield 36, 3) := by decide +kernel
theorem dX11_chordNote_24 : decode cX11_chordNote 24 = .ok (.iload_n 2, 1) := by decide +kernel
theorem dX11_chordNote_25 : decode cX11_chordNote 25 = .ok (.iaload, 1) := by decide +kernel
theorem dX11_chordNote_26 : decode cX11_chordNote 26 = .ok (.invokevirtual 83, 3) := by decide +kernel
theorem dX11_chordNote_29 : decode cX11_chordNote 29 = .ok (.goto 8, 3) := by decide +kernel
theorem dX11_chordNote_32 : decode cX11_chordNote 32 = .ok (.aload_n 0, 1) := by decide +kernel
theorem dX11_chordNote_33 : decode cX11_chordNote 33 = .ok (.iconst 1, 1) := by decide +kernel
theorem dX11_chordNote_34 : decode cX11_chordNote 34 = .ok (.invokevirtual 80, 3) := by decide +kernel
theorem dX11_chordNote_37 : decode cX11_chordNote 37 = .ok (.ireturn, 1) := by decide +kernel
def f_X11_chordNote (x_g : (Nat → Int32)) (x_notes : (Nat → Int32)) (x_noteCount : Int32) (x_thrown : Int32) (p1 : Int32) (p2 : Int32) : Option (Int32 × (Nat → Int32) × Int32 × Int32) :=
  q_bd (f_X11_listens x_g x_notes x_noteCount p1) (fun q1 =>
  q_bd (f_X11_in p2 0 (q1.2 - 1)) (fun q2 =>
  q_br (q2 = 0) (
  q_bd (f_X11_fails x_thrown 1) (fun q3 =>
  some (q3.1, q1.1, q1.2, q3.2))) (
  q_gd (q_in p2 24) (
  q_bd (f_X11_done x_thrown (q1.1 (p2.toNatClampNeg))) (fun q5 =>
  some (q5.1, q1.1, q1.2, q5.2))))))
theorem hv_X11_chordNote : yX11_chordNote.cls = RX11 ∧ yX11_chordNote.cls ≠ "java/lang/invoke/MethodHandle" ∧ yX11_chordNote.cls ≠ "java/lang/invoke/VarHandle" ∧ (parseMethodDescriptor yX11_chordNote.desc).map (fun d => d.parameters.length) = some 2 := by decide +kernel
abbrev rm_X11_chordNote : Room := { frames := 3, cells := 0, slots := 0, locals := 68 }
set_option maxHeartbeats 4000000 in
set_option maxRecDepth 100000 in
theorem k_X11_chordNote (l : Launch) (E : ET) (a : Nat → Nat) (o : Nat) (x : Model_t) (p1 : Int32) (p2 : Int32) (res : Int32 × (Nat → Int32) × Int32 × Int32) (hF : f_X11_chordNote x.1 x.2.2.2.2.2.2.2.2.2.2.2.2.1 x.2.2.2.2.2.2.2.2.2.2.2.2.2.1 x.2.2.2.2.2.2.2.2.2.2.2.2.2.2.1 p1 p2 = some res) (sz : Nat) : CtI l yX11_chordNote (mws yX11_chordNote cX11_chordNote 3 (some .int)) rm_X11_chordNote 0 0 [.ref (a o), .int p1, .int p2] E (bl_Model E a o x) res.1 (bl_Model E a o (x.1, x.2.1, x.2.2.1, x.2.2.2.1, x.2.2.2.2.1, x.2.2.2.2.2.1, x.2.2.2.2.2.2.1, x.2.2.2.2.2.2.2.1, x.2.2.2.2.2.2.2.2.1, x.2.2.2.2.2.2.2.2.2.1, x.2.2.2.2.2.2.2.2.2.2.1, x.2.2.2.2.2.2.2.2.2.2.2.1, res.2.1, res.2.2.1, res.2.2.2, x.2.2.2.2.2.2.2.2.2.2.2.2.2.2.2.1, x.2.2.2.2.2.2.2.2.2.2.2.2.2.2.2.2.1, x.2.2.2.2.2.2.2.2.2.2.2.2.2.2.2.2.2)) sz := by
  refine mk_M (by decide +kernel) (Nat.le_of_ble_eq_true rfl) ?_
  intro p e s m below meth c A args Q ls hAe hsz hQ hx hb hr hml hin ha hown hlocks hA hz hzs hst hP hD hS hl
  have hown : s.vm.findClass RX11 = some m.cls := hown
  rw [hAe] at hQ
  subst hsz
  have hP : va_P E.1 vwCl (List.flatten [w_Model E a o x]) s.heap := hP
  have hD : va_D A (List.flatten [w_Model E a o x]) := hD
  have hl : lv_has ls 3 [(0, .ref (a o)), (1, .int p1), (2, .int p2)] := hl
  generalize hHe : s.heap = H at hP
  have hS : va_S A s.heap H [] := by rw [← hHe]; exact hS
  generalize ([] : List Loc) = locs at hS ⊢
  unfold f_X11_chordNote at hF
  refine lv_aload_n hx hb dX11_chordNote_0 rfl (lv_at hl 0 rfl) ?_
  refine lv_iload_n hx hb dX11_chordNote_1 rfl (lv_at hl 1 rfl) ?_
  obtain ⟨q1, hq1, hF⟩ := q_bdi hF
  refine cl_v (Lc := [w_Model E a o x]) (Lc' := [w_Model E a o (x.1, x.2.1, x.2.2.1, x.2.2.2.1, x.2.2.2.2.1, x.2.2.2.2.2.1, x.2.2.2.2.2.2.1, x.2.2.2.2.2.2.2.1, x.2.2.2.2.2.2.2.2.1, x.2.2.2.2.2.2.2.2.2.1, x.2.2.2.2.2.2.2.2.2.2.1, x.2.2.2.2.2.2.2.2.2.2.2.1, q1.1, q1.2, x.2.2.2.2.2.2.2.2.2.2.2.2.2.2.1, x.2.2.2.2.2.2.2.2.2.2.2.2.2.2.2.1, x.2.2.2.2.2.2.2.2.2.2.2.2.2.2.2.2.1, x.2.2.2.2.2.2.2.2.2.2.2.2.2.2.2.2.2)]) (L' := [w_Model E a o (x.1, x.2.1, x.2.2.1, x.2.2.2.1, x.2.2.2.2.1, x.2.2.2.2.2.1, x.2.2.2.2.2.2.1, x.2.2.2.2.2.2.2.1, x.2.2.2.2.2.2.2.2.1, x.2.2.2.2.2.2.2.2.2.1, x.2.2.2.2.2.2.2.2.2.2.1, x.2.2.2.2.2.2.2.2.2.2.2.1, q1.1, q1.2, x.2.2.2.2.2.2.2.2.2.2.2.2.2.2.1, x.2.2.2.2.2.2.2.2.2.2.2.2.2.2.2.1, x.2.2.2.2.2.2.2.2.2.2.2.2.2.2.2.2.1, x.2.2.2.2.2.2.2.2.2.2.2.2.2.2.2.2.2)]) (va_runV (As := [.int p1]) (rest := []) ⟨hx, hb, hml, hown, ha⟩ (k_X11_listens l E a o x p1 q1 hq1 H.size) (cwV 1 ha (gi_V (fun _ h => h) mw1970 mw1972 mw54 mw87 mw1973) rfl rfl rfl hv_X11_listens ⟨(Nat.le_of_ble_eq_true rfl), (Nat.le_of_ble_eq_true rfl)⟩) ⟨pre_blind, va_recv hst.k (fr_P hP [0] rfl) (ci := 13) (q0 := 0) rfl rfl, pre_at hP hD hS hz hzs hst [0] (by decide) rfl rfl⟩ rfl rfl hl.1 rfl (lv_room (Nat.le_of_ble_eq_true rfl)) dX11_chordNote_2 ⟨(Nat.le_of_ble_eq_true rfl), (Nat.le_of_ble_eq_true rfl)⟩) hP hD hS hA [0] (by decide) rfl rfl rfl rfl (fun H locs hP hD hS => ?_)
  refine lv_iload_n hx hb dX11_chordNote_5 rfl (lv_at hl 2 rfl) ?_
  refine lv_iconst (v := 0) hx hb dX11_chordNote_6 (by decide) ?_
  refine lv_aload_n hx hb dX11_chordNote_7 rfl (lv_at hl 0 rfl) ?_
  refine va_get (D := E.1) (ci := 13) (v := .int q1.2) (C := RX11) (T := TX11) (N := 18) hx hb ha in_X11 hown hst.k hP 0 rfl rfl 13 (by decide) (ha _ mw1649) (fun _ h9 => h9) rfl dX11_chordNote_8 ?_
  refine lv_iconst (v := 1) hx hb dX11_chordNote_11 (by decide) ?_
  refine lv_isub hx hb dX11_chordNote_12 ?_
  obtain ⟨q2, hq2, hF⟩ := q_bdi hF
  refine cl_i (Lc := []) (Lc' := []) (L' := [w_Model E a o (x.1, x.2.1, x.2.2.1, x.2.2.2.1, x.2.2.2.2.1, x.2.2.2.2.2.1, x.2.2.2.2.2.2.1, x.2.2.2.2.2.2.2.1, x.2.2.2.2.2.2.2.2.1, x.2.2.2.2.2.2.2.2.2.1, x.2.2.2.2.2.2.2.2.2.2.1, x.2.2.2.2.2.2.2.2.2.2.2.1, q1.1, q1.2, x.2.2.2.2.2.2.2.2.2.2.2.2.2.2.1, x.2.2.2.2.2.2.2.2.2.2.2.2.2.2.2.1, x.2.2.2.2.2.2.2.2.2.2.2.2.2.2.2.2.1, x.2.2.2.2.2.2.2.2.2.2.2.2.2.2.2.2.2)]) (rv := q2) (va_runS (As := [.int p2, .int 0, .int (q1.2 - 1)]) (rest := []) ⟨hx, hb, hml, hown, ha⟩ (k_X11_in l E p2 0 (q1.2 - 1) q2 hq2 H.size) (cwS 3 ha (gi_S (fun _ h => h) mw1713 mw1714 mw87 mw1715) rfl rfl rfl hv_X11_in ⟨(Nat.le_of_ble_eq_true rfl), (Nat.le_of_ble_eq_true rfl)⟩) ⟨pre_blind, pre_at hP hD hS hz hzs hst [] (by decide) rfl rfl⟩ rfl rfl hl.1 rfl (lv_room (Nat.le_of_ble_eq_true rfl)) dX11_chordNote_13 ⟨(Nat.le_of_ble_eq_true rfl), (Nat.le_of_ble_eq_true rfl)⟩) hP hD hS hA [] (by decide) rfl rfl rfl rfl (fun H locs hP hD hS => ?_)
  refine lv_if_eq (tgt := 32) hx hb dX11_chordNote_16 (by decide) (fun c16 => ?_) (fun c16 => ?_)
  · have hF := q_brp c16 hF
    refine lv_aload_n hx hb dX11_chordNote_32 rfl (lv_at hl 0 rfl) ?_
    refine lv_iconst (v := 1) hx hb dX11_chordNote_33 (by decide) ?_
    obtain ⟨q3, hq3, hF⟩ := q_bdi hF
    refine cl_i (Lc := [w_Model E a o (x.1, x.2.1, x.2.2.1, x.2.2.2.1, x.2.2.2.2.1, x.2.2.2.2.2.1, x.2.2.2.2.2.2.1, x.2.2.2.2.2.2.2.1, x.2.2.2.2.2.2.2.2.1, x.2.2.2.2.2.2.2.2.2.1, x.2.2.2.2.2.2.2.2.2.2.1, x.2.2.2.2.2.2.2.2.2.2.2.1, q1.1, q1.2, x.2.2.2.2.2.2.2.2.2.2.2.2.2.2.1, x.2.2.2.2.2.2.2.2.2.2.2.2.2.2.2.1, x.2.2.2.2.2.2.2.2.2.2.2.2.2.2.2.2.1, x.2.2.2.2.2.2.2.2.2.2.2.2.2.2.2.2.2)]) (Lc' := [w_Model E a o (x.1, x.2.1, x.2.2.1, x.2.2.2.1, x.2.2.2.2.1, x.2.2.2.2.2.1, x.2.2.2.2.2.2.1, x.2.2.2.2.2.2.2.1, x.2.2.2.2.2.2.2.2.1, x.2.2.2.2.2.2.2.2.2.1, x.2.2.2.2.2.2.2.2.2.2.1, x.2.2.2.2.2.2.2.2.2.2.2.1, q1.1, q1.2, q3.2, x.2.2.2.2.2.2.2.2.2.2.2.2.2.2.2.1, x.2.2.2.2.2.2.2.2.2.2.2.2.2.2.2.2.1, x.2.2.2.2.2.2.2.2.2.2.2.2.2.2.2.2.2)]) (L' := [w_Model E a o (x.1, x.2.1, x.2.2.1, x.2.2.2.1, x.2.2.2.2.1, x.2.2.2.2.2.1, x.2.2.2.2.2.2.1, x.2.2.2.2.2.2.2.1, x.2.2.2.2.2.2.2.2.1, x.2.2.2.2.2.2.2.2.2.1, x.2.2.2.2.2.2.2.2.2.2.1, x.2.2.2.2.2.2.2.2.2.2.2.1, q1.1, q1.2, q3.2, x.2.2.2.2.2.2.2.2.2.2.2.2.2.2.2.1, x.2.2.2.2.2.2.2.2.2.2.2.2.2.2.2.2.1, x.2.2.2.2.2.2.2.2.2.2.2.2.2.2.2.2.2)]) (rv := q3.1) (va_runV (As := [.int 1]) (rest := []) ⟨hx, hb, hml, hown, ha⟩ (k_X11_fails l E a o (x.1, x.2.1, x.2.2.1, x.2.2.2.1, x.2.2.2.2.1, x.2.2.2.2.2.1, x.2.2.2.2.2.2.1, x.2.2.2.2.2.2.2.1, x.2.2.2.2.2.2.2.2.1, x.2.2.2.2.2.2.2.2.2.1, x.2.2.2.2.2.2.2.2.2.2.1, x.2.2.2.2.2.2.2.2.2.2.2.1, q1.1, q1.2, x.2.2.2.2.2.2.2.2.2.2.2.2.2.2.1, x.2.2.2.2.2.2.2.2.2.2.2.2.2.2.2.1, x.2.2.2.2.2.2.2.2.2.2.2.2.2.2.2.2.1, x.2.2.2.2.2.2.2.2.2.2.2.2.2.2.2.2.2) 1 q3 hq3 H.size) (cwV 1 ha (gi_V (fun _ h => h) mw1716 mw1718 mw29 mw87 mw1719) rfl rfl rfl hv_X11_fails ⟨(Nat.le_of_ble_eq_true rfl), (Nat.le_of_ble_eq_true rfl)⟩) ⟨pre_blind, va_recv hst.k (fr_P hP [0] rfl) (ci := 13) (q0 := 0) rfl rfl, pre_at hP hD hS hz hzs hst [0] (by decide) rfl rfl⟩ rfl rfl hl.1 rfl (lv_room (Nat.le_of_ble_eq_true rfl)) dX11_chordNote_34 ⟨(Nat.le_of_ble_eq_true rfl), (Nat.le_of_ble_eq_true rfl)⟩) hP hD hS hA [0] (by decide) rfl rfl rfl rfl (fun H locs hP hD hS => ?_)
    obtain rfl := Option.some.inj hF
    exact en_i hQ (Nat.le_of_ble_eq_true rfl) (Nat.le_of_ble_eq_true rfl) hx hb hr hlocks hP hD hS rfl dX11_chordNote_37
  · have hF := q_brn c16 hF
    refine lv_aload_n hx hb dX11_chordNote_19 rfl (lv_at hl 0 rfl) ?_
    refine lv_aload_n hx hb dX11_chordNote_20 rfl (lv_at hl 0 rfl) ?_
    refine va_get (D := E.1) (ci := 13) (v := .ref (a (o + 7))) (C := RX11) (T := TX11) (N := 18) hx hb ha in_X11 hown hst.k hP 0 rfl rfl 12 (by decide) (ha _ mw1648) (fun _ h9 => h9) rfl dX11_chordNote_21 ?_
    refine lv_iload_n hx hb dX11_chordNote_24 rfl (lv_at hl 2 rfl) ?_
    obtain ⟨g4, hF⟩ := q_gdi hF
    refine vi_iald hx hb hst.k hP 7 0 rfl rfl (f := q1.1) (k := p2.toNatClampNeg) rfl g4 dX11_chordNote_25 ?_
    obtain ⟨q5, hq5, hF⟩ := q_bdi hF
    refine cl_i (Lc := [w_Model E a o (x.1, x.2.1, x.2.2.1, x.2.2.2.1, x.2.2.2.2.1, x.2.2.2.2.2.1, x.2.2.2.2.2.2.1, x.2.2.2.2.2.2.2.1, x.2.2.2.2.2.2.2.2.1, x.2.2.2.2.2.2.2.2.2.1, x.2.2.2.2.2.2.2.2.2.2.1, x.2.2.2.2.2.2.2.2.2.2.2.1, q1.1, q1.2, x.2.2.2.2.2.2.2.2.2.2.2.2.2.2.1, x.2.2.2.2.2.2.2.2.2.2.2.2.2.2.2.1, x.2.2.2.2.2.2.2.2.2.2.2.2.2.2.2.2.1, x.2.2.2.2.2.2.2.2.2.2.2.2.2.2.2.2.2)]) (Lc' := [w_Model E a o (x.1, x.2.1, x.2.2.1, x.2.2.2.1, x.2.2.2.2.1, x.2.2.2.2.2.1, x.2.2.2.2.2.2.1, x.2.2.2.2.2.2.2.1, x.2.2.2.2.2.2.2.2.1, x.2.2.2.2.2.2.2.2.2.1, x.2.2.2.2.2.2.2.2.2.2.1, x.2.2.2.2.2.2.2.2.2.2.2.1, q1.1, q1.2, q5.2, x.2.2.2.2.2.2.2.2.2.2.2.2.2.2.2.1, x.2.2.2.2.2.2.2.2.2.2.2.2.2.2.2.2.1, x.2.2.2.2.2.2.2.2.2.2.2.2.2.2.2.2.2)]) (L' := [w_Model E a o (x.1, x.2.1, x.2.2.1, x.2.2.2.1, x.2.2.2.2.1, x.2.2.2.2.2.1, x.2.2.2.2.2.2.1, x.2.2.2.2.2.2.2.1, x.2.2.2.2.2.2.2.2.1, x.2.2.2.2.2.2.2.2.2.1, x.2.2.2.2.2.2.2.2.2.2.1, x.2.2.2.2.2.2.2.2.2.2.2.1, q1.1, q1.2, q5.2, x.2.2.2.2.2.2.2.2.2.2.2.2.2.2.2.1, x.2.2.2.2.2.2.2.2.2.2.2.2.2.2.2.2.1, x.2.2.2.2.2.2.2.2.2.2.2.2.2.2.2.2.2)]) (rv := q5.1) (va_runV (As := [.int (q1.1 (p2.toNatClampNeg))]) (rest := []) ⟨hx, hb, hml, hown, ha⟩ (k_X11_done l E a o (x.1, x.2.1, x.2.2.1, x.2.2.2.1, x.2.2.2.2.1, x.2.2.2.2.2.1, x.2.2.2.2.2.2.1, x.2.2.2.2.2.2.2.1, x.2.2.2.2.2.2.2.2.1, x.2.2.2.2.2.2.2.2.2.1, x.2.2.2.2.2.2.2.2.2.2.1, x.2.2.2.2.2.2.2.2.2.2.2.1, q1.1, q1.2, x.2.2.2.2.2.2.2.2.2.2.2.2.2.2.1, x.2.2.2.2.2.2.2.2.2.2.2.2.2.2.2.1, x.2.2.2.2.2.2.2.2.2.2.2.2.2.2.2.2.1, x.2.2.2.2.2.2.2.2.2.2.2.2.2.2.2.2.2) (q1.1 (p2.toNatClampNeg)) q5 hq5 H.size) (cwV 1 ha (gi_V (fun _ h => h) mw1720 mw1722 mw30 mw87 mw1723) rfl rfl rfl hv_X11_done ⟨(Nat.le_of_ble_eq_true rfl), (Nat.le_of_ble_eq_true rfl)⟩) ⟨pre_blind, va_recv hst.k (fr_P hP [0] rfl) (ci := 13) (q0 := 0) rfl rfl, pre_at hP hD hS hz hzs hst [0] (by decide) rfl rfl⟩ rfl rfl hl.1 rfl (lv_room (Nat.le_of_ble_eq_true rfl)) dX11_chordNote_26 ⟨(Nat.le_of_ble_eq_true rfl), (Nat.le_of_ble_eq_true rfl)⟩) hP hD hS hA [0] (by decide) rfl rfl rfl rfl (fun H locs hP hD hS => ?_)
    refine lv_goto (tgt := 37) hx hb dX11_chordNote_29 (by decide) ?_
    obtain rfl := Option.some.inj hF
    exact en_i hQ (Nat.le_of_ble_eq_true rfl) (Nat.le_of_ble_eq_true rfl) hx hb hr hlocks hP hD hS rfl dX11_chordNote_37

/-! X11_isDissonant -/
theorem dX11_isDissonant_0 : decode cX11_isDissonant 0 = .ok (.iload_n 0, 1) := by decide +kernel
theorem dX11_isDissonant_1 : decode cX11_isDissonant 1 = .ok (.iconst 1, 1) := by decide +kernel
theorem dX11_isDissonant_2 : decode cX11_isDissonant 2 = .ok (.if_icmp .eq 26, 3) := by decide +kernel
theorem dX11_isDissonant_5 : decode cX11_isDissonant 5 = .ok (.iload_n 0, 1) := by decide +kernel
theorem dX11_isDissonant_6 : decode cX11_isDissonant 6 = .ok (.iconst 2, 1) := by decide +kernel
theorem dX11_isDissonant_7 : decode cX11_isDissonant 7 = .ok (.if_icmp .eq 21, 3) := by decide +kernel
theorem dX11_isDissonant_10 : decode cX11_isDissonant 10 = .ok (.iload_n 0, 1) := by decide +kernel
theorem dX11_isDissonant_11 : decode cX11_isDissonant 11 = .ok (.bipush 6, 2) := by decide +kernel
theorem dX11_isDissonant_13 : decode cX11_isDissonant 13 = .ok (.if_icmp .eq 15, 3) := by decide +kernel
theorem dX11_isDissonant_16 : decode cX11_isDissonant 16 = .ok (.iload_n 0, 1) := by decide +kernel
theorem dX11_isDissonant_17 : decode cX11_isDissonant 17 = .ok (.bipush 10, 2) := by decide +kernel
theorem dX11_isDissonant_19 : decode cX11_isDissonant 19 = .ok (.if_icmp .eq 9, 3) := by decide +kernel
theorem dX11_isDissonant_22 : decode cX11_isDissonant 22 = .ok (.iload_n 0, 1) := by decide +kernel
theorem dX11_isDissonant_23 : decode cX11_isDissonant 23 = .ok (.bipush 11, 2) := by decide +kernel
theorem dX11_isDissonant_25 : decode cX11_isDissonant 25 = .ok (.if_icmp .ne 7, 3) := by decide +kernel
theorem dX11_isDissonant_28 : decode cX11_isDissonant 28 = .ok (.iconst 1, 1) := by decide +kernel
theorem dX11_isDissonant_29 : decode cX11_isDissonant 29 = .ok (.goto 4, 3) := by decide +kernel
theorem dX11_isDissonant_32 : decode cX11_isDissonant 32 = .ok (.iconst 0, 1) := by decide +kernel
theorem dX11_isDissonant_33 : decode cX11_isDissonant 33 = .ok (.ireturn, 1) := by decide +kernel
def f_X11_isDissonant (p1 : Int32) : Option (Int32) :=
  q_br (p1 = 1) (
  some 1) (
  q_br (p1 = 2) (
  some 1) (
  q_br (p1 = 6) (
  some 1) (
  q_br (p1 = 10) (
  some 1) (
  q_br (p1 = 11) (
  some 1) (
  some 0)))))
theorem hv_X11_isDissonant : yX11_isDissonant.cls = RX11 ∧ yX11_isDissonant.cls ≠ "java/lang/invoke/MethodHandle" ∧ yX11_isDissonant.cls ≠ "java/lang/invoke/VarHandle" ∧ (parseMethodDescriptor yX11_isDissonant.desc).map (fun d => d.parameters.length) = some 1 := by decide +kernel
abbrev rm_X11_isDissonant : Room := { frames := 0, cells := 0, slots := 0, locals := 0 }
set_option maxHeartbeats 4000000 in
set_option maxRecDepth 100000 in
theorem k_X11_isDissonant (l : Launch) (E : ET) (p1 : Int32) (res : Int32) (hF : f_X11_isDissonant p1 = some res) (sz : Nat) : CtI l yX11_isDissonant (mws yX11_isDissonant cX11_isDissonant 1 (some .boolean)) rm_X11_isDissonant 0 0 [.int p1] E ([]) res ([]) sz := by
  refine mk_M (by decide +kernel) (Nat.le_of_ble_eq_true rfl) ?_
  intro p e s m below meth c A args Q ls hAe hsz hQ hx hb hr hml hin ha hown hlocks hA hz hzs hst hP hD hS hl
  have hown : s.vm.findClass RX11 = some m.cls := hown
  rw [hAe] at hQ
  subst hsz
  have hP : va_P E.1 vwCl (List.flatten []) s.heap := hP
  have hD : va_D A (List.flatten []) := hD
  have hl : lv_has ls 1 [(0, .int p1)] := hl
  generalize hHe : s.heap = H at hP
  have hS : va_S A s.heap H [] := by rw [← hHe]; exact hS
  generalize ([] : List Loc) = locs at hS ⊢
  unfold f_X11_isDissonant at hF
  refine lv_iload_n hx hb dX11_isDissonant_0 rfl (lv_at hl 0 rfl) ?_
  refine lv_iconst (v := 1) hx hb dX11_isDissonant_1 (by decide) ?_
  refine lv_icmp_eq (tgt := 28) hx hb dX11_isDissonant_2 (by decide) (fun c2 => ?_) (fun c2 => ?_)
  · have hF := q_brp c2 hF
    refine lv_iconst (v := 1) hx hb dX11_isDissonant_28 (by decide) ?_
    refine lv_goto (tgt := 33) hx hb dX11_isDissonant_29 (by decide) ?_
    obtain rfl := Option.some.inj hF
    exact en_z hQ (Nat.le_of_ble_eq_true rfl) (Nat.le_of_ble_eq_true rfl) hx hb hr hlocks (by decide) hP hD hS rfl dX11_isDissonant_33
  · have hF := q_brn c2 hF
    refine lv_iload_n hx hb dX11_isDissonant_5 rfl (lv_at hl 0 rfl) ?_
    refine lv_iconst (v := 2) hx hb dX11_isDissonant_6 (by decide) ?_
    refine lv_icmp_eq (tgt := 28) hx hb dX11_isDissonant_7 (by decide) (fun c7 => ?_) (fun c7 => ?_)
    · have hF := q_brp c7 hF
      refine lv_iconst (v := 1) hx hb dX11_isDissonant_28 (by decide) ?_
      refine lv_goto (tgt := 33) hx hb dX11_isDissonant_29 (by decide) ?_
      obtain rfl := Option.some.inj hF
      exact en_z hQ (Nat.le_of_ble_eq_true rfl) (Nat.le_of_ble_eq_true rfl) hx hb hr hlocks (by decide) hP hD hS rfl dX11_isDissonant_33
    · have hF := q_brn c7 hF
      refine lv_iload_n hx hb dX11_isDissonant_10 rfl (lv_at hl 0 rfl) ?_
      refine lv_bipush (v := 6) hx hb dX11_isDissonant_11 (by decide) ?_
      refine lv_icmp_eq (tgt := 28) hx hb dX11_isDissonant_13 (by decide) (fun c13 => ?_) (fun c13 => ?_)
      · have hF := q_brp c13 hF
        refine lv_iconst (v := 1) hx hb dX11_isDissonant_28 (by decide) ?_
        refine lv_goto (tgt := 33) hx hb dX11_isDissonant_29 (by decide) ?_
        obtain rfl := Option.some.inj hF
        exact en_z hQ (Nat.le_of_ble_eq_true rfl) (Nat.le_of_ble_eq_true rfl) hx hb hr hlocks (by decide) hP hD hS rfl dX11_isDissonant_33
      · have hF := q_brn c13 hF
        refine lv_iload_n hx hb dX11_isDissonant_16 rfl (lv_at hl 0 rfl) ?_
        refine lv_bipush (v := 10) hx hb dX11_isDissonant_17 (by decide) ?_
        refine lv_icmp_eq (tgt := 28) hx hb dX11_isDissonant_19 (by decide) (fun c19 => ?_) (fun c19 => ?_)
        · have hF := q_brp c19 hF
          refine lv_iconst (v := 1) hx hb dX11_isDissonant_28 (by decide) ?_
          refine lv_goto (tgt := 33) hx hb dX11_isDissonant_29 (by decide) ?_
          obtain rfl := Option.some.inj hF
          exact en_z hQ (Nat.le_of_ble_eq_true rfl) (Nat.le_of_ble_eq_true rfl) hx hb hr hlocks (by decide) hP hD hS rfl dX11_isDissonant_33
        · have hF := q_brn c19 hF
          refine lv_iload_n hx hb dX11_isDissonant_22 rfl (lv_at hl 0 rfl) ?_
          refine lv_bipush (v := 11) hx hb dX11_isDissonant_23 (by decide) ?_
          refine lv_icmp_ne (tgt := 32) hx hb dX11_isDissonant_25 (by decide) (fun c25 => ?_) (fun c25 => ?_)
          · have hF := q_brn c25 hF
            refine lv_iconst (v := 0) hx hb dX11_isDissonant_32 (by decide) ?_
            obtain rfl := Option.some.inj hF
            exact en_z hQ (Nat.le_of_ble_eq_true rfl) (Nat.le_of_ble_eq_true rfl) hx hb hr hlocks (by decide) hP hD hS rfl dX11_isDissonant_33
          · have hF := q_brp c25 hF
            refine lv_iconst (v := 1) hx hb dX11_isDissonant_28 (by decide) ?_
            refine lv_goto (tgt := 33) hx hb dX11_isDissonant_29 (by decide) ?_
            obtain rfl := Option.some.inj hF
            exact en_z hQ (Nat.le_of_ble_eq_true rfl) (Nat.le_of_ble_eq_true rfl) hx hb hr hlocks (by decide) hP hD hS rfl dX11_isDissonant_33

/-! X11_pairs -/
theorem dX11_pairs_0 : decode cX11_pairs 0 = .ok (.aload_n 0, 1) := by decide +kernel
theorem dX11_pairs_1 : decode cX11_pairs 1 = .ok (.iload_n 1, 1) := by decide +kernel
theorem dX11_pairs_2 : decode cX11_pairs 2 = .ok (.invokevirtual 168, 3) := by decide +kernel
theorem dX11_pairs_5 : decode cX11_pairs 5 = .ok (.iconst 0, 1) := by decide +kernel
theorem dX11_pairs_6 : decode cX11_pairs 6 = .ok (.istore_n 3, 1) := by decide +kernel
theorem dX11_pairs_7 : decode cX11_pairs 7 = .ok (.iconst 0, 1) := by decide +kernel
theorem dX11_pairs_8 : decode cX11_pairs 8 = .ok (.istore 4, 2) := by decide +kernel
theorem dX11_pairs_10 : decode cX11_pairs 10 = .ok (.iload 4, 2) := by decide +kernel
theorem dX11_pairs_12 : decode cX11_pairs 12 = .ok (.aload_n 0, 1) := by decide +kernel
theorem dX11_pairs_13 : decode cX11_pairs 13 = .ok (.getfield 157, 3) := by decide +kernel
theorem dX11_pairs_16 : decode cX11_pairs 16 = .ok (.if_icmp .ge 93, 3) := by decide +kernel
theorem dX11_pairs_19 : decode cX11_pairs 19 = .ok (.iconst 0, 1) := by decide +kernel
theorem dX11_pairs_20 : decode cX11_pairs 20 = .ok (.istore 5, 2) := by decide +kernel
theorem dX11_pairs_22 : decode cX11_pairs 22 = .ok (.iload 5, 2) := by decide +kernel
theorem dX11_pairs_24 : decode cX11_pairs 24 = .ok (.iload 4, 2) := by decide +kernel
theorem dX11_pairs_26 : decode cX11_pairs 26 = .ok (.if_icmp .ge 77, 3) := by decide +kernel
theorem dX11_pairs_29 : decode cX11_pairs 29 = .ok (.aload_n 0, 1) := by decide +kernel
theorem dX11_pairs_30 : decode cX11_pairs 30 = .ok (.getfield 36, 3) := by decide +kernel
theorem dX11_pairs_33 : decode cX11_pairs 33 = .ok (.iload 4, 2) := by decide +kernel
theorem dX11_pairs_35 : decode cX11_pairs 35 = .ok (.iaload, 1) := by decide +kernel
theorem dX11_pairs_36 : decode cX11_pairs 36 = .ok (.aload_n 0, 1) := by decide +kernel
theorem dX11_pairs_37 : decode cX11_pairs 37 = .ok (.getfield 36, 3) := by decide +kernel
theorem dX11_pairs_40 : decode cX11_pairs 40 = .ok (.iload 5, 2) := by decide +kernel
theorem dX11_pairs_42 : decode cX11_pairs 42 = .ok (.iaload, 1) := by decide +kernel
theorem dX11_pairs_43 : decode cX11_pairs 43 = .ok (.isub, 1) := by decide +kernel
theorem dX11_pairs_44 : decode cX11_pairs 44 = .ok (.bipush 12, 2) := by decide +kernel
theorem dX11_pairs_46 : decode cX11_pairs 46 = .ok (.irem, 1) := by decide +kernel
theorem dX11_pairs_47 : decode cX11_pairs 47 = .ok (.istore 6, 2) := by decide +kernel
theorem dX11_pairs_49 : decode cX11_pairs 49 = .ok (.iload 6, 2) := by decide +kernel
theorem dX11_pairs_51 : decode cX11_pairs 51 = .ok (.iconst 3, 1) := by decide +kernel
theorem dX11_pairs_52 : decode cX11_pairs 52 = .ok (.if_icmp .eq 9, 3) := by decide +kernel
theorem dX11_pairs_55 : decode cX11_pairs 55 = .ok (.iload 6, 2) := by decide +kernel
theorem dX11_pairs_57 : decode cX11_pairs 57 = .ok (.iconst 4, 1) := by decide +kernel
theorem dX11_pairs_58 : decode cX11_pairs 58 = .ok (.if_icmp .ne 7, 3) := by decide +kernel
theorem dX11_pairs_61 : decode cX11_pairs 61 = .ok (.iconst 1, 1) := by decide +kernel
theorem dX11_pairs_62 : decode cX11_pairs 62 = .ok (.goto 4, 3) := by decide +kernel
theorem dX11_pairs_65 : decode cX11_pairs 65 = .ok (.iconst 0, 1) := by decide +kernel
theorem dX11_pairs_66 : decode cX11_pairs 66 = .ok (.istore 7, 2) := by decide +kernel
theorem dX11_pairs_68 : decode cX11_pairs 68 = .ok (.iload_n 3, 1) := by decide +kernel
theorem dX11_pairs_69 : decode cX11_pairs 69 = .ok (.iload_n 2, 1) := by decide +kernel
theorem dX11_pairs_70 : decode cX11_pairs 70 = .ok (.ifCond .eq 8, 3) := by decide +kernel
theorem dX11_pairs_73 : decode cX11_pairs 73 = .ok (.iload 7, 2) := by decide +kernel
theorem dX11_pairs_75 : decode cX11_pairs 75 = .ok (.ifCond .ne 15, 3) := by decide +kernel
theorem dX11_pairs_78 : decode cX11_pairs 78 = .ok (.iload_n 2, 1) := by decide +kernel
theorem dX11_pairs_79 : decode cX11_pairs 79 = .ok (.ifCond .ne 15, 3) := by decide +kernel
theorem dX11_pairs_82 : decode cX11_pairs 82 = .ok (.iload 6, 2) := by decide +kernel
theorem dX11_pairs_84 : decode cX11_pairs 84 = .ok (.invokestatic 171, 3) := by decide +kernel
theorem dX11_pairs_87 : decode cX11_pairs 87 = .ok (.ifCond .eq 7, 3) := by decide +kernel
theorem dX11_pairs_90 : decode cX11_pairs 90 = .ok (.iconst 1, 1) := by decide +kernel
theorem dX11_pairs_91 : decode cX11_pairs 91 = .ok (.goto 4, 3) := by decide +kernel
theorem dX11_pairs_94 : decode cX11_pairs 94 = .ok (.iconst 0, 1) := by decide +kernel
theorem dX11_pairs_95 : decode cX11_pairs 95 = .ok (.iadd, 1) := by decide +kernel
theorem dX11_pairs_96 : decode cX11_pairs 96 = .ok (.istore_n 3, 1) := by decide +kernel
theorem dX11_pairs_97 : decode cX11_pairs 97 = .ok (.iinc 5 1, 3) := by decide +kernel
theorem dX11_pairs_100 : decode cX11_pairs 100 = .ok (.goto (-78), 3) := by decide +kernel
theorem dX11_pairs_103 : decode cX11_pairs 103 = .ok (.iinc 4 1, 3) := by decide +kernel
theorem dX11_pairs_106 : decode cX11_pairs 106 = .ok (.goto (-96), 3) := by decide +kernel
theorem dX11_pairs_109 : decode cX11_pairs 109 = .ok (.iload_n 3, 1) := by decide +kernel
theorem dX11_pairs_110 : decode cX11_pairs 110 = .ok (.ireturn, 1) := by decide +kernel
def f_X11_pairs_L22 (p2 : Int32) (q1 : (Nat → Int32) × Int32) (i2 : Int32) (K22 : Int32 → Option (Int32 × (Nat → Int32) × Int32)) : Nat → Int32 → Int32 → Option (Int32 × (Nat → Int32) × Int32)
  | 0, _, _ => none
  | n22 + 1, i4, i5 =>
    q_br (i2 ≤ i4) (
  K22 i5) (
  q_gd (q_in i2 24) (
  q_gd (q_in i4 24) (
  q_lt (((q1.1 (i2.toNatClampNeg)) - (q1.1 (i4.toNatClampNeg))) - ((q1.1 (i2.toNatClampNeg)) - (q1.1 (i4.toNatClampNeg))) / 12 * 12 : Int32) (fun v9 =>
  q_lt (fun (j10 : Int32) =>
  q_lt (fun (j11 : Int32) =>
  q_lt (i5 + j11 : Int32) (fun v12 =>
  q_lt (i4 + 1 : Int32) (fun v13 =>
  f_X11_pairs_L22 p2 q1 i2 K22 n22 v13 v12))) (fun (J95 : Int32 → Option (Int32 × (Nat → Int32) × Int32)) =>
  q_lt (fun (_ : Unit) =>
  q_br (p2 = 0) (
  q_bd (f_X11_isDissonant v9) (fun q14 =>
  q_br (q14 = 0) (
  J95 0) (
  J95 1))) (
  J95 0)) (fun (J78 : Unit → Option (Int32 × (Nat → Int32) × Int32)) =>
  q_br (p2 = 0) (
  J78 (())) (
  q_br (j10 = 0) (
  J78 (())) (
  J95 1))))) (fun (J66 : Int32 → Option (Int32 × (Nat → Int32) × Int32)) =>
  q_br (v9 = 3) (
  J66 1) (
  q_br (v9 = 4) (
  J66 1) (
  J66 0)))))))
def f_X11_pairs_L10 (p2 : Int32) (q1 : (Nat → Int32) × Int32) : Nat → Int32 → Int32 → Option (Int32 × (Nat → Int32) × Int32)
  | 0, _, _ => none
  | n10 + 1, i2, i3 =>
    q_br (q1.2 ≤ i2) (
  some (i3, q1.1, q1.2)) (
  f_X11_pairs_L22 p2 q1 i2 (fun y6 =>
  q_lt (i2 + 1 : Int32) (fun v15 =>
  f_X11_pairs_L10 p2 q1 n10 v15 y6)) 2000 0 i3)
def f_X11_pairs (x_g : (Nat → Int32)) (x_notes : (Nat → Int32)) (x_noteCount : Int32) (p1 : Int32) (p2 : Int32) : Option (Int32 × (Nat → Int32) × Int32) :=
  q_bd (f_X11_listens x_g x_notes x_noteCount p1) (fun q1 =>
  f_X11_pairs_L10 p2 q1 2000 0 0)
theorem hv_X11_pairs : yX11_pairs.cls = RX11 ∧ yX11_pairs.cls ≠ "java/lang/invoke/MethodHandle" ∧ yX11_pairs.cls ≠ "java/lang/invoke/VarHandle" ∧ (parseMethodDescriptor yX11_pairs.desc).map (fun d => d.parameters.length) = some 2 := by decide +kernel
abbrev rm_X11_pairs : Room := { frames := 3, cells := 0, slots := 0, locals := 68 }
set_option maxHeartbeats 4000000 in
set_option maxRecDepth 100000 in
theorem k_X11_pairs (l : Launch) (E : ET) (a : Nat → Nat) (o : Nat) (x : Model_t) (p1 : Int32) (p2 : Int32) (res : Int32 × (Nat → Int32) × Int32) (hF : f_X11_pairs x.1 x.2.2.2.2.2.2.2.2.2.2.2.2.1 x.2.2.2.2.2.2.2.2.2.2.2.2.2.1 p1 p2 = some res) (sz : Nat) : CtI l yX11_pairs (mws yX11_pairs cX11_pairs 8 (some .int)) rm_X11_pairs 0 0 [.ref (a o), .int p1, .int p2] E (bl_Model E a o x) res.1 (bl_Model E a o (x.1, x.2.1, x.2.2.1, x.2.2.2.1, x.2.2.2.2.1, x.2.2.2.2.2.1, x.2.2.2.2.2.2.1, x.2.2.2.2.2.2.2.1, x.2.2.2.2.2.2.2.2.1, x.2.2.2.2.2.2.2.2.2.1, x.2.2.2.2.2.2.2.2.2.2.1, x.2.2.2.2.2.2.2.2.2.2.2.1, res.2.1, res.2.2, x.2.2.2.2.2.2.2.2.2.2.2.2.2.2.1, x.2.2.2.2.2.2.2.2.2.2.2.2.2.2.2.1, x.2.2.2.2.2.2.2.2.2.2.2.2.2.2.2.2.1, x.2.2.2.2.2.2.2.2.2.2.2.2.2.2.2.2.2)) sz := by
  refine mk_M (by decide +kernel) (Nat.le_of_ble_eq_true rfl) ?_
  intro p e s m below meth c A args Q ls hAe hsz hQ hx hb hr hml hin ha hown hlocks hA hz hzs hst hP hD hS hl
  have hown : s.vm.findClass RX11 = some m.cls := hown
  rw [hAe] at hQ
  subst hsz
  have hP : va_P E.1 vwCl (List.flatten [w_Model E a o x]) s.heap := hP
  have hD : va_D A (List.flatten [w_Model E a o x]) := hD
  have hl : lv_has ls 8 [(0, .ref (a o)), (1, .int p1), (2, .int p2)] := hl
  generalize hHe : s.heap = H at hP
  have hS : va_S A s.heap H [] := by rw [← hHe]; exact hS
  generalize ([] : List Loc) = locs at hS ⊢
  unfold f_X11_pairs at hF
  refine lv_aload_n hx hb dX11_pairs_0 rfl (lv_at hl 0 rfl) ?_
  refine lv_iload_n hx hb dX11_pairs_1 rfl (lv_at hl 1 rfl) ?_
  obtain ⟨q1, hq1, hF⟩ := q_bdi hF
  refine cl_v (Lc := [w_Model E a o x]) (Lc' := [w_Model E a o (x.1, x.2.1, x.2.2.1, x.2.2.2.1, x.2.2.2.2.1, x.2.2.2.2.2.1, x.2.2.2.2.2.2.1, x.2.2.2.2.2.2.2.1, x.2.2.2.2.2.2.2.2.1, x.2.2.2.2.2.2.2.2.2.1, x.2.2.2.2.2.2.2.2.2.2.1, x.2.2.2.2.2.2.2.2.2.2.2.1, q1.1, q1.2, x.2.2.2.2.2.2.2.2.2.2.2.2.2.2.1, x.2.2.2.2.2.2.2.2.2.2.2.2.2.2.2.1, x.2.2.2.2.2.2.2.2.2.2.2.2.2.2.2.2.1, x.2.2.2.2.2.2.2.2.2.2.2.2.2.2.2.2.2)]) (L' := [w_Model E a o (x.1, x.2.1, x.2.2.1, x.2.2.2.1, x.2.2.2.2.1, x.2.2.2.2.2.1, x.2.2.2.2.2.2.1, x.2.2.2.2.2.2.2.1, x.2.2.2.2.2.2.2.2.1, x.2.2.2.2.2.2.2.2.2.1, x.2.2.2.2.2.2.2.2.2.2.1, x.2.2.2.2.2.2.2.2.2.2.2.1, q1.1, q1.2, x.2.2.2.2.2.2.2.2.2.2.2.2.2.2.1, x.2.2.2.2.2.2.2.2.2.2.2.2.2.2.2.1, x.2.2.2.2.2.2.2.2.2.2.2.2.2.2.2.2.1, x.2.2.2.2.2.2.2.2.2.2.2.2.2.2.2.2.2)]) (va_runV (As := [.int p1]) (rest := []) ⟨hx, hb, hml, hown, ha⟩ (k_X11_listens l E a o x p1 q1 hq1 H.size) (cwV 1 ha (gi_V (fun _ h => h) mw1970 mw1972 mw54 mw87 mw1973) rfl rfl rfl hv_X11_listens ⟨(Nat.le_of_ble_eq_true rfl), (Nat.le_of_ble_eq_true rfl)⟩) ⟨pre_blind, va_recv hst.k (fr_P hP [0] rfl) (ci := 13) (q0 := 0) rfl rfl, pre_at hP hD hS hz hzs hst [0] (by decide) rfl rfl⟩ rfl rfl hl.1 rfl (lv_room (Nat.le_of_ble_eq_true rfl)) dX11_pairs_2 ⟨(Nat.le_of_ble_eq_true rfl), (Nat.le_of_ble_eq_true rfl)⟩) hP hD hS hA [0] (by decide) rfl rfl rfl rfl (fun H locs hP hD hS => ?_)
  refine lv_iconst (v := 0) hx hb dX11_pairs_5 (by decide) ?_
  refine lv_istore_n (lv' := [(3, .int 0), (0, .ref (a o)), (1, .int p1), (2, .int p2)]) hx hb dX11_pairs_6 rfl hl (by decide) rfl (fun ls hl => ?_)
  refine lv_iconst (v := 0) hx hb dX11_pairs_7 (by decide) ?_
  refine lv_istore (lv' := [(4, .int 0), (3, .int 0), (0, .ref (a o)), (1, .int p1), (2, .int p2)]) hx hb dX11_pairs_8 hl (by decide) rfl (fun ls hl => ?_)
  have key10 : ∀ (n : Nat) (i2 : Int32) (i3 : Int32) (H : Heap) (locs : List Loc) (ls : Array Slot), f_X11_pairs_L10 p2 q1 n i2 i3 = some res → va_P E.1 vwCl (List.flatten [w_Model E a o (x.1, x.2.1, x.2.2.1, x.2.2.2.1, x.2.2.2.2.1, x.2.2.2.2.2.1, x.2.2.2.2.2.2.1, x.2.2.2.2.2.2.2.1, x.2.2.2.2.2.2.2.2.1, x.2.2.2.2.2.2.2.2.2.1, x.2.2.2.2.2.2.2.2.2.2.1, x.2.2.2.2.2.2.2.2.2.2.2.1, q1.1, q1.2, x.2.2.2.2.2.2.2.2.2.2.2.2.2.2.1, x.2.2.2.2.2.2.2.2.2.2.2.2.2.2.2.1, x.2.2.2.2.2.2.2.2.2.2.2.2.2.2.2.2.1, x.2.2.2.2.2.2.2.2.2.2.2.2.2.2.2.2.2)]) H → va_D A (List.flatten [w_Model E a o (x.1, x.2.1, x.2.2.1, x.2.2.2.1, x.2.2.2.2.1, x.2.2.2.2.2.1, x.2.2.2.2.2.2.1, x.2.2.2.2.2.2.2.1, x.2.2.2.2.2.2.2.2.1, x.2.2.2.2.2.2.2.2.2.1, x.2.2.2.2.2.2.2.2.2.2.1, x.2.2.2.2.2.2.2.2.2.2.2.1, q1.1, q1.2, x.2.2.2.2.2.2.2.2.2.2.2.2.2.2.1, x.2.2.2.2.2.2.2.2.2.2.2.2.2.2.2.1, x.2.2.2.2.2.2.2.2.2.2.2.2.2.2.2.2.1, x.2.2.2.2.2.2.2.2.2.2.2.2.2.2.2.2.2)]) → va_S A s.heap H locs → lv_has ls 8 [(4, .int i2), (3, .int i3), (0, .ref (a o)), (2, .int p2)] → W p l e rm_X11_pairs s m args below meth c H locs 0 0 Q (F0 m 10 ls []) := by
    intro n10
    induction n10 with
    | zero => intro i2 i3 H locs ls hF; exact absurd hF (by simp [f_X11_pairs_L10])
    | succ n10 ih10 =>
      intro i2 i3 H locs ls hF hP hD hS hl
      rw [f_X11_pairs_L10] at hF
      refine lv_iload hx hb dX11_pairs_10 (lv_at hl 0 rfl) ?_
      refine lv_aload_n hx hb dX11_pairs_12 rfl (lv_at hl 2 rfl) ?_
      refine va_get (D := E.1) (ci := 13) (v := .int q1.2) (C := RX11) (T := TX11) (N := 18) hx hb ha in_X11 hown hst.k hP 0 rfl rfl 13 (by decide) (ha _ mw1649) (fun _ h9 => h9) rfl dX11_pairs_13 ?_
      refine lv_icmp_ge (tgt := 109) hx hb dX11_pairs_16 (by decide) (fun c16 => ?_) (fun c16 => ?_)
      · have hF := q_brp c16 hF
        refine lv_iload_n hx hb dX11_pairs_109 rfl (lv_at hl 1 rfl) ?_
        obtain rfl := Option.some.inj hF
        exact en_i hQ (Nat.le_of_ble_eq_true rfl) (Nat.le_of_ble_eq_true rfl) hx hb hr hlocks hP hD hS rfl dX11_pairs_110
      · have hF := q_brn c16 hF
        refine lv_iconst (v := 0) hx hb dX11_pairs_19 (by decide) ?_
        refine lv_istore (lv' := [(5, .int 0), (4, .int i2), (3, .int i3), (0, .ref (a o)), (2, .int p2)]) hx hb dX11_pairs_20 hl (by decide) rfl (fun ls hl => ?_)
        have key22 : ∀ (K : Int32 → Option (Int32 × (Nat → Int32) × Int32)), (∀ (y6 : Int32) (H : Heap) (locs : List Loc) (ls : Array Slot), K y6 = some res → va_P E.1 vwCl (List.flatten [w_Model E a o (x.1, x.2.1, x.2.2.1, x.2.2.2.1, x.2.2.2.2.1, x.2.2.2.2.2.1, x.2.2.2.2.2.2.1, x.2.2.2.2.2.2.2.1, x.2.2.2.2.2.2.2.2.1, x.2.2.2.2.2.2.2.2.2.1, x.2.2.2.2.2.2.2.2.2.2.1, x.2.2.2.2.2.2.2.2.2.2.2.1, q1.1, q1.2, x.2.2.2.2.2.2.2.2.2.2.2.2.2.2.1, x.2.2.2.2.2.2.2.2.2.2.2.2.2.2.2.1, x.2.2.2.2.2.2.2.2.2.2.2.2.2.2.2.2.1, x.2.2.2.2.2.2.2.2.2.2.2.2.2.2.2.2.2)]) H → va_D A (List.flatten [w_Model E a o (x.1, x.2.1, x.2.2.1, x.2.2.2.1, x.2.2.2.2.1, x.2.2.2.2.2.1, x.2.2.2.2.2.2.1, x.2.2.2.2.2.2.2.1, x.2.2.2.2.2.2.2.2.1, x.2.2.2.2.2.2.2.2.2.1, x.2.2.2.2.2.2.2.2.2.2.1, x.2.2.2.2.2.2.2.2.2.2.2.1, q1.1, q1.2, x.2.2.2.2.2.2.2.2.2.2.2.2.2.2.1, x.2.2.2.2.2.2.2.2.2.2.2.2.2.2.2.1, x.2.2.2.2.2.2.2.2.2.2.2.2.2.2.2.2.1, x.2.2.2.2.2.2.2.2.2.2.2.2.2.2.2.2.2)]) → va_S A s.heap H locs → lv_has ls 8 [(4, .int i2), (3, .int y6), (0, .ref (a o)), (2, .int p2)] → W p l e rm_X11_pairs s m args below meth c H locs 0 0 Q (F0 m 103 ls [])) → ∀ (n : Nat) (i4 : Int32) (i5 : Int32) (H : Heap) (locs : List Loc) (ls : Array Slot), f_X11_pairs_L22 p2 q1 i2 K n i4 i5 = some res → va_P E.1 vwCl (List.flatten [w_Model E a o (x.1, x.2.1, x.2.2.1, x.2.2.2.1, x.2.2.2.2.1, x.2.2.2.2.2.1, x.2.2.2.2.2.2.1, x.2.2.2.2.2.2.2.1, x.2.2.2.2.2.2.2.2.1, x.2.2.2.2.2.2.2.2.2.1, x.2.2.2.2.2.2.2.2.2.2.1, x.2.2.2.2.2.2.2.2.2.2.2.1, q1.1, q1.2, x.2.2.2.2.2.2.2.2.2.2.2.2.2.2.1, x.2.2.2.2.2.2.2.2.2.2.2.2.2.2.2.1, x.2.2.2.2.2.2.2.2.2.2.2.2.2.2.2.2.1, x.2.2.2.2.2.2.2.2.2.2.2.2.2.2.2.2.2)]) H → va_D A (List.flatten [w_Model E a o (x.1, x.2.1, x.2.2.1, x.2.2.2.1, x.2.2.2.2.1, x.2.2.2.2.2.1, x.2.2.2.2.2.2.1, x.2.2.2.2.2.2.2.1, x.2.2.2.2.2.2.2.2.1, x.2.2.2.2.2.2.2.2.2.1, x.2.2.2.2.2.2.2.2.2.2.1, x.2.2.2.2.2.2.2.2.2.2.2.1, q1.1, q1.2, x.2.2.2.2.2.2.2.2.2.2.2.2.2.2.1, x.2.2.2.2.2.2.2.2.2.2.2.2.2.2.2.1, x.2.2.2.2.2.2.2.2.2.2.2.2.2.2.2.2.1, x.2.2.2.2.2.2.2.2.2.2.2.2.2.2.2.2.2)]) → va_S A s.heap H locs → lv_has ls 8 [(5, .int i4), (4, .int i2), (3, .int i5), (0, .ref (a o)), (2, .int p2)] → W p l e rm_X11_pairs s m args below meth c H locs 0 0 Q (F0 m 22 ls []) := by
          intro K22 hK22 n22
          induction n22 with
          | zero => intro i4 i5 H locs ls hF; exact absurd hF (by simp [f_X11_pairs_L22])
          | succ n22 ih22 =>
            intro i4 i5 H locs ls hF hP hD hS hl
            rw [f_X11_pairs_L22] at hF
            refine lv_iload hx hb dX11_pairs_22 (lv_at hl 0 rfl) ?_
            refine lv_iload hx hb dX11_pairs_24 (lv_at hl 1 rfl) ?_
            refine lv_icmp_ge (tgt := 103) hx hb dX11_pairs_26 (by decide) (fun c26 => ?_) (fun c26 => ?_)
            · have hF := q_brp c26 hF
              exact hK22 i5 H locs ls hF hP hD hS (lv_sub hl [1, 2, 3, 4] rfl)
            · have hF := q_brn c26 hF
              refine lv_aload_n hx hb dX11_pairs_29 rfl (lv_at hl 3 rfl) ?_
              refine va_get (D := E.1) (ci := 13) (v := .ref (a (o + 7))) (C := RX11) (T := TX11) (N := 18) hx hb ha in_X11 hown hst.k hP 0 rfl rfl 12 (by decide) (ha _ mw1648) (fun _ h9 => h9) rfl dX11_pairs_30 ?_
              refine lv_iload hx hb dX11_pairs_33 (lv_at hl 1 rfl) ?_
              obtain ⟨g7, hF⟩ := q_gdi hF
              refine vi_iald hx hb hst.k hP 7 0 rfl rfl (f := q1.1) (k := i2.toNatClampNeg) rfl g7 dX11_pairs_35 ?_
              refine lv_aload_n hx hb dX11_pairs_36 rfl (lv_at hl 3 rfl) ?_
              refine va_get (D := E.1) (ci := 13) (v := .ref (a (o + 7))) (C := RX11) (T := TX11) (N := 18) hx hb ha in_X11 hown hst.k hP 0 rfl rfl 12 (by decide) (ha _ mw1648) (fun _ h9 => h9) rfl dX11_pairs_37 ?_
              refine lv_iload hx hb dX11_pairs_40 (lv_at hl 0 rfl) ?_
              obtain ⟨g8, hF⟩ := q_gdi hF
              refine vi_iald hx hb hst.k hP 7 0 rfl rfl (f := q1.1) (k := i4.toNatClampNeg) rfl g8 dX11_pairs_42 ?_
              refine lv_isub hx hb dX11_pairs_43 ?_
              refine lv_bipush (v := 12) hx hb dX11_pairs_44 (by decide) ?_
              refine lv_irem hx hb dX11_pairs_46 (by decide) ?_
              refine lv_topi (fun v9 ev9 => ?_)
              have hF := q_lti ev9 hF
              refine lv_istore (lv' := [(6, .int v9), (5, .int i4), (4, .int i2), (3, .int i5), (0, .ref (a o)), (2, .int p2)]) hx hb dX11_pairs_47 hl (by decide) rfl (fun ls hl => ?_)
              refine lv_iload hx hb dX11_pairs_49 (lv_at hl 0 rfl) ?_
              refine lv_iconst (v := 3) hx hb dX11_pairs_51 (by decide) ?_
              obtain ⟨J66, hJ66, hF⟩ := q_jn hF
              have jJ66 : ∀ (j10 : Int32), ∀ (H : Heap) (locs : List Loc) (ls : Array Slot), J66 j10 = some res → va_P E.1 vwCl (List.flatten [w_Model E a o (x.1, x.2.1, x.2.2.1, x.2.2.2.1, x.2.2.2.2.1, x.2.2.2.2.2.1, x.2.2.2.2.2.2.1, x.2.2.2.2.2.2.2.1, x.2.2.2.2.2.2.2.2.1, x.2.2.2.2.2.2.2.2.2.1, x.2.2.2.2.2.2.2.2.2.2.1, x.2.2.2.2.2.2.2.2.2.2.2.1, q1.1, q1.2, x.2.2.2.2.2.2.2.2.2.2.2.2.2.2.1, x.2.2.2.2.2.2.2.2.2.2.2.2.2.2.2.1, x.2.2.2.2.2.2.2.2.2.2.2.2.2.2.2.2.1, x.2.2.2.2.2.2.2.2.2.2.2.2.2.2.2.2.2)]) H → va_D A (List.flatten [w_Model E a o (x.1, x.2.1, x.2.2.1, x.2.2.2.1, x.2.2.2.2.1, x.2.2.2.2.2.1, x.2.2.2.2.2.2.1, x.2.2.2.2.2.2.2.1, x.2.2.2.2.2.2.2.2.1, x.2.2.2.2.2.2.2.2.2.1, x.2.2.2.2.2.2.2.2.2.2.1, x.2.2.2.2.2.2.2.2.2.2.2.1, q1.1, q1.2, x.2.2.2.2.2.2.2.2.2.2.2.2.2.2.1, x.2.2.2.2.2.2.2.2.2.2.2.2.2.2.2.1, x.2.2.2.2.2.2.2.2.2.2.2.2.2.2.2.2.1, x.2.2.2.2.2.2.2.2.2.2.2.2.2.2.2.2.2)]) → va_S A s.heap H locs → lv_has ls 8 [(6, .int v9), (5, .int i4), (4, .int i2), (3, .int i5), (0, .ref (a o)), (2, .int p2)] → W p l e rm_X11_pairs s m args below meth c H locs 0 0 Q (F0 m 66 ls [.int j10]) := by
                intro j10 H locs ls hF hP hD hS hl
                rw [hJ66] at hF
                refine lv_istore (lv' := [(7, .int j10), (6, .int v9), (5, .int i4), (4, .int i2), (3, .int i5), (0, .ref (a o)), (2, .int p2)]) hx hb dX11_pairs_66 hl (by decide) rfl (fun ls hl => ?_)
                refine lv_iload_n hx hb dX11_pairs_68 rfl (lv_at hl 4 rfl) ?_
                refine lv_iload_n hx hb dX11_pairs_69 rfl (lv_at hl 6 rfl) ?_
                obtain ⟨J95, hJ95, hF⟩ := q_jn hF
                have jJ95 : ∀ (j11 : Int32), ∀ (H : Heap) (locs : List Loc) (ls : Array Slot), J95 j11 = some res → va_P E.1 vwCl (List.flatten [w_Model E a o (x.1, x.2.1, x.2.2.1, x.2.2.2.1, x.2.2.2.2.1, x.2.2.2.2.2.1, x.2.2.2.2.2.2.1, x.2.2.2.2.2.2.2.1, x.2.2.2.2.2.2.2.2.1, x.2.2.2.2.2.2.2.2.2.1, x.2.2.2.2.2.2.2.2.2.2.1, x.2.2.2.2.2.2.2.2.2.2.2.1, q1.1, q1.2, x.2.2.2.2.2.2.2.2.2.2.2.2.2.2.1, x.2.2.2.2.2.2.2.2.2.2.2.2.2.2.2.1, x.2.2.2.2.2.2.2.2.2.2.2.2.2.2.2.2.1, x.2.2.2.2.2.2.2.2.2.2.2.2.2.2.2.2.2)]) H → va_D A (List.flatten [w_Model E a o (x.1, x.2.1, x.2.2.1, x.2.2.2.1, x.2.2.2.2.1, x.2.2.2.2.2.1, x.2.2.2.2.2.2.1, x.2.2.2.2.2.2.2.1, x.2.2.2.2.2.2.2.2.1, x.2.2.2.2.2.2.2.2.2.1, x.2.2.2.2.2.2.2.2.2.2.1, x.2.2.2.2.2.2.2.2.2.2.2.1, q1.1, q1.2, x.2.2.2.2.2.2.2.2.2.2.2.2.2.2.1, x.2.2.2.2.2.2.2.2.2.2.2.2.2.2.2.1, x.2.2.2.2.2.2.2.2.2.2.2.2.2.2.2.2.1, x.2.2.2.2.2.2.2.2.2.2.2.2.2.2.2.2.2)]) → va_S A s.heap H locs → lv_has ls 8 [(5, .int i4), (4, .int i2), (0, .ref (a o)), (2, .int p2)] → W p l e rm_X11_pairs s m args below meth c H locs 0 0 Q (F0 m 95 ls [.int j11, .int i5]) := by
                  intro j11 H locs ls hF hP hD hS hl
                  rw [hJ95] at hF
                  refine lv_iadd hx hb dX11_pairs_95 ?_
                  refine lv_topi (fun v12 ev12 => ?_)
                  have hF := q_lti ev12 hF
                  refine lv_istore_n (lv' := [(3, .int v12), (5, .int i4), (4, .int i2), (0, .ref (a o)), (2, .int p2)]) hx hb dX11_pairs_96 rfl hl (by decide) rfl (fun ls hl => ?_)
                  obtain ⟨v13, ev13⟩ : ∃ y : Int32, y = i4 + 1 := ⟨_, rfl⟩
                  have hF := q_lti ev13 hF
                  refine lv_iinc (v := v13) (lv' := [(5, .int v13), (3, .int v12), (4, .int i2), (0, .ref (a o)), (2, .int p2)]) hx hb dX11_pairs_97 hl (k := 1) rfl (by rw [ev13]; rfl) (by decide) rfl (fun ls hl => ?_)
                  refine lv_goto (tgt := 22) hx hb dX11_pairs_100 (by decide) ?_
                  exact ih22 v13 v12 H locs ls hF hP hD hS (lv_sub hl [0, 2, 1, 3, 4] rfl)
                obtain ⟨J78, hJ78, hF⟩ := q_jn hF
                have jJ78 : ∀ (H : Heap) (locs : List Loc) (ls : Array Slot), J78 () = some res → va_P E.1 vwCl (List.flatten [w_Model E a o (x.1, x.2.1, x.2.2.1, x.2.2.2.1, x.2.2.2.2.1, x.2.2.2.2.2.1, x.2.2.2.2.2.2.1, x.2.2.2.2.2.2.2.1, x.2.2.2.2.2.2.2.2.1, x.2.2.2.2.2.2.2.2.2.1, x.2.2.2.2.2.2.2.2.2.2.1, x.2.2.2.2.2.2.2.2.2.2.2.1, q1.1, q1.2, x.2.2.2.2.2.2.2.2.2.2.2.2.2.2.1, x.2.2.2.2.2.2.2.2.2.2.2.2.2.2.2.1, x.2.2.2.2.2.2.2.2.2.2.2.2.2.2.2.2.1, x.2.2.2.2.2.2.2.2.2.2.2.2.2.2.2.2.2)]) H → va_D A (List.flatten [w_Model E a o (x.1, x.2.1, x.2.2.1, x.2.2.2.1, x.2.2.2.2.1, x.2.2.2.2.2.1, x.2.2.2.2.2.2.1, x.2.2.2.2.2.2.2.1, x.2.2.2.2.2.2.2.2.1, x.2.2.2.2.2.2.2.2.2.1, x.2.2.2.2.2.2.2.2.2.2.1, x.2.2.2.2.2.2.2.2.2.2.2.1, q1.1, q1.2, x.2.2.2.2.2.2.2.2.2.2.2.2.2.2.1, x.2.2.2.2.2.2.2.2.2.2.2.2.2.2.2.1, x.2.2.2.2.2.2.2.2.2.2.2.2.2.2.2.2.1, x.2.2.2.2.2.2.2.2.2.2.2.2.2.2.2.2.2)]) → va_S A s.heap H locs → lv_has ls 8 [(6, .int v9), (5, .int i4), (4, .int i2), (0, .ref (a o)), (2, .int p2)] → W p l e rm_X11_pairs s m args below meth c H locs 0 0 Q (F0 m 78 ls [.int i5]) := by
                  intro  H locs ls hF hP hD hS hl
                  rw [hJ78] at hF
                  refine lv_iload_n hx hb dX11_pairs_78 rfl (lv_at hl 4 rfl) ?_
                  refine lv_if_ne (tgt := 94) hx hb dX11_pairs_79 (by decide) (fun c79 => ?_) (fun c79 => ?_)
                  · have hF := q_brn c79 hF
                    refine lv_iconst (v := 0) hx hb dX11_pairs_94 (by decide) ?_
                    exact jJ95 0 H locs ls hF hP hD hS (lv_sub hl [1, 2, 3, 4] rfl)
                  · have hF := q_brp c79 hF
                    refine lv_iload hx hb dX11_pairs_82 (lv_at hl 0 rfl) ?_
                    obtain ⟨q14, hq14, hF⟩ := q_bdi hF
                    refine cl_i (Lc := []) (Lc' := []) (L' := [w_Model E a o (x.1, x.2.1, x.2.2.1, x.2.2.2.1, x.2.2.2.2.1, x.2.2.2.2.2.1, x.2.2.2.2.2.2.1, x.2.2.2.2.2.2.2.1, x.2.2.2.2.2.2.2.2.1, x.2.2.2.2.2.2.2.2.2.1, x.2.2.2.2.2.2.2.2.2.2.1, x.2.2.2.2.2.2.2.2.2.2.2.1, q1.1, q1.2, x.2.2.2.2.2.2.2.2.2.2.2.2.2.2.1, x.2.2.2.2.2.2.2.2.2.2.2.2.2.2.2.1, x.2.2.2.2.2.2.2.2.2.2.2.2.2.2.2.2.1, x.2.2.2.2.2.2.2.2.2.2.2.2.2.2.2.2.2)]) (rv := q14) (va_runS (As := [.int v9]) (rest := [.int i5]) ⟨hx, hb, hml, hown, ha⟩ (k_X11_isDissonant l E v9 q14 hq14 H.size) (cwS 1 ha (gi_S (fun _ h => h) mw1994 mw1995 mw87 mw1996) rfl rfl rfl hv_X11_isDissonant ⟨(Nat.le_of_ble_eq_true rfl), (Nat.le_of_ble_eq_true rfl)⟩) ⟨pre_blind, pre_at hP hD hS hz hzs hst [] (by decide) rfl rfl⟩ rfl rfl hl.1 rfl (lv_room (Nat.le_of_ble_eq_true rfl)) dX11_pairs_84 ⟨(Nat.le_of_ble_eq_true rfl), (Nat.le_of_ble_eq_true rfl)⟩) hP hD hS hA [] (by decide) rfl rfl rfl rfl (fun H locs hP hD hS => ?_)
                    refine lv_if_eq (tgt := 94) hx hb dX11_pairs_87 (by decide) (fun c87 => ?_) (fun c87 => ?_)
                    · have hF := q_brp c87 hF
                      refine lv_iconst (v := 0) hx hb dX11_pairs_94 (by decide) ?_
                      exact jJ95 0 H locs ls hF hP hD hS (lv_sub hl [1, 2, 3, 4] rfl)
                    · have hF := q_brn c87 hF
                      refine lv_iconst (v := 1) hx hb dX11_pairs_90 (by decide) ?_
                      refine lv_goto (tgt := 95) hx hb dX11_pairs_91 (by decide) ?_
                      exact jJ95 1 H locs ls hF hP hD hS (lv_sub hl [1, 2, 3, 4] rfl)
                refine lv_if_eq (tgt := 78) hx hb dX11_pairs_70 (by decide) (fun c70 => ?_) (fun c70 => ?_)
                · have hF := q_brp c70 hF
                  exact jJ78 H locs ls hF hP hD hS (lv_sub hl [1, 2, 3, 5, 6] rfl)
                · have hF := q_brn c70 hF
                  refine lv_iload hx hb dX11_pairs_73 (lv_at hl 0 rfl) ?_
                  refine lv_if_ne (tgt := 90) hx hb dX11_pairs_75 (by decide) (fun c75 => ?_) (fun c75 => ?_)
                  · have hF := q_brn c75 hF
                    refine lv_iconst (v := 1) hx hb dX11_pairs_90 (by decide) ?_
                    refine lv_goto (tgt := 95) hx hb dX11_pairs_91 (by decide) ?_
                    exact jJ95 1 H locs ls hF hP hD hS (lv_sub hl [2, 3, 5, 6] rfl)
                  · have hF := q_brp c75 hF
                    exact jJ78 H locs ls hF hP hD hS (lv_sub hl [1, 2, 3, 5, 6] rfl)
              refine lv_icmp_eq (tgt := 61) hx hb dX11_pairs_52 (by decide) (fun c52 => ?_) (fun c52 => ?_)
              · have hF := q_brp c52 hF
                refine lv_iconst (v := 1) hx hb dX11_pairs_61 (by decide) ?_
                refine lv_goto (tgt := 66) hx hb dX11_pairs_62 (by decide) ?_
                exact jJ66 1 H locs ls hF hP hD hS (lv_sub hl [0, 1, 2, 3, 4, 5] rfl)
              · have hF := q_brn c52 hF
                refine lv_iload hx hb dX11_pairs_55 (lv_at hl 0 rfl) ?_
                refine lv_iconst (v := 4) hx hb dX11_pairs_57 (by decide) ?_
                refine lv_icmp_ne (tgt := 65) hx hb dX11_pairs_58 (by decide) (fun c58 => ?_) (fun c58 => ?_)
                · have hF := q_brn c58 hF
                  refine lv_iconst (v := 0) hx hb dX11_pairs_65 (by decide) ?_
                  exact jJ66 0 H locs ls hF hP hD hS (lv_sub hl [0, 1, 2, 3, 4, 5] rfl)
                · have hF := q_brp c58 hF
                  refine lv_iconst (v := 1) hx hb dX11_pairs_61 (by decide) ?_
                  refine lv_goto (tgt := 66) hx hb dX11_pairs_62 (by decide) ?_
                  exact jJ66 1 H locs ls hF hP hD hS (lv_sub hl [0, 1, 2, 3, 4, 5] rfl)
        refine key22 _ ?_ _ 0 i3 H locs ls hF hP hD hS (lv_sub hl [0, 1, 2, 3, 4] rfl)
        intro y6 H locs ls hF hP hD hS hl
        obtain ⟨v15, ev15⟩ : ∃ y : Int32, y = i2 + 1 := ⟨_, rfl⟩
        have hF := q_lti ev15 hF
        refine lv_iinc (v := v15) (lv' := [(4, .int v15), (3, .int y6), (0, .ref (a o)), (2, .int p2)]) hx hb dX11_pairs_103 hl (k := 0) rfl (by rw [ev15]; rfl) (by decide) rfl (fun ls hl => ?_)
        refine lv_goto (tgt := 10) hx hb dX11_pairs_106 (by decide) ?_
        exact ih10 v15 y6 H locs ls hF hP hD hS (lv_sub hl [0, 1, 2, 3] rfl)
  exact key10 _ 0 0 H locs ls hF hP hD hS (lv_sub hl [0, 1, 2, 4] rfl)

/-! X11_dissonances -/
theorem dX11_dissonances_0 : decode cX11_dissonances 0 = .ok (.aload_n 0, 1) := by decide +kernel
theorem dX11_dissonances_1 : decode cX11_dissonances 1 = .ok (.aload_n 0, 1) := by decide +kernel
theorem dX11_dissonances_2 : decode cX11_dissonances 2 = .ok (.iload_n 1, 1) := by decide +kernel
theorem dX11_dissonances_3 : decode cX11_dissonances 3 = .ok (.iconst 0, 1) := by decide +kernel
theorem dX11_dissonances_4 : decode cX11_dissonances 4 = .ok (.invokevirtual 174, 3) := by decide +kernel
theorem dX11_dissonances_7 : decode cX11_dissonances 7 = .ok (.invokevirtual 83, 3) := by decide +kernel
theorem dX11_dissonances_10 : decode cX11_dissonances 10 = .ok (.ireturn, 1) := by decide +kernel
def f_X11_dissonances (x_g : (Nat → Int32)) (x_notes : (Nat → Int32)) (x_noteCount : Int32) (x_thrown : Int32) (p1 : Int32) : Option (Int32 × (Nat → Int32) × Int32 × Int32) :=
  q_bd (f_X11_pairs x_g x_notes x_noteCount p1 0) (fun q1 =>
  q_bd (f_X11_done x_thrown q1.1) (fun q2 =>
  some (q2.1, q1.2.1, q1.2.2, q2.2)))
theorem hv_X11_dissonances : yX11_dissonances.cls = RX11 ∧ yX11_dissonances.cls ≠ "java/lang/invoke/MethodHandle" ∧ yX11_dissonances.cls ≠ "java/lang/invoke/VarHandle" ∧ (parseMethodDescriptor yX11_dissonances.desc).map (fun d => d.parameters.length) = some 1 := by decide +kernel
abbrev rm_X11_dissonances : Room := { frames := 4, cells := 0, slots := 0, locals := 95 }
set_option maxHeartbeats 4000000 in
set_option maxRecDepth 100000 in
theorem k_X11_dissonances (l : Launch) (E : ET) (a : Nat → Nat) (o : Nat) (x : Model_t) (p1 : Int32) (res : Int32 × (Nat → Int32) × Int32 × Int32) (hF : f_X11_dissonances x.1 x.2.2.2.2.2.2.2.2.2.2.2.2.1 x.2.2.2.2.2.2.2.2.2.2.2.2.2.1 x.2.2.2.2.2.2.2.2.2.2.2.2.2.2.1 p1 = some res) (sz : Nat) : CtI l yX11_dissonances (mws yX11_dissonances cX11_dissonances 2 (some .int)) rm_X11_dissonances 0 0 [.ref (a o), .int p1] E (bl_Model E a o x) res.1 (bl_Model E a o (x.1, x.2.1, x.2.2.1, x.2.2.2.1, x.2.2.2.2.1, x.2.2.2.2.2.1, x.2.2.2.2.2.2.1, x.2.2.2.2.2.2.2.1, x.2.2.2.2.2.2.2.2.1, x.2.2.2.2.2.2.2.2.2.1, x.2.2.2.2.2.2.2.2.2.2.1, x.2.2.2.2.2.2.2.2.2.2.2.1, res.2.1, res.2.2.1, res.2.2.2, x.2.2.2.2.2.2.2.2.2.2.2.2.2.2.2.1, x.2.2.2.2.2.2.2.2.2.2.2.2.2.2.2.2.1, x.2.2.2.2.2.2.2.2.2.2.2.2.2.2.2.2.2)) sz := by
  refine mk_M (by decide +kernel) (Nat.le_of_ble_eq_true rfl) ?_
  intro p e s m below meth c A args Q ls hAe hsz hQ hx hb hr hml hin ha hown hlocks hA hz hzs hst hP hD hS hl
  have hown : s.vm.findClass RX11 = some m.cls := hown
  rw [hAe] at hQ
  subst hsz
  have hP : va_P E.1 vwCl (List.flatten [w_Model E a o x]) s.heap := hP
  have hD : va_D A (List.flatten [w_Model E a o x]) := hD
  have hl : lv_has ls 2 [(0, .ref (a o)), (1, .int p1)] := hl
  generalize hHe : s.heap = H at hP
  have hS : va_S A s.heap H [] := by rw [← hHe]; exact hS
  generalize ([] : List Loc) = locs at hS ⊢
  unfold f_X11_dissonances at hF
  refine lv_aload_n hx hb dX11_dissonances_0 rfl (lv_at hl 0 rfl) ?_
  refine lv_aload_n hx hb dX11_dissonances_1 rfl (lv_at hl 0 rfl) ?_
  refine lv_iload_n hx hb dX11_dissonances_2 rfl (lv_at hl 1 rfl) ?_
  refine lv_iconst (v := 0) hx hb dX11_dissonances_3 (by decide) ?_
  obtain ⟨q1, hq1, hF⟩ := q_bdi hF
  refine cl_i (Lc := [w_Model E a o x]) (Lc' := [w_Model E a o (x.1, x.2.1, x.2.2.1, x.2.2.2.1, x.2.2.2.2.1, x.2.2.2.2.2.1, x.2.2.2.2.2.2.1, x.2.2.2.2.2.2.2.1, x.2.2.2.2.2.2.2.2.1, x.2.2.2.2.2.2.2.2.2.1, x.2.2.2.2.2.2.2.2.2.2.1, x.2.2.2.2.2.2.2.2.2.2.2.1, q1.2.1, q1.2.2, x.2.2.2.2.2.2.2.2.2.2.2.2.2.2.1, x.2.2.2.2.2.2.2.2.2.2.2.2.2.2.2.1, x.2.2.2.2.2.2.2.2.2.2.2.2.2.2.2.2.1, x.2.2.2.2.2.2.2.2.2.2.2.2.2.2.2.2.2)]) (L' := [w_Model E a o (x.1, x.2.1, x.2.2.1, x.2.2.2.1, x.2.2.2.2.1, x.2.2.2.2.2.1, x.2.2.2.2.2.2.1, x.2.2.2.2.2.2.2.1, x.2.2.2.2.2.2.2.2.1, x.2.2.2.2.2.2.2.2.2.1, x.2.2.2.2.2.2.2.2.2.2.1, x.2.2.2.2.2.2.2.2.2.2.2.1, q1.2.1, q1.2.2, x.2.2.2.2.2.2.2.2.2.2.2.2.2.2.1, x.2.2.2.2.2.2.2.2.2.2.2.2.2.2.2.1, x.2.2.2.2.2.2.2.2.2.2.2.2.2.2.2.2.1, x.2.2.2.2.2.2.2.2.2.2.2.2.2.2.2.2.2)]) (rv := q1.1) (va_runV (As := [.int p1, .int 0]) (rest := [.ref (a o)]) ⟨hx, hb, hml, hown, ha⟩ (k_X11_pairs l E a o x p1 0 q1 hq1 H.size) (cwV 2 ha (gi_V (fun _ h => h) mw1990 mw1992 mw57 mw87 mw1993) rfl rfl rfl hv_X11_pairs ⟨(Nat.le_of_ble_eq_true rfl), (Nat.le_of_ble_eq_true rfl)⟩) ⟨pre_blind, va_recv hst.k (fr_P hP [0] rfl) (ci := 13) (q0 := 0) rfl rfl, pre_at hP hD hS hz hzs hst [0] (by decide) rfl rfl⟩ rfl rfl hl.1 rfl (lv_room (Nat.le_of_ble_eq_true rfl)) dX11_dissonances_4 ⟨(Nat.le_of_ble_eq_true rfl), (Nat.le_of_ble_eq_true rfl)⟩) hP hD hS hA [0] (by decide) rfl rfl rfl rfl (fun H locs hP hD hS => ?_)
  obtain ⟨q2, hq2, hF⟩ := q_bdi hF
  refine cl_i (Lc := [w_Model E a o (x.1, x.2.1, x.2.2.1, x.2.2.2.1, x.2.2.2.2.1, x.2.2.2.2.2.1, x.2.2.2.2.2.2.1, x.2.2.2.2.2.2.2.1, x.2.2.2.2.2.2.2.2.1, x.2.2.2.2.2.2.2.2.2.1, x.2.2.2.2.2.2.2.2.2.2.1, x.2.2.2.2.2.2.2.2.2.2.2.1, q1.2.1, q1.2.2, x.2.2.2.2.2.2.2.2.2.2.2.2.2.2.1, x.2.2.2.2.2.2.2.2.2.2.2.2.2.2.2.1, x.2.2.2.2.2.2.2.2.2.2.2.2.2.2.2.2.1, x.2.2.2.2.2.2.2.2.2.2.2.2.2.2.2.2.2)]) (Lc' := [w_Model E a o (x.1, x.2.1, x.2.2.1, x.2.2.2.1, x.2.2.2.2.1, x.2.2.2.2.2.1, x.2.2.2.2.2.2.1, x.2.2.2.2.2.2.2.1, x.2.2.2.2.2.2.2.2.1, x.2.2.2.2.2.2.2.2.2.1, x.2.2.2.2.2.2.2.2.2.2.1, x.2.2.2.2.2.2.2.2.2.2.2.1, q1.2.1, q1.2.2, q2.2, x.2.2.2.2.2.2.2.2.2.2.2.2.2.2.2.1, x.2.2.2.2.2.2.2.2.2.2.2.2.2.2.2.2.1, x.2.2.2.2.2.2.2.2.2.2.2.2.2.2.2.2.2)]) (L' := [w_Model E a o (x.1, x.2.1, x.2.2.1, x.2.2.2.1, x.2.2.2.2.1, x.2.2.2.2.2.1, x.2.2.2.2.2.2.1, x.2.2.2.2.2.2.2.1, x.2.2.2.2.2.2.2.2.1, x.2.2.2.2.2.2.2.2.2.1, x.2.2.2.2.2.2.2.2.2.2.1, x.2.2.2.2.2.2.2.2.2.2.2.1, q1.2.1, q1.2.2, q2.2, x.2.2.2.2.2.2.2.2.2.2.2.2.2.2.2.1, x.2.2.2.2.2.2.2.2.2.2.2.2.2.2.2.2.1, x.2.2.2.2.2.2.2.2.2.2.2.2.2.2.2.2.2)]) (rv := q2.1) (va_runV (As := [.int q1.1]) (rest := []) ⟨hx, hb, hml, hown, ha⟩ (k_X11_done l E a o (x.1, x.2.1, x.2.2.1, x.2.2.2.1, x.2.2.2.2.1, x.2.2.2.2.2.1, x.2.2.2.2.2.2.1, x.2.2.2.2.2.2.2.1, x.2.2.2.2.2.2.2.2.1, x.2.2.2.2.2.2.2.2.2.1, x.2.2.2.2.2.2.2.2.2.2.1, x.2.2.2.2.2.2.2.2.2.2.2.1, q1.2.1, q1.2.2, x.2.2.2.2.2.2.2.2.2.2.2.2.2.2.1, x.2.2.2.2.2.2.2.2.2.2.2.2.2.2.2.1, x.2.2.2.2.2.2.2.2.2.2.2.2.2.2.2.2.1, x.2.2.2.2.2.2.2.2.2.2.2.2.2.2.2.2.2) q1.1 q2 hq2 H.size) (cwV 1 ha (gi_V (fun _ h => h) mw1720 mw1722 mw30 mw87 mw1723) rfl rfl rfl hv_X11_done ⟨(Nat.le_of_ble_eq_true rfl), (Nat.le_of_ble_eq_true rfl)⟩) ⟨pre_blind, va_recv hst.k (fr_P hP [0] rfl) (ci := 13) (q0 := 0) rfl rfl, pre_at hP hD hS hz hzs hst [0] (by decide) rfl rfl⟩ rfl rfl hl.1 rfl (lv_room (Nat.le_of_ble_eq_true rfl)) dX11_dissonances_7 ⟨(Nat.le_of_ble_eq_true rfl), (Nat.le_of_ble_eq_true rfl)⟩) hP hD hS hA [0] (by decide) rfl rfl rfl rfl (fun H locs hP hD hS => ?_)
  obtain rfl := Option.some.inj hF
  exact en_i hQ (Nat.le_of_ble_eq_true rfl) (Nat.le_of_ble_eq_true rfl) hx hb hr hlocks hP hD hS rfl dX11_dissonances_10

/-! X11_dissonancesByClasses -/
theorem dX11_dissonancesByClasses_0 : decode cX11_dissonancesByClasses 0 = .ok (.aload_n 0, 1) := by decide +kernel
theorem dX11_dissonancesByClasses_1 : decode cX11_dissonancesByClasses 1 = .ok (.iload_n 1, 1) := by decide +kernel
theorem dX11_dissonancesByClasses_2 : decode cX11_dissonancesByClasses 2 = .ok (.invokevirtual 178, 3) := by decide +kernel
theorem dX11_dissonancesByClasses_5 : decode cX11_dissonancesByClasses 5 = .ok (.ireturn, 1) := by decide +kernel
def f_X11_dissonancesByClasses (x_g : (Nat → Int32)) (x_notes : (Nat → Int32)) (x_noteCount : Int32) (x_thrown : Int32) (p1 : Int32) : Option (Int32 × (Nat → Int32) × Int32 × Int32) :=
  q_bd (f_X11_dissonances x_g x_notes x_noteCount x_thrown p1) (fun q1 =>
  some (q1.1, q1.2.1, q1.2.2.1, q1.2.2.2))
theorem hv_X11_dissonancesByClasses : yX11_dissonancesByClasses.cls = RX11 ∧ yX11_dissonancesByClasses.cls ≠ "java/lang/invoke/MethodHandle" ∧ yX11_dissonancesByClasses.cls ≠ "java/lang/invoke/VarHandle" ∧ (parseMethodDescriptor yX11_dissonancesByClasses.desc).map (fun d => d.parameters.length) = some 1 := by decide +kernel
abbrev rm_X11_dissonancesByClasses : Room := { frames := 5, cells := 0, slots := 0, locals := 116 }
set_option maxHeartbeats 4000000 in
set_option maxRecDepth 100000 in
theorem k_X11_dissonancesByClasses (l : Launch) (E : ET) (a : Nat → Nat) (o : Nat) (x : Model_t) (p1 : Int32) (res : Int32 × (Nat → Int32) × Int32 × Int32) (hF : f_X11_dissonancesByClasses x.1 x.2.2.2.2.2.2.2.2.2.2.2.2.1 x.2.2.2.2.2.2.2.2.2.2.2.2.2.1 x.2.2.2.2.2.2.2.2.2.2.2.2.2.2.1 p1 = some res) (sz : Nat) : CtI l yX11_dissonancesByClasses (mws yX11_dissonancesByClasses cX11_dissonancesByClasses 2 (some .int)) rm_X11_dissonancesByClasses 0 0 [.ref (a o), .int p1] E (bl_Model E a o x) res.1 (bl_Model E a o (x.1, x.2.1, x.2.2.1, x.2.2.2.1, x.2.2.2.2.1, x.2.2.2.2.2.1, x.2.2.2.2.2.2.1, x.2.2.2.2.2.2.2.1, x.2.2.2.2.2.2.2.2.1, x.2.2.2.2.2.2.2.2.2.1, x.2.2.2.2.2.2.2.2.2.2.1, x.2.2.2.2.2.2.2.2.2.2.2.1, res.2.1, res.2.2.1, res.2.2.2, x.2.2.2.2.2.2.2.2.2.2.2.2.2.2.2.1, x.2.2.2.2.2.2.2.2.2.2.2.2.2.2.2.2.1, x.2.2.2.2.2.2.2.2.2.2.2.2.2.2.2.2.2)) sz := by
  refine mk_M (by decide +kernel) (Nat.le_of_ble_eq_true rfl) ?_
  intro p e s m below meth c A args Q ls hAe hsz hQ hx hb hr hml hin ha hown hlocks hA hz hzs hst hP hD hS hl
  have hown : s.vm.findClass RX11 = some m.cls := hown
  rw [hAe] at hQ
  subst hsz
  have hP : va_P E.1 vwCl (List.flatten [w_Model E a o x]) s.heap := hP
  have hD : va_D A (List.flatten [w_Model E a o x]) := hD
  have hl : lv_has ls 2 [(0, .ref (a o)), (1, .int p1)] := hl
  generalize hHe : s.heap = H at hP
  have hS : va_S A s.heap H [] := by rw [← hHe]; exact hS
  generalize ([] : List Loc) = locs at hS ⊢
  unfold f_X11_dissonancesByClasses at hF
  refine lv_aload_n hx hb dX11_dissonancesByClasses_0 rfl (lv_at hl 0 rfl) ?_
  refine lv_iload_n hx hb dX11_dissonancesByClasses_1 rfl (lv_at hl 1 rfl) ?_
  obtain ⟨q1, hq1, hF⟩ := q_bdi hF
  refine cl_i (Lc := [w_Model E a o x]) (Lc' := [w_Model E a o (x.1, x.2.1, x.2.2.1, x.2.2.2.1, x.2.2.2.2.1, x.2.2.2.2.2.1, x.2.2.2.2.2.2.1, x.2.2.2.2.2.2.2.1, x.2.2.2.2.2.2.2.2.1, x.2.2.2.2.2.2.2.2.2.1, x.2.2.2.2.2.2.2.2.2.2.1, x.2.2.2.2.2.2.2.2.2.2.2.1, q1.2.1, q1.2.2.1, q1.2.2.2, x.2.2.2.2.2.2.2.2.2.2.2.2.2.2.2.1, x.2.2.2.2.2.2.2.2.2.2.2.2.2.2.2.2.1, x.2.2.2.2.2.2.2.2.2.2.2.2.2.2.2.2.2)]) (L' := [w_Model E a o (x.1, x.2.1, x.2.2.1, x.2.2.2.1, x.2.2.2.2.1, x.2.2.2.2.2.1, x.2.2.2.2.2.2.1, x.2.2.2.2.2.2.2.1, x.2.2.2.2.2.2.2.2.1, x.2.2.2.2.2.2.2.2.2.1, x.2.2.2.2.2.2.2.2.2.2.1, x.2.2.2.2.2.2.2.2.2.2.2.1, q1.2.1, q1.2.2.1, q1.2.2.2, x.2.2.2.2.2.2.2.2.2.2.2.2.2.2.2.1, x.2.2.2.2.2.2.2.2.2.2.2.2.2.2.2.2.1, x.2.2.2.2.2.2.2.2.2.2.2.2.2.2.2.2.2)]) (rv := q1.1) (va_runV (As := [.int p1]) (rest := []) ⟨hx, hb, hml, hown, ha⟩ (k_X11_dissonances l E a o x p1 q1 hq1 H.size) (cwV 1 ha (gi_V (fun _ h => h) mw2001 mw1987 mw1988 mw87 mw1989) rfl rfl rfl hv_X11_dissonances ⟨(Nat.le_of_ble_eq_true rfl), (Nat.le_of_ble_eq_true rfl)⟩) ⟨pre_blind, va_recv hst.k (fr_P hP [0] rfl) (ci := 13) (q0 := 0) rfl rfl, pre_at hP hD hS hz hzs hst [0] (by decide) rfl rfl⟩ rfl rfl hl.1 rfl (lv_room (Nat.le_of_ble_eq_true rfl)) dX11_dissonancesByClasses_2 ⟨(Nat.le_of_ble_eq_true rfl), (Nat.le_of_ble_eq_true rfl)⟩) hP hD hS hA [0] (by decide) rfl rfl rfl rfl (fun H locs hP hD hS => ?_)
  obtain rfl := Option.some.inj hF
  exact en_i hQ (Nat.le_of_ble_eq_true rfl) (Nat.le_of_ble_eq_true rfl) hx hb hr hlocks hP hD hS rfl dX11_dissonancesByClasses_5

/-! X11_thirds -/
theorem dX11_thirds_0 : decode cX11_thirds 0 = .ok (.aload_n 0, 1) := by decide +kernel
theorem dX11_thirds_1 : decode cX11_thirds 1 = .ok (.aload_n 0, 1) := by decide +kernel
theorem dX11_thirds_2 : decode cX11_thirds 2 = .ok (.iload_n 1, 1) := by decide +kernel
theorem dX11_thirds_3 : decode cX11_thirds 3 = .ok (.iconst 1, 1) := by decide +kernel
theorem dX11_thirds_4 : decode cX11_thirds 4 = .ok (.invokevirtual 174, 3) := by decide +kernel
theorem dX11_thirds_7 : decode cX11_thirds 7 = .ok (.invokevirtual 83, 3) := by decide +kernel
theorem dX11_thirds_10 : decode cX11_thirds 10 = .ok (.ireturn, 1) := by decide +kernel
def f_X11_thirds (x_g : (Nat → Int32)) (x_notes : (Nat → Int32)) (x_noteCount : Int32) (x_thrown : Int32) (p1 : Int32) : Option (Int32 × (Nat → Int32) × Int32 × Int32) :=
  q_bd (f_X11_pairs x_g x_notes x_noteCount p1 1) (fun q1 =>
  q_bd (f_X11_done x_thrown q1.1) (fun q2 =>
  some (q2.1, q1.2.1, q1.2.2, q2.2)))
theorem hv_X11_thirds : yX11_thirds.cls = RX11 ∧ yX11_thirds.cls ≠ "java/lang/invoke/MethodHandle" ∧ yX11_thirds.cls ≠ "java/lang/invoke/VarHandle" ∧ (parseMethodDescriptor yX11_thirds.desc).map (fun d => d.parameters.length) = some 1 := by decide +kernel
abbrev rm_X11_thirds : Room := { frames := 4, cells := 0, slots := 0, locals := 95 }
set_option maxHeartbeats 4000000 in
set_option maxRecDepth 100000 in
theorem k_X11_thirds (l : Launch) (E : ET) (a : Nat → Nat) (o : Nat) (x : Model_t) (p1 : Int32) (res : Int32 × (Nat → Int32) × Int32 × Int32) (hF : f_X11_thirds x.1 x.2.2.2.2.2.2.2.2.2.2.2.2.1 x.2.2.2.2.2.2.2.2.2.2.2.2.2.1 x.2.2.2.2.2.2.2.2.2.2.2.2.2.2.1 p1 = some res) (sz : Nat) : CtI l yX11_thirds (mws yX11_thirds cX11_thirds 2 (some .int)) rm_X11_thirds 0 0 [.ref (a o), .int p1] E (bl_Model E a o x) res.1 (bl_Model E a o (x.1, x.2.1, x.2.2.1, x.2.2.2.1, x.2.2.2.2.1, x.2.2.2.2.2.1, x.2.2.2.2.2.2.1, x.2.2.2.2.2.2.2.1, x.2.2.2.2.2.2.2.2.1, x.2.2.2.2.2.2.2.2.2.1, x.2.2.2.2.2.2.2.2.2.2.1, x.2.2.2.2.2.2.2.2.2.2.2.1, res.2.1, res.2.2.1, res.2.2.2, x.2.2.2.2.2.2.2.2.2.2.2.2.2.2.2.1, x.2.2.2.2.2.2.2.2.2.2.2.2.2.2.2.2.1, x.2.2.2.2.2.2.2.2.2.2.2.2.2.2.2.2.2)) sz := by
  refine mk_M (by decide +kernel) (Nat.le_of_ble_eq_true rfl) ?_
  intro p e s m below meth c A args Q ls hAe hsz hQ hx hb hr hml hin ha hown hlocks hA hz hzs hst hP hD hS hl
  have hown : s.vm.findClass RX11 = some m.cls := hown
  rw [hAe] at hQ
  subst hsz
  have hP : va_P E.1 vwCl (List.flatten [w_Model E a o x]) s.heap := hP
  have hD : va_D A (List.flatten [w_Model E a o x]) := hD
  have hl : lv_has ls 2 [(0, .ref (a o)), (1, .int p1)] := hl
  generalize hHe : s.heap = H at hP
  have hS : va_S A s.heap H [] := by rw [← hHe]; exact hS
  generalize ([] : List Loc) = locs at hS ⊢
  unfold f_X11_thirds at hF
  refine lv_aload_n hx hb dX11_thirds_0 rfl (lv_at hl 0 rfl) ?_
  refine lv_aload_n hx hb dX11_thirds_1 rfl (lv_at hl 0 rfl) ?_
  refine lv_iload_n hx hb dX11_thirds_2 rfl (lv_at hl 1 rfl) ?_
  refine lv_iconst (v := 1) hx hb dX11_thirds_3 (by decide) ?_
  obtain ⟨q1, hq1, hF⟩ := q_bdi hF
  refine cl_i (Lc := [w_Model E a o x]) (Lc' := [w_Model E a o (x.1, x.2.1, x.2.2.1, x.2.2.2.1, x.2.2.2.2.1, x.2.2.2.2.2.1, x.2.2.2.2.2.2.1, x.2.2.2.2.2.2.2.1, x.2.2.2.2.2.2.2.2.1, x.2.2.2.2.2.2.2.2.2.1, x.2.2.2.2.2.2.2.2.2.2.1, x.2.2.2.2.2.2.2.2.2.2.2.1, q1.2.1, q1.2.2, x.2.2.2.2.2.2.2.2.2.2.2.2.2.2.1, x.2.2.2.2.2.2.2.2.2.2.2.2.2.2.2.1, x.2.2.2.2.2.2.2.2.2.2.2.2.2.2.2.2.1, x.2.2.2.2.2.2.2.2.2.2.2.2.2.2.2.2.2)]) (L' := [w_Model E a o (x.1, x.2.1, x.2.2.1, x.2.2.2.1, x.2.2.2.2.1, x.2.2.2.2.2.1, x.2.2.2.2.2.2.1, x.2.2.2.2.2.2.2.1, x.2.2.2.2.2.2.2.2.1, x.2.2.2.2.2.2.2.2.2.1, x.2.2.2.2.2.2.2.2.2.2.1, x.2.2.2.2.2.2.2.2.2.2.2.1, q1.2.1, q1.2.2, x.2.2.2.2.2.2.2.2.2.2.2.2.2.2.1, x.2.2.2.2.2.2.2.2.2.2.2.2.2.2.2.1, x.2.2.2.2.2.2.2.2.2.2.2.2.2.2.2.2.1, x.2.2.2.2.2.2.2.2.2.2.2.2.2.2.2.2.2)]) (rv := q1.1) (va_runV (As := [.int p1, .int 1]) (rest := [.ref (a o)]) ⟨hx, hb, hml, hown, ha⟩ (k_X11_pairs l E a o x p1 1 q1 hq1 H.size) (cwV 2 ha (gi_V (fun _ h => h) mw1990 mw1992 mw57 mw87 mw1993) rfl rfl rfl hv_X11_pairs ⟨(Nat.le_of_ble_eq_true rfl), (Nat.le_of_ble_eq_true rfl)⟩) ⟨pre_blind, va_recv hst.k (fr_P hP [0] rfl) (ci := 13) (q0 := 0) rfl rfl, pre_at hP hD hS hz hzs hst [0] (by decide) rfl rfl⟩ rfl rfl hl.1 rfl (lv_room (Nat.le_of_ble_eq_true rfl)) dX11_thirds_4 ⟨(Nat.le_of_ble_eq_true rfl), (Nat.le_of_ble_eq_true rfl)⟩) hP hD hS hA [0] (by decide) rfl rfl rfl rfl (fun H locs hP hD hS => ?_)
  obtain ⟨q2, hq2, hF⟩ := q_bdi hF
  refine cl_i (Lc := [w_Model E a o (x.1, x.2.1, x.2.2.1, x.2.2.2.1, x.2.2.2.2.1, x.2.2.2.2.2.1, x.2.2.2.2.2.2.1, x.2.2.2.2.2.2.2.1, x.2.2.2.2.2.2.2.2.1, x.2.2.2.2.2.2.2.2.2.1, x.2.2.2.2.2.2.2.2.2.2.1, x.2.2.2.2.2.2.2.2.2.2.2.1, q1.2.1, q1.2.2, x.2.2.2.2.2.2.2.2.2.2.2.2.2.2.1, x.2.2.2.2.2.2.2.2.2.2.2.2.2.2.2.1, x.2.2.2.2.2.2.2.2.2.2.2.2.2.2.2.2.1, x.2.2.2.2.2.2.2.2.2.2.2.2.2.2.2.2.2)]) (Lc' := [w_Model E a o (x.1, x.2.1, x.2.2.1, x.2.2.2.1, x.2.2.2.2.1, x.2.2.2.2.2.1, x.2.2.2.2.2.2.1, x.2.2.2.2.2.2.2.1, x.2.2.2.2.2.2.2.2.1, x.2.2.2.2.2.2.2.2.2.1, x.2.2.2.2.2.2.2.2.2.2.1, x.2.2.2.2.2.2.2.2.2.2.2.1, q1.2.1, q1.2.2, q2.2, x.2.2.2.2.2.2.2.2.2.2.2.2.2.2.2.1, x.2.2.2.2.2.2.2.2.2.2.2.2.2.2.2.2.1, x.2.2.2.2.2.2.2.2.2.2.2.2.2.2.2.2.2)]) (L' := [w_Model E a o (x.1, x.2.1, x.2.2.1, x.2.2.2.1, x.2.2.2.2.1, x.2.2.2.2.2.1, x.2.2.2.2.2.2.1, x.2.2.2.2.2.2.2.1, x.2.2.2.2.2.2.2.2.1, x.2.2.2.2.2.2.2.2.2.1, x.2.2.2.2.2.2.2.2.2.2.1, x.2.2.2.2.2.2.2.2.2.2.2.1, q1.2.1, q1.2.2, q2.2, x.2.2.2.2.2.2.2.2.2.2.2.2.2.2.2.1, x.2.2.2.2.2.2.2.2.2.2.2.2.2.2.2.2.1, x.2.2.2.2.2.2.2.2.2.2.2.2.2.2.2.2.2)]) (rv := q2.1) (va_runV (As := [.int q1.1]) (rest := []) ⟨hx, hb, hml, hown, ha⟩ (k_X11_done l E a o (x.1, x.2.1, x.2.2.1, x.2.2.2.1, x.2.2.2.2.1, x.2.2.2.2.2.1, x.2.2.2.2.2.2.1, x.2.2.2.2.2.2.2.1, x.2.2.2.2.2.2.2.2.1, x.2.2.2.2.2.2.2.2.2.1, x.2.2.2.2.2.2.2.2.2.2.1, x.2.2.2.2.2.2.2.2.2.2.2.1, q1.2.1, q1.2.2, x.2.2.2.2.2.2.2.2.2.2.2.2.2.2.1, x.2.2.2.2.2.2.2.2.2.2.2.2.2.2.2.1, x.2.2.2.2.2.2.2.2.2.2.2.2.2.2.2.2.1, x.2.2.2.2.2.2.2.2.2.2.2.2.2.2.2.2.2) q1.1 q2 hq2 H.size) (cwV 1 ha (gi_V (fun _ h => h) mw1720 mw1722 mw30 mw87 mw1723) rfl rfl rfl hv_X11_done ⟨(Nat.le_of_ble_eq_true rfl), (Nat.le_of_ble_eq_true rfl)⟩) ⟨pre_blind, va_recv hst.k (fr_P hP [0] rfl) (ci := 13) (q0 := 0) rfl rfl, pre_at hP hD hS hz hzs hst [0] (by decide) rfl rfl⟩ rfl rfl hl.1 rfl (lv_room (Nat.le_of_ble_eq_true rfl)) dX11_thirds_7 ⟨(Nat.le_of_ble_eq_true rfl), (Nat.le_of_ble_eq_true rfl)⟩) hP hD hS hA [0] (by decide) rfl rfl rfl rfl (fun H locs hP hD hS => ?_)
  obtain rfl := Option.some.inj hF
  exact en_i hQ (Nat.le_of_ble_eq_true rfl) (Nat.le_of_ble_eq_true rfl) hx hb hr hlocks hP hD hS rfl dX11_thirds_10

/-! X11_isHeard -/
theorem dX11_isHeard_0 : decode cX11_isHeard 0 = .ok (.aload_n 0, 1) := by decide +kernel
theorem dX11_isHeard_1 : decode cX11_isHeard 1 = .ok (.iload_n 1, 1) := by decide +kernel
theorem dX11_isHeard_2 : decode cX11_isHeard 2 = .ok (.invokevirtual 168, 3) := by decide +kernel
theorem dX11_isHeard_5 : decode cX11_isHeard 5 = .ok (.aload_n 0, 1) := by decide +kernel
theorem dX11_isHeard_6 : decode cX11_isHeard 6 = .ok (.getfield 157, 3) := by decide +kernel
theorem dX11_isHeard_9 : decode cX11_isHeard 9 = .ok (.ifCond .le 7, 3) := by decide +kernel
theorem dX11_isHeard_12 : decode cX11_isHeard 12 = .ok (.iconst 1, 1) := by decide +kernel
theorem dX11_isHeard_13 : decode cX11_isHeard 13 = .ok (.goto 4, 3) := by decide +kernel
theorem dX11_isHeard_16 : decode cX11_isHeard 16 = .ok (.iconst 0, 1) := by decide +kernel
theorem dX11_isHeard_17 : decode cX11_isHeard 17 = .ok (.ireturn, 1) := by decide +kernel
def f_X11_isHeard (x_g : (Nat → Int32)) (x_notes : (Nat → Int32)) (x_noteCount : Int32) (p1 : Int32) : Option (Int32 × (Nat → Int32) × Int32) :=
  q_bd (f_X11_listens x_g x_notes x_noteCount p1) (fun q1 =>
  q_br (q1.2 ≤ 0) (
  some (0, q1.1, q1.2)) (
  some (1, q1.1, q1.2)))
theorem hv_X11_isHeard : yX11_isHeard.cls = RX11 ∧ yX11_isHeard.cls ≠ "java/lang/invoke/MethodHandle" ∧ yX11_isHeard.cls ≠ "java/lang/invoke/VarHandle" ∧ (parseMethodDescriptor yX11_isHeard.desc).map (fun d => d.parameters.length) = some 1 := by decide +kernel
abbrev rm_X11_isHeard : Room := { frames := 3, cells := 0, slots := 0, locals := 68 }
set_option maxHeartbeats 4000000 in
set_option maxRecDepth 100000 in
theorem k_X11_isHeard (l : Launch) (E : ET) (a : Nat → Nat) (o : Nat) (x : Model_t) (p1 : Int32) (res : Int32 × (Nat → Int32) × Int32) (hF : f_X11_isHeard x.1 x.2.2.2.2.2.2.2.2.2.2.2.2.1 x.2.2.2.2.2.2.2.2.2.2.2.2.2.1 p1 = some res) (sz : Nat) : CtI l yX11_isHeard (mws yX11_isHeard cX11_isHeard 2 (some .boolean)) rm_X11_isHeard 0 0 [.ref (a o), .int p1] E (bl_Model E a o x) res.1 (bl_Model E a o (x.1, x.2.1, x.2.2.1, x.2.2.2.1, x.2.2.2.2.1, x.2.2.2.2.2.1, x.2.2.2.2.2.2.1, x.2.2.2.2.2.2.2.1, x.2.2.2.2.2.2.2.2.1, x.2.2.2.2.2.2.2.2.2.1, x.2.2.2.2.2.2.2.2.2.2.1, x.2.2.2.2.2.2.2.2.2.2.2.1, res.2.1, res.2.2, x.2.2.2.2.2.2.2.2.2.2.2.2.2.2.1, x.2.2.2.2.2.2.2.2.2.2.2.2.2.2.2.1, x.2.2.2.2.2.2.2.2.2.2.2.2.2.2.2.2.1, x.2.2.2.2.2.2.2.2.2.2.2.2.2.2.2.2.2)) sz := by
  refine mk_M (by decide +kernel) (Nat.le_of_ble_eq_true rfl) ?_
  intro p e s m below meth c A args Q ls hAe hsz hQ hx hb hr hml hin ha hown hlocks hA hz hzs hst hP hD hS hl
  have hown : s.vm.findClass RX11 = some m.cls := hown
  rw [hAe] at hQ
  subst hsz
  have hP : va_P E.1 vwCl (List.flatten [w_Model E a o x]) s.heap := hP
  have hD : va_D A (List.flatten [w_Model E a o x]) := hD
  have hl : lv_has ls 2 [(0, .ref (a o)), (1, .int p1)] := hl
  generalize hHe : s.heap = H at hP
  have hS : va_S A s.heap H [] := by rw [← hHe]; exact hS
  generalize ([] : List Loc) = locs at hS ⊢
  unfold f_X11_isHeard at hF
  refine lv_aload_n hx hb dX11_isHeard_0 rfl (lv_at hl 0 rfl) ?_
  refine lv_iload_n hx hb dX11_isHeard_1 rfl (lv_at hl 1 rfl) ?_
  obtain ⟨q1, hq1, hF⟩ := q_bdi hF
  refine cl_v (Lc := [w_Model E a o x]) (Lc' := [w_Model E a o (x.1, x.2.1, x.2.2.1, x.2.2.2.1, x.2.2.2.2.1, x.2.2.2.2.2.1, x.2.2.2.2.2.2.1, x.2.2.2.2.2.2.2.1, x.2.2.2.2.2.2.2.2.1, x.2.2.2.2.2.2.2.2.2.1, x.2.2.2.2.2.2.2.2.2.2.1, x.2.2.2.2.2.2.2.2.2.2.2.1, q1.1, q1.2, x.2.2.2.2.2.2.2.2.2.2.2.2.2.2.1, x.2.2.2.2.2.2.2.2.2.2.2.2.2.2.2.1, x.2.2.2.2.2.2.2.2.2.2.2.2.2.2.2.2.1, x.2.2.2.2.2.2.2.2.2.2.2.2.2.2.2.2.2)]) (L' := [w_Model E a o (x.1, x.2.1, x.2.2.1, x.2.2.2.1, x.2.2.2.2.1, x.2.2.2.2.2.1, x.2.2.2.2.2.2.1, x.2.2.2.2.2.2.2.1, x.2.2.2.2.2.2.2.2.1, x.2.2.2.2.2.2.2.2.2.1, x.2.2.2.2.2.2.2.2.2.2.1, x.2.2.2.2.2.2.2.2.2.2.2.1, q1.1, q1.2, x.2.2.2.2.2.2.2.2.2.2.2.2.2.2.1, x.2.2.2.2.2.2.2.2.2.2.2.2.2.2.2.1, x.2.2.2.2.2.2.2.2.2.2.2.2.2.2.2.2.1, x.2.2.2.2.2.2.2.2.2.2.2.2.2.2.2.2.2)]) (va_runV (As := [.int p1]) (rest := []) ⟨hx, hb, hml, hown, ha⟩ (k_X11_listens l E a o x p1 q1 hq1 H.size) (cwV 1 ha (gi_V (fun _ h => h) mw1970 mw1972 mw54 mw87 mw1973) rfl rfl rfl hv_X11_listens ⟨(Nat.le_of_ble_eq_true rfl), (Nat.le_of_ble_eq_true rfl)⟩) ⟨pre_blind, va_recv hst.k (fr_P hP [0] rfl) (ci := 13) (q0 := 0) rfl rfl, pre_at hP hD hS hz hzs hst [0] (by decide) rfl rfl⟩ rfl rfl hl.1 rfl (lv_room (Nat.le_of_ble_eq_true rfl)) dX11_isHeard_2 ⟨(Nat.le_of_ble_eq_true rfl), (Nat.le_of_ble_eq_true rfl)⟩) hP hD hS hA [0] (by decide) rfl rfl rfl rfl (fun H locs hP hD hS => ?_)
  refine lv_aload_n hx hb dX11_isHeard_5 rfl (lv_at hl 0 rfl) ?_
  refine va_get (D := E.1) (ci := 13) (v := .int q1.2) (C := RX11) (T := TX11) (N := 18) hx hb ha in_X11 hown hst.k hP 0 rfl rfl 13 (by decide) (ha _ mw1649) (fun _ h9 => h9) rfl dX11_isHeard_6 ?_
  refine lv_if_le (tgt := 16) hx hb dX11_isHeard_9 (by decide) (fun c9 => ?_) (fun c9 => ?_)
  · have hF := q_brp c9 hF
    refine lv_iconst (v := 0) hx hb dX11_isHeard_16 (by decide) ?_
    obtain rfl := Option.some.inj hF
    exact en_z hQ (Nat.le_of_ble_eq_true rfl) (Nat.le_of_ble_eq_true rfl) hx hb hr hlocks (by decide) hP hD hS rfl dX11_isHeard_17
  · have hF := q_brn c9 hF
    refine lv_iconst (v := 1) hx hb dX11_isHeard_12 (by decide) ?_
    refine lv_goto (tgt := 17) hx hb dX11_isHeard_13 (by decide) ?_
    obtain rfl := Option.some.inj hF
    exact en_z hQ (Nat.le_of_ble_eq_true rfl) (Nat.le_of_ble_eq_true rfl) hx hb hr hlocks (by decide) hP hD hS rfl dX11_isHeard_17

/-! X11_lastBeat -/
theorem dX11_lastBeat_0 : decode cX11_lastBeat 0 = .ok (.bipush 31, 2) := by decide +kernel
theorem dX11_lastBeat_2 : decode cX11_lastBeat 2 = .ok (.istore_n 1, 1) := by decide +kernel
theorem dX11_lastBeat_3 : decode cX11_lastBeat 3 = .ok (.iload_n 1, 1) := by decide +kernel
theorem dX11_lastBeat_4 : decode cX11_lastBeat 4 = .ok (.ifCond .lt 17, 3) := by decide +kernel
theorem dX11_lastBeat_7 : decode cX11_lastBeat 7 = .ok (.aload_n 0, 1) := by decide +kernel
theorem dX11_lastBeat_8 : decode cX11_lastBeat 8 = .ok (.iload_n 1, 1) := by decide +kernel
theorem dX11_lastBeat_9 : decode cX11_lastBeat 9 = .ok (.invokevirtual 181, 3) := by decide +kernel
theorem dX11_lastBeat_12 : decode cX11_lastBeat 12 = .ok (.ifCond .ne 9, 3) := by decide +kernel
theorem dX11_lastBeat_15 : decode cX11_lastBeat 15 = .ok (.iinc 1 (-1), 3) := by decide +kernel
theorem dX11_lastBeat_18 : decode cX11_lastBeat 18 = .ok (.goto (-15), 3) := by decide +kernel
theorem dX11_lastBeat_21 : decode cX11_lastBeat 21 = .ok (.iload_n 1, 1) := by decide +kernel
theorem dX11_lastBeat_22 : decode cX11_lastBeat 22 = .ok (.ifCond .ge 11, 3) := by decide +kernel
theorem dX11_lastBeat_25 : decode cX11_lastBeat 25 = .ok (.aload_n 0, 1) := by decide +kernel
theorem dX11_lastBeat_26 : decode cX11_lastBeat 26 = .ok (.iconst 1, 1) := by decide +kernel
theorem dX11_lastBeat_27 : decode cX11_lastBeat 27 = .ok (.invokevirtual 80, 3) := by decide +kernel
theorem dX11_lastBeat_30 : decode cX11_lastBeat 30 = .ok (.goto 8, 3) := by decide +kernel
theorem dX11_lastBeat_33 : decode cX11_lastBeat 33 = .ok (.aload_n 0, 1) := by decide +kernel
theorem dX11_lastBeat_34 : decode cX11_lastBeat 34 = .ok (.iload_n 1, 1) := by decide +kernel
theorem dX11_lastBeat_35 : decode cX11_lastBeat 35 = .ok (.invokevirtual 83, 3) := by decide +kernel
theorem dX11_lastBeat_38 : decode cX11_lastBeat 38 = .ok (.ireturn, 1) := by decide +kernel
def f_X11_lastBeat_L3 (x_g : (Nat → Int32)) (K3 : Int32 → (Nat → Int32) → Int32 → Option (Int32 × (Nat → Int32) × Int32 × Int32)) : Nat → Int32 → (Nat → Int32) → Int32 → Option (Int32 × (Nat → Int32) × Int32 × Int32)
  | 0, _, _, _ => none
  | n3 + 1, i1, i2, i3 =>
    q_br (i1 < 0) (
  K3 i1 i2 i3) (
  q_bd (f_X11_isHeard x_g i2 i3 i1) (fun q7 =>
  q_br (q7.1 = 0) (
  q_lt (i1 + (-1) : Int32) (fun v8 =>
  f_X11_lastBeat_L3 x_g K3 n3 v8 q7.2.1 q7.2.2)) (
  K3 i1 q7.2.1 q7.2.2)))
def f_X11_lastBeat (x_g : (Nat → Int32)) (x_notes : (Nat → Int32)) (x_noteCount : Int32) (x_thrown : Int32) : Option (Int32 × (Nat → Int32) × Int32 × Int32) :=
  f_X11_lastBeat_L3 x_g (fun y4 y5 y6 =>
  q_br (0 ≤ y4) (
  q_bd (f_X11_done x_thrown y4) (fun q9 =>
  some (q9.1, y5, y6, q9.2))) (
  q_bd (f_X11_fails x_thrown 1) (fun q10 =>
  some (q10.1, y5, y6, q10.2)))) 2000 31 x_notes x_noteCount
theorem hv_X11_lastBeat : yX11_lastBeat.cls = RX11 ∧ yX11_lastBeat.cls ≠ "java/lang/invoke/MethodHandle" ∧ yX11_lastBeat.cls ≠ "java/lang/invoke/VarHandle" ∧ (parseMethodDescriptor yX11_lastBeat.desc).map (fun d => d.parameters.length) = some 0 := by decide +kernel
abbrev rm_X11_lastBeat : Room := { frames := 4, cells := 0, slots := 0, locals := 89 }
set_option maxHeartbeats 4000000 in
set_option maxRecDepth 100000 in
theorem k_X11_lastBeat (l : Launch) (E : ET) (a : Nat → Nat) (o : Nat) (x : Model_t) (res : Int32 × (Nat → Int32) × Int32 × Int32) (hF : f_X11_lastBeat x.1 x.2.2.2.2.2.2.2.2.2.2.2.2.1 x.2.2.2.2.2.2.2.2.2.2.2.2.2.1 x.2.2.2.2.2.2.2.2.2.2.2.2.2.2.1 = some res) (sz : Nat) : CtI l yX11_lastBeat (mws yX11_lastBeat cX11_lastBeat 2 (some .int)) rm_X11_lastBeat 0 0 [.ref (a o)] E (bl_Model E a o x) res.1 (bl_Model E a o (x.1, x.2.1, x.2.2.1, x.2.2.2.1, x.2.2.2.2.1, x.2.2.2.2.2.1, x.2.2.2.2.2.2.1, x.2.2.2.2.2.2.2.1, x.2.2.2.2.2.2.2.2.1, x.2.2.2.2.2.2.2.2.2.1, x.2.2.2.2.2.2.2.2.2.2.1, x.2.2.2.2.2.2.2.2.2.2.2.1, res.2.1, res.2.2.1, res.2.2.2, x.2.2.2.2.2.2.2.2.2.2.2.2.2.2.2.1, x.2.2.2.2.2.2.2.2.2.2.2.2.2.2.2.2.1, x.2.2.2.2.2.2.2.2.2.2.2.2.2.2.2.2.2)) sz := by
  refine mk_M (by decide +kernel) (Nat.le_of_ble_eq_true rfl) ?_
  intro p e s m below meth c A args Q ls hAe hsz hQ hx hb hr hml hin ha hown hlocks hA hz hzs hst hP hD hS hl
  have hown : s.vm.findClass RX11 = some m.cls := hown
  rw [hAe] at hQ
  subst hsz
  have hP : va_P E.1 vwCl (List.flatten [w_Model E a o x]) s.heap := hP
  have hD : va_D A (List.flatten [w_Model E a o x]) := hD
  have hl : lv_has ls 2 [(0, .ref (a o))] := hl
  generalize hHe : s.heap = H at hP
  have hS : va_S A s.heap H [] := by rw [← hHe]; exact hS
  generalize ([] : List Loc) = locs at hS ⊢
  unfold f_X11_lastBeat at hF
  refine lv_bipush (v := 31) hx hb dX11_lastBeat_0 (by decide) ?_
  refine lv_istore_n (lv' := [(1, .int 31), (0, .ref (a o))]) hx hb dX11_lastBeat_2 rfl hl (by decide) rfl (fun ls hl => ?_)
  have key3 : ∀ (K : Int32 → (Nat → Int32) → Int32 → Option (Int32 × (Nat → Int32) × Int32 × Int32)), (∀ (y4 : Int32) (y5 : (Nat → Int32)) (y6 : Int32) (H : Heap) (locs : List Loc) (ls : Array Slot), K y4 y5 y6 = some res → va_P E.1 vwCl (List.flatten [w_Model E a o (x.1, x.2.1, x.2.2.1, x.2.2.2.1, x.2.2.2.2.1, x.2.2.2.2.2.1, x.2.2.2.2.2.2.1, x.2.2.2.2.2.2.2.1, x.2.2.2.2.2.2.2.2.1, x.2.2.2.2.2.2.2.2.2.1, x.2.2.2.2.2.2.2.2.2.2.1, x.2.2.2.2.2.2.2.2.2.2.2.1, y5, y6, x.2.2.2.2.2.2.2.2.2.2.2.2.2.2.1, x.2.2.2.2.2.2.2.2.2.2.2.2.2.2.2.1, x.2.2.2.2.2.2.2.2.2.2.2.2.2.2.2.2.1, x.2.2.2.2.2.2.2.2.2.2.2.2.2.2.2.2.2)]) H → va_D A (List.flatten [w_Model E a o (x.1, x.2.1, x.2.2.1, x.2.2.2.1, x.2.2.2.2.1, x.2.2.2.2.2.1, x.2.2.2.2.2.2.1, x.2.2.2.2.2.2.2.1, x.2.2.2.2.2.2.2.2.1, x.2.2.2.2.2.2.2.2.2.1, x.2.2.2.2.2.2.2.2.2.2.1, x.2.2.2.2.2.2.2.2.2.2.2.1, y5, y6, x.2.2.2.2.2.2.2.2.2.2.2.2.2.2.1, x.2.2.2.2.2.2.2.2.2.2.2.2.2.2.2.1, x.2.2.2.2.2.2.2.2.2.2.2.2.2.2.2.2.1, x.2.2.2.2.2.2.2.2.2.2.2.2.2.2.2.2.2)]) → va_S A s.heap H locs → lv_has ls 2 [(1, .int y4), (0, .ref (a o))] → W p l e rm_X11_lastBeat s m args below meth c H locs 0 0 Q (F0 m 21 ls [])) → ∀ (n : Nat) (i1 : Int32) (i2 : (Nat → Int32)) (i3 : Int32) (H : Heap) (locs : List Loc) (ls : Array Slot), f_X11_lastBeat_L3 x.1 K n i1 i2 i3 = some res → va_P E.1 vwCl (List.flatten [w_Model E a o (x.1, x.2.1, x.2.2.1, x.2.2.2.1, x.2.2.2.2.1, x.2.2.2.2.2.1, x.2.2.2.2.2.2.1, x.2.2.2.2.2.2.2.1, x.2.2.2.2.2.2.2.2.1, x.2.2.2.2.2.2.2.2.2.1, x.2.2.2.2.2.2.2.2.2.2.1, x.2.2.2.2.2.2.2.2.2.2.2.1, i2, i3, x.2.2.2.2.2.2.2.2.2.2.2.2.2.2.1, x.2.2.2.2.2.2.2.2.2.2.2.2.2.2.2.1, x.2.2.2.2.2.2.2.2.2.2.2.2.2.2.2.2.1, x.2.2.2.2.2.2.2.2.2.2.2.2.2.2.2.2.2)]) H → va_D A (List.flatten [w_Model E a o (x.1, x.2.1, x.2.2.1, x.2.2.2.1, x.2.2.2.2.1, x.2.2.2.2.2.1, x.2.2.2.2.2.2.1, x.2.2.2.2.2.2.2.1, x.2.2.2.2.2.2.2.2.1, x.2.2.2.2.2.2.2.2.2.1, x.2.2.2.2.2.2.2.2.2.2.1, x.2.2.2.2.2.2.2.2.2.2.2.1, i2, i3, x.2.2.2.2.2.2.2.2.2.2.2.2.2.2.1, x.2.2.2.2.2.2.2.2.2.2.2.2.2.2.2.1, x.2.2.2.2.2.2.2.2.2.2.2.2.2.2.2.2.1, x.2.2.2.2.2.2.2.2.2.2.2.2.2.2.2.2.2)]) → va_S A s.heap H locs → lv_has ls 2 [(1, .int i1), (0, .ref (a o))] → W p l e rm_X11_lastBeat s m args below meth c H locs 0 0 Q (F0 m 3 ls []) := by
    intro K3 hK3 n3
    induction n3 with
    | zero => intro i1 i2 i3 H locs ls hF; exact absurd hF (by simp [f_X11_lastBeat_L3])
    | succ n3 ih3 =>
      intro i1 i2 i3 H locs ls hF hP hD hS hl
      rw [f_X11_lastBeat_L3] at hF
      refine lv_iload_n hx hb dX11_lastBeat_3 rfl (lv_at hl 0 rfl) ?_
      refine lv_if_lt (tgt := 21) hx hb dX11_lastBeat_4 (by decide) (fun c4 => ?_) (fun c4 => ?_)
      · have hF := q_brp c4 hF
        exact hK3 i1 i2 i3 H locs ls hF hP hD hS (lv_sub hl [0, 1] rfl)
      · have hF := q_brn c4 hF
        refine lv_aload_n hx hb dX11_lastBeat_7 rfl (lv_at hl 1 rfl) ?_
        refine lv_iload_n hx hb dX11_lastBeat_8 rfl (lv_at hl 0 rfl) ?_
        obtain ⟨q7, hq7, hF⟩ := q_bdi hF
        refine cl_i (Lc := [w_Model E a o (x.1, x.2.1, x.2.2.1, x.2.2.2.1, x.2.2.2.2.1, x.2.2.2.2.2.1, x.2.2.2.2.2.2.1, x.2.2.2.2.2.2.2.1, x.2.2.2.2.2.2.2.2.1, x.2.2.2.2.2.2.2.2.2.1, x.2.2.2.2.2.2.2.2.2.2.1, x.2.2.2.2.2.2.2.2.2.2.2.1, i2, i3, x.2.2.2.2.2.2.2.2.2.2.2.2.2.2.1, x.2.2.2.2.2.2.2.2.2.2.2.2.2.2.2.1, x.2.2.2.2.2.2.2.2.2.2.2.2.2.2.2.2.1, x.2.2.2.2.2.2.2.2.2.2.2.2.2.2.2.2.2)]) (Lc' := [w_Model E a o (x.1, x.2.1, x.2.2.1, x.2.2.2.1, x.2.2.2.2.1, x.2.2.2.2.2.1, x.2.2.2.2.2.2.1, x.2.2.2.2.2.2.2.1, x.2.2.2.2.2.2.2.2.1, x.2.2.2.2.2.2.2.2.2.1, x.2.2.2.2.2.2.2.2.2.2.1, x.2.2.2.2.2.2.2.2.2.2.2.1, q7.2.1, q7.2.2, x.2.2.2.2.2.2.2.2.2.2.2.2.2.2.1, x.2.2.2.2.2.2.2.2.2.2.2.2.2.2.2.1, x.2.2.2.2.2.2.2.2.2.2.2.2.2.2.2.2.1, x.2.2.2.2.2.2.2.2.2.2.2.2.2.2.2.2.2)]) (L' := [w_Model E a o (x.1, x.2.1, x.2.2.1, x.2.2.2.1, x.2.2.2.2.1, x.2.2.2.2.2.1, x.2.2.2.2.2.2.1, x.2.2.2.2.2.2.2.1, x.2.2.2.2.2.2.2.2.1, x.2.2.2.2.2.2.2.2.2.1, x.2.2.2.2.2.2.2.2.2.2.1, x.2.2.2.2.2.2.2.2.2.2.2.1, q7.2.1, q7.2.2, x.2.2.2.2.2.2.2.2.2.2.2.2.2.2.1, x.2.2.2.2.2.2.2.2.2.2.2.2.2.2.2.1, x.2.2.2.2.2.2.2.2.2.2.2.2.2.2.2.2.1, x.2.2.2.2.2.2.2.2.2.2.2.2.2.2.2.2.2)]) (rv := q7.1) (va_runV (As := [.int i1]) (rest := []) ⟨hx, hb, hml, hown, ha⟩ (k_X11_isHeard l E a o (x.1, x.2.1, x.2.2.1, x.2.2.2.1, x.2.2.2.2.1, x.2.2.2.2.2.1, x.2.2.2.2.2.2.1, x.2.2.2.2.2.2.2.1, x.2.2.2.2.2.2.2.2.1, x.2.2.2.2.2.2.2.2.2.1, x.2.2.2.2.2.2.2.2.2.2.1, x.2.2.2.2.2.2.2.2.2.2.2.1, i2, i3, x.2.2.2.2.2.2.2.2.2.2.2.2.2.2.1, x.2.2.2.2.2.2.2.2.2.2.2.2.2.2.2.1, x.2.2.2.2.2.2.2.2.2.2.2.2.2.2.2.2.1, x.2.2.2.2.2.2.2.2.2.2.2.2.2.2.2.2.2) i1 q7 hq7 H.size) (cwV 1 ha (gi_V (fun _ h => h) mw2010 mw2012 mw58 mw87 mw2013) rfl rfl rfl hv_X11_isHeard ⟨(Nat.le_of_ble_eq_true rfl), (Nat.le_of_ble_eq_true rfl)⟩) ⟨pre_blind, va_recv hst.k (fr_P hP [0] rfl) (ci := 13) (q0 := 0) rfl rfl, pre_at hP hD hS hz hzs hst [0] (by decide) rfl rfl⟩ rfl rfl hl.1 rfl (lv_room (Nat.le_of_ble_eq_true rfl)) dX11_lastBeat_9 ⟨(Nat.le_of_ble_eq_true rfl), (Nat.le_of_ble_eq_true rfl)⟩) hP hD hS hA [0] (by decide) rfl rfl rfl rfl (fun H locs hP hD hS => ?_)
        refine lv_if_ne (tgt := 21) hx hb dX11_lastBeat_12 (by decide) (fun c12 => ?_) (fun c12 => ?_)
        · have hF := q_brn c12 hF
          exact hK3 i1 q7.2.1 q7.2.2 H locs ls hF hP hD hS (lv_sub hl [0, 1] rfl)
        · have hF := q_brp c12 hF
          obtain ⟨v8, ev8⟩ : ∃ y : Int32, y = i1 + (-1) := ⟨_, rfl⟩
          have hF := q_lti ev8 hF
          refine lv_iinc (v := v8) (lv' := [(1, .int v8), (0, .ref (a o))]) hx hb dX11_lastBeat_15 hl (k := 0) rfl (by rw [ev8]; rfl) (by decide) rfl (fun ls hl => ?_)
          refine lv_goto (tgt := 3) hx hb dX11_lastBeat_18 (by decide) ?_
          exact ih3 v8 q7.2.1 q7.2.2 H locs ls hF hP hD hS (lv_sub hl [0, 1] rfl)
  refine key3 _ ?_ _ 31 x.2.2.2.2.2.2.2.2.2.2.2.2.1 x.2.2.2.2.2.2.2.2.2.2.2.2.2.1 H locs ls hF hP hD hS (lv_sub hl [0, 1] rfl)
  intro y4 y5 y6 H locs ls hF hP hD hS hl
  refine lv_iload_n hx hb dX11_lastBeat_21 rfl (lv_at hl 0 rfl) ?_
  refine lv_if_ge (tgt := 33) hx hb dX11_lastBeat_22 (by decide) (fun c22 => ?_) (fun c22 => ?_)
  · have hF := q_brp c22 hF
    refine lv_aload_n hx hb dX11_lastBeat_33 rfl (lv_at hl 1 rfl) ?_
    refine lv_iload_n hx hb dX11_lastBeat_34 rfl (lv_at hl 0 rfl) ?_
    obtain ⟨q9, hq9, hF⟩ := q_bdi hF
    refine cl_i (Lc := [w_Model E a o (x.1, x.2.1, x.2.2.1, x.2.2.2.1, x.2.2.2.2.1, x.2.2.2.2.2.1, x.2.2.2.2.2.2.1, x.2.2.2.2.2.2.2.1, x.2.2.2.2.2.2.2.2.1, x.2.2.2.2.2.2.2.2.2.1, x.2.2.2.2.2.2.2.2.2.2.1, x.2.2.2.2.2.2.2.2.2.2.2.1, y5, y6, x.2.2.2.2.2.2.2.2.2.2.2.2.2.2.1, x.2.2.2.2.2.2.2.2.2.2.2.2.2.2.2.1, x.2.2.2.2.2.2.2.2.2.2.2.2.2.2.2.2.1, x.2.2.2.2.2.2.2.2.2.2.2.2.2.2.2.2.2)]) (Lc' := [w_Model E a o (x.1, x.2.1, x.2.2.1, x.2.2.2.1, x.2.2.2.2.1, x.2.2.2.2.2.1, x.2.2.2.2.2.2.1, x.2.2.2.2.2.2.2.1, x.2.2.2.2.2.2.2.2.1, x.2.2.2.2.2.2.2.2.2.1, x.2.2.2.2.2.2.2.2.2.2.1, x.2.2.2.2.2.2.2.2.2.2.2.1, y5, y6, q9.2, x.2.2.2.2.2.2.2.2.2.2.2.2.2.2.2.1, x.2.2.2.2.2.2.2.2.2.2.2.2.2.2.2.2.1, x.2.2.2.2.2.2.2.2.2.2.2.2.2.2.2.2.2)]) (L' := [w_Model E a o (x.1, x.2.1, x.2.2.1, x.2.2.2.1, x.2.2.2.2.1, x.2.2.2.2.2.1, x.2.2.2.2.2.2.1, x.2.2.2.2.2.2.2.1, x.2.2.2.2.2.2.2.2.1, x.2.2.2.2.2.2.2.2.2.1, x.2.2.2.2.2.2.2.2.2.2.1, x.2.2.2.2.2.2.2.2.2.2.2.1, y5, y6, q9.2, x.2.2.2.2.2.2.2.2.2.2.2.2.2.2.2.1, x.2.2.2.2.2.2.2.2.2.2.2.2.2.2.2.2.1, x.2.2.2.2.2.2.2.2.2.2.2.2.2.2.2.2.2)]) (rv := q9.1) (va_runV (As := [.int y4]) (rest := []) ⟨hx, hb, hml, hown, ha⟩ (k_X11_done l E a o (x.1, x.2.1, x.2.2.1, x.2.2.2.1, x.2.2.2.2.1, x.2.2.2.2.2.1, x.2.2.2.2.2.2.1, x.2.2.2.2.2.2.2.1, x.2.2.2.2.2.2.2.2.1, x.2.2.2.2.2.2.2.2.2.1, x.2.2.2.2.2.2.2.2.2.2.1, x.2.2.2.2.2.2.2.2.2.2.2.1, y5, y6, x.2.2.2.2.2.2.2.2.2.2.2.2.2.2.1, x.2.2.2.2.2.2.2.2.2.2.2.2.2.2.2.1, x.2.2.2.2.2.2.2.2.2.2.2.2.2.2.2.2.1, x.2.2.2.2.2.2.2.2.2.2.2.2.2.2.2.2.2) y4 q9 hq9 H.size) (cwV 1 ha (gi_V (fun _ h => h) mw1720 mw1722 mw30 mw87 mw1723) rfl rfl rfl hv_X11_done ⟨(Nat.le_of_ble_eq_true rfl), (Nat.le_of_ble_eq_true rfl)⟩) ⟨pre_blind, va_recv hst.k (fr_P hP [0] rfl) (ci := 13) (q0 := 0) rfl rfl, pre_at hP hD hS hz hzs hst [0] (by decide) rfl rfl⟩ rfl rfl hl.1 rfl (lv_room (Nat.le_of_ble_eq_true rfl)) dX11_lastBeat_35 ⟨(Nat.le_of_ble_eq_true rfl), (Nat.le_of_ble_eq_true rfl)⟩) hP hD hS hA [0] (by decide) rfl rfl rfl rfl (fun H locs hP hD hS => ?_)
    obtain rfl := Option.some.inj hF
    exact en_i hQ (Nat.le_of_ble_eq_true rfl) (Nat.le_of_ble_eq_true rfl) hx hb hr hlocks hP hD hS rfl dX11_lastBeat_38
  · have hF := q_brn c22 hF
    refine lv_aload_n hx hb dX11_lastBeat_25 rfl (lv_at hl 1 rfl) ?_
    refine lv_iconst (v := 1) hx hb dX11_lastBeat_26 (by decide) ?_
    obtain ⟨q10, hq10, hF⟩ := q_bdi hF
    refine cl_i (Lc := [w_Model E a o (x.1, x.2.1, x.2.2.1, x.2.2.2.1, x.2.2.2.2.1, x.2.2.2.2.2.1, x.2.2.2.2.2.2.1, x.2.2.2.2.2.2.2.1, x.2.2.2.2.2.2.2.2.1, x.2.2.2.2.2.2.2.2.2.1, x.2.2.2.2.2.2.2.2.2.2.1, x.2.2.2.2.2.2.2.2.2.2.2.1, y5, y6, x.2.2.2.2.2.2.2.2.2.2.2.2.2.2.1, x.2.2.2.2.2.2.2.2.2.2.2.2.2.2.2.1, x.2.2.2.2.2.2.2.2.2.2.2.2.2.2.2.2.1, x.2.2.2.2.2.2.2.2.2.2.2.2.2.2.2.2.2)]) (Lc' := [w_Model E a o (x.1, x.2.1, x.2.2.1, x.2.2.2.1, x.2.2.2.2.1, x.2.2.2.2.2.1, x.2.2.2.2.2.2.1, x.2.2.2.2.2.2.2.1, x.2.2.2.2.2.2.2.2.1, x.2.2.2.2.2.2.2.2.2.1, x.2.2.2.2.2.2.2.2.2.2.1, x.2.2.2.2.2.2.2.2.2.2.2.1, y5, y6, q10.2, x.2.2.2.2.2.2.2.2.2.2.2.2.2.2.2.1, x.2.2.2.2.2.2.2.2.2.2.2.2.2.2.2.2.1, x.2.2.2.2.2.2.2.2.2.2.2.2.2.2.2.2.2)]) (L' := [w_Model E a o (x.1, x.2.1, x.2.2.1, x.2.2.2.1, x.2.2.2.2.1, x.2.2.2.2.2.1, x.2.2.2.2.2.2.1, x.2.2.2.2.2.2.2.1, x.2.2.2.2.2.2.2.2.1, x.2.2.2.2.2.2.2.2.2.1, x.2.2.2.2.2.2.2.2.2.2.1, x.2.2.2.2.2.2.2.2.2.2.2.1, y5, y6, q10.2, x.2.2.2.2.2.2.2.2.2.2.2.2.2.2.2.1, x.2.2.2.2.2.2.2.2.2.2.2.2.2.2.2.2.1, x.2.2.2.2.2.2.2.2.2.2.2.2.2.2.2.2.2)]) (rv := q10.1) (va_runV (As := [.int 1]) (rest := []) ⟨hx, hb, hml, hown, ha⟩ (k_X11_fails l E a o (x.1, x.2.1, x.2.2.1, x.2.2.2.1, x.2.2.2.2.1, x.2.2.2.2.2.1, x.2.2.2.2.2.2.1, x.2.2.2.2.2.2.2.1, x.2.2.2.2.2.2.2.2.1, x.2.2.2.2.2.2.2.2.2.1, x.2.2.2.2.2.2.2.2.2.2.1, x.2.2.2.2.2.2.2.2.2.2.2.1, y5, y6, x.2.2.2.2.2.2.2.2.2.2.2.2.2.2.1, x.2.2.2.2.2.2.2.2.2.2.2.2.2.2.2.1, x.2.2.2.2.2.2.2.2.2.2.2.2.2.2.2.2.1, x.2.2.2.2.2.2.2.2.2.2.2.2.2.2.2.2.2) 1 q10 hq10 H.size) (cwV 1 ha (gi_V (fun _ h => h) mw1716 mw1718 mw29 mw87 mw1719) rfl rfl rfl hv_X11_fails ⟨(Nat.le_of_ble_eq_true rfl), (Nat.le_of_ble_eq_true rfl)⟩) ⟨pre_blind, va_recv hst.k (fr_P hP [0] rfl) (ci := 13) (q0 := 0) rfl rfl, pre_at hP hD hS hz hzs hst [0] (by decide) rfl rfl⟩ rfl rfl hl.1 rfl (lv_room (Nat.le_of_ble_eq_true rfl)) dX11_lastBeat_27 ⟨(Nat.le_of_ble_eq_true rfl), (Nat.le_of_ble_eq_true rfl)⟩) hP hD hS hA [0] (by decide) rfl rfl rfl rfl (fun H locs hP hD hS => ?_)
    refine lv_goto (tgt := 38) hx hb dX11_lastBeat_30 (by decide) ?_
    obtain rfl := Option.some.inj hF
    exact en_i hQ (Nat.le_of_ble_eq_true rfl) (Nat.le_of_ble_eq_true rfl) hx hb hr hlocks hP hD hS rfl dX11_lastBeat_38

/-! X11_totalDissonances -/
theorem dX11_totalDissonances_0 : decode cX11_totalDissonances 0 = .ok (.lconst 0, 1) := by decide +kernel
theorem dX11_totalDissonances_1 : decode cX11_totalDissonances 1 = .ok (.lstore_n 1, 1) := by decide +kernel
theorem dX11_totalDissonances_2 : decode cX11_totalDissonances 2 = .ok (.iconst 0, 1) := by decide +kernel
theorem dX11_totalDissonances_3 : decode cX11_totalDissonances 3 = .ok (.istore_n 3, 1) := by decide +kernel
theorem dX11_totalDissonances_4 : decode cX11_totalDissonances 4 = .ok (.iload_n 3, 1) := by decide +kernel
theorem dX11_totalDissonances_5 : decode cX11_totalDissonances 5 = .ok (.bipush 31, 2) := by decide +kernel
theorem dX11_totalDissonances_7 : decode cX11_totalDissonances 7 = .ok (.if_icmp .gt 19, 3) := by decide +kernel
theorem dX11_totalDissonances_10 : decode cX11_totalDissonances 10 = .ok (.lload_n 1, 1) := by decide +kernel
theorem dX11_totalDissonances_11 : decode cX11_totalDissonances 11 = .ok (.aload_n 0, 1) := by decide +kernel
theorem dX11_totalDissonances_12 : decode cX11_totalDissonances 12 = .ok (.iload_n 3, 1) := by decide +kernel
theorem dX11_totalDissonances_13 : decode cX11_totalDissonances 13 = .ok (.iconst 0, 1) := by decide +kernel
theorem dX11_totalDissonances_14 : decode cX11_totalDissonances 14 = .ok (.invokevirtual 174, 3) := by decide +kernel
theorem dX11_totalDissonances_17 : decode cX11_totalDissonances 17 = .ok (.i2l, 1) := by decide +kernel
theorem dX11_totalDissonances_18 : decode cX11_totalDissonances 18 = .ok (.ladd, 1) := by decide +kernel
theorem dX11_totalDissonances_19 : decode cX11_totalDissonances 19 = .ok (.lstore_n 1, 1) := by decide +kernel
theorem dX11_totalDissonances_20 : decode cX11_totalDissonances 20 = .ok (.iinc 3 1, 3) := by decide +kernel
theorem dX11_totalDissonances_23 : decode cX11_totalDissonances 23 = .ok (.goto (-19), 3) := by decide +kernel
theorem dX11_totalDissonances_26 : decode cX11_totalDissonances 26 = .ok (.aload_n 0, 1) := by decide +kernel
theorem dX11_totalDissonances_27 : decode cX11_totalDissonances 27 = .ok (.iconst 0, 1) := by decide +kernel
theorem dX11_totalDissonances_28 : decode cX11_totalDissonances 28 = .ok (.putfield 42, 3) := by decide +kernel
theorem dX11_totalDissonances_31 : decode cX11_totalDissonances 31 = .ok (.lload_n 1, 1) := by decide +kernel
theorem dX11_totalDissonances_32 : decode cX11_totalDissonances 32 = .ok (.lreturn, 1) := by decide +kernel
def f_X11_totalDissonances_L4 (x_g : (Nat → Int32)) (K4 : Int64 → (Nat → Int32) → Int32 → Option (Int64 × (Nat → Int32) × Int32 × Int32)) : Nat → Int32 → Int64 → (Nat → Int32) → Int32 → Option (Int64 × (Nat → Int32) × Int32 × Int32)
  | 0, _, _, _, _ => none
  | n4 + 1, i1, i2, i3, i4 =>
    q_br (31 < i1) (
  K4 i2 i3 i4) (
  q_bd (f_X11_pairs x_g i3 i4 i1 0) (fun q8 =>
  q_lt (i2 + (q8.1.toInt64) : Int64) (fun v9 =>
  q_lt (i1 + 1 : Int32) (fun v10 =>
  f_X11_totalDissonances_L4 x_g K4 n4 v10 v9 q8.2.1 q8.2.2))))
def f_X11_totalDissonances (x_g : (Nat → Int32)) (x_notes : (Nat → Int32)) (x_noteCount : Int32) (x_thrown : Int32) : Option (Int64 × (Nat → Int32) × Int32 × Int32) :=
  f_X11_totalDissonances_L4 x_g (fun y5 y6 y7 =>
  some (y5, y6, y7, 0)) 2000 0 0 x_notes x_noteCount
theorem hv_X11_totalDissonances : yX11_totalDissonances.cls = RX11 ∧ yX11_totalDissonances.cls ≠ "java/lang/invoke/MethodHandle" ∧ yX11_totalDissonances.cls ≠ "java/lang/invoke/VarHandle" ∧ (parseMethodDescriptor yX11_totalDissonances.desc).map (fun d => d.parameters.length) = some 0 := by decide +kernel
abbrev rm_X11_totalDissonances : Room := { frames := 4, cells := 0, slots := 0, locals := 95 }
set_option maxHeartbeats 4000000 in
set_option maxRecDepth 100000 in
theorem k_X11_totalDissonances (l : Launch) (E : ET) (a : Nat → Nat) (o : Nat) (x : Model_t) (res : Int64 × (Nat → Int32) × Int32 × Int32) (hF : f_X11_totalDissonances x.1 x.2.2.2.2.2.2.2.2.2.2.2.2.1 x.2.2.2.2.2.2.2.2.2.2.2.2.2.1 x.2.2.2.2.2.2.2.2.2.2.2.2.2.2.1 = some res) (sz : Nat) : CtJ l yX11_totalDissonances (mws yX11_totalDissonances cX11_totalDissonances 4 (some .long)) rm_X11_totalDissonances 0 0 [.ref (a o)] E (bl_Model E a o x) res.1 (bl_Model E a o (x.1, x.2.1, x.2.2.1, x.2.2.2.1, x.2.2.2.2.1, x.2.2.2.2.2.1, x.2.2.2.2.2.2.1, x.2.2.2.2.2.2.2.1, x.2.2.2.2.2.2.2.2.1, x.2.2.2.2.2.2.2.2.2.1, x.2.2.2.2.2.2.2.2.2.2.1, x.2.2.2.2.2.2.2.2.2.2.2.1, res.2.1, res.2.2.1, res.2.2.2, x.2.2.2.2.2.2.2.2.2.2.2.2.2.2.2.1, x.2.2.2.2.2.2.2.2.2.2.2.2.2.2.2.2.1, x.2.2.2.2.2.2.2.2.2.2.2.2.2.2.2.2.2)) sz := by
  refine mk_M (by decide +kernel) (Nat.le_of_ble_eq_true rfl) ?_
  intro p e s m below meth c A args Q ls hAe hsz hQ hx hb hr hml hin ha hown hlocks hA hz hzs hst hP hD hS hl
  have hown : s.vm.findClass RX11 = some m.cls := hown
  rw [hAe] at hQ
  subst hsz
  have hP : va_P E.1 vwCl (List.flatten [w_Model E a o x]) s.heap := hP
  have hD : va_D A (List.flatten [w_Model E a o x]) := hD
  have hl : lv_has ls 4 [(0, .ref (a o))] := hl
  generalize hHe : s.heap = H at hP
  have hS : va_S A s.heap H [] := by rw [← hHe]; exact hS
  generalize ([] : List Loc) = locs at hS ⊢
  unfold f_X11_totalDissonances at hF
  refine lv_lconst (v := 0) hx hb dX11_totalDissonances_0 (by decide) ?_
  refine lv_lstore_n (lv' := [(1, .long 0), (0, .ref (a o))]) hx hb dX11_totalDissonances_1 rfl hl (by decide) rfl (fun ls hl => ?_)
  refine lv_iconst (v := 0) hx hb dX11_totalDissonances_2 (by decide) ?_
  refine lv_istore_n (lv' := [(3, .int 0), (1, .long 0), (0, .ref (a o))]) hx hb dX11_totalDissonances_3 rfl hl (by decide) rfl (fun ls hl => ?_)
  have key4 : ∀ (K : Int64 → (Nat → Int32) → Int32 → Option (Int64 × (Nat → Int32) × Int32 × Int32)), (∀ (y5 : Int64) (y6 : (Nat → Int32)) (y7 : Int32) (H : Heap) (locs : List Loc) (ls : Array Slot), K y5 y6 y7 = some res → va_P E.1 vwCl (List.flatten [w_Model E a o (x.1, x.2.1, x.2.2.1, x.2.2.2.1, x.2.2.2.2.1, x.2.2.2.2.2.1, x.2.2.2.2.2.2.1, x.2.2.2.2.2.2.2.1, x.2.2.2.2.2.2.2.2.1, x.2.2.2.2.2.2.2.2.2.1, x.2.2.2.2.2.2.2.2.2.2.1, x.2.2.2.2.2.2.2.2.2.2.2.1, y6, y7, x.2.2.2.2.2.2.2.2.2.2.2.2.2.2.1, x.2.2.2.2.2.2.2.2.2.2.2.2.2.2.2.1, x.2.2.2.2.2.2.2.2.2.2.2.2.2.2.2.2.1, x.2.2.2.2.2.2.2.2.2.2.2.2.2.2.2.2.2)]) H → va_D A (List.flatten [w_Model E a o (x.1, x.2.1, x.2.2.1, x.2.2.2.1, x.2.2.2.2.1, x.2.2.2.2.2.1, x.2.2.2.2.2.2.1, x.2.2.2.2.2.2.2.1, x.2.2.2.2.2.2.2.2.1, x.2.2.2.2.2.2.2.2.2.1, x.2.2.2.2.2.2.2.2.2.2.1, x.2.2.2.2.2.2.2.2.2.2.2.1, y6, y7, x.2.2.2.2.2.2.2.2.2.2.2.2.2.2.1, x.2.2.2.2.2.2.2.2.2.2.2.2.2.2.2.1, x.2.2.2.2.2.2.2.2.2.2.2.2.2.2.2.2.1, x.2.2.2.2.2.2.2.2.2.2.2.2.2.2.2.2.2)]) → va_S A s.heap H locs → lv_has ls 4 [(1, .long y5), (0, .ref (a o))] → W p l e rm_X11_totalDissonances s m args below meth c H locs 0 0 Q (F0 m 26 ls [])) → ∀ (n : Nat) (i1 : Int32) (i2 : Int64) (i3 : (Nat → Int32)) (i4 : Int32) (H : Heap) (locs : List Loc) (ls : Array Slot), f_X11_totalDissonances_L4 x.1 K n i1 i2 i3 i4 = some res → va_P E.1 vwCl (List.flatten [w_Model E a o (x.1, x.2.1, x.2.2.1, x.2.2.2.1, x.2.2.2.2.1, x.2.2.2.2.2.1, x.2.2.2.2.2.2.1, x.2.2.2.2.2.2.2.1, x.2.2.2.2.2.2.2.2.1, x.2.2.2.2.2.2.2.2.2.1, x.2.2.2.2.2.2.2.2.2.2.1, x.2.2.2.2.2.2.2.2.2.2.2.1, i3, i4, x.2.2.2.2.2.2.2.2.2.2.2.2.2.2.1, x.2.2.2.2.2.2.2.2.2.2.2.2.2.2.2.1, x.2.2.2.2.2.2.2.2.2.2.2.2.2.2.2.2.1, x.2.2.2.2.2.2.2.2.2.2.2.2.2.2.2.2.2)]) H → va_D A (List.flatten [w_Model E a o (x.1, x.2.1, x.2.2.1, x.2.2.2.1, x.2.2.2.2.1, x.2.2.2.2.2.1, x.2.2.2.2.2.2.1, x.2.2.2.2.2.2.2.1, x.2.2.2.2.2.2.2.2.1, x.2.2.2.2.2.2.2.2.2.1, x.2.2.2.2.2.2.2.2.2.2.1, x.2.2.2.2.2.2.2.2.2.2.2.1, i3, i4, x.2.2.2.2.2.2.2.2.2.2.2.2.2.2.1, x.2.2.2.2.2.2.2.2.2.2.2.2.2.2.2.1, x.2.2.2.2.2.2.2.2.2.2.2.2.2.2.2.2.1, x.2.2.2.2.2.2.2.2.2.2.2.2.2.2.2.2.2)]) → va_S A s.heap H locs → lv_has ls 4 [(3, .int i1), (1, .long i2), (0, .ref (a o))] → W p l e rm_X11_totalDissonances s m args below meth c H locs 0 0 Q (F0 m 4 ls []) := by
    intro K4 hK4 n4
    induction n4 with
    | zero => intro i1 i2 i3 i4 H locs ls hF; exact absurd hF (by simp [f_X11_totalDissonances_L4])
    | succ n4 ih4 =>
      intro i1 i2 i3 i4 H locs ls hF hP hD hS hl
      rw [f_X11_totalDissonances_L4] at hF
      refine lv_iload_n hx hb dX11_totalDissonances_4 rfl (lv_at hl 0 rfl) ?_
      refine lv_bipush (v := 31) hx hb dX11_totalDissonances_5 (by decide) ?_
      refine lv_icmp_gt (tgt := 26) hx hb dX11_totalDissonances_7 (by decide) (fun c7 => ?_) (fun c7 => ?_)
      · have hF := q_brp c7 hF
        exact hK4 i2 i3 i4 H locs ls hF hP hD hS (lv_sub hl [1, 2] rfl)
      · have hF := q_brn c7 hF
        refine lv_lload_n hx hb dX11_totalDissonances_10 rfl (lv_at hl 1 rfl) ?_
        refine lv_aload_n hx hb dX11_totalDissonances_11 rfl (lv_at hl 2 rfl) ?_
        refine lv_iload_n hx hb dX11_totalDissonances_12 rfl (lv_at hl 0 rfl) ?_
        refine lv_iconst (v := 0) hx hb dX11_totalDissonances_13 (by decide) ?_
        obtain ⟨q8, hq8, hF⟩ := q_bdi hF
        refine cl_i (Lc := [w_Model E a o (x.1, x.2.1, x.2.2.1, x.2.2.2.1, x.2.2.2.2.1, x.2.2.2.2.2.1, x.2.2.2.2.2.2.1, x.2.2.2.2.2.2.2.1, x.2.2.2.2.2.2.2.2.1, x.2.2.2.2.2.2.2.2.2.1, x.2.2.2.2.2.2.2.2.2.2.1, x.2.2.2.2.2.2.2.2.2.2.2.1, i3, i4, x.2.2.2.2.2.2.2.2.2.2.2.2.2.2.1, x.2.2.2.2.2.2.2.2.2.2.2.2.2.2.2.1, x.2.2.2.2.2.2.2.2.2.2.2.2.2.2.2.2.1, x.2.2.2.2.2.2.2.2.2.2.2.2.2.2.2.2.2)]) (Lc' := [w_Model E a o (x.1, x.2.1, x.2.2.1, x.2.2.2.1, x.2.2.2.2.1, x.2.2.2.2.2.1, x.2.2.2.2.2.2.1, x.2.2.2.2.2.2.2.1, x.2.2.2.2.2.2.2.2.1, x.2.2.2.2.2.2.2.2.2.1, x.2.2.2.2.2.2.2.2.2.2.1, x.2.2.2.2.2.2.2.2.2.2.2.1, q8.2.1, q8.2.2, x.2.2.2.2.2.2.2.2.2.2.2.2.2.2.1, x.2.2.2.2.2.2.2.2.2.2.2.2.2.2.2.1, x.2.2.2.2.2.2.2.2.2.2.2.2.2.2.2.2.1, x.2.2.2.2.2.2.2.2.2.2.2.2.2.2.2.2.2)]) (L' := [w_Model E a o (x.1, x.2.1, x.2.2.1, x.2.2.2.1, x.2.2.2.2.1, x.2.2.2.2.2.1, x.2.2.2.2.2.2.1, x.2.2.2.2.2.2.2.1, x.2.2.2.2.2.2.2.2.1, x.2.2.2.2.2.2.2.2.2.1, x.2.2.2.2.2.2.2.2.2.2.1, x.2.2.2.2.2.2.2.2.2.2.2.1, q8.2.1, q8.2.2, x.2.2.2.2.2.2.2.2.2.2.2.2.2.2.1, x.2.2.2.2.2.2.2.2.2.2.2.2.2.2.2.1, x.2.2.2.2.2.2.2.2.2.2.2.2.2.2.2.2.1, x.2.2.2.2.2.2.2.2.2.2.2.2.2.2.2.2.2)]) (rv := q8.1) (va_runV (As := [.int i1, .int 0]) (rest := [.long i2]) ⟨hx, hb, hml, hown, ha⟩ (k_X11_pairs l E a o (x.1, x.2.1, x.2.2.1, x.2.2.2.1, x.2.2.2.2.1, x.2.2.2.2.2.1, x.2.2.2.2.2.2.1, x.2.2.2.2.2.2.2.1, x.2.2.2.2.2.2.2.2.1, x.2.2.2.2.2.2.2.2.2.1, x.2.2.2.2.2.2.2.2.2.2.1, x.2.2.2.2.2.2.2.2.2.2.2.1, i3, i4, x.2.2.2.2.2.2.2.2.2.2.2.2.2.2.1, x.2.2.2.2.2.2.2.2.2.2.2.2.2.2.2.1, x.2.2.2.2.2.2.2.2.2.2.2.2.2.2.2.2.1, x.2.2.2.2.2.2.2.2.2.2.2.2.2.2.2.2.2) i1 0 q8 hq8 H.size) (cwV 2 ha (gi_V (fun _ h => h) mw1990 mw1992 mw57 mw87 mw1993) rfl rfl rfl hv_X11_pairs ⟨(Nat.le_of_ble_eq_true rfl), (Nat.le_of_ble_eq_true rfl)⟩) ⟨pre_blind, va_recv hst.k (fr_P hP [0] rfl) (ci := 13) (q0 := 0) rfl rfl, pre_at hP hD hS hz hzs hst [0] (by decide) rfl rfl⟩ rfl rfl hl.1 rfl (lv_room (Nat.le_of_ble_eq_true rfl)) dX11_totalDissonances_14 ⟨(Nat.le_of_ble_eq_true rfl), (Nat.le_of_ble_eq_true rfl)⟩) hP hD hS hA [0] (by decide) rfl rfl rfl rfl (fun H locs hP hD hS => ?_)
        refine lv_i2l hx hb dX11_totalDissonances_17 rfl ?_
        refine lv_ladd hx hb dX11_totalDissonances_18 ?_
        refine lv_topl (fun v9 ev9 => ?_)
        have hF := q_lti ev9 hF
        refine lv_lstore_n (lv' := [(1, .long v9), (3, .int i1), (0, .ref (a o))]) hx hb dX11_totalDissonances_19 rfl hl (by decide) rfl (fun ls hl => ?_)
        obtain ⟨v10, ev10⟩ : ∃ y : Int32, y = i1 + 1 := ⟨_, rfl⟩
        have hF := q_lti ev10 hF
        refine lv_iinc (v := v10) (lv' := [(3, .int v10), (1, .long v9), (0, .ref (a o))]) hx hb dX11_totalDissonances_20 hl (k := 1) rfl (by rw [ev10]; rfl) (by decide) rfl (fun ls hl => ?_)
        refine lv_goto (tgt := 4) hx hb dX11_totalDissonances_23 (by decide) ?_
        exact ih4 v10 v9 q8.2.1 q8.2.2 H locs ls hF hP hD hS (lv_sub hl [0, 1, 2] rfl)
  refine key4 _ ?_ _ 0 0 x.2.2.2.2.2.2.2.2.2.2.2.2.1 x.2.2.2.2.2.2.2.2.2.2.2.2.2.1 H locs ls hF hP hD hS (lv_sub hl [0, 1, 2] rfl)
  intro y5 y6 y7 H locs ls hF hP hD hS hl
  refine lv_aload_n hx hb dX11_totalDissonances_26 rfl (lv_at hl 1 rfl) ?_
  refine lv_iconst (v := 0) hx hb dX11_totalDissonances_27 (by decide) ?_
  refine va_put (D := E.1) (ci := 13) (v := .int 0) (ty := .int) (C := RX11) (T := TX11) (N := 18) hx hb ha in_X11 tyX11 tyX11_ok nmX11 hown hst.k hP hD hS 0 rfl rfl 14 (by decide) (ha _ mw1650) (fun _ h9 => h9) rfl (tyX11_ok 14 (by decide)) rfl rfl (Nat.le_of_ble_eq_true rfl) dX11_totalDissonances_28 (fun H locs hP hD hS => ?_)
  have hP : va_P E.1 vwCl (List.flatten [w_Model E a o (x.1, x.2.1, x.2.2.1, x.2.2.2.1, x.2.2.2.2.1, x.2.2.2.2.2.1, x.2.2.2.2.2.2.1, x.2.2.2.2.2.2.2.1, x.2.2.2.2.2.2.2.2.1, x.2.2.2.2.2.2.2.2.2.1, x.2.2.2.2.2.2.2.2.2.2.1, x.2.2.2.2.2.2.2.2.2.2.2.1, y6, y7, 0, x.2.2.2.2.2.2.2.2.2.2.2.2.2.2.2.1, x.2.2.2.2.2.2.2.2.2.2.2.2.2.2.2.2.1, x.2.2.2.2.2.2.2.2.2.2.2.2.2.2.2.2.2)]) H := hP
  have hD : va_D A (List.flatten [w_Model E a o (x.1, x.2.1, x.2.2.1, x.2.2.2.1, x.2.2.2.2.1, x.2.2.2.2.2.1, x.2.2.2.2.2.2.1, x.2.2.2.2.2.2.2.1, x.2.2.2.2.2.2.2.2.1, x.2.2.2.2.2.2.2.2.2.1, x.2.2.2.2.2.2.2.2.2.2.1, x.2.2.2.2.2.2.2.2.2.2.2.1, y6, y7, 0, x.2.2.2.2.2.2.2.2.2.2.2.2.2.2.2.1, x.2.2.2.2.2.2.2.2.2.2.2.2.2.2.2.2.1, x.2.2.2.2.2.2.2.2.2.2.2.2.2.2.2.2.2)]) := hD
  refine lv_lload_n hx hb dX11_totalDissonances_31 rfl (lv_at hl 0 rfl) ?_
  obtain rfl := Option.some.inj hF
  exact en_j hQ (Nat.le_of_ble_eq_true rfl) (Nat.le_of_ble_eq_true rfl) hx hb hr hlocks hP hD hS rfl dX11_totalDissonances_32

/-! X11_harshestBeat -/
theorem dX11_harshestBeat_0 : decode cX11_harshestBeat 0 = .ok (.iconst (-1), 1) := by decide +kernel
theorem dX11_harshestBeat_1 : decode cX11_harshestBeat 1 = .ok (.istore_n 1, 1) := by decide +kernel
theorem dX11_harshestBeat_2 : decode cX11_harshestBeat 2 = .ok (.iconst 0, 1) := by decide +kernel
theorem dX11_harshestBeat_3 : decode cX11_harshestBeat 3 = .ok (.istore_n 2, 1) := by decide +kernel
theorem dX11_harshestBeat_4 : decode cX11_harshestBeat 4 = .ok (.iload_n 2, 1) := by decide +kernel
theorem dX11_harshestBeat_5 : decode cX11_harshestBeat 5 = .ok (.bipush 31, 2) := by decide +kernel
theorem dX11_harshestBeat_7 : decode cX11_harshestBeat 7 = .ok (.if_icmp .gt 43, 3) := by decide +kernel
theorem dX11_harshestBeat_10 : decode cX11_harshestBeat 10 = .ok (.aload_n 0, 1) := by decide +kernel
theorem dX11_harshestBeat_11 : decode cX11_harshestBeat 11 = .ok (.iload_n 2, 1) := by decide +kernel
theorem dX11_harshestBeat_12 : decode cX11_harshestBeat 12 = .ok (.invokevirtual 181, 3) := by decide +kernel
theorem dX11_harshestBeat_15 : decode cX11_harshestBeat 15 = .ok (.ifCond .eq 29, 3) := by decide +kernel
theorem dX11_harshestBeat_18 : decode cX11_harshestBeat 18 = .ok (.iload_n 1, 1) := by decide +kernel
theorem dX11_harshestBeat_19 : decode cX11_harshestBeat 19 = .ok (.iconst (-1), 1) := by decide +kernel
theorem dX11_harshestBeat_20 : decode cX11_harshestBeat 20 = .ok (.if_icmp .eq 18, 3) := by decide +kernel
theorem dX11_harshestBeat_23 : decode cX11_harshestBeat 23 = .ok (.aload_n 0, 1) := by decide +kernel
theorem dX11_harshestBeat_24 : decode cX11_harshestBeat 24 = .ok (.iload_n 2, 1) := by decide +kernel
theorem dX11_harshestBeat_25 : decode cX11_harshestBeat 25 = .ok (.iconst 0, 1) := by decide +kernel
theorem dX11_harshestBeat_26 : decode cX11_harshestBeat 26 = .ok (.invokevirtual 174, 3) := by decide +kernel
theorem dX11_harshestBeat_29 : decode cX11_harshestBeat 29 = .ok (.aload_n 0, 1) := by decide +kernel
theorem dX11_harshestBeat_30 : decode cX11_harshestBeat 30 = .ok (.iload_n 1, 1) := by decide +kernel
theorem dX11_harshestBeat_31 : decode cX11_harshestBeat 31 = .ok (.iconst 0, 1) := by decide +kernel
theorem dX11_harshestBeat_32 : decode cX11_harshestBeat 32 = .ok (.invokevirtual 174, 3) := by decide +kernel
theorem dX11_harshestBeat_35 : decode cX11_harshestBeat 35 = .ok (.if_icmp .le 7, 3) := by decide +kernel
theorem dX11_harshestBeat_38 : decode cX11_harshestBeat 38 = .ok (.iload_n 2, 1) := by decide +kernel
theorem dX11_harshestBeat_39 : decode cX11_harshestBeat 39 = .ok (.goto 4, 3) := by decide +kernel
theorem dX11_harshestBeat_42 : decode cX11_harshestBeat 42 = .ok (.iload_n 1, 1) := by decide +kernel
theorem dX11_harshestBeat_43 : decode cX11_harshestBeat 43 = .ok (.istore_n 1, 1) := by decide +kernel
theorem dX11_harshestBeat_44 : decode cX11_harshestBeat 44 = .ok (.iinc 2 1, 3) := by decide +kernel
theorem dX11_harshestBeat_47 : decode cX11_harshestBeat 47 = .ok (.goto (-43), 3) := by decide +kernel
theorem dX11_harshestBeat_50 : decode cX11_harshestBeat 50 = .ok (.iload_n 1, 1) := by decide +kernel
theorem dX11_harshestBeat_51 : decode cX11_harshestBeat 51 = .ok (.iconst (-1), 1) := by decide +kernel
theorem dX11_harshestBeat_52 : decode cX11_harshestBeat 52 = .ok (.if_icmp .ne 11, 3) := by decide +kernel
theorem dX11_harshestBeat_55 : decode cX11_harshestBeat 55 = .ok (.aload_n 0, 1) := by decide +kernel
theorem dX11_harshestBeat_56 : decode cX11_harshestBeat 56 = .ok (.iconst 1, 1) := by decide +kernel
theorem dX11_harshestBeat_57 : decode cX11_harshestBeat 57 = .ok (.invokevirtual 80, 3) := by decide +kernel
theorem dX11_harshestBeat_60 : decode cX11_harshestBeat 60 = .ok (.goto 8, 3) := by decide +kernel
theorem dX11_harshestBeat_63 : decode cX11_harshestBeat 63 = .ok (.aload_n 0, 1) := by decide +kernel
theorem dX11_harshestBeat_64 : decode cX11_harshestBeat 64 = .ok (.iload_n 1, 1) := by decide +kernel
theorem dX11_harshestBeat_65 : decode cX11_harshestBeat 65 = .ok (.invokevirtual 83, 3) := by decide +kernel
theorem dX11_harshestBeat_68 : decode cX11_harshestBeat 68 = .ok (.ireturn, 1) := by decide +kernel
def f_X11_harshestBeat_L4 (x_g : (Nat → Int32)) (K4 : Int32 → (Nat → Int32) → Int32 → Option (Int32 × (Nat → Int32) × Int32 × Int32)) : Nat → Int32 → Int32 → (Nat → Int32) → Int32 → Option (Int32 × (Nat → Int32) × Int32 × Int32)
  | 0, _, _, _, _ => none
  | n4 + 1, i1, i2, i3, i4 =>
    q_br (31 < i1) (
  K4 i2 i3 i4) (
  q_bd (f_X11_isHeard x_g i3 i4 i1) (fun q8 =>
  q_lt (fun (j9 : Int32) (j10 : (Nat → Int32)) (j11 : Int32) =>
  q_lt (i1 + 1 : Int32) (fun v12 =>
  f_X11_harshestBeat_L4 x_g K4 n4 v12 j9 j10 j11)) (fun (J44 : Int32 → (Nat → Int32) → Int32 → Option (Int32 × (Nat → Int32) × Int32 × Int32)) =>
  q_br (q8.1 = 0) (
  J44 i2 q8.2.1 q8.2.2) (
  q_lt (fun (j13 : Int32) (j14 : (Nat → Int32)) (j15 : Int32) =>
  J44 j13 j14 j15) (fun (J43 : Int32 → (Nat → Int32) → Int32 → Option (Int32 × (Nat → Int32) × Int32 × Int32)) =>
  q_br (i2 = (-1)) (
  J43 i1 q8.2.1 q8.2.2) (
  q_bd (f_X11_pairs x_g q8.2.1 q8.2.2 i1 0) (fun q16 =>
  q_bd (f_X11_pairs x_g q16.2.1 q16.2.2 i2 0) (fun q17 =>
  q_br (q16.1 ≤ q17.1) (
  J43 i2 q17.2.1 q17.2.2) (
  J43 i1 q17.2.1 q17.2.2)))))))))
def f_X11_harshestBeat (x_g : (Nat → Int32)) (x_notes : (Nat → Int32)) (x_noteCount : Int32) (x_thrown : Int32) : Option (Int32 × (Nat → Int32) × Int32 × Int32) :=
  f_X11_harshestBeat_L4 x_g (fun y5 y6 y7 =>
  q_br (y5 = (-1)) (
  q_bd (f_X11_fails x_thrown 1) (fun q19 =>
  some (q19.1, y6, y7, q19.2))) (
  q_bd (f_X11_done x_thrown y5) (fun q18 =>
  some (q18.1, y6, y7, q18.2)))) 2000 0 (-1) x_notes x_noteCount
theorem hv_X11_harshestBeat : yX11_harshestBeat.cls = RX11 ∧ yX11_harshestBeat.cls ≠ "java/lang/invoke/MethodHandle" ∧ yX11_harshestBeat.cls ≠ "java/lang/invoke/VarHandle" ∧ (parseMethodDescriptor yX11_harshestBeat.desc).map (fun d => d.parameters.length) = some 0 := by decide +kernel
abbrev rm_X11_harshestBeat : Room := { frames := 4, cells := 0, slots := 0, locals := 95 }
set_option maxHeartbeats 4000000 in
set_option maxRecDepth 100000 in
theorem k_X11_harshestBeat (l : Launch) (E : ET) (a : Nat → Nat) (o : Nat) (x : Model_t) (res : Int32 × (Nat → Int32) × Int32 × Int32) (hF : f_X11_harshestBeat x.1 x.2.2.2.2.2.2.2.2.2.2.2.2.1 x.2.2.2.2.2.2.2.2.2.2.2.2.2.1 x.2.2.2.2.2.2.2.2.2.2.2.2.2.2.1 = some res) (sz : Nat) : CtI l yX11_harshestBeat (mws yX11_harshestBeat cX11_harshestBeat 3 (some .int)) rm_X11_harshestBeat 0 0 [.ref (a o)] E (bl_Model E a o x) res.1 (bl_Model E a o (x.1, x.2.1, x.2.2.1, x.2.2.2.1, x.2.2.2.2.1, x.2.2.2.2.2.1, x.2.2.2.2.2.2.1, x.2.2.2.2.2.2.2.1, x.2.2.2.2.2.2.2.2.1, x.2.2.2.2.2.2.2.2.2.1, x.2.2.2.2.2.2.2.2.2.2.1, x.2.2.2.2.2.2.2.2.2.2.2.1, res.2.1, res.2.2.1, res.2.2.2, x.2.2.2.2.2.2.2.2.2.2.2.2.2.2.2.1, x.2.2.2.2.2.2.2.2.2.2.2.2.2.2.2.2.1, x.2.2.2.2.2.2.2.2.2.2.2.2.2.2.2.2.2)) sz := by
  refine mk_M (by decide +kernel) (Nat.le_of_ble_eq_true rfl) ?_
  intro p e s m below meth c A args Q ls hAe hsz hQ hx hb hr hml hin ha hown hlocks hA hz hzs hst hP hD hS hl
  have hown : s.vm.findClass RX11 = some m.cls := hown
  rw [hAe] at hQ
  subst hsz
  have hP : va_P E.1 vwCl (List.flatten [w_Model E a o x]) s.heap := hP
  have hD : va_D A (List.flatten [w_Model E a o x]) := hD
  have hl : lv_has ls 3 [(0, .ref (a o))] := hl
  generalize hHe : s.heap = H at hP
  have hS : va_S A s.heap H [] := by rw [← hHe]; exact hS
  generalize ([] : List Loc) = locs at hS ⊢
  unfold f_X11_harshestBeat at hF
  refine lv_iconst (v := (-1)) hx hb dX11_harshestBeat_0 (by decide) ?_
  refine lv_istore_n (lv' := [(1, .int (-1)), (0, .ref (a o))]) hx hb dX11_harshestBeat_1 rfl hl (by decide) rfl (fun ls hl => ?_)
  refine lv_iconst (v := 0) hx hb dX11_harshestBeat_2 (by decide) ?_
  refine lv_istore_n (lv' := [(2, .int 0), (1, .int (-1)), (0, .ref (a o))]) hx hb dX11_harshestBeat_3 rfl hl (by decide) rfl (fun ls hl => ?_)
  have key4 : ∀ (K : Int32 → (Nat → Int32) → Int32 → Option (Int32 × (Nat → Int32) × Int32 × Int32)), (∀ (y5 : Int32) (y6 : (Nat → Int32)) (y7 : Int32) (H : Heap) (locs : List Loc) (ls : Array Slot), K y5 y6 y7 = some res → va_P E.1 vwCl (List.flatten [w_Model E a o (x.1, x.2.1, x.2.2.1, x.2.2.2.1, x.2.2.2.2.1, x.2.2.2.2.2.1, x.2.2.2.2.2.2.1, x.2.2.2.2.2.2.2.1, x.2.2.2.2.2.2.2.2.1, x.2.2.2.2.2.2.2.2.2.1, x.2.2.2.2.2.2.2.2.2.2.1, x.2.2.2.2.2.2.2.2.2.2.2.1, y6, y7, x.2.2.2.2.2.2.2.2.2.2.2.2.2.2.1, x.2.2.2.2.2.2.2.2.2.2.2.2.2.2.2.1, x.2.2.2.2.2.2.2.2.2.2.2.2.2.2.2.2.1, x.2.2.2.2.2.2.2.2.2.2.2.2.2.2.2.2.2)]) H → va_D A (List.flatten [w_Model E a o (x.1, x.2.1, x.2.2.1, x.2.2.2.1, x.2.2.2.2.1, x.2.2.2.2.2.1, x.2.2.2.2.2.2.1, x.2.2.2.2.2.2.2.1, x.2.2.2.2.2.2.2.2.1, x.2.2.2.2.2.2.2.2.2.1, x.2.2.2.2.2.2.2.2.2.2.1, x.2.2.2.2.2.2.2.2.2.2.2.1, y6, y7, x.2.2.2.2.2.2.2.2.2.2.2.2.2.2.1, x.2.2.2.2.2.2.2.2.2.2.2.2.2.2.2.1, x.2.2.2.2.2.2.2.2.2.2.2.2.2.2.2.2.1, x.2.2.2.2.2.2.2.2.2.2.2.2.2.2.2.2.2)]) → va_S A s.heap H locs → lv_has ls 3 [(1, .int y5), (0, .ref (a o))] → W p l e rm_X11_harshestBeat s m args below meth c H locs 0 0 Q (F0 m 50 ls [])) → ∀ (n : Nat) (i1 : Int32) (i2 : Int32) (i3 : (Nat → Int32)) (i4 : Int32) (H : Heap) (locs : List Loc) (ls : Array Slot), f_X11_harshestBeat_L4 x.1 K n i1 i2 i3 i4 = some res → va_P E.1 vwCl (List.flatten [w_Model E a o (x.1, x.2.1, x.2.2.1, x.2.2.2.1, x.2.2.2.2.1, x.2.2.2.2.2.1, x.2.2.2.2.2.2.1, x.2.2.2.2.2.2.2.1, x.2.2.2.2.2.2.2.2.1, x.2.2.2.2.2.2.2.2.2.1, x.2.2.2.2.2.2.2.2.2.2.1, x.2.2.2.2.2.2.2.2.2.2.2.1, i3, i4, x.2.2.2.2.2.2.2.2.2.2.2.2.2.2.1, x.2.2.2.2.2.2.2.2.2.2.2.2.2.2.2.1, x.2.2.2.2.2.2.2.2.2.2.2.2.2.2.2.2.1, x.2.2.2.2.2.2.2.2.2.2.2.2.2.2.2.2.2)]) H → va_D A (List.flatten [w_Model E a o (x.1, x.2.1, x.2.2.1, x.2.2.2.1, x.2.2.2.2.1, x.2.2.2.2.2.1, x.2.2.2.2.2.2.1, x.2.2.2.2.2.2.2.1, x.2.2.2.2.2.2.2.2.1, x.2.2.2.2.2.2.2.2.2.1, x.2.2.2.2.2.2.2.2.2.2.1, x.2.2.2.2.2.2.2.2.2.2.2.1, i3, i4, x.2.2.2.2.2.2.2.2.2.2.2.2.2.2.1, x.2.2.2.2.2.2.2.2.2.2.2.2.2.2.2.1, x.2.2.2.2.2.2.2.2.2.2.2.2.2.2.2.2.1, x.2.2.2.2.2.2.2.2.2.2.2.2.2.2.2.2.2)]) → va_S A s.heap H locs → lv_has ls 3 [(2, .int i1), (1, .int i2), (0, .ref (a o))] → W p l e rm_X11_harshestBeat s m args below meth c H locs 0 0 Q (F0 m 4 ls []) := by
    intro K4 hK4 n4
    induction n4 with
    | zero => intro i1 i2 i3 i4 H locs ls hF; exact absurd hF (by simp [f_X11_harshestBeat_L4])
    | succ n4 ih4 =>
      intro i1 i2 i3 i4 H locs ls hF hP hD hS hl
      rw [f_X11_harshestBeat_L4] at hF
      refine lv_iload_n hx hb dX11_harshestBeat_4 rfl (lv_at hl 0 rfl) ?_
      refine lv_bipush (v := 31) hx hb dX11_harshestBeat_5 (by decide) ?_
      refine lv_icmp_gt (tgt := 50) hx hb dX11_harshestBeat_7 (by decide) (fun c7 => ?_) (fun c7 => ?_)
      · have hF := q_brp c7 hF
        exact hK4 i2 i3 i4 H locs ls hF hP hD hS (lv_sub hl [1, 2] rfl)
      · have hF := q_brn c7 hF
        refine lv_aload_n hx hb dX11_harshestBeat_10 rfl (lv_at hl 2 rfl) ?_
        refine lv_iload_n hx hb dX11_harshestBeat_11 rfl (lv_at hl 0 rfl) ?_
        obtain ⟨q8, hq8, hF⟩ := q_bdi hF
        refine cl_i (Lc := [w_Model E a o (x.1, x.2.1, x.2.2.1, x.2.2.2.1, x.2.2.2.2.1, x.2.2.2.2.2.1, x.2.2.2.2.2.2.1, x.2.2.2.2.2.2.2.1, x.2.2.2.2.2.2.2.2.1, x.2.2.2.2.2.2.2.2.2.1, x.2.2.2.2.2.2.2.2.2.2.1, x.2.2.2.2.2.2.2.2.2.2.2.1, i3, i4, x.2.2.2.2.2.2.2.2.2.2.2.2.2.2.1, x.2.2.2.2.2.2.2.2.2.2.2.2.2.2.2.1, x.2.2.2.2.2.2.2.2.2.2.2.2.2.2.2.2.1, x.2.2.2.2.2.2.2.2.2.2.2.2.2.2.2.2.2)]) (Lc' := [w_Model E a o (x.1, x.2.1, x.2.2.1, x.2.2.2.1, x.2.2.2.2.1, x.2.2.2.2.2.1, x.2.2.2.2.2.2.1, x.2.2.2.2.2.2.2.1, x.2.2.2.2.2.2.2.2.1, x.2.2.2.2.2.2.2.2.2.1, x.2.2.2.2.2.2.2.2.2.2.1, x.2.2.2.2.2.2.2.2.2.2.2.1, q8.2.1, q8.2.2, x.2.2.2.2.2.2.2.2.2.2.2.2.2.2.1, x.2.2.2.2.2.2.2.2.2.2.2.2.2.2.2.1, x.2.2.2.2.2.2.2.2.2.2.2.2.2.2.2.2.1, x.2.2.2.2.2.2.2.2.2.2.2.2.2.2.2.2.2)]) (L' := [w_Model E a o (x.1, x.2.1, x.2.2.1, x.2.2.2.1, x.2.2.2.2.1, x.2.2.2.2.2.1, x.2.2.2.2.2.2.1, x.2.2.2.2.2.2.2.1, x.2.2.2.2.2.2.2.2.1, x.2.2.2.2.2.2.2.2.2.1, x.2.2.2.2.2.2.2.2.2.2.1, x.2.2.2.2.2.2.2.2.2.2.2.1, q8.2.1, q8.2.2, x.2.2.2.2.2.2.2.2.2.2.2.2.2.2.1, x.2.2.2.2.2.2.2.2.2.2.2.2.2.2.2.1, x.2.2.2.2.2.2.2.2.2.2.2.2.2.2.2.2.1, x.2.2.2.2.2.2.2.2.2.2.2.2.2.2.2.2.2)]) (rv := q8.1) (va_runV (As := [.int i1]) (rest := []) ⟨hx, hb, hml, hown, ha⟩ (k_X11_isHeard l E a o (x.1, x.2.1, x.2.2.1, x.2.2.2.1, x.2.2.2.2.1, x.2.2.2.2.2.1, x.2.2.2.2.2.2.1, x.2.2.2.2.2.2.2.1, x.2.2.2.2.2.2.2.2.1, x.2.2.2.2.2.2.2.2.2.1, x.2.2.2.2.2.2.2.2.2.2.1, x.2.2.2.2.2.2.2.2.2.2.2.1, i3, i4, x.2.2.2.2.2.2.2.2.2.2.2.2.2.2.1, x.2.2.2.2.2.2.2.2.2.2.2.2.2.2.2.1, x.2.2.2.2.2.2.2.2.2.2.2.2.2.2.2.2.1, x.2.2.2.2.2.2.2.2.2.2.2.2.2.2.2.2.2) i1 q8 hq8 H.size) (cwV 1 ha (gi_V (fun _ h => h) mw2010 mw2012 mw58 mw87 mw2013) rfl rfl rfl hv_X11_isHeard ⟨(Nat.le_of_ble_eq_true rfl), (Nat.le_of_ble_eq_true rfl)⟩) ⟨pre_blind, va_recv hst.k (fr_P hP [0] rfl) (ci := 13) (q0 := 0) rfl rfl, pre_at hP hD hS hz hzs hst [0] (by decide) rfl rfl⟩ rfl rfl hl.1 rfl (lv_room (Nat.le_of_ble_eq_true rfl)) dX11_harshestBeat_12 ⟨(Nat.le_of_ble_eq_true rfl), (Nat.le_of_ble_eq_true rfl)⟩) hP hD hS hA [0] (by decide) rfl rfl rfl rfl (fun H locs hP hD hS => ?_)
        obtain ⟨J44, hJ44, hF⟩ := q_jn hF
        have jJ44 : ∀ (j9 : Int32) (j10 : (Nat → Int32)) (j11 : Int32), ∀ (H : Heap) (locs : List Loc) (ls : Array Slot), J44 j9 j10 j11 = some res → va_P E.1 vwCl (List.flatten [w_Model E a o (x.1, x.2.1, x.2.2.1, x.2.2.2.1, x.2.2.2.2.1, x.2.2.2.2.2.1, x.2.2.2.2.2.2.1, x.2.2.2.2.2.2.2.1, x.2.2.2.2.2.2.2.2.1, x.2.2.2.2.2.2.2.2.2.1, x.2.2.2.2.2.2.2.2.2.2.1, x.2.2.2.2.2.2.2.2.2.2.2.1, j10, j11, x.2.2.2.2.2.2.2.2.2.2.2.2.2.2.1, x.2.2.2.2.2.2.2.2.2.2.2.2.2.2.2.1, x.2.2.2.2.2.2.2.2.2.2.2.2.2.2.2.2.1, x.2.2.2.2.2.2.2.2.2.2.2.2.2.2.2.2.2)]) H → va_D A (List.flatten [w_Model E a o (x.1, x.2.1, x.2.2.1, x.2.2.2.1, x.2.2.2.2.1, x.2.2.2.2.2.1, x.2.2.2.2.2.2.1, x.2.2.2.2.2.2.2.1, x.2.2.2.2.2.2.2.2.1, x.2.2.2.2.2.2.2.2.2.1, x.2.2.2.2.2.2.2.2.2.2.1, x.2.2.2.2.2.2.2.2.2.2.2.1, j10, j11, x.2.2.2.2.2.2.2.2.2.2.2.2.2.2.1, x.2.2.2.2.2.2.2.2.2.2.2.2.2.2.2.1, x.2.2.2.2.2.2.2.2.2.2.2.2.2.2.2.2.1, x.2.2.2.2.2.2.2.2.2.2.2.2.2.2.2.2.2)]) → va_S A s.heap H locs → lv_has ls 3 [(2, .int i1), (1, .int j9), (0, .ref (a o))] → W p l e rm_X11_harshestBeat s m args below meth c H locs 0 0 Q (F0 m 44 ls []) := by
          intro j9 j10 j11 H locs ls hF hP hD hS hl
          rw [hJ44] at hF
          obtain ⟨v12, ev12⟩ : ∃ y : Int32, y = i1 + 1 := ⟨_, rfl⟩
          have hF := q_lti ev12 hF
          refine lv_iinc (v := v12) (lv' := [(2, .int v12), (1, .int j9), (0, .ref (a o))]) hx hb dX11_harshestBeat_44 hl (k := 0) rfl (by rw [ev12]; rfl) (by decide) rfl (fun ls hl => ?_)
          refine lv_goto (tgt := 4) hx hb dX11_harshestBeat_47 (by decide) ?_
          exact ih4 v12 j9 j10 j11 H locs ls hF hP hD hS (lv_sub hl [0, 1, 2] rfl)
        refine lv_if_eq (tgt := 44) hx hb dX11_harshestBeat_15 (by decide) (fun c15 => ?_) (fun c15 => ?_)
        · have hF := q_brp c15 hF
          exact jJ44 i2 q8.2.1 q8.2.2 H locs ls hF hP hD hS (lv_sub hl [0, 1, 2] rfl)
        · have hF := q_brn c15 hF
          refine lv_iload_n hx hb dX11_harshestBeat_18 rfl (lv_at hl 1 rfl) ?_
          refine lv_iconst (v := (-1)) hx hb dX11_harshestBeat_19 (by decide) ?_
          obtain ⟨J43, hJ43, hF⟩ := q_jn hF
          have jJ43 : ∀ (j13 : Int32) (j14 : (Nat → Int32)) (j15 : Int32), ∀ (H : Heap) (locs : List Loc) (ls : Array Slot), J43 j13 j14 j15 = some res → va_P E.1 vwCl (List.flatten [w_Model E a o (x.1, x.2.1, x.2.2.1, x.2.2.2.1, x.2.2.2.2.1, x.2.2.2.2.2.1, x.2.2.2.2.2.2.1, x.2.2.2.2.2.2.2.1, x.2.2.2.2.2.2.2.2.1, x.2.2.2.2.2.2.2.2.2.1, x.2.2.2.2.2.2.2.2.2.2.1, x.2.2.2.2.2.2.2.2.2.2.2.1, j14, j15, x.2.2.2.2.2.2.2.2.2.2.2.2.2.2.1, x.2.2.2.2.2.2.2.2.2.2.2.2.2.2.2.1, x.2.2.2.2.2.2.2.2.2.2.2.2.2.2.2.2.1, x.2.2.2.2.2.2.2.2.2.2.2.2.2.2.2.2.2)]) H → va_D A (List.flatten [w_Model E a o (x.1, x.2.1, x.2.2.1, x.2.2.2.1, x.2.2.2.2.1, x.2.2.2.2.2.1, x.2.2.2.2.2.2.1, x.2.2.2.2.2.2.2.1, x.2.2.2.2.2.2.2.2.1, x.2.2.2.2.2.2.2.2.2.1, x.2.2.2.2.2.2.2.2.2.2.1, x.2.2.2.2.2.2.2.2.2.2.2.1, j14, j15, x.2.2.2.2.2.2.2.2.2.2.2.2.2.2.1, x.2.2.2.2.2.2.2.2.2.2.2.2.2.2.2.1, x.2.2.2.2.2.2.2.2.2.2.2.2.2.2.2.2.1, x.2.2.2.2.2.2.2.2.2.2.2.2.2.2.2.2.2)]) → va_S A s.heap H locs → lv_has ls 3 [(2, .int i1), (0, .ref (a o))] → W p l e rm_X11_harshestBeat s m args below meth c H locs 0 0 Q (F0 m 43 ls [.int j13]) := by
            intro j13 j14 j15 H locs ls hF hP hD hS hl
            rw [hJ43] at hF
            refine lv_istore_n (lv' := [(1, .int j13), (2, .int i1), (0, .ref (a o))]) hx hb dX11_harshestBeat_43 rfl hl (by decide) rfl (fun ls hl => ?_)
            exact jJ44 j13 j14 j15 H locs ls hF hP hD hS (lv_sub hl [1, 0, 2] rfl)
          refine lv_icmp_eq (tgt := 38) hx hb dX11_harshestBeat_20 (by decide) (fun c20 => ?_) (fun c20 => ?_)
          · have hF := q_brp c20 hF
            refine lv_iload_n hx hb dX11_harshestBeat_38 rfl (lv_at hl 0 rfl) ?_
            refine lv_goto (tgt := 43) hx hb dX11_harshestBeat_39 (by decide) ?_
            exact jJ43 i1 q8.2.1 q8.2.2 H locs ls hF hP hD hS (lv_sub hl [0, 2] rfl)
          · have hF := q_brn c20 hF
            refine lv_aload_n hx hb dX11_harshestBeat_23 rfl (lv_at hl 2 rfl) ?_
            refine lv_iload_n hx hb dX11_harshestBeat_24 rfl (lv_at hl 0 rfl) ?_
            refine lv_iconst (v := 0) hx hb dX11_harshestBeat_25 (by decide) ?_
            obtain ⟨q16, hq16, hF⟩ := q_bdi hF
            refine cl_i (Lc := [w_Model E a o (x.1, x.2.1, x.2.2.1, x.2.2.2.1, x.2.2.2.2.1, x.2.2.2.2.2.1, x.2.2.2.2.2.2.1, x.2.2.2.2.2.2.2.1, x.2.2.2.2.2.2.2.2.1, x.2.2.2.2.2.2.2.2.2.1, x.2.2.2.2.2.2.2.2.2.2.1, x.2.2.2.2.2.2.2.2.2.2.2.1, q8.2.1, q8.2.2, x.2.2.2.2.2.2.2.2.2.2.2.2.2.2.1, x.2.2.2.2.2.2.2.2.2.2.2.2.2.2.2.1, x.2.2.2.2.2.2.2.2.2.2.2.2.2.2.2.2.1, x.2.2.2.2.2.2.2.2.2.2.2.2.2.2.2.2.2)]) (Lc' := [w_Model E a o (x.1, x.2.1, x.2.2.1, x.2.2.2.1, x.2.2.2.2.1, x.2.2.2.2.2.1, x.2.2.2.2.2.2.1, x.2.2.2.2.2.2.2.1, x.2.2.2.2.2.2.2.2.1, x.2.2.2.2.2.2.2.2.2.1, x.2.2.2.2.2.2.2.2.2.2.1, x.2.2.2.2.2.2.2.2.2.2.2.1, q16.2.1, q16.2.2, x.2.2.2.2.2.2.2.2.2.2.2.2.2.2.1, x.2.2.2.2.2.2.2.2.2.2.2.2.2.2.2.1, x.2.2.2.2.2.2.2.2.2.2.2.2.2.2.2.2.1, x.2.2.2.2.2.2.2.2.2.2.2.2.2.2.2.2.2)]) (L' := [w_Model E a o (x.1, x.2.1, x.2.2.1, x.2.2.2.1, x.2.2.2.2.1, x.2.2.2.2.2.1, x.2.2.2.2.2.2.1, x.2.2.2.2.2.2.2.1, x.2.2.2.2.2.2.2.2.1, x.2.2.2.2.2.2.2.2.2.1, x.2.2.2.2.2.2.2.2.2.2.1, x.2.2.2.2.2.2.2.2.2.2.2.1, q16.2.1, q16.2.2, x.2.2.2.2.2.2.2.2.2.2.2.2.2.2.1, x.2.2.2.2.2.2.2.2.2.2.2.2.2.2.2.1, x.2.2.2.2.2.2.2.2.2.2.2.2.2.2.2.2.1, x.2.2.2.2.2.2.2.2.2.2.2.2.2.2.2.2.2)]) (rv := q16.1) (va_runV (As := [.int i1, .int 0]) (rest := []) ⟨hx, hb, hml, hown, ha⟩ (k_X11_pairs l E a o (x.1, x.2.1, x.2.2.1, x.2.2.2.1, x.2.2.2.2.1, x.2.2.2.2.2.1, x.2.2.2.2.2.2.1, x.2.2.2.2.2.2.2.1, x.2.2.2.2.2.2.2.2.1, x.2.2.2.2.2.2.2.2.2.1, x.2.2.2.2.2.2.2.2.2.2.1, x.2.2.2.2.2.2.2.2.2.2.2.1, q8.2.1, q8.2.2, x.2.2.2.2.2.2.2.2.2.2.2.2.2.2.1, x.2.2.2.2.2.2.2.2.2.2.2.2.2.2.2.1, x.2.2.2.2.2.2.2.2.2.2.2.2.2.2.2.2.1, x.2.2.2.2.2.2.2.2.2.2.2.2.2.2.2.2.2) i1 0 q16 hq16 H.size) (cwV 2 ha (gi_V (fun _ h => h) mw1990 mw1992 mw57 mw87 mw1993) rfl rfl rfl hv_X11_pairs ⟨(Nat.le_of_ble_eq_true rfl), (Nat.le_of_ble_eq_true rfl)⟩) ⟨pre_blind, va_recv hst.k (fr_P hP [0] rfl) (ci := 13) (q0 := 0) rfl rfl, pre_at hP hD hS hz hzs hst [0] (by decide) rfl rfl⟩ rfl rfl hl.1 rfl (lv_room (Nat.le_of_ble_eq_true rfl)) dX11_harshestBeat_26 ⟨(Nat.le_of_ble_eq_true rfl), (Nat.le_of_ble_eq_true rfl)⟩) hP hD hS hA [0] (by decide) rfl rfl rfl rfl (fun H locs hP hD hS => ?_)
            refine lv_aload_n hx hb dX11_harshestBeat_29 rfl (lv_at hl 2 rfl) ?_
            refine lv_iload_n hx hb dX11_harshestBeat_30 rfl (lv_at hl 1 rfl) ?_
            refine lv_iconst (v := 0) hx hb dX11_harshestBeat_31 (by decide) ?_
            obtain ⟨q17, hq17, hF⟩ := q_bdi hF
            refine cl_i (Lc := [w_Model E a o (x.1, x.2.1, x.2.2.1, x.2.2.2.1, x.2.2.2.2.1, x.2.2.2.2.2.1, x.2.2.2.2.2.2.1, x.2.2.2.2.2.2.2.1, x.2.2.2.2.2.2.2.2.1, x.2.2.2.2.2.2.2.2.2.1, x.2.2.2.2.2.2.2.2.2.2.1, x.2.2.2.2.2.2.2.2.2.2.2.1, q16.2.1, q16.2.2, x.2.2.2.2.2.2.2.2.2.2.2.2.2.2.1, x.2.2.2.2.2.2.2.2.2.2.2.2.2.2.2.1, x.2.2.2.2.2.2.2.2.2.2.2.2.2.2.2.2.1, x.2.2.2.2.2.2.2.2.2.2.2.2.2.2.2.2.2)]) (Lc' := [w_Model E a o (x.1, x.2.1, x.2.2.1, x.2.2.2.1, x.2.2.2.2.1, x.2.2.2.2.2.1, x.2.2.2.2.2.2.1, x.2.2.2.2.2.2.2.1, x.2.2.2.2.2.2.2.2.1, x.2.2.2.2.2.2.2.2.2.1, x.2.2.2.2.2.2.2.2.2.2.1, x.2.2.2.2.2.2.2.2.2.2.2.1, q17.2.1, q17.2.2, x.2.2.2.2.2.2.2.2.2.2.2.2.2.2.1, x.2.2.2.2.2.2.2.2.2.2.2.2.2.2.2.1, x.2.2.2.2.2.2.2.2.2.2.2.2.2.2.2.2.1, x.2.2.2.2.2.2.2.2.2.2.2.2.2.2.2.2.2)]) (L' := [w_Model E a o (x.1, x.2.1, x.2.2.1, x.2.2.2.1, x.2.2.2.2.1, x.2.2.2.2.2.1, x.2.2.2.2.2.2.1, x.2.2.2.2.2.2.2.1, x.2.2.2.2.2.2.2.2.1, x.2.2.2.2.2.2.2.2.2.1, x.2.2.2.2.2.2.2.2.2.2.1, x.2.2.2.2.2.2.2.2.2.2.2.1, q17.2.1, q17.2.2, x.2.2.2.2.2.2.2.2.2.2.2.2.2.2.1, x.2.2.2.2.2.2.2.2.2.2.2.2.2.2.2.1, x.2.2.2.2.2.2.2.2.2.2.2.2.2.2.2.2.1, x.2.2.2.2.2.2.2.2.2.2.2.2.2.2.2.2.2)]) (rv := q17.1) (va_runV (As := [.int i2, .int 0]) (rest := [.int q16.1]) ⟨hx, hb, hml, hown, ha⟩ (k_X11_pairs l E a o (x.1, x.2.1, x.2.2.1, x.2.2.2.1, x.2.2.2.2.1, x.2.2.2.2.2.1, x.2.2.2.2.2.2.1, x.2.2.2.2.2.2.2.1, x.2.2.2.2.2.2.2.2.1, x.2.2.2.2.2.2.2.2.2.1, x.2.2.2.2.2.2.2.2.2.2.1, x.2.2.2.2.2.2.2.2.2.2.2.1, q16.2.1, q16.2.2, x.2.2.2.2.2.2.2.2.2.2.2.2.2.2.1, x.2.2.2.2.2.2.2.2.2.2.2.2.2.2.2.1, x.2.2.2.2.2.2.2.2.2.2.2.2.2.2.2.2.1, x.2.2.2.2.2.2.2.2.2.2.2.2.2.2.2.2.2) i2 0 q17 hq17 H.size) (cwV 2 ha (gi_V (fun _ h => h) mw1990 mw1992 mw57 mw87 mw1993) rfl rfl rfl hv_X11_pairs ⟨(Nat.le_of_ble_eq_true rfl), (Nat.le_of_ble_eq_true rfl)⟩) ⟨pre_blind, va_recv hst.k (fr_P hP [0] rfl) (ci := 13) (q0 := 0) rfl rfl, pre_at hP hD hS hz hzs hst [0] (by decide) rfl rfl⟩ rfl rfl hl.1 rfl (lv_room (Nat.le_of_ble_eq_true rfl)) dX11_harshestBeat_32 ⟨(Nat.le_of_ble_eq_true rfl), (Nat.le_of_ble_eq_true rfl)⟩) hP hD hS hA [0] (by decide) rfl rfl rfl rfl (fun H locs hP hD hS => ?_)
            refine lv_icmp_le (tgt := 42) hx hb dX11_harshestBeat_35 (by decide) (fun c35 => ?_) (fun c35 => ?_)
            · have hF := q_brp c35 hF
              refine lv_iload_n hx hb dX11_harshestBeat_42 rfl (lv_at hl 1 rfl) ?_
              exact jJ43 i2 q17.2.1 q17.2.2 H locs ls hF hP hD hS (lv_sub hl [0, 2] rfl)
            · have hF := q_brn c35 hF
              refine lv_iload_n hx hb dX11_harshestBeat_38 rfl (lv_at hl 0 rfl) ?_
              refine lv_goto (tgt := 43) hx hb dX11_harshestBeat_39 (by decide) ?_
              exact jJ43 i1 q17.2.1 q17.2.2 H locs ls hF hP hD hS (lv_sub hl [0, 2] rfl)
  refine key4 _ ?_ _ 0 (-1) x.2.2.2.2.2.2.2.2.2.2.2.2.1 x.2.2.2.2.2.2.2.2.2.2.2.2.2.1 H locs ls hF hP hD hS (lv_sub hl [0, 1, 2] rfl)
  intro y5 y6 y7 H locs ls hF hP hD hS hl
  refine lv_iload_n hx hb dX11_harshestBeat_50 rfl (lv_at hl 0 rfl) ?_
  refine lv_iconst (v := (-1)) hx hb dX11_harshestBeat_51 (by decide) ?_
  refine lv_icmp_ne (tgt := 63) hx hb dX11_harshestBeat_52 (by decide) (fun c52 => ?_) (fun c52 => ?_)
  · have hF := q_brn c52 hF
    refine lv_aload_n hx hb dX11_harshestBeat_63 rfl (lv_at hl 1 rfl) ?_
    refine lv_iload_n hx hb dX11_harshestBeat_64 rfl (lv_at hl 0 rfl) ?_
    obtain ⟨q18, hq18, hF⟩ := q_bdi hF
    refine cl_i (Lc := [w_Model E a o (x.1, x.2.1, x.2.2.1, x.2.2.2.1, x.2.2.2.2.1, x.2.2.2.2.2.1, x.2.2.2.2.2.2.1, x.2.2.2.2.2.2.2.1, x.2.2.2.2.2.2.2.2.1, x.2.2.2.2.2.2.2.2.2.1, x.2.2.2.2.2.2.2.2.2.2.1, x.2.2.2.2.2.2.2.2.2.2.2.1, y6, y7, x.2.2.2.2.2.2.2.2.2.2.2.2.2.2.1, x.2.2.2.2.2.2.2.2.2.2.2.2.2.2.2.1, x.2.2.2.2.2.2.2.2.2.2.2.2.2.2.2.2.1, x.2.2.2.2.2.2.2.2.2.2.2.2.2.2.2.2.2)]) (Lc' := [w_Model E a o (x.1, x.2.1, x.2.2.1, x.2.2.2.1, x.2.2.2.2.1, x.2.2.2.2.2.1, x.2.2.2.2.2.2.1, x.2.2.2.2.2.2.2.1, x.2.2.2.2.2.2.2.2.1, x.2.2.2.2.2.2.2.2.2.1, x.2.2.2.2.2.2.2.2.2.2.1, x.2.2.2.2.2.2.2.2.2.2.2.1, y6, y7, q18.2, x.2.2.2.2.2.2.2.2.2.2.2.2.2.2.2.1, x.2.2.2.2.2.2.2.2.2.2.2.2.2.2.2.2.1, x.2.2.2.2.2.2.2.2.2.2.2.2.2.2.2.2.2)]) (L' := [w_Model E a o (x.1, x.2.1, x.2.2.1, x.2.2.2.1, x.2.2.2.2.1, x.2.2.2.2.2.1, x.2.2.2.2.2.2.1, x.2.2.2.2.2.2.2.1, x.2.2.2.2.2.2.2.2.1, x.2.2.2.2.2.2.2.2.2.1, x.2.2.2.2.2.2.2.2.2.2.1, x.2.2.2.2.2.2.2.2.2.2.2.1, y6, y7, q18.2, x.2.2.2.2.2.2.2.2.2.2.2.2.2.2.2.1, x.2.2.2.2.2.2.2.2.2.2.2.2.2.2.2.2.1, x.2.2.2.2.2.2.2.2.2.2.2.2.2.2.2.2.2)]) (rv := q18.1) (va_runV (As := [.int y5]) (rest := []) ⟨hx, hb, hml, hown, ha⟩ (k_X11_done l E a o (x.1, x.2.1, x.2.2.1, x.2.2.2.1, x.2.2.2.2.1, x.2.2.2.2.2.1, x.2.2.2.2.2.2.1, x.2.2.2.2.2.2.2.1, x.2.2.2.2.2.2.2.2.1, x.2.2.2.2.2.2.2.2.2.1, x.2.2.2.2.2.2.2.2.2.2.1, x.2.2.2.2.2.2.2.2.2.2.2.1, y6, y7, x.2.2.2.2.2.2.2.2.2.2.2.2.2.2.1, x.2.2.2.2.2.2.2.2.2.2.2.2.2.2.2.1, x.2.2.2.2.2.2.2.2.2.2.2.2.2.2.2.2.1, x.2.2.2.2.2.2.2.2.2.2.2.2.2.2.2.2.2) y5 q18 hq18 H.size) (cwV 1 ha (gi_V (fun _ h => h) mw1720 mw1722 mw30 mw87 mw1723) rfl rfl rfl hv_X11_done ⟨(Nat.le_of_ble_eq_true rfl), (Nat.le_of_ble_eq_true rfl)⟩) ⟨pre_blind, va_recv hst.k (fr_P hP [0] rfl) (ci := 13) (q0 := 0) rfl rfl, pre_at hP hD hS hz hzs hst [0] (by decide) rfl rfl⟩ rfl rfl hl.1 rfl (lv_room (Nat.le_of_ble_eq_true rfl)) dX11_harshestBeat_65 ⟨(Nat.le_of_ble_eq_true rfl), (Nat.le_of_ble_eq_true rfl)⟩) hP hD hS hA [0] (by decide) rfl rfl rfl rfl (fun H locs hP hD hS => ?_)
    obtain rfl := Option.some.inj hF
    exact en_i hQ (Nat.le_of_ble_eq_true rfl) (Nat.le_of_ble_eq_true rfl) hx hb hr hlocks hP hD hS rfl dX11_harshestBeat_68
  · have hF := q_brp c52 hF
    refine lv_aload_n hx hb dX11_harshestBeat_55 rfl (lv_at hl 1 rfl) ?_
    refine lv_iconst (v := 1) hx hb dX11_harshestBeat_56 (by decide) ?_
    obtain ⟨q19, hq19, hF⟩ := q_bdi hF
    refine cl_i (Lc := [w_Model E a o (x.1, x.2.1, x.2.2.1, x.2.2.2.1, x.2.2.2.2.1, x.2.2.2.2.2.1, x.2.2.2.2.2.2.1, x.2.2.2.2.2.2.2.1, x.2.2.2.2.2.2.2.2.1, x.2.2.2.2.2.2.2.2.2.1, x.2.2.2.2.2.2.2.2.2.2.1, x.2.2.2.2.2.2.2.2.2.2.2.1, y6, y7, x.2.2.2.2.2.2.2.2.2.2.2.2.2.2.1, x.2.2.2.2.2.2.2.2.2.2.2.2.2.2.2.1, x.2.2.2.2.2.2.2.2.2.2.2.2.2.2.2.2.1, x.2.2.2.2.2.2.2.2.2.2.2.2.2.2.2.2.2)]) (Lc' := [w_Model E a o (x.1, x.2.1, x.2.2.1, x.2.2.2.1, x.2.2.2.2.1, x.2.2.2.2.2.1, x.2.2.2.2.2.2.1, x.2.2.2.2.2.2.2.1, x.2.2.2.2.2.2.2.2.1, x.2.2.2.2.2.2.2.2.2.1, x.2.2.2.2.2.2.2.2.2.2.1, x.2.2.2.2.2.2.2.2.2.2.2.1, y6, y7, q19.2, x.2.2.2.2.2.2.2.2.2.2.2.2.2.2.2.1, x.2.2.2.2.2.2.2.2.2.2.2.2.2.2.2.2.1, x.2.2.2.2.2.2.2.2.2.2.2.2.2.2.2.2.2)]) (L' := [w_Model E a o (x.1, x.2.1, x.2.2.1, x.2.2.2.1, x.2.2.2.2.1, x.2.2.2.2.2.1, x.2.2.2.2.2.2.1, x.2.2.2.2.2.2.2.1, x.2.2.2.2.2.2.2.2.1, x.2.2.2.2.2.2.2.2.2.1, x.2.2.2.2.2.2.2.2.2.2.1, x.2.2.2.2.2.2.2.2.2.2.2.1, y6, y7, q19.2, x.2.2.2.2.2.2.2.2.2.2.2.2.2.2.2.1, x.2.2.2.2.2.2.2.2.2.2.2.2.2.2.2.2.1, x.2.2.2.2.2.2.2.2.2.2.2.2.2.2.2.2.2)]) (rv := q19.1) (va_runV (As := [.int 1]) (rest := []) ⟨hx, hb, hml, hown, ha⟩ (k_X11_fails l E a o (x.1, x.2.1, x.2.2.1, x.2.2.2.1, x.2.2.2.2.1, x.2.2.2.2.2.1, x.2.2.2.2.2.2.1, x.2.2.2.2.2.2.2.1, x.2.2.2.2.2.2.2.2.1, x.2.2.2.2.2.2.2.2.2.1, x.2.2.2.2.2.2.2.2.2.2.1, x.2.2.2.2.2.2.2.2.2.2.2.1, y6, y7, x.2.2.2.2.2.2.2.2.2.2.2.2.2.2.1, x.2.2.2.2.2.2.2.2.2.2.2.2.2.2.2.1, x.2.2.2.2.2.2.2.2.2.2.2.2.2.2.2.2.1, x.2.2.2.2.2.2.2.2.2.2.2.2.2.2.2.2.2) 1 q19 hq19 H.size) (cwV 1 ha (gi_V (fun _ h => h) mw1716 mw1718 mw29 mw87 mw1719) rfl rfl rfl hv_X11_fails ⟨(Nat.le_of_ble_eq_true rfl), (Nat.le_of_ble_eq_true rfl)⟩) ⟨pre_blind, va_recv hst.k (fr_P hP [0] rfl) (ci := 13) (q0 := 0) rfl rfl, pre_at hP hD hS hz hzs hst [0] (by decide) rfl rfl⟩ rfl rfl hl.1 rfl (lv_room (Nat.le_of_ble_eq_true rfl)) dX11_harshestBeat_57 ⟨(Nat.le_of_ble_eq_true rfl), (Nat.le_of_ble_eq_true rfl)⟩) hP hD hS hA [0] (by decide) rfl rfl rfl rfl (fun H locs hP hD hS => ?_)
    refine lv_goto (tgt := 68) hx hb dX11_harshestBeat_60 (by decide) ?_
    obtain rfl := Option.some.inj hF
    exact en_i hQ (Nat.le_of_ble_eq_true rfl) (Nat.le_of_ble_eq_true rfl) hx hb hr hlocks hP hD hS rfl dX11_harshestBeat_68

/-! X11_isConsistent -/
theorem dX11_isConsistent_0 : decode cX11_isConsistent 0 = .ok (.aload_n 0, 1) := by decide +kernel
theorem dX11_isConsistent_1 : decode cX11_isConsistent 1 = .ok (.iconst 0, 1) := by decide +kernel
theorem dX11_isConsistent_2 : decode cX11_isConsistent 2 = .ok (.putfield 42, 3) := by decide +kernel
theorem dX11_isConsistent_5 : decode cX11_isConsistent 5 = .ok (.iconst 1, 1) := by decide +kernel
theorem dX11_isConsistent_6 : decode cX11_isConsistent 6 = .ok (.ireturn, 1) := by decide +kernel
def f_X11_isConsistent (x_thrown : Int32) : Option (Int32 × Int32) :=
  some (1, 0)
theorem hv_X11_isConsistent : yX11_isConsistent.cls = RX11 ∧ yX11_isConsistent.cls ≠ "java/lang/invoke/MethodHandle" ∧ yX11_isConsistent.cls ≠ "java/lang/invoke/VarHandle" ∧ (parseMethodDescriptor yX11_isConsistent.desc).map (fun d => d.parameters.length) = some 0 := by decide +kernel
abbrev rm_X11_isConsistent : Room := { frames := 0, cells := 0, slots := 0, locals := 0 }
set_option maxHeartbeats 4000000 in
set_option maxRecDepth 100000 in
theorem k_X11_isConsistent (l : Launch) (E : ET) (a : Nat → Nat) (o : Nat) (x : Model_t) (res : Int32 × Int32) (hF : f_X11_isConsistent x.2.2.2.2.2.2.2.2.2.2.2.2.2.2.1 = some res) (sz : Nat) : CtI l yX11_isConsistent (mws yX11_isConsistent cX11_isConsistent 1 (some .boolean)) rm_X11_isConsistent 0 0 [.ref (a o)] E (bl_Model E a o x) res.1 (bl_Model E a o (x.1, x.2.1, x.2.2.1, x.2.2.2.1, x.2.2.2.2.1, x.2.2.2.2.2.1, x.2.2.2.2.2.2.1, x.2.2.2.2.2.2.2.1, x.2.2.2.2.2.2.2.2.1, x.2.2.2.2.2.2.2.2.2.1, x.2.2.2.2.2.2.2.2.2.2.1, x.2.2.2.2.2.2.2.2.2.2.2.1, x.2.2.2.2.2.2.2.2.2.2.2.2.1, x.2.2.2.2.2.2.2.2.2.2.2.2.2.1, res.2, x.2.2.2.2.2.2.2.2.2.2.2.2.2.2.2.1, x.2.2.2.2.2.2.2.2.2.2.2.2.2.2.2.2.1, x.2.2.2.2.2.2.2.2.2.2.2.2.2.2.2.2.2)) sz := by
  refine mk_M (by decide +kernel) (Nat.le_of_ble_eq_true rfl) ?_
  intro p e s m below meth c A args Q ls hAe hsz hQ hx hb hr hml hin ha hown hlocks hA hz hzs hst hP hD hS hl
  have hown : s.vm.findClass RX11 = some m.cls := hown
  rw [hAe] at hQ
  subst hsz
  have hP : va_P E.1 vwCl (List.flatten [w_Model E a o x]) s.heap := hP
  have hD : va_D A (List.flatten [w_Model E a o x]) := hD
  have hl : lv_has ls 1 [(0, .ref (a o))] := hl
  generalize hHe : s.heap = H at hP
  have hS : va_S A s.heap H [] := by rw [← hHe]; exact hS
  generalize ([] : List Loc) = locs at hS ⊢
  unfold f_X11_isConsistent at hF
  refine lv_aload_n hx hb dX11_isConsistent_0 rfl (lv_at hl 0 rfl) ?_
  refine lv_iconst (v := 0) hx hb dX11_isConsistent_1 (by decide) ?_
  refine va_put (D := E.1) (ci := 13) (v := .int 0) (ty := .int) (C := RX11) (T := TX11) (N := 18) hx hb ha in_X11 tyX11 tyX11_ok nmX11 hown hst.k hP hD hS 0 rfl rfl 14 (by decide) (ha _ mw1650) (fun _ h9 => h9) rfl (tyX11_ok 14 (by decide)) rfl rfl (Nat.le_of_ble_eq_true rfl) dX11_isConsistent_2 (fun H locs hP hD hS => ?_)
  have hP : va_P E.1 vwCl (List.flatten [w_Model E a o (x.1, x.2.1, x.2.2.1, x.2.2.2.1, x.2.2.2.2.1, x.2.2.2.2.2.1, x.2.2.2.2.2.2.1, x.2.2.2.2.2.2.2.1, x.2.2.2.2.2.2.2.2.1, x.2.2.2.2.2.2.2.2.2.1, x.2.2.2.2.2.2.2.2.2.2.1, x.2.2.2.2.2.2.2.2.2.2.2.1, x.2.2.2.2.2.2.2.2.2.2.2.2.1, x.2.2.2.2.2.2.2.2.2.2.2.2.2.1, 0, x.2.2.2.2.2.2.2.2.2.2.2.2.2.2.2.1, x.2.2.2.2.2.2.2.2.2.2.2.2.2.2.2.2.1, x.2.2.2.2.2.2.2.2.2.2.2.2.2.2.2.2.2)]) H := hP
  have hD : va_D A (List.flatten [w_Model E a o (x.1, x.2.1, x.2.2.1, x.2.2.2.1, x.2.2.2.2.1, x.2.2.2.2.2.1, x.2.2.2.2.2.2.1, x.2.2.2.2.2.2.2.1, x.2.2.2.2.2.2.2.2.1, x.2.2.2.2.2.2.2.2.2.1, x.2.2.2.2.2.2.2.2.2.2.1, x.2.2.2.2.2.2.2.2.2.2.2.1, x.2.2.2.2.2.2.2.2.2.2.2.2.1, x.2.2.2.2.2.2.2.2.2.2.2.2.2.1, 0, x.2.2.2.2.2.2.2.2.2.2.2.2.2.2.2.1, x.2.2.2.2.2.2.2.2.2.2.2.2.2.2.2.2.1, x.2.2.2.2.2.2.2.2.2.2.2.2.2.2.2.2.2)]) := hD
  refine lv_iconst (v := 1) hx hb dX11_isConsistent_5 (by decide) ?_
  obtain rfl := Option.some.inj hF
  exact en_z hQ (Nat.le_of_ble_eq_true rfl) (Nat.le_of_ble_eq_true rfl) hx hb hr hlocks (by decide) hP hD hS rfl dX11_isConsistent_6

/-! X11_append -/
theorem dX11_append_0 : decode cX11_append 0 = .ok (.aload_n 0, 1) := by decide +kernel
theorem dX11_append_1 : decode cX11_append 1 = .ok (.getfield 184, 3) := by decide +kernel
theorem dX11_append_4 : decode cX11_append 4 = .ok (.bipush 60, 2) := by decide +kernel
theorem dX11_append_6 : decode cX11_append 6 = .ok (.if_icmp .ne 9, 3) := by decide +kernel
theorem dX11_append_9 : decode cX11_append 9 = .ok (.aload_n 0, 1) := by decide +kernel
theorem dX11_append_10 : decode cX11_append 10 = .ok (.iconst 1, 1) := by decide +kernel
theorem dX11_append_11 : decode cX11_append 11 = .ok (.invokevirtual 80, 3) := by decide +kernel
theorem dX11_append_14 : decode cX11_append 14 = .ok (.ireturn, 1) := by decide +kernel
theorem dX11_append_15 : decode cX11_append 15 = .ok (.aload_n 0, 1) := by decide +kernel
theorem dX11_append_16 : decode cX11_append 16 = .ok (.getfield 22, 3) := by decide +kernel
theorem dX11_append_19 : decode cX11_append 19 = .ok (.aload_n 0, 1) := by decide +kernel
theorem dX11_append_20 : decode cX11_append 20 = .ok (.getfield 184, 3) := by decide +kernel
theorem dX11_append_23 : decode cX11_append 23 = .ok (.iload_n 1, 1) := by decide +kernel
theorem dX11_append_24 : decode cX11_append 24 = .ok (.castore, 1) := by decide +kernel
theorem dX11_append_25 : decode cX11_append 25 = .ok (.aload_n 0, 1) := by decide +kernel
theorem dX11_append_26 : decode cX11_append 26 = .ok (.dup, 1) := by decide +kernel
theorem dX11_append_27 : decode cX11_append 27 = .ok (.getfield 184, 3) := by decide +kernel
theorem dX11_append_30 : decode cX11_append 30 = .ok (.iconst 1, 1) := by decide +kernel
theorem dX11_append_31 : decode cX11_append 31 = .ok (.iadd, 1) := by decide +kernel
theorem dX11_append_32 : decode cX11_append 32 = .ok (.putfield 184, 3) := by decide +kernel
theorem dX11_append_35 : decode cX11_append 35 = .ok (.aload_n 0, 1) := by decide +kernel
theorem dX11_append_36 : decode cX11_append 36 = .ok (.aload_n 0, 1) := by decide +kernel
theorem dX11_append_37 : decode cX11_append 37 = .ok (.getfield 184, 3) := by decide +kernel
theorem dX11_append_40 : decode cX11_append 40 = .ok (.invokevirtual 83, 3) := by decide +kernel
theorem dX11_append_43 : decode cX11_append 43 = .ok (.ireturn, 1) := by decide +kernel
def f_X11_append (x_buffer : (Nat → Int32)) (x_typed : Int32) (x_thrown : Int32) (p1 : Int32) : Option (Int32 × (Nat → Int32) × Int32 × Int32) :=
  q_br (x_typed = 60) (
  q_bd (f_X11_fails x_thrown 1) (fun q3 =>
  some (q3.1, x_buffer, x_typed, q3.2))) (
  q_gd (q_in x_typed 60) (
  q_bd (f_X11_done x_thrown (x_typed + 1)) (fun q2 =>
  some (q2.1, upd x_buffer (x_typed.toNatClampNeg) (vp_nar .char p1), x_typed + 1, q2.2))))
theorem hv_X11_append : yX11_append.cls = RX11 ∧ yX11_append.cls ≠ "java/lang/invoke/MethodHandle" ∧ yX11_append.cls ≠ "java/lang/invoke/VarHandle" ∧ (parseMethodDescriptor yX11_append.desc).map (fun d => d.parameters.length) = some 1 := by decide +kernel
abbrev rm_X11_append : Room := { frames := 1, cells := 0, slots := 0, locals := 21 }
set_option maxHeartbeats 4000000 in
set_option maxRecDepth 100000 in
theorem k_X11_append (l : Launch) (E : ET) (a : Nat → Nat) (o : Nat) (x : Model_t) (p1 : Int32) (res : Int32 × (Nat → Int32) × Int32 × Int32) (hF : f_X11_append x.2.2.2.2.2.2.1 x.2.2.2.2.2.2.2.1 x.2.2.2.2.2.2.2.2.2.2.2.2.2.2.1 p1 = some res) (sz : Nat) : CtI l yX11_append (mws yX11_append cX11_append 2 (some .int)) rm_X11_append 0 0 [.ref (a o), .int p1] E (bl_Model E a o x) res.1 (bl_Model E a o (x.1, x.2.1, x.2.2.1, x.2.2.2.1, x.2.2.2.2.1, x.2.2.2.2.2.1, res.2.1, res.2.2.1, x.2.2.2.2.2.2.2.2.1, x.2.2.2.2.2.2.2.2.2.1, x.2.2.2.2.2.2.2.2.2.2.1, x.2.2.2.2.2.2.2.2.2.2.2.1, x.2.2.2.2.2.2.2.2.2.2.2.2.1, x.2.2.2.2.2.2.2.2.2.2.2.2.2.1, res.2.2.2, x.2.2.2.2.2.2.2.2.2.2.2.2.2.2.2.1, x.2.2.2.2.2.2.2.2.2.2.2.2.2.2.2.2.1, x.2.2.2.2.2.2.2.2.2.2.2.2.2.2.2.2.2)) sz := by
  refine mk_M (by decide +kernel) (Nat.le_of_ble_eq_true rfl) ?_
  intro p e s m below meth c A args Q ls hAe hsz hQ hx hb hr hml hin ha hown hlocks hA hz hzs hst hP hD hS hl
  have hown : s.vm.findClass RX11 = some m.cls := hown
  rw [hAe] at hQ
  subst hsz
  have hP : va_P E.1 vwCl (List.flatten [w_Model E a o x]) s.heap := hP
  have hD : va_D A (List.flatten [w_Model E a o x]) := hD
  have hl : lv_has ls 2 [(0, .ref (a o)), (1, .int p1)] := hl
  generalize hHe : s.heap = H at hP
  have hS : va_S A s.heap H [] := by rw [← hHe]; exact hS
  generalize ([] : List Loc) = locs at hS ⊢
  unfold f_X11_append at hF
  refine lv_aload_n hx hb dX11_append_0 rfl (lv_at hl 0 rfl) ?_
  refine va_get (D := E.1) (ci := 13) (v := .int x.2.2.2.2.2.2.2.1) (C := RX11) (T := TX11) (N := 18) hx hb ha in_X11 hown hst.k hP 0 rfl rfl 7 (by decide) (ha _ mw1643) (fun _ h9 => h9) rfl dX11_append_1 ?_
  refine lv_bipush (v := 60) hx hb dX11_append_4 (by decide) ?_
  refine lv_icmp_ne (tgt := 15) hx hb dX11_append_6 (by decide) (fun c6 => ?_) (fun c6 => ?_)
  · have hF := q_brn c6 hF
    refine lv_aload_n hx hb dX11_append_15 rfl (lv_at hl 0 rfl) ?_
    refine va_get (D := E.1) (ci := 13) (v := .ref (a (o + 5))) (C := RX11) (T := TX11) (N := 18) hx hb ha in_X11 hown hst.k hP 0 rfl rfl 6 (by decide) (ha _ mw1642) (fun _ h9 => h9) rfl dX11_append_16 ?_
    refine lv_aload_n hx hb dX11_append_19 rfl (lv_at hl 0 rfl) ?_
    refine va_get (D := E.1) (ci := 13) (v := .int x.2.2.2.2.2.2.2.1) (C := RX11) (T := TX11) (N := 18) hx hb ha in_X11 hown hst.k hP 0 rfl rfl 7 (by decide) (ha _ mw1643) (fun _ h9 => h9) rfl dX11_append_20 ?_
    refine lv_iload_n hx hb dX11_append_23 rfl (lv_at hl 1 rfl) ?_
    obtain ⟨g1, hF⟩ := q_gdi hF
    refine vi_cast hx hb hst.k hP hD hS 5 1 rfl rfl (k := x.2.2.2.2.2.2.2.1.toNatClampNeg) rfl g1 dX11_append_24 (fun H locs hP hD hS => ?_)
    have hP : va_P E.1 vwCl (List.flatten [w_Model E a o (x.1, x.2.1, x.2.2.1, x.2.2.2.1, x.2.2.2.2.1, x.2.2.2.2.2.1, upd x.2.2.2.2.2.2.1 (x.2.2.2.2.2.2.2.1.toNatClampNeg) (vp_nar .char p1), x.2.2.2.2.2.2.2.1, x.2.2.2.2.2.2.2.2.1, x.2.2.2.2.2.2.2.2.2.1, x.2.2.2.2.2.2.2.2.2.2.1, x.2.2.2.2.2.2.2.2.2.2.2.1, x.2.2.2.2.2.2.2.2.2.2.2.2.1, x.2.2.2.2.2.2.2.2.2.2.2.2.2.1, x.2.2.2.2.2.2.2.2.2.2.2.2.2.2.1, x.2.2.2.2.2.2.2.2.2.2.2.2.2.2.2.1, x.2.2.2.2.2.2.2.2.2.2.2.2.2.2.2.2.1, x.2.2.2.2.2.2.2.2.2.2.2.2.2.2.2.2.2)]) H := hP
    have hD : va_D A (List.flatten [w_Model E a o (x.1, x.2.1, x.2.2.1, x.2.2.2.1, x.2.2.2.2.1, x.2.2.2.2.2.1, upd x.2.2.2.2.2.2.1 (x.2.2.2.2.2.2.2.1.toNatClampNeg) (vp_nar .char p1), x.2.2.2.2.2.2.2.1, x.2.2.2.2.2.2.2.2.1, x.2.2.2.2.2.2.2.2.2.1, x.2.2.2.2.2.2.2.2.2.2.1, x.2.2.2.2.2.2.2.2.2.2.2.1, x.2.2.2.2.2.2.2.2.2.2.2.2.1, x.2.2.2.2.2.2.2.2.2.2.2.2.2.1, x.2.2.2.2.2.2.2.2.2.2.2.2.2.2.1, x.2.2.2.2.2.2.2.2.2.2.2.2.2.2.2.1, x.2.2.2.2.2.2.2.2.2.2.2.2.2.2.2.2.1, x.2.2.2.2.2.2.2.2.2.2.2.2.2.2.2.2.2)]) := hD
    refine lv_aload_n hx hb dX11_append_25 rfl (lv_at hl 0 rfl) ?_
    refine lv_dup hx hb dX11_append_26 rfl ?_
    refine va_get (D := E.1) (ci := 13) (v := .int x.2.2.2.2.2.2.2.1) (C := RX11) (T := TX11) (N := 18) hx hb ha in_X11 hown hst.k hP 0 rfl rfl 7 (by decide) (ha _ mw1643) (fun _ h9 => h9) rfl dX11_append_27 ?_
    refine lv_iconst (v := 1) hx hb dX11_append_30 (by decide) ?_
    refine lv_iadd hx hb dX11_append_31 ?_
    refine va_put (D := E.1) (ci := 13) (v := .int (x.2.2.2.2.2.2.2.1 + 1)) (ty := .int) (C := RX11) (T := TX11) (N := 18) hx hb ha in_X11 tyX11 tyX11_ok nmX11 hown hst.k hP hD hS 0 rfl rfl 7 (by decide) (ha _ mw1643) (fun _ h9 => h9) rfl (tyX11_ok 7 (by decide)) rfl rfl (Nat.le_of_ble_eq_true rfl) dX11_append_32 (fun H locs hP hD hS => ?_)
    have hP : va_P E.1 vwCl (List.flatten [w_Model E a o (x.1, x.2.1, x.2.2.1, x.2.2.2.1, x.2.2.2.2.1, x.2.2.2.2.2.1, upd x.2.2.2.2.2.2.1 (x.2.2.2.2.2.2.2.1.toNatClampNeg) (vp_nar .char p1), x.2.2.2.2.2.2.2.1 + 1, x.2.2.2.2.2.2.2.2.1, x.2.2.2.2.2.2.2.2.2.1, x.2.2.2.2.2.2.2.2.2.2.1, x.2.2.2.2.2.2.2.2.2.2.2.1, x.2.2.2.2.2.2.2.2.2.2.2.2.1, x.2.2.2.2.2.2.2.2.2.2.2.2.2.1, x.2.2.2.2.2.2.2.2.2.2.2.2.2.2.1, x.2.2.2.2.2.2.2.2.2.2.2.2.2.2.2.1, x.2.2.2.2.2.2.2.2.2.2.2.2.2.2.2.2.1, x.2.2.2.2.2.2.2.2.2.2.2.2.2.2.2.2.2)]) H := hP
    have hD : va_D A (List.flatten [w_Model E a o (x.1, x.2.1, x.2.2.1, x.2.2.2.1, x.2.2.2.2.1, x.2.2.2.2.2.1, upd x.2.2.2.2.2.2.1 (x.2.2.2.2.2.2.2.1.toNatClampNeg) (vp_nar .char p1), x.2.2.2.2.2.2.2.1 + 1, x.2.2.2.2.2.2.2.2.1, x.2.2.2.2.2.2.2.2.2.1, x.2.2.2.2.2.2.2.2.2.2.1, x.2.2.2.2.2.2.2.2.2.2.2.1, x.2.2.2.2.2.2.2.2.2.2.2.2.1, x.2.2.2.2.2.2.2.2.2.2.2.2.2.1, x.2.2.2.2.2.2.2.2.2.2.2.2.2.2.1, x.2.2.2.2.2.2.2.2.2.2.2.2.2.2.2.1, x.2.2.2.2.2.2.2.2.2.2.2.2.2.2.2.2.1, x.2.2.2.2.2.2.2.2.2.2.2.2.2.2.2.2.2)]) := hD
    refine lv_aload_n hx hb dX11_append_35 rfl (lv_at hl 0 rfl) ?_
    refine lv_aload_n hx hb dX11_append_36 rfl (lv_at hl 0 rfl) ?_
    refine va_get (D := E.1) (ci := 13) (v := .int (x.2.2.2.2.2.2.2.1 + 1)) (C := RX11) (T := TX11) (N := 18) hx hb ha in_X11 hown hst.k hP 0 rfl rfl 7 (by decide) (ha _ mw1643) (fun _ h9 => h9) rfl dX11_append_37 ?_
    obtain ⟨q2, hq2, hF⟩ := q_bdi hF
    refine cl_i (Lc := [w_Model E a o (x.1, x.2.1, x.2.2.1, x.2.2.2.1, x.2.2.2.2.1, x.2.2.2.2.2.1, upd x.2.2.2.2.2.2.1 (x.2.2.2.2.2.2.2.1.toNatClampNeg) (vp_nar .char p1), x.2.2.2.2.2.2.2.1 + 1, x.2.2.2.2.2.2.2.2.1, x.2.2.2.2.2.2.2.2.2.1, x.2.2.2.2.2.2.2.2.2.2.1, x.2.2.2.2.2.2.2.2.2.2.2.1, x.2.2.2.2.2.2.2.2.2.2.2.2.1, x.2.2.2.2.2.2.2.2.2.2.2.2.2.1, x.2.2.2.2.2.2.2.2.2.2.2.2.2.2.1, x.2.2.2.2.2.2.2.2.2.2.2.2.2.2.2.1, x.2.2.2.2.2.2.2.2.2.2.2.2.2.2.2.2.1, x.2.2.2.2.2.2.2.2.2.2.2.2.2.2.2.2.2)]) (Lc' := [w_Model E a o (x.1, x.2.1, x.2.2.1, x.2.2.2.1, x.2.2.2.2.1, x.2.2.2.2.2.1, upd x.2.2.2.2.2.2.1 (x.2.2.2.2.2.2.2.1.toNatClampNeg) (vp_nar .char p1), x.2.2.2.2.2.2.2.1 + 1, x.2.2.2.2.2.2.2.2.1, x.2.2.2.2.2.2.2.2.2.1, x.2.2.2.2.2.2.2.2.2.2.1, x.2.2.2.2.2.2.2.2.2.2.2.1, x.2.2.2.2.2.2.2.2.2.2.2.2.1, x.2.2.2.2.2.2.2.2.2.2.2.2.2.1, q2.2, x.2.2.2.2.2.2.2.2.2.2.2.2.2.2.2.1, x.2.2.2.2.2.2.2.2.2.2.2.2.2.2.2.2.1, x.2.2.2.2.2.2.2.2.2.2.2.2.2.2.2.2.2)]) (L' := [w_Model E a o (x.1, x.2.1, x.2.2.1, x.2.2.2.1, x.2.2.2.2.1, x.2.2.2.2.2.1, upd x.2.2.2.2.2.2.1 (x.2.2.2.2.2.2.2.1.toNatClampNeg) (vp_nar .char p1), x.2.2.2.2.2.2.2.1 + 1, x.2.2.2.2.2.2.2.2.1, x.2.2.2.2.2.2.2.2.2.1, x.2.2.2.2.2.2.2.2.2.2.1, x.2.2.2.2.2.2.2.2.2.2.2.1, x.2.2.2.2.2.2.2.2.2.2.2.2.1, x.2.2.2.2.2.2.2.2.2.2.2.2.2.1, q2.2, x.2.2.2.2.2.2.2.2.2.2.2.2.2.2.2.1, x.2.2.2.2.2.2.2.2.2.2.2.2.2.2.2.2.1, x.2.2.2.2.2.2.2.2.2.2.2.2.2.2.2.2.2)]) (rv := q2.1) (va_runV (As := [.int (x.2.2.2.2.2.2.2.1 + 1)]) (rest := []) ⟨hx, hb, hml, hown, ha⟩ (k_X11_done l E a o (x.1, x.2.1, x.2.2.1, x.2.2.2.1, x.2.2.2.2.1, x.2.2.2.2.2.1, upd x.2.2.2.2.2.2.1 (x.2.2.2.2.2.2.2.1.toNatClampNeg) (vp_nar .char p1), x.2.2.2.2.2.2.2.1 + 1, x.2.2.2.2.2.2.2.2.1, x.2.2.2.2.2.2.2.2.2.1, x.2.2.2.2.2.2.2.2.2.2.1, x.2.2.2.2.2.2.2.2.2.2.2.1, x.2.2.2.2.2.2.2.2.2.2.2.2.1, x.2.2.2.2.2.2.2.2.2.2.2.2.2.1, x.2.2.2.2.2.2.2.2.2.2.2.2.2.2.1, x.2.2.2.2.2.2.2.2.2.2.2.2.2.2.2.1, x.2.2.2.2.2.2.2.2.2.2.2.2.2.2.2.2.1, x.2.2.2.2.2.2.2.2.2.2.2.2.2.2.2.2.2) (x.2.2.2.2.2.2.2.1 + 1) q2 hq2 H.size) (cwV 1 ha (gi_V (fun _ h => h) mw1720 mw1722 mw30 mw87 mw1723) rfl rfl rfl hv_X11_done ⟨(Nat.le_of_ble_eq_true rfl), (Nat.le_of_ble_eq_true rfl)⟩) ⟨pre_blind, va_recv hst.k (fr_P hP [0] rfl) (ci := 13) (q0 := 0) rfl rfl, pre_at hP hD hS hz hzs hst [0] (by decide) rfl rfl⟩ rfl rfl hl.1 rfl (lv_room (Nat.le_of_ble_eq_true rfl)) dX11_append_40 ⟨(Nat.le_of_ble_eq_true rfl), (Nat.le_of_ble_eq_true rfl)⟩) hP hD hS hA [0] (by decide) rfl rfl rfl rfl (fun H locs hP hD hS => ?_)
    obtain rfl := Option.some.inj hF
    exact en_i hQ (Nat.le_of_ble_eq_true rfl) (Nat.le_of_ble_eq_true rfl) hx hb hr hlocks hP hD hS rfl dX11_append_43
  · have hF := q_brp c6 hF
    refine lv_aload_n hx hb dX11_append_9 rfl (lv_at hl 0 rfl) ?_
    refine lv_iconst (v := 1) hx hb dX11_append_10 (by decide) ?_
    obtain ⟨q3, hq3, hF⟩ := q_bdi hF
    refine cl_i (Lc := [w_Model E a o x]) (Lc' := [w_Model E a o (x.1, x.2.1, x.2.2.1, x.2.2.2.1, x.2.2.2.2.1, x.2.2.2.2.2.1, x.2.2.2.2.2.2.1, x.2.2.2.2.2.2.2.1, x.2.2.2.2.2.2.2.2.1, x.2.2.2.2.2.2.2.2.2.1, x.2.2.2.2.2.2.2.2.2.2.1, x.2.2.2.2.2.2.2.2.2.2.2.1, x.2.2.2.2.2.2.2.2.2.2.2.2.1, x.2.2.2.2.2.2.2.2.2.2.2.2.2.1, q3.2, x.2.2.2.2.2.2.2.2.2.2.2.2.2.2.2.1, x.2.2.2.2.2.2.2.2.2.2.2.2.2.2.2.2.1, x.2.2.2.2.2.2.2.2.2.2.2.2.2.2.2.2.2)]) (L' := [w_Model E a o (x.1, x.2.1, x.2.2.1, x.2.2.2.1, x.2.2.2.2.1, x.2.2.2.2.2.1, x.2.2.2.2.2.2.1, x.2.2.2.2.2.2.2.1, x.2.2.2.2.2.2.2.2.1, x.2.2.2.2.2.2.2.2.2.1, x.2.2.2.2.2.2.2.2.2.2.1, x.2.2.2.2.2.2.2.2.2.2.2.1, x.2.2.2.2.2.2.2.2.2.2.2.2.1, x.2.2.2.2.2.2.2.2.2.2.2.2.2.1, q3.2, x.2.2.2.2.2.2.2.2.2.2.2.2.2.2.2.1, x.2.2.2.2.2.2.2.2.2.2.2.2.2.2.2.2.1, x.2.2.2.2.2.2.2.2.2.2.2.2.2.2.2.2.2)]) (rv := q3.1) (va_runV (As := [.int 1]) (rest := []) ⟨hx, hb, hml, hown, ha⟩ (k_X11_fails l E a o x 1 q3 hq3 H.size) (cwV 1 ha (gi_V (fun _ h => h) mw1716 mw1718 mw29 mw87 mw1719) rfl rfl rfl hv_X11_fails ⟨(Nat.le_of_ble_eq_true rfl), (Nat.le_of_ble_eq_true rfl)⟩) ⟨pre_blind, va_recv hst.k (fr_P hP [0] rfl) (ci := 13) (q0 := 0) rfl rfl, pre_at hP hD hS hz hzs hst [0] (by decide) rfl rfl⟩ rfl rfl hl.1 rfl (lv_room (Nat.le_of_ble_eq_true rfl)) dX11_append_11 ⟨(Nat.le_of_ble_eq_true rfl), (Nat.le_of_ble_eq_true rfl)⟩) hP hD hS hA [0] (by decide) rfl rfl rfl rfl (fun H locs hP hD hS => ?_)
    obtain rfl := Option.some.inj hF
    exact en_i hQ (Nat.le_of_ble_eq_true rfl) (Nat.le_of_ble_eq_true rfl) hx hb hr hlocks hP hD hS rfl dX11_append_14

/-! X11_here -/
theorem dX11_here_0 : decode cX11_here 0 = .ok (.aload_n 0, 1) := by decide +kernel
theorem dX11_here_1 : decode cX11_here 1 = .ok (.getfield 187, 3) := by decide +kernel
theorem dX11_here_4 : decode cX11_here 4 = .ok (.aload_n 0, 1) := by decide +kernel
theorem dX11_here_5 : decode cX11_here 5 = .ok (.getfield 184, 3) := by decide +kernel
theorem dX11_here_8 : decode cX11_here 8 = .ok (.if_icmp .ge 15, 3) := by decide +kernel
theorem dX11_here_11 : decode cX11_here 11 = .ok (.aload_n 0, 1) := by decide +kernel
theorem dX11_here_12 : decode cX11_here 12 = .ok (.getfield 22, 3) := by decide +kernel
theorem dX11_here_15 : decode cX11_here 15 = .ok (.aload_n 0, 1) := by decide +kernel
theorem dX11_here_16 : decode cX11_here 16 = .ok (.getfield 187, 3) := by decide +kernel
theorem dX11_here_19 : decode cX11_here 19 = .ok (.caload, 1) := by decide +kernel
theorem dX11_here_20 : decode cX11_here 20 = .ok (.goto 4, 3) := by decide +kernel
theorem dX11_here_23 : decode cX11_here 23 = .ok (.iconst (-1), 1) := by decide +kernel
theorem dX11_here_24 : decode cX11_here 24 = .ok (.ireturn, 1) := by decide +kernel
def f_X11_here (x_buffer : (Nat → Int32)) (x_typed : Int32) (x_spot : Int32) : Option (Int32) :=
  q_br (x_typed ≤ x_spot) (
  some (-1)) (
  q_gd (q_in x_spot 60) (
  some (x_buffer (x_spot.toNatClampNeg))))
theorem hv_X11_here : yX11_here.cls = RX11 ∧ yX11_here.cls ≠ "java/lang/invoke/MethodHandle" ∧ yX11_here.cls ≠ "java/lang/invoke/VarHandle" ∧ (parseMethodDescriptor yX11_here.desc).map (fun d => d.parameters.length) = some 0 := by decide +kernel
abbrev rm_X11_here : Room := { frames := 0, cells := 0, slots := 0, locals := 0 }
set_option maxHeartbeats 4000000 in
set_option maxRecDepth 100000 in
theorem k_X11_here (l : Launch) (E : ET) (a : Nat → Nat) (o : Nat) (x : Model_t) (res : Int32) (hF : f_X11_here x.2.2.2.2.2.2.1 x.2.2.2.2.2.2.2.1 x.2.2.2.2.2.2.2.2.2.2.2.2.2.2.2.1 = some res) (sz : Nat) : CtI l yX11_here (mws yX11_here cX11_here 1 (some .int)) rm_X11_here 0 0 [.ref (a o)] E (bl_Model E a o x) res (bl_Model E a o x) sz := by
  refine mk_M (by decide +kernel) (Nat.le_of_ble_eq_true rfl) ?_
  intro p e s m below meth c A args Q ls hAe hsz hQ hx hb hr hml hin ha hown hlocks hA hz hzs hst hP hD hS hl
  have hown : s.vm.findClass RX11 = some m.cls := hown
  rw [hAe] at hQ
  subst hsz
  have hP : va_P E.1 vwCl (List.flatten [w_Model E a o x]) s.heap := hP
  have hD : va_D A (List.flatten [w_Model E a o x]) := hD
  have hl : lv_has ls 1 [(0, .ref (a o))] := hl
  generalize hHe : s.heap = H at hP
  have hS : va_S A s.heap H [] := by rw [← hHe]; exact hS
  generalize ([] : List Loc) = locs at hS ⊢
  unfold f_X11_here at hF
  refine lv_aload_n hx hb dX11_here_0 rfl (lv_at hl 0 rfl) ?_
  refine va_get (D := E.1) (ci := 13) (v := .int x.2.2.2.2.2.2.2.2.2.2.2.2.2.2.2.1) (C := RX11) (T := TX11) (N := 18) hx hb ha in_X11 hown hst.k hP 0 rfl rfl 15 (by decide) (ha _ mw1651) (fun _ h9 => h9) rfl dX11_here_1 ?_
  refine lv_aload_n hx hb dX11_here_4 rfl (lv_at hl 0 rfl) ?_
  refine va_get (D := E.1) (ci := 13) (v := .int x.2.2.2.2.2.2.2.1) (C := RX11) (T := TX11) (N := 18) hx hb ha in_X11 hown hst.k hP 0 rfl rfl 7 (by decide) (ha _ mw1643) (fun _ h9 => h9) rfl dX11_here_5 ?_
  refine lv_icmp_ge (tgt := 23) hx hb dX11_here_8 (by decide) (fun c8 => ?_) (fun c8 => ?_)
  · have hF := q_brp c8 hF
    refine lv_iconst (v := (-1)) hx hb dX11_here_23 (by decide) ?_
    obtain rfl := Option.some.inj hF
    exact en_i hQ (Nat.le_of_ble_eq_true rfl) (Nat.le_of_ble_eq_true rfl) hx hb hr hlocks hP hD hS rfl dX11_here_24
  · have hF := q_brn c8 hF
    refine lv_aload_n hx hb dX11_here_11 rfl (lv_at hl 0 rfl) ?_
    refine va_get (D := E.1) (ci := 13) (v := .ref (a (o + 5))) (C := RX11) (T := TX11) (N := 18) hx hb ha in_X11 hown hst.k hP 0 rfl rfl 6 (by decide) (ha _ mw1642) (fun _ h9 => h9) rfl dX11_here_12 ?_
    refine lv_aload_n hx hb dX11_here_15 rfl (lv_at hl 0 rfl) ?_
    refine va_get (D := E.1) (ci := 13) (v := .int x.2.2.2.2.2.2.2.2.2.2.2.2.2.2.2.1) (C := RX11) (T := TX11) (N := 18) hx hb ha in_X11 hown hst.k hP 0 rfl rfl 15 (by decide) (ha _ mw1651) (fun _ h9 => h9) rfl dX11_here_16 ?_
    obtain ⟨g1, hF⟩ := q_gdi hF
    refine vi_cald hx hb hst.k hP 5 1 rfl rfl (f := x.2.2.2.2.2.2.1) (k := x.2.2.2.2.2.2.2.2.2.2.2.2.2.2.2.1.toNatClampNeg) rfl g1 dX11_here_19 ?_
    refine lv_goto (tgt := 24) hx hb dX11_here_20 (by decide) ?_
    obtain rfl := Option.some.inj hF
    exact en_i hQ (Nat.le_of_ble_eq_true rfl) (Nat.le_of_ble_eq_true rfl) hx hb hr hlocks hP hD hS rfl dX11_here_24

/-! X11_needs -/
theorem dX11_needs_0 : decode cX11_needs 0 = .ok (.aload_n 0, 1) := by decide +kernel
theorem dX11_needs_1 : decode cX11_needs 1 = .ok (.aload_n 0, 1) := by decide +kernel
theorem dX11_needs_2 : decode cX11_needs 2 = .ok (.getfield 190, 3) := by decide +kernel
theorem dX11_needs_5 : decode cX11_needs 5 = .ok (.ifCond .ne 11, 3) := by decide +kernel
theorem dX11_needs_8 : decode cX11_needs 8 = .ok (.aload_n 0, 1) := by decide +kernel
theorem dX11_needs_9 : decode cX11_needs 9 = .ok (.invokevirtual 194, 3) := by decide +kernel
theorem dX11_needs_12 : decode cX11_needs 12 = .ok (.iload_n 1, 1) := by decide +kernel
theorem dX11_needs_13 : decode cX11_needs 13 = .ok (.if_icmp .eq 7, 3) := by decide +kernel
theorem dX11_needs_16 : decode cX11_needs 16 = .ok (.iconst 1, 1) := by decide +kernel
theorem dX11_needs_17 : decode cX11_needs 17 = .ok (.goto 4, 3) := by decide +kernel
theorem dX11_needs_20 : decode cX11_needs 20 = .ok (.iconst 0, 1) := by decide +kernel
theorem dX11_needs_21 : decode cX11_needs 21 = .ok (.putfield 190, 3) := by decide +kernel
theorem dX11_needs_24 : decode cX11_needs 24 = .ok (.aload_n 0, 1) := by decide +kernel
theorem dX11_needs_25 : decode cX11_needs 25 = .ok (.dup, 1) := by decide +kernel
theorem dX11_needs_26 : decode cX11_needs 26 = .ok (.getfield 187, 3) := by decide +kernel
theorem dX11_needs_29 : decode cX11_needs 29 = .ok (.aload_n 0, 1) := by decide +kernel
theorem dX11_needs_30 : decode cX11_needs 30 = .ok (.getfield 190, 3) := by decide +kernel
theorem dX11_needs_33 : decode cX11_needs 33 = .ok (.ifCond .eq 7, 3) := by decide +kernel
theorem dX11_needs_36 : decode cX11_needs 36 = .ok (.iconst 0, 1) := by decide +kernel
theorem dX11_needs_37 : decode cX11_needs 37 = .ok (.goto 4, 3) := by decide +kernel
theorem dX11_needs_40 : decode cX11_needs 40 = .ok (.iconst 1, 1) := by decide +kernel
theorem dX11_needs_41 : decode cX11_needs 41 = .ok (.iadd, 1) := by decide +kernel
theorem dX11_needs_42 : decode cX11_needs 42 = .ok (.putfield 187, 3) := by decide +kernel
theorem dX11_needs_45 : decode cX11_needs 45 = .ok (.return_, 1) := by decide +kernel
def f_X11_needs (x_buffer : (Nat → Int32)) (x_typed : Int32) (x_spot : Int32) (x_isWrong : Int32) (p1 : Int32) : Option (Int32 × Int32) :=
  q_lt (fun (j1 : Int32) =>
  q_gd (j1 = 0 ∨ j1 = 1) (
  q_lt (fun (j3 : Int32) =>
  some (x_spot + j3, j1)) (fun (J41 : Int32 → Option (Int32 × Int32)) =>
  q_br (j1 = 0) (
  J41 1) (
  J41 0)))) (fun (J21 : Int32 → Option (Int32 × Int32)) =>
  q_br (x_isWrong = 0) (
  q_bd (f_X11_here x_buffer x_typed x_spot) (fun q4 =>
  q_br (q4 = p1) (
  J21 0) (
  J21 1))) (
  J21 1))
theorem hv_X11_needs : yX11_needs.cls = RX11 ∧ yX11_needs.cls ≠ "java/lang/invoke/MethodHandle" ∧ yX11_needs.cls ≠ "java/lang/invoke/VarHandle" ∧ (parseMethodDescriptor yX11_needs.desc).map (fun d => d.parameters.length) = some 1 := by decide +kernel
abbrev rm_X11_needs : Room := { frames := 1, cells := 0, slots := 0, locals := 20 }
set_option maxHeartbeats 4000000 in
set_option maxRecDepth 100000 in
theorem k_X11_needs (l : Launch) (E : ET) (a : Nat → Nat) (o : Nat) (x : Model_t) (p1 : Int32) (res : Int32 × Int32) (hF : f_X11_needs x.2.2.2.2.2.2.1 x.2.2.2.2.2.2.2.1 x.2.2.2.2.2.2.2.2.2.2.2.2.2.2.2.1 x.2.2.2.2.2.2.2.2.2.2.2.2.2.2.2.2.1 p1 = some res) (sz : Nat) : CtV l yX11_needs (mws yX11_needs cX11_needs 2 none) rm_X11_needs 0 0 [.ref (a o), .int p1] E (bl_Model E a o x) (bl_Model E a o (x.1, x.2.1, x.2.2.1, x.2.2.2.1, x.2.2.2.2.1, x.2.2.2.2.2.1, x.2.2.2.2.2.2.1, x.2.2.2.2.2.2.2.1, x.2.2.2.2.2.2.2.2.1, x.2.2.2.2.2.2.2.2.2.1, x.2.2.2.2.2.2.2.2.2.2.1, x.2.2.2.2.2.2.2.2.2.2.2.1, x.2.2.2.2.2.2.2.2.2.2.2.2.1, x.2.2.2.2.2.2.2.2.2.2.2.2.2.1, x.2.2.2.2.2.2.2.2.2.2.2.2.2.2.1, res.1, res.2, x.2.2.2.2.2.2.2.2.2.2.2.2.2.2.2.2.2)) sz := by
  refine mk_M (by decide +kernel) (Nat.le_of_ble_eq_true rfl) ?_
  intro p e s m below meth c A args Q ls hAe hsz hQ hx hb hr hml hin ha hown hlocks hA hz hzs hst hP hD hS hl
  have hown : s.vm.findClass RX11 = some m.cls := hown
  rw [hAe] at hQ
  subst hsz
  have hP : va_P E.1 vwCl (List.flatten [w_Model E a o x]) s.heap := hP
  have hD : va_D A (List.flatten [w_Model E a o x]) := hD
  have hl : lv_has ls 2 [(0, .ref (a o)), (1, .int p1)] := hl
  generalize hHe : s.heap = H at hP
  have hS : va_S A s.heap H [] := by rw [← hHe]; exact hS
  generalize ([] : List Loc) = locs at hS ⊢
  unfold f_X11_needs at hF
  refine lv_aload_n hx hb dX11_needs_0 rfl (lv_at hl 0 rfl) ?_
  refine lv_aload_n hx hb dX11_needs_1 rfl (lv_at hl 0 rfl) ?_
  refine va_get (D := E.1) (ci := 13) (v := .int x.2.2.2.2.2.2.2.2.2.2.2.2.2.2.2.2.1) (C := RX11) (T := TX11) (N := 18) hx hb ha in_X11 hown hst.k hP 0 rfl rfl 16 (by decide) (ha _ mw1652) (fun _ h9 => h9) rfl dX11_needs_2 ?_
  obtain ⟨J21, hJ21, hF⟩ := q_jn hF
  have jJ21 : ∀ (j1 : Int32), ∀ (H : Heap) (locs : List Loc) (ls : Array Slot), J21 j1 = some res → va_P E.1 vwCl (List.flatten [w_Model E a o x]) H → va_D A (List.flatten [w_Model E a o x]) → va_S A s.heap H locs → lv_has ls 2 [(0, .ref (a o))] → W p l e rm_X11_needs s m args below meth c H locs 0 0 Q (F0 m 21 ls [.int j1, .ref (a o)]) := by
    intro j1 H locs ls hF hP hD hS hl
    rw [hJ21] at hF
    obtain ⟨g2, hF⟩ := q_gdi hF
    refine va_put (D := E.1) (ci := 13) (v := .int j1) (ty := .boolean) (C := RX11) (T := TX11) (N := 18) hx hb ha in_X11 tyX11 tyX11_ok nmX11 hown hst.k hP hD hS 0 rfl rfl 16 (by decide) (ha _ mw1652) (fun _ h9 => h9) rfl (tyX11_ok 16 (by decide)) (nz_b g2) (fz_b g2) (Nat.le_of_ble_eq_true rfl) dX11_needs_21 (fun H locs hP hD hS => ?_)
    have hP : va_P E.1 vwCl (List.flatten [w_Model E a o (x.1, x.2.1, x.2.2.1, x.2.2.2.1, x.2.2.2.2.1, x.2.2.2.2.2.1, x.2.2.2.2.2.2.1, x.2.2.2.2.2.2.2.1, x.2.2.2.2.2.2.2.2.1, x.2.2.2.2.2.2.2.2.2.1, x.2.2.2.2.2.2.2.2.2.2.1, x.2.2.2.2.2.2.2.2.2.2.2.1, x.2.2.2.2.2.2.2.2.2.2.2.2.1, x.2.2.2.2.2.2.2.2.2.2.2.2.2.1, x.2.2.2.2.2.2.2.2.2.2.2.2.2.2.1, x.2.2.2.2.2.2.2.2.2.2.2.2.2.2.2.1, j1, x.2.2.2.2.2.2.2.2.2.2.2.2.2.2.2.2.2)]) H := hP
    have hD : va_D A (List.flatten [w_Model E a o (x.1, x.2.1, x.2.2.1, x.2.2.2.1, x.2.2.2.2.1, x.2.2.2.2.2.1, x.2.2.2.2.2.2.1, x.2.2.2.2.2.2.2.1, x.2.2.2.2.2.2.2.2.1, x.2.2.2.2.2.2.2.2.2.1, x.2.2.2.2.2.2.2.2.2.2.1, x.2.2.2.2.2.2.2.2.2.2.2.1, x.2.2.2.2.2.2.2.2.2.2.2.2.1, x.2.2.2.2.2.2.2.2.2.2.2.2.2.1, x.2.2.2.2.2.2.2.2.2.2.2.2.2.2.1, x.2.2.2.2.2.2.2.2.2.2.2.2.2.2.2.1, j1, x.2.2.2.2.2.2.2.2.2.2.2.2.2.2.2.2.2)]) := hD
    refine lv_aload_n hx hb dX11_needs_24 rfl (lv_at hl 0 rfl) ?_
    refine lv_dup hx hb dX11_needs_25 rfl ?_
    refine va_get (D := E.1) (ci := 13) (v := .int x.2.2.2.2.2.2.2.2.2.2.2.2.2.2.2.1) (C := RX11) (T := TX11) (N := 18) hx hb ha in_X11 hown hst.k hP 0 rfl rfl 15 (by decide) (ha _ mw1651) (fun _ h9 => h9) rfl dX11_needs_26 ?_
    refine lv_aload_n hx hb dX11_needs_29 rfl (lv_at hl 0 rfl) ?_
    refine va_get (D := E.1) (ci := 13) (v := .int j1) (C := RX11) (T := TX11) (N := 18) hx hb ha in_X11 hown hst.k hP 0 rfl rfl 16 (by decide) (ha _ mw1652) (fun _ h9 => h9) rfl dX11_needs_30 ?_
    obtain ⟨J41, hJ41, hF⟩ := q_jn hF
    have jJ41 : ∀ (j3 : Int32), ∀ (H : Heap) (locs : List Loc) (ls : Array Slot), J41 j3 = some res → va_P E.1 vwCl (List.flatten [w_Model E a o (x.1, x.2.1, x.2.2.1, x.2.2.2.1, x.2.2.2.2.1, x.2.2.2.2.2.1, x.2.2.2.2.2.2.1, x.2.2.2.2.2.2.2.1, x.2.2.2.2.2.2.2.2.1, x.2.2.2.2.2.2.2.2.2.1, x.2.2.2.2.2.2.2.2.2.2.1, x.2.2.2.2.2.2.2.2.2.2.2.1, x.2.2.2.2.2.2.2.2.2.2.2.2.1, x.2.2.2.2.2.2.2.2.2.2.2.2.2.1, x.2.2.2.2.2.2.2.2.2.2.2.2.2.2.1, x.2.2.2.2.2.2.2.2.2.2.2.2.2.2.2.1, j1, x.2.2.2.2.2.2.2.2.2.2.2.2.2.2.2.2.2)]) H → va_D A (List.flatten [w_Model E a o (x.1, x.2.1, x.2.2.1, x.2.2.2.1, x.2.2.2.2.1, x.2.2.2.2.2.1, x.2.2.2.2.2.2.1, x.2.2.2.2.2.2.2.1, x.2.2.2.2.2.2.2.2.1, x.2.2.2.2.2.2.2.2.2.1, x.2.2.2.2.2.2.2.2.2.2.1, x.2.2.2.2.2.2.2.2.2.2.2.1, x.2.2.2.2.2.2.2.2.2.2.2.2.1, x.2.2.2.2.2.2.2.2.2.2.2.2.2.1, x.2.2.2.2.2.2.2.2.2.2.2.2.2.2.1, x.2.2.2.2.2.2.2.2.2.2.2.2.2.2.2.1, j1, x.2.2.2.2.2.2.2.2.2.2.2.2.2.2.2.2.2)]) → va_S A s.heap H locs → lv_has ls 2 [] → W p l e rm_X11_needs s m args below meth c H locs 0 0 Q (F0 m 41 ls [.int j3, .int x.2.2.2.2.2.2.2.2.2.2.2.2.2.2.2.1, .ref (a o)]) := by
      intro j3 H locs ls hF hP hD hS hl
      rw [hJ41] at hF
      refine lv_iadd hx hb dX11_needs_41 ?_
      refine va_put (D := E.1) (ci := 13) (v := .int (x.2.2.2.2.2.2.2.2.2.2.2.2.2.2.2.1 + j3)) (ty := .int) (C := RX11) (T := TX11) (N := 18) hx hb ha in_X11 tyX11 tyX11_ok nmX11 hown hst.k hP hD hS 0 rfl rfl 15 (by decide) (ha _ mw1651) (fun _ h9 => h9) rfl (tyX11_ok 15 (by decide)) rfl rfl (Nat.le_of_ble_eq_true rfl) dX11_needs_42 (fun H locs hP hD hS => ?_)
      have hP : va_P E.1 vwCl (List.flatten [w_Model E a o (x.1, x.2.1, x.2.2.1, x.2.2.2.1, x.2.2.2.2.1, x.2.2.2.2.2.1, x.2.2.2.2.2.2.1, x.2.2.2.2.2.2.2.1, x.2.2.2.2.2.2.2.2.1, x.2.2.2.2.2.2.2.2.2.1, x.2.2.2.2.2.2.2.2.2.2.1, x.2.2.2.2.2.2.2.2.2.2.2.1, x.2.2.2.2.2.2.2.2.2.2.2.2.1, x.2.2.2.2.2.2.2.2.2.2.2.2.2.1, x.2.2.2.2.2.2.2.2.2.2.2.2.2.2.1, x.2.2.2.2.2.2.2.2.2.2.2.2.2.2.2.1 + j3, j1, x.2.2.2.2.2.2.2.2.2.2.2.2.2.2.2.2.2)]) H := hP
      have hD : va_D A (List.flatten [w_Model E a o (x.1, x.2.1, x.2.2.1, x.2.2.2.1, x.2.2.2.2.1, x.2.2.2.2.2.1, x.2.2.2.2.2.2.1, x.2.2.2.2.2.2.2.1, x.2.2.2.2.2.2.2.2.1, x.2.2.2.2.2.2.2.2.2.1, x.2.2.2.2.2.2.2.2.2.2.1, x.2.2.2.2.2.2.2.2.2.2.2.1, x.2.2.2.2.2.2.2.2.2.2.2.2.1, x.2.2.2.2.2.2.2.2.2.2.2.2.2.1, x.2.2.2.2.2.2.2.2.2.2.2.2.2.2.1, x.2.2.2.2.2.2.2.2.2.2.2.2.2.2.2.1 + j3, j1, x.2.2.2.2.2.2.2.2.2.2.2.2.2.2.2.2.2)]) := hD
      obtain rfl := Option.some.inj hF
      exact en_v hQ (Nat.le_of_ble_eq_true rfl) (Nat.le_of_ble_eq_true rfl) hx hb hr hlocks hP hD hS dX11_needs_45
    refine lv_if_eq (tgt := 40) hx hb dX11_needs_33 (by decide) (fun c33 => ?_) (fun c33 => ?_)
    · have hF := q_brp c33 hF
      refine lv_iconst (v := 1) hx hb dX11_needs_40 (by decide) ?_
      exact jJ41 1 H locs ls hF hP hD hS (lv_sub hl [] rfl)
    · have hF := q_brn c33 hF
      refine lv_iconst (v := 0) hx hb dX11_needs_36 (by decide) ?_
      refine lv_goto (tgt := 41) hx hb dX11_needs_37 (by decide) ?_
      exact jJ41 0 H locs ls hF hP hD hS (lv_sub hl [] rfl)
  refine lv_if_ne (tgt := 16) hx hb dX11_needs_5 (by decide) (fun c5 => ?_) (fun c5 => ?_)
  · have hF := q_brn c5 hF
    refine lv_iconst (v := 1) hx hb dX11_needs_16 (by decide) ?_
    refine lv_goto (tgt := 21) hx hb dX11_needs_17 (by decide) ?_
    exact jJ21 1 H locs ls hF hP hD hS (lv_sub hl [0] rfl)
  · have hF := q_brp c5 hF
    refine lv_aload_n hx hb dX11_needs_8 rfl (lv_at hl 0 rfl) ?_
    obtain ⟨q4, hq4, hF⟩ := q_bdi hF
    refine cl_i (Lc := [w_Model E a o x]) (Lc' := [w_Model E a o x]) (L' := [w_Model E a o x]) (rv := q4) (va_runV (As := []) (rest := [.ref (a o)]) ⟨hx, hb, hml, hown, ha⟩ (k_X11_here l E a o x q4 hq4 H.size) (cwV 0 ha (gi_V (fun _ h => h) mw2038 mw2040 mw60 mw87 mw2041) rfl rfl rfl hv_X11_here ⟨(Nat.le_of_ble_eq_true rfl), (Nat.le_of_ble_eq_true rfl)⟩) ⟨pre_blind, va_recv hst.k (fr_P hP [0] rfl) (ci := 13) (q0 := 0) rfl rfl, pre_at hP hD hS hz hzs hst [0] (by decide) rfl rfl⟩ rfl rfl hl.1 rfl (lv_room (Nat.le_of_ble_eq_true rfl)) dX11_needs_9 ⟨(Nat.le_of_ble_eq_true rfl), (Nat.le_of_ble_eq_true rfl)⟩) hP hD hS hA [0] (by decide) rfl rfl rfl rfl (fun H locs hP hD hS => ?_)
    refine lv_iload_n hx hb dX11_needs_12 rfl (lv_at hl 1 rfl) ?_
    refine lv_icmp_eq (tgt := 20) hx hb dX11_needs_13 (by decide) (fun c13 => ?_) (fun c13 => ?_)
    · have hF := q_brp c13 hF
      refine lv_iconst (v := 0) hx hb dX11_needs_20 (by decide) ?_
      exact jJ21 0 H locs ls hF hP hD hS (lv_sub hl [0] rfl)
    · have hF := q_brn c13 hF
      refine lv_iconst (v := 1) hx hb dX11_needs_16 (by decide) ?_
      refine lv_goto (tgt := 21) hx hb dX11_needs_17 (by decide) ?_
      exact jJ21 1 H locs ls hF hP hD hS (lv_sub hl [0] rfl)

/-! X11_needsThree -/
theorem dX11_needsThree_0 : decode cX11_needsThree 0 = .ok (.aload_n 0, 1) := by decide +kernel
theorem dX11_needsThree_1 : decode cX11_needsThree 1 = .ok (.iload_n 1, 1) := by decide +kernel
theorem dX11_needsThree_2 : decode cX11_needsThree 2 = .ok (.invokevirtual 198, 3) := by decide +kernel
theorem dX11_needsThree_5 : decode cX11_needsThree 5 = .ok (.aload_n 0, 1) := by decide +kernel
theorem dX11_needsThree_6 : decode cX11_needsThree 6 = .ok (.iload_n 2, 1) := by decide +kernel
theorem dX11_needsThree_7 : decode cX11_needsThree 7 = .ok (.invokevirtual 198, 3) := by decide +kernel
theorem dX11_needsThree_10 : decode cX11_needsThree 10 = .ok (.aload_n 0, 1) := by decide +kernel
theorem dX11_needsThree_11 : decode cX11_needsThree 11 = .ok (.iload_n 3, 1) := by decide +kernel
theorem dX11_needsThree_12 : decode cX11_needsThree 12 = .ok (.invokevirtual 198, 3) := by decide +kernel
theorem dX11_needsThree_15 : decode cX11_needsThree 15 = .ok (.return_, 1) := by decide +kernel
def f_X11_needsThree (x_buffer : (Nat → Int32)) (x_typed : Int32) (x_spot : Int32) (x_isWrong : Int32) (p1 : Int32) (p2 : Int32) (p3 : Int32) : Option (Int32 × Int32) :=
  q_bd (f_X11_needs x_buffer x_typed x_spot x_isWrong p1) (fun q1 =>
  q_bd (f_X11_needs x_buffer x_typed q1.1 q1.2 p2) (fun q2 =>
  q_bd (f_X11_needs x_buffer x_typed q2.1 q2.2 p3) (fun q3 =>
  some (q3.1, q3.2))))
theorem hv_X11_needsThree : yX11_needsThree.cls = RX11 ∧ yX11_needsThree.cls ≠ "java/lang/invoke/MethodHandle" ∧ yX11_needsThree.cls ≠ "java/lang/invoke/VarHandle" ∧ (parseMethodDescriptor yX11_needsThree.desc).map (fun d => d.parameters.length) = some 3 := by decide +kernel
abbrev rm_X11_needsThree : Room := { frames := 2, cells := 0, slots := 0, locals := 41 }
set_option maxHeartbeats 4000000 in
set_option maxRecDepth 100000 in
theorem k_X11_needsThree (l : Launch) (E : ET) (a : Nat → Nat) (o : Nat) (x : Model_t) (p1 : Int32) (p2 : Int32) (p3 : Int32) (res : Int32 × Int32) (hF : f_X11_needsThree x.2.2.2.2.2.2.1 x.2.2.2.2.2.2.2.1 x.2.2.2.2.2.2.2.2.2.2.2.2.2.2.2.1 x.2.2.2.2.2.2.2.2.2.2.2.2.2.2.2.2.1 p1 p2 p3 = some res) (sz : Nat) : CtV l yX11_needsThree (mws yX11_needsThree cX11_needsThree 4 none) rm_X11_needsThree 0 0 [.ref (a o), .int p1, .int p2, .int p3] E (bl_Model E a o x) (bl_Model E a o (x.1, x.2.1, x.2.2.1, x.2.2.2.1, x.2.2.2.2.1, x.2.2.2.2.2.1, x.2.2.2.2.2.2.1, x.2.2.2.2.2.2.2.1, x.2.2.2.2.2.2.2.2.1, x.2.2.2.2.2.2.2.2.2.1, x.2.2.2.2.2.2.2.2.2.2.1, x.2.2.2.2.2.2.2.2.2.2.2.1, x.2.2.2.2.2.2.2.2.2.2.2.2.1, x.2.2.2.2.2.2.2.2.2.2.2.2.2.1, x.2.2.2.2.2.2.2.2.2.2.2.2.2.2.1, res.1, res.2, x.2.2.2.2.2.2.2.2.2.2.2.2.2.2.2.2.2)) sz := by
  refine mk_M (by decide +kernel) (Nat.le_of_ble_eq_true rfl) ?_
  intro p e s m below meth c A args Q ls hAe hsz hQ hx hb hr hml hin ha hown hlocks hA hz hzs hst hP hD hS hl
  have hown : s.vm.findClass RX11 = some m.cls := hown
  rw [hAe] at hQ
  subst hsz
  have hP : va_P E.1 vwCl (List.flatten [w_Model E a o x]) s.heap := hP
  have hD : va_D A (List.flatten [w_Model E a o x]) := hD
  have hl : lv_has ls 4 [(0, .ref (a o)), (1, .int p1), (2, .int p2), (3, .int p3)] := hl
  generalize hHe : s.heap = H at hP
  have hS : va_S A s.heap H [] := by rw [← hHe]; exact hS
  generalize ([] : List Loc) = locs at hS ⊢
  unfold f_X11_needsThree at hF
  refine lv_aload_n hx hb dX11_needsThree_0 rfl (lv_at hl 0 rfl) ?_
  refine lv_iload_n hx hb dX11_needsThree_1 rfl (lv_at hl 1 rfl) ?_
  obtain ⟨q1, hq1, hF⟩ := q_bdi hF
  refine cl_v (Lc := [w_Model E a o x]) (Lc' := [w_Model E a o (x.1, x.2.1, x.2.2.1, x.2.2.2.1, x.2.2.2.2.1, x.2.2.2.2.2.1, x.2.2.2.2.2.2.1, x.2.2.2.2.2.2.2.1, x.2.2.2.2.2.2.2.2.1, x.2.2.2.2.2.2.2.2.2.1, x.2.2.2.2.2.2.2.2.2.2.1, x.2.2.2.2.2.2.2.2.2.2.2.1, x.2.2.2.2.2.2.2.2.2.2.2.2.1, x.2.2.2.2.2.2.2.2.2.2.2.2.2.1, x.2.2.2.2.2.2.2.2.2.2.2.2.2.2.1, q1.1, q1.2, x.2.2.2.2.2.2.2.2.2.2.2.2.2.2.2.2.2)]) (L' := [w_Model E a o (x.1, x.2.1, x.2.2.1, x.2.2.2.1, x.2.2.2.2.1, x.2.2.2.2.2.1, x.2.2.2.2.2.2.1, x.2.2.2.2.2.2.2.1, x.2.2.2.2.2.2.2.2.1, x.2.2.2.2.2.2.2.2.2.1, x.2.2.2.2.2.2.2.2.2.2.1, x.2.2.2.2.2.2.2.2.2.2.2.1, x.2.2.2.2.2.2.2.2.2.2.2.2.1, x.2.2.2.2.2.2.2.2.2.2.2.2.2.1, x.2.2.2.2.2.2.2.2.2.2.2.2.2.2.1, q1.1, q1.2, x.2.2.2.2.2.2.2.2.2.2.2.2.2.2.2.2.2)]) (va_runV (As := [.int p1]) (rest := []) ⟨hx, hb, hml, hown, ha⟩ (k_X11_needs l E a o x p1 q1 hq1 H.size) (cwV 1 ha (gi_V (fun _ h => h) mw2046 mw2048 mw62 mw87 mw2049) rfl rfl rfl hv_X11_needs ⟨(Nat.le_of_ble_eq_true rfl), (Nat.le_of_ble_eq_true rfl)⟩) ⟨pre_blind, va_recv hst.k (fr_P hP [0] rfl) (ci := 13) (q0 := 0) rfl rfl, pre_at hP hD hS hz hzs hst [0] (by decide) rfl rfl⟩ rfl rfl hl.1 rfl (lv_room (Nat.le_of_ble_eq_true rfl)) dX11_needsThree_2 ⟨(Nat.le_of_ble_eq_true rfl), (Nat.le_of_ble_eq_true rfl)⟩) hP hD hS hA [0] (by decide) rfl rfl rfl rfl (fun H locs hP hD hS => ?_)
  refine lv_aload_n hx hb dX11_needsThree_5 rfl (lv_at hl 0 rfl) ?_
  refine lv_iload_n hx hb dX11_needsThree_6 rfl (lv_at hl 2 rfl) ?_
  obtain ⟨q2, hq2, hF⟩ := q_bdi hF
  refine cl_v (Lc := [w_Model E a o (x.1, x.2.1, x.2.2.1, x.2.2.2.1, x.2.2.2.2.1, x.2.2.2.2.2.1, x.2.2.2.2.2.2.1, x.2.2.2.2.2.2.2.1, x.2.2.2.2.2.2.2.2.1, x.2.2.2.2.2.2.2.2.2.1, x.2.2.2.2.2.2.2.2.2.2.1, x.2.2.2.2.2.2.2.2.2.2.2.1, x.2.2.2.2.2.2.2.2.2.2.2.2.1, x.2.2.2.2.2.2.2.2.2.2.2.2.2.1, x.2.2.2.2.2.2.2.2.2.2.2.2.2.2.1, q1.1, q1.2, x.2.2.2.2.2.2.2.2.2.2.2.2.2.2.2.2.2)]) (Lc' := [w_Model E a o (x.1, x.2.1, x.2.2.1, x.2.2.2.1, x.2.2.2.2.1, x.2.2.2.2.2.1, x.2.2.2.2.2.2.1, x.2.2.2.2.2.2.2.1, x.2.2.2.2.2.2.2.2.1, x.2.2.2.2.2.2.2.2.2.1, x.2.2.2.2.2.2.2.2.2.2.1, x.2.2.2.2.2.2.2.2.2.2.2.1, x.2.2.2.2.2.2.2.2.2.2.2.2.1, x.2.2.2.2.2.2.2.2.2.2.2.2.2.1, x.2.2.2.2.2.2.2.2.2.2.2.2.2.2.1, q2.1, q2.2, x.2.2.2.2.2.2.2.2.2.2.2.2.2.2.2.2.2)]) (L' := [w_Model E a o (x.1, x.2.1, x.2.2.1, x.2.2.2.1, x.2.2.2.2.1, x.2.2.2.2.2.1, x.2.2.2.2.2.2.1, x.2.2.2.2.2.2.2.1, x.2.2.2.2.2.2.2.2.1, x.2.2.2.2.2.2.2.2.2.1, x.2.2.2.2.2.2.2.2.2.2.1, x.2.2.2.2.2.2.2.2.2.2.2.1, x.2.2.2.2.2.2.2.2.2.2.2.2.1, x.2.2.2.2.2.2.2.2.2.2.2.2.2.1, x.2.2.2.2.2.2.2.2.2.2.2.2.2.2.1, q2.1, q2.2, x.2.2.2.2.2.2.2.2.2.2.2.2.2.2.2.2.2)]) (va_runV (As := [.int p2]) (rest := []) ⟨hx, hb, hml, hown, ha⟩ (k_X11_needs l E a o (x.1, x.2.1, x.2.2.1, x.2.2.2.1, x.2.2.2.2.1, x.2.2.2.2.2.1, x.2.2.2.2.2.2.1, x.2.2.2.2.2.2.2.1, x.2.2.2.2.2.2.2.2.1, x.2.2.2.2.2.2.2.2.2.1, x.2.2.2.2.2.2.2.2.2.2.1, x.2.2.2.2.2.2.2.2.2.2.2.1, x.2.2.2.2.2.2.2.2.2.2.2.2.1, x.2.2.2.2.2.2.2.2.2.2.2.2.2.1, x.2.2.2.2.2.2.2.2.2.2.2.2.2.2.1, q1.1, q1.2, x.2.2.2.2.2.2.2.2.2.2.2.2.2.2.2.2.2) p2 q2 hq2 H.size) (cwV 1 ha (gi_V (fun _ h => h) mw2046 mw2048 mw62 mw87 mw2049) rfl rfl rfl hv_X11_needs ⟨(Nat.le_of_ble_eq_true rfl), (Nat.le_of_ble_eq_true rfl)⟩) ⟨pre_blind, va_recv hst.k (fr_P hP [0] rfl) (ci := 13) (q0 := 0) rfl rfl, pre_at hP hD hS hz hzs hst [0] (by decide) rfl rfl⟩ rfl rfl hl.1 rfl (lv_room (Nat.le_of_ble_eq_true rfl)) dX11_needsThree_7 ⟨(Nat.le_of_ble_eq_true rfl), (Nat.le_of_ble_eq_true rfl)⟩) hP hD hS hA [0] (by decide) rfl rfl rfl rfl (fun H locs hP hD hS => ?_)
  refine lv_aload_n hx hb dX11_needsThree_10 rfl (lv_at hl 0 rfl) ?_
  refine lv_iload_n hx hb dX11_needsThree_11 rfl (lv_at hl 3 rfl) ?_
  obtain ⟨q3, hq3, hF⟩ := q_bdi hF
  refine cl_v (Lc := [w_Model E a o (x.1, x.2.1, x.2.2.1, x.2.2.2.1, x.2.2.2.2.1, x.2.2.2.2.2.1, x.2.2.2.2.2.2.1, x.2.2.2.2.2.2.2.1, x.2.2.2.2.2.2.2.2.1, x.2.2.2.2.2.2.2.2.2.1, x.2.2.2.2.2.2.2.2.2.2.1, x.2.2.2.2.2.2.2.2.2.2.2.1, x.2.2.2.2.2.2.2.2.2.2.2.2.1, x.2.2.2.2.2.2.2.2.2.2.2.2.2.1, x.2.2.2.2.2.2.2.2.2.2.2.2.2.2.1, q2.1, q2.2, x.2.2.2.2.2.2.2.2.2.2.2.2.2.2.2.2.2)]) (Lc' := [w_Model E a o (x.1, x.2.1, x.2.2.1, x.2.2.2.1, x.2.2.2.2.1, x.2.2.2.2.2.1, x.2.2.2.2.2.2.1, x.2.2.2.2.2.2.2.1, x.2.2.2.2.2.2.2.2.1, x.2.2.2.2.2.2.2.2.2.1, x.2.2.2.2.2.2.2.2.2.2.1, x.2.2.2.2.2.2.2.2.2.2.2.1, x.2.2.2.2.2.2.2.2.2.2.2.2.1, x.2.2.2.2.2.2.2.2.2.2.2.2.2.1, x.2.2.2.2.2.2.2.2.2.2.2.2.2.2.1, q3.1, q3.2, x.2.2.2.2.2.2.2.2.2.2.2.2.2.2.2.2.2)]) (L' := [w_Model E a o (x.1, x.2.1, x.2.2.1, x.2.2.2.1, x.2.2.2.2.1, x.2.2.2.2.2.1, x.2.2.2.2.2.2.1, x.2.2.2.2.2.2.2.1, x.2.2.2.2.2.2.2.2.1, x.2.2.2.2.2.2.2.2.2.1, x.2.2.2.2.2.2.2.2.2.2.1, x.2.2.2.2.2.2.2.2.2.2.2.1, x.2.2.2.2.2.2.2.2.2.2.2.2.1, x.2.2.2.2.2.2.2.2.2.2.2.2.2.1, x.2.2.2.2.2.2.2.2.2.2.2.2.2.2.1, q3.1, q3.2, x.2.2.2.2.2.2.2.2.2.2.2.2.2.2.2.2.2)]) (va_runV (As := [.int p3]) (rest := []) ⟨hx, hb, hml, hown, ha⟩ (k_X11_needs l E a o (x.1, x.2.1, x.2.2.1, x.2.2.2.1, x.2.2.2.2.1, x.2.2.2.2.2.1, x.2.2.2.2.2.2.1, x.2.2.2.2.2.2.2.1, x.2.2.2.2.2.2.2.2.1, x.2.2.2.2.2.2.2.2.2.1, x.2.2.2.2.2.2.2.2.2.2.1, x.2.2.2.2.2.2.2.2.2.2.2.1, x.2.2.2.2.2.2.2.2.2.2.2.2.1, x.2.2.2.2.2.2.2.2.2.2.2.2.2.1, x.2.2.2.2.2.2.2.2.2.2.2.2.2.2.1, q2.1, q2.2, x.2.2.2.2.2.2.2.2.2.2.2.2.2.2.2.2.2) p3 q3 hq3 H.size) (cwV 1 ha (gi_V (fun _ h => h) mw2046 mw2048 mw62 mw87 mw2049) rfl rfl rfl hv_X11_needs ⟨(Nat.le_of_ble_eq_true rfl), (Nat.le_of_ble_eq_true rfl)⟩) ⟨pre_blind, va_recv hst.k (fr_P hP [0] rfl) (ci := 13) (q0 := 0) rfl rfl, pre_at hP hD hS hz hzs hst [0] (by decide) rfl rfl⟩ rfl rfl hl.1 rfl (lv_room (Nat.le_of_ble_eq_true rfl)) dX11_needsThree_12 ⟨(Nat.le_of_ble_eq_true rfl), (Nat.le_of_ble_eq_true rfl)⟩) hP hD hS hA [0] (by decide) rfl rfl rfl rfl (fun H locs hP hD hS => ?_)
  obtain rfl := Option.some.inj hF
  exact en_v hQ (Nat.le_of_ble_eq_true rfl) (Nat.le_of_ble_eq_true rfl) hx hb hr hlocks hP hD hS dX11_needsThree_15

/-! X11_digits -/
theorem dX11_digits_0 : decode cX11_digits 0 = .ok (.iconst 0, 1) := by decide +kernel
theorem dX11_digits_1 : decode cX11_digits 1 = .ok (.istore_n 3, 1) := by decide +kernel
theorem dX11_digits_2 : decode cX11_digits 2 = .ok (.iconst 0, 1) := by decide +kernel
theorem dX11_digits_3 : decode cX11_digits 3 = .ok (.istore 4, 2) := by decide +kernel
theorem dX11_digits_5 : decode cX11_digits 5 = .ok (.aload_n 0, 1) := by decide +kernel
theorem dX11_digits_6 : decode cX11_digits 6 = .ok (.getfield 190, 3) := by decide +kernel
theorem dX11_digits_9 : decode cX11_digits 9 = .ok (.ifCond .ne 52, 3) := by decide +kernel
theorem dX11_digits_12 : decode cX11_digits 12 = .ok (.iload 4, 2) := by decide +kernel
theorem dX11_digits_14 : decode cX11_digits 14 = .ok (.iload_n 2, 1) := by decide +kernel
theorem dX11_digits_15 : decode cX11_digits 15 = .ok (.if_icmp .ge 46, 3) := by decide +kernel
theorem dX11_digits_18 : decode cX11_digits 18 = .ok (.aload_n 0, 1) := by decide +kernel
theorem dX11_digits_19 : decode cX11_digits 19 = .ok (.invokevirtual 194, 3) := by decide +kernel
theorem dX11_digits_22 : decode cX11_digits 22 = .ok (.bipush 48, 2) := by decide +kernel
theorem dX11_digits_24 : decode cX11_digits 24 = .ok (.bipush 57, 2) := by decide +kernel
theorem dX11_digits_26 : decode cX11_digits 26 = .ok (.invokestatic 52, 3) := by decide +kernel
theorem dX11_digits_29 : decode cX11_digits 29 = .ok (.ifCond .eq 32, 3) := by decide +kernel
theorem dX11_digits_32 : decode cX11_digits 32 = .ok (.bipush 10, 2) := by decide +kernel
theorem dX11_digits_34 : decode cX11_digits 34 = .ok (.iload_n 3, 1) := by decide +kernel
theorem dX11_digits_35 : decode cX11_digits 35 = .ok (.imul, 1) := by decide +kernel
theorem dX11_digits_36 : decode cX11_digits 36 = .ok (.aload_n 0, 1) := by decide +kernel
theorem dX11_digits_37 : decode cX11_digits 37 = .ok (.invokevirtual 194, 3) := by decide +kernel
theorem dX11_digits_40 : decode cX11_digits 40 = .ok (.iadd, 1) := by decide +kernel
theorem dX11_digits_41 : decode cX11_digits 41 = .ok (.bipush 48, 2) := by decide +kernel
theorem dX11_digits_43 : decode cX11_digits 43 = .ok (.isub, 1) := by decide +kernel
theorem dX11_digits_44 : decode cX11_digits 44 = .ok (.istore_n 3, 1) := by decide +kernel
theorem dX11_digits_45 : decode cX11_digits 45 = .ok (.aload_n 0, 1) := by decide +kernel
theorem dX11_digits_46 : decode cX11_digits 46 = .ok (.dup, 1) := by decide +kernel
theorem dX11_digits_47 : decode cX11_digits 47 = .ok (.getfield 187, 3) := by decide +kernel
theorem dX11_digits_50 : decode cX11_digits 50 = .ok (.iconst 1, 1) := by decide +kernel
theorem dX11_digits_51 : decode cX11_digits 51 = .ok (.iadd, 1) := by decide +kernel
theorem dX11_digits_52 : decode cX11_digits 52 = .ok (.putfield 187, 3) := by decide +kernel
theorem dX11_digits_55 : decode cX11_digits 55 = .ok (.iinc 4 1, 3) := by decide +kernel
theorem dX11_digits_58 : decode cX11_digits 58 = .ok (.goto (-53), 3) := by decide +kernel
theorem dX11_digits_61 : decode cX11_digits 61 = .ok (.aload_n 0, 1) := by decide +kernel
theorem dX11_digits_62 : decode cX11_digits 62 = .ok (.aload_n 0, 1) := by decide +kernel
theorem dX11_digits_63 : decode cX11_digits 63 = .ok (.getfield 190, 3) := by decide +kernel
theorem dX11_digits_66 : decode cX11_digits 66 = .ok (.ifCond .ne 9, 3) := by decide +kernel
theorem dX11_digits_69 : decode cX11_digits 69 = .ok (.iload 4, 2) := by decide +kernel
theorem dX11_digits_71 : decode cX11_digits 71 = .ok (.iload_n 1, 1) := by decide +kernel
theorem dX11_digits_72 : decode cX11_digits 72 = .ok (.if_icmp .ge 7, 3) := by decide +kernel
theorem dX11_digits_75 : decode cX11_digits 75 = .ok (.iconst 1, 1) := by decide +kernel
theorem dX11_digits_76 : decode cX11_digits 76 = .ok (.goto 4, 3) := by decide +kernel
theorem dX11_digits_79 : decode cX11_digits 79 = .ok (.iconst 0, 1) := by decide +kernel
theorem dX11_digits_80 : decode cX11_digits 80 = .ok (.putfield 190, 3) := by decide +kernel
theorem dX11_digits_83 : decode cX11_digits 83 = .ok (.iload_n 3, 1) := by decide +kernel
theorem dX11_digits_84 : decode cX11_digits 84 = .ok (.ireturn, 1) := by decide +kernel
def f_X11_digits_L5 (x_buffer : (Nat → Int32)) (x_typed : Int32) (x_isWrong : Int32) (p2 : Int32) (K5 : Int32 → Int32 → Int32 → Option (Int32 × Int32 × Int32)) : Nat → Int32 → Int32 → Int32 → Option (Int32 × Int32 × Int32)
  | 0, _, _, _ => none
  | n5 + 1, i1, i2, i3 =>
    q_br (x_isWrong = 0) (
  q_br (p2 ≤ i1) (
  K5 i1 i2 i3) (
  q_bd (f_X11_here x_buffer x_typed i3) (fun q7 =>
  q_bd (f_X11_in q7 48 57) (fun q8 =>
  q_br (q8 = 0) (
  K5 i1 i2 i3) (
  q_bd (f_X11_here x_buffer x_typed i3) (fun q9 =>
  q_lt (((10 * i2) + q9) - 48 : Int32) (fun v10 =>
  q_lt (i1 + 1 : Int32) (fun v11 =>
  f_X11_digits_L5 x_buffer x_typed x_isWrong p2 K5 n5 v11 v10 (i3 + 1))))))))) (
  K5 i1 i2 i3)
def f_X11_digits (x_buffer : (Nat → Int32)) (x_typed : Int32) (x_spot : Int32) (x_isWrong : Int32) (p1 : Int32) (p2 : Int32) : Option (Int32 × Int32 × Int32) :=
  f_X11_digits_L5 x_buffer x_typed x_isWrong p2 (fun y4 y5 y6 =>
  q_lt (fun (j12 : Int32) =>
  q_gd (j12 = 0 ∨ j12 = 1) (
  some (y5, y6, j12))) (fun (J80 : Int32 → Option (Int32 × Int32 × Int32)) =>
  q_br (x_isWrong = 0) (
  q_br (p1 ≤ y4) (
  J80 0) (
  J80 1)) (
  J80 1))) 2000 0 0 x_spot
theorem hv_X11_digits : yX11_digits.cls = RX11 ∧ yX11_digits.cls ≠ "java/lang/invoke/MethodHandle" ∧ yX11_digits.cls ≠ "java/lang/invoke/VarHandle" ∧ (parseMethodDescriptor yX11_digits.desc).map (fun d => d.parameters.length) = some 2 := by decide +kernel
abbrev rm_X11_digits : Room := { frames := 1, cells := 0, slots := 0, locals := 22 }
set_option maxHeartbeats 4000000 in
set_option maxRecDepth 100000 in
theorem k_X11_digits (l : Launch) (E : ET) (a : Nat → Nat) (o : Nat) (x : Model_t) (p1 : Int32) (p2 : Int32) (res : Int32 × Int32 × Int32) (hF : f_X11_digits x.2.2.2.2.2.2.1 x.2.2.2.2.2.2.2.1 x.2.2.2.2.2.2.2.2.2.2.2.2.2.2.2.1 x.2.2.2.2.2.2.2.2.2.2.2.2.2.2.2.2.1 p1 p2 = some res) (sz : Nat) : CtI l yX11_digits (mws yX11_digits cX11_digits 5 (some .int)) rm_X11_digits 0 0 [.ref (a o), .int p1, .int p2] E (bl_Model E a o x) res.1 (bl_Model E a o (x.1, x.2.1, x.2.2.1, x.2.2.2.1, x.2.2.2.2.1, x.2.2.2.2.2.1, x.2.2.2.2.2.2.1, x.2.2.2.2.2.2.2.1, x.2.2.2.2.2.2.2.2.1, x.2.2.2.2.2.2.2.2.2.1, x.2.2.2.2.2.2.2.2.2.2.1, x.2.2.2.2.2.2.2.2.2.2.2.1, x.2.2.2.2.2.2.2.2.2.2.2.2.1, x.2.2.2.2.2.2.2.2.2.2.2.2.2.1, x.2.2.2.2.2.2.2.2.2.2.2.2.2.2.1, res.2.1, res.2.2, x.2.2.2.2.2.2.2.2.2.2.2.2.2.2.2.2.2)) sz := by
  refine mk_M (by decide +kernel) (Nat.le_of_ble_eq_true rfl) ?_
  intro p e s m below meth c A args Q ls hAe hsz hQ hx hb hr hml hin ha hown hlocks hA hz hzs hst hP hD hS hl
  have hown : s.vm.findClass RX11 = some m.cls := hown
  rw [hAe] at hQ
  subst hsz
  have hP : va_P E.1 vwCl (List.flatten [w_Model E a o x]) s.heap := hP
  have hD : va_D A (List.flatten [w_Model E a o x]) := hD
  have hl : lv_has ls 5 [(0, .ref (a o)), (1, .int p1), (2, .int p2)] := hl
  generalize hHe : s.heap = H at hP
  have hS : va_S A s.heap H [] := by rw [← hHe]; exact hS
  generalize ([] : List Loc) = locs at hS ⊢
  unfold f_X11_digits at hF
  refine lv_iconst (v := 0) hx hb dX11_digits_0 (by decide) ?_
  refine lv_istore_n (lv' := [(3, .int 0), (0, .ref (a o)), (1, .int p1), (2, .int p2)]) hx hb dX11_digits_1 rfl hl (by decide) rfl (fun ls hl => ?_)
  refine lv_iconst (v := 0) hx hb dX11_digits_2 (by decide) ?_
  refine lv_istore (lv' := [(4, .int 0), (3, .int 0), (0, .ref (a o)), (1, .int p1), (2, .int p2)]) hx hb dX11_digits_3 hl (by decide) rfl (fun ls hl => ?_)
  have key5 : ∀ (K : Int32 → Int32 → Int32 → Option (Int32 × Int32 × Int32)), (∀ (y4 : Int32) (y5 : Int32) (y6 : Int32) (H : Heap) (locs : List Loc) (ls : Array Slot), K y4 y5 y6 = some res → va_P E.1 vwCl (List.flatten [w_Model E a o (x.1, x.2.1, x.2.2.1, x.2.2.2.1, x.2.2.2.2.1, x.2.2.2.2.2.1, x.2.2.2.2.2.2.1, x.2.2.2.2.2.2.2.1, x.2.2.2.2.2.2.2.2.1, x.2.2.2.2.2.2.2.2.2.1, x.2.2.2.2.2.2.2.2.2.2.1, x.2.2.2.2.2.2.2.2.2.2.2.1, x.2.2.2.2.2.2.2.2.2.2.2.2.1, x.2.2.2.2.2.2.2.2.2.2.2.2.2.1, x.2.2.2.2.2.2.2.2.2.2.2.2.2.2.1, y6, x.2.2.2.2.2.2.2.2.2.2.2.2.2.2.2.2.1, x.2.2.2.2.2.2.2.2.2.2.2.2.2.2.2.2.2)]) H → va_D A (List.flatten [w_Model E a o (x.1, x.2.1, x.2.2.1, x.2.2.2.1, x.2.2.2.2.1, x.2.2.2.2.2.1, x.2.2.2.2.2.2.1, x.2.2.2.2.2.2.2.1, x.2.2.2.2.2.2.2.2.1, x.2.2.2.2.2.2.2.2.2.1, x.2.2.2.2.2.2.2.2.2.2.1, x.2.2.2.2.2.2.2.2.2.2.2.1, x.2.2.2.2.2.2.2.2.2.2.2.2.1, x.2.2.2.2.2.2.2.2.2.2.2.2.2.1, x.2.2.2.2.2.2.2.2.2.2.2.2.2.2.1, y6, x.2.2.2.2.2.2.2.2.2.2.2.2.2.2.2.2.1, x.2.2.2.2.2.2.2.2.2.2.2.2.2.2.2.2.2)]) → va_S A s.heap H locs → lv_has ls 5 [(4, .int y4), (3, .int y5), (0, .ref (a o)), (1, .int p1)] → W p l e rm_X11_digits s m args below meth c H locs 0 0 Q (F0 m 61 ls [])) → ∀ (n : Nat) (i1 : Int32) (i2 : Int32) (i3 : Int32) (H : Heap) (locs : List Loc) (ls : Array Slot), f_X11_digits_L5 x.2.2.2.2.2.2.1 x.2.2.2.2.2.2.2.1 x.2.2.2.2.2.2.2.2.2.2.2.2.2.2.2.2.1 p2 K n i1 i2 i3 = some res → va_P E.1 vwCl (List.flatten [w_Model E a o (x.1, x.2.1, x.2.2.1, x.2.2.2.1, x.2.2.2.2.1, x.2.2.2.2.2.1, x.2.2.2.2.2.2.1, x.2.2.2.2.2.2.2.1, x.2.2.2.2.2.2.2.2.1, x.2.2.2.2.2.2.2.2.2.1, x.2.2.2.2.2.2.2.2.2.2.1, x.2.2.2.2.2.2.2.2.2.2.2.1, x.2.2.2.2.2.2.2.2.2.2.2.2.1, x.2.2.2.2.2.2.2.2.2.2.2.2.2.1, x.2.2.2.2.2.2.2.2.2.2.2.2.2.2.1, i3, x.2.2.2.2.2.2.2.2.2.2.2.2.2.2.2.2.1, x.2.2.2.2.2.2.2.2.2.2.2.2.2.2.2.2.2)]) H → va_D A (List.flatten [w_Model E a o (x.1, x.2.1, x.2.2.1, x.2.2.2.1, x.2.2.2.2.1, x.2.2.2.2.2.1, x.2.2.2.2.2.2.1, x.2.2.2.2.2.2.2.1, x.2.2.2.2.2.2.2.2.1, x.2.2.2.2.2.2.2.2.2.1, x.2.2.2.2.2.2.2.2.2.2.1, x.2.2.2.2.2.2.2.2.2.2.2.1, x.2.2.2.2.2.2.2.2.2.2.2.2.1, x.2.2.2.2.2.2.2.2.2.2.2.2.2.1, x.2.2.2.2.2.2.2.2.2.2.2.2.2.2.1, i3, x.2.2.2.2.2.2.2.2.2.2.2.2.2.2.2.2.1, x.2.2.2.2.2.2.2.2.2.2.2.2.2.2.2.2.2)]) → va_S A s.heap H locs → lv_has ls 5 [(4, .int i1), (3, .int i2), (0, .ref (a o)), (1, .int p1), (2, .int p2)] → W p l e rm_X11_digits s m args below meth c H locs 0 0 Q (F0 m 5 ls []) := by
    intro K5 hK5 n5
    induction n5 with
    | zero => intro i1 i2 i3 H locs ls hF; exact absurd hF (by simp [f_X11_digits_L5])
    | succ n5 ih5 =>
      intro i1 i2 i3 H locs ls hF hP hD hS hl
      rw [f_X11_digits_L5] at hF
      refine lv_aload_n hx hb dX11_digits_5 rfl (lv_at hl 2 rfl) ?_
      refine va_get (D := E.1) (ci := 13) (v := .int x.2.2.2.2.2.2.2.2.2.2.2.2.2.2.2.2.1) (C := RX11) (T := TX11) (N := 18) hx hb ha in_X11 hown hst.k hP 0 rfl rfl 16 (by decide) (ha _ mw1652) (fun _ h9 => h9) rfl dX11_digits_6 ?_
      refine lv_if_ne (tgt := 61) hx hb dX11_digits_9 (by decide) (fun c9 => ?_) (fun c9 => ?_)
      · have hF := q_brn c9 hF
        exact hK5 i1 i2 i3 H locs ls hF hP hD hS (lv_sub hl [0, 1, 2, 3] rfl)
      · have hF := q_brp c9 hF
        refine lv_iload hx hb dX11_digits_12 (lv_at hl 0 rfl) ?_
        refine lv_iload_n hx hb dX11_digits_14 rfl (lv_at hl 4 rfl) ?_
        refine lv_icmp_ge (tgt := 61) hx hb dX11_digits_15 (by decide) (fun c15 => ?_) (fun c15 => ?_)
        · have hF := q_brp c15 hF
          exact hK5 i1 i2 i3 H locs ls hF hP hD hS (lv_sub hl [0, 1, 2, 3] rfl)
        · have hF := q_brn c15 hF
          refine lv_aload_n hx hb dX11_digits_18 rfl (lv_at hl 2 rfl) ?_
          obtain ⟨q7, hq7, hF⟩ := q_bdi hF
          refine cl_i (Lc := [w_Model E a o (x.1, x.2.1, x.2.2.1, x.2.2.2.1, x.2.2.2.2.1, x.2.2.2.2.2.1, x.2.2.2.2.2.2.1, x.2.2.2.2.2.2.2.1, x.2.2.2.2.2.2.2.2.1, x.2.2.2.2.2.2.2.2.2.1, x.2.2.2.2.2.2.2.2.2.2.1, x.2.2.2.2.2.2.2.2.2.2.2.1, x.2.2.2.2.2.2.2.2.2.2.2.2.1, x.2.2.2.2.2.2.2.2.2.2.2.2.2.1, x.2.2.2.2.2.2.2.2.2.2.2.2.2.2.1, i3, x.2.2.2.2.2.2.2.2.2.2.2.2.2.2.2.2.1, x.2.2.2.2.2.2.2.2.2.2.2.2.2.2.2.2.2)]) (Lc' := [w_Model E a o (x.1, x.2.1, x.2.2.1, x.2.2.2.1, x.2.2.2.2.1, x.2.2.2.2.2.1, x.2.2.2.2.2.2.1, x.2.2.2.2.2.2.2.1, x.2.2.2.2.2.2.2.2.1, x.2.2.2.2.2.2.2.2.2.1, x.2.2.2.2.2.2.2.2.2.2.1, x.2.2.2.2.2.2.2.2.2.2.2.1, x.2.2.2.2.2.2.2.2.2.2.2.2.1, x.2.2.2.2.2.2.2.2.2.2.2.2.2.1, x.2.2.2.2.2.2.2.2.2.2.2.2.2.2.1, i3, x.2.2.2.2.2.2.2.2.2.2.2.2.2.2.2.2.1, x.2.2.2.2.2.2.2.2.2.2.2.2.2.2.2.2.2)]) (L' := [w_Model E a o (x.1, x.2.1, x.2.2.1, x.2.2.2.1, x.2.2.2.2.1, x.2.2.2.2.2.1, x.2.2.2.2.2.2.1, x.2.2.2.2.2.2.2.1, x.2.2.2.2.2.2.2.2.1, x.2.2.2.2.2.2.2.2.2.1, x.2.2.2.2.2.2.2.2.2.2.1, x.2.2.2.2.2.2.2.2.2.2.2.1, x.2.2.2.2.2.2.2.2.2.2.2.2.1, x.2.2.2.2.2.2.2.2.2.2.2.2.2.1, x.2.2.2.2.2.2.2.2.2.2.2.2.2.2.1, i3, x.2.2.2.2.2.2.2.2.2.2.2.2.2.2.2.2.1, x.2.2.2.2.2.2.2.2.2.2.2.2.2.2.2.2.2)]) (rv := q7) (va_runV (As := []) (rest := []) ⟨hx, hb, hml, hown, ha⟩ (k_X11_here l E a o (x.1, x.2.1, x.2.2.1, x.2.2.2.1, x.2.2.2.2.1, x.2.2.2.2.2.1, x.2.2.2.2.2.2.1, x.2.2.2.2.2.2.2.1, x.2.2.2.2.2.2.2.2.1, x.2.2.2.2.2.2.2.2.2.1, x.2.2.2.2.2.2.2.2.2.2.1, x.2.2.2.2.2.2.2.2.2.2.2.1, x.2.2.2.2.2.2.2.2.2.2.2.2.1, x.2.2.2.2.2.2.2.2.2.2.2.2.2.1, x.2.2.2.2.2.2.2.2.2.2.2.2.2.2.1, i3, x.2.2.2.2.2.2.2.2.2.2.2.2.2.2.2.2.1, x.2.2.2.2.2.2.2.2.2.2.2.2.2.2.2.2.2) q7 hq7 H.size) (cwV 0 ha (gi_V (fun _ h => h) mw2038 mw2040 mw60 mw87 mw2041) rfl rfl rfl hv_X11_here ⟨(Nat.le_of_ble_eq_true rfl), (Nat.le_of_ble_eq_true rfl)⟩) ⟨pre_blind, va_recv hst.k (fr_P hP [0] rfl) (ci := 13) (q0 := 0) rfl rfl, pre_at hP hD hS hz hzs hst [0] (by decide) rfl rfl⟩ rfl rfl hl.1 rfl (lv_room (Nat.le_of_ble_eq_true rfl)) dX11_digits_19 ⟨(Nat.le_of_ble_eq_true rfl), (Nat.le_of_ble_eq_true rfl)⟩) hP hD hS hA [0] (by decide) rfl rfl rfl rfl (fun H locs hP hD hS => ?_)
          refine lv_bipush (v := 48) hx hb dX11_digits_22 (by decide) ?_
          refine lv_bipush (v := 57) hx hb dX11_digits_24 (by decide) ?_
          obtain ⟨q8, hq8, hF⟩ := q_bdi hF
          refine cl_i (Lc := []) (Lc' := []) (L' := [w_Model E a o (x.1, x.2.1, x.2.2.1, x.2.2.2.1, x.2.2.2.2.1, x.2.2.2.2.2.1, x.2.2.2.2.2.2.1, x.2.2.2.2.2.2.2.1, x.2.2.2.2.2.2.2.2.1, x.2.2.2.2.2.2.2.2.2.1, x.2.2.2.2.2.2.2.2.2.2.1, x.2.2.2.2.2.2.2.2.2.2.2.1, x.2.2.2.2.2.2.2.2.2.2.2.2.1, x.2.2.2.2.2.2.2.2.2.2.2.2.2.1, x.2.2.2.2.2.2.2.2.2.2.2.2.2.2.1, i3, x.2.2.2.2.2.2.2.2.2.2.2.2.2.2.2.2.1, x.2.2.2.2.2.2.2.2.2.2.2.2.2.2.2.2.2)]) (rv := q8) (va_runS (As := [.int q7, .int 48, .int 57]) (rest := []) ⟨hx, hb, hml, hown, ha⟩ (k_X11_in l E q7 48 57 q8 hq8 H.size) (cwS 3 ha (gi_S (fun _ h => h) mw1713 mw1714 mw87 mw1715) rfl rfl rfl hv_X11_in ⟨(Nat.le_of_ble_eq_true rfl), (Nat.le_of_ble_eq_true rfl)⟩) ⟨pre_blind, pre_at hP hD hS hz hzs hst [] (by decide) rfl rfl⟩ rfl rfl hl.1 rfl (lv_room (Nat.le_of_ble_eq_true rfl)) dX11_digits_26 ⟨(Nat.le_of_ble_eq_true rfl), (Nat.le_of_ble_eq_true rfl)⟩) hP hD hS hA [] (by decide) rfl rfl rfl rfl (fun H locs hP hD hS => ?_)
          refine lv_if_eq (tgt := 61) hx hb dX11_digits_29 (by decide) (fun c29 => ?_) (fun c29 => ?_)
          · have hF := q_brp c29 hF
            exact hK5 i1 i2 i3 H locs ls hF hP hD hS (lv_sub hl [0, 1, 2, 3] rfl)
          · have hF := q_brn c29 hF
            refine lv_bipush (v := 10) hx hb dX11_digits_32 (by decide) ?_
            refine lv_iload_n hx hb dX11_digits_34 rfl (lv_at hl 1 rfl) ?_
            refine lv_imul hx hb dX11_digits_35 ?_
            refine lv_aload_n hx hb dX11_digits_36 rfl (lv_at hl 2 rfl) ?_
            obtain ⟨q9, hq9, hF⟩ := q_bdi hF
            refine cl_i (Lc := [w_Model E a o (x.1, x.2.1, x.2.2.1, x.2.2.2.1, x.2.2.2.2.1, x.2.2.2.2.2.1, x.2.2.2.2.2.2.1, x.2.2.2.2.2.2.2.1, x.2.2.2.2.2.2.2.2.1, x.2.2.2.2.2.2.2.2.2.1, x.2.2.2.2.2.2.2.2.2.2.1, x.2.2.2.2.2.2.2.2.2.2.2.1, x.2.2.2.2.2.2.2.2.2.2.2.2.1, x.2.2.2.2.2.2.2.2.2.2.2.2.2.1, x.2.2.2.2.2.2.2.2.2.2.2.2.2.2.1, i3, x.2.2.2.2.2.2.2.2.2.2.2.2.2.2.2.2.1, x.2.2.2.2.2.2.2.2.2.2.2.2.2.2.2.2.2)]) (Lc' := [w_Model E a o (x.1, x.2.1, x.2.2.1, x.2.2.2.1, x.2.2.2.2.1, x.2.2.2.2.2.1, x.2.2.2.2.2.2.1, x.2.2.2.2.2.2.2.1, x.2.2.2.2.2.2.2.2.1, x.2.2.2.2.2.2.2.2.2.1, x.2.2.2.2.2.2.2.2.2.2.1, x.2.2.2.2.2.2.2.2.2.2.2.1, x.2.2.2.2.2.2.2.2.2.2.2.2.1, x.2.2.2.2.2.2.2.2.2.2.2.2.2.1, x.2.2.2.2.2.2.2.2.2.2.2.2.2.2.1, i3, x.2.2.2.2.2.2.2.2.2.2.2.2.2.2.2.2.1, x.2.2.2.2.2.2.2.2.2.2.2.2.2.2.2.2.2)]) (L' := [w_Model E a o (x.1, x.2.1, x.2.2.1, x.2.2.2.1, x.2.2.2.2.1, x.2.2.2.2.2.1, x.2.2.2.2.2.2.1, x.2.2.2.2.2.2.2.1, x.2.2.2.2.2.2.2.2.1, x.2.2.2.2.2.2.2.2.2.1, x.2.2.2.2.2.2.2.2.2.2.1, x.2.2.2.2.2.2.2.2.2.2.2.1, x.2.2.2.2.2.2.2.2.2.2.2.2.1, x.2.2.2.2.2.2.2.2.2.2.2.2.2.1, x.2.2.2.2.2.2.2.2.2.2.2.2.2.2.1, i3, x.2.2.2.2.2.2.2.2.2.2.2.2.2.2.2.2.1, x.2.2.2.2.2.2.2.2.2.2.2.2.2.2.2.2.2)]) (rv := q9) (va_runV (As := []) (rest := [.int (10 * i2)]) ⟨hx, hb, hml, hown, ha⟩ (k_X11_here l E a o (x.1, x.2.1, x.2.2.1, x.2.2.2.1, x.2.2.2.2.1, x.2.2.2.2.2.1, x.2.2.2.2.2.2.1, x.2.2.2.2.2.2.2.1, x.2.2.2.2.2.2.2.2.1, x.2.2.2.2.2.2.2.2.2.1, x.2.2.2.2.2.2.2.2.2.2.1, x.2.2.2.2.2.2.2.2.2.2.2.1, x.2.2.2.2.2.2.2.2.2.2.2.2.1, x.2.2.2.2.2.2.2.2.2.2.2.2.2.1, x.2.2.2.2.2.2.2.2.2.2.2.2.2.2.1, i3, x.2.2.2.2.2.2.2.2.2.2.2.2.2.2.2.2.1, x.2.2.2.2.2.2.2.2.2.2.2.2.2.2.2.2.2) q9 hq9 H.size) (cwV 0 ha (gi_V (fun _ h => h) mw2038 mw2040 mw60 mw87 mw2041) rfl rfl rfl hv_X11_here ⟨(Nat.le_of_ble_eq_true rfl), (Nat.le_of_ble_eq_true rfl)⟩) ⟨pre_blind, va_recv hst.k (fr_P hP [0] rfl) (ci := 13) (q0 := 0) rfl rfl, pre_at hP hD hS hz hzs hst [0] (by decide) rfl rfl⟩ rfl rfl hl.1 rfl (lv_room (Nat.le_of_ble_eq_true rfl)) dX11_digits_37 ⟨(Nat.le_of_ble_eq_true rfl), (Nat.le_of_ble_eq_true rfl)⟩) hP hD hS hA [0] (by decide) rfl rfl rfl rfl (fun H locs hP hD hS => ?_)
            refine lv_iadd hx hb dX11_digits_40 ?_
            refine lv_bipush (v := 48) hx hb dX11_digits_41 (by decide) ?_
            refine lv_isub hx hb dX11_digits_43 ?_
            refine lv_topi (fun v10 ev10 => ?_)
            have hF := q_lti ev10 hF
            refine lv_istore_n (lv' := [(3, .int v10), (4, .int i1), (0, .ref (a o)), (1, .int p1), (2, .int p2)]) hx hb dX11_digits_44 rfl hl (by decide) rfl (fun ls hl => ?_)
            refine lv_aload_n hx hb dX11_digits_45 rfl (lv_at hl 2 rfl) ?_
            refine lv_dup hx hb dX11_digits_46 rfl ?_
            refine va_get (D := E.1) (ci := 13) (v := .int i3) (C := RX11) (T := TX11) (N := 18) hx hb ha in_X11 hown hst.k hP 0 rfl rfl 15 (by decide) (ha _ mw1651) (fun _ h9 => h9) rfl dX11_digits_47 ?_
            refine lv_iconst (v := 1) hx hb dX11_digits_50 (by decide) ?_
            refine lv_iadd hx hb dX11_digits_51 ?_
            refine va_put (D := E.1) (ci := 13) (v := .int (i3 + 1)) (ty := .int) (C := RX11) (T := TX11) (N := 18) hx hb ha in_X11 tyX11 tyX11_ok nmX11 hown hst.k hP hD hS 0 rfl rfl 15 (by decide) (ha _ mw1651) (fun _ h9 => h9) rfl (tyX11_ok 15 (by decide)) rfl rfl (Nat.le_of_ble_eq_true rfl) dX11_digits_52 (fun H locs hP hD hS => ?_)
            have hP : va_P E.1 vwCl (List.flatten [w_Model E a o (x.1, x.2.1, x.2.2.1, x.2.2.2.1, x.2.2.2.2.1, x.2.2.2.2.2.1, x.2.2.2.2.2.2.1, x.2.2.2.2.2.2.2.1, x.2.2.2.2.2.2.2.2.1, x.2.2.2.2.2.2.2.2.2.1, x.2.2.2.2.2.2.2.2.2.2.1, x.2.2.2.2.2.2.2.2.2.2.2.1, x.2.2.2.2.2.2.2.2.2.2.2.2.1, x.2.2.2.2.2.2.2.2.2.2.2.2.2.1, x.2.2.2.2.2.2.2.2.2.2.2.2.2.2.1, i3 + 1, x.2.2.2.2.2.2.2.2.2.2.2.2.2.2.2.2.1, x.2.2.2.2.2.2.2.2.2.2.2.2.2.2.2.2.2)]) H := hP
            have hD : va_D A (List.flatten [w_Model E a o (x.1, x.2.1, x.2.2.1, x.2.2.2.1, x.2.2.2.2.1, x.2.2.2.2.2.1, x.2.2.2.2.2.2.1, x.2.2.2.2.2.2.2.1, x.2.2.2.2.2.2.2.2.1, x.2.2.2.2.2.2.2.2.2.1, x.2.2.2.2.2.2.2.2.2.2.1, x.2.2.2.2.2.2.2.2.2.2.2.1, x.2.2.2.2.2.2.2.2.2.2.2.2.1, x.2.2.2.2.2.2.2.2.2.2.2.2.2.1, x.2.2.2.2.2.2.2.2.2.2.2.2.2.2.1, i3 + 1, x.2.2.2.2.2.2.2.2.2.2.2.2.2.2.2.2.1, x.2.2.2.2.2.2.2.2.2.2.2.2.2.2.2.2.2)]) := hD
            obtain ⟨v11, ev11⟩ : ∃ y : Int32, y = i1 + 1 := ⟨_, rfl⟩
            have hF := q_lti ev11 hF
            refine lv_iinc (v := v11) (lv' := [(4, .int v11), (3, .int v10), (0, .ref (a o)), (1, .int p1), (2, .int p2)]) hx hb dX11_digits_55 hl (k := 1) rfl (by rw [ev11]; rfl) (by decide) rfl (fun ls hl => ?_)
            refine lv_goto (tgt := 5) hx hb dX11_digits_58 (by decide) ?_
            exact ih5 v11 v10 (i3 + 1) H locs ls hF hP hD hS (lv_sub hl [0, 1, 2, 3, 4] rfl)
  refine key5 _ ?_ _ 0 0 x.2.2.2.2.2.2.2.2.2.2.2.2.2.2.2.1 H locs ls hF hP hD hS (lv_sub hl [0, 1, 2, 3, 4] rfl)
  intro y4 y5 y6 H locs ls hF hP hD hS hl
  refine lv_aload_n hx hb dX11_digits_61 rfl (lv_at hl 2 rfl) ?_
  refine lv_aload_n hx hb dX11_digits_62 rfl (lv_at hl 2 rfl) ?_
  refine va_get (D := E.1) (ci := 13) (v := .int x.2.2.2.2.2.2.2.2.2.2.2.2.2.2.2.2.1) (C := RX11) (T := TX11) (N := 18) hx hb ha in_X11 hown hst.k hP 0 rfl rfl 16 (by decide) (ha _ mw1652) (fun _ h9 => h9) rfl dX11_digits_63 ?_
  obtain ⟨J80, hJ80, hF⟩ := q_jn hF
  have jJ80 : ∀ (j12 : Int32), ∀ (H : Heap) (locs : List Loc) (ls : Array Slot), J80 j12 = some res → va_P E.1 vwCl (List.flatten [w_Model E a o (x.1, x.2.1, x.2.2.1, x.2.2.2.1, x.2.2.2.2.1, x.2.2.2.2.2.1, x.2.2.2.2.2.2.1, x.2.2.2.2.2.2.2.1, x.2.2.2.2.2.2.2.2.1, x.2.2.2.2.2.2.2.2.2.1, x.2.2.2.2.2.2.2.2.2.2.1, x.2.2.2.2.2.2.2.2.2.2.2.1, x.2.2.2.2.2.2.2.2.2.2.2.2.1, x.2.2.2.2.2.2.2.2.2.2.2.2.2.1, x.2.2.2.2.2.2.2.2.2.2.2.2.2.2.1, y6, x.2.2.2.2.2.2.2.2.2.2.2.2.2.2.2.2.1, x.2.2.2.2.2.2.2.2.2.2.2.2.2.2.2.2.2)]) H → va_D A (List.flatten [w_Model E a o (x.1, x.2.1, x.2.2.1, x.2.2.2.1, x.2.2.2.2.1, x.2.2.2.2.2.1, x.2.2.2.2.2.2.1, x.2.2.2.2.2.2.2.1, x.2.2.2.2.2.2.2.2.1, x.2.2.2.2.2.2.2.2.2.1, x.2.2.2.2.2.2.2.2.2.2.1, x.2.2.2.2.2.2.2.2.2.2.2.1, x.2.2.2.2.2.2.2.2.2.2.2.2.1, x.2.2.2.2.2.2.2.2.2.2.2.2.2.1, x.2.2.2.2.2.2.2.2.2.2.2.2.2.2.1, y6, x.2.2.2.2.2.2.2.2.2.2.2.2.2.2.2.2.1, x.2.2.2.2.2.2.2.2.2.2.2.2.2.2.2.2.2)]) → va_S A s.heap H locs → lv_has ls 5 [(3, .int y5)] → W p l e rm_X11_digits s m args below meth c H locs 0 0 Q (F0 m 80 ls [.int j12, .ref (a o)]) := by
    intro j12 H locs ls hF hP hD hS hl
    rw [hJ80] at hF
    obtain ⟨g13, hF⟩ := q_gdi hF
    refine va_put (D := E.1) (ci := 13) (v := .int j12) (ty := .boolean) (C := RX11) (T := TX11) (N := 18) hx hb ha in_X11 tyX11 tyX11_ok nmX11 hown hst.k hP hD hS 0 rfl rfl 16 (by decide) (ha _ mw1652) (fun _ h9 => h9) rfl (tyX11_ok 16 (by decide)) (nz_b g13) (fz_b g13) (Nat.le_of_ble_eq_true rfl) dX11_digits_80 (fun H locs hP hD hS => ?_)
    have hP : va_P E.1 vwCl (List.flatten [w_Model E a o (x.1, x.2.1, x.2.2.1, x.2.2.2.1, x.2.2.2.2.1, x.2.2.2.2.2.1, x.2.2.2.2.2.2.1, x.2.2.2.2.2.2.2.1, x.2.2.2.2.2.2.2.2.1, x.2.2.2.2.2.2.2.2.2.1, x.2.2.2.2.2.2.2.2.2.2.1, x.2.2.2.2.2.2.2.2.2.2.2.1, x.2.2.2.2.2.2.2.2.2.2.2.2.1, x.2.2.2.2.2.2.2.2.2.2.2.2.2.1, x.2.2.2.2.2.2.2.2.2.2.2.2.2.2.1, y6, j12, x.2.2.2.2.2.2.2.2.2.2.2.2.2.2.2.2.2)]) H := hP
    have hD : va_D A (List.flatten [w_Model E a o (x.1, x.2.1, x.2.2.1, x.2.2.2.1, x.2.2.2.2.1, x.2.2.2.2.2.1, x.2.2.2.2.2.2.1, x.2.2.2.2.2.2.2.1, x.2.2.2.2.2.2.2.2.1, x.2.2.2.2.2.2.2.2.2.1, x.2.2.2.2.2.2.2.2.2.2.1, x.2.2.2.2.2.2.2.2.2.2.2.1, x.2.2.2.2.2.2.2.2.2.2.2.2.1, x.2.2.2.2.2.2.2.2.2.2.2.2.2.1, x.2.2.2.2.2.2.2.2.2.2.2.2.2.2.1, y6, j12, x.2.2.2.2.2.2.2.2.2.2.2.2.2.2.2.2.2)]) := hD
    refine lv_iload_n hx hb dX11_digits_83 rfl (lv_at hl 0 rfl) ?_
    obtain rfl := Option.some.inj hF
    exact en_i hQ (Nat.le_of_ble_eq_true rfl) (Nat.le_of_ble_eq_true rfl) hx hb hr hlocks hP hD hS rfl dX11_digits_84
  refine lv_if_ne (tgt := 75) hx hb dX11_digits_66 (by decide) (fun c66 => ?_) (fun c66 => ?_)
  · have hF := q_brn c66 hF
    refine lv_iconst (v := 1) hx hb dX11_digits_75 (by decide) ?_
    refine lv_goto (tgt := 80) hx hb dX11_digits_76 (by decide) ?_
    exact jJ80 1 H locs ls hF hP hD hS (lv_sub hl [1] rfl)
  · have hF := q_brp c66 hF
    refine lv_iload hx hb dX11_digits_69 (lv_at hl 0 rfl) ?_
    refine lv_iload_n hx hb dX11_digits_71 rfl (lv_at hl 3 rfl) ?_
    refine lv_icmp_ge (tgt := 79) hx hb dX11_digits_72 (by decide) (fun c72 => ?_) (fun c72 => ?_)
    · have hF := q_brp c72 hF
      refine lv_iconst (v := 0) hx hb dX11_digits_79 (by decide) ?_
      exact jJ80 0 H locs ls hF hP hD hS (lv_sub hl [1] rfl)
    · have hF := q_brn c72 hF
      refine lv_iconst (v := 1) hx hb dX11_digits_75 (by decide) ?_
      refine lv_goto (tgt := 80) hx hb dX11_digits_76 (by decide) ?_
      exact jJ80 1 H locs ls hF hP hD hS (lv_sub hl [1] rfl)

/-! X11_afterBlank -/
theorem dX11_afterBlank_0 : decode cX11_afterBlank 0 = .ok (.aload_n 0, 1) := by decide +kernel
theorem dX11_afterBlank_1 : decode cX11_afterBlank 1 = .ok (.bipush 32, 2) := by decide +kernel
theorem dX11_afterBlank_3 : decode cX11_afterBlank 3 = .ok (.invokevirtual 198, 3) := by decide +kernel
theorem dX11_afterBlank_6 : decode cX11_afterBlank 6 = .ok (.aload_n 0, 1) := by decide +kernel
theorem dX11_afterBlank_7 : decode cX11_afterBlank 7 = .ok (.iload_n 1, 1) := by decide +kernel
theorem dX11_afterBlank_8 : decode cX11_afterBlank 8 = .ok (.iload_n 2, 1) := by decide +kernel
theorem dX11_afterBlank_9 : decode cX11_afterBlank 9 = .ok (.invokevirtual 201, 3) := by decide +kernel
theorem dX11_afterBlank_12 : decode cX11_afterBlank 12 = .ok (.ireturn, 1) := by decide +kernel
def f_X11_afterBlank (x_buffer : (Nat → Int32)) (x_typed : Int32) (x_spot : Int32) (x_isWrong : Int32) (p1 : Int32) (p2 : Int32) : Option (Int32 × Int32 × Int32) :=
  q_bd (f_X11_needs x_buffer x_typed x_spot x_isWrong 32) (fun q1 =>
  q_bd (f_X11_digits x_buffer x_typed q1.1 q1.2 p1 p2) (fun q2 =>
  some (q2.1, q2.2.1, q2.2.2)))
theorem hv_X11_afterBlank : yX11_afterBlank.cls = RX11 ∧ yX11_afterBlank.cls ≠ "java/lang/invoke/MethodHandle" ∧ yX11_afterBlank.cls ≠ "java/lang/invoke/VarHandle" ∧ (parseMethodDescriptor yX11_afterBlank.desc).map (fun d => d.parameters.length) = some 2 := by decide +kernel
abbrev rm_X11_afterBlank : Room := { frames := 2, cells := 0, slots := 0, locals := 46 }
set_option maxHeartbeats 4000000 in
set_option maxRecDepth 100000 in
theorem k_X11_afterBlank (l : Launch) (E : ET) (a : Nat → Nat) (o : Nat) (x : Model_t) (p1 : Int32) (p2 : Int32) (res : Int32 × Int32 × Int32) (hF : f_X11_afterBlank x.2.2.2.2.2.2.1 x.2.2.2.2.2.2.2.1 x.2.2.2.2.2.2.2.2.2.2.2.2.2.2.2.1 x.2.2.2.2.2.2.2.2.2.2.2.2.2.2.2.2.1 p1 p2 = some res) (sz : Nat) : CtI l yX11_afterBlank (mws yX11_afterBlank cX11_afterBlank 3 (some .int)) rm_X11_afterBlank 0 0 [.ref (a o), .int p1, .int p2] E (bl_Model E a o x) res.1 (bl_Model E a o (x.1, x.2.1, x.2.2.1, x.2.2.2.1, x.2.2.2.2.1, x.2.2.2.2.2.1, x.2.2.2.2.2.2.1, x.2.2.2.2.2.2.2.1, x.2.2.2.2.2.2.2.2.1, x.2.2.2.2.2.2.2.2.2.1, x.2.2.2.2.2.2.2.2.2.2.1, x.2.2.2.2.2.2.2.2.2.2.2.1, x.2.2.2.2.2.2.2.2.2.2.2.2.1, x.2.2.2.2.2.2.2.2.2.2.2.2.2.1, x.2.2.2.2.2.2.2.2.2.2.2.2.2.2.1, res.2.1, res.2.2, x.2.2.2.2.2.2.2.2.2.2.2.2.2.2.2.2.2)) sz := by
  refine mk_M (by decide +kernel) (Nat.le_of_ble_eq_true rfl) ?_
  intro p e s m below meth c A args Q ls hAe hsz hQ hx hb hr hml hin ha hown hlocks hA hz hzs hst hP hD hS hl
  have hown : s.vm.findClass RX11 = some m.cls := hown
  rw [hAe] at hQ
  subst hsz
  have hP : va_P E.1 vwCl (List.flatten [w_Model E a o x]) s.heap := hP
  have hD : va_D A (List.flatten [w_Model E a o x]) := hD
  have hl : lv_has ls 3 [(0, .ref (a o)), (1, .int p1), (2, .int p2)] := hl
  generalize hHe : s.heap = H at hP
  have hS : va_S A s.heap H [] := by rw [← hHe]; exact hS
  generalize ([] : List Loc) = locs at hS ⊢
  unfold f_X11_afterBlank at hF
  refine lv_aload_n hx hb dX11_afterBlank_0 rfl (lv_at hl 0 rfl) ?_
  refine lv_bipush (v := 32) hx hb dX11_afterBlank_1 (by decide) ?_
  obtain ⟨q1, hq1, hF⟩ := q_bdi hF
  refine cl_v (Lc := [w_Model E a o x]) (Lc' := [w_Model E a o (x.1, x.2.1, x.2.2.1, x.2.2.2.1, x.2.2.2.2.1, x.2.2.2.2.2.1, x.2.2.2.2.2.2.1, x.2.2.2.2.2.2.2.1, x.2.2.2.2.2.2.2.2.1, x.2.2.2.2.2.2.2.2.2.1, x.2.2.2.2.2.2.2.2.2.2.1, x.2.2.2.2.2.2.2.2.2.2.2.1, x.2.2.2.2.2.2.2.2.2.2.2.2.1, x.2.2.2.2.2.2.2.2.2.2.2.2.2.1, x.2.2.2.2.2.2.2.2.2.2.2.2.2.2.1, q1.1, q1.2, x.2.2.2.2.2.2.2.2.2.2.2.2.2.2.2.2.2)]) (L' := [w_Model E a o (x.1, x.2.1, x.2.2.1, x.2.2.2.1, x.2.2.2.2.1, x.2.2.2.2.2.1, x.2.2.2.2.2.2.1, x.2.2.2.2.2.2.2.1, x.2.2.2.2.2.2.2.2.1, x.2.2.2.2.2.2.2.2.2.1, x.2.2.2.2.2.2.2.2.2.2.1, x.2.2.2.2.2.2.2.2.2.2.2.1, x.2.2.2.2.2.2.2.2.2.2.2.2.1, x.2.2.2.2.2.2.2.2.2.2.2.2.2.1, x.2.2.2.2.2.2.2.2.2.2.2.2.2.2.1, q1.1, q1.2, x.2.2.2.2.2.2.2.2.2.2.2.2.2.2.2.2.2)]) (va_runV (As := [.int 32]) (rest := []) ⟨hx, hb, hml, hown, ha⟩ (k_X11_needs l E a o x 32 q1 hq1 H.size) (cwV 1 ha (gi_V (fun _ h => h) mw2046 mw2048 mw62 mw87 mw2049) rfl rfl rfl hv_X11_needs ⟨(Nat.le_of_ble_eq_true rfl), (Nat.le_of_ble_eq_true rfl)⟩) ⟨pre_blind, va_recv hst.k (fr_P hP [0] rfl) (ci := 13) (q0 := 0) rfl rfl, pre_at hP hD hS hz hzs hst [0] (by decide) rfl rfl⟩ rfl rfl hl.1 rfl (lv_room (Nat.le_of_ble_eq_true rfl)) dX11_afterBlank_3 ⟨(Nat.le_of_ble_eq_true rfl), (Nat.le_of_ble_eq_true rfl)⟩) hP hD hS hA [0] (by decide) rfl rfl rfl rfl (fun H locs hP hD hS => ?_)
  refine lv_aload_n hx hb dX11_afterBlank_6 rfl (lv_at hl 0 rfl) ?_
  refine lv_iload_n hx hb dX11_afterBlank_7 rfl (lv_at hl 1 rfl) ?_
  refine lv_iload_n hx hb dX11_afterBlank_8 rfl (lv_at hl 2 rfl) ?_
  obtain ⟨q2, hq2, hF⟩ := q_bdi hF
  refine cl_i (Lc := [w_Model E a o (x.1, x.2.1, x.2.2.1, x.2.2.2.1, x.2.2.2.2.1, x.2.2.2.2.2.1, x.2.2.2.2.2.2.1, x.2.2.2.2.2.2.2.1, x.2.2.2.2.2.2.2.2.1, x.2.2.2.2.2.2.2.2.2.1, x.2.2.2.2.2.2.2.2.2.2.1, x.2.2.2.2.2.2.2.2.2.2.2.1, x.2.2.2.2.2.2.2.2.2.2.2.2.1, x.2.2.2.2.2.2.2.2.2.2.2.2.2.1, x.2.2.2.2.2.2.2.2.2.2.2.2.2.2.1, q1.1, q1.2, x.2.2.2.2.2.2.2.2.2.2.2.2.2.2.2.2.2)]) (Lc' := [w_Model E a o (x.1, x.2.1, x.2.2.1, x.2.2.2.1, x.2.2.2.2.1, x.2.2.2.2.2.1, x.2.2.2.2.2.2.1, x.2.2.2.2.2.2.2.1, x.2.2.2.2.2.2.2.2.1, x.2.2.2.2.2.2.2.2.2.1, x.2.2.2.2.2.2.2.2.2.2.1, x.2.2.2.2.2.2.2.2.2.2.2.1, x.2.2.2.2.2.2.2.2.2.2.2.2.1, x.2.2.2.2.2.2.2.2.2.2.2.2.2.1, x.2.2.2.2.2.2.2.2.2.2.2.2.2.2.1, q2.2.1, q2.2.2, x.2.2.2.2.2.2.2.2.2.2.2.2.2.2.2.2.2)]) (L' := [w_Model E a o (x.1, x.2.1, x.2.2.1, x.2.2.2.1, x.2.2.2.2.1, x.2.2.2.2.2.1, x.2.2.2.2.2.2.1, x.2.2.2.2.2.2.2.1, x.2.2.2.2.2.2.2.2.1, x.2.2.2.2.2.2.2.2.2.1, x.2.2.2.2.2.2.2.2.2.2.1, x.2.2.2.2.2.2.2.2.2.2.2.1, x.2.2.2.2.2.2.2.2.2.2.2.2.1, x.2.2.2.2.2.2.2.2.2.2.2.2.2.1, x.2.2.2.2.2.2.2.2.2.2.2.2.2.2.1, q2.2.1, q2.2.2, x.2.2.2.2.2.2.2.2.2.2.2.2.2.2.2.2.2)]) (rv := q2.1) (va_runV (As := [.int p1, .int p2]) (rest := []) ⟨hx, hb, hml, hown, ha⟩ (k_X11_digits l E a o (x.1, x.2.1, x.2.2.1, x.2.2.2.1, x.2.2.2.2.1, x.2.2.2.2.2.1, x.2.2.2.2.2.2.1, x.2.2.2.2.2.2.2.1, x.2.2.2.2.2.2.2.2.1, x.2.2.2.2.2.2.2.2.2.1, x.2.2.2.2.2.2.2.2.2.2.1, x.2.2.2.2.2.2.2.2.2.2.2.1, x.2.2.2.2.2.2.2.2.2.2.2.2.1, x.2.2.2.2.2.2.2.2.2.2.2.2.2.1, x.2.2.2.2.2.2.2.2.2.2.2.2.2.2.1, q1.1, q1.2, x.2.2.2.2.2.2.2.2.2.2.2.2.2.2.2.2.2) p1 p2 q2 hq2 H.size) (cwV 2 ha (gi_V (fun _ h => h) mw2054 mw2056 mw64 mw87 mw2057) rfl rfl rfl hv_X11_digits ⟨(Nat.le_of_ble_eq_true rfl), (Nat.le_of_ble_eq_true rfl)⟩) ⟨pre_blind, va_recv hst.k (fr_P hP [0] rfl) (ci := 13) (q0 := 0) rfl rfl, pre_at hP hD hS hz hzs hst [0] (by decide) rfl rfl⟩ rfl rfl hl.1 rfl (lv_room (Nat.le_of_ble_eq_true rfl)) dX11_afterBlank_9 ⟨(Nat.le_of_ble_eq_true rfl), (Nat.le_of_ble_eq_true rfl)⟩) hP hD hS hA [0] (by decide) rfl rfl rfl rfl (fun H locs hP hD hS => ?_)
  obtain rfl := Option.some.inj hF
  exact en_i hQ (Nat.le_of_ble_eq_true rfl) (Nat.le_of_ble_eq_true rfl) hx hb hr hlocks hP hD hS rfl dX11_afterBlank_12

/-! X11_signed -/
theorem dX11_signed_0 : decode cX11_signed 0 = .ok (.aload_n 0, 1) := by decide +kernel
theorem dX11_signed_1 : decode cX11_signed 1 = .ok (.getfield 190, 3) := by decide +kernel
theorem dX11_signed_4 : decode cX11_signed 4 = .ok (.ifCond .ne 16, 3) := by decide +kernel
theorem dX11_signed_7 : decode cX11_signed 7 = .ok (.aload_n 0, 1) := by decide +kernel
theorem dX11_signed_8 : decode cX11_signed 8 = .ok (.invokevirtual 194, 3) := by decide +kernel
theorem dX11_signed_11 : decode cX11_signed 11 = .ok (.bipush 45, 2) := by decide +kernel
theorem dX11_signed_13 : decode cX11_signed 13 = .ok (.if_icmp .ne 7, 3) := by decide +kernel
theorem dX11_signed_16 : decode cX11_signed 16 = .ok (.iconst 1, 1) := by decide +kernel
theorem dX11_signed_17 : decode cX11_signed 17 = .ok (.goto 4, 3) := by decide +kernel
theorem dX11_signed_20 : decode cX11_signed 20 = .ok (.iconst 0, 1) := by decide +kernel
theorem dX11_signed_21 : decode cX11_signed 21 = .ok (.istore_n 1, 1) := by decide +kernel
theorem dX11_signed_22 : decode cX11_signed 22 = .ok (.aload_n 0, 1) := by decide +kernel
theorem dX11_signed_23 : decode cX11_signed 23 = .ok (.iload_n 1, 1) := by decide +kernel
theorem dX11_signed_24 : decode cX11_signed 24 = .ok (.ifCond .eq 8, 3) := by decide +kernel
theorem dX11_signed_27 : decode cX11_signed 27 = .ok (.bipush 45, 2) := by decide +kernel
theorem dX11_signed_29 : decode cX11_signed 29 = .ok (.goto 5, 3) := by decide +kernel
theorem dX11_signed_32 : decode cX11_signed 32 = .ok (.bipush 43, 2) := by decide +kernel
theorem dX11_signed_34 : decode cX11_signed 34 = .ok (.invokevirtual 198, 3) := by decide +kernel
theorem dX11_signed_37 : decode cX11_signed 37 = .ok (.aload_n 0, 1) := by decide +kernel
theorem dX11_signed_38 : decode cX11_signed 38 = .ok (.iconst 1, 1) := by decide +kernel
theorem dX11_signed_39 : decode cX11_signed 39 = .ok (.iconst 2, 1) := by decide +kernel
theorem dX11_signed_40 : decode cX11_signed 40 = .ok (.invokevirtual 201, 3) := by decide +kernel
theorem dX11_signed_43 : decode cX11_signed 43 = .ok (.istore_n 2, 1) := by decide +kernel
theorem dX11_signed_44 : decode cX11_signed 44 = .ok (.iload_n 1, 1) := by decide +kernel
theorem dX11_signed_45 : decode cX11_signed 45 = .ok (.ifCond .eq 8, 3) := by decide +kernel
theorem dX11_signed_48 : decode cX11_signed 48 = .ok (.iload_n 2, 1) := by decide +kernel
theorem dX11_signed_49 : decode cX11_signed 49 = .ok (.ineg, 1) := by decide +kernel
theorem dX11_signed_50 : decode cX11_signed 50 = .ok (.goto 4, 3) := by decide +kernel
theorem dX11_signed_53 : decode cX11_signed 53 = .ok (.iload_n 2, 1) := by decide +kernel
theorem dX11_signed_54 : decode cX11_signed 54 = .ok (.ireturn, 1) := by decide +kernel
def f_X11_signed (x_buffer : (Nat → Int32)) (x_typed : Int32) (x_spot : Int32) (x_isWrong : Int32) : Option (Int32 × Int32 × Int32) :=
  q_lt (fun (j1 : Int32) =>
  q_lt (fun (j2 : Int32) =>
  q_bd (f_X11_needs x_buffer x_typed x_spot x_isWrong j2) (fun q3 =>
  q_bd (f_X11_digits x_buffer x_typed q3.1 q3.2 1 2) (fun q4 =>
  q_br (j1 = 0) (
  some (q4.1, q4.2.1, q4.2.2)) (
  some (-q4.1, q4.2.1, q4.2.2))))) (fun (J34 : Int32 → Option (Int32 × Int32 × Int32)) =>
  q_br (j1 = 0) (
  J34 43) (
  J34 45))) (fun (J21 : Int32 → Option (Int32 × Int32 × Int32)) =>
  q_br (x_isWrong = 0) (
  q_bd (f_X11_here x_buffer x_typed x_spot) (fun q5 =>
  q_br (q5 = 45) (
  J21 1) (
  J21 0))) (
  J21 0))
theorem hv_X11_signed : yX11_signed.cls = RX11 ∧ yX11_signed.cls ≠ "java/lang/invoke/MethodHandle" ∧ yX11_signed.cls ≠ "java/lang/invoke/VarHandle" ∧ (parseMethodDescriptor yX11_signed.desc).map (fun d => d.parameters.length) = some 0 := by decide +kernel
abbrev rm_X11_signed : Room := { frames := 2, cells := 0, slots := 0, locals := 46 }
set_option maxHeartbeats 4000000 in
set_option maxRecDepth 100000 in
theorem k_X11_signed (l : Launch) (E : ET) (a : Nat → Nat) (o : Nat) (x : Model_t) (res : Int32 × Int32 × Int32) (hF : f_X11_signed x.2.2.2.2.2.2.1 x.2.2.2.2.2.2.2.1 x.2.2.2.2.2.2.2.2.2.2.2.2.2.2.2.1 x.2.2.2.2.2.2.2.2.2.2.2.2.2.2.2.2.1 = some res) (sz : Nat) : CtI l yX11_signed (mws yX11_signed cX11_signed 3 (some .int)) rm_X11_signed 0 0 [.ref (a o)] E (bl_Model E a o x) res.1 (bl_Model E a o (x.1, x.2.1, x.2.2.1, x.2.2.2.1, x.2.2.2.2.1, x.2.2.2.2.2.1, x.2.2.2.2.2.2.1, x.2.2.2.2.2.2.2.1, x.2.2.2.2.2.2.2.2.1, x.2.2.2.2.2.2.2.2.2.1, x.2.2.2.2.2.2.2.2.2.2.1, x.2.2.2.2.2.2.2.2.2.2.2.1, x.2.2.2.2.2.2.2.2.2.2.2.2.1, x.2.2.2.2.2.2.2.2.2.2.2.2.2.1, x.2.2.2.2.2.2.2.2.2.2.2.2.2.2.1, res.2.1, res.2.2, x.2.2.2.2.2.2.2.2.2.2.2.2.2.2.2.2.2)) sz := by
  refine mk_M (by decide +kernel) (Nat.le_of_ble_eq_true rfl) ?_
  intro p e s m below meth c A args Q ls hAe hsz hQ hx hb hr hml hin ha hown hlocks hA hz hzs hst hP hD hS hl
  have hown : s.vm.findClass RX11 = some m.cls := hown
  rw [hAe] at hQ
  subst hsz
  have hP : va_P E.1 vwCl (List.flatten [w_Model E a o x]) s.heap := hP
  have hD : va_D A (List.flatten [w_Model E a o x]) := hD
  have hl : lv_has ls 3 [(0, .ref (a o))] := hl
  generalize hHe : s.heap = H at hP
  have hS : va_S A s.heap H [] := by rw [← hHe]; exact hS
  generalize ([] : List Loc) = locs at hS ⊢
  unfold f_X11_signed at hF
  refine lv_aload_n hx hb dX11_signed_0 rfl (lv_at hl 0 rfl) ?_
  refine va_get (D := E.1) (ci := 13) (v := .int x.2.2.2.2.2.2.2.2.2.2.2.2.2.2.2.2.1) (C := RX11) (T := TX11) (N := 18) hx hb ha in_X11 hown hst.k hP 0 rfl rfl 16 (by decide) (ha _ mw1652) (fun _ h9 => h9) rfl dX11_signed_1 ?_
  obtain ⟨J21, hJ21, hF⟩ := q_jn hF
  have jJ21 : ∀ (j1 : Int32), ∀ (H : Heap) (locs : List Loc) (ls : Array Slot), J21 j1 = some res → va_P E.1 vwCl (List.flatten [w_Model E a o x]) H → va_D A (List.flatten [w_Model E a o x]) → va_S A s.heap H locs → lv_has ls 3 [(0, .ref (a o))] → W p l e rm_X11_signed s m args below meth c H locs 0 0 Q (F0 m 21 ls [.int j1]) := by
    intro j1 H locs ls hF hP hD hS hl
    rw [hJ21] at hF
    refine lv_istore_n (lv' := [(1, .int j1), (0, .ref (a o))]) hx hb dX11_signed_21 rfl hl (by decide) rfl (fun ls hl => ?_)
    refine lv_aload_n hx hb dX11_signed_22 rfl (lv_at hl 1 rfl) ?_
    refine lv_iload_n hx hb dX11_signed_23 rfl (lv_at hl 0 rfl) ?_
    obtain ⟨J34, hJ34, hF⟩ := q_jn hF
    have jJ34 : ∀ (j2 : Int32), ∀ (H : Heap) (locs : List Loc) (ls : Array Slot), J34 j2 = some res → va_P E.1 vwCl (List.flatten [w_Model E a o x]) H → va_D A (List.flatten [w_Model E a o x]) → va_S A s.heap H locs → lv_has ls 3 [(1, .int j1), (0, .ref (a o))] → W p l e rm_X11_signed s m args below meth c H locs 0 0 Q (F0 m 34 ls [.int j2, .ref (a o)]) := by
      intro j2 H locs ls hF hP hD hS hl
      rw [hJ34] at hF
      obtain ⟨q3, hq3, hF⟩ := q_bdi hF
      refine cl_v (Lc := [w_Model E a o x]) (Lc' := [w_Model E a o (x.1, x.2.1, x.2.2.1, x.2.2.2.1, x.2.2.2.2.1, x.2.2.2.2.2.1, x.2.2.2.2.2.2.1, x.2.2.2.2.2.2.2.1, x.2.2.2.2.2.2.2.2.1, x.2.2.2.2.2.2.2.2.2.1, x.2.2.2.2.2.2.2.2.2.2.1, x.2.2.2.2.2.2.2.2.2.2.2.1, x.2.2.2.2.2.2.2.2.2.2.2.2.1, x.2.2.2.2.2.2.2.2.2.2.2.2.2.1, x.2.2.2.2.2.2.2.2.2.2.2.2.2.2.1, q3.1, q3.2, x.2.2.2.2.2.2.2.2.2.2.2.2.2.2.2.2.2)]) (L' := [w_Model E a o (x.1, x.2.1, x.2.2.1, x.2.2.2.1, x.2.2.2.2.1, x.2.2.2.2.2.1, x.2.2.2.2.2.2.1, x.2.2.2.2.2.2.2.1, x.2.2.2.2.2.2.2.2.1, x.2.2.2.2.2.2.2.2.2.1, x.2.2.2.2.2.2.2.2.2.2.1, x.2.2.2.2.2.2.2.2.2.2.2.1, x.2.2.2.2.2.2.2.2.2.2.2.2.1, x.2.2.2.2.2.2.2.2.2.2.2.2.2.1, x.2.2.2.2.2.2.2.2.2.2.2.2.2.2.1, q3.1, q3.2, x.2.2.2.2.2.2.2.2.2.2.2.2.2.2.2.2.2)]) (va_runV (As := [.int j2]) (rest := []) ⟨hx, hb, hml, hown, ha⟩ (k_X11_needs l E a o x j2 q3 hq3 H.size) (cwV 1 ha (gi_V (fun _ h => h) mw2046 mw2048 mw62 mw87 mw2049) rfl rfl rfl hv_X11_needs ⟨(Nat.le_of_ble_eq_true rfl), (Nat.le_of_ble_eq_true rfl)⟩) ⟨pre_blind, va_recv hst.k (fr_P hP [0] rfl) (ci := 13) (q0 := 0) rfl rfl, pre_at hP hD hS hz hzs hst [0] (by decide) rfl rfl⟩ rfl rfl hl.1 rfl (lv_room (Nat.le_of_ble_eq_true rfl)) dX11_signed_34 ⟨(Nat.le_of_ble_eq_true rfl), (Nat.le_of_ble_eq_true rfl)⟩) hP hD hS hA [0] (by decide) rfl rfl rfl rfl (fun H locs hP hD hS => ?_)
      refine lv_aload_n hx hb dX11_signed_37 rfl (lv_at hl 1 rfl) ?_
      refine lv_iconst (v := 1) hx hb dX11_signed_38 (by decide) ?_
      refine lv_iconst (v := 2) hx hb dX11_signed_39 (by decide) ?_
      obtain ⟨q4, hq4, hF⟩ := q_bdi hF
      refine cl_i (Lc := [w_Model E a o (x.1, x.2.1, x.2.2.1, x.2.2.2.1, x.2.2.2.2.1, x.2.2.2.2.2.1, x.2.2.2.2.2.2.1, x.2.2.2.2.2.2.2.1, x.2.2.2.2.2.2.2.2.1, x.2.2.2.2.2.2.2.2.2.1, x.2.2.2.2.2.2.2.2.2.2.1, x.2.2.2.2.2.2.2.2.2.2.2.1, x.2.2.2.2.2.2.2.2.2.2.2.2.1, x.2.2.2.2.2.2.2.2.2.2.2.2.2.1, x.2.2.2.2.2.2.2.2.2.2.2.2.2.2.1, q3.1, q3.2, x.2.2.2.2.2.2.2.2.2.2.2.2.2.2.2.2.2)]) (Lc' := [w_Model E a o (x.1, x.2.1, x.2.2.1, x.2.2.2.1, x.2.2.2.2.1, x.2.2.2.2.2.1, x.2.2.2.2.2.2.1, x.2.2.2.2.2.2.2.1, x.2.2.2.2.2.2.2.2.1, x.2.2.2.2.2.2.2.2.2.1, x.2.2.2.2.2.2.2.2.2.2.1, x.2.2.2.2.2.2.2.2.2.2.2.1, x.2.2.2.2.2.2.2.2.2.2.2.2.1, x.2.2.2.2.2.2.2.2.2.2.2.2.2.1, x.2.2.2.2.2.2.2.2.2.2.2.2.2.2.1, q4.2.1, q4.2.2, x.2.2.2.2.2.2.2.2.2.2.2.2.2.2.2.2.2)]) (L' := [w_Model E a o (x.1, x.2.1, x.2.2.1, x.2.2.2.1, x.2.2.2.2.1, x.2.2.2.2.2.1, x.2.2.2.2.2.2.1, x.2.2.2.2.2.2.2.1, x.2.2.2.2.2.2.2.2.1, x.2.2.2.2.2.2.2.2.2.1, x.2.2.2.2.2.2.2.2.2.2.1, x.2.2.2.2.2.2.2.2.2.2.2.1, x.2.2.2.2.2.2.2.2.2.2.2.2.1, x.2.2.2.2.2.2.2.2.2.2.2.2.2.1, x.2.2.2.2.2.2.2.2.2.2.2.2.2.2.1, q4.2.1, q4.2.2, x.2.2.2.2.2.2.2.2.2.2.2.2.2.2.2.2.2)]) (rv := q4.1) (va_runV (As := [.int 1, .int 2]) (rest := []) ⟨hx, hb, hml, hown, ha⟩ (k_X11_digits l E a o (x.1, x.2.1, x.2.2.1, x.2.2.2.1, x.2.2.2.2.1, x.2.2.2.2.2.1, x.2.2.2.2.2.2.1, x.2.2.2.2.2.2.2.1, x.2.2.2.2.2.2.2.2.1, x.2.2.2.2.2.2.2.2.2.1, x.2.2.2.2.2.2.2.2.2.2.1, x.2.2.2.2.2.2.2.2.2.2.2.1, x.2.2.2.2.2.2.2.2.2.2.2.2.1, x.2.2.2.2.2.2.2.2.2.2.2.2.2.1, x.2.2.2.2.2.2.2.2.2.2.2.2.2.2.1, q3.1, q3.2, x.2.2.2.2.2.2.2.2.2.2.2.2.2.2.2.2.2) 1 2 q4 hq4 H.size) (cwV 2 ha (gi_V (fun _ h => h) mw2054 mw2056 mw64 mw87 mw2057) rfl rfl rfl hv_X11_digits ⟨(Nat.le_of_ble_eq_true rfl), (Nat.le_of_ble_eq_true rfl)⟩) ⟨pre_blind, va_recv hst.k (fr_P hP [0] rfl) (ci := 13) (q0 := 0) rfl rfl, pre_at hP hD hS hz hzs hst [0] (by decide) rfl rfl⟩ rfl rfl hl.1 rfl (lv_room (Nat.le_of_ble_eq_true rfl)) dX11_signed_40 ⟨(Nat.le_of_ble_eq_true rfl), (Nat.le_of_ble_eq_true rfl)⟩) hP hD hS hA [0] (by decide) rfl rfl rfl rfl (fun H locs hP hD hS => ?_)
      refine lv_istore_n (lv' := [(2, .int q4.1), (1, .int j1), (0, .ref (a o))]) hx hb dX11_signed_43 rfl hl (by decide) rfl (fun ls hl => ?_)
      refine lv_iload_n hx hb dX11_signed_44 rfl (lv_at hl 1 rfl) ?_
      refine lv_if_eq (tgt := 53) hx hb dX11_signed_45 (by decide) (fun c45 => ?_) (fun c45 => ?_)
      · have hF := q_brp c45 hF
        refine lv_iload_n hx hb dX11_signed_53 rfl (lv_at hl 0 rfl) ?_
        obtain rfl := Option.some.inj hF
        exact en_i hQ (Nat.le_of_ble_eq_true rfl) (Nat.le_of_ble_eq_true rfl) hx hb hr hlocks hP hD hS rfl dX11_signed_54
      · have hF := q_brn c45 hF
        refine lv_iload_n hx hb dX11_signed_48 rfl (lv_at hl 0 rfl) ?_
        refine lv_ineg hx hb dX11_signed_49 ?_
        refine lv_goto (tgt := 54) hx hb dX11_signed_50 (by decide) ?_
        obtain rfl := Option.some.inj hF
        exact en_i hQ (Nat.le_of_ble_eq_true rfl) (Nat.le_of_ble_eq_true rfl) hx hb hr hlocks hP hD hS rfl dX11_signed_54
    refine lv_if_eq (tgt := 32) hx hb dX11_signed_24 (by decide) (fun c24 => ?_) (fun c24 => ?_)
    · have hF := q_brp c24 hF
      refine lv_bipush (v := 43) hx hb dX11_signed_32 (by decide) ?_
      exact jJ34 43 H locs ls hF hP hD hS (lv_sub hl [0, 1] rfl)
    · have hF := q_brn c24 hF
      refine lv_bipush (v := 45) hx hb dX11_signed_27 (by decide) ?_
      refine lv_goto (tgt := 34) hx hb dX11_signed_29 (by decide) ?_
      exact jJ34 45 H locs ls hF hP hD hS (lv_sub hl [0, 1] rfl)
  refine lv_if_ne (tgt := 20) hx hb dX11_signed_4 (by decide) (fun c4 => ?_) (fun c4 => ?_)
  · have hF := q_brn c4 hF
    refine lv_iconst (v := 0) hx hb dX11_signed_20 (by decide) ?_
    exact jJ21 0 H locs ls hF hP hD hS (lv_sub hl [0] rfl)
  · have hF := q_brp c4 hF
    refine lv_aload_n hx hb dX11_signed_7 rfl (lv_at hl 0 rfl) ?_
    obtain ⟨q5, hq5, hF⟩ := q_bdi hF
    refine cl_i (Lc := [w_Model E a o x]) (Lc' := [w_Model E a o x]) (L' := [w_Model E a o x]) (rv := q5) (va_runV (As := []) (rest := []) ⟨hx, hb, hml, hown, ha⟩ (k_X11_here l E a o x q5 hq5 H.size) (cwV 0 ha (gi_V (fun _ h => h) mw2038 mw2040 mw60 mw87 mw2041) rfl rfl rfl hv_X11_here ⟨(Nat.le_of_ble_eq_true rfl), (Nat.le_of_ble_eq_true rfl)⟩) ⟨pre_blind, va_recv hst.k (fr_P hP [0] rfl) (ci := 13) (q0 := 0) rfl rfl, pre_at hP hD hS hz hzs hst [0] (by decide) rfl rfl⟩ rfl rfl hl.1 rfl (lv_room (Nat.le_of_ble_eq_true rfl)) dX11_signed_8 ⟨(Nat.le_of_ble_eq_true rfl), (Nat.le_of_ble_eq_true rfl)⟩) hP hD hS hA [0] (by decide) rfl rfl rfl rfl (fun H locs hP hD hS => ?_)
    refine lv_bipush (v := 45) hx hb dX11_signed_11 (by decide) ?_
    refine lv_icmp_ne (tgt := 20) hx hb dX11_signed_13 (by decide) (fun c13 => ?_) (fun c13 => ?_)
    · have hF := q_brn c13 hF
      refine lv_iconst (v := 0) hx hb dX11_signed_20 (by decide) ?_
      exact jJ21 0 H locs ls hF hP hD hS (lv_sub hl [0] rfl)
    · have hF := q_brp c13 hF
      refine lv_iconst (v := 1) hx hb dX11_signed_16 (by decide) ?_
      refine lv_goto (tgt := 21) hx hb dX11_signed_17 (by decide) ?_
      exact jJ21 1 H locs ls hF hP hD hS (lv_sub hl [0] rfl)

/-! X11_parsesT -/
theorem dX11_parsesT_0 : decode cX11_parsesT 0 = .ok (.aload_n 0, 1) := by decide +kernel
theorem dX11_parsesT_1 : decode cX11_parsesT 1 = .ok (.invokevirtual 194, 3) := by decide +kernel
theorem dX11_parsesT_4 : decode cX11_parsesT 4 = .ok (.bipush 117, 2) := by decide +kernel
theorem dX11_parsesT_6 : decode cX11_parsesT 6 = .ok (.if_icmp .ne 50, 3) := by decide +kernel
theorem dX11_parsesT_9 : decode cX11_parsesT 9 = .ok (.aload_n 0, 1) := by decide +kernel
theorem dX11_parsesT_10 : decode cX11_parsesT 10 = .ok (.getfield 39, 3) := by decide +kernel
theorem dX11_parsesT_13 : decode cX11_parsesT 13 = .ok (.iload_n 1, 1) := by decide +kernel
theorem dX11_parsesT_14 : decode cX11_parsesT 14 = .ok (.bipush 117, 2) := by decide +kernel
theorem dX11_parsesT_16 : decode cX11_parsesT 16 = .ok (.iastore, 1) := by decide +kernel
theorem dX11_parsesT_17 : decode cX11_parsesT 17 = .ok (.aload_n 0, 1) := by decide +kernel
theorem dX11_parsesT_18 : decode cX11_parsesT 18 = .ok (.bipush 117, 2) := by decide +kernel
theorem dX11_parsesT_20 : decode cX11_parsesT 20 = .ok (.bipush 110, 2) := by decide +kernel
theorem dX11_parsesT_22 : decode cX11_parsesT 22 = .ok (.bipush 101, 2) := by decide +kernel
theorem dX11_parsesT_24 : decode cX11_parsesT 24 = .ok (.invokevirtual 204, 3) := by decide +kernel
theorem dX11_parsesT_27 : decode cX11_parsesT 27 = .ok (.aload_n 0, 1) := by decide +kernel
theorem dX11_parsesT_28 : decode cX11_parsesT 28 = .ok (.getfield 39, 3) := by decide +kernel
theorem dX11_parsesT_31 : decode cX11_parsesT 31 = .ok (.iload_n 1, 1) := by decide +kernel
theorem dX11_parsesT_32 : decode cX11_parsesT 32 = .ok (.iconst 1, 1) := by decide +kernel
theorem dX11_parsesT_33 : decode cX11_parsesT 33 = .ok (.iadd, 1) := by decide +kernel
theorem dX11_parsesT_34 : decode cX11_parsesT 34 = .ok (.aload_n 0, 1) := by decide +kernel
theorem dX11_parsesT_35 : decode cX11_parsesT 35 = .ok (.iconst 1, 1) := by decide +kernel
theorem dX11_parsesT_36 : decode cX11_parsesT 36 = .ok (.iconst 2, 1) := by decide +kernel
theorem dX11_parsesT_37 : decode cX11_parsesT 37 = .ok (.invokevirtual 208, 3) := by decide +kernel
theorem dX11_parsesT_40 : decode cX11_parsesT 40 = .ok (.iastore, 1) := by decide +kernel
theorem dX11_parsesT_41 : decode cX11_parsesT 41 = .ok (.aload_n 0, 1) := by decide +kernel
theorem dX11_parsesT_42 : decode cX11_parsesT 42 = .ok (.getfield 39, 3) := by decide +kernel
theorem dX11_parsesT_45 : decode cX11_parsesT 45 = .ok (.iload_n 1, 1) := by decide +kernel
theorem dX11_parsesT_46 : decode cX11_parsesT 46 = .ok (.iconst 2, 1) := by decide +kernel
theorem dX11_parsesT_47 : decode cX11_parsesT 47 = .ok (.iadd, 1) := by decide +kernel
theorem dX11_parsesT_48 : decode cX11_parsesT 48 = .ok (.aload_n 0, 1) := by decide +kernel
theorem dX11_parsesT_49 : decode cX11_parsesT 49 = .ok (.invokevirtual 211, 3) := by decide +kernel
theorem dX11_parsesT_52 : decode cX11_parsesT 52 = .ok (.iastore, 1) := by decide +kernel
theorem dX11_parsesT_53 : decode cX11_parsesT 53 = .ok (.goto 116, 3) := by decide +kernel
theorem dX11_parsesT_56 : decode cX11_parsesT 56 = .ok (.aload_n 0, 1) := by decide +kernel
theorem dX11_parsesT_57 : decode cX11_parsesT 57 = .ok (.bipush 111, 2) := by decide +kernel
theorem dX11_parsesT_59 : decode cX11_parsesT 59 = .ok (.invokevirtual 198, 3) := by decide +kernel
theorem dX11_parsesT_62 : decode cX11_parsesT 62 = .ok (.aload_n 0, 1) := by decide +kernel
theorem dX11_parsesT_63 : decode cX11_parsesT 63 = .ok (.getfield 190, 3) := by decide +kernel
theorem dX11_parsesT_66 : decode cX11_parsesT 66 = .ok (.ifCond .ne 63, 3) := by decide +kernel
theorem dX11_parsesT_69 : decode cX11_parsesT 69 = .ok (.aload_n 0, 1) := by decide +kernel
theorem dX11_parsesT_70 : decode cX11_parsesT 70 = .ok (.invokevirtual 194, 3) := by decide +kernel
theorem dX11_parsesT_73 : decode cX11_parsesT 73 = .ok (.bipush 108, 2) := by decide +kernel
theorem dX11_parsesT_75 : decode cX11_parsesT 75 = .ok (.if_icmp .ne 54, 3) := by decide +kernel
theorem dX11_parsesT_78 : decode cX11_parsesT 78 = .ok (.aload_n 0, 1) := by decide +kernel
theorem dX11_parsesT_79 : decode cX11_parsesT 79 = .ok (.getfield 39, 3) := by decide +kernel
theorem dX11_parsesT_82 : decode cX11_parsesT 82 = .ok (.iload_n 1, 1) := by decide +kernel
theorem dX11_parsesT_83 : decode cX11_parsesT 83 = .ok (.bipush 108, 2) := by decide +kernel
theorem dX11_parsesT_85 : decode cX11_parsesT 85 = .ok (.iastore, 1) := by decide +kernel
theorem dX11_parsesT_86 : decode cX11_parsesT 86 = .ok (.aload_n 0, 1) := by decide +kernel
theorem dX11_parsesT_87 : decode cX11_parsesT 87 = .ok (.bipush 108, 2) := by decide +kernel
theorem dX11_parsesT_89 : decode cX11_parsesT 89 = .ok (.bipush 101, 2) := by decide +kernel
theorem dX11_parsesT_91 : decode cX11_parsesT 91 = .ok (.bipush 114, 2) := by decide +kernel
theorem dX11_parsesT_93 : decode cX11_parsesT 93 = .ok (.invokevirtual 204, 3) := by decide +kernel
theorem dX11_parsesT_96 : decode cX11_parsesT 96 = .ok (.aload_n 0, 1) := by decide +kernel
theorem dX11_parsesT_97 : decode cX11_parsesT 97 = .ok (.bipush 97, 2) := by decide +kernel
theorem dX11_parsesT_99 : decode cX11_parsesT 99 = .ok (.bipush 110, 2) := by decide +kernel
theorem dX11_parsesT_101 : decode cX11_parsesT 101 = .ok (.bipush 99, 2) := by decide +kernel
theorem dX11_parsesT_103 : decode cX11_parsesT 103 = .ok (.invokevirtual 204, 3) := by decide +kernel
theorem dX11_parsesT_106 : decode cX11_parsesT 106 = .ok (.aload_n 0, 1) := by decide +kernel
theorem dX11_parsesT_107 : decode cX11_parsesT 107 = .ok (.bipush 101, 2) := by decide +kernel
theorem dX11_parsesT_109 : decode cX11_parsesT 109 = .ok (.invokevirtual 198, 3) := by decide +kernel
theorem dX11_parsesT_112 : decode cX11_parsesT 112 = .ok (.aload_n 0, 1) := by decide +kernel
theorem dX11_parsesT_113 : decode cX11_parsesT 113 = .ok (.getfield 39, 3) := by decide +kernel
theorem dX11_parsesT_116 : decode cX11_parsesT 116 = .ok (.iload_n 1, 1) := by decide +kernel
theorem dX11_parsesT_117 : decode cX11_parsesT 117 = .ok (.iconst 1, 1) := by decide +kernel
theorem dX11_parsesT_118 : decode cX11_parsesT 118 = .ok (.iadd, 1) := by decide +kernel
theorem dX11_parsesT_119 : decode cX11_parsesT 119 = .ok (.aload_n 0, 1) := by decide +kernel
theorem dX11_parsesT_120 : decode cX11_parsesT 120 = .ok (.iconst 1, 1) := by decide +kernel
theorem dX11_parsesT_121 : decode cX11_parsesT 121 = .ok (.iconst 2, 1) := by decide +kernel
theorem dX11_parsesT_122 : decode cX11_parsesT 122 = .ok (.invokevirtual 208, 3) := by decide +kernel
theorem dX11_parsesT_125 : decode cX11_parsesT 125 = .ok (.iastore, 1) := by decide +kernel
theorem dX11_parsesT_126 : decode cX11_parsesT 126 = .ok (.goto 43, 3) := by decide +kernel
theorem dX11_parsesT_129 : decode cX11_parsesT 129 = .ok (.aload_n 0, 1) := by decide +kernel
theorem dX11_parsesT_130 : decode cX11_parsesT 130 = .ok (.bipush 110, 2) := by decide +kernel
theorem dX11_parsesT_132 : decode cX11_parsesT 132 = .ok (.invokevirtual 198, 3) := by decide +kernel
theorem dX11_parsesT_135 : decode cX11_parsesT 135 = .ok (.aload_n 0, 1) := by decide +kernel
theorem dX11_parsesT_136 : decode cX11_parsesT 136 = .ok (.bipush 101, 2) := by decide +kernel
theorem dX11_parsesT_138 : decode cX11_parsesT 138 = .ok (.invokevirtual 198, 3) := by decide +kernel
theorem dX11_parsesT_141 : decode cX11_parsesT 141 = .ok (.aload_n 0, 1) := by decide +kernel
theorem dX11_parsesT_142 : decode cX11_parsesT 142 = .ok (.getfield 39, 3) := by decide +kernel
theorem dX11_parsesT_145 : decode cX11_parsesT 145 = .ok (.iload_n 1, 1) := by decide +kernel
theorem dX11_parsesT_146 : decode cX11_parsesT 146 = .ok (.iconst 1, 1) := by decide +kernel
theorem dX11_parsesT_147 : decode cX11_parsesT 147 = .ok (.iadd, 1) := by decide +kernel
theorem dX11_parsesT_148 : decode cX11_parsesT 148 = .ok (.aload_n 0, 1) := by decide +kernel
theorem dX11_parsesT_149 : decode cX11_parsesT 149 = .ok (.iconst 1, 1) := by decide +kernel
theorem dX11_parsesT_150 : decode cX11_parsesT 150 = .ok (.iconst 1, 1) := by decide +kernel
theorem dX11_parsesT_151 : decode cX11_parsesT 151 = .ok (.invokevirtual 208, 3) := by decide +kernel
theorem dX11_parsesT_154 : decode cX11_parsesT 154 = .ok (.iastore, 1) := by decide +kernel
theorem dX11_parsesT_155 : decode cX11_parsesT 155 = .ok (.aload_n 0, 1) := by decide +kernel
theorem dX11_parsesT_156 : decode cX11_parsesT 156 = .ok (.getfield 39, 3) := by decide +kernel
theorem dX11_parsesT_159 : decode cX11_parsesT 159 = .ok (.iload_n 1, 1) := by decide +kernel
theorem dX11_parsesT_160 : decode cX11_parsesT 160 = .ok (.iconst 2, 1) := by decide +kernel
theorem dX11_parsesT_161 : decode cX11_parsesT 161 = .ok (.iadd, 1) := by decide +kernel
theorem dX11_parsesT_162 : decode cX11_parsesT 162 = .ok (.aload_n 0, 1) := by decide +kernel
theorem dX11_parsesT_163 : decode cX11_parsesT 163 = .ok (.iconst 1, 1) := by decide +kernel
theorem dX11_parsesT_164 : decode cX11_parsesT 164 = .ok (.iconst 2, 1) := by decide +kernel
theorem dX11_parsesT_165 : decode cX11_parsesT 165 = .ok (.invokevirtual 208, 3) := by decide +kernel
theorem dX11_parsesT_168 : decode cX11_parsesT 168 = .ok (.iastore, 1) := by decide +kernel
theorem dX11_parsesT_169 : decode cX11_parsesT 169 = .ok (.return_, 1) := by decide +kernel
def f_X11_parsesT (x_buffer : (Nat → Int32)) (x_typed : Int32) (x_spot : Int32) (x_isWrong : Int32) (x_parsed : (Nat → Int32)) (p1 : Int32) : Option (Int32 × Int32 × (Nat → Int32)) :=
  q_bd (f_X11_here x_buffer x_typed x_spot) (fun q1 =>
  q_br (q1 = 117) (
  q_gd (q_in p1 180) (
  q_bd (f_X11_needsThree x_buffer x_typed x_spot x_isWrong 117 110 101) (fun q17 =>
  q_bd (f_X11_afterBlank x_buffer x_typed q17.1 q17.2 1 2) (fun q18 =>
  q_gd (q_in (p1 + 1) 180) (
  q_bd (f_X11_signed x_buffer x_typed q18.2.1 q18.2.2) (fun q20 =>
  q_gd (q_in (p1 + 2) 180) (
  some (q20.2.1, q20.2.2, upd (upd (upd x_parsed (p1.toNatClampNeg) 117) ((p1 + 1).toNatClampNeg) q18.1) ((p1 + 2).toNatClampNeg) q20.1)))))))) (
  q_bd (f_X11_needs x_buffer x_typed x_spot x_isWrong 111) (fun q2 =>
  q_lt (fun (_ : Unit) =>
  q_bd (f_X11_needs x_buffer x_typed q2.1 q2.2 110) (fun q3 =>
  q_bd (f_X11_needs x_buffer x_typed q3.1 q3.2 101) (fun q4 =>
  q_bd (f_X11_afterBlank x_buffer x_typed q4.1 q4.2 1 1) (fun q5 =>
  q_gd (q_in (p1 + 1) 180) (
  q_bd (f_X11_afterBlank x_buffer x_typed q5.2.1 q5.2.2 1 2) (fun q7 =>
  q_gd (q_in (p1 + 2) 180) (
  some (q7.2.1, q7.2.2, upd (upd x_parsed ((p1 + 1).toNatClampNeg) q5.1) ((p1 + 2).toNatClampNeg) q7.1)))))))) (fun (J129 : Unit → Option (Int32 × Int32 × (Nat → Int32))) =>
  q_br (q2.2 = 0) (
  q_bd (f_X11_here x_buffer x_typed q2.1) (fun q9 =>
  q_br (q9 = 108) (
  q_gd (q_in p1 180) (
  q_bd (f_X11_needsThree x_buffer x_typed q2.1 q2.2 108 101 114) (fun q11 =>
  q_bd (f_X11_needsThree x_buffer x_typed q11.1 q11.2 97 110 99) (fun q12 =>
  q_bd (f_X11_needs x_buffer x_typed q12.1 q12.2 101) (fun q13 =>
  q_bd (f_X11_afterBlank x_buffer x_typed q13.1 q13.2 1 2) (fun q14 =>
  q_gd (q_in (p1 + 1) 180) (
  some (q14.2.1, q14.2.2, upd (upd x_parsed (p1.toNatClampNeg) 108) ((p1 + 1).toNatClampNeg) q14.1)))))))) (
  J129 (())))) (
  J129 (()))))))
theorem hv_X11_parsesT : yX11_parsesT.cls = RX11 ∧ yX11_parsesT.cls ≠ "java/lang/invoke/MethodHandle" ∧ yX11_parsesT.cls ≠ "java/lang/invoke/VarHandle" ∧ (parseMethodDescriptor yX11_parsesT.desc).map (fun d => d.parameters.length) = some 1 := by decide +kernel
abbrev rm_X11_parsesT : Room := { frames := 3, cells := 0, slots := 0, locals := 68 }
set_option maxHeartbeats 4000000 in
set_option maxRecDepth 100000 in
theorem k_X11_parsesT (l : Launch) (E : ET) (a : Nat → Nat) (o : Nat) (x : Model_t) (p1 : Int32) (res : Int32 × Int32 × (Nat → Int32)) (hF : f_X11_parsesT x.2.2.2.2.2.2.1 x.2.2.2.2.2.2.2.1 x.2.2.2.2.2.2.2.2.2.2.2.2.2.2.2.1 x.2.2.2.2.2.2.2.2.2.2.2.2.2.2.2.2.1 x.2.2.2.2.2.2.2.2.2.2.2.2.2.2.2.2.2 p1 = some res) (sz : Nat) : CtV l yX11_parsesT (mws yX11_parsesT cX11_parsesT 2 none) rm_X11_parsesT 0 0 [.ref (a o), .int p1] E (bl_Model E a o x) (bl_Model E a o (x.1, x.2.1, x.2.2.1, x.2.2.2.1, x.2.2.2.2.1, x.2.2.2.2.2.1, x.2.2.2.2.2.2.1, x.2.2.2.2.2.2.2.1, x.2.2.2.2.2.2.2.2.1, x.2.2.2.2.2.2.2.2.2.1, x.2.2.2.2.2.2.2.2.2.2.1, x.2.2.2.2.2.2.2.2.2.2.2.1, x.2.2.2.2.2.2.2.2.2.2.2.2.1, x.2.2.2.2.2.2.2.2.2.2.2.2.2.1, x.2.2.2.2.2.2.2.2.2.2.2.2.2.2.1, res.1, res.2.1, res.2.2)) sz := by
  refine mk_M (by decide +kernel) (Nat.le_of_ble_eq_true rfl) ?_
  intro p e s m below meth c A args Q ls hAe hsz hQ hx hb hr hml hin ha hown hlocks hA hz hzs hst hP hD hS hl
  have hown : s.vm.findClass RX11 = some m.cls := hown
  rw [hAe] at hQ
  subst hsz
  have hP : va_P E.1 vwCl (List.flatten [w_Model E a o x]) s.heap := hP
  have hD : va_D A (List.flatten [w_Model E a o x]) := hD
  have hl : lv_has ls 2 [(0, .ref (a o)), (1, .int p1)] := hl
  generalize hHe : s.heap = H at hP
  have hS : va_S A s.heap H [] := by rw [← hHe]; exact hS
  generalize ([] : List Loc) = locs at hS ⊢
  unfold f_X11_parsesT at hF
  refine lv_aload_n hx hb dX11_parsesT_0 rfl (lv_at hl 0 rfl) ?_
  obtain ⟨q1, hq1, hF⟩ := q_bdi hF
  refine cl_i (Lc := [w_Model E a o x]) (Lc' := [w_Model E a o x]) (L' := [w_Model E a o x]) (rv := q1) (va_runV (As := []) (rest := []) ⟨hx, hb, hml, hown, ha⟩ (k_X11_here l E a o x q1 hq1 H.size) (cwV 0 ha (gi_V (fun _ h => h) mw2038 mw2040 mw60 mw87 mw2041) rfl rfl rfl hv_X11_here ⟨(Nat.le_of_ble_eq_true rfl), (Nat.le_of_ble_eq_true rfl)⟩) ⟨pre_blind, va_recv hst.k (fr_P hP [0] rfl) (ci := 13) (q0 := 0) rfl rfl, pre_at hP hD hS hz hzs hst [0] (by decide) rfl rfl⟩ rfl rfl hl.1 rfl (lv_room (Nat.le_of_ble_eq_true rfl)) dX11_parsesT_1 ⟨(Nat.le_of_ble_eq_true rfl), (Nat.le_of_ble_eq_true rfl)⟩) hP hD hS hA [0] (by decide) rfl rfl rfl rfl (fun H locs hP hD hS => ?_)
  refine lv_bipush (v := 117) hx hb dX11_parsesT_4 (by decide) ?_
  refine lv_icmp_ne (tgt := 56) hx hb dX11_parsesT_6 (by decide) (fun c6 => ?_) (fun c6 => ?_)
  · have hF := q_brn c6 hF
    refine lv_aload_n hx hb dX11_parsesT_56 rfl (lv_at hl 0 rfl) ?_
    refine lv_bipush (v := 111) hx hb dX11_parsesT_57 (by decide) ?_
    obtain ⟨q2, hq2, hF⟩ := q_bdi hF
    refine cl_v (Lc := [w_Model E a o x]) (Lc' := [w_Model E a o (x.1, x.2.1, x.2.2.1, x.2.2.2.1, x.2.2.2.2.1, x.2.2.2.2.2.1, x.2.2.2.2.2.2.1, x.2.2.2.2.2.2.2.1, x.2.2.2.2.2.2.2.2.1, x.2.2.2.2.2.2.2.2.2.1, x.2.2.2.2.2.2.2.2.2.2.1, x.2.2.2.2.2.2.2.2.2.2.2.1, x.2.2.2.2.2.2.2.2.2.2.2.2.1, x.2.2.2.2.2.2.2.2.2.2.2.2.2.1, x.2.2.2.2.2.2.2.2.2.2.2.2.2.2.1, q2.1, q2.2, x.2.2.2.2.2.2.2.2.2.2.2.2.2.2.2.2.2)]) (L' := [w_Model E a o (x.1, x.2.1, x.2.2.1, x.2.2.2.1, x.2.2.2.2.1, x.2.2.2.2.2.1, x.2.2.2.2.2.2.1, x.2.2.2.2.2.2.2.1, x.2.2.2.2.2.2.2.2.1, x.2.2.2.2.2.2.2.2.2.1, x.2.2.2.2.2.2.2.2.2.2.1, x.2.2.2.2.2.2.2.2.2.2.2.1, x.2.2.2.2.2.2.2.2.2.2.2.2.1, x.2.2.2.2.2.2.2.2.2.2.2.2.2.1, x.2.2.2.2.2.2.2.2.2.2.2.2.2.2.1, q2.1, q2.2, x.2.2.2.2.2.2.2.2.2.2.2.2.2.2.2.2.2)]) (va_runV (As := [.int 111]) (rest := []) ⟨hx, hb, hml, hown, ha⟩ (k_X11_needs l E a o x 111 q2 hq2 H.size) (cwV 1 ha (gi_V (fun _ h => h) mw2046 mw2048 mw62 mw87 mw2049) rfl rfl rfl hv_X11_needs ⟨(Nat.le_of_ble_eq_true rfl), (Nat.le_of_ble_eq_true rfl)⟩) ⟨pre_blind, va_recv hst.k (fr_P hP [0] rfl) (ci := 13) (q0 := 0) rfl rfl, pre_at hP hD hS hz hzs hst [0] (by decide) rfl rfl⟩ rfl rfl hl.1 rfl (lv_room (Nat.le_of_ble_eq_true rfl)) dX11_parsesT_59 ⟨(Nat.le_of_ble_eq_true rfl), (Nat.le_of_ble_eq_true rfl)⟩) hP hD hS hA [0] (by decide) rfl rfl rfl rfl (fun H locs hP hD hS => ?_)
    refine lv_aload_n hx hb dX11_parsesT_62 rfl (lv_at hl 0 rfl) ?_
    refine va_get (D := E.1) (ci := 13) (v := .int q2.2) (C := RX11) (T := TX11) (N := 18) hx hb ha in_X11 hown hst.k hP 0 rfl rfl 16 (by decide) (ha _ mw1652) (fun _ h9 => h9) rfl dX11_parsesT_63 ?_
    obtain ⟨J129, hJ129, hF⟩ := q_jn hF
    have jJ129 : ∀ (H : Heap) (locs : List Loc) (ls : Array Slot), J129 () = some res → va_P E.1 vwCl (List.flatten [w_Model E a o (x.1, x.2.1, x.2.2.1, x.2.2.2.1, x.2.2.2.2.1, x.2.2.2.2.2.1, x.2.2.2.2.2.2.1, x.2.2.2.2.2.2.2.1, x.2.2.2.2.2.2.2.2.1, x.2.2.2.2.2.2.2.2.2.1, x.2.2.2.2.2.2.2.2.2.2.1, x.2.2.2.2.2.2.2.2.2.2.2.1, x.2.2.2.2.2.2.2.2.2.2.2.2.1, x.2.2.2.2.2.2.2.2.2.2.2.2.2.1, x.2.2.2.2.2.2.2.2.2.2.2.2.2.2.1, q2.1, q2.2, x.2.2.2.2.2.2.2.2.2.2.2.2.2.2.2.2.2)]) H → va_D A (List.flatten [w_Model E a o (x.1, x.2.1, x.2.2.1, x.2.2.2.1, x.2.2.2.2.1, x.2.2.2.2.2.1, x.2.2.2.2.2.2.1, x.2.2.2.2.2.2.2.1, x.2.2.2.2.2.2.2.2.1, x.2.2.2.2.2.2.2.2.2.1, x.2.2.2.2.2.2.2.2.2.2.1, x.2.2.2.2.2.2.2.2.2.2.2.1, x.2.2.2.2.2.2.2.2.2.2.2.2.1, x.2.2.2.2.2.2.2.2.2.2.2.2.2.1, x.2.2.2.2.2.2.2.2.2.2.2.2.2.2.1, q2.1, q2.2, x.2.2.2.2.2.2.2.2.2.2.2.2.2.2.2.2.2)]) → va_S A s.heap H locs → lv_has ls 2 [(0, .ref (a o)), (1, .int p1)] → W p l e rm_X11_parsesT s m args below meth c H locs 0 0 Q (F0 m 129 ls []) := by
      intro  H locs ls hF hP hD hS hl
      rw [hJ129] at hF
      refine lv_aload_n hx hb dX11_parsesT_129 rfl (lv_at hl 0 rfl) ?_
      refine lv_bipush (v := 110) hx hb dX11_parsesT_130 (by decide) ?_
      obtain ⟨q3, hq3, hF⟩ := q_bdi hF
      refine cl_v (Lc := [w_Model E a o (x.1, x.2.1, x.2.2.1, x.2.2.2.1, x.2.2.2.2.1, x.2.2.2.2.2.1, x.2.2.2.2.2.2.1, x.2.2.2.2.2.2.2.1, x.2.2.2.2.2.2.2.2.1, x.2.2.2.2.2.2.2.2.2.1, x.2.2.2.2.2.2.2.2.2.2.1, x.2.2.2.2.2.2.2.2.2.2.2.1, x.2.2.2.2.2.2.2.2.2.2.2.2.1, x.2.2.2.2.2.2.2.2.2.2.2.2.2.1, x.2.2.2.2.2.2.2.2.2.2.2.2.2.2.1, q2.1, q2.2, x.2.2.2.2.2.2.2.2.2.2.2.2.2.2.2.2.2)]) (Lc' := [w_Model E a o (x.1, x.2.1, x.2.2.1, x.2.2.2.1, x.2.2.2.2.1, x.2.2.2.2.2.1, x.2.2.2.2.2.2.1, x.2.2.2.2.2.2.2.1, x.2.2.2.2.2.2.2.2.1, x.2.2.2.2.2.2.2.2.2.1, x.2.2.2.2.2.2.2.2.2.2.1, x.2.2.2.2.2.2.2.2.2.2.2.1, x.2.2.2.2.2.2.2.2.2.2.2.2.1, x.2.2.2.2.2.2.2.2.2.2.2.2.2.1, x.2.2.2.2.2.2.2.2.2.2.2.2.2.2.1, q3.1, q3.2, x.2.2.2.2.2.2.2.2.2.2.2.2.2.2.2.2.2)]) (L' := [w_Model E a o (x.1, x.2.1, x.2.2.1, x.2.2.2.1, x.2.2.2.2.1, x.2.2.2.2.2.1, x.2.2.2.2.2.2.1, x.2.2.2.2.2.2.2.1, x.2.2.2.2.2.2.2.2.1, x.2.2.2.2.2.2.2.2.2.1, x.2.2.2.2.2.2.2.2.2.2.1, x.2.2.2.2.2.2.2.2.2.2.2.1, x.2.2.2.2.2.2.2.2.2.2.2.2.1, x.2.2.2.2.2.2.2.2.2.2.2.2.2.1, x.2.2.2.2.2.2.2.2.2.2.2.2.2.2.1, q3.1, q3.2, x.2.2.2.2.2.2.2.2.2.2.2.2.2.2.2.2.2)]) (va_runV (As := [.int 110]) (rest := []) ⟨hx, hb, hml, hown, ha⟩ (k_X11_needs l E a o (x.1, x.2.1, x.2.2.1, x.2.2.2.1, x.2.2.2.2.1, x.2.2.2.2.2.1, x.2.2.2.2.2.2.1, x.2.2.2.2.2.2.2.1, x.2.2.2.2.2.2.2.2.1, x.2.2.2.2.2.2.2.2.2.1, x.2.2.2.2.2.2.2.2.2.2.1, x.2.2.2.2.2.2.2.2.2.2.2.1, x.2.2.2.2.2.2.2.2.2.2.2.2.1, x.2.2.2.2.2.2.2.2.2.2.2.2.2.1, x.2.2.2.2.2.2.2.2.2.2.2.2.2.2.1, q2.1, q2.2, x.2.2.2.2.2.2.2.2.2.2.2.2.2.2.2.2.2) 110 q3 hq3 H.size) (cwV 1 ha (gi_V (fun _ h => h) mw2046 mw2048 mw62 mw87 mw2049) rfl rfl rfl hv_X11_needs ⟨(Nat.le_of_ble_eq_true rfl), (Nat.le_of_ble_eq_true rfl)⟩) ⟨pre_blind, va_recv hst.k (fr_P hP [0] rfl) (ci := 13) (q0 := 0) rfl rfl, pre_at hP hD hS hz hzs hst [0] (by decide) rfl rfl⟩ rfl rfl hl.1 rfl (lv_room (Nat.le_of_ble_eq_true rfl)) dX11_parsesT_132 ⟨(Nat.le_of_ble_eq_true rfl), (Nat.le_of_ble_eq_true rfl)⟩) hP hD hS hA [0] (by decide) rfl rfl rfl rfl (fun H locs hP hD hS => ?_)
      refine lv_aload_n hx hb dX11_parsesT_135 rfl (lv_at hl 0 rfl) ?_
      refine lv_bipush (v := 101) hx hb dX11_parsesT_136 (by decide) ?_
      obtain ⟨q4, hq4, hF⟩ := q_bdi hF
      refine cl_v (Lc := [w_Model E a o (x.1, x.2.1, x.2.2.1, x.2.2.2.1, x.2.2.2.2.1, x.2.2.2.2.2.1, x.2.2.2.2.2.2.1, x.2.2.2.2.2.2.2.1, x.2.2.2.2.2.2.2.2.1, x.2.2.2.2.2.2.2.2.2.1, x.2.2.2.2.2.2.2.2.2.2.1, x.2.2.2.2.2.2.2.2.2.2.2.1, x.2.2.2.2.2.2.2.2.2.2.2.2.1, x.2.2.2.2.2.2.2.2.2.2.2.2.2.1, x.2.2.2.2.2.2.2.2.2.2.2.2.2.2.1, q3.1, q3.2, x.2.2.2.2.2.2.2.2.2.2.2.2.2.2.2.2.2)]) (Lc' := [w_Model E a o (x.1, x.2.1, x.2.2.1, x.2.2.2.1, x.2.2.2.2.1, x.2.2.2.2.2.1, x.2.2.2.2.2.2.1, x.2.2.2.2.2.2.2.1, x.2.2.2.2.2.2.2.2.1, x.2.2.2.2.2.2.2.2.2.1, x.2.2.2.2.2.2.2.2.2.2.1, x.2.2.2.2.2.2.2.2.2.2.2.1, x.2.2.2.2.2.2.2.2.2.2.2.2.1, x.2.2.2.2.2.2.2.2.2.2.2.2.2.1, x.2.2.2.2.2.2.2.2.2.2.2.2.2.2.1, q4.1, q4.2, x.2.2.2.2.2.2.2.2.2.2.2.2.2.2.2.2.2)]) (L' := [w_Model E a o (x.1, x.2.1, x.2.2.1, x.2.2.2.1, x.2.2.2.2.1, x.2.2.2.2.2.1, x.2.2.2.2.2.2.1, x.2.2.2.2.2.2.2.1, x.2.2.2.2.2.2.2.2.1, x.2.2.2.2.2.2.2.2.2.1, x.2.2.2.2.2.2.2.2.2.2.1, x.2.2.2.2.2.2.2.2.2.2.2.1, x.2.2.2.2.2.2.2.2.2.2.2.2.1, x.2.2.2.2.2.2.2.2.2.2.2.2.2.1, x.2.2.2.2.2.2.2.2.2.2.2.2.2.2.1, q4.1, q4.2, x.2.2.2.2.2.2.2.2.2.2.2.2.2.2.2.2.2)]) (va_runV (As := [.int 101]) (rest := []) ⟨hx, hb, hml, hown, ha⟩ (k_X11_needs l E a o (x.1, x.2.1, x.2.2.1, x.2.2.2.1, x.2.2.2.2.1, x.2.2.2.2.2.1, x.2.2.2.2.2.2.1, x.2.2.2.2.2.2.2.1, x.2.2.2.2.2.2.2.2.1, x.2.2.2.2.2.2.2.2.2.1, x.2.2.2.2.2.2.2.2.2.2.1, x.2.2.2.2.2.2.2.2.2.2.2.1, x.2.2.2.2.2.2.2.2.2.2.2.2.1, x.2.2.2.2.2.2.2.2.2.2.2.2.2.1, x.2.2.2.2.2.2.2.2.2.2.2.2.2.2.1, q3.1, q3.2, x.2.2.2.2.2.2.2.2.2.2.2.2.2.2.2.2.2) 101 q4 hq4 H.size) (cwV 1 ha (gi_V (fun _ h => h) mw2046 mw2048 mw62 mw87 mw2049) rfl rfl rfl hv_X11_needs ⟨(Nat.le_of_ble_eq_true rfl), (Nat.le_of_ble_eq_true rfl)⟩) ⟨pre_blind, va_recv hst.k (fr_P hP [0] rfl) (ci := 13) (q0 := 0) rfl rfl, pre_at hP hD hS hz hzs hst [0] (by decide) rfl rfl⟩ rfl rfl hl.1 rfl (lv_room (Nat.le_of_ble_eq_true rfl)) dX11_parsesT_138 ⟨(Nat.le_of_ble_eq_true rfl), (Nat.le_of_ble_eq_true rfl)⟩) hP hD hS hA [0] (by decide) rfl rfl rfl rfl (fun H locs hP hD hS => ?_)
      refine lv_aload_n hx hb dX11_parsesT_141 rfl (lv_at hl 0 rfl) ?_
      refine va_get (D := E.1) (ci := 13) (v := .ref (a (o + 8))) (C := RX11) (T := TX11) (N := 18) hx hb ha in_X11 hown hst.k hP 0 rfl rfl 17 (by decide) (ha _ mw1653) (fun _ h9 => h9) rfl dX11_parsesT_142 ?_
      refine lv_iload_n hx hb dX11_parsesT_145 rfl (lv_at hl 1 rfl) ?_
      refine lv_iconst (v := 1) hx hb dX11_parsesT_146 (by decide) ?_
      refine lv_iadd hx hb dX11_parsesT_147 ?_
      refine lv_aload_n hx hb dX11_parsesT_148 rfl (lv_at hl 0 rfl) ?_
      refine lv_iconst (v := 1) hx hb dX11_parsesT_149 (by decide) ?_
      refine lv_iconst (v := 1) hx hb dX11_parsesT_150 (by decide) ?_
      obtain ⟨q5, hq5, hF⟩ := q_bdi hF
      refine cl_i (Lc := [w_Model E a o (x.1, x.2.1, x.2.2.1, x.2.2.2.1, x.2.2.2.2.1, x.2.2.2.2.2.1, x.2.2.2.2.2.2.1, x.2.2.2.2.2.2.2.1, x.2.2.2.2.2.2.2.2.1, x.2.2.2.2.2.2.2.2.2.1, x.2.2.2.2.2.2.2.2.2.2.1, x.2.2.2.2.2.2.2.2.2.2.2.1, x.2.2.2.2.2.2.2.2.2.2.2.2.1, x.2.2.2.2.2.2.2.2.2.2.2.2.2.1, x.2.2.2.2.2.2.2.2.2.2.2.2.2.2.1, q4.1, q4.2, x.2.2.2.2.2.2.2.2.2.2.2.2.2.2.2.2.2)]) (Lc' := [w_Model E a o (x.1, x.2.1, x.2.2.1, x.2.2.2.1, x.2.2.2.2.1, x.2.2.2.2.2.1, x.2.2.2.2.2.2.1, x.2.2.2.2.2.2.2.1, x.2.2.2.2.2.2.2.2.1, x.2.2.2.2.2.2.2.2.2.1, x.2.2.2.2.2.2.2.2.2.2.1, x.2.2.2.2.2.2.2.2.2.2.2.1, x.2.2.2.2.2.2.2.2.2.2.2.2.1, x.2.2.2.2.2.2.2.2.2.2.2.2.2.1, x.2.2.2.2.2.2.2.2.2.2.2.2.2.2.1, q5.2.1, q5.2.2, x.2.2.2.2.2.2.2.2.2.2.2.2.2.2.2.2.2)]) (L' := [w_Model E a o (x.1, x.2.1, x.2.2.1, x.2.2.2.1, x.2.2.2.2.1, x.2.2.2.2.2.1, x.2.2.2.2.2.2.1, x.2.2.2.2.2.2.2.1, x.2.2.2.2.2.2.2.2.1, x.2.2.2.2.2.2.2.2.2.1, x.2.2.2.2.2.2.2.2.2.2.1, x.2.2.2.2.2.2.2.2.2.2.2.1, x.2.2.2.2.2.2.2.2.2.2.2.2.1, x.2.2.2.2.2.2.2.2.2.2.2.2.2.1, x.2.2.2.2.2.2.2.2.2.2.2.2.2.2.1, q5.2.1, q5.2.2, x.2.2.2.2.2.2.2.2.2.2.2.2.2.2.2.2.2)]) (rv := q5.1) (va_runV (As := [.int 1, .int 1]) (rest := [.int (p1 + 1), .ref (a (o + 8))]) ⟨hx, hb, hml, hown, ha⟩ (k_X11_afterBlank l E a o (x.1, x.2.1, x.2.2.1, x.2.2.2.1, x.2.2.2.2.1, x.2.2.2.2.2.1, x.2.2.2.2.2.2.1, x.2.2.2.2.2.2.2.1, x.2.2.2.2.2.2.2.2.1, x.2.2.2.2.2.2.2.2.2.1, x.2.2.2.2.2.2.2.2.2.2.1, x.2.2.2.2.2.2.2.2.2.2.2.1, x.2.2.2.2.2.2.2.2.2.2.2.2.1, x.2.2.2.2.2.2.2.2.2.2.2.2.2.1, x.2.2.2.2.2.2.2.2.2.2.2.2.2.2.1, q4.1, q4.2, x.2.2.2.2.2.2.2.2.2.2.2.2.2.2.2.2.2) 1 1 q5 hq5 H.size) (cwV 2 ha (gi_V (fun _ h => h) mw2050 mw2052 mw63 mw87 mw2053) rfl rfl rfl hv_X11_afterBlank ⟨(Nat.le_of_ble_eq_true rfl), (Nat.le_of_ble_eq_true rfl)⟩) ⟨pre_blind, va_recv hst.k (fr_P hP [0] rfl) (ci := 13) (q0 := 0) rfl rfl, pre_at hP hD hS hz hzs hst [0] (by decide) rfl rfl⟩ rfl rfl hl.1 rfl (lv_room (Nat.le_of_ble_eq_true rfl)) dX11_parsesT_151 ⟨(Nat.le_of_ble_eq_true rfl), (Nat.le_of_ble_eq_true rfl)⟩) hP hD hS hA [0] (by decide) rfl rfl rfl rfl (fun H locs hP hD hS => ?_)
      obtain ⟨g6, hF⟩ := q_gdi hF
      refine vi_iast hx hb hst.k hP hD hS 8 0 rfl rfl (k := (p1 + 1).toNatClampNeg) rfl g6 dX11_parsesT_154 (fun H locs hP hD hS => ?_)
      have hP : va_P E.1 vwCl (List.flatten [w_Model E a o (x.1, x.2.1, x.2.2.1, x.2.2.2.1, x.2.2.2.2.1, x.2.2.2.2.2.1, x.2.2.2.2.2.2.1, x.2.2.2.2.2.2.2.1, x.2.2.2.2.2.2.2.2.1, x.2.2.2.2.2.2.2.2.2.1, x.2.2.2.2.2.2.2.2.2.2.1, x.2.2.2.2.2.2.2.2.2.2.2.1, x.2.2.2.2.2.2.2.2.2.2.2.2.1, x.2.2.2.2.2.2.2.2.2.2.2.2.2.1, x.2.2.2.2.2.2.2.2.2.2.2.2.2.2.1, q5.2.1, q5.2.2, upd x.2.2.2.2.2.2.2.2.2.2.2.2.2.2.2.2.2 ((p1 + 1).toNatClampNeg) q5.1)]) H := hP
      have hD : va_D A (List.flatten [w_Model E a o (x.1, x.2.1, x.2.2.1, x.2.2.2.1, x.2.2.2.2.1, x.2.2.2.2.2.1, x.2.2.2.2.2.2.1, x.2.2.2.2.2.2.2.1, x.2.2.2.2.2.2.2.2.1, x.2.2.2.2.2.2.2.2.2.1, x.2.2.2.2.2.2.2.2.2.2.1, x.2.2.2.2.2.2.2.2.2.2.2.1, x.2.2.2.2.2.2.2.2.2.2.2.2.1, x.2.2.2.2.2.2.2.2.2.2.2.2.2.1, x.2.2.2.2.2.2.2.2.2.2.2.2.2.2.1, q5.2.1, q5.2.2, upd x.2.2.2.2.2.2.2.2.2.2.2.2.2.2.2.2.2 ((p1 + 1).toNatClampNeg) q5.1)]) := hD
      refine lv_aload_n hx hb dX11_parsesT_155 rfl (lv_at hl 0 rfl) ?_
      refine va_get (D := E.1) (ci := 13) (v := .ref (a (o + 8))) (C := RX11) (T := TX11) (N := 18) hx hb ha in_X11 hown hst.k hP 0 rfl rfl 17 (by decide) (ha _ mw1653) (fun _ h9 => h9) rfl dX11_parsesT_156 ?_
      refine lv_iload_n hx hb dX11_parsesT_159 rfl (lv_at hl 1 rfl) ?_
      refine lv_iconst (v := 2) hx hb dX11_parsesT_160 (by decide) ?_
      refine lv_iadd hx hb dX11_parsesT_161 ?_
      refine lv_aload_n hx hb dX11_parsesT_162 rfl (lv_at hl 0 rfl) ?_
      refine lv_iconst (v := 1) hx hb dX11_parsesT_163 (by decide) ?_
      refine lv_iconst (v := 2) hx hb dX11_parsesT_164 (by decide) ?_
      obtain ⟨q7, hq7, hF⟩ := q_bdi hF
      refine cl_i (Lc := [w_Model E a o (x.1, x.2.1, x.2.2.1, x.2.2.2.1, x.2.2.2.2.1, x.2.2.2.2.2.1, x.2.2.2.2.2.2.1, x.2.2.2.2.2.2.2.1, x.2.2.2.2.2.2.2.2.1, x.2.2.2.2.2.2.2.2.2.1, x.2.2.2.2.2.2.2.2.2.2.1, x.2.2.2.2.2.2.2.2.2.2.2.1, x.2.2.2.2.2.2.2.2.2.2.2.2.1, x.2.2.2.2.2.2.2.2.2.2.2.2.2.1, x.2.2.2.2.2.2.2.2.2.2.2.2.2.2.1, q5.2.1, q5.2.2, upd x.2.2.2.2.2.2.2.2.2.2.2.2.2.2.2.2.2 ((p1 + 1).toNatClampNeg) q5.1)]) (Lc' := [w_Model E a o (x.1, x.2.1, x.2.2.1, x.2.2.2.1, x.2.2.2.2.1, x.2.2.2.2.2.1, x.2.2.2.2.2.2.1, x.2.2.2.2.2.2.2.1, x.2.2.2.2.2.2.2.2.1, x.2.2.2.2.2.2.2.2.2.1, x.2.2.2.2.2.2.2.2.2.2.1, x.2.2.2.2.2.2.2.2.2.2.2.1, x.2.2.2.2.2.2.2.2.2.2.2.2.1, x.2.2.2.2.2.2.2.2.2.2.2.2.2.1, x.2.2.2.2.2.2.2.2.2.2.2.2.2.2.1, q7.2.1, q7.2.2, upd x.2.2.2.2.2.2.2.2.2.2.2.2.2.2.2.2.2 ((p1 + 1).toNatClampNeg) q5.1)]) (L' := [w_Model E a o (x.1, x.2.1, x.2.2.1, x.2.2.2.1, x.2.2.2.2.1, x.2.2.2.2.2.1, x.2.2.2.2.2.2.1, x.2.2.2.2.2.2.2.1, x.2.2.2.2.2.2.2.2.1, x.2.2.2.2.2.2.2.2.2.1, x.2.2.2.2.2.2.2.2.2.2.1, x.2.2.2.2.2.2.2.2.2.2.2.1, x.2.2.2.2.2.2.2.2.2.2.2.2.1, x.2.2.2.2.2.2.2.2.2.2.2.2.2.1, x.2.2.2.2.2.2.2.2.2.2.2.2.2.2.1, q7.2.1, q7.2.2, upd x.2.2.2.2.2.2.2.2.2.2.2.2.2.2.2.2.2 ((p1 + 1).toNatClampNeg) q5.1)]) (rv := q7.1) (va_runV (As := [.int 1, .int 2]) (rest := [.int (p1 + 2), .ref (a (o + 8))]) ⟨hx, hb, hml, hown, ha⟩ (k_X11_afterBlank l E a o (x.1, x.2.1, x.2.2.1, x.2.2.2.1, x.2.2.2.2.1, x.2.2.2.2.2.1, x.2.2.2.2.2.2.1, x.2.2.2.2.2.2.2.1, x.2.2.2.2.2.2.2.2.1, x.2.2.2.2.2.2.2.2.2.1, x.2.2.2.2.2.2.2.2.2.2.1, x.2.2.2.2.2.2.2.2.2.2.2.1, x.2.2.2.2.2.2.2.2.2.2.2.2.1, x.2.2.2.2.2.2.2.2.2.2.2.2.2.1, x.2.2.2.2.2.2.2.2.2.2.2.2.2.2.1, q5.2.1, q5.2.2, upd x.2.2.2.2.2.2.2.2.2.2.2.2.2.2.2.2.2 ((p1 + 1).toNatClampNeg) q5.1) 1 2 q7 hq7 H.size) (cwV 2 ha (gi_V (fun _ h => h) mw2050 mw2052 mw63 mw87 mw2053) rfl rfl rfl hv_X11_afterBlank ⟨(Nat.le_of_ble_eq_true rfl), (Nat.le_of_ble_eq_true rfl)⟩) ⟨pre_blind, va_recv hst.k (fr_P hP [0] rfl) (ci := 13) (q0 := 0) rfl rfl, pre_at hP hD hS hz hzs hst [0] (by decide) rfl rfl⟩ rfl rfl hl.1 rfl (lv_room (Nat.le_of_ble_eq_true rfl)) dX11_parsesT_165 ⟨(Nat.le_of_ble_eq_true rfl), (Nat.le_of_ble_eq_true rfl)⟩) hP hD hS hA [0] (by decide) rfl rfl rfl rfl (fun H locs hP hD hS => ?_)
      obtain ⟨g8, hF⟩ := q_gdi hF
      refine vi_iast hx hb hst.k hP hD hS 8 0 rfl rfl (k := (p1 + 2).toNatClampNeg) rfl g8 dX11_parsesT_168 (fun H locs hP hD hS => ?_)
      have hP : va_P E.1 vwCl (List.flatten [w_Model E a o (x.1, x.2.1, x.2.2.1, x.2.2.2.1, x.2.2.2.2.1, x.2.2.2.2.2.1, x.2.2.2.2.2.2.1, x.2.2.2.2.2.2.2.1, x.2.2.2.2.2.2.2.2.1, x.2.2.2.2.2.2.2.2.2.1, x.2.2.2.2.2.2.2.2.2.2.1, x.2.2.2.2.2.2.2.2.2.2.2.1, x.2.2.2.2.2.2.2.2.2.2.2.2.1, x.2.2.2.2.2.2.2.2.2.2.2.2.2.1, x.2.2.2.2.2.2.2.2.2.2.2.2.2.2.1, q7.2.1, q7.2.2, upd (upd x.2.2.2.2.2.2.2.2.2.2.2.2.2.2.2.2.2 ((p1 + 1).toNatClampNeg) q5.1) ((p1 + 2).toNatClampNeg) q7.1)]) H := hP
      have hD : va_D A (List.flatten [w_Model E a o (x.1, x.2.1, x.2.2.1, x.2.2.2.1, x.2.2.2.2.1, x.2.2.2.2.2.1, x.2.2.2.2.2.2.1, x.2.2.2.2.2.2.2.1, x.2.2.2.2.2.2.2.2.1, x.2.2.2.2.2.2.2.2.2.1, x.2.2.2.2.2.2.2.2.2.2.1, x.2.2.2.2.2.2.2.2.2.2.2.1, x.2.2.2.2.2.2.2.2.2.2.2.2.1, x.2.2.2.2.2.2.2.2.2.2.2.2.2.1, x.2.2.2.2.2.2.2.2.2.2.2.2.2.2.1, q7.2.1, q7.2.2, upd (upd x.2.2.2.2.2.2.2.2.2.2.2.2.2.2.2.2.2 ((p1 + 1).toNatClampNeg) q5.1) ((p1 + 2).toNatClampNeg) q7.1)]) := hD
      obtain rfl := Option.some.inj hF
      exact en_v hQ (Nat.le_of_ble_eq_true rfl) (Nat.le_of_ble_eq_true rfl) hx hb hr hlocks hP hD hS dX11_parsesT_169
    refine lv_if_ne (tgt := 129) hx hb dX11_parsesT_66 (by decide) (fun c66 => ?_) (fun c66 => ?_)
    · have hF := q_brn c66 hF
      exact jJ129 H locs ls hF hP hD hS (lv_sub hl [0, 1] rfl)
    · have hF := q_brp c66 hF
      refine lv_aload_n hx hb dX11_parsesT_69 rfl (lv_at hl 0 rfl) ?_
      obtain ⟨q9, hq9, hF⟩ := q_bdi hF
      refine cl_i (Lc := [w_Model E a o (x.1, x.2.1, x.2.2.1, x.2.2.2.1, x.2.2.2.2.1, x.2.2.2.2.2.1, x.2.2.2.2.2.2.1, x.2.2.2.2.2.2.2.1, x.2.2.2.2.2.2.2.2.1, x.2.2.2.2.2.2.2.2.2.1, x.2.2.2.2.2.2.2.2.2.2.1, x.2.2.2.2.2.2.2.2.2.2.2.1, x.2.2.2.2.2.2.2.2.2.2.2.2.1, x.2.2.2.2.2.2.2.2.2.2.2.2.2.1, x.2.2.2.2.2.2.2.2.2.2.2.2.2.2.1, q2.1, q2.2, x.2.2.2.2.2.2.2.2.2.2.2.2.2.2.2.2.2)]) (Lc' := [w_Model E a o (x.1, x.2.1, x.2.2.1, x.2.2.2.1, x.2.2.2.2.1, x.2.2.2.2.2.1, x.2.2.2.2.2.2.1, x.2.2.2.2.2.2.2.1, x.2.2.2.2.2.2.2.2.1, x.2.2.2.2.2.2.2.2.2.1, x.2.2.2.2.2.2.2.2.2.2.1, x.2.2.2.2.2.2.2.2.2.2.2.1, x.2.2.2.2.2.2.2.2.2.2.2.2.1, x.2.2.2.2.2.2.2.2.2.2.2.2.2.1, x.2.2.2.2.2.2.2.2.2.2.2.2.2.2.1, q2.1, q2.2, x.2.2.2.2.2.2.2.2.2.2.2.2.2.2.2.2.2)]) (L' := [w_Model E a o (x.1, x.2.1, x.2.2.1, x.2.2.2.1, x.2.2.2.2.1, x.2.2.2.2.2.1, x.2.2.2.2.2.2.1, x.2.2.2.2.2.2.2.1, x.2.2.2.2.2.2.2.2.1, x.2.2.2.2.2.2.2.2.2.1, x.2.2.2.2.2.2.2.2.2.2.1, x.2.2.2.2.2.2.2.2.2.2.2.1, x.2.2.2.2.2.2.2.2.2.2.2.2.1, x.2.2.2.2.2.2.2.2.2.2.2.2.2.1, x.2.2.2.2.2.2.2.2.2.2.2.2.2.2.1, q2.1, q2.2, x.2.2.2.2.2.2.2.2.2.2.2.2.2.2.2.2.2)]) (rv := q9) (va_runV (As := []) (rest := []) ⟨hx, hb, hml, hown, ha⟩ (k_X11_here l E a o (x.1, x.2.1, x.2.2.1, x.2.2.2.1, x.2.2.2.2.1, x.2.2.2.2.2.1, x.2.2.2.2.2.2.1, x.2.2.2.2.2.2.2.1, x.2.2.2.2.2.2.2.2.1, x.2.2.2.2.2.2.2.2.2.1, x.2.2.2.2.2.2.2.2.2.2.1, x.2.2.2.2.2.2.2.2.2.2.2.1, x.2.2.2.2.2.2.2.2.2.2.2.2.1, x.2.2.2.2.2.2.2.2.2.2.2.2.2.1, x.2.2.2.2.2.2.2.2.2.2.2.2.2.2.1, q2.1, q2.2, x.2.2.2.2.2.2.2.2.2.2.2.2.2.2.2.2.2) q9 hq9 H.size) (cwV 0 ha (gi_V (fun _ h => h) mw2038 mw2040 mw60 mw87 mw2041) rfl rfl rfl hv_X11_here ⟨(Nat.le_of_ble_eq_true rfl), (Nat.le_of_ble_eq_true rfl)⟩) ⟨pre_blind, va_recv hst.k (fr_P hP [0] rfl) (ci := 13) (q0 := 0) rfl rfl, pre_at hP hD hS hz hzs hst [0] (by decide) rfl rfl⟩ rfl rfl hl.1 rfl (lv_room (Nat.le_of_ble_eq_true rfl)) dX11_parsesT_70 ⟨(Nat.le_of_ble_eq_true rfl), (Nat.le_of_ble_eq_true rfl)⟩) hP hD hS hA [0] (by decide) rfl rfl rfl rfl (fun H locs hP hD hS => ?_)
      refine lv_bipush (v := 108) hx hb dX11_parsesT_73 (by decide) ?_
      refine lv_icmp_ne (tgt := 129) hx hb dX11_parsesT_75 (by decide) (fun c75 => ?_) (fun c75 => ?_)
      · have hF := q_brn c75 hF
        exact jJ129 H locs ls hF hP hD hS (lv_sub hl [0, 1] rfl)
      · have hF := q_brp c75 hF
        refine lv_aload_n hx hb dX11_parsesT_78 rfl (lv_at hl 0 rfl) ?_
        refine va_get (D := E.1) (ci := 13) (v := .ref (a (o + 8))) (C := RX11) (T := TX11) (N := 18) hx hb ha in_X11 hown hst.k hP 0 rfl rfl 17 (by decide) (ha _ mw1653) (fun _ h9 => h9) rfl dX11_parsesT_79 ?_
        refine lv_iload_n hx hb dX11_parsesT_82 rfl (lv_at hl 1 rfl) ?_
        refine lv_bipush (v := 108) hx hb dX11_parsesT_83 (by decide) ?_
        obtain ⟨g10, hF⟩ := q_gdi hF
        refine vi_iast hx hb hst.k hP hD hS 8 0 rfl rfl (k := p1.toNatClampNeg) rfl g10 dX11_parsesT_85 (fun H locs hP hD hS => ?_)
        have hP : va_P E.1 vwCl (List.flatten [w_Model E a o (x.1, x.2.1, x.2.2.1, x.2.2.2.1, x.2.2.2.2.1, x.2.2.2.2.2.1, x.2.2.2.2.2.2.1, x.2.2.2.2.2.2.2.1, x.2.2.2.2.2.2.2.2.1, x.2.2.2.2.2.2.2.2.2.1, x.2.2.2.2.2.2.2.2.2.2.1, x.2.2.2.2.2.2.2.2.2.2.2.1, x.2.2.2.2.2.2.2.2.2.2.2.2.1, x.2.2.2.2.2.2.2.2.2.2.2.2.2.1, x.2.2.2.2.2.2.2.2.2.2.2.2.2.2.1, q2.1, q2.2, upd x.2.2.2.2.2.2.2.2.2.2.2.2.2.2.2.2.2 (p1.toNatClampNeg) 108)]) H := hP
        have hD : va_D A (List.flatten [w_Model E a o (x.1, x.2.1, x.2.2.1, x.2.2.2.1, x.2.2.2.2.1, x.2.2.2.2.2.1, x.2.2.2.2.2.2.1, x.2.2.2.2.2.2.2.1, x.2.2.2.2.2.2.2.2.1, x.2.2.2.2.2.2.2.2.2.1, x.2.2.2.2.2.2.2.2.2.2.1, x.2.2.2.2.2.2.2.2.2.2.2.1, x.2.2.2.2.2.2.2.2.2.2.2.2.1, x.2.2.2.2.2.2.2.2.2.2.2.2.2.1, x.2.2.2.2.2.2.2.2.2.2.2.2.2.2.1, q2.1, q2.2, upd x.2.2.2.2.2.2.2.2.2.2.2.2.2.2.2.2.2 (p1.toNatClampNeg) 108)]) := hD
        refine lv_aload_n hx hb dX11_parsesT_86 rfl (lv_at hl 0 rfl) ?_
        refine lv_bipush (v := 108) hx hb dX11_parsesT_87 (by decide) ?_
        refine lv_bipush (v := 101) hx hb dX11_parsesT_89 (by decide) ?_
        refine lv_bipush (v := 114) hx hb dX11_parsesT_91 (by decide) ?_
        obtain ⟨q11, hq11, hF⟩ := q_bdi hF
        refine cl_v (Lc := [w_Model E a o (x.1, x.2.1, x.2.2.1, x.2.2.2.1, x.2.2.2.2.1, x.2.2.2.2.2.1, x.2.2.2.2.2.2.1, x.2.2.2.2.2.2.2.1, x.2.2.2.2.2.2.2.2.1, x.2.2.2.2.2.2.2.2.2.1, x.2.2.2.2.2.2.2.2.2.2.1, x.2.2.2.2.2.2.2.2.2.2.2.1, x.2.2.2.2.2.2.2.2.2.2.2.2.1, x.2.2.2.2.2.2.2.2.2.2.2.2.2.1, x.2.2.2.2.2.2.2.2.2.2.2.2.2.2.1, q2.1, q2.2, upd x.2.2.2.2.2.2.2.2.2.2.2.2.2.2.2.2.2 (p1.toNatClampNeg) 108)]) (Lc' := [w_Model E a o (x.1, x.2.1, x.2.2.1, x.2.2.2.1, x.2.2.2.2.1, x.2.2.2.2.2.1, x.2.2.2.2.2.2.1, x.2.2.2.2.2.2.2.1, x.2.2.2.2.2.2.2.2.1, x.2.2.2.2.2.2.2.2.2.1, x.2.2.2.2.2.2.2.2.2.2.1, x.2.2.2.2.2.2.2.2.2.2.2.1, x.2.2.2.2.2.2.2.2.2.2.2.2.1, x.2.2.2.2.2.2.2.2.2.2.2.2.2.1, x.2.2.2.2.2.2.2.2.2.2.2.2.2.2.1, q11.1, q11.2, upd x.2.2.2.2.2.2.2.2.2.2.2.2.2.2.2.2.2 (p1.toNatClampNeg) 108)]) (L' := [w_Model E a o (x.1, x.2.1, x.2.2.1, x.2.2.2.1, x.2.2.2.2.1, x.2.2.2.2.2.1, x.2.2.2.2.2.2.1, x.2.2.2.2.2.2.2.1, x.2.2.2.2.2.2.2.2.1, x.2.2.2.2.2.2.2.2.2.1, x.2.2.2.2.2.2.2.2.2.2.1, x.2.2.2.2.2.2.2.2.2.2.2.1, x.2.2.2.2.2.2.2.2.2.2.2.2.1, x.2.2.2.2.2.2.2.2.2.2.2.2.2.1, x.2.2.2.2.2.2.2.2.2.2.2.2.2.2.1, q11.1, q11.2, upd x.2.2.2.2.2.2.2.2.2.2.2.2.2.2.2.2.2 (p1.toNatClampNeg) 108)]) (va_runV (As := [.int 108, .int 101, .int 114]) (rest := []) ⟨hx, hb, hml, hown, ha⟩ (k_X11_needsThree l E a o (x.1, x.2.1, x.2.2.1, x.2.2.2.1, x.2.2.2.2.1, x.2.2.2.2.2.1, x.2.2.2.2.2.2.1, x.2.2.2.2.2.2.2.1, x.2.2.2.2.2.2.2.2.1, x.2.2.2.2.2.2.2.2.2.1, x.2.2.2.2.2.2.2.2.2.2.1, x.2.2.2.2.2.2.2.2.2.2.2.1, x.2.2.2.2.2.2.2.2.2.2.2.2.1, x.2.2.2.2.2.2.2.2.2.2.2.2.2.1, x.2.2.2.2.2.2.2.2.2.2.2.2.2.2.1, q2.1, q2.2, upd x.2.2.2.2.2.2.2.2.2.2.2.2.2.2.2.2.2 (p1.toNatClampNeg) 108) 108 101 114 q11 hq11 H.size) (cwV 3 ha (gi_V (fun _ h => h) mw2042 mw2044 mw61 mw87 mw2045) rfl rfl rfl hv_X11_needsThree ⟨(Nat.le_of_ble_eq_true rfl), (Nat.le_of_ble_eq_true rfl)⟩) ⟨pre_blind, va_recv hst.k (fr_P hP [0] rfl) (ci := 13) (q0 := 0) rfl rfl, pre_at hP hD hS hz hzs hst [0] (by decide) rfl rfl⟩ rfl rfl hl.1 rfl (lv_room (Nat.le_of_ble_eq_true rfl)) dX11_parsesT_93 ⟨(Nat.le_of_ble_eq_true rfl), (Nat.le_of_ble_eq_true rfl)⟩) hP hD hS hA [0] (by decide) rfl rfl rfl rfl (fun H locs hP hD hS => ?_)
        refine lv_aload_n hx hb dX11_parsesT_96 rfl (lv_at hl 0 rfl) ?_
        refine lv_bipush (v := 97) hx hb dX11_parsesT_97 (by decide) ?_
        refine lv_bipush (v := 110) hx hb dX11_parsesT_99 (by decide) ?_
        refine lv_bipush (v := 99) hx hb dX11_parsesT_101 (by decide) ?_
        obtain ⟨q12, hq12, hF⟩ := q_bdi hF
        refine cl_v (Lc := [w_Model E a o (x.1, x.2.1, x.2.2.1, x.2.2.2.1, x.2.2.2.2.1, x.2.2.2.2.2.1, x.2.2.2.2.2.2.1, x.2.2.2.2.2.2.2.1, x.2.2.2.2.2.2.2.2.1, x.2.2.2.2.2.2.2.2.2.1, x.2.2.2.2.2.2.2.2.2.2.1, x.2.2.2.2.2.2.2.2.2.2.2.1, x.2.2.2.2.2.2.2.2.2.2.2.2.1, x.2.2.2.2.2.2.2.2.2.2.2.2.2.1, x.2.2.2.2.2.2.2.2.2.2.2.2.2.2.1, q11.1, q11.2, upd x.2.2.2.2.2.2.2.2.2.2.2.2.2.2.2.2.2 (p1.toNatClampNeg) 108)]) (Lc' := [w_Model E a o (x.1, x.2.1, x.2.2.1, x.2.2.2.1, x.2.2.2.2.1, x.2.2.2.2.2.1, x.2.2.2.2.2.2.1, x.2.2.2.2.2.2.2.1, x.2.2.2.2.2.2.2.2.1, x.2.2.2.2.2.2.2.2.2.1, x.2.2.2.2.2.2.2.2.2.2.1, x.2.2.2.2.2.2.2.2.2.2.2.1, x.2.2.2.2.2.2.2.2.2.2.2.2.1, x.2.2.2.2.2.2.2.2.2.2.2.2.2.1, x.2.2.2.2.2.2.2.2.2.2.2.2.2.2.1, q12.1, q12.2, upd x.2.2.2.2.2.2.2.2.2.2.2.2.2.2.2.2.2 (p1.toNatClampNeg) 108)]) (L' := [w_Model E a o (x.1, x.2.1, x.2.2.1, x.2.2.2.1, x.2.2.2.2.1, x.2.2.2.2.2.1, x.2.2.2.2.2.2.1, x.2.2.2.2.2.2.2.1, x.2.2.2.2.2.2.2.2.1, x.2.2.2.2.2.2.2.2.2.1, x.2.2.2.2.2.2.2.2.2.2.1, x.2.2.2.2.2.2.2.2.2.2.2.1, x.2.2.2.2.2.2.2.2.2.2.2.2.1, x.2.2.2.2.2.2.2.2.2.2.2.2.2.1, x.2.2.2.2.2.2.2.2.2.2.2.2.2.2.1, q12.1, q12.2, upd x.2.2.2.2.2.2.2.2.2.2.2.2.2.2.2.2.2 (p1.toNatClampNeg) 108)]) (va_runV (As := [.int 97, .int 110, .int 99]) (rest := []) ⟨hx, hb, hml, hown, ha⟩ (k_X11_needsThree l E a o (x.1, x.2.1, x.2.2.1, x.2.2.2.1, x.2.2.2.2.1, x.2.2.2.2.2.1, x.2.2.2.2.2.2.1, x.2.2.2.2.2.2.2.1, x.2.2.2.2.2.2.2.2.1, x.2.2.2.2.2.2.2.2.2.1, x.2.2.2.2.2.2.2.2.2.2.1, x.2.2.2.2.2.2.2.2.2.2.2.1, x.2.2.2.2.2.2.2.2.2.2.2.2.1, x.2.2.2.2.2.2.2.2.2.2.2.2.2.1, x.2.2.2.2.2.2.2.2.2.2.2.2.2.2.1, q11.1, q11.2, upd x.2.2.2.2.2.2.2.2.2.2.2.2.2.2.2.2.2 (p1.toNatClampNeg) 108) 97 110 99 q12 hq12 H.size) (cwV 3 ha (gi_V (fun _ h => h) mw2042 mw2044 mw61 mw87 mw2045) rfl rfl rfl hv_X11_needsThree ⟨(Nat.le_of_ble_eq_true rfl), (Nat.le_of_ble_eq_true rfl)⟩) ⟨pre_blind, va_recv hst.k (fr_P hP [0] rfl) (ci := 13) (q0 := 0) rfl rfl, pre_at hP hD hS hz hzs hst [0] (by decide) rfl rfl⟩ rfl rfl hl.1 rfl (lv_room (Nat.le_of_ble_eq_true rfl)) dX11_parsesT_103 ⟨(Nat.le_of_ble_eq_true rfl), (Nat.le_of_ble_eq_true rfl)⟩) hP hD hS hA [0] (by decide) rfl rfl rfl rfl (fun H locs hP hD hS => ?_)
        refine lv_aload_n hx hb dX11_parsesT_106 rfl (lv_at hl 0 rfl) ?_
        refine lv_bipush (v := 101) hx hb dX11_parsesT_107 (by decide) ?_
        obtain ⟨q13, hq13, hF⟩ := q_bdi hF
        refine cl_v (Lc := [w_Model E a o (x.1, x.2.1, x.2.2.1, x.2.2.2.1, x.2.2.2.2.1, x.2.2.2.2.2.1, x.2.2.2.2.2.2.1, x.2.2.2.2.2.2.2.1, x.2.2.2.2.2.2.2.2.1, x.2.2.2.2.2.2.2.2.2.1, x.2.2.2.2.2.2.2.2.2.2.1, x.2.2.2.2.2.2.2.2.2.2.2.1, x.2.2.2.2.2.2.2.2.2.2.2.2.1, x.2.2.2.2.2.2.2.2.2.2.2.2.2.1, x.2.2.2.2.2.2.2.2.2.2.2.2.2.2.1, q12.1, q12.2, upd x.2.2.2.2.2.2.2.2.2.2.2.2.2.2.2.2.2 (p1.toNatClampNeg) 108)]) (Lc' := [w_Model E a o (x.1, x.2.1, x.2.2.1, x.2.2.2.1, x.2.2.2.2.1, x.2.2.2.2.2.1, x.2.2.2.2.2.2.1, x.2.2.2.2.2.2.2.1, x.2.2.2.2.2.2.2.2.1, x.2.2.2.2.2.2.2.2.2.1, x.2.2.2.2.2.2.2.2.2.2.1, x.2.2.2.2.2.2.2.2.2.2.2.1, x.2.2.2.2.2.2.2.2.2.2.2.2.1, x.2.2.2.2.2.2.2.2.2.2.2.2.2.1, x.2.2.2.2.2.2.2.2.2.2.2.2.2.2.1, q13.1, q13.2, upd x.2.2.2.2.2.2.2.2.2.2.2.2.2.2.2.2.2 (p1.toNatClampNeg) 108)]) (L' := [w_Model E a o (x.1, x.2.1, x.2.2.1, x.2.2.2.1, x.2.2.2.2.1, x.2.2.2.2.2.1, x.2.2.2.2.2.2.1, x.2.2.2.2.2.2.2.1, x.2.2.2.2.2.2.2.2.1, x.2.2.2.2.2.2.2.2.2.1, x.2.2.2.2.2.2.2.2.2.2.1, x.2.2.2.2.2.2.2.2.2.2.2.1, x.2.2.2.2.2.2.2.2.2.2.2.2.1, x.2.2.2.2.2.2.2.2.2.2.2.2.2.1, x.2.2.2.2.2.2.2.2.2.2.2.2.2.2.1, q13.1, q13.2, upd x.2.2.2.2.2.2.2.2.2.2.2.2.2.2.2.2.2 (p1.toNatClampNeg) 108)]) (va_runV (As := [.int 101]) (rest := []) ⟨hx, hb, hml, hown, ha⟩ (k_X11_needs l E a o (x.1, x.2.1, x.2.2.1, x.2.2.2.1, x.2.2.2.2.1, x.2.2.2.2.2.1, x.2.2.2.2.2.2.1, x.2.2.2.2.2.2.2.1, x.2.2.2.2.2.2.2.2.1, x.2.2.2.2.2.2.2.2.2.1, x.2.2.2.2.2.2.2.2.2.2.1, x.2.2.2.2.2.2.2.2.2.2.2.1, x.2.2.2.2.2.2.2.2.2.2.2.2.1, x.2.2.2.2.2.2.2.2.2.2.2.2.2.1, x.2.2.2.2.2.2.2.2.2.2.2.2.2.2.1, q12.1, q12.2, upd x.2.2.2.2.2.2.2.2.2.2.2.2.2.2.2.2.2 (p1.toNatClampNeg) 108) 101 q13 hq13 H.size) (cwV 1 ha (gi_V (fun _ h => h) mw2046 mw2048 mw62 mw87 mw2049) rfl rfl rfl hv_X11_needs ⟨(Nat.le_of_ble_eq_true rfl), (Nat.le_of_ble_eq_true rfl)⟩) ⟨pre_blind, va_recv hst.k (fr_P hP [0] rfl) (ci := 13) (q0 := 0) rfl rfl, pre_at hP hD hS hz hzs hst [0] (by decide) rfl rfl⟩ rfl rfl hl.1 rfl (lv_room (Nat.le_of_ble_eq_true rfl)) dX11_parsesT_109 ⟨(Nat.le_of_ble_eq_true rfl), (Nat.le_of_ble_eq_true rfl)⟩) hP hD hS hA [0] (by decide) rfl rfl rfl rfl (fun H locs hP hD hS => ?_)
        refine lv_aload_n hx hb dX11_parsesT_112 rfl (lv_at hl 0 rfl) ?_
        refine va_get (D := E.1) (ci := 13) (v := .ref (a (o + 8))) (C := RX11) (T := TX11) (N := 18) hx hb ha in_X11 hown hst.k hP 0 rfl rfl 17 (by decide) (ha _ mw1653) (fun _ h9 => h9) rfl dX11_parsesT_113 ?_
        refine lv_iload_n hx hb dX11_parsesT_116 rfl (lv_at hl 1 rfl) ?_
        refine lv_iconst (v := 1) hx hb dX11_parsesT_117 (by decide) ?_
        refine lv_iadd hx hb dX11_parsesT_118 ?_
        refine lv_aload_n hx hb dX11_parsesT_119 rfl (lv_at hl 0 rfl) ?_
        refine lv_iconst (v := 1) hx hb dX11_parsesT_120 (by decide) ?_
        refine lv_iconst (v := 2) hx hb dX11_parsesT_121 (by decide) ?_
        obtain ⟨q14, hq14, hF⟩ := q_bdi hF
        refine cl_i (Lc := [w_Model E a o (x.1, x.2.1, x.2.2.1, x.2.2.2.1, x.2.2.2.2.1, x.2.2.2.2.2.1, x.2.2.2.2.2.2.1, x.2.2.2.2.2.2.2.1, x.2.2.2.2.2.2.2.2.1, x.2.2.2.2.2.2.2.2.2.1, x.2.2.2.2.2.2.2.2.2.2.1, x.2.2.2.2.2.2.2.2.2.2.2.1, x.2.2.2.2.2.2.2.2.2.2.2.2.1, x.2.2.2.2.2.2.2.2.2.2.2.2.2.1, x.2.2.2.2.2.2.2.2.2.2.2.2.2.2.1, q13.1, q13.2, upd x.2.2.2.2.2.2.2.2.2.2.2.2.2.2.2.2.2 (p1.toNatClampNeg) 108)]) (Lc' := [w_Model E a o (x.1, x.2.1, x.2.2.1, x.2.2.2.1, x.2.2.2.2.1, x.2.2.2.2.2.1, x.2.2.2.2.2.2.1, x.2.2.2.2.2.2.2.1, x.2.2.2.2.2.2.2.2.1, x.2.2.2.2.2.2.2.2.2.1, x.2.2.2.2.2.2.2.2.2.2.1, x.2.2.2.2.2.2.2.2.2.2.2.1, x.2.2.2.2.2.2.2.2.2.2.2.2.1, x.2.2.2.2.2.2.2.2.2.2.2.2.2.1, x.2.2.2.2.2.2.2.2.2.2.2.2.2.2.1, q14.2.1, q14.2.2, upd x.2.2.2.2.2.2.2.2.2.2.2.2.2.2.2.2.2 (p1.toNatClampNeg) 108)]) (L' := [w_Model E a o (x.1, x.2.1, x.2.2.1, x.2.2.2.1, x.2.2.2.2.1, x.2.2.2.2.2.1, x.2.2.2.2.2.2.1, x.2.2.2.2.2.2.2.1, x.2.2.2.2.2.2.2.2.1, x.2.2.2.2.2.2.2.2.2.1, x.2.2.2.2.2.2.2.2.2.2.1, x.2.2.2.2.2.2.2.2.2.2.2.1, x.2.2.2.2.2.2.2.2.2.2.2.2.1, x.2.2.2.2.2.2.2.2.2.2.2.2.2.1, x.2.2.2.2.2.2.2.2.2.2.2.2.2.2.1, q14.2.1, q14.2.2, upd x.2.2.2.2.2.2.2.2.2.2.2.2.2.2.2.2.2 (p1.toNatClampNeg) 108)]) (rv := q14.1) (va_runV (As := [.int 1, .int 2]) (rest := [.int (p1 + 1), .ref (a (o + 8))]) ⟨hx, hb, hml, hown, ha⟩ (k_X11_afterBlank l E a o (x.1, x.2.1, x.2.2.1, x.2.2.2.1, x.2.2.2.2.1, x.2.2.2.2.2.1, x.2.2.2.2.2.2.1, x.2.2.2.2.2.2.2.1, x.2.2.2.2.2.2.2.2.1, x.2.2.2.2.2.2.2.2.2.1, x.2.2.2.2.2.2.2.2.2.2.1, x.2.2.2.2.2.2.2.2.2.2.2.1, x.2.2.2.2.2.2.2.2.2.2.2.2.1, x.2.2.2.2.2.2.2.2.2.2.2.2.2.1, x.2.2.2.2.2.2.2.2.2.2.2.2.2.2.1, q13.1, q13.2, upd x.2.2.2.2.2.2.2.2.2.2.2.2.2.2.2.2.2 (p1.toNatClampNeg) 108) 1 2 q14 hq14 H.size) (cwV 2 ha (gi_V (fun _ h => h) mw2050 mw2052 mw63 mw87 mw2053) rfl rfl rfl hv_X11_afterBlank ⟨(Nat.le_of_ble_eq_true rfl), (Nat.le_of_ble_eq_true rfl)⟩) ⟨pre_blind, va_recv hst.k (fr_P hP [0] rfl) (ci := 13) (q0 := 0) rfl rfl, pre_at hP hD hS hz hzs hst [0] (by decide) rfl rfl⟩ rfl rfl hl.1 rfl (lv_room (Nat.le_of_ble_eq_true rfl)) dX11_parsesT_122 ⟨(Nat.le_of_ble_eq_true rfl), (Nat.le_of_ble_eq_true rfl)⟩) hP hD hS hA [0] (by decide) rfl rfl rfl rfl (fun H locs hP hD hS => ?_)
        obtain ⟨g15, hF⟩ := q_gdi hF
        refine vi_iast hx hb hst.k hP hD hS 8 0 rfl rfl (k := (p1 + 1).toNatClampNeg) rfl g15 dX11_parsesT_125 (fun H locs hP hD hS => ?_)
        have hP : va_P E.1 vwCl (List.flatten [w_Model E a o (x.1, x.2.1, x.2.2.1, x.2.2.2.1, x.2.2.2.2.1, x.2.2.2.2.2.1, x.2.2.2.2.2.2.1, x.2.2.2.2.2.2.2.1, x.2.2.2.2.2.2.2.2.1, x.2.2.2.2.2.2.2.2.2.1, x.2.2.2.2.2.2.2.2.2.2.1, x.2.2.2.2.2.2.2.2.2.2.2.1, x.2.2.2.2.2.2.2.2.2.2.2.2.1, x.2.2.2.2.2.2.2.2.2.2.2.2.2.1, x.2.2.2.2.2.2.2.2.2.2.2.2.2.2.1, q14.2.1, q14.2.2, upd (upd x.2.2.2.2.2.2.2.2.2.2.2.2.2.2.2.2.2 (p1.toNatClampNeg) 108) ((p1 + 1).toNatClampNeg) q14.1)]) H := hP
        have hD : va_D A (List.flatten [w_Model E a o (x.1, x.2.1, x.2.2.1, x.2.2.2.1, x.2.2.2.2.1, x.2.2.2.2.2.1, x.2.2.2.2.2.2.1, x.2.2.2.2.2.2.2.1, x.2.2.2.2.2.2.2.2.1, x.2.2.2.2.2.2.2.2.2.1, x.2.2.2.2.2.2.2.2.2.2.1, x.2.2.2.2.2.2.2.2.2.2.2.1, x.2.2.2.2.2.2.2.2.2.2.2.2.1, x.2.2.2.2.2.2.2.2.2.2.2.2.2.1, x.2.2.2.2.2.2.2.2.2.2.2.2.2.2.1, q14.2.1, q14.2.2, upd (upd x.2.2.2.2.2.2.2.2.2.2.2.2.2.2.2.2.2 (p1.toNatClampNeg) 108) ((p1 + 1).toNatClampNeg) q14.1)]) := hD
        refine lv_goto (tgt := 169) hx hb dX11_parsesT_126 (by decide) ?_
        obtain rfl := Option.some.inj hF
        exact en_v hQ (Nat.le_of_ble_eq_true rfl) (Nat.le_of_ble_eq_true rfl) hx hb hr hlocks hP hD hS dX11_parsesT_169
  · have hF := q_brp c6 hF
    refine lv_aload_n hx hb dX11_parsesT_9 rfl (lv_at hl 0 rfl) ?_
    refine va_get (D := E.1) (ci := 13) (v := .ref (a (o + 8))) (C := RX11) (T := TX11) (N := 18) hx hb ha in_X11 hown hst.k hP 0 rfl rfl 17 (by decide) (ha _ mw1653) (fun _ h9 => h9) rfl dX11_parsesT_10 ?_
    refine lv_iload_n hx hb dX11_parsesT_13 rfl (lv_at hl 1 rfl) ?_
    refine lv_bipush (v := 117) hx hb dX11_parsesT_14 (by decide) ?_
    obtain ⟨g16, hF⟩ := q_gdi hF
    refine vi_iast hx hb hst.k hP hD hS 8 0 rfl rfl (k := p1.toNatClampNeg) rfl g16 dX11_parsesT_16 (fun H locs hP hD hS => ?_)
    have hP : va_P E.1 vwCl (List.flatten [w_Model E a o (x.1, x.2.1, x.2.2.1, x.2.2.2.1, x.2.2.2.2.1, x.2.2.2.2.2.1, x.2.2.2.2.2.2.1, x.2.2.2.2.2.2.2.1, x.2.2.2.2.2.2.2.2.1, x.2.2.2.2.2.2.2.2.2.1, x.2.2.2.2.2.2.2.2.2.2.1, x.2.2.2.2.2.2.2.2.2.2.2.1, x.2.2.2.2.2.2.2.2.2.2.2.2.1, x.2.2.2.2.2.2.2.2.2.2.2.2.2.1, x.2.2.2.2.2.2.2.2.2.2.2.2.2.2.1, x.2.2.2.2.2.2.2.2.2.2.2.2.2.2.2.1, x.2.2.2.2.2.2.2.2.2.2.2.2.2.2.2.2.1, upd x.2.2.2.2.2.2.2.2.2.2.2.2.2.2.2.2.2 (p1.toNatClampNeg) 117)]) H := hP
    have hD : va_D A (List.flatten [w_Model E a o (x.1, x.2.1, x.2.2.1, x.2.2.2.1, x.2.2.2.2.1, x.2.2.2.2.2.1, x.2.2.2.2.2.2.1, x.2.2.2.2.2.2.2.1, x.2.2.2.2.2.2.2.2.1, x.2.2.2.2.2.2.2.2.2.1, x.2.2.2.2.2.2.2.2.2.2.1, x.2.2.2.2.2.2.2.2.2.2.2.1, x.2.2.2.2.2.2.2.2.2.2.2.2.1, x.2.2.2.2.2.2.2.2.2.2.2.2.2.1, x.2.2.2.2.2.2.2.2.2.2.2.2.2.2.1, x.2.2.2.2.2.2.2.2.2.2.2.2.2.2.2.1, x.2.2.2.2.2.2.2.2.2.2.2.2.2.2.2.2.1, upd x.2.2.2.2.2.2.2.2.2.2.2.2.2.2.2.2.2 (p1.toNatClampNeg) 117)]) := hD
    refine lv_aload_n hx hb dX11_parsesT_17 rfl (lv_at hl 0 rfl) ?_
    refine lv_bipush (v := 117) hx hb dX11_parsesT_18 (by decide) ?_
    refine lv_bipush (v := 110) hx hb dX11_parsesT_20 (by decide) ?_
    refine lv_bipush (v := 101) hx hb dX11_parsesT_22 (by decide) ?_
    obtain ⟨q17, hq17, hF⟩ := q_bdi hF
    refine cl_v (Lc := [w_Model E a o (x.1, x.2.1, x.2.2.1, x.2.2.2.1, x.2.2.2.2.1, x.2.2.2.2.2.1, x.2.2.2.2.2.2.1, x.2.2.2.2.2.2.2.1, x.2.2.2.2.2.2.2.2.1, x.2.2.2.2.2.2.2.2.2.1, x.2.2.2.2.2.2.2.2.2.2.1, x.2.2.2.2.2.2.2.2.2.2.2.1, x.2.2.2.2.2.2.2.2.2.2.2.2.1, x.2.2.2.2.2.2.2.2.2.2.2.2.2.1, x.2.2.2.2.2.2.2.2.2.2.2.2.2.2.1, x.2.2.2.2.2.2.2.2.2.2.2.2.2.2.2.1, x.2.2.2.2.2.2.2.2.2.2.2.2.2.2.2.2.1, upd x.2.2.2.2.2.2.2.2.2.2.2.2.2.2.2.2.2 (p1.toNatClampNeg) 117)]) (Lc' := [w_Model E a o (x.1, x.2.1, x.2.2.1, x.2.2.2.1, x.2.2.2.2.1, x.2.2.2.2.2.1, x.2.2.2.2.2.2.1, x.2.2.2.2.2.2.2.1, x.2.2.2.2.2.2.2.2.1, x.2.2.2.2.2.2.2.2.2.1, x.2.2.2.2.2.2.2.2.2.2.1, x.2.2.2.2.2.2.2.2.2.2.2.1, x.2.2.2.2.2.2.2.2.2.2.2.2.1, x.2.2.2.2.2.2.2.2.2.2.2.2.2.1, x.2.2.2.2.2.2.2.2.2.2.2.2.2.2.1, q17.1, q17.2, upd x.2.2.2.2.2.2.2.2.2.2.2.2.2.2.2.2.2 (p1.toNatClampNeg) 117)]) (L' := [w_Model E a o (x.1, x.2.1, x.2.2.1, x.2.2.2.1, x.2.2.2.2.1, x.2.2.2.2.2.1, x.2.2.2.2.2.2.1, x.2.2.2.2.2.2.2.1, x.2.2.2.2.2.2.2.2.1, x.2.2.2.2.2.2.2.2.2.1, x.2.2.2.2.2.2.2.2.2.2.1, x.2.2.2.2.2.2.2.2.2.2.2.1, x.2.2.2.2.2.2.2.2.2.2.2.2.1, x.2.2.2.2.2.2.2.2.2.2.2.2.2.1, x.2.2.2.2.2.2.2.2.2.2.2.2.2.2.1, q17.1, q17.2, upd x.2.2.2.2.2.2.2.2.2.2.2.2.2.2.2.2.2 (p1.toNatClampNeg) 117)]) (va_runV (As := [.int 117, .int 110, .int 101]) (rest := []) ⟨hx, hb, hml, hown, ha⟩ (k_X11_needsThree l E a o (x.1, x.2.1, x.2.2.1, x.2.2.2.1, x.2.2.2.2.1, x.2.2.2.2.2.1, x.2.2.2.2.2.2.1, x.2.2.2.2.2.2.2.1, x.2.2.2.2.2.2.2.2.1, x.2.2.2.2.2.2.2.2.2.1, x.2.2.2.2.2.2.2.2.2.2.1, x.2.2.2.2.2.2.2.2.2.2.2.1, x.2.2.2.2.2.2.2.2.2.2.2.2.1, x.2.2.2.2.2.2.2.2.2.2.2.2.2.1, x.2.2.2.2.2.2.2.2.2.2.2.2.2.2.1, x.2.2.2.2.2.2.2.2.2.2.2.2.2.2.2.1, x.2.2.2.2.2.2.2.2.2.2.2.2.2.2.2.2.1, upd x.2.2.2.2.2.2.2.2.2.2.2.2.2.2.2.2.2 (p1.toNatClampNeg) 117) 117 110 101 q17 hq17 H.size) (cwV 3 ha (gi_V (fun _ h => h) mw2042 mw2044 mw61 mw87 mw2045) rfl rfl rfl hv_X11_needsThree ⟨(Nat.le_of_ble_eq_true rfl), (Nat.le_of_ble_eq_true rfl)⟩) ⟨pre_blind, va_recv hst.k (fr_P hP [0] rfl) (ci := 13) (q0 := 0) rfl rfl, pre_at hP hD hS hz hzs hst [0] (by decide) rfl rfl⟩ rfl rfl hl.1 rfl (lv_room (Nat.le_of_ble_eq_true rfl)) dX11_parsesT_24 ⟨(Nat.le_of_ble_eq_true rfl), (Nat.le_of_ble_eq_true rfl)⟩) hP hD hS hA [0] (by decide) rfl rfl rfl rfl (fun H locs hP hD hS => ?_)
    refine lv_aload_n hx hb dX11_parsesT_27 rfl (lv_at hl 0 rfl) ?_
    refine va_get (D := E.1) (ci := 13) (v := .ref (a (o + 8))) (C := RX11) (T := TX11) (N := 18) hx hb ha in_X11 hown hst.k hP 0 rfl rfl 17 (by decide) (ha _ mw1653) (fun _ h9 => h9) rfl dX11_parsesT_28 ?_
    refine lv_iload_n hx hb dX11_parsesT_31 rfl (lv_at hl 1 rfl) ?_
    refine lv_iconst (v := 1) hx hb dX11_parsesT_32 (by decide) ?_
    refine lv_iadd hx hb dX11_parsesT_33 ?_
    refine lv_aload_n hx hb dX11_parsesT_34 rfl (lv_at hl 0 rfl) ?_
    refine lv_iconst (v := 1) hx hb dX11_parsesT_35 (by decide) ?_
    refine lv_iconst (v := 2) hx hb dX11_parsesT_36 (by decide) ?_
    obtain ⟨q18, hq18, hF⟩ := q_bdi hF
    refine cl_i (Lc := [w_Model E a o (x.1, x.2.1, x.2.2.1, x.2.2.2.1, x.2.2.2.2.1, x.2.2.2.2.2.1, x.2.2.2.2.2.2.1, x.2.2.2.2.2.2.2.1, x.2.2.2.2.2.2.2.2.1, x.2.2.2.2.2.2.2.2.2.1, x.2.2.2.2.2.2.2.2.2.2.1, x.2.2.2.2.2.2.2.2.2.2.2.1, x.2.2.2.2.2.2.2.2.2.2.2.2.1, x.2.2.2.2.2.2.2.2.2.2.2.2.2.1, x.2.2.2.2.2.2.2.2.2.2.2.2.2.2.1, q17.1, q17.2, upd x.2.2.2.2.2.2.2.2.2.2.2.2.2.2.2.2.2 (p1.toNatClampNeg) 117)]) (Lc' := [w_Model E a o (x.1, x.2.1, x.2.2.1, x.2.2.2.1, x.2.2.2.2.1, x.2.2.2.2.2.1, x.2.2.2.2.2.2.1, x.2.2.2.2.2.2.2.1, x.2.2.2.2.2.2.2.2.1, x.2.2.2.2.2.2.2.2.2.1, x.2.2.2.2.2.2.2.2.2.2.1, x.2.2.2.2.2.2.2.2.2.2.2.1, x.2.2.2.2.2.2.2.2.2.2.2.2.1, x.2.2.2.2.2.2.2.2.2.2.2.2.2.1, x.2.2.2.2.2.2.2.2.2.2.2.2.2.2.1, q18.2.1, q18.2.2, upd x.2.2.2.2.2.2.2.2.2.2.2.2.2.2.2.2.2 (p1.toNatClampNeg) 117)]) (L' := [w_Model E a o (x.1, x.2.1, x.2.2.1, x.2.2.2.1, x.2.2.2.2.1, x.2.2.2.2.2.1, x.2.2.2.2.2.2.1, x.2.2.2.2.2.2.2.1, x.2.2.2.2.2.2.2.2.1, x.2.2.2.2.2.2.2.2.2.1, x.2.2.2.2.2.2.2.2.2.2.1, x.2.2.2.2.2.2.2.2.2.2.2.1, x.2.2.2.2.2.2.2.2.2.2.2.2.1, x.2.2.2.2.2.2.2.2.2.2.2.2.2.1, x.2.2.2.2.2.2.2.2.2.2.2.2.2.2.1, q18.2.1, q18.2.2, upd x.2.2.2.2.2.2.2.2.2.2.2.2.2.2.2.2.2 (p1.toNatClampNeg) 117)]) (rv := q18.1) (va_runV (As := [.int 1, .int 2]) (rest := [.int (p1 + 1), .ref (a (o + 8))]) ⟨hx, hb, hml, hown, ha⟩ (k_X11_afterBlank l E a o (x.1, x.2.1, x.2.2.1, x.2.2.2.1, x.2.2.2.2.1, x.2.2.2.2.2.1, x.2.2.2.2.2.2.1, x.2.2.2.2.2.2.2.1, x.2.2.2.2.2.2.2.2.1, x.2.2.2.2.2.2.2.2.2.1, x.2.2.2.2.2.2.2.2.2.2.1, x.2.2.2.2.2.2.2.2.2.2.2.1, x.2.2.2.2.2.2.2.2.2.2.2.2.1, x.2.2.2.2.2.2.2.2.2.2.2.2.2.1, x.2.2.2.2.2.2.2.2.2.2.2.2.2.2.1, q17.1, q17.2, upd x.2.2.2.2.2.2.2.2.2.2.2.2.2.2.2.2.2 (p1.toNatClampNeg) 117) 1 2 q18 hq18 H.size) (cwV 2 ha (gi_V (fun _ h => h) mw2050 mw2052 mw63 mw87 mw2053) rfl rfl rfl hv_X11_afterBlank ⟨(Nat.le_of_ble_eq_true rfl), (Nat.le_of_ble_eq_true rfl)⟩) ⟨pre_blind, va_recv hst.k (fr_P hP [0] rfl) (ci := 13) (q0 := 0) rfl rfl, pre_at hP hD hS hz hzs hst [0] (by decide) rfl rfl⟩ rfl rfl hl.1 rfl (lv_room (Nat.le_of_ble_eq_true rfl)) dX11_parsesT_37 ⟨(Nat.le_of_ble_eq_true rfl), (Nat.le_of_ble_eq_true rfl)⟩) hP hD hS hA [0] (by decide) rfl rfl rfl rfl (fun H locs hP hD hS => ?_)
    obtain ⟨g19, hF⟩ := q_gdi hF
    refine vi_iast hx hb hst.k hP hD hS 8 0 rfl rfl (k := (p1 + 1).toNatClampNeg) rfl g19 dX11_parsesT_40 (fun H locs hP hD hS => ?_)
    have hP : va_P E.1 vwCl (List.flatten [w_Model E a o (x.1, x.2.1, x.2.2.1, x.2.2.2.1, x.2.2.2.2.1, x.2.2.2.2.2.1, x.2.2.2.2.2.2.1, x.2.2.2.2.2.2.2.1, x.2.2.2.2.2.2.2.2.1, x.2.2.2.2.2.2.2.2.2.1, x.2.2.2.2.2.2.2.2.2.2.1, x.2.2.2.2.2.2.2.2.2.2.2.1, x.2.2.2.2.2.2.2.2.2.2.2.2.1, x.2.2.2.2.2.2.2.2.2.2.2.2.2.1, x.2.2.2.2.2.2.2.2.2.2.2.2.2.2.1, q18.2.1, q18.2.2, upd (upd x.2.2.2.2.2.2.2.2.2.2.2.2.2.2.2.2.2 (p1.toNatClampNeg) 117) ((p1 + 1).toNatClampNeg) q18.1)]) H := hP
    have hD : va_D A (List.flatten [w_Model E a o (x.1, x.2.1, x.2.2.1, x.2.2.2.1, x.2.2.2.2.1, x.2.2.2.2.2.1, x.2.2.2.2.2.2.1, x.2.2.2.2.2.2.2.1, x.2.2.2.2.2.2.2.2.1, x.2.2.2.2.2.2.2.2.2.1, x.2.2.2.2.2.2.2.2.2.2.1, x.2.2.2.2.2.2.2.2.2.2.2.1, x.2.2.2.2.2.2.2.2.2.2.2.2.1, x.2.2.2.2.2.2.2.2.2.2.2.2.2.1, x.2.2.2.2.2.2.2.2.2.2.2.2.2.2.1, q18.2.1, q18.2.2, upd (upd x.2.2.2.2.2.2.2.2.2.2.2.2.2.2.2.2.2 (p1.toNatClampNeg) 117) ((p1 + 1).toNatClampNeg) q18.1)]) := hD
    refine lv_aload_n hx hb dX11_parsesT_41 rfl (lv_at hl 0 rfl) ?_
    refine va_get (D := E.1) (ci := 13) (v := .ref (a (o + 8))) (C := RX11) (T := TX11) (N := 18) hx hb ha in_X11 hown hst.k hP 0 rfl rfl 17 (by decide) (ha _ mw1653) (fun _ h9 => h9) rfl dX11_parsesT_42 ?_
    refine lv_iload_n hx hb dX11_parsesT_45 rfl (lv_at hl 1 rfl) ?_
    refine lv_iconst (v := 2) hx hb dX11_parsesT_46 (by decide) ?_
    refine lv_iadd hx hb dX11_parsesT_47 ?_
    refine lv_aload_n hx hb dX11_parsesT_48 rfl (lv_at hl 0 rfl) ?_
    obtain ⟨q20, hq20, hF⟩ := q_bdi hF
    refine cl_i (Lc := [w_Model E a o (x.1, x.2.1, x.2.2.1, x.2.2.2.1, x.2.2.2.2.1, x.2.2.2.2.2.1, x.2.2.2.2.2.2.1, x.2.2.2.2.2.2.2.1, x.2.2.2.2.2.2.2.2.1, x.2.2.2.2.2.2.2.2.2.1, x.2.2.2.2.2.2.2.2.2.2.1, x.2.2.2.2.2.2.2.2.2.2.2.1, x.2.2.2.2.2.2.2.2.2.2.2.2.1, x.2.2.2.2.2.2.2.2.2.2.2.2.2.1, x.2.2.2.2.2.2.2.2.2.2.2.2.2.2.1, q18.2.1, q18.2.2, upd (upd x.2.2.2.2.2.2.2.2.2.2.2.2.2.2.2.2.2 (p1.toNatClampNeg) 117) ((p1 + 1).toNatClampNeg) q18.1)]) (Lc' := [w_Model E a o (x.1, x.2.1, x.2.2.1, x.2.2.2.1, x.2.2.2.2.1, x.2.2.2.2.2.1, x.2.2.2.2.2.2.1, x.2.2.2.2.2.2.2.1, x.2.2.2.2.2.2.2.2.1, x.2.2.2.2.2.2.2.2.2.1, x.2.2.2.2.2.2.2.2.2.2.1, x.2.2.2.2.2.2.2.2.2.2.2.1, x.2.2.2.2.2.2.2.2.2.2.2.2.1, x.2.2.2.2.2.2.2.2.2.2.2.2.2.1, x.2.2.2.2.2.2.2.2.2.2.2.2.2.2.1, q20.2.1, q20.2.2, upd (upd x.2.2.2.2.2.2.2.2.2.2.2.2.2.2.2.2.2 (p1.toNatClampNeg) 117) ((p1 + 1).toNatClampNeg) q18.1)]) (L' := [w_Model E a o (x.1, x.2.1, x.2.2.1, x.2.2.2.1, x.2.2.2.2.1, x.2.2.2.2.2.1, x.2.2.2.2.2.2.1, x.2.2.2.2.2.2.2.1, x.2.2.2.2.2.2.2.2.1, x.2.2.2.2.2.2.2.2.2.1, x.2.2.2.2.2.2.2.2.2.2.1, x.2.2.2.2.2.2.2.2.2.2.2.1, x.2.2.2.2.2.2.2.2.2.2.2.2.1, x.2.2.2.2.2.2.2.2.2.2.2.2.2.1, x.2.2.2.2.2.2.2.2.2.2.2.2.2.2.1, q20.2.1, q20.2.2, upd (upd x.2.2.2.2.2.2.2.2.2.2.2.2.2.2.2.2.2 (p1.toNatClampNeg) 117) ((p1 + 1).toNatClampNeg) q18.1)]) (rv := q20.1) (va_runV (As := []) (rest := [.int (p1 + 2), .ref (a (o + 8))]) ⟨hx, hb, hml, hown, ha⟩ (k_X11_signed l E a o (x.1, x.2.1, x.2.2.1, x.2.2.2.1, x.2.2.2.2.1, x.2.2.2.2.2.1, x.2.2.2.2.2.2.1, x.2.2.2.2.2.2.2.1, x.2.2.2.2.2.2.2.2.1, x.2.2.2.2.2.2.2.2.2.1, x.2.2.2.2.2.2.2.2.2.2.1, x.2.2.2.2.2.2.2.2.2.2.2.1, x.2.2.2.2.2.2.2.2.2.2.2.2.1, x.2.2.2.2.2.2.2.2.2.2.2.2.2.1, x.2.2.2.2.2.2.2.2.2.2.2.2.2.2.1, q18.2.1, q18.2.2, upd (upd x.2.2.2.2.2.2.2.2.2.2.2.2.2.2.2.2.2 (p1.toNatClampNeg) 117) ((p1 + 1).toNatClampNeg) q18.1) q20 hq20 H.size) (cwV 0 ha (gi_V (fun _ h => h) mw2062 mw2064 mw66 mw87 mw2065) rfl rfl rfl hv_X11_signed ⟨(Nat.le_of_ble_eq_true rfl), (Nat.le_of_ble_eq_true rfl)⟩) ⟨pre_blind, va_recv hst.k (fr_P hP [0] rfl) (ci := 13) (q0 := 0) rfl rfl, pre_at hP hD hS hz hzs hst [0] (by decide) rfl rfl⟩ rfl rfl hl.1 rfl (lv_room (Nat.le_of_ble_eq_true rfl)) dX11_parsesT_49 ⟨(Nat.le_of_ble_eq_true rfl), (Nat.le_of_ble_eq_true rfl)⟩) hP hD hS hA [0] (by decide) rfl rfl rfl rfl (fun H locs hP hD hS => ?_)
    obtain ⟨g21, hF⟩ := q_gdi hF
    refine vi_iast hx hb hst.k hP hD hS 8 0 rfl rfl (k := (p1 + 2).toNatClampNeg) rfl g21 dX11_parsesT_52 (fun H locs hP hD hS => ?_)
    have hP : va_P E.1 vwCl (List.flatten [w_Model E a o (x.1, x.2.1, x.2.2.1, x.2.2.2.1, x.2.2.2.2.1, x.2.2.2.2.2.1, x.2.2.2.2.2.2.1, x.2.2.2.2.2.2.2.1, x.2.2.2.2.2.2.2.2.1, x.2.2.2.2.2.2.2.2.2.1, x.2.2.2.2.2.2.2.2.2.2.1, x.2.2.2.2.2.2.2.2.2.2.2.1, x.2.2.2.2.2.2.2.2.2.2.2.2.1, x.2.2.2.2.2.2.2.2.2.2.2.2.2.1, x.2.2.2.2.2.2.2.2.2.2.2.2.2.2.1, q20.2.1, q20.2.2, upd (upd (upd x.2.2.2.2.2.2.2.2.2.2.2.2.2.2.2.2.2 (p1.toNatClampNeg) 117) ((p1 + 1).toNatClampNeg) q18.1) ((p1 + 2).toNatClampNeg) q20.1)]) H := hP
    have hD : va_D A (List.flatten [w_Model E a o (x.1, x.2.1, x.2.2.1, x.2.2.2.1, x.2.2.2.2.1, x.2.2.2.2.2.1, x.2.2.2.2.2.2.1, x.2.2.2.2.2.2.2.1, x.2.2.2.2.2.2.2.2.1, x.2.2.2.2.2.2.2.2.2.1, x.2.2.2.2.2.2.2.2.2.2.1, x.2.2.2.2.2.2.2.2.2.2.2.1, x.2.2.2.2.2.2.2.2.2.2.2.2.1, x.2.2.2.2.2.2.2.2.2.2.2.2.2.1, x.2.2.2.2.2.2.2.2.2.2.2.2.2.2.1, q20.2.1, q20.2.2, upd (upd (upd x.2.2.2.2.2.2.2.2.2.2.2.2.2.2.2.2.2 (p1.toNatClampNeg) 117) ((p1 + 1).toNatClampNeg) q18.1) ((p1 + 2).toNatClampNeg) q20.1)]) := hD
    refine lv_goto (tgt := 169) hx hb dX11_parsesT_53 (by decide) ?_
    obtain rfl := Option.some.inj hF
    exact en_v hQ (Nat.le_of_ble_eq_true rfl) (Nat.le_of_ble_eq_true rfl) hx hb hr hlocks hP hD hS dX11_parsesT_169

/-! X11_parsesC -/
theorem dX11_parsesC_0 : decode cX11_parsesC 0 = .ok (.aload_n 0, 1) := by decide +kernel
theorem dX11_parsesC_1 : decode cX11_parsesC 1 = .ok (.bipush 108, 2) := by decide +kernel
theorem dX11_parsesC_3 : decode cX11_parsesC 3 = .ok (.invokevirtual 198, 3) := by decide +kernel
theorem dX11_parsesC_6 : decode cX11_parsesC 6 = .ok (.aload_n 0, 1) := by decide +kernel
theorem dX11_parsesC_7 : decode cX11_parsesC 7 = .ok (.getfield 190, 3) := by decide +kernel
theorem dX11_parsesC_10 : decode cX11_parsesC 10 = .ok (.ifCond .ne 39, 3) := by decide +kernel
theorem dX11_parsesC_13 : decode cX11_parsesC 13 = .ok (.aload_n 0, 1) := by decide +kernel
theorem dX11_parsesC_14 : decode cX11_parsesC 14 = .ok (.invokevirtual 194, 3) := by decide +kernel
theorem dX11_parsesC_17 : decode cX11_parsesC 17 = .ok (.bipush 101, 2) := by decide +kernel
theorem dX11_parsesC_19 : decode cX11_parsesC 19 = .ok (.if_icmp .ne 30, 3) := by decide +kernel
theorem dX11_parsesC_22 : decode cX11_parsesC 22 = .ok (.aload_n 0, 1) := by decide +kernel
theorem dX11_parsesC_23 : decode cX11_parsesC 23 = .ok (.bipush 101, 2) := by decide +kernel
theorem dX11_parsesC_25 : decode cX11_parsesC 25 = .ok (.bipush 97, 2) := by decide +kernel
theorem dX11_parsesC_27 : decode cX11_parsesC 27 = .ok (.bipush 114, 2) := by decide +kernel
theorem dX11_parsesC_29 : decode cX11_parsesC 29 = .ok (.invokevirtual 204, 3) := by decide +kernel
theorem dX11_parsesC_32 : decode cX11_parsesC 32 = .ok (.aload_n 0, 1) := by decide +kernel
theorem dX11_parsesC_33 : decode cX11_parsesC 33 = .ok (.getfield 39, 3) := by decide +kernel
theorem dX11_parsesC_36 : decode cX11_parsesC 36 = .ok (.iload_n 1, 1) := by decide +kernel
theorem dX11_parsesC_37 : decode cX11_parsesC 37 = .ok (.iconst 1, 1) := by decide +kernel
theorem dX11_parsesC_38 : decode cX11_parsesC 38 = .ok (.iadd, 1) := by decide +kernel
theorem dX11_parsesC_39 : decode cX11_parsesC 39 = .ok (.aload_n 0, 1) := by decide +kernel
theorem dX11_parsesC_40 : decode cX11_parsesC 40 = .ok (.iconst 1, 1) := by decide +kernel
theorem dX11_parsesC_41 : decode cX11_parsesC 41 = .ok (.iconst 1, 1) := by decide +kernel
theorem dX11_parsesC_42 : decode cX11_parsesC 42 = .ok (.invokevirtual 208, 3) := by decide +kernel
theorem dX11_parsesC_45 : decode cX11_parsesC 45 = .ok (.iastore, 1) := by decide +kernel
theorem dX11_parsesC_46 : decode cX11_parsesC 46 = .ok (.goto 47, 3) := by decide +kernel
theorem dX11_parsesC_49 : decode cX11_parsesC 49 = .ok (.aload_n 0, 1) := by decide +kernel
theorem dX11_parsesC_50 : decode cX11_parsesC 50 = .ok (.getfield 39, 3) := by decide +kernel
theorem dX11_parsesC_53 : decode cX11_parsesC 53 = .ok (.iload_n 1, 1) := by decide +kernel
theorem dX11_parsesC_54 : decode cX11_parsesC 54 = .ok (.bipush 105, 2) := by decide +kernel
theorem dX11_parsesC_56 : decode cX11_parsesC 56 = .ok (.iastore, 1) := by decide +kernel
theorem dX11_parsesC_57 : decode cX11_parsesC 57 = .ok (.aload_n 0, 1) := by decide +kernel
theorem dX11_parsesC_58 : decode cX11_parsesC 58 = .ok (.bipush 105, 2) := by decide +kernel
theorem dX11_parsesC_60 : decode cX11_parsesC 60 = .ok (.bipush 102, 2) := by decide +kernel
theorem dX11_parsesC_62 : decode cX11_parsesC 62 = .ok (.bipush 102, 2) := by decide +kernel
theorem dX11_parsesC_64 : decode cX11_parsesC 64 = .ok (.invokevirtual 204, 3) := by decide +kernel
theorem dX11_parsesC_67 : decode cX11_parsesC 67 = .ok (.aload_n 0, 1) := by decide +kernel
theorem dX11_parsesC_68 : decode cX11_parsesC 68 = .ok (.getfield 39, 3) := by decide +kernel
theorem dX11_parsesC_71 : decode cX11_parsesC 71 = .ok (.iload_n 1, 1) := by decide +kernel
theorem dX11_parsesC_72 : decode cX11_parsesC 72 = .ok (.iconst 1, 1) := by decide +kernel
theorem dX11_parsesC_73 : decode cX11_parsesC 73 = .ok (.iadd, 1) := by decide +kernel
theorem dX11_parsesC_74 : decode cX11_parsesC 74 = .ok (.aload_n 0, 1) := by decide +kernel
theorem dX11_parsesC_75 : decode cX11_parsesC 75 = .ok (.iconst 1, 1) := by decide +kernel
theorem dX11_parsesC_76 : decode cX11_parsesC 76 = .ok (.iconst 1, 1) := by decide +kernel
theorem dX11_parsesC_77 : decode cX11_parsesC 77 = .ok (.invokevirtual 208, 3) := by decide +kernel
theorem dX11_parsesC_80 : decode cX11_parsesC 80 = .ok (.iastore, 1) := by decide +kernel
theorem dX11_parsesC_81 : decode cX11_parsesC 81 = .ok (.aload_n 0, 1) := by decide +kernel
theorem dX11_parsesC_82 : decode cX11_parsesC 82 = .ok (.getfield 39, 3) := by decide +kernel
theorem dX11_parsesC_85 : decode cX11_parsesC 85 = .ok (.iload_n 1, 1) := by decide +kernel
theorem dX11_parsesC_86 : decode cX11_parsesC 86 = .ok (.iconst 2, 1) := by decide +kernel
theorem dX11_parsesC_87 : decode cX11_parsesC 87 = .ok (.iadd, 1) := by decide +kernel
theorem dX11_parsesC_88 : decode cX11_parsesC 88 = .ok (.aload_n 0, 1) := by decide +kernel
theorem dX11_parsesC_89 : decode cX11_parsesC 89 = .ok (.invokevirtual 211, 3) := by decide +kernel
theorem dX11_parsesC_92 : decode cX11_parsesC 92 = .ok (.iastore, 1) := by decide +kernel
theorem dX11_parsesC_93 : decode cX11_parsesC 93 = .ok (.return_, 1) := by decide +kernel
def f_X11_parsesC (x_buffer : (Nat → Int32)) (x_typed : Int32) (x_spot : Int32) (x_isWrong : Int32) (x_parsed : (Nat → Int32)) (p1 : Int32) : Option (Int32 × Int32 × (Nat → Int32)) :=
  q_bd (f_X11_needs x_buffer x_typed x_spot x_isWrong 108) (fun q1 =>
  q_lt (fun (_ : Unit) =>
  q_gd (q_in p1 180) (
  q_bd (f_X11_needsThree x_buffer x_typed q1.1 q1.2 105 102 102) (fun q3 =>
  q_bd (f_X11_afterBlank x_buffer x_typed q3.1 q3.2 1 1) (fun q4 =>
  q_gd (q_in (p1 + 1) 180) (
  q_bd (f_X11_signed x_buffer x_typed q4.2.1 q4.2.2) (fun q6 =>
  q_gd (q_in (p1 + 2) 180) (
  some (q6.2.1, q6.2.2, upd (upd (upd x_parsed (p1.toNatClampNeg) 105) ((p1 + 1).toNatClampNeg) q4.1) ((p1 + 2).toNatClampNeg) q6.1)))))))) (fun (J49 : Unit → Option (Int32 × Int32 × (Nat → Int32))) =>
  q_br (q1.2 = 0) (
  q_bd (f_X11_here x_buffer x_typed q1.1) (fun q8 =>
  q_br (q8 = 101) (
  q_bd (f_X11_needsThree x_buffer x_typed q1.1 q1.2 101 97 114) (fun q9 =>
  q_bd (f_X11_afterBlank x_buffer x_typed q9.1 q9.2 1 1) (fun q10 =>
  q_gd (q_in (p1 + 1) 180) (
  some (q10.2.1, q10.2.2, upd x_parsed ((p1 + 1).toNatClampNeg) q10.1))))) (
  J49 (())))) (
  J49 (()))))
theorem hv_X11_parsesC : yX11_parsesC.cls = RX11 ∧ yX11_parsesC.cls ≠ "java/lang/invoke/MethodHandle" ∧ yX11_parsesC.cls ≠ "java/lang/invoke/VarHandle" ∧ (parseMethodDescriptor yX11_parsesC.desc).map (fun d => d.parameters.length) = some 1 := by decide +kernel
abbrev rm_X11_parsesC : Room := { frames := 3, cells := 0, slots := 0, locals := 68 }
set_option maxHeartbeats 4000000 in
set_option maxRecDepth 100000 in
theorem k_X11_parsesC (l : Launch) (E : ET) (a : Nat → Nat) (o : Nat) (x : Model_t) (p1 : Int32) (res : Int32 × Int32 × (Nat → Int32)) (hF : f_X11_parsesC x.2.2.2.2.2.2.1 x.2.2.2.2.2.2.2.1 x.2.2.2.2.2.2.2.2.2.2.2.2.2.2.2.1 x.2.2.2.2.2.2.2.2.2.2.2.2.2.2.2.2.1 x.2.2.2.2.2.2.2.2.2.2.2.2.2.2.2.2.2 p1 = some res) (sz : Nat) : CtV l yX11_parsesC (mws yX11_parsesC cX11_parsesC 2 none) rm_X11_parsesC 0 0 [.ref (a o), .int p1] E (bl_Model E a o x) (bl_Model E a o (x.1, x.2.1, x.2.2.1, x.2.2.2.1, x.2.2.2.2.1, x.2.2.2.2.2.1, x.2.2.2.2.2.2.1, x.2.2.2.2.2.2.2.1, x.2.2.2.2.2.2.2.2.1, x.2.2.2.2.2.2.2.2.2.1, x.2.2.2.2.2.2.2.2.2.2.1, x.2.2.2.2.2.2.2.2.2.2.2.1, x.2.2.2.2.2.2.2.2.2.2.2.2.1, x.2.2.2.2.2.2.2.2.2.2.2.2.2.1, x.2.2.2.2.2.2.2.2.2.2.2.2.2.2.1, res.1, res.2.1, res.2.2)) sz := by
  refine mk_M (by decide +kernel) (Nat.le_of_ble_eq_true rfl) ?_
  intro p e s m below meth c A args Q ls hAe hsz hQ hx hb hr hml hin ha hown hlocks hA hz hzs hst hP hD hS hl
  have hown : s.vm.findClass RX11 = some m.cls := hown
  rw [hAe] at hQ
  subst hsz
  have hP : va_P E.1 vwCl (List.flatten [w_Model E a o x]) s.heap := hP
  have hD : va_D A (List.flatten [w_Model E a o x]) := hD
  have hl : lv_has ls 2 [(0, .ref (a o)), (1, .int p1)] := hl
  generalize hHe : s.heap = H at hP
  have hS : va_S A s.heap H [] := by rw [← hHe]; exact hS
  generalize ([] : List Loc) = locs at hS ⊢
  unfold f_X11_parsesC at hF
  refine lv_aload_n hx hb dX11_parsesC_0 rfl (lv_at hl 0 rfl) ?_
  refine lv_bipush (v := 108) hx hb dX11_parsesC_1 (by decide) ?_
  obtain ⟨q1, hq1, hF⟩ := q_bdi hF
  refine cl_v (Lc := [w_Model E a o x]) (Lc' := [w_Model E a o (x.1, x.2.1, x.2.2.1, x.2.2.2.1, x.2.2.2.2.1, x.2.2.2.2.2.1, x.2.2.2.2.2.2.1, x.2.2.2.2.2.2.2.1, x.2.2.2.2.2.2.2.2.1, x.2.2.2.2.2.2.2.2.2.1, x.2.2.2.2.2.2.2.2.2.2.1, x.2.2.2.2.2.2.2.2.2.2.2.1, x.2.2.2.2.2.2.2.2.2.2.2.2.1, x.2.2.2.2.2.2.2.2.2.2.2.2.2.1, x.2.2.2.2.2.2.2.2.2.2.2.2.2.2.1, q1.1, q1.2, x.2.2.2.2.2.2.2.2.2.2.2.2.2.2.2.2.2)]) (L' := [w_Model E a o (x.1, x.2.1, x.2.2.1, x.2.2.2.1, x.2.2.2.2.1, x.2.2.2.2.2.1, x.2.2.2.2.2.2.1, x.2.2.2.2.2.2.2.1, x.2.2.2.2.2.2.2.2.1, x.2.2.2.2.2.2.2.2.2.1, x.2.2.2.2.2.2.2.2.2.2.1, x.2.2.2.2.2.2.2.2.2.2.2.1, x.2.2.2.2.2.2.2.2.2.2.2.2.1, x.2.2.2.2.2.2.2.2.2.2.2.2.2.1, x.2.2.2.2.2.2.2.2.2.2.2.2.2.2.1, q1.1, q1.2, x.2.2.2.2.2.2.2.2.2.2.2.2.2.2.2.2.2)]) (va_runV (As := [.int 108]) (rest := []) ⟨hx, hb, hml, hown, ha⟩ (k_X11_needs l E a o x 108 q1 hq1 H.size) (cwV 1 ha (gi_V (fun _ h => h) mw2046 mw2048 mw62 mw87 mw2049) rfl rfl rfl hv_X11_needs ⟨(Nat.le_of_ble_eq_true rfl), (Nat.le_of_ble_eq_true rfl)⟩) ⟨pre_blind, va_recv hst.k (fr_P hP [0] rfl) (ci := 13) (q0 := 0) rfl rfl, pre_at hP hD hS hz hzs hst [0] (by decide) rfl rfl⟩ rfl rfl hl.1 rfl (lv_room (Nat.le_of_ble_eq_true rfl)) dX11_parsesC_3 ⟨(Nat.le_of_ble_eq_true rfl), (Nat.le_of_ble_eq_true rfl)⟩) hP hD hS hA [0] (by decide) rfl rfl rfl rfl (fun H locs hP hD hS => ?_)
  refine lv_aload_n hx hb dX11_parsesC_6 rfl (lv_at hl 0 rfl) ?_
  refine va_get (D := E.1) (ci := 13) (v := .int q1.2) (C := RX11) (T := TX11) (N := 18) hx hb ha in_X11 hown hst.k hP 0 rfl rfl 16 (by decide) (ha _ mw1652) (fun _ h9 => h9) rfl dX11_parsesC_7 ?_
  obtain ⟨J49, hJ49, hF⟩ := q_jn hF
  have jJ49 : ∀ (H : Heap) (locs : List Loc) (ls : Array Slot), J49 () = some res → va_P E.1 vwCl (List.flatten [w_Model E a o (x.1, x.2.1, x.2.2.1, x.2.2.2.1, x.2.2.2.2.1, x.2.2.2.2.2.1, x.2.2.2.2.2.2.1, x.2.2.2.2.2.2.2.1, x.2.2.2.2.2.2.2.2.1, x.2.2.2.2.2.2.2.2.2.1, x.2.2.2.2.2.2.2.2.2.2.1, x.2.2.2.2.2.2.2.2.2.2.2.1, x.2.2.2.2.2.2.2.2.2.2.2.2.1, x.2.2.2.2.2.2.2.2.2.2.2.2.2.1, x.2.2.2.2.2.2.2.2.2.2.2.2.2.2.1, q1.1, q1.2, x.2.2.2.2.2.2.2.2.2.2.2.2.2.2.2.2.2)]) H → va_D A (List.flatten [w_Model E a o (x.1, x.2.1, x.2.2.1, x.2.2.2.1, x.2.2.2.2.1, x.2.2.2.2.2.1, x.2.2.2.2.2.2.1, x.2.2.2.2.2.2.2.1, x.2.2.2.2.2.2.2.2.1, x.2.2.2.2.2.2.2.2.2.1, x.2.2.2.2.2.2.2.2.2.2.1, x.2.2.2.2.2.2.2.2.2.2.2.1, x.2.2.2.2.2.2.2.2.2.2.2.2.1, x.2.2.2.2.2.2.2.2.2.2.2.2.2.1, x.2.2.2.2.2.2.2.2.2.2.2.2.2.2.1, q1.1, q1.2, x.2.2.2.2.2.2.2.2.2.2.2.2.2.2.2.2.2)]) → va_S A s.heap H locs → lv_has ls 2 [(0, .ref (a o)), (1, .int p1)] → W p l e rm_X11_parsesC s m args below meth c H locs 0 0 Q (F0 m 49 ls []) := by
    intro  H locs ls hF hP hD hS hl
    rw [hJ49] at hF
    refine lv_aload_n hx hb dX11_parsesC_49 rfl (lv_at hl 0 rfl) ?_
    refine va_get (D := E.1) (ci := 13) (v := .ref (a (o + 8))) (C := RX11) (T := TX11) (N := 18) hx hb ha in_X11 hown hst.k hP 0 rfl rfl 17 (by decide) (ha _ mw1653) (fun _ h9 => h9) rfl dX11_parsesC_50 ?_
    refine lv_iload_n hx hb dX11_parsesC_53 rfl (lv_at hl 1 rfl) ?_
    refine lv_bipush (v := 105) hx hb dX11_parsesC_54 (by decide) ?_
    obtain ⟨g2, hF⟩ := q_gdi hF
    refine vi_iast hx hb hst.k hP hD hS 8 0 rfl rfl (k := p1.toNatClampNeg) rfl g2 dX11_parsesC_56 (fun H locs hP hD hS => ?_)
    have hP : va_P E.1 vwCl (List.flatten [w_Model E a o (x.1, x.2.1, x.2.2.1, x.2.2.2.1, x.2.2.2.2.1, x.2.2.2.2.2.1, x.2.2.2.2.2.2.1, x.2.2.2.2.2.2.2.1, x.2.2.2.2.2.2.2.2.1, x.2.2.2.2.2.2.2.2.2.1, x.2.2.2.2.2.2.2.2.2.2.1, x.2.2.2.2.2.2.2.2.2.2.2.1, x.2.2.2.2.2.2.2.2.2.2.2.2.1, x.2.2.2.2.2.2.2.2.2.2.2.2.2.1, x.2.2.2.2.2.2.2.2.2.2.2.2.2.2.1, q1.1, q1.2, upd x.2.2.2.2.2.2.2.2.2.2.2.2.2.2.2.2.2 (p1.toNatClampNeg) 105)]) H := hP
    have hD : va_D A (List.flatten [w_Model E a o (x.1, x.2.1, x.2.2.1, x.2.2.2.1, x.2.2.2.2.1, x.2.2.2.2.2.1, x.2.2.2.2.2.2.1, x.2.2.2.2.2.2.2.1, x.2.2.2.2.2.2.2.2.1, x.2.2.2.2.2.2.2.2.2.1, x.2.2.2.2.2.2.2.2.2.2.1, x.2.2.2.2.2.2.2.2.2.2.2.1, x.2.2.2.2.2.2.2.2.2.2.2.2.1, x.2.2.2.2.2.2.2.2.2.2.2.2.2.1, x.2.2.2.2.2.2.2.2.2.2.2.2.2.2.1, q1.1, q1.2, upd x.2.2.2.2.2.2.2.2.2.2.2.2.2.2.2.2.2 (p1.toNatClampNeg) 105)]) := hD
    refine lv_aload_n hx hb dX11_parsesC_57 rfl (lv_at hl 0 rfl) ?_
    refine lv_bipush (v := 105) hx hb dX11_parsesC_58 (by decide) ?_
    refine lv_bipush (v := 102) hx hb dX11_parsesC_60 (by decide) ?_
    refine lv_bipush (v := 102) hx hb dX11_parsesC_62 (by decide) ?_
    obtain ⟨q3, hq3, hF⟩ := q_bdi hF
    refine cl_v (Lc := [w_Model E a o (x.1, x.2.1, x.2.2.1, x.2.2.2.1, x.2.2.2.2.1, x.2.2.2.2.2.1, x.2.2.2.2.2.2.1, x.2.2.2.2.2.2.2.1, x.2.2.2.2.2.2.2.2.1, x.2.2.2.2.2.2.2.2.2.1, x.2.2.2.2.2.2.2.2.2.2.1, x.2.2.2.2.2.2.2.2.2.2.2.1, x.2.2.2.2.2.2.2.2.2.2.2.2.1, x.2.2.2.2.2.2.2.2.2.2.2.2.2.1, x.2.2.2.2.2.2.2.2.2.2.2.2.2.2.1, q1.1, q1.2, upd x.2.2.2.2.2.2.2.2.2.2.2.2.2.2.2.2.2 (p1.toNatClampNeg) 105)]) (Lc' := [w_Model E a o (x.1, x.2.1, x.2.2.1, x.2.2.2.1, x.2.2.2.2.1, x.2.2.2.2.2.1, x.2.2.2.2.2.2.1, x.2.2.2.2.2.2.2.1, x.2.2.2.2.2.2.2.2.1, x.2.2.2.2.2.2.2.2.2.1, x.2.2.2.2.2.2.2.2.2.2.1, x.2.2.2.2.2.2.2.2.2.2.2.1, x.2.2.2.2.2.2.2.2.2.2.2.2.1, x.2.2.2.2.2.2.2.2.2.2.2.2.2.1, x.2.2.2.2.2.2.2.2.2.2.2.2.2.2.1, q3.1, q3.2, upd x.2.2.2.2.2.2.2.2.2.2.2.2.2.2.2.2.2 (p1.toNatClampNeg) 105)]) (L' := [w_Model E a o (x.1, x.2.1, x.2.2.1, x.2.2.2.1, x.2.2.2.2.1, x.2.2.2.2.2.1, x.2.2.2.2.2.2.1, x.2.2.2.2.2.2.2.1, x.2.2.2.2.2.2.2.2.1, x.2.2.2.2.2.2.2.2.2.1, x.2.2.2.2.2.2.2.2.2.2.1, x.2.2.2.2.2.2.2.2.2.2.2.1, x.2.2.2.2.2.2.2.2.2.2.2.2.1, x.2.2.2.2.2.2.2.2.2.2.2.2.2.1, x.2.2.2.2.2.2.2.2.2.2.2.2.2.2.1, q3.1, q3.2, upd x.2.2.2.2.2.2.2.2.2.2.2.2.2.2.2.2.2 (p1.toNatClampNeg) 105)]) (va_runV (As := [.int 105, .int 102, .int 102]) (rest := []) ⟨hx, hb, hml, hown, ha⟩ (k_X11_needsThree l E a o (x.1, x.2.1, x.2.2.1, x.2.2.2.1, x.2.2.2.2.1, x.2.2.2.2.2.1, x.2.2.2.2.2.2.1, x.2.2.2.2.2.2.2.1, x.2.2.2.2.2.2.2.2.1, x.2.2.2.2.2.2.2.2.2.1, x.2.2.2.2.2.2.2.2.2.2.1, x.2.2.2.2.2.2.2.2.2.2.2.1, x.2.2.2.2.2.2.2.2.2.2.2.2.1, x.2.2.2.2.2.2.2.2.2.2.2.2.2.1, x.2.2.2.2.2.2.2.2.2.2.2.2.2.2.1, q1.1, q1.2, upd x.2.2.2.2.2.2.2.2.2.2.2.2.2.2.2.2.2 (p1.toNatClampNeg) 105) 105 102 102 q3 hq3 H.size) (cwV 3 ha (gi_V (fun _ h => h) mw2042 mw2044 mw61 mw87 mw2045) rfl rfl rfl hv_X11_needsThree ⟨(Nat.le_of_ble_eq_true rfl), (Nat.le_of_ble_eq_true rfl)⟩) ⟨pre_blind, va_recv hst.k (fr_P hP [0] rfl) (ci := 13) (q0 := 0) rfl rfl, pre_at hP hD hS hz hzs hst [0] (by decide) rfl rfl⟩ rfl rfl hl.1 rfl (lv_room (Nat.le_of_ble_eq_true rfl)) dX11_parsesC_64 ⟨(Nat.le_of_ble_eq_true rfl), (Nat.le_of_ble_eq_true rfl)⟩) hP hD hS hA [0] (by decide) rfl rfl rfl rfl (fun H locs hP hD hS => ?_)
    refine lv_aload_n hx hb dX11_parsesC_67 rfl (lv_at hl 0 rfl) ?_
    refine va_get (D := E.1) (ci := 13) (v := .ref (a (o + 8))) (C := RX11) (T := TX11) (N := 18) hx hb ha in_X11 hown hst.k hP 0 rfl rfl 17 (by decide) (ha _ mw1653) (fun _ h9 => h9) rfl dX11_parsesC_68 ?_
    refine lv_iload_n hx hb dX11_parsesC_71 rfl (lv_at hl 1 rfl) ?_
    refine lv_iconst (v := 1) hx hb dX11_parsesC_72 (by decide) ?_
    refine lv_iadd hx hb dX11_parsesC_73 ?_
    refine lv_aload_n hx hb dX11_parsesC_74 rfl (lv_at hl 0 rfl) ?_
    refine lv_iconst (v := 1) hx hb dX11_parsesC_75 (by decide) ?_
    refine lv_iconst (v := 1) hx hb dX11_parsesC_76 (by decide) ?_
    obtain ⟨q4, hq4, hF⟩ := q_bdi hF
    refine cl_i (Lc := [w_Model E a o (x.1, x.2.1, x.2.2.1, x.2.2.2.1, x.2.2.2.2.1, x.2.2.2.2.2.1, x.2.2.2.2.2.2.1, x.2.2.2.2.2.2.2.1, x.2.2.2.2.2.2.2.2.1, x.2.2.2.2.2.2.2.2.2.1, x.2.2.2.2.2.2.2.2.2.2.1, x.2.2.2.2.2.2.2.2.2.2.2.1, x.2.2.2.2.2.2.2.2.2.2.2.2.1, x.2.2.2.2.2.2.2.2.2.2.2.2.2.1, x.2.2.2.2.2.2.2.2.2.2.2.2.2.2.1, q3.1, q3.2, upd x.2.2.2.2.2.2.2.2.2.2.2.2.2.2.2.2.2 (p1.toNatClampNeg) 105)]) (Lc' := [w_Model E a o (x.1, x.2.1, x.2.2.1, x.2.2.2.1, x.2.2.2.2.1, x.2.2.2.2.2.1, x.2.2.2.2.2.2.1, x.2.2.2.2.2.2.2.1, x.2.2.2.2.2.2.2.2.1, x.2.2.2.2.2.2.2.2.2.1, x.2.2.2.2.2.2.2.2.2.2.1, x.2.2.2.2.2.2.2.2.2.2.2.1, x.2.2.2.2.2.2.2.2.2.2.2.2.1, x.2.2.2.2.2.2.2.2.2.2.2.2.2.1, x.2.2.2.2.2.2.2.2.2.2.2.2.2.2.1, q4.2.1, q4.2.2, upd x.2.2.2.2.2.2.2.2.2.2.2.2.2.2.2.2.2 (p1.toNatClampNeg) 105)]) (L' := [w_Model E a o (x.1, x.2.1, x.2.2.1, x.2.2.2.1, x.2.2.2.2.1, x.2.2.2.2.2.1, x.2.2.2.2.2.2.1, x.2.2.2.2.2.2.2.1, x.2.2.2.2.2.2.2.2.1, x.2.2.2.2.2.2.2.2.2.1, x.2.2.2.2.2.2.2.2.2.2.1, x.2.2.2.2.2.2.2.2.2.2.2.1, x.2.2.2.2.2.2.2.2.2.2.2.2.1, x.2.2.2.2.2.2.2.2.2.2.2.2.2.1, x.2.2.2.2.2.2.2.2.2.2.2.2.2.2.1, q4.2.1, q4.2.2, upd x.2.2.2.2.2.2.2.2.2.2.2.2.2.2.2.2.2 (p1.toNatClampNeg) 105)]) (rv := q4.1) (va_runV (As := [.int 1, .int 1]) (rest := [.int (p1 + 1), .ref (a (o + 8))]) ⟨hx, hb, hml, hown, ha⟩ (k_X11_afterBlank l E a o (x.1, x.2.1, x.2.2.1, x.2.2.2.1, x.2.2.2.2.1, x.2.2.2.2.2.1, x.2.2.2.2.2.2.1, x.2.2.2.2.2.2.2.1, x.2.2.2.2.2.2.2.2.1, x.2.2.2.2.2.2.2.2.2.1, x.2.2.2.2.2.2.2.2.2.2.1, x.2.2.2.2.2.2.2.2.2.2.2.1, x.2.2.2.2.2.2.2.2.2.2.2.2.1, x.2.2.2.2.2.2.2.2.2.2.2.2.2.1, x.2.2.2.2.2.2.2.2.2.2.2.2.2.2.1, q3.1, q3.2, upd x.2.2.2.2.2.2.2.2.2.2.2.2.2.2.2.2.2 (p1.toNatClampNeg) 105) 1 1 q4 hq4 H.size) (cwV 2 ha (gi_V (fun _ h => h) mw2050 mw2052 mw63 mw87 mw2053) rfl rfl rfl hv_X11_afterBlank ⟨(Nat.le_of_ble_eq_true rfl), (Nat.le_of_ble_eq_true rfl)⟩) ⟨pre_blind, va_recv hst.k (fr_P hP [0] rfl) (ci := 13) (q0 := 0) rfl rfl, pre_at hP hD hS hz hzs hst [0] (by decide) rfl rfl⟩ rfl rfl hl.1 rfl (lv_room (Nat.le_of_ble_eq_true rfl)) dX11_parsesC_77 ⟨(Nat.le_of_ble_eq_true rfl), (Nat.le_of_ble_eq_true rfl)⟩) hP hD hS hA [0] (by decide) rfl rfl rfl rfl (fun H locs hP hD hS => ?_)
    obtain ⟨g5, hF⟩ := q_gdi hF
    refine vi_iast hx hb hst.k hP hD hS 8 0 rfl rfl (k := (p1 + 1).toNatClampNeg) rfl g5 dX11_parsesC_80 (fun H locs hP hD hS => ?_)
    have hP : va_P E.1 vwCl (List.flatten [w_Model E a o (x.1, x.2.1, x.2.2.1, x.2.2.2.1, x.2.2.2.2.1, x.2.2.2.2.2.1, x.2.2.2.2.2.2.1, x.2.2.2.2.2.2.2.1, x.2.2.2.2.2.2.2.2.1, x.2.2.2.2.2.2.2.2.2.1, x.2.2.2.2.2.2.2.2.2.2.1, x.2.2.2.2.2.2.2.2.2.2.2.1, x.2.2.2.2.2.2.2.2.2.2.2.2.1, x.2.2.2.2.2.2.2.2.2.2.2.2.2.1, x.2.2.2.2.2.2.2.2.2.2.2.2.2.2.1, q4.2.1, q4.2.2, upd (upd x.2.2.2.2.2.2.2.2.2.2.2.2.2.2.2.2.2 (p1.toNatClampNeg) 105) ((p1 + 1).toNatClampNeg) q4.1)]) H := hP
    have hD : va_D A (List.flatten [w_Model E a o (x.1, x.2.1, x.2.2.1, x.2.2.2.1, x.2.2.2.2.1, x.2.2.2.2.2.1, x.2.2.2.2.2.2.1, x.2.2.2.2.2.2.2.1, x.2.2.2.2.2.2.2.2.1, x.2.2.2.2.2.2.2.2.2.1, x.2.2.2.2.2.2.2.2.2.2.1, x.2.2.2.2.2.2.2.2.2.2.2.1, x.2.2.2.2.2.2.2.2.2.2.2.2.1, x.2.2.2.2.2.2.2.2.2.2.2.2.2.1, x.2.2.2.2.2.2.2.2.2.2.2.2.2.2.1, q4.2.1, q4.2.2, upd (upd x.2.2.2.2.2.2.2.2.2.2.2.2.2.2.2.2.2 (p1.toNatClampNeg) 105) ((p1 + 1).toNatClampNeg) q4.1)]) := hD
    refine lv_aload_n hx hb dX11_parsesC_81 rfl (lv_at hl 0 rfl) ?_
    refine va_get (D := E.1) (ci := 13) (v := .ref (a (o + 8))) (C := RX11) (T := TX11) (N := 18) hx hb ha in_X11 hown hst.k hP 0 rfl rfl 17 (by decide) (ha _ mw1653) (fun _ h9 => h9) rfl dX11_parsesC_82 ?_
    refine lv_iload_n hx hb dX11_parsesC_85 rfl (lv_at hl 1 rfl) ?_
    refine lv_iconst (v := 2) hx hb dX11_parsesC_86 (by decide) ?_
    refine lv_iadd hx hb dX11_parsesC_87 ?_
    refine lv_aload_n hx hb dX11_parsesC_88 rfl (lv_at hl 0 rfl) ?_
    obtain ⟨q6, hq6, hF⟩ := q_bdi hF
    refine cl_i (Lc := [w_Model E a o (x.1, x.2.1, x.2.2.1, x.2.2.2.1, x.2.2.2.2.1, x.2.2.2.2.2.1, x.2.2.2.2.2.2.1, x.2.2.2.2.2.2.2.1, x.2.2.2.2.2.2.2.2.1, x.2.2.2.2.2.2.2.2.2.1, x.2.2.2.2.2.2.2.2.2.2.1, x.2.2.2.2.2.2.2.2.2.2.2.1, x.2.2.2.2.2.2.2.2.2.2.2.2.1, x.2.2.2.2.2.2.2.2.2.2.2.2.2.1, x.2.2.2.2.2.2.2.2.2.2.2.2.2.2.1, q4.2.1, q4.2.2, upd (upd x.2.2.2.2.2.2.2.2.2.2.2.2.2.2.2.2.2 (p1.toNatClampNeg) 105) ((p1 + 1).toNatClampNeg) q4.1)]) (Lc' := [w_Model E a o (x.1, x.2.1, x.2.2.1, x.2.2.2.1, x.2.2.2.2.1, x.2.2.2.2.2.1, x.2.2.2.2.2.2.1, x.2.2.2.2.2.2.2.1, x.2.2.2.2.2.2.2.2.1, x.2.2.2.2.2.2.2.2.2.1, x.2.2.2.2.2.2.2.2.2.2.1, x.2.2.2.2.2.2.2.2.2.2.2.1, x.2.2.2.2.2.2.2.2.2.2.2.2.1, x.2.2.2.2.2.2.2.2.2.2.2.2.2.1, x.2.2.2.2.2.2.2.2.2.2.2.2.2.2.1, q6.2.1, q6.2.2, upd (upd x.2.2.2.2.2.2.2.2.2.2.2.2.2.2.2.2.2 (p1.toNatClampNeg) 105) ((p1 + 1).toNatClampNeg) q4.1)]) (L' := [w_Model E a o (x.1, x.2.1, x.2.2.1, x.2.2.2.1, x.2.2.2.2.1, x.2.2.2.2.2.1, x.2.2.2.2.2.2.1, x.2.2.2.2.2.2.2.1, x.2.2.2.2.2.2.2.2.1, x.2.2.2.2.2.2.2.2.2.1, x.2.2.2.2.2.2.2.2.2.2.1, x.2.2.2.2.2.2.2.2.2.2.2.1, x.2.2.2.2.2.2.2.2.2.2.2.2.1, x.2.2.2.2.2.2.2.2.2.2.2.2.2.1, x.2.2.2.2.2.2.2.2.2.2.2.2.2.2.1, q6.2.1, q6.2.2, upd (upd x.2.2.2.2.2.2.2.2.2.2.2.2.2.2.2.2.2 (p1.toNatClampNeg) 105) ((p1 + 1).toNatClampNeg) q4.1)]) (rv := q6.1) (va_runV (As := []) (rest := [.int (p1 + 2), .ref (a (o + 8))]) ⟨hx, hb, hml, hown, ha⟩ (k_X11_signed l E a o (x.1, x.2.1, x.2.2.1, x.2.2.2.1, x.2.2.2.2.1, x.2.2.2.2.2.1, x.2.2.2.2.2.2.1, x.2.2.2.2.2.2.2.1, x.2.2.2.2.2.2.2.2.1, x.2.2.2.2.2.2.2.2.2.1, x.2.2.2.2.2.2.2.2.2.2.1, x.2.2.2.2.2.2.2.2.2.2.2.1, x.2.2.2.2.2.2.2.2.2.2.2.2.1, x.2.2.2.2.2.2.2.2.2.2.2.2.2.1, x.2.2.2.2.2.2.2.2.2.2.2.2.2.2.1, q4.2.1, q4.2.2, upd (upd x.2.2.2.2.2.2.2.2.2.2.2.2.2.2.2.2.2 (p1.toNatClampNeg) 105) ((p1 + 1).toNatClampNeg) q4.1) q6 hq6 H.size) (cwV 0 ha (gi_V (fun _ h => h) mw2062 mw2064 mw66 mw87 mw2065) rfl rfl rfl hv_X11_signed ⟨(Nat.le_of_ble_eq_true rfl), (Nat.le_of_ble_eq_true rfl)⟩) ⟨pre_blind, va_recv hst.k (fr_P hP [0] rfl) (ci := 13) (q0 := 0) rfl rfl, pre_at hP hD hS hz hzs hst [0] (by decide) rfl rfl⟩ rfl rfl hl.1 rfl (lv_room (Nat.le_of_ble_eq_true rfl)) dX11_parsesC_89 ⟨(Nat.le_of_ble_eq_true rfl), (Nat.le_of_ble_eq_true rfl)⟩) hP hD hS hA [0] (by decide) rfl rfl rfl rfl (fun H locs hP hD hS => ?_)
    obtain ⟨g7, hF⟩ := q_gdi hF
    refine vi_iast hx hb hst.k hP hD hS 8 0 rfl rfl (k := (p1 + 2).toNatClampNeg) rfl g7 dX11_parsesC_92 (fun H locs hP hD hS => ?_)
    have hP : va_P E.1 vwCl (List.flatten [w_Model E a o (x.1, x.2.1, x.2.2.1, x.2.2.2.1, x.2.2.2.2.1, x.2.2.2.2.2.1, x.2.2.2.2.2.2.1, x.2.2.2.2.2.2.2.1, x.2.2.2.2.2.2.2.2.1, x.2.2.2.2.2.2.2.2.2.1, x.2.2.2.2.2.2.2.2.2.2.1, x.2.2.2.2.2.2.2.2.2.2.2.1, x.2.2.2.2.2.2.2.2.2.2.2.2.1, x.2.2.2.2.2.2.2.2.2.2.2.2.2.1, x.2.2.2.2.2.2.2.2.2.2.2.2.2.2.1, q6.2.1, q6.2.2, upd (upd (upd x.2.2.2.2.2.2.2.2.2.2.2.2.2.2.2.2.2 (p1.toNatClampNeg) 105) ((p1 + 1).toNatClampNeg) q4.1) ((p1 + 2).toNatClampNeg) q6.1)]) H := hP
    have hD : va_D A (List.flatten [w_Model E a o (x.1, x.2.1, x.2.2.1, x.2.2.2.1, x.2.2.2.2.1, x.2.2.2.2.2.1, x.2.2.2.2.2.2.1, x.2.2.2.2.2.2.2.1, x.2.2.2.2.2.2.2.2.1, x.2.2.2.2.2.2.2.2.2.1, x.2.2.2.2.2.2.2.2.2.2.1, x.2.2.2.2.2.2.2.2.2.2.2.1, x.2.2.2.2.2.2.2.2.2.2.2.2.1, x.2.2.2.2.2.2.2.2.2.2.2.2.2.1, x.2.2.2.2.2.2.2.2.2.2.2.2.2.2.1, q6.2.1, q6.2.2, upd (upd (upd x.2.2.2.2.2.2.2.2.2.2.2.2.2.2.2.2.2 (p1.toNatClampNeg) 105) ((p1 + 1).toNatClampNeg) q4.1) ((p1 + 2).toNatClampNeg) q6.1)]) := hD
    obtain rfl := Option.some.inj hF
    exact en_v hQ (Nat.le_of_ble_eq_true rfl) (Nat.le_of_ble_eq_true rfl) hx hb hr hlocks hP hD hS dX11_parsesC_93
  refine lv_if_ne (tgt := 49) hx hb dX11_parsesC_10 (by decide) (fun c10 => ?_) (fun c10 => ?_)
  · have hF := q_brn c10 hF
    exact jJ49 H locs ls hF hP hD hS (lv_sub hl [0, 1] rfl)
  · have hF := q_brp c10 hF
    refine lv_aload_n hx hb dX11_parsesC_13 rfl (lv_at hl 0 rfl) ?_
    obtain ⟨q8, hq8, hF⟩ := q_bdi hF
    refine cl_i (Lc := [w_Model E a o (x.1, x.2.1, x.2.2.1, x.2.2.2.1, x.2.2.2.2.1, x.2.2.2.2.2.1, x.2.2.2.2.2.2.1, x.2.2.2.2.2.2.2.1, x.2.2.2.2.2.2.2.2.1, x.2.2.2.2.2.2.2.2.2.1, x.2.2.2.2.2.2.2.2.2.2.1, x.2.2.2.2.2.2.2.2.2.2.2.1, x.2.2.2.2.2.2.2.2.2.2.2.2.1, x.2.2.2.2.2.2.2.2.2.2.2.2.2.1, x.2.2.2.2.2.2.2.2.2.2.2.2.2.2.1, q1.1, q1.2, x.2.2.2.2.2.2.2.2.2.2.2.2.2.2.2.2.2)]) (Lc' := [w_Model E a o (x.1, x.2.1, x.2.2.1, x.2.2.2.1, x.2.2.2.2.1, x.2.2.2.2.2.1, x.2.2.2.2.2.2.1, x.2.2.2.2.2.2.2.1, x.2.2.2.2.2.2.2.2.1, x.2.2.2.2.2.2.2.2.2.1, x.2.2.2.2.2.2.2.2.2.2.1, x.2.2.2.2.2.2.2.2.2.2.2.1, x.2.2.2.2.2.2.2.2.2.2.2.2.1, x.2.2.2.2.2.2.2.2.2.2.2.2.2.1, x.2.2.2.2.2.2.2.2.2.2.2.2.2.2.1, q1.1, q1.2, x.2.2.2.2.2.2.2.2.2.2.2.2.2.2.2.2.2)]) (L' := [w_Model E a o (x.1, x.2.1, x.2.2.1, x.2.2.2.1, x.2.2.2.2.1, x.2.2.2.2.2.1, x.2.2.2.2.2.2.1, x.2.2.2.2.2.2.2.1, x.2.2.2.2.2.2.2.2.1, x.2.2.2.2.2.2.2.2.2.1, x.2.2.2.2.2.2.2.2.2.2.1, x.2.2.2.2.2.2.2.2.2.2.2.1, x.2.2.2.2.2.2.2.2.2.2.2.2.1, x.2.2.2.2.2.2.2.2.2.2.2.2.2.1, x.2.2.2.2.2.2.2.2.2.2.2.2.2.2.1, q1.1, q1.2, x.2.2.2.2.2.2.2.2.2.2.2.2.2.2.2.2.2)]) (rv := q8) (va_runV (As := []) (rest := []) ⟨hx, hb, hml, hown, ha⟩ (k_X11_here l E a o (x.1, x.2.1, x.2.2.1, x.2.2.2.1, x.2.2.2.2.1, x.2.2.2.2.2.1, x.2.2.2.2.2.2.1, x.2.2.2.2.2.2.2.1, x.2.2.2.2.2.2.2.2.1, x.2.2.2.2.2.2.2.2.2.1, x.2.2.2.2.2.2.2.2.2.2.1, x.2.2.2.2.2.2.2.2.2.2.2.1, x.2.2.2.2.2.2.2.2.2.2.2.2.1, x.2.2.2.2.2.2.2.2.2.2.2.2.2.1, x.2.2.2.2.2.2.2.2.2.2.2.2.2.2.1, q1.1, q1.2, x.2.2.2.2.2.2.2.2.2.2.2.2.2.2.2.2.2) q8 hq8 H.size) (cwV 0 ha (gi_V (fun _ h => h) mw2038 mw2040 mw60 mw87 mw2041) rfl rfl rfl hv_X11_here ⟨(Nat.le_of_ble_eq_true rfl), (Nat.le_of_ble_eq_true rfl)⟩) ⟨pre_blind, va_recv hst.k (fr_P hP [0] rfl) (ci := 13) (q0 := 0) rfl rfl, pre_at hP hD hS hz hzs hst [0] (by decide) rfl rfl⟩ rfl rfl hl.1 rfl (lv_room (Nat.le_of_ble_eq_true rfl)) dX11_parsesC_14 ⟨(Nat.le_of_ble_eq_true rfl), (Nat.le_of_ble_eq_true rfl)⟩) hP hD hS hA [0] (by decide) rfl rfl rfl rfl (fun H locs hP hD hS => ?_)
    refine lv_bipush (v := 101) hx hb dX11_parsesC_17 (by decide) ?_
    refine lv_icmp_ne (tgt := 49) hx hb dX11_parsesC_19 (by decide) (fun c19 => ?_) (fun c19 => ?_)
    · have hF := q_brn c19 hF
      exact jJ49 H locs ls hF hP hD hS (lv_sub hl [0, 1] rfl)
    · have hF := q_brp c19 hF
      refine lv_aload_n hx hb dX11_parsesC_22 rfl (lv_at hl 0 rfl) ?_
      refine lv_bipush (v := 101) hx hb dX11_parsesC_23 (by decide) ?_
      refine lv_bipush (v := 97) hx hb dX11_parsesC_25 (by decide) ?_
      refine lv_bipush (v := 114) hx hb dX11_parsesC_27 (by decide) ?_
      obtain ⟨q9, hq9, hF⟩ := q_bdi hF
      refine cl_v (Lc := [w_Model E a o (x.1, x.2.1, x.2.2.1, x.2.2.2.1, x.2.2.2.2.1, x.2.2.2.2.2.1, x.2.2.2.2.2.2.1, x.2.2.2.2.2.2.2.1, x.2.2.2.2.2.2.2.2.1, x.2.2.2.2.2.2.2.2.2.1, x.2.2.2.2.2.2.2.2.2.2.1, x.2.2.2.2.2.2.2.2.2.2.2.1, x.2.2.2.2.2.2.2.2.2.2.2.2.1, x.2.2.2.2.2.2.2.2.2.2.2.2.2.1, x.2.2.2.2.2.2.2.2.2.2.2.2.2.2.1, q1.1, q1.2, x.2.2.2.2.2.2.2.2.2.2.2.2.2.2.2.2.2)]) (Lc' := [w_Model E a o (x.1, x.2.1, x.2.2.1, x.2.2.2.1, x.2.2.2.2.1, x.2.2.2.2.2.1, x.2.2.2.2.2.2.1, x.2.2.2.2.2.2.2.1, x.2.2.2.2.2.2.2.2.1, x.2.2.2.2.2.2.2.2.2.1, x.2.2.2.2.2.2.2.2.2.2.1, x.2.2.2.2.2.2.2.2.2.2.2.1, x.2.2.2.2.2.2.2.2.2.2.2.2.1, x.2.2.2.2.2.2.2.2.2.2.2.2.2.1, x.2.2.2.2.2.2.2.2.2.2.2.2.2.2.1, q9.1, q9.2, x.2.2.2.2.2.2.2.2.2.2.2.2.2.2.2.2.2)]) (L' := [w_Model E a o (x.1, x.2.1, x.2.2.1, x.2.2.2.1, x.2.2.2.2.1, x.2.2.2.2.2.1, x.2.2.2.2.2.2.1, x.2.2.2.2.2.2.2.1, x.2.2.2.2.2.2.2.2.1, x.2.2.2.2.2.2.2.2.2.1, x.2.2.2.2.2.2.2.2.2.2.1, x.2.2.2.2.2.2.2.2.2.2.2.1, x.2.2.2.2.2.2.2.2.2.2.2.2.1, x.2.2.2.2.2.2.2.2.2.2.2.2.2.1, x.2.2.2.2.2.2.2.2.2.2.2.2.2.2.1, q9.1, q9.2, x.2.2.2.2.2.2.2.2.2.2.2.2.2.2.2.2.2)]) (va_runV (As := [.int 101, .int 97, .int 114]) (rest := []) ⟨hx, hb, hml, hown, ha⟩ (k_X11_needsThree l E a o (x.1, x.2.1, x.2.2.1, x.2.2.2.1, x.2.2.2.2.1, x.2.2.2.2.2.1, x.2.2.2.2.2.2.1, x.2.2.2.2.2.2.2.1, x.2.2.2.2.2.2.2.2.1, x.2.2.2.2.2.2.2.2.2.1, x.2.2.2.2.2.2.2.2.2.2.1, x.2.2.2.2.2.2.2.2.2.2.2.1, x.2.2.2.2.2.2.2.2.2.2.2.2.1, x.2.2.2.2.2.2.2.2.2.2.2.2.2.1, x.2.2.2.2.2.2.2.2.2.2.2.2.2.2.1, q1.1, q1.2, x.2.2.2.2.2.2.2.2.2.2.2.2.2.2.2.2.2) 101 97 114 q9 hq9 H.size) (cwV 3 ha (gi_V (fun _ h => h) mw2042 mw2044 mw61 mw87 mw2045) rfl rfl rfl hv_X11_needsThree ⟨(Nat.le_of_ble_eq_true rfl), (Nat.le_of_ble_eq_true rfl)⟩) ⟨pre_blind, va_recv hst.k (fr_P hP [0] rfl) (ci := 13) (q0 := 0) rfl rfl, pre_at hP hD hS hz hzs hst [0] (by decide) rfl rfl⟩ rfl rfl hl.1 rfl (lv_room (Nat.le_of_ble_eq_true rfl)) dX11_parsesC_29 ⟨(Nat.le_of_ble_eq_true rfl), (Nat.le_of_ble_eq_true rfl)⟩) hP hD hS hA [0] (by decide) rfl rfl rfl rfl (fun H locs hP hD hS => ?_)
      refine lv_aload_n hx hb dX11_parsesC_32 rfl (lv_at hl 0 rfl) ?_
      refine va_get (D := E.1) (ci := 13) (v := .ref (a (o + 8))) (C := RX11) (T := TX11) (N := 18) hx hb ha in_X11 hown hst.k hP 0 rfl rfl 17 (by decide) (ha _ mw1653) (fun _ h9 => h9) rfl dX11_parsesC_33 ?_
      refine lv_iload_n hx hb dX11_parsesC_36 rfl (lv_at hl 1 rfl) ?_
      refine lv_iconst (v := 1) hx hb dX11_parsesC_37 (by decide) ?_
      refine lv_iadd hx hb dX11_parsesC_38 ?_
      refine lv_aload_n hx hb dX11_parsesC_39 rfl (lv_at hl 0 rfl) ?_
      refine lv_iconst (v := 1) hx hb dX11_parsesC_40 (by decide) ?_
      refine lv_iconst (v := 1) hx hb dX11_parsesC_41 (by decide) ?_
      obtain ⟨q10, hq10, hF⟩ := q_bdi hF
      refine cl_i (Lc := [w_Model E a o (x.1, x.2.1, x.2.2.1, x.2.2.2.1, x.2.2.2.2.1, x.2.2.2.2.2.1, x.2.2.2.2.2.2.1, x.2.2.2.2.2.2.2.1, x.2.2.2.2.2.2.2.2.1, x.2.2.2.2.2.2.2.2.2.1, x.2.2.2.2.2.2.2.2.2.2.1, x.2.2.2.2.2.2.2.2.2.2.2.1, x.2.2.2.2.2.2.2.2.2.2.2.2.1, x.2.2.2.2.2.2.2.2.2.2.2.2.2.1, x.2.2.2.2.2.2.2.2.2.2.2.2.2.2.1, q9.1, q9.2, x.2.2.2.2.2.2.2.2.2.2.2.2.2.2.2.2.2)]) (Lc' := [w_Model E a o (x.1, x.2.1, x.2.2.1, x.2.2.2.1, x.2.2.2.2.1, x.2.2.2.2.2.1, x.2.2.2.2.2.2.1, x.2.2.2.2.2.2.2.1, x.2.2.2.2.2.2.2.2.1, x.2.2.2.2.2.2.2.2.2.1, x.2.2.2.2.2.2.2.2.2.2.1, x.2.2.2.2.2.2.2.2.2.2.2.1, x.2.2.2.2.2.2.2.2.2.2.2.2.1, x.2.2.2.2.2.2.2.2.2.2.2.2.2.1, x.2.2.2.2.2.2.2.2.2.2.2.2.2.2.1, q10.2.1, q10.2.2, x.2.2.2.2.2.2.2.2.2.2.2.2.2.2.2.2.2)]) (L' := [w_Model E a o (x.1, x.2.1, x.2.2.1, x.2.2.2.1, x.2.2.2.2.1, x.2.2.2.2.2.1, x.2.2.2.2.2.2.1, x.2.2.2.2.2.2.2.1, x.2.2.2.2.2.2.2.2.1, x.2.2.2.2.2.2.2.2.2.1, x.2.2.2.2.2.2.2.2.2.2.1, x.2.2.2.2.2.2.2.2.2.2.2.1, x.2.2.2.2.2.2.2.2.2.2.2.2.1, x.2.2.2.2.2.2.2.2.2.2.2.2.2.1, x.2.2.2.2.2.2.2.2.2.2.2.2.2.2.1, q10.2.1, q10.2.2, x.2.2.2.2.2.2.2.2.2.2.2.2.2.2.2.2.2)]) (rv := q10.1) (va_runV (As := [.int 1, .int 1]) (rest := [.int (p1 + 1), .ref (a (o + 8))]) ⟨hx, hb, hml, hown, ha⟩ (k_X11_afterBlank l E a o (x.1, x.2.1, x.2.2.1, x.2.2.2.1, x.2.2.2.2.1, x.2.2.2.2.2.1, x.2.2.2.2.2.2.1, x.2.2.2.2.2.2.2.1, x.2.2.2.2.2.2.2.2.1, x.2.2.2.2.2.2.2.2.2.1, x.2.2.2.2.2.2.2.2.2.2.1, x.2.2.2.2.2.2.2.2.2.2.2.1, x.2.2.2.2.2.2.2.2.2.2.2.2.1, x.2.2.2.2.2.2.2.2.2.2.2.2.2.1, x.2.2.2.2.2.2.2.2.2.2.2.2.2.2.1, q9.1, q9.2, x.2.2.2.2.2.2.2.2.2.2.2.2.2.2.2.2.2) 1 1 q10 hq10 H.size) (cwV 2 ha (gi_V (fun _ h => h) mw2050 mw2052 mw63 mw87 mw2053) rfl rfl rfl hv_X11_afterBlank ⟨(Nat.le_of_ble_eq_true rfl), (Nat.le_of_ble_eq_true rfl)⟩) ⟨pre_blind, va_recv hst.k (fr_P hP [0] rfl) (ci := 13) (q0 := 0) rfl rfl, pre_at hP hD hS hz hzs hst [0] (by decide) rfl rfl⟩ rfl rfl hl.1 rfl (lv_room (Nat.le_of_ble_eq_true rfl)) dX11_parsesC_42 ⟨(Nat.le_of_ble_eq_true rfl), (Nat.le_of_ble_eq_true rfl)⟩) hP hD hS hA [0] (by decide) rfl rfl rfl rfl (fun H locs hP hD hS => ?_)
      obtain ⟨g11, hF⟩ := q_gdi hF
      refine vi_iast hx hb hst.k hP hD hS 8 0 rfl rfl (k := (p1 + 1).toNatClampNeg) rfl g11 dX11_parsesC_45 (fun H locs hP hD hS => ?_)
      have hP : va_P E.1 vwCl (List.flatten [w_Model E a o (x.1, x.2.1, x.2.2.1, x.2.2.2.1, x.2.2.2.2.1, x.2.2.2.2.2.1, x.2.2.2.2.2.2.1, x.2.2.2.2.2.2.2.1, x.2.2.2.2.2.2.2.2.1, x.2.2.2.2.2.2.2.2.2.1, x.2.2.2.2.2.2.2.2.2.2.1, x.2.2.2.2.2.2.2.2.2.2.2.1, x.2.2.2.2.2.2.2.2.2.2.2.2.1, x.2.2.2.2.2.2.2.2.2.2.2.2.2.1, x.2.2.2.2.2.2.2.2.2.2.2.2.2.2.1, q10.2.1, q10.2.2, upd x.2.2.2.2.2.2.2.2.2.2.2.2.2.2.2.2.2 ((p1 + 1).toNatClampNeg) q10.1)]) H := hP
      have hD : va_D A (List.flatten [w_Model E a o (x.1, x.2.1, x.2.2.1, x.2.2.2.1, x.2.2.2.2.1, x.2.2.2.2.2.1, x.2.2.2.2.2.2.1, x.2.2.2.2.2.2.2.1, x.2.2.2.2.2.2.2.2.1, x.2.2.2.2.2.2.2.2.2.1, x.2.2.2.2.2.2.2.2.2.2.1, x.2.2.2.2.2.2.2.2.2.2.2.1, x.2.2.2.2.2.2.2.2.2.2.2.2.1, x.2.2.2.2.2.2.2.2.2.2.2.2.2.1, x.2.2.2.2.2.2.2.2.2.2.2.2.2.2.1, q10.2.1, q10.2.2, upd x.2.2.2.2.2.2.2.2.2.2.2.2.2.2.2.2.2 ((p1 + 1).toNatClampNeg) q10.1)]) := hD
      refine lv_goto (tgt := 93) hx hb dX11_parsesC_46 (by decide) ?_
      obtain rfl := Option.some.inj hF
      exact en_v hQ (Nat.le_of_ble_eq_true rfl) (Nat.le_of_ble_eq_true rfl) hx hb hr hlocks hP hD hS dX11_parsesC_93

/-! X11_parsesKey -/
theorem dX11_parsesKey_0 : decode cX11_parsesKey 0 = .ok (.aload_n 0, 1) := by decide +kernel
theorem dX11_parsesKey_1 : decode cX11_parsesKey 1 = .ok (.bipush 101, 2) := by decide +kernel
theorem dX11_parsesKey_3 : decode cX11_parsesKey 3 = .ok (.invokevirtual 198, 3) := by decide +kernel
theorem dX11_parsesKey_6 : decode cX11_parsesKey 6 = .ok (.aload_n 0, 1) := by decide +kernel
theorem dX11_parsesKey_7 : decode cX11_parsesKey 7 = .ok (.bipush 121, 2) := by decide +kernel
theorem dX11_parsesKey_9 : decode cX11_parsesKey 9 = .ok (.invokevirtual 198, 3) := by decide +kernel
theorem dX11_parsesKey_12 : decode cX11_parsesKey 12 = .ok (.aload_n 0, 1) := by decide +kernel
theorem dX11_parsesKey_13 : decode cX11_parsesKey 13 = .ok (.getfield 39, 3) := by decide +kernel
theorem dX11_parsesKey_16 : decode cX11_parsesKey 16 = .ok (.iload_n 1, 1) := by decide +kernel
theorem dX11_parsesKey_17 : decode cX11_parsesKey 17 = .ok (.iconst 1, 1) := by decide +kernel
theorem dX11_parsesKey_18 : decode cX11_parsesKey 18 = .ok (.iadd, 1) := by decide +kernel
theorem dX11_parsesKey_19 : decode cX11_parsesKey 19 = .ok (.aload_n 0, 1) := by decide +kernel
theorem dX11_parsesKey_20 : decode cX11_parsesKey 20 = .ok (.iconst 1, 1) := by decide +kernel
theorem dX11_parsesKey_21 : decode cX11_parsesKey 21 = .ok (.iconst 2, 1) := by decide +kernel
theorem dX11_parsesKey_22 : decode cX11_parsesKey 22 = .ok (.invokevirtual 208, 3) := by decide +kernel
theorem dX11_parsesKey_25 : decode cX11_parsesKey 25 = .ok (.iastore, 1) := by decide +kernel
theorem dX11_parsesKey_26 : decode cX11_parsesKey 26 = .ok (.aload_n 0, 1) := by decide +kernel
theorem dX11_parsesKey_27 : decode cX11_parsesKey 27 = .ok (.getfield 190, 3) := by decide +kernel
theorem dX11_parsesKey_30 : decode cX11_parsesKey 30 = .ok (.ifCond .ne 16, 3) := by decide +kernel
theorem dX11_parsesKey_33 : decode cX11_parsesKey 33 = .ok (.aload_n 0, 1) := by decide +kernel
theorem dX11_parsesKey_34 : decode cX11_parsesKey 34 = .ok (.invokevirtual 194, 3) := by decide +kernel
theorem dX11_parsesKey_37 : decode cX11_parsesKey 37 = .ok (.bipush 109, 2) := by decide +kernel
theorem dX11_parsesKey_39 : decode cX11_parsesKey 39 = .ok (.if_icmp .ne 7, 3) := by decide +kernel
theorem dX11_parsesKey_42 : decode cX11_parsesKey 42 = .ok (.iconst 1, 1) := by decide +kernel
theorem dX11_parsesKey_43 : decode cX11_parsesKey 43 = .ok (.goto 4, 3) := by decide +kernel
theorem dX11_parsesKey_46 : decode cX11_parsesKey 46 = .ok (.iconst 0, 1) := by decide +kernel
theorem dX11_parsesKey_47 : decode cX11_parsesKey 47 = .ok (.istore_n 2, 1) := by decide +kernel
theorem dX11_parsesKey_48 : decode cX11_parsesKey 48 = .ok (.aload_n 0, 1) := by decide +kernel
theorem dX11_parsesKey_49 : decode cX11_parsesKey 49 = .ok (.iload_n 2, 1) := by decide +kernel
theorem dX11_parsesKey_50 : decode cX11_parsesKey 50 = .ok (.ifCond .eq 8, 3) := by decide +kernel
theorem dX11_parsesKey_53 : decode cX11_parsesKey 53 = .ok (.bipush 109, 2) := by decide +kernel
theorem dX11_parsesKey_55 : decode cX11_parsesKey 55 = .ok (.goto 5, 3) := by decide +kernel
theorem dX11_parsesKey_58 : decode cX11_parsesKey 58 = .ok (.bipush 77, 2) := by decide +kernel
theorem dX11_parsesKey_60 : decode cX11_parsesKey 60 = .ok (.invokevirtual 198, 3) := by decide +kernel
theorem dX11_parsesKey_63 : decode cX11_parsesKey 63 = .ok (.aload_n 0, 1) := by decide +kernel
theorem dX11_parsesKey_64 : decode cX11_parsesKey 64 = .ok (.getfield 39, 3) := by decide +kernel
theorem dX11_parsesKey_67 : decode cX11_parsesKey 67 = .ok (.iload_n 1, 1) := by decide +kernel
theorem dX11_parsesKey_68 : decode cX11_parsesKey 68 = .ok (.iconst 2, 1) := by decide +kernel
theorem dX11_parsesKey_69 : decode cX11_parsesKey 69 = .ok (.iadd, 1) := by decide +kernel
theorem dX11_parsesKey_70 : decode cX11_parsesKey 70 = .ok (.iload_n 2, 1) := by decide +kernel
theorem dX11_parsesKey_71 : decode cX11_parsesKey 71 = .ok (.ifCond .eq 7, 3) := by decide +kernel
theorem dX11_parsesKey_74 : decode cX11_parsesKey 74 = .ok (.iconst 1, 1) := by decide +kernel
theorem dX11_parsesKey_75 : decode cX11_parsesKey 75 = .ok (.goto 4, 3) := by decide +kernel
theorem dX11_parsesKey_78 : decode cX11_parsesKey 78 = .ok (.iconst 0, 1) := by decide +kernel
theorem dX11_parsesKey_79 : decode cX11_parsesKey 79 = .ok (.iastore, 1) := by decide +kernel
theorem dX11_parsesKey_80 : decode cX11_parsesKey 80 = .ok (.return_, 1) := by decide +kernel
def f_X11_parsesKey (x_buffer : (Nat → Int32)) (x_typed : Int32) (x_spot : Int32) (x_isWrong : Int32) (x_parsed : (Nat → Int32)) (p1 : Int32) : Option (Int32 × Int32 × (Nat → Int32)) :=
  q_bd (f_X11_needs x_buffer x_typed x_spot x_isWrong 101) (fun q1 =>
  q_bd (f_X11_needs x_buffer x_typed q1.1 q1.2 121) (fun q2 =>
  q_bd (f_X11_afterBlank x_buffer x_typed q2.1 q2.2 1 2) (fun q3 =>
  q_gd (q_in (p1 + 1) 180) (
  q_lt (fun (j5 : Int32) =>
  q_lt (fun (j6 : Int32) =>
  q_bd (f_X11_needs x_buffer x_typed q3.2.1 q3.2.2 j6) (fun q7 =>
  q_lt (fun (j8 : Int32) =>
  q_gd (q_in (p1 + 2) 180) (
  some (q7.1, q7.2, upd (upd x_parsed ((p1 + 1).toNatClampNeg) q3.1) ((p1 + 2).toNatClampNeg) j8))) (fun (J79 : Int32 → Option (Int32 × Int32 × (Nat → Int32))) =>
  q_br (j5 = 0) (
  J79 0) (
  J79 1)))) (fun (J60 : Int32 → Option (Int32 × Int32 × (Nat → Int32))) =>
  q_br (j5 = 0) (
  J60 77) (
  J60 109))) (fun (J47 : Int32 → Option (Int32 × Int32 × (Nat → Int32))) =>
  q_br (q3.2.2 = 0) (
  q_bd (f_X11_here x_buffer x_typed q3.2.1) (fun q10 =>
  q_br (q10 = 109) (
  J47 1) (
  J47 0))) (
  J47 0))))))
theorem hv_X11_parsesKey : yX11_parsesKey.cls = RX11 ∧ yX11_parsesKey.cls ≠ "java/lang/invoke/MethodHandle" ∧ yX11_parsesKey.cls ≠ "java/lang/invoke/VarHandle" ∧ (parseMethodDescriptor yX11_parsesKey.desc).map (fun d => d.parameters.length) = some 1 := by decide +kernel
abbrev rm_X11_parsesKey : Room := { frames := 3, cells := 0, slots := 0, locals := 68 }
set_option maxHeartbeats 4000000 in
set_option maxRecDepth 100000 in
theorem k_X11_parsesKey (l : Launch) (E : ET) (a : Nat → Nat) (o : Nat) (x : Model_t) (p1 : Int32) (res : Int32 × Int32 × (Nat → Int32)) (hF : f_X11_parsesKey x.2.2.2.2.2.2.1 x.2.2.2.2.2.2.2.1 x.2.2.2.2.2.2.2.2.2.2.2.2.2.2.2.1 x.2.2.2.2.2.2.2.2.2.2.2.2.2.2.2.2.1 x.2.2.2.2.2.2.2.2.2.2.2.2.2.2.2.2.2 p1 = some res) (sz : Nat) : CtV l yX11_parsesKey (mws yX11_parsesKey cX11_parsesKey 3 none) rm_X11_parsesKey 0 0 [.ref (a o), .int p1] E (bl_Model E a o x) (bl_Model E a o (x.1, x.2.1, x.2.2.1, x.2.2.2.1, x.2.2.2.2.1, x.2.2.2.2.2.1, x.2.2.2.2.2.2.1, x.2.2.2.2.2.2.2.1, x.2.2.2.2.2.2.2.2.1, x.2.2.2.2.2.2.2.2.2.1, x.2.2.2.2.2.2.2.2.2.2.1, x.2.2.2.2.2.2.2.2.2.2.2.1, x.2.2.2.2.2.2.2.2.2.2.2.2.1, x.2.2.2.2.2.2.2.2.2.2.2.2.2.1, x.2.2.2.2.2.2.2.2.2.2.2.2.2.2.1, res.1, res.2.1, res.2.2)) sz := by
  refine mk_M (by decide +kernel) (Nat.le_of_ble_eq_true rfl) ?_
  intro p e s m below meth c A args Q ls hAe hsz hQ hx hb hr hml hin ha hown hlocks hA hz hzs hst hP hD hS hl
  have hown : s.vm.findClass RX11 = some m.cls := hown
  rw [hAe] at hQ
  subst hsz
  have hP : va_P E.1 vwCl (List.flatten [w_Model E a o x]) s.heap := hP
  have hD : va_D A (List.flatten [w_Model E a o x]) := hD
  have hl : lv_has ls 3 [(0, .ref (a o)), (1, .int p1)] := hl
  generalize hHe : s.heap = H at hP
  have hS : va_S A s.heap H [] := by rw [← hHe]; exact hS
  generalize ([] : List Loc) = locs at hS ⊢
  unfold f_X11_parsesKey at hF
  refine lv_aload_n hx hb dX11_parsesKey_0 rfl (lv_at hl 0 rfl) ?_
  refine lv_bipush (v := 101) hx hb dX11_parsesKey_1 (by decide) ?_
  obtain ⟨q1, hq1, hF⟩ := q_bdi hF
  refine cl_v (Lc := [w_Model E a o x]) (Lc' := [w_Model E a o (x.1, x.2.1, x.2.2.1, x.2.2.2.1, x.2.2.2.2.1, x.2.2.2.2.2.1, x.2.2.2.2.2.2.1, x.2.2.2.2.2.2.2.1, x.2.2.2.2.2.2.2.2.1, x.2.2.2.2.2.2.2.2.2.1, x.2.2.2.2.2.2.2.2.2.2.1, x.2.2.2.2.2.2.2.2.2.2.2.1, x.2.2.2.2.2.2.2.2.2.2.2.2.1, x.2.2.2.2.2.2.2.2.2.2.2.2.2.1, x.2.2.2.2.2.2.2.2.2.2.2.2.2.2.1, q1.1, q1.2, x.2.2.2.2.2.2.2.2.2.2.2.2.2.2.2.2.2)]) (L' := [w_Model E a o (x.1, x.2.1, x.2.2.1, x.2.2.2.1, x.2.2.2.2.1, x.2.2.2.2.2.1, x.2.2.2.2.2.2.1, x.2.2.2.2.2.2.2.1, x.2.2.2.2.2.2.2.2.1, x.2.2.2.2.2.2.2.2.2.1, x.2.2.2.2.2.2.2.2.2.2.1, x.2.2.2.2.2.2.2.2.2.2.2.1, x.2.2.2.2.2.2.2.2.2.2.2.2.1, x.2.2.2.2.2.2.2.2.2.2.2.2.2.1, x.2.2.2.2.2.2.2.2.2.2.2.2.2.2.1, q1.1, q1.2, x.2.2.2.2.2.2.2.2.2.2.2.2.2.2.2.2.2)]) (va_runV (As := [.int 101]) (rest := []) ⟨hx, hb, hml, hown, ha⟩ (k_X11_needs l E a o x 101 q1 hq1 H.size) (cwV 1 ha (gi_V (fun _ h => h) mw2046 mw2048 mw62 mw87 mw2049) rfl rfl rfl hv_X11_needs ⟨(Nat.le_of_ble_eq_true rfl), (Nat.le_of_ble_eq_true rfl)⟩) ⟨pre_blind, va_recv hst.k (fr_P hP [0] rfl) (ci := 13) (q0 := 0) rfl rfl, pre_at hP hD hS hz hzs hst [0] (by decide) rfl rfl⟩ rfl rfl hl.1 rfl (lv_room (Nat.le_of_ble_eq_true rfl)) dX11_parsesKey_3 ⟨(Nat.le_of_ble_eq_true rfl), (Nat.le_of_ble_eq_true rfl)⟩) hP hD hS hA [0] (by decide) rfl rfl rfl rfl (fun H locs hP hD hS => ?_)
  refine lv_aload_n hx hb dX11_parsesKey_6 rfl (lv_at hl 0 rfl) ?_
  refine lv_bipush (v := 121) hx hb dX11_parsesKey_7 (by decide) ?_
  obtain ⟨q2, hq2, hF⟩ := q_bdi hF
  refine cl_v (Lc := [w_Model E a o (x.1, x.2.1, x.2.2.1, x.2.2.2.1, x.2.2.2.2.1, x.2.2.2.2.2.1, x.2.2.2.2.2.2.1, x.2.2.2.2.2.2.2.1, x.2.2.2.2.2.2.2.2.1, x.2.2.2.2.2.2.2.2.2.1, x.2.2.2.2.2.2.2.2.2.2.1, x.2.2.2.2.2.2.2.2.2.2.2.1, x.2.2.2.2.2.2.2.2.2.2.2.2.1, x.2.2.2.2.2.2.2.2.2.2.2.2.2.1, x.2.2.2.2.2.2.2.2.2.2.2.2.2.2.1, q1.1, q1.2, x.2.2.2.2.2.2.2.2.2.2.2.2.2.2.2.2.2)]) (Lc' := [w_Model E a o (x.1, x.2.1, x.2.2.1, x.2.2.2.1, x.2.2.2.2.1, x.2.2.2.2.2.1, x.2.2.2.2.2.2.1, x.2.2.2.2.2.2.2.1, x.2.2.2.2.2.2.2.2.1, x.2.2.2.2.2.2.2.2.2.1, x.2.2.2.2.2.2.2.2.2.2.1, x.2.2.2.2.2.2.2.2.2.2.2.1, x.2.2.2.2.2.2.2.2.2.2.2.2.1, x.2.2.2.2.2.2.2.2.2.2.2.2.2.1, x.2.2.2.2.2.2.2.2.2.2.2.2.2.2.1, q2.1, q2.2, x.2.2.2.2.2.2.2.2.2.2.2.2.2.2.2.2.2)]) (L' := [w_Model E a o (x.1, x.2.1, x.2.2.1, x.2.2.2.1, x.2.2.2.2.1, x.2.2.2.2.2.1, x.2.2.2.2.2.2.1, x.2.2.2.2.2.2.2.1, x.2.2.2.2.2.2.2.2.1, x.2.2.2.2.2.2.2.2.2.1, x.2.2.2.2.2.2.2.2.2.2.1, x.2.2.2.2.2.2.2.2.2.2.2.1, x.2.2.2.2.2.2.2.2.2.2.2.2.1, x.2.2.2.2.2.2.2.2.2.2.2.2.2.1, x.2.2.2.2.2.2.2.2.2.2.2.2.2.2.1, q2.1, q2.2, x.2.2.2.2.2.2.2.2.2.2.2.2.2.2.2.2.2)]) (va_runV (As := [.int 121]) (rest := []) ⟨hx, hb, hml, hown, ha⟩ (k_X11_needs l E a o (x.1, x.2.1, x.2.2.1, x.2.2.2.1, x.2.2.2.2.1, x.2.2.2.2.2.1, x.2.2.2.2.2.2.1, x.2.2.2.2.2.2.2.1, x.2.2.2.2.2.2.2.2.1, x.2.2.2.2.2.2.2.2.2.1, x.2.2.2.2.2.2.2.2.2.2.1, x.2.2.2.2.2.2.2.2.2.2.2.1, x.2.2.2.2.2.2.2.2.2.2.2.2.1, x.2.2.2.2.2.2.2.2.2.2.2.2.2.1, x.2.2.2.2.2.2.2.2.2.2.2.2.2.2.1, q1.1, q1.2, x.2.2.2.2.2.2.2.2.2.2.2.2.2.2.2.2.2) 121 q2 hq2 H.size) (cwV 1 ha (gi_V (fun _ h => h) mw2046 mw2048 mw62 mw87 mw2049) rfl rfl rfl hv_X11_needs ⟨(Nat.le_of_ble_eq_true rfl), (Nat.le_of_ble_eq_true rfl)⟩) ⟨pre_blind, va_recv hst.k (fr_P hP [0] rfl) (ci := 13) (q0 := 0) rfl rfl, pre_at hP hD hS hz hzs hst [0] (by decide) rfl rfl⟩ rfl rfl hl.1 rfl (lv_room (Nat.le_of_ble_eq_true rfl)) dX11_parsesKey_9 ⟨(Nat.le_of_ble_eq_true rfl), (Nat.le_of_ble_eq_true rfl)⟩) hP hD hS hA [0] (by decide) rfl rfl rfl rfl (fun H locs hP hD hS => ?_)
  refine lv_aload_n hx hb dX11_parsesKey_12 rfl (lv_at hl 0 rfl) ?_
  refine va_get (D := E.1) (ci := 13) (v := .ref (a (o + 8))) (C := RX11) (T := TX11) (N := 18) hx hb ha in_X11 hown hst.k hP 0 rfl rfl 17 (by decide) (ha _ mw1653) (fun _ h9 => h9) rfl dX11_parsesKey_13 ?_
  refine lv_iload_n hx hb dX11_parsesKey_16 rfl (lv_at hl 1 rfl) ?_
  refine lv_iconst (v := 1) hx hb dX11_parsesKey_17 (by decide) ?_
  refine lv_iadd hx hb dX11_parsesKey_18 ?_
  refine lv_aload_n hx hb dX11_parsesKey_19 rfl (lv_at hl 0 rfl) ?_
  refine lv_iconst (v := 1) hx hb dX11_parsesKey_20 (by decide) ?_
  refine lv_iconst (v := 2) hx hb dX11_parsesKey_21 (by decide) ?_
  obtain ⟨q3, hq3, hF⟩ := q_bdi hF
  refine cl_i (Lc := [w_Model E a o (x.1, x.2.1, x.2.2.1, x.2.2.2.1, x.2.2.2.2.1, x.2.2.2.2.2.1, x.2.2.2.2.2.2.1, x.2.2.2.2.2.2.2.1, x.2.2.2.2.2.2.2.2.1, x.2.2.2.2.2.2.2.2.2.1, x.2.2.2.2.2.2.2.2.2.2.1, x.2.2.2.2.2.2.2.2.2.2.2.1, x.2.2.2.2.2.2.2.2.2.2.2.2.1, x.2.2.2.2.2.2.2.2.2.2.2.2.2.1, x.2.2.2.2.2.2.2.2.2.2.2.2.2.2.1, q2.1, q2.2, x.2.2.2.2.2.2.2.2.2.2.2.2.2.2.2.2.2)]) (Lc' := [w_Model E a o (x.1, x.2.1, x.2.2.1, x.2.2.2.1, x.2.2.2.2.1, x.2.2.2.2.2.1, x.2.2.2.2.2.2.1, x.2.2.2.2.2.2.2.1, x.2.2.2.2.2.2.2.2.1, x.2.2.2.2.2.2.2.2.2.1, x.2.2.2.2.2.2.2.2.2.2.1, x.2.2.2.2.2.2.2.2.2.2.2.1, x.2.2.2.2.2.2.2.2.2.2.2.2.1, x.2.2.2.2.2.2.2.2.2.2.2.2.2.1, x.2.2.2.2.2.2.2.2.2.2.2.2.2.2.1, q3.2.1, q3.2.2, x.2.2.2.2.2.2.2.2.2.2.2.2.2.2.2.2.2)]) (L' := [w_Model E a o (x.1, x.2.1, x.2.2.1, x.2.2.2.1, x.2.2.2.2.1, x.2.2.2.2.2.1, x.2.2.2.2.2.2.1, x.2.2.2.2.2.2.2.1, x.2.2.2.2.2.2.2.2.1, x.2.2.2.2.2.2.2.2.2.1, x.2.2.2.2.2.2.2.2.2.2.1, x.2.2.2.2.2.2.2.2.2.2.2.1, x.2.2.2.2.2.2.2.2.2.2.2.2.1, x.2.2.2.2.2.2.2.2.2.2.2.2.2.1, x.2.2.2.2.2.2.2.2.2.2.2.2.2.2.1, q3.2.1, q3.2.2, x.2.2.2.2.2.2.2.2.2.2.2.2.2.2.2.2.2)]) (rv := q3.1) (va_runV (As := [.int 1, .int 2]) (rest := [.int (p1 + 1), .ref (a (o + 8))]) ⟨hx, hb, hml, hown, ha⟩ (k_X11_afterBlank l E a o (x.1, x.2.1, x.2.2.1, x.2.2.2.1, x.2.2.2.2.1, x.2.2.2.2.2.1, x.2.2.2.2.2.2.1, x.2.2.2.2.2.2.2.1, x.2.2.2.2.2.2.2.2.1, x.2.2.2.2.2.2.2.2.2.1, x.2.2.2.2.2.2.2.2.2.2.1, x.2.2.2.2.2.2.2.2.2.2.2.1, x.2.2.2.2.2.2.2.2.2.2.2.2.1, x.2.2.2.2.2.2.2.2.2.2.2.2.2.1, x.2.2.2.2.2.2.2.2.2.2.2.2.2.2.1, q2.1, q2.2, x.2.2.2.2.2.2.2.2.2.2.2.2.2.2.2.2.2) 1 2 q3 hq3 H.size) (cwV 2 ha (gi_V (fun _ h => h) mw2050 mw2052 mw63 mw87 mw2053) rfl rfl rfl hv_X11_afterBlank ⟨(Nat.le_of_ble_eq_true rfl), (Nat.le_of_ble_eq_true rfl)⟩) ⟨pre_blind, va_recv hst.k (fr_P hP [0] rfl) (ci := 13) (q0 := 0) rfl rfl, pre_at hP hD hS hz hzs hst [0] (by decide) rfl rfl⟩ rfl rfl hl.1 rfl (lv_room (Nat.le_of_ble_eq_true rfl)) dX11_parsesKey_22 ⟨(Nat.le_of_ble_eq_true rfl), (Nat.le_of_ble_eq_true rfl)⟩) hP hD hS hA [0] (by decide) rfl rfl rfl rfl (fun H locs hP hD hS => ?_)
  obtain ⟨g4, hF⟩ := q_gdi hF
  refine vi_iast hx hb hst.k hP hD hS 8 0 rfl rfl (k := (p1 + 1).toNatClampNeg) rfl g4 dX11_parsesKey_25 (fun H locs hP hD hS => ?_)
  have hP : va_P E.1 vwCl (List.flatten [w_Model E a o (x.1, x.2.1, x.2.2.1, x.2.2.2.1, x.2.2.2.2.1, x.2.2.2.2.2.1, x.2.2.2.2.2.2.1, x.2.2.2.2.2.2.2.1, x.2.2.2.2.2.2.2.2.1, x.2.2.2.2.2.2.2.2.2.1, x.2.2.2.2.2.2.2.2.2.2.1, x.2.2.2.2.2.2.2.2.2.2.2.1, x.2.2.2.2.2.2.2.2.2.2.2.2.1, x.2.2.2.2.2.2.2.2.2.2.2.2.2.1, x.2.2.2.2.2.2.2.2.2.2.2.2.2.2.1, q3.2.1, q3.2.2, upd x.2.2.2.2.2.2.2.2.2.2.2.2.2.2.2.2.2 ((p1 + 1).toNatClampNeg) q3.1)]) H := hP
  have hD : va_D A (List.flatten [w_Model E a o (x.1, x.2.1, x.2.2.1, x.2.2.2.1, x.2.2.2.2.1, x.2.2.2.2.2.1, x.2.2.2.2.2.2.1, x.2.2.2.2.2.2.2.1, x.2.2.2.2.2.2.2.2.1, x.2.2.2.2.2.2.2.2.2.1, x.2.2.2.2.2.2.2.2.2.2.1, x.2.2.2.2.2.2.2.2.2.2.2.1, x.2.2.2.2.2.2.2.2.2.2.2.2.1, x.2.2.2.2.2.2.2.2.2.2.2.2.2.1, x.2.2.2.2.2.2.2.2.2.2.2.2.2.2.1, q3.2.1, q3.2.2, upd x.2.2.2.2.2.2.2.2.2.2.2.2.2.2.2.2.2 ((p1 + 1).toNatClampNeg) q3.1)]) := hD
  refine lv_aload_n hx hb dX11_parsesKey_26 rfl (lv_at hl 0 rfl) ?_
  refine va_get (D := E.1) (ci := 13) (v := .int q3.2.2) (C := RX11) (T := TX11) (N := 18) hx hb ha in_X11 hown hst.k hP 0 rfl rfl 16 (by decide) (ha _ mw1652) (fun _ h9 => h9) rfl dX11_parsesKey_27 ?_
  obtain ⟨J47, hJ47, hF⟩ := q_jn hF
  have jJ47 : ∀ (j5 : Int32), ∀ (H : Heap) (locs : List Loc) (ls : Array Slot), J47 j5 = some res → va_P E.1 vwCl (List.flatten [w_Model E a o (x.1, x.2.1, x.2.2.1, x.2.2.2.1, x.2.2.2.2.1, x.2.2.2.2.2.1, x.2.2.2.2.2.2.1, x.2.2.2.2.2.2.2.1, x.2.2.2.2.2.2.2.2.1, x.2.2.2.2.2.2.2.2.2.1, x.2.2.2.2.2.2.2.2.2.2.1, x.2.2.2.2.2.2.2.2.2.2.2.1, x.2.2.2.2.2.2.2.2.2.2.2.2.1, x.2.2.2.2.2.2.2.2.2.2.2.2.2.1, x.2.2.2.2.2.2.2.2.2.2.2.2.2.2.1, q3.2.1, q3.2.2, upd x.2.2.2.2.2.2.2.2.2.2.2.2.2.2.2.2.2 ((p1 + 1).toNatClampNeg) q3.1)]) H → va_D A (List.flatten [w_Model E a o (x.1, x.2.1, x.2.2.1, x.2.2.2.1, x.2.2.2.2.1, x.2.2.2.2.2.1, x.2.2.2.2.2.2.1, x.2.2.2.2.2.2.2.1, x.2.2.2.2.2.2.2.2.1, x.2.2.2.2.2.2.2.2.2.1, x.2.2.2.2.2.2.2.2.2.2.1, x.2.2.2.2.2.2.2.2.2.2.2.1, x.2.2.2.2.2.2.2.2.2.2.2.2.1, x.2.2.2.2.2.2.2.2.2.2.2.2.2.1, x.2.2.2.2.2.2.2.2.2.2.2.2.2.2.1, q3.2.1, q3.2.2, upd x.2.2.2.2.2.2.2.2.2.2.2.2.2.2.2.2.2 ((p1 + 1).toNatClampNeg) q3.1)]) → va_S A s.heap H locs → lv_has ls 3 [(0, .ref (a o)), (1, .int p1)] → W p l e rm_X11_parsesKey s m args below meth c H locs 0 0 Q (F0 m 47 ls [.int j5]) := by
    intro j5 H locs ls hF hP hD hS hl
    rw [hJ47] at hF
    refine lv_istore_n (lv' := [(2, .int j5), (0, .ref (a o)), (1, .int p1)]) hx hb dX11_parsesKey_47 rfl hl (by decide) rfl (fun ls hl => ?_)
    refine lv_aload_n hx hb dX11_parsesKey_48 rfl (lv_at hl 1 rfl) ?_
    refine lv_iload_n hx hb dX11_parsesKey_49 rfl (lv_at hl 0 rfl) ?_
    obtain ⟨J60, hJ60, hF⟩ := q_jn hF
    have jJ60 : ∀ (j6 : Int32), ∀ (H : Heap) (locs : List Loc) (ls : Array Slot), J60 j6 = some res → va_P E.1 vwCl (List.flatten [w_Model E a o (x.1, x.2.1, x.2.2.1, x.2.2.2.1, x.2.2.2.2.1, x.2.2.2.2.2.1, x.2.2.2.2.2.2.1, x.2.2.2.2.2.2.2.1, x.2.2.2.2.2.2.2.2.1, x.2.2.2.2.2.2.2.2.2.1, x.2.2.2.2.2.2.2.2.2.2.1, x.2.2.2.2.2.2.2.2.2.2.2.1, x.2.2.2.2.2.2.2.2.2.2.2.2.1, x.2.2.2.2.2.2.2.2.2.2.2.2.2.1, x.2.2.2.2.2.2.2.2.2.2.2.2.2.2.1, q3.2.1, q3.2.2, upd x.2.2.2.2.2.2.2.2.2.2.2.2.2.2.2.2.2 ((p1 + 1).toNatClampNeg) q3.1)]) H → va_D A (List.flatten [w_Model E a o (x.1, x.2.1, x.2.2.1, x.2.2.2.1, x.2.2.2.2.1, x.2.2.2.2.2.1, x.2.2.2.2.2.2.1, x.2.2.2.2.2.2.2.1, x.2.2.2.2.2.2.2.2.1, x.2.2.2.2.2.2.2.2.2.1, x.2.2.2.2.2.2.2.2.2.2.1, x.2.2.2.2.2.2.2.2.2.2.2.1, x.2.2.2.2.2.2.2.2.2.2.2.2.1, x.2.2.2.2.2.2.2.2.2.2.2.2.2.1, x.2.2.2.2.2.2.2.2.2.2.2.2.2.2.1, q3.2.1, q3.2.2, upd x.2.2.2.2.2.2.2.2.2.2.2.2.2.2.2.2.2 ((p1 + 1).toNatClampNeg) q3.1)]) → va_S A s.heap H locs → lv_has ls 3 [(2, .int j5), (0, .ref (a o)), (1, .int p1)] → W p l e rm_X11_parsesKey s m args below meth c H locs 0 0 Q (F0 m 60 ls [.int j6, .ref (a o)]) := by
      intro j6 H locs ls hF hP hD hS hl
      rw [hJ60] at hF
      obtain ⟨q7, hq7, hF⟩ := q_bdi hF
      refine cl_v (Lc := [w_Model E a o (x.1, x.2.1, x.2.2.1, x.2.2.2.1, x.2.2.2.2.1, x.2.2.2.2.2.1, x.2.2.2.2.2.2.1, x.2.2.2.2.2.2.2.1, x.2.2.2.2.2.2.2.2.1, x.2.2.2.2.2.2.2.2.2.1, x.2.2.2.2.2.2.2.2.2.2.1, x.2.2.2.2.2.2.2.2.2.2.2.1, x.2.2.2.2.2.2.2.2.2.2.2.2.1, x.2.2.2.2.2.2.2.2.2.2.2.2.2.1, x.2.2.2.2.2.2.2.2.2.2.2.2.2.2.1, q3.2.1, q3.2.2, upd x.2.2.2.2.2.2.2.2.2.2.2.2.2.2.2.2.2 ((p1 + 1).toNatClampNeg) q3.1)]) (Lc' := [w_Model E a o (x.1, x.2.1, x.2.2.1, x.2.2.2.1, x.2.2.2.2.1, x.2.2.2.2.2.1, x.2.2.2.2.2.2.1, x.2.2.2.2.2.2.2.1, x.2.2.2.2.2.2.2.2.1, x.2.2.2.2.2.2.2.2.2.1, x.2.2.2.2.2.2.2.2.2.2.1, x.2.2.2.2.2.2.2.2.2.2.2.1, x.2.2.2.2.2.2.2.2.2.2.2.2.1, x.2.2.2.2.2.2.2.2.2.2.2.2.2.1, x.2.2.2.2.2.2.2.2.2.2.2.2.2.2.1, q7.1, q7.2, upd x.2.2.2.2.2.2.2.2.2.2.2.2.2.2.2.2.2 ((p1 + 1).toNatClampNeg) q3.1)]) (L' := [w_Model E a o (x.1, x.2.1, x.2.2.1, x.2.2.2.1, x.2.2.2.2.1, x.2.2.2.2.2.1, x.2.2.2.2.2.2.1, x.2.2.2.2.2.2.2.1, x.2.2.2.2.2.2.2.2.1, x.2.2.2.2.2.2.2.2.2.1, x.2.2.2.2.2.2.2.2.2.2.1, x.2.2.2.2.2.2.2.2.2.2.2.1, x.2.2.2.2.2.2.2.2.2.2.2.2.1, x.2.2.2.2.2.2.2.2.2.2.2.2.2.1, x.2.2.2.2.2.2.2.2.2.2.2.2.2.2.1, q7.1, q7.2, upd x.2.2.2.2.2.2.2.2.2.2.2.2.2.2.2.2.2 ((p1 + 1).toNatClampNeg) q3.1)]) (va_runV (As := [.int j6]) (rest := []) ⟨hx, hb, hml, hown, ha⟩ (k_X11_needs l E a o (x.1, x.2.1, x.2.2.1, x.2.2.2.1, x.2.2.2.2.1, x.2.2.2.2.2.1, x.2.2.2.2.2.2.1, x.2.2.2.2.2.2.2.1, x.2.2.2.2.2.2.2.2.1, x.2.2.2.2.2.2.2.2.2.1, x.2.2.2.2.2.2.2.2.2.2.1, x.2.2.2.2.2.2.2.2.2.2.2.1, x.2.2.2.2.2.2.2.2.2.2.2.2.1, x.2.2.2.2.2.2.2.2.2.2.2.2.2.1, x.2.2.2.2.2.2.2.2.2.2.2.2.2.2.1, q3.2.1, q3.2.2, upd x.2.2.2.2.2.2.2.2.2.2.2.2.2.2.2.2.2 ((p1 + 1).toNatClampNeg) q3.1) j6 q7 hq7 H.size) (cwV 1 ha (gi_V (fun _ h => h) mw2046 mw2048 mw62 mw87 mw2049) rfl rfl rfl hv_X11_needs ⟨(Nat.le_of_ble_eq_true rfl), (Nat.le_of_ble_eq_true rfl)⟩) ⟨pre_blind, va_recv hst.k (fr_P hP [0] rfl) (ci := 13) (q0 := 0) rfl rfl, pre_at hP hD hS hz hzs hst [0] (by decide) rfl rfl⟩ rfl rfl hl.1 rfl (lv_room (Nat.le_of_ble_eq_true rfl)) dX11_parsesKey_60 ⟨(Nat.le_of_ble_eq_true rfl), (Nat.le_of_ble_eq_true rfl)⟩) hP hD hS hA [0] (by decide) rfl rfl rfl rfl (fun H locs hP hD hS => ?_)
      refine lv_aload_n hx hb dX11_parsesKey_63 rfl (lv_at hl 1 rfl) ?_
      refine va_get (D := E.1) (ci := 13) (v := .ref (a (o + 8))) (C := RX11) (T := TX11) (N := 18) hx hb ha in_X11 hown hst.k hP 0 rfl rfl 17 (by decide) (ha _ mw1653) (fun _ h9 => h9) rfl dX11_parsesKey_64 ?_
      refine lv_iload_n hx hb dX11_parsesKey_67 rfl (lv_at hl 2 rfl) ?_
      refine lv_iconst (v := 2) hx hb dX11_parsesKey_68 (by decide) ?_
      refine lv_iadd hx hb dX11_parsesKey_69 ?_
      refine lv_iload_n hx hb dX11_parsesKey_70 rfl (lv_at hl 0 rfl) ?_
      obtain ⟨J79, hJ79, hF⟩ := q_jn hF
      have jJ79 : ∀ (j8 : Int32), ∀ (H : Heap) (locs : List Loc) (ls : Array Slot), J79 j8 = some res → va_P E.1 vwCl (List.flatten [w_Model E a o (x.1, x.2.1, x.2.2.1, x.2.2.2.1, x.2.2.2.2.1, x.2.2.2.2.2.1, x.2.2.2.2.2.2.1, x.2.2.2.2.2.2.2.1, x.2.2.2.2.2.2.2.2.1, x.2.2.2.2.2.2.2.2.2.1, x.2.2.2.2.2.2.2.2.2.2.1, x.2.2.2.2.2.2.2.2.2.2.2.1, x.2.2.2.2.2.2.2.2.2.2.2.2.1, x.2.2.2.2.2.2.2.2.2.2.2.2.2.1, x.2.2.2.2.2.2.2.2.2.2.2.2.2.2.1, q7.1, q7.2, upd x.2.2.2.2.2.2.2.2.2.2.2.2.2.2.2.2.2 ((p1 + 1).toNatClampNeg) q3.1)]) H → va_D A (List.flatten [w_Model E a o (x.1, x.2.1, x.2.2.1, x.2.2.2.1, x.2.2.2.2.1, x.2.2.2.2.2.1, x.2.2.2.2.2.2.1, x.2.2.2.2.2.2.2.1, x.2.2.2.2.2.2.2.2.1, x.2.2.2.2.2.2.2.2.2.1, x.2.2.2.2.2.2.2.2.2.2.1, x.2.2.2.2.2.2.2.2.2.2.2.1, x.2.2.2.2.2.2.2.2.2.2.2.2.1, x.2.2.2.2.2.2.2.2.2.2.2.2.2.1, x.2.2.2.2.2.2.2.2.2.2.2.2.2.2.1, q7.1, q7.2, upd x.2.2.2.2.2.2.2.2.2.2.2.2.2.2.2.2.2 ((p1 + 1).toNatClampNeg) q3.1)]) → va_S A s.heap H locs → lv_has ls 3 [] → W p l e rm_X11_parsesKey s m args below meth c H locs 0 0 Q (F0 m 79 ls [.int j8, .int (p1 + 2), .ref (a (o + 8))]) := by
        intro j8 H locs ls hF hP hD hS hl
        rw [hJ79] at hF
        obtain ⟨g9, hF⟩ := q_gdi hF
        refine vi_iast hx hb hst.k hP hD hS 8 0 rfl rfl (k := (p1 + 2).toNatClampNeg) rfl g9 dX11_parsesKey_79 (fun H locs hP hD hS => ?_)
        have hP : va_P E.1 vwCl (List.flatten [w_Model E a o (x.1, x.2.1, x.2.2.1, x.2.2.2.1, x.2.2.2.2.1, x.2.2.2.2.2.1, x.2.2.2.2.2.2.1, x.2.2.2.2.2.2.2.1, x.2.2.2.2.2.2.2.2.1, x.2.2.2.2.2.2.2.2.2.1, x.2.2.2.2.2.2.2.2.2.2.1, x.2.2.2.2.2.2.2.2.2.2.2.1, x.2.2.2.2.2.2.2.2.2.2.2.2.1, x.2.2.2.2.2.2.2.2.2.2.2.2.2.1, x.2.2.2.2.2.2.2.2.2.2.2.2.2.2.1, q7.1, q7.2, upd (upd x.2.2.2.2.2.2.2.2.2.2.2.2.2.2.2.2.2 ((p1 + 1).toNatClampNeg) q3.1) ((p1 + 2).toNatClampNeg) j8)]) H := hP
        have hD : va_D A (List.flatten [w_Model E a o (x.1, x.2.1, x.2.2.1, x.2.2.2.1, x.2.2.2.2.1, x.2.2.2.2.2.1, x.2.2.2.2.2.2.1, x.2.2.2.2.2.2.2.1, x.2.2.2.2.2.2.2.2.1, x.2.2.2.2.2.2.2.2.2.1, x.2.2.2.2.2.2.2.2.2.2.1, x.2.2.2.2.2.2.2.2.2.2.2.1, x.2.2.2.2.2.2.2.2.2.2.2.2.1, x.2.2.2.2.2.2.2.2.2.2.2.2.2.1, x.2.2.2.2.2.2.2.2.2.2.2.2.2.2.1, q7.1, q7.2, upd (upd x.2.2.2.2.2.2.2.2.2.2.2.2.2.2.2.2.2 ((p1 + 1).toNatClampNeg) q3.1) ((p1 + 2).toNatClampNeg) j8)]) := hD
        obtain rfl := Option.some.inj hF
        exact en_v hQ (Nat.le_of_ble_eq_true rfl) (Nat.le_of_ble_eq_true rfl) hx hb hr hlocks hP hD hS dX11_parsesKey_80
      refine lv_if_eq (tgt := 78) hx hb dX11_parsesKey_71 (by decide) (fun c71 => ?_) (fun c71 => ?_)
      · have hF := q_brp c71 hF
        refine lv_iconst (v := 0) hx hb dX11_parsesKey_78 (by decide) ?_
        exact jJ79 0 H locs ls hF hP hD hS (lv_sub hl [] rfl)
      · have hF := q_brn c71 hF
        refine lv_iconst (v := 1) hx hb dX11_parsesKey_74 (by decide) ?_
        refine lv_goto (tgt := 79) hx hb dX11_parsesKey_75 (by decide) ?_
        exact jJ79 1 H locs ls hF hP hD hS (lv_sub hl [] rfl)
    refine lv_if_eq (tgt := 58) hx hb dX11_parsesKey_50 (by decide) (fun c50 => ?_) (fun c50 => ?_)
    · have hF := q_brp c50 hF
      refine lv_bipush (v := 77) hx hb dX11_parsesKey_58 (by decide) ?_
      exact jJ60 77 H locs ls hF hP hD hS (lv_sub hl [0, 1, 2] rfl)
    · have hF := q_brn c50 hF
      refine lv_bipush (v := 109) hx hb dX11_parsesKey_53 (by decide) ?_
      refine lv_goto (tgt := 60) hx hb dX11_parsesKey_55 (by decide) ?_
      exact jJ60 109 H locs ls hF hP hD hS (lv_sub hl [0, 1, 2] rfl)
  refine lv_if_ne (tgt := 46) hx hb dX11_parsesKey_30 (by decide) (fun c30 => ?_) (fun c30 => ?_)
  · have hF := q_brn c30 hF
    refine lv_iconst (v := 0) hx hb dX11_parsesKey_46 (by decide) ?_
    exact jJ47 0 H locs ls hF hP hD hS (lv_sub hl [0, 1] rfl)
  · have hF := q_brp c30 hF
    refine lv_aload_n hx hb dX11_parsesKey_33 rfl (lv_at hl 0 rfl) ?_
    obtain ⟨q10, hq10, hF⟩ := q_bdi hF
    refine cl_i (Lc := [w_Model E a o (x.1, x.2.1, x.2.2.1, x.2.2.2.1, x.2.2.2.2.1, x.2.2.2.2.2.1, x.2.2.2.2.2.2.1, x.2.2.2.2.2.2.2.1, x.2.2.2.2.2.2.2.2.1, x.2.2.2.2.2.2.2.2.2.1, x.2.2.2.2.2.2.2.2.2.2.1, x.2.2.2.2.2.2.2.2.2.2.2.1, x.2.2.2.2.2.2.2.2.2.2.2.2.1, x.2.2.2.2.2.2.2.2.2.2.2.2.2.1, x.2.2.2.2.2.2.2.2.2.2.2.2.2.2.1, q3.2.1, q3.2.2, upd x.2.2.2.2.2.2.2.2.2.2.2.2.2.2.2.2.2 ((p1 + 1).toNatClampNeg) q3.1)]) (Lc' := [w_Model E a o (x.1, x.2.1, x.2.2.1, x.2.2.2.1, x.2.2.2.2.1, x.2.2.2.2.2.1, x.2.2.2.2.2.2.1, x.2.2.2.2.2.2.2.1, x.2.2.2.2.2.2.2.2.1, x.2.2.2.2.2.2.2.2.2.1, x.2.2.2.2.2.2.2.2.2.2.1, x.2.2.2.2.2.2.2.2.2.2.2.1, x.2.2.2.2.2.2.2.2.2.2.2.2.1, x.2.2.2.2.2.2.2.2.2.2.2.2.2.1, x.2.2.2.2.2.2.2.2.2.2.2.2.2.2.1, q3.2.1, q3.2.2, upd x.2.2.2.2.2.2.2.2.2.2.2.2.2.2.2.2.2 ((p1 + 1).toNatClampNeg) q3.1)]) (L' := [w_Model E a o (x.1, x.2.1, x.2.2.1, x.2.2.2.1, x.2.2.2.2.1, x.2.2.2.2.2.1, x.2.2.2.2.2.2.1, x.2.2.2.2.2.2.2.1, x.2.2.2.2.2.2.2.2.1, x.2.2.2.2.2.2.2.2.2.1, x.2.2.2.2.2.2.2.2.2.2.1, x.2.2.2.2.2.2.2.2.2.2.2.1, x.2.2.2.2.2.2.2.2.2.2.2.2.1, x.2.2.2.2.2.2.2.2.2.2.2.2.2.1, x.2.2.2.2.2.2.2.2.2.2.2.2.2.2.1, q3.2.1, q3.2.2, upd x.2.2.2.2.2.2.2.2.2.2.2.2.2.2.2.2.2 ((p1 + 1).toNatClampNeg) q3.1)]) (rv := q10) (va_runV (As := []) (rest := []) ⟨hx, hb, hml, hown, ha⟩ (k_X11_here l E a o (x.1, x.2.1, x.2.2.1, x.2.2.2.1, x.2.2.2.2.1, x.2.2.2.2.2.1, x.2.2.2.2.2.2.1, x.2.2.2.2.2.2.2.1, x.2.2.2.2.2.2.2.2.1, x.2.2.2.2.2.2.2.2.2.1, x.2.2.2.2.2.2.2.2.2.2.1, x.2.2.2.2.2.2.2.2.2.2.2.1, x.2.2.2.2.2.2.2.2.2.2.2.2.1, x.2.2.2.2.2.2.2.2.2.2.2.2.2.1, x.2.2.2.2.2.2.2.2.2.2.2.2.2.2.1, q3.2.1, q3.2.2, upd x.2.2.2.2.2.2.2.2.2.2.2.2.2.2.2.2.2 ((p1 + 1).toNatClampNeg) q3.1) q10 hq10 H.size) (cwV 0 ha (gi_V (fun _ h => h) mw2038 mw2040 mw60 mw87 mw2041) rfl rfl rfl hv_X11_here ⟨(Nat.le_of_ble_eq_true rfl), (Nat.le_of_ble_eq_true rfl)⟩) ⟨pre_blind, va_recv hst.k (fr_P hP [0] rfl) (ci := 13) (q0 := 0) rfl rfl, pre_at hP hD hS hz hzs hst [0] (by decide) rfl rfl⟩ rfl rfl hl.1 rfl (lv_room (Nat.le_of_ble_eq_true rfl)) dX11_parsesKey_34 ⟨(Nat.le_of_ble_eq_true rfl), (Nat.le_of_ble_eq_true rfl)⟩) hP hD hS hA [0] (by decide) rfl rfl rfl rfl (fun H locs hP hD hS => ?_)
    refine lv_bipush (v := 109) hx hb dX11_parsesKey_37 (by decide) ?_
    refine lv_icmp_ne (tgt := 46) hx hb dX11_parsesKey_39 (by decide) (fun c39 => ?_) (fun c39 => ?_)
    · have hF := q_brn c39 hF
      refine lv_iconst (v := 0) hx hb dX11_parsesKey_46 (by decide) ?_
      exact jJ47 0 H locs ls hF hP hD hS (lv_sub hl [0, 1] rfl)
    · have hF := q_brp c39 hF
      refine lv_iconst (v := 1) hx hb dX11_parsesKey_42 (by decide) ?_
      refine lv_goto (tgt := 47) hx hb dX11_parsesKey_43 (by decide) ?_
      exact jJ47 1 H locs ls hF hP hD hS (lv_sub hl [0, 1] rfl)
