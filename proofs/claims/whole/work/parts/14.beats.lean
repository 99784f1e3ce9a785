/-! X11_lastBeat -/
theorem dX11_lastBeat_0 : decode cX11_lastBeat 0 = .ok (.bipush 31, 2) := by decide +kernel
theorem dX11_lastBeat_2 : decode cX11_lastBeat 2 = .ok (.istore_n 1, 1) := by decide +kernel
theorem dX11_lastBeat_3 : decode cX11_lastBeat 3 = .ok (.iload_n 1, 1) := by decide +kernel
theorem dX11_lastBeat_4 : decode cX11_lastBeat 4 = .ok (.ifCond .lt 17, 3) := by decide +kernel
theorem dX11_lastBeat_7 : decode cX11_lastBeat 7 = .ok (.aload_n 0, 1) := by decide +kernel
theorem dX11_lastBeat_8 : decode cX11_lastBeat 8 = .ok (.iload_n 1, 1) := by decide +kernel
theorem dX11_lastBeat_9 : decode cX11_lastBeat 9 = .ok (.invokevirtual 181, 3) := by decide +kernel
theorem dX11_lastBeat_12 : decode cX11_lastBeat 12 = .ok (.ifCond .ne 9, 3) := by decide +kernel
theorem dX11_lastBeat_15 : decode cX11_lastBeat 15 = .ok (.iinc 1 (-1), 3) := by decide +kernel
theorem dX11_lastBeat_18 : decode cX11_lastBeat 18 = .ok (.goto (-15), 3) := by decide +kernel
theorem dX11_lastBeat_21 : decode cX11_lastBeat 21 = .ok (.iload_n 1, 1) := by decide +kernel
theorem dX11_lastBeat_22 : decode cX11_lastBeat 22 = .ok (.ifCond .ge 11, 3) := by decide +kernel
theorem dX11_lastBeat_25 : decode cX11_lastBeat 25 = .ok (.aload_n 0, 1) := by decide +kernel
theorem dX11_lastBeat_26 : decode cX11_lastBeat 26 = .ok (.iconst 1, 1) := by decide +kernel
theorem dX11_lastBeat_27 : decode cX11_lastBeat 27 = .ok (.invokevirtual 80, 3) := by decide +kernel
theorem dX11_lastBeat_30 : decode cX11_lastBeat 30 = .ok (.goto 8, 3) := by decide +kernel
theorem dX11_lastBeat_33 : decode cX11_lastBeat 33 = .ok (.aload_n 0, 1) := by decide +kernel
theorem dX11_lastBeat_34 : decode cX11_lastBeat 34 = .ok (.iload_n 1, 1) := by decide +kernel
theorem dX11_lastBeat_35 : decode cX11_lastBeat 35 = .ok (.invokevirtual 83, 3) := by decide +kernel
theorem dX11_lastBeat_38 : decode cX11_lastBeat 38 = .ok (.ireturn, 1) := by decide +kernel
def f_X11_lastBeat_L3 (x_g : (Nat → Int32)) (K3 : Int32 → (Nat → Int32) → Int32 → Option (Int32 × (Nat → Int32) × Int32 × Int32)) : Nat → Int32 → (Nat → Int32) → Int32 → Option (Int32 × (Nat → Int32) × Int32 × Int32)
  | 0, _, _, _ => none
  | n3 + 1, i1, i2, i3 =>
    q_br (i1 < 0) (
  K3 i1 i2 i3) (
  q_bd (f_X11_isHeard x_g i2 i3 i1) (fun q7 =>
  q_br (q7.1 = 0) (
  q_lt (i1 + (-1) : Int32) (fun v8 =>
  f_X11_lastBeat_L3 x_g K3 n3 v8 q7.2.1 q7.2.2)) (
  K3 i1 q7.2.1 q7.2.2)))
def f_X11_lastBeat (x_g : (Nat → Int32)) (x_notes : (Nat → Int32)) (x_noteCount : Int32) (x_thrown : Int32) : Option (Int32 × (Nat → Int32) × Int32 × Int32) :=
  f_X11_lastBeat_L3 x_g (fun y4 y5 y6 =>
  q_br (0 ≤ y4) (
  q_bd (f_X11_done x_thrown y4) (fun q9 =>
  some (q9.1, y5, y6, q9.2))) (
  q_bd (f_X11_fails x_thrown 1) (fun q10 =>
  some (q10.1, y5, y6, q10.2)))) 2000 31 x_notes x_noteCount
theorem hv_X11_lastBeat : yX11_lastBeat.cls = RX11 ∧ yX11_lastBeat.cls ≠ "java/lang/invoke/MethodHandle" ∧ yX11_lastBeat.cls ≠ "java/lang/invoke/VarHandle" ∧ (parseMethodDescriptor yX11_lastBeat.desc).map (fun d => d.parameters.length) = some 0 := by decide +kernel
abbrev rm_X11_lastBeat : Room := { frames := 4, cells := 0, slots := 0, locals := 89 }
set_option maxHeartbeats 4000000 in
set_option maxRecDepth 100000 in
theorem k_X11_lastBeat (l : Launch) (E : ET) (a : Nat → Nat) (o : Nat) (x : Model_t) (res : Int32 × (Nat → Int32) × Int32 × Int32) (hF : f_X11_lastBeat x.1.1 x.2.2.1.2.2.1 x.2.2.1.2.2.2 x.2.2.2.1 = some res) (sz : Nat) : CtI l yX11_lastBeat (mws yX11_lastBeat cX11_lastBeat 2 (some .int)) rm_X11_lastBeat 0 0 [.ref (a o)] E (bl_Model E a o x) res.1 (bl_Model E a o ((x.1.1, x.1.2.1, x.1.2.2.1, x.1.2.2.2.1, x.1.2.2.2.2), (x.2.1.1, x.2.1.2.1, x.2.1.2.2.1, x.2.1.2.2.2.1, x.2.1.2.2.2.2), (x.2.2.1.1, x.2.2.1.2.1, res.2.1, res.2.2.1), (res.2.2.2, x.2.2.2.2.1, x.2.2.2.2.2.1, x.2.2.2.2.2.2))) sz := by
  refine mk_M (by decide +kernel) (Nat.le_of_ble_eq_true rfl) ?_
  intro p e s m below meth c A args Q ls hAe hsz hQ hx hb hr hml hin ha hown hlocks hA hz hzs hst hP hD hS hl
  have hown : s.vm.findClass RX11 = some m.cls := hown
  rw [hAe] at hQ
  subst hsz
  have hP : va_P E.1 vwCl (List.flatten [w_Model E a o x]) s.heap := hP
  have hD : va_D A (List.flatten [w_Model E a o x]) := hD
  have hl : lv_has ls 2 [(0, .ref (a o))] := hl
  generalize hHe : s.heap = H at hP
  have hS : va_S A s.heap H [] := by rw [← hHe]; exact hS
  generalize ([] : List Loc) = locs at hS ⊢
  unfold f_X11_lastBeat at hF
  refine lv_bipush (v := 31) hx hb dX11_lastBeat_0 (by decide) ?_
  refine lv_istore_n (lv' := [(1, .int 31), (0, .ref (a o))]) hx hb dX11_lastBeat_2 rfl hl (by decide) rfl (fun ls hl => ?_)
  have key3 : ∀ (K : Int32 → (Nat → Int32) → Int32 → Option (Int32 × (Nat → Int32) × Int32 × Int32)), (∀ (y4 : Int32) (y5 : (Nat → Int32)) (y6 : Int32) (H : Heap) (locs : List Loc) (ls : Array Slot), K y4 y5 y6 = some res → va_P E.1 vwCl (List.flatten [w_Model E a o ((x.1.1, x.1.2.1, x.1.2.2.1, x.1.2.2.2.1, x.1.2.2.2.2), (x.2.1.1, x.2.1.2.1, x.2.1.2.2.1, x.2.1.2.2.2.1, x.2.1.2.2.2.2), (x.2.2.1.1, x.2.2.1.2.1, y5, y6), (x.2.2.2.1, x.2.2.2.2.1, x.2.2.2.2.2.1, x.2.2.2.2.2.2))]) H → va_D A (List.flatten [w_Model E a o ((x.1.1, x.1.2.1, x.1.2.2.1, x.1.2.2.2.1, x.1.2.2.2.2), (x.2.1.1, x.2.1.2.1, x.2.1.2.2.1, x.2.1.2.2.2.1, x.2.1.2.2.2.2), (x.2.2.1.1, x.2.2.1.2.1, y5, y6), (x.2.2.2.1, x.2.2.2.2.1, x.2.2.2.2.2.1, x.2.2.2.2.2.2))]) → va_S A s.heap H locs → lv_has ls 2 [(1, .int y4), (0, .ref (a o))] → W p l e rm_X11_lastBeat s m args below meth c H locs 0 0 Q (F0 m 21 ls [])) → ∀ (n : Nat) (i1 : Int32) (i2 : (Nat → Int32)) (i3 : Int32) (H : Heap) (locs : List Loc) (ls : Array Slot), f_X11_lastBeat_L3 x.1.1 K n i1 i2 i3 = some res → va_P E.1 vwCl (List.flatten [w_Model E a o ((x.1.1, x.1.2.1, x.1.2.2.1, x.1.2.2.2.1, x.1.2.2.2.2), (x.2.1.1, x.2.1.2.1, x.2.1.2.2.1, x.2.1.2.2.2.1, x.2.1.2.2.2.2), (x.2.2.1.1, x.2.2.1.2.1, i2, i3), (x.2.2.2.1, x.2.2.2.2.1, x.2.2.2.2.2.1, x.2.2.2.2.2.2))]) H → va_D A (List.flatten [w_Model E a o ((x.1.1, x.1.2.1, x.1.2.2.1, x.1.2.2.2.1, x.1.2.2.2.2), (x.2.1.1, x.2.1.2.1, x.2.1.2.2.1, x.2.1.2.2.2.1, x.2.1.2.2.2.2), (x.2.2.1.1, x.2.2.1.2.1, i2, i3), (x.2.2.2.1, x.2.2.2.2.1, x.2.2.2.2.2.1, x.2.2.2.2.2.2))]) → va_S A s.heap H locs → lv_has ls 2 [(1, .int i1), (0, .ref (a o))] → W p l e rm_X11_lastBeat s m args below meth c H locs 0 0 Q (F0 m 3 ls []) := by
    intro K3 hK3 n3
    induction n3 with
    | zero => intro i1 i2 i3 H locs ls hF; exact absurd hF (by simp [f_X11_lastBeat_L3])
    | succ n3 ih3 =>
      intro i1 i2 i3 H locs ls hF hP hD hS hl
      rw [f_X11_lastBeat_L3] at hF
      refine lv_iload_n hx hb dX11_lastBeat_3 rfl (lv_at hl 0 rfl) ?_
      refine lv_if_lt (tgt := 21) hx hb dX11_lastBeat_4 (by decide) (fun c4 => ?_) (fun c4 => ?_)
      · have hF := q_brp c4 hF
        exact hK3 i1 i2 i3 H locs ls hF hP hD hS (lv_sub hl [0, 1] rfl)
      · have hF := q_brn c4 hF
        refine lv_aload_n hx hb dX11_lastBeat_7 rfl (lv_at hl 1 rfl) ?_
        refine lv_iload_n hx hb dX11_lastBeat_8 rfl (lv_at hl 0 rfl) ?_
        obtain ⟨q7, hq7, hF⟩ := q_bdi hF
        refine cl_i (Lc := [w_Model E a o ((x.1.1, x.1.2.1, x.1.2.2.1, x.1.2.2.2.1, x.1.2.2.2.2), (x.2.1.1, x.2.1.2.1, x.2.1.2.2.1, x.2.1.2.2.2.1, x.2.1.2.2.2.2), (x.2.2.1.1, x.2.2.1.2.1, i2, i3), (x.2.2.2.1, x.2.2.2.2.1, x.2.2.2.2.2.1, x.2.2.2.2.2.2))]) (Lc' := [w_Model E a o ((x.1.1, x.1.2.1, x.1.2.2.1, x.1.2.2.2.1, x.1.2.2.2.2), (x.2.1.1, x.2.1.2.1, x.2.1.2.2.1, x.2.1.2.2.2.1, x.2.1.2.2.2.2), (x.2.2.1.1, x.2.2.1.2.1, q7.2.1, q7.2.2), (x.2.2.2.1, x.2.2.2.2.1, x.2.2.2.2.2.1, x.2.2.2.2.2.2))]) (L' := [w_Model E a o ((x.1.1, x.1.2.1, x.1.2.2.1, x.1.2.2.2.1, x.1.2.2.2.2), (x.2.1.1, x.2.1.2.1, x.2.1.2.2.1, x.2.1.2.2.2.1, x.2.1.2.2.2.2), (x.2.2.1.1, x.2.2.1.2.1, q7.2.1, q7.2.2), (x.2.2.2.1, x.2.2.2.2.1, x.2.2.2.2.2.1, x.2.2.2.2.2.2))]) (rv := q7.1) (va_runV (As := [.int i1]) (rest := []) ⟨hx, hb, hml, hown, ha⟩ (k_X11_isHeard l E a o ((x.1.1, x.1.2.1, x.1.2.2.1, x.1.2.2.2.1, x.1.2.2.2.2), (x.2.1.1, x.2.1.2.1, x.2.1.2.2.1, x.2.1.2.2.2.1, x.2.1.2.2.2.2), (x.2.2.1.1, x.2.2.1.2.1, i2, i3), (x.2.2.2.1, x.2.2.2.2.1, x.2.2.2.2.2.1, x.2.2.2.2.2.2)) i1 q7 hq7 H.size) (cwV 1 ha (gi_V (fun _ h => h) mw2010 mw2012 mw58 mw87 mw2013) rfl rfl rfl hv_X11_isHeard ⟨(Nat.le_of_ble_eq_true rfl), (Nat.le_of_ble_eq_true rfl)⟩) ⟨pre_blind, va_recv hst.k (fr_P hP [0] rfl) (ci := 13) (q0 := 0) rfl rfl, pre_at hP hD hS hz hzs hst [0] (by decide) rfl rfl⟩ rfl rfl hl.1 rfl (lv_room (Nat.le_of_ble_eq_true rfl)) dX11_lastBeat_9 ⟨(Nat.le_of_ble_eq_true rfl), (Nat.le_of_ble_eq_true rfl)⟩) hP hD hS hA [0] (by decide) rfl rfl rfl rfl (fun H locs hP hD hS => ?_)
        refine lv_if_ne (tgt := 21) hx hb dX11_lastBeat_12 (by decide) (fun c12 => ?_) (fun c12 => ?_)
        · have hF := q_brn c12 hF
          exact hK3 i1 q7.2.1 q7.2.2 H locs ls hF hP hD hS (lv_sub hl [0, 1] rfl)
        · have hF := q_brp c12 hF
          obtain ⟨v8, ev8⟩ : ∃ y : Int32, y = i1 + (-1) := ⟨_, rfl⟩
          have hF := q_lti ev8 hF
          refine lv_iinc (v := v8) (lv' := [(1, .int v8), (0, .ref (a o))]) hx hb dX11_lastBeat_15 hl (k := 0) rfl (by rw [ev8]; rfl) (by decide) rfl (fun ls hl => ?_)
          refine lv_goto (tgt := 3) hx hb dX11_lastBeat_18 (by decide) ?_
          exact ih3 v8 q7.2.1 q7.2.2 H locs ls hF hP hD hS (lv_sub hl [0, 1] rfl)
  refine key3 _ ?_ _ 31 x.2.2.1.2.2.1 x.2.2.1.2.2.2 H locs ls hF hP hD hS (lv_sub hl [0, 1] rfl)
  intro y4 y5 y6 H locs ls hF hP hD hS hl
  refine lv_iload_n hx hb dX11_lastBeat_21 rfl (lv_at hl 0 rfl) ?_
  refine lv_if_ge (tgt := 33) hx hb dX11_lastBeat_22 (by decide) (fun c22 => ?_) (fun c22 => ?_)
  · have hF := q_brp c22 hF
    refine lv_aload_n hx hb dX11_lastBeat_33 rfl (lv_at hl 1 rfl) ?_
    refine lv_iload_n hx hb dX11_lastBeat_34 rfl (lv_at hl 0 rfl) ?_
    obtain ⟨q9, hq9, hF⟩ := q_bdi hF
    refine cl_i (Lc := [w_Model E a o ((x.1.1, x.1.2.1, x.1.2.2.1, x.1.2.2.2.1, x.1.2.2.2.2), (x.2.1.1, x.2.1.2.1, x.2.1.2.2.1, x.2.1.2.2.2.1, x.2.1.2.2.2.2), (x.2.2.1.1, x.2.2.1.2.1, y5, y6), (x.2.2.2.1, x.2.2.2.2.1, x.2.2.2.2.2.1, x.2.2.2.2.2.2))]) (Lc' := [w_Model E a o ((x.1.1, x.1.2.1, x.1.2.2.1, x.1.2.2.2.1, x.1.2.2.2.2), (x.2.1.1, x.2.1.2.1, x.2.1.2.2.1, x.2.1.2.2.2.1, x.2.1.2.2.2.2), (x.2.2.1.1, x.2.2.1.2.1, y5, y6), (q9.2, x.2.2.2.2.1, x.2.2.2.2.2.1, x.2.2.2.2.2.2))]) (L' := [w_Model E a o ((x.1.1, x.1.2.1, x.1.2.2.1, x.1.2.2.2.1, x.1.2.2.2.2), (x.2.1.1, x.2.1.2.1, x.2.1.2.2.1, x.2.1.2.2.2.1, x.2.1.2.2.2.2), (x.2.2.1.1, x.2.2.1.2.1, y5, y6), (q9.2, x.2.2.2.2.1, x.2.2.2.2.2.1, x.2.2.2.2.2.2))]) (rv := q9.1) (va_runV (As := [.int y4]) (rest := []) ⟨hx, hb, hml, hown, ha⟩ (k_X11_done l E a o ((x.1.1, x.1.2.1, x.1.2.2.1, x.1.2.2.2.1, x.1.2.2.2.2), (x.2.1.1, x.2.1.2.1, x.2.1.2.2.1, x.2.1.2.2.2.1, x.2.1.2.2.2.2), (x.2.2.1.1, x.2.2.1.2.1, y5, y6), (x.2.2.2.1, x.2.2.2.2.1, x.2.2.2.2.2.1, x.2.2.2.2.2.2)) y4 q9 hq9 H.size) (cwV 1 ha (gi_V (fun _ h => h) mw1720 mw1722 mw30 mw87 mw1723) rfl rfl rfl hv_X11_done ⟨(Nat.le_of_ble_eq_true rfl), (Nat.le_of_ble_eq_true rfl)⟩) ⟨pre_blind, va_recv hst.k (fr_P hP [0] rfl) (ci := 13) (q0 := 0) rfl rfl, pre_at hP hD hS hz hzs hst [0] (by decide) rfl rfl⟩ rfl rfl hl.1 rfl (lv_room (Nat.le_of_ble_eq_true rfl)) dX11_lastBeat_35 ⟨(Nat.le_of_ble_eq_true rfl), (Nat.le_of_ble_eq_true rfl)⟩) hP hD hS hA [0] (by decide) rfl rfl rfl rfl (fun H locs hP hD hS => ?_)
    obtain rfl := Option.some.inj hF
    exact en_i hQ (Nat.le_of_ble_eq_true rfl) (Nat.le_of_ble_eq_true rfl) hx hb hr hlocks hP hD hS rfl dX11_lastBeat_38
  · have hF := q_brn c22 hF
    refine lv_aload_n hx hb dX11_lastBeat_25 rfl (lv_at hl 1 rfl) ?_
    refine lv_iconst (v := 1) hx hb dX11_lastBeat_26 (by decide) ?_
    obtain ⟨q10, hq10, hF⟩ := q_bdi hF
    refine cl_i (Lc := [w_Model E a o ((x.1.1, x.1.2.1, x.1.2.2.1, x.1.2.2.2.1, x.1.2.2.2.2), (x.2.1.1, x.2.1.2.1, x.2.1.2.2.1, x.2.1.2.2.2.1, x.2.1.2.2.2.2), (x.2.2.1.1, x.2.2.1.2.1, y5, y6), (x.2.2.2.1, x.2.2.2.2.1, x.2.2.2.2.2.1, x.2.2.2.2.2.2))]) (Lc' := [w_Model E a o ((x.1.1, x.1.2.1, x.1.2.2.1, x.1.2.2.2.1, x.1.2.2.2.2), (x.2.1.1, x.2.1.2.1, x.2.1.2.2.1, x.2.1.2.2.2.1, x.2.1.2.2.2.2), (x.2.2.1.1, x.2.2.1.2.1, y5, y6), (q10.2, x.2.2.2.2.1, x.2.2.2.2.2.1, x.2.2.2.2.2.2))]) (L' := [w_Model E a o ((x.1.1, x.1.2.1, x.1.2.2.1, x.1.2.2.2.1, x.1.2.2.2.2), (x.2.1.1, x.2.1.2.1, x.2.1.2.2.1, x.2.1.2.2.2.1, x.2.1.2.2.2.2), (x.2.2.1.1, x.2.2.1.2.1, y5, y6), (q10.2, x.2.2.2.2.1, x.2.2.2.2.2.1, x.2.2.2.2.2.2))]) (rv := q10.1) (va_runV (As := [.int 1]) (rest := []) ⟨hx, hb, hml, hown, ha⟩ (k_X11_fails l E a o ((x.1.1, x.1.2.1, x.1.2.2.1, x.1.2.2.2.1, x.1.2.2.2.2), (x.2.1.1, x.2.1.2.1, x.2.1.2.2.1, x.2.1.2.2.2.1, x.2.1.2.2.2.2), (x.2.2.1.1, x.2.2.1.2.1, y5, y6), (x.2.2.2.1, x.2.2.2.2.1, x.2.2.2.2.2.1, x.2.2.2.2.2.2)) 1 q10 hq10 H.size) (cwV 1 ha (gi_V (fun _ h => h) mw1716 mw1718 mw29 mw87 mw1719) rfl rfl rfl hv_X11_fails ⟨(Nat.le_of_ble_eq_true rfl), (Nat.le_of_ble_eq_true rfl)⟩) ⟨pre_blind, va_recv hst.k (fr_P hP [0] rfl) (ci := 13) (q0 := 0) rfl rfl, pre_at hP hD hS hz hzs hst [0] (by decide) rfl rfl⟩ rfl rfl hl.1 rfl (lv_room (Nat.le_of_ble_eq_true rfl)) dX11_lastBeat_27 ⟨(Nat.le_of_ble_eq_true rfl), (Nat.le_of_ble_eq_true rfl)⟩) hP hD hS hA [0] (by decide) rfl rfl rfl rfl (fun H locs hP hD hS => ?_)
    refine lv_goto (tgt := 38) hx hb dX11_lastBeat_30 (by decide) ?_
    obtain rfl := Option.some.inj hF
    exact en_i hQ (Nat.le_of_ble_eq_true rfl) (Nat.le_of_ble_eq_true rfl) hx hb hr hlocks hP hD hS rfl dX11_lastBeat_38

/-! X11_totalDissonances -/
theorem dX11_totalDissonances_0 : decode cX11_totalDissonances 0 = .ok (.lconst 0, 1) := by decide +kernel
theorem dX11_totalDissonances_1 : decode cX11_totalDissonances 1 = .ok (.lstore_n 1, 1) := by decide +kernel
theorem dX11_totalDissonances_2 : decode cX11_totalDissonances 2 = .ok (.iconst 0, 1) := by decide +kernel
theorem dX11_totalDissonances_3 : decode cX11_totalDissonances 3 = .ok (.istore_n 3, 1) := by decide +kernel
theorem dX11_totalDissonances_4 : decode cX11_totalDissonances 4 = .ok (.iload_n 3, 1) := by decide +kernel
theorem dX11_totalDissonances_5 : decode cX11_totalDissonances 5 = .ok (.bipush 31, 2) := by decide +kernel
theorem dX11_totalDissonances_7 : decode cX11_totalDissonances 7 = .ok (.if_icmp .gt 19, 3) := by decide +kernel
theorem dX11_totalDissonances_10 : decode cX11_totalDissonances 10 = .ok (.lload_n 1, 1) := by decide +kernel
theorem dX11_totalDissonances_11 : decode cX11_totalDissonances 11 = .ok (.aload_n 0, 1) := by decide +kernel
theorem dX11_totalDissonances_12 : decode cX11_totalDissonances 12 = .ok (.iload_n 3, 1) := by decide +kernel
theorem dX11_totalDissonances_13 : decode cX11_totalDissonances 13 = .ok (.iconst 0, 1) := by decide +kernel
theorem dX11_totalDissonances_14 : decode cX11_totalDissonances 14 = .ok (.invokevirtual 174, 3) := by decide +kernel
theorem dX11_totalDissonances_17 : decode cX11_totalDissonances 17 = .ok (.i2l, 1) := by decide +kernel
theorem dX11_totalDissonances_18 : decode cX11_totalDissonances 18 = .ok (.ladd, 1) := by decide +kernel
theorem dX11_totalDissonances_19 : decode cX11_totalDissonances 19 = .ok (.lstore_n 1, 1) := by decide +kernel
theorem dX11_totalDissonances_20 : decode cX11_totalDissonances 20 = .ok (.iinc 3 1, 3) := by decide +kernel
theorem dX11_totalDissonances_23 : decode cX11_totalDissonances 23 = .ok (.goto (-19), 3) := by decide +kernel
theorem dX11_totalDissonances_26 : decode cX11_totalDissonances 26 = .ok (.aload_n 0, 1) := by decide +kernel
theorem dX11_totalDissonances_27 : decode cX11_totalDissonances 27 = .ok (.iconst 0, 1) := by decide +kernel
theorem dX11_totalDissonances_28 : decode cX11_totalDissonances 28 = .ok (.putfield 42, 3) := by decide +kernel
theorem dX11_totalDissonances_31 : decode cX11_totalDissonances 31 = .ok (.lload_n 1, 1) := by decide +kernel
theorem dX11_totalDissonances_32 : decode cX11_totalDissonances 32 = .ok (.lreturn, 1) := by decide +kernel
def f_X11_totalDissonances_L4 (x_g : (Nat → Int32)) (K4 : Int64 → (Nat → Int32) → Int32 → Option (Int64 × (Nat → Int32) × Int32 × Int32)) : Nat → Int32 → Int64 → (Nat → Int32) → Int32 → Option (Int64 × (Nat → Int32) × Int32 × Int32)
  | 0, _, _, _, _ => none
  | n4 + 1, i1, i2, i3, i4 =>
    q_br (31 < i1) (
  K4 i2 i3 i4) (
  q_bd (f_X11_pairs x_g i3 i4 i1 0) (fun q8 =>
  q_lt (i2 + (q8.1.toInt64) : Int64) (fun v9 =>
  q_lt (i1 + 1 : Int32) (fun v10 =>
  f_X11_totalDissonances_L4 x_g K4 n4 v10 v9 q8.2.1 q8.2.2))))
def f_X11_totalDissonances (x_g : (Nat → Int32)) (x_notes : (Nat → Int32)) (x_noteCount : Int32) (x_thrown : Int32) : Option (Int64 × (Nat → Int32) × Int32 × Int32) :=
  f_X11_totalDissonances_L4 x_g (fun y5 y6 y7 =>
  some (y5, y6, y7, 0)) 2000 0 0 x_notes x_noteCount
theorem hv_X11_totalDissonances : yX11_totalDissonances.cls = RX11 ∧ yX11_totalDissonances.cls ≠ "java/lang/invoke/MethodHandle" ∧ yX11_totalDissonances.cls ≠ "java/lang/invoke/VarHandle" ∧ (parseMethodDescriptor yX11_totalDissonances.desc).map (fun d => d.parameters.length) = some 0 := by decide +kernel
abbrev rm_X11_totalDissonances : Room := { frames := 4, cells := 0, slots := 0, locals := 95 }
set_option maxHeartbeats 4000000 in
set_option maxRecDepth 100000 in
theorem k_X11_totalDissonances (l : Launch) (E : ET) (a : Nat → Nat) (o : Nat) (x : Model_t) (res : Int64 × (Nat → Int32) × Int32 × Int32) (hF : f_X11_totalDissonances x.1.1 x.2.2.1.2.2.1 x.2.2.1.2.2.2 x.2.2.2.1 = some res) (sz : Nat) : CtJ l yX11_totalDissonances (mws yX11_totalDissonances cX11_totalDissonances 4 (some .long)) rm_X11_totalDissonances 0 0 [.ref (a o)] E (bl_Model E a o x) res.1 (bl_Model E a o ((x.1.1, x.1.2.1, x.1.2.2.1, x.1.2.2.2.1, x.1.2.2.2.2), (x.2.1.1, x.2.1.2.1, x.2.1.2.2.1, x.2.1.2.2.2.1, x.2.1.2.2.2.2), (x.2.2.1.1, x.2.2.1.2.1, res.2.1, res.2.2.1), (res.2.2.2, x.2.2.2.2.1, x.2.2.2.2.2.1, x.2.2.2.2.2.2))) sz := by
  refine mk_M (by decide +kernel) (Nat.le_of_ble_eq_true rfl) ?_
  intro p e s m below meth c A args Q ls hAe hsz hQ hx hb hr hml hin ha hown hlocks hA hz hzs hst hP hD hS hl
  have hown : s.vm.findClass RX11 = some m.cls := hown
  rw [hAe] at hQ
  subst hsz
  have hP : va_P E.1 vwCl (List.flatten [w_Model E a o x]) s.heap := hP
  have hD : va_D A (List.flatten [w_Model E a o x]) := hD
  have hl : lv_has ls 4 [(0, .ref (a o))] := hl
  generalize hHe : s.heap = H at hP
  have hS : va_S A s.heap H [] := by rw [← hHe]; exact hS
  generalize ([] : List Loc) = locs at hS ⊢
  unfold f_X11_totalDissonances at hF
  refine lv_lconst (v := 0) hx hb dX11_totalDissonances_0 (by decide) ?_
  refine lv_lstore_n (lv' := [(1, .long 0), (0, .ref (a o))]) hx hb dX11_totalDissonances_1 rfl hl (by decide) rfl (fun ls hl => ?_)
  refine lv_iconst (v := 0) hx hb dX11_totalDissonances_2 (by decide) ?_
  refine lv_istore_n (lv' := [(3, .int 0), (1, .long 0), (0, .ref (a o))]) hx hb dX11_totalDissonances_3 rfl hl (by decide) rfl (fun ls hl => ?_)
  have key4 : ∀ (K : Int64 → (Nat → Int32) → Int32 → Option (Int64 × (Nat → Int32) × Int32 × Int32)), (∀ (y5 : Int64) (y6 : (Nat → Int32)) (y7 : Int32) (H : Heap) (locs : List Loc) (ls : Array Slot), K y5 y6 y7 = some res → va_P E.1 vwCl (List.flatten [w_Model E a o ((x.1.1, x.1.2.1, x.1.2.2.1, x.1.2.2.2.1, x.1.2.2.2.2), (x.2.1.1, x.2.1.2.1, x.2.1.2.2.1, x.2.1.2.2.2.1, x.2.1.2.2.2.2), (x.2.2.1.1, x.2.2.1.2.1, y6, y7), (x.2.2.2.1, x.2.2.2.2.1, x.2.2.2.2.2.1, x.2.2.2.2.2.2))]) H → va_D A (List.flatten [w_Model E a o ((x.1.1, x.1.2.1, x.1.2.2.1, x.1.2.2.2.1, x.1.2.2.2.2), (x.2.1.1, x.2.1.2.1, x.2.1.2.2.1, x.2.1.2.2.2.1, x.2.1.2.2.2.2), (x.2.2.1.1, x.2.2.1.2.1, y6, y7), (x.2.2.2.1, x.2.2.2.2.1, x.2.2.2.2.2.1, x.2.2.2.2.2.2))]) → va_S A s.heap H locs → lv_has ls 4 [(1, .long y5), (0, .ref (a o))] → W p l e rm_X11_totalDissonances s m args below meth c H locs 0 0 Q (F0 m 26 ls [])) → ∀ (n : Nat) (i1 : Int32) (i2 : Int64) (i3 : (Nat → Int32)) (i4 : Int32) (H : Heap) (locs : List Loc) (ls : Array Slot), f_X11_totalDissonances_L4 x.1.1 K n i1 i2 i3 i4 = some res → va_P E.1 vwCl (List.flatten [w_Model E a o ((x.1.1, x.1.2.1, x.1.2.2.1, x.1.2.2.2.1, x.1.2.2.2.2), (x.2.1.1, x.2.1.2.1, x.2.1.2.2.1, x.2.1.2.2.2.1, x.2.1.2.2.2.2), (x.2.2.1.1, x.2.2.1.2.1, i3, i4), (x.2.2.2.1, x.2.2.2.2.1, x.2.2.2.2.2.1, x.2.2.2.2.2.2))]) H → va_D A (List.flatten [w_Model E a o ((x.1.1, x.1.2.1, x.1.2.2.1, x.1.2.2.2.1, x.1.2.2.2.2), (x.2.1.1, x.2.1.2.1, x.2.1.2.2.1, x.2.1.2.2.2.1, x.2.1.2.2.2.2), (x.2.2.1.1, x.2.2.1.2.1, i3, i4), (x.2.2.2.1, x.2.2.2.2.1, x.2.2.2.2.2.1, x.2.2.2.2.2.2))]) → va_S A s.heap H locs → lv_has ls 4 [(3, .int i1), (1, .long i2), (0, .ref (a o))] → W p l e rm_X11_totalDissonances s m args below meth c H locs 0 0 Q (F0 m 4 ls []) := by
    intro K4 hK4 n4
    induction n4 with
    | zero => intro i1 i2 i3 i4 H locs ls hF; exact absurd hF (by simp [f_X11_totalDissonances_L4])
    | succ n4 ih4 =>
      intro i1 i2 i3 i4 H locs ls hF hP hD hS hl
      rw [f_X11_totalDissonances_L4] at hF
      refine lv_iload_n hx hb dX11_totalDissonances_4 rfl (lv_at hl 0 rfl) ?_
      refine lv_bipush (v := 31) hx hb dX11_totalDissonances_5 (by decide) ?_
      refine lv_icmp_gt (tgt := 26) hx hb dX11_totalDissonances_7 (by decide) (fun c7 => ?_) (fun c7 => ?_)
      · have hF := q_brp c7 hF
        exact hK4 i2 i3 i4 H locs ls hF hP hD hS (lv_sub hl [1, 2] rfl)
      · have hF := q_brn c7 hF
        refine lv_lload_n hx hb dX11_totalDissonances_10 rfl (lv_at hl 1 rfl) ?_
        refine lv_aload_n hx hb dX11_totalDissonances_11 rfl (lv_at hl 2 rfl) ?_
        refine lv_iload_n hx hb dX11_totalDissonances_12 rfl (lv_at hl 0 rfl) ?_
        refine lv_iconst (v := 0) hx hb dX11_totalDissonances_13 (by decide) ?_
        obtain ⟨q8, hq8, hF⟩ := q_bdi hF
        refine cl_i (Lc := [w_Model E a o ((x.1.1, x.1.2.1, x.1.2.2.1, x.1.2.2.2.1, x.1.2.2.2.2), (x.2.1.1, x.2.1.2.1, x.2.1.2.2.1, x.2.1.2.2.2.1, x.2.1.2.2.2.2), (x.2.2.1.1, x.2.2.1.2.1, i3, i4), (x.2.2.2.1, x.2.2.2.2.1, x.2.2.2.2.2.1, x.2.2.2.2.2.2))]) (Lc' := [w_Model E a o ((x.1.1, x.1.2.1, x.1.2.2.1, x.1.2.2.2.1, x.1.2.2.2.2), (x.2.1.1, x.2.1.2.1, x.2.1.2.2.1, x.2.1.2.2.2.1, x.2.1.2.2.2.2), (x.2.2.1.1, x.2.2.1.2.1, q8.2.1, q8.2.2), (x.2.2.2.1, x.2.2.2.2.1, x.2.2.2.2.2.1, x.2.2.2.2.2.2))]) (L' := [w_Model E a o ((x.1.1, x.1.2.1, x.1.2.2.1, x.1.2.2.2.1, x.1.2.2.2.2), (x.2.1.1, x.2.1.2.1, x.2.1.2.2.1, x.2.1.2.2.2.1, x.2.1.2.2.2.2), (x.2.2.1.1, x.2.2.1.2.1, q8.2.1, q8.2.2), (x.2.2.2.1, x.2.2.2.2.1, x.2.2.2.2.2.1, x.2.2.2.2.2.2))]) (rv := q8.1) (va_runV (As := [.int i1, .int 0]) (rest := [.long i2]) ⟨hx, hb, hml, hown, ha⟩ (k_X11_pairs l E a o ((x.1.1, x.1.2.1, x.1.2.2.1, x.1.2.2.2.1, x.1.2.2.2.2), (x.2.1.1, x.2.1.2.1, x.2.1.2.2.1, x.2.1.2.2.2.1, x.2.1.2.2.2.2), (x.2.2.1.1, x.2.2.1.2.1, i3, i4), (x.2.2.2.1, x.2.2.2.2.1, x.2.2.2.2.2.1, x.2.2.2.2.2.2)) i1 0 q8 hq8 H.size) (cwV 2 ha (gi_V (fun _ h => h) mw1990 mw1992 mw57 mw87 mw1993) rfl rfl rfl hv_X11_pairs ⟨(Nat.le_of_ble_eq_true rfl), (Nat.le_of_ble_eq_true rfl)⟩) ⟨pre_blind, va_recv hst.k (fr_P hP [0] rfl) (ci := 13) (q0 := 0) rfl rfl, pre_at hP hD hS hz hzs hst [0] (by decide) rfl rfl⟩ rfl rfl hl.1 rfl (lv_room (Nat.le_of_ble_eq_true rfl)) dX11_totalDissonances_14 ⟨(Nat.le_of_ble_eq_true rfl), (Nat.le_of_ble_eq_true rfl)⟩) hP hD hS hA [0] (by decide) rfl rfl rfl rfl (fun H locs hP hD hS => ?_)
        refine lv_i2l hx hb dX11_totalDissonances_17 rfl ?_
        refine lv_ladd hx hb dX11_totalDissonances_18 ?_
        refine lv_topl (fun v9 ev9 => ?_)
        have hF := q_lti ev9 hF
        refine lv_lstore_n (lv' := [(1, .long v9), (3, .int i1), (0, .ref (a o))]) hx hb dX11_totalDissonances_19 rfl hl (by decide) rfl (fun ls hl => ?_)
        obtain ⟨v10, ev10⟩ : ∃ y : Int32, y = i1 + 1 := ⟨_, rfl⟩
        have hF := q_lti ev10 hF
        refine lv_iinc (v := v10) (lv' := [(3, .int v10), (1, .long v9), (0, .ref (a o))]) hx hb dX11_totalDissonances_20 hl (k := 1) rfl (by rw [ev10]; rfl) (by decide) rfl (fun ls hl => ?_)
        refine lv_goto (tgt := 4) hx hb dX11_totalDissonances_23 (by decide) ?_
        exact ih4 v10 v9 q8.2.1 q8.2.2 H locs ls hF hP hD hS (lv_sub hl [0, 1, 2] rfl)
  refine key4 _ ?_ _ 0 0 x.2.2.1.2.2.1 x.2.2.1.2.2.2 H locs ls hF hP hD hS (lv_sub hl [0, 1, 2] rfl)
  intro y5 y6 y7 H locs ls hF hP hD hS hl
  refine lv_aload_n hx hb dX11_totalDissonances_26 rfl (lv_at hl 1 rfl) ?_
  refine lv_iconst (v := 0) hx hb dX11_totalDissonances_27 (by decide) ?_
  refine va_put (D := E.1) (ci := 13) (v := .int 0) (ty := .int) (C := RX11) (T := TX11) (N := 18) hx hb ha in_X11 tyX11 tyX11_ok nmX11 hown hst.k hP hD hS 0 rfl rfl 14 (by decide) (ha _ mw1650) (fun _ h9 => h9) rfl (tyX11_ok 14 (by decide)) rfl rfl (Nat.le_of_ble_eq_true rfl) dX11_totalDissonances_28 (fun H locs hP hD hS => ?_)
  have hP : va_P E.1 vwCl (List.flatten [w_Model E a o ((x.1.1, x.1.2.1, x.1.2.2.1, x.1.2.2.2.1, x.1.2.2.2.2), (x.2.1.1, x.2.1.2.1, x.2.1.2.2.1, x.2.1.2.2.2.1, x.2.1.2.2.2.2), (x.2.2.1.1, x.2.2.1.2.1, y6, y7), (0, x.2.2.2.2.1, x.2.2.2.2.2.1, x.2.2.2.2.2.2))]) H := hP
  have hD : va_D A (List.flatten [w_Model E a o ((x.1.1, x.1.2.1, x.1.2.2.1, x.1.2.2.2.1, x.1.2.2.2.2), (x.2.1.1, x.2.1.2.1, x.2.1.2.2.1, x.2.1.2.2.2.1, x.2.1.2.2.2.2), (x.2.2.1.1, x.2.2.1.2.1, y6, y7), (0, x.2.2.2.2.1, x.2.2.2.2.2.1, x.2.2.2.2.2.2))]) := hD
  refine lv_lload_n hx hb dX11_totalDissonances_31 rfl (lv_at hl 0 rfl) ?_
  obtain rfl := Option.some.inj hF
  exact en_j hQ (Nat.le_of_ble_eq_true rfl) (Nat.le_of_ble_eq_true rfl) hx hb hr hlocks hP hD hS rfl dX11_totalDissonances_32

/-! X11_harshestBeat -/
theorem dX11_harshestBeat_0 : decode cX11_harshestBeat 0 = .ok (.iconst (-1), 1) := by decide +kernel
theorem dX11_harshestBeat_1 : decode cX11_harshestBeat 1 = .ok (.istore_n 1, 1) := by decide +kernel
theorem dX11_harshestBeat_2 : decode cX11_harshestBeat 2 = .ok (.iconst 0, 1) := by decide +kernel
theorem dX11_harshestBeat_3 : decode cX11_harshestBeat 3 = .ok (.istore_n 2, 1) := by decide +kernel
theorem dX11_harshestBeat_4 : decode cX11_harshestBeat 4 = .ok (.iload_n 2, 1) := by decide +kernel
theorem dX11_harshestBeat_5 : decode cX11_harshestBeat 5 = .ok (.bipush 31, 2) := by decide +kernel
theorem dX11_harshestBeat_7 : decode cX11_harshestBeat 7 = .ok (.if_icmp .gt 43, 3) := by decide +kernel
theorem dX11_harshestBeat_10 : decode cX11_harshestBeat 10 = .ok (.aload_n 0, 1) := by decide +kernel
theorem dX11_harshestBeat_11 : decode cX11_harshestBeat 11 = .ok (.iload_n 2, 1) := by decide +kernel
theorem dX11_harshestBeat_12 : decode cX11_harshestBeat 12 = .ok (.invokevirtual 181, 3) := by decide +kernel
theorem dX11_harshestBeat_15 : decode cX11_harshestBeat 15 = .ok (.ifCond .eq 29, 3) := by decide +kernel
theorem dX11_harshestBeat_18 : decode cX11_harshestBeat 18 = .ok (.iload_n 1, 1) := by decide +kernel
theorem dX11_harshestBeat_19 : decode cX11_harshestBeat 19 = .ok (.iconst (-1), 1) := by decide +kernel
theorem dX11_harshestBeat_20 : decode cX11_harshestBeat 20 = .ok (.if_icmp .eq 18, 3) := by decide +kernel
theorem dX11_harshestBeat_23 : decode cX11_harshestBeat 23 = .ok (.aload_n 0, 1) := by decide +kernel
theorem dX11_harshestBeat_24 : decode cX11_harshestBeat 24 = .ok (.iload_n 2, 1) := by decide +kernel
theorem dX11_harshestBeat_25 : decode cX11_harshestBeat 25 = .ok (.iconst 0, 1) := by decide +kernel
theorem dX11_harshestBeat_26 : decode cX11_harshestBeat 26 = .ok (.invokevirtual 174, 3) := by decide +kernel
theorem dX11_harshestBeat_29 : decode cX11_harshestBeat 29 = .ok (.aload_n 0, 1) := by decide +kernel
theorem dX11_harshestBeat_30 : decode cX11_harshestBeat 30 = .ok (.iload_n 1, 1) := by decide +kernel
theorem dX11_harshestBeat_31 : decode cX11_harshestBeat 31 = .ok (.iconst 0, 1) := by decide +kernel
theorem dX11_harshestBeat_32 : decode cX11_harshestBeat 32 = .ok (.invokevirtual 174, 3) := by decide +kernel
theorem dX11_harshestBeat_35 : decode cX11_harshestBeat 35 = .ok (.if_icmp .le 7, 3) := by decide +kernel
theorem dX11_harshestBeat_38 : decode cX11_harshestBeat 38 = .ok (.iload_n 2, 1) := by decide +kernel
theorem dX11_harshestBeat_39 : decode cX11_harshestBeat 39 = .ok (.goto 4, 3) := by decide +kernel
theorem dX11_harshestBeat_42 : decode cX11_harshestBeat 42 = .ok (.iload_n 1, 1) := by decide +kernel
theorem dX11_harshestBeat_43 : decode cX11_harshestBeat 43 = .ok (.istore_n 1, 1) := by decide +kernel
theorem dX11_harshestBeat_44 : decode cX11_harshestBeat 44 = .ok (.iinc 2 1, 3) := by decide +kernel
theorem dX11_harshestBeat_47 : decode cX11_harshestBeat 47 = .ok (.goto (-43), 3) := by decide +kernel
theorem dX11_harshestBeat_50 : decode cX11_harshestBeat 50 = .ok (.iload_n 1, 1) := by decide +kernel
theorem dX11_harshestBeat_51 : decode cX11_harshestBeat 51 = .ok (.iconst (-1), 1) := by decide +kernel
theorem dX11_harshestBeat_52 : decode cX11_harshestBeat 52 = .ok (.if_icmp .ne 11, 3) := by decide +kernel
theorem dX11_harshestBeat_55 : decode cX11_harshestBeat 55 = .ok (.aload_n 0, 1) := by decide +kernel
theorem dX11_harshestBeat_56 : decode cX11_harshestBeat 56 = .ok (.iconst 1, 1) := by decide +kernel
theorem dX11_harshestBeat_57 : decode cX11_harshestBeat 57 = .ok (.invokevirtual 80, 3) := by decide +kernel
theorem dX11_harshestBeat_60 : decode cX11_harshestBeat 60 = .ok (.goto 8, 3) := by decide +kernel
theorem dX11_harshestBeat_63 : decode cX11_harshestBeat 63 = .ok (.aload_n 0, 1) := by decide +kernel
theorem dX11_harshestBeat_64 : decode cX11_harshestBeat 64 = .ok (.iload_n 1, 1) := by decide +kernel
theorem dX11_harshestBeat_65 : decode cX11_harshestBeat 65 = .ok (.invokevirtual 83, 3) := by decide +kernel
theorem dX11_harshestBeat_68 : decode cX11_harshestBeat 68 = .ok (.ireturn, 1) := by decide +kernel
def f_X11_harshestBeat_L4 (x_g : (Nat → Int32)) (K4 : Int32 → (Nat → Int32) → Int32 → Option (Int32 × (Nat → Int32) × Int32 × Int32)) : Nat → Int32 → Int32 → (Nat → Int32) → Int32 → Option (Int32 × (Nat → Int32) × Int32 × Int32)
  | 0, _, _, _, _ => none
  | n4 + 1, i1, i2, i3, i4 =>
    q_br (31 < i1) (
  K4 i2 i3 i4) (
  q_bd (f_X11_isHeard x_g i3 i4 i1) (fun q8 =>
  q_lt (fun (j9 : Int32) (j10 : (Nat → Int32)) (j11 : Int32) =>
  q_lt (i1 + 1 : Int32) (fun v12 =>
  f_X11_harshestBeat_L4 x_g K4 n4 v12 j9 j10 j11)) (fun (J44 : Int32 → (Nat → Int32) → Int32 → Option (Int32 × (Nat → Int32) × Int32 × Int32)) =>
  q_br (q8.1 = 0) (
  J44 i2 q8.2.1 q8.2.2) (
  q_lt (fun (j13 : Int32) (j14 : (Nat → Int32)) (j15 : Int32) =>
  J44 j13 j14 j15) (fun (J43 : Int32 → (Nat → Int32) → Int32 → Option (Int32 × (Nat → Int32) × Int32 × Int32)) =>
  q_br (i2 = (-1)) (
  J43 i1 q8.2.1 q8.2.2) (
  q_bd (f_X11_pairs x_g q8.2.1 q8.2.2 i1 0) (fun q16 =>
  q_bd (f_X11_pairs x_g q16.2.1 q16.2.2 i2 0) (fun q17 =>
  q_br (q16.1 ≤ q17.1) (
  J43 i2 q17.2.1 q17.2.2) (
  J43 i1 q17.2.1 q17.2.2)))))))))
def f_X11_harshestBeat (x_g : (Nat → Int32)) (x_notes : (Nat → Int32)) (x_noteCount : Int32) (x_thrown : Int32) : Option (Int32 × (Nat → Int32) × Int32 × Int32) :=
  f_X11_harshestBeat_L4 x_g (fun y5 y6 y7 =>
  q_br (y5 = (-1)) (
  q_bd (f_X11_fails x_thrown 1) (fun q19 =>
  some (q19.1, y6, y7, q19.2))) (
  q_bd (f_X11_done x_thrown y5) (fun q18 =>
  some (q18.1, y6, y7, q18.2)))) 2000 0 (-1) x_notes x_noteCount
theorem hv_X11_harshestBeat : yX11_harshestBeat.cls = RX11 ∧ yX11_harshestBeat.cls ≠ "java/lang/invoke/MethodHandle" ∧ yX11_harshestBeat.cls ≠ "java/lang/invoke/VarHandle" ∧ (parseMethodDescriptor yX11_harshestBeat.desc).map (fun d => d.parameters.length) = some 0 := by decide +kernel
abbrev rm_X11_harshestBeat : Room := { frames := 4, cells := 0, slots := 0, locals := 95 }
set_option maxHeartbeats 4000000 in
set_option maxRecDepth 100000 in
theorem k_X11_harshestBeat (l : Launch) (E : ET) (a : Nat → Nat) (o : Nat) (x : Model_t) (res : Int32 × (Nat → Int32) × Int32 × Int32) (hF : f_X11_harshestBeat x.1.1 x.2.2.1.2.2.1 x.2.2.1.2.2.2 x.2.2.2.1 = some res) (sz : Nat) : CtI l yX11_harshestBeat (mws yX11_harshestBeat cX11_harshestBeat 3 (some .int)) rm_X11_harshestBeat 0 0 [.ref (a o)] E (bl_Model E a o x) res.1 (bl_Model E a o ((x.1.1, x.1.2.1, x.1.2.2.1, x.1.2.2.2.1, x.1.2.2.2.2), (x.2.1.1, x.2.1.2.1, x.2.1.2.2.1, x.2.1.2.2.2.1, x.2.1.2.2.2.2), (x.2.2.1.1, x.2.2.1.2.1, res.2.1, res.2.2.1), (res.2.2.2, x.2.2.2.2.1, x.2.2.2.2.2.1, x.2.2.2.2.2.2))) sz := by
  refine mk_M (by decide +kernel) (Nat.le_of_ble_eq_true rfl) ?_
  intro p e s m below meth c A args Q ls hAe hsz hQ hx hb hr hml hin ha hown hlocks hA hz hzs hst hP hD hS hl
  have hown : s.vm.findClass RX11 = some m.cls := hown
  rw [hAe] at hQ
  subst hsz
  have hP : va_P E.1 vwCl (List.flatten [w_Model E a o x]) s.heap := hP
  have hD : va_D A (List.flatten [w_Model E a o x]) := hD
  have hl : lv_has ls 3 [(0, .ref (a o))] := hl
  generalize hHe : s.heap = H at hP
  have hS : va_S A s.heap H [] := by rw [← hHe]; exact hS
  generalize ([] : List Loc) = locs at hS ⊢
  unfold f_X11_harshestBeat at hF
  refine lv_iconst (v := (-1)) hx hb dX11_harshestBeat_0 (by decide) ?_
  refine lv_istore_n (lv' := [(1, .int (-1)), (0, .ref (a o))]) hx hb dX11_harshestBeat_1 rfl hl (by decide) rfl (fun ls hl => ?_)
  refine lv_iconst (v := 0) hx hb dX11_harshestBeat_2 (by decide) ?_
  refine lv_istore_n (lv' := [(2, .int 0), (1, .int (-1)), (0, .ref (a o))]) hx hb dX11_harshestBeat_3 rfl hl (by decide) rfl (fun ls hl => ?_)
  have key4 : ∀ (K : Int32 → (Nat → Int32) → Int32 → Option (Int32 × (Nat → Int32) × Int32 × Int32)), (∀ (y5 : Int32) (y6 : (Nat → Int32)) (y7 : Int32) (H : Heap) (locs : List Loc) (ls : Array Slot), K y5 y6 y7 = some res → va_P E.1 vwCl (List.flatten [w_Model E a o ((x.1.1, x.1.2.1, x.1.2.2.1, x.1.2.2.2.1, x.1.2.2.2.2), (x.2.1.1, x.2.1.2.1, x.2.1.2.2.1, x.2.1.2.2.2.1, x.2.1.2.2.2.2), (x.2.2.1.1, x.2.2.1.2.1, y6, y7), (x.2.2.2.1, x.2.2.2.2.1, x.2.2.2.2.2.1, x.2.2.2.2.2.2))]) H → va_D A (List.flatten [w_Model E a o ((x.1.1, x.1.2.1, x.1.2.2.1, x.1.2.2.2.1, x.1.2.2.2.2), (x.2.1.1, x.2.1.2.1, x.2.1.2.2.1, x.2.1.2.2.2.1, x.2.1.2.2.2.2), (x.2.2.1.1, x.2.2.1.2.1, y6, y7), (x.2.2.2.1, x.2.2.2.2.1, x.2.2.2.2.2.1, x.2.2.2.2.2.2))]) → va_S A s.heap H locs → lv_has ls 3 [(1, .int y5), (0, .ref (a o))] → W p l e rm_X11_harshestBeat s m args below meth c H locs 0 0 Q (F0 m 50 ls [])) → ∀ (n : Nat) (i1 : Int32) (i2 : Int32) (i3 : (Nat → Int32)) (i4 : Int32) (H : Heap) (locs : List Loc) (ls : Array Slot), f_X11_harshestBeat_L4 x.1.1 K n i1 i2 i3 i4 = some res → va_P E.1 vwCl (List.flatten [w_Model E a o ((x.1.1, x.1.2.1, x.1.2.2.1, x.1.2.2.2.1, x.1.2.2.2.2), (x.2.1.1, x.2.1.2.1, x.2.1.2.2.1, x.2.1.2.2.2.1, x.2.1.2.2.2.2), (x.2.2.1.1, x.2.2.1.2.1, i3, i4), (x.2.2.2.1, x.2.2.2.2.1, x.2.2.2.2.2.1, x.2.2.2.2.2.2))]) H → va_D A (List.flatten [w_Model E a o ((x.1.1, x.1.2.1, x.1.2.2.1, x.1.2.2.2.1, x.1.2.2.2.2), (x.2.1.1, x.2.1.2.1, x.2.1.2.2.1, x.2.1.2.2.2.1, x.2.1.2.2.2.2), (x.2.2.1.1, x.2.2.1.2.1, i3, i4), (x.2.2.2.1, x.2.2.2.2.1, x.2.2.2.2.2.1, x.2.2.2.2.2.2))]) → va_S A s.heap H locs → lv_has ls 3 [(2, .int i1), (1, .int i2), (0, .ref (a o))] → W p l e rm_X11_harshestBeat s m args below meth c H locs 0 0 Q (F0 m 4 ls []) := by
    intro K4 hK4 n4
    induction n4 with
    | zero => intro i1 i2 i3 i4 H locs ls hF; exact absurd hF (by simp [f_X11_harshestBeat_L4])
    | succ n4 ih4 =>
      intro i1 i2 i3 i4 H locs ls hF hP hD hS hl
      rw [f_X11_harshestBeat_L4] at hF
      refine lv_iload_n hx hb dX11_harshestBeat_4 rfl (lv_at hl 0 rfl) ?_
      refine lv_bipush (v := 31) hx hb dX11_harshestBeat_5 (by decide) ?_
      refine lv_icmp_gt (tgt := 50) hx hb dX11_harshestBeat_7 (by decide) (fun c7 => ?_) (fun c7 => ?_)
      · have hF := q_brp c7 hF
        exact hK4 i2 i3 i4 H locs ls hF hP hD hS (lv_sub hl [1, 2] rfl)
      · have hF := q_brn c7 hF
        refine lv_aload_n hx hb dX11_harshestBeat_10 rfl (lv_at hl 2 rfl) ?_
        refine lv_iload_n hx hb dX11_harshestBeat_11 rfl (lv_at hl 0 rfl) ?_
        obtain ⟨q8, hq8, hF⟩ := q_bdi hF
        refine cl_i (Lc := [w_Model E a o ((x.1.1, x.1.2.1, x.1.2.2.1, x.1.2.2.2.1, x.1.2.2.2.2), (x.2.1.1, x.2.1.2.1, x.2.1.2.2.1, x.2.1.2.2.2.1, x.2.1.2.2.2.2), (x.2.2.1.1, x.2.2.1.2.1, i3, i4), (x.2.2.2.1, x.2.2.2.2.1, x.2.2.2.2.2.1, x.2.2.2.2.2.2))]) (Lc' := [w_Model E a o ((x.1.1, x.1.2.1, x.1.2.2.1, x.1.2.2.2.1, x.1.2.2.2.2), (x.2.1.1, x.2.1.2.1, x.2.1.2.2.1, x.2.1.2.2.2.1, x.2.1.2.2.2.2), (x.2.2.1.1, x.2.2.1.2.1, q8.2.1, q8.2.2), (x.2.2.2.1, x.2.2.2.2.1, x.2.2.2.2.2.1, x.2.2.2.2.2.2))]) (L' := [w_Model E a o ((x.1.1, x.1.2.1, x.1.2.2.1, x.1.2.2.2.1, x.1.2.2.2.2), (x.2.1.1, x.2.1.2.1, x.2.1.2.2.1, x.2.1.2.2.2.1, x.2.1.2.2.2.2), (x.2.2.1.1, x.2.2.1.2.1, q8.2.1, q8.2.2), (x.2.2.2.1, x.2.2.2.2.1, x.2.2.2.2.2.1, x.2.2.2.2.2.2))]) (rv := q8.1) (va_runV (As := [.int i1]) (rest := []) ⟨hx, hb, hml, hown, ha⟩ (k_X11_isHeard l E a o ((x.1.1, x.1.2.1, x.1.2.2.1, x.1.2.2.2.1, x.1.2.2.2.2), (x.2.1.1, x.2.1.2.1, x.2.1.2.2.1, x.2.1.2.2.2.1, x.2.1.2.2.2.2), (x.2.2.1.1, x.2.2.1.2.1, i3, i4), (x.2.2.2.1, x.2.2.2.2.1, x.2.2.2.2.2.1, x.2.2.2.2.2.2)) i1 q8 hq8 H.size) (cwV 1 ha (gi_V (fun _ h => h) mw2010 mw2012 mw58 mw87 mw2013) rfl rfl rfl hv_X11_isHeard ⟨(Nat.le_of_ble_eq_true rfl), (Nat.le_of_ble_eq_true rfl)⟩) ⟨pre_blind, va_recv hst.k (fr_P hP [0] rfl) (ci := 13) (q0 := 0) rfl rfl, pre_at hP hD hS hz hzs hst [0] (by decide) rfl rfl⟩ rfl rfl hl.1 rfl (lv_room (Nat.le_of_ble_eq_true rfl)) dX11_harshestBeat_12 ⟨(Nat.le_of_ble_eq_true rfl), (Nat.le_of_ble_eq_true rfl)⟩) hP hD hS hA [0] (by decide) rfl rfl rfl rfl (fun H locs hP hD hS => ?_)
        obtain ⟨J44, hJ44, hF⟩ := q_jn hF
        have jJ44 : ∀ (j9 : Int32) (j10 : (Nat → Int32)) (j11 : Int32), ∀ (H : Heap) (locs : List Loc) (ls : Array Slot), J44 j9 j10 j11 = some res → va_P E.1 vwCl (List.flatten [w_Model E a o ((x.1.1, x.1.2.1, x.1.2.2.1, x.1.2.2.2.1, x.1.2.2.2.2), (x.2.1.1, x.2.1.2.1, x.2.1.2.2.1, x.2.1.2.2.2.1, x.2.1.2.2.2.2), (x.2.2.1.1, x.2.2.1.2.1, j10, j11), (x.2.2.2.1, x.2.2.2.2.1, x.2.2.2.2.2.1, x.2.2.2.2.2.2))]) H → va_D A (List.flatten [w_Model E a o ((x.1.1, x.1.2.1, x.1.2.2.1, x.1.2.2.2.1, x.1.2.2.2.2), (x.2.1.1, x.2.1.2.1, x.2.1.2.2.1, x.2.1.2.2.2.1, x.2.1.2.2.2.2), (x.2.2.1.1, x.2.2.1.2.1, j10, j11), (x.2.2.2.1, x.2.2.2.2.1, x.2.2.2.2.2.1, x.2.2.2.2.2.2))]) → va_S A s.heap H locs → lv_has ls 3 [(2, .int i1), (1, .int j9), (0, .ref (a o))] → W p l e rm_X11_harshestBeat s m args below meth c H locs 0 0 Q (F0 m 44 ls []) := by
          intro j9 j10 j11 H locs ls hF hP hD hS hl
          rw [hJ44] at hF
          obtain ⟨v12, ev12⟩ : ∃ y : Int32, y = i1 + 1 := ⟨_, rfl⟩
          have hF := q_lti ev12 hF
          refine lv_iinc (v := v12) (lv' := [(2, .int v12), (1, .int j9), (0, .ref (a o))]) hx hb dX11_harshestBeat_44 hl (k := 0) rfl (by rw [ev12]; rfl) (by decide) rfl (fun ls hl => ?_)
          refine lv_goto (tgt := 4) hx hb dX11_harshestBeat_47 (by decide) ?_
          exact ih4 v12 j9 j10 j11 H locs ls hF hP hD hS (lv_sub hl [0, 1, 2] rfl)
        refine lv_if_eq (tgt := 44) hx hb dX11_harshestBeat_15 (by decide) (fun c15 => ?_) (fun c15 => ?_)
        · have hF := q_brp c15 hF
          exact jJ44 i2 q8.2.1 q8.2.2 H locs ls hF hP hD hS (lv_sub hl [0, 1, 2] rfl)
        · have hF := q_brn c15 hF
          refine lv_iload_n hx hb dX11_harshestBeat_18 rfl (lv_at hl 1 rfl) ?_
          refine lv_iconst (v := (-1)) hx hb dX11_harshestBeat_19 (by decide) ?_
          obtain ⟨J43, hJ43, hF⟩ := q_jn hF
          have jJ43 : ∀ (j13 : Int32) (j14 : (Nat → Int32)) (j15 : Int32), ∀ (H : Heap) (locs : List Loc) (ls : Array Slot), J43 j13 j14 j15 = some res → va_P E.1 vwCl (List.flatten [w_Model E a o ((x.1.1, x.1.2.1, x.1.2.2.1, x.1.2.2.2.1, x.1.2.2.2.2), (x.2.1.1, x.2.1.2.1, x.2.1.2.2.1, x.2.1.2.2.2.1, x.2.1.2.2.2.2), (x.2.2.1.1, x.2.2.1.2.1, j14, j15), (x.2.2.2.1, x.2.2.2.2.1, x.2.2.2.2.2.1, x.2.2.2.2.2.2))]) H → va_D A (List.flatten [w_Model E a o ((x.1.1, x.1.2.1, x.1.2.2.1, x.1.2.2.2.1, x.1.2.2.2.2), (x.2.1.1, x.2.1.2.1, x.2.1.2.2.1, x.2.1.2.2.2.1, x.2.1.2.2.2.2), (x.2.2.1.1, x.2.2.1.2.1, j14, j15), (x.2.2.2.1, x.2.2.2.2.1, x.2.2.2.2.2.1, x.2.2.2.2.2.2))]) → va_S A s.heap H locs → lv_has ls 3 [(2, .int i1), (0, .ref (a o))] → W p l e rm_X11_harshestBeat s m args below meth c H locs 0 0 Q (F0 m 43 ls [.int j13]) := by
            intro j13 j14 j15 H locs ls hF hP hD hS hl
            rw [hJ43] at hF
            refine lv_istore_n (lv' := [(1, .int j13), (2, .int i1), (0, .ref (a o))]) hx hb dX11_harshestBeat_43 rfl hl (by decide) rfl (fun ls hl => ?_)
            exact jJ44 j13 j14 j15 H locs ls hF hP hD hS (lv_sub hl [1, 0, 2] rfl)
          refine lv_icmp_eq (tgt := 38) hx hb dX11_harshestBeat_20 (by decide) (fun c20 => ?_) (fun c20 => ?_)
          · have hF := q_brp c20 hF
            refine lv_iload_n hx hb dX11_harshestBeat_38 rfl (lv_at hl 0 rfl) ?_
            refine lv_goto (tgt := 43) hx hb dX11_harshestBeat_39 (by decide) ?_
            exact jJ43 i1 q8.2.1 q8.2.2 H locs ls hF hP hD hS (lv_sub hl [0, 2] rfl)
          · have hF := q_brn c20 hF
            refine lv_aload_n hx hb dX11_harshestBeat_23 rfl (lv_at hl 2 rfl) ?_
            refine lv_iload_n hx hb dX11_harshestBeat_24 rfl (lv_at hl 0 rfl) ?_
            refine lv_iconst (v := 0) hx hb dX11_harshestBeat_25 (by decide) ?_
            obtain ⟨q16, hq16, hF⟩ := q_bdi hF
            refine cl_i (Lc := [w_Model E a o ((x.1.1, x.1.2.1, x.1.2.2.1, x.1.2.2.2.1, x.1.2.2.2.2), (x.2.1.1, x.2.1.2.1, x.2.1.2.2.1, x.2.1.2.2.2.1, x.2.1.2.2.2.2), (x.2.2.1.1, x.2.2.1.2.1, q8.2.1, q8.2.2), (x.2.2.2.1, x.2.2.2.2.1, x.2.2.2.2.2.1, x.2.2.2.2.2.2))]) (Lc' := [w_Model E a o ((x.1.1, x.1.2.1, x.1.2.2.1, x.1.2.2.2.1, x.1.2.2.2.2), (x.2.1.1, x.2.1.2.1, x.2.1.2.2.1, x.2.1.2.2.2.1, x.2.1.2.2.2.2), (x.2.2.1.1, x.2.2.1.2.1, q16.2.1, q16.2.2), (x.2.2.2.1, x.2.2.2.2.1, x.2.2.2.2.2.1, x.2.2.2.2.2.2))]) (L' := [w_Model E a o ((x.1.1, x.1.2.1, x.1.2.2.1, x.1.2.2.2.1, x.1.2.2.2.2), (x.2.1.1, x.2.1.2.1, x.2.1.2.2.1, x.2.1.2.2.2.1, x.2.1.2.2.2.2), (x.2.2.1.1, x.2.2.1.2.1, q16.2.1, q16.2.2), (x.2.2.2.1, x.2.2.2.2.1, x.2.2.2.2.2.1, x.2.2.2.2.2.2))]) (rv := q16.1) (va_runV (As := [.int i1, .int 0]) (rest := []) ⟨hx, hb, hml, hown, ha⟩ (k_X11_pairs l E a o ((x.1.1, x.1.2.1, x.1.2.2.1, x.1.2.2.2.1, x.1.2.2.2.2), (x.2.1.1, x.2.1.2.1, x.2.1.2.2.1, x.2.1.2.2.2.1, x.2.1.2.2.2.2), (x.2.2.1.1, x.2.2.1.2.1, q8.2.1, q8.2.2), (x.2.2.2.1, x.2.2.2.2.1, x.2.2.2.2.2.1, x.2.2.2.2.2.2)) i1 0 q16 hq16 H.size) (cwV 2 ha (gi_V (fun _ h => h) mw1990 mw1992 mw57 mw87 mw1993) rfl rfl rfl hv_X11_pairs ⟨(Nat.le_of_ble_eq_true rfl), (Nat.le_of_ble_eq_true rfl)⟩) ⟨pre_blind, va_recv hst.k (fr_P hP [0] rfl) (ci := 13) (q0 := 0) rfl rfl, pre_at hP hD hS hz hzs hst [0] (by decide) rfl rfl⟩ rfl rfl hl.1 rfl (lv_room (Nat.le_of_ble_eq_true rfl)) dX11_harshestBeat_26 ⟨(Nat.le_of_ble_eq_true rfl), (Nat.le_of_ble_eq_true rfl)⟩) hP hD hS hA [0] (by decide) rfl rfl rfl rfl (fun H locs hP hD hS => ?_)
            refine lv_aload_n hx hb dX11_harshestBeat_29 rfl (lv_at hl 2 rfl) ?_
            refine lv_iload_n hx hb dX11_harshestBeat_30 rfl (lv_at hl 1 rfl) ?_
            refine lv_iconst (v := 0) hx hb dX11_harshestBeat_31 (by decide) ?_
            obtain ⟨q17, hq17, hF⟩ := q_bdi hF
            refine cl_i (Lc := [w_Model E a o ((x.1.1, x.1.2.1, x.1.2.2.1, x.1.2.2.2.1, x.1.2.2.2.2), (x.2.1.1, x.2.1.2.1, x.2.1.2.2.1, x.2.1.2.2.2.1, x.2.1.2.2.2.2), (x.2.2.1.1, x.2.2.1.2.1, q16.2.1, q16.2.2), (x.2.2.2.1, x.2.2.2.2.1, x.2.2.2.2.2.1, x.2.2.2.2.2.2))]) (Lc' := [w_Model E a o ((x.1.1, x.1.2.1, x.1.2.2.1, x.1.2.2.2.1, x.1.2.2.2.2), (x.2.1.1, x.2.1.2.1, x.2.1.2.2.1, x.2.1.2.2.2.1, x.2.1.2.2.2.2), (x.2.2.1.1, x.2.2.1.2.1, q17.2.1, q17.2.2), (x.2.2.2.1, x.2.2.2.2.1, x.2.2.2.2.2.1, x.2.2.2.2.2.2))]) (L' := [w_Model E a o ((x.1.1, x.1.2.1, x.1.2.2.1, x.1.2.2.2.1, x.1.2.2.2.2), (x.2.1.1, x.2.1.2.1, x.2.1.2.2.1, x.2.1.2.2.2.1, x.2.1.2.2.2.2), (x.2.2.1.1, x.2.2.1.2.1, q17.2.1, q17.2.2), (x.2.2.2.1, x.2.2.2.2.1, x.2.2.2.2.2.1, x.2.2.2.2.2.2))]) (rv := q17.1) (va_runV (As := [.int i2, .int 0]) (rest := [.int q16.1]) ⟨hx, hb, hml, hown, ha⟩ (k_X11_pairs l E a o ((x.1.1, x.1.2.1, x.1.2.2.1, x.1.2.2.2.1, x.1.2.2.2.2), (x.2.1.1, x.2.1.2.1, x.2.1.2.2.1, x.2.1.2.2.2.1, x.2.1.2.2.2.2), (x.2.2.1.1, x.2.2.1.2.1, q16.2.1, q16.2.2), (x.2.2.2.1, x.2.2.2.2.1, x.2.2.2.2.2.1, x.2.2.2.2.2.2)) i2 0 q17 hq17 H.size) (cwV 2 ha (gi_V (fun _ h => h) mw1990 mw1992 mw57 mw87 mw1993) rfl rfl rfl hv_X11_pairs ⟨(Nat.le_of_ble_eq_true rfl), (Nat.le_of_ble_eq_true rfl)⟩) ⟨pre_blind, va_recv hst.k (fr_P hP [0] rfl) (ci := 13) (q0 := 0) rfl rfl, pre_at hP hD hS hz hzs hst [0] (by decide) rfl rfl⟩ rfl rfl hl.1 rfl (lv_room (Nat.le_of_ble_eq_true rfl)) dX11_harshestBeat_32 ⟨(Nat.le_of_ble_eq_true rfl), (Nat.le_of_ble_eq_true rfl)⟩) hP hD hS hA [0] (by decide) rfl rfl rfl rfl (fun H locs hP hD hS => ?_)
            refine lv_icmp_le (tgt := 42) hx hb dX11_harshestBeat_35 (by decide) (fun c35 => ?_) (fun c35 => ?_)
            · have hF := q_brp c35 hF
              refine lv_iload_n hx hb dX11_harshestBeat_42 rfl (lv_at hl 1 rfl) ?_
              exact jJ43 i2 q17.2.1 q17.2.2 H locs ls hF hP hD hS (lv_sub hl [0, 2] rfl)
            · have hF := q_brn c35 hF
              refine lv_iload_n hx hb dX11_harshestBeat_38 rfl (lv_at hl 0 rfl) ?_
              refine lv_goto (tgt := 43) hx hb dX11_harshestBeat_39 (by decide) ?_
              exact jJ43 i1 q17.2.1 q17.2.2 H locs ls hF hP hD hS (lv_sub hl [0, 2] rfl)
  refine key4 _ ?_ _ 0 (-1) x.2.2.1.2.2.1 x.2.2.1.2.2.2 H locs ls hF hP hD hS (lv_sub hl [0, 1, 2] rfl)
  intro y5 y6 y7 H locs ls hF hP hD hS hl
  refine lv_iload_n hx hb dX11_harshestBeat_50 rfl (lv_at hl 0 rfl) ?_
  refine lv_iconst (v := (-1)) hx hb dX11_harshestBeat_51 (by decide) ?_
  refine lv_icmp_ne (tgt := 63) hx hb dX11_harshestBeat_52 (by decide) (fun c52 => ?_) (fun c52 => ?_)
  · have hF := q_brn c52 hF
    refine lv_aload_n hx hb dX11_harshestBeat_63 rfl (lv_at hl 1 rfl) ?_
    refine lv_iload_n hx hb dX11_harshestBeat_64 rfl (lv_at hl 0 rfl) ?_
    obtain ⟨q18, hq18, hF⟩ := q_bdi hF
    refine cl_i (Lc := [w_Model E a o ((x.1.1, x.1.2.1, x.1.2.2.1, x.1.2.2.2.1, x.1.2.2.2.2), (x.2.1.1, x.2.1.2.1, x.2.1.2.2.1, x.2.1.2.2.2.1, x.2.1.2.2.2.2), (x.2.2.1.1, x.2.2.1.2.1, y6, y7), (x.2.2.2.1, x.2.2.2.2.1, x.2.2.2.2.2.1, x.2.2.2.2.2.2))]) (Lc' := [w_Model E a o ((x.1.1, x.1.2.1, x.1.2.2.1, x.1.2.2.2.1, x.1.2.2.2.2), (x.2.1.1, x.2.1.2.1, x.2.1.2.2.1, x.2.1.2.2.2.1, x.2.1.2.2.2.2), (x.2.2.1.1, x.2.2.1.2.1, y6, y7), (q18.2, x.2.2.2.2.1, x.2.2.2.2.2.1, x.2.2.2.2.2.2))]) (L' := [w_Model E a o ((x.1.1, x.1.2.1, x.1.2.2.1, x.1.2.2.2.1, x.1.2.2.2.2), (x.2.1.1, x.2.1.2.1, x.2.1.2.2.1, x.2.1.2.2.2.1, x.2.1.2.2.2.2), (x.2.2.1.1, x.2.2.1.2.1, y6, y7), (q18.2, x.2.2.2.2.1, x.2.2.2.2.2.1, x.2.2.2.2.2.2))]) (rv := q18.1) (va_runV (As := [.int y5]) (rest := []) ⟨hx, hb, hml, hown, ha⟩ (k_X11_done l E a o ((x.1.1, x.1.2.1, x.1.2.2.1, x.1.2.2.2.1, x.1.2.2.2.2), (x.2.1.1, x.2.1.2.1, x.2.1.2.2.1, x.2.1.2.2.2.1, x.2.1.2.2.2.2), (x.2.2.1.1, x.2.2.1.2.1, y6, y7), (x.2.2.2.1, x.2.2.2.2.1, x.2.2.2.2.2.1, x.2.2.2.2.2.2)) y5 q18 hq18 H.size) (cwV 1 ha (gi_V (fun _ h => h) mw1720 mw1722 mw30 mw87 mw1723) rfl rfl rfl hv_X11_done ⟨(Nat.le_of_ble_eq_true rfl), (Nat.le_of_ble_eq_true rfl)⟩) ⟨pre_blind, va_recv hst.k (fr_P hP [0] rfl) (ci := 13) (q0 := 0) rfl rfl, pre_at hP hD hS hz hzs hst [0] (by decide) rfl rfl⟩ rfl rfl hl.1 rfl (lv_room (Nat.le_of_ble_eq_true rfl)) dX11_harshestBeat_65 ⟨(Nat.le_of_ble_eq_true rfl), (Nat.le_of_ble_eq_true rfl)⟩) hP hD hS hA [0] (by decide) rfl rfl rfl rfl (fun H locs hP hD hS => ?_)
    obtain rfl := Option.some.inj hF
    exact en_i hQ (Nat.le_of_ble_eq_true rfl) (Nat.le_of_ble_eq_true rfl) hx hb hr hlocks hP hD hS rfl dX11_harshestBeat_68
  · have hF := q_brp c52 hF
    refine lv_aload_n hx hb dX11_harshestBeat_55 rfl (lv_at hl 1 rfl) ?_
    refine lv_iconst (v := 1) hx hb dX11_harshestBeat_56 (by decide) ?_
    obtain ⟨q19, hq19, hF⟩ := q_bdi hF
    refine cl_i (Lc := [w_Model E a o ((x.1.1, x.1.2.1, x.1.2.2.1, x.1.2.2.2.1, x.1.2.2.2.2), (x.2.1.1, x.2.1.2.1, x.2.1.2.2.1, x.2.1.2.2.2.1, x.2.1.2.2.2.2), (x.2.2.1.1, x.2.2.1.2.1, y6, y7), (x.2.2.2.1, x.2.2.2.2.1, x.2.2.2.2.2.1, x.2.2.2.2.2.2))]) (Lc' := [w_Model E a o ((x.1.1, x.1.2.1, x.1.2.2.1, x.1.2.2.2.1, x.1.2.2.2.2), (x.2.1.1, x.2.1.2.1, x.2.1.2.2.1, x.2.1.2.2.2.1, x.2.1.2.2.2.2), (x.2.2.1.1, x.2.2.1.2.1, y6, y7), (q19.2, x.2.2.2.2.1, x.2.2.2.2.2.1, x.2.2.2.2.2.2))]) (L' := [w_Model E a o ((x.1.1, x.1.2.1, x.1.2.2.1, x.1.2.2.2.1, x.1.2.2.2.2), (x.2.1.1, x.2.1.2.1, x.2.1.2.2.1, x.2.1.2.2.2.1, x.2.1.2.2.2.2), (x.2.2.1.1, x.2.2.1.2.1, y6, y7), (q19.2, x.2.2.2.2.1, x.2.2.2.2.2.1, x.2.2.2.2.2.2))]) (rv := q19.1) (va_runV (As := [.int 1]) (rest := []) ⟨hx, hb, hml, hown, ha⟩ (k_X11_fails l E a o ((x.1.1, x.1.2.1, x.1.2.2.1, x.1.2.2.2.1, x.1.2.2.2.2), (x.2.1.1, x.2.1.2.1, x.2.1.2.2.1, x.2.1.2.2.2.1, x.2.1.2.2.2.2), (x.2.2.1.1, x.2.2.1.2.1, y6, y7), (x.2.2.2.1, x.2.2.2.2.1, x.2.2.2.2.2.1, x.2.2.2.2.2.2)) 1 q19 hq19 H.size) (cwV 1 ha (gi_V (fun _ h => h) mw1716 mw1718 mw29 mw87 mw1719) rfl rfl rfl hv_X11_fails ⟨(Nat.le_of_ble_eq_true rfl), (Nat.le_of_ble_eq_true rfl)⟩) ⟨pre_blind, va_recv hst.k (fr_P hP [0] rfl) (ci := 13) (q0 := 0) rfl rfl, pre_at hP hD hS hz hzs hst [0] (by decide) rfl rfl⟩ rfl rfl hl.1 rfl (lv_room (Nat.le_of_ble_eq_true rfl)) dX11_harshestBeat_57 ⟨(Nat.le_of_ble_eq_true rfl), (Nat.le_of_ble_eq_true rfl)⟩) hP hD hS hA [0] (by decide) rfl rfl rfl rfl (fun H locs hP hD hS => ?_)
    refine lv_goto (tgt := 68) hx hb dX11_harshestBeat_60 (by decide) ?_
    obtain rfl := Option.some.inj hF
    exact en_i hQ (Nat.le_of_ble_eq_true rfl) (Nat.le_of_ble_eq_true rfl) hx hb hr hlocks hP hD hS rfl dX11_harshestBeat_68

/-! X11_isConsistent -/
theorem dX11_isConsistent_0 : decode cX11_isConsistent 0 = .ok (.aload_n 0, 1) := by decide +kernel
theorem dX11_isConsistent_1 : decode cX11_isConsistent 1 = .ok (.iconst 0, 1) := by decide +kernel
theorem dX11_isConsistent_2 : decode cX11_isConsistent 2 = .ok (.putfield 42, 3) := by decide +kernel
theorem dX11_isConsistent_5 : decode cX11_isConsistent 5 = .ok (.iconst 1, 1) := by decide +kernel
theorem dX11_isConsistent_6 : decode cX11_isConsistent 6 = .ok (.ireturn, 1) := by decide +kernel
def f_X11_isConsistent (x_thrown : Int32) : Option (Int32 × Int32) :=
  some (1, 0)
theorem hv_X11_isConsistent : yX11_isConsistent.cls = RX11 ∧ yX11_isConsistent.cls ≠ "java/lang/invoke/MethodHandle" ∧ yX11_isConsistent.cls ≠ "java/lang/invoke/VarHandle" ∧ (parseMethodDescriptor yX11_isConsistent.desc).map (fun d => d.parameters.length) = some 0 := by decide +kernel
abbrev rm_X11_isConsistent : Room := { frames := 0, cells := 0, slots := 0, locals := 0 }
set_option maxHeartbeats 4000000 in
set_option maxRecDepth 100000 in
theorem k_X11_isConsistent (l : Launch) (E : ET) (a : Nat → Nat) (o : Nat) (x : Model_t) (res : Int32 × Int32) (hF : f_X11_isConsistent x.2.2.2.1 = some res) (sz : Nat) : CtI l yX11_isConsistent (mws yX11_isConsistent cX11_isConsistent 1 (some .boolean)) rm_X11_isConsistent 0 0 [.ref (a o)] E (bl_Model E a o x) res.1 (bl_Model E a o ((x.1.1, x.1.2.1, x.1.2.2.1, x.1.2.2.2.1, x.1.2.2.2.2), (x.2.1.1, x.2.1.2.1, x.2.1.2.2.1, x.2.1.2.2.2.1, x.2.1.2.2.2.2), (x.2.2.1.1, x.2.2.1.2.1, x.2.2.1.2.2.1, x.2.2.1.2.2.2), (res.2, x.2.2.2.2.1, x.2.2.2.2.2.1, x.2.2.2.2.2.2))) sz := by
  refine mk_M (by decide +kernel) (Nat.le_of_ble_eq_true rfl) ?_
  intro p e s m below meth c A args Q ls hAe hsz hQ hx hb hr hml hin ha hown hlocks hA hz hzs hst hP hD hS hl
  have hown : s.vm.findClass RX11 = some m.cls := hown
  rw [hAe] at hQ
  subst hsz
  have hP : va_P E.1 vwCl (List.flatten [w_Model E a o x]) s.heap := hP
  have hD : va_D A (List.flatten [w_Model E a o x]) := hD
  have hl : lv_has ls 1 [(0, .ref (a o))] := hl
  generalize hHe : s.heap = H at hP
  have hS : va_S A s.heap H [] := by rw [← hHe]; exact hS
  generalize ([] : List Loc) = locs at hS ⊢
  unfold f_X11_isConsistent at hF
  refine lv_aload_n hx hb dX11_isConsistent_0 rfl (lv_at hl 0 rfl) ?_
  refine lv_iconst (v := 0) hx hb dX11_isConsistent_1 (by decide) ?_
  refine va_put (D := E.1) (ci := 13) (v := .int 0) (ty := .int) (C := RX11) (T := TX11) (N := 18) hx hb ha in_X11 tyX11 tyX11_ok nmX11 hown hst.k hP hD hS 0 rfl rfl 14 (by decide) (ha _ mw1650) (fun _ h9 => h9) rfl (tyX11_ok 14 (by decide)) rfl rfl (Nat.le_of_ble_eq_true rfl) dX11_isConsistent_2 (fun H locs hP hD hS => ?_)
  have hP : va_P E.1 vwCl (List.flatten [w_Model E a o ((x.1.1, x.1.2.1, x.1.2.2.1, x.1.2.2.2.1, x.1.2.2.2.2), (x.2.1.1, x.2.1.2.1, x.2.1.2.2.1, x.2.1.2.2.2.1, x.2.1.2.2.2.2), (x.2.2.1.1, x.2.2.1.2.1, x.2.2.1.2.2.1, x.2.2.1.2.2.2), (0, x.2.2.2.2.1, x.2.2.2.2.2.1, x.2.2.2.2.2.2))]) H := hP
  have hD : va_D A (List.flatten [w_Model E a o ((x.1.1, x.1.2.1, x.1.2.2.1, x.1.2.2.2.1, x.1.2.2.2.2), (x.2.1.1, x.2.1.2.1, x.2.1.2.2.1, x.2.1.2.2.2.1, x.2.1.2.2.2.2), (x.2.2.1.1, x.2.2.1.2.1, x.2.2.1.2.2.1, x.2.2.1.2.2.2), (0, x.2.2.2.2.1, x.2.2.2.2.2.1, x.2.2.2.2.2.2))]) := hD
  refine lv_iconst (v := 1) hx hb dX11_isConsistent_5 (by decide) ?_
  obtain rfl := Option.some.inj hF
  exact en_z hQ (Nat.le_of_ble_eq_true rfl) (Nat.le_of_ble_eq_true rfl) hx hb hr hlocks (by decide) hP hD hS rfl dX11_isConsistent_6
