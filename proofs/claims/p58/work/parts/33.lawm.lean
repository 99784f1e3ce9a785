/-! L_at -/
theorem dL_at_0 : decode cL_at 0 = .ok (.iload_n 1, 1) := by decide +kernel
theorem dL_at_1 : decode cL_at 1 = .ok (.aload_n 0, 1) := by decide +kernel
theorem dL_at_2 : decode cL_at 2 = .ok (.arraylength, 1) := by decide +kernel
theorem dL_at_3 : decode cL_at 3 = .ok (.if_icmp .ge 9, 3) := by decide +kernel
theorem dL_at_6 : decode cL_at 6 = .ok (.aload_n 0, 1) := by decide +kernel
theorem dL_at_7 : decode cL_at 7 = .ok (.iload_n 1, 1) := by decide +kernel
theorem dL_at_8 : decode cL_at 8 = .ok (.iaload, 1) := by decide +kernel
theorem dL_at_9 : decode cL_at 9 = .ok (.goto 4, 3) := by decide +kernel
theorem dL_at_12 : decode cL_at 12 = .ok (.iconst 0, 1) := by decide +kernel
theorem dL_at_13 : decode cL_at 13 = .ok (.ireturn, 1) := by decide +kernel
def f_L_at (ns : Nat) (xs : (Nat → Int32)) (p2 : Int32) : Option (Int32) :=
  q_br ((Int32.ofNat ns) ≤ p2) (
  some 0) (
  q_gd (q_in p2 ns) (
  some (xs (p2.toNatClampNeg))))
theorem hv_L_at : yL_at.cls = RL ∧ yL_at.cls ≠ "java/lang/invoke/MethodHandle" ∧ yL_at.cls ≠ "java/lang/invoke/VarHandle" ∧ (parseMethodDescriptor yL_at.desc).map (fun d => d.parameters.length) = some 2 := by decide +kernel
abbrev rm_L_at : Room := { frames := 0, cells := 0, slots := 0, locals := 0 }
set_option maxHeartbeats 4000000 in
set_option maxRecDepth 100000 in
theorem k_L_at (l : Launch) (E : ET) (p2 : Int32) (res : Int32) (hF : f_L_at (E.2 19) (sx E) p2 = some res) (sz : Nat) (hlt : l.stackTraces = false) : CtI l yL_at (mws yL_at cL_at 2 (some .int)) rm_L_at 0 0 [.ref (E.2 18), .int p2] E ([]) res ([]) sz := by
  refine mk_M (by decide +kernel) (Nat.le_of_ble_eq_true rfl) ?_
  intro p e s m below meth c A args Q ls hAe hsz hQ hx hb hr hml hin ha hown hlocks hA hz hzs hst hP hD hS hl
  have hown : s.vm.findClass RL = some m.cls := hown
  rw [hAe] at hQ
  subst hsz
  have hP : va_P E.1 vwCl (List.flatten []) s.heap := hP
  have hD : va_D A (List.flatten []) := hD
  have hl : lv_has ls 2 [(0, .ref (E.2 18)), (1, .int p2)] := hl
  generalize hHe : s.heap = H at hP
  have hS : va_S A s.heap H [] := by rw [← hHe]; exact hS
  generalize ([] : List Loc) = locs at hS ⊢
  unfold f_L_at at hF
  refine lv_iload_n hx hb dL_at_0 rfl (lv_at hl 1 rfl) ?_
  refine lv_aload_n hx hb dL_at_1 rfl (lv_at hl 0 rfl) ?_
  refine va_tlen hx hb (va_T.narrow (hst.2.2.2.2.1 _ (mt6 E)) hz) hS rfl dL_at_2 ?_
  refine lv_icmp_ge (tgt := 12) hx hb dL_at_3 (by decide) (fun c3 => ?_) (fun c3 => ?_)
  · have hF := q_brp c3 hF
    refine lv_iconst (v := 0) hx hb dL_at_12 (by decide) ?_
    obtain rfl := Option.some.inj hF
    exact en_i hQ (Nat.le_of_ble_eq_true rfl) (Nat.le_of_ble_eq_true rfl) hx hb hr hlocks hP hD hS rfl dL_at_13
  · have hF := q_brn c3 hF
    refine lv_aload_n hx hb dL_at_6 rfl (lv_at hl 0 rfl) ?_
    refine lv_iload_n hx hb dL_at_7 rfl (lv_at hl 1 rfl) ?_
    obtain ⟨g1, hF⟩ := q_gdi hF
    refine vi_scr hx hb hst hz hS (k := p2.toNatClampNeg) rfl g1 dL_at_8 ?_
    refine lv_goto (tgt := 13) hx hb dL_at_9 (by decide) ?_
    obtain rfl := Option.some.inj hF
    exact en_i hQ (Nat.le_of_ble_eq_true rfl) (Nat.le_of_ble_eq_true rfl) hx hb hr hlocks hP hD hS rfl dL_at_13

/-! L_put -/
theorem dL_put_0 : decode cL_put 0 = .ok (.iconst 0, 1) := by decide +kernel
theorem dL_put_1 : decode cL_put 1 = .ok (.istore_n 2, 1) := by decide +kernel
theorem dL_put_2 : decode cL_put 2 = .ok (.iload_n 2, 1) := by decide +kernel
theorem dL_put_3 : decode cL_put 3 = .ok (.aload_n 1, 1) := by decide +kernel
theorem dL_put_4 : decode cL_put 4 = .ok (.invokevirtual 7, 3) := by decide +kernel
theorem dL_put_7 : decode cL_put 7 = .ok (.if_icmp .ge 19, 3) := by decide +kernel
theorem dL_put_10 : decode cL_put 10 = .ok (.aload_n 0, 1) := by decide +kernel
theorem dL_put_11 : decode cL_put 11 = .ok (.aload_n 1, 1) := by decide +kernel
theorem dL_put_12 : decode cL_put 12 = .ok (.iload_n 2, 1) := by decide +kernel
theorem dL_put_13 : decode cL_put 13 = .ok (.invokevirtual 13, 3) := by decide +kernel
theorem dL_put_16 : decode cL_put 16 = .ok (.invokevirtual 17, 3) := by decide +kernel
theorem dL_put_19 : decode cL_put 19 = .ok (.pop, 1) := by decide +kernel
theorem dL_put_20 : decode cL_put 20 = .ok (.iinc 2 1, 3) := by decide +kernel
theorem dL_put_23 : decode cL_put 23 = .ok (.goto (-21), 3) := by decide +kernel
theorem dL_put_26 : decode cL_put 26 = .ok (.return_, 1) := by decide +kernel
def f_L_put_L2 (p2 : Nat) (K2 : VB_t → Option (VB_t)) : Nat → Int32 → VB_t → Option (VB_t)
  | 0, _, _ => none
  | n2 + 1, i1, i2 =>
    q_gd (p2 < 27) (
  q_bd (f_J0_length_8abf5 p2) (fun q5 =>
  q_br (q5 ≤ i1) (
  K2 i2) (
  q_gd (p2 < 27) (
  q_bd (f_J0_charAt_5068e p2 i1) (fun q7 =>
  q_bd (g_X10_append i2 q7) (fun q8 =>
  q_sm q8.1 (fun _ => none) (fun r9 =>
  q_lt (i1 + 1 : Int32) (fun v10 =>
  f_L_put_L2 p2 K2 n2 v10 q8.2))))))))
def f_L_put (x_v : VB_t) (p2 : Nat) : Option (VB_t) :=
  f_L_put_L2 p2 (fun y3 =>
  some y3) 64 0 x_v
theorem hv_L_put : yL_put.cls = RL ∧ yL_put.cls ≠ "java/lang/invoke/MethodHandle" ∧ yL_put.cls ≠ "java/lang/invoke/VarHandle" ∧ (parseMethodDescriptor yL_put.desc).map (fun d => d.parameters.length) = some 2 := by decide +kernel
abbrev rm_L_put : Room := { frames := 7, cells := 64, slots := 384, locals := 103 }
set_option maxHeartbeats 4000000 in
set_option maxRecDepth 100000 in
theorem k_L_put (l : Launch) (E : ET) (a : Nat → Nat) (o : Nat) (x : VB_t) (p2 : Nat) (res : VB_t) (hF : f_L_put x p2 = some res) (sz : Nat) (hlt : l.stackTraces = false) : CtV l yL_put (mws yL_put cL_put 3 none) rm_L_put 64 384 [.ref (a o), .ref (E.2 (200 + p2))] E (bl_VB1 E a o x) (bl_VB1 E a o (res)) sz := by
  refine mk_M (by decide +kernel) (Nat.le_of_ble_eq_true rfl) ?_
  intro p e s m below meth c A args Q ls hAe hsz hQ hx hb hr hml hin ha hown hlocks hA hz hzs hst hP hD hS hl
  have hown : s.vm.findClass RL = some m.cls := hown
  rw [hAe] at hQ
  subst hsz
  have hP : va_P E.1 vwCl (List.flatten [w_VB1 E a o x]) s.heap := hP
  have hD : va_D A (List.flatten [w_VB1 E a o x]) := hD
  have hl : lv_has ls 3 [(0, .ref (a o)), (1, .ref (E.2 (200 + p2)))] := hl
  generalize hHe : s.heap = H at hP
  have hS : va_S A s.heap H [] := by rw [← hHe]; exact hS
  generalize ([] : List Loc) = locs at hS ⊢
  unfold f_L_put at hF
  refine lv_iconst (v := 0) hx hb dL_put_0 (by decide) ?_
  refine lv_istore_n (lv' := [(2, .int 0), (0, .ref (a o)), (1, .ref (E.2 (200 + p2)))]) hx hb dL_put_1 rfl hl (by decide) rfl (fun ls hl => ?_)
  have key2 : ∀ (K : VB_t → Option (VB_t)), (∀ (y3 : VB_t) (H : Heap) (locs : List Loc) (ls : Array Slot), K y3 = some res → va_P E.1 vwCl (List.flatten [w_VB1 E a o (y3)]) H → va_D A (List.flatten [w_VB1 E a o (y3)]) → va_S A s.heap H locs → lv_has ls 3 [] → W p l e rm_L_put s m args below meth c H locs 64 384 Q (F0 m 26 ls [])) → ∀ (n : Nat) (i1 : Int32) (i2 : VB_t) (cv sv : Nat) (H : Heap) (locs : List Loc) (ls : Array Slot), cv + n * 1 ≤ 64 → sv + n * 6 ≤ 384 → f_L_put_L2 p2 K n i1 i2 = some res → va_P E.1 vwCl (List.flatten [w_VB1 E a o (i2)]) H → va_D A (List.flatten [w_VB1 E a o (i2)]) → va_S A s.heap H locs → lv_has ls 3 [(2, .int i1), (0, .ref (a o)), (1, .ref (E.2 (200 + p2)))] → W p l e rm_L_put s m args below meth c H locs cv sv Q (F0 m 2 ls []) := by
    intro K2 hK2 n2
    induction n2 with
    | zero => intro i1 i2 cv sv H locs ls _ _ hF; exact absurd hF (by simp [f_L_put_L2])
    | succ n2 ih2 =>
      intro i1 i2 cv sv H locs ls hcv hsv hF hP hD hS hl
      rw [f_L_put_L2] at hF
      refine lv_iload_n hx hb dL_put_2 rfl (lv_at hl 0 rfl) ?_
      refine lv_aload_n hx hb dL_put_3 rfl (lv_at hl 2 rfl) ?_
      obtain ⟨g4, hF⟩ := q_gdi hF
      obtain ⟨q5, hq5, hF⟩ := q_bdi hF
      refine cl_i (Lc := []) (Lc' := []) (L' := [w_VB1 E a o (i2)]) (rv := q5) (va_runV (As := []) (rest := [.int i1]) ⟨hx, hb, hml, hown, ha⟩ (k_J0_length_8abf5 l E p2 q5 hq5 H.size) (cwV 0 ha (gi_V (fun _ h => h) mw1092 mw956 mw957 mw37 mw958) rfl rfl rfl hv_J0_length_8abf5 ⟨(Nat.le_of_ble_eq_true rfl), (Nat.le_of_ble_eq_true rfl)⟩) ⟨pre_blind, re_st hst hz hS g4, pre_at hP hD hS hz hzs hst [] (by decide) rfl rfl⟩ rfl rfl hl.1 rfl (lv_room (Nat.le_of_ble_eq_true rfl)) dL_put_4 ⟨by show cv + 0 ≤ 64; omega, by show sv + 0 ≤ 384; omega⟩) hP hD hS hA [] (by decide) rfl rfl rfl rfl (fun H locs hP hD hS => ?_)
      refine lv_icmp_ge (tgt := 26) hx hb dL_put_7 (by decide) (fun c7 => ?_) (fun c7 => ?_)
      · have hF := q_brp c7 hF
        refine W.widen (k := 64) (n := 384) (by omega) (by omega) ?_
        exact hK2 i2 H locs ls hF hP hD hS (lv_sub hl [] rfl)
      · have hF := q_brn c7 hF
        refine lv_aload_n hx hb dL_put_10 rfl (lv_at hl 1 rfl) ?_
        refine lv_aload_n hx hb dL_put_11 rfl (lv_at hl 2 rfl) ?_
        refine lv_iload_n hx hb dL_put_12 rfl (lv_at hl 0 rfl) ?_
        obtain ⟨g6, hF⟩ := q_gdi hF
        obtain ⟨q7, hq7, hF⟩ := q_bdi hF
        refine cl_i (Lc := []) (Lc' := []) (L' := [w_VB1 E a o (i2)]) (rv := q7) (va_runV (As := [.int i1]) (rest := [.ref (a o)]) ⟨hx, hb, hml, hown, ha⟩ (k_J0_charAt_5068e l E p2 i1 q7 hq7 H.size) (cwV 1 ha (gi_V (fun _ h => h) mw1093 mw965 mw966 mw37 mw967) rfl rfl rfl hv_J0_charAt_5068e ⟨(Nat.le_of_ble_eq_true rfl), (Nat.le_of_ble_eq_true rfl)⟩) ⟨pre_blind, re_st hst hz hS g6, pre_at hP hD hS hz hzs hst [] (by decide) rfl rfl⟩ rfl rfl hl.1 rfl (lv_room (Nat.le_of_ble_eq_true rfl)) dL_put_13 ⟨by show cv + 0 ≤ 64; omega, by show sv + 0 ≤ 384; omega⟩) hP hD hS hA [] (by decide) rfl rfl rfl rfl (fun H locs hP hD hS => ?_)
        obtain ⟨q8, hq8, hF⟩ := q_bdi hF
        refine cx_i (ro := q8.1) (Lc := [w_VB1 E a o (i2)]) (Lc' := [w_VB1 E a o (q8.2)]) (L' := [w_VB1 E a o (q8.2)]) (vx_runV (As := [.int q7]) (rest := []) ⟨hx, hb, hml, hown, ha⟩ (kg_X10_append l E a o (i2) q7 q8 hq8 H.size hlt) (cwV 1 ha (gi_V (fun _ h => h) mw1094 mw1095 mw1096 mw26 mw1097) rfl rfl rfl hv_X10_append ⟨(Nat.le_of_ble_eq_true rfl), (Nat.le_of_ble_eq_true rfl)⟩) ⟨pre_blind, va_recv hst.k (fr_P hP [0] rfl) (ci := 11) (q0 := 0) rfl rfl, pre_at hP hD hS hz hzs hst [0] (by decide) rfl rfl⟩ rfl rfl hl.1 rfl (lv_room (Nat.le_of_ble_eq_true rfl)) dL_put_16 ⟨by show cv + 1 ≤ 64; omega, by show sv + 6 ≤ 384; omega⟩) hP hD hS hA [0] (by decide) rfl rfl rfl rfl (fun X ce q9 H locs eX h1 h2 h3 hP hD hS => ?_) (fun r9 H locs er9 hP hD hS => ?_)
        · have hF := q_smr eX hF
          exact absurd hF (by simp)
        have hF := q_sml er9 hF
        refine lv_pop hx hb dL_put_19 rfl ?_
        obtain ⟨v10, ev10⟩ : ∃ y : Int32, y = i1 + 1 := ⟨_, rfl⟩
        have hF := q_lti ev10 hF
        refine lv_iinc (v := v10) (lv' := [(2, .int v10), (0, .ref (a o)), (1, .ref (E.2 (200 + p2)))]) hx hb dL_put_20 hl (k := 0) rfl (by rw [ev10]; rfl) (by decide) rfl (fun ls hl => ?_)
        refine lv_goto (tgt := 2) hx hb dL_put_23 (by decide) ?_
        exact ih2 v10 q8.2 (cv + 1) (sv + 6) H locs ls (by omega) (by omega) hF hP hD hS (lv_sub hl [0, 1, 2] rfl)
  refine key2 _ ?_ 64 0 x 0 0 H locs ls (by omega) (by omega) hF hP hD hS (lv_sub hl [0, 1, 2] rfl)
  intro y3 H locs ls hF hP hD hS hl
  obtain rfl := Option.some.inj hF
  exact en_v hQ (Nat.le_of_ble_eq_true rfl) (Nat.le_of_ble_eq_true rfl) hx hb hr hlocks hP hD hS dL_put_26

/-! L_melody -/
theorem dL_melody_0 : decode cL_melody 0 = .ok (.aload_n 0, 1) := by decide +kernel
theorem dL_melody_1 : decode cL_melody 1 = .ok (.iload_n 1, 1) := by decide +kernel
theorem dL_melody_2 : decode cL_melody 2 = .ok (.invokevirtual 90, 3) := by decide +kernel
theorem dL_melody_5 : decode cL_melody 5 = .ok (.newarray .int, 2) := by decide +kernel
theorem dL_melody_7 : decode cL_melody 7 = .ok (.astore_n 2, 1) := by decide +kernel
theorem dL_melody_8 : decode cL_melody 8 = .ok (.iconst 0, 1) := by decide +kernel
theorem dL_melody_9 : decode cL_melody 9 = .ok (.istore_n 3, 1) := by decide +kernel
theorem dL_melody_10 : decode cL_melody 10 = .ok (.iload_n 3, 1) := by decide +kernel
theorem dL_melody_11 : decode cL_melody 11 = .ok (.aload_n 2, 1) := by decide +kernel
theorem dL_melody_12 : decode cL_melody 12 = .ok (.arraylength, 1) := by decide +kernel
theorem dL_melody_13 : decode cL_melody 13 = .ok (.if_icmp .ge 18, 3) := by decide +kernel
theorem dL_melody_16 : decode cL_melody 16 = .ok (.aload_n 2, 1) := by decide +kernel
theorem dL_melody_17 : decode cL_melody 17 = .ok (.iload_n 3, 1) := by decide +kernel
theorem dL_melody_18 : decode cL_melody 18 = .ok (.aload_n 0, 1) := by decide +kernel
theorem dL_melody_19 : decode cL_melody 19 = .ok (.iload_n 1, 1) := by decide +kernel
theorem dL_melody_20 : decode cL_melody 20 = .ok (.iload_n 3, 1) := by decide +kernel
theorem dL_melody_21 : decode cL_melody 21 = .ok (.invokevirtual 93, 3) := by decide +kernel
theorem dL_melody_24 : decode cL_melody 24 = .ok (.iastore, 1) := by decide +kernel
theorem dL_melody_25 : decode cL_melody 25 = .ok (.iinc 3 1, 3) := by decide +kernel
theorem dL_melody_28 : decode cL_melody 28 = .ok (.goto (-18), 3) := by decide +kernel
theorem dL_melody_31 : decode cL_melody 31 = .ok (.aload_n 2, 1) := by decide +kernel
theorem dL_melody_32 : decode cL_melody 32 = .ok (.areturn, 1) := by decide +kernel
def f_L_melody_L10 (x_v : VB_t) (p2 : Int32) (r2 : Int32) (K10 : (Nat → Int32) → Option (Nat × (Nat → Int32))) : Nat → Int32 → (Nat → Int32) → Option (Nat × (Nat → Int32))
  | 0, _, _ => none
  | n10 + 1, i4, i5 =>
    q_br ((Int32.ofNat ((r2.toNatClampNeg))) ≤ i4) (
  K10 i5) (
  q_bd (g_X10_tone x_v p2 i4) (fun q7 =>
  q_sm q7 (fun _ => none) (fun r8 =>
  q_gd (q_in i4 (r2.toNatClampNeg)) (
  q_lt (upd i5 (i4.toNatClampNeg) r8) (fun u10 =>
  q_lt (i4 + 1 : Int32) (fun v11 =>
  f_L_melody_L10 x_v p2 r2 K10 n10 v11 u10))))))
def f_L_melody (x_v : VB_t) (p2 : Int32) : Option (Nat × (Nat → Int32)) :=
  q_bd (g_X10_melodyLength x_v p2) (fun q1 =>
  q_sm q1 (fun _ => none) (fun r2 =>
  q_gd (¬ r2 < 0 ∧ r2.toNatClampNeg ≤ 8) (
  f_L_melody_L10 x_v p2 r2 (fun y6 =>
  some ((r2.toNatClampNeg), y6)) 12 0 ((fun _ => (0 : Int32))))))
theorem hv_L_melody : yL_melody.cls = RL ∧ yL_melody.cls ≠ "java/lang/invoke/MethodHandle" ∧ yL_melody.cls ≠ "java/lang/invoke/VarHandle" ∧ (parseMethodDescriptor yL_melody.desc).map (fun d => d.parameters.length) = some 2 := by decide +kernel
abbrev rm_L_melody : Room := { frames := 8, cells := 26, slots := 158, locals := 124 }
set_option maxHeartbeats 4000000 in
set_option maxRecDepth 100000 in
theorem k_L_melody (l : Launch) (E : ET) (a : Nat → Nat) (o : Nat) (x : VB_t) (p2 : Int32) (res : Nat × (Nat → Int32)) (hF : f_L_melody x p2 = some res) (sz : Nat) (hlt : l.stackTraces = false) : CtN l yL_melody (mws yL_melody cL_melody 4 (some (.array .int))) rm_L_melody 26 158 [.ref (a o), .int p2] E (bl_VB1 E a o x) (fun r => [w_IntArr E (fun _ => r) 0 res.1 res.2, w_VB1 E a o x]) sz := by
  refine mk_M (by decide +kernel) (Nat.le_of_ble_eq_true rfl) ?_
  intro p e s m below meth c A args Q ls hAe hsz hQ hx hb hr hml hin ha hown hlocks hA hz hzs hst hP hD hS hl
  have hown : s.vm.findClass RL = some m.cls := hown
  rw [hAe] at hQ
  subst hsz
  have hP : va_P E.1 vwCl (List.flatten [w_VB1 E a o x]) s.heap := hP
  have hD : va_D A (List.flatten [w_VB1 E a o x]) := hD
  have hl : lv_has ls 4 [(0, .ref (a o)), (1, .int p2)] := hl
  generalize hHe : s.heap = H at hP
  have hS : va_S A s.heap H [] := by rw [← hHe]; exact hS
  generalize ([] : List Loc) = locs at hS ⊢
  unfold f_L_melody at hF
  refine lv_aload_n hx hb dL_melody_0 rfl (lv_at hl 0 rfl) ?_
  refine lv_iload_n hx hb dL_melody_1 rfl (lv_at hl 1 rfl) ?_
  obtain ⟨q1, hq1, hF⟩ := q_bdi hF
  refine cx_i (ro := q1) (Lc := [w_VB1 E a o x]) (Lc' := [w_VB1 E a o x]) (L' := [w_VB1 E a o x]) (vx_runV (As := [.int p2]) (rest := []) ⟨hx, hb, hml, hown, ha⟩ (kg_X10_melodyLength l E a o x p2 q1 hq1 H.size hlt) (cwV 1 ha (gi_V (fun _ h => h) mw799 mw800 mw801 mw26 mw802) rfl rfl rfl hv_X10_melodyLength ⟨(Nat.le_of_ble_eq_true rfl), (Nat.le_of_ble_eq_true rfl)⟩) ⟨pre_blind, va_recv hst.k (fr_P hP [0] rfl) (ci := 11) (q0 := 0) rfl rfl, pre_at hP hD hS hz hzs hst [0] (by decide) rfl rfl⟩ rfl rfl hl.1 rfl (lv_room (Nat.le_of_ble_eq_true rfl)) dL_melody_2 ⟨(Nat.le_of_ble_eq_true rfl), (Nat.le_of_ble_eq_true rfl)⟩) hP hD hS hA [0] (by decide) rfl rfl rfl rfl (fun X ce q9 H locs eX h1 h2 h3 hP hD hS => ?_) (fun r2 H locs er2 hP hD hS => ?_)
  · have hF := q_smr eX hF
    exact absurd hF (by simp)
  have hF := q_sml er2 hF
  obtain ⟨g3, hF⟩ := q_gdi hF
  refine vi_newa (atype := .int) (b0 := (r2.toNatClampNeg, .inl (fun _ => 0))) hx hb hst (ty := .int) (ha _ mw108) rfl hP hD hS hA (fun _ => rfl) 1 0 rfl (fun _ h => h) g3.1 rfl (by have := g3.2; show _ * 4 ≤ 536870912; omega) (Nat.le_of_ble_eq_true rfl) (by have := g3.2; show 6 + _ ≤ 158; omega) dL_melody_5 (fun r3 H hP hD hS => ?_)
  refine W.widen (k := 2) (n := 14) (Nat.le_of_ble_eq_true rfl) (by have := g3.2; omega) ?_
  have hP : va_P E.1 vwCl (List.flatten [w_IntArr E (fun _ => r3) 0 (r2.toNatClampNeg) ((fun _ => (0 : Int32))), w_VB1 E a o x]) H := P_perm hP flat_swap
  have hD : va_D A (List.flatten [w_IntArr E (fun _ => r3) 0 (r2.toNatClampNeg) ((fun _ => (0 : Int32))), w_VB1 E a o x]) := D_perm hD flat_swap
  refine lv_astore_n (lv' := [(2, .ref ((fun _ => r3) 0)), (0, .ref (a o)), (1, .int p2)]) hx hb dL_melody_7 rfl hl (by decide) rfl (fun ls hl => ?_)
  refine lv_iconst (v := 0) hx hb dL_melody_8 (by decide) ?_
  refine lv_istore_n (lv' := [(3, .int 0), (2, .ref ((fun _ => r3) 0)), (0, .ref (a o)), (1, .int p2)]) hx hb dL_melody_9 rfl hl (by decide) rfl (fun ls hl => ?_)
  have key10 : ∀ (K : (Nat → Int32) → Option (Nat × (Nat → Int32))), (∀ (y6 : (Nat → Int32)) (H : Heap) (locs : List Loc) (ls : Array Slot), K y6 = some res → va_P E.1 vwCl (List.flatten [w_IntArr E (fun _ => r3) 0 (r2.toNatClampNeg) y6, w_VB1 E a o x]) H → va_D A (List.flatten [w_IntArr E (fun _ => r3) 0 (r2.toNatClampNeg) y6, w_VB1 E a o x]) → va_S A s.heap H locs → lv_has ls 4 [(2, .ref ((fun _ => r3) 0))] → W p l e rm_L_melody s m args below meth c H locs 26 158 Q (F0 m 31 ls [])) → ∀ (n : Nat) (i4 : Int32) (i5 : (Nat → Int32)) (cv sv : Nat) (H : Heap) (locs : List Loc) (ls : Array Slot), cv + n * 2 ≤ 26 → sv + n * 12 ≤ 158 → f_L_melody_L10 x p2 r2 K n i4 i5 = some res → va_P E.1 vwCl (List.flatten [w_IntArr E (fun _ => r3) 0 (r2.toNatClampNeg) i5, w_VB1 E a o x]) H → va_D A (List.flatten [w_IntArr E (fun _ => r3) 0 (r2.toNatClampNeg) i5, w_VB1 E a o x]) → va_S A s.heap H locs → lv_has ls 4 [(3, .int i4), (2, .ref ((fun _ => r3) 0)), (0, .ref (a o)), (1, .int p2)] → W p l e rm_L_melody s m args below meth c H locs cv sv Q (F0 m 10 ls []) := by
    intro K10 hK10 n10
    induction n10 with
    | zero => intro i4 i5 cv sv H locs ls _ _ hF; exact absurd hF (by simp [f_L_melody_L10])
    | succ n10 ih10 =>
      intro i4 i5 cv sv H locs ls hcv hsv hF hP hD hS hl
      rw [f_L_melody_L10] at hF
      refine lv_iload_n hx hb dL_melody_10 rfl (lv_at hl 0 rfl) ?_
      refine lv_aload_n hx hb dL_melody_11 rfl (lv_at hl 1 rfl) ?_
      refine va_alen (v := Int32.ofNat ((r2.toNatClampNeg))) hx hb hst.k hP 0 0 rfl rfl rfl dL_melody_12 ?_
      refine lv_icmp_ge (tgt := 31) hx hb dL_melody_13 (by decide) (fun c13 => ?_) (fun c13 => ?_)
      · have hF := q_brp c13 hF
        refine W.widen (k := 26) (n := 158) (by omega) (by omega) ?_
        exact hK10 i5 H locs ls hF hP hD hS (lv_sub hl [1] rfl)
      · have hF := q_brn c13 hF
        refine lv_aload_n hx hb dL_melody_16 rfl (lv_at hl 1 rfl) ?_
        refine lv_iload_n hx hb dL_melody_17 rfl (lv_at hl 0 rfl) ?_
        refine lv_aload_n hx hb dL_melody_18 rfl (lv_at hl 2 rfl) ?_
        refine lv_iload_n hx hb dL_melody_19 rfl (lv_at hl 3 rfl) ?_
        refine lv_iload_n hx hb dL_melody_20 rfl (lv_at hl 0 rfl) ?_
        obtain ⟨q7, hq7, hF⟩ := q_bdi hF
        refine cx_i (ro := q7) (Lc := [w_VB1 E a o x]) (Lc' := [w_VB1 E a o x]) (L' := [w_IntArr E (fun _ => r3) 0 (r2.toNatClampNeg) i5, w_VB1 E a o x]) (vx_runV (As := [.int p2, .int i4]) (rest := [.int i4, .ref ((fun _ => r3) 0)]) ⟨hx, hb, hml, hown, ha⟩ (kg_X10_tone l E a o x p2 i4 q7 hq7 H.size hlt) (cwV 2 ha (gi_V (fun _ h => h) mw808 mw809 mw810 mw26 mw811) rfl rfl rfl hv_X10_tone ⟨(Nat.le_of_ble_eq_true rfl), (Nat.le_of_ble_eq_true rfl)⟩) ⟨pre_blind, va_recv hst.k (fr_P hP [1] rfl) (ci := 11) (q0 := 0) rfl rfl, pre_at hP hD hS hz hzs hst [1] (by decide) rfl rfl⟩ rfl rfl hl.1 rfl (lv_room (Nat.le_of_ble_eq_true rfl)) dL_melody_21 ⟨by show cv + 2 ≤ 26; omega, by show sv + 12 ≤ 158; omega⟩) hP hD hS hA [1] (by decide) rfl rfl rfl rfl (fun X ce q9 H locs eX h1 h2 h3 hP hD hS => ?_) (fun r8 H locs er8 hP hD hS => ?_)
        · have hF := q_smr eX hF
          exact absurd hF (by simp)
        have hF := q_sml er8 hF
        obtain ⟨g9, hF⟩ := q_gdi hF
        refine vj_iast hx hb hst.k hP hD hS 0 0 rfl rfl (f := i5) (k := i4.toNatClampNeg) rfl g9 dL_melody_24 (fun u10 eu10 H locs hP hD hS => ?_)
        have hF := q_lti eu10 hF
        have hP : va_P E.1 vwCl (List.flatten [w_IntArr E (fun _ => r3) 0 (r2.toNatClampNeg) u10, w_VB1 E a o x]) H := hP
        have hD : va_D A (List.flatten [w_IntArr E (fun _ => r3) 0 (r2.toNatClampNeg) u10, w_VB1 E a o x]) := hD
        obtain ⟨v11, ev11⟩ : ∃ y : Int32, y = i4 + 1 := ⟨_, rfl⟩
        have hF := q_lti ev11 hF
        refine lv_iinc (v := v11) (lv' := [(3, .int v11), (2, .ref ((fun _ => r3) 0)), (0, .ref (a o)), (1, .int p2)]) hx hb dL_melody_25 hl (k := 0) rfl (by rw [ev11]; rfl) (by decide) rfl (fun ls hl => ?_)
        refine lv_goto (tgt := 10) hx hb dL_melody_28 (by decide) ?_
        exact ih10 v11 u10 (cv + 2) (sv + 12) H locs ls (by omega) (by omega) hF hP hD hS (lv_sub hl [0, 1, 2, 3] rfl)
  refine key10 _ ?_ 12 0 ((fun _ => (0 : Int32))) 2 14 H locs ls (by omega) (by omega) hF hP hD hS (lv_sub hl [0, 1, 2, 3] rfl)
  intro y6 H locs ls hF hP hD hS hl
  refine lv_aload_n hx hb dL_melody_31 rfl (lv_at hl 0 rfl) ?_
  obtain rfl := Option.some.inj hF
  exact en_n hQ (Nat.le_of_ble_eq_true rfl) (Nat.le_of_ble_eq_true rfl) hx hb hr (Or.inr ⟨_, rfl⟩) hlocks hP hD hS dL_melody_32

/-! L_state -/
theorem dL_state_0 : decode cL_state 0 = .ok (.bipush 31, 2) := by decide +kernel
theorem dL_state_2 : decode cL_state 2 = .ok (.bipush 31, 2) := by decide +kernel
theorem dL_state_4 : decode cL_state 4 = .ok (.aload_n 0, 1) := by decide +kernel
theorem dL_state_5 : decode cL_state 5 = .ok (.invokevirtual 96, 3) := by decide +kernel
theorem dL_state_8 : decode cL_state 8 = .ok (.imul, 1) := by decide +kernel
theorem dL_state_9 : decode cL_state 9 = .ok (.aload_n 0, 1) := by decide +kernel
theorem dL_state_10 : decode cL_state 10 = .ok (.invokevirtual 99, 3) := by decide +kernel
theorem dL_state_13 : decode cL_state 13 = .ok (.ifCond .eq 7, 3) := by decide +kernel
theorem dL_state_16 : decode cL_state 16 = .ok (.iconst 1, 1) := by decide +kernel
theorem dL_state_17 : decode cL_state 17 = .ok (.goto 4, 3) := by decide +kernel
theorem dL_state_20 : decode cL_state 20 = .ok (.iconst 0, 1) := by decide +kernel
theorem dL_state_21 : decode cL_state 21 = .ok (.iadd, 1) := by decide +kernel
theorem dL_state_22 : decode cL_state 22 = .ok (.imul, 1) := by decide +kernel
theorem dL_state_23 : decode cL_state 23 = .ok (.aload_n 0, 1) := by decide +kernel
theorem dL_state_24 : decode cL_state 24 = .ok (.invokevirtual 103, 3) := by decide +kernel
theorem dL_state_27 : decode cL_state 27 = .ok (.iadd, 1) := by decide +kernel
theorem dL_state_28 : decode cL_state 28 = .ok (.istore_n 1, 1) := by decide +kernel
theorem dL_state_29 : decode cL_state 29 = .ok (.iconst 0, 1) := by decide +kernel
theorem dL_state_30 : decode cL_state 30 = .ok (.istore_n 2, 1) := by decide +kernel
theorem dL_state_31 : decode cL_state 31 = .ok (.iload_n 2, 1) := by decide +kernel
theorem dL_state_32 : decode cL_state 32 = .ok (.aload_n 0, 1) := by decide +kernel
theorem dL_state_33 : decode cL_state 33 = .ok (.invokevirtual 34, 3) := by decide +kernel
theorem dL_state_36 : decode cL_state 36 = .ok (.if_icmp .ge 29, 3) := by decide +kernel
theorem dL_state_39 : decode cL_state 39 = .ok (.bipush 31, 2) := by decide +kernel
theorem dL_state_41 : decode cL_state 41 = .ok (.bipush 31, 2) := by decide +kernel
theorem dL_state_43 : decode cL_state 43 = .ok (.iload_n 1, 1) := by decide +kernel
theorem dL_state_44 : decode cL_state 44 = .ok (.imul, 1) := by decide +kernel
theorem dL_state_45 : decode cL_state 45 = .ok (.aload_n 0, 1) := by decide +kernel
theorem dL_state_46 : decode cL_state 46 = .ok (.iload_n 2, 1) := by decide +kernel
theorem dL_state_47 : decode cL_state 47 = .ok (.invokevirtual 106, 3) := by decide +kernel
theorem dL_state_50 : decode cL_state 50 = .ok (.iadd, 1) := by decide +kernel
theorem dL_state_51 : decode cL_state 51 = .ok (.imul, 1) := by decide +kernel
theorem dL_state_52 : decode cL_state 52 = .ok (.aload_n 0, 1) := by decide +kernel
theorem dL_state_53 : decode cL_state 53 = .ok (.iload_n 2, 1) := by decide +kernel
theorem dL_state_54 : decode cL_state 54 = .ok (.invokevirtual 109, 3) := by decide +kernel
theorem dL_state_57 : decode cL_state 57 = .ok (.iadd, 1) := by decide +kernel
theorem dL_state_58 : decode cL_state 58 = .ok (.istore_n 1, 1) := by decide +kernel
theorem dL_state_59 : decode cL_state 59 = .ok (.iinc 2 1, 3) := by decide +kernel
theorem dL_state_62 : decode cL_state 62 = .ok (.goto (-31), 3) := by decide +kernel
theorem dL_state_65 : decode cL_state 65 = .ok (.iconst 0, 1) := by decide +kernel
theorem dL_state_66 : decode cL_state 66 = .ok (.istore_n 2, 1) := by decide +kernel
theorem dL_state_67 : decode cL_state 67 = .ok (.iload_n 2, 1) := by decide +kernel
theorem dL_state_68 : decode cL_state 68 = .ok (.iconst 4, 1) := by decide +kernel
theorem dL_state_69 : decode cL_state 69 = .ok (.if_icmp .ge 69, 3) := by decide +kernel
theorem dL_state_72 : decode cL_state 72 = .ok (.bipush 31, 2) := by decide +kernel
theorem dL_state_74 : decode cL_state 74 = .ok (.bipush 31, 2) := by decide +kernel
theorem dL_state_76 : decode cL_state 76 = .ok (.iload_n 1, 1) := by decide +kernel
theorem dL_state_77 : decode cL_state 77 = .ok (.imul, 1) := by decide +kernel
theorem dL_state_78 : decode cL_state 78 = .ok (.aload_n 0, 1) := by decide +kernel
theorem dL_state_79 : decode cL_state 79 = .ok (.iload_n 2, 1) := by decide +kernel
theorem dL_state_80 : decode cL_state 80 = .ok (.invokevirtual 112, 3) := by decide +kernel
theorem dL_state_83 : decode cL_state 83 = .ok (.iadd, 1) := by decide +kernel
theorem dL_state_84 : decode cL_state 84 = .ok (.imul, 1) := by decide +kernel
theorem dL_state_85 : decode cL_state 85 = .ok (.aload_n 0, 1) := by decide +kernel
theorem dL_state_86 : decode cL_state 86 = .ok (.iload_n 2, 1) := by decide +kernel
theorem dL_state_87 : decode cL_state 87 = .ok (.invokevirtual 90, 3) := by decide +kernel
theorem dL_state_90 : decode cL_state 90 = .ok (.iadd, 1) := by decide +kernel
theorem dL_state_91 : decode cL_state 91 = .ok (.istore_n 1, 1) := by decide +kernel
theorem dL_state_92 : decode cL_state 92 = .ok (.aload_n 0, 1) := by decide +kernel
theorem dL_state_93 : decode cL_state 93 = .ok (.iload_n 2, 1) := by decide +kernel
theorem dL_state_94 : decode cL_state 94 = .ok (.invokestatic 115, 3) := by decide +kernel
theorem dL_state_97 : decode cL_state 97 = .ok (.astore_n 3, 1) := by decide +kernel
theorem dL_state_98 : decode cL_state 98 = .ok (.aload_n 3, 1) := by decide +kernel
theorem dL_state_99 : decode cL_state 99 = .ok (.arraylength, 1) := by decide +kernel
theorem dL_state_100 : decode cL_state 100 = .ok (.istore 4, 2) := by decide +kernel
theorem dL_state_102 : decode cL_state 102 = .ok (.iconst 0, 1) := by decide +kernel
theorem dL_state_103 : decode cL_state 103 = .ok (.istore 5, 2) := by decide +kernel
theorem dL_state_105 : decode cL_state 105 = .ok (.iload 5, 2) := by decide +kernel
theorem dL_state_107 : decode cL_state 107 = .ok (.iload 4, 2) := by decide +kernel
theorem dL_state_109 : decode cL_state 109 = .ok (.if_icmp .ge 23, 3) := by decide +kernel
theorem dL_state_112 : decode cL_state 112 = .ok (.aload_n 3, 1) := by decide +kernel
theorem dL_state_113 : decode cL_state 113 = .ok (.iload 5, 2) := by decide +kernel
theorem dL_state_115 : decode cL_state 115 = .ok (.iaload, 1) := by decide +kernel
theorem dL_state_116 : decode cL_state 116 = .ok (.istore 6, 2) := by decide +kernel
theorem dL_state_118 : decode cL_state 118 = .ok (.bipush 31, 2) := by decide +kernel
theorem dL_state_120 : decode cL_state 120 = .ok (.iload_n 1, 1) := by decide +kernel
theorem dL_state_121 : decode cL_state 121 = .ok (.imul, 1) := by decide +kernel
theorem dL_state_122 : decode cL_state 122 = .ok (.iload 6, 2) := by decide +kernel
theorem dL_state_124 : decode cL_state 124 = .ok (.iadd, 1) := by decide +kernel
theorem dL_state_125 : decode cL_state 125 = .ok (.istore_n 1, 1) := by decide +kernel
theorem dL_state_126 : decode cL_state 126 = .ok (.iinc 5 1, 3) := by decide +kernel
theorem dL_state_129 : decode cL_state 129 = .ok (.goto (-24), 3) := by decide +kernel
theorem dL_state_132 : decode cL_state 132 = .ok (.iinc 2 1, 3) := by decide +kernel
theorem dL_state_135 : decode cL_state 135 = .ok (.goto (-68), 3) := by decide +kernel
theorem dL_state_138 : decode cL_state 138 = .ok (.iconst 0, 1) := by decide +kernel
theorem dL_state_139 : decode cL_state 139 = .ok (.istore_n 2, 1) := by decide +kernel
theorem dL_state_140 : decode cL_state 140 = .ok (.iload_n 2, 1) := by decide +kernel
theorem dL_state_141 : decode cL_state 141 = .ok (.aload_n 0, 1) := by decide +kernel
theorem dL_state_142 : decode cL_state 142 = .ok (.invokevirtual 43, 3) := by decide +kernel
theorem dL_state_145 : decode cL_state 145 = .ok (.if_icmp .ge 29, 3) := by decide +kernel
theorem dL_state_148 : decode cL_state 148 = .ok (.bipush 31, 2) := by decide +kernel
theorem dL_state_150 : decode cL_state 150 = .ok (.bipush 31, 2) := by decide +kernel
theorem dL_state_152 : decode cL_state 152 = .ok (.iload_n 1, 1) := by decide +kernel
theorem dL_state_153 : decode cL_state 153 = .ok (.imul, 1) := by decide +kernel
theorem dL_state_154 : decode cL_state 154 = .ok (.aload_n 0, 1) := by decide +kernel
theorem dL_state_155 : decode cL_state 155 = .ok (.iload_n 2, 1) := by decide +kernel
theorem dL_state_156 : decode cL_state 156 = .ok (.invokevirtual 119, 3) := by decide +kernel
theorem dL_state_159 : decode cL_state 159 = .ok (.iadd, 1) := by decide +kernel
theorem dL_state_160 : decode cL_state 160 = .ok (.imul, 1) := by decide +kernel
theorem dL_state_161 : decode cL_state 161 = .ok (.aload_n 0, 1) := by decide +kernel
theorem dL_state_162 : decode cL_state 162 = .ok (.iload_n 2, 1) := by decide +kernel
theorem dL_state_163 : decode cL_state 163 = .ok (.invokevirtual 122, 3) := by decide +kernel
theorem dL_state_166 : decode cL_state 166 = .ok (.iadd, 1) := by decide +kernel
theorem dL_state_167 : decode cL_state 167 = .ok (.istore_n 1, 1) := by decide +kernel
theorem dL_state_168 : decode cL_state 168 = .ok (.iinc 2 1, 3) := by decide +kernel
theorem dL_state_171 : decode cL_state 171 = .ok (.goto (-31), 3) := by decide +kernel
theorem dL_state_174 : decode cL_state 174 = .ok (.bipush 31, 2) := by decide +kernel
theorem dL_state_176 : decode cL_state 176 = .ok (.iload_n 1, 1) := by decide +kernel
theorem dL_state_177 : decode cL_state 177 = .ok (.imul, 1) := by decide +kernel
theorem dL_state_178 : decode cL_state 178 = .ok (.aload_n 0, 1) := by decide +kernel
theorem dL_state_179 : decode cL_state 179 = .ok (.invokevirtual 34, 3) := by decide +kernel
theorem dL_state_182 : decode cL_state 182 = .ok (.iadd, 1) := by decide +kernel
theorem dL_state_183 : decode cL_state 183 = .ok (.ireturn, 1) := by decide +kernel
def f_L_state_L31 (x_v : VB_t) (K31 : Int32 → Option (Int32)) : Nat → Int32 → Int32 → Option (Int32)
  | 0, _, _ => none
  | n31 + 1, i6, i7 =>
    q_bd (g_X10_bellCount x_v) (fun q9 =>
  q_br (q9 ≤ i6) (
  K31 i7) (
  q_bd (g_X10_herdOf x_v i6) (fun q10 =>
  q_sm q10 (fun _ => none) (fun r11 =>
  q_bd (g_X10_pitch x_v i6) (fun q12 =>
  q_sm q12 (fun _ => none) (fun r13 =>
  q_lt ((31 * ((31 * i7) + r11)) + r13 : Int32) (fun v14 =>
  q_lt (i6 + 1 : Int32) (fun v15 =>
  f_L_state_L31 x_v K31 n31 v15 v14))))))))
def f_L_state_L105 (q24 : Nat × (Nat → Int32)) (v25 : Int32) (K105 : Int32 → Option (Int32)) : Nat → Int32 → Int32 → Option (Int32)
  | 0, _, _ => none
  | n105 + 1, i26, i27 =>
    q_br (v25 ≤ i26) (
  K105 i27) (
  q_gd (q_in i26 q24.1) (
  q_lt (q24.2 (i26.toNatClampNeg) : Int32) (fun v30 =>
  q_lt ((31 * i27) + v30 : Int32) (fun v31 =>
  q_lt (i26 + 1 : Int32) (fun v32 =>
  f_L_state_L105 q24 v25 K105 n105 v32 v31)))))
def f_L_state_L67 (x_v : VB_t) (K67 : Int32 → Option (Int32)) : Nat → Int32 → Int32 → Option (Int32)
  | 0, _, _ => none
  | n67 + 1, i16, i17 =>
    q_br (4 ≤ i16) (
  K67 i17) (
  q_bd (g_X10_entry x_v i16) (fun q19 =>
  q_sm q19 (fun _ => none) (fun r20 =>
  q_bd (g_X10_melodyLength x_v i16) (fun q21 =>
  q_sm q21 (fun _ => none) (fun r22 =>
  q_lt ((31 * ((31 * i17) + r20)) + r22 : Int32) (fun v23 =>
  q_bd (f_L_melody x_v i16) (fun q24 =>
  q_lt (Int32.ofNat q24.1 : Int32) (fun v25 =>
  f_L_state_L105 q24 v25 (fun y28 =>
  q_lt (i16 + 1 : Int32) (fun v33 =>
  f_L_state_L67 x_v K67 n67 v33 y28)) 2000 0 v23))))))))
def f_L_state_L140 (x_v : VB_t) (K140 : Int32 → Option (Int32)) : Nat → Int32 → Int32 → Option (Int32)
  | 0, _, _ => none
  | n140 + 1, i34, i35 =>
    q_bd (g_X10_cliffCount x_v) (fun q37 =>
  q_br (q37 ≤ i34) (
  K140 i35) (
  q_bd (g_X10_delay x_v i34) (fun q38 =>
  q_sm q38 (fun _ => none) (fun r39 =>
  q_bd (g_X10_transposition x_v i34) (fun q40 =>
  q_sm q40 (fun _ => none) (fun r41 =>
  q_lt ((31 * ((31 * i35) + r39)) + r41 : Int32) (fun v42 =>
  q_lt (i34 + 1 : Int32) (fun v43 =>
  f_L_state_L140 x_v K140 n140 v43 v42))))))))
def f_L_state (x_v : VB_t) : Option (Int32) :=
  q_bd (g_X10_tonic x_v) (fun q1 =>
  q_bd (g_X10_isMinor x_v) (fun q2 =>
  q_lt (fun (j3 : Int32) =>
  q_bd (g_X10_tolerance x_v) (fun q4 =>
  q_lt ((31 * ((31 * q1) + j3)) + q4 : Int32) (fun v5 =>
  f_L_state_L31 x_v (fun y8 =>
  f_L_state_L67 x_v (fun y18 =>
  f_L_state_L140 x_v (fun y36 =>
  q_bd (g_X10_bellCount x_v) (fun q44 =>
  some ((31 * y36) + q44))) 6 0 y18) 6 0 y8) 16 0 v5))) (fun (J21 : Int32 → Option (Int32)) =>
  q_br (q2 = 0) (
  J21 0) (
  J21 1))))
theorem hv_L_state : yL_state.cls = RL ∧ yL_state.cls ≠ "java/lang/invoke/MethodHandle" ∧ yL_state.cls ≠ "java/lang/invoke/VarHandle" ∧ (parseMethodDescriptor yL_state.desc).map (fun d => d.parameters.length) = some 1 := by decide +kernel
abbrev rm_L_state : Room := { frames := 9, cells := 224, slots := 1464, locals := 147 }
set_option maxHeartbeats 4000000 in
set_option maxRecDepth 100000 in
theorem k_L_state (l : Launch) (E : ET) (a : Nat → Nat) (o : Nat) (x : VB_t) (res : Int32) (hF : f_L_state x = some res) (sz : Nat) (hlt : l.stackTraces = false) : CtI l yL_state (mws yL_state cL_state 7 (some .int)) rm_L_state 224 1464 [.ref (a o)] E (bl_VB1 E a o x) res (bl_VB1 E a o x) sz := by
  refine mk_M (by decide +kernel) (Nat.le_of_ble_eq_true rfl) ?_
  intro p e s m below meth c A args Q ls hAe hsz hQ hx hb hr hml hin ha hown hlocks hA hz hzs hst hP hD hS hl
  have hown : s.vm.findClass RL = some m.cls := hown
  rw [hAe] at hQ
  subst hsz
  have hP : va_P E.1 vwCl (List.flatten [w_VB1 E a o x]) s.heap := hP
  have hD : va_D A (List.flatten [w_VB1 E a o x]) := hD
  have hl : lv_has ls 7 [(0, .ref (a o))] := hl
  generalize hHe : s.heap = H at hP
  have hS : va_S A s.heap H [] := by rw [← hHe]; exact hS
  generalize ([] : List Loc) = locs at hS ⊢
  unfold f_L_state at hF
  refine lv_bipush (v := 31) hx hb dL_state_0 (by decide) ?_
  refine lv_bipush (v := 31) hx hb dL_state_2 (by decide) ?_
  refine lv_aload_n hx hb dL_state_4 rfl (lv_at hl 0 rfl) ?_
  obtain ⟨q1, hq1, hF⟩ := q_bdi hF
  refine cl_i (Lc := [w_VB1 E a o x]) (Lc' := [w_VB1 E a o x]) (L' := [w_VB1 E a o x]) (rv := q1) (va_runV (As := []) (rest := [.int 31, .int 31]) ⟨hx, hb, hml, hown, ha⟩ (kg_X10_tonic l E a o x q1 hq1 H.size) (cwV 0 ha (gi_V (fun _ h => h) mw1155 mw1156 mw1157 mw26 mw1158) rfl rfl rfl hv_X10_tonic ⟨(Nat.le_of_ble_eq_true rfl), (Nat.le_of_ble_eq_true rfl)⟩) ⟨pre_blind, va_recv hst.k (fr_P hP [0] rfl) (ci := 11) (q0 := 0) rfl rfl, pre_at hP hD hS hz hzs hst [0] (by decide) rfl rfl⟩ rfl rfl hl.1 rfl (lv_room (Nat.le_of_ble_eq_true rfl)) dL_state_5 ⟨(Nat.le_of_ble_eq_true rfl), (Nat.le_of_ble_eq_true rfl)⟩) hP hD hS hA [0] (by decide) rfl rfl rfl rfl (fun H locs hP hD hS => ?_)
  refine lv_imul hx hb dL_state_8 ?_
  refine lv_aload_n hx hb dL_state_9 rfl (lv_at hl 0 rfl) ?_
  obtain ⟨q2, hq2, hF⟩ := q_bdi hF
  refine cl_i (Lc := [w_VB1 E a o x]) (Lc' := [w_VB1 E a o x]) (L' := [w_VB1 E a o x]) (rv := q2) (va_runV (As := []) (rest := [.int (31 * q1), .int 31]) ⟨hx, hb, hml, hown, ha⟩ (kg_X10_isMinor l E a o x q2 hq2 H.size) (cwV 0 ha (gi_V (fun _ h => h) mw1159 mw1160 mw1161 mw26 mw1162) rfl rfl rfl hv_X10_isMinor ⟨(Nat.le_of_ble_eq_true rfl), (Nat.le_of_ble_eq_true rfl)⟩) ⟨pre_blind, va_recv hst.k (fr_P hP [0] rfl) (ci := 11) (q0 := 0) rfl rfl, pre_at hP hD hS hz hzs hst [0] (by decide) rfl rfl⟩ rfl rfl hl.1 rfl (lv_room (Nat.le_of_ble_eq_true rfl)) dL_state_10 ⟨(Nat.le_of_ble_eq_true rfl), (Nat.le_of_ble_eq_true rfl)⟩) hP hD hS hA [0] (by decide) rfl rfl rfl rfl (fun H locs hP hD hS => ?_)
  obtain ⟨J21, hJ21, hF⟩ := q_jn hF
  have jJ21 : ∀ (j3 : Int32), ∀ (H : Heap) (locs : List Loc) (ls : Array Slot), J21 j3 = some res → va_P E.1 vwCl (List.flatten [w_VB1 E a o x]) H → va_D A (List.flatten [w_VB1 E a o x]) → va_S A s.heap H locs → lv_has ls 7 [(0, .ref (a o))] → W p l e rm_L_state s m args below meth c H locs 0 0 Q (F0 m 21 ls [.int j3, .int (31 * q1), .int 31]) := by
    intro j3 H locs ls hF hP hD hS hl
    rw [hJ21] at hF
    refine lv_iadd hx hb dL_state_21 ?_
    refine lv_imul hx hb dL_state_22 ?_
    refine lv_aload_n hx hb dL_state_23 rfl (lv_at hl 0 rfl) ?_
    obtain ⟨q4, hq4, hF⟩ := q_bdi hF
    refine cl_i (Lc := [w_VB1 E a o x]) (Lc' := [w_VB1 E a o x]) (L' := [w_VB1 E a o x]) (rv := q4) (va_runV (As := []) (rest := [.int (31 * ((31 * q1) + j3))]) ⟨hx, hb, hml, hown, ha⟩ (kg_X10_tolerance l E a o x q4 hq4 H.size) (cwV 0 ha (gi_V (fun _ h => h) mw784 mw785 mw786 mw26 mw787) rfl rfl rfl hv_X10_tolerance ⟨(Nat.le_of_ble_eq_true rfl), (Nat.le_of_ble_eq_true rfl)⟩) ⟨pre_blind, va_recv hst.k (fr_P hP [0] rfl) (ci := 11) (q0 := 0) rfl rfl, pre_at hP hD hS hz hzs hst [0] (by decide) rfl rfl⟩ rfl rfl hl.1 rfl (lv_room (Nat.le_of_ble_eq_true rfl)) dL_state_24 ⟨(Nat.le_of_ble_eq_true rfl), (Nat.le_of_ble_eq_true rfl)⟩) hP hD hS hA [0] (by decide) rfl rfl rfl rfl (fun H locs hP hD hS => ?_)
    refine lv_iadd hx hb dL_state_27 ?_
    refine lv_topi (fun v5 ev5 => ?_)
    have hF := q_lti ev5 hF
    refine lv_istore_n (lv' := [(1, .int v5), (0, .ref (a o))]) hx hb dL_state_28 rfl hl (by decide) rfl (fun ls hl => ?_)
    refine lv_iconst (v := 0) hx hb dL_state_29 (by decide) ?_
    refine lv_istore_n (lv' := [(2, .int 0), (1, .int v5), (0, .ref (a o))]) hx hb dL_state_30 rfl hl (by decide) rfl (fun ls hl => ?_)
    have key31 : ∀ (K : Int32 → Option (Int32)), (∀ (y8 : Int32) (H : Heap) (locs : List Loc) (ls : Array Slot), K y8 = some res → va_P E.1 vwCl (List.flatten [w_VB1 E a o x]) H → va_D A (List.flatten [w_VB1 E a o x]) → va_S A s.heap H locs → lv_has ls 7 [(1, .int y8), (0, .ref (a o))] → W p l e rm_L_state s m args below meth c H locs 32 192 Q (F0 m 65 ls [])) → ∀ (n : Nat) (i6 : Int32) (i7 : Int32) (cv sv : Nat) (H : Heap) (locs : List Loc) (ls : Array Slot), cv + n * 2 ≤ 32 → sv + n * 12 ≤ 192 → f_L_state_L31 x K n i6 i7 = some res → va_P E.1 vwCl (List.flatten [w_VB1 E a o x]) H → va_D A (List.flatten [w_VB1 E a o x]) → va_S A s.heap H locs → lv_has ls 7 [(2, .int i6), (1, .int i7), (0, .ref (a o))] → W p l e rm_L_state s m args below meth c H locs cv sv Q (F0 m 31 ls []) := by
      intro K31 hK31 n31
      induction n31 with
      | zero => intro i6 i7 cv sv H locs ls _ _ hF; exact absurd hF (by simp [f_L_state_L31])
      | succ n31 ih31 =>
        intro i6 i7 cv sv H locs ls hcv hsv hF hP hD hS hl
        rw [f_L_state_L31] at hF
        refine lv_iload_n hx hb dL_state_31 rfl (lv_at hl 0 rfl) ?_
        refine lv_aload_n hx hb dL_state_32 rfl (lv_at hl 2 rfl) ?_
        obtain ⟨q9, hq9, hF⟩ := q_bdi hF
        refine cl_i (Lc := [w_VB1 E a o x]) (Lc' := [w_VB1 E a o x]) (L' := [w_VB1 E a o x]) (rv := q9) (va_runV (As := []) (rest := [.int i6]) ⟨hx, hb, hml, hown, ha⟩ (kg_X10_bellCount l E a o x q9 hq9 H.size) (cwV 0 ha (gi_V (fun _ h => h) mw1143 mw1144 mw1145 mw26 mw1146) rfl rfl rfl hv_X10_bellCount ⟨(Nat.le_of_ble_eq_true rfl), (Nat.le_of_ble_eq_true rfl)⟩) ⟨pre_blind, va_recv hst.k (fr_P hP [0] rfl) (ci := 11) (q0 := 0) rfl rfl, pre_at hP hD hS hz hzs hst [0] (by decide) rfl rfl⟩ rfl rfl hl.1 rfl (lv_room (Nat.le_of_ble_eq_true rfl)) dL_state_33 ⟨by show cv + 0 ≤ 224; omega, by show sv + 0 ≤ 1464; omega⟩) hP hD hS hA [0] (by decide) rfl rfl rfl rfl (fun H locs hP hD hS => ?_)
        refine lv_icmp_ge (tgt := 65) hx hb dL_state_36 (by decide) (fun c36 => ?_) (fun c36 => ?_)
        · have hF := q_brp c36 hF
          refine W.widen (k := 32) (n := 192) (by omega) (by omega) ?_
          exact hK31 i7 H locs ls hF hP hD hS (lv_sub hl [1, 2] rfl)
        · have hF := q_brn c36 hF
          refine lv_bipush (v := 31) hx hb dL_state_39 (by decide) ?_
          refine lv_bipush (v := 31) hx hb dL_state_41 (by decide) ?_
          refine lv_iload_n hx hb dL_state_43 rfl (lv_at hl 1 rfl) ?_
          refine lv_imul hx hb dL_state_44 ?_
          refine lv_aload_n hx hb dL_state_45 rfl (lv_at hl 2 rfl) ?_
          refine lv_iload_n hx hb dL_state_46 rfl (lv_at hl 0 rfl) ?_
          obtain ⟨q10, hq10, hF⟩ := q_bdi hF
          refine cx_i (ro := q10) (Lc := [w_VB1 E a o x]) (Lc' := [w_VB1 E a o x]) (L' := [w_VB1 E a o x]) (vx_runV (As := [.int i6]) (rest := [.int (31 * i7), .int 31]) ⟨hx, hb, hml, hown, ha⟩ (kg_X10_herdOf l E a o x i6 q10 hq10 H.size hlt) (cwV 1 ha (gi_V (fun _ h => h) mw1163 mw1164 mw1165 mw26 mw1166) rfl rfl rfl hv_X10_herdOf ⟨(Nat.le_of_ble_eq_true rfl), (Nat.le_of_ble_eq_true rfl)⟩) ⟨pre_blind, va_recv hst.k (fr_P hP [0] rfl) (ci := 11) (q0 := 0) rfl rfl, pre_at hP hD hS hz hzs hst [0] (by decide) rfl rfl⟩ rfl rfl hl.1 rfl (lv_room (Nat.le_of_ble_eq_true rfl)) dL_state_47 ⟨by show cv + 1 ≤ 224; omega, by show sv + 6 ≤ 1464; omega⟩) hP hD hS hA [0] (by decide) rfl rfl rfl rfl (fun X ce q9 H locs eX h1 h2 h3 hP hD hS => ?_) (fun r11 H locs er11 hP hD hS => ?_)
          · have hF := q_smr eX hF
            exact absurd hF (by simp)
          have hF := q_sml er11 hF
          refine lv_iadd hx hb dL_state_50 ?_
          refine lv_imul hx hb dL_state_51 ?_
          refine lv_aload_n hx hb dL_state_52 rfl (lv_at hl 2 rfl) ?_
          refine lv_iload_n hx hb dL_state_53 rfl (lv_at hl 0 rfl) ?_
          obtain ⟨q12, hq12, hF⟩ := q_bdi hF
          refine cx_i (ro := q12) (Lc := [w_VB1 E a o x]) (Lc' := [w_VB1 E a o x]) (L' := [w_VB1 E a o x]) (vx_runV (As := [.int i6]) (rest := [.int (31 * ((31 * i7) + r11))]) ⟨hx, hb, hml, hown, ha⟩ (kg_X10_pitch l E a o x i6 q12 hq12 H.size hlt) (cwV 1 ha (gi_V (fun _ h => h) mw655 mw656 mw657 mw26 mw658) rfl rfl rfl hv_X10_pitch ⟨(Nat.le_of_ble_eq_true rfl), (Nat.le_of_ble_eq_true rfl)⟩) ⟨pre_blind, va_recv hst.k (fr_P hP [0] rfl) (ci := 11) (q0 := 0) rfl rfl, pre_at hP hD hS hz hzs hst [0] (by decide) rfl rfl⟩ rfl rfl hl.1 rfl (lv_room (Nat.le_of_ble_eq_true rfl)) dL_state_54 ⟨by show cv + 1 + 1 ≤ 224; omega, by show sv + 6 + 6 ≤ 1464; omega⟩) hP hD hS hA [0] (by decide) rfl rfl rfl rfl (fun X ce q9 H locs eX h1 h2 h3 hP hD hS => ?_) (fun r13 H locs er13 hP hD hS => ?_)
          · have hF := q_smr eX hF
            exact absurd hF (by simp)
          have hF := q_sml er13 hF
          refine lv_iadd hx hb dL_state_57 ?_
          refine lv_topi (fun v14 ev14 => ?_)
          have hF := q_lti ev14 hF
          refine lv_istore_n (lv' := [(1, .int v14), (2, .int i6), (0, .ref (a o))]) hx hb dL_state_58 rfl hl (by decide) rfl (fun ls hl => ?_)
          obtain ⟨v15, ev15⟩ : ∃ y : Int32, y = i6 + 1 := ⟨_, rfl⟩
          have hF := q_lti ev15 hF
          refine lv_iinc (v := v15) (lv' := [(2, .int v15), (1, .int v14), (0, .ref (a o))]) hx hb dL_state_59 hl (k := 1) rfl (by rw [ev15]; rfl) (by decide) rfl (fun ls hl => ?_)
          refine lv_goto (tgt := 31) hx hb dL_state_62 (by decide) ?_
          exact ih31 v15 v14 (cv + 2) (sv + 12) H locs ls (by omega) (by omega) hF hP hD hS (lv_sub hl [0, 1, 2] rfl)
    refine key31 _ ?_ 16 0 v5 0 0 H locs ls (by omega) (by omega) hF hP hD hS (lv_sub hl [0, 1, 2] rfl)
    intro y8 H locs ls hF hP hD hS hl
    refine lv_iconst (v := 0) hx hb dL_state_65 (by decide) ?_
    refine lv_istore_n (lv' := [(2, .int 0), (1, .int y8), (0, .ref (a o))]) hx hb dL_state_66 rfl hl (by decide) rfl (fun ls hl => ?_)
    have key67 : ∀ (K : Int32 → Option (Int32)), (∀ (y18 : Int32) (H : Heap) (locs : List Loc) (ls : Array Slot), K y18 = some res → va_P E.1 vwCl (List.flatten [w_VB1 E a o x]) H → va_D A (List.flatten [w_VB1 E a o x]) → va_S A s.heap H locs → lv_has ls 7 [(1, .int y18), (0, .ref (a o))] → W p l e rm_L_state s m args below meth c H locs 212 1392 Q (F0 m 138 ls [])) → ∀ (n : Nat) (i16 : Int32) (i17 : Int32) (cv sv : Nat) (H : Heap) (locs : List Loc) (ls : Array Slot), cv + n * 30 ≤ 212 → sv + n * 200 ≤ 1392 → f_L_state_L67 x K n i16 i17 = some res → va_P E.1 vwCl (List.flatten [w_VB1 E a o x]) H → va_D A (List.flatten [w_VB1 E a o x]) → va_S A s.heap H locs → lv_has ls 7 [(2, .int i16), (1, .int i17), (0, .ref (a o))] → W p l e rm_L_state s m args below meth c H locs cv sv Q (F0 m 67 ls []) := by
      intro K67 hK67 n67
      induction n67 with
      | zero => intro i16 i17 cv sv H locs ls _ _ hF; exact absurd hF (by simp [f_L_state_L67])
      | succ n67 ih67 =>
        intro i16 i17 cv sv H locs ls hcv hsv hF hP hD hS hl
        rw [f_L_state_L67] at hF
        refine lv_iload_n hx hb dL_state_67 rfl (lv_at hl 0 rfl) ?_
        refine lv_iconst (v := 4) hx hb dL_state_68 (by decide) ?_
        refine lv_icmp_ge (tgt := 138) hx hb dL_state_69 (by decide) (fun c69 => ?_) (fun c69 => ?_)
        · have hF := q_brp c69 hF
          refine W.widen (k := 212) (n := 1392) (by omega) (by omega) ?_
          exact hK67 i17 H locs ls hF hP hD hS (lv_sub hl [1, 2] rfl)
        · have hF := q_brn c69 hF
          refine lv_bipush (v := 31) hx hb dL_state_72 (by decide) ?_
          refine lv_bipush (v := 31) hx hb dL_state_74 (by decide) ?_
          refine lv_iload_n hx hb dL_state_76 rfl (lv_at hl 1 rfl) ?_
          refine lv_imul hx hb dL_state_77 ?_
          refine lv_aload_n hx hb dL_state_78 rfl (lv_at hl 2 rfl) ?_
          refine lv_iload_n hx hb dL_state_79 rfl (lv_at hl 0 rfl) ?_
          obtain ⟨q19, hq19, hF⟩ := q_bdi hF
          refine cx_i (ro := q19) (Lc := [w_VB1 E a o x]) (Lc' := [w_VB1 E a o x]) (L' := [w_VB1 E a o x]) (vx_runV (As := [.int i16]) (rest := [.int (31 * i17), .int 31]) ⟨hx, hb, hml, hown, ha⟩ (kg_X10_entry l E a o x i16 q19 hq19 H.size hlt) (cwV 1 ha (gi_V (fun _ h => h) mw1167 mw1168 mw1169 mw26 mw1170) rfl rfl rfl hv_X10_entry ⟨(Nat.le_of_ble_eq_true rfl), (Nat.le_of_ble_eq_true rfl)⟩) ⟨pre_blind, va_recv hst.k (fr_P hP [0] rfl) (ci := 11) (q0 := 0) rfl rfl, pre_at hP hD hS hz hzs hst [0] (by decide) rfl rfl⟩ rfl rfl hl.1 rfl (lv_room (Nat.le_of_ble_eq_true rfl)) dL_state_80 ⟨by show cv + 1 ≤ 224; omega, by show sv + 6 ≤ 1464; omega⟩) hP hD hS hA [0] (by decide) rfl rfl rfl rfl (fun X ce q9 H locs eX h1 h2 h3 hP hD hS => ?_) (fun r20 H locs er20 hP hD hS => ?_)
          · have hF := q_smr eX hF
            exact absurd hF (by simp)
          have hF := q_sml er20 hF
          refine lv_iadd hx hb dL_state_83 ?_
          refine lv_imul hx hb dL_state_84 ?_
          refine lv_aload_n hx hb dL_state_85 rfl (lv_at hl 2 rfl) ?_
          refine lv_iload_n hx hb dL_state_86 rfl (lv_at hl 0 rfl) ?_
          obtain ⟨q21, hq21, hF⟩ := q_bdi hF
          refine cx_i (ro := q21) (Lc := [w_VB1 E a o x]) (Lc' := [w_VB1 E a o x]) (L' := [w_VB1 E a o x]) (vx_runV (As := [.int i16]) (rest := [.int (31 * ((31 * i17) + r20))]) ⟨hx, hb, hml, hown, ha⟩ (kg_X10_melodyLength l E a o x i16 q21 hq21 H.size hlt) (cwV 1 ha (gi_V (fun _ h => h) mw799 mw800 mw801 mw26 mw802) rfl rfl rfl hv_X10_melodyLength ⟨(Nat.le_of_ble_eq_true rfl), (Nat.le_of_ble_eq_true rfl)⟩) ⟨pre_blind, va_recv hst.k (fr_P hP [0] rfl) (ci := 11) (q0 := 0) rfl rfl, pre_at hP hD hS hz hzs hst [0] (by decide) rfl rfl⟩ rfl rfl hl.1 rfl (lv_room (Nat.le_of_ble_eq_true rfl)) dL_state_87 ⟨by show cv + 1 + 1 ≤ 224; omega, by show sv + 6 + 6 ≤ 1464; omega⟩) hP hD hS hA [0] (by decide) rfl rfl rfl rfl (fun X ce q9 H locs eX h1 h2 h3 hP hD hS => ?_) (fun r22 H locs er22 hP hD hS => ?_)
          · have hF := q_smr eX hF
            exact absurd hF (by simp)
          have hF := q_sml er22 hF
          refine lv_iadd hx hb dL_state_90 ?_
          refine lv_topi (fun v23 ev23 => ?_)
          have hF := q_lti ev23 hF
          refine lv_istore_n (lv' := [(1, .int v23), (2, .int i16), (0, .ref (a o))]) hx hb dL_state_91 rfl hl (by decide) rfl (fun ls hl => ?_)
          refine lv_aload_n hx hb dL_state_92 rfl (lv_at hl 2 rfl) ?_
          refine lv_iload_n hx hb dL_state_93 rfl (lv_at hl 1 rfl) ?_
          obtain ⟨q24, hq24, hF⟩ := q_bdi hF
          refine cl_n (L0 := []) (Lc := [w_VB1 E a o x]) (Lf := fun r => [w_IntArr E (fun _ => r) 0 q24.1 q24.2, w_VB1 E a o x]) (va_runS (As := [.ref (a o), .int i16]) (rest := []) ⟨hx, hb, hml, hown, ha⟩ (k_L_melody l E a o x i16 q24 hq24 H.size hlt) (cwS 2 ha (gi_S (fun _ h => h) mw1171 mw1172 mw25 mw1173) rfl rfl rfl hv_L_melody ⟨(Nat.le_of_ble_eq_true rfl), (Nat.le_of_ble_eq_true rfl)⟩) ⟨pre_blind, pre_at (L := [w_VB1 E a o x]) hP hD hS hz hzs hst [0] (by decide) rfl rfl⟩ rfl rfl hl.1 rfl (lv_room (Nat.le_of_ble_eq_true rfl)) dL_state_94 ⟨by show cv + 2 + 26 ≤ 224; omega, by show sv + 12 + 158 ≤ 1464; omega⟩) hP hD hS hA (fun rq24 H locs hP hD hS => ?_)
          have hP : va_P E.1 vwCl (List.flatten [w_IntArr E (fun _ => rq24) 0 q24.1 q24.2, w_VB1 E a o x]) H := hP
          have hD : va_D A (List.flatten [w_IntArr E (fun _ => rq24) 0 q24.1 q24.2, w_VB1 E a o x]) := hD
          refine lv_astore_n (lv' := [(3, .ref ((fun _ => rq24) 0)), (1, .int v23), (2, .int i16), (0, .ref (a o))]) hx hb dL_state_97 rfl hl (by decide) rfl (fun ls hl => ?_)
          refine lv_aload_n hx hb dL_state_98 rfl (lv_at hl 0 rfl) ?_
          refine va_alen (v := Int32.ofNat q24.1) hx hb hst.k hP 0 0 rfl rfl rfl dL_state_99 ?_
          refine lv_topi (fun v25 ev25 => ?_)
          have hF := q_lti ev25 hF
          refine lv_istore (lv' := [(4, .int v25), (3, .ref ((fun _ => rq24) 0)), (1, .int v23), (2, .int i16), (0, .ref (a o))]) hx hb dL_state_100 hl (by decide) rfl (fun ls hl => ?_)
          refine lv_iconst (v := 0) hx hb dL_state_102 (by decide) ?_
          refine lv_istore (lv' := [(5, .int 0), (4, .int v25), (3, .ref ((fun _ => rq24) 0)), (1, .int v23), (2, .int i16), (0, .ref (a o))]) hx hb dL_state_103 hl (by decide) rfl (fun ls hl => ?_)
          have key105 : ∀ (K : Int32 → Option (Int32)), (∀ (y28 : Int32) (H : Heap) (locs : List Loc) (ls : Array Slot), K y28 = some res → va_P E.1 vwCl (List.flatten [w_IntArr E (fun _ => rq24) 0 q24.1 q24.2, w_VB1 E a o x]) H → va_D A (List.flatten [w_IntArr E (fun _ => rq24) 0 q24.1 q24.2, w_VB1 E a o x]) → va_S A s.heap H locs → lv_has ls 7 [(1, .int y28), (2, .int i16), (0, .ref (a o))] → W p l e rm_L_state s m args below meth c H locs (cv + 28) (sv + 170) Q (F0 m 132 ls [])) → ∀ (n : Nat) (i26 : Int32) (i27 : Int32) (H : Heap) (locs : List Loc) (ls : Array Slot), f_L_state_L105 q24 v25 K n i26 i27 = some res → va_P E.1 vwCl (List.flatten [w_IntArr E (fun _ => rq24) 0 q24.1 q24.2, w_VB1 E a o x]) H → va_D A (List.flatten [w_IntArr E (fun _ => rq24) 0 q24.1 q24.2, w_VB1 E a o x]) → va_S A s.heap H locs → lv_has ls 7 [(5, .int i26), (4, .int v25), (3, .ref ((fun _ => rq24) 0)), (1, .int i27), (2, .int i16), (0, .ref (a o))] → W p l e rm_L_state s m args below meth c H locs (cv + 28) (sv + 170) Q (F0 m 105 ls []) := by
            intro K105 hK105 n105
            induction n105 with
            | zero => intro i26 i27 H locs ls hF; exact absurd hF (by simp [f_L_state_L105])
            | succ n105 ih105 =>
              intro i26 i27 H locs ls hF hP hD hS hl
              rw [f_L_state_L105] at hF
              refine lv_iload hx hb dL_state_105 (lv_at hl 0 rfl) ?_
              refine lv_iload hx hb dL_state_107 (lv_at hl 1 rfl) ?_
              refine lv_icmp_ge (tgt := 132) hx hb dL_state_109 (by decide) (fun c109 => ?_) (fun c109 => ?_)
              · have hF := q_brp c109 hF
                exact hK105 i27 H locs ls hF hP hD hS (lv_sub hl [3, 4, 5] rfl)
              · have hF := q_brn c109 hF
                refine lv_aload_n hx hb dL_state_112 rfl (lv_at hl 2 rfl) ?_
                refine lv_iload hx hb dL_state_113 (lv_at hl 0 rfl) ?_
                obtain ⟨g29, hF⟩ := q_gdi hF
                refine vi_iald hx hb hst.k hP 0 0 rfl rfl (f := q24.2) (k := i26.toNatClampNeg) rfl g29 dL_state_115 ?_
                refine lv_topi (fun v30 ev30 => ?_)
                have hF := q_lti ev30 hF
                refine lv_istore (lv' := [(6, .int v30), (5, .int i26), (4, .int v25), (3, .ref ((fun _ => rq24) 0)), (1, .int i27), (2, .int i16), (0, .ref (a o))]) hx hb dL_state_116 hl (by decide) rfl (fun ls hl => ?_)
                refine lv_bipush (v := 31) hx hb dL_state_118 (by decide) ?_
                refine lv_iload_n hx hb dL_state_120 rfl (lv_at hl 4 rfl) ?_
                refine lv_imul hx hb dL_state_121 ?_
                refine lv_iload hx hb dL_state_122 (lv_at hl 0 rfl) ?_
                refine lv_iadd hx hb dL_state_124 ?_
                refine lv_topi (fun v31 ev31 => ?_)
                have hF := q_lti ev31 hF
                refine lv_istore_n (lv' := [(1, .int v31), (6, .int v30), (5, .int i26), (4, .int v25), (3, .ref ((fun _ => rq24) 0)), (2, .int i16), (0, .ref (a o))]) hx hb dL_state_125 rfl hl (by decide) rfl (fun ls hl => ?_)
                obtain ⟨v32, ev32⟩ : ∃ y : Int32, y = i26 + 1 := ⟨_, rfl⟩
                have hF := q_lti ev32 hF
                refine lv_iinc (v := v32) (lv' := [(5, .int v32), (1, .int v31), (6, .int v30), (4, .int v25), (3, .ref ((fun _ => rq24) 0)), (2, .int i16), (0, .ref (a o))]) hx hb dL_state_126 hl (k := 2) rfl (by rw [ev32]; rfl) (by decide) rfl (fun ls hl => ?_)
                refine lv_goto (tgt := 105) hx hb dL_state_129 (by decide) ?_
                exact ih105 v32 v31 H locs ls hF hP hD hS (lv_sub hl [0, 3, 4, 1, 5, 6] rfl)
          refine key105 _ ?_ _ 0 v23 H locs ls hF hP hD hS (lv_sub hl [0, 1, 2, 3, 4, 5] rfl)
          intro y28 H locs ls hF hP hD hS hl
          obtain ⟨v33, ev33⟩ : ∃ y : Int32, y = i16 + 1 := ⟨_, rfl⟩
          have hF := q_lti ev33 hF
          refine lv_iinc (v := v33) (lv' := [(2, .int v33), (1, .int y28), (0, .ref (a o))]) hx hb dL_state_132 hl (k := 1) rfl (by rw [ev33]; rfl) (by decide) rfl (fun ls hl => ?_)
          refine lv_goto (tgt := 67) hx hb dL_state_135 (by decide) ?_
          have hP := fr_P hP [1] rfl
          have hD := fr_D hD [1] (by decide) rfl rfl
          exact ih67 v33 y28 (cv + 28) (sv + 170) H locs ls (by omega) (by omega) hF hP hD hS (lv_sub hl [0, 1, 2] rfl)
    refine key67 _ ?_ 6 0 y8 32 192 H locs ls (by omega) (by omega) hF hP hD hS (lv_sub hl [0, 1, 2] rfl)
    intro y18 H locs ls hF hP hD hS hl
    refine lv_iconst (v := 0) hx hb dL_state_138 (by decide) ?_
    refine lv_istore_n (lv' := [(2, .int 0), (1, .int y18), (0, .ref (a o))]) hx hb dL_state_139 rfl hl (by decide) rfl (fun ls hl => ?_)
    have key140 : ∀ (K : Int32 → Option (Int32)), (∀ (y36 : Int32) (H : Heap) (locs : List Loc) (ls : Array Slot), K y36 = some res → va_P E.1 vwCl (List.flatten [w_VB1 E a o x]) H → va_D A (List.flatten [w_VB1 E a o x]) → va_S A s.heap H locs → lv_has ls 7 [(1, .int y36), (0, .ref (a o))] → W p l e rm_L_state s m args below meth c H locs 224 1464 Q (F0 m 174 ls [])) → ∀ (n : Nat) (i34 : Int32) (i35 : Int32) (cv sv : Nat) (H : Heap) (locs : List Loc) (ls : Array Slot), cv + n * 2 ≤ 224 → sv + n * 12 ≤ 1464 → f_L_state_L140 x K n i34 i35 = some res → va_P E.1 vwCl (List.flatten [w_VB1 E a o x]) H → va_D A (List.flatten [w_VB1 E a o x]) → va_S A s.heap H locs → lv_has ls 7 [(2, .int i34), (1, .int i35), (0, .ref (a o))] → W p l e rm_L_state s m args below meth c H locs cv sv Q (F0 m 140 ls []) := by
      intro K140 hK140 n140
      induction n140 with
      | zero => intro i34 i35 cv sv H locs ls _ _ hF; exact absurd hF (by simp [f_L_state_L140])
      | succ n140 ih140 =>
        intro i34 i35 cv sv H locs ls hcv hsv hF hP hD hS hl
        rw [f_L_state_L140] at hF
        refine lv_iload_n hx hb dL_state_140 rfl (lv_at hl 0 rfl) ?_
        refine lv_aload_n hx hb dL_state_141 rfl (lv_at hl 2 rfl) ?_
        obtain ⟨q37, hq37, hF⟩ := q_bdi hF
        refine cl_i (Lc := [w_VB1 E a o x]) (Lc' := [w_VB1 E a o x]) (L' := [w_VB1 E a o x]) (rv := q37) (va_runV (As := []) (rest := [.int i34]) ⟨hx, hb, hml, hown, ha⟩ (kg_X10_cliffCount l E a o x q37 hq37 H.size) (cwV 0 ha (gi_V (fun _ h => h) mw1148 mw1149 mw1150 mw26 mw1151) rfl rfl rfl hv_X10_cliffCount ⟨(Nat.le_of_ble_eq_true rfl), (Nat.le_of_ble_eq_true rfl)⟩) ⟨pre_blind, va_recv hst.k (fr_P hP [0] rfl) (ci := 11) (q0 := 0) rfl rfl, pre_at hP hD hS hz hzs hst [0] (by decide) rfl rfl⟩ rfl rfl hl.1 rfl (lv_room (Nat.le_of_ble_eq_true rfl)) dL_state_142 ⟨by show cv + 0 ≤ 224; omega, by show sv + 0 ≤ 1464; omega⟩) hP hD hS hA [0] (by decide) rfl rfl rfl rfl (fun H locs hP hD hS => ?_)
        refine lv_icmp_ge (tgt := 174) hx hb dL_state_145 (by decide) (fun c145 => ?_) (fun c145 => ?_)
        · have hF := q_brp c145 hF
          refine W.widen (k := 224) (n := 1464) (by omega) (by omega) ?_
          exact hK140 i35 H locs ls hF hP hD hS (lv_sub hl [1, 2] rfl)
        · have hF := q_brn c145 hF
          refine lv_bipush (v := 31) hx hb dL_state_148 (by decide) ?_
          refine lv_bipush (v := 31) hx hb dL_state_150 (by decide) ?_
          refine lv_iload_n hx hb dL_state_152 rfl (lv_at hl 1 rfl) ?_
          refine lv_imul hx hb dL_state_153 ?_
          refine lv_aload_n hx hb dL_state_154 rfl (lv_at hl 2 rfl) ?_
          refine lv_iload_n hx hb dL_state_155 rfl (lv_at hl 0 rfl) ?_
          obtain ⟨q38, hq38, hF⟩ := q_bdi hF
          refine cx_i (ro := q38) (Lc := [w_VB1 E a o x]) (Lc' := [w_VB1 E a o x]) (L' := [w_VB1 E a o x]) (vx_runV (As := [.int i34]) (rest := [.int (31 * i35), .int 31]) ⟨hx, hb, hml, hown, ha⟩ (kg_X10_delay l E a o x i34 q38 hq38 H.size hlt) (cwV 1 ha (gi_V (fun _ h => h) mw1174 mw1175 mw1176 mw26 mw1177) rfl rfl rfl hv_X10_delay ⟨(Nat.le_of_ble_eq_true rfl), (Nat.le_of_ble_eq_true rfl)⟩) ⟨pre_blind, va_recv hst.k (fr_P hP [0] rfl) (ci := 11) (q0 := 0) rfl rfl, pre_at hP hD hS hz hzs hst [0] (by decide) rfl rfl⟩ rfl rfl hl.1 rfl (lv_room (Nat.le_of_ble_eq_true rfl)) dL_state_156 ⟨by show cv + 1 ≤ 224; omega, by show sv + 6 ≤ 1464; omega⟩) hP hD hS hA [0] (by decide) rfl rfl rfl rfl (fun X ce q9 H locs eX h1 h2 h3 hP hD hS => ?_) (fun r39 H locs er39 hP hD hS => ?_)
          · have hF := q_smr eX hF
            exact absurd hF (by simp)
          have hF := q_sml er39 hF
          refine lv_iadd hx hb dL_state_159 ?_
          refine lv_imul hx hb dL_state_160 ?_
          refine lv_aload_n hx hb dL_state_161 rfl (lv_at hl 2 rfl) ?_
          refine lv_iload_n hx hb dL_state_162 rfl (lv_at hl 0 rfl) ?_
          obtain ⟨q40, hq40, hF⟩ := q_bdi hF
          refine cx_i (ro := q40) (Lc := [w_VB1 E a o x]) (Lc' := [w_VB1 E a o x]) (L' := [w_VB1 E a o x]) (vx_runV (As := [.int i34]) (rest := [.int (31 * ((31 * i35) + r39))]) ⟨hx, hb, hml, hown, ha⟩ (kg_X10_transposition l E a o x i34 q40 hq40 H.size hlt) (cwV 1 ha (gi_V (fun _ h => h) mw1184 mw1185 mw1186 mw26 mw1187) rfl rfl rfl hv_X10_transposition ⟨(Nat.le_of_ble_eq_true rfl), (Nat.le_of_ble_eq_true rfl)⟩) ⟨pre_blind, va_recv hst.k (fr_P hP [0] rfl) (ci := 11) (q0 := 0) rfl rfl, pre_at hP hD hS hz hzs hst [0] (by decide) rfl rfl⟩ rfl rfl hl.1 rfl (lv_room (Nat.le_of_ble_eq_true rfl)) dL_state_163 ⟨by show cv + 1 + 1 ≤ 224; omega, by show sv + 6 + 6 ≤ 1464; omega⟩) hP hD hS hA [0] (by decide) rfl rfl rfl rfl (fun X ce q9 H locs eX h1 h2 h3 hP hD hS => ?_) (fun r41 H locs er41 hP hD hS => ?_)
          · have hF := q_smr eX hF
            exact absurd hF (by simp)
          have hF := q_sml er41 hF
          refine lv_iadd hx hb dL_state_166 ?_
          refine lv_topi (fun v42 ev42 => ?_)
          have hF := q_lti ev42 hF
          refine lv_istore_n (lv' := [(1, .int v42), (2, .int i34), (0, .ref (a o))]) hx hb dL_state_167 rfl hl (by decide) rfl (fun ls hl => ?_)
          obtain ⟨v43, ev43⟩ : ∃ y : Int32, y = i34 + 1 := ⟨_, rfl⟩
          have hF := q_lti ev43 hF
          refine lv_iinc (v := v43) (lv' := [(2, .int v43), (1, .int v42), (0, .ref (a o))]) hx hb dL_state_168 hl (k := 1) rfl (by rw [ev43]; rfl) (by decide) rfl (fun ls hl => ?_)
          refine lv_goto (tgt := 140) hx hb dL_state_171 (by decide) ?_
          exact ih140 v43 v42 (cv + 2) (sv + 12) H locs ls (by omega) (by omega) hF hP hD hS (lv_sub hl [0, 1, 2] rfl)
    refine key140 _ ?_ 6 0 y18 212 1392 H locs ls (by omega) (by omega) hF hP hD hS (lv_sub hl [0, 1, 2] rfl)
    intro y36 H locs ls hF hP hD hS hl
    refine lv_bipush (v := 31) hx hb dL_state_174 (by decide) ?_
    refine lv_iload_n hx hb dL_state_176 rfl (lv_at hl 0 rfl) ?_
    refine lv_imul hx hb dL_state_177 ?_
    refine lv_aload_n hx hb dL_state_178 rfl (lv_at hl 1 rfl) ?_
    obtain ⟨q44, hq44, hF⟩ := q_bdi hF
    refine cl_i (Lc := [w_VB1 E a o x]) (Lc' := [w_VB1 E a o x]) (L' := [w_VB1 E a o x]) (rv := q44) (va_runV (As := []) (rest := [.int (31 * y36)]) ⟨hx, hb, hml, hown, ha⟩ (kg_X10_bellCount l E a o x q44 hq44 H.size) (cwV 0 ha (gi_V (fun _ h => h) mw1143 mw1144 mw1145 mw26 mw1146) rfl rfl rfl hv_X10_bellCount ⟨(Nat.le_of_ble_eq_true rfl), (Nat.le_of_ble_eq_true rfl)⟩) ⟨pre_blind, va_recv hst.k (fr_P hP [0] rfl) (ci := 11) (q0 := 0) rfl rfl, pre_at hP hD hS hz hzs hst [0] (by decide) rfl rfl⟩ rfl rfl hl.1 rfl (lv_room (Nat.le_of_ble_eq_true rfl)) dL_state_179 ⟨(Nat.le_of_ble_eq_true rfl), (Nat.le_of_ble_eq_true rfl)⟩) hP hD hS hA [0] (by decide) rfl rfl rfl rfl (fun H locs hP hD hS => ?_)
    refine lv_iadd hx hb dL_state_182 ?_
    obtain rfl := Option.some.inj hF
    exact en_i hQ (Nat.le_of_ble_eq_true rfl) (Nat.le_of_ble_eq_true rfl) hx hb hr hlocks hP hD hS rfl dL_state_183
  refine lv_if_eq (tgt := 20) hx hb dL_state_13 (by decide) (fun c13 => ?_) (fun c13 => ?_)
  · have hF := q_brp c13 hF
    refine lv_iconst (v := 0) hx hb dL_state_20 (by decide) ?_
    exact jJ21 0 H locs ls hF hP hD hS (lv_sub hl [0] rfl)
  · have hF := q_brn c13 hF
    refine lv_iconst (v := 1) hx hb dL_state_16 (by decide) ?_
    refine lv_goto (tgt := 21) hx hb dL_state_17 (by decide) ?_
    exact jJ21 1 H locs ls hF hP hD hS (lv_sub hl [0] rfl)

/-! L_canon -/
theorem dL_canon_0 : decode cL_canon 0 = .ok (.aload_n 0, 1) := by decide +kernel
theorem dL_canon_1 : decode cL_canon 1 = .ok (.iconst 0, 1) := by decide +kernel
theorem dL_canon_2 : decode cL_canon 2 = .ok (.iconst 1, 1) := by decide +kernel
theorem dL_canon_3 : decode cL_canon 3 = .ok (.invokevirtual 273, 3) := by decide +kernel
theorem dL_canon_6 : decode cL_canon 6 = .ok (.ireturn, 1) := by decide +kernel
theorem dL_canon_7 : decode cL_canon 7 = .ok (.astore_n 1, 1) := by decide +kernel
theorem dL_canon_8 : decode cL_canon 8 = .ok (.sipush 1000, 3) := by decide +kernel
theorem dL_canon_11 : decode cL_canon 11 = .ok (.ireturn, 1) := by decide +kernel
def f_L_canon (x_v : VB_t) : Option (Int32) :=
  q_bd (g_X10_canonInterval x_v 0 1) (fun q1 =>
  q_sm q1 (fun X => q_br (X = "java/util/NoSuchElementException") (
  some 1000) (
  none)) (fun r2 =>
  some r2))
def hh_L_canon : List (Nat × Nat × Nat × Nat) := [(0, 6, 7, 282)]
theorem hv_L_canon : yL_canon.cls = RL ∧ yL_canon.cls ≠ "java/lang/invoke/MethodHandle" ∧ yL_canon.cls ≠ "java/lang/invoke/VarHandle" ∧ (parseMethodDescriptor yL_canon.desc).map (fun d => d.parameters.length) = some 1 := by decide +kernel
abbrev rm_L_canon : Room := { frames := 8, cells := 3, slots := 18, locals := 154 }
set_option maxHeartbeats 4000000 in
set_option maxRecDepth 100000 in
theorem k_L_canon (l : Launch) (E : ET) (a : Nat → Nat) (o : Nat) (x : VB_t) (res : Int32) (hF : f_L_canon x = some res) (sz : Nat) (hlt : l.stackTraces = false) : CtI l yL_canon (mwsH yL_canon cL_canon 2 (some .int) [(0, 6, 7, 282)]) rm_L_canon 3 18 [.ref (a o)] E (bl_VB1 E a o x) res (bl_VB1 E a o x) sz := by
  refine mk_H (by decide +kernel) (Nat.le_of_ble_eq_true rfl) ?_
  intro p e s m below meth c A args Q ls hAe hsz hQ hx hb hr hml hin ha hown hlocks hA hz hzs hst htab hP hD hS hl
  have hown : s.vm.findClass RL = some m.cls := hown
  rw [hAe] at hQ
  subst hsz
  have hP : va_P E.1 vwCl (List.flatten [w_VB1 E a o x]) s.heap := hP
  have hD : va_D A (List.flatten [w_VB1 E a o x]) := hD
  have hl : lv_has ls 2 [(0, .ref (a o))] := hl
  generalize hHe : s.heap = H at hP
  have hS : va_S A s.heap H [] := by rw [← hHe]; exact hS
  generalize ([] : List Loc) = locs at hS ⊢
  unfold f_L_canon at hF
  refine lv_aload_n hx hb dL_canon_0 rfl (lv_at hl 0 rfl) ?_
  refine lv_iconst (v := 0) hx hb dL_canon_1 (by decide) ?_
  refine lv_iconst (v := 1) hx hb dL_canon_2 (by decide) ?_
  obtain ⟨q1, hq1, hF⟩ := q_bdi hF
  refine cx_i (ro := q1) (Lc := [w_VB1 E a o x]) (Lc' := [w_VB1 E a o x]) (L' := [w_VB1 E a o x]) (vx_runV (As := [.int 0, .int 1]) (rest := []) ⟨hx, hb, hml, hown, ha⟩ (kg_X10_canonInterval l E a o x 0 1 q1 hq1 H.size hlt) (cwV 2 ha (gi_V (fun _ h => h) mw821 mw822 mw823 mw26 mw824) rfl rfl rfl hv_X10_canonInterval ⟨(Nat.le_of_ble_eq_true rfl), (Nat.le_of_ble_eq_true rfl)⟩) ⟨pre_blind, va_recv hst.k (fr_P hP [0] rfl) (ci := 11) (q0 := 0) rfl rfl, pre_at hP hD hS hz hzs hst [0] (by decide) rfl rfl⟩ rfl rfl hl.1 rfl (lv_room (Nat.le_of_ble_eq_true rfl)) dL_canon_3 ⟨(Nat.le_of_ble_eq_true rfl), (Nat.le_of_ble_eq_true rfl)⟩) hP hD hS hA [0] (by decide) rfl rfl rfl rfl (fun X ce q9 H locs eX h1 h2 h3 hP hD hS => ?_) (fun r2 H locs er2 hP hD hS => ?_)
  · have hF := q_smr eX hF
    by_cases w3_0 : X = "java/util/NoSuchElementException"
    · have hF := q_brp w3_0 hF
      subst w3_0
      refine vx_catch (E := "java/util/NoSuchElementException") (name := "java/util/NoSuchElementException") hown (tableOf (hh_L_canon.take 0)) ⟨0, 6, 7, 282⟩ (tableOf (hh_L_canon.drop 1)) (by rw [htab]; rfl) (hpass0 (by decide +kernel)) (by decide) (by decide) (ha _ mw1191) (va_Nw.use rfl (hst.cs cs_NoSuchElementException)) h1 h2 h3 ?_
      refine lv_astore_n (lv' := [(1, .ref q9), (0, .ref (a o))]) hx hb dL_canon_7 rfl hl (by decide) rfl (fun ls hl => ?_)
      refine lv_sipush (v := 1000) hx hb dL_canon_8 (by decide) ?_
      obtain rfl := Option.some.inj hF
      exact en_i hQ (Nat.le_of_ble_eq_true rfl) (Nat.le_of_ble_eq_true rfl) hx hb hr hlocks hP hD hS rfl dL_canon_11
    have hF := q_brn w3_0 hF
    exact absurd hF (by simp)
  have hF := q_sml er2 hF
  obtain rfl := Option.some.inj hF
  exact en_i hQ (Nat.le_of_ble_eq_true rfl) (Nat.le_of_ble_eq_true rfl) hx hb hr hlocks hP hD hS rfl dL_canon_6

/-! L_runs -/
theorem dL_runs_0 : decode cL_runs 0 = .ok (.aload_n 0, 1) := by decide +kernel
theorem dL_runs_1 : decode cL_runs 1 = .ok (.invokevirtual 163, 3) := by decide +kernel
theorem dL_runs_4 : decode cL_runs 4 = .ok (.ireturn, 1) := by decide +kernel
theorem dL_runs_5 : decode cL_runs 5 = .ok (.astore_n 1, 1) := by decide +kernel
theorem dL_runs_6 : decode cL_runs 6 = .ok (.iconst (-1), 1) := by decide +kernel
theorem dL_runs_7 : decode cL_runs 7 = .ok (.ireturn, 1) := by decide +kernel
theorem dL_runs_8 : decode cL_runs 8 = .ok (.astore_n 1, 1) := by decide +kernel
theorem dL_runs_9 : decode cL_runs 9 = .ok (.bipush (-2), 2) := by decide +kernel
theorem dL_runs_11 : decode cL_runs 11 = .ok (.ireturn, 1) := by decide +kernel
def f_L_runs (x_v : VB_t) : Option (Int32 × VB_t) :=
  q_bd (g_X10_run x_v) (fun q1 =>
  q_sm q1.1 (fun X => q_br (X = "java/lang/IllegalArgumentException") (
  some ((-1), q1.2)) (
  q_br (X = "java/lang/UnsupportedOperationException") (
  some ((-2), q1.2)) (
  none))) (fun r2 =>
  some (r2, q1.2)))
def hh_L_runs : List (Nat × Nat × Nat × Nat) := [(0, 4, 5, 86), (0, 4, 8, 284)]
theorem hv_L_runs : yL_runs.cls = RL ∧ yL_runs.cls ≠ "java/lang/invoke/MethodHandle" ∧ yL_runs.cls ≠ "java/lang/invoke/VarHandle" ∧ (parseMethodDescriptor yL_runs.desc).map (fun d => d.parameters.length) = some 1 := by decide +kernel
abbrev rm_L_runs : Room := { frames := 8, cells := 1, slots := 6, locals := 178 }
set_option maxHeartbeats 4000000 in
set_option maxRecDepth 100000 in
theorem k_L_runs (l : Launch) (E : ET) (a : Nat → Nat) (o : Nat) (x : VB_t) (res : Int32 × VB_t) (hF : f_L_runs x = some res) (sz : Nat) (hlt : l.stackTraces = false) : CtI l yL_runs (mwsH yL_runs cL_runs 2 (some .int) [(0, 4, 5, 86), (0, 4, 8, 284)]) rm_L_runs 1 6 [.ref (a o)] E (bl_VB1 E a o x) res.1 (bl_VB1 E a o (res.2)) sz := by
  refine mk_H (by decide +kernel) (Nat.le_of_ble_eq_true rfl) ?_
  intro p e s m below meth c A args Q ls hAe hsz hQ hx hb hr hml hin ha hown hlocks hA hz hzs hst htab hP hD hS hl
  have hown : s.vm.findClass RL = some m.cls := hown
  rw [hAe] at hQ
  subst hsz
  have hP : va_P E.1 vwCl (List.flatten [w_VB1 E a o x]) s.heap := hP
  have hD : va_D A (List.flatten [w_VB1 E a o x]) := hD
  have hl : lv_has ls 2 [(0, .ref (a o))] := hl
  generalize hHe : s.heap = H at hP
  have hS : va_S A s.heap H [] := by rw [← hHe]; exact hS
  generalize ([] : List Loc) = locs at hS ⊢
  unfold f_L_runs at hF
  refine lv_aload_n hx hb dL_runs_0 rfl (lv_at hl 0 rfl) ?_
  obtain ⟨q1, hq1, hF⟩ := q_bdi hF
  refine cx_i (ro := q1.1) (Lc := [w_VB1 E a o x]) (Lc' := [w_VB1 E a o (q1.2)]) (L' := [w_VB1 E a o (q1.2)]) (vx_runV (As := []) (rest := []) ⟨hx, hb, hml, hown, ha⟩ (kg_X10_run l E a o x q1 hq1 H.size hlt) (cwV 0 ha (gi_V (fun _ h => h) mw937 mw938 mw939 mw26 mw940) rfl rfl rfl hv_X10_run ⟨(Nat.le_of_ble_eq_true rfl), (Nat.le_of_ble_eq_true rfl)⟩) ⟨pre_blind, va_recv hst.k (fr_P hP [0] rfl) (ci := 11) (q0 := 0) rfl rfl, pre_at hP hD hS hz hzs hst [0] (by decide) rfl rfl⟩ rfl rfl hl.1 rfl (lv_room (Nat.le_of_ble_eq_true rfl)) dL_runs_1 ⟨(Nat.le_of_ble_eq_true rfl), (Nat.le_of_ble_eq_true rfl)⟩) hP hD hS hA [0] (by decide) rfl rfl rfl rfl (fun X ce q9 H locs eX h1 h2 h3 hP hD hS => ?_) (fun r2 H locs er2 hP hD hS => ?_)
  · have hF := q_smr eX hF
    by_cases w1_0 : X = "java/lang/IllegalArgumentException"
    · have hF := q_brp w1_0 hF
      subst w1_0
      refine vx_catch (E := "java/lang/IllegalArgumentException") (name := "java/lang/IllegalArgumentException") hown (tableOf (hh_L_runs.take 0)) ⟨0, 4, 5, 86⟩ (tableOf (hh_L_runs.drop 1)) (by rw [htab]; rfl) (hpass0 (by decide +kernel)) (by decide) (by decide) (ha _ mw1115) (va_Nw.use rfl (hst.cs cs_IllegalArgumentException)) h1 h2 h3 ?_
      refine lv_astore_n (lv' := [(1, .ref q9), (0, .ref (a o))]) hx hb dL_runs_5 rfl hl (by decide) rfl (fun ls hl => ?_)
      refine lv_iconst (v := (-1)) hx hb dL_runs_6 (by decide) ?_
      obtain rfl := Option.some.inj hF
      exact en_i hQ (Nat.le_of_ble_eq_true rfl) (Nat.le_of_ble_eq_true rfl) hx hb hr hlocks hP hD hS rfl dL_runs_7
    have hF := q_brn w1_0 hF
    by_cases w1_1 : X = "java/lang/UnsupportedOperationException"
    · have hF := q_brp w1_1 hF
      subst w1_1
      refine vx_catch (E := "java/lang/UnsupportedOperationException") (name := "java/lang/UnsupportedOperationException") hown (tableOf (hh_L_runs.take 1)) ⟨0, 4, 8, 284⟩ (tableOf (hh_L_runs.drop 2)) (by rw [htab]; rfl) (hpass2 (t1 := 86) (t2 := 86) (by decide +kernel) ⟨by decide, "java/lang/IllegalArgumentException", ha _ mw1115, hst.nc (q := ("java/lang/UnsupportedOperationException", "java/lang/IllegalArgumentException")) (List.mem_of_getElem? (i := 22) rfl)⟩ ⟨by decide, "java/lang/IllegalArgumentException", ha _ mw1115, hst.nc (q := ("java/lang/UnsupportedOperationException", "java/lang/IllegalArgumentException")) (List.mem_of_getElem? (i := 22) rfl)⟩) (by decide) (by decide) (ha _ mw1195) (va_Nw.use rfl (hst.cs cs_UnsupportedOperationException)) h1 h2 h3 ?_
      refine lv_astore_n (lv' := [(1, .ref q9), (0, .ref (a o))]) hx hb dL_runs_8 rfl hl (by decide) rfl (fun ls hl => ?_)
      refine lv_bipush (v := (-2)) hx hb dL_runs_9 (by decide) ?_
      obtain rfl := Option.some.inj hF
      exact en_i hQ (Nat.le_of_ble_eq_true rfl) (Nat.le_of_ble_eq_true rfl) hx hb hr hlocks hP hD hS rfl dL_runs_11
    have hF := q_brn w1_1 hF
    exact absurd hF (by simp)
  have hF := q_sml er2 hF
  obtain rfl := Option.some.inj hF
  exact en_i hQ (Nat.le_of_ble_eq_true rfl) (Nat.le_of_ble_eq_true rfl) hx hb hr hlocks hP hD hS rfl dL_runs_4

/-! L_fails -/
theorem dL_fails_0 : decode cL_fails 0 = .ok (.aload_n 0, 1) := by decide +kernel
theorem dL_fails_1 : decode cL_fails 1 = .ok (.aload_n 1, 1) := by decide +kernel
theorem dL_fails_2 : decode cL_fails 2 = .ok (.invokestatic 159, 3) := by decide +kernel
theorem dL_fails_5 : decode cL_fails 5 = .ok (.aload_n 0, 1) := by decide +kernel
theorem dL_fails_6 : decode cL_fails 6 = .ok (.invokestatic 171, 3) := by decide +kernel
theorem dL_fails_9 : decode cL_fails 9 = .ok (.iconst (-1), 1) := by decide +kernel
theorem dL_fails_10 : decode cL_fails 10 = .ok (.if_icmp .ne 15, 3) := by decide +kernel
theorem dL_fails_13 : decode cL_fails 13 = .ok (.aload_n 0, 1) := by decide +kernel
theorem dL_fails_14 : decode cL_fails 14 = .ok (.invokevirtual 286, 3) := by decide +kernel
theorem dL_fails_17 : decode cL_fails 17 = .ok (.iload_n 2, 1) := by decide +kernel
theorem dL_fails_18 : decode cL_fails 18 = .ok (.if_icmp .ne 7, 3) := by decide +kernel
theorem dL_fails_21 : decode cL_fails 21 = .ok (.iconst 1, 1) := by decide +kernel
theorem dL_fails_22 : decode cL_fails 22 = .ok (.goto 4, 3) := by decide +kernel
theorem dL_fails_25 : decode cL_fails 25 = .ok (.iconst 0, 1) := by decide +kernel
theorem dL_fails_26 : decode cL_fails 26 = .ok (.ireturn, 1) := by decide +kernel
def f_L_fails (x_v : VB_t) (p2 : Nat) (p3 : Int32) : Option (Int32 × VB_t) :=
  q_bd (f_L_put x_v p2) (fun q1 =>
  q_bd (f_L_runs q1) (fun q2 =>
  q_br (q2.1 = (-1)) (
  q_bd (g_X10_errorPosition q2.2) (fun q3 =>
  q_sm q3 (fun _ => none) (fun r4 =>
  q_br (r4 = p3) (
  some (1, q2.2)) (
  some (0, q2.2))))) (
  some (0, q2.2))))
theorem hv_L_fails : yL_fails.cls = RL ∧ yL_fails.cls ≠ "java/lang/invoke/MethodHandle" ∧ yL_fails.cls ≠ "java/lang/invoke/VarHandle" ∧ (parseMethodDescriptor yL_fails.desc).map (fun d => d.parameters.length) = some 3 := by decide +kernel
abbrev rm_L_fails : Room := { frames := 9, cells := 66, slots := 396, locals := 199 }
set_option maxHeartbeats 4000000 in
set_option maxRecDepth 100000 in
theorem k_L_fails (l : Launch) (E : ET) (a : Nat → Nat) (o : Nat) (x : VB_t) (p2 : Nat) (p3 : Int32) (res : Int32 × VB_t) (hF : f_L_fails x p2 p3 = some res) (sz : Nat) (hlt : l.stackTraces = false) : CtI l yL_fails (mws yL_fails cL_fails 3 (some .boolean)) rm_L_fails 66 396 [.ref (a o), .ref (E.2 (200 + p2)), .int p3] E (bl_VB1 E a o x) res.1 (bl_VB1 E a o (res.2)) sz := by
  refine mk_M (by decide +kernel) (Nat.le_of_ble_eq_true rfl) ?_
  intro p e s m below meth c A args Q ls hAe hsz hQ hx hb hr hml hin ha hown hlocks hA hz hzs hst hP hD hS hl
  have hown : s.vm.findClass RL = some m.cls := hown
  rw [hAe] at hQ
  subst hsz
  have hP : va_P E.1 vwCl (List.flatten [w_VB1 E a o x]) s.heap := hP
  have hD : va_D A (List.flatten [w_VB1 E a o x]) := hD
  have hl : lv_has ls 3 [(0, .ref (a o)), (1, .ref (E.2 (200 + p2))), (2, .int p3)] := hl
  generalize hHe : s.heap = H at hP
  have hS : va_S A s.heap H [] := by rw [← hHe]; exact hS
  generalize ([] : List Loc) = locs at hS ⊢
  unfold f_L_fails at hF
  refine lv_aload_n hx hb dL_fails_0 rfl (lv_at hl 0 rfl) ?_
  refine lv_aload_n hx hb dL_fails_1 rfl (lv_at hl 1 rfl) ?_
  obtain ⟨q1, hq1, hF⟩ := q_bdi hF
  refine cl_v (Lc := [w_VB1 E a o x]) (Lc' := [w_VB1 E a o (q1)]) (L' := [w_VB1 E a o (q1)]) (va_runS (As := [.ref (a o), .ref (E.2 (200 + p2))]) (rest := []) ⟨hx, hb, hml, hown, ha⟩ (k_L_put l E a o x p2 q1 hq1 H.size hlt) (cwS 2 ha (gi_S (fun _ h => h) mw1089 mw1090 mw25 mw1091) rfl rfl rfl hv_L_put ⟨(Nat.le_of_ble_eq_true rfl), (Nat.le_of_ble_eq_true rfl)⟩) ⟨pre_blind, pre_at hP hD hS hz hzs hst [0] (by decide) rfl rfl⟩ rfl rfl hl.1 rfl (lv_room (Nat.le_of_ble_eq_true rfl)) dL_fails_2 ⟨(Nat.le_of_ble_eq_true rfl), (Nat.le_of_ble_eq_true rfl)⟩) hP hD hS hA [0] (by decide) rfl rfl rfl rfl (fun H locs hP hD hS => ?_)
  refine lv_aload_n hx hb dL_fails_5 rfl (lv_at hl 0 rfl) ?_
  obtain ⟨q2, hq2, hF⟩ := q_bdi hF
  refine cl_i (Lc := [w_VB1 E a o (q1)]) (Lc' := [w_VB1 E a o (q2.2)]) (L' := [w_VB1 E a o (q2.2)]) (rv := q2.1) (vx_runSW (As := [.ref (a o)]) (rest := []) ⟨hx, hb, hml, hown, ha⟩ (k_L_runs l E a o (q1) q2 hq2 H.size hlt) (vx_cwSW 1 ha (gi_TH (fun _ h => h) mw1192 mw1193 mw25 mw1194) rfl rfl rfl hv_L_runs.2 ⟨(Nat.le_of_ble_eq_true rfl), (Nat.le_of_ble_eq_true rfl)⟩) ⟨pre_blind, pre_at hP hD hS hz hzs hst [0] (by decide) rfl rfl⟩ rfl rfl hl.1 rfl (lv_room (Nat.le_of_ble_eq_true rfl)) dL_fails_6 ⟨(Nat.le_of_ble_eq_true rfl), (Nat.le_of_ble_eq_true rfl)⟩) hP hD hS hA [0] (by decide) rfl rfl rfl rfl (fun H locs hP hD hS => ?_)
  refine lv_iconst (v := (-1)) hx hb dL_fails_9 (by decide) ?_
  refine lv_icmp_ne (tgt := 25) hx hb dL_fails_10 (by decide) (fun c10 => ?_) (fun c10 => ?_)
  · have hF := q_brn c10 hF
    refine lv_iconst (v := 0) hx hb dL_fails_25 (by decide) ?_
    obtain rfl := Option.some.inj hF
    exact en_z hQ (Nat.le_of_ble_eq_true rfl) (Nat.le_of_ble_eq_true rfl) hx hb hr hlocks (by decide) hP hD hS rfl dL_fails_26
  · have hF := q_brp c10 hF
    refine lv_aload_n hx hb dL_fails_13 rfl (lv_at hl 0 rfl) ?_
    obtain ⟨q3, hq3, hF⟩ := q_bdi hF
    refine cx_i (ro := q3) (Lc := [w_VB1 E a o (q2.2)]) (Lc' := [w_VB1 E a o (q2.2)]) (L' := [w_VB1 E a o (q2.2)]) (vx_runV (As := []) (rest := []) ⟨hx, hb, hml, hown, ha⟩ (kg_X10_errorPosition l E a o (q2.2) q3 hq3 H.size hlt) (cwV 0 ha (gi_V (fun _ h => h) mw1199 mw1200 mw1201 mw26 mw1202) rfl rfl rfl hv_X10_errorPosition ⟨(Nat.le_of_ble_eq_true rfl), (Nat.le_of_ble_eq_true rfl)⟩) ⟨pre_blind, va_recv hst.k (fr_P hP [0] rfl) (ci := 11) (q0 := 0) rfl rfl, pre_at hP hD hS hz hzs hst [0] (by decide) rfl rfl⟩ rfl rfl hl.1 rfl (lv_room (Nat.le_of_ble_eq_true rfl)) dL_fails_14 ⟨(Nat.le_of_ble_eq_true rfl), (Nat.le_of_ble_eq_true rfl)⟩) hP hD hS hA [0] (by decide) rfl rfl rfl rfl (fun X ce q9 H locs eX h1 h2 h3 hP hD hS => ?_) (fun r4 H locs er4 hP hD hS => ?_)
    · have hF := q_smr eX hF
      exact absurd hF (by simp)
    have hF := q_sml er4 hF
    refine lv_iload_n hx hb dL_fails_17 rfl (lv_at hl 2 rfl) ?_
    refine lv_icmp_ne (tgt := 25) hx hb dL_fails_18 (by decide) (fun c18 => ?_) (fun c18 => ?_)
    · have hF := q_brn c18 hF
      refine lv_iconst (v := 0) hx hb dL_fails_25 (by decide) ?_
      obtain rfl := Option.some.inj hF
      exact en_z hQ (Nat.le_of_ble_eq_true rfl) (Nat.le_of_ble_eq_true rfl) hx hb hr hlocks (by decide) hP hD hS rfl dL_fails_26
    · have hF := q_brp c18 hF
      refine lv_iconst (v := 1) hx hb dL_fails_21 (by decide) ?_
      refine lv_goto (tgt := 26) hx hb dL_fails_22 (by decide) ?_
      obtain rfl := Option.some.inj hF
      exact en_z hQ (Nat.le_of_ble_eq_true rfl) (Nat.le_of_ble_eq_true rfl) hx hb hr hlocks (by decide) hP hD hS rfl dL_fails_26
