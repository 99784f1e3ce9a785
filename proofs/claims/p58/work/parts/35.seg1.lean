theorem dL_law_10 : decode cL_law 10 = .ok (.aload_n 1, 1) := by decide +kernel
theorem dL_law_11 : decode cL_law 11 = .ok (.invokevirtual 150, 3) := by decide +kernel
theorem dL_law_14 : decode cL_law 14 = .ok (.aload_n 1, 1) := by decide +kernel
theorem dL_law_15 : decode cL_law 15 = .ok (.invokestatic 153, 3) := by decide +kernel
theorem dL_law_18 : decode cL_law 18 = .ok (.istore_n 3, 1) := by decide +kernel
theorem dL_law_19 : decode cL_law 19 = .ok (.aload_n 1, 1) := by decide +kernel
theorem dL_law_20 : decode cL_law 20 = .ok (.ldc 157, 2) := by decide +kernel
theorem dL_law_22 : decode cL_law 22 = .ok (.invokestatic 159, 3) := by decide +kernel
theorem dL_law_25 : decode cL_law 25 = .ok (.aload_n 1, 1) := by decide +kernel
theorem dL_law_26 : decode cL_law 26 = .ok (.invokevirtual 163, 3) := by decide +kernel
theorem dL_law_29 : decode cL_law 29 = .ok (.iconst 4, 1) := by decide +kernel
theorem dL_law_30 : decode cL_law 30 = .ok (.if_icmp .ne 50, 3) := by decide +kernel
theorem dL_law_33 : decode cL_law 33 = .ok (.aload_n 2, 1) := by decide +kernel
theorem dL_law_34 : decode cL_law 34 = .ok (.bipush 7, 2) := by decide +kernel
theorem dL_law_36 : decode cL_law 36 = .ok (.iconst 1, 1) := by decide +kernel
theorem dL_law_37 : decode cL_law 37 = .ok (.invokevirtual 59, 3) := by decide +kernel
theorem dL_law_40 : decode cL_law 40 = .ok (.ifCond .lt 40, 3) := by decide +kernel
theorem dL_law_43 : decode cL_law 43 = .ok (.aload_n 2, 1) := by decide +kernel
theorem dL_law_44 : decode cL_law 44 = .ok (.bipush 9, 2) := by decide +kernel
theorem dL_law_46 : decode cL_law 46 = .ok (.invokevirtual 63, 3) := by decide +kernel
theorem dL_law_49 : decode cL_law 49 = .ok (.ifCond .lt 31, 3) := by decide +kernel
theorem dL_law_52 : decode cL_law 52 = .ok (.aload_n 2, 1) := by decide +kernel
theorem dL_law_53 : decode cL_law 53 = .ok (.iconst 2, 1) := by decide +kernel
theorem dL_law_54 : decode cL_law 54 = .ok (.iconst 3, 1) := by decide +kernel
theorem dL_law_55 : decode cL_law 55 = .ok (.invokevirtual 72, 3) := by decide +kernel
theorem dL_law_58 : decode cL_law 58 = .ok (.ifCond .lt 22, 3) := by decide +kernel
theorem dL_law_61 : decode cL_law 61 = .ok (.aload_n 2, 1) := by decide +kernel
theorem dL_law_62 : decode cL_law 62 = .ok (.iconst 1, 1) := by decide +kernel
theorem dL_law_63 : decode cL_law 63 = .ok (.invokevirtual 69, 3) := by decide +kernel
theorem dL_law_66 : decode cL_law 66 = .ok (.ifCond .lt 14, 3) := by decide +kernel
theorem dL_law_69 : decode cL_law 69 = .ok (.aload_n 1, 1) := by decide +kernel
theorem dL_law_70 : decode cL_law 70 = .ok (.invokestatic 153, 3) := by decide +kernel
theorem dL_law_73 : decode cL_law 73 = .ok (.aload_n 2, 1) := by decide +kernel
theorem dL_law_74 : decode cL_law 74 = .ok (.invokestatic 153, 3) := by decide +kernel
theorem dL_law_77 : decode cL_law 77 = .ok (.if_icmp .eq 5, 3) := by decide +kernel
theorem dL_law_82 : decode cL_law 82 = .ok (.aload_n 1, 1) := by decide +kernel
theorem dL_law_83 : decode cL_law 83 = .ok (.invokevirtual 166, 3) := by decide +kernel
theorem dL_law_86 : decode cL_law 86 = .ok (.ifCond .lt 47, 3) := by decide +kernel
theorem dL_law_89 : decode cL_law 89 = .ok (.aload_n 1, 1) := by decide +kernel
theorem dL_law_90 : decode cL_law 90 = .ok (.invokestatic 153, 3) := by decide +kernel
theorem dL_law_93 : decode cL_law 93 = .ok (.iload_n 3, 1) := by decide +kernel
theorem dL_law_94 : decode cL_law 94 = .ok (.if_icmp .ne 39, 3) := by decide +kernel
theorem dL_law_97 : decode cL_law 97 = .ok (.aload_n 2, 1) := by decide +kernel
theorem dL_law_98 : decode cL_law 98 = .ok (.invokevirtual 166, 3) := by decide +kernel
theorem dL_law_101 : decode cL_law 101 = .ok (.ifCond .lt 32, 3) := by decide +kernel
theorem dL_law_104 : decode cL_law 104 = .ok (.aload_n 2, 1) := by decide +kernel
theorem dL_law_105 : decode cL_law 105 = .ok (.invokevirtual 166, 3) := by decide +kernel
theorem dL_law_108 : decode cL_law 108 = .ok (.ifCond .lt 25, 3) := by decide +kernel
theorem dL_law_111 : decode cL_law 111 = .ok (.aload_n 2, 1) := by decide +kernel
theorem dL_law_112 : decode cL_law 112 = .ok (.invokevirtual 166, 3) := by decide +kernel
theorem dL_law_115 : decode cL_law 115 = .ok (.ifCond .lt 18, 3) := by decide +kernel
theorem dL_law_118 : decode cL_law 118 = .ok (.aload_n 2, 1) := by decide +kernel
theorem dL_law_119 : decode cL_law 119 = .ok (.invokevirtual 166, 3) := by decide +kernel
theorem dL_law_122 : decode cL_law 122 = .ok (.ifCond .lt 11, 3) := by decide +kernel
theorem dL_law_125 : decode cL_law 125 = .ok (.aload_n 2, 1) := by decide +kernel
theorem dL_law_126 : decode cL_law 126 = .ok (.invokestatic 153, 3) := by decide +kernel
theorem dL_law_129 : decode cL_law 129 = .ok (.iload_n 3, 1) := by decide +kernel
theorem dL_law_130 : decode cL_law 130 = .ok (.if_icmp .eq 5, 3) := by decide +kernel
def f_law1 (x_v : VB_t) (y_v : VB_t) : Option (VB_t × VB_t × Int32) :=
  q_bd (g_X10_save x_v) (fun q11 =>
  q_bd (f_L_state q11) (fun q12 =>
  q_bd (f_L_put q11 12) (fun q13 =>
  q_bd (g_X10_run q13) (fun q14 =>
  q_sm q14.1 (fun _ => none) (fun r15 =>
  q_br (r15 = 4) (
  q_bd (g_X10_setKey y_v 7 1) (fun q16 =>
  q_sm q16.1 (fun _ => none) (fun r17 =>
  q_br (r17 < 0) (
  none) (
  q_bd (g_X10_setTolerance q16.2 9) (fun q18 =>
  q_sm q18.1 (fun _ => none) (fun r19 =>
  q_br (r19 < 0) (
  none) (
  q_bd (g_X10_setEntry q18.2 2 3) (fun q20 =>
  q_sm q20.1 (fun _ => none) (fun r21 =>
  q_br (r21 < 0) (
  none) (
  q_bd (g_X10_clearMelody q20.2 1) (fun q22 =>
  q_sm q22.1 (fun _ => none) (fun r23 =>
  q_br (r23 < 0) (
  none) (
  q_bd (f_L_state q14.2) (fun q24 =>
  q_bd (f_L_state q22.2) (fun q25 =>
  q_br (q24 = q25) (
  q_bd (g_X10_undo q14.2) (fun q26 =>
  q_sm q26.1 (fun _ => none) (fun r27 =>
  q_br (r27 < 0) (
  none) (
  q_bd (f_L_state q26.2) (fun q28 =>
  q_br (q28 = q12) (
  q_bd (g_X10_undo q22.2) (fun q29 =>
  q_sm q29.1 (fun _ => none) (fun r30 =>
  q_br (r30 < 0) (
  none) (
  q_bd (g_X10_undo q29.2) (fun q31 =>
  q_sm q31.1 (fun _ => none) (fun r32 =>
  q_br (r32 < 0) (
  none) (
  q_bd (g_X10_undo q31.2) (fun q33 =>
  q_sm q33.1 (fun _ => none) (fun r34 =>
  q_br (r34 < 0) (
  none) (
  q_bd (g_X10_undo q33.2) (fun q35 =>
  q_sm q35.1 (fun _ => none) (fun r36 =>
  q_br (r36 < 0) (
  none) (
  q_bd (f_L_state q35.2) (fun q37 =>
  q_br (q37 = q12) (
  some (q26.2, q35.2, q12)) (
  none))))))))))))))) (
  none)))))) (
  none)))))))))))))))) (
  none))))))
set_option maxHeartbeats 40000000 in
set_option maxRecDepth 100000 in
theorem kl_law1 {p : Program} {e : Env} {s : State} {m : MethodId} {args : Array Value} {below : List Frame} {meth : Method} {c : Code} {Q : State → Prop} {A : Nat → Prop} (l : Launch) (hlt : l.stackTraces = false) (E : ET) (ax ay : Nat → Nat) (x y : VB_t) (hx : p.tables.exec = Jvm.exec) (hb : c.code = cL_law) (hml : c.maxLocals = 8) (hown : s.vm.findClass RL = some m.cls) (ha : ∀ w ∈ lw_all, w.before args s = true) (hA : ∀ q, s.heap.size ≤ q → A q) (hz : ∀ q, A q → E.2 0 ≤ q) (hzs : E.2 0 ≤ s.heap.size) (hst : ST E s) (res : VB_t × VB_t × Int32) (hF : f_law1 x y = some res) {H : Heap} {locs : List Loc} {ls : Array Slot} (hP : va_P E.1 vwCl (List.flatten [w_VB1 E ax 0 x, w_VB1 E ay 0 y]) H) (hD : va_D A (List.flatten [w_VB1 E ax 0 x, w_VB1 E ay 0 y])) (hS : va_S A s.heap H locs) (hl : lv_has ls 8 [(0, .ref (E.2 18)), (1, .ref (ax 0)), (2, .ref (ay 0))]) (hK : ∀ (H : Heap) (locs : List Loc) (ls : Array Slot), va_P E.1 vwCl (List.flatten [w_VB1 E ax 0 res.1, w_VB1 E ay 0 res.2.1]) H → va_D A (List.flatten [w_VB1 E ax 0 res.1, w_VB1 E ay 0 res.2.1]) → va_S A s.heap H locs → lv_has ls 8 [(0, .ref (E.2 18)), (1, .ref (ax 0)), (2, .ref (ay 0)), (3, .int res.2.2)] → W p l e room_1 s m args below meth c H locs 1952 13150 Q (F0 m 135 ls [])) : W p l e room_1 s m args below meth c H locs 758 5386 Q (F0 m 10 ls []) := by
  unfold f_law1 at hF
  refine lv_aload_n hx hb dL_law_10 rfl (lv_at hl 1 rfl) ?_
  obtain ⟨q11, hq11, hF⟩ := q_bdi hF
  refine cl_v (Lc := [w_VB1 E ax 0 x]) (Lc' := [w_VB1 E ax 0 (q11)]) (L' := [w_VB1 E ax 0 (q11), w_VB1 E ay 0 y]) (va_runV (As := []) (rest := []) ⟨hx, hb, hml, hown, ha⟩ (kg_X10_save l E ax 0 x q11 hq11 H.size) (cwV 0 ha (gi_V (fun _ h => h) mw1073 mw1074 mw1075 mw26 mw1076) rfl rfl rfl hv_X10_save ⟨(Nat.le_of_ble_eq_true rfl), (Nat.le_of_ble_eq_true rfl)⟩) ⟨pre_blind, va_recv hst.k (fr_P hP [0] rfl) (ci := 11) (q0 := 0) rfl rfl, pre_at hP hD hS hz hzs hst [0] (by decide) rfl rfl⟩ rfl rfl hl.1 rfl (lv_room (Nat.le_of_ble_eq_true rfl)) dL_law_11 ⟨(Nat.le_of_ble_eq_true rfl), (Nat.le_of_ble_eq_true rfl)⟩) hP hD hS hA [0] (by decide) rfl rfl rfl rfl (fun H locs hP hD hS => ?_)
  refine lv_aload_n hx hb dL_law_14 rfl (lv_at hl 1 rfl) ?_
  obtain ⟨q12, hq12, hF⟩ := q_bdi hF
  refine cl_i (Lc := [w_VB1 E ax 0 (q11)]) (Lc' := [w_VB1 E ax 0 (q11)]) (L' := [w_VB1 E ax 0 (q11), w_VB1 E ay 0 y]) (rv := q12) (va_runS (As := [.ref (ax 0)]) (rest := []) ⟨hx, hb, hml, hown, ha⟩ (k_L_state l E ax 0 (q11) q12 hq12 H.size hlt) (cwS 1 ha (gi_S (fun _ h => h) mw1152 mw1153 mw25 mw1154) rfl rfl rfl hv_L_state ⟨(Nat.le_of_ble_eq_true rfl), (Nat.le_of_ble_eq_true rfl)⟩) ⟨pre_blind, pre_at hP hD hS hz hzs hst [0] (by decide) rfl rfl⟩ rfl rfl hl.1 rfl (lv_room (Nat.le_of_ble_eq_true rfl)) dL_law_15 ⟨(Nat.le_of_ble_eq_true rfl), (Nat.le_of_ble_eq_true rfl)⟩) hP hD hS hA [0] (by decide) rfl rfl rfl rfl (fun H locs hP hD hS => ?_)
  refine lv_istore_n (lv' := [(3, .int q12), (0, .ref (E.2 18)), (1, .ref (ax 0)), (2, .ref (ay 0))]) hx hb dL_law_18 rfl hl (by decide) rfl (fun ls hl => ?_)
  refine lv_aload_n hx hb dL_law_19 rfl (lv_at hl 2 rfl) ?_
  refine va_ldcS (q := E.2 (200 + 12)) hx hb hown (hst.sr (sL_157 E)) dL_law_20 ?_
  obtain ⟨q13, hq13, hF⟩ := q_bdi hF
  refine cl_v (Lc := [w_VB1 E ax 0 (q11)]) (Lc' := [w_VB1 E ax 0 (q13)]) (L' := [w_VB1 E ax 0 (q13), w_VB1 E ay 0 y]) (va_runS (As := [.ref (ax 0), .ref (E.2 (200 + 12))]) (rest := []) ⟨hx, hb, hml, hown, ha⟩ (k_L_put l E ax 0 (q11) 12 q13 hq13 H.size hlt) (cwS 2 ha (gi_S (fun _ h => h) mw1089 mw1090 mw25 mw1091) rfl rfl rfl hv_L_put ⟨(Nat.le_of_ble_eq_true rfl), (Nat.le_of_ble_eq_true rfl)⟩) ⟨pre_blind, pre_at hP hD hS hz hzs hst [0] (by decide) rfl rfl⟩ rfl rfl hl.1 rfl (lv_room (Nat.le_of_ble_eq_true rfl)) dL_law_22 ⟨(Nat.le_of_ble_eq_true rfl), (Nat.le_of_ble_eq_true rfl)⟩) hP hD hS hA [0] (by decide) rfl rfl rfl rfl (fun H locs hP hD hS => ?_)
  refine lv_aload_n hx hb dL_law_25 rfl (lv_at hl 2 rfl) ?_
  obtain ⟨q14, hq14, hF⟩ := q_bdi hF
  refine cx_i (ro := q14.1) (Lc := [w_VB1 E ax 0 (q13)]) (Lc' := [w_VB1 E ax 0 (q14.2)]) (L' := [w_VB1 E ax 0 (q14.2), w_VB1 E ay 0 y]) (vx_runV (As := []) (rest := []) ⟨hx, hb, hml, hown, ha⟩ (kg_X10_run l E ax 0 (q13) q14 hq14 H.size hlt) (cwV 0 ha (gi_V (fun _ h => h) mw937 mw938 mw939 mw26 mw940) rfl rfl rfl hv_X10_run ⟨(Nat.le_of_ble_eq_true rfl), (Nat.le_of_ble_eq_true rfl)⟩) ⟨pre_blind, va_recv hst.k (fr_P hP [0] rfl) (ci := 11) (q0 := 0) rfl rfl, pre_at hP hD hS hz hzs hst [0] (by decide) rfl rfl⟩ rfl rfl hl.1 rfl (lv_room (Nat.le_of_ble_eq_true rfl)) dL_law_26 ⟨(Nat.le_of_ble_eq_true rfl), (Nat.le_of_ble_eq_true rfl)⟩) hP hD hS hA [0] (by decide) rfl rfl rfl rfl (fun X ce q9 H locs eX h1 h2 h3 hP hD hS => ?_) (fun r15 H locs er15 hP hD hS => ?_)
  · have hF := q_smr eX hF
    exact absurd hF (by simp)
  have hF := q_sml er15 hF
  refine lv_iconst (v := 4) hx hb dL_law_29 (by decide) ?_
  refine lv_icmp_ne (tgt := 80) hx hb dL_law_30 (by decide) (fun c30 => ?_) (fun c30 => ?_)
  · have hF := q_brn c30 hF
    exact absurd hF (by simp)
  · have hF := q_brp c30 hF
    refine lv_aload_n hx hb dL_law_33 rfl (lv_at hl 3 rfl) ?_
    refine lv_bipush (v := 7) hx hb dL_law_34 (by decide) ?_
    refine lv_iconst (v := 1) hx hb dL_law_36 (by decide) ?_
    obtain ⟨q16, hq16, hF⟩ := q_bdi hF
    refine cx_i (ro := q16.1) (Lc := [w_VB1 E ay 0 y]) (Lc' := [w_VB1 E ay 0 (q16.2)]) (L' := [w_VB1 E ax 0 (q14.2), w_VB1 E ay 0 (q16.2)]) (vx_runV (As := [.int 7, .int 1]) (rest := []) ⟨hx, hb, hml, hown, ha⟩ (kg_X10_setKey l E ay 0 y 7 1 q16 hq16 H.size hlt) (cwV 2 ha (gi_V (fun _ h => h) mw613 mw614 mw615 mw26 mw616) rfl rfl rfl hv_X10_setKey ⟨(Nat.le_of_ble_eq_true rfl), (Nat.le_of_ble_eq_true rfl)⟩) ⟨pre_blind, va_recv hst.k (fr_P hP [1] rfl) (ci := 11) (q0 := 0) rfl rfl, pre_at hP hD hS hz hzs hst [1] (by decide) rfl rfl⟩ rfl rfl hl.1 rfl (lv_room (Nat.le_of_ble_eq_true rfl)) dL_law_37 ⟨(Nat.le_of_ble_eq_true rfl), (Nat.le_of_ble_eq_true rfl)⟩) hP hD hS hA [1] (by decide) rfl rfl rfl rfl (fun X ce q9 H locs eX h1 h2 h3 hP hD hS => ?_) (fun r17 H locs er17 hP hD hS => ?_)
    · have hF := q_smr eX hF
      exact absurd hF (by simp)
    have hF := q_sml er17 hF
    refine lv_if_lt (tgt := 80) hx hb dL_law_40 (by decide) (fun c40 => ?_) (fun c40 => ?_)
    · have hF := q_brp c40 hF
      exact absurd hF (by simp)
    · have hF := q_brn c40 hF
      refine lv_aload_n hx hb dL_law_43 rfl (lv_at hl 3 rfl) ?_
      refine lv_bipush (v := 9) hx hb dL_law_44 (by decide) ?_
      obtain ⟨q18, hq18, hF⟩ := q_bdi hF
      refine cx_i (ro := q18.1) (Lc := [w_VB1 E ay 0 (q16.2)]) (Lc' := [w_VB1 E ay 0 (q18.2)]) (L' := [w_VB1 E ax 0 (q14.2), w_VB1 E ay 0 (q18.2)]) (vx_runV (As := [.int 9]) (rest := []) ⟨hx, hb, hml, hown, ha⟩ (kg_X10_setTolerance l E ay 0 (q16.2) 9 q18 hq18 H.size hlt) (cwV 1 ha (gi_V (fun _ h => h) mw619 mw620 mw621 mw26 mw622) rfl rfl rfl hv_X10_setTolerance ⟨(Nat.le_of_ble_eq_true rfl), (Nat.le_of_ble_eq_true rfl)⟩) ⟨pre_blind, va_recv hst.k (fr_P hP [1] rfl) (ci := 11) (q0 := 0) rfl rfl, pre_at hP hD hS hz hzs hst [1] (by decide) rfl rfl⟩ rfl rfl hl.1 rfl (lv_room (Nat.le_of_ble_eq_true rfl)) dL_law_46 ⟨(Nat.le_of_ble_eq_true rfl), (Nat.le_of_ble_eq_true rfl)⟩) hP hD hS hA [1] (by decide) rfl rfl rfl rfl (fun X ce q9 H locs eX h1 h2 h3 hP hD hS => ?_) (fun r19 H locs er19 hP hD hS => ?_)
      · have hF := q_smr eX hF
        exact absurd hF (by simp)
      have hF := q_sml er19 hF
      refine lv_if_lt (tgt := 80) hx hb dL_law_49 (by decide) (fun c49 => ?_) (fun c49 => ?_)
      · have hF := q_brp c49 hF
        exact absurd hF (by simp)
      · have hF := q_brn c49 hF
        refine lv_aload_n hx hb dL_law_52 rfl (lv_at hl 3 rfl) ?_
        refine lv_iconst (v := 2) hx hb dL_law_53 (by decide) ?_
        refine lv_iconst (v := 3) hx hb dL_law_54 (by decide) ?_
        obtain ⟨q20, hq20, hF⟩ := q_bdi hF
        refine cx_i (ro := q20.1) (Lc := [w_VB1 E ay 0 (q18.2)]) (Lc' := [w_VB1 E ay 0 (q20.2)]) (L' := [w_VB1 E ax 0 (q14.2), w_VB1 E ay 0 (q20.2)]) (vx_runV (As := [.int 2, .int 3]) (rest := []) ⟨hx, hb, hml, hown, ha⟩ (kg_X10_setEntry l E ay 0 (q18.2) 2 3 q20 hq20 H.size hlt) (cwV 2 ha (gi_V (fun _ h => h) mw637 mw638 mw639 mw26 mw640) rfl rfl rfl hv_X10_setEntry ⟨(Nat.le_of_ble_eq_true rfl), (Nat.le_of_ble_eq_true rfl)⟩) ⟨pre_blind, va_recv hst.k (fr_P hP [1] rfl) (ci := 11) (q0 := 0) rfl rfl, pre_at hP hD hS hz hzs hst [1] (by decide) rfl rfl⟩ rfl rfl hl.1 rfl (lv_room (Nat.le_of_ble_eq_true rfl)) dL_law_55 ⟨(Nat.le_of_ble_eq_true rfl), (Nat.le_of_ble_eq_true rfl)⟩) hP hD hS hA [1] (by decide) rfl rfl rfl rfl (fun X ce q9 H locs eX h1 h2 h3 hP hD hS => ?_) (fun r21 H locs er21 hP hD hS => ?_)
        · have hF := q_smr eX hF
          exact absurd hF (by simp)
        have hF := q_sml er21 hF
        refine lv_if_lt (tgt := 80) hx hb dL_law_58 (by decide) (fun c58 => ?_) (fun c58 => ?_)
        · have hF := q_brp c58 hF
          exact absurd hF (by simp)
        · have hF := q_brn c58 hF
          refine lv_aload_n hx hb dL_law_61 rfl (lv_at hl 3 rfl) ?_
          refine lv_iconst (v := 1) hx hb dL_law_62 (by decide) ?_
          obtain ⟨q22, hq22, hF⟩ := q_bdi hF
          refine cx_i (ro := q22.1) (Lc := [w_VB1 E ay 0 (q20.2)]) (Lc' := [w_VB1 E ay 0 (q22.2)]) (L' := [w_VB1 E ax 0 (q14.2), w_VB1 E ay 0 (q22.2)]) (vx_runV (As := [.int 1]) (rest := []) ⟨hx, hb, hml, hown, ha⟩ (kg_X10_clearMelody l E ay 0 (q20.2) 1 q22 hq22 H.size hlt) (cwV 1 ha (gi_V (fun _ h => h) mw631 mw632 mw633 mw26 mw634) rfl rfl rfl hv_X10_clearMelody ⟨(Nat.le_of_ble_eq_true rfl), (Nat.le_of_ble_eq_true rfl)⟩) ⟨pre_blind, va_recv hst.k (fr_P hP [1] rfl) (ci := 11) (q0 := 0) rfl rfl, pre_at hP hD hS hz hzs hst [1] (by decide) rfl rfl⟩ rfl rfl hl.1 rfl (lv_room (Nat.le_of_ble_eq_true rfl)) dL_law_63 ⟨(Nat.le_of_ble_eq_true rfl), (Nat.le_of_ble_eq_true rfl)⟩) hP hD hS hA [1] (by decide) rfl rfl rfl rfl (fun X ce q9 H locs eX h1 h2 h3 hP hD hS => ?_) (fun r23 H locs er23 hP hD hS => ?_)
          · have hF := q_smr eX hF
            exact absurd hF (by simp)
          have hF := q_sml er23 hF
          refine lv_if_lt (tgt := 80) hx hb dL_law_66 (by decide) (fun c66 => ?_) (fun c66 => ?_)
          · have hF := q_brp c66 hF
            exact absurd hF (by simp)
          · have hF := q_brn c66 hF
            refine lv_aload_n hx hb dL_law_69 rfl (lv_at hl 2 rfl) ?_
            obtain ⟨q24, hq24, hF⟩ := q_bdi hF
            refine cl_i (Lc := [w_VB1 E ax 0 (q14.2)]) (Lc' := [w_VB1 E ax 0 (q14.2)]) (L' := [w_VB1 E ax 0 (q14.2), w_VB1 E ay 0 (q22.2)]) (rv := q24) (va_runS (As := [.ref (ax 0)]) (rest := []) ⟨hx, hb, hml, hown, ha⟩ (k_L_state l E ax 0 (q14.2) q24 hq24 H.size hlt) (cwS 1 ha (gi_S (fun _ h => h) mw1152 mw1153 mw25 mw1154) rfl rfl rfl hv_L_state ⟨(Nat.le_of_ble_eq_true rfl), (Nat.le_of_ble_eq_true rfl)⟩) ⟨pre_blind, pre_at hP hD hS hz hzs hst [0] (by decide) rfl rfl⟩ rfl rfl hl.1 rfl (lv_room (Nat.le_of_ble_eq_true rfl)) dL_law_70 ⟨(Nat.le_of_ble_eq_true rfl), (Nat.le_of_ble_eq_true rfl)⟩) hP hD hS hA [0] (by decide) rfl rfl rfl rfl (fun H locs hP hD hS => ?_)
            refine lv_aload_n hx hb dL_law_73 rfl (lv_at hl 3 rfl) ?_
            obtain ⟨q25, hq25, hF⟩ := q_bdi hF
            refine cl_i (Lc := [w_VB1 E ay 0 (q22.2)]) (Lc' := [w_VB1 E ay 0 (q22.2)]) (L' := [w_VB1 E ax 0 (q14.2), w_VB1 E ay 0 (q22.2)]) (rv := q25) (va_runS (As := [.ref (ay 0)]) (rest := [.int q24]) ⟨hx, hb, hml, hown, ha⟩ (k_L_state l E ay 0 (q22.2) q25 hq25 H.size hlt) (cwS 1 ha (gi_S (fun _ h => h) mw1152 mw1153 mw25 mw1154) rfl rfl rfl hv_L_state ⟨(Nat.le_of_ble_eq_true rfl), (Nat.le_of_ble_eq_true rfl)⟩) ⟨pre_blind, pre_at hP hD hS hz hzs hst [1] (by decide) rfl rfl⟩ rfl rfl hl.1 rfl (lv_room (Nat.le_of_ble_eq_true rfl)) dL_law_74 ⟨(Nat.le_of_ble_eq_true rfl), (Nat.le_of_ble_eq_true rfl)⟩) hP hD hS hA [1] (by decide) rfl rfl rfl rfl (fun H locs hP hD hS => ?_)
            refine lv_icmp_eq (tgt := 82) hx hb dL_law_77 (by decide) (fun c77 => ?_) (fun c77 => ?_)
            · have hF := q_brp c77 hF
              refine lv_aload_n hx hb dL_law_82 rfl (lv_at hl 2 rfl) ?_
              obtain ⟨q26, hq26, hF⟩ := q_bdi hF
              refine cx_i (ro := q26.1) (Lc := [w_VB1 E ax 0 (q14.2)]) (Lc' := [w_VB1 E ax 0 (q26.2)]) (L' := [w_VB1 E ax 0 (q26.2), w_VB1 E ay 0 (q22.2)]) (vx_runV (As := []) (rest := []) ⟨hx, hb, hml, hown, ha⟩ (kg_X10_undo l E ax 0 (q14.2) q26 hq26 H.size hlt) (cwV 0 ha (gi_V (fun _ h => h) mw1064 mw1065 mw1066 mw26 mw1067) rfl rfl rfl hv_X10_undo ⟨(Nat.le_of_ble_eq_true rfl), (Nat.le_of_ble_eq_true rfl)⟩) ⟨pre_blind, va_recv hst.k (fr_P hP [0] rfl) (ci := 11) (q0 := 0) rfl rfl, pre_at hP hD hS hz hzs hst [0] (by decide) rfl rfl⟩ rfl rfl hl.1 rfl (lv_room (Nat.le_of_ble_eq_true rfl)) dL_law_83 ⟨(Nat.le_of_ble_eq_true rfl), (Nat.le_of_ble_eq_true rfl)⟩) hP hD hS hA [0] (by decide) rfl rfl rfl rfl (fun X ce q9 H locs eX h1 h2 h3 hP hD hS => ?_) (fun r27 H locs er27 hP hD hS => ?_)
              · have hF := q_smr eX hF
                exact absurd hF (by simp)
              have hF := q_sml er27 hF
              refine lv_if_lt (tgt := 133) hx hb dL_law_86 (by decide) (fun c86 => ?_) (fun c86 => ?_)
              · have hF := q_brp c86 hF
                exact absurd hF (by simp)
              · have hF := q_brn c86 hF
                refine lv_aload_n hx hb dL_law_89 rfl (lv_at hl 2 rfl) ?_
                obtain ⟨q28, hq28, hF⟩ := q_bdi hF
                refine cl_i (Lc := [w_VB1 E ax 0 (q26.2)]) (Lc' := [w_VB1 E ax 0 (q26.2)]) (L' := [w_VB1 E ax 0 (q26.2), w_VB1 E ay 0 (q22.2)]) (rv := q28) (va_runS (As := [.ref (ax 0)]) (rest := []) ⟨hx, hb, hml, hown, ha⟩ (k_L_state l E ax 0 (q26.2) q28 hq28 H.size hlt) (cwS 1 ha (gi_S (fun _ h => h) mw1152 mw1153 mw25 mw1154) rfl rfl rfl hv_L_state ⟨(Nat.le_of_ble_eq_true rfl), (Nat.le_of_ble_eq_true rfl)⟩) ⟨pre_blind, pre_at hP hD hS hz hzs hst [0] (by decide) rfl rfl⟩ rfl rfl hl.1 rfl (lv_room (Nat.le_of_ble_eq_true rfl)) dL_law_90 ⟨(Nat.le_of_ble_eq_true rfl), (Nat.le_of_ble_eq_true rfl)⟩) hP hD hS hA [0] (by decide) rfl rfl rfl rfl (fun H locs hP hD hS => ?_)
                refine lv_iload_n hx hb dL_law_93 rfl (lv_at hl 0 rfl) ?_
                refine lv_icmp_ne (tgt := 133) hx hb dL_law_94 (by decide) (fun c94 => ?_) (fun c94 => ?_)
                · have hF := q_brn c94 hF
                  exact absurd hF (by simp)
                · have hF := q_brp c94 hF
                  refine lv_aload_n hx hb dL_law_97 rfl (lv_at hl 3 rfl) ?_
                  obtain ⟨q29, hq29, hF⟩ := q_bdi hF
                  refine cx_i (ro := q29.1) (Lc := [w_VB1 E ay 0 (q22.2)]) (Lc' := [w_VB1 E ay 0 (q29.2)]) (L' := [w_VB1 E ax 0 (q26.2), w_VB1 E ay 0 (q29.2)]) (vx_runV (As := []) (rest := []) ⟨hx, hb, hml, hown, ha⟩ (kg_X10_undo l E ay 0 (q22.2) q29 hq29 H.size hlt) (cwV 0 ha (gi_V (fun _ h => h) mw1064 mw1065 mw1066 mw26 mw1067) rfl rfl rfl hv_X10_undo ⟨(Nat.le_of_ble_eq_true rfl), (Nat.le_of_ble_eq_true rfl)⟩) ⟨pre_blind, va_recv hst.k (fr_P hP [1] rfl) (ci := 11) (q0 := 0) rfl rfl, pre_at hP hD hS hz hzs hst [1] (by decide) rfl rfl⟩ rfl rfl hl.1 rfl (lv_room (Nat.le_of_ble_eq_true rfl)) dL_law_98 ⟨(Nat.le_of_ble_eq_true rfl), (Nat.le_of_ble_eq_true rfl)⟩) hP hD hS hA [1] (by decide) rfl rfl rfl rfl (fun X ce q9 H locs eX h1 h2 h3 hP hD hS => ?_) (fun r30 H locs er30 hP hD hS => ?_)
                  · have hF := q_smr eX hF
                    exact absurd hF (by simp)
                  have hF := q_sml er30 hF
                  refine lv_if_lt (tgt := 133) hx hb dL_law_101 (by decide) (fun c101 => ?_) (fun c101 => ?_)
                  · have hF := q_brp c101 hF
                    exact absurd hF (by simp)
                  · have hF := q_brn c101 hF
                    refine lv_aload_n hx hb dL_law_104 rfl (lv_at hl 3 rfl) ?_
                    obtain ⟨q31, hq31, hF⟩ := q_bdi hF
                    refine cx_i (ro := q31.1) (Lc := [w_VB1 E ay 0 (q29.2)]) (Lc' := [w_VB1 E ay 0 (q31.2)]) (L' := [w_VB1 E ax 0 (q26.2), w_VB1 E ay 0 (q31.2)]) (vx_runV (As := []) (rest := []) ⟨hx, hb, hml, hown, ha⟩ (kg_X10_undo l E ay 0 (q29.2) q31 hq31 H.size hlt) (cwV 0 ha (gi_V (fun _ h => h) mw1064 mw1065 mw1066 mw26 mw1067) rfl rfl rfl hv_X10_undo ⟨(Nat.le_of_ble_eq_true rfl), (Nat.le_of_ble_eq_true rfl)⟩) ⟨pre_blind, va_recv hst.k (fr_P hP [1] rfl) (ci := 11) (q0 := 0) rfl rfl, pre_at hP hD hS hz hzs hst [1] (by decide) rfl rfl⟩ rfl rfl hl.1 rfl (lv_room (Nat.le_of_ble_eq_true rfl)) dL_law_105 ⟨(Nat.le_of_ble_eq_true rfl), (Nat.le_of_ble_eq_true rfl)⟩) hP hD hS hA [1] (by decide) rfl rfl rfl rfl (fun X ce q9 H locs eX h1 h2 h3 hP hD hS => ?_) (fun r32 H locs er32 hP hD hS => ?_)
                    · have hF := q_smr eX hF
                      exact absurd hF (by simp)
                    have hF := q_sml er32 hF
                    refine lv_if_lt (tgt := 133) hx hb dL_law_108 (by decide) (fun c108 => ?_) (fun c108 => ?_)
                    · have hF := q_brp c108 hF
                      exact absurd hF (by simp)
                    · have hF := q_brn c108 hF
                      refine lv_aload_n hx hb dL_law_111 rfl (lv_at hl 3 rfl) ?_
                      obtain ⟨q33, hq33, hF⟩ := q_bdi hF
                      refine cx_i (ro := q33.1) (Lc := [w_VB1 E ay 0 (q31.2)]) (Lc' := [w_VB1 E ay 0 (q33.2)]) (L' := [w_VB1 E ax 0 (q26.2), w_VB1 E ay 0 (q33.2)]) (vx_runV (As := []) (rest := []) ⟨hx, hb, hml, hown, ha⟩ (kg_X10_undo l E ay 0 (q31.2) q33 hq33 H.size hlt) (cwV 0 ha (gi_V (fun _ h => h) mw1064 mw1065 mw1066 mw26 mw1067) rfl rfl rfl hv_X10_undo ⟨(Nat.le_of_ble_eq_true rfl), (Nat.le_of_ble_eq_true rfl)⟩) ⟨pre_blind, va_recv hst.k (fr_P hP [1] rfl) (ci := 11) (q0 := 0) rfl rfl, pre_at hP hD hS hz hzs hst [1] (by decide) rfl rfl⟩ rfl rfl hl.1 rfl (lv_room (Nat.le_of_ble_eq_true rfl)) dL_law_112 ⟨(Nat.le_of_ble_eq_true rfl), (Nat.le_of_ble_eq_true rfl)⟩) hP hD hS hA [1] (by decide) rfl rfl rfl rfl (fun X ce q9 H locs eX h1 h2 h3 hP hD hS => ?_) (fun r34 H locs er34 hP hD hS => ?_)
                      · have hF := q_smr eX hF
                        exact absurd hF (by simp)
                      have hF := q_sml er34 hF
                      refine lv_if_lt (tgt := 133) hx hb dL_law_115 (by decide) (fun c115 => ?_) (fun c115 => ?_)
                      · have hF := q_brp c115 hF
                        exact absurd hF (by simp)
                      · have hF := q_brn c115 hF
                        refine lv_aload_n hx hb dL_law_118 rfl (lv_at hl 3 rfl) ?_
                        obtain ⟨q35, hq35, hF⟩ := q_bdi hF
                        refine cx_i (ro := q35.1) (Lc := [w_VB1 E ay 0 (q33.2)]) (Lc' := [w_VB1 E ay 0 (q35.2)]) (L' := [w_VB1 E ax 0 (q26.2), w_VB1 E ay 0 (q35.2)]) (vx_runV (As := []) (rest := []) ⟨hx, hb, hml, hown, ha⟩ (kg_X10_undo l E ay 0 (q33.2) q35 hq35 H.size hlt) (cwV 0 ha (gi_V (fun _ h => h) mw1064 mw1065 mw1066 mw26 mw1067) rfl rfl rfl hv_X10_undo ⟨(Nat.le_of_ble_eq_true rfl), (Nat.le_of_ble_eq_true rfl)⟩) ⟨pre_blind, va_recv hst.k (fr_P hP [1] rfl) (ci := 11) (q0 := 0) rfl rfl, pre_at hP hD hS hz hzs hst [1] (by decide) rfl rfl⟩ rfl rfl hl.1 rfl (lv_room (Nat.le_of_ble_eq_true rfl)) dL_law_119 ⟨(Nat.le_of_ble_eq_true rfl), (Nat.le_of_ble_eq_true rfl)⟩) hP hD hS hA [1] (by decide) rfl rfl rfl rfl (fun X ce q9 H locs eX h1 h2 h3 hP hD hS => ?_) (fun r36 H locs er36 hP hD hS => ?_)
                        · have hF := q_smr eX hF
                          exact absurd hF (by simp)
                        have hF := q_sml er36 hF
                        refine lv_if_lt (tgt := 133) hx hb dL_law_122 (by decide) (fun c122 => ?_) (fun c122 => ?_)
                        · have hF := q_brp c122 hF
                          exact absurd hF (by simp)
                        · have hF := q_brn c122 hF
                          refine lv_aload_n hx hb dL_law_125 rfl (lv_at hl 3 rfl) ?_
                          obtain ⟨q37, hq37, hF⟩ := q_bdi hF
                          refine cl_i (Lc := [w_VB1 E ay 0 (q35.2)]) (Lc' := [w_VB1 E ay 0 (q35.2)]) (L' := [w_VB1 E ax 0 (q26.2), w_VB1 E ay 0 (q35.2)]) (rv := q37) (va_runS (As := [.ref (ay 0)]) (rest := []) ⟨hx, hb, hml, hown, ha⟩ (k_L_state l E ay 0 (q35.2) q37 hq37 H.size hlt) (cwS 1 ha (gi_S (fun _ h => h) mw1152 mw1153 mw25 mw1154) rfl rfl rfl hv_L_state ⟨(Nat.le_of_ble_eq_true rfl), (Nat.le_of_ble_eq_true rfl)⟩) ⟨pre_blind, pre_at hP hD hS hz hzs hst [1] (by decide) rfl rfl⟩ rfl rfl hl.1 rfl (lv_room (Nat.le_of_ble_eq_true rfl)) dL_law_126 ⟨(Nat.le_of_ble_eq_true rfl), (Nat.le_of_ble_eq_true rfl)⟩) hP hD hS hA [1] (by decide) rfl rfl rfl rfl (fun H locs hP hD hS => ?_)
                          refine lv_iload_n hx hb dL_law_129 rfl (lv_at hl 0 rfl) ?_
                          refine lv_icmp_eq (tgt := 135) hx hb dL_law_130 (by decide) (fun c130 => ?_) (fun c130 => ?_)
                          · have hF := q_brp c130 hF
                            obtain rfl := Option.some.inj hF
                            exact hK H locs ls hP hD hS (lv_sub hl [1, 2, 3, 0] rfl)
                          · have hF := q_brn c130 hF
                            exact absurd hF (by simp)
            · have hF := q_brn c77 hF
              exact absurd hF (by simp)
