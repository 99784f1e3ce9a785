theorem dL_law_1000 : decode cL_law 1000 = .ok (.aload 7, 2) := by decide +kernel
theorem dL_law_1002 : decode cL_law 1002 = .ok (.iconst 0, 1) := by decide +kernel
theorem dL_law_1003 : decode cL_law 1003 = .ok (.invokevirtual 233, 3) := by decide +kernel
theorem dL_law_1006 : decode cL_law 1006 = .ok (.ifCond .eq 25, 3) := by decide +kernel
theorem dL_law_1009 : decode cL_law 1009 = .ok (.aload 7, 2) := by decide +kernel
theorem dL_law_1011 : decode cL_law 1011 = .ok (.iconst 2, 1) := by decide +kernel
theorem dL_law_1012 : decode cL_law 1012 = .ok (.iconst 0, 1) := by decide +kernel
theorem dL_law_1013 : decode cL_law 1013 = .ok (.invokevirtual 59, 3) := by decide +kernel
theorem dL_law_1016 : decode cL_law 1016 = .ok (.iconst 2, 1) := by decide +kernel
theorem dL_law_1017 : decode cL_law 1017 = .ok (.if_icmp .ne 14, 3) := by decide +kernel
theorem dL_law_1020 : decode cL_law 1020 = .ok (.aload 7, 2) := by decide +kernel
theorem dL_law_1022 : decode cL_law 1022 = .ok (.iconst 0, 1) := by decide +kernel
theorem dL_law_1023 : decode cL_law 1023 = .ok (.invokevirtual 235, 3) := by decide +kernel
theorem dL_law_1026 : decode cL_law 1026 = .ok (.bipush (-89), 2) := by decide +kernel
theorem dL_law_1028 : decode cL_law 1028 = .ok (.if_icmp .eq 5, 3) := by decide +kernel
theorem dL_law_1033 : decode cL_law 1033 = .ok (.aload 7, 2) := by decide +kernel
theorem dL_law_1035 : decode cL_law 1035 = .ok (.iconst 1, 1) := by decide +kernel
theorem dL_law_1036 : decode cL_law 1036 = .ok (.invokevirtual 49, 3) := by decide +kernel
theorem dL_law_1039 : decode cL_law 1039 = .ok (.iconst 2, 1) := by decide +kernel
theorem dL_law_1040 : decode cL_law 1040 = .ok (.if_icmp .ne 72, 3) := by decide +kernel
theorem dL_law_1043 : decode cL_law 1043 = .ok (.aload 7, 2) := by decide +kernel
theorem dL_law_1045 : decode cL_law 1045 = .ok (.iconst 0, 1) := by decide +kernel
theorem dL_law_1046 : decode cL_law 1046 = .ok (.invokevirtual 90, 3) := by decide +kernel
theorem dL_law_1049 : decode cL_law 1049 = .ok (.iconst 1, 1) := by decide +kernel
theorem dL_law_1050 : decode cL_law 1050 = .ok (.if_icmp .ne 62, 3) := by decide +kernel
theorem dL_law_1053 : decode cL_law 1053 = .ok (.aload 7, 2) := by decide +kernel
theorem dL_law_1055 : decode cL_law 1055 = .ok (.iconst 1, 1) := by decide +kernel
theorem dL_law_1056 : decode cL_law 1056 = .ok (.invokevirtual 90, 3) := by decide +kernel
theorem dL_law_1059 : decode cL_law 1059 = .ok (.iconst 1, 1) := by decide +kernel
theorem dL_law_1060 : decode cL_law 1060 = .ok (.if_icmp .ne 52, 3) := by decide +kernel
theorem dL_law_1063 : decode cL_law 1063 = .ok (.aload 7, 2) := by decide +kernel
theorem dL_law_1065 : decode cL_law 1065 = .ok (.iconst 1, 1) := by decide +kernel
theorem dL_law_1066 : decode cL_law 1066 = .ok (.iconst 0, 1) := by decide +kernel
theorem dL_law_1067 : decode cL_law 1067 = .ok (.invokevirtual 93, 3) := by decide +kernel
theorem dL_law_1070 : decode cL_law 1070 = .ok (.iconst 1, 1) := by decide +kernel
theorem dL_law_1071 : decode cL_law 1071 = .ok (.if_icmp .ne 41, 3) := by decide +kernel
theorem dL_law_1074 : decode cL_law 1074 = .ok (.aload 7, 2) := by decide +kernel
theorem dL_law_1076 : decode cL_law 1076 = .ok (.iconst 1, 1) := by decide +kernel
theorem dL_law_1077 : decode cL_law 1077 = .ok (.invokevirtual 109, 3) := by decide +kernel
theorem dL_law_1080 : decode cL_law 1080 = .ok (.sipush 6700, 3) := by decide +kernel
theorem dL_law_1083 : decode cL_law 1083 = .ok (.if_icmp .ne 29, 3) := by decide +kernel
def f_law4_7 (z_v : VB_t) (v2 : Int32) (v3 : Int32) : Option (VB_t) :=
  q_bd (g_X10_isInKey z_v 0) (fun q11 =>
  q_sm q11 (fun _ => none) (fun r12 =>
  q_br (r12 = 0) (
  none) (
  q_bd (g_X10_setKey z_v 2 0) (fun q13 =>
  q_sm q13.1 (fun _ => none) (fun r14 =>
  q_br (r14 = 2) (
  q_bd (g_X10_centsToKey q13.2 0) (fun q15 =>
  q_sm q15 (fun _ => none) (fun r16 =>
  q_br (r16 = (-89)) (
  q_bd (g_X10_removeBell q13.2 1) (fun q17 =>
  q_sm q17.1 (fun _ => none) (fun r18 =>
  q_br (r18 = 2) (
  q_bd (g_X10_melodyLength q17.2 0) (fun q19 =>
  q_sm q19 (fun _ => none) (fun r20 =>
  q_br (r20 = 1) (
  q_bd (g_X10_melodyLength q17.2 1) (fun q21 =>
  q_sm q21 (fun _ => none) (fun r22 =>
  q_br (r22 = 1) (
  q_bd (g_X10_tone q17.2 1 0) (fun q23 =>
  q_sm q23 (fun _ => none) (fun r24 =>
  q_br (r24 = 1) (
  q_bd (g_X10_pitch q17.2 1) (fun q25 =>
  q_sm q25 (fun _ => none) (fun r26 =>
  q_br (r26 = 6700) (
  some q17.2) (
  none)))) (
  none)))) (
  none)))) (
  none)))) (
  none)))) (
  none)))) (
  none))))))
set_option maxHeartbeats 40000000 in
set_option maxRecDepth 100000 in
theorem kl_law4_7 {p : Program} {e : Env} {s : State} {m : MethodId} {args : Array Value} {below : List Frame} {meth : Method} {c : Code} {Q : State → Prop} {A : Nat → Prop} (l : Launch) (hlt : l.stackTraces = false) (E : ET) (ax ay : Nat → Nat) (x y : VB_t) (az : Nat → Nat) (z : VB_t) (now v2 v3 : Int32) (hx : p.tables.exec = Jvm.exec) (hb : c.code = cL_law) (hml : c.maxLocals = 8) (hown : s.vm.findClass RL = some m.cls) (ha : ∀ w ∈ lw_all, w.before args s = true) (hA : ∀ q, s.heap.size ≤ q → A q) (hz : ∀ q, A q → E.2 0 ≤ q) (hzs : E.2 0 ≤ s.heap.size) (hst : ST E s) (res : VB_t) (hF : f_law4_7 z v2 v3 = some res) {H : Heap} {locs : List Loc} {ls : Array Slot} (hP : va_P E.1 vwCl (List.flatten [w_VB1 E ax 0 x, w_VB1 E ay 0 y, w_VB1 E az 0 z]) H) (hD : va_D A (List.flatten [w_VB1 E ax 0 x, w_VB1 E ay 0 y, w_VB1 E az 0 z])) (hS : va_S A s.heap H locs) (hl : lv_has ls 8 [(0, .ref (E.2 18)), (1, .ref (ax 0)), (2, .ref (ay 0)), (3, .int now), (5, .int v2), (6, .int v3), (7, .ref (az 0))]) (hK : ∀ (H : Heap) (locs : List Loc) (ls : Array Slot), va_P E.1 vwCl (List.flatten [w_VB1 E ax 0 x, w_VB1 E ay 0 y, w_VB1 E az 0 res]) H → va_D A (List.flatten [w_VB1 E ax 0 x, w_VB1 E ay 0 y, w_VB1 E az 0 res]) → va_S A s.heap H locs → lv_has ls 8 [(0, .ref (E.2 18)), (1, .ref (ax 0)), (2, .ref (ay 0)), (3, .int now), (5, .int v2), (6, .int v3), (7, .ref (az 0))] → W p l e room_1 s m args below meth c H locs 3745 24687 Q (F0 m 1086 ls [])) : W p l e room_1 s m args below meth c H locs 3736 24633 Q (F0 m 1000 ls []) := by
  unfold f_law4_7 at hF
  refine lv_aload hx hb dL_law_1000 (lv_at hl 6 rfl) ?_
  refine lv_iconst (v := 0) hx hb dL_law_1002 (by decide) ?_
  obtain ⟨q11, hq11, hF⟩ := q_bdi hF
  refine cx_i (ro := q11) (Lc := [w_VB1 E az 0 z]) (Lc' := [w_VB1 E az 0 z]) (L' := [w_VB1 E ax 0 x, w_VB1 E ay 0 y, w_VB1 E az 0 z]) (vx_runV (As := [.int 0]) (rest := []) ⟨hx, hb, hml, hown, ha⟩ (kg_X10_isInKey l E az 0 z 0 q11 hq11 H.size hlt) (cwV 1 ha (gi_V (fun _ h => h) mw683 mw684 mw685 mw26 mw686) rfl rfl rfl hv_X10_isInKey ⟨(Nat.le_of_ble_eq_true rfl), (Nat.le_of_ble_eq_true rfl)⟩) ⟨pre_blind, va_recv hst.k (fr_P hP [2] rfl) (ci := 11) (q0 := 0) rfl rfl, pre_at hP hD hS hz hzs hst [2] (by decide) rfl rfl⟩ rfl rfl hl.1 rfl (lv_room (Nat.le_of_ble_eq_true rfl)) dL_law_1003 ⟨(Nat.le_of_ble_eq_true rfl), (Nat.le_of_ble_eq_true rfl)⟩) hP hD hS hA [2] (by decide) rfl rfl rfl rfl (fun X ce q9 H locs eX h1 h2 h3 hP hD hS => ?_) (fun r12 H locs er12 hP hD hS => ?_)
  · have hF := q_smr eX hF
    exact absurd hF (by simp)
  have hF := q_sml er12 hF
  refine lv_if_eq (tgt := 1031) hx hb dL_law_1006 (by decide) (fun c1006 => ?_) (fun c1006 => ?_)
  · have hF := q_brp c1006 hF
    exact absurd hF (by simp)
  · have hF := q_brn c1006 hF
    refine lv_aload hx hb dL_law_1009 (lv_at hl 6 rfl) ?_
    refine lv_iconst (v := 2) hx hb dL_law_1011 (by decide) ?_
    refine lv_iconst (v := 0) hx hb dL_law_1012 (by decide) ?_
    obtain ⟨q13, hq13, hF⟩ := q_bdi hF
    refine cx_i (ro := q13.1) (Lc := [w_VB1 E az 0 z]) (Lc' := [w_VB1 E az 0 (q13.2)]) (L' := [w_VB1 E ax 0 x, w_VB1 E ay 0 y, w_VB1 E az 0 (q13.2)]) (vx_runV (As := [.int 2, .int 0]) (rest := []) ⟨hx, hb, hml, hown, ha⟩ (kg_X10_setKey l E az 0 z 2 0 q13 hq13 H.size hlt) (cwV 2 ha (gi_V (fun _ h => h) mw613 mw614 mw615 mw26 mw616) rfl rfl rfl hv_X10_setKey ⟨(Nat.le_of_ble_eq_true rfl), (Nat.le_of_ble_eq_true rfl)⟩) ⟨pre_blind, va_recv hst.k (fr_P hP [2] rfl) (ci := 11) (q0 := 0) rfl rfl, pre_at hP hD hS hz hzs hst [2] (by decide) rfl rfl⟩ rfl rfl hl.1 rfl (lv_room (Nat.le_of_ble_eq_true rfl)) dL_law_1013 ⟨(Nat.le_of_ble_eq_true rfl), (Nat.le_of_ble_eq_true rfl)⟩) hP hD hS hA [2] (by decide) rfl rfl rfl rfl (fun X ce q9 H locs eX h1 h2 h3 hP hD hS => ?_) (fun r14 H locs er14 hP hD hS => ?_)
    · have hF := q_smr eX hF
      exact absurd hF (by simp)
    have hF := q_sml er14 hF
    refine lv_iconst (v := 2) hx hb dL_law_1016 (by decide) ?_
    refine lv_icmp_ne (tgt := 1031) hx hb dL_law_1017 (by decide) (fun c1017 => ?_) (fun c1017 => ?_)
    · have hF := q_brn c1017 hF
      exact absurd hF (by simp)
    · have hF := q_brp c1017 hF
      refine lv_aload hx hb dL_law_1020 (lv_at hl 6 rfl) ?_
      refine lv_iconst (v := 0) hx hb dL_law_1022 (by decide) ?_
      obtain ⟨q15, hq15, hF⟩ := q_bdi hF
      refine cx_i (ro := q15) (Lc := [w_VB1 E az 0 (q13.2)]) (Lc' := [w_VB1 E az 0 (q13.2)]) (L' := [w_VB1 E ax 0 x, w_VB1 E ay 0 y, w_VB1 E az 0 (q13.2)]) (vx_runV (As := [.int 0]) (rest := []) ⟨hx, hb, hml, hown, ha⟩ (kg_X10_centsToKey l E az 0 (q13.2) 0 q15 hq15 H.size hlt) (cwV 1 ha (gi_V (fun _ h => h) mw693 mw694 mw695 mw26 mw696) rfl rfl rfl hv_X10_centsToKey ⟨(Nat.le_of_ble_eq_true rfl), (Nat.le_of_ble_eq_true rfl)⟩) ⟨pre_blind, va_recv hst.k (fr_P hP [2] rfl) (ci := 11) (q0 := 0) rfl rfl, pre_at hP hD hS hz hzs hst [2] (by decide) rfl rfl⟩ rfl rfl hl.1 rfl (lv_room (Nat.le_of_ble_eq_true rfl)) dL_law_1023 ⟨(Nat.le_of_ble_eq_true rfl), (Nat.le_of_ble_eq_true rfl)⟩) hP hD hS hA [2] (by decide) rfl rfl rfl rfl (fun X ce q9 H locs eX h1 h2 h3 hP hD hS => ?_) (fun r16 H locs er16 hP hD hS => ?_)
      · have hF := q_smr eX hF
        exact absurd hF (by simp)
      have hF := q_sml er16 hF
      refine lv_bipush (v := (-89)) hx hb dL_law_1026 (by decide) ?_
      refine lv_icmp_eq (tgt := 1033) hx hb dL_law_1028 (by decide) (fun c1028 => ?_) (fun c1028 => ?_)
      · have hF := q_brp c1028 hF
        refine lv_aload hx hb dL_law_1033 (lv_at hl 6 rfl) ?_
        refine lv_iconst (v := 1) hx hb dL_law_1035 (by decide) ?_
        obtain ⟨q17, hq17, hF⟩ := q_bdi hF
        refine cx_i (ro := q17.1) (Lc := [w_VB1 E az 0 (q13.2)]) (Lc' := [w_VB1 E az 0 (q17.2)]) (L' := [w_VB1 E ax 0 x, w_VB1 E ay 0 y, w_VB1 E az 0 (q17.2)]) (vx_runV (As := [.int 1]) (rest := []) ⟨hx, hb, hml, hown, ha⟩ (kg_X10_removeBell l E az 0 (q13.2) 1 q17 hq17 H.size hlt) (cwV 1 ha (gi_V (fun _ h => h) mw315 mw316 mw317 mw26 mw318) rfl rfl rfl hv_X10_removeBell ⟨(Nat.le_of_ble_eq_true rfl), (Nat.le_of_ble_eq_true rfl)⟩) ⟨pre_blind, va_recv hst.k (fr_P hP [2] rfl) (ci := 11) (q0 := 0) rfl rfl, pre_at hP hD hS hz hzs hst [2] (by decide) rfl rfl⟩ rfl rfl hl.1 rfl (lv_room (Nat.le_of_ble_eq_true rfl)) dL_law_1036 ⟨(Nat.le_of_ble_eq_true rfl), (Nat.le_of_ble_eq_true rfl)⟩) hP hD hS hA [2] (by decide) rfl rfl rfl rfl (fun X ce q9 H locs eX h1 h2 h3 hP hD hS => ?_) (fun r18 H locs er18 hP hD hS => ?_)
        · have hF := q_smr eX hF
          exact absurd hF (by simp)
        have hF := q_sml er18 hF
        refine lv_iconst (v := 2) hx hb dL_law_1039 (by decide) ?_
        refine lv_icmp_ne (tgt := 1112) hx hb dL_law_1040 (by decide) (fun c1040 => ?_) (fun c1040 => ?_)
        · have hF := q_brn c1040 hF
          exact absurd hF (by simp)
        · have hF := q_brp c1040 hF
          refine lv_aload hx hb dL_law_1043 (lv_at hl 6 rfl) ?_
          refine lv_iconst (v := 0) hx hb dL_law_1045 (by decide) ?_
          obtain ⟨q19, hq19, hF⟩ := q_bdi hF
          refine cx_i (ro := q19) (Lc := [w_VB1 E az 0 (q17.2)]) (Lc' := [w_VB1 E az 0 (q17.2)]) (L' := [w_VB1 E ax 0 x, w_VB1 E ay 0 y, w_VB1 E az 0 (q17.2)]) (vx_runV (As := [.int 0]) (rest := []) ⟨hx, hb, hml, hown, ha⟩ (kg_X10_melodyLength l E az 0 (q17.2) 0 q19 hq19 H.size hlt) (cwV 1 ha (gi_V (fun _ h => h) mw799 mw800 mw801 mw26 mw802) rfl rfl rfl hv_X10_melodyLength ⟨(Nat.le_of_ble_eq_true rfl), (Nat.le_of_ble_eq_true rfl)⟩) ⟨pre_blind, va_recv hst.k (fr_P hP [2] rfl) (ci := 11) (q0 := 0) rfl rfl, pre_at hP hD hS hz hzs hst [2] (by decide) rfl rfl⟩ rfl rfl hl.1 rfl (lv_room (Nat.le_of_ble_eq_true rfl)) dL_law_1046 ⟨(Nat.le_of_ble_eq_true rfl), (Nat.le_of_ble_eq_true rfl)⟩) hP hD hS hA [2] (by decide) rfl rfl rfl rfl (fun X ce q9 H locs eX h1 h2 h3 hP hD hS => ?_) (fun r20 H locs er20 hP hD hS => ?_)
          · have hF := q_smr eX hF
            exact absurd hF (by simp)
          have hF := q_sml er20 hF
          refine lv_iconst (v := 1) hx hb dL_law_1049 (by decide) ?_
          refine lv_icmp_ne (tgt := 1112) hx hb dL_law_1050 (by decide) (fun c1050 => ?_) (fun c1050 => ?_)
          · have hF := q_brn c1050 hF
            exact absurd hF (by simp)
          · have hF := q_brp c1050 hF
            refine lv_aload hx hb dL_law_1053 (lv_at hl 6 rfl) ?_
            refine lv_iconst (v := 1) hx hb dL_law_1055 (by decide) ?_
            obtain ⟨q21, hq21, hF⟩ := q_bdi hF
            refine cx_i (ro := q21) (Lc := [w_VB1 E az 0 (q17.2)]) (Lc' := [w_VB1 E az 0 (q17.2)]) (L' := [w_VB1 E ax 0 x, w_VB1 E ay 0 y, w_VB1 E az 0 (q17.2)]) (vx_runV (As := [.int 1]) (rest := []) ⟨hx, hb, hml, hown, ha⟩ (kg_X10_melodyLength l E az 0 (q17.2) 1 q21 hq21 H.size hlt) (cwV 1 ha (gi_V (fun _ h => h) mw799 mw800 mw801 mw26 mw802) rfl rfl rfl hv_X10_melodyLength ⟨(Nat.le_of_ble_eq_true rfl), (Nat.le_of_ble_eq_true rfl)⟩) ⟨pre_blind, va_recv hst.k (fr_P hP [2] rfl) (ci := 11) (q0 := 0) rfl rfl, pre_at hP hD hS hz hzs hst [2] (by decide) rfl rfl⟩ rfl rfl hl.1 rfl (lv_room (Nat.le_of_ble_eq_true rfl)) dL_law_1056 ⟨(Nat.le_of_ble_eq_true rfl), (Nat.le_of_ble_eq_true rfl)⟩) hP hD hS hA [2] (by decide) rfl rfl rfl rfl (fun X ce q9 H locs eX h1 h2 h3 hP hD hS => ?_) (fun r22 H locs er22 hP hD hS => ?_)
            · have hF := q_smr eX hF
              exact absurd hF (by simp)
            have hF := q_sml er22 hF
            refine lv_iconst (v := 1) hx hb dL_law_1059 (by decide) ?_
            refine lv_icmp_ne (tgt := 1112) hx hb dL_law_1060 (by decide) (fun c1060 => ?_) (fun c1060 => ?_)
            · have hF := q_brn c1060 hF
              exact absurd hF (by simp)
            · have hF := q_brp c1060 hF
              refine lv_aload hx hb dL_law_1063 (lv_at hl 6 rfl) ?_
              refine lv_iconst (v := 1) hx hb dL_law_1065 (by decide) ?_
              refine lv_iconst (v := 0) hx hb dL_law_1066 (by decide) ?_
              obtain ⟨q23, hq23, hF⟩ := q_bdi hF
              refine cx_i (ro := q23) (Lc := [w_VB1 E az 0 (q17.2)]) (Lc' := [w_VB1 E az 0 (q17.2)]) (L' := [w_VB1 E ax 0 x, w_VB1 E ay 0 y, w_VB1 E az 0 (q17.2)]) (vx_runV (As := [.int 1, .int 0]) (rest := []) ⟨hx, hb, hml, hown, ha⟩ (kg_X10_tone l E az 0 (q17.2) 1 0 q23 hq23 H.size hlt) (cwV 2 ha (gi_V (fun _ h => h) mw808 mw809 mw810 mw26 mw811) rfl rfl rfl hv_X10_tone ⟨(Nat.le_of_ble_eq_true rfl), (Nat.le_of_ble_eq_true rfl)⟩) ⟨pre_blind, va_recv hst.k (fr_P hP [2] rfl) (ci := 11) (q0 := 0) rfl rfl, pre_at hP hD hS hz hzs hst [2] (by decide) rfl rfl⟩ rfl rfl hl.1 rfl (lv_room (Nat.le_of_ble_eq_true rfl)) dL_law_1067 ⟨(Nat.le_of_ble_eq_true rfl), (Nat.le_of_ble_eq_true rfl)⟩) hP hD hS hA [2] (by decide) rfl rfl rfl rfl (fun X ce q9 H locs eX h1 h2 h3 hP hD hS => ?_) (fun r24 H locs er24 hP hD hS => ?_)
              · have hF := q_smr eX hF
                exact absurd hF (by simp)
              have hF := q_sml er24 hF
              refine lv_iconst (v := 1) hx hb dL_law_1070 (by decide) ?_
              refine lv_icmp_ne (tgt := 1112) hx hb dL_law_1071 (by decide) (fun c1071 => ?_) (fun c1071 => ?_)
              · have hF := q_brn c1071 hF
                exact absurd hF (by simp)
              · have hF := q_brp c1071 hF
                refine lv_aload hx hb dL_law_1074 (lv_at hl 6 rfl) ?_
                refine lv_iconst (v := 1) hx hb dL_law_1076 (by decide) ?_
                obtain ⟨q25, hq25, hF⟩ := q_bdi hF
                refine cx_i (ro := q25) (Lc := [w_VB1 E az 0 (q17.2)]) (Lc' := [w_VB1 E az 0 (q17.2)]) (L' := [w_VB1 E ax 0 x, w_VB1 E ay 0 y, w_VB1 E az 0 (q17.2)]) (vx_runV (As := [.int 1]) (rest := []) ⟨hx, hb, hml, hown, ha⟩ (kg_X10_pitch l E az 0 (q17.2) 1 q25 hq25 H.size hlt) (cwV 1 ha (gi_V (fun _ h => h) mw655 mw656 mw657 mw26 mw658) rfl rfl rfl hv_X10_pitch ⟨(Nat.le_of_ble_eq_true rfl), (Nat.le_of_ble_eq_true rfl)⟩) ⟨pre_blind, va_recv hst.k (fr_P hP [2] rfl) (ci := 11) (q0 := 0) rfl rfl, pre_at hP hD hS hz hzs hst [2] (by decide) rfl rfl⟩ rfl rfl hl.1 rfl (lv_room (Nat.le_of_ble_eq_true rfl)) dL_law_1077 ⟨(Nat.le_of_ble_eq_true rfl), (Nat.le_of_ble_eq_true rfl)⟩) hP hD hS hA [2] (by decide) rfl rfl rfl rfl (fun X ce q9 H locs eX h1 h2 h3 hP hD hS => ?_) (fun r26 H locs er26 hP hD hS => ?_)
                · have hF := q_smr eX hF
                  exact absurd hF (by simp)
                have hF := q_sml er26 hF
                refine lv_sipush (v := 6700) hx hb dL_law_1080 (by decide) ?_
                refine lv_icmp_ne (tgt := 1112) hx hb dL_law_1083 (by decide) (fun c1083 => ?_) (fun c1083 => ?_)
                · have hF := q_brn c1083 hF
                  exact absurd hF (by simp)
                · have hF := q_brp c1083 hF
                  obtain rfl := Option.some.inj hF
                  exact hK H locs ls hP hD hS (lv_sub hl [0, 1, 2, 3, 4, 5, 6] rfl)
      · have hF := q_brn c1028 hF
        exact absurd hF (by simp)
