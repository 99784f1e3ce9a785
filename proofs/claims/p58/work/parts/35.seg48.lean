theorem dL_law_1086 : decode cL_law 1086 = .ok (.aload 7, 2) := by decide +kernel
theorem dL_law_1088 : decode cL_law 1088 = .ok (.iconst 0, 1) := by decide +kernel
theorem dL_law_1089 : decode cL_law 1089 = .ok (.invokevirtual 78, 3) := by decide +kernel
theorem dL_law_1092 : decode cL_law 1092 = .ok (.ifCond .ne 20, 3) := by decide +kernel
theorem dL_law_1095 : decode cL_law 1095 = .ok (.aload 7, 2) := by decide +kernel
theorem dL_law_1097 : decode cL_law 1097 = .ok (.invokevirtual 247, 3) := by decide +kernel
theorem dL_law_1100 : decode cL_law 1100 = .ok (.iconst 1, 1) := by decide +kernel
theorem dL_law_1101 : decode cL_law 1101 = .ok (.if_icmp .ne 11, 3) := by decide +kernel
theorem dL_law_1104 : decode cL_law 1104 = .ok (.aload 7, 2) := by decide +kernel
theorem dL_law_1106 : decode cL_law 1106 = .ok (.invokevirtual 208, 3) := by decide +kernel
theorem dL_law_1109 : decode cL_law 1109 = .ok (.ifCond .ne 5, 3) := by decide +kernel
def f_law4_8 (z_v : VB_t) (v2 : Int32) (v3 : Int32) : Option (VB_t) :=
  q_bd (g_X10_removeCliff z_v 0) (fun q11 =>
  q_sm q11.1 (fun _ => none) (fun r12 =>
  q_br (r12 = 0) (
  q_bd (g_X10_lastBeat q11.2) (fun q13 =>
  q_sm q13.1 (fun _ => none) (fun r14 =>
  q_br (r14 = 1) (
  q_bd (g_X10_isConsistent q13.2) (fun q15 =>
  q_br (q15.1 = 0) (
  none) (
  some q15.2))) (
  none)))) (
  none)))
set_option maxHeartbeats 40000000 in
set_option maxRecDepth 100000 in
theorem kl_law4_8 {p : Program} {e : Env} {s : State} {m : MethodId} {args : Array Value} {below : List Frame} {meth : Method} {c : Code} {Q : State → Prop} {A : Nat → Prop} (l : Launch) (hlt : l.stackTraces = false) (E : ET) (ax ay : Nat → Nat) (x y : VB_t) (az : Nat → Nat) (z : VB_t) (now v2 v3 : Int32) (hx : p.tables.exec = Jvm.exec) (hb : c.code = cL_law) (hml : c.maxLocals = 8) (hown : s.vm.findClass RL = some m.cls) (ha : ∀ w ∈ lw_all, w.before args s = true) (hA : ∀ q, s.heap.size ≤ q → A q) (hz : ∀ q, A q → E.2 0 ≤ q) (hzs : E.2 0 ≤ s.heap.size) (hst : ST E s) (res : VB_t) (hF : f_law4_8 z v2 v3 = some res) {H : Heap} {locs : List Loc} {ls : Array Slot} (hP : va_P E.1 vwCl (List.flatten [w_VB1 E ax 0 x, w_VB1 E ay 0 y, w_VB1 E az 0 z]) H) (hD : va_D A (List.flatten [w_VB1 E ax 0 x, w_VB1 E ay 0 y, w_VB1 E az 0 z])) (hS : va_S A s.heap H locs) (hl : lv_has ls 8 [(0, .ref (E.2 18)), (1, .ref (ax 0)), (2, .ref (ay 0)), (3, .int now), (5, .int v2), (6, .int v3), (7, .ref (az 0))]) (hK : ∀ (H : Heap) (locs : List Loc) (ls : Array Slot), va_P E.1 vwCl (List.flatten [w_VB1 E ax 0 x, w_VB1 E ay 0 y, w_VB1 E az 0 res]) H → va_D A (List.flatten [w_VB1 E ax 0 x, w_VB1 E ay 0 y, w_VB1 E az 0 res]) → va_S A s.heap H locs → lv_has ls 8 [(0, .ref (E.2 18)), (1, .ref (ax 0)), (2, .ref (ay 0)), (3, .int now), (5, .int v2), (6, .int v3), (7, .ref (az 0))] → W p l e room_1 s m args below meth c H locs 3747 24699 Q (F0 m 1114 ls [])) : W p l e room_1 s m args below meth c H locs 3745 24687 Q (F0 m 1086 ls []) := by
  unfold f_law4_8 at hF
  refine lv_aload hx hb dL_law_1086 (lv_at hl 6 rfl) ?_
  refine lv_iconst (v := 0) hx hb dL_law_1088 (by decide) ?_
  obtain ⟨q11, hq11, hF⟩ := q_bdi hF
  refine cx_i (ro := q11.1) (Lc := [w_VB1 E az 0 z]) (Lc' := [w_VB1 E az 0 (q11.2)]) (L' := [w_VB1 E ax 0 x, w_VB1 E ay 0 y, w_VB1 E az 0 (q11.2)]) (vx_runV (As := [.int 0]) (rest := []) ⟨hx, hb, hml, hown, ha⟩ (kg_X10_removeCliff l E az 0 z 0 q11 hq11 H.size hlt) (cwV 1 ha (gi_V (fun _ h => h) mw649 mw650 mw651 mw26 mw652) rfl rfl rfl hv_X10_removeCliff ⟨(Nat.le_of_ble_eq_true rfl), (Nat.le_of_ble_eq_true rfl)⟩) ⟨pre_blind, va_recv hst.k (fr_P hP [2] rfl) (ci := 11) (q0 := 0) rfl rfl, pre_at hP hD hS hz hzs hst [2] (by decide) rfl rfl⟩ rfl rfl hl.1 rfl (lv_room (Nat.le_of_ble_eq_true rfl)) dL_law_1089 ⟨(Nat.le_of_ble_eq_true rfl), (Nat.le_of_ble_eq_true rfl)⟩) hP hD hS hA [2] (by decide) rfl rfl rfl rfl (fun X ce q9 H locs eX h1 h2 h3 hP hD hS => ?_) (fun r12 H locs er12 hP hD hS => ?_)
  · have hF := q_smr eX hF
    exact absurd hF (by simp)
  have hF := q_sml er12 hF
  refine lv_if_ne (tgt := 1112) hx hb dL_law_1092 (by decide) (fun c1092 => ?_) (fun c1092 => ?_)
  · have hF := q_brn c1092 hF
    exact absurd hF (by simp)
  · have hF := q_brp c1092 hF
    refine lv_aload hx hb dL_law_1095 (lv_at hl 6 rfl) ?_
    obtain ⟨q13, hq13, hF⟩ := q_bdi hF
    refine cx_i (ro := q13.1) (Lc := [w_VB1 E az 0 (q11.2)]) (Lc' := [w_VB1 E az 0 (q13.2)]) (L' := [w_VB1 E ax 0 x, w_VB1 E ay 0 y, w_VB1 E az 0 (q13.2)]) (vx_runV (As := []) (rest := []) ⟨hx, hb, hml, hown, ha⟩ (kg_X10_lastBeat l E az 0 (q11.2) q13 hq13 H.size hlt) (cwV 0 ha (gi_V (fun _ h => h) mw905 mw906 mw907 mw26 mw908) rfl rfl rfl hv_X10_lastBeat ⟨(Nat.le_of_ble_eq_true rfl), (Nat.le_of_ble_eq_true rfl)⟩) ⟨pre_blind, va_recv hst.k (fr_P hP [2] rfl) (ci := 11) (q0 := 0) rfl rfl, pre_at hP hD hS hz hzs hst [2] (by decide) rfl rfl⟩ rfl rfl hl.1 rfl (lv_room (Nat.le_of_ble_eq_true rfl)) dL_law_1097 ⟨(Nat.le_of_ble_eq_true rfl), (Nat.le_of_ble_eq_true rfl)⟩) hP hD hS hA [2] (by decide) rfl rfl rfl rfl (fun X ce q9 H locs eX h1 h2 h3 hP hD hS => ?_) (fun r14 H locs er14 hP hD hS => ?_)
    · have hF := q_smr eX hF
      exact absurd hF (by simp)
    have hF := q_sml er14 hF
    refine lv_iconst (v := 1) hx hb dL_law_1100 (by decide) ?_
    refine lv_icmp_ne (tgt := 1112) hx hb dL_law_1101 (by decide) (fun c1101 => ?_) (fun c1101 => ?_)
    · have hF := q_brn c1101 hF
      exact absurd hF (by simp)
    · have hF := q_brp c1101 hF
      refine lv_aload hx hb dL_law_1104 (lv_at hl 6 rfl) ?_
      obtain ⟨q15, hq15, hF⟩ := q_bdi hF
      refine cl_i (Lc := [w_VB1 E az 0 (q13.2)]) (Lc' := [w_VB1 E az 0 (q15.2)]) (L' := [w_VB1 E ax 0 x, w_VB1 E ay 0 y, w_VB1 E az 0 (q15.2)]) (rv := q15.1) (va_runV (As := []) (rest := []) ⟨hx, hb, hml, hown, ha⟩ (kg_X10_isConsistent l E az 0 (q13.2) q15 hq15 H.size) (cwV 0 ha (gi_V (fun _ h => h) mw921 mw922 mw923 mw26 mw924) rfl rfl rfl hv_X10_isConsistent ⟨(Nat.le_of_ble_eq_true rfl), (Nat.le_of_ble_eq_true rfl)⟩) ⟨pre_blind, va_recv hst.k (fr_P hP [2] rfl) (ci := 11) (q0 := 0) rfl rfl, pre_at hP hD hS hz hzs hst [2] (by decide) rfl rfl⟩ rfl rfl hl.1 rfl (lv_room (Nat.le_of_ble_eq_true rfl)) dL_law_1106 ⟨(Nat.le_of_ble_eq_true rfl), (Nat.le_of_ble_eq_true rfl)⟩) hP hD hS hA [2] (by decide) rfl rfl rfl rfl (fun H locs hP hD hS => ?_)
      refine lv_if_ne (tgt := 1114) hx hb dL_law_1109 (by decide) (fun c1109 => ?_) (fun c1109 => ?_)
      · have hF := q_brn c1109 hF
        obtain rfl := Option.some.inj hF
        exact hK H locs ls hP hD hS (lv_sub hl [0, 1, 2, 3, 4, 5, 6] rfl)
      · have hF := q_brp c1109 hF
        exact absurd hF (by simp)
