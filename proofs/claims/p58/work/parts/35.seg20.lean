theorem dL_law_135 : decode cL_law 135 = .ok (.aload_n 1, 1) := by decide +kernel
theorem dL_law_136 : decode cL_law 136 = .ok (.ldc 169, 2) := by decide +kernel
theorem dL_law_138 : decode cL_law 138 = .ok (.invokestatic 159, 3) := by decide +kernel
theorem dL_law_141 : decode cL_law 141 = .ok (.aload_n 1, 1) := by decide +kernel
theorem dL_law_142 : decode cL_law 142 = .ok (.invokestatic 171, 3) := by decide +kernel
theorem dL_law_145 : decode cL_law 145 = .ok (.bipush (-2), 2) := by decide +kernel
theorem dL_law_147 : decode cL_law 147 = .ok (.if_icmp .ne 19, 3) := by decide +kernel
theorem dL_law_150 : decode cL_law 150 = .ok (.aload_n 1, 1) := by decide +kernel
theorem dL_law_151 : decode cL_law 151 = .ok (.invokevirtual 174, 3) := by decide +kernel
theorem dL_law_154 : decode cL_law 154 = .ok (.iconst 1, 1) := by decide +kernel
theorem dL_law_155 : decode cL_law 155 = .ok (.if_icmp .ne 11, 3) := by decide +kernel
theorem dL_law_158 : decode cL_law 158 = .ok (.aload_n 1, 1) := by decide +kernel
theorem dL_law_159 : decode cL_law 159 = .ok (.invokestatic 153, 3) := by decide +kernel
theorem dL_law_162 : decode cL_law 162 = .ok (.iload_n 3, 1) := by decide +kernel
theorem dL_law_163 : decode cL_law 163 = .ok (.if_icmp .eq 5, 3) := by decide +kernel
theorem dL_law_168 : decode cL_law 168 = .ok (.aload_n 1, 1) := by decide +kernel
theorem dL_law_169 : decode cL_law 169 = .ok (.ldc 177, 2) := by decide +kernel
theorem dL_law_171 : decode cL_law 171 = .ok (.invokestatic 159, 3) := by decide +kernel
theorem dL_law_174 : decode cL_law 174 = .ok (.aload_n 1, 1) := by decide +kernel
theorem dL_law_175 : decode cL_law 175 = .ok (.invokestatic 171, 3) := by decide +kernel
theorem dL_law_178 : decode cL_law 178 = .ok (.bipush (-2), 2) := by decide +kernel
theorem dL_law_180 : decode cL_law 180 = .ok (.if_icmp .ne 18, 3) := by decide +kernel
theorem dL_law_183 : decode cL_law 183 = .ok (.aload_n 1, 1) := by decide +kernel
theorem dL_law_184 : decode cL_law 184 = .ok (.invokevirtual 174, 3) := by decide +kernel
theorem dL_law_187 : decode cL_law 187 = .ok (.ifCond .ne 11, 3) := by decide +kernel
def f_law2_0 (x_v : VB_t) (now : Int32) : Option (VB_t) :=
  q_bd (f_L_put x_v 13) (fun q11 =>
  q_bd (f_L_runs q11) (fun q12 =>
  q_br (q12.1 = (-2)) (
  q_bd (g_X10_failedCommand q12.2) (fun q13 =>
  q_sm q13 (fun _ => none) (fun r14 =>
  q_br (r14 = 1) (
  q_bd (f_L_state q12.2) (fun q15 =>
  q_br (q15 = now) (
  q_bd (f_L_put q12.2 14) (fun q16 =>
  q_bd (f_L_runs q16) (fun q17 =>
  q_br (q17.1 = (-2)) (
  q_bd (g_X10_failedCommand q17.2) (fun q18 =>
  q_sm q18 (fun _ => none) (fun r19 =>
  q_br (r19 = 0) (
  some q17.2) (
  none)))) (
  none)))) (
  none))) (
  none)))) (
  none)))
set_option maxHeartbeats 40000000 in
set_option maxRecDepth 100000 in
theorem kl_law2_0 {p : Program} {e : Env} {s : State} {m : MethodId} {args : Array Value} {below : List Frame} {meth : Method} {c : Code} {Q : State → Prop} {A : Nat → Prop} (l : Launch) (hlt : l.stackTraces = false) (E : ET) (ax ay : Nat → Nat) (x y : VB_t) (now : Int32) (hx : p.tables.exec = Jvm.exec) (hb : c.code = cL_law) (hml : c.maxLocals = 8) (hown : s.vm.findClass RL = some m.cls) (ha : ∀ w ∈ lw_all, w.before args s = true) (hA : ∀ q, s.heap.size ≤ q → A q) (hz : ∀ q, A q → E.2 0 ≤ q) (hzs : E.2 0 ≤ s.heap.size) (hst : ST E s) (res : VB_t) (hF : f_law2_0 x now = some res) {H : Heap} {locs : List Loc} {ls : Array Slot} (hP : va_P E.1 vwCl (List.flatten [w_VB1 E ax 0 x, w_VB1 E ay 0 y]) H) (hD : va_D A (List.flatten [w_VB1 E ax 0 x, w_VB1 E ay 0 y])) (hS : va_S A s.heap H locs) (hl : lv_has ls 8 [(0, .ref (E.2 18)), (1, .ref (ax 0)), (2, .ref (ay 0)), (3, .int now)]) (hK : ∀ (H : Heap) (locs : List Loc) (ls : Array Slot), va_P E.1 vwCl (List.flatten [w_VB1 E ax 0 res, w_VB1 E ay 0 y]) H → va_D A (List.flatten [w_VB1 E ax 0 res, w_VB1 E ay 0 y]) → va_S A s.heap H locs → lv_has ls 8 [(0, .ref (E.2 18)), (1, .ref (ax 0)), (2, .ref (ay 0)), (3, .int now)] → W p l e room_1 s m args below meth c H locs 2308 15406 Q (F0 m 190 ls [])) : W p l e room_1 s m args below meth c H locs 1952 13150 Q (F0 m 135 ls []) := by
  unfold f_law2_0 at hF
  refine lv_aload_n hx hb dL_law_135 rfl (lv_at hl 1 rfl) ?_
  refine va_ldcS (q := E.2 (200 + 13)) hx hb hown (hst.sr (sL_169 E)) dL_law_136 ?_
  obtain ⟨q11, hq11, hF⟩ := q_bdi hF
  refine cl_v (Lc := [w_VB1 E ax 0 x]) (Lc' := [w_VB1 E ax 0 (q11)]) (L' := [w_VB1 E ax 0 (q11), w_VB1 E ay 0 y]) (va_runS (As := [.ref (ax 0), .ref (E.2 (200 + 13))]) (rest := []) ⟨hx, hb, hml, hown, ha⟩ (k_L_put l E ax 0 x 13 q11 hq11 H.size hlt) (cwS 2 ha (gi_S (fun _ h => h) mw1089 mw1090 mw25 mw1091) rfl rfl rfl hv_L_put ⟨(Nat.le_of_ble_eq_true rfl), (Nat.le_of_ble_eq_true rfl)⟩) ⟨pre_blind, pre_at hP hD hS hz hzs hst [0] (by decide) rfl rfl⟩ rfl rfl hl.1 rfl (lv_room (Nat.le_of_ble_eq_true rfl)) dL_law_138 ⟨(Nat.le_of_ble_eq_true rfl), (Nat.le_of_ble_eq_true rfl)⟩) hP hD hS hA [0] (by decide) rfl rfl rfl rfl (fun H locs hP hD hS => ?_)
  refine lv_aload_n hx hb dL_law_141 rfl (lv_at hl 1 rfl) ?_
  obtain ⟨q12, hq12, hF⟩ := q_bdi hF
  refine cl_i (Lc := [w_VB1 E ax 0 (q11)]) (Lc' := [w_VB1 E ax 0 (q12.2)]) (L' := [w_VB1 E ax 0 (q12.2), w_VB1 E ay 0 y]) (rv := q12.1) (vx_runSW (As := [.ref (ax 0)]) (rest := []) ⟨hx, hb, hml, hown, ha⟩ (k_L_runs l E ax 0 (q11) q12 hq12 H.size hlt) (vx_cwSW 1 ha (gi_TH (fun _ h => h) mw1192 mw1193 mw25 mw1194) rfl rfl rfl hv_L_runs.2 ⟨(Nat.le_of_ble_eq_true rfl), (Nat.le_of_ble_eq_true rfl)⟩) ⟨pre_blind, pre_at hP hD hS hz hzs hst [0] (by decide) rfl rfl⟩ rfl rfl hl.1 rfl (lv_room (Nat.le_of_ble_eq_true rfl)) dL_law_142 ⟨(Nat.le_of_ble_eq_true rfl), (Nat.le_of_ble_eq_true rfl)⟩) hP hD hS hA [0] (by decide) rfl rfl rfl rfl (fun H locs hP hD hS => ?_)
  refine lv_bipush (v := (-2)) hx hb dL_law_145 (by decide) ?_
  refine lv_icmp_ne (tgt := 166) hx hb dL_law_147 (by decide) (fun c147 => ?_) (fun c147 => ?_)
  · have hF := q_brn c147 hF
    exact absurd hF (by simp)
  · have hF := q_brp c147 hF
    refine lv_aload_n hx hb dL_law_150 rfl (lv_at hl 1 rfl) ?_
    obtain ⟨q13, hq13, hF⟩ := q_bdi hF
    refine cx_i (ro := q13) (Lc := [w_VB1 E ax 0 (q12.2)]) (Lc' := [w_VB1 E ax 0 (q12.2)]) (L' := [w_VB1 E ax 0 (q12.2), w_VB1 E ay 0 y]) (vx_runV (As := []) (rest := []) ⟨hx, hb, hml, hown, ha⟩ (kg_X10_failedCommand l E ax 0 (q12.2) q13 hq13 H.size hlt) (cwV 0 ha (gi_V (fun _ h => h) mw1059 mw1060 mw1061 mw26 mw1062) rfl rfl rfl hv_X10_failedCommand ⟨(Nat.le_of_ble_eq_true rfl), (Nat.le_of_ble_eq_true rfl)⟩) ⟨pre_blind, va_recv hst.k (fr_P hP [0] rfl) (ci := 11) (q0 := 0) rfl rfl, pre_at hP hD hS hz hzs hst [0] (by decide) rfl rfl⟩ rfl rfl hl.1 rfl (lv_room (Nat.le_of_ble_eq_true rfl)) dL_law_151 ⟨(Nat.le_of_ble_eq_true rfl), (Nat.le_of_ble_eq_true rfl)⟩) hP hD hS hA [0] (by decide) rfl rfl rfl rfl (fun X ce q9 H locs eX h1 h2 h3 hP hD hS => ?_) (fun r14 H locs er14 hP hD hS => ?_)
    · have hF := q_smr eX hF
      exact absurd hF (by simp)
    have hF := q_sml er14 hF
    refine lv_iconst (v := 1) hx hb dL_law_154 (by decide) ?_
    refine lv_icmp_ne (tgt := 166) hx hb dL_law_155 (by decide) (fun c155 => ?_) (fun c155 => ?_)
    · have hF := q_brn c155 hF
      exact absurd hF (by simp)
    · have hF := q_brp c155 hF
      refine lv_aload_n hx hb dL_law_158 rfl (lv_at hl 1 rfl) ?_
      obtain ⟨q15, hq15, hF⟩ := q_bdi hF
      refine cl_i (Lc := [w_VB1 E ax 0 (q12.2)]) (Lc' := [w_VB1 E ax 0 (q12.2)]) (L' := [w_VB1 E ax 0 (q12.2), w_VB1 E ay 0 y]) (rv := q15) (va_runS (As := [.ref (ax 0)]) (rest := []) ⟨hx, hb, hml, hown, ha⟩ (k_L_state l E ax 0 (q12.2) q15 hq15 H.size hlt) (cwS 1 ha (gi_S (fun _ h => h) mw1152 mw1153 mw25 mw1154) rfl rfl rfl hv_L_state ⟨(Nat.le_of_ble_eq_true rfl), (Nat.le_of_ble_eq_true rfl)⟩) ⟨pre_blind, pre_at hP hD hS hz hzs hst [0] (by decide) rfl rfl⟩ rfl rfl hl.1 rfl (lv_room (Nat.le_of_ble_eq_true rfl)) dL_law_159 ⟨(Nat.le_of_ble_eq_true rfl), (Nat.le_of_ble_eq_true rfl)⟩) hP hD hS hA [0] (by decide) rfl rfl rfl rfl (fun H locs hP hD hS => ?_)
      refine lv_iload_n hx hb dL_law_162 rfl (lv_at hl 3 rfl) ?_
      refine lv_icmp_eq (tgt := 168) hx hb dL_law_163 (by decide) (fun c163 => ?_) (fun c163 => ?_)
      · have hF := q_brp c163 hF
        refine lv_aload_n hx hb dL_law_168 rfl (lv_at hl 1 rfl) ?_
        refine va_ldcS (q := E.2 (200 + 14)) hx hb hown (hst.sr (sL_177 E)) dL_law_169 ?_
        obtain ⟨q16, hq16, hF⟩ := q_bdi hF
        refine cl_v (Lc := [w_VB1 E ax 0 (q12.2)]) (Lc' := [w_VB1 E ax 0 (q16)]) (L' := [w_VB1 E ax 0 (q16), w_VB1 E ay 0 y]) (va_runS (As := [.ref (ax 0), .ref (E.2 (200 + 14))]) (rest := []) ⟨hx, hb, hml, hown, ha⟩ (k_L_put l E ax 0 (q12.2) 14 q16 hq16 H.size hlt) (cwS 2 ha (gi_S (fun _ h => h) mw1089 mw1090 mw25 mw1091) rfl rfl rfl hv_L_put ⟨(Nat.le_of_ble_eq_true rfl), (Nat.le_of_ble_eq_true rfl)⟩) ⟨pre_blind, pre_at hP hD hS hz hzs hst [0] (by decide) rfl rfl⟩ rfl rfl hl.1 rfl (lv_room (Nat.le_of_ble_eq_true rfl)) dL_law_171 ⟨(Nat.le_of_ble_eq_true rfl), (Nat.le_of_ble_eq_true rfl)⟩) hP hD hS hA [0] (by decide) rfl rfl rfl rfl (fun H locs hP hD hS => ?_)
        refine lv_aload_n hx hb dL_law_174 rfl (lv_at hl 1 rfl) ?_
        obtain ⟨q17, hq17, hF⟩ := q_bdi hF
        refine cl_i (Lc := [w_VB1 E ax 0 (q16)]) (Lc' := [w_VB1 E ax 0 (q17.2)]) (L' := [w_VB1 E ax 0 (q17.2), w_VB1 E ay 0 y]) (rv := q17.1) (vx_runSW (As := [.ref (ax 0)]) (rest := []) ⟨hx, hb, hml, hown, ha⟩ (k_L_runs l E ax 0 (q16) q17 hq17 H.size hlt) (vx_cwSW 1 ha (gi_TH (fun _ h => h) mw1192 mw1193 mw25 mw1194) rfl rfl rfl hv_L_runs.2 ⟨(Nat.le_of_ble_eq_true rfl), (Nat.le_of_ble_eq_true rfl)⟩) ⟨pre_blind, pre_at hP hD hS hz hzs hst [0] (by decide) rfl rfl⟩ rfl rfl hl.1 rfl (lv_room (Nat.le_of_ble_eq_true rfl)) dL_law_175 ⟨(Nat.le_of_ble_eq_true rfl), (Nat.le_of_ble_eq_true rfl)⟩) hP hD hS hA [0] (by decide) rfl rfl rfl rfl (fun H locs hP hD hS => ?_)
        refine lv_bipush (v := (-2)) hx hb dL_law_178 (by decide) ?_
        refine lv_icmp_ne (tgt := 198) hx hb dL_law_180 (by decide) (fun c180 => ?_) (fun c180 => ?_)
        · have hF := q_brn c180 hF
          exact absurd hF (by simp)
        · have hF := q_brp c180 hF
          refine lv_aload_n hx hb dL_law_183 rfl (lv_at hl 1 rfl) ?_
          obtain ⟨q18, hq18, hF⟩ := q_bdi hF
          refine cx_i (ro := q18) (Lc := [w_VB1 E ax 0 (q17.2)]) (Lc' := [w_VB1 E ax 0 (q17.2)]) (L' := [w_VB1 E ax 0 (q17.2), w_VB1 E ay 0 y]) (vx_runV (As := []) (rest := []) ⟨hx, hb, hml, hown, ha⟩ (kg_X10_failedCommand l E ax 0 (q17.2) q18 hq18 H.size hlt) (cwV 0 ha (gi_V (fun _ h => h) mw1059 mw1060 mw1061 mw26 mw1062) rfl rfl rfl hv_X10_failedCommand ⟨(Nat.le_of_ble_eq_true rfl), (Nat.le_of_ble_eq_true rfl)⟩) ⟨pre_blind, va_recv hst.k (fr_P hP [0] rfl) (ci := 11) (q0 := 0) rfl rfl, pre_at hP hD hS hz hzs hst [0] (by decide) rfl rfl⟩ rfl rfl hl.1 rfl (lv_room (Nat.le_of_ble_eq_true rfl)) dL_law_184 ⟨(Nat.le_of_ble_eq_true rfl), (Nat.le_of_ble_eq_true rfl)⟩) hP hD hS hA [0] (by decide) rfl rfl rfl rfl (fun X ce q9 H locs eX h1 h2 h3 hP hD hS => ?_) (fun r19 H locs er19 hP hD hS => ?_)
          · have hF := q_smr eX hF
            exact absurd hF (by simp)
          have hF := q_sml er19 hF
          refine lv_if_ne (tgt := 198) hx hb dL_law_187 (by decide) (fun c187 => ?_) (fun c187 => ?_)
          · have hF := q_brn c187 hF
            exact absurd hF (by simp)
          · have hF := q_brp c187 hF
            obtain rfl := Option.some.inj hF
            exact hK H locs ls hP hD hS (lv_sub hl [0, 1, 2, 3] rfl)
      · have hF := q_brn c163 hF
        exact absurd hF (by simp)
