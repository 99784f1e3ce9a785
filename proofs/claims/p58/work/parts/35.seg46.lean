theorem dL_law_912 : decode cL_law 912 = .ok (.aload 7, 2) := by decide +kernel
theorem dL_law_914 : decode cL_law 914 = .ok (.iconst 1, 1) := by decide +kernel
theorem dL_law_915 : decode cL_law 915 = .ok (.iconst 2, 1) := by decide +kernel
theorem dL_law_916 : decode cL_law 916 = .ok (.invokevirtual 66, 3) := by decide +kernel
theorem dL_law_919 : decode cL_law 919 = .ok (.iconst 1, 1) := by decide +kernel
theorem dL_law_920 : decode cL_law 920 = .ok (.if_icmp .ne 111, 3) := by decide +kernel
theorem dL_law_923 : decode cL_law 923 = .ok (.aload 7, 2) := by decide +kernel
theorem dL_law_925 : decode cL_law 925 = .ok (.iconst 1, 1) := by decide +kernel
theorem dL_law_926 : decode cL_law 926 = .ok (.iconst 1, 1) := by decide +kernel
theorem dL_law_927 : decode cL_law 927 = .ok (.invokevirtual 66, 3) := by decide +kernel
theorem dL_law_930 : decode cL_law 930 = .ok (.iconst 2, 1) := by decide +kernel
theorem dL_law_931 : decode cL_law 931 = .ok (.if_icmp .ne 100, 3) := by decide +kernel
theorem dL_law_934 : decode cL_law 934 = .ok (.aload 7, 2) := by decide +kernel
theorem dL_law_936 : decode cL_law 936 = .ok (.invokestatic 276, 3) := by decide +kernel
theorem dL_law_939 : decode cL_law 939 = .ok (.sipush 1000, 3) := by decide +kernel
theorem dL_law_942 : decode cL_law 942 = .ok (.if_icmp .ne 89, 3) := by decide +kernel
theorem dL_law_945 : decode cL_law 945 = .ok (.aload 7, 2) := by decide +kernel
theorem dL_law_947 : decode cL_law 947 = .ok (.iconst 0, 1) := by decide +kernel
theorem dL_law_948 : decode cL_law 948 = .ok (.iconst 3, 1) := by decide +kernel
theorem dL_law_949 : decode cL_law 949 = .ok (.invokevirtual 56, 3) := by decide +kernel
theorem dL_law_952 : decode cL_law 952 = .ok (.ifCond .ne 79, 3) := by decide +kernel
theorem dL_law_955 : decode cL_law 955 = .ok (.aload 7, 2) := by decide +kernel
theorem dL_law_957 : decode cL_law 957 = .ok (.iconst 3, 1) := by decide +kernel
theorem dL_law_958 : decode cL_law 958 = .ok (.bipush 11, 2) := by decide +kernel
theorem dL_law_960 : decode cL_law 960 = .ok (.invokevirtual 81, 3) := by decide +kernel
theorem dL_law_963 : decode cL_law 963 = .ok (.iconst 1, 1) := by decide +kernel
theorem dL_law_964 : decode cL_law 964 = .ok (.if_icmp .ne 67, 3) := by decide +kernel
theorem dL_law_967 : decode cL_law 967 = .ok (.aload 7, 2) := by decide +kernel
theorem dL_law_969 : decode cL_law 969 = .ok (.iconst 0, 1) := by decide +kernel
theorem dL_law_970 : decode cL_law 970 = .ok (.invokevirtual 109, 3) := by decide +kernel
theorem dL_law_973 : decode cL_law 973 = .ok (.sipush 5989, 3) := by decide +kernel
theorem dL_law_976 : decode cL_law 976 = .ok (.if_icmp .ne 55, 3) := by decide +kernel
theorem dL_law_979 : decode cL_law 979 = .ok (.aload 7, 2) := by decide +kernel
theorem dL_law_981 : decode cL_law 981 = .ok (.iconst 0, 1) := by decide +kernel
theorem dL_law_982 : decode cL_law 982 = .ok (.invokevirtual 233, 3) := by decide +kernel
theorem dL_law_985 : decode cL_law 985 = .ok (.ifCond .ne 46, 3) := by decide +kernel
theorem dL_law_988 : decode cL_law 988 = .ok (.aload 7, 2) := by decide +kernel
theorem dL_law_990 : decode cL_law 990 = .ok (.bipush 11, 2) := by decide +kernel
theorem dL_law_992 : decode cL_law 992 = .ok (.invokevirtual 63, 3) := by decide +kernel
theorem dL_law_995 : decode cL_law 995 = .ok (.bipush 10, 2) := by decide +kernel
theorem dL_law_997 : decode cL_law 997 = .ok (.if_icmp .ne 34, 3) := by decide +kernel
def f_law4_6 (z_v : VB_t) (v2 : Int32) (v3 : Int32) : Option (VB_t) :=
  q_bd (g_X10_addTone z_v 1 2) (fun q11 =>
  q_sm q11.1 (fun _ => none) (fun r12 =>
  q_br (r12 = 1) (
  q_bd (g_X10_addTone q11.2 1 1) (fun q13 =>
  q_sm q13.1 (fun _ => none) (fun r14 =>
  q_br (r14 = 2) (
  q_bd (f_L_canon q13.2) (fun q15 =>
  q_br (q15 = 1000) (
  q_bd (g_X10_moveBell q13.2 0 3) (fun q16 =>
  q_sm q16.1 (fun _ => none) (fun r17 =>
  q_br (r17 = 0) (
  q_bd (g_X10_graze q16.2 3 11) (fun q18 =>
  q_sm q18.1 (fun _ => none) (fun r19 =>
  q_br (r19 = 1) (
  q_bd (g_X10_pitch q18.2 0) (fun q20 =>
  q_sm q20 (fun _ => none) (fun r21 =>
  q_br (r21 = 5989) (
  q_bd (g_X10_isInKey q18.2 0) (fun q22 =>
  q_sm q22 (fun _ => none) (fun r23 =>
  q_br (r23 = 0) (
  q_bd (g_X10_setTolerance q18.2 11) (fun q24 =>
  q_sm q24.1 (fun _ => none) (fun r25 =>
  q_br (r25 = 10) (
  some q24.2) (
  none)))) (
  none)))) (
  none)))) (
  none)))) (
  none)))) (
  none))) (
  none)))) (
  none)))
set_option maxHeartbeats 40000000 in
set_option maxRecDepth 100000 in
theorem kl_law4_6 {p : Program} {e : Env} {s : State} {m : MethodId} {args : Array Value} {below : List Frame} {meth : Method} {c : Code} {Q : State → Prop} {A : Nat → Prop} (l : Launch) (hlt : l.stackTraces = false) (E : ET) (ax ay : Nat → Nat) (x y : VB_t) (az : Nat → Nat) (z : VB_t) (now v2 v3 : Int32) (hx : p.tables.exec = Jvm.exec) (hb : c.code = cL_law) (hml : c.maxLocals = 8) (hown : s.vm.findClass RL = some m.cls) (ha : ∀ w ∈ lw_all, w.before args s = true) (hA : ∀ q, s.heap.size ≤ q → A q) (hz : ∀ q, A q → E.2 0 ≤ q) (hzs : E.2 0 ≤ s.heap.size) (hst : ST E s) (res : VB_t) (hF : f_law4_6 z v2 v3 = some res) {H : Heap} {locs : List Loc} {ls : Array Slot} (hP : va_P E.1 vwCl (List.flatten [w_VB1 E ax 0 x, w_VB1 E ay 0 y, w_VB1 E az 0 z]) H) (hD : va_D A (List.flatten [w_VB1 E ax 0 x, w_VB1 E ay 0 y, w_VB1 E az 0 z])) (hS : va_S A s.heap H locs) (hl : lv_has ls 8 [(0, .ref (E.2 18)), (1, .ref (ax 0)), (2, .ref (ay 0)), (3, .int now), (5, .int v2), (6, .int v3), (7, .ref (az 0))]) (hK : ∀ (H : Heap) (locs : List Loc) (ls : Array Slot), va_P E.1 vwCl (List.flatten [w_VB1 E ax 0 x, w_VB1 E ay 0 y, w_VB1 E az 0 res]) H → va_D A (List.flatten [w_VB1 E ax 0 x, w_VB1 E ay 0 y, w_VB1 E az 0 res]) → va_S A s.heap H locs → lv_has ls 8 [(0, .ref (E.2 18)), (1, .ref (ax 0)), (2, .ref (ay 0)), (3, .int now), (5, .int v2), (6, .int v3), (7, .ref (az 0))] → W p l e room_1 s m args below meth c H locs 3736 24633 Q (F0 m 1000 ls [])) : W p l e room_1 s m args below meth c H locs 3726 24573 Q (F0 m 912 ls []) := by
  unfold f_law4_6 at hF
  refine lv_aload hx hb dL_law_912 (lv_at hl 6 rfl) ?_
  refine lv_iconst (v := 1) hx hb dL_law_914 (by decide) ?_
  refine lv_iconst (v := 2) hx hb dL_law_915 (by decide) ?_
  obtain ⟨q11, hq11, hF⟩ := q_bdi hF
  refine cx_i (ro := q11.1) (Lc := [w_VB1 E az 0 z]) (Lc' := [w_VB1 E az 0 (q11.2)]) (L' := [w_VB1 E ax 0 x, w_VB1 E ay 0 y, w_VB1 E az 0 (q11.2)]) (vx_runV (As := [.int 1, .int 2]) (rest := []) ⟨hx, hb, hml, hown, ha⟩ (kg_X10_addTone l E az 0 z 1 2 q11 hq11 H.size hlt) (cwV 2 ha (gi_V (fun _ h => h) mw625 mw626 mw627 mw26 mw628) rfl rfl rfl hv_X10_addTone ⟨(Nat.le_of_ble_eq_true rfl), (Nat.le_of_ble_eq_true rfl)⟩) ⟨pre_blind, va_recv hst.k (fr_P hP [2] rfl) (ci := 11) (q0 := 0) rfl rfl, pre_at hP hD hS hz hzs hst [2] (by decide) rfl rfl⟩ rfl rfl hl.1 rfl (lv_room (Nat.le_of_ble_eq_true rfl)) dL_law_916 ⟨(Nat.le_of_ble_eq_true rfl), (Nat.le_of_ble_eq_true rfl)⟩) hP hD hS hA [2] (by decide) rfl rfl rfl rfl (fun X ce q9 H locs eX h1 h2 h3 hP hD hS => ?_) (fun r12 H locs er12 hP hD hS => ?_)
  · have hF := q_smr eX hF
    exact absurd hF (by simp)
  have hF := q_sml er12 hF
  refine lv_iconst (v := 1) hx hb dL_law_919 (by decide) ?_
  refine lv_icmp_ne (tgt := 1031) hx hb dL_law_920 (by decide) (fun c920 => ?_) (fun c920 => ?_)
  · have hF := q_brn c920 hF
    exact absurd hF (by simp)
  · have hF := q_brp c920 hF
    refine lv_aload hx hb dL_law_923 (lv_at hl 6 rfl) ?_
    refine lv_iconst (v := 1) hx hb dL_law_925 (by decide) ?_
    refine lv_iconst (v := 1) hx hb dL_law_926 (by decide) ?_
    obtain ⟨q13, hq13, hF⟩ := q_bdi hF
    refine cx_i (ro := q13.1) (Lc := [w_VB1 E az 0 (q11.2)]) (Lc' := [w_VB1 E az 0 (q13.2)]) (L' := [w_VB1 E ax 0 x, w_VB1 E ay 0 y, w_VB1 E az 0 (q13.2)]) (vx_runV (As := [.int 1, .int 1]) (rest := []) ⟨hx, hb, hml, hown, ha⟩ (kg_X10_addTone l E az 0 (q11.2) 1 1 q13 hq13 H.size hlt) (cwV 2 ha (gi_V (fun _ h => h) mw625 mw626 mw627 mw26 mw628) rfl rfl rfl hv_X10_addTone ⟨(Nat.le_of_ble_eq_true rfl), (Nat.le_of_ble_eq_true rfl)⟩) ⟨pre_blind, va_recv hst.k (fr_P hP [2] rfl) (ci := 11) (q0 := 0) rfl rfl, pre_at hP hD hS hz hzs hst [2] (by decide) rfl rfl⟩ rfl rfl hl.1 rfl (lv_room (Nat.le_of_ble_eq_true rfl)) dL_law_927 ⟨(Nat.le_of_ble_eq_true rfl), (Nat.le_of_ble_eq_true rfl)⟩) hP hD hS hA [2] (by decide) rfl rfl rfl rfl (fun X ce q9 H locs eX h1 h2 h3 hP hD hS => ?_) (fun r14 H locs er14 hP hD hS => ?_)
    · have hF := q_smr eX hF
      exact absurd hF (by simp)
    have hF := q_sml er14 hF
    refine lv_iconst (v := 2) hx hb dL_law_930 (by decide) ?_
    refine lv_icmp_ne (tgt := 1031) hx hb dL_law_931 (by decide) (fun c931 => ?_) (fun c931 => ?_)
    · have hF := q_brn c931 hF
      exact absurd hF (by simp)
    · have hF := q_brp c931 hF
      refine lv_aload hx hb dL_law_934 (lv_at hl 6 rfl) ?_
      obtain ⟨q15, hq15, hF⟩ := q_bdi hF
      refine cl_i (Lc := [w_VB1 E az 0 (q13.2)]) (Lc' := [w_VB1 E az 0 (q13.2)]) (L' := [w_VB1 E ax 0 x, w_VB1 E ay 0 y, w_VB1 E az 0 (q13.2)]) (rv := q15) (vx_runSW (As := [.ref (az 0)]) (rest := []) ⟨hx, hb, hml, hown, ha⟩ (k_L_canon l E az 0 (q13.2) q15 hq15 H.size hlt) (vx_cwSW 1 ha (gi_TH (fun _ h => h) mw1188 mw1189 mw25 mw1190) rfl rfl rfl hv_L_canon.2 ⟨(Nat.le_of_ble_eq_true rfl), (Nat.le_of_ble_eq_true rfl)⟩) ⟨pre_blind, pre_at hP hD hS hz hzs hst [2] (by decide) rfl rfl⟩ rfl rfl hl.1 rfl (lv_room (Nat.le_of_ble_eq_true rfl)) dL_law_936 ⟨(Nat.le_of_ble_eq_true rfl), (Nat.le_of_ble_eq_true rfl)⟩) hP hD hS hA [2] (by decide) rfl rfl rfl rfl (fun H locs hP hD hS => ?_)
      refine lv_sipush (v := 1000) hx hb dL_law_939 (by decide) ?_
      refine lv_icmp_ne (tgt := 1031) hx hb dL_law_942 (by decide) (fun c942 => ?_) (fun c942 => ?_)
      · have hF := q_brn c942 hF
        exact absurd hF (by simp)
      · have hF := q_brp c942 hF
        refine lv_aload hx hb dL_law_945 (lv_at hl 6 rfl) ?_
        refine lv_iconst (v := 0) hx hb dL_law_947 (by decide) ?_
        refine lv_iconst (v := 3) hx hb dL_law_948 (by decide) ?_
        obtain ⟨q16, hq16, hF⟩ := q_bdi hF
        refine cx_i (ro := q16.1) (Lc := [w_VB1 E az 0 (q13.2)]) (Lc' := [w_VB1 E az 0 (q16.2)]) (L' := [w_VB1 E ax 0 x, w_VB1 E ay 0 y, w_VB1 E az 0 (q16.2)]) (vx_runV (As := [.int 0, .int 3]) (rest := []) ⟨hx, hb, hml, hown, ha⟩ (kg_X10_moveBell l E az 0 (q13.2) 0 3 q16 hq16 H.size hlt) (cwV 2 ha (gi_V (fun _ h => h) mw601 mw602 mw603 mw26 mw604) rfl rfl rfl hv_X10_moveBell ⟨(Nat.le_of_ble_eq_true rfl), (Nat.le_of_ble_eq_true rfl)⟩) ⟨pre_blind, va_recv hst.k (fr_P hP [2] rfl) (ci := 11) (q0 := 0) rfl rfl, pre_at hP hD hS hz hzs hst [2] (by decide) rfl rfl⟩ rfl rfl hl.1 rfl (lv_room (Nat.le_of_ble_eq_true rfl)) dL_law_949 ⟨(Nat.le_of_ble_eq_true rfl), (Nat.le_of_ble_eq_true rfl)⟩) hP hD hS hA [2] (by decide) rfl rfl rfl rfl (fun X ce q9 H locs eX h1 h2 h3 hP hD hS => ?_) (fun r17 H locs er17 hP hD hS => ?_)
        · have hF := q_smr eX hF
          exact absurd hF (by simp)
        have hF := q_sml er17 hF
        refine lv_if_ne (tgt := 1031) hx hb dL_law_952 (by decide) (fun c952 => ?_) (fun c952 => ?_)
        · have hF := q_brn c952 hF
          exact absurd hF (by simp)
        · have hF := q_brp c952 hF
          refine lv_aload hx hb dL_law_955 (lv_at hl 6 rfl) ?_
          refine lv_iconst (v := 3) hx hb dL_law_957 (by decide) ?_
          refine lv_bipush (v := 11) hx hb dL_law_958 (by decide) ?_
          obtain ⟨q18, hq18, hF⟩ := q_bdi hF
          refine cx_i (ro := q18.1) (Lc := [w_VB1 E az 0 (q16.2)]) (Lc' := [w_VB1 E az 0 (q18.2)]) (L' := [w_VB1 E ax 0 x, w_VB1 E ay 0 y, w_VB1 E az 0 (q18.2)]) (vx_runV (As := [.int 3, .int 11]) (rest := []) ⟨hx, hb, hml, hown, ha⟩ (kg_X10_graze l E az 0 (q16.2) 3 11 q18 hq18 H.size hlt) (cwV 2 ha (gi_V (fun _ h => h) mw607 mw608 mw609 mw26 mw610) rfl rfl rfl hv_X10_graze ⟨(Nat.le_of_ble_eq_true rfl), (Nat.le_of_ble_eq_true rfl)⟩) ⟨pre_blind, va_recv hst.k (fr_P hP [2] rfl) (ci := 11) (q0 := 0) rfl rfl, pre_at hP hD hS hz hzs hst [2] (by decide) rfl rfl⟩ rfl rfl hl.1 rfl (lv_room (Nat.le_of_ble_eq_true rfl)) dL_law_960 ⟨(Nat.le_of_ble_eq_true rfl), (Nat.le_of_ble_eq_true rfl)⟩) hP hD hS hA [2] (by decide) rfl rfl rfl rfl (fun X ce q9 H locs eX h1 h2 h3 hP hD hS => ?_) (fun r19 H locs er19 hP hD hS => ?_)
          · have hF := q_smr eX hF
            exact absurd hF (by simp)
          have hF := q_sml er19 hF
          refine lv_iconst (v := 1) hx hb dL_law_963 (by decide) ?_
          refine lv_icmp_ne (tgt := 1031) hx hb dL_law_964 (by decide) (fun c964 => ?_) (fun c964 => ?_)
          · have hF := q_brn c964 hF
            exact absurd hF (by simp)
          · have hF := q_brp c964 hF
            refine lv_aload hx hb dL_law_967 (lv_at hl 6 rfl) ?_
            refine lv_iconst (v := 0) hx hb dL_law_969 (by decide) ?_
            obtain ⟨q20, hq20, hF⟩ := q_bdi hF
            refine cx_i (ro := q20) (Lc := [w_VB1 E az 0 (q18.2)]) (Lc' := [w_VB1 E az 0 (q18.2)]) (L' := [w_VB1 E ax 0 x, w_VB1 E ay 0 y, w_VB1 E az 0 (q18.2)]) (vx_runV (As := [.int 0]) (rest := []) ⟨hx, hb, hml, hown, ha⟩ (kg_X10_pitch l E az 0 (q18.2) 0 q20 hq20 H.size hlt) (cwV 1 ha (gi_V (fun _ h => h) mw655 mw656 mw657 mw26 mw658) rfl rfl rfl hv_X10_pitch ⟨(Nat.le_of_ble_eq_true rfl), (Nat.le_of_ble_eq_true rfl)⟩) ⟨pre_blind, va_recv hst.k (fr_P hP [2] rfl) (ci := 11) (q0 := 0) rfl rfl, pre_at hP hD hS hz hzs hst [2] (by decide) rfl rfl⟩ rfl rfl hl.1 rfl (lv_room (Nat.le_of_ble_eq_true rfl)) dL_law_970 ⟨(Nat.le_of_ble_eq_true rfl), (Nat.le_of_ble_eq_true rfl)⟩) hP hD hS hA [2] (by decide) rfl rfl rfl rfl (fun X ce q9 H locs eX h1 h2 h3 hP hD hS => ?_) (fun r21 H locs er21 hP hD hS => ?_)
            · have hF := q_smr eX hF
              exact absurd hF (by simp)
            have hF := q_sml er21 hF
            refine lv_sipush (v := 5989) hx hb dL_law_973 (by decide) ?_
            refine lv_icmp_ne (tgt := 1031) hx hb dL_law_976 (by decide) (fun c976 => ?_) (fun c976 => ?_)
            · have hF := q_brn c976 hF
              exact absurd hF (by simp)
            · have hF := q_brp c976 hF
              refine lv_aload hx hb dL_law_979 (lv_at hl 6 rfl) ?_
              refine lv_iconst (v := 0) hx hb dL_law_981 (by decide) ?_
              obtain ⟨q22, hq22, hF⟩ := q_bdi hF
              refine cx_i (ro := q22) (Lc := [w_VB1 E az 0 (q18.2)]) (Lc' := [w_VB1 E az 0 (q18.2)]) (L' := [w_VB1 E ax 0 x, w_VB1 E ay 0 y, w_VB1 E az 0 (q18.2)]) (vx_runV (As := [.int 0]) (rest := []) ⟨hx, hb, hml, hown, ha⟩ (kg_X10_isInKey l E az 0 (q18.2) 0 q22 hq22 H.size hlt) (cwV 1 ha (gi_V (fun _ h => h) mw683 mw684 mw685 mw26 mw686) rfl rfl rfl hv_X10_isInKey ⟨(Nat.le_of_ble_eq_true rfl), (Nat.le_of_ble_eq_true rfl)⟩) ⟨pre_blind, va_recv hst.k (fr_P hP [2] rfl) (ci := 11) (q0 := 0) rfl rfl, pre_at hP hD hS hz hzs hst [2] (by decide) rfl rfl⟩ rfl rfl hl.1 rfl (lv_room (Nat.le_of_ble_eq_true rfl)) dL_law_982 ⟨(Nat.le_of_ble_eq_true rfl), (Nat.le_of_ble_eq_true rfl)⟩) hP hD hS hA [2] (by decide) rfl rfl rfl rfl (fun X ce q9 H locs eX h1 h2 h3 hP hD hS => ?_) (fun r23 H locs er23 hP hD hS => ?_)
              · have hF := q_smr eX hF
                exact absurd hF (by simp)
              have hF := q_sml er23 hF
              refine lv_if_ne (tgt := 1031) hx hb dL_law_985 (by decide) (fun c985 => ?_) (fun c985 => ?_)
              · have hF := q_brn c985 hF
                exact absurd hF (by simp)
              · have hF := q_brp c985 hF
                refine lv_aload hx hb dL_law_988 (lv_at hl 6 rfl) ?_
                refine lv_bipush (v := 11) hx hb dL_law_990 (by decide) ?_
                obtain ⟨q24, hq24, hF⟩ := q_bdi hF
                refine cx_i (ro := q24.1) (Lc := [w_VB1 E az 0 (q18.2)]) (Lc' := [w_VB1 E az 0 (q24.2)]) (L' := [w_VB1 E ax 0 x, w_VB1 E ay 0 y, w_VB1 E az 0 (q24.2)]) (vx_runV (As := [.int 11]) (rest := []) ⟨hx, hb, hml, hown, ha⟩ (kg_X10_setTolerance l E az 0 (q18.2) 11 q24 hq24 H.size hlt) (cwV 1 ha (gi_V (fun _ h => h) mw619 mw620 mw621 mw26 mw622) rfl rfl rfl hv_X10_setTolerance ⟨(Nat.le_of_ble_eq_true rfl), (Nat.le_of_ble_eq_true rfl)⟩) ⟨pre_blind, va_recv hst.k (fr_P hP [2] rfl) (ci := 11) (q0 := 0) rfl rfl, pre_at hP hD hS hz hzs hst [2] (by decide) rfl rfl⟩ rfl rfl hl.1 rfl (lv_room (Nat.le_of_ble_eq_true rfl)) dL_law_992 ⟨(Nat.le_of_ble_eq_true rfl), (Nat.le_of_ble_eq_true rfl)⟩) hP hD hS hA [2] (by decide) rfl rfl rfl rfl (fun X ce q9 H locs eX h1 h2 h3 hP hD hS => ?_) (fun r25 H locs er25 hP hD hS => ?_)
                · have hF := q_smr eX hF
                  exact absurd hF (by simp)
                have hF := q_sml er25 hF
                refine lv_bipush (v := 10) hx hb dL_law_995 (by decide) ?_
                refine lv_icmp_ne (tgt := 1031) hx hb dL_law_997 (by decide) (fun c997 => ?_) (fun c997 => ?_)
                · have hF := q_brn c997 hF
                  exact absurd hF (by simp)
                · have hF := q_brp c997 hF
                  obtain rfl := Option.some.inj hF
                  exact hK H locs ls hP hD hS (lv_sub hl [0, 1, 2, 3, 4, 5, 6] rfl)
