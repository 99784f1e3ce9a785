theorem dL_law_442 : decode cL_law 442 = .ok (.aload 7, 2) := by decide +kernel
theorem dL_law_444 : decode cL_law 444 = .ok (.iconst 0, 1) := by decide +kernel
theorem dL_law_445 : decode cL_law 445 = .ok (.iconst 4, 1) := by decide +kernel
theorem dL_law_446 : decode cL_law 446 = .ok (.sipush 6000, 3) := by decide +kernel
theorem dL_law_449 : decode cL_law 449 = .ok (.invokestatic 30, 3) := by decide +kernel
theorem dL_law_452 : decode cL_law 452 = .ok (.sipush (-300), 3) := by decide +kernel
theorem dL_law_455 : decode cL_law 455 = .ok (.if_icmp .ne 17, 3) := by decide +kernel
theorem dL_law_458 : decode cL_law 458 = .ok (.aload 7, 2) := by decide +kernel
theorem dL_law_460 : decode cL_law 460 = .ok (.iconst 1, 1) := by decide +kernel
theorem dL_law_461 : decode cL_law 461 = .ok (.iconst 0, 1) := by decide +kernel
theorem dL_law_462 : decode cL_law 462 = .ok (.iconst 0, 1) := by decide +kernel
theorem dL_law_463 : decode cL_law 463 = .ok (.invokestatic 30, 3) := by decide +kernel
theorem dL_law_466 : decode cL_law 466 = .ok (.sipush (-300), 3) := by decide +kernel
theorem dL_law_469 : decode cL_law 469 = .ok (.if_icmp .eq 5, 3) := by decide +kernel
theorem dL_law_474 : decode cL_law 474 = .ok (.aload 7, 2) := by decide +kernel
theorem dL_law_476 : decode cL_law 476 = .ok (.ldc 225, 2) := by decide +kernel
theorem dL_law_478 : decode cL_law 478 = .ok (.invokestatic 159, 3) := by decide +kernel
theorem dL_law_481 : decode cL_law 481 = .ok (.aload 7, 2) := by decide +kernel
theorem dL_law_483 : decode cL_law 483 = .ok (.invokevirtual 163, 3) := by decide +kernel
theorem dL_law_486 : decode cL_law 486 = .ok (.iconst 5, 1) := by decide +kernel
theorem dL_law_487 : decode cL_law 487 = .ok (.if_icmp .ne 155, 3) := by decide +kernel
theorem dL_law_490 : decode cL_law 490 = .ok (.aload 7, 2) := by decide +kernel
theorem dL_law_492 : decode cL_law 492 = .ok (.iconst 1, 1) := by decide +kernel
theorem dL_law_493 : decode cL_law 493 = .ok (.iconst 2, 1) := by decide +kernel
theorem dL_law_494 : decode cL_law 494 = .ok (.invokevirtual 66, 3) := by decide +kernel
theorem dL_law_497 : decode cL_law 497 = .ok (.iconst 1, 1) := by decide +kernel
theorem dL_law_498 : decode cL_law 498 = .ok (.if_icmp .ne 144, 3) := by decide +kernel
theorem dL_law_501 : decode cL_law 501 = .ok (.aload 7, 2) := by decide +kernel
theorem dL_law_503 : decode cL_law 503 = .ok (.iconst 2, 1) := by decide +kernel
theorem dL_law_504 : decode cL_law 504 = .ok (.invokevirtual 227, 3) := by decide +kernel
theorem dL_law_507 : decode cL_law 507 = .ok (.bipush 67, 2) := by decide +kernel
theorem dL_law_509 : decode cL_law 509 = .ok (.if_icmp .ne 133, 3) := by decide +kernel
theorem dL_law_512 : decode cL_law 512 = .ok (.aload 7, 2) := by decide +kernel
theorem dL_law_514 : decode cL_law 514 = .ok (.iconst 2, 1) := by decide +kernel
theorem dL_law_515 : decode cL_law 515 = .ok (.invokevirtual 230, 3) := by decide +kernel
theorem dL_law_518 : decode cL_law 518 = .ok (.bipush (-50), 2) := by decide +kernel
theorem dL_law_520 : decode cL_law 520 = .ok (.if_icmp .ne 122, 3) := by decide +kernel
theorem dL_law_523 : decode cL_law 523 = .ok (.aload 7, 2) := by decide +kernel
theorem dL_law_525 : decode cL_law 525 = .ok (.iconst 2, 1) := by decide +kernel
theorem dL_law_526 : decode cL_law 526 = .ok (.invokevirtual 233, 3) := by decide +kernel
theorem dL_law_529 : decode cL_law 529 = .ok (.ifCond .ne 113, 3) := by decide +kernel
def f_law4_1 (z_v : VB_t) (v2 : Int32) (v3 : Int32) : Option (VB_t) :=
  q_bd (f_L_act z_v 0 4 6000) (fun q11 =>
  q_br (q11.1 = (-300)) (
  q_bd (f_L_act q11.2 1 0 0) (fun q12 =>
  q_br (q12.1 = (-300)) (
  q_bd (f_L_put q12.2 26) (fun q13 =>
  q_bd (g_X10_run q13) (fun q14 =>
  q_sm q14.1 (fun _ => none) (fun r15 =>
  q_br (r15 = 5) (
  q_bd (g_X10_addTone q14.2 1 2) (fun q16 =>
  q_sm q16.1 (fun _ => none) (fun r17 =>
  q_br (r17 = 1) (
  q_bd (g_X10_nearestNote q16.2 2) (fun q18 =>
  q_sm q18 (fun _ => none) (fun r19 =>
  q_br (r19 = 67) (
  q_bd (g_X10_deviation q16.2 2) (fun q20 =>
  q_sm q20 (fun _ => none) (fun r21 =>
  q_br (r21 = (-50)) (
  q_bd (g_X10_isInKey q16.2 2) (fun q22 =>
  q_sm q22 (fun _ => none) (fun r23 =>
  q_br (r23 = 0) (
  some q16.2) (
  none)))) (
  none)))) (
  none)))) (
  none)))) (
  none))))) (
  none))) (
  none))
set_option maxHeartbeats 40000000 in
set_option maxRecDepth 100000 in
theorem kl_law4_1 {p : Program} {e : Env} {s : State} {m : MethodId} {args : Array Value} {below : List Frame} {meth : Method} {c : Code} {Q : State → Prop} {A : Nat → Prop} (l : Launch) (hlt : l.stackTraces = false) (E : ET) (ax ay : Nat → Nat) (x y : VB_t) (az : Nat → Nat) (z : VB_t) (now v2 v3 : Int32) (hx : p.tables.exec = Jvm.exec) (hb : c.code = cL_law) (hml : c.maxLocals = 8) (hown : s.vm.findClass RL = some m.cls) (ha : ∀ w ∈ lw_all, w.before args s = true) (hA : ∀ q, s.heap.size ≤ q → A q) (hz : ∀ q, A q → E.2 0 ≤ q) (hzs : E.2 0 ≤ s.heap.size) (hst : ST E s) (res : VB_t) (hF : f_law4_1 z v2 v3 = some res) {H : Heap} {locs : List Loc} {ls : Array Slot} (hP : va_P E.1 vwCl (List.flatten [w_VB1 E ax 0 x, w_VB1 E ay 0 y, w_VB1 E az 0 z]) H) (hD : va_D A (List.flatten [w_VB1 E ax 0 x, w_VB1 E ay 0 y, w_VB1 E az 0 z])) (hS : va_S A s.heap H locs) (hl : lv_has ls 8 [(0, .ref (E.2 18)), (1, .ref (ax 0)), (2, .ref (ay 0)), (3, .int now), (5, .int v2), (6, .int v3), (7, .ref (az 0))]) (hK : ∀ (H : Heap) (locs : List Loc) (ls : Array Slot), va_P E.1 vwCl (List.flatten [w_VB1 E ax 0 x, w_VB1 E ay 0 y, w_VB1 E az 0 res]) H → va_D A (List.flatten [w_VB1 E ax 0 x, w_VB1 E ay 0 y, w_VB1 E az 0 res]) → va_S A s.heap H locs → lv_has ls 8 [(0, .ref (E.2 18)), (1, .ref (ax 0)), (2, .ref (ay 0)), (3, .int now), (5, .int v2), (6, .int v3), (7, .ref (az 0))] → W p l e room_1 s m args below meth c H locs 3703 24435 Q (F0 m 532 ls [])) : W p l e room_1 s m args below meth c H locs 3632 24009 Q (F0 m 442 ls []) := by
  unfold f_law4_1 at hF
  refine lv_aload hx hb dL_law_442 (lv_at hl 6 rfl) ?_
  refine lv_iconst (v := 0) hx hb dL_law_444 (by decide) ?_
  refine lv_iconst (v := 4) hx hb dL_law_445 (by decide) ?_
  refine lv_sipush (v := 6000) hx hb dL_law_446 (by decide) ?_
  obtain ⟨q11, hq11, hF⟩ := q_bdi hF
  refine cl_i (Lc := [w_VB1 E az 0 z]) (Lc' := [w_VB1 E az 0 (q11.2)]) (L' := [w_VB1 E ax 0 x, w_VB1 E ay 0 y, w_VB1 E az 0 (q11.2)]) (rv := q11.1) (vx_runSW (As := [.ref (az 0), .int 0, .int 4, .int 6000]) (rest := []) ⟨hx, hb, hml, hown, ha⟩ (k_L_act l E az 0 z 0 4 6000 q11 hq11 H.size hlt) (vx_cwSW 4 ha (gi_TH (fun _ h => h) mw1111 mw1112 mw25 mw1113) rfl rfl rfl hv_L_act.2 ⟨(Nat.le_of_ble_eq_true rfl), (Nat.le_of_ble_eq_true rfl)⟩) ⟨pre_blind, pre_at hP hD hS hz hzs hst [2] (by decide) rfl rfl⟩ rfl rfl hl.1 rfl (lv_room (Nat.le_of_ble_eq_true rfl)) dL_law_449 ⟨(Nat.le_of_ble_eq_true rfl), (Nat.le_of_ble_eq_true rfl)⟩) hP hD hS hA [2] (by decide) rfl rfl rfl rfl (fun H locs hP hD hS => ?_)
  refine lv_sipush (v := (-300)) hx hb dL_law_452 (by decide) ?_
  refine lv_icmp_ne (tgt := 472) hx hb dL_law_455 (by decide) (fun c455 => ?_) (fun c455 => ?_)
  · have hF := q_brn c455 hF
    exact absurd hF (by simp)
  · have hF := q_brp c455 hF
    refine lv_aload hx hb dL_law_458 (lv_at hl 6 rfl) ?_
    refine lv_iconst (v := 1) hx hb dL_law_460 (by decide) ?_
    refine lv_iconst (v := 0) hx hb dL_law_461 (by decide) ?_
    refine lv_iconst (v := 0) hx hb dL_law_462 (by decide) ?_
    obtain ⟨q12, hq12, hF⟩ := q_bdi hF
    refine cl_i (Lc := [w_VB1 E az 0 (q11.2)]) (Lc' := [w_VB1 E az 0 (q12.2)]) (L' := [w_VB1 E ax 0 x, w_VB1 E ay 0 y, w_VB1 E az 0 (q12.2)]) (rv := q12.1) (vx_runSW (As := [.ref (az 0), .int 1, .int 0, .int 0]) (rest := []) ⟨hx, hb, hml, hown, ha⟩ (k_L_act l E az 0 (q11.2) 1 0 0 q12 hq12 H.size hlt) (vx_cwSW 4 ha (gi_TH (fun _ h => h) mw1111 mw1112 mw25 mw1113) rfl rfl rfl hv_L_act.2 ⟨(Nat.le_of_ble_eq_true rfl), (Nat.le_of_ble_eq_true rfl)⟩) ⟨pre_blind, pre_at hP hD hS hz hzs hst [2] (by decide) rfl rfl⟩ rfl rfl hl.1 rfl (lv_room (Nat.le_of_ble_eq_true rfl)) dL_law_463 ⟨(Nat.le_of_ble_eq_true rfl), (Nat.le_of_ble_eq_true rfl)⟩) hP hD hS hA [2] (by decide) rfl rfl rfl rfl (fun H locs hP hD hS => ?_)
    refine lv_sipush (v := (-300)) hx hb dL_law_466 (by decide) ?_
    refine lv_icmp_eq (tgt := 474) hx hb dL_law_469 (by decide) (fun c469 => ?_) (fun c469 => ?_)
    · have hF := q_brp c469 hF
      refine lv_aload hx hb dL_law_474 (lv_at hl 6 rfl) ?_
      refine va_ldcS (q := E.2 (200 + 26)) hx hb hown (hst.sr (sL_225 E)) dL_law_476 ?_
      obtain ⟨q13, hq13, hF⟩ := q_bdi hF
      refine cl_v (Lc := [w_VB1 E az 0 (q12.2)]) (Lc' := [w_VB1 E az 0 (q13)]) (L' := [w_VB1 E ax 0 x, w_VB1 E ay 0 y, w_VB1 E az 0 (q13)]) (va_runS (As := [.ref (az 0), .ref (E.2 (200 + 26))]) (rest := []) ⟨hx, hb, hml, hown, ha⟩ (k_L_put l E az 0 (q12.2) 26 q13 hq13 H.size hlt) (cwS 2 ha (gi_S (fun _ h => h) mw1089 mw1090 mw25 mw1091) rfl rfl rfl hv_L_put ⟨(Nat.le_of_ble_eq_true rfl), (Nat.le_of_ble_eq_true rfl)⟩) ⟨pre_blind, pre_at hP hD hS hz hzs hst [2] (by decide) rfl rfl⟩ rfl rfl hl.1 rfl (lv_room (Nat.le_of_ble_eq_true rfl)) dL_law_478 ⟨(Nat.le_of_ble_eq_true rfl), (Nat.le_of_ble_eq_true rfl)⟩) hP hD hS hA [2] (by decide) rfl rfl rfl rfl (fun H locs hP hD hS => ?_)
      refine lv_aload hx hb dL_law_481 (lv_at hl 6 rfl) ?_
      obtain ⟨q14, hq14, hF⟩ := q_bdi hF
      refine cx_i (ro := q14.1) (Lc := [w_VB1 E az 0 (q13)]) (Lc' := [w_VB1 E az 0 (q14.2)]) (L' := [w_VB1 E ax 0 x, w_VB1 E ay 0 y, w_VB1 E az 0 (q14.2)]) (vx_runV (As := []) (rest := []) ⟨hx, hb, hml, hown, ha⟩ (kg_X10_run l E az 0 (q13) q14 hq14 H.size hlt) (cwV 0 ha (gi_V (fun _ h => h) mw937 mw938 mw939 mw26 mw940) rfl rfl rfl hv_X10_run ⟨(Nat.le_of_ble_eq_true rfl), (Nat.le_of_ble_eq_true rfl)⟩) ⟨pre_blind, va_recv hst.k (fr_P hP [2] rfl) (ci := 11) (q0 := 0) rfl rfl, pre_at hP hD hS hz hzs hst [2] (by decide) rfl rfl⟩ rfl rfl hl.1 rfl (lv_room (Nat.le_of_ble_eq_true rfl)) dL_law_483 ⟨(Nat.le_of_ble_eq_true rfl), (Nat.le_of_ble_eq_true rfl)⟩) hP hD hS hA [2] (by decide) rfl rfl rfl rfl (fun X ce q9 H locs eX h1 h2 h3 hP hD hS => ?_) (fun r15 H locs er15 hP hD hS => ?_)
      · have hF := q_smr eX hF
        exact absurd hF (by simp)
      have hF := q_sml er15 hF
      refine lv_iconst (v := 5) hx hb dL_law_486 (by decide) ?_
      refine lv_icmp_ne (tgt := 642) hx hb dL_law_487 (by decide) (fun c487 => ?_) (fun c487 => ?_)
      · have hF := q_brn c487 hF
        exact absurd hF (by simp)
      · have hF := q_brp c487 hF
        refine lv_aload hx hb dL_law_490 (lv_at hl 6 rfl) ?_
        refine lv_iconst (v := 1) hx hb dL_law_492 (by decide) ?_
        refine lv_iconst (v := 2) hx hb dL_law_493 (by decide) ?_
        obtain ⟨q16, hq16, hF⟩ := q_bdi hF
        refine cx_i (ro := q16.1) (Lc := [w_VB1 E az 0 (q14.2)]) (Lc' := [w_VB1 E az 0 (q16.2)]) (L' := [w_VB1 E ax 0 x, w_VB1 E ay 0 y, w_VB1 E az 0 (q16.2)]) (vx_runV (As := [.int 1, .int 2]) (rest := []) ⟨hx, hb, hml, hown, ha⟩ (kg_X10_addTone l E az 0 (q14.2) 1 2 q16 hq16 H.size hlt) (cwV 2 ha (gi_V (fun _ h => h) mw625 mw626 mw627 mw26 mw628) rfl rfl rfl hv_X10_addTone ⟨(Nat.le_of_ble_eq_true rfl), (Nat.le_of_ble_eq_true rfl)⟩) ⟨pre_blind, va_recv hst.k (fr_P hP [2] rfl) (ci := 11) (q0 := 0) rfl rfl, pre_at hP hD hS hz hzs hst [2] (by decide) rfl rfl⟩ rfl rfl hl.1 rfl (lv_room (Nat.le_of_ble_eq_true rfl)) dL_law_494 ⟨(Nat.le_of_ble_eq_true rfl), (Nat.le_of_ble_eq_true rfl)⟩) hP hD hS hA [2] (by decide) rfl rfl rfl rfl (fun X ce q9 H locs eX h1 h2 h3 hP hD hS => ?_) (fun r17 H locs er17 hP hD hS => ?_)
        · have hF := q_smr eX hF
          exact absurd hF (by simp)
        have hF := q_sml er17 hF
        refine lv_iconst (v := 1) hx hb dL_law_497 (by decide) ?_
        refine lv_icmp_ne (tgt := 642) hx hb dL_law_498 (by decide) (fun c498 => ?_) (fun c498 => ?_)
        · have hF := q_brn c498 hF
          exact absurd hF (by simp)
        · have hF := q_brp c498 hF
          refine lv_aload hx hb dL_law_501 (lv_at hl 6 rfl) ?_
          refine lv_iconst (v := 2) hx hb dL_law_503 (by decide) ?_
          obtain ⟨q18, hq18, hF⟩ := q_bdi hF
          refine cx_i (ro := q18) (Lc := [w_VB1 E az 0 (q16.2)]) (Lc' := [w_VB1 E az 0 (q16.2)]) (L' := [w_VB1 E ax 0 x, w_VB1 E ay 0 y, w_VB1 E az 0 (q16.2)]) (vx_runV (As := [.int 2]) (rest := []) ⟨hx, hb, hml, hown, ha⟩ (kg_X10_nearestNote l E az 0 (q16.2) 2 q18 hq18 H.size hlt) (cwV 1 ha (gi_V (fun _ h => h) mw665 mw666 mw667 mw26 mw668) rfl rfl rfl hv_X10_nearestNote ⟨(Nat.le_of_ble_eq_true rfl), (Nat.le_of_ble_eq_true rfl)⟩) ⟨pre_blind, va_recv hst.k (fr_P hP [2] rfl) (ci := 11) (q0 := 0) rfl rfl, pre_at hP hD hS hz hzs hst [2] (by decide) rfl rfl⟩ rfl rfl hl.1 rfl (lv_room (Nat.le_of_ble_eq_true rfl)) dL_law_504 ⟨(Nat.le_of_ble_eq_true rfl), (Nat.le_of_ble_eq_true rfl)⟩) hP hD hS hA [2] (by decide) rfl rfl rfl rfl (fun X ce q9 H locs eX h1 h2 h3 hP hD hS => ?_) (fun r19 H locs er19 hP hD hS => ?_)
          · have hF := q_smr eX hF
            exact absurd hF (by simp)
          have hF := q_sml er19 hF
          refine lv_bipush (v := 67) hx hb dL_law_507 (by decide) ?_
          refine lv_icmp_ne (tgt := 642) hx hb dL_law_509 (by decide) (fun c509 => ?_) (fun c509 => ?_)
          · have hF := q_brn c509 hF
            exact absurd hF (by simp)
          · have hF := q_brp c509 hF
            refine lv_aload hx hb dL_law_512 (lv_at hl 6 rfl) ?_
            refine lv_iconst (v := 2) hx hb dL_law_514 (by decide) ?_
            obtain ⟨q20, hq20, hF⟩ := q_bdi hF
            refine cx_i (ro := q20) (Lc := [w_VB1 E az 0 (q16.2)]) (Lc' := [w_VB1 E az 0 (q16.2)]) (L' := [w_VB1 E ax 0 x, w_VB1 E ay 0 y, w_VB1 E az 0 (q16.2)]) (vx_runV (As := [.int 2]) (rest := []) ⟨hx, hb, hml, hown, ha⟩ (kg_X10_deviation l E az 0 (q16.2) 2 q20 hq20 H.size hlt) (cwV 1 ha (gi_V (fun _ h => h) mw674 mw675 mw676 mw26 mw677) rfl rfl rfl hv_X10_deviation ⟨(Nat.le_of_ble_eq_true rfl), (Nat.le_of_ble_eq_true rfl)⟩) ⟨pre_blind, va_recv hst.k (fr_P hP [2] rfl) (ci := 11) (q0 := 0) rfl rfl, pre_at hP hD hS hz hzs hst [2] (by decide) rfl rfl⟩ rfl rfl hl.1 rfl (lv_room (Nat.le_of_ble_eq_true rfl)) dL_law_515 ⟨(Nat.le_of_ble_eq_true rfl), (Nat.le_of_ble_eq_true rfl)⟩) hP hD hS hA [2] (by decide) rfl rfl rfl rfl (fun X ce q9 H locs eX h1 h2 h3 hP hD hS => ?_) (fun r21 H locs er21 hP hD hS => ?_)
            · have hF := q_smr eX hF
              exact absurd hF (by simp)
            have hF := q_sml er21 hF
            refine lv_bipush (v := (-50)) hx hb dL_law_518 (by decide) ?_
            refine lv_icmp_ne (tgt := 642) hx hb dL_law_520 (by decide) (fun c520 => ?_) (fun c520 => ?_)
            · have hF := q_brn c520 hF
              exact absurd hF (by simp)
            · have hF := q_brp c520 hF
              refine lv_aload hx hb dL_law_523 (lv_at hl 6 rfl) ?_
              refine lv_iconst (v := 2) hx hb dL_law_525 (by decide) ?_
              obtain ⟨q22, hq22, hF⟩ := q_bdi hF
              refine cx_i (ro := q22) (Lc := [w_VB1 E az 0 (q16.2)]) (Lc' := [w_VB1 E az 0 (q16.2)]) (L' := [w_VB1 E ax 0 x, w_VB1 E ay 0 y, w_VB1 E az 0 (q16.2)]) (vx_runV (As := [.int 2]) (rest := []) ⟨hx, hb, hml, hown, ha⟩ (kg_X10_isInKey l E az 0 (q16.2) 2 q22 hq22 H.size hlt) (cwV 1 ha (gi_V (fun _ h => h) mw683 mw684 mw685 mw26 mw686) rfl rfl rfl hv_X10_isInKey ⟨(Nat.le_of_ble_eq_true rfl), (Nat.le_of_ble_eq_true rfl)⟩) ⟨pre_blind, va_recv hst.k (fr_P hP [2] rfl) (ci := 11) (q0 := 0) rfl rfl, pre_at hP hD hS hz hzs hst [2] (by decide) rfl rfl⟩ rfl rfl hl.1 rfl (lv_room (Nat.le_of_ble_eq_true rfl)) dL_law_526 ⟨(Nat.le_of_ble_eq_true rfl), (Nat.le_of_ble_eq_true rfl)⟩) hP hD hS hA [2] (by decide) rfl rfl rfl rfl (fun X ce q9 H locs eX h1 h2 h3 hP hD hS => ?_) (fun r23 H locs er23 hP hD hS => ?_)
              · have hF := q_smr eX hF
                exact absurd hF (by simp)
              have hF := q_sml er23 hF
              refine lv_if_ne (tgt := 642) hx hb dL_law_529 (by decide) (fun c529 => ?_) (fun c529 => ?_)
              · have hF := q_brn c529 hF
                exact absurd hF (by simp)
              · have hF := q_brp c529 hF
                obtain rfl := Option.some.inj hF
                exact hK H locs ls hP hD hS (lv_sub hl [0, 1, 2, 3, 4, 5, 6] rfl)
    · have hF := q_brn c469 hF
      exact absurd hF (by simp)
