theorem dL_law_532 : decode cL_law 532 = .ok (.aload 7, 2) := by decide +kernel
theorem dL_law_534 : decode cL_law 534 = .ok (.iconst 1, 1) := by decide +kernel
theorem dL_law_535 : decode cL_law 535 = .ok (.invokevirtual 233, 3) := by decide +kernel
theorem dL_law_538 : decode cL_law 538 = .ok (.ifCond .eq 104, 3) := by decide +kernel
theorem dL_law_541 : decode cL_law 541 = .ok (.aload 7, 2) := by decide +kernel
theorem dL_law_543 : decode cL_law 543 = .ok (.invokevirtual 205, 3) := by decide +kernel
theorem dL_law_546 : decode cL_law 546 = .ok (.ifCond .ne 96, 3) := by decide +kernel
theorem dL_law_549 : decode cL_law 549 = .ok (.aload 7, 2) := by decide +kernel
theorem dL_law_551 : decode cL_law 551 = .ok (.iconst 2, 1) := by decide +kernel
theorem dL_law_552 : decode cL_law 552 = .ok (.invokevirtual 235, 3) := by decide +kernel
theorem dL_law_555 : decode cL_law 555 = .ok (.bipush 50, 2) := by decide +kernel
theorem dL_law_557 : decode cL_law 557 = .ok (.if_icmp .ne 85, 3) := by decide +kernel
theorem dL_law_560 : decode cL_law 560 = .ok (.aload 7, 2) := by decide +kernel
theorem dL_law_562 : decode cL_law 562 = .ok (.iconst 2, 1) := by decide +kernel
theorem dL_law_563 : decode cL_law 563 = .ok (.invokevirtual 238, 3) := by decide +kernel
theorem dL_law_566 : decode cL_law 566 = .ok (.bipush 50, 2) := by decide +kernel
theorem dL_law_568 : decode cL_law 568 = .ok (.if_icmp .ne 74, 3) := by decide +kernel
theorem dL_law_571 : decode cL_law 571 = .ok (.aload 7, 2) := by decide +kernel
theorem dL_law_573 : decode cL_law 573 = .ok (.iconst 0, 1) := by decide +kernel
theorem dL_law_574 : decode cL_law 574 = .ok (.invokevirtual 241, 3) := by decide +kernel
theorem dL_law_577 : decode cL_law 577 = .ok (.ifCond .ne 65, 3) := by decide +kernel
theorem dL_law_580 : decode cL_law 580 = .ok (.aload 7, 2) := by decide +kernel
theorem dL_law_582 : decode cL_law 582 = .ok (.iconst 0, 1) := by decide +kernel
theorem dL_law_583 : decode cL_law 583 = .ok (.invokevirtual 215, 3) := by decide +kernel
theorem dL_law_586 : decode cL_law 586 = .ok (.iconst 2, 1) := by decide +kernel
theorem dL_law_587 : decode cL_law 587 = .ok (.if_icmp .ne 55, 3) := by decide +kernel
theorem dL_law_590 : decode cL_law 590 = .ok (.aload 7, 2) := by decide +kernel
theorem dL_law_592 : decode cL_law 592 = .ok (.iconst 0, 1) := by decide +kernel
theorem dL_law_593 : decode cL_law 593 = .ok (.invokevirtual 244, 3) := by decide +kernel
theorem dL_law_596 : decode cL_law 596 = .ok (.ifCond .ne 46, 3) := by decide +kernel
theorem dL_law_599 : decode cL_law 599 = .ok (.aload 7, 2) := by decide +kernel
theorem dL_law_601 : decode cL_law 601 = .ok (.invokevirtual 247, 3) := by decide +kernel
theorem dL_law_604 : decode cL_law 604 = .ok (.iconst 1, 1) := by decide +kernel
theorem dL_law_605 : decode cL_law 605 = .ok (.if_icmp .ne 37, 3) := by decide +kernel
def f_law4_2 (z_v : VB_t) (v2 : Int32) (v3 : Int32) : Option (VB_t) :=
  q_bd (g_X10_isInKey z_v 1) (fun q11 =>
  q_sm q11 (fun _ => none) (fun r12 =>
  q_br (r12 = 0) (
  none) (
  q_bd (g_X10_isTuned z_v) (fun q13 =>
  q_br (q13 = 0) (
  q_bd (g_X10_centsToKey z_v 2) (fun q14 =>
  q_sm q14 (fun _ => none) (fun r15 =>
  q_br (r15 = 50) (
  q_bd (g_X10_centsToKeyByNotes z_v 2) (fun q16 =>
  q_sm q16 (fun _ => none) (fun r17 =>
  q_br (r17 = 50) (
  q_bd (g_X10_thirds z_v 0) (fun q18 =>
  q_br (q18.1 = 0) (
  q_bd (g_X10_chordSize q18.2 0) (fun q19 =>
  q_br (q19.1 = 2) (
  q_bd (g_X10_dissonances q19.2 0) (fun q20 =>
  q_br (q20.1 = 0) (
  q_bd (g_X10_lastBeat q20.2) (fun q21 =>
  q_sm q21.1 (fun _ => none) (fun r22 =>
  q_br (r22 = 1) (
  some q21.2) (
  none)))) (
  none))) (
  none))) (
  none))) (
  none)))) (
  none)))) (
  none)))))
set_option maxHeartbeats 40000000 in
set_option maxRecDepth 100000 in
theorem kl_law4_2 {p : Program} {e : Env} {s : State} {m : MethodId} {args : Array Value} {below : List Frame} {meth : Method} {c : Code} {Q : State → Prop} {A : Nat → Prop} (l : Launch) (hlt : l.stackTraces = false) (E : ET) (ax ay : Nat → Nat) (x y : VB_t) (az : Nat → Nat) (z : VB_t) (now v2 v3 : Int32) (hx : p.tables.exec = Jvm.exec) (hb : c.code = cL_law) (hml : c.maxLocals = 8) (hown : s.vm.findClass RL = some m.cls) (ha : ∀ w ∈ lw_all, w.before args s = true) (hA : ∀ q, s.heap.size ≤ q → A q) (hz : ∀ q, A q → E.2 0 ≤ q) (hzs : E.2 0 ≤ s.heap.size) (hst : ST E s) (res : VB_t) (hF : f_law4_2 z v2 v3 = some res) {H : Heap} {locs : List Loc} {ls : Array Slot} (hP : va_P E.1 vwCl (List.flatten [w_VB1 E ax 0 x, w_VB1 E ay 0 y, w_VB1 E az 0 z]) H) (hD : va_D A (List.flatten [w_VB1 E ax 0 x, w_VB1 E ay 0 y, w_VB1 E az 0 z])) (hS : va_S A s.heap H locs) (hl : lv_has ls 8 [(0, .ref (E.2 18)), (1, .ref (ax 0)), (2, .ref (ay 0)), (3, .int now), (5, .int v2), (6, .int v3), (7, .ref (az 0))]) (hK : ∀ (H : Heap) (locs : List Loc) (ls : Array Slot), va_P E.1 vwCl (List.flatten [w_VB1 E ax 0 x, w_VB1 E ay 0 y, w_VB1 E az 0 res]) H → va_D A (List.flatten [w_VB1 E ax 0 x, w_VB1 E ay 0 y, w_VB1 E az 0 res]) → va_S A s.heap H locs → lv_has ls 8 [(0, .ref (E.2 18)), (1, .ref (ax 0)), (2, .ref (ay 0)), (3, .int now), (5, .int v2), (6, .int v3), (7, .ref (az 0))] → W p l e room_1 s m args below meth c H locs 3707 24459 Q (F0 m 608 ls [])) : W p l e room_1 s m args below meth c H locs 3703 24435 Q (F0 m 532 ls []) := by
  unfold f_law4_2 at hF
  refine lv_aload hx hb dL_law_532 (lv_at hl 6 rfl) ?_
  refine lv_iconst (v := 1) hx hb dL_law_534 (by decide) ?_
  obtain ⟨q11, hq11, hF⟩ := q_bdi hF
  refine cx_i (ro := q11) (Lc := [w_VB1 E az 0 z]) (Lc' := [w_VB1 E az 0 z]) (L' := [w_VB1 E ax 0 x, w_VB1 E ay 0 y, w_VB1 E az 0 z]) (vx_runV (As := [.int 1]) (rest := []) ⟨hx, hb, hml, hown, ha⟩ (kg_X10_isInKey l E az 0 z 1 q11 hq11 H.size hlt) (cwV 1 ha (gi_V (fun _ h => h) mw683 mw684 mw685 mw26 mw686) rfl rfl rfl hv_X10_isInKey ⟨(Nat.le_of_ble_eq_true rfl), (Nat.le_of_ble_eq_true rfl)⟩) ⟨pre_blind, va_recv hst.k (fr_P hP [2] rfl) (ci := 11) (q0 := 0) rfl rfl, pre_at hP hD hS hz hzs hst [2] (by decide) rfl rfl⟩ rfl rfl hl.1 rfl (lv_room (Nat.le_of_ble_eq_true rfl)) dL_law_535 ⟨(Nat.le_of_ble_eq_true rfl), (Nat.le_of_ble_eq_true rfl)⟩) hP hD hS hA [2] (by decide) rfl rfl rfl rfl (fun X ce q9 H locs eX h1 h2 h3 hP hD hS => ?_) (fun r12 H locs er12 hP hD hS => ?_)
  · have hF := q_smr eX hF
    exact absurd hF (by simp)
  have hF := q_sml er12 hF
  refine lv_if_eq (tgt := 642) hx hb dL_law_538 (by decide) (fun c538 => ?_) (fun c538 => ?_)
  · have hF := q_brp c538 hF
    exact absurd hF (by simp)
  · have hF := q_brn c538 hF
    refine lv_aload hx hb dL_law_541 (lv_at hl 6 rfl) ?_
    obtain ⟨q13, hq13, hF⟩ := q_bdi hF
    refine cl_i (Lc := [w_VB1 E az 0 z]) (Lc' := [w_VB1 E az 0 z]) (L' := [w_VB1 E ax 0 x, w_VB1 E ay 0 y, w_VB1 E az 0 z]) (rv := q13) (va_runV (As := []) (rest := []) ⟨hx, hb, hml, hown, ha⟩ (kg_X10_isTuned l E az 0 z q13 hq13 H.size) (cwV 0 ha (gi_V (fun _ h => h) mw688 mw689 mw690 mw26 mw691) rfl rfl rfl hv_X10_isTuned ⟨(Nat.le_of_ble_eq_true rfl), (Nat.le_of_ble_eq_true rfl)⟩) ⟨pre_blind, va_recv hst.k (fr_P hP [2] rfl) (ci := 11) (q0 := 0) rfl rfl, pre_at hP hD hS hz hzs hst [2] (by decide) rfl rfl⟩ rfl rfl hl.1 rfl (lv_room (Nat.le_of_ble_eq_true rfl)) dL_law_543 ⟨(Nat.le_of_ble_eq_true rfl), (Nat.le_of_ble_eq_true rfl)⟩) hP hD hS hA [2] (by decide) rfl rfl rfl rfl (fun H locs hP hD hS => ?_)
    refine lv_if_ne (tgt := 642) hx hb dL_law_546 (by decide) (fun c546 => ?_) (fun c546 => ?_)
    · have hF := q_brn c546 hF
      exact absurd hF (by simp)
    · have hF := q_brp c546 hF
      refine lv_aload hx hb dL_law_549 (lv_at hl 6 rfl) ?_
      refine lv_iconst (v := 2) hx hb dL_law_551 (by decide) ?_
      obtain ⟨q14, hq14, hF⟩ := q_bdi hF
      refine cx_i (ro := q14) (Lc := [w_VB1 E az 0 z]) (Lc' := [w_VB1 E az 0 z]) (L' := [w_VB1 E ax 0 x, w_VB1 E ay 0 y, w_VB1 E az 0 z]) (vx_runV (As := [.int 2]) (rest := []) ⟨hx, hb, hml, hown, ha⟩ (kg_X10_centsToKey l E az 0 z 2 q14 hq14 H.size hlt) (cwV 1 ha (gi_V (fun _ h => h) mw693 mw694 mw695 mw26 mw696) rfl rfl rfl hv_X10_centsToKey ⟨(Nat.le_of_ble_eq_true rfl), (Nat.le_of_ble_eq_true rfl)⟩) ⟨pre_blind, va_recv hst.k (fr_P hP [2] rfl) (ci := 11) (q0 := 0) rfl rfl, pre_at hP hD hS hz hzs hst [2] (by decide) rfl rfl⟩ rfl rfl hl.1 rfl (lv_room (Nat.le_of_ble_eq_true rfl)) dL_law_552 ⟨(Nat.le_of_ble_eq_true rfl), (Nat.le_of_ble_eq_true rfl)⟩) hP hD hS hA [2] (by decide) rfl rfl rfl rfl (fun X ce q9 H locs eX h1 h2 h3 hP hD hS => ?_) (fun r15 H locs er15 hP hD hS => ?_)
      · have hF := q_smr eX hF
        exact absurd hF (by simp)
      have hF := q_sml er15 hF
      refine lv_bipush (v := 50) hx hb dL_law_555 (by decide) ?_
      refine lv_icmp_ne (tgt := 642) hx hb dL_law_557 (by decide) (fun c557 => ?_) (fun c557 => ?_)
      · have hF := q_brn c557 hF
        exact absurd hF (by simp)
      · have hF := q_brp c557 hF
        refine lv_aload hx hb dL_law_560 (lv_at hl 6 rfl) ?_
        refine lv_iconst (v := 2) hx hb dL_law_562 (by decide) ?_
        obtain ⟨q16, hq16, hF⟩ := q_bdi hF
        refine cx_i (ro := q16) (Lc := [w_VB1 E az 0 z]) (Lc' := [w_VB1 E az 0 z]) (L' := [w_VB1 E ax 0 x, w_VB1 E ay 0 y, w_VB1 E az 0 z]) (vx_runV (As := [.int 2]) (rest := []) ⟨hx, hb, hml, hown, ha⟩ (kg_X10_centsToKeyByNotes l E az 0 z 2 q16 hq16 H.size hlt) (cwV 1 ha (gi_V (fun _ h => h) mw705 mw706 mw707 mw26 mw708) rfl rfl rfl hv_X10_centsToKeyByNotes ⟨(Nat.le_of_ble_eq_true rfl), (Nat.le_of_ble_eq_true rfl)⟩) ⟨pre_blind, va_recv hst.k (fr_P hP [2] rfl) (ci := 11) (q0 := 0) rfl rfl, pre_at hP hD hS hz hzs hst [2] (by decide) rfl rfl⟩ rfl rfl hl.1 rfl (lv_room (Nat.le_of_ble_eq_true rfl)) dL_law_563 ⟨(Nat.le_of_ble_eq_true rfl), (Nat.le_of_ble_eq_true rfl)⟩) hP hD hS hA [2] (by decide) rfl rfl rfl rfl (fun X ce q9 H locs eX h1 h2 h3 hP hD hS => ?_) (fun r17 H locs er17 hP hD hS => ?_)
        · have hF := q_smr eX hF
          exact absurd hF (by simp)
        have hF := q_sml er17 hF
        refine lv_bipush (v := 50) hx hb dL_law_566 (by decide) ?_
        refine lv_icmp_ne (tgt := 642) hx hb dL_law_568 (by decide) (fun c568 => ?_) (fun c568 => ?_)
        · have hF := q_brn c568 hF
          exact absurd hF (by simp)
        · have hF := q_brp c568 hF
          refine lv_aload hx hb dL_law_571 (lv_at hl 6 rfl) ?_
          refine lv_iconst (v := 0) hx hb dL_law_573 (by decide) ?_
          obtain ⟨q18, hq18, hF⟩ := q_bdi hF
          refine cl_i (Lc := [w_VB1 E az 0 z]) (Lc' := [w_VB1 E az 0 (q18.2)]) (L' := [w_VB1 E ax 0 x, w_VB1 E ay 0 y, w_VB1 E az 0 (q18.2)]) (rv := q18.1) (va_runV (As := [.int 0]) (rest := []) ⟨hx, hb, hml, hown, ha⟩ (kg_X10_thirds l E az 0 z 0 q18 hq18 H.size) (cwV 1 ha (gi_V (fun _ h => h) mw898 mw899 mw900 mw26 mw901) rfl rfl rfl hv_X10_thirds ⟨(Nat.le_of_ble_eq_true rfl), (Nat.le_of_ble_eq_true rfl)⟩) ⟨pre_blind, va_recv hst.k (fr_P hP [2] rfl) (ci := 11) (q0 := 0) rfl rfl, pre_at hP hD hS hz hzs hst [2] (by decide) rfl rfl⟩ rfl rfl hl.1 rfl (lv_room (Nat.le_of_ble_eq_true rfl)) dL_law_574 ⟨(Nat.le_of_ble_eq_true rfl), (Nat.le_of_ble_eq_true rfl)⟩) hP hD hS hA [2] (by decide) rfl rfl rfl rfl (fun H locs hP hD hS => ?_)
          refine lv_if_ne (tgt := 642) hx hb dL_law_577 (by decide) (fun c577 => ?_) (fun c577 => ?_)
          · have hF := q_brn c577 hF
            exact absurd hF (by simp)
          · have hF := q_brp c577 hF
            refine lv_aload hx hb dL_law_580 (lv_at hl 6 rfl) ?_
            refine lv_iconst (v := 0) hx hb dL_law_582 (by decide) ?_
            obtain ⟨q19, hq19, hF⟩ := q_bdi hF
            refine cl_i (Lc := [w_VB1 E az 0 (q18.2)]) (Lc' := [w_VB1 E az 0 (q19.2)]) (L' := [w_VB1 E ax 0 x, w_VB1 E ay 0 y, w_VB1 E az 0 (q19.2)]) (rv := q19.1) (va_runV (As := [.int 0]) (rest := []) ⟨hx, hb, hml, hown, ha⟩ (kg_X10_chordSize l E az 0 (q18.2) 0 q19 hq19 H.size) (cwV 1 ha (gi_V (fun _ h => h) mw841 mw842 mw843 mw26 mw844) rfl rfl rfl hv_X10_chordSize ⟨(Nat.le_of_ble_eq_true rfl), (Nat.le_of_ble_eq_true rfl)⟩) ⟨pre_blind, va_recv hst.k (fr_P hP [2] rfl) (ci := 11) (q0 := 0) rfl rfl, pre_at hP hD hS hz hzs hst [2] (by decide) rfl rfl⟩ rfl rfl hl.1 rfl (lv_room (Nat.le_of_ble_eq_true rfl)) dL_law_583 ⟨(Nat.le_of_ble_eq_true rfl), (Nat.le_of_ble_eq_true rfl)⟩) hP hD hS hA [2] (by decide) rfl rfl rfl rfl (fun H locs hP hD hS => ?_)
            refine lv_iconst (v := 2) hx hb dL_law_586 (by decide) ?_
            refine lv_icmp_ne (tgt := 642) hx hb dL_law_587 (by decide) (fun c587 => ?_) (fun c587 => ?_)
            · have hF := q_brn c587 hF
              exact absurd hF (by simp)
            · have hF := q_brp c587 hF
              refine lv_aload hx hb dL_law_590 (lv_at hl 6 rfl) ?_
              refine lv_iconst (v := 0) hx hb dL_law_592 (by decide) ?_
              obtain ⟨q20, hq20, hF⟩ := q_bdi hF
              refine cl_i (Lc := [w_VB1 E az 0 (q19.2)]) (Lc' := [w_VB1 E az 0 (q20.2)]) (L' := [w_VB1 E ax 0 x, w_VB1 E ay 0 y, w_VB1 E az 0 (q20.2)]) (rv := q20.1) (va_runV (As := [.int 0]) (rest := []) ⟨hx, hb, hml, hown, ha⟩ (kg_X10_dissonances l E az 0 (q19.2) 0 q20 hq20 H.size) (cwV 1 ha (gi_V (fun _ h => h) mw870 mw871 mw872 mw26 mw873) rfl rfl rfl hv_X10_dissonances ⟨(Nat.le_of_ble_eq_true rfl), (Nat.le_of_ble_eq_true rfl)⟩) ⟨pre_blind, va_recv hst.k (fr_P hP [2] rfl) (ci := 11) (q0 := 0) rfl rfl, pre_at hP hD hS hz hzs hst [2] (by decide) rfl rfl⟩ rfl rfl hl.1 rfl (lv_room (Nat.le_of_ble_eq_true rfl)) dL_law_593 ⟨(Nat.le_of_ble_eq_true rfl), (Nat.le_of_ble_eq_true rfl)⟩) hP hD hS hA [2] (by decide) rfl rfl rfl rfl (fun H locs hP hD hS => ?_)
              refine lv_if_ne (tgt := 642) hx hb dL_law_596 (by decide) (fun c596 => ?_) (fun c596 => ?_)
              · have hF := q_brn c596 hF
                exact absurd hF (by simp)
              · have hF := q_brp c596 hF
                refine lv_aload hx hb dL_law_599 (lv_at hl 6 rfl) ?_
                obtain ⟨q21, hq21, hF⟩ := q_bdi hF
                refine cx_i (ro := q21.1) (Lc := [w_VB1 E az 0 (q20.2)]) (Lc' := [w_VB1 E az 0 (q21.2)]) (L' := [w_VB1 E ax 0 x, w_VB1 E ay 0 y, w_VB1 E az 0 (q21.2)]) (vx_runV (As := []) (rest := []) ⟨hx, hb, hml, hown, ha⟩ (kg_X10_lastBeat l E az 0 (q20.2) q21 hq21 H.size hlt) (cwV 0 ha (gi_V (fun _ h => h) mw905 mw906 mw907 mw26 mw908) rfl rfl rfl hv_X10_lastBeat ⟨(Nat.le_of_ble_eq_true rfl), (Nat.le_of_ble_eq_true rfl)⟩) ⟨pre_blind, va_recv hst.k (fr_P hP [2] rfl) (ci := 11) (q0 := 0) rfl rfl, pre_at hP hD hS hz hzs hst [2] (by decide) rfl rfl⟩ rfl rfl hl.1 rfl (lv_room (Nat.le_of_ble_eq_true rfl)) dL_law_601 ⟨(Nat.le_of_ble_eq_true rfl), (Nat.le_of_ble_eq_true rfl)⟩) hP hD hS hA [2] (by decide) rfl rfl rfl rfl (fun X ce q9 H locs eX h1 h2 h3 hP hD hS => ?_) (fun r22 H locs er22 hP hD hS => ?_)
                · have hF := q_smr eX hF
                  exact absurd hF (by simp)
                have hF := q_sml er22 hF
                refine lv_iconst (v := 1) hx hb dL_law_604 (by decide) ?_
                refine lv_icmp_ne (tgt := 642) hx hb dL_law_605 (by decide) (fun c605 => ?_) (fun c605 => ?_)
                · have hF := q_brn c605 hF
                  exact absurd hF (by simp)
                · have hF := q_brp c605 hF
                  obtain rfl := Option.some.inj hF
                  exact hK H locs ls hP hD hS (lv_sub hl [0, 1, 2, 3, 4, 5, 6] rfl)
