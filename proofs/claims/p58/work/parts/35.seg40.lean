theorem dL_law_369 : decode cL_law 369 = .ok (.aload 7, 2) := by decide +kernel
theorem dL_law_371 : decode cL_law 371 = .ok (.invokevirtual 205, 3) := by decide +kernel
theorem dL_law_374 : decode cL_law 374 = .ok (.ifCond .eq 98, 3) := by decide +kernel
theorem dL_law_377 : decode cL_law 377 = .ok (.aload 7, 2) := by decide +kernel
theorem dL_law_379 : decode cL_law 379 = .ok (.invokevirtual 208, 3) := by decide +kernel
theorem dL_law_382 : decode cL_law 382 = .ok (.ifCond .eq 90, 3) := by decide +kernel
theorem dL_law_385 : decode cL_law 385 = .ok (.aload 7, 2) := by decide +kernel
theorem dL_law_387 : decode cL_law 387 = .ok (.iconst 1, 1) := by decide +kernel
theorem dL_law_388 : decode cL_law 388 = .ok (.invokevirtual 211, 3) := by decide +kernel
theorem dL_law_391 : decode cL_law 391 = .ok (.ifCond .ne 81, 3) := by decide +kernel
theorem dL_law_394 : decode cL_law 394 = .ok (.aload 7, 2) := by decide +kernel
theorem dL_law_396 : decode cL_law 396 = .ok (.iconst 0, 1) := by decide +kernel
theorem dL_law_397 : decode cL_law 397 = .ok (.invokevirtual 215, 3) := by decide +kernel
theorem dL_law_400 : decode cL_law 400 = .ok (.ifCond .ne 72, 3) := by decide +kernel
theorem dL_law_403 : decode cL_law 403 = .ok (.aload 7, 2) := by decide +kernel
theorem dL_law_405 : decode cL_law 405 = .ok (.invokevirtual 218, 3) := by decide +kernel
theorem dL_law_408 : decode cL_law 408 = .ok (.lconst 0, 1) := by decide +kernel
theorem dL_law_409 : decode cL_law 409 = .ok (.lcmp, 1) := by decide +kernel
theorem dL_law_410 : decode cL_law 410 = .ok (.ifCond .ne 62, 3) := by decide +kernel
theorem dL_law_413 : decode cL_law 413 = .ok (.aload 7, 2) := by decide +kernel
theorem dL_law_415 : decode cL_law 415 = .ok (.invokevirtual 103, 3) := by decide +kernel
theorem dL_law_418 : decode cL_law 418 = .ok (.bipush 10, 2) := by decide +kernel
theorem dL_law_420 : decode cL_law 420 = .ok (.if_icmp .ne 52, 3) := by decide +kernel
theorem dL_law_423 : decode cL_law 423 = .ok (.aload 7, 2) := by decide +kernel
theorem dL_law_425 : decode cL_law 425 = .ok (.iconst 1, 1) := by decide +kernel
theorem dL_law_426 : decode cL_law 426 = .ok (.invokevirtual 222, 3) := by decide +kernel
theorem dL_law_429 : decode cL_law 429 = .ok (.ifCond .ne 43, 3) := by decide +kernel
theorem dL_law_432 : decode cL_law 432 = .ok (.aload 7, 2) := by decide +kernel
theorem dL_law_434 : decode cL_law 434 = .ok (.bipush 11, 2) := by decide +kernel
theorem dL_law_436 : decode cL_law 436 = .ok (.invokevirtual 222, 3) := by decide +kernel
theorem dL_law_439 : decode cL_law 439 = .ok (.ifCond .eq 33, 3) := by decide +kernel
def f_law4_0 (z_v : VB_t) (v2 : Int32) (v3 : Int32) : Option (VB_t) :=
  q_bd (g_X10_isTuned z_v) (fun q11 =>
  q_br (q11 = 0) (
  none) (
  q_bd (g_X10_isConsistent z_v) (fun q12 =>
  q_br (q12.1 = 0) (
  none) (
  q_bd (g_X10_bestTonic q12.2 1) (fun q13 =>
  q_br (q13.1 = 0) (
  q_bd (g_X10_chordSize q13.2 0) (fun q14 =>
  q_br (q14.1 = 0) (
  q_bd (g_X10_totalDissonances q14.2) (fun q15 =>
  q_br ((lg_cmp q15.1 0) = 0) (
  q_bd (g_X10_tolerance q15.2) (fun q16 =>
  q_br (q16 = 10) (
  q_bd (g_X10_isInScale q15.2 1) (fun q17 =>
  q_sm q17 (fun _ => none) (fun r18 =>
  q_br (r18 = 0) (
  q_bd (g_X10_isInScale q15.2 11) (fun q19 =>
  q_sm q19 (fun _ => none) (fun r20 =>
  q_br (r20 = 0) (
  none) (
  some q15.2)))) (
  none)))) (
  none))) (
  none))) (
  none))) (
  none))))))
set_option maxHeartbeats 40000000 in
set_option maxRecDepth 100000 in
theorem kl_law4_0 {p : Program} {e : Env} {s : State} {m : MethodId} {args : Array Value} {below : List Frame} {meth : Method} {c : Code} {Q : State → Prop} {A : Nat → Prop} (l : Launch) (hlt : l.stackTraces = false) (E : ET) (ax ay : Nat → Nat) (x y : VB_t) (az : Nat → Nat) (z : VB_t) (now v2 v3 : Int32) (hx : p.tables.exec = Jvm.exec) (hb : c.code = cL_law) (hml : c.maxLocals = 8) (hown : s.vm.findClass RL = some m.cls) (ha : ∀ w ∈ lw_all, w.before args s = true) (hA : ∀ q, s.heap.size ≤ q → A q) (hz : ∀ q, A q → E.2 0 ≤ q) (hzs : E.2 0 ≤ s.heap.size) (hst : ST E s) (res : VB_t) (hF : f_law4_0 z v2 v3 = some res) {H : Heap} {locs : List Loc} {ls : Array Slot} (hP : va_P E.1 vwCl (List.flatten [w_VB1 E ax 0 x, w_VB1 E ay 0 y, w_VB1 E az 0 z]) H) (hD : va_D A (List.flatten [w_VB1 E ax 0 x, w_VB1 E ay 0 y, w_VB1 E az 0 z])) (hS : va_S A s.heap H locs) (hl : lv_has ls 8 [(0, .ref (E.2 18)), (1, .ref (ax 0)), (2, .ref (ay 0)), (3, .int now), (5, .int v2), (6, .int v3), (7, .ref (az 0))]) (hK : ∀ (H : Heap) (locs : List Loc) (ls : Array Slot), va_P E.1 vwCl (List.flatten [w_VB1 E ax 0 x, w_VB1 E ay 0 y, w_VB1 E az 0 res]) H → va_D A (List.flatten [w_VB1 E ax 0 x, w_VB1 E ay 0 y, w_VB1 E az 0 res]) → va_S A s.heap H locs → lv_has ls 8 [(0, .ref (E.2 18)), (1, .ref (ax 0)), (2, .ref (ay 0)), (3, .int now), (5, .int v2), (6, .int v3), (7, .ref (az 0))] → W p l e room_1 s m args below meth c H locs 3632 24009 Q (F0 m 442 ls [])) : W p l e room_1 s m args below meth c H locs 3630 23997 Q (F0 m 369 ls []) := by
  unfold f_law4_0 at hF
  refine lv_aload hx hb dL_law_369 (lv_at hl 6 rfl) ?_
  obtain ⟨q11, hq11, hF⟩ := q_bdi hF
  refine cl_i (Lc := [w_VB1 E az 0 z]) (Lc' := [w_VB1 E az 0 z]) (L' := [w_VB1 E ax 0 x, w_VB1 E ay 0 y, w_VB1 E az 0 z]) (rv := q11) (va_runV (As := []) (rest := []) ⟨hx, hb, hml, hown, ha⟩ (kg_X10_isTuned l E az 0 z q11 hq11 H.size) (cwV 0 ha (gi_V (fun _ h => h) mw688 mw689 mw690 mw26 mw691) rfl rfl rfl hv_X10_isTuned ⟨(Nat.le_of_ble_eq_true rfl), (Nat.le_of_ble_eq_true rfl)⟩) ⟨pre_blind, va_recv hst.k (fr_P hP [2] rfl) (ci := 11) (q0 := 0) rfl rfl, pre_at hP hD hS hz hzs hst [2] (by decide) rfl rfl⟩ rfl rfl hl.1 rfl (lv_room (Nat.le_of_ble_eq_true rfl)) dL_law_371 ⟨(Nat.le_of_ble_eq_true rfl), (Nat.le_of_ble_eq_true rfl)⟩) hP hD hS hA [2] (by decide) rfl rfl rfl rfl (fun H locs hP hD hS => ?_)
  refine lv_if_eq (tgt := 472) hx hb dL_law_374 (by decide) (fun c374 => ?_) (fun c374 => ?_)
  · have hF := q_brp c374 hF
    exact absurd hF (by simp)
  · have hF := q_brn c374 hF
    refine lv_aload hx hb dL_law_377 (lv_at hl 6 rfl) ?_
    obtain ⟨q12, hq12, hF⟩ := q_bdi hF
    refine cl_i (Lc := [w_VB1 E az 0 z]) (Lc' := [w_VB1 E az 0 (q12.2)]) (L' := [w_VB1 E ax 0 x, w_VB1 E ay 0 y, w_VB1 E az 0 (q12.2)]) (rv := q12.1) (va_runV (As := []) (rest := []) ⟨hx, hb, hml, hown, ha⟩ (kg_X10_isConsistent l E az 0 z q12 hq12 H.size) (cwV 0 ha (gi_V (fun _ h => h) mw921 mw922 mw923 mw26 mw924) rfl rfl rfl hv_X10_isConsistent ⟨(Nat.le_of_ble_eq_true rfl), (Nat.le_of_ble_eq_true rfl)⟩) ⟨pre_blind, va_recv hst.k (fr_P hP [2] rfl) (ci := 11) (q0 := 0) rfl rfl, pre_at hP hD hS hz hzs hst [2] (by decide) rfl rfl⟩ rfl rfl hl.1 rfl (lv_room (Nat.le_of_ble_eq_true rfl)) dL_law_379 ⟨(Nat.le_of_ble_eq_true rfl), (Nat.le_of_ble_eq_true rfl)⟩) hP hD hS hA [2] (by decide) rfl rfl rfl rfl (fun H locs hP hD hS => ?_)
    refine lv_if_eq (tgt := 472) hx hb dL_law_382 (by decide) (fun c382 => ?_) (fun c382 => ?_)
    · have hF := q_brp c382 hF
      exact absurd hF (by simp)
    · have hF := q_brn c382 hF
      refine lv_aload hx hb dL_law_385 (lv_at hl 6 rfl) ?_
      refine lv_iconst (v := 1) hx hb dL_law_387 (by decide) ?_
      obtain ⟨q13, hq13, hF⟩ := q_bdi hF
      refine cl_i (Lc := [w_VB1 E az 0 (q12.2)]) (Lc' := [w_VB1 E az 0 (q13.2)]) (L' := [w_VB1 E ax 0 x, w_VB1 E ay 0 y, w_VB1 E az 0 (q13.2)]) (rv := q13.1) (va_runV (As := [.int 1]) (rest := []) ⟨hx, hb, hml, hown, ha⟩ (kg_X10_bestTonic l E az 0 (q12.2) 1 q13 hq13 H.size) (cwV 1 ha (gi_V (fun _ h => h) mw794 mw795 mw796 mw26 mw797) rfl rfl rfl hv_X10_bestTonic ⟨(Nat.le_of_ble_eq_true rfl), (Nat.le_of_ble_eq_true rfl)⟩) ⟨pre_blind, va_recv hst.k (fr_P hP [2] rfl) (ci := 11) (q0 := 0) rfl rfl, pre_at hP hD hS hz hzs hst [2] (by decide) rfl rfl⟩ rfl rfl hl.1 rfl (lv_room (Nat.le_of_ble_eq_true rfl)) dL_law_388 ⟨(Nat.le_of_ble_eq_true rfl), (Nat.le_of_ble_eq_true rfl)⟩) hP hD hS hA [2] (by decide) rfl rfl rfl rfl (fun H locs hP hD hS => ?_)
      refine lv_if_ne (tgt := 472) hx hb dL_law_391 (by decide) (fun c391 => ?_) (fun c391 => ?_)
      · have hF := q_brn c391 hF
        exact absurd hF (by simp)
      · have hF := q_brp c391 hF
        refine lv_aload hx hb dL_law_394 (lv_at hl 6 rfl) ?_
        refine lv_iconst (v := 0) hx hb dL_law_396 (by decide) ?_
        obtain ⟨q14, hq14, hF⟩ := q_bdi hF
        refine cl_i (Lc := [w_VB1 E az 0 (q13.2)]) (Lc' := [w_VB1 E az 0 (q14.2)]) (L' := [w_VB1 E ax 0 x, w_VB1 E ay 0 y, w_VB1 E az 0 (q14.2)]) (rv := q14.1) (va_runV (As := [.int 0]) (rest := []) ⟨hx, hb, hml, hown, ha⟩ (kg_X10_chordSize l E az 0 (q13.2) 0 q14 hq14 H.size) (cwV 1 ha (gi_V (fun _ h => h) mw841 mw842 mw843 mw26 mw844) rfl rfl rfl hv_X10_chordSize ⟨(Nat.le_of_ble_eq_true rfl), (Nat.le_of_ble_eq_true rfl)⟩) ⟨pre_blind, va_recv hst.k (fr_P hP [2] rfl) (ci := 11) (q0 := 0) rfl rfl, pre_at hP hD hS hz hzs hst [2] (by decide) rfl rfl⟩ rfl rfl hl.1 rfl (lv_room (Nat.le_of_ble_eq_true rfl)) dL_law_397 ⟨(Nat.le_of_ble_eq_true rfl), (Nat.le_of_ble_eq_true rfl)⟩) hP hD hS hA [2] (by decide) rfl rfl rfl rfl (fun H locs hP hD hS => ?_)
        refine lv_if_ne (tgt := 472) hx hb dL_law_400 (by decide) (fun c400 => ?_) (fun c400 => ?_)
        · have hF := q_brn c400 hF
          exact absurd hF (by simp)
        · have hF := q_brp c400 hF
          refine lv_aload hx hb dL_law_403 (lv_at hl 6 rfl) ?_
          obtain ⟨q15, hq15, hF⟩ := q_bdi hF
          refine cl_j (Lc := [w_VB1 E az 0 (q14.2)]) (Lc' := [w_VB1 E az 0 (q15.2)]) (L' := [w_VB1 E ax 0 x, w_VB1 E ay 0 y, w_VB1 E az 0 (q15.2)]) (rv := q15.1) (va_runV (As := []) (rest := []) ⟨hx, hb, hml, hown, ha⟩ (kg_X10_totalDissonances l E az 0 (q14.2) q15 hq15 H.size) (cwV 0 ha (gi_V (fun _ h => h) mw913 mw914 mw915 mw26 mw916) rfl rfl rfl hv_X10_totalDissonances ⟨(Nat.le_of_ble_eq_true rfl), (Nat.le_of_ble_eq_true rfl)⟩) ⟨pre_blind, va_recv hst.k (fr_P hP [2] rfl) (ci := 11) (q0 := 0) rfl rfl, pre_at hP hD hS hz hzs hst [2] (by decide) rfl rfl⟩ rfl rfl hl.1 rfl (lv_room (Nat.le_of_ble_eq_true rfl)) dL_law_405 ⟨(Nat.le_of_ble_eq_true rfl), (Nat.le_of_ble_eq_true rfl)⟩) hP hD hS hA [2] (by decide) rfl rfl rfl rfl (fun H locs hP hD hS => ?_)
          refine lv_lconst (v := 0) hx hb dL_law_408 (by decide) ?_
          refine W.lcmp hx hb dL_law_409 ?_
          refine lv_if_ne (tgt := 472) hx hb dL_law_410 (by decide) (fun c410 => ?_) (fun c410 => ?_)
          · have hF := q_brn c410 hF
            exact absurd hF (by simp)
          · have hF := q_brp c410 hF
            refine lv_aload hx hb dL_law_413 (lv_at hl 6 rfl) ?_
            obtain ⟨q16, hq16, hF⟩ := q_bdi hF
            refine cl_i (Lc := [w_VB1 E az 0 (q15.2)]) (Lc' := [w_VB1 E az 0 (q15.2)]) (L' := [w_VB1 E ax 0 x, w_VB1 E ay 0 y, w_VB1 E az 0 (q15.2)]) (rv := q16) (va_runV (As := []) (rest := []) ⟨hx, hb, hml, hown, ha⟩ (kg_X10_tolerance l E az 0 (q15.2) q16 hq16 H.size) (cwV 0 ha (gi_V (fun _ h => h) mw784 mw785 mw786 mw26 mw787) rfl rfl rfl hv_X10_tolerance ⟨(Nat.le_of_ble_eq_true rfl), (Nat.le_of_ble_eq_true rfl)⟩) ⟨pre_blind, va_recv hst.k (fr_P hP [2] rfl) (ci := 11) (q0 := 0) rfl rfl, pre_at hP hD hS hz hzs hst [2] (by decide) rfl rfl⟩ rfl rfl hl.1 rfl (lv_room (Nat.le_of_ble_eq_true rfl)) dL_law_415 ⟨(Nat.le_of_ble_eq_true rfl), (Nat.le_of_ble_eq_true rfl)⟩) hP hD hS hA [2] (by decide) rfl rfl rfl rfl (fun H locs hP hD hS => ?_)
            refine lv_bipush (v := 10) hx hb dL_law_418 (by decide) ?_
            refine lv_icmp_ne (tgt := 472) hx hb dL_law_420 (by decide) (fun c420 => ?_) (fun c420 => ?_)
            · have hF := q_brn c420 hF
              exact absurd hF (by simp)
            · have hF := q_brp c420 hF
              refine lv_aload hx hb dL_law_423 (lv_at hl 6 rfl) ?_
              refine lv_iconst (v := 1) hx hb dL_law_425 (by decide) ?_
              obtain ⟨q17, hq17, hF⟩ := q_bdi hF
              refine cx_i (ro := q17) (Lc := [w_VB1 E az 0 (q15.2)]) (Lc' := [w_VB1 E az 0 (q15.2)]) (L' := [w_VB1 E ax 0 x, w_VB1 E ay 0 y, w_VB1 E az 0 (q15.2)]) (vx_runV (As := [.int 1]) (rest := []) ⟨hx, hb, hml, hown, ha⟩ (kg_X10_isInScale l E az 0 (q15.2) 1 q17 hq17 H.size hlt) (cwV 1 ha (gi_V (fun _ h => h) mw788 mw789 mw790 mw26 mw791) rfl rfl rfl hv_X10_isInScale ⟨(Nat.le_of_ble_eq_true rfl), (Nat.le_of_ble_eq_true rfl)⟩) ⟨pre_blind, va_recv hst.k (fr_P hP [2] rfl) (ci := 11) (q0 := 0) rfl rfl, pre_at hP hD hS hz hzs hst [2] (by decide) rfl rfl⟩ rfl rfl hl.1 rfl (lv_room (Nat.le_of_ble_eq_true rfl)) dL_law_426 ⟨(Nat.le_of_ble_eq_true rfl), (Nat.le_of_ble_eq_true rfl)⟩) hP hD hS hA [2] (by decide) rfl rfl rfl rfl (fun X ce q9 H locs eX h1 h2 h3 hP hD hS => ?_) (fun r18 H locs er18 hP hD hS => ?_)
              · have hF := q_smr eX hF
                exact absurd hF (by simp)
              have hF := q_sml er18 hF
              refine lv_if_ne (tgt := 472) hx hb dL_law_429 (by decide) (fun c429 => ?_) (fun c429 => ?_)
              · have hF := q_brn c429 hF
                exact absurd hF (by simp)
              · have hF := q_brp c429 hF
                refine lv_aload hx hb dL_law_432 (lv_at hl 6 rfl) ?_
                refine lv_bipush (v := 11) hx hb dL_law_434 (by decide) ?_
                obtain ⟨q19, hq19, hF⟩ := q_bdi hF
                refine cx_i (ro := q19) (Lc := [w_VB1 E az 0 (q15.2)]) (Lc' := [w_VB1 E az 0 (q15.2)]) (L' := [w_VB1 E ax 0 x, w_VB1 E ay 0 y, w_VB1 E az 0 (q15.2)]) (vx_runV (As := [.int 11]) (rest := []) ⟨hx, hb, hml, hown, ha⟩ (kg_X10_isInScale l E az 0 (q15.2) 11 q19 hq19 H.size hlt) (cwV 1 ha (gi_V (fun _ h => h) mw788 mw789 mw790 mw26 mw791) rfl rfl rfl hv_X10_isInScale ⟨(Nat.le_of_ble_eq_true rfl), (Nat.le_of_ble_eq_true rfl)⟩) ⟨pre_blind, va_recv hst.k (fr_P hP [2] rfl) (ci := 11) (q0 := 0) rfl rfl, pre_at hP hD hS hz hzs hst [2] (by decide) rfl rfl⟩ rfl rfl hl.1 rfl (lv_room (Nat.le_of_ble_eq_true rfl)) dL_law_436 ⟨(Nat.le_of_ble_eq_true rfl), (Nat.le_of_ble_eq_true rfl)⟩) hP hD hS hA [2] (by decide) rfl rfl rfl rfl (fun X ce q9 H locs eX h1 h2 h3 hP hD hS => ?_) (fun r20 H locs er20 hP hD hS => ?_)
                · have hF := q_smr eX hF
                  exact absurd hF (by simp)
                have hF := q_sml er20 hF
                refine lv_if_eq (tgt := 472) hx hb dL_law_439 (by decide) (fun c439 => ?_) (fun c439 => ?_)
                · have hF := q_brp c439 hF
                  exact absurd hF (by simp)
                · have hF := q_brn c439 hF
                  obtain rfl := Option.some.inj hF
                  exact hK H locs ls hP hD hS (lv_sub hl [0, 1, 2, 3, 4, 5, 6] rfl)
