theorem dL_law_608 : decode cL_law 608 = .ok (.aload 7, 2) := by decide +kernel
theorem dL_law_610 : decode cL_law 610 = .ok (.iconst 2, 1) := by decide +kernel
theorem dL_law_611 : decode cL_law 611 = .ok (.invokevirtual 250, 3) := by decide +kernel
theorem dL_law_614 : decode cL_law 614 = .ok (.iconst 2, 1) := by decide +kernel
theorem dL_law_615 : decode cL_law 615 = .ok (.if_icmp .ne 27, 3) := by decide +kernel
theorem dL_law_618 : decode cL_law 618 = .ok (.aload 7, 2) := by decide +kernel
theorem dL_law_620 : decode cL_law 620 = .ok (.invokevirtual 253, 3) := by decide +kernel
theorem dL_law_623 : decode cL_law 623 = .ok (.ldc_w 257, 3) := by decide +kernel
theorem dL_law_626 : decode cL_law 626 = .ok (.fcmp .l, 1) := by decide +kernel
theorem dL_law_627 : decode cL_law 627 = .ok (.ifCond .ne 15, 3) := by decide +kernel
theorem dL_law_630 : decode cL_law 630 = .ok (.aload 7, 2) := by decide +kernel
theorem dL_law_632 : decode cL_law 632 = .ok (.invokevirtual 258, 3) := by decide +kernel
theorem dL_law_635 : decode cL_law 635 = .ok (.ldc2_w 262, 3) := by decide +kernel
theorem dL_law_638 : decode cL_law 638 = .ok (.dcmp .l, 1) := by decide +kernel
theorem dL_law_639 : decode cL_law 639 = .ok (.ifCond .eq 5, 3) := by decide +kernel
theorem dL_law_644 : decode cL_law 644 = .ok (.aload 7, 2) := by decide +kernel
theorem dL_law_646 : decode cL_law 646 = .ok (.iconst 2, 1) := by decide +kernel
theorem dL_law_647 : decode cL_law 647 = .ok (.iconst (-1), 1) := by decide +kernel
theorem dL_law_648 : decode cL_law 648 = .ok (.invokevirtual 53, 3) := by decide +kernel
theorem dL_law_651 : decode cL_law 651 = .ok (.sipush 6649, 3) := by decide +kernel
theorem dL_law_654 : decode cL_law 654 = .ok (.if_icmp .ne 175, 3) := by decide +kernel
theorem dL_law_657 : decode cL_law 657 = .ok (.aload 7, 2) := by decide +kernel
theorem dL_law_659 : decode cL_law 659 = .ok (.iconst 2, 1) := by decide +kernel
theorem dL_law_660 : decode cL_law 660 = .ok (.invokevirtual 227, 3) := by decide +kernel
theorem dL_law_663 : decode cL_law 663 = .ok (.bipush 66, 2) := by decide +kernel
theorem dL_law_665 : decode cL_law 665 = .ok (.if_icmp .ne 164, 3) := by decide +kernel
theorem dL_law_668 : decode cL_law 668 = .ok (.aload 7, 2) := by decide +kernel
theorem dL_law_670 : decode cL_law 670 = .ok (.iconst 2, 1) := by decide +kernel
theorem dL_law_671 : decode cL_law 671 = .ok (.invokevirtual 230, 3) := by decide +kernel
theorem dL_law_674 : decode cL_law 674 = .ok (.bipush 49, 2) := by decide +kernel
theorem dL_law_676 : decode cL_law 676 = .ok (.if_icmp .ne 153, 3) := by decide +kernel
theorem dL_law_679 : decode cL_law 679 = .ok (.aload 7, 2) := by decide +kernel
theorem dL_law_681 : decode cL_law 681 = .ok (.iconst 2, 1) := by decide +kernel
theorem dL_law_682 : decode cL_law 682 = .ok (.invokevirtual 235, 3) := by decide +kernel
theorem dL_law_685 : decode cL_law 685 = .ok (.bipush 51, 2) := by decide +kernel
theorem dL_law_687 : decode cL_law 687 = .ok (.if_icmp .ne 142, 3) := by decide +kernel
theorem dL_law_690 : decode cL_law 690 = .ok (.aload 7, 2) := by decide +kernel
theorem dL_law_692 : decode cL_law 692 = .ok (.iconst 0, 1) := by decide +kernel
theorem dL_law_693 : decode cL_law 693 = .ok (.invokevirtual 244, 3) := by decide +kernel
theorem dL_law_696 : decode cL_law 696 = .ok (.iconst 1, 1) := by decide +kernel
theorem dL_law_697 : decode cL_law 697 = .ok (.if_icmp .ne 132, 3) := by decide +kernel
def f_law4_3 (z_v : VB_t) (v2 : Int32) (v3 : Int32) : Option (VB_t) :=
  q_bd (g_X10_bellAtRank z_v 2) (fun q11 =>
  q_sm q11 (fun _ => none) (fun r12 =>
  q_br (r12 = 2) (
  q_bd (g_X10_inKeyShare z_v) (fun q13 =>
  q_sm q13 (fun _ => none) (fun r14 =>
  q_br ((Op.cmpValue (FP.fcmp r14 ((1059760811 : UInt32))) .l) = 0) (
  q_bd (g_X10_meanDeviation z_v) (fun q15 =>
  q_sm q15 (fun _ => none) (fun r16 =>
  q_br ((Op.cmpValue (FP.dcmp r16 ((4625384467293973163 : UInt64))) .l) = 0) (
  q_bd (g_X10_tune z_v 2 (-1)) (fun q17 =>
  q_sm q17.1 (fun _ => none) (fun r18 =>
  q_br (r18 = 6649) (
  q_bd (g_X10_nearestNote q17.2 2) (fun q19 =>
  q_sm q19 (fun _ => none) (fun r20 =>
  q_br (r20 = 66) (
  q_bd (g_X10_deviation q17.2 2) (fun q21 =>
  q_sm q21 (fun _ => none) (fun r22 =>
  q_br (r22 = 49) (
  q_bd (g_X10_centsToKey q17.2 2) (fun q23 =>
  q_sm q23 (fun _ => none) (fun r24 =>
  q_br (r24 = 51) (
  q_bd (g_X10_dissonances q17.2 0) (fun q25 =>
  q_br (q25.1 = 1) (
  some q25.2) (
  none))) (
  none)))) (
  none)))) (
  none)))) (
  none)))) (
  none)))) (
  none)))) (
  none)))
set_option maxHeartbeats 40000000 in
set_option maxRecDepth 100000 in
theorem kl_law4_3 {p : Program} {e : Env} {s : State} {m : MethodId} {args : Array Value} {below : List Frame} {meth : Method} {c : Code} {Q : State → Prop} {A : Nat → Prop} (l : Launch) (hlt : l.stackTraces = false) (E : ET) (ax ay : Nat → Nat) (x y : VB_t) (az : Nat → Nat) (z : VB_t) (now v2 v3 : Int32) (hx : p.tables.exec = Jvm.exec) (hb : c.code = cL_law) (hml : c.maxLocals = 8) (hown : s.vm.findClass RL = some m.cls) (ha : ∀ w ∈ lw_all, w.before args s = true) (hA : ∀ q, s.heap.size ≤ q → A q) (hz : ∀ q, A q → E.2 0 ≤ q) (hzs : E.2 0 ≤ s.heap.size) (hst : ST E s) (res : VB_t) (hF : f_law4_3 z v2 v3 = some res) {H : Heap} {locs : List Loc} {ls : Array Slot} (hP : va_P E.1 vwCl (List.flatten [w_VB1 E ax 0 x, w_VB1 E ay 0 y, w_VB1 E az 0 z]) H) (hD : va_D A (List.flatten [w_VB1 E ax 0 x, w_VB1 E ay 0 y, w_VB1 E az 0 z])) (hS : va_S A s.heap H locs) (hl : lv_has ls 8 [(0, .ref (E.2 18)), (1, .ref (ax 0)), (2, .ref (ay 0)), (3, .int now), (5, .int v2), (6, .int v3), (7, .ref (az 0))]) (hK : ∀ (H : Heap) (locs : List Loc) (ls : Array Slot), va_P E.1 vwCl (List.flatten [w_VB1 E ax 0 x, w_VB1 E ay 0 y, w_VB1 E az 0 res]) H → va_D A (List.flatten [w_VB1 E ax 0 x, w_VB1 E ay 0 y, w_VB1 E az 0 res]) → va_S A s.heap H locs → lv_has ls 8 [(0, .ref (E.2 18)), (1, .ref (ax 0)), (2, .ref (ay 0)), (3, .int now), (5, .int v2), (6, .int v3), (7, .ref (az 0))] → W p l e room_1 s m args below meth c H locs 3714 24501 Q (F0 m 700 ls [])) : W p l e room_1 s m args below meth c H locs 3707 24459 Q (F0 m 608 ls []) := by
  unfold f_law4_3 at hF
  refine lv_aload hx hb dL_law_608 (lv_at hl 6 rfl) ?_
  refine lv_iconst (v := 2) hx hb dL_law_610 (by decide) ?_
  obtain ⟨q11, hq11, hF⟩ := q_bdi hF
  refine cx_i (ro := q11) (Lc := [w_VB1 E az 0 z]) (Lc' := [w_VB1 E az 0 z]) (L' := [w_VB1 E ax 0 x, w_VB1 E ay 0 y, w_VB1 E az 0 z]) (vx_runV (As := [.int 2]) (rest := []) ⟨hx, hb, hml, hown, ha⟩ (kg_X10_bellAtRank l E az 0 z 2 q11 hq11 H.size hlt) (cwV 1 ha (gi_V (fun _ h => h) mw722 mw723 mw724 mw26 mw725) rfl rfl rfl hv_X10_bellAtRank ⟨(Nat.le_of_ble_eq_true rfl), (Nat.le_of_ble_eq_true rfl)⟩) ⟨pre_blind, va_recv hst.k (fr_P hP [2] rfl) (ci := 11) (q0 := 0) rfl rfl, pre_at hP hD hS hz hzs hst [2] (by decide) rfl rfl⟩ rfl rfl hl.1 rfl (lv_room (Nat.le_of_ble_eq_true rfl)) dL_law_611 ⟨(Nat.le_of_ble_eq_true rfl), (Nat.le_of_ble_eq_true rfl)⟩) hP hD hS hA [2] (by decide) rfl rfl rfl rfl (fun X ce q9 H locs eX h1 h2 h3 hP hD hS => ?_) (fun r12 H locs er12 hP hD hS => ?_)
  · have hF := q_smr eX hF
    exact absurd hF (by simp)
  have hF := q_sml er12 hF
  refine lv_iconst (v := 2) hx hb dL_law_614 (by decide) ?_
  refine lv_icmp_ne (tgt := 642) hx hb dL_law_615 (by decide) (fun c615 => ?_) (fun c615 => ?_)
  · have hF := q_brn c615 hF
    exact absurd hF (by simp)
  · have hF := q_brp c615 hF
    refine lv_aload hx hb dL_law_618 (lv_at hl 6 rfl) ?_
    obtain ⟨q13, hq13, hF⟩ := q_bdi hF
    refine cx_f (ro := q13) (Lc := [w_VB1 E az 0 z]) (Lc' := [w_VB1 E az 0 z]) (L' := [w_VB1 E ax 0 x, w_VB1 E ay 0 y, w_VB1 E az 0 z]) (vx_runV (As := []) (rest := []) ⟨hx, hb, hml, hown, ha⟩ (kg_X10_inKeyShare l E az 0 z q13 hq13 H.size hlt) (cwV 0 ha (gi_V (fun _ h => h) mw780 mw781 mw782 mw26 mw783) rfl rfl rfl hv_X10_inKeyShare ⟨(Nat.le_of_ble_eq_true rfl), (Nat.le_of_ble_eq_true rfl)⟩) ⟨pre_blind, va_recv hst.k (fr_P hP [2] rfl) (ci := 11) (q0 := 0) rfl rfl, pre_at hP hD hS hz hzs hst [2] (by decide) rfl rfl⟩ rfl rfl hl.1 rfl (lv_room (Nat.le_of_ble_eq_true rfl)) dL_law_620 ⟨(Nat.le_of_ble_eq_true rfl), (Nat.le_of_ble_eq_true rfl)⟩) hP hD hS hA [2] (by decide) rfl rfl rfl rfl (fun X ce q9 H locs eX h1 h2 h3 hP hD hS => ?_) (fun r14 H locs er14 hP hD hS => ?_)
    · have hF := q_smr eX hF
      exact absurd hF (by simp)
    have hF := q_sml er14 hF
    refine vi_ldcwf (v := 1059760811) hx hb hown (ha _ wk_f) dL_law_623 ?_
    refine lv_fcmp hx hb dL_law_626 ?_
    refine lv_if_ne (tgt := 642) hx hb dL_law_627 (by decide) (fun c627 => ?_) (fun c627 => ?_)
    · have hF := q_brn c627 hF
      exact absurd hF (by simp)
    · have hF := q_brp c627 hF
      refine lv_aload hx hb dL_law_630 (lv_at hl 6 rfl) ?_
      obtain ⟨q15, hq15, hF⟩ := q_bdi hF
      refine cx_d (ro := q15) (Lc := [w_VB1 E az 0 z]) (Lc' := [w_VB1 E az 0 z]) (L' := [w_VB1 E ax 0 x, w_VB1 E ay 0 y, w_VB1 E az 0 z]) (vx_runV (As := []) (rest := []) ⟨hx, hb, hml, hown, ha⟩ (kg_X10_meanDeviation l E az 0 z q15 hq15 H.size hlt) (cwV 0 ha (gi_V (fun _ h => h) mw750 mw751 mw752 mw26 mw753) rfl rfl rfl hv_X10_meanDeviation ⟨(Nat.le_of_ble_eq_true rfl), (Nat.le_of_ble_eq_true rfl)⟩) ⟨pre_blind, va_recv hst.k (fr_P hP [2] rfl) (ci := 11) (q0 := 0) rfl rfl, pre_at hP hD hS hz hzs hst [2] (by decide) rfl rfl⟩ rfl rfl hl.1 rfl (lv_room (Nat.le_of_ble_eq_true rfl)) dL_law_632 ⟨(Nat.le_of_ble_eq_true rfl), (Nat.le_of_ble_eq_true rfl)⟩) hP hD hS hA [2] (by decide) rfl rfl rfl rfl (fun X ce q9 H locs eX h1 h2 h3 hP hD hS => ?_) (fun r16 H locs er16 hP hD hS => ?_)
      · have hF := q_smr eX hF
        exact absurd hF (by simp)
      have hF := q_sml er16 hF
      refine lv_ldc2d (v := 4625384467293973163) hx hb hown (ha _ wk_d) dL_law_635 ?_
      refine lv_dcmp hx hb dL_law_638 ?_
      refine lv_if_eq (tgt := 644) hx hb dL_law_639 (by decide) (fun c639 => ?_) (fun c639 => ?_)
      · have hF := q_brp c639 hF
        refine lv_aload hx hb dL_law_644 (lv_at hl 6 rfl) ?_
        refine lv_iconst (v := 2) hx hb dL_law_646 (by decide) ?_
        refine lv_iconst (v := (-1)) hx hb dL_law_647 (by decide) ?_
        obtain ⟨q17, hq17, hF⟩ := q_bdi hF
        refine cx_i (ro := q17.1) (Lc := [w_VB1 E az 0 z]) (Lc' := [w_VB1 E az 0 (q17.2)]) (L' := [w_VB1 E ax 0 x, w_VB1 E ay 0 y, w_VB1 E az 0 (q17.2)]) (vx_runV (As := [.int 2, .int (-1)]) (rest := []) ⟨hx, hb, hml, hown, ha⟩ (kg_X10_tune l E az 0 z 2 (-1) q17 hq17 H.size hlt) (cwV 2 ha (gi_V (fun _ h => h) mw595 mw596 mw597 mw26 mw598) rfl rfl rfl hv_X10_tune ⟨(Nat.le_of_ble_eq_true rfl), (Nat.le_of_ble_eq_true rfl)⟩) ⟨pre_blind, va_recv hst.k (fr_P hP [2] rfl) (ci := 11) (q0 := 0) rfl rfl, pre_at hP hD hS hz hzs hst [2] (by decide) rfl rfl⟩ rfl rfl hl.1 rfl (lv_room (Nat.le_of_ble_eq_true rfl)) dL_law_648 ⟨(Nat.le_of_ble_eq_true rfl), (Nat.le_of_ble_eq_true rfl)⟩) hP hD hS hA [2] (by decide) rfl rfl rfl rfl (fun X ce q9 H locs eX h1 h2 h3 hP hD hS => ?_) (fun r18 H locs er18 hP hD hS => ?_)
        · have hF := q_smr eX hF
          exact absurd hF (by simp)
        have hF := q_sml er18 hF
        refine lv_sipush (v := 6649) hx hb dL_law_651 (by decide) ?_
        refine lv_icmp_ne (tgt := 829) hx hb dL_law_654 (by decide) (fun c654 => ?_) (fun c654 => ?_)
        · have hF := q_brn c654 hF
          exact absurd hF (by simp)
        · have hF := q_brp c654 hF
          refine lv_aload hx hb dL_law_657 (lv_at hl 6 rfl) ?_
          refine lv_iconst (v := 2) hx hb dL_law_659 (by decide) ?_
          obtain ⟨q19, hq19, hF⟩ := q_bdi hF
          refine cx_i (ro := q19) (Lc := [w_VB1 E az 0 (q17.2)]) (Lc' := [w_VB1 E az 0 (q17.2)]) (L' := [w_VB1 E ax 0 x, w_VB1 E ay 0 y, w_VB1 E az 0 (q17.2)]) (vx_runV (As := [.int 2]) (rest := []) ⟨hx, hb, hml, hown, ha⟩ (kg_X10_nearestNote l E az 0 (q17.2) 2 q19 hq19 H.size hlt) (cwV 1 ha (gi_V (fun _ h => h) mw665 mw666 mw667 mw26 mw668) rfl rfl rfl hv_X10_nearestNote ⟨(Nat.le_of_ble_eq_true rfl), (Nat.le_of_ble_eq_true rfl)⟩) ⟨pre_blind, va_recv hst.k (fr_P hP [2] rfl) (ci := 11) (q0 := 0) rfl rfl, pre_at hP hD hS hz hzs hst [2] (by decide) rfl rfl⟩ rfl rfl hl.1 rfl (lv_room (Nat.le_of_ble_eq_true rfl)) dL_law_660 ⟨(Nat.le_of_ble_eq_true rfl), (Nat.le_of_ble_eq_true rfl)⟩) hP hD hS hA [2] (by decide) rfl rfl rfl rfl (fun X ce q9 H locs eX h1 h2 h3 hP hD hS => ?_) (fun r20 H locs er20 hP hD hS => ?_)
          · have hF := q_smr eX hF
            exact absurd hF (by simp)
          have hF := q_sml er20 hF
          refine lv_bipush (v := 66) hx hb dL_law_663 (by decide) ?_
          refine lv_icmp_ne (tgt := 829) hx hb dL_law_665 (by decide) (fun c665 => ?_) (fun c665 => ?_)
          · have hF := q_brn c665 hF
            exact absurd hF (by simp)
          · have hF := q_brp c665 hF
            refine lv_aload hx hb dL_law_668 (lv_at hl 6 rfl) ?_
            refine lv_iconst (v := 2) hx hb dL_law_670 (by decide) ?_
            obtain ⟨q21, hq21, hF⟩ := q_bdi hF
            refine cx_i (ro := q21) (Lc := [w_VB1 E az 0 (q17.2)]) (Lc' := [w_VB1 E az 0 (q17.2)]) (L' := [w_VB1 E ax 0 x, w_VB1 E ay 0 y, w_VB1 E az 0 (q17.2)]) (vx_runV (As := [.int 2]) (rest := []) ⟨hx, hb, hml, hown, ha⟩ (kg_X10_deviation l E az 0 (q17.2) 2 q21 hq21 H.size hlt) (cwV 1 ha (gi_V (fun _ h => h) mw674 mw675 mw676 mw26 mw677) rfl rfl rfl hv_X10_deviation ⟨(Nat.le_of_ble_eq_true rfl), (Nat.le_of_ble_eq_true rfl)⟩) ⟨pre_blind, va_recv hst.k (fr_P hP [2] rfl) (ci := 11) (q0 := 0) rfl rfl, pre_at hP hD hS hz hzs hst [2] (by decide) rfl rfl⟩ rfl rfl hl.1 rfl (lv_room (Nat.le_of_ble_eq_true rfl)) dL_law_671 ⟨(Nat.le_of_ble_eq_true rfl), (Nat.le_of_ble_eq_true rfl)⟩) hP hD hS hA [2] (by decide) rfl rfl rfl rfl (fun X ce q9 H locs eX h1 h2 h3 hP hD hS => ?_) (fun r22 H locs er22 hP hD hS => ?_)
            · have hF := q_smr eX hF
              exact absurd hF (by simp)
            have hF := q_sml er22 hF
            refine lv_bipush (v := 49) hx hb dL_law_674 (by decide) ?_
            refine lv_icmp_ne (tgt := 829) hx hb dL_law_676 (by decide) (fun c676 => ?_) (fun c676 => ?_)
            · have hF := q_brn c676 hF
              exact absurd hF (by simp)
            · have hF := q_brp c676 hF
              refine lv_aload hx hb dL_law_679 (lv_at hl 6 rfl) ?_
              refine lv_iconst (v := 2) hx hb dL_law_681 (by decide) ?_
              obtain ⟨q23, hq23, hF⟩ := q_bdi hF
              refine cx_i (ro := q23) (Lc := [w_VB1 E az 0 (q17.2)]) (Lc' := [w_VB1 E az 0 (q17.2)]) (L' := [w_VB1 E ax 0 x, w_VB1 E ay 0 y, w_VB1 E az 0 (q17.2)]) (vx_runV (As := [.int 2]) (rest := []) ⟨hx, hb, hml, hown, ha⟩ (kg_X10_centsToKey l E az 0 (q17.2) 2 q23 hq23 H.size hlt) (cwV 1 ha (gi_V (fun _ h => h) mw693 mw694 mw695 mw26 mw696) rfl rfl rfl hv_X10_centsToKey ⟨(Nat.le_of_ble_eq_true rfl), (Nat.le_of_ble_eq_true rfl)⟩) ⟨pre_blind, va_recv hst.k (fr_P hP [2] rfl) (ci := 11) (q0 := 0) rfl rfl, pre_at hP hD hS hz hzs hst [2] (by decide) rfl rfl⟩ rfl rfl hl.1 rfl (lv_room (Nat.le_of_ble_eq_true rfl)) dL_law_682 ⟨(Nat.le_of_ble_eq_true rfl), (Nat.le_of_ble_eq_true rfl)⟩) hP hD hS hA [2] (by decide) rfl rfl rfl rfl (fun X ce q9 H locs eX h1 h2 h3 hP hD hS => ?_) (fun r24 H locs er24 hP hD hS => ?_)
              · have hF := q_smr eX hF
                exact absurd hF (by simp)
              have hF := q_sml er24 hF
              refine lv_bipush (v := 51) hx hb dL_law_685 (by decide) ?_
              refine lv_icmp_ne (tgt := 829) hx hb dL_law_687 (by decide) (fun c687 => ?_) (fun c687 => ?_)
              · have hF := q_brn c687 hF
                exact absurd hF (by simp)
              · have hF := q_brp c687 hF
                refine lv_aload hx hb dL_law_690 (lv_at hl 6 rfl) ?_
                refine lv_iconst (v := 0) hx hb dL_law_692 (by decide) ?_
                obtain ⟨q25, hq25, hF⟩ := q_bdi hF
                refine cl_i (Lc := [w_VB1 E az 0 (q17.2)]) (Lc' := [w_VB1 E az 0 (q25.2)]) (L' := [w_VB1 E ax 0 x, w_VB1 E ay 0 y, w_VB1 E az 0 (q25.2)]) (rv := q25.1) (va_runV (As := [.int 0]) (rest := []) ⟨hx, hb, hml, hown, ha⟩ (kg_X10_dissonances l E az 0 (q17.2) 0 q25 hq25 H.size) (cwV 1 ha (gi_V (fun _ h => h) mw870 mw871 mw872 mw26 mw873) rfl rfl rfl hv_X10_dissonances ⟨(Nat.le_of_ble_eq_true rfl), (Nat.le_of_ble_eq_true rfl)⟩) ⟨pre_blind, va_recv hst.k (fr_P hP [2] rfl) (ci := 11) (q0 := 0) rfl rfl, pre_at hP hD hS hz hzs hst [2] (by decide) rfl rfl⟩ rfl rfl hl.1 rfl (lv_room (Nat.le_of_ble_eq_true rfl)) dL_law_693 ⟨(Nat.le_of_ble_eq_true rfl), (Nat.le_of_ble_eq_true rfl)⟩) hP hD hS hA [2] (by decide) rfl rfl rfl rfl (fun H locs hP hD hS => ?_)
                refine lv_iconst (v := 1) hx hb dL_law_696 (by decide) ?_
                refine lv_icmp_ne (tgt := 829) hx hb dL_law_697 (by decide) (fun c697 => ?_) (fun c697 => ?_)
                · have hF := q_brn c697 hF
                  exact absurd hF (by simp)
                · have hF := q_brp c697 hF
                  obtain rfl := Option.some.inj hF
                  exact hK H locs ls hP hD hS (lv_sub hl [0, 1, 2, 3, 4, 5, 6] rfl)
      · have hF := q_brn c639 hF
        exact absurd hF (by simp)
