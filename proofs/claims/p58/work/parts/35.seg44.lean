theorem dL_law_700 : decode cL_law 700 = .ok (.aload 7, 2) := by decide +kernel
theorem dL_law_702 : decode cL_law 702 = .ok (.iconst 0, 1) := by decide +kernel
theorem dL_law_703 : decode cL_law 703 = .ok (.invokevirtual 264, 3) := by decide +kernel
theorem dL_law_706 : decode cL_law 706 = .ok (.iconst 1, 1) := by decide +kernel
theorem dL_law_707 : decode cL_law 707 = .ok (.if_icmp .ne 122, 3) := by decide +kernel
theorem dL_law_710 : decode cL_law 710 = .ok (.aload 7, 2) := by decide +kernel
theorem dL_law_712 : decode cL_law 712 = .ok (.invokevirtual 267, 3) := by decide +kernel
theorem dL_law_715 : decode cL_law 715 = .ok (.ifCond .ne 114, 3) := by decide +kernel
theorem dL_law_718 : decode cL_law 718 = .ok (.aload 7, 2) := by decide +kernel
theorem dL_law_720 : decode cL_law 720 = .ok (.iconst 2, 1) := by decide +kernel
theorem dL_law_721 : decode cL_law 721 = .ok (.iload 5, 2) := by decide +kernel
theorem dL_law_723 : decode cL_law 723 = .ok (.invokevirtual 53, 3) := by decide +kernel
theorem dL_law_726 : decode cL_law 726 = .ok (.sipush 6649, 3) := by decide +kernel
theorem dL_law_729 : decode cL_law 729 = .ok (.iload 5, 2) := by decide +kernel
theorem dL_law_731 : decode cL_law 731 = .ok (.iadd, 1) := by decide +kernel
theorem dL_law_732 : decode cL_law 732 = .ok (.if_icmp .ne 97, 3) := by decide +kernel
theorem dL_law_735 : decode cL_law 735 = .ok (.aload 7, 2) := by decide +kernel
theorem dL_law_737 : decode cL_law 737 = .ok (.iconst 2, 1) := by decide +kernel
theorem dL_law_738 : decode cL_law 738 = .ok (.bipush 51, 2) := by decide +kernel
theorem dL_law_740 : decode cL_law 740 = .ok (.iload 5, 2) := by decide +kernel
theorem dL_law_742 : decode cL_law 742 = .ok (.isub, 1) := by decide +kernel
theorem dL_law_743 : decode cL_law 743 = .ok (.invokevirtual 53, 3) := by decide +kernel
theorem dL_law_746 : decode cL_law 746 = .ok (.sipush 6700, 3) := by decide +kernel
theorem dL_law_749 : decode cL_law 749 = .ok (.if_icmp .ne 80, 3) := by decide +kernel
theorem dL_law_752 : decode cL_law 752 = .ok (.aload 7, 2) := by decide +kernel
theorem dL_law_754 : decode cL_law 754 = .ok (.invokevirtual 205, 3) := by decide +kernel
theorem dL_law_757 : decode cL_law 757 = .ok (.ifCond .eq 72, 3) := by decide +kernel
theorem dL_law_760 : decode cL_law 760 = .ok (.aload 7, 2) := by decide +kernel
theorem dL_law_762 : decode cL_law 762 = .ok (.iload 6, 2) := by decide +kernel
theorem dL_law_764 : decode cL_law 764 = .ok (.iconst 4, 1) := by decide +kernel
theorem dL_law_765 : decode cL_law 765 = .ok (.invokevirtual 75, 3) := by decide +kernel
theorem dL_law_768 : decode cL_law 768 = .ok (.ifCond .ne 61, 3) := by decide +kernel
theorem dL_law_771 : decode cL_law 771 = .ok (.aload 7, 2) := by decide +kernel
theorem dL_law_773 : decode cL_law 773 = .ok (.iload 6, 2) := by decide +kernel
theorem dL_law_775 : decode cL_law 775 = .ok (.invokevirtual 215, 3) := by decide +kernel
theorem dL_law_778 : decode cL_law 778 = .ok (.iload 6, 2) := by decide +kernel
theorem dL_law_780 : decode cL_law 780 = .ok (.iconst 1, 1) := by decide +kernel
theorem dL_law_781 : decode cL_law 781 = .ok (.if_icmp .ne 7, 3) := by decide +kernel
theorem dL_law_784 : decode cL_law 784 = .ok (.iconst 3, 1) := by decide +kernel
theorem dL_law_785 : decode cL_law 785 = .ok (.goto 4, 3) := by decide +kernel
theorem dL_law_788 : decode cL_law 788 = .ok (.iconst 2, 1) := by decide +kernel
theorem dL_law_789 : decode cL_law 789 = .ok (.if_icmp .ne 40, 3) := by decide +kernel
theorem dL_law_792 : decode cL_law 792 = .ok (.aload 7, 2) := by decide +kernel
theorem dL_law_794 : decode cL_law 794 = .ok (.invokevirtual 247, 3) := by decide +kernel
theorem dL_law_797 : decode cL_law 797 = .ok (.iload 6, 2) := by decide +kernel
theorem dL_law_799 : decode cL_law 799 = .ok (.iconst 1, 1) := by decide +kernel
theorem dL_law_800 : decode cL_law 800 = .ok (.iadd, 1) := by decide +kernel
theorem dL_law_801 : decode cL_law 801 = .ok (.if_icmp .ne 28, 3) := by decide +kernel
def f_law4_4 (z_v : VB_t) (v2 : Int32) (v3 : Int32) : Option (VB_t) :=
  q_bd (g_X10_dissonancesByClasses z_v 0) (fun q11 =>
  q_br (q11.1 = 1) (
  q_bd (g_X10_harshestBeat q11.2) (fun q12 =>
  q_sm q12.1 (fun _ => none) (fun r13 =>
  q_br (r13 = 0) (
  q_bd (g_X10_tune q12.2 2 v2) (fun q14 =>
  q_sm q14.1 (fun _ => none) (fun r15 =>
  q_br (r15 = (6649 + v2)) (
  q_bd (g_X10_tune q14.2 2 (51 - v2)) (fun q16 =>
  q_sm q16.1 (fun _ => none) (fun r17 =>
  q_br (r17 = 6700) (
  q_bd (g_X10_isTuned q16.2) (fun q18 =>
  q_br (q18 = 0) (
  none) (
  q_bd (g_X10_addCliff q16.2 v3 4) (fun q19 =>
  q_sm q19.1 (fun _ => none) (fun r20 =>
  q_br (r20 = 0) (
  q_bd (g_X10_chordSize q19.2 v3) (fun q21 =>
  q_lt (fun (j22 : Int32) =>
  q_br (q21.1 = j22) (
  q_bd (g_X10_lastBeat q21.2) (fun q23 =>
  q_sm q23.1 (fun _ => none) (fun r24 =>
  q_br (r24 = (v3 + 1)) (
  some q23.2) (
  none)))) (
  none)) (fun (J789 : Int32 → Option (VB_t)) =>
  q_br (v3 = 1) (
  J789 3) (
  J789 2)))) (
  none)))))) (
  none)))) (
  none)))) (
  none)))) (
  none))
set_option maxHeartbeats 40000000 in
set_option maxRecDepth 100000 in
theorem kl_law4_4 {p : Program} {e : Env} {s : State} {m : MethodId} {args : Array Value} {below : List Frame} {meth : Method} {c : Code} {Q : State → Prop} {A : Nat → Prop} (l : Launch) (hlt : l.stackTraces = false) (E : ET) (ax ay : Nat → Nat) (x y : VB_t) (az : Nat → Nat) (z : VB_t) (now v2 v3 : Int32) (hx : p.tables.exec = Jvm.exec) (hb : c.code = cL_law) (hml : c.maxLocals = 8) (hown : s.vm.findClass RL = some m.cls) (ha : ∀ w ∈ lw_all, w.before args s = true) (hA : ∀ q, s.heap.size ≤ q → A q) (hz : ∀ q, A q → E.2 0 ≤ q) (hzs : E.2 0 ≤ s.heap.size) (hst : ST E s) (res : VB_t) (hF : f_law4_4 z v2 v3 = some res) {H : Heap} {locs : List Loc} {ls : Array Slot} (hP : va_P E.1 vwCl (List.flatten [w_VB1 E ax 0 x, w_VB1 E ay 0 y, w_VB1 E az 0 z]) H) (hD : va_D A (List.flatten [w_VB1 E ax 0 x, w_VB1 E ay 0 y, w_VB1 E az 0 z])) (hS : va_S A s.heap H locs) (hl : lv_has ls 8 [(0, .ref (E.2 18)), (1, .ref (ax 0)), (2, .ref (ay 0)), (3, .int now), (5, .int v2), (6, .int v3), (7, .ref (az 0))]) (hK : ∀ (H : Heap) (locs : List Loc) (ls : Array Slot), va_P E.1 vwCl (List.flatten [w_VB1 E ax 0 x, w_VB1 E ay 0 y, w_VB1 E az 0 res]) H → va_D A (List.flatten [w_VB1 E ax 0 x, w_VB1 E ay 0 y, w_VB1 E az 0 res]) → va_S A s.heap H locs → lv_has ls 8 [(0, .ref (E.2 18)), (1, .ref (ax 0)), (2, .ref (ay 0)), (3, .int now), (5, .int v2), (6, .int v3), (7, .ref (az 0))] → W p l e room_1 s m args below meth c H locs 3719 24531 Q (F0 m 804 ls [])) : W p l e room_1 s m args below meth c H locs 3714 24501 Q (F0 m 700 ls []) := by
  unfold f_law4_4 at hF
  refine lv_aload hx hb dL_law_700 (lv_at hl 6 rfl) ?_
  refine lv_iconst (v := 0) hx hb dL_law_702 (by decide) ?_
  obtain ⟨q11, hq11, hF⟩ := q_bdi hF
  refine cl_i (Lc := [w_VB1 E az 0 z]) (Lc' := [w_VB1 E az 0 (q11.2)]) (L' := [w_VB1 E ax 0 x, w_VB1 E ay 0 y, w_VB1 E az 0 (q11.2)]) (rv := q11.1) (va_runV (As := [.int 0]) (rest := []) ⟨hx, hb, hml, hown, ha⟩ (kg_X10_dissonancesByClasses l E az 0 z 0 q11 hq11 H.size) (cwV 1 ha (gi_V (fun _ h => h) mw885 mw886 mw887 mw26 mw888) rfl rfl rfl hv_X10_dissonancesByClasses ⟨(Nat.le_of_ble_eq_true rfl), (Nat.le_of_ble_eq_true rfl)⟩) ⟨pre_blind, va_recv hst.k (fr_P hP [2] rfl) (ci := 11) (q0 := 0) rfl rfl, pre_at hP hD hS hz hzs hst [2] (by decide) rfl rfl⟩ rfl rfl hl.1 rfl (lv_room (Nat.le_of_ble_eq_true rfl)) dL_law_703 ⟨(Nat.le_of_ble_eq_true rfl), (Nat.le_of_ble_eq_true rfl)⟩) hP hD hS hA [2] (by decide) rfl rfl rfl rfl (fun H locs hP hD hS => ?_)
  refine lv_iconst (v := 1) hx hb dL_law_706 (by decide) ?_
  refine lv_icmp_ne (tgt := 829) hx hb dL_law_707 (by decide) (fun c707 => ?_) (fun c707 => ?_)
  · have hF := q_brn c707 hF
    exact absurd hF (by simp)
  · have hF := q_brp c707 hF
    refine lv_aload hx hb dL_law_710 (lv_at hl 6 rfl) ?_
    obtain ⟨q12, hq12, hF⟩ := q_bdi hF
    refine cx_i (ro := q12.1) (Lc := [w_VB1 E az 0 (q11.2)]) (Lc' := [w_VB1 E az 0 (q12.2)]) (L' := [w_VB1 E ax 0 x, w_VB1 E ay 0 y, w_VB1 E az 0 (q12.2)]) (vx_runV (As := []) (rest := []) ⟨hx, hb, hml, hown, ha⟩ (kg_X10_harshestBeat l E az 0 (q11.2) q12 hq12 H.size hlt) (cwV 0 ha (gi_V (fun _ h => h) mw917 mw918 mw919 mw26 mw920) rfl rfl rfl hv_X10_harshestBeat ⟨(Nat.le_of_ble_eq_true rfl), (Nat.le_of_ble_eq_true rfl)⟩) ⟨pre_blind, va_recv hst.k (fr_P hP [2] rfl) (ci := 11) (q0 := 0) rfl rfl, pre_at hP hD hS hz hzs hst [2] (by decide) rfl rfl⟩ rfl rfl hl.1 rfl (lv_room (Nat.le_of_ble_eq_true rfl)) dL_law_712 ⟨(Nat.le_of_ble_eq_true rfl), (Nat.le_of_ble_eq_true rfl)⟩) hP hD hS hA [2] (by decide) rfl rfl rfl rfl (fun X ce q9 H locs eX h1 h2 h3 hP hD hS => ?_) (fun r13 H locs er13 hP hD hS => ?_)
    · have hF := q_smr eX hF
      exact absurd hF (by simp)
    have hF := q_sml er13 hF
    refine lv_if_ne (tgt := 829) hx hb dL_law_715 (by decide) (fun c715 => ?_) (fun c715 => ?_)
    · have hF := q_brn c715 hF
      exact absurd hF (by simp)
    · have hF := q_brp c715 hF
      refine lv_aload hx hb dL_law_718 (lv_at hl 6 rfl) ?_
      refine lv_iconst (v := 2) hx hb dL_law_720 (by decide) ?_
      refine lv_iload hx hb dL_law_721 (lv_at hl 4 rfl) ?_
      obtain ⟨q14, hq14, hF⟩ := q_bdi hF
      refine cx_i (ro := q14.1) (Lc := [w_VB1 E az 0 (q12.2)]) (Lc' := [w_VB1 E az 0 (q14.2)]) (L' := [w_VB1 E ax 0 x, w_VB1 E ay 0 y, w_VB1 E az 0 (q14.2)]) (vx_runV (As := [.int 2, .int v2]) (rest := []) ⟨hx, hb, hml, hown, ha⟩ (kg_X10_tune l E az 0 (q12.2) 2 v2 q14 hq14 H.size hlt) (cwV 2 ha (gi_V (fun _ h => h) mw595 mw596 mw597 mw26 mw598) rfl rfl rfl hv_X10_tune ⟨(Nat.le_of_ble_eq_true rfl), (Nat.le_of_ble_eq_true rfl)⟩) ⟨pre_blind, va_recv hst.k (fr_P hP [2] rfl) (ci := 11) (q0 := 0) rfl rfl, pre_at hP hD hS hz hzs hst [2] (by decide) rfl rfl⟩ rfl rfl hl.1 rfl (lv_room (Nat.le_of_ble_eq_true rfl)) dL_law_723 ⟨(Nat.le_of_ble_eq_true rfl), (Nat.le_of_ble_eq_true rfl)⟩) hP hD hS hA [2] (by decide) rfl rfl rfl rfl (fun X ce q9 H locs eX h1 h2 h3 hP hD hS => ?_) (fun r15 H locs er15 hP hD hS => ?_)
      · have hF := q_smr eX hF
        exact absurd hF (by simp)
      have hF := q_sml er15 hF
      refine lv_sipush (v := 6649) hx hb dL_law_726 (by decide) ?_
      refine lv_iload hx hb dL_law_729 (lv_at hl 4 rfl) ?_
      refine lv_iadd hx hb dL_law_731 ?_
      refine lv_icmp_ne (tgt := 829) hx hb dL_law_732 (by decide) (fun c732 => ?_) (fun c732 => ?_)
      · have hF := q_brn c732 hF
        exact absurd hF (by simp)
      · have hF := q_brp c732 hF
        refine lv_aload hx hb dL_law_735 (lv_at hl 6 rfl) ?_
        refine lv_iconst (v := 2) hx hb dL_law_737 (by decide) ?_
        refine lv_bipush (v := 51) hx hb dL_law_738 (by decide) ?_
        refine lv_iload hx hb dL_law_740 (lv_at hl 4 rfl) ?_
        refine lv_isub hx hb dL_law_742 ?_
        obtain ⟨q16, hq16, hF⟩ := q_bdi hF
        refine cx_i (ro := q16.1) (Lc := [w_VB1 E az 0 (q14.2)]) (Lc' := [w_VB1 E az 0 (q16.2)]) (L' := [w_VB1 E ax 0 x, w_VB1 E ay 0 y, w_VB1 E az 0 (q16.2)]) (vx_runV (As := [.int 2, .int (51 - v2)]) (rest := []) ⟨hx, hb, hml, hown, ha⟩ (kg_X10_tune l E az 0 (q14.2) 2 (51 - v2) q16 hq16 H.size hlt) (cwV 2 ha (gi_V (fun _ h => h) mw595 mw596 mw597 mw26 mw598) rfl rfl rfl hv_X10_tune ⟨(Nat.le_of_ble_eq_true rfl), (Nat.le_of_ble_eq_true rfl)⟩) ⟨pre_blind, va_recv hst.k (fr_P hP [2] rfl) (ci := 11) (q0 := 0) rfl rfl, pre_at hP hD hS hz hzs hst [2] (by decide) rfl rfl⟩ rfl rfl hl.1 rfl (lv_room (Nat.le_of_ble_eq_true rfl)) dL_law_743 ⟨(Nat.le_of_ble_eq_true rfl), (Nat.le_of_ble_eq_true rfl)⟩) hP hD hS hA [2] (by decide) rfl rfl rfl rfl (fun X ce q9 H locs eX h1 h2 h3 hP hD hS => ?_) (fun r17 H locs er17 hP hD hS => ?_)
        · have hF := q_smr eX hF
          exact absurd hF (by simp)
        have hF := q_sml er17 hF
        refine lv_sipush (v := 6700) hx hb dL_law_746 (by decide) ?_
        refine lv_icmp_ne (tgt := 829) hx hb dL_law_749 (by decide) (fun c749 => ?_) (fun c749 => ?_)
        · have hF := q_brn c749 hF
          exact absurd hF (by simp)
        · have hF := q_brp c749 hF
          refine lv_aload hx hb dL_law_752 (lv_at hl 6 rfl) ?_
          obtain ⟨q18, hq18, hF⟩ := q_bdi hF
          refine cl_i (Lc := [w_VB1 E az 0 (q16.2)]) (Lc' := [w_VB1 E az 0 (q16.2)]) (L' := [w_VB1 E ax 0 x, w_VB1 E ay 0 y, w_VB1 E az 0 (q16.2)]) (rv := q18) (va_runV (As := []) (rest := []) ⟨hx, hb, hml, hown, ha⟩ (kg_X10_isTuned l E az 0 (q16.2) q18 hq18 H.size) (cwV 0 ha (gi_V (fun _ h => h) mw688 mw689 mw690 mw26 mw691) rfl rfl rfl hv_X10_isTuned ⟨(Nat.le_of_ble_eq_true rfl), (Nat.le_of_ble_eq_true rfl)⟩) ⟨pre_blind, va_recv hst.k (fr_P hP [2] rfl) (ci := 11) (q0 := 0) rfl rfl, pre_at hP hD hS hz hzs hst [2] (by decide) rfl rfl⟩ rfl rfl hl.1 rfl (lv_room (Nat.le_of_ble_eq_true rfl)) dL_law_754 ⟨(Nat.le_of_ble_eq_true rfl), (Nat.le_of_ble_eq_true rfl)⟩) hP hD hS hA [2] (by decide) rfl rfl rfl rfl (fun H locs hP hD hS => ?_)
          refine lv_if_eq (tgt := 829) hx hb dL_law_757 (by decide) (fun c757 => ?_) (fun c757 => ?_)
          · have hF := q_brp c757 hF
            exact absurd hF (by simp)
          · have hF := q_brn c757 hF
            refine lv_aload hx hb dL_law_760 (lv_at hl 6 rfl) ?_
            refine lv_iload hx hb dL_law_762 (lv_at hl 5 rfl) ?_
            refine lv_iconst (v := 4) hx hb dL_law_764 (by decide) ?_
            obtain ⟨q19, hq19, hF⟩ := q_bdi hF
            refine cx_i (ro := q19.1) (Lc := [w_VB1 E az 0 (q16.2)]) (Lc' := [w_VB1 E az 0 (q19.2)]) (L' := [w_VB1 E ax 0 x, w_VB1 E ay 0 y, w_VB1 E az 0 (q19.2)]) (vx_runV (As := [.int v3, .int 4]) (rest := []) ⟨hx, hb, hml, hown, ha⟩ (kg_X10_addCliff l E az 0 (q16.2) v3 4 q19 hq19 H.size hlt) (cwV 2 ha (gi_V (fun _ h => h) mw643 mw644 mw645 mw26 mw646) rfl rfl rfl hv_X10_addCliff ⟨(Nat.le_of_ble_eq_true rfl), (Nat.le_of_ble_eq_true rfl)⟩) ⟨pre_blind, va_recv hst.k (fr_P hP [2] rfl) (ci := 11) (q0 := 0) rfl rfl, pre_at hP hD hS hz hzs hst [2] (by decide) rfl rfl⟩ rfl rfl hl.1 rfl (lv_room (Nat.le_of_ble_eq_true rfl)) dL_law_765 ⟨(Nat.le_of_ble_eq_true rfl), (Nat.le_of_ble_eq_true rfl)⟩) hP hD hS hA [2] (by decide) rfl rfl rfl rfl (fun X ce q9 H locs eX h1 h2 h3 hP hD hS => ?_) (fun r20 H locs er20 hP hD hS => ?_)
            · have hF := q_smr eX hF
              exact absurd hF (by simp)
            have hF := q_sml er20 hF
            refine lv_if_ne (tgt := 829) hx hb dL_law_768 (by decide) (fun c768 => ?_) (fun c768 => ?_)
            · have hF := q_brn c768 hF
              exact absurd hF (by simp)
            · have hF := q_brp c768 hF
              refine lv_aload hx hb dL_law_771 (lv_at hl 6 rfl) ?_
              refine lv_iload hx hb dL_law_773 (lv_at hl 5 rfl) ?_
              obtain ⟨q21, hq21, hF⟩ := q_bdi hF
              refine cl_i (Lc := [w_VB1 E az 0 (q19.2)]) (Lc' := [w_VB1 E az 0 (q21.2)]) (L' := [w_VB1 E ax 0 x, w_VB1 E ay 0 y, w_VB1 E az 0 (q21.2)]) (rv := q21.1) (va_runV (As := [.int v3]) (rest := []) ⟨hx, hb, hml, hown, ha⟩ (kg_X10_chordSize l E az 0 (q19.2) v3 q21 hq21 H.size) (cwV 1 ha (gi_V (fun _ h => h) mw841 mw842 mw843 mw26 mw844) rfl rfl rfl hv_X10_chordSize ⟨(Nat.le_of_ble_eq_true rfl), (Nat.le_of_ble_eq_true rfl)⟩) ⟨pre_blind, va_recv hst.k (fr_P hP [2] rfl) (ci := 11) (q0 := 0) rfl rfl, pre_at hP hD hS hz hzs hst [2] (by decide) rfl rfl⟩ rfl rfl hl.1 rfl (lv_room (Nat.le_of_ble_eq_true rfl)) dL_law_775 ⟨(Nat.le_of_ble_eq_true rfl), (Nat.le_of_ble_eq_true rfl)⟩) hP hD hS hA [2] (by decide) rfl rfl rfl rfl (fun H locs hP hD hS => ?_)
              refine lv_iload hx hb dL_law_778 (lv_at hl 5 rfl) ?_
              refine lv_iconst (v := 1) hx hb dL_law_780 (by decide) ?_
              obtain ⟨J789, hJ789, hF⟩ := q_jn hF
              have jJ789 : ∀ (j22 : Int32), ∀ (H : Heap) (locs : List Loc) (ls : Array Slot), J789 j22 = some res → va_P E.1 vwCl (List.flatten [w_VB1 E ax 0 x, w_VB1 E ay 0 y, w_VB1 E az 0 (q21.2)]) H → va_D A (List.flatten [w_VB1 E ax 0 x, w_VB1 E ay 0 y, w_VB1 E az 0 (q21.2)]) → va_S A s.heap H locs → lv_has ls 8 [(0, .ref (E.2 18)), (1, .ref (ax 0)), (2, .ref (ay 0)), (3, .int now), (5, .int v2), (6, .int v3), (7, .ref (az 0))] → W p l e room_1 s m args below meth c H locs 3718 24525 Q (F0 m 789 ls [.int j22, .int q21.1]) := by
                intro j22 H locs ls hF hP hD hS hl
                rw [hJ789] at hF
                refine lv_icmp_ne (tgt := 829) hx hb dL_law_789 (by decide) (fun c789 => ?_) (fun c789 => ?_)
                · have hF := q_brn c789 hF
                  exact absurd hF (by simp)
                · have hF := q_brp c789 hF
                  refine lv_aload hx hb dL_law_792 (lv_at hl 6 rfl) ?_
                  obtain ⟨q23, hq23, hF⟩ := q_bdi hF
                  refine cx_i (ro := q23.1) (Lc := [w_VB1 E az 0 (q21.2)]) (Lc' := [w_VB1 E az 0 (q23.2)]) (L' := [w_VB1 E ax 0 x, w_VB1 E ay 0 y, w_VB1 E az 0 (q23.2)]) (vx_runV (As := []) (rest := []) ⟨hx, hb, hml, hown, ha⟩ (kg_X10_lastBeat l E az 0 (q21.2) q23 hq23 H.size hlt) (cwV 0 ha (gi_V (fun _ h => h) mw905 mw906 mw907 mw26 mw908) rfl rfl rfl hv_X10_lastBeat ⟨(Nat.le_of_ble_eq_true rfl), (Nat.le_of_ble_eq_true rfl)⟩) ⟨pre_blind, va_recv hst.k (fr_P hP [2] rfl) (ci := 11) (q0 := 0) rfl rfl, pre_at hP hD hS hz hzs hst [2] (by decide) rfl rfl⟩ rfl rfl hl.1 rfl (lv_room (Nat.le_of_ble_eq_true rfl)) dL_law_794 ⟨(Nat.le_of_ble_eq_true rfl), (Nat.le_of_ble_eq_true rfl)⟩) hP hD hS hA [2] (by decide) rfl rfl rfl rfl (fun X ce q9 H locs eX h1 h2 h3 hP hD hS => ?_) (fun r24 H locs er24 hP hD hS => ?_)
                  · have hF := q_smr eX hF
                    exact absurd hF (by simp)
                  have hF := q_sml er24 hF
                  refine lv_iload hx hb dL_law_797 (lv_at hl 5 rfl) ?_
                  refine lv_iconst (v := 1) hx hb dL_law_799 (by decide) ?_
                  refine lv_iadd hx hb dL_law_800 ?_
                  refine lv_icmp_ne (tgt := 829) hx hb dL_law_801 (by decide) (fun c801 => ?_) (fun c801 => ?_)
                  · have hF := q_brn c801 hF
                    exact absurd hF (by simp)
                  · have hF := q_brp c801 hF
                    obtain rfl := Option.some.inj hF
                    exact hK H locs ls hP hD hS (lv_sub hl [0, 1, 2, 3, 4, 5, 6] rfl)
              refine lv_icmp_ne (tgt := 788) hx hb dL_law_781 (by decide) (fun c781 => ?_) (fun c781 => ?_)
              · have hF := q_brn c781 hF
                refine lv_iconst (v := 2) hx hb dL_law_788 (by decide) ?_
                exact jJ789 2 H locs ls hF hP hD hS (lv_sub hl [0, 1, 2, 3, 4, 5, 6] rfl)
              · have hF := q_brp c781 hF
                refine lv_iconst (v := 3) hx hb dL_law_784 (by decide) ?_
                refine lv_goto (tgt := 789) hx hb dL_law_785 (by decide) ?_
                exact jJ789 3 H locs ls hF hP hD hS (lv_sub hl [0, 1, 2, 3, 4, 5, 6] rfl)
