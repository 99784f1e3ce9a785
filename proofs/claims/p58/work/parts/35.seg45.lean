theorem dL_law_804 : decode cL_law 804 = .ok (.aload 7, 2) := by decide +kernel
theorem dL_law_806 : decode cL_law 806 = .ok (.iload 6, 2) := by decide +kernel
theorem dL_law_808 : decode cL_law 808 = .ok (.iconst 1, 1) := by decide +kernel
theorem dL_law_809 : decode cL_law 809 = .ok (.iadd, 1) := by decide +kernel
theorem dL_law_810 : decode cL_law 810 = .ok (.iconst 0, 1) := by decide +kernel
theorem dL_law_811 : decode cL_law 811 = .ok (.invokevirtual 270, 3) := by decide +kernel
theorem dL_law_814 : decode cL_law 814 = .ok (.bipush 68, 2) := by decide +kernel
theorem dL_law_816 : decode cL_law 816 = .ok (.if_icmp .ne 13, 3) := by decide +kernel
theorem dL_law_819 : decode cL_law 819 = .ok (.aload 7, 2) := by decide +kernel
theorem dL_law_821 : decode cL_law 821 = .ok (.iload 6, 2) := by decide +kernel
theorem dL_law_823 : decode cL_law 823 = .ok (.invokevirtual 241, 3) := by decide +kernel
theorem dL_law_826 : decode cL_law 826 = .ok (.ifCond .eq 5, 3) := by decide +kernel
theorem dL_law_831 : decode cL_law 831 = .ok (.aload 7, 2) := by decide +kernel
theorem dL_law_833 : decode cL_law 833 = .ok (.iconst 1, 1) := by decide +kernel
theorem dL_law_834 : decode cL_law 834 = .ok (.iconst 1, 1) := by decide +kernel
theorem dL_law_835 : decode cL_law 835 = .ok (.invokevirtual 72, 3) := by decide +kernel
theorem dL_law_838 : decode cL_law 838 = .ok (.ifCond .ne 193, 3) := by decide +kernel
theorem dL_law_841 : decode cL_law 841 = .ok (.aload 7, 2) := by decide +kernel
theorem dL_law_843 : decode cL_law 843 = .ok (.iconst 1, 1) := by decide +kernel
theorem dL_law_844 : decode cL_law 844 = .ok (.invokevirtual 215, 3) := by decide +kernel
theorem dL_law_847 : decode cL_law 847 = .ok (.iload 6, 2) := by decide +kernel
theorem dL_law_849 : decode cL_law 849 = .ok (.iconst 1, 1) := by decide +kernel
theorem dL_law_850 : decode cL_law 850 = .ok (.if_icmp .ne 7, 3) := by decide +kernel
theorem dL_law_853 : decode cL_law 853 = .ok (.iconst 3, 1) := by decide +kernel
theorem dL_law_854 : decode cL_law 854 = .ok (.goto 4, 3) := by decide +kernel
theorem dL_law_857 : decode cL_law 857 = .ok (.iconst 2, 1) := by decide +kernel
theorem dL_law_858 : decode cL_law 858 = .ok (.if_icmp .ne 173, 3) := by decide +kernel
theorem dL_law_861 : decode cL_law 861 = .ok (.aload 7, 2) := by decide +kernel
theorem dL_law_863 : decode cL_law 863 = .ok (.iconst 1, 1) := by decide +kernel
theorem dL_law_864 : decode cL_law 864 = .ok (.invokevirtual 241, 3) := by decide +kernel
theorem dL_law_867 : decode cL_law 867 = .ok (.iload 6, 2) := by decide +kernel
theorem dL_law_869 : decode cL_law 869 = .ok (.iconst 1, 1) := by decide +kernel
theorem dL_law_870 : decode cL_law 870 = .ok (.if_icmp .ne 7, 3) := by decide +kernel
theorem dL_law_873 : decode cL_law 873 = .ok (.iconst 2, 1) := by decide +kernel
theorem dL_law_874 : decode cL_law 874 = .ok (.goto 4, 3) := by decide +kernel
theorem dL_law_877 : decode cL_law 877 = .ok (.iconst 1, 1) := by decide +kernel
theorem dL_law_878 : decode cL_law 878 = .ok (.if_icmp .ne 153, 3) := by decide +kernel
theorem dL_law_881 : decode cL_law 881 = .ok (.aload 7, 2) := by decide +kernel
theorem dL_law_883 : decode cL_law 883 = .ok (.iconst 0, 1) := by decide +kernel
theorem dL_law_884 : decode cL_law 884 = .ok (.iconst 0, 1) := by decide +kernel
theorem dL_law_885 : decode cL_law 885 = .ok (.invokevirtual 273, 3) := by decide +kernel
theorem dL_law_888 : decode cL_law 888 = .ok (.ifCond .ne 143, 3) := by decide +kernel
theorem dL_law_891 : decode cL_law 891 = .ok (.aload 7, 2) := by decide +kernel
theorem dL_law_893 : decode cL_law 893 = .ok (.iconst 1, 1) := by decide +kernel
theorem dL_law_894 : decode cL_law 894 = .ok (.iconst 2, 1) := by decide +kernel
theorem dL_law_895 : decode cL_law 895 = .ok (.invokevirtual 66, 3) := by decide +kernel
theorem dL_law_898 : decode cL_law 898 = .ok (.iconst 2, 1) := by decide +kernel
theorem dL_law_899 : decode cL_law 899 = .ok (.if_icmp .ne 132, 3) := by decide +kernel
theorem dL_law_902 : decode cL_law 902 = .ok (.aload 7, 2) := by decide +kernel
theorem dL_law_904 : decode cL_law 904 = .ok (.iconst 1, 1) := by decide +kernel
theorem dL_law_905 : decode cL_law 905 = .ok (.invokevirtual 69, 3) := by decide +kernel
theorem dL_law_908 : decode cL_law 908 = .ok (.iconst 2, 1) := by decide +kernel
theorem dL_law_909 : decode cL_law 909 = .ok (.if_icmp .ne 122, 3) := by decide +kernel
def f_law4_5 (z_v : VB_t) (v2 : Int32) (v3 : Int32) : Option (VB_t) :=
  q_bd (g_X10_chordNote z_v (v3 + 1) 0) (fun q11 =>
  q_sm q11.1 (fun _ => none) (fun r12 =>
  q_br (r12 = 68) (
  q_bd (g_X10_thirds q11.2 v3) (fun q13 =>
  q_br (q13.1 = 0) (
  q_bd (g_X10_setEntry q13.2 1 1) (fun q14 =>
  q_sm q14.1 (fun _ => none) (fun r15 =>
  q_br (r15 = 0) (
  q_bd (g_X10_chordSize q14.2 1) (fun q16 =>
  q_lt (fun (j17 : Int32) =>
  q_br (q16.1 = j17) (
  q_bd (g_X10_thirds q16.2 1) (fun q18 =>
  q_lt (fun (j19 : Int32) =>
  q_br (q18.1 = j19) (
  q_bd (g_X10_canonInterval q18.2 0 0) (fun q20 =>
  q_sm q20 (fun _ => none) (fun r21 =>
  q_br (r21 = 0) (
  q_bd (g_X10_addTone q18.2 1 2) (fun q22 =>
  q_sm q22.1 (fun _ => none) (fun r23 =>
  q_br (r23 = 2) (
  q_bd (g_X10_clearMelody q22.2 1) (fun q24 =>
  q_sm q24.1 (fun _ => none) (fun r25 =>
  q_br (r25 = 2) (
  some q24.2) (
  none)))) (
  none)))) (
  none)))) (
  none)) (fun (J878 : Int32 → Option (VB_t)) =>
  q_br (v3 = 1) (
  J878 2) (
  J878 1)))) (
  none)) (fun (J858 : Int32 → Option (VB_t)) =>
  q_br (v3 = 1) (
  J858 3) (
  J858 2)))) (
  none)))) (
  none))) (
  none)))
set_option maxHeartbeats 40000000 in
set_option maxRecDepth 100000 in
theorem kl_law4_5 {p : Program} {e : Env} {s : State} {m : MethodId} {args : Array Value} {below : List Frame} {meth : Method} {c : Code} {Q : State → Prop} {A : Nat → Prop} (l : Launch) (hlt : l.stackTraces = false) (E : ET) (ax ay : Nat → Nat) (x y : VB_t) (az : Nat → Nat) (z : VB_t) (now v2 v3 : Int32) (hx : p.tables.exec = Jvm.exec) (hb : c.code = cL_law) (hml : c.maxLocals = 8) (hown : s.vm.findClass RL = some m.cls) (ha : ∀ w ∈ lw_all, w.before args s = true) (hA : ∀ q, s.heap.size ≤ q → A q) (hz : ∀ q, A q → E.2 0 ≤ q) (hzs : E.2 0 ≤ s.heap.size) (hst : ST E s) (res : VB_t) (hF : f_law4_5 z v2 v3 = some res) {H : Heap} {locs : List Loc} {ls : Array Slot} (hP : va_P E.1 vwCl (List.flatten [w_VB1 E ax 0 x, w_VB1 E ay 0 y, w_VB1 E az 0 z]) H) (hD : va_D A (List.flatten [w_VB1 E ax 0 x, w_VB1 E ay 0 y, w_VB1 E az 0 z])) (hS : va_S A s.heap H locs) (hl : lv_has ls 8 [(0, .ref (E.2 18)), (1, .ref (ax 0)), (2, .ref (ay 0)), (3, .int now), (5, .int v2), (6, .int v3), (7, .ref (az 0))]) (hK : ∀ (H : Heap) (locs : List Loc) (ls : Array Slot), va_P E.1 vwCl (List.flatten [w_VB1 E ax 0 x, w_VB1 E ay 0 y, w_VB1 E az 0 res]) H → va_D A (List.flatten [w_VB1 E ax 0 x, w_VB1 E ay 0 y, w_VB1 E az 0 res]) → va_S A s.heap H locs → lv_has ls 8 [(0, .ref (E.2 18)), (1, .ref (ax 0)), (2, .ref (ay 0)), (3, .int now), (5, .int v2), (6, .int v3), (7, .ref (az 0))] → W p l e room_1 s m args below meth c H locs 3726 24573 Q (F0 m 912 ls [])) : W p l e room_1 s m args below meth c H locs 3719 24531 Q (F0 m 804 ls []) := by
  unfold f_law4_5 at hF
  refine lv_aload hx hb dL_law_804 (lv_at hl 6 rfl) ?_
  refine lv_iload hx hb dL_law_806 (lv_at hl 5 rfl) ?_
  refine lv_iconst (v := 1) hx hb dL_law_808 (by decide) ?_
  refine lv_iadd hx hb dL_law_809 ?_
  refine lv_iconst (v := 0) hx hb dL_law_810 (by decide) ?_
  obtain ⟨q11, hq11, hF⟩ := q_bdi hF
  refine cx_i (ro := q11.1) (Lc := [w_VB1 E az 0 z]) (Lc' := [w_VB1 E az 0 (q11.2)]) (L' := [w_VB1 E ax 0 x, w_VB1 E ay 0 y, w_VB1 E az 0 (q11.2)]) (vx_runV (As := [.int (v3 + 1), .int 0]) (rest := []) ⟨hx, hb, hml, hown, ha⟩ (kg_X10_chordNote l E az 0 z (v3 + 1) 0 q11 hq11 H.size hlt) (cwV 2 ha (gi_V (fun _ h => h) mw866 mw867 mw868 mw26 mw869) rfl rfl rfl hv_X10_chordNote ⟨(Nat.le_of_ble_eq_true rfl), (Nat.le_of_ble_eq_true rfl)⟩) ⟨pre_blind, va_recv hst.k (fr_P hP [2] rfl) (ci := 11) (q0 := 0) rfl rfl, pre_at hP hD hS hz hzs hst [2] (by decide) rfl rfl⟩ rfl rfl hl.1 rfl (lv_room (Nat.le_of_ble_eq_true rfl)) dL_law_811 ⟨(Nat.le_of_ble_eq_true rfl), (Nat.le_of_ble_eq_true rfl)⟩) hP hD hS hA [2] (by decide) rfl rfl rfl rfl (fun X ce q9 H locs eX h1 h2 h3 hP hD hS => ?_) (fun r12 H locs er12 hP hD hS => ?_)
  · have hF := q_smr eX hF
    exact absurd hF (by simp)
  have hF := q_sml er12 hF
  refine lv_bipush (v := 68) hx hb dL_law_814 (by decide) ?_
  refine lv_icmp_ne (tgt := 829) hx hb dL_law_816 (by decide) (fun c816 => ?_) (fun c816 => ?_)
  · have hF := q_brn c816 hF
    exact absurd hF (by simp)
  · have hF := q_brp c816 hF
    refine lv_aload hx hb dL_law_819 (lv_at hl 6 rfl) ?_
    refine lv_iload hx hb dL_law_821 (lv_at hl 5 rfl) ?_
    obtain ⟨q13, hq13, hF⟩ := q_bdi hF
    refine cl_i (Lc := [w_VB1 E az 0 (q11.2)]) (Lc' := [w_VB1 E az 0 (q13.2)]) (L' := [w_VB1 E ax 0 x, w_VB1 E ay 0 y, w_VB1 E az 0 (q13.2)]) (rv := q13.1) (va_runV (As := [.int v3]) (rest := []) ⟨hx, hb, hml, hown, ha⟩ (kg_X10_thirds l E az 0 (q11.2) v3 q13 hq13 H.size) (cwV 1 ha (gi_V (fun _ h => h) mw898 mw899 mw900 mw26 mw901) rfl rfl rfl hv_X10_thirds ⟨(Nat.le_of_ble_eq_true rfl), (Nat.le_of_ble_eq_true rfl)⟩) ⟨pre_blind, va_recv hst.k (fr_P hP [2] rfl) (ci := 11) (q0 := 0) rfl rfl, pre_at hP hD hS hz hzs hst [2] (by decide) rfl rfl⟩ rfl rfl hl.1 rfl (lv_room (Nat.le_of_ble_eq_true rfl)) dL_law_823 ⟨(Nat.le_of_ble_eq_true rfl), (Nat.le_of_ble_eq_true rfl)⟩) hP hD hS hA [2] (by decide) rfl rfl rfl rfl (fun H locs hP hD hS => ?_)
    refine lv_if_eq (tgt := 831) hx hb dL_law_826 (by decide) (fun c826 => ?_) (fun c826 => ?_)
    · have hF := q_brp c826 hF
      refine lv_aload hx hb dL_law_831 (lv_at hl 6 rfl) ?_
      refine lv_iconst (v := 1) hx hb dL_law_833 (by decide) ?_
      refine lv_iconst (v := 1) hx hb dL_law_834 (by decide) ?_
      obtain ⟨q14, hq14, hF⟩ := q_bdi hF
      refine cx_i (ro := q14.1) (Lc := [w_VB1 E az 0 (q13.2)]) (Lc' := [w_VB1 E az 0 (q14.2)]) (L' := [w_VB1 E ax 0 x, w_VB1 E ay 0 y, w_VB1 E az 0 (q14.2)]) (vx_runV (As := [.int 1, .int 1]) (rest := []) ⟨hx, hb, hml, hown, ha⟩ (kg_X10_setEntry l E az 0 (q13.2) 1 1 q14 hq14 H.size hlt) (cwV 2 ha (gi_V (fun _ h => h) mw637 mw638 mw639 mw26 mw640) rfl rfl rfl hv_X10_setEntry ⟨(Nat.le_of_ble_eq_true rfl), (Nat.le_of_ble_eq_true rfl)⟩) ⟨pre_blind, va_recv hst.k (fr_P hP [2] rfl) (ci := 11) (q0 := 0) rfl rfl, pre_at hP hD hS hz hzs hst [2] (by decide) rfl rfl⟩ rfl rfl hl.1 rfl (lv_room (Nat.le_of_ble_eq_true rfl)) dL_law_835 ⟨(Nat.le_of_ble_eq_true rfl), (Nat.le_of_ble_eq_true rfl)⟩) hP hD hS hA [2] (by decide) rfl rfl rfl rfl (fun X ce q9 H locs eX h1 h2 h3 hP hD hS => ?_) (fun r15 H locs er15 hP hD hS => ?_)
      · have hF := q_smr eX hF
        exact absurd hF (by simp)
      have hF := q_sml er15 hF
      refine lv_if_ne (tgt := 1031) hx hb dL_law_838 (by decide) (fun c838 => ?_) (fun c838 => ?_)
      · have hF := q_brn c838 hF
        exact absurd hF (by simp)
      · have hF := q_brp c838 hF
        refine lv_aload hx hb dL_law_841 (lv_at hl 6 rfl) ?_
        refine lv_iconst (v := 1) hx hb dL_law_843 (by decide) ?_
        obtain ⟨q16, hq16, hF⟩ := q_bdi hF
        refine cl_i (Lc := [w_VB1 E az 0 (q14.2)]) (Lc' := [w_VB1 E az 0 (q16.2)]) (L' := [w_VB1 E ax 0 x, w_VB1 E ay 0 y, w_VB1 E az 0 (q16.2)]) (rv := q16.1) (va_runV (As := [.int 1]) (rest := []) ⟨hx, hb, hml, hown, ha⟩ (kg_X10_chordSize l E az 0 (q14.2) 1 q16 hq16 H.size) (cwV 1 ha (gi_V (fun _ h => h) mw841 mw842 mw843 mw26 mw844) rfl rfl rfl hv_X10_chordSize ⟨(Nat.le_of_ble_eq_true rfl), (Nat.le_of_ble_eq_true rfl)⟩) ⟨pre_blind, va_recv hst.k (fr_P hP [2] rfl) (ci := 11) (q0 := 0) rfl rfl, pre_at hP hD hS hz hzs hst [2] (by decide) rfl rfl⟩ rfl rfl hl.1 rfl (lv_room (Nat.le_of_ble_eq_true rfl)) dL_law_844 ⟨(Nat.le_of_ble_eq_true rfl), (Nat.le_of_ble_eq_true rfl)⟩) hP hD hS hA [2] (by decide) rfl rfl rfl rfl (fun H locs hP hD hS => ?_)
        refine lv_iload hx hb dL_law_847 (lv_at hl 5 rfl) ?_
        refine lv_iconst (v := 1) hx hb dL_law_849 (by decide) ?_
        obtain ⟨J858, hJ858, hF⟩ := q_jn hF
        have jJ858 : ∀ (j17 : Int32), ∀ (H : Heap) (locs : List Loc) (ls : Array Slot), J858 j17 = some res → va_P E.1 vwCl (List.flatten [w_VB1 E ax 0 x, w_VB1 E ay 0 y, w_VB1 E az 0 (q16.2)]) H → va_D A (List.flatten [w_VB1 E ax 0 x, w_VB1 E ay 0 y, w_VB1 E az 0 (q16.2)]) → va_S A s.heap H locs → lv_has ls 8 [(0, .ref (E.2 18)), (1, .ref (ax 0)), (2, .ref (ay 0)), (3, .int now), (5, .int v2), (6, .int v3), (7, .ref (az 0))] → W p l e room_1 s m args below meth c H locs 3721 24543 Q (F0 m 858 ls [.int j17, .int q16.1]) := by
          intro j17 H locs ls hF hP hD hS hl
          rw [hJ858] at hF
          refine lv_icmp_ne (tgt := 1031) hx hb dL_law_858 (by decide) (fun c858 => ?_) (fun c858 => ?_)
          · have hF := q_brn c858 hF
            exact absurd hF (by simp)
          · have hF := q_brp c858 hF
            refine lv_aload hx hb dL_law_861 (lv_at hl 6 rfl) ?_
            refine lv_iconst (v := 1) hx hb dL_law_863 (by decide) ?_
            obtain ⟨q18, hq18, hF⟩ := q_bdi hF
            refine cl_i (Lc := [w_VB1 E az 0 (q16.2)]) (Lc' := [w_VB1 E az 0 (q18.2)]) (L' := [w_VB1 E ax 0 x, w_VB1 E ay 0 y, w_VB1 E az 0 (q18.2)]) (rv := q18.1) (va_runV (As := [.int 1]) (rest := []) ⟨hx, hb, hml, hown, ha⟩ (kg_X10_thirds l E az 0 (q16.2) 1 q18 hq18 H.size) (cwV 1 ha (gi_V (fun _ h => h) mw898 mw899 mw900 mw26 mw901) rfl rfl rfl hv_X10_thirds ⟨(Nat.le_of_ble_eq_true rfl), (Nat.le_of_ble_eq_true rfl)⟩) ⟨pre_blind, va_recv hst.k (fr_P hP [2] rfl) (ci := 11) (q0 := 0) rfl rfl, pre_at hP hD hS hz hzs hst [2] (by decide) rfl rfl⟩ rfl rfl hl.1 rfl (lv_room (Nat.le_of_ble_eq_true rfl)) dL_law_864 ⟨(Nat.le_of_ble_eq_true rfl), (Nat.le_of_ble_eq_true rfl)⟩) hP hD hS hA [2] (by decide) rfl rfl rfl rfl (fun H locs hP hD hS => ?_)
            refine lv_iload hx hb dL_law_867 (lv_at hl 5 rfl) ?_
            refine lv_iconst (v := 1) hx hb dL_law_869 (by decide) ?_
            obtain ⟨J878, hJ878, hF⟩ := q_jn hF
            have jJ878 : ∀ (j19 : Int32), ∀ (H : Heap) (locs : List Loc) (ls : Array Slot), J878 j19 = some res → va_P E.1 vwCl (List.flatten [w_VB1 E ax 0 x, w_VB1 E ay 0 y, w_VB1 E az 0 (q18.2)]) H → va_D A (List.flatten [w_VB1 E ax 0 x, w_VB1 E ay 0 y, w_VB1 E az 0 (q18.2)]) → va_S A s.heap H locs → lv_has ls 8 [(0, .ref (E.2 18)), (1, .ref (ax 0)), (2, .ref (ay 0)), (3, .int now), (5, .int v2), (6, .int v3), (7, .ref (az 0))] → W p l e room_1 s m args below meth c H locs 3721 24543 Q (F0 m 878 ls [.int j19, .int q18.1]) := by
              intro j19 H locs ls hF hP hD hS hl
              rw [hJ878] at hF
              refine lv_icmp_ne (tgt := 1031) hx hb dL_law_878 (by decide) (fun c878 => ?_) (fun c878 => ?_)
              · have hF := q_brn c878 hF
                exact absurd hF (by simp)
              · have hF := q_brp c878 hF
                refine lv_aload hx hb dL_law_881 (lv_at hl 6 rfl) ?_
                refine lv_iconst (v := 0) hx hb dL_law_883 (by decide) ?_
                refine lv_iconst (v := 0) hx hb dL_law_884 (by decide) ?_
                obtain ⟨q20, hq20, hF⟩ := q_bdi hF
                refine cx_i (ro := q20) (Lc := [w_VB1 E az 0 (q18.2)]) (Lc' := [w_VB1 E az 0 (q18.2)]) (L' := [w_VB1 E ax 0 x, w_VB1 E ay 0 y, w_VB1 E az 0 (q18.2)]) (vx_runV (As := [.int 0, .int 0]) (rest := []) ⟨hx, hb, hml, hown, ha⟩ (kg_X10_canonInterval l E az 0 (q18.2) 0 0 q20 hq20 H.size hlt) (cwV 2 ha (gi_V (fun _ h => h) mw821 mw822 mw823 mw26 mw824) rfl rfl rfl hv_X10_canonInterval ⟨(Nat.le_of_ble_eq_true rfl), (Nat.le_of_ble_eq_true rfl)⟩) ⟨pre_blind, va_recv hst.k (fr_P hP [2] rfl) (ci := 11) (q0 := 0) rfl rfl, pre_at hP hD hS hz hzs hst [2] (by decide) rfl rfl⟩ rfl rfl hl.1 rfl (lv_room (Nat.le_of_ble_eq_true rfl)) dL_law_885 ⟨(Nat.le_of_ble_eq_true rfl), (Nat.le_of_ble_eq_true rfl)⟩) hP hD hS hA [2] (by decide) rfl rfl rfl rfl (fun X ce q9 H locs eX h1 h2 h3 hP hD hS => ?_) (fun r21 H locs er21 hP hD hS => ?_)
                · have hF := q_smr eX hF
                  exact absurd hF (by simp)
                have hF := q_sml er21 hF
                refine lv_if_ne (tgt := 1031) hx hb dL_law_888 (by decide) (fun c888 => ?_) (fun c888 => ?_)
                · have hF := q_brn c888 hF
                  exact absurd hF (by simp)
                · have hF := q_brp c888 hF
                  refine lv_aload hx hb dL_law_891 (lv_at hl 6 rfl) ?_
                  refine lv_iconst (v := 1) hx hb dL_law_893 (by decide) ?_
                  refine lv_iconst (v := 2) hx hb dL_law_894 (by decide) ?_
                  obtain ⟨q22, hq22, hF⟩ := q_bdi hF
                  refine cx_i (ro := q22.1) (Lc := [w_VB1 E az 0 (q18.2)]) (Lc' := [w_VB1 E az 0 (q22.2)]) (L' := [w_VB1 E ax 0 x, w_VB1 E ay 0 y, w_VB1 E az 0 (q22.2)]) (vx_runV (As := [.int 1, .int 2]) (rest := []) ⟨hx, hb, hml, hown, ha⟩ (kg_X10_addTone l E az 0 (q18.2) 1 2 q22 hq22 H.size hlt) (cwV 2 ha (gi_V (fun _ h => h) mw625 mw626 mw627 mw26 mw628) rfl rfl rfl hv_X10_addTone ⟨(Nat.le_of_ble_eq_true rfl), (Nat.le_of_ble_eq_true rfl)⟩) ⟨pre_blind, va_recv hst.k (fr_P hP [2] rfl) (ci := 11) (q0 := 0) rfl rfl, pre_at hP hD hS hz hzs hst [2] (by decide) rfl rfl⟩ rfl rfl hl.1 rfl (lv_room (Nat.le_of_ble_eq_true rfl)) dL_law_895 ⟨(Nat.le_of_ble_eq_true rfl), (Nat.le_of_ble_eq_true rfl)⟩) hP hD hS hA [2] (by decide) rfl rfl rfl rfl (fun X ce q9 H locs eX h1 h2 h3 hP hD hS => ?_) (fun r23 H locs er23 hP hD hS => ?_)
                  · have hF := q_smr eX hF
                    exact absurd hF (by simp)
                  have hF := q_sml er23 hF
                  refine lv_iconst (v := 2) hx hb dL_law_898 (by decide) ?_
                  refine lv_icmp_ne (tgt := 1031) hx hb dL_law_899 (by decide) (fun c899 => ?_) (fun c899 => ?_)
                  · have hF := q_brn c899 hF
                    exact absurd hF (by simp)
                  · have hF := q_brp c899 hF
                    refine lv_aload hx hb dL_law_902 (lv_at hl 6 rfl) ?_
                    refine lv_iconst (v := 1) hx hb dL_law_904 (by decide) ?_
                    obtain ⟨q24, hq24, hF⟩ := q_bdi hF
                    refine cx_i (ro := q24.1) (Lc := [w_VB1 E az 0 (q22.2)]) (Lc' := [w_VB1 E az 0 (q24.2)]) (L' := [w_VB1 E ax 0 x, w_VB1 E ay 0 y, w_VB1 E az 0 (q24.2)]) (vx_runV (As := [.int 1]) (rest := []) ⟨hx, hb, hml, hown, ha⟩ (kg_X10_clearMelody l E az 0 (q22.2) 1 q24 hq24 H.size hlt) (cwV 1 ha (gi_V (fun _ h => h) mw631 mw632 mw633 mw26 mw634) rfl rfl rfl hv_X10_clearMelody ⟨(Nat.le_of_ble_eq_true rfl), (Nat.le_of_ble_eq_true rfl)⟩) ⟨pre_blind, va_recv hst.k (fr_P hP [2] rfl) (ci := 11) (q0 := 0) rfl rfl, pre_at hP hD hS hz hzs hst [2] (by decide) rfl rfl⟩ rfl rfl hl.1 rfl (lv_room (Nat.le_of_ble_eq_true rfl)) dL_law_905 ⟨(Nat.le_of_ble_eq_true rfl), (Nat.le_of_ble_eq_true rfl)⟩) hP hD hS hA [2] (by decide) rfl rfl rfl rfl (fun X ce q9 H locs eX h1 h2 h3 hP hD hS => ?_) (fun r25 H locs er25 hP hD hS => ?_)
                    · have hF := q_smr eX hF
                      exact absurd hF (by simp)
                    have hF := q_sml er25 hF
                    refine lv_iconst (v := 2) hx hb dL_law_908 (by decide) ?_
                    refine lv_icmp_ne (tgt := 1031) hx hb dL_law_909 (by decide) (fun c909 => ?_) (fun c909 => ?_)
                    · have hF := q_brn c909 hF
                      exact absurd hF (by simp)
                    · have hF := q_brp c909 hF
                      obtain rfl := Option.some.inj hF
                      exact hK H locs ls hP hD hS (lv_sub hl [0, 1, 2, 3, 4, 5, 6] rfl)
            refine lv_icmp_ne (tgt := 877) hx hb dL_law_870 (by decide) (fun c870 => ?_) (fun c870 => ?_)
            · have hF := q_brn c870 hF
              refine lv_iconst (v := 1) hx hb dL_law_877 (by decide) ?_
              exact jJ878 1 H locs ls hF hP hD hS (lv_sub hl [0, 1, 2, 3, 4, 5, 6] rfl)
            · have hF := q_brp c870 hF
              refine lv_iconst (v := 2) hx hb dL_law_873 (by decide) ?_
              refine lv_goto (tgt := 878) hx hb dL_law_874 (by decide) ?_
              exact jJ878 2 H locs ls hF hP hD hS (lv_sub hl [0, 1, 2, 3, 4, 5, 6] rfl)
        refine lv_icmp_ne (tgt := 857) hx hb dL_law_850 (by decide) (fun c850 => ?_) (fun c850 => ?_)
        · have hF := q_brn c850 hF
          refine lv_iconst (v := 2) hx hb dL_law_857 (by decide) ?_
          exact jJ858 2 H locs ls hF hP hD hS (lv_sub hl [0, 1, 2, 3, 4, 5, 6] rfl)
        · have hF := q_brp c850 hF
          refine lv_iconst (v := 3) hx hb dL_law_853 (by decide) ?_
          refine lv_goto (tgt := 858) hx hb dL_law_854 (by decide) ?_
          exact jJ858 3 H locs ls hF hP hD hS (lv_sub hl [0, 1, 2, 3, 4, 5, 6] rfl)
    · have hF := q_brn c826 hF
      exact absurd hF (by simp)
