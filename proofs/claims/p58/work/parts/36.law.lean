theorem dL_law_1114 : decode cL_law 1114 = .ok (.aload_n 1, 1) := by decide +kernel
theorem dL_law_1115 : decode cL_law 1115 = .ok (.invokevirtual 279, 3) := by decide +kernel
theorem dL_law_1118 : decode cL_law 1118 = .ok (.aload_n 1, 1) := by decide +kernel
theorem dL_law_1119 : decode cL_law 1119 = .ok (.invokestatic 153, 3) := by decide +kernel
theorem dL_law_1122 : decode cL_law 1122 = .ok (.iload_n 3, 1) := by decide +kernel
theorem dL_law_1123 : decode cL_law 1123 = .ok (.if_icmp .ne 7, 3) := by decide +kernel
def f_law5 (x_v : VB_t) (now : Int32) : Option (Unit) :=
  q_bd (g_X10_restore x_v) (fun q11 =>
  q_sm q11.1 (fun _ => none) (fun r12 =>
  q_bd (f_L_state q11.2) (fun q13 =>
  q_br (q13 = now) (
  some ()) (
  none))))
set_option maxHeartbeats 40000000 in
set_option maxRecDepth 100000 in
theorem kl_law5 {p : Program} {e : Env} {s : State} {m : MethodId} {args : Array Value} {below : List Frame} {meth : Method} {c : Code} {Q : State → Prop} {A : Nat → Prop} (l : Launch) (hlt : l.stackTraces = false) (E : ET) (ax ay : Nat → Nat) (x y : VB_t) (now : Int32) (hx : p.tables.exec = Jvm.exec) (hb : c.code = cL_law) (hml : c.maxLocals = 8) (hown : s.vm.findClass RL = some m.cls) (ha : ∀ w ∈ lw_all, w.before args s = true) (hA : ∀ q, s.heap.size ≤ q → A q) (hz : ∀ q, A q → E.2 0 ≤ q) (hzs : E.2 0 ≤ s.heap.size) (hst : ST E s) (hF : f_law5 x now = some ()) {H : Heap} {locs : List Loc} {ls : Array Slot} (hP : va_P E.1 vwCl (List.flatten [w_VB1 E ax 0 x, w_VB1 E ay 0 y]) H) (hD : va_D A (List.flatten [w_VB1 E ax 0 x, w_VB1 E ay 0 y])) (hS : va_S A s.heap H locs) (hl : lv_has ls 8 [(0, .ref (E.2 18)), (1, .ref (ax 0)), (2, .ref (ay 0)), (3, .int now)]) (hK : ∀ (H : Heap) (locs : List Loc) (ls : Array Slot), va_S A s.heap H locs → W p l e room_1 s m args below meth c H locs 3972 26169 Q (F0 m 1126 ls [])) : W p l e room_1 s m args below meth c H locs 3747 24699 Q (F0 m 1114 ls []) := by
  unfold f_law5 at hF
  refine lv_aload_n hx hb dL_law_1114 rfl (lv_at hl 1 rfl) ?_
  obtain ⟨q11, hq11, hF⟩ := q_bdi hF
  refine cx_v (ro := q11.1) (Lc := [w_VB1 E ax 0 x]) (Lc' := [w_VB1 E ax 0 (q11.2)]) (L' := [w_VB1 E ax 0 (q11.2), w_VB1 E ay 0 y]) (vx_runV (As := []) (rest := []) ⟨hx, hb, hml, hown, ha⟩ (kg_X10_restore l E ax 0 x q11 hq11 H.size hlt) (cwV 0 ha (gi_V (fun _ h => h) mw1077 mw1078 mw1079 mw26 mw1080) rfl rfl rfl hv_X10_restore ⟨(Nat.le_of_ble_eq_true rfl), (Nat.le_of_ble_eq_true rfl)⟩) ⟨pre_blind, va_recv hst.k (fr_P hP [0] rfl) (ci := 11) (q0 := 0) rfl rfl, pre_at hP hD hS hz hzs hst [0] (by decide) rfl rfl⟩ rfl rfl hl.1 rfl (lv_room (Nat.le_of_ble_eq_true rfl)) dL_law_1115 ⟨(Nat.le_of_ble_eq_true rfl), (Nat.le_of_ble_eq_true rfl)⟩) hP hD hS hA [0] (by decide) rfl rfl rfl rfl (fun X ce q9 H locs eX h1 h2 h3 hP hD hS => ?_) (fun r12 H locs er12 hP hD hS => ?_)
  · have hF := q_smr eX hF
    exact absurd hF (by simp)
  have hF := q_sml er12 hF
  refine lv_aload_n hx hb dL_law_1118 rfl (lv_at hl 1 rfl) ?_
  obtain ⟨q13, hq13, hF⟩ := q_bdi hF
  refine cl_i (Lc := [w_VB1 E ax 0 (q11.2)]) (Lc' := [w_VB1 E ax 0 (q11.2)]) (L' := [w_VB1 E ax 0 (q11.2), w_VB1 E ay 0 y]) (rv := q13) (va_runS (As := [.ref (ax 0)]) (rest := []) ⟨hx, hb, hml, hown, ha⟩ (k_L_state l E ax 0 (q11.2) q13 hq13 H.size hlt) (cwS 1 ha (gi_S (fun _ h => h) mw1152 mw1153 mw25 mw1154) rfl rfl rfl hv_L_state ⟨(Nat.le_of_ble_eq_true rfl), (Nat.le_of_ble_eq_true rfl)⟩) ⟨pre_blind, pre_at hP hD hS hz hzs hst [0] (by decide) rfl rfl⟩ rfl rfl hl.1 rfl (lv_room (Nat.le_of_ble_eq_true rfl)) dL_law_1119 ⟨(Nat.le_of_ble_eq_true rfl), (Nat.le_of_ble_eq_true rfl)⟩) hP hD hS hA [0] (by decide) rfl rfl rfl rfl (fun H locs hP hD hS => ?_)
  refine lv_iload_n hx hb dL_law_1122 rfl (lv_at hl 3 rfl) ?_
  refine lv_icmp_ne (tgt := 1130) hx hb dL_law_1123 (by decide) (fun c1123 => ?_) (fun c1123 => ?_)
  · have hF := q_brn c1123 hF
    exact absurd hF (by simp)
  · have hF := q_brp c1123 hF
    exact hK H locs ls hS
theorem dL_law_0 : decode cL_law 0 = .ok (.aload_n 0, 1) := by decide +kernel
theorem dL_law_1 : decode cL_law 1 = .ok (.invokestatic 146, 3) := by decide +kernel
theorem dL_law_4 : decode cL_law 4 = .ok (.astore_n 1, 1) := by decide +kernel
theorem dL_law_5 : decode cL_law 5 = .ok (.aload_n 0, 1) := by decide +kernel
theorem dL_law_6 : decode cL_law 6 = .ok (.invokestatic 146, 3) := by decide +kernel
theorem dL_law_9 : decode cL_law 9 = .ok (.astore_n 2, 1) := by decide +kernel
theorem dL_law_1126 : decode cL_law 1126 = .ok (.iconst 1, 1) := by decide +kernel
theorem dL_law_1127 : decode cL_law 1127 = .ok (.goto 4, 3) := by decide +kernel
theorem dL_law_1131 : decode cL_law 1131 = .ok (.ireturn, 1) := by decide +kernel
def f_law (bd : VB_t) (ns : Nat) (xs : Nat → Int32) : Option Unit :=
  q_bd (f_law1 bd bd) (fun r =>
  q_bd (f_law2_0 r.1 r.2.2) (fun x0 =>
  q_bd (f_law2_1 x0 r.2.2) (fun x1 =>
  q_bd (f_law2_2 x1 r.2.2) (fun x2 =>
  q_bd (f_law3 ns xs) (fun v =>
  q_bd (f_law4_0 vbi v.1 v.2) (fun z0 =>
  q_bd (f_law4_1 z0 v.1 v.2) (fun z1 =>
  q_bd (f_law4_2 z1 v.1 v.2) (fun z2 =>
  q_bd (f_law4_3 z2 v.1 v.2) (fun z3 =>
  q_bd (f_law4_4 z3 v.1 v.2) (fun z4 =>
  q_bd (f_law4_5 z4 v.1 v.2) (fun z5 =>
  q_bd (f_law4_6 z5 v.1 v.2) (fun z6 =>
  q_bd (f_law4_7 z6 v.1 v.2) (fun z7 =>
  q_bd (f_law4_8 z7 v.1 v.2) (fun z8 =>
  f_law5 x2 r.2.2))))))))))))))
set_option maxHeartbeats 4000000 in
set_option maxRecDepth 100000 in
theorem k_law {p : Program} {e : Env} {s : State} {m : MethodId} {args : Array Value} {below : List Frame} {meth : Method} {c : Code} {Q : State → Prop} (l : Launch) (hlt : l.stackTraces = false) (E : ET) (hx : p.tables.exec = Jvm.exec) (hb : c.code = cL_law) (hml : c.maxLocals = 8) (hown : s.vm.findClass RL = some m.cls) (ha : ∀ w ∈ lw_all, w.before args s = true) (hzs : E.2 0 = s.heap.size) (hst : ST E s) (bd : VB_t) (hB : f_L_build (E.2 19) (sx E) = some bd) (hF : f_law bd (E.2 19) (sx E) = some ()) (hend : ∀ (H : Heap) (ls : Array Slot), W p l e room_1 s m args below meth c H [] 720478 6925949 Q (F0 m 1131 ls [.int 1])) {ls : Array Slot} (hl : lv_has ls 8 [(0, .ref (E.2 18))]) : W p l e room_1 s m args below meth c s.heap [] 0 0 Q (F0 m 0 ls []) := by
  have hA : ∀ q : Nat, s.heap.size ≤ q → (fun q => s.heap.size ≤ q) q := fun _ h => h
  have hz : ∀ q, (fun q => s.heap.size ≤ q) q → E.2 0 ≤ q := fun q h => by rw [hzs]; exact h
  have hzs : E.2 0 ≤ s.heap.size := Nat.le_of_eq hzs
  generalize hAe : (fun q : Nat => s.heap.size ≤ q) = A at hA hz
  have hS : va_S A s.heap s.heap [] := va_S.rf
  have hP : va_P E.1 vwCl (List.flatten ([] : List va_W)) s.heap := P_iff.mpr (fun q hq => nomatch hq)
  have hD : va_D A (List.flatten ([] : List va_W)) := D_iff.mpr ⟨List.nodup_nil, fun q hq => nomatch hq⟩
  have hend2 : ∀ (H : Heap) (locs : List Loc) (ls : Array Slot), va_S A s.heap H locs → W p l e room_1 s m args below meth c H locs 3972 26169 Q (F0 m 1126 ls []) := by
    intro H locs ls hS
    refine va_forget (fun q hq => by have h3 := hS.2.2 q hq; rw [← hAe] at h3; exact h3) ?_
    refine W.widen (k := 720478) (n := 6925949) (Nat.le_of_ble_eq_true rfl) (Nat.le_of_ble_eq_true rfl) ?_
    refine lv_iconst (v := 1) hx hb dL_law_1126 (by decide) ?_
    refine lv_goto (tgt := 1131) hx hb dL_law_1127 (by decide) ?_
    exact hend H ls
  generalize hHe : s.heap = H at hP
  have hS : va_S A s.heap H [] := by rw [← hHe]; exact hS
  suffices goal : ∀ locs : List Loc, va_S A s.heap H locs → W p l e room_1 s m args below meth c H locs 0 0 Q (F0 m 0 ls []) by
    have h9 := goal [] hS
    exact h9
  clear hS
  intro locs hS
  refine lv_aload_n hx hb dL_law_0 rfl (lv_at hl 0 rfl) ?_
  refine cl_b (L0 := []) (rf := bd) (va_runS (As := [.ref (E.2 18)]) (rest := []) ⟨hx, hb, hml, hown, ha⟩ (k_L_build l E bd hB H.size hlt) (cwS 1 ha (gi_S (fun _ h => h) mw1108 mw1109 mw25 mw1110) rfl rfl rfl hv_L_build ⟨(Nat.le_of_ble_eq_true rfl), (Nat.le_of_ble_eq_true rfl)⟩) ⟨pre_blind, pre_at (L := []) hP hD hS hz hzs hst [] (by decide) rfl rfl⟩ rfl rfl hl.1 rfl (lv_room (Nat.le_of_ble_eq_true rfl)) dL_law_1 ⟨(Nat.le_of_ble_eq_true rfl), (Nat.le_of_ble_eq_true rfl)⟩) hP hD hS hA (fun ax H locs hP hD hS => ?_)
  have hP : va_P E.1 vwCl (List.flatten [w_VB1 E ax 0 bd]) H := hP
  have hD : va_D A (List.flatten [w_VB1 E ax 0 bd]) := hD
  refine lv_astore_n (lv' := [(1, .ref (ax 0)), (0, .ref (E.2 18))]) hx hb dL_law_4 rfl hl (by decide) rfl (fun ls hl => ?_)
  refine lv_aload_n hx hb dL_law_5 rfl (lv_at hl 1 rfl) ?_
  refine cl_b (L0 := [w_VB1 E ax 0 bd]) (rf := bd) (va_runS (As := [.ref (E.2 18)]) (rest := []) ⟨hx, hb, hml, hown, ha⟩ (k_L_build l E bd hB H.size hlt) (cwS 1 ha (gi_S (fun _ h => h) mw1108 mw1109 mw25 mw1110) rfl rfl rfl hv_L_build ⟨(Nat.le_of_ble_eq_true rfl), (Nat.le_of_ble_eq_true rfl)⟩) ⟨pre_blind, pre_at (L := [w_VB1 E ax 0 bd]) hP hD hS hz hzs hst [] (by decide) rfl rfl⟩ rfl rfl hl.1 rfl (lv_room (Nat.le_of_ble_eq_true rfl)) dL_law_6 ⟨(Nat.le_of_ble_eq_true rfl), (Nat.le_of_ble_eq_true rfl)⟩) hP hD hS hA (fun ay H locs hP hD hS => ?_)
  have hP : va_P E.1 vwCl (List.flatten [w_VB1 E ax 0 bd, w_VB1 E ay 0 bd]) H := hP
  have hD : va_D A (List.flatten [w_VB1 E ax 0 bd, w_VB1 E ay 0 bd]) := hD
  refine lv_astore_n (lv' := [(2, .ref (ay 0)), (1, .ref (ax 0)), (0, .ref (E.2 18))]) hx hb dL_law_9 rfl hl (by decide) rfl (fun ls hl => ?_)
  unfold f_law at hF
  obtain ⟨r, hr, hF⟩ := q_bdi hF
  refine kl_law1 l hlt E ax ay bd bd hx hb hml hown ha hA hz hzs hst r hr hP hD hS (lv_sub hl [2, 1, 0] rfl) (fun H locs ls hP hD hS hl => ?_)
  obtain ⟨x0, hx0, hF⟩ := q_bdi hF
  refine kl_law2_0 l hlt E ax ay r.1 r.2.1 r.2.2 hx hb hml hown ha hA hz hzs hst x0 hx0 hP hD hS hl (fun H locs ls hP hD hS hl => ?_)
  obtain ⟨x1, hx1, hF⟩ := q_bdi hF
  refine kl_law2_1 l hlt E ax ay x0 r.2.1 r.2.2 hx hb hml hown ha hA hz hzs hst x1 hx1 hP hD hS hl (fun H locs ls hP hD hS hl => ?_)
  obtain ⟨x2, hx2, hF⟩ := q_bdi hF
  refine kl_law2_2 l hlt E ax ay x1 r.2.1 r.2.2 hx hb hml hown ha hA hz hzs hst x2 hx2 hP hD hS hl (fun H locs ls hP hD hS hl => ?_)
  obtain ⟨v, hv, hF⟩ := q_bdi hF
  refine kl_law3 l hlt E ax ay x2 r.2.1 r.2.2 hx hb hml hown ha hA hz hzs hst v hv hP hD hS hl (fun az H locs ls hP hD hS hl => ?_)
  obtain ⟨z0, hz0, hF⟩ := q_bdi hF
  refine kl_law4_0 l hlt E ax ay x2 r.2.1 az vbi r.2.2 v.1 v.2 hx hb hml hown ha hA hz hzs hst z0 hz0 hP hD hS hl (fun H locs ls hP hD hS hl => ?_)
  obtain ⟨z1, hz1, hF⟩ := q_bdi hF
  refine kl_law4_1 l hlt E ax ay x2 r.2.1 az z0 r.2.2 v.1 v.2 hx hb hml hown ha hA hz hzs hst z1 hz1 hP hD hS hl (fun H locs ls hP hD hS hl => ?_)
  obtain ⟨z2, hz2, hF⟩ := q_bdi hF
  refine kl_law4_2 l hlt E ax ay x2 r.2.1 az z1 r.2.2 v.1 v.2 hx hb hml hown ha hA hz hzs hst z2 hz2 hP hD hS hl (fun H locs ls hP hD hS hl => ?_)
  obtain ⟨z3, hz3, hF⟩ := q_bdi hF
  refine kl_law4_3 l hlt E ax ay x2 r.2.1 az z2 r.2.2 v.1 v.2 hx hb hml hown ha hA hz hzs hst z3 hz3 hP hD hS hl (fun H locs ls hP hD hS hl => ?_)
  obtain ⟨z4, hz4, hF⟩ := q_bdi hF
  refine kl_law4_4 l hlt E ax ay x2 r.2.1 az z3 r.2.2 v.1 v.2 hx hb hml hown ha hA hz hzs hst z4 hz4 hP hD hS hl (fun H locs ls hP hD hS hl => ?_)
  obtain ⟨z5, hz5, hF⟩ := q_bdi hF
  refine kl_law4_5 l hlt E ax ay x2 r.2.1 az z4 r.2.2 v.1 v.2 hx hb hml hown ha hA hz hzs hst z5 hz5 hP hD hS hl (fun H locs ls hP hD hS hl => ?_)
  obtain ⟨z6, hz6, hF⟩ := q_bdi hF
  refine kl_law4_6 l hlt E ax ay x2 r.2.1 az z5 r.2.2 v.1 v.2 hx hb hml hown ha hA hz hzs hst z6 hz6 hP hD hS hl (fun H locs ls hP hD hS hl => ?_)
  obtain ⟨z7, hz7, hF⟩ := q_bdi hF
  refine kl_law4_7 l hlt E ax ay x2 r.2.1 az z6 r.2.2 v.1 v.2 hx hb hml hown ha hA hz hzs hst z7 hz7 hP hD hS hl (fun H locs ls hP hD hS hl => ?_)
  obtain ⟨z8, hz8, hF⟩ := q_bdi hF
  refine kl_law4_8 l hlt E ax ay x2 r.2.1 az z7 r.2.2 v.1 v.2 hx hb hml hown ha hA hz hzs hst z8 hz8 hP hD hS hl (fun H locs ls hP hD hS hl => ?_)
  exact kl_law5 l hlt E ax ay x2 r.2.1 r.2.2 hx hb hml hown ha hA hz hzs hst hF (fr_P hP [0, 1] rfl) (fr_D hD [0, 1] (by decide) rfl rfl) hS (lv_sub hl [0, 1, 2, 3] rfl) hend2
