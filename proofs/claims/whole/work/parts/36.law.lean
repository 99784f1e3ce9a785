theorem dL_law_0 : decode cL_law 0 = .ok (.new 8, 3) := by decide +kernel
theorem dL_law_3 : decode cL_law 3 = .ok (.dup, 1) := by decide +kernel
theorem dL_law_4 : decode cL_law 4 = .ok (.invokespecial 150, 3) := by decide +kernel
theorem dL_law_7 : decode cL_law 7 = .ok (.astore_n 1, 1) := by decide +kernel
theorem dL_law_8 : decode cL_law 8 = .ok (.new 151, 3) := by decide +kernel
theorem dL_law_11 : decode cL_law 11 = .ok (.dup, 1) := by decide +kernel
theorem dL_law_12 : decode cL_law 12 = .ok (.invokespecial 153, 3) := by decide +kernel
theorem dL_law_15 : decode cL_law 15 = .ok (.astore_n 2, 1) := by decide +kernel
theorem dL_law_16 : decode cL_law 16 = .ok (.iconst 1, 1) := by decide +kernel
theorem dL_law_17 : decode cL_law 17 = .ok (.newarray .long, 2) := by decide +kernel
theorem dL_law_19 : decode cL_law 19 = .ok (.astore_n 3, 1) := by decide +kernel
theorem dL_law_20 : decode cL_law 20 = .ok (.iconst 1, 1) := by decide +kernel
theorem dL_law_21 : decode cL_law 21 = .ok (.newarray .double, 2) := by decide +kernel
theorem dL_law_23 : decode cL_law 23 = .ok (.astore 4, 2) := by decide +kernel
theorem dL_law_25 : decode cL_law 25 = .ok (.iconst 0, 1) := by decide +kernel
theorem dL_law_26 : decode cL_law 26 = .ok (.istore 5, 2) := by decide +kernel
theorem dL_law_2887 : decode cL_law 2887 = .ok (.iconst 1, 1) := by decide +kernel
theorem dL_law_2888 : decode cL_law 2888 = .ok (.ireturn, 1) := by decide +kernel
theorem fl1 {X : List va_W} : List.flatten [X.flatten] = X.flatten := by rw [List.flatten_cons, List.flatten_nil, List.append_nil]
set_option maxHeartbeats 4000000 in
set_option maxRecDepth 100000 in
theorem k_law {p : Program} {e : Env} {s : State} {m : MethodId} {args : Array Value} {below : List Frame} {meth : Method} {c : Code} {Q : State → Prop} (l : Launch) (hlt : l.stackTraces = false) (E : ET) (b n : Nat) (xs : Nat → Int32) (hx : p.tables.exec = Jvm.exec) (hb : c.code = cL_law) (hml : c.maxLocals = 9) (hown : s.vm.findClass RL = some m.cls) (ha : ∀ w ∈ lw_all, w.before args s = true) (hzs : E.2 0 = s.heap.size) (hst : ST E s) (hX : va_X b n xs s s.heap) (hbl : b < s.heap.size) (hF : f_law xs n = some ()) (hend : ∀ (H : Heap) (ls : Array Slot), W p l e room_1 s m args below meth c H [] 603072 7207018 Q (F0 m 2888 ls [.int 1])) {ls : Array Slot} (hl : lv_has ls 9 [(0, .ref b)]) : W p l e room_1 s m args below meth c s.heap [] 0 0 Q (F0 m 0 ls []) := by
  have hA : ∀ q : Nat, s.heap.size ≤ q → (fun q => s.heap.size ≤ q) q := fun _ h => h
  have hz : ∀ q, (fun q => s.heap.size ≤ q) q → E.2 0 ≤ q := fun q h => by rw [hzs]; exact h
  have hbA : ¬ (fun q => s.heap.size ≤ q) b := Nat.not_le.mpr hbl
  have hzs : E.2 0 ≤ s.heap.size := Nat.le_of_eq hzs
  generalize hAe : (fun q : Nat => s.heap.size ≤ q) = A at hA hz hbA
  have hS : va_S A s.heap s.heap [] := va_S.rf
  have hP : va_P E.1 vwCl (List.flatten ([] : List va_W)) s.heap := P_iff.mpr (fun q hq => nomatch hq)
  have hD : va_D A (List.flatten ([] : List va_W)) := D_iff.mpr ⟨List.nodup_nil, fun q hq => nomatch hq⟩
  have hend2 : ∀ (H : Heap) (locs : List Loc) (ls : Array Slot) (cv sv : Nat), cv ≤ 603072 → sv ≤ 7207018 → va_S A s.heap H locs → W p l e room_1 s m args below meth c H locs cv sv Q (F0 m 2887 ls []) := by
    intro H locs ls cv sv h1 h2 hS
    refine va_forget (fun q hq => by have h3 := hS.2.2 q hq; rw [← hAe] at h3; exact h3) ?_
    refine W.widen h1 h2 ?_
    refine lv_iconst (v := 1) hx hb dL_law_2887 (by decide) ?_
    exact hend H ls
  generalize hHe : s.heap = H at hP
  have hS : va_S A s.heap H [] := by rw [← hHe]; exact hS
  suffices goal : ∀ locs : List Loc, va_S A s.heap H locs → W p l e room_1 s m args below meth c H locs 0 0 Q (F0 m 0 ls []) by
    have h9 := goal [] hS
    exact h9
  clear hS
  intro locs hS
  refine vi_new (C := RX10) (T := TX10) (N := 10) (ci := 12) (fs := [.null, .null, .null, .null, .null, .null, .null, .int 0, .int 0, .int 0]) hx hb hst ha in_X10 tyX10 tyX10_ok hown mw110 mw111 mw74 hP hD hS hA rfl (by decide +kernel) (Nat.le_of_ble_eq_true rfl) (Nat.le_of_ble_eq_true rfl) dL_law_0 (fun q1 H hP hD hS => ?_)
  have hP : va_P E.1 vwCl (List.flatten [[(q1, .inr (12, [.null, .null, .null, .null, .null, .null, .null, .int 0, .int 0, .int 0]))]]) H := hP
  have hD : va_D A (List.flatten [[(q1, .inr (12, [.null, .null, .null, .null, .null, .null, .null, .int 0, .int 0, .int 0]))]]) := hD
  refine lv_dup hx hb dL_law_3 rfl ?_
  refine cl_c (L0 := []) (Lc := [[(q1, .inr (12, [.null, .null, .null, .null, .null, .null, .null, .int 0, .int 0, .int 0]))]]) (a0 := q1) (Lf := fun aN => bl_VB E aN 0 ((v_init, v_init, (fun _ => v_init, 0, 0), ((fun _ => 0, 0, fun _ => none, fun _ => 0), (fun _ => 0, 0, fun _ => 0, 0), (1, 0, 0)), (fun _ => 0, fun _ => 0, 0)), ((0, 0, 10), (fun _ => 0, 16, (aN 36), 0, 0), 0, (-1), (-1)))) (va_runI (As := []) (rest := [.ref q1]) ⟨hx, hb, hml, hown, ha⟩ (k_X10_init l E q1 H.size) (cwI 0 ha (gi_B (fun _ h => h) mw114) rfl rfl rfl (ha _ mw74) (ha _ mw112) (ha _ mw113) rfl hv_X10_init ⟨(Nat.le_of_ble_eq_true rfl), (Nat.le_of_ble_eq_true rfl)⟩) ⟨pre_blind, pre_at (L := [[(q1, .inr (12, [.null, .null, .null, .null, .null, .null, .null, .int 0, .int 0, .int 0]))]]) hP hD hS hz hzs hst [0] (by decide) rfl rfl⟩ rfl rfl hl.1 rfl (lv_room (Nat.le_of_ble_eq_true rfl)) dL_law_4 ⟨(Nat.le_of_ble_eq_true rfl), (Nat.le_of_ble_eq_true rfl)⟩) hP hD hS hA (fun b2 Hn ln ha0 hPn hDn hSn => ?_)
  clear hP hD hS
  subst ha0
  revert hPn hDn hSn; revert ln; revert Hn; intro H locs hP hD hS
  have hP : va_P E.1 vwCl (List.flatten [(bl_VB E b2 0 (sad vb_init (b2 36))).flatten]) H := by rw [fl1]; exact hP
  have hD : va_D A (List.flatten [(bl_VB E b2 0 (sad vb_init (b2 36))).flatten]) := by rw [fl1]; exact hD
  refine lv_astore_n (lv' := [(1, .ref (b2 0)), (0, .ref b)]) hx hb dL_law_7 rfl hl (by decide) rfl (fun ls hl => ?_)
  refine vi_new (C := RX11) (T := TX11) (N := 18) (ci := 13) (fs := [.null, .null, .null, .int 0, .null, .int 0, .null, .int 0, .int 0, .int 0, .null, .int 0, .null, .int 0, .int 0, .int 0, .int 0, .null]) hx hb hst ha in_X11 tyX11 tyX11_ok hown mw1630 mw1631 mw87 hP hD hS hA rfl (by decide +kernel) (Nat.le_of_ble_eq_true rfl) (Nat.le_of_ble_eq_true rfl) dL_law_8 (fun q3 H hP hD hS => ?_)
  have hP : va_P E.1 vwCl (List.flatten [(bl_VB E b2 0 (sad vb_init (b2 36))).flatten, [(q3, .inr (13, [.null, .null, .null, .int 0, .null, .int 0, .null, .int 0, .int 0, .int 0, .null, .int 0, .null, .int 0, .int 0, .int 0, .int 0, .null]))]]) H := hP
  have hD : va_D A (List.flatten [(bl_VB E b2 0 (sad vb_init (b2 36))).flatten, [(q3, .inr (13, [.null, .null, .null, .int 0, .null, .int 0, .null, .int 0, .int 0, .int 0, .null, .int 0, .null, .int 0, .int 0, .int 0, .int 0, .null]))]]) := hD
  refine lv_dup hx hb dL_law_11 rfl ?_
  refine cl_c (L0 := [(bl_VB E b2 0 (sad vb_init (b2 36))).flatten]) (Lc := [[(q3, .inr (13, [.null, .null, .null, .int 0, .null, .int 0, .null, .int 0, .int 0, .int 0, .null, .int 0, .null, .int 0, .int 0, .int 0, .int 0, .null]))]]) (a0 := q3) (Lf := fun aN => bl_Model E aN 0 ((upd (fun _ => 0) 4 10, fun _ => 0, fun _ => 0, 0, fun _ => 0), (0, fun _ => 0, 0, (-1), (-1)), (fun _ => 0, 0, fun _ => 0, 0), (0, 0, 0, fun _ => 0))) (va_runI (As := []) (rest := [.ref q3]) ⟨hx, hb, hml, hown, ha⟩ (k_X11_init l E q3 H.size) (cwI 0 ha (gi_B (fun _ h => h) mw1634) rfl rfl rfl (ha _ mw87) (ha _ mw1632) (ha _ mw1633) rfl hv_X11_init ⟨(Nat.le_of_ble_eq_true rfl), (Nat.le_of_ble_eq_true rfl)⟩) ⟨pre_blind, pre_at (L := [(bl_VB E b2 0 (sad vb_init (b2 36))).flatten, [(q3, .inr (13, [.null, .null, .null, .int 0, .null, .int 0, .null, .int 0, .int 0, .int 0, .null, .int 0, .null, .int 0, .int 0, .int 0, .int 0, .null]))]]) hP hD hS hz hzs hst [1] (by decide) rfl rfl⟩ rfl rfl hl.1 rfl (lv_room (Nat.le_of_ble_eq_true rfl)) dL_law_12 ⟨(Nat.le_of_ble_eq_true rfl), (Nat.le_of_ble_eq_true rfl)⟩) hP hD hS hA (fun b4 Hn ln ha0 hPn hDn hSn => ?_)
  clear hP hD hS
  subst ha0
  revert hPn hDn hSn; revert ln; revert Hn; intro H locs hP hD hS
  have hP : va_P E.1 vwCl (List.flatten [(bl_VB E b2 0 (sad vb_init (b2 36))).flatten, w_Model E b4 0 m_init]) H := hP
  have hD : va_D A (List.flatten [(bl_VB E b2 0 (sad vb_init (b2 36))).flatten, w_Model E b4 0 m_init]) := hD
  refine lv_astore_n (lv' := [(2, .ref (b4 0)), (1, .ref (b2 0)), (0, .ref b)]) hx hb dL_law_15 rfl hl (by decide) rfl (fun ls hl => ?_)
  refine lv_iconst (v := 1) hx hb dL_law_16 (by decide) ?_
  refine vi_newa (atype := .long) (b0 := (1, .inr (.inl (fun _ => 0)))) hx hb hst (ty := .long) (ha _ mw2122) rfl hP hD hS hA (fun _ => rfl) 4 3 rfl (fun _ h => h) (by decide) rfl (Nat.le_of_ble_eq_true rfl) (Nat.le_of_ble_eq_true rfl) (Nat.le_of_ble_eq_true rfl) dL_law_17 (fun q5 H hP hD hS => ?_)
  have hP : va_P E.1 vwCl (List.flatten [(bl_VB E b2 0 (sad vb_init (b2 36))).flatten, w_Model E b4 0 m_init, [(q5, .inl (E.2 4, 1, .inr (.inl (fun _ => 0))))]]) H := hP
  have hD : va_D A (List.flatten [(bl_VB E b2 0 (sad vb_init (b2 36))).flatten, w_Model E b4 0 m_init, [(q5, .inl (E.2 4, 1, .inr (.inl (fun _ => 0))))]]) := hD
  refine lv_astore_n (lv' := [(3, .ref q5), (2, .ref (b4 0)), (1, .ref (b2 0)), (0, .ref b)]) hx hb dL_law_19 rfl hl (by decide) rfl (fun ls hl => ?_)
  refine lv_iconst (v := 1) hx hb dL_law_20 (by decide) ?_
  refine vi_newa (atype := .double) (b0 := (1, .inr (.inr (.inr (.inl (fun _ => 0)))))) hx hb hst (ty := .double) (ha _ mw2123) rfl hP hD hS hA (fun _ => rfl) 5 4 rfl (fun _ h => h) (by decide) rfl (Nat.le_of_ble_eq_true rfl) (Nat.le_of_ble_eq_true rfl) (Nat.le_of_ble_eq_true rfl) dL_law_21 (fun q6 H hP hD hS => ?_)
  have hP : va_P E.1 vwCl (List.flatten [(bl_VB E b2 0 (sad vb_init (b2 36))).flatten, w_Model E b4 0 m_init, [(q5, .inl (E.2 4, 1, .inr (.inl (fun _ => 0))))], [(q6, .inl (E.2 5, 1, .inr (.inr (.inr (.inl (fun _ => 0))))))]]) H := hP
  have hD : va_D A (List.flatten [(bl_VB E b2 0 (sad vb_init (b2 36))).flatten, w_Model E b4 0 m_init, [(q5, .inl (E.2 4, 1, .inr (.inl (fun _ => 0))))], [(q6, .inl (E.2 5, 1, .inr (.inr (.inr (.inl (fun _ => 0))))))]]) := hD
  refine lv_astore (lv' := [(4, .ref q6), (3, .ref q5), (2, .ref (b4 0)), (1, .ref (b2 0)), (0, .ref b)]) hx hb dL_law_23 hl (by decide) rfl (fun ls hl => ?_)
  refine lv_iconst (v := 0) hx hb dL_law_25 (by decide) ?_
  refine lv_istore (lv' := [(5, .int 0), (4, .ref q6), (3, .ref q5), (2, .ref (b4 0)), (1, .ref (b2 0)), (0, .ref b)]) hx hb dL_law_26 hl (by decide) rfl (fun ls hl => ?_)
  have hP : va_P E.1 vwCl (List.flatten (bl_VB E b2 0 (sad vb_init (b2 36)) ++ (bl_Model E b4 0 m_init ++ (bl_LongArr E (fun _ => q5) 0 (fun _ => 0) ++ bl_DblArr E (fun _ => q6) 0 (fun _ => 0))))) H := by rw [List.flatten_append]; exact hP
  have hD : va_D A (List.flatten (bl_VB E b2 0 (sad vb_init (b2 36)) ++ (bl_Model E b4 0 m_init ++ (bl_LongArr E (fun _ => q5) 0 (fun _ => 0) ++ bl_DblArr E (fun _ => q6) 0 (fun _ => 0))))) := by rw [List.flatten_append]; exact hD
  exact k_loop l hlt E b2 0 b4 0 (fun _ => q5) 0 (fun _ => q6) 0 b n xs hx hb hml hown ha hA hz hzs hst hX hbl hbA hend2 600 0 vb_init m_init (fun _ => 0) (fun _ => 0) (b2 36) H locs ls _ _ (by decide) (by decide) hF hP hD hS (lv_sub hl [5, 4, 3, 2, 1, 0] rfl)
