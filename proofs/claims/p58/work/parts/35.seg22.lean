theorem dL_law_262 : decode cL_law 262 = .ok (.aload_n 1, 1) := by decide +kernel
theorem dL_law_263 : decode cL_law 263 = .ok (.ldc 195, 2) := by decide +kernel
theorem dL_law_265 : decode cL_law 265 = .ok (.iconst 2, 1) := by decide +kernel
theorem dL_law_266 : decode cL_law 266 = .ok (.invokestatic 181, 3) := by decide +kernel
theorem dL_law_269 : decode cL_law 269 = .ok (.ifCond .eq 60, 3) := by decide +kernel
theorem dL_law_272 : decode cL_law 272 = .ok (.aload_n 1, 1) := by decide +kernel
theorem dL_law_273 : decode cL_law 273 = .ok (.ldc 197, 2) := by decide +kernel
theorem dL_law_275 : decode cL_law 275 = .ok (.iconst 0, 1) := by decide +kernel
theorem dL_law_276 : decode cL_law 276 = .ok (.invokestatic 181, 3) := by decide +kernel
theorem dL_law_279 : decode cL_law 279 = .ok (.ifCond .eq 50, 3) := by decide +kernel
theorem dL_law_282 : decode cL_law 282 = .ok (.aload_n 1, 1) := by decide +kernel
theorem dL_law_283 : decode cL_law 283 = .ok (.ldc 199, 2) := by decide +kernel
theorem dL_law_285 : decode cL_law 285 = .ok (.bipush 7, 2) := by decide +kernel
theorem dL_law_287 : decode cL_law 287 = .ok (.invokestatic 181, 3) := by decide +kernel
theorem dL_law_290 : decode cL_law 290 = .ok (.ifCond .eq 39, 3) := by decide +kernel
theorem dL_law_293 : decode cL_law 293 = .ok (.aload_n 1, 1) := by decide +kernel
theorem dL_law_294 : decode cL_law 294 = .ok (.ldc 201, 2) := by decide +kernel
theorem dL_law_296 : decode cL_law 296 = .ok (.bipush 10, 2) := by decide +kernel
theorem dL_law_298 : decode cL_law 298 = .ok (.invokestatic 181, 3) := by decide +kernel
theorem dL_law_301 : decode cL_law 301 = .ok (.ifCond .eq 28, 3) := by decide +kernel
theorem dL_law_304 : decode cL_law 304 = .ok (.aload_n 1, 1) := by decide +kernel
theorem dL_law_305 : decode cL_law 305 = .ok (.ldc 203, 2) := by decide +kernel
theorem dL_law_307 : decode cL_law 307 = .ok (.iconst 0, 1) := by decide +kernel
theorem dL_law_308 : decode cL_law 308 = .ok (.invokestatic 181, 3) := by decide +kernel
theorem dL_law_311 : decode cL_law 311 = .ok (.ifCond .eq 18, 3) := by decide +kernel
theorem dL_law_314 : decode cL_law 314 = .ok (.aload_n 1, 1) := by decide +kernel
theorem dL_law_315 : decode cL_law 315 = .ok (.invokevirtual 174, 3) := by decide +kernel
theorem dL_law_318 : decode cL_law 318 = .ok (.ifCond .ne 11, 3) := by decide +kernel
theorem dL_law_321 : decode cL_law 321 = .ok (.aload_n 1, 1) := by decide +kernel
theorem dL_law_322 : decode cL_law 322 = .ok (.invokestatic 153, 3) := by decide +kernel
theorem dL_law_325 : decode cL_law 325 = .ok (.iload_n 3, 1) := by decide +kernel
theorem dL_law_326 : decode cL_law 326 = .ok (.if_icmp .eq 5, 3) := by decide +kernel
def f_law2_2 (x_v : VB_t) (now : Int32) : Option (VB_t) :=
  q_bd (f_L_fails x_v 21 2) (fun q11 =>
  q_br (q11.1 = 0) (
  none) (
  q_bd (f_L_fails q11.2 22 0) (fun q12 =>
  q_br (q12.1 = 0) (
  none) (
  q_bd (f_L_fails q12.2 23 7) (fun q13 =>
  q_br (q13.1 = 0) (
  none) (
  q_bd (f_L_fails q13.2 24 10) (fun q14 =>
  q_br (q14.1 = 0) (
  none) (
  q_bd (f_L_fails q14.2 25 0) (fun q15 =>
  q_br (q15.1 = 0) (
  none) (
  q_bd (g_X10_failedCommand q15.2) (fun q16 =>
  q_sm q16 (fun _ => none) (fun r17 =>
  q_br (r17 = 0) (
  q_bd (f_L_state q15.2) (fun q18 =>
  q_br (q18 = now) (
  some q15.2) (
  none))) (
  none)))))))))))))
set_option maxHeartbeats 40000000 in
set_option maxRecDepth 100000 in
theorem kl_law2_2 {p : Program} {e : Env} {s : State} {m : MethodId} {args : Array Value} {below : List Frame} {meth : Method} {c : Code} {Q : State → Prop} {A : Nat → Prop} (l : Launch) (hlt : l.stackTraces = false) (E : ET) (ax ay : Nat → Nat) (x y : VB_t) (now : Int32) (hx : p.tables.exec = Jvm.exec) (hb : c.code = cL_law) (hml : c.maxLocals = 8) (hown : s.vm.findClass RL = some m.cls) (ha : ∀ w ∈ lw_all, w.before args s = true) (hA : ∀ q, s.heap.size ≤ q → A q) (hz : ∀ q, A q → E.2 0 ≤ q) (hzs : E.2 0 ≤ s.heap.size) (hst : ST E s) (res : VB_t) (hF : f_law2_2 x now = some res) {H : Heap} {locs : List Loc} {ls : Array Slot} (hP : va_P E.1 vwCl (List.flatten [w_VB1 E ax 0 x, w_VB1 E ay 0 y]) H) (hD : va_D A (List.flatten [w_VB1 E ax 0 x, w_VB1 E ay 0 y])) (hS : va_S A s.heap H locs) (hl : lv_has ls 8 [(0, .ref (E.2 18)), (1, .ref (ax 0)), (2, .ref (ay 0)), (3, .int now)]) (hK : ∀ (H : Heap) (locs : List Loc) (ls : Array Slot), va_P E.1 vwCl (List.flatten [w_VB1 E ax 0 res, w_VB1 E ay 0 y]) H → va_D A (List.flatten [w_VB1 E ax 0 res, w_VB1 E ay 0 y]) → va_S A s.heap H locs → lv_has ls 8 [(0, .ref (E.2 18)), (1, .ref (ax 0)), (2, .ref (ay 0)), (3, .int now)] → W p l e room_1 s m args below meth c H locs 3483 22696 Q (F0 m 331 ls [])) : W p l e room_1 s m args below meth c H locs 2928 19246 Q (F0 m 262 ls []) := by
  unfold f_law2_2 at hF
  refine lv_aload_n hx hb dL_law_262 rfl (lv_at hl 1 rfl) ?_
  refine va_ldcS (q := E.2 (200 + 21)) hx hb hown (hst.sr (sL_195 E)) dL_law_263 ?_
  refine lv_iconst (v := 2) hx hb dL_law_265 (by decide) ?_
  obtain ⟨q11, hq11, hF⟩ := q_bdi hF
  refine cl_i (Lc := [w_VB1 E ax 0 x]) (Lc' := [w_VB1 E ax 0 (q11.2)]) (L' := [w_VB1 E ax 0 (q11.2), w_VB1 E ay 0 y]) (rv := q11.1) (va_runS (As := [.ref (ax 0), .ref (E.2 (200 + 21)), .int 2]) (rest := []) ⟨hx, hb, hml, hown, ha⟩ (k_L_fails l E ax 0 x 21 2 q11 hq11 H.size hlt) (cwS 3 ha (gi_S (fun _ h => h) mw1196 mw1197 mw25 mw1198) rfl rfl rfl hv_L_fails ⟨(Nat.le_of_ble_eq_true rfl), (Nat.le_of_ble_eq_true rfl)⟩) ⟨pre_blind, pre_at hP hD hS hz hzs hst [0] (by decide) rfl rfl⟩ rfl rfl hl.1 rfl (lv_room (Nat.le_of_ble_eq_true rfl)) dL_law_266 ⟨(Nat.le_of_ble_eq_true rfl), (Nat.le_of_ble_eq_true rfl)⟩) hP hD hS hA [0] (by decide) rfl rfl rfl rfl (fun H locs hP hD hS => ?_)
  refine lv_if_eq (tgt := 329) hx hb dL_law_269 (by decide) (fun c269 => ?_) (fun c269 => ?_)
  · have hF := q_brp c269 hF
    exact absurd hF (by simp)
  · have hF := q_brn c269 hF
    refine lv_aload_n hx hb dL_law_272 rfl (lv_at hl 1 rfl) ?_
    refine va_ldcS (q := E.2 (200 + 22)) hx hb hown (hst.sr (sL_197 E)) dL_law_273 ?_
    refine lv_iconst (v := 0) hx hb dL_law_275 (by decide) ?_
    obtain ⟨q12, hq12, hF⟩ := q_bdi hF
    refine cl_i (Lc := [w_VB1 E ax 0 (q11.2)]) (Lc' := [w_VB1 E ax 0 (q12.2)]) (L' := [w_VB1 E ax 0 (q12.2), w_VB1 E ay 0 y]) (rv := q12.1) (va_runS (As := [.ref (ax 0), .ref (E.2 (200 + 22)), .int 0]) (rest := []) ⟨hx, hb, hml, hown, ha⟩ (k_L_fails l E ax 0 (q11.2) 22 0 q12 hq12 H.size hlt) (cwS 3 ha (gi_S (fun _ h => h) mw1196 mw1197 mw25 mw1198) rfl rfl rfl hv_L_fails ⟨(Nat.le_of_ble_eq_true rfl), (Nat.le_of_ble_eq_true rfl)⟩) ⟨pre_blind, pre_at hP hD hS hz hzs hst [0] (by decide) rfl rfl⟩ rfl rfl hl.1 rfl (lv_room (Nat.le_of_ble_eq_true rfl)) dL_law_276 ⟨(Nat.le_of_ble_eq_true rfl), (Nat.le_of_ble_eq_true rfl)⟩) hP hD hS hA [0] (by decide) rfl rfl rfl rfl (fun H locs hP hD hS => ?_)
    refine lv_if_eq (tgt := 329) hx hb dL_law_279 (by decide) (fun c279 => ?_) (fun c279 => ?_)
    · have hF := q_brp c279 hF
      exact absurd hF (by simp)
    · have hF := q_brn c279 hF
      refine lv_aload_n hx hb dL_law_282 rfl (lv_at hl 1 rfl) ?_
      refine va_ldcS (q := E.2 (200 + 23)) hx hb hown (hst.sr (sL_199 E)) dL_law_283 ?_
      refine lv_bipush (v := 7) hx hb dL_law_285 (by decide) ?_
      obtain ⟨q13, hq13, hF⟩ := q_bdi hF
      refine cl_i (Lc := [w_VB1 E ax 0 (q12.2)]) (Lc' := [w_VB1 E ax 0 (q13.2)]) (L' := [w_VB1 E ax 0 (q13.2), w_VB1 E ay 0 y]) (rv := q13.1) (va_runS (As := [.ref (ax 0), .ref (E.2 (200 + 23)), .int 7]) (rest := []) ⟨hx, hb, hml, hown, ha⟩ (k_L_fails l E ax 0 (q12.2) 23 7 q13 hq13 H.size hlt) (cwS 3 ha (gi_S (fun _ h => h) mw1196 mw1197 mw25 mw1198) rfl rfl rfl hv_L_fails ⟨(Nat.le_of_ble_eq_true rfl), (Nat.le_of_ble_eq_true rfl)⟩) ⟨pre_blind, pre_at hP hD hS hz hzs hst [0] (by decide) rfl rfl⟩ rfl rfl hl.1 rfl (lv_room (Nat.le_of_ble_eq_true rfl)) dL_law_287 ⟨(Nat.le_of_ble_eq_true rfl), (Nat.le_of_ble_eq_true rfl)⟩) hP hD hS hA [0] (by decide) rfl rfl rfl rfl (fun H locs hP hD hS => ?_)
      refine lv_if_eq (tgt := 329) hx hb dL_law_290 (by decide) (fun c290 => ?_) (fun c290 => ?_)
      · have hF := q_brp c290 hF
        exact absurd hF (by simp)
      · have hF := q_brn c290 hF
        refine lv_aload_n hx hb dL_law_293 rfl (lv_at hl 1 rfl) ?_
        refine va_ldcS (q := E.2 (200 + 24)) hx hb hown (hst.sr (sL_201 E)) dL_law_294 ?_
        refine lv_bipush (v := 10) hx hb dL_law_296 (by decide) ?_
        obtain ⟨q14, hq14, hF⟩ := q_bdi hF
        refine cl_i (Lc := [w_VB1 E ax 0 (q13.2)]) (Lc' := [w_VB1 E ax 0 (q14.2)]) (L' := [w_VB1 E ax 0 (q14.2), w_VB1 E ay 0 y]) (rv := q14.1) (va_runS (As := [.ref (ax 0), .ref (E.2 (200 + 24)), .int 10]) (rest := []) ⟨hx, hb, hml, hown, ha⟩ (k_L_fails l E ax 0 (q13.2) 24 10 q14 hq14 H.size hlt) (cwS 3 ha (gi_S (fun _ h => h) mw1196 mw1197 mw25 mw1198) rfl rfl rfl hv_L_fails ⟨(Nat.le_of_ble_eq_true rfl), (Nat.le_of_ble_eq_true rfl)⟩) ⟨pre_blind, pre_at hP hD hS hz hzs hst [0] (by decide) rfl rfl⟩ rfl rfl hl.1 rfl (lv_room (Nat.le_of_ble_eq_true rfl)) dL_law_298 ⟨(Nat.le_of_ble_eq_true rfl), (Nat.le_of_ble_eq_true rfl)⟩) hP hD hS hA [0] (by decide) rfl rfl rfl rfl (fun H locs hP hD hS => ?_)
        refine lv_if_eq (tgt := 329) hx hb dL_law_301 (by decide) (fun c301 => ?_) (fun c301 => ?_)
        · have hF := q_brp c301 hF
          exact absurd hF (by simp)
        · have hF := q_brn c301 hF
          refine lv_aload_n hx hb dL_law_304 rfl (lv_at hl 1 rfl) ?_
          refine va_ldcS (q := E.2 (200 + 25)) hx hb hown (hst.sr (sL_203 E)) dL_law_305 ?_
          refine lv_iconst (v := 0) hx hb dL_law_307 (by decide) ?_
          obtain ⟨q15, hq15, hF⟩ := q_bdi hF
          refine cl_i (Lc := [w_VB1 E ax 0 (q14.2)]) (Lc' := [w_VB1 E ax 0 (q15.2)]) (L' := [w_VB1 E ax 0 (q15.2), w_VB1 E ay 0 y]) (rv := q15.1) (va_runS (As := [.ref (ax 0), .ref (E.2 (200 + 25)), .int 0]) (rest := []) ⟨hx, hb, hml, hown, ha⟩ (k_L_fails l E ax 0 (q14.2) 25 0 q15 hq15 H.size hlt) (cwS 3 ha (gi_S (fun _ h => h) mw1196 mw1197 mw25 mw1198) rfl rfl rfl hv_L_fails ⟨(Nat.le_of_ble_eq_true rfl), (Nat.le_of_ble_eq_true rfl)⟩) ⟨pre_blind, pre_at hP hD hS hz hzs hst [0] (by decide) rfl rfl⟩ rfl rfl hl.1 rfl (lv_room (Nat.le_of_ble_eq_true rfl)) dL_law_308 ⟨(Nat.le_of_ble_eq_true rfl), (Nat.le_of_ble_eq_true rfl)⟩) hP hD hS hA [0] (by decide) rfl rfl rfl rfl (fun H locs hP hD hS => ?_)
          refine lv_if_eq (tgt := 329) hx hb dL_law_311 (by decide) (fun c311 => ?_) (fun c311 => ?_)
          · have hF := q_brp c311 hF
            exact absurd hF (by simp)
          · have hF := q_brn c311 hF
            refine lv_aload_n hx hb dL_law_314 rfl (lv_at hl 1 rfl) ?_
            obtain ⟨q16, hq16, hF⟩ := q_bdi hF
            refine cx_i (ro := q16) (Lc := [w_VB1 E ax 0 (q15.2)]) (Lc' := [w_VB1 E ax 0 (q15.2)]) (L' := [w_VB1 E ax 0 (q15.2), w_VB1 E ay 0 y]) (vx_runV (As := []) (rest := []) ⟨hx, hb, hml, hown, ha⟩ (kg_X10_failedCommand l E ax 0 (q15.2) q16 hq16 H.size hlt) (cwV 0 ha (gi_V (fun _ h => h) mw1059 mw1060 mw1061 mw26 mw1062) rfl rfl rfl hv_X10_failedCommand ⟨(Nat.le_of_ble_eq_true rfl), (Nat.le_of_ble_eq_true rfl)⟩) ⟨pre_blind, va_recv hst.k (fr_P hP [0] rfl) (ci := 11) (q0 := 0) rfl rfl, pre_at hP hD hS hz hzs hst [0] (by decide) rfl rfl⟩ rfl rfl hl.1 rfl (lv_room (Nat.le_of_ble_eq_true rfl)) dL_law_315 ⟨(Nat.le_of_ble_eq_true rfl), (Nat.le_of_ble_eq_true rfl)⟩) hP hD hS hA [0] (by decide) rfl rfl rfl rfl (fun X ce q9 H locs eX h1 h2 h3 hP hD hS => ?_) (fun r17 H locs er17 hP hD hS => ?_)
            · have hF := q_smr eX hF
              exact absurd hF (by simp)
            have hF := q_sml er17 hF
            refine lv_if_ne (tgt := 329) hx hb dL_law_318 (by decide) (fun c318 => ?_) (fun c318 => ?_)
            · have hF := q_brn c318 hF
              exact absurd hF (by simp)
            · have hF := q_brp c318 hF
              refine lv_aload_n hx hb dL_law_321 rfl (lv_at hl 1 rfl) ?_
              obtain ⟨q18, hq18, hF⟩ := q_bdi hF
              refine cl_i (Lc := [w_VB1 E ax 0 (q15.2)]) (Lc' := [w_VB1 E ax 0 (q15.2)]) (L' := [w_VB1 E ax 0 (q15.2), w_VB1 E ay 0 y]) (rv := q18) (va_runS (As := [.ref (ax 0)]) (rest := []) ⟨hx, hb, hml, hown, ha⟩ (k_L_state l E ax 0 (q15.2) q18 hq18 H.size hlt) (cwS 1 ha (gi_S (fun _ h => h) mw1152 mw1153 mw25 mw1154) rfl rfl rfl hv_L_state ⟨(Nat.le_of_ble_eq_true rfl), (Nat.le_of_ble_eq_true rfl)⟩) ⟨pre_blind, pre_at hP hD hS hz hzs hst [0] (by decide) rfl rfl⟩ rfl rfl hl.1 rfl (lv_room (Nat.le_of_ble_eq_true rfl)) dL_law_322 ⟨(Nat.le_of_ble_eq_true rfl), (Nat.le_of_ble_eq_true rfl)⟩) hP hD hS hA [0] (by decide) rfl rfl rfl rfl (fun H locs hP hD hS => ?_)
              refine lv_iload_n hx hb dL_law_325 rfl (lv_at hl 3 rfl) ?_
              refine lv_icmp_eq (tgt := 331) hx hb dL_law_326 (by decide) (fun c326 => ?_) (fun c326 => ?_)
              · have hF := q_brp c326 hF
                obtain rfl := Option.some.inj hF
                exact hK H locs ls hP hD hS (lv_sub hl [0, 1, 2, 3] rfl)
              · have hF := q_brn c326 hF
                exact absurd hF (by simp)
