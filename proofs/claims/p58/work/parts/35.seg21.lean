theorem dL_law_190 : decode cL_law 190 = .ok (.aload_n 1, 1) := by decide +kernel
theorem dL_law_191 : decode cL_law 191 = .ok (.invokestatic 153, 3) := by decide +kernel
theorem dL_law_194 : decode cL_law 194 = .ok (.iload_n 3, 1) := by decide +kernel
theorem dL_law_195 : decode cL_law 195 = .ok (.if_icmp .eq 5, 3) := by decide +kernel
theorem dL_law_200 : decode cL_law 200 = .ok (.aload_n 1, 1) := by decide +kernel
theorem dL_law_201 : decode cL_law 201 = .ok (.ldc 179, 2) := by decide +kernel
theorem dL_law_203 : decode cL_law 203 = .ok (.iconst 1, 1) := by decide +kernel
theorem dL_law_204 : decode cL_law 204 = .ok (.invokestatic 181, 3) := by decide +kernel
theorem dL_law_207 : decode cL_law 207 = .ok (.ifCond .eq 122, 3) := by decide +kernel
theorem dL_law_210 : decode cL_law 210 = .ok (.aload_n 1, 1) := by decide +kernel
theorem dL_law_211 : decode cL_law 211 = .ok (.ldc 185, 2) := by decide +kernel
theorem dL_law_213 : decode cL_law 213 = .ok (.iconst 2, 1) := by decide +kernel
theorem dL_law_214 : decode cL_law 214 = .ok (.invokestatic 181, 3) := by decide +kernel
theorem dL_law_217 : decode cL_law 217 = .ok (.ifCond .eq 112, 3) := by decide +kernel
theorem dL_law_220 : decode cL_law 220 = .ok (.aload_n 1, 1) := by decide +kernel
theorem dL_law_221 : decode cL_law 221 = .ok (.ldc 187, 2) := by decide +kernel
theorem dL_law_223 : decode cL_law 223 = .ok (.iconst 2, 1) := by decide +kernel
theorem dL_law_224 : decode cL_law 224 = .ok (.invokestatic 181, 3) := by decide +kernel
theorem dL_law_227 : decode cL_law 227 = .ok (.ifCond .eq 102, 3) := by decide +kernel
theorem dL_law_230 : decode cL_law 230 = .ok (.aload_n 1, 1) := by decide +kernel
theorem dL_law_231 : decode cL_law 231 = .ok (.ldc 189, 2) := by decide +kernel
theorem dL_law_233 : decode cL_law 233 = .ok (.bipush 10, 2) := by decide +kernel
theorem dL_law_235 : decode cL_law 235 = .ok (.invokestatic 181, 3) := by decide +kernel
theorem dL_law_238 : decode cL_law 238 = .ok (.ifCond .eq 91, 3) := by decide +kernel
theorem dL_law_241 : decode cL_law 241 = .ok (.aload_n 1, 1) := by decide +kernel
theorem dL_law_242 : decode cL_law 242 = .ok (.ldc 191, 2) := by decide +kernel
theorem dL_law_244 : decode cL_law 244 = .ok (.iconst 5, 1) := by decide +kernel
theorem dL_law_245 : decode cL_law 245 = .ok (.invokestatic 181, 3) := by decide +kernel
theorem dL_law_248 : decode cL_law 248 = .ok (.ifCond .eq 81, 3) := by decide +kernel
theorem dL_law_251 : decode cL_law 251 = .ok (.aload_n 1, 1) := by decide +kernel
theorem dL_law_252 : decode cL_law 252 = .ok (.ldc 193, 2) := by decide +kernel
theorem dL_law_254 : decode cL_law 254 = .ok (.bipush 6, 2) := by decide +kernel
theorem dL_law_256 : decode cL_law 256 = .ok (.invokestatic 181, 3) := by decide +kernel
theorem dL_law_259 : decode cL_law 259 = .ok (.ifCond .eq 70, 3) := by decide +kernel
def f_law2_1 (x_v : VB_t) (now : Int32) : Option (VB_t) :=
  q_bd (f_L_state x_v) (fun q11 =>
  q_br (q11 = now) (
  q_bd (f_L_fails x_v 15 1) (fun q12 =>
  q_br (q12.1 = 0) (
  none) (
  q_bd (f_L_fails q12.2 16 2) (fun q13 =>
  q_br (q13.1 = 0) (
  none) (
  q_bd (f_L_fails q13.2 17 2) (fun q14 =>
  q_br (q14.1 = 0) (
  none) (
  q_bd (f_L_fails q14.2 18 10) (fun q15 =>
  q_br (q15.1 = 0) (
  none) (
  q_bd (f_L_fails q15.2 19 5) (fun q16 =>
  q_br (q16.1 = 0) (
  none) (
  q_bd (f_L_fails q16.2 20 6) (fun q17 =>
  q_br (q17.1 = 0) (
  none) (
  some q17.2))))))))))))) (
  none))
set_option maxHeartbeats 40000000 in
set_option maxRecDepth 100000 in
theorem kl_law2_1 {p : Program} {e : Env} {s : State} {m : MethodId} {args : Array Value} {below : List Frame} {meth : Method} {c : Code} {Q : State → Prop} {A : Nat → Prop} (l : Launch) (hlt : l.stackTraces = false) (E : ET) (ax ay : Nat → Nat) (x y : VB_t) (now : Int32) (hx : p.tables.exec = Jvm.exec) (hb : c.code = cL_law) (hml : c.maxLocals = 8) (hown : s.vm.findClass RL = some m.cls) (ha : ∀ w ∈ lw_all, w.before args s = true) (hA : ∀ q, s.heap.size ≤ q → A q) (hz : ∀ q, A q → E.2 0 ≤ q) (hzs : E.2 0 ≤ s.heap.size) (hst : ST E s) (res : VB_t) (hF : f_law2_1 x now = some res) {H : Heap} {locs : List Loc} {ls : Array Slot} (hP : va_P E.1 vwCl (List.flatten [w_VB1 E ax 0 x, w_VB1 E ay 0 y]) H) (hD : va_D A (List.flatten [w_VB1 E ax 0 x, w_VB1 E ay 0 y])) (hS : va_S A s.heap H locs) (hl : lv_has ls 8 [(0, .ref (E.2 18)), (1, .ref (ax 0)), (2, .ref (ay 0)), (3, .int now)]) (hK : ∀ (H : Heap) (locs : List Loc) (ls : Array Slot), va_P E.1 vwCl (List.flatten [w_VB1 E ax 0 res, w_VB1 E ay 0 y]) H → va_D A (List.flatten [w_VB1 E ax 0 res, w_VB1 E ay 0 y]) → va_S A s.heap H locs → lv_has ls 8 [(0, .ref (E.2 18)), (1, .ref (ax 0)), (2, .ref (ay 0)), (3, .int now)] → W p l e room_1 s m args below meth c H locs 2928 19246 Q (F0 m 262 ls [])) : W p l e room_1 s m args below meth c H locs 2308 15406 Q (F0 m 190 ls []) := by
  unfold f_law2_1 at hF
  refine lv_aload_n hx hb dL_law_190 rfl (lv_at hl 1 rfl) ?_
  obtain ⟨q11, hq11, hF⟩ := q_bdi hF
  refine cl_i (Lc := [w_VB1 E ax 0 x]) (Lc' := [w_VB1 E ax 0 x]) (L' := [w_VB1 E ax 0 x, w_VB1 E ay 0 y]) (rv := q11) (va_runS (As := [.ref (ax 0)]) (rest := []) ⟨hx, hb, hml, hown, ha⟩ (k_L_state l E ax 0 x q11 hq11 H.size hlt) (cwS 1 ha (gi_S (fun _ h => h) mw1152 mw1153 mw25 mw1154) rfl rfl rfl hv_L_state ⟨(Nat.le_of_ble_eq_true rfl), (Nat.le_of_ble_eq_true rfl)⟩) ⟨pre_blind, pre_at hP hD hS hz hzs hst [0] (by decide) rfl rfl⟩ rfl rfl hl.1 rfl (lv_room (Nat.le_of_ble_eq_true rfl)) dL_law_191 ⟨(Nat.le_of_ble_eq_true rfl), (Nat.le_of_ble_eq_true rfl)⟩) hP hD hS hA [0] (by decide) rfl rfl rfl rfl (fun H locs hP hD hS => ?_)
  refine lv_iload_n hx hb dL_law_194 rfl (lv_at hl 3 rfl) ?_
  refine lv_icmp_eq (tgt := 200) hx hb dL_law_195 (by decide) (fun c195 => ?_) (fun c195 => ?_)
  · have hF := q_brp c195 hF
    refine lv_aload_n hx hb dL_law_200 rfl (lv_at hl 1 rfl) ?_
    refine va_ldcS (q := E.2 (200 + 15)) hx hb hown (hst.sr (sL_179 E)) dL_law_201 ?_
    refine lv_iconst (v := 1) hx hb dL_law_203 (by decide) ?_
    obtain ⟨q12, hq12, hF⟩ := q_bdi hF
    refine cl_i (Lc := [w_VB1 E ax 0 x]) (Lc' := [w_VB1 E ax 0 (q12.2)]) (L' := [w_VB1 E ax 0 (q12.2), w_VB1 E ay 0 y]) (rv := q12.1) (va_runS (As := [.ref (ax 0), .ref (E.2 (200 + 15)), .int 1]) (rest := []) ⟨hx, hb, hml, hown, ha⟩ (k_L_fails l E ax 0 x 15 1 q12 hq12 H.size hlt) (cwS 3 ha (gi_S (fun _ h => h) mw1196 mw1197 mw25 mw1198) rfl rfl rfl hv_L_fails ⟨(Nat.le_of_ble_eq_true rfl), (Nat.le_of_ble_eq_true rfl)⟩) ⟨pre_blind, pre_at hP hD hS hz hzs hst [0] (by decide) rfl rfl⟩ rfl rfl hl.1 rfl (lv_room (Nat.le_of_ble_eq_true rfl)) dL_law_204 ⟨(Nat.le_of_ble_eq_true rfl), (Nat.le_of_ble_eq_true rfl)⟩) hP hD hS hA [0] (by decide) rfl rfl rfl rfl (fun H locs hP hD hS => ?_)
    refine lv_if_eq (tgt := 329) hx hb dL_law_207 (by decide) (fun c207 => ?_) (fun c207 => ?_)
    · have hF := q_brp c207 hF
      exact absurd hF (by simp)
    · have hF := q_brn c207 hF
      refine lv_aload_n hx hb dL_law_210 rfl (lv_at hl 1 rfl) ?_
      refine va_ldcS (q := E.2 (200 + 16)) hx hb hown (hst.sr (sL_185 E)) dL_law_211 ?_
      refine lv_iconst (v := 2) hx hb dL_law_213 (by decide) ?_
      obtain ⟨q13, hq13, hF⟩ := q_bdi hF
      refine cl_i (Lc := [w_VB1 E ax 0 (q12.2)]) (Lc' := [w_VB1 E ax 0 (q13.2)]) (L' := [w_VB1 E ax 0 (q13.2), w_VB1 E ay 0 y]) (rv := q13.1) (va_runS (As := [.ref (ax 0), .ref (E.2 (200 + 16)), .int 2]) (rest := []) ⟨hx, hb, hml, hown, ha⟩ (k_L_fails l E ax 0 (q12.2) 16 2 q13 hq13 H.size hlt) (cwS 3 ha (gi_S (fun _ h => h) mw1196 mw1197 mw25 mw1198) rfl rfl rfl hv_L_fails ⟨(Nat.le_of_ble_eq_true rfl), (Nat.le_of_ble_eq_true rfl)⟩) ⟨pre_blind, pre_at hP hD hS hz hzs hst [0] (by decide) rfl rfl⟩ rfl rfl hl.1 rfl (lv_room (Nat.le_of_ble_eq_true rfl)) dL_law_214 ⟨(Nat.le_of_ble_eq_true rfl), (Nat.le_of_ble_eq_true rfl)⟩) hP hD hS hA [0] (by decide) rfl rfl rfl rfl (fun H locs hP hD hS => ?_)
      refine lv_if_eq (tgt := 329) hx hb dL_law_217 (by decide) (fun c217 => ?_) (fun c217 => ?_)
      · have hF := q_brp c217 hF
        exact absurd hF (by simp)
      · have hF := q_brn c217 hF
        refine lv_aload_n hx hb dL_law_220 rfl (lv_at hl 1 rfl) ?_
        refine va_ldcS (q := E.2 (200 + 17)) hx hb hown (hst.sr (sL_187 E)) dL_law_221 ?_
        refine lv_iconst (v := 2) hx hb dL_law_223 (by decide) ?_
        obtain ⟨q14, hq14, hF⟩ := q_bdi hF
        refine cl_i (Lc := [w_VB1 E ax 0 (q13.2)]) (Lc' := [w_VB1 E ax 0 (q14.2)]) (L' := [w_VB1 E ax 0 (q14.2), w_VB1 E ay 0 y]) (rv := q14.1) (va_runS (As := [.ref (ax 0), .ref (E.2 (200 + 17)), .int 2]) (rest := []) ⟨hx, hb, hml, hown, ha⟩ (k_L_fails l E ax 0 (q13.2) 17 2 q14 hq14 H.size hlt) (cwS 3 ha (gi_S (fun _ h => h) mw1196 mw1197 mw25 mw1198) rfl rfl rfl hv_L_fails ⟨(Nat.le_of_ble_eq_true rfl), (Nat.le_of_ble_eq_true rfl)⟩) ⟨pre_blind, pre_at hP hD hS hz hzs hst [0] (by decide) rfl rfl⟩ rfl rfl hl.1 rfl (lv_room (Nat.le_of_ble_eq_true rfl)) dL_law_224 ⟨(Nat.le_of_ble_eq_true rfl), (Nat.le_of_ble_eq_true rfl)⟩) hP hD hS hA [0] (by decide) rfl rfl rfl rfl (fun H locs hP hD hS => ?_)
        refine lv_if_eq (tgt := 329) hx hb dL_law_227 (by decide) (fun c227 => ?_) (fun c227 => ?_)
        · have hF := q_brp c227 hF
          exact absurd hF (by simp)
        · have hF := q_brn c227 hF
          refine lv_aload_n hx hb dL_law_230 rfl (lv_at hl 1 rfl) ?_
          refine va_ldcS (q := E.2 (200 + 18)) hx hb hown (hst.sr (sL_189 E)) dL_law_231 ?_
          refine lv_bipush (v := 10) hx hb dL_law_233 (by decide) ?_
          obtain ⟨q15, hq15, hF⟩ := q_bdi hF
          refine cl_i (Lc := [w_VB1 E ax 0 (q14.2)]) (Lc' := [w_VB1 E ax 0 (q15.2)]) (L' := [w_VB1 E ax 0 (q15.2), w_VB1 E ay 0 y]) (rv := q15.1) (va_runS (As := [.ref (ax 0), .ref (E.2 (200 + 18)), .int 10]) (rest := []) ⟨hx, hb, hml, hown, ha⟩ (k_L_fails l E ax 0 (q14.2) 18 10 q15 hq15 H.size hlt) (cwS 3 ha (gi_S (fun _ h => h) mw1196 mw1197 mw25 mw1198) rfl rfl rfl hv_L_fails ⟨(Nat.le_of_ble_eq_true rfl), (Nat.le_of_ble_eq_true rfl)⟩) ⟨pre_blind, pre_at hP hD hS hz hzs hst [0] (by decide) rfl rfl⟩ rfl rfl hl.1 rfl (lv_room (Nat.le_of_ble_eq_true rfl)) dL_law_235 ⟨(Nat.le_of_ble_eq_true rfl), (Nat.le_of_ble_eq_true rfl)⟩) hP hD hS hA [0] (by decide) rfl rfl rfl rfl (fun H locs hP hD hS => ?_)
          refine lv_if_eq (tgt := 329) hx hb dL_law_238 (by decide) (fun c238 => ?_) (fun c238 => ?_)
          · have hF := q_brp c238 hF
            exact absurd hF (by simp)
          · have hF := q_brn c238 hF
            refine lv_aload_n hx hb dL_law_241 rfl (lv_at hl 1 rfl) ?_
            refine va_ldcS (q := E.2 (200 + 19)) hx hb hown (hst.sr (sL_191 E)) dL_law_242 ?_
            refine lv_iconst (v := 5) hx hb dL_law_244 (by decide) ?_
            obtain ⟨q16, hq16, hF⟩ := q_bdi hF
            refine cl_i (Lc := [w_VB1 E ax 0 (q15.2)]) (Lc' := [w_VB1 E ax 0 (q16.2)]) (L' := [w_VB1 E ax 0 (q16.2), w_VB1 E ay 0 y]) (rv := q16.1) (va_runS (As := [.ref (ax 0), .ref (E.2 (200 + 19)), .int 5]) (rest := []) ⟨hx, hb, hml, hown, ha⟩ (k_L_fails l E ax 0 (q15.2) 19 5 q16 hq16 H.size hlt) (cwS 3 ha (gi_S (fun _ h => h) mw1196 mw1197 mw25 mw1198) rfl rfl rfl hv_L_fails ⟨(Nat.le_of_ble_eq_true rfl), (Nat.le_of_ble_eq_true rfl)⟩) ⟨pre_blind, pre_at hP hD hS hz hzs hst [0] (by decide) rfl rfl⟩ rfl rfl hl.1 rfl (lv_room (Nat.le_of_ble_eq_true rfl)) dL_law_245 ⟨(Nat.le_of_ble_eq_true rfl), (Nat.le_of_ble_eq_true rfl)⟩) hP hD hS hA [0] (by decide) rfl rfl rfl rfl (fun H locs hP hD hS => ?_)
            refine lv_if_eq (tgt := 329) hx hb dL_law_248 (by decide) (fun c248 => ?_) (fun c248 => ?_)
            · have hF := q_brp c248 hF
              exact absurd hF (by simp)
            · have hF := q_brn c248 hF
              refine lv_aload_n hx hb dL_law_251 rfl (lv_at hl 1 rfl) ?_
              refine va_ldcS (q := E.2 (200 + 20)) hx hb hown (hst.sr (sL_193 E)) dL_law_252 ?_
              refine lv_bipush (v := 6) hx hb dL_law_254 (by decide) ?_
              obtain ⟨q17, hq17, hF⟩ := q_bdi hF
              refine cl_i (Lc := [w_VB1 E ax 0 (q16.2)]) (Lc' := [w_VB1 E ax 0 (q17.2)]) (L' := [w_VB1 E ax 0 (q17.2), w_VB1 E ay 0 y]) (rv := q17.1) (va_runS (As := [.ref (ax 0), .ref (E.2 (200 + 20)), .int 6]) (rest := []) ⟨hx, hb, hml, hown, ha⟩ (k_L_fails l E ax 0 (q16.2) 20 6 q17 hq17 H.size hlt) (cwS 3 ha (gi_S (fun _ h => h) mw1196 mw1197 mw25 mw1198) rfl rfl rfl hv_L_fails ⟨(Nat.le_of_ble_eq_true rfl), (Nat.le_of_ble_eq_true rfl)⟩) ⟨pre_blind, pre_at hP hD hS hz hzs hst [0] (by decide) rfl rfl⟩ rfl rfl hl.1 rfl (lv_room (Nat.le_of_ble_eq_true rfl)) dL_law_256 ⟨(Nat.le_of_ble_eq_true rfl), (Nat.le_of_ble_eq_true rfl)⟩) hP hD hS hA [0] (by decide) rfl rfl rfl rfl (fun H locs hP hD hS => ?_)
              refine lv_if_eq (tgt := 329) hx hb dL_law_259 (by decide) (fun c259 => ?_) (fun c259 => ?_)
              · have hF := q_brp c259 hF
                exact absurd hF (by simp)
              · have hF := q_brn c259 hF
                obtain rfl := Option.some.inj hF
                exact hK H locs ls hP hD hS (lv_sub hl [0, 1, 2, 3] rfl)
  · have hF := q_brn c195 hF
    exact absurd hF (by simp)
