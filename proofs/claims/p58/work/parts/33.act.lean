/-! L_act -/
theorem dL_act_0 : decode cL_act 0 = .ok (.iload_n 1, 1) := by decide +kernel
theorem dL_act_1 : decode cL_act 1 = .ok (.tableswitch 141 0 10 #[59, 66, 72, 79, 86, 102, 108, 115, 121, 128, 135], 59) := by decide +kernel
theorem dL_act_60 : decode cL_act 60 = .ok (.aload_n 0, 1) := by decide +kernel
theorem dL_act_61 : decode cL_act 61 = .ok (.iload_n 2, 1) := by decide +kernel
theorem dL_act_62 : decode cL_act 62 = .ok (.iload_n 3, 1) := by decide +kernel
theorem dL_act_63 : decode cL_act 63 = .ok (.invokevirtual 46, 3) := by decide +kernel
theorem dL_act_66 : decode cL_act 66 = .ok (.ireturn, 1) := by decide +kernel
theorem dL_act_67 : decode cL_act 67 = .ok (.aload_n 0, 1) := by decide +kernel
theorem dL_act_68 : decode cL_act 68 = .ok (.iload_n 2, 1) := by decide +kernel
theorem dL_act_69 : decode cL_act 69 = .ok (.invokevirtual 49, 3) := by decide +kernel
theorem dL_act_72 : decode cL_act 72 = .ok (.ireturn, 1) := by decide +kernel
theorem dL_act_73 : decode cL_act 73 = .ok (.aload_n 0, 1) := by decide +kernel
theorem dL_act_74 : decode cL_act 74 = .ok (.iload_n 2, 1) := by decide +kernel
theorem dL_act_75 : decode cL_act 75 = .ok (.iload_n 3, 1) := by decide +kernel
theorem dL_act_76 : decode cL_act 76 = .ok (.invokevirtual 53, 3) := by decide +kernel
theorem dL_act_79 : decode cL_act 79 = .ok (.ireturn, 1) := by decide +kernel
theorem dL_act_80 : decode cL_act 80 = .ok (.aload_n 0, 1) := by decide +kernel
theorem dL_act_81 : decode cL_act 81 = .ok (.iload_n 2, 1) := by decide +kernel
theorem dL_act_82 : decode cL_act 82 = .ok (.iload_n 3, 1) := by decide +kernel
theorem dL_act_83 : decode cL_act 83 = .ok (.invokevirtual 56, 3) := by decide +kernel
theorem dL_act_86 : decode cL_act 86 = .ok (.ireturn, 1) := by decide +kernel
theorem dL_act_87 : decode cL_act 87 = .ok (.aload_n 0, 1) := by decide +kernel
theorem dL_act_88 : decode cL_act 88 = .ok (.iload_n 2, 1) := by decide +kernel
theorem dL_act_89 : decode cL_act 89 = .ok (.iload_n 3, 1) := by decide +kernel
theorem dL_act_90 : decode cL_act 90 = .ok (.iconst 1, 1) := by decide +kernel
theorem dL_act_91 : decode cL_act 91 = .ok (.if_icmp .ne 7, 3) := by decide +kernel
theorem dL_act_94 : decode cL_act 94 = .ok (.iconst 1, 1) := by decide +kernel
theorem dL_act_95 : decode cL_act 95 = .ok (.goto 4, 3) := by decide +kernel
theorem dL_act_98 : decode cL_act 98 = .ok (.iconst 0, 1) := by decide +kernel
theorem dL_act_99 : decode cL_act 99 = .ok (.invokevirtual 59, 3) := by decide +kernel
theorem dL_act_102 : decode cL_act 102 = .ok (.ireturn, 1) := by decide +kernel
theorem dL_act_103 : decode cL_act 103 = .ok (.aload_n 0, 1) := by decide +kernel
theorem dL_act_104 : decode cL_act 104 = .ok (.iload_n 2, 1) := by decide +kernel
theorem dL_act_105 : decode cL_act 105 = .ok (.invokevirtual 63, 3) := by decide +kernel
theorem dL_act_108 : decode cL_act 108 = .ok (.ireturn, 1) := by decide +kernel
theorem dL_act_109 : decode cL_act 109 = .ok (.aload_n 0, 1) := by decide +kernel
theorem dL_act_110 : decode cL_act 110 = .ok (.iload_n 2, 1) := by decide +kernel
theorem dL_act_111 : decode cL_act 111 = .ok (.iload_n 3, 1) := by decide +kernel
theorem dL_act_112 : decode cL_act 112 = .ok (.invokevirtual 66, 3) := by decide +kernel
theorem dL_act_115 : decode cL_act 115 = .ok (.ireturn, 1) := by decide +kernel
theorem dL_act_116 : decode cL_act 116 = .ok (.aload_n 0, 1) := by decide +kernel
theorem dL_act_117 : decode cL_act 117 = .ok (.iload_n 2, 1) := by decide +kernel
theorem dL_act_118 : decode cL_act 118 = .ok (.invokevirtual 69, 3) := by decide +kernel
theorem dL_act_121 : decode cL_act 121 = .ok (.ireturn, 1) := by decide +kernel
theorem dL_act_122 : decode cL_act 122 = .ok (.aload_n 0, 1) := by decide +kernel
theorem dL_act_123 : decode cL_act 123 = .ok (.iload_n 2, 1) := by decide +kernel
theorem dL_act_124 : decode cL_act 124 = .ok (.iload_n 3, 1) := by decide +kernel
theorem dL_act_125 : decode cL_act 125 = .ok (.invokevirtual 72, 3) := by decide +kernel
theorem dL_act_128 : decode cL_act 128 = .ok (.ireturn, 1) := by decide +kernel
theorem dL_act_129 : decode cL_act 129 = .ok (.aload_n 0, 1) := by decide +kernel
theorem dL_act_130 : decode cL_act 130 = .ok (.iload_n 2, 1) := by decide +kernel
theorem dL_act_131 : decode cL_act 131 = .ok (.iload_n 3, 1) := by decide +kernel
theorem dL_act_132 : decode cL_act 132 = .ok (.invokevirtual 75, 3) := by decide +kernel
theorem dL_act_135 : decode cL_act 135 = .ok (.ireturn, 1) := by decide +kernel
theorem dL_act_136 : decode cL_act 136 = .ok (.aload_n 0, 1) := by decide +kernel
theorem dL_act_137 : decode cL_act 137 = .ok (.iload_n 2, 1) := by decide +kernel
theorem dL_act_138 : decode cL_act 138 = .ok (.invokevirtual 78, 3) := by decide +kernel
theorem dL_act_141 : decode cL_act 141 = .ok (.ireturn, 1) := by decide +kernel
theorem dL_act_142 : decode cL_act 142 = .ok (.aload_n 0, 1) := by decide +kernel
theorem dL_act_143 : decode cL_act 143 = .ok (.iload_n 2, 1) := by decide +kernel
theorem dL_act_144 : decode cL_act 144 = .ok (.iload_n 3, 1) := by decide +kernel
theorem dL_act_145 : decode cL_act 145 = .ok (.invokevirtual 81, 3) := by decide +kernel
theorem dL_act_148 : decode cL_act 148 = .ok (.ireturn, 1) := by decide +kernel
theorem dL_act_149 : decode cL_act 149 = .ok (.astore 4, 2) := by decide +kernel
theorem dL_act_151 : decode cL_act 151 = .ok (.sipush (-200), 3) := by decide +kernel
theorem dL_act_154 : decode cL_act 154 = .ok (.ireturn, 1) := by decide +kernel
theorem dL_act_155 : decode cL_act 155 = .ok (.astore 4, 2) := by decide +kernel
theorem dL_act_157 : decode cL_act 157 = .ok (.sipush (-300), 3) := by decide +kernel
theorem dL_act_160 : decode cL_act 160 = .ok (.ireturn, 1) := by decide +kernel
theorem dL_act_161 : decode cL_act 161 = .ok (.astore 4, 2) := by decide +kernel
theorem dL_act_163 : decode cL_act 163 = .ok (.sipush (-300), 3) := by decide +kernel
theorem dL_act_166 : decode cL_act 166 = .ok (.ireturn, 1) := by decide +kernel
def f_L_act (x_v : VB_t) (p2 : Int32) (p3 : Int32) (p4 : Int32) : Option (Int32 × VB_t) :=
  q_br (p2 = 0) (
  q_bd (g_X10_addBell x_v p3 p4) (fun q1 =>
  q_sm q1.1 (fun X => q_br (X = "java/lang/IllegalStateException") (
  some ((-200), q1.2)) (
  q_br (X = "java/lang/IllegalArgumentException") (
  some ((-300), q1.2)) (
  q_br (X = "java/lang/IndexOutOfBoundsException") (
  some ((-300), q1.2)) (
  none)))) (fun r2 =>
  some (r2, q1.2)))) (
  q_br (p2 = 1) (
  q_bd (g_X10_removeBell x_v p3) (fun q3 =>
  q_sm q3.1 (fun X => q_br (X = "java/lang/IllegalStateException") (
  some ((-200), q3.2)) (
  q_br (X = "java/lang/IllegalArgumentException") (
  some ((-300), q3.2)) (
  q_br (X = "java/lang/IndexOutOfBoundsException") (
  some ((-300), q3.2)) (
  none)))) (fun r4 =>
  some (r4, q3.2)))) (
  q_br (p2 = 2) (
  q_bd (g_X10_tune x_v p3 p4) (fun q5 =>
  q_sm q5.1 (fun X => q_br (X = "java/lang/IllegalStateException") (
  some ((-200), q5.2)) (
  q_br (X = "java/lang/IllegalArgumentException") (
  some ((-300), q5.2)) (
  q_br (X = "java/lang/IndexOutOfBoundsException") (
  some ((-300), q5.2)) (
  none)))) (fun r6 =>
  some (r6, q5.2)))) (
  q_br (p2 = 3) (
  q_bd (g_X10_moveBell x_v p3 p4) (fun q7 =>
  q_sm q7.1 (fun X => q_br (X = "java/lang/IllegalStateException") (
  some ((-200), q7.2)) (
  q_br (X = "java/lang/IllegalArgumentException") (
  some ((-300), q7.2)) (
  q_br (X = "java/lang/IndexOutOfBoundsException") (
  some ((-300), q7.2)) (
  none)))) (fun r8 =>
  some (r8, q7.2)))) (
  q_br (p2 = 4) (
  q_br (p4 = 1) (
  q_bd (g_X10_setKey x_v p3 1) (fun q11 =>
  q_sm q11.1 (fun X => q_br (X = "java/lang/IllegalStateException") (
  some ((-200), q11.2)) (
  q_br (X = "java/lang/IllegalArgumentException") (
  some ((-300), q11.2)) (
  q_br (X = "java/lang/IndexOutOfBoundsException") (
  some ((-300), q11.2)) (
  none)))) (fun r12 =>
  some (r12, q11.2)))) (
  q_bd (g_X10_setKey x_v p3 0) (fun q9 =>
  q_sm q9.1 (fun X => q_br (X = "java/lang/IllegalStateException") (
  some ((-200), q9.2)) (
  q_br (X = "java/lang/IllegalArgumentException") (
  some ((-300), q9.2)) (
  q_br (X = "java/lang/IndexOutOfBoundsException") (
  some ((-300), q9.2)) (
  none)))) (fun r10 =>
  some (r10, q9.2))))) (
  q_br (p2 = 5) (
  q_bd (g_X10_setTolerance x_v p3) (fun q13 =>
  q_sm q13.1 (fun X => q_br (X = "java/lang/IllegalStateException") (
  some ((-200), q13.2)) (
  q_br (X = "java/lang/IllegalArgumentException") (
  some ((-300), q13.2)) (
  q_br (X = "java/lang/IndexOutOfBoundsException") (
  some ((-300), q13.2)) (
  none)))) (fun r14 =>
  some (r14, q13.2)))) (
  q_br (p2 = 6) (
  q_bd (g_X10_addTone x_v p3 p4) (fun q15 =>
  q_sm q15.1 (fun X => q_br (X = "java/lang/IllegalStateException") (
  some ((-200), q15.2)) (
  q_br (X = "java/lang/IllegalArgumentException") (
  some ((-300), q15.2)) (
  q_br (X = "java/lang/IndexOutOfBoundsException") (
  some ((-300), q15.2)) (
  none)))) (fun r16 =>
  some (r16, q15.2)))) (
  q_br (p2 = 7) (
  q_bd (g_X10_clearMelody x_v p3) (fun q17 =>
  q_sm q17.1 (fun X => q_br (X = "java/lang/IllegalStateException") (
  some ((-200), q17.2)) (
  q_br (X = "java/lang/IllegalArgumentException") (
  some ((-300), q17.2)) (
  q_br (X = "java/lang/IndexOutOfBoundsException") (
  some ((-300), q17.2)) (
  none)))) (fun r18 =>
  some (r18, q17.2)))) (
  q_br (p2 = 8) (
  q_bd (g_X10_setEntry x_v p3 p4) (fun q19 =>
  q_sm q19.1 (fun X => q_br (X = "java/lang/IllegalStateException") (
  some ((-200), q19.2)) (
  q_br (X = "java/lang/IllegalArgumentException") (
  some ((-300), q19.2)) (
  q_br (X = "java/lang/IndexOutOfBoundsException") (
  some ((-300), q19.2)) (
  none)))) (fun r20 =>
  some (r20, q19.2)))) (
  q_br (p2 = 9) (
  q_bd (g_X10_addCliff x_v p3 p4) (fun q21 =>
  q_sm q21.1 (fun X => q_br (X = "java/lang/IllegalStateException") (
  some ((-200), q21.2)) (
  q_br (X = "java/lang/IllegalArgumentException") (
  some ((-300), q21.2)) (
  q_br (X = "java/lang/IndexOutOfBoundsException") (
  some ((-300), q21.2)) (
  none)))) (fun r22 =>
  some (r22, q21.2)))) (
  q_br (p2 = 10) (
  q_bd (g_X10_removeCliff x_v p3) (fun q23 =>
  q_sm q23.1 (fun X => q_br (X = "java/lang/IllegalStateException") (
  some ((-200), q23.2)) (
  q_br (X = "java/lang/IllegalArgumentException") (
  some ((-300), q23.2)) (
  q_br (X = "java/lang/IndexOutOfBoundsException") (
  some ((-300), q23.2)) (
  none)))) (fun r24 =>
  some (r24, q23.2)))) (
  q_bd (g_X10_graze x_v p3 p4) (fun q25 =>
  q_sm q25.1 (fun X => q_br (X = "java/lang/IllegalStateException") (
  some ((-200), q25.2)) (
  q_br (X = "java/lang/IllegalArgumentException") (
  some ((-300), q25.2)) (
  q_br (X = "java/lang/IndexOutOfBoundsException") (
  some ((-300), q25.2)) (
  none)))) (fun r26 =>
  some (r26, q25.2))))))))))))))
def hh_L_act : List (Nat × Nat × Nat × Nat) := [(0, 66, 149, 84), (67, 72, 149, 84), (73, 79, 149, 84), (80, 86, 149, 84), (87, 102, 149, 84), (103, 108, 149, 84), (109, 115, 149, 84), (116, 121, 149, 84), (122, 128, 149, 84), (129, 135, 149, 84), (136, 141, 149, 84), (142, 148, 149, 84), (0, 66, 155, 86), (67, 72, 155, 86), (73, 79, 155, 86), (80, 86, 155, 86), (87, 102, 155, 86), (103, 108, 155, 86), (109, 115, 155, 86), (116, 121, 155, 86), (122, 128, 155, 86), (129, 135, 155, 86), (136, 141, 155, 86), (142, 148, 155, 86), (0, 66, 161, 88), (67, 72, 161, 88), (73, 79, 161, 88), (80, 86, 161, 88), (87, 102, 161, 88), (103, 108, 161, 88), (109, 115, 161, 88), (116, 121, 161, 88), (122, 128, 161, 88), (129, 135, 161, 88), (136, 141, 161, 88), (142, 148, 161, 88)]
theorem hv_L_act : yL_act.cls = RL ∧ yL_act.cls ≠ "java/lang/invoke/MethodHandle" ∧ yL_act.cls ≠ "java/lang/invoke/VarHandle" ∧ (parseMethodDescriptor yL_act.desc).map (fun d => d.parameters.length) = some 4 := by decide +kernel
abbrev rm_L_act : Room := { frames := 8, cells := 1, slots := 6, locals := 180 }
set_option maxHeartbeats 4000000 in
set_option maxRecDepth 100000 in
theorem k_L_act (l : Launch) (E : ET) (a : Nat → Nat) (o : Nat) (x : VB_t) (p2 : Int32) (p3 : Int32) (p4 : Int32) (res : Int32 × VB_t) (hF : f_L_act x p2 p3 p4 = some res) (sz : Nat) (hlt : l.stackTraces = false) : CtI l yL_act (mwsH yL_act cL_act 5 (some .int) [(0, 66, 149, 84), (67, 72, 149, 84), (73, 79, 149, 84), (80, 86, 149, 84), (87, 102, 149, 84), (103, 108, 149, 84), (109, 115, 149, 84), (116, 121, 149, 84), (122, 128, 149, 84), (129, 135, 149, 84), (136, 141, 149, 84), (142, 148, 149, 84), (0, 66, 155, 86), (67, 72, 155, 86), (73, 79, 155, 86), (80, 86, 155, 86), (87, 102, 155, 86), (103, 108, 155, 86), (109, 115, 155, 86), (116, 121, 155, 86), (122, 128, 155, 86), (129, 135, 155, 86), (136, 141, 155, 86), (142, 148, 155, 86), (0, 66, 161, 88), (67, 72, 161, 88), (73, 79, 161, 88), (80, 86, 161, 88), (87, 102, 161, 88), (103, 108, 161, 88), (109, 115, 161, 88), (116, 121, 161, 88), (122, 128, 161, 88), (129, 135, 161, 88), (136, 141, 161, 88), (142, 148, 161, 88)]) rm_L_act 1 6 [.ref (a o), .int p2, .int p3, .int p4] E (bl_VB1 E a o x) res.1 (bl_VB1 E a o (res.2)) sz := by
  refine mk_H (by decide +kernel) (Nat.le_of_ble_eq_true rfl) ?_
  intro p e s m below meth c A args Q ls hAe hsz hQ hx hb hr hml hin ha hown hlocks hA hz hzs hst htab hP hD hS hl
  have hown : s.vm.findClass RL = some m.cls := hown
  rw [hAe] at hQ
  subst hsz
  have hP : va_P E.1 vwCl (List.flatten [w_VB1 E a o x]) s.heap := hP
  have hD : va_D A (List.flatten [w_VB1 E a o x]) := hD
  have hl : lv_has ls 5 [(0, .ref (a o)), (1, .int p2), (2, .int p3), (3, .int p4)] := hl
  generalize hHe : s.heap = H at hP
  have hS : va_S A s.heap H [] := by rw [← hHe]; exact hS
  generalize ([] : List Loc) = locs at hS ⊢
  unfold f_L_act at hF
  refine lv_iload_n hx hb dL_act_0 rfl (lv_at hl 1 rfl) ?_
  by_cases w1_0 : p2 = 0
  · have hF := q_brp w1_0 hF
    refine lv_tableIn (off := 59) (tgt := 60) hx hb dL_act_1 (by rw [w1_0]; decide) (by rw [w1_0]; decide) (by rw [w1_0]; decide) (by decide) ?_
    refine lv_aload_n hx hb dL_act_60 rfl (lv_at hl 0 rfl) ?_
    refine lv_iload_n hx hb dL_act_61 rfl (lv_at hl 2 rfl) ?_
    refine lv_iload_n hx hb dL_act_62 rfl (lv_at hl 3 rfl) ?_
    obtain ⟨q1, hq1, hF⟩ := q_bdi hF
    refine cx_i (ro := q1.1) (Lc := [w_VB1 E a o x]) (Lc' := [w_VB1 E a o (q1.2)]) (L' := [w_VB1 E a o (q1.2)]) (vx_runV (As := [.int p3, .int p4]) (rest := []) ⟨hx, hb, hml, hown, ha⟩ (kg_X10_addBell l E a o x p3 p4 q1 hq1 H.size hlt) (cwV 2 ha (gi_V (fun _ h => h) mw1137 mw1138 mw1139 mw26 mw1140) rfl rfl rfl hv_X10_addBell ⟨(Nat.le_of_ble_eq_true rfl), (Nat.le_of_ble_eq_true rfl)⟩) ⟨pre_blind, va_recv hst.k (fr_P hP [0] rfl) (ci := 11) (q0 := 0) rfl rfl, pre_at hP hD hS hz hzs hst [0] (by decide) rfl rfl⟩ rfl rfl hl.1 rfl (lv_room (Nat.le_of_ble_eq_true rfl)) dL_act_63 ⟨(Nat.le_of_ble_eq_true rfl), (Nat.le_of_ble_eq_true rfl)⟩) hP hD hS hA [0] (by decide) rfl rfl rfl rfl (fun X ce q9 H locs eX h1 h2 h3 hP hD hS => ?_) (fun r2 H locs er2 hP hD hS => ?_)
    · have hF := q_smr eX hF
      by_cases w63_0 : X = "java/lang/IllegalStateException"
      · have hF := q_brp w63_0 hF
        subst w63_0
        refine vx_catch (E := "java/lang/IllegalStateException") (name := "java/lang/IllegalStateException") hown (tableOf (hh_L_act.take 0)) ⟨0, 66, 149, 84⟩ (tableOf (hh_L_act.drop 1)) (by rw [htab]; rfl) (hpass0 (by decide +kernel)) (by decide) (by decide) (ha _ mw1114) (va_Nw.use rfl (hst.cs cs_IllegalStateException)) h1 h2 h3 ?_
        refine lv_astore (lv' := [(4, .ref q9), (0, .ref (a o)), (1, .int p2), (2, .int p3), (3, .int p4)]) hx hb dL_act_149 hl (by decide) rfl (fun ls hl => ?_)
        refine lv_sipush (v := (-200)) hx hb dL_act_151 (by decide) ?_
        obtain rfl := Option.some.inj hF
        exact en_i hQ (Nat.le_of_ble_eq_true rfl) (Nat.le_of_ble_eq_true rfl) hx hb hr hlocks hP hD hS rfl dL_act_154
      have hF := q_brn w63_0 hF
      by_cases w63_1 : X = "java/lang/IllegalArgumentException"
      · have hF := q_brp w63_1 hF
        subst w63_1
        refine vx_catch (E := "java/lang/IllegalArgumentException") (name := "java/lang/IllegalArgumentException") hown (tableOf (hh_L_act.take 12)) ⟨0, 66, 155, 86⟩ (tableOf (hh_L_act.drop 13)) (by rw [htab]; rfl) (hpass2 (t1 := 84) (t2 := 84) (by decide +kernel) ⟨by decide, "java/lang/IllegalStateException", ha _ mw1114, hst.nc (q := ("java/lang/IllegalArgumentException", "java/lang/IllegalStateException")) (List.mem_of_getElem? (i := 5) rfl)⟩ ⟨by decide, "java/lang/IllegalStateException", ha _ mw1114, hst.nc (q := ("java/lang/IllegalArgumentException", "java/lang/IllegalStateException")) (List.mem_of_getElem? (i := 5) rfl)⟩) (by decide) (by decide) (ha _ mw1115) (va_Nw.use rfl (hst.cs cs_IllegalArgumentException)) h1 h2 h3 ?_
        refine lv_astore (lv' := [(4, .ref q9), (0, .ref (a o)), (1, .int p2), (2, .int p3), (3, .int p4)]) hx hb dL_act_155 hl (by decide) rfl (fun ls hl => ?_)
        refine lv_sipush (v := (-300)) hx hb dL_act_157 (by decide) ?_
        obtain rfl := Option.some.inj hF
        exact en_i hQ (Nat.le_of_ble_eq_true rfl) (Nat.le_of_ble_eq_true rfl) hx hb hr hlocks hP hD hS rfl dL_act_160
      have hF := q_brn w63_1 hF
      by_cases w63_2 : X = "java/lang/IndexOutOfBoundsException"
      · have hF := q_brp w63_2 hF
        subst w63_2
        refine vx_catch (E := "java/lang/IndexOutOfBoundsException") (name := "java/lang/IndexOutOfBoundsException") hown (tableOf (hh_L_act.take 24)) ⟨0, 66, 161, 88⟩ (tableOf (hh_L_act.drop 25)) (by rw [htab]; rfl) (hpass2 (t1 := 84) (t2 := 86) (by decide +kernel) ⟨by decide, "java/lang/IllegalStateException", ha _ mw1114, hst.nc (q := ("java/lang/IndexOutOfBoundsException", "java/lang/IllegalStateException")) (List.mem_of_getElem? (i := 1) rfl)⟩ ⟨by decide, "java/lang/IllegalArgumentException", ha _ mw1115, hst.nc (q := ("java/lang/IndexOutOfBoundsException", "java/lang/IllegalArgumentException")) (List.mem_of_getElem? (i := 0) rfl)⟩) (by decide) (by decide) (ha _ mw1116) (va_Nw.use rfl (hst.cs cs_IndexOutOfBoundsException)) h1 h2 h3 ?_
        refine lv_astore (lv' := [(4, .ref q9), (0, .ref (a o)), (1, .int p2), (2, .int p3), (3, .int p4)]) hx hb dL_act_161 hl (by decide) rfl (fun ls hl => ?_)
        refine lv_sipush (v := (-300)) hx hb dL_act_163 (by decide) ?_
        obtain rfl := Option.some.inj hF
        exact en_i hQ (Nat.le_of_ble_eq_true rfl) (Nat.le_of_ble_eq_true rfl) hx hb hr hlocks hP hD hS rfl dL_act_166
      have hF := q_brn w63_2 hF
      exact absurd hF (by simp)
    have hF := q_sml er2 hF
    obtain rfl := Option.some.inj hF
    exact en_i hQ (Nat.le_of_ble_eq_true rfl) (Nat.le_of_ble_eq_true rfl) hx hb hr hlocks hP hD hS rfl dL_act_66
  have hF := q_brn w1_0 hF
  by_cases w1_1 : p2 = 1
  · have hF := q_brp w1_1 hF
    refine lv_tableIn (off := 66) (tgt := 67) hx hb dL_act_1 (by rw [w1_1]; decide) (by rw [w1_1]; decide) (by rw [w1_1]; decide) (by decide) ?_
    refine lv_aload_n hx hb dL_act_67 rfl (lv_at hl 0 rfl) ?_
    refine lv_iload_n hx hb dL_act_68 rfl (lv_at hl 2 rfl) ?_
    obtain ⟨q3, hq3, hF⟩ := q_bdi hF
    refine cx_i (ro := q3.1) (Lc := [w_VB1 E a o x]) (Lc' := [w_VB1 E a o (q3.2)]) (L' := [w_VB1 E a o (q3.2)]) (vx_runV (As := [.int p3]) (rest := []) ⟨hx, hb, hml, hown, ha⟩ (kg_X10_removeBell l E a o x p3 q3 hq3 H.size hlt) (cwV 1 ha (gi_V (fun _ h => h) mw315 mw316 mw317 mw26 mw318) rfl rfl rfl hv_X10_removeBell ⟨(Nat.le_of_ble_eq_true rfl), (Nat.le_of_ble_eq_true rfl)⟩) ⟨pre_blind, va_recv hst.k (fr_P hP [0] rfl) (ci := 11) (q0 := 0) rfl rfl, pre_at hP hD hS hz hzs hst [0] (by decide) rfl rfl⟩ rfl rfl hl.1 rfl (lv_room (Nat.le_of_ble_eq_true rfl)) dL_act_69 ⟨(Nat.le_of_ble_eq_true rfl), (Nat.le_of_ble_eq_true rfl)⟩) hP hD hS hA [0] (by decide) rfl rfl rfl rfl (fun X ce q9 H locs eX h1 h2 h3 hP hD hS => ?_) (fun r4 H locs er4 hP hD hS => ?_)
    · have hF := q_smr eX hF
      by_cases w69_0 : X = "java/lang/IllegalStateException"
      · have hF := q_brp w69_0 hF
        subst w69_0
        refine vx_catch (E := "java/lang/IllegalStateException") (name := "java/lang/IllegalStateException") hown (tableOf (hh_L_act.take 1)) ⟨67, 72, 149, 84⟩ (tableOf (hh_L_act.drop 2)) (by rw [htab]; rfl) (hpass0 (by decide +kernel)) (by decide) (by decide) (ha _ mw1114) (va_Nw.use rfl (hst.cs cs_IllegalStateException)) h1 h2 h3 ?_
        refine lv_astore (lv' := [(4, .ref q9), (0, .ref (a o)), (1, .int p2), (2, .int p3), (3, .int p4)]) hx hb dL_act_149 hl (by decide) rfl (fun ls hl => ?_)
        refine lv_sipush (v := (-200)) hx hb dL_act_151 (by decide) ?_
        obtain rfl := Option.some.inj hF
        exact en_i hQ (Nat.le_of_ble_eq_true rfl) (Nat.le_of_ble_eq_true rfl) hx hb hr hlocks hP hD hS rfl dL_act_154
      have hF := q_brn w69_0 hF
      by_cases w69_1 : X = "java/lang/IllegalArgumentException"
      · have hF := q_brp w69_1 hF
        subst w69_1
        refine vx_catch (E := "java/lang/IllegalArgumentException") (name := "java/lang/IllegalArgumentException") hown (tableOf (hh_L_act.take 13)) ⟨67, 72, 155, 86⟩ (tableOf (hh_L_act.drop 14)) (by rw [htab]; rfl) (hpass2 (t1 := 84) (t2 := 84) (by decide +kernel) ⟨by decide, "java/lang/IllegalStateException", ha _ mw1114, hst.nc (q := ("java/lang/IllegalArgumentException", "java/lang/IllegalStateException")) (List.mem_of_getElem? (i := 5) rfl)⟩ ⟨by decide, "java/lang/IllegalStateException", ha _ mw1114, hst.nc (q := ("java/lang/IllegalArgumentException", "java/lang/IllegalStateException")) (List.mem_of_getElem? (i := 5) rfl)⟩) (by decide) (by decide) (ha _ mw1115) (va_Nw.use rfl (hst.cs cs_IllegalArgumentException)) h1 h2 h3 ?_
        refine lv_astore (lv' := [(4, .ref q9), (0, .ref (a o)), (1, .int p2), (2, .int p3), (3, .int p4)]) hx hb dL_act_155 hl (by decide) rfl (fun ls hl => ?_)
        refine lv_sipush (v := (-300)) hx hb dL_act_157 (by decide) ?_
        obtain rfl := Option.some.inj hF
        exact en_i hQ (Nat.le_of_ble_eq_true rfl) (Nat.le_of_ble_eq_true rfl) hx hb hr hlocks hP hD hS rfl dL_act_160
      have hF := q_brn w69_1 hF
      by_cases w69_2 : X = "java/lang/IndexOutOfBoundsException"
      · have hF := q_brp w69_2 hF
        subst w69_2
        refine vx_catch (E := "java/lang/IndexOutOfBoundsException") (name := "java/lang/IndexOutOfBoundsException") hown (tableOf (hh_L_act.take 25)) ⟨67, 72, 161, 88⟩ (tableOf (hh_L_act.drop 26)) (by rw [htab]; rfl) (hpass2 (t1 := 84) (t2 := 86) (by decide +kernel) ⟨by decide, "java/lang/IllegalStateException", ha _ mw1114, hst.nc (q := ("java/lang/IndexOutOfBoundsException", "java/lang/IllegalStateException")) (List.mem_of_getElem? (i := 1) rfl)⟩ ⟨by decide, "java/lang/IllegalArgumentException", ha _ mw1115, hst.nc (q := ("java/lang/IndexOutOfBoundsException", "java/lang/IllegalArgumentException")) (List.mem_of_getElem? (i := 0) rfl)⟩) (by decide) (by decide) (ha _ mw1116) (va_Nw.use rfl (hst.cs cs_IndexOutOfBoundsException)) h1 h2 h3 ?_
        refine lv_astore (lv' := [(4, .ref q9), (0, .ref (a o)), (1, .int p2), (2, .int p3), (3, .int p4)]) hx hb dL_act_161 hl (by decide) rfl (fun ls hl => ?_)
        refine lv_sipush (v := (-300)) hx hb dL_act_163 (by decide) ?_
        obtain rfl := Option.some.inj hF
        exact en_i hQ (Nat.le_of_ble_eq_true rfl) (Nat.le_of_ble_eq_true rfl) hx hb hr hlocks hP hD hS rfl dL_act_166
      have hF := q_brn w69_2 hF
      exact absurd hF (by simp)
    have hF := q_sml er4 hF
    obtain rfl := Option.some.inj hF
    exact en_i hQ (Nat.le_of_ble_eq_true rfl) (Nat.le_of_ble_eq_true rfl) hx hb hr hlocks hP hD hS rfl dL_act_72
  have hF := q_brn w1_1 hF
  by_cases w1_2 : p2 = 2
  · have hF := q_brp w1_2 hF
    refine lv_tableIn (off := 72) (tgt := 73) hx hb dL_act_1 (by rw [w1_2]; decide) (by rw [w1_2]; decide) (by rw [w1_2]; decide) (by decide) ?_
    refine lv_aload_n hx hb dL_act_73 rfl (lv_at hl 0 rfl) ?_
    refine lv_iload_n hx hb dL_act_74 rfl (lv_at hl 2 rfl) ?_
    refine lv_iload_n hx hb dL_act_75 rfl (lv_at hl 3 rfl) ?_
    obtain ⟨q5, hq5, hF⟩ := q_bdi hF
    refine cx_i (ro := q5.1) (Lc := [w_VB1 E a o x]) (Lc' := [w_VB1 E a o (q5.2)]) (L' := [w_VB1 E a o (q5.2)]) (vx_runV (As := [.int p3, .int p4]) (rest := []) ⟨hx, hb, hml, hown, ha⟩ (kg_X10_tune l E a o x p3 p4 q5 hq5 H.size hlt) (cwV 2 ha (gi_V (fun _ h => h) mw595 mw596 mw597 mw26 mw598) rfl rfl rfl hv_X10_tune ⟨(Nat.le_of_ble_eq_true rfl), (Nat.le_of_ble_eq_true rfl)⟩) ⟨pre_blind, va_recv hst.k (fr_P hP [0] rfl) (ci := 11) (q0 := 0) rfl rfl, pre_at hP hD hS hz hzs hst [0] (by decide) rfl rfl⟩ rfl rfl hl.1 rfl (lv_room (Nat.le_of_ble_eq_true rfl)) dL_act_76 ⟨(Nat.le_of_ble_eq_true rfl), (Nat.le_of_ble_eq_true rfl)⟩) hP hD hS hA [0] (by decide) rfl rfl rfl rfl (fun X ce q9 H locs eX h1 h2 h3 hP hD hS => ?_) (fun r6 H locs er6 hP hD hS => ?_)
    · have hF := q_smr eX hF
      by_cases w76_0 : X = "java/lang/IllegalStateException"
      · have hF := q_brp w76_0 hF
        subst w76_0
        refine vx_catch (E := "java/lang/IllegalStateException") (name := "java/lang/IllegalStateException") hown (tableOf (hh_L_act.take 2)) ⟨73, 79, 149, 84⟩ (tableOf (hh_L_act.drop 3)) (by rw [htab]; rfl) (hpass0 (by decide +kernel)) (by decide) (by decide) (ha _ mw1114) (va_Nw.use rfl (hst.cs cs_IllegalStateException)) h1 h2 h3 ?_
        refine lv_astore (lv' := [(4, .ref q9), (0, .ref (a o)), (1, .int p2), (2, .int p3), (3, .int p4)]) hx hb dL_act_149 hl (by decide) rfl (fun ls hl => ?_)
        refine lv_sipush (v := (-200)) hx hb dL_act_151 (by decide) ?_
        obtain rfl := Option.some.inj hF
        exact en_i hQ (Nat.le_of_ble_eq_true rfl) (Nat.le_of_ble_eq_true rfl) hx hb hr hlocks hP hD hS rfl dL_act_154
      have hF := q_brn w76_0 hF
      by_cases w76_1 : X = "java/lang/IllegalArgumentException"
      · have hF := q_brp w76_1 hF
        subst w76_1
        refine vx_catch (E := "java/lang/IllegalArgumentException") (name := "java/lang/IllegalArgumentException") hown (tableOf (hh_L_act.take 14)) ⟨73, 79, 155, 86⟩ (tableOf (hh_L_act.drop 15)) (by rw [htab]; rfl) (hpass2 (t1 := 84) (t2 := 84) (by decide +kernel) ⟨by decide, "java/lang/IllegalStateException", ha _ mw1114, hst.nc (q := ("java/lang/IllegalArgumentException", "java/lang/IllegalStateException")) (List.mem_of_getElem? (i := 5) rfl)⟩ ⟨by decide, "java/lang/IllegalStateException", ha _ mw1114, hst.nc (q := ("java/lang/IllegalArgumentException", "java/lang/IllegalStateException")) (List.mem_of_getElem? (i := 5) rfl)⟩) (by decide) (by decide) (ha _ mw1115) (va_Nw.use rfl (hst.cs cs_IllegalArgumentException)) h1 h2 h3 ?_
        refine lv_astore (lv' := [(4, .ref q9), (0, .ref (a o)), (1, .int p2), (2, .int p3), (3, .int p4)]) hx hb dL_act_155 hl (by decide) rfl (fun ls hl => ?_)
        refine lv_sipush (v := (-300)) hx hb dL_act_157 (by decide) ?_
        obtain rfl := Option.some.inj hF
        exact en_i hQ (Nat.le_of_ble_eq_true rfl) (Nat.le_of_ble_eq_true rfl) hx hb hr hlocks hP hD hS rfl dL_act_160
      have hF := q_brn w76_1 hF
      by_cases w76_2 : X = "java/lang/IndexOutOfBoundsException"
      · have hF := q_brp w76_2 hF
        subst w76_2
        refine vx_catch (E := "java/lang/IndexOutOfBoundsException") (name := "java/lang/IndexOutOfBoundsException") hown (tableOf (hh_L_act.take 26)) ⟨73, 79, 161, 88⟩ (tableOf (hh_L_act.drop 27)) (by rw [htab]; rfl) (hpass2 (t1 := 84) (t2 := 86) (by decide +kernel) ⟨by decide, "java/lang/IllegalStateException", ha _ mw1114, hst.nc (q := ("java/lang/IndexOutOfBoundsException", "java/lang/IllegalStateException")) (List.mem_of_getElem? (i := 1) rfl)⟩ ⟨by decide, "java/lang/IllegalArgumentException", ha _ mw1115, hst.nc (q := ("java/lang/IndexOutOfBoundsException", "java/lang/IllegalArgumentException")) (List.mem_of_getElem? (i := 0) rfl)⟩) (by decide) (by decide) (ha _ mw1116) (va_Nw.use rfl (hst.cs cs_IndexOutOfBoundsException)) h1 h2 h3 ?_
        refine lv_astore (lv' := [(4, .ref q9), (0, .ref (a o)), (1, .int p2), (2, .int p3), (3, .int p4)]) hx hb dL_act_161 hl (by decide) rfl (fun ls hl => ?_)
        refine lv_sipush (v := (-300)) hx hb dL_act_163 (by decide) ?_
        obtain rfl := Option.some.inj hF
        exact en_i hQ (Nat.le_of_ble_eq_true rfl) (Nat.le_of_ble_eq_true rfl) hx hb hr hlocks hP hD hS rfl dL_act_166
      have hF := q_brn w76_2 hF
      exact absurd hF (by simp)
    have hF := q_sml er6 hF
    obtain rfl := Option.some.inj hF
    exact en_i hQ (Nat.le_of_ble_eq_true rfl) (Nat.le_of_ble_eq_true rfl) hx hb hr hlocks hP hD hS rfl dL_act_79
  have hF := q_brn w1_2 hF
  by_cases w1_3 : p2 = 3
  · have hF := q_brp w1_3 hF
    refine lv_tableIn (off := 79) (tgt := 80) hx hb dL_act_1 (by rw [w1_3]; decide) (by rw [w1_3]; decide) (by rw [w1_3]; decide) (by decide) ?_
    refine lv_aload_n hx hb dL_act_80 rfl (lv_at hl 0 rfl) ?_
    refine lv_iload_n hx hb dL_act_81 rfl (lv_at hl 2 rfl) ?_
    refine lv_iload_n hx hb dL_act_82 rfl (lv_at hl 3 rfl) ?_
    obtain ⟨q7, hq7, hF⟩ := q_bdi hF
    refine cx_i (ro := q7.1) (Lc := [w_VB1 E a o x]) (Lc' := [w_VB1 E a o (q7.2)]) (L' := [w_VB1 E a o (q7.2)]) (vx_runV (As := [.int p3, .int p4]) (rest := []) ⟨hx, hb, hml, hown, ha⟩ (kg_X10_moveBell l E a o x p3 p4 q7 hq7 H.size hlt) (cwV 2 ha (gi_V (fun _ h => h) mw601 mw602 mw603 mw26 mw604) rfl rfl rfl hv_X10_moveBell ⟨(Nat.le_of_ble_eq_true rfl), (Nat.le_of_ble_eq_true rfl)⟩) ⟨pre_blind, va_recv hst.k (fr_P hP [0] rfl) (ci := 11) (q0 := 0) rfl rfl, pre_at hP hD hS hz hzs hst [0] (by decide) rfl rfl⟩ rfl rfl hl.1 rfl (lv_room (Nat.le_of_ble_eq_true rfl)) dL_act_83 ⟨(Nat.le_of_ble_eq_true rfl), (Nat.le_of_ble_eq_true rfl)⟩) hP hD hS hA [0] (by decide) rfl rfl rfl rfl (fun X ce q9 H locs eX h1 h2 h3 hP hD hS => ?_) (fun r8 H locs er8 hP hD hS => ?_)
    · have hF := q_smr eX hF
      by_cases w83_0 : X = "java/lang/IllegalStateException"
      · have hF := q_brp w83_0 hF
        subst w83_0
        refine vx_catch (E := "java/lang/IllegalStateException") (name := "java/lang/IllegalStateException") hown (tableOf (hh_L_act.take 3)) ⟨80, 86, 149, 84⟩ (tableOf (hh_L_act.drop 4)) (by rw [htab]; rfl) (hpass0 (by decide +kernel)) (by decide) (by decide) (ha _ mw1114) (va_Nw.use rfl (hst.cs cs_IllegalStateException)) h1 h2 h3 ?_
        refine lv_astore (lv' := [(4, .ref q9), (0, .ref (a o)), (1, .int p2), (2, .int p3), (3, .int p4)]) hx hb dL_act_149 hl (by decide) rfl (fun ls hl => ?_)
        refine lv_sipush (v := (-200)) hx hb dL_act_151 (by decide) ?_
        obtain rfl := Option.some.inj hF
        exact en_i hQ (Nat.le_of_ble_eq_true rfl) (Nat.le_of_ble_eq_true rfl) hx hb hr hlocks hP hD hS rfl dL_act_154
      have hF := q_brn w83_0 hF
      by_cases w83_1 : X = "java/lang/IllegalArgumentException"
      · have hF := q_brp w83_1 hF
        subst w83_1
        refine vx_catch (E := "java/lang/IllegalArgumentException") (name := "java/lang/IllegalArgumentException") hown (tableOf (hh_L_act.take 15)) ⟨80, 86, 155, 86⟩ (tableOf (hh_L_act.drop 16)) (by rw [htab]; rfl) (hpass2 (t1 := 84) (t2 := 84) (by decide +kernel) ⟨by decide, "java/lang/IllegalStateException", ha _ mw1114, hst.nc (q := ("java/lang/IllegalArgumentException", "java/lang/IllegalStateException")) (List.mem_of_getElem? (i := 5) rfl)⟩ ⟨by decide, "java/lang/IllegalStateException", ha _ mw1114, hst.nc (q := ("java/lang/IllegalArgumentException", "java/lang/IllegalStateException")) (List.mem_of_getElem? (i := 5) rfl)⟩) (by decide) (by decide) (ha _ mw1115) (va_Nw.use rfl (hst.cs cs_IllegalArgumentException)) h1 h2 h3 ?_
        refine lv_astore (lv' := [(4, .ref q9), (0, .ref (a o)), (1, .int p2), (2, .int p3), (3, .int p4)]) hx hb dL_act_155 hl (by decide) rfl (fun ls hl => ?_)
        refine lv_sipush (v := (-300)) hx hb dL_act_157 (by decide) ?_
        obtain rfl := Option.some.inj hF
        exact en_i hQ (Nat.le_of_ble_eq_true rfl) (Nat.le_of_ble_eq_true rfl) hx hb hr hlocks hP hD hS rfl dL_act_160
      have hF := q_brn w83_1 hF
      by_cases w83_2 : X = "java/lang/IndexOutOfBoundsException"
      · have hF := q_brp w83_2 hF
        subst w83_2
        refine vx_catch (E := "java/lang/IndexOutOfBoundsException") (name := "java/lang/IndexOutOfBoundsException") hown (tableOf (hh_L_act.take 27)) ⟨80, 86, 161, 88⟩ (tableOf (hh_L_act.drop 28)) (by rw [htab]; rfl) (hpass2 (t1 := 84) (t2 := 86) (by decide +kernel) ⟨by decide, "java/lang/IllegalStateException", ha _ mw1114, hst.nc (q := ("java/lang/IndexOutOfBoundsException", "java/lang/IllegalStateException")) (List.mem_of_getElem? (i := 1) rfl)⟩ ⟨by decide, "java/lang/IllegalArgumentException", ha _ mw1115, hst.nc (q := ("java/lang/IndexOutOfBoundsException", "java/lang/IllegalArgumentException")) (List.mem_of_getElem? (i := 0) rfl)⟩) (by decide) (by decide) (ha _ mw1116) (va_Nw.use rfl (hst.cs cs_IndexOutOfBoundsException)) h1 h2 h3 ?_
        refine lv_astore (lv' := [(4, .ref q9), (0, .ref (a o)), (1, .int p2), (2, .int p3), (3, .int p4)]) hx hb dL_act_161 hl (by decide) rfl (fun ls hl => ?_)
        refine lv_sipush (v := (-300)) hx hb dL_act_163 (by decide) ?_
        obtain rfl := Option.some.inj hF
        exact en_i hQ (Nat.le_of_ble_eq_true rfl) (Nat.le_of_ble_eq_true rfl) hx hb hr hlocks hP hD hS rfl dL_act_166
      have hF := q_brn w83_2 hF
      exact absurd hF (by simp)
    have hF := q_sml er8 hF
    obtain rfl := Option.some.inj hF
    exact en_i hQ (Nat.le_of_ble_eq_true rfl) (Nat.le_of_ble_eq_true rfl) hx hb hr hlocks hP hD hS rfl dL_act_86
  have hF := q_brn w1_3 hF
  by_cases w1_4 : p2 = 4
  · have hF := q_brp w1_4 hF
    refine lv_tableIn (off := 86) (tgt := 87) hx hb dL_act_1 (by rw [w1_4]; decide) (by rw [w1_4]; decide) (by rw [w1_4]; decide) (by decide) ?_
    refine lv_aload_n hx hb dL_act_87 rfl (lv_at hl 0 rfl) ?_
    refine lv_iload_n hx hb dL_act_88 rfl (lv_at hl 2 rfl) ?_
    refine lv_iload_n hx hb dL_act_89 rfl (lv_at hl 3 rfl) ?_
    refine lv_iconst (v := 1) hx hb dL_act_90 (by decide) ?_
    refine lv_icmp_ne (tgt := 98) hx hb dL_act_91 (by decide) (fun c91 => ?_) (fun c91 => ?_)
    · have hF := q_brn c91 hF
      refine lv_iconst (v := 0) hx hb dL_act_98 (by decide) ?_
      obtain ⟨q9, hq9, hF⟩ := q_bdi hF
      refine cx_i (ro := q9.1) (Lc := [w_VB1 E a o x]) (Lc' := [w_VB1 E a o (q9.2)]) (L' := [w_VB1 E a o (q9.2)]) (vx_runV (As := [.int p3, .int 0]) (rest := []) ⟨hx, hb, hml, hown, ha⟩ (kg_X10_setKey l E a o x p3 0 q9 hq9 H.size hlt) (cwV 2 ha (gi_V (fun _ h => h) mw613 mw614 mw615 mw26 mw616) rfl rfl rfl hv_X10_setKey ⟨(Nat.le_of_ble_eq_true rfl), (Nat.le_of_ble_eq_true rfl)⟩) ⟨pre_blind, va_recv hst.k (fr_P hP [0] rfl) (ci := 11) (q0 := 0) rfl rfl, pre_at hP hD hS hz hzs hst [0] (by decide) rfl rfl⟩ rfl rfl hl.1 rfl (lv_room (Nat.le_of_ble_eq_true rfl)) dL_act_99 ⟨(Nat.le_of_ble_eq_true rfl), (Nat.le_of_ble_eq_true rfl)⟩) hP hD hS hA [0] (by decide) rfl rfl rfl rfl (fun X ce q9 H locs eX h1 h2 h3 hP hD hS => ?_) (fun r10 H locs er10 hP hD hS => ?_)
      · have hF := q_smr eX hF
        by_cases w99_0 : X = "java/lang/IllegalStateException"
        · have hF := q_brp w99_0 hF
          subst w99_0
          refine vx_catch (E := "java/lang/IllegalStateException") (name := "java/lang/IllegalStateException") hown (tableOf (hh_L_act.take 4)) ⟨87, 102, 149, 84⟩ (tableOf (hh_L_act.drop 5)) (by rw [htab]; rfl) (hpass0 (by decide +kernel)) (by decide) (by decide) (ha _ mw1114) (va_Nw.use rfl (hst.cs cs_IllegalStateException)) h1 h2 h3 ?_
          refine lv_astore (lv' := [(4, .ref q9), (0, .ref (a o)), (1, .int p2), (2, .int p3), (3, .int p4)]) hx hb dL_act_149 hl (by decide) rfl (fun ls hl => ?_)
          refine lv_sipush (v := (-200)) hx hb dL_act_151 (by decide) ?_
          obtain rfl := Option.some.inj hF
          exact en_i hQ (Nat.le_of_ble_eq_true rfl) (Nat.le_of_ble_eq_true rfl) hx hb hr hlocks hP hD hS rfl dL_act_154
        have hF := q_brn w99_0 hF
        by_cases w99_1 : X = "java/lang/IllegalArgumentException"
        · have hF := q_brp w99_1 hF
          subst w99_1
          refine vx_catch (E := "java/lang/IllegalArgumentException") (name := "java/lang/IllegalArgumentException") hown (tableOf (hh_L_act.take 16)) ⟨87, 102, 155, 86⟩ (tableOf (hh_L_act.drop 17)) (by rw [htab]; rfl) (hpass2 (t1 := 84) (t2 := 84) (by decide +kernel) ⟨by decide, "java/lang/IllegalStateException", ha _ mw1114, hst.nc (q := ("java/lang/IllegalArgumentException", "java/lang/IllegalStateException")) (List.mem_of_getElem? (i := 5) rfl)⟩ ⟨by decide, "java/lang/IllegalStateException", ha _ mw1114, hst.nc (q := ("java/lang/IllegalArgumentException", "java/lang/IllegalStateException")) (List.mem_of_getElem? (i := 5) rfl)⟩) (by decide) (by decide) (ha _ mw1115) (va_Nw.use rfl (hst.cs cs_IllegalArgumentException)) h1 h2 h3 ?_
          refine lv_astore (lv' := [(4, .ref q9), (0, .ref (a o)), (1, .int p2), (2, .int p3), (3, .int p4)]) hx hb dL_act_155 hl (by decide) rfl (fun ls hl => ?_)
          refine lv_sipush (v := (-300)) hx hb dL_act_157 (by decide) ?_
          obtain rfl := Option.some.inj hF
          exact en_i hQ (Nat.le_of_ble_eq_true rfl) (Nat.le_of_ble_eq_true rfl) hx hb hr hlocks hP hD hS rfl dL_act_160
        have hF := q_brn w99_1 hF
        by_cases w99_2 : X = "java/lang/IndexOutOfBoundsException"
        · have hF := q_brp w99_2 hF
          subst w99_2
          refine vx_catch (E := "java/lang/IndexOutOfBoundsException") (name := "java/lang/IndexOutOfBoundsException") hown (tableOf (hh_L_act.take 28)) ⟨87, 102, 161, 88⟩ (tableOf (hh_L_act.drop 29)) (by rw [htab]; rfl) (hpass2 (t1 := 84) (t2 := 86) (by decide +kernel) ⟨by decide, "java/lang/IllegalStateException", ha _ mw1114, hst.nc (q := ("java/lang/IndexOutOfBoundsException", "java/lang/IllegalStateException")) (List.mem_of_getElem? (i := 1) rfl)⟩ ⟨by decide, "java/lang/IllegalArgumentException", ha _ mw1115, hst.nc (q := ("java/lang/IndexOutOfBoundsException", "java/lang/IllegalArgumentException")) (List.mem_of_getElem? (i := 0) rfl)⟩) (by decide) (by decide) (ha _ mw1116) (va_Nw.use rfl (hst.cs cs_IndexOutOfBoundsException)) h1 h2 h3 ?_
          refine lv_astore (lv' := [(4, .ref q9), (0, .ref (a o)), (1, .int p2), (2, .int p3), (3, .int p4)]) hx hb dL_act_161 hl (by decide) rfl (fun ls hl => ?_)
          refine lv_sipush (v := (-300)) hx hb dL_act_163 (by decide) ?_
          obtain rfl := Option.some.inj hF
          exact en_i hQ (Nat.le_of_ble_eq_true rfl) (Nat.le_of_ble_eq_true rfl) hx hb hr hlocks hP hD hS rfl dL_act_166
        have hF := q_brn w99_2 hF
        exact absurd hF (by simp)
      have hF := q_sml er10 hF
      obtain rfl := Option.some.inj hF
      exact en_i hQ (Nat.le_of_ble_eq_true rfl) (Nat.le_of_ble_eq_true rfl) hx hb hr hlocks hP hD hS rfl dL_act_102
    · have hF := q_brp c91 hF
      refine lv_iconst (v := 1) hx hb dL_act_94 (by decide) ?_
      refine lv_goto (tgt := 99) hx hb dL_act_95 (by decide) ?_
      obtain ⟨q11, hq11, hF⟩ := q_bdi hF
      refine cx_i (ro := q11.1) (Lc := [w_VB1 E a o x]) (Lc' := [w_VB1 E a o (q11.2)]) (L' := [w_VB1 E a o (q11.2)]) (vx_runV (As := [.int p3, .int 1]) (rest := []) ⟨hx, hb, hml, hown, ha⟩ (kg_X10_setKey l E a o x p3 1 q11 hq11 H.size hlt) (cwV 2 ha (gi_V (fun _ h => h) mw613 mw614 mw615 mw26 mw616) rfl rfl rfl hv_X10_setKey ⟨(Nat.le_of_ble_eq_true rfl), (Nat.le_of_ble_eq_true rfl)⟩) ⟨pre_blind, va_recv hst.k (fr_P hP [0] rfl) (ci := 11) (q0 := 0) rfl rfl, pre_at hP hD hS hz hzs hst [0] (by decide) rfl rfl⟩ rfl rfl hl.1 rfl (lv_room (Nat.le_of_ble_eq_true rfl)) dL_act_99 ⟨(Nat.le_of_ble_eq_true rfl), (Nat.le_of_ble_eq_true rfl)⟩) hP hD hS hA [0] (by decide) rfl rfl rfl rfl (fun X ce q9 H locs eX h1 h2 h3 hP hD hS => ?_) (fun r12 H locs er12 hP hD hS => ?_)
      · have hF := q_smr eX hF
        by_cases w99_0 : X = "java/lang/IllegalStateException"
        · have hF := q_brp w99_0 hF
          subst w99_0
          refine vx_catch (E := "java/lang/IllegalStateException") (name := "java/lang/IllegalStateException") hown (tableOf (hh_L_act.take 4)) ⟨87, 102, 149, 84⟩ (tableOf (hh_L_act.drop 5)) (by rw [htab]; rfl) (hpass0 (by decide +kernel)) (by decide) (by decide) (ha _ mw1114) (va_Nw.use rfl (hst.cs cs_IllegalStateException)) h1 h2 h3 ?_
          refine lv_astore (lv' := [(4, .ref q9), (0, .ref (a o)), (1, .int p2), (2, .int p3), (3, .int p4)]) hx hb dL_act_149 hl (by decide) rfl (fun ls hl => ?_)
          refine lv_sipush (v := (-200)) hx hb dL_act_151 (by decide) ?_
          obtain rfl := Option.some.inj hF
          exact en_i hQ (Nat.le_of_ble_eq_true rfl) (Nat.le_of_ble_eq_true rfl) hx hb hr hlocks hP hD hS rfl dL_act_154
        have hF := q_brn w99_0 hF
        by_cases w99_1 : X = "java/lang/IllegalArgumentException"
        · have hF := q_brp w99_1 hF
          subst w99_1
          refine vx_catch (E := "java/lang/IllegalArgumentException") (name := "java/lang/IllegalArgumentException") hown (tableOf (hh_L_act.take 16)) ⟨87, 102, 155, 86⟩ (tableOf (hh_L_act.drop 17)) (by rw [htab]; rfl) (hpass2 (t1 := 84) (t2 := 84) (by decide +kernel) ⟨by decide, "java/lang/IllegalStateException", ha _ mw1114, hst.nc (q := ("java/lang/IllegalArgumentException", "java/lang/IllegalStateException")) (List.mem_of_getElem? (i := 5) rfl)⟩ ⟨by decide, "java/lang/IllegalStateException", ha _ mw1114, hst.nc (q := ("java/lang/IllegalArgumentException", "java/lang/IllegalStateException")) (List.mem_of_getElem? (i := 5) rfl)⟩) (by decide) (by decide) (ha _ mw1115) (va_Nw.use rfl (hst.cs cs_IllegalArgumentException)) h1 h2 h3 ?_
          refine lv_astore (lv' := [(4, .ref q9), (0, .ref (a o)), (1, .int p2), (2, .int p3), (3, .int p4)]) hx hb dL_act_155 hl (by decide) rfl (fun ls hl => ?_)
          refine lv_sipush (v := (-300)) hx hb dL_act_157 (by decide) ?_
          obtain rfl := Option.some.inj hF
          exact en_i hQ (Nat.le_of_ble_eq_true rfl) (Nat.le_of_ble_eq_true rfl) hx hb hr hlocks hP hD hS rfl dL_act_160
        have hF := q_brn w99_1 hF
        by_cases w99_2 : X = "java/lang/IndexOutOfBoundsException"
        · have hF := q_brp w99_2 hF
          subst w99_2
          refine vx_catch (E := "java/lang/IndexOutOfBoundsException") (name := "java/lang/IndexOutOfBoundsException") hown (tableOf (hh_L_act.take 28)) ⟨87, 102, 161, 88⟩ (tableOf (hh_L_act.drop 29)) (by rw [htab]; rfl) (hpass2 (t1 := 84) (t2 := 86) (by decide +kernel) ⟨by decide, "java/lang/IllegalStateException", ha _ mw1114, hst.nc (q := ("java/lang/IndexOutOfBoundsException", "java/lang/IllegalStateException")) (List.mem_of_getElem? (i := 1) rfl)⟩ ⟨by decide, "java/lang/IllegalArgumentException", ha _ mw1115, hst.nc (q := ("java/lang/IndexOutOfBoundsException", "java/lang/IllegalArgumentException")) (List.mem_of_getElem? (i := 0) rfl)⟩) (by decide) (by decide) (ha _ mw1116) (va_Nw.use rfl (hst.cs cs_IndexOutOfBoundsException)) h1 h2 h3 ?_
          refine lv_astore (lv' := [(4, .ref q9), (0, .ref (a o)), (1, .int p2), (2, .int p3), (3, .int p4)]) hx hb dL_act_161 hl (by decide) rfl (fun ls hl => ?_)
          refine lv_sipush (v := (-300)) hx hb dL_act_163 (by decide) ?_
          obtain rfl := Option.some.inj hF
          exact en_i hQ (Nat.le_of_ble_eq_true rfl) (Nat.le_of_ble_eq_true rfl) hx hb hr hlocks hP hD hS rfl dL_act_166
        have hF := q_brn w99_2 hF
        exact absurd hF (by simp)
      have hF := q_sml er12 hF
      obtain rfl := Option.some.inj hF
      exact en_i hQ (Nat.le_of_ble_eq_true rfl) (Nat.le_of_ble_eq_true rfl) hx hb hr hlocks hP hD hS rfl dL_act_102
  have hF := q_brn w1_4 hF
  by_cases w1_5 : p2 = 5
  · have hF := q_brp w1_5 hF
    refine lv_tableIn (off := 102) (tgt := 103) hx hb dL_act_1 (by rw [w1_5]; decide) (by rw [w1_5]; decide) (by rw [w1_5]; decide) (by decide) ?_
    refine lv_aload_n hx hb dL_act_103 rfl (lv_at hl 0 rfl) ?_
    refine lv_iload_n hx hb dL_act_104 rfl (lv_at hl 2 rfl) ?_
    obtain ⟨q13, hq13, hF⟩ := q_bdi hF
    refine cx_i (ro := q13.1) (Lc := [w_VB1 E a o x]) (Lc' := [w_VB1 E a o (q13.2)]) (L' := [w_VB1 E a o (q13.2)]) (vx_runV (As := [.int p3]) (rest := []) ⟨hx, hb, hml, hown, ha⟩ (kg_X10_setTolerance l E a o x p3 q13 hq13 H.size hlt) (cwV 1 ha (gi_V (fun _ h => h) mw619 mw620 mw621 mw26 mw622) rfl rfl rfl hv_X10_setTolerance ⟨(Nat.le_of_ble_eq_true rfl), (Nat.le_of_ble_eq_true rfl)⟩) ⟨pre_blind, va_recv hst.k (fr_P hP [0] rfl) (ci := 11) (q0 := 0) rfl rfl, pre_at hP hD hS hz hzs hst [0] (by decide) rfl rfl⟩ rfl rfl hl.1 rfl (lv_room (Nat.le_of_ble_eq_true rfl)) dL_act_105 ⟨(Nat.le_of_ble_eq_true rfl), (Nat.le_of_ble_eq_true rfl)⟩) hP hD hS hA [0] (by decide) rfl rfl rfl rfl (fun X ce q9 H locs eX h1 h2 h3 hP hD hS => ?_) (fun r14 H locs er14 hP hD hS => ?_)
    · have hF := q_smr eX hF
      by_cases w105_0 : X = "java/lang/IllegalStateException"
      · have hF := q_brp w105_0 hF
        subst w105_0
        refine vx_catch (E := "java/lang/IllegalStateException") (name := "java/lang/IllegalStateException") hown (tableOf (hh_L_act.take 5)) ⟨103, 108, 149, 84⟩ (tableOf (hh_L_act.drop 6)) (by rw [htab]; rfl) (hpass0 (by decide +kernel)) (by decide) (by decide) (ha _ mw1114) (va_Nw.use rfl (hst.cs cs_IllegalStateException)) h1 h2 h3 ?_
        refine lv_astore (lv' := [(4, .ref q9), (0, .ref (a o)), (1, .int p2), (2, .int p3), (3, .int p4)]) hx hb dL_act_149 hl (by decide) rfl (fun ls hl => ?_)
        refine lv_sipush (v := (-200)) hx hb dL_act_151 (by decide) ?_
        obtain rfl := Option.some.inj hF
        exact en_i hQ (Nat.le_of_ble_eq_true rfl) (Nat.le_of_ble_eq_true rfl) hx hb hr hlocks hP hD hS rfl dL_act_154
      have hF := q_brn w105_0 hF
      by_cases w105_1 : X = "java/lang/IllegalArgumentException"
      · have hF := q_brp w105_1 hF
        subst w105_1
        refine vx_catch (E := "java/lang/IllegalArgumentException") (name := "java/lang/IllegalArgumentException") hown (tableOf (hh_L_act.take 17)) ⟨103, 108, 155, 86⟩ (tableOf (hh_L_act.drop 18)) (by rw [htab]; rfl) (hpass2 (t1 := 84) (t2 := 84) (by decide +kernel) ⟨by decide, "java/lang/IllegalStateException", ha _ mw1114, hst.nc (q := ("java/lang/IllegalArgumentException", "java/lang/IllegalStateException")) (List.mem_of_getElem? (i := 5) rfl)⟩ ⟨by decide, "java/lang/IllegalStateException", ha _ mw1114, hst.nc (q := ("java/lang/IllegalArgumentException", "java/lang/IllegalStateException")) (List.mem_of_getElem? (i := 5) rfl)⟩) (by decide) (by decide) (ha _ mw1115) (va_Nw.use rfl (hst.cs cs_IllegalArgumentException)) h1 h2 h3 ?_
        refine lv_astore (lv' := [(4, .ref q9), (0, .ref (a o)), (1, .int p2), (2, .int p3), (3, .int p4)]) hx hb dL_act_155 hl (by decide) rfl (fun ls hl => ?_)
        refine lv_sipush (v := (-300)) hx hb dL_act_157 (by decide) ?_
        obtain rfl := Option.some.inj hF
        exact en_i hQ (Nat.le_of_ble_eq_true rfl) (Nat.le_of_ble_eq_true rfl) hx hb hr hlocks hP hD hS rfl dL_act_160
      have hF := q_brn w105_1 hF
      by_cases w105_2 : X = "java/lang/IndexOutOfBoundsException"
      · have hF := q_brp w105_2 hF
        subst w105_2
        refine vx_catch (E := "java/lang/IndexOutOfBoundsException") (name := "java/lang/IndexOutOfBoundsException") hown (tableOf (hh_L_act.take 29)) ⟨103, 108, 161, 88⟩ (tableOf (hh_L_act.drop 30)) (by rw [htab]; rfl) (hpass2 (t1 := 84) (t2 := 86) (by decide +kernel) ⟨by decide, "java/lang/IllegalStateException", ha _ mw1114, hst.nc (q := ("java/lang/IndexOutOfBoundsException", "java/lang/IllegalStateException")) (List.mem_of_getElem? (i := 1) rfl)⟩ ⟨by decide, "java/lang/IllegalArgumentException", ha _ mw1115, hst.nc (q := ("java/lang/IndexOutOfBoundsException", "java/lang/IllegalArgumentException")) (List.mem_of_getElem? (i := 0) rfl)⟩) (by decide) (by decide) (ha _ mw1116) (va_Nw.use rfl (hst.cs cs_IndexOutOfBoundsException)) h1 h2 h3 ?_
        refine lv_astore (lv' := [(4, .ref q9), (0, .ref (a o)), (1, .int p2), (2, .int p3), (3, .int p4)]) hx hb dL_act_161 hl (by decide) rfl (fun ls hl => ?_)
        refine lv_sipush (v := (-300)) hx hb dL_act_163 (by decide) ?_
        obtain rfl := Option.some.inj hF
        exact en_i hQ (Nat.le_of_ble_eq_true rfl) (Nat.le_of_ble_eq_true rfl) hx hb hr hlocks hP hD hS rfl dL_act_166
      have hF := q_brn w105_2 hF
      exact absurd hF (by simp)
    have hF := q_sml er14 hF
    obtain rfl := Option.some.inj hF
    exact en_i hQ (Nat.le_of_ble_eq_true rfl) (Nat.le_of_ble_eq_true rfl) hx hb hr hlocks hP hD hS rfl dL_act_108
  have hF := q_brn w1_5 hF
  by_cases w1_6 : p2 = 6
  · have hF := q_brp w1_6 hF
    refine lv_tableIn (off := 108) (tgt := 109) hx hb dL_act_1 (by rw [w1_6]; decide) (by rw [w1_6]; decide) (by rw [w1_6]; decide) (by decide) ?_
    refine lv_aload_n hx hb dL_act_109 rfl (lv_at hl 0 rfl) ?_
    refine lv_iload_n hx hb dL_act_110 rfl (lv_at hl 2 rfl) ?_
    refine lv_iload_n hx hb dL_act_111 rfl (lv_at hl 3 rfl) ?_
    obtain ⟨q15, hq15, hF⟩ := q_bdi hF
    refine cx_i (ro := q15.1) (Lc := [w_VB1 E a o x]) (Lc' := [w_VB1 E a o (q15.2)]) (L' := [w_VB1 E a o (q15.2)]) (vx_runV (As := [.int p3, .int p4]) (rest := []) ⟨hx, hb, hml, hown, ha⟩ (kg_X10_addTone l E a o x p3 p4 q15 hq15 H.size hlt) (cwV 2 ha (gi_V (fun _ h => h) mw625 mw626 mw627 mw26 mw628) rfl rfl rfl hv_X10_addTone ⟨(Nat.le_of_ble_eq_true rfl), (Nat.le_of_ble_eq_true rfl)⟩) ⟨pre_blind, va_recv hst.k (fr_P hP [0] rfl) (ci := 11) (q0 := 0) rfl rfl, pre_at hP hD hS hz hzs hst [0] (by decide) rfl rfl⟩ rfl rfl hl.1 rfl (lv_room (Nat.le_of_ble_eq_true rfl)) dL_act_112 ⟨(Nat.le_of_ble_eq_true rfl), (Nat.le_of_ble_eq_true rfl)⟩) hP hD hS hA [0] (by decide) rfl rfl rfl rfl (fun X ce q9 H locs eX h1 h2 h3 hP hD hS => ?_) (fun r16 H locs er16 hP hD hS => ?_)
    · have hF := q_smr eX hF
      by_cases w112_0 : X = "java/lang/IllegalStateException"
      · have hF := q_brp w112_0 hF
        subst w112_0
        refine vx_catch (E := "java/lang/IllegalStateException") (name := "java/lang/IllegalStateException") hown (tableOf (hh_L_act.take 6)) ⟨109, 115, 149, 84⟩ (tableOf (hh_L_act.drop 7)) (by rw [htab]; rfl) (hpass0 (by decide +kernel)) (by decide) (by decide) (ha _ mw1114) (va_Nw.use rfl (hst.cs cs_IllegalStateException)) h1 h2 h3 ?_
        refine lv_astore (lv' := [(4, .ref q9), (0, .ref (a o)), (1, .int p2), (2, .int p3), (3, .int p4)]) hx hb dL_act_149 hl (by decide) rfl (fun ls hl => ?_)
        refine lv_sipush (v := (-200)) hx hb dL_act_151 (by decide) ?_
        obtain rfl := Option.some.inj hF
        exact en_i hQ (Nat.le_of_ble_eq_true rfl) (Nat.le_of_ble_eq_true rfl) hx hb hr hlocks hP hD hS rfl dL_act_154
      have hF := q_brn w112_0 hF
      by_cases w112_1 : X = "java/lang/IllegalArgumentException"
      · have hF := q_brp w112_1 hF
        subst w112_1
        refine vx_catch (E := "java/lang/IllegalArgumentException") (name := "java/lang/IllegalArgumentException") hown (tableOf (hh_L_act.take 18)) ⟨109, 115, 155, 86⟩ (tableOf (hh_L_act.drop 19)) (by rw [htab]; rfl) (hpass2 (t1 := 84) (t2 := 84) (by decide +kernel) ⟨by decide, "java/lang/IllegalStateException", ha _ mw1114, hst.nc (q := ("java/lang/IllegalArgumentException", "java/lang/IllegalStateException")) (List.mem_of_getElem? (i := 5) rfl)⟩ ⟨by decide, "java/lang/IllegalStateException", ha _ mw1114, hst.nc (q := ("java/lang/IllegalArgumentException", "java/lang/IllegalStateException")) (List.mem_of_getElem? (i := 5) rfl)⟩) (by decide) (by decide) (ha _ mw1115) (va_Nw.use rfl (hst.cs cs_IllegalArgumentException)) h1 h2 h3 ?_
        refine lv_astore (lv' := [(4, .ref q9), (0, .ref (a o)), (1, .int p2), (2, .int p3), (3, .int p4)]) hx hb dL_act_155 hl (by decide) rfl (fun ls hl => ?_)
        refine lv_sipush (v := (-300)) hx hb dL_act_157 (by decide) ?_
        obtain rfl := Option.some.inj hF
        exact en_i hQ (Nat.le_of_ble_eq_true rfl) (Nat.le_of_ble_eq_true rfl) hx hb hr hlocks hP hD hS rfl dL_act_160
      have hF := q_brn w112_1 hF
      by_cases w112_2 : X = "java/lang/IndexOutOfBoundsException"
      · have hF := q_brp w112_2 hF
        subst w112_2
        refine vx_catch (E := "java/lang/IndexOutOfBoundsException") (name := "java/lang/IndexOutOfBoundsException") hown (tableOf (hh_L_act.take 30)) ⟨109, 115, 161, 88⟩ (tableOf (hh_L_act.drop 31)) (by rw [htab]; rfl) (hpass2 (t1 := 84) (t2 := 86) (by decide +kernel) ⟨by decide, "java/lang/IllegalStateException", ha _ mw1114, hst.nc (q := ("java/lang/IndexOutOfBoundsException", "java/lang/IllegalStateException")) (List.mem_of_getElem? (i := 1) rfl)⟩ ⟨by decide, "java/lang/IllegalArgumentException", ha _ mw1115, hst.nc (q := ("java/lang/IndexOutOfBoundsException", "java/lang/IllegalArgumentException")) (List.mem_of_getElem? (i := 0) rfl)⟩) (by decide) (by decide) (ha _ mw1116) (va_Nw.use rfl (hst.cs cs_IndexOutOfBoundsException)) h1 h2 h3 ?_
        refine lv_astore (lv' := [(4, .ref q9), (0, .ref (a o)), (1, .int p2), (2, .int p3), (3, .int p4)]) hx hb dL_act_161 hl (by decide) rfl (fun ls hl => ?_)
        refine lv_sipush (v := (-300)) hx hb dL_act_163 (by decide) ?_
        obtain rfl := Option.some.inj hF
        exact en_i hQ (Nat.le_of_ble_eq_true rfl) (Nat.le_of_ble_eq_true rfl) hx hb hr hlocks hP hD hS rfl dL_act_166
      have hF := q_brn w112_2 hF
      exact absurd hF (by simp)
    have hF := q_sml er16 hF
    obtain rfl := Option.some.inj hF
    exact en_i hQ (Nat.le_of_ble_eq_true rfl) (Nat.le_of_ble_eq_true rfl) hx hb hr hlocks hP hD hS rfl dL_act_115
  have hF := q_brn w1_6 hF
  by_cases w1_7 : p2 = 7
  · have hF := q_brp w1_7 hF
    refine lv_tableIn (off := 115) (tgt := 116) hx hb dL_act_1 (by rw [w1_7]; decide) (by rw [w1_7]; decide) (by rw [w1_7]; decide) (by decide) ?_
    refine lv_aload_n hx hb dL_act_116 rfl (lv_at hl 0 rfl) ?_
    refine lv_iload_n hx hb dL_act_117 rfl (lv_at hl 2 rfl) ?_
    obtain ⟨q17, hq17, hF⟩ := q_bdi hF
    refine cx_i (ro := q17.1) (Lc := [w_VB1 E a o x]) (Lc' := [w_VB1 E a o (q17.2)]) (L' := [w_VB1 E a o (q17.2)]) (vx_runV (As := [.int p3]) (rest := []) ⟨hx, hb, hml, hown, ha⟩ (kg_X10_clearMelody l E a o x p3 q17 hq17 H.size hlt) (cwV 1 ha (gi_V (fun _ h => h) mw631 mw632 mw633 mw26 mw634) rfl rfl rfl hv_X10_clearMelody ⟨(Nat.le_of_ble_eq_true rfl), (Nat.le_of_ble_eq_true rfl)⟩) ⟨pre_blind, va_recv hst.k (fr_P hP [0] rfl) (ci := 11) (q0 := 0) rfl rfl, pre_at hP hD hS hz hzs hst [0] (by decide) rfl rfl⟩ rfl rfl hl.1 rfl (lv_room (Nat.le_of_ble_eq_true rfl)) dL_act_118 ⟨(Nat.le_of_ble_eq_true rfl), (Nat.le_of_ble_eq_true rfl)⟩) hP hD hS hA [0] (by decide) rfl rfl rfl rfl (fun X ce q9 H locs eX h1 h2 h3 hP hD hS => ?_) (fun r18 H locs er18 hP hD hS => ?_)
    · have hF := q_smr eX hF
      by_cases w118_0 : X = "java/lang/IllegalStateException"
      · have hF := q_brp w118_0 hF
        subst w118_0
        refine vx_catch (E := "java/lang/IllegalStateException") (name := "java/lang/IllegalStateException") hown (tableOf (hh_L_act.take 7)) ⟨116, 121, 149, 84⟩ (tableOf (hh_L_act.drop 8)) (by rw [htab]; rfl) (hpass0 (by decide +kernel)) (by decide) (by decide) (ha _ mw1114) (va_Nw.use rfl (hst.cs cs_IllegalStateException)) h1 h2 h3 ?_
        refine lv_astore (lv' := [(4, .ref q9), (0, .ref (a o)), (1, .int p2), (2, .int p3), (3, .int p4)]) hx hb dL_act_149 hl (by decide) rfl (fun ls hl => ?_)
        refine lv_sipush (v := (-200)) hx hb dL_act_151 (by decide) ?_
        obtain rfl := Option.some.inj hF
        exact en_i hQ (Nat.le_of_ble_eq_true rfl) (Nat.le_of_ble_eq_true rfl) hx hb hr hlocks hP hD hS rfl dL_act_154
      have hF := q_brn w118_0 hF
      by_cases w118_1 : X = "java/lang/IllegalArgumentException"
      · have hF := q_brp w118_1 hF
        subst w118_1
        refine vx_catch (E := "java/lang/IllegalArgumentException") (name := "java/lang/IllegalArgumentException") hown (tableOf (hh_L_act.take 19)) ⟨116, 121, 155, 86⟩ (tableOf (hh_L_act.drop 20)) (by rw [htab]; rfl) (hpass2 (t1 := 84) (t2 := 84) (by decide +kernel) ⟨by decide, "java/lang/IllegalStateException", ha _ mw1114, hst.nc (q := ("java/lang/IllegalArgumentException", "java/lang/IllegalStateException")) (List.mem_of_getElem? (i := 5) rfl)⟩ ⟨by decide, "java/lang/IllegalStateException", ha _ mw1114, hst.nc (q := ("java/lang/IllegalArgumentException", "java/lang/IllegalStateException")) (List.mem_of_getElem? (i := 5) rfl)⟩) (by decide) (by decide) (ha _ mw1115) (va_Nw.use rfl (hst.cs cs_IllegalArgumentException)) h1 h2 h3 ?_
        refine lv_astore (lv' := [(4, .ref q9), (0, .ref (a o)), (1, .int p2), (2, .int p3), (3, .int p4)]) hx hb dL_act_155 hl (by decide) rfl (fun ls hl => ?_)
        refine lv_sipush (v := (-300)) hx hb dL_act_157 (by decide) ?_
        obtain rfl := Option.some.inj hF
        exact en_i hQ (Nat.le_of_ble_eq_true rfl) (Nat.le_of_ble_eq_true rfl) hx hb hr hlocks hP hD hS rfl dL_act_160
      have hF := q_brn w118_1 hF
      by_cases w118_2 : X = "java/lang/IndexOutOfBoundsException"
      · have hF := q_brp w118_2 hF
        subst w118_2
        refine vx_catch (E := "java/lang/IndexOutOfBoundsException") (name := "java/lang/IndexOutOfBoundsException") hown (tableOf (hh_L_act.take 31)) ⟨116, 121, 161, 88⟩ (tableOf (hh_L_act.drop 32)) (by rw [htab]; rfl) (hpass2 (t1 := 84) (t2 := 86) (by decide +kernel) ⟨by decide, "java/lang/IllegalStateException", ha _ mw1114, hst.nc (q := ("java/lang/IndexOutOfBoundsException", "java/lang/IllegalStateException")) (List.mem_of_getElem? (i := 1) rfl)⟩ ⟨by decide, "java/lang/IllegalArgumentException", ha _ mw1115, hst.nc (q := ("java/lang/IndexOutOfBoundsException", "java/lang/IllegalArgumentException")) (List.mem_of_getElem? (i := 0) rfl)⟩) (by decide) (by decide) (ha _ mw1116) (va_Nw.use rfl (hst.cs cs_IndexOutOfBoundsException)) h1 h2 h3 ?_
        refine lv_astore (lv' := [(4, .ref q9), (0, .ref (a o)), (1, .int p2), (2, .int p3), (3, .int p4)]) hx hb dL_act_161 hl (by decide) rfl (fun ls hl => ?_)
        refine lv_sipush (v := (-300)) hx hb dL_act_163 (by decide) ?_
        obtain rfl := Option.some.inj hF
        exact en_i hQ (Nat.le_of_ble_eq_true rfl) (Nat.le_of_ble_eq_true rfl) hx hb hr hlocks hP hD hS rfl dL_act_166
      have hF := q_brn w118_2 hF
      exact absurd hF (by simp)
    have hF := q_sml er18 hF
    obtain rfl := Option.some.inj hF
    exact en_i hQ (Nat.le_of_ble_eq_true rfl) (Nat.le_of_ble_eq_true rfl) hx hb hr hlocks hP hD hS rfl dL_act_121
  have hF := q_brn w1_7 hF
  by_cases w1_8 : p2 = 8
  · have hF := q_brp w1_8 hF
    refine lv_tableIn (off := 121) (tgt := 122) hx hb dL_act_1 (by rw [w1_8]; decide) (by rw [w1_8]; decide) (by rw [w1_8]; decide) (by decide) ?_
    refine lv_aload_n hx hb dL_act_122 rfl (lv_at hl 0 rfl) ?_
    refine lv_iload_n hx hb dL_act_123 rfl (lv_at hl 2 rfl) ?_
    refine lv_iload_n hx hb dL_act_124 rfl (lv_at hl 3 rfl) ?_
    obtain ⟨q19, hq19, hF⟩ := q_bdi hF
    refine cx_i (ro := q19.1) (Lc := [w_VB1 E a o x]) (Lc' := [w_VB1 E a o (q19.2)]) (L' := [w_VB1 E a o (q19.2)]) (vx_runV (As := [.int p3, .int p4]) (rest := []) ⟨hx, hb, hml, hown, ha⟩ (kg_X10_setEntry l E a o x p3 p4 q19 hq19 H.size hlt) (cwV 2 ha (gi_V (fun _ h => h) mw637 mw638 mw639 mw26 mw640) rfl rfl rfl hv_X10_setEntry ⟨(Nat.le_of_ble_eq_true rfl), (Nat.le_of_ble_eq_true rfl)⟩) ⟨pre_blind, va_recv hst.k (fr_P hP [0] rfl) (ci := 11) (q0 := 0) rfl rfl, pre_at hP hD hS hz hzs hst [0] (by decide) rfl rfl⟩ rfl rfl hl.1 rfl (lv_room (Nat.le_of_ble_eq_true rfl)) dL_act_125 ⟨(Nat.le_of_ble_eq_true rfl), (Nat.le_of_ble_eq_true rfl)⟩) hP hD hS hA [0] (by decide) rfl rfl rfl rfl (fun X ce q9 H locs eX h1 h2 h3 hP hD hS => ?_) (fun r20 H locs er20 hP hD hS => ?_)
    · have hF := q_smr eX hF
      by_cases w125_0 : X = "java/lang/IllegalStateException"
      · have hF := q_brp w125_0 hF
        subst w125_0
        refine vx_catch (E := "java/lang/IllegalStateException") (name := "java/lang/IllegalStateException") hown (tableOf (hh_L_act.take 8)) ⟨122, 128, 149, 84⟩ (tableOf (hh_L_act.drop 9)) (by rw [htab]; rfl) (hpass0 (by decide +kernel)) (by decide) (by decide) (ha _ mw1114) (va_Nw.use rfl (hst.cs cs_IllegalStateException)) h1 h2 h3 ?_
        refine lv_astore (lv' := [(4, .ref q9), (0, .ref (a o)), (1, .int p2), (2, .int p3), (3, .int p4)]) hx hb dL_act_149 hl (by decide) rfl (fun ls hl => ?_)
        refine lv_sipush (v := (-200)) hx hb dL_act_151 (by decide) ?_
        obtain rfl := Option.some.inj hF
        exact en_i hQ (Nat.le_of_ble_eq_true rfl) (Nat.le_of_ble_eq_true rfl) hx hb hr hlocks hP hD hS rfl dL_act_154
      have hF := q_brn w125_0 hF
      by_cases w125_1 : X = "java/lang/IllegalArgumentException"
      · have hF := q_brp w125_1 hF
        subst w125_1
        refine vx_catch (E := "java/lang/IllegalArgumentException") (name := "java/lang/IllegalArgumentException") hown (tableOf (hh_L_act.take 20)) ⟨122, 128, 155, 86⟩ (tableOf (hh_L_act.drop 21)) (by rw [htab]; rfl) (hpass2 (t1 := 84) (t2 := 84) (by decide +kernel) ⟨by decide, "java/lang/IllegalStateException", ha _ mw1114, hst.nc (q := ("java/lang/IllegalArgumentException", "java/lang/IllegalStateException")) (List.mem_of_getElem? (i := 5) rfl)⟩ ⟨by decide, "java/lang/IllegalStateException", ha _ mw1114, hst.nc (q := ("java/lang/IllegalArgumentException", "java/lang/IllegalStateException")) (List.mem_of_getElem? (i := 5) rfl)⟩) (by decide) (by decide) (ha _ mw1115) (va_Nw.use rfl (hst.cs cs_IllegalArgumentException)) h1 h2 h3 ?_
        refine lv_astore (lv' := [(4, .ref q9), (0, .ref (a o)), (1, .int p2), (2, .int p3), (3, .int p4)]) hx hb dL_act_155 hl (by decide) rfl (fun ls hl => ?_)
        refine lv_sipush (v := (-300)) hx hb dL_act_157 (by decide) ?_
        obtain rfl := Option.some.inj hF
        exact en_i hQ (Nat.le_of_ble_eq_true rfl) (Nat.le_of_ble_eq_true rfl) hx hb hr hlocks hP hD hS rfl dL_act_160
      have hF := q_brn w125_1 hF
      by_cases w125_2 : X = "java/lang/IndexOutOfBoundsException"
      · have hF := q_brp w125_2 hF
        subst w125_2
        refine vx_catch (E := "java/lang/IndexOutOfBoundsException") (name := "java/lang/IndexOutOfBoundsException") hown (tableOf (hh_L_act.take 32)) ⟨122, 128, 161, 88⟩ (tableOf (hh_L_act.drop 33)) (by rw [htab]; rfl) (hpass2 (t1 := 84) (t2 := 86) (by decide +kernel) ⟨by decide, "java/lang/IllegalStateException", ha _ mw1114, hst.nc (q := ("java/lang/IndexOutOfBoundsException", "java/lang/IllegalStateException")) (List.mem_of_getElem? (i := 1) rfl)⟩ ⟨by decide, "java/lang/IllegalArgumentException", ha _ mw1115, hst.nc (q := ("java/lang/IndexOutOfBoundsException", "java/lang/IllegalArgumentException")) (List.mem_of_getElem? (i := 0) rfl)⟩) (by decide) (by decide) (ha _ mw1116) (va_Nw.use rfl (hst.cs cs_IndexOutOfBoundsException)) h1 h2 h3 ?_
        refine lv_astore (lv' := [(4, .ref q9), (0, .ref (a o)), (1, .int p2), (2, .int p3), (3, .int p4)]) hx hb dL_act_161 hl (by decide) rfl (fun ls hl => ?_)
        refine lv_sipush (v := (-300)) hx hb dL_act_163 (by decide) ?_
        obtain rfl := Option.some.inj hF
        exact en_i hQ (Nat.le_of_ble_eq_true rfl) (Nat.le_of_ble_eq_true rfl) hx hb hr hlocks hP hD hS rfl dL_act_166
      have hF := q_brn w125_2 hF
      exact absurd hF (by simp)
    have hF := q_sml er20 hF
    obtain rfl := Option.some.inj hF
    exact en_i hQ (Nat.le_of_ble_eq_true rfl) (Nat.le_of_ble_eq_true rfl) hx hb hr hlocks hP hD hS rfl dL_act_128
  have hF := q_brn w1_8 hF
  by_cases w1_9 : p2 = 9
  · have hF := q_brp w1_9 hF
    refine lv_tableIn (off := 128) (tgt := 129) hx hb dL_act_1 (by rw [w1_9]; decide) (by rw [w1_9]; decide) (by rw [w1_9]; decide) (by decide) ?_
    refine lv_aload_n hx hb dL_act_129 rfl (lv_at hl 0 rfl) ?_
    refine lv_iload_n hx hb dL_act_130 rfl (lv_at hl 2 rfl) ?_
    refine lv_iload_n hx hb dL_act_131 rfl (lv_at hl 3 rfl) ?_
    obtain ⟨q21, hq21, hF⟩ := q_bdi hF
    refine cx_i (ro := q21.1) (Lc := [w_VB1 E a o x]) (Lc' := [w_VB1 E a o (q21.2)]) (L' := [w_VB1 E a o (q21.2)]) (vx_runV (As := [.int p3, .int p4]) (rest := []) ⟨hx, hb, hml, hown, ha⟩ (kg_X10_addCliff l E a o x p3 p4 q21 hq21 H.size hlt) (cwV 2 ha (gi_V (fun _ h => h) mw643 mw644 mw645 mw26 mw646) rfl rfl rfl hv_X10_addCliff ⟨(Nat.le_of_ble_eq_true rfl), (Nat.le_of_ble_eq_true rfl)⟩) ⟨pre_blind, va_recv hst.k (fr_P hP [0] rfl) (ci := 11) (q0 := 0) rfl rfl, pre_at hP hD hS hz hzs hst [0] (by decide) rfl rfl⟩ rfl rfl hl.1 rfl (lv_room (Nat.le_of_ble_eq_true rfl)) dL_act_132 ⟨(Nat.le_of_ble_eq_true rfl), (Nat.le_of_ble_eq_true rfl)⟩) hP hD hS hA [0] (by decide) rfl rfl rfl rfl (fun X ce q9 H locs eX h1 h2 h3 hP hD hS => ?_) (fun r22 H locs er22 hP hD hS => ?_)
    · have hF := q_smr eX hF
      by_cases w132_0 : X = "java/lang/IllegalStateException"
      · have hF := q_brp w132_0 hF
        subst w132_0
        refine vx_catch (E := "java/lang/IllegalStateException") (name := "java/lang/IllegalStateException") hown (tableOf (hh_L_act.take 9)) ⟨129, 135, 149, 84⟩ (tableOf (hh_L_act.drop 10)) (by rw [htab]; rfl) (hpass0 (by decide +kernel)) (by decide) (by decide) (ha _ mw1114) (va_Nw.use rfl (hst.cs cs_IllegalStateException)) h1 h2 h3 ?_
        refine lv_astore (lv' := [(4, .ref q9), (0, .ref (a o)), (1, .int p2), (2, .int p3), (3, .int p4)]) hx hb dL_act_149 hl (by decide) rfl (fun ls hl => ?_)
        refine lv_sipush (v := (-200)) hx hb dL_act_151 (by decide) ?_
        obtain rfl := Option.some.inj hF
        exact en_i hQ (Nat.le_of_ble_eq_true rfl) (Nat.le_of_ble_eq_true rfl) hx hb hr hlocks hP hD hS rfl dL_act_154
      have hF := q_brn w132_0 hF
      by_cases w132_1 : X = "java/lang/IllegalArgumentException"
      · have hF := q_brp w132_1 hF
        subst w132_1
        refine vx_catch (E := "java/lang/IllegalArgumentException") (name := "java/lang/IllegalArgumentException") hown (tableOf (hh_L_act.take 21)) ⟨129, 135, 155, 86⟩ (tableOf (hh_L_act.drop 22)) (by rw [htab]; rfl) (hpass2 (t1 := 84) (t2 := 84) (by decide +kernel) ⟨by decide, "java/lang/IllegalStateException", ha _ mw1114, hst.nc (q := ("java/lang/IllegalArgumentException", "java/lang/IllegalStateException")) (List.mem_of_getElem? (i := 5) rfl)⟩ ⟨by decide, "java/lang/IllegalStateException", ha _ mw1114, hst.nc (q := ("java/lang/IllegalArgumentException", "java/lang/IllegalStateException")) (List.mem_of_getElem? (i := 5) rfl)⟩) (by decide) (by decide) (ha _ mw1115) (va_Nw.use rfl (hst.cs cs_IllegalArgumentException)) h1 h2 h3 ?_
        refine lv_astore (lv' := [(4, .ref q9), (0, .ref (a o)), (1, .int p2), (2, .int p3), (3, .int p4)]) hx hb dL_act_155 hl (by decide) rfl (fun ls hl => ?_)
        refine lv_sipush (v := (-300)) hx hb dL_act_157 (by decide) ?_
        obtain rfl := Option.some.inj hF
        exact en_i hQ (Nat.le_of_ble_eq_true rfl) (Nat.le_of_ble_eq_true rfl) hx hb hr hlocks hP hD hS rfl dL_act_160
      have hF := q_brn w132_1 hF
      by_cases w132_2 : X = "java/lang/IndexOutOfBoundsException"
      · have hF := q_brp w132_2 hF
        subst w132_2
        refine vx_catch (E := "java/lang/IndexOutOfBoundsException") (name := "java/lang/IndexOutOfBoundsException") hown (tableOf (hh_L_act.take 33)) ⟨129, 135, 161, 88⟩ (tableOf (hh_L_act.drop 34)) (by rw [htab]; rfl) (hpass2 (t1 := 84) (t2 := 86) (by decide +kernel) ⟨by decide, "java/lang/IllegalStateException", ha _ mw1114, hst.nc (q := ("java/lang/IndexOutOfBoundsException", "java/lang/IllegalStateException")) (List.mem_of_getElem? (i := 1) rfl)⟩ ⟨by decide, "java/lang/IllegalArgumentException", ha _ mw1115, hst.nc (q := ("java/lang/IndexOutOfBoundsException", "java/lang/IllegalArgumentException")) (List.mem_of_getElem? (i := 0) rfl)⟩) (by decide) (by decide) (ha _ mw1116) (va_Nw.use rfl (hst.cs cs_IndexOutOfBoundsException)) h1 h2 h3 ?_
        refine lv_astore (lv' := [(4, .ref q9), (0, .ref (a o)), (1, .int p2), (2, .int p3), (3, .int p4)]) hx hb dL_act_161 hl (by decide) rfl (fun ls hl => ?_)
        refine lv_sipush (v := (-300)) hx hb dL_act_163 (by decide) ?_
        obtain rfl := Option.some.inj hF
        exact en_i hQ (Nat.le_of_ble_eq_true rfl) (Nat.le_of_ble_eq_true rfl) hx hb hr hlocks hP hD hS rfl dL_act_166
      have hF := q_brn w132_2 hF
      exact absurd hF (by simp)
    have hF := q_sml er22 hF
    obtain rfl := Option.some.inj hF
    exact en_i hQ (Nat.le_of_ble_eq_true rfl) (Nat.le_of_ble_eq_true rfl) hx hb hr hlocks hP hD hS rfl dL_act_135
  have hF := q_brn w1_9 hF
  by_cases w1_10 : p2 = 10
  · have hF := q_brp w1_10 hF
    refine lv_tableIn (off := 135) (tgt := 136) hx hb dL_act_1 (by rw [w1_10]; decide) (by rw [w1_10]; decide) (by rw [w1_10]; decide) (by decide) ?_
    refine lv_aload_n hx hb dL_act_136 rfl (lv_at hl 0 rfl) ?_
    refine lv_iload_n hx hb dL_act_137 rfl (lv_at hl 2 rfl) ?_
    obtain ⟨q23, hq23, hF⟩ := q_bdi hF
    refine cx_i (ro := q23.1) (Lc := [w_VB1 E a o x]) (Lc' := [w_VB1 E a o (q23.2)]) (L' := [w_VB1 E a o (q23.2)]) (vx_runV (As := [.int p3]) (rest := []) ⟨hx, hb, hml, hown, ha⟩ (kg_X10_removeCliff l E a o x p3 q23 hq23 H.size hlt) (cwV 1 ha (gi_V (fun _ h => h) mw649 mw650 mw651 mw26 mw652) rfl rfl rfl hv_X10_removeCliff ⟨(Nat.le_of_ble_eq_true rfl), (Nat.le_of_ble_eq_true rfl)⟩) ⟨pre_blind, va_recv hst.k (fr_P hP [0] rfl) (ci := 11) (q0 := 0) rfl rfl, pre_at hP hD hS hz hzs hst [0] (by decide) rfl rfl⟩ rfl rfl hl.1 rfl (lv_room (Nat.le_of_ble_eq_true rfl)) dL_act_138 ⟨(Nat.le_of_ble_eq_true rfl), (Nat.le_of_ble_eq_true rfl)⟩) hP hD hS hA [0] (by decide) rfl rfl rfl rfl (fun X ce q9 H locs eX h1 h2 h3 hP hD hS => ?_) (fun r24 H locs er24 hP hD hS => ?_)
    · have hF := q_smr eX hF
      by_cases w138_0 : X = "java/lang/IllegalStateException"
      · have hF := q_brp w138_0 hF
        subst w138_0
        refine vx_catch (E := "java/lang/IllegalStateException") (name := "java/lang/IllegalStateException") hown (tableOf (hh_L_act.take 10)) ⟨136, 141, 149, 84⟩ (tableOf (hh_L_act.drop 11)) (by rw [htab]; rfl) (hpass0 (by decide +kernel)) (by decide) (by decide) (ha _ mw1114) (va_Nw.use rfl (hst.cs cs_IllegalStateException)) h1 h2 h3 ?_
        refine lv_astore (lv' := [(4, .ref q9), (0, .ref (a o)), (1, .int p2), (2, .int p3), (3, .int p4)]) hx hb dL_act_149 hl (by decide) rfl (fun ls hl => ?_)
        refine lv_sipush (v := (-200)) hx hb dL_act_151 (by decide) ?_
        obtain rfl := Option.some.inj hF
        exact en_i hQ (Nat.le_of_ble_eq_true rfl) (Nat.le_of_ble_eq_true rfl) hx hb hr hlocks hP hD hS rfl dL_act_154
      have hF := q_brn w138_0 hF
      by_cases w138_1 : X = "java/lang/IllegalArgumentException"
      · have hF := q_brp w138_1 hF
        subst w138_1
        refine vx_catch (E := "java/lang/IllegalArgumentException") (name := "java/lang/IllegalArgumentException") hown (tableOf (hh_L_act.take 22)) ⟨136, 141, 155, 86⟩ (tableOf (hh_L_act.drop 23)) (by rw [htab]; rfl) (hpass2 (t1 := 84) (t2 := 84) (by decide +kernel) ⟨by decide, "java/lang/IllegalStateException", ha _ mw1114, hst.nc (q := ("java/lang/IllegalArgumentException", "java/lang/IllegalStateException")) (List.mem_of_getElem? (i := 5) rfl)⟩ ⟨by decide, "java/lang/IllegalStateException", ha _ mw1114, hst.nc (q := ("java/lang/IllegalArgumentException", "java/lang/IllegalStateException")) (List.mem_of_getElem? (i := 5) rfl)⟩) (by decide) (by decide) (ha _ mw1115) (va_Nw.use rfl (hst.cs cs_IllegalArgumentException)) h1 h2 h3 ?_
        refine lv_astore (lv' := [(4, .ref q9), (0, .ref (a o)), (1, .int p2), (2, .int p3), (3, .int p4)]) hx hb dL_act_155 hl (by decide) rfl (fun ls hl => ?_)
        refine lv_sipush (v := (-300)) hx hb dL_act_157 (by decide) ?_
        obtain rfl := Option.some.inj hF
        exact en_i hQ (Nat.le_of_ble_eq_true rfl) (Nat.le_of_ble_eq_true rfl) hx hb hr hlocks hP hD hS rfl dL_act_160
      have hF := q_brn w138_1 hF
      by_cases w138_2 : X = "java/lang/IndexOutOfBoundsException"
      · have hF := q_brp w138_2 hF
        subst w138_2
        refine vx_catch (E := "java/lang/IndexOutOfBoundsException") (name := "java/lang/IndexOutOfBoundsException") hown (tableOf (hh_L_act.take 34)) ⟨136, 141, 161, 88⟩ (tableOf (hh_L_act.drop 35)) (by rw [htab]; rfl) (hpass2 (t1 := 84) (t2 := 86) (by decide +kernel) ⟨by decide, "java/lang/IllegalStateException", ha _ mw1114, hst.nc (q := ("java/lang/IndexOutOfBoundsException", "java/lang/IllegalStateException")) (List.mem_of_getElem? (i := 1) rfl)⟩ ⟨by decide, "java/lang/IllegalArgumentException", ha _ mw1115, hst.nc (q := ("java/lang/IndexOutOfBoundsException", "java/lang/IllegalArgumentException")) (List.mem_of_getElem? (i := 0) rfl)⟩) (by decide) (by decide) (ha _ mw1116) (va_Nw.use rfl (hst.cs cs_IndexOutOfBoundsException)) h1 h2 h3 ?_
        refine lv_astore (lv' := [(4, .ref q9), (0, .ref (a o)), (1, .int p2), (2, .int p3), (3, .int p4)]) hx hb dL_act_161 hl (by decide) rfl (fun ls hl => ?_)
        refine lv_sipush (v := (-300)) hx hb dL_act_163 (by decide) ?_
        obtain rfl := Option.some.inj hF
        exact en_i hQ (Nat.le_of_ble_eq_true rfl) (Nat.le_of_ble_eq_true rfl) hx hb hr hlocks hP hD hS rfl dL_act_166
      have hF := q_brn w138_2 hF
      exact absurd hF (by simp)
    have hF := q_sml er24 hF
    obtain rfl := Option.some.inj hF
    exact en_i hQ (Nat.le_of_ble_eq_true rfl) (Nat.le_of_ble_eq_true rfl) hx hb hr hlocks hP hD hS rfl dL_act_141
  have hF := q_brn w1_10 hF
  refine lv_tableOut (tgt := 142) hx hb dL_act_1 (sw_out 0 10 [0, 1, 2, 3, 4, 5, 6, 7, 8, 9, 10] (List.forall_mem_cons.mpr ⟨w1_0, (List.forall_mem_cons.mpr ⟨w1_1, (List.forall_mem_cons.mpr ⟨w1_2, (List.forall_mem_cons.mpr ⟨w1_3, (List.forall_mem_cons.mpr ⟨w1_4, (List.forall_mem_cons.mpr ⟨w1_5, (List.forall_mem_cons.mpr ⟨w1_6, (List.forall_mem_cons.mpr ⟨w1_7, (List.forall_mem_cons.mpr ⟨w1_8, (List.forall_mem_cons.mpr ⟨w1_9, (List.forall_mem_cons.mpr ⟨w1_10, (fun _ h => nomatch h)⟩)⟩)⟩)⟩)⟩)⟩)⟩)⟩)⟩)⟩)⟩) (by decide) (by decide)) (by decide) ?_
  refine lv_aload_n hx hb dL_act_142 rfl (lv_at hl 0 rfl) ?_
  refine lv_iload_n hx hb dL_act_143 rfl (lv_at hl 2 rfl) ?_
  refine lv_iload_n hx hb dL_act_144 rfl (lv_at hl 3 rfl) ?_
  obtain ⟨q25, hq25, hF⟩ := q_bdi hF
  refine cx_i (ro := q25.1) (Lc := [w_VB1 E a o x]) (Lc' := [w_VB1 E a o (q25.2)]) (L' := [w_VB1 E a o (q25.2)]) (vx_runV (As := [.int p3, .int p4]) (rest := []) ⟨hx, hb, hml, hown, ha⟩ (kg_X10_graze l E a o x p3 p4 q25 hq25 H.size hlt) (cwV 2 ha (gi_V (fun _ h => h) mw607 mw608 mw609 mw26 mw610) rfl rfl rfl hv_X10_graze ⟨(Nat.le_of_ble_eq_true rfl), (Nat.le_of_ble_eq_true rfl)⟩) ⟨pre_blind, va_recv hst.k (fr_P hP [0] rfl) (ci := 11) (q0 := 0) rfl rfl, pre_at hP hD hS hz hzs hst [0] (by decide) rfl rfl⟩ rfl rfl hl.1 rfl (lv_room (Nat.le_of_ble_eq_true rfl)) dL_act_145 ⟨(Nat.le_of_ble_eq_true rfl), (Nat.le_of_ble_eq_true rfl)⟩) hP hD hS hA [0] (by decide) rfl rfl rfl rfl (fun X ce q9 H locs eX h1 h2 h3 hP hD hS => ?_) (fun r26 H locs er26 hP hD hS => ?_)
  · have hF := q_smr eX hF
    by_cases w145_0 : X = "java/lang/IllegalStateException"
    · have hF := q_brp w145_0 hF
      subst w145_0
      refine vx_catch (E := "java/lang/IllegalStateException") (name := "java/lang/IllegalStateException") hown (tableOf (hh_L_act.take 11)) ⟨142, 148, 149, 84⟩ (tableOf (hh_L_act.drop 12)) (by rw [htab]; rfl) (hpass0 (by decide +kernel)) (by decide) (by decide) (ha _ mw1114) (va_Nw.use rfl (hst.cs cs_IllegalStateException)) h1 h2 h3 ?_
      refine lv_astore (lv' := [(4, .ref q9), (0, .ref (a o)), (1, .int p2), (2, .int p3), (3, .int p4)]) hx hb dL_act_149 hl (by decide) rfl (fun ls hl => ?_)
      refine lv_sipush (v := (-200)) hx hb dL_act_151 (by decide) ?_
      obtain rfl := Option.some.inj hF
      exact en_i hQ (Nat.le_of_ble_eq_true rfl) (Nat.le_of_ble_eq_true rfl) hx hb hr hlocks hP hD hS rfl dL_act_154
    have hF := q_brn w145_0 hF
    by_cases w145_1 : X = "java/lang/IllegalArgumentException"
    · have hF := q_brp w145_1 hF
      subst w145_1
      refine vx_catch (E := "java/lang/IllegalArgumentException") (name := "java/lang/IllegalArgumentException") hown (tableOf (hh_L_act.take 23)) ⟨142, 148, 155, 86⟩ (tableOf (hh_L_act.drop 24)) (by rw [htab]; rfl) (hpass2 (t1 := 84) (t2 := 84) (by decide +kernel) ⟨by decide, "java/lang/IllegalStateException", ha _ mw1114, hst.nc (q := ("java/lang/IllegalArgumentException", "java/lang/IllegalStateException")) (List.mem_of_getElem? (i := 5) rfl)⟩ ⟨by decide, "java/lang/IllegalStateException", ha _ mw1114, hst.nc (q := ("java/lang/IllegalArgumentException", "java/lang/IllegalStateException")) (List.mem_of_getElem? (i := 5) rfl)⟩) (by decide) (by decide) (ha _ mw1115) (va_Nw.use rfl (hst.cs cs_IllegalArgumentException)) h1 h2 h3 ?_
      refine lv_astore (lv' := [(4, .ref q9), (0, .ref (a o)), (1, .int p2), (2, .int p3), (3, .int p4)]) hx hb dL_act_155 hl (by decide) rfl (fun ls hl => ?_)
      refine lv_sipush (v := (-300)) hx hb dL_act_157 (by decide) ?_
      obtain rfl := Option.some.inj hF
      exact en_i hQ (Nat.le_of_ble_eq_true rfl) (Nat.le_of_ble_eq_true rfl) hx hb hr hlocks hP hD hS rfl dL_act_160
    have hF := q_brn w145_1 hF
    by_cases w145_2 : X = "java/lang/IndexOutOfBoundsException"
    · have hF := q_brp w145_2 hF
      subst w145_2
      refine vx_catch (E := "java/lang/IndexOutOfBoundsException") (name := "java/lang/IndexOutOfBoundsException") hown (tableOf (hh_L_act.take 35)) ⟨142, 148, 161, 88⟩ (tableOf (hh_L_act.drop 36)) (by rw [htab]; rfl) (hpass2 (t1 := 84) (t2 := 86) (by decide +kernel) ⟨by decide, "java/lang/IllegalStateException", ha _ mw1114, hst.nc (q := ("java/lang/IndexOutOfBoundsException", "java/lang/IllegalStateException")) (List.mem_of_getElem? (i := 1) rfl)⟩ ⟨by decide, "java/lang/IllegalArgumentException", ha _ mw1115, hst.nc (q := ("java/lang/IndexOutOfBoundsException", "java/lang/IllegalArgumentException")) (List.mem_of_getElem? (i := 0) rfl)⟩) (by decide) (by decide) (ha _ mw1116) (va_Nw.use rfl (hst.cs cs_IndexOutOfBoundsException)) h1 h2 h3 ?_
      refine lv_astore (lv' := [(4, .ref q9), (0, .ref (a o)), (1, .int p2), (2, .int p3), (3, .int p4)]) hx hb dL_act_161 hl (by decide) rfl (fun ls hl => ?_)
      refine lv_sipush (v := (-300)) hx hb dL_act_163 (by decide) ?_
      obtain rfl := Option.some.inj hF
      exact en_i hQ (Nat.le_of_ble_eq_true rfl) (Nat.le_of_ble_eq_true rfl) hx hb hr hlocks hP hD hS rfl dL_act_166
    have hF := q_brn w145_2 hF
    exact absurd hF (by simp)
  have hF := q_sml er26 hF
  obtain rfl := Option.some.inj hF
  exact en_i hQ (Nat.le_of_ble_eq_true rfl) (Nat.le_of_ble_eq_true rfl) hx hb hr hlocks hP hD hS rfl dL_act_148
