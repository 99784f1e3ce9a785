/-! X11_run -/
theorem dX11_run_0 : decode cX11_run 0 = .ok (.aload_n 0, 1) := by decide +kernel
theorem dX11_run_1 : decode cX11_run 1 = .ok (.iconst 0, 1) := by decide +kernel
theorem dX11_run_2 : decode cX11_run 2 = .ok (.putfield 187, 3) := by decide +kernel
theorem dX11_run_5 : decode cX11_run 5 = .ok (.aload_n 0, 1) := by decide +kernel
theorem dX11_run_6 : decode cX11_run 6 = .ok (.iconst 0, 1) := by decide +kernel
theorem dX11_run_7 : decode cX11_run 7 = .ok (.putfield 190, 3) := by decide +kernel
theorem dX11_run_10 : decode cX11_run 10 = .ok (.iconst 0, 1) := by decide +kernel
theorem dX11_run_11 : decode cX11_run 11 = .ok (.istore_n 1, 1) := by decide +kernel
theorem dX11_run_12 : decode cX11_run 12 = .ok (.iconst 1, 1) := by decide +kernel
theorem dX11_run_13 : decode cX11_run 13 = .ok (.istore_n 2, 1) := by decide +kernel
theorem dX11_run_14 : decode cX11_run 14 = .ok (.iload_n 2, 1) := by decide +kernel
theorem dX11_run_15 : decode cX11_run 15 = .ok (.ifCond .eq 56, 3) := by decide +kernel
theorem dX11_run_18 : decode cX11_run 18 = .ok (.aload_n 0, 1) := by decide +kernel
theorem dX11_run_19 : decode cX11_run 19 = .ok (.iconst 3, 1) := by decide +kernel
theorem dX11_run_20 : decode cX11_run 20 = .ok (.iload_n 1, 1) := by decide +kernel
theorem dX11_run_21 : decode cX11_run 21 = .ok (.imul, 1) := by decide +kernel
theorem dX11_run_22 : decode cX11_run 22 = .ok (.invokevirtual 223, 3) := by decide +kernel
theorem dX11_run_25 : decode cX11_run 25 = .ok (.iinc 1 1, 3) := by decide +kernel
theorem dX11_run_28 : decode cX11_run 28 = .ok (.aload_n 0, 1) := by decide +kernel
theorem dX11_run_29 : decode cX11_run 29 = .ok (.getfield 190, 3) := by decide +kernel
theorem dX11_run_32 : decode cX11_run 32 = .ok (.ifCond .ne 16, 3) := by decide +kernel
theorem dX11_run_35 : decode cX11_run 35 = .ok (.aload_n 0, 1) := by decide +kernel
theorem dX11_run_36 : decode cX11_run 36 = .ok (.invokevirtual 194, 3) := by decide +kernel
theorem dX11_run_39 : decode cX11_run 39 = .ok (.bipush 59, 2) := by decide +kernel
theorem dX11_run_41 : decode cX11_run 41 = .ok (.if_icmp .ne 7, 3) := by decide +kernel
theorem dX11_run_44 : decode cX11_run 44 = .ok (.iconst 1, 1) := by decide +kernel
theorem dX11_run_45 : decode cX11_run 45 = .ok (.goto 4, 3) := by decide +kernel
theorem dX11_run_48 : decode cX11_run 48 = .ok (.iconst 0, 1) := by decide +kernel
theorem dX11_run_49 : decode cX11_run 49 = .ok (.istore_n 2, 1) := by decide +kernel
theorem dX11_run_50 : decode cX11_run 50 = .ok (.aload_n 0, 1) := by decide +kernel
theorem dX11_run_51 : decode cX11_run 51 = .ok (.dup, 1) := by decide +kernel
theorem dX11_run_52 : decode cX11_run 52 = .ok (.getfield 187, 3) := by decide +kernel
theorem dX11_run_55 : decode cX11_run 55 = .ok (.iload_n 2, 1) := by decide +kernel
theorem dX11_run_56 : decode cX11_run 56 = .ok (.ifCond .eq 7, 3) := by decide +kernel
theorem dX11_run_59 : decode cX11_run 59 = .ok (.iconst 1, 1) := by decide +kernel
theorem dX11_run_60 : decode cX11_run 60 = .ok (.goto 4, 3) := by decide +kernel
theorem dX11_run_63 : decode cX11_run 63 = .ok (.iconst 0, 1) := by decide +kernel
theorem dX11_run_64 : decode cX11_run 64 = .ok (.iadd, 1) := by decide +kernel
theorem dX11_run_65 : decode cX11_run 65 = .ok (.putfield 187, 3) := by decide +kernel
theorem dX11_run_68 : decode cX11_run 68 = .ok (.goto (-54), 3) := by decide +kernel
theorem dX11_run_71 : decode cX11_run 71 = .ok (.aload_n 0, 1) := by decide +kernel
theorem dX11_run_72 : decode cX11_run 72 = .ok (.aload_n 0, 1) := by decide +kernel
theorem dX11_run_73 : decode cX11_run 73 = .ok (.getfield 190, 3) := by decide +kernel
theorem dX11_run_76 : decode cX11_run 76 = .ok (.ifCond .ne 14, 3) := by decide +kernel
theorem dX11_run_79 : decode cX11_run 79 = .ok (.aload_n 0, 1) := by decide +kernel
theorem dX11_run_80 : decode cX11_run 80 = .ok (.getfield 187, 3) := by decide +kernel
theorem dX11_run_83 : decode cX11_run 83 = .ok (.aload_n 0, 1) := by decide +kernel
theorem dX11_run_84 : decode cX11_run 84 = .ok (.getfield 184, 3) := by decide +kernel
theorem dX11_run_87 : decode cX11_run 87 = .ok (.if_icmp .ge 7, 3) := by decide +kernel
theorem dX11_run_90 : decode cX11_run 90 = .ok (.iconst 1, 1) := by decide +kernel
theorem dX11_run_91 : decode cX11_run 91 = .ok (.goto 4, 3) := by decide +kernel
theorem dX11_run_94 : decode cX11_run 94 = .ok (.iconst 0, 1) := by decide +kernel
theorem dX11_run_95 : decode cX11_run 95 = .ok (.putfield 190, 3) := by decide +kernel
theorem dX11_run_98 : decode cX11_run 98 = .ok (.aload_n 0, 1) := by decide +kernel
theorem dX11_run_99 : decode cX11_run 99 = .ok (.iconst 0, 1) := by decide +kernel
theorem dX11_run_100 : decode cX11_run 100 = .ok (.putfield 184, 3) := by decide +kernel
theorem dX11_run_103 : decode cX11_run 103 = .ok (.aload_n 0, 1) := by decide +kernel
theorem dX11_run_104 : decode cX11_run 104 = .ok (.getfield 190, 3) := by decide +kernel
theorem dX11_run_107 : decode cX11_run 107 = .ok (.ifCond .eq 17, 3) := by decide +kernel
theorem dX11_run_110 : decode cX11_run 110 = .ok (.aload_n 0, 1) := by decide +kernel
theorem dX11_run_111 : decode cX11_run 111 = .ok (.aload_n 0, 1) := by decide +kernel
theorem dX11_run_112 : decode cX11_run 112 = .ok (.getfield 187, 3) := by decide +kernel
theorem dX11_run_115 : decode cX11_run 115 = .ok (.putfield 26, 3) := by decide +kernel
theorem dX11_run_118 : decode cX11_run 118 = .ok (.aload_n 0, 1) := by decide +kernel
theorem dX11_run_119 : decode cX11_run 119 = .ok (.iconst 1, 1) := by decide +kernel
theorem dX11_run_120 : decode cX11_run 120 = .ok (.invokevirtual 80, 3) := by decide +kernel
theorem dX11_run_123 : decode cX11_run 123 = .ok (.ireturn, 1) := by decide +kernel
theorem dX11_run_124 : decode cX11_run 124 = .ok (.aload_n 0, 1) := by decide +kernel
theorem dX11_run_125 : decode cX11_run 125 = .ok (.invokevirtual 86, 3) := by decide +kernel
theorem dX11_run_128 : decode cX11_run 128 = .ok (.iconst 0, 1) := by decide +kernel
theorem dX11_run_129 : decode cX11_run 129 = .ok (.istore_n 3, 1) := by decide +kernel
theorem dX11_run_130 : decode cX11_run 130 = .ok (.iload_n 3, 1) := by decide +kernel
theorem dX11_run_131 : decode cX11_run 131 = .ok (.iload_n 1, 1) := by decide +kernel
theorem dX11_run_132 : decode cX11_run 132 = .ok (.if_icmp .ge 42, 3) := by decide +kernel
theorem dX11_run_135 : decode cX11_run 135 = .ok (.aload_n 0, 1) := by decide +kernel
theorem dX11_run_136 : decode cX11_run 136 = .ok (.iconst 3, 1) := by decide +kernel
theorem dX11_run_137 : decode cX11_run 137 = .ok (.iload_n 3, 1) := by decide +kernel
theorem dX11_run_138 : decode cX11_run 138 = .ok (.imul, 1) := by decide +kernel
theorem dX11_run_139 : decode cX11_run 139 = .ok (.invokevirtual 226, 3) := by decide +kernel
theorem dX11_run_142 : decode cX11_run 142 = .ok (.istore 4, 2) := by decide +kernel
theorem dX11_run_144 : decode cX11_run 144 = .ok (.aload_n 0, 1) := by decide +kernel
theorem dX11_run_145 : decode cX11_run 145 = .ok (.getfield 42, 3) := by decide +kernel
theorem dX11_run_148 : decode cX11_run 148 = .ok (.ifCond .eq 20, 3) := by decide +kernel
theorem dX11_run_151 : decode cX11_run 151 = .ok (.aload_n 0, 1) := by decide +kernel
theorem dX11_run_152 : decode cX11_run 152 = .ok (.iload_n 3, 1) := by decide +kernel
theorem dX11_run_153 : decode cX11_run 153 = .ok (.putfield 30, 3) := by decide +kernel
theorem dX11_run_156 : decode cX11_run 156 = .ok (.aload_n 0, 1) := by decide +kernel
theorem dX11_run_157 : decode cX11_run 157 = .ok (.iconst 2, 1) := by decide +kernel
theorem dX11_run_158 : decode cX11_run 158 = .ok (.putfield 42, 3) := by decide +kernel
theorem dX11_run_161 : decode cX11_run 161 = .ok (.aload_n 0, 1) := by decide +kernel
theorem dX11_run_162 : decode cX11_run 162 = .ok (.iload 4, 2) := by decide +kernel
theorem dX11_run_164 : decode cX11_run 164 = .ok (.invokevirtual 93, 3) := by decide +kernel
theorem dX11_run_167 : decode cX11_run 167 = .ok (.ireturn, 1) := by decide +kernel
theorem dX11_run_168 : decode cX11_run 168 = .ok (.iinc 3 1, 3) := by decide +kernel
theorem dX11_run_171 : decode cX11_run 171 = .ok (.goto (-41), 3) := by decide +kernel
theorem dX11_run_174 : decode cX11_run 174 = .ok (.aload_n 0, 1) := by decide +kernel
theorem dX11_run_175 : decode cX11_run 175 = .ok (.aload_n 0, 1) := by decide +kernel
theorem dX11_run_176 : decode cX11_run 176 = .ok (.iload_n 1, 1) := by decide +kernel
theorem dX11_run_177 : decode cX11_run 177 = .ok (.invokevirtual 83, 3) := by decide +kernel
theorem dX11_run_180 : decode cX11_run 180 = .ok (.invokevirtual 93, 3) := by decide +kernel
theorem dX11_run_183 : decode cX11_run 183 = .ok (.ireturn, 1) := by decide +kernel
def f_X11_run_L14 (x_buffer : (Nat → Int32)) (x_typed : Int32) (K14 : Int32 → Int32 → Int32 → (Nat → Int32) → Option (Int32 × (Nat → Int32) × (Nat → Int32) × (Nat → Int32) × Int32 × Int32 × Int32 × Int32 × Int32 × Int32 × Int32 × (Nat → Int32))) : Nat → Int32 → Int32 → Int32 → Int32 → (Nat → Int32) → Option (Int32 × (Nat → Int32) × (Nat → Int32) × (Nat → Int32) × Int32 × Int32 × Int32 × Int32 × Int32 × Int32 × Int32 × (Nat → Int32))
  | 0, _, _, _, _, _ => none
  | n14 + 1, i1, i2, i3, i4, i5 =>
    q_br (i1 = 0) (
  K14 i2 i3 i4 i5) (
  q_bd (f_X11_parsesCommand x_buffer x_typed i3 i4 i5 (3 * i2)) (fun q10 =>
  q_lt (i2 + 1 : Int32) (fun v11 =>
  q_lt (fun (j12 : Int32) =>
  q_lt (fun (j13 : Int32) =>
  f_X11_run_L14 x_buffer x_typed K14 n14 j12 v11 (q10.1 + j13) q10.2.1 q10.2.2) (fun (J64 : Int32 → Option (Int32 × (Nat → Int32) × (Nat → Int32) × (Nat → Int32) × Int32 × Int32 × Int32 × Int32 × Int32 × Int32 × Int32 × (Nat → Int32))) =>
  q_br (j12 = 0) (
  J64 0) (
  J64 1))) (fun (J49 : Int32 → Option (Int32 × (Nat → Int32) × (Nat → Int32) × (Nat → Int32) × Int32 × Int32 × Int32 × Int32 × Int32 × Int32 × Int32 × (Nat → Int32))) =>
  q_br (q10.2.1 = 0) (
  q_bd (f_X11_here x_buffer x_typed q10.1) (fun q14 =>
  q_br (q14 = 59) (
  J49 1) (
  J49 0))) (
  J49 0)))))
def f_X11_run_L130 (x_history : (Nat → Int32)) (x_changes : Int32) (x_errorAt : Int32) (x_failedAt : Int32) (y6 : Int32) (y7 : Int32) (y9 : (Nat → Int32)) (j15 : Int32) (q17 : (Nat → Int32)) (K130 : Int32 → Int32 → (Nat → Int32) → Int32 → Option (Int32 × (Nat → Int32) × (Nat → Int32) × (Nat → Int32) × Int32 × Int32 × Int32 × Int32 × Int32 × Int32 × Int32 × (Nat → Int32))) : Nat → Int32 → (Nat → Int32) → Int32 → Option (Int32 × (Nat → Int32) × (Nat → Int32) × (Nat → Int32) × Int32 × Int32 × Int32 × Int32 × Int32 × Int32 × Int32 × (Nat → Int32))
  | 0, _, _, _ => none
  | n130 + 1, i18, i19, i20 =>
    q_br (y6 ≤ i18) (
  q_bd (f_X11_done i20 y6) (fun q25 =>
  q_bd (f_X11_kept i19 q17 x_history x_changes q25.2 q25.1) (fun q26 =>
  some (q26.1, q26.2.1, q17, q26.2.2.1, q26.2.2.2, 0, x_errorAt, x_failedAt, q25.2, y7, j15, y9)))) (
  q_bd (f_X11_carriesOut i19 i20 y9 (3 * i18)) (fun q27 =>
  q_br (q27.2.2 = 0) (
  q_lt (i18 + 1 : Int32) (fun v28 =>
  f_X11_run_L130 x_history x_changes x_errorAt x_failedAt y6 y7 y9 j15 q17 K130 n130 v28 q27.2.1 q27.2.2)) (
  K130 i18 q27.1 q27.2.1 q27.2.2)))
def f_X11_run (x_g : (Nat → Int32)) (x_before : (Nat → Int32)) (x_history : (Nat → Int32)) (x_changes : Int32) (x_buffer : (Nat → Int32)) (x_typed : Int32) (x_errorAt : Int32) (x_failedAt : Int32) (x_thrown : Int32) (x_spot : Int32) (x_isWrong : Int32) (x_parsed : (Nat → Int32)) : Option (Int32 × (Nat → Int32) × (Nat → Int32) × (Nat → Int32) × Int32 × Int32 × Int32 × Int32 × Int32 × Int32 × Int32 × (Nat → Int32)) :=
  f_X11_run_L14 x_buffer x_typed (fun y6 y7 y8 y9 =>
  q_lt (fun (j15 : Int32) =>
  q_gd (j15 = 0 ∨ j15 = 1) (
  q_br (j15 = 0) (
  q_bd (f_X11_begin x_g x_before) (fun q17 =>
  f_X11_run_L130 x_history x_changes x_errorAt x_failedAt y6 y7 y9 j15 q17 (fun y21 y22 y23 y24 =>
  q_bd (f_X11_kept y23 q17 x_history x_changes 2 y22) (fun q29 =>
  some (q29.1, q29.2.1, q17, q29.2.2.1, q29.2.2.2, 0, x_errorAt, y21, 2, y7, j15, y9))) 2000 0 x_g x_thrown)) (
  q_bd (f_X11_fails x_thrown 1) (fun q30 =>
  some (q30.1, x_g, x_before, x_history, x_changes, 0, y7, x_failedAt, q30.2, y7, j15, y9))))) (fun (J95 : Int32 → Option (Int32 × (Nat → Int32) × (Nat → Int32) × (Nat → Int32) × Int32 × Int32 × Int32 × Int32 × Int32 × Int32 × Int32 × (Nat → Int32))) =>
  q_br (y8 = 0) (
  q_br (x_typed ≤ y7) (
  J95 0) (
  J95 1)) (
  J95 1))) 2000 1 0 0 0 x_parsed
theorem hv_X11_run : yX11_run.cls = RX11 ∧ yX11_run.cls ≠ "java/lang/invoke/MethodHandle" ∧ yX11_run.cls ≠ "java/lang/invoke/VarHandle" ∧ (parseMethodDescriptor yX11_run.desc).map (fun d => d.parameters.length) = some 0 := by decide +kernel
abbrev rm_X11_run : Room := { frames := 6, cells := 0, slots := 0, locals := 138 }
set_option maxHeartbeats 4000000 in
set_option maxRecDepth 100000 in
theorem k_X11_run (l : Launch) (E : ET) (a : Nat → Nat) (o : Nat) (x : Model_t) (res : Int32 × (Nat → Int32) × (Nat → Int32) × (Nat → Int32) × Int32 × Int32 × Int32 × Int32 × Int32 × Int32 × Int32 × (Nat → Int32)) (hF : f_X11_run x.1.1 x.1.2.1 x.1.2.2.1 x.1.2.2.2.1 x.2.1.2.1 x.2.1.2.2.1 x.2.1.2.2.2.1 x.2.1.2.2.2.2 x.2.2.2.1 x.2.2.2.2.1 x.2.2.2.2.2.1 x.2.2.2.2.2.2 = some res) (sz : Nat) : CtI l yX11_run (mws yX11_run cX11_run 5 (some .int)) rm_X11_run 0 0 [.ref (a o)] E (bl_Model E a o x) res.1 (bl_Model E a o ((res.2.1, res.2.2.1, res.2.2.2.1, res.2.2.2.2.1, x.1.2.2.2.2), (x.2.1.1, x.2.1.2.1, res.2.2.2.2.2.1, res.2.2.2.2.2.2.1, res.2.2.2.2.2.2.2.1), (x.2.2.1.1, x.2.2.1.2.1, x.2.2.1.2.2.1, x.2.2.1.2.2.2), (res.2.2.2.2.2.2.2.2.1, res.2.2.2.2.2.2.2.2.2.1, res.2.2.2.2.2.2.2.2.2.2.1, res.2.2.2.2.2.2.2.2.2.2.2))) sz := by
  refine mk_M (by decide +kernel) (Nat.le_of_ble_eq_true rfl) ?_
  intro p e s m below meth c A args Q ls hAe hsz hQ hx hb hr hml hin ha hown hlocks hA hz hzs hst hP hD hS hl
  have hown : s.vm.findClass RX11 = some m.cls := hown
  rw [hAe] at hQ
  subst hsz
  have hP : va_P E.1 vwCl (List.flatten [w_Model E a o x]) s.heap := hP
  have hD : va_D A (List.flatten [w_Model E a o x]) := hD
  have hl : lv_has ls 5 [(0, .ref (a o))] := hl
  generalize hHe : s.heap = H at hP
  have hS : va_S A s.heap H [] := by rw [← hHe]; exact hS
  generalize ([] : List Loc) = locs at hS ⊢
  unfold f_X11_run at hF
  refine lv_aload_n hx hb dX11_run_0 rfl (lv_at hl 0 rfl) ?_
  refine lv_iconst (v := 0) hx hb dX11_run_1 (by decide) ?_
  refine va_put (D := E.1) (ci := 13) (v := .int 0) (ty := .int) (C := RX11) (T := TX11) (N := 18) hx hb ha in_X11 tyX11 tyX11_ok nmX11 hown hst.k hP hD hS 0 rfl rfl 15 (by decide) (ha _ mw1651) (fun _ h9 => h9) rfl (tyX11_ok 15 (by decide)) rfl rfl (Nat.le_of_ble_eq_true rfl) dX11_run_2 (fun H locs hP hD hS => ?_)
  have hP : va_P E.1 vwCl (List.flatten [w_Model E a o ((x.1.1, x.1.2.1, x.1.2.2.1, x.1.2.2.2.1, x.1.2.2.2.2), (x.2.1.1, x.2.1.2.1, x.2.1.2.2.1, x.2.1.2.2.2.1, x.2.1.2.2.2.2), (x.2.2.1.1, x.2.2.1.2.1, x.2.2.1.2.2.1, x.2.2.1.2.2.2), (x.2.2.2.1, 0, x.2.2.2.2.2.1, x.2.2.2.2.2.2))]) H := hP
  have hD : va_D A (List.flatten [w_Model E a o ((x.1.1, x.1.2.1, x.1.2.2.1, x.1.2.2.2.1, x.1.2.2.2.2), (x.2.1.1, x.2.1.2.1, x.2.1.2.2.1, x.2.1.2.2.2.1, x.2.1.2.2.2.2), (x.2.2.1.1, x.2.2.1.2.1, x.2.2.1.2.2.1, x.2.2.1.2.2.2), (x.2.2.2.1, 0, x.2.2.2.2.2.1, x.2.2.2.2.2.2))]) := hD
  refine lv_aload_n hx hb dX11_run_5 rfl (lv_at hl 0 rfl) ?_
  refine lv_iconst (v := 0) hx hb dX11_run_6 (by decide) ?_
  refine va_put (D := E.1) (ci := 13) (v := .int 0) (ty := .boolean) (C := RX11) (T := TX11) (N := 18) hx hb ha in_X11 tyX11 tyX11_ok nmX11 hown hst.k hP hD hS 0 rfl rfl 16 (by decide) (ha _ mw1652) (fun _ h9 => h9) rfl (tyX11_ok 16 (by decide)) (by decide) (by decide) (Nat.le_of_ble_eq_true rfl) dX11_run_7 (fun H locs hP hD hS => ?_)
  have hP : va_P E.1 vwCl (List.flatten [w_Model E a o ((x.1.1, x.1.2.1, x.1.2.2.1, x.1.2.2.2.1, x.1.2.2.2.2), (x.2.1.1, x.2.1.2.1, x.2.1.2.2.1, x.2.1.2.2.2.1, x.2.1.2.2.2.2), (x.2.2.1.1, x.2.2.1.2.1, x.2.2.1.2.2.1, x.2.2.1.2.2.2), (x.2.2.2.1, 0, 0, x.2.2.2.2.2.2))]) H := hP
  have hD : va_D A (List.flatten [w_Model E a o ((x.1.1, x.1.2.1, x.1.2.2.1, x.1.2.2.2.1, x.1.2.2.2.2), (x.2.1.1, x.2.1.2.1, x.2.1.2.2.1, x.2.1.2.2.2.1, x.2.1.2.2.2.2), (x.2.2.1.1, x.2.2.1.2.1, x.2.2.1.2.2.1, x.2.2.1.2.2.2), (x.2.2.2.1, 0, 0, x.2.2.2.2.2.2))]) := hD
  refine lv_iconst (v := 0) hx hb dX11_run_10 (by decide) ?_
  refine lv_istore_n (lv' := [(1, .int 0), (0, .ref (a o))]) hx hb dX11_run_11 rfl hl (by decide) rfl (fun ls hl => ?_)
  refine lv_iconst (v := 1) hx hb dX11_run_12 (by decide) ?_
  refine lv_istore_n (lv' := [(2, .int 1), (1, .int 0), (0, .ref (a o))]) hx hb dX11_run_13 rfl hl (by decide) rfl (fun ls hl => ?_)
  have key14 : ∀ (K : Int32 → Int32 → Int32 → (Nat → Int32) → Option (Int32 × (Nat → Int32) × (Nat → Int32) × (Nat → Int32) × Int32 × Int32 × Int32 × Int32 × Int32 × Int32 × Int32 × (Nat → Int32))), (∀ (y6 : Int32) (y7 : Int32) (y8 : Int32) (y9 : (Nat → Int32)) (H : Heap) (locs : List Loc) (ls : Array Slot), K y6 y7 y8 y9 = some res → va_P E.1 vwCl (List.flatten [w_Model E a o ((x.1.1, x.1.2.1, x.1.2.2.1, x.1.2.2.2.1, x.1.2.2.2.2), (x.2.1.1, x.2.1.2.1, x.2.1.2.2.1, x.2.1.2.2.2.1, x.2.1.2.2.2.2), (x.2.2.1.1, x.2.2.1.2.1, x.2.2.1.2.2.1, x.2.2.1.2.2.2), (x.2.2.2.1, y7, y8, y9))]) H → va_D A (List.flatten [w_Model E a o ((x.1.1, x.1.2.1, x.1.2.2.1, x.1.2.2.2.1, x.1.2.2.2.2), (x.2.1.1, x.2.1.2.1, x.2.1.2.2.1, x.2.1.2.2.2.1, x.2.1.2.2.2.2), (x.2.2.1.1, x.2.2.1.2.1, x.2.2.1.2.2.1, x.2.2.1.2.2.2), (x.2.2.2.1, y7, y8, y9))]) → va_S A s.heap H locs → lv_has ls 5 [(1, .int y6), (0, .ref (a o))] → W p l e rm_X11_run s m args below meth c H locs 0 0 Q (F0 m 71 ls [])) → ∀ (n : Nat) (i1 : Int32) (i2 : Int32) (i3 : Int32) (i4 : Int32) (i5 : (Nat → Int32)) (H : Heap) (locs : List Loc) (ls : Array Slot), f_X11_run_L14 x.2.1.2.1 x.2.1.2.2.1 K n i1 i2 i3 i4 i5 = some res → va_P E.1 vwCl (List.flatten [w_Model E a o ((x.1.1, x.1.2.1, x.1.2.2.1, x.1.2.2.2.1, x.1.2.2.2.2), (x.2.1.1, x.2.1.2.1, x.2.1.2.2.1, x.2.1.2.2.2.1, x.2.1.2.2.2.2), (x.2.2.1.1, x.2.2.1.2.1, x.2.2.1.2.2.1, x.2.2.1.2.2.2), (x.2.2.2.1, i3, i4, i5))]) H → va_D A (List.flatten [w_Model E a o ((x.1.1, x.1.2.1, x.1.2.2.1, x.1.2.2.2.1, x.1.2.2.2.2), (x.2.1.1, x.2.1.2.1, x.2.1.2.2.1, x.2.1.2.2.2.1, x.2.1.2.2.2.2), (x.2.2.1.1, x.2.2.1.2.1, x.2.2.1.2.2.1, x.2.2.1.2.2.2), (x.2.2.2.1, i3, i4, i5))]) → va_S A s.heap H locs → lv_has ls 5 [(2, .int i1), (1, .int i2), (0, .ref (a o))] → W p l e rm_X11_run s m args below meth c H locs 0 0 Q (F0 m 14 ls []) := by
    intro K14 hK14 n14
    induction n14 with
    | zero => intro i1 i2 i3 i4 i5 H locs ls hF; exact absurd hF (by simp [f_X11_run_L14])
    | succ n14 ih14 =>
      intro i1 i2 i3 i4 i5 H locs ls hF hP hD hS hl
      rw [f_X11_run_L14] at hF
      refine lv_iload_n hx hb dX11_run_14 rfl (lv_at hl 0 rfl) ?_
      refine lv_if_eq (tgt := 71) hx hb dX11_run_15 (by decide) (fun c15 => ?_) (fun c15 => ?_)
      · have hF := q_brp c15 hF
        exact hK14 i2 i3 i4 i5 H locs ls hF hP hD hS (lv_sub hl [1, 2] rfl)
      · have hF := q_brn c15 hF
        refine lv_aload_n hx hb dX11_run_18 rfl (lv_at hl 2 rfl) ?_
        refine lv_iconst (v := 3) hx hb dX11_run_19 (by decide) ?_
        refine lv_iload_n hx hb dX11_run_20 rfl (lv_at hl 1 rfl) ?_
        refine lv_imul hx hb dX11_run_21 ?_
        obtain ⟨q10, hq10, hF⟩ := q_bdi hF
        refine cl_v (Lc := [w_Model E a o ((x.1.1, x.1.2.1, x.1.2.2.1, x.1.2.2.2.1, x.1.2.2.2.2), (x.2.1.1, x.2.1.2.1, x.2.1.2.2.1, x.2.1.2.2.2.1, x.2.1.2.2.2.2), (x.2.2.1.1, x.2.2.1.2.1, x.2.2.1.2.2.1, x.2.2.1.2.2.2), (x.2.2.2.1, i3, i4, i5))]) (Lc' := [w_Model E a o ((x.1.1, x.1.2.1, x.1.2.2.1, x.1.2.2.2.1, x.1.2.2.2.2), (x.2.1.1, x.2.1.2.1, x.2.1.2.2.1, x.2.1.2.2.2.1, x.2.1.2.2.2.2), (x.2.2.1.1, x.2.2.1.2.1, x.2.2.1.2.2.1, x.2.2.1.2.2.2), (x.2.2.2.1, q10.1, q10.2.1, q10.2.2))]) (L' := [w_Model E a o ((x.1.1, x.1.2.1, x.1.2.2.1, x.1.2.2.2.1, x.1.2.2.2.2), (x.2.1.1, x.2.1.2.1, x.2.1.2.2.1, x.2.1.2.2.2.1, x.2.1.2.2.2.2), (x.2.2.1.1, x.2.2.1.2.1, x.2.2.1.2.2.1, x.2.2.1.2.2.2), (x.2.2.2.1, q10.1, q10.2.1, q10.2.2))]) (va_runV (As := [.int (3 * i2)]) (rest := []) ⟨hx, hb, hml, hown, ha⟩ (k_X11_parsesCommand l E a o ((x.1.1, x.1.2.1, x.1.2.2.1, x.1.2.2.2.1, x.1.2.2.2.2), (x.2.1.1, x.2.1.2.1, x.2.1.2.2.1, x.2.1.2.2.2.1, x.2.1.2.2.2.2), (x.2.2.1.1, x.2.2.1.2.1, x.2.2.1.2.2.1, x.2.2.1.2.2.2), (x.2.2.2.1, i3, i4, i5)) (3 * i2) q10 hq10 H.size) (cwV 1 ha (gi_V (fun _ h => h) mw2034 mw2036 mw59 mw87 mw2037) rfl rfl rfl hv_X11_parsesCommand ⟨(Nat.le_of_ble_eq_true rfl), (Nat.le_of_ble_eq_true rfl)⟩) ⟨pre_blind, va_recv hst.k (fr_P hP [0] rfl) (ci := 13) (q0 := 0) rfl rfl, pre_at hP hD hS hz hzs hst [0] (by decide) rfl rfl⟩ rfl rfl hl.1 rfl (lv_room (Nat.le_of_ble_eq_true rfl)) dX11_run_22 ⟨(Nat.le_of_ble_eq_true rfl), (Nat.le_of_ble_eq_true rfl)⟩) hP hD hS hA [0] (by decide) rfl rfl rfl rfl (fun H locs hP hD hS => ?_)
        obtain ⟨v11, ev11⟩ : ∃ y : Int32, y = i2 + 1 := ⟨_, rfl⟩
        have hF := q_lti ev11 hF
        refine lv_iinc (v := v11) (lv' := [(1, .int v11), (2, .int i1), (0, .ref (a o))]) hx hb dX11_run_25 hl (k := 1) rfl (by rw [ev11]; rfl) (by decide) rfl (fun ls hl => ?_)
        refine lv_aload_n hx hb dX11_run_28 rfl (lv_at hl 2 rfl) ?_
        refine va_get (D := E.1) (ci := 13) (v := .int q10.2.1) (C := RX11) (T := TX11) (N := 18) hx hb ha in_X11 hown hst.k hP 0 rfl rfl 16 (by decide) (ha _ mw1652) (fun _ h9 => h9) rfl dX11_run_29 ?_
        obtain ⟨J49, hJ49, hF⟩ := q_jn hF
        have jJ49 : ∀ (j12 : Int32), ∀ (H : Heap) (locs : List Loc) (ls : Array Slot), J49 j12 = some res → va_P E.1 vwCl (List.flatten [w_Model E a o ((x.1.1, x.1.2.1, x.1.2.2.1, x.1.2.2.2.1, x.1.2.2.2.2), (x.2.1.1, x.2.1.2.1, x.2.1.2.2.1, x.2.1.2.2.2.1, x.2.1.2.2.2.2), (x.2.2.1.1, x.2.2.1.2.1, x.2.2.1.2.2.1, x.2.2.1.2.2.2), (x.2.2.2.1, q10.1, q10.2.1, q10.2.2))]) H → va_D A (List.flatten [w_Model E a o ((x.1.1, x.1.2.1, x.1.2.2.1, x.1.2.2.2.1, x.1.2.2.2.2), (x.2.1.1, x.2.1.2.1, x.2.1.2.2.1, x.2.1.2.2.2.1, x.2.1.2.2.2.2), (x.2.2.1.1, x.2.2.1.2.1, x.2.2.1.2.2.1, x.2.2.1.2.2.2), (x.2.2.2.1, q10.1, q10.2.1, q10.2.2))]) → va_S A s.heap H locs → lv_has ls 5 [(1, .int v11), (0, .ref (a o))] → W p l e rm_X11_run s m args below meth c H locs 0 0 Q (F0 m 49 ls [.int j12]) := by
          intro j12 H locs ls hF hP hD hS hl
          rw [hJ49] at hF
          refine lv_istore_n (lv' := [(2, .int j12), (1, .int v11), (0, .ref (a o))]) hx hb dX11_run_49 rfl hl (by decide) rfl (fun ls hl => ?_)
          refine lv_aload_n hx hb dX11_run_50 rfl (lv_at hl 2 rfl) ?_
          refine lv_dup hx hb dX11_run_51 rfl ?_
          refine va_get (D := E.1) (ci := 13) (v := .int q10.1) (C := RX11) (T := TX11) (N := 18) hx hb ha in_X11 hown hst.k hP 0 rfl rfl 15 (by decide) (ha _ mw1651) (fun _ h9 => h9) rfl dX11_run_52 ?_
          refine lv_iload_n hx hb dX11_run_55 rfl (lv_at hl 0 rfl) ?_
          obtain ⟨J64, hJ64, hF⟩ := q_jn hF
          have jJ64 : ∀ (j13 : Int32), ∀ (H : Heap) (locs : List Loc) (ls : Array Slot), J64 j13 = some res → va_P E.1 vwCl (List.flatten [w_Model E a o ((x.1.1, x.1.2.1, x.1.2.2.1, x.1.2.2.2.1, x.1.2.2.2.2), (x.2.1.1, x.2.1.2.1, x.2.1.2.2.1, x.2.1.2.2.2.1, x.2.1.2.2.2.2), (x.2.2.1.1, x.2.2.1.2.1, x.2.2.1.2.2.1, x.2.2.1.2.2.2), (x.2.2.2.1, q10.1, q10.2.1, q10.2.2))]) H → va_D A (List.flatten [w_Model E a o ((x.1.1, x.1.2.1, x.1.2.2.1, x.1.2.2.2.1, x.1.2.2.2.2), (x.2.1.1, x.2.1.2.1, x.2.1.2.2.1, x.2.1.2.2.2.1, x.2.1.2.2.2.2), (x.2.2.1.1, x.2.2.1.2.1, x.2.2.1.2.2.1, x.2.2.1.2.2.2), (x.2.2.2.1, q10.1, q10.2.1, q10.2.2))]) → va_S A s.heap H locs → lv_has ls 5 [(2, .int j12), (1, .int v11), (0, .ref (a o))] → W p l e rm_X11_run s m args below meth c H locs 0 0 Q (F0 m 64 ls [.int j13, .int q10.1, .ref (a o)]) := by
            intro j13 H locs ls hF hP hD hS hl
            rw [hJ64] at hF
            refine lv_iadd hx hb dX11_run_64 ?_
            refine va_put (D := E.1) (ci := 13) (v := .int (q10.1 + j13)) (ty := .int) (C := RX11) (T := TX11) (N := 18) hx hb ha in_X11 tyX11 tyX11_ok nmX11 hown hst.k hP hD hS 0 rfl rfl 15 (by decide) (ha _ mw1651) (fun _ h9 => h9) rfl (tyX11_ok 15 (by decide)) rfl rfl (Nat.le_of_ble_eq_true rfl) dX11_run_65 (fun H locs hP hD hS => ?_)
            have hP : va_P E.1 vwCl (List.flatten [w_Model E a o ((x.1.1, x.1.2.1, x.1.2.2.1, x.1.2.2.2.1, x.1.2.2.2.2), (x.2.1.1, x.2.1.2.1, x.2.1.2.2.1, x.2.1.2.2.2.1, x.2.1.2.2.2.2), (x.2.2.1.1, x.2.2.1.2.1, x.2.2.1.2.2.1, x.2.2.1.2.2.2), (x.2.2.2.1, q10.1 + j13, q10.2.1, q10.2.2))]) H := hP
            have hD : va_D A (List.flatten [w_Model E a o ((x.1.1, x.1.2.1, x.1.2.2.1, x.1.2.2.2.1, x.1.2.2.2.2), (x.2.1.1, x.2.1.2.1, x.2.1.2.2.1, x.2.1.2.2.2.1, x.2.1.2.2.2.2), (x.2.2.1.1, x.2.2.1.2.1, x.2.2.1.2.2.1, x.2.2.1.2.2.2), (x.2.2.2.1, q10.1 + j13, q10.2.1, q10.2.2))]) := hD
            refine lv_goto (tgt := 14) hx hb dX11_run_68 (by decide) ?_
            exact ih14 j12 v11 (q10.1 + j13) q10.2.1 q10.2.2 H locs ls hF hP hD hS (lv_sub hl [0, 1, 2] rfl)
          refine lv_if_eq (tgt := 63) hx hb dX11_run_56 (by decide) (fun c56 => ?_) (fun c56 => ?_)
          · have hF := q_brp c56 hF
            refine lv_iconst (v := 0) hx hb dX11_run_63 (by decide) ?_
            exact jJ64 0 H locs ls hF hP hD hS (lv_sub hl [0, 1, 2] rfl)
          · have hF := q_brn c56 hF
            refine lv_iconst (v := 1) hx hb dX11_run_59 (by decide) ?_
            refine lv_goto (tgt := 64) hx hb dX11_run_60 (by decide) ?_
            exact jJ64 1 H locs ls hF hP hD hS (lv_sub hl [0, 1, 2] rfl)
        refine lv_if_ne (tgt := 48) hx hb dX11_run_32 (by decide) (fun c32 => ?_) (fun c32 => ?_)
        · have hF := q_brn c32 hF
          refine lv_iconst (v := 0) hx hb dX11_run_48 (by decide) ?_
          exact jJ49 0 H locs ls hF hP hD hS (lv_sub hl [0, 2] rfl)
        · have hF := q_brp c32 hF
          refine lv_aload_n hx hb dX11_run_35 rfl (lv_at hl 2 rfl) ?_
          obtain ⟨q14, hq14, hF⟩ := q_bdi hF
          refine cl_i (Lc := [w_Model E a o ((x.1.1, x.1.2.1, x.1.2.2.1, x.1.2.2.2.1, x.1.2.2.2.2), (x.2.1.1, x.2.1.2.1, x.2.1.2.2.1, x.2.1.2.2.2.1, x.2.1.2.2.2.2), (x.2.2.1.1, x.2.2.1.2.1, x.2.2.1.2.2.1, x.2.2.1.2.2.2), (x.2.2.2.1, q10.1, q10.2.1, q10.2.2))]) (Lc' := [w_Model E a o ((x.1.1, x.1.2.1, x.1.2.2.1, x.1.2.2.2.1, x.1.2.2.2.2), (x.2.1.1, x.2.1.2.1, x.2.1.2.2.1, x.2.1.2.2.2.1, x.2.1.2.2.2.2), (x.2.2.1.1, x.2.2.1.2.1, x.2.2.1.2.2.1, x.2.2.1.2.2.2), (x.2.2.2.1, q10.1, q10.2.1, q10.2.2))]) (L' := [w_Model E a o ((x.1.1, x.1.2.1, x.1.2.2.1, x.1.2.2.2.1, x.1.2.2.2.2), (x.2.1.1, x.2.1.2.1, x.2.1.2.2.1, x.2.1.2.2.2.1, x.2.1.2.2.2.2), (x.2.2.1.1, x.2.2.1.2.1, x.2.2.1.2.2.1, x.2.2.1.2.2.2), (x.2.2.2.1, q10.1, q10.2.1, q10.2.2))]) (rv := q14) (va_runV (As := []) (rest := []) ⟨hx, hb, hml, hown, ha⟩ (k_X11_here l E a o ((x.1.1, x.1.2.1, x.1.2.2.1, x.1.2.2.2.1, x.1.2.2.2.2), (x.2.1.1, x.2.1.2.1, x.2.1.2.2.1, x.2.1.2.2.2.1, x.2.1.2.2.2.2), (x.2.2.1.1, x.2.2.1.2.1, x.2.2.1.2.2.1, x.2.2.1.2.2.2), (x.2.2.2.1, q10.1, q10.2.1, q10.2.2)) q14 hq14 H.size) (cwV 0 ha (gi_V (fun _ h => h) mw2038 mw2040 mw60 mw87 mw2041) rfl rfl rfl hv_X11_here ⟨(Nat.le_of_ble_eq_true rfl), (Nat.le_of_ble_eq_true rfl)⟩) ⟨pre_blind, va_recv hst.k (fr_P hP [0] rfl) (ci := 13) (q0 := 0) rfl rfl, pre_at hP hD hS hz hzs hst [0] (by decide) rfl rfl⟩ rfl rfl hl.1 rfl (lv_room (Nat.le_of_ble_eq_true rfl)) dX11_run_36 ⟨(Nat.le_of_ble_eq_true rfl), (Nat.le_of_ble_eq_true rfl)⟩) hP hD hS hA [0] (by decide) rfl rfl rfl rfl (fun H locs hP hD hS => ?_)
          refine lv_bipush (v := 59) hx hb dX11_run_39 (by decide) ?_
          refine lv_icmp_ne (tgt := 48) hx hb dX11_run_41 (by decide) (fun c41 => ?_) (fun c41 => ?_)
          · have hF := q_brn c41 hF
            refine lv_iconst (v := 0) hx hb dX11_run_48 (by decide) ?_
            exact jJ49 0 H locs ls hF hP hD hS (lv_sub hl [0, 2] rfl)
          · have hF := q_brp c41 hF
            refine lv_iconst (v := 1) hx hb dX11_run_44 (by decide) ?_
            refine lv_goto (tgt := 49) hx hb dX11_run_45 (by decide) ?_
            exact jJ49 1 H locs ls hF hP hD hS (lv_sub hl [0, 2] rfl)
  refine key14 _ ?_ _ 1 0 0 0 x.2.2.2.2.2.2 H locs ls hF hP hD hS (lv_sub hl [0, 1, 2] rfl)
  intro y6 y7 y8 y9 H locs ls hF hP hD hS hl
  refine lv_aload_n hx hb dX11_run_71 rfl (lv_at hl 1 rfl) ?_
  refine lv_aload_n hx hb dX11_run_72 rfl (lv_at hl 1 rfl) ?_
  refine va_get (D := E.1) (ci := 13) (v := .int y8) (C := RX11) (T := TX11) (N := 18) hx hb ha in_X11 hown hst.k hP 0 rfl rfl 16 (by decide) (ha _ mw1652) (fun _ h9 => h9) rfl dX11_run_73 ?_
  obtain ⟨J95, hJ95, hF⟩ := q_jn hF
  have jJ95 : ∀ (j15 : Int32), ∀ (H : Heap) (locs : List Loc) (ls : Array Slot), J95 j15 = some res → va_P E.1 vwCl (List.flatten [w_Model E a o ((x.1.1, x.1.2.1, x.1.2.2.1, x.1.2.2.2.1, x.1.2.2.2.2), (x.2.1.1, x.2.1.2.1, x.2.1.2.2.1, x.2.1.2.2.2.1, x.2.1.2.2.2.2), (x.2.2.1.1, x.2.2.1.2.1, x.2.2.1.2.2.1, x.2.2.1.2.2.2), (x.2.2.2.1, y7, y8, y9))]) H → va_D A (List.flatten [w_Model E a o ((x.1.1, x.1.2.1, x.1.2.2.1, x.1.2.2.2.1, x.1.2.2.2.2), (x.2.1.1, x.2.1.2.1, x.2.1.2.2.1, x.2.1.2.2.2.1, x.2.1.2.2.2.2), (x.2.2.1.1, x.2.2.1.2.1, x.2.2.1.2.2.1, x.2.2.1.2.2.2), (x.2.2.2.1, y7, y8, y9))]) → va_S A s.heap H locs → lv_has ls 5 [(1, .int y6), (0, .ref (a o))] → W p l e rm_X11_run s m args below meth c H locs 0 0 Q (F0 m 95 ls [.int j15, .ref (a o)]) := by
    intro j15 H locs ls hF hP hD hS hl
    rw [hJ95] at hF
    obtain ⟨g16, hF⟩ := q_gdi hF
    refine va_put (D := E.1) (ci := 13) (v := .int j15) (ty := .boolean) (C := RX11) (T := TX11) (N := 18) hx hb ha in_X11 tyX11 tyX11_ok nmX11 hown hst.k hP hD hS 0 rfl rfl 16 (by decide) (ha _ mw1652) (fun _ h9 => h9) rfl (tyX11_ok 16 (by decide)) (nz_b g16) (fz_b g16) (Nat.le_of_ble_eq_true rfl) dX11_run_95 (fun H locs hP hD hS => ?_)
    have hP : va_P E.1 vwCl (List.flatten [w_Model E a o ((x.1.1, x.1.2.1, x.1.2.2.1, x.1.2.2.2.1, x.1.2.2.2.2), (x.2.1.1, x.2.1.2.1, x.2.1.2.2.1, x.2.1.2.2.2.1, x.2.1.2.2.2.2), (x.2.2.1.1, x.2.2.1.2.1, x.2.2.1.2.2.1, x.2.2.1.2.2.2), (x.2.2.2.1, y7, j15, y9))]) H := hP
    have hD : va_D A (List.flatten [w_Model E a o ((x.1.1, x.1.2.1, x.1.2.2.1, x.1.2.2.2.1, x.1.2.2.2.2), (x.2.1.1, x.2.1.2.1, x.2.1.2.2.1, x.2.1.2.2.2.1, x.2.1.2.2.2.2), (x.2.2.1.1, x.2.2.1.2.1, x.2.2.1.2.2.1, x.2.2.1.2.2.2), (x.2.2.2.1, y7, j15, y9))]) := hD
    refine lv_aload_n hx hb dX11_run_98 rfl (lv_at hl 1 rfl) ?_
    refine lv_iconst (v := 0) hx hb dX11_run_99 (by decide) ?_
    refine va_put (D := E.1) (ci := 13) (v := .int 0) (ty := .int) (C := RX11) (T := TX11) (N := 18) hx hb ha in_X11 tyX11 tyX11_ok nmX11 hown hst.k hP hD hS 0 rfl rfl 7 (by decide) (ha _ mw1643) (fun _ h9 => h9) rfl (tyX11_ok 7 (by decide)) rfl rfl (Nat.le_of_ble_eq_true rfl) dX11_run_100 (fun H locs hP hD hS => ?_)
    have hP : va_P E.1 vwCl (List.flatten [w_Model E a o ((x.1.1, x.1.2.1, x.1.2.2.1, x.1.2.2.2.1, x.1.2.2.2.2), (x.2.1.1, x.2.1.2.1, 0, x.2.1.2.2.2.1, x.2.1.2.2.2.2), (x.2.2.1.1, x.2.2.1.2.1, x.2.2.1.2.2.1, x.2.2.1.2.2.2), (x.2.2.2.1, y7, j15, y9))]) H := hP
    have hD : va_D A (List.flatten [w_Model E a o ((x.1.1, x.1.2.1, x.1.2.2.1, x.1.2.2.2.1, x.1.2.2.2.2), (x.2.1.1, x.2.1.2.1, 0, x.2.1.2.2.2.1, x.2.1.2.2.2.2), (x.2.2.1.1, x.2.2.1.2.1, x.2.2.1.2.2.1, x.2.2.1.2.2.2), (x.2.2.2.1, y7, j15, y9))]) := hD
    refine lv_aload_n hx hb dX11_run_103 rfl (lv_at hl 1 rfl) ?_
    refine va_get (D := E.1) (ci := 13) (v := .int j15) (C := RX11) (T := TX11) (N := 18) hx hb ha in_X11 hown hst.k hP 0 rfl rfl 16 (by decide) (ha _ mw1652) (fun _ h9 => h9) rfl dX11_run_104 ?_
    refine lv_if_eq (tgt := 124) hx hb dX11_run_107 (by decide) (fun c107 => ?_) (fun c107 => ?_)
    · have hF := q_brp c107 hF
      refine lv_aload_n hx hb dX11_run_124 rfl (lv_at hl 1 rfl) ?_
      obtain ⟨q17, hq17, hF⟩ := q_bdi hF
      refine cl_v (Lc := [w_Model E a o ((x.1.1, x.1.2.1, x.1.2.2.1, x.1.2.2.2.1, x.1.2.2.2.2), (x.2.1.1, x.2.1.2.1, 0, x.2.1.2.2.2.1, x.2.1.2.2.2.2), (x.2.2.1.1, x.2.2.1.2.1, x.2.2.1.2.2.1, x.2.2.1.2.2.2), (x.2.2.2.1, y7, j15, y9))]) (Lc' := [w_Model E a o ((x.1.1, q17, x.1.2.2.1, x.1.2.2.2.1, x.1.2.2.2.2), (x.2.1.1, x.2.1.2.1, 0, x.2.1.2.2.2.1, x.2.1.2.2.2.2), (x.2.2.1.1, x.2.2.1.2.1, x.2.2.1.2.2.1, x.2.2.1.2.2.2), (x.2.2.2.1, y7, j15, y9))]) (L' := [w_Model E a o ((x.1.1, q17, x.1.2.2.1, x.1.2.2.2.1, x.1.2.2.2.2), (x.2.1.1, x.2.1.2.1, 0, x.2.1.2.2.2.1, x.2.1.2.2.2.2), (x.2.2.1.1, x.2.2.1.2.1, x.2.2.1.2.2.1, x.2.2.1.2.2.2), (x.2.2.2.1, y7, j15, y9))]) (va_runV (As := []) (rest := []) ⟨hx, hb, hml, hown, ha⟩ (k_X11_begin l E a o ((x.1.1, x.1.2.1, x.1.2.2.1, x.1.2.2.2.1, x.1.2.2.2.2), (x.2.1.1, x.2.1.2.1, 0, x.2.1.2.2.2.1, x.2.1.2.2.2.2), (x.2.2.1.1, x.2.2.1.2.1, x.2.2.1.2.2.1, x.2.2.1.2.2.2), (x.2.2.2.1, y7, j15, y9)) q17 hq17 H.size) (cwV 0 ha (gi_V (fun _ h => h) mw1699 mw1701 mw27 mw87 mw1702) rfl rfl rfl hv_X11_begin ⟨(Nat.le_of_ble_eq_true rfl), (Nat.le_of_ble_eq_true rfl)⟩) ⟨pre_blind, va_recv hst.k (fr_P hP [0] rfl) (ci := 13) (q0 := 0) rfl rfl, pre_at hP hD hS hz hzs hst [0] (by decide) rfl rfl⟩ rfl rfl hl.1 rfl (lv_room (Nat.le_of_ble_eq_true rfl)) dX11_run_125 ⟨(Nat.le_of_ble_eq_true rfl), (Nat.le_of_ble_eq_true rfl)⟩) hP hD hS hA [0] (by decide) rfl rfl rfl rfl (fun H locs hP hD hS => ?_)
      refine lv_iconst (v := 0) hx hb dX11_run_128 (by decide) ?_
      refine lv_istore_n (lv' := [(3, .int 0), (1, .int y6), (0, .ref (a o))]) hx hb dX11_run_129 rfl hl (by decide) rfl (fun ls hl => ?_)
      have key130 : ∀ (K : Int32 → Int32 → (Nat → Int32) → Int32 → Option (Int32 × (Nat → Int32) × (Nat → Int32) × (Nat → Int32) × Int32 × Int32 × Int32 × Int32 × Int32 × Int32 × Int32 × (Nat → Int32))), (∀ (y21 : Int32) (y22 : Int32) (y23 : (Nat → Int32)) (y24 : Int32) (H : Heap) (locs : List Loc) (ls : Array Slot), K y21 y22 y23 y24 = some res → va_P E.1 vwCl (List.flatten [w_Model E a o ((y23, q17, x.1.2.2.1, x.1.2.2.2.1, x.1.2.2.2.2), (x.2.1.1, x.2.1.2.1, 0, x.2.1.2.2.2.1, x.2.1.2.2.2.2), (x.2.2.1.1, x.2.2.1.2.1, x.2.2.1.2.2.1, x.2.2.1.2.2.2), (y24, y7, j15, y9))]) H → va_D A (List.flatten [w_Model E a o ((y23, q17, x.1.2.2.1, x.1.2.2.2.1, x.1.2.2.2.2), (x.2.1.1, x.2.1.2.1, 0, x.2.1.2.2.2.1, x.2.1.2.2.2.2), (x.2.2.1.1, x.2.2.1.2.1, x.2.2.1.2.2.1, x.2.2.1.2.2.2), (y24, y7, j15, y9))]) → va_S A s.heap H locs → lv_has ls 5 [(3, .int y21), (0, .ref (a o)), (4, .int y22)] → W p l e rm_X11_run s m args below meth c H locs 0 0 Q (F0 m 151 ls [])) → ∀ (n : Nat) (i18 : Int32) (i19 : (Nat → Int32)) (i20 : Int32) (H : Heap) (locs : List Loc) (ls : Array Slot), f_X11_run_L130 x.1.2.2.1 x.1.2.2.2.1 x.2.1.2.2.2.1 x.2.1.2.2.2.2 y6 y7 y9 j15 q17 K n i18 i19 i20 = some res → va_P E.1 vwCl (List.flatten [w_Model E a o ((i19, q17, x.1.2.2.1, x.1.2.2.2.1, x.1.2.2.2.2), (x.2.1.1, x.2.1.2.1, 0, x.2.1.2.2.2.1, x.2.1.2.2.2.2), (x.2.2.1.1, x.2.2.1.2.1, x.2.2.1.2.2.1, x.2.2.1.2.2.2), (i20, y7, j15, y9))]) H → va_D A (List.flatten [w_Model E a o ((i19, q17, x.1.2.2.1, x.1.2.2.2.1, x.1.2.2.2.2), (x.2.1.1, x.2.1.2.1, 0, x.2.1.2.2.2.1, x.2.1.2.2.2.2), (x.2.2.1.1, x.2.2.1.2.1, x.2.2.1.2.2.1, x.2.2.1.2.2.2), (i20, y7, j15, y9))]) → va_S A s.heap H locs → lv_has ls 5 [(3, .int i18), (1, .int y6), (0, .ref (a o))] → W p l e rm_X11_run s m args below meth c H locs 0 0 Q (F0 m 130 ls []) := by
        intro K130 hK130 n130
        induction n130 with
        | zero => intro i18 i19 i20 H locs ls hF; exact absurd hF (by simp [f_X11_run_L130])
        | succ n130 ih130 =>
          intro i18 i19 i20 H locs ls hF hP hD hS hl
          rw [f_X11_run_L130] at hF
          refine lv_iload_n hx hb dX11_run_130 rfl (lv_at hl 0 rfl) ?_
          refine lv_iload_n hx hb dX11_run_131 rfl (lv_at hl 1 rfl) ?_
          refine lv_icmp_ge (tgt := 174) hx hb dX11_run_132 (by decide) (fun c132 => ?_) (fun c132 => ?_)
          · have hF := q_brp c132 hF
            refine lv_aload_n hx hb dX11_run_174 rfl (lv_at hl 2 rfl) ?_
            refine lv_aload_n hx hb dX11_run_175 rfl (lv_at hl 2 rfl) ?_
            refine lv_iload_n hx hb dX11_run_176 rfl (lv_at hl 1 rfl) ?_
            obtain ⟨q25, hq25, hF⟩ := q_bdi hF
            refine cl_i (Lc := [w_Model E a o ((i19, q17, x.1.2.2.1, x.1.2.2.2.1, x.1.2.2.2.2), (x.2.1.1, x.2.1.2.1, 0, x.2.1.2.2.2.1, x.2.1.2.2.2.2), (x.2.2.1.1, x.2.2.1.2.1, x.2.2.1.2.2.1, x.2.2.1.2.2.2), (i20, y7, j15, y9))]) (Lc' := [w_Model E a o ((i19, q17, x.1.2.2.1, x.1.2.2.2.1, x.1.2.2.2.2), (x.2.1.1, x.2.1.2.1, 0, x.2.1.2.2.2.1, x.2.1.2.2.2.2), (x.2.2.1.1, x.2.2.1.2.1, x.2.2.1.2.2.1, x.2.2.1.2.2.2), (q25.2, y7, j15, y9))]) (L' := [w_Model E a o ((i19, q17, x.1.2.2.1, x.1.2.2.2.1, x.1.2.2.2.2), (x.2.1.1, x.2.1.2.1, 0, x.2.1.2.2.2.1, x.2.1.2.2.2.2), (x.2.2.1.1, x.2.2.1.2.1, x.2.2.1.2.2.1, x.2.2.1.2.2.2), (q25.2, y7, j15, y9))]) (rv := q25.1) (va_runV (As := [.int y6]) (rest := [.ref (a o)]) ⟨hx, hb, hml, hown, ha⟩ (k_X11_done l E a o ((i19, q17, x.1.2.2.1, x.1.2.2.2.1, x.1.2.2.2.2), (x.2.1.1, x.2.1.2.1, 0, x.2.1.2.2.2.1, x.2.1.2.2.2.2), (x.2.2.1.1, x.2.2.1.2.1, x.2.2.1.2.2.1, x.2.2.1.2.2.2), (i20, y7, j15, y9)) y6 q25 hq25 H.size) (cwV 1 ha (gi_V (fun _ h => h) mw1720 mw1722 mw30 mw87 mw1723) rfl rfl rfl hv_X11_done ⟨(Nat.le_of_ble_eq_true rfl), (Nat.le_of_ble_eq_true rfl)⟩) ⟨pre_blind, va_recv hst.k (fr_P hP [0] rfl) (ci := 13) (q0 := 0) rfl rfl, pre_at hP hD hS hz hzs hst [0] (by decide) rfl rfl⟩ rfl rfl hl.1 rfl (lv_room (Nat.le_of_ble_eq_true rfl)) dX11_run_177 ⟨(Nat.le_of_ble_eq_true rfl), (Nat.le_of_ble_eq_true rfl)⟩) hP hD hS hA [0] (by decide) rfl rfl rfl rfl (fun H locs hP hD hS => ?_)
            obtain ⟨q26, hq26, hF⟩ := q_bdi hF
            refine cl_i (Lc := [w_Model E a o ((i19, q17, x.1.2.2.1, x.1.2.2.2.1, x.1.2.2.2.2), (x.2.1.1, x.2.1.2.1, 0, x.2.1.2.2.2.1, x.2.1.2.2.2.2), (x.2.2.1.1, x.2.2.1.2.1, x.2.2.1.2.2.1, x.2.2.1.2.2.2), (q25.2, y7, j15, y9))]) (Lc' := [w_Model E a o ((q26.2.1, q17, q26.2.2.1, q26.2.2.2, x.1.2.2.2.2), (x.2.1.1, x.2.1.2.1, 0, x.2.1.2.2.2.1, x.2.1.2.2.2.2), (x.2.2.1.1, x.2.2.1.2.1, x.2.2.1.2.2.1, x.2.2.1.2.2.2), (q25.2, y7, j15, y9))]) (L' := [w_Model E a o ((q26.2.1, q17, q26.2.2.1, q26.2.2.2, x.1.2.2.2.2), (x.2.1.1, x.2.1.2.1, 0, x.2.1.2.2.2.1, x.2.1.2.2.2.2), (x.2.2.1.1, x.2.2.1.2.1, x.2.2.1.2.2.1, x.2.2.1.2.2.2), (q25.2, y7, j15, y9))]) (rv := q26.1) (va_runV (As := [.int q25.1]) (rest := []) ⟨hx, hb, hml, hown, ha⟩ (k_X11_kept l E a o ((i19, q17, x.1.2.2.1, x.1.2.2.2.1, x.1.2.2.2.2), (x.2.1.1, x.2.1.2.1, 0, x.2.1.2.2.2.1, x.2.1.2.2.2.2), (x.2.2.1.1, x.2.2.1.2.1, x.2.2.1.2.2.1, x.2.2.1.2.2.2), (q25.2, y7, j15, y9)) q25.1 q26 hq26 H.size) (cwV 1 ha (gi_V (fun _ h => h) mw1724 mw1726 mw31 mw87 mw1727) rfl rfl rfl hv_X11_kept ⟨(Nat.le_of_ble_eq_true rfl), (Nat.le_of_ble_eq_true rfl)⟩) ⟨pre_blind, va_recv hst.k (fr_P hP [0] rfl) (ci := 13) (q0 := 0) rfl rfl, pre_at hP hD hS hz hzs hst [0] (by decide) rfl rfl⟩ rfl rfl hl.1 rfl (lv_room (Nat.le_of_ble_eq_true rfl)) dX11_run_180 ⟨(Nat.le_of_ble_eq_true rfl), (Nat.le_of_ble_eq_true rfl)⟩) hP hD hS hA [0] (by decide) rfl rfl rfl rfl (fun H locs hP hD hS => ?_)
            obtain rfl := Option.some.inj hF
            exact en_i hQ (Nat.le_of_ble_eq_true rfl) (Nat.le_of_ble_eq_true rfl) hx hb hr hlocks hP hD hS rfl dX11_run_183
          · have hF := q_brn c132 hF
            refine lv_aload_n hx hb dX11_run_135 rfl (lv_at hl 2 rfl) ?_
            refine lv_iconst (v := 3) hx hb dX11_run_136 (by decide) ?_
            refine lv_iload_n hx hb dX11_run_137 rfl (lv_at hl 0 rfl) ?_
            refine lv_imul hx hb dX11_run_138 ?_
            obtain ⟨q27, hq27, hF⟩ := q_bdi hF
            refine cl_i (Lc := [w_Model E a o ((i19, q17, x.1.2.2.1, x.1.2.2.2.1, x.1.2.2.2.2), (x.2.1.1, x.2.1.2.1, 0, x.2.1.2.2.2.1, x.2.1.2.2.2.2), (x.2.2.1.1, x.2.2.1.2.1, x.2.2.1.2.2.1, x.2.2.1.2.2.2), (i20, y7, j15, y9))]) (Lc' := [w_Model E a o ((q27.2.1, q17, x.1.2.2.1, x.1.2.2.2.1, x.1.2.2.2.2), (x.2.1.1, x.2.1.2.1, 0, x.2.1.2.2.2.1, x.2.1.2.2.2.2), (x.2.2.1.1, x.2.2.1.2.1, x.2.2.1.2.2.1, x.2.2.1.2.2.2), (q27.2.2, y7, j15, y9))]) (L' := [w_Model E a o ((q27.2.1, q17, x.1.2.2.1, x.1.2.2.2.1, x.1.2.2.2.2), (x.2.1.1, x.2.1.2.1, 0, x.2.1.2.2.2.1, x.2.1.2.2.2.2), (x.2.2.1.1, x.2.2.1.2.1, x.2.2.1.2.2.1, x.2.2.1.2.2.2), (q27.2.2, y7, j15, y9))]) (rv := q27.1) (va_runV (As := [.int (3 * i18)]) (rest := []) ⟨hx, hb, hml, hown, ha⟩ (k_X11_carriesOut l E a o ((i19, q17, x.1.2.2.1, x.1.2.2.2.1, x.1.2.2.2.2), (x.2.1.1, x.2.1.2.1, 0, x.2.1.2.2.2.1, x.2.1.2.2.2.2), (x.2.2.1.1, x.2.2.1.2.1, x.2.2.1.2.2.1, x.2.2.1.2.2.2), (i20, y7, j15, y9)) (3 * i18) q27 hq27 H.size) (cwV 1 ha (gi_V (fun _ h => h) mw2074 mw2076 mw69 mw87 mw2077) rfl rfl rfl hv_X11_carriesOut ⟨(Nat.le_of_ble_eq_true rfl), (Nat.le_of_ble_eq_true rfl)⟩) ⟨pre_blind, va_recv hst.k (fr_P hP [0] rfl) (ci := 13) (q0 := 0) rfl rfl, pre_at hP hD hS hz hzs hst [0] (by decide) rfl rfl⟩ rfl rfl hl.1 rfl (lv_room (Nat.le_of_ble_eq_true rfl)) dX11_run_139 ⟨(Nat.le_of_ble_eq_true rfl), (Nat.le_of_ble_eq_true rfl)⟩) hP hD hS hA [0] (by decide) rfl rfl rfl rfl (fun H locs hP hD hS => ?_)
            refine lv_istore (lv' := [(4, .int q27.1), (3, .int i18), (1, .int y6), (0, .ref (a o))]) hx hb dX11_run_142 hl (by decide) rfl (fun ls hl => ?_)
            refine lv_aload_n hx hb dX11_run_144 rfl (lv_at hl 3 rfl) ?_
            refine va_get (D := E.1) (ci := 13) (v := .int q27.2.2) (C := RX11) (T := TX11) (N := 18) hx hb ha in_X11 hown hst.k hP 0 rfl rfl 14 (by decide) (ha _ mw1650) (fun _ h9 => h9) rfl dX11_run_145 ?_
            refine lv_if_eq (tgt := 168) hx hb dX11_run_148 (by decide) (fun c148 => ?_) (fun c148 => ?_)
            · have hF := q_brp c148 hF
              obtain ⟨v28, ev28⟩ : ∃ y : Int32, y = i18 + 1 := ⟨_, rfl⟩
              have hF := q_lti ev28 hF
              refine lv_iinc (v := v28) (lv' := [(3, .int v28), (4, .int q27.1), (1, .int y6), (0, .ref (a o))]) hx hb dX11_run_168 hl (k := 1) rfl (by rw [ev28]; rfl) (by decide) rfl (fun ls hl => ?_)
              refine lv_goto (tgt := 130) hx hb dX11_run_171 (by decide) ?_
              exact ih130 v28 q27.2.1 q27.2.2 H locs ls hF hP hD hS (lv_sub hl [0, 2, 3] rfl)
            · have hF := q_brn c148 hF
              exact hK130 i18 q27.1 q27.2.1 q27.2.2 H locs ls hF hP hD hS (lv_sub hl [1, 3, 0] rfl)
      refine key130 _ ?_ _ 0 x.1.1 x.2.2.2.1 H locs ls hF hP hD hS (lv_sub hl [0, 1, 2] rfl)
      intro y21 y22 y23 y24 H locs ls hF hP hD hS hl
      refine lv_aload_n hx hb dX11_run_151 rfl (lv_at hl 1 rfl) ?_
      refine lv_iload_n hx hb dX11_run_152 rfl (lv_at hl 0 rfl) ?_
      refine va_put (D := E.1) (ci := 13) (v := .int y21) (ty := .int) (C := RX11) (T := TX11) (N := 18) hx hb ha in_X11 tyX11 tyX11_ok nmX11 hown hst.k hP hD hS 0 rfl rfl 9 (by decide) (ha _ mw1645) (fun _ h9 => h9) rfl (tyX11_ok 9 (by decide)) rfl rfl (Nat.le_of_ble_eq_true rfl) dX11_run_153 (fun H locs hP hD hS => ?_)
      have hP : va_P E.1 vwCl (List.flatten [w_Model E a o ((y23, q17, x.1.2.2.1, x.1.2.2.2.1, x.1.2.2.2.2), (x.2.1.1, x.2.1.2.1, 0, x.2.1.2.2.2.1, y21), (x.2.2.1.1, x.2.2.1.2.1, x.2.2.1.2.2.1, x.2.2.1.2.2.2), (y24, y7, j15, y9))]) H := hP
      have hD : va_D A (List.flatten [w_Model E a o ((y23, q17, x.1.2.2.1, x.1.2.2.2.1, x.1.2.2.2.2), (x.2.1.1, x.2.1.2.1, 0, x.2.1.2.2.2.1, y21), (x.2.2.1.1, x.2.2.1.2.1, x.2.2.1.2.2.1, x.2.2.1.2.2.2), (y24, y7, j15, y9))]) := hD
      refine lv_aload_n hx hb dX11_run_156 rfl (lv_at hl 1 rfl) ?_
      refine lv_iconst (v := 2) hx hb dX11_run_157 (by decide) ?_
      refine va_put (D := E.1) (ci := 13) (v := .int 2) (ty := .int) (C := RX11) (T := TX11) (N := 18) hx hb ha in_X11 tyX11 tyX11_ok nmX11 hown hst.k hP hD hS 0 rfl rfl 14 (by decide) (ha _ mw1650) (fun _ h9 => h9) rfl (tyX11_ok 14 (by decide)) rfl rfl (Nat.le_of_ble_eq_true rfl) dX11_run_158 (fun H locs hP hD hS => ?_)
      have hP : va_P E.1 vwCl (List.flatten [w_Model E a o ((y23, q17, x.1.2.2.1, x.1.2.2.2.1, x.1.2.2.2.2), (x.2.1.1, x.2.1.2.1, 0, x.2.1.2.2.2.1, y21), (x.2.2.1.1, x.2.2.1.2.1, x.2.2.1.2.2.1, x.2.2.1.2.2.2), (2, y7, j15, y9))]) H := hP
      have hD : va_D A (List.flatten [w_Model E a o ((y23, q17, x.1.2.2.1, x.1.2.2.2.1, x.1.2.2.2.2), (x.2.1.1, x.2.1.2.1, 0, x.2.1.2.2.2.1, y21), (x.2.2.1.1, x.2.2.1.2.1, x.2.2.1.2.2.1, x.2.2.1.2.2.2), (2, y7, j15, y9))]) := hD
      refine lv_aload_n hx hb dX11_run_161 rfl (lv_at hl 1 rfl) ?_
      refine lv_iload hx hb dX11_run_162 (lv_at hl 2 rfl) ?_
      obtain ⟨q29, hq29, hF⟩ := q_bdi hF
      refine cl_i (Lc := [w_Model E a o ((y23, q17, x.1.2.2.1, x.1.2.2.2.1, x.1.2.2.2.2), (x.2.1.1, x.2.1.2.1, 0, x.2.1.2.2.2.1, y21), (x.2.2.1.1, x.2.2.1.2.1, x.2.2.1.2.2.1, x.2.2.1.2.2.2), (2, y7, j15, y9))]) (Lc' := [w_Model E a o ((q29.2.1, q17, q29.2.2.1, q29.2.2.2, x.1.2.2.2.2), (x.2.1.1, x.2.1.2.1, 0, x.2.1.2.2.2.1, y21), (x.2.2.1.1, x.2.2.1.2.1, x.2.2.1.2.2.1, x.2.2.1.2.2.2), (2, y7, j15, y9))]) (L' := [w_Model E a o ((q29.2.1, q17, q29.2.2.1, q29.2.2.2, x.1.2.2.2.2), (x.2.1.1, x.2.1.2.1, 0, x.2.1.2.2.2.1, y21), (x.2.2.1.1, x.2.2.1.2.1, x.2.2.1.2.2.1, x.2.2.1.2.2.2), (2, y7, j15, y9))]) (rv := q29.1) (va_runV (As := [.int y22]) (rest := []) ⟨hx, hb, hml, hown, ha⟩ (k_X11_kept l E a o ((y23, q17, x.1.2.2.1, x.1.2.2.2.1, x.1.2.2.2.2), (x.2.1.1, x.2.1.2.1, 0, x.2.1.2.2.2.1, y21), (x.2.2.1.1, x.2.2.1.2.1, x.2.2.1.2.2.1, x.2.2.1.2.2.2), (2, y7, j15, y9)) y22 q29 hq29 H.size) (cwV 1 ha (gi_V (fun _ h => h) mw1724 mw1726 mw31 mw87 mw1727) rfl rfl rfl hv_X11_kept ⟨(Nat.le_of_ble_eq_true rfl), (Nat.le_of_ble_eq_true rfl)⟩) ⟨pre_blind, va_recv hst.k (fr_P hP [0] rfl) (ci := 13) (q0 := 0) rfl rfl, pre_at hP hD hS hz hzs hst [0] (by decide) rfl rfl⟩ rfl rfl hl.1 rfl (lv_room (Nat.le_of_ble_eq_true rfl)) dX11_run_164 ⟨(Nat.le_of_ble_eq_true rfl), (Nat.le_of_ble_eq_true rfl)⟩) hP hD hS hA [0] (by decide) rfl rfl rfl rfl (fun H locs hP hD hS => ?_)
      obtain rfl := Option.some.inj hF
      exact en_i hQ (Nat.le_of_ble_eq_true rfl) (Nat.le_of_ble_eq_true rfl) hx hb hr hlocks hP hD hS rfl dX11_run_167
    · have hF := q_brn c107 hF
      refine lv_aload_n hx hb dX11_run_110 rfl (lv_at hl 1 rfl) ?_
      refine lv_aload_n hx hb dX11_run_111 rfl (lv_at hl 1 rfl) ?_
      refine va_get (D := E.1) (ci := 13) (v := .int y7) (C := RX11) (T := TX11) (N := 18) hx hb ha in_X11 hown hst.k hP 0 rfl rfl 15 (by decide) (ha _ mw1651) (fun _ h9 => h9) rfl dX11_run_112 ?_
      refine va_put (D := E.1) (ci := 13) (v := .int y7) (ty := .int) (C := RX11) (T := TX11) (N := 18) hx hb ha in_X11 tyX11 tyX11_ok nmX11 hown hst.k hP hD hS 0 rfl rfl 8 (by decide) (ha _ mw1644) (fun _ h9 => h9) rfl (tyX11_ok 8 (by decide)) rfl rfl (Nat.le_of_ble_eq_true rfl) dX11_run_115 (fun H locs hP hD hS => ?_)
      have hP : va_P E.1 vwCl (List.flatten [w_Model E a o ((x.1.1, x.1.2.1, x.1.2.2.1, x.1.2.2.2.1, x.1.2.2.2.2), (x.2.1.1, x.2.1.2.1, 0, y7, x.2.1.2.2.2.2), (x.2.2.1.1, x.2.2.1.2.1, x.2.2.1.2.2.1, x.2.2.1.2.2.2), (x.2.2.2.1, y7, j15, y9))]) H := hP
      have hD : va_D A (List.flatten [w_Model E a o ((x.1.1, x.1.2.1, x.1.2.2.1, x.1.2.2.2.1, x.1.2.2.2.2), (x.2.1.1, x.2.1.2.1, 0, y7, x.2.1.2.2.2.2), (x.2.2.1.1, x.2.2.1.2.1, x.2.2.1.2.2.1, x.2.2.1.2.2.2), (x.2.2.2.1, y7, j15, y9))]) := hD
      refine lv_aload_n hx hb dX11_run_118 rfl (lv_at hl 1 rfl) ?_
      refine lv_iconst (v := 1) hx hb dX11_run_119 (by decide) ?_
      obtain ⟨q30, hq30, hF⟩ := q_bdi hF
      refine cl_i (Lc := [w_Model E a o ((x.1.1, x.1.2.1, x.1.2.2.1, x.1.2.2.2.1, x.1.2.2.2.2), (x.2.1.1, x.2.1.2.1, 0, y7, x.2.1.2.2.2.2), (x.2.2.1.1, x.2.2.1.2.1, x.2.2.1.2.2.1, x.2.2.1.2.2.2), (x.2.2.2.1, y7, j15, y9))]) (Lc' := [w_Model E a o ((x.1.1, x.1.2.1, x.1.2.2.1, x.1.2.2.2.1, x.1.2.2.2.2), (x.2.1.1, x.2.1.2.1, 0, y7, x.2.1.2.2.2.2), (x.2.2.1.1, x.2.2.1.2.1, x.2.2.1.2.2.1, x.2.2.1.2.2.2), (q30.2, y7, j15, y9))]) (L' := [w_Model E a o ((x.1.1, x.1.2.1, x.1.2.2.1, x.1.2.2.2.1, x.1.2.2.2.2), (x.2.1.1, x.2.1.2.1, 0, y7, x.2.1.2.2.2.2), (x.2.2.1.1, x.2.2.1.2.1, x.2.2.1.2.2.1, x.2.2.1.2.2.2), (q30.2, y7, j15, y9))]) (rv := q30.1) (va_runV (As := [.int 1]) (rest := []) ⟨hx, hb, hml, hown, ha⟩ (k_X11_fails l E a o ((x.1.1, x.1.2.1, x.1.2.2.1, x.1.2.2.2.1, x.1.2.2.2.2), (x.2.1.1, x.2.1.2.1, 0, y7, x.2.1.2.2.2.2), (x.2.2.1.1, x.2.2.1.2.1, x.2.2.1.2.2.1, x.2.2.1.2.2.2), (x.2.2.2.1, y7, j15, y9)) 1 q30 hq30 H.size) (cwV 1 ha (gi_V (fun _ h => h) mw1716 mw1718 mw29 mw87 mw1719) rfl rfl rfl hv_X11_fails ⟨(Nat.le_of_ble_eq_true rfl), (Nat.le_of_ble_eq_true rfl)⟩) ⟨pre_blind, va_recv hst.k (fr_P hP [0] rfl) (ci := 13) (q0 := 0) rfl rfl, pre_at hP hD hS hz hzs hst [0] (by decide) rfl rfl⟩ rfl rfl hl.1 rfl (lv_room (Nat.le_of_ble_eq_true rfl)) dX11_run_120 ⟨(Nat.le_of_ble_eq_true rfl), (Nat.le_of_ble_eq_true rfl)⟩) hP hD hS hA [0] (by decide) rfl rfl rfl rfl (fun H locs hP hD hS => ?_)
      obtain rfl := Option.some.inj hF
      exact en_i hQ (Nat.le_of_ble_eq_true rfl) (Nat.le_of_ble_eq_true rfl) hx hb hr hlocks hP hD hS rfl dX11_run_123
  refine lv_if_ne (tgt := 90) hx hb dX11_run_76 (by decide) (fun c76 => ?_) (fun c76 => ?_)
  · have hF := q_brn c76 hF
    refine lv_iconst (v := 1) hx hb dX11_run_90 (by decide) ?_
    refine lv_goto (tgt := 95) hx hb dX11_run_91 (by decide) ?_
    exact jJ95 1 H locs ls hF hP hD hS (lv_sub hl [0, 1] rfl)
  · have hF := q_brp c76 hF
    refine lv_aload_n hx hb dX11_run_79 rfl (lv_at hl 1 rfl) ?_
    refine va_get (D := E.1) (ci := 13) (v := .int y7) (C := RX11) (T := TX11) (N := 18) hx hb ha in_X11 hown hst.k hP 0 rfl rfl 15 (by decide) (ha _ mw1651) (fun _ h9 => h9) rfl dX11_run_80 ?_
    refine lv_aload_n hx hb dX11_run_83 rfl (lv_at hl 1 rfl) ?_
    refine va_get (D := E.1) (ci := 13) (v := .int x.2.1.2.2.1) (C := RX11) (T := TX11) (N := 18) hx hb ha in_X11 hown hst.k hP 0 rfl rfl 7 (by decide) (ha _ mw1643) (fun _ h9 => h9) rfl dX11_run_84 ?_
    refine lv_icmp_ge (tgt := 94) hx hb dX11_run_87 (by decide) (fun c87 => ?_) (fun c87 => ?_)
    · have hF := q_brp c87 hF
      refine lv_iconst (v := 0) hx hb dX11_run_94 (by decide) ?_
      exact jJ95 0 H locs ls hF hP hD hS (lv_sub hl [0, 1] rfl)
    · have hF := q_brn c87 hF
      refine lv_iconst (v := 1) hx hb dX11_run_90 (by decide) ?_
      refine lv_goto (tgt := 95) hx hb dX11_run_91 (by decide) ?_
      exact jJ95 1 H locs ls hF hP hD hS (lv_sub hl [0, 1] rfl)

/-! X11_errorPosition -/
theorem dX11_errorPosition_0 : decode cX11_errorPosition 0 = .ok (.aload_n 0, 1) := by decide +kernel
theorem dX11_errorPosition_1 : decode cX11_errorPosition 1 = .ok (.getfield 26, 3) := by decide +kernel
theorem dX11_errorPosition_4 : decode cX11_errorPosition 4 = .ok (.iconst (-1), 1) := by decide +kernel
theorem dX11_errorPosition_5 : decode cX11_errorPosition 5 = .ok (.if_icmp .ne 11, 3) := by decide +kernel
theorem dX11_errorPosition_8 : decode cX11_errorPosition 8 = .ok (.aload_n 0, 1) := by decide +kernel
theorem dX11_errorPosition_9 : decode cX11_errorPosition 9 = .ok (.iconst 1, 1) := by decide +kernel
theorem dX11_errorPosition_10 : decode cX11_errorPosition 10 = .ok (.invokevirtual 80, 3) := by decide +kernel
theorem dX11_errorPosition_13 : decode cX11_errorPosition 13 = .ok (.goto 11, 3) := by decide +kernel
theorem dX11_errorPosition_16 : decode cX11_errorPosition 16 = .ok (.aload_n 0, 1) := by decide +kernel
theorem dX11_errorPosition_17 : decode cX11_errorPosition 17 = .ok (.aload_n 0, 1) := by decide +kernel
theorem dX11_errorPosition_18 : decode cX11_errorPosition 18 = .ok (.getfield 26, 3) := by decide +kernel
theorem dX11_errorPosition_21 : decode cX11_errorPosition 21 = .ok (.invokevirtual 83, 3) := by decide +kernel
theorem dX11_errorPosition_24 : decode cX11_errorPosition 24 = .ok (.ireturn, 1) := by decide +kernel
def f_X11_errorPosition (x_errorAt : Int32) (x_thrown : Int32) : Option (Int32 × Int32) :=
  q_br (x_errorAt = (-1)) (
  q_bd (f_X11_fails x_thrown 1) (fun q2 =>
  some (q2.1, q2.2))) (
  q_bd (f_X11_done x_thrown x_errorAt) (fun q1 =>
  some (q1.1, q1.2)))
theorem hv_X11_errorPosition : yX11_errorPosition.cls = RX11 ∧ yX11_errorPosition.cls ≠ "java/lang/invoke/MethodHandle" ∧ yX11_errorPosition.cls ≠ "java/lang/invoke/VarHandle" ∧ (parseMethodDescriptor yX11_errorPosition.desc).map (fun d => d.parameters.length) = some 0 := by decide +kernel
abbrev rm_X11_errorPosition : Room := { frames := 1, cells := 0, slots := 0, locals := 21 }
set_option maxHeartbeats 4000000 in
set_option maxRecDepth 100000 in
theorem k_X11_errorPosition (l : Launch) (E : ET) (a : Nat → Nat) (o : Nat) (x : Model_t) (res : Int32 × Int32) (hF : f_X11_errorPosition x.2.1.2.2.2.1 x.2.2.2.1 = some res) (sz : Nat) : CtI l yX11_errorPosition (mws yX11_errorPosition cX11_errorPosition 1 (some .int)) rm_X11_errorPosition 0 0 [.ref (a o)] E (bl_Model E a o x) res.1 (bl_Model E a o ((x.1.1, x.1.2.1, x.1.2.2.1, x.1.2.2.2.1, x.1.2.2.2.2), (x.2.1.1, x.2.1.2.1, x.2.1.2.2.1, x.2.1.2.2.2.1, x.2.1.2.2.2.2), (x.2.2.1.1, x.2.2.1.2.1, x.2.2.1.2.2.1, x.2.2.1.2.2.2), (res.2, x.2.2.2.2.1, x.2.2.2.2.2.1, x.2.2.2.2.2.2))) sz := by
  refine mk_M (by decide +kernel) (Nat.le_of_ble_eq_true rfl) ?_
  intro p e s m below meth c A args Q ls hAe hsz hQ hx hb hr hml hin ha hown hlocks hA hz hzs hst hP hD hS hl
  have hown : s.vm.findClass RX11 = some m.cls := hown
  rw [hAe] at hQ
  subst hsz
  have hP : va_P E.1 vwCl (List.flatten [w_Model E a o x]) s.heap := hP
  have hD : va_D A (List.flatten [w_Model E a o x]) := hD
  have hl : lv_has ls 1 [(0, .ref (a o))] := hl
  generalize hHe : s.heap = H at hP
  have hS : va_S A s.heap H [] := by rw [← hHe]; exact hS
  generalize ([] : List Loc) = locs at hS ⊢
  unfold f_X11_errorPosition at hF
  refine lv_aload_n hx hb dX11_errorPosition_0 rfl (lv_at hl 0 rfl) ?_
  refine va_get (D := E.1) (ci := 13) (v := .int x.2.1.2.2.2.1) (C := RX11) (T := TX11) (N := 18) hx hb ha in_X11 hown hst.k hP 0 rfl rfl 8 (by decide) (ha _ mw1644) (fun _ h9 => h9) rfl dX11_errorPosition_1 ?_
  refine lv_iconst (v := (-1)) hx hb dX11_errorPosition_4 (by decide) ?_
  refine lv_icmp_ne (tgt := 16) hx hb dX11_errorPosition_5 (by decide) (fun c5 => ?_) (fun c5 => ?_)
  · have hF := q_brn c5 hF
    refine lv_aload_n hx hb dX11_errorPosition_16 rfl (lv_at hl 0 rfl) ?_
    refine lv_aload_n hx hb dX11_errorPosition_17 rfl (lv_at hl 0 rfl) ?_
    refine va_get (D := E.1) (ci := 13) (v := .int x.2.1.2.2.2.1) (C := RX11) (T := TX11) (N := 18) hx hb ha in_X11 hown hst.k hP 0 rfl rfl 8 (by decide) (ha _ mw1644) (fun _ h9 => h9) rfl dX11_errorPosition_18 ?_
    obtain ⟨q1, hq1, hF⟩ := q_bdi hF
    refine cl_i (Lc := [w_Model E a o x]) (Lc' := [w_Model E a o ((x.1.1, x.1.2.1, x.1.2.2.1, x.1.2.2.2.1, x.1.2.2.2.2), (x.2.1.1, x.2.1.2.1, x.2.1.2.2.1, x.2.1.2.2.2.1, x.2.1.2.2.2.2), (x.2.2.1.1, x.2.2.1.2.1, x.2.2.1.2.2.1, x.2.2.1.2.2.2), (q1.2, x.2.2.2.2.1, x.2.2.2.2.2.1, x.2.2.2.2.2.2))]) (L' := [w_Model E a o ((x.1.1, x.1.2.1, x.1.2.2.1, x.1.2.2.2.1, x.1.2.2.2.2), (x.2.1.1, x.2.1.2.1, x.2.1.2.2.1, x.2.1.2.2.2.1, x.2.1.2.2.2.2), (x.2.2.1.1, x.2.2.1.2.1, x.2.2.1.2.2.1, x.2.2.1.2.2.2), (q1.2, x.2.2.2.2.1, x.2.2.2.2.2.1, x.2.2.2.2.2.2))]) (rv := q1.1) (va_runV (As := [.int x.2.1.2.2.2.1]) (rest := []) ⟨hx, hb, hml, hown, ha⟩ (k_X11_done l E a o x x.2.1.2.2.2.1 q1 hq1 H.size) (cwV 1 ha (gi_V (fun _ h => h) mw1720 mw1722 mw30 mw87 mw1723) rfl rfl rfl hv_X11_done ⟨(Nat.le_of_ble_eq_true rfl), (Nat.le_of_ble_eq_true rfl)⟩) ⟨pre_blind, va_recv hst.k (fr_P hP [0] rfl) (ci := 13) (q0 := 0) rfl rfl, pre_at hP hD hS hz hzs hst [0] (by decide) rfl rfl⟩ rfl rfl hl.1 rfl (lv_room (Nat.le_of_ble_eq_true rfl)) dX11_errorPosition_21 ⟨(Nat.le_of_ble_eq_true rfl), (Nat.le_of_ble_eq_true rfl)⟩) hP hD hS hA [0] (by decide) rfl rfl rfl rfl (fun H locs hP hD hS => ?_)
    obtain rfl := Option.some.inj hF
    exact en_i hQ (Nat.le_of_ble_eq_true rfl) (Nat.le_of_ble_eq_true rfl) hx hb hr hlocks hP hD hS rfl dX11_errorPosition_24
  · have hF := q_brp c5 hF
    refine lv_aload_n hx hb dX11_errorPosition_8 rfl (lv_at hl 0 rfl) ?_
    refine lv_iconst (v := 1) hx hb dX11_errorPosition_9 (by decide) ?_
    obtain ⟨q2, hq2, hF⟩ := q_bdi hF
    refine cl_i (Lc := [w_Model E a o x]) (Lc' := [w_Model E a o ((x.1.1, x.1.2.1, x.1.2.2.1, x.1.2.2.2.1, x.1.2.2.2.2), (x.2.1.1, x.2.1.2.1, x.2.1.2.2.1, x.2.1.2.2.2.1, x.2.1.2.2.2.2), (x.2.2.1.1, x.2.2.1.2.1, x.2.2.1.2.2.1, x.2.2.1.2.2.2), (q2.2, x.2.2.2.2.1, x.2.2.2.2.2.1, x.2.2.2.2.2.2))]) (L' := [w_Model E a o ((x.1.1, x.1.2.1, x.1.2.2.1, x.1.2.2.2.1, x.1.2.2.2.2), (x.2.1.1, x.2.1.2.1, x.2.1.2.2.1, x.2.1.2.2.2.1, x.2.1.2.2.2.2), (x.2.2.1.1, x.2.2.1.2.1, x.2.2.1.2.2.1, x.2.2.1.2.2.2), (q2.2, x.2.2.2.2.1, x.2.2.2.2.2.1, x.2.2.2.2.2.2))]) (rv := q2.1) (va_runV (As := [.int 1]) (rest := []) ⟨hx, hb, hml, hown, ha⟩ (k_X11_fails l E a o x 1 q2 hq2 H.size) (cwV 1 ha (gi_V (fun _ h => h) mw1716 mw1718 mw29 mw87 mw1719) rfl rfl rfl hv_X11_fails ⟨(Nat.le_of_ble_eq_true rfl), (Nat.le_of_ble_eq_true rfl)⟩) ⟨pre_blind, va_recv hst.k (fr_P hP [0] rfl) (ci := 13) (q0 := 0) rfl rfl, pre_at hP hD hS hz hzs hst [0] (by decide) rfl rfl⟩ rfl rfl hl.1 rfl (lv_room (Nat.le_of_ble_eq_true rfl)) dX11_errorPosition_10 ⟨(Nat.le_of_ble_eq_true rfl), (Nat.le_of_ble_eq_true rfl)⟩) hP hD hS hA [0] (by decide) rfl rfl rfl rfl (fun H locs hP hD hS => ?_)
    refine lv_goto (tgt := 24) hx hb dX11_errorPosition_13 (by decide) ?_
    obtain rfl := Option.some.inj hF
    exact en_i hQ (Nat.le_of_ble_eq_true rfl) (Nat.le_of_ble_eq_true rfl) hx hb hr hlocks hP hD hS rfl dX11_errorPosition_24

/-! X11_failedCommand -/
theorem dX11_failedCommand_0 : decode cX11_failedCommand 0 = .ok (.aload_n 0, 1) := by decide +kernel
theorem dX11_failedCommand_1 : decode cX11_failedCommand 1 = .ok (.getfield 30, 3) := by decide +kernel
theorem dX11_failedCommand_4 : decode cX11_failedCommand 4 = .ok (.iconst (-1), 1) := by decide +kernel
theorem dX11_failedCommand_5 : decode cX11_failedCommand 5 = .ok (.if_icmp .ne 11, 3) := by decide +kernel
theorem dX11_failedCommand_8 : decode cX11_failedCommand 8 = .ok (.aload_n 0, 1) := by decide +kernel
theorem dX11_failedCommand_9 : decode cX11_failedCommand 9 = .ok (.iconst 1, 1) := by decide +kernel
theorem dX11_failedCommand_10 : decode cX11_failedCommand 10 = .ok (.invokevirtual 80, 3) := by decide +kernel
theorem dX11_failedCommand_13 : decode cX11_failedCommand 13 = .ok (.goto 11, 3) := by decide +kernel
theorem dX11_failedCommand_16 : decode cX11_failedCommand 16 = .ok (.aload_n 0, 1) := by decide +kernel
theorem dX11_failedCommand_17 : decode cX11_failedCommand 17 = .ok (.aload_n 0, 1) := by decide +kernel
theorem dX11_failedCommand_18 : decode cX11_failedCommand 18 = .ok (.getfield 30, 3) := by decide +kernel
theorem dX11_failedCommand_21 : decode cX11_failedCommand 21 = .ok (.invokevirtual 83, 3) := by decide +kernel
theorem dX11_failedCommand_24 : decode cX11_failedCommand 24 = .ok (.ireturn, 1) := by decide +kernel
def f_X11_failedCommand (x_failedAt : Int32) (x_thrown : Int32) : Option (Int32 × Int32) :=
  q_br (x_failedAt = (-1)) (
  q_bd (f_X11_fails x_thrown 1) (fun q2 =>
  some (q2.1, q2.2))) (
  q_bd (f_X11_done x_thrown x_failedAt) (fun q1 =>
  some (q1.1, q1.2)))
theorem hv_X11_failedCommand : yX11_failedCommand.cls = RX11 ∧ yX11_failedCommand.cls ≠ "java/lang/invoke/MethodHandle" ∧ yX11_failedCommand.cls ≠ "java/lang/invoke/VarHandle" ∧ (parseMethodDescriptor yX11_failedCommand.desc).map (fun d => d.parameters.length) = some 0 := by decide +kernel
abbrev rm_X11_failedCommand : Room := { frames := 1, cells := 0, slots := 0, locals := 21 }
set_option maxHeartbeats 4000000 in
set_option maxRecDepth 100000 in
theorem k_X11_failedCommand (l : Launch) (E : ET) (a : Nat → Nat) (o : Nat) (x : Model_t) (res : Int32 × Int32) (hF : f_X11_failedCommand x.2.1.2.2.2.2 x.2.2.2.1 = some res) (sz : Nat) : CtI l yX11_failedCommand (mws yX11_failedCommand cX11_failedCommand 1 (some .int)) rm_X11_failedCommand 0 0 [.ref (a o)] E (bl_Model E a o x) res.1 (bl_Model E a o ((x.1.1, x.1.2.1, x.1.2.2.1, x.1.2.2.2.1, x.1.2.2.2.2), (x.2.1.1, x.2.1.2.1, x.2.1.2.2.1, x.2.1.2.2.2.1, x.2.1.2.2.2.2), (x.2.2.1.1, x.2.2.1.2.1, x.2.2.1.2.2.1, x.2.2.1.2.2.2), (res.2, x.2.2.2.2.1, x.2.2.2.2.2.1, x.2.2.2.2.2.2))) sz := by
  refine mk_M (by decide +kernel) (Nat.le_of_ble_eq_true rfl) ?_
  intro p e s m below meth c A args Q ls hAe hsz hQ hx hb hr hml hin ha hown hlocks hA hz hzs hst hP hD hS hl
  have hown : s.vm.findClass RX11 = some m.cls := hown
  rw [hAe] at hQ
  subst hsz
  have hP : va_P E.1 vwCl (List.flatten [w_Model E a o x]) s.heap := hP
  have hD : va_D A (List.flatten [w_Model E a o x]) := hD
  have hl : lv_has ls 1 [(0, .ref (a o))] := hl
  generalize hHe : s.heap = H at hP
  have hS : va_S A s.heap H [] := by rw [← hHe]; exact hS
  generalize ([] : List Loc) = locs at hS ⊢
  unfold f_X11_failedCommand at hF
  refine lv_aload_n hx hb dX11_failedCommand_0 rfl (lv_at hl 0 rfl) ?_
  refine va_get (D := E.1) (ci := 13) (v := .int x.2.1.2.2.2.2) (C := RX11) (T := TX11) (N := 18) hx hb ha in_X11 hown hst.k hP 0 rfl rfl 9 (by decide) (ha _ mw1645) (fun _ h9 => h9) rfl dX11_failedCommand_1 ?_
  refine lv_iconst (v := (-1)) hx hb dX11_failedCommand_4 (by decide) ?_
  refine lv_icmp_ne (tgt := 16) hx hb dX11_failedCommand_5 (by decide) (fun c5 => ?_) (fun c5 => ?_)
  · have hF := q_brn c5 hF
    refine lv_aload_n hx hb dX11_failedCommand_16 rfl (lv_at hl 0 rfl) ?_
    refine lv_aload_n hx hb dX11_failedCommand_17 rfl (lv_at hl 0 rfl) ?_
    refine va_get (D := E.1) (ci := 13) (v := .int x.2.1.2.2.2.2) (C := RX11) (T := TX11) (N := 18) hx hb ha in_X11 hown hst.k hP 0 rfl rfl 9 (by decide) (ha _ mw1645) (fun _ h9 => h9) rfl dX11_failedCommand_18 ?_
    obtain ⟨q1, hq1, hF⟩ := q_bdi hF
    refine cl_i (Lc := [w_Model E a o x]) (Lc' := [w_Model E a o ((x.1.1, x.1.2.1, x.1.2.2.1, x.1.2.2.2.1, x.1.2.2.2.2), (x.2.1.1, x.2.1.2.1, x.2.1.2.2.1, x.2.1.2.2.2.1, x.2.1.2.2.2.2), (x.2.2.1.1, x.2.2.1.2.1, x.2.2.1.2.2.1, x.2.2.1.2.2.2), (q1.2, x.2.2.2.2.1, x.2.2.2.2.2.1, x.2.2.2.2.2.2))]) (L' := [w_Model E a o ((x.1.1, x.1.2.1, x.1.2.2.1, x.1.2.2.2.1, x.1.2.2.2.2), (x.2.1.1, x.2.1.2.1, x.2.1.2.2.1, x.2.1.2.2.2.1, x.2.1.2.2.2.2), (x.2.2.1.1, x.2.2.1.2.1, x.2.2.1.2.2.1, x.2.2.1.2.2.2), (q1.2, x.2.2.2.2.1, x.2.2.2.2.2.1, x.2.2.2.2.2.2))]) (rv := q1.1) (va_runV (As := [.int x.2.1.2.2.2.2]) (rest := []) ⟨hx, hb, hml, hown, ha⟩ (k_X11_done l E a o x x.2.1.2.2.2.2 q1 hq1 H.size) (cwV 1 ha (gi_V (fun _ h => h) mw1720 mw1722 mw30 mw87 mw1723) rfl rfl rfl hv_X11_done ⟨(Nat.le_of_ble_eq_true rfl), (Nat.le_of_ble_eq_true rfl)⟩) ⟨pre_blind, va_recv hst.k (fr_P hP [0] rfl) (ci := 13) (q0 := 0) rfl rfl, pre_at hP hD hS hz hzs hst [0] (by decide) rfl rfl⟩ rfl rfl hl.1 rfl (lv_room (Nat.le_of_ble_eq_true rfl)) dX11_failedCommand_21 ⟨(Nat.le_of_ble_eq_true rfl), (Nat.le_of_ble_eq_true rfl)⟩) hP hD hS hA [0] (by decide) rfl rfl rfl rfl (fun H locs hP hD hS => ?_)
    obtain rfl := Option.some.inj hF
    exact en_i hQ (Nat.le_of_ble_eq_true rfl) (Nat.le_of_ble_eq_true rfl) hx hb hr hlocks hP hD hS rfl dX11_failedCommand_24
  · have hF := q_brp c5 hF
    refine lv_aload_n hx hb dX11_failedCommand_8 rfl (lv_at hl 0 rfl) ?_
    refine lv_iconst (v := 1) hx hb dX11_failedCommand_9 (by decide) ?_
    obtain ⟨q2, hq2, hF⟩ := q_bdi hF
    refine cl_i (Lc := [w_Model E a o x]) (Lc' := [w_Model E a o ((x.1.1, x.1.2.1, x.1.2.2.1, x.1.2.2.2.1, x.1.2.2.2.2), (x.2.1.1, x.2.1.2.1, x.2.1.2.2.1, x.2.1.2.2.2.1, x.2.1.2.2.2.2), (x.2.2.1.1, x.2.2.1.2.1, x.2.2.1.2.2.1, x.2.2.1.2.2.2), (q2.2, x.2.2.2.2.1, x.2.2.2.2.2.1, x.2.2.2.2.2.2))]) (L' := [w_Model E a o ((x.1.1, x.1.2.1, x.1.2.2.1, x.1.2.2.2.1, x.1.2.2.2.2), (x.2.1.1, x.2.1.2.1, x.2.1.2.2.1, x.2.1.2.2.2.1, x.2.1.2.2.2.2), (x.2.2.1.1, x.2.2.1.2.1, x.2.2.1.2.2.1, x.2.2.1.2.2.2), (q2.2, x.2.2.2.2.1, x.2.2.2.2.2.1, x.2.2.2.2.2.2))]) (rv := q2.1) (va_runV (As := [.int 1]) (rest := []) ⟨hx, hb, hml, hown, ha⟩ (k_X11_fails l E a o x 1 q2 hq2 H.size) (cwV 1 ha (gi_V (fun _ h => h) mw1716 mw1718 mw29 mw87 mw1719) rfl rfl rfl hv_X11_fails ⟨(Nat.le_of_ble_eq_true rfl), (Nat.le_of_ble_eq_true rfl)⟩) ⟨pre_blind, va_recv hst.k (fr_P hP [0] rfl) (ci := 13) (q0 := 0) rfl rfl, pre_at hP hD hS hz hzs hst [0] (by decide) rfl rfl⟩ rfl rfl hl.1 rfl (lv_room (Nat.le_of_ble_eq_true rfl)) dX11_failedCommand_10 ⟨(Nat.le_of_ble_eq_true rfl), (Nat.le_of_ble_eq_true rfl)⟩) hP hD hS hA [0] (by decide) rfl rfl rfl rfl (fun H locs hP hD hS => ?_)
    refine lv_goto (tgt := 24) hx hb dX11_failedCommand_13 (by decide) ?_
    obtain rfl := Option.some.inj hF
    exact en_i hQ (Nat.le_of_ble_eq_true rfl) (Nat.le_of_ble_eq_true rfl) hx hb hr hlocks hP hD hS rfl dX11_failedCommand_24

/-! X11_undo -/
theorem dX11_undo_0 : decode cX11_undo 0 = .ok (.aload_n 0, 1) := by decide +kernel
theorem dX11_undo_1 : decode cX11_undo 1 = .ok (.getfield 49, 3) := by decide +kernel
theorem dX11_undo_4 : decode cX11_undo 4 = .ok (.ifCond .ne 9, 3) := by decide +kernel
theorem dX11_undo_7 : decode cX11_undo 7 = .ok (.aload_n 0, 1) := by decide +kernel
theorem dX11_undo_8 : decode cX11_undo 8 = .ok (.iconst 1, 1) := by decide +kernel
theorem dX11_undo_9 : decode cX11_undo 9 = .ok (.invokevirtual 80, 3) := by decide +kernel
theorem dX11_undo_12 : decode cX11_undo 12 = .ok (.ireturn, 1) := by decide +kernel
theorem dX11_undo_13 : decode cX11_undo 13 = .ok (.aload_n 0, 1) := by decide +kernel
theorem dX11_undo_14 : decode cX11_undo 14 = .ok (.dup, 1) := by decide +kernel
theorem dX11_undo_15 : decode cX11_undo 15 = .ok (.getfield 49, 3) := by decide +kernel
theorem dX11_undo_18 : decode cX11_undo 18 = .ok (.iconst 1, 1) := by decide +kernel
theorem dX11_undo_19 : decode cX11_undo 19 = .ok (.isub, 1) := by decide +kernel
theorem dX11_undo_20 : decode cX11_undo 20 = .ok (.putfield 49, 3) := by decide +kernel
theorem dX11_undo_23 : decode cX11_undo 23 = .ok (.aload_n 0, 1) := by decide +kernel
theorem dX11_undo_24 : decode cX11_undo 24 = .ok (.getfield 16, 3) := by decide +kernel
theorem dX11_undo_27 : decode cX11_undo 27 = .ok (.aload_n 0, 1) := by decide +kernel
theorem dX11_undo_28 : decode cX11_undo 28 = .ok (.getfield 49, 3) := by decide +kernel
theorem dX11_undo_31 : decode cX11_undo 31 = .ok (.bipush 77, 2) := by decide +kernel
theorem dX11_undo_33 : decode cX11_undo 33 = .ok (.imul, 1) := by decide +kernel
theorem dX11_undo_34 : decode cX11_undo 34 = .ok (.aload_n 0, 1) := by decide +kernel
theorem dX11_undo_35 : decode cX11_undo 35 = .ok (.getfield 7, 3) := by decide +kernel
theorem dX11_undo_38 : decode cX11_undo 38 = .ok (.iconst 0, 1) := by decide +kernel
theorem dX11_undo_39 : decode cX11_undo 39 = .ok (.invokestatic 45, 3) := by decide +kernel
theorem dX11_undo_42 : decode cX11_undo 42 = .ok (.aload_n 0, 1) := by decide +kernel
theorem dX11_undo_43 : decode cX11_undo 43 = .ok (.aload_n 0, 1) := by decide +kernel
theorem dX11_undo_44 : decode cX11_undo 44 = .ok (.getfield 49, 3) := by decide +kernel
theorem dX11_undo_47 : decode cX11_undo 47 = .ok (.invokevirtual 83, 3) := by decide +kernel
theorem dX11_undo_50 : decode cX11_undo 50 = .ok (.ireturn, 1) := by decide +kernel
def f_X11_undo (x_g : (Nat → Int32)) (x_history : (Nat → Int32)) (x_changes : Int32) (x_thrown : Int32) : Option (Int32 × (Nat → Int32) × Int32 × Int32) :=
  q_br (x_changes = 0) (
  q_bd (f_X11_fails x_thrown 1) (fun q3 =>
  some (q3.1, x_g, x_changes, q3.2))) (
  q_bd (f_X11_copy x_history x_g 616 ((x_changes - 1) * 77) 77 0) (fun q1 =>
  q_bd (f_X11_done x_thrown (x_changes - 1)) (fun q2 =>
  some (q2.1, q1, x_changes - 1, q2.2))))
theorem hv_X11_undo : yX11_undo.cls = RX11 ∧ yX11_undo.cls ≠ "java/lang/invoke/MethodHandle" ∧ yX11_undo.cls ≠ "java/lang/invoke/VarHandle" ∧ (parseMethodDescriptor yX11_undo.desc).map (fun d => d.parameters.length) = some 0 := by decide +kernel
abbrev rm_X11_undo : Room := { frames := 1, cells := 0, slots := 0, locals := 24 }
set_option maxHeartbeats 4000000 in
set_option maxRecDepth 100000 in
theorem k_X11_undo (l : Launch) (E : ET) (a : Nat → Nat) (o : Nat) (x : Model_t) (res : Int32 × (Nat → Int32) × Int32 × Int32) (hF : f_X11_undo x.1.1 x.1.2.2.1 x.1.2.2.2.1 x.2.2.2.1 = some res) (sz : Nat) : CtI l yX11_undo (mws yX11_undo cX11_undo 1 (some .int)) rm_X11_undo 0 0 [.ref (a o)] E (bl_Model E a o x) res.1 (bl_Model E a o ((res.2.1, x.1.2.1, x.1.2.2.1, res.2.2.1, x.1.2.2.2.2), (x.2.1.1, x.2.1.2.1, x.2.1.2.2.1, x.2.1.2.2.2.1, x.2.1.2.2.2.2), (x.2.2.1.1, x.2.2.1.2.1, x.2.2.1.2.2.1, x.2.2.1.2.2.2), (res.2.2.2, x.2.2.2.2.1, x.2.2.2.2.2.1, x.2.2.2.2.2.2))) sz := by
  refine mk_M (by decide +kernel) (Nat.le_of_ble_eq_true rfl) ?_
  intro p e s m below meth c A args Q ls hAe hsz hQ hx hb hr hml hin ha hown hlocks hA hz hzs hst hP hD hS hl
  have hown : s.vm.findClass RX11 = some m.cls := hown
  rw [hAe] at hQ
  subst hsz
  have hP : va_P E.1 vwCl (List.flatten [w_Model E a o x]) s.heap := hP
  have hD : va_D A (List.flatten [w_Model E a o x]) := hD
  have hl : lv_has ls 1 [(0, .ref (a o))] := hl
  generalize hHe : s.heap = H at hP
  have hS : va_S A s.heap H [] := by rw [← hHe]; exact hS
  generalize ([] : List Loc) = locs at hS ⊢
  unfold f_X11_undo at hF
  refine lv_aload_n hx hb dX11_undo_0 rfl (lv_at hl 0 rfl) ?_
  refine va_get (D := E.1) (ci := 13) (v := .int x.1.2.2.2.1) (C := RX11) (T := TX11) (N := 18) hx hb ha in_X11 hown hst.k hP 0 rfl rfl 3 (by decide) (ha _ mw1639) (fun _ h9 => h9) rfl dX11_undo_1 ?_
  refine lv_if_ne (tgt := 13) hx hb dX11_undo_4 (by decide) (fun c4 => ?_) (fun c4 => ?_)
  · have hF := q_brn c4 hF
    refine lv_aload_n hx hb dX11_undo_13 rfl (lv_at hl 0 rfl) ?_
    refine lv_dup hx hb dX11_undo_14 rfl ?_
    refine va_get (D := E.1) (ci := 13) (v := .int x.1.2.2.2.1) (C := RX11) (T := TX11) (N := 18) hx hb ha in_X11 hown hst.k hP 0 rfl rfl 3 (by decide) (ha _ mw1639) (fun _ h9 => h9) rfl dX11_undo_15 ?_
    refine lv_iconst (v := 1) hx hb dX11_undo_18 (by decide) ?_
    refine lv_isub hx hb dX11_undo_19 ?_
    refine va_put (D := E.1) (ci := 13) (v := .int (x.1.2.2.2.1 - 1)) (ty := .int) (C := RX11) (T := TX11) (N := 18) hx hb ha in_X11 tyX11 tyX11_ok nmX11 hown hst.k hP hD hS 0 rfl rfl 3 (by decide) (ha _ mw1639) (fun _ h9 => h9) rfl (tyX11_ok 3 (by decide)) rfl rfl (Nat.le_of_ble_eq_true rfl) dX11_undo_20 (fun H locs hP hD hS => ?_)
    have hP : va_P E.1 vwCl (List.flatten [w_Model E a o ((x.1.1, x.1.2.1, x.1.2.2.1, x.1.2.2.2.1 - 1, x.1.2.2.2.2), (x.2.1.1, x.2.1.2.1, x.2.1.2.2.1, x.2.1.2.2.2.1, x.2.1.2.2.2.2), (x.2.2.1.1, x.2.2.1.2.1, x.2.2.1.2.2.1, x.2.2.1.2.2.2), (x.2.2.2.1, x.2.2.2.2.1, x.2.2.2.2.2.1, x.2.2.2.2.2.2))]) H := hP
    have hD : va_D A (List.flatten [w_Model E a o ((x.1.1, x.1.2.1, x.1.2.2.1, x.1.2.2.2.1 - 1, x.1.2.2.2.2), (x.2.1.1, x.2.1.2.1, x.2.1.2.2.1, x.2.1.2.2.2.1, x.2.1.2.2.2.2), (x.2.2.1.1, x.2.2.1.2.1, x.2.2.1.2.2.1, x.2.2.1.2.2.2), (x.2.2.2.1, x.2.2.2.2.1, x.2.2.2.2.2.1, x.2.2.2.2.2.2))]) := hD
    refine lv_aload_n hx hb dX11_undo_23 rfl (lv_at hl 0 rfl) ?_
    refine va_get (D := E.1) (ci := 13) (v := .ref (a (o + 3))) (C := RX11) (T := TX11) (N := 18) hx hb ha in_X11 hown hst.k hP 0 rfl rfl 2 (by decide) (ha _ mw1638) (fun _ h9 => h9) rfl dX11_undo_24 ?_
    refine lv_aload_n hx hb dX11_undo_27 rfl (lv_at hl 0 rfl) ?_
    refine va_get (D := E.1) (ci := 13) (v := .int (x.1.2.2.2.1 - 1)) (C := RX11) (T := TX11) (N := 18) hx hb ha in_X11 hown hst.k hP 0 rfl rfl 3 (by decide) (ha _ mw1639) (fun _ h9 => h9) rfl dX11_undo_28 ?_
    refine lv_bipush (v := 77) hx hb dX11_undo_31 (by decide) ?_
    refine lv_imul hx hb dX11_undo_33 ?_
    refine lv_aload_n hx hb dX11_undo_34 rfl (lv_at hl 0 rfl) ?_
    refine va_get (D := E.1) (ci := 13) (v := .ref (a (o + 1))) (C := RX11) (T := TX11) (N := 18) hx hb ha in_X11 hown hst.k hP 0 rfl rfl 0 (by decide) (ha _ mw1636) (fun _ h9 => h9) rfl dX11_undo_35 ?_
    refine lv_iconst (v := 0) hx hb dX11_undo_38 (by decide) ?_
    have hP : va_P E.1 vwCl (List.flatten [[(a o, .inr (13, [.ref (a (o + 1)), .ref (a (o + 2)), .ref (a (o + 3)), .int (x.1.2.2.2.1 - 1), .ref (a (o + 4)), .int x.2.1.1, .ref (a (o + 5)), .int x.2.1.2.2.1, .int x.2.1.2.2.2.1, .int x.2.1.2.2.2.2, .ref (a (o + 6)), .int x.2.2.1.2.1, .ref (a (o + 7)), .int x.2.2.1.2.2.2, .int x.2.2.2.1, .int x.2.2.2.2.1, .int x.2.2.2.2.2.1, .ref (a (o + 8))]))], [(a (o + 1), .inl (E.2 1, 77, .inl x.1.1))], [(a (o + 2), .inl (E.2 1, 77, .inl x.1.2.1))], [(a (o + 3), .inl (E.2 1, 616, .inl x.1.2.2.1))], [(a (o + 4), .inl (E.2 1, 77, .inl x.1.2.2.2.2))], [(a (o + 5), .inl (E.2 2, 60, .inl x.2.1.2.1))], [(a (o + 6), .inl (E.2 2, 80, .inl x.2.2.1.1))], [(a (o + 7), .inl (E.2 1, 24, .inl x.2.2.1.2.2.1))], [(a (o + 8), .inl (E.2 1, 180, .inl x.2.2.2.2.2.2))]]) H := hP
    have hD : va_D A (List.flatten [[(a o, .inr (13, [.ref (a (o + 1)), .ref (a (o + 2)), .ref (a (o + 3)), .int (x.1.2.2.2.1 - 1), .ref (a (o + 4)), .int x.2.1.1, .ref (a (o + 5)), .int x.2.1.2.2.1, .int x.2.1.2.2.2.1, .int x.2.1.2.2.2.2, .ref (a (o + 6)), .int x.2.2.1.2.1, .ref (a (o + 7)), .int x.2.2.1.2.2.2, .int x.2.2.2.1, .int x.2.2.2.2.1, .int x.2.2.2.2.2.1, .ref (a (o + 8))]))], [(a (o + 1), .inl (E.2 1, 77, .inl x.1.1))], [(a (o + 2), .inl (E.2 1, 77, .inl x.1.2.1))], [(a (o + 3), .inl (E.2 1, 616, .inl x.1.2.2.1))], [(a (o + 4), .inl (E.2 1, 77, .inl x.1.2.2.2.2))], [(a (o + 5), .inl (E.2 2, 60, .inl x.2.1.2.1))], [(a (o + 6), .inl (E.2 2, 80, .inl x.2.2.1.1))], [(a (o + 7), .inl (E.2 1, 24, .inl x.2.2.1.2.2.1))], [(a (o + 8), .inl (E.2 1, 180, .inl x.2.2.2.2.2.2))]]) := hD
    obtain ⟨q1, hq1, hF⟩ := q_bdi hF
    refine cl_v (Lc := [[(a (o + 3), .inl (E.2 1, 616, .inl x.1.2.2.1))], [(a (o + 1), .inl (E.2 1, 77, .inl x.1.1))]]) (Lc' := [[(a (o + 3), .inl (E.2 1, 616, .inl x.1.2.2.1))], [(a (o + 1), .inl (E.2 1, 77, .inl q1))]]) (L' := [[(a o, .inr (13, [.ref (a (o + 1)), .ref (a (o + 2)), .ref (a (o + 3)), .int (x.1.2.2.2.1 - 1), .ref (a (o + 4)), .int x.2.1.1, .ref (a (o + 5)), .int x.2.1.2.2.1, .int x.2.1.2.2.2.1, .int x.2.1.2.2.2.2, .ref (a (o + 6)), .int x.2.2.1.2.1, .ref (a (o + 7)), .int x.2.2.1.2.2.2, .int x.2.2.2.1, .int x.2.2.2.2.1, .int x.2.2.2.2.2.1, .ref (a (o + 8))]))], [(a (o + 1), .inl (E.2 1, 77, .inl q1))], [(a (o + 2), .inl (E.2 1, 77, .inl x.1.2.1))], [(a (o + 3), .inl (E.2 1, 616, .inl x.1.2.2.1))], [(a (o + 4), .inl (E.2 1, 77, .inl x.1.2.2.2.2))], [(a (o + 5), .inl (E.2 2, 60, .inl x.2.1.2.1))], [(a (o + 6), .inl (E.2 2, 80, .inl x.2.2.1.1))], [(a (o + 7), .inl (E.2 1, 24, .inl x.2.2.1.2.2.1))], [(a (o + 8), .inl (E.2 1, 180, .inl x.2.2.2.2.2.2))]]) (va_runS (As := [.ref (a (o + 3)), .int ((x.1.2.2.2.1 - 1) * 77), .ref (a (o + 1)), .int 0]) (rest := []) ⟨hx, hb, hml, hown, ha⟩ (k_X11_copy l E a (o + 3) x.1.2.2.1 a (o + 1) x.1.1 616 ((x.1.2.2.2.1 - 1) * 77) 77 0 q1 hq1 H.size) (cwS 4 ha (gi_S (fun _ h => h) mw1703 mw1704 mw87 mw1705) rfl rfl rfl hv_X11_copy ⟨(Nat.le_of_ble_eq_true rfl), (Nat.le_of_ble_eq_true rfl)⟩) ⟨pre_blind, pre_at hP hD hS hz hzs hst [3, 1] (by decide) rfl rfl⟩ rfl rfl hl.1 rfl (lv_room (Nat.le_of_ble_eq_true rfl)) dX11_undo_39 ⟨(Nat.le_of_ble_eq_true rfl), (Nat.le_of_ble_eq_true rfl)⟩) hP hD hS hA [3, 1] (by decide) rfl rfl rfl rfl (fun H locs hP hD hS => ?_)
    have hP : va_P E.1 vwCl (List.flatten [w_Model E a o ((q1, x.1.2.1, x.1.2.2.1, x.1.2.2.2.1 - 1, x.1.2.2.2.2), (x.2.1.1, x.2.1.2.1, x.2.1.2.2.1, x.2.1.2.2.2.1, x.2.1.2.2.2.2), (x.2.2.1.1, x.2.2.1.2.1, x.2.2.1.2.2.1, x.2.2.1.2.2.2), (x.2.2.2.1, x.2.2.2.2.1, x.2.2.2.2.2.1, x.2.2.2.2.2.2))]) H := hP
    have hD : va_D A (List.flatten [w_Model E a o ((q1, x.1.2.1, x.1.2.2.1, x.1.2.2.2.1 - 1, x.1.2.2.2.2), (x.2.1.1, x.2.1.2.1, x.2.1.2.2.1, x.2.1.2.2.2.1, x.2.1.2.2.2.2), (x.2.2.1.1, x.2.2.1.2.1, x.2.2.1.2.2.1, x.2.2.1.2.2.2), (x.2.2.2.1, x.2.2.2.2.1, x.2.2.2.2.2.1, x.2.2.2.2.2.2))]) := hD
    refine lv_aload_n hx hb dX11_undo_42 rfl (lv_at hl 0 rfl) ?_
    refine lv_aload_n hx hb dX11_undo_43 rfl (lv_at hl 0 rfl) ?_
    refine va_get (D := E.1) (ci := 13) (v := .int (x.1.2.2.2.1 - 1)) (C := RX11) (T := TX11) (N := 18) hx hb ha in_X11 hown hst.k hP 0 rfl rfl 3 (by decide) (ha _ mw1639) (fun _ h9 => h9) rfl dX11_undo_44 ?_
    obtain ⟨q2, hq2, hF⟩ := q_bdi hF
    refine cl_i (Lc := [w_Model E a o ((q1, x.1.2.1, x.1.2.2.1, x.1.2.2.2.1 - 1, x.1.2.2.2.2), (x.2.1.1, x.2.1.2.1, x.2.1.2.2.1, x.2.1.2.2.2.1, x.2.1.2.2.2.2), (x.2.2.1.1, x.2.2.1.2.1, x.2.2.1.2.2.1, x.2.2.1.2.2.2), (x.2.2.2.1, x.2.2.2.2.1, x.2.2.2.2.2.1, x.2.2.2.2.2.2))]) (Lc' := [w_Model E a o ((q1, x.1.2.1, x.1.2.2.1, x.1.2.2.2.1 - 1, x.1.2.2.2.2), (x.2.1.1, x.2.1.2.1, x.2.1.2.2.1, x.2.1.2.2.2.1, x.2.1.2.2.2.2), (x.2.2.1.1, x.2.2.1.2.1, x.2.2.1.2.2.1, x.2.2.1.2.2.2), (q2.2, x.2.2.2.2.1, x.2.2.2.2.2.1, x.2.2.2.2.2.2))]) (L' := [w_Model E a o ((q1, x.1.2.1, x.1.2.2.1, x.1.2.2.2.1 - 1, x.1.2.2.2.2), (x.2.1.1, x.2.1.2.1, x.2.1.2.2.1, x.2.1.2.2.2.1, x.2.1.2.2.2.2), (x.2.2.1.1, x.2.2.1.2.1, x.2.2.1.2.2.1, x.2.2.1.2.2.2), (q2.2, x.2.2.2.2.1, x.2.2.2.2.2.1, x.2.2.2.2.2.2))]) (rv := q2.1) (va_runV (As := [.int (x.1.2.2.2.1 - 1)]) (rest := []) ⟨hx, hb, hml, hown, ha⟩ (k_X11_done l E a o ((q1, x.1.2.1, x.1.2.2.1, x.1.2.2.2.1 - 1, x.1.2.2.2.2), (x.2.1.1, x.2.1.2.1, x.2.1.2.2.1, x.2.1.2.2.2.1, x.2.1.2.2.2.2), (x.2.2.1.1, x.2.2.1.2.1, x.2.2.1.2.2.1, x.2.2.1.2.2.2), (x.2.2.2.1, x.2.2.2.2.1, x.2.2.2.2.2.1, x.2.2.2.2.2.2)) (x.1.2.2.2.1 - 1) q2 hq2 H.size) (cwV 1 ha (gi_V (fun _ h => h) mw1720 mw1722 mw30 mw87 mw1723) rfl rfl rfl hv_X11_done ⟨(Nat.le_of_ble_eq_true rfl), (Nat.le_of_ble_eq_true rfl)⟩) ⟨pre_blind, va_recv hst.k (fr_P hP [0] rfl) (ci := 13) (q0 := 0) rfl rfl, pre_at hP hD hS hz hzs hst [0] (by decide) rfl rfl⟩ rfl rfl hl.1 rfl (lv_room (Nat.le_of_ble_eq_true rfl)) dX11_undo_47 ⟨(Nat.le_of_ble_eq_true rfl), (Nat.le_of_ble_eq_true rfl)⟩) hP hD hS hA [0] (by decide) rfl rfl rfl rfl (fun H locs hP hD hS => ?_)
    obtain rfl := Option.some.inj hF
    exact en_i hQ (Nat.le_of_ble_eq_true rfl) (Nat.le_of_ble_eq_true rfl) hx hb hr hlocks hP hD hS rfl dX11_undo_50
  · have hF := q_brp c4 hF
    refine lv_aload_n hx hb dX11_undo_7 rfl (lv_at hl 0 rfl) ?_
    refine lv_iconst (v := 1) hx hb dX11_undo_8 (by decide) ?_
    obtain ⟨q3, hq3, hF⟩ := q_bdi hF
    refine cl_i (Lc := [w_Model E a o x]) (Lc' := [w_Model E a o ((x.1.1, x.1.2.1, x.1.2.2.1, x.1.2.2.2.1, x.1.2.2.2.2), (x.2.1.1, x.2.1.2.1, x.2.1.2.2.1, x.2.1.2.2.2.1, x.2.1.2.2.2.2), (x.2.2.1.1, x.2.2.1.2.1, x.2.2.1.2.2.1, x.2.2.1.2.2.2), (q3.2, x.2.2.2.2.1, x.2.2.2.2.2.1, x.2.2.2.2.2.2))]) (L' := [w_Model E a o ((x.1.1, x.1.2.1, x.1.2.2.1, x.1.2.2.2.1, x.1.2.2.2.2), (x.2.1.1, x.2.1.2.1, x.2.1.2.2.1, x.2.1.2.2.2.1, x.2.1.2.2.2.2), (x.2.2.1.1, x.2.2.1.2.1, x.2.2.1.2.2.1, x.2.2.1.2.2.2), (q3.2, x.2.2.2.2.1, x.2.2.2.2.2.1, x.2.2.2.2.2.2))]) (rv := q3.1) (va_runV (As := [.int 1]) (rest := []) ⟨hx, hb, hml, hown, ha⟩ (k_X11_fails l E a o x 1 q3 hq3 H.size) (cwV 1 ha (gi_V (fun _ h => h) mw1716 mw1718 mw29 mw87 mw1719) rfl rfl rfl hv_X11_fails ⟨(Nat.le_of_ble_eq_true rfl), (Nat.le_of_ble_eq_true rfl)⟩) ⟨pre_blind, va_recv hst.k (fr_P hP [0] rfl) (ci := 13) (q0 := 0) rfl rfl, pre_at hP hD hS hz hzs hst [0] (by decide) rfl rfl⟩ rfl rfl hl.1 rfl (lv_room (Nat.le_of_ble_eq_true rfl)) dX11_undo_9 ⟨(Nat.le_of_ble_eq_true rfl), (Nat.le_of_ble_eq_true rfl)⟩) hP hD hS hA [0] (by decide) rfl rfl rfl rfl (fun H locs hP hD hS => ?_)
    obtain rfl := Option.some.inj hF
    exact en_i hQ (Nat.le_of_ble_eq_true rfl) (Nat.le_of_ble_eq_true rfl) hx hb hr hlocks hP hD hS rfl dX11_undo_12

/-! X11_save -/
theorem dX11_save_0 : decode cX11_save 0 = .ok (.aload_n 0, 1) := by decide +kernel
theorem dX11_save_1 : decode cX11_save 1 = .ok (.getfield 7, 3) := by decide +kernel
theorem dX11_save_4 : decode cX11_save 4 = .ok (.iconst 0, 1) := by decide +kernel
theorem dX11_save_5 : decode cX11_save 5 = .ok (.aload_n 0, 1) := by decide +kernel
theorem dX11_save_6 : decode cX11_save 6 = .ok (.getfield 19, 3) := by decide +kernel
theorem dX11_save_9 : decode cX11_save 9 = .ok (.iconst 0, 1) := by decide +kernel
theorem dX11_save_10 : decode cX11_save 10 = .ok (.invokestatic 45, 3) := by decide +kernel
theorem dX11_save_13 : decode cX11_save 13 = .ok (.aload_n 0, 1) := by decide +kernel
theorem dX11_save_14 : decode cX11_save 14 = .ok (.iconst 1, 1) := by decide +kernel
theorem dX11_save_15 : decode cX11_save 15 = .ok (.putfield 241, 3) := by decide +kernel
theorem dX11_save_18 : decode cX11_save 18 = .ok (.aload_n 0, 1) := by decide +kernel
theorem dX11_save_19 : decode cX11_save 19 = .ok (.iconst 0, 1) := by decide +kernel
theorem dX11_save_20 : decode cX11_save 20 = .ok (.putfield 42, 3) := by decide +kernel
theorem dX11_save_23 : decode cX11_save 23 = .ok (.return_, 1) := by decide +kernel
def f_X11_save (x_g : (Nat → Int32)) (x_savedState : (Nat → Int32)) (x_hasSaved : Int32) (x_thrown : Int32) : Option ((Nat → Int32) × Int32 × Int32) :=
  q_bd (f_X11_copy x_g x_savedState 77 0 77 0) (fun q1 =>
  some (q1, 1, 0))
theorem hv_X11_save : yX11_save.cls = RX11 ∧ yX11_save.cls ≠ "java/lang/invoke/MethodHandle" ∧ yX11_save.cls ≠ "java/lang/invoke/VarHandle" ∧ (parseMethodDescriptor yX11_save.desc).map (fun d => d.parameters.length) = some 0 := by decide +kernel
abbrev rm_X11_save : Room := { frames := 1, cells := 0, slots := 0, locals := 24 }
set_option maxHeartbeats 4000000 in
set_option maxRecDepth 100000 in
theorem k_X11_save (l : Launch) (E : ET) (a : Nat → Nat) (o : Nat) (x : Model_t) (res : (Nat → Int32) × Int32 × Int32) (hF : f_X11_save x.1.1 x.1.2.2.2.2 x.2.1.1 x.2.2.2.1 = some res) (sz : Nat) : CtV l yX11_save (mws yX11_save cX11_save 1 none) rm_X11_save 0 0 [.ref (a o)] E (bl_Model E a o x) (bl_Model E a o ((x.1.1, x.1.2.1, x.1.2.2.1, x.1.2.2.2.1, res.1), (res.2.1, x.2.1.2.1, x.2.1.2.2.1, x.2.1.2.2.2.1, x.2.1.2.2.2.2), (x.2.2.1.1, x.2.2.1.2.1, x.2.2.1.2.2.1, x.2.2.1.2.2.2), (res.2.2, x.2.2.2.2.1, x.2.2.2.2.2.1, x.2.2.2.2.2.2))) sz := by
  refine mk_M (by decide +kernel) (Nat.le_of_ble_eq_true rfl) ?_
  intro p e s m below meth c A args Q ls hAe hsz hQ hx hb hr hml hin ha hown hlocks hA hz hzs hst hP hD hS hl
  have hown : s.vm.findClass RX11 = some m.cls := hown
  rw [hAe] at hQ
  subst hsz
  have hP : va_P E.1 vwCl (List.flatten [w_Model E a o x]) s.heap := hP
  have hD : va_D A (List.flatten [w_Model E a o x]) := hD
  have hl : lv_has ls 1 [(0, .ref (a o))] := hl
  generalize hHe : s.heap = H at hP
  have hS : va_S A s.heap H [] := by rw [← hHe]; exact hS
  generalize ([] : List Loc) = locs at hS ⊢
  unfold f_X11_save at hF
  refine lv_aload_n hx hb dX11_save_0 rfl (lv_at hl 0 rfl) ?_
  refine va_get (D := E.1) (ci := 13) (v := .ref (a (o + 1))) (C := RX11) (T := TX11) (N := 18) hx hb ha in_X11 hown hst.k hP 0 rfl rfl 0 (by decide) (ha _ mw1636) (fun _ h9 => h9) rfl dX11_save_1 ?_
  refine lv_iconst (v := 0) hx hb dX11_save_4 (by decide) ?_
  refine lv_aload_n hx hb dX11_save_5 rfl (lv_at hl 0 rfl) ?_
  refine va_get (D := E.1) (ci := 13) (v := .ref (a (o + 4))) (C := RX11) (T := TX11) (N := 18) hx hb ha in_X11 hown hst.k hP 0 rfl rfl 4 (by decide) (ha _ mw1640) (fun _ h9 => h9) rfl dX11_save_6 ?_
  refine lv_iconst (v := 0) hx hb dX11_save_9 (by decide) ?_
  have hP : va_P E.1 vwCl (List.flatten [[(a o, .inr (13, [.ref (a (o + 1)), .ref (a (o + 2)), .ref (a (o + 3)), .int x.1.2.2.2.1, .ref (a (o + 4)), .int x.2.1.1, .ref (a (o + 5)), .int x.2.1.2.2.1, .int x.2.1.2.2.2.1, .int x.2.1.2.2.2.2, .ref (a (o + 6)), .int x.2.2.1.2.1, .ref (a (o + 7)), .int x.2.2.1.2.2.2, .int x.2.2.2.1, .int x.2.2.2.2.1, .int x.2.2.2.2.2.1, .ref (a (o + 8))]))], [(a (o + 1), .inl (E.2 1, 77, .inl x.1.1))], [(a (o + 2), .inl (E.2 1, 77, .inl x.1.2.1))], [(a (o + 3), .inl (E.2 1, 616, .inl x.1.2.2.1))], [(a (o + 4), .inl (E.2 1, 77, .inl x.1.2.2.2.2))], [(a (o + 5), .inl (E.2 2, 60, .inl x.2.1.2.1))], [(a (o + 6), .inl (E.2 2, 80, .inl x.2.2.1.1))], [(a (o + 7), .inl (E.2 1, 24, .inl x.2.2.1.2.2.1))], [(a (o + 8), .inl (E.2 1, 180, .inl x.2.2.2.2.2.2))]]) H := hP
  have hD : va_D A (List.flatten [[(a o, .inr (13, [.ref (a (o + 1)), .ref (a (o + 2)), .ref (a (o + 3)), .int x.1.2.2.2.1, .ref (a (o + 4)), .int x.2.1.1, .ref (a (o + 5)), .int x.2.1.2.2.1, .int x.2.1.2.2.2.1, .int x.2.1.2.2.2.2, .ref (a (o + 6)), .int x.2.2.1.2.1, .ref (a (o + 7)), .int x.2.2.1.2.2.2, .int x.2.2.2.1, .int x.2.2.2.2.1, .int x.2.2.2.2.2.1, .ref (a (o + 8))]))], [(a (o + 1), .inl (E.2 1, 77, .inl x.1.1))], [(a (o + 2), .inl (E.2 1, 77, .inl x.1.2.1))], [(a (o + 3), .inl (E.2 1, 616, .inl x.1.2.2.1))], [(a (o + 4), .inl (E.2 1, 77, .inl x.1.2.2.2.2))], [(a (o + 5), .inl (E.2 2, 60, .inl x.2.1.2.1))], [(a (o + 6), .inl (E.2 2, 80, .inl x.2.2.1.1))], [(a (o + 7), .inl (E.2 1, 24, .inl x.2.2.1.2.2.1))], [(a (o + 8), .inl (E.2 1, 180, .inl x.2.2.2.2.2.2))]]) := hD
  obtain ⟨q1, hq1, hF⟩ := q_bdi hF
  refine cl_v (Lc := [[(a (o + 1), .inl (E.2 1, 77, .inl x.1.1))], [(a (o + 4), .inl (E.2 1, 77, .inl x.1.2.2.2.2))]]) (Lc' := [[(a (o + 1), .inl (E.2 1, 77, .inl x.1.1))], [(a (o + 4), .inl (E.2 1, 77, .inl q1))]]) (L' := [[(a o, .inr (13, [.ref (a (o + 1)), .ref (a (o + 2)), .ref (a (o + 3)), .int x.1.2.2.2.1, .ref (a (o + 4)), .int x.2.1.1, .ref (a (o + 5)), .int x.2.1.2.2.1, .int x.2.1.2.2.2.1, .int x.2.1.2.2.2.2, .ref (a (o + 6)), .int x.2.2.1.2.1, .ref (a (o + 7)), .int x.2.2.1.2.2.2, .int x.2.2.2.1, .int x.2.2.2.2.1, .int x.2.2.2.2.2.1, .ref (a (o + 8))]))], [(a (o + 1), .inl (E.2 1, 77, .inl x.1.1))], [(a (o + 2), .inl (E.2 1, 77, .inl x.1.2.1))], [(a (o + 3), .inl (E.2 1, 616, .inl x.1.2.2.1))], [(a (o + 4), .inl (E.2 1, 77, .inl q1))], [(a (o + 5), .inl (E.2 2, 60, .inl x.2.1.2.1))], [(a (o + 6), .inl (E.2 2, 80, .inl x.2.2.1.1))], [(a (o + 7), .inl (E.2 1, 24, .inl x.2.2.1.2.2.1))], [(a (o + 8), .inl (E.2 1, 180, .inl x.2.2.2.2.2.2))]]) (va_runS (As := [.ref (a (o + 1)), .int 0, .ref (a (o + 4)), .int 0]) (rest := []) ⟨hx, hb, hml, hown, ha⟩ (k_X11_copy l E a (o + 1) x.1.1 a (o + 4) x.1.2.2.2.2 77 0 77 0 q1 hq1 H.size) (cwS 4 ha (gi_S (fun _ h => h) mw1703 mw1704 mw87 mw1705) rfl rfl rfl hv_X11_copy ⟨(Nat.le_of_ble_eq_true rfl), (Nat.le_of_ble_eq_true rfl)⟩) ⟨pre_blind, pre_at hP hD hS hz hzs hst [1, 4] (by decide) rfl rfl⟩ rfl rfl hl.1 rfl (lv_room (Nat.le_of_ble_eq_true rfl)) dX11_save_10 ⟨(Nat.le_of_ble_eq_true rfl), (Nat.le_of_ble_eq_true rfl)⟩) hP hD hS hA [1, 4] (by decide) rfl rfl rfl rfl (fun H locs hP hD hS => ?_)
  have hP : va_P E.1 vwCl (List.flatten [w_Model E a o ((x.1.1, x.1.2.1, x.1.2.2.1, x.1.2.2.2.1, q1), (x.2.1.1, x.2.1.2.1, x.2.1.2.2.1, x.2.1.2.2.2.1, x.2.1.2.2.2.2), (x.2.2.1.1, x.2.2.1.2.1, x.2.2.1.2.2.1, x.2.2.1.2.2.2), (x.2.2.2.1, x.2.2.2.2.1, x.2.2.2.2.2.1, x.2.2.2.2.2.2))]) H := hP
  have hD : va_D A (List.flatten [w_Model E a o ((x.1.1, x.1.2.1, x.1.2.2.1, x.1.2.2.2.1, q1), (x.2.1.1, x.2.1.2.1, x.2.1.2.2.1, x.2.1.2.2.2.1, x.2.1.2.2.2.2), (x.2.2.1.1, x.2.2.1.2.1, x.2.2.1.2.2.1, x.2.2.1.2.2.2), (x.2.2.2.1, x.2.2.2.2.1, x.2.2.2.2.2.1, x.2.2.2.2.2.2))]) := hD
  refine lv_aload_n hx hb dX11_save_13 rfl (lv_at hl 0 rfl) ?_
  refine lv_iconst (v := 1) hx hb dX11_save_14 (by decide) ?_
  refine va_put (D := E.1) (ci := 13) (v := .int 1) (ty := .boolean) (C := RX11) (T := TX11) (N := 18) hx hb ha in_X11 tyX11 tyX11_ok nmX11 hown hst.k hP hD hS 0 rfl rfl 5 (by decide) (ha _ mw1641) (fun _ h9 => h9) rfl (tyX11_ok 5 (by decide)) (by decide) (by decide) (Nat.le_of_ble_eq_true rfl) dX11_save_15 (fun H locs hP hD hS => ?_)
  have hP : va_P E.1 vwCl (List.flatten [w_Model E a o ((x.1.1, x.1.2.1, x.1.2.2.1, x.1.2.2.2.1, q1), (1, x.2.1.2.1, x.2.1.2.2.1, x.2.1.2.2.2.1, x.2.1.2.2.2.2), (x.2.2.1.1, x.2.2.1.2.1, x.2.2.1.2.2.1, x.2.2.1.2.2.2), (x.2.2.2.1, x.2.2.2.2.1, x.2.2.2.2.2.1, x.2.2.2.2.2.2))]) H := hP
  have hD : va_D A (List.flatten [w_Model E a o ((x.1.1, x.1.2.1, x.1.2.2.1, x.1.2.2.2.1, q1), (1, x.2.1.2.1, x.2.1.2.2.1, x.2.1.2.2.2.1, x.2.1.2.2.2.2), (x.2.2.1.1, x.2.2.1.2.1, x.2.2.1.2.2.1, x.2.2.1.2.2.2), (x.2.2.2.1, x.2.2.2.2.1, x.2.2.2.2.2.1, x.2.2.2.2.2.2))]) := hD
  refine lv_aload_n hx hb dX11_save_18 rfl (lv_at hl 0 rfl) ?_
  refine lv_iconst (v := 0) hx hb dX11_save_19 (by decide) ?_
  refine va_put (D := E.1) (ci := 13) (v := .int 0) (ty := .int) (C := RX11) (T := TX11) (N := 18) hx hb ha in_X11 tyX11 tyX11_ok nmX11 hown hst.k hP hD hS 0 rfl rfl 14 (by decide) (ha _ mw1650) (fun _ h9 => h9) rfl (tyX11_ok 14 (by decide)) rfl rfl (Nat.le_of_ble_eq_true rfl) dX11_save_20 (fun H locs hP hD hS => ?_)
  have hP : va_P E.1 vwCl (List.flatten [w_Model E a o ((x.1.1, x.1.2.1, x.1.2.2.1, x.1.2.2.2.1, q1), (1, x.2.1.2.1, x.2.1.2.2.1, x.2.1.2.2.2.1, x.2.1.2.2.2.2), (x.2.2.1.1, x.2.2.1.2.1, x.2.2.1.2.2.1, x.2.2.1.2.2.2), (0, x.2.2.2.2.1, x.2.2.2.2.2.1, x.2.2.2.2.2.2))]) H := hP
  have hD : va_D A (List.flatten [w_Model E a o ((x.1.1, x.1.2.1, x.1.2.2.1, x.1.2.2.2.1, q1), (1, x.2.1.2.1, x.2.1.2.2.1, x.2.1.2.2.2.1, x.2.1.2.2.2.2), (x.2.2.1.1, x.2.2.1.2.1, x.2.2.1.2.2.1, x.2.2.1.2.2.2), (0, x.2.2.2.2.1, x.2.2.2.2.2.1, x.2.2.2.2.2.2))]) := hD
  obtain rfl := Option.some.inj hF
  exact en_v hQ (Nat.le_of_ble_eq_true rfl) (Nat.le_of_ble_eq_true rfl) hx hb hr hlocks hP hD hS dX11_save_23

/-! X11_restore -/
theorem dX11_restore_0 : decode cX11_restore 0 = .ok (.aload_n 0, 1) := by decide +kernel
theorem dX11_restore_1 : decode cX11_restore 1 = .ok (.aload_n 0, 1) := by decide +kernel
theorem dX11_restore_2 : decode cX11_restore 2 = .ok (.getfield 241, 3) := by decide +kernel
theorem dX11_restore_5 : decode cX11_restore 5 = .ok (.ifCond .eq 7, 3) := by decide +kernel
theorem dX11_restore_8 : decode cX11_restore 8 = .ok (.iconst 0, 1) := by decide +kernel
theorem dX11_restore_9 : decode cX11_restore 9 = .ok (.goto 4, 3) := by decide +kernel
theorem dX11_restore_12 : decode cX11_restore 12 = .ok (.iconst 1, 1) := by decide +kernel
theorem dX11_restore_13 : decode cX11_restore 13 = .ok (.putfield 42, 3) := by decide +kernel
theorem dX11_restore_16 : decode cX11_restore 16 = .ok (.aload_n 0, 1) := by decide +kernel
theorem dX11_restore_17 : decode cX11_restore 17 = .ok (.getfield 241, 3) := by decide +kernel
theorem dX11_restore_20 : decode cX11_restore 20 = .ok (.ifCond .eq 21, 3) := by decide +kernel
theorem dX11_restore_23 : decode cX11_restore 23 = .ok (.aload_n 0, 1) := by decide +kernel
theorem dX11_restore_24 : decode cX11_restore 24 = .ok (.getfield 19, 3) := by decide +kernel
theorem dX11_restore_27 : decode cX11_restore 27 = .ok (.iconst 0, 1) := by decide +kernel
theorem dX11_restore_28 : decode cX11_restore 28 = .ok (.aload_n 0, 1) := by decide +kernel
theorem dX11_restore_29 : decode cX11_restore 29 = .ok (.getfield 7, 3) := by decide +kernel
theorem dX11_restore_32 : decode cX11_restore 32 = .ok (.iconst 0, 1) := by decide +kernel
theorem dX11_restore_33 : decode cX11_restore 33 = .ok (.invokestatic 45, 3) := by decide +kernel
theorem dX11_restore_36 : decode cX11_restore 36 = .ok (.aload_n 0, 1) := by decide +kernel
theorem dX11_restore_37 : decode cX11_restore 37 = .ok (.iconst 0, 1) := by decide +kernel
theorem dX11_restore_38 : decode cX11_restore 38 = .ok (.putfield 49, 3) := by decide +kernel
theorem dX11_restore_41 : decode cX11_restore 41 = .ok (.return_, 1) := by decide +kernel
def f_X11_restore (x_g : (Nat → Int32)) (x_changes : Int32) (x_savedState : (Nat → Int32)) (x_hasSaved : Int32) (x_thrown : Int32) : Option ((Nat → Int32) × Int32 × Int32) :=
  q_lt (fun (j1 : Int32) =>
  q_br (x_hasSaved = 0) (
  some (x_g, x_changes, j1)) (
  q_bd (f_X11_copy x_savedState x_g 77 0 77 0) (fun q2 =>
  some (q2, 0, j1)))) (fun (J13 : Int32 → Option ((Nat → Int32) × Int32 × Int32)) =>
  q_br (x_hasSaved = 0) (
  J13 1) (
  J13 0))
theorem hv_X11_restore : yX11_restore.cls = RX11 ∧ yX11_restore.cls ≠ "java/lang/invoke/MethodHandle" ∧ yX11_restore.cls ≠ "java/lang/invoke/VarHandle" ∧ (parseMethodDescriptor yX11_restore.desc).map (fun d => d.parameters.length) = some 0 := by decide +kernel
abbrev rm_X11_restore : Room := { frames := 1, cells := 0, slots := 0, locals := 24 }
set_option maxHeartbeats 4000000 in
set_option maxRecDepth 100000 in
theorem k_X11_restore (l : Launch) (E : ET) (a : Nat → Nat) (o : Nat) (x : Model_t) (res : (Nat → Int32) × Int32 × Int32) (hF : f_X11_restore x.1.1 x.1.2.2.2.1 x.1.2.2.2.2 x.2.1.1 x.2.2.2.1 = some res) (sz : Nat) : CtV l yX11_restore (mws yX11_restore cX11_restore 1 none) rm_X11_restore 0 0 [.ref (a o)] E (bl_Model E a o x) (bl_Model E a o ((res.1, x.1.2.1, x.1.2.2.1, res.2.1, x.1.2.2.2.2), (x.2.1.1, x.2.1.2.1, x.2.1.2.2.1, x.2.1.2.2.2.1, x.2.1.2.2.2.2), (x.2.2.1.1, x.2.2.1.2.1, x.2.2.1.2.2.1, x.2.2.1.2.2.2), (res.2.2, x.2.2.2.2.1, x.2.2.2.2.2.1, x.2.2.2.2.2.2))) sz := by
  refine mk_M (by decide +kernel) (Nat.le_of_ble_eq_true rfl) ?_
  intro p e s m below meth c A args Q ls hAe hsz hQ hx hb hr hml hin ha hown hlocks hA hz hzs hst hP hD hS hl
  have hown : s.vm.findClass RX11 = some m.cls := hown
  rw [hAe] at hQ
  subst hsz
  have hP : va_P E.1 vwCl (List.flatten [w_Model E a o x]) s.heap := hP
  have hD : va_D A (List.flatten [w_Model E a o x]) := hD
  have hl : lv_has ls 1 [(0, .ref (a o))] := hl
  generalize hHe : s.heap = H at hP
  have hS : va_S A s.heap H [] := by rw [← hHe]; exact hS
  generalize ([] : List Loc) = locs at hS ⊢
  unfold f_X11_restore at hF
  refine lv_aload_n hx hb dX11_restore_0 rfl (lv_at hl 0 rfl) ?_
  refine lv_aload_n hx hb dX11_restore_1 rfl (lv_at hl 0 rfl) ?_
  refine va_get (D := E.1) (ci := 13) (v := .int x.2.1.1) (C := RX11) (T := TX11) (N := 18) hx hb ha in_X11 hown hst.k hP 0 rfl rfl 5 (by decide) (ha _ mw1641) (fun _ h9 => h9) rfl dX11_restore_2 ?_
  obtain ⟨J13, hJ13, hF⟩ := q_jn hF
  have jJ13 : ∀ (j1 : Int32), ∀ (H : Heap) (locs : List Loc) (ls : Array Slot), J13 j1 = some res → va_P E.1 vwCl (List.flatten [w_Model E a o x]) H → va_D A (List.flatten [w_Model E a o x]) → va_S A s.heap H locs → lv_has ls 1 [(0, .ref (a o))] → W p l e rm_X11_restore s m args below meth c H locs 0 0 Q (F0 m 13 ls [.int j1, .ref (a o)]) := by
    intro j1 H locs ls hF hP hD hS hl
    rw [hJ13] at hF
    refine va_put (D := E.1) (ci := 13) (v := .int j1) (ty := .int) (C := RX11) (T := TX11) (N := 18) hx hb ha in_X11 tyX11 tyX11_ok nmX11 hown hst.k hP hD hS 0 rfl rfl 14 (by decide) (ha _ mw1650) (fun _ h9 => h9) rfl (tyX11_ok 14 (by decide)) rfl rfl (Nat.le_of_ble_eq_true rfl) dX11_restore_13 (fun H locs hP hD hS => ?_)
    have hP : va_P E.1 vwCl (List.flatten [w_Model E a o ((x.1.1, x.1.2.1, x.1.2.2.1, x.1.2.2.2.1, x.1.2.2.2.2), (x.2.1.1, x.2.1.2.1, x.2.1.2.2.1, x.2.1.2.2.2.1, x.2.1.2.2.2.2), (x.2.2.1.1, x.2.2.1.2.1, x.2.2.1.2.2.1, x.2.2.1.2.2.2), (j1, x.2.2.2.2.1, x.2.2.2.2.2.1, x.2.2.2.2.2.2))]) H := hP
    have hD : va_D A (List.flatten [w_Model E a o ((x.1.1, x.1.2.1, x.1.2.2.1, x.1.2.2.2.1, x.1.2.2.2.2), (x.2.1.1, x.2.1.2.1, x.2.1.2.2.1, x.2.1.2.2.2.1, x.2.1.2.2.2.2), (x.2.2.1.1, x.2.2.1.2.1, x.2.2.1.2.2.1, x.2.2.1.2.2.2), (j1, x.2.2.2.2.1, x.2.2.2.2.2.1, x.2.2.2.2.2.2))]) := hD
    refine lv_aload_n hx hb dX11_restore_16 rfl (lv_at hl 0 rfl) ?_
    refine va_get (D := E.1) (ci := 13) (v := .int x.2.1.1) (C := RX11) (T := TX11) (N := 18) hx hb ha in_X11 hown hst.k hP 0 rfl rfl 5 (by decide) (ha _ mw1641) (fun _ h9 => h9) rfl dX11_restore_17 ?_
    refine lv_if_eq (tgt := 41) hx hb dX11_restore_20 (by decide) (fun c20 => ?_) (fun c20 => ?_)
    · have hF := q_brp c20 hF
      obtain rfl := Option.some.inj hF
      exact en_v hQ (Nat.le_of_ble_eq_true rfl) (Nat.le_of_ble_eq_true rfl) hx hb hr hlocks hP hD hS dX11_restore_41
    · have hF := q_brn c20 hF
      refine lv_aload_n hx hb dX11_restore_23 rfl (lv_at hl 0 rfl) ?_
      refine va_get (D := E.1) (ci := 13) (v := .ref (a (o + 4))) (C := RX11) (T := TX11) (N := 18) hx hb ha in_X11 hown hst.k hP 0 rfl rfl 4 (by decide) (ha _ mw1640) (fun _ h9 => h9) rfl dX11_restore_24 ?_
      refine lv_iconst (v := 0) hx hb dX11_restore_27 (by decide) ?_
      refine lv_aload_n hx hb dX11_restore_28 rfl (lv_at hl 0 rfl) ?_
      refine va_get (D := E.1) (ci := 13) (v := .ref (a (o + 1))) (C := RX11) (T := TX11) (N := 18) hx hb ha in_X11 hown hst.k hP 0 rfl rfl 0 (by decide) (ha _ mw1636) (fun _ h9 => h9) rfl dX11_restore_29 ?_
      refine lv_iconst (v := 0) hx hb dX11_restore_32 (by decide) ?_
      have hP : va_P E.1 vwCl (List.flatten [[(a o, .inr (13, [.ref (a (o + 1)), .ref (a (o + 2)), .ref (a (o + 3)), .int x.1.2.2.2.1, .ref (a (o + 4)), .int x.2.1.1, .ref (a (o + 5)), .int x.2.1.2.2.1, .int x.2.1.2.2.2.1, .int x.2.1.2.2.2.2, .ref (a (o + 6)), .int x.2.2.1.2.1, .ref (a (o + 7)), .int x.2.2.1.2.2.2, .int j1, .int x.2.2.2.2.1, .int x.2.2.2.2.2.1, .ref (a (o + 8))]))], [(a (o + 1), .inl (E.2 1, 77, .inl x.1.1))], [(a (o + 2), .inl (E.2 1, 77, .inl x.1.2.1))], [(a (o + 3), .inl (E.2 1, 616, .inl x.1.2.2.1))], [(a (o + 4), .inl (E.2 1, 77, .inl x.1.2.2.2.2))], [(a (o + 5), .inl (E.2 2, 60, .inl x.2.1.2.1))], [(a (o + 6), .inl (E.2 2, 80, .inl x.2.2.1.1))], [(a (o + 7), .inl (E.2 1, 24, .inl x.2.2.1.2.2.1))], [(a (o + 8), .inl (E.2 1, 180, .inl x.2.2.2.2.2.2))]]) H := hP
      have hD : va_D A (List.flatten [[(a o, .inr (13, [.ref (a (o + 1)), .ref (a (o + 2)), .ref (a (o + 3)), .int x.1.2.2.2.1, .ref (a (o + 4)), .int x.2.1.1, .ref (a (o + 5)), .int x.2.1.2.2.1, .int x.2.1.2.2.2.1, .int x.2.1.2.2.2.2, .ref (a (o + 6)), .int x.2.2.1.2.1, .ref (a (o + 7)), .int x.2.2.1.2.2.2, .int j1, .int x.2.2.2.2.1, .int x.2.2.2.2.2.1, .ref (a (o + 8))]))], [(a (o + 1), .inl (E.2 1, 77, .inl x.1.1))], [(a (o + 2), .inl (E.2 1, 77, .inl x.1.2.1))], [(a (o + 3), .inl (E.2 1, 616, .inl x.1.2.2.1))], [(a (o + 4), .inl (E.2 1, 77, .inl x.1.2.2.2.2))], [(a (o + 5), .inl (E.2 2, 60, .inl x.2.1.2.1))], [(a (o + 6), .inl (E.2 2, 80, .inl x.2.2.1.1))], [(a (o + 7), .inl (E.2 1, 24, .inl x.2.2.1.2.2.1))], [(a (o + 8), .inl (E.2 1, 180, .inl x.2.2.2.2.2.2))]]) := hD
      obtain ⟨q2, hq2, hF⟩ := q_bdi hF
      refine cl_v (Lc := [[(a (o + 4), .inl (E.2 1, 77, .inl x.1.2.2.2.2))], [(a (o + 1), .inl (E.2 1, 77, .inl x.1.1))]]) (Lc' := [[(a (o + 4), .inl (E.2 1, 77, .inl x.1.2.2.2.2))], [(a (o + 1), .inl (E.2 1, 77, .inl q2))]]) (L' := [[(a o, .inr (13, [.ref (a (o + 1)), .ref (a (o + 2)), .ref (a (o + 3)), .int x.1.2.2.2.1, .ref (a (o + 4)), .int x.2.1.1, .ref (a (o + 5)), .int x.2.1.2.2.1, .int x.2.1.2.2.2.1, .int x.2.1.2.2.2.2, .ref (a (o + 6)), .int x.2.2.1.2.1, .ref (a (o + 7)), .int x.2.2.1.2.2.2, .int j1, .int x.2.2.2.2.1, .int x.2.2.2.2.2.1, .ref (a (o + 8))]))], [(a (o + 1), .inl (E.2 1, 77, .inl q2))], [(a (o + 2), .inl (E.2 1, 77, .inl x.1.2.1))], [(a (o + 3), .inl (E.2 1, 616, .inl x.1.2.2.1))], [(a (o + 4), .inl (E.2 1, 77, .inl x.1.2.2.2.2))], [(a (o + 5), .inl (E.2 2, 60, .inl x.2.1.2.1))], [(a (o + 6), .inl (E.2 2, 80, .inl x.2.2.1.1))], [(a (o + 7), .inl (E.2 1, 24, .inl x.2.2.1.2.2.1))], [(a (o + 8), .inl (E.2 1, 180, .inl x.2.2.2.2.2.2))]]) (va_runS (As := [.ref (a (o + 4)), .int 0, .ref (a (o + 1)), .int 0]) (rest := []) ⟨hx, hb, hml, hown, ha⟩ (k_X11_copy l E a (o + 4) x.1.2.2.2.2 a (o + 1) x.1.1 77 0 77 0 q2 hq2 H.size) (cwS 4 ha (gi_S (fun _ h => h) mw1703 mw1704 mw87 mw1705) rfl rfl rfl hv_X11_copy ⟨(Nat.le_of_ble_eq_true rfl), (Nat.le_of_ble_eq_true rfl)⟩) ⟨pre_blind, pre_at hP hD hS hz hzs hst [4, 1] (by decide) rfl rfl⟩ rfl rfl hl.1 rfl (lv_room (Nat.le_of_ble_eq_true rfl)) dX11_restore_33 ⟨(Nat.le_of_ble_eq_true rfl), (Nat.le_of_ble_eq_true rfl)⟩) hP hD hS hA [4, 1] (by decide) rfl rfl rfl rfl (fun H locs hP hD hS => ?_)
      have hP : va_P E.1 vwCl (List.flatten [w_Model E a o ((q2, x.1.2.1, x.1.2.2.1, x.1.2.2.2.1, x.1.2.2.2.2), (x.2.1.1, x.2.1.2.1, x.2.1.2.2.1, x.2.1.2.2.2.1, x.2.1.2.2.2.2), (x.2.2.1.1, x.2.2.1.2.1, x.2.2.1.2.2.1, x.2.2.1.2.2.2), (j1, x.2.2.2.2.1, x.2.2.2.2.2.1, x.2.2.2.2.2.2))]) H := hP
      have hD : va_D A (List.flatten [w_Model E a o ((q2, x.1.2.1, x.1.2.2.1, x.1.2.2.2.1, x.1.2.2.2.2), (x.2.1.1, x.2.1.2.1, x.2.1.2.2.1, x.2.1.2.2.2.1, x.2.1.2.2.2.2), (x.2.2.1.1, x.2.2.1.2.1, x.2.2.1.2.2.1, x.2.2.1.2.2.2), (j1, x.2.2.2.2.1, x.2.2.2.2.2.1, x.2.2.2.2.2.2))]) := hD
      refine lv_aload_n hx hb dX11_restore_36 rfl (lv_at hl 0 rfl) ?_
      refine lv_iconst (v := 0) hx hb dX11_restore_37 (by decide) ?_
      refine va_put (D := E.1) (ci := 13) (v := .int 0) (ty := .int) (C := RX11) (T := TX11) (N := 18) hx hb ha in_X11 tyX11 tyX11_ok nmX11 hown hst.k hP hD hS 0 rfl rfl 3 (by decide) (ha _ mw1639) (fun _ h9 => h9) rfl (tyX11_ok 3 (by decide)) rfl rfl (Nat.le_of_ble_eq_true rfl) dX11_restore_38 (fun H locs hP hD hS => ?_)
      have hP : va_P E.1 vwCl (List.flatten [w_Model E a o ((q2, x.1.2.1, x.1.2.2.1, 0, x.1.2.2.2.2), (x.2.1.1, x.2.1.2.1, x.2.1.2.2.1, x.2.1.2.2.2.1, x.2.1.2.2.2.2), (x.2.2.1.1, x.2.2.1.2.1, x.2.2.1.2.2.1, x.2.2.1.2.2.2), (j1, x.2.2.2.2.1, x.2.2.2.2.2.1, x.2.2.2.2.2.2))]) H := hP
      have hD : va_D A (List.flatten [w_Model E a o ((q2, x.1.2.1, x.1.2.2.1, 0, x.1.2.2.2.2), (x.2.1.1, x.2.1.2.1, x.2.1.2.2.1, x.2.1.2.2.2.1, x.2.1.2.2.2.2), (x.2.2.1.1, x.2.2.1.2.1, x.2.2.1.2.2.1, x.2.2.1.2.2.2), (j1, x.2.2.2.2.1, x.2.2.2.2.2.1, x.2.2.2.2.2.2))]) := hD
      obtain rfl := Option.some.inj hF
      exact en_v hQ (Nat.le_of_ble_eq_true rfl) (Nat.le_of_ble_eq_true rfl) hx hb hr hlocks hP hD hS dX11_restore_41
  refine lv_if_eq (tgt := 12) hx hb dX11_restore_5 (by decide) (fun c5 => ?_) (fun c5 => ?_)
  · have hF := q_brp c5 hF
    refine lv_iconst (v := 1) hx hb dX11_restore_12 (by decide) ?_
    exact jJ13 1 H locs ls hF hP hD hS (lv_sub hl [0] rfl)
  · have hF := q_brn c5 hF
    refine lv_iconst (v := 0) hx hb dX11_restore_8 (by decide) ?_
    refine lv_goto (tgt := 13) hx hb dX11_restore_9 (by decide) ?_
    exact jJ13 0 H locs ls hF hP hD hS (lv_sub hl [0] rfl)
