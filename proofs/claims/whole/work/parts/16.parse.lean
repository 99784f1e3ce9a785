/-! X11_parsesT -/
theorem dX11_parsesT_0 : decode cX11_parsesT 0 = .ok (.aload_n 0, 1) := by decide +kernel
theorem dX11_parsesT_1 : decode cX11_parsesT 1 = .ok (.invokevirtual 194, 3) := by decide +kernel
theorem dX11_parsesT_4 : decode cX11_parsesT 4 = .ok (.bipush 117, 2) := by decide +kernel
theorem dX11_parsesT_6 : decode cX11_parsesT 6 = .ok (.if_icmp .ne 50, 3) := by decide +kernel
theorem dX11_parsesT_9 : decode cX11_parsesT 9 = .ok (.aload_n 0, 1) := by decide +kernel
theorem dX11_parsesT_10 : decode cX11_parsesT 10 = .ok (.getfield 39, 3) := by decide +kernel
theorem dX11_parsesT_13 : decode cX11_parsesT 13 = .ok (.iload_n 1, 1) := by decide +kernel
theorem dX11_parsesT_14 : decode cX11_parsesT 14 = .ok (.bipush 117, 2) := by decide +kernel
theorem dX11_parsesT_16 : decode cX11_parsesT 16 = .ok (.iastore, 1) := by decide +kernel
theorem dX11_parsesT_17 : decode cX11_parsesT 17 = .ok (.aload_n 0, 1) := by decide +kernel
theorem dX11_parsesT_18 : decode cX11_parsesT 18 = .ok (.bipush 117, 2) := by decide +kernel
theorem dX11_parsesT_20 : decode cX11_parsesT 20 = .ok (.bipush 110, 2) := by decide +kernel
theorem dX11_parsesT_22 : decode cX11_parsesT 22 = .ok (.bipush 101, 2) := by decide +kernel
theorem dX11_parsesT_24 : decode cX11_parsesT 24 = .ok (.invokevirtual 204, 3) := by decide +kernel
theorem dX11_parsesT_27 : decode cX11_parsesT 27 = .ok (.aload_n 0, 1) := by decide +kernel
theorem dX11_parsesT_28 : decode cX11_parsesT 28 = .ok (.getfield 39, 3) := by decide +kernel
theorem dX11_parsesT_31 : decode cX11_parsesT 31 = .ok (.iload_n 1, 1) := by decide +kernel
theorem dX11_parsesT_32 : decode cX11_parsesT 32 = .ok (.iconst 1, 1) := by decide +kernel
theorem dX11_parsesT_33 : decode cX11_parsesT 33 = .ok (.iadd, 1) := by decide +kernel
theorem dX11_parsesT_34 : decode cX11_parsesT 34 = .ok (.aload_n 0, 1) := by decide +kernel
theorem dX11_parsesT_35 : decode cX11_parsesT 35 = .ok (.iconst 1, 1) := by decide +kernel
theorem dX11_parsesT_36 : decode cX11_parsesT 36 = .ok (.iconst 2, 1) := by decide +kernel
theorem dX11_parsesT_37 : decode cX11_parsesT 37 = .ok (.invokevirtual 208, 3) := by decide +kernel
theorem dX11_parsesT_40 : decode cX11_parsesT 40 = .ok (.iastore, 1) := by decide +kernel
theorem dX11_parsesT_41 : decode cX11_parsesT 41 = .ok (.aload_n 0, 1) := by decide +kernel
theorem dX11_parsesT_42 : decode cX11_parsesT 42 = .ok (.getfield 39, 3) := by decide +kernel
theorem dX11_parsesT_45 : decode cX11_parsesT 45 = .ok (.iload_n 1, 1) := by decide +kernel
theorem dX11_parsesT_46 : decode cX11_parsesT 46 = .ok (.iconst 2, 1) := by decide +kernel
theorem dX11_parsesT_47 : decode cX11_parsesT 47 = .ok (.iadd, 1) := by decide +kernel
theorem dX11_parsesT_48 : decode cX11_parsesT 48 = .ok (.aload_n 0, 1) := by decide +kernel
theorem dX11_parsesT_49 : decode cX11_parsesT 49 = .ok (.invokevirtual 211, 3) := by decide +kernel
theorem dX11_parsesT_52 : decode cX11_parsesT 52 = .ok (.iastore, 1) := by decide +kernel
theorem dX11_parsesT_53 : decode cX11_parsesT 53 = .ok (.goto 116, 3) := by decide +kernel
theorem dX11_parsesT_56 : decode cX11_parsesT 56 = .ok (.aload_n 0, 1) := by decide +kernel
theorem dX11_parsesT_57 : decode cX11_parsesT 57 = .ok (.bipush 111, 2) := by decide +kernel
theorem dX11_parsesT_59 : decode cX11_parsesT 59 = .ok (.invokevirtual 198, 3) := by decide +kernel
theorem dX11_parsesT_62 : decode cX11_parsesT 62 = .ok (.aload_n 0, 1) := by decide +kernel
theorem dX11_parsesT_63 : decode cX11_parsesT 63 = .ok (.getfield 190, 3) := by decide +kernel
theorem dX11_parsesT_66 : decode cX11_parsesT 66 = .ok (.ifCond .ne 63, 3) := by decide +kernel
theorem dX11_parsesT_69 : decode cX11_parsesT 69 = .ok (.aload_n 0, 1) := by decide +kernel
theorem dX11_parsesT_70 : decode cX11_parsesT 70 = .ok (.invokevirtual 194, 3) := by decide +kernel
theorem dX11_parsesT_73 : decode cX11_parsesT 73 = .ok (.bipush 108, 2) := by decide +kernel
theorem dX11_parsesT_75 : decode cX11_parsesT 75 = .ok (.if_icmp .ne 54, 3) := by decide +kernel
theorem dX11_parsesT_78 : decode cX11_parsesT 78 = .ok (.aload_n 0, 1) := by decide +kernel
theorem dX11_parsesT_79 : decode cX11_parsesT 79 = .ok (.getfield 39, 3) := by decide +kernel
theorem dX11_parsesT_82 : decode cX11_parsesT 82 = .ok (.iload_n 1, 1) := by decide +kernel
theorem dX11_parsesT_83 : decode cX11_parsesT 83 = .ok (.bipush 108, 2) := by decide +kernel
theorem dX11_parsesT_85 : decode cX11_parsesT 85 = .ok (.iastore, 1) := by decide +kernel
theorem dX11_parsesT_86 : decode cX11_parsesT 86 = .ok (.aload_n 0, 1) := by decide +kernel
theorem dX11_parsesT_87 : decode cX11_parsesT 87 = .ok (.bipush 108, 2) := by decide +kernel
theorem dX11_parsesT_89 : decode cX11_parsesT 89 = .ok (.bipush 101, 2) := by decide +kernel
theorem dX11_parsesT_91 : decode cX11_parsesT 91 = .ok (.bipush 114, 2) := by decide +kernel
theorem dX11_parsesT_93 : decode cX11_parsesT 93 = .ok (.invokevirtual 204, 3) := by decide +kernel
theorem dX11_parsesT_96 : decode cX11_parsesT 96 = .ok (.aload_n 0, 1) := by decide +kernel
theorem dX11_parsesT_97 : decode cX11_parsesT 97 = .ok (.bipush 97, 2) := by decide +kernel
theorem dX11_parsesT_99 : decode cX11_parsesT 99 = .ok (.bipush 110, 2) := by decide +kernel
theorem dX11_parsesT_101 : decode cX11_parsesT 101 = .ok (.bipush 99, 2) := by decide +kernel
theorem dX11_parsesT_103 : decode cX11_parsesT 103 = .ok (.invokevirtual 204, 3) := by decide +kernel
theorem dX11_parsesT_106 : decode cX11_parsesT 106 = .ok (.aload_n 0, 1) := by decide +kernel
theorem dX11_parsesT_107 : decode cX11_parsesT 107 = .ok (.bipush 101, 2) := by decide +kernel
theorem dX11_parsesT_109 : decode cX11_parsesT 109 = .ok (.invokevirtual 198, 3) := by decide +kernel
theorem dX11_parsesT_112 : decode cX11_parsesT 112 = .ok (.aload_n 0, 1) := by decide +kernel
theorem dX11_parsesT_113 : decode cX11_parsesT 113 = .ok (.getfield 39, 3) := by decide +kernel
theorem dX11_parsesT_116 : decode cX11_parsesT 116 = .ok (.iload_n 1, 1) := by decide +kernel
theorem dX11_parsesT_117 : decode cX11_parsesT 117 = .ok (.iconst 1, 1) := by decide +kernel
theorem dX11_parsesT_118 : decode cX11_parsesT 118 = .ok (.iadd, 1) := by decide +kernel
theorem dX11_parsesT_119 : decode cX11_parsesT 119 = .ok (.aload_n 0, 1) := by decide +kernel
theorem dX11_parsesT_120 : decode cX11_parsesT 120 = .ok (.iconst 1, 1) := by decide +kernel
theorem dX11_parsesT_121 : decode cX11_parsesT 121 = .ok (.iconst 2, 1) := by decide +kernel
theorem dX11_parsesT_122 : decode cX11_parsesT 122 = .ok (.invokevirtual 208, 3) := by decide +kernel
theorem dX11_parsesT_125 : decode cX11_parsesT 125 = .ok (.iastore, 1) := by decide +kernel
theorem dX11_parsesT_126 : decode cX11_parsesT 126 = .ok (.goto 43, 3) := by decide +kernel
theorem dX11_parsesT_129 : decode cX11_parsesT 129 = .ok (.aload_n 0, 1) := by decide +kernel
theorem dX11_parsesT_130 : decode cX11_parsesT 130 = .ok (.bipush 110, 2) := by decide +kernel
theorem dX11_parsesT_132 : decode cX11_parsesT 132 = .ok (.invokevirtual 198, 3) := by decide +kernel
theorem dX11_parsesT_135 : decode cX11_parsesT 135 = .ok (.aload_n 0, 1) := by decide +kernel
theorem dX11_parsesT_136 : decode cX11_parsesT 136 = .ok (.bipush 101, 2) := by decide +kernel
theorem dX11_parsesT_138 : decode cX11_parsesT 138 = .ok (.invokevirtual 198, 3) := by decide +kernel
theorem dX11_parsesT_141 : decode cX11_parsesT 141 = .ok (.aload_n 0, 1) := by decide +kernel
theorem dX11_parsesT_142 : decode cX11_parsesT 142 = .ok (.getfield 39, 3) := by decide +kernel
theorem dX11_parsesT_145 : decode cX11_parsesT 145 = .ok (.iload_n 1, 1) := by decide +kernel
theorem dX11_parsesT_146 : decode cX11_parsesT 146 = .ok (.iconst 1, 1) := by decide +kernel
theorem dX11_parsesT_147 : decode cX11_parsesT 147 = .ok (.iadd, 1) := by decide +kernel
theorem dX11_parsesT_148 : decode cX11_parsesT 148 = .ok (.aload_n 0, 1) := by decide +kernel
theorem dX11_parsesT_149 : decode cX11_parsesT 149 = .ok (.iconst 1, 1) := by decide +kernel
theorem dX11_parsesT_150 : decode cX11_parsesT 150 = .ok (.iconst 1, 1) := by decide +kernel
theorem dX11_parsesT_151 : decode cX11_parsesT 151 = .ok (.invokevirtual 208, 3) := by decide +kernel
theorem dX11_parsesT_154 : decode cX11_parsesT 154 = .ok (.iastore, 1) := by decide +kernel
theorem dX11_parsesT_155 : decode cX11_parsesT 155 = .ok (.aload_n 0, 1) := by decide +kernel
theorem dX11_parsesT_156 : decode cX11_parsesT 156 = .ok (.getfield 39, 3) := by decide +kernel
theorem dX11_parsesT_159 : decode cX11_parsesT 159 = .ok (.iload_n 1, 1) := by decide +kernel
theorem dX11_parsesT_160 : decode cX11_parsesT 160 = .ok (.iconst 2, 1) := by decide +kernel
theorem dX11_parsesT_161 : decode cX11_parsesT 161 = .ok (.iadd, 1) := by decide +kernel
theorem dX11_parsesT_162 : decode cX11_parsesT 162 = .ok (.aload_n 0, 1) := by decide +kernel
theorem dX11_parsesT_163 : decode cX11_parsesT 163 = .ok (.iconst 1, 1) := by decide +kernel
theorem dX11_parsesT_164 : decode cX11_parsesT 164 = .ok (.iconst 2, 1) := by decide +kernel
theorem dX11_parsesT_165 : decode cX11_parsesT 165 = .ok (.invokevirtual 208, 3) := by decide +kernel
theorem dX11_parsesT_168 : decode cX11_parsesT 168 = .ok (.iastore, 1) := by decide +kernel
theorem dX11_parsesT_169 : decode cX11_parsesT 169 = .ok (.return_, 1) := by decide +kernel
def f_X11_parsesT (x_buffer : (Nat → Int32)) (x_typed : Int32) (x_spot : Int32) (x_isWrong : Int32) (x_parsed : (Nat → Int32)) (p1 : Int32) : Option (Int32 × Int32 × (Nat → Int32)) :=
  q_bd (f_X11_here x_buffer x_typed x_spot) (fun q1 =>
  q_br (q1 = 117) (
  q_gd (q_in p1 180) (
  q_lt (upd x_parsed (p1.toNatClampNeg) 117) (fun u21 =>
  q_bd (f_X11_needsThree x_buffer x_typed x_spot x_isWrong 117 110 101) (fun q22 =>
  q_bd (f_X11_afterBlank x_buffer x_typed q22.1 q22.2 1 2) (fun q23 =>
  q_gd (q_in (p1 + 1) 180) (
  q_lt (upd u21 ((p1 + 1).toNatClampNeg) q23.1) (fun u25 =>
  q_bd (f_X11_signed x_buffer x_typed q23.2.1 q23.2.2) (fun q26 =>
  q_gd (q_in (p1 + 2) 180) (
  q_lt (upd u25 ((p1 + 2).toNatClampNeg) q26.1) (fun u28 =>
  some (q26.2.1, q26.2.2, u28))))))))))) (
  q_bd (f_X11_needs x_buffer x_typed x_spot x_isWrong 111) (fun q2 =>
  q_lt (fun (_ : Unit) =>
  q_bd (f_X11_needs x_buffer x_typed q2.1 q2.2 110) (fun q3 =>
  q_bd (f_X11_needs x_buffer x_typed q3.1 q3.2 101) (fun q4 =>
  q_bd (f_X11_afterBlank x_buffer x_typed q4.1 q4.2 1 1) (fun q5 =>
  q_gd (q_in (p1 + 1) 180) (
  q_lt (upd x_parsed ((p1 + 1).toNatClampNeg) q5.1) (fun u7 =>
  q_bd (f_X11_afterBlank x_buffer x_typed q5.2.1 q5.2.2 1 2) (fun q8 =>
  q_gd (q_in (p1 + 2) 180) (
  q_lt (upd u7 ((p1 + 2).toNatClampNeg) q8.1) (fun u10 =>
  some (q8.2.1, q8.2.2, u10)))))))))) (fun (J129 : Unit → Option (Int32 × Int32 × (Nat → Int32))) =>
  q_br (q2.2 = 0) (
  q_bd (f_X11_here x_buffer x_typed q2.1) (fun q11 =>
  q_br (q11 = 108) (
  q_gd (q_in p1 180) (
  q_lt (upd x_parsed (p1.toNatClampNeg) 108) (fun u13 =>
  q_bd (f_X11_needsThree x_buffer x_typed q2.1 q2.2 108 101 114) (fun q14 =>
  q_bd (f_X11_needsThree x_buffer x_typed q14.1 q14.2 97 110 99) (fun q15 =>
  q_bd (f_X11_needs x_buffer x_typed q15.1 q15.2 101) (fun q16 =>
  q_bd (f_X11_afterBlank x_buffer x_typed q16.1 q16.2 1 2) (fun q17 =>
  q_gd (q_in (p1 + 1) 180) (
  q_lt (upd u13 ((p1 + 1).toNatClampNeg) q17.1) (fun u19 =>
  some (q17.2.1, q17.2.2, u19)))))))))) (
  J129 (())))) (
  J129 (()))))))
theorem hv_X11_parsesT : yX11_parsesT.cls = RX11 ∧ yX11_parsesT.cls ≠ "java/lang/invoke/MethodHandle" ∧ yX11_parsesT.cls ≠ "java/lang/invoke/VarHandle" ∧ (parseMethodDescriptor yX11_parsesT.desc).map (fun d => d.parameters.length) = some 1 := by decide +kernel
abbrev rm_X11_parsesT : Room := { frames := 3, cells := 0, slots := 0, locals := 68 }
set_option maxHeartbeats 4000000 in
set_option maxRecDepth 100000 in
theorem k_X11_parsesT (l : Launch) (E : ET) (a : Nat → Nat) (o : Nat) (x : Model_t) (p1 : Int32) (res : Int32 × Int32 × (Nat → Int32)) (hF : f_X11_parsesT x.2.1.2.1 x.2.1.2.2.1 x.2.2.2.2.1 x.2.2.2.2.2.1 x.2.2.2.2.2.2 p1 = some res) (sz : Nat) : CtV l yX11_parsesT (mws yX11_parsesT cX11_parsesT 2 none) rm_X11_parsesT 0 0 [.ref (a o), .int p1] E (bl_Model E a o x) (bl_Model E a o ((x.1.1, x.1.2.1, x.1.2.2.1, x.1.2.2.2.1, x.1.2.2.2.2), (x.2.1.1, x.2.1.2.1, x.2.1.2.2.1, x.2.1.2.2.2.1, x.2.1.2.2.2.2), (x.2.2.1.1, x.2.2.1.2.1, x.2.2.1.2.2.1, x.2.2.1.2.2.2), (x.2.2.2.1, res.1, res.2.1, res.2.2))) sz := by
  refine mk_M (by decide +kernel) (Nat.le_of_ble_eq_true rfl) ?_
  intro p e s m below meth c A args Q ls hAe hsz hQ hx hb hr hml hin ha hown hlocks hA hz hzs hst hP hD hS hl
  have hown : s.vm.findClass RX11 = some m.cls := hown
  rw [hAe] at hQ
  subst hsz
  have hP : va_P E.1 vwCl (List.flatten [w_Model E a o x]) s.heap := hP
  have hD : va_D A (List.flatten [w_Model E a o x]) := hD
  have hl : lv_has ls 2 [(0, .ref (a o)), (1, .int p1)] := hl
  generalize hHe : s.heap = H at hP
  have hS : va_S A s.heap H [] := by rw [← hHe]; exact hS
  generalize ([] : List Loc) = locs at hS ⊢
  unfold f_X11_parsesT at hF
  refine lv_aload_n hx hb dX11_parsesT_0 rfl (lv_at hl 0 rfl) ?_
  obtain ⟨q1, hq1, hF⟩ := q_bdi hF
  refine cl_i (Lc := [w_Model E a o x]) (Lc' := [w_Model E a o x]) (L' := [w_Model E a o x]) (rv := q1) (va_runV (As := []) (rest := []) ⟨hx, hb, hml, hown, ha⟩ (k_X11_here l E a o x q1 hq1 H.size) (cwV 0 ha (gi_V (fun _ h => h) mw2038 mw2040 mw60 mw87 mw2041) rfl rfl rfl hv_X11_here ⟨(Nat.le_of_ble_eq_true rfl), (Nat.le_of_ble_eq_true rfl)⟩) ⟨pre_blind, va_recv hst.k (fr_P hP [0] rfl) (ci := 13) (q0 := 0) rfl rfl, pre_at hP hD hS hz hzs hst [0] (by decide) rfl rfl⟩ rfl rfl hl.1 rfl (lv_room (Nat.le_of_ble_eq_true rfl)) dX11_parsesT_1 ⟨(Nat.le_of_ble_eq_true rfl), (Nat.le_of_ble_eq_true rfl)⟩) hP hD hS hA [0] (by decide) rfl rfl rfl rfl (fun H locs hP hD hS => ?_)
  refine lv_bipush (v := 117) hx hb dX11_parsesT_4 (by decide) ?_
  refine lv_icmp_ne (tgt := 56) hx hb dX11_parsesT_6 (by decide) (fun c6 => ?_) (fun c6 => ?_)
  · have hF := q_brn c6 hF
    refine lv_aload_n hx hb dX11_parsesT_56 rfl (lv_at hl 0 rfl) ?_
    refine lv_bipush (v := 111) hx hb dX11_parsesT_57 (by decide) ?_
    obtain ⟨q2, hq2, hF⟩ := q_bdi hF
    refine cl_v (Lc := [w_Model E a o x]) (Lc' := [w_Model E a o ((x.1.1, x.1.2.1, x.1.2.2.1, x.1.2.2.2.1, x.1.2.2.2.2), (x.2.1.1, x.2.1.2.1, x.2.1.2.2.1, x.2.1.2.2.2.1, x.2.1.2.2.2.2), (x.2.2.1.1, x.2.2.1.2.1, x.2.2.1.2.2.1, x.2.2.1.2.2.2), (x.2.2.2.1, q2.1, q2.2, x.2.2.2.2.2.2))]) (L' := [w_Model E a o ((x.1.1, x.1.2.1, x.1.2.2.1, x.1.2.2.2.1, x.1.2.2.2.2), (x.2.1.1, x.2.1.2.1, x.2.1.2.2.1, x.2.1.2.2.2.1, x.2.1.2.2.2.2), (x.2.2.1.1, x.2.2.1.2.1, x.2.2.1.2.2.1, x.2.2.1.2.2.2), (x.2.2.2.1, q2.1, q2.2, x.2.2.2.2.2.2))]) (va_runV (As := [.int 111]) (rest := []) ⟨hx, hb, hml, hown, ha⟩ (k_X11_needs l E a o x 111 q2 hq2 H.size) (cwV 1 ha (gi_V (fun _ h => h) mw2046 mw2048 mw62 mw87 mw2049) rfl rfl rfl hv_X11_needs ⟨(Nat.le_of_ble_eq_true rfl), (Nat.le_of_ble_eq_true rfl)⟩) ⟨pre_blind, va_recv hst.k (fr_P hP [0] rfl) (ci := 13) (q0 := 0) rfl rfl, pre_at hP hD hS hz hzs hst [0] (by decide) rfl rfl⟩ rfl rfl hl.1 rfl (lv_room (Nat.le_of_ble_eq_true rfl)) dX11_parsesT_59 ⟨(Nat.le_of_ble_eq_true rfl), (Nat.le_of_ble_eq_true rfl)⟩) hP hD hS hA [0] (by decide) rfl rfl rfl rfl (fun H locs hP hD hS => ?_)
    refine lv_aload_n hx hb dX11_parsesT_62 rfl (lv_at hl 0 rfl) ?_
    refine va_get (D := E.1) (ci := 13) (v := .int q2.2) (C := RX11) (T := TX11) (N := 18) hx hb ha in_X11 hown hst.k hP 0 rfl rfl 16 (by decide) (ha _ mw1652) (fun _ h9 => h9) rfl dX11_parsesT_63 ?_
    obtain ⟨J129, hJ129, hF⟩ := q_jn hF
    have jJ129 : ∀ (H : Heap) (locs : List Loc) (ls : Array Slot), J129 () = some res → va_P E.1 vwCl (List.flatten [w_Model E a o ((x.1.1, x.1.2.1, x.1.2.2.1, x.1.2.2.2.1, x.1.2.2.2.2), (x.2.1.1, x.2.1.2.1, x.2.1.2.2.1, x.2.1.2.2.2.1, x.2.1.2.2.2.2), (x.2.2.1.1, x.2.2.1.2.1, x.2.2.1.2.2.1, x.2.2.1.2.2.2), (x.2.2.2.1, q2.1, q2.2, x.2.2.2.2.2.2))]) H → va_D A (List.flatten [w_Model E a o ((x.1.1, x.1.2.1, x.1.2.2.1, x.1.2.2.2.1, x.1.2.2.2.2), (x.2.1.1, x.2.1.2.1, x.2.1.2.2.1, x.2.1.2.2.2.1, x.2.1.2.2.2.2), (x.2.2.1.1, x.2.2.1.2.1, x.2.2.1.2.2.1, x.2.2.1.2.2.2), (x.2.2.2.1, q2.1, q2.2, x.2.2.2.2.2.2))]) → va_S A s.heap H locs → lv_has ls 2 [(0, .ref (a o)), (1, .int p1)] → W p l e rm_X11_parsesT s m args below meth c H locs 0 0 Q (F0 m 129 ls []) := by
      intro  H locs ls hF hP hD hS hl
      rw [hJ129] at hF
      refine lv_aload_n hx hb dX11_parsesT_129 rfl (lv_at hl 0 rfl) ?_
      refine lv_bipush (v := 110) hx hb dX11_parsesT_130 (by decide) ?_
      obtain ⟨q3, hq3, hF⟩ := q_bdi hF
      refine cl_v (Lc := [w_Model E a o ((x.1.1, x.1.2.1, x.1.2.2.1, x.1.2.2.2.1, x.1.2.2.2.2), (x.2.1.1, x.2.1.2.1, x.2.1.2.2.1, x.2.1.2.2.2.1, x.2.1.2.2.2.2), (x.2.2.1.1, x.2.2.1.2.1, x.2.2.1.2.2.1, x.2.2.1.2.2.2), (x.2.2.2.1, q2.1, q2.2, x.2.2.2.2.2.2))]) (Lc' := [w_Model E a o ((x.1.1, x.1.2.1, x.1.2.2.1, x.1.2.2.2.1, x.1.2.2.2.2), (x.2.1.1, x.2.1.2.1, x.2.1.2.2.1, x.2.1.2.2.2.1, x.2.1.2.2.2.2), (x.2.2.1.1, x.2.2.1.2.1, x.2.2.1.2.2.1, x.2.2.1.2.2.2), (x.2.2.2.1, q3.1, q3.2, x.2.2.2.2.2.2))]) (L' := [w_Model E a o ((x.1.1, x.1.2.1, x.1.2.2.1, x.1.2.2.2.1, x.1.2.2.2.2), (x.2.1.1, x.2.1.2.1, x.2.1.2.2.1, x.2.1.2.2.2.1, x.2.1.2.2.2.2), (x.2.2.1.1, x.2.2.1.2.1, x.2.2.1.2.2.1, x.2.2.1.2.2.2), (x.2.2.2.1, q3.1, q3.2, x.2.2.2.2.2.2))]) (va_runV (As := [.int 110]) (rest := []) ⟨hx, hb, hml, hown, ha⟩ (k_X11_needs l E a o ((x.1.1, x.1.2.1, x.1.2.2.1, x.1.2.2.2.1, x.1.2.2.2.2), (x.2.1.1, x.2.1.2.1, x.2.1.2.2.1, x.2.1.2.2.2.1, x.2.1.2.2.2.2), (x.2.2.1.1, x.2.2.1.2.1, x.2.2.1.2.2.1, x.2.2.1.2.2.2), (x.2.2.2.1, q2.1, q2.2, x.2.2.2.2.2.2)) 110 q3 hq3 H.size) (cwV 1 ha (gi_V (fun _ h => h) mw2046 mw2048 mw62 mw87 mw2049) rfl rfl rfl hv_X11_needs ⟨(Nat.le_of_ble_eq_true rfl), (Nat.le_of_ble_eq_true rfl)⟩) ⟨pre_blind, va_recv hst.k (fr_P hP [0] rfl) (ci := 13) (q0 := 0) rfl rfl, pre_at hP hD hS hz hzs hst [0] (by decide) rfl rfl⟩ rfl rfl hl.1 rfl (lv_room (Nat.le_of_ble_eq_true rfl)) dX11_parsesT_132 ⟨(Nat.le_of_ble_eq_true rfl), (Nat.le_of_ble_eq_true rfl)⟩) hP hD hS hA [0] (by decide) rfl rfl rfl rfl (fun H locs hP hD hS => ?_)
      refine lv_aload_n hx hb dX11_parsesT_135 rfl (lv_at hl 0 rfl) ?_
      refine lv_bipush (v := 101) hx hb dX11_parsesT_136 (by decide) ?_
      obtain ⟨q4, hq4, hF⟩ := q_bdi hF
      refine cl_v (Lc := [w_Model E a o ((x.1.1, x.1.2.1, x.1.2.2.1, x.1.2.2.2.1, x.1.2.2.2.2), (x.2.1.1, x.2.1.2.1, x.2.1.2.2.1, x.2.1.2.2.2.1, x.2.1.2.2.2.2), (x.2.2.1.1, x.2.2.1.2.1, x.2.2.1.2.2.1, x.2.2.1.2.2.2), (x.2.2.2.1, q3.1, q3.2, x.2.2.2.2.2.2))]) (Lc' := [w_Model E a o ((x.1.1, x.1.2.1, x.1.2.2.1, x.1.2.2.2.1, x.1.2.2.2.2), (x.2.1.1, x.2.1.2.1, x.2.1.2.2.1, x.2.1.2.2.2.1, x.2.1.2.2.2.2), (x.2.2.1.1, x.2.2.1.2.1, x.2.2.1.2.2.1, x.2.2.1.2.2.2), (x.2.2.2.1, q4.1, q4.2, x.2.2.2.2.2.2))]) (L' := [w_Model E a o ((x.1.1, x.1.2.1, x.1.2.2.1, x.1.2.2.2.1, x.1.2.2.2.2), (x.2.1.1, x.2.1.2.1, x.2.1.2.2.1, x.2.1.2.2.2.1, x.2.1.2.2.2.2), (x.2.2.1.1, x.2.2.1.2.1, x.2.2.1.2.2.1, x.2.2.1.2.2.2), (x.2.2.2.1, q4.1, q4.2, x.2.2.2.2.2.2))]) (va_runV (As := [.int 101]) (rest := []) ⟨hx, hb, hml, hown, ha⟩ (k_X11_needs l E a o ((x.1.1, x.1.2.1, x.1.2.2.1, x.1.2.2.2.1, x.1.2.2.2.2), (x.2.1.1, x.2.1.2.1, x.2.1.2.2.1, x.2.1.2.2.2.1, x.2.1.2.2.2.2), (x.2.2.1.1, x.2.2.1.2.1, x.2.2.1.2.2.1, x.2.2.1.2.2.2), (x.2.2.2.1, q3.1, q3.2, x.2.2.2.2.2.2)) 101 q4 hq4 H.size) (cwV 1 ha (gi_V (fun _ h => h) mw2046 mw2048 mw62 mw87 mw2049) rfl rfl rfl hv_X11_needs ⟨(Nat.le_of_ble_eq_true rfl), (Nat.le_of_ble_eq_true rfl)⟩) ⟨pre_blind, va_recv hst.k (fr_P hP [0] rfl) (ci := 13) (q0 := 0) rfl rfl, pre_at hP hD hS hz hzs hst [0] (by decide) rfl rfl⟩ rfl rfl hl.1 rfl (lv_room (Nat.le_of_ble_eq_true rfl)) dX11_parsesT_138 ⟨(Nat.le_of_ble_eq_true rfl), (Nat.le_of_ble_eq_true rfl)⟩) hP hD hS hA [0] (by decide) rfl rfl rfl rfl (fun H locs hP hD hS => ?_)
      refine lv_aload_n hx hb dX11_parsesT_141 rfl (lv_at hl 0 rfl) ?_
      refine va_get (D := E.1) (ci := 13) (v := .ref (a (o + 8))) (C := RX11) (T := TX11) (N := 18) hx hb ha in_X11 hown hst.k hP 0 rfl rfl 17 (by decide) (ha _ mw1653) (fun _ h9 => h9) rfl dX11_parsesT_142 ?_
      refine lv_iload_n hx hb dX11_parsesT_145 rfl (lv_at hl 1 rfl) ?_
      refine lv_iconst (v := 1) hx hb dX11_parsesT_146 (by decide) ?_
      refine lv_iadd hx hb dX11_parsesT_147 ?_
      refine lv_aload_n hx hb dX11_parsesT_148 rfl (lv_at hl 0 rfl) ?_
      refine lv_iconst (v := 1) hx hb dX11_parsesT_149 (by decide) ?_
      refine lv_iconst (v := 1) hx hb dX11_parsesT_150 (by decide) ?_
      obtain ⟨q5, hq5, hF⟩ := q_bdi hF
      refine cl_i (Lc := [w_Model E a o ((x.1.1, x.1.2.1, x.1.2.2.1, x.1.2.2.2.1, x.1.2.2.2.2), (x.2.1.1, x.2.1.2.1, x.2.1.2.2.1, x.2.1.2.2.2.1, x.2.1.2.2.2.2), (x.2.2.1.1, x.2.2.1.2.1, x.2.2.1.2.2.1, x.2.2.1.2.2.2), (x.2.2.2.1, q4.1, q4.2, x.2.2.2.2.2.2))]) (Lc' := [w_Model E a o ((x.1.1, x.1.2.1, x.1.2.2.1, x.1.2.2.2.1, x.1.2.2.2.2), (x.2.1.1, x.2.1.2.1, x.2.1.2.2.1, x.2.1.2.2.2.1, x.2.1.2.2.2.2), (x.2.2.1.1, x.2.2.1.2.1, x.2.2.1.2.2.1, x.2.2.1.2.2.2), (x.2.2.2.1, q5.2.1, q5.2.2, x.2.2.2.2.2.2))]) (L' := [w_Model E a o ((x.1.1, x.1.2.1, x.1.2.2.1, x.1.2.2.2.1, x.1.2.2.2.2), (x.2.1.1, x.2.1.2.1, x.2.1.2.2.1, x.2.1.2.2.2.1, x.2.1.2.2.2.2), (x.2.2.1.1, x.2.2.1.2.1, x.2.2.1.2.2.1, x.2.2.1.2.2.2), (x.2.2.2.1, q5.2.1, q5.2.2, x.2.2.2.2.2.2))]) (rv := q5.1) (va_runV (As := [.int 1, .int 1]) (rest := [.int (p1 + 1), .ref (a (o + 8))]) ⟨hx, hb, hml, hown, ha⟩ (k_X11_afterBlank l E a o ((x.1.1, x.1.2.1, x.1.2.2.1, x.1.2.2.2.1, x.1.2.2.2.2), (x.2.1.1, x.2.1.2.1, x.2.1.2.2.1, x.2.1.2.2.2.1, x.2.1.2.2.2.2), (x.2.2.1.1, x.2.2.1.2.1, x.2.2.1.2.2.1, x.2.2.1.2.2.2), (x.2.2.2.1, q4.1, q4.2, x.2.2.2.2.2.2)) 1 1 q5 hq5 H.size) (cwV 2 ha (gi_V (fun _ h => h) mw2050 mw2052 mw63 mw87 mw2053) rfl rfl rfl hv_X11_afterBlank ⟨(Nat.le_of_ble_eq_true rfl), (Nat.le_of_ble_eq_true rfl)⟩) ⟨pre_blind, va_recv hst.k (fr_P hP [0] rfl) (ci := 13) (q0 := 0) rfl rfl, pre_at hP hD hS hz hzs hst [0] (by decide) rfl rfl⟩ rfl rfl hl.1 rfl (lv_room (Nat.le_of_ble_eq_true rfl)) dX11_parsesT_151 ⟨(Nat.le_of_ble_eq_true rfl), (Nat.le_of_ble_eq_true rfl)⟩) hP hD hS hA [0] (by decide) rfl rfl rfl rfl (fun H locs hP hD hS => ?_)
      obtain ⟨g6, hF⟩ := q_gdi hF
      refine vj_iast hx hb hst.k hP hD hS 8 0 rfl rfl (f := x.2.2.2.2.2.2) (k := (p1 + 1).toNatClampNeg) rfl g6 dX11_parsesT_154 (fun u7 eu7 H locs hP hD hS => ?_)
      have hF := q_lti eu7 hF
      have hP : va_P E.1 vwCl (List.flatten [w_Model E a o ((x.1.1, x.1.2.1, x.1.2.2.1, x.1.2.2.2.1, x.1.2.2.2.2), (x.2.1.1, x.2.1.2.1, x.2.1.2.2.1, x.2.1.2.2.2.1, x.2.1.2.2.2.2), (x.2.2.1.1, x.2.2.1.2.1, x.2.2.1.2.2.1, x.2.2.1.2.2.2), (x.2.2.2.1, q5.2.1, q5.2.2, u7))]) H := hP
      have hD : va_D A (List.flatten [w_Model E a o ((x.1.1, x.1.2.1, x.1.2.2.1, x.1.2.2.2.1, x.1.2.2.2.2), (x.2.1.1, x.2.1.2.1, x.2.1.2.2.1, x.2.1.2.2.2.1, x.2.1.2.2.2.2), (x.2.2.1.1, x.2.2.1.2.1, x.2.2.1.2.2.1, x.2.2.1.2.2.2), (x.2.2.2.1, q5.2.1, q5.2.2, u7))]) := hD
      refine lv_aload_n hx hb dX11_parsesT_155 rfl (lv_at hl 0 rfl) ?_
      refine va_get (D := E.1) (ci := 13) (v := .ref (a (o + 8))) (C := RX11) (T := TX11) (N := 18) hx hb ha in_X11 hown hst.k hP 0 rfl rfl 17 (by decide) (ha _ mw1653) (fun _ h9 => h9) rfl dX11_parsesT_156 ?_
      refine lv_iload_n hx hb dX11_parsesT_159 rfl (lv_at hl 1 rfl) ?_
      refine lv_iconst (v := 2) hx hb dX11_parsesT_160 (by decide) ?_
      refine lv_iadd hx hb dX11_parsesT_161 ?_
      refine lv_aload_n hx hb dX11_parsesT_162 rfl (lv_at hl 0 rfl) ?_
      refine lv_iconst (v := 1) hx hb dX11_parsesT_163 (by decide) ?_
      refine lv_iconst (v := 2) hx hb dX11_parsesT_164 (by decide) ?_
      obtain ⟨q8, hq8, hF⟩ := q_bdi hF
      refine cl_i (Lc := [w_Model E a o ((x.1.1, x.1.2.1, x.1.2.2.1, x.1.2.2.2.1, x.1.2.2.2.2), (x.2.1.1, x.2.1.2.1, x.2.1.2.2.1, x.2.1.2.2.2.1, x.2.1.2.2.2.2), (x.2.2.1.1, x.2.2.1.2.1, x.2.2.1.2.2.1, x.2.2.1.2.2.2), (x.2.2.2.1, q5.2.1, q5.2.2, u7))]) (Lc' := [w_Model E a o ((x.1.1, x.1.2.1, x.1.2.2.1, x.1.2.2.2.1, x.1.2.2.2.2), (x.2.1.1, x.2.1.2.1, x.2.1.2.2.1, x.2.1.2.2.2.1, x.2.1.2.2.2.2), (x.2.2.1.1, x.2.2.1.2.1, x.2.2.1.2.2.1, x.2.2.1.2.2.2), (x.2.2.2.1, q8.2.1, q8.2.2, u7))]) (L' := [w_Model E a o ((x.1.1, x.1.2.1, x.1.2.2.1, x.1.2.2.2.1, x.1.2.2.2.2), (x.2.1.1, x.2.1.2.1, x.2.1.2.2.1, x.2.1.2.2.2.1, x.2.1.2.2.2.2), (x.2.2.1.1, x.2.2.1.2.1, x.2.2.1.2.2.1, x.2.2.1.2.2.2), (x.2.2.2.1, q8.2.1, q8.2.2, u7))]) (rv := q8.1) (va_runV (As := [.int 1, .int 2]) (rest := [.int (p1 + 2), .ref (a (o + 8))]) ⟨hx, hb, hml, hown, ha⟩ (k_X11_afterBlank l E a o ((x.1.1, x.1.2.1, x.1.2.2.1, x.1.2.2.2.1, x.1.2.2.2.2), (x.2.1.1, x.2.1.2.1, x.2.1.2.2.1, x.2.1.2.2.2.1, x.2.1.2.2.2.2), (x.2.2.1.1, x.2.2.1.2.1, x.2.2.1.2.2.1, x.2.2.1.2.2.2), (x.2.2.2.1, q5.2.1, q5.2.2, u7)) 1 2 q8 hq8 H.size) (cwV 2 ha (gi_V (fun _ h => h) mw2050 mw2052 mw63 mw87 mw2053) rfl rfl rfl hv_X11_afterBlank ⟨(Nat.le_of_ble_eq_true rfl), (Nat.le_of_ble_eq_true rfl)⟩) ⟨pre_blind, va_recv hst.k (fr_P hP [0] rfl) (ci := 13) (q0 := 0) rfl rfl, pre_at hP hD hS hz hzs hst [0] (by decide) rfl rfl⟩ rfl rfl hl.1 rfl (lv_room (Nat.le_of_ble_eq_true rfl)) dX11_parsesT_165 ⟨(Nat.le_of_ble_eq_true rfl), (Nat.le_of_ble_eq_true rfl)⟩) hP hD hS hA [0] (by decide) rfl rfl rfl rfl (fun H locs hP hD hS => ?_)
      obtain ⟨g9, hF⟩ := q_gdi hF
      refine vj_iast hx hb hst.k hP hD hS 8 0 rfl rfl (f := u7) (k := (p1 + 2).toNatClampNeg) rfl g9 dX11_parsesT_168 (fun u10 eu10 H locs hP hD hS => ?_)
      have hF := q_lti eu10 hF
      have hP : va_P E.1 vwCl (List.flatten [w_Model E a o ((x.1.1, x.1.2.1, x.1.2.2.1, x.1.2.2.2.1, x.1.2.2.2.2), (x.2.1.1, x.2.1.2.1, x.2.1.2.2.1, x.2.1.2.2.2.1, x.2.1.2.2.2.2), (x.2.2.1.1, x.2.2.1.2.1, x.2.2.1.2.2.1, x.2.2.1.2.2.2), (x.2.2.2.1, q8.2.1, q8.2.2, u10))]) H := hP
      have hD : va_D A (List.flatten [w_Model E a o ((x.1.1, x.1.2.1, x.1.2.2.1, x.1.2.2.2.1, x.1.2.2.2.2), (x.2.1.1, x.2.1.2.1, x.2.1.2.2.1, x.2.1.2.2.2.1, x.2.1.2.2.2.2), (x.2.2.1.1, x.2.2.1.2.1, x.2.2.1.2.2.1, x.2.2.1.2.2.2), (x.2.2.2.1, q8.2.1, q8.2.2, u10))]) := hD
      obtain rfl := Option.some.inj hF
      exact en_v hQ (Nat.le_of_ble_eq_true rfl) (Nat.le_of_ble_eq_true rfl) hx hb hr hlocks hP hD hS dX11_parsesT_169
    refine lv_if_ne (tgt := 129) hx hb dX11_parsesT_66 (by decide) (fun c66 => ?_) (fun c66 => ?_)
    · have hF := q_brn c66 hF
      exact jJ129 H locs ls hF hP hD hS (lv_sub hl [0, 1] rfl)
    · have hF := q_brp c66 hF
      refine lv_aload_n hx hb dX11_parsesT_69 rfl (lv_at hl 0 rfl) ?_
      obtain ⟨q11, hq11, hF⟩ := q_bdi hF
      refine cl_i (Lc := [w_Model E a o ((x.1.1, x.1.2.1, x.1.2.2.1, x.1.2.2.2.1, x.1.2.2.2.2), (x.2.1.1, x.2.1.2.1, x.2.1.2.2.1, x.2.1.2.2.2.1, x.2.1.2.2.2.2), (x.2.2.1.1, x.2.2.1.2.1, x.2.2.1.2.2.1, x.2.2.1.2.2.2), (x.2.2.2.1, q2.1, q2.2, x.2.2.2.2.2.2))]) (Lc' := [w_Model E a o ((x.1.1, x.1.2.1, x.1.2.2.1, x.1.2.2.2.1, x.1.2.2.2.2), (x.2.1.1, x.2.1.2.1, x.2.1.2.2.1, x.2.1.2.2.2.1, x.2.1.2.2.2.2), (x.2.2.1.1, x.2.2.1.2.1, x.2.2.1.2.2.1, x.2.2.1.2.2.2), (x.2.2.2.1, q2.1, q2.2, x.2.2.2.2.2.2))]) (L' := [w_Model E a o ((x.1.1, x.1.2.1, x.1.2.2.1, x.1.2.2.2.1, x.1.2.2.2.2), (x.2.1.1, x.2.1.2.1, x.2.1.2.2.1, x.2.1.2.2.2.1, x.2.1.2.2.2.2), (x.2.2.1.1, x.2.2.1.2.1, x.2.2.1.2.2.1, x.2.2.1.2.2.2), (x.2.2.2.1, q2.1, q2.2, x.2.2.2.2.2.2))]) (rv := q11) (va_runV (As := []) (rest := []) ⟨hx, hb, hml, hown, ha⟩ (k_X11_here l E a o ((x.1.1, x.1.2.1, x.1.2.2.1, x.1.2.2.2.1, x.1.2.2.2.2), (x.2.1.1, x.2.1.2.1, x.2.1.2.2.1, x.2.1.2.2.2.1, x.2.1.2.2.2.2), (x.2.2.1.1, x.2.2.1.2.1, x.2.2.1.2.2.1, x.2.2.1.2.2.2), (x.2.2.2.1, q2.1, q2.2, x.2.2.2.2.2.2)) q11 hq11 H.size) (cwV 0 ha (gi_V (fun _ h => h) mw2038 mw2040 mw60 mw87 mw2041) rfl rfl rfl hv_X11_here ⟨(Nat.le_of_ble_eq_true rfl), (Nat.le_of_ble_eq_true rfl)⟩) ⟨pre_blind, va_recv hst.k (fr_P hP [0] rfl) (ci := 13) (q0 := 0) rfl rfl, pre_at hP hD hS hz hzs hst [0] (by decide) rfl rfl⟩ rfl rfl hl.1 rfl (lv_room (Nat.le_of_ble_eq_true rfl)) dX11_parsesT_70 ⟨(Nat.le_of_ble_eq_true rfl), (Nat.le_of_ble_eq_true rfl)⟩) hP hD hS hA [0] (by decide) rfl rfl rfl rfl (fun H locs hP hD hS => ?_)
      refine lv_bipush (v := 108) hx hb dX11_parsesT_73 (by decide) ?_
      refine lv_icmp_ne (tgt := 129) hx hb dX11_parsesT_75 (by decide) (fun c75 => ?_) (fun c75 => ?_)
      · have hF := q_brn c75 hF
        exact jJ129 H locs ls hF hP hD hS (lv_sub hl [0, 1] rfl)
      · have hF := q_brp c75 hF
        refine lv_aload_n hx hb dX11_parsesT_78 rfl (lv_at hl 0 rfl) ?_
        refine va_get (D := E.1) (ci := 13) (v := .ref (a (o + 8))) (C := RX11) (T := TX11) (N := 18) hx hb ha in_X11 hown hst.k hP 0 rfl rfl 17 (by decide) (ha _ mw1653) (fun _ h9 => h9) rfl dX11_parsesT_79 ?_
        refine lv_iload_n hx hb dX11_parsesT_82 rfl (lv_at hl 1 rfl) ?_
        refine lv_bipush (v := 108) hx hb dX11_parsesT_83 (by decide) ?_
        obtain ⟨g12, hF⟩ := q_gdi hF
        refine vj_iast hx hb hst.k hP hD hS 8 0 rfl rfl (f := x.2.2.2.2.2.2) (k := p1.toNatClampNeg) rfl g12 dX11_parsesT_85 (fun u13 eu13 H locs hP hD hS => ?_)
        have hF := q_lti eu13 hF
        have hP : va_P E.1 vwCl (List.flatten [w_Model E a o ((x.1.1, x.1.2.1, x.1.2.2.1, x.1.2.2.2.1, x.1.2.2.2.2), (x.2.1.1, x.2.1.2.1, x.2.1.2.2.1, x.2.1.2.2.2.1, x.2.1.2.2.2.2), (x.2.2.1.1, x.2.2.1.2.1, x.2.2.1.2.2.1, x.2.2.1.2.2.2), (x.2.2.2.1, q2.1, q2.2, u13))]) H := hP
        have hD : va_D A (List.flatten [w_Model E a o ((x.1.1, x.1.2.1, x.1.2.2.1, x.1.2.2.2.1, x.1.2.2.2.2), (x.2.1.1, x.2.1.2.1, x.2.1.2.2.1, x.2.1.2.2.2.1, x.2.1.2.2.2.2), (x.2.2.1.1, x.2.2.1.2.1, x.2.2.1.2.2.1, x.2.2.1.2.2.2), (x.2.2.2.1, q2.1, q2.2, u13))]) := hD
        refine lv_aload_n hx hb dX11_parsesT_86 rfl (lv_at hl 0 rfl) ?_
        refine lv_bipush (v := 108) hx hb dX11_parsesT_87 (by decide) ?_
        refine lv_bipush (v := 101) hx hb dX11_parsesT_89 (by decide) ?_
        refine lv_bipush (v := 114) hx hb dX11_parsesT_91 (by decide) ?_
        obtain ⟨q14, hq14, hF⟩ := q_bdi hF
        refine cl_v (Lc := [w_Model E a o ((x.1.1, x.1.2.1, x.1.2.2.1, x.1.2.2.2.1, x.1.2.2.2.2), (x.2.1.1, x.2.1.2.1, x.2.1.2.2.1, x.2.1.2.2.2.1, x.2.1.2.2.2.2), (x.2.2.1.1, x.2.2.1.2.1, x.2.2.1.2.2.1, x.2.2.1.2.2.2), (x.2.2.2.1, q2.1, q2.2, u13))]) (Lc' := [w_Model E a o ((x.1.1, x.1.2.1, x.1.2.2.1, x.1.2.2.2.1, x.1.2.2.2.2), (x.2.1.1, x.2.1.2.1, x.2.1.2.2.1, x.2.1.2.2.2.1, x.2.1.2.2.2.2), (x.2.2.1.1, x.2.2.1.2.1, x.2.2.1.2.2.1, x.2.2.1.2.2.2), (x.2.2.2.1, q14.1, q14.2, u13))]) (L' := [w_Model E a o ((x.1.1, x.1.2.1, x.1.2.2.1, x.1.2.2.2.1, x.1.2.2.2.2), (x.2.1.1, x.2.1.2.1, x.2.1.2.2.1, x.2.1.2.2.2.1, x.2.1.2.2.2.2), (x.2.2.1.1, x.2.2.1.2.1, x.2.2.1.2.2.1, x.2.2.1.2.2.2), (x.2.2.2.1, q14.1, q14.2, u13))]) (va_runV (As := [.int 108, .int 101, .int 114]) (rest := []) ⟨hx, hb, hml, hown, ha⟩ (k_X11_needsThree l E a o ((x.1.1, x.1.2.1, x.1.2.2.1, x.1.2.2.2.1, x.1.2.2.2.2), (x.2.1.1, x.2.1.2.1, x.2.1.2.2.1, x.2.1.2.2.2.1, x.2.1.2.2.2.2), (x.2.2.1.1, x.2.2.1.2.1, x.2.2.1.2.2.1, x.2.2.1.2.2.2), (x.2.2.2.1, q2.1, q2.2, u13)) 108 101 114 q14 hq14 H.size) (cwV 3 ha (gi_V (fun _ h => h) mw2042 mw2044 mw61 mw87 mw2045) rfl rfl rfl hv_X11_needsThree ⟨(Nat.le_of_ble_eq_true rfl), (Nat.le_of_ble_eq_true rfl)⟩) ⟨pre_blind, va_recv hst.k (fr_P hP [0] rfl) (ci := 13) (q0 := 0) rfl rfl, pre_at hP hD hS hz hzs hst [0] (by decide) rfl rfl⟩ rfl rfl hl.1 rfl (lv_room (Nat.le_of_ble_eq_true rfl)) dX11_parsesT_93 ⟨(Nat.le_of_ble_eq_true rfl), (Nat.le_of_ble_eq_true rfl)⟩) hP hD hS hA [0] (by decide) rfl rfl rfl rfl (fun H locs hP hD hS => ?_)
        refine lv_aload_n hx hb dX11_parsesT_96 rfl (lv_at hl 0 rfl) ?_
        refine lv_bipush (v := 97) hx hb dX11_parsesT_97 (by decide) ?_
        refine lv_bipush (v := 110) hx hb dX11_parsesT_99 (by decide) ?_
        refine lv_bipush (v := 99) hx hb dX11_parsesT_101 (by decide) ?_
        obtain ⟨q15, hq15, hF⟩ := q_bdi hF
        refine cl_v (Lc := [w_Model E a o ((x.1.1, x.1.2.1, x.1.2.2.1, x.1.2.2.2.1, x.1.2.2.2.2), (x.2.1.1, x.2.1.2.1, x.2.1.2.2.1, x.2.1.2.2.2.1, x.2.1.2.2.2.2), (x.2.2.1.1, x.2.2.1.2.1, x.2.2.1.2.2.1, x.2.2.1.2.2.2), (x.2.2.2.1, q14.1, q14.2, u13))]) (Lc' := [w_Model E a o ((x.1.1, x.1.2.1, x.1.2.2.1, x.1.2.2.2.1, x.1.2.2.2.2), (x.2.1.1, x.2.1.2.1, x.2.1.2.2.1, x.2.1.2.2.2.1, x.2.1.2.2.2.2), (x.2.2.1.1, x.2.2.1.2.1, x.2.2.1.2.2.1, x.2.2.1.2.2.2), (x.2.2.2.1, q15.1, q15.2, u13))]) (L' := [w_Model E a o ((x.1.1, x.1.2.1, x.1.2.2.1, x.1.2.2.2.1, x.1.2.2.2.2), (x.2.1.1, x.2.1.2.1, x.2.1.2.2.1, x.2.1.2.2.2.1, x.2.1.2.2.2.2), (x.2.2.1.1, x.2.2.1.2.1, x.2.2.1.2.2.1, x.2.2.1.2.2.2), (x.2.2.2.1, q15.1, q15.2, u13))]) (va_runV (As := [.int 97, .int 110, .int 99]) (rest := []) ⟨hx, hb, hml, hown, ha⟩ (k_X11_needsThree l E a o ((x.1.1, x.1.2.1, x.1.2.2.1, x.1.2.2.2.1, x.1.2.2.2.2), (x.2.1.1, x.2.1.2.1, x.2.1.2.2.1, x.2.1.2.2.2.1, x.2.1.2.2.2.2), (x.2.2.1.1, x.2.2.1.2.1, x.2.2.1.2.2.1, x.2.2.1.2.2.2), (x.2.2.2.1, q14.1, q14.2, u13)) 97 110 99 q15 hq15 H.size) (cwV 3 ha (gi_V (fun _ h => h) mw2042 mw2044 mw61 mw87 mw2045) rfl rfl rfl hv_X11_needsThree ⟨(Nat.le_of_ble_eq_true rfl), (Nat.le_of_ble_eq_true rfl)⟩) ⟨pre_blind, va_recv hst.k (fr_P hP [0] rfl) (ci := 13) (q0 := 0) rfl rfl, pre_at hP hD hS hz hzs hst [0] (by decide) rfl rfl⟩ rfl rfl hl.1 rfl (lv_room (Nat.le_of_ble_eq_true rfl)) dX11_parsesT_103 ⟨(Nat.le_of_ble_eq_true rfl), (Nat.le_of_ble_eq_true rfl)⟩) hP hD hS hA [0] (by decide) rfl rfl rfl rfl (fun H locs hP hD hS => ?_)
        refine lv_aload_n hx hb dX11_parsesT_106 rfl (lv_at hl 0 rfl) ?_
        refine lv_bipush (v := 101) hx hb dX11_parsesT_107 (by decide) ?_
        obtain ⟨q16, hq16, hF⟩ := q_bdi hF
        refine cl_v (Lc := [w_Model E a o ((x.1.1, x.1.2.1, x.1.2.2.1, x.1.2.2.2.1, x.1.2.2.2.2), (x.2.1.1, x.2.1.2.1, x.2.1.2.2.1, x.2.1.2.2.2.1, x.2.1.2.2.2.2), (x.2.2.1.1, x.2.2.1.2.1, x.2.2.1.2.2.1, x.2.2.1.2.2.2), (x.2.2.2.1, q15.1, q15.2, u13))]) (Lc' := [w_Model E a o ((x.1.1, x.1.2.1, x.1.2.2.1, x.1.2.2.2.1, x.1.2.2.2.2), (x.2.1.1, x.2.1.2.1, x.2.1.2.2.1, x.2.1.2.2.2.1, x.2.1.2.2.2.2), (x.2.2.1.1, x.2.2.1.2.1, x.2.2.1.2.2.1, x.2.2.1.2.2.2), (x.2.2.2.1, q16.1, q16.2, u13))]) (L' := [w_Model E a o ((x.1.1, x.1.2.1, x.1.2.2.1, x.1.2.2.2.1, x.1.2.2.2.2), (x.2.1.1, x.2.1.2.1, x.2.1.2.2.1, x.2.1.2.2.2.1, x.2.1.2.2.2.2), (x.2.2.1.1, x.2.2.1.2.1, x.2.2.1.2.2.1, x.2.2.1.2.2.2), (x.2.2.2.1, q16.1, q16.2, u13))]) (va_runV (As := [.int 101]) (rest := []) ⟨hx, hb, hml, hown, ha⟩ (k_X11_needs l E a o ((x.1.1, x.1.2.1, x.1.2.2.1, x.1.2.2.2.1, x.1.2.2.2.2), (x.2.1.1, x.2.1.2.1, x.2.1.2.2.1, x.2.1.2.2.2.1, x.2.1.2.2.2.2), (x.2.2.1.1, x.2.2.1.2.1, x.2.2.1.2.2.1, x.2.2.1.2.2.2), (x.2.2.2.1, q15.1, q15.2, u13)) 101 q16 hq16 H.size) (cwV 1 ha (gi_V (fun _ h => h) mw2046 mw2048 mw62 mw87 mw2049) rfl rfl rfl hv_X11_needs ⟨(Nat.le_of_ble_eq_true rfl), (Nat.le_of_ble_eq_true rfl)⟩) ⟨pre_blind, va_recv hst.k (fr_P hP [0] rfl) (ci := 13) (q0 := 0) rfl rfl, pre_at hP hD hS hz hzs hst [0] (by decide) rfl rfl⟩ rfl rfl hl.1 rfl (lv_room (Nat.le_of_ble_eq_true rfl)) dX11_parsesT_109 ⟨(Nat.le_of_ble_eq_true rfl), (Nat.le_of_ble_eq_true rfl)⟩) hP hD hS hA [0] (by decide) rfl rfl rfl rfl (fun H locs hP hD hS => ?_)
        refine lv_aload_n hx hb dX11_parsesT_112 rfl (lv_at hl 0 rfl) ?_
        refine va_get (D := E.1) (ci := 13) (v := .ref (a (o + 8))) (C := RX11) (T := TX11) (N := 18) hx hb ha in_X11 hown hst.k hP 0 rfl rfl 17 (by decide) (ha _ mw1653) (fun _ h9 => h9) rfl dX11_parsesT_113 ?_
        refine lv_iload_n hx hb dX11_parsesT_116 rfl (lv_at hl 1 rfl) ?_
        refine lv_iconst (v := 1) hx hb dX11_parsesT_117 (by decide) ?_
        refine lv_iadd hx hb dX11_parsesT_118 ?_
        refine lv_aload_n hx hb dX11_parsesT_119 rfl (lv_at hl 0 rfl) ?_
        refine lv_iconst (v := 1) hx hb dX11_parsesT_120 (by decide) ?_
        refine lv_iconst (v := 2) hx hb dX11_parsesT_121 (by decide) ?_
        obtain ⟨q17, hq17, hF⟩ := q_bdi hF
        refine cl_i (Lc := [w_Model E a o ((x.1.1, x.1.2.1, x.1.2.2.1, x.1.2.2.2.1, x.1.2.2.2.2), (x.2.1.1, x.2.1.2.1, x.2.1.2.2.1, x.2.1.2.2.2.1, x.2.1.2.2.2.2), (x.2.2.1.1, x.2.2.1.2.1, x.2.2.1.2.2.1, x.2.2.1.2.2.2), (x.2.2.2.1, q16.1, q16.2, u13))]) (Lc' := [w_Model E a o ((x.1.1, x.1.2.1, x.1.2.2.1, x.1.2.2.2.1, x.1.2.2.2.2), (x.2.1.1, x.2.1.2.1, x.2.1.2.2.1, x.2.1.2.2.2.1, x.2.1.2.2.2.2), (x.2.2.1.1, x.2.2.1.2.1, x.2.2.1.2.2.1, x.2.2.1.2.2.2), (x.2.2.2.1, q17.2.1, q17.2.2, u13))]) (L' := [w_Model E a o ((x.1.1, x.1.2.1, x.1.2.2.1, x.1.2.2.2.1, x.1.2.2.2.2), (x.2.1.1, x.2.1.2.1, x.2.1.2.2.1, x.2.1.2.2.2.1, x.2.1.2.2.2.2), (x.2.2.1.1, x.2.2.1.2.1, x.2.2.1.2.2.1, x.2.2.1.2.2.2), (x.2.2.2.1, q17.2.1, q17.2.2, u13))]) (rv := q17.1) (va_runV (As := [.int 1, .int 2]) (rest := [.int (p1 + 1), .ref (a (o + 8))]) ⟨hx, hb, hml, hown, ha⟩ (k_X11_afterBlank l E a o ((x.1.1, x.1.2.1, x.1.2.2.1, x.1.2.2.2.1, x.1.2.2.2.2), (x.2.1.1, x.2.1.2.1, x.2.1.2.2.1, x.2.1.2.2.2.1, x.2.1.2.2.2.2), (x.2.2.1.1, x.2.2.1.2.1, x.2.2.1.2.2.1, x.2.2.1.2.2.2), (x.2.2.2.1, q16.1, q16.2, u13)) 1 2 q17 hq17 H.size) (cwV 2 ha (gi_V (fun _ h => h) mw2050 mw2052 mw63 mw87 mw2053) rfl rfl rfl hv_X11_afterBlank ⟨(Nat.le_of_ble_eq_true rfl), (Nat.le_of_ble_eq_true rfl)⟩) ⟨pre_blind, va_recv hst.k (fr_P hP [0] rfl) (ci := 13) (q0 := 0) rfl rfl, pre_at hP hD hS hz hzs hst [0] (by decide) rfl rfl⟩ rfl rfl hl.1 rfl (lv_room (Nat.le_of_ble_eq_true rfl)) dX11_parsesT_122 ⟨(Nat.le_of_ble_eq_true rfl), (Nat.le_of_ble_eq_true rfl)⟩) hP hD hS hA [0] (by decide) rfl rfl rfl rfl (fun H locs hP hD hS => ?_)
        obtain ⟨g18, hF⟩ := q_gdi hF
        refine vj_iast hx hb hst.k hP hD hS 8 0 rfl rfl (f := u13) (k := (p1 + 1).toNatClampNeg) rfl g18 dX11_parsesT_125 (fun u19 eu19 H locs hP hD hS => ?_)
        have hF := q_lti eu19 hF
        have hP : va_P E.1 vwCl (List.flatten [w_Model E a o ((x.1.1, x.1.2.1, x.1.2.2.1, x.1.2.2.2.1, x.1.2.2.2.2), (x.2.1.1, x.2.1.2.1, x.2.1.2.2.1, x.2.1.2.2.2.1, x.2.1.2.2.2.2), (x.2.2.1.1, x.2.2.1.2.1, x.2.2.1.2.2.1, x.2.2.1.2.2.2), (x.2.2.2.1, q17.2.1, q17.2.2, u19))]) H := hP
        have hD : va_D A (List.flatten [w_Model E a o ((x.1.1, x.1.2.1, x.1.2.2.1, x.1.2.2.2.1, x.1.2.2.2.2), (x.2.1.1, x.2.1.2.1, x.2.1.2.2.1, x.2.1.2.2.2.1, x.2.1.2.2.2.2), (x.2.2.1.1, x.2.2.1.2.1, x.2.2.1.2.2.1, x.2.2.1.2.2.2), (x.2.2.2.1, q17.2.1, q17.2.2, u19))]) := hD
        refine lv_goto (tgt := 169) hx hb dX11_parsesT_126 (by decide) ?_
        obtain rfl := Option.some.inj hF
        exact en_v hQ (Nat.le_of_ble_eq_true rfl) (Nat.le_of_ble_eq_true rfl) hx hb hr hlocks hP hD hS dX11_parsesT_169
  · have hF := q_brp c6 hF
    refine lv_aload_n hx hb dX11_parsesT_9 rfl (lv_at hl 0 rfl) ?_
    refine va_get (D := E.1) (ci := 13) (v := .ref (a (o + 8))) (C := RX11) (T := TX11) (N := 18) hx hb ha in_X11 hown hst.k hP 0 rfl rfl 17 (by decide) (ha _ mw1653) (fun _ h9 => h9) rfl dX11_parsesT_10 ?_
    refine lv_iload_n hx hb dX11_parsesT_13 rfl (lv_at hl 1 rfl) ?_
    refine lv_bipush (v := 117) hx hb dX11_parsesT_14 (by decide) ?_
    obtain ⟨g20, hF⟩ := q_gdi hF
    refine vj_iast hx hb hst.k hP hD hS 8 0 rfl rfl (f := x.2.2.2.2.2.2) (k := p1.toNatClampNeg) rfl g20 dX11_parsesT_16 (fun u21 eu21 H locs hP hD hS => ?_)
    have hF := q_lti eu21 hF
    have hP : va_P E.1 vwCl (List.flatten [w_Model E a o ((x.1.1, x.1.2.1, x.1.2.2.1, x.1.2.2.2.1, x.1.2.2.2.2), (x.2.1.1, x.2.1.2.1, x.2.1.2.2.1, x.2.1.2.2.2.1, x.2.1.2.2.2.2), (x.2.2.1.1, x.2.2.1.2.1, x.2.2.1.2.2.1, x.2.2.1.2.2.2), (x.2.2.2.1, x.2.2.2.2.1, x.2.2.2.2.2.1, u21))]) H := hP
    have hD : va_D A (List.flatten [w_Model E a o ((x.1.1, x.1.2.1, x.1.2.2.1, x.1.2.2.2.1, x.1.2.2.2.2), (x.2.1.1, x.2.1.2.1, x.2.1.2.2.1, x.2.1.2.2.2.1, x.2.1.2.2.2.2), (x.2.2.1.1, x.2.2.1.2.1, x.2.2.1.2.2.1, x.2.2.1.2.2.2), (x.2.2.2.1, x.2.2.2.2.1, x.2.2.2.2.2.1, u21))]) := hD
    refine lv_aload_n hx hb dX11_parsesT_17 rfl (lv_at hl 0 rfl) ?_
    refine lv_bipush (v := 117) hx hb dX11_parsesT_18 (by decide) ?_
    refine lv_bipush (v := 110) hx hb dX11_parsesT_20 (by decide) ?_
    refine lv_bipush (v := 101) hx hb dX11_parsesT_22 (by decide) ?_
    obtain ⟨q22, hq22, hF⟩ := q_bdi hF
    refine cl_v (Lc := [w_Model E a o ((x.1.1, x.1.2.1, x.1.2.2.1, x.1.2.2.2.1, x.1.2.2.2.2), (x.2.1.1, x.2.1.2.1, x.2.1.2.2.1, x.2.1.2.2.2.1, x.2.1.2.2.2.2), (x.2.2.1.1, x.2.2.1.2.1, x.2.2.1.2.2.1, x.2.2.1.2.2.2), (x.2.2.2.1, x.2.2.2.2.1, x.2.2.2.2.2.1, u21))]) (Lc' := [w_Model E a o ((x.1.1, x.1.2.1, x.1.2.2.1, x.1.2.2.2.1, x.1.2.2.2.2), (x.2.1.1, x.2.1.2.1, x.2.1.2.2.1, x.2.1.2.2.2.1, x.2.1.2.2.2.2), (x.2.2.1.1, x.2.2.1.2.1, x.2.2.1.2.2.1, x.2.2.1.2.2.2), (x.2.2.2.1, q22.1, q22.2, u21))]) (L' := [w_Model E a o ((x.1.1, x.1.2.1, x.1.2.2.1, x.1.2.2.2.1, x.1.2.2.2.2), (x.2.1.1, x.2.1.2.1, x.2.1.2.2.1, x.2.1.2.2.2.1, x.2.1.2.2.2.2), (x.2.2.1.1, x.2.2.1.2.1, x.2.2.1.2.2.1, x.2.2.1.2.2.2), (x.2.2.2.1, q22.1, q22.2, u21))]) (va_runV (As := [.int 117, .int 110, .int 101]) (rest := []) ⟨hx, hb, hml, hown, ha⟩ (k_X11_needsThree l E a o ((x.1.1, x.1.2.1, x.1.2.2.1, x.1.2.2.2.1, x.1.2.2.2.2), (x.2.1.1, x.2.1.2.1, x.2.1.2.2.1, x.2.1.2.2.2.1, x.2.1.2.2.2.2), (x.2.2.1.1, x.2.2.1.2.1, x.2.2.1.2.2.1, x.2.2.1.2.2.2), (x.2.2.2.1, x.2.2.2.2.1, x.2.2.2.2.2.1, u21)) 117 110 101 q22 hq22 H.size) (cwV 3 ha (gi_V (fun _ h => h) mw2042 mw2044 mw61 mw87 mw2045) rfl rfl rfl hv_X11_needsThree ⟨(Nat.le_of_ble_eq_true rfl), (Nat.le_of_ble_eq_true rfl)⟩) ⟨pre_blind, va_recv hst.k (fr_P hP [0] rfl) (ci := 13) (q0 := 0) rfl rfl, pre_at hP hD hS hz hzs hst [0] (by decide) rfl rfl⟩ rfl rfl hl.1 rfl (lv_room (Nat.le_of_ble_eq_true rfl)) dX11_parsesT_24 ⟨(Nat.le_of_ble_eq_true rfl), (Nat.le_of_ble_eq_true rfl)⟩) hP hD hS hA [0] (by decide) rfl rfl rfl rfl (fun H locs hP hD hS => ?_)
    refine lv_aload_n hx hb dX11_parsesT_27 rfl (lv_at hl 0 rfl) ?_
    refine va_get (D := E.1) (ci := 13) (v := .ref (a (o + 8))) (C := RX11) (T := TX11) (N := 18) hx hb ha in_X11 hown hst.k hP 0 rfl rfl 17 (by decide) (ha _ mw1653) (fun _ h9 => h9) rfl dX11_parsesT_28 ?_
    refine lv_iload_n hx hb dX11_parsesT_31 rfl (lv_at hl 1 rfl) ?_
    refine lv_iconst (v := 1) hx hb dX11_parsesT_32 (by decide) ?_
    refine lv_iadd hx hb dX11_parsesT_33 ?_
    refine lv_aload_n hx hb dX11_parsesT_34 rfl (lv_at hl 0 rfl) ?_
    refine lv_iconst (v := 1) hx hb dX11_parsesT_35 (by decide) ?_
    refine lv_iconst (v := 2) hx hb dX11_parsesT_36 (by decide) ?_
    obtain ⟨q23, hq23, hF⟩ := q_bdi hF
    refine cl_i (Lc := [w_Model E a o ((x.1.1, x.1.2.1, x.1.2.2.1, x.1.2.2.2.1, x.1.2.2.2.2), (x.2.1.1, x.2.1.2.1, x.2.1.2.2.1, x.2.1.2.2.2.1, x.2.1.2.2.2.2), (x.2.2.1.1, x.2.2.1.2.1, x.2.2.1.2.2.1, x.2.2.1.2.2.2), (x.2.2.2.1, q22.1, q22.2, u21))]) (Lc' := [w_Model E a o ((x.1.1, x.1.2.1, x.1.2.2.1, x.1.2.2.2.1, x.1.2.2.2.2), (x.2.1.1, x.2.1.2.1, x.2.1.2.2.1, x.2.1.2.2.2.1, x.2.1.2.2.2.2), (x.2.2.1.1, x.2.2.1.2.1, x.2.2.1.2.2.1, x.2.2.1.2.2.2), (x.2.2.2.1, q23.2.1, q23.2.2, u21))]) (L' := [w_Model E a o ((x.1.1, x.1.2.1, x.1.2.2.1, x.1.2.2.2.1, x.1.2.2.2.2), (x.2.1.1, x.2.1.2.1, x.2.1.2.2.1, x.2.1.2.2.2.1, x.2.1.2.2.2.2), (x.2.2.1.1, x.2.2.1.2.1, x.2.2.1.2.2.1, x.2.2.1.2.2.2), (x.2.2.2.1, q23.2.1, q23.2.2, u21))]) (rv := q23.1) (va_runV (As := [.int 1, .int 2]) (rest := [.int (p1 + 1), .ref (a (o + 8))]) ⟨hx, hb, hml, hown, ha⟩ (k_X11_afterBlank l E a o ((x.1.1, x.1.2.1, x.1.2.2.1, x.1.2.2.2.1, x.1.2.2.2.2), (x.2.1.1, x.2.1.2.1, x.2.1.2.2.1, x.2.1.2.2.2.1, x.2.1.2.2.2.2), (x.2.2.1.1, x.2.2.1.2.1, x.2.2.1.2.2.1, x.2.2.1.2.2.2), (x.2.2.2.1, q22.1, q22.2, u21)) 1 2 q23 hq23 H.size) (cwV 2 ha (gi_V (fun _ h => h) mw2050 mw2052 mw63 mw87 mw2053) rfl rfl rfl hv_X11_afterBlank ⟨(Nat.le_of_ble_eq_true rfl), (Nat.le_of_ble_eq_true rfl)⟩) ⟨pre_blind, va_recv hst.k (fr_P hP [0] rfl) (ci := 13) (q0 := 0) rfl rfl, pre_at hP hD hS hz hzs hst [0] (by decide) rfl rfl⟩ rfl rfl hl.1 rfl (lv_room (Nat.le_of_ble_eq_true rfl)) dX11_parsesT_37 ⟨(Nat.le_of_ble_eq_true rfl), (Nat.le_of_ble_eq_true rfl)⟩) hP hD hS hA [0] (by decide) rfl rfl rfl rfl (fun H locs hP hD hS => ?_)
    obtain ⟨g24, hF⟩ := q_gdi hF
    refine vj_iast hx hb hst.k hP hD hS 8 0 rfl rfl (f := u21) (k := (p1 + 1).toNatClampNeg) rfl g24 dX11_parsesT_40 (fun u25 eu25 H locs hP hD hS => ?_)
    have hF := q_lti eu25 hF
    have hP : va_P E.1 vwCl (List.flatten [w_Model E a o ((x.1.1, x.1.2.1, x.1.2.2.1, x.1.2.2.2.1, x.1.2.2.2.2), (x.2.1.1, x.2.1.2.1, x.2.1.2.2.1, x.2.1.2.2.2.1, x.2.1.2.2.2.2), (x.2.2.1.1, x.2.2.1.2.1, x.2.2.1.2.2.1, x.2.2.1.2.2.2), (x.2.2.2.1, q23.2.1, q23.2.2, u25))]) H := hP
    have hD : va_D A (List.flatten [w_Model E a o ((x.1.1, x.1.2.1, x.1.2.2.1, x.1.2.2.2.1, x.1.2.2.2.2), (x.2.1.1, x.2.1.2.1, x.2.1.2.2.1, x.2.1.2.2.2.1, x.2.1.2.2.2.2), (x.2.2.1.1, x.2.2.1.2.1, x.2.2.1.2.2.1, x.2.2.1.2.2.2), (x.2.2.2.1, q23.2.1, q23.2.2, u25))]) := hD
    refine lv_aload_n hx hb dX11_parsesT_41 rfl (lv_at hl 0 rfl) ?_
    refine va_get (D := E.1) (ci := 13) (v := .ref (a (o + 8))) (C := RX11) (T := TX11) (N := 18) hx hb ha in_X11 hown hst.k hP 0 rfl rfl 17 (by decide) (ha _ mw1653) (fun _ h9 => h9) rfl dX11_parsesT_42 ?_
    refine lv_iload_n hx hb dX11_parsesT_45 rfl (lv_at hl 1 rfl) ?_
    refine lv_iconst (v := 2) hx hb dX11_parsesT_46 (by decide) ?_
    refine lv_iadd hx hb dX11_parsesT_47 ?_
    refine lv_aload_n hx hb dX11_parsesT_48 rfl (lv_at hl 0 rfl) ?_
    obtain ⟨q26, hq26, hF⟩ := q_bdi hF
    refine cl_i (Lc := [w_Model E a o ((x.1.1, x.1.2.1, x.1.2.2.1, x.1.2.2.2.1, x.1.2.2.2.2), (x.2.1.1, x.2.1.2.1, x.2.1.2.2.1, x.2.1.2.2.2.1, x.2.1.2.2.2.2), (x.2.2.1.1, x.2.2.1.2.1, x.2.2.1.2.2.1, x.2.2.1.2.2.2), (x.2.2.2.1, q23.2.1, q23.2.2, u25))]) (Lc' := [w_Model E a o ((x.1.1, x.1.2.1, x.1.2.2.1, x.1.2.2.2.1, x.1.2.2.2.2), (x.2.1.1, x.2.1.2.1, x.2.1.2.2.1, x.2.1.2.2.2.1, x.2.1.2.2.2.2), (x.2.2.1.1, x.2.2.1.2.1, x.2.2.1.2.2.1, x.2.2.1.2.2.2), (x.2.2.2.1, q26.2.1, q26.2.2, u25))]) (L' := [w_Model E a o ((x.1.1, x.1.2.1, x.1.2.2.1, x.1.2.2.2.1, x.1.2.2.2.2), (x.2.1.1, x.2.1.2.1, x.2.1.2.2.1, x.2.1.2.2.2.1, x.2.1.2.2.2.2), (x.2.2.1.1, x.2.2.1.2.1, x.2.2.1.2.2.1, x.2.2.1.2.2.2), (x.2.2.2.1, q26.2.1, q26.2.2, u25))]) (rv := q26.1) (va_runV (As := []) (rest := [.int (p1 + 2), .ref (a (o + 8))]) ⟨hx, hb, hml, hown, ha⟩ (k_X11_signed l E a o ((x.1.1, x.1.2.1, x.1.2.2.1, x.1.2.2.2.1, x.1.2.2.2.2), (x.2.1.1, x.2.1.2.1, x.2.1.2.2.1, x.2.1.2.2.2.1, x.2.1.2.2.2.2), (x.2.2.1.1, x.2.2.1.2.1, x.2.2.1.2.2.1, x.2.2.1.2.2.2), (x.2.2.2.1, q23.2.1, q23.2.2, u25)) q26 hq26 H.size) (cwV 0 ha (gi_V (fun _ h => h) mw2062 mw2064 mw66 mw87 mw2065) rfl rfl rfl hv_X11_signed ⟨(Nat.le_of_ble_eq_true rfl), (Nat.le_of_ble_eq_true rfl)⟩) ⟨pre_blind, va_recv hst.k (fr_P hP [0] rfl) (ci := 13) (q0 := 0) rfl rfl, pre_at hP hD hS hz hzs hst [0] (by decide) rfl rfl⟩ rfl rfl hl.1 rfl (lv_room (Nat.le_of_ble_eq_true rfl)) dX11_parsesT_49 ⟨(Nat.le_of_ble_eq_true rfl), (Nat.le_of_ble_eq_true rfl)⟩) hP hD hS hA [0] (by decide) rfl rfl rfl rfl (fun H locs hP hD hS => ?_)
    obtain ⟨g27, hF⟩ := q_gdi hF
    refine vj_iast hx hb hst.k hP hD hS 8 0 rfl rfl (f := u25) (k := (p1 + 2).toNatClampNeg) rfl g27 dX11_parsesT_52 (fun u28 eu28 H locs hP hD hS => ?_)
    have hF := q_lti eu28 hF
    have hP : va_P E.1 vwCl (List.flatten [w_Model E a o ((x.1.1, x.1.2.1, x.1.2.2.1, x.1.2.2.2.1, x.1.2.2.2.2), (x.2.1.1, x.2.1.2.1, x.2.1.2.2.1, x.2.1.2.2.2.1, x.2.1.2.2.2.2), (x.2.2.1.1, x.2.2.1.2.1, x.2.2.1.2.2.1, x.2.2.1.2.2.2), (x.2.2.2.1, q26.2.1, q26.2.2, u28))]) H := hP
    have hD : va_D A (List.flatten [w_Model E a o ((x.1.1, x.1.2.1, x.1.2.2.1, x.1.2.2.2.1, x.1.2.2.2.2), (x.2.1.1, x.2.1.2.1, x.2.1.2.2.1, x.2.1.2.2.2.1, x.2.1.2.2.2.2), (x.2.2.1.1, x.2.2.1.2.1, x.2.2.1.2.2.1, x.2.2.1.2.2.2), (x.2.2.2.1, q26.2.1, q26.2.2, u28))]) := hD
    refine lv_goto (tgt := 169) hx hb dX11_parsesT_53 (by decide) ?_
    obtain rfl := Option.some.inj hF
    exact en_v hQ (Nat.le_of_ble_eq_true rfl) (Nat.le_of_ble_eq_true rfl) hx hb hr hlocks hP hD hS dX11_parsesT_169

/-! X11_parsesC -/
theorem dX11_parsesC_0 : decode cX11_parsesC 0 = .ok (.aload_n 0, 1) := by decide +kernel
theorem dX11_parsesC_1 : decode cX11_parsesC 1 = .ok (.bipush 108, 2) := by decide +kernel
theorem dX11_parsesC_3 : decode cX11_parsesC 3 = .ok (.invokevirtual 198, 3) := by decide +kernel
theorem dX11_parsesC_6 : decode cX11_parsesC 6 = .ok (.aload_n 0, 1) := by decide +kernel
theorem dX11_parsesC_7 : decode cX11_parsesC 7 = .ok (.getfield 190, 3) := by decide +kernel
theorem dX11_parsesC_10 : decode cX11_parsesC 10 = .ok (.ifCond .ne 39, 3) := by decide +kernel
theorem dX11_parsesC_13 : decode cX11_parsesC 13 = .ok (.aload_n 0, 1) := by decide +kernel
theorem dX11_parsesC_14 : decode cX11_parsesC 14 = .ok (.invokevirtual 194, 3) := by decide +kernel
theorem dX11_parsesC_17 : decode cX11_parsesC 17 = .ok (.bipush 101, 2) := by decide +kernel
theorem dX11_parsesC_19 : decode cX11_parsesC 19 = .ok (.if_icmp .ne 30, 3) := by decide +kernel
theorem dX11_parsesC_22 : decode cX11_parsesC 22 = .ok (.aload_n 0, 1) := by decide +kernel
theorem dX11_parsesC_23 : decode cX11_parsesC 23 = .ok (.bipush 101, 2) := by decide +kernel
theorem dX11_parsesC_25 : decode cX11_parsesC 25 = .ok (.bipush 97, 2) := by decide +kernel
theorem dX11_parsesC_27 : decode cX11_parsesC 27 = .ok (.bipush 114, 2) := by decide +kernel
theorem dX11_parsesC_29 : decode cX11_parsesC 29 = .ok (.invokevirtual 204, 3) := by decide +kernel
theorem dX11_parsesC_32 : decode cX11_parsesC 32 = .ok (.aload_n 0, 1) := by decide +kernel
theorem dX11_parsesC_33 : decode cX11_parsesC 33 = .ok (.getfield 39, 3) := by decide +kernel
theorem dX11_parsesC_36 : decode cX11_parsesC 36 = .ok (.iload_n 1, 1) := by decide +kernel
theorem dX11_parsesC_37 : decode cX11_parsesC 37 = .ok (.iconst 1, 1) := by decide +kernel
theorem dX11_parsesC_38 : decode cX11_parsesC 38 = .ok (.iadd, 1) := by decide +kernel
theorem dX11_parsesC_39 : decode cX11_parsesC 39 = .ok (.aload_n 0, 1) := by decide +kernel
theorem dX11_parsesC_40 : decode cX11_parsesC 40 = .ok (.iconst 1, 1) := by decide +kernel
theorem dX11_parsesC_41 : decode cX11_parsesC 41 = .ok (.iconst 1, 1) := by decide +kernel
theorem dX11_parsesC_42 : decode cX11_parsesC 42 = .ok (.invokevirtual 208, 3) := by decide +kernel
theorem dX11_parsesC_45 : decode cX11_parsesC 45 = .ok (.iastore, 1) := by decide +kernel
theorem dX11_parsesC_46 : decode cX11_parsesC 46 = .ok (.goto 47, 3) := by decide +kernel
theorem dX11_parsesC_49 : decode cX11_parsesC 49 = .ok (.aload_n 0, 1) := by decide +kernel
theorem dX11_parsesC_50 : decode cX11_parsesC 50 = .ok (.getfield 39, 3) := by decide +kernel
theorem dX11_parsesC_53 : decode cX11_parsesC 53 = .ok (.iload_n 1, 1) := by decide +kernel
theorem dX11_parsesC_54 : decode cX11_parsesC 54 = .ok (.bipush 105, 2) := by decide +kernel
theorem dX11_parsesC_56 : decode cX11_parsesC 56 = .ok (.iastore, 1) := by decide +kernel
theorem dX11_parsesC_57 : decode cX11_parsesC 57 = .ok (.aload_n 0, 1) := by decide +kernel
theorem dX11_parsesC_58 : decode cX11_parsesC 58 = .ok (.bipush 105, 2) := by decide +kernel
theorem dX11_parsesC_60 : decode cX11_parsesC 60 = .ok (.bipush 102, 2) := by decide +kernel
theorem dX11_parsesC_62 : decode cX11_parsesC 62 = .ok (.bipush 102, 2) := by decide +kernel
theorem dX11_parsesC_64 : decode cX11_parsesC 64 = .ok (.invokevirtual 204, 3) := by decide +kernel
theorem dX11_parsesC_67 : decode cX11_parsesC 67 = .ok (.aload_n 0, 1) := by decide +kernel
theorem dX11_parsesC_68 : decode cX11_parsesC 68 = .ok (.getfield 39, 3) := by decide +kernel
theorem dX11_parsesC_71 : decode cX11_parsesC 71 = .ok (.iload_n 1, 1) := by decide +kernel
theorem dX11_parsesC_72 : decode cX11_parsesC 72 = .ok (.iconst 1, 1) := by decide +kernel
theorem dX11_parsesC_73 : decode cX11_parsesC 73 = .ok (.iadd, 1) := by decide +kernel
theorem dX11_parsesC_74 : decode cX11_parsesC 74 = .ok (.aload_n 0, 1) := by decide +kernel
theorem dX11_parsesC_75 : decode cX11_parsesC 75 = .ok (.iconst 1, 1) := by decide +kernel
theorem dX11_parsesC_76 : decode cX11_parsesC 76 = .ok (.iconst 1, 1) := by decide +kernel
theorem dX11_parsesC_77 : decode cX11_parsesC 77 = .ok (.invokevirtual 208, 3) := by decide +kernel
theorem dX11_parsesC_80 : decode cX11_parsesC 80 = .ok (.iastore, 1) := by decide +kernel
theorem dX11_parsesC_81 : decode cX11_parsesC 81 = .ok (.aload_n 0, 1) := by decide +kernel
theorem dX11_parsesC_82 : decode cX11_parsesC 82 = .ok (.getfield 39, 3) := by decide +kernel
theorem dX11_parsesC_85 : decode cX11_parsesC 85 = .ok (.iload_n 1, 1) := by decide +kernel
theorem dX11_parsesC_86 : decode cX11_parsesC 86 = .ok (.iconst 2, 1) := by decide +kernel
theorem dX11_parsesC_87 : decode cX11_parsesC 87 = .ok (.iadd, 1) := by decide +kernel
theorem dX11_parsesC_88 : decode cX11_parsesC 88 = .ok (.aload_n 0, 1) := by decide +kernel
theorem dX11_parsesC_89 : decode cX11_parsesC 89 = .ok (.invokevirtual 211, 3) := by decide +kernel
theorem dX11_parsesC_92 : decode cX11_parsesC 92 = .ok (.iastore, 1) := by decide +kernel
theorem dX11_parsesC_93 : decode cX11_parsesC 93 = .ok (.return_, 1) := by decide +kernel
def f_X11_parsesC (x_buffer : (Nat → Int32)) (x_typed : Int32) (x_spot : Int32) (x_isWrong : Int32) (x_parsed : (Nat → Int32)) (p1 : Int32) : Option (Int32 × Int32 × (Nat → Int32)) :=
  q_bd (f_X11_needs x_buffer x_typed x_spot x_isWrong 108) (fun q1 =>
  q_lt (fun (_ : Unit) =>
  q_gd (q_in p1 180) (
  q_lt (upd x_parsed (p1.toNatClampNeg) 105) (fun u3 =>
  q_bd (f_X11_needsThree x_buffer x_typed q1.1 q1.2 105 102 102) (fun q4 =>
  q_bd (f_X11_afterBlank x_buffer x_typed q4.1 q4.2 1 1) (fun q5 =>
  q_gd (q_in (p1 + 1) 180) (
  q_lt (upd u3 ((p1 + 1).toNatClampNeg) q5.1) (fun u7 =>
  q_bd (f_X11_signed x_buffer x_typed q5.2.1 q5.2.2) (fun q8 =>
  q_gd (q_in (p1 + 2) 180) (
  q_lt (upd u7 ((p1 + 2).toNatClampNeg) q8.1) (fun u10 =>
  some (q8.2.1, q8.2.2, u10))))))))))) (fun (J49 : Unit → Option (Int32 × Int32 × (Nat → Int32))) =>
  q_br (q1.2 = 0) (
  q_bd (f_X11_here x_buffer x_typed q1.1) (fun q11 =>
  q_br (q11 = 101) (
  q_bd (f_X11_needsThree x_buffer x_typed q1.1 q1.2 101 97 114) (fun q12 =>
  q_bd (f_X11_afterBlank x_buffer x_typed q12.1 q12.2 1 1) (fun q13 =>
  q_gd (q_in (p1 + 1) 180) (
  q_lt (upd x_parsed ((p1 + 1).toNatClampNeg) q13.1) (fun u15 =>
  some (q13.2.1, q13.2.2, u15)))))) (
  J49 (())))) (
  J49 (()))))
theorem hv_X11_parsesC : yX11_parsesC.cls = RX11 ∧ yX11_parsesC.cls ≠ "java/lang/invoke/MethodHandle" ∧ yX11_parsesC.cls ≠ "java/lang/invoke/VarHandle" ∧ (parseMethodDescriptor yX11_parsesC.desc).map (fun d => d.parameters.length) = some 1 := by decide +kernel
abbrev rm_X11_parsesC : Room := { frames := 3, cells := 0, slots := 0, locals := 68 }
set_option maxHeartbeats 4000000 in
set_option maxRecDepth 100000 in
theorem k_X11_parsesC (l : Launch) (E : ET) (a : Nat → Nat) (o : Nat) (x : Model_t) (p1 : Int32) (res : Int32 × Int32 × (Nat → Int32)) (hF : f_X11_parsesC x.2.1.2.1 x.2.1.2.2.1 x.2.2.2.2.1 x.2.2.2.2.2.1 x.2.2.2.2.2.2 p1 = some res) (sz : Nat) : CtV l yX11_parsesC (mws yX11_parsesC cX11_parsesC 2 none) rm_X11_parsesC 0 0 [.ref (a o), .int p1] E (bl_Model E a o x) (bl_Model E a o ((x.1.1, x.1.2.1, x.1.2.2.1, x.1.2.2.2.1, x.1.2.2.2.2), (x.2.1.1, x.2.1.2.1, x.2.1.2.2.1, x.2.1.2.2.2.1, x.2.1.2.2.2.2), (x.2.2.1.1, x.2.2.1.2.1, x.2.2.1.2.2.1, x.2.2.1.2.2.2), (x.2.2.2.1, res.1, res.2.1, res.2.2))) sz := by
  refine mk_M (by decide +kernel) (Nat.le_of_ble_eq_true rfl) ?_
  intro p e s m below meth c A args Q ls hAe hsz hQ hx hb hr hml hin ha hown hlocks hA hz hzs hst hP hD hS hl
  have hown : s.vm.findClass RX11 = some m.cls := hown
  rw [hAe] at hQ
  subst hsz
  have hP : va_P E.1 vwCl (List.flatten [w_Model E a o x]) s.heap := hP
  have hD : va_D A (List.flatten [w_Model E a o x]) := hD
  have hl : lv_has ls 2 [(0, .ref (a o)), (1, .int p1)] := hl
  generalize hHe : s.heap = H at hP
  have hS : va_S A s.heap H [] := by rw [← hHe]; exact hS
  generalize ([] : List Loc) = locs at hS ⊢
  unfold f_X11_parsesC at hF
  refine lv_aload_n hx hb dX11_parsesC_0 rfl (lv_at hl 0 rfl) ?_
  refine lv_bipush (v := 108) hx hb dX11_parsesC_1 (by decide) ?_
  obtain ⟨q1, hq1, hF⟩ := q_bdi hF
  refine cl_v (Lc := [w_Model E a o x]) (Lc' := [w_Model E a o ((x.1.1, x.1.2.1, x.1.2.2.1, x.1.2.2.2.1, x.1.2.2.2.2), (x.2.1.1, x.2.1.2.1, x.2.1.2.2.1, x.2.1.2.2.2.1, x.2.1.2.2.2.2), (x.2.2.1.1, x.2.2.1.2.1, x.2.2.1.2.2.1, x.2.2.1.2.2.2), (x.2.2.2.1, q1.1, q1.2, x.2.2.2.2.2.2))]) (L' := [w_Model E a o ((x.1.1, x.1.2.1, x.1.2.2.1, x.1.2.2.2.1, x.1.2.2.2.2), (x.2.1.1, x.2.1.2.1, x.2.1.2.2.1, x.2.1.2.2.2.1, x.2.1.2.2.2.2), (x.2.2.1.1, x.2.2.1.2.1, x.2.2.1.2.2.1, x.2.2.1.2.2.2), (x.2.2.2.1, q1.1, q1.2, x.2.2.2.2.2.2))]) (va_runV (As := [.int 108]) (rest := []) ⟨hx, hb, hml, hown, ha⟩ (k_X11_needs l E a o x 108 q1 hq1 H.size) (cwV 1 ha (gi_V (fun _ h => h) mw2046 mw2048 mw62 mw87 mw2049) rfl rfl rfl hv_X11_needs ⟨(Nat.le_of_ble_eq_true rfl), (Nat.le_of_ble_eq_true rfl)⟩) ⟨pre_blind, va_recv hst.k (fr_P hP [0] rfl) (ci := 13) (q0 := 0) rfl rfl, pre_at hP hD hS hz hzs hst [0] (by decide) rfl rfl⟩ rfl rfl hl.1 rfl (lv_room (Nat.le_of_ble_eq_true rfl)) dX11_parsesC_3 ⟨(Nat.le_of_ble_eq_true rfl), (Nat.le_of_ble_eq_true rfl)⟩) hP hD hS hA [0] (by decide) rfl rfl rfl rfl (fun H locs hP hD hS => ?_)
  refine lv_aload_n hx hb dX11_parsesC_6 rfl (lv_at hl 0 rfl) ?_
  refine va_get (D := E.1) (ci := 13) (v := .int q1.2) (C := RX11) (T := TX11) (N := 18) hx hb ha in_X11 hown hst.k hP 0 rfl rfl 16 (by decide) (ha _ mw1652) (fun _ h9 => h9) rfl dX11_parsesC_7 ?_
  obtain ⟨J49, hJ49, hF⟩ := q_jn hF
  have jJ49 : ∀ (H : Heap) (locs : List Loc) (ls : Array Slot), J49 () = some res → va_P E.1 vwCl (List.flatten [w_Model E a o ((x.1.1, x.1.2.1, x.1.2.2.1, x.1.2.2.2.1, x.1.2.2.2.2), (x.2.1.1, x.2.1.2.1, x.2.1.2.2.1, x.2.1.2.2.2.1, x.2.1.2.2.2.2), (x.2.2.1.1, x.2.2.1.2.1, x.2.2.1.2.2.1, x.2.2.1.2.2.2), (x.2.2.2.1, q1.1, q1.2, x.2.2.2.2.2.2))]) H → va_D A (List.flatten [w_Model E a o ((x.1.1, x.1.2.1, x.1.2.2.1, x.1.2.2.2.1, x.1.2.2.2.2), (x.2.1.1, x.2.1.2.1, x.2.1.2.2.1, x.2.1.2.2.2.1, x.2.1.2.2.2.2), (x.2.2.1.1, x.2.2.1.2.1, x.2.2.1.2.2.1, x.2.2.1.2.2.2), (x.2.2.2.1, q1.1, q1.2, x.2.2.2.2.2.2))]) → va_S A s.heap H locs → lv_has ls 2 [(0, .ref (a o)), (1, .int p1)] → W p l e rm_X11_parsesC s m args below meth c H locs 0 0 Q (F0 m 49 ls []) := by
    intro  H locs ls hF hP hD hS hl
    rw [hJ49] at hF
    refine lv_aload_n hx hb dX11_parsesC_49 rfl (lv_at hl 0 rfl) ?_
    refine va_get (D := E.1) (ci := 13) (v := .ref (a (o + 8))) (C := RX11) (T := TX11) (N := 18) hx hb ha in_X11 hown hst.k hP 0 rfl rfl 17 (by decide) (ha _ mw1653) (fun _ h9 => h9) rfl dX11_parsesC_50 ?_
    refine lv_iload_n hx hb dX11_parsesC_53 rfl (lv_at hl 1 rfl) ?_
    refine lv_bipush (v := 105) hx hb dX11_parsesC_54 (by decide) ?_
    obtain ⟨g2, hF⟩ := q_gdi hF
    refine vj_iast hx hb hst.k hP hD hS 8 0 rfl rfl (f := x.2.2.2.2.2.2) (k := p1.toNatClampNeg) rfl g2 dX11_parsesC_56 (fun u3 eu3 H locs hP hD hS => ?_)
    have hF := q_lti eu3 hF
    have hP : va_P E.1 vwCl (List.flatten [w_Model E a o ((x.1.1, x.1.2.1, x.1.2.2.1, x.1.2.2.2.1, x.1.2.2.2.2), (x.2.1.1, x.2.1.2.1, x.2.1.2.2.1, x.2.1.2.2.2.1, x.2.1.2.2.2.2), (x.2.2.1.1, x.2.2.1.2.1, x.2.2.1.2.2.1, x.2.2.1.2.2.2), (x.2.2.2.1, q1.1, q1.2, u3))]) H := hP
    have hD : va_D A (List.flatten [w_Model E a o ((x.1.1, x.1.2.1, x.1.2.2.1, x.1.2.2.2.1, x.1.2.2.2.2), (x.2.1.1, x.2.1.2.1, x.2.1.2.2.1, x.2.1.2.2.2.1, x.2.1.2.2.2.2), (x.2.2.1.1, x.2.2.1.2.1, x.2.2.1.2.2.1, x.2.2.1.2.2.2), (x.2.2.2.1, q1.1, q1.2, u3))]) := hD
    refine lv_aload_n hx hb dX11_parsesC_57 rfl (lv_at hl 0 rfl) ?_
    refine lv_bipush (v := 105) hx hb dX11_parsesC_58 (by decide) ?_
    refine lv_bipush (v := 102) hx hb dX11_parsesC_60 (by decide) ?_
    refine lv_bipush (v := 102) hx hb dX11_parsesC_62 (by decide) ?_
    obtain ⟨q4, hq4, hF⟩ := q_bdi hF
    refine cl_v (Lc := [w_Model E a o ((x.1.1, x.1.2.1, x.1.2.2.1, x.1.2.2.2.1, x.1.2.2.2.2), (x.2.1.1, x.2.1.2.1, x.2.1.2.2.1, x.2.1.2.2.2.1, x.2.1.2.2.2.2), (x.2.2.1.1, x.2.2.1.2.1, x.2.2.1.2.2.1, x.2.2.1.2.2.2), (x.2.2.2.1, q1.1, q1.2, u3))]) (Lc' := [w_Model E a o ((x.1.1, x.1.2.1, x.1.2.2.1, x.1.2.2.2.1, x.1.2.2.2.2), (x.2.1.1, x.2.1.2.1, x.2.1.2.2.1, x.2.1.2.2.2.1, x.2.1.2.2.2.2), (x.2.2.1.1, x.2.2.1.2.1, x.2.2.1.2.2.1, x.2.2.1.2.2.2), (x.2.2.2.1, q4.1, q4.2, u3))]) (L' := [w_Model E a o ((x.1.1, x.1.2.1, x.1.2.2.1, x.1.2.2.2.1, x.1.2.2.2.2), (x.2.1.1, x.2.1.2.1, x.2.1.2.2.1, x.2.1.2.2.2.1, x.2.1.2.2.2.2), (x.2.2.1.1, x.2.2.1.2.1, x.2.2.1.2.2.1, x.2.2.1.2.2.2), (x.2.2.2.1, q4.1, q4.2, u3))]) (va_runV (As := [.int 105, .int 102, .int 102]) (rest := []) ⟨hx, hb, hml, hown, ha⟩ (k_X11_needsThree l E a o ((x.1.1, x.1.2.1, x.1.2.2.1, x.1.2.2.2.1, x.1.2.2.2.2), (x.2.1.1, x.2.1.2.1, x.2.1.2.2.1, x.2.1.2.2.2.1, x.2.1.2.2.2.2), (x.2.2.1.1, x.2.2.1.2.1, x.2.2.1.2.2.1, x.2.2.1.2.2.2), (x.2.2.2.1, q1.1, q1.2, u3)) 105 102 102 q4 hq4 H.size) (cwV 3 ha (gi_V (fun _ h => h) mw2042 mw2044 mw61 mw87 mw2045) rfl rfl rfl hv_X11_needsThree ⟨(Nat.le_of_ble_eq_true rfl), (Nat.le_of_ble_eq_true rfl)⟩) ⟨pre_blind, va_recv hst.k (fr_P hP [0] rfl) (ci := 13) (q0 := 0) rfl rfl, pre_at hP hD hS hz hzs hst [0] (by decide) rfl rfl⟩ rfl rfl hl.1 rfl (lv_room (Nat.le_of_ble_eq_true rfl)) dX11_parsesC_64 ⟨(Nat.le_of_ble_eq_true rfl), (Nat.le_of_ble_eq_true rfl)⟩) hP hD hS hA [0] (by decide) rfl rfl rfl rfl (fun H locs hP hD hS => ?_)
    refine lv_aload_n hx hb dX11_parsesC_67 rfl (lv_at hl 0 rfl) ?_
    refine va_get (D := E.1) (ci := 13) (v := .ref (a (o + 8))) (C := RX11) (T := TX11) (N := 18) hx hb ha in_X11 hown hst.k hP 0 rfl rfl 17 (by decide) (ha _ mw1653) (fun _ h9 => h9) rfl dX11_parsesC_68 ?_
    refine lv_iload_n hx hb dX11_parsesC_71 rfl (lv_at hl 1 rfl) ?_
    refine lv_iconst (v := 1) hx hb dX11_parsesC_72 (by decide) ?_
    refine lv_iadd hx hb dX11_parsesC_73 ?_
    refine lv_aload_n hx hb dX11_parsesC_74 rfl (lv_at hl 0 rfl) ?_
    refine lv_iconst (v := 1) hx hb dX11_parsesC_75 (by decide) ?_
    refine lv_iconst (v := 1) hx hb dX11_parsesC_76 (by decide) ?_
    obtain ⟨q5, hq5, hF⟩ := q_bdi hF
    refine cl_i (Lc := [w_Model E a o ((x.1.1, x.1.2.1, x.1.2.2.1, x.1.2.2.2.1, x.1.2.2.2.2), (x.2.1.1, x.2.1.2.1, x.2.1.2.2.1, x.2.1.2.2.2.1, x.2.1.2.2.2.2), (x.2.2.1.1, x.2.2.1.2.1, x.2.2.1.2.2.1, x.2.2.1.2.2.2), (x.2.2.2.1, q4.1, q4.2, u3))]) (Lc' := [w_Model E a o ((x.1.1, x.1.2.1, x.1.2.2.1, x.1.2.2.2.1, x.1.2.2.2.2), (x.2.1.1, x.2.1.2.1, x.2.1.2.2.1, x.2.1.2.2.2.1, x.2.1.2.2.2.2), (x.2.2.1.1, x.2.2.1.2.1, x.2.2.1.2.2.1, x.2.2.1.2.2.2), (x.2.2.2.1, q5.2.1, q5.2.2, u3))]) (L' := [w_Model E a o ((x.1.1, x.1.2.1, x.1.2.2.1, x.1.2.2.2.1, x.1.2.2.2.2), (x.2.1.1, x.2.1.2.1, x.2.1.2.2.1, x.2.1.2.2.2.1, x.2.1.2.2.2.2), (x.2.2.1.1, x.2.2.1.2.1, x.2.2.1.2.2.1, x.2.2.1.2.2.2), (x.2.2.2.1, q5.2.1, q5.2.2, u3))]) (rv := q5.1) (va_runV (As := [.int 1, .int 1]) (rest := [.int (p1 + 1), .ref (a (o + 8))]) ⟨hx, hb, hml, hown, ha⟩ (k_X11_afterBlank l E a o ((x.1.1, x.1.2.1, x.1.2.2.1, x.1.2.2.2.1, x.1.2.2.2.2), (x.2.1.1, x.2.1.2.1, x.2.1.2.2.1, x.2.1.2.2.2.1, x.2.1.2.2.2.2), (x.2.2.1.1, x.2.2.1.2.1, x.2.2.1.2.2.1, x.2.2.1.2.2.2), (x.2.2.2.1, q4.1, q4.2, u3)) 1 1 q5 hq5 H.size) (cwV 2 ha (gi_V (fun _ h => h) mw2050 mw2052 mw63 mw87 mw2053) rfl rfl rfl hv_X11_afterBlank ⟨(Nat.le_of_ble_eq_true rfl), (Nat.le_of_ble_eq_true rfl)⟩) ⟨pre_blind, va_recv hst.k (fr_P hP [0] rfl) (ci := 13) (q0 := 0) rfl rfl, pre_at hP hD hS hz hzs hst [0] (by decide) rfl rfl⟩ rfl rfl hl.1 rfl (lv_room (Nat.le_of_ble_eq_true rfl)) dX11_parsesC_77 ⟨(Nat.le_of_ble_eq_true rfl), (Nat.le_of_ble_eq_true rfl)⟩) hP hD hS hA [0] (by decide) rfl rfl rfl rfl (fun H locs hP hD hS => ?_)
    obtain ⟨g6, hF⟩ := q_gdi hF
    refine vj_iast hx hb hst.k hP hD hS 8 0 rfl rfl (f := u3) (k := (p1 + 1).toNatClampNeg) rfl g6 dX11_parsesC_80 (fun u7 eu7 H locs hP hD hS => ?_)
    have hF := q_lti eu7 hF
    have hP : va_P E.1 vwCl (List.flatten [w_Model E a o ((x.1.1, x.1.2.1, x.1.2.2.1, x.1.2.2.2.1, x.1.2.2.2.2), (x.2.1.1, x.2.1.2.1, x.2.1.2.2.1, x.2.1.2.2.2.1, x.2.1.2.2.2.2), (x.2.2.1.1, x.2.2.1.2.1, x.2.2.1.2.2.1, x.2.2.1.2.2.2), (x.2.2.2.1, q5.2.1, q5.2.2, u7))]) H := hP
    have hD : va_D A (List.flatten [w_Model E a o ((x.1.1, x.1.2.1, x.1.2.2.1, x.1.2.2.2.1, x.1.2.2.2.2), (x.2.1.1, x.2.1.2.1, x.2.1.2.2.1, x.2.1.2.2.2.1, x.2.1.2.2.2.2), (x.2.2.1.1, x.2.2.1.2.1, x.2.2.1.2.2.1, x.2.2.1.2.2.2), (x.2.2.2.1, q5.2.1, q5.2.2, u7))]) := hD
    refine lv_aload_n hx hb dX11_parsesC_81 rfl (lv_at hl 0 rfl) ?_
    refine va_get (D := E.1) (ci := 13) (v := .ref (a (o + 8))) (C := RX11) (T := TX11) (N := 18) hx hb ha in_X11 hown hst.k hP 0 rfl rfl 17 (by decide) (ha _ mw1653) (fun _ h9 => h9) rfl dX11_parsesC_82 ?_
    refine lv_iload_n hx hb dX11_parsesC_85 rfl (lv_at hl 1 rfl) ?_
    refine lv_iconst (v := 2) hx hb dX11_parsesC_86 (by decide) ?_
    refine lv_iadd hx hb dX11_parsesC_87 ?_
    refine lv_aload_n hx hb dX11_parsesC_88 rfl (lv_at hl 0 rfl) ?_
    obtain ⟨q8, hq8, hF⟩ := q_bdi hF
    refine cl_i (Lc := [w_Model E a o ((x.1.1, x.1.2.1, x.1.2.2.1, x.1.2.2.2.1, x.1.2.2.2.2), (x.2.1.1, x.2.1.2.1, x.2.1.2.2.1, x.2.1.2.2.2.1, x.2.1.2.2.2.2), (x.2.2.1.1, x.2.2.1.2.1, x.2.2.1.2.2.1, x.2.2.1.2.2.2), (x.2.2.2.1, q5.2.1, q5.2.2, u7))]) (Lc' := [w_Model E a o ((x.1.1, x.1.2.1, x.1.2.2.1, x.1.2.2.2.1, x.1.2.2.2.2), (x.2.1.1, x.2.1.2.1, x.2.1.2.2.1, x.2.1.2.2.2.1, x.2.1.2.2.2.2), (x.2.2.1.1, x.2.2.1.2.1, x.2.2.1.2.2.1, x.2.2.1.2.2.2), (x.2.2.2.1, q8.2.1, q8.2.2, u7))]) (L' := [w_Model E a o ((x.1.1, x.1.2.1, x.1.2.2.1, x.1.2.2.2.1, x.1.2.2.2.2), (x.2.1.1, x.2.1.2.1, x.2.1.2.2.1, x.2.1.2.2.2.1, x.2.1.2.2.2.2), (x.2.2.1.1, x.2.2.1.2.1, x.2.2.1.2.2.1, x.2.2.1.2.2.2), (x.2.2.2.1, q8.2.1, q8.2.2, u7))]) (rv := q8.1) (va_runV (As := []) (rest := [.int (p1 + 2), .ref (a (o + 8))]) ⟨hx, hb, hml, hown, ha⟩ (k_X11_signed l E a o ((x.1.1, x.1.2.1, x.1.2.2.1, x.1.2.2.2.1, x.1.2.2.2.2), (x.2.1.1, x.2.1.2.1, x.2.1.2.2.1, x.2.1.2.2.2.1, x.2.1.2.2.2.2), (x.2.2.1.1, x.2.2.1.2.1, x.2.2.1.2.2.1, x.2.2.1.2.2.2), (x.2.2.2.1, q5.2.1, q5.2.2, u7)) q8 hq8 H.size) (cwV 0 ha (gi_V (fun _ h => h) mw2062 mw2064 mw66 mw87 mw2065) rfl rfl rfl hv_X11_signed ⟨(Nat.le_of_ble_eq_true rfl), (Nat.le_of_ble_eq_true rfl)⟩) ⟨pre_blind, va_recv hst.k (fr_P hP [0] rfl) (ci := 13) (q0 := 0) rfl rfl, pre_at hP hD hS hz hzs hst [0] (by decide) rfl rfl⟩ rfl rfl hl.1 rfl (lv_room (Nat.le_of_ble_eq_true rfl)) dX11_parsesC_89 ⟨(Nat.le_of_ble_eq_true rfl), (Nat.le_of_ble_eq_true rfl)⟩) hP hD hS hA [0] (by decide) rfl rfl rfl rfl (fun H locs hP hD hS => ?_)
    obtain ⟨g9, hF⟩ := q_gdi hF
    refine vj_iast hx hb hst.k hP hD hS 8 0 rfl rfl (f := u7) (k := (p1 + 2).toNatClampNeg) rfl g9 dX11_parsesC_92 (fun u10 eu10 H locs hP hD hS => ?_)
    have hF := q_lti eu10 hF
    have hP : va_P E.1 vwCl (List.flatten [w_Model E a o ((x.1.1, x.1.2.1, x.1.2.2.1, x.1.2.2.2.1, x.1.2.2.2.2), (x.2.1.1, x.2.1.2.1, x.2.1.2.2.1, x.2.1.2.2.2.1, x.2.1.2.2.2.2), (x.2.2.1.1, x.2.2.1.2.1, x.2.2.1.2.2.1, x.2.2.1.2.2.2), (x.2.2.2.1, q8.2.1, q8.2.2, u10))]) H := hP
    have hD : va_D A (List.flatten [w_Model E a o ((x.1.1, x.1.2.1, x.1.2.2.1, x.1.2.2.2.1, x.1.2.2.2.2), (x.2.1.1, x.2.1.2.1, x.2.1.2.2.1, x.2.1.2.2.2.1, x.2.1.2.2.2.2), (x.2.2.1.1, x.2.2.1.2.1, x.2.2.1.2.2.1, x.2.2.1.2.2.2), (x.2.2.2.1, q8.2.1, q8.2.2, u10))]) := hD
    obtain rfl := Option.some.inj hF
    exact en_v hQ (Nat.le_of_ble_eq_true rfl) (Nat.le_of_ble_eq_true rfl) hx hb hr hlocks hP hD hS dX11_parsesC_93
  refine lv_if_ne (tgt := 49) hx hb dX11_parsesC_10 (by decide) (fun c10 => ?_) (fun c10 => ?_)
  · have hF := q_brn c10 hF
    exact jJ49 H locs ls hF hP hD hS (lv_sub hl [0, 1] rfl)
  · have hF := q_brp c10 hF
    refine lv_aload_n hx hb dX11_parsesC_13 rfl (lv_at hl 0 rfl) ?_
    obtain ⟨q11, hq11, hF⟩ := q_bdi hF
    refine cl_i (Lc := [w_Model E a o ((x.1.1, x.1.2.1, x.1.2.2.1, x.1.2.2.2.1, x.1.2.2.2.2), (x.2.1.1, x.2.1.2.1, x.2.1.2.2.1, x.2.1.2.2.2.1, x.2.1.2.2.2.2), (x.2.2.1.1, x.2.2.1.2.1, x.2.2.1.2.2.1, x.2.2.1.2.2.2), (x.2.2.2.1, q1.1, q1.2, x.2.2.2.2.2.2))]) (Lc' := [w_Model E a o ((x.1.1, x.1.2.1, x.1.2.2.1, x.1.2.2.2.1, x.1.2.2.2.2), (x.2.1.1, x.2.1.2.1, x.2.1.2.2.1, x.2.1.2.2.2.1, x.2.1.2.2.2.2), (x.2.2.1.1, x.2.2.1.2.1, x.2.2.1.2.2.1, x.2.2.1.2.2.2), (x.2.2.2.1, q1.1, q1.2, x.2.2.2.2.2.2))]) (L' := [w_Model E a o ((x.1.1, x.1.2.1, x.1.2.2.1, x.1.2.2.2.1, x.1.2.2.2.2), (x.2.1.1, x.2.1.2.1, x.2.1.2.2.1, x.2.1.2.2.2.1, x.2.1.2.2.2.2), (x.2.2.1.1, x.2.2.1.2.1, x.2.2.1.2.2.1, x.2.2.1.2.2.2), (x.2.2.2.1, q1.1, q1.2, x.2.2.2.2.2.2))]) (rv := q11) (va_runV (As := []) (rest := []) ⟨hx, hb, hml, hown, ha⟩ (k_X11_here l E a o ((x.1.1, x.1.2.1, x.1.2.2.1, x.1.2.2.2.1, x.1.2.2.2.2), (x.2.1.1, x.2.1.2.1, x.2.1.2.2.1, x.2.1.2.2.2.1, x.2.1.2.2.2.2), (x.2.2.1.1, x.2.2.1.2.1, x.2.2.1.2.2.1, x.2.2.1.2.2.2), (x.2.2.2.1, q1.1, q1.2, x.2.2.2.2.2.2)) q11 hq11 H.size) (cwV 0 ha (gi_V (fun _ h => h) mw2038 mw2040 mw60 mw87 mw2041) rfl rfl rfl hv_X11_here ⟨(Nat.le_of_ble_eq_true rfl), (Nat.le_of_ble_eq_true rfl)⟩) ⟨pre_blind, va_recv hst.k (fr_P hP [0] rfl) (ci := 13) (q0 := 0) rfl rfl, pre_at hP hD hS hz hzs hst [0] (by decide) rfl rfl⟩ rfl rfl hl.1 rfl (lv_room (Nat.le_of_ble_eq_true rfl)) dX11_parsesC_14 ⟨(Nat.le_of_ble_eq_true rfl), (Nat.le_of_ble_eq_true rfl)⟩) hP hD hS hA [0] (by decide) rfl rfl rfl rfl (fun H locs hP hD hS => ?_)
    refine lv_bipush (v := 101) hx hb dX11_parsesC_17 (by decide) ?_
    refine lv_icmp_ne (tgt := 49) hx hb dX11_parsesC_19 (by decide) (fun c19 => ?_) (fun c19 => ?_)
    · have hF := q_brn c19 hF
      exact jJ49 H locs ls hF hP hD hS (lv_sub hl [0, 1] rfl)
    · have hF := q_brp c19 hF
      refine lv_aload_n hx hb dX11_parsesC_22 rfl (lv_at hl 0 rfl) ?_
      refine lv_bipush (v := 101) hx hb dX11_parsesC_23 (by decide) ?_
      refine lv_bipush (v := 97) hx hb dX11_parsesC_25 (by decide) ?_
      refine lv_bipush (v := 114) hx hb dX11_parsesC_27 (by decide) ?_
      obtain ⟨q12, hq12, hF⟩ := q_bdi hF
      refine cl_v (Lc := [w_Model E a o ((x.1.1, x.1.2.1, x.1.2.2.1, x.1.2.2.2.1, x.1.2.2.2.2), (x.2.1.1, x.2.1.2.1, x.2.1.2.2.1, x.2.1.2.2.2.1, x.2.1.2.2.2.2), (x.2.2.1.1, x.2.2.1.2.1, x.2.2.1.2.2.1, x.2.2.1.2.2.2), (x.2.2.2.1, q1.1, q1.2, x.2.2.2.2.2.2))]) (Lc' := [w_Model E a o ((x.1.1, x.1.2.1, x.1.2.2.1, x.1.2.2.2.1, x.1.2.2.2.2), (x.2.1.1, x.2.1.2.1, x.2.1.2.2.1, x.2.1.2.2.2.1, x.2.1.2.2.2.2), (x.2.2.1.1, x.2.2.1.2.1, x.2.2.1.2.2.1, x.2.2.1.2.2.2), (x.2.2.2.1, q12.1, q12.2, x.2.2.2.2.2.2))]) (L' := [w_Model E a o ((x.1.1, x.1.2.1, x.1.2.2.1, x.1.2.2.2.1, x.1.2.2.2.2), (x.2.1.1, x.2.1.2.1, x.2.1.2.2.1, x.2.1.2.2.2.1, x.2.1.2.2.2.2), (x.2.2.1.1, x.2.2.1.2.1, x.2.2.1.2.2.1, x.2.2.1.2.2.2), (x.2.2.2.1, q12.1, q12.2, x.2.2.2.2.2.2))]) (va_runV (As := [.int 101, .int 97, .int 114]) (rest := []) ⟨hx, hb, hml, hown, ha⟩ (k_X11_needsThree l E a o ((x.1.1, x.1.2.1, x.1.2.2.1, x.1.2.2.2.1, x.1.2.2.2.2), (x.2.1.1, x.2.1.2.1, x.2.1.2.2.1, x.2.1.2.2.2.1, x.2.1.2.2.2.2), (x.2.2.1.1, x.2.2.1.2.1, x.2.2.1.2.2.1, x.2.2.1.2.2.2), (x.2.2.2.1, q1.1, q1.2, x.2.2.2.2.2.2)) 101 97 114 q12 hq12 H.size) (cwV 3 ha (gi_V (fun _ h => h) mw2042 mw2044 mw61 mw87 mw2045) rfl rfl rfl hv_X11_needsThree ⟨(Nat.le_of_ble_eq_true rfl), (Nat.le_of_ble_eq_true rfl)⟩) ⟨pre_blind, va_recv hst.k (fr_P hP [0] rfl) (ci := 13) (q0 := 0) rfl rfl, pre_at hP hD hS hz hzs hst [0] (by decide) rfl rfl⟩ rfl rfl hl.1 rfl (lv_room (Nat.le_of_ble_eq_true rfl)) dX11_parsesC_29 ⟨(Nat.le_of_ble_eq_true rfl), (Nat.le_of_ble_eq_true rfl)⟩) hP hD hS hA [0] (by decide) rfl rfl rfl rfl (fun H locs hP hD hS => ?_)
      refine lv_aload_n hx hb dX11_parsesC_32 rfl (lv_at hl 0 rfl) ?_
      refine va_get (D := E.1) (ci := 13) (v := .ref (a (o + 8))) (C := RX11) (T := TX11) (N := 18) hx hb ha in_X11 hown hst.k hP 0 rfl rfl 17 (by decide) (ha _ mw1653) (fun _ h9 => h9) rfl dX11_parsesC_33 ?_
      refine lv_iload_n hx hb dX11_parsesC_36 rfl (lv_at hl 1 rfl) ?_
      refine lv_iconst (v := 1) hx hb dX11_parsesC_37 (by decide) ?_
      refine lv_iadd hx hb dX11_parsesC_38 ?_
      refine lv_aload_n hx hb dX11_parsesC_39 rfl (lv_at hl 0 rfl) ?_
      refine lv_iconst (v := 1) hx hb dX11_parsesC_40 (by decide) ?_
      refine lv_iconst (v := 1) hx hb dX11_parsesC_41 (by decide) ?_
      obtain ⟨q13, hq13, hF⟩ := q_bdi hF
      refine cl_i (Lc := [w_Model E a o ((x.1.1, x.1.2.1, x.1.2.2.1, x.1.2.2.2.1, x.1.2.2.2.2), (x.2.1.1, x.2.1.2.1, x.2.1.2.2.1, x.2.1.2.2.2.1, x.2.1.2.2.2.2), (x.2.2.1.1, x.2.2.1.2.1, x.2.2.1.2.2.1, x.2.2.1.2.2.2), (x.2.2.2.1, q12.1, q12.2, x.2.2.2.2.2.2))]) (Lc' := [w_Model E a o ((x.1.1, x.1.2.1, x.1.2.2.1, x.1.2.2.2.1, x.1.2.2.2.2), (x.2.1.1, x.2.1.2.1, x.2.1.2.2.1, x.2.1.2.2.2.1, x.2.1.2.2.2.2), (x.2.2.1.1, x.2.2.1.2.1, x.2.2.1.2.2.1, x.2.2.1.2.2.2), (x.2.2.2.1, q13.2.1, q13.2.2, x.2.2.2.2.2.2))]) (L' := [w_Model E a o ((x.1.1, x.1.2.1, x.1.2.2.1, x.1.2.2.2.1, x.1.2.2.2.2), (x.2.1.1, x.2.1.2.1, x.2.1.2.2.1, x.2.1.2.2.2.1, x.2.1.2.2.2.2), (x.2.2.1.1, x.2.2.1.2.1, x.2.2.1.2.2.1, x.2.2.1.2.2.2), (x.2.2.2.1, q13.2.1, q13.2.2, x.2.2.2.2.2.2))]) (rv := q13.1) (va_runV (As := [.int 1, .int 1]) (rest := [.int (p1 + 1), .ref (a (o + 8))]) ⟨hx, hb, hml, hown, ha⟩ (k_X11_afterBlank l E a o ((x.1.1, x.1.2.1, x.1.2.2.1, x.1.2.2.2.1, x.1.2.2.2.2), (x.2.1.1, x.2.1.2.1, x.2.1.2.2.1, x.2.1.2.2.2.1, x.2.1.2.2.2.2), (x.2.2.1.1, x.2.2.1.2.1, x.2.2.1.2.2.1, x.2.2.1.2.2.2), (x.2.2.2.1, q12.1, q12.2, x.2.2.2.2.2.2)) 1 1 q13 hq13 H.size) (cwV 2 ha (gi_V (fun _ h => h) mw2050 mw2052 mw63 mw87 mw2053) rfl rfl rfl hv_X11_afterBlank ⟨(Nat.le_of_ble_eq_true rfl), (Nat.le_of_ble_eq_true rfl)⟩) ⟨pre_blind, va_recv hst.k (fr_P hP [0] rfl) (ci := 13) (q0 := 0) rfl rfl, pre_at hP hD hS hz hzs hst [0] (by decide) rfl rfl⟩ rfl rfl hl.1 rfl (lv_room (Nat.le_of_ble_eq_true rfl)) dX11_parsesC_42 ⟨(Nat.le_of_ble_eq_true rfl), (Nat.le_of_ble_eq_true rfl)⟩) hP hD hS hA [0] (by decide) rfl rfl rfl rfl (fun H locs hP hD hS => ?_)
      obtain ⟨g14, hF⟩ := q_gdi hF
      refine vj_iast hx hb hst.k hP hD hS 8 0 rfl rfl (f := x.2.2.2.2.2.2) (k := (p1 + 1).toNatClampNeg) rfl g14 dX11_parsesC_45 (fun u15 eu15 H locs hP hD hS => ?_)
      have hF := q_lti eu15 hF
      have hP : va_P E.1 vwCl (List.flatten [w_Model E a o ((x.1.1, x.1.2.1, x.1.2.2.1, x.1.2.2.2.1, x.1.2.2.2.2), (x.2.1.1, x.2.1.2.1, x.2.1.2.2.1, x.2.1.2.2.2.1, x.2.1.2.2.2.2), (x.2.2.1.1, x.2.2.1.2.1, x.2.2.1.2.2.1, x.2.2.1.2.2.2), (x.2.2.2.1, q13.2.1, q13.2.2, u15))]) H := hP
      have hD : va_D A (List.flatten [w_Model E a o ((x.1.1, x.1.2.1, x.1.2.2.1, x.1.2.2.2.1, x.1.2.2.2.2), (x.2.1.1, x.2.1.2.1, x.2.1.2.2.1, x.2.1.2.2.2.1, x.2.1.2.2.2.2), (x.2.2.1.1, x.2.2.1.2.1, x.2.2.1.2.2.1, x.2.2.1.2.2.2), (x.2.2.2.1, q13.2.1, q13.2.2, u15))]) := hD
      refine lv_goto (tgt := 93) hx hb dX11_parsesC_46 (by decide) ?_
      obtain rfl := Option.some.inj hF
      exact en_v hQ (Nat.le_of_ble_eq_true rfl) (Nat.le_of_ble_eq_true rfl) hx hb hr hlocks hP hD hS dX11_parsesC_93

/-! X11_parsesKey -/
theorem dX11_parsesKey_0 : decode cX11_parsesKey 0 = .ok (.aload_n 0, 1) := by decide +kernel
theorem dX11_parsesKey_1 : decode cX11_parsesKey 1 = .ok (.bipush 101, 2) := by decide +kernel
theorem dX11_parsesKey_3 : decode cX11_parsesKey 3 = .ok (.invokevirtual 198, 3) := by decide +kernel
theorem dX11_parsesKey_6 : decode cX11_parsesKey 6 = .ok (.aload_n 0, 1) := by decide +kernel
theorem dX11_parsesKey_7 : decode cX11_parsesKey 7 = .ok (.bipush 121, 2) := by decide +kernel
theorem dX11_parsesKey_9 : decode cX11_parsesKey 9 = .ok (.invokevirtual 198, 3) := by decide +kernel
theorem dX11_parsesKey_12 : decode cX11_parsesKey 12 = .ok (.aload_n 0, 1) := by decide +kernel
theorem dX11_parsesKey_13 : decode cX11_parsesKey 13 = .ok (.getfield 39, 3) := by decide +kernel
theorem dX11_parsesKey_16 : decode cX11_parsesKey 16 = .ok (.iload_n 1, 1) := by decide +kernel
theorem dX11_parsesKey_17 : decode cX11_parsesKey 17 = .ok (.iconst 1, 1) := by decide +kernel
theorem dX11_parsesKey_18 : decode cX11_parsesKey 18 = .ok (.iadd, 1) := by decide +kernel
theorem dX11_parsesKey_19 : decode cX11_parsesKey 19 = .ok (.aload_n 0, 1) := by decide +kernel
theorem dX11_parsesKey_20 : decode cX11_parsesKey 20 = .ok (.iconst 1, 1) := by decide +kernel
theorem dX11_parsesKey_21 : decode cX11_parsesKey 21 = .ok (.iconst 2, 1) := by decide +kernel
theorem dX11_parsesKey_22 : decode cX11_parsesKey 22 = .ok (.invokevirtual 208, 3) := by decide +kernel
theorem dX11_parsesKey_25 : decode cX11_parsesKey 25 = .ok (.iastore, 1) := by decide +kernel
theorem dX11_parsesKey_26 : decode cX11_parsesKey 26 = .ok (.aload_n 0, 1) := by decide +kernel
theorem dX11_parsesKey_27 : decode cX11_parsesKey 27 = .ok (.getfield 190, 3) := by decide +kernel
theorem dX11_parsesKey_30 : decode cX11_parsesKey 30 = .ok (.ifCond .ne 16, 3) := by decide +kernel
theorem dX11_parsesKey_33 : decode cX11_parsesKey 33 = .ok (.aload_n 0, 1) := by decide +kernel
theorem dX11_parsesKey_34 : decode cX11_parsesKey 34 = .ok (.invokevirtual 194, 3) := by decide +kernel
theorem dX11_parsesKey_37 : decode cX11_parsesKey 37 = .ok (.bipush 109, 2) := by decide +kernel
theorem dX11_parsesKey_39 : decode cX11_parsesKey 39 = .ok (.if_icmp .ne 7, 3) := by decide +kernel
theorem dX11_parsesKey_42 : decode cX11_parsesKey 42 = .ok (.iconst 1, 1) := by decide +kernel
theorem dX11_parsesKey_43 : decode cX11_parsesKey 43 = .ok (.goto 4, 3) := by decide +kernel
theorem dX11_parsesKey_46 : decode cX11_parsesKey 46 = .ok (.iconst 0, 1) := by decide +kernel
theorem dX11_parsesKey_47 : decode cX11_parsesKey 47 = .ok (.istore_n 2, 1) := by decide +kernel
theorem dX11_parsesKey_48 : decode cX11_parsesKey 48 = .ok (.aload_n 0, 1) := by decide +kernel
theorem dX11_parsesKey_49 : decode cX11_parsesKey 49 = .ok (.iload_n 2, 1) := by decide +kernel
theorem dX11_parsesKey_50 : decode cX11_parsesKey 50 = .ok (.ifCond .eq 8, 3) := by decide +kernel
theorem dX11_parsesKey_53 : decode cX11_parsesKey 53 = .ok (.bipush 109, 2) := by decide +kernel
theorem dX11_parsesKey_55 : decode cX11_parsesKey 55 = .ok (.goto 5, 3) := by decide +kernel
theorem dX11_parsesKey_58 : decode cX11_parsesKey 58 = .ok (.bipush 77, 2) := by decide +kernel
theorem dX11_parsesKey_60 : decode cX11_parsesKey 60 = .ok (.invokevirtual 198, 3) := by decide +kernel
theorem dX11_parsesKey_63 : decode cX11_parsesKey 63 = .ok (.aload_n 0, 1) := by decide +kernel
theorem dX11_parsesKey_64 : decode cX11_parsesKey 64 = .ok (.getfield 39, 3) := by decide +kernel
theorem dX11_parsesKey_67 : decode cX11_parsesKey 67 = .ok (.iload_n 1, 1) := by decide +kernel
theorem dX11_parsesKey_68 : decode cX11_parsesKey 68 = .ok (.iconst 2, 1) := by decide +kernel
theorem dX11_parsesKey_69 : decode cX11_parsesKey 69 = .ok (.iadd, 1) := by decide +kernel
theorem dX11_parsesKey_70 : decode cX11_parsesKey 70 = .ok (.iload_n 2, 1) := by decide +kernel
theorem dX11_parsesKey_71 : decode cX11_parsesKey 71 = .ok (.ifCond .eq 7, 3) := by decide +kernel
theorem dX11_parsesKey_74 : decode cX11_parsesKey 74 = .ok (.iconst 1, 1) := by decide +kernel
theorem dX11_parsesKey_75 : decode cX11_parsesKey 75 = .ok (.goto 4, 3) := by decide +kernel
theorem dX11_parsesKey_78 : decode cX11_parsesKey 78 = .ok (.iconst 0, 1) := by decide +kernel
theorem dX11_parsesKey_79 : decode cX11_parsesKey 79 = .ok (.iastore, 1) := by decide +kernel
theorem dX11_parsesKey_80 : decode cX11_parsesKey 80 = .ok (.return_, 1) := by decide +kernel
def f_X11_parsesKey (x_buffer : (Nat → Int32)) (x_typed : Int32) (x_spot : Int32) (x_isWrong : Int32) (x_parsed : (Nat → Int32)) (p1 : Int32) : Option (Int32 × Int32 × (Nat → Int32)) :=
  q_bd (f_X11_needs x_buffer x_typed x_spot x_isWrong 101) (fun q1 =>
  q_bd (f_X11_needs x_buffer x_typed q1.1 q1.2 121) (fun q2 =>
  q_bd (f_X11_afterBlank x_buffer x_typed q2.1 q2.2 1 2) (fun q3 =>
  q_gd (q_in (p1 + 1) 180) (
  q_lt (upd x_parsed ((p1 + 1).toNatClampNeg) q3.1) (fun u5 =>
  q_lt (fun (j6 : Int32) =>
  q_lt (fun (j7 : Int32) =>
  q_bd (f_X11_needs x_buffer x_typed q3.2.1 q3.2.2 j7) (fun q8 =>
  q_lt (fun (j9 : Int32) =>
  q_gd (q_in (p1 + 2) 180) (
  q_lt (upd u5 ((p1 + 2).toNatClampNeg) j9) (fun u11 =>
  some (q8.1, q8.2, u11)))) (fun (J79 : Int32 → Option (Int32 × Int32 × (Nat → Int32))) =>
  q_br (j6 = 0) (
  J79 0) (
  J79 1)))) (fun (J60 : Int32 → Option (Int32 × Int32 × (Nat → Int32))) =>
  q_br (j6 = 0) (
  J60 77) (
  J60 109))) (fun (J47 : Int32 → Option (Int32 × Int32 × (Nat → Int32))) =>
  q_br (q3.2.2 = 0) (
  q_bd (f_X11_here x_buffer x_typed q3.2.1) (fun q12 =>
  q_br (q12 = 109) (
  J47 1) (
  J47 0))) (
  J47 0)))))))
theorem hv_X11_parsesKey : yX11_parsesKey.cls = RX11 ∧ yX11_parsesKey.cls ≠ "java/lang/invoke/MethodHandle" ∧ yX11_parsesKey.cls ≠ "java/lang/invoke/VarHandle" ∧ (parseMethodDescriptor yX11_parsesKey.desc).map (fun d => d.parameters.length) = some 1 := by decide +kernel
abbrev rm_X11_parsesKey : Room := { frames := 3, cells := 0, slots := 0, locals := 68 }
set_option maxHeartbeats 4000000 in
set_option maxRecDepth 100000 in
theorem k_X11_parsesKey (l : Launch) (E : ET) (a : Nat → Nat) (o : Nat) (x : Model_t) (p1 : Int32) (res : Int32 × Int32 × (Nat → Int32)) (hF : f_X11_parsesKey x.2.1.2.1 x.2.1.2.2.1 x.2.2.2.2.1 x.2.2.2.2.2.1 x.2.2.2.2.2.2 p1 = some res) (sz : Nat) : CtV l yX11_parsesKey (mws yX11_parsesKey cX11_parsesKey 3 none) rm_X11_parsesKey 0 0 [.ref (a o), .int p1] E (bl_Model E a o x) (bl_Model E a o ((x.1.1, x.1.2.1, x.1.2.2.1, x.1.2.2.2.1, x.1.2.2.2.2), (x.2.1.1, x.2.1.2.1, x.2.1.2.2.1, x.2.1.2.2.2.1, x.2.1.2.2.2.2), (x.2.2.1.1, x.2.2.1.2.1, x.2.2.1.2.2.1, x.2.2.1.2.2.2), (x.2.2.2.1, res.1, res.2.1, res.2.2))) sz := by
  refine mk_M (by decide +kernel) (Nat.le_of_ble_eq_true rfl) ?_
  intro p e s m below meth c A args Q ls hAe hsz hQ hx hb hr hml hin ha hown hlocks hA hz hzs hst hP hD hS hl
  have hown : s.vm.findClass RX11 = some m.cls := hown
  rw [hAe] at hQ
  subst hsz
  have hP : va_P E.1 vwCl (List.flatten [w_Model E a o x]) s.heap := hP
  have hD : va_D A (List.flatten [w_Model E a o x]) := hD
  have hl : lv_has ls 3 [(0, .ref (a o)), (1, .int p1)] := hl
  generalize hHe : s.heap = H at hP
  have hS : va_S A s.heap H [] := by rw [← hHe]; exact hS
  generalize ([] : List Loc) = locs at hS ⊢
  unfold f_X11_parsesKey at hF
  refine lv_aload_n hx hb dX11_parsesKey_0 rfl (lv_at hl 0 rfl) ?_
  refine lv_bipush (v := 101) hx hb dX11_parsesKey_1 (by decide) ?_
  obtain ⟨q1, hq1, hF⟩ := q_bdi hF
  refine cl_v (Lc := [w_Model E a o x]) (Lc' := [w_Model E a o ((x.1.1, x.1.2.1, x.1.2.2.1, x.1.2.2.2.1, x.1.2.2.2.2), (x.2.1.1, x.2.1.2.1, x.2.1.2.2.1, x.2.1.2.2.2.1, x.2.1.2.2.2.2), (x.2.2.1.1, x.2.2.1.2.1, x.2.2.1.2.2.1, x.2.2.1.2.2.2), (x.2.2.2.1, q1.1, q1.2, x.2.2.2.2.2.2))]) (L' := [w_Model E a o ((x.1.1, x.1.2.1, x.1.2.2.1, x.1.2.2.2.1, x.1.2.2.2.2), (x.2.1.1, x.2.1.2.1, x.2.1.2.2.1, x.2.1.2.2.2.1, x.2.1.2.2.2.2), (x.2.2.1.1, x.2.2.1.2.1, x.2.2.1.2.2.1, x.2.2.1.2.2.2), (x.2.2.2.1, q1.1, q1.2, x.2.2.2.2.2.2))]) (va_runV (As := [.int 101]) (rest := []) ⟨hx, hb, hml, hown, ha⟩ (k_X11_needs l E a o x 101 q1 hq1 H.size) (cwV 1 ha (gi_V (fun _ h => h) mw2046 mw2048 mw62 mw87 mw2049) rfl rfl rfl hv_X11_needs ⟨(Nat.le_of_ble_eq_true rfl), (Nat.le_of_ble_eq_true rfl)⟩) ⟨pre_blind, va_recv hst.k (fr_P hP [0] rfl) (ci := 13) (q0 := 0) rfl rfl, pre_at hP hD hS hz hzs hst [0] (by decide) rfl rfl⟩ rfl rfl hl.1 rfl (lv_room (Nat.le_of_ble_eq_true rfl)) dX11_parsesKey_3 ⟨(Nat.le_of_ble_eq_true rfl), (Nat.le_of_ble_eq_true rfl)⟩) hP hD hS hA [0] (by decide) rfl rfl rfl rfl (fun H locs hP hD hS => ?_)
  refine lv_aload_n hx hb dX11_parsesKey_6 rfl (lv_at hl 0 rfl) ?_
  refine lv_bipush (v := 121) hx hb dX11_parsesKey_7 (by decide) ?_
  obtain ⟨q2, hq2, hF⟩ := q_bdi hF
  refine cl_v (Lc := [w_Model E a o ((x.1.1, x.1.2.1, x.1.2.2.1, x.1.2.2.2.1, x.1.2.2.2.2), (x.2.1.1, x.2.1.2.1, x.2.1.2.2.1, x.2.1.2.2.2.1, x.2.1.2.2.2.2), (x.2.2.1.1, x.2.2.1.2.1, x.2.2.1.2.2.1, x.2.2.1.2.2.2), (x.2.2.2.1, q1.1, q1.2, x.2.2.2.2.2.2))]) (Lc' := [w_Model E a o ((x.1.1, x.1.2.1, x.1.2.2.1, x.1.2.2.2.1, x.1.2.2.2.2), (x.2.1.1, x.2.1.2.1, x.2.1.2.2.1, x.2.1.2.2.2.1, x.2.1.2.2.2.2), (x.2.2.1.1, x.2.2.1.2.1, x.2.2.1.2.2.1, x.2.2.1.2.2.2), (x.2.2.2.1, q2.1, q2.2, x.2.2.2.2.2.2))]) (L' := [w_Model E a o ((x.1.1, x.1.2.1, x.1.2.2.1, x.1.2.2.2.1, x.1.2.2.2.2), (x.2.1.1, x.2.1.2.1, x.2.1.2.2.1, x.2.1.2.2.2.1, x.2.1.2.2.2.2), (x.2.2.1.1, x.2.2.1.2.1, x.2.2.1.2.2.1, x.2.2.1.2.2.2), (x.2.2.2.1, q2.1, q2.2, x.2.2.2.2.2.2))]) (va_runV (As := [.int 121]) (rest := []) ⟨hx, hb, hml, hown, ha⟩ (k_X11_needs l E a o ((x.1.1, x.1.2.1, x.1.2.2.1, x.1.2.2.2.1, x.1.2.2.2.2), (x.2.1.1, x.2.1.2.1, x.2.1.2.2.1, x.2.1.2.2.2.1, x.2.1.2.2.2.2), (x.2.2.1.1, x.2.2.1.2.1, x.2.2.1.2.2.1, x.2.2.1.2.2.2), (x.2.2.2.1, q1.1, q1.2, x.2.2.2.2.2.2)) 121 q2 hq2 H.size) (cwV 1 ha (gi_V (fun _ h => h) mw2046 mw2048 mw62 mw87 mw2049) rfl rfl rfl hv_X11_needs ⟨(Nat.le_of_ble_eq_true rfl), (Nat.le_of_ble_eq_true rfl)⟩) ⟨pre_blind, va_recv hst.k (fr_P hP [0] rfl) (ci := 13) (q0 := 0) rfl rfl, pre_at hP hD hS hz hzs hst [0] (by decide) rfl rfl⟩ rfl rfl hl.1 rfl (lv_room (Nat.le_of_ble_eq_true rfl)) dX11_parsesKey_9 ⟨(Nat.le_of_ble_eq_true rfl), (Nat.le_of_ble_eq_true rfl)⟩) hP hD hS hA [0] (by decide) rfl rfl rfl rfl (fun H locs hP hD hS => ?_)
  refine lv_aload_n hx hb dX11_parsesKey_12 rfl (lv_at hl 0 rfl) ?_
  refine va_get (D := E.1) (ci := 13) (v := .ref (a (o + 8))) (C := RX11) (T := TX11) (N := 18) hx hb ha in_X11 hown hst.k hP 0 rfl rfl 17 (by decide) (ha _ mw1653) (fun _ h9 => h9) rfl dX11_parsesKey_13 ?_
  refine lv_iload_n hx hb dX11_parsesKey_16 rfl (lv_at hl 1 rfl) ?_
  refine lv_iconst (v := 1) hx hb dX11_parsesKey_17 (by decide) ?_
  refine lv_iadd hx hb dX11_parsesKey_18 ?_
  refine lv_aload_n hx hb dX11_parsesKey_19 rfl (lv_at hl 0 rfl) ?_
  refine lv_iconst (v := 1) hx hb dX11_parsesKey_20 (by decide) ?_
  refine lv_iconst (v := 2) hx hb dX11_parsesKey_21 (by decide) ?_
  obtain ⟨q3, hq3, hF⟩ := q_bdi hF
  refine cl_i (Lc := [w_Model E a o ((x.1.1, x.1.2.1, x.1.2.2.1, x.1.2.2.2.1, x.1.2.2.2.2), (x.2.1.1, x.2.1.2.1, x.2.1.2.2.1, x.2.1.2.2.2.1, x.2.1.2.2.2.2), (x.2.2.1.1, x.2.2.1.2.1, x.2.2.1.2.2.1, x.2.2.1.2.2.2), (x.2.2.2.1, q2.1, q2.2, x.2.2.2.2.2.2))]) (Lc' := [w_Model E a o ((x.1.1, x.1.2.1, x.1.2.2.1, x.1.2.2.2.1, x.1.2.2.2.2), (x.2.1.1, x.2.1.2.1, x.2.1.2.2.1, x.2.1.2.2.2.1, x.2.1.2.2.2.2), (x.2.2.1.1, x.2.2.1.2.1, x.2.2.1.2.2.1, x.2.2.1.2.2.2), (x.2.2.2.1, q3.2.1, q3.2.2, x.2.2.2.2.2.2))]) (L' := [w_Model E a o ((x.1.1, x.1.2.1, x.1.2.2.1, x.1.2.2.2.1, x.1.2.2.2.2), (x.2.1.1, x.2.1.2.1, x.2.1.2.2.1, x.2.1.2.2.2.1, x.2.1.2.2.2.2), (x.2.2.1.1, x.2.2.1.2.1, x.2.2.1.2.2.1, x.2.2.1.2.2.2), (x.2.2.2.1, q3.2.1, q3.2.2, x.2.2.2.2.2.2))]) (rv := q3.1) (va_runV (As := [.int 1, .int 2]) (rest := [.int (p1 + 1), .ref (a (o + 8))]) ⟨hx, hb, hml, hown, ha⟩ (k_X11_afterBlank l E a o ((x.1.1, x.1.2.1, x.1.2.2.1, x.1.2.2.2.1, x.1.2.2.2.2), (x.2.1.1, x.2.1.2.1, x.2.1.2.2.1, x.2.1.2.2.2.1, x.2.1.2.2.2.2), (x.2.2.1.1, x.2.2.1.2.1, x.2.2.1.2.2.1, x.2.2.1.2.2.2), (x.2.2.2.1, q2.1, q2.2, x.2.2.2.2.2.2)) 1 2 q3 hq3 H.size) (cwV 2 ha (gi_V (fun _ h => h) mw2050 mw2052 mw63 mw87 mw2053) rfl rfl rfl hv_X11_afterBlank ⟨(Nat.le_of_ble_eq_true rfl), (Nat.le_of_ble_eq_true rfl)⟩) ⟨pre_blind, va_recv hst.k (fr_P hP [0] rfl) (ci := 13) (q0 := 0) rfl rfl, pre_at hP hD hS hz hzs hst [0] (by decide) rfl rfl⟩ rfl rfl hl.1 rfl (lv_room (Nat.le_of_ble_eq_true rfl)) dX11_parsesKey_22 ⟨(Nat.le_of_ble_eq_true rfl), (Nat.le_of_ble_eq_true rfl)⟩) hP hD hS hA [0] (by decide) rfl rfl rfl rfl (fun H locs hP hD hS => ?_)
  obtain ⟨g4, hF⟩ := q_gdi hF
  refine vj_iast hx hb hst.k hP hD hS 8 0 rfl rfl (f := x.2.2.2.2.2.2) (k := (p1 + 1).toNatClampNeg) rfl g4 dX11_parsesKey_25 (fun u5 eu5 H locs hP hD hS => ?_)
  have hF := q_lti eu5 hF
  have hP : va_P E.1 vwCl (List.flatten [w_Model E a o ((x.1.1, x.1.2.1, x.1.2.2.1, x.1.2.2.2.1, x.1.2.2.2.2), (x.2.1.1, x.2.1.2.1, x.2.1.2.2.1, x.2.1.2.2.2.1, x.2.1.2.2.2.2), (x.2.2.1.1, x.2.2.1.2.1, x.2.2.1.2.2.1, x.2.2.1.2.2.2), (x.2.2.2.1, q3.2.1, q3.2.2, u5))]) H := hP
  have hD : va_D A (List.flatten [w_Model E a o ((x.1.1, x.1.2.1, x.1.2.2.1, x.1.2.2.2.1, x.1.2.2.2.2), (x.2.1.1, x.2.1.2.1, x.2.1.2.2.1, x.2.1.2.2.2.1, x.2.1.2.2.2.2), (x.2.2.1.1, x.2.2.1.2.1, x.2.2.1.2.2.1, x.2.2.1.2.2.2), (x.2.2.2.1, q3.2.1, q3.2.2, u5))]) := hD
  refine lv_aload_n hx hb dX11_parsesKey_26 rfl (lv_at hl 0 rfl) ?_
  refine va_get (D := E.1) (ci := 13) (v := .int q3.2.2) (C := RX11) (T := TX11) (N := 18) hx hb ha in_X11 hown hst.k hP 0 rfl rfl 16 (by decide) (ha _ mw1652) (fun _ h9 => h9) rfl dX11_parsesKey_27 ?_
  obtain ⟨J47, hJ47, hF⟩ := q_jn hF
  have jJ47 : ∀ (j6 : Int32), ∀ (H : Heap) (locs : List Loc) (ls : Array Slot), J47 j6 = some res → va_P E.1 vwCl (List.flatten [w_Model E a o ((x.1.1, x.1.2.1, x.1.2.2.1, x.1.2.2.2.1, x.1.2.2.2.2), (x.2.1.1, x.2.1.2.1, x.2.1.2.2.1, x.2.1.2.2.2.1, x.2.1.2.2.2.2), (x.2.2.1.1, x.2.2.1.2.1, x.2.2.1.2.2.1, x.2.2.1.2.2.2), (x.2.2.2.1, q3.2.1, q3.2.2, u5))]) H → va_D A (List.flatten [w_Model E a o ((x.1.1, x.1.2.1, x.1.2.2.1, x.1.2.2.2.1, x.1.2.2.2.2), (x.2.1.1, x.2.1.2.1, x.2.1.2.2.1, x.2.1.2.2.2.1, x.2.1.2.2.2.2), (x.2.2.1.1, x.2.2.1.2.1, x.2.2.1.2.2.1, x.2.2.1.2.2.2), (x.2.2.2.1, q3.2.1, q3.2.2, u5))]) → va_S A s.heap H locs → lv_has ls 3 [(0, .ref (a o)), (1, .int p1)] → W p l e rm_X11_parsesKey s m args below meth c H locs 0 0 Q (F0 m 47 ls [.int j6]) := by
    intro j6 H locs ls hF hP hD hS hl
    rw [hJ47] at hF
    refine lv_istore_n (lv' := [(2, .int j6), (0, .ref (a o)), (1, .int p1)]) hx hb dX11_parsesKey_47 rfl hl (by decide) rfl (fun ls hl => ?_)
    refine lv_aload_n hx hb dX11_parsesKey_48 rfl (lv_at hl 1 rfl) ?_
    refine lv_iload_n hx hb dX11_parsesKey_49 rfl (lv_at hl 0 rfl) ?_
    obtain ⟨J60, hJ60, hF⟩ := q_jn hF
    have jJ60 : ∀ (j7 : Int32), ∀ (H : Heap) (locs : List Loc) (ls : Array Slot), J60 j7 = some res → va_P E.1 vwCl (List.flatten [w_Model E a o ((x.1.1, x.1.2.1, x.1.2.2.1, x.1.2.2.2.1, x.1.2.2.2.2), (x.2.1.1, x.2.1.2.1, x.2.1.2.2.1, x.2.1.2.2.2.1, x.2.1.2.2.2.2), (x.2.2.1.1, x.2.2.1.2.1, x.2.2.1.2.2.1, x.2.2.1.2.2.2), (x.2.2.2.1, q3.2.1, q3.2.2, u5))]) H → va_D A (List.flatten [w_Model E a o ((x.1.1, x.1.2.1, x.1.2.2.1, x.1.2.2.2.1, x.1.2.2.2.2), (x.2.1.1, x.2.1.2.1, x.2.1.2.2.1, x.2.1.2.2.2.1, x.2.1.2.2.2.2), (x.2.2.1.1, x.2.2.1.2.1, x.2.2.1.2.2.1, x.2.2.1.2.2.2), (x.2.2.2.1, q3.2.1, q3.2.2, u5))]) → va_S A s.heap H locs → lv_has ls 3 [(2, .int j6), (0, .ref (a o)), (1, .int p1)] → W p l e rm_X11_parsesKey s m args below meth c H locs 0 0 Q (F0 m 60 ls [.int j7, .ref (a o)]) := by
      intro j7 H locs ls hF hP hD hS hl
      rw [hJ60] at hF
      obtain ⟨q8, hq8, hF⟩ := q_bdi hF
      refine cl_v (Lc := [w_Model E a o ((x.1.1, x.1.2.1, x.1.2.2.1, x.1.2.2.2.1, x.1.2.2.2.2), (x.2.1.1, x.2.1.2.1, x.2.1.2.2.1, x.2.1.2.2.2.1, x.2.1.2.2.2.2), (x.2.2.1.1, x.2.2.1.2.1, x.2.2.1.2.2.1, x.2.2.1.2.2.2), (x.2.2.2.1, q3.2.1, q3.2.2, u5))]) (Lc' := [w_Model E a o ((x.1.1, x.1.2.1, x.1.2.2.1, x.1.2.2.2.1, x.1.2.2.2.2), (x.2.1.1, x.2.1.2.1, x.2.1.2.2.1, x.2.1.2.2.2.1, x.2.1.2.2.2.2), (x.2.2.1.1, x.2.2.1.2.1, x.2.2.1.2.2.1, x.2.2.1.2.2.2), (x.2.2.2.1, q8.1, q8.2, u5))]) (L' := [w_Model E a o ((x.1.1, x.1.2.1, x.1.2.2.1, x.1.2.2.2.1, x.1.2.2.2.2), (x.2.1.1, x.2.1.2.1, x.2.1.2.2.1, x.2.1.2.2.2.1, x.2.1.2.2.2.2), (x.2.2.1.1, x.2.2.1.2.1, x.2.2.1.2.2.1, x.2.2.1.2.2.2), (x.2.2.2.1, q8.1, q8.2, u5))]) (va_runV (As := [.int j7]) (rest := []) ⟨hx, hb, hml, hown, ha⟩ (k_X11_needs l E a o ((x.1.1, x.1.2.1, x.1.2.2.1, x.1.2.2.2.1, x.1.2.2.2.2), (x.2.1.1, x.2.1.2.1, x.2.1.2.2.1, x.2.1.2.2.2.1, x.2.1.2.2.2.2), (x.2.2.1.1, x.2.2.1.2.1, x.2.2.1.2.2.1, x.2.2.1.2.2.2), (x.2.2.2.1, q3.2.1, q3.2.2, u5)) j7 q8 hq8 H.size) (cwV 1 ha (gi_V (fun _ h => h) mw2046 mw2048 mw62 mw87 mw2049) rfl rfl rfl hv_X11_needs ⟨(Nat.le_of_ble_eq_true rfl), (Nat.le_of_ble_eq_true rfl)⟩) ⟨pre_blind, va_recv hst.k (fr_P hP [0] rfl) (ci := 13) (q0 := 0) rfl rfl, pre_at hP hD hS hz hzs hst [0] (by decide) rfl rfl⟩ rfl rfl hl.1 rfl (lv_room (Nat.le_of_ble_eq_true rfl)) dX11_parsesKey_60 ⟨(Nat.le_of_ble_eq_true rfl), (Nat.le_of_ble_eq_true rfl)⟩) hP hD hS hA [0] (by decide) rfl rfl rfl rfl (fun H locs hP hD hS => ?_)
      refine lv_aload_n hx hb dX11_parsesKey_63 rfl (lv_at hl 1 rfl) ?_
      refine va_get (D := E.1) (ci := 13) (v := .ref (a (o + 8))) (C := RX11) (T := TX11) (N := 18) hx hb ha in_X11 hown hst.k hP 0 rfl rfl 17 (by decide) (ha _ mw1653) (fun _ h9 => h9) rfl dX11_parsesKey_64 ?_
      refine lv_iload_n hx hb dX11_parsesKey_67 rfl (lv_at hl 2 rfl) ?_
      refine lv_iconst (v := 2) hx hb dX11_parsesKey_68 (by decide) ?_
      refine lv_iadd hx hb dX11_parsesKey_69 ?_
      refine lv_iload_n hx hb dX11_parsesKey_70 rfl (lv_at hl 0 rfl) ?_
      obtain ⟨J79, hJ79, hF⟩ := q_jn hF
      have jJ79 : ∀ (j9 : Int32), ∀ (H : Heap) (locs : List Loc) (ls : Array Slot), J79 j9 = some res → va_P E.1 vwCl (List.flatten [w_Model E a o ((x.1.1, x.1.2.1, x.1.2.2.1, x.1.2.2.2.1, x.1.2.2.2.2), (x.2.1.1, x.2.1.2.1, x.2.1.2.2.1, x.2.1.2.2.2.1, x.2.1.2.2.2.2), (x.2.2.1.1, x.2.2.1.2.1, x.2.2.1.2.2.1, x.2.2.1.2.2.2), (x.2.2.2.1, q8.1, q8.2, u5))]) H → va_D A (List.flatten [w_Model E a o ((x.1.1, x.1.2.1, x.1.2.2.1, x.1.2.2.2.1, x.1.2.2.2.2), (x.2.1.1, x.2.1.2.1, x.2.1.2.2.1, x.2.1.2.2.2.1, x.2.1.2.2.2.2), (x.2.2.1.1, x.2.2.1.2.1, x.2.2.1.2.2.1, x.2.2.1.2.2.2), (x.2.2.2.1, q8.1, q8.2, u5))]) → va_S A s.heap H locs → lv_has ls 3 [] → W p l e rm_X11_parsesKey s m args below meth c H locs 0 0 Q (F0 m 79 ls [.int j9, .int (p1 + 2), .ref (a (o + 8))]) := by
        intro j9 H locs ls hF hP hD hS hl
        rw [hJ79] at hF
        obtain ⟨g10, hF⟩ := q_gdi hF
        refine vj_iast hx hb hst.k hP hD hS 8 0 rfl rfl (f := u5) (k := (p1 + 2).toNatClampNeg) rfl g10 dX11_parsesKey_79 (fun u11 eu11 H locs hP hD hS => ?_)
        have hF := q_lti eu11 hF
        have hP : va_P E.1 vwCl (List.flatten [w_Model E a o ((x.1.1, x.1.2.1, x.1.2.2.1, x.1.2.2.2.1, x.1.2.2.2.2), (x.2.1.1, x.2.1.2.1, x.2.1.2.2.1, x.2.1.2.2.2.1, x.2.1.2.2.2.2), (x.2.2.1.1, x.2.2.1.2.1, x.2.2.1.2.2.1, x.2.2.1.2.2.2), (x.2.2.2.1, q8.1, q8.2, u11))]) H := hP
        have hD : va_D A (List.flatten [w_Model E a o ((x.1.1, x.1.2.1, x.1.2.2.1, x.1.2.2.2.1, x.1.2.2.2.2), (x.2.1.1, x.2.1.2.1, x.2.1.2.2.1, x.2.1.2.2.2.1, x.2.1.2.2.2.2), (x.2.2.1.1, x.2.2.1.2.1, x.2.2.1.2.2.1, x.2.2.1.2.2.2), (x.2.2.2.1, q8.1, q8.2, u11))]) := hD
        obtain rfl := Option.some.inj hF
        exact en_v hQ (Nat.le_of_ble_eq_true rfl) (Nat.le_of_ble_eq_true rfl) hx hb hr hlocks hP hD hS dX11_parsesKey_80
      refine lv_if_eq (tgt := 78) hx hb dX11_parsesKey_71 (by decide) (fun c71 => ?_) (fun c71 => ?_)
      · have hF := q_brp c71 hF
        refine lv_iconst (v := 0) hx hb dX11_parsesKey_78 (by decide) ?_
        exact jJ79 0 H locs ls hF hP hD hS (lv_sub hl [] rfl)
      · have hF := q_brn c71 hF
        refine lv_iconst (v := 1) hx hb dX11_parsesKey_74 (by decide) ?_
        refine lv_goto (tgt := 79) hx hb dX11_parsesKey_75 (by decide) ?_
        exact jJ79 1 H locs ls hF hP hD hS (lv_sub hl [] rfl)
    refine lv_if_eq (tgt := 58) hx hb dX11_parsesKey_50 (by decide) (fun c50 => ?_) (fun c50 => ?_)
    · have hF := q_brp c50 hF
      refine lv_bipush (v := 77) hx hb dX11_parsesKey_58 (by decide) ?_
      exact jJ60 77 H locs ls hF hP hD hS (lv_sub hl [0, 1, 2] rfl)
    · have hF := q_brn c50 hF
      refine lv_bipush (v := 109) hx hb dX11_parsesKey_53 (by decide) ?_
      refine lv_goto (tgt := 60) hx hb dX11_parsesKey_55 (by decide) ?_
      exact jJ60 109 H locs ls hF hP hD hS (lv_sub hl [0, 1, 2] rfl)
  refine lv_if_ne (tgt := 46) hx hb dX11_parsesKey_30 (by decide) (fun c30 => ?_) (fun c30 => ?_)
  · have hF := q_brn c30 hF
    refine lv_iconst (v := 0) hx hb dX11_parsesKey_46 (by decide) ?_
    exact jJ47 0 H locs ls hF hP hD hS (lv_sub hl [0, 1] rfl)
  · have hF := q_brp c30 hF
    refine lv_aload_n hx hb dX11_parsesKey_33 rfl (lv_at hl 0 rfl) ?_
    obtain ⟨q12, hq12, hF⟩ := q_bdi hF
    refine cl_i (Lc := [w_Model E a o ((x.1.1, x.1.2.1, x.1.2.2.1, x.1.2.2.2.1, x.1.2.2.2.2), (x.2.1.1, x.2.1.2.1, x.2.1.2.2.1, x.2.1.2.2.2.1, x.2.1.2.2.2.2), (x.2.2.1.1, x.2.2.1.2.1, x.2.2.1.2.2.1, x.2.2.1.2.2.2), (x.2.2.2.1, q3.2.1, q3.2.2, u5))]) (Lc' := [w_Model E a o ((x.1.1, x.1.2.1, x.1.2.2.1, x.1.2.2.2.1, x.1.2.2.2.2), (x.2.1.1, x.2.1.2.1, x.2.1.2.2.1, x.2.1.2.2.2.1, x.2.1.2.2.2.2), (x.2.2.1.1, x.2.2.1.2.1, x.2.2.1.2.2.1, x.2.2.1.2.2.2), (x.2.2.2.1, q3.2.1, q3.2.2, u5))]) (L' := [w_Model E a o ((x.1.1, x.1.2.1, x.1.2.2.1, x.1.2.2.2.1, x.1.2.2.2.2), (x.2.1.1, x.2.1.2.1, x.2.1.2.2.1, x.2.1.2.2.2.1, x.2.1.2.2.2.2), (x.2.2.1.1, x.2.2.1.2.1, x.2.2.1.2.2.1, x.2.2.1.2.2.2), (x.2.2.2.1, q3.2.1, q3.2.2, u5))]) (rv := q12) (va_runV (As := []) (rest := []) ⟨hx, hb, hml, hown, ha⟩ (k_X11_here l E a o ((x.1.1, x.1.2.1, x.1.2.2.1, x.1.2.2.2.1, x.1.2.2.2.2), (x.2.1.1, x.2.1.2.1, x.2.1.2.2.1, x.2.1.2.2.2.1, x.2.1.2.2.2.2), (x.2.2.1.1, x.2.2.1.2.1, x.2.2.1.2.2.1, x.2.2.1.2.2.2), (x.2.2.2.1, q3.2.1, q3.2.2, u5)) q12 hq12 H.size) (cwV 0 ha (gi_V (fun _ h => h) mw2038 mw2040 mw60 mw87 mw2041) rfl rfl rfl hv_X11_here ⟨(Nat.le_of_ble_eq_true rfl), (Nat.le_of_ble_eq_true rfl)⟩) ⟨pre_blind, va_recv hst.k (fr_P hP [0] rfl) (ci := 13) (q0 := 0) rfl rfl, pre_at hP hD hS hz hzs hst [0] (by decide) rfl rfl⟩ rfl rfl hl.1 rfl (lv_room (Nat.le_of_ble_eq_true rfl)) dX11_parsesKey_34 ⟨(Nat.le_of_ble_eq_true rfl), (Nat.le_of_ble_eq_true rfl)⟩) hP hD hS hA [0] (by decide) rfl rfl rfl rfl (fun H locs hP hD hS => ?_)
    refine lv_bipush (v := 109) hx hb dX11_parsesKey_37 (by decide) ?_
    refine lv_icmp_ne (tgt := 46) hx hb dX11_parsesKey_39 (by decide) (fun c39 => ?_) (fun c39 => ?_)
    · have hF := q_brn c39 hF
      refine lv_iconst (v := 0) hx hb dX11_parsesKey_46 (by decide) ?_
      exact jJ47 0 H locs ls hF hP hD hS (lv_sub hl [0, 1] rfl)
    · have hF := q_brp c39 hF
      refine lv_iconst (v := 1) hx hb dX11_parsesKey_42 (by decide) ?_
      refine lv_goto (tgt := 47) hx hb dX11_parsesKey_43 (by decide) ?_
      exact jJ47 1 H locs ls hF hP hD hS (lv_sub hl [0, 1] rfl)
