/-! X11_carriesOut -/
theorem dX11_carriesOut_0 : decode cX11_carriesOut 0 = .ok (.aload_n 0, 1) := by decide +kernel
theorem dX11_carriesOut_1 : decode cX11_carriesOut 1 = .ok (.getfield 39, 3) := by decide +kernel
theorem dX11_carriesOut_4 : decode cX11_carriesOut 4 = .ok (.iload_n 1, 1) := by decide +kernel
theorem dX11_carriesOut_5 : decode cX11_carriesOut 5 = .ok (.iconst 1, 1) := by decide +kernel
theorem dX11_carriesOut_6 : decode cX11_carriesOut 6 = .ok (.iadd, 1) := by decide +kernel
theorem dX11_carriesOut_7 : decode cX11_carriesOut 7 = .ok (.iaload, 1) := by decide +kernel
theorem dX11_carriesOut_8 : decode cX11_carriesOut 8 = .ok (.istore_n 2, 1) := by decide +kernel
theorem dX11_carriesOut_9 : decode cX11_carriesOut 9 = .ok (.aload_n 0, 1) := by decide +kernel
theorem dX11_carriesOut_10 : decode cX11_carriesOut 10 = .ok (.getfield 39, 3) := by decide +kernel
theorem dX11_carriesOut_13 : decode cX11_carriesOut 13 = .ok (.iload_n 1, 1) := by decide +kernel
theorem dX11_carriesOut_14 : decode cX11_carriesOut 14 = .ok (.iconst 2, 1) := by decide +kernel
theorem dX11_carriesOut_15 : decode cX11_carriesOut 15 = .ok (.iadd, 1) := by decide +kernel
theorem dX11_carriesOut_16 : decode cX11_carriesOut 16 = .ok (.iaload, 1) := by decide +kernel
theorem dX11_carriesOut_17 : decode cX11_carriesOut 17 = .ok (.istore_n 3, 1) := by decide +kernel
theorem dX11_carriesOut_18 : decode cX11_carriesOut 18 = .ok (.aload_n 0, 1) := by decide +kernel
theorem dX11_carriesOut_19 : decode cX11_carriesOut 19 = .ok (.getfield 39, 3) := by decide +kernel
theorem dX11_carriesOut_22 : decode cX11_carriesOut 22 = .ok (.iload_n 1, 1) := by decide +kernel
theorem dX11_carriesOut_23 : decode cX11_carriesOut 23 = .ok (.iaload, 1) := by decide +kernel
theorem dX11_carriesOut_24 : decode cX11_carriesOut 24 = .ok (.tableswitch 169 98 117 #[96, 143, 169, 149, 163, 169, 169, 156, 169, 123, 130, 116, 169, 169, 169, 169, 103, 169, 136, 109], 96) := by decide +kernel
theorem dX11_carriesOut_120 : decode cX11_carriesOut 120 = .ok (.aload_n 0, 1) := by decide +kernel
theorem dX11_carriesOut_121 : decode cX11_carriesOut 121 = .ok (.iload_n 2, 1) := by decide +kernel
theorem dX11_carriesOut_122 : decode cX11_carriesOut 122 = .ok (.iload_n 3, 1) := by decide +kernel
theorem dX11_carriesOut_123 : decode cX11_carriesOut 123 = .ok (.invokevirtual 89, 3) := by decide +kernel
theorem dX11_carriesOut_126 : decode cX11_carriesOut 126 = .ok (.ireturn, 1) := by decide +kernel
theorem dX11_carriesOut_127 : decode cX11_carriesOut 127 = .ok (.aload_n 0, 1) := by decide +kernel
theorem dX11_carriesOut_128 : decode cX11_carriesOut 128 = .ok (.iload_n 2, 1) := by decide +kernel
theorem dX11_carriesOut_129 : decode cX11_carriesOut 129 = .ok (.invokevirtual 102, 3) := by decide +kernel
theorem dX11_carriesOut_132 : decode cX11_carriesOut 132 = .ok (.ireturn, 1) := by decide +kernel
theorem dX11_carriesOut_133 : decode cX11_carriesOut 133 = .ok (.aload_n 0, 1) := by decide +kernel
theorem dX11_carriesOut_134 : decode cX11_carriesOut 134 = .ok (.iload_n 2, 1) := by decide +kernel
theorem dX11_carriesOut_135 : decode cX11_carriesOut 135 = .ok (.iload_n 3, 1) := by decide +kernel
theorem dX11_carriesOut_136 : decode cX11_carriesOut 136 = .ok (.invokevirtual 105, 3) := by decide +kernel
theorem dX11_carriesOut_139 : decode cX11_carriesOut 139 = .ok (.ireturn, 1) := by decide +kernel
theorem dX11_carriesOut_140 : decode cX11_carriesOut 140 = .ok (.aload_n 0, 1) := by decide +kernel
theorem dX11_carriesOut_141 : decode cX11_carriesOut 141 = .ok (.iload_n 2, 1) := by decide +kernel
theorem dX11_carriesOut_142 : decode cX11_carriesOut 142 = .ok (.iload_n 3, 1) := by decide +kernel
theorem dX11_carriesOut_143 : decode cX11_carriesOut 143 = .ok (.invokevirtual 108, 3) := by decide +kernel
theorem dX11_carriesOut_146 : decode cX11_carriesOut 146 = .ok (.ireturn, 1) := by decide +kernel
theorem dX11_carriesOut_147 : decode cX11_carriesOut 147 = .ok (.aload_n 0, 1) := by decide +kernel
theorem dX11_carriesOut_148 : decode cX11_carriesOut 148 = .ok (.iload_n 2, 1) := by decide +kernel
theorem dX11_carriesOut_149 : decode cX11_carriesOut 149 = .ok (.iload_n 3, 1) := by decide +kernel
theorem dX11_carriesOut_150 : decode cX11_carriesOut 150 = .ok (.invokevirtual 120, 3) := by decide +kernel
theorem dX11_carriesOut_153 : decode cX11_carriesOut 153 = .ok (.ireturn, 1) := by decide +kernel
theorem dX11_carriesOut_154 : decode cX11_carriesOut 154 = .ok (.aload_n 0, 1) := by decide +kernel
theorem dX11_carriesOut_155 : decode cX11_carriesOut 155 = .ok (.iload_n 2, 1) := by decide +kernel
theorem dX11_carriesOut_156 : decode cX11_carriesOut 156 = .ok (.invokevirtual 123, 3) := by decide +kernel
theorem dX11_carriesOut_159 : decode cX11_carriesOut 159 = .ok (.ireturn, 1) := by decide +kernel
theorem dX11_carriesOut_160 : decode cX11_carriesOut 160 = .ok (.aload_n 0, 1) := by decide +kernel
theorem dX11_carriesOut_161 : decode cX11_carriesOut 161 = .ok (.iload_n 2, 1) := by decide +kernel
theorem dX11_carriesOut_162 : decode cX11_carriesOut 162 = .ok (.iload_n 3, 1) := by decide +kernel
theorem dX11_carriesOut_163 : decode cX11_carriesOut 163 = .ok (.invokevirtual 126, 3) := by decide +kernel
theorem dX11_carriesOut_166 : decode cX11_carriesOut 166 = .ok (.ireturn, 1) := by decide +kernel
theorem dX11_carriesOut_167 : decode cX11_carriesOut 167 = .ok (.aload_n 0, 1) := by decide +kernel
theorem dX11_carriesOut_168 : decode cX11_carriesOut 168 = .ok (.iload_n 2, 1) := by decide +kernel
theorem dX11_carriesOut_169 : decode cX11_carriesOut 169 = .ok (.invokevirtual 129, 3) := by decide +kernel
theorem dX11_carriesOut_172 : decode cX11_carriesOut 172 = .ok (.ireturn, 1) := by decide +kernel
theorem dX11_carriesOut_173 : decode cX11_carriesOut 173 = .ok (.aload_n 0, 1) := by decide +kernel
theorem dX11_carriesOut_174 : decode cX11_carriesOut 174 = .ok (.iload_n 2, 1) := by decide +kernel
theorem dX11_carriesOut_175 : decode cX11_carriesOut 175 = .ok (.iload_n 3, 1) := by decide +kernel
theorem dX11_carriesOut_176 : decode cX11_carriesOut 176 = .ok (.invokevirtual 132, 3) := by decide +kernel
theorem dX11_carriesOut_179 : decode cX11_carriesOut 179 = .ok (.ireturn, 1) := by decide +kernel
theorem dX11_carriesOut_180 : decode cX11_carriesOut 180 = .ok (.aload_n 0, 1) := by decide +kernel
theorem dX11_carriesOut_181 : decode cX11_carriesOut 181 = .ok (.iload_n 2, 1) := by decide +kernel
theorem dX11_carriesOut_182 : decode cX11_carriesOut 182 = .ok (.iload_n 3, 1) := by decide +kernel
theorem dX11_carriesOut_183 : decode cX11_carriesOut 183 = .ok (.invokevirtual 135, 3) := by decide +kernel
theorem dX11_carriesOut_186 : decode cX11_carriesOut 186 = .ok (.ireturn, 1) := by decide +kernel
theorem dX11_carriesOut_187 : decode cX11_carriesOut 187 = .ok (.aload_n 0, 1) := by decide +kernel
theorem dX11_carriesOut_188 : decode cX11_carriesOut 188 = .ok (.iload_n 2, 1) := by decide +kernel
theorem dX11_carriesOut_189 : decode cX11_carriesOut 189 = .ok (.invokevirtual 141, 3) := by decide +kernel
theorem dX11_carriesOut_192 : decode cX11_carriesOut 192 = .ok (.ireturn, 1) := by decide +kernel
theorem dX11_carriesOut_193 : decode cX11_carriesOut 193 = .ok (.aload_n 0, 1) := by decide +kernel
theorem dX11_carriesOut_194 : decode cX11_carriesOut 194 = .ok (.iload_n 2, 1) := by decide +kernel
theorem dX11_carriesOut_195 : decode cX11_carriesOut 195 = .ok (.iload_n 3, 1) := by decide +kernel
theorem dX11_carriesOut_196 : decode cX11_carriesOut 196 = .ok (.invokevirtual 114, 3) := by decide +kernel
theorem dX11_carriesOut_199 : decode cX11_carriesOut 199 = .ok (.ireturn, 1) := by decide +kernel
def f_X11_carriesOut (x_g : (Nat → Int32)) (x_thrown : Int32) (x_parsed : (Nat → Int32)) (p1 : Int32) : Option (Int32 × (Nat → Int32) × Int32) :=
  q_gd (q_in (p1 + 1) 180) (
  q_lt (x_parsed ((p1 + 1).toNatClampNeg) : Int32) (fun v2 =>
  q_gd (q_in (p1 + 2) 180) (
  q_lt (x_parsed ((p1 + 2).toNatClampNeg) : Int32) (fun v4 =>
  q_gd (q_in p1 180) (
  q_lt (x_parsed (p1.toNatClampNeg) : Int32) (fun v6 =>
  q_br (v6 = 98) (
  q_bd (f_X11_adds x_g x_thrown v2 v4) (fun q7 =>
  some (q7.1, q7.2.1, q7.2.2))) (
  q_br (v6 = 99) (
  q_bd (f_X11_clears x_g x_thrown v2) (fun q8 =>
  some (q8.1, q8.2.1, q8.2.2))) (
  q_br (v6 = 100) (
  q_bd (f_X11_grazes x_g x_thrown v2 v4) (fun q9 =>
  some (q9.1, q9.2.1, q9.2.2))) (
  q_br (v6 = 101) (
  q_bd (f_X11_enters x_g x_thrown v2 v4) (fun q10 =>
  some (q10.1, q10.2.1, q10.2.2))) (
  q_br (v6 = 102) (
  q_bd (f_X11_fells x_g x_thrown v2) (fun q11 =>
  some (q11.1, q11.2.1, q11.2.2))) (
  q_br (v6 = 103) (
  q_bd (f_X11_grazes x_g x_thrown v2 v4) (fun q12 =>
  some (q12.1, q12.2.1, q12.2.2))) (
  q_br (v6 = 104) (
  q_bd (f_X11_grazes x_g x_thrown v2 v4) (fun q13 =>
  some (q13.1, q13.2.1, q13.2.2))) (
  q_br (v6 = 105) (
  q_bd (f_X11_addsCliff x_g x_thrown v2 v4) (fun q14 =>
  some (q14.1, q14.2.1, q14.2.2))) (
  q_br (v6 = 106) (
  q_bd (f_X11_grazes x_g x_thrown v2 v4) (fun q15 =>
  some (q15.1, q15.2.1, q15.2.2))) (
  q_br (v6 = 107) (
  q_bd (f_X11_keys x_g x_thrown v2 v4) (fun q16 =>
  some (q16.1, q16.2.1, q16.2.2))) (
  q_br (v6 = 108) (
  q_bd (f_X11_tolerates x_g x_thrown v2) (fun q17 =>
  some (q17.1, q17.2.1, q17.2.2))) (
  q_br (v6 = 109) (
  q_bd (f_X11_moves x_g x_thrown v2 v4) (fun q18 =>
  some (q18.1, q18.2.1, q18.2.2))) (
  q_br (v6 = 110) (
  q_bd (f_X11_grazes x_g x_thrown v2 v4) (fun q19 =>
  some (q19.1, q19.2.1, q19.2.2))) (
  q_br (v6 = 111) (
  q_bd (f_X11_grazes x_g x_thrown v2 v4) (fun q20 =>
  some (q20.1, q20.2.1, q20.2.2))) (
  q_br (v6 = 112) (
  q_bd (f_X11_grazes x_g x_thrown v2 v4) (fun q21 =>
  some (q21.1, q21.2.1, q21.2.2))) (
  q_br (v6 = 113) (
  q_bd (f_X11_grazes x_g x_thrown v2 v4) (fun q22 =>
  some (q22.1, q22.2.1, q22.2.2))) (
  q_br (v6 = 114) (
  q_bd (f_X11_removes x_g x_thrown v2) (fun q23 =>
  some (q23.1, q23.2.1, q23.2.2))) (
  q_br (v6 = 115) (
  q_bd (f_X11_grazes x_g x_thrown v2 v4) (fun q24 =>
  some (q24.1, q24.2.1, q24.2.2))) (
  q_br (v6 = 116) (
  q_bd (f_X11_addsTone x_g x_thrown v2 v4) (fun q25 =>
  some (q25.1, q25.2.1, q25.2.2))) (
  q_br (v6 = 117) (
  q_bd (f_X11_tunes x_g x_thrown v2 v4) (fun q26 =>
  some (q26.1, q26.2.1, q26.2.2))) (
  q_bd (f_X11_grazes x_g x_thrown v2 v4) (fun q27 =>
  some (q27.1, q27.2.1, q27.2.2))))))))))))))))))))))))))))
theorem hv_X11_carriesOut : yX11_carriesOut.cls = RX11 ∧ yX11_carriesOut.cls ≠ "java/lang/invoke/MethodHandle" ∧ yX11_carriesOut.cls ≠ "java/lang/invoke/VarHandle" ∧ (parseMethodDescriptor yX11_carriesOut.desc).map (fun d => d.parameters.length) = some 1 := by decide +kernel
abbrev rm_X11_carriesOut : Room := { frames := 5, cells := 0, slots := 0, locals := 115 }
set_option maxHeartbeats 4000000 in
set_option maxRecDepth 100000 in
theorem k_X11_carriesOut (l : Launch) (E : ET) (a : Nat → Nat) (o : Nat) (x : Model_t) (p1 : Int32) (res : Int32 × (Nat → Int32) × Int32) (hF : f_X11_carriesOut x.1.1 x.2.2.2.1 x.2.2.2.2.2.2 p1 = some res) (sz : Nat) : CtI l yX11_carriesOut (mws yX11_carriesOut cX11_carriesOut 4 (some .int)) rm_X11_carriesOut 0 0 [.ref (a o), .int p1] E (bl_Model E a o x) res.1 (bl_Model E a o ((res.2.1, x.1.2.1, x.1.2.2.1, x.1.2.2.2.1, x.1.2.2.2.2), (x.2.1.1, x.2.1.2.1, x.2.1.2.2.1, x.2.1.2.2.2.1, x.2.1.2.2.2.2), (x.2.2.1.1, x.2.2.1.2.1, x.2.2.1.2.2.1, x.2.2.1.2.2.2), (res.2.2, x.2.2.2.2.1, x.2.2.2.2.2.1, x.2.2.2.2.2.2))) sz := by
  refine mk_M (by decide +kernel) (Nat.le_of_ble_eq_true rfl) ?_
  intro p e s m below meth c A args Q ls hAe hsz hQ hx hb hr hml hin ha hown hlocks hA hz hzs hst hP hD hS hl
  have hown : s.vm.findClass RX11 = some m.cls := hown
  rw [hAe] at hQ
  subst hsz
  have hP : va_P E.1 vwCl (List.flatten [w_Model E a o x]) s.heap := hP
  have hD : va_D A (List.flatten [w_Model E a o x]) := hD
  have hl : lv_has ls 4 [(0, .ref (a o)), (1, .int p1)] := hl
  generalize hHe : s.heap = H at hP
  have hS : va_S A s.heap H [] := by rw [← hHe]; exact hS
  generalize ([] : List Loc) = locs at hS ⊢
  unfold f_X11_carriesOut at hF
  refine lv_aload_n hx hb dX11_carriesOut_0 rfl (lv_at hl 0 rfl) ?_
  refine va_get (D := E.1) (ci := 13) (v := .ref (a (o + 8))) (C := RX11) (T := TX11) (N := 18) hx hb ha in_X11 hown hst.k hP 0 rfl rfl 17 (by decide) (ha _ mw1653) (fun _ h9 => h9) rfl dX11_carriesOut_1 ?_
  refine lv_iload_n hx hb dX11_carriesOut_4 rfl (lv_at hl 1 rfl) ?_
  refine lv_iconst (v := 1) hx hb dX11_carriesOut_5 (by decide) ?_
  refine lv_iadd hx hb dX11_carriesOut_6 ?_
  obtain ⟨g1, hF⟩ := q_gdi hF
  refine vi_iald hx hb hst.k hP 8 0 rfl rfl (f := x.2.2.2.2.2.2) (k := (p1 + 1).toNatClampNeg) rfl g1 dX11_carriesOut_7 ?_
  refine lv_topi (fun v2 ev2 => ?_)
  have hF := q_lti ev2 hF
  refine lv_istore_n (lv' := [(2, .int v2), (0, .ref (a o)), (1, .int p1)]) hx hb dX11_carriesOut_8 rfl hl (by decide) rfl (fun ls hl => ?_)
  refine lv_aload_n hx hb dX11_carriesOut_9 rfl (lv_at hl 1 rfl) ?_
  refine va_get (D := E.1) (ci := 13) (v := .ref (a (o + 8))) (C := RX11) (T := TX11) (N := 18) hx hb ha in_X11 hown hst.k hP 0 rfl rfl 17 (by decide) (ha _ mw1653) (fun _ h9 => h9) rfl dX11_carriesOut_10 ?_
  refine lv_iload_n hx hb dX11_carriesOut_13 rfl (lv_at hl 2 rfl) ?_
  refine lv_iconst (v := 2) hx hb dX11_carriesOut_14 (by decide) ?_
  refine lv_iadd hx hb dX11_carriesOut_15 ?_
  obtain ⟨g3, hF⟩ := q_gdi hF
  refine vi_iald hx hb hst.k hP 8 0 rfl rfl (f := x.2.2.2.2.2.2) (k := (p1 + 2).toNatClampNeg) rfl g3 dX11_carriesOut_16 ?_
  refine lv_topi (fun v4 ev4 => ?_)
  have hF := q_lti ev4 hF
  refine lv_istore_n (lv' := [(3, .int v4), (2, .int v2), (0, .ref (a o)), (1, .int p1)]) hx hb dX11_carriesOut_17 rfl hl (by decide) rfl (fun ls hl => ?_)
  refine lv_aload_n hx hb dX11_carriesOut_18 rfl (lv_at hl 2 rfl) ?_
  refine va_get (D := E.1) (ci := 13) (v := .ref (a (o + 8))) (C := RX11) (T := TX11) (N := 18) hx hb ha in_X11 hown hst.k hP 0 rfl rfl 17 (by decide) (ha _ mw1653) (fun _ h9 => h9) rfl dX11_carriesOut_19 ?_
  refine lv_iload_n hx hb dX11_carriesOut_22 rfl (lv_at hl 3 rfl) ?_
  obtain ⟨g5, hF⟩ := q_gdi hF
  refine vi_iald hx hb hst.k hP 8 0 rfl rfl (f := x.2.2.2.2.2.2) (k := p1.toNatClampNeg) rfl g5 dX11_carriesOut_23 ?_
  refine lv_topi (fun v6 ev6 => ?_)
  have hF := q_lti ev6 hF
  by_cases w24_0 : v6 = 98
  · have hF := q_brp w24_0 hF
    refine lv_tableIn (off := 96) (tgt := 120) hx hb dX11_carriesOut_24 (by rw [w24_0]; decide) (by rw [w24_0]; decide) (by rw [w24_0]; decide) (by decide) ?_
    refine lv_aload_n hx hb dX11_carriesOut_120 rfl (lv_at hl 2 rfl) ?_
    refine lv_iload_n hx hb dX11_carriesOut_121 rfl (lv_at hl 1 rfl) ?_
    refine lv_iload_n hx hb dX11_carriesOut_122 rfl (lv_at hl 0 rfl) ?_
    obtain ⟨q7, hq7, hF⟩ := q_bdi hF
    refine cl_i (Lc := [w_Model E a o x]) (Lc' := [w_Model E a o ((q7.2.1, x.1.2.1, x.1.2.2.1, x.1.2.2.2.1, x.1.2.2.2.2), (x.2.1.1, x.2.1.2.1, x.2.1.2.2.1, x.2.1.2.2.2.1, x.2.1.2.2.2.2), (x.2.2.1.1, x.2.2.1.2.1, x.2.2.1.2.2.1, x.2.2.1.2.2.2), (q7.2.2, x.2.2.2.2.1, x.2.2.2.2.2.1, x.2.2.2.2.2.2))]) (L' := [w_Model E a o ((q7.2.1, x.1.2.1, x.1.2.2.1, x.1.2.2.2.1, x.1.2.2.2.2), (x.2.1.1, x.2.1.2.1, x.2.1.2.2.1, x.2.1.2.2.2.1, x.2.1.2.2.2.2), (x.2.2.1.1, x.2.2.1.2.1, x.2.2.1.2.2.1, x.2.2.1.2.2.2), (q7.2.2, x.2.2.2.2.1, x.2.2.2.2.2.1, x.2.2.2.2.2.2))]) (rv := q7.1) (va_runV (As := [.int v2, .int v4]) (rest := []) ⟨hx, hb, hml, hown, ha⟩ (k_X11_adds l E a o x v2 v4 q7 hq7 H.size) (cwV 2 ha (gi_V (fun _ h => h) mw1706 mw1708 mw28 mw87 mw1709) rfl rfl rfl hv_X11_adds ⟨(Nat.le_of_ble_eq_true rfl), (Nat.le_of_ble_eq_true rfl)⟩) ⟨pre_blind, va_recv hst.k (fr_P hP [0] rfl) (ci := 13) (q0 := 0) rfl rfl, pre_at hP hD hS hz hzs hst [0] (by decide) rfl rfl⟩ rfl rfl hl.1 rfl (lv_room (Nat.le_of_ble_eq_true rfl)) dX11_carriesOut_123 ⟨(Nat.le_of_ble_eq_true rfl), (Nat.le_of_ble_eq_true rfl)⟩) hP hD hS hA [0] (by decide) rfl rfl rfl rfl (fun H locs hP hD hS => ?_)
    obtain rfl := Option.some.inj hF
    exact en_i hQ (Nat.le_of_ble_eq_true rfl) (Nat.le_of_ble_eq_true rfl) hx hb hr hlocks hP hD hS rfl dX11_carriesOut_126
  have hF := q_brn w24_0 hF
  by_cases w24_1 : v6 = 99
  · have hF := q_brp w24_1 hF
    refine lv_tableIn (off := 143) (tgt := 167) hx hb dX11_carriesOut_24 (by rw [w24_1]; decide) (by rw [w24_1]; decide) (by rw [w24_1]; decide) (by decide) ?_
    refine lv_aload_n hx hb dX11_carriesOut_167 rfl (lv_at hl 2 rfl) ?_
    refine lv_iload_n hx hb dX11_carriesOut_168 rfl (lv_at hl 1 rfl) ?_
    obtain ⟨q8, hq8, hF⟩ := q_bdi hF
    refine cl_i (Lc := [w_Model E a o x]) (Lc' := [w_Model E a o ((q8.2.1, x.1.2.1, x.1.2.2.1, x.1.2.2.2.1, x.1.2.2.2.2), (x.2.1.1, x.2.1.2.1, x.2.1.2.2.1, x.2.1.2.2.2.1, x.2.1.2.2.2.2), (x.2.2.1.1, x.2.2.1.2.1, x.2.2.1.2.2.1, x.2.2.1.2.2.2), (q8.2.2, x.2.2.2.2.1, x.2.2.2.2.2.1, x.2.2.2.2.2.2))]) (L' := [w_Model E a o ((q8.2.1, x.1.2.1, x.1.2.2.1, x.1.2.2.2.1, x.1.2.2.2.2), (x.2.1.1, x.2.1.2.1, x.2.1.2.2.1, x.2.1.2.2.2.1, x.2.1.2.2.2.2), (x.2.2.1.1, x.2.2.1.2.1, x.2.2.1.2.2.1, x.2.2.1.2.2.2), (q8.2.2, x.2.2.2.2.1, x.2.2.2.2.2.1, x.2.2.2.2.2.2))]) (rv := q8.1) (va_runV (As := [.int v2]) (rest := []) ⟨hx, hb, hml, hown, ha⟩ (k_X11_clears l E a o x v2 q8 hq8 H.size) (cwV 1 ha (gi_V (fun _ h => h) mw1825 mw1827 mw46 mw87 mw1828) rfl rfl rfl hv_X11_clears ⟨(Nat.le_of_ble_eq_true rfl), (Nat.le_of_ble_eq_true rfl)⟩) ⟨pre_blind, va_recv hst.k (fr_P hP [0] rfl) (ci := 13) (q0 := 0) rfl rfl, pre_at hP hD hS hz hzs hst [0] (by decide) rfl rfl⟩ rfl rfl hl.1 rfl (lv_room (Nat.le_of_ble_eq_true rfl)) dX11_carriesOut_169 ⟨(Nat.le_of_ble_eq_true rfl), (Nat.le_of_ble_eq_true rfl)⟩) hP hD hS hA [0] (by decide) rfl rfl rfl rfl (fun H locs hP hD hS => ?_)
    obtain rfl := Option.some.inj hF
    exact en_i hQ (Nat.le_of_ble_eq_true rfl) (Nat.le_of_ble_eq_true rfl) hx hb hr hlocks hP hD hS rfl dX11_carriesOut_172
  have hF := q_brn w24_1 hF
  by_cases w24_2 : v6 = 100
  · have hF := q_brp w24_2 hF
    refine lv_tableIn (off := 169) (tgt := 193) hx hb dX11_carriesOut_24 (by rw [w24_2]; decide) (by rw [w24_2]; decide) (by rw [w24_2]; decide) (by decide) ?_
    refine lv_aload_n hx hb dX11_carriesOut_193 rfl (lv_at hl 2 rfl) ?_
    refine lv_iload_n hx hb dX11_carriesOut_194 rfl (lv_at hl 1 rfl) ?_
    refine lv_iload_n hx hb dX11_carriesOut_195 rfl (lv_at hl 0 rfl) ?_
    obtain ⟨q9, hq9, hF⟩ := q_bdi hF
    refine cl_i (Lc := [w_Model E a o x]) (Lc' := [w_Model E a o ((q9.2.1, x.1.2.1, x.1.2.2.1, x.1.2.2.2.1, x.1.2.2.2.2), (x.2.1.1, x.2.1.2.1, x.2.1.2.2.1, x.2.1.2.2.2.1, x.2.1.2.2.2.2), (x.2.2.1.1, x.2.2.1.2.1, x.2.2.1.2.2.1, x.2.2.1.2.2.2), (q9.2.2, x.2.2.2.2.1, x.2.2.2.2.2.1, x.2.2.2.2.2.2))]) (L' := [w_Model E a o ((q9.2.1, x.1.2.1, x.1.2.2.1, x.1.2.2.2.1, x.1.2.2.2.2), (x.2.1.1, x.2.1.2.1, x.2.1.2.2.1, x.2.1.2.2.2.1, x.2.1.2.2.2.2), (x.2.2.1.1, x.2.2.1.2.1, x.2.2.1.2.2.1, x.2.2.1.2.2.2), (q9.2.2, x.2.2.2.2.1, x.2.2.2.2.2.1, x.2.2.2.2.2.2))]) (rv := q9.1) (va_runV (As := [.int v2, .int v4]) (rest := []) ⟨hx, hb, hml, hown, ha⟩ (k_X11_grazes l E a o x v2 v4 q9 hq9 H.size) (cwV 2 ha (gi_V (fun _ h => h) mw1764 mw1766 mw37 mw87 mw1767) rfl rfl rfl hv_X11_grazes ⟨(Nat.le_of_ble_eq_true rfl), (Nat.le_of_ble_eq_true rfl)⟩) ⟨pre_blind, va_recv hst.k (fr_P hP [0] rfl) (ci := 13) (q0 := 0) rfl rfl, pre_at hP hD hS hz hzs hst [0] (by decide) rfl rfl⟩ rfl rfl hl.1 rfl (lv_room (Nat.le_of_ble_eq_true rfl)) dX11_carriesOut_196 ⟨(Nat.le_of_ble_eq_true rfl), (Nat.le_of_ble_eq_true rfl)⟩) hP hD hS hA [0] (by decide) rfl rfl rfl rfl (fun H locs hP hD hS => ?_)
    obtain rfl := Option.some.inj hF
    exact en_i hQ (Nat.le_of_ble_eq_true rfl) (Nat.le_of_ble_eq_true rfl) hx hb hr hlocks hP hD hS rfl dX11_carriesOut_199
  have hF := q_brn w24_2 hF
  by_cases w24_3 : v6 = 101
  · have hF := q_brp w24_3 hF
    refine lv_tableIn (off := 149) (tgt := 173) hx hb dX11_carriesOut_24 (by rw [w24_3]; decide) (by rw [w24_3]; decide) (by rw [w24_3]; decide) (by decide) ?_
    refine lv_aload_n hx hb dX11_carriesOut_173 rfl (lv_at hl 2 rfl) ?_
    refine lv_iload_n hx hb dX11_carriesOut_174 rfl (lv_at hl 1 rfl) ?_
    refine lv_iload_n hx hb dX11_carriesOut_175 rfl (lv_at hl 0 rfl) ?_
    obtain ⟨q10, hq10, hF⟩ := q_bdi hF
    refine cl_i (Lc := [w_Model E a o x]) (Lc' := [w_Model E a o ((q10.2.1, x.1.2.1, x.1.2.2.1, x.1.2.2.2.1, x.1.2.2.2.2), (x.2.1.1, x.2.1.2.1, x.2.1.2.2.1, x.2.1.2.2.2.1, x.2.1.2.2.2.2), (x.2.2.1.1, x.2.2.1.2.1, x.2.2.1.2.2.1, x.2.2.1.2.2.2), (q10.2.2, x.2.2.2.2.1, x.2.2.2.2.2.1, x.2.2.2.2.2.2))]) (L' := [w_Model E a o ((q10.2.1, x.1.2.1, x.1.2.2.1, x.1.2.2.2.1, x.1.2.2.2.2), (x.2.1.1, x.2.1.2.1, x.2.1.2.2.1, x.2.1.2.2.2.1, x.2.1.2.2.2.2), (x.2.2.1.1, x.2.2.1.2.1, x.2.2.1.2.2.1, x.2.2.1.2.2.2), (q10.2.2, x.2.2.2.2.1, x.2.2.2.2.2.1, x.2.2.2.2.2.2))]) (rv := q10.1) (va_runV (As := [.int v2, .int v4]) (rest := []) ⟨hx, hb, hml, hown, ha⟩ (k_X11_enters l E a o x v2 v4 q10 hq10 H.size) (cwV 2 ha (gi_V (fun _ h => h) mw1833 mw1835 mw47 mw87 mw1836) rfl rfl rfl hv_X11_enters ⟨(Nat.le_of_ble_eq_true rfl), (Nat.le_of_ble_eq_true rfl)⟩) ⟨pre_blind, va_recv hst.k (fr_P hP [0] rfl) (ci := 13) (q0 := 0) rfl rfl, pre_at hP hD hS hz hzs hst [0] (by decide) rfl rfl⟩ rfl rfl hl.1 rfl (lv_room (Nat.le_of_ble_eq_true rfl)) dX11_carriesOut_176 ⟨(Nat.le_of_ble_eq_true rfl), (Nat.le_of_ble_eq_true rfl)⟩) hP hD hS hA [0] (by decide) rfl rfl rfl rfl (fun H locs hP hD hS => ?_)
    obtain rfl := Option.some.inj hF
    exact en_i hQ (Nat.le_of_ble_eq_true rfl) (Nat.le_of_ble_eq_true rfl) hx hb hr hlocks hP hD hS rfl dX11_carriesOut_179
  have hF := q_brn w24_3 hF
  by_cases w24_4 : v6 = 102
  · have hF := q_brp w24_4 hF
    refine lv_tableIn (off := 163) (tgt := 187) hx hb dX11_carriesOut_24 (by rw [w24_4]; decide) (by rw [w24_4]; decide) (by rw [w24_4]; decide) (by decide) ?_
    refine lv_aload_n hx hb dX11_carriesOut_187 rfl (lv_at hl 2 rfl) ?_
    refine lv_iload_n hx hb dX11_carriesOut_188 rfl (lv_at hl 1 rfl) ?_
    obtain ⟨q11, hq11, hF⟩ := q_bdi hF
    refine cl_i (Lc := [w_Model E a o x]) (Lc' := [w_Model E a o ((q11.2.1, x.1.2.1, x.1.2.2.1, x.1.2.2.2.1, x.1.2.2.2.2), (x.2.1.1, x.2.1.2.1, x.2.1.2.2.1, x.2.1.2.2.2.1, x.2.1.2.2.2.2), (x.2.2.1.1, x.2.2.1.2.1, x.2.2.1.2.2.1, x.2.2.1.2.2.2), (q11.2.2, x.2.2.2.2.1, x.2.2.2.2.2.1, x.2.2.2.2.2.2))]) (L' := [w_Model E a o ((q11.2.1, x.1.2.1, x.1.2.2.1, x.1.2.2.2.1, x.1.2.2.2.2), (x.2.1.1, x.2.1.2.1, x.2.1.2.2.1, x.2.1.2.2.2.1, x.2.1.2.2.2.2), (x.2.2.1.1, x.2.2.1.2.1, x.2.2.1.2.2.1, x.2.2.1.2.2.2), (q11.2.2, x.2.2.2.2.1, x.2.2.2.2.2.1, x.2.2.2.2.2.2))]) (rv := q11.1) (va_runV (As := [.int v2]) (rest := []) ⟨hx, hb, hml, hown, ha⟩ (k_X11_fells l E a o x v2 q11 hq11 H.size) (cwV 1 ha (gi_V (fun _ h => h) mw1849 mw1851 mw49 mw87 mw1852) rfl rfl rfl hv_X11_fells ⟨(Nat.le_of_ble_eq_true rfl), (Nat.le_of_ble_eq_true rfl)⟩) ⟨pre_blind, va_recv hst.k (fr_P hP [0] rfl) (ci := 13) (q0 := 0) rfl rfl, pre_at hP hD hS hz hzs hst [0] (by decide) rfl rfl⟩ rfl rfl hl.1 rfl (lv_room (Nat.le_of_ble_eq_true rfl)) dX11_carriesOut_189 ⟨(Nat.le_of_ble_eq_true rfl), (Nat.le_of_ble_eq_true rfl)⟩) hP hD hS hA [0] (by decide) rfl rfl rfl rfl (fun H locs hP hD hS => ?_)
    obtain rfl := Option.some.inj hF
    exact en_i hQ (Nat.le_of_ble_eq_true rfl) (Nat.le_of_ble_eq_true rfl) hx hb hr hlocks hP hD hS rfl dX11_carriesOut_192
  have hF := q_brn w24_4 hF
  by_cases w24_5 : v6 = 103
  · have hF := q_brp w24_5 hF
    refine lv_tableIn (off := 169) (tgt := 193) hx hb dX11_carriesOut_24 (by rw [w24_5]; decide) (by rw [w24_5]; decide) (by rw [w24_5]; decide) (by decide) ?_
    refine lv_aload_n hx hb dX11_carriesOut_193 rfl (lv_at hl 2 rfl) ?_
    refine lv_iload_n hx hb dX11_carriesOut_194 rfl (lv_at hl 1 rfl) ?_
    refine lv_iload_n hx hb dX11_carriesOut_195 rfl (lv_at hl 0 rfl) ?_
    obtain ⟨q12, hq12, hF⟩ := q_bdi hF
    refine cl_i (Lc := [w_Model E a o x]) (Lc' := [w_Model E a o ((q12.2.1, x.1.2.1, x.1.2.2.1, x.1.2.2.2.1, x.1.2.2.2.2), (x.2.1.1, x.2.1.2.1, x.2.1.2.2.1, x.2.1.2.2.2.1, x.2.1.2.2.2.2), (x.2.2.1.1, x.2.2.1.2.1, x.2.2.1.2.2.1, x.2.2.1.2.2.2), (q12.2.2, x.2.2.2.2.1, x.2.2.2.2.2.1, x.2.2.2.2.2.2))]) (L' := [w_Model E a o ((q12.2.1, x.1.2.1, x.1.2.2.1, x.1.2.2.2.1, x.1.2.2.2.2), (x.2.1.1, x.2.1.2.1, x.2.1.2.2.1, x.2.1.2.2.2.1, x.2.1.2.2.2.2), (x.2.2.1.1, x.2.2.1.2.1, x.2.2.1.2.2.1, x.2.2.1.2.2.2), (q12.2.2, x.2.2.2.2.1, x.2.2.2.2.2.1, x.2.2.2.2.2.2))]) (rv := q12.1) (va_runV (As := [.int v2, .int v4]) (rest := []) ⟨hx, hb, hml, hown, ha⟩ (k_X11_grazes l E a o x v2 v4 q12 hq12 H.size) (cwV 2 ha (gi_V (fun _ h => h) mw1764 mw1766 mw37 mw87 mw1767) rfl rfl rfl hv_X11_grazes ⟨(Nat.le_of_ble_eq_true rfl), (Nat.le_of_ble_eq_true rfl)⟩) ⟨pre_blind, va_recv hst.k (fr_P hP [0] rfl) (ci := 13) (q0 := 0) rfl rfl, pre_at hP hD hS hz hzs hst [0] (by decide) rfl rfl⟩ rfl rfl hl.1 rfl (lv_room (Nat.le_of_ble_eq_true rfl)) dX11_carriesOut_196 ⟨(Nat.le_of_ble_eq_true rfl), (Nat.le_of_ble_eq_true rfl)⟩) hP hD hS hA [0] (by decide) rfl rfl rfl rfl (fun H locs hP hD hS => ?_)
    obtain rfl := Option.some.inj hF
    exact en_i hQ (Nat.le_of_ble_eq_true rfl) (Nat.le_of_ble_eq_true rfl) hx hb hr hlocks hP hD hS rfl dX11_carriesOut_199
  have hF := q_brn w24_5 hF
  by_cases w24_6 : v6 = 104
  · have hF := q_brp w24_6 hF
    refine lv_tableIn (off := 169) (tgt := 193) hx hb dX11_carriesOut_24 (by rw [w24_6]; decide) (by rw [w24_6]; decide) (by rw [w24_6]; decide) (by decide) ?_
    refine lv_aload_n hx hb dX11_carriesOut_193 rfl (lv_at hl 2 rfl) ?_
    refine lv_iload_n hx hb dX11_carriesOut_194 rfl (lv_at hl 1 rfl) ?_
    refine lv_iload_n hx hb dX11_carriesOut_195 rfl (lv_at hl 0 rfl) ?_
    obtain ⟨q13, hq13, hF⟩ := q_bdi hF
    refine cl_i (Lc := [w_Model E a o x]) (Lc' := [w_Model E a o ((q13.2.1, x.1.2.1, x.1.2.2.1, x.1.2.2.2.1, x.1.2.2.2.2), (x.2.1.1, x.2.1.2.1, x.2.1.2.2.1, x.2.1.2.2.2.1, x.2.1.2.2.2.2), (x.2.2.1.1, x.2.2.1.2.1, x.2.2.1.2.2.1, x.2.2.1.2.2.2), (q13.2.2, x.2.2.2.2.1, x.2.2.2.2.2.1, x.2.2.2.2.2.2))]) (L' := [w_Model E a o ((q13.2.1, x.1.2.1, x.1.2.2.1, x.1.2.2.2.1, x.1.2.2.2.2), (x.2.1.1, x.2.1.2.1, x.2.1.2.2.1, x.2.1.2.2.2.1, x.2.1.2.2.2.2), (x.2.2.1.1, x.2.2.1.2.1, x.2.2.1.2.2.1, x.2.2.1.2.2.2), (q13.2.2, x.2.2.2.2.1, x.2.2.2.2.2.1, x.2.2.2.2.2.2))]) (rv := q13.1) (va_runV (As := [.int v2, .int v4]) (rest := []) ⟨hx, hb, hml, hown, ha⟩ (k_X11_grazes l E a o x v2 v4 q13 hq13 H.size) (cwV 2 ha (gi_V (fun _ h => h) mw1764 mw1766 mw37 mw87 mw1767) rfl rfl rfl hv_X11_grazes ⟨(Nat.le_of_ble_eq_true rfl), (Nat.le_of_ble_eq_true rfl)⟩) ⟨pre_blind, va_recv hst.k (fr_P hP [0] rfl) (ci := 13) (q0 := 0) rfl rfl, pre_at hP hD hS hz hzs hst [0] (by decide) rfl rfl⟩ rfl rfl hl.1 rfl (lv_room (Nat.le_of_ble_eq_true rfl)) dX11_carriesOut_196 ⟨(Nat.le_of_ble_eq_true rfl), (Nat.le_of_ble_eq_true rfl)⟩) hP hD hS hA [0] (by decide) rfl rfl rfl rfl (fun H locs hP hD hS => ?_)
    obtain rfl := Option.some.inj hF
    exact en_i hQ (Nat.le_of_ble_eq_true rfl) (Nat.le_of_ble_eq_true rfl) hx hb hr hlocks hP hD hS rfl dX11_carriesOut_199
  have hF := q_brn w24_6 hF
  by_cases w24_7 : v6 = 105
  · have hF := q_brp w24_7 hF
    refine lv_tableIn (off := 156) (tgt := 180) hx hb dX11_carriesOut_24 (by rw [w24_7]; decide) (by rw [w24_7]; decide) (by rw [w24_7]; decide) (by decide) ?_
    refine lv_aload_n hx hb dX11_carriesOut_180 rfl (lv_at hl 2 rfl) ?_
    refine lv_iload_n hx hb dX11_carriesOut_181 rfl (lv_at hl 1 rfl) ?_
    refine lv_iload_n hx hb dX11_carriesOut_182 rfl (lv_at hl 0 rfl) ?_
    obtain ⟨q14, hq14, hF⟩ := q_bdi hF
    refine cl_i (Lc := [w_Model E a o x]) (Lc' := [w_Model E a o ((q14.2.1, x.1.2.1, x.1.2.2.1, x.1.2.2.2.1, x.1.2.2.2.2), (x.2.1.1, x.2.1.2.1, x.2.1.2.2.1, x.2.1.2.2.2.1, x.2.1.2.2.2.2), (x.2.2.1.1, x.2.2.1.2.1, x.2.2.1.2.2.1, x.2.2.1.2.2.2), (q14.2.2, x.2.2.2.2.1, x.2.2.2.2.2.1, x.2.2.2.2.2.2))]) (L' := [w_Model E a o ((q14.2.1, x.1.2.1, x.1.2.2.1, x.1.2.2.2.1, x.1.2.2.2.2), (x.2.1.1, x.2.1.2.1, x.2.1.2.2.1, x.2.1.2.2.2.1, x.2.1.2.2.2.2), (x.2.2.1.1, x.2.2.1.2.1, x.2.2.1.2.2.1, x.2.2.1.2.2.2), (q14.2.2, x.2.2.2.2.1, x.2.2.2.2.2.1, x.2.2.2.2.2.2))]) (rv := q14.1) (va_runV (As := [.int v2, .int v4]) (rest := []) ⟨hx, hb, hml, hown, ha⟩ (k_X11_addsCliff l E a o x v2 v4 q14 hq14 H.size) (cwV 2 ha (gi_V (fun _ h => h) mw1841 mw1843 mw48 mw87 mw1844) rfl rfl rfl hv_X11_addsCliff ⟨(Nat.le_of_ble_eq_true rfl), (Nat.le_of_ble_eq_true rfl)⟩) ⟨pre_blind, va_recv hst.k (fr_P hP [0] rfl) (ci := 13) (q0 := 0) rfl rfl, pre_at hP hD hS hz hzs hst [0] (by decide) rfl rfl⟩ rfl rfl hl.1 rfl (lv_room (Nat.le_of_ble_eq_true rfl)) dX11_carriesOut_183 ⟨(Nat.le_of_ble_eq_true rfl), (Nat.le_of_ble_eq_true rfl)⟩) hP hD hS hA [0] (by decide) rfl rfl rfl rfl (fun H locs hP hD hS => ?_)
    obtain rfl := Option.some.inj hF
    exact en_i hQ (Nat.le_of_ble_eq_true rfl) (Nat.le_of_ble_eq_true rfl) hx hb hr hlocks hP hD hS rfl dX11_carriesOut_186
  have hF := q_brn w24_7 hF
  by_cases w24_8 : v6 = 106
  · have hF := q_brp w24_8 hF
    refine lv_tableIn (off := 169) (tgt := 193) hx hb dX11_carriesOut_24 (by rw [w24_8]; decide) (by rw [w24_8]; decide) (by rw [w24_8]; decide) (by decide) ?_
    refine lv_aload_n hx hb dX11_carriesOut_193 rfl (lv_at hl 2 rfl) ?_
    refine lv_iload_n hx hb dX11_carriesOut_194 rfl (lv_at hl 1 rfl) ?_
    refine lv_iload_n hx hb dX11_carriesOut_195 rfl (lv_at hl 0 rfl) ?_
    obtain ⟨q15, hq15, hF⟩ := q_bdi hF
    refine cl_i (Lc := [w_Model E a o x]) (Lc' := [w_Model E a o ((q15.2.1, x.1.2.1, x.1.2.2.1, x.1.2.2.2.1, x.1.2.2.2.2), (x.2.1.1, x.2.1.2.1, x.2.1.2.2.1, x.2.1.2.2.2.1, x.2.1.2.2.2.2), (x.2.2.1.1, x.2.2.1.2.1, x.2.2.1.2.2.1, x.2.2.1.2.2.2), (q15.2.2, x.2.2.2.2.1, x.2.2.2.2.2.1, x.2.2.2.2.2.2))]) (L' := [w_Model E a o ((q15.2.1, x.1.2.1, x.1.2.2.1, x.1.2.2.2.1, x.1.2.2.2.2), (x.2.1.1, x.2.1.2.1, x.2.1.2.2.1, x.2.1.2.2.2.1, x.2.1.2.2.2.2), (x.2.2.1.1, x.2.2.1.2.1, x.2.2.1.2.2.1, x.2.2.1.2.2.2), (q15.2.2, x.2.2.2.2.1, x.2.2.2.2.2.1, x.2.2.2.2.2.2))]) (rv := q15.1) (va_runV (As := [.int v2, .int v4]) (rest := []) ⟨hx, hb, hml, hown, ha⟩ (k_X11_grazes l E a o x v2 v4 q15 hq15 H.size) (cwV 2 ha (gi_V (fun _ h => h) mw1764 mw1766 mw37 mw87 mw1767) rfl rfl rfl hv_X11_grazes ⟨(Nat.le_of_ble_eq_true rfl), (Nat.le_of_ble_eq_true rfl)⟩) ⟨pre_blind, va_recv hst.k (fr_P hP [0] rfl) (ci := 13) (q0 := 0) rfl rfl, pre_at hP hD hS hz hzs hst [0] (by decide) rfl rfl⟩ rfl rfl hl.1 rfl (lv_room (Nat.le_of_ble_eq_true rfl)) dX11_carriesOut_196 ⟨(Nat.le_of_ble_eq_true rfl), (Nat.le_of_ble_eq_true rfl)⟩) hP hD hS hA [0] (by decide) rfl rfl rfl rfl (fun H locs hP hD hS => ?_)
    obtain rfl := Option.some.inj hF
    exact en_i hQ (Nat.le_of_ble_eq_true rfl) (Nat.le_of_ble_eq_true rfl) hx hb hr hlocks hP hD hS rfl dX11_carriesOut_199
  have hF := q_brn w24_8 hF
  by_cases w24_9 : v6 = 107
  · have hF := q_brp w24_9 hF
    refine lv_tableIn (off := 123) (tgt := 147) hx hb dX11_carriesOut_24 (by rw [w24_9]; decide) (by rw [w24_9]; decide) (by rw [w24_9]; decide) (by decide) ?_
    refine lv_aload_n hx hb dX11_carriesOut_147 rfl (lv_at hl 2 rfl) ?_
    refine lv_iload_n hx hb dX11_carriesOut_148 rfl (lv_at hl 1 rfl) ?_
    refine lv_iload_n hx hb dX11_carriesOut_149 rfl (lv_at hl 0 rfl) ?_
    obtain ⟨q16, hq16, hF⟩ := q_bdi hF
    refine cl_i (Lc := [w_Model E a o x]) (Lc' := [w_Model E a o ((q16.2.1, x.1.2.1, x.1.2.2.1, x.1.2.2.2.1, x.1.2.2.2.2), (x.2.1.1, x.2.1.2.1, x.2.1.2.2.1, x.2.1.2.2.2.1, x.2.1.2.2.2.2), (x.2.2.1.1, x.2.2.1.2.1, x.2.2.1.2.2.1, x.2.2.1.2.2.2), (q16.2.2, x.2.2.2.2.1, x.2.2.2.2.2.1, x.2.2.2.2.2.2))]) (L' := [w_Model E a o ((q16.2.1, x.1.2.1, x.1.2.2.1, x.1.2.2.2.1, x.1.2.2.2.2), (x.2.1.1, x.2.1.2.1, x.2.1.2.2.1, x.2.1.2.2.2.1, x.2.1.2.2.2.2), (x.2.2.1.1, x.2.2.1.2.1, x.2.2.1.2.2.1, x.2.2.1.2.2.2), (q16.2.2, x.2.2.2.2.1, x.2.2.2.2.2.1, x.2.2.2.2.2.2))]) (rv := q16.1) (va_runV (As := [.int v2, .int v4]) (rest := []) ⟨hx, hb, hml, hown, ha⟩ (k_X11_keys l E a o x v2 v4 q16 hq16 H.size) (cwV 2 ha (gi_V (fun _ h => h) mw1797 mw1799 mw42 mw87 mw1800) rfl rfl rfl hv_X11_keys ⟨(Nat.le_of_ble_eq_true rfl), (Nat.le_of_ble_eq_true rfl)⟩) ⟨pre_blind, va_recv hst.k (fr_P hP [0] rfl) (ci := 13) (q0 := 0) rfl rfl, pre_at hP hD hS hz hzs hst [0] (by decide) rfl rfl⟩ rfl rfl hl.1 rfl (lv_room (Nat.le_of_ble_eq_true rfl)) dX11_carriesOut_150 ⟨(Nat.le_of_ble_eq_true rfl), (Nat.le_of_ble_eq_true rfl)⟩) hP hD hS hA [0] (by decide) rfl rfl rfl rfl (fun H locs hP hD hS => ?_)
    obtain rfl := Option.some.inj hF
    exact en_i hQ (Nat.le_of_ble_eq_true rfl) (Nat.le_of_ble_eq_true rfl) hx hb hr hlocks hP hD hS rfl dX11_carriesOut_153
  have hF := q_brn w24_9 hF
  by_cases w24_10 : v6 = 108
  · have hF := q_brp w24_10 hF
    refine lv_tableIn (off := 130) (tgt := 154) hx hb dX11_carriesOut_24 (by rw [w24_10]; decide) (by rw [w24_10]; decide) (by rw [w24_10]; decide) (by decide) ?_
    refine lv_aload_n hx hb dX11_carriesOut_154 rfl (lv_at hl 2 rfl) ?_
    refine lv_iload_n hx hb dX11_carriesOut_155 rfl (lv_at hl 1 rfl) ?_
    obtain ⟨q17, hq17, hF⟩ := q_bdi hF
    refine cl_i (Lc := [w_Model E a o x]) (Lc' := [w_Model E a o ((q17.2.1, x.1.2.1, x.1.2.2.1, x.1.2.2.2.1, x.1.2.2.2.2), (x.2.1.1, x.2.1.2.1, x.2.1.2.2.1, x.2.1.2.2.2.1, x.2.1.2.2.2.2), (x.2.2.1.1, x.2.2.1.2.1, x.2.2.1.2.2.1, x.2.2.1.2.2.2), (q17.2.2, x.2.2.2.2.1, x.2.2.2.2.2.1, x.2.2.2.2.2.2))]) (L' := [w_Model E a o ((q17.2.1, x.1.2.1, x.1.2.2.1, x.1.2.2.2.1, x.1.2.2.2.2), (x.2.1.1, x.2.1.2.1, x.2.1.2.2.1, x.2.1.2.2.2.1, x.2.1.2.2.2.2), (x.2.2.1.1, x.2.2.1.2.1, x.2.2.1.2.2.1, x.2.2.1.2.2.2), (q17.2.2, x.2.2.2.2.1, x.2.2.2.2.2.1, x.2.2.2.2.2.2))]) (rv := q17.1) (va_runV (As := [.int v2]) (rest := []) ⟨hx, hb, hml, hown, ha⟩ (k_X11_tolerates l E a o x v2 q17 hq17 H.size) (cwV 1 ha (gi_V (fun _ h => h) mw1809 mw1811 mw44 mw87 mw1812) rfl rfl rfl hv_X11_tolerates ⟨(Nat.le_of_ble_eq_true rfl), (Nat.le_of_ble_eq_true rfl)⟩) ⟨pre_blind, va_recv hst.k (fr_P hP [0] rfl) (ci := 13) (q0 := 0) rfl rfl, pre_at hP hD hS hz hzs hst [0] (by decide) rfl rfl⟩ rfl rfl hl.1 rfl (lv_room (Nat.le_of_ble_eq_true rfl)) dX11_carriesOut_156 ⟨(Nat.le_of_ble_eq_true rfl), (Nat.le_of_ble_eq_true rfl)⟩) hP hD hS hA [0] (by decide) rfl rfl rfl rfl (fun H locs hP hD hS => ?_)
    obtain rfl := Option.some.inj hF
    exact en_i hQ (Nat.le_of_ble_eq_true rfl) (Nat.le_of_ble_eq_true rfl) hx hb hr hlocks hP hD hS rfl dX11_carriesOut_159
  have hF := q_brn w24_10 hF
  by_cases w24_11 : v6 = 109
  · have hF := q_brp w24_11 hF
    refine lv_tableIn (off := 116) (tgt := 140) hx hb dX11_carriesOut_24 (by rw [w24_11]; decide) (by rw [w24_11]; decide) (by rw [w24_11]; decide) (by decide) ?_
    refine lv_aload_n hx hb dX11_carriesOut_140 rfl (lv_at hl 2 rfl) ?_
    refine lv_iload_n hx hb dX11_carriesOut_141 rfl (lv_at hl 1 rfl) ?_
    refine lv_iload_n hx hb dX11_carriesOut_142 rfl (lv_at hl 0 rfl) ?_
    obtain ⟨q18, hq18, hF⟩ := q_bdi hF
    refine cl_i (Lc := [w_Model E a o x]) (Lc' := [w_Model E a o ((q18.2.1, x.1.2.1, x.1.2.2.1, x.1.2.2.2.1, x.1.2.2.2.2), (x.2.1.1, x.2.1.2.1, x.2.1.2.2.1, x.2.1.2.2.2.1, x.2.1.2.2.2.2), (x.2.2.1.1, x.2.2.1.2.1, x.2.2.1.2.2.1, x.2.2.1.2.2.2), (q18.2.2, x.2.2.2.2.1, x.2.2.2.2.2.1, x.2.2.2.2.2.2))]) (L' := [w_Model E a o ((q18.2.1, x.1.2.1, x.1.2.2.1, x.1.2.2.2.1, x.1.2.2.2.2), (x.2.1.1, x.2.1.2.1, x.2.1.2.2.1, x.2.1.2.2.2.1, x.2.1.2.2.2.2), (x.2.2.1.1, x.2.2.1.2.1, x.2.2.1.2.2.1, x.2.2.1.2.2.2), (q18.2.2, x.2.2.2.2.1, x.2.2.2.2.2.1, x.2.2.2.2.2.2))]) (rv := q18.1) (va_runV (As := [.int v2, .int v4]) (rest := []) ⟨hx, hb, hml, hown, ha⟩ (k_X11_moves l E a o x v2 v4 q18 hq18 H.size) (cwV 2 ha (gi_V (fun _ h => h) mw1756 mw1758 mw36 mw87 mw1759) rfl rfl rfl hv_X11_moves ⟨(Nat.le_of_ble_eq_true rfl), (Nat.le_of_ble_eq_true rfl)⟩) ⟨pre_blind, va_recv hst.k (fr_P hP [0] rfl) (ci := 13) (q0 := 0) rfl rfl, pre_at hP hD hS hz hzs hst [0] (by decide) rfl rfl⟩ rfl rfl hl.1 rfl (lv_room (Nat.le_of_ble_eq_true rfl)) dX11_carriesOut_143 ⟨(Nat.le_of_ble_eq_true rfl), (Nat.le_of_ble_eq_true rfl)⟩) hP hD hS hA [0] (by decide) rfl rfl rfl rfl (fun H locs hP hD hS => ?_)
    obtain rfl := Option.some.inj hF
    exact en_i hQ (Nat.le_of_ble_eq_true rfl) (Nat.le_of_ble_eq_true rfl) hx hb hr hlocks hP hD hS rfl dX11_carriesOut_146
  have hF := q_brn w24_11 hF
  by_cases w24_12 : v6 = 110
  · have hF := q_brp w24_12 hF
    refine lv_tableIn (off := 169) (tgt := 193) hx hb dX11_carriesOut_24 (by rw [w24_12]; decide) (by rw [w24_12]; decide) (by rw [w24_12]; decide) (by decide) ?_
    refine lv_aload_n hx hb dX11_carriesOut_193 rfl (lv_at hl 2 rfl) ?_
    refine lv_iload_n hx hb dX11_carriesOut_194 rfl (lv_at hl 1 rfl) ?_
    refine lv_iload_n hx hb dX11_carriesOut_195 rfl (lv_at hl 0 rfl) ?_
    obtain ⟨q19, hq19, hF⟩ := q_bdi hF
    refine cl_i (Lc := [w_Model E a o x]) (Lc' := [w_Model E a o ((q19.2.1, x.1.2.1, x.1.2.2.1, x.1.2.2.2.1, x.1.2.2.2.2), (x.2.1.1, x.2.1.2.1, x.2.1.2.2.1, x.2.1.2.2.2.1, x.2.1.2.2.2.2), (x.2.2.1.1, x.2.2.1.2.1, x.2.2.1.2.2.1, x.2.2.1.2.2.2), (q19.2.2, x.2.2.2.2.1, x.2.2.2.2.2.1, x.2.2.2.2.2.2))]) (L' := [w_Model E a o ((q19.2.1, x.1.2.1, x.1.2.2.1, x.1.2.2.2.1, x.1.2.2.2.2), (x.2.1.1, x.2.1.2.1, x.2.1.2.2.1, x.2.1.2.2.2.1, x.2.1.2.2.2.2), (x.2.2.1.1, x.2.2.1.2.1, x.2.2.1.2.2.1, x.2.2.1.2.2.2), (q19.2.2, x.2.2.2.2.1, x.2.2.2.2.2.1, x.2.2.2.2.2.2))]) (rv := q19.1) (va_runV (As := [.int v2, .int v4]) (rest := []) ⟨hx, hb, hml, hown, ha⟩ (k_X11_grazes l E a o x v2 v4 q19 hq19 H.size) (cwV 2 ha (gi_V (fun _ h => h) mw1764 mw1766 mw37 mw87 mw1767) rfl rfl rfl hv_X11_grazes ⟨(Nat.le_of_ble_eq_true rfl), (Nat.le_of_ble_eq_true rfl)⟩) ⟨pre_blind, va_recv hst.k (fr_P hP [0] rfl) (ci := 13) (q0 := 0) rfl rfl, pre_at hP hD hS hz hzs hst [0] (by decide) rfl rfl⟩ rfl rfl hl.1 rfl (lv_room (Nat.le_of_ble_eq_true rfl)) dX11_carriesOut_196 ⟨(Nat.le_of_ble_eq_true rfl), (Nat.le_of_ble_eq_true rfl)⟩) hP hD hS hA [0] (by decide) rfl rfl rfl rfl (fun H locs hP hD hS => ?_)
    obtain rfl := Option.some.inj hF
    exact en_i hQ (Nat.le_of_ble_eq_true rfl) (Nat.le_of_ble_eq_true rfl) hx hb hr hlocks hP hD hS rfl dX11_carriesOut_199
  have hF := q_brn w24_12 hF
  by_cases w24_13 : v6 = 111
  · have hF := q_brp w24_13 hF
    refine lv_tableIn (off := 169) (tgt := 193) hx hb dX11_carriesOut_24 (by rw [w24_13]; decide) (by rw [w24_13]; decide) (by rw [w24_13]; decide) (by decide) ?_
    refine lv_aload_n hx hb dX11_carriesOut_193 rfl (lv_at hl 2 rfl) ?_
    refine lv_iload_n hx hb dX11_carriesOut_194 rfl (lv_at hl 1 rfl) ?_
    refine lv_iload_n hx hb dX11_carriesOut_195 rfl (lv_at hl 0 rfl) ?_
    obtain ⟨q20, hq20, hF⟩ := q_bdi hF
    refine cl_i (Lc := [w_Model E a o x]) (Lc' := [w_Model E a o ((q20.2.1, x.1.2.1, x.1.2.2.1, x.1.2.2.2.1, x.1.2.2.2.2), (x.2.1.1, x.2.1.2.1, x.2.1.2.2.1, x.2.1.2.2.2.1, x.2.1.2.2.2.2), (x.2.2.1.1, x.2.2.1.2.1, x.2.2.1.2.2.1, x.2.2.1.2.2.2), (q20.2.2, x.2.2.2.2.1, x.2.2.2.2.2.1, x.2.2.2.2.2.2))]) (L' := [w_Model E a o ((q20.2.1, x.1.2.1, x.1.2.2.1, x.1.2.2.2.1, x.1.2.2.2.2), (x.2.1.1, x.2.1.2.1, x.2.1.2.2.1, x.2.1.2.2.2.1, x.2.1.2.2.2.2), (x.2.2.1.1, x.2.2.1.2.1, x.2.2.1.2.2.1, x.2.2.1.2.2.2), (q20.2.2, x.2.2.2.2.1, x.2.2.2.2.2.1, x.2.2.2.2.2.2))]) (rv := q20.1) (va_runV (As := [.int v2, .int v4]) (rest := []) ⟨hx, hb, hml, hown, ha⟩ (k_X11_grazes l E a o x v2 v4 q20 hq20 H.size) (cwV 2 ha (gi_V (fun _ h => h) mw1764 mw1766 mw37 mw87 mw1767) rfl rfl rfl hv_X11_grazes ⟨(Nat.le_of_ble_eq_true rfl), (Nat.le_of_ble_eq_true rfl)⟩) ⟨pre_blind, va_recv hst.k (fr_P hP [0] rfl) (ci := 13) (q0 := 0) rfl rfl, pre_at hP hD hS hz hzs hst [0] (by decide) rfl rfl⟩ rfl rfl hl.1 rfl (lv_room (Nat.le_of_ble_eq_true rfl)) dX11_carriesOut_196 ⟨(Nat.le_of_ble_eq_true rfl), (Nat.le_of_ble_eq_true rfl)⟩) hP hD hS hA [0] (by decide) rfl rfl rfl rfl (fun H locs hP hD hS => ?_)
    obtain rfl := Option.some.inj hF
    exact en_i hQ (Nat.le_of_ble_eq_true rfl) (Nat.le_of_ble_eq_true rfl) hx hb hr hlocks hP hD hS rfl dX11_carriesOut_199
  have hF := q_brn w24_13 hF
  by_cases w24_14 : v6 = 112
  · have hF := q_brp w24_14 hF
    refine lv_tableIn (off := 169) (tgt := 193) hx hb dX11_carriesOut_24 (by rw [w24_14]; decide) (by rw [w24_14]; decide) (by rw [w24_14]; decide) (by decide) ?_
    refine lv_aload_n hx hb dX11_carriesOut_193 rfl (lv_at hl 2 rfl) ?_
    refine lv_iload_n hx hb dX11_carriesOut_194 rfl (lv_at hl 1 rfl) ?_
    refine lv_iload_n hx hb dX11_carriesOut_195 rfl (lv_at hl 0 rfl) ?_
    obtain ⟨q21, hq21, hF⟩ := q_bdi hF
    refine cl_i (Lc := [w_Model E a o x]) (Lc' := [w_Model E a o ((q21.2.1, x.1.2.1, x.1.2.2.1, x.1.2.2.2.1, x.1.2.2.2.2), (x.2.1.1, x.2.1.2.1, x.2.1.2.2.1, x.2.1.2.2.2.1, x.2.1.2.2.2.2), (x.2.2.1.1, x.2.2.1.2.1, x.2.2.1.2.2.1, x.2.2.1.2.2.2), (q21.2.2, x.2.2.2.2.1, x.2.2.2.2.2.1, x.2.2.2.2.2.2))]) (L' := [w_Model E a o ((q21.2.1, x.1.2.1, x.1.2.2.1, x.1.2.2.2.1, x.1.2.2.2.2), (x.2.1.1, x.2.1.2.1, x.2.1.2.2.1, x.2.1.2.2.2.1, x.2.1.2.2.2.2), (x.2.2.1.1, x.2.2.1.2.1, x.2.2.1.2.2.1, x.2.2.1.2.2.2), (q21.2.2, x.2.2.2.2.1, x.2.2.2.2.2.1, x.2.2.2.2.2.2))]) (rv := q21.1) (va_runV (As := [.int v2, .int v4]) (rest := []) ⟨hx, hb, hml, hown, ha⟩ (k_X11_grazes l E a o x v2 v4 q21 hq21 H.size) (cwV 2 ha (gi_V (fun _ h => h) mw1764 mw1766 mw37 mw87 mw1767) rfl rfl rfl hv_X11_grazes ⟨(Nat.le_of_ble_eq_true rfl), (Nat.le_of_ble_eq_true rfl)⟩) ⟨pre_blind, va_recv hst.k (fr_P hP [0] rfl) (ci := 13) (q0 := 0) rfl rfl, pre_at hP hD hS hz hzs hst [0] (by decide) rfl rfl⟩ rfl rfl hl.1 rfl (lv_room (Nat.le_of_ble_eq_true rfl)) dX11_carriesOut_196 ⟨(Nat.le_of_ble_eq_true rfl), (Nat.le_of_ble_eq_true rfl)⟩) hP hD hS hA [0] (by decide) rfl rfl rfl rfl (fun H locs hP hD hS => ?_)
    obtain rfl := Option.some.inj hF
    exact en_i hQ (Nat.le_of_ble_eq_true rfl) (Nat.le_of_ble_eq_true rfl) hx hb hr hlocks hP hD hS rfl dX11_carriesOut_199
  have hF := q_brn w24_14 hF
  by_cases w24_15 : v6 = 113
  · have hF := q_brp w24_15 hF
    refine lv_tableIn (off := 169) (tgt := 193) hx hb dX11_carriesOut_24 (by rw [w24_15]; decide) (by rw [w24_15]; decide) (by rw [w24_15]; decide) (by decide) ?_
    refine lv_aload_n hx hb dX11_carriesOut_193 rfl (lv_at hl 2 rfl) ?_
    refine lv_iload_n hx hb dX11_carriesOut_194 rfl (lv_at hl 1 rfl) ?_
    refine lv_iload_n hx hb dX11_carriesOut_195 rfl (lv_at hl 0 rfl) ?_
    obtain ⟨q22, hq22, hF⟩ := q_bdi hF
    refine cl_i (Lc := [w_Model E a o x]) (Lc' := [w_Model E a o ((q22.2.1, x.1.2.1, x.1.2.2.1, x.1.2.2.2.1, x.1.2.2.2.2), (x.2.1.1, x.2.1.2.1, x.2.1.2.2.1, x.2.1.2.2.2.1, x.2.1.2.2.2.2), (x.2.2.1.1, x.2.2.1.2.1, x.2.2.1.2.2.1, x.2.2.1.2.2.2), (q22.2.2, x.2.2.2.2.1, x.2.2.2.2.2.1, x.2.2.2.2.2.2))]) (L' := [w_Model E a o ((q22.2.1, x.1.2.1, x.1.2.2.1, x.1.2.2.2.1, x.1.2.2.2.2), (x.2.1.1, x.2.1.2.1, x.2.1.2.2.1, x.2.1.2.2.2.1, x.2.1.2.2.2.2), (x.2.2.1.1, x.2.2.1.2.1, x.2.2.1.2.2.1, x.2.2.1.2.2.2), (q22.2.2, x.2.2.2.2.1, x.2.2.2.2.2.1, x.2.2.2.2.2.2))]) (rv := q22.1) (va_runV (As := [.int v2, .int v4]) (rest := []) ⟨hx, hb, hml, hown, ha⟩ (k_X11_grazes l E a o x v2 v4 q22 hq22 H.size) (cwV 2 ha (gi_V (fun _ h => h) mw1764 mw1766 mw37 mw87 mw1767) rfl rfl rfl hv_X11_grazes ⟨(Nat.le_of_ble_eq_true rfl), (Nat.le_of_ble_eq_true rfl)⟩) ⟨pre_blind, va_recv hst.k (fr_P hP [0] rfl) (ci := 13) (q0 := 0) rfl rfl, pre_at hP hD hS hz hzs hst [0] (by decide) rfl rfl⟩ rfl rfl hl.1 rfl (lv_room (Nat.le_of_ble_eq_true rfl)) dX11_carriesOut_196 ⟨(Nat.le_of_ble_eq_true rfl), (Nat.le_of_ble_eq_true rfl)⟩) hP hD hS hA [0] (by decide) rfl rfl rfl rfl (fun H locs hP hD hS => ?_)
    obtain rfl := Option.some.inj hF
    exact en_i hQ (Nat.le_of_ble_eq_true rfl) (Nat.le_of_ble_eq_true rfl) hx hb hr hlocks hP hD hS rfl dX11_carriesOut_199
  have hF := q_brn w24_15 hF
  by_cases w24_16 : v6 = 114
  · have hF := q_brp w24_16 hF
    refine lv_tableIn (off := 103) (tgt := 127) hx hb dX11_carriesOut_24 (by rw [w24_16]; decide) (by rw [w24_16]; decide) (by rw [w24_16]; decide) (by decide) ?_
    refine lv_aload_n hx hb dX11_carriesOut_127 rfl (lv_at hl 2 rfl) ?_
    refine lv_iload_n hx hb dX11_carriesOut_128 rfl (lv_at hl 1 rfl) ?_
    obtain ⟨q23, hq23, hF⟩ := q_bdi hF
    refine cl_i (Lc := [w_Model E a o x]) (Lc' := [w_Model E a o ((q23.2.1, x.1.2.1, x.1.2.2.1, x.1.2.2.2.1, x.1.2.2.2.2), (x.2.1.1, x.2.1.2.1, x.2.1.2.2.1, x.2.1.2.2.2.1, x.2.1.2.2.2.2), (x.2.2.1.1, x.2.2.1.2.1, x.2.2.1.2.2.1, x.2.2.1.2.2.2), (q23.2.2, x.2.2.2.2.1, x.2.2.2.2.2.1, x.2.2.2.2.2.2))]) (L' := [w_Model E a o ((q23.2.1, x.1.2.1, x.1.2.2.1, x.1.2.2.2.1, x.1.2.2.2.2), (x.2.1.1, x.2.1.2.1, x.2.1.2.2.1, x.2.1.2.2.2.1, x.2.1.2.2.2.2), (x.2.2.1.1, x.2.2.1.2.1, x.2.2.1.2.2.1, x.2.2.1.2.2.2), (q23.2.2, x.2.2.2.2.1, x.2.2.2.2.2.1, x.2.2.2.2.2.2))]) (rv := q23.1) (va_runV (As := [.int v2]) (rest := []) ⟨hx, hb, hml, hown, ha⟩ (k_X11_removes l E a o x v2 q23 hq23 H.size) (cwV 1 ha (gi_V (fun _ h => h) mw1732 mw1734 mw32 mw87 mw1735) rfl rfl rfl hv_X11_removes ⟨(Nat.le_of_ble_eq_true rfl), (Nat.le_of_ble_eq_true rfl)⟩) ⟨pre_blind, va_recv hst.k (fr_P hP [0] rfl) (ci := 13) (q0 := 0) rfl rfl, pre_at hP hD hS hz hzs hst [0] (by decide) rfl rfl⟩ rfl rfl hl.1 rfl (lv_room (Nat.le_of_ble_eq_true rfl)) dX11_carriesOut_129 ⟨(Nat.le_of_ble_eq_true rfl), (Nat.le_of_ble_eq_true rfl)⟩) hP hD hS hA [0] (by decide) rfl rfl rfl rfl (fun H locs hP hD hS => ?_)
    obtain rfl := Option.some.inj hF
    exact en_i hQ (Nat.le_of_ble_eq_true rfl) (Nat.le_of_ble_eq_true rfl) hx hb hr hlocks hP hD hS rfl dX11_carriesOut_132
  have hF := q_brn w24_16 hF
  by_cases w24_17 : v6 = 115
  · have hF := q_brp w24_17 hF
    refine lv_tableIn (off := 169) (tgt := 193) hx hb dX11_carriesOut_24 (by rw [w24_17]; decide) (by rw [w24_17]; decide) (by rw [w24_17]; decide) (by decide) ?_
    refine lv_aload_n hx hb dX11_carriesOut_193 rfl (lv_at hl 2 rfl) ?_
    refine lv_iload_n hx hb dX11_carriesOut_194 rfl (lv_at hl 1 rfl) ?_
    refine lv_iload_n hx hb dX11_carriesOut_195 rfl (lv_at hl 0 rfl) ?_
    obtain ⟨q24, hq24, hF⟩ := q_bdi hF
    refine cl_i (Lc := [w_Model E a o x]) (Lc' := [w_Model E a o ((q24.2.1, x.1.2.1, x.1.2.2.1, x.1.2.2.2.1, x.1.2.2.2.2), (x.2.1.1, x.2.1.2.1, x.2.1.2.2.1, x.2.1.2.2.2.1, x.2.1.2.2.2.2), (x.2.2.1.1, x.2.2.1.2.1, x.2.2.1.2.2.1, x.2.2.1.2.2.2), (q24.2.2, x.2.2.2.2.1, x.2.2.2.2.2.1, x.2.2.2.2.2.2))]) (L' := [w_Model E a o ((q24.2.1, x.1.2.1, x.1.2.2.1, x.1.2.2.2.1, x.1.2.2.2.2), (x.2.1.1, x.2.1.2.1, x.2.1.2.2.1, x.2.1.2.2.2.1, x.2.1.2.2.2.2), (x.2.2.1.1, x.2.2.1.2.1, x.2.2.1.2.2.1, x.2.2.1.2.2.2), (q24.2.2, x.2.2.2.2.1, x.2.2.2.2.2.1, x.2.2.2.2.2.2))]) (rv := q24.1) (va_runV (As := [.int v2, .int v4]) (rest := []) ⟨hx, hb, hml, hown, ha⟩ (k_X11_grazes l E a o x v2 v4 q24 hq24 H.size) (cwV 2 ha (gi_V (fun _ h => h) mw1764 mw1766 mw37 mw87 mw1767) rfl rfl rfl hv_X11_grazes ⟨(Nat.le_of_ble_eq_true rfl), (Nat.le_of_ble_eq_true rfl)⟩) ⟨pre_blind, va_recv hst.k (fr_P hP [0] rfl) (ci := 13) (q0 := 0) rfl rfl, pre_at hP hD hS hz hzs hst [0] (by decide) rfl rfl⟩ rfl rfl hl.1 rfl (lv_room (Nat.le_of_ble_eq_true rfl)) dX11_carriesOut_196 ⟨(Nat.le_of_ble_eq_true rfl), (Nat.le_of_ble_eq_true rfl)⟩) hP hD hS hA [0] (by decide) rfl rfl rfl rfl (fun H locs hP hD hS => ?_)
    obtain rfl := Option.some.inj hF
    exact en_i hQ (Nat.le_of_ble_eq_true rfl) (Nat.le_of_ble_eq_true rfl) hx hb hr hlocks hP hD hS rfl dX11_carriesOut_199
  have hF := q_brn w24_17 hF
  by_cases w24_18 : v6 = 116
  · have hF := q_brp w24_18 hF
    refine lv_tableIn (off := 136) (tgt := 160) hx hb dX11_carriesOut_24 (by rw [w24_18]; decide) (by rw [w24_18]; decide) (by rw [w24_18]; decide) (by decide) ?_
    refine lv_aload_n hx hb dX11_carriesOut_160 rfl (lv_at hl 2 rfl) ?_
    refine lv_iload_n hx hb dX11_carriesOut_161 rfl (lv_at hl 1 rfl) ?_
    refine lv_iload_n hx hb dX11_carriesOut_162 rfl (lv_at hl 0 rfl) ?_
    obtain ⟨q25, hq25, hF⟩ := q_bdi hF
    refine cl_i (Lc := [w_Model E a o x]) (Lc' := [w_Model E a o ((q25.2.1, x.1.2.1, x.1.2.2.1, x.1.2.2.2.1, x.1.2.2.2.2), (x.2.1.1, x.2.1.2.1, x.2.1.2.2.1, x.2.1.2.2.2.1, x.2.1.2.2.2.2), (x.2.2.1.1, x.2.2.1.2.1, x.2.2.1.2.2.1, x.2.2.1.2.2.2), (q25.2.2, x.2.2.2.2.1, x.2.2.2.2.2.1, x.2.2.2.2.2.2))]) (L' := [w_Model E a o ((q25.2.1, x.1.2.1, x.1.2.2.1, x.1.2.2.2.1, x.1.2.2.2.2), (x.2.1.1, x.2.1.2.1, x.2.1.2.2.1, x.2.1.2.2.2.1, x.2.1.2.2.2.2), (x.2.2.1.1, x.2.2.1.2.1, x.2.2.1.2.2.1, x.2.2.1.2.2.2), (q25.2.2, x.2.2.2.2.1, x.2.2.2.2.2.1, x.2.2.2.2.2.2))]) (rv := q25.1) (va_runV (As := [.int v2, .int v4]) (rest := []) ⟨hx, hb, hml, hown, ha⟩ (k_X11_addsTone l E a o x v2 v4 q25 hq25 H.size) (cwV 2 ha (gi_V (fun _ h => h) mw1817 mw1819 mw45 mw87 mw1820) rfl rfl rfl hv_X11_addsTone ⟨(Nat.le_of_ble_eq_true rfl), (Nat.le_of_ble_eq_true rfl)⟩) ⟨pre_blind, va_recv hst.k (fr_P hP [0] rfl) (ci := 13) (q0 := 0) rfl rfl, pre_at hP hD hS hz hzs hst [0] (by decide) rfl rfl⟩ rfl rfl hl.1 rfl (lv_room (Nat.le_of_ble_eq_true rfl)) dX11_carriesOut_163 ⟨(Nat.le_of_ble_eq_true rfl), (Nat.le_of_ble_eq_true rfl)⟩) hP hD hS hA [0] (by decide) rfl rfl rfl rfl (fun H locs hP hD hS => ?_)
    obtain rfl := Option.some.inj hF
    exact en_i hQ (Nat.le_of_ble_eq_true rfl) (Nat.le_of_ble_eq_true rfl) hx hb hr hlocks hP hD hS rfl dX11_carriesOut_166
  have hF := q_brn w24_18 hF
  by_cases w24_19 : v6 = 117
  · have hF := q_brp w24_19 hF
    refine lv_tableIn (off := 109) (tgt := 133) hx hb dX11_carriesOut_24 (by rw [w24_19]; decide) (by rw [w24_19]; decide) (by rw [w24_19]; decide) (by decide) ?_
    refine lv_aload_n hx hb dX11_carriesOut_133 rfl (lv_at hl 2 rfl) ?_
    refine lv_iload_n hx hb dX11_carriesOut_134 rfl (lv_at hl 1 rfl) ?_
    refine lv_iload_n hx hb dX11_carriesOut_135 rfl (lv_at hl 0 rfl) ?_
    obtain ⟨q26, hq26, hF⟩ := q_bdi hF
    refine cl_i (Lc := [w_Model E a o x]) (Lc' := [w_Model E a o ((q26.2.1, x.1.2.1, x.1.2.2.1, x.1.2.2.2.1, x.1.2.2.2.2), (x.2.1.1, x.2.1.2.1, x.2.1.2.2.1, x.2.1.2.2.2.1, x.2.1.2.2.2.2), (x.2.2.1.1, x.2.2.1.2.1, x.2.2.1.2.2.1, x.2.2.1.2.2.2), (q26.2.2, x.2.2.2.2.1, x.2.2.2.2.2.1, x.2.2.2.2.2.2))]) (L' := [w_Model E a o ((q26.2.1, x.1.2.1, x.1.2.2.1, x.1.2.2.2.1, x.1.2.2.2.2), (x.2.1.1, x.2.1.2.1, x.2.1.2.2.1, x.2.1.2.2.2.1, x.2.1.2.2.2.2), (x.2.2.1.1, x.2.2.1.2.1, x.2.2.1.2.2.1, x.2.2.1.2.2.2), (q26.2.2, x.2.2.2.2.1, x.2.2.2.2.2.1, x.2.2.2.2.2.2))]) (rv := q26.1) (va_runV (As := [.int v2, .int v4]) (rest := []) ⟨hx, hb, hml, hown, ha⟩ (k_X11_tunes l E a o x v2 v4 q26 hq26 H.size) (cwV 2 ha (gi_V (fun _ h => h) mw1748 mw1750 mw35 mw87 mw1751) rfl rfl rfl hv_X11_tunes ⟨(Nat.le_of_ble_eq_true rfl), (Nat.le_of_ble_eq_true rfl)⟩) ⟨pre_blind, va_recv hst.k (fr_P hP [0] rfl) (ci := 13) (q0 := 0) rfl rfl, pre_at hP hD hS hz hzs hst [0] (by decide) rfl rfl⟩ rfl rfl hl.1 rfl (lv_room (Nat.le_of_ble_eq_true rfl)) dX11_carriesOut_136 ⟨(Nat.le_of_ble_eq_true rfl), (Nat.le_of_ble_eq_true rfl)⟩) hP hD hS hA [0] (by decide) rfl rfl rfl rfl (fun H locs hP hD hS => ?_)
    obtain rfl := Option.some.inj hF
    exact en_i hQ (Nat.le_of_ble_eq_true rfl) (Nat.le_of_ble_eq_true rfl) hx hb hr hlocks hP hD hS rfl dX11_carriesOut_139
  have hF := q_brn w24_19 hF
  refine lv_tableOut (tgt := 193) hx hb dX11_carriesOut_24 (sw_out 98 117 [98, 99, 100, 101, 102, 103, 104, 105, 106, 107, 108, 109, 110, 111, 112, 113, 114, 115, 116, 117] (List.forall_mem_cons.mpr ⟨w24_0, (List.forall_mem_cons.mpr ⟨w24_1, (List.forall_mem_cons.mpr ⟨w24_2, (List.forall_mem_cons.mpr ⟨w24_3, (List.forall_mem_cons.mpr ⟨w24_4, (List.forall_mem_cons.mpr ⟨w24_5, (List.forall_mem_cons.mpr ⟨w24_6, (List.forall_mem_cons.mpr ⟨w24_7, (List.forall_mem_cons.mpr ⟨w24_8, (List.forall_mem_cons.mpr ⟨w24_9, (List.forall_mem_cons.mpr ⟨w24_10, (List.forall_mem_cons.mpr ⟨w24_11, (List.forall_mem_cons.mpr ⟨w24_12, (List.forall_mem_cons.mpr ⟨w24_13, (List.forall_mem_cons.mpr ⟨w24_14, (List.forall_mem_cons.mpr ⟨w24_15, (List.forall_mem_cons.mpr ⟨w24_16, (List.forall_mem_cons.mpr ⟨w24_17, (List.forall_mem_cons.mpr ⟨w24_18, (List.forall_mem_cons.mpr ⟨w24_19, (fun _ h => nomatch h)⟩)⟩)⟩)⟩)⟩)⟩)⟩)⟩)⟩)⟩)⟩)⟩)⟩)⟩)⟩)⟩)⟩)⟩)⟩)⟩) (by decide) (by decide)) (by decide) ?_
  refine lv_aload_n hx hb dX11_carriesOut_193 rfl (lv_at hl 2 rfl) ?_
  refine lv_iload_n hx hb dX11_carriesOut_194 rfl (lv_at hl 1 rfl) ?_
  refine lv_iload_n hx hb dX11_carriesOut_195 rfl (lv_at hl 0 rfl) ?_
  obtain ⟨q27, hq27, hF⟩ := q_bdi hF
  refine cl_i (Lc := [w_Model E a o x]) (Lc' := [w_Model E a o ((q27.2.1, x.1.2.1, x.1.2.2.1, x.1.2.2.2.1, x.1.2.2.2.2), (x.2.1.1, x.2.1.2.1, x.2.1.2.2.1, x.2.1.2.2.2.1, x.2.1.2.2.2.2), (x.2.2.1.1, x.2.2.1.2.1, x.2.2.1.2.2.1, x.2.2.1.2.2.2), (q27.2.2, x.2.2.2.2.1, x.2.2.2.2.2.1, x.2.2.2.2.2.2))]) (L' := [w_Model E a o ((q27.2.1, x.1.2.1, x.1.2.2.1, x.1.2.2.2.1, x.1.2.2.2.2), (x.2.1.1, x.2.1.2.1, x.2.1.2.2.1, x.2.1.2.2.2.1, x.2.1.2.2.2.2), (x.2.2.1.1, x.2.2.1.2.1, x.2.2.1.2.2.1, x.2.2.1.2.2.2), (q27.2.2, x.2.2.2.2.1, x.2.2.2.2.2.1, x.2.2.2.2.2.2))]) (rv := q27.1) (va_runV (As := [.int v2, .int v4]) (rest := []) ⟨hx, hb, hml, hown, ha⟩ (k_X11_grazes l E a o x v2 v4 q27 hq27 H.size) (cwV 2 ha (gi_V (fun _ h => h) mw1764 mw1766 mw37 mw87 mw1767) rfl rfl rfl hv_X11_grazes ⟨(Nat.le_of_ble_eq_true rfl), (Nat.le_of_ble_eq_true rfl)⟩) ⟨pre_blind, va_recv hst.k (fr_P hP [0] rfl) (ci := 13) (q0 := 0) rfl rfl, pre_at hP hD hS hz hzs hst [0] (by decide) rfl rfl⟩ rfl rfl hl.1 rfl (lv_room (Nat.le_of_ble_eq_true rfl)) dX11_carriesOut_196 ⟨(Nat.le_of_ble_eq_true rfl), (Nat.le_of_ble_eq_true rfl)⟩) hP hD hS hA [0] (by decide) rfl rfl rfl rfl (fun H locs hP hD hS => ?_)
  obtain rfl := Option.some.inj hF
  exact en_i hQ (Nat.le_of_ble_eq_true rfl) (Nat.le_of_ble_eq_true rfl) hx hb hr hlocks hP hD hS rfl dX11_carriesOut_199
