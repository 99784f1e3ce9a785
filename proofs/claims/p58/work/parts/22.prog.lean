/-! Jx29ce0_ordinal_8abf5 -/
theorem dJx29ce0_ordinal_8abf5_0 : decode cJx29ce0_ordinal_8abf5 0 = .ok (.aload_n 0, 1) := by decide +kernel
theorem dJx29ce0_ordinal_8abf5_1 : decode cJx29ce0_ordinal_8abf5 1 = .ok (.getfield 7, 3) := by decide +kernel
theorem dJx29ce0_ordinal_8abf5_4 : decode cJx29ce0_ordinal_8abf5 4 = .ok (.ireturn, 1) := by decide +kernel
def f_Jx29ce0_ordinal_8abf5 (p0 : Nat) : Option (Int32) :=
  q_gd (p0 < 12) (
  some (q_ord p0))
theorem hv_Jx29ce0_ordinal_8abf5 : yJx29ce0_ordinal_8abf5.cls = RJx29ce0 ∧ yJx29ce0_ordinal_8abf5.cls ≠ "java/lang/invoke/MethodHandle" ∧ yJx29ce0_ordinal_8abf5.cls ≠ "java/lang/invoke/VarHandle" ∧ (parseMethodDescriptor yJx29ce0_ordinal_8abf5.desc).map (fun d => d.parameters.length) = some 0 := by decide +kernel
abbrev rm_Jx29ce0_ordinal_8abf5 : Room := { frames := 0, cells := 0, slots := 0, locals := 0 }
set_option maxHeartbeats 4000000 in
set_option maxRecDepth 100000 in
theorem k_Jx29ce0_ordinal_8abf5 (l : Launch) (E : ET) (p0 : Nat) (res : Int32) (hF : f_Jx29ce0_ordinal_8abf5 p0 = some res) (sz : Nat) : CtI l yJx29ce0_ordinal_8abf5 (mws yJx29ce0_ordinal_8abf5 cJx29ce0_ordinal_8abf5 1 (some .int)) rm_Jx29ce0_ordinal_8abf5 0 0 [.ref (E.2 (100 + p0))] E ([]) res ([]) sz := by
  refine mk_M (by decide +kernel) (Nat.le_of_ble_eq_true rfl) ?_
  intro p e s m below meth c A args Q ls hAe hsz hQ hx hb hr hml hin ha hown hlocks hA hz hzs hst hP hD hS hl
  have hown : s.vm.findClass RJx29ce0 = some m.cls := hown
  rw [hAe] at hQ
  subst hsz
  have hP : va_P E.1 vwCl (List.flatten []) s.heap := hP
  have hD : va_D A (List.flatten []) := hD
  have hl : lv_has ls 1 [(0, .ref (E.2 (100 + p0)))] := hl
  generalize hHe : s.heap = H at hP
  have hS : va_S A s.heap H [] := by rw [← hHe]; exact hS
  generalize ([] : List Loc) = locs at hS ⊢
  unfold f_Jx29ce0_ordinal_8abf5 at hF
  refine lv_aload_n hx hb dJx29ce0_ordinal_8abf5_0 rfl (lv_at hl 0 rfl) ?_
  obtain ⟨g1, hF⟩ := q_gdi hF
  refine vi_ord hx hb hst hz hS hown (ha _ mw1243) g1 dJx29ce0_ordinal_8abf5_1 ?_
  obtain rfl := Option.some.inj hF
  exact en_i hQ (Nat.le_of_ble_eq_true rfl) (Nat.le_of_ble_eq_true rfl) hx hb hr hlocks hP hD hS rfl dJx29ce0_ordinal_8abf5_4

/-! X9_carryOut -/
theorem dX9_carryOut_0 : decode cX9_carryOut 0 = .ok (.getstatic 52, 3) := by decide +kernel
theorem dX9_carryOut_3 : decode cX9_carryOut 3 = .ok (.aload_n 1, 1) := by decide +kernel
theorem dX9_carryOut_4 : decode cX9_carryOut 4 = .ok (.invokevirtual 58, 3) := by decide +kernel
theorem dX9_carryOut_7 : decode cX9_carryOut 7 = .ok (.iaload, 1) := by decide +kernel
theorem dX9_carryOut_8 : decode cX9_carryOut 8 = .ok (.tableswitch 213 1 12 #[64, 74, 80, 90, 100, 138, 147, 161, 170, 180, 190, 199], 64) := by decide +kernel
theorem dX9_carryOut_72 : decode cX9_carryOut 72 = .ok (.aload_n 0, 1) := by decide +kernel
theorem dX9_carryOut_73 : decode cX9_carryOut 73 = .ok (.getfield 21, 3) := by decide +kernel
theorem dX9_carryOut_76 : decode cX9_carryOut 76 = .ok (.iload_n 2, 1) := by decide +kernel
theorem dX9_carryOut_77 : decode cX9_carryOut 77 = .ok (.iload_n 3, 1) := by decide +kernel
theorem dX9_carryOut_78 : decode cX9_carryOut 78 = .ok (.invokevirtual 64, 3) := by decide +kernel
theorem dX9_carryOut_81 : decode cX9_carryOut 81 = .ok (.ireturn, 1) := by decide +kernel
theorem dX9_carryOut_82 : decode cX9_carryOut 82 = .ok (.aload_n 0, 1) := by decide +kernel
theorem dX9_carryOut_83 : decode cX9_carryOut 83 = .ok (.iload_n 2, 1) := by decide +kernel
theorem dX9_carryOut_84 : decode cX9_carryOut 84 = .ok (.invokevirtual 68, 3) := by decide +kernel
theorem dX9_carryOut_87 : decode cX9_carryOut 87 = .ok (.ireturn, 1) := by decide +kernel
theorem dX9_carryOut_88 : decode cX9_carryOut 88 = .ok (.aload_n 0, 1) := by decide +kernel
theorem dX9_carryOut_89 : decode cX9_carryOut 89 = .ok (.getfield 21, 3) := by decide +kernel
theorem dX9_carryOut_92 : decode cX9_carryOut 92 = .ok (.iload_n 2, 1) := by decide +kernel
theorem dX9_carryOut_93 : decode cX9_carryOut 93 = .ok (.iload_n 3, 1) := by decide +kernel
theorem dX9_carryOut_94 : decode cX9_carryOut 94 = .ok (.invokevirtual 72, 3) := by decide +kernel
theorem dX9_carryOut_97 : decode cX9_carryOut 97 = .ok (.ireturn, 1) := by decide +kernel
theorem dX9_carryOut_98 : decode cX9_carryOut 98 = .ok (.aload_n 0, 1) := by decide +kernel
theorem dX9_carryOut_99 : decode cX9_carryOut 99 = .ok (.getfield 21, 3) := by decide +kernel
theorem dX9_carryOut_102 : decode cX9_carryOut 102 = .ok (.iload_n 2, 1) := by decide +kernel
theorem dX9_carryOut_103 : decode cX9_carryOut 103 = .ok (.iload_n 3, 1) := by decide +kernel
theorem dX9_carryOut_104 : decode cX9_carryOut 104 = .ok (.invokevirtual 75, 3) := by decide +kernel
theorem dX9_carryOut_107 : decode cX9_carryOut 107 = .ok (.ireturn, 1) := by decide +kernel
theorem dX9_carryOut_108 : decode cX9_carryOut 108 = .ok (.aload_n 0, 1) := by decide +kernel
theorem dX9_carryOut_109 : decode cX9_carryOut 109 = .ok (.getfield 12, 3) := by decide +kernel
theorem dX9_carryOut_112 : decode cX9_carryOut 112 = .ok (.iload_n 2, 1) := by decide +kernel
theorem dX9_carryOut_113 : decode cX9_carryOut 113 = .ok (.iload_n 3, 1) := by decide +kernel
theorem dX9_carryOut_114 : decode cX9_carryOut 114 = .ok (.iconst 1, 1) := by decide +kernel
theorem dX9_carryOut_115 : decode cX9_carryOut 115 = .ok (.if_icmp .ne 7, 3) := by decide +kernel
theorem dX9_carryOut_118 : decode cX9_carryOut 118 = .ok (.iconst 1, 1) := by decide +kernel
theorem dX9_carryOut_119 : decode cX9_carryOut 119 = .ok (.goto 4, 3) := by decide +kernel
theorem dX9_carryOut_122 : decode cX9_carryOut 122 = .ok (.iconst 0, 1) := by decide +kernel
theorem dX9_carryOut_123 : decode cX9_carryOut 123 = .ok (.invokevirtual 78, 3) := by decide +kernel
theorem dX9_carryOut_126 : decode cX9_carryOut 126 = .ok (.ifCond .eq 17, 3) := by decide +kernel
theorem dX9_carryOut_129 : decode cX9_carryOut 129 = .ok (.aload_n 0, 1) := by decide +kernel
theorem dX9_carryOut_130 : decode cX9_carryOut 130 = .ok (.getfield 21, 3) := by decide +kernel
theorem dX9_carryOut_133 : decode cX9_carryOut 133 = .ok (.aload_n 0, 1) := by decide +kernel
theorem dX9_carryOut_134 : decode cX9_carryOut 134 = .ok (.getfield 12, 3) := by decide +kernel
theorem dX9_carryOut_137 : decode cX9_carryOut 137 = .ok (.invokevirtual 82, 3) := by decide +kernel
theorem dX9_carryOut_140 : decode cX9_carryOut 140 = .ok (.goto 5, 3) := by decide +kernel
theorem dX9_carryOut_143 : decode cX9_carryOut 143 = .ok (.bipush (-2), 2) := by decide +kernel
theorem dX9_carryOut_145 : decode cX9_carryOut 145 = .ok (.ireturn, 1) := by decide +kernel
theorem dX9_carryOut_146 : decode cX9_carryOut 146 = .ok (.aload_n 0, 1) := by decide +kernel
theorem dX9_carryOut_147 : decode cX9_carryOut 147 = .ok (.getfield 12, 3) := by decide +kernel
theorem dX9_carryOut_150 : decode cX9_carryOut 150 = .ok (.iload_n 2, 1) := by decide +kernel
theorem dX9_carryOut_151 : decode cX9_carryOut 151 = .ok (.invokevirtual 86, 3) := by decide +kernel
theorem dX9_carryOut_154 : decode cX9_carryOut 154 = .ok (.ireturn, 1) := by decide +kernel
theorem dX9_carryOut_155 : decode cX9_carryOut 155 = .ok (.aload_n 0, 1) := by decide +kernel
theorem dX9_carryOut_156 : decode cX9_carryOut 156 = .ok (.getfield 28, 3) := by decide +kernel
theorem dX9_carryOut_159 : decode cX9_carryOut 159 = .ok (.iload_n 2, 1) := by decide +kernel
theorem dX9_carryOut_160 : decode cX9_carryOut 160 = .ok (.iload_n 3, 1) := by decide +kernel
theorem dX9_carryOut_161 : decode cX9_carryOut 161 = .ok (.aload_n 0, 1) := by decide +kernel
theorem dX9_carryOut_162 : decode cX9_carryOut 162 = .ok (.getfield 21, 3) := by decide +kernel
theorem dX9_carryOut_165 : decode cX9_carryOut 165 = .ok (.invokevirtual 89, 3) := by decide +kernel
theorem dX9_carryOut_168 : decode cX9_carryOut 168 = .ok (.ireturn, 1) := by decide +kernel
theorem dX9_carryOut_169 : decode cX9_carryOut 169 = .ok (.aload_n 0, 1) := by decide +kernel
theorem dX9_carryOut_170 : decode cX9_carryOut 170 = .ok (.getfield 28, 3) := by decide +kernel
theorem dX9_carryOut_173 : decode cX9_carryOut 173 = .ok (.iload_n 2, 1) := by decide +kernel
theorem dX9_carryOut_174 : decode cX9_carryOut 174 = .ok (.invokevirtual 93, 3) := by decide +kernel
theorem dX9_carryOut_177 : decode cX9_carryOut 177 = .ok (.ireturn, 1) := by decide +kernel
theorem dX9_carryOut_178 : decode cX9_carryOut 178 = .ok (.aload_n 0, 1) := by decide +kernel
theorem dX9_carryOut_179 : decode cX9_carryOut 179 = .ok (.getfield 28, 3) := by decide +kernel
theorem dX9_carryOut_182 : decode cX9_carryOut 182 = .ok (.iload_n 2, 1) := by decide +kernel
theorem dX9_carryOut_183 : decode cX9_carryOut 183 = .ok (.iload_n 3, 1) := by decide +kernel
theorem dX9_carryOut_184 : decode cX9_carryOut 184 = .ok (.invokevirtual 96, 3) := by decide +kernel
theorem dX9_carryOut_187 : decode cX9_carryOut 187 = .ok (.ireturn, 1) := by decide +kernel
theorem dX9_carryOut_188 : decode cX9_carryOut 188 = .ok (.aload_n 0, 1) := by decide +kernel
theorem dX9_carryOut_189 : decode cX9_carryOut 189 = .ok (.getfield 35, 3) := by decide +kernel
theorem dX9_carryOut_192 : decode cX9_carryOut 192 = .ok (.iload_n 2, 1) := by decide +kernel
theorem dX9_carryOut_193 : decode cX9_carryOut 193 = .ok (.iload_n 3, 1) := by decide +kernel
theorem dX9_carryOut_194 : decode cX9_carryOut 194 = .ok (.invokevirtual 99, 3) := by decide +kernel
theorem dX9_carryOut_197 : decode cX9_carryOut 197 = .ok (.ireturn, 1) := by decide +kernel
theorem dX9_carryOut_198 : decode cX9_carryOut 198 = .ok (.aload_n 0, 1) := by decide +kernel
theorem dX9_carryOut_199 : decode cX9_carryOut 199 = .ok (.getfield 35, 3) := by decide +kernel
theorem dX9_carryOut_202 : decode cX9_carryOut 202 = .ok (.iload_n 2, 1) := by decide +kernel
theorem dX9_carryOut_203 : decode cX9_carryOut 203 = .ok (.invokevirtual 102, 3) := by decide +kernel
theorem dX9_carryOut_206 : decode cX9_carryOut 206 = .ok (.ireturn, 1) := by decide +kernel
theorem dX9_carryOut_207 : decode cX9_carryOut 207 = .ok (.aload_n 0, 1) := by decide +kernel
theorem dX9_carryOut_208 : decode cX9_carryOut 208 = .ok (.getfield 21, 3) := by decide +kernel
theorem dX9_carryOut_211 : decode cX9_carryOut 211 = .ok (.iload_n 2, 1) := by decide +kernel
theorem dX9_carryOut_212 : decode cX9_carryOut 212 = .ok (.iload_n 3, 1) := by decide +kernel
theorem dX9_carryOut_213 : decode cX9_carryOut 213 = .ok (.aload_n 0, 1) := by decide +kernel
theorem dX9_carryOut_214 : decode cX9_carryOut 214 = .ok (.getfield 12, 3) := by decide +kernel
theorem dX9_carryOut_217 : decode cX9_carryOut 217 = .ok (.invokevirtual 105, 3) := by decide +kernel
theorem dX9_carryOut_220 : decode cX9_carryOut 220 = .ok (.ireturn, 1) := by decide +kernel
theorem dX9_carryOut_221 : decode cX9_carryOut 221 = .ok (.bipush (-3), 2) := by decide +kernel
theorem dX9_carryOut_223 : decode cX9_carryOut 223 = .ok (.ireturn, 1) := by decide +kernel
def f_X9_carryOut (x_key_tonic : Int32) (x_key_isMinor : Int32) (x_key_tolerance : Int32) (x_bells_herds : (Nat → Int32)) (x_bells_pitches : (Nat → Int32)) (x_bells_count : Int32) (x_melodies_lengths : (Nat → Int32)) (x_melodies_entries : (Nat → Int32)) (x_melodies_tones : (Nat → Int32)) (x_cliffs_delays : (Nat → Int32)) (x_cliffs_transpositions : (Nat → Int32)) (x_cliffs_count : Int32) (p1 : Nat) (p2 : Int32) (p3 : Int32) : Option (Int32 × Int32 × Int32 × Int32 × (Nat → Int32) × (Nat → Int32) × Int32 × (Nat → Int32) × (Nat → Int32) × (Nat → Int32) × (Nat → Int32) × (Nat → Int32) × Int32) :=
  q_gd (p1 < 12) (
  q_bd (f_Jx29ce0_ordinal_8abf5 p1) (fun q2 =>
  q_gd (q_in q2 12) (
  q_lt (tb_switch.getD (q2.toNatClampNeg) 0 : Int32) (fun v4 =>
  q_br (v4 = 1) (
  q_bd (f_X1_hang x_bells_herds x_bells_pitches x_bells_count p2 p3) (fun q5 =>
  some (q5.1, x_key_tonic, x_key_isMinor, x_key_tolerance, q5.2.1, q5.2.2.1, q5.2.2.2, x_melodies_lengths, x_melodies_entries, x_melodies_tones, x_cliffs_delays, x_cliffs_transpositions, x_cliffs_count))) (
  q_br (v4 = 2) (
  q_bd (f_X9_takeAway x_bells_herds x_bells_pitches x_bells_count x_melodies_lengths x_melodies_tones p2) (fun q6 =>
  some (q6.1, x_key_tonic, x_key_isMinor, x_key_tolerance, q6.2.1, q6.2.2.1, q6.2.2.2.1, q6.2.2.2.2.1, x_melodies_entries, q6.2.2.2.2.2, x_cliffs_delays, x_cliffs_transpositions, x_cliffs_count))) (
  q_br (v4 = 3) (
  q_bd (f_X1_shift x_bells_pitches x_bells_count p2 p3) (fun q7 =>
  some (q7.1, x_key_tonic, x_key_isMinor, x_key_tolerance, x_bells_herds, q7.2, x_bells_count, x_melodies_lengths, x_melodies_entries, x_melodies_tones, x_cliffs_delays, x_cliffs_transpositions, x_cliffs_count))) (
  q_br (v4 = 4) (
  q_bd (f_X1_drive x_bells_herds x_bells_count p2 p3) (fun q8 =>
  some (q8.1, x_key_tonic, x_key_isMinor, x_key_tolerance, q8.2, x_bells_pitches, x_bells_count, x_melodies_lengths, x_melodies_entries, x_melodies_tones, x_cliffs_delays, x_cliffs_transpositions, x_cliffs_count))) (
  q_br (v4 = 5) (
  q_lt (fun (j9 : Int32) =>
  q_bd (f_X6_choose x_key_tonic x_key_isMinor p2 j9) (fun q10 =>
  q_br (q10.1 = 0) (
  some ((-2), q10.2.1, q10.2.2, x_key_tolerance, x_bells_herds, x_bells_pitches, x_bells_count, x_melodies_lengths, x_melodies_entries, x_melodies_tones, x_cliffs_delays, x_cliffs_transpositions, x_cliffs_count)) (
  q_bd (f_X1_countIn x_bells_pitches x_bells_count q10.2.1 q10.2.2 x_key_tolerance) (fun q11 =>
  some (q11, q10.2.1, q10.2.2, x_key_tolerance, x_bells_herds, x_bells_pitches, x_bells_count, x_melodies_lengths, x_melodies_entries, x_melodies_tones, x_cliffs_delays, x_cliffs_transpositions, x_cliffs_count))))) (fun (J123 : Int32 → Option (Int32 × Int32 × Int32 × Int32 × (Nat → Int32) × (Nat → Int32) × Int32 × (Nat → Int32) × (Nat → Int32) × (Nat → Int32) × (Nat → Int32) × (Nat → Int32) × Int32)) =>
  q_br (p3 = 1) (
  J123 1) (
  J123 0))) (
  q_br (v4 = 6) (
  q_bd (f_X6_tolerate x_key_tolerance p2) (fun q12 =>
  some (q12.1, x_key_tonic, x_key_isMinor, q12.2, x_bells_herds, x_bells_pitches, x_bells_count, x_melodies_lengths, x_melodies_entries, x_melodies_tones, x_cliffs_delays, x_cliffs_transpositions, x_cliffs_count))) (
  q_br (v4 = 7) (
  q_bd (f_X7_lengthen x_melodies_lengths x_melodies_tones x_bells_count p2 p3) (fun q13 =>
  some (q13.1, x_key_tonic, x_key_isMinor, x_key_tolerance, x_bells_herds, x_bells_pitches, x_bells_count, q13.2.1, x_melodies_entries, q13.2.2, x_cliffs_delays, x_cliffs_transpositions, x_cliffs_count))) (
  q_br (v4 = 8) (
  q_bd (f_X7_silence x_melodies_lengths p2) (fun q14 =>
  some (q14.1, x_key_tonic, x_key_isMinor, x_key_tolerance, x_bells_herds, x_bells_pitches, x_bells_count, q14.2, x_melodies_entries, x_melodies_tones, x_cliffs_delays, x_cliffs_transpositions, x_cliffs_count))) (
  q_br (v4 = 9) (
  q_bd (f_X7_enter x_melodies_entries p2 p3) (fun q15 =>
  some (q15.1, x_key_tonic, x_key_isMinor, x_key_tolerance, x_bells_herds, x_bells_pitches, x_bells_count, x_melodies_lengths, q15.2, x_melodies_tones, x_cliffs_delays, x_cliffs_transpositions, x_cliffs_count))) (
  q_br (v4 = 10) (
  q_bd (f_X3_raise x_cliffs_delays x_cliffs_transpositions x_cliffs_count p2 p3) (fun q16 =>
  some (q16.1, x_key_tonic, x_key_isMinor, x_key_tolerance, x_bells_herds, x_bells_pitches, x_bells_count, x_melodies_lengths, x_melodies_entries, x_melodies_tones, q16.2.1, q16.2.2.1, q16.2.2.2))) (
  q_br (v4 = 11) (
  q_bd (f_X3_fell x_cliffs_delays x_cliffs_transpositions x_cliffs_count p2) (fun q17 =>
  some (q17.1, x_key_tonic, x_key_isMinor, x_key_tolerance, x_bells_herds, x_bells_pitches, x_bells_count, x_melodies_lengths, x_melodies_entries, x_melodies_tones, q17.2.1, q17.2.2.1, q17.2.2.2))) (
  q_br (v4 = 12) (
  q_bd (f_X1_wear x_bells_herds x_bells_pitches x_bells_count x_key_tonic x_key_isMinor x_key_tolerance p2 p3) (fun q18 =>
  some (q18.1, x_key_tonic, x_key_isMinor, x_key_tolerance, x_bells_herds, q18.2, x_bells_count, x_melodies_lengths, x_melodies_entries, x_melodies_tones, x_cliffs_delays, x_cliffs_transpositions, x_cliffs_count))) (
  some ((-3), x_key_tonic, x_key_isMinor, x_key_tolerance, x_bells_herds, x_bells_pitches, x_bells_count, x_melodies_lengths, x_melodies_entries, x_melodies_tones, x_cliffs_delays, x_cliffs_transpositions, x_cliffs_count)))))))))))))))))
theorem hv_X9_carryOut : yX9_carryOut.cls = RX9 ∧ yX9_carryOut.cls ≠ "java/lang/invoke/MethodHandle" ∧ yX9_carryOut.cls ≠ "java/lang/invoke/VarHandle" ∧ (parseMethodDescriptor yX9_carryOut.desc).map (fun d => d.parameters.length) = some 3 := by decide +kernel
abbrev rm_X9_carryOut : Room := { frames := 5, cells := 0, slots := 0, locals := 111 }
set_option maxHeartbeats 4000000 in
set_option maxRecDepth 100000 in
theorem k_X9_carryOut (l : Launch) (E : ET) (a : Nat → Nat) (o : Nat) (x : Valley_t) (p1 : Nat) (p2 : Int32) (p3 : Int32) (res : Int32 × Int32 × Int32 × Int32 × (Nat → Int32) × (Nat → Int32) × Int32 × (Nat → Int32) × (Nat → Int32) × (Nat → Int32) × (Nat → Int32) × (Nat → Int32) × Int32) (hF : f_X9_carryOut x.1.1 x.1.2.1 x.1.2.2 x.2.1.1 x.2.1.2.1 x.2.1.2.2 x.2.2.1.1 x.2.2.1.2.1 x.2.2.1.2.2 x.2.2.2.1 x.2.2.2.2.1 x.2.2.2.2.2 p1 p2 p3 = some res) (sz : Nat) : CtI l yX9_carryOut (mws yX9_carryOut cX9_carryOut 4 (some .int)) rm_X9_carryOut 0 0 [.ref (a o), .ref (E.2 (100 + p1)), .int p2, .int p3] E (bl_Valley E a o x) res.1 (bl_Valley E a o ((res.2.1, res.2.2.1, res.2.2.2.1), (res.2.2.2.2.1, res.2.2.2.2.2.1, res.2.2.2.2.2.2.1), (res.2.2.2.2.2.2.2.1, res.2.2.2.2.2.2.2.2.1, res.2.2.2.2.2.2.2.2.2.1), (res.2.2.2.2.2.2.2.2.2.2.1, res.2.2.2.2.2.2.2.2.2.2.2.1, res.2.2.2.2.2.2.2.2.2.2.2.2))) sz := by
  refine mk_M (by decide +kernel) (Nat.le_of_ble_eq_true rfl) ?_
  intro p e s m below meth c A args Q ls hAe hsz hQ hx hb hr hml hin ha hown hlocks hA hz hzs hst hP hD hS hl
  have hown : s.vm.findClass RX9 = some m.cls := hown
  rw [hAe] at hQ
  subst hsz
  have hP : va_P E.1 vwCl (List.flatten [w_ValleyR a o, w_Key E a (o + 1) x.1, w_Bells E a (o + 2) x.2.1, w_Mel E a (o + 5) x.2.2.1, w_Cliffs E a (o + 9) x.2.2.2]) s.heap := hP
  have hD : va_D A (List.flatten [w_ValleyR a o, w_Key E a (o + 1) x.1, w_Bells E a (o + 2) x.2.1, w_Mel E a (o + 5) x.2.2.1, w_Cliffs E a (o + 9) x.2.2.2]) := hD
  have hl : lv_has ls 4 [(0, .ref (a o)), (1, .ref (E.2 (100 + p1))), (2, .int p2), (3, .int p3)] := hl
  generalize hHe : s.heap = H at hP
  have hS : va_S A s.heap H [] := by rw [← hHe]; exact hS
  generalize ([] : List Loc) = locs at hS ⊢
  unfold f_X9_carryOut at hF
  refine va_gets (v := .ref (E.2 14)) hx hb (sz4 hst hz) hS hown (ha _ mw358) (fun _ h9 => h9) dX9_carryOut_0 ?_
  refine lv_aload_n hx hb dX9_carryOut_3 rfl (lv_at hl 1 rfl) ?_
  obtain ⟨g1, hF⟩ := q_gdi hF
  obtain ⟨q2, hq2, hF⟩ := q_bdi hF
  refine cl_i (Lc := []) (Lc' := []) (L' := [w_ValleyR a o, w_Key E a (o + 1) x.1, w_Bells E a (o + 2) x.2.1, w_Mel E a (o + 5) x.2.2.1, w_Cliffs E a (o + 9) x.2.2.2]) (rv := q2) (va_runU (As := []) (rest := [.ref (E.2 14)]) ⟨hx, hb, hml, hown, ha⟩ (k_Jx29ce0_ordinal_8abf5 l E p1 q2 hq2 H.size) (va_cwU 0 ha (gi_U (fun _ h => h) mw360 mw361 mw363 mw364 mw44 mw365) rfl rfl rfl rfl hv_Jx29ce0_ordinal_8abf5.2 ⟨(Nat.le_of_ble_eq_true rfl), (Nat.le_of_ble_eq_true rfl)⟩) ⟨pre_blind, re_en hst hz hS g1, pre_at hP hD hS hz hzs hst [] (by decide) rfl rfl⟩ rfl rfl hl.1 rfl (lv_room (Nat.le_of_ble_eq_true rfl)) dX9_carryOut_4 ⟨(Nat.le_of_ble_eq_true rfl), (Nat.le_of_ble_eq_true rfl)⟩) hP hD hS hA [] (by decide) rfl rfl rfl rfl (fun H locs hP hD hS => ?_)
  obtain ⟨g3, hF⟩ := q_gdi hF
  refine vi_tbl (E := E) (k := q2.toNatClampNeg) hx hb hst (mt4 E) hz hS rfl g3 dX9_carryOut_7 ?_
  refine lv_topi (fun v4 ev4 => ?_)
  have hF := q_lti ev4 hF
  by_cases w8_0 : v4 = 1
  · have hF := q_brp w8_0 hF
    refine lv_tableIn (off := 64) (tgt := 72) hx hb dX9_carryOut_8 (by rw [w8_0]; decide) (by rw [w8_0]; decide) (by rw [w8_0]; decide) (by decide) ?_
    refine lv_aload_n hx hb dX9_carryOut_72 rfl (lv_at hl 0 rfl) ?_
    refine va_get (D := E.1) (ci := 10) (v := .ref (a (o + 2))) (C := RX9) (T := TX9) (N := 4) hx hb ha in_X9 hown hst.k hP 0 rfl rfl 1 (by decide) (ha _ mw152) (fun _ h9 => h9) rfl dX9_carryOut_73 ?_
    refine lv_iload_n hx hb dX9_carryOut_76 rfl (lv_at hl 2 rfl) ?_
    refine lv_iload_n hx hb dX9_carryOut_77 rfl (lv_at hl 3 rfl) ?_
    obtain ⟨q5, hq5, hF⟩ := q_bdi hF
    refine cl_i (Lc := [w_Bells E a (o + 2) x.2.1]) (Lc' := [w_Bells E a (o + 2) (q5.2.1, q5.2.2.1, q5.2.2.2)]) (L' := [w_ValleyR a o, w_Key E a (o + 1) x.1, w_Bells E a (o + 2) (q5.2.1, q5.2.2.1, q5.2.2.2), w_Mel E a (o + 5) x.2.2.1, w_Cliffs E a (o + 9) x.2.2.2]) (rv := q5.1) (va_runV (As := [.int p2, .int p3]) (rest := []) ⟨hx, hb, hml, hown, ha⟩ (k_X1_hang l E a (o + 2) x.2.1 p2 p3 q5 hq5 H.size) (cwV 2 ha (gi_V (fun _ h => h) mw366 mw367 mw368 mw29 mw369) rfl rfl rfl hv_X1_hang ⟨(Nat.le_of_ble_eq_true rfl), (Nat.le_of_ble_eq_true rfl)⟩) ⟨pre_blind, va_recv hst.k (fr_P hP [2] rfl) (ci := 3) (q0 := 0) rfl rfl, pre_at hP hD hS hz hzs hst [2] (by decide) rfl rfl⟩ rfl rfl hl.1 rfl (lv_room (Nat.le_of_ble_eq_true rfl)) dX9_carryOut_78 ⟨(Nat.le_of_ble_eq_true rfl), (Nat.le_of_ble_eq_true rfl)⟩) hP hD hS hA [2] (by decide) rfl rfl rfl rfl (fun H locs hP hD hS => ?_)
    obtain rfl := Option.some.inj hF
    exact en_i hQ (Nat.le_of_ble_eq_true rfl) (Nat.le_of_ble_eq_true rfl) hx hb hr hlocks hP hD hS rfl dX9_carryOut_81
  have hF := q_brn w8_0 hF
  by_cases w8_1 : v4 = 2
  · have hF := q_brp w8_1 hF
    refine lv_tableIn (off := 74) (tgt := 82) hx hb dX9_carryOut_8 (by rw [w8_1]; decide) (by rw [w8_1]; decide) (by rw [w8_1]; decide) (by decide) ?_
    refine lv_aload_n hx hb dX9_carryOut_82 rfl (lv_at hl 0 rfl) ?_
    refine lv_iload_n hx hb dX9_carryOut_83 rfl (lv_at hl 2 rfl) ?_
    obtain ⟨q6, hq6, hF⟩ := q_bdi hF
    refine cl_i (Lc := [w_ValleyR a o, w_Key E a (o + 1) x.1, w_Bells E a (o + 2) x.2.1, w_Mel E a (o + 5) x.2.2.1, w_Cliffs E a (o + 9) x.2.2.2]) (Lc' := [w_ValleyR a o, w_Key E a (o + 1) x.1, w_Bells E a (o + 2) (q6.2.1, q6.2.2.1, q6.2.2.2.1), w_Mel E a (o + 5) (q6.2.2.2.2.1, x.2.2.1.2.1, q6.2.2.2.2.2), w_Cliffs E a (o + 9) x.2.2.2]) (L' := [w_ValleyR a o, w_Key E a (o + 1) x.1, w_Bells E a (o + 2) (q6.2.1, q6.2.2.1, q6.2.2.2.1), w_Mel E a (o + 5) (q6.2.2.2.2.1, x.2.2.1.2.1, q6.2.2.2.2.2), w_Cliffs E a (o + 9) x.2.2.2]) (rv := q6.1) (va_runV (As := [.int p2]) (rest := []) ⟨hx, hb, hml, hown, ha⟩ (k_X9_takeAway l E a o x p2 q6 hq6 H.size) (cwV 1 ha (gi_V (fun _ h => h) mw377 mw379 mw1 mw27 mw380) rfl rfl rfl hv_X9_takeAway ⟨(Nat.le_of_ble_eq_true rfl), (Nat.le_of_ble_eq_true rfl)⟩) ⟨pre_blind, va_recv hst.k (fr_P hP [0, 1, 2, 3, 4] rfl) (ci := 10) (q0 := 0) rfl rfl, pre_at hP hD hS hz hzs hst [0, 1, 2, 3, 4] (by decide) rfl rfl⟩ rfl rfl hl.1 rfl (lv_room (Nat.le_of_ble_eq_true rfl)) dX9_carryOut_84 ⟨(Nat.le_of_ble_eq_true rfl), (Nat.le_of_ble_eq_true rfl)⟩) hP hD hS hA [0, 1, 2, 3, 4] (by decide) rfl rfl rfl rfl (fun H locs hP hD hS => ?_)
    obtain rfl := Option.some.inj hF
    exact en_i hQ (Nat.le_of_ble_eq_true rfl) (Nat.le_of_ble_eq_true rfl) hx hb hr hlocks hP hD hS rfl dX9_carryOut_87
  have hF := q_brn w8_1 hF
  by_cases w8_2 : v4 = 3
  · have hF := q_brp w8_2 hF
    refine lv_tableIn (off := 80) (tgt := 88) hx hb dX9_carryOut_8 (by rw [w8_2]; decide) (by rw [w8_2]; decide) (by rw [w8_2]; decide) (by decide) ?_
    refine lv_aload_n hx hb dX9_carryOut_88 rfl (lv_at hl 0 rfl) ?_
    refine va_get (D := E.1) (ci := 10) (v := .ref (a (o + 2))) (C := RX9) (T := TX9) (N := 4) hx hb ha in_X9 hown hst.k hP 0 rfl rfl 1 (by decide) (ha _ mw152) (fun _ h9 => h9) rfl dX9_carryOut_89 ?_
    refine lv_iload_n hx hb dX9_carryOut_92 rfl (lv_at hl 2 rfl) ?_
    refine lv_iload_n hx hb dX9_carryOut_93 rfl (lv_at hl 3 rfl) ?_
    obtain ⟨q7, hq7, hF⟩ := q_bdi hF
    refine cl_i (Lc := [w_Bells E a (o + 2) x.2.1]) (Lc' := [w_Bells E a (o + 2) (x.2.1.1, q7.2, x.2.1.2.2)]) (L' := [w_ValleyR a o, w_Key E a (o + 1) x.1, w_Bells E a (o + 2) (x.2.1.1, q7.2, x.2.1.2.2), w_Mel E a (o + 5) x.2.2.1, w_Cliffs E a (o + 9) x.2.2.2]) (rv := q7.1) (va_runV (As := [.int p2, .int p3]) (rest := []) ⟨hx, hb, hml, hown, ha⟩ (k_X1_shift l E a (o + 2) x.2.1 p2 p3 q7 hq7 H.size) (cwV 2 ha (gi_V (fun _ h => h) mw397 mw398 mw399 mw29 mw400) rfl rfl rfl hv_X1_shift ⟨(Nat.le_of_ble_eq_true rfl), (Nat.le_of_ble_eq_true rfl)⟩) ⟨pre_blind, va_recv hst.k (fr_P hP [2] rfl) (ci := 3) (q0 := 0) rfl rfl, pre_at hP hD hS hz hzs hst [2] (by decide) rfl rfl⟩ rfl rfl hl.1 rfl (lv_room (Nat.le_of_ble_eq_true rfl)) dX9_carryOut_94 ⟨(Nat.le_of_ble_eq_true rfl), (Nat.le_of_ble_eq_true rfl)⟩) hP hD hS hA [2] (by decide) rfl rfl rfl rfl (fun H locs hP hD hS => ?_)
    obtain rfl := Option.some.inj hF
    exact en_i hQ (Nat.le_of_ble_eq_true rfl) (Nat.le_of_ble_eq_true rfl) hx hb hr hlocks hP hD hS rfl dX9_carryOut_97
  have hF := q_brn w8_2 hF
  by_cases w8_3 : v4 = 4
  · have hF := q_brp w8_3 hF
    refine lv_tableIn (off := 90) (tgt := 98) hx hb dX9_carryOut_8 (by rw [w8_3]; decide) (by rw [w8_3]; decide) (by rw [w8_3]; decide) (by decide) ?_
    refine lv_aload_n hx hb dX9_carryOut_98 rfl (lv_at hl 0 rfl) ?_
    refine va_get (D := E.1) (ci := 10) (v := .ref (a (o + 2))) (C := RX9) (T := TX9) (N := 4) hx hb ha in_X9 hown hst.k hP 0 rfl rfl 1 (by decide) (ha _ mw152) (fun _ h9 => h9) rfl dX9_carryOut_99 ?_
    refine lv_iload_n hx hb dX9_carryOut_102 rfl (lv_at hl 2 rfl) ?_
    refine lv_iload_n hx hb dX9_carryOut_103 rfl (lv_at hl 3 rfl) ?_
    obtain ⟨q8, hq8, hF⟩ := q_bdi hF
    refine cl_i (Lc := [w_Bells E a (o + 2) x.2.1]) (Lc' := [w_Bells E a (o + 2) (q8.2, x.2.1.2.1, x.2.1.2.2)]) (L' := [w_ValleyR a o, w_Key E a (o + 1) x.1, w_Bells E a (o + 2) (q8.2, x.2.1.2.1, x.2.1.2.2), w_Mel E a (o + 5) x.2.2.1, w_Cliffs E a (o + 9) x.2.2.2]) (rv := q8.1) (va_runV (As := [.int p2, .int p3]) (rest := []) ⟨hx, hb, hml, hown, ha⟩ (k_X1_drive l E a (o + 2) x.2.1 p2 p3 q8 hq8 H.size) (cwV 2 ha (gi_V (fun _ h => h) mw402 mw403 mw404 mw29 mw405) rfl rfl rfl hv_X1_drive ⟨(Nat.le_of_ble_eq_true rfl), (Nat.le_of_ble_eq_true rfl)⟩) ⟨pre_blind, va_recv hst.k (fr_P hP [2] rfl) (ci := 3) (q0 := 0) rfl rfl, pre_at hP hD hS hz hzs hst [2] (by decide) rfl rfl⟩ rfl rfl hl.1 rfl (lv_room (Nat.le_of_ble_eq_true rfl)) dX9_carryOut_104 ⟨(Nat.le_of_ble_eq_true rfl), (Nat.le_of_ble_eq_true rfl)⟩) hP hD hS hA [2] (by decide) rfl rfl rfl rfl (fun H locs hP hD hS => ?_)
    obtain rfl := Option.some.inj hF
    exact en_i hQ (Nat.le_of_ble_eq_true rfl) (Nat.le_of_ble_eq_true rfl) hx hb hr hlocks hP hD hS rfl dX9_carryOut_107
  have hF := q_brn w8_3 hF
  by_cases w8_4 : v4 = 5
  · have hF := q_brp w8_4 hF
    refine lv_tableIn (off := 100) (tgt := 108) hx hb dX9_carryOut_8 (by rw [w8_4]; decide) (by rw [w8_4]; decide) (by rw [w8_4]; decide) (by decide) ?_
    refine lv_aload_n hx hb dX9_carryOut_108 rfl (lv_at hl 0 rfl) ?_
    refine va_get (D := E.1) (ci := 10) (v := .ref (a (o + 1))) (C := RX9) (T := TX9) (N := 4) hx hb ha in_X9 hown hst.k hP 0 rfl rfl 0 (by decide) (ha _ mw150) (fun _ h9 => h9) rfl dX9_carryOut_109 ?_
    refine lv_iload_n hx hb dX9_carryOut_112 rfl (lv_at hl 2 rfl) ?_
    refine lv_iload_n hx hb dX9_carryOut_113 rfl (lv_at hl 3 rfl) ?_
    refine lv_iconst (v := 1) hx hb dX9_carryOut_114 (by decide) ?_
    obtain ⟨J123, hJ123, hF⟩ := q_jn hF
    have jJ123 : ∀ (j9 : Int32), ∀ (H : Heap) (locs : List Loc) (ls : Array Slot), J123 j9 = some res → va_P E.1 vwCl (List.flatten [w_ValleyR a o, w_Key E a (o + 1) x.1, w_Bells E a (o + 2) x.2.1, w_Mel E a (o + 5) x.2.2.1, w_Cliffs E a (o + 9) x.2.2.2]) H → va_D A (List.flatten [w_ValleyR a o, w_Key E a (o + 1) x.1, w_Bells E a (o + 2) x.2.1, w_Mel E a (o + 5) x.2.2.1, w_Cliffs E a (o + 9) x.2.2.2]) → va_S A s.heap H locs → lv_has ls 4 [(0, .ref (a o))] → W p l e rm_X9_carryOut s m args below meth c H locs 0 0 Q (F0 m 123 ls [.int j9, .int p2, .ref (a (o + 1))]) := by
      intro j9 H locs ls hF hP hD hS hl
      rw [hJ123] at hF
      obtain ⟨q10, hq10, hF⟩ := q_bdi hF
      refine cl_i (Lc := [w_Key E a (o + 1) x.1]) (Lc' := [w_Key E a (o + 1) (q10.2.1, q10.2.2, x.1.2.2)]) (L' := [w_ValleyR a o, w_Key E a (o + 1) (q10.2.1, q10.2.2, x.1.2.2), w_Bells E a (o + 2) x.2.1, w_Mel E a (o + 5) x.2.2.1, w_Cliffs E a (o + 9) x.2.2.2]) (rv := q10.1) (va_runV (As := [.int p2, .int j9]) (rest := []) ⟨hx, hb, hml, hown, ha⟩ (k_X6_choose l E a (o + 1) x.1 p2 j9 q10 hq10 H.size) (cwV 2 ha (gi_V (fun _ h => h) mw406 mw407 mw408 mw28 mw409) rfl rfl rfl hv_X6_choose ⟨(Nat.le_of_ble_eq_true rfl), (Nat.le_of_ble_eq_true rfl)⟩) ⟨pre_blind, va_recv hst.k (fr_P hP [1] rfl) (ci := 7) (q0 := 0) rfl rfl, pre_at hP hD hS hz hzs hst [1] (by decide) rfl rfl⟩ rfl rfl hl.1 rfl (lv_room (Nat.le_of_ble_eq_true rfl)) dX9_carryOut_123 ⟨(Nat.le_of_ble_eq_true rfl), (Nat.le_of_ble_eq_true rfl)⟩) hP hD hS hA [1] (by decide) rfl rfl rfl rfl (fun H locs hP hD hS => ?_)
      refine lv_if_eq (tgt := 143) hx hb dX9_carryOut_126 (by decide) (fun c126 => ?_) (fun c126 => ?_)
      · have hF := q_brp c126 hF
        refine lv_bipush (v := (-2)) hx hb dX9_carryOut_143 (by decide) ?_
        obtain rfl := Option.some.inj hF
        exact en_i hQ (Nat.le_of_ble_eq_true rfl) (Nat.le_of_ble_eq_true rfl) hx hb hr hlocks hP hD hS rfl dX9_carryOut_145
      · have hF := q_brn c126 hF
        refine lv_aload_n hx hb dX9_carryOut_129 rfl (lv_at hl 0 rfl) ?_
        refine va_get (D := E.1) (ci := 10) (v := .ref (a (o + 2))) (C := RX9) (T := TX9) (N := 4) hx hb ha in_X9 hown hst.k hP 0 rfl rfl 1 (by decide) (ha _ mw152) (fun _ h9 => h9) rfl dX9_carryOut_130 ?_
        refine lv_aload_n hx hb dX9_carryOut_133 rfl (lv_at hl 0 rfl) ?_
        refine va_get (D := E.1) (ci := 10) (v := .ref (a (o + 1))) (C := RX9) (T := TX9) (N := 4) hx hb ha in_X9 hown hst.k hP 0 rfl rfl 0 (by decide) (ha _ mw150) (fun _ h9 => h9) rfl dX9_carryOut_134 ?_
        obtain ⟨q11, hq11, hF⟩ := q_bdi hF
        refine cl_i (Lc := [w_Bells E a (o + 2) x.2.1, w_Key E a (o + 1) (q10.2.1, q10.2.2, x.1.2.2)]) (Lc' := [w_Bells E a (o + 2) x.2.1, w_Key E a (o + 1) (q10.2.1, q10.2.2, x.1.2.2)]) (L' := [w_ValleyR a o, w_Key E a (o + 1) (q10.2.1, q10.2.2, x.1.2.2), w_Bells E a (o + 2) x.2.1, w_Mel E a (o + 5) x.2.2.1, w_Cliffs E a (o + 9) x.2.2.2]) (rv := q11) (va_runV (As := [.ref (a (o + 1))]) (rest := []) ⟨hx, hb, hml, hown, ha⟩ (k_X1_countIn l E a (o + 2) x.2.1 a (o + 1) (q10.2.1, q10.2.2, x.1.2.2) q11 hq11 H.size) (cwV 1 ha (gi_V (fun _ h => h) mw411 mw412 mw413 mw29 mw414) rfl rfl rfl hv_X1_countIn ⟨(Nat.le_of_ble_eq_true rfl), (Nat.le_of_ble_eq_true rfl)⟩) ⟨pre_blind, va_recv hst.k (fr_P hP [2, 1] rfl) (ci := 3) (q0 := 0) rfl rfl, pre_at hP hD hS hz hzs hst [2, 1] (by decide) rfl rfl⟩ rfl rfl hl.1 rfl (lv_room (Nat.le_of_ble_eq_true rfl)) dX9_carryOut_137 ⟨(Nat.le_of_ble_eq_true rfl), (Nat.le_of_ble_eq_true rfl)⟩) hP hD hS hA [2, 1] (by decide) rfl rfl rfl rfl (fun H locs hP hD hS => ?_)
        refine lv_goto (tgt := 145) hx hb dX9_carryOut_140 (by decide) ?_
        obtain rfl := Option.some.inj hF
        exact en_i hQ (Nat.le_of_ble_eq_true rfl) (Nat.le_of_ble_eq_true rfl) hx hb hr hlocks hP hD hS rfl dX9_carryOut_145
    refine lv_icmp_ne (tgt := 122) hx hb dX9_carryOut_115 (by decide) (fun c115 => ?_) (fun c115 => ?_)
    · have hF := q_brn c115 hF
      refine lv_iconst (v := 0) hx hb dX9_carryOut_122 (by decide) ?_
      exact jJ123 0 H locs ls hF hP hD hS (lv_sub hl [0] rfl)
    · have hF := q_brp c115 hF
      refine lv_iconst (v := 1) hx hb dX9_carryOut_118 (by decide) ?_
      refine lv_goto (tgt := 123) hx hb dX9_carryOut_119 (by decide) ?_
      exact jJ123 1 H locs ls hF hP hD hS (lv_sub hl [0] rfl)
  have hF := q_brn w8_4 hF
  by_cases w8_5 : v4 = 6
  · have hF := q_brp w8_5 hF
    refine lv_tableIn (off := 138) (tgt := 146) hx hb dX9_carryOut_8 (by rw [w8_5]; decide) (by rw [w8_5]; decide) (by rw [w8_5]; decide) (by decide) ?_
    refine lv_aload_n hx hb dX9_carryOut_146 rfl (lv_at hl 0 rfl) ?_
    refine va_get (D := E.1) (ci := 10) (v := .ref (a (o + 1))) (C := RX9) (T := TX9) (N := 4) hx hb ha in_X9 hown hst.k hP 0 rfl rfl 0 (by decide) (ha _ mw150) (fun _ h9 => h9) rfl dX9_carryOut_147 ?_
    refine lv_iload_n hx hb dX9_carryOut_150 rfl (lv_at hl 2 rfl) ?_
    obtain ⟨q12, hq12, hF⟩ := q_bdi hF
    refine cl_i (Lc := [w_Key E a (o + 1) x.1]) (Lc' := [w_Key E a (o + 1) (x.1.1, x.1.2.1, q12.2)]) (L' := [w_ValleyR a o, w_Key E a (o + 1) (x.1.1, x.1.2.1, q12.2), w_Bells E a (o + 2) x.2.1, w_Mel E a (o + 5) x.2.2.1, w_Cliffs E a (o + 9) x.2.2.2]) (rv := q12.1) (va_runV (As := [.int p2]) (rest := []) ⟨hx, hb, hml, hown, ha⟩ (k_X6_tolerate l E a (o + 1) x.1 p2 q12 hq12 H.size) (cwV 1 ha (gi_V (fun _ h => h) mw446 mw447 mw448 mw28 mw449) rfl rfl rfl hv_X6_tolerate ⟨(Nat.le_of_ble_eq_true rfl), (Nat.le_of_ble_eq_true rfl)⟩) ⟨pre_blind, va_recv hst.k (fr_P hP [1] rfl) (ci := 7) (q0 := 0) rfl rfl, pre_at hP hD hS hz hzs hst [1] (by decide) rfl rfl⟩ rfl rfl hl.1 rfl (lv_room (Nat.le_of_ble_eq_true rfl)) dX9_carryOut_151 ⟨(Nat.le_of_ble_eq_true rfl), (Nat.le_of_ble_eq_true rfl)⟩) hP hD hS hA [1] (by decide) rfl rfl rfl rfl (fun H locs hP hD hS => ?_)
    obtain rfl := Option.some.inj hF
    exact en_i hQ (Nat.le_of_ble_eq_true rfl) (Nat.le_of_ble_eq_true rfl) hx hb hr hlocks hP hD hS rfl dX9_carryOut_154
  have hF := q_brn w8_5 hF
  by_cases w8_6 : v4 = 7
  · have hF := q_brp w8_6 hF
    refine lv_tableIn (off := 147) (tgt := 155) hx hb dX9_carryOut_8 (by rw [w8_6]; decide) (by rw [w8_6]; decide) (by rw [w8_6]; decide) (by decide) ?_
    refine lv_aload_n hx hb dX9_carryOut_155 rfl (lv_at hl 0 rfl) ?_
    refine va_get (D := E.1) (ci := 10) (v := .ref (a (o + 5))) (C := RX9) (T := TX9) (N := 4) hx hb ha in_X9 hown hst.k hP 0 rfl rfl 2 (by decide) (ha _ mw155) (fun _ h9 => h9) rfl dX9_carryOut_156 ?_
    refine lv_iload_n hx hb dX9_carryOut_159 rfl (lv_at hl 2 rfl) ?_
    refine lv_iload_n hx hb dX9_carryOut_160 rfl (lv_at hl 3 rfl) ?_
    refine lv_aload_n hx hb dX9_carryOut_161 rfl (lv_at hl 0 rfl) ?_
    refine va_get (D := E.1) (ci := 10) (v := .ref (a (o + 2))) (C := RX9) (T := TX9) (N := 4) hx hb ha in_X9 hown hst.k hP 0 rfl rfl 1 (by decide) (ha _ mw152) (fun _ h9 => h9) rfl dX9_carryOut_162 ?_
    obtain ⟨q13, hq13, hF⟩ := q_bdi hF
    refine cl_i (Lc := [w_Mel E a (o + 5) x.2.2.1, w_Bells E a (o + 2) x.2.1]) (Lc' := [w_Mel E a (o + 5) (q13.2.1, x.2.2.1.2.1, q13.2.2), w_Bells E a (o + 2) x.2.1]) (L' := [w_ValleyR a o, w_Key E a (o + 1) x.1, w_Bells E a (o + 2) x.2.1, w_Mel E a (o + 5) (q13.2.1, x.2.2.1.2.1, q13.2.2), w_Cliffs E a (o + 9) x.2.2.2]) (rv := q13.1) (va_runV (As := [.int p2, .int p3, .ref (a (o + 2))]) (rest := []) ⟨hx, hb, hml, hown, ha⟩ (k_X7_lengthen l E a (o + 5) x.2.2.1 a (o + 2) x.2.1 p2 p3 q13 hq13 H.size) (cwV 3 ha (gi_V (fun _ h => h) mw450 mw451 mw452 mw30 mw453) rfl rfl rfl hv_X7_lengthen ⟨(Nat.le_of_ble_eq_true rfl), (Nat.le_of_ble_eq_true rfl)⟩) ⟨pre_blind, va_recv hst.k (fr_P hP [3, 2] rfl) (ci := 8) (q0 := 0) rfl rfl, pre_at hP hD hS hz hzs hst [3, 2] (by decide) rfl rfl⟩ rfl rfl hl.1 rfl (lv_room (Nat.le_of_ble_eq_true rfl)) dX9_carryOut_165 ⟨(Nat.le_of_ble_eq_true rfl), (Nat.le_of_ble_eq_true rfl)⟩) hP hD hS hA [3, 2] (by decide) rfl rfl rfl rfl (fun H locs hP hD hS => ?_)
    obtain rfl := Option.some.inj hF
    exact en_i hQ (Nat.le_of_ble_eq_true rfl) (Nat.le_of_ble_eq_true rfl) hx hb hr hlocks hP hD hS rfl dX9_carryOut_168
  have hF := q_brn w8_6 hF
  by_cases w8_7 : v4 = 8
  · have hF := q_brp w8_7 hF
    refine lv_tableIn (off := 161) (tgt := 169) hx hb dX9_carryOut_8 (by rw [w8_7]; decide) (by rw [w8_7]; decide) (by rw [w8_7]; decide) (by decide) ?_
    refine lv_aload_n hx hb dX9_carryOut_169 rfl (lv_at hl 0 rfl) ?_
    refine va_get (D := E.1) (ci := 10) (v := .ref (a (o + 5))) (C := RX9) (T := TX9) (N := 4) hx hb ha in_X9 hown hst.k hP 0 rfl rfl 2 (by decide) (ha _ mw155) (fun _ h9 => h9) rfl dX9_carryOut_170 ?_
    refine lv_iload_n hx hb dX9_carryOut_173 rfl (lv_at hl 2 rfl) ?_
    obtain ⟨q14, hq14, hF⟩ := q_bdi hF
    refine cl_i (Lc := [w_Mel E a (o + 5) x.2.2.1]) (Lc' := [w_Mel E a (o + 5) (q14.2, x.2.2.1.2.1, x.2.2.1.2.2)]) (L' := [w_ValleyR a o, w_Key E a (o + 1) x.1, w_Bells E a (o + 2) x.2.1, w_Mel E a (o + 5) (q14.2, x.2.2.1.2.1, x.2.2.1.2.2), w_Cliffs E a (o + 9) x.2.2.2]) (rv := q14.1) (va_runV (As := [.int p2]) (rest := []) ⟨hx, hb, hml, hown, ha⟩ (k_X7_silence l E a (o + 5) x.2.2.1 p2 q14 hq14 H.size) (cwV 1 ha (gi_V (fun _ h => h) mw456 mw457 mw458 mw30 mw459) rfl rfl rfl hv_X7_silence ⟨(Nat.le_of_ble_eq_true rfl), (Nat.le_of_ble_eq_true rfl)⟩) ⟨pre_blind, va_recv hst.k (fr_P hP [3] rfl) (ci := 8) (q0 := 0) rfl rfl, pre_at hP hD hS hz hzs hst [3] (by decide) rfl rfl⟩ rfl rfl hl.1 rfl (lv_room (Nat.le_of_ble_eq_true rfl)) dX9_carryOut_174 ⟨(Nat.le_of_ble_eq_true rfl), (Nat.le_of_ble_eq_true rfl)⟩) hP hD hS hA [3] (by decide) rfl rfl rfl rfl (fun H locs hP hD hS => ?_)
    obtain rfl := Option.some.inj hF
    exact en_i hQ (Nat.le_of_ble_eq_true rfl) (Nat.le_of_ble_eq_true rfl) hx hb hr hlocks hP hD hS rfl dX9_carryOut_177
  have hF := q_brn w8_7 hF
  by_cases w8_8 : v4 = 9
  · have hF := q_brp w8_8 hF
    refine lv_tableIn (off := 170) (tgt := 178) hx hb dX9_carryOut_8 (by rw [w8_8]; decide) (by rw [w8_8]; decide) (by rw [w8_8]; decide) (by decide) ?_
    refine lv_aload_n hx hb dX9_carryOut_178 rfl (lv_at hl 0 rfl) ?_
    refine va_get (D := E.1) (ci := 10) (v := .ref (a (o + 5))) (C := RX9) (T := TX9) (N := 4) hx hb ha in_X9 hown hst.k hP 0 rfl rfl 2 (by decide) (ha _ mw155) (fun _ h9 => h9) rfl dX9_carryOut_179 ?_
    refine lv_iload_n hx hb dX9_carryOut_182 rfl (lv_at hl 2 rfl) ?_
    refine lv_iload_n hx hb dX9_carryOut_183 rfl (lv_at hl 3 rfl) ?_
    obtain ⟨q15, hq15, hF⟩ := q_bdi hF
    refine cl_i (Lc := [w_Mel E a (o + 5) x.2.2.1]) (Lc' := [w_Mel E a (o + 5) (x.2.2.1.1, q15.2, x.2.2.1.2.2)]) (L' := [w_ValleyR a o, w_Key E a (o + 1) x.1, w_Bells E a (o + 2) x.2.1, w_Mel E a (o + 5) (x.2.2.1.1, q15.2, x.2.2.1.2.2), w_Cliffs E a (o + 9) x.2.2.2]) (rv := q15.1) (va_runV (As := [.int p2, .int p3]) (rest := []) ⟨hx, hb, hml, hown, ha⟩ (k_X7_enter l E a (o + 5) x.2.2.1 p2 p3 q15 hq15 H.size) (cwV 2 ha (gi_V (fun _ h => h) mw460 mw461 mw462 mw30 mw463) rfl rfl rfl hv_X7_enter ⟨(Nat.le_of_ble_eq_true rfl), (Nat.le_of_ble_eq_true rfl)⟩) ⟨pre_blind, va_recv hst.k (fr_P hP [3] rfl) (ci := 8) (q0 := 0) rfl rfl, pre_at hP hD hS hz hzs hst [3] (by decide) rfl rfl⟩ rfl rfl hl.1 rfl (lv_room (Nat.le_of_ble_eq_true rfl)) dX9_carryOut_184 ⟨(Nat.le_of_ble_eq_true rfl), (Nat.le_of_ble_eq_true rfl)⟩) hP hD hS hA [3] (by decide) rfl rfl rfl rfl (fun H locs hP hD hS => ?_)
    obtain rfl := Option.some.inj hF
    exact en_i hQ (Nat.le_of_ble_eq_true rfl) (Nat.le_of_ble_eq_true rfl) hx hb hr hlocks hP hD hS rfl dX9_carryOut_187
  have hF := q_brn w8_8 hF
  by_cases w8_9 : v4 = 10
  · have hF := q_brp w8_9 hF
    refine lv_tableIn (off := 180) (tgt := 188) hx hb dX9_carryOut_8 (by rw [w8_9]; decide) (by rw [w8_9]; decide) (by rw [w8_9]; decide) (by decide) ?_
    refine lv_aload_n hx hb dX9_carryOut_188 rfl (lv_at hl 0 rfl) ?_
    refine va_get (D := E.1) (ci := 10) (v := .ref (a (o + 9))) (C := RX9) (T := TX9) (N := 4) hx hb ha in_X9 hown hst.k hP 0 rfl rfl 3 (by decide) (ha _ mw158) (fun _ h9 => h9) rfl dX9_carryOut_189 ?_
    refine lv_iload_n hx hb dX9_carryOut_192 rfl (lv_at hl 2 rfl) ?_
    refine lv_iload_n hx hb dX9_carryOut_193 rfl (lv_at hl 3 rfl) ?_
    obtain ⟨q16, hq16, hF⟩ := q_bdi hF
    refine cl_i (Lc := [w_Cliffs E a (o + 9) x.2.2.2]) (Lc' := [w_Cliffs E a (o + 9) (q16.2.1, q16.2.2.1, q16.2.2.2)]) (L' := [w_ValleyR a o, w_Key E a (o + 1) x.1, w_Bells E a (o + 2) x.2.1, w_Mel E a (o + 5) x.2.2.1, w_Cliffs E a (o + 9) (q16.2.1, q16.2.2.1, q16.2.2.2)]) (rv := q16.1) (va_runV (As := [.int p2, .int p3]) (rest := []) ⟨hx, hb, hml, hown, ha⟩ (k_X3_raise l E a (o + 9) x.2.2.2 p2 p3 q16 hq16 H.size) (cwV 2 ha (gi_V (fun _ h => h) mw465 mw466 mw467 mw31 mw468) rfl rfl rfl hv_X3_raise ⟨(Nat.le_of_ble_eq_true rfl), (Nat.le_of_ble_eq_true rfl)⟩) ⟨pre_blind, va_recv hst.k (fr_P hP [4] rfl) (ci := 5) (q0 := 0) rfl rfl, pre_at hP hD hS hz hzs hst [4] (by decide) rfl rfl⟩ rfl rfl hl.1 rfl (lv_room (Nat.le_of_ble_eq_true rfl)) dX9_carryOut_194 ⟨(Nat.le_of_ble_eq_true rfl), (Nat.le_of_ble_eq_true rfl)⟩) hP hD hS hA [4] (by decide) rfl rfl rfl rfl (fun H locs hP hD hS => ?_)
    obtain rfl := Option.some.inj hF
    exact en_i hQ (Nat.le_of_ble_eq_true rfl) (Nat.le_of_ble_eq_true rfl) hx hb hr hlocks hP hD hS rfl dX9_carryOut_197
  have hF := q_brn w8_9 hF
  by_cases w8_10 : v4 = 11
  · have hF := q_brp w8_10 hF
    refine lv_tableIn (off := 190) (tgt := 198) hx hb dX9_carryOut_8 (by rw [w8_10]; decide) (by rw [w8_10]; decide) (by rw [w8_10]; decide) (by decide) ?_
    refine lv_aload_n hx hb dX9_carryOut_198 rfl (lv_at hl 0 rfl) ?_
    refine va_get (D := E.1) (ci := 10) (v := .ref (a (o + 9))) (C := RX9) (T := TX9) (N := 4) hx hb ha in_X9 hown hst.k hP 0 rfl rfl 3 (by decide) (ha _ mw158) (fun _ h9 => h9) rfl dX9_carryOut_199 ?_
    refine lv_iload_n hx hb dX9_carryOut_202 rfl (lv_at hl 2 rfl) ?_
    obtain ⟨q17, hq17, hF⟩ := q_bdi hF
    refine cl_i (Lc := [w_Cliffs E a (o + 9) x.2.2.2]) (Lc' := [w_Cliffs E a (o + 9) (q17.2.1, q17.2.2.1, q17.2.2.2)]) (L' := [w_ValleyR a o, w_Key E a (o + 1) x.1, w_Bells E a (o + 2) x.2.1, w_Mel E a (o + 5) x.2.2.1, w_Cliffs E a (o + 9) (q17.2.1, q17.2.2.1, q17.2.2.2)]) (rv := q17.1) (va_runV (As := [.int p2]) (rest := []) ⟨hx, hb, hml, hown, ha⟩ (k_X3_fell l E a (o + 9) x.2.2.2 p2 q17 hq17 H.size) (cwV 1 ha (gi_V (fun _ h => h) mw470 mw471 mw472 mw31 mw473) rfl rfl rfl hv_X3_fell ⟨(Nat.le_of_ble_eq_true rfl), (Nat.le_of_ble_eq_true rfl)⟩) ⟨pre_blind, va_recv hst.k (fr_P hP [4] rfl) (ci := 5) (q0 := 0) rfl rfl, pre_at hP hD hS hz hzs hst [4] (by decide) rfl rfl⟩ rfl rfl hl.1 rfl (lv_room (Nat.le_of_ble_eq_true rfl)) dX9_carryOut_203 ⟨(Nat.le_of_ble_eq_true rfl), (Nat.le_of_ble_eq_true rfl)⟩) hP hD hS hA [4] (by decide) rfl rfl rfl rfl (fun H locs hP hD hS => ?_)
    obtain rfl := Option.some.inj hF
    exact en_i hQ (Nat.le_of_ble_eq_true rfl) (Nat.le_of_ble_eq_true rfl) hx hb hr hlocks hP hD hS rfl dX9_carryOut_206
  have hF := q_brn w8_10 hF
  by_cases w8_11 : v4 = 12
  · have hF := q_brp w8_11 hF
    refine lv_tableIn (off := 199) (tgt := 207) hx hb dX9_carryOut_8 (by rw [w8_11]; decide) (by rw [w8_11]; decide) (by rw [w8_11]; decide) (by decide) ?_
    refine lv_aload_n hx hb dX9_carryOut_207 rfl (lv_at hl 0 rfl) ?_
    refine va_get (D := E.1) (ci := 10) (v := .ref (a (o + 2))) (C := RX9) (T := TX9) (N := 4) hx hb ha in_X9 hown hst.k hP 0 rfl rfl 1 (by decide) (ha _ mw152) (fun _ h9 => h9) rfl dX9_carryOut_208 ?_
    refine lv_iload_n hx hb dX9_carryOut_211 rfl (lv_at hl 2 rfl) ?_
    refine lv_iload_n hx hb dX9_carryOut_212 rfl (lv_at hl 3 rfl) ?_
    refine lv_aload_n hx hb dX9_carryOut_213 rfl (lv_at hl 0 rfl) ?_
    refine va_get (D := E.1) (ci := 10) (v := .ref (a (o + 1))) (C := RX9) (T := TX9) (N := 4) hx hb ha in_X9 hown hst.k hP 0 rfl rfl 0 (by decide) (ha _ mw150) (fun _ h9 => h9) rfl dX9_carryOut_214 ?_
    obtain ⟨q18, hq18, hF⟩ := q_bdi hF
    refine cl_i (Lc := [w_Bells E a (o + 2) x.2.1, w_Key E a (o + 1) x.1]) (Lc' := [w_Bells E a (o + 2) (x.2.1.1, q18.2, x.2.1.2.2), w_Key E a (o + 1) x.1]) (L' := [w_ValleyR a o, w_Key E a (o + 1) x.1, w_Bells E a (o + 2) (x.2.1.1, q18.2, x.2.1.2.2), w_Mel E a (o + 5) x.2.2.1, w_Cliffs E a (o + 9) x.2.2.2]) (rv := q18.1) (va_runV (As := [.int p2, .int p3, .ref (a (o + 1))]) (rest := []) ⟨hx, hb, hml, hown, ha⟩ (k_X1_wear l E a (o + 2) x.2.1 a (o + 1) x.1 p2 p3 q18 hq18 H.size) (cwV 3 ha (gi_V (fun _ h => h) mw478 mw479 mw480 mw29 mw481) rfl rfl rfl hv_X1_wear ⟨(Nat.le_of_ble_eq_true rfl), (Nat.le_of_ble_eq_true rfl)⟩) ⟨pre_blind, va_recv hst.k (fr_P hP [2, 1] rfl) (ci := 3) (q0 := 0) rfl rfl, pre_at hP hD hS hz hzs hst [2, 1] (by decide) rfl rfl⟩ rfl rfl hl.1 rfl (lv_room (Nat.le_of_ble_eq_true rfl)) dX9_carryOut_217 ⟨(Nat.le_of_ble_eq_true rfl), (Nat.le_of_ble_eq_true rfl)⟩) hP hD hS hA [2, 1] (by decide) rfl rfl rfl rfl (fun H locs hP hD hS => ?_)
    obtain rfl := Option.some.inj hF
    exact en_i hQ (Nat.le_of_ble_eq_true rfl) (Nat.le_of_ble_eq_true rfl) hx hb hr hlocks hP hD hS rfl dX9_carryOut_220
  have hF := q_brn w8_11 hF
  refine lv_tableOut (tgt := 221) hx hb dX9_carryOut_8 (sw_out 1 12 [1, 2, 3, 4, 5, 6, 7, 8, 9, 10, 11, 12] (List.forall_mem_cons.mpr ⟨w8_0, (List.forall_mem_cons.mpr ⟨w8_1, (List.forall_mem_cons.mpr ⟨w8_2, (List.forall_mem_cons.mpr ⟨w8_3, (List.forall_mem_cons.mpr ⟨w8_4, (List.forall_mem_cons.mpr ⟨w8_5, (List.forall_mem_cons.mpr ⟨w8_6, (List.forall_mem_cons.mpr ⟨w8_7, (List.forall_mem_cons.mpr ⟨w8_8, (List.forall_mem_cons.mpr ⟨w8_9, (List.forall_mem_cons.mpr ⟨w8_10, (List.forall_mem_cons.mpr ⟨w8_11, (fun _ h => nomatch h)⟩)⟩)⟩)⟩)⟩)⟩)⟩)⟩)⟩)⟩)⟩)⟩) (by decide) (by decide)) (by decide) ?_
  refine lv_bipush (v := (-3)) hx hb dX9_carryOut_221 (by decide) ?_
  obtain rfl := Option.some.inj hF
  exact en_i hQ (Nat.le_of_ble_eq_true rfl) (Nat.le_of_ble_eq_true rfl) hx hb hr hlocks hP hD hS rfl dX9_carryOut_223

/-! J0_isLatin1_aae02 -/
theorem dJ0_isLatin1_aae02_0 : decode cJ0_isLatin1_aae02 0 = .ok (.getstatic 38, 3) := by decide +kernel
theorem dJ0_isLatin1_aae02_3 : decode cJ0_isLatin1_aae02 3 = .ok (.ifCond .eq 14, 3) := by decide +kernel
theorem dJ0_isLatin1_aae02_6 : decode cJ0_isLatin1_aae02 6 = .ok (.aload_n 0, 1) := by decide +kernel
theorem dJ0_isLatin1_aae02_7 : decode cJ0_isLatin1_aae02 7 = .ok (.getfield 15, 3) := by decide +kernel
theorem dJ0_isLatin1_aae02_10 : decode cJ0_isLatin1_aae02 10 = .ok (.ifCond .ne 7, 3) := by decide +kernel
theorem dJ0_isLatin1_aae02_13 : decode cJ0_isLatin1_aae02 13 = .ok (.iconst 1, 1) := by decide +kernel
theorem dJ0_isLatin1_aae02_14 : decode cJ0_isLatin1_aae02 14 = .ok (.goto 4, 3) := by decide +kernel
theorem dJ0_isLatin1_aae02_17 : decode cJ0_isLatin1_aae02 17 = .ok (.iconst 0, 1) := by decide +kernel
theorem dJ0_isLatin1_aae02_18 : decode cJ0_isLatin1_aae02 18 = .ok (.ireturn, 1) := by decide +kernel
def f_J0_isLatin1_aae02 (p0 : Nat) : Option (Int32) :=
  q_br ((1 : Int32) = (0 : Int32)) (
  some 0) (
  q_gd (p0 < 27) (
  q_br ((0 : Int32) = (0 : Int32)) (
  some 1) (
  some 0)))
theorem hv_J0_isLatin1_aae02 : yJ0_isLatin1_aae02.cls = RJ0 ∧ yJ0_isLatin1_aae02.cls ≠ "java/lang/invoke/MethodHandle" ∧ yJ0_isLatin1_aae02.cls ≠ "java/lang/invoke/VarHandle" ∧ (parseMethodDescriptor yJ0_isLatin1_aae02.desc).map (fun d => d.parameters.length) = some 0 := by decide +kernel
abbrev rm_J0_isLatin1_aae02 : Room := { frames := 0, cells := 0, slots := 0, locals := 0 }
set_option maxHeartbeats 4000000 in
set_option maxRecDepth 100000 in
theorem k_J0_isLatin1_aae02 (l : Launch) (E : ET) (p0 : Nat) (res : Int32) (hF : f_J0_isLatin1_aae02 p0 = some res) (sz : Nat) : CtI l yJ0_isLatin1_aae02 (mws yJ0_isLatin1_aae02 cJ0_isLatin1_aae02 1 (some .boolean)) rm_J0_isLatin1_aae02 0 0 [.ref (E.2 (200 + p0))] E ([]) res ([]) sz := by
  refine mk_M (by decide +kernel) (Nat.le_of_ble_eq_true rfl) ?_
  intro p e s m below meth c A args Q ls hAe hsz hQ hx hb hr hml hin ha hown hlocks hA hz hzs hst hP hD hS hl
  have hown : s.vm.findClass RJ0 = some m.cls := hown
  rw [hAe] at hQ
  subst hsz
  have hP : va_P E.1 vwCl (List.flatten []) s.heap := hP
  have hD : va_D A (List.flatten []) := hD
  have hl : lv_has ls 1 [(0, .ref (E.2 (200 + p0)))] := hl
  generalize hHe : s.heap = H at hP
  have hS : va_S A s.heap H [] := by rw [← hHe]; exact hS
  generalize ([] : List Loc) = locs at hS ⊢
  unfold f_J0_isLatin1_aae02 at hF
  refine va_gets (v := .int 1) hx hb (sz8 hst hz) hS hown (ha _ mw963) (fun _ h9 => h9) dJ0_isLatin1_aae02_0 ?_
  refine lv_if_eq (tgt := 17) hx hb dJ0_isLatin1_aae02_3 (by decide) (fun c3 => ?_) (fun c3 => ?_)
  · have hF := q_brp c3 hF
    refine lv_iconst (v := 0) hx hb dJ0_isLatin1_aae02_17 (by decide) ?_
    obtain rfl := Option.some.inj hF
    exact en_z hQ (Nat.le_of_ble_eq_true rfl) (Nat.le_of_ble_eq_true rfl) hx hb hr hlocks (by decide) hP hD hS rfl dJ0_isLatin1_aae02_18
  · have hF := q_brn c3 hF
    refine lv_aload_n hx hb dJ0_isLatin1_aae02_6 rfl (lv_at hl 0 rfl) ?_
    obtain ⟨g1, hF⟩ := q_gdi hF
    refine vi_scod hx hb hst hz hS hown (ha _ mw1245) g1 dJ0_isLatin1_aae02_7 ?_
    refine lv_if_ne (tgt := 17) hx hb dJ0_isLatin1_aae02_10 (by decide) (fun c10 => ?_) (fun c10 => ?_)
    · have hF := q_brn c10 hF
      refine lv_iconst (v := 0) hx hb dJ0_isLatin1_aae02_17 (by decide) ?_
      obtain rfl := Option.some.inj hF
      exact en_z hQ (Nat.le_of_ble_eq_true rfl) (Nat.le_of_ble_eq_true rfl) hx hb hr hlocks (by decide) hP hD hS rfl dJ0_isLatin1_aae02_18
    · have hF := q_brp c10 hF
      refine lv_iconst (v := 1) hx hb dJ0_isLatin1_aae02_13 (by decide) ?_
      refine lv_goto (tgt := 18) hx hb dJ0_isLatin1_aae02_14 (by decide) ?_
      obtain rfl := Option.some.inj hF
      exact en_z hQ (Nat.le_of_ble_eq_true rfl) (Nat.le_of_ble_eq_true rfl) hx hb hr hlocks (by decide) hP hD hS rfl dJ0_isLatin1_aae02_18

/-! J0_coder_7d493 -/
theorem dJ0_coder_7d493_0 : decode cJ0_coder_7d493 0 = .ok (.getstatic 38, 3) := by decide +kernel
theorem dJ0_coder_7d493_3 : decode cJ0_coder_7d493 3 = .ok (.ifCond .eq 10, 3) := by decide +kernel
theorem dJ0_coder_7d493_6 : decode cJ0_coder_7d493 6 = .ok (.aload_n 0, 1) := by decide +kernel
theorem dJ0_coder_7d493_7 : decode cJ0_coder_7d493 7 = .ok (.getfield 15, 3) := by decide +kernel
theorem dJ0_coder_7d493_10 : decode cJ0_coder_7d493 10 = .ok (.goto 4, 3) := by decide +kernel
theorem dJ0_coder_7d493_13 : decode cJ0_coder_7d493 13 = .ok (.iconst 1, 1) := by decide +kernel
theorem dJ0_coder_7d493_14 : decode cJ0_coder_7d493 14 = .ok (.ireturn, 1) := by decide +kernel
def f_J0_coder_7d493 (p0 : Nat) : Option (Int32) :=
  q_br ((1 : Int32) = (0 : Int32)) (
  some 1) (
  q_gd (p0 < 27) (
  some 0))
theorem hv_J0_coder_7d493 : yJ0_coder_7d493.cls = RJ0 ∧ yJ0_coder_7d493.cls ≠ "java/lang/invoke/MethodHandle" ∧ yJ0_coder_7d493.cls ≠ "java/lang/invoke/VarHandle" ∧ (parseMethodDescriptor yJ0_coder_7d493.desc).map (fun d => d.parameters.length) = some 0 := by decide +kernel
abbrev rm_J0_coder_7d493 : Room := { frames := 0, cells := 0, slots := 0, locals := 0 }
set_option maxHeartbeats 4000000 in
set_option maxRecDepth 100000 in
theorem k_J0_coder_7d493 (l : Launch) (E : ET) (p0 : Nat) (res : Int32) (hF : f_J0_coder_7d493 p0 = some res) (sz : Nat) : CtI l yJ0_coder_7d493 (mws yJ0_coder_7d493 cJ0_coder_7d493 1 (some .byte)) rm_J0_coder_7d493 0 0 [.ref (E.2 (200 + p0))] E ([]) res ([]) sz := by
  refine mk_M (by decide +kernel) (Nat.le_of_ble_eq_true rfl) ?_
  intro p e s m below meth c A args Q ls hAe hsz hQ hx hb hr hml hin ha hown hlocks hA hz hzs hst hP hD hS hl
  have hown : s.vm.findClass RJ0 = some m.cls := hown
  rw [hAe] at hQ
  subst hsz
  have hP : va_P E.1 vwCl (List.flatten []) s.heap := hP
  have hD : va_D A (List.flatten []) := hD
  have hl : lv_has ls 1 [(0, .ref (E.2 (200 + p0)))] := hl
  generalize hHe : s.heap = H at hP
  have hS : va_S A s.heap H [] := by rw [← hHe]; exact hS
  generalize ([] : List Loc) = locs at hS ⊢
  unfold f_J0_coder_7d493 at hF
  refine va_gets (v := .int 1) hx hb (sz8 hst hz) hS hown (ha _ mw963) (fun _ h9 => h9) dJ0_coder_7d493_0 ?_
  refine lv_if_eq (tgt := 13) hx hb dJ0_coder_7d493_3 (by decide) (fun c3 => ?_) (fun c3 => ?_)
  · have hF := q_brp c3 hF
    refine lv_iconst (v := 1) hx hb dJ0_coder_7d493_13 (by decide) ?_
    obtain rfl := Option.some.inj hF
    exact en_z hQ (Nat.le_of_ble_eq_true rfl) (Nat.le_of_ble_eq_true rfl) hx hb hr hlocks (by decide) hP hD hS rfl dJ0_coder_7d493_14
  · have hF := q_brn c3 hF
    refine lv_aload_n hx hb dJ0_coder_7d493_6 rfl (lv_at hl 0 rfl) ?_
    obtain ⟨g1, hF⟩ := q_gdi hF
    refine vi_scod hx hb hst hz hS hown (ha _ mw1245) g1 dJ0_coder_7d493_7 ?_
    refine lv_goto (tgt := 14) hx hb dJ0_coder_7d493_10 (by decide) ?_
    obtain rfl := Option.some.inj hF
    exact en_z hQ (Nat.le_of_ble_eq_true rfl) (Nat.le_of_ble_eq_true rfl) hx hb hr hlocks (by decide) hP hD hS rfl dJ0_coder_7d493_14

/-! J0_length_8abf5 -/
theorem dJ0_length_8abf5_0 : decode cJ0_length_8abf5 0 = .ok (.aload_n 0, 1) := by decide +kernel
theorem dJ0_length_8abf5_1 : decode cJ0_length_8abf5 1 = .ok (.getfield 9, 3) := by decide +kernel
theorem dJ0_length_8abf5_4 : decode cJ0_length_8abf5 4 = .ok (.arraylength, 1) := by decide +kernel
theorem dJ0_length_8abf5_5 : decode cJ0_length_8abf5 5 = .ok (.aload_n 0, 1) := by decide +kernel
theorem dJ0_length_8abf5_6 : decode cJ0_length_8abf5 6 = .ok (.invokevirtual 335, 3) := by decide +kernel
theorem dJ0_length_8abf5_9 : decode cJ0_length_8abf5 9 = .ok (.ishr, 1) := by decide +kernel
theorem dJ0_length_8abf5_10 : decode cJ0_length_8abf5 10 = .ok (.ireturn, 1) := by decide +kernel
def f_J0_length_8abf5 (p0 : Nat) : Option (Int32) :=
  q_gd (p0 < 27) (
  q_gd (p0 < 27) (
  q_gd (p0 < 27) (
  q_bd (f_J0_coder_7d493 p0) (fun q4 =>
  some ((q_sl p0) >>> (q4 &&& 31))))))
theorem hv_J0_length_8abf5 : yJ0_length_8abf5.cls = RJ0 ∧ yJ0_length_8abf5.cls ≠ "java/lang/invoke/MethodHandle" ∧ yJ0_length_8abf5.cls ≠ "java/lang/invoke/VarHandle" ∧ (parseMethodDescriptor yJ0_length_8abf5.desc).map (fun d => d.parameters.length) = some 0 := by decide +kernel
abbrev rm_J0_length_8abf5 : Room := { frames := 1, cells := 0, slots := 0, locals := 20 }
set_option maxHeartbeats 4000000 in
set_option maxRecDepth 100000 in
theorem k_J0_length_8abf5 (l : Launch) (E : ET) (p0 : Nat) (res : Int32) (hF : f_J0_length_8abf5 p0 = some res) (sz : Nat) : CtI l yJ0_length_8abf5 (mws yJ0_length_8abf5 cJ0_length_8abf5 1 (some .int)) rm_J0_length_8abf5 0 0 [.ref (E.2 (200 + p0))] E ([]) res ([]) sz := by
  refine mk_M (by decide +kernel) (Nat.le_of_ble_eq_true rfl) ?_
  intro p e s m below meth c A args Q ls hAe hsz hQ hx hb hr hml hin ha hown hlocks hA hz hzs hst hP hD hS hl
  have hown : s.vm.findClass RJ0 = some m.cls := hown
  rw [hAe] at hQ
  subst hsz
  have hP : va_P E.1 vwCl (List.flatten []) s.heap := hP
  have hD : va_D A (List.flatten []) := hD
  have hl : lv_has ls 1 [(0, .ref (E.2 (200 + p0)))] := hl
  generalize hHe : s.heap = H at hP
  have hS : va_S A s.heap H [] := by rw [← hHe]; exact hS
  generalize ([] : List Loc) = locs at hS ⊢
  unfold f_J0_length_8abf5 at hF
  refine lv_aload_n hx hb dJ0_length_8abf5_0 rfl (lv_at hl 0 rfl) ?_
  obtain ⟨g1, hF⟩ := q_gdi hF
  refine vi_sval hx hb hst hz hS hown (ha _ mw1244) g1 dJ0_length_8abf5_1 ?_
  obtain ⟨g2, hF⟩ := q_gdi hF
  refine vi_slen hx hb hst hz hS g2 dJ0_length_8abf5_4 ?_
  refine lv_aload_n hx hb dJ0_length_8abf5_5 rfl (lv_at hl 0 rfl) ?_
  obtain ⟨g3, hF⟩ := q_gdi hF
  obtain ⟨q4, hq4, hF⟩ := q_bdi hF
  refine cl_i (Lc := []) (Lc' := []) (L' := []) (rv := q4) (va_runV (As := []) (rest := [.int (q_sl p0)]) ⟨hx, hb, hml, hown, ha⟩ (k_J0_coder_7d493 l E p0 q4 hq4 H.size) (cwV 0 ha (gi_V (fun _ h => h) mw959 mw960 mw961 mw37 mw962) rfl rfl rfl hv_J0_coder_7d493 ⟨(Nat.le_of_ble_eq_true rfl), (Nat.le_of_ble_eq_true rfl)⟩) ⟨pre_blind, re_st hst hz hS g3, pre_at hP hD hS hz hzs hst [] (by decide) rfl rfl⟩ rfl rfl hl.1 rfl (lv_room (Nat.le_of_ble_eq_true rfl)) dJ0_length_8abf5_6 ⟨(Nat.le_of_ble_eq_true rfl), (Nat.le_of_ble_eq_true rfl)⟩) hP hD hS hA [] (by decide) rfl rfl rfl rfl (fun H locs hP hD hS => ?_)
  refine lv_ishr hx hb dJ0_length_8abf5_9 ?_
  obtain rfl := Option.some.inj hF
  exact en_i hQ (Nat.le_of_ble_eq_true rfl) (Nat.le_of_ble_eq_true rfl) hx hb hr hlocks hP hD hS rfl dJ0_length_8abf5_10

/-! J0_checkIndex_df160 -/
theorem dJ3_checkIndex_8e157_0 : decode cJ3_checkIndex_8e157 0 = .ok (.iload_n 0, 1) := by decide +kernel
theorem dJ3_checkIndex_8e157_1 : decode cJ3_checkIndex_8e157 1 = .ok (.ifCond .lt 8, 3) := by decide +kernel
theorem dJ3_checkIndex_8e157_4 : decode cJ3_checkIndex_8e157 4 = .ok (.iload_n 0, 1) := by decide +kernel
theorem dJ3_checkIndex_8e157_5 : decode cJ3_checkIndex_8e157 5 = .ok (.iload_n 1, 1) := by decide +kernel
theorem dJ3_checkIndex_8e157_6 : decode cJ3_checkIndex_8e157 6 = .ok (.if_icmp .lt 10, 3) := by decide +kernel
theorem dJ3_checkIndex_8e157_9 : decode cJ3_checkIndex_8e157 9 = .ok (.aload_n 2, 1) := by decide +kernel
theorem dJ3_checkIndex_8e157_10 : decode cJ3_checkIndex_8e157 10 = .ok (.iload_n 0, 1) := by decide +kernel
theorem dJ3_checkIndex_8e157_11 : decode cJ3_checkIndex_8e157 11 = .ok (.iload_n 1, 1) := by decide +kernel
theorem dJ3_checkIndex_8e157_12 : decode cJ3_checkIndex_8e157 12 = .ok (.invokestatic 95, 3) := by decide +kernel
theorem dJ3_checkIndex_8e157_15 : decode cJ3_checkIndex_8e157 15 = .ok (.athrow, 1) := by decide +kernel
theorem dJ3_checkIndex_8e157_16 : decode cJ3_checkIndex_8e157 16 = .ok (.iload_n 0, 1) := by decide +kernel
theorem dJ3_checkIndex_8e157_17 : decode cJ3_checkIndex_8e157 17 = .ok (.ireturn, 1) := by decide +kernel
theorem dJ0_checkIndex_df160_0 : decode cJ0_checkIndex_df160 0 = .ok (.iload_n 0, 1) := by decide +kernel
theorem dJ0_checkIndex_df160_1 : decode cJ0_checkIndex_df160 1 = .ok (.iload_n 1, 1) := by decide +kernel
theorem dJ0_checkIndex_df160_2 : decode cJ0_checkIndex_df160 2 = .ok (.getstatic 1053, 3) := by decide +kernel
theorem dJ0_checkIndex_df160_5 : decode cJ0_checkIndex_df160 5 = .ok (.invokestatic 1059, 3) := by decide +kernel
theorem dJ0_checkIndex_df160_8 : decode cJ0_checkIndex_df160 8 = .ok (.pop, 1) := by decide +kernel
theorem dJ0_checkIndex_df160_9 : decode cJ0_checkIndex_df160 9 = .ok (.return_, 1) := by decide +kernel
def f_J0_checkIndex_df160 (p1 : Int32) (p2 : Int32) : Option Unit := q_gd ((¬ p1 < 0) ∧ p1 < p2) (some ())
theorem hv_J3_checkIndex_8e157 : yJ3_checkIndex_8e157.cls ≠ "java/lang/invoke/MethodHandle" ∧ yJ3_checkIndex_8e157.cls ≠ "java/lang/invoke/VarHandle" ∧ (parseMethodDescriptor yJ3_checkIndex_8e157.desc).map (fun d => d.parameters.length) = some 3 := by decide +kernel
theorem hv_J0_checkIndex_df160 : yJ0_checkIndex_df160.cls = RJ0 ∧ yJ0_checkIndex_df160.cls ≠ "java/lang/invoke/MethodHandle" ∧ yJ0_checkIndex_df160.cls ≠ "java/lang/invoke/VarHandle" ∧ (parseMethodDescriptor yJ0_checkIndex_df160.desc).map (fun d => d.parameters.length) = some 2 := by decide +kernel
abbrev rm_J3_checkIndex_8e157 : Room := { frames := 0, cells := 0, slots := 0, locals := 0 }
abbrev rm_J0_checkIndex_df160 : Room := { frames := 1, cells := 0, slots := 0, locals := 22 }
set_option maxHeartbeats 4000000 in
set_option maxRecDepth 100000 in
theorem k_J3_checkIndex_n (l : Launch) (E : ET) (p1 : Int32) (p2 : Int32) (h1 : ¬ p1 < 0) (h2 : p1 < p2) (sz : Nat) : CtI l yJ3_checkIndex_8e157 (mws yJ3_checkIndex_8e157 cJ3_checkIndex_8e157 3 (some .int)) rm_J3_checkIndex_8e157 0 0 [.int p1, .int p2, .null] E [] p1 [] sz := by
  refine mk_M (by decide +kernel) (Nat.le_of_ble_eq_true rfl) ?_
  intro p e s m below meth c A args Q ls hAe hsz hQ hx hb hr hml hin ha hown hlocks hA hz hzs hst hP hD hS hl
  rw [hAe] at hQ
  subst hsz
  have hl : lv_has ls 3 [(0, .int p1), (1, .int p2), (2, .null)] := hl
  refine lv_iload_n hx hb dJ3_checkIndex_8e157_0 rfl (lv_at hl 0 rfl) ?_
  refine lv_if_lt (tgt := 9) hx hb dJ3_checkIndex_8e157_1 (by decide) (fun c1 => absurd c1 h1) (fun c1 => ?_)
  refine lv_iload_n hx hb dJ3_checkIndex_8e157_4 rfl (lv_at hl 0 rfl) ?_
  refine lv_iload_n hx hb dJ3_checkIndex_8e157_5 rfl (lv_at hl 1 rfl) ?_
  refine lv_icmp_lt (tgt := 16) hx hb dJ3_checkIndex_8e157_6 (by decide) (fun c6 => ?_) (fun c6 => absurd h2 c6)
  refine lv_iload_n hx hb dJ3_checkIndex_8e157_16 rfl (lv_at hl 0 rfl) ?_
  exact en_i hQ (Nat.le_of_ble_eq_true rfl) (Nat.le_of_ble_eq_true rfl) hx hb hr hlocks hP hD hS rfl dJ3_checkIndex_8e157_17
set_option maxHeartbeats 4000000 in
set_option maxRecDepth 100000 in
theorem k_J3_checkIndex_r (l : Launch) (E : ET) (p1 : Int32) (p2 : Int32) (t9 : Nat) (h1 : ¬ p1 < 0) (h2 : p1 < p2) (sz : Nat) : CtI l yJ3_checkIndex_8e157 (mws yJ3_checkIndex_8e157 cJ3_checkIndex_8e157 3 (some .int)) rm_J3_checkIndex_8e157 0 0 [.int p1, .int p2, (.ref t9)] E [] p1 [] sz := by
  refine mk_M (by decide +kernel) (Nat.le_of_ble_eq_true rfl) ?_
  intro p e s m below meth c A args Q ls hAe hsz hQ hx hb hr hml hin ha hown hlocks hA hz hzs hst hP hD hS hl
  rw [hAe] at hQ
  subst hsz
  have hl : lv_has ls 3 [(0, .int p1), (1, .int p2), (2, (.ref t9))] := hl
  refine lv_iload_n hx hb dJ3_checkIndex_8e157_0 rfl (lv_at hl 0 rfl) ?_
  refine lv_if_lt (tgt := 9) hx hb dJ3_checkIndex_8e157_1 (by decide) (fun c1 => absurd c1 h1) (fun c1 => ?_)
  refine lv_iload_n hx hb dJ3_checkIndex_8e157_4 rfl (lv_at hl 0 rfl) ?_
  refine lv_iload_n hx hb dJ3_checkIndex_8e157_5 rfl (lv_at hl 1 rfl) ?_
  refine lv_icmp_lt (tgt := 16) hx hb dJ3_checkIndex_8e157_6 (by decide) (fun c6 => ?_) (fun c6 => absurd h2 c6)
  refine lv_iload_n hx hb dJ3_checkIndex_8e157_16 rfl (lv_at hl 0 rfl) ?_
  exact en_i hQ (Nat.le_of_ble_eq_true rfl) (Nat.le_of_ble_eq_true rfl) hx hb hr hlocks hP hD hS rfl dJ3_checkIndex_8e157_17
set_option maxHeartbeats 4000000 in
set_option maxRecDepth 100000 in
theorem k_J0_checkIndex_df160 (l : Launch) (E : ET) (p1 : Int32) (p2 : Int32) (res : Unit) (hF : f_J0_checkIndex_df160 p1 p2 = some res) (sz : Nat) : CtV l yJ0_checkIndex_df160 (mws yJ0_checkIndex_df160 cJ0_checkIndex_df160 2 none) rm_J0_checkIndex_df160 0 0 [.int p1, .int p2] E ([]) ([]) sz := by
  obtain ⟨⟨h1, h2⟩, -⟩ := q_gdi hF
  refine mk_M (by decide +kernel) (Nat.le_of_ble_eq_true rfl) ?_
  intro p e s m below meth c A args Q ls hAe hsz hQ hx hb hr hml hin ha hown hlocks hA hz hzs hst hP hD hS hl
  have hown : s.vm.findClass RJ0 = some m.cls := hown
  rw [hAe] at hQ
  subst hsz
  have hl : lv_has ls 2 [(0, .int p1), (1, .int p2)] := hl
  generalize hHe : s.heap = H at hP
  have hS : va_S A s.heap H [] := by rw [← hHe]; exact hS
  generalize ([] : List Loc) = locs at hS ⊢
  refine lv_iload_n hx hb dJ0_checkIndex_df160_0 rfl (lv_at hl 0 rfl) ?_
  refine lv_iload_n hx hb dJ0_checkIndex_df160_1 rfl (lv_at hl 1 rfl) ?_
  rcases hst.zf hz with hZ | ⟨t9, hZ⟩
  · refine va_gets (v := .null) hx hb hZ hS hown (ha _ mw978) (fun _ h9 => h9) dJ0_checkIndex_df160_2 ?_
    refine cl_i (Lc := []) (Lc' := []) (L' := []) (rv := p1) (va_runS (As := [.int p1, .int p2, .null]) (rest := []) ⟨hx, hb, hml, hown, ha⟩ (k_J3_checkIndex_n l E p1 p2 h1 h2 H.size) (va_cwS 3 ha (gi_T (fun _ h => h) mw980 pw_st pw_in pw_co) rfl rfl rfl hv_J3_checkIndex_8e157 ⟨(Nat.le_of_ble_eq_true rfl), (Nat.le_of_ble_eq_true rfl)⟩) ⟨pre_blind, pre_at (L := []) hP hD hS hz hzs hst [] (by decide) rfl rfl⟩ rfl rfl hl.1 rfl (lv_room (Nat.le_of_ble_eq_true rfl)) dJ0_checkIndex_df160_5 ⟨(Nat.le_of_ble_eq_true rfl), (Nat.le_of_ble_eq_true rfl)⟩) (L := []) hP hD hS hA [] (by decide) rfl rfl rfl rfl (fun H locs hP hD hS => ?_)
    refine lv_pop hx hb dJ0_checkIndex_df160_8 rfl ?_
    exact en_v (L' := []) hQ (Nat.le_of_ble_eq_true rfl) (Nat.le_of_ble_eq_true rfl) hx hb hr hlocks hP hD hS dJ0_checkIndex_df160_9
  · refine va_gets (v := .ref t9) hx hb hZ hS hown (ha _ mw978) (fun _ h9 => h9) dJ0_checkIndex_df160_2 ?_
    refine cl_i (Lc := []) (Lc' := []) (L' := []) (rv := p1) (va_runS (As := [.int p1, .int p2, .ref t9]) (rest := []) ⟨hx, hb, hml, hown, ha⟩ (k_J3_checkIndex_r l E p1 p2 t9 h1 h2 H.size) (va_cwS 3 ha (gi_T (fun _ h => h) mw980 pw_st pw_in pw_co) rfl rfl rfl hv_J3_checkIndex_8e157 ⟨(Nat.le_of_ble_eq_true rfl), (Nat.le_of_ble_eq_true rfl)⟩) ⟨pre_blind, pre_at (L := []) hP hD hS hz hzs hst [] (by decide) rfl rfl⟩ rfl rfl hl.1 rfl (lv_room (Nat.le_of_ble_eq_true rfl)) dJ0_checkIndex_df160_5 ⟨(Nat.le_of_ble_eq_true rfl), (Nat.le_of_ble_eq_true rfl)⟩) (L := []) hP hD hS hA [] (by decide) rfl rfl rfl rfl (fun H locs hP hD hS => ?_)
    refine lv_pop hx hb dJ0_checkIndex_df160_8 rfl ?_
    exact en_v (L' := []) hQ (Nat.le_of_ble_eq_true rfl) (Nat.le_of_ble_eq_true rfl) hx hb hr hlocks hP hD hS dJ0_checkIndex_df160_9

/-! J1_charAt_3b067_s -/
theorem dJ1_charAt_3b067_0 : decode cJ1_charAt_3b067 0 = .ok (.iload_n 1, 1) := by decide +kernel
theorem dJ1_charAt_3b067_1 : decode cJ1_charAt_3b067 1 = .ok (.aload_n 0, 1) := by decide +kernel
theorem dJ1_charAt_3b067_2 : decode cJ1_charAt_3b067 2 = .ok (.arraylength, 1) := by decide +kernel
theorem dJ1_charAt_3b067_3 : decode cJ1_charAt_3b067 3 = .ok (.invokestatic 9, 3) := by decide +kernel
theorem dJ1_charAt_3b067_6 : decode cJ1_charAt_3b067 6 = .ok (.aload_n 0, 1) := by decide +kernel
theorem dJ1_charAt_3b067_7 : decode cJ1_charAt_3b067 7 = .ok (.iload_n 1, 1) := by decide +kernel
theorem dJ1_charAt_3b067_8 : decode cJ1_charAt_3b067 8 = .ok (.baload, 1) := by decide +kernel
theorem dJ1_charAt_3b067_9 : decode cJ1_charAt_3b067 9 = .ok (.sipush 255, 3) := by decide +kernel
theorem dJ1_charAt_3b067_12 : decode cJ1_charAt_3b067 12 = .ok (.iand, 1) := by decide +kernel
theorem dJ1_charAt_3b067_13 : decode cJ1_charAt_3b067 13 = .ok (.i2c, 1) := by decide +kernel
theorem dJ1_charAt_3b067_14 : decode cJ1_charAt_3b067 14 = .ok (.ireturn, 1) := by decide +kernel
def f_J1_charAt_3b067_s (p1 : Nat) (p2 : Int32) : Option (Int32) :=
  q_gd (p1 < 27) (
  q_bd (f_J0_checkIndex_df160 p2 (q_sl p1)) (fun q2 =>
  q_gd (p1 < 27) (
  q_gd (q_in p2 (q_sn p1)) (
  q_gd ((((((q_sc p1 (p2.toNatClampNeg)) &&& 255).toUInt32 % 65536).toInt32).toUInt32 % 65536).toInt32 = ((((q_sc p1 (p2.toNatClampNeg)) &&& 255).toUInt32 % 65536).toInt32)) (
  some ((((q_sc p1 (p2.toNatClampNeg)) &&& 255).toUInt32 % 65536).toInt32))))))
theorem hv_J1_charAt_3b067_s : yJ1_charAt_3b067.cls = RJ1 ∧ yJ1_charAt_3b067.cls ≠ "java/lang/invoke/MethodHandle" ∧ yJ1_charAt_3b067.cls ≠ "java/lang/invoke/VarHandle" ∧ (parseMethodDescriptor yJ1_charAt_3b067.desc).map (fun d => d.parameters.length) = some 2 := by decide +kernel
abbrev rm_J1_charAt_3b067_s : Room := { frames := 2, cells := 0, slots := 0, locals := 43 }
set_option maxHeartbeats 4000000 in
set_option maxRecDepth 100000 in
theorem k_J1_charAt_3b067_s (l : Launch) (E : ET) (p1 : Nat) (p2 : Int32) (res : Int32) (hF : f_J1_charAt_3b067_s p1 p2 = some res) (sz : Nat) : CtI l yJ1_charAt_3b067 (mws yJ1_charAt_3b067 cJ1_charAt_3b067 2 (some .char)) rm_J1_charAt_3b067_s 0 0 [.ref (E.2 (300 + p1)), .int p2] E ([]) res ([]) sz := by
  refine mk_M (by decide +kernel) (Nat.le_of_ble_eq_true rfl) ?_
  intro p e s m below meth c A args Q ls hAe hsz hQ hx hb hr hml hin ha hown hlocks hA hz hzs hst hP hD hS hl
  have hown : s.vm.findClass RJ1 = some m.cls := hown
  rw [hAe] at hQ
  subst hsz
  have hP : va_P E.1 vwCl (List.flatten []) s.heap := hP
  have hD : va_D A (List.flatten []) := hD
  have hl : lv_has ls 2 [(0, .ref (E.2 (300 + p1))), (1, .int p2)] := hl
  generalize hHe : s.heap = H at hP
  have hS : va_S A s.heap H [] := by rw [← hHe]; exact hS
  generalize ([] : List Loc) = locs at hS ⊢
  unfold f_J1_charAt_3b067_s at hF
  refine lv_iload_n hx hb dJ1_charAt_3b067_0 rfl (lv_at hl 1 rfl) ?_
  refine lv_aload_n hx hb dJ1_charAt_3b067_1 rfl (lv_at hl 0 rfl) ?_
  obtain ⟨g1, hF⟩ := q_gdi hF
  refine vi_slen hx hb hst hz hS g1 dJ1_charAt_3b067_2 ?_
  obtain ⟨q2, hq2, hF⟩ := q_bdi hF
  refine cl_v (Lc := []) (Lc' := []) (L' := []) (va_runS (As := [.int p2, .int (q_sl p1)]) (rest := []) ⟨hx, hb, hml, hown, ha⟩ (k_J0_checkIndex_df160 l E p2 (q_sl p1) q2 hq2 H.size) (va_cwS 2 ha (gi_T (fun _ h => h) mw975 mw976 mw37 mw977) rfl rfl rfl hv_J0_checkIndex_df160.2 ⟨(Nat.le_of_ble_eq_true rfl), (Nat.le_of_ble_eq_true rfl)⟩) ⟨pre_blind, pre_at hP hD hS hz hzs hst [] (by decide) rfl rfl⟩ rfl rfl hl.1 rfl (lv_room (Nat.le_of_ble_eq_true rfl)) dJ1_charAt_3b067_3 ⟨(Nat.le_of_ble_eq_true rfl), (Nat.le_of_ble_eq_true rfl)⟩) hP hD hS hA [] (by decide) rfl rfl rfl rfl (fun H locs hP hD hS => ?_)
  refine lv_aload_n hx hb dJ1_charAt_3b067_6 rfl (lv_at hl 0 rfl) ?_
  refine lv_iload_n hx hb dJ1_charAt_3b067_7 rfl (lv_at hl 1 rfl) ?_
  obtain ⟨g3, hF⟩ := q_gdi hF
  obtain ⟨g4, hF⟩ := q_gdi hF
  refine vi_sbyte hx hb hst hz hS (k := p2.toNatClampNeg) g3 rfl g4 dJ1_charAt_3b067_8 ?_
  refine lv_sipush (v := 255) hx hb dJ1_charAt_3b067_9 (by decide) ?_
  refine lv_iand hx hb dJ1_charAt_3b067_12 ?_
  refine lv_i2c hx hb dJ1_charAt_3b067_13 rfl ?_
  obtain ⟨g5, hF⟩ := q_gdi hF
  obtain rfl := Option.some.inj hF
  exact en_z hQ (Nat.le_of_ble_eq_true rfl) (Nat.le_of_ble_eq_true rfl) hx hb hr hlocks (nz_c g5) hP hD hS rfl dJ1_charAt_3b067_14

/-! J0_charAt_5068e -/
theorem dJ0_charAt_5068e_0 : decode cJ0_charAt_5068e 0 = .ok (.aload_n 0, 1) := by decide +kernel
theorem dJ0_charAt_5068e_1 : decode cJ0_charAt_5068e 1 = .ok (.invokevirtual 492, 3) := by decide +kernel
theorem dJ0_charAt_5068e_4 : decode cJ0_charAt_5068e 4 = .ok (.ifCond .eq 12, 3) := by decide +kernel
theorem dJ0_charAt_5068e_7 : decode cJ0_charAt_5068e 7 = .ok (.aload_n 0, 1) := by decide +kernel
theorem dJ0_charAt_5068e_8 : decode cJ0_charAt_5068e 8 = .ok (.getfield 9, 3) := by decide +kernel
theorem dJ0_charAt_5068e_11 : decode cJ0_charAt_5068e 11 = .ok (.iload_n 1, 1) := by decide +kernel
theorem dJ0_charAt_5068e_12 : decode cJ0_charAt_5068e 12 = .ok (.invokestatic 495, 3) := by decide +kernel
theorem dJ0_charAt_5068e_15 : decode cJ0_charAt_5068e 15 = .ok (.ireturn, 1) := by decide +kernel
def f_J0_charAt_5068e (p0 : Nat) (p1 : Int32) : Option (Int32) :=
  q_gd (p0 < 27) (
  q_bd (f_J0_isLatin1_aae02 p0) (fun q2 =>
  q_br (q2 = 0) (
  none) (
  q_gd (p0 < 27) (
  q_bd (f_J1_charAt_3b067_s p0 p1) (fun q4 =>
  q_gd ((q4.toUInt32 % 65536).toInt32 = q4) (
  some q4))))))
theorem hv_J0_charAt_5068e : yJ0_charAt_5068e.cls = RJ0 ∧ yJ0_charAt_5068e.cls ≠ "java/lang/invoke/MethodHandle" ∧ yJ0_charAt_5068e.cls ≠ "java/lang/invoke/VarHandle" ∧ (parseMethodDescriptor yJ0_charAt_5068e.desc).map (fun d => d.parameters.length) = some 1 := by decide +kernel
abbrev rm_J0_charAt_5068e : Room := { frames := 3, cells := 0, slots := 0, locals := 64 }
set_option maxHeartbeats 4000000 in
set_option maxRecDepth 100000 in
theorem k_J0_charAt_5068e (l : Launch) (E : ET) (p0 : Nat) (p1 : Int32) (res : Int32) (hF : f_J0_charAt_5068e p0 p1 = some res) (sz : Nat) : CtI l yJ0_charAt_5068e (mws yJ0_charAt_5068e cJ0_charAt_5068e 2 (some .char)) rm_J0_charAt_5068e 0 0 [.ref (E.2 (200 + p0)), .int p1] E ([]) res ([]) sz := by
  refine mk_M (by decide +kernel) (Nat.le_of_ble_eq_true rfl) ?_
  intro p e s m below meth c A args Q ls hAe hsz hQ hx hb hr hml hin ha hown hlocks hA hz hzs hst hP hD hS hl
  have hown : s.vm.findClass RJ0 = some m.cls := hown
  rw [hAe] at hQ
  subst hsz
  have hP : va_P E.1 vwCl (List.flatten []) s.heap := hP
  have hD : va_D A (List.flatten []) := hD
  have hl : lv_has ls 2 [(0, .ref (E.2 (200 + p0))), (1, .int p1)] := hl
  generalize hHe : s.heap = H at hP
  have hS : va_S A s.heap H [] := by rw [← hHe]; exact hS
  generalize ([] : List Loc) = locs at hS ⊢
  unfold f_J0_charAt_5068e at hF
  refine lv_aload_n hx hb dJ0_charAt_5068e_0 rfl (lv_at hl 0 rfl) ?_
  obtain ⟨g1, hF⟩ := q_gdi hF
  obtain ⟨q2, hq2, hF⟩ := q_bdi hF
  refine cl_i (Lc := []) (Lc' := []) (L' := []) (rv := q2) (va_runV (As := []) (rest := []) ⟨hx, hb, hml, hown, ha⟩ (k_J0_isLatin1_aae02 l E p0 q2 hq2 H.size) (cwV 0 ha (gi_V (fun _ h => h) mw968 mw969 mw970 mw37 mw971) rfl rfl rfl hv_J0_isLatin1_aae02 ⟨(Nat.le_of_ble_eq_true rfl), (Nat.le_of_ble_eq_true rfl)⟩) ⟨pre_blind, re_st hst hz hS g1, pre_at hP hD hS hz hzs hst [] (by decide) rfl rfl⟩ rfl rfl hl.1 rfl (lv_room (Nat.le_of_ble_eq_true rfl)) dJ0_charAt_5068e_1 ⟨(Nat.le_of_ble_eq_true rfl), (Nat.le_of_ble_eq_true rfl)⟩) hP hD hS hA [] (by decide) rfl rfl rfl rfl (fun H locs hP hD hS => ?_)
  refine lv_if_eq (tgt := 16) hx hb dJ0_charAt_5068e_4 (by decide) (fun c4 => ?_) (fun c4 => ?_)
  · have hF := q_brp c4 hF
    exact absurd hF (by simp)
  · have hF := q_brn c4 hF
    refine lv_aload_n hx hb dJ0_charAt_5068e_7 rfl (lv_at hl 0 rfl) ?_
    obtain ⟨g3, hF⟩ := q_gdi hF
    refine vi_sval hx hb hst hz hS hown (ha _ mw1244) g3 dJ0_charAt_5068e_8 ?_
    refine lv_iload_n hx hb dJ0_charAt_5068e_11 rfl (lv_at hl 1 rfl) ?_
    obtain ⟨q4, hq4, hF⟩ := q_bdi hF
    refine cl_i (Lc := []) (Lc' := []) (L' := []) (rv := q4) (va_runS (As := [.ref (E.2 (300 + p0)), .int p1]) (rest := []) ⟨hx, hb, hml, hown, ha⟩ (k_J1_charAt_3b067_s l E p0 p1 q4 hq4 H.size) (va_cwS 2 ha (gi_T (fun _ h => h) mw972 mw973 mw52 mw974) rfl rfl rfl hv_J1_charAt_3b067_s.2 ⟨(Nat.le_of_ble_eq_true rfl), (Nat.le_of_ble_eq_true rfl)⟩) ⟨pre_blind, pre_at hP hD hS hz hzs hst [] (by decide) rfl rfl⟩ rfl rfl hl.1 rfl (lv_room (Nat.le_of_ble_eq_true rfl)) dJ0_charAt_5068e_12 ⟨(Nat.le_of_ble_eq_true rfl), (Nat.le_of_ble_eq_true rfl)⟩) hP hD hS hA [] (by decide) rfl rfl rfl rfl (fun H locs hP hD hS => ?_)
    obtain ⟨g5, hF⟩ := q_gdi hF
    obtain rfl := Option.some.inj hF
    exact en_z hQ (Nat.le_of_ble_eq_true rfl) (Nat.le_of_ble_eq_true rfl) hx hb hr hlocks (nz_c g5) hP hD hS rfl dJ0_charAt_5068e_15

/-! X8_isFull -/
theorem dX8_isFull_0 : decode cX8_isFull 0 = .ok (.aload_n 0, 1) := by decide +kernel
theorem dX8_isFull_1 : decode cX8_isFull 1 = .ok (.getfield 15, 3) := by decide +kernel
theorem dX8_isFull_4 : decode cX8_isFull 4 = .ok (.bipush 60, 2) := by decide +kernel
theorem dX8_isFull_6 : decode cX8_isFull 6 = .ok (.if_icmp .lt 7, 3) := by decide +kernel
theorem dX8_isFull_9 : decode cX8_isFull 9 = .ok (.iconst 1, 1) := by decide +kernel
theorem dX8_isFull_10 : decode cX8_isFull 10 = .ok (.goto 4, 3) := by decide +kernel
theorem dX8_isFull_13 : decode cX8_isFull 13 = .ok (.iconst 0, 1) := by decide +kernel
theorem dX8_isFull_14 : decode cX8_isFull 14 = .ok (.ireturn, 1) := by decide +kernel
def f_X8_isFull (x_length : Int32) : Option (Int32) :=
  q_br (x_length < 60) (
  some 0) (
  some 1)
theorem hv_X8_isFull : yX8_isFull.cls = RX8 ∧ yX8_isFull.cls ≠ "java/lang/invoke/MethodHandle" ∧ yX8_isFull.cls ≠ "java/lang/invoke/VarHandle" ∧ (parseMethodDescriptor yX8_isFull.desc).map (fun d => d.parameters.length) = some 0 := by decide +kernel
abbrev rm_X8_isFull : Room := { frames := 0, cells := 0, slots := 0, locals := 0 }
set_option maxHeartbeats 4000000 in
set_option maxRecDepth 100000 in
theorem k_X8_isFull (l : Launch) (E : ET) (a : Nat → Nat) (o : Nat) (x : Prog_t) (res : Int32) (hF : f_X8_isFull x.1.2.1 = some res) (sz : Nat) : CtI l yX8_isFull (mws yX8_isFull cX8_isFull 1 (some .boolean)) rm_X8_isFull 0 0 [.ref (a o)] E (bl_Prog E a o x) res (bl_Prog E a o x) sz := by
  refine mk_M (by decide +kernel) (Nat.le_of_ble_eq_true rfl) ?_
  intro p e s m below meth c A args Q ls hAe hsz hQ hx hb hr hml hin ha hown hlocks hA hz hzs hst hP hD hS hl
  have hown : s.vm.findClass RX8 = some m.cls := hown
  rw [hAe] at hQ
  subst hsz
  have hP : va_P E.1 vwCl (List.flatten [w_Prog E a o x]) s.heap := hP
  have hD : va_D A (List.flatten [w_Prog E a o x]) := hD
  have hl : lv_has ls 1 [(0, .ref (a o))] := hl
  generalize hHe : s.heap = H at hP
  have hS : va_S A s.heap H [] := by rw [← hHe]; exact hS
  generalize ([] : List Loc) = locs at hS ⊢
  unfold f_X8_isFull at hF
  refine lv_aload_n hx hb dX8_isFull_0 rfl (lv_at hl 0 rfl) ?_
  refine va_get (D := E.1) (ci := 9) (v := .int x.1.2.1) (C := RX8) (T := TX8) (N := 11) hx hb ha in_X8 hown hst.k hP 0 rfl rfl 1 (by decide) (ha _ mw199) (fun _ h9 => h9) rfl dX8_isFull_1 ?_
  refine lv_bipush (v := 60) hx hb dX8_isFull_4 (by decide) ?_
  refine lv_icmp_lt (tgt := 13) hx hb dX8_isFull_6 (by decide) (fun c6 => ?_) (fun c6 => ?_)
  · have hF := q_brp c6 hF
    refine lv_iconst (v := 0) hx hb dX8_isFull_13 (by decide) ?_
    obtain rfl := Option.some.inj hF
    exact en_z hQ (Nat.le_of_ble_eq_true rfl) (Nat.le_of_ble_eq_true rfl) hx hb hr hlocks (by decide) hP hD hS rfl dX8_isFull_14
  · have hF := q_brn c6 hF
    refine lv_iconst (v := 1) hx hb dX8_isFull_9 (by decide) ?_
    refine lv_goto (tgt := 14) hx hb dX8_isFull_10 (by decide) ?_
    obtain rfl := Option.some.inj hF
    exact en_z hQ (Nat.le_of_ble_eq_true rfl) (Nat.le_of_ble_eq_true rfl) hx hb hr hlocks (by decide) hP hD hS rfl dX8_isFull_14

/-! X8_put -/
theorem dX8_put_0 : decode cX8_put 0 = .ok (.aload_n 0, 1) := by decide +kernel
theorem dX8_put_1 : decode cX8_put 1 = .ok (.invokevirtual 50, 3) := by decide +kernel
theorem dX8_put_4 : decode cX8_put 4 = .ok (.ifCond .ne 23, 3) := by decide +kernel
theorem dX8_put_7 : decode cX8_put 7 = .ok (.aload_n 0, 1) := by decide +kernel
theorem dX8_put_8 : decode cX8_put 8 = .ok (.getfield 11, 3) := by decide +kernel
theorem dX8_put_11 : decode cX8_put 11 = .ok (.aload_n 0, 1) := by decide +kernel
theorem dX8_put_12 : decode cX8_put 12 = .ok (.getfield 15, 3) := by decide +kernel
theorem dX8_put_15 : decode cX8_put 15 = .ok (.iload_n 1, 1) := by decide +kernel
theorem dX8_put_16 : decode cX8_put 16 = .ok (.castore, 1) := by decide +kernel
theorem dX8_put_17 : decode cX8_put 17 = .ok (.aload_n 0, 1) := by decide +kernel
theorem dX8_put_18 : decode cX8_put 18 = .ok (.dup, 1) := by decide +kernel
theorem dX8_put_19 : decode cX8_put 19 = .ok (.getfield 15, 3) := by decide +kernel
theorem dX8_put_22 : decode cX8_put 22 = .ok (.iconst 1, 1) := by decide +kernel
theorem dX8_put_23 : decode cX8_put 23 = .ok (.iadd, 1) := by decide +kernel
theorem dX8_put_24 : decode cX8_put 24 = .ok (.putfield 15, 3) := by decide +kernel
theorem dX8_put_27 : decode cX8_put 27 = .ok (.aload_n 0, 1) := by decide +kernel
theorem dX8_put_28 : decode cX8_put 28 = .ok (.getfield 15, 3) := by decide +kernel
theorem dX8_put_31 : decode cX8_put 31 = .ok (.ireturn, 1) := by decide +kernel
def f_X8_put (x_text : (Nat → Int32)) (x_length : Int32) (p1 : Int32) : Option (Int32 × (Nat → Int32) × Int32) :=
  q_bd (f_X8_isFull x_length) (fun q1 =>
  q_lt (fun (j2 : (Nat → Int32)) (j3 : Int32) =>
  some (j3, j2, j3)) (fun (J27 : (Nat → Int32) → Int32 → Option (Int32 × (Nat → Int32) × Int32)) =>
  q_br (q1 = 0) (
  q_gd (q_in x_length 60) (
  q_lt (upd x_text (x_length.toNatClampNeg) (vp_nar .char p1)) (fun u5 =>
  J27 u5 (x_length + 1)))) (
  J27 x_text x_length)))
theorem hv_X8_put : yX8_put.cls = RX8 ∧ yX8_put.cls ≠ "java/lang/invoke/MethodHandle" ∧ yX8_put.cls ≠ "java/lang/invoke/VarHandle" ∧ (parseMethodDescriptor yX8_put.desc).map (fun d => d.parameters.length) = some 1 := by decide +kernel
abbrev rm_X8_put : Room := { frames := 1, cells := 0, slots := 0, locals := 20 }
set_option maxHeartbeats 4000000 in
set_option maxRecDepth 100000 in
theorem k_X8_put (l : Launch) (E : ET) (a : Nat → Nat) (o : Nat) (x : Prog_t) (p1 : Int32) (res : Int32 × (Nat → Int32) × Int32) (hF : f_X8_put x.1.1 x.1.2.1 p1 = some res) (sz : Nat) : CtI l yX8_put (mws yX8_put cX8_put 2 (some .int)) rm_X8_put 0 0 [.ref (a o), .int p1] E (bl_Prog E a o x) res.1 (bl_Prog E a o ((res.2.1, res.2.2, x.1.2.2.1, x.1.2.2.2), (x.2.1.1, x.2.1.2.1, x.2.1.2.2.1, x.2.1.2.2.2), (x.2.2.1, x.2.2.2.1, x.2.2.2.2))) sz := by
  refine mk_M (by decide +kernel) (Nat.le_of_ble_eq_true rfl) ?_
  intro p e s m below meth c A args Q ls hAe hsz hQ hx hb hr hml hin ha hown hlocks hA hz hzs hst hP hD hS hl
  have hown : s.vm.findClass RX8 = some m.cls := hown
  rw [hAe] at hQ
  subst hsz
  have hP : va_P E.1 vwCl (List.flatten [w_Prog E a o x]) s.heap := hP
  have hD : va_D A (List.flatten [w_Prog E a o x]) := hD
  have hl : lv_has ls 2 [(0, .ref (a o)), (1, .int p1)] := hl
  generalize hHe : s.heap = H at hP
  have hS : va_S A s.heap H [] := by rw [← hHe]; exact hS
  generalize ([] : List Loc) = locs at hS ⊢
  unfold f_X8_put at hF
  refine lv_aload_n hx hb dX8_put_0 rfl (lv_at hl 0 rfl) ?_
  obtain ⟨q1, hq1, hF⟩ := q_bdi hF
  refine cl_i (Lc := [w_Prog E a o x]) (Lc' := [w_Prog E a o x]) (L' := [w_Prog E a o x]) (rv := q1) (va_runV (As := []) (rest := []) ⟨hx, hb, hml, hown, ha⟩ (k_X8_isFull l E a o x q1 hq1 H.size) (cwV 0 ha (gi_V (fun _ h => h) mw1107 mw1099 mw1100 mw33 mw1101) rfl rfl rfl hv_X8_isFull ⟨(Nat.le_of_ble_eq_true rfl), (Nat.le_of_ble_eq_true rfl)⟩) ⟨pre_blind, va_recv hst.k (fr_P hP [0] rfl) (ci := 9) (q0 := 0) rfl rfl, pre_at hP hD hS hz hzs hst [0] (by decide) rfl rfl⟩ rfl rfl hl.1 rfl (lv_room (Nat.le_of_ble_eq_true rfl)) dX8_put_1 ⟨(Nat.le_of_ble_eq_true rfl), (Nat.le_of_ble_eq_true rfl)⟩) hP hD hS hA [0] (by decide) rfl rfl rfl rfl (fun H locs hP hD hS => ?_)
  obtain ⟨J27, hJ27, hF⟩ := q_jn hF
  have jJ27 : ∀ (j2 : (Nat → Int32)) (j3 : Int32), ∀ (H : Heap) (locs : List Loc) (ls : Array Slot), J27 j2 j3 = some res → va_P E.1 vwCl (List.flatten [w_Prog E a o ((j2, j3, x.1.2.2.1, x.1.2.2.2), (x.2.1.1, x.2.1.2.1, x.2.1.2.2.1, x.2.1.2.2.2), (x.2.2.1, x.2.2.2.1, x.2.2.2.2))]) H → va_D A (List.flatten [w_Prog E a o ((j2, j3, x.1.2.2.1, x.1.2.2.2), (x.2.1.1, x.2.1.2.1, x.2.1.2.2.1, x.2.1.2.2.2), (x.2.2.1, x.2.2.2.1, x.2.2.2.2))]) → va_S A s.heap H locs → lv_has ls 2 [(0, .ref (a o))] → W p l e rm_X8_put s m args below meth c H locs 0 0 Q (F0 m 27 ls []) := by
    intro j2 j3 H locs ls hF hP hD hS hl
    rw [hJ27] at hF
    refine lv_aload_n hx hb dX8_put_27 rfl (lv_at hl 0 rfl) ?_
    refine va_get (D := E.1) (ci := 9) (v := .int j3) (C := RX8) (T := TX8) (N := 11) hx hb ha in_X8 hown hst.k hP 0 rfl rfl 1 (by decide) (ha _ mw199) (fun _ h9 => h9) rfl dX8_put_28 ?_
    obtain rfl := Option.some.inj hF
    exact en_i hQ (Nat.le_of_ble_eq_true rfl) (Nat.le_of_ble_eq_true rfl) hx hb hr hlocks hP hD hS rfl dX8_put_31
  refine lv_if_ne (tgt := 27) hx hb dX8_put_4 (by decide) (fun c4 => ?_) (fun c4 => ?_)
  · have hF := q_brn c4 hF
    exact jJ27 x.1.1 x.1.2.1 H locs ls hF hP hD hS (lv_sub hl [0] rfl)
  · have hF := q_brp c4 hF
    refine lv_aload_n hx hb dX8_put_7 rfl (lv_at hl 0 rfl) ?_
    refine va_get (D := E.1) (ci := 9) (v := .ref (a (o + 1))) (C := RX8) (T := TX8) (N := 11) hx hb ha in_X8 hown hst.k hP 0 rfl rfl 0 (by decide) (ha _ mw198) (fun _ h9 => h9) rfl dX8_put_8 ?_
    refine lv_aload_n hx hb dX8_put_11 rfl (lv_at hl 0 rfl) ?_
    refine va_get (D := E.1) (ci := 9) (v := .int x.1.2.1) (C := RX8) (T := TX8) (N := 11) hx hb ha in_X8 hown hst.k hP 0 rfl rfl 1 (by decide) (ha _ mw199) (fun _ h9 => h9) rfl dX8_put_12 ?_
    refine lv_iload_n hx hb dX8_put_15 rfl (lv_at hl 1 rfl) ?_
    obtain ⟨g4, hF⟩ := q_gdi hF
    refine vj_cast hx hb hst.k hP hD hS 1 1 rfl rfl (f := x.1.1) (k := x.1.2.1.toNatClampNeg) rfl g4 dX8_put_16 (fun u5 eu5 H locs hP hD hS => ?_)
    have hF := q_lti eu5 hF
    have hP : va_P E.1 vwCl (List.flatten [w_Prog E a o ((u5, x.1.2.1, x.1.2.2.1, x.1.2.2.2), (x.2.1.1, x.2.1.2.1, x.2.1.2.2.1, x.2.1.2.2.2), (x.2.2.1, x.2.2.2.1, x.2.2.2.2))]) H := hP
    have hD : va_D A (List.flatten [w_Prog E a o ((u5, x.1.2.1, x.1.2.2.1, x.1.2.2.2), (x.2.1.1, x.2.1.2.1, x.2.1.2.2.1, x.2.1.2.2.2), (x.2.2.1, x.2.2.2.1, x.2.2.2.2))]) := hD
    refine lv_aload_n hx hb dX8_put_17 rfl (lv_at hl 0 rfl) ?_
    refine lv_dup hx hb dX8_put_18 rfl ?_
    refine va_get (D := E.1) (ci := 9) (v := .int x.1.2.1) (C := RX8) (T := TX8) (N := 11) hx hb ha in_X8 hown hst.k hP 0 rfl rfl 1 (by decide) (ha _ mw199) (fun _ h9 => h9) rfl dX8_put_19 ?_
    refine lv_iconst (v := 1) hx hb dX8_put_22 (by decide) ?_
    refine lv_iadd hx hb dX8_put_23 ?_
    refine va_put (D := E.1) (ci := 9) (v := .int (x.1.2.1 + 1)) (ty := .int) (C := RX8) (T := TX8) (N := 11) hx hb ha in_X8 tyX8 tyX8_ok nmX8 hown hst.k hP hD hS 0 rfl rfl 1 (by decide) (ha _ mw199) (fun _ h9 => h9) rfl (tyX8_ok 1 (by decide)) rfl rfl (Nat.le_of_ble_eq_true rfl) dX8_put_24 (fun H locs hP hD hS => ?_)
    have hP : va_P E.1 vwCl (List.flatten [w_Prog E a o ((u5, x.1.2.1 + 1, x.1.2.2.1, x.1.2.2.2), (x.2.1.1, x.2.1.2.1, x.2.1.2.2.1, x.2.1.2.2.2), (x.2.2.1, x.2.2.2.1, x.2.2.2.2))]) H := hP
    have hD : va_D A (List.flatten [w_Prog E a o ((u5, x.1.2.1 + 1, x.1.2.2.1, x.1.2.2.2), (x.2.1.1, x.2.1.2.1, x.2.1.2.2.1, x.2.1.2.2.2), (x.2.2.1, x.2.2.2.1, x.2.2.2.2))]) := hD
    exact jJ27 u5 (x.1.2.1 + 1) H locs ls hF hP hD hS (lv_sub hl [0] rfl)

/-! X8_empty -/
theorem dX8_empty_0 : decode cX8_empty 0 = .ok (.aload_n 0, 1) := by decide +kernel
theorem dX8_empty_1 : decode cX8_empty 1 = .ok (.iconst 0, 1) := by decide +kernel
theorem dX8_empty_2 : decode cX8_empty 2 = .ok (.putfield 15, 3) := by decide +kernel
theorem dX8_empty_5 : decode cX8_empty 5 = .ok (.return_, 1) := by decide +kernel
def f_X8_empty (x_length : Int32) : Option (Int32) :=
  some 0
theorem hv_X8_empty : yX8_empty.cls = RX8 ∧ yX8_empty.cls ≠ "java/lang/invoke/MethodHandle" ∧ yX8_empty.cls ≠ "java/lang/invoke/VarHandle" ∧ (parseMethodDescriptor yX8_empty.desc).map (fun d => d.parameters.length) = some 0 := by decide +kernel
abbrev rm_X8_empty : Room := { frames := 0, cells := 0, slots := 0, locals := 0 }
set_option maxHeartbeats 4000000 in
set_option maxRecDepth 100000 in
theorem k_X8_empty (l : Launch) (E : ET) (a : Nat → Nat) (o : Nat) (x : Prog_t) (res : Int32) (hF : f_X8_empty x.1.2.1 = some res) (sz : Nat) : CtV l yX8_empty (mws yX8_empty cX8_empty 1 none) rm_X8_empty 0 0 [.ref (a o)] E (bl_Prog E a o x) (bl_Prog E a o ((x.1.1, res, x.1.2.2.1, x.1.2.2.2), (x.2.1.1, x.2.1.2.1, x.2.1.2.2.1, x.2.1.2.2.2), (x.2.2.1, x.2.2.2.1, x.2.2.2.2))) sz := by
  refine mk_M (by decide +kernel) (Nat.le_of_ble_eq_true rfl) ?_
  intro p e s m below meth c A args Q ls hAe hsz hQ hx hb hr hml hin ha hown hlocks hA hz hzs hst hP hD hS hl
  have hown : s.vm.findClass RX8 = some m.cls := hown
  rw [hAe] at hQ
  subst hsz
  have hP : va_P E.1 vwCl (List.flatten [w_Prog E a o x]) s.heap := hP
  have hD : va_D A (List.flatten [w_Prog E a o x]) := hD
  have hl : lv_has ls 1 [(0, .ref (a o))] := hl
  generalize hHe : s.heap = H at hP
  have hS : va_S A s.heap H [] := by rw [← hHe]; exact hS
  generalize ([] : List Loc) = locs at hS ⊢
  unfold f_X8_empty at hF
  refine lv_aload_n hx hb dX8_empty_0 rfl (lv_at hl 0 rfl) ?_
  refine lv_iconst (v := 0) hx hb dX8_empty_1 (by decide) ?_
  refine va_put (D := E.1) (ci := 9) (v := .int 0) (ty := .int) (C := RX8) (T := TX8) (N := 11) hx hb ha in_X8 tyX8 tyX8_ok nmX8 hown hst.k hP hD hS 0 rfl rfl 1 (by decide) (ha _ mw199) (fun _ h9 => h9) rfl (tyX8_ok 1 (by decide)) rfl rfl (Nat.le_of_ble_eq_true rfl) dX8_empty_2 (fun H locs hP hD hS => ?_)
  have hP : va_P E.1 vwCl (List.flatten [w_Prog E a o ((x.1.1, 0, x.1.2.2.1, x.1.2.2.2), (x.2.1.1, x.2.1.2.1, x.2.1.2.2.1, x.2.1.2.2.2), (x.2.2.1, x.2.2.2.1, x.2.2.2.2))]) H := hP
  have hD : va_D A (List.flatten [w_Prog E a o ((x.1.1, 0, x.1.2.2.1, x.1.2.2.2), (x.2.1.1, x.2.1.2.1, x.2.1.2.2.1, x.2.1.2.2.2), (x.2.2.1, x.2.2.2.1, x.2.2.2.2))]) := hD
  obtain rfl := Option.some.inj hF
  exact en_v hQ (Nat.le_of_ble_eq_true rfl) (Nat.le_of_ble_eq_true rfl) hx hb hr hlocks hP hD hS dX8_empty_5

/-! X8_isNext -/
theorem dX8_isNext_0 : decode cX8_isNext 0 = .ok (.aload_n 0, 1) := by decide +kernel
theorem dX8_isNext_1 : decode cX8_isNext 1 = .ok (.getfield 44, 3) := by decide +kernel
theorem dX8_isNext_4 : decode cX8_isNext 4 = .ok (.aload_n 0, 1) := by decide +kernel
theorem dX8_isNext_5 : decode cX8_isNext 5 = .ok (.getfield 15, 3) := by decide +kernel
theorem dX8_isNext_8 : decode cX8_isNext 8 = .ok (.if_icmp .ge 20, 3) := by decide +kernel
theorem dX8_isNext_11 : decode cX8_isNext 11 = .ok (.aload_n 0, 1) := by decide +kernel
theorem dX8_isNext_12 : decode cX8_isNext 12 = .ok (.getfield 11, 3) := by decide +kernel
theorem dX8_isNext_15 : decode cX8_isNext 15 = .ok (.aload_n 0, 1) := by decide +kernel
theorem dX8_isNext_16 : decode cX8_isNext 16 = .ok (.getfield 44, 3) := by decide +kernel
theorem dX8_isNext_19 : decode cX8_isNext 19 = .ok (.caload, 1) := by decide +kernel
theorem dX8_isNext_20 : decode cX8_isNext 20 = .ok (.iload_n 1, 1) := by decide +kernel
theorem dX8_isNext_21 : decode cX8_isNext 21 = .ok (.if_icmp .ne 7, 3) := by decide +kernel
theorem dX8_isNext_24 : decode cX8_isNext 24 = .ok (.iconst 1, 1) := by decide +kernel
theorem dX8_isNext_25 : decode cX8_isNext 25 = .ok (.goto 4, 3) := by decide +kernel
theorem dX8_isNext_28 : decode cX8_isNext 28 = .ok (.iconst 0, 1) := by decide +kernel
theorem dX8_isNext_29 : decode cX8_isNext 29 = .ok (.ireturn, 1) := by decide +kernel
def f_X8_isNext (x_text : (Nat → Int32)) (x_length : Int32) (x_at : Int32) (p1 : Int32) : Option (Int32) :=
  q_br (x_length ≤ x_at) (
  some 0) (
  q_gd (q_in x_at 60) (
  q_br ((x_text (x_at.toNatClampNeg)) = p1) (
  some 1) (
  some 0)))
theorem hv_X8_isNext : yX8_isNext.cls = RX8 ∧ yX8_isNext.cls ≠ "java/lang/invoke/MethodHandle" ∧ yX8_isNext.cls ≠ "java/lang/invoke/VarHandle" ∧ (parseMethodDescriptor yX8_isNext.desc).map (fun d => d.parameters.length) = some 1 := by decide +kernel
abbrev rm_X8_isNext : Room := { frames := 0, cells := 0, slots := 0, locals := 0 }
set_option maxHeartbeats 4000000 in
set_option maxRecDepth 100000 in
theorem k_X8_isNext (l : Launch) (E : ET) (a : Nat → Nat) (o : Nat) (x : Prog_t) (p1 : Int32) (res : Int32) (hF : f_X8_isNext x.1.1 x.1.2.1 x.2.2.2.1 p1 = some res) (sz : Nat) : CtI l yX8_isNext (mws yX8_isNext cX8_isNext 2 (some .boolean)) rm_X8_isNext 0 0 [.ref (a o), .int p1] E (bl_Prog E a o x) res (bl_Prog E a o x) sz := by
  refine mk_M (by decide +kernel) (Nat.le_of_ble_eq_true rfl) ?_
  intro p e s m below meth c A args Q ls hAe hsz hQ hx hb hr hml hin ha hown hlocks hA hz hzs hst hP hD hS hl
  have hown : s.vm.findClass RX8 = some m.cls := hown
  rw [hAe] at hQ
  subst hsz
  have hP : va_P E.1 vwCl (List.flatten [w_Prog E a o x]) s.heap := hP
  have hD : va_D A (List.flatten [w_Prog E a o x]) := hD
  have hl : lv_has ls 2 [(0, .ref (a o)), (1, .int p1)] := hl
  generalize hHe : s.heap = H at hP
  have hS : va_S A s.heap H [] := by rw [← hHe]; exact hS
  generalize ([] : List Loc) = locs at hS ⊢
  unfold f_X8_isNext at hF
  refine lv_aload_n hx hb dX8_isNext_0 rfl (lv_at hl 0 rfl) ?_
  refine va_get (D := E.1) (ci := 9) (v := .int x.2.2.2.1) (C := RX8) (T := TX8) (N := 11) hx hb ha in_X8 hown hst.k hP 0 rfl rfl 9 (by decide) (ha _ mw208) (fun _ h9 => h9) rfl dX8_isNext_1 ?_
  refine lv_aload_n hx hb dX8_isNext_4 rfl (lv_at hl 0 rfl) ?_
  refine va_get (D := E.1) (ci := 9) (v := .int x.1.2.1) (C := RX8) (T := TX8) (N := 11) hx hb ha in_X8 hown hst.k hP 0 rfl rfl 1 (by decide) (ha _ mw199) (fun _ h9 => h9) rfl dX8_isNext_5 ?_
  refine lv_icmp_ge (tgt := 28) hx hb dX8_isNext_8 (by decide) (fun c8 => ?_) (fun c8 => ?_)
  · have hF := q_brp c8 hF
    refine lv_iconst (v := 0) hx hb dX8_isNext_28 (by decide) ?_
    obtain rfl := Option.some.inj hF
    exact en_z hQ (Nat.le_of_ble_eq_true rfl) (Nat.le_of_ble_eq_true rfl) hx hb hr hlocks (by decide) hP hD hS rfl dX8_isNext_29
  · have hF := q_brn c8 hF
    refine lv_aload_n hx hb dX8_isNext_11 rfl (lv_at hl 0 rfl) ?_
    refine va_get (D := E.1) (ci := 9) (v := .ref (a (o + 1))) (C := RX8) (T := TX8) (N := 11) hx hb ha in_X8 hown hst.k hP 0 rfl rfl 0 (by decide) (ha _ mw198) (fun _ h9 => h9) rfl dX8_isNext_12 ?_
    refine lv_aload_n hx hb dX8_isNext_15 rfl (lv_at hl 0 rfl) ?_
    refine va_get (D := E.1) (ci := 9) (v := .int x.2.2.2.1) (C := RX8) (T := TX8) (N := 11) hx hb ha in_X8 hown hst.k hP 0 rfl rfl 9 (by decide) (ha _ mw208) (fun _ h9 => h9) rfl dX8_isNext_16 ?_
    obtain ⟨g1, hF⟩ := q_gdi hF
    refine vi_cald hx hb hst.k hP 1 1 rfl rfl (f := x.1.1) (k := x.2.2.2.1.toNatClampNeg) rfl g1 dX8_isNext_19 ?_
    refine lv_iload_n hx hb dX8_isNext_20 rfl (lv_at hl 1 rfl) ?_
    refine lv_icmp_ne (tgt := 28) hx hb dX8_isNext_21 (by decide) (fun c21 => ?_) (fun c21 => ?_)
    · have hF := q_brn c21 hF
      refine lv_iconst (v := 0) hx hb dX8_isNext_28 (by decide) ?_
      obtain rfl := Option.some.inj hF
      exact en_z hQ (Nat.le_of_ble_eq_true rfl) (Nat.le_of_ble_eq_true rfl) hx hb hr hlocks (by decide) hP hD hS rfl dX8_isNext_29
    · have hF := q_brp c21 hF
      refine lv_iconst (v := 1) hx hb dX8_isNext_24 (by decide) ?_
      refine lv_goto (tgt := 29) hx hb dX8_isNext_25 (by decide) ?_
      obtain rfl := Option.some.inj hF
      exact en_z hQ (Nat.le_of_ble_eq_true rfl) (Nat.le_of_ble_eq_true rfl) hx hb hr hlocks (by decide) hP hD hS rfl dX8_isNext_29

/-! X8_readLetter -/
theorem dX8_readLetter_0 : decode cX8_readLetter 0 = .ok (.aload_n 0, 1) := by decide +kernel
theorem dX8_readLetter_1 : decode cX8_readLetter 1 = .ok (.iload_n 1, 1) := by decide +kernel
theorem dX8_readLetter_2 : decode cX8_readLetter 2 = .ok (.invokevirtual 57, 3) := by decide +kernel
theorem dX8_readLetter_5 : decode cX8_readLetter 5 = .ok (.ifCond .ne 5, 3) := by decide +kernel
theorem dX8_readLetter_8 : decode cX8_readLetter 8 = .ok (.iconst 0, 1) := by decide +kernel
theorem dX8_readLetter_9 : decode cX8_readLetter 9 = .ok (.ireturn, 1) := by decide +kernel
theorem dX8_readLetter_10 : decode cX8_readLetter 10 = .ok (.aload_n 0, 1) := by decide +kernel
theorem dX8_readLetter_11 : decode cX8_readLetter 11 = .ok (.dup, 1) := by decide +kernel
theorem dX8_readLetter_12 : decode cX8_readLetter 12 = .ok (.getfield 44, 3) := by decide +kernel
theorem dX8_readLetter_15 : decode cX8_readLetter 15 = .ok (.iconst 1, 1) := by decide +kernel
theorem dX8_readLetter_16 : decode cX8_readLetter 16 = .ok (.iadd, 1) := by decide +kernel
theorem dX8_readLetter_17 : decode cX8_readLetter 17 = .ok (.putfield 44, 3) := by decide +kernel
theorem dX8_readLetter_20 : decode cX8_readLetter 20 = .ok (.iconst 1, 1) := by decide +kernel
theorem dX8_readLetter_21 : decode cX8_readLetter 21 = .ok (.ireturn, 1) := by decide +kernel
def f_X8_readLetter (x_text : (Nat → Int32)) (x_length : Int32) (x_at : Int32) (p1 : Int32) : Option (Int32 × Int32) :=
  q_bd (f_X8_isNext x_text x_length x_at p1) (fun q1 =>
  q_br (q1 = 0) (
  some (0, x_at)) (
  some (1, x_at + 1)))
theorem hv_X8_readLetter : yX8_readLetter.cls = RX8 ∧ yX8_readLetter.cls ≠ "java/lang/invoke/MethodHandle" ∧ yX8_readLetter.cls ≠ "java/lang/invoke/VarHandle" ∧ (parseMethodDescriptor yX8_readLetter.desc).map (fun d => d.parameters.length) = some 1 := by decide +kernel
abbrev rm_X8_readLetter : Room := { frames := 1, cells := 0, slots := 0, locals := 21 }
set_option maxHeartbeats 4000000 in
set_option maxRecDepth 100000 in
theorem k_X8_readLetter (l : Launch) (E : ET) (a : Nat → Nat) (o : Nat) (x : Prog_t) (p1 : Int32) (res : Int32 × Int32) (hF : f_X8_readLetter x.1.1 x.1.2.1 x.2.2.2.1 p1 = some res) (sz : Nat) : CtI l yX8_readLetter (mws yX8_readLetter cX8_readLetter 2 (some .boolean)) rm_X8_readLetter 0 0 [.ref (a o), .int p1] E (bl_Prog E a o x) res.1 (bl_Prog E a o ((x.1.1, x.1.2.1, x.1.2.2.1, x.1.2.2.2), (x.2.1.1, x.2.1.2.1, x.2.1.2.2.1, x.2.1.2.2.2), (x.2.2.1, res.2, x.2.2.2.2))) sz := by
  refine mk_M (by decide +kernel) (Nat.le_of_ble_eq_true rfl) ?_
  intro p e s m below meth c A args Q ls hAe hsz hQ hx hb hr hml hin ha hown hlocks hA hz hzs hst hP hD hS hl
  have hown : s.vm.findClass RX8 = some m.cls := hown
  rw [hAe] at hQ
  subst hsz
  have hP : va_P E.1 vwCl (List.flatten [w_Prog E a o x]) s.heap := hP
  have hD : va_D A (List.flatten [w_Prog E a o x]) := hD
  have hl : lv_has ls 2 [(0, .ref (a o)), (1, .int p1)] := hl
  generalize hHe : s.heap = H at hP
  have hS : va_S A s.heap H [] := by rw [← hHe]; exact hS
  generalize ([] : List Loc) = locs at hS ⊢
  unfold f_X8_readLetter at hF
  refine lv_aload_n hx hb dX8_readLetter_0 rfl (lv_at hl 0 rfl) ?_
  refine lv_iload_n hx hb dX8_readLetter_1 rfl (lv_at hl 1 rfl) ?_
  obtain ⟨q1, hq1, hF⟩ := q_bdi hF
  refine cl_i (Lc := [w_Prog E a o x]) (Lc' := [w_Prog E a o x]) (L' := [w_Prog E a o x]) (rv := q1) (va_runV (As := [.int p1]) (rest := []) ⟨hx, hb, hml, hown, ha⟩ (k_X8_isNext l E a o x p1 q1 hq1 H.size) (cwV 1 ha (gi_V (fun _ h => h) mw1019 mw1021 mw22 mw33 mw1022) rfl rfl rfl hv_X8_isNext ⟨(Nat.le_of_ble_eq_true rfl), (Nat.le_of_ble_eq_true rfl)⟩) ⟨pre_blind, va_recv hst.k (fr_P hP [0] rfl) (ci := 9) (q0 := 0) rfl rfl, pre_at hP hD hS hz hzs hst [0] (by decide) rfl rfl⟩ rfl rfl hl.1 rfl (lv_room (Nat.le_of_ble_eq_true rfl)) dX8_readLetter_2 ⟨(Nat.le_of_ble_eq_true rfl), (Nat.le_of_ble_eq_true rfl)⟩) hP hD hS hA [0] (by decide) rfl rfl rfl rfl (fun H locs hP hD hS => ?_)
  refine lv_if_ne (tgt := 10) hx hb dX8_readLetter_5 (by decide) (fun c5 => ?_) (fun c5 => ?_)
  · have hF := q_brn c5 hF
    refine lv_aload_n hx hb dX8_readLetter_10 rfl (lv_at hl 0 rfl) ?_
    refine lv_dup hx hb dX8_readLetter_11 rfl ?_
    refine va_get (D := E.1) (ci := 9) (v := .int x.2.2.2.1) (C := RX8) (T := TX8) (N := 11) hx hb ha in_X8 hown hst.k hP 0 rfl rfl 9 (by decide) (ha _ mw208) (fun _ h9 => h9) rfl dX8_readLetter_12 ?_
    refine lv_iconst (v := 1) hx hb dX8_readLetter_15 (by decide) ?_
    refine lv_iadd hx hb dX8_readLetter_16 ?_
    refine va_put (D := E.1) (ci := 9) (v := .int (x.2.2.2.1 + 1)) (ty := .int) (C := RX8) (T := TX8) (N := 11) hx hb ha in_X8 tyX8 tyX8_ok nmX8 hown hst.k hP hD hS 0 rfl rfl 9 (by decide) (ha _ mw208) (fun _ h9 => h9) rfl (tyX8_ok 9 (by decide)) rfl rfl (Nat.le_of_ble_eq_true rfl) dX8_readLetter_17 (fun H locs hP hD hS => ?_)
    have hP : va_P E.1 vwCl (List.flatten [w_Prog E a o ((x.1.1, x.1.2.1, x.1.2.2.1, x.1.2.2.2), (x.2.1.1, x.2.1.2.1, x.2.1.2.2.1, x.2.1.2.2.2), (x.2.2.1, x.2.2.2.1 + 1, x.2.2.2.2))]) H := hP
    have hD : va_D A (List.flatten [w_Prog E a o ((x.1.1, x.1.2.1, x.1.2.2.1, x.1.2.2.2), (x.2.1.1, x.2.1.2.1, x.2.1.2.2.1, x.2.1.2.2.2), (x.2.2.1, x.2.2.2.1 + 1, x.2.2.2.2))]) := hD
    refine lv_iconst (v := 1) hx hb dX8_readLetter_20 (by decide) ?_
    obtain rfl := Option.some.inj hF
    exact en_z hQ (Nat.le_of_ble_eq_true rfl) (Nat.le_of_ble_eq_true rfl) hx hb hr hlocks (by decide) hP hD hS rfl dX8_readLetter_21
  · have hF := q_brp c5 hF
    refine lv_iconst (v := 0) hx hb dX8_readLetter_8 (by decide) ?_
    obtain rfl := Option.some.inj hF
    exact en_z hQ (Nat.le_of_ble_eq_true rfl) (Nat.le_of_ble_eq_true rfl) hx hb hr hlocks (by decide) hP hD hS rfl dX8_readLetter_9

/-! X8_readArgument -/
theorem dX8_readArgument_0 : decode cX8_readArgument 0 = .ok (.aload_n 0, 1) := by decide +kernel
theorem dX8_readArgument_1 : decode cX8_readArgument 1 = .ok (.iload_n 1, 1) := by decide +kernel
theorem dX8_readArgument_2 : decode cX8_readArgument 2 = .ok (.invokevirtual 101, 3) := by decide +kernel
theorem dX8_readArgument_5 : decode cX8_readArgument 5 = .ok (.ifCond .ne 5, 3) := by decide +kernel
theorem dX8_readArgument_8 : decode cX8_readArgument 8 = .ok (.iconst 0, 1) := by decide +kernel
theorem dX8_readArgument_9 : decode cX8_readArgument 9 = .ok (.ireturn, 1) := by decide +kernel
theorem dX8_readArgument_10 : decode cX8_readArgument 10 = .ok (.aload_n 0, 1) := by decide +kernel
theorem dX8_readArgument_11 : decode cX8_readArgument 11 = .ok (.dup, 1) := by decide +kernel
theorem dX8_readArgument_12 : decode cX8_readArgument 12 = .ok (.getfield 38, 3) := by decide +kernel
theorem dX8_readArgument_15 : decode cX8_readArgument 15 = .ok (.iconst 1, 1) := by decide +kernel
theorem dX8_readArgument_16 : decode cX8_readArgument 16 = .ok (.iadd, 1) := by decide +kernel
theorem dX8_readArgument_17 : decode cX8_readArgument 17 = .ok (.putfield 38, 3) := by decide +kernel
theorem dX8_readArgument_20 : decode cX8_readArgument 20 = .ok (.aload_n 0, 1) := by decide +kernel
theorem dX8_readArgument_21 : decode cX8_readArgument 21 = .ok (.iload_n 2, 1) := by decide +kernel
theorem dX8_readArgument_22 : decode cX8_readArgument 22 = .ok (.putfield 41, 3) := by decide +kernel
theorem dX8_readArgument_25 : decode cX8_readArgument 25 = .ok (.aload_n 0, 1) := by decide +kernel
theorem dX8_readArgument_26 : decode cX8_readArgument 26 = .ok (.getfield 38, 3) := by decide +kernel
theorem dX8_readArgument_29 : decode cX8_readArgument 29 = .ok (.aload_n 0, 1) := by decide +kernel
theorem dX8_readArgument_30 : decode cX8_readArgument 30 = .ok (.getfield 35, 3) := by decide +kernel
theorem dX8_readArgument_33 : decode cX8_readArgument 33 = .ok (.arraylength, 1) := by decide +kernel
theorem dX8_readArgument_34 : decode cX8_readArgument 34 = .ok (.if_icmp .ge 13, 3) := by decide +kernel
theorem dX8_readArgument_37 : decode cX8_readArgument 37 = .ok (.aload_n 0, 1) := by decide +kernel
theorem dX8_readArgument_38 : decode cX8_readArgument 38 = .ok (.getfield 35, 3) := by decide +kernel
theorem dX8_readArgument_41 : decode cX8_readArgument 41 = .ok (.aload_n 0, 1) := by decide +kernel
theorem dX8_readArgument_42 : decode cX8_readArgument 42 = .ok (.getfield 38, 3) := by decide +kernel
theorem dX8_readArgument_45 : decode cX8_readArgument 45 = .ok (.iload_n 3, 1) := by decide +kernel
theorem dX8_readArgument_46 : decode cX8_readArgument 46 = .ok (.iastore, 1) := by decide +kernel
theorem dX8_readArgument_47 : decode cX8_readArgument 47 = .ok (.iconst 1, 1) := by decide +kernel
theorem dX8_readArgument_48 : decode cX8_readArgument 48 = .ok (.ireturn, 1) := by decide +kernel
def f_X8_readArgument (x_text : (Nat → Int32)) (x_length : Int32) (x_values : (Nat → Int32)) (x_argument : Int32) (x_sign : Int32) (x_at : Int32) (p1 : Int32) (p2 : Int32) (p3 : Int32) : Option (Int32 × (Nat → Int32) × Int32 × Int32 × Int32) :=
  q_bd (f_X8_readLetter x_text x_length x_at p1) (fun q1 =>
  q_br (q1.1 = 0) (
  some (0, x_values, x_argument, x_sign, q1.2)) (
  q_br (2 ≤ (x_argument + 1)) (
  some (1, x_values, x_argument + 1, p2, q1.2)) (
  q_gd (q_in (x_argument + 1) 2) (
  q_lt (upd x_values ((x_argument + 1).toNatClampNeg) p3) (fun u3 =>
  some (1, u3, x_argument + 1, p2, q1.2))))))
theorem hv_X8_readArgument : yX8_readArgument.cls = RX8 ∧ yX8_readArgument.cls ≠ "java/lang/invoke/MethodHandle" ∧ yX8_readArgument.cls ≠ "java/lang/invoke/VarHandle" ∧ (parseMethodDescriptor yX8_readArgument.desc).map (fun d => d.parameters.length) = some 3 := by decide +kernel
abbrev rm_X8_readArgument : Room := { frames := 2, cells := 0, slots := 0, locals := 42 }
set_option maxHeartbeats 4000000 in
set_option maxRecDepth 100000 in
theorem k_X8_readArgument (l : Launch) (E : ET) (a : Nat → Nat) (o : Nat) (x : Prog_t) (p1 : Int32) (p2 : Int32) (p3 : Int32) (res : Int32 × (Nat → Int32) × Int32 × Int32 × Int32) (hF : f_X8_readArgument x.1.1 x.1.2.1 x.2.1.2.2.1 x.2.1.2.2.2 x.2.2.1 x.2.2.2.1 p1 p2 p3 = some res) (sz : Nat) : CtI l yX8_readArgument (mws yX8_readArgument cX8_readArgument 4 (some .boolean)) rm_X8_readArgument 0 0 [.ref (a o), .int p1, .int p2, .int p3] E (bl_Prog E a o x) res.1 (bl_Prog E a o ((x.1.1, x.1.2.1, x.1.2.2.1, x.1.2.2.2), (x.2.1.1, x.2.1.2.1, res.2.1, res.2.2.1), (res.2.2.2.1, res.2.2.2.2, x.2.2.2.2))) sz := by
  refine mk_M (by decide +kernel) (Nat.le_of_ble_eq_true rfl) ?_
  intro p e s m below meth c A args Q ls hAe hsz hQ hx hb hr hml hin ha hown hlocks hA hz hzs hst hP hD hS hl
  have hown : s.vm.findClass RX8 = some m.cls := hown
  rw [hAe] at hQ
  subst hsz
  have hP : va_P E.1 vwCl (List.flatten [w_Prog E a o x]) s.heap := hP
  have hD : va_D A (List.flatten [w_Prog E a o x]) := hD
  have hl : lv_has ls 4 [(0, .ref (a o)), (1, .int p1), (2, .int p2), (3, .int p3)] := hl
  generalize hHe : s.heap = H at hP
  have hS : va_S A s.heap H [] := by rw [← hHe]; exact hS
  generalize ([] : List Loc) = locs at hS ⊢
  unfold f_X8_readArgument at hF
  refine lv_aload_n hx hb dX8_readArgument_0 rfl (lv_at hl 0 rfl) ?_
  refine lv_iload_n hx hb dX8_readArgument_1 rfl (lv_at hl 1 rfl) ?_
  obtain ⟨q1, hq1, hF⟩ := q_bdi hF
  refine cl_i (Lc := [w_Prog E a o x]) (Lc' := [w_Prog E a o ((x.1.1, x.1.2.1, x.1.2.2.1, x.1.2.2.2), (x.2.1.1, x.2.1.2.1, x.2.1.2.2.1, x.2.1.2.2.2), (x.2.2.1, q1.2, x.2.2.2.2))]) (L' := [w_Prog E a o ((x.1.1, x.1.2.1, x.1.2.2.1, x.1.2.2.2), (x.2.1.1, x.2.1.2.1, x.2.1.2.2.1, x.2.1.2.2.2), (x.2.2.1, q1.2, x.2.2.2.2))]) (rv := q1.1) (va_runV (As := [.int p1]) (rest := []) ⟨hx, hb, hml, hown, ha⟩ (k_X8_readLetter l E a o x p1 q1 hq1 H.size) (cwV 1 ha (gi_V (fun _ h => h) mw1015 mw1017 mw21 mw33 mw1018) rfl rfl rfl hv_X8_readLetter ⟨(Nat.le_of_ble_eq_true rfl), (Nat.le_of_ble_eq_true rfl)⟩) ⟨pre_blind, va_recv hst.k (fr_P hP [0] rfl) (ci := 9) (q0 := 0) rfl rfl, pre_at hP hD hS hz hzs hst [0] (by decide) rfl rfl⟩ rfl rfl hl.1 rfl (lv_room (Nat.le_of_ble_eq_true rfl)) dX8_readArgument_2 ⟨(Nat.le_of_ble_eq_true rfl), (Nat.le_of_ble_eq_true rfl)⟩) hP hD hS hA [0] (by decide) rfl rfl rfl rfl (fun H locs hP hD hS => ?_)
  refine lv_if_ne (tgt := 10) hx hb dX8_readArgument_5 (by decide) (fun c5 => ?_) (fun c5 => ?_)
  · have hF := q_brn c5 hF
    refine lv_aload_n hx hb dX8_readArgument_10 rfl (lv_at hl 0 rfl) ?_
    refine lv_dup hx hb dX8_readArgument_11 rfl ?_
    refine va_get (D := E.1) (ci := 9) (v := .int x.2.1.2.2.2) (C := RX8) (T := TX8) (N := 11) hx hb ha in_X8 hown hst.k hP 0 rfl rfl 7 (by decide) (ha _ mw206) (fun _ h9 => h9) rfl dX8_readArgument_12 ?_
    refine lv_iconst (v := 1) hx hb dX8_readArgument_15 (by decide) ?_
    refine lv_iadd hx hb dX8_readArgument_16 ?_
    refine va_put (D := E.1) (ci := 9) (v := .int (x.2.1.2.2.2 + 1)) (ty := .int) (C := RX8) (T := TX8) (N := 11) hx hb ha in_X8 tyX8 tyX8_ok nmX8 hown hst.k hP hD hS 0 rfl rfl 7 (by decide) (ha _ mw206) (fun _ h9 => h9) rfl (tyX8_ok 7 (by decide)) rfl rfl (Nat.le_of_ble_eq_true rfl) dX8_readArgument_17 (fun H locs hP hD hS => ?_)
    have hP : va_P E.1 vwCl (List.flatten [w_Prog E a o ((x.1.1, x.1.2.1, x.1.2.2.1, x.1.2.2.2), (x.2.1.1, x.2.1.2.1, x.2.1.2.2.1, x.2.1.2.2.2 + 1), (x.2.2.1, q1.2, x.2.2.2.2))]) H := hP
    have hD : va_D A (List.flatten [w_Prog E a o ((x.1.1, x.1.2.1, x.1.2.2.1, x.1.2.2.2), (x.2.1.1, x.2.1.2.1, x.2.1.2.2.1, x.2.1.2.2.2 + 1), (x.2.2.1, q1.2, x.2.2.2.2))]) := hD
    refine lv_aload_n hx hb dX8_readArgument_20 rfl (lv_at hl 0 rfl) ?_
    refine lv_iload_n hx hb dX8_readArgument_21 rfl (lv_at hl 2 rfl) ?_
    refine va_put (D := E.1) (ci := 9) (v := .int p2) (ty := .int) (C := RX8) (T := TX8) (N := 11) hx hb ha in_X8 tyX8 tyX8_ok nmX8 hown hst.k hP hD hS 0 rfl rfl 8 (by decide) (ha _ mw207) (fun _ h9 => h9) rfl (tyX8_ok 8 (by decide)) rfl rfl (Nat.le_of_ble_eq_true rfl) dX8_readArgument_22 (fun H locs hP hD hS => ?_)
    have hP : va_P E.1 vwCl (List.flatten [w_Prog E a o ((x.1.1, x.1.2.1, x.1.2.2.1, x.1.2.2.2), (x.2.1.1, x.2.1.2.1, x.2.1.2.2.1, x.2.1.2.2.2 + 1), (p2, q1.2, x.2.2.2.2))]) H := hP
    have hD : va_D A (List.flatten [w_Prog E a o ((x.1.1, x.1.2.1, x.1.2.2.1, x.1.2.2.2), (x.2.1.1, x.2.1.2.1, x.2.1.2.2.1, x.2.1.2.2.2 + 1), (p2, q1.2, x.2.2.2.2))]) := hD
    refine lv_aload_n hx hb dX8_readArgument_25 rfl (lv_at hl 0 rfl) ?_
    refine va_get (D := E.1) (ci := 9) (v := .int (x.2.1.2.2.2 + 1)) (C := RX8) (T := TX8) (N := 11) hx hb ha in_X8 hown hst.k hP 0 rfl rfl 7 (by decide) (ha _ mw206) (fun _ h9 => h9) rfl dX8_readArgument_26 ?_
    refine lv_aload_n hx hb dX8_readArgument_29 rfl (lv_at hl 0 rfl) ?_
    refine va_get (D := E.1) (ci := 9) (v := .ref (a (o + 5))) (C := RX8) (T := TX8) (N := 11) hx hb ha in_X8 hown hst.k hP 0 rfl rfl 6 (by decide) (ha _ mw205) (fun _ h9 => h9) rfl dX8_readArgument_30 ?_
    refine va_alen (v := 2) hx hb hst.k hP 5 0 rfl rfl rfl dX8_readArgument_33 ?_
    refine lv_icmp_ge (tgt := 47) hx hb dX8_readArgument_34 (by decide) (fun c34 => ?_) (fun c34 => ?_)
    · have hF := q_brp c34 hF
      refine lv_iconst (v := 1) hx hb dX8_readArgument_47 (by decide) ?_
      obtain rfl := Option.some.inj hF
      exact en_z hQ (Nat.le_of_ble_eq_true rfl) (Nat.le_of_ble_eq_true rfl) hx hb hr hlocks (by decide) hP hD hS rfl dX8_readArgument_48
    · have hF := q_brn c34 hF
      refine lv_aload_n hx hb dX8_readArgument_37 rfl (lv_at hl 0 rfl) ?_
      refine va_get (D := E.1) (ci := 9) (v := .ref (a (o + 5))) (C := RX8) (T := TX8) (N := 11) hx hb ha in_X8 hown hst.k hP 0 rfl rfl 6 (by decide) (ha _ mw205) (fun _ h9 => h9) rfl dX8_readArgument_38 ?_
      refine lv_aload_n hx hb dX8_readArgument_41 rfl (lv_at hl 0 rfl) ?_
      refine va_get (D := E.1) (ci := 9) (v := .int (x.2.1.2.2.2 + 1)) (C := RX8) (T := TX8) (N := 11) hx hb ha in_X8 hown hst.k hP 0 rfl rfl 7 (by decide) (ha _ mw206) (fun _ h9 => h9) rfl dX8_readArgument_42 ?_
      refine lv_iload_n hx hb dX8_readArgument_45 rfl (lv_at hl 3 rfl) ?_
      obtain ⟨g2, hF⟩ := q_gdi hF
      refine vj_iast hx hb hst.k hP hD hS 5 0 rfl rfl (f := x.2.1.2.2.1) (k := (x.2.1.2.2.2 + 1).toNatClampNeg) rfl g2 dX8_readArgument_46 (fun u3 eu3 H locs hP hD hS => ?_)
      have hF := q_lti eu3 hF
      have hP : va_P E.1 vwCl (List.flatten [w_Prog E a o ((x.1.1, x.1.2.1, x.1.2.2.1, x.1.2.2.2), (x.2.1.1, x.2.1.2.1, u3, x.2.1.2.2.2 + 1), (p2, q1.2, x.2.2.2.2))]) H := hP
      have hD : va_D A (List.flatten [w_Prog E a o ((x.1.1, x.1.2.1, x.1.2.2.1, x.1.2.2.2), (x.2.1.1, x.2.1.2.1, u3, x.2.1.2.2.2 + 1), (p2, q1.2, x.2.2.2.2))]) := hD
      refine lv_iconst (v := 1) hx hb dX8_readArgument_47 (by decide) ?_
      obtain rfl := Option.some.inj hF
      exact en_z hQ (Nat.le_of_ble_eq_true rfl) (Nat.le_of_ble_eq_true rfl) hx hb hr hlocks (by decide) hP hD hS rfl dX8_readArgument_48
  · have hF := q_brp c5 hF
    refine lv_iconst (v := 0) hx hb dX8_readArgument_8 (by decide) ?_
    obtain rfl := Option.some.inj hF
    exact en_z hQ (Nat.le_of_ble_eq_true rfl) (Nat.le_of_ble_eq_true rfl) hx hb hr hlocks (by decide) hP hD hS rfl dX8_readArgument_9

/-! X8_readDigit -/
theorem dX8_readDigit_0 : decode cX8_readDigit 0 = .ok (.aload_n 0, 1) := by decide +kernel
theorem dX8_readDigit_1 : decode cX8_readDigit 1 = .ok (.getfield 44, 3) := by decide +kernel
theorem dX8_readDigit_4 : decode cX8_readDigit 4 = .ok (.aload_n 0, 1) := by decide +kernel
theorem dX8_readDigit_5 : decode cX8_readDigit 5 = .ok (.getfield 15, 3) := by decide +kernel
theorem dX8_readDigit_8 : decode cX8_readDigit 8 = .ok (.if_icmp .ge 22, 3) := by decide +kernel
theorem dX8_readDigit_11 : decode cX8_readDigit 11 = .ok (.aload_n 0, 1) := by decide +kernel
theorem dX8_readDigit_12 : decode cX8_readDigit 12 = .ok (.getfield 11, 3) := by decide +kernel
theorem dX8_readDigit_15 : decode cX8_readDigit 15 = .ok (.aload_n 0, 1) := by decide +kernel
theorem dX8_readDigit_16 : decode cX8_readDigit 16 = .ok (.getfield 44, 3) := by decide +kernel
theorem dX8_readDigit_19 : decode cX8_readDigit 19 = .ok (.caload, 1) := by decide +kernel
theorem dX8_readDigit_20 : decode cX8_readDigit 20 = .ok (.bipush 48, 2) := by decide +kernel
theorem dX8_readDigit_22 : decode cX8_readDigit 22 = .ok (.bipush 57, 2) := by decide +kernel
theorem dX8_readDigit_24 : decode cX8_readDigit 24 = .ok (.invokestatic 104, 3) := by decide +kernel
theorem dX8_readDigit_27 : decode cX8_readDigit 27 = .ok (.ifCond .ne 5, 3) := by decide +kernel
theorem dX8_readDigit_30 : decode cX8_readDigit 30 = .ok (.iconst 0, 1) := by decide +kernel
theorem dX8_readDigit_31 : decode cX8_readDigit 31 = .ok (.ireturn, 1) := by decide +kernel
theorem dX8_readDigit_32 : decode cX8_readDigit 32 = .ok (.aload_n 0, 1) := by decide +kernel
theorem dX8_readDigit_33 : decode cX8_readDigit 33 = .ok (.getfield 38, 3) := by decide +kernel
theorem dX8_readDigit_36 : decode cX8_readDigit 36 = .ok (.iconst 0, 1) := by decide +kernel
theorem dX8_readDigit_37 : decode cX8_readDigit 37 = .ok (.aload_n 0, 1) := by decide +kernel
theorem dX8_readDigit_38 : decode cX8_readDigit 38 = .ok (.getfield 35, 3) := by decide +kernel
theorem dX8_readDigit_41 : decode cX8_readDigit 41 = .ok (.arraylength, 1) := by decide +kernel
theorem dX8_readDigit_42 : decode cX8_readDigit 42 = .ok (.iconst 1, 1) := by decide +kernel
theorem dX8_readDigit_43 : decode cX8_readDigit 43 = .ok (.isub, 1) := by decide +kernel
theorem dX8_readDigit_44 : decode cX8_readDigit 44 = .ok (.invokestatic 104, 3) := by decide +kernel
theorem dX8_readDigit_47 : decode cX8_readDigit 47 = .ok (.ifCond .eq 42, 3) := by decide +kernel
theorem dX8_readDigit_50 : decode cX8_readDigit 50 = .ok (.aload_n 0, 1) := by decide +kernel
theorem dX8_readDigit_51 : decode cX8_readDigit 51 = .ok (.getfield 35, 3) := by decide +kernel
theorem dX8_readDigit_54 : decode cX8_readDigit 54 = .ok (.aload_n 0, 1) := by decide +kernel
theorem dX8_readDigit_55 : decode cX8_readDigit 55 = .ok (.getfield 38, 3) := by decide +kernel
theorem dX8_readDigit_58 : decode cX8_readDigit 58 = .ok (.bipush 10, 2) := by decide +kernel
theorem dX8_readDigit_60 : decode cX8_readDigit 60 = .ok (.aload_n 0, 1) := by decide +kernel
theorem dX8_readDigit_61 : decode cX8_readDigit 61 = .ok (.getfield 35, 3) := by decide +kernel
theorem dX8_readDigit_64 : decode cX8_readDigit 64 = .ok (.aload_n 0, 1) := by decide +kernel
theorem dX8_readDigit_65 : decode cX8_readDigit 65 = .ok (.getfield 38, 3) := by decide +kernel
theorem dX8_readDigit_68 : decode cX8_readDigit 68 = .ok (.iaload, 1) := by decide +kernel
theorem dX8_readDigit_69 : decode cX8_readDigit 69 = .ok (.imul, 1) := by decide +kernel
theorem dX8_readDigit_70 : decode cX8_readDigit 70 = .ok (.aload_n 0, 1) := by decide +kernel
theorem dX8_readDigit_71 : decode cX8_readDigit 71 = .ok (.getfield 41, 3) := by decide +kernel
theorem dX8_readDigit_74 : decode cX8_readDigit 74 = .ok (.aload_n 0, 1) := by decide +kernel
theorem dX8_readDigit_75 : decode cX8_readDigit 75 = .ok (.getfield 11, 3) := by decide +kernel
theorem dX8_readDigit_78 : decode cX8_readDigit 78 = .ok (.aload_n 0, 1) := by decide +kernel
theorem dX8_readDigit_79 : decode cX8_readDigit 79 = .ok (.getfield 44, 3) := by decide +kernel
theorem dX8_readDigit_82 : decode cX8_readDigit 82 = .ok (.caload, 1) := by decide +kernel
theorem dX8_readDigit_83 : decode cX8_readDigit 83 = .ok (.bipush 48, 2) := by decide +kernel
theorem dX8_readDigit_85 : decode cX8_readDigit 85 = .ok (.isub, 1) := by decide +kernel
theorem dX8_readDigit_86 : decode cX8_readDigit 86 = .ok (.imul, 1) := by decide +kernel
theorem dX8_readDigit_87 : decode cX8_readDigit 87 = .ok (.iadd, 1) := by decide +kernel
theorem dX8_readDigit_88 : decode cX8_readDigit 88 = .ok (.iastore, 1) := by decide +kernel
theorem dX8_readDigit_89 : decode cX8_readDigit 89 = .ok (.aload_n 0, 1) := by decide +kernel
theorem dX8_readDigit_90 : decode cX8_readDigit 90 = .ok (.dup, 1) := by decide +kernel
theorem dX8_readDigit_91 : decode cX8_readDigit 91 = .ok (.getfield 44, 3) := by decide +kernel
theorem dX8_readDigit_94 : decode cX8_readDigit 94 = .ok (.iconst 1, 1) := by decide +kernel
theorem dX8_readDigit_95 : decode cX8_readDigit 95 = .ok (.iadd, 1) := by decide +kernel
theorem dX8_readDigit_96 : decode cX8_readDigit 96 = .ok (.putfield 44, 3) := by decide +kernel
theorem dX8_readDigit_99 : decode cX8_readDigit 99 = .ok (.iconst 1, 1) := by decide +kernel
theorem dX8_readDigit_100 : decode cX8_readDigit 100 = .ok (.ireturn, 1) := by decide +kernel
def f_X8_readDigit (x_text : (Nat → Int32)) (x_length : Int32) (x_values : (Nat → Int32)) (x_argument : Int32) (x_sign : Int32) (x_at : Int32) : Option (Int32 × (Nat → Int32) × Int32) :=
  q_br (x_length ≤ x_at) (
  some (0, x_values, x_at)) (
  q_gd (q_in x_at 60) (
  q_bd (f_X10_isWithin (x_text (x_at.toNatClampNeg)) 48 57) (fun q2 =>
  q_br (q2 = 0) (
  some (0, x_values, x_at)) (
  q_bd (f_X10_isWithin x_argument 0 (2 - 1)) (fun q3 =>
  q_lt (fun (j4 : (Nat → Int32)) =>
  some (1, j4, x_at + 1)) (fun (J89 : (Nat → Int32) → Option (Int32 × (Nat → Int32) × Int32)) =>
  q_br (q3 = 0) (
  J89 x_values) (
  q_gd (q_in x_argument 2) (
  q_gd (q_in x_at 60) (
  q_gd (q_in x_argument 2) (
  q_lt (upd x_values (x_argument.toNatClampNeg) ((10 * (x_values (x_argument.toNatClampNeg))) + (x_sign * ((x_text (x_at.toNatClampNeg)) - 48)))) (fun u8 =>
  J89 u8)))))))))))
theorem hv_X8_readDigit : yX8_readDigit.cls = RX8 ∧ yX8_readDigit.cls ≠ "java/lang/invoke/MethodHandle" ∧ yX8_readDigit.cls ≠ "java/lang/invoke/VarHandle" ∧ (parseMethodDescriptor yX8_readDigit.desc).map (fun d => d.parameters.length) = some 0 := by decide +kernel
abbrev rm_X8_readDigit : Room := { frames := 1, cells := 0, slots := 0, locals := 22 }
set_option maxHeartbeats 4000000 in
set_option maxRecDepth 100000 in
theorem k_X8_readDigit (l : Launch) (E : ET) (a : Nat → Nat) (o : Nat) (x : Prog_t) (res : Int32 × (Nat → Int32) × Int32) (hF : f_X8_readDigit x.1.1 x.1.2.1 x.2.1.2.2.1 x.2.1.2.2.2 x.2.2.1 x.2.2.2.1 = some res) (sz : Nat) : CtI l yX8_readDigit (mws yX8_readDigit cX8_readDigit 1 (some .boolean)) rm_X8_readDigit 0 0 [.ref (a o)] E (bl_Prog E a o x) res.1 (bl_Prog E a o ((x.1.1, x.1.2.1, x.1.2.2.1, x.1.2.2.2), (x.2.1.1, x.2.1.2.1, res.2.1, x.2.1.2.2.2), (x.2.2.1, res.2.2, x.2.2.2.2))) sz := by
  refine mk_M (by decide +kernel) (Nat.le_of_ble_eq_true rfl) ?_
  intro p e s m below meth c A args Q ls hAe hsz hQ hx hb hr hml hin ha hown hlocks hA hz hzs hst hP hD hS hl
  have hown : s.vm.findClass RX8 = some m.cls := hown
  rw [hAe] at hQ
  subst hsz
  have hP : va_P E.1 vwCl (List.flatten [w_Prog E a o x]) s.heap := hP
  have hD : va_D A (List.flatten [w_Prog E a o x]) := hD
  have hl : lv_has ls 1 [(0, .ref (a o))] := hl
  generalize hHe : s.heap = H at hP
  have hS : va_S A s.heap H [] := by rw [← hHe]; exact hS
  generalize ([] : List Loc) = locs at hS ⊢
  unfold f_X8_readDigit at hF
  refine lv_aload_n hx hb dX8_readDigit_0 rfl (lv_at hl 0 rfl) ?_
  refine va_get (D := E.1) (ci := 9) (v := .int x.2.2.2.1) (C := RX8) (T := TX8) (N := 11) hx hb ha in_X8 hown hst.k hP 0 rfl rfl 9 (by decide) (ha _ mw208) (fun _ h9 => h9) rfl dX8_readDigit_1 ?_
  refine lv_aload_n hx hb dX8_readDigit_4 rfl (lv_at hl 0 rfl) ?_
  refine va_get (D := E.1) (ci := 9) (v := .int x.1.2.1) (C := RX8) (T := TX8) (N := 11) hx hb ha in_X8 hown hst.k hP 0 rfl rfl 1 (by decide) (ha _ mw199) (fun _ h9 => h9) rfl dX8_readDigit_5 ?_
  refine lv_icmp_ge (tgt := 30) hx hb dX8_readDigit_8 (by decide) (fun c8 => ?_) (fun c8 => ?_)
  · have hF := q_brp c8 hF
    refine lv_iconst (v := 0) hx hb dX8_readDigit_30 (by decide) ?_
    obtain rfl := Option.some.inj hF
    exact en_z hQ (Nat.le_of_ble_eq_true rfl) (Nat.le_of_ble_eq_true rfl) hx hb hr hlocks (by decide) hP hD hS rfl dX8_readDigit_31
  · have hF := q_brn c8 hF
    refine lv_aload_n hx hb dX8_readDigit_11 rfl (lv_at hl 0 rfl) ?_
    refine va_get (D := E.1) (ci := 9) (v := .ref (a (o + 1))) (C := RX8) (T := TX8) (N := 11) hx hb ha in_X8 hown hst.k hP 0 rfl rfl 0 (by decide) (ha _ mw198) (fun _ h9 => h9) rfl dX8_readDigit_12 ?_
    refine lv_aload_n hx hb dX8_readDigit_15 rfl (lv_at hl 0 rfl) ?_
    refine va_get (D := E.1) (ci := 9) (v := .int x.2.2.2.1) (C := RX8) (T := TX8) (N := 11) hx hb ha in_X8 hown hst.k hP 0 rfl rfl 9 (by decide) (ha _ mw208) (fun _ h9 => h9) rfl dX8_readDigit_16 ?_
    obtain ⟨g1, hF⟩ := q_gdi hF
    refine vi_cald hx hb hst.k hP 1 1 rfl rfl (f := x.1.1) (k := x.2.2.2.1.toNatClampNeg) rfl g1 dX8_readDigit_19 ?_
    refine lv_bipush (v := 48) hx hb dX8_readDigit_20 (by decide) ?_
    refine lv_bipush (v := 57) hx hb dX8_readDigit_22 (by decide) ?_
    obtain ⟨q2, hq2, hF⟩ := q_bdi hF
    refine cl_i (Lc := []) (Lc' := []) (L' := [w_Prog E a o x]) (rv := q2) (va_runSN (As := [.int (x.1.1 (x.2.2.2.1.toNatClampNeg)), .int 48, .int 57]) (rest := []) ⟨hx, hb, hml, hown, ha⟩ (k_X10_isWithin l E (x.1.1 (x.2.2.2.1.toNatClampNeg)) 48 57 q2 hq2 H.size) ⟨va_cnB 3 ha (gi_B (fun _ h => h) mw375) rfl rfl rfl (nm22 hst) (ha _ mw26) hv_X10_isWithin.2 ⟨(Nat.le_of_ble_eq_true rfl), (Nat.le_of_ble_eq_true rfl)⟩, (ha _ mw374), trivial⟩ ⟨pre_blind, pre_at hP hD hS hz hzs hst [] (by decide) rfl rfl⟩ rfl rfl hl.1 rfl (lv_room (Nat.le_of_ble_eq_true rfl)) dX8_readDigit_24 ⟨(Nat.le_of_ble_eq_true rfl), (Nat.le_of_ble_eq_true rfl)⟩) hP hD hS hA [] (by decide) rfl rfl rfl rfl (fun H locs hP hD hS => ?_)
    refine lv_if_ne (tgt := 32) hx hb dX8_readDigit_27 (by decide) (fun c27 => ?_) (fun c27 => ?_)
    · have hF := q_brn c27 hF
      refine lv_aload_n hx hb dX8_readDigit_32 rfl (lv_at hl 0 rfl) ?_
      refine va_get (D := E.1) (ci := 9) (v := .int x.2.1.2.2.2) (C := RX8) (T := TX8) (N := 11) hx hb ha in_X8 hown hst.k hP 0 rfl rfl 7 (by decide) (ha _ mw206) (fun _ h9 => h9) rfl dX8_readDigit_33 ?_
      refine lv_iconst (v := 0) hx hb dX8_readDigit_36 (by decide) ?_
      refine lv_aload_n hx hb dX8_readDigit_37 rfl (lv_at hl 0 rfl) ?_
      refine va_get (D := E.1) (ci := 9) (v := .ref (a (o + 5))) (C := RX8) (T := TX8) (N := 11) hx hb ha in_X8 hown hst.k hP 0 rfl rfl 6 (by decide) (ha _ mw205) (fun _ h9 => h9) rfl dX8_readDigit_38 ?_
      refine va_alen (v := 2) hx hb hst.k hP 5 0 rfl rfl rfl dX8_readDigit_41 ?_
      refine lv_iconst (v := 1) hx hb dX8_readDigit_42 (by decide) ?_
      refine lv_isub hx hb dX8_readDigit_43 ?_
      obtain ⟨q3, hq3, hF⟩ := q_bdi hF
      refine cl_i (Lc := []) (Lc' := []) (L' := [w_Prog E a o x]) (rv := q3) (va_runSN (As := [.int x.2.1.2.2.2, .int 0, .int (2 - 1)]) (rest := []) ⟨hx, hb, hml, hown, ha⟩ (k_X10_isWithin l E x.2.1.2.2.2 0 (2 - 1) q3 hq3 H.size) ⟨va_cnB 3 ha (gi_B (fun _ h => h) mw375) rfl rfl rfl (nm22 hst) (ha _ mw26) hv_X10_isWithin.2 ⟨(Nat.le_of_ble_eq_true rfl), (Nat.le_of_ble_eq_true rfl)⟩, (ha _ mw374), trivial⟩ ⟨pre_blind, pre_at hP hD hS hz hzs hst [] (by decide) rfl rfl⟩ rfl rfl hl.1 rfl (lv_room (Nat.le_of_ble_eq_true rfl)) dX8_readDigit_44 ⟨(Nat.le_of_ble_eq_true rfl), (Nat.le_of_ble_eq_true rfl)⟩) hP hD hS hA [] (by decide) rfl rfl rfl rfl (fun H locs hP hD hS => ?_)
      obtain ⟨J89, hJ89, hF⟩ := q_jn hF
      have jJ89 : ∀ (j4 : (Nat → Int32)), ∀ (H : Heap) (locs : List Loc) (ls : Array Slot), J89 j4 = some res → va_P E.1 vwCl (List.flatten [w_Prog E a o ((x.1.1, x.1.2.1, x.1.2.2.1, x.1.2.2.2), (x.2.1.1, x.2.1.2.1, j4, x.2.1.2.2.2), (x.2.2.1, x.2.2.2.1, x.2.2.2.2))]) H → va_D A (List.flatten [w_Prog E a o ((x.1.1, x.1.2.1, x.1.2.2.1, x.1.2.2.2), (x.2.1.1, x.2.1.2.1, j4, x.2.1.2.2.2), (x.2.2.1, x.2.2.2.1, x.2.2.2.2))]) → va_S A s.heap H locs → lv_has ls 1 [(0, .ref (a o))] → W p l e rm_X8_readDigit s m args below meth c H locs 0 0 Q (F0 m 89 ls []) := by
        intro j4 H locs ls hF hP hD hS hl
        rw [hJ89] at hF
        refine lv_aload_n hx hb dX8_readDigit_89 rfl (lv_at hl 0 rfl) ?_
        refine lv_dup hx hb dX8_readDigit_90 rfl ?_
        refine va_get (D := E.1) (ci := 9) (v := .int x.2.2.2.1) (C := RX8) (T := TX8) (N := 11) hx hb ha in_X8 hown hst.k hP 0 rfl rfl 9 (by decide) (ha _ mw208) (fun _ h9 => h9) rfl dX8_readDigit_91 ?_
        refine lv_iconst (v := 1) hx hb dX8_readDigit_94 (by decide) ?_
        refine lv_iadd hx hb dX8_readDigit_95 ?_
        refine va_put (D := E.1) (ci := 9) (v := .int (x.2.2.2.1 + 1)) (ty := .int) (C := RX8) (T := TX8) (N := 11) hx hb ha in_X8 tyX8 tyX8_ok nmX8 hown hst.k hP hD hS 0 rfl rfl 9 (by decide) (ha _ mw208) (fun _ h9 => h9) rfl (tyX8_ok 9 (by decide)) rfl rfl (Nat.le_of_ble_eq_true rfl) dX8_readDigit_96 (fun H locs hP hD hS => ?_)
        have hP : va_P E.1 vwCl (List.flatten [w_Prog E a o ((x.1.1, x.1.2.1, x.1.2.2.1, x.1.2.2.2), (x.2.1.1, x.2.1.2.1, j4, x.2.1.2.2.2), (x.2.2.1, x.2.2.2.1 + 1, x.2.2.2.2))]) H := hP
        have hD : va_D A (List.flatten [w_Prog E a o ((x.1.1, x.1.2.1, x.1.2.2.1, x.1.2.2.2), (x.2.1.1, x.2.1.2.1, j4, x.2.1.2.2.2), (x.2.2.1, x.2.2.2.1 + 1, x.2.2.2.2))]) := hD
        refine lv_iconst (v := 1) hx hb dX8_readDigit_99 (by decide) ?_
        obtain rfl := Option.some.inj hF
        exact en_z hQ (Nat.le_of_ble_eq_true rfl) (Nat.le_of_ble_eq_true rfl) hx hb hr hlocks (by decide) hP hD hS rfl dX8_readDigit_100
      refine lv_if_eq (tgt := 89) hx hb dX8_readDigit_47 (by decide) (fun c47 => ?_) (fun c47 => ?_)
      · have hF := q_brp c47 hF
        exact jJ89 x.2.1.2.2.1 H locs ls hF hP hD hS (lv_sub hl [0] rfl)
      · have hF := q_brn c47 hF
        refine lv_aload_n hx hb dX8_readDigit_50 rfl (lv_at hl 0 rfl) ?_
        refine va_get (D := E.1) (ci := 9) (v := .ref (a (o + 5))) (C := RX8) (T := TX8) (N := 11) hx hb ha in_X8 hown hst.k hP 0 rfl rfl 6 (by decide) (ha _ mw205) (fun _ h9 => h9) rfl dX8_readDigit_51 ?_
        refine lv_aload_n hx hb dX8_readDigit_54 rfl (lv_at hl 0 rfl) ?_
        refine va_get (D := E.1) (ci := 9) (v := .int x.2.1.2.2.2) (C := RX8) (T := TX8) (N := 11) hx hb ha in_X8 hown hst.k hP 0 rfl rfl 7 (by decide) (ha _ mw206) (fun _ h9 => h9) rfl dX8_readDigit_55 ?_
        refine lv_bipush (v := 10) hx hb dX8_readDigit_58 (by decide) ?_
        refine lv_aload_n hx hb dX8_readDigit_60 rfl (lv_at hl 0 rfl) ?_
        refine va_get (D := E.1) (ci := 9) (v := .ref (a (o + 5))) (C := RX8) (T := TX8) (N := 11) hx hb ha in_X8 hown hst.k hP 0 rfl rfl 6 (by decide) (ha _ mw205) (fun _ h9 => h9) rfl dX8_readDigit_61 ?_
        refine lv_aload_n hx hb dX8_readDigit_64 rfl (lv_at hl 0 rfl) ?_
        refine va_get (D := E.1) (ci := 9) (v := .int x.2.1.2.2.2) (C := RX8) (T := TX8) (N := 11) hx hb ha in_X8 hown hst.k hP 0 rfl rfl 7 (by decide) (ha _ mw206) (fun _ h9 => h9) rfl dX8_readDigit_65 ?_
        obtain ⟨g5, hF⟩ := q_gdi hF
        refine vi_iald hx hb hst.k hP 5 0 rfl rfl (f := x.2.1.2.2.1) (k := x.2.1.2.2.2.toNatClampNeg) rfl g5 dX8_readDigit_68 ?_
        refine lv_imul hx hb dX8_readDigit_69 ?_
        refine lv_aload_n hx hb dX8_readDigit_70 rfl (lv_at hl 0 rfl) ?_
        refine va_get (D := E.1) (ci := 9) (v := .int x.2.2.1) (C := RX8) (T := TX8) (N := 11) hx hb ha in_X8 hown hst.k hP 0 rfl rfl 8 (by decide) (ha _ mw207) (fun _ h9 => h9) rfl dX8_readDigit_71 ?_
        refine lv_aload_n hx hb dX8_readDigit_74 rfl (lv_at hl 0 rfl) ?_
        refine va_get (D := E.1) (ci := 9) (v := .ref (a (o + 1))) (C := RX8) (T := TX8) (N := 11) hx hb ha in_X8 hown hst.k hP 0 rfl rfl 0 (by decide) (ha _ mw198) (fun _ h9 => h9) rfl dX8_readDigit_75 ?_
        refine lv_aload_n hx hb dX8_readDigit_78 rfl (lv_at hl 0 rfl) ?_
        refine va_get (D := E.1) (ci := 9) (v := .int x.2.2.2.1) (C := RX8) (T := TX8) (N := 11) hx hb ha in_X8 hown hst.k hP 0 rfl rfl 9 (by decide) (ha _ mw208) (fun _ h9 => h9) rfl dX8_readDigit_79 ?_
        obtain ⟨g6, hF⟩ := q_gdi hF
        refine vi_cald hx hb hst.k hP 1 1 rfl rfl (f := x.1.1) (k := x.2.2.2.1.toNatClampNeg) rfl g6 dX8_readDigit_82 ?_
        refine lv_bipush (v := 48) hx hb dX8_readDigit_83 (by decide) ?_
        refine lv_isub hx hb dX8_readDigit_85 ?_
        refine lv_imul hx hb dX8_readDigit_86 ?_
        refine lv_iadd hx hb dX8_readDigit_87 ?_
        obtain ⟨g7, hF⟩ := q_gdi hF
        refine vj_iast hx hb hst.k hP hD hS 5 0 rfl rfl (f := x.2.1.2.2.1) (k := x.2.1.2.2.2.toNatClampNeg) rfl g7 dX8_readDigit_88 (fun u8 eu8 H locs hP hD hS => ?_)
        have hF := q_lti eu8 hF
        have hP : va_P E.1 vwCl (List.flatten [w_Prog E a o ((x.1.1, x.1.2.1, x.1.2.2.1, x.1.2.2.2), (x.2.1.1, x.2.1.2.1, u8, x.2.1.2.2.2), (x.2.2.1, x.2.2.2.1, x.2.2.2.2))]) H := hP
        have hD : va_D A (List.flatten [w_Prog E a o ((x.1.1, x.1.2.1, x.1.2.2.1, x.1.2.2.2), (x.2.1.1, x.2.1.2.1, u8, x.2.1.2.2.2), (x.2.2.1, x.2.2.2.1, x.2.2.2.2))]) := hD
        exact jJ89 u8 H locs ls hF hP hD hS (lv_sub hl [0] rfl)
    · have hF := q_brp c27 hF
      refine lv_iconst (v := 0) hx hb dX8_readDigit_30 (by decide) ?_
      obtain rfl := Option.some.inj hF
      exact en_z hQ (Nat.le_of_ble_eq_true rfl) (Nat.le_of_ble_eq_true rfl) hx hb hr hlocks (by decide) hP hD hS rfl dX8_readDigit_31

/-! X8_matchesSign -/
theorem dX8_matchesSign_0 : decode cX8_matchesSign 0 = .ok (.iload_n 1, 1) := by decide +kernel
theorem dX8_matchesSign_1 : decode cX8_matchesSign 1 = .ok (.lookupswitch 128 #[(32, 119), (35, 51), (63, 56), (77, 91), (83, 63)], 51) := by decide +kernel
theorem dX8_matchesSign_52 : decode cX8_matchesSign 52 = .ok (.aload_n 0, 1) := by decide +kernel
theorem dX8_matchesSign_53 : decode cX8_matchesSign 53 = .ok (.invokevirtual 94, 3) := by decide +kernel
theorem dX8_matchesSign_56 : decode cX8_matchesSign 56 = .ok (.ireturn, 1) := by decide +kernel
theorem dX8_matchesSign_57 : decode cX8_matchesSign 57 = .ok (.aload_n 0, 1) := by decide +kernel
theorem dX8_matchesSign_58 : decode cX8_matchesSign 58 = .ok (.invokevirtual 94, 3) := by decide +kernel
theorem dX8_matchesSign_61 : decode cX8_matchesSign 61 = .ok (.pop, 1) := by decide +kernel
theorem dX8_matchesSign_62 : decode cX8_matchesSign 62 = .ok (.iconst 1, 1) := by decide +kernel
theorem dX8_matchesSign_63 : decode cX8_matchesSign 63 = .ok (.ireturn, 1) := by decide +kernel
theorem dX8_matchesSign_64 : decode cX8_matchesSign 64 = .ok (.aload_n 0, 1) := by decide +kernel
theorem dX8_matchesSign_65 : decode cX8_matchesSign 65 = .ok (.bipush 43, 2) := by decide +kernel
theorem dX8_matchesSign_67 : decode cX8_matchesSign 67 = .ok (.iconst 1, 1) := by decide +kernel
theorem dX8_matchesSign_68 : decode cX8_matchesSign 68 = .ok (.iconst 0, 1) := by decide +kernel
theorem dX8_matchesSign_69 : decode cX8_matchesSign 69 = .ok (.invokevirtual 97, 3) := by decide +kernel
theorem dX8_matchesSign_72 : decode cX8_matchesSign 72 = .ok (.ifCond .ne 14, 3) := by decide +kernel
theorem dX8_matchesSign_75 : decode cX8_matchesSign 75 = .ok (.aload_n 0, 1) := by decide +kernel
theorem dX8_matchesSign_76 : decode cX8_matchesSign 76 = .ok (.bipush 45, 2) := by decide +kernel
theorem dX8_matchesSign_78 : decode cX8_matchesSign 78 = .ok (.iconst (-1), 1) := by decide +kernel
theorem dX8_matchesSign_79 : decode cX8_matchesSign 79 = .ok (.iconst 0, 1) := by decide +kernel
theorem dX8_matchesSign_80 : decode cX8_matchesSign 80 = .ok (.invokevirtual 97, 3) := by decide +kernel
theorem dX8_matchesSign_83 : decode cX8_matchesSign 83 = .ok (.ifCond .eq 7, 3) := by decide +kernel
theorem dX8_matchesSign_86 : decode cX8_matchesSign 86 = .ok (.iconst 1, 1) := by decide +kernel
theorem dX8_matchesSign_87 : decode cX8_matchesSign 87 = .ok (.goto 4, 3) := by decide +kernel
theorem dX8_matchesSign_90 : decode cX8_matchesSign 90 = .ok (.iconst 0, 1) := by decide +kernel
theorem dX8_matchesSign_91 : decode cX8_matchesSign 91 = .ok (.ireturn, 1) := by decide +kernel
theorem dX8_matchesSign_92 : decode cX8_matchesSign 92 = .ok (.aload_n 0, 1) := by decide +kernel
theorem dX8_matchesSign_93 : decode cX8_matchesSign 93 = .ok (.bipush 77, 2) := by decide +kernel
theorem dX8_matchesSign_95 : decode cX8_matchesSign 95 = .ok (.iconst 1, 1) := by decide +kernel
theorem dX8_matchesSign_96 : decode cX8_matchesSign 96 = .ok (.iconst 0, 1) := by decide +kernel
theorem dX8_matchesSign_97 : decode cX8_matchesSign 97 = .ok (.invokevirtual 97, 3) := by decide +kernel
theorem dX8_matchesSign_100 : decode cX8_matchesSign 100 = .ok (.ifCond .ne 14, 3) := by decide +kernel
theorem dX8_matchesSign_103 : decode cX8_matchesSign 103 = .ok (.aload_n 0, 1) := by decide +kernel
theorem dX8_matchesSign_104 : decode cX8_matchesSign 104 = .ok (.bipush 109, 2) := by decide +kernel
theorem dX8_matchesSign_106 : decode cX8_matchesSign 106 = .ok (.iconst 1, 1) := by decide +kernel
theorem dX8_matchesSign_107 : decode cX8_matchesSign 107 = .ok (.iconst 1, 1) := by decide +kernel
theorem dX8_matchesSign_108 : decode cX8_matchesSign 108 = .ok (.invokevirtual 97, 3) := by decide +kernel
theorem dX8_matchesSign_111 : decode cX8_matchesSign 111 = .ok (.ifCond .eq 7, 3) := by decide +kernel
theorem dX8_matchesSign_114 : decode cX8_matchesSign 114 = .ok (.iconst 1, 1) := by decide +kernel
theorem dX8_matchesSign_115 : decode cX8_matchesSign 115 = .ok (.goto 4, 3) := by decide +kernel
theorem dX8_matchesSign_118 : decode cX8_matchesSign 118 = .ok (.iconst 0, 1) := by decide +kernel
theorem dX8_matchesSign_119 : decode cX8_matchesSign 119 = .ok (.ireturn, 1) := by decide +kernel
theorem dX8_matchesSign_120 : decode cX8_matchesSign 120 = .ok (.aload_n 0, 1) := by decide +kernel
theorem dX8_matchesSign_121 : decode cX8_matchesSign 121 = .ok (.bipush 32, 2) := by decide +kernel
theorem dX8_matchesSign_123 : decode cX8_matchesSign 123 = .ok (.iconst 1, 1) := by decide +kernel
theorem dX8_matchesSign_124 : decode cX8_matchesSign 124 = .ok (.iconst 0, 1) := by decide +kernel
theorem dX8_matchesSign_125 : decode cX8_matchesSign 125 = .ok (.invokevirtual 97, 3) := by decide +kernel
theorem dX8_matchesSign_128 : decode cX8_matchesSign 128 = .ok (.ireturn, 1) := by decide +kernel
theorem dX8_matchesSign_129 : decode cX8_matchesSign 129 = .ok (.aload_n 0, 1) := by decide +kernel
theorem dX8_matchesSign_130 : decode cX8_matchesSign 130 = .ok (.iload_n 1, 1) := by decide +kernel
theorem dX8_matchesSign_131 : decode cX8_matchesSign 131 = .ok (.invokevirtual 101, 3) := by decide +kernel
theorem dX8_matchesSign_134 : decode cX8_matchesSign 134 = .ok (.ireturn, 1) := by decide +kernel
def f_X8_matchesSign (x_text : (Nat → Int32)) (x_length : Int32) (x_values : (Nat → Int32)) (x_argument : Int32) (x_sign : Int32) (x_at : Int32) (p1 : Int32) : Option (Int32 × (Nat → Int32) × Int32 × Int32 × Int32) :=
  q_br (p1 = 32) (
  q_bd (f_X8_readArgument x_text x_length x_values x_argument x_sign x_at 32 1 0) (fun q1 =>
  q_gd (q1.1 = 0 ∨ q1.1 = 1) (
  some (q1.1, q1.2.1, q1.2.2.1, q1.2.2.2.1, q1.2.2.2.2)))) (
  q_br (p1 = 35) (
  q_bd (f_X8_readDigit x_text x_length x_values x_argument x_sign x_at) (fun q3 =>
  q_gd (q3.1 = 0 ∨ q3.1 = 1) (
  some (q3.1, q3.2.1, x_argument, x_sign, q3.2.2)))) (
  q_br (p1 = 63) (
  q_bd (f_X8_readDigit x_text x_length x_values x_argument x_sign x_at) (fun q5 =>
  some (1, q5.2.1, x_argument, x_sign, q5.2.2))) (
  q_br (p1 = 77) (
  q_bd (f_X8_readArgument x_text x_length x_values x_argument x_sign x_at 77 1 0) (fun q6 =>
  q_br (q6.1 = 0) (
  q_bd (f_X8_readArgument x_text x_length q6.2.1 q6.2.2.1 q6.2.2.2.1 q6.2.2.2.2 109 1 1) (fun q7 =>
  q_br (q7.1 = 0) (
  some (0, q7.2.1, q7.2.2.1, q7.2.2.2.1, q7.2.2.2.2)) (
  some (1, q7.2.1, q7.2.2.1, q7.2.2.2.1, q7.2.2.2.2)))) (
  some (1, q6.2.1, q6.2.2.1, q6.2.2.2.1, q6.2.2.2.2)))) (
  q_br (p1 = 83) (
  q_bd (f_X8_readArgument x_text x_length x_values x_argument x_sign x_at 43 1 0) (fun q8 =>
  q_br (q8.1 = 0) (
  q_bd (f_X8_readArgument x_text x_length q8.2.1 q8.2.2.1 q8.2.2.2.1 q8.2.2.2.2 45 (-1) 0) (fun q9 =>
  q_br (q9.1 = 0) (
  some (0, q9.2.1, q9.2.2.1, q9.2.2.2.1, q9.2.2.2.2)) (
  some (1, q9.2.1, q9.2.2.1, q9.2.2.2.1, q9.2.2.2.2)))) (
  some (1, q8.2.1, q8.2.2.1, q8.2.2.2.1, q8.2.2.2.2)))) (
  q_bd (f_X8_readLetter x_text x_length x_at p1) (fun q10 =>
  q_gd (q10.1 = 0 ∨ q10.1 = 1) (
  some (q10.1, x_values, x_argument, x_sign, q10.2))))))))
theorem hv_X8_matchesSign : yX8_matchesSign.cls = RX8 ∧ yX8_matchesSign.cls ≠ "java/lang/invoke/MethodHandle" ∧ yX8_matchesSign.cls ≠ "java/lang/invoke/VarHandle" ∧ (parseMethodDescriptor yX8_matchesSign.desc).map (fun d => d.parameters.length) = some 1 := by decide +kernel
abbrev rm_X8_matchesSign : Room := { frames := 3, cells := 0, slots := 0, locals := 65 }
set_option maxHeartbeats 4000000 in
set_option maxRecDepth 100000 in
theorem k_X8_matchesSign (l : Launch) (E : ET) (a : Nat → Nat) (o : Nat) (x : Prog_t) (p1 : Int32) (res : Int32 × (Nat → Int32) × Int32 × Int32 × Int32) (hF : f_X8_matchesSign x.1.1 x.1.2.1 x.2.1.2.2.1 x.2.1.2.2.2 x.2.2.1 x.2.2.2.1 p1 = some res) (sz : Nat) : CtI l yX8_matchesSign (mws yX8_matchesSign cX8_matchesSign 2 (some .boolean)) rm_X8_matchesSign 0 0 [.ref (a o), .int p1] E (bl_Prog E a o x) res.1 (bl_Prog E a o ((x.1.1, x.1.2.1, x.1.2.2.1, x.1.2.2.2), (x.2.1.1, x.2.1.2.1, res.2.1, res.2.2.1), (res.2.2.2.1, res.2.2.2.2, x.2.2.2.2))) sz := by
  refine mk_M (by decide +kernel) (Nat.le_of_ble_eq_true rfl) ?_
  intro p e s m below meth c A args Q ls hAe hsz hQ hx hb hr hml hin ha hown hlocks hA hz hzs hst hP hD hS hl
  have hown : s.vm.findClass RX8 = some m.cls := hown
  rw [hAe] at hQ
  subst hsz
  have hP : va_P E.1 vwCl (List.flatten [w_Prog E a o x]) s.heap := hP
  have hD : va_D A (List.flatten [w_Prog E a o x]) := hD
  have hl : lv_has ls 2 [(0, .ref (a o)), (1, .int p1)] := hl
  generalize hHe : s.heap = H at hP
  have hS : va_S A s.heap H [] := by rw [← hHe]; exact hS
  generalize ([] : List Loc) = locs at hS ⊢
  unfold f_X8_matchesSign at hF
  refine lv_iload_n hx hb dX8_matchesSign_0 rfl (lv_at hl 1 rfl) ?_
  by_cases w1_0 : p1 = 32
  · have hF := q_brp w1_0 hF
    refine lv_lookup (off := 119) (tgt := 120) hx hb dX8_matchesSign_1 (by decide) (by rw [w1_0]; decide) (by decide) ?_
    refine lv_aload_n hx hb dX8_matchesSign_120 rfl (lv_at hl 0 rfl) ?_
    refine lv_bipush (v := 32) hx hb dX8_matchesSign_121 (by decide) ?_
    refine lv_iconst (v := 1) hx hb dX8_matchesSign_123 (by decide) ?_
    refine lv_iconst (v := 0) hx hb dX8_matchesSign_124 (by decide) ?_
    obtain ⟨q1, hq1, hF⟩ := q_bdi hF
    refine cl_i (Lc := [w_Prog E a o x]) (Lc' := [w_Prog E a o ((x.1.1, x.1.2.1, x.1.2.2.1, x.1.2.2.2), (x.2.1.1, x.2.1.2.1, q1.2.1, q1.2.2.1), (q1.2.2.2.1, q1.2.2.2.2, x.2.2.2.2))]) (L' := [w_Prog E a o ((x.1.1, x.1.2.1, x.1.2.2.1, x.1.2.2.2), (x.2.1.1, x.2.1.2.1, q1.2.1, q1.2.2.1), (q1.2.2.2.1, q1.2.2.2.2, x.2.2.2.2))]) (rv := q1.1) (va_runV (As := [.int 32, .int 1, .int 0]) (rest := []) ⟨hx, hb, hml, hown, ha⟩ (k_X8_readArgument l E a o x 32 1 0 q1 hq1 H.size) (cwV 3 ha (gi_V (fun _ h => h) mw1011 mw1013 mw20 mw33 mw1014) rfl rfl rfl hv_X8_readArgument ⟨(Nat.le_of_ble_eq_true rfl), (Nat.le_of_ble_eq_true rfl)⟩) ⟨pre_blind, va_recv hst.k (fr_P hP [0] rfl) (ci := 9) (q0 := 0) rfl rfl, pre_at hP hD hS hz hzs hst [0] (by decide) rfl rfl⟩ rfl rfl hl.1 rfl (lv_room (Nat.le_of_ble_eq_true rfl)) dX8_matchesSign_125 ⟨(Nat.le_of_ble_eq_true rfl), (Nat.le_of_ble_eq_true rfl)⟩) hP hD hS hA [0] (by decide) rfl rfl rfl rfl (fun H locs hP hD hS => ?_)
    obtain ⟨g2, hF⟩ := q_gdi hF
    obtain rfl := Option.some.inj hF
    exact en_z hQ (Nat.le_of_ble_eq_true rfl) (Nat.le_of_ble_eq_true rfl) hx hb hr hlocks (nz_b g2) hP hD hS rfl dX8_matchesSign_128
  have hF := q_brn w1_0 hF
  by_cases w1_1 : p1 = 35
  · have hF := q_brp w1_1 hF
    refine lv_lookup (off := 51) (tgt := 52) hx hb dX8_matchesSign_1 (by decide) (by rw [w1_1]; decide) (by decide) ?_
    refine lv_aload_n hx hb dX8_matchesSign_52 rfl (lv_at hl 0 rfl) ?_
    obtain ⟨q3, hq3, hF⟩ := q_bdi hF
    refine cl_i (Lc := [w_Prog E a o x]) (Lc' := [w_Prog E a o ((x.1.1, x.1.2.1, x.1.2.2.1, x.1.2.2.2), (x.2.1.1, x.2.1.2.1, q3.2.1, x.2.1.2.2.2), (x.2.2.1, q3.2.2, x.2.2.2.2))]) (L' := [w_Prog E a o ((x.1.1, x.1.2.1, x.1.2.2.1, x.1.2.2.2), (x.2.1.1, x.2.1.2.1, q3.2.1, x.2.1.2.2.2), (x.2.2.1, q3.2.2, x.2.2.2.2))]) (rv := q3.1) (va_runV (As := []) (rest := []) ⟨hx, hb, hml, hown, ha⟩ (k_X8_readDigit l E a o x q3 hq3 H.size) (cwV 0 ha (gi_V (fun _ h => h) mw1006 mw1008 mw19 mw33 mw1009) rfl rfl rfl hv_X8_readDigit ⟨(Nat.le_of_ble_eq_true rfl), (Nat.le_of_ble_eq_true rfl)⟩) ⟨pre_blind, va_recv hst.k (fr_P hP [0] rfl) (ci := 9) (q0 := 0) rfl rfl, pre_at hP hD hS hz hzs hst [0] (by decide) rfl rfl⟩ rfl rfl hl.1 rfl (lv_room (Nat.le_of_ble_eq_true rfl)) dX8_matchesSign_53 ⟨(Nat.le_of_ble_eq_true rfl), (Nat.le_of_ble_eq_true rfl)⟩) hP hD hS hA [0] (by decide) rfl rfl rfl rfl (fun H locs hP hD hS => ?_)
    obtain ⟨g4, hF⟩ := q_gdi hF
    obtain rfl := Option.some.inj hF
    exact en_z hQ (Nat.le_of_ble_eq_true rfl) (Nat.le_of_ble_eq_true rfl) hx hb hr hlocks (nz_b g4) hP hD hS rfl dX8_matchesSign_56
  have hF := q_brn w1_1 hF
  by_cases w1_2 : p1 = 63
  · have hF := q_brp w1_2 hF
    refine lv_lookup (off := 56) (tgt := 57) hx hb dX8_matchesSign_1 (by decide) (by rw [w1_2]; decide) (by decide) ?_
    refine lv_aload_n hx hb dX8_matchesSign_57 rfl (lv_at hl 0 rfl) ?_
    obtain ⟨q5, hq5, hF⟩ := q_bdi hF
    refine cl_i (Lc := [w_Prog E a o x]) (Lc' := [w_Prog E a o ((x.1.1, x.1.2.1, x.1.2.2.1, x.1.2.2.2), (x.2.1.1, x.2.1.2.1, q5.2.1, x.2.1.2.2.2), (x.2.2.1, q5.2.2, x.2.2.2.2))]) (L' := [w_Prog E a o ((x.1.1, x.1.2.1, x.1.2.2.1, x.1.2.2.2), (x.2.1.1, x.2.1.2.1, q5.2.1, x.2.1.2.2.2), (x.2.2.1, q5.2.2, x.2.2.2.2))]) (rv := q5.1) (va_runV (As := []) (rest := []) ⟨hx, hb, hml, hown, ha⟩ (k_X8_readDigit l E a o x q5 hq5 H.size) (cwV 0 ha (gi_V (fun _ h => h) mw1006 mw1008 mw19 mw33 mw1009) rfl rfl rfl hv_X8_readDigit ⟨(Nat.le_of_ble_eq_true rfl), (Nat.le_of_ble_eq_true rfl)⟩) ⟨pre_blind, va_recv hst.k (fr_P hP [0] rfl) (ci := 9) (q0 := 0) rfl rfl, pre_at hP hD hS hz hzs hst [0] (by decide) rfl rfl⟩ rfl rfl hl.1 rfl (lv_room (Nat.le_of_ble_eq_true rfl)) dX8_matchesSign_58 ⟨(Nat.le_of_ble_eq_true rfl), (Nat.le_of_ble_eq_true rfl)⟩) hP hD hS hA [0] (by decide) rfl rfl rfl rfl (fun H locs hP hD hS => ?_)
    refine lv_pop hx hb dX8_matchesSign_61 rfl ?_
    refine lv_iconst (v := 1) hx hb dX8_matchesSign_62 (by decide) ?_
    obtain rfl := Option.some.inj hF
    exact en_z hQ (Nat.le_of_ble_eq_true rfl) (Nat.le_of_ble_eq_true rfl) hx hb hr hlocks (by decide) hP hD hS rfl dX8_matchesSign_63
  have hF := q_brn w1_2 hF
  by_cases w1_3 : p1 = 77
  · have hF := q_brp w1_3 hF
    refine lv_lookup (off := 91) (tgt := 92) hx hb dX8_matchesSign_1 (by decide) (by rw [w1_3]; decide) (by decide) ?_
    refine lv_aload_n hx hb dX8_matchesSign_92 rfl (lv_at hl 0 rfl) ?_
    refine lv_bipush (v := 77) hx hb dX8_matchesSign_93 (by decide) ?_
    refine lv_iconst (v := 1) hx hb dX8_matchesSign_95 (by decide) ?_
    refine lv_iconst (v := 0) hx hb dX8_matchesSign_96 (by decide) ?_
    obtain ⟨q6, hq6, hF⟩ := q_bdi hF
    refine cl_i (Lc := [w_Prog E a o x]) (Lc' := [w_Prog E a o ((x.1.1, x.1.2.1, x.1.2.2.1, x.1.2.2.2), (x.2.1.1, x.2.1.2.1, q6.2.1, q6.2.2.1), (q6.2.2.2.1, q6.2.2.2.2, x.2.2.2.2))]) (L' := [w_Prog E a o ((x.1.1, x.1.2.1, x.1.2.2.1, x.1.2.2.2), (x.2.1.1, x.2.1.2.1, q6.2.1, q6.2.2.1), (q6.2.2.2.1, q6.2.2.2.2, x.2.2.2.2))]) (rv := q6.1) (va_runV (As := [.int 77, .int 1, .int 0]) (rest := []) ⟨hx, hb, hml, hown, ha⟩ (k_X8_readArgument l E a o x 77 1 0 q6 hq6 H.size) (cwV 3 ha (gi_V (fun _ h => h) mw1011 mw1013 mw20 mw33 mw1014) rfl rfl rfl hv_X8_readArgument ⟨(Nat.le_of_ble_eq_true rfl), (Nat.le_of_ble_eq_true rfl)⟩) ⟨pre_blind, va_recv hst.k (fr_P hP [0] rfl) (ci := 9) (q0 := 0) rfl rfl, pre_at hP hD hS hz hzs hst [0] (by decide) rfl rfl⟩ rfl rfl hl.1 rfl (lv_room (Nat.le_of_ble_eq_true rfl)) dX8_matchesSign_97 ⟨(Nat.le_of_ble_eq_true rfl), (Nat.le_of_ble_eq_true rfl)⟩) hP hD hS hA [0] (by decide) rfl rfl rfl rfl (fun H locs hP hD hS => ?_)
    refine lv_if_ne (tgt := 114) hx hb dX8_matchesSign_100 (by decide) (fun c100 => ?_) (fun c100 => ?_)
    · have hF := q_brn c100 hF
      refine lv_iconst (v := 1) hx hb dX8_matchesSign_114 (by decide) ?_
      refine lv_goto (tgt := 119) hx hb dX8_matchesSign_115 (by decide) ?_
      obtain rfl := Option.some.inj hF
      exact en_z hQ (Nat.le_of_ble_eq_true rfl) (Nat.le_of_ble_eq_true rfl) hx hb hr hlocks (by decide) hP hD hS rfl dX8_matchesSign_119
    · have hF := q_brp c100 hF
      refine lv_aload_n hx hb dX8_matchesSign_103 rfl (lv_at hl 0 rfl) ?_
      refine lv_bipush (v := 109) hx hb dX8_matchesSign_104 (by decide) ?_
      refine lv_iconst (v := 1) hx hb dX8_matchesSign_106 (by decide) ?_
      refine lv_iconst (v := 1) hx hb dX8_matchesSign_107 (by decide) ?_
      obtain ⟨q7, hq7, hF⟩ := q_bdi hF
      refine cl_i (Lc := [w_Prog E a o ((x.1.1, x.1.2.1, x.1.2.2.1, x.1.2.2.2), (x.2.1.1, x.2.1.2.1, q6.2.1, q6.2.2.1), (q6.2.2.2.1, q6.2.2.2.2, x.2.2.2.2))]) (Lc' := [w_Prog E a o ((x.1.1, x.1.2.1, x.1.2.2.1, x.1.2.2.2), (x.2.1.1, x.2.1.2.1, q7.2.1, q7.2.2.1), (q7.2.2.2.1, q7.2.2.2.2, x.2.2.2.2))]) (L' := [w_Prog E a o ((x.1.1, x.1.2.1, x.1.2.2.1, x.1.2.2.2), (x.2.1.1, x.2.1.2.1, q7.2.1, q7.2.2.1), (q7.2.2.2.1, q7.2.2.2.2, x.2.2.2.2))]) (rv := q7.1) (va_runV (As := [.int 109, .int 1, .int 1]) (rest := []) ⟨hx, hb, hml, hown, ha⟩ (k_X8_readArgument l E a o ((x.1.1, x.1.2.1, x.1.2.2.1, x.1.2.2.2), (x.2.1.1, x.2.1.2.1, q6.2.1, q6.2.2.1), (q6.2.2.2.1, q6.2.2.2.2, x.2.2.2.2)) 109 1 1 q7 hq7 H.size) (cwV 3 ha (gi_V (fun _ h => h) mw1011 mw1013 mw20 mw33 mw1014) rfl rfl rfl hv_X8_readArgument ⟨(Nat.le_of_ble_eq_true rfl), (Nat.le_of_ble_eq_true rfl)⟩) ⟨pre_blind, va_recv hst.k (fr_P hP [0] rfl) (ci := 9) (q0 := 0) rfl rfl, pre_at hP hD hS hz hzs hst [0] (by decide) rfl rfl⟩ rfl rfl hl.1 rfl (lv_room (Nat.le_of_ble_eq_true rfl)) dX8_matchesSign_108 ⟨(Nat.le_of_ble_eq_true rfl), (Nat.le_of_ble_eq_true rfl)⟩) hP hD hS hA [0] (by decide) rfl rfl rfl rfl (fun H locs hP hD hS => ?_)
      refine lv_if_eq (tgt := 118) hx hb dX8_matchesSign_111 (by decide) (fun c111 => ?_) (fun c111 => ?_)
      · have hF := q_brp c111 hF
        refine lv_iconst (v := 0) hx hb dX8_matchesSign_118 (by decide) ?_
        obtain rfl := Option.some.inj hF
        exact en_z hQ (Nat.le_of_ble_eq_true rfl) (Nat.le_of_ble_eq_true rfl) hx hb hr hlocks (by decide) hP hD hS rfl dX8_matchesSign_119
      · have hF := q_brn c111 hF
        refine lv_iconst (v := 1) hx hb dX8_matchesSign_114 (by decide) ?_
        refine lv_goto (tgt := 119) hx hb dX8_matchesSign_115 (by decide) ?_
        obtain rfl := Option.some.inj hF
        exact en_z hQ (Nat.le_of_ble_eq_true rfl) (Nat.le_of_ble_eq_true rfl) hx hb hr hlocks (by decide) hP hD hS rfl dX8_matchesSign_119
  have hF := q_brn w1_3 hF
  by_cases w1_4 : p1 = 83
  · have hF := q_brp w1_4 hF
    refine lv_lookup (off := 63) (tgt := 64) hx hb dX8_matchesSign_1 (by decide) (by rw [w1_4]; decide) (by decide) ?_
    refine lv_aload_n hx hb dX8_matchesSign_64 rfl (lv_at hl 0 rfl) ?_
    refine lv_bipush (v := 43) hx hb dX8_matchesSign_65 (by decide) ?_
    refine lv_iconst (v := 1) hx hb dX8_matchesSign_67 (by decide) ?_
    refine lv_iconst (v := 0) hx hb dX8_matchesSign_68 (by decide) ?_
    obtain ⟨q8, hq8, hF⟩ := q_bdi hF
    refine cl_i (Lc := [w_Prog E a o x]) (Lc' := [w_Prog E a o ((x.1.1, x.1.2.1, x.1.2.2.1, x.1.2.2.2), (x.2.1.1, x.2.1.2.1, q8.2.1, q8.2.2.1), (q8.2.2.2.1, q8.2.2.2.2, x.2.2.2.2))]) (L' := [w_Prog E a o ((x.1.1, x.1.2.1, x.1.2.2.1, x.1.2.2.2), (x.2.1.1, x.2.1.2.1, q8.2.1, q8.2.2.1), (q8.2.2.2.1, q8.2.2.2.2, x.2.2.2.2))]) (rv := q8.1) (va_runV (As := [.int 43, .int 1, .int 0]) (rest := []) ⟨hx, hb, hml, hown, ha⟩ (k_X8_readArgument l E a o x 43 1 0 q8 hq8 H.size) (cwV 3 ha (gi_V (fun _ h => h) mw1011 mw1013 mw20 mw33 mw1014) rfl rfl rfl hv_X8_readArgument ⟨(Nat.le_of_ble_eq_true rfl), (Nat.le_of_ble_eq_true rfl)⟩) ⟨pre_blind, va_recv hst.k (fr_P hP [0] rfl) (ci := 9) (q0 := 0) rfl rfl, pre_at hP hD hS hz hzs hst [0] (by decide) rfl rfl⟩ rfl rfl hl.1 rfl (lv_room (Nat.le_of_ble_eq_true rfl)) dX8_matchesSign_69 ⟨(Nat.le_of_ble_eq_true rfl), (Nat.le_of_ble_eq_true rfl)⟩) hP hD hS hA [0] (by decide) rfl rfl rfl rfl (fun H locs hP hD hS => ?_)
    refine lv_if_ne (tgt := 86) hx hb dX8_matchesSign_72 (by decide) (fun c72 => ?_) (fun c72 => ?_)
    · have hF := q_brn c72 hF
      refine lv_iconst (v := 1) hx hb dX8_matchesSign_86 (by decide) ?_
      refine lv_goto (tgt := 91) hx hb dX8_matchesSign_87 (by decide) ?_
      obtain rfl := Option.some.inj hF
      exact en_z hQ (Nat.le_of_ble_eq_true rfl) (Nat.le_of_ble_eq_true rfl) hx hb hr hlocks (by decide) hP hD hS rfl dX8_matchesSign_91
    · have hF := q_brp c72 hF
      refine lv_aload_n hx hb dX8_matchesSign_75 rfl (lv_at hl 0 rfl) ?_
      refine lv_bipush (v := 45) hx hb dX8_matchesSign_76 (by decide) ?_
      refine lv_iconst (v := (-1)) hx hb dX8_matchesSign_78 (by decide) ?_
      refine lv_iconst (v := 0) hx hb dX8_matchesSign_79 (by decide) ?_
      obtain ⟨q9, hq9, hF⟩ := q_bdi hF
      refine cl_i (Lc := [w_Prog E a o ((x.1.1, x.1.2.1, x.1.2.2.1, x.1.2.2.2), (x.2.1.1, x.2.1.2.1, q8.2.1, q8.2.2.1), (q8.2.2.2.1, q8.2.2.2.2, x.2.2.2.2))]) (Lc' := [w_Prog E a o ((x.1.1, x.1.2.1, x.1.2.2.1, x.1.2.2.2), (x.2.1.1, x.2.1.2.1, q9.2.1, q9.2.2.1), (q9.2.2.2.1, q9.2.2.2.2, x.2.2.2.2))]) (L' := [w_Prog E a o ((x.1.1, x.1.2.1, x.1.2.2.1, x.1.2.2.2), (x.2.1.1, x.2.1.2.1, q9.2.1, q9.2.2.1), (q9.2.2.2.1, q9.2.2.2.2, x.2.2.2.2))]) (rv := q9.1) (va_runV (As := [.int 45, .int (-1), .int 0]) (rest := []) ⟨hx, hb, hml, hown, ha⟩ (k_X8_readArgument l E a o ((x.1.1, x.1.2.1, x.1.2.2.1, x.1.2.2.2), (x.2.1.1, x.2.1.2.1, q8.2.1, q8.2.2.1), (q8.2.2.2.1, q8.2.2.2.2, x.2.2.2.2)) 45 (-1) 0 q9 hq9 H.size) (cwV 3 ha (gi_V (fun _ h => h) mw1011 mw1013 mw20 mw33 mw1014) rfl rfl rfl hv_X8_readArgument ⟨(Nat.le_of_ble_eq_true rfl), (Nat.le_of_ble_eq_true rfl)⟩) ⟨pre_blind, va_recv hst.k (fr_P hP [0] rfl) (ci := 9) (q0 := 0) rfl rfl, pre_at hP hD hS hz hzs hst [0] (by decide) rfl rfl⟩ rfl rfl hl.1 rfl (lv_room (Nat.le_of_ble_eq_true rfl)) dX8_matchesSign_80 ⟨(Nat.le_of_ble_eq_true rfl), (Nat.le_of_ble_eq_true rfl)⟩) hP hD hS hA [0] (by decide) rfl rfl rfl rfl (fun H locs hP hD hS => ?_)
      refine lv_if_eq (tgt := 90) hx hb dX8_matchesSign_83 (by decide) (fun c83 => ?_) (fun c83 => ?_)
      · have hF := q_brp c83 hF
        refine lv_iconst (v := 0) hx hb dX8_matchesSign_90 (by decide) ?_
        obtain rfl := Option.some.inj hF
        exact en_z hQ (Nat.le_of_ble_eq_true rfl) (Nat.le_of_ble_eq_true rfl) hx hb hr hlocks (by decide) hP hD hS rfl dX8_matchesSign_91
      · have hF := q_brn c83 hF
        refine lv_iconst (v := 1) hx hb dX8_matchesSign_86 (by decide) ?_
        refine lv_goto (tgt := 91) hx hb dX8_matchesSign_87 (by decide) ?_
        obtain rfl := Option.some.inj hF
        exact en_z hQ (Nat.le_of_ble_eq_true rfl) (Nat.le_of_ble_eq_true rfl) hx hb hr hlocks (by decide) hP hD hS rfl dX8_matchesSign_91
  have hF := q_brn w1_4 hF
  refine lv_lookup (off := 128) (tgt := 129) hx hb dX8_matchesSign_1 (by decide) ((lv_osw w1_0 (by decide)).trans ((lv_osw w1_1 (by decide)).trans ((lv_osw w1_2 (by decide)).trans ((lv_osw w1_3 (by decide)).trans ((lv_osw w1_4 (by decide)).trans rfl))))) (by decide) ?_
  refine lv_aload_n hx hb dX8_matchesSign_129 rfl (lv_at hl 0 rfl) ?_
  refine lv_iload_n hx hb dX8_matchesSign_130 rfl (lv_at hl 1 rfl) ?_
  obtain ⟨q10, hq10, hF⟩ := q_bdi hF
  refine cl_i (Lc := [w_Prog E a o x]) (Lc' := [w_Prog E a o ((x.1.1, x.1.2.1, x.1.2.2.1, x.1.2.2.2), (x.2.1.1, x.2.1.2.1, x.2.1.2.2.1, x.2.1.2.2.2), (x.2.2.1, q10.2, x.2.2.2.2))]) (L' := [w_Prog E a o ((x.1.1, x.1.2.1, x.1.2.2.1, x.1.2.2.2), (x.2.1.1, x.2.1.2.1, x.2.1.2.2.1, x.2.1.2.2.2), (x.2.2.1, q10.2, x.2.2.2.2))]) (rv := q10.1) (va_runV (As := [.int p1]) (rest := []) ⟨hx, hb, hml, hown, ha⟩ (k_X8_readLetter l E a o x p1 q10 hq10 H.size) (cwV 1 ha (gi_V (fun _ h => h) mw1015 mw1017 mw21 mw33 mw1018) rfl rfl rfl hv_X8_readLetter ⟨(Nat.le_of_ble_eq_true rfl), (Nat.le_of_ble_eq_true rfl)⟩) ⟨pre_blind, va_recv hst.k (fr_P hP [0] rfl) (ci := 9) (q0 := 0) rfl rfl, pre_at hP hD hS hz hzs hst [0] (by decide) rfl rfl⟩ rfl rfl hl.1 rfl (lv_room (Nat.le_of_ble_eq_true rfl)) dX8_matchesSign_131 ⟨(Nat.le_of_ble_eq_true rfl), (Nat.le_of_ble_eq_true rfl)⟩) hP hD hS hA [0] (by decide) rfl rfl rfl rfl (fun H locs hP hD hS => ?_)
  obtain ⟨g11, hF⟩ := q_gdi hF
  obtain rfl := Option.some.inj hF
  exact en_z hQ (Nat.le_of_ble_eq_true rfl) (Nat.le_of_ble_eq_true rfl) hx hb hr hlocks (nz_b g11) hP hD hS rfl dX8_matchesSign_134

/-! X8_matches -/
theorem dX8_matches_0 : decode cX8_matches 0 = .ok (.aload_n 0, 1) := by decide +kernel
theorem dX8_matches_1 : decode cX8_matches 1 = .ok (.iconst (-1), 1) := by decide +kernel
theorem dX8_matches_2 : decode cX8_matches 2 = .ok (.putfield 38, 3) := by decide +kernel
theorem dX8_matches_5 : decode cX8_matches 5 = .ok (.iconst 0, 1) := by decide +kernel
theorem dX8_matches_6 : decode cX8_matches 6 = .ok (.istore_n 2, 1) := by decide +kernel
theorem dX8_matches_7 : decode cX8_matches 7 = .ok (.iload_n 2, 1) := by decide +kernel
theorem dX8_matches_8 : decode cX8_matches 8 = .ok (.aload_n 1, 1) := by decide +kernel
theorem dX8_matches_9 : decode cX8_matches 9 = .ok (.invokevirtual 82, 3) := by decide +kernel
theorem dX8_matches_12 : decode cX8_matches 12 = .ok (.if_icmp .ge 23, 3) := by decide +kernel
theorem dX8_matches_15 : decode cX8_matches 15 = .ok (.aload_n 0, 1) := by decide +kernel
theorem dX8_matches_16 : decode cX8_matches 16 = .ok (.aload_n 1, 1) := by decide +kernel
theorem dX8_matches_17 : decode cX8_matches 17 = .ok (.iload_n 2, 1) := by decide +kernel
theorem dX8_matches_18 : decode cX8_matches 18 = .ok (.invokevirtual 87, 3) := by decide +kernel
theorem dX8_matches_21 : decode cX8_matches 21 = .ok (.invokevirtual 91, 3) := by decide +kernel
theorem dX8_matches_24 : decode cX8_matches 24 = .ok (.ifCond .ne 5, 3) := by decide +kernel
theorem dX8_matches_27 : decode cX8_matches 27 = .ok (.iconst 0, 1) := by decide +kernel
theorem dX8_matches_28 : decode cX8_matches 28 = .ok (.ireturn, 1) := by decide +kernel
theorem dX8_matches_29 : decode cX8_matches 29 = .ok (.iinc 2 1, 3) := by decide +kernel
theorem dX8_matches_32 : decode cX8_matches 32 = .ok (.goto (-25), 3) := by decide +kernel
theorem dX8_matches_35 : decode cX8_matches 35 = .ok (.iconst 1, 1) := by decide +kernel
theorem dX8_matches_36 : decode cX8_matches 36 = .ok (.ireturn, 1) := by decide +kernel
def f_X8_matches_L7 (x_text : (Nat → Int32)) (x_length : Int32) (p1 : Nat) : Nat → Int32 → (Nat → Int32) → Int32 → Int32 → Int32 → Option (Int32 × (Nat → Int32) × Int32 × Int32 × Int32)
  | 0, _, _, _, _, _ => none
  | n7 + 1, i1, i2, i3, i4, i5 =>
    q_gd (p1 < 27) (
  q_bd (f_J0_length_8abf5 p1) (fun q7 =>
  q_br (q7 ≤ i1) (
  some (1, i2, i3, i4, i5)) (
  q_gd (p1 < 27) (
  q_bd (f_J0_charAt_5068e p1 i1) (fun q9 =>
  q_bd (f_X8_matchesSign x_text x_length i2 i3 i4 i5 q9) (fun q10 =>
  q_br (q10.1 = 0) (
  some (0, q10.2.1, q10.2.2.1, q10.2.2.2.1, q10.2.2.2.2)) (
  q_lt (i1 + 1 : Int32) (fun v11 =>
  f_X8_matches_L7 x_text x_length p1 n7 v11 q10.2.1 q10.2.2.1 q10.2.2.2.1 q10.2.2.2.2))))))))
def f_X8_matches (x_text : (Nat → Int32)) (x_length : Int32) (x_values : (Nat → Int32)) (x_argument : Int32) (x_sign : Int32) (x_at : Int32) (p1 : Nat) : Option (Int32 × (Nat → Int32) × Int32 × Int32 × Int32) :=
  f_X8_matches_L7 x_text x_length p1 2000 0 x_values (-1) x_sign x_at
theorem hv_X8_matches : yX8_matches.cls = RX8 ∧ yX8_matches.cls ≠ "java/lang/invoke/MethodHandle" ∧ yX8_matches.cls ≠ "java/lang/invoke/VarHandle" ∧ (parseMethodDescriptor yX8_matches.desc).map (fun d => d.parameters.length) = some 1 := by decide +kernel
abbrev rm_X8_matches : Room := { frames := 4, cells := 0, slots := 0, locals := 86 }
set_option maxHeartbeats 4000000 in
set_option maxRecDepth 100000 in
theorem k_X8_matches (l : Launch) (E : ET) (a : Nat → Nat) (o : Nat) (x : Prog_t) (p1 : Nat) (res : Int32 × (Nat → Int32) × Int32 × Int32 × Int32) (hF : f_X8_matches x.1.1 x.1.2.1 x.2.1.2.2.1 x.2.1.2.2.2 x.2.2.1 x.2.2.2.1 p1 = some res) (sz : Nat) : CtI l yX8_matches (mws yX8_matches cX8_matches 3 (some .boolean)) rm_X8_matches 0 0 [.ref (a o), .ref (E.2 (200 + p1))] E (bl_Prog E a o x) res.1 (bl_Prog E a o ((x.1.1, x.1.2.1, x.1.2.2.1, x.1.2.2.2), (x.2.1.1, x.2.1.2.1, res.2.1, res.2.2.1), (res.2.2.2.1, res.2.2.2.2, x.2.2.2.2))) sz := by
  refine mk_M (by decide +kernel) (Nat.le_of_ble_eq_true rfl) ?_
  intro p e s m below meth c A args Q ls hAe hsz hQ hx hb hr hml hin ha hown hlocks hA hz hzs hst hP hD hS hl
  have hown : s.vm.findClass RX8 = some m.cls := hown
  rw [hAe] at hQ
  subst hsz
  have hP : va_P E.1 vwCl (List.flatten [w_Prog E a o x]) s.heap := hP
  have hD : va_D A (List.flatten [w_Prog E a o x]) := hD
  have hl : lv_has ls 3 [(0, .ref (a o)), (1, .ref (E.2 (200 + p1)))] := hl
  generalize hHe : s.heap = H at hP
  have hS : va_S A s.heap H [] := by rw [← hHe]; exact hS
  generalize ([] : List Loc) = locs at hS ⊢
  unfold f_X8_matches at hF
  refine lv_aload_n hx hb dX8_matches_0 rfl (lv_at hl 0 rfl) ?_
  refine lv_iconst (v := (-1)) hx hb dX8_matches_1 (by decide) ?_
  refine va_put (D := E.1) (ci := 9) (v := .int (-1)) (ty := .int) (C := RX8) (T := TX8) (N := 11) hx hb ha in_X8 tyX8 tyX8_ok nmX8 hown hst.k hP hD hS 0 rfl rfl 7 (by decide) (ha _ mw206) (fun _ h9 => h9) rfl (tyX8_ok 7 (by decide)) rfl rfl (Nat.le_of_ble_eq_true rfl) dX8_matches_2 (fun H locs hP hD hS => ?_)
  have hP : va_P E.1 vwCl (List.flatten [w_Prog E a o ((x.1.1, x.1.2.1, x.1.2.2.1, x.1.2.2.2), (x.2.1.1, x.2.1.2.1, x.2.1.2.2.1, (-1)), (x.2.2.1, x.2.2.2.1, x.2.2.2.2))]) H := hP
  have hD : va_D A (List.flatten [w_Prog E a o ((x.1.1, x.1.2.1, x.1.2.2.1, x.1.2.2.2), (x.2.1.1, x.2.1.2.1, x.2.1.2.2.1, (-1)), (x.2.2.1, x.2.2.2.1, x.2.2.2.2))]) := hD
  refine lv_iconst (v := 0) hx hb dX8_matches_5 (by decide) ?_
  refine lv_istore_n (lv' := [(2, .int 0), (0, .ref (a o)), (1, .ref (E.2 (200 + p1)))]) hx hb dX8_matches_6 rfl hl (by decide) rfl (fun ls hl => ?_)
  have key7 : ∀ (n : Nat) (i1 : Int32) (i2 : (Nat → Int32)) (i3 : Int32) (i4 : Int32) (i5 : Int32) (H : Heap) (locs : List Loc) (ls : Array Slot), f_X8_matches_L7 x.1.1 x.1.2.1 p1 n i1 i2 i3 i4 i5 = some res → va_P E.1 vwCl (List.flatten [w_Prog E a o ((x.1.1, x.1.2.1, x.1.2.2.1, x.1.2.2.2), (x.2.1.1, x.2.1.2.1, i2, i3), (i4, i5, x.2.2.2.2))]) H → va_D A (List.flatten [w_Prog E a o ((x.1.1, x.1.2.1, x.1.2.2.1, x.1.2.2.2), (x.2.1.1, x.2.1.2.1, i2, i3), (i4, i5, x.2.2.2.2))]) → va_S A s.heap H locs → lv_has ls 3 [(2, .int i1), (0, .ref (a o)), (1, .ref (E.2 (200 + p1)))] → W p l e rm_X8_matches s m args below meth c H locs 0 0 Q (F0 m 7 ls []) := by
    intro n7
    induction n7 with
    | zero => intro i1 i2 i3 i4 i5 H locs ls hF; exact absurd hF (by simp [f_X8_matches_L7])
    | succ n7 ih7 =>
      intro i1 i2 i3 i4 i5 H locs ls hF hP hD hS hl
      rw [f_X8_matches_L7] at hF
      refine lv_iload_n hx hb dX8_matches_7 rfl (lv_at hl 0 rfl) ?_
      refine lv_aload_n hx hb dX8_matches_8 rfl (lv_at hl 2 rfl) ?_
      obtain ⟨g6, hF⟩ := q_gdi hF
      obtain ⟨q7, hq7, hF⟩ := q_bdi hF
      refine cl_i (Lc := []) (Lc' := []) (L' := [w_Prog E a o ((x.1.1, x.1.2.1, x.1.2.2.1, x.1.2.2.2), (x.2.1.1, x.2.1.2.1, i2, i3), (i4, i5, x.2.2.2.2))]) (rv := q7) (va_runV (As := []) (rest := [.int i1]) ⟨hx, hb, hml, hown, ha⟩ (k_J0_length_8abf5 l E p1 q7 hq7 H.size) (cwV 0 ha (gi_V (fun _ h => h) mw955 mw956 mw957 mw37 mw958) rfl rfl rfl hv_J0_length_8abf5 ⟨(Nat.le_of_ble_eq_true rfl), (Nat.le_of_ble_eq_true rfl)⟩) ⟨pre_blind, re_st hst hz hS g6, pre_at hP hD hS hz hzs hst [] (by decide) rfl rfl⟩ rfl rfl hl.1 rfl (lv_room (Nat.le_of_ble_eq_true rfl)) dX8_matches_9 ⟨(Nat.le_of_ble_eq_true rfl), (Nat.le_of_ble_eq_true rfl)⟩) hP hD hS hA [] (by decide) rfl rfl rfl rfl (fun H locs hP hD hS => ?_)
      refine lv_icmp_ge (tgt := 35) hx hb dX8_matches_12 (by decide) (fun c12 => ?_) (fun c12 => ?_)
      · have hF := q_brp c12 hF
        refine lv_iconst (v := 1) hx hb dX8_matches_35 (by decide) ?_
        obtain rfl := Option.some.inj hF
        exact en_z hQ (Nat.le_of_ble_eq_true rfl) (Nat.le_of_ble_eq_true rfl) hx hb hr hlocks (by decide) hP hD hS rfl dX8_matches_36
      · have hF := q_brn c12 hF
        refine lv_aload_n hx hb dX8_matches_15 rfl (lv_at hl 1 rfl) ?_
        refine lv_aload_n hx hb dX8_matches_16 rfl (lv_at hl 2 rfl) ?_
        refine lv_iload_n hx hb dX8_matches_17 rfl (lv_at hl 0 rfl) ?_
        obtain ⟨g8, hF⟩ := q_gdi hF
        obtain ⟨q9, hq9, hF⟩ := q_bdi hF
        refine cl_i (Lc := []) (Lc' := []) (L' := [w_Prog E a o ((x.1.1, x.1.2.1, x.1.2.2.1, x.1.2.2.2), (x.2.1.1, x.2.1.2.1, i2, i3), (i4, i5, x.2.2.2.2))]) (rv := q9) (va_runV (As := [.int i1]) (rest := [.ref (a o)]) ⟨hx, hb, hml, hown, ha⟩ (k_J0_charAt_5068e l E p1 i1 q9 hq9 H.size) (cwV 1 ha (gi_V (fun _ h => h) mw964 mw965 mw966 mw37 mw967) rfl rfl rfl hv_J0_charAt_5068e ⟨(Nat.le_of_ble_eq_true rfl), (Nat.le_of_ble_eq_true rfl)⟩) ⟨pre_blind, re_st hst hz hS g8, pre_at hP hD hS hz hzs hst [] (by decide) rfl rfl⟩ rfl rfl hl.1 rfl (lv_room (Nat.le_of_ble_eq_true rfl)) dX8_matches_18 ⟨(Nat.le_of_ble_eq_true rfl), (Nat.le_of_ble_eq_true rfl)⟩) hP hD hS hA [] (by decide) rfl rfl rfl rfl (fun H locs hP hD hS => ?_)
        obtain ⟨q10, hq10, hF⟩ := q_bdi hF
        refine cl_i (Lc := [w_Prog E a o ((x.1.1, x.1.2.1, x.1.2.2.1, x.1.2.2.2), (x.2.1.1, x.2.1.2.1, i2, i3), (i4, i5, x.2.2.2.2))]) (Lc' := [w_Prog E a o ((x.1.1, x.1.2.1, x.1.2.2.1, x.1.2.2.2), (x.2.1.1, x.2.1.2.1, q10.2.1, q10.2.2.1), (q10.2.2.2.1, q10.2.2.2.2, x.2.2.2.2))]) (L' := [w_Prog E a o ((x.1.1, x.1.2.1, x.1.2.2.1, x.1.2.2.2), (x.2.1.1, x.2.1.2.1, q10.2.1, q10.2.2.1), (q10.2.2.2.1, q10.2.2.2.2, x.2.2.2.2))]) (rv := q10.1) (va_runV (As := [.int q9]) (rest := []) ⟨hx, hb, hml, hown, ha⟩ (k_X8_matchesSign l E a o ((x.1.1, x.1.2.1, x.1.2.2.1, x.1.2.2.2), (x.2.1.1, x.2.1.2.1, i2, i3), (i4, i5, x.2.2.2.2)) q9 q10 hq10 H.size) (cwV 1 ha (gi_V (fun _ h => h) mw1002 mw1004 mw18 mw33 mw1005) rfl rfl rfl hv_X8_matchesSign ⟨(Nat.le_of_ble_eq_true rfl), (Nat.le_of_ble_eq_true rfl)⟩) ⟨pre_blind, va_recv hst.k (fr_P hP [0] rfl) (ci := 9) (q0 := 0) rfl rfl, pre_at hP hD hS hz hzs hst [0] (by decide) rfl rfl⟩ rfl rfl hl.1 rfl (lv_room (Nat.le_of_ble_eq_true rfl)) dX8_matches_21 ⟨(Nat.le_of_ble_eq_true rfl), (Nat.le_of_ble_eq_true rfl)⟩) hP hD hS hA [0] (by decide) rfl rfl rfl rfl (fun H locs hP hD hS => ?_)
        refine lv_if_ne (tgt := 29) hx hb dX8_matches_24 (by decide) (fun c24 => ?_) (fun c24 => ?_)
        · have hF := q_brn c24 hF
          obtain ⟨v11, ev11⟩ : ∃ y : Int32, y = i1 + 1 := ⟨_, rfl⟩
          have hF := q_lti ev11 hF
          refine lv_iinc (v := v11) (lv' := [(2, .int v11), (0, .ref (a o)), (1, .ref (E.2 (200 + p1)))]) hx hb dX8_matches_29 hl (k := 0) rfl (by rw [ev11]; rfl) (by decide) rfl (fun ls hl => ?_)
          refine lv_goto (tgt := 7) hx hb dX8_matches_32 (by decide) ?_
          exact ih7 v11 q10.2.1 q10.2.2.1 q10.2.2.2.1 q10.2.2.2.2 H locs ls hF hP hD hS (lv_sub hl [0, 1, 2] rfl)
        · have hF := q_brp c24 hF
          refine lv_iconst (v := 0) hx hb dX8_matches_27 (by decide) ?_
          obtain rfl := Option.some.inj hF
          exact en_z hQ (Nat.le_of_ble_eq_true rfl) (Nat.le_of_ble_eq_true rfl) hx hb hr hlocks (by decide) hP hD hS rfl dX8_matches_28
  exact key7 _ 0 x.2.1.2.2.1 (-1) x.2.2.1 x.2.2.2.1 H locs ls hF hP hD hS (lv_sub hl [0, 1, 2] rfl)

/-! X8_note -/
theorem dX8_note_0 : decode cX8_note 0 = .ok (.aload_n 0, 1) := by decide +kernel
theorem dX8_note_1 : decode cX8_note 1 = .ok (.getfield 32, 3) := by decide +kernel
theorem dX8_note_4 : decode cX8_note 4 = .ok (.bipush 60, 2) := by decide +kernel
theorem dX8_note_6 : decode cX8_note 6 = .ok (.if_icmp .ge 53, 3) := by decide +kernel
theorem dX8_note_9 : decode cX8_note 9 = .ok (.aload_n 0, 1) := by decide +kernel
theorem dX8_note_10 : decode cX8_note 10 = .ok (.getfield 21, 3) := by decide +kernel
theorem dX8_note_13 : decode cX8_note 13 = .ok (.aload_n 0, 1) := by decide +kernel
theorem dX8_note_14 : decode cX8_note 14 = .ok (.getfield 32, 3) := by decide +kernel
theorem dX8_note_17 : decode cX8_note 17 = .ok (.aload_n 1, 1) := by decide +kernel
theorem dX8_note_18 : decode cX8_note 18 = .ok (.aastore, 1) := by decide +kernel
theorem dX8_note_19 : decode cX8_note 19 = .ok (.aload_n 0, 1) := by decide +kernel
theorem dX8_note_20 : decode cX8_note 20 = .ok (.getfield 25, 3) := by decide +kernel
theorem dX8_note_23 : decode cX8_note 23 = .ok (.aload_n 0, 1) := by decide +kernel
theorem dX8_note_24 : decode cX8_note 24 = .ok (.getfield 32, 3) := by decide +kernel
theorem dX8_note_27 : decode cX8_note 27 = .ok (.aload_n 0, 1) := by decide +kernel
theorem dX8_note_28 : decode cX8_note 28 = .ok (.getfield 35, 3) := by decide +kernel
theorem dX8_note_31 : decode cX8_note 31 = .ok (.iconst 0, 1) := by decide +kernel
theorem dX8_note_32 : decode cX8_note 32 = .ok (.iaload, 1) := by decide +kernel
theorem dX8_note_33 : decode cX8_note 33 = .ok (.iastore, 1) := by decide +kernel
theorem dX8_note_34 : decode cX8_note 34 = .ok (.aload_n 0, 1) := by decide +kernel
theorem dX8_note_35 : decode cX8_note 35 = .ok (.getfield 29, 3) := by decide +kernel
theorem dX8_note_38 : decode cX8_note 38 = .ok (.aload_n 0, 1) := by decide +kernel
theorem dX8_note_39 : decode cX8_note 39 = .ok (.getfield 32, 3) := by decide +kernel
theorem dX8_note_42 : decode cX8_note 42 = .ok (.aload_n 0, 1) := by decide +kernel
theorem dX8_note_43 : decode cX8_note 43 = .ok (.getfield 35, 3) := by decide +kernel
theorem dX8_note_46 : decode cX8_note 46 = .ok (.iconst 1, 1) := by decide +kernel
theorem dX8_note_47 : decode cX8_note 47 = .ok (.iaload, 1) := by decide +kernel
theorem dX8_note_48 : decode cX8_note 48 = .ok (.iastore, 1) := by decide +kernel
theorem dX8_note_49 : decode cX8_note 49 = .ok (.aload_n 0, 1) := by decide +kernel
theorem dX8_note_50 : decode cX8_note 50 = .ok (.dup, 1) := by decide +kernel
theorem dX8_note_51 : decode cX8_note 51 = .ok (.getfield 32, 3) := by decide +kernel
theorem dX8_note_54 : decode cX8_note 54 = .ok (.iconst 1, 1) := by decide +kernel
theorem dX8_note_55 : decode cX8_note 55 = .ok (.iadd, 1) := by decide +kernel
theorem dX8_note_56 : decode cX8_note 56 = .ok (.putfield 32, 3) := by decide +kernel
theorem dX8_note_59 : decode cX8_note 59 = .ok (.return_, 1) := by decide +kernel
def f_X8_note (x_commands : (Nat → Option Nat)) (x_firsts : (Nat → Int32)) (x_seconds : (Nat → Int32)) (x_count : Int32) (x_values : (Nat → Int32)) (p1 : Nat) : Option ((Nat → Option Nat) × (Nat → Int32) × (Nat → Int32) × Int32) :=
  q_br (60 ≤ x_count) (
  some (x_commands, x_firsts, x_seconds, x_count)) (
  q_gd (q_in x_count 60) (
  q_gd (p1 < 12) (
  q_lt (updE x_commands (x_count.toNatClampNeg) p1) (fun u3 =>
  q_gd (q_in x_count 60) (
  q_lt (upd x_firsts (x_count.toNatClampNeg) (x_values 0)) (fun u5 =>
  q_gd (q_in x_count 60) (
  q_lt (upd x_seconds (x_count.toNatClampNeg) (x_values 1)) (fun u7 =>
  some (u3, u5, u7, x_count + 1)))))))))
theorem hv_X8_note : yX8_note.cls = RX8 ∧ yX8_note.cls ≠ "java/lang/invoke/MethodHandle" ∧ yX8_note.cls ≠ "java/lang/invoke/VarHandle" ∧ (parseMethodDescriptor yX8_note.desc).map (fun d => d.parameters.length) = some 1 := by decide +kernel
abbrev rm_X8_note : Room := { frames := 0, cells := 0, slots := 0, locals := 0 }
set_option maxHeartbeats 4000000 in
set_option maxRecDepth 100000 in
theorem k_X8_note (l : Launch) (E : ET) (a : Nat → Nat) (o : Nat) (x : Prog_t) (p1 : Nat) (res : (Nat → Option Nat) × (Nat → Int32) × (Nat → Int32) × Int32) (hF : f_X8_note x.1.2.2.1 x.1.2.2.2 x.2.1.1 x.2.1.2.1 x.2.1.2.2.1 p1 = some res) (sz : Nat) : CtV l yX8_note (mws yX8_note cX8_note 2 none) rm_X8_note 0 0 [.ref (a o), .ref (E.2 (100 + p1))] E (bl_Prog E a o x) (bl_Prog E a o ((x.1.1, x.1.2.1, res.1, res.2.1), (res.2.2.1, res.2.2.2, x.2.1.2.2.1, x.2.1.2.2.2), (x.2.2.1, x.2.2.2.1, x.2.2.2.2))) sz := by
  refine mk_M (by decide +kernel) (Nat.le_of_ble_eq_true rfl) ?_
  intro p e s m below meth c A args Q ls hAe hsz hQ hx hb hr hml hin ha hown hlocks hA hz hzs hst hP hD hS hl
  have hown : s.vm.findClass RX8 = some m.cls := hown
  rw [hAe] at hQ
  subst hsz
  have hP : va_P E.1 vwCl (List.flatten [w_Prog E a o x]) s.heap := hP
  have hD : va_D A (List.flatten [w_Prog E a o x]) := hD
  have hl : lv_has ls 2 [(0, .ref (a o)), (1, .ref (E.2 (100 + p1)))] := hl
  generalize hHe : s.heap = H at hP
  have hS : va_S A s.heap H [] := by rw [← hHe]; exact hS
  generalize ([] : List Loc) = locs at hS ⊢
  unfold f_X8_note at hF
  refine lv_aload_n hx hb dX8_note_0 rfl (lv_at hl 0 rfl) ?_
  refine va_get (D := E.1) (ci := 9) (v := .int x.2.1.2.1) (C := RX8) (T := TX8) (N := 11) hx hb ha in_X8 hown hst.k hP 0 rfl rfl 5 (by decide) (ha _ mw203) (fun _ h9 => h9) rfl dX8_note_1 ?_
  refine lv_bipush (v := 60) hx hb dX8_note_4 (by decide) ?_
  refine lv_icmp_ge (tgt := 59) hx hb dX8_note_6 (by decide) (fun c6 => ?_) (fun c6 => ?_)
  · have hF := q_brp c6 hF
    obtain rfl := Option.some.inj hF
    exact en_v hQ (Nat.le_of_ble_eq_true rfl) (Nat.le_of_ble_eq_true rfl) hx hb hr hlocks hP hD hS dX8_note_59
  · have hF := q_brn c6 hF
    refine lv_aload_n hx hb dX8_note_9 rfl (lv_at hl 0 rfl) ?_
    refine va_get (D := E.1) (ci := 9) (v := .ref (a (o + 2))) (C := RX8) (T := TX8) (N := 11) hx hb ha in_X8 hown hst.k hP 0 rfl rfl 2 (by decide) (ha _ mw200) (fun _ h9 => h9) rfl dX8_note_10 ?_
    refine lv_aload_n hx hb dX8_note_13 rfl (lv_at hl 0 rfl) ?_
    refine va_get (D := E.1) (ci := 9) (v := .int x.2.1.2.1) (C := RX8) (T := TX8) (N := 11) hx hb ha in_X8 hown hst.k hP 0 rfl rfl 5 (by decide) (ha _ mw203) (fun _ h9 => h9) rfl dX8_note_14 ?_
    refine lv_aload_n hx hb dX8_note_17 rfl (lv_at hl 1 rfl) ?_
    obtain ⟨g1, hF⟩ := q_gdi hF
    obtain ⟨g2, hF⟩ := q_gdi hF
    refine vj_aste hx hb hst hP hD hz hS 2 4 rfl rfl (f := x.1.2.2.1) (k := x.2.1.2.1.toNatClampNeg) (v := p1) rfl g1 g2 dX8_note_18 (fun u3 eu3 H locs hP hD hS => ?_)
    have hF := q_lti eu3 hF
    have hP : va_P E.1 vwCl (List.flatten [w_Prog E a o ((x.1.1, x.1.2.1, u3, x.1.2.2.2), (x.2.1.1, x.2.1.2.1, x.2.1.2.2.1, x.2.1.2.2.2), (x.2.2.1, x.2.2.2.1, x.2.2.2.2))]) H := hP
    have hD : va_D A (List.flatten [w_Prog E a o ((x.1.1, x.1.2.1, u3, x.1.2.2.2), (x.2.1.1, x.2.1.2.1, x.2.1.2.2.1, x.2.1.2.2.2), (x.2.2.1, x.2.2.2.1, x.2.2.2.2))]) := hD
    refine lv_aload_n hx hb dX8_note_19 rfl (lv_at hl 0 rfl) ?_
    refine va_get (D := E.1) (ci := 9) (v := .ref (a (o + 3))) (C := RX8) (T := TX8) (N := 11) hx hb ha in_X8 hown hst.k hP 0 rfl rfl 3 (by decide) (ha _ mw201) (fun _ h9 => h9) rfl dX8_note_20 ?_
    refine lv_aload_n hx hb dX8_note_23 rfl (lv_at hl 0 rfl) ?_
    refine va_get (D := E.1) (ci := 9) (v := .int x.2.1.2.1) (C := RX8) (T := TX8) (N := 11) hx hb ha in_X8 hown hst.k hP 0 rfl rfl 5 (by decide) (ha _ mw203) (fun _ h9 => h9) rfl dX8_note_24 ?_
    refine lv_aload_n hx hb dX8_note_27 rfl (lv_at hl 0 rfl) ?_
    refine va_get (D := E.1) (ci := 9) (v := .ref (a (o + 5))) (C := RX8) (T := TX8) (N := 11) hx hb ha in_X8 hown hst.k hP 0 rfl rfl 6 (by decide) (ha _ mw205) (fun _ h9 => h9) rfl dX8_note_28 ?_
    refine lv_iconst (v := 0) hx hb dX8_note_31 (by decide) ?_
    refine vi_iald hx hb hst.k hP 5 0 rfl rfl (f := x.2.1.2.2.1) (k := 0) (by decide) (by decide) dX8_note_32 ?_
    obtain ⟨g4, hF⟩ := q_gdi hF
    refine vj_iast hx hb hst.k hP hD hS 3 0 rfl rfl (f := x.1.2.2.2) (k := x.2.1.2.1.toNatClampNeg) rfl g4 dX8_note_33 (fun u5 eu5 H locs hP hD hS => ?_)
    have hF := q_lti eu5 hF
    have hP : va_P E.1 vwCl (List.flatten [w_Prog E a o ((x.1.1, x.1.2.1, u3, u5), (x.2.1.1, x.2.1.2.1, x.2.1.2.2.1, x.2.1.2.2.2), (x.2.2.1, x.2.2.2.1, x.2.2.2.2))]) H := hP
    have hD : va_D A (List.flatten [w_Prog E a o ((x.1.1, x.1.2.1, u3, u5), (x.2.1.1, x.2.1.2.1, x.2.1.2.2.1, x.2.1.2.2.2), (x.2.2.1, x.2.2.2.1, x.2.2.2.2))]) := hD
    refine lv_aload_n hx hb dX8_note_34 rfl (lv_at hl 0 rfl) ?_
    refine va_get (D := E.1) (ci := 9) (v := .ref (a (o + 4))) (C := RX8) (T := TX8) (N := 11) hx hb ha in_X8 hown hst.k hP 0 rfl rfl 4 (by decide) (ha _ mw202) (fun _ h9 => h9) rfl dX8_note_35 ?_
    refine lv_aload_n hx hb dX8_note_38 rfl (lv_at hl 0 rfl) ?_
    refine va_get (D := E.1) (ci := 9) (v := .int x.2.1.2.1) (C := RX8) (T := TX8) (N := 11) hx hb ha in_X8 hown hst.k hP 0 rfl rfl 5 (by decide) (ha _ mw203) (fun _ h9 => h9) rfl dX8_note_39 ?_
    refine lv_aload_n hx hb dX8_note_42 rfl (lv_at hl 0 rfl) ?_
    refine va_get (D := E.1) (ci := 9) (v := .ref (a (o + 5))) (C := RX8) (T := TX8) (N := 11) hx hb ha in_X8 hown hst.k hP 0 rfl rfl 6 (by decide) (ha _ mw205) (fun _ h9 => h9) rfl dX8_note_43 ?_
    refine lv_iconst (v := 1) hx hb dX8_note_46 (by decide) ?_
    refine vi_iald hx hb hst.k hP 5 0 rfl rfl (f := x.2.1.2.2.1) (k := 1) (by decide) (by decide) dX8_note_47 ?_
    obtain ⟨g6, hF⟩ := q_gdi hF
    refine vj_iast hx hb hst.k hP hD hS 4 0 rfl rfl (f := x.2.1.1) (k := x.2.1.2.1.toNatClampNeg) rfl g6 dX8_note_48 (fun u7 eu7 H locs hP hD hS => ?_)
    have hF := q_lti eu7 hF
    have hP : va_P E.1 vwCl (List.flatten [w_Prog E a o ((x.1.1, x.1.2.1, u3, u5), (u7, x.2.1.2.1, x.2.1.2.2.1, x.2.1.2.2.2), (x.2.2.1, x.2.2.2.1, x.2.2.2.2))]) H := hP
    have hD : va_D A (List.flatten [w_Prog E a o ((x.1.1, x.1.2.1, u3, u5), (u7, x.2.1.2.1, x.2.1.2.2.1, x.2.1.2.2.2), (x.2.2.1, x.2.2.2.1, x.2.2.2.2))]) := hD
    refine lv_aload_n hx hb dX8_note_49 rfl (lv_at hl 0 rfl) ?_
    refine lv_dup hx hb dX8_note_50 rfl ?_
    refine va_get (D := E.1) (ci := 9) (v := .int x.2.1.2.1) (C := RX8) (T := TX8) (N := 11) hx hb ha in_X8 hown hst.k hP 0 rfl rfl 5 (by decide) (ha _ mw203) (fun _ h9 => h9) rfl dX8_note_51 ?_
    refine lv_iconst (v := 1) hx hb dX8_note_54 (by decide) ?_
    refine lv_iadd hx hb dX8_note_55 ?_
    refine va_put (D := E.1) (ci := 9) (v := .int (x.2.1.2.1 + 1)) (ty := .int) (C := RX8) (T := TX8) (N := 11) hx hb ha in_X8 tyX8 tyX8_ok nmX8 hown hst.k hP hD hS 0 rfl rfl 5 (by decide) (ha _ mw203) (fun _ h9 => h9) rfl (tyX8_ok 5 (by decide)) rfl rfl (Nat.le_of_ble_eq_true rfl) dX8_note_56 (fun H locs hP hD hS => ?_)
    have hP : va_P E.1 vwCl (List.flatten [w_Prog E a o ((x.1.1, x.1.2.1, u3, u5), (u7, x.2.1.2.1 + 1, x.2.1.2.2.1, x.2.1.2.2.2), (x.2.2.1, x.2.2.2.1, x.2.2.2.2))]) H := hP
    have hD : va_D A (List.flatten [w_Prog E a o ((x.1.1, x.1.2.1, u3, u5), (u7, x.2.1.2.1 + 1, x.2.1.2.2.1, x.2.1.2.2.2), (x.2.2.1, x.2.2.2.1, x.2.2.2.2))]) := hD
    obtain rfl := Option.some.inj hF
    exact en_v hQ (Nat.le_of_ble_eq_true rfl) (Nat.le_of_ble_eq_true rfl) hx hb hr hlocks hP hD hS dX8_note_59

/-! X8_readCommand -/
theorem dX8_readCommand_0 : decode cX8_readCommand 0 = .ok (.aload_n 0, 1) := by decide +kernel
theorem dX8_readCommand_1 : decode cX8_readCommand 1 = .ok (.getfield 44, 3) := by decide +kernel
theorem dX8_readCommand_4 : decode cX8_readCommand 4 = .ok (.istore_n 1, 1) := by decide +kernel
theorem dX8_readCommand_5 : decode cX8_readCommand 5 = .ok (.aload_n 0, 1) := by decide +kernel
theorem dX8_readCommand_6 : decode cX8_readCommand 6 = .ok (.iload_n 1, 1) := by decide +kernel
theorem dX8_readCommand_7 : decode cX8_readCommand 7 = .ok (.putfield 47, 3) := by decide +kernel
theorem dX8_readCommand_10 : decode cX8_readCommand 10 = .ok (.getstatic 61, 3) := by decide +kernel
theorem dX8_readCommand_13 : decode cX8_readCommand 13 = .ok (.astore_n 2, 1) := by decide +kernel
theorem dX8_readCommand_14 : decode cX8_readCommand 14 = .ok (.aload_n 2, 1) := by decide +kernel
theorem dX8_readCommand_15 : decode cX8_readCommand 15 = .ok (.arraylength, 1) := by decide +kernel
theorem dX8_readCommand_16 : decode cX8_readCommand 16 = .ok (.istore_n 3, 1) := by decide +kernel
theorem dX8_readCommand_17 : decode cX8_readCommand 17 = .ok (.iconst 0, 1) := by decide +kernel
theorem dX8_readCommand_18 : decode cX8_readCommand 18 = .ok (.istore 4, 2) := by decide +kernel
theorem dX8_readCommand_20 : decode cX8_readCommand 20 = .ok (.iload 4, 2) := by decide +kernel
theorem dX8_readCommand_22 : decode cX8_readCommand 22 = .ok (.iload_n 3, 1) := by decide +kernel
theorem dX8_readCommand_23 : decode cX8_readCommand 23 = .ok (.if_icmp .ge 55, 3) := by decide +kernel
theorem dX8_readCommand_26 : decode cX8_readCommand 26 = .ok (.aload_n 2, 1) := by decide +kernel
theorem dX8_readCommand_27 : decode cX8_readCommand 27 = .ok (.iload 4, 2) := by decide +kernel
theorem dX8_readCommand_29 : decode cX8_readCommand 29 = .ok (.aaload, 1) := by decide +kernel
theorem dX8_readCommand_30 : decode cX8_readCommand 30 = .ok (.astore 5, 2) := by decide +kernel
theorem dX8_readCommand_32 : decode cX8_readCommand 32 = .ok (.aload_n 0, 1) := by decide +kernel
theorem dX8_readCommand_33 : decode cX8_readCommand 33 = .ok (.iload_n 1, 1) := by decide +kernel
theorem dX8_readCommand_34 : decode cX8_readCommand 34 = .ok (.putfield 44, 3) := by decide +kernel
theorem dX8_readCommand_37 : decode cX8_readCommand 37 = .ok (.aload_n 0, 1) := by decide +kernel
theorem dX8_readCommand_38 : decode cX8_readCommand 38 = .ok (.aload 5, 2) := by decide +kernel
theorem dX8_readCommand_40 : decode cX8_readCommand 40 = .ok (.getfield 64, 3) := by decide +kernel
theorem dX8_readCommand_43 : decode cX8_readCommand 43 = .ok (.invokevirtual 68, 3) := by decide +kernel
theorem dX8_readCommand_46 : decode cX8_readCommand 46 = .ok (.ifCond .eq 11, 3) := by decide +kernel
theorem dX8_readCommand_49 : decode cX8_readCommand 49 = .ok (.aload_n 0, 1) := by decide +kernel
theorem dX8_readCommand_50 : decode cX8_readCommand 50 = .ok (.aload 5, 2) := by decide +kernel
theorem dX8_readCommand_52 : decode cX8_readCommand 52 = .ok (.invokevirtual 72, 3) := by decide +kernel
theorem dX8_readCommand_55 : decode cX8_readCommand 55 = .ok (.iconst 1, 1) := by decide +kernel
theorem dX8_readCommand_56 : decode cX8_readCommand 56 = .ok (.ireturn, 1) := by decide +kernel
theorem dX8_readCommand_57 : decode cX8_readCommand 57 = .ok (.aload_n 0, 1) := by decide +kernel
theorem dX8_readCommand_58 : decode cX8_readCommand 58 = .ok (.aload_n 0, 1) := by decide +kernel
theorem dX8_readCommand_59 : decode cX8_readCommand 59 = .ok (.getfield 47, 3) := by decide +kernel
theorem dX8_readCommand_62 : decode cX8_readCommand 62 = .ok (.aload_n 0, 1) := by decide +kernel
theorem dX8_readCommand_63 : decode cX8_readCommand 63 = .ok (.getfield 44, 3) := by decide +kernel
theorem dX8_readCommand_66 : decode cX8_readCommand 66 = .ok (.invokestatic 76, 3) := by decide +kernel
theorem dX8_readCommand_69 : decode cX8_readCommand 69 = .ok (.putfield 47, 3) := by decide +kernel
theorem dX8_readCommand_72 : decode cX8_readCommand 72 = .ok (.iinc 4 1, 3) := by decide +kernel
theorem dX8_readCommand_75 : decode cX8_readCommand 75 = .ok (.goto (-55), 3) := by decide +kernel
theorem dX8_readCommand_78 : decode cX8_readCommand 78 = .ok (.iconst 0, 1) := by decide +kernel
theorem dX8_readCommand_79 : decode cX8_readCommand 79 = .ok (.ireturn, 1) := by decide +kernel
def f_X8_readCommand_L20 (x_text : (Nat → Int32)) (x_length : Int32) (x_commands : (Nat → Option Nat)) (x_firsts : (Nat → Int32)) (x_seconds : (Nat → Int32)) (x_count : Int32) (x_at : Int32) (K20 : Nat → (Nat → Int32) → Int32 → Int32 → Int32 → Int32 → Option (Int32 × (Nat → Option Nat) × (Nat → Int32) × (Nat → Int32) × Int32 × (Nat → Int32) × Int32 × Int32 × Int32 × Int32)) : Nat → Int32 → (Nat → Int32) → Int32 → Int32 → Int32 → Int32 → Option (Int32 × (Nat → Option Nat) × (Nat → Int32) × (Nat → Int32) × Int32 × (Nat → Int32) × Int32 × Int32 × Int32 × Int32)
  | 0, _, _, _, _, _, _ => none
  | n20 + 1, i1, i2, i3, i4, i5, i6 =>
    q_br (12 ≤ i1) (
  some (0, x_commands, x_firsts, x_seconds, x_count, i2, i3, i4, i5, i6)) (
  q_gd (q_in i1 12) (
  q_gd ((i1.toNatClampNeg) < 12) (
  q_bd (f_X8_matches x_text x_length i2 i3 i4 x_at (i1.toNatClampNeg)) (fun q15 =>
  q_br (q15.1 = 0) (
  q_lt (i1 + 1 : Int32) (fun v16 =>
  f_X8_readCommand_L20 x_text x_length x_commands x_firsts x_seconds x_count x_at K20 n20 v16 q15.2.1 q15.2.2.1 q15.2.2.2.1 q15.2.2.2.2 (if i6 < q15.2.2.2.2 then q15.2.2.2.2 else i6))) (
  K20 (i1.toNatClampNeg) q15.2.1 q15.2.2.1 q15.2.2.2.1 q15.2.2.2.2 i6)))))
def f_X8_readCommand (x_text : (Nat → Int32)) (x_length : Int32) (x_commands : (Nat → Option Nat)) (x_firsts : (Nat → Int32)) (x_seconds : (Nat → Int32)) (x_count : Int32) (x_values : (Nat → Int32)) (x_argument : Int32) (x_sign : Int32) (x_at : Int32) (x_furthest : Int32) : Option (Int32 × (Nat → Option Nat) × (Nat → Int32) × (Nat → Int32) × Int32 × (Nat → Int32) × Int32 × Int32 × Int32 × Int32) :=
  f_X8_readCommand_L20 x_text x_length x_commands x_firsts x_seconds x_count x_at (fun y7 y8 y9 y10 y11 y12 =>
  q_bd (f_X8_note x_commands x_firsts x_seconds x_count y8 y7) (fun q17 =>
  some (1, q17.1, q17.2.1, q17.2.2.1, q17.2.2.2, y8, y9, y10, y11, y12))) 2000 0 x_values x_argument x_sign x_at x_at
theorem hv_X8_readCommand : yX8_readCommand.cls = RX8 ∧ yX8_readCommand.cls ≠ "java/lang/invoke/MethodHandle" ∧ yX8_readCommand.cls ≠ "java/lang/invoke/VarHandle" ∧ (parseMethodDescriptor yX8_readCommand.desc).map (fun d => d.parameters.length) = some 0 := by decide +kernel
abbrev rm_X8_readCommand : Room := { frames := 5, cells := 0, slots := 0, locals := 108 }
set_option maxHeartbeats 4000000 in
set_option maxRecDepth 100000 in
theorem k_X8_readCommand (l : Launch) (E : ET) (a : Nat → Nat) (o : Nat) (x : Prog_t) (res : Int32 × (Nat → Option Nat) × (Nat → Int32) × (Nat → Int32) × Int32 × (Nat → Int32) × Int32 × Int32 × Int32 × Int32) (hF : f_X8_readCommand x.1.1 x.1.2.1 x.1.2.2.1 x.1.2.2.2 x.2.1.1 x.2.1.2.1 x.2.1.2.2.1 x.2.1.2.2.2 x.2.2.1 x.2.2.2.1 x.2.2.2.2 = some res) (sz : Nat) : CtI l yX8_readCommand (mws yX8_readCommand cX8_readCommand 6 (some .boolean)) rm_X8_readCommand 0 0 [.ref (a o)] E (bl_Prog E a o x) res.1 (bl_Prog E a o ((x.1.1, x.1.2.1, res.2.1, res.2.2.1), (res.2.2.2.1, res.2.2.2.2.1, res.2.2.2.2.2.1, res.2.2.2.2.2.2.1), (res.2.2.2.2.2.2.2.1, res.2.2.2.2.2.2.2.2.1, res.2.2.2.2.2.2.2.2.2))) sz := by
  refine mk_M (by decide +kernel) (Nat.le_of_ble_eq_true rfl) ?_
  intro p e s m below meth c A args Q ls hAe hsz hQ hx hb hr hml hin ha hown hlocks hA hz hzs hst hP hD hS hl
  have hown : s.vm.findClass RX8 = some m.cls := hown
  rw [hAe] at hQ
  subst hsz
  have hP : va_P E.1 vwCl (List.flatten [w_Prog E a o x]) s.heap := hP
  have hD : va_D A (List.flatten [w_Prog E a o x]) := hD
  have hl : lv_has ls 6 [(0, .ref (a o))] := hl
  generalize hHe : s.heap = H at hP
  have hS : va_S A s.heap H [] := by rw [← hHe]; exact hS
  generalize ([] : List Loc) = locs at hS ⊢
  unfold f_X8_readCommand at hF
  refine lv_aload_n hx hb dX8_readCommand_0 rfl (lv_at hl 0 rfl) ?_
  refine va_get (D := E.1) (ci := 9) (v := .int x.2.2.2.1) (C := RX8) (T := TX8) (N := 11) hx hb ha in_X8 hown hst.k hP 0 rfl rfl 9 (by decide) (ha _ mw208) (fun _ h9 => h9) rfl dX8_readCommand_1 ?_
  refine lv_istore_n (lv' := [(1, .int x.2.2.2.1), (0, .ref (a o))]) hx hb dX8_readCommand_4 rfl hl (by decide) rfl (fun ls hl => ?_)
  refine lv_aload_n hx hb dX8_readCommand_5 rfl (lv_at hl 1 rfl) ?_
  refine lv_iload_n hx hb dX8_readCommand_6 rfl (lv_at hl 0 rfl) ?_
  refine va_put (D := E.1) (ci := 9) (v := .int x.2.2.2.1) (ty := .int) (C := RX8) (T := TX8) (N := 11) hx hb ha in_X8 tyX8 tyX8_ok nmX8 hown hst.k hP hD hS 0 rfl rfl 10 (by decide) (ha _ mw209) (fun _ h9 => h9) rfl (tyX8_ok 10 (by decide)) rfl rfl (Nat.le_of_ble_eq_true rfl) dX8_readCommand_7 (fun H locs hP hD hS => ?_)
  have hP : va_P E.1 vwCl (List.flatten [w_Prog E a o ((x.1.1, x.1.2.1, x.1.2.2.1, x.1.2.2.2), (x.2.1.1, x.2.1.2.1, x.2.1.2.2.1, x.2.1.2.2.2), (x.2.2.1, x.2.2.2.1, x.2.2.2.1))]) H := hP
  have hD : va_D A (List.flatten [w_Prog E a o ((x.1.1, x.1.2.1, x.1.2.2.1, x.1.2.2.2), (x.2.1.1, x.2.1.2.1, x.2.1.2.2.1, x.2.1.2.2.2), (x.2.2.1, x.2.2.2.1, x.2.2.2.1))]) := hD
  refine va_getsN (v := .ref (E.2 15)) hx hb (sz5 hst hz) hS hown (va_Nw.use rfl (nf27 hst)) (fun _ h9 => h9) dX8_readCommand_10 ?_
  refine lv_astore_n (lv' := [(2, .ref (E.2 15)), (1, .int x.2.2.2.1), (0, .ref (a o))]) hx hb dX8_readCommand_13 rfl hl (by decide) rfl (fun ls hl => ?_)
  refine lv_aload_n hx hb dX8_readCommand_14 rfl (lv_at hl 0 rfl) ?_
  refine vi_tbn hx hb hst hz hS dX8_readCommand_15 ?_
  refine lv_istore_n (lv' := [(3, .int 12), (2, .ref (E.2 15)), (1, .int x.2.2.2.1), (0, .ref (a o))]) hx hb dX8_readCommand_16 rfl hl (by decide) rfl (fun ls hl => ?_)
  refine lv_iconst (v := 0) hx hb dX8_readCommand_17 (by decide) ?_
  refine lv_istore (lv' := [(4, .int 0), (3, .int 12), (2, .ref (E.2 15)), (1, .int x.2.2.2.1), (0, .ref (a o))]) hx hb dX8_readCommand_18 hl (by decide) rfl (fun ls hl => ?_)
  have key20 : ∀ (K : Nat → (Nat → Int32) → Int32 → Int32 → Int32 → Int32 → Option (Int32 × (Nat → Option Nat) × (Nat → Int32) × (Nat → Int32) × Int32 × (Nat → Int32) × Int32 × Int32 × Int32 × Int32)), (∀ (y7 : Nat) (y8 : (Nat → Int32)) (y9 : Int32) (y10 : Int32) (y11 : Int32) (y12 : Int32) (H : Heap) (locs : List Loc) (ls : Array Slot), K y7 y8 y9 y10 y11 y12 = some res → va_P E.1 vwCl (List.flatten [w_Prog E a o ((x.1.1, x.1.2.1, x.1.2.2.1, x.1.2.2.2), (x.2.1.1, x.2.1.2.1, y8, y9), (y10, y11, y12))]) H → va_D A (List.flatten [w_Prog E a o ((x.1.1, x.1.2.1, x.1.2.2.1, x.1.2.2.2), (x.2.1.1, x.2.1.2.1, y8, y9), (y10, y11, y12))]) → va_S A s.heap H locs → lv_has ls 6 [(0, .ref (a o)), (5, .ref (E.2 (100 + y7)))] → W p l e rm_X8_readCommand s m args below meth c H locs 0 0 Q (F0 m 49 ls [])) → ∀ (n : Nat) (i1 : Int32) (i2 : (Nat → Int32)) (i3 : Int32) (i4 : Int32) (i5 : Int32) (i6 : Int32) (H : Heap) (locs : List Loc) (ls : Array Slot), f_X8_readCommand_L20 x.1.1 x.1.2.1 x.1.2.2.1 x.1.2.2.2 x.2.1.1 x.2.1.2.1 x.2.2.2.1 K n i1 i2 i3 i4 i5 i6 = some res → va_P E.1 vwCl (List.flatten [w_Prog E a o ((x.1.1, x.1.2.1, x.1.2.2.1, x.1.2.2.2), (x.2.1.1, x.2.1.2.1, i2, i3), (i4, i5, i6))]) H → va_D A (List.flatten [w_Prog E a o ((x.1.1, x.1.2.1, x.1.2.2.1, x.1.2.2.2), (x.2.1.1, x.2.1.2.1, i2, i3), (i4, i5, i6))]) → va_S A s.heap H locs → lv_has ls 6 [(4, .int i1), (3, .int 12), (2, .ref (E.2 15)), (1, .int x.2.2.2.1), (0, .ref (a o))] → W p l e rm_X8_readCommand s m args below meth c H locs 0 0 Q (F0 m 20 ls []) := by
    intro K20 hK20 n20
    induction n20 with
    | zero => intro i1 i2 i3 i4 i5 i6 H locs ls hF; exact absurd hF (by simp [f_X8_readCommand_L20])
    | succ n20 ih20 =>
      intro i1 i2 i3 i4 i5 i6 H locs ls hF hP hD hS hl
      rw [f_X8_readCommand_L20] at hF
      refine lv_iload hx hb dX8_readCommand_20 (lv_at hl 0 rfl) ?_
      refine lv_iload_n hx hb dX8_readCommand_22 rfl (lv_at hl 1 rfl) ?_
      refine lv_icmp_ge (tgt := 78) hx hb dX8_readCommand_23 (by decide) (fun c23 => ?_) (fun c23 => ?_)
      · have hF := q_brp c23 hF
        refine lv_iconst (v := 0) hx hb dX8_readCommand_78 (by decide) ?_
        obtain rfl := Option.some.inj hF
        exact en_z hQ (Nat.le_of_ble_eq_true rfl) (Nat.le_of_ble_eq_true rfl) hx hb hr hlocks (by decide) hP hD hS rfl dX8_readCommand_79
      · have hF := q_brn c23 hF
        refine lv_aload_n hx hb dX8_readCommand_26 rfl (lv_at hl 2 rfl) ?_
        refine lv_iload hx hb dX8_readCommand_27 (lv_at hl 0 rfl) ?_
        obtain ⟨g13, hF⟩ := q_gdi hF
        refine vi_tbe hx hb hst hz hS (k := i1.toNatClampNeg) rfl g13 dX8_readCommand_29 ?_
        refine lv_astore (lv' := [(5, .ref (E.2 (100 + (i1.toNatClampNeg)))), (4, .int i1), (3, .int 12), (2, .ref (E.2 15)), (1, .int x.2.2.2.1), (0, .ref (a o))]) hx hb dX8_readCommand_30 hl (by decide) rfl (fun ls hl => ?_)
        refine lv_aload_n hx hb dX8_readCommand_32 rfl (lv_at hl 5 rfl) ?_
        refine lv_iload_n hx hb dX8_readCommand_33 rfl (lv_at hl 4 rfl) ?_
        refine va_put (D := E.1) (ci := 9) (v := .int x.2.2.2.1) (ty := .int) (C := RX8) (T := TX8) (N := 11) hx hb ha in_X8 tyX8 tyX8_ok nmX8 hown hst.k hP hD hS 0 rfl rfl 9 (by decide) (ha _ mw208) (fun _ h9 => h9) rfl (tyX8_ok 9 (by decide)) rfl rfl (Nat.le_of_ble_eq_true rfl) dX8_readCommand_34 (fun H locs hP hD hS => ?_)
        have hP : va_P E.1 vwCl (List.flatten [w_Prog E a o ((x.1.1, x.1.2.1, x.1.2.2.1, x.1.2.2.2), (x.2.1.1, x.2.1.2.1, i2, i3), (i4, x.2.2.2.1, i6))]) H := hP
        have hD : va_D A (List.flatten [w_Prog E a o ((x.1.1, x.1.2.1, x.1.2.2.1, x.1.2.2.2), (x.2.1.1, x.2.1.2.1, i2, i3), (i4, x.2.2.2.1, i6))]) := hD
        refine lv_aload_n hx hb dX8_readCommand_37 rfl (lv_at hl 5 rfl) ?_
        refine lv_aload hx hb dX8_readCommand_38 (lv_at hl 0 rfl) ?_
        obtain ⟨g14, hF⟩ := q_gdi hF
        refine vi_form hx hb hst hz hS hown (va_Nw.use rfl (nf28 hst)) g14 dX8_readCommand_40 ?_
        obtain ⟨q15, hq15, hF⟩ := q_bdi hF
        refine cl_i (Lc := [w_Prog E a o ((x.1.1, x.1.2.1, x.1.2.2.1, x.1.2.2.2), (x.2.1.1, x.2.1.2.1, i2, i3), (i4, x.2.2.2.1, i6))]) (Lc' := [w_Prog E a o ((x.1.1, x.1.2.1, x.1.2.2.1, x.1.2.2.2), (x.2.1.1, x.2.1.2.1, q15.2.1, q15.2.2.1), (q15.2.2.2.1, q15.2.2.2.2, i6))]) (L' := [w_Prog E a o ((x.1.1, x.1.2.1, x.1.2.2.1, x.1.2.2.2), (x.2.1.1, x.2.1.2.1, q15.2.1, q15.2.2.1), (q15.2.2.2.1, q15.2.2.2.2, i6))]) (rv := q15.1) (va_runV (As := [.ref (E.2 (200 + (i1.toNatClampNeg)))]) (rest := []) ⟨hx, hb, hml, hown, ha⟩ (k_X8_matches l E a o ((x.1.1, x.1.2.1, x.1.2.2.1, x.1.2.2.2), (x.2.1.1, x.2.1.2.1, i2, i3), (i4, x.2.2.2.1, i6)) (i1.toNatClampNeg) q15 hq15 H.size) (cwV 1 ha (gi_V (fun _ h => h) mw951 mw953 mw17 mw33 mw954) rfl rfl rfl hv_X8_matches ⟨(Nat.le_of_ble_eq_true rfl), (Nat.le_of_ble_eq_true rfl)⟩) ⟨pre_blind, va_recv hst.k (fr_P hP [0] rfl) (ci := 9) (q0 := 0) rfl rfl, pre_at hP hD hS hz hzs hst [0] (by decide) rfl rfl⟩ rfl rfl hl.1 rfl (lv_room (Nat.le_of_ble_eq_true rfl)) dX8_readCommand_43 ⟨(Nat.le_of_ble_eq_true rfl), (Nat.le_of_ble_eq_true rfl)⟩) hP hD hS hA [0] (by decide) rfl rfl rfl rfl (fun H locs hP hD hS => ?_)
        refine lv_if_eq (tgt := 57) hx hb dX8_readCommand_46 (by decide) (fun c46 => ?_) (fun c46 => ?_)
        · have hF := q_brp c46 hF
          refine lv_aload_n hx hb dX8_readCommand_57 rfl (lv_at hl 5 rfl) ?_
          refine lv_aload_n hx hb dX8_readCommand_58 rfl (lv_at hl 5 rfl) ?_
          refine va_get (D := E.1) (ci := 9) (v := .int i6) (C := RX8) (T := TX8) (N := 11) hx hb ha in_X8 hown hst.k hP 0 rfl rfl 10 (by decide) (ha _ mw209) (fun _ h9 => h9) rfl dX8_readCommand_59 ?_
          refine lv_aload_n hx hb dX8_readCommand_62 rfl (lv_at hl 5 rfl) ?_
          refine va_get (D := E.1) (ci := 9) (v := .int q15.2.2.2.2) (C := RX8) (T := TX8) (N := 11) hx hb ha in_X8 hown hst.k hP 0 rfl rfl 9 (by decide) (ha _ mw208) (fun _ h9 => h9) rfl dX8_readCommand_63 ?_
          refine va_mmax hx hb (hml.trans hl.1.symm) hown (ha _ mw1027) (ha _ mw483) (ha _ mw48) (ha _ mw484) (Nat.le_of_ble_eq_true rfl) (Nat.le_of_ble_eq_true rfl) (Nat.le_of_ble_eq_true rfl) (Nat.le_of_ble_eq_true rfl) dX8_readCommand_66 ?_
          refine va_put (D := E.1) (ci := 9) (v := .int (if i6 < q15.2.2.2.2 then q15.2.2.2.2 else i6)) (ty := .int) (C := RX8) (T := TX8) (N := 11) hx hb ha in_X8 tyX8 tyX8_ok nmX8 hown hst.k hP hD hS 0 rfl rfl 10 (by decide) (ha _ mw209) (fun _ h9 => h9) rfl (tyX8_ok 10 (by decide)) rfl rfl (Nat.le_of_ble_eq_true rfl) dX8_readCommand_69 (fun H locs hP hD hS => ?_)
          have hP : va_P E.1 vwCl (List.flatten [w_Prog E a o ((x.1.1, x.1.2.1, x.1.2.2.1, x.1.2.2.2), (x.2.1.1, x.2.1.2.1, q15.2.1, q15.2.2.1), (q15.2.2.2.1, q15.2.2.2.2, if i6 < q15.2.2.2.2 then q15.2.2.2.2 else i6))]) H := hP
          have hD : va_D A (List.flatten [w_Prog E a o ((x.1.1, x.1.2.1, x.1.2.2.1, x.1.2.2.2), (x.2.1.1, x.2.1.2.1, q15.2.1, q15.2.2.1), (q15.2.2.2.1, q15.2.2.2.2, if i6 < q15.2.2.2.2 then q15.2.2.2.2 else i6))]) := hD
          obtain ⟨v16, ev16⟩ : ∃ y : Int32, y = i1 + 1 := ⟨_, rfl⟩
          have hF := q_lti ev16 hF
          refine lv_iinc (v := v16) (lv' := [(4, .int v16), (5, .ref (E.2 (100 + (i1.toNatClampNeg)))), (3, .int 12), (2, .ref (E.2 15)), (1, .int x.2.2.2.1), (0, .ref (a o))]) hx hb dX8_readCommand_72 hl (k := 1) rfl (by rw [ev16]; rfl) (by decide) rfl (fun ls hl => ?_)
          refine lv_goto (tgt := 20) hx hb dX8_readCommand_75 (by decide) ?_
          exact ih20 v16 q15.2.1 q15.2.2.1 q15.2.2.2.1 q15.2.2.2.2 (if i6 < q15.2.2.2.2 then q15.2.2.2.2 else i6) H locs ls hF hP hD hS (lv_sub hl [0, 2, 3, 4, 5] rfl)
        · have hF := q_brn c46 hF
          exact hK20 (i1.toNatClampNeg) q15.2.1 q15.2.2.1 q15.2.2.2.1 q15.2.2.2.2 i6 H locs ls hF hP hD hS (lv_sub hl [5, 0] rfl)
  refine key20 _ ?_ _ 0 x.2.1.2.2.1 x.2.1.2.2.2 x.2.2.1 x.2.2.2.1 x.2.2.2.1 H locs ls hF hP hD hS (lv_sub hl [0, 1, 2, 3, 4] rfl)
  intro y7 y8 y9 y10 y11 y12 H locs ls hF hP hD hS hl
  refine lv_aload_n hx hb dX8_readCommand_49 rfl (lv_at hl 0 rfl) ?_
  refine lv_aload hx hb dX8_readCommand_50 (lv_at hl 1 rfl) ?_
  obtain ⟨q17, hq17, hF⟩ := q_bdi hF
  refine cl_v (Lc := [w_Prog E a o ((x.1.1, x.1.2.1, x.1.2.2.1, x.1.2.2.2), (x.2.1.1, x.2.1.2.1, y8, y9), (y10, y11, y12))]) (Lc' := [w_Prog E a o ((x.1.1, x.1.2.1, q17.1, q17.2.1), (q17.2.2.1, q17.2.2.2, y8, y9), (y10, y11, y12))]) (L' := [w_Prog E a o ((x.1.1, x.1.2.1, q17.1, q17.2.1), (q17.2.2.1, q17.2.2.2, y8, y9), (y10, y11, y12))]) (va_runV (As := [.ref (E.2 (100 + y7))]) (rest := []) ⟨hx, hb, hml, hown, ha⟩ (k_X8_note l E a o ((x.1.1, x.1.2.1, x.1.2.2.1, x.1.2.2.2), (x.2.1.1, x.2.1.2.1, y8, y9), (y10, y11, y12)) y7 q17 hq17 H.size) (cwV 1 ha (gi_V (fun _ h => h) mw1023 mw1025 mw23 mw33 mw1026) rfl rfl rfl hv_X8_note ⟨(Nat.le_of_ble_eq_true rfl), (Nat.le_of_ble_eq_true rfl)⟩) ⟨pre_blind, va_recv hst.k (fr_P hP [0] rfl) (ci := 9) (q0 := 0) rfl rfl, pre_at hP hD hS hz hzs hst [0] (by decide) rfl rfl⟩ rfl rfl hl.1 rfl (lv_room (Nat.le_of_ble_eq_true rfl)) dX8_readCommand_52 ⟨(Nat.le_of_ble_eq_true rfl), (Nat.le_of_ble_eq_true rfl)⟩) hP hD hS hA [0] (by decide) rfl rfl rfl rfl (fun H locs hP hD hS => ?_)
  refine lv_iconst (v := 1) hx hb dX8_readCommand_55 (by decide) ?_
  obtain rfl := Option.some.inj hF
  exact en_z hQ (Nat.le_of_ble_eq_true rfl) (Nat.le_of_ble_eq_true rfl) hx hb hr hlocks (by decide) hP hD hS rfl dX8_readCommand_56

/-! X8_read -/
theorem dX8_read_0 : decode cX8_read 0 = .ok (.aload_n 0, 1) := by decide +kernel
theorem dX8_read_1 : decode cX8_read 1 = .ok (.iconst 0, 1) := by decide +kernel
theorem dX8_read_2 : decode cX8_read 2 = .ok (.putfield 32, 3) := by decide +kernel
theorem dX8_read_5 : decode cX8_read 5 = .ok (.aload_n 0, 1) := by decide +kernel
theorem dX8_read_6 : decode cX8_read 6 = .ok (.iconst 0, 1) := by decide +kernel
theorem dX8_read_7 : decode cX8_read 7 = .ok (.putfield 44, 3) := by decide +kernel
theorem dX8_read_10 : decode cX8_read 10 = .ok (.iconst 0, 1) := by decide +kernel
theorem dX8_read_11 : decode cX8_read 11 = .ok (.istore_n 1, 1) := by decide +kernel
theorem dX8_read_12 : decode cX8_read 12 = .ok (.iload_n 1, 1) := by decide +kernel
theorem dX8_read_13 : decode cX8_read 13 = .ok (.bipush 60, 2) := by decide +kernel
theorem dX8_read_15 : decode cX8_read 15 = .ok (.if_icmp .ge 58, 3) := by decide +kernel
theorem dX8_read_18 : decode cX8_read 18 = .ok (.aload_n 0, 1) := by decide +kernel
theorem dX8_read_19 : decode cX8_read 19 = .ok (.invokevirtual 54, 3) := by decide +kernel
theorem dX8_read_22 : decode cX8_read 22 = .ok (.ifCond .ne 8, 3) := by decide +kernel
theorem dX8_read_25 : decode cX8_read 25 = .ok (.aload_n 0, 1) := by decide +kernel
theorem dX8_read_26 : decode cX8_read 26 = .ok (.getfield 47, 3) := by decide +kernel
theorem dX8_read_29 : decode cX8_read 29 = .ok (.ireturn, 1) := by decide +kernel
theorem dX8_read_30 : decode cX8_read 30 = .ok (.aload_n 0, 1) := by decide +kernel
theorem dX8_read_31 : decode cX8_read 31 = .ok (.getfield 44, 3) := by decide +kernel
theorem dX8_read_34 : decode cX8_read 34 = .ok (.aload_n 0, 1) := by decide +kernel
theorem dX8_read_35 : decode cX8_read 35 = .ok (.getfield 15, 3) := by decide +kernel
theorem dX8_read_38 : decode cX8_read 38 = .ok (.if_icmp .ne 5, 3) := by decide +kernel
theorem dX8_read_41 : decode cX8_read 41 = .ok (.iconst (-1), 1) := by decide +kernel
theorem dX8_read_42 : decode cX8_read 42 = .ok (.ireturn, 1) := by decide +kernel
theorem dX8_read_43 : decode cX8_read 43 = .ok (.aload_n 0, 1) := by decide +kernel
theorem dX8_read_44 : decode cX8_read 44 = .ok (.bipush 59, 2) := by decide +kernel
theorem dX8_read_46 : decode cX8_read 46 = .ok (.invokevirtual 57, 3) := by decide +kernel
theorem dX8_read_49 : decode cX8_read 49 = .ok (.ifCond .ne 8, 3) := by decide +kernel
theorem dX8_read_52 : decode cX8_read 52 = .ok (.aload_n 0, 1) := by decide +kernel
theorem dX8_read_53 : decode cX8_read 53 = .ok (.getfield 44, 3) := by decide +kernel
theorem dX8_read_56 : decode cX8_read 56 = .ok (.ireturn, 1) := by decide +kernel
theorem dX8_read_57 : decode cX8_read 57 = .ok (.aload_n 0, 1) := by decide +kernel
theorem dX8_read_58 : decode cX8_read 58 = .ok (.dup, 1) := by decide +kernel
theorem dX8_read_59 : decode cX8_read 59 = .ok (.getfield 44, 3) := by decide +kernel
theorem dX8_read_62 : decode cX8_read 62 = .ok (.iconst 1, 1) := by decide +kernel
theorem dX8_read_63 : decode cX8_read 63 = .ok (.iadd, 1) := by decide +kernel
theorem dX8_read_64 : decode cX8_read 64 = .ok (.putfield 44, 3) := by decide +kernel
theorem dX8_read_67 : decode cX8_read 67 = .ok (.iinc 1 1, 3) := by decide +kernel
theorem dX8_read_70 : decode cX8_read 70 = .ok (.goto (-58), 3) := by decide +kernel
theorem dX8_read_73 : decode cX8_read 73 = .ok (.aload_n 0, 1) := by decide +kernel
theorem dX8_read_74 : decode cX8_read 74 = .ok (.getfield 44, 3) := by decide +kernel
theorem dX8_read_77 : decode cX8_read 77 = .ok (.ireturn, 1) := by decide +kernel
def f_X8_read_L12 (x_text : (Nat → Int32)) (x_length : Int32) (K12 : (Nat → Option Nat) → (Nat → Int32) → (Nat → Int32) → Int32 → (Nat → Int32) → Int32 → Int32 → Int32 → Int32 → Option (Int32 × (Nat → Option Nat) × (Nat → Int32) × (Nat → Int32) × Int32 × (Nat → Int32) × Int32 × Int32 × Int32 × Int32)) : Nat → Int32 → (Nat → Option Nat) → (Nat → Int32) → (Nat → Int32) → Int32 → (Nat → Int32) → Int32 → Int32 → Int32 → Int32 → Option (Int32 × (Nat → Option Nat) × (Nat → Int32) × (Nat → Int32) × Int32 × (Nat → Int32) × Int32 × Int32 × Int32 × Int32)
  | 0, _, _, _, _, _, _, _, _, _, _ => none
  | n12 + 1, i1, i2, i3, i4, i5, i6, i7, i8, i9, i10 =>
    q_br (60 ≤ i1) (
  K12 i2 i3 i4 i5 i6 i7 i8 i9 i10) (
  q_bd (f_X8_readCommand x_text x_length i2 i3 i4 i5 i6 i7 i8 i9 i10) (fun q20 =>
  q_br (q20.1 = 0) (
  some (q20.2.2.2.2.2.2.2.2.2, q20.2.1, q20.2.2.1, q20.2.2.2.1, q20.2.2.2.2.1, q20.2.2.2.2.2.1, q20.2.2.2.2.2.2.1, q20.2.2.2.2.2.2.2.1, q20.2.2.2.2.2.2.2.2.1, q20.2.2.2.2.2.2.2.2.2)) (
  q_br (q20.2.2.2.2.2.2.2.2.1 = x_length) (
  some ((-1), q20.2.1, q20.2.2.1, q20.2.2.2.1, q20.2.2.2.2.1, q20.2.2.2.2.2.1, q20.2.2.2.2.2.2.1, q20.2.2.2.2.2.2.2.1, q20.2.2.2.2.2.2.2.2.1, q20.2.2.2.2.2.2.2.2.2)) (
  q_bd (f_X8_isNext x_text x_length q20.2.2.2.2.2.2.2.2.1 59) (fun q21 =>
  q_br (q21 = 0) (
  some (q20.2.2.2.2.2.2.2.2.1, q20.2.1, q20.2.2.1, q20.2.2.2.1, q20.2.2.2.2.1, q20.2.2.2.2.2.1, q20.2.2.2.2.2.2.1, q20.2.2.2.2.2.2.2.1, q20.2.2.2.2.2.2.2.2.1, q20.2.2.2.2.2.2.2.2.2)) (
  q_lt (i1 + 1 : Int32) (fun v22 =>
  f_X8_read_L12 x_text x_length K12 n12 v22 q20.2.1 q20.2.2.1 q20.2.2.2.1 q20.2.2.2.2.1 q20.2.2.2.2.2.1 q20.2.2.2.2.2.2.1 q20.2.2.2.2.2.2.2.1 (q20.2.2.2.2.2.2.2.2.1 + 1) q20.2.2.2.2.2.2.2.2.2)))))))
def f_X8_read (x_text : (Nat → Int32)) (x_length : Int32) (x_commands : (Nat → Option Nat)) (x_firsts : (Nat → Int32)) (x_seconds : (Nat → Int32)) (x_count : Int32) (x_values : (Nat → Int32)) (x_argument : Int32) (x_sign : Int32) (x_at : Int32) (x_furthest : Int32) : Option (Int32 × (Nat → Option Nat) × (Nat → Int32) × (Nat → Int32) × Int32 × (Nat → Int32) × Int32 × Int32 × Int32 × Int32) :=
  f_X8_read_L12 x_text x_length (fun y11 y12 y13 y14 y15 y16 y17 y18 y19 =>
  some (y18, y11, y12, y13, y14, y15, y16, y17, y18, y19)) 2000 0 x_commands x_firsts x_seconds 0 x_values x_argument x_sign 0 x_furthest
theorem hv_X8_read : yX8_read.cls = RX8 ∧ yX8_read.cls ≠ "java/lang/invoke/MethodHandle" ∧ yX8_read.cls ≠ "java/lang/invoke/VarHandle" ∧ (parseMethodDescriptor yX8_read.desc).map (fun d => d.parameters.length) = some 0 := by decide +kernel
abbrev rm_X8_read : Room := { frames := 6, cells := 0, slots := 0, locals := 133 }
set_option maxHeartbeats 4000000 in
set_option maxRecDepth 100000 in
theorem k_X8_read (l : Launch) (E : ET) (a : Nat → Nat) (o : Nat) (x : Prog_t) (res : Int32 × (Nat → Option Nat) × (Nat → Int32) × (Nat → Int32) × Int32 × (Nat → Int32) × Int32 × Int32 × Int32 × Int32) (hF : f_X8_read x.1.1 x.1.2.1 x.1.2.2.1 x.1.2.2.2 x.2.1.1 x.2.1.2.1 x.2.1.2.2.1 x.2.1.2.2.2 x.2.2.1 x.2.2.2.1 x.2.2.2.2 = some res) (sz : Nat) : CtI l yX8_read (mws yX8_read cX8_read 2 (some .int)) rm_X8_read 0 0 [.ref (a o)] E (bl_Prog E a o x) res.1 (bl_Prog E a o ((x.1.1, x.1.2.1, res.2.1, res.2.2.1), (res.2.2.2.1, res.2.2.2.2.1, res.2.2.2.2.2.1, res.2.2.2.2.2.2.1), (res.2.2.2.2.2.2.2.1, res.2.2.2.2.2.2.2.2.1, res.2.2.2.2.2.2.2.2.2))) sz := by
  refine mk_M (by decide +kernel) (Nat.le_of_ble_eq_true rfl) ?_
  intro p e s m below meth c A args Q ls hAe hsz hQ hx hb hr hml hin ha hown hlocks hA hz hzs hst hP hD hS hl
  have hown : s.vm.findClass RX8 = some m.cls := hown
  rw [hAe] at hQ
  subst hsz
  have hP : va_P E.1 vwCl (List.flatten [w_Prog E a o x]) s.heap := hP
  have hD : va_D A (List.flatten [w_Prog E a o x]) := hD
  have hl : lv_has ls 2 [(0, .ref (a o))] := hl
  generalize hHe : s.heap = H at hP
  have hS : va_S A s.heap H [] := by rw [← hHe]; exact hS
  generalize ([] : List Loc) = locs at hS ⊢
  unfold f_X8_read at hF
  refine lv_aload_n hx hb dX8_read_0 rfl (lv_at hl 0 rfl) ?_
  refine lv_iconst (v := 0) hx hb dX8_read_1 (by decide) ?_
  refine va_put (D := E.1) (ci := 9) (v := .int 0) (ty := .int) (C := RX8) (T := TX8) (N := 11) hx hb ha in_X8 tyX8 tyX8_ok nmX8 hown hst.k hP hD hS 0 rfl rfl 5 (by decide) (ha _ mw203) (fun _ h9 => h9) rfl (tyX8_ok 5 (by decide)) rfl rfl (Nat.le_of_ble_eq_true rfl) dX8_read_2 (fun H locs hP hD hS => ?_)
  have hP : va_P E.1 vwCl (List.flatten [w_Prog E a o ((x.1.1, x.1.2.1, x.1.2.2.1, x.1.2.2.2), (x.2.1.1, 0, x.2.1.2.2.1, x.2.1.2.2.2), (x.2.2.1, x.2.2.2.1, x.2.2.2.2))]) H := hP
  have hD : va_D A (List.flatten [w_Prog E a o ((x.1.1, x.1.2.1, x.1.2.2.1, x.1.2.2.2), (x.2.1.1, 0, x.2.1.2.2.1, x.2.1.2.2.2), (x.2.2.1, x.2.2.2.1, x.2.2.2.2))]) := hD
  refine lv_aload_n hx hb dX8_read_5 rfl (lv_at hl 0 rfl) ?_
  refine lv_iconst (v := 0) hx hb dX8_read_6 (by decide) ?_
  refine va_put (D := E.1) (ci := 9) (v := .int 0) (ty := .int) (C := RX8) (T := TX8) (N := 11) hx hb ha in_X8 tyX8 tyX8_ok nmX8 hown hst.k hP hD hS 0 rfl rfl 9 (by decide) (ha _ mw208) (fun _ h9 => h9) rfl (tyX8_ok 9 (by decide)) rfl rfl (Nat.le_of_ble_eq_true rfl) dX8_read_7 (fun H locs hP hD hS => ?_)
  have hP : va_P E.1 vwCl (List.flatten [w_Prog E a o ((x.1.1, x.1.2.1, x.1.2.2.1, x.1.2.2.2), (x.2.1.1, 0, x.2.1.2.2.1, x.2.1.2.2.2), (x.2.2.1, 0, x.2.2.2.2))]) H := hP
  have hD : va_D A (List.flatten [w_Prog E a o ((x.1.1, x.1.2.1, x.1.2.2.1, x.1.2.2.2), (x.2.1.1, 0, x.2.1.2.2.1, x.2.1.2.2.2), (x.2.2.1, 0, x.2.2.2.2))]) := hD
  refine lv_iconst (v := 0) hx hb dX8_read_10 (by decide) ?_
  refine lv_istore_n (lv' := [(1, .int 0), (0, .ref (a o))]) hx hb dX8_read_11 rfl hl (by decide) rfl (fun ls hl => ?_)
  have key12 : ∀ (K : (Nat → Option Nat) → (Nat → Int32) → (Nat → Int32) → Int32 → (Nat → Int32) → Int32 → Int32 → Int32 → Int32 → Option (Int32 × (Nat → Option Nat) × (Nat → Int32) × (Nat → Int32) × Int32 × (Nat → Int32) × Int32 × Int32 × Int32 × Int32)), (∀ (y11 : (Nat → Option Nat)) (y12 : (Nat → Int32)) (y13 : (Nat → Int32)) (y14 : Int32) (y15 : (Nat → Int32)) (y16 : Int32) (y17 : Int32) (y18 : Int32) (y19 : Int32) (H : Heap) (locs : List Loc) (ls : Array Slot), K y11 y12 y13 y14 y15 y16 y17 y18 y19 = some res → va_P E.1 vwCl (List.flatten [w_Prog E a o ((x.1.1, x.1.2.1, y11, y12), (y13, y14, y15, y16), (y17, y18, y19))]) H → va_D A (List.flatten [w_Prog E a o ((x.1.1, x.1.2.1, y11, y12), (y13, y14, y15, y16), (y17, y18, y19))]) → va_S A s.heap H locs → lv_has ls 2 [(0, .ref (a o))] → W p l e rm_X8_read s m args below meth c H locs 0 0 Q (F0 m 73 ls [])) → ∀ (n : Nat) (i1 : Int32) (i2 : (Nat → Option Nat)) (i3 : (Nat → Int32)) (i4 : (Nat → Int32)) (i5 : Int32) (i6 : (Nat → Int32)) (i7 : Int32) (i8 : Int32) (i9 : Int32) (i10 : Int32) (H : Heap) (locs : List Loc) (ls : Array Slot), f_X8_read_L12 x.1.1 x.1.2.1 K n i1 i2 i3 i4 i5 i6 i7 i8 i9 i10 = some res → va_P E.1 vwCl (List.flatten [w_Prog E a o ((x.1.1, x.1.2.1, i2, i3), (i4, i5, i6, i7), (i8, i9, i10))]) H → va_D A (List.flatten [w_Prog E a o ((x.1.1, x.1.2.1, i2, i3), (i4, i5, i6, i7), (i8, i9, i10))]) → va_S A s.heap H locs → lv_has ls 2 [(1, .int i1), (0, .ref (a o))] → W p l e rm_X8_read s m args below meth c H locs 0 0 Q (F0 m 12 ls []) := by
    intro K12 hK12 n12
    induction n12 with
    | zero => intro i1 i2 i3 i4 i5 i6 i7 i8 i9 i10 H locs ls hF; exact absurd hF (by simp [f_X8_read_L12])
    | succ n12 ih12 =>
      intro i1 i2 i3 i4 i5 i6 i7 i8 i9 i10 H locs ls hF hP hD hS hl
      rw [f_X8_read_L12] at hF
      refine lv_iload_n hx hb dX8_read_12 rfl (lv_at hl 0 rfl) ?_
      refine lv_bipush (v := 60) hx hb dX8_read_13 (by decide) ?_
      refine lv_icmp_ge (tgt := 73) hx hb dX8_read_15 (by decide) (fun c15 => ?_) (fun c15 => ?_)
      · have hF := q_brp c15 hF
        exact hK12 i2 i3 i4 i5 i6 i7 i8 i9 i10 H locs ls hF hP hD hS (lv_sub hl [1] rfl)
      · have hF := q_brn c15 hF
        refine lv_aload_n hx hb dX8_read_18 rfl (lv_at hl 1 rfl) ?_
        obtain ⟨q20, hq20, hF⟩ := q_bdi hF
        refine cl_i (Lc := [w_Prog E a o ((x.1.1, x.1.2.1, i2, i3), (i4, i5, i6, i7), (i8, i9, i10))]) (Lc' := [w_Prog E a o ((x.1.1, x.1.2.1, q20.2.1, q20.2.2.1), (q20.2.2.2.1, q20.2.2.2.2.1, q20.2.2.2.2.2.1, q20.2.2.2.2.2.2.1), (q20.2.2.2.2.2.2.2.1, q20.2.2.2.2.2.2.2.2.1, q20.2.2.2.2.2.2.2.2.2))]) (L' := [w_Prog E a o ((x.1.1, x.1.2.1, q20.2.1, q20.2.2.1), (q20.2.2.2.1, q20.2.2.2.2.1, q20.2.2.2.2.2.1, q20.2.2.2.2.2.2.1), (q20.2.2.2.2.2.2.2.1, q20.2.2.2.2.2.2.2.2.1, q20.2.2.2.2.2.2.2.2.2))]) (rv := q20.1) (va_runV (As := []) (rest := []) ⟨hx, hb, hml, hown, ha⟩ (k_X8_readCommand l E a o ((x.1.1, x.1.2.1, i2, i3), (i4, i5, i6, i7), (i8, i9, i10)) q20 hq20 H.size) (cwV 0 ha (gi_V (fun _ h => h) mw945 mw947 mw16 mw33 mw948) rfl rfl rfl hv_X8_readCommand ⟨(Nat.le_of_ble_eq_true rfl), (Nat.le_of_ble_eq_true rfl)⟩) ⟨pre_blind, va_recv hst.k (fr_P hP [0] rfl) (ci := 9) (q0 := 0) rfl rfl, pre_at hP hD hS hz hzs hst [0] (by decide) rfl rfl⟩ rfl rfl hl.1 rfl (lv_room (Nat.le_of_ble_eq_true rfl)) dX8_read_19 ⟨(Nat.le_of_ble_eq_true rfl), (Nat.le_of_ble_eq_true rfl)⟩) hP hD hS hA [0] (by decide) rfl rfl rfl rfl (fun H locs hP hD hS => ?_)
        refine lv_if_ne (tgt := 30) hx hb dX8_read_22 (by decide) (fun c22 => ?_) (fun c22 => ?_)
        · have hF := q_brn c22 hF
          refine lv_aload_n hx hb dX8_read_30 rfl (lv_at hl 1 rfl) ?_
          refine va_get (D := E.1) (ci := 9) (v := .int q20.2.2.2.2.2.2.2.2.1) (C := RX8) (T := TX8) (N := 11) hx hb ha in_X8 hown hst.k hP 0 rfl rfl 9 (by decide) (ha _ mw208) (fun _ h9 => h9) rfl dX8_read_31 ?_
          refine lv_aload_n hx hb dX8_read_34 rfl (lv_at hl 1 rfl) ?_
          refine va_get (D := E.1) (ci := 9) (v := .int x.1.2.1) (C := RX8) (T := TX8) (N := 11) hx hb ha in_X8 hown hst.k hP 0 rfl rfl 1 (by decide) (ha _ mw199) (fun _ h9 => h9) rfl dX8_read_35 ?_
          refine lv_icmp_ne (tgt := 43) hx hb dX8_read_38 (by decide) (fun c38 => ?_) (fun c38 => ?_)
          · have hF := q_brn c38 hF
            refine lv_aload_n hx hb dX8_read_43 rfl (lv_at hl 1 rfl) ?_
            refine lv_bipush (v := 59) hx hb dX8_read_44 (by decide) ?_
            obtain ⟨q21, hq21, hF⟩ := q_bdi hF
            refine cl_i (Lc := [w_Prog E a o ((x.1.1, x.1.2.1, q20.2.1, q20.2.2.1), (q20.2.2.2.1, q20.2.2.2.2.1, q20.2.2.2.2.2.1, q20.2.2.2.2.2.2.1), (q20.2.2.2.2.2.2.2.1, q20.2.2.2.2.2.2.2.2.1, q20.2.2.2.2.2.2.2.2.2))]) (Lc' := [w_Prog E a o ((x.1.1, x.1.2.1, q20.2.1, q20.2.2.1), (q20.2.2.2.1, q20.2.2.2.2.1, q20.2.2.2.2.2.1, q20.2.2.2.2.2.2.1), (q20.2.2.2.2.2.2.2.1, q20.2.2.2.2.2.2.2.2.1, q20.2.2.2.2.2.2.2.2.2))]) (L' := [w_Prog E a o ((x.1.1, x.1.2.1, q20.2.1, q20.2.2.1), (q20.2.2.2.1, q20.2.2.2.2.1, q20.2.2.2.2.2.1, q20.2.2.2.2.2.2.1), (q20.2.2.2.2.2.2.2.1, q20.2.2.2.2.2.2.2.2.1, q20.2.2.2.2.2.2.2.2.2))]) (rv := q21) (va_runV (As := [.int 59]) (rest := []) ⟨hx, hb, hml, hown, ha⟩ (k_X8_isNext l E a o ((x.1.1, x.1.2.1, q20.2.1, q20.2.2.1), (q20.2.2.2.1, q20.2.2.2.2.1, q20.2.2.2.2.2.1, q20.2.2.2.2.2.2.1), (q20.2.2.2.2.2.2.2.1, q20.2.2.2.2.2.2.2.2.1, q20.2.2.2.2.2.2.2.2.2)) 59 q21 hq21 H.size) (cwV 1 ha (gi_V (fun _ h => h) mw1019 mw1021 mw22 mw33 mw1022) rfl rfl rfl hv_X8_isNext ⟨(Nat.le_of_ble_eq_true rfl), (Nat.le_of_ble_eq_true rfl)⟩) ⟨pre_blind, va_recv hst.k (fr_P hP [0] rfl) (ci := 9) (q0 := 0) rfl rfl, pre_at hP hD hS hz hzs hst [0] (by decide) rfl rfl⟩ rfl rfl hl.1 rfl (lv_room (Nat.le_of_ble_eq_true rfl)) dX8_read_46 ⟨(Nat.le_of_ble_eq_true rfl), (Nat.le_of_ble_eq_true rfl)⟩) hP hD hS hA [0] (by decide) rfl rfl rfl rfl (fun H locs hP hD hS => ?_)
            refine lv_if_ne (tgt := 57) hx hb dX8_read_49 (by decide) (fun c49 => ?_) (fun c49 => ?_)
            · have hF := q_brn c49 hF
              refine lv_aload_n hx hb dX8_read_57 rfl (lv_at hl 1 rfl) ?_
              refine lv_dup hx hb dX8_read_58 rfl ?_
              refine va_get (D := E.1) (ci := 9) (v := .int q20.2.2.2.2.2.2.2.2.1) (C := RX8) (T := TX8) (N := 11) hx hb ha in_X8 hown hst.k hP 0 rfl rfl 9 (by decide) (ha _ mw208) (fun _ h9 => h9) rfl dX8_read_59 ?_
              refine lv_iconst (v := 1) hx hb dX8_read_62 (by decide) ?_
              refine lv_iadd hx hb dX8_read_63 ?_
              refine va_put (D := E.1) (ci := 9) (v := .int (q20.2.2.2.2.2.2.2.2.1 + 1)) (ty := .int) (C := RX8) (T := TX8) (N := 11) hx hb ha in_X8 tyX8 tyX8_ok nmX8 hown hst.k hP hD hS 0 rfl rfl 9 (by decide) (ha _ mw208) (fun _ h9 => h9) rfl (tyX8_ok 9 (by decide)) rfl rfl (Nat.le_of_ble_eq_true rfl) dX8_read_64 (fun H locs hP hD hS => ?_)
              have hP : va_P E.1 vwCl (List.flatten [w_Prog E a o ((x.1.1, x.1.2.1, q20.2.1, q20.2.2.1), (q20.2.2.2.1, q20.2.2.2.2.1, q20.2.2.2.2.2.1, q20.2.2.2.2.2.2.1), (q20.2.2.2.2.2.2.2.1, q20.2.2.2.2.2.2.2.2.1 + 1, q20.2.2.2.2.2.2.2.2.2))]) H := hP
              have hD : va_D A (List.flatten [w_Prog E a o ((x.1.1, x.1.2.1, q20.2.1, q20.2.2.1), (q20.2.2.2.1, q20.2.2.2.2.1, q20.2.2.2.2.2.1, q20.2.2.2.2.2.2.1), (q20.2.2.2.2.2.2.2.1, q20.2.2.2.2.2.2.2.2.1 + 1, q20.2.2.2.2.2.2.2.2.2))]) := hD
              obtain ⟨v22, ev22⟩ : ∃ y : Int32, y = i1 + 1 := ⟨_, rfl⟩
              have hF := q_lti ev22 hF
              refine lv_iinc (v := v22) (lv' := [(1, .int v22), (0, .ref (a o))]) hx hb dX8_read_67 hl (k := 0) rfl (by rw [ev22]; rfl) (by decide) rfl (fun ls hl => ?_)
              refine lv_goto (tgt := 12) hx hb dX8_read_70 (by decide) ?_
              exact ih12 v22 q20.2.1 q20.2.2.1 q20.2.2.2.1 q20.2.2.2.2.1 q20.2.2.2.2.2.1 q20.2.2.2.2.2.2.1 q20.2.2.2.2.2.2.2.1 (q20.2.2.2.2.2.2.2.2.1 + 1) q20.2.2.2.2.2.2.2.2.2 H locs ls hF hP hD hS (lv_sub hl [0, 1] rfl)
            · have hF := q_brp c49 hF
              refine lv_aload_n hx hb dX8_read_52 rfl (lv_at hl 1 rfl) ?_
              refine va_get (D := E.1) (ci := 9) (v := .int q20.2.2.2.2.2.2.2.2.1) (C := RX8) (T := TX8) (N := 11) hx hb ha in_X8 hown hst.k hP 0 rfl rfl 9 (by decide) (ha _ mw208) (fun _ h9 => h9) rfl dX8_read_53 ?_
              obtain rfl := Option.some.inj hF
              exact en_i hQ (Nat.le_of_ble_eq_true rfl) (Nat.le_of_ble_eq_true rfl) hx hb hr hlocks hP hD hS rfl dX8_read_56
          · have hF := q_brp c38 hF
            refine lv_iconst (v := (-1)) hx hb dX8_read_41 (by decide) ?_
            obtain rfl := Option.some.inj hF
            exact en_i hQ (Nat.le_of_ble_eq_true rfl) (Nat.le_of_ble_eq_true rfl) hx hb hr hlocks hP hD hS rfl dX8_read_42
        · have hF := q_brp c22 hF
          refine lv_aload_n hx hb dX8_read_25 rfl (lv_at hl 1 rfl) ?_
          refine va_get (D := E.1) (ci := 9) (v := .int q20.2.2.2.2.2.2.2.2.2) (C := RX8) (T := TX8) (N := 11) hx hb ha in_X8 hown hst.k hP 0 rfl rfl 10 (by decide) (ha _ mw209) (fun _ h9 => h9) rfl dX8_read_26 ?_
          obtain rfl := Option.some.inj hF
          exact en_i hQ (Nat.le_of_ble_eq_true rfl) (Nat.le_of_ble_eq_true rfl) hx hb hr hlocks hP hD hS rfl dX8_read_29
  refine key12 _ ?_ _ 0 x.1.2.2.1 x.1.2.2.2 x.2.1.1 0 x.2.1.2.2.1 x.2.1.2.2.2 x.2.2.1 0 x.2.2.2.2 H locs ls hF hP hD hS (lv_sub hl [0, 1] rfl)
  intro y11 y12 y13 y14 y15 y16 y17 y18 y19 H locs ls hF hP hD hS hl
  refine lv_aload_n hx hb dX8_read_73 rfl (lv_at hl 0 rfl) ?_
  refine va_get (D := E.1) (ci := 9) (v := .int y18) (C := RX8) (T := TX8) (N := 11) hx hb ha in_X8 hown hst.k hP 0 rfl rfl 9 (by decide) (ha _ mw208) (fun _ h9 => h9) rfl dX8_read_74 ?_
  obtain rfl := Option.some.inj hF
  exact en_i hQ (Nat.le_of_ble_eq_true rfl) (Nat.le_of_ble_eq_true rfl) hx hb hr hlocks hP hD hS rfl dX8_read_77

/-! X8_failureIn -/
theorem dX8_failureIn_0 : decode cX8_failureIn 0 = .ok (.iconst 0, 1) := by decide +kernel
theorem dX8_failureIn_1 : decode cX8_failureIn 1 = .ok (.istore_n 2, 1) := by decide +kernel
theorem dX8_failureIn_2 : decode cX8_failureIn 2 = .ok (.iload_n 2, 1) := by decide +kernel
theorem dX8_failureIn_3 : decode cX8_failureIn 3 = .ok (.aload_n 0, 1) := by decide +kernel
theorem dX8_failureIn_4 : decode cX8_failureIn 4 = .ok (.getfield 32, 3) := by decide +kernel
theorem dX8_failureIn_7 : decode cX8_failureIn 7 = .ok (.if_icmp .ge 36, 3) := by decide +kernel
theorem dX8_failureIn_10 : decode cX8_failureIn 10 = .ok (.aload_n 1, 1) := by decide +kernel
theorem dX8_failureIn_11 : decode cX8_failureIn 11 = .ok (.aload_n 0, 1) := by decide +kernel
theorem dX8_failureIn_12 : decode cX8_failureIn 12 = .ok (.getfield 21, 3) := by decide +kernel
theorem dX8_failureIn_15 : decode cX8_failureIn 15 = .ok (.iload_n 2, 1) := by decide +kernel
theorem dX8_failureIn_16 : decode cX8_failureIn 16 = .ok (.aaload, 1) := by decide +kernel
theorem dX8_failureIn_17 : decode cX8_failureIn 17 = .ok (.aload_n 0, 1) := by decide +kernel
theorem dX8_failureIn_18 : decode cX8_failureIn 18 = .ok (.getfield 25, 3) := by decide +kernel
theorem dX8_failureIn_21 : decode cX8_failureIn 21 = .ok (.iload_n 2, 1) := by decide +kernel
theorem dX8_failureIn_22 : decode cX8_failureIn 22 = .ok (.iaload, 1) := by decide +kernel
theorem dX8_failureIn_23 : decode cX8_failureIn 23 = .ok (.aload_n 0, 1) := by decide +kernel
theorem dX8_failureIn_24 : decode cX8_failureIn 24 = .ok (.getfield 29, 3) := by decide +kernel
theorem dX8_failureIn_27 : decode cX8_failureIn 27 = .ok (.iload_n 2, 1) := by decide +kernel
theorem dX8_failureIn_28 : decode cX8_failureIn 28 = .ok (.iaload, 1) := by decide +kernel
theorem dX8_failureIn_29 : decode cX8_failureIn 29 = .ok (.invokevirtual 108, 3) := by decide +kernel
theorem dX8_failureIn_32 : decode cX8_failureIn 32 = .ok (.ifCond .ge 5, 3) := by decide +kernel
theorem dX8_failureIn_35 : decode cX8_failureIn 35 = .ok (.iload_n 2, 1) := by decide +kernel
theorem dX8_failureIn_36 : decode cX8_failureIn 36 = .ok (.ireturn, 1) := by decide +kernel
theorem dX8_failureIn_37 : decode cX8_failureIn 37 = .ok (.iinc 2 1, 3) := by decide +kernel
theorem dX8_failureIn_40 : decode cX8_failureIn 40 = .ok (.goto (-38), 3) := by decide +kernel
theorem dX8_failureIn_43 : decode cX8_failureIn 43 = .ok (.iconst (-1), 1) := by decide +kernel
theorem dX8_failureIn_44 : decode cX8_failureIn 44 = .ok (.ireturn, 1) := by decide +kernel
def f_X8_failureIn_L2 (x_commands : (Nat → Option Nat)) (x_firsts : (Nat → Int32)) (x_seconds : (Nat → Int32)) (x_count : Int32) : Nat → Int32 → Int32 → Int32 → Int32 → (Nat → Int32) → (Nat → Int32) → Int32 → (Nat → Int32) → (Nat → Int32) → (Nat → Int32) → (Nat → Int32) → (Nat → Int32) → Int32 → Option (Int32 × Int32 × Int32 × Int32 × (Nat → Int32) × (Nat → Int32) × Int32 × (Nat → Int32) × (Nat → Int32) × (Nat → Int32) × (Nat → Int32) × (Nat → Int32) × Int32)
  | 0, _, _, _, _, _, _, _, _, _, _, _, _, _ => none
  | n2 + 1, i1, i2, i3, i4, i5, i6, i7, i8, i9, i10, i11, i12, i13 =>
    q_br (x_count ≤ i1) (
  some ((-1), i2, i3, i4, i5, i6, i7, i8, i9, i10, i11, i12, i13)) (
  q_gd (q_in i1 60) (
  q_bd (x_commands (i1.toNatClampNeg)) (fun q15 =>
  q_gd (q_in i1 60) (
  q_gd (q_in i1 60) (
  q_bd (f_X9_carryOut i2 i3 i4 i5 i6 i7 i8 i9 i10 i11 i12 i13 q15 (x_firsts (i1.toNatClampNeg)) (x_seconds (i1.toNatClampNeg))) (fun q18 =>
  q_br (0 ≤ q18.1) (
  q_lt (i1 + 1 : Int32) (fun v19 =>
  f_X8_failureIn_L2 x_commands x_firsts x_seconds x_count n2 v19 q18.2.1 q18.2.2.1 q18.2.2.2.1 q18.2.2.2.2.1 q18.2.2.2.2.2.1 q18.2.2.2.2.2.2.1 q18.2.2.2.2.2.2.2.1 q18.2.2.2.2.2.2.2.2.1 q18.2.2.2.2.2.2.2.2.2.1 q18.2.2.2.2.2.2.2.2.2.2.1 q18.2.2.2.2.2.2.2.2.2.2.2.1 q18.2.2.2.2.2.2.2.2.2.2.2.2)) (
  some (i1, q18.2.1, q18.2.2.1, q18.2.2.2.1, q18.2.2.2.2.1, q18.2.2.2.2.2.1, q18.2.2.2.2.2.2.1, q18.2.2.2.2.2.2.2.1, q18.2.2.2.2.2.2.2.2.1, q18.2.2.2.2.2.2.2.2.2.1, q18.2.2.2.2.2.2.2.2.2.2.1, q18.2.2.2.2.2.2.2.2.2.2.2.1, q18.2.2.2.2.2.2.2.2.2.2.2.2))))))))
def f_X8_failureIn (x_commands : (Nat → Option Nat)) (x_firsts : (Nat → Int32)) (x_seconds : (Nat → Int32)) (x_count : Int32) (y_key_tonic : Int32) (y_key_isMinor : Int32) (y_key_tolerance : Int32) (y_bells_herds : (Nat → Int32)) (y_bells_pitches : (Nat → Int32)) (y_bells_count : Int32) (y_melodies_lengths : (Nat → Int32)) (y_melodies_entries : (Nat → Int32)) (y_melodies_tones : (Nat → Int32)) (y_cliffs_delays : (Nat → Int32)) (y_cliffs_transpositions : (Nat → Int32)) (y_cliffs_count : Int32) : Option (Int32 × Int32 × Int32 × Int32 × (Nat → Int32) × (Nat → Int32) × Int32 × (Nat → Int32) × (Nat → Int32) × (Nat → Int32) × (Nat → Int32) × (Nat → Int32) × Int32) :=
  f_X8_failureIn_L2 x_commands x_firsts x_seconds x_count 2000 0 y_key_tonic y_key_isMinor y_key_tolerance y_bells_herds y_bells_pitches y_bells_count y_melodies_lengths y_melodies_entries y_melodies_tones y_cliffs_delays y_cliffs_transpositions y_cliffs_count
theorem hv_X8_failureIn : yX8_failureIn.cls = RX8 ∧ yX8_failureIn.cls ≠ "java/lang/invoke/MethodHandle" ∧ yX8_failureIn.cls ≠ "java/lang/invoke/VarHandle" ∧ (parseMethodDescriptor yX8_failureIn.desc).map (fun d => d.parameters.length) = some 1 := by decide +kernel
abbrev rm_X8_failureIn : Room := { frames := 6, cells := 0, slots := 0, locals := 134 }
set_option maxHeartbeats 4000000 in
set_option maxRecDepth 100000 in
theorem k_X8_failureIn (l : Launch) (E : ET) (a : Nat → Nat) (o : Nat) (x : Prog_t) (ay : Nat → Nat) (oy : Nat) (y : Valley_t) (res : Int32 × Int32 × Int32 × Int32 × (Nat → Int32) × (Nat → Int32) × Int32 × (Nat → Int32) × (Nat → Int32) × (Nat → Int32) × (Nat → Int32) × (Nat → Int32) × Int32) (hF : f_X8_failureIn x.1.2.2.1 x.1.2.2.2 x.2.1.1 x.2.1.2.1 y.1.1 y.1.2.1 y.1.2.2 y.2.1.1 y.2.1.2.1 y.2.1.2.2 y.2.2.1.1 y.2.2.1.2.1 y.2.2.1.2.2 y.2.2.2.1 y.2.2.2.2.1 y.2.2.2.2.2 = some res) (sz : Nat) : CtI l yX8_failureIn (mws yX8_failureIn cX8_failureIn 3 (some .int)) rm_X8_failureIn 0 0 [.ref (a o), .ref (ay oy)] E (bl_Prog E a o x ++ bl_Valley E ay oy y) res.1 (bl_Prog E a o x ++ bl_Valley E ay oy ((res.2.1, res.2.2.1, res.2.2.2.1), (res.2.2.2.2.1, res.2.2.2.2.2.1, res.2.2.2.2.2.2.1), (res.2.2.2.2.2.2.2.1, res.2.2.2.2.2.2.2.2.1, res.2.2.2.2.2.2.2.2.2.1), (res.2.2.2.2.2.2.2.2.2.2.1, res.2.2.2.2.2.2.2.2.2.2.2.1, res.2.2.2.2.2.2.2.2.2.2.2.2))) sz := by
  refine mk_M (by decide +kernel) (Nat.le_of_ble_eq_true rfl) ?_
  intro p e s m below meth c A args Q ls hAe hsz hQ hx hb hr hml hin ha hown hlocks hA hz hzs hst hP hD hS hl
  have hown : s.vm.findClass RX8 = some m.cls := hown
  rw [hAe] at hQ
  subst hsz
  have hP : va_P E.1 vwCl (List.flatten [w_Prog E a o x, w_ValleyR ay oy, w_Key E ay (oy + 1) y.1, w_Bells E ay (oy + 2) y.2.1, w_Mel E ay (oy + 5) y.2.2.1, w_Cliffs E ay (oy + 9) y.2.2.2]) s.heap := hP
  have hD : va_D A (List.flatten [w_Prog E a o x, w_ValleyR ay oy, w_Key E ay (oy + 1) y.1, w_Bells E ay (oy + 2) y.2.1, w_Mel E ay (oy + 5) y.2.2.1, w_Cliffs E ay (oy + 9) y.2.2.2]) := hD
  have hl : lv_has ls 3 [(0, .ref (a o)), (1, .ref (ay oy))] := hl
  generalize hHe : s.heap = H at hP
  have hS : va_S A s.heap H [] := by rw [← hHe]; exact hS
  generalize ([] : List Loc) = locs at hS ⊢
  unfold f_X8_failureIn at hF
  refine lv_iconst (v := 0) hx hb dX8_failureIn_0 (by decide) ?_
  refine lv_istore_n (lv' := [(2, .int 0), (0, .ref (a o)), (1, .ref (ay oy))]) hx hb dX8_failureIn_1 rfl hl (by decide) rfl (fun ls hl => ?_)
  have key2 : ∀ (n : Nat) (i1 : Int32) (i2 : Int32) (i3 : Int32) (i4 : Int32) (i5 : (Nat → Int32)) (i6 : (Nat → Int32)) (i7 : Int32) (i8 : (Nat → Int32)) (i9 : (Nat → Int32)) (i10 : (Nat → Int32)) (i11 : (Nat → Int32)) (i12 : (Nat → Int32)) (i13 : Int32) (H : Heap) (locs : List Loc) (ls : Array Slot), f_X8_failureIn_L2 x.1.2.2.1 x.1.2.2.2 x.2.1.1 x.2.1.2.1 n i1 i2 i3 i4 i5 i6 i7 i8 i9 i10 i11 i12 i13 = some res → va_P E.1 vwCl (List.flatten [w_Prog E a o x, w_ValleyR ay oy, w_Key E ay (oy + 1) (i2, i3, i4), w_Bells E ay (oy + 2) (i5, i6, i7), w_Mel E ay (oy + 5) (i8, i9, i10), w_Cliffs E ay (oy + 9) (i11, i12, i13)]) H → va_D A (List.flatten [w_Prog E a o x, w_ValleyR ay oy, w_Key E ay (oy + 1) (i2, i3, i4), w_Bells E ay (oy + 2) (i5, i6, i7), w_Mel E ay (oy + 5) (i8, i9, i10), w_Cliffs E ay (oy + 9) (i11, i12, i13)]) → va_S A s.heap H locs → lv_has ls 3 [(2, .int i1), (0, .ref (a o)), (1, .ref (ay oy))] → W p l e rm_X8_failureIn s m args below meth c H locs 0 0 Q (F0 m 2 ls []) := by
    intro n2
    induction n2 with
    | zero => intro i1 i2 i3 i4 i5 i6 i7 i8 i9 i10 i11 i12 i13 H locs ls hF; exact absurd hF (by simp [f_X8_failureIn_L2])
    | succ n2 ih2 =>
      intro i1 i2 i3 i4 i5 i6 i7 i8 i9 i10 i11 i12 i13 H locs ls hF hP hD hS hl
      rw [f_X8_failureIn_L2] at hF
      refine lv_iload_n hx hb dX8_failureIn_2 rfl (lv_at hl 0 rfl) ?_
      refine lv_aload_n hx hb dX8_failureIn_3 rfl (lv_at hl 1 rfl) ?_
      refine va_get (D := E.1) (ci := 9) (v := .int x.2.1.2.1) (C := RX8) (T := TX8) (N := 11) hx hb ha in_X8 hown hst.k hP 0 rfl rfl 5 (by decide) (ha _ mw203) (fun _ h9 => h9) rfl dX8_failureIn_4 ?_
      refine lv_icmp_ge (tgt := 43) hx hb dX8_failureIn_7 (by decide) (fun c7 => ?_) (fun c7 => ?_)
      · have hF := q_brp c7 hF
        refine lv_iconst (v := (-1)) hx hb dX8_failureIn_43 (by decide) ?_
        obtain rfl := Option.some.inj hF
        exact en_i hQ (Nat.le_of_ble_eq_true rfl) (Nat.le_of_ble_eq_true rfl) hx hb hr hlocks hP hD hS rfl dX8_failureIn_44
      · have hF := q_brn c7 hF
        refine lv_aload_n hx hb dX8_failureIn_10 rfl (lv_at hl 2 rfl) ?_
        refine lv_aload_n hx hb dX8_failureIn_11 rfl (lv_at hl 1 rfl) ?_
        refine va_get (D := E.1) (ci := 9) (v := .ref (a (o + 2))) (C := RX8) (T := TX8) (N := 11) hx hb ha in_X8 hown hst.k hP 0 rfl rfl 2 (by decide) (ha _ mw200) (fun _ h9 => h9) rfl dX8_failureIn_12 ?_
        refine lv_iload_n hx hb dX8_failureIn_15 rfl (lv_at hl 0 rfl) ?_
        obtain ⟨g14, hF⟩ := q_gdi hF
        obtain ⟨q15, hq15, hF⟩ := q_bdi hF
        refine vi_alde hx hb hst.k hP 2 4 rfl rfl (f := x.1.2.2.1) (k := i1.toNatClampNeg) (v := q15) rfl g14 hq15 dX8_failureIn_16 ?_
        refine lv_aload_n hx hb dX8_failureIn_17 rfl (lv_at hl 1 rfl) ?_
        refine va_get (D := E.1) (ci := 9) (v := .ref (a (o + 3))) (C := RX8) (T := TX8) (N := 11) hx hb ha in_X8 hown hst.k hP 0 rfl rfl 3 (by decide) (ha _ mw201) (fun _ h9 => h9) rfl dX8_failureIn_18 ?_
        refine lv_iload_n hx hb dX8_failureIn_21 rfl (lv_at hl 0 rfl) ?_
        obtain ⟨g16, hF⟩ := q_gdi hF
        refine vi_iald hx hb hst.k hP 3 0 rfl rfl (f := x.1.2.2.2) (k := i1.toNatClampNeg) rfl g16 dX8_failureIn_22 ?_
        refine lv_aload_n hx hb dX8_failureIn_23 rfl (lv_at hl 1 rfl) ?_
        refine va_get (D := E.1) (ci := 9) (v := .ref (a (o + 4))) (C := RX8) (T := TX8) (N := 11) hx hb ha in_X8 hown hst.k hP 0 rfl rfl 4 (by decide) (ha _ mw202) (fun _ h9 => h9) rfl dX8_failureIn_24 ?_
        refine lv_iload_n hx hb dX8_failureIn_27 rfl (lv_at hl 0 rfl) ?_
        obtain ⟨g17, hF⟩ := q_gdi hF
        refine vi_iald hx hb hst.k hP 4 0 rfl rfl (f := x.2.1.1) (k := i1.toNatClampNeg) rfl g17 dX8_failureIn_28 ?_
        obtain ⟨q18, hq18, hF⟩ := q_bdi hF
        refine cl_i (Lc := [w_ValleyR ay oy, w_Key E ay (oy + 1) (i2, i3, i4), w_Bells E ay (oy + 2) (i5, i6, i7), w_Mel E ay (oy + 5) (i8, i9, i10), w_Cliffs E ay (oy + 9) (i11, i12, i13)]) (Lc' := [w_ValleyR ay oy, w_Key E ay (oy + 1) (q18.2.1, q18.2.2.1, q18.2.2.2.1), w_Bells E ay (oy + 2) (q18.2.2.2.2.1, q18.2.2.2.2.2.1, q18.2.2.2.2.2.2.1), w_Mel E ay (oy + 5) (q18.2.2.2.2.2.2.2.1, q18.2.2.2.2.2.2.2.2.1, q18.2.2.2.2.2.2.2.2.2.1), w_Cliffs E ay (oy + 9) (q18.2.2.2.2.2.2.2.2.2.2.1, q18.2.2.2.2.2.2.2.2.2.2.2.1, q18.2.2.2.2.2.2.2.2.2.2.2.2)]) (L' := [w_Prog E a o x, w_ValleyR ay oy, w_Key E ay (oy + 1) (q18.2.1, q18.2.2.1, q18.2.2.2.1), w_Bells E ay (oy + 2) (q18.2.2.2.2.1, q18.2.2.2.2.2.1, q18.2.2.2.2.2.2.1), w_Mel E ay (oy + 5) (q18.2.2.2.2.2.2.2.1, q18.2.2.2.2.2.2.2.2.1, q18.2.2.2.2.2.2.2.2.2.1), w_Cliffs E ay (oy + 9) (q18.2.2.2.2.2.2.2.2.2.2.1, q18.2.2.2.2.2.2.2.2.2.2.2.1, q18.2.2.2.2.2.2.2.2.2.2.2.2)]) (rv := q18.1) (va_runV (As := [.ref (E.2 (100 + q15)), .int (x.1.2.2.2 (i1.toNatClampNeg)), .int (x.2.1.1 (i1.toNatClampNeg))]) (rest := []) ⟨hx, hb, hml, hown, ha⟩ (k_X9_carryOut l E ay oy ((i2, i3, i4), (i5, i6, i7), (i8, i9, i10), (i11, i12, i13)) q15 (x.1.2.2.2 (i1.toNatClampNeg)) (x.2.1.1 (i1.toNatClampNeg)) q18 hq18 H.size) (cwV 3 ha (gi_V (fun _ h => h) mw1037 mw355 mw356 mw27 mw357) rfl rfl rfl hv_X9_carryOut ⟨(Nat.le_of_ble_eq_true rfl), (Nat.le_of_ble_eq_true rfl)⟩) ⟨pre_blind, va_recv hst.k (fr_P hP [1, 2, 3, 4, 5] rfl) (ci := 10) (q0 := 0) rfl rfl, pre_at hP hD hS hz hzs hst [1, 2, 3, 4, 5] (by decide) rfl rfl⟩ rfl rfl hl.1 rfl (lv_room (Nat.le_of_ble_eq_true rfl)) dX8_failureIn_29 ⟨(Nat.le_of_ble_eq_true rfl), (Nat.le_of_ble_eq_true rfl)⟩) hP hD hS hA [1, 2, 3, 4, 5] (by decide) rfl rfl rfl rfl (fun H locs hP hD hS => ?_)
        refine lv_if_ge (tgt := 37) hx hb dX8_failureIn_32 (by decide) (fun c32 => ?_) (fun c32 => ?_)
        · have hF := q_brp c32 hF
          obtain ⟨v19, ev19⟩ : ∃ y : Int32, y = i1 + 1 := ⟨_, rfl⟩
          have hF := q_lti ev19 hF
          refine lv_iinc (v := v19) (lv' := [(2, .int v19), (0, .ref (a o)), (1, .ref (ay oy))]) hx hb dX8_failureIn_37 hl (k := 0) rfl (by rw [ev19]; rfl) (by decide) rfl (fun ls hl => ?_)
          refine lv_goto (tgt := 2) hx hb dX8_failureIn_40 (by decide) ?_
          exact ih2 v19 q18.2.1 q18.2.2.1 q18.2.2.2.1 q18.2.2.2.2.1 q18.2.2.2.2.2.1 q18.2.2.2.2.2.2.1 q18.2.2.2.2.2.2.2.1 q18.2.2.2.2.2.2.2.2.1 q18.2.2.2.2.2.2.2.2.2.1 q18.2.2.2.2.2.2.2.2.2.2.1 q18.2.2.2.2.2.2.2.2.2.2.2.1 q18.2.2.2.2.2.2.2.2.2.2.2.2 H locs ls hF hP hD hS (lv_sub hl [0, 1, 2] rfl)
        · have hF := q_brn c32 hF
          refine lv_iload_n hx hb dX8_failureIn_35 rfl (lv_at hl 0 rfl) ?_
          obtain rfl := Option.some.inj hF
          exact en_i hQ (Nat.le_of_ble_eq_true rfl) (Nat.le_of_ble_eq_true rfl) hx hb hr hlocks hP hD hS rfl dX8_failureIn_36
  exact key2 _ 0 y.1.1 y.1.2.1 y.1.2.2 y.2.1.1 y.2.1.2.1 y.2.1.2.2 y.2.2.1.1 y.2.2.1.2.1 y.2.2.1.2.2 y.2.2.2.1 y.2.2.2.2.1 y.2.2.2.2.2 H locs ls hF hP hD hS (lv_sub hl [0, 1, 2] rfl)
