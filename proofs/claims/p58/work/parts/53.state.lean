/-! ===== the number of a state: by the valley's cells alone ===== -/
def sB (G : Int → Int) : Nat → Int → Int32 → Int32
  | 0, _, v => v
  | d + 1, i, v => sB G d (i + 1) (31 * (31 * v + iI (G (5 + i))) + iI (G (17 + i)))
def sT (G : Int → Int) (h : Int) : Nat → Int → Int32 → Int32
  | 0, _, v => v
  | d + 1, i, v => sT G h d (i + 1) (31 * v + iI (G (37 + 8 * h + i)))
def sM (G : Int → Int) : Nat → Int → Int32 → Int32
  | 0, _, v => v
  | d + 1, h, v => sM G d (h + 1) (sT G h (G (33 + h)).toNat 0 (31 * (31 * v + iI (G (29 + h))) + iI (G (33 + h))))
def sC (G : Int → Int) : Nat → Int → Int32 → Int32
  | 0, _, v => v
  | d + 1, i, v => sC G d (i + 1) (31 * (31 * v + iI (G (69 + i))) + iI (G (73 + i)))
def SG (G : Int → Int) : Int32 := 31 * sC G (G 1).toNat 0 (sM G 4 0 (sB G (G 0).toNat 0 (31 * (31 * iI (G 2) + iI (G 3)) + iI (G 4)))) + iI (G 0)
section SQ
variable {V sv : Valley_t} {hs : Hist_t} {P : Prog_t} {C : Chord_t} {tk : Key_t} {ln : Line_t} {is er fc : Int32} {G : Int → Int}
theorem qs_count (hV : RV V G) : g_X10_bellCount (XZ V sv hs P C tk ln is er fc) = some (iI (G 0)) := by
  obtain ⟨H, Pi, Le, E, T, D, S, rfl, hB, hM, hC⟩ := hV
  rfl
theorem qs_cliffs (hV : RV V G) : g_X10_cliffCount (XZ V sv hs P C tk ln is er fc) = some (iI (G 1)) := by
  obtain ⟨H, Pi, Le, E, T, D, S, rfl, hB, hM, hC⟩ := hV
  rfl
theorem qs_herd (hV : RV V G) (hG : VOk G) {i : Int} (hi : 0 ≤ i ∧ i < G 0) : g_X10_herdOf (XZ V sv hs P C tk ln is er fc) (iI i) = some (Sum.inl (iI (G (5 + i)))) := by
  obtain ⟨H, Pi, Le, E, T, D, S, rfl, hB, hM, hC⟩ := hV
  obtain ⟨g0, g1, g2, g3, g4, hb, hm, hc⟩ := id hG
  obtain ⟨y1, y2⟩ := hB i hi.1 hi.2
  show f_X10_herdOf (aI H) (iI (G 0)) (iI i) = _
  unfold f_X10_herdOf f_X10_requireBell
  simp (disch := omega) only [↓q_brd, ↓q_gdd, ↓q_lts, ↓reduceIte, ↓q_bds, ↓zq_smi, ↓zq_smr, iI_add, iI_sub, iI_mul, iI_neg, iI_ab3, iI_div, z_emod, aI_rd, aI_wr, aR0, aW0, aR1, aW1, aR2, aW2, aR3, aW3, aR4, aW4, iI_inT, iI_lt, iI_le, iI_eq, lt_t, lt_f, le_t, le_f, eq_t, eq_f, bz_z, bz_o, bz_zo, bzT, bzF, n_em, zu_s, zu_n, not_true_eq_false, not_false_eq_true, and_self, true_and, and_true, false_and, and_false, true_or, or_true, false_or, or_false, or_self, Int.add_sub_cancel, n_0, n_1, n_2, n_3, n_4, n_5, n_6, n_7, n_8, n_9, n_10, n_11, n_12, n_13, n_14, n_15, n_16, n_17, n_18, n_19, n_20, n_21, n_22, n_23, n_24, n_25, n_26, n_27, n_28, n_29, n_30, n_31, n_32, n_33, n_34, n_35, n_36, n_37, n_40, n_44, n_48, n_50, n_57, n_58, n_60, n_65, n_66, n_67, n_68, n_69, n_70, n_71, n_73, n_77, n_80, n_83, n_97, n_98, n_99, n_100, n_101, n_102, n_103, n_104, n_105, n_106, n_107, n_108, n_109, n_110, n_111, n_112, n_113, n_114, n_115, n_116, n_117, n_118, n_120, n_121, n_122, n_180, n_255, n_539, n_600, n_616, n_1200, n_2000, n_3600, n_8400, n_65536, z_has, bz_t, y1]
theorem qs_pitch (hV : RV V G) (hG : VOk G) {i : Int} (hi : 0 ≤ i ∧ i < G 0) : g_X10_pitch (XZ V sv hs P C tk ln is er fc) (iI i) = some (Sum.inl (iI (G (17 + i)))) := by
  obtain ⟨H, Pi, Le, E, T, D, S, rfl, hB, hM, hC⟩ := hV
  obtain ⟨g0, g1, g2, g3, g4, hb, hm, hc⟩ := id hG
  obtain ⟨y1, y2⟩ := hB i hi.1 hi.2
  show f_X10_pitch (aI Pi) (iI (G 0)) (iI i) = _
  unfold f_X10_pitch f_X10_requireBell
  simp (disch := omega) only [↓q_brd, ↓q_gdd, ↓q_lts, ↓reduceIte, ↓q_bds, ↓zq_smi, ↓zq_smr, iI_add, iI_sub, iI_mul, iI_neg, iI_ab3, iI_div, z_emod, aI_rd, aI_wr, aR0, aW0, aR1, aW1, aR2, aW2, aR3, aW3, aR4, aW4, iI_inT, iI_lt, iI_le, iI_eq, lt_t, lt_f, le_t, le_f, eq_t, eq_f, bz_z, bz_o, bz_zo, bzT, bzF, n_em, zu_s, zu_n, not_true_eq_false, not_false_eq_true, and_self, true_and, and_true, false_and, and_false, true_or, or_true, false_or, or_false, or_self, Int.add_sub_cancel, n_0, n_1, n_2, n_3, n_4, n_5, n_6, n_7, n_8, n_9, n_10, n_11, n_12, n_13, n_14, n_15, n_16, n_17, n_18, n_19, n_20, n_21, n_22, n_23, n_24, n_25, n_26, n_27, n_28, n_29, n_30, n_31, n_32, n_33, n_34, n_35, n_36, n_37, n_40, n_44, n_48, n_50, n_57, n_58, n_60, n_65, n_66, n_67, n_68, n_69, n_70, n_71, n_73, n_77, n_80, n_83, n_97, n_98, n_99, n_100, n_101, n_102, n_103, n_104, n_105, n_106, n_107, n_108, n_109, n_110, n_111, n_112, n_113, n_114, n_115, n_116, n_117, n_118, n_120, n_121, n_122, n_180, n_255, n_539, n_600, n_616, n_1200, n_2000, n_3600, n_8400, n_65536, z_has, bz_t, y2]
theorem qs_entry (hV : RV V G) {h : Int} (hh : 0 ≤ h ∧ h ≤ 3) : g_X10_entry (XZ V sv hs P C tk ln is er fc) (iI h) = some (Sum.inl (iI (G (29 + h)))) := by
  obtain ⟨H, Pi, Le, E, T, D, S, rfl, hB, hM, hC⟩ := hV
  obtain ⟨y1, y2, y3⟩ := hM h hh.1 hh.2
  show f_X10_entry (aI E) (iI h) = _
  unfold f_X10_entry f_X10_requireHerd
  simp (disch := omega) only [↓q_brd, ↓q_gdd, ↓q_lts, ↓reduceIte, ↓q_bds, ↓zq_smi, ↓zq_smr, iI_add, iI_sub, iI_mul, iI_neg, iI_ab3, iI_div, z_emod, aI_rd, aI_wr, aR0, aW0, aR1, aW1, aR2, aW2, aR3, aW3, aR4, aW4, iI_inT, iI_lt, iI_le, iI_eq, lt_t, lt_f, le_t, le_f, eq_t, eq_f, bz_z, bz_o, bz_zo, bzT, bzF, n_em, zu_s, zu_n, not_true_eq_false, not_false_eq_true, and_self, true_and, and_true, false_and, and_false, true_or, or_true, false_or, or_false, or_self, Int.add_sub_cancel, n_0, n_1, n_2, n_3, n_4, n_5, n_6, n_7, n_8, n_9, n_10, n_11, n_12, n_13, n_14, n_15, n_16, n_17, n_18, n_19, n_20, n_21, n_22, n_23, n_24, n_25, n_26, n_27, n_28, n_29, n_30, n_31, n_32, n_33, n_34, n_35, n_36, n_37, n_40, n_44, n_48, n_50, n_57, n_58, n_60, n_65, n_66, n_67, n_68, n_69, n_70, n_71, n_73, n_77, n_80, n_83, n_97, n_98, n_99, n_100, n_101, n_102, n_103, n_104, n_105, n_106, n_107, n_108, n_109, n_110, n_111, n_112, n_113, n_114, n_115, n_116, n_117, n_118, n_120, n_121, n_122, n_180, n_255, n_539, n_600, n_616, n_1200, n_2000, n_3600, n_8400, n_65536, z_isHerd, bz_t, y2]
theorem qs_len (hV : RV V G) {h : Int} (hh : 0 ≤ h ∧ h ≤ 3) : g_X10_melodyLength (XZ V sv hs P C tk ln is er fc) (iI h) = some (Sum.inl (iI (G (33 + h)))) := by
  obtain ⟨H, Pi, Le, E, T, D, S, rfl, hB, hM, hC⟩ := hV
  obtain ⟨y1, y2, y3⟩ := hM h hh.1 hh.2
  show f_X10_melodyLength (aI Le) (iI h) = _
  unfold f_X10_melodyLength f_X10_requireHerd
  simp (disch := omega) only [↓q_brd, ↓q_gdd, ↓q_lts, ↓reduceIte, ↓q_bds, ↓zq_smi, ↓zq_smr, iI_add, iI_sub, iI_mul, iI_neg, iI_ab3, iI_div, z_emod, aI_rd, aI_wr, aR0, aW0, aR1, aW1, aR2, aW2, aR3, aW3, aR4, aW4, iI_inT, iI_lt, iI_le, iI_eq, lt_t, lt_f, le_t, le_f, eq_t, eq_f, bz_z, bz_o, bz_zo, bzT, bzF, n_em, zu_s, zu_n, not_true_eq_false, not_false_eq_true, and_self, true_and, and_true, false_and, and_false, true_or, or_true, false_or, or_false, or_self, Int.add_sub_cancel, n_0, n_1, n_2, n_3, n_4, n_5, n_6, n_7, n_8, n_9, n_10, n_11, n_12, n_13, n_14, n_15, n_16, n_17, n_18, n_19, n_20, n_21, n_22, n_23, n_24, n_25, n_26, n_27, n_28, n_29, n_30, n_31, n_32, n_33, n_34, n_35, n_36, n_37, n_40, n_44, n_48, n_50, n_57, n_58, n_60, n_65, n_66, n_67, n_68, n_69, n_70, n_71, n_73, n_77, n_80, n_83, n_97, n_98, n_99, n_100, n_101, n_102, n_103, n_104, n_105, n_106, n_107, n_108, n_109, n_110, n_111, n_112, n_113, n_114, n_115, n_116, n_117, n_118, n_120, n_121, n_122, n_180, n_255, n_539, n_600, n_616, n_1200, n_2000, n_3600, n_8400, n_65536, z_isHerd, bz_t, y1]
theorem qs_tone (hV : RV V G) (hG : VOk G) {h i : Int} (hh : 0 ≤ h ∧ h ≤ 3) (hi : 0 ≤ i ∧ i < G (33 + h)) : g_X10_tone (XZ V sv hs P C tk ln is er fc) (iI h) (iI i) = some (Sum.inl (iI (G (37 + 8 * h + i)))) := by
  obtain ⟨H, Pi, Le, E, T, D, S, rfl, hB, hM, hC⟩ := hV
  obtain ⟨g0, g1, g2, g3, g4, hb, hm, hc⟩ := id hG
  obtain ⟨y1, y2, y3⟩ := hM h hh.1 hh.2
  obtain ⟨x1, x2, x3⟩ := hm h hh.1 hh.2
  have y4 := y3 i hi.1 hi.2
  show f_X10_tone (aI Le) (aI T) (iI h) (iI i) = _
  unfold f_X10_tone f_X10_requireHerd f_X7_has f_X7_bellOf
  simp (disch := omega) only [↓q_brd, ↓q_gdd, ↓q_lts, ↓reduceIte, ↓q_bds, ↓zq_smi, ↓zq_smr, iI_add, iI_sub, iI_mul, iI_neg, iI_ab3, iI_div, z_emod, aI_rd, aI_wr, aR0, aW0, aR1, aW1, aR2, aW2, aR3, aW3, aR4, aW4, iI_inT, iI_lt, iI_le, iI_eq, lt_t, lt_f, le_t, le_f, eq_t, eq_f, bz_z, bz_o, bz_zo, bzT, bzF, n_em, zu_s, zu_n, not_true_eq_false, not_false_eq_true, and_self, true_and, and_true, false_and, and_false, true_or, or_true, false_or, or_false, or_self, Int.add_sub_cancel, n_0, n_1, n_2, n_3, n_4, n_5, n_6, n_7, n_8, n_9, n_10, n_11, n_12, n_13, n_14, n_15, n_16, n_17, n_18, n_19, n_20, n_21, n_22, n_23, n_24, n_25, n_26, n_27, n_28, n_29, n_30, n_31, n_32, n_33, n_34, n_35, n_36, n_37, n_40, n_44, n_48, n_50, n_57, n_58, n_60, n_65, n_66, n_67, n_68, n_69, n_70, n_71, n_73, n_77, n_80, n_83, n_97, n_98, n_99, n_100, n_101, n_102, n_103, n_104, n_105, n_106, n_107, n_108, n_109, n_110, n_111, n_112, n_113, n_114, n_115, n_116, n_117, n_118, n_120, n_121, n_122, n_180, n_255, n_539, n_600, n_616, n_1200, n_2000, n_3600, n_8400, n_65536, z_isHerd, z_isWithin, bz_t, y1, y4]
theorem qs_delay (hV : RV V G) (hG : VOk G) {i : Int} (hi : 0 ≤ i ∧ i < G 1) : g_X10_delay (XZ V sv hs P C tk ln is er fc) (iI i) = some (Sum.inl (iI (G (69 + i)))) := by
  obtain ⟨H, Pi, Le, E, T, D, S, rfl, hB, hM, hC⟩ := hV
  obtain ⟨g0, g1, g2, g3, g4, hb, hm, hc⟩ := id hG
  obtain ⟨y1, y2⟩ := hC i hi.1 hi.2
  show f_X10_delay (aI D) (iI (G 1)) (iI i) = _
  unfold f_X10_delay f_X10_requireCliff
  simp (disch := omega) only [↓q_brd, ↓q_gdd, ↓q_lts, ↓reduceIte, ↓q_bds, ↓zq_smi, ↓zq_smr, iI_add, iI_sub, iI_mul, iI_neg, iI_ab3, iI_div, z_emod, aI_rd, aI_wr, aR0, aW0, aR1, aW1, aR2, aW2, aR3, aW3, aR4, aW4, iI_inT, iI_lt, iI_le, iI_eq, lt_t, lt_f, le_t, le_f, eq_t, eq_f, bz_z, bz_o, bz_zo, bzT, bzF, n_em, zu_s, zu_n, not_true_eq_false, not_false_eq_true, and_self, true_and, and_true, false_and, and_false, true_or, or_true, false_or, or_false, or_self, Int.add_sub_cancel, n_0, n_1, n_2, n_3, n_4, n_5, n_6, n_7, n_8, n_9, n_10, n_11, n_12, n_13, n_14, n_15, n_16, n_17, n_18, n_19, n_20, n_21, n_22, n_23, n_24, n_25, n_26, n_27, n_28, n_29, n_30, n_31, n_32, n_33, n_34, n_35, n_36, n_37, n_40, n_44, n_48, n_50, n_57, n_58, n_60, n_65, n_66, n_67, n_68, n_69, n_70, n_71, n_73, n_77, n_80, n_83, n_97, n_98, n_99, n_100, n_101, n_102, n_103, n_104, n_105, n_106, n_107, n_108, n_109, n_110, n_111, n_112, n_113, n_114, n_115, n_116, n_117, n_118, n_120, n_121, n_122, n_180, n_255, n_539, n_600, n_616, n_1200, n_2000, n_3600, n_8400, n_65536, z_has3, bz_t, y1]
theorem qs_trans (hV : RV V G) (hG : VOk G) {i : Int} (hi : 0 ≤ i ∧ i < G 1) : g_X10_transposition (XZ V sv hs P C tk ln is er fc) (iI i) = some (Sum.inl (iI (G (73 + i)))) := by
  obtain ⟨H, Pi, Le, E, T, D, S, rfl, hB, hM, hC⟩ := hV
  obtain ⟨g0, g1, g2, g3, g4, hb, hm, hc⟩ := id hG
  obtain ⟨y1, y2⟩ := hC i hi.1 hi.2
  show f_X10_transposition (aI S) (iI (G 1)) (iI i) = _
  unfold f_X10_transposition f_X10_requireCliff
  simp (disch := omega) only [↓q_brd, ↓q_gdd, ↓q_lts, ↓reduceIte, ↓q_bds, ↓zq_smi, ↓zq_smr, iI_add, iI_sub, iI_mul, iI_neg, iI_ab3, iI_div, z_emod, aI_rd, aI_wr, aR0, aW0, aR1, aW1, aR2, aW2, aR3, aW3, aR4, aW4, iI_inT, iI_lt, iI_le, iI_eq, lt_t, lt_f, le_t, le_f, eq_t, eq_f, bz_z, bz_o, bz_zo, bzT, bzF, n_em, zu_s, zu_n, not_true_eq_false, not_false_eq_true, and_self, true_and, and_true, false_and, and_false, true_or, or_true, false_or, or_false, or_self, Int.add_sub_cancel, n_0, n_1, n_2, n_3, n_4, n_5, n_6, n_7, n_8, n_9, n_10, n_11, n_12, n_13, n_14, n_15, n_16, n_17, n_18, n_19, n_20, n_21, n_22, n_23, n_24, n_25, n_26, n_27, n_28, n_29, n_30, n_31, n_32, n_33, n_34, n_35, n_36, n_37, n_40, n_44, n_48, n_50, n_57, n_58, n_60, n_65, n_66, n_67, n_68, n_69, n_70, n_71, n_73, n_77, n_80, n_83, n_97, n_98, n_99, n_100, n_101, n_102, n_103, n_104, n_105, n_106, n_107, n_108, n_109, n_110, n_111, n_112, n_113, n_114, n_115, n_116, n_117, n_118, n_120, n_121, n_122, n_180, n_255, n_539, n_600, n_616, n_1200, n_2000, n_3600, n_8400, n_65536, z_has3, bz_t, y2]
theorem st_B (hV : RV V G) (hG : VOk G) (K : Int32 → Option Int32) (d : Nat) : ∀ (i : Int) (v : Int32) (fuel : Nat), 0 ≤ i → i + d = G 0 → d < fuel → f_L_state_L31 (XZ V sv hs P C tk ln is er fc) K fuel (iI i) v = K (sB G d i v) := by
  have g0 := hG.1
  induction d with
  | zero =>
    intro i v fuel h1 h2 h3
    obtain ⟨f, rfl⟩ : ∃ f, fuel = f + 1 := ⟨fuel - 1, by omega⟩
    rw [f_L_state_L31, qs_count hV, q_bds, q_brd, if_pos (by rw [iI_le (by omega)]; omega)]
    rfl
  | succ d ih =>
    intro i v fuel h1 h2 h3
    obtain ⟨f, rfl⟩ : ∃ f, fuel = f + 1 := ⟨fuel - 1, by omega⟩
    rw [f_L_state_L31, qs_count hV, q_bds, q_brd, if_neg (by rw [iI_le (by omega)]; omega), qs_herd hV hG (by omega), q_bds, zq_smi, qs_pitch hV hG (by omega), q_bds, zq_smi, q_lts, q_lts, show (1 : Int32) = iI 1 from rfl, iI_add]
    exact ih (i + 1) _ f (by omega) (by omega) (by omega)
theorem st_C (hV : RV V G) (hG : VOk G) (K : Int32 → Option Int32) (d : Nat) : ∀ (i : Int) (v : Int32) (fuel : Nat), 0 ≤ i → i + d = G 1 → d < fuel → f_L_state_L140 (XZ V sv hs P C tk ln is er fc) K fuel (iI i) v = K (sC G d i v) := by
  have g1 := hG.2.1
  induction d with
  | zero =>
    intro i v fuel h1 h2 h3
    obtain ⟨f, rfl⟩ : ∃ f, fuel = f + 1 := ⟨fuel - 1, by omega⟩
    rw [f_L_state_L140, qs_cliffs hV, q_bds, q_brd, if_pos (by rw [iI_le (by omega)]; omega)]
    rfl
  | succ d ih =>
    intro i v fuel h1 h2 h3
    obtain ⟨f, rfl⟩ : ∃ f, fuel = f + 1 := ⟨fuel - 1, by omega⟩
    rw [f_L_state_L140, qs_cliffs hV, q_bds, q_brd, if_neg (by rw [iI_le (by omega)]; omega), qs_delay hV hG (by omega), q_bds, zq_smi, qs_trans hV hG (by omega), q_bds, zq_smi, q_lts, q_lts, show (1 : Int32) = iI 1 from rfl, iI_add]
    exact ih (i + 1) _ f (by omega) (by omega) (by omega)
theorem ml_L (hV : RV V G) (hG : VOk G) {h : Int} (hh : 0 ≤ h ∧ h ≤ 3) (d : Nat) : ∀ (i : Int) (u : Int → Int) (fuel : Nat), 0 ≤ i → i + d = G (33 + h) → d < fuel → (∀ k, 0 ≤ k → k < i → u k = G (37 + 8 * h + k)) → ∃ u' : Int → Int, (∀ k, 0 ≤ k → k < G (33 + h) → u' k = G (37 + 8 * h + k)) ∧ ∀ K : (Nat → Int32) → Option (Nat × (Nat → Int32)), f_L_melody_L10 (XZ V sv hs P C tk ln is er fc) (iI h) (iI (G (33 + h))) K fuel (iI i) (aI u) = K (aI u') := by
  have hm := (hG.2.2.2.2.2.2.1 h hh.1 hh.2).2.1
  induction d with
  | zero =>
    intro i u fuel h1 h2 h3 hu
    obtain ⟨f, rfl⟩ : ∃ f, fuel = f + 1 := ⟨fuel - 1, by omega⟩
    refine ⟨u, fun k k0 k1 => hu k k0 (by omega), fun K => ?_⟩
    rw [f_L_melody_L10, iI_cl (by omega), q_brd, if_pos]
    show iI ((G (33 + h)).toNat : Int) ≤ iI i
    rw [iI_le (by omega)]; omega
  | succ d ih =>
    intro i u fuel h1 h2 h3 hu
    obtain ⟨f, rfl⟩ : ∃ f, fuel = f + 1 := ⟨fuel - 1, by omega⟩
    obtain ⟨u', hu', e⟩ := ih (i + 1) (zu u i (G (37 + 8 * h + i))) f (by omega) (by omega) (by omega) (fun k k0 k1 => by
      by_cases c : k = i
      · rw [zu_s c, c]
      · rw [zu_n c]; exact hu k k0 (by omega))
    refine ⟨u', hu', fun K => ?_⟩
    rw [f_L_melody_L10, iI_cl (a := G (33 + h)) (by omega), q_brd, if_neg (by
      show ¬ iI ((G (33 + h)).toNat : Int) ≤ iI i
      rw [iI_le (by omega)]; omega), qs_tone hV hG hh (by omega), q_bds, zq_smi, q_gdd, if_pos (iI_in (by omega)), aI_wr (by omega), q_lts, q_lts, show (1 : Int32) = iI 1 from rfl, iI_add]
    exact e K
theorem ml_ok (hV : RV V G) (hG : VOk G) {h : Int} (hh : 0 ≤ h ∧ h ≤ 3) : ∃ u : Int → Int, (∀ k, 0 ≤ k → k < G (33 + h) → u k = G (37 + 8 * h + k)) ∧ f_L_melody (XZ V sv hs P C tk ln is er fc) (iI h) = some ((G (33 + h)).toNat, aI u) := by
  have hm := (hG.2.2.2.2.2.2.1 h hh.1 hh.2).2.1
  obtain ⟨u, hu, e⟩ := ml_L (sv := sv) (hs := hs) (P := P) (C := C) (tk := tk) (ln := ln) (is := is) (er := er) (fc := fc) hV hG hh (G (33 + h)).toNat 0 (fun _ => 0) 12 (by omega) (by omega) (by omega) (fun k k0 k1 => by omega)
  refine ⟨u, hu, ?_⟩
  unfold f_L_melody
  rw [qs_len hV hh, q_bds, zq_smi, iI_cl (by omega), q_gdd, if_pos ⟨by rw [show (0 : Int32) = iI 0 from rfl, iI_lt (by omega)]; omega, by omega⟩]
  exact e _
theorem st_T (h : Int) (hh : 0 ≤ h ∧ h ≤ 3) (hG : VOk G) {u : Int → Int} (hu : ∀ k, 0 ≤ k → k < G (33 + h) → u k = G (37 + 8 * h + k)) (K : Int32 → Option Int32) (d : Nat) : ∀ (i : Int) (v : Int32) (fuel : Nat), 0 ≤ i → i + d = G (33 + h) → d < fuel → f_L_state_L105 ((G (33 + h)).toNat, aI u) (iI (G (33 + h))) K fuel (iI i) v = K (sT G h d i v) := by
  have hm := (hG.2.2.2.2.2.2.1 h hh.1 hh.2).2.1
  induction d with
  | zero =>
    intro i v fuel h1 h2 h3
    obtain ⟨f, rfl⟩ : ∃ f, fuel = f + 1 := ⟨fuel - 1, by omega⟩
    rw [f_L_state_L105, q_brd, if_pos (by rw [iI_le (by omega)]; omega)]
    rfl
  | succ d ih =>
    intro i v fuel h1 h2 h3
    obtain ⟨f, rfl⟩ : ∃ f, fuel = f + 1 := ⟨fuel - 1, by omega⟩
    rw [f_L_state_L105, q_brd, if_neg (by rw [iI_le (by omega)]; omega), q_gdd, if_pos (iI_in (by omega)), q_lts, q_lts, q_lts, show (1 : Int32) = iI 1 from rfl, iI_add]
    show f_L_state_L105 _ _ K f _ (31 * v + aI u (iI i).toNatClampNeg) = _
    rw [aI_rd (by omega), hu i (by omega) (by omega)]
    exact ih (i + 1) _ f (by omega) (by omega) (by omega)
theorem st_M (hV : RV V G) (hG : VOk G) (K : Int32 → Option Int32) (d : Nat) : ∀ (h : Int) (v : Int32) (fuel : Nat), 0 ≤ h → h + d = 4 → d < fuel → f_L_state_L67 (XZ V sv hs P C tk ln is er fc) K fuel (iI h) v = K (sM G d h v) := by
  induction d with
  | zero =>
    intro h v fuel h1 h2 h3
    obtain ⟨f, rfl⟩ : ∃ f, fuel = f + 1 := ⟨fuel - 1, by omega⟩
    rw [f_L_state_L67, q_brd, if_pos (by rw [show (4 : Int32) = iI 4 from rfl, iI_le (by omega)]; omega)]
    rfl
  | succ d ih =>
    intro h v fuel h1 h2 h3
    obtain ⟨f, rfl⟩ : ∃ f, fuel = f + 1 := ⟨fuel - 1, by omega⟩
    have hh : 0 ≤ h ∧ h ≤ 3 := by omega
    have hm := (hG.2.2.2.2.2.2.1 h hh.1 hh.2).2.1
    obtain ⟨u, hu, e⟩ := ml_ok (sv := sv) (hs := hs) (P := P) (C := C) (tk := tk) (ln := ln) (is := is) (er := er) (fc := fc) hV hG hh
    rw [f_L_state_L67, q_brd, if_neg (by rw [show (4 : Int32) = iI 4 from rfl, iI_le (by omega)]; omega), qs_entry hV hh, q_bds, zq_smi, qs_len hV hh, q_bds, zq_smi, q_lts, e, q_bds, q_lts]
    show f_L_state_L105 ((G (33 + h)).toNat, aI u) (iI ((G (33 + h)).toNat : Int)) _ 2000 (iI 0) _ = _
    rw [show ((G (33 + h)).toNat : Int) = G (33 + h) by omega, st_T h hh hG hu _ (G (33 + h)).toNat 0 _ 2000 (by omega) (by omega) (by omega), q_lts, show (1 : Int32) = iI 1 from rfl, iI_add]
    exact ih (h + 1) _ f (by omega) (by omega) (by omega)
theorem ltbr {A : Int32 → Option Int32} {c : Prop} {dc : Decidable c} {r : Option Int32} {v : Int32} (hv : (if c then (0 : Int32) else 1) = v) (h : A v = r) : q_lt A (fun J => @q_br _ c dc (J 0) (J 1)) = r := by
  subst hv h
  show (if c then A 0 else A 1) = A (if c then 0 else 1)
  split <;> rfl
theorem st_ok (hV : RV V G) (hG : VOk G) : f_L_state (XZ V sv hs P C tk ln is er fc) = some (SG G) := by
  obtain ⟨g0, g1, g2, g3, g4, -⟩ := id hG
  have e1 : g_X10_tonic (XZ V sv hs P C tk ln is er fc) = some (iI (G 2)) := by
    obtain ⟨H, Pi, Le, E, T, D, S, rfl, hB, hM, hC⟩ := hV
    rfl
  have e2 : g_X10_isMinor (XZ V sv hs P C tk ln is er fc) = some (iI (G 3)) := by
    obtain ⟨H, Pi, Le, E, T, D, S, rfl, hB, hM, hC⟩ := hV
    show f_X10_isMinor (iI (G 3)) = _
    unfold f_X10_isMinor
    exact if_pos (g3.elim (fun h => Or.inl (by rw [h]; rfl)) (fun h => Or.inr (by rw [h]; rfl)))
  have e3 : g_X10_tolerance (XZ V sv hs P C tk ln is er fc) = some (iI (G 4)) := by
    obtain ⟨H, Pi, Le, E, T, D, S, rfl, hB, hM, hC⟩ := hV
    rfl
  have e4 : (if iI (G 3) = 0 then (0 : Int32) else 1) = iI (G 3) := by
    rcases g3 with h | h
    · rw [h]; decide
    · rw [h]; decide
  unfold f_L_state
  rw [e1, q_bds, e2, q_bds]
  refine ltbr e4 ?_
  show q_bd (g_X10_tolerance _) _ = _
  rw [e3, q_bds, q_lts]
  show f_L_state_L31 _ _ 16 (iI 0) _ = _
  rw [st_B hV hG _ (G 0).toNat 0 _ 16 (by omega) (by omega) (by omega)]
  show f_L_state_L67 _ _ 6 (iI 0) _ = _
  rw [st_M hV hG _ 4 0 _ 6 (by omega) (by omega) (by omega)]
  show f_L_state_L140 _ _ 6 (iI 0) _ = _
  rw [st_C hV hG _ (G 1).toNat 0 _ 6 (by omega) (by omega) (by omega), qs_count hV, q_bds]
  rfl
end SQ
