theorem zt_01 : (iI 0 = iI 0 ∨ iI 0 = iI 1) = True := eq_true (Or.inl rfl)
theorem zt_11 : (iI 1 = iI 0 ∨ iI 1 = iI 1) = True := eq_true (Or.inr rfl)
set_option maxHeartbeats 2000000 in
theorem op_7 {V : Valley_t} {G : Int → Int} (hV : RV V G) (hG : VOk G) {a b : Int} (hr : (-2147483648 ≤ a ∧ a < 2147483648) ∧ (-2147483648 ≤ b ∧ b < 2147483648)) : OpS 7 V G a b := by
  obtain ⟨H, P, L, E, T, D, S, rfl, hB, hM, hC⟩ := hV
  obtain ⟨g0, g1, g2, g3, g4, hb, hm, hc⟩ := id hG
  have hLa : 0 ≤ a ∧ a ≤ 3 → L a = G (33 + a) ∧ E a = G (29 + a) := fun h => ⟨(hM a h.1 h.2).1, (hM a h.1 h.2).2.1⟩
  have hLb : 0 ≤ a ∧ a ≤ 3 → (0 ≤ G (33 + a) ∧ G (33 + a) ≤ 8) ∧ (0 ≤ G (29 + a) ∧ G (29 + a) ≤ 15) := fun h => ⟨(hm a h.1 h.2).2.1, (hm a h.1 h.2).1⟩
  by_cases c1 : 0 ≤ a ∧ a ≤ 3
  · skip
    have hcl := fun K => z_clear_L (a := a) c1 K 8 0 G 2000 (by omega) rfl (by omega)
    refine ⟨G (33 + a), G (33 + a), 0, ((iI (G 2), iI (G 3), iI (G 4)), (aI H, aI P, iI (G 0)), (aI (zu L a 0), aI E, aI T), (aI D, aI S, iI (G 1))), zu (fun t => if 37 + 8 * a + 0 ≤ t ∧ t < 37 + 8 * a + 8 then 0 else G t) (33 + a) 0, ?_, ?_, Or.inl ⟨rfl, rfl, ?_, ⟨H, P, zu L a 0, E, T, D, S, ?_, ?_, ?_, ?_⟩, ?_, ?_, ?_, ?_, ?_, ?_, ?_, ?_⟩⟩
    · show q_bd (f_X7_silence _ _) _ = _
      unfold f_X7_silence
      simp (disch := omega) only [↓q_brd, ↓q_gdd, ↓q_lts, ↓reduceIte, ↓q_bds, ↓zq_smi, ↓zq_smr, iI_add, iI_sub, iI_mul, iI_neg, iI_ab3, iI_div, z_emod, aI_rd, aI_wr, aR0, aW0, aR1, aW1, aR2, aW2, aR3, aW3, aR4, aW4, iI_inT, iI_lt, iI_le, iI_eq, lt_t, lt_f, le_t, le_f, eq_t, eq_f, bz_z, bz_o, bz_zo, bzT, bzF, n_em, zu_s, zu_n, not_true_eq_false, not_false_eq_true, and_self, true_and, and_true, false_and, and_false, true_or, or_true, false_or, or_false, or_self, Int.add_sub_cancel, n_0, n_1, n_2, n_3, n_4, n_5, n_6, n_7, n_8, n_9, n_10, n_11, n_12, n_13, n_14, n_15, n_16, n_17, n_18, n_19, n_20, n_21, n_22, n_23, n_24, n_25, n_26, n_27, n_28, n_29, n_30, n_31, n_32, n_33, n_34, n_35, n_36, n_37, n_40, n_44, n_48, n_50, n_57, n_58, n_60, n_65, n_66, n_67, n_68, n_69, n_70, n_71, n_73, n_77, n_80, n_83, n_97, n_98, n_99, n_100, n_101, n_102, n_103, n_104, n_105, n_106, n_107, n_108, n_109, n_110, n_111, n_112, n_113, n_114, n_115, n_116, n_117, n_118, n_120, n_121, n_122, n_180, n_255, n_539, n_600, n_616, n_1200, n_2000, n_3600, n_8400, n_65536, z_isHerd, hLa]
    · intro th
      show f_X11_clears _ _ _ = _
      unfold f_X11_clears f_X11_done
      simp (disch := omega) only [↓q_brd, ↓q_gdd, ↓q_lts, ↓reduceIte, ↓q_bds, ↓zq_smi, ↓zq_smr, iI_add, iI_sub, iI_mul, iI_neg, iI_ab3, iI_div, z_emod, aI_rd, aI_wr, aR0, aW0, aR1, aW1, aR2, aW2, aR3, aW3, aR4, aW4, iI_inT, iI_lt, iI_le, iI_eq, lt_t, lt_f, le_t, le_f, eq_t, eq_f, bz_z, bz_o, bz_zo, bzT, bzF, n_em, zu_s, zu_n, not_true_eq_false, not_false_eq_true, and_self, true_and, and_true, false_and, and_false, true_or, or_true, false_or, or_false, or_self, Int.add_sub_cancel, n_0, n_1, n_2, n_3, n_4, n_5, n_6, n_7, n_8, n_9, n_10, n_11, n_12, n_13, n_14, n_15, n_16, n_17, n_18, n_19, n_20, n_21, n_22, n_23, n_24, n_25, n_26, n_27, n_28, n_29, n_30, n_31, n_32, n_33, n_34, n_35, n_36, n_37, n_40, n_44, n_48, n_50, n_57, n_58, n_60, n_65, n_66, n_67, n_68, n_69, n_70, n_71, n_73, n_77, n_80, n_83, n_97, n_98, n_99, n_100, n_101, n_102, n_103, n_104, n_105, n_106, n_107, n_108, n_109, n_110, n_111, n_112, n_113, n_114, n_115, n_116, n_117, n_118, n_120, n_121, n_122, n_180, n_255, n_539, n_600, n_616, n_1200, n_2000, n_3600, n_8400, n_65536, z_mHerd, hcl]
    · omega
    · simp (disch := omega) only [↓q_brd, ↓q_gdd, ↓q_lts, ↓reduceIte, ↓q_bds, ↓zq_smi, ↓zq_smr, iI_add, iI_sub, iI_mul, iI_neg, iI_ab3, iI_div, z_emod, aI_rd, aI_wr, aR0, aW0, aR1, aW1, aR2, aW2, aR3, aW3, aR4, aW4, iI_inT, iI_lt, iI_le, iI_eq, lt_t, lt_f, le_t, le_f, eq_t, eq_f, bz_z, bz_o, bz_zo, bzT, bzF, n_em, zu_s, zu_n, not_true_eq_false, not_false_eq_true, and_self, true_and, and_true, false_and, and_false, true_or, or_true, false_or, or_false, or_self, Int.add_sub_cancel, n_0, n_1, n_2, n_3, n_4, n_5, n_6, n_7, n_8, n_9, n_10, n_11, n_12, n_13, n_14, n_15, n_16, n_17, n_18, n_19, n_20, n_21, n_22, n_23, n_24, n_25, n_26, n_27, n_28, n_29, n_30, n_31, n_32, n_33, n_34, n_35, n_36, n_37, n_40, n_44, n_48, n_50, n_57, n_58, n_60, n_65, n_66, n_67, n_68, n_69, n_70, n_71, n_73, n_77, n_80, n_83, n_97, n_98, n_99, n_100, n_101, n_102, n_103, n_104, n_105, n_106, n_107, n_108, n_109, n_110, n_111, n_112, n_113, n_114, n_115, n_116, n_117, n_118, n_120, n_121, n_122, n_180, n_255, n_539, n_600, n_616, n_1200, n_2000, n_3600, n_8400, n_65536]
    · intro k k0 k1
      have y := hB k k0
      simp only [zu, ↓reduceIte] at *
      omega
    · intro h h0 h1
      obtain ⟨x1, x2, x3⟩ := hM h h0 h1
      obtain ⟨y1, y2, y3⟩ := hm h h0 h1
      rcases Decidable.em (h = a) with e | e <;> try subst e
      all_goals
        refine ⟨by simp only [zu, ↓reduceIte] at * <;> omega, by simp only [zu, ↓reduceIte] at * <;> omega, fun k k0 k1 => ?_⟩
        have y := x3 k k0
        simp only [zu, ↓reduceIte] at *
        omega
    · intro k k0 k1
      have y := hC k k0
      simp only [zu, ↓reduceIte] at *
      omega
    · simp only [zu, ↓reduceIte] at *
      omega
    · simp only [zu, ↓reduceIte] at *
      omega
    · simp only [zu, ↓reduceIte] at *
      omega
    · simp only [zu, ↓reduceIte] at *
      omega
    · simp only [zu, ↓reduceIte] at *
      omega
    · intro k k0 k1
      have y := hb k k0
      simp only [zu, ↓reduceIte] at *
      omega
    · intro h h0 h1
      obtain ⟨y1, y2, y3⟩ := hm h h0 h1
      rcases Decidable.em (h = a) with e | e <;> try subst e
      all_goals
        refine ⟨by simp only [zu, ↓reduceIte] at * <;> omega, by simp only [zu, ↓reduceIte] at * <;> omega, fun k k0 k1 => ?_⟩
        have y := y3 k k0
        simp only [zu, ↓reduceIte] at *
        omega
    · intro k k0 k1
      have y := hc k k0
      simp only [zu, ↓reduceIte] at *
      omega
  · refine ⟨-1, 0, 1, _, G, ?_, ?_, Or.inr ⟨by decide, rfl, by first | exact fun h => h | (intro h; change _ ∧ _ at h; omega)⟩⟩
    · show q_bd (f_X7_silence _ _) _ = _
      unfold f_X7_silence
      try simp (disch := omega) only [iI_add, iI_sub, iI_mul, iI_neg, n_0, n_1, n_2, n_3, n_4, n_5, n_6, n_7, n_8, n_9, n_10, n_11, n_12, n_13, n_14, n_15, n_16, n_17, n_18, n_19, n_20, n_21, n_22, n_23, n_24, n_25, n_26, n_27, n_28, n_29, n_30, n_31, n_32, n_33, n_34, n_35, n_36, n_37, n_40, n_44, n_48, n_50, n_57, n_58, n_60, n_65, n_66, n_67, n_68, n_69, n_70, n_71, n_73, n_77, n_80, n_83, n_97, n_98, n_99, n_100, n_101, n_102, n_103, n_104, n_105, n_106, n_107, n_108, n_109, n_110, n_111, n_112, n_113, n_114, n_115, n_116, n_117, n_118, n_120, n_121, n_122, n_180, n_255, n_539, n_600, n_616, n_1200, n_2000, n_3600, n_8400, n_65536, z_isHerd, hLa, c1]
      simp (disch := omega) only [↓q_brd, ↓q_gdd, ↓q_lts, ↓reduceIte, ↓q_bds, ↓zq_smi, ↓zq_smr, iI_add, iI_sub, iI_mul, iI_neg, iI_ab3, iI_div, z_emod, aI_rd, aI_wr, aR0, aW0, aR1, aW1, aR2, aW2, aR3, aW3, aR4, aW4, iI_inT, iI_lt, iI_le, iI_eq, lt_t, lt_f, le_t, le_f, eq_t, eq_f, bz_z, bz_o, bz_zo, bzT, bzF, n_em, zu_s, zu_n, not_true_eq_false, not_false_eq_true, and_self, true_and, and_true, false_and, and_false, true_or, or_true, false_or, or_false, or_self, Int.add_sub_cancel, n_0, n_1, n_2, n_3, n_4, n_5, n_6, n_7, n_8, n_9, n_10, n_11, n_12, n_13, n_14, n_15, n_16, n_17, n_18, n_19, n_20, n_21, n_22, n_23, n_24, n_25, n_26, n_27, n_28, n_29, n_30, n_31, n_32, n_33, n_34, n_35, n_36, n_37, n_40, n_44, n_48, n_50, n_57, n_58, n_60, n_65, n_66, n_67, n_68, n_69, n_70, n_71, n_73, n_77, n_80, n_83, n_97, n_98, n_99, n_100, n_101, n_102, n_103, n_104, n_105, n_106, n_107, n_108, n_109, n_110, n_111, n_112, n_113, n_114, n_115, n_116, n_117, n_118, n_120, n_121, n_122, n_180, n_255, n_539, n_600, n_616, n_1200, n_2000, n_3600, n_8400, n_65536, z_isHerd, hLa, c1]
    · intro th
      show f_X11_clears _ _ _ = _
      unfold f_X11_clears f_X11_fails
      try simp (disch := omega) only [iI_add, iI_sub, iI_mul, iI_neg, n_0, n_1, n_2, n_3, n_4, n_5, n_6, n_7, n_8, n_9, n_10, n_11, n_12, n_13, n_14, n_15, n_16, n_17, n_18, n_19, n_20, n_21, n_22, n_23, n_24, n_25, n_26, n_27, n_28, n_29, n_30, n_31, n_32, n_33, n_34, n_35, n_36, n_37, n_40, n_44, n_48, n_50, n_57, n_58, n_60, n_65, n_66, n_67, n_68, n_69, n_70, n_71, n_73, n_77, n_80, n_83, n_97, n_98, n_99, n_100, n_101, n_102, n_103, n_104, n_105, n_106, n_107, n_108, n_109, n_110, n_111, n_112, n_113, n_114, n_115, n_116, n_117, n_118, n_120, n_121, n_122, n_180, n_255, n_539, n_600, n_616, n_1200, n_2000, n_3600, n_8400, n_65536, z_mHerd, c1]
      simp (disch := omega) only [↓q_brd, ↓q_gdd, ↓q_lts, ↓reduceIte, ↓q_bds, ↓zq_smi, ↓zq_smr, iI_add, iI_sub, iI_mul, iI_neg, iI_ab3, iI_div, z_emod, aI_rd, aI_wr, aR0, aW0, aR1, aW1, aR2, aW2, aR3, aW3, aR4, aW4, iI_inT, iI_lt, iI_le, iI_eq, lt_t, lt_f, le_t, le_f, eq_t, eq_f, bz_z, bz_o, bz_zo, bzT, bzF, n_em, zu_s, zu_n, not_true_eq_false, not_false_eq_true, and_self, true_and, and_true, false_and, and_false, true_or, or_true, false_or, or_false, or_self, Int.add_sub_cancel, n_0, n_1, n_2, n_3, n_4, n_5, n_6, n_7, n_8, n_9, n_10, n_11, n_12, n_13, n_14, n_15, n_16, n_17, n_18, n_19, n_20, n_21, n_22, n_23, n_24, n_25, n_26, n_27, n_28, n_29, n_30, n_31, n_32, n_33, n_34, n_35, n_36, n_37, n_40, n_44, n_48, n_50, n_57, n_58, n_60, n_65, n_66, n_67, n_68, n_69, n_70, n_71, n_73, n_77, n_80, n_83, n_97, n_98, n_99, n_100, n_101, n_102, n_103, n_104, n_105, n_106, n_107, n_108, n_109, n_110, n_111, n_112, n_113, n_114, n_115, n_116, n_117, n_118, n_120, n_121, n_122, n_180, n_255, n_539, n_600, n_616, n_1200, n_2000, n_3600, n_8400, n_65536, z_mHerd, c1]
