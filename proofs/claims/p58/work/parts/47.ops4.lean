theorem shD_o {g : Int → Int} {i t : Int} (h : 0 ≤ i ∧ t < 69) : shD g i t = g t := by unfold shD; omega
theorem shD_d {g : Int → Int} {i k : Int} (h : 0 ≤ i ∧ 0 ≤ k ∧ k < 3) : shD g i (69 + k) = if i ≤ k then g (69 + (k + 1)) else g (69 + k) := by
  rw [show 69 + (k + 1) = 69 + k + 1 by omega]; unfold shD; omega
theorem shD_s {g : Int → Int} {i k : Int} (h : 0 ≤ i ∧ 0 ≤ k ∧ k < 3) : shD g i (73 + k) = if i ≤ k then g (73 + (k + 1)) else g (73 + k) := by
  rw [show 73 + (k + 1) = 73 + k + 1 by omega]; unfold shD; omega
set_option maxHeartbeats 2000000 in
theorem op_10 {V : Valley_t} {G : Int → Int} (hV : RV V G) (hG : VOk G) {a b : Int} (hr : (-2147483648 ≤ a ∧ a < 2147483648) ∧ (-2147483648 ≤ b ∧ b < 2147483648)) : OpS 10 V G a b := by
  obtain ⟨H, P, L, E, T, D, S, rfl, hB, hM, hC⟩ := hV
  obtain ⟨g0, g1, g2, g3, g4, hb, hm, hc⟩ := id hG
  by_cases c1 : 0 ≤ a ∧ a ≤ G 1 - 1
  · have hcl := fun K => z_fells_L K (4 - a).toNat a G 2000 (by omega) (by omega) (by omega)
    have hcc := fun K => z_fell_L (c := G 1) (by omega) K (G 1 - 1 - a).toNat a D S 2000 (by omega) (by omega) (by omega)
    have e1 : shD G a 1 = G 1 := shD_o (by omega)
    have e5 : ∀ t, ¬ t = 1 → t < 69 → zu (shD G a) 1 (G 1 - 1) t = G t := fun t h1 h2 => by rw [zu_n h1, shD_o (by omega)]
    have e6 : zu (shD G a) 1 (G 1 - 1) 1 = G 1 - 1 := zu_s rfl
    have e7 : ∀ k, 0 ≤ k → k < 3 → zu (shD G a) 1 (G 1 - 1) (69 + k) = if a ≤ k then G (69 + (k + 1)) else G (69 + k) := fun k h1 h2 => by rw [zu_n (by omega), shD_d (by omega)]
    have e8 : ∀ k, 0 ≤ k → k < 3 → zu (shD G a) 1 (G 1 - 1) (73 + k) = if a ≤ k then G (73 + (k + 1)) else G (73 + k) := fun k h1 h2 => by rw [zu_n (by omega), shD_s (by omega)]
    refine ⟨G 1 - 1, G 1 - 1, 0, ((iI (G 2), iI (G 3), iI (G 4)), (aI H, aI P, iI (G 0)), (aI L, aI E, aI T), (aI (shC D a (G 1)), aI (shC S a (G 1)), iI (G 1 - 1))), zu (shD G a) 1 (G 1 - 1), ?_, ?_, Or.inl ⟨rfl, rfl, by omega, ⟨H, P, L, E, T, shC D a (G 1), shC S a (G 1), ?_, ?_, ?_, ?_⟩, ?_, ?_, ?_, ?_, ?_, ?_, ?_, ?_⟩⟩
    · show q_bd (f_X3_fell _ _ _ _) _ = _
      unfold f_X3_fell
      simp (disch := omega) only [↓q_brd, ↓q_gdd, ↓q_lts, ↓reduceIte, ↓q_bds, ↓zq_smi, ↓zq_smr, iI_add, iI_sub, iI_mul, iI_neg, iI_ab3, iI_div, z_emod, aI_rd, aI_wr, aR0, aW0, aR1, aW1, aR2, aW2, aR3, aW3, aR4, aW4, iI_inT, iI_lt, iI_le, iI_eq, lt_t, lt_f, le_t, le_f, eq_t, eq_f, bz_z, bz_o, bz_zo, bzT, bzF, n_em, zu_s, zu_n, not_true_eq_false, not_false_eq_true, and_self, true_and, and_true, false_and, and_false, true_or, or_true, false_or, or_false, or_self, Int.add_sub_cancel, n_0, n_1, n_2, n_3, n_4, n_5, n_6, n_7, n_8, n_9, n_10, n_11, n_12, n_13, n_14, n_15, n_16, n_17, n_18, n_19, n_20, n_21, n_22, n_23, n_24, n_25, n_26, n_27, n_28, n_29, n_30, n_31, n_32, n_33, n_34, n_35, n_36, n_37, n_40, n_44, n_48, n_50, n_57, n_58, n_60, n_65, n_66, n_67, n_68, n_69, n_70, n_71, n_73, n_77, n_80, n_83, n_97, n_98, n_99, n_100, n_101, n_102, n_103, n_104, n_105, n_106, n_107, n_108, n_109, n_110, n_111, n_112, n_113, n_114, n_115, n_116, n_117, n_118, n_120, n_121, n_122, n_180, n_255, n_539, n_600, n_616, n_1200, n_2000, n_3600, n_8400, n_65536, z_has3, hcc]
    · intro th
      show f_X11_fells _ _ _ = _
      unfold f_X11_fells f_X11_done
      simp (disch := omega) only [↓q_brd, ↓q_gdd, ↓q_lts, ↓reduceIte, ↓q_bds, ↓zq_smi, ↓zq_smr, iI_add, iI_sub, iI_mul, iI_neg, iI_ab3, iI_div, z_emod, aI_rd, aI_wr, aR0, aW0, aR1, aW1, aR2, aW2, aR3, aW3, aR4, aW4, iI_inT, iI_lt, iI_le, iI_eq, lt_t, lt_f, le_t, le_f, eq_t, eq_f, bz_z, bz_o, bz_zo, bzT, bzF, n_em, zu_s, zu_n, not_true_eq_false, not_false_eq_true, and_self, true_and, and_true, false_and, and_false, true_or, or_true, false_or, or_false, or_self, Int.add_sub_cancel, n_0, n_1, n_2, n_3, n_4, n_5, n_6, n_7, n_8, n_9, n_10, n_11, n_12, n_13, n_14, n_15, n_16, n_17, n_18, n_19, n_20, n_21, n_22, n_23, n_24, n_25, n_26, n_27, n_28, n_29, n_30, n_31, n_32, n_33, n_34, n_35, n_36, n_37, n_40, n_44, n_48, n_50, n_57, n_58, n_60, n_65, n_66, n_67, n_68, n_69, n_70, n_71, n_73, n_77, n_80, n_83, n_97, n_98, n_99, n_100, n_101, n_102, n_103, n_104, n_105, n_106, n_107, n_108, n_109, n_110, n_111, n_112, n_113, n_114, n_115, n_116, n_117, n_118, n_120, n_121, n_122, n_180, n_255, n_539, n_600, n_616, n_1200, n_2000, n_3600, n_8400, n_65536, z_isCliff, hcl, e1]
    · rw [e5 2 (by omega) (by omega), e5 3 (by omega) (by omega), e5 4 (by omega) (by omega), e5 0 (by omega) (by omega), e6]
    · intro k k0 k1
      rw [e5 0 (by omega) (by omega)] at k1
      rw [e5 _ (by omega) (by omega), e5 _ (by omega) (by omega)]
      exact hB k k0 k1
    · intro h h0 h1
      rw [e5 _ (by omega) (by omega), e5 _ (by omega) (by omega)]
      obtain ⟨x1, x2, x3⟩ := hM h h0 h1
      obtain ⟨y1, y2, y3⟩ := hm h h0 h1
      refine ⟨x1, x2, fun k k0 k1 => ?_⟩
      rw [e5 _ (by omega) (by omega)]
      exact x3 k k0 k1
    · intro k k0 k1
      rw [e6] at k1
      rw [e7 k k0 (by omega), e8 k k0 (by omega)]
      have y := hC k k0
      have y2 := hC (k + 1) (by omega)
      unfold shC
      omega
    · rw [e5 0 (by omega) (by omega)]; exact g0
    · rw [e6]; omega
    · rw [e5 2 (by omega) (by omega)]; exact g2
    · rw [e5 3 (by omega) (by omega)]; exact g3
    · rw [e5 4 (by omega) (by omega)]; exact g4
    · intro k k0 k1
      rw [e5 0 (by omega) (by omega)] at k1
      rw [e5 _ (by omega) (by omega), e5 _ (by omega) (by omega)]
      exact hb k k0 k1
    · intro h h0 h1
      rw [e5 _ (by omega) (by omega), e5 _ (by omega) (by omega), e5 0 (by omega) (by omega)]
      obtain ⟨y1, y2, y3⟩ := hm h h0 h1
      refine ⟨y1, y2, fun k k0 k1 => ?_⟩
      rw [e5 _ (by omega) (by omega)]
      exact y3 k k0 k1
    · intro k k0 k1
      rw [e6] at k1
      rw [e7 k k0 (by omega), e8 k k0 (by omega)]
      have y := hc k k0
      have y2 := hc (k + 1) (by omega)
      omega
  · refine ⟨-1, 0, 1, _, G, ?_, ?_, Or.inr ⟨by decide, rfl, by first | exact fun h => h | (intro h; change _ ∧ _ at h; omega)⟩⟩
    · show q_bd (f_X3_fell _ _ _ _) _ = _
      unfold f_X3_fell
      try simp (disch := omega) only [iI_add, iI_sub, iI_mul, iI_neg, n_0, n_1, n_2, n_3, n_4, n_5, n_6, n_7, n_8, n_9, n_10, n_11, n_12, n_13, n_14, n_15, n_16, n_17, n_18, n_19, n_20, n_21, n_22, n_23, n_24, n_25, n_26, n_27, n_28, n_29, n_30, n_31, n_32, n_33, n_34, n_35, n_36, n_37, n_40, n_44, n_48, n_50, n_57, n_58, n_60, n_65, n_66, n_67, n_68, n_69, n_70, n_71, n_73, n_77, n_80, n_83, n_97, n_98, n_99, n_100, n_101, n_102, n_103, n_104, n_105, n_106, n_107, n_108, n_109, n_110, n_111, n_112, n_113, n_114, n_115, n_116, n_117, n_118, n_120, n_121, n_122, n_180, n_255, n_539, n_600, n_616, n_1200, n_2000, n_3600, n_8400, n_65536, z_has3, c1]
      simp (disch := omega) only [↓q_brd, ↓q_gdd, ↓q_lts, ↓reduceIte, ↓q_bds, ↓zq_smi, ↓zq_smr, iI_add, iI_sub, iI_mul, iI_neg, iI_ab3, iI_div, z_emod, aI_rd, aI_wr, aR0, aW0, aR1, aW1, aR2, aW2, aR3, aW3, aR4, aW4, iI_inT, iI_lt, iI_le, iI_eq, lt_t, lt_f, le_t, le_f, eq_t, eq_f, bz_z, bz_o, bz_zo, bzT, bzF, n_em, zu_s, zu_n, not_true_eq_false, not_false_eq_true, and_self, true_and, and_true, false_and, and_false, true_or, or_true, false_or, or_false, or_self, Int.add_sub_cancel, n_0, n_1, n_2, n_3, n_4, n_5, n_6, n_7, n_8, n_9, n_10, n_11, n_12, n_13, n_14, n_15, n_16, n_17, n_18, n_19, n_20, n_21, n_22, n_23, n_24, n_25, n_26, n_27, n_28, n_29, n_30, n_31, n_32, n_33, n_34, n_35, n_36, n_37, n_40, n_44, n_48, n_50, n_57, n_58, n_60, n_65, n_66, n_67, n_68, n_69, n_70, n_71, n_73, n_77, n_80, n_83, n_97, n_98, n_99, n_100, n_101, n_102, n_103, n_104, n_105, n_106, n_107, n_108, n_109, n_110, n_111, n_112, n_113, n_114, n_115, n_116, n_117, n_118, n_120, n_121, n_122, n_180, n_255, n_539, n_600, n_616, n_1200, n_2000, n_3600, n_8400, n_65536, z_has3, c1]
    · intro th
      show f_X11_fells _ _ _ = _
      unfold f_X11_fells f_X11_fails
      try simp (disch := omega) only [iI_add, iI_sub, iI_mul, iI_neg, n_0, n_1, n_2, n_3, n_4, n_5, n_6, n_7, n_8, n_9, n_10, n_11, n_12, n_13, n_14, n_15, n_16, n_17, n_18, n_19, n_20, n_21, n_22, n_23, n_24, n_25, n_26, n_27, n_28, n_29, n_30, n_31, n_32, n_33, n_34, n_35, n_36, n_37, n_40, n_44, n_48, n_50, n_57, n_58, n_60, n_65, n_66, n_67, n_68, n_69, n_70, n_71, n_73, n_77, n_80, n_83, n_97, n_98, n_99, n_100, n_101, n_102, n_103, n_104, n_105, n_106, n_107, n_108, n_109, n_110, n_111, n_112, n_113, n_114, n_115, n_116, n_117, n_118, n_120, n_121, n_122, n_180, n_255, n_539, n_600, n_616, n_1200, n_2000, n_3600, n_8400, n_65536, z_isCliff, c1]
      simp (disch := omega) only [↓q_brd, ↓q_gdd, ↓q_lts, ↓reduceIte, ↓q_bds, ↓zq_smi, ↓zq_smr, iI_add, iI_sub, iI_mul, iI_neg, iI_ab3, iI_div, z_emod, aI_rd, aI_wr, aR0, aW0, aR1, aW1, aR2, aW2, aR3, aW3, aR4, aW4, iI_inT, iI_lt, iI_le, iI_eq, lt_t, lt_f, le_t, le_f, eq_t, eq_f, bz_z, bz_o, bz_zo, bzT, bzF, n_em, zu_s, zu_n, not_true_eq_false, not_false_eq_true, and_self, true_and, and_true, false_and, and_false, true_or, or_true, false_or, or_false, or_self, Int.add_sub_cancel, n_0, n_1, n_2, n_3, n_4, n_5, n_6, n_7, n_8, n_9, n_10, n_11, n_12, n_13, n_14, n_15, n_16, n_17, n_18, n_19, n_20, n_21, n_22, n_23, n_24, n_25, n_26, n_27, n_28, n_29, n_30, n_31, n_32, n_33, n_34, n_35, n_36, n_37, n_40, n_44, n_48, n_50, n_57, n_58, n_60, n_65, n_66, n_67, n_68, n_69, n_70, n_71, n_73, n_77, n_80, n_83, n_97, n_98, n_99, n_100, n_101, n_102, n_103, n_104, n_105, n_106, n_107, n_108, n_109, n_110, n_111, n_112, n_113, n_114, n_115, n_116, n_117, n_118, n_120, n_121, n_122, n_180, n_255, n_539, n_600, n_616, n_1200, n_2000, n_3600, n_8400, n_65536, z_isCliff, c1]
