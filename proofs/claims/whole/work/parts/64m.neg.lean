theorem zl_gn1 {F : Int → Int} {v m : Int} {cap : Nat} (hv : -9 ≤ v ∧ v ≤ -1) (hm : 2 ≤ m ∧ m ≤ cap ∧ cap ≤ 70) : f_J6_getChars_ba4f3 (aI F) (iI v) (iI m) cap = some (iI (m - 1 - 1), aI (zu (zu F (m - 1) (48 + -v)) (m - 1 - 1) 45)) := by
  have e1 : 48 + -v % 10 = 48 + -v := by omega
  have e2 : m + -1 = m - 1 := by omega
  have e4 : m - 1 + -1 = m - 1 - 1 := by omega
  have hC : (-9 : Int32) ≤ iI v := by rw [n_9, iI_neg, iI_le (by omega)]; omega
  have hL : ∀ (K : Int32 → Int32 → (Nat → Int32) → Option (Int32 × (Nat → Int32))), f_J6_getChars_ba4f3_L22 cap K 2000 (iI m) (iI v) (aI F) = K (iI m) (iI v) (aI F) := fun K => zl_L22 (by omega) K
  have h1 : ¬ (0 : Int32) ≤ iI v := by rw [n_0, iI_le (by omega)]; omega
  have h2 : ¬ (1 : Int32) = 0 := by decide
  have hA : q_in (-(iI v)) 100 := by rw [iI_neg]; exact iI_in (by omega)
  have hB : q_in (iI m + -1) cap := by rw [n_1, iI_neg, iI_add]; exact iI_in (by omega)
  have hD : q_in (iI m + -1 + -1) cap := by rw [n_1, iI_neg, iI_add, iI_add]; exact iI_in (by omega)
  unfold f_J6_getChars_ba4f3
  rw [q_lts, q_brd, if_neg h1]
  show q_lt _ _ = _
  rw [q_lts, q_brd, if_neg h2]
  show f_J6_getChars_ba4f3_L22 _ _ _ _ _ _ = _
  rw [hL, q_lts, q_gdd, if_pos hA, q_gdd, if_pos hB, q_lts, q_lts, q_brd]
  rw [if_pos hC]
  show @q_br _ _ _ _ _ = _
  rw [q_brd, if_neg h2, q_lts, q_gdd, if_pos hD, q_lts]
  simp (disch := omega) only [↓q_brd, ↓q_gdd, ↓q_lts, ↓reduceIte, ↓q_bds, ↓zq_smi, ↓zq_smr, iI_add, iI_sub, iI_mul, iI_neg, iI_ab3, iI_div, z_emod, aI_rd, aI_wr, aR0, aW0, aR1, aW1, aR2, aW2, aR3, aW3, aR4, aW4, iI_inT, iI_lt, iI_le, iI_eq, lt_t, lt_f, le_t, le_f, eq_t, eq_f, bz_z, bz_o, bz_zo, bzT, bzF, n_em, zu_s, zu_n, not_true_eq_false, not_false_eq_true, and_self, true_and, and_true, false_and, and_false, true_or, or_true, false_or, or_false, or_self, Int.add_sub_cancel, n_0, n_1, n_2, n_3, n_4, n_5, n_6, n_7, n_8, n_9, n_10, n_11, n_12, n_13, n_14, n_15, n_16, n_17, n_18, n_19, n_20, n_21, n_22, n_23, n_24, n_25, n_26, n_27, n_28, n_29, n_30, n_31, n_32, n_33, n_34, n_35, n_36, n_37, n_40, n_44, n_48, n_50, n_57, n_58, n_60, n_65, n_66, n_67, n_68, n_69, n_70, n_71, n_73, n_77, n_80, n_83, n_97, n_98, n_99, n_100, n_101, n_102, n_103, n_104, n_105, n_106, n_107, n_108, n_109, n_110, n_111, n_112, n_113, n_114, n_115, n_116, n_117, n_118, n_120, n_121, n_122, n_180, n_255, n_539, n_600, n_616, n_1200, n_2000, n_3600, n_8400, n_65536, zl_ones, zl_tens, zl_byte, n_45, e1, e2, e4]
theorem zl_gn2 {F : Int → Int} {v m : Int} {cap : Nat} (hv : -99 ≤ v ∧ v ≤ -10) (hm : 3 ≤ m ∧ m ≤ cap ∧ cap ≤ 70) : f_J6_getChars_ba4f3 (aI F) (iI v) (iI m) cap = some (iI (m - 1 - 1 - 1), aI (zu (zu (zu F (m - 1) (48 + -v % 10)) (m - 1 - 1) (48 + -v / 10)) (m - 1 - 1 - 1) 45)) := by
  have e2 : m + -1 = m - 1 := by omega
  have e4 : m - 1 + -1 = m - 1 - 1 := by omega
  have e6 : m - 1 - 1 + -1 = m - 1 - 1 - 1 := by omega
  have hC : ¬ (-9 : Int32) ≤ iI v := by rw [n_9, iI_neg, iI_le (by omega)]; omega
  have hE : q_in (iI m + -1 + -1 + -1) cap := by rw [n_1, iI_neg, iI_add, iI_add, iI_add]; exact iI_in (by omega)
  have hL : ∀ (K : Int32 → Int32 → (Nat → Int32) → Option (Int32 × (Nat → Int32))), f_J6_getChars_ba4f3_L22 cap K 2000 (iI m) (iI v) (aI F) = K (iI m) (iI v) (aI F) := fun K => zl_L22 (by omega) K
  have h1 : ¬ (0 : Int32) ≤ iI v := by rw [n_0, iI_le (by omega)]; omega
  have h2 : ¬ (1 : Int32) = 0 := by decide
  have hA : q_in (-(iI v)) 100 := by rw [iI_neg]; exact iI_in (by omega)
  have hB : q_in (iI m + -1) cap := by rw [n_1, iI_neg, iI_add]; exact iI_in (by omega)
  have hD : q_in (iI m + -1 + -1) cap := by rw [n_1, iI_neg, iI_add, iI_add]; exact iI_in (by omega)
  unfold f_J6_getChars_ba4f3
  rw [q_lts, q_brd, if_neg h1]
  show q_lt _ _ = _
  rw [q_lts, q_brd, if_neg h2]
  show f_J6_getChars_ba4f3_L22 _ _ _ _ _ _ = _
  rw [hL, q_lts, q_gdd, if_pos hA, q_gdd, if_pos hB, q_lts, q_lts, q_brd]
  rw [if_neg hC, q_lts, q_gdd, if_pos hA, q_gdd, if_pos hD, q_lts]
  show @q_br _ _ _ _ _ = _
  rw [q_brd, if_neg h2, q_lts, q_gdd, if_pos hE, q_lts]
  simp (disch := omega) only [↓q_brd, ↓q_gdd, ↓q_lts, ↓reduceIte, ↓q_bds, ↓zq_smi, ↓zq_smr, iI_add, iI_sub, iI_mul, iI_neg, iI_ab3, iI_div, z_emod, aI_rd, aI_wr, aR0, aW0, aR1, aW1, aR2, aW2, aR3, aW3, aR4, aW4, iI_inT, iI_lt, iI_le, iI_eq, lt_t, lt_f, le_t, le_f, eq_t, eq_f, bz_z, bz_o, bz_zo, bzT, bzF, n_em, zu_s, zu_n, not_true_eq_false, not_false_eq_true, and_self, true_and, and_true, false_and, and_false, true_or, or_true, false_or, or_false, or_self, Int.add_sub_cancel, n_0, n_1, n_2, n_3, n_4, n_5, n_6, n_7, n_8, n_9, n_10, n_11, n_12, n_13, n_14, n_15, n_16, n_17, n_18, n_19, n_20, n_21, n_22, n_23, n_24, n_25, n_26, n_27, n_28, n_29, n_30, n_31, n_32, n_33, n_34, n_35, n_36, n_37, n_40, n_44, n_48, n_50, n_57, n_58, n_60, n_65, n_66, n_67, n_68, n_69, n_70, n_71, n_73, n_77, n_80, n_83, n_97, n_98, n_99, n_100, n_101, n_102, n_103, n_104, n_105, n_106, n_107, n_108, n_109, n_110, n_111, n_112, n_113, n_114, n_115, n_116, n_117, n_118, n_120, n_121, n_122, n_180, n_255, n_539, n_600, n_616, n_1200, n_2000, n_3600, n_8400, n_65536, zl_ones, zl_tens, zl_byte, n_45, e2, e4, e6]
