theorem zl_wn {M : Int → Int} {n v : Int} (hn : 0 ≤ n ∧ n < 78) (hv : 0 ≤ v ∧ v ≤ 99) : f_X11_writesNumber (aI M) (iI n) (iI v) = some (if v ≤ 9 then (aI (zu M n (48 + v)), iI (n + 1)) else (aI (zu (zu M n (48 + v / 10)) (n + 1) (48 + v % 10)), iI (n + 1 + 1))) := by
  unfold f_X11_writesNumber
  by_cases c : v ≤ 9
  · have e1 : 48 + v % 10 = 48 + v := by omega
    rw [if_pos c]
    simp (disch := omega) only [↓q_brd, ↓q_gdd, ↓q_lts, ↓reduceIte, ↓q_bds, ↓zq_smi, ↓zq_smr, iI_add, iI_sub, iI_mul, iI_neg, iI_ab3, iI_div, z_emod, aI_rd, aI_wr, aR0, aW0, aR1, aW1, aR2, aW2, aR3, aW3, aR4, aW4, iI_inT, iI_lt, iI_le, iI_eq, lt_t, lt_f, le_t, le_f, eq_t, eq_f, bz_z, bz_o, bz_zo, bzT, bzF, n_em, zu_s, zu_n, not_true_eq_false, not_false_eq_true, and_self, true_and, and_true, false_and, and_false, true_or, or_true, false_or, or_false, or_self, Int.add_sub_cancel, n_0, n_1, n_2, n_3, n_4, n_5, n_6, n_7, n_8, n_9, n_10, n_11, n_12, n_13, n_14, n_15, n_16, n_17, n_18, n_19, n_20, n_21, n_22, n_23, n_24, n_25, n_26, n_27, n_28, n_29, n_30, n_31, n_32, n_33, n_34, n_35, n_36, n_37, n_40, n_44, n_48, n_50, n_57, n_58, n_60, n_65, n_66, n_67, n_68, n_69, n_70, n_71, n_73, n_77, n_80, n_83, n_97, n_98, n_99, n_100, n_101, n_102, n_103, n_104, n_105, n_106, n_107, n_108, n_109, n_110, n_111, n_112, n_113, n_114, n_115, n_116, n_117, n_118, n_120, n_121, n_122, n_180, n_255, n_539, n_600, n_616, n_1200, n_2000, n_3600, n_8400, n_65536, zl_w, e1]
  · rw [if_neg c]
    simp (disch := omega) only [↓q_brd, ↓q_gdd, ↓q_lts, ↓reduceIte, ↓q_bds, ↓zq_smi, ↓zq_smr, iI_add, iI_sub, iI_mul, iI_neg, iI_ab3, iI_div, z_emod, aI_rd, aI_wr, aR0, aW0, aR1, aW1, aR2, aW2, aR3, aW3, aR4, aW4, iI_inT, iI_lt, iI_le, iI_eq, lt_t, lt_f, le_t, le_f, eq_t, eq_f, bz_z, bz_o, bz_zo, bzT, bzF, n_em, zu_s, zu_n, not_true_eq_false, not_false_eq_true, and_self, true_and, and_true, false_and, and_false, true_or, or_true, false_or, or_false, or_self, Int.add_sub_cancel, n_0, n_1, n_2, n_3, n_4, n_5, n_6, n_7, n_8, n_9, n_10, n_11, n_12, n_13, n_14, n_15, n_16, n_17, n_18, n_19, n_20, n_21, n_22, n_23, n_24, n_25, n_26, n_27, n_28, n_29, n_30, n_31, n_32, n_33, n_34, n_35, n_36, n_37, n_40, n_44, n_48, n_50, n_57, n_58, n_60, n_65, n_66, n_67, n_68, n_69, n_70, n_71, n_73, n_77, n_80, n_83, n_97, n_98, n_99, n_100, n_101, n_102, n_103, n_104, n_105, n_106, n_107, n_108, n_109, n_110, n_111, n_112, n_113, n_114, n_115, n_116, n_117, n_118, n_120, n_121, n_122, n_180, n_255, n_539, n_600, n_616, n_1200, n_2000, n_3600, n_8400, n_65536, zl_w]
theorem zl_apn {vl : Nat → Int32} {cap : Nat} {ct : Int32} {lt : Nat → Int32} {ln : Int32} {n v : Int} (h : LR vl cap ct lt ln n) (hn : n ≤ 68) (hv : 0 ≤ v ∧ v ≤ 99) :
    ∃ vl' cap' lt' n', f_J4_append_bf812 vl cap ct (iI v) = some (vl', cap', iI n') ∧ f_X11_writesNumber lt ln (iI v) = some (lt', iI n') ∧ LR vl' cap' (iI n') lt' (iI n') n' ∧ (n < n' ∧ n' ≤ n + 2) := by
  obtain ⟨F, M, h1, h2, h3, h4, h5, h6, h7, h8⟩ := h
  subst h1 h2 h3 h4
  have hs := zl_ss (v := v) (by omega)
  have hw := zl_wn (M := M) (n := n) (v := v) (by omega) hv
  rw [if_neg (show ¬ v < -9 by omega), if_neg (show ¬ v < 0 by omega)] at hs
  by_cases c : v ≤ 9
  · rw [if_pos c] at hs hw
    obtain ⟨F', cap', x1, x2, x3, x4, x5, x6⟩ := zl_ens h5 (m := n + 1) (by omega) h8
    have hg := zl_gc1 (F := F') (v := v) (m := n + 1) (cap := cap') (by omega) (by omega)
    refine ⟨_, cap', _, n + 1, ?_, hw, ⟨zu F' (n + 1 - 1) (48 + v), zu M n (48 + v), rfl, rfl, rfl, rfl, x2, by omega, fun k k0 k1 => ?_, fun k k0 k1 => ?_⟩, by omega⟩
    · unfold f_J4_append_bf812 f_J5_append_c97b9
      simp (disch := omega) only [↓q_brd, ↓q_gdd, ↓q_lts, ↓reduceIte, ↓q_bds, ↓zq_smi, ↓zq_smr, iI_add, iI_sub, iI_mul, iI_neg, iI_ab3, iI_div, z_emod, aI_rd, aI_wr, aR0, aW0, aR1, aW1, aR2, aW2, aR3, aW3, aR4, aW4, iI_inT, iI_lt, iI_le, iI_eq, lt_t, lt_f, le_t, le_f, eq_t, eq_f, bz_z, bz_o, bz_zo, bzT, bzF, n_em, zu_s, zu_n, not_true_eq_false, not_false_eq_true, and_self, true_and, and_true, false_and, and_false, true_or, or_true, false_or, or_false, or_self, Int.add_sub_cancel, n_0, n_1, n_2, n_3, n_4, n_5, n_6, n_7, n_8, n_9, n_10, n_11, n_12, n_13, n_14, n_15, n_16, n_17, n_18, n_19, n_20, n_21, n_22, n_23, n_24, n_25, n_26, n_27, n_28, n_29, n_30, n_31, n_32, n_33, n_34, n_35, n_36, n_37, n_40, n_44, n_48, n_50, n_57, n_58, n_60, n_65, n_66, n_67, n_68, n_69, n_70, n_71, n_73, n_77, n_80, n_83, n_97, n_98, n_99, n_100, n_101, n_102, n_103, n_104, n_105, n_106, n_107, n_108, n_109, n_110, n_111, n_112, n_113, n_114, n_115, n_116, n_117, n_118, n_120, n_121, n_122, n_180, n_255, n_539, n_600, n_616, n_1200, n_2000, n_3600, n_8400, n_65536, hs, x1, zl_lat, hg]
    · have a1 : k < n → F k = M k ∧ 32 ≤ M k ∧ M k < 127 := fun hk => h7 k k0 hk
      have a2 : k < n → F' k = F k := fun hk => x5 k k0 (by omega)
      simp only [zu]
      repeat' split
      all_goals omega
    · have a1 := x6 k k0 k1
      simp only [zu]
      repeat' split
      all_goals omega
  · rw [if_neg c] at hs hw
    obtain ⟨F', cap', x1, x2, x3, x4, x5, x6⟩ := zl_ens h5 (m := n + 2) (by omega) h8
    have hg := zl_gc2 (F := F') (v := v) (m := n + 2) (cap := cap') (by omega) (by omega)
    have e2 : n + 1 + 1 = n + 2 := by omega
    rw [e2] at hw
    refine ⟨_, cap', _, n + 2, ?_, hw, ⟨zu (zu F' (n + 2 - 1) (48 + v % 10)) (n + 2 - 1 - 1) (48 + v / 10), _, rfl, rfl, rfl, rfl, x2, by omega, fun k k0 k1 => ?_, fun k k0 k1 => ?_⟩, by omega⟩
    · unfold f_J4_append_bf812 f_J5_append_c97b9
      simp (disch := omega) only [↓q_brd, ↓q_gdd, ↓q_lts, ↓reduceIte, ↓q_bds, ↓zq_smi, ↓zq_smr, iI_add, iI_sub, iI_mul, iI_neg, iI_ab3, iI_div, z_emod, aI_rd, aI_wr, aR0, aW0, aR1, aW1, aR2, aW2, aR3, aW3, aR4, aW4, iI_inT, iI_lt, iI_le, iI_eq, lt_t, lt_f, le_t, le_f, eq_t, eq_f, bz_z, bz_o, bz_zo, bzT, bzF, n_em, zu_s, zu_n, not_true_eq_false, not_false_eq_true, and_self, true_and, and_true, false_and, and_false, true_or, or_true, false_or, or_false, or_self, Int.add_sub_cancel, n_0, n_1, n_2, n_3, n_4, n_5, n_6, n_7, n_8, n_9, n_10, n_11, n_12, n_13, n_14, n_15, n_16, n_17, n_18, n_19, n_20, n_21, n_22, n_23, n_24, n_25, n_26, n_27, n_28, n_29, n_30, n_31, n_32, n_33, n_34, n_35, n_36, n_37, n_40, n_44, n_48, n_50, n_57, n_58, n_60, n_65, n_66, n_67, n_68, n_69, n_70, n_71, n_73, n_77, n_80, n_83, n_97, n_98, n_99, n_100, n_101, n_102, n_103, n_104, n_105, n_106, n_107, n_108, n_109, n_110, n_111, n_112, n_113, n_114, n_115, n_116, n_117, n_118, n_120, n_121, n_122, n_180, n_255, n_539, n_600, n_616, n_1200, n_2000, n_3600, n_8400, n_65536, hs, x1, zl_lat, hg]
    · have a1 : k < n → F k = M k ∧ 32 ≤ M k ∧ M k < 127 := fun hk => h7 k k0 hk
      have a2 : k < n → F' k = F k := fun hk => x5 k k0 (by omega)
      simp only [zu]
      repeat' split
      all_goals omega
    · have a1 := x6 k k0 k1
      simp only [zu]
      repeat' split
      all_goals omega
theorem zl_apm {vl : Nat → Int32} {cap : Nat} {ct : Int32} {lt : Nat → Int32} {ln : Int32} {n v : Int} (h : LR vl cap ct lt ln n) (hn : n ≤ 67) (hv : -99 ≤ v ∧ v ≤ -1) :
    ∃ vl' cap' lt' lt1 n', f_J4_append_bf812 vl cap ct (iI v) = some (vl', cap', iI n') ∧ f_X11_writes lt ln (iI 45) = some (lt1, iI (n + 1)) ∧ f_X11_writesNumber lt1 (iI (n + 1)) (iI (-v)) = some (lt', iI n') ∧ LR vl' cap' (iI n') lt' (iI n') n' ∧ (n < n' ∧ n' ≤ n + 3) := by
  obtain ⟨F, M, h1, h2, h3, h4, h5, h6, h7, h8⟩ := h
  subst h1 h2 h3 h4
  have hs := zl_ss (v := v) (by omega)
  have hw0 := zl_w (M := M) (n := n) (c := 45) (by omega) (by omega)
  have hw := zl_wn (M := zu M n 45) (n := n + 1) (v := -v) (by omega) (by omega)
  by_cases c : -v ≤ 9
  · rw [if_neg (show ¬ v < -9 by omega), if_pos (show v < 0 by omega)] at hs
    rw [if_pos c] at hw
    obtain ⟨F', cap', x1, x2, x3, x4, x5, x6⟩ := zl_ens h5 (m := n + 2) (by omega) h8
    have hg := zl_gn1 (F := F') (v := v) (m := n + 2) (cap := cap') (by omega) (by omega)
    have e2 : n + 1 + 1 = n + 2 := by omega
    rw [e2] at hw
    refine ⟨_, cap', _, _, n + 2, ?_, hw0, hw, ⟨zu (zu F' (n + 2 - 1) (48 + -v)) (n + 2 - 1 - 1) 45, _, rfl, rfl, rfl, rfl, x2, by omega, fun k k0 k1 => ?_, fun k k0 k1 => ?_⟩, by omega⟩
    · unfold f_J4_append_bf812 f_J5_append_c97b9
      simp (disch := omega) only [↓q_brd, ↓q_gdd, ↓q_lts, ↓reduceIte, ↓q_bds, ↓zq_smi, ↓zq_smr, iI_add, iI_sub, iI_mul, iI_neg, iI_ab3, iI_div, z_emod, aI_rd, aI_wr, aR0, aW0, aR1, aW1, aR2, aW2, aR3, aW3, aR4, aW4, iI_inT, iI_lt, iI_le, iI_eq, lt_t, lt_f, le_t, le_f, eq_t, eq_f, bz_z, bz_o, bz_zo, bzT, bzF, n_em, zu_s, zu_n, not_true_eq_false, not_false_eq_true, and_self, true_and, and_true, false_and, and_false, true_or, or_true, false_or, or_false, or_self, Int.add_sub_cancel, n_0, n_1, n_2, n_3, n_4, n_5, n_6, n_7, n_8, n_9, n_10, n_11, n_12, n_13, n_14, n_15, n_16, n_17, n_18, n_19, n_20, n_21, n_22, n_23, n_24, n_25, n_26, n_27, n_28, n_29, n_30, n_31, n_32, n_33, n_34, n_35, n_36, n_37, n_40, n_44, n_48, n_50, n_57, n_58, n_60, n_65, n_66, n_67, n_68, n_69, n_70, n_71, n_73, n_77, n_80, n_83, n_97, n_98, n_99, n_100, n_101, n_102, n_103, n_104, n_105, n_106, n_107, n_108, n_109, n_110, n_111, n_112, n_113, n_114, n_115, n_116, n_117, n_118, n_120, n_121, n_122, n_180, n_255, n_539, n_600, n_616, n_1200, n_2000, n_3600, n_8400, n_65536, hs, x1, zl_lat, hg]
    · have a1 : k < n → F k = M k ∧ 32 ≤ M k ∧ M k < 127 := fun hk => h7 k k0 hk
      have a2 : k < n → F' k = F k := fun hk => x5 k k0 (by omega)
      simp only [zu]
      repeat' split
      all_goals omega
    · have a1 := x6 k k0 k1
      simp only [zu]
      repeat' split
      all_goals omega
  · rw [if_pos (show v < -9 by omega)] at hs
    rw [if_neg c] at hw
    obtain ⟨F', cap', x1, x2, x3, x4, x5, x6⟩ := zl_ens h5 (m := n + 3) (by omega) h8
    have hg := zl_gn2 (F := F') (v := v) (m := n + 3) (cap := cap') (by omega) (by omega)
    have e2 : n + 1 + 1 + 1 = n + 3 := by omega
    rw [e2] at hw
    refine ⟨_, cap', _, _, n + 3, ?_, hw0, hw, ⟨zu (zu (zu F' (n + 3 - 1) (48 + -v % 10)) (n + 3 - 1 - 1) (48 + -v / 10)) (n + 3 - 1 - 1 - 1) 45, _, rfl, rfl, rfl, rfl, x2, by omega, fun k k0 k1 => ?_, fun k k0 k1 => ?_⟩, by omega⟩
    · unfold f_J4_append_bf812 f_J5_append_c97b9
      simp (disch := omega) only [↓q_brd, ↓q_gdd, ↓q_lts, ↓reduceIte, ↓q_bds, ↓zq_smi, ↓zq_smr, iI_add, iI_sub, iI_mul, iI_neg, iI_ab3, iI_div, z_emod, aI_rd, aI_wr, aR0, aW0, aR1, aW1, aR2, aW2, aR3, aW3, aR4, aW4, iI_inT, iI_lt, iI_le, iI_eq, lt_t, lt_f, le_t, le_f, eq_t, eq_f, bz_z, bz_o, bz_zo, bzT, bzF, n_em, zu_s, zu_n, not_true_eq_false, not_false_eq_true, and_self, true_and, and_true, false_and, and_false, true_or, or_true, false_or, or_false, or_self, Int.add_sub_cancel, n_0, n_1, n_2, n_3, n_4, n_5, n_6, n_7, n_8, n_9, n_10, n_11, n_12, n_13, n_14, n_15, n_16, n_17, n_18, n_19, n_20, n_21, n_22, n_23, n_24, n_25, n_26, n_27, n_28, n_29, n_30, n_31, n_32, n_33, n_34, n_35, n_36, n_37, n_40, n_44, n_48, n_50, n_57, n_58, n_60, n_65, n_66, n_67, n_68, n_69, n_70, n_71, n_73, n_77, n_80, n_83, n_97, n_98, n_99, n_100, n_101, n_102, n_103, n_104, n_105, n_106, n_107, n_108, n_109, n_110, n_111, n_112, n_113, n_114, n_115, n_116, n_117, n_118, n_120, n_121, n_122, n_180, n_255, n_539, n_600, n_616, n_1200, n_2000, n_3600, n_8400, n_65536, hs, x1, zl_lat, hg]
    · have a1 : k < n → F k = M k ∧ 32 ≤ M k ∧ M k < 127 := fun hk => h7 k k0 hk
      have a2 : k < n → F' k = F k := fun hk => x5 k k0 (by omega)
      simp only [zu]
      repeat' split
      all_goals omega
    · have a1 := x6 k k0 k1
      simp only [zu]
      repeat' split
      all_goals omega
theorem zl_a0 : f_J0_charAt_5068e 12 (iI (2 * 0)) = some (iI 67) := by decide +kernel
theorem zl_c0 : f_J0_charAt_5068e 12 (iI (2 * 0 + 1)) = some (iI 32) := by decide +kernel
theorem zl_a1 : f_J0_charAt_5068e 12 (iI (2 * 1)) = some (iI 67) := by decide +kernel
theorem zl_c1 : f_J0_charAt_5068e 12 (iI (2 * 1 + 1)) = some (iI 35) := by decide +kernel
theorem zl_a2 : f_J0_charAt_5068e 12 (iI (2 * 2)) = some (iI 68) := by decide +kernel
theorem zl_c2 : f_J0_charAt_5068e 12 (iI (2 * 2 + 1)) = some (iI 32) := by decide +kernel
theorem zl_a3 : f_J0_charAt_5068e 12 (iI (2 * 3)) = some (iI 68) := by decide +kernel
theorem zl_c3 : f_J0_charAt_5068e 12 (iI (2 * 3 + 1)) = some (iI 35) := by decide +kernel
theorem zl_a4 : f_J0_charAt_5068e 12 (iI (2 * 4)) = some (iI 69) := by decide +kernel
theorem zl_c4 : f_J0_charAt_5068e 12 (iI (2 * 4 + 1)) = some (iI 32) := by decide +kernel
theorem zl_a5 : f_J0_charAt_5068e 12 (iI (2 * 5)) = some (iI 70) := by decide +kernel
theorem zl_c5 : f_J0_charAt_5068e 12 (iI (2 * 5 + 1)) = some (iI 32) := by decide +kernel
theorem zl_a6 : f_J0_charAt_5068e 12 (iI (2 * 6)) = some (iI 70) := by decide +kernel
theorem zl_c6 : f_J0_charAt_5068e 12 (iI (2 * 6 + 1)) = some (iI 35) := by decide +kernel
theorem zl_a7 : f_J0_charAt_5068e 12 (iI (2 * 7)) = some (iI 71) := by decide +kernel
theorem zl_c7 : f_J0_charAt_5068e 12 (iI (2 * 7 + 1)) = some (iI 32) := by decide +kernel
theorem zl_a8 : f_J0_charAt_5068e 12 (iI (2 * 8)) = some (iI 71) := by decide +kernel
theorem zl_c8 : f_J0_charAt_5068e 12 (iI (2 * 8 + 1)) = some (iI 35) := by decide +kernel
theorem zl_a9 : f_J0_charAt_5068e 12 (iI (2 * 9)) = some (iI 65) := by decide +kernel
theorem zl_c9 : f_J0_charAt_5068e 12 (iI (2 * 9 + 1)) = some (iI 32) := by decide +kernel
theorem zl_a10 : f_J0_charAt_5068e 12 (iI (2 * 10)) = some (iI 65) := by decide +kernel
theorem zl_c10 : f_J0_charAt_5068e 12 (iI (2 * 10 + 1)) = some (iI 35) := by decide +kernel
theorem zl_a11 : f_J0_charAt_5068e 12 (iI (2 * 11)) = some (iI 66) := by decide +kernel
theorem zl_c11 : f_J0_charAt_5068e 12 (iI (2 * 11 + 1)) = some (iI 32) := by decide +kernel
theorem zl_note {vl : Nat → Int32} {cap : Nat} {ct : Int32} {lt : Nat → Int32} {ln : Int32} {n t : Int} (h : LR vl cap ct lt ln n) (hn : n ≤ 60) (ht : 36 ≤ t ∧ t ≤ 84) :
    ∃ vl1 cap1 n1 vl2 cap2 lt2 n2, f_X10_writeName vl cap ct (iI (t % 12)) = some (vl1, cap1, iI n1) ∧ f_J4_append_bf812 vl1 cap1 (iI n1) (iI (t / 12 - 1)) = some (vl2, cap2, iI n2) ∧ f_X11_writesNote lt ln (iI t) = some (lt2, iI n2) ∧ LR vl2 cap2 (iI n2) lt2 (iI n2) n2 ∧ n2 ≤ n + 4 := by
  have hr : 0 ≤ t % 12 ∧ t % 12 < 12 := by omega
  rcases k12 hr with e | e | e | e | e | e | e | e | e | e | e | e
  · obtain ⟨v1, c1, l1, x1, x2, x3⟩ := zl_apc h (c := 67) (by omega) (by omega)
    obtain ⟨v3, c3, l3, n3, z1, z2, z3, z4⟩ := zl_apn x3 (v := t / 12 - 1) (by omega) (by omega)
    refine ⟨v1, c1, n + 1, v3, c3, l3, n3, ?_, z1, ?_, z3, by omega⟩
    · rw [e]
      unfold f_X10_writeName
      simp (disch := omega) only [↓q_brd, ↓q_gdd, ↓q_lts, ↓reduceIte, ↓q_bds, ↓zq_smi, ↓zq_smr, iI_add, iI_sub, iI_mul, iI_neg, iI_ab3, iI_div, z_emod, aI_rd, aI_wr, aR0, aW0, aR1, aW1, aR2, aW2, aR3, aW3, aR4, aW4, iI_inT, iI_lt, iI_le, iI_eq, lt_t, lt_f, le_t, le_f, eq_t, eq_f, bz_z, bz_o, bz_zo, bzT, bzF, n_em, zu_s, zu_n, not_true_eq_false, not_false_eq_true, and_self, true_and, and_true, false_and, and_false, true_or, or_true, false_or, or_false, or_self, Int.add_sub_cancel, n_0, n_1, n_2, n_3, n_4, n_5, n_6, n_7, n_8, n_9, n_10, n_11, n_12, n_13, n_14, n_15, n_16, n_17, n_18, n_19, n_20, n_21, n_22, n_23, n_24, n_25, n_26, n_27, n_28, n_29, n_30, n_31, n_32, n_33, n_34, n_35, n_36, n_37, n_40, n_44, n_48, n_50, n_57, n_58, n_60, n_65, n_66, n_67, n_68, n_69, n_70, n_71, n_73, n_77, n_80, n_83, n_97, n_98, n_99, n_100, n_101, n_102, n_103, n_104, n_105, n_106, n_107, n_108, n_109, n_110, n_111, n_112, n_113, n_114, n_115, n_116, n_117, n_118, n_120, n_121, n_122, n_180, n_255, n_539, n_600, n_616, n_1200, n_2000, n_3600, n_8400, n_65536, zl_a0, zl_c0, x1]
    · unfold f_X11_writesNote
      simp (disch := omega) only [↓q_brd, ↓q_gdd, ↓q_lts, ↓reduceIte, ↓q_bds, ↓zq_smi, ↓zq_smr, iI_add, iI_sub, iI_mul, iI_neg, iI_ab3, iI_div, z_emod, aI_rd, aI_wr, aR0, aW0, aR1, aW1, aR2, aW2, aR3, aW3, aR4, aW4, iI_inT, iI_lt, iI_le, iI_eq, lt_t, lt_f, le_t, le_f, eq_t, eq_f, bz_z, bz_o, bz_zo, bzT, bzF, n_em, zu_s, zu_n, not_true_eq_false, not_false_eq_true, and_self, true_and, and_true, false_and, and_false, true_or, or_true, false_or, or_false, or_self, Int.add_sub_cancel, n_0, n_1, n_2, n_3, n_4, n_5, n_6, n_7, n_8, n_9, n_10, n_11, n_12, n_13, n_14, n_15, n_16, n_17, n_18, n_19, n_20, n_21, n_22, n_23, n_24, n_25, n_26, n_27, n_28, n_29, n_30, n_31, n_32, n_33, n_34, n_35, n_36, n_37, n_40, n_44, n_48, n_50, n_57, n_58, n_60, n_65, n_66, n_67, n_68, n_69, n_70, n_71, n_73, n_77, n_80, n_83, n_97, n_98, n_99, n_100, n_101, n_102, n_103, n_104, n_105, n_106, n_107, n_108, n_109, n_110, n_111, n_112, n_113, n_114, n_115, n_116, n_117, n_118, n_120, n_121, n_122, n_180, n_255, n_539, n_600, n_616, n_1200, n_2000, n_3600, n_8400, n_65536, e, x2, z2]
  · obtain ⟨v1, c1, l1, x1, x2, x3⟩ := zl_apc h (c := 67) (by omega) (by omega)
    obtain ⟨v2, c2, l2, y1, y2, y3⟩ := zl_apc x3 (c := 35) (by omega) (by omega)
    obtain ⟨v3, c3, l3, n3, z1, z2, z3, z4⟩ := zl_apn y3 (v := t / 12 - 1) (by omega) (by omega)
    refine ⟨v2, c2, n + 1 + 1, v3, c3, l3, n3, ?_, z1, ?_, z3, by omega⟩
    · rw [e]
      unfold f_X10_writeName
      simp (disch := omega) only [↓q_brd, ↓q_gdd, ↓q_lts, ↓reduceIte, ↓q_bds, ↓zq_smi, ↓zq_smr, iI_add, iI_sub, iI_mul, iI_neg, iI_ab3, iI_div, z_emod, aI_rd, aI_wr, aR0, aW0, aR1, aW1, aR2, aW2, aR3, aW3, aR4, aW4, iI_inT, iI_lt, iI_le, iI_eq, lt_t, lt_f, le_t, le_f, eq_t, eq_f, bz_z, bz_o, bz_zo, bzT, bzF, n_em, zu_s, zu_n, not_true_eq_false, not_false_eq_true, and_self, true_and, and_true, false_and, and_false, true_or, or_true, false_or, or_false, or_self, Int.add_sub_cancel, n_0, n_1, n_2, n_3, n_4, n_5, n_6, n_7, n_8, n_9, n_10, n_11, n_12, n_13, n_14, n_15, n_16, n_17, n_18, n_19, n_20, n_21, n_22, n_23, n_24, n_25, n_26, n_27, n_28, n_29, n_30, n_31, n_32, n_33, n_34, n_35, n_36, n_37, n_40, n_44, n_48, n_50, n_57, n_58, n_60, n_65, n_66, n_67, n_68, n_69, n_70, n_71, n_73, n_77, n_80, n_83, n_97, n_98, n_99, n_100, n_101, n_102, n_103, n_104, n_105, n_106, n_107, n_108, n_109, n_110, n_111, n_112, n_113, n_114, n_115, n_116, n_117, n_118, n_120, n_121, n_122, n_180, n_255, n_539, n_600, n_616, n_1200, n_2000, n_3600, n_8400, n_65536, zl_a1, zl_c1, x1, y1]
    · unfold f_X11_writesNote
      simp (disch := omega) only [↓q_brd, ↓q_gdd, ↓q_lts, ↓reduceIte, ↓q_bds, ↓zq_smi, ↓zq_smr, iI_add, iI_sub, iI_mul, iI_neg, iI_ab3, iI_div, z_emod, aI_rd, aI_wr, aR0, aW0, aR1, aW1, aR2, aW2, aR3, aW3, aR4, aW4, iI_inT, iI_lt, iI_le, iI_eq, lt_t, lt_f, le_t, le_f, eq_t, eq_f, bz_z, bz_o, bz_zo, bzT, bzF, n_em, zu_s, zu_n, not_true_eq_false, not_false_eq_true, and_self, true_and, and_true, false_and, and_false, true_or, or_true, false_or, or_false, or_self, Int.add_sub_cancel, n_0, n_1, n_2, n_3, n_4, n_5, n_6, n_7, n_8, n_9, n_10, n_11, n_12, n_13, n_14, n_15, n_16, n_17, n_18, n_19, n_20, n_21, n_22, n_23, n_24, n_25, n_26, n_27, n_28, n_29, n_30, n_31, n_32, n_33, n_34, n_35, n_36, n_37, n_40, n_44, n_48, n_50, n_57, n_58, n_60, n_65, n_66, n_67, n_68, n_69, n_70, n_71, n_73, n_77, n_80, n_83, n_97, n_98, n_99, n_100, n_101, n_102, n_103, n_104, n_105, n_106, n_107, n_108, n_109, n_110, n_111, n_112, n_113, n_114, n_115, n_116, n_117, n_118, n_120, n_121, n_122, n_180, n_255, n_539, n_600, n_616, n_1200, n_2000, n_3600, n_8400, n_65536, e, x2, y2, z2]
  · obtain ⟨v1, c1, l1, x1, x2, x3⟩ := zl_apc h (c := 68) (by omega) (by omega)
    obtain ⟨v3, c3, l3, n3, z1, z2, z3, z4⟩ := zl_apn x3 (v := t / 12 - 1) (by omega) (by omega)
    refine ⟨v1, c1, n + 1, v3, c3, l3, n3, ?_, z1, ?_, z3, by omega⟩
    · rw [e]
      unfold f_X10_writeName
      simp (disch := omega) only [↓q_brd, ↓q_gdd, ↓q_lts, ↓reduceIte, ↓q_bds, ↓zq_smi, ↓zq_smr, iI_add, iI_sub, iI_mul, iI_neg, iI_ab3, iI_div, z_emod, aI_rd, aI_wr, aR0, aW0, aR1, aW1, aR2, aW2, aR3, aW3, aR4, aW4, iI_inT, iI_lt, iI_le, iI_eq, lt_t, lt_f, le_t, le_f, eq_t, eq_f, bz_z, bz_o, bz_zo, bzT, bzF, n_em, zu_s, zu_n, not_true_eq_false, not_false_eq_true, and_self, true_and, and_true, false_and, and_false, true_or, or_true, false_or, or_false, or_self, Int.add_sub_cancel, n_0, n_1, n_2, n_3, n_4, n_5, n_6, n_7, n_8, n_9, n_10, n_11, n_12, n_13, n_14, n_15, n_16, n_17, n_18, n_19, n_20, n_21, n_22, n_23, n_24, n_25, n_26, n_27, n_28, n_29, n_30, n_31, n_32, n_33, n_34, n_35, n_36, n_37, n_40, n_44, n_48, n_50, n_57, n_58, n_60, n_65, n_66, n_67, n_68, n_69, n_70, n_71, n_73, n_77, n_80, n_83, n_97, n_98, n_99, n_100, n_101, n_102, n_103, n_104, n_105, n_106, n_107, n_108, n_109, n_110, n_111, n_112, n_113, n_114, n_115, n_116, n_117, n_118, n_120, n_121, n_122, n_180, n_255, n_539, n_600, n_616, n_1200, n_2000, n_3600, n_8400, n_65536, zl_a2, zl_c2, x1]
    · unfold f_X11_writesNote
      simp (disch := omega) only [↓q_brd, ↓q_gdd, ↓q_lts, ↓reduceIte, ↓q_bds, ↓zq_smi, ↓zq_smr, iI_add, iI_sub, iI_mul, iI_neg, iI_ab3, iI_div, z_emod, aI_rd, aI_wr, aR0, aW0, aR1, aW1, aR2, aW2, aR3, aW3, aR4, aW4, iI_inT, iI_lt, iI_le, iI_eq, lt_t, lt_f, le_t, le_f, eq_t, eq_f, bz_z, bz_o, bz_zo, bzT, bzF, n_em, zu_s, zu_n, not_true_eq_false, not_false_eq_true, and_self, true_and, and_true, false_and, and_false, true_or, or_true, false_or, or_false, or_self, Int.add_sub_cancel, n_0, n_1, n_2, n_3, n_4, n_5, n_6, n_7, n_8, n_9, n_10, n_11, n_12, n_13, n_14, n_15, n_16, n_17, n_18, n_19, n_20, n_21, n_22, n_23, n_24, n_25, n_26, n_27, n_28, n_29, n_30, n_31, n_32, n_33, n_34, n_35, n_36, n_37, n_40, n_44, n_48, n_50, n_57, n_58, n_60, n_65, n_66, n_67, n_68, n_69, n_70, n_71, n_73, n_77, n_80, n_83, n_97, n_98, n_99, n_100, n_101, n_102, n_103, n_104, n_105, n_106, n_107, n_108, n_109, n_110, n_111, n_112, n_113, n_114, n_115, n_116, n_117, n_118, n_120, n_121, n_122, n_180, n_255, n_539, n_600, n_616, n_1200, n_2000, n_3600, n_8400, n_65536, e, x2, z2]
  · obtain ⟨v1, c1, l1, x1, x2, x3⟩ := zl_apc h (c := 68) (by omega) (by omega)
    obtain ⟨v2, c2, l2, y1, y2, y3⟩ := zl_apc x3 (c := 35) (by omega) (by omega)
    obtain ⟨v3, c3, l3, n3, z1, z2, z3, z4⟩ := zl_apn y3 (v := t / 12 - 1) (by omega) (by omega)
    refine ⟨v2, c2, n + 1 + 1, v3, c3, l3, n3, ?_, z1, ?_, z3, by omega⟩
    · rw [e]
      unfold f_X10_writeName
      simp (disch := omega) only [↓q_brd, ↓q_gdd, ↓q_lts, ↓reduceIte, ↓q_bds, ↓zq_smi, ↓zq_smr, iI_add, iI_sub, iI_mul, iI_neg, iI_ab3, iI_div, z_emod, aI_rd, aI_wr, aR0, aW0, aR1, aW1, aR2, aW2, aR3, aW3, aR4, aW4, iI_inT, iI_lt, iI_le, iI_eq, lt_t, lt_f, le_t, le_f, eq_t, eq_f, bz_z, bz_o, bz_zo, bzT, bzF, n_em, zu_s, zu_n, not_true_eq_false, not_false_eq_true, and_self, true_and, and_true, false_and, and_false, true_or, or_true, false_or, or_false, or_self, Int.add_sub_cancel, n_0, n_1, n_2, n_3, n_4, n_5, n_6, n_7, n_8, n_9, n_10, n_11, n_12, n_13, n_14, n_15, n_16, n_17, n_18, n_19, n_20, n_21, n_22, n_23, n_24, n_25, n_26, n_27, n_28, n_29, n_30, n_31, n_32, n_33, n_34, n_35, n_36, n_37, n_40, n_44, n_48, n_50, n_57, n_58, n_60, n_65, n_66, n_67, n_68, n_69, n_70, n_71, n_73, n_77, n_80, n_83, n_97, n_98, n_99, n_100, n_101, n_102, n_103, n_104, n_105, n_106, n_107, n_108, n_109, n_110, n_111, n_112, n_113, n_114, n_115, n_116, n_117, n_118, n_120, n_121, n_122, n_180, n_255, n_539, n_600, n_616, n_1200, n_2000, n_3600, n_8400, n_65536, zl_a3, zl_c3, x1, y1]
    · unfold f_X11_writesNote
      simp (disch := omega) only [↓q_brd, ↓q_gdd, ↓q_lts, ↓reduceIte, ↓q_bds, ↓zq_smi, ↓zq_smr, iI_add, iI_sub, iI_mul, iI_neg, iI_ab3, iI_div, z_emod, aI_rd, aI_wr, aR0, aW0, aR1, aW1, aR2, aW2, aR3, aW3, aR4, aW4, iI_inT, iI_lt, iI_le, iI_eq, lt_t, lt_f, le_t, le_f, eq_t, eq_f, bz_z, bz_o, bz_zo, bzT, bzF, n_em, zu_s, zu_n, not_true_eq_false, not_false_eq_true, and_self, true_and, and_true, false_and, and_false, true_or, or_true, false_or, or_false, or_self, Int.add_sub_cancel, n_0, n_1, n_2, n_3, n_4, n_5, n_6, n_7, n_8, n_9, n_10, n_11, n_12, n_13, n_14, n_15, n_16, n_17, n_18, n_19, n_20, n_21, n_22, n_23, n_24, n_25, n_26, n_27, n_28, n_29, n_30, n_31, n_32, n_33, n_34, n_35, n_36, n_37, n_40, n_44, n_48, n_50, n_57, n_58, n_60, n_65, n_66, n_67, n_68, n_69, n_70, n_71, n_73, n_77, n_80, n_83, n_97, n_98, n_99, n_100, n_101, n_102, n_103, n_104, n_105, n_106, n_107, n_108, n_109, n_110, n_111, n_112, n_113, n_114, n_115, n_116, n_117, n_118, n_120, n_121, n_122, n_180, n_255, n_539, n_600, n_616, n_1200, n_2000, n_3600, n_8400, n_65536, e, x2, y2, z2]
  · obtain ⟨v1, c1, l1, x1, x2, x3⟩ := zl_apc h (c := 69) (by omega) (by omega)
    obtain ⟨v3, c3, l3, n3, z1, z2, z3, z4⟩ := zl_apn x3 (v := t / 12 - 1) (by omega) (by omega)
    refine ⟨v1, c1, n + 1, v3, c3, l3, n3, ?_, z1, ?_, z3, by omega⟩
    · rw [e]
      unfold f_X10_writeName
      simp (disch := omega) only [↓q_brd, ↓q_gdd, ↓q_lts, ↓reduceIte, ↓q_bds, ↓zq_smi, ↓zq_smr, iI_add, iI_sub, iI_mul, iI_neg, iI_ab3, iI_div, z_emod, aI_rd, aI_wr, aR0, aW0, aR1, aW1, aR2, aW2, aR3, aW3, aR4, aW4, iI_inT, iI_lt, iI_le, iI_eq, lt_t, lt_f, le_t, le_f, eq_t, eq_f, bz_z, bz_o, bz_zo, bzT, bzF, n_em, zu_s, zu_n, not_true_eq_false, not_false_eq_true, and_self, true_and, and_true, false_and, and_false, true_or, or_true, false_or, or_false, or_self, Int.add_sub_cancel, n_0, n_1, n_2, n_3, n_4, n_5, n_6, n_7, n_8, n_9, n_10, n_11, n_12, n_13, n_14, n_15, n_16, n_17, n_18, n_19, n_20, n_21, n_22, n_23, n_24, n_25, n_26, n_27, n_28, n_29, n_30, n_31, n_32, n_33, n_34, n_35, n_36, n_37, n_40, n_44, n_48, n_50, n_57, n_58, n_60, n_65, n_66, n_67, n_68, n_69, n_70, n_71, n_73, n_77, n_80, n_83, n_97, n_98, n_99, n_100, n_101, n_102, n_103, n_104, n_105, n_106, n_107, n_108, n_109, n_110, n_111, n_112, n_113, n_114, n_115, n_116, n_117, n_118, n_120, n_121, n_122, n_180, n_255, n_539, n_600, n_616, n_1200, n_2000, n_3600, n_8400, n_65536, zl_a4, zl_c4, x1]
    · unfold f_X11_writesNote
      simp (disch := omega) only [↓q_brd, ↓q_gdd, ↓q_lts, ↓reduceIte, ↓q_bds, ↓zq_smi, ↓zq_smr, iI_add, iI_sub, iI_mul, iI_neg, iI_ab3, iI_div, z_emod, aI_rd, aI_wr, aR0, aW0, aR1, aW1, aR2, aW2, aR3, aW3, aR4, aW4, iI_inT, iI_lt, iI_le, iI_eq, lt_t, lt_f, le_t, le_f, eq_t, eq_f, bz_z, bz_o, bz_zo, bzT, bzF, n_em, zu_s, zu_n, not_true_eq_false, not_false_eq_true, and_self, true_and, and_true, false_and, and_false, true_or, or_true, false_or, or_false, or_self, Int.add_sub_cancel, n_0, n_1, n_2, n_3, n_4, n_5, n_6, n_7, n_8, n_9, n_10, n_11, n_12, n_13, n_14, n_15, n_16, n_17, n_18, n_19, n_20, n_21, n_22, n_23, n_24, n_25, n_26, n_27, n_28, n_29, n_30, n_31, n_32, n_33, n_34, n_35, n_36, n_37, n_40, n_44, n_48, n_50, n_57, n_58, n_60, n_65, n_66, n_67, n_68, n_69, n_70, n_71, n_73, n_77, n_80, n_83, n_97, n_98, n_99, n_100, n_101, n_102, n_103, n_104, n_105, n_106, n_107, n_108, n_109, n_110, n_111, n_112, n_113, n_114, n_115, n_116, n_117, n_118, n_120, n_121, n_122, n_180, n_255, n_539, n_600, n_616, n_1200, n_2000, n_3600, n_8400, n_65536, e, x2, z2]
  · obtain ⟨v1, c1, l1, x1, x2, x3⟩ := zl_apc h (c := 70) (by omega) (by omega)
    obtain ⟨v3, c3, l3, n3, z1, z2, z3, z4⟩ := zl_apn x3 (v := t / 12 - 1) (by omega) (by omega)
    refine ⟨v1, c1, n + 1, v3, c3, l3, n3, ?_, z1, ?_, z3, by omega⟩
    · rw [e]
      unfold f_X10_writeName
      simp (disch := omega) only [↓q_brd, ↓q_gdd, ↓q_lts, ↓reduceIte, ↓q_bds, ↓zq_smi, ↓zq_smr, iI_add, iI_sub, iI_mul, iI_neg, iI_ab3, iI_div, z_emod, aI_rd, aI_wr, aR0, aW0, aR1, aW1, aR2, aW2, aR3, aW3, aR4, aW4, iI_inT, iI_lt, iI_le, iI_eq, lt_t, lt_f, le_t, le_f, eq_t, eq_f, bz_z, bz_o, bz_zo, bzT, bzF, n_em, zu_s, zu_n, not_true_eq_false, not_false_eq_true, and_self, true_and, and_true, false_and, and_false, true_or, or_true, false_or, or_false, or_self, Int.add_sub_cancel, n_0, n_1, n_2, n_3, n_4, n_5, n_6, n_7, n_8, n_9, n_10, n_11, n_12, n_13, n_14, n_15, n_16, n_17, n_18, n_19, n_20, n_21, n_22, n_23, n_24, n_25, n_26, n_27, n_28, n_29, n_30, n_31, n_32, n_33, n_34, n_35, n_36, n_37, n_40, n_44, n_48, n_50, n_57, n_58, n_60, n_65, n_66, n_67, n_68, n_69, n_70, n_71, n_73, n_77, n_80, n_83, n_97, n_98, n_99, n_100, n_101, n_102, n_103, n_104, n_105, n_106, n_107, n_108, n_109, n_110, n_111, n_112, n_113, n_114, n_115, n_116, n_117, n_118, n_120, n_121, n_122, n_180, n_255, n_539, n_600, n_616, n_1200, n_2000, n_3600, n_8400, n_65536, zl_a5, zl_c5, x1]
    · unfold f_X11_writesNote
      simp (disch := omega) only [↓q_brd, ↓q_gdd, ↓q_lts, ↓reduceIte, ↓q_bds, ↓zq_smi, ↓zq_smr, iI_add, iI_sub, iI_mul, iI_neg, iI_ab3, iI_div, z_emod, aI_rd, aI_wr, aR0, aW0, aR1, aW1, aR2, aW2, aR3, aW3, aR4, aW4, iI_inT, iI_lt, iI_le, iI_eq, lt_t, lt_f, le_t, le_f, eq_t, eq_f, bz_z, bz_o, bz_zo, bzT, bzF, n_em, zu_s, zu_n, not_true_eq_false, not_false_eq_true, and_self, true_and, and_true, false_and, and_false, true_or, or_true, false_or, or_false, or_self, Int.add_sub_cancel, n_0, n_1, n_2, n_3, n_4, n_5, n_6, n_7, n_8, n_9, n_10, n_11, n_12, n_13, n_14, n_15, n_16, n_17, n_18, n_19, n_20, n_21, n_22, n_23, n_24, n_25, n_26, n_27, n_28, n_29, n_30, n_31, n_32, n_33, n_34, n_35, n_36, n_37, n_40, n_44, n_48, n_50, n_57, n_58, n_60, n_65, n_66, n_67, n_68, n_69, n_70, n_71, n_73, n_77, n_80, n_83, n_97, n_98, n_99, n_100, n_101, n_102, n_103, n_104, n_105, n_106, n_107, n_108, n_109, n_110, n_111, n_112, n_113, n_114, n_115, n_116, n_117, n_118, n_120, n_121, n_122, n_180, n_255, n_539, n_600, n_616, n_1200, n_2000, n_3600, n_8400, n_65536, e, x2, z2]
  · obtain ⟨v1, c1, l1, x1, x2, x3⟩ := zl_apc h (c := 70) (by omega) (by omega)
    obtain ⟨v2, c2, l2, y1, y2, y3⟩ := zl_apc x3 (c := 35) (by omega) (by omega)
    obtain ⟨v3, c3, l3, n3, z1, z2, z3, z4⟩ := zl_apn y3 (v := t / 12 - 1) (by omega) (by omega)
    refine ⟨v2, c2, n + 1 + 1, v3, c3, l3, n3, ?_, z1, ?_, z3, by omega⟩
    · rw [e]
      unfold f_X10_writeName
      simp (disch := omega) only [↓q_brd, ↓q_gdd, ↓q_lts, ↓reduceIte, ↓q_bds, ↓zq_smi, ↓zq_smr, iI_add, iI_sub, iI_mul, iI_neg, iI_ab3, iI_div, z_emod, aI_rd, aI_wr, aR0, aW0, aR1, aW1, aR2, aW2, aR3, aW3, aR4, aW4, iI_inT, iI_lt, iI_le, iI_eq, lt_t, lt_f, le_t, le_f, eq_t, eq_f, bz_z, bz_o, bz_zo, bzT, bzF, n_em, zu_s, zu_n, not_true_eq_false, not_false_eq_true, and_self, true_and, and_true, false_and, and_false, true_or, or_true, false_or, or_false, or_self, Int.add_sub_cancel, n_0, n_1, n_2, n_3, n_4, n_5, n_6, n_7, n_8, n_9, n_10, n_11, n_12, n_13, n_14, n_15, n_16, n_17, n_18, n_19, n_20, n_21, n_22, n_23, n_24, n_25, n_26, n_27, n_28, n_29, n_30, n_31, n_32, n_33, n_34, n_35, n_36, n_37, n_40, n_44, n_48, n_50, n_57, n_58, n_60, n_65, n_66, n_67, n_68, n_69, n_70, n_71, n_73, n_77, n_80, n_83, n_97, n_98, n_99, n_100, n_101, n_102, n_103, n_104, n_105, n_106, n_107, n_108, n_109, n_110, n_111, n_112, n_113, n_114, n_115, n_116, n_117, n_118, n_120, n_121, n_122, n_180, n_255, n_539, n_600, n_616, n_1200, n_2000, n_3600, n_8400, n_65536, zl_a6, zl_c6, x1, y1]
    · unfold f_X11_writesNote
      simp (disch := omega) only [↓q_brd, ↓q_gdd, ↓q_lts, ↓reduceIte, ↓q_bds, ↓zq_smi, ↓zq_smr, iI_add, iI_sub, iI_mul, iI_neg, iI_ab3, iI_div, z_emod, aI_rd, aI_wr, aR0, aW0, aR1, aW1, aR2, aW2, aR3, aW3, aR4, aW4, iI_inT, iI_lt, iI_le, iI_eq, lt_t, lt_f, le_t, le_f, eq_t, eq_f, bz_z, bz_o, bz_zo, bzT, bzF, n_em, zu_s, zu_n, not_true_eq_false, not_false_eq_true, and_self, true_and, and_true, false_and, and_false, true_or, or_true, false_or, or_false, or_self, Int.add_sub_cancel, n_0, n_1, n_2, n_3, n_4, n_5, n_6, n_7, n_8, n_9, n_10, n_11, n_12, n_13, n_14, n_15, n_16, n_17, n_18, n_19, n_20, n_21, n_22, n_23, n_24, n_25, n_26, n_27, n_28, n_29, n_30, n_31, n_32, n_33, n_34, n_35, n_36, n_37, n_40, n_44, n_48, n_50, n_57, n_58, n_60, n_65, n_66, n_67, n_68, n_69, n_70, n_71, n_73, n_77, n_80, n_83, n_97, n_98, n_99, n_100, n_101, n_102, n_103, n_104, n_105, n_106, n_107, n_108, n_109, n_110, n_111, n_112, n_113, n_114, n_115, n_116, n_117, n_118, n_120, n_121, n_122, n_180, n_255, n_539, n_600, n_616, n_1200, n_2000, n_3600, n_8400, n_65536, e, x2, y2, z2]
  · obtain ⟨v1, c1, l1, x1, x2, x3⟩ := zl_apc h (c := 71) (by omega) (by omega)
    obtain ⟨v3, c3, l3, n3, z1, z2, z3, z4⟩ := zl_apn x3 (v := t / 12 - 1) (by omega) (by omega)
    refine ⟨v1, c1, n + 1, v3, c3, l3, n3, ?_, z1, ?_, z3, by omega⟩
    · rw [e]
      unfold f_X10_writeName
      simp (disch := omega) only [↓q_brd, ↓q_gdd, ↓q_lts, ↓reduceIte, ↓q_bds, ↓zq_smi, ↓zq_smr, iI_add, iI_sub, iI_mul, iI_neg, iI_ab3, iI_div, z_emod, aI_rd, aI_wr, aR0, aW0, aR1, aW1, aR2, aW2, aR3, aW3, aR4, aW4, iI_inT, iI_lt, iI_le, iI_eq, lt_t, lt_f, le_t, le_f, eq_t, eq_f, bz_z, bz_o, bz_zo, bzT, bzF, n_em, zu_s, zu_n, not_true_eq_false, not_false_eq_true, and_self, true_and, and_true, false_and, and_false, true_or, or_true, false_or, or_false, or_self, Int.add_sub_cancel, n_0, n_1, n_2, n_3, n_4, n_5, n_6, n_7, n_8, n_9, n_10, n_11, n_12, n_13, n_14, n_15, n_16, n_17, n_18, n_19, n_20, n_21, n_22, n_23, n_24, n_25, n_26, n_27, n_28, n_29, n_30, n_31, n_32, n_33, n_34, n_35, n_36, n_37, n_40, n_44, n_48, n_50, n_57, n_58, n_60, n_65, n_66, n_67, n_68, n_69, n_70, n_71, n_73, n_77, n_80, n_83, n_97, n_98, n_99, n_100, n_101, n_102, n_103, n_104, n_105, n_106, n_107, n_108, n_109, n_110, n_111, n_112, n_113, n_114, n_115, n_116, n_117, n_118, n_120, n_121, n_122, n_180, n_255, n_539, n_600, n_616, n_1200, n_2000, n_3600, n_8400, n_65536, zl_a7, zl_c7, x1]
    · unfold f_X11_writesNote
      simp (disch := omega) only [↓q_brd, ↓q_gdd, ↓q_lts, ↓reduceIte, ↓q_bds, ↓zq_smi, ↓zq_smr, iI_add, iI_sub, iI_mul, iI_neg, iI_ab3, iI_div, z_emod, aI_rd, aI_wr, aR0, aW0, aR1, aW1, aR2, aW2, aR3, aW3, aR4, aW4, iI_inT, iI_lt, iI_le, iI_eq, lt_t, lt_f, le_t, le_f, eq_t, eq_f, bz_z, bz_o, bz_zo, bzT, bzF, n_em, zu_s, zu_n, not_true_eq_false, not_false_eq_true, and_self, true_and, and_true, false_and, and_false, true_or, or_true, false_or, or_false, or_self, Int.add_sub_cancel, n_0, n_1, n_2, n_3, n_4, n_5, n_6, n_7, n_8, n_9, n_10, n_11, n_12, n_13, n_14, n_15, n_16, n_17, n_18, n_19, n_20, n_21, n_22, n_23, n_24, n_25, n_26, n_27, n_28, n_29, n_30, n_31, n_32, n_33, n_34, n_35, n_36, n_37, n_40, n_44, n_48, n_50, n_57, n_58, n_60, n_65, n_66, n_67, n_68, n_69, n_70, n_71, n_73, n_77, n_80, n_83, n_97, n_98, n_99, n_100, n_101, n_102, n_103, n_104, n_105, n_106, n_107, n_108, n_109, n_110, n_111, n_112, n_113, n_114, n_115, n_116, n_117, n_118, n_120, n_121, n_122, n_180, n_255, n_539, n_600, n_616, n_1200, n_2000, n_3600, n_8400, n_65536, e, x2, z2]
  · obtain ⟨v1, c1, l1, x1, x2, x3⟩ := zl_apc h (c := 71) (by omega) (by omega)
    obtain ⟨v2, c2, l2, y1, y2, y3⟩ := zl_apc x3 (c := 35) (by omega) (by omega)
    obtain ⟨v3, c3, l3, n3, z1, z2, z3, z4⟩ := zl_apn y3 (v := t / 12 - 1) (by omega) (by omega)
    refine ⟨v2, c2, n + 1 + 1, v3, c3, l3, n3, ?_, z1, ?_, z3, by omega⟩
    · rw [e]
      unfold f_X10_writeName
      simp (disch := omega) only [↓q_brd, ↓q_gdd, ↓q_lts, ↓reduceIte, ↓q_bds, ↓zq_smi, ↓zq_smr, iI_add, iI_sub, iI_mul, iI_neg, iI_ab3, iI_div, z_emod, aI_rd, aI_wr, aR0, aW0, aR1, aW1, aR2, aW2, aR3, aW3, aR4, aW4, iI_inT, iI_lt, iI_le, iI_eq, lt_t, lt_f, le_t, le_f, eq_t, eq_f, bz_z, bz_o, bz_zo, bzT, bzF, n_em, zu_s, zu_n, not_true_eq_false, not_false_eq_true, and_self, true_and, and_true, false_and, and_false, true_or, or_true, false_or, or_false, or_self, Int.add_sub_cancel, n_0, n_1, n_2, n_3, n_4, n_5, n_6, n_7, n_8, n_9, n_10, n_11, n_12, n_13, n_14, n_15, n_16, n_17, n_18, n_19, n_20, n_21, n_22, n_23, n_24, n_25, n_26, n_27, n_28, n_29, n_30, n_31, n_32, n_33, n_34, n_35, n_36, n_37, n_40, n_44, n_48, n_50, n_57, n_58, n_60, n_65, n_66, n_67, n_68, n_69, n_70, n_71, n_73, n_77, n_80, n_83, n_97, n_98, n_99, n_100, n_101, n_102, n_103, n_104, n_105, n_106, n_107, n_108, n_109, n_110, n_111, n_112, n_113, n_114, n_115, n_116, n_117, n_118, n_120, n_121, n_122, n_180, n_255, n_539, n_600, n_616, n_1200, n_2000, n_3600, n_8400, n_65536, zl_a8, zl_c8, x1, y1]
    · unfold f_X11_writesNote
      simp (disch := omega) only [↓q_brd, ↓q_gdd, ↓q_lts, ↓reduceIte, ↓q_bds, ↓zq_smi, ↓zq_smr, iI_add, iI_sub, iI_mul, iI_neg, iI_ab3, iI_div, z_emod, aI_rd, aI_wr, aR0, aW0, aR1, aW1, aR2, aW2, aR3, aW3, aR4, aW4, iI_inT, iI_lt, iI_le, iI_eq, lt_t, lt_f, le_t, le_f, eq_t, eq_f, bz_z, bz_o, bz_zo, bzT, bzF, n_em, zu_s, zu_n, not_true_eq_false, not_false_eq_true, and_self, true_and, and_true, false_and, and_false, true_or, or_true, false_or, or_false, or_self, Int.add_sub_cancel, n_0, n_1, n_2, n_3, n_4, n_5, n_6, n_7, n_8, n_9, n_10, n_11, n_12, n_13, n_14, n_15, n_16, n_17, n_18, n_19, n_20, n_21, n_22, n_23, n_24, n_25, n_26, n_27, n_28, n_29, n_30, n_31, n_32, n_33, n_34, n_35, n_36, n_37, n_40, n_44, n_48, n_50, n_57, n_58, n_60, n_65, n_66, n_67, n_68, n_69, n_70, n_71, n_73, n_77, n_80, n_83, n_97, n_98, n_99, n_100, n_101, n_102, n_103, n_104, n_105, n_106, n_107, n_108, n_109, n_110, n_111, n_112, n_113, n_114, n_115, n_116, n_117, n_118, n_120, n_121, n_122, n_180, n_255, n_539, n_600, n_616, n_1200, n_2000, n_3600, n_8400, n_65536, e, x2, y2, z2]
  · obtain ⟨v1, c1, l1, x1, x2, x3⟩ := zl_apc h (c := 65) (by omega) (by omega)
    obtain ⟨v3, c3, l3, n3, z1, z2, z3, z4⟩ := zl_apn x3 (v := t / 12 - 1) (by omega) (by omega)
    refine ⟨v1, c1, n + 1, v3, c3, l3, n3, ?_, z1, ?_, z3, by omega⟩
    · rw [e]
      unfold f_X10_writeName
      simp (disch := omega) only [↓q_brd, ↓q_gdd, ↓q_lts, ↓reduceIte, ↓q_bds, ↓zq_smi, ↓zq_smr, iI_add, iI_sub, iI_mul, iI_neg, iI_ab3, iI_div, z_emod, aI_rd, aI_wr, aR0, aW0, aR1, aW1, aR2, aW2, aR3, aW3, aR4, aW4, iI_inT, iI_lt, iI_le, iI_eq, lt_t, lt_f, le_t, le_f, eq_t, eq_f, bz_z, bz_o, bz_zo, bzT, bzF, n_em, zu_s, zu_n, not_true_eq_false, not_false_eq_true, and_self, true_and, and_true, false_and, and_false, true_or, or_true, false_or, or_false, or_self, Int.add_sub_cancel, n_0, n_1, n_2, n_3, n_4, n_5, n_6, n_7, n_8, n_9, n_10, n_11, n_12, n_13, n_14, n_15, n_16, n_17, n_18, n_19, n_20, n_21, n_22, n_23, n_24, n_25, n_26, n_27, n_28, n_29, n_30, n_31, n_32, n_33, n_34, n_35, n_36, n_37, n_40, n_44, n_48, n_50, n_57, n_58, n_60, n_65, n_66, n_67, n_68, n_69, n_70, n_71, n_73, n_77, n_80, n_83, n_97, n_98, n_99, n_100, n_101, n_102, n_103, n_104, n_105, n_106, n_107, n_108, n_109, n_110, n_111, n_112, n_113, n_114, n_115, n_116, n_117, n_118, n_120, n_121, n_122, n_180, n_255, n_539, n_600, n_616, n_1200, n_2000, n_3600, n_8400, n_65536, zl_a9, zl_c9, x1]
    · unfold f_X11_writesNote
      simp (disch := omega) only [↓q_brd, ↓q_gdd, ↓q_lts, ↓reduceIte, ↓q_bds, ↓zq_smi, ↓zq_smr, iI_add, iI_sub, iI_mul, iI_neg, iI_ab3, iI_div, z_emod, aI_rd, aI_wr, aR0, aW0, aR1, aW1, aR2, aW2, aR3, aW3, aR4, aW4, iI_inT, iI_lt, iI_le, iI_eq, lt_t, lt_f, le_t, le_f, eq_t, eq_f, bz_z, bz_o, bz_zo, bzT, bzF, n_em, zu_s, zu_n, not_true_eq_false, not_false_eq_true, and_self, true_and, and_true, false_and, and_false, true_or, or_true, false_or, or_false, or_self, Int.add_sub_cancel, n_0, n_1, n_2, n_3, n_4, n_5, n_6, n_7, n_8, n_9, n_10, n_11, n_12, n_13, n_14, n_15, n_16, n_17, n_18, n_19, n_20, n_21, n_22, n_23, n_24, n_25, n_26, n_27, n_28, n_29, n_30, n_31, n_32, n_33, n_34, n_35, n_36, n_37, n_40, n_44, n_48, n_50, n_57, n_58, n_60, n_65, n_66, n_67, n_68, n_69, n_70, n_71, n_73, n_77, n_80, n_83, n_97, n_98, n_99, n_100, n_101, n_102, n_103, n_104, n_105, n_106, n_107, n_108, n_109, n_110, n_111, n_112, n_113, n_114, n_115, n_116, n_117, n_118, n_120, n_121, n_122, n_180, n_255, n_539, n_600, n_616, n_1200, n_2000, n_3600, n_8400, n_65536, e, x2, z2]
  · obtain ⟨v1, c1, l1, x1, x2, x3⟩ := zl_apc h (c := 65) (by omega) (by omega)
    obtain ⟨v2, c2, l2, y1, y2, y3⟩ := zl_apc x3 (c := 35) (by omega) (by omega)
    obtain ⟨v3, c3, l3, n3, z1, z2, z3, z4⟩ := zl_apn y3 (v := t / 12 - 1) (by omega) (by omega)
    refine ⟨v2, c2, n + 1 + 1, v3, c3, l3, n3, ?_, z1, ?_, z3, by omega⟩
    · rw [e]
      unfold f_X10_writeName
      simp (disch := omega) only [↓q_brd, ↓q_gdd, ↓q_lts, ↓reduceIte, ↓q_bds, ↓zq_smi, ↓zq_smr, iI_add, iI_sub, iI_mul, iI_neg, iI_ab3, iI_div, z_emod, aI_rd, aI_wr, aR0, aW0, aR1, aW1, aR2, aW2, aR3, aW3, aR4, aW4, iI_inT, iI_lt, iI_le, iI_eq, lt_t, lt_f, le_t, le_f, eq_t, eq_f, bz_z, bz_o, bz_zo, bzT, bzF, n_em, zu_s, zu_n, not_true_eq_false, not_false_eq_true, and_self, true_and, and_true, false_and, and_false, true_or, or_true, false_or, or_false, or_self, Int.add_sub_cancel, n_0, n_1, n_2, n_3, n_4, n_5, n_6, n_7, n_8, n_9, n_10, n_11, n_12, n_13, n_14, n_15, n_16, n_17, n_18, n_19, n_20, n_21, n_22, n_23, n_24, n_25, n_26, n_27, n_28, n_29, n_30, n_31, n_32, n_33, n_34, n_35, n_36, n_37, n_40, n_44, n_48, n_50, n_57, n_58, n_60, n_65, n_66, n_67, n_68, n_69, n_70, n_71, n_73, n_77, n_80, n_83, n_97, n_98, n_99, n_100, n_101, n_102, n_103, n_104, n_105, n_106, n_107, n_108, n_109, n_110, n_111, n_112, n_113, n_114, n_115, n_116, n_117, n_118, n_120, n_121, n_122, n_180, n_255, n_539, n_600, n_616, n_1200, n_2000, n_3600, n_8400, n_65536, zl_a10, zl_c10, x1, y1]
    · unfold f_X11_writesNote
      simp (disch := omega) only [↓q_brd, ↓q_gdd, ↓q_lts, ↓reduceIte, ↓q_bds, ↓zq_smi, ↓zq_smr, iI_add, iI_sub, iI_mul, iI_neg, iI_ab3, iI_div, z_emod, aI_rd, aI_wr, aR0, aW0, aR1, aW1, aR2, aW2, aR3, aW3, aR4, aW4, iI_inT, iI_lt, iI_le, iI_eq, lt_t, lt_f, le_t, le_f, eq_t, eq_f, bz_z, bz_o, bz_zo, bzT, bzF, n_em, zu_s, zu_n, not_true_eq_false, not_false_eq_true, and_self, true_and, and_true, false_and, and_false, true_or, or_true, false_or, or_false, or_self, Int.add_sub_cancel, n_0, n_1, n_2, n_3, n_4, n_5, n_6, n_7, n_8, n_9, n_10, n_11, n_12, n_13, n_14, n_15, n_16, n_17, n_18, n_19, n_20, n_21, n_22, n_23, n_24, n_25, n_26, n_27, n_28, n_29, n_30, n_31, n_32, n_33, n_34, n_35, n_36, n_37, n_40, n_44, n_48, n_50, n_57, n_58, n_60, n_65, n_66, n_67, n_68, n_69, n_70, n_71, n_73, n_77, n_80, n_83, n_97, n_98, n_99, n_100, n_101, n_102, n_103, n_104, n_105, n_106, n_107, n_108, n_109, n_110, n_111, n_112, n_113, n_114, n_115, n_116, n_117, n_118, n_120, n_121, n_122, n_180, n_255, n_539, n_600, n_616, n_1200, n_2000, n_3600, n_8400, n_65536, e, x2, y2, z2]
  · obtain ⟨v1, c1, l1, x1, x2, x3⟩ := zl_apc h (c := 66) (by omega) (by omega)
    obtain ⟨v3, c3, l3, n3, z1, z2, z3, z4⟩ := zl_apn x3 (v := t / 12 - 1) (by omega) (by omega)
    refine ⟨v1, c1, n + 1, v3, c3, l3, n3, ?_, z1, ?_, z3, by omega⟩
    · rw [e]
      unfold f_X10_writeName
      simp (disch := omega) only [↓q_brd, ↓q_gdd, ↓q_lts, ↓reduceIte, ↓q_bds, ↓zq_smi, ↓zq_smr, iI_add, iI_sub, iI_mul, iI_neg, iI_ab3, iI_div, z_emod, aI_rd, aI_wr, aR0, aW0, aR1, aW1, aR2, aW2, aR3, aW3, aR4, aW4, iI_inT, iI_lt, iI_le, iI_eq, lt_t, lt_f, le_t, le_f, eq_t, eq_f, bz_z, bz_o, bz_zo, bzT, bzF, n_em, zu_s, zu_n, not_true_eq_false, not_false_eq_true, and_self, true_and, and_true, false_and, and_false, true_or, or_true, false_or, or_false, or_self, Int.add_sub_cancel, n_0, n_1, n_2, n_3, n_4, n_5, n_6, n_7, n_8, n_9, n_10, n_11, n_12, n_13, n_14, n_15, n_16, n_17, n_18, n_19, n_20, n_21, n_22, n_23, n_24, n_25, n_26, n_27, n_28, n_29, n_30, n_31, n_32, n_33, n_34, n_35, n_36, n_37, n_40, n_44, n_48, n_50, n_57, n_58, n_60, n_65, n_66, n_67, n_68, n_69, n_70, n_71, n_73, n_77, n_80, n_83, n_97, n_98, n_99, n_100, n_101, n_102, n_103, n_104, n_105, n_106, n_107, n_108, n_109, n_110, n_111, n_112, n_113, n_114, n_115, n_116, n_117, n_118, n_120, n_121, n_122, n_180, n_255, n_539, n_600, n_616, n_1200, n_2000, n_3600, n_8400, n_65536, zl_a11, zl_c11, x1]
    · unfold f_X11_writesNote
      simp (disch := omega) only [↓q_brd, ↓q_gdd, ↓q_lts, ↓reduceIte, ↓q_bds, ↓zq_smi, ↓zq_smr, iI_add, iI_sub, iI_mul, iI_neg, iI_ab3, iI_div, z_emod, aI_rd, aI_wr, aR0, aW0, aR1, aW1, aR2, aW2, aR3, aW3, aR4, aW4, iI_inT, iI_lt, iI_le, iI_eq, lt_t, lt_f, le_t, le_f, eq_t, eq_f, bz_z, bz_o, bz_zo, bzT, bzF, n_em, zu_s, zu_n, not_true_eq_false, not_false_eq_true, and_self, true_and, and_true, false_and, and_false, true_or, or_true, false_or, or_false, or_self, Int.add_sub_cancel, n_0, n_1, n_2, n_3, n_4, n_5, n_6, n_7, n_8, n_9, n_10, n_11, n_12, n_13, n_14, n_15, n_16, n_17, n_18, n_19, n_20, n_21, n_22, n_23, n_24, n_25, n_26, n_27, n_28, n_29, n_30, n_31, n_32, n_33, n_34, n_35, n_36, n_37, n_40, n_44, n_48, n_50, n_57, n_58, n_60, n_65, n_66, n_67, n_68, n_69, n_70, n_71, n_73, n_77, n_80, n_83, n_97, n_98, n_99, n_100, n_101, n_102, n_103, n_104, n_105, n_106, n_107, n_108, n_109, n_110, n_111, n_112, n_113, n_114, n_115, n_116, n_117, n_118, n_120, n_121, n_122, n_180, n_255, n_539, n_600, n_616, n_1200, n_2000, n_3600, n_8400, n_65536, e, x2, z2]
set_option maxHeartbeats 4000000 in
theorem lc_49 {x : VB_t} {y : Model_t} {z : Nat → Int64} {w : Nat → UInt64} {xs : Nat → Int32} {n : Nat} {i : Int} (hI : Inv ILn x y) (hi : 0 ≤ i ∧ i + 2 < n ∧ n ≤ 10000) : ∃ x2 y2 z2 w2, f_c49 x y z w xs n (iI i) = some (x2, y2, z2, w2) ∧ Inv ILn x2 y2 := by
  obtain ⟨⟨G, v1, ⟨H, P, L, E, T, D, S, hV, hB, hM, hC⟩, v3⟩, i2, i3, i4, i5, i6, i7⟩ := hI
  obtain ⟨g0, g1, g2, g3, g4, hb, hm, hc⟩ := id v3
  have ra := iI_rng (xs (iI i + 1).toNatClampNeg)
  have ea := iI_of (xs (iI i + 1).toNatClampNeg)
  generalize (xs (iI i + 1).toNatClampNeg).toInt = a at ra ea
  rw [show (1 : Int32) = iI 1 from rfl, iI_add] at ea
  obtain ⟨n0, hL⟩ := i7
  obtain ⟨ml', e1, e2⟩ := zl_set hL x.2.2.1.2.2.2.1
  rw [show (0 : Int32) = iI 0 from rfl] at e1
  have f1 : 0 ≤ a ∧ a ≤ G 0 - 1 → H a = G (5 + a) ∧ P a = G (17 + a) := fun h => hB a h.1 (by omega)
  have f2 : 0 ≤ a ∧ a ≤ G 0 - 1 → (0 ≤ G (5 + a) ∧ G (5 + a) ≤ 3) ∧ 3600 ≤ G (17 + a) ∧ G (17 + a) ≤ 8400 := fun h => hb a h.1 (by omega)
  unfold f_c49 f_case49 f_L_writeBell f_X10_writeBell f_X10_requireBell f_X11_writeBell f_X11_thrown
  rw [v1, hV]
  by_cases c1 : 0 ≤ a ∧ a ≤ G 0 - 1
  · obtain ⟨f1, f3⟩ := f1 c1
    obtain ⟨f2, f4⟩ := f2 c1
    have hno1 : f_X1_noteOf (aI P) (iI a) = some (iI (no (G (17 + a)))) := by
      unfold f_X1_noteOf
      simp (disch := omega) only [↓q_brd, ↓q_gdd, ↓q_lts, ↓reduceIte, ↓q_bds, ↓zq_smi, ↓zq_smr, iI_add, iI_sub, iI_mul, iI_neg, iI_ab3, iI_div, z_emod, aI_rd, aI_wr, aR0, aW0, aR1, aW1, aR2, aW2, aR3, aW3, aR4, aW4, iI_inT, iI_lt, iI_le, iI_eq, lt_t, lt_f, le_t, le_f, eq_t, eq_f, bz_z, bz_o, bz_zo, bzT, bzF, n_em, zu_s, zu_n, not_true_eq_false, not_false_eq_true, and_self, true_and, and_true, false_and, and_false, true_or, or_true, false_or, or_false, or_self, Int.add_sub_cancel, n_0, n_1, n_2, n_3, n_4, n_5, n_6, n_7, n_8, n_9, n_10, n_11, n_12, n_13, n_14, n_15, n_16, n_17, n_18, n_19, n_20, n_21, n_22, n_23, n_24, n_25, n_26, n_27, n_28, n_29, n_30, n_31, n_32, n_33, n_34, n_35, n_36, n_37, n_40, n_44, n_48, n_50, n_57, n_58, n_60, n_65, n_66, n_67, n_68, n_69, n_70, n_71, n_73, n_77, n_80, n_83, n_97, n_98, n_99, n_100, n_101, n_102, n_103, n_104, n_105, n_106, n_107, n_108, n_109, n_110, n_111, n_112, n_113, n_114, n_115, n_116, n_117, n_118, n_120, n_121, n_122, n_180, n_255, n_539, n_600, n_616, n_1200, n_2000, n_3600, n_8400, n_65536, f3, z_nearest]
    have hno2 : f_X11_noteOf (aI G) (iI a) = some (iI (no (G (17 + a)))) := z_mNote (by omega)
    have hd1 : f_X1_deviationOf (aI P) (iI a) = some (iI (dv (G (17 + a)))) := by
      unfold f_X1_deviationOf
      simp (disch := omega) only [↓q_brd, ↓q_gdd, ↓q_lts, ↓reduceIte, ↓q_bds, ↓zq_smi, ↓zq_smr, iI_add, iI_sub, iI_mul, iI_neg, iI_ab3, iI_div, z_emod, aI_rd, aI_wr, aR0, aW0, aR1, aW1, aR2, aW2, aR3, aW3, aR4, aW4, iI_inT, iI_lt, iI_le, iI_eq, lt_t, lt_f, le_t, le_f, eq_t, eq_f, bz_z, bz_o, bz_zo, bzT, bzF, n_em, zu_s, zu_n, not_true_eq_false, not_false_eq_true, and_self, true_and, and_true, false_and, and_false, true_or, or_true, false_or, or_false, or_self, Int.add_sub_cancel, n_0, n_1, n_2, n_3, n_4, n_5, n_6, n_7, n_8, n_9, n_10, n_11, n_12, n_13, n_14, n_15, n_16, n_17, n_18, n_19, n_20, n_21, n_22, n_23, n_24, n_25, n_26, n_27, n_28, n_29, n_30, n_31, n_32, n_33, n_34, n_35, n_36, n_37, n_40, n_44, n_48, n_50, n_57, n_58, n_60, n_65, n_66, n_67, n_68, n_69, n_70, n_71, n_73, n_77, n_80, n_83, n_97, n_98, n_99, n_100, n_101, n_102, n_103, n_104, n_105, n_106, n_107, n_108, n_109, n_110, n_111, n_112, n_113, n_114, n_115, n_116, n_117, n_118, n_120, n_121, n_122, n_180, n_255, n_539, n_600, n_616, n_1200, n_2000, n_3600, n_8400, n_65536, f3, z_offset]
    have hd2 : f_X11_deviationOf (aI G) (iI a) = some (iI (dv (G (17 + a)))) := z_mDev (by omega)
    have hk1 := z_accepts (t := G 2) (m := G 3) (o := G 4) (p := G (17 + a)) (by omega)
    have hk2 := z_mKeyed (g := G) (b := a) (by omega)
    have hnr : 36 ≤ no (G (17 + a)) ∧ no (G (17 + a)) ≤ 84 := by unfold no; omega
    have hdr := dv_b (p := G (17 + a)) (by omega)
    generalize no (G (17 + a)) = t at hno1 hno2 hnr
    generalize dv (G (17 + a)) = u at hd1 hd2 hdr
    have hm1 := z_fmod12 (a := t) (by omega)
    have hm2 := z_fdiv (a := t) (b := 12) (by omega)
    have hz := z_mSize (z := u) (by omega)
    obtain ⟨vA, cA, lA, nA, a1, a2, a3, a4⟩ := zl_apn (e2 y.2.2.1.1) (v := a) (by omega) (by omega)
    obtain ⟨vB, cB, lB, b1, b2, b3⟩ := zl_apc a3 (c := 104) (by omega) (by omega)
    obtain ⟨vC, cC, lC, nC, d1, d2, d3, d4⟩ := zl_apn b3 (v := G (5 + a)) (by omega) (by omega)
    obtain ⟨vD, cD, lD, g1', g2', g3'⟩ := zl_apc d3 (c := 58) (by omega) (by omega)
    obtain ⟨vE, cE, nE, vF, cF, lF, nF, k1, k2, k3, k4, k5⟩ := zl_note g3' (t := t) (by omega) hnr
    by_cases c2 : u = 0
    · subst c2
      by_cases c4 : ac (G 2) (G 3) (G 4) (G (17 + a))
      · rw [bz_t c4] at hk1 hk2
        unfold f_X10_writeDeviation f_J4_length_8abf5 f_J5_length_8abf5
        simp (disch := omega) only [↓q_brd, ↓q_gdd, ↓q_lts, ↓reduceIte, ↓q_bds, ↓zq_smi, ↓zq_smr, iI_add, iI_sub, iI_mul, iI_neg, iI_ab3, iI_div, z_emod, aI_rd, aI_wr, aR0, aW0, aR1, aW1, aR2, aW2, aR3, aW3, aR4, aW4, iI_inT, iI_lt, iI_le, iI_eq, lt_t, lt_f, le_t, le_f, eq_t, eq_f, bz_z, bz_o, bz_zo, bzT, bzF, n_em, zu_s, zu_n, not_true_eq_false, not_false_eq_true, and_self, true_and, and_true, false_and, and_false, true_or, or_true, false_or, or_false, or_self, Int.add_sub_cancel, n_0, n_1, n_2, n_3, n_4, n_5, n_6, n_7, n_8, n_9, n_10, n_11, n_12, n_13, n_14, n_15, n_16, n_17, n_18, n_19, n_20, n_21, n_22, n_23, n_24, n_25, n_26, n_27, n_28, n_29, n_30, n_31, n_32, n_33, n_34, n_35, n_36, n_37, n_40, n_44, n_48, n_50, n_57, n_58, n_60, n_65, n_66, n_67, n_68, n_69, n_70, n_71, n_73, n_77, n_80, n_83, n_97, n_98, n_99, n_100, n_101, n_102, n_103, n_104, n_105, n_106, n_107, n_108, n_109, n_110, n_111, n_112, n_113, n_114, n_115, n_116, n_117, n_118, n_120, n_121, n_122, n_180, n_255, n_539, n_600, n_616, n_1200, n_2000, n_3600, n_8400, n_65536, ea, z_has, z_isBell, c1, f1, f3, hno1, hno2, hd1, hd2, hk1, hk2, hm1, hm2, e1, a1, a2, b1, b2, d1, d2, g1', g2', k1, k2, k3, f_X11_done, lg_self, updL0, show (iI 1 = iI 0) = False from by decide]
        exact ⟨_, _, _, _, rfl, ⟨G, (by first | rfl | exact v1), ⟨H, P, L, E, T, D, S, (by first | rfl | exact hV), hB, hM, hC⟩, v3⟩, i2, i3, i4, i5, i6, ⟨_, k4⟩⟩
      · rw [bz_f c4] at hk1 hk2
        obtain ⟨vZ, cZ, lZ, j1, j2, j3⟩ := zl_apc k4 (c := 33) (by omega) (by omega)
        unfold f_X10_writeDeviation f_J4_length_8abf5 f_J5_length_8abf5
        simp (disch := omega) only [↓q_brd, ↓q_gdd, ↓q_lts, ↓reduceIte, ↓q_bds, ↓zq_smi, ↓zq_smr, iI_add, iI_sub, iI_mul, iI_neg, iI_ab3, iI_div, z_emod, aI_rd, aI_wr, aR0, aW0, aR1, aW1, aR2, aW2, aR3, aW3, aR4, aW4, iI_inT, iI_lt, iI_le, iI_eq, lt_t, lt_f, le_t, le_f, eq_t, eq_f, bz_z, bz_o, bz_zo, bzT, bzF, n_em, zu_s, zu_n, not_true_eq_false, not_false_eq_true, and_self, true_and, and_true, false_and, and_false, true_or, or_true, false_or, or_false, or_self, Int.add_sub_cancel, n_0, n_1, n_2, n_3, n_4, n_5, n_6, n_7, n_8, n_9, n_10, n_11, n_12, n_13, n_14, n_15, n_16, n_17, n_18, n_19, n_20, n_21, n_22, n_23, n_24, n_25, n_26, n_27, n_28, n_29, n_30, n_31, n_32, n_33, n_34, n_35, n_36, n_37, n_40, n_44, n_48, n_50, n_57, n_58, n_60, n_65, n_66, n_67, n_68, n_69, n_70, n_71, n_73, n_77, n_80, n_83, n_97, n_98, n_99, n_100, n_101, n_102, n_103, n_104, n_105, n_106, n_107, n_108, n_109, n_110, n_111, n_112, n_113, n_114, n_115, n_116, n_117, n_118, n_120, n_121, n_122, n_180, n_255, n_539, n_600, n_616, n_1200, n_2000, n_3600, n_8400, n_65536, ea, z_has, z_isBell, c1, f1, f3, hno1, hno2, hd1, hd2, hk1, hk2, hm1, hm2, e1, a1, a2, b1, b2, d1, d2, g1', g2', k1, k2, k3, j1, j2, f_X11_done, lg_self, updL0]
        exact ⟨_, _, _, _, rfl, ⟨G, (by first | rfl | exact v1), ⟨H, P, L, E, T, D, S, (by first | rfl | exact hV), hB, hM, hC⟩, v3⟩, i2, i3, i4, i5, i6, ⟨_, j3⟩⟩
    · by_cases c3 : 0 < u
      · obtain ⟨vG, cG, lG, h1', h2', h3'⟩ := zl_apc k4 (c := 43) (by omega) (by omega)
        obtain ⟨vH, cH, lH, nH, m1, m2, m3, m4⟩ := zl_apn h3' (v := u) (by omega) (by omega)
        rw [show ab u = u from by unfold ab; rw [if_pos (by omega)]] at hz
        by_cases c4 : ac (G 2) (G 3) (G 4) (G (17 + a))
        · rw [bz_t c4] at hk1 hk2
          unfold f_X10_writeDeviation f_J4_length_8abf5 f_J5_length_8abf5
          simp (disch := omega) only [↓q_brd, ↓q_gdd, ↓q_lts, ↓reduceIte, ↓q_bds, ↓zq_smi, ↓zq_smr, iI_add, iI_sub, iI_mul, iI_neg, iI_ab3, iI_div, z_emod, aI_rd, aI_wr, aR0, aW0, aR1, aW1, aR2, aW2, aR3, aW3, aR4, aW4, iI_inT, iI_lt, iI_le, iI_eq, lt_t, lt_f, le_t, le_f, eq_t, eq_f, bz_z, bz_o, bz_zo, bzT, bzF, n_em, zu_s, zu_n, not_true_eq_false, not_false_eq_true, and_self, true_and, and_true, false_and, and_false, true_or, or_true, false_or, or_false, or_self, Int.add_sub_cancel, n_0, n_1, n_2, n_3, n_4, n_5, n_6, n_7, n_8, n_9, n_10, n_11, n_12, n_13, n_14, n_15, n_16, n_17, n_18, n_19, n_20, n_21, n_22, n_23, n_24, n_25, n_26, n_27, n_28, n_29, n_30, n_31, n_32, n_33, n_34, n_35, n_36, n_37, n_40, n_44, n_48, n_50, n_57, n_58, n_60, n_65, n_66, n_67, n_68, n_69, n_70, n_71, n_73, n_77, n_80, n_83, n_97, n_98, n_99, n_100, n_101, n_102, n_103, n_104, n_105, n_106, n_107, n_108, n_109, n_110, n_111, n_112, n_113, n_114, n_115, n_116, n_117, n_118, n_120, n_121, n_122, n_180, n_255, n_539, n_600, n_616, n_1200, n_2000, n_3600, n_8400, n_65536, ea, z_has, z_isBell, c1, f1, f3, hno1, hno2, hd1, hd2, hk1, hk2, hm1, hm2, hz, e1, a1, a2, b1, b2, d1, d2, g1', g2', k1, k2, k3, n_43, h1', h2', m1, m2, f_X11_done, lg_self, updL0, show (iI 1 = iI 0) = False from by decide]
          exact ⟨_, _, _, _, rfl, ⟨G, (by first | rfl | exact v1), ⟨H, P, L, E, T, D, S, (by first | rfl | exact hV), hB, hM, hC⟩, v3⟩, i2, i3, i4, i5, i6, ⟨_, m3⟩⟩
        · rw [bz_f c4] at hk1 hk2
          obtain ⟨vZ, cZ, lZ, j1, j2, j3⟩ := zl_apc m3 (c := 33) (by omega) (by omega)
          unfold f_X10_writeDeviation f_J4_length_8abf5 f_J5_length_8abf5
          simp (disch := omega) only [↓q_brd, ↓q_gdd, ↓q_lts, ↓reduceIte, ↓q_bds, ↓zq_smi, ↓zq_smr, iI_add, iI_sub, iI_mul, iI_neg, iI_ab3, iI_div, z_emod, aI_rd, aI_wr, aR0, aW0, aR1, aW1, aR2, aW2, aR3, aW3, aR4, aW4, iI_inT, iI_lt, iI_le, iI_eq, lt_t, lt_f, le_t, le_f, eq_t, eq_f, bz_z, bz_o, bz_zo, bzT, bzF, n_em, zu_s, zu_n, not_true_eq_false, not_false_eq_true, and_self, true_and, and_true, false_and, and_false, true_or, or_true, false_or, or_false, or_self, Int.add_sub_cancel, n_0, n_1, n_2, n_3, n_4, n_5, n_6, n_7, n_8, n_9, n_10, n_11, n_12, n_13, n_14, n_15, n_16, n_17, n_18, n_19, n_20, n_21, n_22, n_23, n_24, n_25, n_26, n_27, n_28, n_29, n_30, n_31, n_32, n_33, n_34, n_35, n_36, n_37, n_40, n_44, n_48, n_50, n_57, n_58, n_60, n_65, n_66, n_67, n_68, n_69, n_70, n_71, n_73, n_77, n_80, n_83, n_97, n_98, n_99, n_100, n_101, n_102, n_103, n_104, n_105, n_106, n_107, n_108, n_109, n_110, n_111, n_112, n_113, n_114, n_115, n_116, n_117, n_118, n_120, n_121, n_122, n_180, n_255, n_539, n_600, n_616, n_1200, n_2000, n_3600, n_8400, n_65536, ea, z_has, z_isBell, c1, f1, f3, hno1, hno2, hd1, hd2, hk1, hk2, hm1, hm2, hz, e1, a1, a2, b1, b2, d1, d2, g1', g2', k1, k2, k3, n_43, h1', h2', m1, m2, j1, j2, f_X11_done, lg_self, updL0]
          exact ⟨_, _, _, _, rfl, ⟨G, (by first | rfl | exact v1), ⟨H, P, L, E, T, D, S, (by first | rfl | exact hV), hB, hM, hC⟩, v3⟩, i2, i3, i4, i5, i6, ⟨_, j3⟩⟩
      · obtain ⟨vH, cH, lH, lG, nH, m1, h2', m2, m3, m4⟩ := zl_apm k4 (v := u) (by omega) (by omega)
        rw [show ab u = -u from by unfold ab; rw [if_neg (by omega)]; omega] at hz
        by_cases c4 : ac (G 2) (G 3) (G 4) (G (17 + a))
        · rw [bz_t c4] at hk1 hk2
          unfold f_X10_writeDeviation f_J4_length_8abf5 f_J5_length_8abf5
          simp (disch := omega) only [↓q_brd, ↓q_gdd, ↓q_lts, ↓reduceIte, ↓q_bds, ↓zq_smi, ↓zq_smr, iI_add, iI_sub, iI_mul, iI_neg, iI_ab3, iI_div, z_emod, aI_rd, aI_wr, aR0, aW0, aR1, aW1, aR2, aW2, aR3, aW3, aR4, aW4, iI_inT, iI_lt, iI_le, iI_eq, lt_t, lt_f, le_t, le_f, eq_t, eq_f, bz_z, bz_o, bz_zo, bzT, bzF, n_em, zu_s, zu_n, not_true_eq_false, not_false_eq_true, and_self, true_and, and_true, false_and, and_false, true_or, or_true, false_or, or_false, or_self, Int.add_sub_cancel, n_0, n_1, n_2, n_3, n_4, n_5, n_6, n_7, n_8, n_9, n_10, n_11, n_12, n_13, n_14, n_15, n_16, n_17, n_18, n_19, n_20, n_21, n_22, n_23, n_24, n_25, n_26, n_27, n_28, n_29, n_30, n_31, n_32, n_33, n_34, n_35, n_36, n_37, n_40, n_44, n_48, n_50, n_57, n_58, n_60, n_65, n_66, n_67, n_68, n_69, n_70, n_71, n_73, n_77, n_80, n_83, n_97, n_98, n_99, n_100, n_101, n_102, n_103, n_104, n_105, n_106, n_107, n_108, n_109, n_110, n_111, n_112, n_113, n_114, n_115, n_116, n_117, n_118, n_120, n_121, n_122, n_180, n_255, n_539, n_600, n_616, n_1200, n_2000, n_3600, n_8400, n_65536, ea, z_has, z_isBell, c1, f1, f3, hno1, hno2, hd1, hd2, hk1, hk2, hm1, hm2, hz, e1, a1, a2, b1, b2, d1, d2, g1', g2', k1, k2, k3, n_45, h2', m1, m2, f_X11_done, lg_self, updL0, show (iI 1 = iI 0) = False from by decide]
          exact ⟨_, _, _, _, rfl, ⟨G, (by first | rfl | exact v1), ⟨H, P, L, E, T, D, S, (by first | rfl | exact hV), hB, hM, hC⟩, v3⟩, i2, i3, i4, i5, i6, ⟨_, m3⟩⟩
        · rw [bz_f c4] at hk1 hk2
          obtain ⟨vZ, cZ, lZ, j1, j2, j3⟩ := zl_apc m3 (c := 33) (by omega) (by omega)
          unfold f_X10_writeDeviation f_J4_length_8abf5 f_J5_length_8abf5
          simp (disch := omega) only [↓q_brd, ↓q_gdd, ↓q_lts, ↓reduceIte, ↓q_bds, ↓zq_smi, ↓zq_smr, iI_add, iI_sub, iI_mul, iI_neg, iI_ab3, iI_div, z_emod, aI_rd, aI_wr, aR0, aW0, aR1, aW1, aR2, aW2, aR3, aW3, aR4, aW4, iI_inT, iI_lt, iI_le, iI_eq, lt_t, lt_f, le_t, le_f, eq_t, eq_f, bz_z, bz_o, bz_zo, bzT, bzF, n_em, zu_s, zu_n, not_true_eq_false, not_false_eq_true, and_self, true_and, and_true, false_and, and_false, true_or, or_true, false_or, or_false, or_self, Int.add_sub_cancel, n_0, n_1, n_2, n_3, n_4, n_5, n_6, n_7, n_8, n_9, n_10, n_11, n_12, n_13, n_14, n_15, n_16, n_17, n_18, n_19, n_20, n_21, n_22, n_23, n_24, n_25, n_26, n_27, n_28, n_29, n_30, n_31, n_32, n_33, n_34, n_35, n_36, n_37, n_40, n_44, n_48, n_50, n_57, n_58, n_60, n_65, n_66, n_67, n_68, n_69, n_70, n_71, n_73, n_77, n_80, n_83, n_97, n_98, n_99, n_100, n_101, n_102, n_103, n_104, n_105, n_106, n_107, n_108, n_109, n_110, n_111, n_112, n_113, n_114, n_115, n_116, n_117, n_118, n_120, n_121, n_122, n_180, n_255, n_539, n_600, n_616, n_1200, n_2000, n_3600, n_8400, n_65536, ea, z_has, z_isBell, c1, f1, f3, hno1, hno2, hd1, hd2, hk1, hk2, hm1, hm2, hz, e1, a1, a2, b1, b2, d1, d2, g1', g2', k1, k2, k3, n_45, h2', m1, m2, j1, j2, f_X11_done, lg_self, updL0]
          exact ⟨_, _, _, _, rfl, ⟨G, (by first | rfl | exact v1), ⟨H, P, L, E, T, D, S, (by first | rfl | exact hV), hB, hM, hC⟩, v3⟩, i2, i3, i4, i5, i6, ⟨_, j3⟩⟩
  · simp (disch := omega) only [↓q_brd, ↓q_gdd, ↓q_lts, ↓reduceIte, ↓q_bds, ↓zq_smi, ↓zq_smr, iI_add, iI_sub, iI_mul, iI_neg, iI_ab3, iI_div, z_emod, aI_rd, aI_wr, aR0, aW0, aR1, aW1, aR2, aW2, aR3, aW3, aR4, aW4, iI_inT, iI_lt, iI_le, iI_eq, lt_t, lt_f, le_t, le_f, eq_t, eq_f, bz_z, bz_o, bz_zo, bzT, bzF, n_em, zu_s, zu_n, not_true_eq_false, not_false_eq_true, and_self, true_and, and_true, false_and, and_false, true_or, or_true, false_or, or_false, or_self, Int.add_sub_cancel, n_0, n_1, n_2, n_3, n_4, n_5, n_6, n_7, n_8, n_9, n_10, n_11, n_12, n_13, n_14, n_15, n_16, n_17, n_18, n_19, n_20, n_21, n_22, n_23, n_24, n_25, n_26, n_27, n_28, n_29, n_30, n_31, n_32, n_33, n_34, n_35, n_36, n_37, n_40, n_44, n_48, n_50, n_57, n_58, n_60, n_65, n_66, n_67, n_68, n_69, n_70, n_71, n_73, n_77, n_80, n_83, n_97, n_98, n_99, n_100, n_101, n_102, n_103, n_104, n_105, n_106, n_107, n_108, n_109, n_110, n_111, n_112, n_113, n_114, n_115, n_116, n_117, n_118, n_120, n_121, n_122, n_180, n_255, n_539, n_600, n_616, n_1200, n_2000, n_3600, n_8400, n_65536, ea, z_has, z_isBell, c1, f_X11_fails, xq1_xq1, xq1_xq2, xq1_xq3, xq2_xq1, xq2_xq2, xq2_xq3, xq3_xq1, xq3_xq2, xq3_xq3]
    exact ⟨_, _, _, _, rfl, ⟨G, (by first | rfl | exact v1), ⟨H, P, L, E, T, D, S, (by first | rfl | exact hV), hB, hM, hC⟩, v3⟩, i2, i3, i4, i5, i6, ⟨_, hL⟩⟩
theorem zl_wc_L {A B C : Int → Int} {N : Int} (hN : N ≤ 20) (hA : ∀ k, 0 ≤ k → k < N → A k = C k) (hB : ∀ k, 0 ≤ k → k < N → B k = C k) (hC : ∀ k, 0 ≤ k → k < N → 24 ≤ C k ∧ C k ≤ 96) (d : Nat) : ∀ (i n : Int) (vl : Nat → Int32) (cap : Nat) (ct : Int32) (lt : Nat → Int32) (ln : Int32) (f1 f2 : Nat), 0 ≤ i → i + d = N → d < f1 → d < f2 → LR vl cap ct lt ln n → n ≤ 3 * i →
    ∃ vl' cap' lt' n', (∀ K, f_X10_writeChord_L22 (aI A, iI N) K f1 (iI i) vl cap ct = K vl' cap' (iI n')) ∧ (∀ K, f_X11_writeChord_L12 (aI B, iI N) K f2 (iI i) lt ln = K lt' (iI n')) ∧ LR vl' cap' (iI n') lt' (iI n') n' := by
  induction d with
  | zero =>
    intro i n vl cap ct lt ln f1 f2 h1 h2 h3 h4 h5 h6
    obtain ⟨fl, rfl⟩ : ∃ fl, f1 = fl + 1 := ⟨f1 - 1, by omega⟩
    obtain ⟨fk, rfl⟩ : ∃ fk, f2 = fk + 1 := ⟨f2 - 1, by omega⟩
    have e3 : ct = iI n := by obtain ⟨F, M, q1, q2, q3, q4, q5⟩ := h5; exact q3
    have e4 : ln = iI n := by obtain ⟨F, M, q1, q2, q3, q4, q5⟩ := h5; exact q4
    subst e3 e4
    refine ⟨vl, cap, lt, n, fun K => ?_, fun K => ?_, h5⟩
    · unfold f_X10_writeChord_L22
      simp (disch := omega) only [↓q_brd, ↓q_gdd, ↓q_lts, ↓reduceIte, ↓q_bds, ↓zq_smi, ↓zq_smr, iI_add, iI_sub, iI_mul, iI_neg, iI_ab3, iI_div, z_emod, aI_rd, aI_wr, aR0, aW0, aR1, aW1, aR2, aW2, aR3, aW3, aR4, aW4, iI_inT, iI_lt, iI_le, iI_eq, lt_t, lt_f, le_t, le_f, eq_t, eq_f, bz_z, bz_o, bz_zo, bzT, bzF, n_em, zu_s, zu_n, not_true_eq_false, not_false_eq_true, and_self, true_and, and_true, false_and, and_false, true_or, or_true, false_or, or_false, or_self, Int.add_sub_cancel, n_0, n_1, n_2, n_3, n_4, n_5, n_6, n_7, n_8, n_9, n_10, n_11, n_12, n_13, n_14, n_15, n_16, n_17, n_18, n_19, n_20, n_21, n_22, n_23, n_24, n_25, n_26, n_27, n_28, n_29, n_30, n_31, n_32, n_33, n_34, n_35, n_36, n_37, n_40, n_44, n_48, n_50, n_57, n_58, n_60, n_65, n_66, n_67, n_68, n_69, n_70, n_71, n_73, n_77, n_80, n_83, n_97, n_98, n_99, n_100, n_101, n_102, n_103, n_104, n_105, n_106, n_107, n_108, n_109, n_110, n_111, n_112, n_113, n_114, n_115, n_116, n_117, n_118, n_120, n_121, n_122, n_180, n_255, n_539, n_600, n_616, n_1200, n_2000, n_3600, n_8400, n_65536]
    · unfold f_X11_writeChord_L12
      simp (disch := omega) only [↓q_brd, ↓q_gdd, ↓q_lts, ↓reduceIte, ↓q_bds, ↓zq_smi, ↓zq_smr, iI_add, iI_sub, iI_mul, iI_neg, iI_ab3, iI_div, z_emod, aI_rd, aI_wr, aR0, aW0, aR1, aW1, aR2, aW2, aR3, aW3, aR4, aW4, iI_inT, iI_lt, iI_le, iI_eq, lt_t, lt_f, le_t, le_f, eq_t, eq_f, bz_z, bz_o, bz_zo, bzT, bzF, n_em, zu_s, zu_n, not_true_eq_false, not_false_eq_true, and_self, true_and, and_true, false_and, and_false, true_or, or_true, false_or, or_false, or_self, Int.add_sub_cancel, n_0, n_1, n_2, n_3, n_4, n_5, n_6, n_7, n_8, n_9, n_10, n_11, n_12, n_13, n_14, n_15, n_16, n_17, n_18, n_19, n_20, n_21, n_22, n_23, n_24, n_25, n_26, n_27, n_28, n_29, n_30, n_31, n_32, n_33, n_34, n_35, n_36, n_37, n_40, n_44, n_48, n_50, n_57, n_58, n_60, n_65, n_66, n_67, n_68, n_69, n_70, n_71, n_73, n_77, n_80, n_83, n_97, n_98, n_99, n_100, n_101, n_102, n_103, n_104, n_105, n_106, n_107, n_108, n_109, n_110, n_111, n_112, n_113, n_114, n_115, n_116, n_117, n_118, n_120, n_121, n_122, n_180, n_255, n_539, n_600, n_616, n_1200, n_2000, n_3600, n_8400, n_65536]
  | succ d ih =>
    intro i n vl cap ct lt ln f1 f2 h1 h2 h3 h4 h5 h6
    obtain ⟨fl, rfl⟩ : ∃ fl, f1 = fl + 1 := ⟨f1 - 1, by omega⟩
    obtain ⟨fk, rfl⟩ : ∃ fk, f2 = fk + 1 := ⟨f2 - 1, by omega⟩
    have u1 := hA i h1 (by omega)
    have u2 := hB i h1 (by omega)
    have u3 := hC i h1 (by omega)
    by_cases c : i ≤ 0
    · obtain ⟨v1, c1, l1, n1, x1, x2, x3, x4⟩ := zl_apn h5 (v := C i) (by omega) (by omega)
      obtain ⟨vl', cap', lt', n', w1, w2, w3⟩ := ih (i + 1) n1 v1 c1 (iI n1) l1 (iI n1) fl fk (by omega) (by omega) (by omega) (by omega) x3 (by omega)
      refine ⟨vl', cap', lt', n', fun K => ?_, fun K => ?_, w3⟩
      · rw [← w1 K]
        conv => lhs; unfold f_X10_writeChord_L22
        simp (disch := omega) only [↓q_brd, ↓q_gdd, ↓q_lts, ↓reduceIte, ↓q_bds, ↓zq_smi, ↓zq_smr, iI_add, iI_sub, iI_mul, iI_neg, iI_ab3, iI_div, z_emod, aI_rd, aI_wr, aR0, aW0, aR1, aW1, aR2, aW2, aR3, aW3, aR4, aW4, iI_inT, iI_lt, iI_le, iI_eq, lt_t, lt_f, le_t, le_f, eq_t, eq_f, bz_z, bz_o, bz_zo, bzT, bzF, n_em, zu_s, zu_n, not_true_eq_false, not_false_eq_true, and_self, true_and, and_true, false_and, and_false, true_or, or_true, false_or, or_false, or_self, Int.add_sub_cancel, n_0, n_1, n_2, n_3, n_4, n_5, n_6, n_7, n_8, n_9, n_10, n_11, n_12, n_13, n_14, n_15, n_16, n_17, n_18, n_19, n_20, n_21, n_22, n_23, n_24, n_25, n_26, n_27, n_28, n_29, n_30, n_31, n_32, n_33, n_34, n_35, n_36, n_37, n_40, n_44, n_48, n_50, n_57, n_58, n_60, n_65, n_66, n_67, n_68, n_69, n_70, n_71, n_73, n_77, n_80, n_83, n_97, n_98, n_99, n_100, n_101, n_102, n_103, n_104, n_105, n_106, n_107, n_108, n_109, n_110, n_111, n_112, n_113, n_114, n_115, n_116, n_117, n_118, n_120, n_121, n_122, n_180, n_255, n_539, n_600, n_616, n_1200, n_2000, n_3600, n_8400, n_65536, u1, x1]
      · rw [← w2 K]
        conv => lhs; unfold f_X11_writeChord_L12
        simp (disch := omega) only [↓q_brd, ↓q_gdd, ↓q_lts, ↓reduceIte, ↓q_bds, ↓zq_smi, ↓zq_smr, iI_add, iI_sub, iI_mul, iI_neg, iI_ab3, iI_div, z_emod, aI_rd, aI_wr, aR0, aW0, aR1, aW1, aR2, aW2, aR3, aW3, aR4, aW4, iI_inT, iI_lt, iI_le, iI_eq, lt_t, lt_f, le_t, le_f, eq_t, eq_f, bz_z, bz_o, bz_zo, bzT, bzF, n_em, zu_s, zu_n, not_true_eq_false, not_false_eq_true, and_self, true_and, and_true, false_and, and_false, true_or, or_true, false_or, or_false, or_self, Int.add_sub_cancel, n_0, n_1, n_2, n_3, n_4, n_5, n_6, n_7, n_8, n_9, n_10, n_11, n_12, n_13, n_14, n_15, n_16, n_17, n_18, n_19, n_20, n_21, n_22, n_23, n_24, n_25, n_26, n_27, n_28, n_29, n_30, n_31, n_32, n_33, n_34, n_35, n_36, n_37, n_40, n_44, n_48, n_50, n_57, n_58, n_60, n_65, n_66, n_67, n_68, n_69, n_70, n_71, n_73, n_77, n_80, n_83, n_97, n_98, n_99, n_100, n_101, n_102, n_103, n_104, n_105, n_106, n_107, n_108, n_109, n_110, n_111, n_112, n_113, n_114, n_115, n_116, n_117, n_118, n_120, n_121, n_122, n_180, n_255, n_539, n_600, n_616, n_1200, n_2000, n_3600, n_8400, n_65536, u2, x2]
    · obtain ⟨v0, c0, l0, y1, y2, y3⟩ := zl_apc h5 (c := 32) (by omega) (by omega)
      obtain ⟨v1, c1, l1, n1, x1, x2, x3, x4⟩ := zl_apn y3 (v := C i) (by omega) (by omega)
      obtain ⟨vl', cap', lt', n', w1, w2, w3⟩ := ih (i + 1) n1 v1 c1 (iI n1) l1 (iI n1) fl fk (by omega) (by omega) (by omega) (by omega) x3 (by omega)
      refine ⟨vl', cap', lt', n', fun K => ?_, fun K => ?_, w3⟩
      · rw [← w1 K]
        conv => lhs; unfold f_X10_writeChord_L22
        simp (disch := omega) only [↓q_brd, ↓q_gdd, ↓q_lts, ↓reduceIte, ↓q_bds, ↓zq_smi, ↓zq_smr, iI_add, iI_sub, iI_mul, iI_neg, iI_ab3, iI_div, z_emod, aI_rd, aI_wr, aR0, aW0, aR1, aW1, aR2, aW2, aR3, aW3, aR4, aW4, iI_inT, iI_lt, iI_le, iI_eq, lt_t, lt_f, le_t, le_f, eq_t, eq_f, bz_z, bz_o, bz_zo, bzT, bzF, n_em, zu_s, zu_n, not_true_eq_false, not_false_eq_true, and_self, true_and, and_true, false_and, and_false, true_or, or_true, false_or, or_false, or_self, Int.add_sub_cancel, n_0, n_1, n_2, n_3, n_4, n_5, n_6, n_7, n_8, n_9, n_10, n_11, n_12, n_13, n_14, n_15, n_16, n_17, n_18, n_19, n_20, n_21, n_22, n_23, n_24, n_25, n_26, n_27, n_28, n_29, n_30, n_31, n_32, n_33, n_34, n_35, n_36, n_37, n_40, n_44, n_48, n_50, n_57, n_58, n_60, n_65, n_66, n_67, n_68, n_69, n_70, n_71, n_73, n_77, n_80, n_83, n_97, n_98, n_99, n_100, n_101, n_102, n_103, n_104, n_105, n_106, n_107, n_108, n_109, n_110, n_111, n_112, n_113, n_114, n_115, n_116, n_117, n_118, n_120, n_121, n_122, n_180, n_255, n_539, n_600, n_616, n_1200, n_2000, n_3600, n_8400, n_65536, y1, u1, x1]
      · rw [← w2 K]
        conv => lhs; unfold f_X11_writeChord_L12
        simp (disch := omega) only [↓q_brd, ↓q_gdd, ↓q_lts, ↓reduceIte, ↓q_bds, ↓zq_smi, ↓zq_smr, iI_add, iI_sub, iI_mul, iI_neg, iI_ab3, iI_div, z_emod, aI_rd, aI_wr, aR0, aW0, aR1, aW1, aR2, aW2, aR3, aW3, aR4, aW4, iI_inT, iI_lt, iI_le, iI_eq, lt_t, lt_f, le_t, le_f, eq_t, eq_f, bz_z, bz_o, bz_zo, bzT, bzF, n_em, zu_s, zu_n, not_true_eq_false, not_false_eq_true, and_self, true_and, and_true, false_and, and_false, true_or, or_true, false_or, or_false, or_self, Int.add_sub_cancel, n_0, n_1, n_2, n_3, n_4, n_5, n_6, n_7, n_8, n_9, n_10, n_11, n_12, n_13, n_14, n_15, n_16, n_17, n_18, n_19, n_20, n_21, n_22, n_23, n_24, n_25, n_26, n_27, n_28, n_29, n_30, n_31, n_32, n_33, n_34, n_35, n_36, n_37, n_40, n_44, n_48, n_50, n_57, n_58, n_60, n_65, n_66, n_67, n_68, n_69, n_70, n_71, n_73, n_77, n_80, n_83, n_97, n_98, n_99, n_100, n_101, n_102, n_103, n_104, n_105, n_106, n_107, n_108, n_109, n_110, n_111, n_112, n_113, n_114, n_115, n_116, n_117, n_118, n_120, n_121, n_122, n_180, n_255, n_539, n_600, n_616, n_1200, n_2000, n_3600, n_8400, n_65536, y2, u2, x2]
set_option maxHeartbeats 4000000 in
theorem lc_50 {x : VB_t} {y : Model_t} {z : Nat → Int64} {w : Nat → UInt64} {xs : Nat → Int32} {n : Nat} {i : Int} (hI : Inv ILn x y) (hi : 0 ≤ i ∧ i + 2 < n ∧ n ≤ 10000) : ∃ x2 y2 z2 w2, f_c50 x y z w xs n (iI i) = some (x2, y2, z2, w2) ∧ Inv ILn x2 y2 := by
  obtain ⟨⟨G, v1, ⟨H, P, L, E, T, D, S, hV, hB, hM, hC⟩, v3⟩, i2, i3, i4, i5, i6, i7⟩ := hI
  obtain ⟨g0, g1, g2, g3, g4, hb, hm, hc⟩ := id v3
  have ra := iI_rng (xs (iI i + 1).toNatClampNeg)
  have ea := iI_of (xs (iI i + 1).toNatClampNeg)
  generalize (xs (iI i + 1).toNatClampNeg).toInt = a at ra ea
  rw [show (1 : Int32) = iI 1 from rfl, iI_add] at ea
  have hW := VW_of hB hM hC v3
  obtain ⟨A, hA⟩ : ∃ A, x.1.2.2.2.2.1 = aI A := ⟨_, aI_of _⟩
  obtain ⟨B, hBm⟩ : ∃ B, y.2.2.1.2.2.1 = aI B := ⟨_, aI_of _⟩
  obtain ⟨r1, r2, r3, r4, r5⟩ := z_beat hW ra
  obtain ⟨A', p1, p2, p3, p4, p5⟩ := r4 A x.1.2.2.2.2.2.2
  obtain ⟨B', q1, q2, q3, q4, q5⟩ := r5 B y.2.2.1.2.2.2
  obtain ⟨n0, hL⟩ := i7
  obtain ⟨ml', e1, e2⟩ := zl_set hL x.2.2.1.2.2.2.1
  rw [show (0 : Int32) = iI 0 from rfl] at e1
  obtain ⟨vl', cap', lt', n', w1, w2, w3⟩ := zl_wc_L r1.2 p2 q2 (fun k k0 k1 => ((z_heard hW ra).1.2.1 k k0 k1).2) (cN G a).toNat 0 0 _ _ _ y.2.2.1.1 _ 24 2000 (by omega) (by omega) (by omega) (by omega) (e2 y.2.2.1.1) (by omega)
  have hc : f_X10_writeChord (aI P) (iI (G 0)) (aI L) (aI E) (aI T) (aI D) (aI S) (iI (G 1)) (aI A) x.1.2.2.2.2.2.2 x.2.2.1.1 x.2.2.1.2.1 x.2.2.1.2.2.2.1 x.2.2.1.2.2.2.2 (iI a) = some (iI n', aI A', iI (cN G a), vl', cap', ml', iI n') := by
    unfold f_X10_writeChord f_J4_length_8abf5 f_J5_length_8abf5
    rw [p1, q_bds, show (0 : Int32) = iI 0 from rfl, e1, q_bds]
    exact w1 _
  have hd : ∀ th, f_X11_writeChord (aI G) y.2.2.1.1 y.2.2.1.2.1 (aI B) y.2.2.1.2.2.2 th (iI a) = some (iI n', lt', iI n', aI B', iI (cN G a), iI 0) := fun th => by
    unfold f_X11_writeChord f_X11_done
    rw [q1, q_bds, show (0 : Int32) = iI 0 from rfl]
    exact w2 _
  unfold f_c50 f_case50
  rw [v1, hV, hA, hBm]
  simp (disch := omega) only [↓q_brd, ↓q_gdd, ↓q_lts, ↓reduceIte, ↓q_bds, ↓zq_smi, ↓zq_smr, iI_add, iI_sub, iI_mul, iI_neg, iI_ab3, iI_div, z_emod, aI_rd, aI_wr, aR0, aW0, aR1, aW1, aR2, aW2, aR3, aW3, aR4, aW4, iI_inT, iI_lt, iI_le, iI_eq, lt_t, lt_f, le_t, le_f, eq_t, eq_f, bz_z, bz_o, bz_zo, bzT, bzF, n_em, zu_s, zu_n, not_true_eq_false, not_false_eq_true, and_self, true_and, and_true, false_and, and_false, true_or, or_true, false_or, or_false, or_self, Int.add_sub_cancel, n_0, n_1, n_2, n_3, n_4, n_5, n_6, n_7, n_8, n_9, n_10, n_11, n_12, n_13, n_14, n_15, n_16, n_17, n_18, n_19, n_20, n_21, n_22, n_23, n_24, n_25, n_26, n_27, n_28, n_29, n_30, n_31, n_32, n_33, n_34, n_35, n_36, n_37, n_40, n_44, n_48, n_50, n_57, n_58, n_60, n_65, n_66, n_67, n_68, n_69, n_70, n_71, n_73, n_77, n_80, n_83, n_97, n_98, n_99, n_100, n_101, n_102, n_103, n_104, n_105, n_106, n_107, n_108, n_109, n_110, n_111, n_112, n_113, n_114, n_115, n_116, n_117, n_118, n_120, n_121, n_122, n_180, n_255, n_539, n_600, n_616, n_1200, n_2000, n_3600, n_8400, n_65536, ea, hc, hd]
  exact ⟨_, _, _, _, rfl, ⟨G, (by first | rfl | exact v1), ⟨H, P, L, E, T, D, S, (by first | rfl | exact hV), hB, hM, hC⟩, v3⟩, i2, i3, i4, i5, i6, ⟨_, w3⟩⟩
set_option maxHeartbeats 4000000 in
theorem lc_51 {x : VB_t} {y : Model_t} {z : Nat → Int64} {w : Nat → UInt64} {xs : Nat → Int32} {n : Nat} {i : Int} (hI : Inv ILn x y) (hi : 0 ≤ i ∧ i + 2 < n ∧ n ≤ 10000) : ∃ x2 y2 z2 w2, f_c51 x y z w xs n (iI i) = some (x2, y2, z2, w2) ∧ Inv ILn x2 y2 := by
  obtain ⟨⟨G, v1, ⟨H, P, L, E, T, D, S, hV, hB, hM, hC⟩, v3⟩, i2, i3, i4, i5, i6, i7⟩ := hI
  obtain ⟨g0, g1, g2, g3, g4, hb, hm, hc⟩ := id v3
  have ra := iI_rng (xs (iI i + 1).toNatClampNeg)
  have ea := iI_of (xs (iI i + 1).toNatClampNeg)
  generalize (xs (iI i + 1).toNatClampNeg).toInt = a at ra ea
  rw [show (1 : Int32) = iI 1 from rfl, iI_add] at ea
  obtain ⟨n0, hL⟩ := i7
  obtain ⟨F, M, h1, h2, h3, h4, h5, h6, h7, h8⟩ := id hL
  have e1 : Int32.ofNat x.2.2.1.2.1 >>> ((0 : Int32) &&& 31) = iI (x.2.2.1.2.1 : Int) := by
    rcases h5 with h | h | h <;> rw [h] <;> decide
  unfold f_c51 f_case51 f_L_outputAt f_X10_outputAt f_J4_length_8abf5 f_J5_length_8abf5 f_J4_charAt_5068e f_J5_charAt_5068e f_J0_checkIndex_df160 f_X11_outputAt f_X11_thrown
  rw [e1, h1, h2, h3, h4]
  by_cases c : 0 ≤ a ∧ a ≤ n0 - 1
  · have f1 := h7 a c.1 (by omega)
    have f2 := zl_and (c := M a) (by omega)
    have f3 := zl_ch (c := M a) (by omega)
    simp (disch := omega) only [↓q_brd, ↓q_gdd, ↓q_lts, ↓reduceIte, ↓q_bds, ↓zq_smi, ↓zq_smr, iI_add, iI_sub, iI_mul, iI_neg, iI_ab3, iI_div, z_emod, aI_rd, aI_wr, aR0, aW0, aR1, aW1, aR2, aW2, aR3, aW3, aR4, aW4, iI_inT, iI_lt, iI_le, iI_eq, lt_t, lt_f, le_t, le_f, eq_t, eq_f, bz_z, bz_o, bz_zo, bzT, bzF, n_em, zu_s, zu_n, not_true_eq_false, not_false_eq_true, and_self, true_and, and_true, false_and, and_false, true_or, or_true, false_or, or_false, or_self, Int.add_sub_cancel, n_0, n_1, n_2, n_3, n_4, n_5, n_6, n_7, n_8, n_9, n_10, n_11, n_12, n_13, n_14, n_15, n_16, n_17, n_18, n_19, n_20, n_21, n_22, n_23, n_24, n_25, n_26, n_27, n_28, n_29, n_30, n_31, n_32, n_33, n_34, n_35, n_36, n_37, n_40, n_44, n_48, n_50, n_57, n_58, n_60, n_65, n_66, n_67, n_68, n_69, n_70, n_71, n_73, n_77, n_80, n_83, n_97, n_98, n_99, n_100, n_101, n_102, n_103, n_104, n_105, n_106, n_107, n_108, n_109, n_110, n_111, n_112, n_113, n_114, n_115, n_116, n_117, n_118, n_120, n_121, n_122, n_180, n_255, n_539, n_600, n_616, n_1200, n_2000, n_3600, n_8400, n_65536, ea, z_isWithin, z_in, f1.1, f2, f3, lg_self, updL0]
    exact ⟨_, _, _, _, rfl, ⟨G, (by first | rfl | exact v1), ⟨H, P, L, E, T, D, S, (by first | rfl | exact hV), hB, hM, hC⟩, v3⟩, i2, i3, i4, i5, i6, ⟨n0, F, M, (by first | rfl | exact h1), (by first | rfl | exact h2), (by first | rfl | exact h3), (by first | rfl | exact h4), h5, h6, h7, h8⟩⟩
  · simp (disch := omega) only [↓q_brd, ↓q_gdd, ↓q_lts, ↓reduceIte, ↓q_bds, ↓zq_smi, ↓zq_smr, iI_add, iI_sub, iI_mul, iI_neg, iI_ab3, iI_div, z_emod, aI_rd, aI_wr, aR0, aW0, aR1, aW1, aR2, aW2, aR3, aW3, aR4, aW4, iI_inT, iI_lt, iI_le, iI_eq, lt_t, lt_f, le_t, le_f, eq_t, eq_f, bz_z, bz_o, bz_zo, bzT, bzF, n_em, zu_s, zu_n, not_true_eq_false, not_false_eq_true, and_self, true_and, and_true, false_and, and_false, true_or, or_true, false_or, or_false, or_self, Int.add_sub_cancel, n_0, n_1, n_2, n_3, n_4, n_5, n_6, n_7, n_8, n_9, n_10, n_11, n_12, n_13, n_14, n_15, n_16, n_17, n_18, n_19, n_20, n_21, n_22, n_23, n_24, n_25, n_26, n_27, n_28, n_29, n_30, n_31, n_32, n_33, n_34, n_35, n_36, n_37, n_40, n_44, n_48, n_50, n_57, n_58, n_60, n_65, n_66, n_67, n_68, n_69, n_70, n_71, n_73, n_77, n_80, n_83, n_97, n_98, n_99, n_100, n_101, n_102, n_103, n_104, n_105, n_106, n_107, n_108, n_109, n_110, n_111, n_112, n_113, n_114, n_115, n_116, n_117, n_118, n_120, n_121, n_122, n_180, n_255, n_539, n_600, n_616, n_1200, n_2000, n_3600, n_8400, n_65536, ea, z_isWithin, z_in, c, xq1_xq1, xq1_xq2, xq1_xq3, xq2_xq1, xq2_xq2, xq2_xq3, xq3_xq1, xq3_xq2, xq3_xq3]
    exact ⟨_, _, _, _, rfl, ⟨G, (by first | rfl | exact v1), ⟨H, P, L, E, T, D, S, (by first | rfl | exact hV), hB, hM, hC⟩, v3⟩, i2, i3, i4, i5, i6, ⟨n0, F, M, (by first | rfl | exact h1), (by first | rfl | exact h2), (by first | rfl | exact h3), (by first | rfl | exact h4), h5, h6, h7, h8⟩⟩
