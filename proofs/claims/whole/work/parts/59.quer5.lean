set_option maxHeartbeats 4000000 in
theorem lc_47 {IL : Line_t → (Nat → Int32) → Int32 → Prop} {x : VB_t} {y : Model_t} {z : Nat → Int64} {w : Nat → UInt64} {xs : Nat → Int32} {n : Nat} {i : Int} (hI : Inv IL x y) (hi : 0 ≤ i ∧ i + 2 < n ∧ n ≤ 10000) : ∃ x2 y2 z2 w2, f_c47 x y z w xs n (iI i) = some (x2, y2, z2, w2) ∧ Inv IL x2 y2 := by
  obtain ⟨i1, i2, i3, i4, i5, i6, i7⟩ := hI
  obtain ⟨e, h1, h2, h3⟩ := id i5
  unfold f_c47 f_case47 f_L_errorPosition f_X10_errorPosition f_X11_errorPosition f_X11_thrown
  rw [h1, h2]
  by_cases c : e = -1
  · subst c
    simp (disch := omega) only [↓q_brd, ↓q_gdd, ↓q_lts, ↓reduceIte, ↓q_bds, ↓zq_smi, ↓zq_smr, iI_add, iI_sub, iI_mul, iI_neg, iI_ab3, iI_div, z_emod, aI_rd, aI_wr, aR0, aW0, aR1, aW1, aR2, aW2, aR3, aW3, aR4, aW4, iI_inT, iI_lt, iI_le, iI_eq, lt_t, lt_f, le_t, le_f, eq_t, eq_f, bz_z, bz_o, bz_zo, bzT, bzF, n_em, zu_s, zu_n, not_true_eq_false, not_false_eq_true, and_self, true_and, and_true, false_and, and_false, true_or, or_true, false_or, or_false, or_self, Int.add_sub_cancel, n_0, n_1, n_2, n_3, n_4, n_5, n_6, n_7, n_8, n_9, n_10, n_11, n_12, n_13, n_14, n_15, n_16, n_17, n_18, n_19, n_20, n_21, n_22, n_23, n_24, n_25, n_26, n_27, n_28, n_29, n_30, n_31, n_32, n_33, n_34, n_35, n_36, n_37, n_40, n_44, n_48, n_50, n_57, n_58, n_60, n_65, n_66, n_67, n_68, n_69, n_70, n_71, n_73, n_77, n_80, n_83, n_97, n_98, n_99, n_100, n_101, n_102, n_103, n_104, n_105, n_106, n_107, n_108, n_109, n_110, n_111, n_112, n_113, n_114, n_115, n_116, n_117, n_118, n_120, n_121, n_122, n_180, n_255, n_539, n_600, n_616, n_1200, n_2000, n_3600, n_8400, n_65536, xq_nn, f_X11_fails, f_X11_done]
    exact ⟨_, _, _, _, rfl, i1, i2, i3, i4, ⟨_, h1, rfl, h3⟩, i6, i7⟩
  · simp (disch := omega) only [↓q_brd, ↓q_gdd, ↓q_lts, ↓reduceIte, ↓q_bds, ↓zq_smi, ↓zq_smr, iI_add, iI_sub, iI_mul, iI_neg, iI_ab3, iI_div, z_emod, aI_rd, aI_wr, aR0, aW0, aR1, aW1, aR2, aW2, aR3, aW3, aR4, aW4, iI_inT, iI_lt, iI_le, iI_eq, lt_t, lt_f, le_t, le_f, eq_t, eq_f, bz_z, bz_o, bz_zo, bzT, bzF, n_em, zu_s, zu_n, not_true_eq_false, not_false_eq_true, and_self, true_and, and_true, false_and, and_false, true_or, or_true, false_or, or_false, or_self, Int.add_sub_cancel, n_0, n_1, n_2, n_3, n_4, n_5, n_6, n_7, n_8, n_9, n_10, n_11, n_12, n_13, n_14, n_15, n_16, n_17, n_18, n_19, n_20, n_21, n_22, n_23, n_24, n_25, n_26, n_27, n_28, n_29, n_30, n_31, n_32, n_33, n_34, n_35, n_36, n_37, n_40, n_44, n_48, n_50, n_57, n_58, n_60, n_65, n_66, n_67, n_68, n_69, n_70, n_71, n_73, n_77, n_80, n_83, n_97, n_98, n_99, n_100, n_101, n_102, n_103, n_104, n_105, n_106, n_107, n_108, n_109, n_110, n_111, n_112, n_113, n_114, n_115, n_116, n_117, n_118, n_120, n_121, n_122, n_180, n_255, n_539, n_600, n_616, n_1200, n_2000, n_3600, n_8400, n_65536, xq_nn, f_X11_fails, f_X11_done, lg_self, updL0]
    exact ⟨_, _, _, _, rfl, i1, i2, i3, i4, ⟨_, h1, rfl, h3⟩, i6, i7⟩
set_option maxHeartbeats 4000000 in
theorem lc_48 {IL : Line_t → (Nat → Int32) → Int32 → Prop} {x : VB_t} {y : Model_t} {z : Nat → Int64} {w : Nat → UInt64} {xs : Nat → Int32} {n : Nat} {i : Int} (hI : Inv IL x y) (hi : 0 ≤ i ∧ i + 2 < n ∧ n ≤ 10000) : ∃ x2 y2 z2 w2, f_c48 x y z w xs n (iI i) = some (x2, y2, z2, w2) ∧ Inv IL x2 y2 := by
  obtain ⟨i1, i2, i3, i4, i5, i6, i7⟩ := hI
  obtain ⟨e, h1, h2, h3⟩ := id i6
  unfold f_c48 f_case48 f_L_failedCommand f_X10_failedCommand f_X11_failedCommand f_X11_thrown
  rw [h1, h2]
  by_cases c : e = -1
  · subst c
    simp (disch := omega) only [↓q_brd, ↓q_gdd, ↓q_lts, ↓reduceIte, ↓q_bds, ↓zq_smi, ↓zq_smr, iI_add, iI_sub, iI_mul, iI_neg, iI_ab3, iI_div, z_emod, aI_rd, aI_wr, aR0, aW0, aR1, aW1, aR2, aW2, aR3, aW3, aR4, aW4, iI_inT, iI_lt, iI_le, iI_eq, lt_t, lt_f, le_t, le_f, eq_t, eq_f, bz_z, bz_o, bz_zo, bzT, bzF, n_em, zu_s, zu_n, not_true_eq_false, not_false_eq_true, and_self, true_and, and_true, false_and, and_false, true_or, or_true, false_or, or_false, or_self, Int.add_sub_cancel, n_0, n_1, n_2, n_3, n_4, n_5, n_6, n_7, n_8, n_9, n_10, n_11, n_12, n_13, n_14, n_15, n_16, n_17, n_18, n_19, n_20, n_21, n_22, n_23, n_24, n_25, n_26, n_27, n_28, n_29, n_30, n_31, n_32, n_33, n_34, n_35, n_36, n_37, n_40, n_44, n_48, n_50, n_57, n_58, n_60, n_65, n_66, n_67, n_68, n_69, n_70, n_71, n_73, n_77, n_80, n_83, n_97, n_98, n_99, n_100, n_101, n_102, n_103, n_104, n_105, n_106, n_107, n_108, n_109, n_110, n_111, n_112, n_113, n_114, n_115, n_116, n_117, n_118, n_120, n_121, n_122, n_180, n_255, n_539, n_600, n_616, n_1200, n_2000, n_3600, n_8400, n_65536, xq_nn, f_X11_fails, f_X11_done]
    exact ⟨_, _, _, _, rfl, i1, i2, i3, i4, i5, ⟨_, h1, rfl, h3⟩, i7⟩
  · simp (disch := omega) only [↓q_brd, ↓q_gdd, ↓q_lts, ↓reduceIte, ↓q_bds, ↓zq_smi, ↓zq_smr, iI_add, iI_sub, iI_mul, iI_neg, iI_ab3, iI_div, z_emod, aI_rd, aI_wr, aR0, aW0, aR1, aW1, aR2, aW2, aR3, aW3, aR4, aW4, iI_inT, iI_lt, iI_le, iI_eq, lt_t, lt_f, le_t, le_f, eq_t, eq_f, bz_z, bz_o, bz_zo, bzT, bzF, n_em, zu_s, zu_n, not_true_eq_false, not_false_eq_true, and_self, true_and, and_true, false_and, and_false, true_or, or_true, false_or, or_false, or_self, Int.add_sub_cancel, n_0, n_1, n_2, n_3, n_4, n_5, n_6, n_7, n_8, n_9, n_10, n_11, n_12, n_13, n_14, n_15, n_16, n_17, n_18, n_19, n_20, n_21, n_22, n_23, n_24, n_25, n_26, n_27, n_28, n_29, n_30, n_31, n_32, n_33, n_34, n_35, n_36, n_37, n_40, n_44, n_48, n_50, n_57, n_58, n_60, n_65, n_66, n_67, n_68, n_69, n_70, n_71, n_73, n_77, n_80, n_83, n_97, n_98, n_99, n_100, n_101, n_102, n_103, n_104, n_105, n_106, n_107, n_108, n_109, n_110, n_111, n_112, n_113, n_114, n_115, n_116, n_117, n_118, n_120, n_121, n_122, n_180, n_255, n_539, n_600, n_616, n_1200, n_2000, n_3600, n_8400, n_65536, xq_nn, f_X11_fails, f_X11_done, lg_self, updL0]
    exact ⟨_, _, _, _, rfl, i1, i2, i3, i4, i5, ⟨_, h1, rfl, h3⟩, i7⟩
theorem ch_r (v : Int32) : ∃ c : Int, (v.toUInt32 % 65536).toInt32 = iI c ∧ 0 ≤ c ∧ c < 65536 := by
  refine ⟨((v.toUInt32 % 65536).toNat : Int), ?_, by omega, ?_⟩
  · apply Int32.toBitVec_inj.1
    apply BitVec.eq_of_toNat_eq
    show (v.toUInt32 % 65536).toNat = (BitVec.ofInt 32 ((v.toUInt32 % 65536).toNat : Int)).toNat
    have := (v.toUInt32 % 65536).toNat_lt
    rw [BitVec.toNat_ofInt]
    omega
  · have : (v.toUInt32 % 65536).toNat < 65536 := by
      rw [UInt32.toNat_mod]
      exact Nat.mod_lt _ (by decide)
    omega
theorem zc_char {n : Nat} (h : n < 65536) : (nI n).toUInt32.toUInt16.toUInt32.toInt32 = nI n := by
  apply Int32.toBitVec_inj.1
  apply BitVec.eq_of_toNat_eq
  have e1 : (nI n).toBitVec.toNat = n := by
    show (BitVec.ofNat 32 n).toNat = n
    rw [BitVec.toNat_ofNat, Nat.mod_eq_of_lt (by omega)]
  have e2 : ((nI n).toUInt32.toUInt16.toUInt32).toNat = n := by
    rw [UInt16.toNat_toUInt32, UInt32.toNat_toUInt16]
    show (nI n).toBitVec.toNat % 2 ^ 16 = n
    rw [e1, Nat.mod_eq_of_lt (by omega)]
  rw [e1]
  exact e2
theorem nar_c {c : Int} (h : 0 ≤ c ∧ c < 65536) : vp_nar .char (iI c) = iI c := by
  have e : iI c = nI c.toNat := by rw [iI_nI]; exact congrArg iI (by omega)
  rw [e]
  show (nI c.toNat).toUInt32.toUInt16.toUInt32.toInt32 = _
  exact zc_char (by omega)
set_option maxHeartbeats 4000000 in
theorem lc_45 {IL : Line_t → (Nat → Int32) → Int32 → Prop} {x : VB_t} {y : Model_t} {z : Nat → Int64} {w : Nat → UInt64} {xs : Nat → Int32} {n : Nat} {i : Int} (hI : Inv IL x y) (hi : 0 ≤ i ∧ i + 2 < n ∧ n ≤ 10000) : ∃ x2 y2 z2 w2, f_c45 x y z w xs n (iI i) = some (x2, y2, z2, w2) ∧ Inv IL x2 y2 := by
  obtain ⟨i1, i2, i3, ⟨tx, bf, m, h1, h2, h3, h4, h5, h6⟩, i5, i6, i7⟩ := hI
  obtain ⟨c, hc, hc2⟩ := ch_r (xs (iI i + 1).toNatClampNeg)
  rw [show (1 : Int32) = iI 1 from rfl, iI_add] at hc
  unfold f_c45 f_case45 f_L_append f_X10_append f_X8_isFull f_X8_put f_X8_isFull f_X11_append f_X11_thrown
  rw [h1, h2, h3, h4]
  by_cases c1 : m < 60
  · simp (disch := omega) only [↓q_brd, ↓q_gdd, ↓q_lts, ↓reduceIte, ↓q_bds, ↓zq_smi, ↓zq_smr, iI_add, iI_sub, iI_mul, iI_neg, iI_ab3, iI_div, z_emod, aI_rd, aI_wr, aR0, aW0, aR1, aW1, aR2, aW2, aR3, aW3, aR4, aW4, iI_inT, iI_lt, iI_le, iI_eq, lt_t, lt_f, le_t, le_f, eq_t, eq_f, bz_z, bz_o, bz_zo, bzT, bzF, n_em, zu_s, zu_n, not_true_eq_false, not_false_eq_true, and_self, true_and, and_true, false_and, and_false, true_or, or_true, false_or, or_false, or_self, Int.add_sub_cancel, n_0, n_1, n_2, n_3, n_4, n_5, n_6, n_7, n_8, n_9, n_10, n_11, n_12, n_13, n_14, n_15, n_16, n_17, n_18, n_19, n_20, n_21, n_22, n_23, n_24, n_25, n_26, n_27, n_28, n_29, n_30, n_31, n_32, n_33, n_34, n_35, n_36, n_37, n_40, n_44, n_48, n_50, n_57, n_58, n_60, n_65, n_66, n_67, n_68, n_69, n_70, n_71, n_73, n_77, n_80, n_83, n_97, n_98, n_99, n_100, n_101, n_102, n_103, n_104, n_105, n_106, n_107, n_108, n_109, n_110, n_111, n_112, n_113, n_114, n_115, n_116, n_117, n_118, n_120, n_121, n_122, n_180, n_255, n_539, n_600, n_616, n_1200, n_2000, n_3600, n_8400, n_65536, hc, nar_c, f_X11_fails, f_X11_done, lg_self, updL0]
    exact ⟨_, _, _, _, rfl, i1, i2, i3, ⟨_, _, m + 1, rfl, rfl, rfl, rfl, by omega, fun k k0 k1 => by have := h6 k k0; simp only [zu]; omega⟩, i5, i6, i7⟩
  · have : m = 60 := by omega
    subst this
    simp (disch := omega) only [↓q_brd, ↓q_gdd, ↓q_lts, ↓reduceIte, ↓q_bds, ↓zq_smi, ↓zq_smr, iI_add, iI_sub, iI_mul, iI_neg, iI_ab3, iI_div, z_emod, aI_rd, aI_wr, aR0, aW0, aR1, aW1, aR2, aW2, aR3, aW3, aR4, aW4, iI_inT, iI_lt, iI_le, iI_eq, lt_t, lt_f, le_t, le_f, eq_t, eq_f, bz_z, bz_o, bz_zo, bzT, bzF, n_em, zu_s, zu_n, not_true_eq_false, not_false_eq_true, and_self, true_and, and_true, false_and, and_false, true_or, or_true, false_or, or_false, or_self, Int.add_sub_cancel, n_0, n_1, n_2, n_3, n_4, n_5, n_6, n_7, n_8, n_9, n_10, n_11, n_12, n_13, n_14, n_15, n_16, n_17, n_18, n_19, n_20, n_21, n_22, n_23, n_24, n_25, n_26, n_27, n_28, n_29, n_30, n_31, n_32, n_33, n_34, n_35, n_36, n_37, n_40, n_44, n_48, n_50, n_57, n_58, n_60, n_65, n_66, n_67, n_68, n_69, n_70, n_71, n_73, n_77, n_80, n_83, n_97, n_98, n_99, n_100, n_101, n_102, n_103, n_104, n_105, n_106, n_107, n_108, n_109, n_110, n_111, n_112, n_113, n_114, n_115, n_116, n_117, n_118, n_120, n_121, n_122, n_180, n_255, n_539, n_600, n_616, n_1200, n_2000, n_3600, n_8400, n_65536, hc, f_X11_fails, f_X11_done, xq1_xq1, xq1_xq2, xq1_xq3, xq2_xq1, xq2_xq2, xq2_xq3, xq3_xq1, xq3_xq2, xq3_xq3]
    exact ⟨_, _, _, _, rfl, i1, i2, i3, ⟨_, _, 60, rfl, rfl, rfl, rfl, by omega, h6⟩, i5, i6, i7⟩
set_option maxHeartbeats 4000000 in
theorem lc_52 {IL : Line_t → (Nat → Int32) → Int32 → Prop} {x : VB_t} {y : Model_t} {z : Nat → Int64} {w : Nat → UInt64} {xs : Nat → Int32} {n : Nat} {i : Int} (hI : Inv IL x y) (hi : 0 ≤ i ∧ i + 2 < n ∧ n ≤ 10000) : ∃ x2 y2 z2 w2, f_c52 x y z w xs n (iI i) = some (x2, y2, z2, w2) ∧ Inv IL x2 y2 := by
  obtain ⟨⟨G, v1, v2, v3⟩, ⟨h, ch, u1, u2, u3⟩, i3, i4, i5, i6, i7⟩ := hI
  obtain ⟨c, q1, q2, q3, q4, q5⟩ := id u3
  unfold f_c52 f_case52 f_L_undo f_X10_undo f_X11_undo f_X11_thrown
  rw [v1, u1, u2, q1, q3]
  by_cases c1 : ch = 0
  · subst c1
    simp (disch := omega) only [↓q_brd, ↓q_gdd, ↓q_lts, ↓reduceIte, ↓q_bds, ↓zq_smi, ↓zq_smr, iI_add, iI_sub, iI_mul, iI_neg, iI_ab3, iI_div, z_emod, aI_rd, aI_wr, aR0, aW0, aR1, aW1, aR2, aW2, aR3, aW3, aR4, aW4, iI_inT, iI_lt, iI_le, iI_eq, lt_t, lt_f, le_t, le_f, eq_t, eq_f, bz_z, bz_o, bz_zo, bzT, bzF, n_em, zu_s, zu_n, not_true_eq_false, not_false_eq_true, and_self, true_and, and_true, false_and, and_false, true_or, or_true, false_or, or_false, or_self, Int.add_sub_cancel, n_0, n_1, n_2, n_3, n_4, n_5, n_6, n_7, n_8, n_9, n_10, n_11, n_12, n_13, n_14, n_15, n_16, n_17, n_18, n_19, n_20, n_21, n_22, n_23, n_24, n_25, n_26, n_27, n_28, n_29, n_30, n_31, n_32, n_33, n_34, n_35, n_36, n_37, n_40, n_44, n_48, n_50, n_57, n_58, n_60, n_65, n_66, n_67, n_68, n_69, n_70, n_71, n_73, n_77, n_80, n_83, n_97, n_98, n_99, n_100, n_101, n_102, n_103, n_104, n_105, n_106, n_107, n_108, n_109, n_110, n_111, n_112, n_113, n_114, n_115, n_116, n_117, n_118, n_120, n_121, n_122, n_180, n_255, n_539, n_600, n_616, n_1200, n_2000, n_3600, n_8400, n_65536, f_X11_fails, xq1_xq1, xq1_xq2, xq1_xq3, xq2_xq1, xq2_xq2, xq2_xq3, xq3_xq1, xq3_xq2, xq3_xq3]
    exact ⟨_, _, _, _, rfl, ⟨G, rfl, v2, v3⟩, ⟨h, 0, rfl, rfl, ⟨c, rfl, q2, rfl, q4, q5⟩⟩, i3, i4, i5, i6, i7⟩
  · obtain ⟨x1, x2⟩ := q5 (ch - 1) (by omega) (by omega)
    obtain ⟨V2, x3, x4⟩ := RV_cpy x.1.1 x2 x1
    have hcy := z_copy (A := h) (B := G) (nx := 616) (ny := 77) (p := (ch - 1) * 77) (q := 0) (by omega) (by omega)
    have hcc : (c - ch + (ch - 1)) % 9 = (c + 8) % 9 := by omega
    rw [hcc] at x3
    have hst : f_X5_stepBack (iI c) (iI ch) = some (iI ((c + 8) % 9), iI (ch - 1)) := by
      unfold f_X5_stepBack
      simp (disch := omega) only [↓q_brd, ↓q_gdd, ↓q_lts, ↓reduceIte, ↓q_bds, ↓zq_smi, ↓zq_smr, iI_add, iI_sub, iI_mul, iI_neg, iI_ab3, iI_div, z_emod, aI_rd, aI_wr, aR0, aW0, aR1, aW1, aR2, aW2, aR3, aW3, aR4, aW4, iI_inT, iI_lt, iI_le, iI_eq, lt_t, lt_f, le_t, le_f, eq_t, eq_f, bz_z, bz_o, bz_zo, bzT, bzF, n_em, zu_s, zu_n, not_true_eq_false, not_false_eq_true, and_self, true_and, and_true, false_and, and_false, true_or, or_true, false_or, or_false, or_self, Int.add_sub_cancel, n_0, n_1, n_2, n_3, n_4, n_5, n_6, n_7, n_8, n_9, n_10, n_11, n_12, n_13, n_14, n_15, n_16, n_17, n_18, n_19, n_20, n_21, n_22, n_23, n_24, n_25, n_26, n_27, n_28, n_29, n_30, n_31, n_32, n_33, n_34, n_35, n_36, n_37, n_40, n_44, n_48, n_50, n_57, n_58, n_60, n_65, n_66, n_67, n_68, n_69, n_70, n_71, n_73, n_77, n_80, n_83, n_97, n_98, n_99, n_100, n_101, n_102, n_103, n_104, n_105, n_106, n_107, n_108, n_109, n_110, n_111, n_112, n_113, n_114, n_115, n_116, n_117, n_118, n_120, n_121, n_122, n_180, n_255, n_539, n_600, n_616, n_1200, n_2000, n_3600, n_8400, n_65536, show c + 9 - 1 = c + 8 by omega]
    have hbg : f_X5_beginning (iI ((c + 8) % 9)) = some () := if_pos (iI_in (by omega))
    have hgg : ∀ t, 0 ≤ t → t < 77 → (fun t => if 0 ≤ t ∧ t < 0 + 77 then h ((ch - 1) * 77 + (t - 0)) else G t) t = (fun z => h (77 * (ch - 1) + z)) t := fun t t0 t1 => by
      show (if 0 ≤ t ∧ t < 0 + 77 then h ((ch - 1) * 77 + (t - 0)) else G t) = h (77 * (ch - 1) + t)
      rw [if_pos (by omega), show (ch - 1) * 77 + (t - 0) = 77 * (ch - 1) + t by omega]
    have hlt2 : (((c + 8) % 9).toNat < 9) = True := eq_true (by omega)
    have hcl : (iI ((c + 8) % 9)).toNatClampNeg = ((c + 8) % 9).toNat := iI_cl (by omega)
    have x3' : q_vcp ((x.1.1.1.1, x.1.1.1.2.1, x.1.1.1.2.2), (x.1.1.2.1.1, x.1.1.2.1.2.1, x.1.1.2.1.2.2), (x.1.1.2.2.1.1, x.1.1.2.2.1.2.1, x.1.1.2.2.1.2.2), (x.1.1.2.2.2.1, x.1.1.2.2.2.2.1, x.1.1.2.2.2.2.2)) (x.1.2.2.1.1 ((c + 8) % 9).toNat) = some V2 := x3
    simp (disch := omega) only [↓q_brd, ↓q_gdd, ↓q_lts, ↓reduceIte, ↓q_bds, ↓zq_smi, ↓zq_smr, iI_add, iI_sub, iI_mul, iI_neg, iI_ab3, iI_div, z_emod, aI_rd, aI_wr, aR0, aW0, aR1, aW1, aR2, aW2, aR3, aW3, aR4, aW4, iI_inT, iI_lt, iI_le, iI_eq, lt_t, lt_f, le_t, le_f, eq_t, eq_f, bz_z, bz_o, bz_zo, bzT, bzF, n_em, zu_s, zu_n, not_true_eq_false, not_false_eq_true, and_self, true_and, and_true, false_and, and_false, true_or, or_true, false_or, or_false, or_self, Int.add_sub_cancel, n_0, n_1, n_2, n_3, n_4, n_5, n_6, n_7, n_8, n_9, n_10, n_11, n_12, n_13, n_14, n_15, n_16, n_17, n_18, n_19, n_20, n_21, n_22, n_23, n_24, n_25, n_26, n_27, n_28, n_29, n_30, n_31, n_32, n_33, n_34, n_35, n_36, n_37, n_40, n_44, n_48, n_50, n_57, n_58, n_60, n_65, n_66, n_67, n_68, n_69, n_70, n_71, n_73, n_77, n_80, n_83, n_97, n_98, n_99, n_100, n_101, n_102, n_103, n_104, n_105, n_106, n_107, n_108, n_109, n_110, n_111, n_112, n_113, n_114, n_115, n_116, n_117, n_118, n_120, n_121, n_122, n_180, n_255, n_539, n_600, n_616, n_1200, n_2000, n_3600, n_8400, n_65536, hst, hbg, hlt2, hcl, x3', hcy, f_X11_done, lg_self, updL0]
    refine ⟨_, _, _, _, rfl, ?_⟩
    refine ⟨⟨_, rfl, RV_cong hgg x2 x4, VOk_cong hgg x2⟩, ⟨h, ch - 1, rfl, rfl, ?_⟩, i3, i4, i5, i6, i7⟩
    exact ⟨(c + 8) % 9, rfl, by omega, rfl, by omega, fun j j0 j1 => by
      have := q5 j j0 (by omega)
      show RV (x.1.2.2.1.1 ((((c + 8) % 9 - (ch - 1) + j) % 9).toNat)) _ ∧ _
      rw [show ((c + 8) % 9 - (ch - 1) + j) % 9 = (c - ch + j) % 9 by omega]
      exact this⟩
set_option maxHeartbeats 4000000 in
theorem lc_53 {IL : Line_t → (Nat → Int32) → Int32 → Prop} {x : VB_t} {y : Model_t} {z : Nat → Int64} {w : Nat → UInt64} {xs : Nat → Int32} {n : Nat} {i : Int} (hI : Inv IL x y) (hi : 0 ≤ i ∧ i + 2 < n ∧ n ≤ 10000) : ∃ x2 y2 z2 w2, f_c53 x y z w xs n (iI i) = some (x2, y2, z2, w2) ∧ Inv IL x2 y2 := by
  obtain ⟨⟨G, v1, v2, v3⟩, i2, i3, i4, i5, i6, i7⟩ := hI
  obtain ⟨S, hSe⟩ : ∃ S, y.1.2.2.2.2 = aI S := ⟨_, aI_of _⟩
  obtain ⟨V2, x3, x4⟩ := RV_cpy x.1.2.1 v3 v2
  unfold q_vcp at x3
  obtain ⟨q, y1, y2⟩ := q_bdi x3
  have y2 := Option.some.inj y2
  have hcy := z_copy (A := G) (B := S) (nx := 77) (ny := 77) (p := 0) (q := 0) (by omega) (by omega)
  have hgg : ∀ t, 0 ≤ t → t < 77 → (fun t => if 0 ≤ t ∧ t < 0 + 77 then G (0 + (t - 0)) else S t) t = G t := fun t t0 t1 => by
    show (if 0 ≤ t ∧ t < 0 + 77 then G (0 + (t - 0)) else S t) = G t
    rw [if_pos (by omega), show 0 + (t - 0) = t by omega]
  unfold f_c53 f_case53 f_X10_save f_X11_save
  rw [hSe, v1]
  simp (disch := omega) only [↓q_brd, ↓q_gdd, ↓q_lts, ↓reduceIte, ↓q_bds, ↓zq_smi, ↓zq_smr, iI_add, iI_sub, iI_mul, iI_neg, iI_ab3, iI_div, z_emod, aI_rd, aI_wr, aR0, aW0, aR1, aW1, aR2, aW2, aR3, aW3, aR4, aW4, iI_inT, iI_lt, iI_le, iI_eq, lt_t, lt_f, le_t, le_f, eq_t, eq_f, bz_z, bz_o, bz_zo, bzT, bzF, n_em, zu_s, zu_n, not_true_eq_false, not_false_eq_true, and_self, true_and, and_true, false_and, and_false, true_or, or_true, false_or, or_false, or_self, Int.add_sub_cancel, n_0, n_1, n_2, n_3, n_4, n_5, n_6, n_7, n_8, n_9, n_10, n_11, n_12, n_13, n_14, n_15, n_16, n_17, n_18, n_19, n_20, n_21, n_22, n_23, n_24, n_25, n_26, n_27, n_28, n_29, n_30, n_31, n_32, n_33, n_34, n_35, n_36, n_37, n_40, n_44, n_48, n_50, n_57, n_58, n_60, n_65, n_66, n_67, n_68, n_69, n_70, n_71, n_73, n_77, n_80, n_83, n_97, n_98, n_99, n_100, n_101, n_102, n_103, n_104, n_105, n_106, n_107, n_108, n_109, n_110, n_111, n_112, n_113, n_114, n_115, n_116, n_117, n_118, n_120, n_121, n_122, n_180, n_255, n_539, n_600, n_616, n_1200, n_2000, n_3600, n_8400, n_65536, y1, hcy]
  refine ⟨_, _, _, _, rfl, ⟨G, rfl, v2, v3⟩, i2, Or.inr ⟨rfl, rfl, ⟨_, rfl, ?_, VOk_cong hgg v3⟩⟩, i4, i5, i6, i7⟩
  refine RV_cong hgg v3 ?_
  rw [← y2] at x4
  exact x4
set_option maxHeartbeats 4000000 in
theorem lc_54 {IL : Line_t → (Nat → Int32) → Int32 → Prop} {x : VB_t} {y : Model_t} {z : Nat → Int64} {w : Nat → UInt64} {xs : Nat → Int32} {n : Nat} {i : Int} (hI : Inv IL x y) (hi : 0 ≤ i ∧ i + 2 < n ∧ n ≤ 10000) : ∃ x2 y2 z2 w2, f_c54 x y z w xs n (iI i) = some (x2, y2, z2, w2) ∧ Inv IL x2 y2 := by
  obtain ⟨⟨G, v1, v2, v3⟩, ⟨h, ch, u1, u2, u3⟩, i3, i4, i5, i6, i7⟩ := hI
  unfold f_c54 f_case54 f_L_restore f_X10_restore f_X11_restore f_X11_thrown
  rcases i3 with ⟨s1, s2⟩ | ⟨s1, s2, S, s3, s4, s5⟩
  · rw [s1, s2]
    simp (disch := omega) only [↓q_brd, ↓q_gdd, ↓q_lts, ↓reduceIte, ↓q_bds, ↓zq_smi, ↓zq_smr, iI_add, iI_sub, iI_mul, iI_neg, iI_ab3, iI_div, z_emod, aI_rd, aI_wr, aR0, aW0, aR1, aW1, aR2, aW2, aR3, aW3, aR4, aW4, iI_inT, iI_lt, iI_le, iI_eq, lt_t, lt_f, le_t, le_f, eq_t, eq_f, bz_z, bz_o, bz_zo, bzT, bzF, n_em, zu_s, zu_n, not_true_eq_false, not_false_eq_true, and_self, true_and, and_true, false_and, and_false, true_or, or_true, false_or, or_false, or_self, Int.add_sub_cancel, n_0, n_1, n_2, n_3, n_4, n_5, n_6, n_7, n_8, n_9, n_10, n_11, n_12, n_13, n_14, n_15, n_16, n_17, n_18, n_19, n_20, n_21, n_22, n_23, n_24, n_25, n_26, n_27, n_28, n_29, n_30, n_31, n_32, n_33, n_34, n_35, n_36, n_37, n_40, n_44, n_48, n_50, n_57, n_58, n_60, n_65, n_66, n_67, n_68, n_69, n_70, n_71, n_73, n_77, n_80, n_83, n_97, n_98, n_99, n_100, n_101, n_102, n_103, n_104, n_105, n_106, n_107, n_108, n_109, n_110, n_111, n_112, n_113, n_114, n_115, n_116, n_117, n_118, n_120, n_121, n_122, n_180, n_255, n_539, n_600, n_616, n_1200, n_2000, n_3600, n_8400, n_65536, xq1_xq1, xq1_xq2, xq1_xq3, xq2_xq1, xq2_xq2, xq2_xq3, xq3_xq1, xq3_xq2, xq3_xq3]
    exact ⟨_, _, _, _, rfl, ⟨G, v1, v2, v3⟩, ⟨h, ch, u1, u2, u3⟩, Or.inl ⟨rfl, rfl⟩, i4, i5, i6, i7⟩
  · obtain ⟨V2, x3, x4⟩ := RV_cpy x.1.1 s5 s4
    unfold q_vcp at x3
    obtain ⟨q, y1, y2⟩ := q_bdi x3
    have y2 := Option.some.inj y2
    have hcy := z_copy (A := S) (B := G) (nx := 77) (ny := 77) (p := 0) (q := 0) (by omega) (by omega)
    have hgg : ∀ t, 0 ≤ t → t < 77 → (fun t => if 0 ≤ t ∧ t < 0 + 77 then S (0 + (t - 0)) else G t) t = S t := fun t t0 t1 => by
      show (if 0 ≤ t ∧ t < 0 + 77 then S (0 + (t - 0)) else G t) = S t
      rw [if_pos (by omega), show 0 + (t - 0) = t by omega]
    obtain ⟨c, q1, q2, q3, q4, q5⟩ := id u3
    rw [s1, s2, s3, v1]
    simp (disch := omega) only [↓q_brd, ↓q_gdd, ↓q_lts, ↓reduceIte, ↓q_bds, ↓zq_smi, ↓zq_smr, iI_add, iI_sub, iI_mul, iI_neg, iI_ab3, iI_div, z_emod, aI_rd, aI_wr, aR0, aW0, aR1, aW1, aR2, aW2, aR3, aW3, aR4, aW4, iI_inT, iI_lt, iI_le, iI_eq, lt_t, lt_f, le_t, le_f, eq_t, eq_f, bz_z, bz_o, bz_zo, bzT, bzF, n_em, zu_s, zu_n, not_true_eq_false, not_false_eq_true, and_self, true_and, and_true, false_and, and_false, true_or, or_true, false_or, or_false, or_self, Int.add_sub_cancel, n_0, n_1, n_2, n_3, n_4, n_5, n_6, n_7, n_8, n_9, n_10, n_11, n_12, n_13, n_14, n_15, n_16, n_17, n_18, n_19, n_20, n_21, n_22, n_23, n_24, n_25, n_26, n_27, n_28, n_29, n_30, n_31, n_32, n_33, n_34, n_35, n_36, n_37, n_40, n_44, n_48, n_50, n_57, n_58, n_60, n_65, n_66, n_67, n_68, n_69, n_70, n_71, n_73, n_77, n_80, n_83, n_97, n_98, n_99, n_100, n_101, n_102, n_103, n_104, n_105, n_106, n_107, n_108, n_109, n_110, n_111, n_112, n_113, n_114, n_115, n_116, n_117, n_118, n_120, n_121, n_122, n_180, n_255, n_539, n_600, n_616, n_1200, n_2000, n_3600, n_8400, n_65536, y1, hcy, f_X5_forget]
    refine ⟨_, _, _, _, rfl, ⟨_, rfl, ?_, VOk_cong hgg s5⟩, ⟨h, 0, u1, rfl, ⟨c, q1, q2, rfl, by omega, fun j j0 j1 => by omega⟩⟩, Or.inr ⟨rfl, rfl, ⟨S, rfl, s4, s5⟩⟩, i4, i5, i6, i7⟩
    refine RV_cong hgg s5 ?_
    rw [← y2] at x4
    exact x4
