def wz (r : Bool × z_Q) : Int := if r.1 = true then 0 else 1
theorem zs_let {t : Int → Int} {n c : Int} {q : z_Q} (h : 97 ≤ c) : zs t n c q = if zh t n q.1 = c then (true, (q.1 + 1, q.2.1, q.2.2.1, q.2.2.2)) else (false, q) := by
  unfold zs
  rw [if_neg (by omega), if_neg (by omega), if_neg (by omega), if_neg (by omega), if_neg (by omega)]
theorem zs_32 {t : Int → Int} {n : Int} {q : z_Q} : zs t n 32 q = if zh t n q.1 = 32 then (true, (q.1 + 1, q.2.1 + 1, 1, zva q.2.1 0 q.2.2.2)) else (false, q) := by
  unfold zs
  rw [if_pos rfl]
theorem zs_35 {t : Int → Int} {n : Int} {q : z_Q} : zs t n 35 q = if 48 ≤ zh t n q.1 ∧ zh t n q.1 ≤ 57 then (true, (q.1 + 1, q.2.1, q.2.2.1, zvd q.2.1 q.2.2.1 (zh t n q.1) q.2.2.2)) else (false, q) := by
  unfold zs
  rw [if_neg (by decide), if_pos rfl]
theorem zs_63 {t : Int → Int} {n : Int} {q : z_Q} : zs t n 63 q = if 48 ≤ zh t n q.1 ∧ zh t n q.1 ≤ 57 then (true, (q.1 + 1, q.2.1, q.2.2.1, zvd q.2.1 q.2.2.1 (zh t n q.1) q.2.2.2)) else (true, q) := by
  unfold zs
  rw [if_neg (by decide), if_neg (by decide), if_pos rfl]
theorem zs_77 {t : Int → Int} {n : Int} {q : z_Q} : zs t n 77 q = if zh t n q.1 = 77 then (true, (q.1 + 1, q.2.1 + 1, 1, zva q.2.1 0 q.2.2.2)) else if zh t n q.1 = 109 then (true, (q.1 + 1, q.2.1 + 1, 1, zva q.2.1 1 q.2.2.2)) else (false, q) := by
  unfold zs
  rw [if_neg (by decide), if_neg (by decide), if_neg (by decide), if_pos rfl]
theorem zs_83 {t : Int → Int} {n : Int} {q : z_Q} : zs t n 83 q = if zh t n q.1 = 43 then (true, (q.1 + 1, q.2.1 + 1, 1, zva q.2.1 0 q.2.2.2)) else if zh t n q.1 = 45 then (true, (q.1 + 1, q.2.1 + 1, -1, zva q.2.1 0 q.2.2.2)) else (false, q) := by
  unfold zs
  rw [if_neg (by decide), if_neg (by decide), if_neg (by decide), if_neg (by decide), if_pos rfl]
theorem zr_t {t : Int → Int} {n c : Int} {cs : List Int} {q : z_Q} : zr t n (c :: cs) (true, q) = zr t n cs (zs t n c q) := rfl
theorem zr_nil {t : Int → Int} {n : Int} {r : Bool × z_Q} : zr t n [] r = r := rfl
theorem zm_here {t : Int → Int} {n p : Int} (h : 0 ≤ p ∧ n ≤ 60 ∧ p ≤ 1000) (hn : 0 ≤ n) : f_X11_here (aI t) (iI n) (iI p) = some (iI (zh t n p)) := by
  unfold f_X11_here zh
  by_cases c : p < n
  · rw [if_pos c]
    simp (disch := omega) only [↓q_brd, ↓q_gdd, ↓q_lts, ↓reduceIte, ↓q_bds, ↓zq_smi, ↓zq_smr, iI_add, iI_sub, iI_mul, iI_neg, iI_ab3, iI_div, z_emod, aI_rd, aI_wr, aR0, aW0, aR1, aW1, aR2, aW2, aR3, aW3, aR4, aW4, iI_inT, iI_lt, iI_le, iI_eq, lt_t, lt_f, le_t, le_f, eq_t, eq_f, bz_z, bz_o, bz_zo, bzT, bzF, n_em, zu_s, zu_n, not_true_eq_false, not_false_eq_true, and_self, true_and, and_true, false_and, and_false, true_or, or_true, false_or, or_false, or_self, Int.add_sub_cancel, n_0, n_1, n_2, n_3, n_4, n_5, n_6, n_7, n_8, n_9, n_10, n_11, n_12, n_13, n_14, n_15, n_16, n_17, n_18, n_19, n_20, n_21, n_22, n_23, n_24, n_25, n_26, n_27, n_28, n_29, n_30, n_31, n_32, n_33, n_34, n_35, n_36, n_37, n_40, n_44, n_48, n_50, n_57, n_58, n_60, n_65, n_66, n_67, n_68, n_69, n_70, n_71, n_73, n_77, n_80, n_83, n_97, n_98, n_99, n_100, n_101, n_102, n_103, n_104, n_105, n_106, n_107, n_108, n_109, n_110, n_111, n_112, n_113, n_114, n_115, n_116, n_117, n_118, n_120, n_121, n_122, n_180, n_255, n_539, n_600, n_616, n_1200, n_2000, n_3600, n_8400, n_65536]
  · rw [if_neg c]
    simp (disch := omega) only [↓q_brd, ↓q_gdd, ↓q_lts, ↓reduceIte, ↓q_bds, ↓zq_smi, ↓zq_smr, iI_add, iI_sub, iI_mul, iI_neg, iI_ab3, iI_div, z_emod, aI_rd, aI_wr, aR0, aW0, aR1, aW1, aR2, aW2, aR3, aW3, aR4, aW4, iI_inT, iI_lt, iI_le, iI_eq, lt_t, lt_f, le_t, le_f, eq_t, eq_f, bz_z, bz_o, bz_zo, bzT, bzF, n_em, zu_s, zu_n, not_true_eq_false, not_false_eq_true, and_self, true_and, and_true, false_and, and_false, true_or, or_true, false_or, or_false, or_self, Int.add_sub_cancel, n_0, n_1, n_2, n_3, n_4, n_5, n_6, n_7, n_8, n_9, n_10, n_11, n_12, n_13, n_14, n_15, n_16, n_17, n_18, n_19, n_20, n_21, n_22, n_23, n_24, n_25, n_26, n_27, n_28, n_29, n_30, n_31, n_32, n_33, n_34, n_35, n_36, n_37, n_40, n_44, n_48, n_50, n_57, n_58, n_60, n_65, n_66, n_67, n_68, n_69, n_70, n_71, n_73, n_77, n_80, n_83, n_97, n_98, n_99, n_100, n_101, n_102, n_103, n_104, n_105, n_106, n_107, n_108, n_109, n_110, n_111, n_112, n_113, n_114, n_115, n_116, n_117, n_118, n_120, n_121, n_122, n_180, n_255, n_539, n_600, n_616, n_1200, n_2000, n_3600, n_8400, n_65536]
theorem zh_rng {t : Int → Int} {n : Int} (ht : ∀ k, 0 ≤ k → k < n → 0 ≤ t k ∧ t k < 65536) {p : Int} (h : 0 ≤ p) : -1 ≤ zh t n p ∧ zh t n p < 65536 := by
  unfold zh
  by_cases c : p < n
  · rw [if_pos c]
    have := ht p h c
    omega
  · rw [if_neg c]
    omega
theorem zm_n0 {t : Int → Int} {n p c : Int} (h : 0 ≤ p ∧ n ≤ 60 ∧ p ≤ 1000) (hn : 0 ≤ n) (ht : ∀ k, 0 ≤ k → k < n → 0 ≤ t k ∧ t k < 65536) (hc : 0 ≤ c ∧ c < 65536) : f_X11_needs (aI t) (iI n) (iI p) (iI 0) (iI c) = if zh t n p = c then some (iI (p + 1), iI 0) else some (iI p, iI 1) := by
  have e := zm_here (t := t) h hn
  have e2 := zh_rng ht h.1
  unfold f_X11_needs
  by_cases d : zh t n p = c
  · rw [if_pos d]
    simp (disch := omega) only [↓q_brd, ↓q_gdd, ↓q_lts, ↓reduceIte, ↓q_bds, ↓zq_smi, ↓zq_smr, iI_add, iI_sub, iI_mul, iI_neg, iI_ab3, iI_div, z_emod, aI_rd, aI_wr, aR0, aW0, aR1, aW1, aR2, aW2, aR3, aW3, aR4, aW4, iI_inT, iI_lt, iI_le, iI_eq, lt_t, lt_f, le_t, le_f, eq_t, eq_f, bz_z, bz_o, bz_zo, bzT, bzF, n_em, zu_s, zu_n, not_true_eq_false, not_false_eq_true, and_self, true_and, and_true, false_and, and_false, true_or, or_true, false_or, or_false, or_self, Int.add_sub_cancel, n_0, n_1, n_2, n_3, n_4, n_5, n_6, n_7, n_8, n_9, n_10, n_11, n_12, n_13, n_14, n_15, n_16, n_17, n_18, n_19, n_20, n_21, n_22, n_23, n_24, n_25, n_26, n_27, n_28, n_29, n_30, n_31, n_32, n_33, n_34, n_35, n_36, n_37, n_40, n_44, n_48, n_50, n_57, n_58, n_60, n_65, n_66, n_67, n_68, n_69, n_70, n_71, n_73, n_77, n_80, n_83, n_97, n_98, n_99, n_100, n_101, n_102, n_103, n_104, n_105, n_106, n_107, n_108, n_109, n_110, n_111, n_112, n_113, n_114, n_115, n_116, n_117, n_118, n_120, n_121, n_122, n_180, n_255, n_539, n_600, n_616, n_1200, n_2000, n_3600, n_8400, n_65536, e, zt_01]
  · rw [if_neg d]
    simp (disch := omega) only [↓q_brd, ↓q_gdd, ↓q_lts, ↓reduceIte, ↓q_bds, ↓zq_smi, ↓zq_smr, iI_add, iI_sub, iI_mul, iI_neg, iI_ab3, iI_div, z_emod, aI_rd, aI_wr, aR0, aW0, aR1, aW1, aR2, aW2, aR3, aW3, aR4, aW4, iI_inT, iI_lt, iI_le, iI_eq, lt_t, lt_f, le_t, le_f, eq_t, eq_f, bz_z, bz_o, bz_zo, bzT, bzF, n_em, zu_s, zu_n, not_true_eq_false, not_false_eq_true, and_self, true_and, and_true, false_and, and_false, true_or, or_true, false_or, or_false, or_self, Int.add_sub_cancel, n_0, n_1, n_2, n_3, n_4, n_5, n_6, n_7, n_8, n_9, n_10, n_11, n_12, n_13, n_14, n_15, n_16, n_17, n_18, n_19, n_20, n_21, n_22, n_23, n_24, n_25, n_26, n_27, n_28, n_29, n_30, n_31, n_32, n_33, n_34, n_35, n_36, n_37, n_40, n_44, n_48, n_50, n_57, n_58, n_60, n_65, n_66, n_67, n_68, n_69, n_70, n_71, n_73, n_77, n_80, n_83, n_97, n_98, n_99, n_100, n_101, n_102, n_103, n_104, n_105, n_106, n_107, n_108, n_109, n_110, n_111, n_112, n_113, n_114, n_115, n_116, n_117, n_118, n_120, n_121, n_122, n_180, n_255, n_539, n_600, n_616, n_1200, n_2000, n_3600, n_8400, n_65536, e, zt_11, Int.add_zero]
theorem zm_n1 {t : Int → Int} {n p c : Int} : f_X11_needs (aI t) (iI n) (iI p) (iI 1) (iI c) = some (iI p, iI 1) := by
  unfold f_X11_needs
  simp (disch := omega) only [↓q_brd, ↓q_gdd, ↓q_lts, ↓reduceIte, ↓q_bds, ↓zq_smi, ↓zq_smr, iI_add, iI_sub, iI_mul, iI_neg, iI_ab3, iI_div, z_emod, aI_rd, aI_wr, aR0, aW0, aR1, aW1, aR2, aW2, aR3, aW3, aR4, aW4, iI_inT, iI_lt, iI_le, iI_eq, lt_t, lt_f, le_t, le_f, eq_t, eq_f, bz_z, bz_o, bz_zo, bzT, bzF, n_em, zu_s, zu_n, not_true_eq_false, not_false_eq_true, and_self, true_and, and_true, false_and, and_false, true_or, or_true, false_or, or_false, or_self, Int.add_sub_cancel, n_0, n_1, n_2, n_3, n_4, n_5, n_6, n_7, n_8, n_9, n_10, n_11, n_12, n_13, n_14, n_15, n_16, n_17, n_18, n_19, n_20, n_21, n_22, n_23, n_24, n_25, n_26, n_27, n_28, n_29, n_30, n_31, n_32, n_33, n_34, n_35, n_36, n_37, n_40, n_44, n_48, n_50, n_57, n_58, n_60, n_65, n_66, n_67, n_68, n_69, n_70, n_71, n_73, n_77, n_80, n_83, n_97, n_98, n_99, n_100, n_101, n_102, n_103, n_104, n_105, n_106, n_107, n_108, n_109, n_110, n_111, n_112, n_113, n_114, n_115, n_116, n_117, n_118, n_120, n_121, n_122, n_180, n_255, n_539, n_600, n_616, n_1200, n_2000, n_3600, n_8400, n_65536, zt_11, Int.add_zero]
theorem zm_needs {t : Int → Int} {n c : Int} {r : Bool × z_Q} (h : 0 ≤ r.2.1 ∧ r.2.1 ≤ n ∧ n ≤ 60) (ht : ∀ k, 0 ≤ k → k < n → 0 ≤ t k ∧ t k < 65536) (hc : 97 ≤ c ∧ c ≤ 122) : f_X11_needs (aI t) (iI n) (iI r.2.1) (iI (wz r)) (iI c) = some (iI (zr t n [c] r).2.1, iI (wz (zr t n [c] r))) := by
  obtain ⟨b, q⟩ := r
  cases b
  · exact zm_n1
  · show f_X11_needs (aI t) (iI n) (iI q.1) (iI 0) (iI c) = _
    simp only at h
    rw [zm_n0 (by omega) (by omega) ht (by omega), zr_t, zs_let hc.1]
    by_cases d : zh t n q.1 = c
    · rw [if_pos d, if_pos d]; rfl
    · rw [if_neg d, if_neg d]; rfl
theorem zm_L5s {t : Int → Int} {n w m i v p : Int} {K : Int32 → Int32 → Int32 → Option (Int32 × Int32 × Int32)} {fl : Nat} (h : 0 ≤ p ∧ n ≤ 60 ∧ p ≤ 1000) (hn : 0 ≤ n) (ht : ∀ k, 0 ≤ k → k < n → 0 ≤ t k ∧ t k < 65536) (hw : w = 0 ∨ w = 1) (hi : 0 ≤ i ∧ i ≤ 100 ∧ 0 ≤ m ∧ m ≤ 100) (hs : w = 1 ∨ m ≤ i ∨ ¬ (48 ≤ zh t n p ∧ zh t n p ≤ 57)) : f_X11_digits_L5 (aI t) (iI n) (iI w) (iI m) K (fl + 1) (iI i) (iI v) (iI p) = K (iI i) (iI v) (iI p) := by
  have e := zm_here (t := t) h hn
  have e2 := zh_rng ht h.1
  unfold f_X11_digits_L5
  by_cases c1 : w = 1
  · simp (disch := omega) only [↓q_brd, ↓q_gdd, ↓q_lts, ↓reduceIte, ↓q_bds, ↓zq_smi, ↓zq_smr, iI_add, iI_sub, iI_mul, iI_neg, iI_ab3, iI_div, z_emod, aI_rd, aI_wr, aR0, aW0, aR1, aW1, aR2, aW2, aR3, aW3, aR4, aW4, iI_inT, iI_lt, iI_le, iI_eq, lt_t, lt_f, le_t, le_f, eq_t, eq_f, bz_z, bz_o, bz_zo, bzT, bzF, n_em, zu_s, zu_n, not_true_eq_false, not_false_eq_true, and_self, true_and, and_true, false_and, and_false, true_or, or_true, false_or, or_false, or_self, Int.add_sub_cancel, n_0, n_1, n_2, n_3, n_4, n_5, n_6, n_7, n_8, n_9, n_10, n_11, n_12, n_13, n_14, n_15, n_16, n_17, n_18, n_19, n_20, n_21, n_22, n_23, n_24, n_25, n_26, n_27, n_28, n_29, n_30, n_31, n_32, n_33, n_34, n_35, n_36, n_37, n_40, n_44, n_48, n_50, n_57, n_58, n_60, n_65, n_66, n_67, n_68, n_69, n_70, n_71, n_73, n_77, n_80, n_83, n_97, n_98, n_99, n_100, n_101, n_102, n_103, n_104, n_105, n_106, n_107, n_108, n_109, n_110, n_111, n_112, n_113, n_114, n_115, n_116, n_117, n_118, n_120, n_121, n_122, n_180, n_255, n_539, n_600, n_616, n_1200, n_2000, n_3600, n_8400, n_65536]
  · by_cases c2 : m ≤ i
    · simp (disch := omega) only [↓q_brd, ↓q_gdd, ↓q_lts, ↓reduceIte, ↓q_bds, ↓zq_smi, ↓zq_smr, iI_add, iI_sub, iI_mul, iI_neg, iI_ab3, iI_div, z_emod, aI_rd, aI_wr, aR0, aW0, aR1, aW1, aR2, aW2, aR3, aW3, aR4, aW4, iI_inT, iI_lt, iI_le, iI_eq, lt_t, lt_f, le_t, le_f, eq_t, eq_f, bz_z, bz_o, bz_zo, bzT, bzF, n_em, zu_s, zu_n, not_true_eq_false, not_false_eq_true, and_self, true_and, and_true, false_and, and_false, true_or, or_true, false_or, or_false, or_self, Int.add_sub_cancel, n_0, n_1, n_2, n_3, n_4, n_5, n_6, n_7, n_8, n_9, n_10, n_11, n_12, n_13, n_14, n_15, n_16, n_17, n_18, n_19, n_20, n_21, n_22, n_23, n_24, n_25, n_26, n_27, n_28, n_29, n_30, n_31, n_32, n_33, n_34, n_35, n_36, n_37, n_40, n_44, n_48, n_50, n_57, n_58, n_60, n_65, n_66, n_67, n_68, n_69, n_70, n_71, n_73, n_77, n_80, n_83, n_97, n_98, n_99, n_100, n_101, n_102, n_103, n_104, n_105, n_106, n_107, n_108, n_109, n_110, n_111, n_112, n_113, n_114, n_115, n_116, n_117, n_118, n_120, n_121, n_122, n_180, n_255, n_539, n_600, n_616, n_1200, n_2000, n_3600, n_8400, n_65536]
    · have c3 : ¬ (48 ≤ zh t n p ∧ zh t n p ≤ 57) := by omega
      simp (disch := omega) only [↓q_brd, ↓q_gdd, ↓q_lts, ↓reduceIte, ↓q_bds, ↓zq_smi, ↓zq_smr, iI_add, iI_sub, iI_mul, iI_neg, iI_ab3, iI_div, z_emod, aI_rd, aI_wr, aR0, aW0, aR1, aW1, aR2, aW2, aR3, aW3, aR4, aW4, iI_inT, iI_lt, iI_le, iI_eq, lt_t, lt_f, le_t, le_f, eq_t, eq_f, bz_z, bz_o, bz_zo, bzT, bzF, n_em, zu_s, zu_n, not_true_eq_false, not_false_eq_true, and_self, true_and, and_true, false_and, and_false, true_or, or_true, false_or, or_false, or_self, Int.add_sub_cancel, n_0, n_1, n_2, n_3, n_4, n_5, n_6, n_7, n_8, n_9, n_10, n_11, n_12, n_13, n_14, n_15, n_16, n_17, n_18, n_19, n_20, n_21, n_22, n_23, n_24, n_25, n_26, n_27, n_28, n_29, n_30, n_31, n_32, n_33, n_34, n_35, n_36, n_37, n_40, n_44, n_48, n_50, n_57, n_58, n_60, n_65, n_66, n_67, n_68, n_69, n_70, n_71, n_73, n_77, n_80, n_83, n_97, n_98, n_99, n_100, n_101, n_102, n_103, n_104, n_105, n_106, n_107, n_108, n_109, n_110, n_111, n_112, n_113, n_114, n_115, n_116, n_117, n_118, n_120, n_121, n_122, n_180, n_255, n_539, n_600, n_616, n_1200, n_2000, n_3600, n_8400, n_65536, e, z_in, c3]
theorem zm_L5g {t : Int → Int} {n m i v p : Int} {K : Int32 → Int32 → Int32 → Option (Int32 × Int32 × Int32)} {fl : Nat} (h : 0 ≤ p ∧ n ≤ 60 ∧ p ≤ 1000) (hn : 0 ≤ n) (hi : 0 ≤ i ∧ i ≤ 100 ∧ 0 ≤ m ∧ m ≤ 100) (hs : i < m ∧ 48 ≤ zh t n p ∧ zh t n p ≤ 57) : f_X11_digits_L5 (aI t) (iI n) (iI 0) (iI m) K (fl + 1) (iI i) (iI v) (iI p) = f_X11_digits_L5 (aI t) (iI n) (iI 0) (iI m) K fl (iI (i + 1)) (iI (10 * v + zh t n p - 48)) (iI (p + 1)) := by
  have e := zm_here (t := t) h hn
  conv => lhs; unfold f_X11_digits_L5
  simp (disch := omega) only [↓q_brd, ↓q_gdd, ↓q_lts, ↓reduceIte, ↓q_bds, ↓zq_smi, ↓zq_smr, iI_add, iI_sub, iI_mul, iI_neg, iI_ab3, iI_div, z_emod, aI_rd, aI_wr, aR0, aW0, aR1, aW1, aR2, aW2, aR3, aW3, aR4, aW4, iI_inT, iI_lt, iI_le, iI_eq, lt_t, lt_f, le_t, le_f, eq_t, eq_f, bz_z, bz_o, bz_zo, bzT, bzF, n_em, zu_s, zu_n, not_true_eq_false, not_false_eq_true, and_self, true_and, and_true, false_and, and_false, true_or, or_true, false_or, or_false, or_self, Int.add_sub_cancel, n_0, n_1, n_2, n_3, n_4, n_5, n_6, n_7, n_8, n_9, n_10, n_11, n_12, n_13, n_14, n_15, n_16, n_17, n_18, n_19, n_20, n_21, n_22, n_23, n_24, n_25, n_26, n_27, n_28, n_29, n_30, n_31, n_32, n_33, n_34, n_35, n_36, n_37, n_40, n_44, n_48, n_50, n_57, n_58, n_60, n_65, n_66, n_67, n_68, n_69, n_70, n_71, n_73, n_77, n_80, n_83, n_97, n_98, n_99, n_100, n_101, n_102, n_103, n_104, n_105, n_106, n_107, n_108, n_109, n_110, n_111, n_112, n_113, n_114, n_115, n_116, n_117, n_118, n_120, n_121, n_122, n_180, n_255, n_539, n_600, n_616, n_1200, n_2000, n_3600, n_8400, n_65536, e, z_in]
/-- the value that the reference reads, beside the values that the class keeps -/
def zvl (r r' : Bool × z_Q) (val : Int) : Prop := r'.1 = true → r'.2.2.1 = r.2.2.1 ∧ r'.2.2.2.1 = r.2.2.2.1 ∧ r'.2.2.2.2 r.2.2.1 = r.2.2.2.1 * val ∧ ∀ j, j ≠ r.2.2.1 → r'.2.2.2.2 j = r.2.2.2.2 j
def zok (r : Bool × z_Q) : Prop := r.1 = true → (0 ≤ r.2.2.1 ∧ r.2.2.1 ≤ 1) ∧ (r.2.2.2.1 = 1 ∨ r.2.2.2.1 = -1) ∧ r.2.2.2.2 r.2.2.1 = 0
theorem zvd_g {g s x : Int} {v : Int → Int} (h : 0 ≤ g ∧ g ≤ 1) : zvd g s x v g = 10 * v g + s * (x - 48) := by
  unfold zvd
  rw [if_pos h, zu_s rfl]
theorem zvd_n {g s x j : Int} {v : Int → Int} (h : j ≠ g) : zvd g s x v j = v j := by
  unfold zvd
  split
  · rw [zu_n h]
  · rfl
theorem zm_dno {t : Int → Int} {n : Int} {q : z_Q} (ds : List Int) (h : 0 ≤ q.1 ∧ q.1 ≤ n ∧ n ≤ 60) (ht : ∀ k, 0 ≤ k → k < n → 0 ≤ t k ∧ t k < 65536) {l m : Int} (hl : 0 ≤ l ∧ l ≤ 100 ∧ 0 ≤ m ∧ m ≤ 100) : f_X11_digits (aI t) (iI n) (iI q.1) (iI 1) (iI l) (iI m) = some (iI 0, iI (zr t n ds (false, q)).2.1, iI (wz (zr t n ds (false, q)))) := by
  rw [zr_no]
  unfold f_X11_digits
  rw [show (0 : Int32) = iI 0 from rfl]
  have e := fun K => zm_L5s (t := t) (n := n) (w := 1) (m := m) (i := 0) (v := 0) (p := q.1) (K := K) (fl := 1999) (by omega) (by omega) ht (Or.inr rfl) (by omega) (Or.inl rfl)
  refine Eq.trans (e _) ?_
  simp (disch := omega) only [↓q_brd, ↓q_gdd, ↓q_lts, ↓reduceIte, ↓q_bds, ↓zq_smi, ↓zq_smr, iI_add, iI_sub, iI_mul, iI_neg, iI_ab3, iI_div, z_emod, aI_rd, aI_wr, aR0, aW0, aR1, aW1, aR2, aW2, aR3, aW3, aR4, aW4, iI_inT, iI_lt, iI_le, iI_eq, lt_t, lt_f, le_t, le_f, eq_t, eq_f, bz_z, bz_o, bz_zo, bzT, bzF, n_em, zu_s, zu_n, not_true_eq_false, not_false_eq_true, and_self, true_and, and_true, false_and, and_false, true_or, or_true, false_or, or_false, or_self, Int.add_sub_cancel, n_0, n_1, n_2, n_3, n_4, n_5, n_6, n_7, n_8, n_9, n_10, n_11, n_12, n_13, n_14, n_15, n_16, n_17, n_18, n_19, n_20, n_21, n_22, n_23, n_24, n_25, n_26, n_27, n_28, n_29, n_30, n_31, n_32, n_33, n_34, n_35, n_36, n_37, n_40, n_44, n_48, n_50, n_57, n_58, n_60, n_65, n_66, n_67, n_68, n_69, n_70, n_71, n_73, n_77, n_80, n_83, n_97, n_98, n_99, n_100, n_101, n_102, n_103, n_104, n_105, n_106, n_107, n_108, n_109, n_110, n_111, n_112, n_113, n_114, n_115, n_116, n_117, n_118, n_120, n_121, n_122, n_180, n_255, n_539, n_600, n_616, n_1200, n_2000, n_3600, n_8400, n_65536, zt_11]
  rfl
theorem zm_d1 {t : Int → Int} {n : Int} {q : z_Q} (h : 0 ≤ q.1 ∧ q.1 ≤ n ∧ n ≤ 60) (ht : ∀ k, 0 ≤ k → k < n → 0 ≤ t k ∧ t k < 65536) (hq : zok (true, q)) : ∃ val, f_X11_digits (aI t) (iI n) (iI q.1) (iI 0) (iI 1) (iI 1) = some (iI val, iI (zr t n [35] (true, q)).2.1, iI (wz (zr t n [35] (true, q)))) ∧ zvl (true, q) (zr t n [35] (true, q)) val := by
  obtain ⟨q1, q2, q3⟩ := hq rfl
  simp only at q1 q2 q3
  rw [zr_t, zs_35, zr_nil]
  by_cases c : 48 ≤ zh t n q.1 ∧ zh t n q.1 ≤ 57
  · rw [if_pos c]
    have e1 := fun K => zm_L5g (t := t) (n := n) (m := 1) (i := 0) (v := 0) (p := q.1) (K := K) (fl := 1999) (by omega) (by omega) (by omega) (by omega)
    have e2 := fun K => zm_L5s (t := t) (n := n) (w := 0) (m := 1) (i := 0 + 1) (v := 10 * 0 + zh t n q.1 - 48) (p := q.1 + 1) (K := K) (fl := 1998) (by omega) (by omega) ht (Or.inl rfl) (by omega) (Or.inr (Or.inl (by omega)))
    refine ⟨10 * 0 + zh t n q.1 - 48, ?_, fun _ => ⟨rfl, rfl, ?_, fun j hj => zvd_n hj⟩⟩
    · unfold f_X11_digits
      rw [show (0 : Int32) = iI 0 from rfl]
      refine Eq.trans (e1 _) (Eq.trans (e2 _) ?_)
      simp (disch := omega) only [↓q_brd, ↓q_gdd, ↓q_lts, ↓reduceIte, ↓q_bds, ↓zq_smi, ↓zq_smr, iI_add, iI_sub, iI_mul, iI_neg, iI_ab3, iI_div, z_emod, aI_rd, aI_wr, aR0, aW0, aR1, aW1, aR2, aW2, aR3, aW3, aR4, aW4, iI_inT, iI_lt, iI_le, iI_eq, lt_t, lt_f, le_t, le_f, eq_t, eq_f, bz_z, bz_o, bz_zo, bzT, bzF, n_em, zu_s, zu_n, not_true_eq_false, not_false_eq_true, and_self, true_and, and_true, false_and, and_false, true_or, or_true, false_or, or_false, or_self, Int.add_sub_cancel, n_0, n_1, n_2, n_3, n_4, n_5, n_6, n_7, n_8, n_9, n_10, n_11, n_12, n_13, n_14, n_15, n_16, n_17, n_18, n_19, n_20, n_21, n_22, n_23, n_24, n_25, n_26, n_27, n_28, n_29, n_30, n_31, n_32, n_33, n_34, n_35, n_36, n_37, n_40, n_44, n_48, n_50, n_57, n_58, n_60, n_65, n_66, n_67, n_68, n_69, n_70, n_71, n_73, n_77, n_80, n_83, n_97, n_98, n_99, n_100, n_101, n_102, n_103, n_104, n_105, n_106, n_107, n_108, n_109, n_110, n_111, n_112, n_113, n_114, n_115, n_116, n_117, n_118, n_120, n_121, n_122, n_180, n_255, n_539, n_600, n_616, n_1200, n_2000, n_3600, n_8400, n_65536, zt_01]
      rfl
    · show zvd q.2.1 q.2.2.1 (zh t n q.1) q.2.2.2 q.2.1 = q.2.2.1 * (10 * 0 + zh t n q.1 - 48)
      rw [zvd_g q1, q3]
      rcases q2 with e | e <;> rw [e] <;> omega
  · rw [if_neg c]
    have e2 := fun K => zm_L5s (t := t) (n := n) (w := 0) (m := 1) (i := 0) (v := 0) (p := q.1) (K := K) (fl := 1999) (by omega) (by omega) ht (Or.inl rfl) (by omega) (Or.inr (Or.inr c))
    refine ⟨0, ?_, fun h => Bool.noConfusion h⟩
    unfold f_X11_digits
    rw [show (0 : Int32) = iI 0 from rfl]
    refine Eq.trans (e2 _) ?_
    simp (disch := omega) only [↓q_brd, ↓q_gdd, ↓q_lts, ↓reduceIte, ↓q_bds, ↓zq_smi, ↓zq_smr, iI_add, iI_sub, iI_mul, iI_neg, iI_ab3, iI_div, z_emod, aI_rd, aI_wr, aR0, aW0, aR1, aW1, aR2, aW2, aR3, aW3, aR4, aW4, iI_inT, iI_lt, iI_le, iI_eq, lt_t, lt_f, le_t, le_f, eq_t, eq_f, bz_z, bz_o, bz_zo, bzT, bzF, n_em, zu_s, zu_n, not_true_eq_false, not_false_eq_true, and_self, true_and, and_true, false_and, and_false, true_or, or_true, false_or, or_false, or_self, Int.add_sub_cancel, n_0, n_1, n_2, n_3, n_4, n_5, n_6, n_7, n_8, n_9, n_10, n_11, n_12, n_13, n_14, n_15, n_16, n_17, n_18, n_19, n_20, n_21, n_22, n_23, n_24, n_25, n_26, n_27, n_28, n_29, n_30, n_31, n_32, n_33, n_34, n_35, n_36, n_37, n_40, n_44, n_48, n_50, n_57, n_58, n_60, n_65, n_66, n_67, n_68, n_69, n_70, n_71, n_73, n_77, n_80, n_83, n_97, n_98, n_99, n_100, n_101, n_102, n_103, n_104, n_105, n_106, n_107, n_108, n_109, n_110, n_111, n_112, n_113, n_114, n_115, n_116, n_117, n_118, n_120, n_121, n_122, n_180, n_255, n_539, n_600, n_616, n_1200, n_2000, n_3600, n_8400, n_65536, zt_11]
    rfl
theorem zm_d2 {t : Int → Int} {n : Int} {q : z_Q} (h : 0 ≤ q.1 ∧ q.1 ≤ n ∧ n ≤ 60) (ht : ∀ k, 0 ≤ k → k < n → 0 ≤ t k ∧ t k < 65536) (hq : zok (true, q)) : ∃ val, f_X11_digits (aI t) (iI n) (iI q.1) (iI 0) (iI 1) (iI 2) = some (iI val, iI (zr t n [35, 63] (true, q)).2.1, iI (wz (zr t n [35, 63] (true, q)))) ∧ zvl (true, q) (zr t n [35, 63] (true, q)) val := by
  obtain ⟨q1, q2, q3⟩ := hq rfl
  simp only at q1 q2 q3
  rw [zr_t, zs_35]
  by_cases c : 48 ≤ zh t n q.1 ∧ zh t n q.1 ≤ 57
  · rw [if_pos c, zr_t, zs_63, zr_nil]
    simp only
    have e1 := fun K => zm_L5g (t := t) (n := n) (m := 2) (i := 0) (v := 0) (p := q.1) (K := K) (fl := 1999) (by omega) (by omega) (by omega) (by omega)
    by_cases c2 : 48 ≤ zh t n (q.1 + 1) ∧ zh t n (q.1 + 1) ≤ 57
    · rw [if_pos c2]
      have e2 := fun K => zm_L5g (t := t) (n := n) (m := 2) (i := 0 + 1) (v := 10 * 0 + zh t n q.1 - 48) (p := q.1 + 1) (K := K) (fl := 1998) (by omega) (by omega) (by omega) (by omega)
      have e3 := fun K => zm_L5s (t := t) (n := n) (w := 0) (m := 2) (i := 0 + 1 + 1) (v := 10 * (10 * 0 + zh t n q.1 - 48) + zh t n (q.1 + 1) - 48) (p := q.1 + 1 + 1) (K := K) (fl := 1997) (by omega) (by omega) ht (Or.inl rfl) (by omega) (Or.inr (Or.inl (by omega)))
      refine ⟨10 * (10 * 0 + zh t n q.1 - 48) + zh t n (q.1 + 1) - 48, ?_, fun _ => ⟨rfl, rfl, ?_, fun j hj => ?_⟩⟩
      · unfold f_X11_digits
        rw [show (0 : Int32) = iI 0 from rfl]
        refine Eq.trans (e1 _) (Eq.trans (e2 _) (Eq.trans (e3 _) ?_))
        simp (disch := omega) only [↓q_brd, ↓q_gdd, ↓q_lts, ↓reduceIte, ↓q_bds, ↓zq_smi, ↓zq_smr, iI_add, iI_sub, iI_mul, iI_neg, iI_ab3, iI_div, z_emod, aI_rd, aI_wr, aR0, aW0, aR1, aW1, aR2, aW2, aR3, aW3, aR4, aW4, iI_inT, iI_lt, iI_le, iI_eq, lt_t, lt_f, le_t, le_f, eq_t, eq_f, bz_z, bz_o, bz_zo, bzT, bzF, n_em, zu_s, zu_n, not_true_eq_false, not_false_eq_true, and_self, true_and, and_true, false_and, and_false, true_or, or_true, false_or, or_false, or_self, Int.add_sub_cancel, n_0, n_1, n_2, n_3, n_4, n_5, n_6, n_7, n_8, n_9, n_10, n_11, n_12, n_13, n_14, n_15, n_16, n_17, n_18, n_19, n_20, n_21, n_22, n_23, n_24, n_25, n_26, n_27, n_28, n_29, n_30, n_31, n_32, n_33, n_34, n_35, n_36, n_37, n_40, n_44, n_48, n_50, n_57, n_58, n_60, n_65, n_66, n_67, n_68, n_69, n_70, n_71, n_73, n_77, n_80, n_83, n_97, n_98, n_99, n_100, n_101, n_102, n_103, n_104, n_105, n_106, n_107, n_108, n_109, n_110, n_111, n_112, n_113, n_114, n_115, n_116, n_117, n_118, n_120, n_121, n_122, n_180, n_255, n_539, n_600, n_616, n_1200, n_2000, n_3600, n_8400, n_65536, zt_01]
        rfl
      · show zvd q.2.1 q.2.2.1 (zh t n (q.1 + 1)) (zvd q.2.1 q.2.2.1 (zh t n q.1) q.2.2.2) q.2.1 = q.2.2.1 * (10 * (10 * 0 + zh t n q.1 - 48) + zh t n (q.1 + 1) - 48)
        rw [zvd_g q1, zvd_g q1, q3]
        rcases q2 with e | e <;> rw [e] <;> omega
      · show zvd q.2.1 q.2.2.1 (zh t n (q.1 + 1)) (zvd q.2.1 q.2.2.1 (zh t n q.1) q.2.2.2) j = q.2.2.2 j
        rw [zvd_n hj, zvd_n hj]
    · rw [if_neg c2]
      have e3 := fun K => zm_L5s (t := t) (n := n) (w := 0) (m := 2) (i := 0 + 1) (v := 10 * 0 + zh t n q.1 - 48) (p := q.1 + 1) (K := K) (fl := 1998) (by omega) (by omega) ht (Or.inl rfl) (by omega) (Or.inr (Or.inr c2))
      refine ⟨10 * 0 + zh t n q.1 - 48, ?_, fun _ => ⟨rfl, rfl, ?_, fun j hj => zvd_n hj⟩⟩
      · unfold f_X11_digits
        rw [show (0 : Int32) = iI 0 from rfl]
        refine Eq.trans (e1 _) (Eq.trans (e3 _) ?_)
        simp (disch := omega) only [↓q_brd, ↓q_gdd, ↓q_lts, ↓reduceIte, ↓q_bds, ↓zq_smi, ↓zq_smr, iI_add, iI_sub, iI_mul, iI_neg, iI_ab3, iI_div, z_emod, aI_rd, aI_wr, aR0, aW0, aR1, aW1, aR2, aW2, aR3, aW3, aR4, aW4, iI_inT, iI_lt, iI_le, iI_eq, lt_t, lt_f, le_t, le_f, eq_t, eq_f, bz_z, bz_o, bz_zo, bzT, bzF, n_em, zu_s, zu_n, not_true_eq_false, not_false_eq_true, and_self, true_and, and_true, false_and, and_false, true_or, or_true, false_or, or_false, or_self, Int.add_sub_cancel, n_0, n_1, n_2, n_3, n_4, n_5, n_6, n_7, n_8, n_9, n_10, n_11, n_12, n_13, n_14, n_15, n_16, n_17, n_18, n_19, n_20, n_21, n_22, n_23, n_24, n_25, n_26, n_27, n_28, n_29, n_30, n_31, n_32, n_33, n_34, n_35, n_36, n_37, n_40, n_44, n_48, n_50, n_57, n_58, n_60, n_65, n_66, n_67, n_68, n_69, n_70, n_71, n_73, n_77, n_80, n_83, n_97, n_98, n_99, n_100, n_101, n_102, n_103, n_104, n_105, n_106, n_107, n_108, n_109, n_110, n_111, n_112, n_113, n_114, n_115, n_116, n_117, n_118, n_120, n_121, n_122, n_180, n_255, n_539, n_600, n_616, n_1200, n_2000, n_3600, n_8400, n_65536, zt_01]
        rfl
      · show zvd q.2.1 q.2.2.1 (zh t n q.1) q.2.2.2 q.2.1 = q.2.2.1 * (10 * 0 + zh t n q.1 - 48)
        rw [zvd_g q1, q3]
        rcases q2 with e | e <;> rw [e] <;> omega
  · rw [if_neg c, zr_no]
    have e2 := fun K => zm_L5s (t := t) (n := n) (w := 0) (m := 2) (i := 0) (v := 0) (p := q.1) (K := K) (fl := 1999) (by omega) (by omega) ht (Or.inl rfl) (by omega) (Or.inr (Or.inr c))
    refine ⟨0, ?_, fun h => Bool.noConfusion h⟩
    unfold f_X11_digits
    rw [show (0 : Int32) = iI 0 from rfl]
    refine Eq.trans (e2 _) ?_
    simp (disch := omega) only [↓q_brd, ↓q_gdd, ↓q_lts, ↓reduceIte, ↓q_bds, ↓zq_smi, ↓zq_smr, iI_add, iI_sub, iI_mul, iI_neg, iI_ab3, iI_div, z_emod, aI_rd, aI_wr, aR0, aW0, aR1, aW1, aR2, aW2, aR3, aW3, aR4, aW4, iI_inT, iI_lt, iI_le, iI_eq, lt_t, lt_f, le_t, le_f, eq_t, eq_f, bz_z, bz_o, bz_zo, bzT, bzF, n_em, zu_s, zu_n, not_true_eq_false, not_false_eq_true, and_self, true_and, and_true, false_and, and_false, true_or, or_true, false_or, or_false, or_self, Int.add_sub_cancel, n_0, n_1, n_2, n_3, n_4, n_5, n_6, n_7, n_8, n_9, n_10, n_11, n_12, n_13, n_14, n_15, n_16, n_17, n_18, n_19, n_20, n_21, n_22, n_23, n_24, n_25, n_26, n_27, n_28, n_29, n_30, n_31, n_32, n_33, n_34, n_35, n_36, n_37, n_40, n_44, n_48, n_50, n_57, n_58, n_60, n_65, n_66, n_67, n_68, n_69, n_70, n_71, n_73, n_77, n_80, n_83, n_97, n_98, n_99, n_100, n_101, n_102, n_103, n_104, n_105, n_106, n_107, n_108, n_109, n_110, n_111, n_112, n_113, n_114, n_115, n_116, n_117, n_118, n_120, n_121, n_122, n_180, n_255, n_539, n_600, n_616, n_1200, n_2000, n_3600, n_8400, n_65536, zt_11]
    rfl
-- == mread2 ==
theorem zm_d4 {t : Int → Int} {n : Int} {q : z_Q} (h : 0 ≤ q.1 ∧ q.1 ≤ n ∧ n ≤ 60) (ht : ∀ k, 0 ≤ k → k < n → 0 ≤ t k ∧ t k < 65536) (hq : zok (true, q)) : ∃ val, f_X11_digits (aI t) (iI n) (iI q.1) (iI 0) (iI 4) (iI 4) = some (iI val, iI (zr t n [35, 35, 35, 35] (true, q)).2.1, iI (wz (zr t n [35, 35, 35, 35] (true, q)))) ∧ zvl (true, q) (zr t n [35, 35, 35, 35] (true, q)) val := by
  obtain ⟨q1, q2, q3⟩ := hq rfl
  simp only at q1 q2 q3
  rw [zr_t, zs_35]
  by_cases c0 : 48 ≤ zh t n q.1 ∧ zh t n q.1 ≤ 57
  · rw [if_pos c0]
    have a0 := fun K => zm_L5g (t := t) (n := n) (m := 4) (i := 0) (v := 0) (p := q.1) (K := K) (fl := 1999) (by omega) (by omega) (by omega) (by omega)
    have u0 : q.1 < n := by
      by_cases c : q.1 < n
      · exact c
      · rw [show zh t n q.1 = -1 from if_neg c] at c0; omega
    rw [zr_t, zs_35]
    simp only
    by_cases c1 : 48 ≤ zh t n (q.1 + 1) ∧ zh t n (q.1 + 1) ≤ 57
    · rw [if_pos c1]
      have a1 := fun K => zm_L5g (t := t) (n := n) (m := 4) (i := 0 + 1) (v := 10 * 0 + zh t n q.1 - 48) (p := q.1 + 1) (K := K) (fl := 1998) (by omega) (by omega) (by omega) (by omega)
      have u1 : q.1 + 1 < n := by
        by_cases c : q.1 + 1 < n
        · exact c
        · rw [show zh t n (q.1 + 1) = -1 from if_neg c] at c1; omega
      rw [zr_t, zs_35]
      simp only
      by_cases c2 : 48 ≤ zh t n (q.1 + 1 + 1) ∧ zh t n (q.1 + 1 + 1) ≤ 57
      · rw [if_pos c2]
        have a2 := fun K => zm_L5g (t := t) (n := n) (m := 4) (i := 0 + 1 + 1) (v := 10 * (10 * 0 + zh t n q.1 - 48) + zh t n (q.1 + 1) - 48) (p := q.1 + 1 + 1) (K := K) (fl := 1997) (by omega) (by omega) (by omega) (by omega)
        have u2 : q.1 + 1 + 1 < n := by
          by_cases c : q.1 + 1 + 1 < n
          · exact c
          · rw [show zh t n (q.1 + 1 + 1) = -1 from if_neg c] at c2; omega
        rw [zr_t, zs_35]
        simp only
        by_cases c3 : 48 ≤ zh t n (q.1 + 1 + 1 + 1) ∧ zh t n (q.1 + 1 + 1 + 1) ≤ 57
        · rw [if_pos c3]
          have a3 := fun K => zm_L5g (t := t) (n := n) (m := 4) (i := 0 + 1 + 1 + 1) (v := 10 * (10 * (10 * 0 + zh t n q.1 - 48) + zh t n (q.1 + 1) - 48) + zh t n (q.1 + 1 + 1) - 48) (p := q.1 + 1 + 1 + 1) (K := K) (fl := 1996) (by omega) (by omega) (by omega) (by omega)
          have u3 : q.1 + 1 + 1 + 1 < n := by
            by_cases c : q.1 + 1 + 1 + 1 < n
            · exact c
            · rw [show zh t n (q.1 + 1 + 1 + 1) = -1 from if_neg c] at c3; omega
          rw [zr_nil]
          have b4 := fun K => zm_L5s (t := t) (n := n) (w := 0) (m := 4) (i := 0 + 1 + 1 + 1 + 1) (v := 10 * (10 * (10 * (10 * 0 + zh t n q.1 - 48) + zh t n (q.1 + 1) - 48) + zh t n (q.1 + 1 + 1) - 48) + zh t n (q.1 + 1 + 1 + 1) - 48) (p := q.1 + 1 + 1 + 1 + 1) (K := K) (fl := 1995) (by omega) (by omega) ht (Or.inl rfl) (by omega) (Or.inr (Or.inl (by omega)))
          refine ⟨10 * (10 * (10 * (10 * 0 + zh t n q.1 - 48) + zh t n (q.1 + 1) - 48) + zh t n (q.1 + 1 + 1) - 48) + zh t n (q.1 + 1 + 1 + 1) - 48, ?_, fun _ => ⟨rfl, rfl, ?_, fun j hj => ?_⟩⟩
          · unfold f_X11_digits
            rw [show (0 : Int32) = iI 0 from rfl]
            refine Eq.trans (a0 _) (Eq.trans (a1 _) (Eq.trans (a2 _) (Eq.trans (a3 _) (Eq.trans (b4 _) ?_))))
            simp (disch := omega) only [↓q_brd, ↓q_gdd, ↓q_lts, ↓reduceIte, ↓q_bds, ↓zq_smi, ↓zq_smr, iI_add, iI_sub, iI_mul, iI_neg, iI_ab3, iI_div, z_emod, aI_rd, aI_wr, aR0, aW0, aR1, aW1, aR2, aW2, aR3, aW3, aR4, aW4, iI_inT, iI_lt, iI_le, iI_eq, lt_t, lt_f, le_t, le_f, eq_t, eq_f, bz_z, bz_o, bz_zo, bzT, bzF, n_em, zu_s, zu_n, not_true_eq_false, not_false_eq_true, and_self, true_and, and_true, false_and, and_false, true_or, or_true, false_or, or_false, or_self, Int.add_sub_cancel, n_0, n_1, n_2, n_3, n_4, n_5, n_6, n_7, n_8, n_9, n_10, n_11, n_12, n_13, n_14, n_15, n_16, n_17, n_18, n_19, n_20, n_21, n_22, n_23, n_24, n_25, n_26, n_27, n_28, n_29, n_30, n_31, n_32, n_33, n_34, n_35, n_36, n_37, n_40, n_44, n_48, n_50, n_57, n_58, n_60, n_65, n_66, n_67, n_68, n_69, n_70, n_71, n_73, n_77, n_80, n_83, n_97, n_98, n_99, n_100, n_101, n_102, n_103, n_104, n_105, n_106, n_107, n_108, n_109, n_110, n_111, n_112, n_113, n_114, n_115, n_116, n_117, n_118, n_120, n_121, n_122, n_180, n_255, n_539, n_600, n_616, n_1200, n_2000, n_3600, n_8400, n_65536, zt_01]
            rfl
          · show zvd q.2.1 q.2.2.1 (zh t n (q.1 + 1 + 1 + 1)) (zvd q.2.1 q.2.2.1 (zh t n (q.1 + 1 + 1)) (zvd q.2.1 q.2.2.1 (zh t n (q.1 + 1)) (zvd q.2.1 q.2.2.1 (zh t n q.1) q.2.2.2))) q.2.1 = q.2.2.1 * (10 * (10 * (10 * (10 * 0 + zh t n q.1 - 48) + zh t n (q.1 + 1) - 48) + zh t n (q.1 + 1 + 1) - 48) + zh t n (q.1 + 1 + 1 + 1) - 48)
            rw [zvd_g q1, zvd_g q1, zvd_g q1, zvd_g q1, q3]
            rcases q2 with e | e <;> rw [e] <;> omega
          · show zvd q.2.1 q.2.2.1 (zh t n (q.1 + 1 + 1 + 1)) (zvd q.2.1 q.2.2.1 (zh t n (q.1 + 1 + 1)) (zvd q.2.1 q.2.2.1 (zh t n (q.1 + 1)) (zvd q.2.1 q.2.2.1 (zh t n q.1) q.2.2.2))) j = q.2.2.2 j
            rw [zvd_n hj, zvd_n hj, zvd_n hj, zvd_n hj]
        · rw [if_neg c3, zr_no]
          have b3 := fun K => zm_L5s (t := t) (n := n) (w := 0) (m := 4) (i := 0 + 1 + 1 + 1) (v := 10 * (10 * (10 * 0 + zh t n q.1 - 48) + zh t n (q.1 + 1) - 48) + zh t n (q.1 + 1 + 1) - 48) (p := q.1 + 1 + 1 + 1) (K := K) (fl := 1996) (by omega) (by omega) ht (Or.inl rfl) (by omega) (Or.inr (Or.inr c3))
          refine ⟨10 * (10 * (10 * 0 + zh t n q.1 - 48) + zh t n (q.1 + 1) - 48) + zh t n (q.1 + 1 + 1) - 48, ?_, fun h => Bool.noConfusion h⟩
          unfold f_X11_digits
          rw [show (0 : Int32) = iI 0 from rfl]
          refine Eq.trans (a0 _) (Eq.trans (a1 _) (Eq.trans (a2 _) (Eq.trans (b3 _) ?_)))
          simp (disch := omega) only [↓q_brd, ↓q_gdd, ↓q_lts, ↓reduceIte, ↓q_bds, ↓zq_smi, ↓zq_smr, iI_add, iI_sub, iI_mul, iI_neg, iI_ab3, iI_div, z_emod, aI_rd, aI_wr, aR0, aW0, aR1, aW1, aR2, aW2, aR3, aW3, aR4, aW4, iI_inT, iI_lt, iI_le, iI_eq, lt_t, lt_f, le_t, le_f, eq_t, eq_f, bz_z, bz_o, bz_zo, bzT, bzF, n_em, zu_s, zu_n, not_true_eq_false, not_false_eq_true, and_self, true_and, and_true, false_and, and_false, true_or, or_true, false_or, or_false, or_self, Int.add_sub_cancel, n_0, n_1, n_2, n_3, n_4, n_5, n_6, n_7, n_8, n_9, n_10, n_11, n_12, n_13, n_14, n_15, n_16, n_17, n_18, n_19, n_20, n_21, n_22, n_23, n_24, n_25, n_26, n_27, n_28, n_29, n_30, n_31, n_32, n_33, n_34, n_35, n_36, n_37, n_40, n_44, n_48, n_50, n_57, n_58, n_60, n_65, n_66, n_67, n_68, n_69, n_70, n_71, n_73, n_77, n_80, n_83, n_97, n_98, n_99, n_100, n_101, n_102, n_103, n_104, n_105, n_106, n_107, n_108, n_109, n_110, n_111, n_112, n_113, n_114, n_115, n_116, n_117, n_118, n_120, n_121, n_122, n_180, n_255, n_539, n_600, n_616, n_1200, n_2000, n_3600, n_8400, n_65536, zt_11]
          rfl
      · rw [if_neg c2, zr_no]
        have b2 := fun K => zm_L5s (t := t) (n := n) (w := 0) (m := 4) (i := 0 + 1 + 1) (v := 10 * (10 * 0 + zh t n q.1 - 48) + zh t n (q.1 + 1) - 48) (p := q.1 + 1 + 1) (K := K) (fl := 1997) (by omega) (by omega) ht (Or.inl rfl) (by omega) (Or.inr (Or.inr c2))
        refine ⟨10 * (10 * 0 + zh t n q.1 - 48) + zh t n (q.1 + 1) - 48, ?_, fun h => Bool.noConfusion h⟩
        unfold f_X11_digits
        rw [show (0 : Int32) = iI 0 from rfl]
        refine Eq.trans (a0 _) (Eq.trans (a1 _) (Eq.trans (b2 _) ?_))
        simp (disch := omega) only [↓q_brd, ↓q_gdd, ↓q_lts, ↓reduceIte, ↓q_bds, ↓zq_smi, ↓zq_smr, iI_add, iI_sub, iI_mul, iI_neg, iI_ab3, iI_div, z_emod, aI_rd, aI_wr, aR0, aW0, aR1, aW1, aR2, aW2, aR3, aW3, aR4, aW4, iI_inT, iI_lt, iI_le, iI_eq, lt_t, lt_f, le_t, le_f, eq_t, eq_f, bz_z, bz_o, bz_zo, bzT, bzF, n_em, zu_s, zu_n, not_true_eq_false, not_false_eq_true, and_self, true_and, and_true, false_and, and_false, true_or, or_true, false_or, or_false, or_self, Int.add_sub_cancel, n_0, n_1, n_2, n_3, n_4, n_5, n_6, n_7, n_8, n_9, n_10, n_11, n_12, n_13, n_14, n_15, n_16, n_17, n_18, n_19, n_20, n_21, n_22, n_23, n_24, n_25, n_26, n_27, n_28, n_29, n_30, n_31, n_32, n_33, n_34, n_35, n_36, n_37, n_40, n_44, n_48, n_50, n_57, n_58, n_60, n_65, n_66, n_67, n_68, n_69, n_70, n_71, n_73, n_77, n_80, n_83, n_97, n_98, n_99, n_100, n_101, n_102, n_103, n_104, n_105, n_106, n_107, n_108, n_109, n_110, n_111, n_112, n_113, n_114, n_115, n_116, n_117, n_118, n_120, n_121, n_122, n_180, n_255, n_539, n_600, n_616, n_1200, n_2000, n_3600, n_8400, n_65536, zt_11]
        rfl
    · rw [if_neg c1, zr_no]
      have b1 := fun K => zm_L5s (t := t) (n := n) (w := 0) (m := 4) (i := 0 + 1) (v := 10 * 0 + zh t n q.1 - 48) (p := q.1 + 1) (K := K) (fl := 1998) (by omega) (by omega) ht (Or.inl rfl) (by omega) (Or.inr (Or.inr c1))
      refine ⟨10 * 0 + zh t n q.1 - 48, ?_, fun h => Bool.noConfusion h⟩
      unfold f_X11_digits
      rw [show (0 : Int32) = iI 0 from rfl]
      refine Eq.trans (a0 _) (Eq.trans (b1 _) ?_)
      simp (disch := omega) only [↓q_brd, ↓q_gdd, ↓q_lts, ↓reduceIte, ↓q_bds, ↓zq_smi, ↓zq_smr, iI_add, iI_sub, iI_mul, iI_neg, iI_ab3, iI_div, z_emod, aI_rd, aI_wr, aR0, aW0, aR1, aW1, aR2, aW2, aR3, aW3, aR4, aW4, iI_inT, iI_lt, iI_le, iI_eq, lt_t, lt_f, le_t, le_f, eq_t, eq_f, bz_z, bz_o, bz_zo, bzT, bzF, n_em, zu_s, zu_n, not_true_eq_false, not_false_eq_true, and_self, true_and, and_true, false_and, and_false, true_or, or_true, false_or, or_false, or_self, Int.add_sub_cancel, n_0, n_1, n_2, n_3, n_4, n_5, n_6, n_7, n_8, n_9, n_10, n_11, n_12, n_13, n_14, n_15, n_16, n_17, n_18, n_19, n_20, n_21, n_22, n_23, n_24, n_25, n_26, n_27, n_28, n_29, n_30, n_31, n_32, n_33, n_34, n_35, n_36, n_37, n_40, n_44, n_48, n_50, n_57, n_58, n_60, n_65, n_66, n_67, n_68, n_69, n_70, n_71, n_73, n_77, n_80, n_83, n_97, n_98, n_99, n_100, n_101, n_102, n_103, n_104, n_105, n_106, n_107, n_108, n_109, n_110, n_111, n_112, n_113, n_114, n_115, n_116, n_117, n_118, n_120, n_121, n_122, n_180, n_255, n_539, n_600, n_616, n_1200, n_2000, n_3600, n_8400, n_65536, zt_11]
      rfl
  · rw [if_neg c0, zr_no]
    have b0 := fun K => zm_L5s (t := t) (n := n) (w := 0) (m := 4) (i := 0) (v := 0) (p := q.1) (K := K) (fl := 1999) (by omega) (by omega) ht (Or.inl rfl) (by omega) (Or.inr (Or.inr c0))
    refine ⟨0, ?_, fun h => Bool.noConfusion h⟩
    unfold f_X11_digits
    rw [show (0 : Int32) = iI 0 from rfl]
    refine Eq.trans (b0 _) ?_
    simp (disch := omega) only [↓q_brd, ↓q_gdd, ↓q_lts, ↓reduceIte, ↓q_bds, ↓zq_smi, ↓zq_smr, iI_add, iI_sub, iI_mul, iI_neg, iI_ab3, iI_div, z_emod, aI_rd, aI_wr, aR0, aW0, aR1, aW1, aR2, aW2, aR3, aW3, aR4, aW4, iI_inT, iI_lt, iI_le, iI_eq, lt_t, lt_f, le_t, le_f, eq_t, eq_f, bz_z, bz_o, bz_zo, bzT, bzF, n_em, zu_s, zu_n, not_true_eq_false, not_false_eq_true, and_self, true_and, and_true, false_and, and_false, true_or, or_true, false_or, or_false, or_self, Int.add_sub_cancel, n_0, n_1, n_2, n_3, n_4, n_5, n_6, n_7, n_8, n_9, n_10, n_11, n_12, n_13, n_14, n_15, n_16, n_17, n_18, n_19, n_20, n_21, n_22, n_23, n_24, n_25, n_26, n_27, n_28, n_29, n_30, n_31, n_32, n_33, n_34, n_35, n_36, n_37, n_40, n_44, n_48, n_50, n_57, n_58, n_60, n_65, n_66, n_67, n_68, n_69, n_70, n_71, n_73, n_77, n_80, n_83, n_97, n_98, n_99, n_100, n_101, n_102, n_103, n_104, n_105, n_106, n_107, n_108, n_109, n_110, n_111, n_112, n_113, n_114, n_115, n_116, n_117, n_118, n_120, n_121, n_122, n_180, n_255, n_539, n_600, n_616, n_1200, n_2000, n_3600, n_8400, n_65536, zt_11]
    rfl
theorem zm_ab1 {t : Int → Int} {n : Int} {r : Bool × z_Q} (h : 0 ≤ r.2.1 ∧ r.2.1 ≤ n ∧ n ≤ 60) (ht : ∀ k, 0 ≤ k → k < n → 0 ≤ t k ∧ t k < 65536) (hg : r.1 = true → -1 ≤ r.2.2.1 ∧ r.2.2.1 ≤ 0) : ∃ val, f_X11_afterBlank (aI t) (iI n) (iI r.2.1) (iI (wz r)) (iI 1) (iI 1) = some (iI val, iI (zr t n [32, 35] r).2.1, iI (wz (zr t n [32, 35] r))) ∧ ((zr t n [32, 35] r).1 = true → (zr t n [32, 35] r).2.2.1 = r.2.2.1 + 1 ∧ (zr t n [32, 35] r).2.2.2.2 (r.2.2.1 + 1) = val ∧ ∀ j, j ≠ r.2.2.1 + 1 → (zr t n [32, 35] r).2.2.2.2 j = r.2.2.2.2 j) := by
  obtain ⟨b, q⟩ := r
  cases b
  · have hd := zm_dno (q := q) [35] h ht (l := 1) (m := 1) (by omega)
    rw [zr_no] at hd
    rw [zr_no]
    refine ⟨0, ?_, fun h => Bool.noConfusion h⟩
    unfold f_X11_afterBlank
    rw [show (32 : Int32) = iI 32 from rfl, show wz (false, q) = 1 from rfl, zm_n1, q_bds, hd]
    rfl
  · have hg := hg rfl
    simp only at h hg
    rw [zr_t, zs_32]
    by_cases c : zh t n q.1 = 32
    · rw [if_pos c]
      have u : q.1 < n := by
        by_cases c1 : q.1 < n
        · exact c1
        · rw [show zh t n q.1 = -1 from if_neg c1] at c; omega
      have e1 : zva q.2.1 0 q.2.2.2 (q.2.1 + 1) = 0 := by
        unfold zva
        rw [if_pos (by omega), zu_s rfl]
      have e2 : ∀ j, j ≠ q.2.1 + 1 → zva q.2.1 0 q.2.2.2 j = q.2.2.2 j := fun j hj => by
        unfold zva
        rw [if_pos (by omega), zu_n hj]
      obtain ⟨val, x1, x2⟩ := zm_d1 (q := (q.1 + 1, q.2.1 + 1, 1, zva q.2.1 0 q.2.2.2)) (by simp only; omega) ht (fun _ => ⟨by simp only; omega, Or.inl rfl, e1⟩)
      try simp only at x1
      refine ⟨val, ?_, fun hr => ?_⟩
      · unfold f_X11_afterBlank
        rw [show (32 : Int32) = iI 32 from rfl, show wz (true, q) = 0 from rfl, zm_n0 (by simp only; omega) (by omega) ht (by omega), if_pos c, q_bds]
        simp only
        rw [x1]
        rfl
      · obtain ⟨y1, y2, y3, y4⟩ := x2 hr
        simp only at y1 y2 y3 y4
        refine ⟨y1, by rw [y3, Int.one_mul], fun j hj => by rw [y4 j hj, e2 j hj]⟩
    · rw [if_neg c, zr_no]
      have hd := zm_dno (q := q) [35] h ht (l := 1) (m := 1) (by omega)
      rw [zr_no] at hd
      refine ⟨0, ?_, fun h => Bool.noConfusion h⟩
      unfold f_X11_afterBlank
      rw [show (32 : Int32) = iI 32 from rfl, show wz (true, q) = 0 from rfl, zm_n0 (by simp only; omega) (by omega) ht (by omega), if_neg c, q_bds]
      simp only
      rw [hd]
      rfl
theorem zm_ab2 {t : Int → Int} {n : Int} {r : Bool × z_Q} (h : 0 ≤ r.2.1 ∧ r.2.1 ≤ n ∧ n ≤ 60) (ht : ∀ k, 0 ≤ k → k < n → 0 ≤ t k ∧ t k < 65536) (hg : r.1 = true → -1 ≤ r.2.2.1 ∧ r.2.2.1 ≤ 0) : ∃ val, f_X11_afterBlank (aI t) (iI n) (iI r.2.1) (iI (wz r)) (iI 1) (iI 2) = some (iI val, iI (zr t n [32, 35, 63] r).2.1, iI (wz (zr t n [32, 35, 63] r))) ∧ ((zr t n [32, 35, 63] r).1 = true → (zr t n [32, 35, 63] r).2.2.1 = r.2.2.1 + 1 ∧ (zr t n [32, 35, 63] r).2.2.2.2 (r.2.2.1 + 1) = val ∧ ∀ j, j ≠ r.2.2.1 + 1 → (zr t n [32, 35, 63] r).2.2.2.2 j = r.2.2.2.2 j) := by
  obtain ⟨b, q⟩ := r
  cases b
  · have hd := zm_dno (q := q) [35, 63] h ht (l := 1) (m := 2) (by omega)
    rw [zr_no] at hd
    rw [zr_no]
    refine ⟨0, ?_, fun h => Bool.noConfusion h⟩
    unfold f_X11_afterBlank
    rw [show (32 : Int32) = iI 32 from rfl, show wz (false, q) = 1 from rfl, zm_n1, q_bds, hd]
    rfl
  · have hg := hg rfl
    simp only at h hg
    rw [zr_t, zs_32]
    by_cases c : zh t n q.1 = 32
    · rw [if_pos c]
      have u : q.1 < n := by
        by_cases c1 : q.1 < n
        · exact c1
        · rw [show zh t n q.1 = -1 from if_neg c1] at c; omega
      have e1 : zva q.2.1 0 q.2.2.2 (q.2.1 + 1) = 0 := by
        unfold zva
        rw [if_pos (by omega), zu_s rfl]
      have e2 : ∀ j, j ≠ q.2.1 + 1 → zva q.2.1 0 q.2.2.2 j = q.2.2.2 j := fun j hj => by
        unfold zva
        rw [if_pos (by omega), zu_n hj]
      obtain ⟨val, x1, x2⟩ := zm_d2 (q := (q.1 + 1, q.2.1 + 1, 1, zva q.2.1 0 q.2.2.2)) (by simp only; omega) ht (fun _ => ⟨by simp only; omega, Or.inl rfl, e1⟩)
      try simp only at x1
      refine ⟨val, ?_, fun hr => ?_⟩
      · unfold f_X11_afterBlank
        rw [show (32 : Int32) = iI 32 from rfl, show wz (true, q) = 0 from rfl, zm_n0 (by simp only; omega) (by omega) ht (by omega), if_pos c, q_bds]
        simp only
        rw [x1]
        rfl
      · obtain ⟨y1, y2, y3, y4⟩ := x2 hr
        simp only at y1 y2 y3 y4
        refine ⟨y1, by rw [y3, Int.one_mul], fun j hj => by rw [y4 j hj, e2 j hj]⟩
    · rw [if_neg c, zr_no]
      have hd := zm_dno (q := q) [35, 63] h ht (l := 1) (m := 2) (by omega)
      rw [zr_no] at hd
      refine ⟨0, ?_, fun h => Bool.noConfusion h⟩
      unfold f_X11_afterBlank
      rw [show (32 : Int32) = iI 32 from rfl, show wz (true, q) = 0 from rfl, zm_n0 (by simp only; omega) (by omega) ht (by omega), if_neg c, q_bds]
      simp only
      rw [hd]
      rfl
theorem zm_ab4 {t : Int → Int} {n : Int} {r : Bool × z_Q} (h : 0 ≤ r.2.1 ∧ r.2.1 ≤ n ∧ n ≤ 60) (ht : ∀ k, 0 ≤ k → k < n → 0 ≤ t k ∧ t k < 65536) (hg : r.1 = true → -1 ≤ r.2.2.1 ∧ r.2.2.1 ≤ 0) : ∃ val, f_X11_afterBlank (aI t) (iI n) (iI r.2.1) (iI (wz r)) (iI 4) (iI 4) = some (iI val, iI (zr t n [32, 35, 35, 35, 35] r).2.1, iI (wz (zr t n [32, 35, 35, 35, 35] r))) ∧ ((zr t n [32, 35, 35, 35, 35] r).1 = true → (zr t n [32, 35, 35, 35, 35] r).2.2.1 = r.2.2.1 + 1 ∧ (zr t n [32, 35, 35, 35, 35] r).2.2.2.2 (r.2.2.1 + 1) = val ∧ ∀ j, j ≠ r.2.2.1 + 1 → (zr t n [32, 35, 35, 35, 35] r).2.2.2.2 j = r.2.2.2.2 j) := by
  obtain ⟨b, q⟩ := r
  cases b
  · have hd := zm_dno (q := q) [35, 35, 35, 35] h ht (l := 4) (m := 4) (by omega)
    rw [zr_no] at hd
    rw [zr_no]
    refine ⟨0, ?_, fun h => Bool.noConfusion h⟩
    unfold f_X11_afterBlank
    rw [show (32 : Int32) = iI 32 from rfl, show wz (false, q) = 1 from rfl, zm_n1, q_bds, hd]
    rfl
  · have hg := hg rfl
    simp only at h hg
    rw [zr_t, zs_32]
    by_cases c : zh t n q.1 = 32
    · rw [if_pos c]
      have u : q.1 < n := by
        by_cases c1 : q.1 < n
        · exact c1
        · rw [show zh t n q.1 = -1 from if_neg c1] at c; omega
      have e1 : zva q.2.1 0 q.2.2.2 (q.2.1 + 1) = 0 := by
        unfold zva
        rw [if_pos (by omega), zu_s rfl]
      have e2 : ∀ j, j ≠ q.2.1 + 1 → zva q.2.1 0 q.2.2.2 j = q.2.2.2 j := fun j hj => by
        unfold zva
        rw [if_pos (by omega), zu_n hj]
      obtain ⟨val, x1, x2⟩ := zm_d4 (q := (q.1 + 1, q.2.1 + 1, 1, zva q.2.1 0 q.2.2.2)) (by simp only; omega) ht (fun _ => ⟨by simp only; omega, Or.inl rfl, e1⟩)
      try simp only at x1
      refine ⟨val, ?_, fun hr => ?_⟩
      · unfold f_X11_afterBlank
        rw [show (32 : Int32) = iI 32 from rfl, show wz (true, q) = 0 from rfl, zm_n0 (by simp only; omega) (by omega) ht (by omega), if_pos c, q_bds]
        simp only
        rw [x1]
        rfl
      · obtain ⟨y1, y2, y3, y4⟩ := x2 hr
        simp only at y1 y2 y3 y4
        refine ⟨y1, by rw [y3, Int.one_mul], fun j hj => by rw [y4 j hj, e2 j hj]⟩
    · rw [if_neg c, zr_no]
      have hd := zm_dno (q := q) [35, 35, 35, 35] h ht (l := 4) (m := 4) (by omega)
      rw [zr_no] at hd
      refine ⟨0, ?_, fun h => Bool.noConfusion h⟩
      unfold f_X11_afterBlank
      rw [show (32 : Int32) = iI 32 from rfl, show wz (true, q) = 0 from rfl, zm_n0 (by simp only; omega) (by omega) ht (by omega), if_neg c, q_bds]
      simp only
      rw [hd]
      rfl
theorem zm_sg {t : Int → Int} {n : Int} {r : Bool × z_Q} (h : 0 ≤ r.2.1 ∧ r.2.1 ≤ n ∧ n ≤ 60) (ht : ∀ k, 0 ≤ k → k < n → 0 ≤ t k ∧ t k < 65536) (hg : r.1 = true → -1 ≤ r.2.2.1 ∧ r.2.2.1 ≤ 0) : ∃ val, f_X11_signed (aI t) (iI n) (iI r.2.1) (iI (wz r)) = some (iI val, iI (zr t n [83, 35, 63] r).2.1, iI (wz (zr t n [83, 35, 63] r))) ∧ ((zr t n [83, 35, 63] r).1 = true → (zr t n [83, 35, 63] r).2.2.1 = r.2.2.1 + 1 ∧ (zr t n [83, 35, 63] r).2.2.2.2 (r.2.2.1 + 1) = val ∧ ∀ j, j ≠ r.2.2.1 + 1 → (zr t n [83, 35, 63] r).2.2.2.2 j = r.2.2.2.2 j) := by
  obtain ⟨b, q⟩ := r
  cases b
  · have hd := zm_dno (q := q) [35, 63] h ht (l := 1) (m := 2) (by omega)
    rw [zr_no] at hd
    rw [zr_no]
    refine ⟨0, ?_, fun h => Bool.noConfusion h⟩
    rw [show wz (false, q) = 1 from rfl] at hd ⊢
    unfold f_X11_signed
    simp (disch := omega) only [↓q_brd, ↓q_gdd, ↓q_lts, ↓reduceIte, ↓q_bds, ↓zq_smi, ↓zq_smr, iI_add, iI_sub, iI_mul, iI_neg, iI_ab3, iI_div, z_emod, aI_rd, aI_wr, aR0, aW0, aR1, aW1, aR2, aW2, aR3, aW3, aR4, aW4, iI_inT, iI_lt, iI_le, iI_eq, lt_t, lt_f, le_t, le_f, eq_t, eq_f, bz_z, bz_o, bz_zo, bzT, bzF, n_em, zu_s, zu_n, not_true_eq_false, not_false_eq_true, and_self, true_and, and_true, false_and, and_false, true_or, or_true, false_or, or_false, or_self, Int.add_sub_cancel, n_0, n_1, n_2, n_3, n_4, n_5, n_6, n_7, n_8, n_9, n_10, n_11, n_12, n_13, n_14, n_15, n_16, n_17, n_18, n_19, n_20, n_21, n_22, n_23, n_24, n_25, n_26, n_27, n_28, n_29, n_30, n_31, n_32, n_33, n_34, n_35, n_36, n_37, n_40, n_44, n_48, n_50, n_57, n_58, n_60, n_65, n_66, n_67, n_68, n_69, n_70, n_71, n_73, n_77, n_80, n_83, n_97, n_98, n_99, n_100, n_101, n_102, n_103, n_104, n_105, n_106, n_107, n_108, n_109, n_110, n_111, n_112, n_113, n_114, n_115, n_116, n_117, n_118, n_120, n_121, n_122, n_180, n_255, n_539, n_600, n_616, n_1200, n_2000, n_3600, n_8400, n_65536, n_43, n_45, zm_n1, hd]
  · have hg := hg rfl
    simp only at h hg
    rw [zr_t, zs_83]
    have hh := zm_here (t := t) (n := n) (p := q.1) (by omega) (by omega)
    have hz := zh_rng (n := n) ht (p := q.1) (by omega)
    have hd := zm_dno (q := q) [35, 63] h ht (l := 1) (m := 2) (by omega)
    rw [zr_no, show wz (false, q) = 1 from rfl] at hd
    have m0 := zm_n0 (t := t) (n := n) (p := q.1) (c := 43) (by omega) (by omega) ht (by omega)
    have m1 := zm_n0 (t := t) (n := n) (p := q.1) (c := 45) (by omega) (by omega) ht (by omega)
    have e1 : zva q.2.1 0 q.2.2.2 (q.2.1 + 1) = 0 := by
      unfold zva
      rw [if_pos (by omega), zu_s rfl]
    have e2 : ∀ j, j ≠ q.2.1 + 1 → zva q.2.1 0 q.2.2.2 j = q.2.2.2 j := fun j hj => by
      unfold zva
      rw [if_pos (by omega), zu_n hj]
    rw [show wz (true, q) = 0 from rfl]
    have u : zh t n q.1 ≠ -1 → q.1 < n := fun hx => by
      by_cases c1 : q.1 < n
      · exact c1
      · exact absurd (if_neg c1) hx
    by_cases c : zh t n q.1 = 43
    · rw [if_pos c]
      rw [if_pos c] at m0
      have u := u (by omega)
      obtain ⟨val, x1, x2⟩ := zm_d2 (q := (q.1 + 1, q.2.1 + 1, 1, zva q.2.1 0 q.2.2.2)) (by simp only; omega) ht (fun _ => ⟨by simp only; omega, Or.inl rfl, e1⟩)
      try simp only at x1
      refine ⟨val, ?_, fun hr => ?_⟩
      · unfold f_X11_signed
        simp (disch := omega) only [↓q_brd, ↓q_gdd, ↓q_lts, ↓reduceIte, ↓q_bds, ↓zq_smi, ↓zq_smr, iI_add, iI_sub, iI_mul, iI_neg, iI_ab3, iI_div, z_emod, aI_rd, aI_wr, aR0, aW0, aR1, aW1, aR2, aW2, aR3, aW3, aR4, aW4, iI_inT, iI_lt, iI_le, iI_eq, lt_t, lt_f, le_t, le_f, eq_t, eq_f, bz_z, bz_o, bz_zo, bzT, bzF, n_em, zu_s, zu_n, not_true_eq_false, not_false_eq_true, and_self, true_and, and_true, false_and, and_false, true_or, or_true, false_or, or_false, or_self, Int.add_sub_cancel, n_0, n_1, n_2, n_3, n_4, n_5, n_6, n_7, n_8, n_9, n_10, n_11, n_12, n_13, n_14, n_15, n_16, n_17, n_18, n_19, n_20, n_21, n_22, n_23, n_24, n_25, n_26, n_27, n_28, n_29, n_30, n_31, n_32, n_33, n_34, n_35, n_36, n_37, n_40, n_44, n_48, n_50, n_57, n_58, n_60, n_65, n_66, n_67, n_68, n_69, n_70, n_71, n_73, n_77, n_80, n_83, n_97, n_98, n_99, n_100, n_101, n_102, n_103, n_104, n_105, n_106, n_107, n_108, n_109, n_110, n_111, n_112, n_113, n_114, n_115, n_116, n_117, n_118, n_120, n_121, n_122, n_180, n_255, n_539, n_600, n_616, n_1200, n_2000, n_3600, n_8400, n_65536, n_43, n_45, hh, c, m0, x1]
      · obtain ⟨y1, y2, y3, y4⟩ := x2 hr
        simp only at y1 y2 y3 y4
        refine ⟨y1, by rw [y3, Int.one_mul], fun j hj => by rw [y4 j hj, e2 j hj]⟩
    · rw [if_neg c]
      rw [if_neg c] at m0
      by_cases c2 : zh t n q.1 = 45
      · rw [if_pos c2]
        rw [if_pos c2] at m1
        have u := u (by omega)
        obtain ⟨val, x1, x2⟩ := zm_d2 (q := (q.1 + 1, q.2.1 + 1, -1, zva q.2.1 0 q.2.2.2)) (by simp only; omega) ht (fun _ => ⟨by simp only; omega, Or.inr rfl, e1⟩)
        try simp only at x1
        refine ⟨-val, ?_, fun hr => ?_⟩
        · unfold f_X11_signed
          simp (disch := omega) only [↓q_brd, ↓q_gdd, ↓q_lts, ↓reduceIte, ↓q_bds, ↓zq_smi, ↓zq_smr, iI_add, iI_sub, iI_mul, iI_neg, iI_ab3, iI_div, z_emod, aI_rd, aI_wr, aR0, aW0, aR1, aW1, aR2, aW2, aR3, aW3, aR4, aW4, iI_inT, iI_lt, iI_le, iI_eq, lt_t, lt_f, le_t, le_f, eq_t, eq_f, bz_z, bz_o, bz_zo, bzT, bzF, n_em, zu_s, zu_n, not_true_eq_false, not_false_eq_true, and_self, true_and, and_true, false_and, and_false, true_or, or_true, false_or, or_false, or_self, Int.add_sub_cancel, n_0, n_1, n_2, n_3, n_4, n_5, n_6, n_7, n_8, n_9, n_10, n_11, n_12, n_13, n_14, n_15, n_16, n_17, n_18, n_19, n_20, n_21, n_22, n_23, n_24, n_25, n_26, n_27, n_28, n_29, n_30, n_31, n_32, n_33, n_34, n_35, n_36, n_37, n_40, n_44, n_48, n_50, n_57, n_58, n_60, n_65, n_66, n_67, n_68, n_69, n_70, n_71, n_73, n_77, n_80, n_83, n_97, n_98, n_99, n_100, n_101, n_102, n_103, n_104, n_105, n_106, n_107, n_108, n_109, n_110, n_111, n_112, n_113, n_114, n_115, n_116, n_117, n_118, n_120, n_121, n_122, n_180, n_255, n_539, n_600, n_616, n_1200, n_2000, n_3600, n_8400, n_65536, n_43, n_45, hh, c2, m1, x1, show (iI 1 = iI 0) = False from by decide]
        · obtain ⟨y1, y2, y3, y4⟩ := x2 hr
          simp only at y1 y2 y3 y4
          refine ⟨y1, by rw [y3]; omega, fun j hj => by rw [y4 j hj, e2 j hj]⟩
      · rw [if_neg c2, zr_no]
        refine ⟨0, ?_, fun h => Bool.noConfusion h⟩
        unfold f_X11_signed
        simp (disch := omega) only [↓q_brd, ↓q_gdd, ↓q_lts, ↓reduceIte, ↓q_bds, ↓zq_smi, ↓zq_smr, iI_add, iI_sub, iI_mul, iI_neg, iI_ab3, iI_div, z_emod, aI_rd, aI_wr, aR0, aW0, aR1, aW1, aR2, aW2, aR3, aW3, aR4, aW4, iI_inT, iI_lt, iI_le, iI_eq, lt_t, lt_f, le_t, le_f, eq_t, eq_f, bz_z, bz_o, bz_zo, bzT, bzF, n_em, zu_s, zu_n, not_true_eq_false, not_false_eq_true, and_self, true_and, and_true, false_and, and_false, true_or, or_true, false_or, or_false, or_self, Int.add_sub_cancel, n_0, n_1, n_2, n_3, n_4, n_5, n_6, n_7, n_8, n_9, n_10, n_11, n_12, n_13, n_14, n_15, n_16, n_17, n_18, n_19, n_20, n_21, n_22, n_23, n_24, n_25, n_26, n_27, n_28, n_29, n_30, n_31, n_32, n_33, n_34, n_35, n_36, n_37, n_40, n_44, n_48, n_50, n_57, n_58, n_60, n_65, n_66, n_67, n_68, n_69, n_70, n_71, n_73, n_77, n_80, n_83, n_97, n_98, n_99, n_100, n_101, n_102, n_103, n_104, n_105, n_106, n_107, n_108, n_109, n_110, n_111, n_112, n_113, n_114, n_115, n_116, n_117, n_118, n_120, n_121, n_122, n_180, n_255, n_539, n_600, n_616, n_1200, n_2000, n_3600, n_8400, n_65536, n_43, n_45, hh, c2, m0, hd]
        rfl
