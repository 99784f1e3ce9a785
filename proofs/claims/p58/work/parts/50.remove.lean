set_option maxHeartbeats 2000000 in
theorem z_drop_L {n q h len : Int} (hq : 0 ≤ q ∧ q < n) (hn : n ≤ 12) (hh : 0 ≤ h ∧ h ≤ 3) (hl : 0 ≤ len ∧ len ≤ 8) (d : Nat) : ∀ (i kp : Int) (T g : Int → Int) (fuel : Nat), 0 ≤ kp → kp ≤ i → i + d = len → d < fuel →
    (∀ k, 0 ≤ k → k < kp → T (h * 8 + k) = g (37 + 8 * h + k) ∧ 0 ≤ g (37 + 8 * h + k) ∧ g (37 + 8 * h + k) < n - 1) →
    (∀ k, i ≤ k → k < len → T (h * 8 + k) = g (37 + 8 * h + k) ∧ 0 ≤ g (37 + 8 * h + k) ∧ g (37 + 8 * h + k) < n) →
    ∃ (kp' : Int) (T' g' : Int → Int), (kp ≤ kp' ∧ kp' ≤ kp + d) ∧ (∀ Kc, f_X7_forgetBellIn_L19 (iI q) (iI (h * 8)) (iI len) Kc fuel (iI i) (iI kp) (aI T) = Kc (iI kp') (aI T')) ∧ (∀ Km, f_X11_dropsTones_L25 (iI q) (iI (37 + 8 * h)) (iI len) Km fuel (iI i) (iI kp) (aI g) = Km (iI kp') (aI g')) ∧
      (∀ k, 0 ≤ k → k < kp' → T' (h * 8 + k) = g' (37 + 8 * h + k) ∧ 0 ≤ g' (37 + 8 * h + k) ∧ g' (37 + 8 * h + k) < n - 1) ∧ (∀ t, ¬ (h * 8 ≤ t ∧ t < h * 8 + len) → T' t = T t) ∧ (∀ t, ¬ (37 + 8 * h ≤ t ∧ t < 37 + 8 * h + len) → g' t = g t) := by
  induction d with
  | zero =>
    intro i kp T g fuel h1 h2 h3 h4 hA hB
    obtain ⟨fl, rfl⟩ : ∃ fl, fuel = fl + 1 := ⟨fuel - 1, by omega⟩
    refine ⟨kp, T, g, by omega, ?_, ?_, hA, fun t _ => rfl, fun t _ => rfl⟩
    · intro Kc
      unfold f_X7_forgetBellIn_L19
      simp (disch := omega) only [↓q_brd, ↓q_gdd, ↓q_lts, ↓reduceIte, ↓q_bds, ↓zq_smi, ↓zq_smr, iI_add, iI_sub, iI_mul, iI_neg, iI_ab3, iI_div, z_emod, aI_rd, aI_wr, aR0, aW0, aR1, aW1, aR2, aW2, aR3, aW3, aR4, aW4, iI_inT, iI_lt, iI_le, iI_eq, lt_t, lt_f, le_t, le_f, eq_t, eq_f, bz_z, bz_o, bz_zo, bzT, bzF, n_em, zu_s, zu_n, not_true_eq_false, not_false_eq_true, and_self, true_and, and_true, false_and, and_false, true_or, or_true, false_or, or_false, or_self, Int.add_sub_cancel, n_0, n_1, n_2, n_3, n_4, n_5, n_6, n_7, n_8, n_9, n_10, n_11, n_12, n_13, n_14, n_15, n_16, n_17, n_18, n_19, n_20, n_21, n_22, n_23, n_24, n_25, n_26, n_27, n_28, n_29, n_30, n_31, n_32, n_33, n_34, n_35, n_36, n_37, n_40, n_44, n_48, n_50, n_57, n_58, n_60, n_65, n_66, n_67, n_68, n_69, n_70, n_71, n_73, n_77, n_80, n_83, n_97, n_98, n_99, n_100, n_101, n_102, n_103, n_104, n_105, n_106, n_107, n_108, n_109, n_110, n_111, n_112, n_113, n_114, n_115, n_116, n_117, n_118, n_120, n_121, n_122, n_180, n_255, n_539, n_600, n_616, n_1200, n_2000, n_3600, n_8400, n_65536]
    · intro Km
      unfold f_X11_dropsTones_L25
      simp (disch := omega) only [↓q_brd, ↓q_gdd, ↓q_lts, ↓reduceIte, ↓q_bds, ↓zq_smi, ↓zq_smr, iI_add, iI_sub, iI_mul, iI_neg, iI_ab3, iI_div, z_emod, aI_rd, aI_wr, aR0, aW0, aR1, aW1, aR2, aW2, aR3, aW3, aR4, aW4, iI_inT, iI_lt, iI_le, iI_eq, lt_t, lt_f, le_t, le_f, eq_t, eq_f, bz_z, bz_o, bz_zo, bzT, bzF, n_em, zu_s, zu_n, not_true_eq_false, not_false_eq_true, and_self, true_and, and_true, false_and, and_false, true_or, or_true, false_or, or_false, or_self, Int.add_sub_cancel, n_0, n_1, n_2, n_3, n_4, n_5, n_6, n_7, n_8, n_9, n_10, n_11, n_12, n_13, n_14, n_15, n_16, n_17, n_18, n_19, n_20, n_21, n_22, n_23, n_24, n_25, n_26, n_27, n_28, n_29, n_30, n_31, n_32, n_33, n_34, n_35, n_36, n_37, n_40, n_44, n_48, n_50, n_57, n_58, n_60, n_65, n_66, n_67, n_68, n_69, n_70, n_71, n_73, n_77, n_80, n_83, n_97, n_98, n_99, n_100, n_101, n_102, n_103, n_104, n_105, n_106, n_107, n_108, n_109, n_110, n_111, n_112, n_113, n_114, n_115, n_116, n_117, n_118, n_120, n_121, n_122, n_180, n_255, n_539, n_600, n_616, n_1200, n_2000, n_3600, n_8400, n_65536]
  | succ d ih =>
    intro i kp T g fuel h1 h2 h3 h4 hA hB
    obtain ⟨fl, rfl⟩ : ∃ fl, fuel = fl + 1 := ⟨fuel - 1, by omega⟩
    obtain ⟨b1, b2, b3⟩ := hB i (by omega) (by omega)
    by_cases e : g (37 + 8 * h + i) = q
    · obtain ⟨kp', T', g', y1, y2, y3, y4, y5, y6⟩ := ih (i + 1) kp T g fl h1 (by omega) (by omega) (by omega) hA (fun k k0 k1 => hB k (by omega) k1)
      refine ⟨kp', T', g', by omega, ?_, ?_, y4, y5, y6⟩
      · intro Kc
        rw [← y2 Kc]
        conv => lhs; unfold f_X7_forgetBellIn_L19
        simp (disch := omega) only [↓q_brd, ↓q_gdd, ↓q_lts, ↓reduceIte, ↓q_bds, ↓zq_smi, ↓zq_smr, iI_add, iI_sub, iI_mul, iI_neg, iI_ab3, iI_div, z_emod, aI_rd, aI_wr, aR0, aW0, aR1, aW1, aR2, aW2, aR3, aW3, aR4, aW4, iI_inT, iI_lt, iI_le, iI_eq, lt_t, lt_f, le_t, le_f, eq_t, eq_f, bz_z, bz_o, bz_zo, bzT, bzF, n_em, zu_s, zu_n, not_true_eq_false, not_false_eq_true, and_self, true_and, and_true, false_and, and_false, true_or, or_true, false_or, or_false, or_self, Int.add_sub_cancel, n_0, n_1, n_2, n_3, n_4, n_5, n_6, n_7, n_8, n_9, n_10, n_11, n_12, n_13, n_14, n_15, n_16, n_17, n_18, n_19, n_20, n_21, n_22, n_23, n_24, n_25, n_26, n_27, n_28, n_29, n_30, n_31, n_32, n_33, n_34, n_35, n_36, n_37, n_40, n_44, n_48, n_50, n_57, n_58, n_60, n_65, n_66, n_67, n_68, n_69, n_70, n_71, n_73, n_77, n_80, n_83, n_97, n_98, n_99, n_100, n_101, n_102, n_103, n_104, n_105, n_106, n_107, n_108, n_109, n_110, n_111, n_112, n_113, n_114, n_115, n_116, n_117, n_118, n_120, n_121, n_122, n_180, n_255, n_539, n_600, n_616, n_1200, n_2000, n_3600, n_8400, n_65536, b1, e]
      · intro Km
        rw [← y3 Km]
        conv => lhs; unfold f_X11_dropsTones_L25
        simp (disch := omega) only [↓q_brd, ↓q_gdd, ↓q_lts, ↓reduceIte, ↓q_bds, ↓zq_smi, ↓zq_smr, iI_add, iI_sub, iI_mul, iI_neg, iI_ab3, iI_div, z_emod, aI_rd, aI_wr, aR0, aW0, aR1, aW1, aR2, aW2, aR3, aW3, aR4, aW4, iI_inT, iI_lt, iI_le, iI_eq, lt_t, lt_f, le_t, le_f, eq_t, eq_f, bz_z, bz_o, bz_zo, bzT, bzF, n_em, zu_s, zu_n, not_true_eq_false, not_false_eq_true, and_self, true_and, and_true, false_and, and_false, true_or, or_true, false_or, or_false, or_self, Int.add_sub_cancel, n_0, n_1, n_2, n_3, n_4, n_5, n_6, n_7, n_8, n_9, n_10, n_11, n_12, n_13, n_14, n_15, n_16, n_17, n_18, n_19, n_20, n_21, n_22, n_23, n_24, n_25, n_26, n_27, n_28, n_29, n_30, n_31, n_32, n_33, n_34, n_35, n_36, n_37, n_40, n_44, n_48, n_50, n_57, n_58, n_60, n_65, n_66, n_67, n_68, n_69, n_70, n_71, n_73, n_77, n_80, n_83, n_97, n_98, n_99, n_100, n_101, n_102, n_103, n_104, n_105, n_106, n_107, n_108, n_109, n_110, n_111, n_112, n_113, n_114, n_115, n_116, n_117, n_118, n_120, n_121, n_122, n_180, n_255, n_539, n_600, n_616, n_1200, n_2000, n_3600, n_8400, n_65536, e]
    · obtain ⟨v, hv⟩ : ∃ v, v = if g (37 + 8 * h + i) ≤ q then g (37 + 8 * h + i) else g (37 + 8 * h + i) - 1 := ⟨_, rfl⟩
      have hvr : 0 ≤ v ∧ v < n - 1 := by omega
      obtain ⟨kp', T', g', y1, y2, y3, y4, y5, y6⟩ := ih (i + 1) (kp + 1) (zu T (h * 8 + kp) v) (zu g (37 + 8 * h + kp) v) fl (by omega) (by omega) (by omega) (by omega) (fun k k0 k1 => by
        have := hA k k0
        simp only [zu]
        omega) (fun k k0 k1 => by
        have := hB k (by omega) k1
        simp only [zu]
        omega)
      refine ⟨kp', T', g', by omega, ?_, ?_, y4, fun t ht => ?_, fun t ht => ?_⟩
      · intro Kc
        rw [← y2 Kc]
        conv => lhs; unfold f_X7_forgetBellIn_L19
        by_cases e2 : g (37 + 8 * h + i) ≤ q
        · rw [if_pos e2] at hv
          subst hv
          simp (disch := omega) only [↓q_brd, ↓q_gdd, ↓q_lts, ↓reduceIte, ↓q_bds, ↓zq_smi, ↓zq_smr, iI_add, iI_sub, iI_mul, iI_neg, iI_ab3, iI_div, z_emod, aI_rd, aI_wr, aR0, aW0, aR1, aW1, aR2, aW2, aR3, aW3, aR4, aW4, iI_inT, iI_lt, iI_le, iI_eq, lt_t, lt_f, le_t, le_f, eq_t, eq_f, bz_z, bz_o, bz_zo, bzT, bzF, n_em, zu_s, zu_n, not_true_eq_false, not_false_eq_true, and_self, true_and, and_true, false_and, and_false, true_or, or_true, false_or, or_false, or_self, Int.add_sub_cancel, n_0, n_1, n_2, n_3, n_4, n_5, n_6, n_7, n_8, n_9, n_10, n_11, n_12, n_13, n_14, n_15, n_16, n_17, n_18, n_19, n_20, n_21, n_22, n_23, n_24, n_25, n_26, n_27, n_28, n_29, n_30, n_31, n_32, n_33, n_34, n_35, n_36, n_37, n_40, n_44, n_48, n_50, n_57, n_58, n_60, n_65, n_66, n_67, n_68, n_69, n_70, n_71, n_73, n_77, n_80, n_83, n_97, n_98, n_99, n_100, n_101, n_102, n_103, n_104, n_105, n_106, n_107, n_108, n_109, n_110, n_111, n_112, n_113, n_114, n_115, n_116, n_117, n_118, n_120, n_121, n_122, n_180, n_255, n_539, n_600, n_616, n_1200, n_2000, n_3600, n_8400, n_65536, b1, e]
        · rw [if_neg e2] at hv
          subst hv
          simp (disch := omega) only [↓q_brd, ↓q_gdd, ↓q_lts, ↓reduceIte, ↓q_bds, ↓zq_smi, ↓zq_smr, iI_add, iI_sub, iI_mul, iI_neg, iI_ab3, iI_div, z_emod, aI_rd, aI_wr, aR0, aW0, aR1, aW1, aR2, aW2, aR3, aW3, aR4, aW4, iI_inT, iI_lt, iI_le, iI_eq, lt_t, lt_f, le_t, le_f, eq_t, eq_f, bz_z, bz_o, bz_zo, bzT, bzF, n_em, zu_s, zu_n, not_true_eq_false, not_false_eq_true, and_self, true_and, and_true, false_and, and_false, true_or, or_true, false_or, or_false, or_self, Int.add_sub_cancel, n_0, n_1, n_2, n_3, n_4, n_5, n_6, n_7, n_8, n_9, n_10, n_11, n_12, n_13, n_14, n_15, n_16, n_17, n_18, n_19, n_20, n_21, n_22, n_23, n_24, n_25, n_26, n_27, n_28, n_29, n_30, n_31, n_32, n_33, n_34, n_35, n_36, n_37, n_40, n_44, n_48, n_50, n_57, n_58, n_60, n_65, n_66, n_67, n_68, n_69, n_70, n_71, n_73, n_77, n_80, n_83, n_97, n_98, n_99, n_100, n_101, n_102, n_103, n_104, n_105, n_106, n_107, n_108, n_109, n_110, n_111, n_112, n_113, n_114, n_115, n_116, n_117, n_118, n_120, n_121, n_122, n_180, n_255, n_539, n_600, n_616, n_1200, n_2000, n_3600, n_8400, n_65536, b1, e]
      · intro Km
        rw [← y3 Km]
        conv => lhs; unfold f_X11_dropsTones_L25
        by_cases e2 : g (37 + 8 * h + i) ≤ q
        · rw [if_pos e2] at hv
          subst hv
          simp (disch := omega) only [↓q_brd, ↓q_gdd, ↓q_lts, ↓reduceIte, ↓q_bds, ↓zq_smi, ↓zq_smr, iI_add, iI_sub, iI_mul, iI_neg, iI_ab3, iI_div, z_emod, aI_rd, aI_wr, aR0, aW0, aR1, aW1, aR2, aW2, aR3, aW3, aR4, aW4, iI_inT, iI_lt, iI_le, iI_eq, lt_t, lt_f, le_t, le_f, eq_t, eq_f, bz_z, bz_o, bz_zo, bzT, bzF, n_em, zu_s, zu_n, not_true_eq_false, not_false_eq_true, and_self, true_and, and_true, false_and, and_false, true_or, or_true, false_or, or_false, or_self, Int.add_sub_cancel, n_0, n_1, n_2, n_3, n_4, n_5, n_6, n_7, n_8, n_9, n_10, n_11, n_12, n_13, n_14, n_15, n_16, n_17, n_18, n_19, n_20, n_21, n_22, n_23, n_24, n_25, n_26, n_27, n_28, n_29, n_30, n_31, n_32, n_33, n_34, n_35, n_36, n_37, n_40, n_44, n_48, n_50, n_57, n_58, n_60, n_65, n_66, n_67, n_68, n_69, n_70, n_71, n_73, n_77, n_80, n_83, n_97, n_98, n_99, n_100, n_101, n_102, n_103, n_104, n_105, n_106, n_107, n_108, n_109, n_110, n_111, n_112, n_113, n_114, n_115, n_116, n_117, n_118, n_120, n_121, n_122, n_180, n_255, n_539, n_600, n_616, n_1200, n_2000, n_3600, n_8400, n_65536, e]
        · rw [if_neg e2] at hv
          subst hv
          simp (disch := omega) only [↓q_brd, ↓q_gdd, ↓q_lts, ↓reduceIte, ↓q_bds, ↓zq_smi, ↓zq_smr, iI_add, iI_sub, iI_mul, iI_neg, iI_ab3, iI_div, z_emod, aI_rd, aI_wr, aR0, aW0, aR1, aW1, aR2, aW2, aR3, aW3, aR4, aW4, iI_inT, iI_lt, iI_le, iI_eq, lt_t, lt_f, le_t, le_f, eq_t, eq_f, bz_z, bz_o, bz_zo, bzT, bzF, n_em, zu_s, zu_n, not_true_eq_false, not_false_eq_true, and_self, true_and, and_true, false_and, and_false, true_or, or_true, false_or, or_false, or_self, Int.add_sub_cancel, n_0, n_1, n_2, n_3, n_4, n_5, n_6, n_7, n_8, n_9, n_10, n_11, n_12, n_13, n_14, n_15, n_16, n_17, n_18, n_19, n_20, n_21, n_22, n_23, n_24, n_25, n_26, n_27, n_28, n_29, n_30, n_31, n_32, n_33, n_34, n_35, n_36, n_37, n_40, n_44, n_48, n_50, n_57, n_58, n_60, n_65, n_66, n_67, n_68, n_69, n_70, n_71, n_73, n_77, n_80, n_83, n_97, n_98, n_99, n_100, n_101, n_102, n_103, n_104, n_105, n_106, n_107, n_108, n_109, n_110, n_111, n_112, n_113, n_114, n_115, n_116, n_117, n_118, n_120, n_121, n_122, n_180, n_255, n_539, n_600, n_616, n_1200, n_2000, n_3600, n_8400, n_65536, e]
      · rw [y5 t ht]; simp only [zu]; omega
      · rw [y6 t ht]; simp only [zu]; omega
theorem z_zero_L {v len : Int} (hv : 37 ≤ v ∧ v ≤ 61) (hl : 0 ≤ len ∧ len ≤ 8) (K : (Nat → Int32) → Option (Int32 × (Nat → Int32))) (d : Nat) : ∀ (i : Int) (g : Int → Int) (fuel : Nat), 0 ≤ i → i + d = len → d < fuel →
    f_X11_dropsTones_L86 (iI v) (iI len) K fuel (iI i) (aI g) = K (aI (fun t => if v + i ≤ t ∧ t < v + len then 0 else g t)) := by
  induction d with
  | zero =>
    intro i g fuel h1 h2 h3
    obtain ⟨fl, rfl⟩ : ∃ fl, fuel = fl + 1 := ⟨fuel - 1, by omega⟩
    unfold f_X11_dropsTones_L86
    simp (disch := omega) only [↓q_brd, ↓q_gdd, ↓q_lts, ↓reduceIte, ↓q_bds, ↓zq_smi, ↓zq_smr, iI_add, iI_sub, iI_mul, iI_neg, iI_ab3, iI_div, z_emod, aI_rd, aI_wr, aR0, aW0, aR1, aW1, aR2, aW2, aR3, aW3, aR4, aW4, iI_inT, iI_lt, iI_le, iI_eq, lt_t, lt_f, le_t, le_f, eq_t, eq_f, bz_z, bz_o, bz_zo, bzT, bzF, n_em, zu_s, zu_n, not_true_eq_false, not_false_eq_true, and_self, true_and, and_true, false_and, and_false, true_or, or_true, false_or, or_false, or_self, Int.add_sub_cancel, n_0, n_1, n_2, n_3, n_4, n_5, n_6, n_7, n_8, n_9, n_10, n_11, n_12, n_13, n_14, n_15, n_16, n_17, n_18, n_19, n_20, n_21, n_22, n_23, n_24, n_25, n_26, n_27, n_28, n_29, n_30, n_31, n_32, n_33, n_34, n_35, n_36, n_37, n_40, n_44, n_48, n_50, n_57, n_58, n_60, n_65, n_66, n_67, n_68, n_69, n_70, n_71, n_73, n_77, n_80, n_83, n_97, n_98, n_99, n_100, n_101, n_102, n_103, n_104, n_105, n_106, n_107, n_108, n_109, n_110, n_111, n_112, n_113, n_114, n_115, n_116, n_117, n_118, n_120, n_121, n_122, n_180, n_255, n_539, n_600, n_616, n_1200, n_2000, n_3600, n_8400, n_65536]
    refine congrArg K (congrArg aI (funext fun t => ?_))
    omega
  | succ d ih =>
    intro i g fuel h1 h2 h3
    obtain ⟨fl, rfl⟩ : ∃ fl, fuel = fl + 1 := ⟨fuel - 1, by omega⟩
    unfold f_X11_dropsTones_L86
    simp (disch := omega) only [↓q_brd, ↓q_gdd, ↓q_lts, ↓reduceIte, ↓q_bds, ↓zq_smi, ↓zq_smr, iI_add, iI_sub, iI_mul, iI_neg, iI_ab3, iI_div, z_emod, aI_rd, aI_wr, aR0, aW0, aR1, aW1, aR2, aW2, aR3, aW3, aR4, aW4, iI_inT, iI_lt, iI_le, iI_eq, lt_t, lt_f, le_t, le_f, eq_t, eq_f, bz_z, bz_o, bz_zo, bzT, bzF, n_em, zu_s, zu_n, not_true_eq_false, not_false_eq_true, and_self, true_and, and_true, false_and, and_false, true_or, or_true, false_or, or_false, or_self, Int.add_sub_cancel, n_0, n_1, n_2, n_3, n_4, n_5, n_6, n_7, n_8, n_9, n_10, n_11, n_12, n_13, n_14, n_15, n_16, n_17, n_18, n_19, n_20, n_21, n_22, n_23, n_24, n_25, n_26, n_27, n_28, n_29, n_30, n_31, n_32, n_33, n_34, n_35, n_36, n_37, n_40, n_44, n_48, n_50, n_57, n_58, n_60, n_65, n_66, n_67, n_68, n_69, n_70, n_71, n_73, n_77, n_80, n_83, n_97, n_98, n_99, n_100, n_101, n_102, n_103, n_104, n_105, n_106, n_107, n_108, n_109, n_110, n_111, n_112, n_113, n_114, n_115, n_116, n_117, n_118, n_120, n_121, n_122, n_180, n_255, n_539, n_600, n_616, n_1200, n_2000, n_3600, n_8400, n_65536]
    rw [ih (i + 1) _ fl (by omega) (by omega) (by omega)]
    refine congrArg K (congrArg aI (funext fun t => ?_))
    simp only [zu]
    omega
def MelR (L T g : Int → Int) (m h : Int) : Prop := L h = g (33 + h) ∧ (0 ≤ g (33 + h) ∧ g (33 + h) ≤ 8) ∧ ∀ k, 0 ≤ k → k < g (33 + h) → T (h * 8 + k) = g (37 + 8 * h + k) ∧ 0 ≤ g (37 + 8 * h + k) ∧ g (37 + 8 * h + k) < m
set_option maxHeartbeats 2000000 in
theorem z_herd {n q h : Int} {L T g : Int → Int} (hq : 0 ≤ q ∧ q < n) (hn : n ≤ 12) (hh : 0 ≤ h ∧ h ≤ 3) (hM : MelR L T g n h) :
    ∃ (r : Int) (L' T' g' : Int → Int), f_X7_forgetBellIn (aI L) (aI T) (iI h) (iI q) = some (iI r, aI L', aI T') ∧ f_X11_dropsTones (aI g) (iI h) (iI q) = some (iI r, aI g') ∧ (0 ≤ r ∧ r ≤ 8) ∧ MelR L' T' g' (n - 1) h ∧
      (∀ m h', 0 ≤ h' → h' ≤ 3 → ¬ h' = h → MelR L T g m h' → MelR L' T' g' m h') ∧ (∀ t, t < 33 ∨ 69 ≤ t → g' t = g t) := by
  obtain ⟨m1, m2, m3⟩ := hM
  obtain ⟨kp, T', g', y1, y2, y3, y4, y5, y6⟩ := z_drop_L hq hn hh m2 (g (33 + h)).toNat 0 0 T g 2000 (by omega) (by omega) (by omega) (by omega) (fun k k0 k1 => by omega) m3
  have hz := fun K => z_zero_L (v := 37 + 8 * h) (len := g (33 + h)) (by omega) m2 K (g (33 + h) - kp).toNat kp g' 2000 (by omega) (by omega) (by omega)
  refine ⟨g (33 + h) - kp, zu L h kp, T', zu (fun t => if 37 + 8 * h + kp ≤ t ∧ t < 37 + 8 * h + g (33 + h) then 0 else g' t) (33 + h) kp, ?_, ?_, by omega, ?_, ?_, ?_⟩
  · unfold f_X7_forgetBellIn
    simp (disch := omega) only [↓q_brd, ↓q_gdd, ↓q_lts, ↓reduceIte, ↓q_bds, ↓zq_smi, ↓zq_smr, iI_add, iI_sub, iI_mul, iI_neg, iI_ab3, iI_div, z_emod, aI_rd, aI_wr, aR0, aW0, aR1, aW1, aR2, aW2, aR3, aW3, aR4, aW4, iI_inT, iI_lt, iI_le, iI_eq, lt_t, lt_f, le_t, le_f, eq_t, eq_f, bz_z, bz_o, bz_zo, bzT, bzF, n_em, zu_s, zu_n, not_true_eq_false, not_false_eq_true, and_self, true_and, and_true, false_and, and_false, true_or, or_true, false_or, or_false, or_self, Int.add_sub_cancel, n_0, n_1, n_2, n_3, n_4, n_5, n_6, n_7, n_8, n_9, n_10, n_11, n_12, n_13, n_14, n_15, n_16, n_17, n_18, n_19, n_20, n_21, n_22, n_23, n_24, n_25, n_26, n_27, n_28, n_29, n_30, n_31, n_32, n_33, n_34, n_35, n_36, n_37, n_40, n_44, n_48, n_50, n_57, n_58, n_60, n_65, n_66, n_67, n_68, n_69, n_70, n_71, n_73, n_77, n_80, n_83, n_97, n_98, n_99, n_100, n_101, n_102, n_103, n_104, n_105, n_106, n_107, n_108, n_109, n_110, n_111, n_112, n_113, n_114, n_115, n_116, n_117, n_118, n_120, n_121, n_122, n_180, n_255, n_539, n_600, n_616, n_1200, n_2000, n_3600, n_8400, n_65536, m1, y2]
  · unfold f_X11_dropsTones
    simp (disch := omega) only [↓q_brd, ↓q_gdd, ↓q_lts, ↓reduceIte, ↓q_bds, ↓zq_smi, ↓zq_smr, iI_add, iI_sub, iI_mul, iI_neg, iI_ab3, iI_div, z_emod, aI_rd, aI_wr, aR0, aW0, aR1, aW1, aR2, aW2, aR3, aW3, aR4, aW4, iI_inT, iI_lt, iI_le, iI_eq, lt_t, lt_f, le_t, le_f, eq_t, eq_f, bz_z, bz_o, bz_zo, bzT, bzF, n_em, zu_s, zu_n, not_true_eq_false, not_false_eq_true, and_self, true_and, and_true, false_and, and_false, true_or, or_true, false_or, or_false, or_self, Int.add_sub_cancel, n_0, n_1, n_2, n_3, n_4, n_5, n_6, n_7, n_8, n_9, n_10, n_11, n_12, n_13, n_14, n_15, n_16, n_17, n_18, n_19, n_20, n_21, n_22, n_23, n_24, n_25, n_26, n_27, n_28, n_29, n_30, n_31, n_32, n_33, n_34, n_35, n_36, n_37, n_40, n_44, n_48, n_50, n_57, n_58, n_60, n_65, n_66, n_67, n_68, n_69, n_70, n_71, n_73, n_77, n_80, n_83, n_97, n_98, n_99, n_100, n_101, n_102, n_103, n_104, n_105, n_106, n_107, n_108, n_109, n_110, n_111, n_112, n_113, n_114, n_115, n_116, n_117, n_118, n_120, n_121, n_122, n_180, n_255, n_539, n_600, n_616, n_1200, n_2000, n_3600, n_8400, n_65536, y3, hz]
  · refine ⟨by rw [zu_s rfl, zu_s rfl], by rw [zu_s rfl]; omega, fun k k0 k1 => ?_⟩
    have k2 : k < kp := by rw [zu_s rfl] at k1; exact k1
    have := y4 k k0 k2
    simp only [zu]
    omega
  · rintro m h' x0 x1 x2 ⟨w1, w2, w3⟩
    have a1 : zu (fun t => if 37 + 8 * h + kp ≤ t ∧ t < 37 + 8 * h + g (33 + h) then 0 else g' t) (33 + h) kp (33 + h') = g (33 + h') := by
      have := y6 (33 + h') (by omega)
      simp only [zu]
      omega
    refine ⟨?_, by rw [a1]; exact w2, fun k k0 k1 => ?_⟩
    · rw [a1]; simp only [zu]; omega
    · rw [a1] at k1
      have a2 := y6 (37 + 8 * h' + k) (by omega)
      have a3 := y5 (h' * 8 + k) (by omega)
      have a4 := w3 k k0 k1
      simp only [zu]
      omega
  · intro t ht
    have a2 := y6 t (by omega)
    simp only [zu]
    omega
set_option maxHeartbeats 2000000 in
theorem z_herds {n q : Int} (hq : 0 ≤ q ∧ q < n) (hn : n ≤ 12) (d : Nat) : ∀ (i c : Int) (L T g : Int → Int) (fuel : Nat), 0 ≤ i → i + d = 4 → d < fuel →
    (∀ h, 0 ≤ h → h < i → MelR L T g (n - 1) h) → (∀ h, i ≤ h → h ≤ 3 → MelR L T g n h) →
    ∃ (r : Int) (L' T' g' : Int → Int), f_X7_forgetBell_L4 (iI q) fuel (iI i) (iI c) (aI L) (aI T) = some (iI r, aI L', aI T') ∧ (∀ K, f_X11_removes_L18 (iI q) K fuel (iI i) (iI c) (aI g) = K (iI r) (aI g')) ∧ (c ≤ r ∧ r ≤ c + 8 * d) ∧ (∀ h, 0 ≤ h → h ≤ 3 → MelR L' T' g' (n - 1) h) ∧ (∀ t, t < 33 ∨ 69 ≤ t → g' t = g t) := by
  induction d with
  | zero =>
    intro i c L T g fuel h1 h2 h3 hA hB
    obtain ⟨fl, rfl⟩ : ∃ fl, fuel = fl + 1 := ⟨fuel - 1, by omega⟩
    refine ⟨c, L, T, g, ?_, ?_, by omega, fun h x0 x1 => hA h x0 (by omega), fun t _ => rfl⟩
    · unfold f_X7_forgetBell_L4
      simp (disch := omega) only [↓q_brd, ↓q_gdd, ↓q_lts, ↓reduceIte, ↓q_bds, ↓zq_smi, ↓zq_smr, iI_add, iI_sub, iI_mul, iI_neg, iI_ab3, iI_div, z_emod, aI_rd, aI_wr, aR0, aW0, aR1, aW1, aR2, aW2, aR3, aW3, aR4, aW4, iI_inT, iI_lt, iI_le, iI_eq, lt_t, lt_f, le_t, le_f, eq_t, eq_f, bz_z, bz_o, bz_zo, bzT, bzF, n_em, zu_s, zu_n, not_true_eq_false, not_false_eq_true, and_self, true_and, and_true, false_and, and_false, true_or, or_true, false_or, or_false, or_self, Int.add_sub_cancel, n_0, n_1, n_2, n_3, n_4, n_5, n_6, n_7, n_8, n_9, n_10, n_11, n_12, n_13, n_14, n_15, n_16, n_17, n_18, n_19, n_20, n_21, n_22, n_23, n_24, n_25, n_26, n_27, n_28, n_29, n_30, n_31, n_32, n_33, n_34, n_35, n_36, n_37, n_40, n_44, n_48, n_50, n_57, n_58, n_60, n_65, n_66, n_67, n_68, n_69, n_70, n_71, n_73, n_77, n_80, n_83, n_97, n_98, n_99, n_100, n_101, n_102, n_103, n_104, n_105, n_106, n_107, n_108, n_109, n_110, n_111, n_112, n_113, n_114, n_115, n_116, n_117, n_118, n_120, n_121, n_122, n_180, n_255, n_539, n_600, n_616, n_1200, n_2000, n_3600, n_8400, n_65536]
    · intro K
      unfold f_X11_removes_L18
      simp (disch := omega) only [↓q_brd, ↓q_gdd, ↓q_lts, ↓reduceIte, ↓q_bds, ↓zq_smi, ↓zq_smr, iI_add, iI_sub, iI_mul, iI_neg, iI_ab3, iI_div, z_emod, aI_rd, aI_wr, aR0, aW0, aR1, aW1, aR2, aW2, aR3, aW3, aR4, aW4, iI_inT, iI_lt, iI_le, iI_eq, lt_t, lt_f, le_t, le_f, eq_t, eq_f, bz_z, bz_o, bz_zo, bzT, bzF, n_em, zu_s, zu_n, not_true_eq_false, not_false_eq_true, and_self, true_and, and_true, false_and, and_false, true_or, or_true, false_or, or_false, or_self, Int.add_sub_cancel, n_0, n_1, n_2, n_3, n_4, n_5, n_6, n_7, n_8, n_9, n_10, n_11, n_12, n_13, n_14, n_15, n_16, n_17, n_18, n_19, n_20, n_21, n_22, n_23, n_24, n_25, n_26, n_27, n_28, n_29, n_30, n_31, n_32, n_33, n_34, n_35, n_36, n_37, n_40, n_44, n_48, n_50, n_57, n_58, n_60, n_65, n_66, n_67, n_68, n_69, n_70, n_71, n_73, n_77, n_80, n_83, n_97, n_98, n_99, n_100, n_101, n_102, n_103, n_104, n_105, n_106, n_107, n_108, n_109, n_110, n_111, n_112, n_113, n_114, n_115, n_116, n_117, n_118, n_120, n_121, n_122, n_180, n_255, n_539, n_600, n_616, n_1200, n_2000, n_3600, n_8400, n_65536]
  | succ d ih =>
    intro i c L T g fuel h1 h2 h3 hA hB
    obtain ⟨fl, rfl⟩ : ∃ fl, fuel = fl + 1 := ⟨fuel - 1, by omega⟩
    obtain ⟨r1, L1, T1, g1, y1, y2, y3, y4, y5, y6⟩ := z_herd hq hn ⟨h1, by omega⟩ (hB i (by omega) (by omega))
    obtain ⟨r, L', T', g', w1, w2, w3, w4, w5⟩ := ih (i + 1) (c + r1) L1 T1 g1 fl (by omega) (by omega) (by omega) (fun h x0 x1 => by
      by_cases e : h = i
      · rw [e]; exact y4
      · exact y5 _ h x0 (by omega) e (hA h x0 (by omega))) (fun h x0 x1 => y5 _ h (by omega) x1 (by omega) (hB h (by omega) x1))
    refine ⟨r, L', T', g', ?_, ?_, by omega, w4, fun t ht => by rw [w5 t ht, y6 t ht]⟩
    · rw [← w1]
      conv => lhs; unfold f_X7_forgetBell_L4
      simp (disch := omega) only [↓q_brd, ↓q_gdd, ↓q_lts, ↓reduceIte, ↓q_bds, ↓zq_smi, ↓zq_smr, iI_add, iI_sub, iI_mul, iI_neg, iI_ab3, iI_div, z_emod, aI_rd, aI_wr, aR0, aW0, aR1, aW1, aR2, aW2, aR3, aW3, aR4, aW4, iI_inT, iI_lt, iI_le, iI_eq, lt_t, lt_f, le_t, le_f, eq_t, eq_f, bz_z, bz_o, bz_zo, bzT, bzF, n_em, zu_s, zu_n, not_true_eq_false, not_false_eq_true, and_self, true_and, and_true, false_and, and_false, true_or, or_true, false_or, or_false, or_self, Int.add_sub_cancel, n_0, n_1, n_2, n_3, n_4, n_5, n_6, n_7, n_8, n_9, n_10, n_11, n_12, n_13, n_14, n_15, n_16, n_17, n_18, n_19, n_20, n_21, n_22, n_23, n_24, n_25, n_26, n_27, n_28, n_29, n_30, n_31, n_32, n_33, n_34, n_35, n_36, n_37, n_40, n_44, n_48, n_50, n_57, n_58, n_60, n_65, n_66, n_67, n_68, n_69, n_70, n_71, n_73, n_77, n_80, n_83, n_97, n_98, n_99, n_100, n_101, n_102, n_103, n_104, n_105, n_106, n_107, n_108, n_109, n_110, n_111, n_112, n_113, n_114, n_115, n_116, n_117, n_118, n_120, n_121, n_122, n_180, n_255, n_539, n_600, n_616, n_1200, n_2000, n_3600, n_8400, n_65536, y1]
    · intro K
      rw [← w2 K]
      conv => lhs; unfold f_X11_removes_L18
      simp (disch := omega) only [↓q_brd, ↓q_gdd, ↓q_lts, ↓reduceIte, ↓q_bds, ↓zq_smi, ↓zq_smr, iI_add, iI_sub, iI_mul, iI_neg, iI_ab3, iI_div, z_emod, aI_rd, aI_wr, aR0, aW0, aR1, aW1, aR2, aW2, aR3, aW3, aR4, aW4, iI_inT, iI_lt, iI_le, iI_eq, lt_t, lt_f, le_t, le_f, eq_t, eq_f, bz_z, bz_o, bz_zo, bzT, bzF, n_em, zu_s, zu_n, not_true_eq_false, not_false_eq_true, and_self, true_and, and_true, false_and, and_false, true_or, or_true, false_or, or_false, or_self, Int.add_sub_cancel, n_0, n_1, n_2, n_3, n_4, n_5, n_6, n_7, n_8, n_9, n_10, n_11, n_12, n_13, n_14, n_15, n_16, n_17, n_18, n_19, n_20, n_21, n_22, n_23, n_24, n_25, n_26, n_27, n_28, n_29, n_30, n_31, n_32, n_33, n_34, n_35, n_36, n_37, n_40, n_44, n_48, n_50, n_57, n_58, n_60, n_65, n_66, n_67, n_68, n_69, n_70, n_71, n_73, n_77, n_80, n_83, n_97, n_98, n_99, n_100, n_101, n_102, n_103, n_104, n_105, n_106, n_107, n_108, n_109, n_110, n_111, n_112, n_113, n_114, n_115, n_116, n_117, n_118, n_120, n_121, n_122, n_180, n_255, n_539, n_600, n_616, n_1200, n_2000, n_3600, n_8400, n_65536, y2]
theorem shB_o {g : Int → Int} {i t : Int} (h : 0 ≤ i ∧ (t < 5 ∨ 29 ≤ t)) : shB g i t = g t := by unfold shB; omega
theorem shB_h {g : Int → Int} {i k : Int} (h : 0 ≤ i ∧ 0 ≤ k ∧ k < 11) : shB g i (5 + k) = if i ≤ k then g (5 + (k + 1)) else g (5 + k) := by
  rw [show 5 + (k + 1) = 5 + k + 1 by omega]; unfold shB; omega
theorem shB_p {g : Int → Int} {i k : Int} (h : 0 ≤ i ∧ 0 ≤ k ∧ k < 11) : shB g i (17 + k) = if i ≤ k then g (17 + (k + 1)) else g (17 + k) := by
  rw [show 17 + (k + 1) = 17 + k + 1 by omega]; unfold shB; omega
set_option maxHeartbeats 2000000 in
theorem op_1 {V : Valley_t} {G : Int → Int} (hV : RV V G) (hG : VOk G) {a b : Int} (hr : (-2147483648 ≤ a ∧ a < 2147483648) ∧ (-2147483648 ≤ b ∧ b < 2147483648)) : OpS 1 V G a b := by
  obtain ⟨H, P, L, E, T, D, S, rfl, hB, hM, hC⟩ := hV
  obtain ⟨g0, g1, g2, g3, g4, hb, hm, hc⟩ := id hG
  by_cases c1 : 0 ≤ a ∧ a ≤ G 0 - 1
  · have hMR : ∀ h, 0 ≤ h → h ≤ 3 → MelR L T G (G 0) h := fun h x0 x1 => ⟨(hM h x0 x1).1, (hm h x0 x1).2.1, fun k k0 k1 => ⟨(hM h x0 x1).2.2 k k0 k1, (hm h x0 x1).2.2 k k0 k1⟩⟩
    have hex : ∃ (r : Int) (L' T' g' : Int → Int), f_X7_forgetBell_L4 (iI a) 2000 (iI 0) (iI 0) (aI L) (aI T) = some (iI r, aI L', aI T') ∧ (∀ K, f_X11_removes_L18 (iI a) K 2000 (iI 0) (iI 0) (aI G) = K (iI r) (aI g')) ∧ (0 ≤ r ∧ r ≤ 32) ∧ (∀ h, 0 ≤ h → h ≤ 3 → MelR L' T' g' (G 0 - 1) h) ∧ (∀ t, t < 33 ∨ 69 ≤ t → g' t = G t) := by
      obtain ⟨r, L', T', g', y1, y2, y3, y4, y5⟩ := z_herds (n := G 0) (q := a) (by omega) (by omega) 4 0 0 L T G 2000 (by omega) (by omega) (by omega) (fun h x0 x1 => by omega) hMR
      exact ⟨r, L', T', g', y1, y2, by omega, y4, y5⟩
    obtain ⟨r, L', T', g', y1, y2, y3, y4, y5⟩ := hex
    have htk := fun K => z_take_L (c := G 0) (by omega) K (G 0 - 1 - a).toNat a H P 2000 (by omega) (by omega) (by omega)
    have hrm := fun K => z_removes_L K (12 - a).toNat a g' 2000 (by omega) (by omega) (by omega)
    have e0 : shB g' a 0 = G 0 := by rw [shB_o (by omega), y5 0 (by omega)]
    have e5 : ∀ t, ¬ t = 0 → t < 5 → zu (shB g' a) 0 (G 0 - 1) t = G t := fun t h1 h2 => by rw [zu_n h1, shB_o (by omega), y5 t (by omega)]
    have e6 : zu (shB g' a) 0 (G 0 - 1) 0 = G 0 - 1 := zu_s rfl
    have e7 : ∀ k, 0 ≤ k → k < 11 → zu (shB g' a) 0 (G 0 - 1) (5 + k) = if a ≤ k then G (5 + (k + 1)) else G (5 + k) := fun k h1 h2 => by rw [zu_n (by omega), shB_h (by omega), y5 _ (by omega), y5 _ (by omega)]
    have e8 : ∀ k, 0 ≤ k → k < 11 → zu (shB g' a) 0 (G 0 - 1) (17 + k) = if a ≤ k then G (17 + (k + 1)) else G (17 + k) := fun k h1 h2 => by rw [zu_n (by omega), shB_p (by omega), y5 _ (by omega), y5 _ (by omega)]
    have e9 : ∀ t, 29 ≤ t → zu (shB g' a) 0 (G 0 - 1) t = g' t := fun t h1 => by rw [zu_n (by omega), shB_o (by omega)]
    refine ⟨r, r, 0, ((iI (G 2), iI (G 3), iI (G 4)), (aI (shC H a (G 0)), aI (shC P a (G 0)), iI (G 0 - 1)), (aI L', aI E, aI T'), (aI D, aI S, iI (G 1))), zu (shB g' a) 0 (G 0 - 1), ?_, ?_, Or.inl ⟨rfl, rfl, by omega, ⟨shC H a (G 0), shC P a (G 0), L', E, T', D, S, ?_, ?_, ?_, ?_⟩, ?_, ?_, ?_, ?_, ?_, ?_, ?_, ?_⟩⟩
    · show q_bd (f_X9_takeAway _ _ _ _ _ _) _ = _
      unfold f_X9_takeAway f_X1_takeDown f_X7_forgetBell
      simp (disch := omega) only [↓q_brd, ↓q_gdd, ↓q_lts, ↓reduceIte, ↓q_bds, ↓zq_smi, ↓zq_smr, iI_add, iI_sub, iI_mul, iI_neg, iI_ab3, iI_div, z_emod, aI_rd, aI_wr, aR0, aW0, aR1, aW1, aR2, aW2, aR3, aW3, aR4, aW4, iI_inT, iI_lt, iI_le, iI_eq, lt_t, lt_f, le_t, le_f, eq_t, eq_f, bz_z, bz_o, bz_zo, bzT, bzF, n_em, zu_s, zu_n, not_true_eq_false, not_false_eq_true, and_self, true_and, and_true, false_and, and_false, true_or, or_true, false_or, or_false, or_self, Int.add_sub_cancel, n_0, n_1, n_2, n_3, n_4, n_5, n_6, n_7, n_8, n_9, n_10, n_11, n_12, n_13, n_14, n_15, n_16, n_17, n_18, n_19, n_20, n_21, n_22, n_23, n_24, n_25, n_26, n_27, n_28, n_29, n_30, n_31, n_32, n_33, n_34, n_35, n_36, n_37, n_40, n_44, n_48, n_50, n_57, n_58, n_60, n_65, n_66, n_67, n_68, n_69, n_70, n_71, n_73, n_77, n_80, n_83, n_97, n_98, n_99, n_100, n_101, n_102, n_103, n_104, n_105, n_106, n_107, n_108, n_109, n_110, n_111, n_112, n_113, n_114, n_115, n_116, n_117, n_118, n_120, n_121, n_122, n_180, n_255, n_539, n_600, n_616, n_1200, n_2000, n_3600, n_8400, n_65536, z_has, htk, y1]
    · intro th
      show f_X11_removes _ _ _ = _
      unfold f_X11_removes f_X11_done
      simp (disch := omega) only [↓q_brd, ↓q_gdd, ↓q_lts, ↓reduceIte, ↓q_bds, ↓zq_smi, ↓zq_smr, iI_add, iI_sub, iI_mul, iI_neg, iI_ab3, iI_div, z_emod, aI_rd, aI_wr, aR0, aW0, aR1, aW1, aR2, aW2, aR3, aW3, aR4, aW4, iI_inT, iI_lt, iI_le, iI_eq, lt_t, lt_f, le_t, le_f, eq_t, eq_f, bz_z, bz_o, bz_zo, bzT, bzF, n_em, zu_s, zu_n, not_true_eq_false, not_false_eq_true, and_self, true_and, and_true, false_and, and_false, true_or, or_true, false_or, or_false, or_self, Int.add_sub_cancel, n_0, n_1, n_2, n_3, n_4, n_5, n_6, n_7, n_8, n_9, n_10, n_11, n_12, n_13, n_14, n_15, n_16, n_17, n_18, n_19, n_20, n_21, n_22, n_23, n_24, n_25, n_26, n_27, n_28, n_29, n_30, n_31, n_32, n_33, n_34, n_35, n_36, n_37, n_40, n_44, n_48, n_50, n_57, n_58, n_60, n_65, n_66, n_67, n_68, n_69, n_70, n_71, n_73, n_77, n_80, n_83, n_97, n_98, n_99, n_100, n_101, n_102, n_103, n_104, n_105, n_106, n_107, n_108, n_109, n_110, n_111, n_112, n_113, n_114, n_115, n_116, n_117, n_118, n_120, n_121, n_122, n_180, n_255, n_539, n_600, n_616, n_1200, n_2000, n_3600, n_8400, n_65536, z_isBell, y2, hrm, e0]
    · rw [e5 2 (by omega) (by omega), e5 3 (by omega) (by omega), e5 4 (by omega) (by omega), e5 1 (by omega) (by omega), e6]
    · intro k k0 k1
      rw [e6] at k1
      rw [e7 k k0 (by omega), e8 k k0 (by omega)]
      have y := hB k k0
      have y2 := hB (k + 1) (by omega)
      unfold shC
      omega
    · intro h h0 h1
      obtain ⟨w1, w2, w3⟩ := y4 h h0 h1
      rw [e9 _ (by omega), e9 _ (by omega)]
      refine ⟨w1, by rw [y5 _ (by omega)]; exact (hM h h0 h1).2.1, fun k k0 k1 => ?_⟩
      rw [e9 _ (by omega)]
      exact (w3 k k0 k1).1
    · intro k k0 k1
      rw [e5 1 (by omega) (by omega)] at k1
      rw [e9 _ (by omega), e9 _ (by omega), y5 _ (by omega), y5 _ (by omega)]
      exact hC k k0 k1
    · rw [e6]; omega
    · rw [e5 1 (by omega) (by omega)]; exact g1
    · rw [e5 2 (by omega) (by omega)]; exact g2
    · rw [e5 3 (by omega) (by omega)]; exact g3
    · rw [e5 4 (by omega) (by omega)]; exact g4
    · intro k k0 k1
      rw [e6] at k1
      rw [e7 k k0 (by omega), e8 k k0 (by omega)]
      have y := hb k k0
      have y2 := hb (k + 1) (by omega)
      omega
    · intro h h0 h1
      obtain ⟨w1, w2, w3⟩ := y4 h h0 h1
      rw [e9 _ (by omega), e9 _ (by omega), e6]
      refine ⟨by rw [y5 _ (by omega)]; exact (hm h h0 h1).1, w2, fun k k0 k1 => ?_⟩
      rw [e9 _ (by omega)]
      exact (w3 k k0 k1).2
    · intro k k0 k1
      rw [e5 1 (by omega) (by omega)] at k1
      rw [e9 _ (by omega), e9 _ (by omega), y5 _ (by omega), y5 _ (by omega)]
      exact hc k k0 k1
  · refine ⟨-1, 0, 1, _, G, ?_, ?_, Or.inr ⟨by decide, rfl, by first | exact fun h => h | (intro h; change _ ∧ _ at h; omega)⟩⟩
    · show q_bd (f_X9_takeAway _ _ _ _ _ _) _ = _
      unfold f_X9_takeAway
      try simp (disch := omega) only [iI_add, iI_sub, iI_mul, iI_neg, n_0, n_1, n_2, n_3, n_4, n_5, n_6, n_7, n_8, n_9, n_10, n_11, n_12, n_13, n_14, n_15, n_16, n_17, n_18, n_19, n_20, n_21, n_22, n_23, n_24, n_25, n_26, n_27, n_28, n_29, n_30, n_31, n_32, n_33, n_34, n_35, n_36, n_37, n_40, n_44, n_48, n_50, n_57, n_58, n_60, n_65, n_66, n_67, n_68, n_69, n_70, n_71, n_73, n_77, n_80, n_83, n_97, n_98, n_99, n_100, n_101, n_102, n_103, n_104, n_105, n_106, n_107, n_108, n_109, n_110, n_111, n_112, n_113, n_114, n_115, n_116, n_117, n_118, n_120, n_121, n_122, n_180, n_255, n_539, n_600, n_616, n_1200, n_2000, n_3600, n_8400, n_65536, z_has, c1]
      simp (disch := omega) only [↓q_brd, ↓q_gdd, ↓q_lts, ↓reduceIte, ↓q_bds, ↓zq_smi, ↓zq_smr, iI_add, iI_sub, iI_mul, iI_neg, iI_ab3, iI_div, z_emod, aI_rd, aI_wr, aR0, aW0, aR1, aW1, aR2, aW2, aR3, aW3, aR4, aW4, iI_inT, iI_lt, iI_le, iI_eq, lt_t, lt_f, le_t, le_f, eq_t, eq_f, bz_z, bz_o, bz_zo, bzT, bzF, n_em, zu_s, zu_n, not_true_eq_false, not_false_eq_true, and_self, true_and, and_true, false_and, and_false, true_or, or_true, false_or, or_false, or_self, Int.add_sub_cancel, n_0, n_1, n_2, n_3, n_4, n_5, n_6, n_7, n_8, n_9, n_10, n_11, n_12, n_13, n_14, n_15, n_16, n_17, n_18, n_19, n_20, n_21, n_22, n_23, n_24, n_25, n_26, n_27, n_28, n_29, n_30, n_31, n_32, n_33, n_34, n_35, n_36, n_37, n_40, n_44, n_48, n_50, n_57, n_58, n_60, n_65, n_66, n_67, n_68, n_69, n_70, n_71, n_73, n_77, n_80, n_83, n_97, n_98, n_99, n_100, n_101, n_102, n_103, n_104, n_105, n_106, n_107, n_108, n_109, n_110, n_111, n_112, n_113, n_114, n_115, n_116, n_117, n_118, n_120, n_121, n_122, n_180, n_255, n_539, n_600, n_616, n_1200, n_2000, n_3600, n_8400, n_65536, z_has, c1]
    · intro th
      show f_X11_removes _ _ _ = _
      unfold f_X11_removes f_X11_fails
      try simp (disch := omega) only [iI_add, iI_sub, iI_mul, iI_neg, n_0, n_1, n_2, n_3, n_4, n_5, n_6, n_7, n_8, n_9, n_10, n_11, n_12, n_13, n_14, n_15, n_16, n_17, n_18, n_19, n_20, n_21, n_22, n_23, n_24, n_25, n_26, n_27, n_28, n_29, n_30, n_31, n_32, n_33, n_34, n_35, n_36, n_37, n_40, n_44, n_48, n_50, n_57, n_58, n_60, n_65, n_66, n_67, n_68, n_69, n_70, n_71, n_73, n_77, n_80, n_83, n_97, n_98, n_99, n_100, n_101, n_102, n_103, n_104, n_105, n_106, n_107, n_108, n_109, n_110, n_111, n_112, n_113, n_114, n_115, n_116, n_117, n_118, n_120, n_121, n_122, n_180, n_255, n_539, n_600, n_616, n_1200, n_2000, n_3600, n_8400, n_65536, z_isBell, c1]
      simp (disch := omega) only [↓q_brd, ↓q_gdd, ↓q_lts, ↓reduceIte, ↓q_bds, ↓zq_smi, ↓zq_smr, iI_add, iI_sub, iI_mul, iI_neg, iI_ab3, iI_div, z_emod, aI_rd, aI_wr, aR0, aW0, aR1, aW1, aR2, aW2, aR3, aW3, aR4, aW4, iI_inT, iI_lt, iI_le, iI_eq, lt_t, lt_f, le_t, le_f, eq_t, eq_f, bz_z, bz_o, bz_zo, bzT, bzF, n_em, zu_s, zu_n, not_true_eq_false, not_false_eq_true, and_self, true_and, and_true, false_and, and_false, true_or, or_true, false_or, or_false, or_self, Int.add_sub_cancel, n_0, n_1, n_2, n_3, n_4, n_5, n_6, n_7, n_8, n_9, n_10, n_11, n_12, n_13, n_14, n_15, n_16, n_17, n_18, n_19, n_20, n_21, n_22, n_23, n_24, n_25, n_26, n_27, n_28, n_29, n_30, n_31, n_32, n_33, n_34, n_35, n_36, n_37, n_40, n_44, n_48, n_50, n_57, n_58, n_60, n_65, n_66, n_67, n_68, n_69, n_70, n_71, n_73, n_77, n_80, n_83, n_97, n_98, n_99, n_100, n_101, n_102, n_103, n_104, n_105, n_106, n_107, n_108, n_109, n_110, n_111, n_112, n_113, n_114, n_115, n_116, n_117, n_118, n_120, n_121, n_122, n_180, n_255, n_539, n_600, n_616, n_1200, n_2000, n_3600, n_8400, n_65536, z_isBell, c1]
