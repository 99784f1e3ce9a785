def SR (F G : Int → Int) (n : Int) : Prop := (0 ≤ n ∧ n ≤ 20) ∧ (∀ k, 0 ≤ k → k < n → F k = G k ∧ 24 ≤ F k ∧ F k ≤ 96) ∧ ∀ j k, 0 ≤ j → j < k → k < n → F j ≤ F k
theorem z_ins_L {v : Int} (hv : 24 ≤ v ∧ v ≤ 96) (d : Nat) : ∀ (p : Int) (F G : Int → Int) (fuel : Nat), p = d → p ≤ 19 → d < fuel → (∀ k, 0 ≤ k → k < p → F k = G k ∧ 24 ≤ F k ∧ F k ≤ 96) →
    ∃ q F' G', (∀ K, f_X2_insert_L15 (iI v) K fuel (iI p) (aI F) = K (iI q) (aI F')) ∧ (∀ K, f_X11_hears_L5 (iI v) K fuel (iI p) (aI G) = K (iI q) (aI G')) ∧ (0 ≤ q ∧ q ≤ p) ∧ (∀ k, k < q → F' k = F k ∧ G' k = G k) ∧ (∀ k, q ≤ k → k < p → v < F k ∧ F' (k + 1) = F k ∧ G' (k + 1) = G k) ∧ (q = 0 ∨ F (q - 1) ≤ v) ∧ ∀ k, p < k → F' k = F k ∧ G' k = G k := by
  induction d with
  | zero =>
    intro p F G fuel h1 h2 h3 h4
    obtain ⟨fl, rfl⟩ : ∃ fl, fuel = fl + 1 := ⟨fuel - 1, by omega⟩
    have h1 : p = 0 := h1
    subst h1
    refine ⟨0, F, G, fun K => ?_, fun K => ?_, by omega, fun k _ => ⟨rfl, rfl⟩, fun k _ _ => by omega, Or.inl rfl, fun k _ => ⟨rfl, rfl⟩⟩
    · unfold f_X2_insert_L15
      simp (disch := omega) only [↓q_brd, ↓q_gdd, ↓q_lts, ↓reduceIte, ↓q_bds, ↓zq_smi, ↓zq_smr, iI_add, iI_sub, iI_mul, iI_neg, iI_ab3, iI_div, z_emod, aI_rd, aI_wr, aR0, aW0, aR1, aW1, aR2, aW2, aR3, aW3, aR4, aW4, iI_inT, iI_lt, iI_le, iI_eq, lt_t, lt_f, le_t, le_f, eq_t, eq_f, bz_z, bz_o, bz_zo, bzT, bzF, n_em, zu_s, zu_n, not_true_eq_false, not_false_eq_true, and_self, true_and, and_true, false_and, and_false, true_or, or_true, false_or, or_false, or_self, Int.add_sub_cancel, n_0, n_1, n_2, n_3, n_4, n_5, n_6, n_7, n_8, n_9, n_10, n_11, n_12, n_13, n_14, n_15, n_16, n_17, n_18, n_19, n_20, n_21, n_22, n_23, n_24, n_25, n_26, n_27, n_28, n_29, n_30, n_31, n_32, n_33, n_34, n_35, n_36, n_37, n_40, n_44, n_48, n_50, n_57, n_58, n_60, n_65, n_66, n_67, n_68, n_69, n_70, n_71, n_73, n_77, n_80, n_83, n_97, n_98, n_99, n_100, n_101, n_102, n_103, n_104, n_105, n_106, n_107, n_108, n_109, n_110, n_111, n_112, n_113, n_114, n_115, n_116, n_117, n_118, n_120, n_121, n_122, n_180, n_255, n_539, n_600, n_616, n_1200, n_2000, n_3600, n_8400, n_65536]
    · unfold f_X11_hears_L5
      simp (disch := omega) only [↓q_brd, ↓q_gdd, ↓q_lts, ↓reduceIte, ↓q_bds, ↓zq_smi, ↓zq_smr, iI_add, iI_sub, iI_mul, iI_neg, iI_ab3, iI_div, z_emod, aI_rd, aI_wr, aR0, aW0, aR1, aW1, aR2, aW2, aR3, aW3, aR4, aW4, iI_inT, iI_lt, iI_le, iI_eq, lt_t, lt_f, le_t, le_f, eq_t, eq_f, bz_z, bz_o, bz_zo, bzT, bzF, n_em, zu_s, zu_n, not_true_eq_false, not_false_eq_true, and_self, true_and, and_true, false_and, and_false, true_or, or_true, false_or, or_false, or_self, Int.add_sub_cancel, n_0, n_1, n_2, n_3, n_4, n_5, n_6, n_7, n_8, n_9, n_10, n_11, n_12, n_13, n_14, n_15, n_16, n_17, n_18, n_19, n_20, n_21, n_22, n_23, n_24, n_25, n_26, n_27, n_28, n_29, n_30, n_31, n_32, n_33, n_34, n_35, n_36, n_37, n_40, n_44, n_48, n_50, n_57, n_58, n_60, n_65, n_66, n_67, n_68, n_69, n_70, n_71, n_73, n_77, n_80, n_83, n_97, n_98, n_99, n_100, n_101, n_102, n_103, n_104, n_105, n_106, n_107, n_108, n_109, n_110, n_111, n_112, n_113, n_114, n_115, n_116, n_117, n_118, n_120, n_121, n_122, n_180, n_255, n_539, n_600, n_616, n_1200, n_2000, n_3600, n_8400, n_65536]
  | succ d ih =>
    intro p F G fuel h1 h2 h3 h4
    obtain ⟨fl, rfl⟩ : ∃ fl, fuel = fl + 1 := ⟨fuel - 1, by omega⟩
    obtain ⟨e1, e2⟩ := h4 (p - 1) (by omega) (by omega)
    have e3 : 24 ≤ G (p - 1) ∧ G (p - 1) ≤ 96 := by omega
    by_cases c : F (p - 1) ≤ v
    · have c2 : G (p - 1) ≤ v := by omega
      refine ⟨p, F, G, fun K => ?_, fun K => ?_, by omega, fun k _ => ⟨rfl, rfl⟩, fun k _ _ => by omega, Or.inr c, fun k _ => ⟨rfl, rfl⟩⟩
      · unfold f_X2_insert_L15
        simp (disch := omega) only [↓q_brd, ↓q_gdd, ↓q_lts, ↓reduceIte, ↓q_bds, ↓zq_smi, ↓zq_smr, iI_add, iI_sub, iI_mul, iI_neg, iI_ab3, iI_div, z_emod, aI_rd, aI_wr, aR0, aW0, aR1, aW1, aR2, aW2, aR3, aW3, aR4, aW4, iI_inT, iI_lt, iI_le, iI_eq, lt_t, lt_f, le_t, le_f, eq_t, eq_f, bz_z, bz_o, bz_zo, bzT, bzF, n_em, zu_s, zu_n, not_true_eq_false, not_false_eq_true, and_self, true_and, and_true, false_and, and_false, true_or, or_true, false_or, or_false, or_self, Int.add_sub_cancel, n_0, n_1, n_2, n_3, n_4, n_5, n_6, n_7, n_8, n_9, n_10, n_11, n_12, n_13, n_14, n_15, n_16, n_17, n_18, n_19, n_20, n_21, n_22, n_23, n_24, n_25, n_26, n_27, n_28, n_29, n_30, n_31, n_32, n_33, n_34, n_35, n_36, n_37, n_40, n_44, n_48, n_50, n_57, n_58, n_60, n_65, n_66, n_67, n_68, n_69, n_70, n_71, n_73, n_77, n_80, n_83, n_97, n_98, n_99, n_100, n_101, n_102, n_103, n_104, n_105, n_106, n_107, n_108, n_109, n_110, n_111, n_112, n_113, n_114, n_115, n_116, n_117, n_118, n_120, n_121, n_122, n_180, n_255, n_539, n_600, n_616, n_1200, n_2000, n_3600, n_8400, n_65536]
      · unfold f_X11_hears_L5
        simp (disch := omega) only [↓q_brd, ↓q_gdd, ↓q_lts, ↓reduceIte, ↓q_bds, ↓zq_smi, ↓zq_smr, iI_add, iI_sub, iI_mul, iI_neg, iI_ab3, iI_div, z_emod, aI_rd, aI_wr, aR0, aW0, aR1, aW1, aR2, aW2, aR3, aW3, aR4, aW4, iI_inT, iI_lt, iI_le, iI_eq, lt_t, lt_f, le_t, le_f, eq_t, eq_f, bz_z, bz_o, bz_zo, bzT, bzF, n_em, zu_s, zu_n, not_true_eq_false, not_false_eq_true, and_self, true_and, and_true, false_and, and_false, true_or, or_true, false_or, or_false, or_self, Int.add_sub_cancel, n_0, n_1, n_2, n_3, n_4, n_5, n_6, n_7, n_8, n_9, n_10, n_11, n_12, n_13, n_14, n_15, n_16, n_17, n_18, n_19, n_20, n_21, n_22, n_23, n_24, n_25, n_26, n_27, n_28, n_29, n_30, n_31, n_32, n_33, n_34, n_35, n_36, n_37, n_40, n_44, n_48, n_50, n_57, n_58, n_60, n_65, n_66, n_67, n_68, n_69, n_70, n_71, n_73, n_77, n_80, n_83, n_97, n_98, n_99, n_100, n_101, n_102, n_103, n_104, n_105, n_106, n_107, n_108, n_109, n_110, n_111, n_112, n_113, n_114, n_115, n_116, n_117, n_118, n_120, n_121, n_122, n_180, n_255, n_539, n_600, n_616, n_1200, n_2000, n_3600, n_8400, n_65536]
    · have c2 : ¬ G (p - 1) ≤ v := by omega
      obtain ⟨q, F', G', w1, w2, w3, w4, w5, w6, w7⟩ := ih (p + -1) (zu F p (F (p - 1))) (zu G p (G (p - 1))) fl (by omega) (by omega) (by omega) (fun k k0 k1 => by
        have := h4 k k0 (by omega)
        rw [zu_n (by omega), zu_n (by omega)]
        exact this)
      have o : p + -1 - 1 = p - 1 - 1 := by omega
      refine ⟨q, F', G', fun K => ?_, fun K => ?_, by omega, fun k k1 => ?_, fun k k0 k1 => ?_, ?_, fun k k0 => ?_⟩
      · unfold f_X2_insert_L15
        simp (disch := omega) only [↓q_brd, ↓q_gdd, ↓q_lts, ↓reduceIte, ↓q_bds, ↓zq_smi, ↓zq_smr, iI_add, iI_sub, iI_mul, iI_neg, iI_ab3, iI_div, z_emod, aI_rd, aI_wr, aR0, aW0, aR1, aW1, aR2, aW2, aR3, aW3, aR4, aW4, iI_inT, iI_lt, iI_le, iI_eq, lt_t, lt_f, le_t, le_f, eq_t, eq_f, bz_z, bz_o, bz_zo, bzT, bzF, n_em, zu_s, zu_n, not_true_eq_false, not_false_eq_true, and_self, true_and, and_true, false_and, and_false, true_or, or_true, false_or, or_false, or_self, Int.add_sub_cancel, n_0, n_1, n_2, n_3, n_4, n_5, n_6, n_7, n_8, n_9, n_10, n_11, n_12, n_13, n_14, n_15, n_16, n_17, n_18, n_19, n_20, n_21, n_22, n_23, n_24, n_25, n_26, n_27, n_28, n_29, n_30, n_31, n_32, n_33, n_34, n_35, n_36, n_37, n_40, n_44, n_48, n_50, n_57, n_58, n_60, n_65, n_66, n_67, n_68, n_69, n_70, n_71, n_73, n_77, n_80, n_83, n_97, n_98, n_99, n_100, n_101, n_102, n_103, n_104, n_105, n_106, n_107, n_108, n_109, n_110, n_111, n_112, n_113, n_114, n_115, n_116, n_117, n_118, n_120, n_121, n_122, n_180, n_255, n_539, n_600, n_616, n_1200, n_2000, n_3600, n_8400, n_65536, w1]
      · unfold f_X11_hears_L5
        simp (disch := omega) only [↓q_brd, ↓q_gdd, ↓q_lts, ↓reduceIte, ↓q_bds, ↓zq_smi, ↓zq_smr, iI_add, iI_sub, iI_mul, iI_neg, iI_ab3, iI_div, z_emod, aI_rd, aI_wr, aR0, aW0, aR1, aW1, aR2, aW2, aR3, aW3, aR4, aW4, iI_inT, iI_lt, iI_le, iI_eq, lt_t, lt_f, le_t, le_f, eq_t, eq_f, bz_z, bz_o, bz_zo, bzT, bzF, n_em, zu_s, zu_n, not_true_eq_false, not_false_eq_true, and_self, true_and, and_true, false_and, and_false, true_or, or_true, false_or, or_false, or_self, Int.add_sub_cancel, n_0, n_1, n_2, n_3, n_4, n_5, n_6, n_7, n_8, n_9, n_10, n_11, n_12, n_13, n_14, n_15, n_16, n_17, n_18, n_19, n_20, n_21, n_22, n_23, n_24, n_25, n_26, n_27, n_28, n_29, n_30, n_31, n_32, n_33, n_34, n_35, n_36, n_37, n_40, n_44, n_48, n_50, n_57, n_58, n_60, n_65, n_66, n_67, n_68, n_69, n_70, n_71, n_73, n_77, n_80, n_83, n_97, n_98, n_99, n_100, n_101, n_102, n_103, n_104, n_105, n_106, n_107, n_108, n_109, n_110, n_111, n_112, n_113, n_114, n_115, n_116, n_117, n_118, n_120, n_121, n_122, n_180, n_255, n_539, n_600, n_616, n_1200, n_2000, n_3600, n_8400, n_65536, w2]
      · have := w4 k k1
        rw [zu_n (by omega), zu_n (by omega)] at this
        exact this
      · by_cases c3 : k = p - 1
        · subst c3
          have := w7 (p - 1 + 1) (by omega)
          rw [zu_s (by omega), zu_s (by omega)] at this
          exact ⟨by omega, this⟩
        · have := w5 k k0 (by omega)
          rw [zu_n (by omega), zu_n (by omega)] at this
          exact this
      · rcases w6 with w6 | w6
        · exact Or.inl w6
        · rw [zu_n (by omega)] at w6
          exact Or.inr w6
      · have := w7 k (by omega)
        rw [zu_n (by omega), zu_n (by omega)] at this
        exact this
theorem z_ins {F G : Int → Int} {n v : Int} (h : SR F G n) (hn : n ≤ 19) (hv : 24 ≤ v ∧ v ≤ 96) :
    ∃ F' G', f_X2_insert (aI F) (iI n) (iI v) = some (aI F', iI (n + 1)) ∧ f_X11_hears (aI G) (iI n) (iI v) = some (aI G', iI (n + 1)) ∧ SR F' G' (n + 1) := by
  obtain ⟨h0, h1, h2⟩ := h
  obtain ⟨q, F', G', w1, w2, w3, w4, w5, w6, w7⟩ := z_ins_L hv n.toNat n F G 2000 (by omega) hn (by omega) h1
  refine ⟨zu F' q v, zu G' q v, ?_, ?_, by omega, fun k k0 k1 => ?_, fun j k j0 j1 k1 => ?_⟩
  · unfold f_X2_insert
    simp (disch := omega) only [↓q_brd, ↓q_gdd, ↓q_lts, ↓reduceIte, ↓q_bds, ↓zq_smi, ↓zq_smr, iI_add, iI_sub, iI_mul, iI_neg, iI_ab3, iI_div, z_emod, aI_rd, aI_wr, aR0, aW0, aR1, aW1, aR2, aW2, aR3, aW3, aR4, aW4, iI_inT, iI_lt, iI_le, iI_eq, lt_t, lt_f, le_t, le_f, eq_t, eq_f, bz_z, bz_o, bz_zo, bzT, bzF, n_em, zu_s, zu_n, not_true_eq_false, not_false_eq_true, and_self, true_and, and_true, false_and, and_false, true_or, or_true, false_or, or_false, or_self, Int.add_sub_cancel, n_0, n_1, n_2, n_3, n_4, n_5, n_6, n_7, n_8, n_9, n_10, n_11, n_12, n_13, n_14, n_15, n_16, n_17, n_18, n_19, n_20, n_21, n_22, n_23, n_24, n_25, n_26, n_27, n_28, n_29, n_30, n_31, n_32, n_33, n_34, n_35, n_36, n_37, n_40, n_44, n_48, n_50, n_57, n_58, n_60, n_65, n_66, n_67, n_68, n_69, n_70, n_71, n_73, n_77, n_80, n_83, n_97, n_98, n_99, n_100, n_101, n_102, n_103, n_104, n_105, n_106, n_107, n_108, n_109, n_110, n_111, n_112, n_113, n_114, n_115, n_116, n_117, n_118, n_120, n_121, n_122, n_180, n_255, n_539, n_600, n_616, n_1200, n_2000, n_3600, n_8400, n_65536, w1]
  · unfold f_X11_hears
    simp (disch := omega) only [↓q_brd, ↓q_gdd, ↓q_lts, ↓reduceIte, ↓q_bds, ↓zq_smi, ↓zq_smr, iI_add, iI_sub, iI_mul, iI_neg, iI_ab3, iI_div, z_emod, aI_rd, aI_wr, aR0, aW0, aR1, aW1, aR2, aW2, aR3, aW3, aR4, aW4, iI_inT, iI_lt, iI_le, iI_eq, lt_t, lt_f, le_t, le_f, eq_t, eq_f, bz_z, bz_o, bz_zo, bzT, bzF, n_em, zu_s, zu_n, not_true_eq_false, not_false_eq_true, and_self, true_and, and_true, false_and, and_false, true_or, or_true, false_or, or_false, or_self, Int.add_sub_cancel, n_0, n_1, n_2, n_3, n_4, n_5, n_6, n_7, n_8, n_9, n_10, n_11, n_12, n_13, n_14, n_15, n_16, n_17, n_18, n_19, n_20, n_21, n_22, n_23, n_24, n_25, n_26, n_27, n_28, n_29, n_30, n_31, n_32, n_33, n_34, n_35, n_36, n_37, n_40, n_44, n_48, n_50, n_57, n_58, n_60, n_65, n_66, n_67, n_68, n_69, n_70, n_71, n_73, n_77, n_80, n_83, n_97, n_98, n_99, n_100, n_101, n_102, n_103, n_104, n_105, n_106, n_107, n_108, n_109, n_110, n_111, n_112, n_113, n_114, n_115, n_116, n_117, n_118, n_120, n_121, n_122, n_180, n_255, n_539, n_600, n_616, n_1200, n_2000, n_3600, n_8400, n_65536, w2]
  · by_cases c : k = q
    · rw [zu_s c, zu_s c]; omega
    · rw [zu_n c, zu_n c]
      by_cases c2 : k < q
      · have a1 := w4 k c2
        have a2 := h1 k k0 (by omega)
        omega
      · have a1 := w5 (k - 1) (by omega) (by omega)
        rw [show k - 1 + 1 = k by omega] at a1
        have a2 := h1 (k - 1) (by omega) (by omega)
        omega
  · by_cases c : k < q
    · rw [zu_n (by omega), zu_n (by omega), (w4 k c).1, (w4 j (by omega)).1]
      exact h2 j k j0 j1 (by omega)
    · by_cases c2 : k = q
      · rw [zu_n (by omega), zu_s c2, (w4 j (by omega)).1]
        rcases w6 with w6 | w6
        · omega
        · by_cases c3 : j = q - 1
          · rw [c3]; exact w6
          · have := h2 j (q - 1) j0 (by omega) (by omega)
            omega
      · have a1 := w5 (k - 1) (by omega) (by omega)
        rw [show k - 1 + 1 = k by omega] at a1
        rw [zu_n (i := q) (t := k) c2, a1.2.1]
        by_cases c3 : j = q
        · rw [zu_s c3]; omega
        · rw [zu_n c3]
          by_cases c4 : j < q
          · rw [(w4 j c4).1]
            exact h2 j (k - 1) j0 (by omega) (by omega)
          · have a2 := w5 (j - 1) (by omega) (by omega)
            rw [show j - 1 + 1 = j by omega] at a2
            rw [a2.2.1]
            exact h2 (j - 1) (k - 1) (by omega) (by omega) (by omega)
def VW (G P L E T D S : Int → Int) : Prop := (0 ≤ G 0 ∧ G 0 ≤ 12) ∧ (0 ≤ G 1 ∧ G 1 ≤ 4) ∧ (∀ k, 0 ≤ k → k < G 0 → P k = G (17 + k) ∧ 3600 ≤ G (17 + k) ∧ G (17 + k) ≤ 8400) ∧
  (∀ h, 0 ≤ h → h ≤ 3 → L h = G (33 + h) ∧ E h = G (29 + h) ∧ (0 ≤ G (29 + h) ∧ G (29 + h) ≤ 15) ∧ (0 ≤ G (33 + h) ∧ G (33 + h) ≤ 8) ∧ ∀ k, 0 ≤ k → k < G (33 + h) → T (h * 8 + k) = G (37 + 8 * h + k) ∧ 0 ≤ G (37 + 8 * h + k) ∧ G (37 + 8 * h + k) < G 0) ∧
  (∀ k, 0 ≤ k → k < G 1 → D k = G (69 + k) ∧ S k = G (73 + k) ∧ (1 ≤ G (69 + k) ∧ G (69 + k) ≤ 8) ∧ -12 ≤ G (73 + k) ∧ G (73 + k) ≤ 12)
theorem z_bab {G P L E T D S : Int → Int} (hW : VW G P L E T D S) {h b : Int} (hh : 0 ≤ h ∧ h ≤ 3) (hb : -8 ≤ b ∧ b ≤ 31) :
    f_X7_bellAtBeat (aI L) (aI E) (aI T) (iI h) (iI b) = some (iI (if 0 ≤ b - G (29 + h) ∧ b - G (29 + h) ≤ G (33 + h) - 1 then G (37 + 8 * h + (b - G (29 + h))) else -1)) := by
  obtain ⟨w0, w1, w2, w3, w4⟩ := hW
  obtain ⟨m1, m2, m3, m4, m5⟩ := w3 h hh.1 hh.2
  unfold f_X7_bellAtBeat f_X7_has f_X7_bellOf
  by_cases c : 0 ≤ b - G (29 + h) ∧ b - G (29 + h) ≤ G (33 + h) - 1
  · have m6 := m5 (b - G (29 + h)) c.1 (by omega)
    rw [if_pos c]
    simp (disch := omega) only [↓q_brd, ↓q_gdd, ↓q_lts, ↓reduceIte, ↓q_bds, ↓zq_smi, ↓zq_smr, iI_add, iI_sub, iI_mul, iI_neg, iI_ab3, iI_div, z_emod, aI_rd, aI_wr, aR0, aW0, aR1, aW1, aR2, aW2, aR3, aW3, aR4, aW4, iI_inT, iI_lt, iI_le, iI_eq, lt_t, lt_f, le_t, le_f, eq_t, eq_f, bz_z, bz_o, bz_zo, bzT, bzF, n_em, zu_s, zu_n, not_true_eq_false, not_false_eq_true, and_self, true_and, and_true, false_and, and_false, true_or, or_true, false_or, or_false, or_self, Int.add_sub_cancel, n_0, n_1, n_2, n_3, n_4, n_5, n_6, n_7, n_8, n_9, n_10, n_11, n_12, n_13, n_14, n_15, n_16, n_17, n_18, n_19, n_20, n_21, n_22, n_23, n_24, n_25, n_26, n_27, n_28, n_29, n_30, n_31, n_32, n_33, n_34, n_35, n_36, n_37, n_40, n_44, n_48, n_50, n_57, n_58, n_60, n_65, n_66, n_67, n_68, n_69, n_70, n_71, n_73, n_77, n_80, n_83, n_97, n_98, n_99, n_100, n_101, n_102, n_103, n_104, n_105, n_106, n_107, n_108, n_109, n_110, n_111, n_112, n_113, n_114, n_115, n_116, n_117, n_118, n_120, n_121, n_122, n_180, n_255, n_539, n_600, n_616, n_1200, n_2000, n_3600, n_8400, n_65536, m1, m2, z_isWithin, m6.1]
  · rw [if_neg c]
    simp (disch := omega) only [↓q_brd, ↓q_gdd, ↓q_lts, ↓reduceIte, ↓q_bds, ↓zq_smi, ↓zq_smr, iI_add, iI_sub, iI_mul, iI_neg, iI_ab3, iI_div, z_emod, aI_rd, aI_wr, aR0, aW0, aR1, aW1, aR2, aW2, aR3, aW3, aR4, aW4, iI_inT, iI_lt, iI_le, iI_eq, lt_t, lt_f, le_t, le_f, eq_t, eq_f, bz_z, bz_o, bz_zo, bzT, bzF, n_em, zu_s, zu_n, not_true_eq_false, not_false_eq_true, and_self, true_and, and_true, false_and, and_false, true_or, or_true, false_or, or_false, or_self, Int.add_sub_cancel, n_0, n_1, n_2, n_3, n_4, n_5, n_6, n_7, n_8, n_9, n_10, n_11, n_12, n_13, n_14, n_15, n_16, n_17, n_18, n_19, n_20, n_21, n_22, n_23, n_24, n_25, n_26, n_27, n_28, n_29, n_30, n_31, n_32, n_33, n_34, n_35, n_36, n_37, n_40, n_44, n_48, n_50, n_57, n_58, n_60, n_65, n_66, n_67, n_68, n_69, n_70, n_71, n_73, n_77, n_80, n_83, n_97, n_98, n_99, n_100, n_101, n_102, n_103, n_104, n_105, n_106, n_107, n_108, n_109, n_110, n_111, n_112, n_113, n_114, n_115, n_116, n_117, n_118, n_120, n_121, n_122, n_180, n_255, n_539, n_600, n_616, n_1200, n_2000, n_3600, n_8400, n_65536, m1, m2, z_isWithin, c]
theorem z_note1 {G P L E T D S : Int → Int} (hW : VW G P L E T D S) {t : Int} (ht : 0 ≤ t ∧ t < G 0) : f_X1_noteOf (aI P) (iI t) = some (iI (no (G (17 + t)))) ∧ f_X11_noteOf (aI G) (iI t) = some (iI (no (G (17 + t)))) ∧ 36 ≤ no (G (17 + t)) ∧ no (G (17 + t)) ≤ 84 := by
  obtain ⟨w0, w1, w2, w3, w4⟩ := hW
  obtain ⟨x1, x2⟩ := w2 t ht.1 ht.2
  refine ⟨?_, z_mNote (by omega), ?_⟩
  · unfold f_X1_noteOf
    simp (disch := omega) only [↓q_brd, ↓q_gdd, ↓q_lts, ↓reduceIte, ↓q_bds, ↓zq_smi, ↓zq_smr, iI_add, iI_sub, iI_mul, iI_neg, iI_ab3, iI_div, z_emod, aI_rd, aI_wr, aR0, aW0, aR1, aW1, aR2, aW2, aR3, aW3, aR4, aW4, iI_inT, iI_lt, iI_le, iI_eq, lt_t, lt_f, le_t, le_f, eq_t, eq_f, bz_z, bz_o, bz_zo, bzT, bzF, n_em, zu_s, zu_n, not_true_eq_false, not_false_eq_true, and_self, true_and, and_true, false_and, and_false, true_or, or_true, false_or, or_false, or_self, Int.add_sub_cancel, n_0, n_1, n_2, n_3, n_4, n_5, n_6, n_7, n_8, n_9, n_10, n_11, n_12, n_13, n_14, n_15, n_16, n_17, n_18, n_19, n_20, n_21, n_22, n_23, n_24, n_25, n_26, n_27, n_28, n_29, n_30, n_31, n_32, n_33, n_34, n_35, n_36, n_37, n_40, n_44, n_48, n_50, n_57, n_58, n_60, n_65, n_66, n_67, n_68, n_69, n_70, n_71, n_73, n_77, n_80, n_83, n_97, n_98, n_99, n_100, n_101, n_102, n_103, n_104, n_105, n_106, n_107, n_108, n_109, n_110, n_111, n_112, n_113, n_114, n_115, n_116, n_117, n_118, n_120, n_121, n_122, n_180, n_255, n_539, n_600, n_616, n_1200, n_2000, n_3600, n_8400, n_65536, x1, z_nearest]
  · unfold no; omega
theorem z_tones_L {G P L E T D S : Int → Int} (hW : VW G P L E T D S) {b s : Int} (hb : -8 ≤ b ∧ b ≤ 30) (hs : -12 ≤ s ∧ s ≤ 12) (d : Nat) : ∀ (h : Int) (fuel : Nat) (A B : Int → Int) (n : Int), 0 ≤ h → h + d = 4 → d < fuel → SR A B n → n + d ≤ 20 →
    ∃ A' B' n', f_X2_addTones_L3 (aI P) (iI (G 0)) (aI L) (aI E) (aI T) (iI b) (iI s) fuel (iI h) (aI A) (iI n) = some (aI A', iI n') ∧ f_X11_hearsTones_L2 (aI G) (iI b) (iI s) fuel (iI h) (aI B) (iI n) = some (aI B', iI n') ∧ SR A' B' n' ∧ n' ≤ n + d := by
  induction d with
  | zero =>
    intro h fuel A B n h1 h2 h3 h4 h5
    obtain ⟨fl, rfl⟩ : ∃ fl, fuel = fl + 1 := ⟨fuel - 1, by omega⟩
    refine ⟨A, B, n, ?_, ?_, h4, by omega⟩
    · unfold f_X2_addTones_L3
      simp (disch := omega) only [↓q_brd, ↓q_gdd, ↓q_lts, ↓reduceIte, ↓q_bds, ↓zq_smi, ↓zq_smr, iI_add, iI_sub, iI_mul, iI_neg, iI_ab3, iI_div, z_emod, aI_rd, aI_wr, aR0, aW0, aR1, aW1, aR2, aW2, aR3, aW3, aR4, aW4, iI_inT, iI_lt, iI_le, iI_eq, lt_t, lt_f, le_t, le_f, eq_t, eq_f, bz_z, bz_o, bz_zo, bzT, bzF, n_em, zu_s, zu_n, not_true_eq_false, not_false_eq_true, and_self, true_and, and_true, false_and, and_false, true_or, or_true, false_or, or_false, or_self, Int.add_sub_cancel, n_0, n_1, n_2, n_3, n_4, n_5, n_6, n_7, n_8, n_9, n_10, n_11, n_12, n_13, n_14, n_15, n_16, n_17, n_18, n_19, n_20, n_21, n_22, n_23, n_24, n_25, n_26, n_27, n_28, n_29, n_30, n_31, n_32, n_33, n_34, n_35, n_36, n_37, n_40, n_44, n_48, n_50, n_57, n_58, n_60, n_65, n_66, n_67, n_68, n_69, n_70, n_71, n_73, n_77, n_80, n_83, n_97, n_98, n_99, n_100, n_101, n_102, n_103, n_104, n_105, n_106, n_107, n_108, n_109, n_110, n_111, n_112, n_113, n_114, n_115, n_116, n_117, n_118, n_120, n_121, n_122, n_180, n_255, n_539, n_600, n_616, n_1200, n_2000, n_3600, n_8400, n_65536]
    · unfold f_X11_hearsTones_L2
      simp (disch := omega) only [↓q_brd, ↓q_gdd, ↓q_lts, ↓reduceIte, ↓q_bds, ↓zq_smi, ↓zq_smr, iI_add, iI_sub, iI_mul, iI_neg, iI_ab3, iI_div, z_emod, aI_rd, aI_wr, aR0, aW0, aR1, aW1, aR2, aW2, aR3, aW3, aR4, aW4, iI_inT, iI_lt, iI_le, iI_eq, lt_t, lt_f, le_t, le_f, eq_t, eq_f, bz_z, bz_o, bz_zo, bzT, bzF, n_em, zu_s, zu_n, not_true_eq_false, not_false_eq_true, and_self, true_and, and_true, false_and, and_false, true_or, or_true, false_or, or_false, or_self, Int.add_sub_cancel, n_0, n_1, n_2, n_3, n_4, n_5, n_6, n_7, n_8, n_9, n_10, n_11, n_12, n_13, n_14, n_15, n_16, n_17, n_18, n_19, n_20, n_21, n_22, n_23, n_24, n_25, n_26, n_27, n_28, n_29, n_30, n_31, n_32, n_33, n_34, n_35, n_36, n_37, n_40, n_44, n_48, n_50, n_57, n_58, n_60, n_65, n_66, n_67, n_68, n_69, n_70, n_71, n_73, n_77, n_80, n_83, n_97, n_98, n_99, n_100, n_101, n_102, n_103, n_104, n_105, n_106, n_107, n_108, n_109, n_110, n_111, n_112, n_113, n_114, n_115, n_116, n_117, n_118, n_120, n_121, n_122, n_180, n_255, n_539, n_600, n_616, n_1200, n_2000, n_3600, n_8400, n_65536]
  | succ d ih =>
    intro h fuel A B n h1 h2 h3 h4 h5
    obtain ⟨fl, rfl⟩ : ∃ fl, fuel = fl + 1 := ⟨fuel - 1, by omega⟩
    have hbab := z_bab hW (h := h) (b := b) ⟨h1, by omega⟩ (by omega)
    obtain ⟨w0, w1, w2, w3, w4⟩ := id hW
    obtain ⟨m1, m2, m3, m4, m5⟩ := w3 h h1 (by omega)
    have hn := h4.1
    by_cases c : 0 ≤ b - G (29 + h) ∧ b - G (29 + h) ≤ G (33 + h) - 1
    · have m6 := m5 (b - G (29 + h)) c.1 (by omega)
      rw [if_pos c] at hbab
      have m7 : f_X11_toneAt (aI G) (iI h) (iI (b - G (29 + h))) = some (iI (G (37 + 8 * h + (b - G (29 + h))))) := by
        unfold f_X11_toneAt
        simp (disch := omega) only [↓q_brd, ↓q_gdd, ↓q_lts, ↓reduceIte, ↓q_bds, ↓zq_smi, ↓zq_smr, iI_add, iI_sub, iI_mul, iI_neg, iI_ab3, iI_div, z_emod, aI_rd, aI_wr, aR0, aW0, aR1, aW1, aR2, aW2, aR3, aW3, aR4, aW4, iI_inT, iI_lt, iI_le, iI_eq, lt_t, lt_f, le_t, le_f, eq_t, eq_f, bz_z, bz_o, bz_zo, bzT, bzF, n_em, zu_s, zu_n, not_true_eq_false, not_false_eq_true, and_self, true_and, and_true, false_and, and_false, true_or, or_true, false_or, or_false, or_self, Int.add_sub_cancel, n_0, n_1, n_2, n_3, n_4, n_5, n_6, n_7, n_8, n_9, n_10, n_11, n_12, n_13, n_14, n_15, n_16, n_17, n_18, n_19, n_20, n_21, n_22, n_23, n_24, n_25, n_26, n_27, n_28, n_29, n_30, n_31, n_32, n_33, n_34, n_35, n_36, n_37, n_40, n_44, n_48, n_50, n_57, n_58, n_60, n_65, n_66, n_67, n_68, n_69, n_70, n_71, n_73, n_77, n_80, n_83, n_97, n_98, n_99, n_100, n_101, n_102, n_103, n_104, n_105, n_106, n_107, n_108, n_109, n_110, n_111, n_112, n_113, n_114, n_115, n_116, n_117, n_118, n_120, n_121, n_122, n_180, n_255, n_539, n_600, n_616, n_1200, n_2000, n_3600, n_8400, n_65536]
      generalize G (37 + 8 * h + (b - G (29 + h))) = t at hbab m6 m7
      obtain ⟨x1, x2, x3⟩ := z_note1 hW (t := t) m6.2
      generalize no (G (17 + t)) = u at x1 x2 x3
      obtain ⟨A1, B1, y1, y2, y3⟩ := z_ins (v := u + s) h4 (by omega) (by omega)
      obtain ⟨A', B', n', z1, z2, z3, z4⟩ := ih (h + 1) fl A1 B1 (n + 1) (by omega) (by omega) (by omega) y3 (by omega)
      refine ⟨A', B', n', ?_, ?_, z3, by omega⟩
      · unfold f_X2_addTones_L3
        simp (disch := omega) only [↓q_brd, ↓q_gdd, ↓q_lts, ↓reduceIte, ↓q_bds, ↓zq_smi, ↓zq_smr, iI_add, iI_sub, iI_mul, iI_neg, iI_ab3, iI_div, z_emod, aI_rd, aI_wr, aR0, aW0, aR1, aW1, aR2, aW2, aR3, aW3, aR4, aW4, iI_inT, iI_lt, iI_le, iI_eq, lt_t, lt_f, le_t, le_f, eq_t, eq_f, bz_z, bz_o, bz_zo, bzT, bzF, n_em, zu_s, zu_n, not_true_eq_false, not_false_eq_true, and_self, true_and, and_true, false_and, and_false, true_or, or_true, false_or, or_false, or_self, Int.add_sub_cancel, n_0, n_1, n_2, n_3, n_4, n_5, n_6, n_7, n_8, n_9, n_10, n_11, n_12, n_13, n_14, n_15, n_16, n_17, n_18, n_19, n_20, n_21, n_22, n_23, n_24, n_25, n_26, n_27, n_28, n_29, n_30, n_31, n_32, n_33, n_34, n_35, n_36, n_37, n_40, n_44, n_48, n_50, n_57, n_58, n_60, n_65, n_66, n_67, n_68, n_69, n_70, n_71, n_73, n_77, n_80, n_83, n_97, n_98, n_99, n_100, n_101, n_102, n_103, n_104, n_105, n_106, n_107, n_108, n_109, n_110, n_111, n_112, n_113, n_114, n_115, n_116, n_117, n_118, n_120, n_121, n_122, n_180, n_255, n_539, n_600, n_616, n_1200, n_2000, n_3600, n_8400, n_65536, hbab, z_has, x1, y1, z1]
      · unfold f_X11_hearsTones_L2
        simp (disch := omega) only [↓q_brd, ↓q_gdd, ↓q_lts, ↓reduceIte, ↓q_bds, ↓zq_smi, ↓zq_smr, iI_add, iI_sub, iI_mul, iI_neg, iI_ab3, iI_div, z_emod, aI_rd, aI_wr, aR0, aW0, aR1, aW1, aR2, aW2, aR3, aW3, aR4, aW4, iI_inT, iI_lt, iI_le, iI_eq, lt_t, lt_f, le_t, le_f, eq_t, eq_f, bz_z, bz_o, bz_zo, bzT, bzF, n_em, zu_s, zu_n, not_true_eq_false, not_false_eq_true, and_self, true_and, and_true, false_and, and_false, true_or, or_true, false_or, or_false, or_self, Int.add_sub_cancel, n_0, n_1, n_2, n_3, n_4, n_5, n_6, n_7, n_8, n_9, n_10, n_11, n_12, n_13, n_14, n_15, n_16, n_17, n_18, n_19, n_20, n_21, n_22, n_23, n_24, n_25, n_26, n_27, n_28, n_29, n_30, n_31, n_32, n_33, n_34, n_35, n_36, n_37, n_40, n_44, n_48, n_50, n_57, n_58, n_60, n_65, n_66, n_67, n_68, n_69, n_70, n_71, n_73, n_77, n_80, n_83, n_97, n_98, n_99, n_100, n_101, n_102, n_103, n_104, n_105, n_106, n_107, n_108, n_109, n_110, n_111, n_112, n_113, n_114, n_115, n_116, n_117, n_118, n_120, n_121, n_122, n_180, n_255, n_539, n_600, n_616, n_1200, n_2000, n_3600, n_8400, n_65536, z_in, m7, x2, y2, z2]
    · rw [if_neg c] at hbab
      obtain ⟨A', B', n', z1, z2, z3, z4⟩ := ih (h + 1) fl A B n (by omega) (by omega) (by omega) h4 (by omega)
      refine ⟨A', B', n', ?_, ?_, z3, by omega⟩
      · unfold f_X2_addTones_L3
        simp (disch := omega) only [↓q_brd, ↓q_gdd, ↓q_lts, ↓reduceIte, ↓q_bds, ↓zq_smi, ↓zq_smr, iI_add, iI_sub, iI_mul, iI_neg, iI_ab3, iI_div, z_emod, aI_rd, aI_wr, aR0, aW0, aR1, aW1, aR2, aW2, aR3, aW3, aR4, aW4, iI_inT, iI_lt, iI_le, iI_eq, lt_t, lt_f, le_t, le_f, eq_t, eq_f, bz_z, bz_o, bz_zo, bzT, bzF, n_em, zu_s, zu_n, not_true_eq_false, not_false_eq_true, and_self, true_and, and_true, false_and, and_false, true_or, or_true, false_or, or_false, or_self, Int.add_sub_cancel, n_0, n_1, n_2, n_3, n_4, n_5, n_6, n_7, n_8, n_9, n_10, n_11, n_12, n_13, n_14, n_15, n_16, n_17, n_18, n_19, n_20, n_21, n_22, n_23, n_24, n_25, n_26, n_27, n_28, n_29, n_30, n_31, n_32, n_33, n_34, n_35, n_36, n_37, n_40, n_44, n_48, n_50, n_57, n_58, n_60, n_65, n_66, n_67, n_68, n_69, n_70, n_71, n_73, n_77, n_80, n_83, n_97, n_98, n_99, n_100, n_101, n_102, n_103, n_104, n_105, n_106, n_107, n_108, n_109, n_110, n_111, n_112, n_113, n_114, n_115, n_116, n_117, n_118, n_120, n_121, n_122, n_180, n_255, n_539, n_600, n_616, n_1200, n_2000, n_3600, n_8400, n_65536, hbab, z_has, z1]
      · unfold f_X11_hearsTones_L2
        by_cases c2 : 0 ≤ b
        · simp (disch := omega) only [↓q_brd, ↓q_gdd, ↓q_lts, ↓reduceIte, ↓q_bds, ↓zq_smi, ↓zq_smr, iI_add, iI_sub, iI_mul, iI_neg, iI_ab3, iI_div, z_emod, aI_rd, aI_wr, aR0, aW0, aR1, aW1, aR2, aW2, aR3, aW3, aR4, aW4, iI_inT, iI_lt, iI_le, iI_eq, lt_t, lt_f, le_t, le_f, eq_t, eq_f, bz_z, bz_o, bz_zo, bzT, bzF, n_em, zu_s, zu_n, not_true_eq_false, not_false_eq_true, and_self, true_and, and_true, false_and, and_false, true_or, or_true, false_or, or_false, or_self, Int.add_sub_cancel, n_0, n_1, n_2, n_3, n_4, n_5, n_6, n_7, n_8, n_9, n_10, n_11, n_12, n_13, n_14, n_15, n_16, n_17, n_18, n_19, n_20, n_21, n_22, n_23, n_24, n_25, n_26, n_27, n_28, n_29, n_30, n_31, n_32, n_33, n_34, n_35, n_36, n_37, n_40, n_44, n_48, n_50, n_57, n_58, n_60, n_65, n_66, n_67, n_68, n_69, n_70, n_71, n_73, n_77, n_80, n_83, n_97, n_98, n_99, n_100, n_101, n_102, n_103, n_104, n_105, n_106, n_107, n_108, n_109, n_110, n_111, n_112, n_113, n_114, n_115, n_116, n_117, n_118, n_120, n_121, n_122, n_180, n_255, n_539, n_600, n_616, n_1200, n_2000, n_3600, n_8400, n_65536, z_in, z2, c]
        · simp (disch := omega) only [↓q_brd, ↓q_gdd, ↓q_lts, ↓reduceIte, ↓q_bds, ↓zq_smi, ↓zq_smr, iI_add, iI_sub, iI_mul, iI_neg, iI_ab3, iI_div, z_emod, aI_rd, aI_wr, aR0, aW0, aR1, aW1, aR2, aW2, aR3, aW3, aR4, aW4, iI_inT, iI_lt, iI_le, iI_eq, lt_t, lt_f, le_t, le_f, eq_t, eq_f, bz_z, bz_o, bz_zo, bzT, bzF, n_em, zu_s, zu_n, not_true_eq_false, not_false_eq_true, and_self, true_and, and_true, false_and, and_false, true_or, or_true, false_or, or_false, or_self, Int.add_sub_cancel, n_0, n_1, n_2, n_3, n_4, n_5, n_6, n_7, n_8, n_9, n_10, n_11, n_12, n_13, n_14, n_15, n_16, n_17, n_18, n_19, n_20, n_21, n_22, n_23, n_24, n_25, n_26, n_27, n_28, n_29, n_30, n_31, n_32, n_33, n_34, n_35, n_36, n_37, n_40, n_44, n_48, n_50, n_57, n_58, n_60, n_65, n_66, n_67, n_68, n_69, n_70, n_71, n_73, n_77, n_80, n_83, n_97, n_98, n_99, n_100, n_101, n_102, n_103, n_104, n_105, n_106, n_107, n_108, n_109, n_110, n_111, n_112, n_113, n_114, n_115, n_116, n_117, n_118, n_120, n_121, n_122, n_180, n_255, n_539, n_600, n_616, n_1200, n_2000, n_3600, n_8400, n_65536, z_in, z2]
theorem z_cliffs_L {G P L E T D S : Int → Int} (hW : VW G P L E T D S) {b : Int} (hb : 0 ≤ b ∧ b ≤ 30) (d : Nat) : ∀ (i : Int) (fuel : Nat) (A B : Int → Int) (n : Int), 0 ≤ i → i + d = G 1 → d < fuel → SR A B n → n + 4 * d ≤ 20 →
    ∃ A' B' n', f_X2_listen_L25 (aI P) (iI (G 0)) (aI L) (aI E) (aI T) (aI D) (aI S) (iI (G 1)) (iI b) fuel (iI i) (aI A) (iI n) = some (aI A', iI n') ∧ f_X11_listens_L23 (aI G) (iI b) fuel (iI i) (aI B) (iI n) = some (aI B', iI n') ∧ SR A' B' n' := by
  obtain ⟨w0, w1, w2, w3, w4⟩ := id hW
  induction d with
  | zero =>
    intro i fuel A B n h1 h2 h3 h4 h5
    obtain ⟨fl, rfl⟩ : ∃ fl, fuel = fl + 1 := ⟨fuel - 1, by omega⟩
    refine ⟨A, B, n, ?_, ?_, h4⟩
    · unfold f_X2_listen_L25
      simp (disch := omega) only [↓q_brd, ↓q_gdd, ↓q_lts, ↓reduceIte, ↓q_bds, ↓zq_smi, ↓zq_smr, iI_add, iI_sub, iI_mul, iI_neg, iI_ab3, iI_div, z_emod, aI_rd, aI_wr, aR0, aW0, aR1, aW1, aR2, aW2, aR3, aW3, aR4, aW4, iI_inT, iI_lt, iI_le, iI_eq, lt_t, lt_f, le_t, le_f, eq_t, eq_f, bz_z, bz_o, bz_zo, bzT, bzF, n_em, zu_s, zu_n, not_true_eq_false, not_false_eq_true, and_self, true_and, and_true, false_and, and_false, true_or, or_true, false_or, or_false, or_self, Int.add_sub_cancel, n_0, n_1, n_2, n_3, n_4, n_5, n_6, n_7, n_8, n_9, n_10, n_11, n_12, n_13, n_14, n_15, n_16, n_17, n_18, n_19, n_20, n_21, n_22, n_23, n_24, n_25, n_26, n_27, n_28, n_29, n_30, n_31, n_32, n_33, n_34, n_35, n_36, n_37, n_40, n_44, n_48, n_50, n_57, n_58, n_60, n_65, n_66, n_67, n_68, n_69, n_70, n_71, n_73, n_77, n_80, n_83, n_97, n_98, n_99, n_100, n_101, n_102, n_103, n_104, n_105, n_106, n_107, n_108, n_109, n_110, n_111, n_112, n_113, n_114, n_115, n_116, n_117, n_118, n_120, n_121, n_122, n_180, n_255, n_539, n_600, n_616, n_1200, n_2000, n_3600, n_8400, n_65536]
    · unfold f_X11_listens_L23
      simp (disch := omega) only [↓q_brd, ↓q_gdd, ↓q_lts, ↓reduceIte, ↓q_bds, ↓zq_smi, ↓zq_smr, iI_add, iI_sub, iI_mul, iI_neg, iI_ab3, iI_div, z_emod, aI_rd, aI_wr, aR0, aW0, aR1, aW1, aR2, aW2, aR3, aW3, aR4, aW4, iI_inT, iI_lt, iI_le, iI_eq, lt_t, lt_f, le_t, le_f, eq_t, eq_f, bz_z, bz_o, bz_zo, bzT, bzF, n_em, zu_s, zu_n, not_true_eq_false, not_false_eq_true, and_self, true_and, and_true, false_and, and_false, true_or, or_true, false_or, or_false, or_self, Int.add_sub_cancel, n_0, n_1, n_2, n_3, n_4, n_5, n_6, n_7, n_8, n_9, n_10, n_11, n_12, n_13, n_14, n_15, n_16, n_17, n_18, n_19, n_20, n_21, n_22, n_23, n_24, n_25, n_26, n_27, n_28, n_29, n_30, n_31, n_32, n_33, n_34, n_35, n_36, n_37, n_40, n_44, n_48, n_50, n_57, n_58, n_60, n_65, n_66, n_67, n_68, n_69, n_70, n_71, n_73, n_77, n_80, n_83, n_97, n_98, n_99, n_100, n_101, n_102, n_103, n_104, n_105, n_106, n_107, n_108, n_109, n_110, n_111, n_112, n_113, n_114, n_115, n_116, n_117, n_118, n_120, n_121, n_122, n_180, n_255, n_539, n_600, n_616, n_1200, n_2000, n_3600, n_8400, n_65536]
  | succ d ih =>
    intro i fuel A B n h1 h2 h3 h4 h5
    obtain ⟨fl, rfl⟩ : ∃ fl, fuel = fl + 1 := ⟨fuel - 1, by omega⟩
    obtain ⟨x1, x2, x3, x4⟩ := w4 i h1 (by omega)
    obtain ⟨A1, B1, n1, y1, y2, y3, y4⟩ := z_tones_L hW (b := b - G (69 + i)) (s := G (73 + i)) (by omega) x4 4 0 2000 A B n (by omega) (by omega) (by omega) h4 (by omega)
    obtain ⟨A', B', n', z1, z2, z3⟩ := ih (i + 1) fl A1 B1 n1 (by omega) (by omega) (by omega) y3 (by omega)
    refine ⟨A', B', n', ?_, ?_, z3⟩
    · unfold f_X2_listen_L25 f_X2_addTones
      simp (disch := omega) only [↓q_brd, ↓q_gdd, ↓q_lts, ↓reduceIte, ↓q_bds, ↓zq_smi, ↓zq_smr, iI_add, iI_sub, iI_mul, iI_neg, iI_ab3, iI_div, z_emod, aI_rd, aI_wr, aR0, aW0, aR1, aW1, aR2, aW2, aR3, aW3, aR4, aW4, iI_inT, iI_lt, iI_le, iI_eq, lt_t, lt_f, le_t, le_f, eq_t, eq_f, bz_z, bz_o, bz_zo, bzT, bzF, n_em, zu_s, zu_n, not_true_eq_false, not_false_eq_true, and_self, true_and, and_true, false_and, and_false, true_or, or_true, false_or, or_false, or_self, Int.add_sub_cancel, n_0, n_1, n_2, n_3, n_4, n_5, n_6, n_7, n_8, n_9, n_10, n_11, n_12, n_13, n_14, n_15, n_16, n_17, n_18, n_19, n_20, n_21, n_22, n_23, n_24, n_25, n_26, n_27, n_28, n_29, n_30, n_31, n_32, n_33, n_34, n_35, n_36, n_37, n_40, n_44, n_48, n_50, n_57, n_58, n_60, n_65, n_66, n_67, n_68, n_69, n_70, n_71, n_73, n_77, n_80, n_83, n_97, n_98, n_99, n_100, n_101, n_102, n_103, n_104, n_105, n_106, n_107, n_108, n_109, n_110, n_111, n_112, n_113, n_114, n_115, n_116, n_117, n_118, n_120, n_121, n_122, n_180, n_255, n_539, n_600, n_616, n_1200, n_2000, n_3600, n_8400, n_65536, x1, x2, y1, z1]
    · unfold f_X11_listens_L23 f_X11_hearsTones
      simp (disch := omega) only [↓q_brd, ↓q_gdd, ↓q_lts, ↓reduceIte, ↓q_bds, ↓zq_smi, ↓zq_smr, iI_add, iI_sub, iI_mul, iI_neg, iI_ab3, iI_div, z_emod, aI_rd, aI_wr, aR0, aW0, aR1, aW1, aR2, aW2, aR3, aW3, aR4, aW4, iI_inT, iI_lt, iI_le, iI_eq, lt_t, lt_f, le_t, le_f, eq_t, eq_f, bz_z, bz_o, bz_zo, bzT, bzF, n_em, zu_s, zu_n, not_true_eq_false, not_false_eq_true, and_self, true_and, and_true, false_and, and_false, true_or, or_true, false_or, or_false, or_self, Int.add_sub_cancel, n_0, n_1, n_2, n_3, n_4, n_5, n_6, n_7, n_8, n_9, n_10, n_11, n_12, n_13, n_14, n_15, n_16, n_17, n_18, n_19, n_20, n_21, n_22, n_23, n_24, n_25, n_26, n_27, n_28, n_29, n_30, n_31, n_32, n_33, n_34, n_35, n_36, n_37, n_40, n_44, n_48, n_50, n_57, n_58, n_60, n_65, n_66, n_67, n_68, n_69, n_70, n_71, n_73, n_77, n_80, n_83, n_97, n_98, n_99, n_100, n_101, n_102, n_103, n_104, n_105, n_106, n_107, n_108, n_109, n_110, n_111, n_112, n_113, n_114, n_115, n_116, n_117, n_118, n_120, n_121, n_122, n_180, n_255, n_539, n_600, n_616, n_1200, n_2000, n_3600, n_8400, n_65536, y2, z2]
theorem z_hush_L {G P L E T D S : Int → Int} (hW : VW G P L E T D S) {b s : Int} (hb : 23 ≤ b ∧ b ≤ 31) (B : Nat → Int32) (n : Int32) (d : Nat) : ∀ (h : Int) (fuel : Nat), 0 ≤ h → h + d = 4 → d < fuel →
    f_X11_hearsTones_L2 (aI G) (iI b) (iI s) fuel (iI h) B n = some (B, n) := by
  obtain ⟨w0, w1, w2, w3, w4⟩ := id hW
  induction d with
  | zero =>
    intro h fuel h1 h2 h3
    obtain ⟨fl, rfl⟩ : ∃ fl, fuel = fl + 1 := ⟨fuel - 1, by omega⟩
    unfold f_X11_hearsTones_L2
    simp (disch := omega) only [↓q_brd, ↓q_gdd, ↓q_lts, ↓reduceIte, ↓q_bds, ↓zq_smi, ↓zq_smr, iI_add, iI_sub, iI_mul, iI_neg, iI_ab3, iI_div, z_emod, aI_rd, aI_wr, aR0, aW0, aR1, aW1, aR2, aW2, aR3, aW3, aR4, aW4, iI_inT, iI_lt, iI_le, iI_eq, lt_t, lt_f, le_t, le_f, eq_t, eq_f, bz_z, bz_o, bz_zo, bzT, bzF, n_em, zu_s, zu_n, not_true_eq_false, not_false_eq_true, and_self, true_and, and_true, false_and, and_false, true_or, or_true, false_or, or_false, or_self, Int.add_sub_cancel, n_0, n_1, n_2, n_3, n_4, n_5, n_6, n_7, n_8, n_9, n_10, n_11, n_12, n_13, n_14, n_15, n_16, n_17, n_18, n_19, n_20, n_21, n_22, n_23, n_24, n_25, n_26, n_27, n_28, n_29, n_30, n_31, n_32, n_33, n_34, n_35, n_36, n_37, n_40, n_44, n_48, n_50, n_57, n_58, n_60, n_65, n_66, n_67, n_68, n_69, n_70, n_71, n_73, n_77, n_80, n_83, n_97, n_98, n_99, n_100, n_101, n_102, n_103, n_104, n_105, n_106, n_107, n_108, n_109, n_110, n_111, n_112, n_113, n_114, n_115, n_116, n_117, n_118, n_120, n_121, n_122, n_180, n_255, n_539, n_600, n_616, n_1200, n_2000, n_3600, n_8400, n_65536]
  | succ d ih =>
    intro h fuel h1 h2 h3
    obtain ⟨fl, rfl⟩ : ∃ fl, fuel = fl + 1 := ⟨fuel - 1, by omega⟩
    obtain ⟨m1, m2, m3, m4, m5⟩ := w3 h h1 (by omega)
    have z2 := ih (h + 1) fl (by omega) (by omega) (by omega)
    unfold f_X11_hearsTones_L2
    simp (disch := omega) only [↓q_brd, ↓q_gdd, ↓q_lts, ↓reduceIte, ↓q_bds, ↓zq_smi, ↓zq_smr, iI_add, iI_sub, iI_mul, iI_neg, iI_ab3, iI_div, z_emod, aI_rd, aI_wr, aR0, aW0, aR1, aW1, aR2, aW2, aR3, aW3, aR4, aW4, iI_inT, iI_lt, iI_le, iI_eq, lt_t, lt_f, le_t, le_f, eq_t, eq_f, bz_z, bz_o, bz_zo, bzT, bzF, n_em, zu_s, zu_n, not_true_eq_false, not_false_eq_true, and_self, true_and, and_true, false_and, and_false, true_or, or_true, false_or, or_false, or_self, Int.add_sub_cancel, n_0, n_1, n_2, n_3, n_4, n_5, n_6, n_7, n_8, n_9, n_10, n_11, n_12, n_13, n_14, n_15, n_16, n_17, n_18, n_19, n_20, n_21, n_22, n_23, n_24, n_25, n_26, n_27, n_28, n_29, n_30, n_31, n_32, n_33, n_34, n_35, n_36, n_37, n_40, n_44, n_48, n_50, n_57, n_58, n_60, n_65, n_66, n_67, n_68, n_69, n_70, n_71, n_73, n_77, n_80, n_83, n_97, n_98, n_99, n_100, n_101, n_102, n_103, n_104, n_105, n_106, n_107, n_108, n_109, n_110, n_111, n_112, n_113, n_114, n_115, n_116, n_117, n_118, n_120, n_121, n_122, n_180, n_255, n_539, n_600, n_616, n_1200, n_2000, n_3600, n_8400, n_65536, z_in, z2]
theorem z_hushc_L {G P L E T D S : Int → Int} (hW : VW G P L E T D S) (B : Nat → Int32) (n : Int32) (d : Nat) : ∀ (i : Int) (fuel : Nat), 0 ≤ i → i + d = G 1 → d < fuel →
    f_X11_listens_L23 (aI G) (iI 31) fuel (iI i) B n = some (B, n) := by
  obtain ⟨w0, w1, w2, w3, w4⟩ := id hW
  induction d with
  | zero =>
    intro h fuel h1 h2 h3
    obtain ⟨fl, rfl⟩ : ∃ fl, fuel = fl + 1 := ⟨fuel - 1, by omega⟩
    unfold f_X11_listens_L23
    simp (disch := omega) only [↓q_brd, ↓q_gdd, ↓q_lts, ↓reduceIte, ↓q_bds, ↓zq_smi, ↓zq_smr, iI_add, iI_sub, iI_mul, iI_neg, iI_ab3, iI_div, z_emod, aI_rd, aI_wr, aR0, aW0, aR1, aW1, aR2, aW2, aR3, aW3, aR4, aW4, iI_inT, iI_lt, iI_le, iI_eq, lt_t, lt_f, le_t, le_f, eq_t, eq_f, bz_z, bz_o, bz_zo, bzT, bzF, n_em, zu_s, zu_n, not_true_eq_false, not_false_eq_true, and_self, true_and, and_true, false_and, and_false, true_or, or_true, false_or, or_false, or_self, Int.add_sub_cancel, n_0, n_1, n_2, n_3, n_4, n_5, n_6, n_7, n_8, n_9, n_10, n_11, n_12, n_13, n_14, n_15, n_16, n_17, n_18, n_19, n_20, n_21, n_22, n_23, n_24, n_25, n_26, n_27, n_28, n_29, n_30, n_31, n_32, n_33, n_34, n_35, n_36, n_37, n_40, n_44, n_48, n_50, n_57, n_58, n_60, n_65, n_66, n_67, n_68, n_69, n_70, n_71, n_73, n_77, n_80, n_83, n_97, n_98, n_99, n_100, n_101, n_102, n_103, n_104, n_105, n_106, n_107, n_108, n_109, n_110, n_111, n_112, n_113, n_114, n_115, n_116, n_117, n_118, n_120, n_121, n_122, n_180, n_255, n_539, n_600, n_616, n_1200, n_2000, n_3600, n_8400, n_65536]
  | succ d ih =>
    intro i fuel h1 h2 h3
    obtain ⟨fl, rfl⟩ : ∃ fl, fuel = fl + 1 := ⟨fuel - 1, by omega⟩
    obtain ⟨x1, x2, x3, x4⟩ := w4 i h1 (by omega)
    have y := z_hush_L hW (b := 31 - G (69 + i)) (s := G (73 + i)) (by omega) B n 4 0 2000 (by omega) (by omega) (by omega)
    have z2 := ih (i + 1) fl (by omega) (by omega) (by omega)
    unfold f_X11_listens_L23 f_X11_hearsTones
    simp (disch := omega) only [↓q_brd, ↓q_gdd, ↓q_lts, ↓reduceIte, ↓q_bds, ↓zq_smi, ↓zq_smr, iI_add, iI_sub, iI_mul, iI_neg, iI_ab3, iI_div, z_emod, aI_rd, aI_wr, aR0, aW0, aR1, aW1, aR2, aW2, aR3, aW3, aR4, aW4, iI_inT, iI_lt, iI_le, iI_eq, lt_t, lt_f, le_t, le_f, eq_t, eq_f, bz_z, bz_o, bz_zo, bzT, bzF, n_em, zu_s, zu_n, not_true_eq_false, not_false_eq_true, and_self, true_and, and_true, false_and, and_false, true_or, or_true, false_or, or_false, or_self, Int.add_sub_cancel, n_0, n_1, n_2, n_3, n_4, n_5, n_6, n_7, n_8, n_9, n_10, n_11, n_12, n_13, n_14, n_15, n_16, n_17, n_18, n_19, n_20, n_21, n_22, n_23, n_24, n_25, n_26, n_27, n_28, n_29, n_30, n_31, n_32, n_33, n_34, n_35, n_36, n_37, n_40, n_44, n_48, n_50, n_57, n_58, n_60, n_65, n_66, n_67, n_68, n_69, n_70, n_71, n_73, n_77, n_80, n_83, n_97, n_98, n_99, n_100, n_101, n_102, n_103, n_104, n_105, n_106, n_107, n_108, n_109, n_110, n_111, n_112, n_113, n_114, n_115, n_116, n_117, n_118, n_120, n_121, n_122, n_180, n_255, n_539, n_600, n_616, n_1200, n_2000, n_3600, n_8400, n_65536, y, z2]
theorem SR_nil (F G : Int → Int) : SR F G 0 := ⟨by omega, fun k _ _ => by omega, fun j k _ _ _ => by omega⟩
theorem z_listen {G P L E T D S : Int → Int} (hW : VW G P L E T D S) {b : Int} (hb : -2147483648 ≤ b ∧ b < 2147483648) (A B : Int → Int) (n1 n2 : Int32) :
    ∃ A' B' n', f_X2_listen (aI A) n1 (aI P) (iI (G 0)) (aI L) (aI E) (aI T) (aI D) (aI S) (iI (G 1)) (iI b) = some (aI A', iI n') ∧ f_X11_listens (aI G) (aI B) n2 (iI b) = some (aI B', iI n') ∧ SR A' B' n' ∧ (b < 0 ∨ 30 < b → n' = 0) := by
  obtain ⟨w0, w1, w2, w3, w4⟩ := id hW
  by_cases c : 0 ≤ b ∧ b ≤ 30
  · obtain ⟨A1, B1, m1, y1, y2, y3, y4⟩ := z_tones_L hW (b := b) (s := 0) (by omega) (by omega) 4 0 2000 A B 0 (by omega) (by omega) (by omega) (SR_nil A B) (by omega)
    obtain ⟨A', B', n', z1, z2, z3⟩ := z_cliffs_L hW (b := b) c (G 1).toNat 0 2000 A1 B1 m1 (by omega) (by omega) (by omega) y3 (by omega)
    refine ⟨A', B', n', ?_, ?_, z3, by omega⟩
    · unfold f_X2_listen f_X2_addTones
      simp (disch := omega) only [↓q_brd, ↓q_gdd, ↓q_lts, ↓reduceIte, ↓q_bds, ↓zq_smi, ↓zq_smr, iI_add, iI_sub, iI_mul, iI_neg, iI_ab3, iI_div, z_emod, aI_rd, aI_wr, aR0, aW0, aR1, aW1, aR2, aW2, aR3, aW3, aR4, aW4, iI_inT, iI_lt, iI_le, iI_eq, lt_t, lt_f, le_t, le_f, eq_t, eq_f, bz_z, bz_o, bz_zo, bzT, bzF, n_em, zu_s, zu_n, not_true_eq_false, not_false_eq_true, and_self, true_and, and_true, false_and, and_false, true_or, or_true, false_or, or_false, or_self, Int.add_sub_cancel, n_0, n_1, n_2, n_3, n_4, n_5, n_6, n_7, n_8, n_9, n_10, n_11, n_12, n_13, n_14, n_15, n_16, n_17, n_18, n_19, n_20, n_21, n_22, n_23, n_24, n_25, n_26, n_27, n_28, n_29, n_30, n_31, n_32, n_33, n_34, n_35, n_36, n_37, n_40, n_44, n_48, n_50, n_57, n_58, n_60, n_65, n_66, n_67, n_68, n_69, n_70, n_71, n_73, n_77, n_80, n_83, n_97, n_98, n_99, n_100, n_101, n_102, n_103, n_104, n_105, n_106, n_107, n_108, n_109, n_110, n_111, n_112, n_113, n_114, n_115, n_116, n_117, n_118, n_120, n_121, n_122, n_180, n_255, n_539, n_600, n_616, n_1200, n_2000, n_3600, n_8400, n_65536, z_isWithin, y1, z1]
    · unfold f_X11_listens f_X11_hearsTones
      simp (disch := omega) only [↓q_brd, ↓q_gdd, ↓q_lts, ↓reduceIte, ↓q_bds, ↓zq_smi, ↓zq_smr, iI_add, iI_sub, iI_mul, iI_neg, iI_ab3, iI_div, z_emod, aI_rd, aI_wr, aR0, aW0, aR1, aW1, aR2, aW2, aR3, aW3, aR4, aW4, iI_inT, iI_lt, iI_le, iI_eq, lt_t, lt_f, le_t, le_f, eq_t, eq_f, bz_z, bz_o, bz_zo, bzT, bzF, n_em, zu_s, zu_n, not_true_eq_false, not_false_eq_true, and_self, true_and, and_true, false_and, and_false, true_or, or_true, false_or, or_false, or_self, Int.add_sub_cancel, n_0, n_1, n_2, n_3, n_4, n_5, n_6, n_7, n_8, n_9, n_10, n_11, n_12, n_13, n_14, n_15, n_16, n_17, n_18, n_19, n_20, n_21, n_22, n_23, n_24, n_25, n_26, n_27, n_28, n_29, n_30, n_31, n_32, n_33, n_34, n_35, n_36, n_37, n_40, n_44, n_48, n_50, n_57, n_58, n_60, n_65, n_66, n_67, n_68, n_69, n_70, n_71, n_73, n_77, n_80, n_83, n_97, n_98, n_99, n_100, n_101, n_102, n_103, n_104, n_105, n_106, n_107, n_108, n_109, n_110, n_111, n_112, n_113, n_114, n_115, n_116, n_117, n_118, n_120, n_121, n_122, n_180, n_255, n_539, n_600, n_616, n_1200, n_2000, n_3600, n_8400, n_65536, z_in, y2, z2]
  · refine ⟨A, B, 0, ?_, ?_, SR_nil A B, fun _ => rfl⟩
    · unfold f_X2_listen
      simp (disch := omega) only [↓q_brd, ↓q_gdd, ↓q_lts, ↓reduceIte, ↓q_bds, ↓zq_smi, ↓zq_smr, iI_add, iI_sub, iI_mul, iI_neg, iI_ab3, iI_div, z_emod, aI_rd, aI_wr, aR0, aW0, aR1, aW1, aR2, aW2, aR3, aW3, aR4, aW4, iI_inT, iI_lt, iI_le, iI_eq, lt_t, lt_f, le_t, le_f, eq_t, eq_f, bz_z, bz_o, bz_zo, bzT, bzF, n_em, zu_s, zu_n, not_true_eq_false, not_false_eq_true, and_self, true_and, and_true, false_and, and_false, true_or, or_true, false_or, or_false, or_self, Int.add_sub_cancel, n_0, n_1, n_2, n_3, n_4, n_5, n_6, n_7, n_8, n_9, n_10, n_11, n_12, n_13, n_14, n_15, n_16, n_17, n_18, n_19, n_20, n_21, n_22, n_23, n_24, n_25, n_26, n_27, n_28, n_29, n_30, n_31, n_32, n_33, n_34, n_35, n_36, n_37, n_40, n_44, n_48, n_50, n_57, n_58, n_60, n_65, n_66, n_67, n_68, n_69, n_70, n_71, n_73, n_77, n_80, n_83, n_97, n_98, n_99, n_100, n_101, n_102, n_103, n_104, n_105, n_106, n_107, n_108, n_109, n_110, n_111, n_112, n_113, n_114, n_115, n_116, n_117, n_118, n_120, n_121, n_122, n_180, n_255, n_539, n_600, n_616, n_1200, n_2000, n_3600, n_8400, n_65536, z_isWithin, c]
    · by_cases c2 : b = 31
      · subst c2
        have y := z_hush_L hW (b := 31) (s := 0) (by omega) (aI B) (iI 0) 4 0 2000 (by omega) (by omega) (by omega)
        have z2 := z_hushc_L hW (aI B) (iI 0) (G 1).toNat 0 2000 (by omega) (by omega) (by omega)
        unfold f_X11_listens f_X11_hearsTones
        simp (disch := omega) only [↓q_brd, ↓q_gdd, ↓q_lts, ↓reduceIte, ↓q_bds, ↓zq_smi, ↓zq_smr, iI_add, iI_sub, iI_mul, iI_neg, iI_ab3, iI_div, z_emod, aI_rd, aI_wr, aR0, aW0, aR1, aW1, aR2, aW2, aR3, aW3, aR4, aW4, iI_inT, iI_lt, iI_le, iI_eq, lt_t, lt_f, le_t, le_f, eq_t, eq_f, bz_z, bz_o, bz_zo, bzT, bzF, n_em, zu_s, zu_n, not_true_eq_false, not_false_eq_true, and_self, true_and, and_true, false_and, and_false, true_or, or_true, false_or, or_false, or_self, Int.add_sub_cancel, n_0, n_1, n_2, n_3, n_4, n_5, n_6, n_7, n_8, n_9, n_10, n_11, n_12, n_13, n_14, n_15, n_16, n_17, n_18, n_19, n_20, n_21, n_22, n_23, n_24, n_25, n_26, n_27, n_28, n_29, n_30, n_31, n_32, n_33, n_34, n_35, n_36, n_37, n_40, n_44, n_48, n_50, n_57, n_58, n_60, n_65, n_66, n_67, n_68, n_69, n_70, n_71, n_73, n_77, n_80, n_83, n_97, n_98, n_99, n_100, n_101, n_102, n_103, n_104, n_105, n_106, n_107, n_108, n_109, n_110, n_111, n_112, n_113, n_114, n_115, n_116, n_117, n_118, n_120, n_121, n_122, n_180, n_255, n_539, n_600, n_616, n_1200, n_2000, n_3600, n_8400, n_65536, z_in, y, z2]
      · have c3 : ¬ (0 ≤ b ∧ b ≤ 31) := by omega
        unfold f_X11_listens
        simp (disch := omega) only [↓q_brd, ↓q_gdd, ↓q_lts, ↓reduceIte, ↓q_bds, ↓zq_smi, ↓zq_smr, iI_add, iI_sub, iI_mul, iI_neg, iI_ab3, iI_div, z_emod, aI_rd, aI_wr, aR0, aW0, aR1, aW1, aR2, aW2, aR3, aW3, aR4, aW4, iI_inT, iI_lt, iI_le, iI_eq, lt_t, lt_f, le_t, le_f, eq_t, eq_f, bz_z, bz_o, bz_zo, bzT, bzF, n_em, zu_s, zu_n, not_true_eq_false, not_false_eq_true, and_self, true_and, and_true, false_and, and_false, true_or, or_true, false_or, or_false, or_self, Int.add_sub_cancel, n_0, n_1, n_2, n_3, n_4, n_5, n_6, n_7, n_8, n_9, n_10, n_11, n_12, n_13, n_14, n_15, n_16, n_17, n_18, n_19, n_20, n_21, n_22, n_23, n_24, n_25, n_26, n_27, n_28, n_29, n_30, n_31, n_32, n_33, n_34, n_35, n_36, n_37, n_40, n_44, n_48, n_50, n_57, n_58, n_60, n_65, n_66, n_67, n_68, n_69, n_70, n_71, n_73, n_77, n_80, n_83, n_97, n_98, n_99, n_100, n_101, n_102, n_103, n_104, n_105, n_106, n_107, n_108, n_109, n_110, n_111, n_112, n_113, n_114, n_115, n_116, n_117, n_118, n_120, n_121, n_122, n_180, n_255, n_539, n_600, n_616, n_1200, n_2000, n_3600, n_8400, n_65536, z_in, c3]
def cR (G : Int → Int) (b : Int) : (Nat → Int32) × Int32 := (f_X11_listens (aI G) (aI fun _ => 0) (iI 0) (iI b)).getD (aI fun _ => 0, iI 0)
def cN (G : Int → Int) (b : Int) : Int := (cR G b).2.toInt
def cC (G : Int → Int) (b : Int) : Int → Int := fun k => ((cR G b).1 k.toNat).toInt
theorem z_heard {G P L E T D S : Int → Int} (hW : VW G P L E T D S) {b : Int} (hb : -2147483648 ≤ b ∧ b < 2147483648) :
    SR (cC G b) (cC G b) (cN G b) ∧ (b < 0 ∨ 30 < b → cN G b = 0) ∧ (∀ A n1, ∃ A', f_X2_listen (aI A) n1 (aI P) (iI (G 0)) (aI L) (aI E) (aI T) (aI D) (aI S) (iI (G 1)) (iI b) = some (aI A', iI (cN G b)) ∧ SR A' (cC G b) (cN G b)) ∧ (∀ B n2, ∃ B', f_X11_listens (aI G) (aI B) n2 (iI b) = some (aI B', iI (cN G b)) ∧ SR B' (cC G b) (cN G b)) := by
  obtain ⟨A0, B0, n0, x1, x2, x3, x4⟩ := z_listen hW hb (fun _ => 0) (fun _ => 0) (iI 0) (iI 0)
  obtain ⟨y0, y1, y2⟩ := id x3
  have hR : cR G b = (aI B0, iI n0) := by unfold cR; rw [x2]; rfl
  have hN : cN G b = n0 := by unfold cN; rw [hR]; exact iI_to (by omega)
  have hC : ∀ k, 0 ≤ k → k < n0 → cC G b k = B0 k := fun k k0 k1 => by
    unfold cC
    rw [hR]
    show (iI (B0 ((k.toNat : Nat) : Int))).toInt = B0 k
    rw [Int.toNat_of_nonneg k0]
    have := y1 k k0 k1
    exact iI_to (by omega)
  have key : ∀ F, SR F B0 n0 → SR F (cC G b) n0 := fun F hF => ⟨y0, fun k k0 k1 => by rw [hC k k0 k1]; exact hF.2.1 k k0 k1, hF.2.2⟩
  rw [hN]
  refine ⟨⟨y0, fun k k0 k1 => ?_, fun j k j0 j1 k1 => ?_⟩, x4, fun A n1 => ?_, fun B n2 => ?_⟩
  · rw [hC k k0 k1]
    have := y1 k k0 k1
    omega
  · rw [hC k (by omega) k1, hC j j0 (by omega)]
    have := y2 j k j0 j1 k1
    have a1 := y1 k (by omega) k1
    have a2 := y1 j (by omega) (by omega)
    omega
  · obtain ⟨A1, B1, m1, z1, z2, z3, z4⟩ := z_listen hW hb A (fun _ => 0) n1 (iI 0)
    rw [x2] at z2
    have e := Prod.mk.inj (Option.some.inj z2)
    have em : m1 = n0 := by
      have e2 := congrArg Int32.toInt e.2
      have := z3.1
      rw [iI_to (by omega), iI_to (by omega)] at e2
      omega
    subst em
    refine ⟨A1, z1, key A1 ⟨y0, fun k k0 k1 => ?_, z3.2.2⟩⟩
    have a1 := z3.2.1 k k0 k1
    have a2 := y1 k k0 k1
    have e3 : iI (B0 ((k.toNat : Nat) : Int)) = iI (B1 ((k.toNat : Nat) : Int)) := congrFun e.1 k.toNat
    rw [Int.toNat_of_nonneg k0] at e3
    have e4 := congrArg Int32.toInt e3
    rw [iI_to (by omega), iI_to (by omega)] at e4
    omega
  · obtain ⟨A1, B1, m1, z1, z2, z3, z4⟩ := z_listen hW hb (fun _ => 0) B (iI 0) n2
    rw [x1] at z1
    have e := Prod.mk.inj (Option.some.inj z1)
    have em : m1 = n0 := by
      have e2 := congrArg Int32.toInt e.2
      have := z3.1
      rw [iI_to (by omega), iI_to (by omega)] at e2
      omega
    subst em
    have heq : ∀ k, 0 ≤ k → k < m1 → A0 k = A1 k := fun k k0 k1 => by
      have a1 := z3.2.1 k k0 k1
      have a2 := y1 k k0 k1
      have e3 : iI (A0 ((k.toNat : Nat) : Int)) = iI (A1 ((k.toNat : Nat) : Int)) := congrFun e.1 k.toNat
      rw [Int.toNat_of_nonneg k0] at e3
      have e4 := congrArg Int32.toInt e3
      rw [iI_to (by omega), iI_to (by omega)] at e4
      exact e4
    refine ⟨B1, z2, key B1 ⟨y0, fun k k0 k1 => ?_, fun j k j0 j1 k1 => ?_⟩⟩
    · have a1 := z3.2.1 k k0 k1
      have a2 := y1 k k0 k1
      have a3 := heq k k0 k1
      omega
    · have a1 := z3.2.1 k (by omega) k1
      have a2 := z3.2.1 j (by omega) (by omega)
      have a3 := z3.2.2 j k j0 j1 k1
      omega
