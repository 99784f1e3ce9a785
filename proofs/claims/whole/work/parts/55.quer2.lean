set_option maxHeartbeats 4000000 in
theorem lc_18 {IL : Line_t → (Nat → Int32) → Int32 → Prop} {x : VB_t} {y : Model_t} {z : Nat → Int64} {w : Nat → UInt64} {xs : Nat → Int32} {n : Nat} {i : Int} (hI : Inv IL x y) (hi : 0 ≤ i ∧ i + 2 < n ∧ n ≤ 10000) : ∃ x2 y2 z2 w2, f_c18 x y z w xs n (iI i) = some (x2, y2, z2, w2) ∧ Inv IL x2 y2 := by
  obtain ⟨⟨G, v1, ⟨H, P, L, E, T, D, S, hV, hB, hM, hC⟩, v3⟩, i2, i3, i4, i5, i6, i7⟩ := hI
  obtain ⟨g0, g1, g2, g3, g4, hb, hm, hc⟩ := id v3
  have hcc := z_countIn (P := P) (n := G 0) (t := G 2) (m := G 3) (o := G 4) g0 ⟨g2, g3, g4⟩ (fun k k0 k1 => by have y := hB k k0 k1; have y2 := hb k k0 k1; omega)
  have hcl := z_keyed (g := G) (t := G 2) (m := G 3) g0 ⟨g2, g3, g4⟩ (fun k k0 k1 => by have y2 := hb k k0 k1; omega)
  have hsz : sz (fun k => bz (ac (G 2) (G 3) (G 4) (P k))) 0 (G 0).toNat = sz (fun k => bz (ac (G 2) (G 3) (G 4) (G (17 + k)))) 0 (G 0).toNat := sz_cong _ _ (fun k k0 k1 => by rw [(hB k k0 (by omega)).2])
  have hrg := sz_rng (f := fun k => bz (ac (G 2) (G 3) (G 4) (G (17 + k)))) (b := 1) (G 0).toNat 0 (fun k _ _ => bz_rng)
  rw [hsz] at hcc
  generalize sz (fun k => bz (ac (G 2) (G 3) (G 4) (G (17 + k)))) 0 (G 0).toNat = R at *
  unfold f_c18 f_case18 f_X10_isTuned f_X11_isTuned
  rw [v1, hV]
  by_cases e : R = G 0
  · simp (disch := omega) only [↓q_brd, ↓q_gdd, ↓q_lts, ↓reduceIte, ↓q_bds, ↓zq_smi, ↓zq_smr, iI_add, iI_sub, iI_mul, iI_neg, iI_ab3, iI_div, z_emod, aI_rd, aI_wr, aR0, aW0, aR1, aW1, aR2, aW2, aR3, aW3, aR4, aW4, iI_inT, iI_lt, iI_le, iI_eq, lt_t, lt_f, le_t, le_f, eq_t, eq_f, bz_z, bz_o, bz_zo, bzT, bzF, n_em, zu_s, zu_n, not_true_eq_false, not_false_eq_true, and_self, true_and, and_true, false_and, and_false, true_or, or_true, false_or, or_false, or_self, Int.add_sub_cancel, n_0, n_1, n_2, n_3, n_4, n_5, n_6, n_7, n_8, n_9, n_10, n_11, n_12, n_13, n_14, n_15, n_16, n_17, n_18, n_19, n_20, n_21, n_22, n_23, n_24, n_25, n_26, n_27, n_28, n_29, n_30, n_31, n_32, n_33, n_34, n_35, n_36, n_37, n_40, n_44, n_48, n_50, n_57, n_58, n_60, n_65, n_66, n_67, n_68, n_69, n_70, n_71, n_73, n_77, n_80, n_83, n_97, n_98, n_99, n_100, n_101, n_102, n_103, n_104, n_105, n_106, n_107, n_108, n_109, n_110, n_111, n_112, n_113, n_114, n_115, n_116, n_117, n_118, n_120, n_121, n_122, n_180, n_255, n_539, n_600, n_616, n_1200, n_2000, n_3600, n_8400, n_65536, hcc, hcl, e]
    exact ⟨_, _, _, _, rfl, ⟨G, rfl, ⟨H, P, L, E, T, D, S, hV, hB, hM, hC⟩, v3⟩, i2, i3, i4, i5, i6, i7⟩
  · simp (disch := omega) only [↓q_brd, ↓q_gdd, ↓q_lts, ↓reduceIte, ↓q_bds, ↓zq_smi, ↓zq_smr, iI_add, iI_sub, iI_mul, iI_neg, iI_ab3, iI_div, z_emod, aI_rd, aI_wr, aR0, aW0, aR1, aW1, aR2, aW2, aR3, aW3, aR4, aW4, iI_inT, iI_lt, iI_le, iI_eq, lt_t, lt_f, le_t, le_f, eq_t, eq_f, bz_z, bz_o, bz_zo, bzT, bzF, n_em, zu_s, zu_n, not_true_eq_false, not_false_eq_true, and_self, true_and, and_true, false_and, and_false, true_or, or_true, false_or, or_false, or_self, Int.add_sub_cancel, n_0, n_1, n_2, n_3, n_4, n_5, n_6, n_7, n_8, n_9, n_10, n_11, n_12, n_13, n_14, n_15, n_16, n_17, n_18, n_19, n_20, n_21, n_22, n_23, n_24, n_25, n_26, n_27, n_28, n_29, n_30, n_31, n_32, n_33, n_34, n_35, n_36, n_37, n_40, n_44, n_48, n_50, n_57, n_58, n_60, n_65, n_66, n_67, n_68, n_69, n_70, n_71, n_73, n_77, n_80, n_83, n_97, n_98, n_99, n_100, n_101, n_102, n_103, n_104, n_105, n_106, n_107, n_108, n_109, n_110, n_111, n_112, n_113, n_114, n_115, n_116, n_117, n_118, n_120, n_121, n_122, n_180, n_255, n_539, n_600, n_616, n_1200, n_2000, n_3600, n_8400, n_65536, hcc, hcl, e]
    exact ⟨_, _, _, _, rfl, ⟨G, rfl, ⟨H, P, L, E, T, D, S, hV, hB, hM, hC⟩, v3⟩, i2, i3, i4, i5, i6, i7⟩
theorem sc_12 : ∀ m : Fin 2, ∀ k : Fin 12, (sl (m.val : Int) (k.val : Int) = true ∨ sl (m.val : Int) (((k.val : Int) + 1) % 12) = true) := by decide +kernel
theorem sc_step {t m q : Int} (hm : m = 0 ∨ m = 1) : sc t m q ∨ sc t m (q + 1) := by
  have h0 : 0 ≤ (q - t) % 12 ∧ (q - t) % 12 < 12 := by omega
  have e : (q + 1 - t) % 12 = ((q - t) % 12 + 1) % 12 := by omega
  have hk : (((⟨((q - t) % 12).toNat, by omega⟩ : Fin 12).val : Int)) = (q - t) % 12 := by show (((q - t) % 12).toNat : Int) = _; omega
  rcases hm with h | h
  · subst h
    have := sc_12 0 ⟨((q - t) % 12).toNat, by omega⟩
    rw [hk] at this
    rw [← e] at this
    exact this
  · subst h
    have := sc_12 1 ⟨((q - t) % 12).toNat, by omega⟩
    rw [hk] at this
    rw [← e] at this
    exact this
theorem cents_ex {t m p : Int} (ht : 0 ≤ t ∧ t ≤ 11) (hm : m = 0 ∨ m = 1) (hp : 3600 ≤ p ∧ p ≤ 8400) : ∃ u v : Int, (0 ≤ u ∧ u ≤ 199) ∧ (0 ≤ v ∧ v ≤ 199) ∧ ex t m (p + u) ∧ ex t m (p - v) ∧ (∀ c, 0 ≤ c → c < u → ¬ ex t m (p + c)) ∧ (∀ c, 0 ≤ c → c < v → ¬ ex t m (p - c)) ∧
    (∃ A, f_X6_noteAbove (iI t) (iI m) (iI p) = some (iI A) ∧ 100 * A - p = u) ∧ (∃ B, f_X6_noteBelow (iI t) (iI m) (iI p) = some (iI B) ∧ p - 100 * B = v) := by
  have hA : ∃ A, f_X6_noteAbove (iI t) (iI m) (iI p) = some (iI A) ∧ sc t m A ∧ (A = (p + 99) / 100 ∨ (A = (p + 99) / 100 + 1 ∧ ¬ sc t m ((p + 99) / 100))) := by
    by_cases e : sc t m ((p + 99) / 100)
    · refine ⟨(p + 99) / 100, ?_, e, Or.inl rfl⟩
      unfold f_X6_noteAbove f_X6_noteAbove_L14
      simp (disch := omega) only [↓q_brd, ↓q_gdd, ↓q_lts, ↓reduceIte, ↓q_bds, ↓zq_smi, ↓zq_smr, iI_add, iI_sub, iI_mul, iI_neg, iI_ab3, iI_div, z_emod, aI_rd, aI_wr, aR0, aW0, aR1, aW1, aR2, aW2, aR3, aW3, aR4, aW4, iI_inT, iI_lt, iI_le, iI_eq, lt_t, lt_f, le_t, le_f, eq_t, eq_f, bz_z, bz_o, bz_zo, bzT, bzF, n_em, zu_s, zu_n, not_true_eq_false, not_false_eq_true, and_self, true_and, and_true, false_and, and_false, true_or, or_true, false_or, or_false, or_self, Int.add_sub_cancel, n_0, n_1, n_2, n_3, n_4, n_5, n_6, n_7, n_8, n_9, n_10, n_11, n_12, n_13, n_14, n_15, n_16, n_17, n_18, n_19, n_20, n_21, n_22, n_23, n_24, n_25, n_26, n_27, n_28, n_29, n_30, n_31, n_32, n_33, n_34, n_35, n_36, n_37, n_40, n_44, n_48, n_50, n_57, n_58, n_60, n_65, n_66, n_67, n_68, n_69, n_70, n_71, n_73, n_77, n_80, n_83, n_97, n_98, n_99, n_100, n_101, n_102, n_103, n_104, n_105, n_106, n_107, n_108, n_109, n_110, n_111, n_112, n_113, n_114, n_115, n_116, n_117, n_118, n_120, n_121, n_122, n_180, n_255, n_539, n_600, n_616, n_1200, n_2000, n_3600, n_8400, n_65536, show p + 100 - 1 = p + 99 by omega, z_fdiv, z_hasNote, bz_t e]
    · have e2 := (sc_step (t := t) (q := (p + 99) / 100) hm).resolve_left e
      refine ⟨(p + 99) / 100 + 1, ?_, e2, Or.inr ⟨rfl, e⟩⟩
      unfold f_X6_noteAbove f_X6_noteAbove_L14 f_X6_noteAbove_L14
      simp (disch := omega) only [↓q_brd, ↓q_gdd, ↓q_lts, ↓reduceIte, ↓q_bds, ↓zq_smi, ↓zq_smr, iI_add, iI_sub, iI_mul, iI_neg, iI_ab3, iI_div, z_emod, aI_rd, aI_wr, aR0, aW0, aR1, aW1, aR2, aW2, aR3, aW3, aR4, aW4, iI_inT, iI_lt, iI_le, iI_eq, lt_t, lt_f, le_t, le_f, eq_t, eq_f, bz_z, bz_o, bz_zo, bzT, bzF, n_em, zu_s, zu_n, not_true_eq_false, not_false_eq_true, and_self, true_and, and_true, false_and, and_false, true_or, or_true, false_or, or_false, or_self, Int.add_sub_cancel, n_0, n_1, n_2, n_3, n_4, n_5, n_6, n_7, n_8, n_9, n_10, n_11, n_12, n_13, n_14, n_15, n_16, n_17, n_18, n_19, n_20, n_21, n_22, n_23, n_24, n_25, n_26, n_27, n_28, n_29, n_30, n_31, n_32, n_33, n_34, n_35, n_36, n_37, n_40, n_44, n_48, n_50, n_57, n_58, n_60, n_65, n_66, n_67, n_68, n_69, n_70, n_71, n_73, n_77, n_80, n_83, n_97, n_98, n_99, n_100, n_101, n_102, n_103, n_104, n_105, n_106, n_107, n_108, n_109, n_110, n_111, n_112, n_113, n_114, n_115, n_116, n_117, n_118, n_120, n_121, n_122, n_180, n_255, n_539, n_600, n_616, n_1200, n_2000, n_3600, n_8400, n_65536, show p + 100 - 1 = p + 99 by omega, z_fdiv, z_hasNote, bz_f e, bz_t e2]
  have hB : ∃ B, f_X6_noteBelow (iI t) (iI m) (iI p) = some (iI B) ∧ sc t m B ∧ (B = p / 100 ∨ (B = p / 100 - 1 ∧ ¬ sc t m (p / 100))) := by
    by_cases e : sc t m (p / 100)
    · refine ⟨p / 100, ?_, e, Or.inl rfl⟩
      unfold f_X6_noteBelow f_X6_noteBelow_L9
      simp (disch := omega) only [↓q_brd, ↓q_gdd, ↓q_lts, ↓reduceIte, ↓q_bds, ↓zq_smi, ↓zq_smr, iI_add, iI_sub, iI_mul, iI_neg, iI_ab3, iI_div, z_emod, aI_rd, aI_wr, aR0, aW0, aR1, aW1, aR2, aW2, aR3, aW3, aR4, aW4, iI_inT, iI_lt, iI_le, iI_eq, lt_t, lt_f, le_t, le_f, eq_t, eq_f, bz_z, bz_o, bz_zo, bzT, bzF, n_em, zu_s, zu_n, not_true_eq_false, not_false_eq_true, and_self, true_and, and_true, false_and, and_false, true_or, or_true, false_or, or_false, or_self, Int.add_sub_cancel, n_0, n_1, n_2, n_3, n_4, n_5, n_6, n_7, n_8, n_9, n_10, n_11, n_12, n_13, n_14, n_15, n_16, n_17, n_18, n_19, n_20, n_21, n_22, n_23, n_24, n_25, n_26, n_27, n_28, n_29, n_30, n_31, n_32, n_33, n_34, n_35, n_36, n_37, n_40, n_44, n_48, n_50, n_57, n_58, n_60, n_65, n_66, n_67, n_68, n_69, n_70, n_71, n_73, n_77, n_80, n_83, n_97, n_98, n_99, n_100, n_101, n_102, n_103, n_104, n_105, n_106, n_107, n_108, n_109, n_110, n_111, n_112, n_113, n_114, n_115, n_116, n_117, n_118, n_120, n_121, n_122, n_180, n_255, n_539, n_600, n_616, n_1200, n_2000, n_3600, n_8400, n_65536, z_fdiv, z_hasNote, bz_t e]
    · have e2 := (sc_step (t := t) (q := p / 100 - 1) hm).resolve_right (by rw [show p / 100 - 1 + 1 = p / 100 by omega]; exact e)
      refine ⟨p / 100 - 1, ?_, e2, Or.inr ⟨rfl, e⟩⟩
      unfold f_X6_noteBelow f_X6_noteBelow_L9 f_X6_noteBelow_L9
      simp (disch := omega) only [↓q_brd, ↓q_gdd, ↓q_lts, ↓reduceIte, ↓q_bds, ↓zq_smi, ↓zq_smr, iI_add, iI_sub, iI_mul, iI_neg, iI_ab3, iI_div, z_emod, aI_rd, aI_wr, aR0, aW0, aR1, aW1, aR2, aW2, aR3, aW3, aR4, aW4, iI_inT, iI_lt, iI_le, iI_eq, lt_t, lt_f, le_t, le_f, eq_t, eq_f, bz_z, bz_o, bz_zo, bzT, bzF, n_em, zu_s, zu_n, not_true_eq_false, not_false_eq_true, and_self, true_and, and_true, false_and, and_false, true_or, or_true, false_or, or_false, or_self, Int.add_sub_cancel, n_0, n_1, n_2, n_3, n_4, n_5, n_6, n_7, n_8, n_9, n_10, n_11, n_12, n_13, n_14, n_15, n_16, n_17, n_18, n_19, n_20, n_21, n_22, n_23, n_24, n_25, n_26, n_27, n_28, n_29, n_30, n_31, n_32, n_33, n_34, n_35, n_36, n_37, n_40, n_44, n_48, n_50, n_57, n_58, n_60, n_65, n_66, n_67, n_68, n_69, n_70, n_71, n_73, n_77, n_80, n_83, n_97, n_98, n_99, n_100, n_101, n_102, n_103, n_104, n_105, n_106, n_107, n_108, n_109, n_110, n_111, n_112, n_113, n_114, n_115, n_116, n_117, n_118, n_120, n_121, n_122, n_180, n_255, n_539, n_600, n_616, n_1200, n_2000, n_3600, n_8400, n_65536, z_fdiv, z_hasNote, bz_f e, show p / 100 + -1 = p / 100 - 1 by omega, bz_t e2]
  obtain ⟨A, a1, a2, a3⟩ := hA
  obtain ⟨B, b1, b2, b3⟩ := hB
  refine ⟨100 * A - p, p - 100 * B, by omega, by omega, ⟨by omega, ?_⟩, ⟨by omega, ?_⟩, ?_, ?_, ⟨A, a1, rfl⟩, ⟨B, b1, rfl⟩⟩
  · rw [show (p + (100 * A - p)) / 100 = A by omega]; exact a2
  · rw [show (p - (p - 100 * B)) / 100 = B by omega]; exact b2
  · rintro c c0 c1 ⟨h1, h2⟩
    rcases a3 with a3 | ⟨a3, a4⟩
    · omega
    · rw [show (p + c) / 100 = (p + 99) / 100 by omega] at h2
      exact a4 h2
  · rintro c c0 c1 ⟨h1, h2⟩
    rcases b3 with b3 | ⟨b3, b4⟩
    · omega
    · rw [show (p - c) / 100 = p / 100 by omega] at h2
      exact b4 h2
def mn (u v : Int) : Int := if u ≤ v then u else v
def cents (u v : Int) : Int := if u ≤ v then u else -v
theorem z_trial_L {t m p u v : Int} (ht : 0 ≤ t ∧ t ≤ 11) (hm : m = 0 ∨ m = 1) (hp : 3600 ≤ p ∧ p ≤ 8400) (hu : 0 ≤ u ∧ u ≤ 199) (hv : 0 ≤ v ∧ v ≤ 199) (eu : ex t m (p + u)) (ev : ex t m (p - v)) (nu : ∀ c, 0 ≤ c → c < u → ¬ ex t m (p + c)) (nv : ∀ c, 0 ≤ c → c < v → ¬ ex t m (p - c)) (d : Nat) : ∀ (i : Int) (fuel : Nat), 0 ≤ i → i + d = mn u v → d < fuel →
    f_X6_centsByTrial_L2 (iI t) (iI m) (iI p) fuel (iI i) = some (iI (cents u v)) := by
  induction d with
  | zero =>
    intro i fuel h1 h2 h3
    obtain ⟨fl, rfl⟩ : ∃ fl, fuel = fl + 1 := ⟨fuel - 1, by omega⟩
    unfold f_X6_centsByTrial_L2 cents
    unfold mn at h2
    by_cases e : u ≤ v
    · have : i = u := by rw [if_pos e] at h2; omega
      subst this
      simp (disch := omega) only [↓q_brd, ↓q_gdd, ↓q_lts, ↓reduceIte, ↓q_bds, ↓zq_smi, ↓zq_smr, iI_add, iI_sub, iI_mul, iI_neg, iI_ab3, iI_div, z_emod, aI_rd, aI_wr, aR0, aW0, aR1, aW1, aR2, aW2, aR3, aW3, aR4, aW4, iI_inT, iI_lt, iI_le, iI_eq, lt_t, lt_f, le_t, le_f, eq_t, eq_f, bz_z, bz_o, bz_zo, bzT, bzF, n_em, zu_s, zu_n, not_true_eq_false, not_false_eq_true, and_self, true_and, and_true, false_and, and_false, true_or, or_true, false_or, or_false, or_self, Int.add_sub_cancel, n_0, n_1, n_2, n_3, n_4, n_5, n_6, n_7, n_8, n_9, n_10, n_11, n_12, n_13, n_14, n_15, n_16, n_17, n_18, n_19, n_20, n_21, n_22, n_23, n_24, n_25, n_26, n_27, n_28, n_29, n_30, n_31, n_32, n_33, n_34, n_35, n_36, n_37, n_40, n_44, n_48, n_50, n_57, n_58, n_60, n_65, n_66, n_67, n_68, n_69, n_70, n_71, n_73, n_77, n_80, n_83, n_97, n_98, n_99, n_100, n_101, n_102, n_103, n_104, n_105, n_106, n_107, n_108, n_109, n_110, n_111, n_112, n_113, n_114, n_115, n_116, n_117, n_118, n_120, n_121, n_122, n_180, n_255, n_539, n_600, n_616, n_1200, n_2000, n_3600, n_8400, n_65536, z_isExact, bz_t eu]
    · have : i = v := by rw [if_neg e] at h2; omega
      subst this
      simp (disch := omega) only [↓q_brd, ↓q_gdd, ↓q_lts, ↓reduceIte, ↓q_bds, ↓zq_smi, ↓zq_smr, iI_add, iI_sub, iI_mul, iI_neg, iI_ab3, iI_div, z_emod, aI_rd, aI_wr, aR0, aW0, aR1, aW1, aR2, aW2, aR3, aW3, aR4, aW4, iI_inT, iI_lt, iI_le, iI_eq, lt_t, lt_f, le_t, le_f, eq_t, eq_f, bz_z, bz_o, bz_zo, bzT, bzF, n_em, zu_s, zu_n, not_true_eq_false, not_false_eq_true, and_self, true_and, and_true, false_and, and_false, true_or, or_true, false_or, or_false, or_self, Int.add_sub_cancel, n_0, n_1, n_2, n_3, n_4, n_5, n_6, n_7, n_8, n_9, n_10, n_11, n_12, n_13, n_14, n_15, n_16, n_17, n_18, n_19, n_20, n_21, n_22, n_23, n_24, n_25, n_26, n_27, n_28, n_29, n_30, n_31, n_32, n_33, n_34, n_35, n_36, n_37, n_40, n_44, n_48, n_50, n_57, n_58, n_60, n_65, n_66, n_67, n_68, n_69, n_70, n_71, n_73, n_77, n_80, n_83, n_97, n_98, n_99, n_100, n_101, n_102, n_103, n_104, n_105, n_106, n_107, n_108, n_109, n_110, n_111, n_112, n_113, n_114, n_115, n_116, n_117, n_118, n_120, n_121, n_122, n_180, n_255, n_539, n_600, n_616, n_1200, n_2000, n_3600, n_8400, n_65536, z_isExact, bz_f (nu i (by omega) (by omega)), bz_t ev]
  | succ d ih =>
    intro i fuel h1 h2 h3
    obtain ⟨fl, rfl⟩ : ∃ fl, fuel = fl + 1 := ⟨fuel - 1, by omega⟩
    have hi : i < u ∧ i < v := by unfold mn at h2; omega
    unfold f_X6_centsByTrial_L2
    simp (disch := omega) only [↓q_brd, ↓q_gdd, ↓q_lts, ↓reduceIte, ↓q_bds, ↓zq_smi, ↓zq_smr, iI_add, iI_sub, iI_mul, iI_neg, iI_ab3, iI_div, z_emod, aI_rd, aI_wr, aR0, aW0, aR1, aW1, aR2, aW2, aR3, aW3, aR4, aW4, iI_inT, iI_lt, iI_le, iI_eq, lt_t, lt_f, le_t, le_f, eq_t, eq_f, bz_z, bz_o, bz_zo, bzT, bzF, n_em, zu_s, zu_n, not_true_eq_false, not_false_eq_true, and_self, true_and, and_true, false_and, and_false, true_or, or_true, false_or, or_false, or_self, Int.add_sub_cancel, n_0, n_1, n_2, n_3, n_4, n_5, n_6, n_7, n_8, n_9, n_10, n_11, n_12, n_13, n_14, n_15, n_16, n_17, n_18, n_19, n_20, n_21, n_22, n_23, n_24, n_25, n_26, n_27, n_28, n_29, n_30, n_31, n_32, n_33, n_34, n_35, n_36, n_37, n_40, n_44, n_48, n_50, n_57, n_58, n_60, n_65, n_66, n_67, n_68, n_69, n_70, n_71, n_73, n_77, n_80, n_83, n_97, n_98, n_99, n_100, n_101, n_102, n_103, n_104, n_105, n_106, n_107, n_108, n_109, n_110, n_111, n_112, n_113, n_114, n_115, n_116, n_117, n_118, n_120, n_121, n_122, n_180, n_255, n_539, n_600, n_616, n_1200, n_2000, n_3600, n_8400, n_65536, z_isExact, bz_f (nu i (by omega) (by omega)), bz_f (nv i (by omega) (by omega))]
    exact ih (i + 1) fl (by omega) (by omega) (by omega)
theorem z_mtrial_L {g : Int → Int} {b u v : Int} (hb : 0 ≤ b ∧ b < 12) (ht : 0 ≤ g 2 ∧ g 2 ≤ 11) (hm : g 3 = 0 ∨ g 3 = 1) (hp : 3600 ≤ g (17 + b) ∧ g (17 + b) ≤ 8400) (hu : 0 ≤ u ∧ u ≤ 199) (hv : 0 ≤ v ∧ v ≤ 199) (eu : ex (g 2) (g 3) (g (17 + b) + u)) (ev : ex (g 2) (g 3) (g (17 + b) - v)) (nu : ∀ c, 0 ≤ c → c < u → ¬ ex (g 2) (g 3) (g (17 + b) + c)) (nv : ∀ c, 0 ≤ c → c < v → ¬ ex (g 2) (g 3) (g (17 + b) - c)) (K : Int32 → Option (Int32 × Int32)) (d : Nat) : ∀ (i : Int) (fuel : Nat), 0 ≤ i → i + d = mn u v → d < fuel →
    f_X11_centsToKey_L16 (aI g) (iI b) K fuel (iI i) = K (iI (mn u v)) := by
  induction d with
  | zero =>
    intro i fuel h1 h2 h3
    obtain ⟨fl, rfl⟩ : ∃ fl, fuel = fl + 1 := ⟨fuel - 1, by omega⟩
    unfold f_X11_centsToKey_L16
    rw [← h2]
    unfold mn at h2
    by_cases e : u ≤ v
    · have : i = u := by rw [if_pos e] at h2; omega
      subst this
      simp (disch := omega) only [↓q_brd, ↓q_gdd, ↓q_lts, ↓reduceIte, ↓q_bds, ↓zq_smi, ↓zq_smr, iI_add, iI_sub, iI_mul, iI_neg, iI_ab3, iI_div, z_emod, aI_rd, aI_wr, aR0, aW0, aR1, aW1, aR2, aW2, aR3, aW3, aR4, aW4, iI_inT, iI_lt, iI_le, iI_eq, lt_t, lt_f, le_t, le_f, eq_t, eq_f, bz_z, bz_o, bz_zo, bzT, bzF, n_em, zu_s, zu_n, not_true_eq_false, not_false_eq_true, and_self, true_and, and_true, false_and, and_false, true_or, or_true, false_or, or_false, or_self, Int.add_sub_cancel, n_0, n_1, n_2, n_3, n_4, n_5, n_6, n_7, n_8, n_9, n_10, n_11, n_12, n_13, n_14, n_15, n_16, n_17, n_18, n_19, n_20, n_21, n_22, n_23, n_24, n_25, n_26, n_27, n_28, n_29, n_30, n_31, n_32, n_33, n_34, n_35, n_36, n_37, n_40, n_44, n_48, n_50, n_57, n_58, n_60, n_65, n_66, n_67, n_68, n_69, n_70, n_71, n_73, n_77, n_80, n_83, n_97, n_98, n_99, n_100, n_101, n_102, n_103, n_104, n_105, n_106, n_107, n_108, n_109, n_110, n_111, n_112, n_113, n_114, n_115, n_116, n_117, n_118, n_120, n_121, n_122, n_180, n_255, n_539, n_600, n_616, n_1200, n_2000, n_3600, n_8400, n_65536, z_mExact, bz_t eu, show i + ((0 : Nat) : Int) = i from Int.add_zero i]
    · have : i = v := by rw [if_neg e] at h2; omega
      subst this
      simp (disch := omega) only [↓q_brd, ↓q_gdd, ↓q_lts, ↓reduceIte, ↓q_bds, ↓zq_smi, ↓zq_smr, iI_add, iI_sub, iI_mul, iI_neg, iI_ab3, iI_div, z_emod, aI_rd, aI_wr, aR0, aW0, aR1, aW1, aR2, aW2, aR3, aW3, aR4, aW4, iI_inT, iI_lt, iI_le, iI_eq, lt_t, lt_f, le_t, le_f, eq_t, eq_f, bz_z, bz_o, bz_zo, bzT, bzF, n_em, zu_s, zu_n, not_true_eq_false, not_false_eq_true, and_self, true_and, and_true, false_and, and_false, true_or, or_true, false_or, or_false, or_self, Int.add_sub_cancel, n_0, n_1, n_2, n_3, n_4, n_5, n_6, n_7, n_8, n_9, n_10, n_11, n_12, n_13, n_14, n_15, n_16, n_17, n_18, n_19, n_20, n_21, n_22, n_23, n_24, n_25, n_26, n_27, n_28, n_29, n_30, n_31, n_32, n_33, n_34, n_35, n_36, n_37, n_40, n_44, n_48, n_50, n_57, n_58, n_60, n_65, n_66, n_67, n_68, n_69, n_70, n_71, n_73, n_77, n_80, n_83, n_97, n_98, n_99, n_100, n_101, n_102, n_103, n_104, n_105, n_106, n_107, n_108, n_109, n_110, n_111, n_112, n_113, n_114, n_115, n_116, n_117, n_118, n_120, n_121, n_122, n_180, n_255, n_539, n_600, n_616, n_1200, n_2000, n_3600, n_8400, n_65536, z_mExact, bz_f (nu i (by omega) (by omega)), bz_t ev, show i + ((0 : Nat) : Int) = i from Int.add_zero i]
  | succ d ih =>
    intro i fuel h1 h2 h3
    obtain ⟨fl, rfl⟩ : ∃ fl, fuel = fl + 1 := ⟨fuel - 1, by omega⟩
    have hi : i < u ∧ i < v := by unfold mn at h2; omega
    unfold f_X11_centsToKey_L16
    simp (disch := omega) only [↓q_brd, ↓q_gdd, ↓q_lts, ↓reduceIte, ↓q_bds, ↓zq_smi, ↓zq_smr, iI_add, iI_sub, iI_mul, iI_neg, iI_ab3, iI_div, z_emod, aI_rd, aI_wr, aR0, aW0, aR1, aW1, aR2, aW2, aR3, aW3, aR4, aW4, iI_inT, iI_lt, iI_le, iI_eq, lt_t, lt_f, le_t, le_f, eq_t, eq_f, bz_z, bz_o, bz_zo, bzT, bzF, n_em, zu_s, zu_n, not_true_eq_false, not_false_eq_true, and_self, true_and, and_true, false_and, and_false, true_or, or_true, false_or, or_false, or_self, Int.add_sub_cancel, n_0, n_1, n_2, n_3, n_4, n_5, n_6, n_7, n_8, n_9, n_10, n_11, n_12, n_13, n_14, n_15, n_16, n_17, n_18, n_19, n_20, n_21, n_22, n_23, n_24, n_25, n_26, n_27, n_28, n_29, n_30, n_31, n_32, n_33, n_34, n_35, n_36, n_37, n_40, n_44, n_48, n_50, n_57, n_58, n_60, n_65, n_66, n_67, n_68, n_69, n_70, n_71, n_73, n_77, n_80, n_83, n_97, n_98, n_99, n_100, n_101, n_102, n_103, n_104, n_105, n_106, n_107, n_108, n_109, n_110, n_111, n_112, n_113, n_114, n_115, n_116, n_117, n_118, n_120, n_121, n_122, n_180, n_255, n_539, n_600, n_616, n_1200, n_2000, n_3600, n_8400, n_65536, z_mExact, bz_f (nu i (by omega) (by omega)), bz_f (nv i (by omega) (by omega))]
    exact ih (i + 1) fl (by omega) (by omega) (by omega)
theorem z_cents {G : Int → Int} {b : Int} (hG : VOk G) (hb : 0 ≤ b ∧ b ≤ G 0 - 1) : ∃ r, (-199 ≤ r ∧ r ≤ 199) ∧ f_X6_centsByTrial (iI (G 2)) (iI (G 3)) (iI (G (17 + b))) = some (iI r) ∧ f_X6_centsByNotes (iI (G 2)) (iI (G 3)) (iI (G (17 + b))) = some (iI r) ∧ ∀ th, f_X11_centsToKey (aI G) th (iI b) = some (iI r, iI 0) := by
  obtain ⟨g0, g1, g2, g3, g4, hbb, hm, hc⟩ := id hG
  have hp := (hbb b hb.1 (by omega)).2
  obtain ⟨u, v, hu, hv, eu, ev, nu, nv, ⟨A, a1, a2⟩, ⟨B, b1, b2⟩⟩ := cents_ex g2 g3 hp
  have hmn : 0 ≤ mn u v ∧ mn u v ≤ 199 := by unfold mn; omega
  refine ⟨cents u v, by unfold cents; omega, ?_, ?_, fun th => ?_⟩
  · unfold f_X6_centsByTrial
    rw [show (0 : Int32) = iI 0 from rfl]
    exact z_trial_L g2 g3 hp hu hv eu ev nu nv (mn u v).toNat 0 2000 (by omega) (by omega) (by omega)
  · unfold f_X6_centsByNotes cents
    by_cases e : u ≤ v
    · simp (disch := omega) only [↓q_brd, ↓q_gdd, ↓q_lts, ↓reduceIte, ↓q_bds, ↓zq_smi, ↓zq_smr, iI_add, iI_sub, iI_mul, iI_neg, iI_ab3, iI_div, z_emod, aI_rd, aI_wr, aR0, aW0, aR1, aW1, aR2, aW2, aR3, aW3, aR4, aW4, iI_inT, iI_lt, iI_le, iI_eq, lt_t, lt_f, le_t, le_f, eq_t, eq_f, bz_z, bz_o, bz_zo, bzT, bzF, n_em, zu_s, zu_n, not_true_eq_false, not_false_eq_true, and_self, true_and, and_true, false_and, and_false, true_or, or_true, false_or, or_false, or_self, Int.add_sub_cancel, n_0, n_1, n_2, n_3, n_4, n_5, n_6, n_7, n_8, n_9, n_10, n_11, n_12, n_13, n_14, n_15, n_16, n_17, n_18, n_19, n_20, n_21, n_22, n_23, n_24, n_25, n_26, n_27, n_28, n_29, n_30, n_31, n_32, n_33, n_34, n_35, n_36, n_37, n_40, n_44, n_48, n_50, n_57, n_58, n_60, n_65, n_66, n_67, n_68, n_69, n_70, n_71, n_73, n_77, n_80, n_83, n_97, n_98, n_99, n_100, n_101, n_102, n_103, n_104, n_105, n_106, n_107, n_108, n_109, n_110, n_111, n_112, n_113, n_114, n_115, n_116, n_117, n_118, n_120, n_121, n_122, n_180, n_255, n_539, n_600, n_616, n_1200, n_2000, n_3600, n_8400, n_65536, a1, b1, a2, b2]
    · simp (disch := omega) only [↓q_brd, ↓q_gdd, ↓q_lts, ↓reduceIte, ↓q_bds, ↓zq_smi, ↓zq_smr, iI_add, iI_sub, iI_mul, iI_neg, iI_ab3, iI_div, z_emod, aI_rd, aI_wr, aR0, aW0, aR1, aW1, aR2, aW2, aR3, aW3, aR4, aW4, iI_inT, iI_lt, iI_le, iI_eq, lt_t, lt_f, le_t, le_f, eq_t, eq_f, bz_z, bz_o, bz_zo, bzT, bzF, n_em, zu_s, zu_n, not_true_eq_false, not_false_eq_true, and_self, true_and, and_true, false_and, and_false, true_or, or_true, false_or, or_false, or_self, Int.add_sub_cancel, n_0, n_1, n_2, n_3, n_4, n_5, n_6, n_7, n_8, n_9, n_10, n_11, n_12, n_13, n_14, n_15, n_16, n_17, n_18, n_19, n_20, n_21, n_22, n_23, n_24, n_25, n_26, n_27, n_28, n_29, n_30, n_31, n_32, n_33, n_34, n_35, n_36, n_37, n_40, n_44, n_48, n_50, n_57, n_58, n_60, n_65, n_66, n_67, n_68, n_69, n_70, n_71, n_73, n_77, n_80, n_83, n_97, n_98, n_99, n_100, n_101, n_102, n_103, n_104, n_105, n_106, n_107, n_108, n_109, n_110, n_111, n_112, n_113, n_114, n_115, n_116, n_117, n_118, n_120, n_121, n_122, n_180, n_255, n_539, n_600, n_616, n_1200, n_2000, n_3600, n_8400, n_65536, a1, b1, a2, b2]
  · have hl := fun K => z_mtrial_L (b := b) (by omega) g2 g3 hp hu hv eu ev nu nv K (mn u v).toNat 0 2000 (by omega) (by omega) (by omega)
    unfold f_X11_centsToKey f_X11_done cents
    by_cases e : u ≤ v
    · have e1 : mn u v = u := if_pos e
      rw [e1] at hl
      simp (disch := omega) only [↓q_brd, ↓q_gdd, ↓q_lts, ↓reduceIte, ↓q_bds, ↓zq_smi, ↓zq_smr, iI_add, iI_sub, iI_mul, iI_neg, iI_ab3, iI_div, z_emod, aI_rd, aI_wr, aR0, aW0, aR1, aW1, aR2, aW2, aR3, aW3, aR4, aW4, iI_inT, iI_lt, iI_le, iI_eq, lt_t, lt_f, le_t, le_f, eq_t, eq_f, bz_z, bz_o, bz_zo, bzT, bzF, n_em, zu_s, zu_n, not_true_eq_false, not_false_eq_true, and_self, true_and, and_true, false_and, and_false, true_or, or_true, false_or, or_false, or_self, Int.add_sub_cancel, n_0, n_1, n_2, n_3, n_4, n_5, n_6, n_7, n_8, n_9, n_10, n_11, n_12, n_13, n_14, n_15, n_16, n_17, n_18, n_19, n_20, n_21, n_22, n_23, n_24, n_25, n_26, n_27, n_28, n_29, n_30, n_31, n_32, n_33, n_34, n_35, n_36, n_37, n_40, n_44, n_48, n_50, n_57, n_58, n_60, n_65, n_66, n_67, n_68, n_69, n_70, n_71, n_73, n_77, n_80, n_83, n_97, n_98, n_99, n_100, n_101, n_102, n_103, n_104, n_105, n_106, n_107, n_108, n_109, n_110, n_111, n_112, n_113, n_114, n_115, n_116, n_117, n_118, n_120, n_121, n_122, n_180, n_255, n_539, n_600, n_616, n_1200, n_2000, n_3600, n_8400, n_65536, z_isBell, hl, z_mExact, bz_t eu]
    · have e1 : mn u v = v := if_neg e
      rw [e1] at hl
      simp (disch := omega) only [↓q_brd, ↓q_gdd, ↓q_lts, ↓reduceIte, ↓q_bds, ↓zq_smi, ↓zq_smr, iI_add, iI_sub, iI_mul, iI_neg, iI_ab3, iI_div, z_emod, aI_rd, aI_wr, aR0, aW0, aR1, aW1, aR2, aW2, aR3, aW3, aR4, aW4, iI_inT, iI_lt, iI_le, iI_eq, lt_t, lt_f, le_t, le_f, eq_t, eq_f, bz_z, bz_o, bz_zo, bzT, bzF, n_em, zu_s, zu_n, not_true_eq_false, not_false_eq_true, and_self, true_and, and_true, false_and, and_false, true_or, or_true, false_or, or_false, or_self, Int.add_sub_cancel, n_0, n_1, n_2, n_3, n_4, n_5, n_6, n_7, n_8, n_9, n_10, n_11, n_12, n_13, n_14, n_15, n_16, n_17, n_18, n_19, n_20, n_21, n_22, n_23, n_24, n_25, n_26, n_27, n_28, n_29, n_30, n_31, n_32, n_33, n_34, n_35, n_36, n_37, n_40, n_44, n_48, n_50, n_57, n_58, n_60, n_65, n_66, n_67, n_68, n_69, n_70, n_71, n_73, n_77, n_80, n_83, n_97, n_98, n_99, n_100, n_101, n_102, n_103, n_104, n_105, n_106, n_107, n_108, n_109, n_110, n_111, n_112, n_113, n_114, n_115, n_116, n_117, n_118, n_120, n_121, n_122, n_180, n_255, n_539, n_600, n_616, n_1200, n_2000, n_3600, n_8400, n_65536, z_isBell, hl, z_mExact, bz_f (nu v (by omega) (by omega))]
set_option maxHeartbeats 4000000 in
theorem lc_19 {IL : Line_t → (Nat → Int32) → Int32 → Prop} {x : VB_t} {y : Model_t} {z : Nat → Int64} {w : Nat → UInt64} {xs : Nat → Int32} {n : Nat} {i : Int} (hI : Inv IL x y) (hi : 0 ≤ i ∧ i + 2 < n ∧ n ≤ 10000) : ∃ x2 y2 z2 w2, f_c19 x y z w xs n (iI i) = some (x2, y2, z2, w2) ∧ Inv IL x2 y2 := by
  obtain ⟨⟨G, v1, ⟨H, P, L, E, T, D, S, hV, hB, hM, hC⟩, v3⟩, i2, i3, i4, i5, i6, i7⟩ := hI
  obtain ⟨g0, g1, g2, g3, g4, hb, hm, hc⟩ := id v3
  have ra := iI_rng (xs (iI i + 1).toNatClampNeg)
  have ea := iI_of (xs (iI i + 1).toNatClampNeg)
  generalize (xs (iI i + 1).toNatClampNeg).toInt = a at ra ea
  rw [show (1 : Int32) = iI 1 from rfl, iI_add] at ea
  by_cases c1 : 0 ≤ a ∧ a ≤ G 0 - 1
  · obtain ⟨r, r1, r2, r3, r4⟩ := z_cents v3 c1
    have e1 : P a = G (17 + a) := (hB a c1.1 (by omega)).2
    unfold f_c19 f_case19 f_L_centsToKey f_X10_centsToKey f_X10_requireBell f_X11_thrown
    rw [v1, hV]
    simp (disch := omega) only [↓q_brd, ↓q_gdd, ↓q_lts, ↓reduceIte, ↓q_bds, ↓zq_smi, ↓zq_smr, iI_add, iI_sub, iI_mul, iI_neg, iI_ab3, iI_div, z_emod, aI_rd, aI_wr, aR0, aW0, aR1, aW1, aR2, aW2, aR3, aW3, aR4, aW4, iI_inT, iI_lt, iI_le, iI_eq, lt_t, lt_f, le_t, le_f, eq_t, eq_f, bz_z, bz_o, bz_zo, bzT, bzF, n_em, zu_s, zu_n, not_true_eq_false, not_false_eq_true, and_self, true_and, and_true, false_and, and_false, true_or, or_true, false_or, or_false, or_self, Int.add_sub_cancel, n_0, n_1, n_2, n_3, n_4, n_5, n_6, n_7, n_8, n_9, n_10, n_11, n_12, n_13, n_14, n_15, n_16, n_17, n_18, n_19, n_20, n_21, n_22, n_23, n_24, n_25, n_26, n_27, n_28, n_29, n_30, n_31, n_32, n_33, n_34, n_35, n_36, n_37, n_40, n_44, n_48, n_50, n_57, n_58, n_60, n_65, n_66, n_67, n_68, n_69, n_70, n_71, n_73, n_77, n_80, n_83, n_97, n_98, n_99, n_100, n_101, n_102, n_103, n_104, n_105, n_106, n_107, n_108, n_109, n_110, n_111, n_112, n_113, n_114, n_115, n_116, n_117, n_118, n_120, n_121, n_122, n_180, n_255, n_539, n_600, n_616, n_1200, n_2000, n_3600, n_8400, n_65536, ea, z_has, e1, r2, r3, r4, lg_self, updL0]
    exact ⟨_, _, _, _, rfl, ⟨G, rfl, ⟨H, P, L, E, T, D, S, hV, hB, hM, hC⟩, v3⟩, i2, i3, i4, i5, i6, i7⟩
  · have r4 : ∀ th, f_X11_centsToKey (aI G) th (iI a) = some (iI 0, iI 1) := fun th => by
      unfold f_X11_centsToKey f_X11_fails
      try simp (disch := omega) only [iI_add, iI_sub, iI_mul, iI_neg, n_0, n_1, n_2, n_3, n_4, n_5, n_6, n_7, n_8, n_9, n_10, n_11, n_12, n_13, n_14, n_15, n_16, n_17, n_18, n_19, n_20, n_21, n_22, n_23, n_24, n_25, n_26, n_27, n_28, n_29, n_30, n_31, n_32, n_33, n_34, n_35, n_36, n_37, n_40, n_44, n_48, n_50, n_57, n_58, n_60, n_65, n_66, n_67, n_68, n_69, n_70, n_71, n_73, n_77, n_80, n_83, n_97, n_98, n_99, n_100, n_101, n_102, n_103, n_104, n_105, n_106, n_107, n_108, n_109, n_110, n_111, n_112, n_113, n_114, n_115, n_116, n_117, n_118, n_120, n_121, n_122, n_180, n_255, n_539, n_600, n_616, n_1200, n_2000, n_3600, n_8400, n_65536, z_isBell, c1]
      simp (disch := omega) only [↓q_brd, ↓q_gdd, ↓q_lts, ↓reduceIte, ↓q_bds, ↓zq_smi, ↓zq_smr, iI_add, iI_sub, iI_mul, iI_neg, iI_ab3, iI_div, z_emod, aI_rd, aI_wr, aR0, aW0, aR1, aW1, aR2, aW2, aR3, aW3, aR4, aW4, iI_inT, iI_lt, iI_le, iI_eq, lt_t, lt_f, le_t, le_f, eq_t, eq_f, bz_z, bz_o, bz_zo, bzT, bzF, n_em, zu_s, zu_n, not_true_eq_false, not_false_eq_true, and_self, true_and, and_true, false_and, and_false, true_or, or_true, false_or, or_false, or_self, Int.add_sub_cancel, n_0, n_1, n_2, n_3, n_4, n_5, n_6, n_7, n_8, n_9, n_10, n_11, n_12, n_13, n_14, n_15, n_16, n_17, n_18, n_19, n_20, n_21, n_22, n_23, n_24, n_25, n_26, n_27, n_28, n_29, n_30, n_31, n_32, n_33, n_34, n_35, n_36, n_37, n_40, n_44, n_48, n_50, n_57, n_58, n_60, n_65, n_66, n_67, n_68, n_69, n_70, n_71, n_73, n_77, n_80, n_83, n_97, n_98, n_99, n_100, n_101, n_102, n_103, n_104, n_105, n_106, n_107, n_108, n_109, n_110, n_111, n_112, n_113, n_114, n_115, n_116, n_117, n_118, n_120, n_121, n_122, n_180, n_255, n_539, n_600, n_616, n_1200, n_2000, n_3600, n_8400, n_65536, z_isBell, c1]
    unfold f_c19 f_case19 f_L_centsToKey f_X10_centsToKey f_X10_requireBell f_X11_thrown
    rw [v1, hV]
    simp (disch := omega) only [↓q_brd, ↓q_gdd, ↓q_lts, ↓reduceIte, ↓q_bds, ↓zq_smi, ↓zq_smr, iI_add, iI_sub, iI_mul, iI_neg, iI_ab3, iI_div, z_emod, aI_rd, aI_wr, aR0, aW0, aR1, aW1, aR2, aW2, aR3, aW3, aR4, aW4, iI_inT, iI_lt, iI_le, iI_eq, lt_t, lt_f, le_t, le_f, eq_t, eq_f, bz_z, bz_o, bz_zo, bzT, bzF, n_em, zu_s, zu_n, not_true_eq_false, not_false_eq_true, and_self, true_and, and_true, false_and, and_false, true_or, or_true, false_or, or_false, or_self, Int.add_sub_cancel, n_0, n_1, n_2, n_3, n_4, n_5, n_6, n_7, n_8, n_9, n_10, n_11, n_12, n_13, n_14, n_15, n_16, n_17, n_18, n_19, n_20, n_21, n_22, n_23, n_24, n_25, n_26, n_27, n_28, n_29, n_30, n_31, n_32, n_33, n_34, n_35, n_36, n_37, n_40, n_44, n_48, n_50, n_57, n_58, n_60, n_65, n_66, n_67, n_68, n_69, n_70, n_71, n_73, n_77, n_80, n_83, n_97, n_98, n_99, n_100, n_101, n_102, n_103, n_104, n_105, n_106, n_107, n_108, n_109, n_110, n_111, n_112, n_113, n_114, n_115, n_116, n_117, n_118, n_120, n_121, n_122, n_180, n_255, n_539, n_600, n_616, n_1200, n_2000, n_3600, n_8400, n_65536, ea, z_has, c1, r4, lg_self, updL0, xq1_xq1, xq1_xq2, xq1_xq3, xq2_xq1, xq2_xq2, xq2_xq3, xq3_xq1, xq3_xq2, xq3_xq3]
    exact ⟨_, _, _, _, rfl, ⟨G, rfl, ⟨H, P, L, E, T, D, S, hV, hB, hM, hC⟩, v3⟩, i2, i3, i4, i5, i6, i7⟩
set_option maxHeartbeats 4000000 in
theorem lc_20 {IL : Line_t → (Nat → Int32) → Int32 → Prop} {x : VB_t} {y : Model_t} {z : Nat → Int64} {w : Nat → UInt64} {xs : Nat → Int32} {n : Nat} {i : Int} (hI : Inv IL x y) (hi : 0 ≤ i ∧ i + 2 < n ∧ n ≤ 10000) : ∃ x2 y2 z2 w2, f_c20 x y z w xs n (iI i) = some (x2, y2, z2, w2) ∧ Inv IL x2 y2 := by
  obtain ⟨⟨G, v1, ⟨H, P, L, E, T, D, S, hV, hB, hM, hC⟩, v3⟩, i2, i3, i4, i5, i6, i7⟩ := hI
  obtain ⟨g0, g1, g2, g3, g4, hb, hm, hc⟩ := id v3
  have ra := iI_rng (xs (iI i + 1).toNatClampNeg)
  have ea := iI_of (xs (iI i + 1).toNatClampNeg)
  generalize (xs (iI i + 1).toNatClampNeg).toInt = a at ra ea
  rw [show (1 : Int32) = iI 1 from rfl, iI_add] at ea
  by_cases c1 : 0 ≤ a ∧ a ≤ G 0 - 1
  · obtain ⟨r, r1, r2, r3, r4⟩ := z_cents v3 c1
    have e1 : P a = G (17 + a) := (hB a c1.1 (by omega)).2
    unfold f_c20 f_case20 f_L_centsToKeyByNotes f_X10_centsToKeyByNotes f_X10_requireBell f_X11_centsToKeyByNotes f_X11_thrown
    rw [v1, hV]
    simp (disch := omega) only [↓q_brd, ↓q_gdd, ↓q_lts, ↓reduceIte, ↓q_bds, ↓zq_smi, ↓zq_smr, iI_add, iI_sub, iI_mul, iI_neg, iI_ab3, iI_div, z_emod, aI_rd, aI_wr, aR0, aW0, aR1, aW1, aR2, aW2, aR3, aW3, aR4, aW4, iI_inT, iI_lt, iI_le, iI_eq, lt_t, lt_f, le_t, le_f, eq_t, eq_f, bz_z, bz_o, bz_zo, bzT, bzF, n_em, zu_s, zu_n, not_true_eq_false, not_false_eq_true, and_self, true_and, and_true, false_and, and_false, true_or, or_true, false_or, or_false, or_self, Int.add_sub_cancel, n_0, n_1, n_2, n_3, n_4, n_5, n_6, n_7, n_8, n_9, n_10, n_11, n_12, n_13, n_14, n_15, n_16, n_17, n_18, n_19, n_20, n_21, n_22, n_23, n_24, n_25, n_26, n_27, n_28, n_29, n_30, n_31, n_32, n_33, n_34, n_35, n_36, n_37, n_40, n_44, n_48, n_50, n_57, n_58, n_60, n_65, n_66, n_67, n_68, n_69, n_70, n_71, n_73, n_77, n_80, n_83, n_97, n_98, n_99, n_100, n_101, n_102, n_103, n_104, n_105, n_106, n_107, n_108, n_109, n_110, n_111, n_112, n_113, n_114, n_115, n_116, n_117, n_118, n_120, n_121, n_122, n_180, n_255, n_539, n_600, n_616, n_1200, n_2000, n_3600, n_8400, n_65536, ea, z_has, e1, r2, r3, r4, lg_self, updL0]
    exact ⟨_, _, _, _, rfl, ⟨G, rfl, ⟨H, P, L, E, T, D, S, hV, hB, hM, hC⟩, v3⟩, i2, i3, i4, i5, i6, i7⟩
  · have r4 : ∀ th, f_X11_centsToKey (aI G) th (iI a) = some (iI 0, iI 1) := fun th => by
      unfold f_X11_centsToKey f_X11_fails
      try simp (disch := omega) only [iI_add, iI_sub, iI_mul, iI_neg, n_0, n_1, n_2, n_3, n_4, n_5, n_6, n_7, n_8, n_9, n_10, n_11, n_12, n_13, n_14, n_15, n_16, n_17, n_18, n_19, n_20, n_21, n_22, n_23, n_24, n_25, n_26, n_27, n_28, n_29, n_30, n_31, n_32, n_33, n_34, n_35, n_36, n_37, n_40, n_44, n_48, n_50, n_57, n_58, n_60, n_65, n_66, n_67, n_68, n_69, n_70, n_71, n_73, n_77, n_80, n_83, n_97, n_98, n_99, n_100, n_101, n_102, n_103, n_104, n_105, n_106, n_107, n_108, n_109, n_110, n_111, n_112, n_113, n_114, n_115, n_116, n_117, n_118, n_120, n_121, n_122, n_180, n_255, n_539, n_600, n_616, n_1200, n_2000, n_3600, n_8400, n_65536, z_isBell, c1]
      simp (disch := omega) only [↓q_brd, ↓q_gdd, ↓q_lts, ↓reduceIte, ↓q_bds, ↓zq_smi, ↓zq_smr, iI_add, iI_sub, iI_mul, iI_neg, iI_ab3, iI_div, z_emod, aI_rd, aI_wr, aR0, aW0, aR1, aW1, aR2, aW2, aR3, aW3, aR4, aW4, iI_inT, iI_lt, iI_le, iI_eq, lt_t, lt_f, le_t, le_f, eq_t, eq_f, bz_z, bz_o, bz_zo, bzT, bzF, n_em, zu_s, zu_n, not_true_eq_false, not_false_eq_true, and_self, true_and, and_true, false_and, and_false, true_or, or_true, false_or, or_false, or_self, Int.add_sub_cancel, n_0, n_1, n_2, n_3, n_4, n_5, n_6, n_7, n_8, n_9, n_10, n_11, n_12, n_13, n_14, n_15, n_16, n_17, n_18, n_19, n_20, n_21, n_22, n_23, n_24, n_25, n_26, n_27, n_28, n_29, n_30, n_31, n_32, n_33, n_34, n_35, n_36, n_37, n_40, n_44, n_48, n_50, n_57, n_58, n_60, n_65, n_66, n_67, n_68, n_69, n_70, n_71, n_73, n_77, n_80, n_83, n_97, n_98, n_99, n_100, n_101, n_102, n_103, n_104, n_105, n_106, n_107, n_108, n_109, n_110, n_111, n_112, n_113, n_114, n_115, n_116, n_117, n_118, n_120, n_121, n_122, n_180, n_255, n_539, n_600, n_616, n_1200, n_2000, n_3600, n_8400, n_65536, z_isBell, c1]
    unfold f_c20 f_case20 f_L_centsToKeyByNotes f_X10_centsToKeyByNotes f_X10_requireBell f_X11_centsToKeyByNotes f_X11_thrown
    rw [v1, hV]
    simp (disch := omega) only [↓q_brd, ↓q_gdd, ↓q_lts, ↓reduceIte, ↓q_bds, ↓zq_smi, ↓zq_smr, iI_add, iI_sub, iI_mul, iI_neg, iI_ab3, iI_div, z_emod, aI_rd, aI_wr, aR0, aW0, aR1, aW1, aR2, aW2, aR3, aW3, aR4, aW4, iI_inT, iI_lt, iI_le, iI_eq, lt_t, lt_f, le_t, le_f, eq_t, eq_f, bz_z, bz_o, bz_zo, bzT, bzF, n_em, zu_s, zu_n, not_true_eq_false, not_false_eq_true, and_self, true_and, and_true, false_and, and_false, true_or, or_true, false_or, or_false, or_self, Int.add_sub_cancel, n_0, n_1, n_2, n_3, n_4, n_5, n_6, n_7, n_8, n_9, n_10, n_11, n_12, n_13, n_14, n_15, n_16, n_17, n_18, n_19, n_20, n_21, n_22, n_23, n_24, n_25, n_26, n_27, n_28, n_29, n_30, n_31, n_32, n_33, n_34, n_35, n_36, n_37, n_40, n_44, n_48, n_50, n_57, n_58, n_60, n_65, n_66, n_67, n_68, n_69, n_70, n_71, n_73, n_77, n_80, n_83, n_97, n_98, n_99, n_100, n_101, n_102, n_103, n_104, n_105, n_106, n_107, n_108, n_109, n_110, n_111, n_112, n_113, n_114, n_115, n_116, n_117, n_118, n_120, n_121, n_122, n_180, n_255, n_539, n_600, n_616, n_1200, n_2000, n_3600, n_8400, n_65536, ea, z_has, c1, r4, lg_self, updL0, xq1_xq1, xq1_xq2, xq1_xq3, xq2_xq1, xq2_xq2, xq2_xq3, xq3_xq1, xq3_xq2, xq3_xq3]
    exact ⟨_, _, _, _, rfl, ⟨G, rfl, ⟨H, P, L, E, T, D, S, hV, hB, hM, hC⟩, v3⟩, i2, i3, i4, i5, i6, i7⟩
