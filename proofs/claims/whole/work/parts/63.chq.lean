theorem VW_of {G H P L E T D S : Int → Int} (hB : ∀ k, 0 ≤ k → k < G 0 → H k = G (5 + k) ∧ P k = G (17 + k)) (hM : ∀ h, 0 ≤ h → h ≤ 3 → L h = G (33 + h) ∧ E h = G (29 + h) ∧ ∀ k, 0 ≤ k → k < G (33 + h) → T (h * 8 + k) = G (37 + 8 * h + k)) (hC : ∀ k, 0 ≤ k → k < G 1 → D k = G (69 + k) ∧ S k = G (73 + k)) (hG : VOk G) : VW G P L E T D S := by
  obtain ⟨g0, g1, g2, g3, g4, hb, hm, hc⟩ := hG
  refine ⟨g0, g1, fun k k0 k1 => ⟨(hB k k0 k1).2, (hb k k0 k1).2⟩, fun h h0 h1 => ?_, fun k k0 k1 => ⟨(hC k k0 k1).1, (hC k k0 k1).2, hc k k0 k1⟩⟩
  obtain ⟨x1, x2, x3⟩ := hM h h0 h1
  obtain ⟨y1, y2, y3⟩ := hm h h0 h1
  exact ⟨x1, x2, y1, y2, fun k k0 k1 => ⟨x3 k k0 k1, y3 k k0 k1⟩⟩
def cD (G : Int → Int) (b : Int) : Int := tm (pf di (cC G b)) (cN G b).toNat
def cT (G : Int → Int) (b : Int) : Int := tm (pf th (cC G b)) (cN G b).toNat
theorem pf_SR {P : Int → Bool} {A C : Int → Int} {N : Nat} (h : SR A C N) : tm (pf P A) N = tm (pf P C) N := tm_cong N (fun b a b0 b1 b2 => by
  unfold pf
  rw [(h.2.1 a (by omega) b2).1, (h.2.1 b b0 (by omega)).1])
theorem pf_rng {P : Int → Bool} {A : Int → Int} {N : Nat} (h : N ≤ 20) : 0 ≤ tm (pf P A) N ∧ tm (pf P A) N ≤ 400 := by
  have := sz_rng (f := fun a => sz (fun b => pf P A b a) 0 a.toNat) (b := 20) N 0 (fun k k0 k1 => by
    have := sz_rng (f := fun b => pf P A b k) (b := 1) k.toNat 0 (fun j _ _ => bz_rng)
    omega)
  show 0 ≤ sz _ 0 N ∧ sz _ 0 N ≤ 400
  omega
theorem z_beat {G P L E T D S : Int → Int} (hW : VW G P L E T D S) {b : Int} (hb : -2147483648 ≤ b ∧ b < 2147483648) :
    (0 ≤ cN G b ∧ cN G b ≤ 20) ∧ (0 ≤ cD G b ∧ cD G b ≤ 400) ∧ (b < 0 ∨ 30 < b → cN G b = 0 ∧ cD G b = 0) ∧
    (∀ A n1, ∃ A', f_X2_listen (aI A) n1 (aI P) (iI (G 0)) (aI L) (aI E) (aI T) (aI D) (aI S) (iI (G 1)) (iI b) = some (aI A', iI (cN G b)) ∧ (∀ k, 0 ≤ k → k < cN G b → A' k = cC G b k) ∧ f_X2_dissonantPairs (aI A') (iI (cN G b)) = some (iI (cD G b)) ∧ (∀ F0, ∃ F', f_X2_dissonantPairsByClasses (aI A') F0 (iI (cN G b)) = some (iI (cD G b), F')) ∧ f_X2_pairsOf (aI A') (iI (cN G b)) tb_thirds = some (iI (cT G b))) ∧
    (∀ B n2, ∃ B', f_X11_listens (aI G) (aI B) n2 (iI b) = some (aI B', iI (cN G b)) ∧ (∀ k, 0 ≤ k → k < cN G b → B' k = cC G b k) ∧ f_X11_pairs (aI G) (aI B) n2 (iI b) (iI 0) = some (iI (cD G b), aI B', iI (cN G b)) ∧ f_X11_pairs (aI G) (aI B) n2 (iI b) (iI 1) = some (iI (cT G b), aI B', iI (cN G b)) ∧ f_X11_isHeard (aI G) (aI B) n2 (iI b) = some (iI (bz (0 < cN G b)), aI B', iI (cN G b))) := by
  obtain ⟨s1, s2, s3, s4⟩ := z_heard hW hb
  have h0 := s1.1
  obtain ⟨N, hN⟩ : ∃ N : Nat, cN G b = N := ⟨(cN G b).toNat, by omega⟩
  have hD : cD G b = tm (pf di (cC G b)) N := by unfold cD; rw [hN]; rfl
  have hT : cT G b = tm (pf th (cC G b)) N := by unfold cT; rw [hN]; rfl
  rw [hN] at s1 s2 s3 s4 h0 ⊢
  rw [hD, hT]
  refine ⟨by omega, pf_rng (by omega), fun hz => ?_, fun A n1 => ?_, fun B n2 => ?_⟩
  · have := s2 hz
    have e : N = 0 := by omega
    subst e
    exact ⟨rfl, rfl⟩
  · obtain ⟨A', y1, y2⟩ := s3 A n1
    refine ⟨A', y1, fun k k0 k1 => (y2.2.1 k k0 k1).1, ?_, fun F0 => ?_, ?_⟩
    · rw [z_dissonant y2, pf_SR y2]
    · obtain ⟨F', w⟩ := z_byClasses y2 F0
      exact ⟨F', by rw [w, pf_SR y2]⟩
    · rw [z_pairsOf (P := th) (fun x hx => z_bThi hx) y2, pf_SR y2]
  · obtain ⟨B', y1, y2⟩ := s4 B n2
    have p0 := z_pairs (Or.inl rfl) y2
    have p1 := z_pairs (Or.inr rfl) y2
    rw [pf_SR y2] at p0 p1
    refine ⟨B', y1, fun k k0 k1 => (y2.2.1 k k0 k1).1, ?_, ?_, ?_⟩
    · unfold f_X11_pairs
      rw [y1]
      exact p0
    · unfold f_X11_pairs
      rw [y1]
      exact p1
    · unfold f_X11_isHeard
      rw [y1]
      by_cases c : 0 < (N : Int)
      · rw [bz_t c]
        simp (disch := omega) only [↓q_brd, ↓q_gdd, ↓q_lts, ↓reduceIte, ↓q_bds, ↓zq_smi, ↓zq_smr, iI_add, iI_sub, iI_mul, iI_neg, iI_ab3, iI_div, z_emod, aI_rd, aI_wr, aR0, aW0, aR1, aW1, aR2, aW2, aR3, aW3, aR4, aW4, iI_inT, iI_lt, iI_le, iI_eq, lt_t, lt_f, le_t, le_f, eq_t, eq_f, bz_z, bz_o, bz_zo, bzT, bzF, n_em, zu_s, zu_n, not_true_eq_false, not_false_eq_true, and_self, true_and, and_true, false_and, and_false, true_or, or_true, false_or, or_false, or_self, Int.add_sub_cancel, n_0, n_1, n_2, n_3, n_4, n_5, n_6, n_7, n_8, n_9, n_10, n_11, n_12, n_13, n_14, n_15, n_16, n_17, n_18, n_19, n_20, n_21, n_22, n_23, n_24, n_25, n_26, n_27, n_28, n_29, n_30, n_31, n_32, n_33, n_34, n_35, n_36, n_37, n_40, n_44, n_48, n_50, n_57, n_58, n_60, n_65, n_66, n_67, n_68, n_69, n_70, n_71, n_73, n_77, n_80, n_83, n_97, n_98, n_99, n_100, n_101, n_102, n_103, n_104, n_105, n_106, n_107, n_108, n_109, n_110, n_111, n_112, n_113, n_114, n_115, n_116, n_117, n_118, n_120, n_121, n_122, n_180, n_255, n_539, n_600, n_616, n_1200, n_2000, n_3600, n_8400, n_65536]
      · rw [bz_f c]
        simp (disch := omega) only [↓q_brd, ↓q_gdd, ↓q_lts, ↓reduceIte, ↓q_bds, ↓zq_smi, ↓zq_smr, iI_add, iI_sub, iI_mul, iI_neg, iI_ab3, iI_div, z_emod, aI_rd, aI_wr, aR0, aW0, aR1, aW1, aR2, aW2, aR3, aW3, aR4, aW4, iI_inT, iI_lt, iI_le, iI_eq, lt_t, lt_f, le_t, le_f, eq_t, eq_f, bz_z, bz_o, bz_zo, bzT, bzF, n_em, zu_s, zu_n, not_true_eq_false, not_false_eq_true, and_self, true_and, and_true, false_and, and_false, true_or, or_true, false_or, or_false, or_self, Int.add_sub_cancel, n_0, n_1, n_2, n_3, n_4, n_5, n_6, n_7, n_8, n_9, n_10, n_11, n_12, n_13, n_14, n_15, n_16, n_17, n_18, n_19, n_20, n_21, n_22, n_23, n_24, n_25, n_26, n_27, n_28, n_29, n_30, n_31, n_32, n_33, n_34, n_35, n_36, n_37, n_40, n_44, n_48, n_50, n_57, n_58, n_60, n_65, n_66, n_67, n_68, n_69, n_70, n_71, n_73, n_77, n_80, n_83, n_97, n_98, n_99, n_100, n_101, n_102, n_103, n_104, n_105, n_106, n_107, n_108, n_109, n_110, n_111, n_112, n_113, n_114, n_115, n_116, n_117, n_118, n_120, n_121, n_122, n_180, n_255, n_539, n_600, n_616, n_1200, n_2000, n_3600, n_8400, n_65536]
set_option maxHeartbeats 4000000 in
theorem lc_36 {IL : Line_t → (Nat → Int32) → Int32 → Prop} {x : VB_t} {y : Model_t} {z : Nat → Int64} {w : Nat → UInt64} {xs : Nat → Int32} {n : Nat} {i : Int} (hI : Inv IL x y) (hi : 0 ≤ i ∧ i + 2 < n ∧ n ≤ 10000) : ∃ x2 y2 z2 w2, f_c36 x y z w xs n (iI i) = some (x2, y2, z2, w2) ∧ Inv IL x2 y2 := by
  obtain ⟨⟨G, v1, ⟨H, P, L, E, T, D, S, hV, hB, hM, hC⟩, v3⟩, i2, i3, i4, i5, i6, i7⟩ := hI
  obtain ⟨g0, g1, g2, g3, g4, hb, hm, hc⟩ := id v3
  have ra := iI_rng (xs (iI i + 1).toNatClampNeg)
  have ea := iI_of (xs (iI i + 1).toNatClampNeg)
  generalize (xs (iI i + 1).toNatClampNeg).toInt = a at ra ea
  rw [show (1 : Int32) = iI 1 from rfl, iI_add] at ea
  have hW := VW_of hB hM hC v3
  obtain ⟨A, hA⟩ : ∃ A, x.1.2.2.2.2.1 = aI A := ⟨_, aI_of _⟩
  obtain ⟨B, hBm⟩ : ∃ B, y.2.2.1.2.2.1 = aI B := ⟨_, aI_of _⟩
  obtain ⟨r1, r2, r3, r4, r5⟩ := z_beat hW ra
  obtain ⟨A', p1, p2, p3, p4, p5⟩ := r4 A x.1.2.2.2.2.2.2
  obtain ⟨B', q1, q2, q3, q4, q5⟩ := r5 B y.2.2.1.2.2.2
  unfold f_c36 f_case36 f_X10_chordSize f_X11_chordSize 
  rw [v1, hV, hA, hBm]
  simp (disch := omega) only [↓q_brd, ↓q_gdd, ↓q_lts, ↓reduceIte, ↓q_bds, ↓zq_smi, ↓zq_smr, iI_add, iI_sub, iI_mul, iI_neg, iI_ab3, iI_div, z_emod, aI_rd, aI_wr, aR0, aW0, aR1, aW1, aR2, aW2, aR3, aW3, aR4, aW4, iI_inT, iI_lt, iI_le, iI_eq, lt_t, lt_f, le_t, le_f, eq_t, eq_f, bz_z, bz_o, bz_zo, bzT, bzF, n_em, zu_s, zu_n, not_true_eq_false, not_false_eq_true, and_self, true_and, and_true, false_and, and_false, true_or, or_true, false_or, or_false, or_self, Int.add_sub_cancel, n_0, n_1, n_2, n_3, n_4, n_5, n_6, n_7, n_8, n_9, n_10, n_11, n_12, n_13, n_14, n_15, n_16, n_17, n_18, n_19, n_20, n_21, n_22, n_23, n_24, n_25, n_26, n_27, n_28, n_29, n_30, n_31, n_32, n_33, n_34, n_35, n_36, n_37, n_40, n_44, n_48, n_50, n_57, n_58, n_60, n_65, n_66, n_67, n_68, n_69, n_70, n_71, n_73, n_77, n_80, n_83, n_97, n_98, n_99, n_100, n_101, n_102, n_103, n_104, n_105, n_106, n_107, n_108, n_109, n_110, n_111, n_112, n_113, n_114, n_115, n_116, n_117, n_118, n_120, n_121, n_122, n_180, n_255, n_539, n_600, n_616, n_1200, n_2000, n_3600, n_8400, n_65536, ea, f_X11_done, p1, q1]
  exact ⟨_, _, _, _, rfl, ⟨G, rfl, ⟨H, P, L, E, T, D, S, (by first | rfl | exact hV), hB, hM, hC⟩, v3⟩, i2, i3, i4, i5, i6, i7⟩
set_option maxHeartbeats 4000000 in
theorem lc_38 {IL : Line_t → (Nat → Int32) → Int32 → Prop} {x : VB_t} {y : Model_t} {z : Nat → Int64} {w : Nat → UInt64} {xs : Nat → Int32} {n : Nat} {i : Int} (hI : Inv IL x y) (hi : 0 ≤ i ∧ i + 2 < n ∧ n ≤ 10000) : ∃ x2 y2 z2 w2, f_c38 x y z w xs n (iI i) = some (x2, y2, z2, w2) ∧ Inv IL x2 y2 := by
  obtain ⟨⟨G, v1, ⟨H, P, L, E, T, D, S, hV, hB, hM, hC⟩, v3⟩, i2, i3, i4, i5, i6, i7⟩ := hI
  obtain ⟨g0, g1, g2, g3, g4, hb, hm, hc⟩ := id v3
  have ra := iI_rng (xs (iI i + 1).toNatClampNeg)
  have ea := iI_of (xs (iI i + 1).toNatClampNeg)
  generalize (xs (iI i + 1).toNatClampNeg).toInt = a at ra ea
  rw [show (1 : Int32) = iI 1 from rfl, iI_add] at ea
  have hW := VW_of hB hM hC v3
  obtain ⟨A, hA⟩ : ∃ A, x.1.2.2.2.2.1 = aI A := ⟨_, aI_of _⟩
  obtain ⟨B, hBm⟩ : ∃ B, y.2.2.1.2.2.1 = aI B := ⟨_, aI_of _⟩
  obtain ⟨r1, r2, r3, r4, r5⟩ := z_beat hW ra
  obtain ⟨A', p1, p2, p3, p4, p5⟩ := r4 A x.1.2.2.2.2.2.2
  obtain ⟨B', q1, q2, q3, q4, q5⟩ := r5 B y.2.2.1.2.2.2
  unfold f_c38 f_case38 f_X10_dissonances f_X11_dissonances 
  rw [v1, hV, hA, hBm]
  simp (disch := omega) only [↓q_brd, ↓q_gdd, ↓q_lts, ↓reduceIte, ↓q_bds, ↓zq_smi, ↓zq_smr, iI_add, iI_sub, iI_mul, iI_neg, iI_ab3, iI_div, z_emod, aI_rd, aI_wr, aR0, aW0, aR1, aW1, aR2, aW2, aR3, aW3, aR4, aW4, iI_inT, iI_lt, iI_le, iI_eq, lt_t, lt_f, le_t, le_f, eq_t, eq_f, bz_z, bz_o, bz_zo, bzT, bzF, n_em, zu_s, zu_n, not_true_eq_false, not_false_eq_true, and_self, true_and, and_true, false_and, and_false, true_or, or_true, false_or, or_false, or_self, Int.add_sub_cancel, n_0, n_1, n_2, n_3, n_4, n_5, n_6, n_7, n_8, n_9, n_10, n_11, n_12, n_13, n_14, n_15, n_16, n_17, n_18, n_19, n_20, n_21, n_22, n_23, n_24, n_25, n_26, n_27, n_28, n_29, n_30, n_31, n_32, n_33, n_34, n_35, n_36, n_37, n_40, n_44, n_48, n_50, n_57, n_58, n_60, n_65, n_66, n_67, n_68, n_69, n_70, n_71, n_73, n_77, n_80, n_83, n_97, n_98, n_99, n_100, n_101, n_102, n_103, n_104, n_105, n_106, n_107, n_108, n_109, n_110, n_111, n_112, n_113, n_114, n_115, n_116, n_117, n_118, n_120, n_121, n_122, n_180, n_255, n_539, n_600, n_616, n_1200, n_2000, n_3600, n_8400, n_65536, ea, f_X11_done, p1, p3, q3]
  exact ⟨_, _, _, _, rfl, ⟨G, rfl, ⟨H, P, L, E, T, D, S, (by first | rfl | exact hV), hB, hM, hC⟩, v3⟩, i2, i3, i4, i5, i6, i7⟩
set_option maxHeartbeats 4000000 in
theorem lc_39 {IL : Line_t → (Nat → Int32) → Int32 → Prop} {x : VB_t} {y : Model_t} {z : Nat → Int64} {w : Nat → UInt64} {xs : Nat → Int32} {n : Nat} {i : Int} (hI : Inv IL x y) (hi : 0 ≤ i ∧ i + 2 < n ∧ n ≤ 10000) : ∃ x2 y2 z2 w2, f_c39 x y z w xs n (iI i) = some (x2, y2, z2, w2) ∧ Inv IL x2 y2 := by
  obtain ⟨⟨G, v1, ⟨H, P, L, E, T, D, S, hV, hB, hM, hC⟩, v3⟩, i2, i3, i4, i5, i6, i7⟩ := hI
  obtain ⟨g0, g1, g2, g3, g4, hb, hm, hc⟩ := id v3
  have ra := iI_rng (xs (iI i + 1).toNatClampNeg)
  have ea := iI_of (xs (iI i + 1).toNatClampNeg)
  generalize (xs (iI i + 1).toNatClampNeg).toInt = a at ra ea
  rw [show (1 : Int32) = iI 1 from rfl, iI_add] at ea
  have hW := VW_of hB hM hC v3
  obtain ⟨A, hA⟩ : ∃ A, x.1.2.2.2.2.1 = aI A := ⟨_, aI_of _⟩
  obtain ⟨B, hBm⟩ : ∃ B, y.2.2.1.2.2.1 = aI B := ⟨_, aI_of _⟩
  obtain ⟨r1, r2, r3, r4, r5⟩ := z_beat hW ra
  obtain ⟨A', p1, p2, p3, p4, p5⟩ := r4 A x.1.2.2.2.2.2.2
  obtain ⟨B', q1, q2, q3, q4, q5⟩ := r5 B y.2.2.1.2.2.2
  obtain ⟨F1, p4⟩ := p4 x.1.2.2.2.2.2.1
  unfold f_c39 f_case39 f_X10_dissonancesByClasses f_X11_dissonancesByClasses f_X11_dissonances
  rw [v1, hV, hA, hBm]
  simp (disch := omega) only [↓q_brd, ↓q_gdd, ↓q_lts, ↓reduceIte, ↓q_bds, ↓zq_smi, ↓zq_smr, iI_add, iI_sub, iI_mul, iI_neg, iI_ab3, iI_div, z_emod, aI_rd, aI_wr, aR0, aW0, aR1, aW1, aR2, aW2, aR3, aW3, aR4, aW4, iI_inT, iI_lt, iI_le, iI_eq, lt_t, lt_f, le_t, le_f, eq_t, eq_f, bz_z, bz_o, bz_zo, bzT, bzF, n_em, zu_s, zu_n, not_true_eq_false, not_false_eq_true, and_self, true_and, and_true, false_and, and_false, true_or, or_true, false_or, or_false, or_self, Int.add_sub_cancel, n_0, n_1, n_2, n_3, n_4, n_5, n_6, n_7, n_8, n_9, n_10, n_11, n_12, n_13, n_14, n_15, n_16, n_17, n_18, n_19, n_20, n_21, n_22, n_23, n_24, n_25, n_26, n_27, n_28, n_29, n_30, n_31, n_32, n_33, n_34, n_35, n_36, n_37, n_40, n_44, n_48, n_50, n_57, n_58, n_60, n_65, n_66, n_67, n_68, n_69, n_70, n_71, n_73, n_77, n_80, n_83, n_97, n_98, n_99, n_100, n_101, n_102, n_103, n_104, n_105, n_106, n_107, n_108, n_109, n_110, n_111, n_112, n_113, n_114, n_115, n_116, n_117, n_118, n_120, n_121, n_122, n_180, n_255, n_539, n_600, n_616, n_1200, n_2000, n_3600, n_8400, n_65536, ea, f_X11_done, p1, p4, q3]
  exact ⟨_, _, _, _, rfl, ⟨G, rfl, ⟨H, P, L, E, T, D, S, (by first | rfl | exact hV), hB, hM, hC⟩, v3⟩, i2, i3, i4, i5, i6, i7⟩
set_option maxHeartbeats 4000000 in
theorem lc_40 {IL : Line_t → (Nat → Int32) → Int32 → Prop} {x : VB_t} {y : Model_t} {z : Nat → Int64} {w : Nat → UInt64} {xs : Nat → Int32} {n : Nat} {i : Int} (hI : Inv IL x y) (hi : 0 ≤ i ∧ i + 2 < n ∧ n ≤ 10000) : ∃ x2 y2 z2 w2, f_c40 x y z w xs n (iI i) = some (x2, y2, z2, w2) ∧ Inv IL x2 y2 := by
  obtain ⟨⟨G, v1, ⟨H, P, L, E, T, D, S, hV, hB, hM, hC⟩, v3⟩, i2, i3, i4, i5, i6, i7⟩ := hI
  obtain ⟨g0, g1, g2, g3, g4, hb, hm, hc⟩ := id v3
  have ra := iI_rng (xs (iI i + 1).toNatClampNeg)
  have ea := iI_of (xs (iI i + 1).toNatClampNeg)
  generalize (xs (iI i + 1).toNatClampNeg).toInt = a at ra ea
  rw [show (1 : Int32) = iI 1 from rfl, iI_add] at ea
  have hW := VW_of hB hM hC v3
  obtain ⟨A, hA⟩ : ∃ A, x.1.2.2.2.2.1 = aI A := ⟨_, aI_of _⟩
  obtain ⟨B, hBm⟩ : ∃ B, y.2.2.1.2.2.1 = aI B := ⟨_, aI_of _⟩
  obtain ⟨r1, r2, r3, r4, r5⟩ := z_beat hW ra
  obtain ⟨A', p1, p2, p3, p4, p5⟩ := r4 A x.1.2.2.2.2.2.2
  obtain ⟨B', q1, q2, q3, q4, q5⟩ := r5 B y.2.2.1.2.2.2
  unfold f_c40 f_case40 f_X10_thirds f_X11_thirds 
  rw [v1, hV, hA, hBm]
  simp (disch := omega) only [↓q_brd, ↓q_gdd, ↓q_lts, ↓reduceIte, ↓q_bds, ↓zq_smi, ↓zq_smr, iI_add, iI_sub, iI_mul, iI_neg, iI_ab3, iI_div, z_emod, aI_rd, aI_wr, aR0, aW0, aR1, aW1, aR2, aW2, aR3, aW3, aR4, aW4, iI_inT, iI_lt, iI_le, iI_eq, lt_t, lt_f, le_t, le_f, eq_t, eq_f, bz_z, bz_o, bz_zo, bzT, bzF, n_em, zu_s, zu_n, not_true_eq_false, not_false_eq_true, and_self, true_and, and_true, false_and, and_false, true_or, or_true, false_or, or_false, or_self, Int.add_sub_cancel, n_0, n_1, n_2, n_3, n_4, n_5, n_6, n_7, n_8, n_9, n_10, n_11, n_12, n_13, n_14, n_15, n_16, n_17, n_18, n_19, n_20, n_21, n_22, n_23, n_24, n_25, n_26, n_27, n_28, n_29, n_30, n_31, n_32, n_33, n_34, n_35, n_36, n_37, n_40, n_44, n_48, n_50, n_57, n_58, n_60, n_65, n_66, n_67, n_68, n_69, n_70, n_71, n_73, n_77, n_80, n_83, n_97, n_98, n_99, n_100, n_101, n_102, n_103, n_104, n_105, n_106, n_107, n_108, n_109, n_110, n_111, n_112, n_113, n_114, n_115, n_116, n_117, n_118, n_120, n_121, n_122, n_180, n_255, n_539, n_600, n_616, n_1200, n_2000, n_3600, n_8400, n_65536, ea, f_X11_done, p1, p5, q4]
  exact ⟨_, _, _, _, rfl, ⟨G, rfl, ⟨H, P, L, E, T, D, S, (by first | rfl | exact hV), hB, hM, hC⟩, v3⟩, i2, i3, i4, i5, i6, i7⟩
set_option maxHeartbeats 4000000 in
theorem lc_37 {IL : Line_t → (Nat → Int32) → Int32 → Prop} {x : VB_t} {y : Model_t} {z : Nat → Int64} {w : Nat → UInt64} {xs : Nat → Int32} {n : Nat} {i : Int} (hI : Inv IL x y) (hi : 0 ≤ i ∧ i + 2 < n ∧ n ≤ 10000) : ∃ x2 y2 z2 w2, f_c37 x y z w xs n (iI i) = some (x2, y2, z2, w2) ∧ Inv IL x2 y2 := by
  obtain ⟨⟨G, v1, ⟨H, P, L, E, T, D, S, hV, hB, hM, hC⟩, v3⟩, i2, i3, i4, i5, i6, i7⟩ := hI
  obtain ⟨g0, g1, g2, g3, g4, hb, hm, hc⟩ := id v3
  have ra := iI_rng (xs (iI i + 1).toNatClampNeg)
  have ea := iI_of (xs (iI i + 1).toNatClampNeg)
  generalize (xs (iI i + 1).toNatClampNeg).toInt = a at ra ea
  rw [show (1 : Int32) = iI 1 from rfl, iI_add] at ea
  have rb := iI_rng (xs (iI i + 2).toNatClampNeg)
  have eb := iI_of (xs (iI i + 2).toNatClampNeg)
  generalize (xs (iI i + 2).toNatClampNeg).toInt = b at rb eb
  rw [show (2 : Int32) = iI 2 from rfl, iI_add] at eb
  have hW := VW_of hB hM hC v3
  obtain ⟨A, hA⟩ : ∃ A, x.1.2.2.2.2.1 = aI A := ⟨_, aI_of _⟩
  obtain ⟨B, hBm⟩ : ∃ B, y.2.2.1.2.2.1 = aI B := ⟨_, aI_of _⟩
  obtain ⟨r1, r2, r3, r4, r5⟩ := z_beat hW ra
  obtain ⟨A', p1, p2, p3, p4, p5⟩ := r4 A x.1.2.2.2.2.2.2
  obtain ⟨B', q1, q2, q3, q4, q5⟩ := r5 B y.2.2.1.2.2.2
  unfold f_c37 f_case37 f_L_chordNote f_X10_chordNote f_X11_chordNote f_X11_thrown
  rw [v1, hV, hA, hBm]
  by_cases c : 0 ≤ b ∧ b ≤ cN G a - 1
  · have f1 := p2 b c.1 (by omega)
    have f2 := q2 b c.1 (by omega)
    simp (disch := omega) only [↓q_brd, ↓q_gdd, ↓q_lts, ↓reduceIte, ↓q_bds, ↓zq_smi, ↓zq_smr, iI_add, iI_sub, iI_mul, iI_neg, iI_ab3, iI_div, z_emod, aI_rd, aI_wr, aR0, aW0, aR1, aW1, aR2, aW2, aR3, aW3, aR4, aW4, iI_inT, iI_lt, iI_le, iI_eq, lt_t, lt_f, le_t, le_f, eq_t, eq_f, bz_z, bz_o, bz_zo, bzT, bzF, n_em, zu_s, zu_n, not_true_eq_false, not_false_eq_true, and_self, true_and, and_true, false_and, and_false, true_or, or_true, false_or, or_false, or_self, Int.add_sub_cancel, n_0, n_1, n_2, n_3, n_4, n_5, n_6, n_7, n_8, n_9, n_10, n_11, n_12, n_13, n_14, n_15, n_16, n_17, n_18, n_19, n_20, n_21, n_22, n_23, n_24, n_25, n_26, n_27, n_28, n_29, n_30, n_31, n_32, n_33, n_34, n_35, n_36, n_37, n_40, n_44, n_48, n_50, n_57, n_58, n_60, n_65, n_66, n_67, n_68, n_69, n_70, n_71, n_73, n_77, n_80, n_83, n_97, n_98, n_99, n_100, n_101, n_102, n_103, n_104, n_105, n_106, n_107, n_108, n_109, n_110, n_111, n_112, n_113, n_114, n_115, n_116, n_117, n_118, n_120, n_121, n_122, n_180, n_255, n_539, n_600, n_616, n_1200, n_2000, n_3600, n_8400, n_65536, ea, eb, f_X11_done, p1, q1, z_isWithin, z_in, f1, f2, lg_self, updL0, xq_nn]
    exact ⟨_, _, _, _, rfl, ⟨G, rfl, ⟨H, P, L, E, T, D, S, (by first | rfl | exact hV), hB, hM, hC⟩, v3⟩, i2, i3, i4, i5, i6, i7⟩
  · simp (disch := omega) only [↓q_brd, ↓q_gdd, ↓q_lts, ↓reduceIte, ↓q_bds, ↓zq_smi, ↓zq_smr, iI_add, iI_sub, iI_mul, iI_neg, iI_ab3, iI_div, z_emod, aI_rd, aI_wr, aR0, aW0, aR1, aW1, aR2, aW2, aR3, aW3, aR4, aW4, iI_inT, iI_lt, iI_le, iI_eq, lt_t, lt_f, le_t, le_f, eq_t, eq_f, bz_z, bz_o, bz_zo, bzT, bzF, n_em, zu_s, zu_n, not_true_eq_false, not_false_eq_true, and_self, true_and, and_true, false_and, and_false, true_or, or_true, false_or, or_false, or_self, Int.add_sub_cancel, n_0, n_1, n_2, n_3, n_4, n_5, n_6, n_7, n_8, n_9, n_10, n_11, n_12, n_13, n_14, n_15, n_16, n_17, n_18, n_19, n_20, n_21, n_22, n_23, n_24, n_25, n_26, n_27, n_28, n_29, n_30, n_31, n_32, n_33, n_34, n_35, n_36, n_37, n_40, n_44, n_48, n_50, n_57, n_58, n_60, n_65, n_66, n_67, n_68, n_69, n_70, n_71, n_73, n_77, n_80, n_83, n_97, n_98, n_99, n_100, n_101, n_102, n_103, n_104, n_105, n_106, n_107, n_108, n_109, n_110, n_111, n_112, n_113, n_114, n_115, n_116, n_117, n_118, n_120, n_121, n_122, n_180, n_255, n_539, n_600, n_616, n_1200, n_2000, n_3600, n_8400, n_65536, ea, eb, f_X11_fails, p1, q1, z_isWithin, z_in, c, lg_self, updL0, xq_nn]
    exact ⟨_, _, _, _, rfl, ⟨G, rfl, ⟨H, P, L, E, T, D, S, (by first | rfl | exact hV), hB, hM, hC⟩, v3⟩, i2, i3, i4, i5, i6, i7⟩
def lb (G : Int → Int) : Nat → Int
  | 0 => -1
  | n + 1 => if 0 < cN G n then n else lb G n
theorem lb_rng (G : Int → Int) (n : Nat) : -1 ≤ lb G n ∧ lb G n < n := by
  induction n with
  | zero => show (-1 : Int) ≤ -1 ∧ (-1 : Int) < 0; omega
  | succ n ih =>
    show -1 ≤ (if 0 < cN G n then (n : Int) else lb G n) ∧ (if 0 < cN G n then (n : Int) else lb G n) < ((n + 1 : Nat) : Int)
    split <;> omega
theorem z_last_L {G P L E T D S : Int → Int} (hW : VW G P L E T D S) (d : Nat) : ∀ (i : Nat) (A : Int → Int) (s : Int32) (fuel : Nat), i + d = 31 → d < fuel →
    ∃ A' s', ∀ K, f_X10_lastBeat_L4 (aI P) (iI (G 0)) (aI L) (aI E) (aI T) (aI D) (aI S) (iI (G 1)) K fuel (iI i) (iI (lb G i)) (aI A) s = K (iI (lb G 31)) (aI A') s' := by
  induction d with
  | zero =>
    intro i A s fuel h1 h2
    obtain ⟨fl, rfl⟩ : ∃ fl, fuel = fl + 1 := ⟨fuel - 1, by omega⟩
    have e : i = 31 := by omega
    subst e
    refine ⟨A, s, fun K => ?_⟩
    unfold f_X10_lastBeat_L4
    simp (disch := omega) only [↓q_brd, ↓q_gdd, ↓q_lts, ↓reduceIte, ↓q_bds, ↓zq_smi, ↓zq_smr, iI_add, iI_sub, iI_mul, iI_neg, iI_ab3, iI_div, z_emod, aI_rd, aI_wr, aR0, aW0, aR1, aW1, aR2, aW2, aR3, aW3, aR4, aW4, iI_inT, iI_lt, iI_le, iI_eq, lt_t, lt_f, le_t, le_f, eq_t, eq_f, bz_z, bz_o, bz_zo, bzT, bzF, n_em, zu_s, zu_n, not_true_eq_false, not_false_eq_true, and_self, true_and, and_true, false_and, and_false, true_or, or_true, false_or, or_false, or_self, Int.add_sub_cancel, n_0, n_1, n_2, n_3, n_4, n_5, n_6, n_7, n_8, n_9, n_10, n_11, n_12, n_13, n_14, n_15, n_16, n_17, n_18, n_19, n_20, n_21, n_22, n_23, n_24, n_25, n_26, n_27, n_28, n_29, n_30, n_31, n_32, n_33, n_34, n_35, n_36, n_37, n_40, n_44, n_48, n_50, n_57, n_58, n_60, n_65, n_66, n_67, n_68, n_69, n_70, n_71, n_73, n_77, n_80, n_83, n_97, n_98, n_99, n_100, n_101, n_102, n_103, n_104, n_105, n_106, n_107, n_108, n_109, n_110, n_111, n_112, n_113, n_114, n_115, n_116, n_117, n_118, n_120, n_121, n_122, n_180, n_255, n_539, n_600, n_616, n_1200, n_2000, n_3600, n_8400, n_65536]
  | succ d ih =>
    intro i A s fuel h1 h2
    obtain ⟨fl, rfl⟩ : ∃ fl, fuel = fl + 1 := ⟨fuel - 1, by omega⟩
    obtain ⟨r1, r2, r3, r4, r5⟩ := z_beat hW (b := i) (by omega)
    obtain ⟨A1, p1, p2, p3, p4, p5⟩ := r4 A s
    obtain ⟨A', s', w⟩ := ih (i + 1) A1 (iI (cN G i)) fl (by omega) (by omega)
    rw [show ((i + 1 : Nat) : Int) = i + 1 from rfl, show lb G (i + 1) = if 0 < cN G i then (i : Int) else lb G i from rfl] at w
    refine ⟨A', s', fun K => ?_⟩
    rw [← w K]
    conv => lhs; unfold f_X10_lastBeat_L4
    by_cases c : 0 < cN G i
    · rw [if_pos c]
      simp (disch := omega) only [↓q_brd, ↓q_gdd, ↓q_lts, ↓reduceIte, ↓q_bds, ↓zq_smi, ↓zq_smr, iI_add, iI_sub, iI_mul, iI_neg, iI_ab3, iI_div, z_emod, aI_rd, aI_wr, aR0, aW0, aR1, aW1, aR2, aW2, aR3, aW3, aR4, aW4, iI_inT, iI_lt, iI_le, iI_eq, lt_t, lt_f, le_t, le_f, eq_t, eq_f, bz_z, bz_o, bz_zo, bzT, bzF, n_em, zu_s, zu_n, not_true_eq_false, not_false_eq_true, and_self, true_and, and_true, false_and, and_false, true_or, or_true, false_or, or_false, or_self, Int.add_sub_cancel, n_0, n_1, n_2, n_3, n_4, n_5, n_6, n_7, n_8, n_9, n_10, n_11, n_12, n_13, n_14, n_15, n_16, n_17, n_18, n_19, n_20, n_21, n_22, n_23, n_24, n_25, n_26, n_27, n_28, n_29, n_30, n_31, n_32, n_33, n_34, n_35, n_36, n_37, n_40, n_44, n_48, n_50, n_57, n_58, n_60, n_65, n_66, n_67, n_68, n_69, n_70, n_71, n_73, n_77, n_80, n_83, n_97, n_98, n_99, n_100, n_101, n_102, n_103, n_104, n_105, n_106, n_107, n_108, n_109, n_110, n_111, n_112, n_113, n_114, n_115, n_116, n_117, n_118, n_120, n_121, n_122, n_180, n_255, n_539, n_600, n_616, n_1200, n_2000, n_3600, n_8400, n_65536, p1]
    · rw [if_neg c]
      simp (disch := omega) only [↓q_brd, ↓q_gdd, ↓q_lts, ↓reduceIte, ↓q_bds, ↓zq_smi, ↓zq_smr, iI_add, iI_sub, iI_mul, iI_neg, iI_ab3, iI_div, z_emod, aI_rd, aI_wr, aR0, aW0, aR1, aW1, aR2, aW2, aR3, aW3, aR4, aW4, iI_inT, iI_lt, iI_le, iI_eq, lt_t, lt_f, le_t, le_f, eq_t, eq_f, bz_z, bz_o, bz_zo, bzT, bzF, n_em, zu_s, zu_n, not_true_eq_false, not_false_eq_true, and_self, true_and, and_true, false_and, and_false, true_or, or_true, false_or, or_false, or_self, Int.add_sub_cancel, n_0, n_1, n_2, n_3, n_4, n_5, n_6, n_7, n_8, n_9, n_10, n_11, n_12, n_13, n_14, n_15, n_16, n_17, n_18, n_19, n_20, n_21, n_22, n_23, n_24, n_25, n_26, n_27, n_28, n_29, n_30, n_31, n_32, n_33, n_34, n_35, n_36, n_37, n_40, n_44, n_48, n_50, n_57, n_58, n_60, n_65, n_66, n_67, n_68, n_69, n_70, n_71, n_73, n_77, n_80, n_83, n_97, n_98, n_99, n_100, n_101, n_102, n_103, n_104, n_105, n_106, n_107, n_108, n_109, n_110, n_111, n_112, n_113, n_114, n_115, n_116, n_117, n_118, n_120, n_121, n_122, n_180, n_255, n_539, n_600, n_616, n_1200, n_2000, n_3600, n_8400, n_65536, p1]
theorem z_mlast_L {G P L E T D S : Int → Int} (hW : VW G P L E T D S) (d : Nat) : ∀ (i : Int) (B : Int → Int) (s : Int32) (fuel : Nat), i + 1 = d → d ≤ 32 → d < fuel →
    ∃ B' s', ∀ K, f_X11_lastBeat_L3 (aI G) K fuel (iI i) (aI B) s = K (iI (lb G d)) (aI B') s' := by
  induction d with
  | zero =>
    intro i B s fuel h1 h2 h3
    obtain ⟨fl, rfl⟩ : ∃ fl, fuel = fl + 1 := ⟨fuel - 1, by omega⟩
    have e : i = -1 := by omega
    subst e
    refine ⟨B, s, fun K => ?_⟩
    unfold f_X11_lastBeat_L3
    simp (disch := omega) only [↓q_brd, ↓q_gdd, ↓q_lts, ↓reduceIte, ↓q_bds, ↓zq_smi, ↓zq_smr, iI_add, iI_sub, iI_mul, iI_neg, iI_ab3, iI_div, z_emod, aI_rd, aI_wr, aR0, aW0, aR1, aW1, aR2, aW2, aR3, aW3, aR4, aW4, iI_inT, iI_lt, iI_le, iI_eq, lt_t, lt_f, le_t, le_f, eq_t, eq_f, bz_z, bz_o, bz_zo, bzT, bzF, n_em, zu_s, zu_n, not_true_eq_false, not_false_eq_true, and_self, true_and, and_true, false_and, and_false, true_or, or_true, false_or, or_false, or_self, Int.add_sub_cancel, n_0, n_1, n_2, n_3, n_4, n_5, n_6, n_7, n_8, n_9, n_10, n_11, n_12, n_13, n_14, n_15, n_16, n_17, n_18, n_19, n_20, n_21, n_22, n_23, n_24, n_25, n_26, n_27, n_28, n_29, n_30, n_31, n_32, n_33, n_34, n_35, n_36, n_37, n_40, n_44, n_48, n_50, n_57, n_58, n_60, n_65, n_66, n_67, n_68, n_69, n_70, n_71, n_73, n_77, n_80, n_83, n_97, n_98, n_99, n_100, n_101, n_102, n_103, n_104, n_105, n_106, n_107, n_108, n_109, n_110, n_111, n_112, n_113, n_114, n_115, n_116, n_117, n_118, n_120, n_121, n_122, n_180, n_255, n_539, n_600, n_616, n_1200, n_2000, n_3600, n_8400, n_65536]
    rfl
  | succ d ih =>
    intro i B s fuel h1 h2 h3
    obtain ⟨fl, rfl⟩ : ∃ fl, fuel = fl + 1 := ⟨fuel - 1, by omega⟩
    have e : i = (d : Int) := by omega
    subst e
    obtain ⟨r1, r2, r3, r4, r5⟩ := z_beat hW (b := d) (by omega)
    obtain ⟨B1, q1, q2, q3, q4, q5⟩ := r5 B s
    obtain ⟨B', s', w⟩ := ih ((d : Int) + -1) B1 (iI (cN G d)) fl (by omega) (by omega) (by omega)
    rw [show lb G (d + 1) = if 0 < cN G d then (d : Int) else lb G d from rfl]
    by_cases c : 0 < cN G d
    · refine ⟨B1, iI (cN G d), fun K => ?_⟩
      rw [if_pos c]
      rw [bz_t c] at q5
      unfold f_X11_lastBeat_L3
      simp (disch := omega) only [↓q_brd, ↓q_gdd, ↓q_lts, ↓reduceIte, ↓q_bds, ↓zq_smi, ↓zq_smr, iI_add, iI_sub, iI_mul, iI_neg, iI_ab3, iI_div, z_emod, aI_rd, aI_wr, aR0, aW0, aR1, aW1, aR2, aW2, aR3, aW3, aR4, aW4, iI_inT, iI_lt, iI_le, iI_eq, lt_t, lt_f, le_t, le_f, eq_t, eq_f, bz_z, bz_o, bz_zo, bzT, bzF, n_em, zu_s, zu_n, not_true_eq_false, not_false_eq_true, and_self, true_and, and_true, false_and, and_false, true_or, or_true, false_or, or_false, or_self, Int.add_sub_cancel, n_0, n_1, n_2, n_3, n_4, n_5, n_6, n_7, n_8, n_9, n_10, n_11, n_12, n_13, n_14, n_15, n_16, n_17, n_18, n_19, n_20, n_21, n_22, n_23, n_24, n_25, n_26, n_27, n_28, n_29, n_30, n_31, n_32, n_33, n_34, n_35, n_36, n_37, n_40, n_44, n_48, n_50, n_57, n_58, n_60, n_65, n_66, n_67, n_68, n_69, n_70, n_71, n_73, n_77, n_80, n_83, n_97, n_98, n_99, n_100, n_101, n_102, n_103, n_104, n_105, n_106, n_107, n_108, n_109, n_110, n_111, n_112, n_113, n_114, n_115, n_116, n_117, n_118, n_120, n_121, n_122, n_180, n_255, n_539, n_600, n_616, n_1200, n_2000, n_3600, n_8400, n_65536, q5, show (iI 1 = iI 0) = False from by decide]
    · refine ⟨B', s', fun K => ?_⟩
      rw [if_neg c, ← w K]
      rw [bz_f c] at q5
      conv => lhs; unfold f_X11_lastBeat_L3
      simp (disch := omega) only [↓q_brd, ↓q_gdd, ↓q_lts, ↓reduceIte, ↓q_bds, ↓zq_smi, ↓zq_smr, iI_add, iI_sub, iI_mul, iI_neg, iI_ab3, iI_div, z_emod, aI_rd, aI_wr, aR0, aW0, aR1, aW1, aR2, aW2, aR3, aW3, aR4, aW4, iI_inT, iI_lt, iI_le, iI_eq, lt_t, lt_f, le_t, le_f, eq_t, eq_f, bz_z, bz_o, bz_zo, bzT, bzF, n_em, zu_s, zu_n, not_true_eq_false, not_false_eq_true, and_self, true_and, and_true, false_and, and_false, true_or, or_true, false_or, or_false, or_self, Int.add_sub_cancel, n_0, n_1, n_2, n_3, n_4, n_5, n_6, n_7, n_8, n_9, n_10, n_11, n_12, n_13, n_14, n_15, n_16, n_17, n_18, n_19, n_20, n_21, n_22, n_23, n_24, n_25, n_26, n_27, n_28, n_29, n_30, n_31, n_32, n_33, n_34, n_35, n_36, n_37, n_40, n_44, n_48, n_50, n_57, n_58, n_60, n_65, n_66, n_67, n_68, n_69, n_70, n_71, n_73, n_77, n_80, n_83, n_97, n_98, n_99, n_100, n_101, n_102, n_103, n_104, n_105, n_106, n_107, n_108, n_109, n_110, n_111, n_112, n_113, n_114, n_115, n_116, n_117, n_118, n_120, n_121, n_122, n_180, n_255, n_539, n_600, n_616, n_1200, n_2000, n_3600, n_8400, n_65536, q5]
set_option maxHeartbeats 4000000 in
theorem lc_41 {IL : Line_t → (Nat → Int32) → Int32 → Prop} {x : VB_t} {y : Model_t} {z : Nat → Int64} {w : Nat → UInt64} {xs : Nat → Int32} {n : Nat} {i : Int} (hI : Inv IL x y) (hi : 0 ≤ i ∧ i + 2 < n ∧ n ≤ 10000) : ∃ x2 y2 z2 w2, f_c41 x y z w xs n (iI i) = some (x2, y2, z2, w2) ∧ Inv IL x2 y2 := by
  obtain ⟨⟨G, v1, ⟨H, P, L, E, T, D, S, hV, hB, hM, hC⟩, v3⟩, i2, i3, i4, i5, i6, i7⟩ := hI
  obtain ⟨g0, g1, g2, g3, g4, hb, hm, hc⟩ := id v3
  have hW := VW_of hB hM hC v3
  obtain ⟨A, hA⟩ : ∃ A, x.1.2.2.2.2.1 = aI A := ⟨_, aI_of _⟩
  obtain ⟨B, hBm⟩ : ∃ B, y.2.2.1.2.2.1 = aI B := ⟨_, aI_of _⟩
  obtain ⟨A1, s1, w1⟩ := z_last_L hW 31 0 A x.1.2.2.2.2.2.2 2000 (by omega) (by omega)
  obtain ⟨B1, s2, w2⟩ := z_mlast_L hW 32 31 B y.2.2.1.2.2.2 2000 (by omega) (by omega) (by omega)
  rw [show ((0 : Nat) : Int) = 0 from rfl, show lb G 0 = -1 from rfl] at w1
  have hl := lb_rng G 31
  have hl2 : lb G 32 = lb G 31 := if_neg (by have := (z_beat hW (b := 31) (by omega)).2.2.1 (by omega); show ¬ 0 < cN G 31; omega)
  rw [hl2] at w2
  generalize lb G 31 = l at w1 w2 hl
  unfold f_c41 f_case41 f_L_lastBeat f_X10_lastBeat f_X10_requireSound f_X11_lastBeat f_X11_thrown
  rw [v1, hV, hA, hBm]
  by_cases c : l = -1
  · simp (disch := omega) only [↓q_brd, ↓q_gdd, ↓q_lts, ↓reduceIte, ↓q_bds, ↓zq_smi, ↓zq_smr, iI_add, iI_sub, iI_mul, iI_neg, iI_ab3, iI_div, z_emod, aI_rd, aI_wr, aR0, aW0, aR1, aW1, aR2, aW2, aR3, aW3, aR4, aW4, iI_inT, iI_lt, iI_le, iI_eq, lt_t, lt_f, le_t, le_f, eq_t, eq_f, bz_z, bz_o, bz_zo, bzT, bzF, n_em, zu_s, zu_n, not_true_eq_false, not_false_eq_true, and_self, true_and, and_true, false_and, and_false, true_or, or_true, false_or, or_false, or_self, Int.add_sub_cancel, n_0, n_1, n_2, n_3, n_4, n_5, n_6, n_7, n_8, n_9, n_10, n_11, n_12, n_13, n_14, n_15, n_16, n_17, n_18, n_19, n_20, n_21, n_22, n_23, n_24, n_25, n_26, n_27, n_28, n_29, n_30, n_31, n_32, n_33, n_34, n_35, n_36, n_37, n_40, n_44, n_48, n_50, n_57, n_58, n_60, n_65, n_66, n_67, n_68, n_69, n_70, n_71, n_73, n_77, n_80, n_83, n_97, n_98, n_99, n_100, n_101, n_102, n_103, n_104, n_105, n_106, n_107, n_108, n_109, n_110, n_111, n_112, n_113, n_114, n_115, n_116, n_117, n_118, n_120, n_121, n_122, n_180, n_255, n_539, n_600, n_616, n_1200, n_2000, n_3600, n_8400, n_65536, w1, w2, c, f_X11_fails, f_X11_done, lg_self, updL0, xq_nn]
    exact ⟨_, _, _, _, rfl, ⟨G, rfl, ⟨H, P, L, E, T, D, S, (by first | rfl | exact hV), hB, hM, hC⟩, v3⟩, i2, i3, i4, i5, i6, i7⟩
  · simp (disch := omega) only [↓q_brd, ↓q_gdd, ↓q_lts, ↓reduceIte, ↓q_bds, ↓zq_smi, ↓zq_smr, iI_add, iI_sub, iI_mul, iI_neg, iI_ab3, iI_div, z_emod, aI_rd, aI_wr, aR0, aW0, aR1, aW1, aR2, aW2, aR3, aW3, aR4, aW4, iI_inT, iI_lt, iI_le, iI_eq, lt_t, lt_f, le_t, le_f, eq_t, eq_f, bz_z, bz_o, bz_zo, bzT, bzF, n_em, zu_s, zu_n, not_true_eq_false, not_false_eq_true, and_self, true_and, and_true, false_and, and_false, true_or, or_true, false_or, or_false, or_self, Int.add_sub_cancel, n_0, n_1, n_2, n_3, n_4, n_5, n_6, n_7, n_8, n_9, n_10, n_11, n_12, n_13, n_14, n_15, n_16, n_17, n_18, n_19, n_20, n_21, n_22, n_23, n_24, n_25, n_26, n_27, n_28, n_29, n_30, n_31, n_32, n_33, n_34, n_35, n_36, n_37, n_40, n_44, n_48, n_50, n_57, n_58, n_60, n_65, n_66, n_67, n_68, n_69, n_70, n_71, n_73, n_77, n_80, n_83, n_97, n_98, n_99, n_100, n_101, n_102, n_103, n_104, n_105, n_106, n_107, n_108, n_109, n_110, n_111, n_112, n_113, n_114, n_115, n_116, n_117, n_118, n_120, n_121, n_122, n_180, n_255, n_539, n_600, n_616, n_1200, n_2000, n_3600, n_8400, n_65536, w1, w2, f_X11_fails, f_X11_done, lg_self, updL0, xq_nn]
    exact ⟨_, _, _, _, rfl, ⟨G, rfl, ⟨H, P, L, E, T, D, S, (by first | rfl | exact hV), hB, hM, hC⟩, v3⟩, i2, i3, i4, i5, i6, i7⟩
theorem z_tot_L {G P L E T D S : Int → Int} (hW : VW G P L E T D S) (d : Nat) : ∀ (i : Int) (c : Int64) (A B : Int → Int) (s t : Int32) (f1 f2 : Nat), 0 ≤ i → i + d = 31 → d < f1 → d + 1 < f2 →
    ∃ c' A' s' B' t', (∀ K, f_X10_totalDissonances_L4 (aI P) (iI (G 0)) (aI L) (aI E) (aI T) (aI D) (aI S) (iI (G 1)) K f1 (iI i) c (aI A) s = K c' (aI A') s') ∧ ∀ K, f_X11_totalDissonances_L4 (aI G) K f2 (iI i) c (aI B) t = K c' (aI B') t' := by
  induction d with
  | zero =>
    intro i c A B s t f1 f2 h1 h2 h3 h4
    obtain ⟨fl, rfl⟩ : ∃ fl, f1 = fl + 1 := ⟨f1 - 1, by omega⟩
    obtain ⟨fk, rfl⟩ : ∃ fk, f2 = fk + 1 + 1 := ⟨f2 - 2, by omega⟩
    have e : i = 31 := by omega
    subst e
    obtain ⟨r1, r2, r3, r4, r5⟩ := z_beat hW (b := 31) (by omega)
    obtain ⟨B1, q1, q2, q3, q4, q5⟩ := r5 B t
    rw [(r3 (by omega)).2] at q3
    refine ⟨c, A, s, B1, iI (cN G 31), fun K => ?_, fun K => ?_⟩
    · unfold f_X10_totalDissonances_L4
      simp (disch := omega) only [↓q_brd, ↓q_gdd, ↓q_lts, ↓reduceIte, ↓q_bds, ↓zq_smi, ↓zq_smr, iI_add, iI_sub, iI_mul, iI_neg, iI_ab3, iI_div, z_emod, aI_rd, aI_wr, aR0, aW0, aR1, aW1, aR2, aW2, aR3, aW3, aR4, aW4, iI_inT, iI_lt, iI_le, iI_eq, lt_t, lt_f, le_t, le_f, eq_t, eq_f, bz_z, bz_o, bz_zo, bzT, bzF, n_em, zu_s, zu_n, not_true_eq_false, not_false_eq_true, and_self, true_and, and_true, false_and, and_false, true_or, or_true, false_or, or_false, or_self, Int.add_sub_cancel, n_0, n_1, n_2, n_3, n_4, n_5, n_6, n_7, n_8, n_9, n_10, n_11, n_12, n_13, n_14, n_15, n_16, n_17, n_18, n_19, n_20, n_21, n_22, n_23, n_24, n_25, n_26, n_27, n_28, n_29, n_30, n_31, n_32, n_33, n_34, n_35, n_36, n_37, n_40, n_44, n_48, n_50, n_57, n_58, n_60, n_65, n_66, n_67, n_68, n_69, n_70, n_71, n_73, n_77, n_80, n_83, n_97, n_98, n_99, n_100, n_101, n_102, n_103, n_104, n_105, n_106, n_107, n_108, n_109, n_110, n_111, n_112, n_113, n_114, n_115, n_116, n_117, n_118, n_120, n_121, n_122, n_180, n_255, n_539, n_600, n_616, n_1200, n_2000, n_3600, n_8400, n_65536]
    · have e2 : c + (iI 0).toInt64 = c := by
        rw [show (iI 0).toInt64 = 0 from by decide]
        exact Int64.add_zero c
      unfold f_X11_totalDissonances_L4
      simp (disch := omega) only [↓q_brd, ↓q_gdd, ↓q_lts, ↓reduceIte, ↓q_bds, ↓zq_smi, ↓zq_smr, iI_add, iI_sub, iI_mul, iI_neg, iI_ab3, iI_div, z_emod, aI_rd, aI_wr, aR0, aW0, aR1, aW1, aR2, aW2, aR3, aW3, aR4, aW4, iI_inT, iI_lt, iI_le, iI_eq, lt_t, lt_f, le_t, le_f, eq_t, eq_f, bz_z, bz_o, bz_zo, bzT, bzF, n_em, zu_s, zu_n, not_true_eq_false, not_false_eq_true, and_self, true_and, and_true, false_and, and_false, true_or, or_true, false_or, or_false, or_self, Int.add_sub_cancel, n_0, n_1, n_2, n_3, n_4, n_5, n_6, n_7, n_8, n_9, n_10, n_11, n_12, n_13, n_14, n_15, n_16, n_17, n_18, n_19, n_20, n_21, n_22, n_23, n_24, n_25, n_26, n_27, n_28, n_29, n_30, n_31, n_32, n_33, n_34, n_35, n_36, n_37, n_40, n_44, n_48, n_50, n_57, n_58, n_60, n_65, n_66, n_67, n_68, n_69, n_70, n_71, n_73, n_77, n_80, n_83, n_97, n_98, n_99, n_100, n_101, n_102, n_103, n_104, n_105, n_106, n_107, n_108, n_109, n_110, n_111, n_112, n_113, n_114, n_115, n_116, n_117, n_118, n_120, n_121, n_122, n_180, n_255, n_539, n_600, n_616, n_1200, n_2000, n_3600, n_8400, n_65536, q3, e2]
      unfold f_X11_totalDissonances_L4
      simp (disch := omega) only [↓q_brd, ↓q_gdd, ↓q_lts, ↓reduceIte, ↓q_bds, ↓zq_smi, ↓zq_smr, iI_add, iI_sub, iI_mul, iI_neg, iI_ab3, iI_div, z_emod, aI_rd, aI_wr, aR0, aW0, aR1, aW1, aR2, aW2, aR3, aW3, aR4, aW4, iI_inT, iI_lt, iI_le, iI_eq, lt_t, lt_f, le_t, le_f, eq_t, eq_f, bz_z, bz_o, bz_zo, bzT, bzF, n_em, zu_s, zu_n, not_true_eq_false, not_false_eq_true, and_self, true_and, and_true, false_and, and_false, true_or, or_true, false_or, or_false, or_self, Int.add_sub_cancel, n_0, n_1, n_2, n_3, n_4, n_5, n_6, n_7, n_8, n_9, n_10, n_11, n_12, n_13, n_14, n_15, n_16, n_17, n_18, n_19, n_20, n_21, n_22, n_23, n_24, n_25, n_26, n_27, n_28, n_29, n_30, n_31, n_32, n_33, n_34, n_35, n_36, n_37, n_40, n_44, n_48, n_50, n_57, n_58, n_60, n_65, n_66, n_67, n_68, n_69, n_70, n_71, n_73, n_77, n_80, n_83, n_97, n_98, n_99, n_100, n_101, n_102, n_103, n_104, n_105, n_106, n_107, n_108, n_109, n_110, n_111, n_112, n_113, n_114, n_115, n_116, n_117, n_118, n_120, n_121, n_122, n_180, n_255, n_539, n_600, n_616, n_1200, n_2000, n_3600, n_8400, n_65536]
  | succ d ih =>
    intro i c A B s t f1 f2 h1 h2 h3 h4
    obtain ⟨fl, rfl⟩ : ∃ fl, f1 = fl + 1 := ⟨f1 - 1, by omega⟩
    obtain ⟨fk, rfl⟩ : ∃ fk, f2 = fk + 1 := ⟨f2 - 1, by omega⟩
    obtain ⟨r1, r2, r3, r4, r5⟩ := z_beat hW (b := i) (by omega)
    obtain ⟨A1, p1, p2, p3, p4, p5⟩ := r4 A s
    obtain ⟨B1, q1, q2, q3, q4, q5⟩ := r5 B t
    obtain ⟨c', A', s', B', t', w1, w2⟩ := ih (i + 1) (c + (iI (cD G i)).toInt64) A1 B1 (iI (cN G i)) (iI (cN G i)) fl fk (by omega) (by omega) (by omega) (by omega)
    refine ⟨c', A', s', B', t', fun K => ?_, fun K => ?_⟩
    · rw [← w1 K]
      conv => lhs; unfold f_X10_totalDissonances_L4
      simp (disch := omega) only [↓q_brd, ↓q_gdd, ↓q_lts, ↓reduceIte, ↓q_bds, ↓zq_smi, ↓zq_smr, iI_add, iI_sub, iI_mul, iI_neg, iI_ab3, iI_div, z_emod, aI_rd, aI_wr, aR0, aW0, aR1, aW1, aR2, aW2, aR3, aW3, aR4, aW4, iI_inT, iI_lt, iI_le, iI_eq, lt_t, lt_f, le_t, le_f, eq_t, eq_f, bz_z, bz_o, bz_zo, bzT, bzF, n_em, zu_s, zu_n, not_true_eq_false, not_false_eq_true, and_self, true_and, and_true, false_and, and_false, true_or, or_true, false_or, or_false, or_self, Int.add_sub_cancel, n_0, n_1, n_2, n_3, n_4, n_5, n_6, n_7, n_8, n_9, n_10, n_11, n_12, n_13, n_14, n_15, n_16, n_17, n_18, n_19, n_20, n_21, n_22, n_23, n_24, n_25, n_26, n_27, n_28, n_29, n_30, n_31, n_32, n_33, n_34, n_35, n_36, n_37, n_40, n_44, n_48, n_50, n_57, n_58, n_60, n_65, n_66, n_67, n_68, n_69, n_70, n_71, n_73, n_77, n_80, n_83, n_97, n_98, n_99, n_100, n_101, n_102, n_103, n_104, n_105, n_106, n_107, n_108, n_109, n_110, n_111, n_112, n_113, n_114, n_115, n_116, n_117, n_118, n_120, n_121, n_122, n_180, n_255, n_539, n_600, n_616, n_1200, n_2000, n_3600, n_8400, n_65536, p1, p3]
    · rw [← w2 K]
      conv => lhs; unfold f_X11_totalDissonances_L4
      simp (disch := omega) only [↓q_brd, ↓q_gdd, ↓q_lts, ↓reduceIte, ↓q_bds, ↓zq_smi, ↓zq_smr, iI_add, iI_sub, iI_mul, iI_neg, iI_ab3, iI_div, z_emod, aI_rd, aI_wr, aR0, aW0, aR1, aW1, aR2, aW2, aR3, aW3, aR4, aW4, iI_inT, iI_lt, iI_le, iI_eq, lt_t, lt_f, le_t, le_f, eq_t, eq_f, bz_z, bz_o, bz_zo, bzT, bzF, n_em, zu_s, zu_n, not_true_eq_false, not_false_eq_true, and_self, true_and, and_true, false_and, and_false, true_or, or_true, false_or, or_false, or_self, Int.add_sub_cancel, n_0, n_1, n_2, n_3, n_4, n_5, n_6, n_7, n_8, n_9, n_10, n_11, n_12, n_13, n_14, n_15, n_16, n_17, n_18, n_19, n_20, n_21, n_22, n_23, n_24, n_25, n_26, n_27, n_28, n_29, n_30, n_31, n_32, n_33, n_34, n_35, n_36, n_37, n_40, n_44, n_48, n_50, n_57, n_58, n_60, n_65, n_66, n_67, n_68, n_69, n_70, n_71, n_73, n_77, n_80, n_83, n_97, n_98, n_99, n_100, n_101, n_102, n_103, n_104, n_105, n_106, n_107, n_108, n_109, n_110, n_111, n_112, n_113, n_114, n_115, n_116, n_117, n_118, n_120, n_121, n_122, n_180, n_255, n_539, n_600, n_616, n_1200, n_2000, n_3600, n_8400, n_65536, q3]
set_option maxHeartbeats 4000000 in
theorem lc_42 {IL : Line_t → (Nat → Int32) → Int32 → Prop} {x : VB_t} {y : Model_t} {z : Nat → Int64} {w : Nat → UInt64} {xs : Nat → Int32} {n : Nat} {i : Int} (hI : Inv IL x y) (hi : 0 ≤ i ∧ i + 2 < n ∧ n ≤ 10000) : ∃ x2 y2 z2 w2, f_c42 x y z w xs n (iI i) = some (x2, y2, z2, w2) ∧ Inv IL x2 y2 := by
  obtain ⟨⟨G, v1, ⟨H, P, L, E, T, D, S, hV, hB, hM, hC⟩, v3⟩, i2, i3, i4, i5, i6, i7⟩ := hI
  obtain ⟨g0, g1, g2, g3, g4, hb, hm, hc⟩ := id v3
  have hW := VW_of hB hM hC v3
  obtain ⟨A, hA⟩ : ∃ A, x.1.2.2.2.2.1 = aI A := ⟨_, aI_of _⟩
  obtain ⟨B, hBm⟩ : ∃ B, y.2.2.1.2.2.1 = aI B := ⟨_, aI_of _⟩
  obtain ⟨c1, A1, s1, B1, s2, w1, w2⟩ := z_tot_L hW 31 0 0 A B x.1.2.2.2.2.2.2 y.2.2.1.2.2.2 2000 2000 (by omega) (by omega) (by omega) (by omega)
  unfold f_c42 f_case42 f_X10_totalDissonances f_X11_totalDissonances
  rw [v1, hV, hA, hBm]
  simp (disch := omega) only [↓q_brd, ↓q_gdd, ↓q_lts, ↓reduceIte, ↓q_bds, ↓zq_smi, ↓zq_smr, iI_add, iI_sub, iI_mul, iI_neg, iI_ab3, iI_div, z_emod, aI_rd, aI_wr, aR0, aW0, aR1, aW1, aR2, aW2, aR3, aW3, aR4, aW4, iI_inT, iI_lt, iI_le, iI_eq, lt_t, lt_f, le_t, le_f, eq_t, eq_f, bz_z, bz_o, bz_zo, bzT, bzF, n_em, zu_s, zu_n, not_true_eq_false, not_false_eq_true, and_self, true_and, and_true, false_and, and_false, true_or, or_true, false_or, or_false, or_self, Int.add_sub_cancel, n_0, n_1, n_2, n_3, n_4, n_5, n_6, n_7, n_8, n_9, n_10, n_11, n_12, n_13, n_14, n_15, n_16, n_17, n_18, n_19, n_20, n_21, n_22, n_23, n_24, n_25, n_26, n_27, n_28, n_29, n_30, n_31, n_32, n_33, n_34, n_35, n_36, n_37, n_40, n_44, n_48, n_50, n_57, n_58, n_60, n_65, n_66, n_67, n_68, n_69, n_70, n_71, n_73, n_77, n_80, n_83, n_97, n_98, n_99, n_100, n_101, n_102, n_103, n_104, n_105, n_106, n_107, n_108, n_109, n_110, n_111, n_112, n_113, n_114, n_115, n_116, n_117, n_118, n_120, n_121, n_122, n_180, n_255, n_539, n_600, n_616, n_1200, n_2000, n_3600, n_8400, n_65536, w1, w2, lg_self]
  exact ⟨_, _, _, _, rfl, ⟨G, rfl, ⟨H, P, L, E, T, D, S, (by first | rfl | exact hV), hB, hM, hC⟩, v3⟩, i2, i3, i4, i5, i6, i7⟩
theorem z_harsh_L {G P L E T D S : Int → Int} (hW : VW G P L E T D S) (d : Nat) : ∀ (i h : Int) (A B : Int → Int) (s t : Int32) (f1 f2 : Nat), 0 ≤ i → i + d = 31 → d < f1 → d + 1 < f2 → (-1 ≤ h ∧ h ≤ 30) →
    ∃ h' A' s' B' t', (-1 ≤ h' ∧ h' ≤ 30) ∧ (∀ K, f_X10_harshestBeat_L6 (aI P) (iI (G 0)) (aI L) (aI E) (aI T) (aI D) (aI S) (iI (G 1)) K f1 (iI i) (iI (if h = -1 then -1 else cD G h)) (iI h) (aI A) s = K (iI h') (aI A') s') ∧ ∀ K, f_X11_harshestBeat_L4 (aI G) K f2 (iI i) (iI h) (aI B) t = K (iI h') (aI B') t' := by
  induction d with
  | zero =>
    intro i h A B s t f1 f2 h1 h2 h3 h4 h5
    obtain ⟨fl, rfl⟩ : ∃ fl, f1 = fl + 1 := ⟨f1 - 1, by omega⟩
    obtain ⟨fk, rfl⟩ : ∃ fk, f2 = fk + 1 + 1 := ⟨f2 - 2, by omega⟩
    have e : i = 31 := by omega
    subst e
    obtain ⟨r1, r2, r3, r4, r5⟩ := z_beat hW (b := 31) (by omega)
    obtain ⟨B1, q1, q2, q3, q4, q5⟩ := r5 B t
    rw [bz_f (show ¬ 0 < cN G 31 by have := (r3 (by omega)).1; omega)] at q5
    refine ⟨h, A, s, B1, iI (cN G 31), h5, fun K => ?_, fun K => ?_⟩
    · unfold f_X10_harshestBeat_L6
      simp (disch := omega) only [↓q_brd, ↓q_gdd, ↓q_lts, ↓reduceIte, ↓q_bds, ↓zq_smi, ↓zq_smr, iI_add, iI_sub, iI_mul, iI_neg, iI_ab3, iI_div, z_emod, aI_rd, aI_wr, aR0, aW0, aR1, aW1, aR2, aW2, aR3, aW3, aR4, aW4, iI_inT, iI_lt, iI_le, iI_eq, lt_t, lt_f, le_t, le_f, eq_t, eq_f, bz_z, bz_o, bz_zo, bzT, bzF, n_em, zu_s, zu_n, not_true_eq_false, not_false_eq_true, and_self, true_and, and_true, false_and, and_false, true_or, or_true, false_or, or_false, or_self, Int.add_sub_cancel, n_0, n_1, n_2, n_3, n_4, n_5, n_6, n_7, n_8, n_9, n_10, n_11, n_12, n_13, n_14, n_15, n_16, n_17, n_18, n_19, n_20, n_21, n_22, n_23, n_24, n_25, n_26, n_27, n_28, n_29, n_30, n_31, n_32, n_33, n_34, n_35, n_36, n_37, n_40, n_44, n_48, n_50, n_57, n_58, n_60, n_65, n_66, n_67, n_68, n_69, n_70, n_71, n_73, n_77, n_80, n_83, n_97, n_98, n_99, n_100, n_101, n_102, n_103, n_104, n_105, n_106, n_107, n_108, n_109, n_110, n_111, n_112, n_113, n_114, n_115, n_116, n_117, n_118, n_120, n_121, n_122, n_180, n_255, n_539, n_600, n_616, n_1200, n_2000, n_3600, n_8400, n_65536]
    · unfold f_X11_harshestBeat_L4
      simp (disch := omega) only [↓q_brd, ↓q_gdd, ↓q_lts, ↓reduceIte, ↓q_bds, ↓zq_smi, ↓zq_smr, iI_add, iI_sub, iI_mul, iI_neg, iI_ab3, iI_div, z_emod, aI_rd, aI_wr, aR0, aW0, aR1, aW1, aR2, aW2, aR3, aW3, aR4, aW4, iI_inT, iI_lt, iI_le, iI_eq, lt_t, lt_f, le_t, le_f, eq_t, eq_f, bz_z, bz_o, bz_zo, bzT, bzF, n_em, zu_s, zu_n, not_true_eq_false, not_false_eq_true, and_self, true_and, and_true, false_and, and_false, true_or, or_true, false_or, or_false, or_self, Int.add_sub_cancel, n_0, n_1, n_2, n_3, n_4, n_5, n_6, n_7, n_8, n_9, n_10, n_11, n_12, n_13, n_14, n_15, n_16, n_17, n_18, n_19, n_20, n_21, n_22, n_23, n_24, n_25, n_26, n_27, n_28, n_29, n_30, n_31, n_32, n_33, n_34, n_35, n_36, n_37, n_40, n_44, n_48, n_50, n_57, n_58, n_60, n_65, n_66, n_67, n_68, n_69, n_70, n_71, n_73, n_77, n_80, n_83, n_97, n_98, n_99, n_100, n_101, n_102, n_103, n_104, n_105, n_106, n_107, n_108, n_109, n_110, n_111, n_112, n_113, n_114, n_115, n_116, n_117, n_118, n_120, n_121, n_122, n_180, n_255, n_539, n_600, n_616, n_1200, n_2000, n_3600, n_8400, n_65536, q5]
      unfold f_X11_harshestBeat_L4
      simp (disch := omega) only [↓q_brd, ↓q_gdd, ↓q_lts, ↓reduceIte, ↓q_bds, ↓zq_smi, ↓zq_smr, iI_add, iI_sub, iI_mul, iI_neg, iI_ab3, iI_div, z_emod, aI_rd, aI_wr, aR0, aW0, aR1, aW1, aR2, aW2, aR3, aW3, aR4, aW4, iI_inT, iI_lt, iI_le, iI_eq, lt_t, lt_f, le_t, le_f, eq_t, eq_f, bz_z, bz_o, bz_zo, bzT, bzF, n_em, zu_s, zu_n, not_true_eq_false, not_false_eq_true, and_self, true_and, and_true, false_and, and_false, true_or, or_true, false_or, or_false, or_self, Int.add_sub_cancel, n_0, n_1, n_2, n_3, n_4, n_5, n_6, n_7, n_8, n_9, n_10, n_11, n_12, n_13, n_14, n_15, n_16, n_17, n_18, n_19, n_20, n_21, n_22, n_23, n_24, n_25, n_26, n_27, n_28, n_29, n_30, n_31, n_32, n_33, n_34, n_35, n_36, n_37, n_40, n_44, n_48, n_50, n_57, n_58, n_60, n_65, n_66, n_67, n_68, n_69, n_70, n_71, n_73, n_77, n_80, n_83, n_97, n_98, n_99, n_100, n_101, n_102, n_103, n_104, n_105, n_106, n_107, n_108, n_109, n_110, n_111, n_112, n_113, n_114, n_115, n_116, n_117, n_118, n_120, n_121, n_122, n_180, n_255, n_539, n_600, n_616, n_1200, n_2000, n_3600, n_8400, n_65536]
  | succ d ih =>
    intro i h A B s t f1 f2 h1 h2 h3 h4 h5
    obtain ⟨fl, rfl⟩ : ∃ fl, f1 = fl + 1 := ⟨f1 - 1, by omega⟩
    obtain ⟨fk, rfl⟩ : ∃ fk, f2 = fk + 1 := ⟨f2 - 1, by omega⟩
    obtain ⟨r1, r2, r3, r4, r5⟩ := z_beat hW (b := i) (by omega)
    obtain ⟨A1, p1, p2, p3, p4, p5⟩ := r4 A s
    obtain ⟨B1, q1, q2, q3, q4, q5⟩ := r5 B t
    by_cases c : 0 < cN G i
    · rw [bz_t c] at q5
      by_cases c2 : h = -1
      · obtain ⟨h', A', s', B', t', w0, w1, w2⟩ := ih (i + 1) i A1 B1 (iI (cN G i)) (iI (cN G i)) fl fk (by omega) (by omega) (by omega) (by omega) (by omega)
        rw [if_neg (show ¬ i = -1 by omega)] at w1
        refine ⟨h', A', s', B', t', w0, fun K => ?_, fun K => ?_⟩
        · rw [← w1 K, if_pos c2]
          conv => lhs; unfold f_X10_harshestBeat_L6
          simp (disch := omega) only [↓q_brd, ↓q_gdd, ↓q_lts, ↓reduceIte, ↓q_bds, ↓zq_smi, ↓zq_smr, iI_add, iI_sub, iI_mul, iI_neg, iI_ab3, iI_div, z_emod, aI_rd, aI_wr, aR0, aW0, aR1, aW1, aR2, aW2, aR3, aW3, aR4, aW4, iI_inT, iI_lt, iI_le, iI_eq, lt_t, lt_f, le_t, le_f, eq_t, eq_f, bz_z, bz_o, bz_zo, bzT, bzF, n_em, zu_s, zu_n, not_true_eq_false, not_false_eq_true, and_self, true_and, and_true, false_and, and_false, true_or, or_true, false_or, or_false, or_self, Int.add_sub_cancel, n_0, n_1, n_2, n_3, n_4, n_5, n_6, n_7, n_8, n_9, n_10, n_11, n_12, n_13, n_14, n_15, n_16, n_17, n_18, n_19, n_20, n_21, n_22, n_23, n_24, n_25, n_26, n_27, n_28, n_29, n_30, n_31, n_32, n_33, n_34, n_35, n_36, n_37, n_40, n_44, n_48, n_50, n_57, n_58, n_60, n_65, n_66, n_67, n_68, n_69, n_70, n_71, n_73, n_77, n_80, n_83, n_97, n_98, n_99, n_100, n_101, n_102, n_103, n_104, n_105, n_106, n_107, n_108, n_109, n_110, n_111, n_112, n_113, n_114, n_115, n_116, n_117, n_118, n_120, n_121, n_122, n_180, n_255, n_539, n_600, n_616, n_1200, n_2000, n_3600, n_8400, n_65536, p1, p3]
        · rw [← w2 K]
          conv => lhs; unfold f_X11_harshestBeat_L4
          simp (disch := omega) only [↓q_brd, ↓q_gdd, ↓q_lts, ↓reduceIte, ↓q_bds, ↓zq_smi, ↓zq_smr, iI_add, iI_sub, iI_mul, iI_neg, iI_ab3, iI_div, z_emod, aI_rd, aI_wr, aR0, aW0, aR1, aW1, aR2, aW2, aR3, aW3, aR4, aW4, iI_inT, iI_lt, iI_le, iI_eq, lt_t, lt_f, le_t, le_f, eq_t, eq_f, bz_z, bz_o, bz_zo, bzT, bzF, n_em, zu_s, zu_n, not_true_eq_false, not_false_eq_true, and_self, true_and, and_true, false_and, and_false, true_or, or_true, false_or, or_false, or_self, Int.add_sub_cancel, n_0, n_1, n_2, n_3, n_4, n_5, n_6, n_7, n_8, n_9, n_10, n_11, n_12, n_13, n_14, n_15, n_16, n_17, n_18, n_19, n_20, n_21, n_22, n_23, n_24, n_25, n_26, n_27, n_28, n_29, n_30, n_31, n_32, n_33, n_34, n_35, n_36, n_37, n_40, n_44, n_48, n_50, n_57, n_58, n_60, n_65, n_66, n_67, n_68, n_69, n_70, n_71, n_73, n_77, n_80, n_83, n_97, n_98, n_99, n_100, n_101, n_102, n_103, n_104, n_105, n_106, n_107, n_108, n_109, n_110, n_111, n_112, n_113, n_114, n_115, n_116, n_117, n_118, n_120, n_121, n_122, n_180, n_255, n_539, n_600, n_616, n_1200, n_2000, n_3600, n_8400, n_65536, q5]
      · obtain ⟨u1, u2, u3, u4, u5⟩ := z_beat hW (b := h) (by omega)
        obtain ⟨B2, x1, x2, x3, x4, x5⟩ := r5 B1 (iI (cN G i))
        obtain ⟨B3, y1, y2, y3, y4, y5⟩ := u5 B2 (iI (cN G i))
        by_cases c3 : cD G i ≤ cD G h
        · obtain ⟨h', A', s', B', t', w0, w1, w2⟩ := ih (i + 1) h A1 B3 (iI (cN G i)) (iI (cN G h)) fl fk (by omega) (by omega) (by omega) (by omega) h5
          rw [if_neg c2] at w1
          refine ⟨h', A', s', B', t', w0, fun K => ?_, fun K => ?_⟩
          · rw [← w1 K, if_neg c2]
            conv => lhs; unfold f_X10_harshestBeat_L6
            simp (disch := omega) only [↓q_brd, ↓q_gdd, ↓q_lts, ↓reduceIte, ↓q_bds, ↓zq_smi, ↓zq_smr, iI_add, iI_sub, iI_mul, iI_neg, iI_ab3, iI_div, z_emod, aI_rd, aI_wr, aR0, aW0, aR1, aW1, aR2, aW2, aR3, aW3, aR4, aW4, iI_inT, iI_lt, iI_le, iI_eq, lt_t, lt_f, le_t, le_f, eq_t, eq_f, bz_z, bz_o, bz_zo, bzT, bzF, n_em, zu_s, zu_n, not_true_eq_false, not_false_eq_true, and_self, true_and, and_true, false_and, and_false, true_or, or_true, false_or, or_false, or_self, Int.add_sub_cancel, n_0, n_1, n_2, n_3, n_4, n_5, n_6, n_7, n_8, n_9, n_10, n_11, n_12, n_13, n_14, n_15, n_16, n_17, n_18, n_19, n_20, n_21, n_22, n_23, n_24, n_25, n_26, n_27, n_28, n_29, n_30, n_31, n_32, n_33, n_34, n_35, n_36, n_37, n_40, n_44, n_48, n_50, n_57, n_58, n_60, n_65, n_66, n_67, n_68, n_69, n_70, n_71, n_73, n_77, n_80, n_83, n_97, n_98, n_99, n_100, n_101, n_102, n_103, n_104, n_105, n_106, n_107, n_108, n_109, n_110, n_111, n_112, n_113, n_114, n_115, n_116, n_117, n_118, n_120, n_121, n_122, n_180, n_255, n_539, n_600, n_616, n_1200, n_2000, n_3600, n_8400, n_65536, p1, p3]
          · rw [← w2 K]
            conv => lhs; unfold f_X11_harshestBeat_L4
            simp (disch := omega) only [↓q_brd, ↓q_gdd, ↓q_lts, ↓reduceIte, ↓q_bds, ↓zq_smi, ↓zq_smr, iI_add, iI_sub, iI_mul, iI_neg, iI_ab3, iI_div, z_emod, aI_rd, aI_wr, aR0, aW0, aR1, aW1, aR2, aW2, aR3, aW3, aR4, aW4, iI_inT, iI_lt, iI_le, iI_eq, lt_t, lt_f, le_t, le_f, eq_t, eq_f, bz_z, bz_o, bz_zo, bzT, bzF, n_em, zu_s, zu_n, not_true_eq_false, not_false_eq_true, and_self, true_and, and_true, false_and, and_false, true_or, or_true, false_or, or_false, or_self, Int.add_sub_cancel, n_0, n_1, n_2, n_3, n_4, n_5, n_6, n_7, n_8, n_9, n_10, n_11, n_12, n_13, n_14, n_15, n_16, n_17, n_18, n_19, n_20, n_21, n_22, n_23, n_24, n_25, n_26, n_27, n_28, n_29, n_30, n_31, n_32, n_33, n_34, n_35, n_36, n_37, n_40, n_44, n_48, n_50, n_57, n_58, n_60, n_65, n_66, n_67, n_68, n_69, n_70, n_71, n_73, n_77, n_80, n_83, n_97, n_98, n_99, n_100, n_101, n_102, n_103, n_104, n_105, n_106, n_107, n_108, n_109, n_110, n_111, n_112, n_113, n_114, n_115, n_116, n_117, n_118, n_120, n_121, n_122, n_180, n_255, n_539, n_600, n_616, n_1200, n_2000, n_3600, n_8400, n_65536, q5, x3, y3]
        · obtain ⟨h', A', s', B', t', w0, w1, w2⟩ := ih (i + 1) i A1 B3 (iI (cN G i)) (iI (cN G h)) fl fk (by omega) (by omega) (by omega) (by omega) (by omega)
          rw [if_neg (show ¬ i = -1 by omega)] at w1
          refine ⟨h', A', s', B', t', w0, fun K => ?_, fun K => ?_⟩
          · rw [← w1 K, if_neg c2]
            conv => lhs; unfold f_X10_harshestBeat_L6
            simp (disch := omega) only [↓q_brd, ↓q_gdd, ↓q_lts, ↓reduceIte, ↓q_bds, ↓zq_smi, ↓zq_smr, iI_add, iI_sub, iI_mul, iI_neg, iI_ab3, iI_div, z_emod, aI_rd, aI_wr, aR0, aW0, aR1, aW1, aR2, aW2, aR3, aW3, aR4, aW4, iI_inT, iI_lt, iI_le, iI_eq, lt_t, lt_f, le_t, le_f, eq_t, eq_f, bz_z, bz_o, bz_zo, bzT, bzF, n_em, zu_s, zu_n, not_true_eq_false, not_false_eq_true, and_self, true_and, and_true, false_and, and_false, true_or, or_true, false_or, or_false, or_self, Int.add_sub_cancel, n_0, n_1, n_2, n_3, n_4, n_5, n_6, n_7, n_8, n_9, n_10, n_11, n_12, n_13, n_14, n_15, n_16, n_17, n_18, n_19, n_20, n_21, n_22, n_23, n_24, n_25, n_26, n_27, n_28, n_29, n_30, n_31, n_32, n_33, n_34, n_35, n_36, n_37, n_40, n_44, n_48, n_50, n_57, n_58, n_60, n_65, n_66, n_67, n_68, n_69, n_70, n_71, n_73, n_77, n_80, n_83, n_97, n_98, n_99, n_100, n_101, n_102, n_103, n_104, n_105, n_106, n_107, n_108, n_109, n_110, n_111, n_112, n_113, n_114, n_115, n_116, n_117, n_118, n_120, n_121, n_122, n_180, n_255, n_539, n_600, n_616, n_1200, n_2000, n_3600, n_8400, n_65536, p1, p3]
          · rw [← w2 K]
            conv => lhs; unfold f_X11_harshestBeat_L4
            simp (disch := omega) only [↓q_brd, ↓q_gdd, ↓q_lts, ↓reduceIte, ↓q_bds, ↓zq_smi, ↓zq_smr, iI_add, iI_sub, iI_mul, iI_neg, iI_ab3, iI_div, z_emod, aI_rd, aI_wr, aR0, aW0, aR1, aW1, aR2, aW2, aR3, aW3, aR4, aW4, iI_inT, iI_lt, iI_le, iI_eq, lt_t, lt_f, le_t, le_f, eq_t, eq_f, bz_z, bz_o, bz_zo, bzT, bzF, n_em, zu_s, zu_n, not_true_eq_false, not_false_eq_true, and_self, true_and, and_true, false_and, and_false, true_or, or_true, false_or, or_false, or_self, Int.add_sub_cancel, n_0, n_1, n_2, n_3, n_4, n_5, n_6, n_7, n_8, n_9, n_10, n_11, n_12, n_13, n_14, n_15, n_16, n_17, n_18, n_19, n_20, n_21, n_22, n_23, n_24, n_25, n_26, n_27, n_28, n_29, n_30, n_31, n_32, n_33, n_34, n_35, n_36, n_37, n_40, n_44, n_48, n_50, n_57, n_58, n_60, n_65, n_66, n_67, n_68, n_69, n_70, n_71, n_73, n_77, n_80, n_83, n_97, n_98, n_99, n_100, n_101, n_102, n_103, n_104, n_105, n_106, n_107, n_108, n_109, n_110, n_111, n_112, n_113, n_114, n_115, n_116, n_117, n_118, n_120, n_121, n_122, n_180, n_255, n_539, n_600, n_616, n_1200, n_2000, n_3600, n_8400, n_65536, q5, x3, y3]
    · rw [bz_f c] at q5
      obtain ⟨h', A', s', B', t', w0, w1, w2⟩ := ih (i + 1) h A1 B1 (iI (cN G i)) (iI (cN G i)) fl fk (by omega) (by omega) (by omega) (by omega) h5
      refine ⟨h', A', s', B', t', w0, fun K => ?_, fun K => ?_⟩
      · rw [← w1 K]
        conv => lhs; unfold f_X10_harshestBeat_L6
        simp (disch := omega) only [↓q_brd, ↓q_gdd, ↓q_lts, ↓reduceIte, ↓q_bds, ↓zq_smi, ↓zq_smr, iI_add, iI_sub, iI_mul, iI_neg, iI_ab3, iI_div, z_emod, aI_rd, aI_wr, aR0, aW0, aR1, aW1, aR2, aW2, aR3, aW3, aR4, aW4, iI_inT, iI_lt, iI_le, iI_eq, lt_t, lt_f, le_t, le_f, eq_t, eq_f, bz_z, bz_o, bz_zo, bzT, bzF, n_em, zu_s, zu_n, not_true_eq_false, not_false_eq_true, and_self, true_and, and_true, false_and, and_false, true_or, or_true, false_or, or_false, or_self, Int.add_sub_cancel, n_0, n_1, n_2, n_3, n_4, n_5, n_6, n_7, n_8, n_9, n_10, n_11, n_12, n_13, n_14, n_15, n_16, n_17, n_18, n_19, n_20, n_21, n_22, n_23, n_24, n_25, n_26, n_27, n_28, n_29, n_30, n_31, n_32, n_33, n_34, n_35, n_36, n_37, n_40, n_44, n_48, n_50, n_57, n_58, n_60, n_65, n_66, n_67, n_68, n_69, n_70, n_71, n_73, n_77, n_80, n_83, n_97, n_98, n_99, n_100, n_101, n_102, n_103, n_104, n_105, n_106, n_107, n_108, n_109, n_110, n_111, n_112, n_113, n_114, n_115, n_116, n_117, n_118, n_120, n_121, n_122, n_180, n_255, n_539, n_600, n_616, n_1200, n_2000, n_3600, n_8400, n_65536, p1, p3]
      · rw [← w2 K]
        conv => lhs; unfold f_X11_harshestBeat_L4
        simp (disch := omega) only [↓q_brd, ↓q_gdd, ↓q_lts, ↓reduceIte, ↓q_bds, ↓zq_smi, ↓zq_smr, iI_add, iI_sub, iI_mul, iI_neg, iI_ab3, iI_div, z_emod, aI_rd, aI_wr, aR0, aW0, aR1, aW1, aR2, aW2, aR3, aW3, aR4, aW4, iI_inT, iI_lt, iI_le, iI_eq, lt_t, lt_f, le_t, le_f, eq_t, eq_f, bz_z, bz_o, bz_zo, bzT, bzF, n_em, zu_s, zu_n, not_true_eq_false, not_false_eq_true, and_self, true_and, and_true, false_and, and_false, true_or, or_true, false_or, or_false, or_self, Int.add_sub_cancel, n_0, n_1, n_2, n_3, n_4, n_5, n_6, n_7, n_8, n_9, n_10, n_11, n_12, n_13, n_14, n_15, n_16, n_17, n_18, n_19, n_20, n_21, n_22, n_23, n_24, n_25, n_26, n_27, n_28, n_29, n_30, n_31, n_32, n_33, n_34, n_35, n_36, n_37, n_40, n_44, n_48, n_50, n_57, n_58, n_60, n_65, n_66, n_67, n_68, n_69, n_70, n_71, n_73, n_77, n_80, n_83, n_97, n_98, n_99, n_100, n_101, n_102, n_103, n_104, n_105, n_106, n_107, n_108, n_109, n_110, n_111, n_112, n_113, n_114, n_115, n_116, n_117, n_118, n_120, n_121, n_122, n_180, n_255, n_539, n_600, n_616, n_1200, n_2000, n_3600, n_8400, n_65536, q5]
set_option maxHeartbeats 4000000 in
theorem lc_43 {IL : Line_t → (Nat → Int32) → Int32 → Prop} {x : VB_t} {y : Model_t} {z : Nat → Int64} {w : Nat → UInt64} {xs : Nat → Int32} {n : Nat} {i : Int} (hI : Inv IL x y) (hi : 0 ≤ i ∧ i + 2 < n ∧ n ≤ 10000) : ∃ x2 y2 z2 w2, f_c43 x y z w xs n (iI i) = some (x2, y2, z2, w2) ∧ Inv IL x2 y2 := by
  obtain ⟨⟨G, v1, ⟨H, P, L, E, T, D, S, hV, hB, hM, hC⟩, v3⟩, i2, i3, i4, i5, i6, i7⟩ := hI
  obtain ⟨g0, g1, g2, g3, g4, hb, hm, hc⟩ := id v3
  have hW := VW_of hB hM hC v3
  obtain ⟨A, hA⟩ : ∃ A, x.1.2.2.2.2.1 = aI A := ⟨_, aI_of _⟩
  obtain ⟨B, hBm⟩ : ∃ B, y.2.2.1.2.2.1 = aI B := ⟨_, aI_of _⟩
  obtain ⟨l, A1, s1, B1, s2, hl, w1, w2⟩ := z_harsh_L hW 31 0 (-1) A B x.1.2.2.2.2.2.2 y.2.2.1.2.2.2 2000 2000 (by omega) (by omega) (by omega) (by omega) (by omega)
  rw [if_pos rfl] at w1
  unfold f_c43 f_case43 f_L_harshestBeat f_X10_harshestBeat f_X10_requireSound f_X11_harshestBeat f_X11_thrown
  rw [v1, hV, hA, hBm]
  by_cases c : l = -1
  · simp (disch := omega) only [↓q_brd, ↓q_gdd, ↓q_lts, ↓reduceIte, ↓q_bds, ↓zq_smi, ↓zq_smr, iI_add, iI_sub, iI_mul, iI_neg, iI_ab3, iI_div, z_emod, aI_rd, aI_wr, aR0, aW0, aR1, aW1, aR2, aW2, aR3, aW3, aR4, aW4, iI_inT, iI_lt, iI_le, iI_eq, lt_t, lt_f, le_t, le_f, eq_t, eq_f, bz_z, bz_o, bz_zo, bzT, bzF, n_em, zu_s, zu_n, not_true_eq_false, not_false_eq_true, and_self, true_and, and_true, false_and, and_false, true_or, or_true, false_or, or_false, or_self, Int.add_sub_cancel, n_0, n_1, n_2, n_3, n_4, n_5, n_6, n_7, n_8, n_9, n_10, n_11, n_12, n_13, n_14, n_15, n_16, n_17, n_18, n_19, n_20, n_21, n_22, n_23, n_24, n_25, n_26, n_27, n_28, n_29, n_30, n_31, n_32, n_33, n_34, n_35, n_36, n_37, n_40, n_44, n_48, n_50, n_57, n_58, n_60, n_65, n_66, n_67, n_68, n_69, n_70, n_71, n_73, n_77, n_80, n_83, n_97, n_98, n_99, n_100, n_101, n_102, n_103, n_104, n_105, n_106, n_107, n_108, n_109, n_110, n_111, n_112, n_113, n_114, n_115, n_116, n_117, n_118, n_120, n_121, n_122, n_180, n_255, n_539, n_600, n_616, n_1200, n_2000, n_3600, n_8400, n_65536, w1, w2, c, f_X11_fails, f_X11_done, lg_self, updL0, xq_nn]
    exact ⟨_, _, _, _, rfl, ⟨G, rfl, ⟨H, P, L, E, T, D, S, (by first | rfl | exact hV), hB, hM, hC⟩, v3⟩, i2, i3, i4, i5, i6, i7⟩
  · simp (disch := omega) only [↓q_brd, ↓q_gdd, ↓q_lts, ↓reduceIte, ↓q_bds, ↓zq_smi, ↓zq_smr, iI_add, iI_sub, iI_mul, iI_neg, iI_ab3, iI_div, z_emod, aI_rd, aI_wr, aR0, aW0, aR1, aW1, aR2, aW2, aR3, aW3, aR4, aW4, iI_inT, iI_lt, iI_le, iI_eq, lt_t, lt_f, le_t, le_f, eq_t, eq_f, bz_z, bz_o, bz_zo, bzT, bzF, n_em, zu_s, zu_n, not_true_eq_false, not_false_eq_true, and_self, true_and, and_true, false_and, and_false, true_or, or_true, false_or, or_false, or_self, Int.add_sub_cancel, n_0, n_1, n_2, n_3, n_4, n_5, n_6, n_7, n_8, n_9, n_10, n_11, n_12, n_13, n_14, n_15, n_16, n_17, n_18, n_19, n_20, n_21, n_22, n_23, n_24, n_25, n_26, n_27, n_28, n_29, n_30, n_31, n_32, n_33, n_34, n_35, n_36, n_37, n_40, n_44, n_48, n_50, n_57, n_58, n_60, n_65, n_66, n_67, n_68, n_69, n_70, n_71, n_73, n_77, n_80, n_83, n_97, n_98, n_99, n_100, n_101, n_102, n_103, n_104, n_105, n_106, n_107, n_108, n_109, n_110, n_111, n_112, n_113, n_114, n_115, n_116, n_117, n_118, n_120, n_121, n_122, n_180, n_255, n_539, n_600, n_616, n_1200, n_2000, n_3600, n_8400, n_65536, w1, w2, f_X11_fails, f_X11_done, lg_self, updL0, xq_nn]
    exact ⟨_, _, _, _, rfl, ⟨G, rfl, ⟨H, P, L, E, T, D, S, (by first | rfl | exact hV), hB, hM, hC⟩, v3⟩, i2, i3, i4, i5, i6, i7⟩
theorem z_use_in {G P L E T D S : Int → Int} (hW : VW G P L E T D S) {h : Int} (hh : 0 ≤ h ∧ h ≤ 3) (K : Unit → Option Int32) (d : Nat) : ∀ (i : Int) (fuel : Nat), 0 ≤ i → i + d = G (33 + h) → d < fuel →
    f_X7_useOnly_L9 (aI L) (aI T) (iI (G 0)) (iI h) K fuel (iI i) = K () := by
  obtain ⟨w0, w1, w2, w3, w4⟩ := id hW
  obtain ⟨m1, m2, m3, m4, m5⟩ := w3 h hh.1 hh.2
  induction d with
  | zero =>
    intro i fuel h1 h2 h3
    obtain ⟨fl, rfl⟩ : ∃ fl, fuel = fl + 1 := ⟨fuel - 1, by omega⟩
    unfold f_X7_useOnly_L9
    simp (disch := omega) only [↓q_brd, ↓q_gdd, ↓q_lts, ↓reduceIte, ↓q_bds, ↓zq_smi, ↓zq_smr, iI_add, iI_sub, iI_mul, iI_neg, iI_ab3, iI_div, z_emod, aI_rd, aI_wr, aR0, aW0, aR1, aW1, aR2, aW2, aR3, aW3, aR4, aW4, iI_inT, iI_lt, iI_le, iI_eq, lt_t, lt_f, le_t, le_f, eq_t, eq_f, bz_z, bz_o, bz_zo, bzT, bzF, n_em, zu_s, zu_n, not_true_eq_false, not_false_eq_true, and_self, true_and, and_true, false_and, and_false, true_or, or_true, false_or, or_false, or_self, Int.add_sub_cancel, n_0, n_1, n_2, n_3, n_4, n_5, n_6, n_7, n_8, n_9, n_10, n_11, n_12, n_13, n_14, n_15, n_16, n_17, n_18, n_19, n_20, n_21, n_22, n_23, n_24, n_25, n_26, n_27, n_28, n_29, n_30, n_31, n_32, n_33, n_34, n_35, n_36, n_37, n_40, n_44, n_48, n_50, n_57, n_58, n_60, n_65, n_66, n_67, n_68, n_69, n_70, n_71, n_73, n_77, n_80, n_83, n_97, n_98, n_99, n_100, n_101, n_102, n_103, n_104, n_105, n_106, n_107, n_108, n_109, n_110, n_111, n_112, n_113, n_114, n_115, n_116, n_117, n_118, n_120, n_121, n_122, n_180, n_255, n_539, n_600, n_616, n_1200, n_2000, n_3600, n_8400, n_65536, m1]
  | succ d ih =>
    intro i fuel h1 h2 h3
    obtain ⟨fl, rfl⟩ : ∃ fl, fuel = fl + 1 := ⟨fuel - 1, by omega⟩
    obtain ⟨x1, x2⟩ := m5 i h1 (by omega)
    have w := ih (i + 1) fl (by omega) (by omega) (by omega)
    unfold f_X7_useOnly_L9 f_X7_bellOf
    simp (disch := omega) only [↓q_brd, ↓q_gdd, ↓q_lts, ↓reduceIte, ↓q_bds, ↓zq_smi, ↓zq_smr, iI_add, iI_sub, iI_mul, iI_neg, iI_ab3, iI_div, z_emod, aI_rd, aI_wr, aR0, aW0, aR1, aW1, aR2, aW2, aR3, aW3, aR4, aW4, iI_inT, iI_lt, iI_le, iI_eq, lt_t, lt_f, le_t, le_f, eq_t, eq_f, bz_z, bz_o, bz_zo, bzT, bzF, n_em, zu_s, zu_n, not_true_eq_false, not_false_eq_true, and_self, true_and, and_true, false_and, and_false, true_or, or_true, false_or, or_false, or_self, Int.add_sub_cancel, n_0, n_1, n_2, n_3, n_4, n_5, n_6, n_7, n_8, n_9, n_10, n_11, n_12, n_13, n_14, n_15, n_16, n_17, n_18, n_19, n_20, n_21, n_22, n_23, n_24, n_25, n_26, n_27, n_28, n_29, n_30, n_31, n_32, n_33, n_34, n_35, n_36, n_37, n_40, n_44, n_48, n_50, n_57, n_58, n_60, n_65, n_66, n_67, n_68, n_69, n_70, n_71, n_73, n_77, n_80, n_83, n_97, n_98, n_99, n_100, n_101, n_102, n_103, n_104, n_105, n_106, n_107, n_108, n_109, n_110, n_111, n_112, n_113, n_114, n_115, n_116, n_117, n_118, n_120, n_121, n_122, n_180, n_255, n_539, n_600, n_616, n_1200, n_2000, n_3600, n_8400, n_65536, m1, x1, z_has, w]
theorem z_use_L {G P L E T D S : Int → Int} (hW : VW G P L E T D S) (d : Nat) : ∀ (i : Int) (fuel : Nat), 0 ≤ i → i + d = 4 → d < fuel →
    f_X7_useOnly_L2 (aI L) (aI T) (iI (G 0)) fuel (iI i) = some (iI 1) := by
  induction d with
  | zero =>
    intro i fuel h1 h2 h3
    obtain ⟨fl, rfl⟩ : ∃ fl, fuel = fl + 1 := ⟨fuel - 1, by omega⟩
    unfold f_X7_useOnly_L2
    simp (disch := omega) only [↓q_brd, ↓q_gdd, ↓q_lts, ↓reduceIte, ↓q_bds, ↓zq_smi, ↓zq_smr, iI_add, iI_sub, iI_mul, iI_neg, iI_ab3, iI_div, z_emod, aI_rd, aI_wr, aR0, aW0, aR1, aW1, aR2, aW2, aR3, aW3, aR4, aW4, iI_inT, iI_lt, iI_le, iI_eq, lt_t, lt_f, le_t, le_f, eq_t, eq_f, bz_z, bz_o, bz_zo, bzT, bzF, n_em, zu_s, zu_n, not_true_eq_false, not_false_eq_true, and_self, true_and, and_true, false_and, and_false, true_or, or_true, false_or, or_false, or_self, Int.add_sub_cancel, n_0, n_1, n_2, n_3, n_4, n_5, n_6, n_7, n_8, n_9, n_10, n_11, n_12, n_13, n_14, n_15, n_16, n_17, n_18, n_19, n_20, n_21, n_22, n_23, n_24, n_25, n_26, n_27, n_28, n_29, n_30, n_31, n_32, n_33, n_34, n_35, n_36, n_37, n_40, n_44, n_48, n_50, n_57, n_58, n_60, n_65, n_66, n_67, n_68, n_69, n_70, n_71, n_73, n_77, n_80, n_83, n_97, n_98, n_99, n_100, n_101, n_102, n_103, n_104, n_105, n_106, n_107, n_108, n_109, n_110, n_111, n_112, n_113, n_114, n_115, n_116, n_117, n_118, n_120, n_121, n_122, n_180, n_255, n_539, n_600, n_616, n_1200, n_2000, n_3600, n_8400, n_65536]
  | succ d ih =>
    intro i fuel h1 h2 h3
    obtain ⟨fl, rfl⟩ : ∃ fl, fuel = fl + 1 := ⟨fuel - 1, by omega⟩
    obtain ⟨m1, m2, m3, m4, m5⟩ := hW.2.2.2.1 i h1 (by omega)
    have w := ih (i + 1) fl (by omega) (by omega) (by omega)
    have w2 := fun K => z_use_in hW (h := i) ⟨h1, by omega⟩ K (G (33 + i)).toNat 0 2000 (by omega) (by omega) (by omega)
    unfold f_X7_useOnly_L2
    simp (disch := omega) only [↓q_brd, ↓q_gdd, ↓q_lts, ↓reduceIte, ↓q_bds, ↓zq_smi, ↓zq_smr, iI_add, iI_sub, iI_mul, iI_neg, iI_ab3, iI_div, z_emod, aI_rd, aI_wr, aR0, aW0, aR1, aW1, aR2, aW2, aR3, aW3, aR4, aW4, iI_inT, iI_lt, iI_le, iI_eq, lt_t, lt_f, le_t, le_f, eq_t, eq_f, bz_z, bz_o, bz_zo, bzT, bzF, n_em, zu_s, zu_n, not_true_eq_false, not_false_eq_true, and_self, true_and, and_true, false_and, and_false, true_or, or_true, false_or, or_false, or_self, Int.add_sub_cancel, n_0, n_1, n_2, n_3, n_4, n_5, n_6, n_7, n_8, n_9, n_10, n_11, n_12, n_13, n_14, n_15, n_16, n_17, n_18, n_19, n_20, n_21, n_22, n_23, n_24, n_25, n_26, n_27, n_28, n_29, n_30, n_31, n_32, n_33, n_34, n_35, n_36, n_37, n_40, n_44, n_48, n_50, n_57, n_58, n_60, n_65, n_66, n_67, n_68, n_69, n_70, n_71, n_73, n_77, n_80, n_83, n_97, n_98, n_99, n_100, n_101, n_102, n_103, n_104, n_105, n_106, n_107, n_108, n_109, n_110, n_111, n_112, n_113, n_114, n_115, n_116, n_117, n_118, n_120, n_121, n_122, n_180, n_255, n_539, n_600, n_616, n_1200, n_2000, n_3600, n_8400, n_65536, w2, w]
theorem z_cag_L {G P : Int → Int} (hG : VOk G) (hP : ∀ k, 0 ≤ k → k < G 0 → P k = G (17 + k)) (d : Nat) : ∀ (i : Int) (fuel : Nat), 0 ≤ i → i + d = G 0 → d < fuel →
    f_X10_centsAgree_L2 (iI (G 2)) (iI (G 3)) (aI P) (iI (G 0)) fuel (iI i) = some (iI 1) := by
  have g0 := hG.1
  induction d with
  | zero =>
    intro i fuel h1 h2 h3
    obtain ⟨fl, rfl⟩ : ∃ fl, fuel = fl + 1 := ⟨fuel - 1, by omega⟩
    unfold f_X10_centsAgree_L2
    simp (disch := omega) only [↓q_brd, ↓q_gdd, ↓q_lts, ↓reduceIte, ↓q_bds, ↓zq_smi, ↓zq_smr, iI_add, iI_sub, iI_mul, iI_neg, iI_ab3, iI_div, z_emod, aI_rd, aI_wr, aR0, aW0, aR1, aW1, aR2, aW2, aR3, aW3, aR4, aW4, iI_inT, iI_lt, iI_le, iI_eq, lt_t, lt_f, le_t, le_f, eq_t, eq_f, bz_z, bz_o, bz_zo, bzT, bzF, n_em, zu_s, zu_n, not_true_eq_false, not_false_eq_true, and_self, true_and, and_true, false_and, and_false, true_or, or_true, false_or, or_false, or_self, Int.add_sub_cancel, n_0, n_1, n_2, n_3, n_4, n_5, n_6, n_7, n_8, n_9, n_10, n_11, n_12, n_13, n_14, n_15, n_16, n_17, n_18, n_19, n_20, n_21, n_22, n_23, n_24, n_25, n_26, n_27, n_28, n_29, n_30, n_31, n_32, n_33, n_34, n_35, n_36, n_37, n_40, n_44, n_48, n_50, n_57, n_58, n_60, n_65, n_66, n_67, n_68, n_69, n_70, n_71, n_73, n_77, n_80, n_83, n_97, n_98, n_99, n_100, n_101, n_102, n_103, n_104, n_105, n_106, n_107, n_108, n_109, n_110, n_111, n_112, n_113, n_114, n_115, n_116, n_117, n_118, n_120, n_121, n_122, n_180, n_255, n_539, n_600, n_616, n_1200, n_2000, n_3600, n_8400, n_65536]
  | succ d ih =>
    intro i fuel h1 h2 h3
    obtain ⟨fl, rfl⟩ : ∃ fl, fuel = fl + 1 := ⟨fuel - 1, by omega⟩
    obtain ⟨r, r1, r2, r3, r4⟩ := z_cents hG (b := i) (by omega)
    have e := hP i h1 (by omega)
    have w := ih (i + 1) fl (by omega) (by omega) (by omega)
    unfold f_X10_centsAgree_L2
    simp (disch := omega) only [↓q_brd, ↓q_gdd, ↓q_lts, ↓reduceIte, ↓q_bds, ↓zq_smi, ↓zq_smr, iI_add, iI_sub, iI_mul, iI_neg, iI_ab3, iI_div, z_emod, aI_rd, aI_wr, aR0, aW0, aR1, aW1, aR2, aW2, aR3, aW3, aR4, aW4, iI_inT, iI_lt, iI_le, iI_eq, lt_t, lt_f, le_t, le_f, eq_t, eq_f, bz_z, bz_o, bz_zo, bzT, bzF, n_em, zu_s, zu_n, not_true_eq_false, not_false_eq_true, and_self, true_and, and_true, false_and, and_false, true_or, or_true, false_or, or_false, or_self, Int.add_sub_cancel, n_0, n_1, n_2, n_3, n_4, n_5, n_6, n_7, n_8, n_9, n_10, n_11, n_12, n_13, n_14, n_15, n_16, n_17, n_18, n_19, n_20, n_21, n_22, n_23, n_24, n_25, n_26, n_27, n_28, n_29, n_30, n_31, n_32, n_33, n_34, n_35, n_36, n_37, n_40, n_44, n_48, n_50, n_57, n_58, n_60, n_65, n_66, n_67, n_68, n_69, n_70, n_71, n_73, n_77, n_80, n_83, n_97, n_98, n_99, n_100, n_101, n_102, n_103, n_104, n_105, n_106, n_107, n_108, n_109, n_110, n_111, n_112, n_113, n_114, n_115, n_116, n_117, n_118, n_120, n_121, n_122, n_180, n_255, n_539, n_600, n_616, n_1200, n_2000, n_3600, n_8400, n_65536, e, r2, r3, w]
theorem z_dag_L {G P L E T D S : Int → Int} (hW : VW G P L E T D S) (d : Nat) : ∀ (i : Int) (A : Int → Int) (F : Nat → Int32) (s : Int32) (fuel : Nat), 0 ≤ i → i + d = 31 → d < fuel →
    ∃ A' F' s', f_X10_dissonancesAgree_L2 (aI P) (iI (G 0)) (aI L) (aI E) (aI T) (aI D) (aI S) (iI (G 1)) fuel (iI i) (aI A) F s = some (iI 1, A', F', s') := by
  induction d with
  | zero =>
    intro i A F s fuel h1 h2 h3
    obtain ⟨fl, rfl⟩ : ∃ fl, fuel = fl + 1 := ⟨fuel - 1, by omega⟩
    refine ⟨aI A, F, s, ?_⟩
    unfold f_X10_dissonancesAgree_L2
    simp (disch := omega) only [↓q_brd, ↓q_gdd, ↓q_lts, ↓reduceIte, ↓q_bds, ↓zq_smi, ↓zq_smr, iI_add, iI_sub, iI_mul, iI_neg, iI_ab3, iI_div, z_emod, aI_rd, aI_wr, aR0, aW0, aR1, aW1, aR2, aW2, aR3, aW3, aR4, aW4, iI_inT, iI_lt, iI_le, iI_eq, lt_t, lt_f, le_t, le_f, eq_t, eq_f, bz_z, bz_o, bz_zo, bzT, bzF, n_em, zu_s, zu_n, not_true_eq_false, not_false_eq_true, and_self, true_and, and_true, false_and, and_false, true_or, or_true, false_or, or_false, or_self, Int.add_sub_cancel, n_0, n_1, n_2, n_3, n_4, n_5, n_6, n_7, n_8, n_9, n_10, n_11, n_12, n_13, n_14, n_15, n_16, n_17, n_18, n_19, n_20, n_21, n_22, n_23, n_24, n_25, n_26, n_27, n_28, n_29, n_30, n_31, n_32, n_33, n_34, n_35, n_36, n_37, n_40, n_44, n_48, n_50, n_57, n_58, n_60, n_65, n_66, n_67, n_68, n_69, n_70, n_71, n_73, n_77, n_80, n_83, n_97, n_98, n_99, n_100, n_101, n_102, n_103, n_104, n_105, n_106, n_107, n_108, n_109, n_110, n_111, n_112, n_113, n_114, n_115, n_116, n_117, n_118, n_120, n_121, n_122, n_180, n_255, n_539, n_600, n_616, n_1200, n_2000, n_3600, n_8400, n_65536]
  | succ d ih =>
    intro i A F s fuel h1 h2 h3
    obtain ⟨fl, rfl⟩ : ∃ fl, fuel = fl + 1 := ⟨fuel - 1, by omega⟩
    obtain ⟨r1, r2, r3, r4, r5⟩ := z_beat hW (b := i) (by omega)
    obtain ⟨A1, p1, p2, p3, p4, p5⟩ := r4 A s
    obtain ⟨F1, p6⟩ := p4 F
    obtain ⟨A', F', s', w⟩ := ih (i + 1) A1 F1 (iI (cN G i)) fl (by omega) (by omega) (by omega)
    refine ⟨A', F', s', ?_⟩
    rw [← w]
    conv => lhs; unfold f_X10_dissonancesAgree_L2
    simp (disch := omega) only [↓q_brd, ↓q_gdd, ↓q_lts, ↓reduceIte, ↓q_bds, ↓zq_smi, ↓zq_smr, iI_add, iI_sub, iI_mul, iI_neg, iI_ab3, iI_div, z_emod, aI_rd, aI_wr, aR0, aW0, aR1, aW1, aR2, aW2, aR3, aW3, aR4, aW4, iI_inT, iI_lt, iI_le, iI_eq, lt_t, lt_f, le_t, le_f, eq_t, eq_f, bz_z, bz_o, bz_zo, bzT, bzF, n_em, zu_s, zu_n, not_true_eq_false, not_false_eq_true, and_self, true_and, and_true, false_and, and_false, true_or, or_true, false_or, or_false, or_self, Int.add_sub_cancel, n_0, n_1, n_2, n_3, n_4, n_5, n_6, n_7, n_8, n_9, n_10, n_11, n_12, n_13, n_14, n_15, n_16, n_17, n_18, n_19, n_20, n_21, n_22, n_23, n_24, n_25, n_26, n_27, n_28, n_29, n_30, n_31, n_32, n_33, n_34, n_35, n_36, n_37, n_40, n_44, n_48, n_50, n_57, n_58, n_60, n_65, n_66, n_67, n_68, n_69, n_70, n_71, n_73, n_77, n_80, n_83, n_97, n_98, n_99, n_100, n_101, n_102, n_103, n_104, n_105, n_106, n_107, n_108, n_109, n_110, n_111, n_112, n_113, n_114, n_115, n_116, n_117, n_118, n_120, n_121, n_122, n_180, n_255, n_539, n_600, n_616, n_1200, n_2000, n_3600, n_8400, n_65536, p1, p3, p6]
set_option maxHeartbeats 4000000 in
theorem lc_44 {IL : Line_t → (Nat → Int32) → Int32 → Prop} {x : VB_t} {y : Model_t} {z : Nat → Int64} {w : Nat → UInt64} {xs : Nat → Int32} {n : Nat} {i : Int} (hI : Inv IL x y) (hi : 0 ≤ i ∧ i + 2 < n ∧ n ≤ 10000) : ∃ x2 y2 z2 w2, f_c44 x y z w xs n (iI i) = some (x2, y2, z2, w2) ∧ Inv IL x2 y2 := by
  obtain ⟨⟨G, v1, ⟨H, P, L, E, T, D, S, hV, hB, hM, hC⟩, v3⟩, i2, i3, i4, i5, i6, i7⟩ := hI
  obtain ⟨g0, g1, g2, g3, g4, hb, hm, hc⟩ := id v3
  have hW := VW_of hB hM hC v3
  obtain ⟨A, hA⟩ : ∃ A, x.1.2.2.2.2.1 = aI A := ⟨_, aI_of _⟩
  obtain ⟨B, hBm⟩ : ∃ B, y.2.2.1.2.2.1 = aI B := ⟨_, aI_of _⟩
  have w1 := z_use_L hW 4 0 2000 (by omega) (by omega) (by omega)
  have w2 := z_cag_L v3 (fun k k0 k1 => (hB k k0 k1).2) (G 0).toNat 0 2000 (by omega) (by omega) (by omega)
  obtain ⟨A', F', s', w3⟩ := z_dag_L hW 31 0 A x.1.2.2.2.2.2.1 x.1.2.2.2.2.2.2 2000 (by omega) (by omega) (by omega)
  unfold f_c44 f_case44 f_X10_isConsistent f_X7_useOnly f_X10_centsAgree f_X10_dissonancesAgree f_X11_isConsistent
  rw [v1, hV, hA]
  simp (disch := omega) only [↓q_brd, ↓q_gdd, ↓q_lts, ↓reduceIte, ↓q_bds, ↓zq_smi, ↓zq_smr, iI_add, iI_sub, iI_mul, iI_neg, iI_ab3, iI_div, z_emod, aI_rd, aI_wr, aR0, aW0, aR1, aW1, aR2, aW2, aR3, aW3, aR4, aW4, iI_inT, iI_lt, iI_le, iI_eq, lt_t, lt_f, le_t, le_f, eq_t, eq_f, bz_z, bz_o, bz_zo, bzT, bzF, n_em, zu_s, zu_n, not_true_eq_false, not_false_eq_true, and_self, true_and, and_true, false_and, and_false, true_or, or_true, false_or, or_false, or_self, Int.add_sub_cancel, n_0, n_1, n_2, n_3, n_4, n_5, n_6, n_7, n_8, n_9, n_10, n_11, n_12, n_13, n_14, n_15, n_16, n_17, n_18, n_19, n_20, n_21, n_22, n_23, n_24, n_25, n_26, n_27, n_28, n_29, n_30, n_31, n_32, n_33, n_34, n_35, n_36, n_37, n_40, n_44, n_48, n_50, n_57, n_58, n_60, n_65, n_66, n_67, n_68, n_69, n_70, n_71, n_73, n_77, n_80, n_83, n_97, n_98, n_99, n_100, n_101, n_102, n_103, n_104, n_105, n_106, n_107, n_108, n_109, n_110, n_111, n_112, n_113, n_114, n_115, n_116, n_117, n_118, n_120, n_121, n_122, n_180, n_255, n_539, n_600, n_616, n_1200, n_2000, n_3600, n_8400, n_65536, w1, w2, w3, show (iI 1 = iI 0) = False from by decide]
  exact ⟨_, _, _, _, rfl, ⟨G, rfl, ⟨H, P, L, E, T, D, S, (by first | rfl | exact hV), hB, hM, hC⟩, v3⟩, i2, i3, i4, i5, i6, i7⟩
