theorem z_begin2 {G B : Int → Int} : f_X11_begin (aI G) (aI B) = some (aI (bfr G B)) := z_begin
theorem q_in1 {α : Type} {n : Nat} {i j : Int} {dc : Decidable (q_in (iI i + iI j) n)} (h : 0 ≤ i ∧ 0 ≤ j ∧ i + j < n ∧ n ≤ 10000) (k : Option α) : @q_gd α (q_in (iI i + iI j) n) dc k = k := by
  refine if_pos ?_
  rw [iI_add]
  exact iI_in (by omega)
theorem xq1_xq1 : ("java/lang/IndexOutOfBoundsException" = "java/lang/IndexOutOfBoundsException") = True := by decide
theorem xq1_xq2 : ("java/lang/IndexOutOfBoundsException" = "java/lang/IllegalArgumentException") = False := by decide
theorem xq1_xq3 : ("java/lang/IndexOutOfBoundsException" = "java/lang/IllegalStateException") = False := by decide
theorem xq2_xq1 : ("java/lang/IllegalArgumentException" = "java/lang/IndexOutOfBoundsException") = False := by decide
theorem xq2_xq2 : ("java/lang/IllegalArgumentException" = "java/lang/IllegalArgumentException") = True := by decide
theorem xq2_xq3 : ("java/lang/IllegalArgumentException" = "java/lang/IllegalStateException") = False := by decide
theorem xq3_xq1 : ("java/lang/IllegalStateException" = "java/lang/IndexOutOfBoundsException") = False := by decide
theorem xq3_xq2 : ("java/lang/IllegalStateException" = "java/lang/IllegalArgumentException") = False := by decide
theorem xq3_xq3 : ("java/lang/IllegalStateException" = "java/lang/IllegalStateException") = True := by decide
set_option maxHeartbeats 4000000 in
theorem lc_0 {IL : Line_t → (Nat → Int32) → Int32 → Prop} {x : VB_t} {y : Model_t} {z : Nat → Int64} {w : Nat → UInt64} {xs : Nat → Int32} {n : Nat} {i : Int} (hI : Inv IL x y) (hi : 0 ≤ i ∧ i + 2 < n ∧ n ≤ 10000) : ∃ x2 y2 z2, f_c0 x y z w xs n (iI i) = some (x2, y2, z2, w) ∧ Inv IL x2 y2 := by
  obtain ⟨⟨G, v1, v2, v3⟩, ⟨h, ch, u1, u2, u3⟩, i3, i4, i5, i6, i7⟩ := hI
  obtain ⟨B, hBe⟩ : ∃ B, y.1.2.1 = aI B := ⟨_, aI_of _⟩
  have ra := iI_rng (xs (iI i + 1).toNatClampNeg)
  have ea := iI_of (xs (iI i + 1).toNatClampNeg)
  have rb := iI_rng (xs (iI i + 2).toNatClampNeg)
  have eb := iI_of (xs (iI i + 2).toNatClampNeg)
  generalize (xs (iI i + 1).toNatClampNeg).toInt = a at ra ea
  rw [show (1 : Int32) = iI 1 from rfl, iI_add] at ea
  generalize (xs (iI i + 2).toNatClampNeg).toInt = b at rb eb
  rw [show (2 : Int32) = iI 2 from rfl, iI_add] at eb
  obtain ⟨res, V2, hs2, G2, h2, c2, r2, thr, w1, ⟨r3, G3, w2, w3⟩, w4, w5, w6, w7⟩ := z_change (B := B) (op_0 v2 v3 (a := a) (b := b) ⟨ra, rb⟩) v2 v3 u3
  have w2a : ∀ th, f_X11_adds _ th _ _ = _ := w2
  unfold f_c0 f_case0 f_L_addBell f_X10_addBell f_X11_addBell f_X11_thrown
  rw [v1, u1, u2, hBe]
  rcases w7 with ⟨t1, t2, t3⟩ | ⟨code, t1, t2⟩
  · subst t1 t2
    simp (disch := omega) only [↓q_brd, ↓q_gdd, ↓q_lts, ↓reduceIte, ↓q_bds, ↓zq_smi, ↓zq_smr, iI_add, iI_sub, iI_mul, iI_neg, iI_ab3, iI_div, z_emod, aI_rd, aI_wr, aR0, aW0, aR1, aW1, aR2, aW2, aR3, aW3, aR4, aW4, iI_inT, iI_lt, iI_le, iI_eq, lt_t, lt_f, le_t, le_f, eq_t, eq_f, bz_z, bz_o, bz_zo, bzT, bzF, n_em, zu_s, zu_n, not_true_eq_false, not_false_eq_true, and_self, true_and, and_true, false_and, and_false, true_or, or_true, false_or, or_false, or_self, Int.add_sub_cancel, n_0, n_1, n_2, n_3, n_4, n_5, n_6, n_7, n_8, n_9, n_10, n_11, n_12, n_13, n_14, n_15, n_16, n_17, n_18, n_19, n_20, n_21, n_22, n_23, n_24, n_25, n_26, n_27, n_28, n_29, n_30, n_31, n_32, n_33, n_34, n_35, n_36, n_37, n_40, n_44, n_48, n_50, n_57, n_58, n_60, n_65, n_66, n_67, n_68, n_69, n_70, n_71, n_73, n_77, n_80, n_83, n_97, n_98, n_99, n_100, n_101, n_102, n_103, n_104, n_105, n_106, n_107, n_108, n_109, n_110, n_111, n_112, n_113, n_114, n_115, n_116, n_117, n_118, n_120, n_121, n_122, n_180, n_255, n_539, n_600, n_616, n_1200, n_2000, n_3600, n_8400, n_65536, ea, eb, w1, z_begin2, w2a, w3, lg_self, updL0, xq1_xq1, xq1_xq2, xq1_xq3, xq2_xq1, xq2_xq2, xq2_xq3, xq3_xq1, xq3_xq2, xq3_xq3]
    exact ⟨_, _, _, rfl, ⟨_, rfl, w4, w5⟩, ⟨_, _, rfl, rfl, w6⟩, i3, i4, i5, i6, i7⟩
  · simp only [fc, List.mem_cons, Prod.mk.injEq, List.not_mem_nil, or_false] at t1
    rcases t1 with ⟨t1, t3⟩ | ⟨t1, t3⟩ | ⟨t1, t3⟩
    · subst t1 t3 t2
      unfold exn at w1
      simp (disch := omega) only [eq_t, eq_f, ↓reduceIte] at w1
      simp (disch := omega) only [↓q_brd, ↓q_gdd, ↓q_lts, ↓reduceIte, ↓q_bds, ↓zq_smi, ↓zq_smr, iI_add, iI_sub, iI_mul, iI_neg, iI_ab3, iI_div, z_emod, aI_rd, aI_wr, aR0, aW0, aR1, aW1, aR2, aW2, aR3, aW3, aR4, aW4, iI_inT, iI_lt, iI_le, iI_eq, lt_t, lt_f, le_t, le_f, eq_t, eq_f, bz_z, bz_o, bz_zo, bzT, bzF, n_em, zu_s, zu_n, not_true_eq_false, not_false_eq_true, and_self, true_and, and_true, false_and, and_false, true_or, or_true, false_or, or_false, or_self, Int.add_sub_cancel, n_0, n_1, n_2, n_3, n_4, n_5, n_6, n_7, n_8, n_9, n_10, n_11, n_12, n_13, n_14, n_15, n_16, n_17, n_18, n_19, n_20, n_21, n_22, n_23, n_24, n_25, n_26, n_27, n_28, n_29, n_30, n_31, n_32, n_33, n_34, n_35, n_36, n_37, n_40, n_44, n_48, n_50, n_57, n_58, n_60, n_65, n_66, n_67, n_68, n_69, n_70, n_71, n_73, n_77, n_80, n_83, n_97, n_98, n_99, n_100, n_101, n_102, n_103, n_104, n_105, n_106, n_107, n_108, n_109, n_110, n_111, n_112, n_113, n_114, n_115, n_116, n_117, n_118, n_120, n_121, n_122, n_180, n_255, n_539, n_600, n_616, n_1200, n_2000, n_3600, n_8400, n_65536, ea, eb, w1, z_begin2, w2a, w3, lg_self, updL0, xq1_xq1, xq1_xq2, xq1_xq3, xq2_xq1, xq2_xq2, xq2_xq3, xq3_xq1, xq3_xq2, xq3_xq3]
      exact ⟨_, _, _, rfl, ⟨_, rfl, w4, w5⟩, ⟨_, _, rfl, rfl, w6⟩, i3, i4, i5, i6, i7⟩
    · subst t1 t3 t2
      unfold exn at w1
      simp (disch := omega) only [eq_t, eq_f, ↓reduceIte] at w1
      simp (disch := omega) only [↓q_brd, ↓q_gdd, ↓q_lts, ↓reduceIte, ↓q_bds, ↓zq_smi, ↓zq_smr, iI_add, iI_sub, iI_mul, iI_neg, iI_ab3, iI_div, z_emod, aI_rd, aI_wr, aR0, aW0, aR1, aW1, aR2, aW2, aR3, aW3, aR4, aW4, iI_inT, iI_lt, iI_le, iI_eq, lt_t, lt_f, le_t, le_f, eq_t, eq_f, bz_z, bz_o, bz_zo, bzT, bzF, n_em, zu_s, zu_n, not_true_eq_false, not_false_eq_true, and_self, true_and, and_true, false_and, and_false, true_or, or_true, false_or, or_false, or_self, Int.add_sub_cancel, n_0, n_1, n_2, n_3, n_4, n_5, n_6, n_7, n_8, n_9, n_10, n_11, n_12, n_13, n_14, n_15, n_16, n_17, n_18, n_19, n_20, n_21, n_22, n_23, n_24, n_25, n_26, n_27, n_28, n_29, n_30, n_31, n_32, n_33, n_34, n_35, n_36, n_37, n_40, n_44, n_48, n_50, n_57, n_58, n_60, n_65, n_66, n_67, n_68, n_69, n_70, n_71, n_73, n_77, n_80, n_83, n_97, n_98, n_99, n_100, n_101, n_102, n_103, n_104, n_105, n_106, n_107, n_108, n_109, n_110, n_111, n_112, n_113, n_114, n_115, n_116, n_117, n_118, n_120, n_121, n_122, n_180, n_255, n_539, n_600, n_616, n_1200, n_2000, n_3600, n_8400, n_65536, ea, eb, w1, z_begin2, w2a, w3, lg_self, updL0, xq1_xq1, xq1_xq2, xq1_xq3, xq2_xq1, xq2_xq2, xq2_xq3, xq3_xq1, xq3_xq2, xq3_xq3]
      exact ⟨_, _, _, rfl, ⟨_, rfl, w4, w5⟩, ⟨_, _, rfl, rfl, w6⟩, i3, i4, i5, i6, i7⟩
    · subst t1 t3 t2
      unfold exn at w1
      simp (disch := omega) only [eq_t, eq_f, ↓reduceIte] at w1
      simp (disch := omega) only [↓q_brd, ↓q_gdd, ↓q_lts, ↓reduceIte, ↓q_bds, ↓zq_smi, ↓zq_smr, iI_add, iI_sub, iI_mul, iI_neg, iI_ab3, iI_div, z_emod, aI_rd, aI_wr, aR0, aW0, aR1, aW1, aR2, aW2, aR3, aW3, aR4, aW4, iI_inT, iI_lt, iI_le, iI_eq, lt_t, lt_f, le_t, le_f, eq_t, eq_f, bz_z, bz_o, bz_zo, bzT, bzF, n_em, zu_s, zu_n, not_true_eq_false, not_false_eq_true, and_self, true_and, and_true, false_and, and_false, true_or, or_true, false_or, or_false, or_self, Int.add_sub_cancel, n_0, n_1, n_2, n_3, n_4, n_5, n_6, n_7, n_8, n_9, n_10, n_11, n_12, n_13, n_14, n_15, n_16, n_17, n_18, n_19, n_20, n_21, n_22, n_23, n_24, n_25, n_26, n_27, n_28, n_29, n_30, n_31, n_32, n_33, n_34, n_35, n_36, n_37, n_40, n_44, n_48, n_50, n_57, n_58, n_60, n_65, n_66, n_67, n_68, n_69, n_70, n_71, n_73, n_77, n_80, n_83, n_97, n_98, n_99, n_100, n_101, n_102, n_103, n_104, n_105, n_106, n_107, n_108, n_109, n_110, n_111, n_112, n_113, n_114, n_115, n_116, n_117, n_118, n_120, n_121, n_122, n_180, n_255, n_539, n_600, n_616, n_1200, n_2000, n_3600, n_8400, n_65536, ea, eb, w1, z_begin2, w2a, w3, lg_self, updL0, xq1_xq1, xq1_xq2, xq1_xq3, xq2_xq1, xq2_xq2, xq2_xq3, xq3_xq1, xq3_xq2, xq3_xq3]
      exact ⟨_, _, _, rfl, ⟨_, rfl, w4, w5⟩, ⟨_, _, rfl, rfl, w6⟩, i3, i4, i5, i6, i7⟩
set_option maxHeartbeats 4000000 in
theorem lc_1 {IL : Line_t → (Nat → Int32) → Int32 → Prop} {x : VB_t} {y : Model_t} {z : Nat → Int64} {w : Nat → UInt64} {xs : Nat → Int32} {n : Nat} {i : Int} (hI : Inv IL x y) (hi : 0 ≤ i ∧ i + 2 < n ∧ n ≤ 10000) : ∃ x2 y2 z2, f_c1 x y z w xs n (iI i) = some (x2, y2, z2, w) ∧ Inv IL x2 y2 := by
  obtain ⟨⟨G, v1, v2, v3⟩, ⟨h, ch, u1, u2, u3⟩, i3, i4, i5, i6, i7⟩ := hI
  obtain ⟨B, hBe⟩ : ∃ B, y.1.2.1 = aI B := ⟨_, aI_of _⟩
  have ra := iI_rng (xs (iI i + 1).toNatClampNeg)
  have ea := iI_of (xs (iI i + 1).toNatClampNeg)
  generalize (xs (iI i + 1).toNatClampNeg).toInt = a at ra ea
  rw [show (1 : Int32) = iI 1 from rfl, iI_add] at ea
  obtain ⟨res, V2, hs2, G2, h2, c2, r2, thr, w1, ⟨r3, G3, w2, w3⟩, w4, w5, w6, w7⟩ := z_change (B := B) (op_1 v2 v3 (a := a) (b := 0) ⟨ra, by omega⟩) v2 v3 u3
  have w2a : ∀ th, f_X11_removes _ th _ = _ := w2
  unfold f_c1 f_case1 f_L_removeBell f_X10_removeBell f_X11_removeBell f_X11_thrown
  rw [v1, u1, u2, hBe]
  rcases w7 with ⟨t1, t2, t3⟩ | ⟨code, t1, t2⟩
  · subst t1 t2
    simp (disch := omega) only [↓q_brd, ↓q_gdd, ↓q_lts, ↓reduceIte, ↓q_bds, ↓zq_smi, ↓zq_smr, iI_add, iI_sub, iI_mul, iI_neg, iI_ab3, iI_div, z_emod, aI_rd, aI_wr, aR0, aW0, aR1, aW1, aR2, aW2, aR3, aW3, aR4, aW4, iI_inT, iI_lt, iI_le, iI_eq, lt_t, lt_f, le_t, le_f, eq_t, eq_f, bz_z, bz_o, bz_zo, bzT, bzF, n_em, zu_s, zu_n, not_true_eq_false, not_false_eq_true, and_self, true_and, and_true, false_and, and_false, true_or, or_true, false_or, or_false, or_self, Int.add_sub_cancel, n_0, n_1, n_2, n_3, n_4, n_5, n_6, n_7, n_8, n_9, n_10, n_11, n_12, n_13, n_14, n_15, n_16, n_17, n_18, n_19, n_20, n_21, n_22, n_23, n_24, n_25, n_26, n_27, n_28, n_29, n_30, n_31, n_32, n_33, n_34, n_35, n_36, n_37, n_40, n_44, n_48, n_50, n_57, n_58, n_60, n_65, n_66, n_67, n_68, n_69, n_70, n_71, n_73, n_77, n_80, n_83, n_97, n_98, n_99, n_100, n_101, n_102, n_103, n_104, n_105, n_106, n_107, n_108, n_109, n_110, n_111, n_112, n_113, n_114, n_115, n_116, n_117, n_118, n_120, n_121, n_122, n_180, n_255, n_539, n_600, n_616, n_1200, n_2000, n_3600, n_8400, n_65536, ea, w1, z_begin2, w2a, w3, lg_self, updL0, xq1_xq1, xq1_xq2, xq1_xq3, xq2_xq1, xq2_xq2, xq2_xq3, xq3_xq1, xq3_xq2, xq3_xq3]
    exact ⟨_, _, _, rfl, ⟨_, rfl, w4, w5⟩, ⟨_, _, rfl, rfl, w6⟩, i3, i4, i5, i6, i7⟩
  · simp only [fc, List.mem_cons, Prod.mk.injEq, List.not_mem_nil, or_false] at t1
    obtain ⟨t1, t3⟩ := t1
    · subst t1 t3 t2
      unfold exn at w1
      simp (disch := omega) only [eq_t, eq_f, ↓reduceIte] at w1
      simp (disch := omega) only [↓q_brd, ↓q_gdd, ↓q_lts, ↓reduceIte, ↓q_bds, ↓zq_smi, ↓zq_smr, iI_add, iI_sub, iI_mul, iI_neg, iI_ab3, iI_div, z_emod, aI_rd, aI_wr, aR0, aW0, aR1, aW1, aR2, aW2, aR3, aW3, aR4, aW4, iI_inT, iI_lt, iI_le, iI_eq, lt_t, lt_f, le_t, le_f, eq_t, eq_f, bz_z, bz_o, bz_zo, bzT, bzF, n_em, zu_s, zu_n, not_true_eq_false, not_false_eq_true, and_self, true_and, and_true, false_and, and_false, true_or, or_true, false_or, or_false, or_self, Int.add_sub_cancel, n_0, n_1, n_2, n_3, n_4, n_5, n_6, n_7, n_8, n_9, n_10, n_11, n_12, n_13, n_14, n_15, n_16, n_17, n_18, n_19, n_20, n_21, n_22, n_23, n_24, n_25, n_26, n_27, n_28, n_29, n_30, n_31, n_32, n_33, n_34, n_35, n_36, n_37, n_40, n_44, n_48, n_50, n_57, n_58, n_60, n_65, n_66, n_67, n_68, n_69, n_70, n_71, n_73, n_77, n_80, n_83, n_97, n_98, n_99, n_100, n_101, n_102, n_103, n_104, n_105, n_106, n_107, n_108, n_109, n_110, n_111, n_112, n_113, n_114, n_115, n_116, n_117, n_118, n_120, n_121, n_122, n_180, n_255, n_539, n_600, n_616, n_1200, n_2000, n_3600, n_8400, n_65536, ea, w1, z_begin2, w2a, w3, lg_self, updL0, xq1_xq1, xq1_xq2, xq1_xq3, xq2_xq1, xq2_xq2, xq2_xq3, xq3_xq1, xq3_xq2, xq3_xq3]
      exact ⟨_, _, _, rfl, ⟨_, rfl, w4, w5⟩, ⟨_, _, rfl, rfl, w6⟩, i3, i4, i5, i6, i7⟩
set_option maxHeartbeats 4000000 in
theorem lc_2 {IL : Line_t → (Nat → Int32) → Int32 → Prop} {x : VB_t} {y : Model_t} {z : Nat → Int64} {w : Nat → UInt64} {xs : Nat → Int32} {n : Nat} {i : Int} (hI : Inv IL x y) (hi : 0 ≤ i ∧ i + 2 < n ∧ n ≤ 10000) : ∃ x2 y2 z2, f_c2 x y z w xs n (iI i) = some (x2, y2, z2, w) ∧ Inv IL x2 y2 := by
  obtain ⟨⟨G, v1, v2, v3⟩, ⟨h, ch, u1, u2, u3⟩, i3, i4, i5, i6, i7⟩ := hI
  obtain ⟨B, hBe⟩ : ∃ B, y.1.2.1 = aI B := ⟨_, aI_of _⟩
  have ra := iI_rng (xs (iI i + 1).toNatClampNeg)
  have ea := iI_of (xs (iI i + 1).toNatClampNeg)
  have rb := iI_rng (xs (iI i + 2).toNatClampNeg)
  have eb := iI_of (xs (iI i + 2).toNatClampNeg)
  generalize (xs (iI i + 1).toNatClampNeg).toInt = a at ra ea
  rw [show (1 : Int32) = iI 1 from rfl, iI_add] at ea
  generalize (xs (iI i + 2).toNatClampNeg).toInt = b at rb eb
  rw [show (2 : Int32) = iI 2 from rfl, iI_add] at eb
  obtain ⟨res, V2, hs2, G2, h2, c2, r2, thr, w1, ⟨r3, G3, w2, w3⟩, w4, w5, w6, w7⟩ := z_change (B := B) (op_2 v2 v3 (a := a) (b := b) ⟨ra, rb⟩) v2 v3 u3
  have w2a : ∀ th, f_X11_tunes _ th _ _ = _ := w2
  unfold f_c2 f_case2 f_L_tune f_X10_tune f_X11_tune f_X11_thrown
  rw [v1, u1, u2, hBe]
  rcases w7 with ⟨t1, t2, t3⟩ | ⟨code, t1, t2⟩
  · subst t1 t2
    simp (disch := omega) only [↓q_brd, ↓q_gdd, ↓q_lts, ↓reduceIte, ↓q_bds, ↓zq_smi, ↓zq_smr, iI_add, iI_sub, iI_mul, iI_neg, iI_ab3, iI_div, z_emod, aI_rd, aI_wr, aR0, aW0, aR1, aW1, aR2, aW2, aR3, aW3, aR4, aW4, iI_inT, iI_lt, iI_le, iI_eq, lt_t, lt_f, le_t, le_f, eq_t, eq_f, bz_z, bz_o, bz_zo, bzT, bzF, n_em, zu_s, zu_n, not_true_eq_false, not_false_eq_true, and_self, true_and, and_true, false_and, and_false, true_or, or_true, false_or, or_false, or_self, Int.add_sub_cancel, n_0, n_1, n_2, n_3, n_4, n_5, n_6, n_7, n_8, n_9, n_10, n_11, n_12, n_13, n_14, n_15, n_16, n_17, n_18, n_19, n_20, n_21, n_22, n_23, n_24, n_25, n_26, n_27, n_28, n_29, n_30, n_31, n_32, n_33, n_34, n_35, n_36, n_37, n_40, n_44, n_48, n_50, n_57, n_58, n_60, n_65, n_66, n_67, n_68, n_69, n_70, n_71, n_73, n_77, n_80, n_83, n_97, n_98, n_99, n_100, n_101, n_102, n_103, n_104, n_105, n_106, n_107, n_108, n_109, n_110, n_111, n_112, n_113, n_114, n_115, n_116, n_117, n_118, n_120, n_121, n_122, n_180, n_255, n_539, n_600, n_616, n_1200, n_2000, n_3600, n_8400, n_65536, ea, eb, w1, z_begin2, w2a, w3, lg_self, updL0, xq1_xq1, xq1_xq2, xq1_xq3, xq2_xq1, xq2_xq2, xq2_xq3, xq3_xq1, xq3_xq2, xq3_xq3]
    exact ⟨_, _, _, rfl, ⟨_, rfl, w4, w5⟩, ⟨_, _, rfl, rfl, w6⟩, i3, i4, i5, i6, i7⟩
  · simp only [fc, List.mem_cons, Prod.mk.injEq, List.not_mem_nil, or_false] at t1
    rcases t1 with ⟨t1, t3⟩ | ⟨t1, t3⟩ | ⟨t1, t3⟩
    · subst t1 t3 t2
      unfold exn at w1
      simp (disch := omega) only [eq_t, eq_f, ↓reduceIte] at w1
      simp (disch := omega) only [↓q_brd, ↓q_gdd, ↓q_lts, ↓reduceIte, ↓q_bds, ↓zq_smi, ↓zq_smr, iI_add, iI_sub, iI_mul, iI_neg, iI_ab3, iI_div, z_emod, aI_rd, aI_wr, aR0, aW0, aR1, aW1, aR2, aW2, aR3, aW3, aR4, aW4, iI_inT, iI_lt, iI_le, iI_eq, lt_t, lt_f, le_t, le_f, eq_t, eq_f, bz_z, bz_o, bz_zo, bzT, bzF, n_em, zu_s, zu_n, not_true_eq_false, not_false_eq_true, and_self, true_and, and_true, false_and, and_false, true_or, or_true, false_or, or_false, or_self, Int.add_sub_cancel, n_0, n_1, n_2, n_3, n_4, n_5, n_6, n_7, n_8, n_9, n_10, n_11, n_12, n_13, n_14, n_15, n_16, n_17, n_18, n_19, n_20, n_21, n_22, n_23, n_24, n_25, n_26, n_27, n_28, n_29, n_30, n_31, n_32, n_33, n_34, n_35, n_36, n_37, n_40, n_44, n_48, n_50, n_57, n_58, n_60, n_65, n_66, n_67, n_68, n_69, n_70, n_71, n_73, n_77, n_80, n_83, n_97, n_98, n_99, n_100, n_101, n_102, n_103, n_104, n_105, n_106, n_107, n_108, n_109, n_110, n_111, n_112, n_113, n_114, n_115, n_116, n_117, n_118, n_120, n_121, n_122, n_180, n_255, n_539, n_600, n_616, n_1200, n_2000, n_3600, n_8400, n_65536, ea, eb, w1, z_begin2, w2a, w3, lg_self, updL0, xq1_xq1, xq1_xq2, xq1_xq3, xq2_xq1, xq2_xq2, xq2_xq3, xq3_xq1, xq3_xq2, xq3_xq3]
      exact ⟨_, _, _, rfl, ⟨_, rfl, w4, w5⟩, ⟨_, _, rfl, rfl, w6⟩, i3, i4, i5, i6, i7⟩
    · subst t1 t3 t2
      unfold exn at w1
      simp (disch := omega) only [eq_t, eq_f, ↓reduceIte] at w1
      simp (disch := omega) only [↓q_brd, ↓q_gdd, ↓q_lts, ↓reduceIte, ↓q_bds, ↓zq_smi, ↓zq_smr, iI_add, iI_sub, iI_mul, iI_neg, iI_ab3, iI_div, z_emod, aI_rd, aI_wr, aR0, aW0, aR1, aW1, aR2, aW2, aR3, aW3, aR4, aW4, iI_inT, iI_lt, iI_le, iI_eq, lt_t, lt_f, le_t, le_f, eq_t, eq_f, bz_z, bz_o, bz_zo, bzT, bzF, n_em, zu_s, zu_n, not_true_eq_false, not_false_eq_true, and_self, true_and, and_true, false_and, and_false, true_or, or_true, false_or, or_false, or_self, Int.add_sub_cancel, n_0, n_1, n_2, n_3, n_4, n_5, n_6, n_7, n_8, n_9, n_10, n_11, n_12, n_13, n_14, n_15, n_16, n_17, n_18, n_19, n_20, n_21, n_22, n_23, n_24, n_25, n_26, n_27, n_28, n_29, n_30, n_31, n_32, n_33, n_34, n_35, n_36, n_37, n_40, n_44, n_48, n_50, n_57, n_58, n_60, n_65, n_66, n_67, n_68, n_69, n_70, n_71, n_73, n_77, n_80, n_83, n_97, n_98, n_99, n_100, n_101, n_102, n_103, n_104, n_105, n_106, n_107, n_108, n_109, n_110, n_111, n_112, n_113, n_114, n_115, n_116, n_117, n_118, n_120, n_121, n_122, n_180, n_255, n_539, n_600, n_616, n_1200, n_2000, n_3600, n_8400, n_65536, ea, eb, w1, z_begin2, w2a, w3, lg_self, updL0, xq1_xq1, xq1_xq2, xq1_xq3, xq2_xq1, xq2_xq2, xq2_xq3, xq3_xq1, xq3_xq2, xq3_xq3]
      exact ⟨_, _, _, rfl, ⟨_, rfl, w4, w5⟩, ⟨_, _, rfl, rfl, w6⟩, i3, i4, i5, i6, i7⟩
    · subst t1 t3 t2
      unfold exn at w1
      simp (disch := omega) only [eq_t, eq_f, ↓reduceIte] at w1
      simp (disch := omega) only [↓q_brd, ↓q_gdd, ↓q_lts, ↓reduceIte, ↓q_bds, ↓zq_smi, ↓zq_smr, iI_add, iI_sub, iI_mul, iI_neg, iI_ab3, iI_div, z_emod, aI_rd, aI_wr, aR0, aW0, aR1, aW1, aR2, aW2, aR3, aW3, aR4, aW4, iI_inT, iI_lt, iI_le, iI_eq, lt_t, lt_f, le_t, le_f, eq_t, eq_f, bz_z, bz_o, bz_zo, bzT, bzF, n_em, zu_s, zu_n, not_true_eq_false, not_false_eq_true, and_self, true_and, and_true, false_and, and_false, true_or, or_true, false_or, or_false, or_self, Int.add_sub_cancel, n_0, n_1, n_2, n_3, n_4, n_5, n_6, n_7, n_8, n_9, n_10, n_11, n_12, n_13, n_14, n_15, n_16, n_17, n_18, n_19, n_20, n_21, n_22, n_23, n_24, n_25, n_26, n_27, n_28, n_29, n_30, n_31, n_32, n_33, n_34, n_35, n_36, n_37, n_40, n_44, n_48, n_50, n_57, n_58, n_60, n_65, n_66, n_67, n_68, n_69, n_70, n_71, n_73, n_77, n_80, n_83, n_97, n_98, n_99, n_100, n_101, n_102, n_103, n_104, n_105, n_106, n_107, n_108, n_109, n_110, n_111, n_112, n_113, n_114, n_115, n_116, n_117, n_118, n_120, n_121, n_122, n_180, n_255, n_539, n_600, n_616, n_1200, n_2000, n_3600, n_8400, n_65536, ea, eb, w1, z_begin2, w2a, w3, lg_self, updL0, xq1_xq1, xq1_xq2, xq1_xq3, xq2_xq1, xq2_xq2, xq2_xq3, xq3_xq1, xq3_xq2, xq3_xq3]
      exact ⟨_, _, _, rfl, ⟨_, rfl, w4, w5⟩, ⟨_, _, rfl, rfl, w6⟩, i3, i4, i5, i6, i7⟩
set_option maxHeartbeats 4000000 in
theorem lc_3 {IL : Line_t → (Nat → Int32) → Int32 → Prop} {x : VB_t} {y : Model_t} {z : Nat → Int64} {w : Nat → UInt64} {xs : Nat → Int32} {n : Nat} {i : Int} (hI : Inv IL x y) (hi : 0 ≤ i ∧ i + 2 < n ∧ n ≤ 10000) : ∃ x2 y2 z2, f_c3 x y z w xs n (iI i) = some (x2, y2, z2, w) ∧ Inv IL x2 y2 := by
  obtain ⟨⟨G, v1, v2, v3⟩, ⟨h, ch, u1, u2, u3⟩, i3, i4, i5, i6, i7⟩ := hI
  obtain ⟨B, hBe⟩ : ∃ B, y.1.2.1 = aI B := ⟨_, aI_of _⟩
  have ra := iI_rng (xs (iI i + 1).toNatClampNeg)
  have ea := iI_of (xs (iI i + 1).toNatClampNeg)
  have rb := iI_rng (xs (iI i + 2).toNatClampNeg)
  have eb := iI_of (xs (iI i + 2).toNatClampNeg)
  generalize (xs (iI i + 1).toNatClampNeg).toInt = a at ra ea
  rw [show (1 : Int32) = iI 1 from rfl, iI_add] at ea
  generalize (xs (iI i + 2).toNatClampNeg).toInt = b at rb eb
  rw [show (2 : Int32) = iI 2 from rfl, iI_add] at eb
  obtain ⟨res, V2, hs2, G2, h2, c2, r2, thr, w1, ⟨r3, G3, w2, w3⟩, w4, w5, w6, w7⟩ := z_change (B := B) (op_3 v2 v3 (a := a) (b := b) ⟨ra, rb⟩) v2 v3 u3
  have w2a : ∀ th, f_X11_moves _ th _ _ = _ := w2
  unfold f_c3 f_case3 f_L_moveBell f_X10_moveBell f_X11_moveBell f_X11_thrown
  rw [v1, u1, u2, hBe]
  rcases w7 with ⟨t1, t2, t3⟩ | ⟨code, t1, t2⟩
  · subst t1 t2
    simp (disch := omega) only [↓q_brd, ↓q_gdd, ↓q_lts, ↓reduceIte, ↓q_bds, ↓zq_smi, ↓zq_smr, iI_add, iI_sub, iI_mul, iI_neg, iI_ab3, iI_div, z_emod, aI_rd, aI_wr, aR0, aW0, aR1, aW1, aR2, aW2, aR3, aW3, aR4, aW4, iI_inT, iI_lt, iI_le, iI_eq, lt_t, lt_f, le_t, le_f, eq_t, eq_f, bz_z, bz_o, bz_zo, bzT, bzF, n_em, zu_s, zu_n, not_true_eq_false, not_false_eq_true, and_self, true_and, and_true, false_and, and_false, true_or, or_true, false_or, or_false, or_self, Int.add_sub_cancel, n_0, n_1, n_2, n_3, n_4, n_5, n_6, n_7, n_8, n_9, n_10, n_11, n_12, n_13, n_14, n_15, n_16, n_17, n_18, n_19, n_20, n_21, n_22, n_23, n_24, n_25, n_26, n_27, n_28, n_29, n_30, n_31, n_32, n_33, n_34, n_35, n_36, n_37, n_40, n_44, n_48, n_50, n_57, n_58, n_60, n_65, n_66, n_67, n_68, n_69, n_70, n_71, n_73, n_77, n_80, n_83, n_97, n_98, n_99, n_100, n_101, n_102, n_103, n_104, n_105, n_106, n_107, n_108, n_109, n_110, n_111, n_112, n_113, n_114, n_115, n_116, n_117, n_118, n_120, n_121, n_122, n_180, n_255, n_539, n_600, n_616, n_1200, n_2000, n_3600, n_8400, n_65536, ea, eb, w1, z_begin2, w2a, w3, lg_self, updL0, xq1_xq1, xq1_xq2, xq1_xq3, xq2_xq1, xq2_xq2, xq2_xq3, xq3_xq1, xq3_xq2, xq3_xq3]
    exact ⟨_, _, _, rfl, ⟨_, rfl, w4, w5⟩, ⟨_, _, rfl, rfl, w6⟩, i3, i4, i5, i6, i7⟩
  · simp only [fc, List.mem_cons, Prod.mk.injEq, List.not_mem_nil, or_false] at t1
    obtain ⟨t1, t3⟩ := t1
    · subst t1 t3 t2
      unfold exn at w1
      simp (disch := omega) only [eq_t, eq_f, ↓reduceIte] at w1
      simp (disch := omega) only [↓q_brd, ↓q_gdd, ↓q_lts, ↓reduceIte, ↓q_bds, ↓zq_smi, ↓zq_smr, iI_add, iI_sub, iI_mul, iI_neg, iI_ab3, iI_div, z_emod, aI_rd, aI_wr, aR0, aW0, aR1, aW1, aR2, aW2, aR3, aW3, aR4, aW4, iI_inT, iI_lt, iI_le, iI_eq, lt_t, lt_f, le_t, le_f, eq_t, eq_f, bz_z, bz_o, bz_zo, bzT, bzF, n_em, zu_s, zu_n, not_true_eq_false, not_false_eq_true, and_self, true_and, and_true, false_and, and_false, true_or, or_true, false_or, or_false, or_self, Int.add_sub_cancel, n_0, n_1, n_2, n_3, n_4, n_5, n_6, n_7, n_8, n_9, n_10, n_11, n_12, n_13, n_14, n_15, n_16, n_17, n_18, n_19, n_20, n_21, n_22, n_23, n_24, n_25, n_26, n_27, n_28, n_29, n_30, n_31, n_32, n_33, n_34, n_35, n_36, n_37, n_40, n_44, n_48, n_50, n_57, n_58, n_60, n_65, n_66, n_67, n_68, n_69, n_70, n_71, n_73, n_77, n_80, n_83, n_97, n_98, n_99, n_100, n_101, n_102, n_103, n_104, n_105, n_106, n_107, n_108, n_109, n_110, n_111, n_112, n_113, n_114, n_115, n_116, n_117, n_118, n_120, n_121, n_122, n_180, n_255, n_539, n_600, n_616, n_1200, n_2000, n_3600, n_8400, n_65536, ea, eb, w1, z_begin2, w2a, w3, lg_self, updL0, xq1_xq1, xq1_xq2, xq1_xq3, xq2_xq1, xq2_xq2, xq2_xq3, xq3_xq1, xq3_xq2, xq3_xq3]
      exact ⟨_, _, _, rfl, ⟨_, rfl, w4, w5⟩, ⟨_, _, rfl, rfl, w6⟩, i3, i4, i5, i6, i7⟩
set_option maxHeartbeats 4000000 in
theorem lc_4 {IL : Line_t → (Nat → Int32) → Int32 → Prop} {x : VB_t} {y : Model_t} {z : Nat → Int64} {w : Nat → UInt64} {xs : Nat → Int32} {n : Nat} {i : Int} (hI : Inv IL x y) (hi : 0 ≤ i ∧ i + 2 < n ∧ n ≤ 10000) : ∃ x2 y2 z2, f_c4 x y z w xs n (iI i) = some (x2, y2, z2, w) ∧ Inv IL x2 y2 := by
  obtain ⟨⟨G, v1, v2, v3⟩, ⟨h, ch, u1, u2, u3⟩, i3, i4, i5, i6, i7⟩ := hI
  obtain ⟨B, hBe⟩ : ∃ B, y.1.2.1 = aI B := ⟨_, aI_of _⟩
  have ra := iI_rng (xs (iI i + 1).toNatClampNeg)
  have ea := iI_of (xs (iI i + 1).toNatClampNeg)
  have rb := iI_rng (xs (iI i + 2).toNatClampNeg)
  have eb := iI_of (xs (iI i + 2).toNatClampNeg)
  generalize (xs (iI i + 1).toNatClampNeg).toInt = a at ra ea
  rw [show (1 : Int32) = iI 1 from rfl, iI_add] at ea
  generalize (xs (iI i + 2).toNatClampNeg).toInt = b at rb eb
  rw [show (2 : Int32) = iI 2 from rfl, iI_add] at eb
  obtain ⟨res, V2, hs2, G2, h2, c2, r2, thr, w1, ⟨r3, G3, w2, w3⟩, w4, w5, w6, w7⟩ := z_change (B := B) (op_11 v2 v3 (a := a) (b := b) ⟨ra, rb⟩) v2 v3 u3
  have w2a : ∀ th, f_X11_grazes _ th _ _ = _ := w2
  unfold f_c4 f_case4 f_L_graze f_X10_graze f_X11_graze f_X11_thrown
  rw [v1, u1, u2, hBe]
  rcases w7 with ⟨t1, t2, t3⟩ | ⟨code, t1, t2⟩
  · subst t1 t2
    simp (disch := omega) only [↓q_brd, ↓q_gdd, ↓q_lts, ↓reduceIte, ↓q_bds, ↓zq_smi, ↓zq_smr, iI_add, iI_sub, iI_mul, iI_neg, iI_ab3, iI_div, z_emod, aI_rd, aI_wr, aR0, aW0, aR1, aW1, aR2, aW2, aR3, aW3, aR4, aW4, iI_inT, iI_lt, iI_le, iI_eq, lt_t, lt_f, le_t, le_f, eq_t, eq_f, bz_z, bz_o, bz_zo, bzT, bzF, n_em, zu_s, zu_n, not_true_eq_false, not_false_eq_true, and_self, true_and, and_true, false_and, and_false, true_or, or_true, false_or, or_false, or_self, Int.add_sub_cancel, n_0, n_1, n_2, n_3, n_4, n_5, n_6, n_7, n_8, n_9, n_10, n_11, n_12, n_13, n_14, n_15, n_16, n_17, n_18, n_19, n_20, n_21, n_22, n_23, n_24, n_25, n_26, n_27, n_28, n_29, n_30, n_31, n_32, n_33, n_34, n_35, n_36, n_37, n_40, n_44, n_48, n_50, n_57, n_58, n_60, n_65, n_66, n_67, n_68, n_69, n_70, n_71, n_73, n_77, n_80, n_83, n_97, n_98, n_99, n_100, n_101, n_102, n_103, n_104, n_105, n_106, n_107, n_108, n_109, n_110, n_111, n_112, n_113, n_114, n_115, n_116, n_117, n_118, n_120, n_121, n_122, n_180, n_255, n_539, n_600, n_616, n_1200, n_2000, n_3600, n_8400, n_65536, ea, eb, w1, z_begin2, w2a, w3, lg_self, updL0, xq1_xq1, xq1_xq2, xq1_xq3, xq2_xq1, xq2_xq2, xq2_xq3, xq3_xq1, xq3_xq2, xq3_xq3]
    exact ⟨_, _, _, rfl, ⟨_, rfl, w4, w5⟩, ⟨_, _, rfl, rfl, w6⟩, i3, i4, i5, i6, i7⟩
  · simp only [fc, List.mem_cons, Prod.mk.injEq, List.not_mem_nil, or_false] at t1
    rcases t1 with ⟨t1, t3⟩ | ⟨t1, t3⟩
    · subst t1 t3 t2
      unfold exn at w1
      simp (disch := omega) only [eq_t, eq_f, ↓reduceIte] at w1
      simp (disch := omega) only [↓q_brd, ↓q_gdd, ↓q_lts, ↓reduceIte, ↓q_bds, ↓zq_smi, ↓zq_smr, iI_add, iI_sub, iI_mul, iI_neg, iI_ab3, iI_div, z_emod, aI_rd, aI_wr, aR0, aW0, aR1, aW1, aR2, aW2, aR3, aW3, aR4, aW4, iI_inT, iI_lt, iI_le, iI_eq, lt_t, lt_f, le_t, le_f, eq_t, eq_f, bz_z, bz_o, bz_zo, bzT, bzF, n_em, zu_s, zu_n, not_true_eq_false, not_false_eq_true, and_self, true_and, and_true, false_and, and_false, true_or, or_true, false_or, or_false, or_self, Int.add_sub_cancel, n_0, n_1, n_2, n_3, n_4, n_5, n_6, n_7, n_8, n_9, n_10, n_11, n_12, n_13, n_14, n_15, n_16, n_17, n_18, n_19, n_20, n_21, n_22, n_23, n_24, n_25, n_26, n_27, n_28, n_29, n_30, n_31, n_32, n_33, n_34, n_35, n_36, n_37, n_40, n_44, n_48, n_50, n_57, n_58, n_60, n_65, n_66, n_67, n_68, n_69, n_70, n_71, n_73, n_77, n_80, n_83, n_97, n_98, n_99, n_100, n_101, n_102, n_103, n_104, n_105, n_106, n_107, n_108, n_109, n_110, n_111, n_112, n_113, n_114, n_115, n_116, n_117, n_118, n_120, n_121, n_122, n_180, n_255, n_539, n_600, n_616, n_1200, n_2000, n_3600, n_8400, n_65536, ea, eb, w1, z_begin2, w2a, w3, lg_self, updL0, xq1_xq1, xq1_xq2, xq1_xq3, xq2_xq1, xq2_xq2, xq2_xq3, xq3_xq1, xq3_xq2, xq3_xq3]
      exact ⟨_, _, _, rfl, ⟨_, rfl, w4, w5⟩, ⟨_, _, rfl, rfl, w6⟩, i3, i4, i5, i6, i7⟩
    · subst t1 t3 t2
      unfold exn at w1
      simp (disch := omega) only [eq_t, eq_f, ↓reduceIte] at w1
      simp (disch := omega) only [↓q_brd, ↓q_gdd, ↓q_lts, ↓reduceIte, ↓q_bds, ↓zq_smi, ↓zq_smr, iI_add, iI_sub, iI_mul, iI_neg, iI_ab3, iI_div, z_emod, aI_rd, aI_wr, aR0, aW0, aR1, aW1, aR2, aW2, aR3, aW3, aR4, aW4, iI_inT, iI_lt, iI_le, iI_eq, lt_t, lt_f, le_t, le_f, eq_t, eq_f, bz_z, bz_o, bz_zo, bzT, bzF, n_em, zu_s, zu_n, not_true_eq_false, not_false_eq_true, and_self, true_and, and_true, false_and, and_false, true_or, or_true, false_or, or_false, or_self, Int.add_sub_cancel, n_0, n_1, n_2, n_3, n_4, n_5, n_6, n_7, n_8, n_9, n_10, n_11, n_12, n_13, n_14, n_15, n_16, n_17, n_18, n_19, n_20, n_21, n_22, n_23, n_24, n_25, n_26, n_27, n_28, n_29, n_30, n_31, n_32, n_33, n_34, n_35, n_36, n_37, n_40, n_44, n_48, n_50, n_57, n_58, n_60, n_65, n_66, n_67, n_68, n_69, n_70, n_71, n_73, n_77, n_80, n_83, n_97, n_98, n_99, n_100, n_101, n_102, n_103, n_104, n_105, n_106, n_107, n_108, n_109, n_110, n_111, n_112, n_113, n_114, n_115, n_116, n_117, n_118, n_120, n_121, n_122, n_180, n_255, n_539, n_600, n_616, n_1200, n_2000, n_3600, n_8400, n_65536, ea, eb, w1, z_begin2, w2a, w3, lg_self, updL0, xq1_xq1, xq1_xq2, xq1_xq3, xq2_xq1, xq2_xq2, xq2_xq3, xq3_xq1, xq3_xq2, xq3_xq3]
      exact ⟨_, _, _, rfl, ⟨_, rfl, w4, w5⟩, ⟨_, _, rfl, rfl, w6⟩, i3, i4, i5, i6, i7⟩
set_option maxHeartbeats 4000000 in
theorem lc_5 {IL : Line_t → (Nat → Int32) → Int32 → Prop} {x : VB_t} {y : Model_t} {z : Nat → Int64} {w : Nat → UInt64} {xs : Nat → Int32} {n : Nat} {i : Int} (hI : Inv IL x y) (hi : 0 ≤ i ∧ i + 2 < n ∧ n ≤ 10000) : ∃ x2 y2 z2, f_c5 x y z w xs n (iI i) = some (x2, y2, z2, w) ∧ Inv IL x2 y2 := by
  obtain ⟨⟨G, v1, v2, v3⟩, ⟨h, ch, u1, u2, u3⟩, i3, i4, i5, i6, i7⟩ := hI
  obtain ⟨B, hBe⟩ : ∃ B, y.1.2.1 = aI B := ⟨_, aI_of _⟩
  have ra := iI_rng (xs (iI i + 1).toNatClampNeg)
  have ea := iI_of (xs (iI i + 1).toNatClampNeg)
  have rb := iI_rng (xs (iI i + 2).toNatClampNeg)
  have eb := iI_of (xs (iI i + 2).toNatClampNeg)
  generalize (xs (iI i + 1).toNatClampNeg).toInt = a at ra ea
  rw [show (1 : Int32) = iI 1 from rfl, iI_add] at ea
  generalize (xs (iI i + 2).toNatClampNeg).toInt = b at rb eb
  rw [show (2 : Int32) = iI 2 from rfl, iI_add] at eb
  obtain ⟨c, hc⟩ : ∃ c : Int, c = if b = 0 then 0 else 1 := ⟨_, rfl⟩
  obtain ⟨res, V2, hs2, G2, h2, c2, r2, thr, w1, ⟨r3, G3, w2, w3⟩, w4, w5, w6, w7⟩ := z_change (B := B) (op_4 v2 v3 (a := a) (b := c) ⟨ra, by omega⟩ (by omega)) v2 v3 u3
  have w2a : ∀ th, f_X11_keys _ th _ _ = _ := w2
  have eb3 : (iI b = iI 0) = (c = 0) := by rw [iI_eq (by omega)]; exact propext ⟨fun h => by omega, fun h => by omega⟩
  unfold f_c5 f_case5 f_L_setKey f_X10_setKey f_X11_setKey f_X11_thrown
  rcases (show c = 0 ∨ c = 1 by omega) with e | e
  · subst e
    have ebb : (iI b = iI 0) = True := by rw [iI_eq (by omega)]; exact eq_true (by omega)
    rw [v1, u1, u2, hBe]
    rcases w7 with ⟨t1, t2, t3⟩ | ⟨code, t1, t2⟩
    · subst t1 t2
      simp (disch := omega) only [↓q_brd, ↓q_gdd, ↓q_lts, ↓reduceIte, ↓q_bds, ↓zq_smi, ↓zq_smr, iI_add, iI_sub, iI_mul, iI_neg, iI_ab3, iI_div, z_emod, aI_rd, aI_wr, aR0, aW0, aR1, aW1, aR2, aW2, aR3, aW3, aR4, aW4, iI_inT, iI_lt, iI_le, iI_eq, lt_t, lt_f, le_t, le_f, eq_t, eq_f, bz_z, bz_o, bz_zo, bzT, bzF, n_em, zu_s, zu_n, not_true_eq_false, not_false_eq_true, and_self, true_and, and_true, false_and, and_false, true_or, or_true, false_or, or_false, or_self, Int.add_sub_cancel, n_0, n_1, n_2, n_3, n_4, n_5, n_6, n_7, n_8, n_9, n_10, n_11, n_12, n_13, n_14, n_15, n_16, n_17, n_18, n_19, n_20, n_21, n_22, n_23, n_24, n_25, n_26, n_27, n_28, n_29, n_30, n_31, n_32, n_33, n_34, n_35, n_36, n_37, n_40, n_44, n_48, n_50, n_57, n_58, n_60, n_65, n_66, n_67, n_68, n_69, n_70, n_71, n_73, n_77, n_80, n_83, n_97, n_98, n_99, n_100, n_101, n_102, n_103, n_104, n_105, n_106, n_107, n_108, n_109, n_110, n_111, n_112, n_113, n_114, n_115, n_116, n_117, n_118, n_120, n_121, n_122, n_180, n_255, n_539, n_600, n_616, n_1200, n_2000, n_3600, n_8400, n_65536, ea, eb, ebb, w1, z_begin2, w2a, w3, lg_self, updL0, xq1_xq1, xq1_xq2, xq1_xq3, xq2_xq1, xq2_xq2, xq2_xq3, xq3_xq1, xq3_xq2, xq3_xq3]
      exact ⟨_, _, _, rfl, ⟨_, rfl, w4, w5⟩, ⟨_, _, rfl, rfl, w6⟩, i3, i4, i5, i6, i7⟩
    · simp only [fc, List.mem_cons, Prod.mk.injEq, List.not_mem_nil, or_false] at t1
      obtain ⟨t1, t3⟩ := t1
      · subst t1 t3 t2
        unfold exn at w1
        simp (disch := omega) only [eq_t, eq_f, ↓reduceIte] at w1
        simp (disch := omega) only [↓q_brd, ↓q_gdd, ↓q_lts, ↓reduceIte, ↓q_bds, ↓zq_smi, ↓zq_smr, iI_add, iI_sub, iI_mul, iI_neg, iI_ab3, iI_div, z_emod, aI_rd, aI_wr, aR0, aW0, aR1, aW1, aR2, aW2, aR3, aW3, aR4, aW4, iI_inT, iI_lt, iI_le, iI_eq, lt_t, lt_f, le_t, le_f, eq_t, eq_f, bz_z, bz_o, bz_zo, bzT, bzF, n_em, zu_s, zu_n, not_true_eq_false, not_false_eq_true, and_self, true_and, and_true, false_and, and_false, true_or, or_true, false_or, or_false, or_self, Int.add_sub_cancel, n_0, n_1, n_2, n_3, n_4, n_5, n_6, n_7, n_8, n_9, n_10, n_11, n_12, n_13, n_14, n_15, n_16, n_17, n_18, n_19, n_20, n_21, n_22, n_23, n_24, n_25, n_26, n_27, n_28, n_29, n_30, n_31, n_32, n_33, n_34, n_35, n_36, n_37, n_40, n_44, n_48, n_50, n_57, n_58, n_60, n_65, n_66, n_67, n_68, n_69, n_70, n_71, n_73, n_77, n_80, n_83, n_97, n_98, n_99, n_100, n_101, n_102, n_103, n_104, n_105, n_106, n_107, n_108, n_109, n_110, n_111, n_112, n_113, n_114, n_115, n_116, n_117, n_118, n_120, n_121, n_122, n_180, n_255, n_539, n_600, n_616, n_1200, n_2000, n_3600, n_8400, n_65536, ea, eb, ebb, w1, z_begin2, w2a, w3, lg_self, updL0, xq1_xq1, xq1_xq2, xq1_xq3, xq2_xq1, xq2_xq2, xq2_xq3, xq3_xq1, xq3_xq2, xq3_xq3]
        exact ⟨_, _, _, rfl, ⟨_, rfl, w4, w5⟩, ⟨_, _, rfl, rfl, w6⟩, i3, i4, i5, i6, i7⟩
  · subst e
    have ebb : (iI b = iI 0) = False := by rw [iI_eq (by omega)]; exact eq_false (by omega)
    rw [v1, u1, u2, hBe]
    rcases w7 with ⟨t1, t2, t3⟩ | ⟨code, t1, t2⟩
    · subst t1 t2
      simp (disch := omega) only [↓q_brd, ↓q_gdd, ↓q_lts, ↓reduceIte, ↓q_bds, ↓zq_smi, ↓zq_smr, iI_add, iI_sub, iI_mul, iI_neg, iI_ab3, iI_div, z_emod, aI_rd, aI_wr, aR0, aW0, aR1, aW1, aR2, aW2, aR3, aW3, aR4, aW4, iI_inT, iI_lt, iI_le, iI_eq, lt_t, lt_f, le_t, le_f, eq_t, eq_f, bz_z, bz_o, bz_zo, bzT, bzF, n_em, zu_s, zu_n, not_true_eq_false, not_false_eq_true, and_self, true_and, and_true, false_and, and_false, true_or, or_true, false_or, or_false, or_self, Int.add_sub_cancel, n_0, n_1, n_2, n_3, n_4, n_5, n_6, n_7, n_8, n_9, n_10, n_11, n_12, n_13, n_14, n_15, n_16, n_17, n_18, n_19, n_20, n_21, n_22, n_23, n_24, n_25, n_26, n_27, n_28, n_29, n_30, n_31, n_32, n_33, n_34, n_35, n_36, n_37, n_40, n_44, n_48, n_50, n_57, n_58, n_60, n_65, n_66, n_67, n_68, n_69, n_70, n_71, n_73, n_77, n_80, n_83, n_97, n_98, n_99, n_100, n_101, n_102, n_103, n_104, n_105, n_106, n_107, n_108, n_109, n_110, n_111, n_112, n_113, n_114, n_115, n_116, n_117, n_118, n_120, n_121, n_122, n_180, n_255, n_539, n_600, n_616, n_1200, n_2000, n_3600, n_8400, n_65536, ea, eb, ebb, w1, z_begin2, w2a, w3, lg_self, updL0, xq1_xq1, xq1_xq2, xq1_xq3, xq2_xq1, xq2_xq2, xq2_xq3, xq3_xq1, xq3_xq2, xq3_xq3]
      exact ⟨_, _, _, rfl, ⟨_, rfl, w4, w5⟩, ⟨_, _, rfl, rfl, w6⟩, i3, i4, i5, i6, i7⟩
    · simp only [fc, List.mem_cons, Prod.mk.injEq, List.not_mem_nil, or_false] at t1
      obtain ⟨t1, t3⟩ := t1
      · subst t1 t3 t2
        unfold exn at w1
        simp (disch := omega) only [eq_t, eq_f, ↓reduceIte] at w1
        simp (disch := omega) only [↓q_brd, ↓q_gdd, ↓q_lts, ↓reduceIte, ↓q_bds, ↓zq_smi, ↓zq_smr, iI_add, iI_sub, iI_mul, iI_neg, iI_ab3, iI_div, z_emod, aI_rd, aI_wr, aR0, aW0, aR1, aW1, aR2, aW2, aR3, aW3, aR4, aW4, iI_inT, iI_lt, iI_le, iI_eq, lt_t, lt_f, le_t, le_f, eq_t, eq_f, bz_z, bz_o, bz_zo, bzT, bzF, n_em, zu_s, zu_n, not_true_eq_false, not_false_eq_true, and_self, true_and, and_true, false_and, and_false, true_or, or_true, false_or, or_false, or_self, Int.add_sub_cancel, n_0, n_1, n_2, n_3, n_4, n_5, n_6, n_7, n_8, n_9, n_10, n_11, n_12, n_13, n_14, n_15, n_16, n_17, n_18, n_19, n_20, n_21, n_22, n_23, n_24, n_25, n_26, n_27, n_28, n_29, n_30, n_31, n_32, n_33, n_34, n_35, n_36, n_37, n_40, n_44, n_48, n_50, n_57, n_58, n_60, n_65, n_66, n_67, n_68, n_69, n_70, n_71, n_73, n_77, n_80, n_83, n_97, n_98, n_99, n_100, n_101, n_102, n_103, n_104, n_105, n_106, n_107, n_108, n_109, n_110, n_111, n_112, n_113, n_114, n_115, n_116, n_117, n_118, n_120, n_121, n_122, n_180, n_255, n_539, n_600, n_616, n_1200, n_2000, n_3600, n_8400, n_65536, ea, eb, ebb, w1, z_begin2, w2a, w3, lg_self, updL0, xq1_xq1, xq1_xq2, xq1_xq3, xq2_xq1, xq2_xq2, xq2_xq3, xq3_xq1, xq3_xq2, xq3_xq3]
        exact ⟨_, _, _, rfl, ⟨_, rfl, w4, w5⟩, ⟨_, _, rfl, rfl, w6⟩, i3, i4, i5, i6, i7⟩
set_option maxHeartbeats 4000000 in
theorem lc_6 {IL : Line_t → (Nat → Int32) → Int32 → Prop} {x : VB_t} {y : Model_t} {z : Nat → Int64} {w : Nat → UInt64} {xs : Nat → Int32} {n : Nat} {i : Int} (hI : Inv IL x y) (hi : 0 ≤ i ∧ i + 2 < n ∧ n ≤ 10000) : ∃ x2 y2 z2, f_c6 x y z w xs n (iI i) = some (x2, y2, z2, w) ∧ Inv IL x2 y2 := by
  obtain ⟨⟨G, v1, v2, v3⟩, ⟨h, ch, u1, u2, u3⟩, i3, i4, i5, i6, i7⟩ := hI
  obtain ⟨B, hBe⟩ : ∃ B, y.1.2.1 = aI B := ⟨_, aI_of _⟩
  have ra := iI_rng (xs (iI i + 1).toNatClampNeg)
  have ea := iI_of (xs (iI i + 1).toNatClampNeg)
  generalize (xs (iI i + 1).toNatClampNeg).toInt = a at ra ea
  rw [show (1 : Int32) = iI 1 from rfl, iI_add] at ea
  obtain ⟨res, V2, hs2, G2, h2, c2, r2, thr, w1, ⟨r3, G3, w2, w3⟩, w4, w5, w6, w7⟩ := z_change (B := B) (op_5 v2 v3 (a := a) (b := 0) ⟨ra, by omega⟩) v2 v3 u3
  have w2a : ∀ th, f_X11_tolerates _ th _ = _ := w2
  unfold f_c6 f_case6 f_L_setTolerance f_X10_setTolerance f_X11_setTolerance f_X11_thrown
  rw [v1, u1, u2, hBe]
  rcases w7 with ⟨t1, t2, t3⟩ | ⟨code, t1, t2⟩
  · subst t1 t2
    simp (disch := omega) only [↓q_brd, ↓q_gdd, ↓q_lts, ↓reduceIte, ↓q_bds, ↓zq_smi, ↓zq_smr, iI_add, iI_sub, iI_mul, iI_neg, iI_ab3, iI_div, z_emod, aI_rd, aI_wr, aR0, aW0, aR1, aW1, aR2, aW2, aR3, aW3, aR4, aW4, iI_inT, iI_lt, iI_le, iI_eq, lt_t, lt_f, le_t, le_f, eq_t, eq_f, bz_z, bz_o, bz_zo, bzT, bzF, n_em, zu_s, zu_n, not_true_eq_false, not_false_eq_true, and_self, true_and, and_true, false_and, and_false, true_or, or_true, false_or, or_false, or_self, Int.add_sub_cancel, n_0, n_1, n_2, n_3, n_4, n_5, n_6, n_7, n_8, n_9, n_10, n_11, n_12, n_13, n_14, n_15, n_16, n_17, n_18, n_19, n_20, n_21, n_22, n_23, n_24, n_25, n_26, n_27, n_28, n_29, n_30, n_31, n_32, n_33, n_34, n_35, n_36, n_37, n_40, n_44, n_48, n_50, n_57, n_58, n_60, n_65, n_66, n_67, n_68, n_69, n_70, n_71, n_73, n_77, n_80, n_83, n_97, n_98, n_99, n_100, n_101, n_102, n_103, n_104, n_105, n_106, n_107, n_108, n_109, n_110, n_111, n_112, n_113, n_114, n_115, n_116, n_117, n_118, n_120, n_121, n_122, n_180, n_255, n_539, n_600, n_616, n_1200, n_2000, n_3600, n_8400, n_65536, ea, w1, z_begin2, w2a, w3, lg_self, updL0, xq1_xq1, xq1_xq2, xq1_xq3, xq2_xq1, xq2_xq2, xq2_xq3, xq3_xq1, xq3_xq2, xq3_xq3]
    exact ⟨_, _, _, rfl, ⟨_, rfl, w4, w5⟩, ⟨_, _, rfl, rfl, w6⟩, i3, i4, i5, i6, i7⟩
  · simp only [fc, List.mem_cons, Prod.mk.injEq, List.not_mem_nil, or_false] at t1
    obtain ⟨t1, t3⟩ := t1
    · subst t1 t3 t2
      unfold exn at w1
      simp (disch := omega) only [eq_t, eq_f, ↓reduceIte] at w1
      simp (disch := omega) only [↓q_brd, ↓q_gdd, ↓q_lts, ↓reduceIte, ↓q_bds, ↓zq_smi, ↓zq_smr, iI_add, iI_sub, iI_mul, iI_neg, iI_ab3, iI_div, z_emod, aI_rd, aI_wr, aR0, aW0, aR1, aW1, aR2, aW2, aR3, aW3, aR4, aW4, iI_inT, iI_lt, iI_le, iI_eq, lt_t, lt_f, le_t, le_f, eq_t, eq_f, bz_z, bz_o, bz_zo, bzT, bzF, n_em, zu_s, zu_n, not_true_eq_false, not_false_eq_true, and_self, true_and, and_true, false_and, and_false, true_or, or_true, false_or, or_false, or_self, Int.add_sub_cancel, n_0, n_1, n_2, n_3, n_4, n_5, n_6, n_7, n_8, n_9, n_10, n_11, n_12, n_13, n_14, n_15, n_16, n_17, n_18, n_19, n_20, n_21, n_22, n_23, n_24, n_25, n_26, n_27, n_28, n_29, n_30, n_31, n_32, n_33, n_34, n_35, n_36, n_37, n_40, n_44, n_48, n_50, n_57, n_58, n_60, n_65, n_66, n_67, n_68, n_69, n_70, n_71, n_73, n_77, n_80, n_83, n_97, n_98, n_99, n_100, n_101, n_102, n_103, n_104, n_105, n_106, n_107, n_108, n_109, n_110, n_111, n_112, n_113, n_114, n_115, n_116, n_117, n_118, n_120, n_121, n_122, n_180, n_255, n_539, n_600, n_616, n_1200, n_2000, n_3600, n_8400, n_65536, ea, w1, z_begin2, w2a, w3, lg_self, updL0, xq1_xq1, xq1_xq2, xq1_xq3, xq2_xq1, xq2_xq2, xq2_xq3, xq3_xq1, xq3_xq2, xq3_xq3]
      exact ⟨_, _, _, rfl, ⟨_, rfl, w4, w5⟩, ⟨_, _, rfl, rfl, w6⟩, i3, i4, i5, i6, i7⟩
set_option maxHeartbeats 4000000 in
theorem lc_7 {IL : Line_t → (Nat → Int32) → Int32 → Prop} {x : VB_t} {y : Model_t} {z : Nat → Int64} {w : Nat → UInt64} {xs : Nat → Int32} {n : Nat} {i : Int} (hI : Inv IL x y) (hi : 0 ≤ i ∧ i + 2 < n ∧ n ≤ 10000) : ∃ x2 y2 z2, f_c7 x y z w xs n (iI i) = some (x2, y2, z2, w) ∧ Inv IL x2 y2 := by
  obtain ⟨⟨G, v1, v2, v3⟩, ⟨h, ch, u1, u2, u3⟩, i3, i4, i5, i6, i7⟩ := hI
  obtain ⟨B, hBe⟩ : ∃ B, y.1.2.1 = aI B := ⟨_, aI_of _⟩
  have ra := iI_rng (xs (iI i + 1).toNatClampNeg)
  have ea := iI_of (xs (iI i + 1).toNatClampNeg)
  have rb := iI_rng (xs (iI i + 2).toNatClampNeg)
  have eb := iI_of (xs (iI i + 2).toNatClampNeg)
  generalize (xs (iI i + 1).toNatClampNeg).toInt = a at ra ea
  rw [show (1 : Int32) = iI 1 from rfl, iI_add] at ea
  generalize (xs (iI i + 2).toNatClampNeg).toInt = b at rb eb
  rw [show (2 : Int32) = iI 2 from rfl, iI_add] at eb
  obtain ⟨res, V2, hs2, G2, h2, c2, r2, thr, w1, ⟨r3, G3, w2, w3⟩, w4, w5, w6, w7⟩ := z_change (B := B) (op_6 v2 v3 (a := a) (b := b) ⟨ra, rb⟩) v2 v3 u3
  have w2a : ∀ th, f_X11_addsTone _ th _ _ = _ := w2
  unfold f_c7 f_case7 f_L_addTone f_X10_addTone f_X11_addTone f_X11_thrown
  rw [v1, u1, u2, hBe]
  rcases w7 with ⟨t1, t2, t3⟩ | ⟨code, t1, t2⟩
  · subst t1 t2
    simp (disch := omega) only [↓q_brd, ↓q_gdd, ↓q_lts, ↓reduceIte, ↓q_bds, ↓zq_smi, ↓zq_smr, iI_add, iI_sub, iI_mul, iI_neg, iI_ab3, iI_div, z_emod, aI_rd, aI_wr, aR0, aW0, aR1, aW1, aR2, aW2, aR3, aW3, aR4, aW4, iI_inT, iI_lt, iI_le, iI_eq, lt_t, lt_f, le_t, le_f, eq_t, eq_f, bz_z, bz_o, bz_zo, bzT, bzF, n_em, zu_s, zu_n, not_true_eq_false, not_false_eq_true, and_self, true_and, and_true, false_and, and_false, true_or, or_true, false_or, or_false, or_self, Int.add_sub_cancel, n_0, n_1, n_2, n_3, n_4, n_5, n_6, n_7, n_8, n_9, n_10, n_11, n_12, n_13, n_14, n_15, n_16, n_17, n_18, n_19, n_20, n_21, n_22, n_23, n_24, n_25, n_26, n_27, n_28, n_29, n_30, n_31, n_32, n_33, n_34, n_35, n_36, n_37, n_40, n_44, n_48, n_50, n_57, n_58, n_60, n_65, n_66, n_67, n_68, n_69, n_70, n_71, n_73, n_77, n_80, n_83, n_97, n_98, n_99, n_100, n_101, n_102, n_103, n_104, n_105, n_106, n_107, n_108, n_109, n_110, n_111, n_112, n_113, n_114, n_115, n_116, n_117, n_118, n_120, n_121, n_122, n_180, n_255, n_539, n_600, n_616, n_1200, n_2000, n_3600, n_8400, n_65536, ea, eb, w1, z_begin2, w2a, w3, lg_self, updL0, xq1_xq1, xq1_xq2, xq1_xq3, xq2_xq1, xq2_xq2, xq2_xq3, xq3_xq1, xq3_xq2, xq3_xq3]
    exact ⟨_, _, _, rfl, ⟨_, rfl, w4, w5⟩, ⟨_, _, rfl, rfl, w6⟩, i3, i4, i5, i6, i7⟩
  · simp only [fc, List.mem_cons, Prod.mk.injEq, List.not_mem_nil, or_false] at t1
    rcases t1 with ⟨t1, t3⟩ | ⟨t1, t3⟩
    · subst t1 t3 t2
      unfold exn at w1
      simp (disch := omega) only [eq_t, eq_f, ↓reduceIte] at w1
      simp (disch := omega) only [↓q_brd, ↓q_gdd, ↓q_lts, ↓reduceIte, ↓q_bds, ↓zq_smi, ↓zq_smr, iI_add, iI_sub, iI_mul, iI_neg, iI_ab3, iI_div, z_emod, aI_rd, aI_wr, aR0, aW0, aR1, aW1, aR2, aW2, aR3, aW3, aR4, aW4, iI_inT, iI_lt, iI_le, iI_eq, lt_t, lt_f, le_t, le_f, eq_t, eq_f, bz_z, bz_o, bz_zo, bzT, bzF, n_em, zu_s, zu_n, not_true_eq_false, not_false_eq_true, and_self, true_and, and_true, false_and, and_false, true_or, or_true, false_or, or_false, or_self, Int.add_sub_cancel, n_0, n_1, n_2, n_3, n_4, n_5, n_6, n_7, n_8, n_9, n_10, n_11, n_12, n_13, n_14, n_15, n_16, n_17, n_18, n_19, n_20, n_21, n_22, n_23, n_24, n_25, n_26, n_27, n_28, n_29, n_30, n_31, n_32, n_33, n_34, n_35, n_36, n_37, n_40, n_44, n_48, n_50, n_57, n_58, n_60, n_65, n_66, n_67, n_68, n_69, n_70, n_71, n_73, n_77, n_80, n_83, n_97, n_98, n_99, n_100, n_101, n_102, n_103, n_104, n_105, n_106, n_107, n_108, n_109, n_110, n_111, n_112, n_113, n_114, n_115, n_116, n_117, n_118, n_120, n_121, n_122, n_180, n_255, n_539, n_600, n_616, n_1200, n_2000, n_3600, n_8400, n_65536, ea, eb, w1, z_begin2, w2a, w3, lg_self, updL0, xq1_xq1, xq1_xq2, xq1_xq3, xq2_xq1, xq2_xq2, xq2_xq3, xq3_xq1, xq3_xq2, xq3_xq3]
      exact ⟨_, _, _, rfl, ⟨_, rfl, w4, w5⟩, ⟨_, _, rfl, rfl, w6⟩, i3, i4, i5, i6, i7⟩
    · subst t1 t3 t2
      unfold exn at w1
      simp (disch := omega) only [eq_t, eq_f, ↓reduceIte] at w1
      simp (disch := omega) only [↓q_brd, ↓q_gdd, ↓q_lts, ↓reduceIte, ↓q_bds, ↓zq_smi, ↓zq_smr, iI_add, iI_sub, iI_mul, iI_neg, iI_ab3, iI_div, z_emod, aI_rd, aI_wr, aR0, aW0, aR1, aW1, aR2, aW2, aR3, aW3, aR4, aW4, iI_inT, iI_lt, iI_le, iI_eq, lt_t, lt_f, le_t, le_f, eq_t, eq_f, bz_z, bz_o, bz_zo, bzT, bzF, n_em, zu_s, zu_n, not_true_eq_false, not_false_eq_true, and_self, true_and, and_true, false_and, and_false, true_or, or_true, false_or, or_false, or_self, Int.add_sub_cancel, n_0, n_1, n_2, n_3, n_4, n_5, n_6, n_7, n_8, n_9, n_10, n_11, n_12, n_13, n_14, n_15, n_16, n_17, n_18, n_19, n_20, n_21, n_22, n_23, n_24, n_25, n_26, n_27, n_28, n_29, n_30, n_31, n_32, n_33, n_34, n_35, n_36, n_37, n_40, n_44, n_48, n_50, n_57, n_58, n_60, n_65, n_66, n_67, n_68, n_69, n_70, n_71, n_73, n_77, n_80, n_83, n_97, n_98, n_99, n_100, n_101, n_102, n_103, n_104, n_105, n_106, n_107, n_108, n_109, n_110, n_111, n_112, n_113, n_114, n_115, n_116, n_117, n_118, n_120, n_121, n_122, n_180, n_255, n_539, n_600, n_616, n_1200, n_2000, n_3600, n_8400, n_65536, ea, eb, w1, z_begin2, w2a, w3, lg_self, updL0, xq1_xq1, xq1_xq2, xq1_xq3, xq2_xq1, xq2_xq2, xq2_xq3, xq3_xq1, xq3_xq2, xq3_xq3]
      exact ⟨_, _, _, rfl, ⟨_, rfl, w4, w5⟩, ⟨_, _, rfl, rfl, w6⟩, i3, i4, i5, i6, i7⟩
set_option maxHeartbeats 4000000 in
theorem lc_8 {IL : Line_t → (Nat → Int32) → Int32 → Prop} {x : VB_t} {y : Model_t} {z : Nat → Int64} {w : Nat → UInt64} {xs : Nat → Int32} {n : Nat} {i : Int} (hI : Inv IL x y) (hi : 0 ≤ i ∧ i + 2 < n ∧ n ≤ 10000) : ∃ x2 y2 z2, f_c8 x y z w xs n (iI i) = some (x2, y2, z2, w) ∧ Inv IL x2 y2 := by
  obtain ⟨⟨G, v1, v2, v3⟩, ⟨h, ch, u1, u2, u3⟩, i3, i4, i5, i6, i7⟩ := hI
  obtain ⟨B, hBe⟩ : ∃ B, y.1.2.1 = aI B := ⟨_, aI_of _⟩
  have ra := iI_rng (xs (iI i + 1).toNatClampNeg)
  have ea := iI_of (xs (iI i + 1).toNatClampNeg)
  generalize (xs (iI i + 1).toNatClampNeg).toInt = a at ra ea
  rw [show (1 : Int32) = iI 1 from rfl, iI_add] at ea
  obtain ⟨res, V2, hs2, G2, h2, c2, r2, thr, w1, ⟨r3, G3, w2, w3⟩, w4, w5, w6, w7⟩ := z_change (B := B) (op_7 v2 v3 (a := a) (b := 0) ⟨ra, by omega⟩) v2 v3 u3
  have w2a : ∀ th, f_X11_clears _ th _ = _ := w2
  unfold f_c8 f_case8 f_L_clearMelody f_X10_clearMelody f_X11_clearMelody f_X11_thrown
  rw [v1, u1, u2, hBe]
  rcases w7 with ⟨t1, t2, t3⟩ | ⟨code, t1, t2⟩
  · subst t1 t2
    simp (disch := omega) only [↓q_brd, ↓q_gdd, ↓q_lts, ↓reduceIte, ↓q_bds, ↓zq_smi, ↓zq_smr, iI_add, iI_sub, iI_mul, iI_neg, iI_ab3, iI_div, z_emod, aI_rd, aI_wr, aR0, aW0, aR1, aW1, aR2, aW2, aR3, aW3, aR4, aW4, iI_inT, iI_lt, iI_le, iI_eq, lt_t, lt_f, le_t, le_f, eq_t, eq_f, bz_z, bz_o, bz_zo, bzT, bzF, n_em, zu_s, zu_n, not_true_eq_false, not_false_eq_true, and_self, true_and, and_true, false_and, and_false, true_or, or_true, false_or, or_false, or_self, Int.add_sub_cancel, n_0, n_1, n_2, n_3, n_4, n_5, n_6, n_7, n_8, n_9, n_10, n_11, n_12, n_13, n_14, n_15, n_16, n_17, n_18, n_19, n_20, n_21, n_22, n_23, n_24, n_25, n_26, n_27, n_28, n_29, n_30, n_31, n_32, n_33, n_34, n_35, n_36, n_37, n_40, n_44, n_48, n_50, n_57, n_58, n_60, n_65, n_66, n_67, n_68, n_69, n_70, n_71, n_73, n_77, n_80, n_83, n_97, n_98, n_99, n_100, n_101, n_102, n_103, n_104, n_105, n_106, n_107, n_108, n_109, n_110, n_111, n_112, n_113, n_114, n_115, n_116, n_117, n_118, n_120, n_121, n_122, n_180, n_255, n_539, n_600, n_616, n_1200, n_2000, n_3600, n_8400, n_65536, ea, w1, z_begin2, w2a, w3, lg_self, updL0, xq1_xq1, xq1_xq2, xq1_xq3, xq2_xq1, xq2_xq2, xq2_xq3, xq3_xq1, xq3_xq2, xq3_xq3]
    exact ⟨_, _, _, rfl, ⟨_, rfl, w4, w5⟩, ⟨_, _, rfl, rfl, w6⟩, i3, i4, i5, i6, i7⟩
  · simp only [fc, List.mem_cons, Prod.mk.injEq, List.not_mem_nil, or_false] at t1
    obtain ⟨t1, t3⟩ := t1
    · subst t1 t3 t2
      unfold exn at w1
      simp (disch := omega) only [eq_t, eq_f, ↓reduceIte] at w1
      simp (disch := omega) only [↓q_brd, ↓q_gdd, ↓q_lts, ↓reduceIte, ↓q_bds, ↓zq_smi, ↓zq_smr, iI_add, iI_sub, iI_mul, iI_neg, iI_ab3, iI_div, z_emod, aI_rd, aI_wr, aR0, aW0, aR1, aW1, aR2, aW2, aR3, aW3, aR4, aW4, iI_inT, iI_lt, iI_le, iI_eq, lt_t, lt_f, le_t, le_f, eq_t, eq_f, bz_z, bz_o, bz_zo, bzT, bzF, n_em, zu_s, zu_n, not_true_eq_false, not_false_eq_true, and_self, true_and, and_true, false_and, and_false, true_or, or_true, false_or, or_false, or_self, Int.add_sub_cancel, n_0, n_1, n_2, n_3, n_4, n_5, n_6, n_7, n_8, n_9, n_10, n_11, n_12, n_13, n_14, n_15, n_16, n_17, n_18, n_19, n_20, n_21, n_22, n_23, n_24, n_25, n_26, n_27, n_28, n_29, n_30, n_31, n_32, n_33, n_34, n_35, n_36, n_37, n_40, n_44, n_48, n_50, n_57, n_58, n_60, n_65, n_66, n_67, n_68, n_69, n_70, n_71, n_73, n_77, n_80, n_83, n_97, n_98, n_99, n_100, n_101, n_102, n_103, n_104, n_105, n_106, n_107, n_108, n_109, n_110, n_111, n_112, n_113, n_114, n_115, n_116, n_117, n_118, n_120, n_121, n_122, n_180, n_255, n_539, n_600, n_616, n_1200, n_2000, n_3600, n_8400, n_65536, ea, w1, z_begin2, w2a, w3, lg_self, updL0, xq1_xq1, xq1_xq2, xq1_xq3, xq2_xq1, xq2_xq2, xq2_xq3, xq3_xq1, xq3_xq2, xq3_xq3]
      exact ⟨_, _, _, rfl, ⟨_, rfl, w4, w5⟩, ⟨_, _, rfl, rfl, w6⟩, i3, i4, i5, i6, i7⟩
set_option maxHeartbeats 4000000 in
theorem lc_9 {IL : Line_t → (Nat → Int32) → Int32 → Prop} {x : VB_t} {y : Model_t} {z : Nat → Int64} {w : Nat → UInt64} {xs : Nat → Int32} {n : Nat} {i : Int} (hI : Inv IL x y) (hi : 0 ≤ i ∧ i + 2 < n ∧ n ≤ 10000) : ∃ x2 y2 z2, f_c9 x y z w xs n (iI i) = some (x2, y2, z2, w) ∧ Inv IL x2 y2 := by
  obtain ⟨⟨G, v1, v2, v3⟩, ⟨h, ch, u1, u2, u3⟩, i3, i4, i5, i6, i7⟩ := hI
  obtain ⟨B, hBe⟩ : ∃ B, y.1.2.1 = aI B := ⟨_, aI_of _⟩
  have ra := iI_rng (xs (iI i + 1).toNatClampNeg)
  have ea := iI_of (xs (iI i + 1).toNatClampNeg)
  have rb := iI_rng (xs (iI i + 2).toNatClampNeg)
  have eb := iI_of (xs (iI i + 2).toNatClampNeg)
  generalize (xs (iI i + 1).toNatClampNeg).toInt = a at ra ea
  rw [show (1 : Int32) = iI 1 from rfl, iI_add] at ea
  generalize (xs (iI i + 2).toNatClampNeg).toInt = b at rb eb
  rw [show (2 : Int32) = iI 2 from rfl, iI_add] at eb
  obtain ⟨res, V2, hs2, G2, h2, c2, r2, thr, w1, ⟨r3, G3, w2, w3⟩, w4, w5, w6, w7⟩ := z_change (B := B) (op_8 v2 v3 (a := a) (b := b) ⟨ra, rb⟩) v2 v3 u3
  have w2a : ∀ th, f_X11_enters _ th _ _ = _ := w2
  unfold f_c9 f_case9 f_L_setEntry f_X10_setEntry f_X11_setEntry f_X11_thrown
  rw [v1, u1, u2, hBe]
  rcases w7 with ⟨t1, t2, t3⟩ | ⟨code, t1, t2⟩
  · subst t1 t2
    simp (disch := omega) only [↓q_brd, ↓q_gdd, ↓q_lts, ↓reduceIte, ↓q_bds, ↓zq_smi, ↓zq_smr, iI_add, iI_sub, iI_mul, iI_neg, iI_ab3, iI_div, z_emod, aI_rd, aI_wr, aR0, aW0, aR1, aW1, aR2, aW2, aR3, aW3, aR4, aW4, iI_inT, iI_lt, iI_le, iI_eq, lt_t, lt_f, le_t, le_f, eq_t, eq_f, bz_z, bz_o, bz_zo, bzT, bzF, n_em, zu_s, zu_n, not_true_eq_false, not_false_eq_true, and_self, true_and, and_true, false_and, and_false, true_or, or_true, false_or, or_false, or_self, Int.add_sub_cancel, n_0, n_1, n_2, n_3, n_4, n_5, n_6, n_7, n_8, n_9, n_10, n_11, n_12, n_13, n_14, n_15, n_16, n_17, n_18, n_19, n_20, n_21, n_22, n_23, n_24, n_25, n_26, n_27, n_28, n_29, n_30, n_31, n_32, n_33, n_34, n_35, n_36, n_37, n_40, n_44, n_48, n_50, n_57, n_58, n_60, n_65, n_66, n_67, n_68, n_69, n_70, n_71, n_73, n_77, n_80, n_83, n_97, n_98, n_99, n_100, n_101, n_102, n_103, n_104, n_105, n_106, n_107, n_108, n_109, n_110, n_111, n_112, n_113, n_114, n_115, n_116, n_117, n_118, n_120, n_121, n_122, n_180, n_255, n_539, n_600, n_616, n_1200, n_2000, n_3600, n_8400, n_65536, ea, eb, w1, z_begin2, w2a, w3, lg_self, updL0, xq1_xq1, xq1_xq2, xq1_xq3, xq2_xq1, xq2_xq2, xq2_xq3, xq3_xq1, xq3_xq2, xq3_xq3]
    exact ⟨_, _, _, rfl, ⟨_, rfl, w4, w5⟩, ⟨_, _, rfl, rfl, w6⟩, i3, i4, i5, i6, i7⟩
  · simp only [fc, List.mem_cons, Prod.mk.injEq, List.not_mem_nil, or_false] at t1
    rcases t1 with ⟨t1, t3⟩ | ⟨t1, t3⟩
    · subst t1 t3 t2
      unfold exn at w1
      simp (disch := omega) only [eq_t, eq_f, ↓reduceIte] at w1
      simp (disch := omega) only [↓q_brd, ↓q_gdd, ↓q_lts, ↓reduceIte, ↓q_bds, ↓zq_smi, ↓zq_smr, iI_add, iI_sub, iI_mul, iI_neg, iI_ab3, iI_div, z_emod, aI_rd, aI_wr, aR0, aW0, aR1, aW1, aR2, aW2, aR3, aW3, aR4, aW4, iI_inT, iI_lt, iI_le, iI_eq, lt_t, lt_f, le_t, le_f, eq_t, eq_f, bz_z, bz_o, bz_zo, bzT, bzF, n_em, zu_s, zu_n, not_true_eq_false, not_false_eq_true, and_self, true_and, and_true, false_and, and_false, true_or, or_true, false_or, or_false, or_self, Int.add_sub_cancel, n_0, n_1, n_2, n_3, n_4, n_5, n_6, n_7, n_8, n_9, n_10, n_11, n_12, n_13, n_14, n_15, n_16, n_17, n_18, n_19, n_20, n_21, n_22, n_23, n_24, n_25, n_26, n_27, n_28, n_29, n_30, n_31, n_32, n_33, n_34, n_35, n_36, n_37, n_40, n_44, n_48, n_50, n_57, n_58, n_60, n_65, n_66, n_67, n_68, n_69, n_70, n_71, n_73, n_77, n_80, n_83, n_97, n_98, n_99, n_100, n_101, n_102, n_103, n_104, n_105, n_106, n_107, n_108, n_109, n_110, n_111, n_112, n_113, n_114, n_115, n_116, n_117, n_118, n_120, n_121, n_122, n_180, n_255, n_539, n_600, n_616, n_1200, n_2000, n_3600, n_8400, n_65536, ea, eb, w1, z_begin2, w2a, w3, lg_self, updL0, xq1_xq1, xq1_xq2, xq1_xq3, xq2_xq1, xq2_xq2, xq2_xq3, xq3_xq1, xq3_xq2, xq3_xq3]
      exact ⟨_, _, _, rfl, ⟨_, rfl, w4, w5⟩, ⟨_, _, rfl, rfl, w6⟩, i3, i4, i5, i6, i7⟩
    · subst t1 t3 t2
      unfold exn at w1
      simp (disch := omega) only [eq_t, eq_f, ↓reduceIte] at w1
      simp (disch := omega) only [↓q_brd, ↓q_gdd, ↓q_lts, ↓reduceIte, ↓q_bds, ↓zq_smi, ↓zq_smr, iI_add, iI_sub, iI_mul, iI_neg, iI_ab3, iI_div, z_emod, aI_rd, aI_wr, aR0, aW0, aR1, aW1, aR2, aW2, aR3, aW3, aR4, aW4, iI_inT, iI_lt, iI_le, iI_eq, lt_t, lt_f, le_t, le_f, eq_t, eq_f, bz_z, bz_o, bz_zo, bzT, bzF, n_em, zu_s, zu_n, not_true_eq_false, not_false_eq_true, and_self, true_and, and_true, false_and, and_false, true_or, or_true, false_or, or_false, or_self, Int.add_sub_cancel, n_0, n_1, n_2, n_3, n_4, n_5, n_6, n_7, n_8, n_9, n_10, n_11, n_12, n_13, n_14, n_15, n_16, n_17, n_18, n_19, n_20, n_21, n_22, n_23, n_24, n_25, n_26, n_27, n_28, n_29, n_30, n_31, n_32, n_33, n_34, n_35, n_36, n_37, n_40, n_44, n_48, n_50, n_57, n_58, n_60, n_65, n_66, n_67, n_68, n_69, n_70, n_71, n_73, n_77, n_80, n_83, n_97, n_98, n_99, n_100, n_101, n_102, n_103, n_104, n_105, n_106, n_107, n_108, n_109, n_110, n_111, n_112, n_113, n_114, n_115, n_116, n_117, n_118, n_120, n_121, n_122, n_180, n_255, n_539, n_600, n_616, n_1200, n_2000, n_3600, n_8400, n_65536, ea, eb, w1, z_begin2, w2a, w3, lg_self, updL0, xq1_xq1, xq1_xq2, xq1_xq3, xq2_xq1, xq2_xq2, xq2_xq3, xq3_xq1, xq3_xq2, xq3_xq3]
      exact ⟨_, _, _, rfl, ⟨_, rfl, w4, w5⟩, ⟨_, _, rfl, rfl, w6⟩, i3, i4, i5, i6, i7⟩
set_option maxHeartbeats 4000000 in
theorem lc_10 {IL : Line_t → (Nat → Int32) → Int32 → Prop} {x : VB_t} {y : Model_t} {z : Nat → Int64} {w : Nat → UInt64} {xs : Nat → Int32} {n : Nat} {i : Int} (hI : Inv IL x y) (hi : 0 ≤ i ∧ i + 2 < n ∧ n ≤ 10000) : ∃ x2 y2 z2, f_c10 x y z w xs n (iI i) = some (x2, y2, z2, w) ∧ Inv IL x2 y2 := by
  obtain ⟨⟨G, v1, v2, v3⟩, ⟨h, ch, u1, u2, u3⟩, i3, i4, i5, i6, i7⟩ := hI
  obtain ⟨B, hBe⟩ : ∃ B, y.1.2.1 = aI B := ⟨_, aI_of _⟩
  have ra := iI_rng (xs (iI i + 1).toNatClampNeg)
  have ea := iI_of (xs (iI i + 1).toNatClampNeg)
  have rb := iI_rng (xs (iI i + 2).toNatClampNeg)
  have eb := iI_of (xs (iI i + 2).toNatClampNeg)
  generalize (xs (iI i + 1).toNatClampNeg).toInt = a at ra ea
  rw [show (1 : Int32) = iI 1 from rfl, iI_add] at ea
  generalize (xs (iI i + 2).toNatClampNeg).toInt = b at rb eb
  rw [show (2 : Int32) = iI 2 from rfl, iI_add] at eb
  obtain ⟨res, V2, hs2, G2, h2, c2, r2, thr, w1, ⟨r3, G3, w2, w3⟩, w4, w5, w6, w7⟩ := z_change (B := B) (op_9 v2 v3 (a := a) (b := b) ⟨ra, rb⟩) v2 v3 u3
  have w2a : ∀ th, f_X11_addsCliff _ th _ _ = _ := w2
  unfold f_c10 f_case10 f_L_addCliff f_X10_addCliff f_X11_addCliff f_X11_thrown
  rw [v1, u1, u2, hBe]
  rcases w7 with ⟨t1, t2, t3⟩ | ⟨code, t1, t2⟩
  · subst t1 t2
    simp (disch := omega) only [↓q_brd, ↓q_gdd, ↓q_lts, ↓reduceIte, ↓q_bds, ↓zq_smi, ↓zq_smr, iI_add, iI_sub, iI_mul, iI_neg, iI_ab3, iI_div, z_emod, aI_rd, aI_wr, aR0, aW0, aR1, aW1, aR2, aW2, aR3, aW3, aR4, aW4, iI_inT, iI_lt, iI_le, iI_eq, lt_t, lt_f, le_t, le_f, eq_t, eq_f, bz_z, bz_o, bz_zo, bzT, bzF, n_em, zu_s, zu_n, not_true_eq_false, not_false_eq_true, and_self, true_and, and_true, false_and, and_false, true_or, or_true, false_or, or_false, or_self, Int.add_sub_cancel, n_0, n_1, n_2, n_3, n_4, n_5, n_6, n_7, n_8, n_9, n_10, n_11, n_12, n_13, n_14, n_15, n_16, n_17, n_18, n_19, n_20, n_21, n_22, n_23, n_24, n_25, n_26, n_27, n_28, n_29, n_30, n_31, n_32, n_33, n_34, n_35, n_36, n_37, n_40, n_44, n_48, n_50, n_57, n_58, n_60, n_65, n_66, n_67, n_68, n_69, n_70, n_71, n_73, n_77, n_80, n_83, n_97, n_98, n_99, n_100, n_101, n_102, n_103, n_104, n_105, n_106, n_107, n_108, n_109, n_110, n_111, n_112, n_113, n_114, n_115, n_116, n_117, n_118, n_120, n_121, n_122, n_180, n_255, n_539, n_600, n_616, n_1200, n_2000, n_3600, n_8400, n_65536, ea, eb, w1, z_begin2, w2a, w3, lg_self, updL0, xq1_xq1, xq1_xq2, xq1_xq3, xq2_xq1, xq2_xq2, xq2_xq3, xq3_xq1, xq3_xq2, xq3_xq3]
    exact ⟨_, _, _, rfl, ⟨_, rfl, w4, w5⟩, ⟨_, _, rfl, rfl, w6⟩, i3, i4, i5, i6, i7⟩
  · simp only [fc, List.mem_cons, Prod.mk.injEq, List.not_mem_nil, or_false] at t1
    rcases t1 with ⟨t1, t3⟩ | ⟨t1, t3⟩
    · subst t1 t3 t2
      unfold exn at w1
      simp (disch := omega) only [eq_t, eq_f, ↓reduceIte] at w1
      simp (disch := omega) only [↓q_brd, ↓q_gdd, ↓q_lts, ↓reduceIte, ↓q_bds, ↓zq_smi, ↓zq_smr, iI_add, iI_sub, iI_mul, iI_neg, iI_ab3, iI_div, z_emod, aI_rd, aI_wr, aR0, aW0, aR1, aW1, aR2, aW2, aR3, aW3, aR4, aW4, iI_inT, iI_lt, iI_le, iI_eq, lt_t, lt_f, le_t, le_f, eq_t, eq_f, bz_z, bz_o, bz_zo, bzT, bzF, n_em, zu_s, zu_n, not_true_eq_false, not_false_eq_true, and_self, true_and, and_true, false_and, and_false, true_or, or_true, false_or, or_false, or_self, Int.add_sub_cancel, n_0, n_1, n_2, n_3, n_4, n_5, n_6, n_7, n_8, n_9, n_10, n_11, n_12, n_13, n_14, n_15, n_16, n_17, n_18, n_19, n_20, n_21, n_22, n_23, n_24, n_25, n_26, n_27, n_28, n_29, n_30, n_31, n_32, n_33, n_34, n_35, n_36, n_37, n_40, n_44, n_48, n_50, n_57, n_58, n_60, n_65, n_66, n_67, n_68, n_69, n_70, n_71, n_73, n_77, n_80, n_83, n_97, n_98, n_99, n_100, n_101, n_102, n_103, n_104, n_105, n_106, n_107, n_108, n_109, n_110, n_111, n_112, n_113, n_114, n_115, n_116, n_117, n_118, n_120, n_121, n_122, n_180, n_255, n_539, n_600, n_616, n_1200, n_2000, n_3600, n_8400, n_65536, ea, eb, w1, z_begin2, w2a, w3, lg_self, updL0, xq1_xq1, xq1_xq2, xq1_xq3, xq2_xq1, xq2_xq2, xq2_xq3, xq3_xq1, xq3_xq2, xq3_xq3]
      exact ⟨_, _, _, rfl, ⟨_, rfl, w4, w5⟩, ⟨_, _, rfl, rfl, w6⟩, i3, i4, i5, i6, i7⟩
    · subst t1 t3 t2
      unfold exn at w1
      simp (disch := omega) only [eq_t, eq_f, ↓reduceIte] at w1
      simp (disch := omega) only [↓q_brd, ↓q_gdd, ↓q_lts, ↓reduceIte, ↓q_bds, ↓zq_smi, ↓zq_smr, iI_add, iI_sub, iI_mul, iI_neg, iI_ab3, iI_div, z_emod, aI_rd, aI_wr, aR0, aW0, aR1, aW1, aR2, aW2, aR3, aW3, aR4, aW4, iI_inT, iI_lt, iI_le, iI_eq, lt_t, lt_f, le_t, le_f, eq_t, eq_f, bz_z, bz_o, bz_zo, bzT, bzF, n_em, zu_s, zu_n, not_true_eq_false, not_false_eq_true, and_self, true_and, and_true, false_and, and_false, true_or, or_true, false_or, or_false, or_self, Int.add_sub_cancel, n_0, n_1, n_2, n_3, n_4, n_5, n_6, n_7, n_8, n_9, n_10, n_11, n_12, n_13, n_14, n_15, n_16, n_17, n_18, n_19, n_20, n_21, n_22, n_23, n_24, n_25, n_26, n_27, n_28, n_29, n_30, n_31, n_32, n_33, n_34, n_35, n_36, n_37, n_40, n_44, n_48, n_50, n_57, n_58, n_60, n_65, n_66, n_67, n_68, n_69, n_70, n_71, n_73, n_77, n_80, n_83, n_97, n_98, n_99, n_100, n_101, n_102, n_103, n_104, n_105, n_106, n_107, n_108, n_109, n_110, n_111, n_112, n_113, n_114, n_115, n_116, n_117, n_118, n_120, n_121, n_122, n_180, n_255, n_539, n_600, n_616, n_1200, n_2000, n_3600, n_8400, n_65536, ea, eb, w1, z_begin2, w2a, w3, lg_self, updL0, xq1_xq1, xq1_xq2, xq1_xq3, xq2_xq1, xq2_xq2, xq2_xq3, xq3_xq1, xq3_xq2, xq3_xq3]
      exact ⟨_, _, _, rfl, ⟨_, rfl, w4, w5⟩, ⟨_, _, rfl, rfl, w6⟩, i3, i4, i5, i6, i7⟩
set_option maxHeartbeats 4000000 in
theorem lc_11 {IL : Line_t → (Nat → Int32) → Int32 → Prop} {x : VB_t} {y : Model_t} {z : Nat → Int64} {w : Nat → UInt64} {xs : Nat → Int32} {n : Nat} {i : Int} (hI : Inv IL x y) (hi : 0 ≤ i ∧ i + 2 < n ∧ n ≤ 10000) : ∃ x2 y2 z2, f_c11 x y z w xs n (iI i) = some (x2, y2, z2, w) ∧ Inv IL x2 y2 := by
  obtain ⟨⟨G, v1, v2, v3⟩, ⟨h, ch, u1, u2, u3⟩, i3, i4, i5, i6, i7⟩ := hI
  obtain ⟨B, hBe⟩ : ∃ B, y.1.2.1 = aI B := ⟨_, aI_of _⟩
  have ra := iI_rng (xs (iI i + 1).toNatClampNeg)
  have ea := iI_of (xs (iI i + 1).toNatClampNeg)
  generalize (xs (iI i + 1).toNatClampNeg).toInt = a at ra ea
  rw [show (1 : Int32) = iI 1 from rfl, iI_add] at ea
  obtain ⟨res, V2, hs2, G2, h2, c2, r2, thr, w1, ⟨r3, G3, w2, w3⟩, w4, w5, w6, w7⟩ := z_change (B := B) (op_10 v2 v3 (a := a) (b := 0) ⟨ra, by omega⟩) v2 v3 u3
  have w2a : ∀ th, f_X11_fells _ th _ = _ := w2
  unfold f_c11 f_case11 f_L_removeCliff f_X10_removeCliff f_X11_removeCliff f_X11_thrown
  rw [v1, u1, u2, hBe]
  rcases w7 with ⟨t1, t2, t3⟩ | ⟨code, t1, t2⟩
  · subst t1 t2
    simp (disch := omega) only [↓q_brd, ↓q_gdd, ↓q_lts, ↓reduceIte, ↓q_bds, ↓zq_smi, ↓zq_smr, iI_add, iI_sub, iI_mul, iI_neg, iI_ab3, iI_div, z_emod, aI_rd, aI_wr, aR0, aW0, aR1, aW1, aR2, aW2, aR3, aW3, aR4, aW4, iI_inT, iI_lt, iI_le, iI_eq, lt_t, lt_f, le_t, le_f, eq_t, eq_f, bz_z, bz_o, bz_zo, bzT, bzF, n_em, zu_s, zu_n, not_true_eq_false, not_false_eq_true, and_self, true_and, and_true, false_and, and_false, true_or, or_true, false_or, or_false, or_self, Int.add_sub_cancel, n_0, n_1, n_2, n_3, n_4, n_5, n_6, n_7, n_8, n_9, n_10, n_11, n_12, n_13, n_14, n_15, n_16, n_17, n_18, n_19, n_20, n_21, n_22, n_23, n_24, n_25, n_26, n_27, n_28, n_29, n_30, n_31, n_32, n_33, n_34, n_35, n_36, n_37, n_40, n_44, n_48, n_50, n_57, n_58, n_60, n_65, n_66, n_67, n_68, n_69, n_70, n_71, n_73, n_77, n_80, n_83, n_97, n_98, n_99, n_100, n_101, n_102, n_103, n_104, n_105, n_106, n_107, n_108, n_109, n_110, n_111, n_112, n_113, n_114, n_115, n_116, n_117, n_118, n_120, n_121, n_122, n_180, n_255, n_539, n_600, n_616, n_1200, n_2000, n_3600, n_8400, n_65536, ea, w1, z_begin2, w2a, w3, lg_self, updL0, xq1_xq1, xq1_xq2, xq1_xq3, xq2_xq1, xq2_xq2, xq2_xq3, xq3_xq1, xq3_xq2, xq3_xq3]
    exact ⟨_, _, _, rfl, ⟨_, rfl, w4, w5⟩, ⟨_, _, rfl, rfl, w6⟩, i3, i4, i5, i6, i7⟩
  · simp only [fc, List.mem_cons, Prod.mk.injEq, List.not_mem_nil, or_false] at t1
    obtain ⟨t1, t3⟩ := t1
    · subst t1 t3 t2
      unfold exn at w1
      simp (disch := omega) only [eq_t, eq_f, ↓reduceIte] at w1
      simp (disch := omega) only [↓q_brd, ↓q_gdd, ↓q_lts, ↓reduceIte, ↓q_bds, ↓zq_smi, ↓zq_smr, iI_add, iI_sub, iI_mul, iI_neg, iI_ab3, iI_div, z_emod, aI_rd, aI_wr, aR0, aW0, aR1, aW1, aR2, aW2, aR3, aW3, aR4, aW4, iI_inT, iI_lt, iI_le, iI_eq, lt_t, lt_f, le_t, le_f, eq_t, eq_f, bz_z, bz_o, bz_zo, bzT, bzF, n_em, zu_s, zu_n, not_true_eq_false, not_false_eq_true, and_self, true_and, and_true, false_and, and_false, true_or, or_true, false_or, or_false, or_self, Int.add_sub_cancel, n_0, n_1, n_2, n_3, n_4, n_5, n_6, n_7, n_8, n_9, n_10, n_11, n_12, n_13, n_14, n_15, n_16, n_17, n_18, n_19, n_20, n_21, n_22, n_23, n_24, n_25, n_26, n_27, n_28, n_29, n_30, n_31, n_32, n_33, n_34, n_35, n_36, n_37, n_40, n_44, n_48, n_50, n_57, n_58, n_60, n_65, n_66, n_67, n_68, n_69, n_70, n_71, n_73, n_77, n_80, n_83, n_97, n_98, n_99, n_100, n_101, n_102, n_103, n_104, n_105, n_106, n_107, n_108, n_109, n_110, n_111, n_112, n_113, n_114, n_115, n_116, n_117, n_118, n_120, n_121, n_122, n_180, n_255, n_539, n_600, n_616, n_1200, n_2000, n_3600, n_8400, n_65536, ea, w1, z_begin2, w2a, w3, lg_self, updL0, xq1_xq1, xq1_xq2, xq1_xq3, xq2_xq1, xq2_xq2, xq2_xq3, xq3_xq1, xq3_xq2, xq3_xq3]
      exact ⟨_, _, _, rfl, ⟨_, rfl, w4, w5⟩, ⟨_, _, rfl, rfl, w6⟩, i3, i4, i5, i6, i7⟩
