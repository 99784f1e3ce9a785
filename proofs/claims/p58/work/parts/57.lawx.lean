/-! ===== the first two objects ===== -/
theorem cO5 {V : Valley_t} {a b c : Int32} : cO V 5 a b = cO V 5 a c := by
  show q_bd (f_X6_tolerate V.1.2.2 a) _ = q_bd (f_X6_tolerate V.1.2.2 a) _
  rfl
theorem cO7 {V : Valley_t} {a b c : Int32} : cO V 7 a b = cO V 7 a c := by
  show q_bd (f_X7_silence V.2.2.1.1 a) _ = q_bd (f_X7_silence V.2.2.1.1 a) _
  rfl
theorem no4g {V : Valley_t} {G : Int → Int} (hV : RV V G) {a b : Int} (hr : (-2147483648 ≤ a ∧ a < 2147483648) ∧ (-2147483648 ≤ b ∧ b < 2147483648)) (c1 : ¬ (0 ≤ a ∧ a ≤ 11)) (h01 : b = 0 ∨ b = 1) : cO V 4 (iI a) (iI b) = some (fl (iI (-2)) V) := by
  obtain ⟨H, P, L, E, T, D, S, rfl, hB, hM, hC⟩ := hV
  show q_lt (fun (j9 : Int32) => q_bd (f_X6_choose _ _ _ j9) _) (fun J => q_br (_ = 1) (J 1) (J 0)) = _
  rcases h01 with e | e <;> subst e
  · unfold f_X6_choose
    try simp (disch := omega) only [iI_add, iI_sub, iI_mul, iI_neg, n_0, n_1, n_2, n_3, n_4, n_5, n_6, n_7, n_8, n_9, n_10, n_11, n_12, n_13, n_14, n_15, n_16, n_17, n_18, n_19, n_20, n_21, n_22, n_23, n_24, n_25, n_26, n_27, n_28, n_29, n_30, n_31, n_32, n_33, n_34, n_35, n_36, n_37, n_40, n_44, n_48, n_50, n_57, n_58, n_60, n_65, n_66, n_67, n_68, n_69, n_70, n_71, n_73, n_77, n_80, n_83, n_97, n_98, n_99, n_100, n_101, n_102, n_103, n_104, n_105, n_106, n_107, n_108, n_109, n_110, n_111, n_112, n_113, n_114, n_115, n_116, n_117, n_118, n_120, n_121, n_122, n_180, n_255, n_539, n_600, n_616, n_1200, n_2000, n_3600, n_8400, n_65536, z_isWithin, zt_01, zt_11]
    simp (disch := omega) only [↓q_brd, ↓q_gdd, ↓q_lts, ↓reduceIte, ↓q_bds, ↓zq_smi, ↓zq_smr, iI_add, iI_sub, iI_mul, iI_neg, iI_ab3, iI_div, z_emod, aI_rd, aI_wr, aR0, aW0, aR1, aW1, aR2, aW2, aR3, aW3, aR4, aW4, iI_inT, iI_lt, iI_le, iI_eq, lt_t, lt_f, le_t, le_f, eq_t, eq_f, bz_z, bz_o, bz_zo, bzT, bzF, n_em, zu_s, zu_n, not_true_eq_false, not_false_eq_true, and_self, true_and, and_true, false_and, and_false, true_or, or_true, false_or, or_false, or_self, Int.add_sub_cancel, n_0, n_1, n_2, n_3, n_4, n_5, n_6, n_7, n_8, n_9, n_10, n_11, n_12, n_13, n_14, n_15, n_16, n_17, n_18, n_19, n_20, n_21, n_22, n_23, n_24, n_25, n_26, n_27, n_28, n_29, n_30, n_31, n_32, n_33, n_34, n_35, n_36, n_37, n_40, n_44, n_48, n_50, n_57, n_58, n_60, n_65, n_66, n_67, n_68, n_69, n_70, n_71, n_73, n_77, n_80, n_83, n_97, n_98, n_99, n_100, n_101, n_102, n_103, n_104, n_105, n_106, n_107, n_108, n_109, n_110, n_111, n_112, n_113, n_114, n_115, n_116, n_117, n_118, n_120, n_121, n_122, n_180, n_255, n_539, n_600, n_616, n_1200, n_2000, n_3600, n_8400, n_65536, z_isWithin, zt_01, zt_11]
    rw [if_pos c1]
    rfl
  · unfold f_X6_choose
    try simp (disch := omega) only [iI_add, iI_sub, iI_mul, iI_neg, n_0, n_1, n_2, n_3, n_4, n_5, n_6, n_7, n_8, n_9, n_10, n_11, n_12, n_13, n_14, n_15, n_16, n_17, n_18, n_19, n_20, n_21, n_22, n_23, n_24, n_25, n_26, n_27, n_28, n_29, n_30, n_31, n_32, n_33, n_34, n_35, n_36, n_37, n_40, n_44, n_48, n_50, n_57, n_58, n_60, n_65, n_66, n_67, n_68, n_69, n_70, n_71, n_73, n_77, n_80, n_83, n_97, n_98, n_99, n_100, n_101, n_102, n_103, n_104, n_105, n_106, n_107, n_108, n_109, n_110, n_111, n_112, n_113, n_114, n_115, n_116, n_117, n_118, n_120, n_121, n_122, n_180, n_255, n_539, n_600, n_616, n_1200, n_2000, n_3600, n_8400, n_65536, z_isWithin, zt_01, zt_11]
    simp (disch := omega) only [↓q_brd, ↓q_gdd, ↓q_lts, ↓reduceIte, ↓q_bds, ↓zq_smi, ↓zq_smr, iI_add, iI_sub, iI_mul, iI_neg, iI_ab3, iI_div, z_emod, aI_rd, aI_wr, aR0, aW0, aR1, aW1, aR2, aW2, aR3, aW3, aR4, aW4, iI_inT, iI_lt, iI_le, iI_eq, lt_t, lt_f, le_t, le_f, eq_t, eq_f, bz_z, bz_o, bz_zo, bzT, bzF, n_em, zu_s, zu_n, not_true_eq_false, not_false_eq_true, and_self, true_and, and_true, false_and, and_false, true_or, or_true, false_or, or_false, or_self, Int.add_sub_cancel, n_0, n_1, n_2, n_3, n_4, n_5, n_6, n_7, n_8, n_9, n_10, n_11, n_12, n_13, n_14, n_15, n_16, n_17, n_18, n_19, n_20, n_21, n_22, n_23, n_24, n_25, n_26, n_27, n_28, n_29, n_30, n_31, n_32, n_33, n_34, n_35, n_36, n_37, n_40, n_44, n_48, n_50, n_57, n_58, n_60, n_65, n_66, n_67, n_68, n_69, n_70, n_71, n_73, n_77, n_80, n_83, n_97, n_98, n_99, n_100, n_101, n_102, n_103, n_104, n_105, n_106, n_107, n_108, n_109, n_110, n_111, n_112, n_113, n_114, n_115, n_116, n_117, n_118, n_120, n_121, n_122, n_180, n_255, n_539, n_600, n_616, n_1200, n_2000, n_3600, n_8400, n_65536, z_isWithin, zt_01, zt_11]
    rw [if_pos c1]
    rfl
theorem no4 {V : Valley_t} {G : Int → Int} (hV : RV V G) : cO V 4 12 0 = some (fl (iI (-2)) V) := no4g hV (a := 12) (b := 0) (by omega) (by omega) (by omega)
theorem no1 {V : Valley_t} {G : Int → Int} (hV : RV V G) (hG : VOk G) {b : Int32} : cO V 1 12 b = some (fl (iI (-1)) V) := by
  obtain ⟨H, P, L, E, T, D, S, rfl, hB, hM, hC⟩ := hV
  have g0 := hG.1
  show q_bd (f_X9_takeAway _ _ _ _ _ _) _ = _
  unfold f_X9_takeAway
  try simp (disch := omega) only [iI_add, iI_sub, iI_mul, iI_neg, n_0, n_1, n_2, n_3, n_4, n_5, n_6, n_7, n_8, n_9, n_10, n_11, n_12, n_13, n_14, n_15, n_16, n_17, n_18, n_19, n_20, n_21, n_22, n_23, n_24, n_25, n_26, n_27, n_28, n_29, n_30, n_31, n_32, n_33, n_34, n_35, n_36, n_37, n_40, n_44, n_48, n_50, n_57, n_58, n_60, n_65, n_66, n_67, n_68, n_69, n_70, n_71, n_73, n_77, n_80, n_83, n_97, n_98, n_99, n_100, n_101, n_102, n_103, n_104, n_105, n_106, n_107, n_108, n_109, n_110, n_111, n_112, n_113, n_114, n_115, n_116, n_117, n_118, n_120, n_121, n_122, n_180, n_255, n_539, n_600, n_616, n_1200, n_2000, n_3600, n_8400, n_65536, z_has]
  simp (disch := omega) only [↓q_brd, ↓q_gdd, ↓q_lts, ↓reduceIte, ↓q_bds, ↓zq_smi, ↓zq_smr, iI_add, iI_sub, iI_mul, iI_neg, iI_ab3, iI_div, z_emod, aI_rd, aI_wr, aR0, aW0, aR1, aW1, aR2, aW2, aR3, aW3, aR4, aW4, iI_inT, iI_lt, iI_le, iI_eq, lt_t, lt_f, le_t, le_f, eq_t, eq_f, bz_z, bz_o, bz_zo, bzT, bzF, n_em, zu_s, zu_n, not_true_eq_false, not_false_eq_true, and_self, true_and, and_true, false_and, and_false, true_or, or_true, false_or, or_false, or_self, Int.add_sub_cancel, n_0, n_1, n_2, n_3, n_4, n_5, n_6, n_7, n_8, n_9, n_10, n_11, n_12, n_13, n_14, n_15, n_16, n_17, n_18, n_19, n_20, n_21, n_22, n_23, n_24, n_25, n_26, n_27, n_28, n_29, n_30, n_31, n_32, n_33, n_34, n_35, n_36, n_37, n_40, n_44, n_48, n_50, n_57, n_58, n_60, n_65, n_66, n_67, n_68, n_69, n_70, n_71, n_73, n_77, n_80, n_83, n_97, n_98, n_99, n_100, n_101, n_102, n_103, n_104, n_105, n_106, n_107, n_108, n_109, n_110, n_111, n_112, n_113, n_114, n_115, n_116, n_117, n_118, n_120, n_121, n_122, n_180, n_255, n_539, n_600, n_616, n_1200, n_2000, n_3600, n_8400, n_65536, z_has]
theorem save_ok {V sv SV : Valley_t} {hs : Hist_t} {P : Prog_t} {C : Chord_t} {tk : Key_t} {ln : Line_t} {is er fc : Int32} (h : q_vcp sv V = some SV) : g_X10_save (XZ V sv hs P C tk ln is er fc) = some (XZ V SV hs P C tk ln 1 er fc) := by
  unfold q_vcp at h
  obtain ⟨q, hq, h⟩ := q_bdi h
  cases Option.some.inj h
  unfold g_X10_save f_X10_save
  show q_bd (q_bd (f_X9_copyFrom sv.1.1 sv.1.2.1 sv.1.2.2 sv.2.1.1 sv.2.1.2.1 sv.2.1.2.2 sv.2.2.1.1 sv.2.2.1.2.1 sv.2.2.1.2.2 sv.2.2.2.1 sv.2.2.2.2.1 sv.2.2.2.2.2 V.1.1 V.1.2.1 V.1.2.2 V.2.1.1 V.2.1.2.1 V.2.1.2.2 V.2.2.1.1 V.2.2.1.2.1 V.2.2.1.2.2 V.2.2.2.1 V.2.2.2.2.1 V.2.2.2.2.2) _) _ = _
  rw [hq, q_bds, q_bds]
  rfl
theorem rest_ok {V SV V2 : Valley_t} {hs : Hist_t} {P : Prog_t} {C : Chord_t} {tk : Key_t} {ln : Line_t} {er fc : Int32} (h : q_vcp V SV = some V2) : ∃ hs', g_X10_restore (XZ V SV hs P C tk ln 1 er fc) = some (Sum.inl (), XZ V2 SV hs' P C tk ln 1 er fc) := by
  unfold q_vcp at h
  obtain ⟨q, hq, h⟩ := q_bdi h
  cases Option.some.inj h
  refine ⟨(hs.1, hs.2.1, 0), ?_⟩
  unfold g_X10_restore f_X10_restore
  show q_bd (q_br ((1 : Int32) = 0) _ (q_bd (f_X9_copyFrom V.1.1 V.1.2.1 V.1.2.2 V.2.1.1 V.2.1.2.1 V.2.1.2.2 V.2.2.1.1 V.2.2.1.2.1 V.2.2.1.2.2 V.2.2.2.1 V.2.2.2.2.1 V.2.2.2.2.2 SV.1.1 SV.1.2.1 SV.1.2.2 SV.2.1.1 SV.2.1.2.1 SV.2.1.2.2 SV.2.2.1.1 SV.2.2.1.2.1 SV.2.2.1.2.2 SV.2.2.2.1 SV.2.2.2.2.1 SV.2.2.2.2.2) _)) _ = _
  rw [q_brd, if_neg (by decide), hq, q_bds]
  rfl
theorem undo_ok {V sv : Valley_t} {hs : Hist_t} {P : Prog_t} {C : Chord_t} {tk : Key_t} {ln : Line_t} {is er fc : Int32} {G : Int → Int} {l : List (Int → Int)} {n : Nat} (hH : HL hs ((G :: l).take (n + 1))) : ∃ (r : Int) (V2 : Valley_t) (hs' : Hist_t), g_X10_undo (XZ V sv hs P C tk ln is er fc) = some (Sum.inl (iI r), XZ V2 sv hs' P C tk ln is er fc) ∧ (0 ≤ r ∧ r ≤ 100) ∧ RV V2 G ∧ VOk G ∧ HL hs' (l.take n) := by
  have hl : ((G :: l).take (n + 1)).length ≤ 8 := hH.choose_spec.2.2.2.1
  obtain ⟨V2, c2, k2, h1, h2, h3, h4⟩ := HL_undo (L := l.take n) hH V
  refine ⟨((l.take n).length : Int), V2, (hs.1, c2, k2), ?_, ?_, h1, h2, h4⟩
  · unfold g_X10_undo
    show q_bd (undoF hs V) _ = _
    rw [h3, q_bds]
    rfl
  · have : ((G :: l).take (n + 1)).length = (l.take n).length + 1 := rfl
    omega
theorem HL.tt {hs : Hist_t} {l : List (Int → Int)} {m n : Nat} (h : HL hs ((l.take m).take n)) (hnm : n ≤ m) : HL hs (l.take n) := by
  rwa [List.take_take, Nat.min_eq_left hnm] at h
theorem fin4 {q : RD_t} {V V1 V2 V3 V4 : Valley_t} {r1 r2 r3 r4 : Int} (hct : q.2.2.2.2.1 = 4) (k0 : q.2.1 0 = some 4 ∧ q.2.2.1 0 = 7 ∧ q.2.2.2.1 0 = 1) (k1 : q.2.1 1 = some 5 ∧ q.2.2.1 1 = 9 ∧ q.2.2.2.1 1 = 1) (k2 : q.2.1 2 = some 8 ∧ q.2.2.1 2 = 2 ∧ q.2.2.2.1 2 = 3) (k3 : q.2.1 3 = some 7 ∧ q.2.2.1 3 = 1 ∧ q.2.2.2.1 3 = 3)
    (c1 : cO V 4 7 1 = some (fl (iI r1) V1)) (b1 : 0 ≤ r1 ∧ r1 ≤ 100000) (c2 : cO V1 5 9 0 = some (fl (iI r2) V2)) (b2 : 0 ≤ r2 ∧ r2 ≤ 100000) (c3 : cO V2 8 2 3 = some (fl (iI r3) V3)) (b3 : 0 ≤ r3 ∧ r3 ≤ 100000) (c4 : cO V3 7 1 0 = some (fl (iI r4) V4)) (b4 : 0 ≤ r4 ∧ r4 ≤ 100000) : fin q V = some (fl (-1) V4) := by
  unfold fin
  rw [hct]
  refine (fi_ok (n := 1999) (i := 0) (k := 4) (by decide) (by omega) k0.1 (by show cO V 4 (q.2.2.1 0) (q.2.2.2.1 0) = _; rw [k0.2.1, k0.2.2]; exact c1) b1).trans ?_
  refine (fi_ok (n := 1998) (i := 1) (k := 5) (by decide) (by omega) k1.1 (by show cO V1 5 (q.2.2.1 1) (q.2.2.2.1 1) = _; rw [k1.2.1, k1.2.2]; exact cO5.trans c2) b2).trans ?_
  refine (fi_ok (n := 1997) (i := 2) (k := 8) (by decide) (by omega) k2.1 (by show cO V2 8 (q.2.2.1 2) (q.2.2.2.1 2) = _; rw [k2.2.1, k2.2.2]; exact c3) b3).trans ?_
  refine (fi_ok (n := 1996) (i := 3) (k := 7) (by decide) (by omega) k3.1 (by show cO V3 7 (q.2.2.1 3) (q.2.2.2.1 3) = _; rw [k3.2.1, k3.2.2]; exact cO7.trans c4) b4).trans ?_
  exact fi_end (n := 1995) (by decide)
theorem nlt {r : Int} (h : 0 ≤ r ∧ r ≤ 100000) : ¬ iI r < 0 := by
  rw [show (0 : Int32) = iI 0 from rfl, iI_lt (by omega)]; omega
/-- x and y after the first stretch: x as it was built, but for its text buffer; its state saved -/
theorem law1_ok {V : Valley_t} {hs : Hist_t} {G : Int → Int} {L : List (Int → Int)} (hV : RV V G) (hG : VOk G) (hH : HL hs L) : ∃ (V1 SV : Valley_t) (hs1 : Hist_t) (L1 : List (Int → Int)) (y : VB_t), f_law1 (XB V hs) (XB V hs) = some (XZ V1 SV hs1 pX1 C0 tk0 ln0 1 (-1) (-1), y, SG G) ∧ RV V1 G ∧ RV SV G ∧ HL hs1 L1 := by
  obtain ⟨SV, s1, s2⟩ := RV_cpy v_init hG hV
  obtain ⟨r1, V1, G1, c1, b1, R1, O1⟩ := (op_4 hV hG (a := 7) (b := 1) ⟨by omega, by omega⟩ (by omega)).ok (show 0 ≤ (7 : Int) ∧ (7 : Int) ≤ 11 by omega)
  obtain ⟨r2, V2, G2, c2, b2, R2, O2⟩ := (op_5 R1 O1 (a := 9) (b := 0) ⟨by omega, by omega⟩).ok (show 0 ≤ (9 : Int) ∧ (9 : Int) ≤ 50 by omega)
  obtain ⟨r3, V3, G3, c3, b3, R3, O3⟩ := (op_8 R2 O2 (a := 2) (b := 3) ⟨by omega, by omega⟩).ok (show (0 ≤ (2 : Int) ∧ (2 : Int) ≤ 3) ∧ 0 ≤ (3 : Int) ∧ (3 : Int) ≤ 15 by omega)
  obtain ⟨r4, V4, G4, c4, b4, R4, O4⟩ := (op_7 R3 O3 (a := 1) (b := 0) ⟨by omega, by omega⟩).ok (show 0 ≤ (1 : Int) ∧ (1 : Int) ≤ 3 by omega)
  have c1' : cO V 4 7 1 = some (fl (iI r1) V1) := c1
  have c2' : cO V1 5 9 0 = some (fl (iI r2) V2) := c2
  have c3' : cO V2 8 2 3 = some (fl (iI r3) V3) := c3
  have c4' : cO V3 7 1 0 = some (fl (iI r4) V4) := c4
  -- x
  have x0 := save_ok (hs := hs) (P := P0) (C := C0) (tk := tk0) (ln := ln0) (is := 0) (er := -1) (fc := -1) s1
  have x1 := st_ok (sv := SV) (hs := hs) (P := P0) (C := C0) (tk := tk0) (ln := ln0) (is := 1) (er := -1) (fc := -1) hV hG
  have x2 := put_ok (V := V) (sv := SV) (hs := hs) (P := P0) (C := C0) (tk := tk0) (ln := ln0) (is := 1) (er := -1) (fc := -1) eA1
  obtain ⟨hx, x3, h3⟩ := runZ_ok (V := V) (V' := V4) (sv := SV) (hs := hs) (P := pA1) (C := C0) (tk := tk0) (ln := ln0) (is := 1) (er := -1) (fc := -1) eQ1 fQ1 hV hG hH (fin4 cQ1 k0_Q1 k1_Q1 k2_Q1 k3_Q1 c1' b1 c2' b2 c3' b3 c4' b4)
  have x3' : g_X10_run (XZ V SV hs pA1 C0 tk0 ln0 1 (-1) (-1)) = some (Sum.inl 4, XZ V4 SV hx pX1 C0 tk0 ln0 1 (-1) (-1)) := by
    rw [← cQ1]; exact x3
  have x4 := st_ok (sv := SV) (hs := hx) (P := pX1) (C := C0) (tk := tk0) (ln := ln0) (is := 1) (er := -1) (fc := -1) R4 O4
  obtain ⟨rx, Vx, hx', x5, bx, Rx, -, h5⟩ := undo_ok (V := V4) (sv := SV) (P := pX1) (C := C0) (tk := tk0) (ln := ln0) (is := 1) (er := -1) (fc := -1) (n := 7) h3
  have x6 := st_ok (sv := SV) (hs := hx') (P := pX1) (C := C0) (tk := tk0) (ln := ln0) (is := 1) (er := -1) (fc := -1) Rx hG
  -- y
  obtain ⟨y1, d1, e1⟩ := zs_ok c1' b1 hV hG hH
  obtain ⟨y2, d2, e2⟩ := zs_ok c2' b2 R1 O1 e1
  obtain ⟨y3, d3, e3⟩ := zs_ok c3' b3 R2 O2 e2
  obtain ⟨y4, d4, e4⟩ := zs_ok c4' b4 R3 O3 e3
  have f1 := gm_setKey1 (sv := v_init) (P := P0) (C := C0) (tk := tk0) (ln := ln0) (is := 0) (er := -1) (fc := -1) d1
  have f2 := gm_setTolerance (sv := v_init) (P := P0) (C := C0) (tk := tk0) (ln := ln0) (is := 0) (er := -1) (fc := -1) d2
  have f3 := gm_setEntry (sv := v_init) (P := P0) (C := C0) (tk := tk0) (ln := ln0) (is := 0) (er := -1) (fc := -1) d3
  have f4 := gm_clearMelody (sv := v_init) (P := P0) (C := C0) (tk := tk0) (ln := ln0) (is := 0) (er := -1) (fc := -1) d4
  have f5 := st_ok (sv := v_init) (hs := y4) (P := P0) (C := C0) (tk := tk0) (ln := ln0) (is := 0) (er := -1) (fc := -1) R4 O4
  obtain ⟨u1, W1, z1, g1, v1, -, -, t1⟩ := undo_ok (V := V4) (sv := v_init) (P := P0) (C := C0) (tk := tk0) (ln := ln0) (is := 0) (er := -1) (fc := -1) (n := 7) e4
  obtain ⟨u2, W2, z2, g2, v2, -, -, t2⟩ := undo_ok (V := W1) (sv := v_init) (P := P0) (C := C0) (tk := tk0) (ln := ln0) (is := 0) (er := -1) (fc := -1) (n := 6) (t1.tt (by omega))
  obtain ⟨u3, W3, z3, g3, v3, -, -, t3⟩ := undo_ok (V := W2) (sv := v_init) (P := P0) (C := C0) (tk := tk0) (ln := ln0) (is := 0) (er := -1) (fc := -1) (n := 5) (t2.tt (by omega))
  obtain ⟨u4, W4, z4, g4, v4, w4, -, t4⟩ := undo_ok (V := W3) (sv := v_init) (P := P0) (C := C0) (tk := tk0) (ln := ln0) (is := 0) (er := -1) (fc := -1) (n := 4) (t3.tt (by omega))
  have f6 := st_ok (sv := v_init) (hs := z4) (P := P0) (C := C0) (tk := tk0) (ln := ln0) (is := 0) (er := -1) (fc := -1) w4 hG
  refine ⟨Vx, SV, hx', L.take 7, XZ W4 v_init z4 P0 C0 tk0 ln0 0 (-1) (-1), ?_, Rx, s2, h5⟩
  unfold f_law1
  rw [x0, q_bds, x1, q_bds, x2, q_bds, x3', q_bds]
  show q_br ((4 : Int32) = 4) _ _ = _
  rw [q_brd, if_pos rfl, f1, q_bds]
  show q_br (iI r1 < 0) _ _ = _
  rw [q_brd, if_neg (nlt b1)]
  show q_bd (g_X10_setTolerance (XZ V1 v_init y1 P0 C0 tk0 ln0 0 (-1) (-1)) 9) _ = _
  rw [f2, q_bds]
  show q_br (iI r2 < 0) _ _ = _
  rw [q_brd, if_neg (nlt b2)]
  show q_bd (g_X10_setEntry (XZ V2 v_init y2 P0 C0 tk0 ln0 0 (-1) (-1)) 2 3) _ = _
  rw [f3, q_bds]
  show q_br (iI r3 < 0) _ _ = _
  rw [q_brd, if_neg (nlt b3)]
  show q_bd (g_X10_clearMelody (XZ V3 v_init y3 P0 C0 tk0 ln0 0 (-1) (-1)) 1) _ = _
  rw [f4, q_bds]
  show q_br (iI r4 < 0) _ _ = _
  rw [q_brd, if_neg (nlt b4)]
  show q_bd (f_L_state (XZ V4 SV hx pX1 C0 tk0 ln0 1 (-1) (-1))) _ = _
  rw [x4, q_bds]
  show q_bd (f_L_state (XZ V4 v_init y4 P0 C0 tk0 ln0 0 (-1) (-1))) _ = _
  rw [f5, q_bds, q_brd, if_pos rfl]
  show q_bd (g_X10_undo (XZ V4 SV hx pX1 C0 tk0 ln0 1 (-1) (-1))) _ = _
  rw [x5, q_bds]
  show q_br (iI rx < 0) _ _ = _
  rw [q_brd, if_neg (nlt ⟨bx.1, by omega⟩)]
  show q_bd (f_L_state (XZ Vx SV hx' pX1 C0 tk0 ln0 1 (-1) (-1))) _ = _
  rw [x6, q_bds, q_brd, if_pos rfl]
  show q_bd (g_X10_undo (XZ V4 v_init y4 P0 C0 tk0 ln0 0 (-1) (-1))) _ = _
  rw [g1, q_bds]
  show q_br (iI u1 < 0) _ _ = _
  rw [q_brd, if_neg (nlt ⟨v1.1, by omega⟩)]
  show q_bd (g_X10_undo (XZ W1 v_init z1 P0 C0 tk0 ln0 0 (-1) (-1))) _ = _
  rw [g2, q_bds]
  show q_br (iI u2 < 0) _ _ = _
  rw [q_brd, if_neg (nlt ⟨v2.1, by omega⟩)]
  show q_bd (g_X10_undo (XZ W2 v_init z2 P0 C0 tk0 ln0 0 (-1) (-1))) _ = _
  rw [g3, q_bds]
  show q_br (iI u3 < 0) _ _ = _
  rw [q_brd, if_neg (nlt ⟨v3.1, by omega⟩)]
  show q_bd (g_X10_undo (XZ W3 v_init z3 P0 C0 tk0 ln0 0 (-1) (-1))) _ = _
  rw [g4, q_bds]
  show q_br (iI u4 < 0) _ _ = _
  rw [q_brd, if_neg (nlt ⟨v4.1, by omega⟩)]
  show q_bd (f_L_state (XZ W4 v_init z4 P0 C0 tk0 ln0 0 (-1) (-1))) _ = _
  rw [f6, q_bds, q_brd, if_pos rfl]
theorem fin2 {q : RD_t} {V V1 : Valley_t} {r1 : Int} (hct : q.2.2.2.2.1 = 2) (k0 : q.2.1 0 = some 4 ∧ q.2.2.1 0 = 7 ∧ q.2.2.2.1 0 = 1) (k1 : q.2.1 1 = some 4 ∧ q.2.2.1 1 = 12 ∧ q.2.2.2.1 1 = 0) (c1 : cO V 4 7 1 = some (fl (iI r1) V1)) (b1 : 0 ≤ r1 ∧ r1 ≤ 100000) (c2 : cO V1 4 12 0 = some (fl (iI (-2)) V1)) : fin q V = some (fl (iI 1) V1) := by
  unfold fin
  rw [hct]
  refine (fi_ok (n := 1999) (i := 0) (k := 4) (by decide) (by omega) k0.1 (by show cO V 4 (q.2.2.1 0) (q.2.2.2.1 0) = _; rw [k0.2.1, k0.2.2]; exact c1) b1).trans ?_
  exact fi_no (n := 1998) (i := 1) (k := 4) (by decide) (by omega) k1.1 (by show cO V1 4 (q.2.2.1 1) (q.2.2.2.1 1) = _; rw [k1.2.1, k1.2.2]; exact c2) (by omega)
theorem fin1 {q : RD_t} {V : Valley_t} (hct : q.2.2.2.2.1 = 1) (k0 : q.2.1 0 = some 1 ∧ q.2.2.1 0 = 12 ∧ q.2.2.2.1 0 = 0) (c1 : cO V 1 12 0 = some (fl (iI (-1)) V)) : fin q V = some (fl (iI 0) V) := by
  unfold fin
  rw [hct]
  exact fi_no (n := 1999) (i := 0) (k := 1) (by decide) (by omega) k0.1 (by show cO V 1 (q.2.2.1 0) (q.2.2.2.1 0) = _; rw [k0.2.1, k0.2.2]; exact c1) (by omega)
theorem law2_0_ok {V SV : Valley_t} {hs : Hist_t} {G : Int → Int} {L : List (Int → Int)} (hV : RV V G) (hG : VOk G) (hH : HL hs L) : ∃ (V1 : Valley_t) (hs1 : Hist_t), f_law2_0 (XZ V SV hs pX1 C0 tk0 ln0 1 (-1) (-1)) (SG G) = some (XZ V1 SV hs1 pX3 C0 tk0 ln0 1 (-1) (iI 0)) ∧ RV V1 G ∧ HL hs1 L := by
  obtain ⟨r1, W1, G1, c1, b1, R1, O1⟩ := (op_4 hV hG (a := 7) (b := 1) ⟨by omega, by omega⟩ (by omega)).ok (show 0 ≤ (7 : Int) ∧ (7 : Int) ≤ 11 by omega)
  have c1' : cO V 4 7 1 = some (fl (iI r1) W1) := c1
  have hf : fin pQ2 V = some (fl (iI 1) W1) := fin2 cQ2 k0_Q2 k1_Q2 c1' b1 (no4 R1)
  obtain ⟨V2, hs2, x2, R2, H2⟩ := runZ_no (sv := SV) (P := pA2) (C := C0) (tk := tk0) (ln := ln0) (is := 1) (er := -1) (fc := -1) eQ2 fQ2 hV hG hH hf (by omega)
  have hf3 : fin pQ3 V2 = some (fl (iI 0) V2) := fin1 cQ3 k0_Q3 (no1 R2 hG)
  obtain ⟨V3, hs3, x3, R3, H3⟩ := runZ_no (sv := SV) (P := pA3) (C := C0) (tk := tk0) (ln := ln0) (is := 1) (er := -1) (fc := iI 1) eQ3 fQ3 R2 hG H2 hf3 (by omega)
  refine ⟨V3, hs3, ?_, R3, H3⟩
  unfold f_law2_0
  rw [put_ok eA2, q_bds, runs_UOE x2, q_bds]
  show q_br ((-2 : Int32) = -2) _ _ = _
  rw [q_brd, if_pos rfl]
  show q_bd (g_X10_failedCommand (XZ V2 SV hs2 pX2 C0 tk0 ln0 1 (-1) (iI 1))) _ = _
  rw [fcm_XZ (by decide), q_bds]
  show q_br (iI 1 = 1) _ _ = _
  rw [q_brd, if_pos (by decide)]
  show q_bd (f_L_state (XZ V2 SV hs2 pX2 C0 tk0 ln0 1 (-1) (iI 1))) _ = _
  rw [st_ok R2 hG, q_bds, q_brd, if_pos rfl]
  show q_bd (f_L_put (XZ V2 SV hs2 pX2 C0 tk0 ln0 1 (-1) (iI 1)) 14) _ = _
  rw [put_ok eA3, q_bds, runs_UOE x3, q_bds]
  show q_br ((-2 : Int32) = -2) _ _ = _
  rw [q_brd, if_pos rfl]
  show q_bd (g_X10_failedCommand (XZ V3 SV hs3 pX3 C0 tk0 ln0 1 (-1) (iI 0))) _ = _
  rw [fcm_XZ (by decide), q_bds]
  show q_br (iI 0 = 0) _ _ = _
  rw [q_brd, if_pos (by decide)]
  rfl
theorem law2_1_ok {V SV : Valley_t} {hs : Hist_t} {G : Int → Int} (hV : RV V G) (hG : VOk G) : f_law2_1 (XZ V SV hs pX3 C0 tk0 ln0 1 (-1) (iI 0)) (SG G) = some (XZ V SV hs pX9 C0 tk0 ln0 1 (6) (iI 0)) := by
  unfold f_law2_1
  rw [st_ok hV hG, q_bds, q_brd, if_pos rfl]
  show q_bd (f_L_fails (XZ V SV hs pX3 C0 tk0 ln0 1 (-1) (iI 0)) 15 1) _ = _
  rw [fails_ok eA4 eQ4 fQ4 (by decide), q_bds]
  show q_br ((1 : Int32) = 0) _ _ = _
  rw [q_brd, if_neg (by decide)]
  show q_bd (f_L_fails (XZ V SV hs pX4 C0 tk0 ln0 1 (1) (iI 0)) 16 2) _ = _
  rw [fails_ok eA5 eQ5 fQ5 (by decide), q_bds]
  show q_br ((1 : Int32) = 0) _ _ = _
  rw [q_brd, if_neg (by decide)]
  show q_bd (f_L_fails (XZ V SV hs pX5 C0 tk0 ln0 1 (2) (iI 0)) 17 2) _ = _
  rw [fails_ok eA6 eQ6 fQ6 (by decide), q_bds]
  show q_br ((1 : Int32) = 0) _ _ = _
  rw [q_brd, if_neg (by decide)]
  show q_bd (f_L_fails (XZ V SV hs pX6 C0 tk0 ln0 1 (2) (iI 0)) 18 10) _ = _
  rw [fails_ok eA7 eQ7 fQ7 (by decide), q_bds]
  show q_br ((1 : Int32) = 0) _ _ = _
  rw [q_brd, if_neg (by decide)]
  show q_bd (f_L_fails (XZ V SV hs pX7 C0 tk0 ln0 1 (10) (iI 0)) 19 5) _ = _
  rw [fails_ok eA8 eQ8 fQ8 (by decide), q_bds]
  show q_br ((1 : Int32) = 0) _ _ = _
  rw [q_brd, if_neg (by decide)]
  show q_bd (f_L_fails (XZ V SV hs pX8 C0 tk0 ln0 1 (5) (iI 0)) 20 6) _ = _
  rw [fails_ok eA9 eQ9 fQ9 (by decide), q_bds]
  show q_br ((1 : Int32) = 0) _ _ = _
  rw [q_brd, if_neg (by decide)]
  rfl
theorem law2_2_ok {V SV : Valley_t} {hs : Hist_t} {G : Int → Int} (hV : RV V G) (hG : VOk G) : f_law2_2 (XZ V SV hs pX9 C0 tk0 ln0 1 (6) (iI 0)) (SG G) = some (XZ V SV hs pX14 C0 tk0 ln0 1 (0) (iI 0)) := by
  unfold f_law2_2
  show q_bd (f_L_fails (XZ V SV hs pX9 C0 tk0 ln0 1 (6) (iI 0)) 21 2) _ = _
  rw [fails_ok eA10 eQ10 fQ10 (by decide), q_bds]
  show q_br ((1 : Int32) = 0) _ _ = _
  rw [q_brd, if_neg (by decide)]
  show q_bd (f_L_fails (XZ V SV hs pX10 C0 tk0 ln0 1 (2) (iI 0)) 22 0) _ = _
  rw [fails_ok eA11 eQ11 fQ11 (by decide), q_bds]
  show q_br ((1 : Int32) = 0) _ _ = _
  rw [q_brd, if_neg (by decide)]
  show q_bd (f_L_fails (XZ V SV hs pX11 C0 tk0 ln0 1 (0) (iI 0)) 23 7) _ = _
  rw [fails_ok eA12 eQ12 fQ12 (by decide), q_bds]
  show q_br ((1 : Int32) = 0) _ _ = _
  rw [q_brd, if_neg (by decide)]
  show q_bd (f_L_fails (XZ V SV hs pX12 C0 tk0 ln0 1 (7) (iI 0)) 24 10) _ = _
  rw [fails_ok eA13 eQ13 fQ13 (by decide), q_bds]
  show q_br ((1 : Int32) = 0) _ _ = _
  rw [q_brd, if_neg (by decide)]
  show q_bd (f_L_fails (XZ V SV hs pX13 C0 tk0 ln0 1 (10) (iI 0)) 25 0) _ = _
  rw [fails_ok eA14 eQ14 fQ14 (by decide), q_bds]
  show q_br ((1 : Int32) = 0) _ _ = _
  rw [q_brd, if_neg (by decide)]
  show q_bd (g_X10_failedCommand (XZ V SV hs pX14 C0 tk0 ln0 1 (0) (iI 0))) _ = _
  rw [fcm_XZ (by decide), q_bds]
  show q_br (iI 0 = 0) _ _ = _
  rw [q_brd, if_pos (by decide)]
  show q_bd (f_L_state (XZ V SV hs pX14 C0 tk0 ln0 1 (0) (iI 0))) _ = _
  rw [st_ok hV hG, q_bds, q_brd, if_pos rfl]
  rfl
theorem law5_ok {V SV : Valley_t} {hs : Hist_t} {G : Int → Int} (hS : RV SV G) (hG : VOk G) : f_law5 (XZ V SV hs pX14 C0 tk0 ln0 1 (0) (iI 0)) (SG G) = some () := by
  obtain ⟨V2, x1, x2⟩ := RV_cpy V hG hS
  obtain ⟨hs', x3⟩ := rest_ok (hs := hs) (P := pX14) (C := C0) (tk := tk0) (ln := ln0) (er := 0) (fc := iI 0) x1
  unfold f_law5
  rw [x3, q_bds]
  show q_bd (f_L_state (XZ V2 SV hs' pX14 C0 tk0 ln0 1 (0) (iI 0))) _ = _
  rw [st_ok x2 hG, q_bds, q_brd, if_pos rfl]
/-- the whole law, on every script -/
theorem law_true (L : Nat) (hL : L ≤ 260) (xs : Nat → Int32) : ∃ bd, f_L_build L xs = some bd ∧ f_law bd L xs = some () := by
  obtain ⟨V, hs, ⟨G, l, hV, hG, hH⟩, hb⟩ := build_ok L hL xs
  refine ⟨_, hb, ?_⟩
  obtain ⟨V1, SV, hs1, L1, y, e1, R1, S1, H1⟩ := law1_ok hV hG hH
  obtain ⟨V2, hs2, e2, R2, H2⟩ := law2_0_ok (SV := SV) R1 hG H1
  obtain ⟨v, hv⟩ := at_ok L hL xs (i := 13) (by omega)
  obtain ⟨a, ha, hqa⟩ := and_rng v 15 (by decide)
  obtain ⟨b, hbb, hqb⟩ := and_rng (v >>> ((4 : Int32) &&& 31)) 7 (by decide)
  have h3 : f_law3 L xs = some (iI a - 8, 1 + iI b) := by
    unfold f_law3
    show q_bd (f_L_at L xs (iI 13)) _ = _
    rw [hv, q_bds, q_lts, q_lts]
    show some ((v &&& iI 15) - 8, 1 + ((v >>> ((4 : Int32) &&& 31)) &&& iI 7)) = _
    rw [show (v &&& iI 15) = iI a from hqa, show ((v >>> ((4 : Int32) &&& 31)) &&& iI 7) = iI b from hqb]
  have hz := z_all (a := a) (b := b) (by omega) (by omega)
  unfold zAll at hz
  obtain ⟨w0, d0, hz⟩ := q_bdi hz
  obtain ⟨w1, d1, hz⟩ := q_bdi hz
  obtain ⟨w2, d2, hz⟩ := q_bdi hz
  obtain ⟨w3, d3, hz⟩ := q_bdi hz
  obtain ⟨w4, d4, hz⟩ := q_bdi hz
  obtain ⟨w5, d5, hz⟩ := q_bdi hz
  obtain ⟨w6, d6, hz⟩ := q_bdi hz
  obtain ⟨w7, d7, hz⟩ := q_bdi hz
  obtain ⟨w8, d8, hz⟩ := q_bdi hz
  unfold f_law
  rw [e1, q_bds]
  show q_bd (f_law2_0 (XZ V1 SV hs1 pX1 C0 tk0 ln0 1 (-1) (-1)) (SG G)) _ = _
  rw [e2, q_bds]
  show q_bd (f_law2_1 (XZ V2 SV hs2 pX3 C0 tk0 ln0 1 (-1) (iI 0)) (SG G)) _ = _
  rw [law2_1_ok R2 hG, q_bds]
  show q_bd (f_law2_2 (XZ V2 SV hs2 pX9 C0 tk0 ln0 1 (6) (iI 0)) (SG G)) _ = _
  rw [law2_2_ok R2 hG, q_bds, h3, q_bds]
  show q_bd (f_law4_0 vbi (iI a - 8) (1 + iI b)) _ = _
  rw [d0, q_bds]
  show q_bd (f_law4_1 w0 (iI a - 8) (1 + iI b)) _ = _
  rw [d1, q_bds]
  show q_bd (f_law4_2 w1 (iI a - 8) (1 + iI b)) _ = _
  rw [d2, q_bds]
  show q_bd (f_law4_3 w2 (iI a - 8) (1 + iI b)) _ = _
  rw [d3, q_bds]
  show q_bd (f_law4_4 w3 (iI a - 8) (1 + iI b)) _ = _
  rw [d4, q_bds]
  show q_bd (f_law4_5 w4 (iI a - 8) (1 + iI b)) _ = _
  rw [d5, q_bds]
  show q_bd (f_law4_6 w5 (iI a - 8) (1 + iI b)) _ = _
  rw [d6, q_bds]
  show q_bd (f_law4_7 w6 (iI a - 8) (1 + iI b)) _ = _
  rw [d7, q_bds]
  show q_bd (f_law4_8 w7 (iI a - 8) (1 + iI b)) _ = _
  rw [d8, q_bds]
  exact law5_ok S1 hG
