theorem RV_cong {V : Valley_t} {G G2 : Int → Int} (h : ∀ t, 0 ≤ t → t < 77 → G2 t = G t) (hG : VOk G) (hR : RV V G) : RV V G2 := by
  obtain ⟨H, P, L, E, T, D, S, rfl, hB, hM, hC⟩ := hR
  obtain ⟨g0, g1, g2, g3, g4, hb, hm, hc⟩ := id hG
  refine ⟨H, P, L, E, T, D, S, ?_, ?_, ?_, ?_⟩
  · rw [h 0 (by omega) (by omega), h 1 (by omega) (by omega), h 2 (by omega) (by omega), h 3 (by omega) (by omega), h 4 (by omega) (by omega)]
  · intro k k0 k1
    rw [h 0 (by omega) (by omega)] at k1
    rw [h _ (by omega) (by omega), h _ (by omega) (by omega)]
    exact hB k k0 k1
  · intro k k0 k1
    obtain ⟨w1, w2, w3⟩ := hm k k0 k1
    rw [h _ (by omega) (by omega), h _ (by omega) (by omega)]
    refine ⟨(hM k k0 k1).1, (hM k k0 k1).2.1, fun j j0 j1 => ?_⟩
    rw [h _ (by omega) (by omega)]
    exact (hM k k0 k1).2.2 j j0 j1
  · intro k k0 k1
    rw [h 1 (by omega) (by omega)] at k1
    rw [h _ (by omega) (by omega), h _ (by omega) (by omega)]
    exact hC k k0 k1
theorem VOk_cong {G G2 : Int → Int} (h : ∀ t, 0 ≤ t → t < 77 → G2 t = G t) (hG : VOk G) : VOk G2 := by
  obtain ⟨g0, g1, g2, g3, g4, hb, hm, hc⟩ := id hG
  refine ⟨by rw [h 0 (by omega) (by omega)]; exact g0, by rw [h 1 (by omega) (by omega)]; exact g1, by rw [h 2 (by omega) (by omega)]; exact g2, by rw [h 3 (by omega) (by omega)]; exact g3, by rw [h 4 (by omega) (by omega)]; exact g4, ?_, ?_, ?_⟩
  · intro k k0 k1
    rw [h 0 (by omega) (by omega)] at k1
    rw [h _ (by omega) (by omega), h _ (by omega) (by omega)]
    exact hb k k0 k1
  · intro k k0 k1
    obtain ⟨w1, w2, w3⟩ := hm k k0 k1
    rw [h _ (by omega) (by omega), h _ (by omega) (by omega), h 0 (by omega) (by omega)]
    refine ⟨w1, w2, fun j j0 j1 => ?_⟩
    rw [h _ (by omega) (by omega)]
    exact w3 j j0 j1
  · intro k k0 k1
    rw [h 1 (by omega) (by omega)] at k1
    rw [h _ (by omega) (by omega), h _ (by omega) (by omega)]
    exact hc k k0 k1
theorem cpy_aI {f g : Int → Int} {n : Nat} : va_cpy (aI f) (aI g) 0 0 n = aI (fun t => if 0 ≤ t ∧ t < n then f t else g t) := by
  funext k
  show (if 0 ≤ k ∧ k < 0 + n then aI f (0 + (k - 0)) else aI g k) = iI (if 0 ≤ (k : Int) ∧ (k : Int) < n then f k else g k)
  by_cases e : k < n
  · rw [if_pos (by omega), if_pos (by omega), show 0 + (k - 0) = k by omega]; rfl
  · rw [if_neg (by omega), if_neg (by omega)]; rfl
theorem RV_cpy (W : Valley_t) {V : Valley_t} {G : Int → Int} (hG : VOk G) (hR : RV V G) : ∃ V2, q_vcp W V = some V2 ∧ RV V2 G := by
  obtain ⟨H, P, L, E, T, D, S, rfl, hB, hM, hC⟩ := hR
  obtain ⟨g0, g1, g2, g3, g4, hb, hm, hc⟩ := id hG
  obtain ⟨⟨w1, w2, w3⟩, ⟨wH, wP, wn⟩, ⟨wL, wE, wT⟩, ⟨wD, wS, wc⟩⟩ := W
  obtain ⟨H2, rfl⟩ : ∃ f, wH = aI f := ⟨_, aI_of wH⟩
  obtain ⟨P2, rfl⟩ : ∃ f, wP = aI f := ⟨_, aI_of wP⟩
  obtain ⟨L2, rfl⟩ : ∃ f, wL = aI f := ⟨_, aI_of wL⟩
  obtain ⟨E2, rfl⟩ : ∃ f, wE = aI f := ⟨_, aI_of wE⟩
  obtain ⟨T2, rfl⟩ : ∃ f, wT = aI f := ⟨_, aI_of wT⟩
  obtain ⟨D2, rfl⟩ : ∃ f, wD = aI f := ⟨_, aI_of wD⟩
  obtain ⟨S2, rfl⟩ : ∃ f, wS = aI f := ⟨_, aI_of wS⟩
  have e3 : (iI (G 3) = 0 ∨ iI (G 3) = 1) := g3.elim (fun h => Or.inl (by rw [h]; rfl)) (fun h => Or.inr (by rw [h]; rfl))
  refine ⟨((iI (G 2), iI (G 3), iI (G 4)), (aI (fun t => if 0 ≤ t ∧ t < 12 then H t else H2 t), aI (fun t => if 0 ≤ t ∧ t < 12 then P t else P2 t), iI (G 0)), (aI (fun t => if 0 ≤ t ∧ t < 4 then L t else L2 t), aI (fun t => if 0 ≤ t ∧ t < 4 then E t else E2 t), aI (fun t => if 0 ≤ t ∧ t < 32 then T t else T2 t)), (aI (fun t => if 0 ≤ t ∧ t < 4 then D t else D2 t), aI (fun t => if 0 ≤ t ∧ t < 4 then S t else S2 t), iI (G 1))), ?_, ⟨_, _, _, _, _, _, _, rfl, ?_, ?_, ?_⟩⟩
  · unfold q_vcp f_X9_copyFrom f_X6_copyFrom f_X1_copyFrom f_X7_copyFrom f_X3_copyFrom
    rw [cpy_aI, cpy_aI, cpy_aI, cpy_aI, cpy_aI, cpy_aI, cpy_aI]
    show q_bd (q_bd (q_gd (iI (G 3) = 0 ∨ iI (G 3) = 1) _) _) _ = _
    rw [show ∀ k : Option (Int32 × Int32 × Int32), q_gd (iI (G 3) = 0 ∨ iI (G 3) = 1) k = k from fun k => if_pos e3]
    rfl
  · intro k k0 k1
    rw [if_pos (by omega), if_pos (by omega)]
    exact hB k k0 k1
  · intro h x0 x1
    obtain ⟨w1, w2, w3⟩ := hm h x0 x1
    rw [if_pos (by omega), if_pos (by omega)]
    refine ⟨(hM h x0 x1).1, (hM h x0 x1).2.1, fun j j0 j1 => ?_⟩
    rw [if_pos (by omega)]
    exact (hM h x0 x1).2.2 j j0 j1
  · intro k k0 k1
    rw [if_pos (by omega), if_pos (by omega)]
    exact hC k k0 k1
theorem z_copy_L {A : Int → Int} {nx ny : Nat} {p q : Int} (hp : 0 ≤ p ∧ p + 77 ≤ nx ∧ nx ≤ 1000) (hq : 0 ≤ q ∧ q + 77 ≤ ny ∧ ny ≤ 1000) (d : Nat) : ∀ (i : Int) (B : Int → Int) (fuel : Nat), 0 ≤ i → i + d = 77 → d < fuel →
    f_X11_copy_L3 (aI A) nx (iI p) ny (iI q) fuel (iI i) (aI B) = some (aI (fun t => if q + i ≤ t ∧ t < q + 77 then A (p + (t - q)) else B t)) := by
  induction d with
  | zero =>
    intro i B fuel h1 h2 h3
    obtain ⟨fl, rfl⟩ : ∃ fl, fuel = fl + 1 := ⟨fuel - 1, by omega⟩
    unfold f_X11_copy_L3
    simp (disch := omega) only [↓q_brd, ↓q_gdd, ↓q_lts, ↓reduceIte, ↓q_bds, ↓zq_smi, ↓zq_smr, iI_add, iI_sub, iI_mul, iI_neg, iI_ab3, iI_div, z_emod, aI_rd, aI_wr, aR0, aW0, aR1, aW1, aR2, aW2, aR3, aW3, aR4, aW4, iI_inT, iI_lt, iI_le, iI_eq, lt_t, lt_f, le_t, le_f, eq_t, eq_f, bz_z, bz_o, bz_zo, bzT, bzF, n_em, zu_s, zu_n, not_true_eq_false, not_false_eq_true, and_self, true_and, and_true, false_and, and_false, true_or, or_true, false_or, or_false, or_self, Int.add_sub_cancel, n_0, n_1, n_2, n_3, n_4, n_5, n_6, n_7, n_8, n_9, n_10, n_11, n_12, n_13, n_14, n_15, n_16, n_17, n_18, n_19, n_20, n_21, n_22, n_23, n_24, n_25, n_26, n_27, n_28, n_29, n_30, n_31, n_32, n_33, n_34, n_35, n_36, n_37, n_40, n_44, n_48, n_50, n_57, n_58, n_60, n_65, n_66, n_67, n_68, n_69, n_70, n_71, n_73, n_77, n_80, n_83, n_97, n_98, n_99, n_100, n_101, n_102, n_103, n_104, n_105, n_106, n_107, n_108, n_109, n_110, n_111, n_112, n_113, n_114, n_115, n_116, n_117, n_118, n_120, n_121, n_122, n_180, n_255, n_539, n_600, n_616, n_1200, n_2000, n_3600, n_8400, n_65536]
    refine congrArg some (congrArg aI (funext fun t => ?_))
    omega
  | succ d ih =>
    intro i B fuel h1 h2 h3
    obtain ⟨fl, rfl⟩ : ∃ fl, fuel = fl + 1 := ⟨fuel - 1, by omega⟩
    unfold f_X11_copy_L3
    simp (disch := omega) only [↓q_brd, ↓q_gdd, ↓q_lts, ↓reduceIte, ↓q_bds, ↓zq_smi, ↓zq_smr, iI_add, iI_sub, iI_mul, iI_neg, iI_ab3, iI_div, z_emod, aI_rd, aI_wr, aR0, aW0, aR1, aW1, aR2, aW2, aR3, aW3, aR4, aW4, iI_inT, iI_lt, iI_le, iI_eq, lt_t, lt_f, le_t, le_f, eq_t, eq_f, bz_z, bz_o, bz_zo, bzT, bzF, n_em, zu_s, zu_n, not_true_eq_false, not_false_eq_true, and_self, true_and, and_true, false_and, and_false, true_or, or_true, false_or, or_false, or_self, Int.add_sub_cancel, n_0, n_1, n_2, n_3, n_4, n_5, n_6, n_7, n_8, n_9, n_10, n_11, n_12, n_13, n_14, n_15, n_16, n_17, n_18, n_19, n_20, n_21, n_22, n_23, n_24, n_25, n_26, n_27, n_28, n_29, n_30, n_31, n_32, n_33, n_34, n_35, n_36, n_37, n_40, n_44, n_48, n_50, n_57, n_58, n_60, n_65, n_66, n_67, n_68, n_69, n_70, n_71, n_73, n_77, n_80, n_83, n_97, n_98, n_99, n_100, n_101, n_102, n_103, n_104, n_105, n_106, n_107, n_108, n_109, n_110, n_111, n_112, n_113, n_114, n_115, n_116, n_117, n_118, n_120, n_121, n_122, n_180, n_255, n_539, n_600, n_616, n_1200, n_2000, n_3600, n_8400, n_65536]
    rw [ih (i + 1) _ fl (by omega) (by omega) (by omega)]
    refine congrArg some (congrArg aI (funext fun t => ?_))
    have w1 : t = q + i → A (p + (t - q)) = A (p + i) := fun h => by rw [h, show q + i - q = i by omega]
    simp only [zu]
    omega
theorem z_copy {A B : Int → Int} {nx ny : Nat} {p q : Int} (hp : 0 ≤ p ∧ p + 77 ≤ nx ∧ nx ≤ 1000) (hq : 0 ≤ q ∧ q + 77 ≤ ny ∧ ny ≤ 1000) : f_X11_copy (aI A) (aI B) nx (iI p) ny (iI q) = some (aI (fun t => if q ≤ t ∧ t < q + 77 then A (p + (t - q)) else B t)) := by
  unfold f_X11_copy
  rw [show (0 : Int32) = iI 0 from rfl, z_copy_L hp hq 77 0 B 2000 (by omega) rfl (by omega), show q + 0 = q by omega]
theorem z_shift_L (K : (Nat → Int32) → Option (Int32 × (Nat → Int32) × (Nat → Int32) × Int32)) (d : Nat) : ∀ (i : Int) (h : Int → Int) (fuel : Nat), 0 ≤ i → i + d = 539 → d < fuel →
    f_X11_kept_L33 K fuel (iI i) (aI h) = K (aI (fun t => if i ≤ t ∧ t < 539 then h (t + 77) else h t)) := by
  induction d with
  | zero =>
    intro i h fuel h1 h2 h3
    obtain ⟨fl, rfl⟩ : ∃ fl, fuel = fl + 1 := ⟨fuel - 1, by omega⟩
    unfold f_X11_kept_L33
    simp (disch := omega) only [↓q_brd, ↓q_gdd, ↓q_lts, ↓reduceIte, ↓q_bds, ↓zq_smi, ↓zq_smr, iI_add, iI_sub, iI_mul, iI_neg, iI_ab3, iI_div, z_emod, aI_rd, aI_wr, aR0, aW0, aR1, aW1, aR2, aW2, aR3, aW3, aR4, aW4, iI_inT, iI_lt, iI_le, iI_eq, lt_t, lt_f, le_t, le_f, eq_t, eq_f, bz_z, bz_o, bz_zo, bzT, bzF, n_em, zu_s, zu_n, not_true_eq_false, not_false_eq_true, and_self, true_and, and_true, false_and, and_false, true_or, or_true, false_or, or_false, or_self, Int.add_sub_cancel, n_0, n_1, n_2, n_3, n_4, n_5, n_6, n_7, n_8, n_9, n_10, n_11, n_12, n_13, n_14, n_15, n_16, n_17, n_18, n_19, n_20, n_21, n_22, n_23, n_24, n_25, n_26, n_27, n_28, n_29, n_30, n_31, n_32, n_33, n_34, n_35, n_36, n_37, n_40, n_44, n_48, n_50, n_57, n_58, n_60, n_65, n_66, n_67, n_68, n_69, n_70, n_71, n_73, n_77, n_80, n_83, n_97, n_98, n_99, n_100, n_101, n_102, n_103, n_104, n_105, n_106, n_107, n_108, n_109, n_110, n_111, n_112, n_113, n_114, n_115, n_116, n_117, n_118, n_120, n_121, n_122, n_180, n_255, n_539, n_600, n_616, n_1200, n_2000, n_3600, n_8400, n_65536]
    refine congrArg K (congrArg aI (funext fun t => ?_))
    omega
  | succ d ih =>
    intro i h fuel h1 h2 h3
    obtain ⟨fl, rfl⟩ : ∃ fl, fuel = fl + 1 := ⟨fuel - 1, by omega⟩
    unfold f_X11_kept_L33
    simp (disch := omega) only [↓q_brd, ↓q_gdd, ↓q_lts, ↓reduceIte, ↓q_bds, ↓zq_smi, ↓zq_smr, iI_add, iI_sub, iI_mul, iI_neg, iI_ab3, iI_div, z_emod, aI_rd, aI_wr, aR0, aW0, aR1, aW1, aR2, aW2, aR3, aW3, aR4, aW4, iI_inT, iI_lt, iI_le, iI_eq, lt_t, lt_f, le_t, le_f, eq_t, eq_f, bz_z, bz_o, bz_zo, bzT, bzF, n_em, zu_s, zu_n, not_true_eq_false, not_false_eq_true, and_self, true_and, and_true, false_and, and_false, true_or, or_true, false_or, or_false, or_self, Int.add_sub_cancel, n_0, n_1, n_2, n_3, n_4, n_5, n_6, n_7, n_8, n_9, n_10, n_11, n_12, n_13, n_14, n_15, n_16, n_17, n_18, n_19, n_20, n_21, n_22, n_23, n_24, n_25, n_26, n_27, n_28, n_29, n_30, n_31, n_32, n_33, n_34, n_35, n_36, n_37, n_40, n_44, n_48, n_50, n_57, n_58, n_60, n_65, n_66, n_67, n_68, n_69, n_70, n_71, n_73, n_77, n_80, n_83, n_97, n_98, n_99, n_100, n_101, n_102, n_103, n_104, n_105, n_106, n_107, n_108, n_109, n_110, n_111, n_112, n_113, n_114, n_115, n_116, n_117, n_118, n_120, n_121, n_122, n_180, n_255, n_539, n_600, n_616, n_1200, n_2000, n_3600, n_8400, n_65536]
    rw [ih (i + 1) _ fl (by omega) (by omega) (by omega)]
    refine congrArg K (congrArg aI (funext fun t => ?_))
    have w1 : t = i → h (t + 77) = h (i + 77) := fun e => by rw [e]
    simp only [zu]
    omega
theorem z_begin {G B : Int → Int} : f_X11_begin (aI G) (aI B) = some (aI (fun t => if 0 ≤ t ∧ t < 0 + 77 then G (0 + (t - 0)) else B t)) := by
  unfold f_X11_begin
  rw [show (0 : Int32) = iI 0 from rfl, z_copy (by omega) (by omega)]
  rfl
def bfr (G B : Int → Int) : Int → Int := fun t => if 0 ≤ t ∧ t < 0 + 77 then G (0 + (t - 0)) else B t
theorem bfr_r {G B : Int → Int} {t : Int} (h : 0 ≤ t ∧ t < 77) : bfr G B t = G t := by
  unfold bfr; rw [if_pos (by omega), show 0 + (t - 0) = t by omega]
def hs1 (h : Int → Int) (ch : Int) : Int → Int := if ch = 8 then (fun t => if 0 ≤ t ∧ t < 539 then h (t + 77) else h t) else h
def ch1 (ch : Int) : Int := if ch = 8 then 7 else ch
def hs2 (B h : Int → Int) (ch : Int) : Int → Int := fun t => if ch1 ch * 77 ≤ t ∧ t < ch1 ch * 77 + 77 then B (0 + (t - ch1 ch * 77)) else hs1 h ch t
theorem z_kept_ok {G B h : Int → Int} {ch v : Int} (hc : 0 ≤ ch ∧ ch ≤ 8) : f_X11_kept (aI G) (aI B) (aI h) (iI ch) (iI 0) (iI v) = some (iI v, aI G, aI (hs2 B h ch), iI (ch1 ch + 1)) := by
  have hz := fun K => z_shift_L K 539 0 h 2000 (by omega) rfl (by omega)
  unfold f_X11_kept
  by_cases e : ch = 8
  · subst e
    have hy := fun A => z_copy (A := B) (B := A) (nx := 77) (ny := 616) (p := 0) (q := 7 * 77) (by omega) (by omega)
    rw [show hs2 B h 8 = fun t => if 7 * 77 ≤ t ∧ t < 7 * 77 + 77 then B (0 + (t - 7 * 77)) else (if 0 ≤ t ∧ t < 539 then h (t + 77) else h t) from rfl, show ch1 8 = 7 from rfl]
    simp (disch := omega) only [↓q_brd, ↓q_gdd, ↓q_lts, ↓reduceIte, ↓q_bds, ↓zq_smi, ↓zq_smr, iI_add, iI_sub, iI_mul, iI_neg, iI_ab3, iI_div, z_emod, aI_rd, aI_wr, aR0, aW0, aR1, aW1, aR2, aW2, aR3, aW3, aR4, aW4, iI_inT, iI_lt, iI_le, iI_eq, lt_t, lt_f, le_t, le_f, eq_t, eq_f, bz_z, bz_o, bz_zo, bzT, bzF, n_em, zu_s, zu_n, not_true_eq_false, not_false_eq_true, and_self, true_and, and_true, false_and, and_false, true_or, or_true, false_or, or_false, or_self, Int.add_sub_cancel, n_0, n_1, n_2, n_3, n_4, n_5, n_6, n_7, n_8, n_9, n_10, n_11, n_12, n_13, n_14, n_15, n_16, n_17, n_18, n_19, n_20, n_21, n_22, n_23, n_24, n_25, n_26, n_27, n_28, n_29, n_30, n_31, n_32, n_33, n_34, n_35, n_36, n_37, n_40, n_44, n_48, n_50, n_57, n_58, n_60, n_65, n_66, n_67, n_68, n_69, n_70, n_71, n_73, n_77, n_80, n_83, n_97, n_98, n_99, n_100, n_101, n_102, n_103, n_104, n_105, n_106, n_107, n_108, n_109, n_110, n_111, n_112, n_113, n_114, n_115, n_116, n_117, n_118, n_120, n_121, n_122, n_180, n_255, n_539, n_600, n_616, n_1200, n_2000, n_3600, n_8400, n_65536, hz, show (8 : Int) - 1 = 7 from rfl, hy]
  · have hy := fun A => z_copy (A := B) (B := A) (nx := 77) (ny := 616) (p := 0) (q := ch * 77) (by omega) (by omega)
    have e1 : hs1 h ch = h := if_neg e
    have e2 : ch1 ch = ch := if_neg e
    rw [show hs2 B h ch = fun t => if ch * 77 ≤ t ∧ t < ch * 77 + 77 then B (0 + (t - ch * 77)) else h t by unfold hs2; rw [e1, e2], e2]
    simp (disch := omega) only [↓q_brd, ↓q_gdd, ↓q_lts, ↓reduceIte, ↓q_bds, ↓zq_smi, ↓zq_smr, iI_add, iI_sub, iI_mul, iI_neg, iI_ab3, iI_div, z_emod, aI_rd, aI_wr, aR0, aW0, aR1, aW1, aR2, aW2, aR3, aW3, aR4, aW4, iI_inT, iI_lt, iI_le, iI_eq, lt_t, lt_f, le_t, le_f, eq_t, eq_f, bz_z, bz_o, bz_zo, bzT, bzF, n_em, zu_s, zu_n, not_true_eq_false, not_false_eq_true, and_self, true_and, and_true, false_and, and_false, true_or, or_true, false_or, or_false, or_self, Int.add_sub_cancel, n_0, n_1, n_2, n_3, n_4, n_5, n_6, n_7, n_8, n_9, n_10, n_11, n_12, n_13, n_14, n_15, n_16, n_17, n_18, n_19, n_20, n_21, n_22, n_23, n_24, n_25, n_26, n_27, n_28, n_29, n_30, n_31, n_32, n_33, n_34, n_35, n_36, n_37, n_40, n_44, n_48, n_50, n_57, n_58, n_60, n_65, n_66, n_67, n_68, n_69, n_70, n_71, n_73, n_77, n_80, n_83, n_97, n_98, n_99, n_100, n_101, n_102, n_103, n_104, n_105, n_106, n_107, n_108, n_109, n_110, n_111, n_112, n_113, n_114, n_115, n_116, n_117, n_118, n_120, n_121, n_122, n_180, n_255, n_539, n_600, n_616, n_1200, n_2000, n_3600, n_8400, n_65536, hy]
theorem z_kept_no {G B h : Int → Int} {ch v th : Int} (ht : 1 ≤ th ∧ th ≤ 3) : f_X11_kept (aI G) (aI B) (aI h) (iI ch) (iI th) (iI v) = some (iI 0, aI (bfr B G), aI h, iI ch) := by
  have hy := z_begin (G := B) (B := G)
  unfold f_X11_begin at hy
  unfold f_X11_kept bfr
  have hz : f_X11_copy (aI B) (aI G) 77 (iI 0) 77 (iI 0) = some (aI (fun t => if 0 ≤ t ∧ t < 0 + 77 then B (0 + (t - 0)) else G t)) := z_copy (by omega) (by omega)
  simp (disch := omega) only [↓q_brd, ↓q_gdd, ↓q_lts, ↓reduceIte, ↓q_bds, ↓zq_smi, ↓zq_smr, iI_add, iI_sub, iI_mul, iI_neg, iI_ab3, iI_div, z_emod, aI_rd, aI_wr, aR0, aW0, aR1, aW1, aR2, aW2, aR3, aW3, aR4, aW4, iI_inT, iI_lt, iI_le, iI_eq, lt_t, lt_f, le_t, le_f, eq_t, eq_f, bz_z, bz_o, bz_zo, bzT, bzF, n_em, zu_s, zu_n, not_true_eq_false, not_false_eq_true, and_self, true_and, and_true, false_and, and_false, true_or, or_true, false_or, or_false, or_self, Int.add_sub_cancel, n_0, n_1, n_2, n_3, n_4, n_5, n_6, n_7, n_8, n_9, n_10, n_11, n_12, n_13, n_14, n_15, n_16, n_17, n_18, n_19, n_20, n_21, n_22, n_23, n_24, n_25, n_26, n_27, n_28, n_29, n_30, n_31, n_32, n_33, n_34, n_35, n_36, n_37, n_40, n_44, n_48, n_50, n_57, n_58, n_60, n_65, n_66, n_67, n_68, n_69, n_70, n_71, n_73, n_77, n_80, n_83, n_97, n_98, n_99, n_100, n_101, n_102, n_103, n_104, n_105, n_106, n_107, n_108, n_109, n_110, n_111, n_112, n_113, n_114, n_115, n_116, n_117, n_118, n_120, n_121, n_122, n_180, n_255, n_539, n_600, n_616, n_1200, n_2000, n_3600, n_8400, n_65536, hz]
def HR (hs : Hist_t) (h : Int → Int) (ch : Int) : Prop := ∃ cur : Int, hs.2.1 = iI cur ∧ (0 ≤ cur ∧ cur ≤ 8) ∧ hs.2.2 = iI ch ∧ (0 ≤ ch ∧ ch ≤ 8) ∧
  ∀ j, 0 ≤ j → j < ch → RV (hs.1 (((cur - ch + j) % 9).toNat)) (fun z => h (77 * j + z)) ∧ VOk (fun z => h (77 * j + z))
theorem upH_s {f : Nat → Valley_t} {k j : Nat} {v : Valley_t} (h : j = k) : upH f k v j = v := if_pos h
theorem upH_n {f : Nat → Valley_t} {k j : Nat} {v : Valley_t} (h : ¬ j = k) : upH f k v j = f j := if_neg h
theorem HR_begin {sl : Nat → Valley_t} {cur ct : Int32} {h : Int → Int} {ch : Int} (hH : HR (sl, cur, ct) h ch) {V : Valley_t} {G : Int → Int} (hG : VOk G) (hR : RV V G) :
    ∃ V2 c, cur = iI c ∧ (0 ≤ c ∧ c ≤ 8) ∧ RV V2 G ∧ f_X5_begin sl cur V.1.1 V.1.2.1 V.1.2.2 V.2.1.1 V.2.1.2.1 V.2.1.2.2 V.2.2.1.1 V.2.2.1.2.1 V.2.2.1.2.2 V.2.2.2.1 V.2.2.2.2.1 V.2.2.2.2.2 = some (upH sl c.toNat V2) ∧ HR (upH sl c.toNat V2, cur, ct) h ch := by
  obtain ⟨c, e1, e2, e3, e4, e5⟩ := hH
  have e1' : cur = iI c := e1
  subst e1'
  obtain ⟨V2, x1, x2⟩ := RV_cpy (sl (iI c).toNatClampNeg) hG hR
  refine ⟨V2, c, rfl, e2, x2, ?_, ⟨c, rfl, e2, e3, e4, fun j j0 j1 => ?_⟩⟩
  · unfold f_X5_begin
    rw [show ∀ k : Option (Nat → Valley_t), q_gd (q_in (iI c) 9) k = k from fun k => if_pos (iI_in (by omega))]
    show q_bd (q_vcp (sl (iI c).toNatClampNeg) V) _ = _
    rw [x1, iI_cl (by omega)]
    rfl
  · show RV (upH sl c.toNat V2 _) _ ∧ _
    rw [upH_n (by omega)]
    exact e5 j j0 j1
theorem HR_keep {sl : Nat → Valley_t} {c : Int} {ct : Int32} {h B : Int → Int} {ch : Int} {V2 : Valley_t} {G : Int → Int} (hc : 0 ≤ c ∧ c ≤ 8) (hH : HR (upH sl c.toNat V2, iI c, ct) h ch) (hG : VOk G) (hR : RV V2 G) (hB : ∀ t, 0 ≤ t → t < 77 → B t = G t) :
    ∃ c2 k2, f_X5_keep (iI c) ct = some (c2, k2) ∧ HR (upH sl c.toNat V2, c2, k2) (hs2 B h ch) (ch1 ch + 1) := by
  obtain ⟨c', e1, e2, e3, e4, e5⟩ := hH
  have ec : c' = c := ((iI_eq (by omega)).mp e1).symm
  subst ec
  have e3' : ct = iI ch := e3
  subst e3'
  refine ⟨iI ((c' + 1) % 9), iI (ch1 ch + 1), ?_, ⟨(c' + 1) % 9, rfl, by omega, rfl, by unfold ch1; omega, fun j j0 j1 => ?_⟩⟩
  · unfold f_X5_keep
    by_cases e : ch = 8
    · subst e
      rw [show ch1 8 = 7 from rfl]
      simp (disch := omega) only [↓q_brd, ↓q_gdd, ↓q_lts, ↓reduceIte, ↓q_bds, ↓zq_smi, ↓zq_smr, iI_add, iI_sub, iI_mul, iI_neg, iI_ab3, iI_div, z_emod, aI_rd, aI_wr, aR0, aW0, aR1, aW1, aR2, aW2, aR3, aW3, aR4, aW4, iI_inT, iI_lt, iI_le, iI_eq, lt_t, lt_f, le_t, le_f, eq_t, eq_f, bz_z, bz_o, bz_zo, bzT, bzF, n_em, zu_s, zu_n, not_true_eq_false, not_false_eq_true, and_self, true_and, and_true, false_and, and_false, true_or, or_true, false_or, or_false, or_self, Int.add_sub_cancel, n_0, n_1, n_2, n_3, n_4, n_5, n_6, n_7, n_8, n_9, n_10, n_11, n_12, n_13, n_14, n_15, n_16, n_17, n_18, n_19, n_20, n_21, n_22, n_23, n_24, n_25, n_26, n_27, n_28, n_29, n_30, n_31, n_32, n_33, n_34, n_35, n_36, n_37, n_40, n_44, n_48, n_50, n_57, n_58, n_60, n_65, n_66, n_67, n_68, n_69, n_70, n_71, n_73, n_77, n_80, n_83, n_97, n_98, n_99, n_100, n_101, n_102, n_103, n_104, n_105, n_106, n_107, n_108, n_109, n_110, n_111, n_112, n_113, n_114, n_115, n_116, n_117, n_118, n_120, n_121, n_122, n_180, n_255, n_539, n_600, n_616, n_1200, n_2000, n_3600, n_8400, n_65536, iI_ite, show (7 : Int) + 1 = 8 from rfl]
    · rw [show ch1 ch = ch from if_neg e]
      simp (disch := omega) only [↓q_brd, ↓q_gdd, ↓q_lts, ↓reduceIte, ↓q_bds, ↓zq_smi, ↓zq_smr, iI_add, iI_sub, iI_mul, iI_neg, iI_ab3, iI_div, z_emod, aI_rd, aI_wr, aR0, aW0, aR1, aW1, aR2, aW2, aR3, aW3, aR4, aW4, iI_inT, iI_lt, iI_le, iI_eq, lt_t, lt_f, le_t, le_f, eq_t, eq_f, bz_z, bz_o, bz_zo, bzT, bzF, n_em, zu_s, zu_n, not_true_eq_false, not_false_eq_true, and_self, true_and, and_true, false_and, and_false, true_or, or_true, false_or, or_false, or_self, Int.add_sub_cancel, n_0, n_1, n_2, n_3, n_4, n_5, n_6, n_7, n_8, n_9, n_10, n_11, n_12, n_13, n_14, n_15, n_16, n_17, n_18, n_19, n_20, n_21, n_22, n_23, n_24, n_25, n_26, n_27, n_28, n_29, n_30, n_31, n_32, n_33, n_34, n_35, n_36, n_37, n_40, n_44, n_48, n_50, n_57, n_58, n_60, n_65, n_66, n_67, n_68, n_69, n_70, n_71, n_73, n_77, n_80, n_83, n_97, n_98, n_99, n_100, n_101, n_102, n_103, n_104, n_105, n_106, n_107, n_108, n_109, n_110, n_111, n_112, n_113, n_114, n_115, n_116, n_117, n_118, n_120, n_121, n_122, n_180, n_255, n_539, n_600, n_616, n_1200, n_2000, n_3600, n_8400, n_65536, iI_ite]
  · show RV (upH sl c'.toNat V2 _) _ ∧ _
    by_cases ej : j = ch1 ch
    · have hh : ∀ z, 0 ≤ z → z < 77 → hs2 B h ch (77 * j + z) = G z := fun z z0 z1 => by
        unfold hs2
        rw [if_pos (by omega), show 0 + (77 * j + z - ch1 ch * 77) = z by omega]
        exact hB z z0 z1
      rw [upH_s (by unfold ch1 at *; omega)]
      exact ⟨RV_cong hh hG hR, VOk_cong hh hG⟩
    · by_cases e : ch = 8
      · subst e
        have e7 : ch1 8 = 7 := rfl
        rw [e7] at j1 ej
        obtain ⟨y1, y2⟩ := e5 (j + 1) (by omega) (by omega)
        have hh : ∀ z, 0 ≤ z → z < 77 → hs2 B h 8 (77 * j + z) = h (77 * (j + 1) + z) := fun z z0 z1 => by
          unfold hs2
          rw [e7, if_neg (by omega)]
          show (if 0 ≤ 77 * j + z ∧ 77 * j + z < 539 then h (77 * j + z + 77) else h (77 * j + z)) = _
          rw [if_pos (by omega), show 77 * j + z + 77 = 77 * (j + 1) + z by omega]
        have y1' : RV (upH sl c'.toNat V2 (((c' - 8 + (j + 1)) % 9).toNat)) (fun z => h (77 * (j + 1) + z)) := y1
        rw [show ((c' + 1) % 9 - (ch1 8 + 1) + j) % 9 = (c' - 8 + (j + 1)) % 9 by rw [e7]; omega]
        exact ⟨RV_cong hh y2 y1', VOk_cong hh y2⟩
      · have e7 : ch1 ch = ch := if_neg e
        rw [e7] at j1 ej
        obtain ⟨y1, y2⟩ := e5 j (by omega) (by omega)
        have hh : ∀ z, 0 ≤ z → z < 77 → hs2 B h ch (77 * j + z) = h (77 * j + z) := fun z z0 z1 => by
          unfold hs2
          rw [e7, if_neg (by omega)]
          show hs1 h ch _ = _
          unfold hs1
          rw [if_neg e]
        have y1' : RV (upH sl c'.toNat V2 (((c' - ch + j) % 9).toNat)) (fun z => h (77 * j + z)) := y1
        rw [show ((c' + 1) % 9 - (ch1 ch + 1) + j) % 9 = (c' - ch + j) % 9 by rw [e7]; omega]
        exact ⟨RV_cong hh y2 y1', VOk_cong hh y2⟩
