theorem cpy_aI {f g : Int → Int} {n : Nat} : va_cpy (aI f) (aI g) 0 0 n = aI (fun t => if 0 ≤ t ∧ t < n then f t else g t) := by
  funext k
  show (if 0 ≤ k ∧ k < 0 + n then aI f (0 + (k - 0)) else aI g k) = iI (if 0 ≤ (k : Int) ∧ (k : Int) < n then f k else g k)
  by_cases e : k < n
  · rw [if_pos (by omega), if_pos (by omega), show 0 + (k - 0) = k by omega]; rfl
  · rw [if_neg (by omega), if_neg (by omega)]; rfl
theorem RV_cpy (W : Valley_t) {V : Valley_t} {G : Int → Int} (hG : VOk G) (hR : RV V G) : ∃ V2, q_vcp W V = some V2 ∧ RV V2 G := by
  obtain ⟨H, P, L, E, T, D, S, rfl, hB, hM, hC⟩ := hR
  obtain ⟨g0, g1, g2, g3, g4, hb, hm, hc⟩ := id hG
  obtain ⟨⟨w1, w2, w3⟩, ⟨wH, wP, wn⟩, ⟨wL, wE, wT⟩, ⟨wD, wS, wc⟩⟩ := W
  obtain ⟨H2, rfl⟩ : ∃ f, wH = aI f := ⟨_, aI_of wH⟩
  obtain ⟨P2, rfl⟩ : ∃ f, wP = aI f := ⟨_, aI_of wP⟩
  obtain ⟨L2, rfl⟩ : ∃ f, wL = aI f := ⟨_, aI_of wL⟩
  obtain ⟨E2, rfl⟩ : ∃ f, wE = aI f := ⟨_, aI_of wE⟩
  obtain ⟨T2, rfl⟩ : ∃ f, wT = aI f := ⟨_, aI_of wT⟩
  obtain ⟨D2, rfl⟩ : ∃ f, wD = aI f := ⟨_, aI_of wD⟩
  obtain ⟨S2, rfl⟩ : ∃ f, wS = aI f := ⟨_, aI_of wS⟩
  have e3 : (iI (G 3) = 0 ∨ iI (G 3) = 1) := g3.elim (fun h => Or.inl (by rw [h]; rfl)) (fun h => Or.inr (by rw [h]; rfl))
  refine ⟨((iI (G 2), iI (G 3), iI (G 4)), (aI (fun t => if 0 ≤ t ∧ t < 12 then H t else H2 t), aI (fun t => if 0 ≤ t ∧ t < 12 then P t else P2 t), iI (G 0)), (aI (fun t => if 0 ≤ t ∧ t < 4 then L t else L2 t), aI (fun t => if 0 ≤ t ∧ t < 4 then E t else E2 t), aI (fun t => if 0 ≤ t ∧ t < 32 then T t else T2 t)), (aI (fun t => if 0 ≤ t ∧ t < 4 then D t else D2 t), aI (fun t => if 0 ≤ t ∧ t < 4 then S t else S2 t), iI (G 1))), ?_, ⟨_, _, _, _, _, _, _, rfl, ?_, ?_, ?_⟩⟩
  · unfold q_vcp f_X9_copyFrom f_X6_copyFrom f_X1_copyFrom f_X7_copyFrom f_X3_copyFrom
    rw [cpy_aI, cpy_aI, cpy_aI, cpy_aI, cpy_aI, cpy_aI, cpy_aI]
    show q_bd (q_bd (q_gd (iI (G 3) = 0 ∨ iI (G 3) = 1) _) _) _ = _
    rw [show ∀ k : Option (Int32 × Int32 × Int32), q_gd (iI (G 3) = 0 ∨ iI (G 3) = 1) k = k from fun k => if_pos e3]
    rfl
  · intro k k0 k1
    rw [if_pos (by omega), if_pos (by omega)]
    exact hB k k0 k1
  · intro h x0 x1
    obtain ⟨w1, w2, w3⟩ := hm h x0 x1
    rw [if_pos (by omega), if_pos (by omega)]
    refine ⟨(hM h x0 x1).1, (hM h x0 x1).2.1, fun j j0 j1 => ?_⟩
    rw [if_pos (by omega)]
    exact (hM h x0 x1).2.2 j j0 j1
  · intro k k0 k1
    rw [if_pos (by omega), if_pos (by omega)]
    exact hC k k0 k1
theorem upH_s {f : Nat → Valley_t} {k j : Nat} {v : Valley_t} (h : j = k) : upH f k v j = v := if_pos h
theorem upH_n {f : Nat → Valley_t} {k j : Nat} {v : Valley_t} (h : ¬ j = k) : upH f k v j = f j := if_neg h
/-- the history holds these valleys, the newest first -/
def HL (hs : Hist_t) (L : List (Int → Int)) : Prop := ∃ cur : Int, hs.2.1 = iI cur ∧ (0 ≤ cur ∧ cur ≤ 8) ∧ hs.2.2 = iI (L.length : Int) ∧ L.length ≤ 8 ∧ ∀ (j : Nat) (G : Int → Int), L[j]? = some G → RV (hs.1 (((cur - 1 - (j : Int)) % 9).toNat)) G ∧ VOk G
theorem gl_lt {α : Type} {l : List α} {j : Nat} {a : α} (h : l[j]? = some a) : j < l.length := (List.getElem?_eq_some_iff.mp h).1
theorem tk_get {α : Type} {l : List α} {n j : Nat} {a : α} (h : (l.take n)[j]? = some a) : l[j]? = some a ∧ j < n := by
  have h1 := gl_lt h
  rw [List.length_take] at h1
  rw [List.getElem?_take] at h
  split at h
  · exact ⟨h, by omega⟩
  · cases h
/-- a history that can be written to -/
def HW (hs : Hist_t) : Prop := ∃ c n : Int, hs.2.1 = iI c ∧ (0 ≤ c ∧ c ≤ 8) ∧ hs.2.2 = iI n ∧ 0 ≤ n ∧ n ≤ 8
theorem HL.w {hs : Hist_t} {L : List (Int → Int)} (h : HL hs L) : HW hs := by
  obtain ⟨c, h1, h2, h3, h4, -⟩ := h
  exact ⟨c, (L.length : Int), h1, h2, h3, by omega, by omega⟩
theorem vcp_ok (W V : Valley_t) (hm : V.1.2.1 = 0 ∨ V.1.2.1 = 1) : ∃ V2, q_vcp W V = some V2 := by
  obtain ⟨⟨w1, w2, w3⟩, ⟨wH, wP, wn⟩, ⟨wL, wE, wT⟩, ⟨wD, wS, wc⟩⟩ := W
  obtain ⟨⟨v1, v2, v3⟩, ⟨vH, vP, vn⟩, ⟨vL, vE, vT⟩, ⟨vD, vS, vc⟩⟩ := V
  unfold q_vcp f_X9_copyFrom f_X6_copyFrom f_X1_copyFrom f_X7_copyFrom f_X3_copyFrom
  show ∃ V2, q_bd (q_bd (q_gd (v2 = 0 ∨ v2 = 1) _) _) _ = some V2
  rw [show ∀ k : Option (Int32 × Int32 × Int32), q_gd (v2 = 0 ∨ v2 = 1) k = k from fun k => if_pos hm]
  exact ⟨_, rfl⟩
abbrev bgn (hs : Hist_t) (V : Valley_t) := f_X5_begin hs.1 hs.2.1 V.1.1 V.1.2.1 V.1.2.2 V.2.1.1 V.2.1.2.1 V.2.1.2.2 V.2.2.1.1 V.2.2.1.2.1 V.2.2.1.2.2 V.2.2.2.1 V.2.2.2.2.1 V.2.2.2.2.2
theorem bgn_of {sl : Nat → Valley_t} {ct : Int32} {c : Int} (hc : 0 ≤ c ∧ c ≤ 8) {V V2 : Valley_t} (h : q_vcp (sl c.toNat) V = some V2) : bgn (sl, iI c, ct) V = some (upH sl c.toNat V2) := by
  unfold bgn f_X5_begin
  show q_gd (q_in (iI c) 9) (q_bd (q_vcp (sl (iI c).toNatClampNeg) V) _) = _
  rw [show ∀ k : Option (Nat → Valley_t), q_gd (q_in (iI c) 9) k = k from fun k => if_pos (iI_in (by omega)), iI_cl (by omega), h]
  rfl
theorem HL_begin {sl : Nat → Valley_t} {cur ct : Int32} {L : List (Int → Int)} (hH : HL (sl, cur, ct) L) {V : Valley_t} {G : Int → Int} (hG : VOk G) (hR : RV V G) :
    ∃ V2 c, cur = iI c ∧ (0 ≤ c ∧ c ≤ 8) ∧ RV V2 G ∧ bgn (sl, cur, ct) V = some (upH sl c.toNat V2) ∧ HL (upH sl c.toNat V2, cur, ct) L := by
  obtain ⟨c, e1, e2, e3, e4, e5⟩ := hH
  have e1' : cur = iI c := e1
  subst e1'
  obtain ⟨V2, x1, x2⟩ := RV_cpy (sl c.toNat) hG hR
  refine ⟨V2, c, rfl, e2, x2, bgn_of e2 x1, ⟨c, rfl, e2, e3, e4, fun j G' hj => ?_⟩⟩
  have hl := gl_lt hj
  show RV (upH sl c.toNat V2 _) _ ∧ _
  rw [upH_n (by omega)]
  exact e5 j G' hj
theorem kp_val {c n : Int} (hc : 0 ≤ c ∧ c ≤ 8) (hn : 0 ≤ n ∧ n ≤ 8) : f_X5_keep (iI c) (iI n) = some (iI ((c + 1) % 9), iI (if n = 8 then 8 else n + 1)) := by
  unfold f_X5_keep
  by_cases e : n = 8
  · subst e
    simp (disch := omega) only [↓q_brd, ↓q_gdd, ↓q_lts, ↓reduceIte, ↓q_bds, ↓zq_smi, ↓zq_smr, iI_add, iI_sub, iI_mul, iI_neg, iI_ab3, iI_div, z_emod, aI_rd, aI_wr, aR0, aW0, aR1, aW1, aR2, aW2, aR3, aW3, aR4, aW4, iI_inT, iI_lt, iI_le, iI_eq, lt_t, lt_f, le_t, le_f, eq_t, eq_f, bz_z, bz_o, bz_zo, bzT, bzF, n_em, zu_s, zu_n, not_true_eq_false, not_false_eq_true, and_self, true_and, and_true, false_and, and_false, true_or, or_true, false_or, or_false, or_self, Int.add_sub_cancel, n_0, n_1, n_2, n_3, n_4, n_5, n_6, n_7, n_8, n_9, n_10, n_11, n_12, n_13, n_14, n_15, n_16, n_17, n_18, n_19, n_20, n_21, n_22, n_23, n_24, n_25, n_26, n_27, n_28, n_29, n_30, n_31, n_32, n_33, n_34, n_35, n_36, n_37, n_40, n_44, n_48, n_50, n_57, n_58, n_60, n_65, n_66, n_67, n_68, n_69, n_70, n_71, n_73, n_77, n_80, n_83, n_97, n_98, n_99, n_100, n_101, n_102, n_103, n_104, n_105, n_106, n_107, n_108, n_109, n_110, n_111, n_112, n_113, n_114, n_115, n_116, n_117, n_118, n_120, n_121, n_122, n_180, n_255, n_539, n_600, n_616, n_1200, n_2000, n_3600, n_8400, n_65536, iI_ite, show (8 : Int) + 1 = 9 from rfl]
  · simp (disch := omega) only [↓q_brd, ↓q_gdd, ↓q_lts, ↓reduceIte, ↓q_bds, ↓zq_smi, ↓zq_smr, iI_add, iI_sub, iI_mul, iI_neg, iI_ab3, iI_div, z_emod, aI_rd, aI_wr, aR0, aW0, aR1, aW1, aR2, aW2, aR3, aW3, aR4, aW4, iI_inT, iI_lt, iI_le, iI_eq, lt_t, lt_f, le_t, le_f, eq_t, eq_f, bz_z, bz_o, bz_zo, bzT, bzF, n_em, zu_s, zu_n, not_true_eq_false, not_false_eq_true, and_self, true_and, and_true, false_and, and_false, true_or, or_true, false_or, or_false, or_self, Int.add_sub_cancel, n_0, n_1, n_2, n_3, n_4, n_5, n_6, n_7, n_8, n_9, n_10, n_11, n_12, n_13, n_14, n_15, n_16, n_17, n_18, n_19, n_20, n_21, n_22, n_23, n_24, n_25, n_26, n_27, n_28, n_29, n_30, n_31, n_32, n_33, n_34, n_35, n_36, n_37, n_40, n_44, n_48, n_50, n_57, n_58, n_60, n_65, n_66, n_67, n_68, n_69, n_70, n_71, n_73, n_77, n_80, n_83, n_97, n_98, n_99, n_100, n_101, n_102, n_103, n_104, n_105, n_106, n_107, n_108, n_109, n_110, n_111, n_112, n_113, n_114, n_115, n_116, n_117, n_118, n_120, n_121, n_122, n_180, n_255, n_539, n_600, n_616, n_1200, n_2000, n_3600, n_8400, n_65536, iI_ite]
theorem HL_keep {sl : Nat → Valley_t} {c : Int} {ct : Int32} {L : List (Int → Int)} {V2 : Valley_t} {G : Int → Int} (hc : 0 ≤ c ∧ c ≤ 8) (hH : HL (upH sl c.toNat V2, iI c, ct) L) (hG : VOk G) (hR : RV V2 G) :
    ∃ c2 k2, f_X5_keep (iI c) ct = some (c2, k2) ∧ HL (upH sl c.toNat V2, c2, k2) ((G :: L).take 8) := by
  obtain ⟨c', e1, e2, e3, e4, e5⟩ := hH
  have ec : c' = c := ((iI_eq (by omega)).mp e1).symm
  subst ec
  have e3' : ct = iI (L.length : Int) := e3
  subst e3'
  refine ⟨_, _, kp_val e2 (by omega), ⟨(c' + 1) % 9, rfl, by omega, ?_, ?_, fun j G' hj => ?_⟩⟩
  · show iI (if (L.length : Int) = 8 then 8 else (L.length : Int) + 1) = iI (((G :: L).take 8).length : Int)
    rw [List.length_take, List.length_cons]
    refine congrArg iI ?_
    split <;> omega
  · rw [List.length_take]; omega
  · obtain ⟨hj1, hj2⟩ := tk_get hj
    show RV (upH sl c'.toNat V2 _) _ ∧ _
    cases j with
    | zero =>
      cases Option.some.inj hj1
      rw [upH_s (by omega)]
      exact ⟨hR, hG⟩
    | succ j =>
      have hj3 : L[j]? = some G' := by simpa using hj1
      have := e5 j G' hj3
      rw [show ((c' + 1) % 9 - 1 - ((j + 1 : Nat) : Int)) % 9 = (c' - 1 - (j : Int)) % 9 by omega]
      exact this
abbrev undoF (hs : Hist_t) (V : Valley_t) := f_X10_undo V.1.1 V.1.2.1 V.1.2.2 V.2.1.1 V.2.1.2.1 V.2.1.2.2 V.2.2.1.1 V.2.2.1.2.1 V.2.2.1.2.2 V.2.2.2.1 V.2.2.2.2.1 V.2.2.2.2.2 hs.1 hs.2.1 hs.2.2
abbrev fv (V : Valley_t) : Int32 × Int32 × Int32 × (Nat → Int32) × (Nat → Int32) × Int32 × (Nat → Int32) × (Nat → Int32) × (Nat → Int32) × (Nat → Int32) × (Nat → Int32) × Int32 := (V.1.1, V.1.2.1, V.1.2.2, V.2.1.1, V.2.1.2.1, V.2.1.2.2, V.2.2.1.1, V.2.2.1.2.1, V.2.2.1.2.2, V.2.2.2.1, V.2.2.2.2.1, V.2.2.2.2.2)
theorem sb_val {c n : Int} (hc : 0 ≤ c ∧ c ≤ 8) (hn : 0 ≤ n ∧ n ≤ 8) : f_X5_stepBack (iI c) (iI n) = some (iI ((c + 9 - 1) % 9), iI (n - 1)) := by
  unfold f_X5_stepBack
  simp (disch := omega) only [↓q_brd, ↓q_gdd, ↓q_lts, ↓reduceIte, ↓q_bds, ↓zq_smi, ↓zq_smr, iI_add, iI_sub, iI_mul, iI_neg, iI_ab3, iI_div, z_emod, aI_rd, aI_wr, aR0, aW0, aR1, aW1, aR2, aW2, aR3, aW3, aR4, aW4, iI_inT, iI_lt, iI_le, iI_eq, lt_t, lt_f, le_t, le_f, eq_t, eq_f, bz_z, bz_o, bz_zo, bzT, bzF, n_em, zu_s, zu_n, not_true_eq_false, not_false_eq_true, and_self, true_and, and_true, false_and, and_false, true_or, or_true, false_or, or_false, or_self, Int.add_sub_cancel, n_0, n_1, n_2, n_3, n_4, n_5, n_6, n_7, n_8, n_9, n_10, n_11, n_12, n_13, n_14, n_15, n_16, n_17, n_18, n_19, n_20, n_21, n_22, n_23, n_24, n_25, n_26, n_27, n_28, n_29, n_30, n_31, n_32, n_33, n_34, n_35, n_36, n_37, n_40, n_44, n_48, n_50, n_57, n_58, n_60, n_65, n_66, n_67, n_68, n_69, n_70, n_71, n_73, n_77, n_80, n_83, n_97, n_98, n_99, n_100, n_101, n_102, n_103, n_104, n_105, n_106, n_107, n_108, n_109, n_110, n_111, n_112, n_113, n_114, n_115, n_116, n_117, n_118, n_120, n_121, n_122, n_180, n_255, n_539, n_600, n_616, n_1200, n_2000, n_3600, n_8400, n_65536, show (9 : Int) - 1 = 8 from rfl]
theorem HL_undo {hs : Hist_t} {G : Int → Int} {L : List (Int → Int)} (hH : HL hs (G :: L)) (V : Valley_t) :
    ∃ V2 c2 k2, RV V2 G ∧ VOk G ∧ undoF hs V = some (Sum.inl (iI (L.length : Int)), V2.1.1, V2.1.2.1, V2.1.2.2, V2.2.1.1, V2.2.1.2.1, V2.2.1.2.2, V2.2.2.1.1, V2.2.2.1.2.1, V2.2.2.1.2.2, V2.2.2.2.1, V2.2.2.2.2.1, V2.2.2.2.2.2, c2, k2) ∧ HL (hs.1, c2, k2) L := by
  obtain ⟨sl, cur, ct⟩ := hs
  obtain ⟨c, e1, e2, e3, e4, e5⟩ := hH
  have e1' : cur = iI c := e1
  have e3' : ct = iI ((G :: L).length : Int) := e3
  subst e1' e3'
  rw [List.length_cons] at e4
  obtain ⟨h1, h2⟩ := e5 0 G rfl
  obtain ⟨V2, x1, x2⟩ := RV_cpy V h2 h1
  have x1' : q_vcp V (sl ((c + 9 - 1) % 9).toNat) = some V2 := by
    rw [show (c + 9 - 1) % 9 = (c - 1 - ((0 : Nat) : Int)) % 9 by omega]; exact x1
  refine ⟨V2, iI ((c + 9 - 1) % 9), iI (L.length : Int), x2, h2, ?_, ⟨(c + 9 - 1) % 9, rfl, by omega, rfl, by omega, fun j G' hj => ?_⟩⟩
  · unfold undoF f_X10_undo
    show q_br (iI ((G :: L).length : Int) = 0) _ _ = _
    have hz : ¬ iI ((G :: L).length : Int) = 0 := by
      rw [show (0 : Int32) = iI 0 from rfl, iI_eq (by rw [List.length_cons]; omega), List.length_cons]; omega
    rw [q_brd, if_neg hz]
    have hsb := sb_val (c := c) (n := ((G :: L).length : Int)) e2 (by rw [List.length_cons]; omega)
    rw [show ((G :: L).length : Int) - 1 = (L.length : Int) by rw [List.length_cons]; omega] at hsb
    show q_bd (f_X5_stepBack (iI c) (iI ((G :: L).length : Int))) _ = _
    rw [hsb, q_bds]
    show q_bd (f_X5_beginning (iI ((c + 9 - 1) % 9))) _ = _
    have hbg : f_X5_beginning (iI ((c + 9 - 1) % 9)) = some () := if_pos (iI_in (by omega))
    rw [hbg, q_bds]
    show q_gd ((iI ((c + 9 - 1) % 9)).toNatClampNeg < 9) (q_bd (q_vcp V (sl (iI ((c + 9 - 1) % 9)).toNatClampNeg)) _) = _
    rw [iI_cl (by omega), q_gdd, if_pos (by omega), x1', q_bds]
  · have := e5 (j + 1) G' (by simpa using hj)
    rw [show ((c + 9 - 1) % 9 - 1 - (j : Int)) % 9 = (c - 1 - ((j + 1 : Nat) : Int)) % 9 by omega]
    exact this
def exn (c : Int) : String := if c = -1 then "java/lang/IndexOutOfBoundsException" else if c = -2 then "java/lang/IllegalArgumentException" else "java/lang/IllegalStateException"
theorem fc_rng (k : Nat) : ∀ p ∈ fc k, (p.1 = -1 ∨ p.1 = -2 ∨ p.1 = -3) ∧ 1 ≤ p.2 ∧ p.2 ≤ 3 := by
  unfold fc
  split <;> decide
abbrev chg (hs : Hist_t) (V : Valley_t) (k : Nat) (a b : Int32) := f_X10_change V.1.1 V.1.2.1 V.1.2.2 V.2.1.1 V.2.1.2.1 V.2.1.2.2 V.2.2.1.1 V.2.2.1.2.1 V.2.2.1.2.2 V.2.2.2.1 V.2.2.2.2.1 V.2.2.2.2.2 hs.1 hs.2.1 hs.2.2 k a b
abbrev fch (res : Int32 ⊕ String) (V : Valley_t) (hs : Hist_t) := (res, V.1.1, V.1.2.1, V.1.2.2, V.2.1.1, V.2.1.2.1, V.2.1.2.2, V.2.2.1.1, V.2.2.1.2.1, V.2.2.1.2.2, V.2.2.2.1, V.2.2.2.2.1, V.2.2.2.2.2, hs.1, hs.2.1, hs.2.2)
theorem chg_ok {hs : Hist_t} {V V' : Valley_t} {k : Nat} {a b c2 k2 : Int32} {r : Int} {sl : Nat → Valley_t} (h1 : bgn hs V = some sl) (h2 : cO V k a b = some (fl (iI r) V')) (hr : 0 ≤ r ∧ r ≤ 100000) (h3 : f_X5_keep hs.2.1 hs.2.2 = some (c2, k2)) : chg hs V k a b = some (fch (Sum.inl (iI r)) V' (sl, c2, k2)) := by
  unfold chg f_X10_change
  unfold cO at h2
  show q_bd (bgn hs V) _ = _
  rw [h1, q_bds, h2, q_bds]
  show q_br (iI r = iI (-1)) _ (q_br (iI r = iI (-2)) _ (q_br (iI r = iI (-3)) _ _)) = _
  rw [q_brd, if_neg (by rw [iI_eq (by omega)]; omega), q_brd, if_neg (by rw [iI_eq (by omega)]; omega), q_brd, if_neg (by rw [iI_eq (by omega)]; omega), h3, q_bds]
theorem chg_no {hs : Hist_t} {V V' : Valley_t} {k : Nat} {a b : Int32} {r : Int} {sl : Nat → Valley_t} (h1 : bgn hs V = some sl) (h2 : cO V k a b = some (fl (iI r) V')) (hr : r = -1 ∨ r = -2 ∨ r = -3) : chg hs V k a b = some (fch (Sum.inr (exn r)) V' (sl, hs.2.1, hs.2.2)) := by
  unfold chg f_X10_change
  unfold cO at h2
  show q_bd (bgn hs V) _ = _
  rw [h1, q_bds, h2, q_bds]
  show q_br (iI r = iI (-1)) _ (q_br (iI r = iI (-2)) _ (q_br (iI r = iI (-3)) _ _)) = _
  rcases hr with e | e | e <;> subst e
  · rw [q_brd, if_pos rfl]; rfl
  · rw [q_brd, if_neg (by decide), q_brd, if_pos rfl]; rfl
  · rw [q_brd, if_neg (by decide), q_brd, if_neg (by decide), q_brd, if_pos rfl]; rfl
/-- a change that goes well -/
theorem zs_ok {k : Nat} {V V' : Valley_t} {hs : Hist_t} {G : Int → Int} {L : List (Int → Int)} {a b : Int32} {r : Int} (hc : cO V k a b = some (fl (iI r) V')) (hr : 0 ≤ r ∧ r ≤ 100000) (hV : RV V G) (hG : VOk G) (hH : HL hs L) : ∃ hs', chg hs V k a b = some (fch (Sum.inl (iI r)) V' hs') ∧ HL hs' ((G :: L).take 8) := by
  obtain ⟨sl, cur, ct⟩ := hs
  obtain ⟨V2, c, rfl, w1, w2, w3, w4⟩ := HL_begin hH hG hV
  obtain ⟨c2, k2, x1, x2⟩ := HL_keep w1 w4 hG w2
  exact ⟨_, chg_ok w3 hc hr x1, x2⟩
/-- the same, nothing asked of the history but that it can be written to -/
theorem zw_ok {k : Nat} {V V' : Valley_t} {hs : Hist_t} {a b : Int32} {r : Int} (hc : cO V k a b = some (fl (iI r) V')) (hr : 0 ≤ r ∧ r ≤ 100000) (hm : V.1.2.1 = 0 ∨ V.1.2.1 = 1) (hH : HW hs) : ∃ hs', chg hs V k a b = some (fch (Sum.inl (iI r)) V' hs') ∧ HW hs' := by
  obtain ⟨sl, cur, ct⟩ := hs
  obtain ⟨c, n, e1, e2, e3, e4⟩ := hH
  have e1' : cur = iI c := e1
  have e3' : ct = iI n := e3
  subst e1' e3'
  obtain ⟨V2, x1⟩ := vcp_ok (sl c.toNat) V hm
  exact ⟨_, chg_ok (bgn_of e2 x1) hc hr (kp_val e2 e4), ⟨(c + 1) % 9, _, rfl, by omega, rfl, by split <;> omega, by split <;> omega⟩⟩
theorem zw_no {k : Nat} {V V' : Valley_t} {hs : Hist_t} {a b : Int32} {r : Int} (hc : cO V k a b = some (fl (iI r) V')) (hr : r = -1 ∨ r = -2 ∨ r = -3) (hm : V.1.2.1 = 0 ∨ V.1.2.1 = 1) (hH : HW hs) : ∃ hs', chg hs V k a b = some (fch (Sum.inr (exn r)) V' hs') ∧ HW hs' := by
  obtain ⟨sl, cur, ct⟩ := hs
  obtain ⟨c, n, e1, e2, e3, e4⟩ := hH
  have e1' : cur = iI c := e1
  have e3' : ct = iI n := e3
  subst e1' e3'
  obtain ⟨V2, x1⟩ := vcp_ok (sl c.toNat) V hm
  exact ⟨_, chg_no (bgn_of e2 x1) hc hr, ⟨c, n, rfl, e2, rfl, e4⟩⟩
/-- any change -/
theorem zs_any {k : Nat} {V : Valley_t} {hs : Hist_t} {G : Int → Int} {L : List (Int → Int)} {a b : Int} (hO : OpS k V G a b) (hV : RV V G) (hG : VOk G) (hH : HL hs L) : ∃ (res : Int32 ⊕ String) (V' : Valley_t) (hs' : Hist_t) (G' : Int → Int) (L' : List (Int → Int)), chg hs V k (iI a) (iI b) = some (fch res V' hs') ∧ RV V' G' ∧ VOk G' ∧ HL hs' L' ∧ ((∃ r, res = Sum.inl (iI r)) ∨ ∃ c, (c = -1 ∨ c = -2 ∨ c = -3) ∧ res = Sum.inr (exn c)) := by
  obtain ⟨r, r', thr, V', G', o1, o2, o3⟩ := hO
  rcases o3 with ⟨t1, t2, t3, t4, t5⟩ | ⟨t1, t2, t3⟩
  · obtain ⟨hs', w1, w2⟩ := zs_ok o1 t3 hV hG hH
    exact ⟨_, V', hs', G', _, w1, t4, t5, w2, Or.inl ⟨r, rfl⟩⟩
  · subst t2
    obtain ⟨f1, -, -⟩ := fc_rng k _ t1
    obtain ⟨sl, cur, ct⟩ := hs
    obtain ⟨V2, c, rfl, w1, w2, w3, w4⟩ := HL_begin hH hG hV
    exact ⟨_, V', _, G, L, chg_no w3 o1 f1, hV, hG, w4, Or.inr ⟨r, f1, rfl⟩⟩
theorem OpS.ok {k : Nat} {V : Valley_t} {G : Int → Int} {a b : Int} (hO : OpS k V G a b) (h : okp k a b) : ∃ r V' G', cO V k (iI a) (iI b) = some (fl (iI r) V') ∧ (0 ≤ r ∧ r ≤ 100000) ∧ RV V' G' ∧ VOk G' := by
  obtain ⟨r, r', thr, V', G', o1, o2, o3⟩ := hO
  rcases o3 with ⟨t1, t2, t3, t4, t5⟩ | ⟨t1, t2, t3⟩
  · exact ⟨r, V', G', o1, t3, t4, t5⟩
  · exact absurd h t3
