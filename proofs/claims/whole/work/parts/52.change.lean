def exn (c : Int) : String := if c = -1 then "java/lang/IndexOutOfBoundsException" else if c = -2 then "java/lang/IllegalArgumentException" else "java/lang/IllegalStateException"
theorem fc_rng (k : Nat) : ∀ p ∈ fc k, (p.1 = -1 ∨ p.1 = -2 ∨ p.1 = -3) ∧ 1 ≤ p.2 ∧ p.2 ≤ 3 := by
  unfold fc
  split <;> decide
set_option maxHeartbeats 2000000 in
theorem z_change {k : Nat} {V : Valley_t} {hs : Hist_t} {G B h : Int → Int} {ch a b : Int} (hO : OpS k V G a b) (hV : RV V G) (hG : VOk G) (hH : HR hs h ch) :
    ∃ (res : Int32 ⊕ String) (V' : Valley_t) (hs' : Hist_t) (G2 h2 : Int → Int) (c2 r2 thr : Int),
      f_X10_change V.1.1 V.1.2.1 V.1.2.2 V.2.1.1 V.2.1.2.1 V.2.1.2.2 V.2.2.1.1 V.2.2.1.2.1 V.2.2.1.2.2 V.2.2.2.1 V.2.2.2.2.1 V.2.2.2.2.2 hs.1 hs.2.1 hs.2.2 k (iI a) (iI b) = some (res, V'.1.1, V'.1.2.1, V'.1.2.2, V'.2.1.1, V'.2.1.2.1, V'.2.1.2.2, V'.2.2.1.1, V'.2.2.1.2.1, V'.2.2.1.2.2, V'.2.2.2.1, V'.2.2.2.2.1, V'.2.2.2.2.2, hs'.1, hs'.2.1, hs'.2.2) ∧
      (∃ r' G', (∀ th, mO k (aI G) th (iI a) (iI b) = some (iI r', aI G', iI thr)) ∧ f_X11_kept (aI G') (aI (bfr G B)) (aI h) (iI ch) (iI thr) (iI r') = some (iI r2, aI G2, aI h2, iI c2)) ∧ RV V' G2 ∧ VOk G2 ∧ HR hs' h2 c2 ∧
      ((thr = 0 ∧ res = Sum.inl (iI r2) ∧ 0 ≤ r2 ∧ r2 ≤ 100000) ∨ ∃ code, (code, thr) ∈ fc k ∧ res = Sum.inr (exn code)) := by
  obtain ⟨sl, cur, ct⟩ := hs
  obtain ⟨V2, c, e1, e2, hR2, hbg, hH2⟩ := HR_begin hH hG hV
  subst e1
  obtain ⟨r, r', thr, V', G', o1, o2, o3⟩ := hO
  unfold cO at o1
  have hch : 0 ≤ ch ∧ ch ≤ 8 := by obtain ⟨_, _, _, _, w, _⟩ := hH; exact w
  rcases o3 with ⟨t1, t2, t3, t4, t5⟩ | ⟨t1, t2⟩
  · subst t1 t2
    obtain ⟨c2, k2, w1, w2⟩ := HR_keep (B := bfr G B) e2 hH2 hG hR2 (fun t h0 h1 => bfr_r ⟨h0, h1⟩)
    refine ⟨Sum.inl (iI r'), V', (upH sl c.toNat V2, c2, k2), G', hs2 (bfr G B) h ch, ch1 ch + 1, r', 0, ?_, ⟨r', G', o2, z_kept_ok hch⟩, t4, t5, w2, Or.inl ⟨rfl, rfl, t3⟩⟩
    unfold f_X10_change
    simp only [hbg, ↓q_bds, o1, w1]
    simp (disch := omega) only [↓q_brd, ↓q_gdd, ↓q_lts, ↓reduceIte, ↓q_bds, ↓zq_smi, ↓zq_smr, iI_add, iI_sub, iI_mul, iI_neg, iI_ab3, iI_div, z_emod, aI_rd, aI_wr, aR0, aW0, aR1, aW1, aR2, aW2, aR3, aW3, aR4, aW4, iI_inT, iI_lt, iI_le, iI_eq, lt_t, lt_f, le_t, le_f, eq_t, eq_f, bz_z, bz_o, bz_zo, bzT, bzF, n_em, zu_s, zu_n, not_true_eq_false, not_false_eq_true, and_self, true_and, and_true, false_and, and_false, true_or, or_true, false_or, or_false, or_self, Int.add_sub_cancel, n_0, n_1, n_2, n_3, n_4, n_5, n_6, n_7, n_8, n_9, n_10, n_11, n_12, n_13, n_14, n_15, n_16, n_17, n_18, n_19, n_20, n_21, n_22, n_23, n_24, n_25, n_26, n_27, n_28, n_29, n_30, n_31, n_32, n_33, n_34, n_35, n_36, n_37, n_40, n_44, n_48, n_50, n_57, n_58, n_60, n_65, n_66, n_67, n_68, n_69, n_70, n_71, n_73, n_77, n_80, n_83, n_97, n_98, n_99, n_100, n_101, n_102, n_103, n_104, n_105, n_106, n_107, n_108, n_109, n_110, n_111, n_112, n_113, n_114, n_115, n_116, n_117, n_118, n_120, n_121, n_122, n_180, n_255, n_539, n_600, n_616, n_1200, n_2000, n_3600, n_8400, n_65536]
  · subst t2
    obtain ⟨f1, f2, f3⟩ := fc_rng k _ t1
    have hgg : ∀ t, 0 ≤ t → t < 77 → bfr (bfr G B) G' t = G t := fun t h0 h1 => by rw [bfr_r ⟨h0, h1⟩, bfr_r ⟨h0, h1⟩]
    refine ⟨Sum.inr (exn r), V', (upH sl c.toNat V2, iI c, ct), bfr (bfr G B) G', h, ch, 0, thr, ?_, ⟨r', G', o2, z_kept_no ⟨f2, f3⟩⟩, RV_cong hgg hG hV, VOk_cong hgg hG, hH2, Or.inr ⟨r, t1, rfl⟩⟩
    unfold f_X10_change
    simp only [hbg, ↓q_bds, o1]
    rcases f1 with e | e | e
    · simp only at e; subst e
      unfold exn
      simp (disch := omega) only [↓q_brd, ↓q_gdd, ↓q_lts, ↓reduceIte, ↓q_bds, ↓zq_smi, ↓zq_smr, iI_add, iI_sub, iI_mul, iI_neg, iI_ab3, iI_div, z_emod, aI_rd, aI_wr, aR0, aW0, aR1, aW1, aR2, aW2, aR3, aW3, aR4, aW4, iI_inT, iI_lt, iI_le, iI_eq, lt_t, lt_f, le_t, le_f, eq_t, eq_f, bz_z, bz_o, bz_zo, bzT, bzF, n_em, zu_s, zu_n, not_true_eq_false, not_false_eq_true, and_self, true_and, and_true, false_and, and_false, true_or, or_true, false_or, or_false, or_self, Int.add_sub_cancel, n_0, n_1, n_2, n_3, n_4, n_5, n_6, n_7, n_8, n_9, n_10, n_11, n_12, n_13, n_14, n_15, n_16, n_17, n_18, n_19, n_20, n_21, n_22, n_23, n_24, n_25, n_26, n_27, n_28, n_29, n_30, n_31, n_32, n_33, n_34, n_35, n_36, n_37, n_40, n_44, n_48, n_50, n_57, n_58, n_60, n_65, n_66, n_67, n_68, n_69, n_70, n_71, n_73, n_77, n_80, n_83, n_97, n_98, n_99, n_100, n_101, n_102, n_103, n_104, n_105, n_106, n_107, n_108, n_109, n_110, n_111, n_112, n_113, n_114, n_115, n_116, n_117, n_118, n_120, n_121, n_122, n_180, n_255, n_539, n_600, n_616, n_1200, n_2000, n_3600, n_8400, n_65536]
    · simp only at e; subst e
      unfold exn
      simp (disch := omega) only [↓q_brd, ↓q_gdd, ↓q_lts, ↓reduceIte, ↓q_bds, ↓zq_smi, ↓zq_smr, iI_add, iI_sub, iI_mul, iI_neg, iI_ab3, iI_div, z_emod, aI_rd, aI_wr, aR0, aW0, aR1, aW1, aR2, aW2, aR3, aW3, aR4, aW4, iI_inT, iI_lt, iI_le, iI_eq, lt_t, lt_f, le_t, le_f, eq_t, eq_f, bz_z, bz_o, bz_zo, bzT, bzF, n_em, zu_s, zu_n, not_true_eq_false, not_false_eq_true, and_self, true_and, and_true, false_and, and_false, true_or, or_true, false_or, or_false, or_self, Int.add_sub_cancel, n_0, n_1, n_2, n_3, n_4, n_5, n_6, n_7, n_8, n_9, n_10, n_11, n_12, n_13, n_14, n_15, n_16, n_17, n_18, n_19, n_20, n_21, n_22, n_23, n_24, n_25, n_26, n_27, n_28, n_29, n_30, n_31, n_32, n_33, n_34, n_35, n_36, n_37, n_40, n_44, n_48, n_50, n_57, n_58, n_60, n_65, n_66, n_67, n_68, n_69, n_70, n_71, n_73, n_77, n_80, n_83, n_97, n_98, n_99, n_100, n_101, n_102, n_103, n_104, n_105, n_106, n_107, n_108, n_109, n_110, n_111, n_112, n_113, n_114, n_115, n_116, n_117, n_118, n_120, n_121, n_122, n_180, n_255, n_539, n_600, n_616, n_1200, n_2000, n_3600, n_8400, n_65536]
    · simp only at e; subst e
      unfold exn
      simp (disch := omega) only [↓q_brd, ↓q_gdd, ↓q_lts, ↓reduceIte, ↓q_bds, ↓zq_smi, ↓zq_smr, iI_add, iI_sub, iI_mul, iI_neg, iI_ab3, iI_div, z_emod, aI_rd, aI_wr, aR0, aW0, aR1, aW1, aR2, aW2, aR3, aW3, aR4, aW4, iI_inT, iI_lt, iI_le, iI_eq, lt_t, lt_f, le_t, le_f, eq_t, eq_f, bz_z, bz_o, bz_zo, bzT, bzF, n_em, zu_s, zu_n, not_true_eq_false, not_false_eq_true, and_self, true_and, and_true, false_and, and_false, true_or, or_true, false_or, or_false, or_self, Int.add_sub_cancel, n_0, n_1, n_2, n_3, n_4, n_5, n_6, n_7, n_8, n_9, n_10, n_11, n_12, n_13, n_14, n_15, n_16, n_17, n_18, n_19, n_20, n_21, n_22, n_23, n_24, n_25, n_26, n_27, n_28, n_29, n_30, n_31, n_32, n_33, n_34, n_35, n_36, n_37, n_40, n_44, n_48, n_50, n_57, n_58, n_60, n_65, n_66, n_67, n_68, n_69, n_70, n_71, n_73, n_77, n_80, n_83, n_97, n_98, n_99, n_100, n_101, n_102, n_103, n_104, n_105, n_106, n_107, n_108, n_109, n_110, n_111, n_112, n_113, n_114, n_115, n_116, n_117, n_118, n_120, n_121, n_122, n_180, n_255, n_539, n_600, n_616, n_1200, n_2000, n_3600, n_8400, n_65536]
def InvV (V : Valley_t) (g : Nat → Int32) : Prop := ∃ G, g = aI G ∧ RV V G ∧ VOk G
def InvH (hs : Hist_t) (hist : Nat → Int32) (ch : Int32) : Prop := ∃ h c, hist = aI h ∧ ch = iI c ∧ HR hs h c
def InvS (sv : Valley_t) (is : Int32) (ss : Nat → Int32) (has : Int32) : Prop := (is = iI 0 ∧ has = iI 0) ∨ (is = iI 1 ∧ has = iI 1 ∧ InvV sv ss)
def InvP (text : Nat → Int32) (len : Int32) (buf : Nat → Int32) (typed : Int32) : Prop := ∃ tx bf n, text = aI tx ∧ buf = aI bf ∧ len = iI n ∧ typed = iI n ∧ (0 ≤ n ∧ n ≤ 60) ∧ ∀ k, 0 ≤ k → k < n → tx k = bf k ∧ 0 ≤ bf k ∧ bf k < 65536
def InvE (a b : Int32) : Prop := ∃ e, a = iI e ∧ b = iI e ∧ -1 ≤ e ∧ e ≤ 100
def Inv (IL : Line_t → (Nat → Int32) → Int32 → Prop) (x : VB_t) (y : Model_t) : Prop := InvV x.1.1 y.1.1 ∧ InvH x.1.2.2.1 y.1.2.2.1 y.1.2.2.2.1 ∧ InvS x.1.2.1 x.2.2.2.1 y.1.2.2.2.2 y.2.1.1 ∧ InvP x.1.2.2.2.1.1.1 x.1.2.2.2.1.1.2.1 y.2.1.2.1 y.2.1.2.2.1 ∧ InvE x.2.2.2.2.1 y.2.1.2.2.2.1 ∧ InvE x.2.2.2.2.2 y.2.1.2.2.2.2 ∧ IL x.2.2.1 y.2.2.1.1 y.2.2.1.2.1
theorem lg_self (v : Int64) : lg_cmp v v = iI 0 := by
  unfold lg_cmp
  rw [if_neg (show ¬ v > v from Int64.lt_irrefl), if_pos rfl]; rfl
theorem updL0 (z : Nat → Int64) (v : Int64) : vp_updL z 0 v 0 = v := rfl
