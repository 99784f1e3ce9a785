theorem q_brQ {Z : Type} {c : Prop} {dc : Decidable c} {a b : Option Z} {Q : Option Z → Prop} (h1 : Q a) (h2 : Q b) : Q (@q_br _ c dc a b) := by
  rw [q_brd]
  by_cases h : c
  · rw [if_pos h]; exact h1
  · rw [if_neg h]; exact h2
def z_G : Int → Int := fun t => if t = 4 then 10 else 0
theorem z_Gn {t : Int} (h : ¬ t = 4) : z_G t = 0 := if_neg h
theorem law_init : Inv ILn vb_init m_init := by
  have hV : RV v_init z_G := by
    refine ⟨fun _ => 0, fun _ => 0, fun _ => 0, fun _ => 0, fun _ => 0, fun _ => 0, fun _ => 0, rfl, fun k k0 k1 => ?_, fun h h0 h1 => ⟨?_, ?_, fun k k0 k1 => ?_⟩, fun k k0 k1 => ?_⟩
    · rw [z_Gn (by decide)] at k1; omega
    · rw [z_Gn (by omega)]
    · rw [z_Gn (by omega)]
    · rw [z_Gn (by omega)] at k1; omega
    · rw [z_Gn (by decide)] at k1; omega
  have hG : VOk z_G := by
    refine ⟨by decide, by decide, by decide, Or.inl rfl, by decide, fun k k0 k1 => ?_, fun h h0 h1 => ⟨?_, ?_, fun k k0 k1 => ?_⟩, fun k k0 k1 => ?_⟩
    · rw [z_Gn (by decide)] at k1; omega
    · rw [z_Gn (by omega)]; omega
    · rw [z_Gn (by omega)]; omega
    · rw [z_Gn (by omega)] at k1; omega
    · rw [z_Gn (by decide)] at k1; omega
  have hg : upd (fun _ => (0 : Int32)) 4 10 = aI z_G := by
    funext k
    show (if k = 4 then (10 : Int32) else 0) = iI (if (k : Int) = 4 then 10 else 0)
    by_cases c : k = 4
    · rw [if_pos c, if_pos (by omega)]; rfl
    · rw [if_neg c, if_neg (by omega)]; rfl
  refine ⟨⟨_, hg, hV, hG⟩, ⟨fun _ => 0, 0, rfl, rfl, ⟨0, rfl, by omega, rfl, by omega, fun j j0 j1 => by omega⟩⟩, Or.inl ⟨rfl, rfl⟩, ⟨fun _ => 0, fun _ => 0, 0, rfl, rfl, rfl, rfl, by omega, fun k k0 k1 => by omega⟩, ⟨-1, rfl, rfl, by omega⟩, ⟨-1, rfl, rfl, by omega⟩, ⟨0, fun _ => 0, fun _ => 0, rfl, rfl, rfl, rfl, Or.inl rfl, by decide, fun k k0 k1 => by omega, fun k k0 k1 => (show -128 ≤ (0 : Int) ∧ (0 : Int) ≤ 127 by omega)⟩⟩
theorem law_step {x : VB_t} {y : Model_t} {z : Nat → Int64} {w : Nat → UInt64} {xs : Nat → Int32} {n : Nat} {i : Int} (v : Int32) (hI : Inv ILn x y) (hi : 0 ≤ i ∧ i + 2 < n ∧ n ≤ 10000) : ∃ x2 y2 z2 w2, f_step v x y z w xs n (iI i) = some (x2, y2, z2, w2) ∧ Inv ILn x2 y2 := by
  unfold f_step
  refine q_brQ (Q := fun t => ∃ x2 y2 z2 w2, t = some (x2, y2, z2, w2) ∧ Inv ILn x2 y2) ?_ ?_
  · obtain ⟨x2, y2, z2, h⟩ := lc_0 (z := z) (w := w) (xs := xs) hI hi; exact ⟨x2, y2, z2, w, h⟩
  refine q_brQ (Q := fun t => ∃ x2 y2 z2 w2, t = some (x2, y2, z2, w2) ∧ Inv ILn x2 y2) ?_ ?_
  · obtain ⟨x2, y2, z2, h⟩ := lc_1 (z := z) (w := w) (xs := xs) hI hi; exact ⟨x2, y2, z2, w, h⟩
  refine q_brQ (Q := fun t => ∃ x2 y2 z2 w2, t = some (x2, y2, z2, w2) ∧ Inv ILn x2 y2) ?_ ?_
  · obtain ⟨x2, y2, z2, h⟩ := lc_2 (z := z) (w := w) (xs := xs) hI hi; exact ⟨x2, y2, z2, w, h⟩
  refine q_brQ (Q := fun t => ∃ x2 y2 z2 w2, t = some (x2, y2, z2, w2) ∧ Inv ILn x2 y2) ?_ ?_
  · obtain ⟨x2, y2, z2, h⟩ := lc_3 (z := z) (w := w) (xs := xs) hI hi; exact ⟨x2, y2, z2, w, h⟩
  refine q_brQ (Q := fun t => ∃ x2 y2 z2 w2, t = some (x2, y2, z2, w2) ∧ Inv ILn x2 y2) ?_ ?_
  · obtain ⟨x2, y2, z2, h⟩ := lc_4 (z := z) (w := w) (xs := xs) hI hi; exact ⟨x2, y2, z2, w, h⟩
  refine q_brQ (Q := fun t => ∃ x2 y2 z2 w2, t = some (x2, y2, z2, w2) ∧ Inv ILn x2 y2) ?_ ?_
  · obtain ⟨x2, y2, z2, h⟩ := lc_5 (z := z) (w := w) (xs := xs) hI hi; exact ⟨x2, y2, z2, w, h⟩
  refine q_brQ (Q := fun t => ∃ x2 y2 z2 w2, t = some (x2, y2, z2, w2) ∧ Inv ILn x2 y2) ?_ ?_
  · obtain ⟨x2, y2, z2, h⟩ := lc_6 (z := z) (w := w) (xs := xs) hI hi; exact ⟨x2, y2, z2, w, h⟩
  refine q_brQ (Q := fun t => ∃ x2 y2 z2 w2, t = some (x2, y2, z2, w2) ∧ Inv ILn x2 y2) ?_ ?_
  · obtain ⟨x2, y2, z2, h⟩ := lc_7 (z := z) (w := w) (xs := xs) hI hi; exact ⟨x2, y2, z2, w, h⟩
  refine q_brQ (Q := fun t => ∃ x2 y2 z2 w2, t = some (x2, y2, z2, w2) ∧ Inv ILn x2 y2) ?_ ?_
  · obtain ⟨x2, y2, z2, h⟩ := lc_8 (z := z) (w := w) (xs := xs) hI hi; exact ⟨x2, y2, z2, w, h⟩
  refine q_brQ (Q := fun t => ∃ x2 y2 z2 w2, t = some (x2, y2, z2, w2) ∧ Inv ILn x2 y2) ?_ ?_
  · obtain ⟨x2, y2, z2, h⟩ := lc_9 (z := z) (w := w) (xs := xs) hI hi; exact ⟨x2, y2, z2, w, h⟩
  refine q_brQ (Q := fun t => ∃ x2 y2 z2 w2, t = some (x2, y2, z2, w2) ∧ Inv ILn x2 y2) ?_ ?_
  · obtain ⟨x2, y2, z2, h⟩ := lc_10 (z := z) (w := w) (xs := xs) hI hi; exact ⟨x2, y2, z2, w, h⟩
  refine q_brQ (Q := fun t => ∃ x2 y2 z2 w2, t = some (x2, y2, z2, w2) ∧ Inv ILn x2 y2) ?_ ?_
  · obtain ⟨x2, y2, z2, h⟩ := lc_11 (z := z) (w := w) (xs := xs) hI hi; exact ⟨x2, y2, z2, w, h⟩
  refine q_brQ (Q := fun t => ∃ x2 y2 z2 w2, t = some (x2, y2, z2, w2) ∧ Inv ILn x2 y2) ?_ ?_
  · exact lc_12 hI hi
  refine q_brQ (Q := fun t => ∃ x2 y2 z2 w2, t = some (x2, y2, z2, w2) ∧ Inv ILn x2 y2) ?_ ?_
  · exact lc_13 hI hi
  refine q_brQ (Q := fun t => ∃ x2 y2 z2 w2, t = some (x2, y2, z2, w2) ∧ Inv ILn x2 y2) ?_ ?_
  · exact lc_14 hI hi
  refine q_brQ (Q := fun t => ∃ x2 y2 z2 w2, t = some (x2, y2, z2, w2) ∧ Inv ILn x2 y2) ?_ ?_
  · exact lc_15 hI hi
  refine q_brQ (Q := fun t => ∃ x2 y2 z2 w2, t = some (x2, y2, z2, w2) ∧ Inv ILn x2 y2) ?_ ?_
  · exact lc_16 hI hi
  refine q_brQ (Q := fun t => ∃ x2 y2 z2 w2, t = some (x2, y2, z2, w2) ∧ Inv ILn x2 y2) ?_ ?_
  · exact lc_17 hI hi
  refine q_brQ (Q := fun t => ∃ x2 y2 z2 w2, t = some (x2, y2, z2, w2) ∧ Inv ILn x2 y2) ?_ ?_
  · exact lc_18 hI hi
  refine q_brQ (Q := fun t => ∃ x2 y2 z2 w2, t = some (x2, y2, z2, w2) ∧ Inv ILn x2 y2) ?_ ?_
  · exact lc_19 hI hi
  refine q_brQ (Q := fun t => ∃ x2 y2 z2 w2, t = some (x2, y2, z2, w2) ∧ Inv ILn x2 y2) ?_ ?_
  · exact lc_20 hI hi
  refine q_brQ (Q := fun t => ∃ x2 y2 z2 w2, t = some (x2, y2, z2, w2) ∧ Inv ILn x2 y2) ?_ ?_
  · exact lc_21 hI hi
  refine q_brQ (Q := fun t => ∃ x2 y2 z2 w2, t = some (x2, y2, z2, w2) ∧ Inv ILn x2 y2) ?_ ?_
  · exact lc_22 hI hi
  refine q_brQ (Q := fun t => ∃ x2 y2 z2 w2, t = some (x2, y2, z2, w2) ∧ Inv ILn x2 y2) ?_ ?_
  · exact lc_23 hI hi
  refine q_brQ (Q := fun t => ∃ x2 y2 z2 w2, t = some (x2, y2, z2, w2) ∧ Inv ILn x2 y2) ?_ ?_
  · exact lc_24 hI hi
  refine q_brQ (Q := fun t => ∃ x2 y2 z2 w2, t = some (x2, y2, z2, w2) ∧ Inv ILn x2 y2) ?_ ?_
  · exact lc_25 hI hi
  refine q_brQ (Q := fun t => ∃ x2 y2 z2 w2, t = some (x2, y2, z2, w2) ∧ Inv ILn x2 y2) ?_ ?_
  · exact lc_26 hI hi
  refine q_brQ (Q := fun t => ∃ x2 y2 z2 w2, t = some (x2, y2, z2, w2) ∧ Inv ILn x2 y2) ?_ ?_
  · exact lc_27 hI hi
  refine q_brQ (Q := fun t => ∃ x2 y2 z2 w2, t = some (x2, y2, z2, w2) ∧ Inv ILn x2 y2) ?_ ?_
  · exact lc_28 hI hi
  refine q_brQ (Q := fun t => ∃ x2 y2 z2 w2, t = some (x2, y2, z2, w2) ∧ Inv ILn x2 y2) ?_ ?_
  · exact lc_29 hI hi
  refine q_brQ (Q := fun t => ∃ x2 y2 z2 w2, t = some (x2, y2, z2, w2) ∧ Inv ILn x2 y2) ?_ ?_
  · exact lc_30 hI hi
  refine q_brQ (Q := fun t => ∃ x2 y2 z2 w2, t = some (x2, y2, z2, w2) ∧ Inv ILn x2 y2) ?_ ?_
  · exact lc_31 hI hi
  refine q_brQ (Q := fun t => ∃ x2 y2 z2 w2, t = some (x2, y2, z2, w2) ∧ Inv ILn x2 y2) ?_ ?_
  · exact lc_32 hI hi
  refine q_brQ (Q := fun t => ∃ x2 y2 z2 w2, t = some (x2, y2, z2, w2) ∧ Inv ILn x2 y2) ?_ ?_
  · exact lc_33 hI hi
  refine q_brQ (Q := fun t => ∃ x2 y2 z2 w2, t = some (x2, y2, z2, w2) ∧ Inv ILn x2 y2) ?_ ?_
  · exact lc_34 hI hi
  refine q_brQ (Q := fun t => ∃ x2 y2 z2 w2, t = some (x2, y2, z2, w2) ∧ Inv ILn x2 y2) ?_ ?_
  · exact lc_35 hI hi
  refine q_brQ (Q := fun t => ∃ x2 y2 z2 w2, t = some (x2, y2, z2, w2) ∧ Inv ILn x2 y2) ?_ ?_
  · exact lc_36 hI hi
  refine q_brQ (Q := fun t => ∃ x2 y2 z2 w2, t = some (x2, y2, z2, w2) ∧ Inv ILn x2 y2) ?_ ?_
  · exact lc_37 hI hi
  refine q_brQ (Q := fun t => ∃ x2 y2 z2 w2, t = some (x2, y2, z2, w2) ∧ Inv ILn x2 y2) ?_ ?_
  · exact lc_38 hI hi
  refine q_brQ (Q := fun t => ∃ x2 y2 z2 w2, t = some (x2, y2, z2, w2) ∧ Inv ILn x2 y2) ?_ ?_
  · exact lc_39 hI hi
  refine q_brQ (Q := fun t => ∃ x2 y2 z2 w2, t = some (x2, y2, z2, w2) ∧ Inv ILn x2 y2) ?_ ?_
  · exact lc_40 hI hi
  refine q_brQ (Q := fun t => ∃ x2 y2 z2 w2, t = some (x2, y2, z2, w2) ∧ Inv ILn x2 y2) ?_ ?_
  · exact lc_41 hI hi
  refine q_brQ (Q := fun t => ∃ x2 y2 z2 w2, t = some (x2, y2, z2, w2) ∧ Inv ILn x2 y2) ?_ ?_
  · exact lc_42 hI hi
  refine q_brQ (Q := fun t => ∃ x2 y2 z2 w2, t = some (x2, y2, z2, w2) ∧ Inv ILn x2 y2) ?_ ?_
  · exact lc_43 hI hi
  refine q_brQ (Q := fun t => ∃ x2 y2 z2 w2, t = some (x2, y2, z2, w2) ∧ Inv ILn x2 y2) ?_ ?_
  · exact lc_44 hI hi
  refine q_brQ (Q := fun t => ∃ x2 y2 z2 w2, t = some (x2, y2, z2, w2) ∧ Inv ILn x2 y2) ?_ ?_
  · exact lc_45 hI hi
  refine q_brQ (Q := fun t => ∃ x2 y2 z2 w2, t = some (x2, y2, z2, w2) ∧ Inv ILn x2 y2) ?_ ?_
  · exact lc_46 hI hi
  refine q_brQ (Q := fun t => ∃ x2 y2 z2 w2, t = some (x2, y2, z2, w2) ∧ Inv ILn x2 y2) ?_ ?_
  · exact lc_47 hI hi
  refine q_brQ (Q := fun t => ∃ x2 y2 z2 w2, t = some (x2, y2, z2, w2) ∧ Inv ILn x2 y2) ?_ ?_
  · exact lc_48 hI hi
  refine q_brQ (Q := fun t => ∃ x2 y2 z2 w2, t = some (x2, y2, z2, w2) ∧ Inv ILn x2 y2) ?_ ?_
  · exact lc_49 hI hi
  refine q_brQ (Q := fun t => ∃ x2 y2 z2 w2, t = some (x2, y2, z2, w2) ∧ Inv ILn x2 y2) ?_ ?_
  · exact lc_50 hI hi
  refine q_brQ (Q := fun t => ∃ x2 y2 z2 w2, t = some (x2, y2, z2, w2) ∧ Inv ILn x2 y2) ?_ ?_
  · exact lc_51 hI hi
  refine q_brQ (Q := fun t => ∃ x2 y2 z2 w2, t = some (x2, y2, z2, w2) ∧ Inv ILn x2 y2) ?_ ?_
  · exact lc_52 hI hi
  refine q_brQ (Q := fun t => ∃ x2 y2 z2 w2, t = some (x2, y2, z2, w2) ∧ Inv ILn x2 y2) ?_ ?_
  · exact lc_53 hI hi
  refine q_brQ (Q := fun t => ∃ x2 y2 z2 w2, t = some (x2, y2, z2, w2) ∧ Inv ILn x2 y2) ?_ ?_
  · exact lc_54 hI hi
  exact ⟨x, y, z, w, rfl, hI⟩
theorem law_L {xs : Nat → Int32} {n : Nat} (hn : n ≤ 1536) (d : Nat) : ∀ (i : Int) (x : VB_t) (y : Model_t) (z : Nat → Int64) (w : Nat → UInt64) (fuel : Nat), 0 ≤ i ∧ i ≤ 3000 → n ≤ i + 3 * d → d < fuel → Inv ILn x y → f_loop xs n fuel (iI i) x y z w = some () := by
  induction d with
  | zero =>
    intro i x y z w fuel h1 h2 h3 h4
    obtain ⟨fl, rfl⟩ : ∃ fl, fuel = fl + 1 := ⟨fuel - 1, by omega⟩
    unfold f_loop
    rw [show Int32.ofNat n = iI n from rfl]
    simp (disch := omega) only [↓q_brd, ↓q_gdd, ↓q_lts, ↓reduceIte, ↓q_bds, ↓zq_smi, ↓zq_smr, iI_add, iI_sub, iI_mul, iI_neg, iI_ab3, iI_div, z_emod, aI_rd, aI_wr, aR0, aW0, aR1, aW1, aR2, aW2, aR3, aW3, aR4, aW4, iI_inT, iI_lt, iI_le, iI_eq, lt_t, lt_f, le_t, le_f, eq_t, eq_f, bz_z, bz_o, bz_zo, bzT, bzF, n_em, zu_s, zu_n, not_true_eq_false, not_false_eq_true, and_self, true_and, and_true, false_and, and_false, true_or, or_true, false_or, or_false, or_self, Int.add_sub_cancel, n_0, n_1, n_2, n_3, n_4, n_5, n_6, n_7, n_8, n_9, n_10, n_11, n_12, n_13, n_14, n_15, n_16, n_17, n_18, n_19, n_20, n_21, n_22, n_23, n_24, n_25, n_26, n_27, n_28, n_29, n_30, n_31, n_32, n_33, n_34, n_35, n_36, n_37, n_40, n_44, n_48, n_50, n_57, n_58, n_60, n_65, n_66, n_67, n_68, n_69, n_70, n_71, n_73, n_77, n_80, n_83, n_97, n_98, n_99, n_100, n_101, n_102, n_103, n_104, n_105, n_106, n_107, n_108, n_109, n_110, n_111, n_112, n_113, n_114, n_115, n_116, n_117, n_118, n_120, n_121, n_122, n_180, n_255, n_539, n_600, n_616, n_1200, n_2000, n_3600, n_8400, n_65536]
  | succ d ih =>
    intro i x y z w fuel h1 h2 h3 h4
    obtain ⟨fl, rfl⟩ : ∃ fl, fuel = fl + 1 := ⟨fuel - 1, by omega⟩
    unfold f_loop
    rw [show Int32.ofNat n = iI n from rfl]
    by_cases c : (n : Int) - 3 < i
    · simp (disch := omega) only [↓q_brd, ↓q_gdd, ↓q_lts, ↓reduceIte, ↓q_bds, ↓zq_smi, ↓zq_smr, iI_add, iI_sub, iI_mul, iI_neg, iI_ab3, iI_div, z_emod, aI_rd, aI_wr, aR0, aW0, aR1, aW1, aR2, aW2, aR3, aW3, aR4, aW4, iI_inT, iI_lt, iI_le, iI_eq, lt_t, lt_f, le_t, le_f, eq_t, eq_f, bz_z, bz_o, bz_zo, bzT, bzF, n_em, zu_s, zu_n, not_true_eq_false, not_false_eq_true, and_self, true_and, and_true, false_and, and_false, true_or, or_true, false_or, or_false, or_self, Int.add_sub_cancel, n_0, n_1, n_2, n_3, n_4, n_5, n_6, n_7, n_8, n_9, n_10, n_11, n_12, n_13, n_14, n_15, n_16, n_17, n_18, n_19, n_20, n_21, n_22, n_23, n_24, n_25, n_26, n_27, n_28, n_29, n_30, n_31, n_32, n_33, n_34, n_35, n_36, n_37, n_40, n_44, n_48, n_50, n_57, n_58, n_60, n_65, n_66, n_67, n_68, n_69, n_70, n_71, n_73, n_77, n_80, n_83, n_97, n_98, n_99, n_100, n_101, n_102, n_103, n_104, n_105, n_106, n_107, n_108, n_109, n_110, n_111, n_112, n_113, n_114, n_115, n_116, n_117, n_118, n_120, n_121, n_122, n_180, n_255, n_539, n_600, n_616, n_1200, n_2000, n_3600, n_8400, n_65536]
    · obtain ⟨x2, y2, z2, w2, e1, e2⟩ := law_step (z := z) (w := w) (xs := xs) (n := n) (i := i) (xs (iI i).toNatClampNeg &&& 63) h4 (by omega)
      have e3 := ih (i + 3) x2 y2 z2 w2 fl (by omega) (by omega) (by omega) e2
      rw [show (3 : Int32) = iI 3 from rfl, iI_sub, iI_add]
      rw [q_brd, if_neg (by rw [iI_lt (by omega)]; exact c), q_gdd, if_pos (iI_in (by omega)), e1, q_bds]
      exact e3
theorem law_true (L : Nat) (hL : L ≤ 1536) (xs : Nat → Int32) : f_law xs L = some () :=
  law_L hL 512 0 vb_init m_init (fun _ => 0) (fun _ => 0) 600 (by omega) (by omega) (by omega) law_init
