def sz (f : Int → Int) (i : Int) : Nat → Int
  | 0 => 0
  | d + 1 => f i + sz f (i + 1) d
theorem sz_cong {f g : Int → Int} (d : Nat) : ∀ (i : Int), (∀ k, i ≤ k → k < i + d → f k = g k) → sz f i d = sz g i d := by
  induction d with
  | zero => intro i _; rfl
  | succ d ih =>
    intro i h
    show f i + sz f (i + 1) d = g i + sz g (i + 1) d
    rw [h i (by omega) (by omega), ih (i + 1) (fun k h1 h2 => h k (by omega) (by omega))]
theorem sz_rng {f : Int → Int} {b : Int} (d : Nat) : ∀ (i : Int), (∀ k, i ≤ k → k < i + d → 0 ≤ f k ∧ f k ≤ b) → 0 ≤ sz f i d ∧ sz f i d ≤ b * d := by
  induction d with
  | zero => intro i _; exact ⟨Int.le_refl _, by show (0 : Int) ≤ b * ((0 : Nat) : Int); simp⟩
  | succ d ih =>
    intro i h
    have h1 := h i (by omega) (by omega)
    have h2 := ih (i + 1) (fun k h1 h2 => h k (by omega) (by omega))
    show 0 ≤ f i + sz f (i + 1) d ∧ f i + sz f (i + 1) d ≤ b * ((d + 1 : Nat) : Int)
    have e : b * ((d + 1 : Nat) : Int) = b * d + b := by rw [show ((d + 1 : Nat) : Int) = d + 1 from rfl, Int.mul_add, Int.mul_one]
    omega
theorem sz_snoc {f : Int → Int} (d : Nat) : ∀ (i : Int), sz f i (d + 1) = sz f i d + f (i + d) := by
  induction d with
  | zero => intro i; show f i + 0 = 0 + f (i + ((0 : Nat) : Int)); simp
  | succ d ih =>
    intro i
    show f i + sz f (i + 1) (d + 1) = f i + sz f (i + 1) d + f (i + ((d + 1 : Nat) : Int))
    rw [ih (i + 1), show i + 1 + (d : Int) = i + ((d + 1 : Nat) : Int) by omega]
    omega
theorem sz_add {f g : Int → Int} (d : Nat) : ∀ (i : Int), sz (fun k => f k + g k) i d = sz f i d + sz g i d := by
  induction d with
  | zero => intro i; rfl
  | succ d ih =>
    intro i
    show f i + g i + sz (fun k => f k + g k) (i + 1) d = f i + sz f (i + 1) d + (g i + sz g (i + 1) d)
    rw [ih]; omega
theorem sz_zero (d : Nat) : ∀ (i : Int), sz (fun _ => 0) i d = 0 := by
  induction d with
  | zero => intro i; rfl
  | succ d ih => intro i; show 0 + sz (fun _ => 0) (i + 1) d = 0; rw [ih]; rfl
theorem sz_mul {f : Int → Int} (c : Int) (d : Nat) : ∀ (i : Int), sz (fun k => c * f k) i d = c * sz f i d := by
  induction d with
  | zero => intro i; show 0 = c * 0; simp
  | succ d ih => intro i; show c * f i + sz (fun k => c * f k) (i + 1) d = c * (f i + sz f (i + 1) d); rw [ih, Int.mul_add]
theorem sz_swap {f : Int → Int → Int} (d e : Nat) : ∀ (i j : Int), sz (fun a => sz (fun b => f a b) j e) i d = sz (fun b => sz (fun a => f a b) i d) j e := by
  induction d with
  | zero => intro i j; exact (sz_zero e j).symm
  | succ d ih =>
    intro i j
    show sz (fun b => f i b) j e + sz (fun a => sz (fun b => f a b) j e) (i + 1) d = sz (fun b => f i b + sz (fun a => f a b) (i + 1) d) j e
    rw [ih, sz_add]
theorem z_countIn_L {P : Int → Int} {n t m o : Int} (hn : n ≤ 12) (hk : (0 ≤ t ∧ t ≤ 11) ∧ (m = 0 ∨ m = 1) ∧ (0 ≤ o ∧ o ≤ 50)) (hP : ∀ k, 0 ≤ k → k < n → 0 ≤ P k ∧ P k < 1000000) (d : Nat) : ∀ (i c : Int) (fuel : Nat), 0 ≤ i → i + d = n → d < fuel →
    f_X1_countIn_L4 (aI P) (iI n) (iI t) (iI m) (iI o) fuel (iI i) (iI c) = some (iI (c + sz (fun k => bz (ac t m o (P k))) i d)) := by
  induction d with
  | zero =>
    intro i c fuel h1 h2 h3
    obtain ⟨fl, rfl⟩ : ∃ fl, fuel = fl + 1 := ⟨fuel - 1, by omega⟩
    unfold f_X1_countIn_L4
    simp (disch := omega) only [↓q_brd, ↓q_gdd, ↓q_lts, ↓reduceIte, ↓q_bds, ↓zq_smi, ↓zq_smr, iI_add, iI_sub, iI_mul, iI_neg, iI_ab3, iI_div, z_emod, aI_rd, aI_wr, aR0, aW0, aR1, aW1, aR2, aW2, aR3, aW3, aR4, aW4, iI_inT, iI_lt, iI_le, iI_eq, lt_t, lt_f, le_t, le_f, eq_t, eq_f, bz_z, bz_o, bz_zo, bzT, bzF, n_em, zu_s, zu_n, not_true_eq_false, not_false_eq_true, and_self, true_and, and_true, false_and, and_false, true_or, or_true, false_or, or_false, or_self, Int.add_sub_cancel, n_0, n_1, n_2, n_3, n_4, n_5, n_6, n_7, n_8, n_9, n_10, n_11, n_12, n_13, n_14, n_15, n_16, n_17, n_18, n_19, n_20, n_21, n_22, n_23, n_24, n_25, n_26, n_27, n_28, n_29, n_30, n_31, n_32, n_33, n_34, n_35, n_36, n_37, n_40, n_44, n_48, n_50, n_57, n_58, n_60, n_65, n_66, n_67, n_68, n_69, n_70, n_71, n_73, n_77, n_80, n_83, n_97, n_98, n_99, n_100, n_101, n_102, n_103, n_104, n_105, n_106, n_107, n_108, n_109, n_110, n_111, n_112, n_113, n_114, n_115, n_116, n_117, n_118, n_120, n_121, n_122, n_180, n_255, n_539, n_600, n_616, n_1200, n_2000, n_3600, n_8400, n_65536]
    rw [show c + sz (fun k => bz (ac t m o (P k))) i 0 = c from Int.add_zero c]
  | succ d ih =>
    intro i c fuel h1 h2 h3
    obtain ⟨fl, rfl⟩ : ∃ fl, fuel = fl + 1 := ⟨fuel - 1, by omega⟩
    have hp := hP i h1 (by omega)
    unfold f_X1_countIn_L4
    show _ = some (iI (c + (bz (ac t m o (P i)) + sz (fun k => bz (ac t m o (P k))) (i + 1) d)))
    by_cases e : ac t m o (P i)
    · simp (disch := omega) only [↓q_brd, ↓q_gdd, ↓q_lts, ↓reduceIte, ↓q_bds, ↓zq_smi, ↓zq_smr, iI_add, iI_sub, iI_mul, iI_neg, iI_ab3, iI_div, z_emod, aI_rd, aI_wr, aR0, aW0, aR1, aW1, aR2, aW2, aR3, aW3, aR4, aW4, iI_inT, iI_lt, iI_le, iI_eq, lt_t, lt_f, le_t, le_f, eq_t, eq_f, bz_z, bz_o, bz_zo, bzT, bzF, n_em, zu_s, zu_n, not_true_eq_false, not_false_eq_true, and_self, true_and, and_true, false_and, and_false, true_or, or_true, false_or, or_false, or_self, Int.add_sub_cancel, n_0, n_1, n_2, n_3, n_4, n_5, n_6, n_7, n_8, n_9, n_10, n_11, n_12, n_13, n_14, n_15, n_16, n_17, n_18, n_19, n_20, n_21, n_22, n_23, n_24, n_25, n_26, n_27, n_28, n_29, n_30, n_31, n_32, n_33, n_34, n_35, n_36, n_37, n_40, n_44, n_48, n_50, n_57, n_58, n_60, n_65, n_66, n_67, n_68, n_69, n_70, n_71, n_73, n_77, n_80, n_83, n_97, n_98, n_99, n_100, n_101, n_102, n_103, n_104, n_105, n_106, n_107, n_108, n_109, n_110, n_111, n_112, n_113, n_114, n_115, n_116, n_117, n_118, n_120, n_121, n_122, n_180, n_255, n_539, n_600, n_616, n_1200, n_2000, n_3600, n_8400, n_65536, z_accepts, bz_t e]
      rw [ih (i + 1) (c + 1) fl (by omega) (by omega) (by omega), Int.add_assoc]
    · simp (disch := omega) only [↓q_brd, ↓q_gdd, ↓q_lts, ↓reduceIte, ↓q_bds, ↓zq_smi, ↓zq_smr, iI_add, iI_sub, iI_mul, iI_neg, iI_ab3, iI_div, z_emod, aI_rd, aI_wr, aR0, aW0, aR1, aW1, aR2, aW2, aR3, aW3, aR4, aW4, iI_inT, iI_lt, iI_le, iI_eq, lt_t, lt_f, le_t, le_f, eq_t, eq_f, bz_z, bz_o, bz_zo, bzT, bzF, n_em, zu_s, zu_n, not_true_eq_false, not_false_eq_true, and_self, true_and, and_true, false_and, and_false, true_or, or_true, false_or, or_false, or_self, Int.add_sub_cancel, n_0, n_1, n_2, n_3, n_4, n_5, n_6, n_7, n_8, n_9, n_10, n_11, n_12, n_13, n_14, n_15, n_16, n_17, n_18, n_19, n_20, n_21, n_22, n_23, n_24, n_25, n_26, n_27, n_28, n_29, n_30, n_31, n_32, n_33, n_34, n_35, n_36, n_37, n_40, n_44, n_48, n_50, n_57, n_58, n_60, n_65, n_66, n_67, n_68, n_69, n_70, n_71, n_73, n_77, n_80, n_83, n_97, n_98, n_99, n_100, n_101, n_102, n_103, n_104, n_105, n_106, n_107, n_108, n_109, n_110, n_111, n_112, n_113, n_114, n_115, n_116, n_117, n_118, n_120, n_121, n_122, n_180, n_255, n_539, n_600, n_616, n_1200, n_2000, n_3600, n_8400, n_65536, z_accepts, bz_f e]
      rw [ih (i + 1) c fl (by omega) (by omega) (by omega), Int.zero_add]
