theorem zr_f1 {t : Int → Int} {n c : Int} {cs : List Int} {q : z_Q} (h : 97 ≤ c) (h0 : zh t n q.1 ≠ c) : zr t n (c :: cs) (true, q) = (false, q) := by
  rw [zr_t, zs_let h, if_neg h0, zr_no]
theorem zr_s1 {t : Int → Int} {n c : Int} {cs : List Int} {q : z_Q} (h : 97 ≤ c) (h0 : zh t n q.1 = c) : zr t n (c :: cs) (true, q) = zr t n cs (true, (q.1 + 1, q.2.1, q.2.2.1, q.2.2.2)) := by
  rw [zr_t, zs_let h, if_pos h0]
theorem zh_cong {t t2 : Int → Int} {n : Int} (h : ∀ k, 0 ≤ k → k < n → t k = t2 k) {p : Int} (hp : 0 ≤ p) : zh t n p = zh t2 n p := by
  unfold zh
  by_cases c : p < n
  · rw [if_pos c, if_pos c, h p hp c]
  · rw [if_neg c, if_neg c]
theorem zr_cong {t t2 : Int → Int} {n : Int} (h : ∀ k, 0 ≤ k → k < n → t k = t2 k) (cs : List Int) : ∀ (r : Bool × z_Q), (∀ c ∈ cs, 0 ≤ c) → 0 ≤ r.2.1 ∧ r.2.1 ≤ n → zr t n cs r = zr t2 n cs r := by
  induction cs with
  | nil => intro r _ _; rfl
  | cons c cs ih =>
    intro r hc hr
    show zr t n cs (if r.1 = true then zs t n c r.2 else r) = zr t2 n cs (if r.1 = true then zs t2 n c r.2 else r)
    by_cases e : r.1 = true
    · rw [if_pos e, if_pos e]
      have e2 : zs t n c r.2 = zs t2 n c r.2 := by
        unfold zs
        rw [zh_cong h hr.1]
      have := zs_rng (t := t2) (n := n) (c := c) (q := r.2) (hc c List.mem_cons_self) hr
      rw [e2]
      exact ih _ (fun d hd => hc d (List.mem_cons_of_mem _ hd)) (by omega)
    · rw [if_neg e, if_neg e]
      exact ih _ (fun d hd => hc d (List.mem_cons_of_mem _ hd)) hr
theorem zc_try {t v : Int → Int} {n s sg f : Int} {i : Nat} (hi : i < 12) (hn : 0 ≤ n ∧ n ≤ 60) (ht : ∀ k, 0 ≤ k → k < n → 0 ≤ t k ∧ t k < 65536) (hs : 0 ≤ s ∧ s ≤ n) (hf : 0 ≤ f ∧ f ≤ 100) (cm : Nat → Option Nat) (fs ss : Nat → Int32) (ct ar au : Int32) (K : Nat → (Nat → Int32) → Int32 → Int32 → Int32 → Int32 → Option (Int32 × (Nat → Option Nat) × (Nat → Int32) × (Nat → Int32) × Int32 × (Nat → Int32) × Int32 × Int32 × Int32 × Int32)) (fl : Nat) {R : Bool × z_Q} (hR : zr t n (fm i) (true, (s, -1, sg, v)) = R) :
    f_X8_readCommand_L20 (aI t) (iI n) cm fs ss ct (iI s) K (fl + 1) (iI i) (aI v) ar (iI sg) au (iI f) = if R.1 = true then K i (aI R.2.2.2.2) (iI R.2.2.1) (iI R.2.2.2.1) (iI R.2.1) (iI f) else f_X8_readCommand_L20 (aI t) (iI n) cm fs ss ct (iI s) K fl (iI ((i + 1 : Nat) : Int)) (aI R.2.2.2.2) (iI R.2.2.1) (iI R.2.2.2.1) (iI R.2.1) (iI (if f < R.2.1 then R.2.1 else f)) := by
  have hm := zc_mat (v := v) (sg := sg) hi hn ht hs ar
  rw [hR] at hm
  unfold z_rt at hm
  have e : (iI (i : Int)).toNatClampNeg = i := by rw [iI_cl (by omega)]; omega
  have hi2 : (i < 12) = True := eq_true hi
  have hp := zr_rng (t := t) (n := n) (fm i) (true, (s, -1, sg, v)) (fun c hc => (fm_pos0 ⟨i, hi⟩ c hc).1) hs
  rw [hR] at hp
  simp only at hp
  rw [show ((i + 1 : Nat) : Int) = (i : Int) + 1 from rfl]
  conv => lhs; unfold f_X8_readCommand_L20
  by_cases c : R.1 = true
  · rw [if_pos c]
    rw [if_pos c] at hm
    simp (disch := omega) only [↓q_brd, ↓q_gdd, ↓q_lts, ↓reduceIte, ↓q_bds, ↓zq_smi, ↓zq_smr, iI_add, iI_sub, iI_mul, iI_neg, iI_ab3, iI_div, z_emod, aI_rd, aI_wr, aR0, aW0, aR1, aW1, aR2, aW2, aR3, aW3, aR4, aW4, iI_inT, iI_lt, iI_le, iI_eq, lt_t, lt_f, le_t, le_f, eq_t, eq_f, bz_z, bz_o, bz_zo, bzT, bzF, n_em, zu_s, zu_n, not_true_eq_false, not_false_eq_true, and_self, true_and, and_true, false_and, and_false, true_or, or_true, false_or, or_false, or_self, Int.add_sub_cancel, n_0, n_1, n_2, n_3, n_4, n_5, n_6, n_7, n_8, n_9, n_10, n_11, n_12, n_13, n_14, n_15, n_16, n_17, n_18, n_19, n_20, n_21, n_22, n_23, n_24, n_25, n_26, n_27, n_28, n_29, n_30, n_31, n_32, n_33, n_34, n_35, n_36, n_37, n_40, n_44, n_48, n_50, n_57, n_58, n_60, n_65, n_66, n_67, n_68, n_69, n_70, n_71, n_73, n_77, n_80, n_83, n_97, n_98, n_99, n_100, n_101, n_102, n_103, n_104, n_105, n_106, n_107, n_108, n_109, n_110, n_111, n_112, n_113, n_114, n_115, n_116, n_117, n_118, n_120, n_121, n_122, n_180, n_255, n_539, n_600, n_616, n_1200, n_2000, n_3600, n_8400, n_65536, e, hi2, hm, show (iI 1 = iI 0) = False from by decide]
  · rw [if_neg c]
    rw [if_neg c] at hm
    by_cases c2 : f < R.2.1
    · rw [if_pos c2]
      simp (disch := omega) only [↓q_brd, ↓q_gdd, ↓q_lts, ↓reduceIte, ↓q_bds, ↓zq_smi, ↓zq_smr, iI_add, iI_sub, iI_mul, iI_neg, iI_ab3, iI_div, z_emod, aI_rd, aI_wr, aR0, aW0, aR1, aW1, aR2, aW2, aR3, aW3, aR4, aW4, iI_inT, iI_lt, iI_le, iI_eq, lt_t, lt_f, le_t, le_f, eq_t, eq_f, bz_z, bz_o, bz_zo, bzT, bzF, n_em, zu_s, zu_n, not_true_eq_false, not_false_eq_true, and_self, true_and, and_true, false_and, and_false, true_or, or_true, false_or, or_false, or_self, Int.add_sub_cancel, n_0, n_1, n_2, n_3, n_4, n_5, n_6, n_7, n_8, n_9, n_10, n_11, n_12, n_13, n_14, n_15, n_16, n_17, n_18, n_19, n_20, n_21, n_22, n_23, n_24, n_25, n_26, n_27, n_28, n_29, n_30, n_31, n_32, n_33, n_34, n_35, n_36, n_37, n_40, n_44, n_48, n_50, n_57, n_58, n_60, n_65, n_66, n_67, n_68, n_69, n_70, n_71, n_73, n_77, n_80, n_83, n_97, n_98, n_99, n_100, n_101, n_102, n_103, n_104, n_105, n_106, n_107, n_108, n_109, n_110, n_111, n_112, n_113, n_114, n_115, n_116, n_117, n_118, n_120, n_121, n_122, n_180, n_255, n_539, n_600, n_616, n_1200, n_2000, n_3600, n_8400, n_65536, e, hi2, hm]
    · rw [if_neg c2]
      simp (disch := omega) only [↓q_brd, ↓q_gdd, ↓q_lts, ↓reduceIte, ↓q_bds, ↓zq_smi, ↓zq_smr, iI_add, iI_sub, iI_mul, iI_neg, iI_ab3, iI_div, z_emod, aI_rd, aI_wr, aR0, aW0, aR1, aW1, aR2, aW2, aR3, aW3, aR4, aW4, iI_inT, iI_lt, iI_le, iI_eq, lt_t, lt_f, le_t, le_f, eq_t, eq_f, bz_z, bz_o, bz_zo, bzT, bzF, n_em, zu_s, zu_n, not_true_eq_false, not_false_eq_true, and_self, true_and, and_true, false_and, and_false, true_or, or_true, false_or, or_false, or_self, Int.add_sub_cancel, n_0, n_1, n_2, n_3, n_4, n_5, n_6, n_7, n_8, n_9, n_10, n_11, n_12, n_13, n_14, n_15, n_16, n_17, n_18, n_19, n_20, n_21, n_22, n_23, n_24, n_25, n_26, n_27, n_28, n_29, n_30, n_31, n_32, n_33, n_34, n_35, n_36, n_37, n_40, n_44, n_48, n_50, n_57, n_58, n_60, n_65, n_66, n_67, n_68, n_69, n_70, n_71, n_73, n_77, n_80, n_83, n_97, n_98, n_99, n_100, n_101, n_102, n_103, n_104, n_105, n_106, n_107, n_108, n_109, n_110, n_111, n_112, n_113, n_114, n_115, n_116, n_117, n_118, n_120, n_121, n_122, n_180, n_255, n_539, n_600, n_616, n_1200, n_2000, n_3600, n_8400, n_65536, e, hi2, hm]
theorem zc_skip {t v : Int → Int} {n s sg P : Int} (hn : 0 ≤ n ∧ n ≤ 60) (ht : ∀ k, 0 ≤ k → k < n → 0 ≤ t k ∧ t k < 65536) (hs : 0 ≤ s ∧ s ≤ n) (hP : P ≤ 60) (cm : Nat → Option Nat) (fs ss : Nat → Int32) (ct : Int32) (K : Nat → (Nat → Int32) → Int32 → Int32 → Int32 → Int32 → Option (Int32 × (Nat → Option Nat) × (Nat → Int32) × (Nat → Int32) × Int32 × (Nat → Int32) × Int32 × Int32 × Int32 × Int32)) (fl m : Nat) (hm : m ≤ 12) (d : Nat) : ∀ (i : Nat) (f : Int) (ar au : Int32), i + d = m → s ≤ f ∧ f ≤ P → (∀ j, i ≤ j → j < m → ∃ p, (s ≤ p ∧ p ≤ P) ∧ zr t n (fm j) (true, (s, -1, sg, v)) = (false, (p, -1, sg, v))) →
    ∃ ar' au' f', f_X8_readCommand_L20 (aI t) (iI n) cm fs ss ct (iI s) K (fl + d) (iI i) (aI v) ar (iI sg) au (iI f) = f_X8_readCommand_L20 (aI t) (iI n) cm fs ss ct (iI s) K fl (iI m) (aI v) ar' (iI sg) au' (iI f') ∧ f ≤ f' ∧ f' ≤ P := by
  induction d with
  | zero =>
    intro i f ar au h1 h2 h3
    have e : i = m := by omega
    subst e
    exact ⟨ar, au, f, rfl, Int.le_refl _, h2.2⟩
  | succ d ih =>
    intro i f ar au h1 h2 h3
    obtain ⟨p, p1, p2⟩ := h3 i (Nat.le_refl _) (by omega)
    have e := zc_try (by omega) hn ht hs (f := f) (by omega) cm fs ss ct ar au K (fl + d) p2
    rw [if_neg (fun h => Bool.false_ne_true h)] at e
    simp only at e
    obtain ⟨ar', au', f', w1, w2, w3⟩ := ih (i + 1) (if f < p then p else f) (iI (-1)) (iI p) (by omega) (by split <;> omega) (fun j j0 j1 => h3 j (by omega) j1)
    refine ⟨ar', au', f', ?_, by split at w2 <;> omega, w3⟩
    rw [show fl + (d + 1) = fl + d + 1 by omega, e, w1]
theorem zc_end {t v : Int → Int} {n s sg f : Int} (cm : Nat → Option Nat) (fs ss : Nat → Int32) (ct ar au : Int32) (K : Nat → (Nat → Int32) → Int32 → Int32 → Int32 → Int32 → Option (Int32 × (Nat → Option Nat) × (Nat → Int32) × (Nat → Int32) × Int32 × (Nat → Int32) × Int32 × Int32 × Int32 × Int32)) (fl : Nat) :
    f_X8_readCommand_L20 (aI t) (iI n) cm fs ss ct (iI s) K (fl + 1) (iI ((12 : Nat) : Int)) (aI v) ar (iI sg) au (iI f) = some (iI 0, cm, fs, ss, ct, aI v, ar, iI sg, au, iI f) := by
  unfold f_X8_readCommand_L20
  simp (disch := omega) only [↓q_brd, ↓q_gdd, ↓q_lts, ↓reduceIte, ↓q_bds, ↓zq_smi, ↓zq_smr, iI_add, iI_sub, iI_mul, iI_neg, iI_ab3, iI_div, z_emod, aI_rd, aI_wr, aR0, aW0, aR1, aW1, aR2, aW2, aR3, aW3, aR4, aW4, iI_inT, iI_lt, iI_le, iI_eq, lt_t, lt_f, le_t, le_f, eq_t, eq_f, bz_z, bz_o, bz_zo, bzT, bzF, n_em, zu_s, zu_n, not_true_eq_false, not_false_eq_true, and_self, true_and, and_true, false_and, and_false, true_or, or_true, false_or, or_false, or_self, Int.add_sub_cancel, n_0, n_1, n_2, n_3, n_4, n_5, n_6, n_7, n_8, n_9, n_10, n_11, n_12, n_13, n_14, n_15, n_16, n_17, n_18, n_19, n_20, n_21, n_22, n_23, n_24, n_25, n_26, n_27, n_28, n_29, n_30, n_31, n_32, n_33, n_34, n_35, n_36, n_37, n_40, n_44, n_48, n_50, n_57, n_58, n_60, n_65, n_66, n_67, n_68, n_69, n_70, n_71, n_73, n_77, n_80, n_83, n_97, n_98, n_99, n_100, n_101, n_102, n_103, n_104, n_105, n_106, n_107, n_108, n_109, n_110, n_111, n_112, n_113, n_114, n_115, n_116, n_117, n_118, n_120, n_121, n_122, n_180, n_255, n_539, n_600, n_616, n_1200, n_2000, n_3600, n_8400, n_65536]
/-- the class's reading of one command, when one form alone goes far -/
theorem zc_cmd {t v : Int → Int} {n s sg : Int} {k : Nat} (hk : k < 12) (hn : 0 ≤ n ∧ n ≤ 60) (ht : ∀ k, 0 ≤ k → k < n → 0 ≤ t k ∧ t k < 65536) (hs : 0 ≤ s ∧ s ≤ n) (cm : Nat → Option Nat) (fs ss : Nat → Int32) (ct ar au : Int32) (K : Nat → (Nat → Int32) → Int32 → Int32 → Int32 → Int32 → Option (Int32 × (Nat → Option Nat) × (Nat → Int32) × (Nat → Int32) × Int32 × (Nat → Int32) × Int32 × Int32 × Int32 × Int32)) {R : Bool × z_Q} (hR : zr t n (fm k) (true, (s, -1, sg, v)) = R)
    (hj : ∀ j, j < 12 → j ≠ k → ∀ sg v, ∃ p, (s ≤ p ∧ p ≤ R.2.1) ∧ zr t n (fm j) (true, (s, -1, sg, v)) = (false, (p, -1, sg, v))) :
    (R.1 = true ∧ ∃ f, f_X8_readCommand_L20 (aI t) (iI n) cm fs ss ct (iI s) K 2000 (iI 0) (aI v) ar (iI sg) au (iI s) = K k (aI R.2.2.2.2) (iI R.2.2.1) (iI R.2.2.2.1) (iI R.2.1) f) ∨
    (R.1 = false ∧ ∃ ar' au', f_X8_readCommand_L20 (aI t) (iI n) cm fs ss ct (iI s) K 2000 (iI 0) (aI v) ar (iI sg) au (iI s) = some (iI 0, cm, fs, ss, ct, aI R.2.2.2.2, ar', iI R.2.2.2.1, au', iI R.2.1)) := by
  have hp := zr_rng (t := t) (n := n) (fm k) (true, (s, -1, sg, v)) (fun c hc => (fm_pos0 ⟨k, hk⟩ c hc).1) hs
  rw [hR] at hp
  simp only at hp
  obtain ⟨ar1, au1, f1, x1, x2, x3⟩ := zc_skip (v := v) (sg := sg) (P := R.2.1) hn ht hs (by omega) cm fs ss ct K (1999 - k + 1) k (by omega) k 0 s ar au (by omega) (by omega) (fun j j0 j1 => hj j (by omega) (by omega) sg v)
  rw [show 1999 - k + 1 + k = 2000 by omega] at x1
  have e := zc_try hk hn ht hs (f := f1) (by omega) cm fs ss ct ar1 au1 K (1999 - k) hR
  rw [e] at x1
  cases hb : R.1
  · refine Or.inr ⟨rfl, ?_⟩
    rw [if_neg (by rw [hb]; exact Bool.false_ne_true)] at x1
    obtain ⟨ar2, au2, f2, y1, y2, y3⟩ := zc_skip (v := R.2.2.2.2) (sg := R.2.2.2.1) (P := R.2.1) hn ht hs (by omega) cm fs ss ct K (1988) 12 (by omega) (11 - k) (k + 1) (if f1 < R.2.1 then R.2.1 else f1) (iI R.2.2.1) (iI R.2.1) (by omega) (by split <;> omega) (fun j j0 j1 => hj j (by omega) (by omega) _ _)
    rw [show 1988 + (11 - k) = 1999 - k by omega] at y1
    refine ⟨ar2, au2, ?_⟩
    have z := zc_end (t := t) (v := R.2.2.2.2) (n := n) (s := s) (sg := R.2.2.2.1) (f := f2) cm fs ss ct ar2 au2 K 1987
    have ef : f2 = R.2.1 := by split at y2 <;> omega
    rw [← ef, ← z]
    exact x1.trans y1
  · refine Or.inl ⟨rfl, iI f1, ?_⟩
    rw [if_pos hb] at x1
    exact x1
theorem zc_none {t v : Int → Int} {n s sg : Int} (hn : 0 ≤ n ∧ n ≤ 60) (ht : ∀ k, 0 ≤ k → k < n → 0 ≤ t k ∧ t k < 65536) (hs : 0 ≤ s ∧ s ≤ n) (cm : Nat → Option Nat) (fs ss : Nat → Int32) (ct ar au : Int32) (K : Nat → (Nat → Int32) → Int32 → Int32 → Int32 → Int32 → Option (Int32 × (Nat → Option Nat) × (Nat → Int32) × (Nat → Int32) × Int32 × (Nat → Int32) × Int32 × Int32 × Int32 × Int32))
    (hj : ∀ j, j < 12 → zr t n (fm j) (true, (s, -1, sg, v)) = (false, (s, -1, sg, v))) :
    ∃ ar' au', f_X8_readCommand_L20 (aI t) (iI n) cm fs ss ct (iI s) K 2000 (iI 0) (aI v) ar (iI sg) au (iI s) = some (iI 0, cm, fs, ss, ct, aI v, ar', iI sg, au', iI s) := by
  obtain ⟨ar2, au2, f2, y1, y2, y3⟩ := zc_skip (v := v) (sg := sg) (P := s) hn ht hs (by omega) cm fs ss ct K 1988 12 (by omega) 12 0 s ar au (by omega) (by omega) (fun j j0 j1 => ⟨s, by omega, hj j j1⟩)
  have z := zc_end (t := t) (v := v) (n := n) (s := s) (sg := sg) (f := f2) cm fs ss ct ar2 au2 K 1987
  have ef : f2 = s := by omega
  rw [ef] at y1 z
  exact ⟨ar2, au2, y1.trans z⟩
def PL (cm : Nat → Option Nat) (fs ss : Nat → Int32) (pr : Int → Int) (c : Int) : Prop := ∀ j : Int, 0 ≤ j → j < c → ∃ (k : Nat) (a b : Int), k < 12 ∧ cm j.toNat = some k ∧ fs j.toNat = iI a ∧ ss j.toNat = iI b ∧ ((-2147483648 ≤ a ∧ a < 2147483648) ∧ -2147483648 ≤ b ∧ b < 2147483648) ∧ pr (3 * j) = cdk k ∧ iI (pr (3 * j + 1)) = iI a ∧ (iI (pr (3 * j + 2)) = iI b ∨ k = 1 ∨ k = 5 ∨ k = 7 ∨ k = 10) ∧ (k = 4 → b = 0 ∨ b = 1)
theorem PL_add {cm : Nat → Option Nat} {fs ss : Nat → Int32} {pr pr' : Int → Int} {c : Int} (h : PL cm fs ss pr c) (hc : 0 ≤ c) {k : Nat} (hk : k < 12) {v : Int → Int} (h1 : ∀ j, 0 ≤ j → j < 3 * c → pr' j = pr j) (h2 : pr' (3 * c) = cdk k) (h3 : pr' (3 * c + 1) = v 0) (h4 : pr' (3 * c + 2) = v 1 ∨ k = 1 ∨ k = 5 ∨ k = 7 ∨ k = 10) (h5 : k = 4 → v 1 = 0 ∨ v 1 = 1) :
    PL (updE cm c.toNat k) (upd fs c.toNat (iI (v 0))) (upd ss c.toNat (iI (v 1))) pr' (c + 1) := by
  intro j j0 j1
  by_cases e : j = c
  · subst e
    refine ⟨k, (iI (v 0)).toInt, (iI (v 1)).toInt, hk, if_pos rfl, ?_, ?_, ⟨iI_rng _, iI_rng _⟩, h2, ?_, ?_, fun h => ?_⟩
    · rw [← iI_of]; exact if_pos rfl
    · rw [← iI_of]; exact if_pos rfl
    · rw [← iI_of, h3]
    · rcases h4 with h | h
      · exact Or.inl (by rw [← iI_of, h])
      · exact Or.inr h
    · rcases h5 h with h | h
      · rw [h]; exact Or.inl (by decide)
      · rw [h]; exact Or.inr (by decide)
  · obtain ⟨k', a, b, y1, y2, y3, y4, y5, y6, y7, y8, y9⟩ := h j j0 (by omega)
    have ne : ¬ j.toNat = c.toNat := by omega
    refine ⟨k', a, b, y1, ?_, ?_, ?_, y5, ?_, ?_, ?_, y9⟩
    · rw [← y2]; exact if_neg ne
    · rw [← y3]; exact if_neg ne
    · rw [← y4]; exact if_neg ne
    · rw [h1 _ (by omega) (by omega)]; exact y6
    · rw [h1 _ (by omega) (by omega)]; exact y7
    · rw [h1 _ (by omega) (by omega)]; exact y8
/-- what one command's reading comes to, on both sides -/
def zJ (t bf : Int → Int) (n s c : Int) (cm : Nat → Option Nat) (fs ss : Nat → Int32) (v : Int → Int) (sg : Int) (pr : Int → Int) (ar fu : Int32) : Prop :=
  (∃ (p : Int) (cm' : Nat → Option Nat) (fs' ss' : Nat → Int32) (v' pr' : Int → Int) (sg' : Int) (ar' fu' : Int32), f_X8_readCommand (aI t) (iI n) cm fs ss (iI c) (aI v) ar (iI sg) (iI s) fu = some (iI 1, cm', fs', ss', iI (c + 1), aI v', ar', iI sg', iI p, fu') ∧ f_X11_parsesCommand (aI bf) (iI n) (iI s) (iI 0) (aI pr) (iI (3 * c)) = some (iI p, iI 0, aI pr') ∧ (s < p ∧ p ≤ n) ∧ PL cm' fs' ss' pr' (c + 1)) ∨
  (∃ (p : Int) (v' pr' : Int → Int) (sg' : Int) (ar' au' : Int32), f_X8_readCommand (aI t) (iI n) cm fs ss (iI c) (aI v) ar (iI sg) (iI s) fu = some (iI 0, cm, fs, ss, iI c, aI v', ar', iI sg', au', iI p) ∧ f_X11_parsesCommand (aI bf) (iI n) (iI s) (iI 0) (aI pr) (iI (3 * c)) = some (iI p, iI 1, aI pr') ∧ (0 ≤ p ∧ p ≤ n))
theorem zc_note {v : Int → Int} {c : Int} {k : Nat} (hc : 0 ≤ c ∧ c ≤ 50) (hk : k < 12) (cm : Nat → Option Nat) (fs ss : Nat → Int32) : f_X8_note cm fs ss (iI c) (aI v) k = some (updE cm c.toNat k, upd fs c.toNat (iI (v 0)), upd ss c.toNat (iI (v 1)), iI (c + 1)) := by
  have hk2 : (k < 12) = True := eq_true hk
  have e : (iI c).toNatClampNeg = c.toNat := iI_cl (by omega)
  unfold f_X8_note
  simp (disch := omega) only [↓q_brd, ↓q_gdd, ↓q_lts, ↓reduceIte, ↓q_bds, ↓zq_smi, ↓zq_smr, iI_add, iI_sub, iI_mul, iI_neg, iI_ab3, iI_div, z_emod, aI_rd, aI_wr, aR0, aW0, aR1, aW1, aR2, aW2, aR3, aW3, aR4, aW4, iI_inT, iI_lt, iI_le, iI_eq, lt_t, lt_f, le_t, le_f, eq_t, eq_f, bz_z, bz_o, bz_zo, bzT, bzF, n_em, zu_s, zu_n, not_true_eq_false, not_false_eq_true, and_self, true_and, and_true, false_and, and_false, true_or, or_true, false_or, or_false, or_self, Int.add_sub_cancel, n_0, n_1, n_2, n_3, n_4, n_5, n_6, n_7, n_8, n_9, n_10, n_11, n_12, n_13, n_14, n_15, n_16, n_17, n_18, n_19, n_20, n_21, n_22, n_23, n_24, n_25, n_26, n_27, n_28, n_29, n_30, n_31, n_32, n_33, n_34, n_35, n_36, n_37, n_40, n_44, n_48, n_50, n_57, n_58, n_60, n_65, n_66, n_67, n_68, n_69, n_70, n_71, n_73, n_77, n_80, n_83, n_97, n_98, n_99, n_100, n_101, n_102, n_103, n_104, n_105, n_106, n_107, n_108, n_109, n_110, n_111, n_112, n_113, n_114, n_115, n_116, n_117, n_118, n_120, n_121, n_122, n_180, n_255, n_539, n_600, n_616, n_1200, n_2000, n_3600, n_8400, n_65536, hk2, e]
theorem fm_hd0 : ∀ j : Fin 12, fm j.val = (fm j.val).headD 0 :: (fm j.val).tail ∧ 97 ≤ (fm j.val).headD 0 := by decide +kernel
theorem zr_f0 {t : Int → Int} {n s sg : Int} {v : Int → Int} {j : Nat} (hj : j < 12) (h : zh t n s ≠ (fm j).headD 0) : zr t n (fm j) (true, (s, -1, sg, v)) = (false, (s, -1, sg, v)) := by
  obtain ⟨e1, e2⟩ := fm_hd0 ⟨j, hj⟩
  simp only at e1 e2
  rw [e1]
  exact zr_f1 e2 h
theorem zh_lt {t : Int → Int} {n p : Int} (h : zh t n p ≠ -1) : p < n := by
  by_cases c : p < n
  · exact c
  · exact absurd (if_neg c) h
theorem z_cmdk {t bf v pr : Int → Int} {n s c sg : Int} {k : Nat} {cm : Nat → Option Nat} {fs ss : Nat → Int32} {ar fu : Int32} (hk : k < 12) (hn : 0 ≤ n ∧ n ≤ 60) (ht : ∀ k, 0 ≤ k → k < n → 0 ≤ t k ∧ t k < 65536) (htb : ∀ k, 0 ≤ k → k < n → t k = bf k) (hs : 0 ≤ s ∧ s ≤ n) (hc : 0 ≤ c ∧ c ≤ 50) (h0 : zh t n s = (fm k).headD 0)
    (hj : ∀ j, j < 12 → j ≠ k → ∀ sg2 v2, ∃ p, (s ≤ p ∧ p ≤ (zr t n (fm k) (true, (s, -1, sg, v))).2.1) ∧ zr t n (fm j) (true, (s, -1, sg2, v2)) = (false, (p, -1, sg2, v2)))
    (hpc : zPC (zr bf n (fm k) (true, (s, -1, sg, v))) k pr c (f_X11_parsesCommand (aI bf) (iI n) (iI s) (iI 0) (aI pr) (iI (3 * c)))) (hPL : PL cm fs ss pr c) : zJ t bf n s c cm fs ss v sg pr ar fu := by
  rw [← zr_cong htb (fm k) _ (fun c hc => (fm_pos0 ⟨k, hk⟩ c hc).1) hs] at hpc
  obtain ⟨pr', F, h1, h2⟩ := hpc
  obtain ⟨e1, e2⟩ := fm_hd0 ⟨k, hk⟩
  simp only at e1 e2
  have u : s < n := zh_lt (t := t) (by omega)
  have hp : s + 1 ≤ (zr t n (fm k) (true, (s, -1, sg, v))).2.1 ∧ (zr t n (fm k) (true, (s, -1, sg, v))).2.1 ≤ n := by
    rw [e1, zr_s1 e2 h0]
    have := zr_rng (t := t) (n := n) (fm k).tail (true, (s + 1, -1, sg, v)) (fun c hc => (fm_pos0 ⟨k, hk⟩ c (List.mem_of_mem_tail hc)).1) (by simp only; omega)
    exact this.1
  generalize hR : zr t n (fm k) (true, (s, -1, sg, v)) = R at *
  rcases zc_cmd hk hn ht hs cm fs ss (iI c) ar (iI s) (fun y7 y8 y9 y10 y11 y12 => q_bd (f_X8_note cm fs ss (iI c) y8 y7) (fun q17 => some (1, q17.1, q17.2.1, q17.2.2.1, q17.2.2.2, y8, y9, y10, y11, y12))) hR hj with ⟨b, f, e⟩ | ⟨b, ar', au', e⟩
  · have w : wz R = 0 := if_pos b
    rw [w] at F
    obtain ⟨y1, y2, y3, y4⟩ := h2 b
    refine Or.inl ⟨R.2.1, _, _, _, R.2.2.2.2, pr', R.2.2.2.1, iI R.2.2.1, f, ?_, F, by omega, PL_add hPL hc.1 hk h1 y1 y2 y3 y4⟩
    refine Eq.trans e ?_
    simp only [zc_note hc hk, q_bds]
    rfl
  · have w : wz R = 1 := if_neg (by rw [b]; exact Bool.false_ne_true)
    rw [w] at F
    exact Or.inr ⟨R.2.1, R.2.2.2.2, pr', R.2.2.2.1, ar', au', e, F, by omega⟩
theorem z_cmd {t bf v pr : Int → Int} {n s c sg : Int} {cm : Nat → Option Nat} {fs ss : Nat → Int32} {ar fu : Int32} (hn : 0 ≤ n ∧ n ≤ 60) (ht : ∀ k, 0 ≤ k → k < n → 0 ≤ t k ∧ t k < 65536) (htb : ∀ k, 0 ≤ k → k < n → t k = bf k) (hs : 0 ≤ s ∧ s ≤ n) (hc : 0 ≤ c ∧ c ≤ 50) (hPL : PL cm fs ss pr c) : zJ t bf n s c cm fs ss v sg pr ar fu := by
  have hb : ∀ k, 0 ≤ k → k < n → 0 ≤ bf k ∧ bf k < 65536 := fun k k0 k1 => by rw [← htb k k0 k1]; exact ht k k0 k1
  have hz : ∀ p, 0 ≤ p → zh bf n p = zh t n p := fun p hp => (zh_cong htb hp).symm
  have low : ∀ (k : Nat), k < 12 → ∀ sg v, s ≤ (zr t n (fm k) (true, (s, -1, sg, v))).2.1 := fun k hk sg v => (zr_rng (t := t) (n := n) (fm k) (true, (s, -1, sg, v)) (fun c hc => (fm_pos0 ⟨k, hk⟩ c hc).1) hs).1.1
  by_cases x0 : zh t n s = 98
  · refine z_cmdk (k := 0) (by decide) hn ht htb hs hc x0 (fun j j0 j1 sg2 v2 => ⟨s, ⟨Int.le_refl _, low 0 (by decide) _ _⟩, zr_f0 j0 ?_⟩) (zmc_0 hn hb hs hc (by rw [hz s hs.1]; exact x0)) hPL
    rw [x0]
    have : ∀ j : Fin 12, j.val ≠ 0 → (98 : Int) ≠ (fm j.val).headD 0 := by decide +kernel
    exact this ⟨j, j0⟩ j1
  by_cases x1 : zh t n s = 114
  · refine z_cmdk (k := 1) (by decide) hn ht htb hs hc x1 (fun j j0 j1 sg2 v2 => ⟨s, ⟨Int.le_refl _, low 1 (by decide) _ _⟩, zr_f0 j0 ?_⟩) (zmc_1 hn hb hs hc (by rw [hz s hs.1]; exact x1)) hPL
    rw [x1]
    have : ∀ j : Fin 12, j.val ≠ 1 → (114 : Int) ≠ (fm j.val).headD 0 := by decide +kernel
    exact this ⟨j, j0⟩ j1
  by_cases x3 : zh t n s = 109
  · refine z_cmdk (k := 3) (by decide) hn ht htb hs hc x3 (fun j j0 j1 sg2 v2 => ⟨s, ⟨Int.le_refl _, low 3 (by decide) _ _⟩, zr_f0 j0 ?_⟩) (zmc_3 hn hb hs hc (by rw [hz s hs.1]; exact x3)) hPL
    rw [x3]
    have : ∀ j : Fin 12, j.val ≠ 3 → (109 : Int) ≠ (fm j.val).headD 0 := by decide +kernel
    exact this ⟨j, j0⟩ j1
  by_cases x4 : zh t n s = 107
  · refine z_cmdk (k := 4) (by decide) hn ht htb hs hc x4 (fun j j0 j1 sg2 v2 => ⟨s, ⟨Int.le_refl _, low 4 (by decide) _ _⟩, zr_f0 j0 ?_⟩) (zmc_4 hn hb hs hc (by rw [hz s hs.1]; exact x4)) hPL
    rw [x4]
    have : ∀ j : Fin 12, j.val ≠ 4 → (107 : Int) ≠ (fm j.val).headD 0 := by decide +kernel
    exact this ⟨j, j0⟩ j1
  by_cases x8 : zh t n s = 101
  · refine z_cmdk (k := 8) (by decide) hn ht htb hs hc x8 (fun j j0 j1 sg2 v2 => ⟨s, ⟨Int.le_refl _, low 8 (by decide) _ _⟩, zr_f0 j0 ?_⟩) (zmc_8 hn hb hs hc (by rw [hz s hs.1]; exact x8)) hPL
    rw [x8]
    have : ∀ j : Fin 12, j.val ≠ 8 → (101 : Int) ≠ (fm j.val).headD 0 := by decide +kernel
    exact this ⟨j, j0⟩ j1
  by_cases x10 : zh t n s = 102
  · refine z_cmdk (k := 10) (by decide) hn ht htb hs hc x10 (fun j j0 j1 sg2 v2 => ⟨s, ⟨Int.le_refl _, low 10 (by decide) _ _⟩, zr_f0 j0 ?_⟩) (zmc_10 hn hb hs hc (by rw [hz s hs.1]; exact x10)) hPL
    rw [x10]
    have : ∀ j : Fin 12, j.val ≠ 10 → (102 : Int) ≠ (fm j.val).headD 0 := by decide +kernel
    exact this ⟨j, j0⟩ j1
  by_cases x11 : zh t n s = 103
  · refine z_cmdk (k := 11) (by decide) hn ht htb hs hc x11 (fun j j0 j1 sg2 v2 => ⟨s, ⟨Int.le_refl _, low 11 (by decide) _ _⟩, zr_f0 j0 ?_⟩) (zmc_11 hn hb hs hc (by rw [hz s hs.1]; exact x11)) hPL
    rw [x11]
    have : ∀ j : Fin 12, j.val ≠ 11 → (103 : Int) ≠ (fm j.val).headD 0 := by decide +kernel
    exact this ⟨j, j0⟩ j1
  by_cases xt : zh t n s = 116
  · have ut : s < n := zh_lt (t := t) (by omega)
    have f2 : zh t n (s + 1) ≠ 117 → ∀ sg v, zr t n (fm 2) (true, (s, -1, sg, v)) = (false, (s + 1, -1, sg, v)) := fun h sg v => by
      rw [show fm 2 = 116 :: 117 :: [110, 101, 32, 35, 63, 83, 35, 63] from rfl, zr_s1 (by omega) xt, zr_f1 (by omega) h]
    have f5 : zh t n (s + 1) ≠ 111 → ∀ sg v, zr t n (fm 5) (true, (s, -1, sg, v)) = (false, (s + 1, -1, sg, v)) := fun h sg v => by
      rw [show fm 5 = 116 :: 111 :: 108 :: [101, 114, 97, 110, 99, 101, 32, 35, 63] from rfl, zr_s1 (by omega) xt, zr_f1 (by omega) h]
    have f5b : zh t n (s + 1) = 111 → zh t n (s + 1 + 1) ≠ 108 → ∀ sg v, zr t n (fm 5) (true, (s, -1, sg, v)) = (false, (s + 1 + 1, -1, sg, v)) := fun h h2 sg v => by
      rw [show fm 5 = 116 :: 111 :: 108 :: [101, 114, 97, 110, 99, 101, 32, 35, 63] from rfl, zr_s1 (by omega) xt, zr_s1 (by omega) h, zr_f1 (by omega) h2]
    have f6 : zh t n (s + 1) ≠ 111 → ∀ sg v, zr t n (fm 6) (true, (s, -1, sg, v)) = (false, (s + 1, -1, sg, v)) := fun h sg v => by
      rw [show fm 6 = 116 :: 111 :: 110 :: [101, 32, 35, 32, 35, 63] from rfl, zr_s1 (by omega) xt, zr_f1 (by omega) h]
    have f6b : zh t n (s + 1) = 111 → zh t n (s + 1 + 1) ≠ 110 → ∀ sg v, zr t n (fm 6) (true, (s, -1, sg, v)) = (false, (s + 1 + 1, -1, sg, v)) := fun h h2 sg v => by
      rw [show fm 6 = 116 :: 111 :: 110 :: [101, 32, 35, 32, 35, 63] from rfl, zr_s1 (by omega) xt, zr_s1 (by omega) h, zr_f1 (by omega) h2]
    have oth : ∀ j, j < 12 → j ≠ 2 → j ≠ 5 → j ≠ 6 → zh t n s ≠ (fm j).headD 0 := fun j j0 j2 j5 j6 => by
      rw [xt]
      have : ∀ j : Fin 12, j.val ≠ 2 → j.val ≠ 5 → j.val ≠ 6 → (116 : Int) ≠ (fm j.val).headD 0 := by decide +kernel
      exact this ⟨j, j0⟩ j2 j5 j6
    by_cases y1 : zh t n (s + 1) = 117
    · have P : s + 1 ≤ (zr t n (fm 2) (true, (s, -1, sg, v))).2.1 := by
        rw [show fm 2 = 116 :: 117 :: [110, 101, 32, 35, 63, 83, 35, 63] from rfl, zr_s1 (by omega) xt]
        exact (zr_rng (t := t) (n := n) _ (true, (s + 1, -1, sg, v)) (by decide) (by simp only; omega)).1.1
      refine z_cmdk (k := 2) (by decide) hn ht htb hs hc xt (fun j j0 j1 sg2 v2 => ?_) (zmc_2 hn hb hs hc (by rw [hz s hs.1]; exact xt) (by rw [hz _ (by omega)]; exact y1)) hPL
      by_cases j5 : j = 5
      · subst j5; exact ⟨s + 1, ⟨by omega, P⟩, f5 (by omega) _ _⟩
      · by_cases j6 : j = 6
        · subst j6; exact ⟨s + 1, ⟨by omega, P⟩, f6 (by omega) _ _⟩
        · exact ⟨s, ⟨Int.le_refl _, by omega⟩, zr_f0 j0 (oth j j0 j1 j5 j6)⟩
    · by_cases y2 : zh t n (s + 1) = 111
      · have u1 : s + 1 < n := zh_lt (t := t) (by omega)
        by_cases y3 : zh t n (s + 1 + 1) = 108
        · have P : s + 1 + 1 ≤ (zr t n (fm 5) (true, (s, -1, sg, v))).2.1 := by
            rw [show fm 5 = 116 :: 111 :: 108 :: [101, 114, 97, 110, 99, 101, 32, 35, 63] from rfl, zr_s1 (by omega) xt, zr_s1 (by omega) y2]
            exact (zr_rng (t := t) (n := n) _ (true, (s + 1 + 1, -1, sg, v)) (by decide) (by simp only; omega)).1.1
          refine z_cmdk (k := 5) (by decide) hn ht htb hs hc xt (fun j j0 j1 sg2 v2 => ?_) (zmc_5 hn hb hs hc (by rw [hz s hs.1]; exact xt) (by rw [hz _ (by omega)]; exact y2) (by rw [hz _ (by omega)]; exact y3)) hPL
          by_cases j2 : j = 2
          · subst j2; exact ⟨s + 1, ⟨by omega, by omega⟩, f2 y1 _ _⟩
          · by_cases j6 : j = 6
            · subst j6; exact ⟨s + 1 + 1, ⟨by omega, P⟩, f6b y2 (by omega) _ _⟩
            · exact ⟨s, ⟨Int.le_refl _, by omega⟩, zr_f0 j0 (oth j j0 j2 j1 j6)⟩
        · have P : s + 1 + 1 ≤ (zr t n (fm 6) (true, (s, -1, sg, v))).2.1 := by
            rw [show fm 6 = 116 :: 111 :: 110 :: [101, 32, 35, 32, 35, 63] from rfl, zr_s1 (by omega) xt, zr_s1 (by omega) y2]
            exact (zr_rng (t := t) (n := n) _ (true, (s + 1 + 1, -1, sg, v)) (by decide) (by simp only; omega)).1.1
          refine z_cmdk (k := 6) (by decide) hn ht htb hs hc xt (fun j j0 j1 sg2 v2 => ?_) (zmc_6 hn hb hs hc (by rw [hz s hs.1]; exact xt) (by rw [hz _ (by omega)]; exact y1) (by rw [hz _ (by omega), hz _ (by omega)]; exact fun x => y3 x.2)) hPL
          by_cases j2 : j = 2
          · subst j2; exact ⟨s + 1, ⟨by omega, by omega⟩, f2 y1 _ _⟩
          · by_cases j5 : j = 5
            · subst j5; exact ⟨s + 1 + 1, ⟨by omega, P⟩, f5b y2 y3 _ _⟩
            · exact ⟨s, ⟨Int.le_refl _, by omega⟩, zr_f0 j0 (oth j j0 j2 j5 j1)⟩
      · have P : s + 1 ≤ (zr t n (fm 6) (true, (s, -1, sg, v))).2.1 := by
          rw [f6 y2]
          exact Int.le_refl _
        refine z_cmdk (k := 6) (by decide) hn ht htb hs hc xt (fun j j0 j1 sg2 v2 => ?_) (zmc_6 hn hb hs hc (by rw [hz s hs.1]; exact xt) (by rw [hz _ (by omega)]; exact y1) (by rw [hz _ (by omega), hz _ (by omega)]; exact fun x => y2 x.1)) hPL
        by_cases j2 : j = 2
        · subst j2; exact ⟨s + 1, ⟨by omega, P⟩, f2 y1 _ _⟩
        · by_cases j5 : j = 5
          · subst j5; exact ⟨s + 1, ⟨by omega, P⟩, f5 y2 _ _⟩
          · exact ⟨s, ⟨Int.le_refl _, by omega⟩, zr_f0 j0 (oth j j0 j2 j5 j1)⟩
  by_cases xc : zh t n s = 99
  · have uc : s < n := zh_lt (t := t) (by omega)
    have f7 : zh t n (s + 1) ≠ 108 → ∀ sg v, zr t n (fm 7) (true, (s, -1, sg, v)) = (false, (s + 1, -1, sg, v)) := fun h sg v => by
      rw [show fm 7 = 99 :: 108 :: 101 :: [97, 114, 32, 35] from rfl, zr_s1 (by omega) xc, zr_f1 (by omega) h]
    have f7b : zh t n (s + 1) = 108 → zh t n (s + 1 + 1) ≠ 101 → ∀ sg v, zr t n (fm 7) (true, (s, -1, sg, v)) = (false, (s + 1 + 1, -1, sg, v)) := fun h h2 sg v => by
      rw [show fm 7 = 99 :: 108 :: 101 :: [97, 114, 32, 35] from rfl, zr_s1 (by omega) xc, zr_s1 (by omega) h, zr_f1 (by omega) h2]
    have f9 : zh t n (s + 1) ≠ 108 → ∀ sg v, zr t n (fm 9) (true, (s, -1, sg, v)) = (false, (s + 1, -1, sg, v)) := fun h sg v => by
      rw [show fm 9 = 99 :: 108 :: 105 :: [102, 102, 32, 35, 83, 35, 63] from rfl, zr_s1 (by omega) xc, zr_f1 (by omega) h]
    have f9b : zh t n (s + 1) = 108 → zh t n (s + 1 + 1) ≠ 105 → ∀ sg v, zr t n (fm 9) (true, (s, -1, sg, v)) = (false, (s + 1 + 1, -1, sg, v)) := fun h h2 sg v => by
      rw [show fm 9 = 99 :: 108 :: 105 :: [102, 102, 32, 35, 83, 35, 63] from rfl, zr_s1 (by omega) xc, zr_s1 (by omega) h, zr_f1 (by omega) h2]
    have oth : ∀ j, j < 12 → j ≠ 7 → j ≠ 9 → zh t n s ≠ (fm j).headD 0 := fun j j0 j2 j5 => by
      rw [xc]
      have : ∀ j : Fin 12, j.val ≠ 7 → j.val ≠ 9 → (99 : Int) ≠ (fm j.val).headD 0 := by decide +kernel
      exact this ⟨j, j0⟩ j2 j5
    by_cases y2 : zh t n (s + 1) = 108
    · have u1 : s + 1 < n := zh_lt (t := t) (by omega)
      by_cases y3 : zh t n (s + 1 + 1) = 101
      · have P : s + 1 + 1 ≤ (zr t n (fm 7) (true, (s, -1, sg, v))).2.1 := by
          rw [show fm 7 = 99 :: 108 :: 101 :: [97, 114, 32, 35] from rfl, zr_s1 (by omega) xc, zr_s1 (by omega) y2]
          exact (zr_rng (t := t) (n := n) _ (true, (s + 1 + 1, -1, sg, v)) (by decide) (by simp only; omega)).1.1
        refine z_cmdk (k := 7) (by decide) hn ht htb hs hc xc (fun j j0 j1 sg2 v2 => ?_) (zmc_7 hn hb hs hc (by rw [hz s hs.1]; exact xc) (by rw [hz _ (by omega)]; exact y2) (by rw [hz _ (by omega)]; exact y3)) hPL
        by_cases j9 : j = 9
        · subst j9; exact ⟨s + 1 + 1, ⟨by omega, P⟩, f9b y2 (by omega) _ _⟩
        · exact ⟨s, ⟨Int.le_refl _, by omega⟩, zr_f0 j0 (oth j j0 j1 j9)⟩
      · have P : s + 1 + 1 ≤ (zr t n (fm 9) (true, (s, -1, sg, v))).2.1 := by
          rw [show fm 9 = 99 :: 108 :: 105 :: [102, 102, 32, 35, 83, 35, 63] from rfl, zr_s1 (by omega) xc, zr_s1 (by omega) y2]
          exact (zr_rng (t := t) (n := n) _ (true, (s + 1 + 1, -1, sg, v)) (by decide) (by simp only; omega)).1.1
        refine z_cmdk (k := 9) (by decide) hn ht htb hs hc xc (fun j j0 j1 sg2 v2 => ?_) (zmc_9 hn hb hs hc (by rw [hz s hs.1]; exact xc) (by rw [hz _ (by omega), hz _ (by omega)]; exact fun x => y3 x.2)) hPL
        by_cases j7 : j = 7
        · subst j7; exact ⟨s + 1 + 1, ⟨by omega, P⟩, f7b y2 y3 _ _⟩
        · exact ⟨s, ⟨Int.le_refl _, by omega⟩, zr_f0 j0 (oth j j0 j7 j1)⟩
    · have P : s + 1 ≤ (zr t n (fm 9) (true, (s, -1, sg, v))).2.1 := by
        rw [f9 y2]
        exact Int.le_refl _
      refine z_cmdk (k := 9) (by decide) hn ht htb hs hc xc (fun j j0 j1 sg2 v2 => ?_) (zmc_9 hn hb hs hc (by rw [hz s hs.1]; exact xc) (by rw [hz _ (by omega), hz _ (by omega)]; exact fun x => y2 x.1)) hPL
      by_cases j7 : j = 7
      · subst j7; exact ⟨s + 1, ⟨by omega, P⟩, f7 y2 _ _⟩
      · exact ⟨s, ⟨Int.le_refl _, by omega⟩, zr_f0 j0 (oth j j0 j7 j1)⟩
  have none : ∀ k : Fin 12, zh t n s ≠ (fm k.val).headD 0 := fun k => by
    have : ∀ k : Fin 12, (fm k.val).headD 0 = 98 ∨ (fm k.val).headD 0 = 114 ∨ (fm k.val).headD 0 = 109 ∨ (fm k.val).headD 0 = 107 ∨ (fm k.val).headD 0 = 101 ∨ (fm k.val).headD 0 = 102 ∨ (fm k.val).headD 0 = 103 ∨ (fm k.val).headD 0 = 116 ∨ (fm k.val).headD 0 = 99 := by decide +kernel
    have := this k
    omega
  obtain ⟨ar', au', e⟩ := zc_none (v := v) (sg := sg) hn ht hs cm fs ss (iI c) ar (iI s) (fun y7 y8 y9 y10 y11 y12 => q_bd (f_X8_note cm fs ss (iI c) y8 y7) (fun q17 => some (1, q17.1, q17.2.1, q17.2.2.1, q17.2.2.2, y8, y9, y10, y11, y12))) (fun j j0 => zr_f0 j0 (none ⟨j, j0⟩))
  exact Or.inr ⟨s, v, _, sg, ar', au', e, zmc_no hn hb hs hc (fun k => by rw [hz s hs.1]; exact none k), hs⟩
