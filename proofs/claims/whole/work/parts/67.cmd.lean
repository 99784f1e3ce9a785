theorem q_bdE {α β : Type} {x : Option α} {a : α} {k : α → Option β} {r : Option β} (h : x = some a) (h2 : k a = r) : q_bd x k = r := by
  rw [h, q_bds, h2]
theorem q_gdE {α : Type} {c : Prop} {dc : Decidable c} {k r : Option α} (h : c) (h2 : k = r) : @q_gd α c dc k = r := by
  rw [q_gdd, if_pos h, h2]
theorem q_bdE3 {α β γ : Type} {x : Option (α × β × γ)} {a : α} {b : β} {c : γ} (h : x = some (a, b, c)) : q_bd x (fun q => some (q.1, q.2.1, q.2.2)) = some (a, b, c) := by
  rw [h]; rfl
theorem q_ltE {α β : Type} {a : α} {k : α → Option β} {r : Option β} (h : k a = r) : q_lt a k = r := h
theorem q_brT {α : Type} {c : Prop} {dc : Decidable c} {x y r : Option α} (h : c) (h2 : x = r) : @q_br α c dc x y = r := by
  rw [q_brd, if_pos h, h2]
theorem q_brF {α : Type} {c : Prop} {dc : Decidable c} {x y r : Option α} (h : ¬ c) (h2 : y = r) : @q_br α c dc x y = r := by
  rw [q_brd, if_neg h, h2]
theorem q_brA {α : Type} {c : Prop} {dc : Decidable c} {x y r : Option α} (h : x = r) (h2 : y = r) : @q_br α c dc x y = r := by
  rw [q_brd]; split
  · exact h
  · exact h2
theorem zr_tt {t : Int → Int} {n : Int} (cs : List Int) {r : Bool × z_Q} (h : (zr t n cs r).1 = true) : r.1 = true := by
  obtain ⟨b, q⟩ := r
  cases b
  · rw [zr_no] at h; exact h
  · rfl
theorem zs_22 {t : Int → Int} {n c : Int} {q : z_Q} (h : 97 ≤ c) : (zs t n c q).2.2 = q.2 := by
  rw [zs_let h]
  split <;> rfl
theorem zm_step {t : Int → Int} {n : Int} {r : Bool × z_Q} (c : Int) (h : (0 ≤ r.2.1 ∧ r.2.1 ≤ n) ∧ n ≤ 60) (ht : ∀ k, 0 ≤ k → k < n → 0 ≤ t k ∧ t k < 65536) (hc : 97 ≤ c ∧ c ≤ 122) :
    ∃ r' : Bool × z_Q, r' = zr t n [c] r ∧ f_X11_needs (aI t) (iI n) (iI r.2.1) (iI (wz r)) (iI c) = some (iI r'.2.1, iI (wz r')) ∧ ((0 ≤ r'.2.1 ∧ r'.2.1 ≤ n) ∧ n ≤ 60) ∧ r'.2.2 = r.2.2 := by
  refine ⟨_, rfl, zm_needs (by omega) ht hc, ?_, ?_⟩
  · have := zr_rng (t := t) (n := n) [c] r (fun d hd => by rw [List.mem_singleton.mp hd]; omega) h.1
    omega
  · obtain ⟨b, q⟩ := r
    cases b
    · rw [zr_no]
    · exact zs_22 hc.1
theorem zm_st1 {t : Int → Int} {n : Int} {r : Bool × z_Q} (h : (0 ≤ r.2.1 ∧ r.2.1 ≤ n) ∧ n ≤ 60) (ht : ∀ k, 0 ≤ k → k < n → 0 ≤ t k ∧ t k < 65536) (hg : r.1 = true → -1 ≤ r.2.2.1 ∧ r.2.2.1 ≤ 0) :
    ∃ (r' : Bool × z_Q) (val : Int), r' = zr t n [32, 35] r ∧ f_X11_afterBlank (aI t) (iI n) (iI r.2.1) (iI (wz r)) (iI 1) (iI 1) = some (iI val, iI r'.2.1, iI (wz r')) ∧ ((0 ≤ r'.2.1 ∧ r'.2.1 ≤ n) ∧ n ≤ 60) ∧ (r'.1 = true → r.1 = true ∧ r'.2.2.1 = r.2.2.1 + 1 ∧ r'.2.2.2.2 (r.2.2.1 + 1) = val ∧ ∀ j, j ≠ r.2.2.1 + 1 → r'.2.2.2.2 j = r.2.2.2.2 j) := by
  obtain ⟨val, x1, x2⟩ := zm_ab1 (r := r) (by omega) ht hg
  refine ⟨_, val, rfl, x1, ?_, fun hr => ⟨zr_tt _ hr, x2 hr⟩⟩
  have := zr_rng (t := t) (n := n) [32, 35] r (by decide) h.1
  omega
theorem zm_st2 {t : Int → Int} {n : Int} {r : Bool × z_Q} (h : (0 ≤ r.2.1 ∧ r.2.1 ≤ n) ∧ n ≤ 60) (ht : ∀ k, 0 ≤ k → k < n → 0 ≤ t k ∧ t k < 65536) (hg : r.1 = true → -1 ≤ r.2.2.1 ∧ r.2.2.1 ≤ 0) :
    ∃ (r' : Bool × z_Q) (val : Int), r' = zr t n [32, 35, 63] r ∧ f_X11_afterBlank (aI t) (iI n) (iI r.2.1) (iI (wz r)) (iI 1) (iI 2) = some (iI val, iI r'.2.1, iI (wz r')) ∧ ((0 ≤ r'.2.1 ∧ r'.2.1 ≤ n) ∧ n ≤ 60) ∧ (r'.1 = true → r.1 = true ∧ r'.2.2.1 = r.2.2.1 + 1 ∧ r'.2.2.2.2 (r.2.2.1 + 1) = val ∧ ∀ j, j ≠ r.2.2.1 + 1 → r'.2.2.2.2 j = r.2.2.2.2 j) := by
  obtain ⟨val, x1, x2⟩ := zm_ab2 (r := r) (by omega) ht hg
  refine ⟨_, val, rfl, x1, ?_, fun hr => ⟨zr_tt _ hr, x2 hr⟩⟩
  have := zr_rng (t := t) (n := n) [32, 35, 63] r (by decide) h.1
  omega
theorem zm_st4 {t : Int → Int} {n : Int} {r : Bool × z_Q} (h : (0 ≤ r.2.1 ∧ r.2.1 ≤ n) ∧ n ≤ 60) (ht : ∀ k, 0 ≤ k → k < n → 0 ≤ t k ∧ t k < 65536) (hg : r.1 = true → -1 ≤ r.2.2.1 ∧ r.2.2.1 ≤ 0) :
    ∃ (r' : Bool × z_Q) (val : Int), r' = zr t n [32, 35, 35, 35, 35] r ∧ f_X11_afterBlank (aI t) (iI n) (iI r.2.1) (iI (wz r)) (iI 4) (iI 4) = some (iI val, iI r'.2.1, iI (wz r')) ∧ ((0 ≤ r'.2.1 ∧ r'.2.1 ≤ n) ∧ n ≤ 60) ∧ (r'.1 = true → r.1 = true ∧ r'.2.2.1 = r.2.2.1 + 1 ∧ r'.2.2.2.2 (r.2.2.1 + 1) = val ∧ ∀ j, j ≠ r.2.2.1 + 1 → r'.2.2.2.2 j = r.2.2.2.2 j) := by
  obtain ⟨val, x1, x2⟩ := zm_ab4 (r := r) (by omega) ht hg
  refine ⟨_, val, rfl, x1, ?_, fun hr => ⟨zr_tt _ hr, x2 hr⟩⟩
  have := zr_rng (t := t) (n := n) [32, 35, 35, 35, 35] r (by decide) h.1
  omega
theorem zm_sts {t : Int → Int} {n : Int} {r : Bool × z_Q} (h : (0 ≤ r.2.1 ∧ r.2.1 ≤ n) ∧ n ≤ 60) (ht : ∀ k, 0 ≤ k → k < n → 0 ≤ t k ∧ t k < 65536) (hg : r.1 = true → -1 ≤ r.2.2.1 ∧ r.2.2.1 ≤ 0) :
    ∃ (r' : Bool × z_Q) (val : Int), r' = zr t n [83, 35, 63] r ∧ f_X11_signed (aI t) (iI n) (iI r.2.1) (iI (wz r)) = some (iI val, iI r'.2.1, iI (wz r')) ∧ ((0 ≤ r'.2.1 ∧ r'.2.1 ≤ n) ∧ n ≤ 60) ∧ (r'.1 = true → r.1 = true ∧ r'.2.2.1 = r.2.2.1 + 1 ∧ r'.2.2.2.2 (r.2.2.1 + 1) = val ∧ ∀ j, j ≠ r.2.2.1 + 1 → r'.2.2.2.2 j = r.2.2.2.2 j) := by
  obtain ⟨val, x1, x2⟩ := zm_sg (r := r) (by omega) ht hg
  refine ⟨_, val, rfl, x1, ?_, fun hr => ⟨zr_tt _ hr, x2 hr⟩⟩
  have := zr_rng (t := t) (n := n) [83, 35, 63] r (by decide) h.1
  omega
def cdk (k : Nat) : Int := [98, 114, 117, 109, 107, 108, 116, 99, 101, 105, 102, 103].getD k 0
theorem zm_three {t : Int → Int} {n p w a b c : Int} {u1 u2 u3 : Int32 × Int32} (m1 : f_X11_needs (aI t) (iI n) (iI p) (iI w) (iI a) = some u1) (m2 : f_X11_needs (aI t) (iI n) u1.1 u1.2 (iI b) = some u2) (m3 : f_X11_needs (aI t) (iI n) u2.1 u2.2 (iI c) = some u3) : f_X11_needsThree (aI t) (iI n) (iI p) (iI w) (iI a) (iI b) (iI c) = some u3 := q_bdE m1 (q_bdE m2 (q_bdE m3 rfl))
def zPC (R : Bool × z_Q) (k : Nat) (pr : Int → Int) (c : Int) (out : Option (Int32 × Int32 × (Nat → Int32))) : Prop := ∃ pr', out = some (iI R.2.1, iI (wz R), aI pr') ∧ (∀ j, 0 ≤ j → j < 3 * c → pr' j = pr j) ∧ (R.1 = true → pr' (3 * c) = cdk k ∧ pr' (3 * c + 1) = R.2.2.2.2 0 ∧ (pr' (3 * c + 2) = R.2.2.2.2 1 ∨ k = 1 ∨ k = 5 ∨ k = 7 ∨ k = 10) ∧ (k = 4 → R.2.2.2.2 1 = 0 ∨ R.2.2.2.2 1 = 1))
theorem zmc_0 {t pr v : Int → Int} {n s sg c : Int} (hn : 0 ≤ n ∧ n ≤ 60) (ht : ∀ k, 0 ≤ k → k < n → 0 ≤ t k ∧ t k < 65536) (hs : 0 ≤ s ∧ s ≤ n) (hc : 0 ≤ c ∧ c ≤ 50) (h0 : zh t n s = 98) : zPC (zr t n (fm 0) (true, (s, -1, sg, v))) 0 pr c (f_X11_parsesCommand (aI t) (iI n) (iI s) (iI 0) (aI pr) (iI (3 * c))) := by
  have u : s < n := by
    by_cases x : s < n
    · exact x
    · rw [show zh t n s = -1 from if_neg x] at h0; omega
  have hh := zm_here (t := t) (n := n) (p := s) (by omega) (by omega)
  rw [h0] at hh
  obtain ⟨r0, e0⟩ : ∃ r0 : Bool × z_Q, r0 = (true, (s + 1, -1, sg, v)) := ⟨_, rfl⟩
  have a0 : r0.2.2 = (-1, sg, v) := by rw [e0]
  have p0 : r0.2.1 = s + 1 := by rw [e0]
  have w0 : wz r0 = 0 := by rw [e0]; rfl
  have b0 : (0 ≤ r0.2.1 ∧ r0.2.1 ≤ n) ∧ n ≤ 60 := by omega
  obtain ⟨r1, d1, m1, b1, a1⟩ := zm_step (r := r0) 101 b0 ht (by omega)
  rw [a0] at a1
  obtain ⟨r2, d2, m2, b2, a2⟩ := zm_step (r := r1) 108 b1 ht (by omega)
  rw [a1] at a2
  obtain ⟨r3, d3, m3, b3, a3⟩ := zm_step (r := r2) 108 b2 ht (by omega)
  rw [a2] at a3
  obtain ⟨r4, l4, d4, m4, b4, g4⟩ := zm_st1 (r := r3) b3 ht (fun _ => by rw [a3]; show -1 ≤ (-1 : Int) ∧ (-1 : Int) ≤ 0; omega)
  obtain ⟨r5, l5, d5, m5, b5, g5⟩ := zm_st4 (r := r4) b4 ht (fun hx => by obtain ⟨y1, y2, y3⟩ := g4 hx; rw [a3] at y2; simp only at y2; omega)
  rw [p0, w0] at m1
  have E : zr t n (fm 0) (true, (s, -1, sg, v)) = r5 := by
    rw [show fm 0 = 98 :: [101, 108, 108, 32, 35, 32, 35, 35, 35, 35] from rfl, zr_t, zs_let (by omega), if_pos h0, ← e0]
    rw [show ([101, 108, 108, 32, 35, 32, 35, 35, 35, 35] : List Int) = [101] ++ ([108] ++ ([108] ++ ([32, 35] ++ ([32, 35, 35, 35, 35])))) from rfl, zr_app, ← d1, zr_app, ← d2, zr_app, ← d3, zr_app, ← d4, ← d5]
  have hP0 : q_in (iI (3 * c)) 180 := iI_in (by omega)
  have hP1 : q_in (iI (3 * c + 1)) 180 := iI_in (by omega)
  have hP2 : q_in (iI (3 * c + 2)) 180 := iI_in (by omega)
  have F : f_X11_parsesCommand (aI t) (iI n) (iI s) (iI 0) (aI pr) (iI (3 * c)) = some (iI r5.2.1, iI (wz r5), aI (zu (zu (zu pr (3 * c) 98) (3 * c + 1) l4) (3 * c + 2) l5)) := by
    unfold f_X11_parsesCommand
    simp only [iI_add, iI_sub, n_0, n_1, n_2, n_4, n_32, n_77, n_97, n_98, n_99, n_100, n_101, n_102, n_103, n_104, n_105, n_106, n_107, n_108, n_109, n_110, n_111, n_112, n_113, n_114, n_115, n_116, n_117, n_118, n_121, n_122]
    refine q_bdE hh ?_
    refine q_gdE hP0 ?_
    refine q_ltE ?_
    refine q_ltE ?_
    refine q_brT rfl ?_
    refine q_bdE (zm_three m1 m2 m3) ?_
    refine q_bdE m4 ?_
    refine q_gdE hP1 ?_
    refine q_ltE ?_
    refine q_bdE m5 ?_
    refine q_gdE hP2 ?_
    refine q_ltE ?_
    simp (disch := omega) only [↓q_brd, ↓q_gdd, ↓q_lts, ↓reduceIte, ↓q_bds, ↓zq_smi, ↓zq_smr, iI_add, iI_sub, iI_mul, iI_neg, iI_ab3, iI_div, z_emod, aI_rd, aI_wr, aR0, aW0, aR1, aW1, aR2, aW2, aR3, aW3, aR4, aW4, iI_inT, iI_lt, iI_le, iI_eq, lt_t, lt_f, le_t, le_f, eq_t, eq_f, bz_z, bz_o, bz_zo, bzT, bzF, n_em, zu_s, zu_n, not_true_eq_false, not_false_eq_true, and_self, true_and, and_true, false_and, and_false, true_or, or_true, false_or, or_false, or_self, Int.add_sub_cancel, n_0, n_1, n_2, n_3, n_4, n_5, n_6, n_7, n_8, n_9, n_10, n_11, n_12, n_13, n_14, n_15, n_16, n_17, n_18, n_19, n_20, n_21, n_22, n_23, n_24, n_25, n_26, n_27, n_28, n_29, n_30, n_31, n_32, n_33, n_34, n_35, n_36, n_37, n_40, n_44, n_48, n_50, n_57, n_58, n_60, n_65, n_66, n_67, n_68, n_69, n_70, n_71, n_73, n_77, n_80, n_83, n_97, n_98, n_99, n_100, n_101, n_102, n_103, n_104, n_105, n_106, n_107, n_108, n_109, n_110, n_111, n_112, n_113, n_114, n_115, n_116, n_117, n_118, n_120, n_121, n_122, n_180, n_255, n_539, n_600, n_616, n_1200, n_2000, n_3600, n_8400, n_65536]
  rw [E, F]
  refine ⟨_, rfl, fun j j0 j1 => ?_, fun hr => ?_⟩
  · rw [zu_n (by omega), zu_n (by omega), zu_n (by omega)]
  · obtain ⟨y1, y2, y3, y4⟩ := g5 hr
    obtain ⟨x1, x2, x3, x4⟩ := g4 y1
    have z0 : (-1 : Int) + 1 = 0 := rfl
    rw [a3] at x2 x3 x4
    simp only [z0] at x2 x3 x4
    have z1 : (0 : Int) + 1 = 1 := rfl
    rw [x2] at y2 y3 y4
    simp only [z1] at y2 y3 y4
    refine ⟨?_, ?_, Or.inl ?_, fun h4 => by cases h4⟩
    · rw [zu_n (by omega), zu_n (by omega), zu_s rfl]; rfl
    · rw [zu_n (by omega), zu_s rfl, y4 0 (by decide)]; exact x3.symm
    · rw [zu_s rfl]; exact y3.symm
theorem zmc_1 {t pr v : Int → Int} {n s sg c : Int} (hn : 0 ≤ n ∧ n ≤ 60) (ht : ∀ k, 0 ≤ k → k < n → 0 ≤ t k ∧ t k < 65536) (hs : 0 ≤ s ∧ s ≤ n) (hc : 0 ≤ c ∧ c ≤ 50) (h0 : zh t n s = 114) : zPC (zr t n (fm 1) (true, (s, -1, sg, v))) 1 pr c (f_X11_parsesCommand (aI t) (iI n) (iI s) (iI 0) (aI pr) (iI (3 * c))) := by
  have u : s < n := by
    by_cases x : s < n
    · exact x
    · rw [show zh t n s = -1 from if_neg x] at h0; omega
  have hh := zm_here (t := t) (n := n) (p := s) (by omega) (by omega)
  rw [h0] at hh
  obtain ⟨r0, e0⟩ : ∃ r0 : Bool × z_Q, r0 = (true, (s + 1, -1, sg, v)) := ⟨_, rfl⟩
  have a0 : r0.2.2 = (-1, sg, v) := by rw [e0]
  have p0 : r0.2.1 = s + 1 := by rw [e0]
  have w0 : wz r0 = 0 := by rw [e0]; rfl
  have b0 : (0 ≤ r0.2.1 ∧ r0.2.1 ≤ n) ∧ n ≤ 60 := by omega
  obtain ⟨r1, d1, m1, b1, a1⟩ := zm_step (r := r0) 101 b0 ht (by omega)
  rw [a0] at a1
  obtain ⟨r2, d2, m2, b2, a2⟩ := zm_step (r := r1) 109 b1 ht (by omega)
  rw [a1] at a2
  obtain ⟨r3, d3, m3, b3, a3⟩ := zm_step (r := r2) 111 b2 ht (by omega)
  rw [a2] at a3
  obtain ⟨r4, d4, m4, b4, a4⟩ := zm_step (r := r3) 118 b3 ht (by omega)
  rw [a3] at a4
  obtain ⟨r5, d5, m5, b5, a5⟩ := zm_step (r := r4) 101 b4 ht (by omega)
  rw [a4] at a5
  obtain ⟨r6, l6, d6, m6, b6, g6⟩ := zm_st2 (r := r5) b5 ht (fun _ => by rw [a5]; show -1 ≤ (-1 : Int) ∧ (-1 : Int) ≤ 0; omega)
  rw [p0, w0] at m1
  have E : zr t n (fm 1) (true, (s, -1, sg, v)) = r6 := by
    rw [show fm 1 = 114 :: [101, 109, 111, 118, 101, 32, 35, 63] from rfl, zr_t, zs_let (by omega), if_pos h0, ← e0]
    rw [show ([101, 109, 111, 118, 101, 32, 35, 63] : List Int) = [101] ++ ([109] ++ ([111] ++ ([118] ++ ([101] ++ ([32, 35, 63]))))) from rfl, zr_app, ← d1, zr_app, ← d2, zr_app, ← d3, zr_app, ← d4, zr_app, ← d5, ← d6]
  have hP0 : q_in (iI (3 * c)) 180 := iI_in (by omega)
  have hP1 : q_in (iI (3 * c + 1)) 180 := iI_in (by omega)
  have hP2 : q_in (iI (3 * c + 2)) 180 := iI_in (by omega)
  have F : f_X11_parsesCommand (aI t) (iI n) (iI s) (iI 0) (aI pr) (iI (3 * c)) = some (iI r6.2.1, iI (wz r6), aI (zu (zu pr (3 * c) 114) (3 * c + 1) l6)) := by
    unfold f_X11_parsesCommand
    simp only [iI_add, iI_sub, n_0, n_1, n_2, n_4, n_32, n_77, n_97, n_98, n_99, n_100, n_101, n_102, n_103, n_104, n_105, n_106, n_107, n_108, n_109, n_110, n_111, n_112, n_113, n_114, n_115, n_116, n_117, n_118, n_121, n_122]
    refine q_bdE hh ?_
    refine q_gdE hP0 ?_
    refine q_ltE ?_
    refine q_ltE ?_
    refine q_brF (by decide) ?_
    refine q_brF (by decide) ?_
    refine q_brF (by decide) ?_
    refine q_brF (by decide) ?_
    refine q_brF (by decide) ?_
    refine q_brF (by decide) ?_
    refine q_brF (by decide) ?_
    refine q_brF (by decide) ?_
    refine q_brF (by decide) ?_
    refine q_brF (by decide) ?_
    refine q_brF (by decide) ?_
    refine q_brF (by decide) ?_
    refine q_brF (by decide) ?_
    refine q_brF (by decide) ?_
    refine q_brF (by decide) ?_
    refine q_brF (by decide) ?_
    refine q_brT rfl ?_
    refine q_bdE (zm_three m1 m2 m3) ?_
    refine q_bdE m4 ?_
    refine q_bdE m5 ?_
    refine q_bdE m6 ?_
    refine q_gdE hP1 ?_
    refine q_ltE ?_
    simp (disch := omega) only [↓q_brd, ↓q_gdd, ↓q_lts, ↓reduceIte, ↓q_bds, ↓zq_smi, ↓zq_smr, iI_add, iI_sub, iI_mul, iI_neg, iI_ab3, iI_div, z_emod, aI_rd, aI_wr, aR0, aW0, aR1, aW1, aR2, aW2, aR3, aW3, aR4, aW4, iI_inT, iI_lt, iI_le, iI_eq, lt_t, lt_f, le_t, le_f, eq_t, eq_f, bz_z, bz_o, bz_zo, bzT, bzF, n_em, zu_s, zu_n, not_true_eq_false, not_false_eq_true, and_self, true_and, and_true, false_and, and_false, true_or, or_true, false_or, or_false, or_self, Int.add_sub_cancel, n_0, n_1, n_2, n_3, n_4, n_5, n_6, n_7, n_8, n_9, n_10, n_11, n_12, n_13, n_14, n_15, n_16, n_17, n_18, n_19, n_20, n_21, n_22, n_23, n_24, n_25, n_26, n_27, n_28, n_29, n_30, n_31, n_32, n_33, n_34, n_35, n_36, n_37, n_40, n_44, n_48, n_50, n_57, n_58, n_60, n_65, n_66, n_67, n_68, n_69, n_70, n_71, n_73, n_77, n_80, n_83, n_97, n_98, n_99, n_100, n_101, n_102, n_103, n_104, n_105, n_106, n_107, n_108, n_109, n_110, n_111, n_112, n_113, n_114, n_115, n_116, n_117, n_118, n_120, n_121, n_122, n_180, n_255, n_539, n_600, n_616, n_1200, n_2000, n_3600, n_8400, n_65536]
  rw [E, F]
  refine ⟨_, rfl, fun j j0 j1 => ?_, fun hr => ?_⟩
  · rw [zu_n (by omega), zu_n (by omega)]
  · obtain ⟨x1, x2, x3, x4⟩ := g6 hr
    have z0 : (-1 : Int) + 1 = 0 := rfl
    rw [a5] at x2 x3 x4
    simp only [z0] at x2 x3 x4
    refine ⟨?_, ?_, Or.inr (by decide), fun h4 => by cases h4⟩
    · rw [zu_n (by omega), zu_s rfl]; rfl
    · rw [zu_s rfl]; exact x3.symm
theorem zmc_3 {t pr v : Int → Int} {n s sg c : Int} (hn : 0 ≤ n ∧ n ≤ 60) (ht : ∀ k, 0 ≤ k → k < n → 0 ≤ t k ∧ t k < 65536) (hs : 0 ≤ s ∧ s ≤ n) (hc : 0 ≤ c ∧ c ≤ 50) (h0 : zh t n s = 109) : zPC (zr t n (fm 3) (true, (s, -1, sg, v))) 3 pr c (f_X11_parsesCommand (aI t) (iI n) (iI s) (iI 0) (aI pr) (iI (3 * c))) := by
  have u : s < n := by
    by_cases x : s < n
    · exact x
    · rw [show zh t n s = -1 from if_neg x] at h0; omega
  have hh := zm_here (t := t) (n := n) (p := s) (by omega) (by omega)
  rw [h0] at hh
  obtain ⟨r0, e0⟩ : ∃ r0 : Bool × z_Q, r0 = (true, (s + 1, -1, sg, v)) := ⟨_, rfl⟩
  have a0 : r0.2.2 = (-1, sg, v) := by rw [e0]
  have p0 : r0.2.1 = s + 1 := by rw [e0]
  have w0 : wz r0 = 0 := by rw [e0]; rfl
  have b0 : (0 ≤ r0.2.1 ∧ r0.2.1 ≤ n) ∧ n ≤ 60 := by omega
  obtain ⟨r1, d1, m1, b1, a1⟩ := zm_step (r := r0) 111 b0 ht (by omega)
  rw [a0] at a1
  obtain ⟨r2, d2, m2, b2, a2⟩ := zm_step (r := r1) 118 b1 ht (by omega)
  rw [a1] at a2
  obtain ⟨r3, d3, m3, b3, a3⟩ := zm_step (r := r2) 101 b2 ht (by omega)
  rw [a2] at a3
  obtain ⟨r4, l4, d4, m4, b4, g4⟩ := zm_st2 (r := r3) b3 ht (fun _ => by rw [a3]; show -1 ≤ (-1 : Int) ∧ (-1 : Int) ≤ 0; omega)
  obtain ⟨r5, l5, d5, m5, b5, g5⟩ := zm_st1 (r := r4) b4 ht (fun hx => by obtain ⟨y1, y2, y3⟩ := g4 hx; rw [a3] at y2; simp only at y2; omega)
  rw [p0, w0] at m1
  have E : zr t n (fm 3) (true, (s, -1, sg, v)) = r5 := by
    rw [show fm 3 = 109 :: [111, 118, 101, 32, 35, 63, 32, 35] from rfl, zr_t, zs_let (by omega), if_pos h0, ← e0]
    rw [show ([111, 118, 101, 32, 35, 63, 32, 35] : List Int) = [111] ++ ([118] ++ ([101] ++ ([32, 35, 63] ++ ([32, 35])))) from rfl, zr_app, ← d1, zr_app, ← d2, zr_app, ← d3, zr_app, ← d4, ← d5]
  have hP0 : q_in (iI (3 * c)) 180 := iI_in (by omega)
  have hP1 : q_in (iI (3 * c + 1)) 180 := iI_in (by omega)
  have hP2 : q_in (iI (3 * c + 2)) 180 := iI_in (by omega)
  have F : f_X11_parsesCommand (aI t) (iI n) (iI s) (iI 0) (aI pr) (iI (3 * c)) = some (iI r5.2.1, iI (wz r5), aI (zu (zu (zu pr (3 * c) 109) (3 * c + 1) l4) (3 * c + 2) l5)) := by
    unfold f_X11_parsesCommand
    simp only [iI_add, iI_sub, n_0, n_1, n_2, n_4, n_32, n_77, n_97, n_98, n_99, n_100, n_101, n_102, n_103, n_104, n_105, n_106, n_107, n_108, n_109, n_110, n_111, n_112, n_113, n_114, n_115, n_116, n_117, n_118, n_121, n_122]
    refine q_bdE hh ?_
    refine q_gdE hP0 ?_
    refine q_ltE ?_
    refine q_ltE ?_
    refine q_brF (by decide) ?_
    refine q_brF (by decide) ?_
    refine q_brF (by decide) ?_
    refine q_brF (by decide) ?_
    refine q_brF (by decide) ?_
    refine q_brF (by decide) ?_
    refine q_brF (by decide) ?_
    refine q_brF (by decide) ?_
    refine q_brF (by decide) ?_
    refine q_brF (by decide) ?_
    refine q_brF (by decide) ?_
    refine q_brT rfl ?_
    refine q_bdE (zm_three m1 m2 m3) ?_
    refine q_bdE m4 ?_
    refine q_gdE hP1 ?_
    refine q_ltE ?_
    refine q_bdE m5 ?_
    refine q_gdE hP2 ?_
    refine q_ltE ?_
    simp (disch := omega) only [↓q_brd, ↓q_gdd, ↓q_lts, ↓reduceIte, ↓q_bds, ↓zq_smi, ↓zq_smr, iI_add, iI_sub, iI_mul, iI_neg, iI_ab3, iI_div, z_emod, aI_rd, aI_wr, aR0, aW0, aR1, aW1, aR2, aW2, aR3, aW3, aR4, aW4, iI_inT, iI_lt, iI_le, iI_eq, lt_t, lt_f, le_t, le_f, eq_t, eq_f, bz_z, bz_o, bz_zo, bzT, bzF, n_em, zu_s, zu_n, not_true_eq_false, not_false_eq_true, and_self, true_and, and_true, false_and, and_false, true_or, or_true, false_or, or_false, or_self, Int.add_sub_cancel, n_0, n_1, n_2, n_3, n_4, n_5, n_6, n_7, n_8, n_9, n_10, n_11, n_12, n_13, n_14, n_15, n_16, n_17, n_18, n_19, n_20, n_21, n_22, n_23, n_24, n_25, n_26, n_27, n_28, n_29, n_30, n_31, n_32, n_33, n_34, n_35, n_36, n_37, n_40, n_44, n_48, n_50, n_57, n_58, n_60, n_65, n_66, n_67, n_68, n_69, n_70, n_71, n_73, n_77, n_80, n_83, n_97, n_98, n_99, n_100, n_101, n_102, n_103, n_104, n_105, n_106, n_107, n_108, n_109, n_110, n_111, n_112, n_113, n_114, n_115, n_116, n_117, n_118, n_120, n_121, n_122, n_180, n_255, n_539, n_600, n_616, n_1200, n_2000, n_3600, n_8400, n_65536]
  rw [E, F]
  refine ⟨_, rfl, fun j j0 j1 => ?_, fun hr => ?_⟩
  · rw [zu_n (by omega), zu_n (by omega), zu_n (by omega)]
  · obtain ⟨y1, y2, y3, y4⟩ := g5 hr
    obtain ⟨x1, x2, x3, x4⟩ := g4 y1
    have z0 : (-1 : Int) + 1 = 0 := rfl
    rw [a3] at x2 x3 x4
    simp only [z0] at x2 x3 x4
    have z1 : (0 : Int) + 1 = 1 := rfl
    rw [x2] at y2 y3 y4
    simp only [z1] at y2 y3 y4
    refine ⟨?_, ?_, Or.inl ?_, fun h4 => by cases h4⟩
    · rw [zu_n (by omega), zu_n (by omega), zu_s rfl]; rfl
    · rw [zu_n (by omega), zu_s rfl, y4 0 (by decide)]; exact x3.symm
    · rw [zu_s rfl]; exact y3.symm
theorem zmc_8 {t pr v : Int → Int} {n s sg c : Int} (hn : 0 ≤ n ∧ n ≤ 60) (ht : ∀ k, 0 ≤ k → k < n → 0 ≤ t k ∧ t k < 65536) (hs : 0 ≤ s ∧ s ≤ n) (hc : 0 ≤ c ∧ c ≤ 50) (h0 : zh t n s = 101) : zPC (zr t n (fm 8) (true, (s, -1, sg, v))) 8 pr c (f_X11_parsesCommand (aI t) (iI n) (iI s) (iI 0) (aI pr) (iI (3 * c))) := by
  have u : s < n := by
    by_cases x : s < n
    · exact x
    · rw [show zh t n s = -1 from if_neg x] at h0; omega
  have hh := zm_here (t := t) (n := n) (p := s) (by omega) (by omega)
  rw [h0] at hh
  obtain ⟨r0, e0⟩ : ∃ r0 : Bool × z_Q, r0 = (true, (s + 1, -1, sg, v)) := ⟨_, rfl⟩
  have a0 : r0.2.2 = (-1, sg, v) := by rw [e0]
  have p0 : r0.2.1 = s + 1 := by rw [e0]
  have w0 : wz r0 = 0 := by rw [e0]; rfl
  have b0 : (0 ≤ r0.2.1 ∧ r0.2.1 ≤ n) ∧ n ≤ 60 := by omega
  obtain ⟨r1, d1, m1, b1, a1⟩ := zm_step (r := r0) 110 b0 ht (by omega)
  rw [a0] at a1
  obtain ⟨r2, d2, m2, b2, a2⟩ := zm_step (r := r1) 116 b1 ht (by omega)
  rw [a1] at a2
  obtain ⟨r3, d3, m3, b3, a3⟩ := zm_step (r := r2) 114 b2 ht (by omega)
  rw [a2] at a3
  obtain ⟨r4, d4, m4, b4, a4⟩ := zm_step (r := r3) 121 b3 ht (by omega)
  rw [a3] at a4
  obtain ⟨r5, l5, d5, m5, b5, g5⟩ := zm_st1 (r := r4) b4 ht (fun _ => by rw [a4]; show -1 ≤ (-1 : Int) ∧ (-1 : Int) ≤ 0; omega)
  obtain ⟨r6, l6, d6, m6, b6, g6⟩ := zm_st2 (r := r5) b5 ht (fun hx => by obtain ⟨y1, y2, y3⟩ := g5 hx; rw [a4] at y2; simp only at y2; omega)
  rw [p0, w0] at m1
  have E : zr t n (fm 8) (true, (s, -1, sg, v)) = r6 := by
    rw [show fm 8 = 101 :: [110, 116, 114, 121, 32, 35, 32, 35, 63] from rfl, zr_t, zs_let (by omega), if_pos h0, ← e0]
    rw [show ([110, 116, 114, 121, 32, 35, 32, 35, 63] : List Int) = [110] ++ ([116] ++ ([114] ++ ([121] ++ ([32, 35] ++ ([32, 35, 63]))))) from rfl, zr_app, ← d1, zr_app, ← d2, zr_app, ← d3, zr_app, ← d4, zr_app, ← d5, ← d6]
  have hP0 : q_in (iI (3 * c)) 180 := iI_in (by omega)
  have hP1 : q_in (iI (3 * c + 1)) 180 := iI_in (by omega)
  have hP2 : q_in (iI (3 * c + 2)) 180 := iI_in (by omega)
  have F : f_X11_parsesCommand (aI t) (iI n) (iI s) (iI 0) (aI pr) (iI (3 * c)) = some (iI r6.2.1, iI (wz r6), aI (zu (zu (zu pr (3 * c) 101) (3 * c + 1) l5) (3 * c + 2) l6)) := by
    unfold f_X11_parsesCommand
    simp only [iI_add, iI_sub, n_0, n_1, n_2, n_4, n_32, n_77, n_97, n_98, n_99, n_100, n_101, n_102, n_103, n_104, n_105, n_106, n_107, n_108, n_109, n_110, n_111, n_112, n_113, n_114, n_115, n_116, n_117, n_118, n_121, n_122]
    refine q_bdE hh ?_
    refine q_gdE hP0 ?_
    refine q_ltE ?_
    refine q_ltE ?_
    refine q_brF (by decide) ?_
    refine q_brF (by decide) ?_
    refine q_brF (by decide) ?_
    refine q_brT rfl ?_
    refine q_bdE (zm_three m1 m2 m3) ?_
    refine q_bdE m4 ?_
    refine q_bdE m5 ?_
    refine q_gdE hP1 ?_
    refine q_ltE ?_
    refine q_bdE m6 ?_
    refine q_gdE hP2 ?_
    refine q_ltE ?_
    simp (disch := omega) only [↓q_brd, ↓q_gdd, ↓q_lts, ↓reduceIte, ↓q_bds, ↓zq_smi, ↓zq_smr, iI_add, iI_sub, iI_mul, iI_neg, iI_ab3, iI_div, z_emod, aI_rd, aI_wr, aR0, aW0, aR1, aW1, aR2, aW2, aR3, aW3, aR4, aW4, iI_inT, iI_lt, iI_le, iI_eq, lt_t, lt_f, le_t, le_f, eq_t, eq_f, bz_z, bz_o, bz_zo, bzT, bzF, n_em, zu_s, zu_n, not_true_eq_false, not_false_eq_true, and_self, true_and, and_true, false_and, and_false, true_or, or_true, false_or, or_false, or_self, Int.add_sub_cancel, n_0, n_1, n_2, n_3, n_4, n_5, n_6, n_7, n_8, n_9, n_10, n_11, n_12, n_13, n_14, n_15, n_16, n_17, n_18, n_19, n_20, n_21, n_22, n_23, n_24, n_25, n_26, n_27, n_28, n_29, n_30, n_31, n_32, n_33, n_34, n_35, n_36, n_37, n_40, n_44, n_48, n_50, n_57, n_58, n_60, n_65, n_66, n_67, n_68, n_69, n_70, n_71, n_73, n_77, n_80, n_83, n_97, n_98, n_99, n_100, n_101, n_102, n_103, n_104, n_105, n_106, n_107, n_108, n_109, n_110, n_111, n_112, n_113, n_114, n_115, n_116, n_117, n_118, n_120, n_121, n_122, n_180, n_255, n_539, n_600, n_616, n_1200, n_2000, n_3600, n_8400, n_65536]
  rw [E, F]
  refine ⟨_, rfl, fun j j0 j1 => ?_, fun hr => ?_⟩
  · rw [zu_n (by omega), zu_n (by omega), zu_n (by omega)]
  · obtain ⟨y1, y2, y3, y4⟩ := g6 hr
    obtain ⟨x1, x2, x3, x4⟩ := g5 y1
    have z0 : (-1 : Int) + 1 = 0 := rfl
    rw [a4] at x2 x3 x4
    simp only [z0] at x2 x3 x4
    have z1 : (0 : Int) + 1 = 1 := rfl
    rw [x2] at y2 y3 y4
    simp only [z1] at y2 y3 y4
    refine ⟨?_, ?_, Or.inl ?_, fun h4 => by cases h4⟩
    · rw [zu_n (by omega), zu_n (by omega), zu_s rfl]; rfl
    · rw [zu_n (by omega), zu_s rfl, y4 0 (by decide)]; exact x3.symm
    · rw [zu_s rfl]; exact y3.symm
theorem zmc_10 {t pr v : Int → Int} {n s sg c : Int} (hn : 0 ≤ n ∧ n ≤ 60) (ht : ∀ k, 0 ≤ k → k < n → 0 ≤ t k ∧ t k < 65536) (hs : 0 ≤ s ∧ s ≤ n) (hc : 0 ≤ c ∧ c ≤ 50) (h0 : zh t n s = 102) : zPC (zr t n (fm 10) (true, (s, -1, sg, v))) 10 pr c (f_X11_parsesCommand (aI t) (iI n) (iI s) (iI 0) (aI pr) (iI (3 * c))) := by
  have u : s < n := by
    by_cases x : s < n
    · exact x
    · rw [show zh t n s = -1 from if_neg x] at h0; omega
  have hh := zm_here (t := t) (n := n) (p := s) (by omega) (by omega)
  rw [h0] at hh
  obtain ⟨r0, e0⟩ : ∃ r0 : Bool × z_Q, r0 = (true, (s + 1, -1, sg, v)) := ⟨_, rfl⟩
  have a0 : r0.2.2 = (-1, sg, v) := by rw [e0]
  have p0 : r0.2.1 = s + 1 := by rw [e0]
  have w0 : wz r0 = 0 := by rw [e0]; rfl
  have b0 : (0 ≤ r0.2.1 ∧ r0.2.1 ≤ n) ∧ n ≤ 60 := by omega
  obtain ⟨r1, d1, m1, b1, a1⟩ := zm_step (r := r0) 101 b0 ht (by omega)
  rw [a0] at a1
  obtain ⟨r2, d2, m2, b2, a2⟩ := zm_step (r := r1) 108 b1 ht (by omega)
  rw [a1] at a2
  obtain ⟨r3, d3, m3, b3, a3⟩ := zm_step (r := r2) 108 b2 ht (by omega)
  rw [a2] at a3
  obtain ⟨r4, l4, d4, m4, b4, g4⟩ := zm_st1 (r := r3) b3 ht (fun _ => by rw [a3]; show -1 ≤ (-1 : Int) ∧ (-1 : Int) ≤ 0; omega)
  rw [p0, w0] at m1
  have E : zr t n (fm 10) (true, (s, -1, sg, v)) = r4 := by
    rw [show fm 10 = 102 :: [101, 108, 108, 32, 35] from rfl, zr_t, zs_let (by omega), if_pos h0, ← e0]
    rw [show ([101, 108, 108, 32, 35] : List Int) = [101] ++ ([108] ++ ([108] ++ ([32, 35]))) from rfl, zr_app, ← d1, zr_app, ← d2, zr_app, ← d3, ← d4]
  have hP0 : q_in (iI (3 * c)) 180 := iI_in (by omega)
  have hP1 : q_in (iI (3 * c + 1)) 180 := iI_in (by omega)
  have hP2 : q_in (iI (3 * c + 2)) 180 := iI_in (by omega)
  have F : f_X11_parsesCommand (aI t) (iI n) (iI s) (iI 0) (aI pr) (iI (3 * c)) = some (iI r4.2.1, iI (wz r4), aI (zu (zu pr (3 * c) 102) (3 * c + 1) l4)) := by
    unfold f_X11_parsesCommand
    simp only [iI_add, iI_sub, n_0, n_1, n_2, n_4, n_32, n_77, n_97, n_98, n_99, n_100, n_101, n_102, n_103, n_104, n_105, n_106, n_107, n_108, n_109, n_110, n_111, n_112, n_113, n_114, n_115, n_116, n_117, n_118, n_121, n_122]
    refine q_bdE hh ?_
    refine q_gdE hP0 ?_
    refine q_ltE ?_
    refine q_ltE ?_
    refine q_brF (by decide) ?_
    refine q_brF (by decide) ?_
    refine q_brF (by decide) ?_
    refine q_brF (by decide) ?_
    refine q_brT rfl ?_
    refine q_bdE (zm_three m1 m2 m3) ?_
    refine q_bdE m4 ?_
    refine q_gdE hP1 ?_
    refine q_ltE ?_
    simp (disch := omega) only [↓q_brd, ↓q_gdd, ↓q_lts, ↓reduceIte, ↓q_bds, ↓zq_smi, ↓zq_smr, iI_add, iI_sub, iI_mul, iI_neg, iI_ab3, iI_div, z_emod, aI_rd, aI_wr, aR0, aW0, aR1, aW1, aR2, aW2, aR3, aW3, aR4, aW4, iI_inT, iI_lt, iI_le, iI_eq, lt_t, lt_f, le_t, le_f, eq_t, eq_f, bz_z, bz_o, bz_zo, bzT, bzF, n_em, zu_s, zu_n, not_true_eq_false, not_false_eq_true, and_self, true_and, and_true, false_and, and_false, true_or, or_true, false_or, or_false, or_self, Int.add_sub_cancel, n_0, n_1, n_2, n_3, n_4, n_5, n_6, n_7, n_8, n_9, n_10, n_11, n_12, n_13, n_14, n_15, n_16, n_17, n_18, n_19, n_20, n_21, n_22, n_23, n_24, n_25, n_26, n_27, n_28, n_29, n_30, n_31, n_32, n_33, n_34, n_35, n_36, n_37, n_40, n_44, n_48, n_50, n_57, n_58, n_60, n_65, n_66, n_67, n_68, n_69, n_70, n_71, n_73, n_77, n_80, n_83, n_97, n_98, n_99, n_100, n_101, n_102, n_103, n_104, n_105, n_106, n_107, n_108, n_109, n_110, n_111, n_112, n_113, n_114, n_115, n_116, n_117, n_118, n_120, n_121, n_122, n_180, n_255, n_539, n_600, n_616, n_1200, n_2000, n_3600, n_8400, n_65536]
  rw [E, F]
  refine ⟨_, rfl, fun j j0 j1 => ?_, fun hr => ?_⟩
  · rw [zu_n (by omega), zu_n (by omega)]
  · obtain ⟨x1, x2, x3, x4⟩ := g4 hr
    have z0 : (-1 : Int) + 1 = 0 := rfl
    rw [a3] at x2 x3 x4
    simp only [z0] at x2 x3 x4
    refine ⟨?_, ?_, Or.inr (by decide), fun h4 => by cases h4⟩
    · rw [zu_n (by omega), zu_s rfl]; rfl
    · rw [zu_s rfl]; exact x3.symm
theorem zmc_11 {t pr v : Int → Int} {n s sg c : Int} (hn : 0 ≤ n ∧ n ≤ 60) (ht : ∀ k, 0 ≤ k → k < n → 0 ≤ t k ∧ t k < 65536) (hs : 0 ≤ s ∧ s ≤ n) (hc : 0 ≤ c ∧ c ≤ 50) (h0 : zh t n s = 103) : zPC (zr t n (fm 11) (true, (s, -1, sg, v))) 11 pr c (f_X11_parsesCommand (aI t) (iI n) (iI s) (iI 0) (aI pr) (iI (3 * c))) := by
  have u : s < n := by
    by_cases x : s < n
    · exact x
    · rw [show zh t n s = -1 from if_neg x] at h0; omega
  have hh := zm_here (t := t) (n := n) (p := s) (by omega) (by omega)
  rw [h0] at hh
  obtain ⟨r0, e0⟩ : ∃ r0 : Bool × z_Q, r0 = (true, (s + 1, -1, sg, v)) := ⟨_, rfl⟩
  have a0 : r0.2.2 = (-1, sg, v) := by rw [e0]
  have p0 : r0.2.1 = s + 1 := by rw [e0]
  have w0 : wz r0 = 0 := by rw [e0]; rfl
  have b0 : (0 ≤ r0.2.1 ∧ r0.2.1 ≤ n) ∧ n ≤ 60 := by omega
  obtain ⟨r1, d1, m1, b1, a1⟩ := zm_step (r := r0) 114 b0 ht (by omega)
  rw [a0] at a1
  obtain ⟨r2, d2, m2, b2, a2⟩ := zm_step (r := r1) 97 b1 ht (by omega)
  rw [a1] at a2
  obtain ⟨r3, d3, m3, b3, a3⟩ := zm_step (r := r2) 122 b2 ht (by omega)
  rw [a2] at a3
  obtain ⟨r4, d4, m4, b4, a4⟩ := zm_step (r := r3) 101 b3 ht (by omega)
  rw [a3] at a4
  obtain ⟨r5, l5, d5, m5, b5, g5⟩ := zm_st1 (r := r4) b4 ht (fun _ => by rw [a4]; show -1 ≤ (-1 : Int) ∧ (-1 : Int) ≤ 0; omega)
  obtain ⟨r6, l6, d6, m6, b6, g6⟩ := zm_st2 (r := r5) b5 ht (fun hx => by obtain ⟨y1, y2, y3⟩ := g5 hx; rw [a4] at y2; simp only at y2; omega)
  rw [p0, w0] at m1
  have E : zr t n (fm 11) (true, (s, -1, sg, v)) = r6 := by
    rw [show fm 11 = 103 :: [114, 97, 122, 101, 32, 35, 32, 35, 63] from rfl, zr_t, zs_let (by omega), if_pos h0, ← e0]
    rw [show ([114, 97, 122, 101, 32, 35, 32, 35, 63] : List Int) = [114] ++ ([97] ++ ([122] ++ ([101] ++ ([32, 35] ++ ([32, 35, 63]))))) from rfl, zr_app, ← d1, zr_app, ← d2, zr_app, ← d3, zr_app, ← d4, zr_app, ← d5, ← d6]
  have hP0 : q_in (iI (3 * c)) 180 := iI_in (by omega)
  have hP1 : q_in (iI (3 * c + 1)) 180 := iI_in (by omega)
  have hP2 : q_in (iI (3 * c + 2)) 180 := iI_in (by omega)
  have F : f_X11_parsesCommand (aI t) (iI n) (iI s) (iI 0) (aI pr) (iI (3 * c)) = some (iI r6.2.1, iI (wz r6), aI (zu (zu (zu pr (3 * c) 103) (3 * c + 1) l5) (3 * c + 2) l6)) := by
    unfold f_X11_parsesCommand
    simp only [iI_add, iI_sub, n_0, n_1, n_2, n_4, n_32, n_77, n_97, n_98, n_99, n_100, n_101, n_102, n_103, n_104, n_105, n_106, n_107, n_108, n_109, n_110, n_111, n_112, n_113, n_114, n_115, n_116, n_117, n_118, n_121, n_122]
    refine q_bdE hh ?_
    refine q_gdE hP0 ?_
    refine q_ltE ?_
    refine q_ltE ?_
    refine q_brF (by decide) ?_
    refine q_brF (by decide) ?_
    refine q_brF (by decide) ?_
    refine q_brF (by decide) ?_
    refine q_brF (by decide) ?_
    refine q_brT rfl ?_
    refine q_bdE (zm_three m1 m2 m3) ?_
    refine q_bdE m4 ?_
    refine q_bdE m5 ?_
    refine q_gdE hP1 ?_
    refine q_ltE ?_
    refine q_bdE m6 ?_
    refine q_gdE hP2 ?_
    refine q_ltE ?_
    simp (disch := omega) only [↓q_brd, ↓q_gdd, ↓q_lts, ↓reduceIte, ↓q_bds, ↓zq_smi, ↓zq_smr, iI_add, iI_sub, iI_mul, iI_neg, iI_ab3, iI_div, z_emod, aI_rd, aI_wr, aR0, aW0, aR1, aW1, aR2, aW2, aR3, aW3, aR4, aW4, iI_inT, iI_lt, iI_le, iI_eq, lt_t, lt_f, le_t, le_f, eq_t, eq_f, bz_z, bz_o, bz_zo, bzT, bzF, n_em, zu_s, zu_n, not_true_eq_false, not_false_eq_true, and_self, true_and, and_true, false_and, and_false, true_or, or_true, false_or, or_false, or_self, Int.add_sub_cancel, n_0, n_1, n_2, n_3, n_4, n_5, n_6, n_7, n_8, n_9, n_10, n_11, n_12, n_13, n_14, n_15, n_16, n_17, n_18, n_19, n_20, n_21, n_22, n_23, n_24, n_25, n_26, n_27, n_28, n_29, n_30, n_31, n_32, n_33, n_34, n_35, n_36, n_37, n_40, n_44, n_48, n_50, n_57, n_58, n_60, n_65, n_66, n_67, n_68, n_69, n_70, n_71, n_73, n_77, n_80, n_83, n_97, n_98, n_99, n_100, n_101, n_102, n_103, n_104, n_105, n_106, n_107, n_108, n_109, n_110, n_111, n_112, n_113, n_114, n_115, n_116, n_117, n_118, n_120, n_121, n_122, n_180, n_255, n_539, n_600, n_616, n_1200, n_2000, n_3600, n_8400, n_65536]
  rw [E, F]
  refine ⟨_, rfl, fun j j0 j1 => ?_, fun hr => ?_⟩
  · rw [zu_n (by omega), zu_n (by omega), zu_n (by omega)]
  · obtain ⟨y1, y2, y3, y4⟩ := g6 hr
    obtain ⟨x1, x2, x3, x4⟩ := g5 y1
    have z0 : (-1 : Int) + 1 = 0 := rfl
    rw [a4] at x2 x3 x4
    simp only [z0] at x2 x3 x4
    have z1 : (0 : Int) + 1 = 1 := rfl
    rw [x2] at y2 y3 y4
    simp only [z1] at y2 y3 y4
    refine ⟨?_, ?_, Or.inl ?_, fun h4 => by cases h4⟩
    · rw [zu_n (by omega), zu_n (by omega), zu_s rfl]; rfl
    · rw [zu_n (by omega), zu_s rfl, y4 0 (by decide)]; exact x3.symm
    · rw [zu_s rfl]; exact y3.symm
theorem zmc_4 {t pr v : Int → Int} {n s sg c : Int} (hn : 0 ≤ n ∧ n ≤ 60) (ht : ∀ k, 0 ≤ k → k < n → 0 ≤ t k ∧ t k < 65536) (hs : 0 ≤ s ∧ s ≤ n) (hc : 0 ≤ c ∧ c ≤ 50) (h0 : zh t n s = 107) : zPC (zr t n (fm 4) (true, (s, -1, sg, v))) 4 pr c (f_X11_parsesCommand (aI t) (iI n) (iI s) (iI 0) (aI pr) (iI (3 * c))) := by
  have u : s < n := by
    by_cases x : s < n
    · exact x
    · rw [show zh t n s = -1 from if_neg x] at h0; omega
  have hh := zm_here (t := t) (n := n) (p := s) (by omega) (by omega)
  rw [h0] at hh
  obtain ⟨r0, e0⟩ : ∃ r0 : Bool × z_Q, r0 = (true, (s + 1, -1, sg, v)) := ⟨_, rfl⟩
  have a0 : r0.2.2 = (-1, sg, v) := by rw [e0]
  have p0 : r0.2.1 = s + 1 := by rw [e0]
  have w0 : wz r0 = 0 := by rw [e0]; rfl
  have b0 : (0 ≤ r0.2.1 ∧ r0.2.1 ≤ n) ∧ n ≤ 60 := by omega
  obtain ⟨r1, d1, m1, b1, a1⟩ := zm_step (r := r0) 101 b0 ht (by omega)
  rw [a0] at a1
  obtain ⟨r2, d2, m2, b2, a2⟩ := zm_step (r := r1) 121 b1 ht (by omega)
  rw [a1] at a2
  obtain ⟨r3, l3, d3, m3, b3, g3⟩ := zm_st2 (r := r2) b2 ht (fun _ => by rw [a2]; show -1 ≤ (-1 : Int) ∧ (-1 : Int) ≤ 0; omega)
  rw [p0, w0] at m1
  have E : zr t n (fm 4) (true, (s, -1, sg, v)) = zr t n [77] r3 := by
    rw [show fm 4 = 107 :: [101, 121, 32, 35, 63, 77] from rfl, zr_t, zs_let (by omega), if_pos h0, ← e0]
    rw [show ([101, 121, 32, 35, 63, 77] : List Int) = [101, 121, 32, 35, 63] ++ [77] from rfl, zr_app, show ([101, 121, 32, 35, 63] : List Int) = [101] ++ ([121] ++ ([32, 35, 63])) from rfl, zr_app, ← d1, zr_app, ← d2, ← d3]
  rw [E]
  have hP0 : q_in (iI (3 * c)) 180 := iI_in (by omega)
  have hP1 : q_in (iI (3 * c + 1)) 180 := iI_in (by omega)
  have hP2 : q_in (iI (3 * c + 2)) 180 := iI_in (by omega)
  have hh3 := zm_here (t := t) (n := n) (p := r3.2.1) (by omega) (by omega)
  have hm0 := zm_n0 (t := t) (n := n) (p := r3.2.1) (c := 77) (by omega) (by omega) ht (by omega)
  have hm1 := zm_n0 (t := t) (n := n) (p := r3.2.1) (c := 109) (by omega) (by omega) ht (by omega)
  have hzr := zh_rng (n := n) ht (p := r3.2.1) (by omega)
  cases hb : r3.1
  · have e1 : r3 = (false, r3.2) := by rw [← hb]
    have e2 : wz r3 = 1 := by rw [e1]; rfl
    have e3 : zr t n [77] r3 = r3 := by rw [e1, zr_no]
    rw [e2] at m3
    rw [e3]
    refine ⟨zu (zu (zu pr (3 * c) 107) (3 * c + 1) l3) (3 * c + 2) 0, ?_, fun j j0 j1 => by rw [zu_n (by omega), zu_n (by omega), zu_n (by omega)], fun hr => by rw [hb] at hr; cases hr⟩
    rw [e2]
    unfold f_X11_parsesCommand f_X11_parsesKey
    simp only [iI_add, iI_sub, n_0, n_1, n_2, n_4, n_32, n_77, n_97, n_98, n_99, n_100, n_101, n_102, n_103, n_104, n_105, n_106, n_107, n_108, n_109, n_110, n_111, n_112, n_113, n_114, n_115, n_116, n_117, n_118, n_121, n_122]
    refine q_bdE hh ?_
    refine q_gdE hP0 ?_
    refine q_ltE ?_
    refine q_ltE ?_
    refine q_brF (by decide) ?_
    refine q_brF (by decide) ?_
    refine q_brF (by decide) ?_
    refine q_brF (by decide) ?_
    refine q_brF (by decide) ?_
    refine q_brF (by decide) ?_
    refine q_brF (by decide) ?_
    refine q_brF (by decide) ?_
    refine q_brF (by decide) ?_
    refine q_brT rfl ?_
    refine q_bdE3 ?_
    refine q_bdE m1 ?_
    refine q_bdE m2 ?_
    refine q_bdE m3 ?_
    refine q_gdE hP1 ?_
    refine q_ltE ?_
    refine q_ltE ?_
    refine q_brF (show ¬ iI 1 = iI 0 by decide) ?_
    refine q_ltE ?_
    refine q_brT rfl ?_
    refine q_bdE zm_n1 ?_
    refine q_ltE ?_
    refine q_brT rfl ?_
    refine q_gdE hP2 ?_
    refine q_ltE ?_
    simp (disch := omega) only [↓q_brd, ↓q_gdd, ↓q_lts, ↓reduceIte, ↓q_bds, ↓zq_smi, ↓zq_smr, iI_add, iI_sub, iI_mul, iI_neg, iI_ab3, iI_div, z_emod, aI_rd, aI_wr, aR0, aW0, aR1, aW1, aR2, aW2, aR3, aW3, aR4, aW4, iI_inT, iI_lt, iI_le, iI_eq, lt_t, lt_f, le_t, le_f, eq_t, eq_f, bz_z, bz_o, bz_zo, bzT, bzF, n_em, zu_s, zu_n, not_true_eq_false, not_false_eq_true, and_self, true_and, and_true, false_and, and_false, true_or, or_true, false_or, or_false, or_self, Int.add_sub_cancel, n_0, n_1, n_2, n_3, n_4, n_5, n_6, n_7, n_8, n_9, n_10, n_11, n_12, n_13, n_14, n_15, n_16, n_17, n_18, n_19, n_20, n_21, n_22, n_23, n_24, n_25, n_26, n_27, n_28, n_29, n_30, n_31, n_32, n_33, n_34, n_35, n_36, n_37, n_40, n_44, n_48, n_50, n_57, n_58, n_60, n_65, n_66, n_67, n_68, n_69, n_70, n_71, n_73, n_77, n_80, n_83, n_97, n_98, n_99, n_100, n_101, n_102, n_103, n_104, n_105, n_106, n_107, n_108, n_109, n_110, n_111, n_112, n_113, n_114, n_115, n_116, n_117, n_118, n_120, n_121, n_122, n_180, n_255, n_539, n_600, n_616, n_1200, n_2000, n_3600, n_8400, n_65536]
  · obtain ⟨x1, x2, x3, x4⟩ := g3 hb
    have z0 : (-1 : Int) + 1 = 0 := rfl
    rw [a2] at x2 x3 x4
    simp only [z0] at x2 x3 x4
    have e1 : r3 = (true, r3.2) := by rw [← hb]
    have e2 : wz r3 = 0 := by rw [e1]; rfl
    have e3 : zr t n [77] r3 = zs t n 77 r3.2 := by rw [e1]; rfl
    rw [e2] at m3
    rw [e3, zs_77]
    have q0 : ∀ x y : Int, zva r3.2.2.1 x r3.2.2.2.2 1 = x := fun x y => by
      unfold zva
      rw [if_pos (by omega), zu_s (by omega)]
    have q1 : ∀ x : Int, zva r3.2.2.1 x r3.2.2.2.2 0 = l3 := fun x => by
      unfold zva
      rw [if_pos (by omega), zu_n (by omega)]
      exact x3
    by_cases k1 : zh t n r3.2.1 = 77
    · rw [if_pos k1]
      rw [if_pos k1] at hm0
      refine ⟨zu (zu (zu pr (3 * c) 107) (3 * c + 1) l3) (3 * c + 2) 0, ?_, fun j j0 j1 => by rw [zu_n (by omega), zu_n (by omega), zu_n (by omega)], fun hr => ⟨?_, ?_, Or.inl ?_, fun _ => Or.inl (q0 0 0)⟩⟩
      · rw [show wz (true, (r3.2.1 + 1, r3.2.2.1 + 1, 1, zva r3.2.2.1 0 r3.2.2.2.2)) = 0 from rfl]
        unfold f_X11_parsesCommand f_X11_parsesKey
        simp only [iI_add, iI_sub, n_0, n_1, n_2, n_4, n_32, n_77, n_97, n_98, n_99, n_100, n_101, n_102, n_103, n_104, n_105, n_106, n_107, n_108, n_109, n_110, n_111, n_112, n_113, n_114, n_115, n_116, n_117, n_118, n_121, n_122]
        refine q_bdE hh ?_
        refine q_gdE hP0 ?_
        refine q_ltE ?_
        refine q_ltE ?_
        refine q_brF (by decide) ?_
        refine q_brF (by decide) ?_
        refine q_brF (by decide) ?_
        refine q_brF (by decide) ?_
        refine q_brF (by decide) ?_
        refine q_brF (by decide) ?_
        refine q_brF (by decide) ?_
        refine q_brF (by decide) ?_
        refine q_brF (by decide) ?_
        refine q_brT rfl ?_
        refine q_bdE3 ?_
        refine q_bdE m1 ?_
        refine q_bdE m2 ?_
        refine q_bdE m3 ?_
        refine q_gdE hP1 ?_
        refine q_ltE ?_
        refine q_ltE ?_
        refine q_brT rfl ?_
        refine q_bdE hh3 ?_
        refine q_brF (by rw [k1]; decide) ?_
        refine q_ltE ?_
        refine q_brT rfl ?_
        refine q_bdE hm0 ?_
        refine q_ltE ?_
        refine q_brT rfl ?_
        refine q_gdE hP2 ?_
        refine q_ltE ?_
        simp (disch := omega) only [↓q_brd, ↓q_gdd, ↓q_lts, ↓reduceIte, ↓q_bds, ↓zq_smi, ↓zq_smr, iI_add, iI_sub, iI_mul, iI_neg, iI_ab3, iI_div, z_emod, aI_rd, aI_wr, aR0, aW0, aR1, aW1, aR2, aW2, aR3, aW3, aR4, aW4, iI_inT, iI_lt, iI_le, iI_eq, lt_t, lt_f, le_t, le_f, eq_t, eq_f, bz_z, bz_o, bz_zo, bzT, bzF, n_em, zu_s, zu_n, not_true_eq_false, not_false_eq_true, and_self, true_and, and_true, false_and, and_false, true_or, or_true, false_or, or_false, or_self, Int.add_sub_cancel, n_0, n_1, n_2, n_3, n_4, n_5, n_6, n_7, n_8, n_9, n_10, n_11, n_12, n_13, n_14, n_15, n_16, n_17, n_18, n_19, n_20, n_21, n_22, n_23, n_24, n_25, n_26, n_27, n_28, n_29, n_30, n_31, n_32, n_33, n_34, n_35, n_36, n_37, n_40, n_44, n_48, n_50, n_57, n_58, n_60, n_65, n_66, n_67, n_68, n_69, n_70, n_71, n_73, n_77, n_80, n_83, n_97, n_98, n_99, n_100, n_101, n_102, n_103, n_104, n_105, n_106, n_107, n_108, n_109, n_110, n_111, n_112, n_113, n_114, n_115, n_116, n_117, n_118, n_120, n_121, n_122, n_180, n_255, n_539, n_600, n_616, n_1200, n_2000, n_3600, n_8400, n_65536]
      · rw [zu_n (by omega), zu_n (by omega), zu_s rfl]; rfl
      · rw [zu_n (by omega), zu_s rfl]; exact (q1 0).symm
      · rw [zu_s rfl]; exact (q0 0 0).symm
    · rw [if_neg k1]
      rw [if_neg k1] at hm0
      by_cases k2 : zh t n r3.2.1 = 109
      · rw [if_pos k2]
        rw [if_pos k2] at hm1
        refine ⟨zu (zu (zu pr (3 * c) 107) (3 * c + 1) l3) (3 * c + 2) 1, ?_, fun j j0 j1 => by rw [zu_n (by omega), zu_n (by omega), zu_n (by omega)], fun hr => ⟨?_, ?_, Or.inl ?_, fun _ => Or.inr (q0 1 0)⟩⟩
        · rw [show wz (true, (r3.2.1 + 1, r3.2.2.1 + 1, 1, zva r3.2.2.1 1 r3.2.2.2.2)) = 0 from rfl]
          unfold f_X11_parsesCommand f_X11_parsesKey
          simp only [iI_add, iI_sub, n_0, n_1, n_2, n_4, n_32, n_77, n_97, n_98, n_99, n_100, n_101, n_102, n_103, n_104, n_105, n_106, n_107, n_108, n_109, n_110, n_111, n_112, n_113, n_114, n_115, n_116, n_117, n_118, n_121, n_122]
          refine q_bdE hh ?_
          refine q_gdE hP0 ?_
          refine q_ltE ?_
          refine q_ltE ?_
          refine q_brF (by decide) ?_
          refine q_brF (by decide) ?_
          refine q_brF (by decide) ?_
          refine q_brF (by decide) ?_
          refine q_brF (by decide) ?_
          refine q_brF (by decide) ?_
          refine q_brF (by decide) ?_
          refine q_brF (by decide) ?_
          refine q_brF (by decide) ?_
          refine q_brT rfl ?_
          refine q_bdE3 ?_
          refine q_bdE m1 ?_
          refine q_bdE m2 ?_
          refine q_bdE m3 ?_
          refine q_gdE hP1 ?_
          refine q_ltE ?_
          refine q_ltE ?_
          refine q_brT rfl ?_
          refine q_bdE hh3 ?_
          refine q_brT (by rw [k2]) ?_
          refine q_ltE ?_
          refine q_brF (by decide) ?_
          refine q_bdE hm1 ?_
          refine q_ltE ?_
          refine q_brF (by decide) ?_
          refine q_gdE hP2 ?_
          refine q_ltE ?_
          simp (disch := omega) only [↓q_brd, ↓q_gdd, ↓q_lts, ↓reduceIte, ↓q_bds, ↓zq_smi, ↓zq_smr, iI_add, iI_sub, iI_mul, iI_neg, iI_ab3, iI_div, z_emod, aI_rd, aI_wr, aR0, aW0, aR1, aW1, aR2, aW2, aR3, aW3, aR4, aW4, iI_inT, iI_lt, iI_le, iI_eq, lt_t, lt_f, le_t, le_f, eq_t, eq_f, bz_z, bz_o, bz_zo, bzT, bzF, n_em, zu_s, zu_n, not_true_eq_false, not_false_eq_true, and_self, true_and, and_true, false_and, and_false, true_or, or_true, false_or, or_false, or_self, Int.add_sub_cancel, n_0, n_1, n_2, n_3, n_4, n_5, n_6, n_7, n_8, n_9, n_10, n_11, n_12, n_13, n_14, n_15, n_16, n_17, n_18, n_19, n_20, n_21, n_22, n_23, n_24, n_25, n_26, n_27, n_28, n_29, n_30, n_31, n_32, n_33, n_34, n_35, n_36, n_37, n_40, n_44, n_48, n_50, n_57, n_58, n_60, n_65, n_66, n_67, n_68, n_69, n_70, n_71, n_73, n_77, n_80, n_83, n_97, n_98, n_99, n_100, n_101, n_102, n_103, n_104, n_105, n_106, n_107, n_108, n_109, n_110, n_111, n_112, n_113, n_114, n_115, n_116, n_117, n_118, n_120, n_121, n_122, n_180, n_255, n_539, n_600, n_616, n_1200, n_2000, n_3600, n_8400, n_65536]
        · rw [zu_n (by omega), zu_n (by omega), zu_s rfl]; rfl
        · rw [zu_n (by omega), zu_s rfl]; exact (q1 1).symm
        · rw [zu_s rfl]; exact (q0 1 0).symm
      · rw [if_neg k2]
        refine ⟨zu (zu (zu pr (3 * c) 107) (3 * c + 1) l3) (3 * c + 2) 0, ?_, fun j j0 j1 => by rw [zu_n (by omega), zu_n (by omega), zu_n (by omega)], fun hr => by cases hr⟩
        rw [show wz (false, r3.2) = 1 from rfl]
        unfold f_X11_parsesCommand f_X11_parsesKey
        simp only [iI_add, iI_sub, n_0, n_1, n_2, n_4, n_32, n_77, n_97, n_98, n_99, n_100, n_101, n_102, n_103, n_104, n_105, n_106, n_107, n_108, n_109, n_110, n_111, n_112, n_113, n_114, n_115, n_116, n_117, n_118, n_121, n_122]
        refine q_bdE hh ?_
        refine q_gdE hP0 ?_
        refine q_ltE ?_
        refine q_ltE ?_
        refine q_brF (by decide) ?_
        refine q_brF (by decide) ?_
        refine q_brF (by decide) ?_
        refine q_brF (by decide) ?_
        refine q_brF (by decide) ?_
        refine q_brF (by decide) ?_
        refine q_brF (by decide) ?_
        refine q_brF (by decide) ?_
        refine q_brF (by decide) ?_
        refine q_brT rfl ?_
        refine q_bdE3 ?_
        refine q_bdE m1 ?_
        refine q_bdE m2 ?_
        refine q_bdE m3 ?_
        refine q_gdE hP1 ?_
        refine q_ltE ?_
        refine q_ltE ?_
        refine q_brT rfl ?_
        refine q_bdE hh3 ?_
        refine q_brF (by rw [iI_eq (by omega)]; exact k2) ?_
        refine q_ltE ?_
        refine q_brT rfl ?_
        refine q_bdE hm0 ?_
        refine q_ltE ?_
        refine q_brT rfl ?_
        refine q_gdE hP2 ?_
        refine q_ltE ?_
        simp (disch := omega) only [↓q_brd, ↓q_gdd, ↓q_lts, ↓reduceIte, ↓q_bds, ↓zq_smi, ↓zq_smr, iI_add, iI_sub, iI_mul, iI_neg, iI_ab3, iI_div, z_emod, aI_rd, aI_wr, aR0, aW0, aR1, aW1, aR2, aW2, aR3, aW3, aR4, aW4, iI_inT, iI_lt, iI_le, iI_eq, lt_t, lt_f, le_t, le_f, eq_t, eq_f, bz_z, bz_o, bz_zo, bzT, bzF, n_em, zu_s, zu_n, not_true_eq_false, not_false_eq_true, and_self, true_and, and_true, false_and, and_false, true_or, or_true, false_or, or_false, or_self, Int.add_sub_cancel, n_0, n_1, n_2, n_3, n_4, n_5, n_6, n_7, n_8, n_9, n_10, n_11, n_12, n_13, n_14, n_15, n_16, n_17, n_18, n_19, n_20, n_21, n_22, n_23, n_24, n_25, n_26, n_27, n_28, n_29, n_30, n_31, n_32, n_33, n_34, n_35, n_36, n_37, n_40, n_44, n_48, n_50, n_57, n_58, n_60, n_65, n_66, n_67, n_68, n_69, n_70, n_71, n_73, n_77, n_80, n_83, n_97, n_98, n_99, n_100, n_101, n_102, n_103, n_104, n_105, n_106, n_107, n_108, n_109, n_110, n_111, n_112, n_113, n_114, n_115, n_116, n_117, n_118, n_120, n_121, n_122, n_180, n_255, n_539, n_600, n_616, n_1200, n_2000, n_3600, n_8400, n_65536]
theorem zmc_2 {t pr v : Int → Int} {n s sg c : Int} (hn : 0 ≤ n ∧ n ≤ 60) (ht : ∀ k, 0 ≤ k → k < n → 0 ≤ t k ∧ t k < 65536) (hs : 0 ≤ s ∧ s ≤ n) (hc : 0 ≤ c ∧ c ≤ 50) (h0 : zh t n s = 116) (h1 : zh t n (s + 1) = 117) : zPC (zr t n (fm 2) (true, (s, -1, sg, v))) 2 pr c (f_X11_parsesCommand (aI t) (iI n) (iI s) (iI 0) (aI pr) (iI (3 * c))) := by
  have u : s < n := by
    by_cases x : s < n
    · exact x
    · rw [show zh t n s = -1 from if_neg x] at h0; omega
  have hh := zm_here (t := t) (n := n) (p := s) (by omega) (by omega)
  rw [h0] at hh
  have hh1 := zm_here (t := t) (n := n) (p := s + 1) (by omega) (by omega)
  have hz1 := zh_rng (n := n) ht (p := s + 1) (by omega)
  obtain ⟨r0, e0⟩ : ∃ r0 : Bool × z_Q, r0 = (true, (s + 1, -1, sg, v)) := ⟨_, rfl⟩
  have a0 : r0.2.2 = (-1, sg, v) := by rw [e0]
  have p0 : r0.2.1 = s + 1 := by rw [e0]
  have w0 : wz r0 = 0 := by rw [e0]; rfl
  have b0 : (0 ≤ r0.2.1 ∧ r0.2.1 ≤ n) ∧ n ≤ 60 := by omega
  obtain ⟨r1, d1, m1, b1, a1⟩ := zm_step (r := r0) 117 b0 ht (by omega)
  rw [a0] at a1
  obtain ⟨r2, d2, m2, b2, a2⟩ := zm_step (r := r1) 110 b1 ht (by omega)
  rw [a1] at a2
  obtain ⟨r3, d3, m3, b3, a3⟩ := zm_step (r := r2) 101 b2 ht (by omega)
  rw [a2] at a3
  obtain ⟨r4, l4, d4, m4, b4, g4⟩ := zm_st2 (r := r3) b3 ht (fun _ => by rw [a3]; show -1 ≤ (-1 : Int) ∧ (-1 : Int) ≤ 0; omega)
  obtain ⟨r5, l5, d5, m5, b5, g5⟩ := zm_sts (r := r4) b4 ht (fun hx => by obtain ⟨y1, y2, y3⟩ := g4 hx; rw [a3] at y2; simp only at y2; omega)
  rw [p0, w0] at m1
  have hP0 : q_in (iI (3 * c)) 180 := iI_in (by omega)
  have hP1 : q_in (iI (3 * c + 1)) 180 := iI_in (by omega)
  have hP2 : q_in (iI (3 * c + 2)) 180 := iI_in (by omega)
  have E : zr t n (fm 2) (true, (s, -1, sg, v)) = r5 := by
    rw [show fm 2 = 116 :: [117, 110, 101, 32, 35, 63, 83, 35, 63] from rfl, zr_t, zs_let (by omega), if_pos h0, ← e0]
    rw [show ([117, 110, 101, 32, 35, 63, 83, 35, 63] : List Int) = [117] ++ ([110] ++ ([101] ++ ([32, 35, 63] ++ ([83, 35, 63])))) from rfl, zr_app, ← d1, zr_app, ← d2, zr_app, ← d3, zr_app, ← d4, ← d5]
  have F : f_X11_parsesCommand (aI t) (iI n) (iI s) (iI 0) (aI pr) (iI (3 * c)) = some (iI r5.2.1, iI (wz r5), aI (zu (zu (zu (zu pr (3 * c) 116) (3 * c) 117) (3 * c + 1) l4) (3 * c + 2) l5)) := by
    unfold f_X11_parsesCommand f_X11_parsesT
    simp only [iI_add, iI_sub, n_0, n_1, n_2, n_4, n_32, n_77, n_97, n_98, n_99, n_100, n_101, n_102, n_103, n_104, n_105, n_106, n_107, n_108, n_109, n_110, n_111, n_112, n_113, n_114, n_115, n_116, n_117, n_118, n_121, n_122]
    refine q_bdE hh ?_
    refine q_gdE hP0 ?_
    refine q_ltE ?_
    refine q_ltE ?_
    refine q_brF (by decide) ?_
    refine q_brF (by decide) ?_
    refine q_brF (by decide) ?_
    refine q_brF (by decide) ?_
    refine q_brF (by decide) ?_
    refine q_brF (by decide) ?_
    refine q_brF (by decide) ?_
    refine q_brF (by decide) ?_
    refine q_brF (by decide) ?_
    refine q_brF (by decide) ?_
    refine q_brF (by decide) ?_
    refine q_brF (by decide) ?_
    refine q_brF (by decide) ?_
    refine q_brF (by decide) ?_
    refine q_brF (by decide) ?_
    refine q_brF (by decide) ?_
    refine q_brF (by decide) ?_
    refine q_brF (by decide) ?_
    refine q_brT rfl ?_
    refine q_bdE3 ?_
    refine q_bdE hh1 ?_
    refine q_brT (by rw [h1]) ?_
    refine q_gdE hP0 ?_
    refine q_ltE ?_
    refine q_bdE (zm_three m1 m2 m3) ?_
    refine q_bdE m4 ?_
    refine q_gdE hP1 ?_
    refine q_ltE ?_
    refine q_bdE m5 ?_
    refine q_gdE hP2 ?_
    refine q_ltE ?_
    simp (disch := omega) only [↓q_brd, ↓q_gdd, ↓q_lts, ↓reduceIte, ↓q_bds, ↓zq_smi, ↓zq_smr, iI_add, iI_sub, iI_mul, iI_neg, iI_ab3, iI_div, z_emod, aI_rd, aI_wr, aR0, aW0, aR1, aW1, aR2, aW2, aR3, aW3, aR4, aW4, iI_inT, iI_lt, iI_le, iI_eq, lt_t, lt_f, le_t, le_f, eq_t, eq_f, bz_z, bz_o, bz_zo, bzT, bzF, n_em, zu_s, zu_n, not_true_eq_false, not_false_eq_true, and_self, true_and, and_true, false_and, and_false, true_or, or_true, false_or, or_false, or_self, Int.add_sub_cancel, n_0, n_1, n_2, n_3, n_4, n_5, n_6, n_7, n_8, n_9, n_10, n_11, n_12, n_13, n_14, n_15, n_16, n_17, n_18, n_19, n_20, n_21, n_22, n_23, n_24, n_25, n_26, n_27, n_28, n_29, n_30, n_31, n_32, n_33, n_34, n_35, n_36, n_37, n_40, n_44, n_48, n_50, n_57, n_58, n_60, n_65, n_66, n_67, n_68, n_69, n_70, n_71, n_73, n_77, n_80, n_83, n_97, n_98, n_99, n_100, n_101, n_102, n_103, n_104, n_105, n_106, n_107, n_108, n_109, n_110, n_111, n_112, n_113, n_114, n_115, n_116, n_117, n_118, n_120, n_121, n_122, n_180, n_255, n_539, n_600, n_616, n_1200, n_2000, n_3600, n_8400, n_65536]
  rw [E, F]
  refine ⟨_, rfl, fun j j0 j1 => ?_, fun hr => ?_⟩
  · rw [zu_n (by omega), zu_n (by omega), zu_n (by omega), zu_n (by omega)]
  · obtain ⟨y1, y2, y3, y4⟩ := g5 hr
    obtain ⟨x1, x2, x3, x4⟩ := g4 y1
    have z0 : (-1 : Int) + 1 = 0 := rfl
    rw [a3] at x2 x3 x4
    simp only [z0] at x2 x3 x4
    have z1 : (0 : Int) + 1 = 1 := rfl
    rw [x2] at y2 y3 y4
    simp only [z1] at y2 y3 y4
    refine ⟨?_, ?_, Or.inl ?_, fun h4 => by cases h4⟩
    · rw [zu_n (by omega), zu_n (by omega), zu_s rfl]; rfl
    · rw [zu_n (by omega), zu_s rfl, y4 0 (by decide)]; exact x3.symm
    · rw [zu_s rfl]; exact y3.symm
theorem zmc_5 {t pr v : Int → Int} {n s sg c : Int} (hn : 0 ≤ n ∧ n ≤ 60) (ht : ∀ k, 0 ≤ k → k < n → 0 ≤ t k ∧ t k < 65536) (hs : 0 ≤ s ∧ s ≤ n) (hc : 0 ≤ c ∧ c ≤ 50) (h0 : zh t n s = 116) (h1 : zh t n (s + 1) = 111) (h2 : zh t n (s + 1 + 1) = 108) : zPC (zr t n (fm 5) (true, (s, -1, sg, v))) 5 pr c (f_X11_parsesCommand (aI t) (iI n) (iI s) (iI 0) (aI pr) (iI (3 * c))) := by
  have u : s < n := by
    by_cases x : s < n
    · exact x
    · rw [show zh t n s = -1 from if_neg x] at h0; omega
  have hh := zm_here (t := t) (n := n) (p := s) (by omega) (by omega)
  rw [h0] at hh
  have hh1 := zm_here (t := t) (n := n) (p := s + 1) (by omega) (by omega)
  have hz1 := zh_rng (n := n) ht (p := s + 1) (by omega)
  obtain ⟨r0, e0⟩ : ∃ r0 : Bool × z_Q, r0 = (true, (s + 1, -1, sg, v)) := ⟨_, rfl⟩
  have a0 : r0.2.2 = (-1, sg, v) := by rw [e0]
  have p0 : r0.2.1 = s + 1 := by rw [e0]
  have w0 : wz r0 = 0 := by rw [e0]; rfl
  have b0 : (0 ≤ r0.2.1 ∧ r0.2.1 ≤ n) ∧ n ≤ 60 := by omega
  obtain ⟨r1, d1, m1, b1, a1⟩ := zm_step (r := r0) 111 b0 ht (by omega)
  rw [a0] at a1
  obtain ⟨r2, d2, m2, b2, a2⟩ := zm_step (r := r1) 108 b1 ht (by omega)
  rw [a1] at a2
  obtain ⟨r3, d3, m3, b3, a3⟩ := zm_step (r := r2) 101 b2 ht (by omega)
  rw [a2] at a3
  obtain ⟨r4, d4, m4, b4, a4⟩ := zm_step (r := r3) 114 b3 ht (by omega)
  rw [a3] at a4
  obtain ⟨r5, d5, m5, b5, a5⟩ := zm_step (r := r4) 97 b4 ht (by omega)
  rw [a4] at a5
  obtain ⟨r6, d6, m6, b6, a6⟩ := zm_step (r := r5) 110 b5 ht (by omega)
  rw [a5] at a6
  obtain ⟨r7, d7, m7, b7, a7⟩ := zm_step (r := r6) 99 b6 ht (by omega)
  rw [a6] at a7
  obtain ⟨r8, d8, m8, b8, a8⟩ := zm_step (r := r7) 101 b7 ht (by omega)
  rw [a7] at a8
  obtain ⟨r9, l9, d9, m9, b9, g9⟩ := zm_st2 (r := r8) b8 ht (fun _ => by rw [a8]; show -1 ≤ (-1 : Int) ∧ (-1 : Int) ≤ 0; omega)
  rw [p0, w0] at m1
  have hh2 := zm_here (t := t) (n := n) (p := r1.2.1) (by omega) (by omega)
  have hz2 := zh_rng (n := n) ht (p := r1.2.1) (by omega)
  have k1 : r1 = if zh t n (s + 1) = 111 then (true, (s + 1 + 1, -1, sg, v)) else (false, (s + 1, -1, sg, v)) := by
    rw [d1, e0, zr_t, zs_let (by omega), zr_nil]
  rw [if_pos h1] at k1
  rw [show r1.2.1 = s + 1 + 1 by rw [k1]] at hh2
  rw [h2] at hh2
  have w1 : wz r1 = 0 := by rw [k1]; rfl
  rw [w1, show r1.2.1 = s + 1 + 1 by rw [k1]] at m1 m2
  have hP0 : q_in (iI (3 * c)) 180 := iI_in (by omega)
  have hP1 : q_in (iI (3 * c + 1)) 180 := iI_in (by omega)
  have hP2 : q_in (iI (3 * c + 2)) 180 := iI_in (by omega)
  have E : zr t n (fm 5) (true, (s, -1, sg, v)) = r9 := by
    rw [show fm 5 = 116 :: [111, 108, 101, 114, 97, 110, 99, 101, 32, 35, 63] from rfl, zr_t, zs_let (by omega), if_pos h0, ← e0]
    rw [show ([111, 108, 101, 114, 97, 110, 99, 101, 32, 35, 63] : List Int) = [111] ++ ([108] ++ ([101] ++ ([114] ++ ([97] ++ ([110] ++ ([99] ++ ([101] ++ ([32, 35, 63])))))))) from rfl, zr_app, ← d1, zr_app, ← d2, zr_app, ← d3, zr_app, ← d4, zr_app, ← d5, zr_app, ← d6, zr_app, ← d7, zr_app, ← d8, ← d9]
  have F : f_X11_parsesCommand (aI t) (iI n) (iI s) (iI 0) (aI pr) (iI (3 * c)) = some (iI r9.2.1, iI (wz r9), aI (zu (zu (zu pr (3 * c) 116) (3 * c) 108) (3 * c + 1) l9)) := by
    unfold f_X11_parsesCommand f_X11_parsesT
    simp only [iI_add, iI_sub, n_0, n_1, n_2, n_4, n_32, n_77, n_97, n_98, n_99, n_100, n_101, n_102, n_103, n_104, n_105, n_106, n_107, n_108, n_109, n_110, n_111, n_112, n_113, n_114, n_115, n_116, n_117, n_118, n_121, n_122]
    refine q_bdE hh ?_
    refine q_gdE hP0 ?_
    refine q_ltE ?_
    refine q_ltE ?_
    refine q_brF (by decide) ?_
    refine q_brF (by decide) ?_
    refine q_brF (by decide) ?_
    refine q_brF (by decide) ?_
    refine q_brF (by decide) ?_
    refine q_brF (by decide) ?_
    refine q_brF (by decide) ?_
    refine q_brF (by decide) ?_
    refine q_brF (by decide) ?_
    refine q_brF (by decide) ?_
    refine q_brF (by decide) ?_
    refine q_brF (by decide) ?_
    refine q_brF (by decide) ?_
    refine q_brF (by decide) ?_
    refine q_brF (by decide) ?_
    refine q_brF (by decide) ?_
    refine q_brF (by decide) ?_
    refine q_brF (by decide) ?_
    refine q_brT rfl ?_
    refine q_bdE3 ?_
    refine q_bdE hh1 ?_
    refine q_brF (by rw [h1]; decide) ?_
    refine q_bdE m1 ?_
    refine q_ltE ?_
    refine q_brT rfl ?_
    refine q_bdE hh2 ?_
    refine q_brT rfl ?_
    refine q_gdE hP0 ?_
    refine q_ltE ?_
    refine q_bdE (zm_three m2 m3 m4) ?_
    refine q_bdE (zm_three m5 m6 m7) ?_
    refine q_bdE m8 ?_
    refine q_bdE m9 ?_
    refine q_gdE hP1 ?_
    refine q_ltE ?_
    simp (disch := omega) only [↓q_brd, ↓q_gdd, ↓q_lts, ↓reduceIte, ↓q_bds, ↓zq_smi, ↓zq_smr, iI_add, iI_sub, iI_mul, iI_neg, iI_ab3, iI_div, z_emod, aI_rd, aI_wr, aR0, aW0, aR1, aW1, aR2, aW2, aR3, aW3, aR4, aW4, iI_inT, iI_lt, iI_le, iI_eq, lt_t, lt_f, le_t, le_f, eq_t, eq_f, bz_z, bz_o, bz_zo, bzT, bzF, n_em, zu_s, zu_n, not_true_eq_false, not_false_eq_true, and_self, true_and, and_true, false_and, and_false, true_or, or_true, false_or, or_false, or_self, Int.add_sub_cancel, n_0, n_1, n_2, n_3, n_4, n_5, n_6, n_7, n_8, n_9, n_10, n_11, n_12, n_13, n_14, n_15, n_16, n_17, n_18, n_19, n_20, n_21, n_22, n_23, n_24, n_25, n_26, n_27, n_28, n_29, n_30, n_31, n_32, n_33, n_34, n_35, n_36, n_37, n_40, n_44, n_48, n_50, n_57, n_58, n_60, n_65, n_66, n_67, n_68, n_69, n_70, n_71, n_73, n_77, n_80, n_83, n_97, n_98, n_99, n_100, n_101, n_102, n_103, n_104, n_105, n_106, n_107, n_108, n_109, n_110, n_111, n_112, n_113, n_114, n_115, n_116, n_117, n_118, n_120, n_121, n_122, n_180, n_255, n_539, n_600, n_616, n_1200, n_2000, n_3600, n_8400, n_65536]
  rw [E, F]
  refine ⟨_, rfl, fun j j0 j1 => ?_, fun hr => ?_⟩
  · rw [zu_n (by omega), zu_n (by omega), zu_n (by omega)]
  · obtain ⟨x1, x2, x3, x4⟩ := g9 hr
    have z0 : (-1 : Int) + 1 = 0 := rfl
    rw [a8] at x2 x3 x4
    simp only [z0] at x2 x3 x4
    refine ⟨?_, ?_, Or.inr (by decide), fun h4 => by cases h4⟩
    · rw [zu_n (by omega), zu_s rfl]; rfl
    · rw [zu_s rfl]; exact x3.symm
theorem zmc_6 {t pr v : Int → Int} {n s sg c : Int} (hn : 0 ≤ n ∧ n ≤ 60) (ht : ∀ k, 0 ≤ k → k < n → 0 ≤ t k ∧ t k < 65536) (hs : 0 ≤ s ∧ s ≤ n) (hc : 0 ≤ c ∧ c ≤ 50) (h0 : zh t n s = 116) (h1 : zh t n (s + 1) ≠ 117) (h2 : ¬ (zh t n (s + 1) = 111 ∧ zh t n (s + 1 + 1) = 108)) : zPC (zr t n (fm 6) (true, (s, -1, sg, v))) 6 pr c (f_X11_parsesCommand (aI t) (iI n) (iI s) (iI 0) (aI pr) (iI (3 * c))) := by
  have u : s < n := by
    by_cases x : s < n
    · exact x
    · rw [show zh t n s = -1 from if_neg x] at h0; omega
  have hh := zm_here (t := t) (n := n) (p := s) (by omega) (by omega)
  rw [h0] at hh
  have hh1 := zm_here (t := t) (n := n) (p := s + 1) (by omega) (by omega)
  have hz1 := zh_rng (n := n) ht (p := s + 1) (by omega)
  obtain ⟨r0, e0⟩ : ∃ r0 : Bool × z_Q, r0 = (true, (s + 1, -1, sg, v)) := ⟨_, rfl⟩
  have a0 : r0.2.2 = (-1, sg, v) := by rw [e0]
  have p0 : r0.2.1 = s + 1 := by rw [e0]
  have w0 : wz r0 = 0 := by rw [e0]; rfl
  have b0 : (0 ≤ r0.2.1 ∧ r0.2.1 ≤ n) ∧ n ≤ 60 := by omega
  obtain ⟨r1, d1, m1, b1, a1⟩ := zm_step (r := r0) 111 b0 ht (by omega)
  rw [a0] at a1
  obtain ⟨r2, d2, m2, b2, a2⟩ := zm_step (r := r1) 110 b1 ht (by omega)
  rw [a1] at a2
  obtain ⟨r3, d3, m3, b3, a3⟩ := zm_step (r := r2) 101 b2 ht (by omega)
  rw [a2] at a3
  obtain ⟨r4, l4, d4, m4, b4, g4⟩ := zm_st1 (r := r3) b3 ht (fun _ => by rw [a3]; show -1 ≤ (-1 : Int) ∧ (-1 : Int) ≤ 0; omega)
  obtain ⟨r5, l5, d5, m5, b5, g5⟩ := zm_st2 (r := r4) b4 ht (fun hx => by obtain ⟨y1, y2, y3⟩ := g4 hx; rw [a3] at y2; simp only at y2; omega)
  rw [p0, w0] at m1
  have hh2 := zm_here (t := t) (n := n) (p := r1.2.1) (by omega) (by omega)
  have hz2 := zh_rng (n := n) ht (p := r1.2.1) (by omega)
  have k1 : r1 = if zh t n (s + 1) = 111 then (true, (s + 1 + 1, -1, sg, v)) else (false, (s + 1, -1, sg, v)) := by
    rw [d1, e0, zr_t, zs_let (by omega), zr_nil]
  have hP0 : q_in (iI (3 * c)) 180 := iI_in (by omega)
  have hP1 : q_in (iI (3 * c + 1)) 180 := iI_in (by omega)
  have hP2 : q_in (iI (3 * c + 2)) 180 := iI_in (by omega)
  have E : zr t n (fm 6) (true, (s, -1, sg, v)) = r5 := by
    rw [show fm 6 = 116 :: [111, 110, 101, 32, 35, 32, 35, 63] from rfl, zr_t, zs_let (by omega), if_pos h0, ← e0]
    rw [show ([111, 110, 101, 32, 35, 32, 35, 63] : List Int) = [111] ++ ([110] ++ ([101] ++ ([32, 35] ++ ([32, 35, 63])))) from rfl, zr_app, ← d1, zr_app, ← d2, zr_app, ← d3, zr_app, ← d4, ← d5]
  have F : f_X11_parsesCommand (aI t) (iI n) (iI s) (iI 0) (aI pr) (iI (3 * c)) = some (iI r5.2.1, iI (wz r5), aI (zu (zu (zu pr (3 * c) 116) (3 * c + 1) l4) (3 * c + 2) l5)) := by
    unfold f_X11_parsesCommand f_X11_parsesT
    simp only [iI_add, iI_sub, n_0, n_1, n_2, n_4, n_32, n_77, n_97, n_98, n_99, n_100, n_101, n_102, n_103, n_104, n_105, n_106, n_107, n_108, n_109, n_110, n_111, n_112, n_113, n_114, n_115, n_116, n_117, n_118, n_121, n_122]
    by_cases c1 : zh t n (s + 1) = 111
    · rw [if_pos c1] at k1
      have c2 : zh t n (s + 1 + 1) ≠ 108 := fun x => h2 ⟨c1, x⟩
      rw [show r1.2.1 = s + 1 + 1 by rw [k1]] at hh2 hz2
      have w1 : wz r1 = 0 := by rw [k1]; rfl
      rw [w1, show r1.2.1 = s + 1 + 1 by rw [k1]] at m1 m2
      refine q_bdE hh ?_
      refine q_gdE hP0 ?_
      refine q_ltE ?_
      refine q_ltE ?_
      refine q_brF (by decide) ?_
      refine q_brF (by decide) ?_
      refine q_brF (by decide) ?_
      refine q_brF (by decide) ?_
      refine q_brF (by decide) ?_
      refine q_brF (by decide) ?_
      refine q_brF (by decide) ?_
      refine q_brF (by decide) ?_
      refine q_brF (by decide) ?_
      refine q_brF (by decide) ?_
      refine q_brF (by decide) ?_
      refine q_brF (by decide) ?_
      refine q_brF (by decide) ?_
      refine q_brF (by decide) ?_
      refine q_brF (by decide) ?_
      refine q_brF (by decide) ?_
      refine q_brF (by decide) ?_
      refine q_brF (by decide) ?_
      refine q_brT rfl ?_
      refine q_bdE3 ?_
      refine q_bdE hh1 ?_
      refine q_brF (by rw [iI_eq (by omega)]; exact h1) ?_
      refine q_bdE m1 ?_
      refine q_ltE ?_
      refine q_brT rfl ?_
      refine q_bdE hh2 ?_
      refine q_brF (by rw [iI_eq (by omega)]; exact c2) ?_
      refine q_bdE m2 ?_
      refine q_bdE m3 ?_
      refine q_bdE m4 ?_
      refine q_gdE hP1 ?_
      refine q_ltE ?_
      refine q_bdE m5 ?_
      refine q_gdE hP2 ?_
      refine q_ltE ?_
      simp (disch := omega) only [↓q_brd, ↓q_gdd, ↓q_lts, ↓reduceIte, ↓q_bds, ↓zq_smi, ↓zq_smr, iI_add, iI_sub, iI_mul, iI_neg, iI_ab3, iI_div, z_emod, aI_rd, aI_wr, aR0, aW0, aR1, aW1, aR2, aW2, aR3, aW3, aR4, aW4, iI_inT, iI_lt, iI_le, iI_eq, lt_t, lt_f, le_t, le_f, eq_t, eq_f, bz_z, bz_o, bz_zo, bzT, bzF, n_em, zu_s, zu_n, not_true_eq_false, not_false_eq_true, and_self, true_and, and_true, false_and, and_false, true_or, or_true, false_or, or_false, or_self, Int.add_sub_cancel, n_0, n_1, n_2, n_3, n_4, n_5, n_6, n_7, n_8, n_9, n_10, n_11, n_12, n_13, n_14, n_15, n_16, n_17, n_18, n_19, n_20, n_21, n_22, n_23, n_24, n_25, n_26, n_27, n_28, n_29, n_30, n_31, n_32, n_33, n_34, n_35, n_36, n_37, n_40, n_44, n_48, n_50, n_57, n_58, n_60, n_65, n_66, n_67, n_68, n_69, n_70, n_71, n_73, n_77, n_80, n_83, n_97, n_98, n_99, n_100, n_101, n_102, n_103, n_104, n_105, n_106, n_107, n_108, n_109, n_110, n_111, n_112, n_113, n_114, n_115, n_116, n_117, n_118, n_120, n_121, n_122, n_180, n_255, n_539, n_600, n_616, n_1200, n_2000, n_3600, n_8400, n_65536]
    · rw [if_neg c1] at k1
      have w1 : wz r1 = 1 := by rw [k1]; rfl
      rw [w1] at m1 m2
      refine q_bdE hh ?_
      refine q_gdE hP0 ?_
      refine q_ltE ?_
      refine q_ltE ?_
      refine q_brF (by decide) ?_
      refine q_brF (by decide) ?_
      refine q_brF (by decide) ?_
      refine q_brF (by decide) ?_
      refine q_brF (by decide) ?_
      refine q_brF (by decide) ?_
      refine q_brF (by decide) ?_
      refine q_brF (by decide) ?_
      refine q_brF (by decide) ?_
      refine q_brF (by decide) ?_
      refine q_brF (by decide) ?_
      refine q_brF (by decide) ?_
      refine q_brF (by decide) ?_
      refine q_brF (by decide) ?_
      refine q_brF (by decide) ?_
      refine q_brF (by decide) ?_
      refine q_brF (by decide) ?_
      refine q_brF (by decide) ?_
      refine q_brT rfl ?_
      refine q_bdE3 ?_
      refine q_bdE hh1 ?_
      refine q_brF (by rw [iI_eq (by omega)]; exact h1) ?_
      refine q_bdE m1 ?_
      refine q_ltE ?_
      refine q_brF (show ¬ iI 1 = iI 0 by decide) ?_
      refine q_bdE m2 ?_
      refine q_bdE m3 ?_
      refine q_bdE m4 ?_
      refine q_gdE hP1 ?_
      refine q_ltE ?_
      refine q_bdE m5 ?_
      refine q_gdE hP2 ?_
      refine q_ltE ?_
      simp (disch := omega) only [↓q_brd, ↓q_gdd, ↓q_lts, ↓reduceIte, ↓q_bds, ↓zq_smi, ↓zq_smr, iI_add, iI_sub, iI_mul, iI_neg, iI_ab3, iI_div, z_emod, aI_rd, aI_wr, aR0, aW0, aR1, aW1, aR2, aW2, aR3, aW3, aR4, aW4, iI_inT, iI_lt, iI_le, iI_eq, lt_t, lt_f, le_t, le_f, eq_t, eq_f, bz_z, bz_o, bz_zo, bzT, bzF, n_em, zu_s, zu_n, not_true_eq_false, not_false_eq_true, and_self, true_and, and_true, false_and, and_false, true_or, or_true, false_or, or_false, or_self, Int.add_sub_cancel, n_0, n_1, n_2, n_3, n_4, n_5, n_6, n_7, n_8, n_9, n_10, n_11, n_12, n_13, n_14, n_15, n_16, n_17, n_18, n_19, n_20, n_21, n_22, n_23, n_24, n_25, n_26, n_27, n_28, n_29, n_30, n_31, n_32, n_33, n_34, n_35, n_36, n_37, n_40, n_44, n_48, n_50, n_57, n_58, n_60, n_65, n_66, n_67, n_68, n_69, n_70, n_71, n_73, n_77, n_80, n_83, n_97, n_98, n_99, n_100, n_101, n_102, n_103, n_104, n_105, n_106, n_107, n_108, n_109, n_110, n_111, n_112, n_113, n_114, n_115, n_116, n_117, n_118, n_120, n_121, n_122, n_180, n_255, n_539, n_600, n_616, n_1200, n_2000, n_3600, n_8400, n_65536]
  rw [E, F]
  refine ⟨_, rfl, fun j j0 j1 => ?_, fun hr => ?_⟩
  · rw [zu_n (by omega), zu_n (by omega), zu_n (by omega)]
  · obtain ⟨y1, y2, y3, y4⟩ := g5 hr
    obtain ⟨x1, x2, x3, x4⟩ := g4 y1
    have z0 : (-1 : Int) + 1 = 0 := rfl
    rw [a3] at x2 x3 x4
    simp only [z0] at x2 x3 x4
    have z1 : (0 : Int) + 1 = 1 := rfl
    rw [x2] at y2 y3 y4
    simp only [z1] at y2 y3 y4
    refine ⟨?_, ?_, Or.inl ?_, fun h4 => by cases h4⟩
    · rw [zu_n (by omega), zu_n (by omega), zu_s rfl]; rfl
    · rw [zu_n (by omega), zu_s rfl, y4 0 (by decide)]; exact x3.symm
    · rw [zu_s rfl]; exact y3.symm
theorem zmc_7 {t pr v : Int → Int} {n s sg c : Int} (hn : 0 ≤ n ∧ n ≤ 60) (ht : ∀ k, 0 ≤ k → k < n → 0 ≤ t k ∧ t k < 65536) (hs : 0 ≤ s ∧ s ≤ n) (hc : 0 ≤ c ∧ c ≤ 50) (h0 : zh t n s = 99) (h1 : zh t n (s + 1) = 108) (h2 : zh t n (s + 1 + 1) = 101) : zPC (zr t n (fm 7) (true, (s, -1, sg, v))) 7 pr c (f_X11_parsesCommand (aI t) (iI n) (iI s) (iI 0) (aI pr) (iI (3 * c))) := by
  have u : s < n := by
    by_cases x : s < n
    · exact x
    · rw [show zh t n s = -1 from if_neg x] at h0; omega
  have hh := zm_here (t := t) (n := n) (p := s) (by omega) (by omega)
  rw [h0] at hh
  have hh1 := zm_here (t := t) (n := n) (p := s + 1) (by omega) (by omega)
  have hz1 := zh_rng (n := n) ht (p := s + 1) (by omega)
  obtain ⟨r0, e0⟩ : ∃ r0 : Bool × z_Q, r0 = (true, (s + 1, -1, sg, v)) := ⟨_, rfl⟩
  have a0 : r0.2.2 = (-1, sg, v) := by rw [e0]
  have p0 : r0.2.1 = s + 1 := by rw [e0]
  have w0 : wz r0 = 0 := by rw [e0]; rfl
  have b0 : (0 ≤ r0.2.1 ∧ r0.2.1 ≤ n) ∧ n ≤ 60 := by omega
  obtain ⟨r1, d1, m1, b1, a1⟩ := zm_step (r := r0) 108 b0 ht (by omega)
  rw [a0] at a1
  obtain ⟨r2, d2, m2, b2, a2⟩ := zm_step (r := r1) 101 b1 ht (by omega)
  rw [a1] at a2
  obtain ⟨r3, d3, m3, b3, a3⟩ := zm_step (r := r2) 97 b2 ht (by omega)
  rw [a2] at a3
  obtain ⟨r4, d4, m4, b4, a4⟩ := zm_step (r := r3) 114 b3 ht (by omega)
  rw [a3] at a4
  obtain ⟨r5, l5, d5, m5, b5, g5⟩ := zm_st1 (r := r4) b4 ht (fun _ => by rw [a4]; show -1 ≤ (-1 : Int) ∧ (-1 : Int) ≤ 0; omega)
  rw [p0, w0] at m1
  have hh2 := zm_here (t := t) (n := n) (p := r1.2.1) (by omega) (by omega)
  have hz2 := zh_rng (n := n) ht (p := r1.2.1) (by omega)
  have k1 : r1 = if zh t n (s + 1) = 108 then (true, (s + 1 + 1, -1, sg, v)) else (false, (s + 1, -1, sg, v)) := by
    rw [d1, e0, zr_t, zs_let (by omega), zr_nil]
  rw [if_pos h1] at k1
  rw [show r1.2.1 = s + 1 + 1 by rw [k1]] at hh2
  rw [h2] at hh2
  have w1 : wz r1 = 0 := by rw [k1]; rfl
  rw [w1, show r1.2.1 = s + 1 + 1 by rw [k1]] at m1 m2
  have hP0 : q_in (iI (3 * c)) 180 := iI_in (by omega)
  have hP1 : q_in (iI (3 * c + 1)) 180 := iI_in (by omega)
  have hP2 : q_in (iI (3 * c + 2)) 180 := iI_in (by omega)
  have E : zr t n (fm 7) (true, (s, -1, sg, v)) = r5 := by
    rw [show fm 7 = 99 :: [108, 101, 97, 114, 32, 35] from rfl, zr_t, zs_let (by omega), if_pos h0, ← e0]
    rw [show ([108, 101, 97, 114, 32, 35] : List Int) = [108] ++ ([101] ++ ([97] ++ ([114] ++ ([32, 35])))) from rfl, zr_app, ← d1, zr_app, ← d2, zr_app, ← d3, zr_app, ← d4, ← d5]
  have F : f_X11_parsesCommand (aI t) (iI n) (iI s) (iI 0) (aI pr) (iI (3 * c)) = some (iI r5.2.1, iI (wz r5), aI (zu (zu pr (3 * c) 99) (3 * c + 1) l5)) := by
    unfold f_X11_parsesCommand f_X11_parsesC
    simp only [iI_add, iI_sub, n_0, n_1, n_2, n_4, n_32, n_77, n_97, n_98, n_99, n_100, n_101, n_102, n_103, n_104, n_105, n_106, n_107, n_108, n_109, n_110, n_111, n_112, n_113, n_114, n_115, n_116, n_117, n_118, n_121, n_122]
    refine q_bdE hh ?_
    refine q_gdE hP0 ?_
    refine q_ltE ?_
    refine q_ltE ?_
    refine q_brF (by decide) ?_
    refine q_brT rfl ?_
    refine q_bdE3 ?_
    refine q_bdE m1 ?_
    refine q_ltE ?_
    refine q_brT rfl ?_
    refine q_bdE hh2 ?_
    refine q_brT rfl ?_
    refine q_bdE (zm_three m2 m3 m4) ?_
    refine q_bdE m5 ?_
    refine q_gdE hP1 ?_
    refine q_ltE ?_
    simp (disch := omega) only [↓q_brd, ↓q_gdd, ↓q_lts, ↓reduceIte, ↓q_bds, ↓zq_smi, ↓zq_smr, iI_add, iI_sub, iI_mul, iI_neg, iI_ab3, iI_div, z_emod, aI_rd, aI_wr, aR0, aW0, aR1, aW1, aR2, aW2, aR3, aW3, aR4, aW4, iI_inT, iI_lt, iI_le, iI_eq, lt_t, lt_f, le_t, le_f, eq_t, eq_f, bz_z, bz_o, bz_zo, bzT, bzF, n_em, zu_s, zu_n, not_true_eq_false, not_false_eq_true, and_self, true_and, and_true, false_and, and_false, true_or, or_true, false_or, or_false, or_self, Int.add_sub_cancel, n_0, n_1, n_2, n_3, n_4, n_5, n_6, n_7, n_8, n_9, n_10, n_11, n_12, n_13, n_14, n_15, n_16, n_17, n_18, n_19, n_20, n_21, n_22, n_23, n_24, n_25, n_26, n_27, n_28, n_29, n_30, n_31, n_32, n_33, n_34, n_35, n_36, n_37, n_40, n_44, n_48, n_50, n_57, n_58, n_60, n_65, n_66, n_67, n_68, n_69, n_70, n_71, n_73, n_77, n_80, n_83, n_97, n_98, n_99, n_100, n_101, n_102, n_103, n_104, n_105, n_106, n_107, n_108, n_109, n_110, n_111, n_112, n_113, n_114, n_115, n_116, n_117, n_118, n_120, n_121, n_122, n_180, n_255, n_539, n_600, n_616, n_1200, n_2000, n_3600, n_8400, n_65536]
  rw [E, F]
  refine ⟨_, rfl, fun j j0 j1 => ?_, fun hr => ?_⟩
  · rw [zu_n (by omega), zu_n (by omega)]
  · obtain ⟨x1, x2, x3, x4⟩ := g5 hr
    have z0 : (-1 : Int) + 1 = 0 := rfl
    rw [a4] at x2 x3 x4
    simp only [z0] at x2 x3 x4
    refine ⟨?_, ?_, Or.inr (by decide), fun h4 => by cases h4⟩
    · rw [zu_n (by omega), zu_s rfl]; rfl
    · rw [zu_s rfl]; exact x3.symm
theorem zmc_9 {t pr v : Int → Int} {n s sg c : Int} (hn : 0 ≤ n ∧ n ≤ 60) (ht : ∀ k, 0 ≤ k → k < n → 0 ≤ t k ∧ t k < 65536) (hs : 0 ≤ s ∧ s ≤ n) (hc : 0 ≤ c ∧ c ≤ 50) (h0 : zh t n s = 99) (h2 : ¬ (zh t n (s + 1) = 108 ∧ zh t n (s + 1 + 1) = 101)) : zPC (zr t n (fm 9) (true, (s, -1, sg, v))) 9 pr c (f_X11_parsesCommand (aI t) (iI n) (iI s) (iI 0) (aI pr) (iI (3 * c))) := by
  have u : s < n := by
    by_cases x : s < n
    · exact x
    · rw [show zh t n s = -1 from if_neg x] at h0; omega
  have hh := zm_here (t := t) (n := n) (p := s) (by omega) (by omega)
  rw [h0] at hh
  have hh1 := zm_here (t := t) (n := n) (p := s + 1) (by omega) (by omega)
  have hz1 := zh_rng (n := n) ht (p := s + 1) (by omega)
  obtain ⟨r0, e0⟩ : ∃ r0 : Bool × z_Q, r0 = (true, (s + 1, -1, sg, v)) := ⟨_, rfl⟩
  have a0 : r0.2.2 = (-1, sg, v) := by rw [e0]
  have p0 : r0.2.1 = s + 1 := by rw [e0]
  have w0 : wz r0 = 0 := by rw [e0]; rfl
  have b0 : (0 ≤ r0.2.1 ∧ r0.2.1 ≤ n) ∧ n ≤ 60 := by omega
  obtain ⟨r1, d1, m1, b1, a1⟩ := zm_step (r := r0) 108 b0 ht (by omega)
  rw [a0] at a1
  obtain ⟨r2, d2, m2, b2, a2⟩ := zm_step (r := r1) 105 b1 ht (by omega)
  rw [a1] at a2
  obtain ⟨r3, d3, m3, b3, a3⟩ := zm_step (r := r2) 102 b2 ht (by omega)
  rw [a2] at a3
  obtain ⟨r4, d4, m4, b4, a4⟩ := zm_step (r := r3) 102 b3 ht (by omega)
  rw [a3] at a4
  obtain ⟨r5, l5, d5, m5, b5, g5⟩ := zm_st1 (r := r4) b4 ht (fun _ => by rw [a4]; show -1 ≤ (-1 : Int) ∧ (-1 : Int) ≤ 0; omega)
  obtain ⟨r6, l6, d6, m6, b6, g6⟩ := zm_sts (r := r5) b5 ht (fun hx => by obtain ⟨y1, y2, y3⟩ := g5 hx; rw [a4] at y2; simp only at y2; omega)
  rw [p0, w0] at m1
  have hh2 := zm_here (t := t) (n := n) (p := r1.2.1) (by omega) (by omega)
  have hz2 := zh_rng (n := n) ht (p := r1.2.1) (by omega)
  have k1 : r1 = if zh t n (s + 1) = 108 then (true, (s + 1 + 1, -1, sg, v)) else (false, (s + 1, -1, sg, v)) := by
    rw [d1, e0, zr_t, zs_let (by omega), zr_nil]
  have hP0 : q_in (iI (3 * c)) 180 := iI_in (by omega)
  have hP1 : q_in (iI (3 * c + 1)) 180 := iI_in (by omega)
  have hP2 : q_in (iI (3 * c + 2)) 180 := iI_in (by omega)
  have E : zr t n (fm 9) (true, (s, -1, sg, v)) = r6 := by
    rw [show fm 9 = 99 :: [108, 105, 102, 102, 32, 35, 83, 35, 63] from rfl, zr_t, zs_let (by omega), if_pos h0, ← e0]
    rw [show ([108, 105, 102, 102, 32, 35, 83, 35, 63] : List Int) = [108] ++ ([105] ++ ([102] ++ ([102] ++ ([32, 35] ++ ([83, 35, 63]))))) from rfl, zr_app, ← d1, zr_app, ← d2, zr_app, ← d3, zr_app, ← d4, zr_app, ← d5, ← d6]
  have F : f_X11_parsesCommand (aI t) (iI n) (iI s) (iI 0) (aI pr) (iI (3 * c)) = some (iI r6.2.1, iI (wz r6), aI (zu (zu (zu (zu pr (3 * c) 99) (3 * c) 105) (3 * c + 1) l5) (3 * c + 2) l6)) := by
    unfold f_X11_parsesCommand f_X11_parsesC
    simp only [iI_add, iI_sub, n_0, n_1, n_2, n_4, n_32, n_77, n_97, n_98, n_99, n_100, n_101, n_102, n_103, n_104, n_105, n_106, n_107, n_108, n_109, n_110, n_111, n_112, n_113, n_114, n_115, n_116, n_117, n_118, n_121, n_122]
    by_cases c1 : zh t n (s + 1) = 108
    · rw [if_pos c1] at k1
      have c2 : zh t n (s + 1 + 1) ≠ 101 := fun x => h2 ⟨c1, x⟩
      rw [show r1.2.1 = s + 1 + 1 by rw [k1]] at hh2 hz2
      have w1 : wz r1 = 0 := by rw [k1]; rfl
      rw [w1, show r1.2.1 = s + 1 + 1 by rw [k1]] at m1 m2
      refine q_bdE hh ?_
      refine q_gdE hP0 ?_
      refine q_ltE ?_
      refine q_ltE ?_
      refine q_brF (by decide) ?_
      refine q_brT rfl ?_
      refine q_bdE3 ?_
      refine q_bdE m1 ?_
      refine q_ltE ?_
      refine q_brT rfl ?_
      refine q_bdE hh2 ?_
      refine q_brF (by rw [iI_eq (by omega)]; exact c2) ?_
      refine q_gdE hP0 ?_
      refine q_ltE ?_
      refine q_bdE (zm_three m2 m3 m4) ?_
      refine q_bdE m5 ?_
      refine q_gdE hP1 ?_
      refine q_ltE ?_
      refine q_bdE m6 ?_
      refine q_gdE hP2 ?_
      refine q_ltE ?_
      simp (disch := omega) only [↓q_brd, ↓q_gdd, ↓q_lts, ↓reduceIte, ↓q_bds, ↓zq_smi, ↓zq_smr, iI_add, iI_sub, iI_mul, iI_neg, iI_ab3, iI_div, z_emod, aI_rd, aI_wr, aR0, aW0, aR1, aW1, aR2, aW2, aR3, aW3, aR4, aW4, iI_inT, iI_lt, iI_le, iI_eq, lt_t, lt_f, le_t, le_f, eq_t, eq_f, bz_z, bz_o, bz_zo, bzT, bzF, n_em, zu_s, zu_n, not_true_eq_false, not_false_eq_true, and_self, true_and, and_true, false_and, and_false, true_or, or_true, false_or, or_false, or_self, Int.add_sub_cancel, n_0, n_1, n_2, n_3, n_4, n_5, n_6, n_7, n_8, n_9, n_10, n_11, n_12, n_13, n_14, n_15, n_16, n_17, n_18, n_19, n_20, n_21, n_22, n_23, n_24, n_25, n_26, n_27, n_28, n_29, n_30, n_31, n_32, n_33, n_34, n_35, n_36, n_37, n_40, n_44, n_48, n_50, n_57, n_58, n_60, n_65, n_66, n_67, n_68, n_69, n_70, n_71, n_73, n_77, n_80, n_83, n_97, n_98, n_99, n_100, n_101, n_102, n_103, n_104, n_105, n_106, n_107, n_108, n_109, n_110, n_111, n_112, n_113, n_114, n_115, n_116, n_117, n_118, n_120, n_121, n_122, n_180, n_255, n_539, n_600, n_616, n_1200, n_2000, n_3600, n_8400, n_65536]
    · rw [if_neg c1] at k1
      have w1 : wz r1 = 1 := by rw [k1]; rfl
      rw [w1] at m1 m2
      refine q_bdE hh ?_
      refine q_gdE hP0 ?_
      refine q_ltE ?_
      refine q_ltE ?_
      refine q_brF (by decide) ?_
      refine q_brT rfl ?_
      refine q_bdE3 ?_
      refine q_bdE m1 ?_
      refine q_ltE ?_
      refine q_brF (show ¬ iI 1 = iI 0 by decide) ?_
      refine q_gdE hP0 ?_
      refine q_ltE ?_
      refine q_bdE (zm_three m2 m3 m4) ?_
      refine q_bdE m5 ?_
      refine q_gdE hP1 ?_
      refine q_ltE ?_
      refine q_bdE m6 ?_
      refine q_gdE hP2 ?_
      refine q_ltE ?_
      simp (disch := omega) only [↓q_brd, ↓q_gdd, ↓q_lts, ↓reduceIte, ↓q_bds, ↓zq_smi, ↓zq_smr, iI_add, iI_sub, iI_mul, iI_neg, iI_ab3, iI_div, z_emod, aI_rd, aI_wr, aR0, aW0, aR1, aW1, aR2, aW2, aR3, aW3, aR4, aW4, iI_inT, iI_lt, iI_le, iI_eq, lt_t, lt_f, le_t, le_f, eq_t, eq_f, bz_z, bz_o, bz_zo, bzT, bzF, n_em, zu_s, zu_n, not_true_eq_false, not_false_eq_true, and_self, true_and, and_true, false_and, and_false, true_or, or_true, false_or, or_false, or_self, Int.add_sub_cancel, n_0, n_1, n_2, n_3, n_4, n_5, n_6, n_7, n_8, n_9, n_10, n_11, n_12, n_13, n_14, n_15, n_16, n_17, n_18, n_19, n_20, n_21, n_22, n_23, n_24, n_25, n_26, n_27, n_28, n_29, n_30, n_31, n_32, n_33, n_34, n_35, n_36, n_37, n_40, n_44, n_48, n_50, n_57, n_58, n_60, n_65, n_66, n_67, n_68, n_69, n_70, n_71, n_73, n_77, n_80, n_83, n_97, n_98, n_99, n_100, n_101, n_102, n_103, n_104, n_105, n_106, n_107, n_108, n_109, n_110, n_111, n_112, n_113, n_114, n_115, n_116, n_117, n_118, n_120, n_121, n_122, n_180, n_255, n_539, n_600, n_616, n_1200, n_2000, n_3600, n_8400, n_65536]
  rw [E, F]
  refine ⟨_, rfl, fun j j0 j1 => ?_, fun hr => ?_⟩
  · rw [zu_n (by omega), zu_n (by omega), zu_n (by omega), zu_n (by omega)]
  · obtain ⟨y1, y2, y3, y4⟩ := g6 hr
    obtain ⟨x1, x2, x3, x4⟩ := g5 y1
    have z0 : (-1 : Int) + 1 = 0 := rfl
    rw [a4] at x2 x3 x4
    simp only [z0] at x2 x3 x4
    have z1 : (0 : Int) + 1 = 1 := rfl
    rw [x2] at y2 y3 y4
    simp only [z1] at y2 y3 y4
    refine ⟨?_, ?_, Or.inl ?_, fun h4 => by cases h4⟩
    · rw [zu_n (by omega), zu_n (by omega), zu_s rfl]; rfl
    · rw [zu_n (by omega), zu_s rfl, y4 0 (by decide)]; exact x3.symm
    · rw [zu_s rfl]; exact y3.symm
theorem zmc_no {t pr : Int → Int} {n s c : Int} (hn : 0 ≤ n ∧ n ≤ 60) (ht : ∀ k, 0 ≤ k → k < n → 0 ≤ t k ∧ t k < 65536) (hs : 0 ≤ s ∧ s ≤ n) (hc : 0 ≤ c ∧ c ≤ 50) (h0 : ∀ k : Fin 12, zh t n s ≠ (fm k.val).headD 0) : f_X11_parsesCommand (aI t) (iI n) (iI s) (iI 0) (aI pr) (iI (3 * c)) = some (iI s, iI 1, aI (zu pr (3 * c) (zh t n s))) := by
  have hh := zm_here (t := t) (n := n) (p := s) (by omega) (by omega)
  have hz := zh_rng (n := n) ht (p := s) (by omega)
  have x0 : zh t n s ≠ 98 := h0 0
  have x1 : zh t n s ≠ 114 := h0 1
  have x2 : zh t n s ≠ 116 := h0 2
  have x3 : zh t n s ≠ 109 := h0 3
  have x4 : zh t n s ≠ 107 := h0 4
  have x7 : zh t n s ≠ 99 := h0 7
  have x8 : zh t n s ≠ 101 := h0 8
  have x10 : zh t n s ≠ 102 := h0 10
  have x11 : zh t n s ≠ 103 := h0 11
  generalize zh t n s = x at *
  have hP0 : q_in (iI (3 * c)) 180 := iI_in (by omega)
  have hP1 : q_in (iI (3 * c + 1)) 180 := iI_in (by omega)
  have hP2 : q_in (iI (3 * c + 2)) 180 := iI_in (by omega)
  unfold f_X11_parsesCommand
  simp only [iI_add, iI_sub, n_0, n_1, n_2, n_4, n_32, n_77, n_97, n_98, n_99, n_100, n_101, n_102, n_103, n_104, n_105, n_106, n_107, n_108, n_109, n_110, n_111, n_112, n_113, n_114, n_115, n_116, n_117, n_118, n_121, n_122]
  refine q_bdE hh ?_
  refine q_gdE hP0 ?_
  refine q_ltE ?_
  refine q_ltE ?_
  refine q_brF (by rw [iI_eq (by omega)]; omega) ?_
  refine q_brF (by rw [iI_eq (by omega)]; omega) ?_
  refine q_brA ?_ ?_
  · simp (disch := omega) only [↓q_brd, ↓q_gdd, ↓q_lts, ↓reduceIte, ↓q_bds, ↓zq_smi, ↓zq_smr, iI_add, iI_sub, iI_mul, iI_neg, iI_ab3, iI_div, z_emod, aI_rd, aI_wr, aR0, aW0, aR1, aW1, aR2, aW2, aR3, aW3, aR4, aW4, iI_inT, iI_lt, iI_le, iI_eq, lt_t, lt_f, le_t, le_f, eq_t, eq_f, bz_z, bz_o, bz_zo, bzT, bzF, n_em, zu_s, zu_n, not_true_eq_false, not_false_eq_true, and_self, true_and, and_true, false_and, and_false, true_or, or_true, false_or, or_false, or_self, Int.add_sub_cancel, n_0, n_1, n_2, n_3, n_4, n_5, n_6, n_7, n_8, n_9, n_10, n_11, n_12, n_13, n_14, n_15, n_16, n_17, n_18, n_19, n_20, n_21, n_22, n_23, n_24, n_25, n_26, n_27, n_28, n_29, n_30, n_31, n_32, n_33, n_34, n_35, n_36, n_37, n_40, n_44, n_48, n_50, n_57, n_58, n_60, n_65, n_66, n_67, n_68, n_69, n_70, n_71, n_73, n_77, n_80, n_83, n_97, n_98, n_99, n_100, n_101, n_102, n_103, n_104, n_105, n_106, n_107, n_108, n_109, n_110, n_111, n_112, n_113, n_114, n_115, n_116, n_117, n_118, n_120, n_121, n_122, n_180, n_255, n_539, n_600, n_616, n_1200, n_2000, n_3600, n_8400, n_65536]
  refine q_brF (by rw [iI_eq (by omega)]; omega) ?_
  refine q_brF (by rw [iI_eq (by omega)]; omega) ?_
  refine q_brF (by rw [iI_eq (by omega)]; omega) ?_
  refine q_brA ?_ ?_
  · simp (disch := omega) only [↓q_brd, ↓q_gdd, ↓q_lts, ↓reduceIte, ↓q_bds, ↓zq_smi, ↓zq_smr, iI_add, iI_sub, iI_mul, iI_neg, iI_ab3, iI_div, z_emod, aI_rd, aI_wr, aR0, aW0, aR1, aW1, aR2, aW2, aR3, aW3, aR4, aW4, iI_inT, iI_lt, iI_le, iI_eq, lt_t, lt_f, le_t, le_f, eq_t, eq_f, bz_z, bz_o, bz_zo, bzT, bzF, n_em, zu_s, zu_n, not_true_eq_false, not_false_eq_true, and_self, true_and, and_true, false_and, and_false, true_or, or_true, false_or, or_false, or_self, Int.add_sub_cancel, n_0, n_1, n_2, n_3, n_4, n_5, n_6, n_7, n_8, n_9, n_10, n_11, n_12, n_13, n_14, n_15, n_16, n_17, n_18, n_19, n_20, n_21, n_22, n_23, n_24, n_25, n_26, n_27, n_28, n_29, n_30, n_31, n_32, n_33, n_34, n_35, n_36, n_37, n_40, n_44, n_48, n_50, n_57, n_58, n_60, n_65, n_66, n_67, n_68, n_69, n_70, n_71, n_73, n_77, n_80, n_83, n_97, n_98, n_99, n_100, n_101, n_102, n_103, n_104, n_105, n_106, n_107, n_108, n_109, n_110, n_111, n_112, n_113, n_114, n_115, n_116, n_117, n_118, n_120, n_121, n_122, n_180, n_255, n_539, n_600, n_616, n_1200, n_2000, n_3600, n_8400, n_65536]
  refine q_brA ?_ ?_
  · simp (disch := omega) only [↓q_brd, ↓q_gdd, ↓q_lts, ↓reduceIte, ↓q_bds, ↓zq_smi, ↓zq_smr, iI_add, iI_sub, iI_mul, iI_neg, iI_ab3, iI_div, z_emod, aI_rd, aI_wr, aR0, aW0, aR1, aW1, aR2, aW2, aR3, aW3, aR4, aW4, iI_inT, iI_lt, iI_le, iI_eq, lt_t, lt_f, le_t, le_f, eq_t, eq_f, bz_z, bz_o, bz_zo, bzT, bzF, n_em, zu_s, zu_n, not_true_eq_false, not_false_eq_true, and_self, true_and, and_true, false_and, and_false, true_or, or_true, false_or, or_false, or_self, Int.add_sub_cancel, n_0, n_1, n_2, n_3, n_4, n_5, n_6, n_7, n_8, n_9, n_10, n_11, n_12, n_13, n_14, n_15, n_16, n_17, n_18, n_19, n_20, n_21, n_22, n_23, n_24, n_25, n_26, n_27, n_28, n_29, n_30, n_31, n_32, n_33, n_34, n_35, n_36, n_37, n_40, n_44, n_48, n_50, n_57, n_58, n_60, n_65, n_66, n_67, n_68, n_69, n_70, n_71, n_73, n_77, n_80, n_83, n_97, n_98, n_99, n_100, n_101, n_102, n_103, n_104, n_105, n_106, n_107, n_108, n_109, n_110, n_111, n_112, n_113, n_114, n_115, n_116, n_117, n_118, n_120, n_121, n_122, n_180, n_255, n_539, n_600, n_616, n_1200, n_2000, n_3600, n_8400, n_65536]
  refine q_brA ?_ ?_
  · simp (disch := omega) only [↓q_brd, ↓q_gdd, ↓q_lts, ↓reduceIte, ↓q_bds, ↓zq_smi, ↓zq_smr, iI_add, iI_sub, iI_mul, iI_neg, iI_ab3, iI_div, z_emod, aI_rd, aI_wr, aR0, aW0, aR1, aW1, aR2, aW2, aR3, aW3, aR4, aW4, iI_inT, iI_lt, iI_le, iI_eq, lt_t, lt_f, le_t, le_f, eq_t, eq_f, bz_z, bz_o, bz_zo, bzT, bzF, n_em, zu_s, zu_n, not_true_eq_false, not_false_eq_true, and_self, true_and, and_true, false_and, and_false, true_or, or_true, false_or, or_false, or_self, Int.add_sub_cancel, n_0, n_1, n_2, n_3, n_4, n_5, n_6, n_7, n_8, n_9, n_10, n_11, n_12, n_13, n_14, n_15, n_16, n_17, n_18, n_19, n_20, n_21, n_22, n_23, n_24, n_25, n_26, n_27, n_28, n_29, n_30, n_31, n_32, n_33, n_34, n_35, n_36, n_37, n_40, n_44, n_48, n_50, n_57, n_58, n_60, n_65, n_66, n_67, n_68, n_69, n_70, n_71, n_73, n_77, n_80, n_83, n_97, n_98, n_99, n_100, n_101, n_102, n_103, n_104, n_105, n_106, n_107, n_108, n_109, n_110, n_111, n_112, n_113, n_114, n_115, n_116, n_117, n_118, n_120, n_121, n_122, n_180, n_255, n_539, n_600, n_616, n_1200, n_2000, n_3600, n_8400, n_65536]
  refine q_brF (by rw [iI_eq (by omega)]; omega) ?_
  refine q_brA ?_ ?_
  · simp (disch := omega) only [↓q_brd, ↓q_gdd, ↓q_lts, ↓reduceIte, ↓q_bds, ↓zq_smi, ↓zq_smr, iI_add, iI_sub, iI_mul, iI_neg, iI_ab3, iI_div, z_emod, aI_rd, aI_wr, aR0, aW0, aR1, aW1, aR2, aW2, aR3, aW3, aR4, aW4, iI_inT, iI_lt, iI_le, iI_eq, lt_t, lt_f, le_t, le_f, eq_t, eq_f, bz_z, bz_o, bz_zo, bzT, bzF, n_em, zu_s, zu_n, not_true_eq_false, not_false_eq_true, and_self, true_and, and_true, false_and, and_false, true_or, or_true, false_or, or_false, or_self, Int.add_sub_cancel, n_0, n_1, n_2, n_3, n_4, n_5, n_6, n_7, n_8, n_9, n_10, n_11, n_12, n_13, n_14, n_15, n_16, n_17, n_18, n_19, n_20, n_21, n_22, n_23, n_24, n_25, n_26, n_27, n_28, n_29, n_30, n_31, n_32, n_33, n_34, n_35, n_36, n_37, n_40, n_44, n_48, n_50, n_57, n_58, n_60, n_65, n_66, n_67, n_68, n_69, n_70, n_71, n_73, n_77, n_80, n_83, n_97, n_98, n_99, n_100, n_101, n_102, n_103, n_104, n_105, n_106, n_107, n_108, n_109, n_110, n_111, n_112, n_113, n_114, n_115, n_116, n_117, n_118, n_120, n_121, n_122, n_180, n_255, n_539, n_600, n_616, n_1200, n_2000, n_3600, n_8400, n_65536]
  refine q_brF (by rw [iI_eq (by omega)]; omega) ?_
  refine q_brA ?_ ?_
  · simp (disch := omega) only [↓q_brd, ↓q_gdd, ↓q_lts, ↓reduceIte, ↓q_bds, ↓zq_smi, ↓zq_smr, iI_add, iI_sub, iI_mul, iI_neg, iI_ab3, iI_div, z_emod, aI_rd, aI_wr, aR0, aW0, aR1, aW1, aR2, aW2, aR3, aW3, aR4, aW4, iI_inT, iI_lt, iI_le, iI_eq, lt_t, lt_f, le_t, le_f, eq_t, eq_f, bz_z, bz_o, bz_zo, bzT, bzF, n_em, zu_s, zu_n, not_true_eq_false, not_false_eq_true, and_self, true_and, and_true, false_and, and_false, true_or, or_true, false_or, or_false, or_self, Int.add_sub_cancel, n_0, n_1, n_2, n_3, n_4, n_5, n_6, n_7, n_8, n_9, n_10, n_11, n_12, n_13, n_14, n_15, n_16, n_17, n_18, n_19, n_20, n_21, n_22, n_23, n_24, n_25, n_26, n_27, n_28, n_29, n_30, n_31, n_32, n_33, n_34, n_35, n_36, n_37, n_40, n_44, n_48, n_50, n_57, n_58, n_60, n_65, n_66, n_67, n_68, n_69, n_70, n_71, n_73, n_77, n_80, n_83, n_97, n_98, n_99, n_100, n_101, n_102, n_103, n_104, n_105, n_106, n_107, n_108, n_109, n_110, n_111, n_112, n_113, n_114, n_115, n_116, n_117, n_118, n_120, n_121, n_122, n_180, n_255, n_539, n_600, n_616, n_1200, n_2000, n_3600, n_8400, n_65536]
  refine q_brA ?_ ?_
  · simp (disch := omega) only [↓q_brd, ↓q_gdd, ↓q_lts, ↓reduceIte, ↓q_bds, ↓zq_smi, ↓zq_smr, iI_add, iI_sub, iI_mul, iI_neg, iI_ab3, iI_div, z_emod, aI_rd, aI_wr, aR0, aW0, aR1, aW1, aR2, aW2, aR3, aW3, aR4, aW4, iI_inT, iI_lt, iI_le, iI_eq, lt_t, lt_f, le_t, le_f, eq_t, eq_f, bz_z, bz_o, bz_zo, bzT, bzF, n_em, zu_s, zu_n, not_true_eq_false, not_false_eq_true, and_self, true_and, and_true, false_and, and_false, true_or, or_true, false_or, or_false, or_self, Int.add_sub_cancel, n_0, n_1, n_2, n_3, n_4, n_5, n_6, n_7, n_8, n_9, n_10, n_11, n_12, n_13, n_14, n_15, n_16, n_17, n_18, n_19, n_20, n_21, n_22, n_23, n_24, n_25, n_26, n_27, n_28, n_29, n_30, n_31, n_32, n_33, n_34, n_35, n_36, n_37, n_40, n_44, n_48, n_50, n_57, n_58, n_60, n_65, n_66, n_67, n_68, n_69, n_70, n_71, n_73, n_77, n_80, n_83, n_97, n_98, n_99, n_100, n_101, n_102, n_103, n_104, n_105, n_106, n_107, n_108, n_109, n_110, n_111, n_112, n_113, n_114, n_115, n_116, n_117, n_118, n_120, n_121, n_122, n_180, n_255, n_539, n_600, n_616, n_1200, n_2000, n_3600, n_8400, n_65536]
  refine q_brA ?_ ?_
  · simp (disch := omega) only [↓q_brd, ↓q_gdd, ↓q_lts, ↓reduceIte, ↓q_bds, ↓zq_smi, ↓zq_smr, iI_add, iI_sub, iI_mul, iI_neg, iI_ab3, iI_div, z_emod, aI_rd, aI_wr, aR0, aW0, aR1, aW1, aR2, aW2, aR3, aW3, aR4, aW4, iI_inT, iI_lt, iI_le, iI_eq, lt_t, lt_f, le_t, le_f, eq_t, eq_f, bz_z, bz_o, bz_zo, bzT, bzF, n_em, zu_s, zu_n, not_true_eq_false, not_false_eq_true, and_self, true_and, and_true, false_and, and_false, true_or, or_true, false_or, or_false, or_self, Int.add_sub_cancel, n_0, n_1, n_2, n_3, n_4, n_5, n_6, n_7, n_8, n_9, n_10, n_11, n_12, n_13, n_14, n_15, n_16, n_17, n_18, n_19, n_20, n_21, n_22, n_23, n_24, n_25, n_26, n_27, n_28, n_29, n_30, n_31, n_32, n_33, n_34, n_35, n_36, n_37, n_40, n_44, n_48, n_50, n_57, n_58, n_60, n_65, n_66, n_67, n_68, n_69, n_70, n_71, n_73, n_77, n_80, n_83, n_97, n_98, n_99, n_100, n_101, n_102, n_103, n_104, n_105, n_106, n_107, n_108, n_109, n_110, n_111, n_112, n_113, n_114, n_115, n_116, n_117, n_118, n_120, n_121, n_122, n_180, n_255, n_539, n_600, n_616, n_1200, n_2000, n_3600, n_8400, n_65536]
  refine q_brA ?_ ?_
  · simp (disch := omega) only [↓q_brd, ↓q_gdd, ↓q_lts, ↓reduceIte, ↓q_bds, ↓zq_smi, ↓zq_smr, iI_add, iI_sub, iI_mul, iI_neg, iI_ab3, iI_div, z_emod, aI_rd, aI_wr, aR0, aW0, aR1, aW1, aR2, aW2, aR3, aW3, aR4, aW4, iI_inT, iI_lt, iI_le, iI_eq, lt_t, lt_f, le_t, le_f, eq_t, eq_f, bz_z, bz_o, bz_zo, bzT, bzF, n_em, zu_s, zu_n, not_true_eq_false, not_false_eq_true, and_self, true_and, and_true, false_and, and_false, true_or, or_true, false_or, or_false, or_self, Int.add_sub_cancel, n_0, n_1, n_2, n_3, n_4, n_5, n_6, n_7, n_8, n_9, n_10, n_11, n_12, n_13, n_14, n_15, n_16, n_17, n_18, n_19, n_20, n_21, n_22, n_23, n_24, n_25, n_26, n_27, n_28, n_29, n_30, n_31, n_32, n_33, n_34, n_35, n_36, n_37, n_40, n_44, n_48, n_50, n_57, n_58, n_60, n_65, n_66, n_67, n_68, n_69, n_70, n_71, n_73, n_77, n_80, n_83, n_97, n_98, n_99, n_100, n_101, n_102, n_103, n_104, n_105, n_106, n_107, n_108, n_109, n_110, n_111, n_112, n_113, n_114, n_115, n_116, n_117, n_118, n_120, n_121, n_122, n_180, n_255, n_539, n_600, n_616, n_1200, n_2000, n_3600, n_8400, n_65536]
  refine q_brF (by rw [iI_eq (by omega)]; omega) ?_
  refine q_brA ?_ ?_
  · simp (disch := omega) only [↓q_brd, ↓q_gdd, ↓q_lts, ↓reduceIte, ↓q_bds, ↓zq_smi, ↓zq_smr, iI_add, iI_sub, iI_mul, iI_neg, iI_ab3, iI_div, z_emod, aI_rd, aI_wr, aR0, aW0, aR1, aW1, aR2, aW2, aR3, aW3, aR4, aW4, iI_inT, iI_lt, iI_le, iI_eq, lt_t, lt_f, le_t, le_f, eq_t, eq_f, bz_z, bz_o, bz_zo, bzT, bzF, n_em, zu_s, zu_n, not_true_eq_false, not_false_eq_true, and_self, true_and, and_true, false_and, and_false, true_or, or_true, false_or, or_false, or_self, Int.add_sub_cancel, n_0, n_1, n_2, n_3, n_4, n_5, n_6, n_7, n_8, n_9, n_10, n_11, n_12, n_13, n_14, n_15, n_16, n_17, n_18, n_19, n_20, n_21, n_22, n_23, n_24, n_25, n_26, n_27, n_28, n_29, n_30, n_31, n_32, n_33, n_34, n_35, n_36, n_37, n_40, n_44, n_48, n_50, n_57, n_58, n_60, n_65, n_66, n_67, n_68, n_69, n_70, n_71, n_73, n_77, n_80, n_83, n_97, n_98, n_99, n_100, n_101, n_102, n_103, n_104, n_105, n_106, n_107, n_108, n_109, n_110, n_111, n_112, n_113, n_114, n_115, n_116, n_117, n_118, n_120, n_121, n_122, n_180, n_255, n_539, n_600, n_616, n_1200, n_2000, n_3600, n_8400, n_65536]
  refine q_brF (by rw [iI_eq (by omega)]; omega) ?_
  simp (disch := omega) only [↓q_brd, ↓q_gdd, ↓q_lts, ↓reduceIte, ↓q_bds, ↓zq_smi, ↓zq_smr, iI_add, iI_sub, iI_mul, iI_neg, iI_ab3, iI_div, z_emod, aI_rd, aI_wr, aR0, aW0, aR1, aW1, aR2, aW2, aR3, aW3, aR4, aW4, iI_inT, iI_lt, iI_le, iI_eq, lt_t, lt_f, le_t, le_f, eq_t, eq_f, bz_z, bz_o, bz_zo, bzT, bzF, n_em, zu_s, zu_n, not_true_eq_false, not_false_eq_true, and_self, true_and, and_true, false_and, and_false, true_or, or_true, false_or, or_false, or_self, Int.add_sub_cancel, n_0, n_1, n_2, n_3, n_4, n_5, n_6, n_7, n_8, n_9, n_10, n_11, n_12, n_13, n_14, n_15, n_16, n_17, n_18, n_19, n_20, n_21, n_22, n_23, n_24, n_25, n_26, n_27, n_28, n_29, n_30, n_31, n_32, n_33, n_34, n_35, n_36, n_37, n_40, n_44, n_48, n_50, n_57, n_58, n_60, n_65, n_66, n_67, n_68, n_69, n_70, n_71, n_73, n_77, n_80, n_83, n_97, n_98, n_99, n_100, n_101, n_102, n_103, n_104, n_105, n_106, n_107, n_108, n_109, n_110, n_111, n_112, n_113, n_114, n_115, n_116, n_117, n_118, n_120, n_121, n_122, n_180, n_255, n_539, n_600, n_616, n_1200, n_2000, n_3600, n_8400, n_65536]
