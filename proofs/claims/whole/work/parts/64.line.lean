theorem n_43 : (43 : Int32) = iI 43 := Eq.trans rfl rfl
theorem n_45 : (45 : Int32) = iI 45 := Eq.trans rfl rfl
theorem zl_b8 {c : Int} (h : -128 ≤ c ∧ c ≤ 127) : (iI c).toInt8.toInt32 = iI c := by
  rw [← Int32.toInt_inj, Int8.toInt_toInt32, Int32.toInt_toInt8, iI_to (by omega)]
  exact Int.bmod_eq_of_le (by omega) (by omega)
theorem zl_byte {c : Int} (h : -128 ≤ c ∧ c ≤ 127) : vp_nar .byte (iI c) = iI c := zl_b8 h
theorem zl_ch {c : Int} (h : 0 ≤ c ∧ c < 65536) : ((iI c).toUInt32 % 65536).toInt32 = iI c := by
  have e : iI c = nI c.toNat := by rw [iI_nI]; exact congrArg iI (by omega)
  rw [e]
  generalize hn : c.toNat = n
  have hn2 : n < 65536 := by omega
  apply Int32.toBitVec_inj.1
  apply BitVec.eq_of_toNat_eq
  have e1 : (nI n).toBitVec.toNat = n := by
    show (BitVec.ofNat 32 n).toNat = n
    rw [BitVec.toNat_ofNat, Nat.mod_eq_of_lt (by omega)]
  rw [e1]
  show ((nI n).toUInt32 % 65536).toNat = n
  rw [UInt32.toNat_mod]
  show (nI n).toBitVec.toNat % 65536 = n
  rw [e1, Nat.mod_eq_of_lt hn2]
theorem zl_and0 : ∀ d : Fin 128, (((iI (d.val : Int)) &&& iI 255).toUInt32 % 65536).toInt32 = iI (d.val : Int) := by decide +kernel
theorem zl_and {c : Int} (h : 0 ≤ c ∧ c < 128) : (((iI c) &&& iI 255).toUInt32 % 65536).toInt32 = iI c := by
  have := zl_and0 ⟨c.toNat, by omega⟩
  rw [show (((⟨c.toNat, by omega⟩ : Fin 128).val : Nat) : Int) = c from by show ((c.toNat : Nat) : Int) = c; omega] at this
  exact this
theorem zl_ones0 : ∀ d : Fin 100, tb_ones.getD d.val (iI 0) = iI (48 + (d.val : Int) % 10) := by decide +kernel
theorem zl_ones {c : Int} (h : 0 ≤ c ∧ c < 100) : tb_ones.getD (iI c).toNatClampNeg (iI 0) = iI (48 + c % 10) := by
  have := zl_ones0 ⟨c.toNat, by omega⟩
  rw [iI_cl (by omega), this]
  show iI (48 + ((c.toNat : Nat) : Int) % 10) = _
  rw [Int.toNat_of_nonneg h.1]
theorem zl_tens0 : ∀ d : Fin 100, tb_tens.getD d.val (iI 0) = iI (48 + (d.val : Int) / 10) := by decide +kernel
theorem zl_tens {c : Int} (h : 0 ≤ c ∧ c < 100) : tb_tens.getD (iI c).toNatClampNeg (iI 0) = iI (48 + c / 10) := by
  have := zl_tens0 ⟨c.toNat, by omega⟩
  rw [iI_cl (by omega), this]
  show iI (48 + ((c.toNat : Nat) : Int) / 10) = _
  rw [Int.toNat_of_nonneg h.1]
theorem zl_ss0 : ∀ d : Fin 199, f_J6_stringSize_0f7a4 (iI ((d.val : Int) - 99)) = some (iI (if (d.val : Int) - 99 < -9 then 3 else if (d.val : Int) - 99 < 0 then 2 else if (d.val : Int) - 99 ≤ 9 then 1 else 2)) := by decide +kernel
theorem zl_ss {v : Int} (h : -99 ≤ v ∧ v ≤ 99) : f_J6_stringSize_0f7a4 (iI v) = some (iI (if v < -9 then 3 else if v < 0 then 2 else if v ≤ 9 then 1 else 2)) := by
  have := zl_ss0 ⟨(v + 99).toNat, by omega⟩
  have e : ((((⟨(v + 99).toNat, by omega⟩ : Fin 199).val : Nat) : Int) - 99) = v := by show (((v + 99).toNat : Nat) : Int) - 99 = v; omega
  rw [e] at this
  exact this
theorem zl_lat : f_J5_isLatin1_aae02 = some (iI 1) := by decide
theorem zl_nc1 : ∀ d : Fin 3, f_J5_newCapacity_0f7a4 16 (iI (17 + (d.val : Int))) = some (iI 34) := by decide +kernel
theorem zl_nc2 : ∀ d : Fin 3, f_J5_newCapacity_0f7a4 34 (iI (35 + (d.val : Int))) = some (iI 70) := by decide +kernel
theorem zl_nc {c c2 : Nat} {m : Int} (h : (c = 16 ∧ c2 = 34) ∨ (c = 34 ∧ c2 = 70)) (hm : c < m ∧ m ≤ c + 3) : f_J5_newCapacity_0f7a4 c (iI m) = some (iI c2) := by
  rcases h with ⟨h1, h2⟩ | ⟨h1, h2⟩ <;> subst h1 h2
  · have := zl_nc1 ⟨(m - 17).toNat, by omega⟩
    rw [show (17 + (((⟨(m - 17).toNat, by omega⟩ : Fin 3).val : Nat) : Int)) = m from by show 17 + (((m - 17).toNat : Nat) : Int) = m; omega] at this
    exact this
  · have := zl_nc2 ⟨(m - 35).toNat, by omega⟩
    rw [show (35 + (((⟨(m - 35).toNat, by omega⟩ : Fin 3).val : Nat) : Int)) = m from by show 35 + (((m - 35).toNat : Nat) : Int) = m; omega] at this
    exact this
theorem zl_fit {c : Int} (h : -128 ≤ c ∧ c ≤ 127) : fits .byte (.int (iI c)) = true := by
  show (decide ((-128 : Int32) ≤ iI c) && decide (iI c ≤ (127 : Int32))) = true
  rw [show (-128 : Int32) = iI (-128) from by decide, show (127 : Int32) = iI 127 from by decide]
  rw [decide_eq_true ((iI_le (by omega)).mpr h.1), decide_eq_true ((iI_le (by omega)).mpr h.2)]
  rfl
theorem zl_copy {F : Int → Int} {c c2 : Nat} (h : (c = 16 ∧ c2 = 34) ∨ (c = 34 ∧ c2 = 70)) (hF : ∀ k : Int, 0 ≤ k → k < c → -128 ≤ F k ∧ F k ≤ 127) : f_J7_copyOf_9075b (aI F) c (iI c2) = some (c2, aI (fun t => if 0 ≤ t ∧ t < c then F t else 0)) := by
  rcases h with ⟨h1, h2⟩ | ⟨h1, h2⟩ <;> subst h1 h2
  · unfold f_J7_copyOf_9075b
    rw [show (if iI ((34 : Nat) : Int) < Int32.ofNat 16 then iI ((34 : Nat) : Int) else Int32.ofNat 16) = iI 16 from by decide, q_brd, if_neg (by decide), q_gdd, if_pos ⟨by decide, by decide, by decide, by decide, by decide, fun i hi => by
      rw [Nat.zero_add]
      exact zl_fit (hF i (by omega) (by rw [show (iI 16).toNatClampNeg = 16 from by decide] at hi; omega))⟩]
    rw [show (iI 16).toNatClampNeg = 16 from by decide, show (fun _ : Nat => (0 : Int32)) = aI (fun _ => 0) from rfl, cpy_aI]
    rfl
  · unfold f_J7_copyOf_9075b
    rw [show (if iI ((70 : Nat) : Int) < Int32.ofNat 34 then iI ((70 : Nat) : Int) else Int32.ofNat 34) = iI 34 from by decide, q_brd, if_neg (by decide), q_gdd, if_pos ⟨by decide, by decide, by decide, by decide, by decide, fun i hi => by
      rw [Nat.zero_add]
      exact zl_fit (hF i (by omega) (by rw [show (iI 34).toNatClampNeg = 34 from by decide] at hi; omega))⟩]
    rw [show (iI 34).toNatClampNeg = 34 from by decide, show (fun _ : Nat => (0 : Int32)) = aI (fun _ => 0) from rfl, cpy_aI]
    rfl
theorem zl_ens {F : Int → Int} {cap : Nat} {m : Int} (hc : cap = 16 ∨ cap = 34 ∨ cap = 70) (hm : 0 ≤ m ∧ m ≤ 70 ∧ m ≤ cap + 3) (hF : ∀ k : Int, 0 ≤ k → k < cap → -128 ≤ F k ∧ F k ≤ 127) :
    ∃ F' cap', f_J5_ensureCapacityInternal_d00df (aI F) cap (iI m) = some (aI F', cap') ∧ (cap' = 16 ∨ cap' = 34 ∨ cap' = 70) ∧ m ≤ cap' ∧ cap ≤ cap' ∧ (∀ k : Int, 0 ≤ k → k < cap → F' k = F k) ∧ ∀ k : Int, 0 ≤ k → k < cap' → -128 ≤ F' k ∧ F' k ≤ 127 := by
  have e1 : Int32.ofNat cap >>> ((0 : Int32) &&& 31) = iI cap := by
    rcases hc with h | h | h <;> subst h <;> decide
  unfold f_J5_ensureCapacityInternal_d00df
  rw [e1]
  by_cases c : m ≤ cap
  · refine ⟨F, cap, ?_, hc, c, Nat.le_refl _, fun k _ _ => rfl, hF⟩
    simp (disch := omega) only [↓q_brd, ↓q_gdd, ↓q_lts, ↓reduceIte, ↓q_bds, ↓zq_smi, ↓zq_smr, iI_add, iI_sub, iI_mul, iI_neg, iI_ab3, iI_div, z_emod, aI_rd, aI_wr, aR0, aW0, aR1, aW1, aR2, aW2, aR3, aW3, aR4, aW4, iI_inT, iI_lt, iI_le, iI_eq, lt_t, lt_f, le_t, le_f, eq_t, eq_f, bz_z, bz_o, bz_zo, bzT, bzF, n_em, zu_s, zu_n, not_true_eq_false, not_false_eq_true, and_self, true_and, and_true, false_and, and_false, true_or, or_true, false_or, or_false, or_self, Int.add_sub_cancel, n_0, n_1, n_2, n_3, n_4, n_5, n_6, n_7, n_8, n_9, n_10, n_11, n_12, n_13, n_14, n_15, n_16, n_17, n_18, n_19, n_20, n_21, n_22, n_23, n_24, n_25, n_26, n_27, n_28, n_29, n_30, n_31, n_32, n_33, n_34, n_35, n_36, n_37, n_40, n_44, n_48, n_50, n_57, n_58, n_60, n_65, n_66, n_67, n_68, n_69, n_70, n_71, n_73, n_77, n_80, n_83, n_97, n_98, n_99, n_100, n_101, n_102, n_103, n_104, n_105, n_106, n_107, n_108, n_109, n_110, n_111, n_112, n_113, n_114, n_115, n_116, n_117, n_118, n_120, n_121, n_122, n_180, n_255, n_539, n_600, n_616, n_1200, n_2000, n_3600, n_8400, n_65536]
  · obtain ⟨c2, hc2⟩ : ∃ c2 : Nat, (cap = 16 ∧ c2 = 34) ∨ (cap = 34 ∧ c2 = 70) := by
      rcases hc with h | h | h
      · exact ⟨34, Or.inl ⟨h, rfl⟩⟩
      · exact ⟨70, Or.inr ⟨h, rfl⟩⟩
      · omega
    have e2 := zl_nc hc2 (m := m) (by omega)
    have e3 := zl_copy hc2 hF
    have e4 : iI (c2 : Int) <<< ((0 : Int32) &&& 31) = iI c2 := by
      rcases hc2 with ⟨_, h⟩ | ⟨_, h⟩ <;> subst h <;> decide
    refine ⟨fun t => if 0 ≤ t ∧ t < cap then F t else 0, c2, ?_, by omega, by omega, by omega, fun k k0 k1 => if_pos ⟨k0, k1⟩, fun k k0 k1 => ?_⟩
    · simp only [q_lts]
      rw [q_brd, if_neg (by rw [iI_sub, show (0 : Int32) = iI 0 from rfl, iI_le (by omega)]; omega), e2, q_bds, e4, e3]
      rfl
    · by_cases c3 : 0 ≤ k ∧ k < cap
      · show -128 ≤ (if 0 ≤ k ∧ k < cap then F k else 0) ∧ (if 0 ≤ k ∧ k < cap then F k else 0) ≤ 127
        rw [if_pos c3]
        exact hF k c3.1 c3.2
      · show -128 ≤ (if 0 ≤ k ∧ k < cap then F k else 0) ∧ (if 0 ≤ k ∧ k < cap then F k else 0) ≤ 127
        rw [if_neg c3]
        omega
def LR (vl : Nat → Int32) (cap : Nat) (ct : Int32) (lt : Nat → Int32) (ln : Int32) (n : Int) : Prop := ∃ F M : Int → Int, vl = aI F ∧ lt = aI M ∧ ct = iI n ∧ ln = iI n ∧ (cap = 16 ∨ cap = 34 ∨ cap = 70) ∧ (0 ≤ n ∧ n ≤ cap) ∧ (∀ k, 0 ≤ k → k < n → F k = M k ∧ 32 ≤ M k ∧ M k < 127) ∧ ∀ k : Int, 0 ≤ k → k < cap → -128 ≤ F k ∧ F k ≤ 127
def ILn (l : Line_t) (lt : Nat → Int32) (ln : Int32) : Prop := ∃ n, LR l.1 l.2.1 l.2.2.2.2 lt ln n
theorem zl_set {vl : Nat → Int32} {cap : Nat} {ct : Int32} {lt : Nat → Int32} {ln : Int32} {n : Int} (h : LR vl cap ct lt ln n) (ml : Int32) : ∃ ml', f_J4_setLength_d00df vl cap ml ct 0 = some (vl, cap, ml', iI 0) ∧ ∀ lt2, LR vl cap (iI 0) lt2 (iI 0) 0 := by
  obtain ⟨F, M, h1, h2, h3, h4, h5, h6, h7, h8⟩ := h
  have e1 : Int32.ofNat cap >>> ((0 : Int32) &&& 31) = iI cap := by
    rcases h5 with h | h | h <;> subst h <;> decide
  have e2 : f_J5_ensureCapacityInternal_d00df vl cap (iI 0) = some (vl, cap) := by
    unfold f_J5_ensureCapacityInternal_d00df
    rw [e1]
    simp (disch := omega) only [↓q_brd, ↓q_gdd, ↓q_lts, ↓reduceIte, ↓q_bds, ↓zq_smi, ↓zq_smr, iI_add, iI_sub, iI_mul, iI_neg, iI_ab3, iI_div, z_emod, aI_rd, aI_wr, aR0, aW0, aR1, aW1, aR2, aW2, aR3, aW3, aR4, aW4, iI_inT, iI_lt, iI_le, iI_eq, lt_t, lt_f, le_t, le_f, eq_t, eq_f, bz_z, bz_o, bz_zo, bzT, bzF, n_em, zu_s, zu_n, not_true_eq_false, not_false_eq_true, and_self, true_and, and_true, false_and, and_false, true_or, or_true, false_or, or_false, or_self, Int.add_sub_cancel, n_0, n_1, n_2, n_3, n_4, n_5, n_6, n_7, n_8, n_9, n_10, n_11, n_12, n_13, n_14, n_15, n_16, n_17, n_18, n_19, n_20, n_21, n_22, n_23, n_24, n_25, n_26, n_27, n_28, n_29, n_30, n_31, n_32, n_33, n_34, n_35, n_36, n_37, n_40, n_44, n_48, n_50, n_57, n_58, n_60, n_65, n_66, n_67, n_68, n_69, n_70, n_71, n_73, n_77, n_80, n_83, n_97, n_98, n_99, n_100, n_101, n_102, n_103, n_104, n_105, n_106, n_107, n_108, n_109, n_110, n_111, n_112, n_113, n_114, n_115, n_116, n_117, n_118, n_120, n_121, n_122, n_180, n_255, n_539, n_600, n_616, n_1200, n_2000, n_3600, n_8400, n_65536]
  refine ⟨if n ≤ 0 then ml else iI 1, ?_, fun lt2 => ⟨F, fun t => (lt2 t.toNat).toInt, h1, aI_of lt2, rfl, rfl, h5, by omega, fun k _ _ => by omega, h8⟩⟩
  unfold f_J4_setLength_d00df f_J5_setLength_d00df
  rw [h3, show (0 : Int32) = iI 0 from rfl]
  by_cases c : n ≤ 0
  · rw [if_pos c]
    simp (disch := omega) only [↓q_brd, ↓q_gdd, ↓q_lts, ↓reduceIte, ↓q_bds, ↓zq_smi, ↓zq_smr, iI_add, iI_sub, iI_mul, iI_neg, iI_ab3, iI_div, z_emod, aI_rd, aI_wr, aR0, aW0, aR1, aW1, aR2, aW2, aR3, aW3, aR4, aW4, iI_inT, iI_lt, iI_le, iI_eq, lt_t, lt_f, le_t, le_f, eq_t, eq_f, bz_z, bz_o, bz_zo, bzT, bzF, n_em, zu_s, zu_n, not_true_eq_false, not_false_eq_true, and_self, true_and, and_true, false_and, and_false, true_or, or_true, false_or, or_false, or_self, Int.add_sub_cancel, n_0, n_1, n_2, n_3, n_4, n_5, n_6, n_7, n_8, n_9, n_10, n_11, n_12, n_13, n_14, n_15, n_16, n_17, n_18, n_19, n_20, n_21, n_22, n_23, n_24, n_25, n_26, n_27, n_28, n_29, n_30, n_31, n_32, n_33, n_34, n_35, n_36, n_37, n_40, n_44, n_48, n_50, n_57, n_58, n_60, n_65, n_66, n_67, n_68, n_69, n_70, n_71, n_73, n_77, n_80, n_83, n_97, n_98, n_99, n_100, n_101, n_102, n_103, n_104, n_105, n_106, n_107, n_108, n_109, n_110, n_111, n_112, n_113, n_114, n_115, n_116, n_117, n_118, n_120, n_121, n_122, n_180, n_255, n_539, n_600, n_616, n_1200, n_2000, n_3600, n_8400, n_65536, e2]
  · rw [if_neg c]
    simp (disch := omega) only [↓q_brd, ↓q_gdd, ↓q_lts, ↓reduceIte, ↓q_bds, ↓zq_smi, ↓zq_smr, iI_add, iI_sub, iI_mul, iI_neg, iI_ab3, iI_div, z_emod, aI_rd, aI_wr, aR0, aW0, aR1, aW1, aR2, aW2, aR3, aW3, aR4, aW4, iI_inT, iI_lt, iI_le, iI_eq, lt_t, lt_f, le_t, le_f, eq_t, eq_f, bz_z, bz_o, bz_zo, bzT, bzF, n_em, zu_s, zu_n, not_true_eq_false, not_false_eq_true, and_self, true_and, and_true, false_and, and_false, true_or, or_true, false_or, or_false, or_self, Int.add_sub_cancel, n_0, n_1, n_2, n_3, n_4, n_5, n_6, n_7, n_8, n_9, n_10, n_11, n_12, n_13, n_14, n_15, n_16, n_17, n_18, n_19, n_20, n_21, n_22, n_23, n_24, n_25, n_26, n_27, n_28, n_29, n_30, n_31, n_32, n_33, n_34, n_35, n_36, n_37, n_40, n_44, n_48, n_50, n_57, n_58, n_60, n_65, n_66, n_67, n_68, n_69, n_70, n_71, n_73, n_77, n_80, n_83, n_97, n_98, n_99, n_100, n_101, n_102, n_103, n_104, n_105, n_106, n_107, n_108, n_109, n_110, n_111, n_112, n_113, n_114, n_115, n_116, n_117, n_118, n_120, n_121, n_122, n_180, n_255, n_539, n_600, n_616, n_1200, n_2000, n_3600, n_8400, n_65536, e2]
theorem zl_w {M : Int → Int} {n c : Int} (hn : 0 ≤ n ∧ n < 80) (hc : 0 ≤ c ∧ c < 65536) : f_X11_writes (aI M) (iI n) (iI c) = some (aI (zu M n c), iI (n + 1)) := by
  have e := zl_ch hc
  unfold f_X11_writes
  rw [e, nar_c hc]
  simp (disch := omega) only [↓q_brd, ↓q_gdd, ↓q_lts, ↓reduceIte, ↓q_bds, ↓zq_smi, ↓zq_smr, iI_add, iI_sub, iI_mul, iI_neg, iI_ab3, iI_div, z_emod, aI_rd, aI_wr, aR0, aW0, aR1, aW1, aR2, aW2, aR3, aW3, aR4, aW4, iI_inT, iI_lt, iI_le, iI_eq, lt_t, lt_f, le_t, le_f, eq_t, eq_f, bz_z, bz_o, bz_zo, bzT, bzF, n_em, zu_s, zu_n, not_true_eq_false, not_false_eq_true, and_self, true_and, and_true, false_and, and_false, true_or, or_true, false_or, or_false, or_self, Int.add_sub_cancel, n_0, n_1, n_2, n_3, n_4, n_5, n_6, n_7, n_8, n_9, n_10, n_11, n_12, n_13, n_14, n_15, n_16, n_17, n_18, n_19, n_20, n_21, n_22, n_23, n_24, n_25, n_26, n_27, n_28, n_29, n_30, n_31, n_32, n_33, n_34, n_35, n_36, n_37, n_40, n_44, n_48, n_50, n_57, n_58, n_60, n_65, n_66, n_67, n_68, n_69, n_70, n_71, n_73, n_77, n_80, n_83, n_97, n_98, n_99, n_100, n_101, n_102, n_103, n_104, n_105, n_106, n_107, n_108, n_109, n_110, n_111, n_112, n_113, n_114, n_115, n_116, n_117, n_118, n_120, n_121, n_122, n_180, n_255, n_539, n_600, n_616, n_1200, n_2000, n_3600, n_8400, n_65536]
theorem zl_apc {vl : Nat → Int32} {cap : Nat} {ct : Int32} {lt : Nat → Int32} {ln : Int32} {n c : Int} (h : LR vl cap ct lt ln n) (hn : n ≤ 69) (hc : 32 ≤ c ∧ c < 127) :
    ∃ vl' cap' lt', f_J4_append_cf468 vl cap ct (iI c) = some (vl', cap', iI (n + 1)) ∧ f_X11_writes lt ln (iI c) = some (lt', iI (n + 1)) ∧ LR vl' cap' (iI (n + 1)) lt' (iI (n + 1)) (n + 1) := by
  obtain ⟨F, M, h1, h2, h3, h4, h5, h6, h7, h8⟩ := h
  subst h1 h2 h3 h4
  obtain ⟨F', cap', x1, x2, x3, x4, x5, x6⟩ := zl_ens h5 (m := n + 1) (by omega) h8
  have e1 := zl_byte (c := c) (by omega)
  have e2 := zl_b8 (c := c) (by omega)
  refine ⟨aI (zu F' n c), cap', aI (zu M n c), ?_, zl_w (by omega) (by omega), ⟨zu F' n c, zu M n c, rfl, rfl, rfl, rfl, x2, by omega, fun k k0 k1 => ?_, fun k k0 k1 => ?_⟩⟩
  · unfold f_J4_append_cf468 f_J5_append_3fe6f f_J1_canEncode_fc78d
    simp (disch := omega) only [↓q_brd, ↓q_gdd, ↓q_lts, ↓reduceIte, ↓q_bds, ↓zq_smi, ↓zq_smr, iI_add, iI_sub, iI_mul, iI_neg, iI_ab3, iI_div, z_emod, aI_rd, aI_wr, aR0, aW0, aR1, aW1, aR2, aW2, aR3, aW3, aR4, aW4, iI_inT, iI_lt, iI_le, iI_eq, lt_t, lt_f, le_t, le_f, eq_t, eq_f, bz_z, bz_o, bz_zo, bzT, bzF, n_em, zu_s, zu_n, not_true_eq_false, not_false_eq_true, and_self, true_and, and_true, false_and, and_false, true_or, or_true, false_or, or_false, or_self, Int.add_sub_cancel, n_0, n_1, n_2, n_3, n_4, n_5, n_6, n_7, n_8, n_9, n_10, n_11, n_12, n_13, n_14, n_15, n_16, n_17, n_18, n_19, n_20, n_21, n_22, n_23, n_24, n_25, n_26, n_27, n_28, n_29, n_30, n_31, n_32, n_33, n_34, n_35, n_36, n_37, n_40, n_44, n_48, n_50, n_57, n_58, n_60, n_65, n_66, n_67, n_68, n_69, n_70, n_71, n_73, n_77, n_80, n_83, n_97, n_98, n_99, n_100, n_101, n_102, n_103, n_104, n_105, n_106, n_107, n_108, n_109, n_110, n_111, n_112, n_113, n_114, n_115, n_116, n_117, n_118, n_120, n_121, n_122, n_180, n_255, n_539, n_600, n_616, n_1200, n_2000, n_3600, n_8400, n_65536, x1, zl_lat, e1, e2]
  · have a1 : k < n → F k = M k ∧ 32 ≤ M k ∧ M k < 127 := fun hk => h7 k k0 hk
    have a2 : k < n → F' k = F k := fun hk => x5 k k0 (by omega)
    simp only [zu]
    split <;> omega
  · have a1 := x6 k k0 k1
    simp only [zu]
    split <;> omega
theorem zl_L22 {nx : Nat} {F : Nat → Int32} {a b : Int} (hb : -100 < b ∧ b ≤ 0) (K : Int32 → Int32 → (Nat → Int32) → Option (Int32 × (Nat → Int32))) : f_J6_getChars_ba4f3_L22 nx K 2000 (iI a) (iI b) F = K (iI a) (iI b) F := by
  show f_J6_getChars_ba4f3_L22 nx K (1999 + 1) (iI a) (iI b) F = _
  unfold f_J6_getChars_ba4f3_L22
  simp (disch := omega) only [↓q_brd, ↓q_gdd, ↓q_lts, ↓reduceIte, ↓q_bds, ↓zq_smi, ↓zq_smr, iI_add, iI_sub, iI_mul, iI_neg, iI_ab3, iI_div, z_emod, aI_rd, aI_wr, aR0, aW0, aR1, aW1, aR2, aW2, aR3, aW3, aR4, aW4, iI_inT, iI_lt, iI_le, iI_eq, lt_t, lt_f, le_t, le_f, eq_t, eq_f, bz_z, bz_o, bz_zo, bzT, bzF, n_em, zu_s, zu_n, not_true_eq_false, not_false_eq_true, and_self, true_and, and_true, false_and, and_false, true_or, or_true, false_or, or_false, or_self, Int.add_sub_cancel, n_0, n_1, n_2, n_3, n_4, n_5, n_6, n_7, n_8, n_9, n_10, n_11, n_12, n_13, n_14, n_15, n_16, n_17, n_18, n_19, n_20, n_21, n_22, n_23, n_24, n_25, n_26, n_27, n_28, n_29, n_30, n_31, n_32, n_33, n_34, n_35, n_36, n_37, n_40, n_44, n_48, n_50, n_57, n_58, n_60, n_65, n_66, n_67, n_68, n_69, n_70, n_71, n_73, n_77, n_80, n_83, n_97, n_98, n_99, n_100, n_101, n_102, n_103, n_104, n_105, n_106, n_107, n_108, n_109, n_110, n_111, n_112, n_113, n_114, n_115, n_116, n_117, n_118, n_120, n_121, n_122, n_180, n_255, n_539, n_600, n_616, n_1200, n_2000, n_3600, n_8400, n_65536]
theorem zl_gc1 {F : Int → Int} {v m : Int} {cap : Nat} (hv : 0 ≤ v ∧ v ≤ 9) (hm : 1 ≤ m ∧ m ≤ cap ∧ cap ≤ 70) : f_J6_getChars_ba4f3 (aI F) (iI v) (iI m) cap = some (iI (m - 1), aI (zu F (m - 1) (48 + v))) := by
  have e1 : 48 + v % 10 = 48 + v := by omega
  have e2 : m + -1 = m - 1 := by omega
  have e3 : - -v = v := by omega
  unfold f_J6_getChars_ba4f3
  simp (disch := omega) only [↓q_brd, ↓q_gdd, ↓q_lts, ↓reduceIte, ↓q_bds, ↓zq_smi, ↓zq_smr, iI_add, iI_sub, iI_mul, iI_neg, iI_ab3, iI_div, z_emod, aI_rd, aI_wr, aR0, aW0, aR1, aW1, aR2, aW2, aR3, aW3, aR4, aW4, iI_inT, iI_lt, iI_le, iI_eq, lt_t, lt_f, le_t, le_f, eq_t, eq_f, bz_z, bz_o, bz_zo, bzT, bzF, n_em, zu_s, zu_n, not_true_eq_false, not_false_eq_true, and_self, true_and, and_true, false_and, and_false, true_or, or_true, false_or, or_false, or_self, Int.add_sub_cancel, n_0, n_1, n_2, n_3, n_4, n_5, n_6, n_7, n_8, n_9, n_10, n_11, n_12, n_13, n_14, n_15, n_16, n_17, n_18, n_19, n_20, n_21, n_22, n_23, n_24, n_25, n_26, n_27, n_28, n_29, n_30, n_31, n_32, n_33, n_34, n_35, n_36, n_37, n_40, n_44, n_48, n_50, n_57, n_58, n_60, n_65, n_66, n_67, n_68, n_69, n_70, n_71, n_73, n_77, n_80, n_83, n_97, n_98, n_99, n_100, n_101, n_102, n_103, n_104, n_105, n_106, n_107, n_108, n_109, n_110, n_111, n_112, n_113, n_114, n_115, n_116, n_117, n_118, n_120, n_121, n_122, n_180, n_255, n_539, n_600, n_616, n_1200, n_2000, n_3600, n_8400, n_65536, zl_L22, zl_ones, zl_byte, e1, e2, e3]
theorem zl_gc2 {F : Int → Int} {v m : Int} {cap : Nat} (hv : 10 ≤ v ∧ v ≤ 99) (hm : 2 ≤ m ∧ m ≤ cap ∧ cap ≤ 70) : f_J6_getChars_ba4f3 (aI F) (iI v) (iI m) cap = some (iI (m - 1 - 1), aI (zu (zu F (m - 1) (48 + v % 10)) (m - 1 - 1) (48 + v / 10))) := by
  have e2 : m + -1 = m - 1 := by omega
  have e4 : m - 1 + -1 = m - 1 - 1 := by omega
  have e3 : - -v = v := by omega
  unfold f_J6_getChars_ba4f3
  simp (disch := omega) only [↓q_brd, ↓q_gdd, ↓q_lts, ↓reduceIte, ↓q_bds, ↓zq_smi, ↓zq_smr, iI_add, iI_sub, iI_mul, iI_neg, iI_ab3, iI_div, z_emod, aI_rd, aI_wr, aR0, aW0, aR1, aW1, aR2, aW2, aR3, aW3, aR4, aW4, iI_inT, iI_lt, iI_le, iI_eq, lt_t, lt_f, le_t, le_f, eq_t, eq_f, bz_z, bz_o, bz_zo, bzT, bzF, n_em, zu_s, zu_n, not_true_eq_false, not_false_eq_true, and_self, true_and, and_true, false_and, and_false, true_or, or_true, false_or, or_false, or_self, Int.add_sub_cancel, n_0, n_1, n_2, n_3, n_4, n_5, n_6, n_7, n_8, n_9, n_10, n_11, n_12, n_13, n_14, n_15, n_16, n_17, n_18, n_19, n_20, n_21, n_22, n_23, n_24, n_25, n_26, n_27, n_28, n_29, n_30, n_31, n_32, n_33, n_34, n_35, n_36, n_37, n_40, n_44, n_48, n_50, n_57, n_58, n_60, n_65, n_66, n_67, n_68, n_69, n_70, n_71, n_73, n_77, n_80, n_83, n_97, n_98, n_99, n_100, n_101, n_102, n_103, n_104, n_105, n_106, n_107, n_108, n_109, n_110, n_111, n_112, n_113, n_114, n_115, n_116, n_117, n_118, n_120, n_121, n_122, n_180, n_255, n_539, n_600, n_616, n_1200, n_2000, n_3600, n_8400, n_65536, zl_L22, zl_ones, zl_tens, zl_byte, e2, e3, e4]
