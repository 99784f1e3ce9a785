def fpd (n s : Nat) : Bool := decide ((FP.ddiv (FP.i2d (nI s)) (FP.i2d (nI n))) &&& 0x7fffffffffffffff ≤ 0x7ff0000000000000)
def fpf (n s : Nat) : Bool := decide ((FP.fdiv (FP.i2f (nI s)) (FP.i2f (nI n))) &&& 0x7fffffff ≤ 0x7f800000) && decide ((FP.f2d (FP.fdiv (FP.i2f (nI s)) (FP.i2f (nI n)))) &&& 0x7fffffffffffffff ≤ 0x7ff0000000000000) && decide ((Op.cmpValue (FP.dcmp (FP.f2d (FP.fdiv (FP.i2f (nI s)) (FP.i2f (nI n)))) (FP.f2d (FP.fdiv (FP.i2f (nI s)) (FP.i2f (nI n))))) .l) = 0)
theorem fp_d2 : ((List.range 13).all fun n => n == 0 || (List.range (50 * n + 1)).all (fpd n)) = true := by decide +kernel
theorem fp_f2 : ((List.range 13).all fun n => n == 0 || (List.range (n + 1)).all (fpf n)) = true := by decide +kernel
theorem fp_mean {s n : Int} (h : 0 ≤ s ∧ s ≤ 50 * n ∧ 1 ≤ n ∧ n ≤ 12) : (FP.ddiv (FP.i2d (iI s)) (FP.i2d (iI n))) &&& 0x7fffffffffffffff ≤ 0x7ff0000000000000 := by
  have h1 := List.all_eq_true.mp fp_d2 n.toNat (List.mem_range.mpr (by omega))
  have h2 : (n.toNat == 0) = false := by
    rw [beq_eq_false_iff_ne]; omega
  rw [h2, Bool.false_or] at h1
  have h3 := List.all_eq_true.mp h1 s.toNat (List.mem_range.mpr (by omega))
  have h4 := of_decide_eq_true h3
  rw [iI_nI, iI_nI, show ((s.toNat : Nat) : Int) = s by omega, show ((n.toNat : Nat) : Int) = n by omega] at h4
  exact h4
theorem fp_share {s n : Int} (h : 0 ≤ s ∧ s ≤ n ∧ 1 ≤ n ∧ n ≤ 12) : ((FP.fdiv (FP.i2f (iI s)) (FP.i2f (iI n))) &&& 0x7fffffff ≤ 0x7f800000) ∧ ((FP.f2d (FP.fdiv (FP.i2f (iI s)) (FP.i2f (iI n)))) &&& 0x7fffffffffffffff ≤ 0x7ff0000000000000) ∧ ((Op.cmpValue (FP.dcmp (FP.f2d (FP.fdiv (FP.i2f (iI s)) (FP.i2f (iI n)))) (FP.f2d (FP.fdiv (FP.i2f (iI s)) (FP.i2f (iI n))))) .l) = 0) := by
  have h1 := List.all_eq_true.mp fp_f2 n.toNat (List.mem_range.mpr (by omega))
  have h2 : (n.toNat == 0) = false := by
    rw [beq_eq_false_iff_ne]; omega
  rw [h2, Bool.false_or] at h1
  have h3 := List.all_eq_true.mp h1 s.toNat (List.mem_range.mpr (by omega))
  unfold fpf at h3
  rw [Bool.and_eq_true, Bool.and_eq_true] at h3
  obtain ⟨⟨h4, h5⟩, h6⟩ := h3
  have h4 := of_decide_eq_true h4
  have h5 := of_decide_eq_true h5
  have h6 := of_decide_eq_true h6
  rw [iI_nI, iI_nI, show ((s.toNat : Nat) : Int) = s by omega, show ((n.toNat : Nat) : Int) = n by omega] at h4 h5 h6
  exact ⟨h4, h5, h6⟩
