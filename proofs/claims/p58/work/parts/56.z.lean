def zAll (v2 v3 : Int32) : Option Unit := q_bd (f_law4_0 vbi v2 v3) (fun z0 => q_bd (f_law4_1 z0 v2 v3) (fun z1 => q_bd (f_law4_2 z1 v2 v3) (fun z2 => q_bd (f_law4_3 z2 v2 v3) (fun z3 => q_bd (f_law4_4 z3 v2 v3) (fun z4 => q_bd (f_law4_5 z4 v2 v3) (fun z5 => q_bd (f_law4_6 z5 v2 v3) (fun z6 => q_bd (f_law4_7 z6 v2 v3) (fun z7 => q_bd (f_law4_8 z7 v2 v3) (fun _ => some ())))))))))
theorem zc_0 : ∀ b : Fin 8, zAll (iI 0 - 8) (1 + iI (b.val : Int)) = some () := by decide +kernel
theorem zc_1 : ∀ b : Fin 8, zAll (iI 1 - 8) (1 + iI (b.val : Int)) = some () := by decide +kernel
theorem zc_2 : ∀ b : Fin 8, zAll (iI 2 - 8) (1 + iI (b.val : Int)) = some () := by decide +kernel
theorem zc_3 : ∀ b : Fin 8, zAll (iI 3 - 8) (1 + iI (b.val : Int)) = some () := by decide +kernel
theorem zc_4 : ∀ b : Fin 8, zAll (iI 4 - 8) (1 + iI (b.val : Int)) = some () := by decide +kernel
theorem zc_5 : ∀ b : Fin 8, zAll (iI 5 - 8) (1 + iI (b.val : Int)) = some () := by decide +kernel
theorem zc_6 : ∀ b : Fin 8, zAll (iI 6 - 8) (1 + iI (b.val : Int)) = some () := by decide +kernel
theorem zc_7 : ∀ b : Fin 8, zAll (iI 7 - 8) (1 + iI (b.val : Int)) = some () := by decide +kernel
theorem zc_8 : ∀ b : Fin 8, zAll (iI 8 - 8) (1 + iI (b.val : Int)) = some () := by decide +kernel
theorem zc_9 : ∀ b : Fin 8, zAll (iI 9 - 8) (1 + iI (b.val : Int)) = some () := by decide +kernel
theorem zc_10 : ∀ b : Fin 8, zAll (iI 10 - 8) (1 + iI (b.val : Int)) = some () := by decide +kernel
theorem zc_11 : ∀ b : Fin 8, zAll (iI 11 - 8) (1 + iI (b.val : Int)) = some () := by decide +kernel
theorem zc_12 : ∀ b : Fin 8, zAll (iI 12 - 8) (1 + iI (b.val : Int)) = some () := by decide +kernel
theorem zc_13 : ∀ b : Fin 8, zAll (iI 13 - 8) (1 + iI (b.val : Int)) = some () := by decide +kernel
theorem zc_14 : ∀ b : Fin 8, zAll (iI 14 - 8) (1 + iI (b.val : Int)) = some () := by decide +kernel
theorem zc_15 : ∀ b : Fin 8, zAll (iI 15 - 8) (1 + iI (b.val : Int)) = some () := by decide +kernel
theorem z_all {a b : Int} (ha : 0 ≤ a ∧ a ≤ 15) (hb : 0 ≤ b ∧ b ≤ 7) : zAll (iI a - 8) (1 + iI b) = some () := by
  have h : ∀ a' : Int, 0 ≤ a' ∧ a' ≤ 15 → ∀ b' : Fin 8, zAll (iI a' - 8) (1 + iI (b'.val : Int)) = some () := by
    intro a' h'
    have e : a' = 0 ∨ a' = 1 ∨ a' = 2 ∨ a' = 3 ∨ a' = 4 ∨ a' = 5 ∨ a' = 6 ∨ a' = 7 ∨ a' = 8 ∨ a' = 9 ∨ a' = 10 ∨ a' = 11 ∨ a' = 12 ∨ a' = 13 ∨ a' = 14 ∨ a' = 15 := by omega
    rcases e with rfl | rfl | rfl | rfl | rfl | rfl | rfl | rfl | rfl | rfl | rfl | rfl | rfl | rfl | rfl | rfl
    · exact zc_0
    · exact zc_1
    · exact zc_2
    · exact zc_3
    · exact zc_4
    · exact zc_5
    · exact zc_6
    · exact zc_7
    · exact zc_8
    · exact zc_9
    · exact zc_10
    · exact zc_11
    · exact zc_12
    · exact zc_13
    · exact zc_14
    · exact zc_15
  have := h a ha ⟨b.toNat, by omega⟩
  rw [show ((⟨b.toNat, by omega⟩ : Fin 8).val : Int) = b from by show ((b.toNat : Nat) : Int) = b; omega] at this
  exact this
