theorem law_true (L : Nat) (hL : L ≤ 1536) (xs : Nat → Int32) : f_law xs L = some () := by
  sorry
