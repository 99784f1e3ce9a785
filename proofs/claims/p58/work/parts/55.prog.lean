theorem gd_some {α : Type} {o : Option α} {d : α} (h : o.isSome = true) : o = some (o.getD d) := by
  cases o with
  | none => cases h
  | some a => rfl
def dq : RD_t := (0, fun _ => none, fun _ => 0, fun _ => 0, 0, fun _ => 0, 0, 0, 0, 0)
def pX0 : Prog_t := P0
def pA1 : Prog_t := (ptL 12 64 0 pX0).getD P0
theorem eA1 : ptL 12 64 0 pX0 = some pA1 := gd_some (by decide +kernel)
def pQ1 : RD_t := (rd pA1).getD dq
theorem eQ1 : rd pA1 = some pQ1 := gd_some (by decide +kernel)
def pX1 : Prog_t := nP pA1 pQ1
theorem fQ1 : pQ1.1 = -1 := by decide +kernel
theorem cQ1 : pQ1.2.2.2.2.1 = 4 := by decide +kernel
theorem k0_Q1 : pQ1.2.1 0 = some 4 ∧ pQ1.2.2.1 0 = 7 ∧ pQ1.2.2.2.1 0 = 1 := by decide +kernel
theorem k1_Q1 : pQ1.2.1 1 = some 5 ∧ pQ1.2.2.1 1 = 9 ∧ pQ1.2.2.2.1 1 = 1 := by decide +kernel
theorem k2_Q1 : pQ1.2.1 2 = some 8 ∧ pQ1.2.2.1 2 = 2 ∧ pQ1.2.2.2.1 2 = 3 := by decide +kernel
theorem k3_Q1 : pQ1.2.1 3 = some 7 ∧ pQ1.2.2.1 3 = 1 ∧ pQ1.2.2.2.1 3 = 3 := by decide +kernel
def pA2 : Prog_t := (ptL 13 64 0 pX1).getD P0
theorem eA2 : ptL 13 64 0 pX1 = some pA2 := gd_some (by decide +kernel)
def pQ2 : RD_t := (rd pA2).getD dq
theorem eQ2 : rd pA2 = some pQ2 := gd_some (by decide +kernel)
def pX2 : Prog_t := nP pA2 pQ2
theorem fQ2 : pQ2.1 = -1 := by decide +kernel
theorem cQ2 : pQ2.2.2.2.2.1 = 2 := by decide +kernel
theorem k0_Q2 : pQ2.2.1 0 = some 4 ∧ pQ2.2.2.1 0 = 7 ∧ pQ2.2.2.2.1 0 = 1 := by decide +kernel
theorem k1_Q2 : pQ2.2.1 1 = some 4 ∧ pQ2.2.2.1 1 = 12 ∧ pQ2.2.2.2.1 1 = 0 := by decide +kernel
def pA3 : Prog_t := (ptL 14 64 0 pX2).getD P0
theorem eA3 : ptL 14 64 0 pX2 = some pA3 := gd_some (by decide +kernel)
def pQ3 : RD_t := (rd pA3).getD dq
theorem eQ3 : rd pA3 = some pQ3 := gd_some (by decide +kernel)
def pX3 : Prog_t := nP pA3 pQ3
theorem fQ3 : pQ3.1 = -1 := by decide +kernel
theorem cQ3 : pQ3.2.2.2.2.1 = 1 := by decide +kernel
theorem k0_Q3 : pQ3.2.1 0 = some 1 ∧ pQ3.2.2.1 0 = 12 ∧ pQ3.2.2.2.1 0 = 0 := by decide +kernel
def pA4 : Prog_t := (ptL 15 64 0 pX3).getD P0
theorem eA4 : ptL 15 64 0 pX3 = some pA4 := gd_some (by decide +kernel)
def pQ4 : RD_t := (rd pA4).getD dq
theorem eQ4 : rd pA4 = some pQ4 := gd_some (by decide +kernel)
def pX4 : Prog_t := nP pA4 pQ4
theorem fQ4 : pQ4.1 = 1 := by decide +kernel
def pA5 : Prog_t := (ptL 16 64 0 pX4).getD P0
theorem eA5 : ptL 16 64 0 pX4 = some pA5 := gd_some (by decide +kernel)
def pQ5 : RD_t := (rd pA5).getD dq
theorem eQ5 : rd pA5 = some pQ5 := gd_some (by decide +kernel)
def pX5 : Prog_t := nP pA5 pQ5
theorem fQ5 : pQ5.1 = 2 := by decide +kernel
def pA6 : Prog_t := (ptL 17 64 0 pX5).getD P0
theorem eA6 : ptL 17 64 0 pX5 = some pA6 := gd_some (by decide +kernel)
def pQ6 : RD_t := (rd pA6).getD dq
theorem eQ6 : rd pA6 = some pQ6 := gd_some (by decide +kernel)
def pX6 : Prog_t := nP pA6 pQ6
theorem fQ6 : pQ6.1 = 2 := by decide +kernel
def pA7 : Prog_t := (ptL 18 64 0 pX6).getD P0
theorem eA7 : ptL 18 64 0 pX6 = some pA7 := gd_some (by decide +kernel)
def pQ7 : RD_t := (rd pA7).getD dq
theorem eQ7 : rd pA7 = some pQ7 := gd_some (by decide +kernel)
def pX7 : Prog_t := nP pA7 pQ7
theorem fQ7 : pQ7.1 = 10 := by decide +kernel
def pA8 : Prog_t := (ptL 19 64 0 pX7).getD P0
theorem eA8 : ptL 19 64 0 pX7 = some pA8 := gd_some (by decide +kernel)
def pQ8 : RD_t := (rd pA8).getD dq
theorem eQ8 : rd pA8 = some pQ8 := gd_some (by decide +kernel)
def pX8 : Prog_t := nP pA8 pQ8
theorem fQ8 : pQ8.1 = 5 := by decide +kernel
def pA9 : Prog_t := (ptL 20 64 0 pX8).getD P0
theorem eA9 : ptL 20 64 0 pX8 = some pA9 := gd_some (by decide +kernel)
def pQ9 : RD_t := (rd pA9).getD dq
theorem eQ9 : rd pA9 = some pQ9 := gd_some (by decide +kernel)
def pX9 : Prog_t := nP pA9 pQ9
theorem fQ9 : pQ9.1 = 6 := by decide +kernel
def pA10 : Prog_t := (ptL 21 64 0 pX9).getD P0
theorem eA10 : ptL 21 64 0 pX9 = some pA10 := gd_some (by decide +kernel)
def pQ10 : RD_t := (rd pA10).getD dq
theorem eQ10 : rd pA10 = some pQ10 := gd_some (by decide +kernel)
def pX10 : Prog_t := nP pA10 pQ10
theorem fQ10 : pQ10.1 = 2 := by decide +kernel
def pA11 : Prog_t := (ptL 22 64 0 pX10).getD P0
theorem eA11 : ptL 22 64 0 pX10 = some pA11 := gd_some (by decide +kernel)
def pQ11 : RD_t := (rd pA11).getD dq
theorem eQ11 : rd pA11 = some pQ11 := gd_some (by decide +kernel)
def pX11 : Prog_t := nP pA11 pQ11
theorem fQ11 : pQ11.1 = 0 := by decide +kernel
def pA12 : Prog_t := (ptL 23 64 0 pX11).getD P0
theorem eA12 : ptL 23 64 0 pX11 = some pA12 := gd_some (by decide +kernel)
def pQ12 : RD_t := (rd pA12).getD dq
theorem eQ12 : rd pA12 = some pQ12 := gd_some (by decide +kernel)
def pX12 : Prog_t := nP pA12 pQ12
theorem fQ12 : pQ12.1 = 7 := by decide +kernel
def pA13 : Prog_t := (ptL 24 64 0 pX12).getD P0
theorem eA13 : ptL 24 64 0 pX12 = some pA13 := gd_some (by decide +kernel)
def pQ13 : RD_t := (rd pA13).getD dq
theorem eQ13 : rd pA13 = some pQ13 := gd_some (by decide +kernel)
def pX13 : Prog_t := nP pA13 pQ13
theorem fQ13 : pQ13.1 = 10 := by decide +kernel
def pA14 : Prog_t := (ptL 25 64 0 pX13).getD P0
theorem eA14 : ptL 25 64 0 pX13 = some pA14 := gd_some (by decide +kernel)
def pQ14 : RD_t := (rd pA14).getD dq
theorem eQ14 : rd pA14 = some pQ14 := gd_some (by decide +kernel)
def pX14 : Prog_t := nP pA14 pQ14
theorem fQ14 : pQ14.1 = 0 := by decide +kernel
def pAZ : Prog_t := (ptL 26 64 0 pX0).getD P0
theorem eAZ : ptL 26 64 0 pX0 = some pAZ := gd_some (by decide +kernel)
def pQZ : RD_t := (rd pAZ).getD dq
theorem eQZ : rd pAZ = some pQZ := gd_some (by decide +kernel)
def pXZ : Prog_t := nP pAZ pQZ
theorem fQZ : pQZ.1 = -1 := by decide +kernel
theorem cQZ : pQZ.2.2.2.2.1 = 5 := by decide +kernel
theorem k0_QZ : pQZ.2.1 0 = some 0 ∧ pQZ.2.2.1 0 = 0 ∧ pQZ.2.2.2.1 0 = 6000 := by decide +kernel
theorem k1_QZ : pQZ.2.1 1 = some 0 ∧ pQZ.2.2.1 1 = 1 ∧ pQZ.2.2.2.1 1 = 6400 := by decide +kernel
theorem k2_QZ : pQZ.2.1 2 = some 0 ∧ pQZ.2.2.1 2 = 1 ∧ pQZ.2.2.2.1 2 = 6650 := by decide +kernel
theorem k3_QZ : pQZ.2.1 3 = some 6 ∧ pQZ.2.2.1 3 = 0 ∧ pQZ.2.2.2.1 3 = 0 := by decide +kernel
theorem k4_QZ : pQZ.2.1 4 = some 6 ∧ pQZ.2.2.1 4 = 0 ∧ pQZ.2.2.2.1 4 = 1 := by decide +kernel
