/-! ===== the pure functions that whole's rows speak of: here a specification of our own ===== -/
def f_X11_in (p1 : Int32) (p2 : Int32) (p3 : Int32) : Option (Int32) :=
  q_br (p1 < p2) (
  some 0) (
  q_br (p3 < p1) (
  some 0) (
  some 1))
def f_X11_size (p1 : Int32) : Option (Int32) :=
  q_br (0 ≤ p1) (
  some p1) (
  some (-p1))
def f_X11_done (x_thrown : Int32) (p1 : Int32) : Option (Int32 × Int32) :=
  some (p1, 0)
def f_X11_fails (x_thrown : Int32) (p1 : Int32) : Option (Int32 × Int32) :=
  some (0, p1)
def f_X11_isBell (x_g : (Nat → Int32)) (p1 : Int32) : Option (Int32) :=
  q_bd (f_X11_in p1 0 ((x_g 0) - 1)) (fun q1 =>
  q_gd (q1 = 0 ∨ q1 = 1) (
  some q1))
def f_X11_isHerd (p1 : Int32) : Option (Int32) :=
  q_bd (f_X11_in p1 0 3) (fun q1 =>
  q_gd (q1 = 0 ∨ q1 = 1) (
  some q1))
def f_X11_isCliff (x_g : (Nat → Int32)) (p1 : Int32) : Option (Int32) :=
  q_bd (f_X11_in p1 0 ((x_g 1) - 1)) (fun q1 =>
  q_gd (q1 = 0 ∨ q1 = 1) (
  some q1))
def f_X11_isStep (p1 : Int32) (p2 : Int32) : Option (Int32) :=
  q_lt (fun (j1 : Int32) =>
  q_lt (fun (j2 : Int32) =>
  q_br (p2 = 0) (
  q_gd (j1 = 0 ∨ j1 = 1) (
  some j1)) (
  q_gd (j2 = 0 ∨ j2 = 1) (
  some j2))) (fun (J85 : Int32 → Option (Int32)) =>
  q_br (p1 = 0) (
  J85 1) (
  q_br (p1 = 2) (
  J85 1) (
  q_br (p1 = 3) (
  J85 1) (
  q_br (p1 = 5) (
  J85 1) (
  q_br (p1 = 7) (
  J85 1) (
  q_br (p1 = 8) (
  J85 1) (
  q_br (p1 = 10) (
  J85 1) (
  J85 0))))))))) (fun (J42 : Int32 → Option (Int32)) =>
  q_br (p1 = 0) (
  J42 1) (
  q_br (p1 = 2) (
  J42 1) (
  q_br (p1 = 4) (
  J42 1) (
  q_br (p1 = 5) (
  J42 1) (
  q_br (p1 = 7) (
  J42 1) (
  q_br (p1 = 9) (
  J42 1) (
  q_br (p1 = 11) (
  J42 1) (
  J42 0))))))))
def f_X11_isInScaleOf (p1 : Int32) (p2 : Int32) (p3 : Int32) : Option (Int32) :=
  q_bd (f_X11_isStep (((p1 + 120) - p2) - ((p1 + 120) - p2) / 12 * 12) p3) (fun q1 =>
  q_gd (q1 = 0 ∨ q1 = 1) (
  some q1))
def f_X11_noteOf (x_g : (Nat → Int32)) (p1 : Int32) : Option (Int32) :=
  q_gd (q_in (17 + p1) 77) (
  some (((x_g ((17 + p1).toNatClampNeg)) + 50) / 100))
def f_X11_deviationOf (x_g : (Nat → Int32)) (p1 : Int32) : Option (Int32) :=
  q_gd (q_in (17 + p1) 77) (
  q_bd (f_X11_noteOf x_g p1) (fun q2 =>
  some ((x_g ((17 + p1).toNatClampNeg)) - (100 * q2))))
def f_X11_fits (x_g : (Nat → Int32)) (p1 : Int32) (p2 : Int32) (p3 : Int32) : Option (Int32) :=
  q_bd (f_X11_noteOf x_g p1) (fun q1 =>
  q_bd (f_X11_isInScaleOf q1 p2 p3) (fun q2 =>
  q_br (q2 = 0) (
  some 0) (
  q_bd (f_X11_deviationOf x_g p1) (fun q3 =>
  q_bd (f_X11_size q3) (fun q4 =>
  q_br ((x_g 4) < q4) (
  some 0) (
  some 1))))))
def f_X11_isKeyed (x_g : (Nat → Int32)) (p1 : Int32) : Option (Int32) :=
  q_bd (f_X11_fits x_g p1 (x_g 2) (x_g 3)) (fun q1 =>
  q_gd (q1 = 0 ∨ q1 = 1) (
  some q1))
def f_X11_keyed_L5 (x_g : (Nat → Int32)) (p1 : Int32) (p2 : Int32) : Nat → Int32 → Int32 → Option (Int32)
  | 0, _, _ => none
  | n5 + 1, i1, i2 =>
    q_br ((x_g 0) ≤ i1) (
  some i2) (
  q_bd (f_X11_fits x_g i1 p1 p2) (fun q3 =>
  q_lt (fun (j4 : Int32) =>
  q_lt (i2 + j4 : Int32) (fun v5 =>
  q_lt (i1 + 1 : Int32) (fun v6 =>
  f_X11_keyed_L5 x_g p1 p2 n5 v6 v5))) (fun (J33 : Int32 → Option (Int32)) =>
  q_br (q3 = 0) (
  J33 0) (
  J33 1))))
def f_X11_keyed (x_g : (Nat → Int32)) (p1 : Int32) (p2 : Int32) : Option (Int32) :=
  f_X11_keyed_L5 x_g p1 p2 2000 0 0
def f_X11_adds (x_g : (Nat → Int32)) (x_thrown : Int32) (p1 : Int32) (p2 : Int32) : Option (Int32 × (Nat → Int32) × Int32) :=
  q_bd (f_X11_isHerd p1) (fun q1 =>
  q_br (q1 = 0) (
  q_bd (f_X11_fails x_thrown 1) (fun q12 =>
  some (q12.1, x_g, q12.2))) (
  q_bd (f_X11_in p2 3600 8400) (fun q2 =>
  q_br (q2 = 0) (
  q_bd (f_X11_fails x_thrown 2) (fun q11 =>
  some (q11.1, x_g, q11.2))) (
  q_lt (x_g 0 : Int32) (fun v3 =>
  q_br (v3 = 12) (
  q_bd (f_X11_fails x_thrown 3) (fun q10 =>
  some (q10.1, x_g, q10.2))) (
  q_gd (q_in (5 + v3) 77) (
  q_lt (upd x_g ((5 + v3).toNatClampNeg) p1) (fun u5 =>
  q_gd (q_in (17 + v3) 77) (
  q_lt (upd u5 ((17 + v3).toNatClampNeg) p2) (fun u7 =>
  q_lt (upd u7 0 ((u7 0) + 1)) (fun u8 =>
  q_bd (f_X11_done x_thrown v3) (fun q9 =>
  some (q9.1, u8, q9.2)))))))))))))
def f_X11_dropsTones_L25 (p2 : Int32) (v1 : Int32) (v3 : Int32) (K25 : Int32 → (Nat → Int32) → Option (Int32 × (Nat → Int32))) : Nat → Int32 → Int32 → (Nat → Int32) → Option (Int32 × (Nat → Int32))
  | 0, _, _, _ => none
  | n25 + 1, i4, i5, i6 =>
    q_br (v3 ≤ i4) (
  K25 i5 i6) (
  q_gd (q_in (v1 + i4) 77) (
  q_lt (i6 ((v1 + i4).toNatClampNeg) : Int32) (fun v10 =>
  q_lt (fun (j11 : Int32) (j12 : (Nat → Int32)) =>
  q_lt (i4 + 1 : Int32) (fun v13 =>
  f_X11_dropsTones_L25 p2 v1 v3 K25 n25 v13 j11 j12)) (fun (J76 : Int32 → (Nat → Int32) → Option (Int32 × (Nat → Int32))) =>
  q_br (v10 = p2) (
  J76 i5 i6) (
  q_lt (fun (j14 : Int32) =>
  q_gd (q_in (v1 + i5) 77) (
  q_lt (upd i6 ((v1 + i5).toNatClampNeg) j14) (fun u16 =>
  q_lt (i5 + 1 : Int32) (fun v17 =>
  J76 v17 u16)))) (fun (J72 : Int32 → Option (Int32 × (Nat → Int32))) =>
  q_br (v10 ≤ p2) (
  J72 v10) (
  J72 (v10 - 1))))))))
def f_X11_dropsTones_L86 (v1 : Int32) (v3 : Int32) (K86 : (Nat → Int32) → Option (Int32 × (Nat → Int32))) : Nat → Int32 → (Nat → Int32) → Option (Int32 × (Nat → Int32))
  | 0, _, _ => none
  | n86 + 1, i18, i19 =>
    q_br (v3 ≤ i18) (
  K86 i19) (
  q_gd (q_in (v1 + i18) 77) (
  q_lt (upd i19 ((v1 + i18).toNatClampNeg) 0) (fun u22 =>
  q_lt (i18 + 1 : Int32) (fun v23 =>
  f_X11_dropsTones_L86 v1 v3 K86 n86 v23 u22))))
def f_X11_dropsTones (x_g : (Nat → Int32)) (p1 : Int32) (p2 : Int32) : Option (Int32 × (Nat → Int32)) :=
  q_lt (37 + (8 * p1) : Int32) (fun v1 =>
  q_gd (q_in (33 + p1) 77) (
  q_lt (x_g ((33 + p1).toNatClampNeg) : Int32) (fun v3 =>
  f_X11_dropsTones_L25 p2 v1 v3 (fun y7 y8 =>
  f_X11_dropsTones_L86 v1 v3 (fun y20 =>
  q_gd (q_in (33 + p1) 77) (
  q_lt (upd y20 ((33 + p1).toNatClampNeg) y7) (fun u25 =>
  some (v3 - y7, u25)))) 2000 y7 y8) 2000 0 0 x_g)))
def f_X11_removes_L18 (p1 : Int32) (K18 : Int32 → (Nat → Int32) → Option (Int32 × (Nat → Int32) × Int32)) : Nat → Int32 → Int32 → (Nat → Int32) → Option (Int32 × (Nat → Int32) × Int32)
  | 0, _, _, _ => none
  | n18 + 1, i2, i3, i4 =>
    q_br (4 ≤ i2) (
  K18 i3 i4) (
  q_bd (f_X11_dropsTones i4 i2 p1) (fun q7 =>
  q_lt (i3 + q7.1 : Int32) (fun v8 =>
  q_lt (i2 + 1 : Int32) (fun v9 =>
  f_X11_removes_L18 p1 K18 n18 v9 v8 q7.2))))
def f_X11_removes_L40 (K40 : (Nat → Int32) → Option (Int32 × (Nat → Int32) × Int32)) : Nat → Int32 → (Nat → Int32) → Option (Int32 × (Nat → Int32) × Int32)
  | 0, _, _ => none
  | n40 + 1, i10, i11 =>
    q_br (12 ≤ i10) (
  K40 i11) (
  q_lt (fun (j13 : Int32) =>
  q_gd (q_in (5 + i10) 77) (
  q_lt (upd i11 ((5 + i10).toNatClampNeg) j13) (fun u15 =>
  q_lt (fun (j16 : Int32) =>
  q_gd (q_in (17 + i10) 77) (
  q_lt (upd u15 ((17 + i10).toNatClampNeg) j16) (fun u18 =>
  q_lt (i10 + 1 : Int32) (fun v19 =>
  f_X11_removes_L40  K40 n40 v19 u18)))) (fun (J103 : Int32 → Option (Int32 × (Nat → Int32) × Int32)) =>
  q_br (11 ≤ i10) (
  J103 0) (
  q_gd (q_in ((17 + i10) + 1) 77) (
  J103 (u15 (((17 + i10) + 1).toNatClampNeg)))))))) (fun (J73 : Int32 → Option (Int32 × (Nat → Int32) × Int32)) =>
  q_br (11 ≤ i10) (
  J73 0) (
  q_gd (q_in ((5 + i10) + 1) 77) (
  J73 (i11 (((5 + i10) + 1).toNatClampNeg))))))
def f_X11_removes (x_g : (Nat → Int32)) (x_thrown : Int32) (p1 : Int32) : Option (Int32 × (Nat → Int32) × Int32) :=
  q_bd (f_X11_isBell x_g p1) (fun q1 =>
  q_br (q1 = 0) (
  q_bd (f_X11_fails x_thrown 1) (fun q24 =>
  some (q24.1, x_g, q24.2))) (
  f_X11_removes_L18 p1 (fun y5 y6 =>
  f_X11_removes_L40  (fun y12 =>
  q_lt (upd y12 0 ((y12 0) - 1)) (fun u22 =>
  q_bd (f_X11_done x_thrown y5) (fun q23 =>
  some (q23.1, u22, q23.2)))) 2000 p1 y6) 2000 0 0 x_g))
def f_X11_tunes (x_g : (Nat → Int32)) (x_thrown : Int32) (p1 : Int32) (p2 : Int32) : Option (Int32 × (Nat → Int32) × Int32) :=
  q_bd (f_X11_isBell x_g p1) (fun q1 =>
  q_br (q1 = 0) (
  q_bd (f_X11_fails x_thrown 1) (fun q11 =>
  some (q11.1, x_g, q11.2))) (
  q_bd (f_X11_in p2 (-99) 99) (fun q2 =>
  q_br (q2 = 0) (
  q_bd (f_X11_fails x_thrown 2) (fun q10 =>
  some (q10.1, x_g, q10.2))) (
  q_gd (q_in (17 + p1) 77) (
  q_lt ((x_g ((17 + p1).toNatClampNeg)) + p2 : Int32) (fun v4 =>
  q_bd (f_X11_in v4 3600 8400) (fun q5 =>
  q_br (q5 = 0) (
  q_bd (f_X11_fails x_thrown 3) (fun q9 =>
  some (q9.1, x_g, q9.2))) (
  q_gd (q_in (17 + p1) 77) (
  q_lt (upd x_g ((17 + p1).toNatClampNeg) v4) (fun u7 =>
  q_bd (f_X11_done x_thrown v4) (fun q8 =>
  some (q8.1, u7, q8.2))))))))))))
def f_X11_moves (x_g : (Nat → Int32)) (x_thrown : Int32) (p1 : Int32) (p2 : Int32) : Option (Int32 × (Nat → Int32) × Int32) :=
  q_bd (f_X11_isBell x_g p1) (fun q1 =>
  q_br (q1 = 0) (
  q_bd (f_X11_fails x_thrown 1) (fun q2 =>
  some (q2.1, x_g, q2.2))) (
  q_bd (f_X11_isHerd p2) (fun q3 =>
  q_br (q3 = 0) (
  q_bd (f_X11_fails x_thrown 1) (fun q9 =>
  some (q9.1, x_g, q9.2))) (
  q_gd (q_in (5 + p1) 77) (
  q_lt (x_g ((5 + p1).toNatClampNeg) : Int32) (fun v5 =>
  q_gd (q_in (5 + p1) 77) (
  q_lt (upd x_g ((5 + p1).toNatClampNeg) p2) (fun u7 =>
  q_bd (f_X11_done x_thrown v5) (fun q8 =>
  some (q8.1, u7, q8.2))))))))))
def f_X11_grazes_L34 (x_thrown : Int32) (p1 : Int32) (p2 : Int32) : Nat → Int32 → Int32 → (Nat → Int32) → Option (Int32 × (Nat → Int32) × Int32)
  | 0, _, _, _ => none
  | n34 + 1, i3, i4, i5 =>
    q_br ((i5 0) ≤ i3) (
  q_bd (f_X11_done x_thrown i4) (fun q6 =>
  some (q6.1, i5, q6.2))) (
  q_gd (q_in (5 + i3) 77) (
  q_lt (fun (j8 : Int32) (j9 : (Nat → Int32)) =>
  q_lt (i3 + 1 : Int32) (fun v10 =>
  f_X11_grazes_L34 x_thrown p1 p2 n34 v10 j8 j9)) (fun (J128 : Int32 → (Nat → Int32) → Option (Int32 × (Nat → Int32) × Int32)) =>
  q_br ((i5 ((5 + i3).toNatClampNeg)) = p1) (
  q_bd (f_X11_isKeyed i5 i3) (fun q11 =>
  q_gd (q_in (17 + i3) 77) (
  q_lt ((i5 ((17 + i3).toNatClampNeg)) - p2 : Int32) (fun v13 =>
  q_lt (fun (j14 : Int32) =>
  q_gd (q_in (17 + i3) 77) (
  q_lt (upd i5 ((17 + i3).toNatClampNeg) j14) (fun u16 =>
  q_lt (fun (j17 : Int32) =>
  q_lt (i4 + j17 : Int32) (fun v18 =>
  J128 v18 u16)) (fun (J126 : Int32 → Option (Int32 × (Nat → Int32) × Int32)) =>
  q_br (q11 = 0) (
  J126 0) (
  q_bd (f_X11_isKeyed u16 i3) (fun q19 =>
  q_br (q19 = 0) (
  J126 1) (
  J126 0))))))) (fun (J105 : Int32 → Option (Int32 × (Nat → Int32) × Int32)) =>
  q_br (3600 ≤ v13) (
  J105 v13) (
  J105 3600)))))) (
  J128 i4 i5))))
def f_X11_grazes (x_g : (Nat → Int32)) (x_thrown : Int32) (p1 : Int32) (p2 : Int32) : Option (Int32 × (Nat → Int32) × Int32) :=
  q_bd (f_X11_isHerd p1) (fun q1 =>
  q_br (q1 = 0) (
  q_bd (f_X11_fails x_thrown 1) (fun q21 =>
  some (q21.1, x_g, q21.2))) (
  q_bd (f_X11_in p2 1 99) (fun q2 =>
  q_br (q2 = 0) (
  q_bd (f_X11_fails x_thrown 2) (fun q20 =>
  some (q20.1, x_g, q20.2))) (
  f_X11_grazes_L34 x_thrown p1 p2 2000 0 0 x_g))))
def f_X11_keys (x_g : (Nat → Int32)) (x_thrown : Int32) (p1 : Int32) (p2 : Int32) : Option (Int32 × (Nat → Int32) × Int32) :=
  q_bd (f_X11_in p1 0 11) (fun q1 =>
  q_br (q1 = 0) (
  q_bd (f_X11_fails x_thrown 1) (fun q6 =>
  some (q6.1, x_g, q6.2))) (
  q_lt (upd x_g 2 p1) (fun u2 =>
  q_lt (upd u2 3 p2) (fun u3 =>
  q_bd (f_X11_keyed u3 p1 p2) (fun q4 =>
  q_bd (f_X11_done x_thrown q4) (fun q5 =>
  some (q5.1, u3, q5.2)))))))
def f_X11_tolerates (x_g : (Nat → Int32)) (x_thrown : Int32) (p1 : Int32) : Option (Int32 × (Nat → Int32) × Int32) :=
  q_bd (f_X11_in p1 0 50) (fun q1 =>
  q_br (q1 = 0) (
  q_bd (f_X11_fails x_thrown 1) (fun q5 =>
  some (q5.1, x_g, q5.2))) (
  q_lt (x_g 4 : Int32) (fun v2 =>
  q_lt (upd x_g 4 p1) (fun u3 =>
  q_bd (f_X11_done x_thrown v2) (fun q4 =>
  some (q4.1, u3, q4.2))))))
def f_X11_addsTone (x_g : (Nat → Int32)) (x_thrown : Int32) (p1 : Int32) (p2 : Int32) : Option (Int32 × (Nat → Int32) × Int32) :=
  q_bd (f_X11_isHerd p1) (fun q1 =>
  q_br (q1 = 0) (
  q_bd (f_X11_fails x_thrown 1) (fun q2 =>
  some (q2.1, x_g, q2.2))) (
  q_bd (f_X11_isBell x_g p2) (fun q3 =>
  q_br (q3 = 0) (
  q_bd (f_X11_fails x_thrown 1) (fun q13 =>
  some (q13.1, x_g, q13.2))) (
  q_gd (q_in (33 + p1) 77) (
  q_lt (x_g ((33 + p1).toNatClampNeg) : Int32) (fun v5 =>
  q_br (v5 = 8) (
  q_bd (f_X11_fails x_thrown 2) (fun q12 =>
  some (q12.1, x_g, q12.2))) (
  q_gd (q_in ((37 + (8 * p1)) + v5) 77) (
  q_lt (upd x_g (((37 + (8 * p1)) + v5).toNatClampNeg) p2) (fun u7 =>
  q_gd (q_in (33 + p1) 77) (
  q_gd (q_in (33 + p1) 77) (
  q_lt (upd u7 ((33 + p1).toNatClampNeg) ((u7 ((33 + p1).toNatClampNeg)) + 1)) (fun u10 =>
  q_bd (f_X11_done x_thrown (v5 + 1)) (fun q11 =>
  some (q11.1, u10, q11.2))))))))))))))
def f_X11_clears_L25 (p1 : Int32) (K25 : (Nat → Int32) → Option (Int32 × (Nat → Int32) × Int32)) : Nat → Int32 → (Nat → Int32) → Option (Int32 × (Nat → Int32) × Int32)
  | 0, _, _ => none
  | n25 + 1, i4, i5 =>
    q_br (8 ≤ i4) (
  K25 i5) (
  q_gd (q_in ((37 + (8 * p1)) + i4) 77) (
  q_lt (upd i5 (((37 + (8 * p1)) + i4).toNatClampNeg) 0) (fun u8 =>
  q_lt (i4 + 1 : Int32) (fun v9 =>
  f_X11_clears_L25 p1 K25 n25 v9 u8))))
def f_X11_clears (x_g : (Nat → Int32)) (x_thrown : Int32) (p1 : Int32) : Option (Int32 × (Nat → Int32) × Int32) :=
  q_bd (f_X11_isHerd p1) (fun q1 =>
  q_br (q1 = 0) (
  q_bd (f_X11_fails x_thrown 1) (fun q13 =>
  some (q13.1, x_g, q13.2))) (
  q_gd (q_in (33 + p1) 77) (
  q_lt (x_g ((33 + p1).toNatClampNeg) : Int32) (fun v3 =>
  f_X11_clears_L25 p1 (fun y6 =>
  q_gd (q_in (33 + p1) 77) (
  q_lt (upd y6 ((33 + p1).toNatClampNeg) 0) (fun u11 =>
  q_bd (f_X11_done x_thrown v3) (fun q12 =>
  some (q12.1, u11, q12.2))))) 2000 0 x_g))))
def f_X11_enters (x_g : (Nat → Int32)) (x_thrown : Int32) (p1 : Int32) (p2 : Int32) : Option (Int32 × (Nat → Int32) × Int32) :=
  q_bd (f_X11_isHerd p1) (fun q1 =>
  q_br (q1 = 0) (
  q_bd (f_X11_fails x_thrown 1) (fun q9 =>
  some (q9.1, x_g, q9.2))) (
  q_bd (f_X11_in p2 0 15) (fun q2 =>
  q_br (q2 = 0) (
  q_bd (f_X11_fails x_thrown 2) (fun q8 =>
  some (q8.1, x_g, q8.2))) (
  q_gd (q_in (29 + p1) 77) (
  q_lt (x_g ((29 + p1).toNatClampNeg) : Int32) (fun v4 =>
  q_gd (q_in (29 + p1) 77) (
  q_lt (upd x_g ((29 + p1).toNatClampNeg) p2) (fun u6 =>
  q_bd (f_X11_done x_thrown v4) (fun q7 =>
  some (q7.1, u6, q7.2))))))))))
def f_X11_addsCliff (x_g : (Nat → Int32)) (x_thrown : Int32) (p1 : Int32) (p2 : Int32) : Option (Int32 × (Nat → Int32) × Int32) :=
  q_bd (f_X11_in p1 1 8) (fun q1 =>
  q_br (q1 = 0) (
  q_bd (f_X11_fails x_thrown 1) (fun q2 =>
  some (q2.1, x_g, q2.2))) (
  q_bd (f_X11_in p2 (-12) 12) (fun q3 =>
  q_br (q3 = 0) (
  q_bd (f_X11_fails x_thrown 1) (fun q12 =>
  some (q12.1, x_g, q12.2))) (
  q_lt (x_g 1 : Int32) (fun v4 =>
  q_br (v4 = 4) (
  q_bd (f_X11_fails x_thrown 2) (fun q11 =>
  some (q11.1, x_g, q11.2))) (
  q_gd (q_in (69 + v4) 77) (
  q_lt (upd x_g ((69 + v4).toNatClampNeg) p1) (fun u6 =>
  q_gd (q_in (73 + v4) 77) (
  q_lt (upd u6 ((73 + v4).toNatClampNeg) p2) (fun u8 =>
  q_lt (upd u8 1 ((u8 1) + 1)) (fun u9 =>
  q_bd (f_X11_done x_thrown v4) (fun q10 =>
  some (q10.1, u9, q10.2)))))))))))))
def f_X11_fells_L16 (K16 : (Nat → Int32) → Option (Int32 × (Nat → Int32) × Int32)) : Nat → Int32 → (Nat → Int32) → Option (Int32 × (Nat → Int32) × Int32)
  | 0, _, _ => none
  | n16 + 1, i2, i3 =>
    q_br (4 ≤ i2) (
  K16 i3) (
  q_lt (fun (j5 : Int32) =>
  q_gd (q_in (69 + i2) 77) (
  q_lt (upd i3 ((69 + i2).toNatClampNeg) j5) (fun u7 =>
  q_lt (fun (j8 : Int32) =>
  q_gd (q_in (73 + i2) 77) (
  q_lt (upd u7 ((73 + i2).toNatClampNeg) j8) (fun u10 =>
  q_lt (i2 + 1 : Int32) (fun v11 =>
  f_X11_fells_L16  K16 n16 v11 u10)))) (fun (J78 : Int32 → Option (Int32 × (Nat → Int32) × Int32)) =>
  q_br (3 ≤ i2) (
  J78 0) (
  q_gd (q_in ((73 + i2) + 1) 77) (
  J78 (u7 (((73 + i2) + 1).toNatClampNeg)))))))) (fun (J49 : Int32 → Option (Int32 × (Nat → Int32) × Int32)) =>
  q_br (3 ≤ i2) (
  J49 0) (
  q_gd (q_in ((69 + i2) + 1) 77) (
  J49 (i3 (((69 + i2) + 1).toNatClampNeg))))))
def f_X11_fells (x_g : (Nat → Int32)) (x_thrown : Int32) (p1 : Int32) : Option (Int32 × (Nat → Int32) × Int32) :=
  q_bd (f_X11_isCliff x_g p1) (fun q1 =>
  q_br (q1 = 0) (
  q_bd (f_X11_fails x_thrown 1) (fun q16 =>
  some (q16.1, x_g, q16.2))) (
  f_X11_fells_L16  (fun y4 =>
  q_lt (upd y4 1 ((y4 1) - 1)) (fun u14 =>
  q_bd (f_X11_done x_thrown (u14 1)) (fun q15 =>
  some (q15.1, u14, q15.2)))) 2000 p1 x_g))
def f_X11_isExact (x_g : (Nat → Int32)) (p1 : Int32) : Option (Int32) :=
  q_br ((p1 - p1 / 100 * 100) = 0) (
  q_bd (f_X11_isInScaleOf (p1 / 100) (x_g 2) (x_g 3)) (fun q1 =>
  q_br (q1 = 0) (
  some 0) (
  some 1))) (
  some 0)
