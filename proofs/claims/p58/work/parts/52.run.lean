/-! ===== whole objects by their parts ===== -/
def XZ (V sv : Valley_t) (hs : Hist_t) (P : Prog_t) (C : Chord_t) (tk : Key_t) (ln : Line_t) (is er fc : Int32) : VB_t := ((V, sv, hs, P, C), (tk, ln, is, er, fc))
/-! the text buffer -/
def ptL (k : Nat) : Nat → Int32 → Prog_t → Option Prog_t
  | 0, _, _ => none
  | n + 1, i, P => q_gd (k < 27) (q_bd (f_J0_length_8abf5 k) (fun q5 => q_br (q5 ≤ i) (some P) (q_gd (k < 27) (q_bd (f_J0_charAt_5068e k i) (fun q7 => q_bd (f_X10_append P.1.1 P.1.2.1 q7) (fun q8 => q_sm q8.1 (fun _ => none) (fun _ => ptL k n (i + 1) ((q8.2.1, q8.2.2, P.1.2.2.1, P.1.2.2.2), P.2.1, P.2.2))))))))
theorem put_L {k : Nat} {V sv : Valley_t} {hs : Hist_t} {C : Chord_t} {tk : Key_t} {ln : Line_t} {is er fc : Int32} {K : VB_t → Option VB_t} : ∀ (n : Nat) (i : Int32) (P P' : Prog_t), ptL k n i P = some P' → f_L_put_L2 k K n i (XZ V sv hs P C tk ln is er fc) = K (XZ V sv hs P' C tk ln is er fc) := by
  intro n
  induction n with
  | zero => intro i P P' h; exact absurd h (by simp [ptL])
  | succ n ih =>
    intro i P P' h
    rw [ptL] at h
    rw [f_L_put_L2]
    obtain ⟨h1, h⟩ := q_gdi h
    obtain ⟨q5, e5, h⟩ := q_bdi h
    rw [q_gdd, if_pos h1, e5, q_bds]
    by_cases c : q5 ≤ i
    · have h := q_brp c h
      cases Option.some.inj h
      rw [q_brd, if_pos c]
    · have h := q_brn c h
      obtain ⟨-, h⟩ := q_gdi h
      obtain ⟨q7, e7, h⟩ := q_bdi h
      obtain ⟨q8, e8, h⟩ := q_bdi h
      have e9 : g_X10_append (XZ V sv hs P C tk ln is er fc) q7 = some (q8.1, XZ V sv hs ((q8.2.1, q8.2.2, P.1.2.2.1, P.1.2.2.2), P.2.1, P.2.2) C tk ln is er fc) := by
        unfold g_X10_append
        show q_bd (f_X10_append P.1.1 P.1.2.1 q7) _ = _
        rw [e8, q_bds]
        rfl
      rw [q_brd, if_neg c, q_gdd, if_pos h1, e7, q_bds, e9, q_bds]
      show q_sm q8.1 _ _ = _
      cases e10 : q8.1 with
      | inr X => rw [e10] at h; cases h
      | inl r => rw [e10] at h; exact ih _ _ _ h
theorem put_ok {k : Nat} {V sv : Valley_t} {hs : Hist_t} {P P' : Prog_t} {C : Chord_t} {tk : Key_t} {ln : Line_t} {is er fc : Int32} (h : ptL k 64 0 P = some P') : f_L_put (XZ V sv hs P C tk ln is er fc) k = some (XZ V sv hs P' C tk ln is er fc) := put_L 64 0 P P' h
abbrev RD_t : Type := Int32 × (Nat → Option Nat) × (Nat → Int32) × (Nat → Int32) × Int32 × (Nat → Int32) × Int32 × Int32 × Int32 × Int32
def rd (P : Prog_t) : Option RD_t := f_X8_read P.1.1 P.1.2.1 P.1.2.2.1 P.1.2.2.2 P.2.1.1 P.2.1.2.1 P.2.1.2.2.1 P.2.1.2.2.2 P.2.2.1 P.2.2.2.1 P.2.2.2.2
def nP (P : Prog_t) (q : RD_t) : Prog_t := ((P.1.1, 0, q.2.1, q.2.2.1), (q.2.2.2.1, q.2.2.2.2.1, q.2.2.2.2.2.1, q.2.2.2.2.2.2.1), (q.2.2.2.2.2.2.2.1, q.2.2.2.2.2.2.2.2.1, q.2.2.2.2.2.2.2.2.2))
abbrev fiL (cm : Nat → Option Nat) (fs ss : Nat → Int32) (ct : Int32) (n : Nat) (i : Int32) (V : Valley_t) := f_X8_failureIn_L2 cm fs ss ct n i V.1.1 V.1.2.1 V.1.2.2 V.2.1.1 V.2.1.2.1 V.2.1.2.2 V.2.2.1.1 V.2.2.1.2.1 V.2.2.1.2.2 V.2.2.2.1 V.2.2.2.2.1 V.2.2.2.2.2
theorem fi_end {cm : Nat → Option Nat} {fs ss : Nat → Int32} {ct : Int32} {n : Nat} {i : Int32} {V : Valley_t} (h : ct ≤ i) : fiL cm fs ss ct (n + 1) i V = some (fl (-1) V) := by
  unfold fiL
  rw [f_X8_failureIn_L2, q_brd, if_pos h]
theorem fi_ok {cm : Nat → Option Nat} {fs ss : Nat → Int32} {ct : Int32} {n : Nat} {i : Int} {V V1 : Valley_t} {k : Nat} {r : Int} (h : ¬ ct ≤ iI i) (h0 : 0 ≤ i ∧ i < 60) (hk : cm i.toNat = some k) (hc : cO V k (fs i.toNat) (ss i.toNat) = some (fl (iI r) V1)) (hr : 0 ≤ r ∧ r ≤ 100000) : fiL cm fs ss ct (n + 1) (iI i) V = fiL cm fs ss ct n (iI (i + 1)) V1 := by
  unfold fiL
  unfold cO at hc
  have hq : q_in (iI i) 60 := iI_in (by omega)
  rw [← iI_cl (show 0 ≤ i ∧ i < 2147483648 by omega)] at hk hc
  rw [f_X8_failureIn_L2, q_brd, if_neg h, q_gdd, if_pos hq, hk, q_bds, q_gdd, if_pos hq, q_gdd, if_pos hq, hc, q_bds]
  show q_br ((0 : Int32) ≤ iI r) _ _ = _
  rw [q_brd, if_pos (by rw [show (0 : Int32) = iI 0 from rfl, iI_le (by omega)]; omega), q_lts, show (1 : Int32) = iI 1 from rfl, iI_add]
theorem fi_no {cm : Nat → Option Nat} {fs ss : Nat → Int32} {ct : Int32} {n : Nat} {i : Int} {V V1 : Valley_t} {k : Nat} {r : Int} (h : ¬ ct ≤ iI i) (h0 : 0 ≤ i ∧ i < 60) (hk : cm i.toNat = some k) (hc : cO V k (fs i.toNat) (ss i.toNat) = some (fl (iI r) V1)) (hr : -100 ≤ r ∧ r < 0) : fiL cm fs ss ct (n + 1) (iI i) V = some (fl (iI i) V1) := by
  unfold fiL
  unfold cO at hc
  have hq : q_in (iI i) 60 := iI_in (by omega)
  rw [← iI_cl (show 0 ≤ i ∧ i < 2147483648 by omega)] at hk hc
  rw [f_X8_failureIn_L2, q_brd, if_neg h, q_gdd, if_pos hq, hk, q_bds, q_gdd, if_pos hq, q_gdd, if_pos hq, hc, q_bds]
  show q_br ((0 : Int32) ≤ iI r) _ _ = _
  rw [q_brd, if_neg (by rw [show (0 : Int32) = iI 0 from rfl, iI_le (by omega)]; omega)]
abbrev fin (q : RD_t) (V : Valley_t) := fiL q.2.1 q.2.2.1 q.2.2.2.1 q.2.2.2.2.1 2000 0 V
abbrev runF (V : Valley_t) (hs : Hist_t) (P : Prog_t) (er fc : Int32) := f_X10_run V.1.1 V.1.2.1 V.1.2.2 V.2.1.1 V.2.1.2.1 V.2.1.2.2 V.2.2.1.1 V.2.2.1.2.1 V.2.2.1.2.2 V.2.2.2.1 V.2.2.2.2.1 V.2.2.2.2.2 hs.1 hs.2.1 hs.2.2 P.1.1 P.1.2.1 P.1.2.2.1 P.1.2.2.2 P.2.1.1 P.2.1.2.1 P.2.1.2.2.1 P.2.1.2.2.2 P.2.2.1 P.2.2.2.1 P.2.2.2.2 er fc
abbrev rnr (res : Int32 ⊕ String) (V : Valley_t) (hs : Hist_t) (q : RD_t) (er fc : Int32) := (res, V.1.1, V.1.2.1, V.1.2.2, V.2.1.1, V.2.1.2.1, V.2.1.2.2, V.2.2.1.1, V.2.2.1.2.1, V.2.2.1.2.2, V.2.2.2.1, V.2.2.2.2.1, V.2.2.2.2.2, hs.1, hs.2.1, hs.2.2, (0 : Int32), q.2.1, q.2.2.1, q.2.2.2.1, q.2.2.2.2.1, q.2.2.2.2.2.1, q.2.2.2.2.2.2.1, q.2.2.2.2.2.2.2.1, q.2.2.2.2.2.2.2.2.1, q.2.2.2.2.2.2.2.2.2, er, fc)
theorem run_XZ {V V' sv : Valley_t} {hs hs' : Hist_t} {P : Prog_t} {C : Chord_t} {tk : Key_t} {ln : Line_t} {is er fc er' fc' : Int32} {q : RD_t} {res : Int32 ⊕ String} (h : runF V hs P er fc = some (rnr res V' hs' q er' fc')) : g_X10_run (XZ V sv hs P C tk ln is er fc) = some (res, XZ V' sv hs' (nP P q) C tk ln is er' fc') := by
  unfold g_X10_run
  show q_bd (runF V hs P er fc) _ = _
  rw [h, q_bds]
  rfl
theorem run_ok {V V' : Valley_t} {hs : Hist_t} {P : Prog_t} {er fc : Int32} {q : RD_t} {sl : Nat → Valley_t} {c2 k2 : Int32} (h1 : rd P = some q) (h2 : q.1 = -1) (hb : bgn hs V = some sl) (hk : f_X5_keep hs.2.1 hs.2.2 = some (c2, k2)) (hf : fin q V = some (fl (-1) V')) : runF V hs P er fc = some (rnr (Sum.inl q.2.2.2.2.1) V' (sl, c2, k2) q er fc) := by
  unfold runF f_X10_run
  show q_bd (rd P) _ = _
  rw [h1, q_bds]
  show q_bd (some (0 : Int32)) _ = _
  rw [q_bds, q_brd, if_pos h2]
  show q_bd (bgn hs V) _ = _
  rw [hb, q_bds]
  show q_bd (fin q V) _ = _
  rw [hf, q_bds, q_brd, if_pos rfl]
  show q_bd (f_X5_keep hs.2.1 hs.2.2) _ = _
  rw [hk, q_bds]
theorem run_no {V V1 V2 : Valley_t} {P : Prog_t} {er fc ct : Int32} {q : RD_t} {sl : Nat → Valley_t} {c i : Int} {f : Nat → Valley_t} (h1 : rd P = some q) (h2 : q.1 = -1) (hc : 0 ≤ c ∧ c ≤ 8) (hb : bgn (f, iI c, ct) V = some sl) (hf : fin q V = some (fl (iI i) V1)) (hi : 0 ≤ i ∧ i ≤ 60) (hv : q_vcp V1 (sl c.toNat) = some V2) : runF V (f, iI c, ct) P er fc = some (rnr (Sum.inr "java/lang/UnsupportedOperationException") V2 (sl, iI c, ct) q er (iI i)) := by
  unfold runF f_X10_run
  show q_bd (rd P) _ = _
  rw [h1, q_bds]
  show q_bd (some (0 : Int32)) _ = _
  rw [q_bds, q_brd, if_pos h2]
  show q_bd (bgn (f, iI c, ct) V) _ = _
  rw [hb, q_bds]
  show q_bd (fin q V) _ = _
  rw [hf, q_bds]
  show q_br (iI i = iI (-1)) _ _ = _
  rw [q_brd, if_neg (by rw [iI_eq (by omega)]; omega)]
  show q_bd (f_X5_beginning (iI c)) _ = _
  have hbg : f_X5_beginning (iI c) = some () := if_pos (iI_in (by omega))
  rw [hbg, q_bds]
  show q_gd ((iI c).toNatClampNeg < 9) (q_bd (q_vcp V1 (sl (iI c).toNatClampNeg)) _) = _
  rw [iI_cl (by omega), q_gdd, if_pos (by omega), hv, q_bds]
theorem run_err {V : Valley_t} {hs : Hist_t} {P : Prog_t} {er fc : Int32} {q : RD_t} (h1 : rd P = some q) (h2 : ¬ q.1 = -1) : runF V hs P er fc = some (rnr (Sum.inr "java/lang/IllegalArgumentException") V hs q q.1 fc) := by
  unfold runF f_X10_run
  show q_bd (rd P) _ = _
  rw [h1, q_bds]
  show q_bd (some (0 : Int32)) _ = _
  rw [q_bds, q_brd, if_neg h2]
/-- a program that is carried out -/
theorem runZ_ok {V V' sv : Valley_t} {hs : Hist_t} {P : Prog_t} {C : Chord_t} {tk : Key_t} {ln : Line_t} {is er fc : Int32} {q : RD_t} {G : Int → Int} {L : List (Int → Int)} (h1 : rd P = some q) (h2 : q.1 = -1) (hV : RV V G) (hG : VOk G) (hH : HL hs L) (hf : fin q V = some (fl (-1) V')) : ∃ hs', g_X10_run (XZ V sv hs P C tk ln is er fc) = some (Sum.inl q.2.2.2.2.1, XZ V' sv hs' (nP P q) C tk ln is er fc) ∧ HL hs' ((G :: L).take 8) := by
  obtain ⟨sl, cur, ct⟩ := hs
  obtain ⟨V2, c, rfl, w1, w2, w3, w4⟩ := HL_begin hH hG hV
  obtain ⟨c2, k2, x1, x2⟩ := HL_keep w1 w4 hG w2
  exact ⟨_, run_XZ (run_ok h1 h2 w3 x1 hf), x2⟩
theorem runW_ok {V V' sv : Valley_t} {hs : Hist_t} {P : Prog_t} {C : Chord_t} {tk : Key_t} {ln : Line_t} {is er fc : Int32} {q : RD_t} (h1 : rd P = some q) (h2 : q.1 = -1) (hm : V.1.2.1 = 0 ∨ V.1.2.1 = 1) (hH : HW hs) (hf : fin q V = some (fl (-1) V')) : ∃ hs', g_X10_run (XZ V sv hs P C tk ln is er fc) = some (Sum.inl q.2.2.2.2.1, XZ V' sv hs' (nP P q) C tk ln is er fc) ∧ HW hs' := by
  obtain ⟨sl, cur, ct⟩ := hs
  obtain ⟨c, n, e1, e2, e3, e4⟩ := hH
  have e1' : cur = iI c := e1
  have e3' : ct = iI n := e3
  subst e1' e3'
  obtain ⟨V2, x1⟩ := vcp_ok (sl c.toNat) V hm
  exact ⟨_, run_XZ (run_ok h1 h2 (bgn_of e2 x1) (kp_val e2 e4) hf), ⟨(c + 1) % 9, _, rfl, by omega, rfl, by split <;> omega, by split <;> omega⟩⟩
/-- a program whose command number i fails: the valley is as before -/
theorem runZ_no {V V1 sv : Valley_t} {hs : Hist_t} {P : Prog_t} {C : Chord_t} {tk : Key_t} {ln : Line_t} {is er fc : Int32} {q : RD_t} {G : Int → Int} {L : List (Int → Int)} {i : Int} (h1 : rd P = some q) (h2 : q.1 = -1) (hV : RV V G) (hG : VOk G) (hH : HL hs L) (hf : fin q V = some (fl (iI i) V1)) (hi : 0 ≤ i ∧ i ≤ 60) : ∃ V2 hs', g_X10_run (XZ V sv hs P C tk ln is er fc) = some (Sum.inr "java/lang/UnsupportedOperationException", XZ V2 sv hs' (nP P q) C tk ln is er (iI i)) ∧ RV V2 G ∧ HL hs' L := by
  obtain ⟨sl, cur, ct⟩ := hs
  obtain ⟨V2, c, rfl, w1, w2, w3, w4⟩ := HL_begin hH hG hV
  obtain ⟨V3, x1, x2⟩ := RV_cpy V1 hG w2
  exact ⟨V3, _, run_XZ (run_no h1 h2 w1 w3 hf hi (by rw [upH_s rfl]; exact x1)), x2, w4⟩
theorem runs_UOE {x y : VB_t} (h : g_X10_run x = some (Sum.inr "java/lang/UnsupportedOperationException", y)) : f_L_runs x = some (-2, y) := by
  unfold f_L_runs
  rw [h, q_bds]
  show q_br ("java/lang/UnsupportedOperationException" = "java/lang/IllegalArgumentException") _ (q_br ("java/lang/UnsupportedOperationException" = "java/lang/UnsupportedOperationException") _ _) = _
  rw [q_brd, if_neg (by decide), q_brd, if_pos rfl]
theorem runs_IAE {x y : VB_t} (h : g_X10_run x = some (Sum.inr "java/lang/IllegalArgumentException", y)) : f_L_runs x = some (-1, y) := by
  unfold f_L_runs
  rw [h, q_bds]
  show q_br ("java/lang/IllegalArgumentException" = "java/lang/IllegalArgumentException") _ _ = _
  rw [q_brd, if_pos rfl]
theorem err_XZ {V sv : Valley_t} {hs : Hist_t} {P : Prog_t} {C : Chord_t} {tk : Key_t} {ln : Line_t} {is er fc : Int32} (h : ¬ er = -1) : g_X10_errorPosition (XZ V sv hs P C tk ln is er fc) = some (Sum.inl er) := by
  show f_X10_errorPosition er = _
  unfold f_X10_errorPosition
  rw [q_brd, if_neg h]
theorem fcm_XZ {V sv : Valley_t} {hs : Hist_t} {P : Prog_t} {C : Chord_t} {tk : Key_t} {ln : Line_t} {is er fc : Int32} (h : ¬ fc = -1) : g_X10_failedCommand (XZ V sv hs P C tk ln is er fc) = some (Sum.inl fc) := by
  show f_X10_failedCommand fc = _
  unfold f_X10_failedCommand
  rw [q_brd, if_neg h]
/-- a text that is no program, with its error position -/
theorem fails_ok {k : Nat} {V sv : Valley_t} {hs : Hist_t} {P P' : Prog_t} {C : Chord_t} {tk : Key_t} {ln : Line_t} {is er fc : Int32} {q : RD_t} {p : Int32} (h0 : ptL k 64 0 P = some P') (h1 : rd P' = some q) (h2 : q.1 = p) (h3 : ¬ p = -1) : f_L_fails (XZ V sv hs P C tk ln is er fc) k p = some (1, XZ V sv hs (nP P' q) C tk ln is p fc) := by
  subst h2
  unfold f_L_fails
  rw [put_ok h0, q_bds, runs_IAE (run_XZ (run_err h1 h3)), q_bds]
  show q_br ((-1 : Int32) = -1) _ _ = _
  rw [q_brd, if_pos rfl]
  show q_bd (g_X10_errorPosition (XZ V sv hs (nP P' q) C tk ln is q.1 fc)) _ = _
  rw [err_XZ h3, q_bds]
  show q_br (q.1 = q.1) _ _ = _
  rw [q_brd, if_pos rfl]
