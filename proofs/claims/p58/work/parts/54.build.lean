theorem gm_addBell {V V' sv : Valley_t} {hs hs' : Hist_t} {P : Prog_t} {C : Chord_t} {tk : Key_t} {ln : Line_t} {is er fc : Int32} {res : Int32 ⊕ String} {a b : Int32} (h : chg hs V 0 a b = some (fch res V' hs')) : g_X10_addBell (XZ V sv hs P C tk ln is er fc) a b = some (res, XZ V' sv hs' P C tk ln is er fc) := by
  show q_bd (q_bd (chg hs V 0 a b) _) _ = _
  rw [h, q_bds]
  cases res <;> rfl
theorem gm_removeBell {V V' sv : Valley_t} {hs hs' : Hist_t} {P : Prog_t} {C : Chord_t} {tk : Key_t} {ln : Line_t} {is er fc : Int32} {res : Int32 ⊕ String} {a : Int32} (h : chg hs V 1 a 0 = some (fch res V' hs')) : g_X10_removeBell (XZ V sv hs P C tk ln is er fc) a = some (res, XZ V' sv hs' P C tk ln is er fc) := by
  show q_bd (q_bd (chg hs V 1 a 0) _) _ = _
  rw [h, q_bds]
  cases res <;> rfl
theorem gm_tune {V V' sv : Valley_t} {hs hs' : Hist_t} {P : Prog_t} {C : Chord_t} {tk : Key_t} {ln : Line_t} {is er fc : Int32} {res : Int32 ⊕ String} {a b : Int32} (h : chg hs V 2 a b = some (fch res V' hs')) : g_X10_tune (XZ V sv hs P C tk ln is er fc) a b = some (res, XZ V' sv hs' P C tk ln is er fc) := by
  show q_bd (q_bd (chg hs V 2 a b) _) _ = _
  rw [h, q_bds]
  cases res <;> rfl
theorem gm_moveBell {V V' sv : Valley_t} {hs hs' : Hist_t} {P : Prog_t} {C : Chord_t} {tk : Key_t} {ln : Line_t} {is er fc : Int32} {res : Int32 ⊕ String} {a b : Int32} (h : chg hs V 3 a b = some (fch res V' hs')) : g_X10_moveBell (XZ V sv hs P C tk ln is er fc) a b = some (res, XZ V' sv hs' P C tk ln is er fc) := by
  show q_bd (q_bd (chg hs V 3 a b) _) _ = _
  rw [h, q_bds]
  cases res <;> rfl
theorem gm_setKey0 {V V' sv : Valley_t} {hs hs' : Hist_t} {P : Prog_t} {C : Chord_t} {tk : Key_t} {ln : Line_t} {is er fc : Int32} {res : Int32 ⊕ String} {a : Int32} (h : chg hs V 4 a 0 = some (fch res V' hs')) : g_X10_setKey (XZ V sv hs P C tk ln is er fc) a 0 = some (res, XZ V' sv hs' P C tk ln is er fc) := by
  show q_bd (q_br ((0 : Int32) = 0) (q_bd (chg hs V 4 a 0) _) (q_bd (chg hs V 4 a 1) _)) _ = _
  rw [q_brd, if_pos rfl, h, q_bds]
  cases res <;> rfl
theorem gm_setKey1 {V V' sv : Valley_t} {hs hs' : Hist_t} {P : Prog_t} {C : Chord_t} {tk : Key_t} {ln : Line_t} {is er fc : Int32} {res : Int32 ⊕ String} {a : Int32} (h : chg hs V 4 a 1 = some (fch res V' hs')) : g_X10_setKey (XZ V sv hs P C tk ln is er fc) a 1 = some (res, XZ V' sv hs' P C tk ln is er fc) := by
  show q_bd (q_br ((1 : Int32) = 0) (q_bd (chg hs V 4 a 0) _) (q_bd (chg hs V 4 a 1) _)) _ = _
  rw [q_brd, if_neg (by decide), h, q_bds]
  cases res <;> rfl
theorem gm_setTolerance {V V' sv : Valley_t} {hs hs' : Hist_t} {P : Prog_t} {C : Chord_t} {tk : Key_t} {ln : Line_t} {is er fc : Int32} {res : Int32 ⊕ String} {a : Int32} (h : chg hs V 5 a 0 = some (fch res V' hs')) : g_X10_setTolerance (XZ V sv hs P C tk ln is er fc) a = some (res, XZ V' sv hs' P C tk ln is er fc) := by
  show q_bd (q_bd (chg hs V 5 a 0) _) _ = _
  rw [h, q_bds]
  cases res <;> rfl
theorem gm_addTone {V V' sv : Valley_t} {hs hs' : Hist_t} {P : Prog_t} {C : Chord_t} {tk : Key_t} {ln : Line_t} {is er fc : Int32} {res : Int32 ⊕ String} {a b : Int32} (h : chg hs V 6 a b = some (fch res V' hs')) : g_X10_addTone (XZ V sv hs P C tk ln is er fc) a b = some (res, XZ V' sv hs' P C tk ln is er fc) := by
  show q_bd (q_bd (chg hs V 6 a b) _) _ = _
  rw [h, q_bds]
  cases res <;> rfl
theorem gm_clearMelody {V V' sv : Valley_t} {hs hs' : Hist_t} {P : Prog_t} {C : Chord_t} {tk : Key_t} {ln : Line_t} {is er fc : Int32} {res : Int32 ⊕ String} {a : Int32} (h : chg hs V 7 a 0 = some (fch res V' hs')) : g_X10_clearMelody (XZ V sv hs P C tk ln is er fc) a = some (res, XZ V' sv hs' P C tk ln is er fc) := by
  show q_bd (q_bd (chg hs V 7 a 0) _) _ = _
  rw [h, q_bds]
  cases res <;> rfl
theorem gm_setEntry {V V' sv : Valley_t} {hs hs' : Hist_t} {P : Prog_t} {C : Chord_t} {tk : Key_t} {ln : Line_t} {is er fc : Int32} {res : Int32 ⊕ String} {a b : Int32} (h : chg hs V 8 a b = some (fch res V' hs')) : g_X10_setEntry (XZ V sv hs P C tk ln is er fc) a b = some (res, XZ V' sv hs' P C tk ln is er fc) := by
  show q_bd (q_bd (chg hs V 8 a b) _) _ = _
  rw [h, q_bds]
  cases res <;> rfl
theorem gm_addCliff {V V' sv : Valley_t} {hs hs' : Hist_t} {P : Prog_t} {C : Chord_t} {tk : Key_t} {ln : Line_t} {is er fc : Int32} {res : Int32 ⊕ String} {a b : Int32} (h : chg hs V 9 a b = some (fch res V' hs')) : g_X10_addCliff (XZ V sv hs P C tk ln is er fc) a b = some (res, XZ V' sv hs' P C tk ln is er fc) := by
  show q_bd (q_bd (chg hs V 9 a b) _) _ = _
  rw [h, q_bds]
  cases res <;> rfl
theorem gm_removeCliff {V V' sv : Valley_t} {hs hs' : Hist_t} {P : Prog_t} {C : Chord_t} {tk : Key_t} {ln : Line_t} {is er fc : Int32} {res : Int32 ⊕ String} {a : Int32} (h : chg hs V 10 a 0 = some (fch res V' hs')) : g_X10_removeCliff (XZ V sv hs P C tk ln is er fc) a = some (res, XZ V' sv hs' P C tk ln is er fc) := by
  show q_bd (q_bd (chg hs V 10 a 0) _) _ = _
  rw [h, q_bds]
  cases res <;> rfl
theorem gm_graze {V V' sv : Valley_t} {hs hs' : Hist_t} {P : Prog_t} {C : Chord_t} {tk : Key_t} {ln : Line_t} {is er fc : Int32} {res : Int32 ⊕ String} {a b : Int32} (h : chg hs V 11 a b = some (fch res V' hs')) : g_X10_graze (XZ V sv hs P C tk ln is er fc) a b = some (res, XZ V' sv hs' P C tk ln is er fc) := by
  show q_bd (q_bd (chg hs V 11 a b) _) _ = _
  rw [h, q_bds]
  cases res <;> rfl
theorem am_ok {res : Int32 ⊕ String} (h : (∃ r, res = Sum.inl (iI r)) ∨ ∃ c, (c = -1 ∨ c = -2 ∨ c = -3) ∧ res = Sum.inr (exn c)) : ∃ r : Int32, ∀ y : VB_t, q_sm res (fun X => q_br (X = "java/lang/IllegalStateException") (some ((-200 : Int32), y)) (q_br (X = "java/lang/IllegalArgumentException") (some ((-300), y)) (q_br (X = "java/lang/IndexOutOfBoundsException") (some ((-300), y)) none))) (fun r => some (r, y)) = some (r, y) := by
  rcases h with ⟨r, rfl⟩ | ⟨c, hc, rfl⟩
  · exact ⟨_, fun y => rfl⟩
  · rcases hc with rfl | rfl | rfl
    · refine ⟨-300, fun y => ?_⟩
      show q_br ("java/lang/IndexOutOfBoundsException" = "java/lang/IllegalStateException") _ (q_br ("java/lang/IndexOutOfBoundsException" = "java/lang/IllegalArgumentException") _ (q_br ("java/lang/IndexOutOfBoundsException" = "java/lang/IndexOutOfBoundsException") _ _)) = _
      rw [q_brd, if_neg (by decide), q_brd, if_neg (by decide), q_brd, if_pos rfl]
    · refine ⟨-300, fun y => ?_⟩
      show q_br ("java/lang/IllegalArgumentException" = "java/lang/IllegalStateException") _ (q_br ("java/lang/IllegalArgumentException" = "java/lang/IllegalArgumentException") _ _) = _
      rw [q_brd, if_neg (by decide), q_brd, if_pos rfl]
    · refine ⟨-200, fun y => ?_⟩
      show q_br ("java/lang/IllegalStateException" = "java/lang/IllegalStateException") _ _ = _
      rw [q_brd, if_pos rfl]
/-- a valley with its history, as the changes keep them -/
def good (V : Valley_t) (hs : Hist_t) : Prop := ∃ (G : Int → Int) (L : List (Int → Int)), RV V G ∧ VOk G ∧ HL hs L
def AC (w : Int32) (a b : Int32) (V : Valley_t) (hs : Hist_t) : Prop := ∃ (r : Int32) (V' : Valley_t) (hs' : Hist_t), good V' hs' ∧ ∀ sv P C tk ln is er fc, f_L_act (XZ V sv hs P C tk ln is er fc) w a b = some (r, XZ V' sv hs' P C tk ln is er fc)
set_option maxHeartbeats 2000000 in
theorem ac_0 {a b : Int32} {V : Valley_t} {hs : Hist_t} (hg : good V hs) : AC 0 a b V hs := by
  obtain ⟨G, L, hV, hG, hH⟩ := hg
  have ra := iI_rng a
  have ea := iI_of a
  generalize a.toInt = a' at ra ea
  subst ea
  have rb := iI_rng b
  have eb := iI_of b
  generalize b.toInt = b' at rb eb
  subst eb
  obtain ⟨res, V', hs', G', L', w1, w2, w3, w4, w5⟩ := zs_any (op_0 hV hG (a := a') (b := b') ⟨ra, rb⟩) hV hG hH
  obtain ⟨r, hr⟩ := am_ok w5
  refine ⟨r, V', hs', ⟨G', L', w2, w3, w4⟩, fun sv P C tk ln is er fc => ?_⟩
  unfold f_L_act
  rw [q_brd, if_pos rfl, gm_addBell w1, q_bds]
  exact hr _
set_option maxHeartbeats 2000000 in
theorem ac_1 {a b : Int32} {V : Valley_t} {hs : Hist_t} (hg : good V hs) : AC 1 a b V hs := by
  obtain ⟨G, L, hV, hG, hH⟩ := hg
  have ra := iI_rng a
  have ea := iI_of a
  generalize a.toInt = a' at ra ea
  subst ea
  obtain ⟨res, V', hs', G', L', w1, w2, w3, w4, w5⟩ := zs_any (op_1 hV hG (a := a') (b := 0) ⟨ra, by omega⟩) hV hG hH
  obtain ⟨r, hr⟩ := am_ok w5
  refine ⟨r, V', hs', ⟨G', L', w2, w3, w4⟩, fun sv P C tk ln is er fc => ?_⟩
  unfold f_L_act
  rw [q_brd, if_neg (by decide), q_brd, if_pos rfl, gm_removeBell w1, q_bds]
  exact hr _
set_option maxHeartbeats 2000000 in
theorem ac_2 {a b : Int32} {V : Valley_t} {hs : Hist_t} (hg : good V hs) : AC 2 a b V hs := by
  obtain ⟨G, L, hV, hG, hH⟩ := hg
  have ra := iI_rng a
  have ea := iI_of a
  generalize a.toInt = a' at ra ea
  subst ea
  have rb := iI_rng b
  have eb := iI_of b
  generalize b.toInt = b' at rb eb
  subst eb
  obtain ⟨res, V', hs', G', L', w1, w2, w3, w4, w5⟩ := zs_any (op_2 hV hG (a := a') (b := b') ⟨ra, rb⟩) hV hG hH
  obtain ⟨r, hr⟩ := am_ok w5
  refine ⟨r, V', hs', ⟨G', L', w2, w3, w4⟩, fun sv P C tk ln is er fc => ?_⟩
  unfold f_L_act
  rw [q_brd, if_neg (by decide), q_brd, if_neg (by decide), q_brd, if_pos rfl, gm_tune w1, q_bds]
  exact hr _
set_option maxHeartbeats 2000000 in
theorem ac_3 {a b : Int32} {V : Valley_t} {hs : Hist_t} (hg : good V hs) : AC 3 a b V hs := by
  obtain ⟨G, L, hV, hG, hH⟩ := hg
  have ra := iI_rng a
  have ea := iI_of a
  generalize a.toInt = a' at ra ea
  subst ea
  have rb := iI_rng b
  have eb := iI_of b
  generalize b.toInt = b' at rb eb
  subst eb
  obtain ⟨res, V', hs', G', L', w1, w2, w3, w4, w5⟩ := zs_any (op_3 hV hG (a := a') (b := b') ⟨ra, rb⟩) hV hG hH
  obtain ⟨r, hr⟩ := am_ok w5
  refine ⟨r, V', hs', ⟨G', L', w2, w3, w4⟩, fun sv P C tk ln is er fc => ?_⟩
  unfold f_L_act
  rw [q_brd, if_neg (by decide), q_brd, if_neg (by decide), q_brd, if_neg (by decide), q_brd, if_pos rfl, gm_moveBell w1, q_bds]
  exact hr _
set_option maxHeartbeats 2000000 in
theorem ac_4 {a b : Int32} {V : Valley_t} {hs : Hist_t} (hg : good V hs) : AC 4 a b V hs := by
  obtain ⟨G, L, hV, hG, hH⟩ := hg
  have ra := iI_rng a
  have ea := iI_of a
  generalize a.toInt = a' at ra ea
  subst ea
  by_cases c : b = 1
  · obtain ⟨res, V', hs', G', L', w1, w2, w3, w4, w5⟩ := zs_any (op_4 hV hG (a := a') (b := 1) ⟨ra, by omega⟩ (by omega)) hV hG hH
    obtain ⟨r, hr⟩ := am_ok w5
    refine ⟨r, V', hs', ⟨G', L', w2, w3, w4⟩, fun sv P C tk ln is er fc => ?_⟩
    unfold f_L_act
    rw [q_brd, if_neg (by decide), q_brd, if_neg (by decide), q_brd, if_neg (by decide), q_brd, if_neg (by decide), q_brd, if_pos rfl, q_brd, if_pos c, gm_setKey1 w1, q_bds]
    exact hr _
  · obtain ⟨res, V', hs', G', L', w1, w2, w3, w4, w5⟩ := zs_any (op_4 hV hG (a := a') (b := 0) ⟨ra, by omega⟩ (by omega)) hV hG hH
    obtain ⟨r, hr⟩ := am_ok w5
    refine ⟨r, V', hs', ⟨G', L', w2, w3, w4⟩, fun sv P C tk ln is er fc => ?_⟩
    unfold f_L_act
    rw [q_brd, if_neg (by decide), q_brd, if_neg (by decide), q_brd, if_neg (by decide), q_brd, if_neg (by decide), q_brd, if_pos rfl, q_brd, if_neg c, gm_setKey0 w1, q_bds]
    exact hr _
set_option maxHeartbeats 2000000 in
theorem ac_5 {a b : Int32} {V : Valley_t} {hs : Hist_t} (hg : good V hs) : AC 5 a b V hs := by
  obtain ⟨G, L, hV, hG, hH⟩ := hg
  have ra := iI_rng a
  have ea := iI_of a
  generalize a.toInt = a' at ra ea
  subst ea
  obtain ⟨res, V', hs', G', L', w1, w2, w3, w4, w5⟩ := zs_any (op_5 hV hG (a := a') (b := 0) ⟨ra, by omega⟩) hV hG hH
  obtain ⟨r, hr⟩ := am_ok w5
  refine ⟨r, V', hs', ⟨G', L', w2, w3, w4⟩, fun sv P C tk ln is er fc => ?_⟩
  unfold f_L_act
  rw [q_brd, if_neg (by decide), q_brd, if_neg (by decide), q_brd, if_neg (by decide), q_brd, if_neg (by decide), q_brd, if_neg (by decide), q_brd, if_pos rfl, gm_setTolerance w1, q_bds]
  exact hr _
set_option maxHeartbeats 2000000 in
theorem ac_6 {a b : Int32} {V : Valley_t} {hs : Hist_t} (hg : good V hs) : AC 6 a b V hs := by
  obtain ⟨G, L, hV, hG, hH⟩ := hg
  have ra := iI_rng a
  have ea := iI_of a
  generalize a.toInt = a' at ra ea
  subst ea
  have rb := iI_rng b
  have eb := iI_of b
  generalize b.toInt = b' at rb eb
  subst eb
  obtain ⟨res, V', hs', G', L', w1, w2, w3, w4, w5⟩ := zs_any (op_6 hV hG (a := a') (b := b') ⟨ra, rb⟩) hV hG hH
  obtain ⟨r, hr⟩ := am_ok w5
  refine ⟨r, V', hs', ⟨G', L', w2, w3, w4⟩, fun sv P C tk ln is er fc => ?_⟩
  unfold f_L_act
  rw [q_brd, if_neg (by decide), q_brd, if_neg (by decide), q_brd, if_neg (by decide), q_brd, if_neg (by decide), q_brd, if_neg (by decide), q_brd, if_neg (by decide), q_brd, if_pos rfl, gm_addTone w1, q_bds]
  exact hr _
set_option maxHeartbeats 2000000 in
theorem ac_7 {a b : Int32} {V : Valley_t} {hs : Hist_t} (hg : good V hs) : AC 7 a b V hs := by
  obtain ⟨G, L, hV, hG, hH⟩ := hg
  have ra := iI_rng a
  have ea := iI_of a
  generalize a.toInt = a' at ra ea
  subst ea
  obtain ⟨res, V', hs', G', L', w1, w2, w3, w4, w5⟩ := zs_any (op_7 hV hG (a := a') (b := 0) ⟨ra, by omega⟩) hV hG hH
  obtain ⟨r, hr⟩ := am_ok w5
  refine ⟨r, V', hs', ⟨G', L', w2, w3, w4⟩, fun sv P C tk ln is er fc => ?_⟩
  unfold f_L_act
  rw [q_brd, if_neg (by decide), q_brd, if_neg (by decide), q_brd, if_neg (by decide), q_brd, if_neg (by decide), q_brd, if_neg (by decide), q_brd, if_neg (by decide), q_brd, if_neg (by decide), q_brd, if_pos rfl, gm_clearMelody w1, q_bds]
  exact hr _
set_option maxHeartbeats 2000000 in
theorem ac_8 {a b : Int32} {V : Valley_t} {hs : Hist_t} (hg : good V hs) : AC 8 a b V hs := by
  obtain ⟨G, L, hV, hG, hH⟩ := hg
  have ra := iI_rng a
  have ea := iI_of a
  generalize a.toInt = a' at ra ea
  subst ea
  have rb := iI_rng b
  have eb := iI_of b
  generalize b.toInt = b' at rb eb
  subst eb
  obtain ⟨res, V', hs', G', L', w1, w2, w3, w4, w5⟩ := zs_any (op_8 hV hG (a := a') (b := b') ⟨ra, rb⟩) hV hG hH
  obtain ⟨r, hr⟩ := am_ok w5
  refine ⟨r, V', hs', ⟨G', L', w2, w3, w4⟩, fun sv P C tk ln is er fc => ?_⟩
  unfold f_L_act
  rw [q_brd, if_neg (by decide), q_brd, if_neg (by decide), q_brd, if_neg (by decide), q_brd, if_neg (by decide), q_brd, if_neg (by decide), q_brd, if_neg (by decide), q_brd, if_neg (by decide), q_brd, if_neg (by decide), q_brd, if_pos rfl, gm_setEntry w1, q_bds]
  exact hr _
set_option maxHeartbeats 2000000 in
theorem ac_9 {a b : Int32} {V : Valley_t} {hs : Hist_t} (hg : good V hs) : AC 9 a b V hs := by
  obtain ⟨G, L, hV, hG, hH⟩ := hg
  have ra := iI_rng a
  have ea := iI_of a
  generalize a.toInt = a' at ra ea
  subst ea
  have rb := iI_rng b
  have eb := iI_of b
  generalize b.toInt = b' at rb eb
  subst eb
  obtain ⟨res, V', hs', G', L', w1, w2, w3, w4, w5⟩ := zs_any (op_9 hV hG (a := a') (b := b') ⟨ra, rb⟩) hV hG hH
  obtain ⟨r, hr⟩ := am_ok w5
  refine ⟨r, V', hs', ⟨G', L', w2, w3, w4⟩, fun sv P C tk ln is er fc => ?_⟩
  unfold f_L_act
  rw [q_brd, if_neg (by decide), q_brd, if_neg (by decide), q_brd, if_neg (by decide), q_brd, if_neg (by decide), q_brd, if_neg (by decide), q_brd, if_neg (by decide), q_brd, if_neg (by decide), q_brd, if_neg (by decide), q_brd, if_neg (by decide), q_brd, if_pos rfl, gm_addCliff w1, q_bds]
  exact hr _
set_option maxHeartbeats 2000000 in
theorem ac_10 {a b : Int32} {V : Valley_t} {hs : Hist_t} (hg : good V hs) : AC 10 a b V hs := by
  obtain ⟨G, L, hV, hG, hH⟩ := hg
  have ra := iI_rng a
  have ea := iI_of a
  generalize a.toInt = a' at ra ea
  subst ea
  obtain ⟨res, V', hs', G', L', w1, w2, w3, w4, w5⟩ := zs_any (op_10 hV hG (a := a') (b := 0) ⟨ra, by omega⟩) hV hG hH
  obtain ⟨r, hr⟩ := am_ok w5
  refine ⟨r, V', hs', ⟨G', L', w2, w3, w4⟩, fun sv P C tk ln is er fc => ?_⟩
  unfold f_L_act
  rw [q_brd, if_neg (by decide), q_brd, if_neg (by decide), q_brd, if_neg (by decide), q_brd, if_neg (by decide), q_brd, if_neg (by decide), q_brd, if_neg (by decide), q_brd, if_neg (by decide), q_brd, if_neg (by decide), q_brd, if_neg (by decide), q_brd, if_neg (by decide), q_brd, if_pos rfl, gm_removeCliff w1, q_bds]
  exact hr _
set_option maxHeartbeats 2000000 in
theorem ac_11 {a b : Int32} {V : Valley_t} {hs : Hist_t} (hg : good V hs) : AC 11 a b V hs := by
  obtain ⟨G, L, hV, hG, hH⟩ := hg
  have ra := iI_rng a
  have ea := iI_of a
  generalize a.toInt = a' at ra ea
  subst ea
  have rb := iI_rng b
  have eb := iI_of b
  generalize b.toInt = b' at rb eb
  subst eb
  obtain ⟨res, V', hs', G', L', w1, w2, w3, w4, w5⟩ := zs_any (op_11 hV hG (a := a') (b := b') ⟨ra, rb⟩) hV hG hH
  obtain ⟨r, hr⟩ := am_ok w5
  refine ⟨r, V', hs', ⟨G', L', w2, w3, w4⟩, fun sv P C tk ln is er fc => ?_⟩
  unfold f_L_act
  rw [q_brd, if_neg (by decide), q_brd, if_neg (by decide), q_brd, if_neg (by decide), q_brd, if_neg (by decide), q_brd, if_neg (by decide), q_brd, if_neg (by decide), q_brd, if_neg (by decide), q_brd, if_neg (by decide), q_brd, if_neg (by decide), q_brd, if_neg (by decide), q_brd, if_neg (by decide), gm_graze w1, q_bds]
  exact hr _
/-! both objects are built alike -/
def P0 : Prog_t := ((fun _ => 0, 0, fun _ => none, fun _ => 0), (fun _ => 0, 0, fun _ => 0, 0), (1, 0, 0))
def C0 : Chord_t := (fun _ => 0, fun _ => 0, 0)
def h0 : Hist_t := (fun _ => v_init, 0, 0)
def tk0 : Key_t := (0, 0, 10)
def ln0 : Line_t := (fun _ => 0, 16, 0, 0, 0)
abbrev XB (V : Valley_t) (hs : Hist_t) : VB_t := XZ V v_init hs P0 C0 tk0 ln0 0 (-1) (-1)
theorem vbi_XB : vbi = XB v_init h0 := rfl
def z_G : Int → Int := fun t => if t = 4 then 10 else 0
theorem z_Gn {t : Int} (h : ¬ t = 4) : z_G t = 0 := if_neg h
theorem rv_init : RV v_init z_G := by
  refine ⟨fun _ => 0, fun _ => 0, fun _ => 0, fun _ => 0, fun _ => 0, fun _ => 0, fun _ => 0, rfl, fun k k0 k1 => ?_, fun h h0 h1 => ⟨?_, ?_, fun k k0 k1 => ?_⟩, fun k k0 k1 => ?_⟩
  · rw [z_Gn (by decide)] at k1; omega
  · rw [z_Gn (by omega)]
  · rw [z_Gn (by omega)]
  · rw [z_Gn (by omega)] at k1; omega
  · rw [z_Gn (by decide)] at k1; omega
theorem vok_init : VOk z_G := by
  refine ⟨by decide, by decide, by decide, Or.inl rfl, by decide, fun k k0 k1 => ?_, fun h h0 h1 => ⟨?_, ?_, fun k k0 k1 => ?_⟩, fun k k0 k1 => ?_⟩
  · rw [z_Gn (by decide)] at k1; omega
  · rw [z_Gn (by omega)]; omega
  · rw [z_Gn (by omega)]; omega
  · rw [z_Gn (by omega)] at k1; omega
  · rw [z_Gn (by decide)] at k1; omega
theorem good0 : good v_init h0 := ⟨z_G, [], rv_init, vok_init, 0, rfl, by omega, rfl, by decide, fun j G h => by cases h⟩
/-- what a stretch of the building does: it ends in a good state, whatever follows -/
def Pp (F : (VB_t → Option VB_t) → Option VB_t) : Prop := ∃ V' hs', good V' hs' ∧ ∀ K, F K = K (XB V' hs')
theorem p_end {V : Valley_t} {hs : Hist_t} (hg : good V hs) : Pp (fun K => K (XB V hs)) := ⟨V, hs, hg, fun _ => rfl⟩
theorem p_some {α : Type} {x : Option α} {v : α} {F : α → (VB_t → Option VB_t) → Option VB_t} (h : x = some v) (hF : Pp (fun K => F v K)) : Pp (fun K => q_bd x (fun q => F q K)) := by
  subst h; exact hF
theorem p_lt {α : Type} {v : α} {F : α → (VB_t → Option VB_t) → Option VB_t} (hF : Pp (fun K => F v K)) : Pp (fun K => q_lt v (fun q => F q K)) := hF
theorem p_gd {c : Prop} {dc : Decidable c} {F : (VB_t → Option VB_t) → Option VB_t} (h : c) (hF : Pp F) : Pp (fun K => @q_gd _ c dc (F K)) := by
  obtain ⟨V, hs, h1, h2⟩ := hF
  exact ⟨V, hs, h1, fun K => (if_pos h).trans (h2 K)⟩
theorem p_brp {c : Prop} {dc : Decidable c} {F1 F2 : (VB_t → Option VB_t) → Option VB_t} (h : c) (hF : Pp F1) : Pp (fun K => @q_br _ c dc (F1 K) (F2 K)) := by
  obtain ⟨V, hs, h1, h2⟩ := hF
  exact ⟨V, hs, h1, fun K => (if_pos h).trans (h2 K)⟩
theorem p_brn {c : Prop} {dc : Decidable c} {F1 F2 : (VB_t → Option VB_t) → Option VB_t} (h : ¬ c) (hF : Pp F2) : Pp (fun K => @q_br _ c dc (F1 K) (F2 K)) := by
  obtain ⟨V, hs, h1, h2⟩ := hF
  exact ⟨V, hs, h1, fun K => (if_neg h).trans (h2 K)⟩
theorem p_act {w a b : Int32} {V : Valley_t} {hs : Hist_t} {F : (VB_t → Option VB_t) → Int32 × VB_t → Option VB_t} (ha : AC w a b V hs) (hF : ∀ r V' hs', good V' hs' → Pp (fun K => F K (r, XB V' hs'))) : Pp (fun K => q_bd (f_L_act (XB V hs) w a b) (fun q => F K q)) := by
  obtain ⟨r, V', hs', h1, h2⟩ := ha
  refine p_some (F := fun q K => F K q) (h2 _ _ _ _ _ _ _ _) (hF r V' hs' h1)
/-- where two ways meet -/
theorem p_jn {c : Prop} {dc : Decidable c} {X : VB_t} {F : (VB_t → Option VB_t) → VB_t → Option VB_t} {A : (VB_t → Option VB_t) → Option VB_t} {V : Valley_t} {hs : Hist_t} (hg : good V hs) (hX : X = XB V hs) (hA : Pp A) (hF : ∀ V' hs', good V' hs' → Pp (fun K => F K (XB V' hs'))) : Pp (fun K => q_lt (fun j => F K j) (fun J => @q_br _ c dc (A J) (J X))) := by
  subst hX
  by_cases h : c
  · obtain ⟨V1, hs1, h1, h2⟩ := hA
    obtain ⟨V2, hs2, h3, h4⟩ := hF V1 hs1 h1
    exact ⟨V2, hs2, h3, fun K => (if_pos h).trans ((h2 (fun j => F K j)).trans (h4 K))⟩
  · obtain ⟨V2, hs2, h3, h4⟩ := hF V hs hg
    exact ⟨V2, hs2, h3, fun K => (if_neg h).trans (h4 K)⟩
theorem and_rng (q : Int32) (m : Nat) (hm : m < 2 ^ 31) : ∃ n : Int, (0 ≤ n ∧ n ≤ m) ∧ q &&& iI m = iI n := by
  refine ⟨((q.toBitVec &&& BitVec.ofNat 32 m).toNat : Int), ⟨by omega, ?_⟩, ?_⟩
  · have : (q.toBitVec &&& BitVec.ofNat 32 m).toNat ≤ (BitVec.ofNat 32 m).toNat := by
      rw [BitVec.toNat_and]; exact Nat.and_le_right
    rw [BitVec.toNat_ofNat, Nat.mod_eq_of_lt (by omega)] at this
    omega
  · refine Int32.toBitVec_inj.mp ?_
    rw [Int32.toBitVec_and]
    show q.toBitVec &&& (Int32.ofInt (m : Int)).toBitVec = (Int32.ofInt (((q.toBitVec &&& BitVec.ofNat 32 m).toNat : Nat) : Int)).toBitVec
    have hb : ∀ n : Nat, (Int32.ofInt (n : Int)).toBitVec = BitVec.ofNat 32 n := fun n => rfl
    rw [hb m, hb _, BitVec.ofNat_toNat, BitVec.setWidth_eq]
theorem b16 {q : Int32} {n : Int} (hn : 0 ≤ n ∧ n ≤ 3) (hq : q &&& 3 = iI n) (d : Nat) : ∀ (i : Int) (fuel : Nat) (V : Valley_t) (hs : Hist_t), 0 ≤ i → i + d = 3 + n → d < fuel → good V hs → Pp (fun K => f_L_build_L16 q K fuel (iI i) (XB V hs)) := by
  induction d with
  | zero =>
    intro i fuel V hs h1 h2 h3 hg
    obtain ⟨f, rfl⟩ : ∃ f, fuel = f + 1 := ⟨fuel - 1, by omega⟩
    simp only [f_L_build_L16, hq]
    rw [show (3 : Int32) = iI 3 from rfl, iI_add]
    exact p_brp (by rw [iI_le (by omega)]; omega) (p_end hg)
  | succ d ih =>
    intro i fuel V hs h1 h2 h3 hg
    obtain ⟨f, rfl⟩ : ∃ f, fuel = f + 1 := ⟨fuel - 1, by omega⟩
    simp only [f_L_build_L16, hq]
    refine p_brn (by rw [show (3 : Int32) = iI 3 from rfl, iI_add, iI_le (by omega)]; omega) ?_
    refine p_act (F := fun K q5 => q_lt (iI i + 1) (fun v6 => f_L_build_L16 q K f v6 q5.2)) (ac_0 hg) (fun r V' hs' hg' => ?_)
    rw [show (1 : Int32) = iI 1 from rfl, iI_add]
    exact ih (i + 1) f V' hs' (by omega) (by omega) (by omega) hg'
theorem at_ok (ns : Nat) (hn : ns ≤ 260) (xs : Nat → Int32) {i : Int} (hi : 0 ≤ i ∧ i ≤ 100) : ∃ v, f_L_at ns xs (iI i) = some v := by
  unfold f_L_at
  by_cases c : (Int32.ofNat ns) ≤ iI i
  · exact ⟨0, by rw [q_brd, if_pos c]⟩
  · refine ⟨xs (iI i).toNatClampNeg, ?_⟩
    have c2 : ¬ (iI (ns : Int)) ≤ iI i := c
    rw [iI_le (by omega)] at c2
    rw [q_brd, if_neg c, q_gdd, if_pos (iI_in (by omega))]
theorem b78 (ns : Nat) (hn : ns ≤ 260) (xs : Nat → Int32) (d : Nat) : ∀ (i : Int) (fuel : Nat) (V : Valley_t) (hs : Hist_t), 1 ≤ i → i + d = 13 → d < fuel → good V hs → Pp (fun K => f_L_build_L78 ns xs K fuel (iI i) (XB V hs)) := by
  induction d with
  | zero =>
    intro i fuel V hs h1 h2 h3 hg
    obtain ⟨f, rfl⟩ : ∃ f, fuel = f + 1 := ⟨fuel - 1, by omega⟩
    simp only [f_L_build_L78]
    exact p_brp (by rw [show (13 : Int32) = iI 13 from rfl, iI_le (by omega)]; omega) (p_end hg)
  | succ d ih =>
    intro i fuel V hs h1 h2 h3 hg
    obtain ⟨f, rfl⟩ : ∃ f, fuel = f + 1 := ⟨fuel - 1, by omega⟩
    obtain ⟨v, hv⟩ := at_ok ns hn xs (i := i) (by omega)
    obtain ⟨G, L, hV, hG, hH⟩ := id hg
    have g0 := hG.1
    obtain ⟨bl, hbl, hbz⟩ : ∃ bl : Int32, (if 1 < iI (G 0) then iI (G 0) else 1) = bl ∧ ¬ bl = 0 := by
      refine ⟨_, rfl, ?_⟩
      by_cases c : (1 : Int32) < iI (G 0)
      · rw [if_pos c]
        rw [show (1 : Int32) = iI 1 from rfl, iI_lt (by omega)] at c
        rw [show (0 : Int32) = iI 0 from rfl, iI_eq (by omega)]; omega
      · rw [if_neg c]; decide
    simp only [f_L_build_L78]
    refine p_brn (by rw [show (13 : Int32) = iI 13 from rfl, iI_le (by omega)]; omega) ?_
    refine p_some hv ?_
    refine p_some (qs_count hV) ?_
    rw [hbl]
    refine p_lt (p_gd hbz (p_lt ?_))
    refine p_act (ac_6 hg) (fun r1 V1 hs1 hg1 => p_gd hbz ?_)
    refine p_act (ac_6 hg1) (fun r2 V2 hs2 hg2 => ?_)
    refine p_jn hg2 rfl (p_gd hbz (p_act (F := fun K q => K q.2) (ac_2 hg2) (fun r V9 hs9 hg9 => p_end hg9))) (fun V3 hs3 hg3 => ?_)
    refine p_jn hg3 rfl (p_act (F := fun K q => K q.2) (ac_4 hg3) (fun r V9 hs9 hg9 => p_end hg9)) (fun V4 hs4 hg4 => ?_)
    refine p_jn hg4 rfl (p_act (F := fun K q => K q.2) (ac_8 hg4) (fun r V9 hs9 hg9 => p_end hg9)) (fun V5 hs5 hg5 => ?_)
    refine p_jn hg5 rfl (p_act (F := fun K q => K q.2) (ac_9 hg5) (fun r V9 hs9 hg9 => p_end hg9)) (fun V6 hs6 hg6 => ?_)
    refine p_jn hg6 rfl (p_act (F := fun K q => K q.2) (ac_5 hg6) (fun r V9 hs9 hg9 => p_end hg9)) (fun V7 hs7 hg7 => ?_)
    refine p_jn hg7 rfl (p_gd hbz (p_act (F := fun K q => K q.2) (ac_3 hg7) (fun r V9 hs9 hg9 => p_end hg9))) (fun V8 hs8 hg8 => ?_)
    refine p_jn hg8 rfl (p_act (F := fun K q => K q.2) (ac_11 hg8) (fun r V9 hs9 hg9 => p_end hg9)) (fun V9 hs9 hg9 => ?_)
    refine p_jn hg9 rfl (p_gd hbz (p_act (F := fun K q => K q.2) (ac_1 hg9) (fun r V9 hs9 hg9 => p_end hg9))) (fun V10 hs10 hg10 => ?_)
    refine p_jn hg10 rfl (p_act (F := fun K q => K q.2) (ac_7 hg10) (fun r V9 hs9 hg9 => p_end hg9)) (fun V11 hs11 hg11 => ?_)
    refine p_jn hg11 rfl (p_act (F := fun K q => K q.2) (ac_0 hg11) (fun r V9 hs9 hg9 => p_end hg9)) (fun V12 hs12 hg12 => ?_)
    obtain ⟨GA, LA, hVA, hGA, hHA⟩ := id hg12
    have hcz : ¬ (if 1 < iI (GA 1) then iI (GA 1) else 1) = (0 : Int32) := by
      have g1 := hGA.2.1
      by_cases c : (1 : Int32) < iI (GA 1)
      · rw [if_pos c]
        rw [show (1 : Int32) = iI 1 from rfl, iI_lt (by omega)] at c
        rw [show (0 : Int32) = iI 0 from rfl, iI_eq (by omega)]; omega
      · rw [if_neg c]; decide
    refine p_jn hg12 rfl (p_some (qs_cliffs hVA) (p_gd hcz (p_act (F := fun K q => K q.2) (ac_10 hg12) (fun r V9 hs9 hg9 => p_end hg9)))) (fun V13 hs13 hg13 => ?_)
    rw [show (1 : Int32) = iI 1 from rfl, iI_add]
    exact p_lt (ih (i + 1) f V13 hs13 (by omega) (by omega) (by omega) hg13)
theorem build_ok (ns : Nat) (hn : ns ≤ 260) (xs : Nat → Int32) : ∃ V hs, good V hs ∧ f_L_build ns xs = some (XB V hs) := by
  obtain ⟨v, hv⟩ := at_ok ns hn xs (i := 0) (by omega)
  obtain ⟨n, hn3, hq⟩ := and_rng v 3 (by decide)
  obtain ⟨V1, hs1, hg1, e1⟩ := b16 (q := v) hn3 hq (3 + n).toNat 0 8 v_init h0 (by omega) (by omega) (by omega) good0
  obtain ⟨V2, hs2, hg2, e2⟩ := b78 ns hn xs 12 1 16 V1 hs1 (by omega) (by omega) (by omega) hg1
  refine ⟨V2, hs2, hg2, ?_⟩
  unfold f_L_build
  show q_bd (f_L_at ns xs (iI 0)) _ = _
  rw [hv, q_bds]
  exact (e1 _).trans (e2 _)
