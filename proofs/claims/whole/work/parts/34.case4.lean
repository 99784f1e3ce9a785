/-! case 28 -/
theorem dL_law_1778 : decode cL_law 1778 = .ok (.aload_n 1, 1) := by decide +kernel
theorem dL_law_1779 : decode cL_law 1779 = .ok (.aload_n 0, 1) := by decide +kernel
theorem dL_law_1780 : decode cL_law 1780 = .ok (.iload 5, 2) := by decide +kernel
theorem dL_law_1782 : decode cL_law 1782 = .ok (.iconst 1, 1) := by decide +kernel
theorem dL_law_1783 : decode cL_law 1783 = .ok (.iadd, 1) := by decide +kernel
theorem dL_law_1784 : decode cL_law 1784 = .ok (.iaload, 1) := by decide +kernel
theorem dL_law_1785 : decode cL_law 1785 = .ok (.ifCond .eq 7, 3) := by decide +kernel
theorem dL_law_1788 : decode cL_law 1788 = .ok (.iconst 1, 1) := by decide +kernel
theorem dL_law_1789 : decode cL_law 1789 = .ok (.goto 4, 3) := by decide +kernel
theorem dL_law_1792 : decode cL_law 1792 = .ok (.iconst 0, 1) := by decide +kernel
theorem dL_law_1793 : decode cL_law 1793 = .ok (.invokevirtual 253, 3) := by decide +kernel
theorem dL_law_1796 : decode cL_law 1796 = .ok (.aload_n 2, 1) := by decide +kernel
theorem dL_law_1797 : decode cL_law 1797 = .ok (.aload_n 0, 1) := by decide +kernel
theorem dL_law_1798 : decode cL_law 1798 = .ok (.iload 5, 2) := by decide +kernel
theorem dL_law_1800 : decode cL_law 1800 = .ok (.iconst 1, 1) := by decide +kernel
theorem dL_law_1801 : decode cL_law 1801 = .ok (.iadd, 1) := by decide +kernel
theorem dL_law_1802 : decode cL_law 1802 = .ok (.iaload, 1) := by decide +kernel
theorem dL_law_1803 : decode cL_law 1803 = .ok (.ifCond .eq 7, 3) := by decide +kernel
theorem dL_law_1806 : decode cL_law 1806 = .ok (.iconst 1, 1) := by decide +kernel
theorem dL_law_1807 : decode cL_law 1807 = .ok (.goto 4, 3) := by decide +kernel
theorem dL_law_1810 : decode cL_law 1810 = .ok (.iconst 0, 1) := by decide +kernel
theorem dL_law_1811 : decode cL_law 1811 = .ok (.invokevirtual 257, 3) := by decide +kernel
theorem dL_law_1814 : decode cL_law 1814 = .ok (.if_icmp .eq 1067, 3) := by decide +kernel
def f_case28 (x_valley_key_tonic : Int32) (x_valley_key_isMinor : Int32) (x_valley_key_tolerance : Int32) (x_valley_bells_pitches : (Nat → Int32)) (x_valley_bells_count : Int32) (x_trialKey_tonic : Int32) (x_trialKey_isMinor : Int32) (x_trialKey_tolerance : Int32) (y_g : (Nat → Int32)) (y_thrown : Int32) (xs : (Nat → Int32)) (n : Nat) (i : Int32) : Option (Int32 × Int32 × Int32 × Int32) :=
  q_gd (q_in (i + 1) n) (
  q_lt (fun (j2 : Int32) =>
  q_bd (f_X10_bestTonic x_valley_key_tonic x_valley_key_isMinor x_valley_key_tolerance x_valley_bells_pitches x_valley_bells_count x_trialKey_tonic x_trialKey_isMinor x_trialKey_tolerance j2) (fun q3 =>
  q_gd (q_in (i + 1) n) (
  q_lt (fun (j5 : Int32) =>
  q_bd (f_X11_bestTonic y_g y_thrown j5) (fun q6 =>
  q_br (q3.1 = q6.1) (
  some (q3.2.1, q3.2.2.1, q3.2.2.2, q6.2)) (
  none))) (fun (J1811 : Int32 → Option (Int32 × Int32 × Int32 × Int32)) =>
  q_br ((xs (i + 1).toNatClampNeg) = 0) (
  J1811 0) (
  J1811 1))))) (fun (J1793 : Int32 → Option (Int32 × Int32 × Int32 × Int32)) =>
  q_br ((xs (i + 1).toNatClampNeg) = 0) (
  J1793 0) (
  J1793 1)))
set_option maxHeartbeats 4000000 in
set_option maxRecDepth 100000 in
theorem kc_28 {p : Program} {e : Env} {s : State} {m : MethodId} {args : Array Value} {below : List Frame} {meth : Method} {c : Code} {Q : State → Prop} {A : Nat → Prop} (l : Launch) (hlt : l.stackTraces = false) (E : ET) (a : Nat → Nat) (o : Nat) (x : VB_t) (ay : Nat → Nat) (oy : Nat) (y : Model_t) (az : Nat → Nat) (oz : Nat) (z : Nat → Int64) (aw : Nat → Nat) (ow : Nat) (w : Nat → UInt64) (b n : Nat) (xs : Nat → Int32) (i : Int32) (hx : p.tables.exec = Jvm.exec) (hb : c.code = cL_law) (hml : c.maxLocals = 9) (hown : s.vm.findClass RL = some m.cls) (ha : ∀ w ∈ lw_all, w.before args s = true) (hA : ∀ q, s.heap.size ≤ q → A q) (hz : ∀ q, A q → E.2 0 ≤ q) (hzs : E.2 0 ≤ s.heap.size) (hst : ST E s) (hX : va_X b n xs s s.heap) (hbl : b < s.heap.size) (hbA : ¬ A b) (res : Int32 × Int32 × Int32 × Int32) (hF : f_case28 x.1.1.1.1 x.1.1.1.2.1 x.1.1.1.2.2 x.1.1.2.1.2.1 x.1.1.2.1.2.2 x.2.1.1 x.2.1.2.1 x.2.1.2.2 y.1.1 y.2.2.2.1 xs n i = some res) {H : Heap} {locs : List Loc} {ls : Array Slot} {cv sv : Nat} (hcv : cv + 60 ≤ 603072) (hsv : sv + 5100 ≤ 7207018) (hP : va_P E.1 vwCl (List.flatten [w_VBR a o x.2.2.2.1 x.2.2.2.2.1 x.2.2.2.2.2, w_ValleyR a (o + 1), w_Key E a (o + 2) x.1.1.1, w_Bells E a (o + 3) x.1.1.2.1, w_Mel E a (o + 6) x.1.1.2.2.1, w_Cliffs E a (o + 10) x.1.1.2.2.2, w_ValleyR a (o + 13), w_Key E a (o + 14) x.1.2.1.1, w_Bells E a (o + 15) x.1.2.1.2.1, w_Mel E a (o + 18) x.1.2.1.2.2.1, w_Cliffs E a (o + 22) x.1.2.1.2.2.2, w_Prog E a (o + 25) x.1.2.2.2.1, w_Chord E a (o + 31) x.1.2.2.2.2, w_Key E a (o + 34) x.2.1, w_Line E a (o + 35) x.2.2.1, w_Hist E a (o + 37) x.1.2.2.1, w_Model E ay oy y, w_LongArr E az oz z, w_DblArr E aw ow w]) H) (hD : va_D A (List.flatten [w_VBR a o x.2.2.2.1 x.2.2.2.2.1 x.2.2.2.2.2, w_ValleyR a (o + 1), w_Key E a (o + 2) x.1.1.1, w_Bells E a (o + 3) x.1.1.2.1, w_Mel E a (o + 6) x.1.1.2.2.1, w_Cliffs E a (o + 10) x.1.1.2.2.2, w_ValleyR a (o + 13), w_Key E a (o + 14) x.1.2.1.1, w_Bells E a (o + 15) x.1.2.1.2.1, w_Mel E a (o + 18) x.1.2.1.2.2.1, w_Cliffs E a (o + 22) x.1.2.1.2.2.2, w_Prog E a (o + 25) x.1.2.2.2.1, w_Chord E a (o + 31) x.1.2.2.2.2, w_Key E a (o + 34) x.2.1, w_Line E a (o + 35) x.2.2.1, w_Hist E a (o + 37) x.1.2.2.1, w_Model E ay oy y, w_LongArr E az oz z, w_DblArr E aw ow w])) (hS : va_S A s.heap H locs) (hl : lv_has ls 9 [(0, .ref b), (1, .ref (a o)), (2, .ref (ay oy)), (3, .ref (az oz)), (4, .ref (aw ow)), (5, .int i)])
    (hK : ∀ (H : Heap) (locs : List Loc) (ls : Array Slot), va_P E.1 vwCl (List.flatten (bl_VB E a o ((x.1.1, x.1.2.1, x.1.2.2.1, x.1.2.2.2.1, x.1.2.2.2.2), ((res.1, res.2.1, res.2.2.1), x.2.2.1, x.2.2.2.1, x.2.2.2.2.1, x.2.2.2.2.2)) ++ (bl_Model E ay oy ((y.1.1, y.1.2.1, y.1.2.2.1, y.1.2.2.2.1, y.1.2.2.2.2), (y.2.1.1, y.2.1.2.1, y.2.1.2.2.1, y.2.1.2.2.2.1, y.2.1.2.2.2.2), (y.2.2.1.1, y.2.2.1.2.1, y.2.2.1.2.2.1, y.2.2.1.2.2.2), (res.2.2.2, y.2.2.2.2.1, y.2.2.2.2.2.1, y.2.2.2.2.2.2)) ++ (bl_LongArr E az oz z ++ bl_DblArr E aw ow w)))) H → va_D A (List.flatten (bl_VB E a o ((x.1.1, x.1.2.1, x.1.2.2.1, x.1.2.2.2.1, x.1.2.2.2.2), ((res.1, res.2.1, res.2.2.1), x.2.2.1, x.2.2.2.1, x.2.2.2.2.1, x.2.2.2.2.2)) ++ (bl_Model E ay oy ((y.1.1, y.1.2.1, y.1.2.2.1, y.1.2.2.2.1, y.1.2.2.2.2), (y.2.1.1, y.2.1.2.1, y.2.1.2.2.1, y.2.1.2.2.2.1, y.2.1.2.2.2.2), (y.2.2.1.1, y.2.2.1.2.1, y.2.2.1.2.2.1, y.2.2.1.2.2.2), (res.2.2.2, y.2.2.2.2.1, y.2.2.2.2.2.1, y.2.2.2.2.2.2)) ++ (bl_LongArr E az oz z ++ bl_DblArr E aw ow w)))) → va_S A s.heap H locs → lv_has ls 9 [(0, .ref b), (1, .ref (a o)), (2, .ref (ay oy)), (3, .ref (az oz)), (4, .ref (aw ow)), (5, .int i)] → W p l e room_1 s m args below meth c H locs (cv + 60) (sv + 5100) Q (F0 m 2881 ls [])) : W p l e room_1 s m args below meth c H locs cv sv Q (F0 m 1778 ls []) := by
  unfold f_case28 at hF
  refine lv_aload_n hx hb dL_law_1778 rfl (lv_at hl 1 rfl) ?_
  refine lv_aload_n hx hb dL_law_1779 rfl (lv_at hl 0 rfl) ?_
  refine lv_iload hx hb dL_law_1780 (lv_at hl 5 rfl) ?_
  refine lv_iconst (v := 1) hx hb dL_law_1782 (by decide) ?_
  refine lv_iadd hx hb dL_law_1783 ?_
  obtain ⟨g1, hF⟩ := q_gdi hF
  refine va_sld hx hb hX hbl hbA hS g1 dL_law_1784 ?_
  obtain ⟨J1793, hJ1793, hF⟩ := q_jn hF
  have jJ1793 : ∀ (j2 : Int32), ∀ (H : Heap) (locs : List Loc) (ls : Array Slot), J1793 j2 = some res → va_P E.1 vwCl (List.flatten [w_VBR a o x.2.2.2.1 x.2.2.2.2.1 x.2.2.2.2.2, w_ValleyR a (o + 1), w_Key E a (o + 2) x.1.1.1, w_Bells E a (o + 3) x.1.1.2.1, w_Mel E a (o + 6) x.1.1.2.2.1, w_Cliffs E a (o + 10) x.1.1.2.2.2, w_ValleyR a (o + 13), w_Key E a (o + 14) x.1.2.1.1, w_Bells E a (o + 15) x.1.2.1.2.1, w_Mel E a (o + 18) x.1.2.1.2.2.1, w_Cliffs E a (o + 22) x.1.2.1.2.2.2, w_Prog E a (o + 25) x.1.2.2.2.1, w_Chord E a (o + 31) x.1.2.2.2.2, w_Key E a (o + 34) x.2.1, w_Line E a (o + 35) x.2.2.1, w_Hist E a (o + 37) x.1.2.2.1, w_Model E ay oy y, w_LongArr E az oz z, w_DblArr E aw ow w]) H → va_D A (List.flatten [w_VBR a o x.2.2.2.1 x.2.2.2.2.1 x.2.2.2.2.2, w_ValleyR a (o + 1), w_Key E a (o + 2) x.1.1.1, w_Bells E a (o + 3) x.1.1.2.1, w_Mel E a (o + 6) x.1.1.2.2.1, w_Cliffs E a (o + 10) x.1.1.2.2.2, w_ValleyR a (o + 13), w_Key E a (o + 14) x.1.2.1.1, w_Bells E a (o + 15) x.1.2.1.2.1, w_Mel E a (o + 18) x.1.2.1.2.2.1, w_Cliffs E a (o + 22) x.1.2.1.2.2.2, w_Prog E a (o + 25) x.1.2.2.2.1, w_Chord E a (o + 31) x.1.2.2.2.2, w_Key E a (o + 34) x.2.1, w_Line E a (o + 35) x.2.2.1, w_Hist E a (o + 37) x.1.2.2.1, w_Model E ay oy y, w_LongArr E az oz z, w_DblArr E aw ow w]) → va_S A s.heap H locs → lv_has ls 9 [(0, .ref b), (1, .ref (a o)), (2, .ref (ay oy)), (3, .ref (az oz)), (4, .ref (aw ow)), (5, .int i)] → W p l e room_1 s m args below meth c H locs cv sv Q (F0 m 1793 ls [.int j2, .ref (a o)]) := by
    intro j2 H locs ls hF hP hD hS hl
    rw [hJ1793] at hF
    obtain ⟨q3, hq3, hF⟩ := q_bdi hF
    refine cl_i (Lc := [w_VBR a o x.2.2.2.1 x.2.2.2.2.1 x.2.2.2.2.2, w_ValleyR a (o + 1), w_Key E a (o + 2) x.1.1.1, w_Bells E a (o + 3) x.1.1.2.1, w_Mel E a (o + 6) x.1.1.2.2.1, w_Cliffs E a (o + 10) x.1.1.2.2.2, w_ValleyR a (o + 13), w_Key E a (o + 14) x.1.2.1.1, w_Bells E a (o + 15) x.1.2.1.2.1, w_Mel E a (o + 18) x.1.2.1.2.2.1, w_Cliffs E a (o + 22) x.1.2.1.2.2.2, w_Prog E a (o + 25) x.1.2.2.2.1, w_Chord E a (o + 31) x.1.2.2.2.2, w_Key E a (o + 34) x.2.1, w_Line E a (o + 35) x.2.2.1, w_Hist E a (o + 37) x.1.2.2.1]) (Lc' := [w_VBR a o x.2.2.2.1 x.2.2.2.2.1 x.2.2.2.2.2, w_ValleyR a (o + 1), w_Key E a (o + 2) x.1.1.1, w_Bells E a (o + 3) x.1.1.2.1, w_Mel E a (o + 6) x.1.1.2.2.1, w_Cliffs E a (o + 10) x.1.1.2.2.2, w_ValleyR a (o + 13), w_Key E a (o + 14) x.1.2.1.1, w_Bells E a (o + 15) x.1.2.1.2.1, w_Mel E a (o + 18) x.1.2.1.2.2.1, w_Cliffs E a (o + 22) x.1.2.1.2.2.2, w_Prog E a (o + 25) x.1.2.2.2.1, w_Chord E a (o + 31) x.1.2.2.2.2, w_Key E a (o + 34) (q3.2.1, q3.2.2.1, q3.2.2.2), w_Line E a (o + 35) x.2.2.1, w_Hist E a (o + 37) x.1.2.2.1]) (L' := [w_VBR a o x.2.2.2.1 x.2.2.2.2.1 x.2.2.2.2.2, w_ValleyR a (o + 1), w_Key E a (o + 2) x.1.1.1, w_Bells E a (o + 3) x.1.1.2.1, w_Mel E a (o + 6) x.1.1.2.2.1, w_Cliffs E a (o + 10) x.1.1.2.2.2, w_ValleyR a (o + 13), w_Key E a (o + 14) x.1.2.1.1, w_Bells E a (o + 15) x.1.2.1.2.1, w_Mel E a (o + 18) x.1.2.1.2.2.1, w_Cliffs E a (o + 22) x.1.2.1.2.2.2, w_Prog E a (o + 25) x.1.2.2.2.1, w_Chord E a (o + 31) x.1.2.2.2.2, w_Key E a (o + 34) (q3.2.1, q3.2.2.1, q3.2.2.2), w_Line E a (o + 35) x.2.2.1, w_Hist E a (o + 37) x.1.2.2.1, w_Model E ay oy y, w_LongArr E az oz z, w_DblArr E aw ow w]) (rv := q3.1) (va_runV (As := [.int j2]) (rest := []) ⟨hx, hb, hml, hown, ha⟩ (k_X10_bestTonic l E a o x j2 q3 hq3 H.size) (cwV 1 ha (gi_V (fun _ h => h) mw427 mw428 mw429 mw74 mw430) rfl rfl rfl hv_X10_bestTonic ⟨(Nat.le_of_ble_eq_true rfl), (Nat.le_of_ble_eq_true rfl)⟩) ⟨pre_blind, va_recv hst.k (fr_P hP [0, 1, 2, 3, 4, 5, 6, 7, 8, 9, 10, 11, 12, 13, 14, 15] rfl) (ci := 12) (q0 := 0) rfl rfl, pre_at hP hD hS hz hzs hst [0, 1, 2, 3, 4, 5, 6, 7, 8, 9, 10, 11, 12, 13, 14, 15] (by decide) rfl rfl⟩ rfl rfl hl.1 rfl (lv_room (Nat.le_of_ble_eq_true rfl)) dL_law_1793 ⟨by show cv + 0 ≤ 603072; omega, by show sv + 0 ≤ 7207018; omega⟩) hP hD hS hA [0, 1, 2, 3, 4, 5, 6, 7, 8, 9, 10, 11, 12, 13, 14, 15] (by decide) rfl rfl rfl rfl (fun H locs hP hD hS => ?_)
    refine lv_aload_n hx hb dL_law_1796 rfl (lv_at hl 2 rfl) ?_
    refine lv_aload_n hx hb dL_law_1797 rfl (lv_at hl 0 rfl) ?_
    refine lv_iload hx hb dL_law_1798 (lv_at hl 5 rfl) ?_
    refine lv_iconst (v := 1) hx hb dL_law_1800 (by decide) ?_
    refine lv_iadd hx hb dL_law_1801 ?_
    obtain ⟨g4, hF⟩ := q_gdi hF
    refine va_sld hx hb hX hbl hbA hS g4 dL_law_1802 ?_
    obtain ⟨J1811, hJ1811, hF⟩ := q_jn hF
    have jJ1811 : ∀ (j5 : Int32), ∀ (H : Heap) (locs : List Loc) (ls : Array Slot), J1811 j5 = some res → va_P E.1 vwCl (List.flatten [w_VBR a o x.2.2.2.1 x.2.2.2.2.1 x.2.2.2.2.2, w_ValleyR a (o + 1), w_Key E a (o + 2) x.1.1.1, w_Bells E a (o + 3) x.1.1.2.1, w_Mel E a (o + 6) x.1.1.2.2.1, w_Cliffs E a (o + 10) x.1.1.2.2.2, w_ValleyR a (o + 13), w_Key E a (o + 14) x.1.2.1.1, w_Bells E a (o + 15) x.1.2.1.2.1, w_Mel E a (o + 18) x.1.2.1.2.2.1, w_Cliffs E a (o + 22) x.1.2.1.2.2.2, w_Prog E a (o + 25) x.1.2.2.2.1, w_Chord E a (o + 31) x.1.2.2.2.2, w_Key E a (o + 34) (q3.2.1, q3.2.2.1, q3.2.2.2), w_Line E a (o + 35) x.2.2.1, w_Hist E a (o + 37) x.1.2.2.1, w_Model E ay oy y, w_LongArr E az oz z, w_DblArr E aw ow w]) H → va_D A (List.flatten [w_VBR a o x.2.2.2.1 x.2.2.2.2.1 x.2.2.2.2.2, w_ValleyR a (o + 1), w_Key E a (o + 2) x.1.1.1, w_Bells E a (o + 3) x.1.1.2.1, w_Mel E a (o + 6) x.1.1.2.2.1, w_Cliffs E a (o + 10) x.1.1.2.2.2, w_ValleyR a (o + 13), w_Key E a (o + 14) x.1.2.1.1, w_Bells E a (o + 15) x.1.2.1.2.1, w_Mel E a (o + 18) x.1.2.1.2.2.1, w_Cliffs E a (o + 22) x.1.2.1.2.2.2, w_Prog E a (o + 25) x.1.2.2.2.1, w_Chord E a (o + 31) x.1.2.2.2.2, w_Key E a (o + 34) (q3.2.1, q3.2.2.1, q3.2.2.2), w_Line E a (o + 35) x.2.2.1, w_Hist E a (o + 37) x.1.2.2.1, w_Model E ay oy y, w_LongArr E az oz z, w_DblArr E aw ow w]) → va_S A s.heap H locs → lv_has ls 9 [(0, .ref b), (1, .ref (a o)), (2, .ref (ay oy)), (3, .ref (az oz)), (4, .ref (aw ow)), (5, .int i)] → W p l e room_1 s m args below meth c H locs cv sv Q (F0 m 1811 ls [.int j5, .ref (ay oy), .int q3.1]) := by
      intro j5 H locs ls hF hP hD hS hl
      rw [hJ1811] at hF
      obtain ⟨q6, hq6, hF⟩ := q_bdi hF
      refine cl_i (Lc := [w_Model E ay oy y]) (Lc' := [w_Model E ay oy ((y.1.1, y.1.2.1, y.1.2.2.1, y.1.2.2.2.1, y.1.2.2.2.2), (y.2.1.1, y.2.1.2.1, y.2.1.2.2.1, y.2.1.2.2.2.1, y.2.1.2.2.2.2), (y.2.2.1.1, y.2.2.1.2.1, y.2.2.1.2.2.1, y.2.2.1.2.2.2), (q6.2, y.2.2.2.2.1, y.2.2.2.2.2.1, y.2.2.2.2.2.2))]) (L' := [w_VBR a o x.2.2.2.1 x.2.2.2.2.1 x.2.2.2.2.2, w_ValleyR a (o + 1), w_Key E a (o + 2) x.1.1.1, w_Bells E a (o + 3) x.1.1.2.1, w_Mel E a (o + 6) x.1.1.2.2.1, w_Cliffs E a (o + 10) x.1.1.2.2.2, w_ValleyR a (o + 13), w_Key E a (o + 14) x.1.2.1.1, w_Bells E a (o + 15) x.1.2.1.2.1, w_Mel E a (o + 18) x.1.2.1.2.2.1, w_Cliffs E a (o + 22) x.1.2.1.2.2.2, w_Prog E a (o + 25) x.1.2.2.2.1, w_Chord E a (o + 31) x.1.2.2.2.2, w_Key E a (o + 34) (q3.2.1, q3.2.2.1, q3.2.2.2), w_Line E a (o + 35) x.2.2.1, w_Hist E a (o + 37) x.1.2.2.1, w_Model E ay oy ((y.1.1, y.1.2.1, y.1.2.2.1, y.1.2.2.2.1, y.1.2.2.2.2), (y.2.1.1, y.2.1.2.1, y.2.1.2.2.1, y.2.1.2.2.2.1, y.2.1.2.2.2.2), (y.2.2.1.1, y.2.2.1.2.1, y.2.2.1.2.2.1, y.2.2.1.2.2.2), (q6.2, y.2.2.2.2.1, y.2.2.2.2.2.1, y.2.2.2.2.2.2)), w_LongArr E az oz z, w_DblArr E aw ow w]) (rv := q6.1) (va_runV (As := [.int j5]) (rest := [.int q3.1]) ⟨hx, hb, hml, hown, ha⟩ (k_X11_bestTonic l E ay oy y j5 q6 hq6 H.size) (cwV 1 ha (gi_V (fun _ h => h) mw1926 mw1927 mw1928 mw87 mw1929) rfl rfl rfl hv_X11_bestTonic ⟨(Nat.le_of_ble_eq_true rfl), (Nat.le_of_ble_eq_true rfl)⟩) ⟨pre_blind, va_recv hst.k (fr_P hP [16] rfl) (ci := 13) (q0 := 0) rfl rfl, pre_at hP hD hS hz hzs hst [16] (by decide) rfl rfl⟩ rfl rfl hl.1 rfl (lv_room (Nat.le_of_ble_eq_true rfl)) dL_law_1811 ⟨by show cv + 0 ≤ 603072; omega, by show sv + 0 ≤ 7207018; omega⟩) hP hD hS hA [16] (by decide) rfl rfl rfl rfl (fun H locs hP hD hS => ?_)
      refine lv_icmp_eq (tgt := 2881) hx hb dL_law_1814 (by decide) (fun c1814 => ?_) (fun c1814 => ?_)
      · have hF := q_brp c1814 hF
        obtain rfl := Option.some.inj hF
        refine W.widen (k := cv + 60) (n := sv + 5100) (by omega) (by omega) ?_
        exact hK H locs ls hP hD hS (lv_sub hl [0, 1, 2, 3, 4, 5] rfl)
      · have hF := q_brn c1814 hF
        exact absurd hF (by simp)
    refine lv_if_eq (tgt := 1810) hx hb dL_law_1803 (by decide) (fun c1803 => ?_) (fun c1803 => ?_)
    · have hF := q_brp c1803 hF
      refine lv_iconst (v := 0) hx hb dL_law_1810 (by decide) ?_
      exact jJ1811 0 H locs ls hF hP hD hS (lv_sub hl [0, 1, 2, 3, 4, 5] rfl)
    · have hF := q_brn c1803 hF
      refine lv_iconst (v := 1) hx hb dL_law_1806 (by decide) ?_
      refine lv_goto (tgt := 1811) hx hb dL_law_1807 (by decide) ?_
      exact jJ1811 1 H locs ls hF hP hD hS (lv_sub hl [0, 1, 2, 3, 4, 5] rfl)
  refine lv_if_eq (tgt := 1792) hx hb dL_law_1785 (by decide) (fun c1785 => ?_) (fun c1785 => ?_)
  · have hF := q_brp c1785 hF
    refine lv_iconst (v := 0) hx hb dL_law_1792 (by decide) ?_
    exact jJ1793 0 H locs ls hF hP hD hS (lv_sub hl [0, 1, 2, 3, 4, 5] rfl)
  · have hF := q_brn c1785 hF
    refine lv_iconst (v := 1) hx hb dL_law_1788 (by decide) ?_
    refine lv_goto (tgt := 1793) hx hb dL_law_1789 (by decide) ?_
    exact jJ1793 1 H locs ls hF hP hD hS (lv_sub hl [0, 1, 2, 3, 4, 5] rfl)
def f_c28 (x : VB_t) (y : Model_t) (z : Nat → Int64) (w : Nat → UInt64) (xs : Nat → Int32) (n : Nat) (i : Int32) : Option (VB_t × Model_t × (Nat → Int64) × (Nat → UInt64)) := q_bd (f_case28 x.1.1.1.1 x.1.1.1.2.1 x.1.1.1.2.2 x.1.1.2.1.2.1 x.1.1.2.1.2.2 x.2.1.1 x.2.1.2.1 x.2.1.2.2 y.1.1 y.2.2.2.1 xs n i) (fun res => some (((x.1.1, x.1.2.1, x.1.2.2.1, x.1.2.2.2.1, x.1.2.2.2.2), ((res.1, res.2.1, res.2.2.1), x.2.2.1, x.2.2.2.1, x.2.2.2.2.1, x.2.2.2.2.2)), ((y.1.1, y.1.2.1, y.1.2.2.1, y.1.2.2.2.1, y.1.2.2.2.2), (y.2.1.1, y.2.1.2.1, y.2.1.2.2.1, y.2.1.2.2.2.1, y.2.1.2.2.2.2), (y.2.2.1.1, y.2.2.1.2.1, y.2.2.1.2.2.1, y.2.2.1.2.2.2), (res.2.2.2, y.2.2.2.2.1, y.2.2.2.2.2.1, y.2.2.2.2.2.2)), z, w))
/-! case 29 -/
theorem dL_law_1819 : decode cL_law 1819 = .ok (.aload_n 1, 1) := by decide +kernel
theorem dL_law_1820 : decode cL_law 1820 = .ok (.aload_n 0, 1) := by decide +kernel
theorem dL_law_1821 : decode cL_law 1821 = .ok (.iload 5, 2) := by decide +kernel
theorem dL_law_1823 : decode cL_law 1823 = .ok (.iconst 1, 1) := by decide +kernel
theorem dL_law_1824 : decode cL_law 1824 = .ok (.iadd, 1) := by decide +kernel
theorem dL_law_1825 : decode cL_law 1825 = .ok (.iaload, 1) := by decide +kernel
theorem dL_law_1826 : decode cL_law 1826 = .ok (.aload_n 3, 1) := by decide +kernel
theorem dL_law_1827 : decode cL_law 1827 = .ok (.invokestatic 258, 3) := by decide +kernel
theorem dL_law_1830 : decode cL_law 1830 = .ok (.istore 6, 2) := by decide +kernel
theorem dL_law_1832 : decode cL_law 1832 = .ok (.aload_n 2, 1) := by decide +kernel
theorem dL_law_1833 : decode cL_law 1833 = .ok (.aload_n 0, 1) := by decide +kernel
theorem dL_law_1834 : decode cL_law 1834 = .ok (.iload 5, 2) := by decide +kernel
theorem dL_law_1836 : decode cL_law 1836 = .ok (.iconst 1, 1) := by decide +kernel
theorem dL_law_1837 : decode cL_law 1837 = .ok (.iadd, 1) := by decide +kernel
theorem dL_law_1838 : decode cL_law 1838 = .ok (.iaload, 1) := by decide +kernel
theorem dL_law_1839 : decode cL_law 1839 = .ok (.invokevirtual 260, 3) := by decide +kernel
theorem dL_law_1842 : decode cL_law 1842 = .ok (.istore 7, 2) := by decide +kernel
theorem dL_law_1844 : decode cL_law 1844 = .ok (.aload_n 2, 1) := by decide +kernel
theorem dL_law_1845 : decode cL_law 1845 = .ok (.invokevirtual 160, 3) := by decide +kernel
theorem dL_law_1848 : decode cL_law 1848 = .ok (.iload 6, 2) := by decide +kernel
theorem dL_law_1850 : decode cL_law 1850 = .ok (.if_icmp .eq 5, 3) := by decide +kernel
theorem dL_law_1855 : decode cL_law 1855 = .ok (.iload 6, 2) := by decide +kernel
theorem dL_law_1857 : decode cL_law 1857 = .ok (.ifCond .ne 15, 3) := by decide +kernel
theorem dL_law_1860 : decode cL_law 1860 = .ok (.aload_n 3, 1) := by decide +kernel
theorem dL_law_1861 : decode cL_law 1861 = .ok (.iconst 0, 1) := by decide +kernel
theorem dL_law_1862 : decode cL_law 1862 = .ok (.laload, 1) := by decide +kernel
theorem dL_law_1863 : decode cL_law 1863 = .ok (.iload 7, 2) := by decide +kernel
theorem dL_law_1865 : decode cL_law 1865 = .ok (.i2l, 1) := by decide +kernel
theorem dL_law_1866 : decode cL_law 1866 = .ok (.lcmp, 1) := by decide +kernel
theorem dL_law_1867 : decode cL_law 1867 = .ok (.ifCond .eq 5, 3) := by decide +kernel
theorem dL_law_1872 : decode cL_law 1872 = .ok (.goto 1009, 3) := by decide +kernel
def f_case29 (x_valley_melodies_lengths : (Nat → Int32)) (y_g : (Nat → Int32)) (y_thrown : Int32) (z_v : (Nat → Int64)) (xs : (Nat → Int32)) (n : Nat) (i : Int32) : Option (Int32 × (Nat → Int64)) :=
  q_gd (q_in (i + 1) n) (
  q_bd (f_L_melodyLength x_valley_melodies_lengths z_v (xs (i + 1).toNatClampNeg)) (fun q2 =>
  q_gd (q_in (i + 1) n) (
  q_bd (f_X11_melodyLength y_g y_thrown (xs (i + 1).toNatClampNeg)) (fun q4 =>
  q_bd (f_X11_thrown q4.2) (fun q5 =>
  q_br (q5 = q2.1) (
  q_br (q2.1 = 0) (
  q_br ((lg_cmp (q2.2 0) (q4.1.toInt64)) = 0) (
  some (q4.2, q2.2)) (
  none)) (
  some (q4.2, q2.2))) (
  none))))))
set_option maxHeartbeats 4000000 in
set_option maxRecDepth 100000 in
theorem kc_29 {p : Program} {e : Env} {s : State} {m : MethodId} {args : Array Value} {below : List Frame} {meth : Method} {c : Code} {Q : State → Prop} {A : Nat → Prop} (l : Launch) (hlt : l.stackTraces = false) (E : ET) (a : Nat → Nat) (o : Nat) (x : VB_t) (ay : Nat → Nat) (oy : Nat) (y : Model_t) (az : Nat → Nat) (oz : Nat) (z : Nat → Int64) (aw : Nat → Nat) (ow : Nat) (w : Nat → UInt64) (b n : Nat) (xs : Nat → Int32) (i : Int32) (hx : p.tables.exec = Jvm.exec) (hb : c.code = cL_law) (hml : c.maxLocals = 9) (hown : s.vm.findClass RL = some m.cls) (ha : ∀ w ∈ lw_all, w.before args s = true) (hA : ∀ q, s.heap.size ≤ q → A q) (hz : ∀ q, A q → E.2 0 ≤ q) (hzs : E.2 0 ≤ s.heap.size) (hst : ST E s) (hX : va_X b n xs s s.heap) (hbl : b < s.heap.size) (hbA : ¬ A b) (res : Int32 × (Nat → Int64)) (hF : f_case29 x.1.1.2.2.1.1 y.1.1 y.2.2.2.1 z xs n i = some res) {H : Heap} {locs : List Loc} {ls : Array Slot} {cv sv : Nat} (hcv : cv + 60 ≤ 603072) (hsv : sv + 5100 ≤ 7207018) (hP : va_P E.1 vwCl (List.flatten [w_VBR a o x.2.2.2.1 x.2.2.2.2.1 x.2.2.2.2.2, w_ValleyR a (o + 1), w_Key E a (o + 2) x.1.1.1, w_Bells E a (o + 3) x.1.1.2.1, w_Mel E a (o + 6) x.1.1.2.2.1, w_Cliffs E a (o + 10) x.1.1.2.2.2, w_ValleyR a (o + 13), w_Key E a (o + 14) x.1.2.1.1, w_Bells E a (o + 15) x.1.2.1.2.1, w_Mel E a (o + 18) x.1.2.1.2.2.1, w_Cliffs E a (o + 22) x.1.2.1.2.2.2, w_Prog E a (o + 25) x.1.2.2.2.1, w_Chord E a (o + 31) x.1.2.2.2.2, w_Key E a (o + 34) x.2.1, w_Line E a (o + 35) x.2.2.1, w_Hist E a (o + 37) x.1.2.2.1, w_Model E ay oy y, w_LongArr E az oz z, w_DblArr E aw ow w]) H) (hD : va_D A (List.flatten [w_VBR a o x.2.2.2.1 x.2.2.2.2.1 x.2.2.2.2.2, w_ValleyR a (o + 1), w_Key E a (o + 2) x.1.1.1, w_Bells E a (o + 3) x.1.1.2.1, w_Mel E a (o + 6) x.1.1.2.2.1, w_Cliffs E a (o + 10) x.1.1.2.2.2, w_ValleyR a (o + 13), w_Key E a (o + 14) x.1.2.1.1, w_Bells E a (o + 15) x.1.2.1.2.1, w_Mel E a (o + 18) x.1.2.1.2.2.1, w_Cliffs E a (o + 22) x.1.2.1.2.2.2, w_Prog E a (o + 25) x.1.2.2.2.1, w_Chord E a (o + 31) x.1.2.2.2.2, w_Key E a (o + 34) x.2.1, w_Line E a (o + 35) x.2.2.1, w_Hist E a (o + 37) x.1.2.2.1, w_Model E ay oy y, w_LongArr E az oz z, w_DblArr E aw ow w])) (hS : va_S A s.heap H locs) (hl : lv_has ls 9 [(0, .ref b), (1, .ref (a o)), (2, .ref (ay oy)), (3, .ref (az oz)), (4, .ref (aw ow)), (5, .int i)])
    (hK : ∀ (H : Heap) (locs : List Loc) (ls : Array Slot), va_P E.1 vwCl (List.flatten (bl_VB E a o x ++ (bl_Model E ay oy ((y.1.1, y.1.2.1, y.1.2.2.1, y.1.2.2.2.1, y.1.2.2.2.2), (y.2.1.1, y.2.1.2.1, y.2.1.2.2.1, y.2.1.2.2.2.1, y.2.1.2.2.2.2), (y.2.2.1.1, y.2.2.1.2.1, y.2.2.1.2.2.1, y.2.2.1.2.2.2), (res.1, y.2.2.2.2.1, y.2.2.2.2.2.1, y.2.2.2.2.2.2)) ++ (bl_LongArr E az oz res.2 ++ bl_DblArr E aw ow w)))) H → va_D A (List.flatten (bl_VB E a o x ++ (bl_Model E ay oy ((y.1.1, y.1.2.1, y.1.2.2.1, y.1.2.2.2.1, y.1.2.2.2.2), (y.2.1.1, y.2.1.2.1, y.2.1.2.2.1, y.2.1.2.2.2.1, y.2.1.2.2.2.2), (y.2.2.1.1, y.2.2.1.2.1, y.2.2.1.2.2.1, y.2.2.1.2.2.2), (res.1, y.2.2.2.2.1, y.2.2.2.2.2.1, y.2.2.2.2.2.2)) ++ (bl_LongArr E az oz res.2 ++ bl_DblArr E aw ow w)))) → va_S A s.heap H locs → lv_has ls 9 [(0, .ref b), (1, .ref (a o)), (2, .ref (ay oy)), (3, .ref (az oz)), (4, .ref (aw ow)), (5, .int i)] → W p l e room_1 s m args below meth c H locs (cv + 60) (sv + 5100) Q (F0 m 2881 ls [])) : W p l e room_1 s m args below meth c H locs cv sv Q (F0 m 1819 ls []) := by
  unfold f_case29 at hF
  refine lv_aload_n hx hb dL_law_1819 rfl (lv_at hl 1 rfl) ?_
  refine lv_aload_n hx hb dL_law_1820 rfl (lv_at hl 0 rfl) ?_
  refine lv_iload hx hb dL_law_1821 (lv_at hl 5 rfl) ?_
  refine lv_iconst (v := 1) hx hb dL_law_1823 (by decide) ?_
  refine lv_iadd hx hb dL_law_1824 ?_
  obtain ⟨g1, hF⟩ := q_gdi hF
  refine va_sld hx hb hX hbl hbA hS g1 dL_law_1825 ?_
  refine lv_aload_n hx hb dL_law_1826 rfl (lv_at hl 3 rfl) ?_
  have hP : va_P E.1 vwCl (List.flatten [w_VBR a o x.2.2.2.1 x.2.2.2.2.1 x.2.2.2.2.2, w_ValleyR a (o + 1), w_Key E a (o + 2) x.1.1.1, w_Bells E a (o + 3) x.1.1.2.1, w_Mel E a (o + 6) x.1.1.2.2.1, w_Cliffs E a (o + 10) x.1.1.2.2.2, w_ValleyR a (o + 13), w_Key E a (o + 14) x.1.2.1.1, w_Bells E a (o + 15) x.1.2.1.2.1, w_Mel E a (o + 18) x.1.2.1.2.2.1, w_Cliffs E a (o + 22) x.1.2.1.2.2.2, w_Prog E a (o + 25) x.1.2.2.2.1, w_Chord E a (o + 31) x.1.2.2.2.2, w_Key E a (o + 34) x.2.1, w_Line E a (o + 35) x.2.2.1, w_Hist E a (o + 37) x.1.2.2.1, w_Model E ay oy y, w_LongArr E az oz z, w_DblArr E aw ow w]) H := hP
  have hD : va_D A (List.flatten [w_VBR a o x.2.2.2.1 x.2.2.2.2.1 x.2.2.2.2.2, w_ValleyR a (o + 1), w_Key E a (o + 2) x.1.1.1, w_Bells E a (o + 3) x.1.1.2.1, w_Mel E a (o + 6) x.1.1.2.2.1, w_Cliffs E a (o + 10) x.1.1.2.2.2, w_ValleyR a (o + 13), w_Key E a (o + 14) x.1.2.1.1, w_Bells E a (o + 15) x.1.2.1.2.1, w_Mel E a (o + 18) x.1.2.1.2.2.1, w_Cliffs E a (o + 22) x.1.2.1.2.2.2, w_Prog E a (o + 25) x.1.2.2.2.1, w_Chord E a (o + 31) x.1.2.2.2.2, w_Key E a (o + 34) x.2.1, w_Line E a (o + 35) x.2.2.1, w_Hist E a (o + 37) x.1.2.2.1, w_Model E ay oy y, w_LongArr E az oz z, w_DblArr E aw ow w]) := hD
  obtain ⟨q2, hq2, hF⟩ := q_bdi hF
  refine cl_i (Lc := [w_VBR a o x.2.2.2.1 x.2.2.2.2.1 x.2.2.2.2.2, w_ValleyR a (o + 1), w_Key E a (o + 2) x.1.1.1, w_Bells E a (o + 3) x.1.1.2.1, w_Mel E a (o + 6) x.1.1.2.2.1, w_Cliffs E a (o + 10) x.1.1.2.2.2, w_ValleyR a (o + 13), w_Key E a (o + 14) x.1.2.1.1, w_Bells E a (o + 15) x.1.2.1.2.1, w_Mel E a (o + 18) x.1.2.1.2.2.1, w_Cliffs E a (o + 22) x.1.2.1.2.2.2, w_Prog E a (o + 25) x.1.2.2.2.1, w_Chord E a (o + 31) x.1.2.2.2.2, w_Key E a (o + 34) x.2.1, w_Line E a (o + 35) x.2.2.1, w_Hist E a (o + 37) x.1.2.2.1, w_LongArr E az oz z]) (Lc' := [w_VBR a o x.2.2.2.1 x.2.2.2.2.1 x.2.2.2.2.2, w_ValleyR a (o + 1), w_Key E a (o + 2) x.1.1.1, w_Bells E a (o + 3) x.1.1.2.1, w_Mel E a (o + 6) x.1.1.2.2.1, w_Cliffs E a (o + 10) x.1.1.2.2.2, w_ValleyR a (o + 13), w_Key E a (o + 14) x.1.2.1.1, w_Bells E a (o + 15) x.1.2.1.2.1, w_Mel E a (o + 18) x.1.2.1.2.2.1, w_Cliffs E a (o + 22) x.1.2.1.2.2.2, w_Prog E a (o + 25) x.1.2.2.2.1, w_Chord E a (o + 31) x.1.2.2.2.2, w_Key E a (o + 34) x.2.1, w_Line E a (o + 35) x.2.2.1, w_Hist E a (o + 37) x.1.2.2.1, w_LongArr E az oz q2.2]) (L' := [w_VBR a o x.2.2.2.1 x.2.2.2.2.1 x.2.2.2.2.2, w_ValleyR a (o + 1), w_Key E a (o + 2) x.1.1.1, w_Bells E a (o + 3) x.1.1.2.1, w_Mel E a (o + 6) x.1.1.2.2.1, w_Cliffs E a (o + 10) x.1.1.2.2.2, w_ValleyR a (o + 13), w_Key E a (o + 14) x.1.2.1.1, w_Bells E a (o + 15) x.1.2.1.2.1, w_Mel E a (o + 18) x.1.2.1.2.2.1, w_Cliffs E a (o + 22) x.1.2.1.2.2.2, w_Prog E a (o + 25) x.1.2.2.2.1, w_Chord E a (o + 31) x.1.2.2.2.2, w_Key E a (o + 34) x.2.1, w_Line E a (o + 35) x.2.2.1, w_Hist E a (o + 37) x.1.2.2.1, w_Model E ay oy y, w_LongArr E az oz q2.2, w_DblArr E aw ow w]) (rv := q2.1) (vx_runSW (As := [.ref (a o), .int (xs (i + 1).toNatClampNeg), .ref (az oz)]) (rest := []) ⟨hx, hb, hml, hown, ha⟩ (k_L_melodyLength l E a o x az oz z (xs (i + 1).toNatClampNeg) q2 hq2 H.size hlt) (vx_cwSW 3 ha (gi_TH (fun _ h => h) mw1347 mw1348 mw73 mw1349) rfl rfl rfl hv_L_melodyLength.2 ⟨(Nat.le_of_ble_eq_true rfl), (Nat.le_of_ble_eq_true rfl)⟩) ⟨pre_blind, pre_at hP hD hS hz hzs hst [0, 1, 2, 3, 4, 5, 6, 7, 8, 9, 10, 11, 12, 13, 14, 15, 17] (by decide) rfl rfl⟩ rfl rfl hl.1 rfl (lv_room (Nat.le_of_ble_eq_true rfl)) dL_law_1827 ⟨by show cv + 1 ≤ 603072; omega, by show sv + 6 ≤ 7207018; omega⟩) hP hD hS hA [0, 1, 2, 3, 4, 5, 6, 7, 8, 9, 10, 11, 12, 13, 14, 15, 17] (by decide) rfl rfl rfl rfl (fun H locs hP hD hS => ?_)
  refine lv_istore (lv' := [(6, .int q2.1), (0, .ref b), (1, .ref (a o)), (2, .ref (ay oy)), (3, .ref (az oz)), (4, .ref (aw ow)), (5, .int i)]) hx hb dL_law_1830 hl (by decide) rfl (fun ls hl => ?_)
  refine lv_aload_n hx hb dL_law_1832 rfl (lv_at hl 3 rfl) ?_
  refine lv_aload_n hx hb dL_law_1833 rfl (lv_at hl 1 rfl) ?_
  refine lv_iload hx hb dL_law_1834 (lv_at hl 6 rfl) ?_
  refine lv_iconst (v := 1) hx hb dL_law_1836 (by decide) ?_
  refine lv_iadd hx hb dL_law_1837 ?_
  obtain ⟨g3, hF⟩ := q_gdi hF
  refine va_sld hx hb hX hbl hbA hS g3 dL_law_1838 ?_
  obtain ⟨q4, hq4, hF⟩ := q_bdi hF
  refine cl_i (Lc := [w_Model E ay oy y]) (Lc' := [w_Model E ay oy ((y.1.1, y.1.2.1, y.1.2.2.1, y.1.2.2.2.1, y.1.2.2.2.2), (y.2.1.1, y.2.1.2.1, y.2.1.2.2.1, y.2.1.2.2.2.1, y.2.1.2.2.2.2), (y.2.2.1.1, y.2.2.1.2.1, y.2.2.1.2.2.1, y.2.2.1.2.2.2), (q4.2, y.2.2.2.2.1, y.2.2.2.2.2.1, y.2.2.2.2.2.2))]) (L' := [w_VBR a o x.2.2.2.1 x.2.2.2.2.1 x.2.2.2.2.2, w_ValleyR a (o + 1), w_Key E a (o + 2) x.1.1.1, w_Bells E a (o + 3) x.1.1.2.1, w_Mel E a (o + 6) x.1.1.2.2.1, w_Cliffs E a (o + 10) x.1.1.2.2.2, w_ValleyR a (o + 13), w_Key E a (o + 14) x.1.2.1.1, w_Bells E a (o + 15) x.1.2.1.2.1, w_Mel E a (o + 18) x.1.2.1.2.2.1, w_Cliffs E a (o + 22) x.1.2.1.2.2.2, w_Prog E a (o + 25) x.1.2.2.2.1, w_Chord E a (o + 31) x.1.2.2.2.2, w_Key E a (o + 34) x.2.1, w_Line E a (o + 35) x.2.2.1, w_Hist E a (o + 37) x.1.2.2.1, w_Model E ay oy ((y.1.1, y.1.2.1, y.1.2.2.1, y.1.2.2.2.1, y.1.2.2.2.2), (y.2.1.1, y.2.1.2.1, y.2.1.2.2.1, y.2.1.2.2.2.1, y.2.1.2.2.2.2), (y.2.2.1.1, y.2.2.1.2.1, y.2.2.1.2.2.1, y.2.2.1.2.2.2), (q4.2, y.2.2.2.2.1, y.2.2.2.2.2.1, y.2.2.2.2.2.2)), w_LongArr E az oz q2.2, w_DblArr E aw ow w]) (rv := q4.1) (va_runV (As := [.int (xs (i + 1).toNatClampNeg)]) (rest := []) ⟨hx, hb, hml, hown, ha⟩ (k_X11_melodyLength l E ay oy y (xs (i + 1).toNatClampNeg) q4 hq4 H.size) (cwV 1 ha (gi_V (fun _ h => h) mw1930 mw1931 mw1932 mw87 mw1933) rfl rfl rfl hv_X11_melodyLength ⟨(Nat.le_of_ble_eq_true rfl), (Nat.le_of_ble_eq_true rfl)⟩) ⟨pre_blind, va_recv hst.k (fr_P hP [16] rfl) (ci := 13) (q0 := 0) rfl rfl, pre_at hP hD hS hz hzs hst [16] (by decide) rfl rfl⟩ rfl rfl hl.1 rfl (lv_room (Nat.le_of_ble_eq_true rfl)) dL_law_1839 ⟨by show cv + 1 + 0 ≤ 603072; omega, by show sv + 6 + 0 ≤ 7207018; omega⟩) hP hD hS hA [16] (by decide) rfl rfl rfl rfl (fun H locs hP hD hS => ?_)
  refine lv_istore (lv' := [(7, .int q4.1), (6, .int q2.1), (0, .ref b), (1, .ref (a o)), (2, .ref (ay oy)), (3, .ref (az oz)), (4, .ref (aw ow)), (5, .int i)]) hx hb dL_law_1842 hl (by decide) rfl (fun ls hl => ?_)
  refine lv_aload_n hx hb dL_law_1844 rfl (lv_at hl 4 rfl) ?_
  obtain ⟨q5, hq5, hF⟩ := q_bdi hF
  refine cl_i (Lc := [w_Model E ay oy ((y.1.1, y.1.2.1, y.1.2.2.1, y.1.2.2.2.1, y.1.2.2.2.2), (y.2.1.1, y.2.1.2.1, y.2.1.2.2.1, y.2.1.2.2.2.1, y.2.1.2.2.2.2), (y.2.2.1.1, y.2.2.1.2.1, y.2.2.1.2.2.1, y.2.2.1.2.2.2), (q4.2, y.2.2.2.2.1, y.2.2.2.2.2.1, y.2.2.2.2.2.2))]) (Lc' := [w_Model E ay oy ((y.1.1, y.1.2.1, y.1.2.2.1, y.1.2.2.2.1, y.1.2.2.2.2), (y.2.1.1, y.2.1.2.1, y.2.1.2.2.1, y.2.1.2.2.2.1, y.2.1.2.2.2.2), (y.2.2.1.1, y.2.2.1.2.1, y.2.2.1.2.2.1, y.2.2.1.2.2.2), (q4.2, y.2.2.2.2.1, y.2.2.2.2.2.1, y.2.2.2.2.2.2))]) (L' := [w_VBR a o x.2.2.2.1 x.2.2.2.2.1 x.2.2.2.2.2, w_ValleyR a (o + 1), w_Key E a (o + 2) x.1.1.1, w_Bells E a (o + 3) x.1.1.2.1, w_Mel E a (o + 6) x.1.1.2.2.1, w_Cliffs E a (o + 10) x.1.1.2.2.2, w_ValleyR a (o + 13), w_Key E a (o + 14) x.1.2.1.1, w_Bells E a (o + 15) x.1.2.1.2.1, w_Mel E a (o + 18) x.1.2.1.2.2.1, w_Cliffs E a (o + 22) x.1.2.1.2.2.2, w_Prog E a (o + 25) x.1.2.2.2.1, w_Chord E a (o + 31) x.1.2.2.2.2, w_Key E a (o + 34) x.2.1, w_Line E a (o + 35) x.2.2.1, w_Hist E a (o + 37) x.1.2.2.1, w_Model E ay oy ((y.1.1, y.1.2.1, y.1.2.2.1, y.1.2.2.2.1, y.1.2.2.2.2), (y.2.1.1, y.2.1.2.1, y.2.1.2.2.1, y.2.1.2.2.2.1, y.2.1.2.2.2.2), (y.2.2.1.1, y.2.2.1.2.1, y.2.2.1.2.2.1, y.2.2.1.2.2.2), (q4.2, y.2.2.2.2.1, y.2.2.2.2.2.1, y.2.2.2.2.2.2)), w_LongArr E az oz q2.2, w_DblArr E aw ow w]) (rv := q5) (va_runV (As := []) (rest := []) ⟨hx, hb, hml, hown, ha⟩ (k_X11_thrown l E ay oy ((y.1.1, y.1.2.1, y.1.2.2.1, y.1.2.2.2.1, y.1.2.2.2.2), (y.2.1.1, y.2.1.2.1, y.2.1.2.2.1, y.2.1.2.2.2.1, y.2.1.2.2.2.2), (y.2.2.1.1, y.2.2.1.2.1, y.2.2.1.2.2.1, y.2.2.1.2.2.2), (q4.2, y.2.2.2.2.1, y.2.2.2.2.2.1, y.2.2.2.2.2.2)) q5 hq5 H.size) (cwV 0 ha (gi_V (fun _ h => h) mw1691 mw1692 mw1693 mw87 mw1694) rfl rfl rfl hv_X11_thrown ⟨(Nat.le_of_ble_eq_true rfl), (Nat.le_of_ble_eq_true rfl)⟩) ⟨pre_blind, va_recv hst.k (fr_P hP [16] rfl) (ci := 13) (q0 := 0) rfl rfl, pre_at hP hD hS hz hzs hst [16] (by decide) rfl rfl⟩ rfl rfl hl.1 rfl (lv_room (Nat.le_of_ble_eq_true rfl)) dL_law_1845 ⟨by show cv + 1 + 0 ≤ 603072; omega, by show sv + 6 + 0 ≤ 7207018; omega⟩) hP hD hS hA [16] (by decide) rfl rfl rfl rfl (fun H locs hP hD hS => ?_)
  refine lv_iload hx hb dL_law_1848 (lv_at hl 1 rfl) ?_
  refine lv_icmp_eq (tgt := 1855) hx hb dL_law_1850 (by decide) (fun c1850 => ?_) (fun c1850 => ?_)
  · have hF := q_brp c1850 hF
    refine lv_iload hx hb dL_law_1855 (lv_at hl 1 rfl) ?_
    refine lv_if_ne (tgt := 1872) hx hb dL_law_1857 (by decide) (fun c1857 => ?_) (fun c1857 => ?_)
    · have hF := q_brn c1857 hF
      refine lv_goto (tgt := 2881) hx hb dL_law_1872 (by decide) ?_
      obtain rfl := Option.some.inj hF
      refine W.widen (k := cv + 60) (n := sv + 5100) (by omega) (by omega) ?_
      exact hK H locs ls hP hD hS (lv_sub hl [2, 3, 4, 5, 6, 7] rfl)
    · have hF := q_brp c1857 hF
      refine lv_aload_n hx hb dL_law_1860 rfl (lv_at hl 5 rfl) ?_
      refine lv_iconst (v := 0) hx hb dL_law_1861 (by decide) ?_
      refine vi_lald hx hb hst.k hP 156 3 rfl rfl (f := q2.2) (k := 0) (by decide) (by decide) dL_law_1862 ?_
      refine lv_iload hx hb dL_law_1863 (lv_at hl 0 rfl) ?_
      refine lv_i2l hx hb dL_law_1865 rfl ?_
      refine W.lcmp hx hb dL_law_1866 ?_
      refine lv_if_eq (tgt := 1872) hx hb dL_law_1867 (by decide) (fun c1867 => ?_) (fun c1867 => ?_)
      · have hF := q_brp c1867 hF
        refine lv_goto (tgt := 2881) hx hb dL_law_1872 (by decide) ?_
        obtain rfl := Option.some.inj hF
        refine W.widen (k := cv + 60) (n := sv + 5100) (by omega) (by omega) ?_
        exact hK H locs ls hP hD hS (lv_sub hl [2, 3, 4, 5, 6, 7] rfl)
      · have hF := q_brn c1867 hF
        exact absurd hF (by simp)
  · have hF := q_brn c1850 hF
    exact absurd hF (by simp)
def f_c29 (x : VB_t) (y : Model_t) (z : Nat → Int64) (w : Nat → UInt64) (xs : Nat → Int32) (n : Nat) (i : Int32) : Option (VB_t × Model_t × (Nat → Int64) × (Nat → UInt64)) := q_bd (f_case29 x.1.1.2.2.1.1 y.1.1 y.2.2.2.1 z xs n i) (fun res => some (x, ((y.1.1, y.1.2.1, y.1.2.2.1, y.1.2.2.2.1, y.1.2.2.2.2), (y.2.1.1, y.2.1.2.1, y.2.1.2.2.1, y.2.1.2.2.2.1, y.2.1.2.2.2.2), (y.2.2.1.1, y.2.2.1.2.1, y.2.2.1.2.2.1, y.2.2.1.2.2.2), (res.1, y.2.2.2.2.1, y.2.2.2.2.2.1, y.2.2.2.2.2.2)), res.2, w))
/-! case 30 -/
theorem dL_law_1875 : decode cL_law 1875 = .ok (.aload_n 1, 1) := by decide +kernel
theorem dL_law_1876 : decode cL_law 1876 = .ok (.aload_n 0, 1) := by decide +kernel
theorem dL_law_1877 : decode cL_law 1877 = .ok (.iload 5, 2) := by decide +kernel
theorem dL_law_1879 : decode cL_law 1879 = .ok (.iconst 1, 1) := by decide +kernel
theorem dL_law_1880 : decode cL_law 1880 = .ok (.iadd, 1) := by decide +kernel
theorem dL_law_1881 : decode cL_law 1881 = .ok (.iaload, 1) := by decide +kernel
theorem dL_law_1882 : decode cL_law 1882 = .ok (.aload_n 0, 1) := by decide +kernel
theorem dL_law_1883 : decode cL_law 1883 = .ok (.iload 5, 2) := by decide +kernel
theorem dL_law_1885 : decode cL_law 1885 = .ok (.iconst 2, 1) := by decide +kernel
theorem dL_law_1886 : decode cL_law 1886 = .ok (.iadd, 1) := by decide +kernel
theorem dL_law_1887 : decode cL_law 1887 = .ok (.iaload, 1) := by decide +kernel
theorem dL_law_1888 : decode cL_law 1888 = .ok (.aload_n 3, 1) := by decide +kernel
theorem dL_law_1889 : decode cL_law 1889 = .ok (.invokestatic 261, 3) := by decide +kernel
theorem dL_law_1892 : decode cL_law 1892 = .ok (.istore 6, 2) := by decide +kernel
theorem dL_law_1894 : decode cL_law 1894 = .ok (.aload_n 2, 1) := by decide +kernel
theorem dL_law_1895 : decode cL_law 1895 = .ok (.aload_n 0, 1) := by decide +kernel
theorem dL_law_1896 : decode cL_law 1896 = .ok (.iload 5, 2) := by decide +kernel
theorem dL_law_1898 : decode cL_law 1898 = .ok (.iconst 1, 1) := by decide +kernel
theorem dL_law_1899 : decode cL_law 1899 = .ok (.iadd, 1) := by decide +kernel
theorem dL_law_1900 : decode cL_law 1900 = .ok (.iaload, 1) := by decide +kernel
theorem dL_law_1901 : decode cL_law 1901 = .ok (.aload_n 0, 1) := by decide +kernel
theorem dL_law_1902 : decode cL_law 1902 = .ok (.iload 5, 2) := by decide +kernel
theorem dL_law_1904 : decode cL_law 1904 = .ok (.iconst 2, 1) := by decide +kernel
theorem dL_law_1905 : decode cL_law 1905 = .ok (.iadd, 1) := by decide +kernel
theorem dL_law_1906 : decode cL_law 1906 = .ok (.iaload, 1) := by decide +kernel
theorem dL_law_1907 : decode cL_law 1907 = .ok (.invokevirtual 263, 3) := by decide +kernel
theorem dL_law_1910 : decode cL_law 1910 = .ok (.istore 7, 2) := by decide +kernel
theorem dL_law_1912 : decode cL_law 1912 = .ok (.aload_n 2, 1) := by decide +kernel
theorem dL_law_1913 : decode cL_law 1913 = .ok (.invokevirtual 160, 3) := by decide +kernel
theorem dL_law_1916 : decode cL_law 1916 = .ok (.iload 6, 2) := by decide +kernel
theorem dL_law_1918 : decode cL_law 1918 = .ok (.if_icmp .eq 5, 3) := by decide +kernel
theorem dL_law_1923 : decode cL_law 1923 = .ok (.iload 6, 2) := by decide +kernel
theorem dL_law_1925 : decode cL_law 1925 = .ok (.ifCond .ne 15, 3) := by decide +kernel
theorem dL_law_1928 : decode cL_law 1928 = .ok (.aload_n 3, 1) := by decide +kernel
theorem dL_law_1929 : decode cL_law 1929 = .ok (.iconst 0, 1) := by decide +kernel
theorem dL_law_1930 : decode cL_law 1930 = .ok (.laload, 1) := by decide +kernel
theorem dL_law_1931 : decode cL_law 1931 = .ok (.iload 7, 2) := by decide +kernel
theorem dL_law_1933 : decode cL_law 1933 = .ok (.i2l, 1) := by decide +kernel
theorem dL_law_1934 : decode cL_law 1934 = .ok (.lcmp, 1) := by decide +kernel
theorem dL_law_1935 : decode cL_law 1935 = .ok (.ifCond .eq 5, 3) := by decide +kernel
theorem dL_law_1940 : decode cL_law 1940 = .ok (.goto 941, 3) := by decide +kernel
def f_case30 (x_valley_melodies_lengths : (Nat → Int32)) (x_valley_melodies_tones : (Nat → Int32)) (y_g : (Nat → Int32)) (y_thrown : Int32) (z_v : (Nat → Int64)) (xs : (Nat → Int32)) (n : Nat) (i : Int32) : Option (Int32 × (Nat → Int64)) :=
  q_gd (q_in (i + 1) n) (
  q_gd (q_in (i + 2) n) (
  q_bd (f_L_tone x_valley_melodies_lengths x_valley_melodies_tones z_v (xs (i + 1).toNatClampNeg) (xs (i + 2).toNatClampNeg)) (fun q3 =>
  q_gd (q_in (i + 1) n) (
  q_gd (q_in (i + 2) n) (
  q_bd (f_X11_tone y_g y_thrown (xs (i + 1).toNatClampNeg) (xs (i + 2).toNatClampNeg)) (fun q6 =>
  q_bd (f_X11_thrown q6.2) (fun q7 =>
  q_br (q7 = q3.1) (
  q_br (q3.1 = 0) (
  q_br ((lg_cmp (q3.2 0) (q6.1.toInt64)) = 0) (
  some (q6.2, q3.2)) (
  none)) (
  some (q6.2, q3.2))) (
  none))))))))
set_option maxHeartbeats 4000000 in
set_option maxRecDepth 100000 in
theorem kc_30 {p : Program} {e : Env} {s : State} {m : MethodId} {args : Array Value} {below : List Frame} {meth : Method} {c : Code} {Q : State → Prop} {A : Nat → Prop} (l : Launch) (hlt : l.stackTraces = false) (E : ET) (a : Nat → Nat) (o : Nat) (x : VB_t) (ay : Nat → Nat) (oy : Nat) (y : Model_t) (az : Nat → Nat) (oz : Nat) (z : Nat → Int64) (aw : Nat → Nat) (ow : Nat) (w : Nat → UInt64) (b n : Nat) (xs : Nat → Int32) (i : Int32) (hx : p.tables.exec = Jvm.exec) (hb : c.code = cL_law) (hml : c.maxLocals = 9) (hown : s.vm.findClass RL = some m.cls) (ha : ∀ w ∈ lw_all, w.before args s = true) (hA : ∀ q, s.heap.size ≤ q → A q) (hz : ∀ q, A q → E.2 0 ≤ q) (hzs : E.2 0 ≤ s.heap.size) (hst : ST E s) (hX : va_X b n xs s s.heap) (hbl : b < s.heap.size) (hbA : ¬ A b) (res : Int32 × (Nat → Int64)) (hF : f_case30 x.1.1.2.2.1.1 x.1.1.2.2.1.2.2 y.1.1 y.2.2.2.1 z xs n i = some res) {H : Heap} {locs : List Loc} {ls : Array Slot} {cv sv : Nat} (hcv : cv + 60 ≤ 603072) (hsv : sv + 5100 ≤ 7207018) (hP : va_P E.1 vwCl (List.flatten [w_VBR a o x.2.2.2.1 x.2.2.2.2.1 x.2.2.2.2.2, w_ValleyR a (o + 1), w_Key E a (o + 2) x.1.1.1, w_Bells E a (o + 3) x.1.1.2.1, w_Mel E a (o + 6) x.1.1.2.2.1, w_Cliffs E a (o + 10) x.1.1.2.2.2, w_ValleyR a (o + 13), w_Key E a (o + 14) x.1.2.1.1, w_Bells E a (o + 15) x.1.2.1.2.1, w_Mel E a (o + 18) x.1.2.1.2.2.1, w_Cliffs E a (o + 22) x.1.2.1.2.2.2, w_Prog E a (o + 25) x.1.2.2.2.1, w_Chord E a (o + 31) x.1.2.2.2.2, w_Key E a (o + 34) x.2.1, w_Line E a (o + 35) x.2.2.1, w_Hist E a (o + 37) x.1.2.2.1, w_Model E ay oy y, w_LongArr E az oz z, w_DblArr E aw ow w]) H) (hD : va_D A (List.flatten [w_VBR a o x.2.2.2.1 x.2.2.2.2.1 x.2.2.2.2.2, w_ValleyR a (o + 1), w_Key E a (o + 2) x.1.1.1, w_Bells E a (o + 3) x.1.1.2.1, w_Mel E a (o + 6) x.1.1.2.2.1, w_Cliffs E a (o + 10) x.1.1.2.2.2, w_ValleyR a (o + 13), w_Key E a (o + 14) x.1.2.1.1, w_Bells E a (o + 15) x.1.2.1.2.1, w_Mel E a (o + 18) x.1.2.1.2.2.1, w_Cliffs E a (o + 22) x.1.2.1.2.2.2, w_Prog E a (o + 25) x.1.2.2.2.1, w_Chord E a (o + 31) x.1.2.2.2.2, w_Key E a (o + 34) x.2.1, w_Line E a (o + 35) x.2.2.1, w_Hist E a (o + 37) x.1.2.2.1, w_Model E ay oy y, w_LongArr E az oz z, w_DblArr E aw ow w])) (hS : va_S A s.heap H locs) (hl : lv_has ls 9 [(0, .ref b), (1, .ref (a o)), (2, .ref (ay oy)), (3, .ref (az oz)), (4, .ref (aw ow)), (5, .int i)])
    (hK : ∀ (H : Heap) (locs : List Loc) (ls : Array Slot), va_P E.1 vwCl (List.flatten (bl_VB E a o x ++ (bl_Model E ay oy ((y.1.1, y.1.2.1, y.1.2.2.1, y.1.2.2.2.1, y.1.2.2.2.2), (y.2.1.1, y.2.1.2.1, y.2.1.2.2.1, y.2.1.2.2.2.1, y.2.1.2.2.2.2), (y.2.2.1.1, y.2.2.1.2.1, y.2.2.1.2.2.1, y.2.2.1.2.2.2), (res.1, y.2.2.2.2.1, y.2.2.2.2.2.1, y.2.2.2.2.2.2)) ++ (bl_LongArr E az oz res.2 ++ bl_DblArr E aw ow w)))) H → va_D A (List.flatten (bl_VB E a o x ++ (bl_Model E ay oy ((y.1.1, y.1.2.1, y.1.2.2.1, y.1.2.2.2.1, y.1.2.2.2.2), (y.2.1.1, y.2.1.2.1, y.2.1.2.2.1, y.2.1.2.2.2.1, y.2.1.2.2.2.2), (y.2.2.1.1, y.2.2.1.2.1, y.2.2.1.2.2.1, y.2.2.1.2.2.2), (res.1, y.2.2.2.2.1, y.2.2.2.2.2.1, y.2.2.2.2.2.2)) ++ (bl_LongArr E az oz res.2 ++ bl_DblArr E aw ow w)))) → va_S A s.heap H locs → lv_has ls 9 [(0, .ref b), (1, .ref (a o)), (2, .ref (ay oy)), (3, .ref (az oz)), (4, .ref (aw ow)), (5, .int i)] → W p l e room_1 s m args below meth c H locs (cv + 60) (sv + 5100) Q (F0 m 2881 ls [])) : W p l e room_1 s m args below meth c H locs cv sv Q (F0 m 1875 ls []) := by
  unfold f_case30 at hF
  refine lv_aload_n hx hb dL_law_1875 rfl (lv_at hl 1 rfl) ?_
  refine lv_aload_n hx hb dL_law_1876 rfl (lv_at hl 0 rfl) ?_
  refine lv_iload hx hb dL_law_1877 (lv_at hl 5 rfl) ?_
  refine lv_iconst (v := 1) hx hb dL_law_1879 (by decide) ?_
  refine lv_iadd hx hb dL_law_1880 ?_
  obtain ⟨g1, hF⟩ := q_gdi hF
  refine va_sld hx hb hX hbl hbA hS g1 dL_law_1881 ?_
  refine lv_aload_n hx hb dL_law_1882 rfl (lv_at hl 0 rfl) ?_
  refine lv_iload hx hb dL_law_1883 (lv_at hl 5 rfl) ?_
  refine lv_iconst (v := 2) hx hb dL_law_1885 (by decide) ?_
  refine lv_iadd hx hb dL_law_1886 ?_
  obtain ⟨g2, hF⟩ := q_gdi hF
  refine va_sld hx hb hX hbl hbA hS g2 dL_law_1887 ?_
  refine lv_aload_n hx hb dL_law_1888 rfl (lv_at hl 3 rfl) ?_
  have hP : va_P E.1 vwCl (List.flatten [w_VBR a o x.2.2.2.1 x.2.2.2.2.1 x.2.2.2.2.2, w_ValleyR a (o + 1), w_Key E a (o + 2) x.1.1.1, w_Bells E a (o + 3) x.1.1.2.1, w_Mel E a (o + 6) x.1.1.2.2.1, w_Cliffs E a (o + 10) x.1.1.2.2.2, w_ValleyR a (o + 13), w_Key E a (o + 14) x.1.2.1.1, w_Bells E a (o + 15) x.1.2.1.2.1, w_Mel E a (o + 18) x.1.2.1.2.2.1, w_Cliffs E a (o + 22) x.1.2.1.2.2.2, w_Prog E a (o + 25) x.1.2.2.2.1, w_Chord E a (o + 31) x.1.2.2.2.2, w_Key E a (o + 34) x.2.1, w_Line E a (o + 35) x.2.2.1, w_Hist E a (o + 37) x.1.2.2.1, w_Model E ay oy y, w_LongArr E az oz z, w_DblArr E aw ow w]) H := hP
  have hD : va_D A (List.flatten [w_VBR a o x.2.2.2.1 x.2.2.2.2.1 x.2.2.2.2.2, w_ValleyR a (o + 1), w_Key E a (o + 2) x.1.1.1, w_Bells E a (o + 3) x.1.1.2.1, w_Mel E a (o + 6) x.1.1.2.2.1, w_Cliffs E a (o + 10) x.1.1.2.2.2, w_ValleyR a (o + 13), w_Key E a (o + 14) x.1.2.1.1, w_Bells E a (o + 15) x.1.2.1.2.1, w_Mel E a (o + 18) x.1.2.1.2.2.1, w_Cliffs E a (o + 22) x.1.2.1.2.2.2, w_Prog E a (o + 25) x.1.2.2.2.1, w_Chord E a (o + 31) x.1.2.2.2.2, w_Key E a (o + 34) x.2.1, w_Line E a (o + 35) x.2.2.1, w_Hist E a (o + 37) x.1.2.2.1, w_Model E ay oy y, w_LongArr E az oz z, w_DblArr E aw ow w]) := hD
  obtain ⟨q3, hq3, hF⟩ := q_bdi hF
  refine cl_i (Lc := [w_VBR a o x.2.2.2.1 x.2.2.2.2.1 x.2.2.2.2.2, w_ValleyR a (o + 1), w_Key E a (o + 2) x.1.1.1, w_Bells E a (o + 3) x.1.1.2.1, w_Mel E a (o + 6) x.1.1.2.2.1, w_Cliffs E a (o + 10) x.1.1.2.2.2, w_ValleyR a (o + 13), w_Key E a (o + 14) x.1.2.1.1, w_Bells E a (o + 15) x.1.2.1.2.1, w_Mel E a (o + 18) x.1.2.1.2.2.1, w_Cliffs E a (o + 22) x.1.2.1.2.2.2, w_Prog E a (o + 25) x.1.2.2.2.1, w_Chord E a (o + 31) x.1.2.2.2.2, w_Key E a (o + 34) x.2.1, w_Line E a (o + 35) x.2.2.1, w_Hist E a (o + 37) x.1.2.2.1, w_LongArr E az oz z]) (Lc' := [w_VBR a o x.2.2.2.1 x.2.2.2.2.1 x.2.2.2.2.2, w_ValleyR a (o + 1), w_Key E a (o + 2) x.1.1.1, w_Bells E a (o + 3) x.1.1.2.1, w_Mel E a (o + 6) x.1.1.2.2.1, w_Cliffs E a (o + 10) x.1.1.2.2.2, w_ValleyR a (o + 13), w_Key E a (o + 14) x.1.2.1.1, w_Bells E a (o + 15) x.1.2.1.2.1, w_Mel E a (o + 18) x.1.2.1.2.2.1, w_Cliffs E a (o + 22) x.1.2.1.2.2.2, w_Prog E a (o + 25) x.1.2.2.2.1, w_Chord E a (o + 31) x.1.2.2.2.2, w_Key E a (o + 34) x.2.1, w_Line E a (o + 35) x.2.2.1, w_Hist E a (o + 37) x.1.2.2.1, w_LongArr E az oz q3.2]) (L' := [w_VBR a o x.2.2.2.1 x.2.2.2.2.1 x.2.2.2.2.2, w_ValleyR a (o + 1), w_Key E a (o + 2) x.1.1.1, w_Bells E a (o + 3) x.1.1.2.1, w_Mel E a (o + 6) x.1.1.2.2.1, w_Cliffs E a (o + 10) x.1.1.2.2.2, w_ValleyR a (o + 13), w_Key E a (o + 14) x.1.2.1.1, w_Bells E a (o + 15) x.1.2.1.2.1, w_Mel E a (o + 18) x.1.2.1.2.2.1, w_Cliffs E a (o + 22) x.1.2.1.2.2.2, w_Prog E a (o + 25) x.1.2.2.2.1, w_Chord E a (o + 31) x.1.2.2.2.2, w_Key E a (o + 34) x.2.1, w_Line E a (o + 35) x.2.2.1, w_Hist E a (o + 37) x.1.2.2.1, w_Model E ay oy y, w_LongArr E az oz q3.2, w_DblArr E aw ow w]) (rv := q3.1) (vx_runSW (As := [.ref (a o), .int (xs (i + 1).toNatClampNeg), .int (xs (i + 2).toNatClampNeg), .ref (az oz)]) (rest := []) ⟨hx, hb, hml, hown, ha⟩ (k_L_tone l E a o x az oz z (xs (i + 1).toNatClampNeg) (xs (i + 2).toNatClampNeg) q3 hq3 H.size hlt) (vx_cwSW 4 ha (gi_TH (fun _ h => h) mw1359 mw1360 mw73 mw1361) rfl rfl rfl hv_L_tone.2 ⟨(Nat.le_of_ble_eq_true rfl), (Nat.le_of_ble_eq_true rfl)⟩) ⟨pre_blind, pre_at hP hD hS hz hzs hst [0, 1, 2, 3, 4, 5, 6, 7, 8, 9, 10, 11, 12, 13, 14, 15, 17] (by decide) rfl rfl⟩ rfl rfl hl.1 rfl (lv_room (Nat.le_of_ble_eq_true rfl)) dL_law_1889 ⟨by show cv + 2 ≤ 603072; omega, by show sv + 12 ≤ 7207018; omega⟩) hP hD hS hA [0, 1, 2, 3, 4, 5, 6, 7, 8, 9, 10, 11, 12, 13, 14, 15, 17] (by decide) rfl rfl rfl rfl (fun H locs hP hD hS => ?_)
  refine lv_istore (lv' := [(6, .int q3.1), (0, .ref b), (1, .ref (a o)), (2, .ref (ay oy)), (3, .ref (az oz)), (4, .ref (aw ow)), (5, .int i)]) hx hb dL_law_1892 hl (by decide) rfl (fun ls hl => ?_)
  refine lv_aload_n hx hb dL_law_1894 rfl (lv_at hl 3 rfl) ?_
  refine lv_aload_n hx hb dL_law_1895 rfl (lv_at hl 1 rfl) ?_
  refine lv_iload hx hb dL_law_1896 (lv_at hl 6 rfl) ?_
  refine lv_iconst (v := 1) hx hb dL_law_1898 (by decide) ?_
  refine lv_iadd hx hb dL_law_1899 ?_
  obtain ⟨g4, hF⟩ := q_gdi hF
  refine va_sld hx hb hX hbl hbA hS g4 dL_law_1900 ?_
  refine lv_aload_n hx hb dL_law_1901 rfl (lv_at hl 1 rfl) ?_
  refine lv_iload hx hb dL_law_1902 (lv_at hl 6 rfl) ?_
  refine lv_iconst (v := 2) hx hb dL_law_1904 (by decide) ?_
  refine lv_iadd hx hb dL_law_1905 ?_
  obtain ⟨g5, hF⟩ := q_gdi hF
  refine va_sld hx hb hX hbl hbA hS g5 dL_law_1906 ?_
  obtain ⟨q6, hq6, hF⟩ := q_bdi hF
  refine cl_i (Lc := [w_Model E ay oy y]) (Lc' := [w_Model E ay oy ((y.1.1, y.1.2.1, y.1.2.2.1, y.1.2.2.2.1, y.1.2.2.2.2), (y.2.1.1, y.2.1.2.1, y.2.1.2.2.1, y.2.1.2.2.2.1, y.2.1.2.2.2.2), (y.2.2.1.1, y.2.2.1.2.1, y.2.2.1.2.2.1, y.2.2.1.2.2.2), (q6.2, y.2.2.2.2.1, y.2.2.2.2.2.1, y.2.2.2.2.2.2))]) (L' := [w_VBR a o x.2.2.2.1 x.2.2.2.2.1 x.2.2.2.2.2, w_ValleyR a (o + 1), w_Key E a (o + 2) x.1.1.1, w_Bells E a (o + 3) x.1.1.2.1, w_Mel E a (o + 6) x.1.1.2.2.1, w_Cliffs E a (o + 10) x.1.1.2.2.2, w_ValleyR a (o + 13), w_Key E a (o + 14) x.1.2.1.1, w_Bells E a (o + 15) x.1.2.1.2.1, w_Mel E a (o + 18) x.1.2.1.2.2.1, w_Cliffs E a (o + 22) x.1.2.1.2.2.2, w_Prog E a (o + 25) x.1.2.2.2.1, w_Chord E a (o + 31) x.1.2.2.2.2, w_Key E a (o + 34) x.2.1, w_Line E a (o + 35) x.2.2.1, w_Hist E a (o + 37) x.1.2.2.1, w_Model E ay oy ((y.1.1, y.1.2.1, y.1.2.2.1, y.1.2.2.2.1, y.1.2.2.2.2), (y.2.1.1, y.2.1.2.1, y.2.1.2.2.1, y.2.1.2.2.2.1, y.2.1.2.2.2.2), (y.2.2.1.1, y.2.2.1.2.1, y.2.2.1.2.2.1, y.2.2.1.2.2.2), (q6.2, y.2.2.2.2.1, y.2.2.2.2.2.1, y.2.2.2.2.2.2)), w_LongArr E az oz q3.2, w_DblArr E aw ow w]) (rv := q6.1) (va_runV (As := [.int (xs (i + 1).toNatClampNeg), .int (xs (i + 2).toNatClampNeg)]) (rest := []) ⟨hx, hb, hml, hown, ha⟩ (k_X11_tone l E ay oy y (xs (i + 1).toNatClampNeg) (xs (i + 2).toNatClampNeg) q6 hq6 H.size) (cwV 2 ha (gi_V (fun _ h => h) mw1934 mw1935 mw1936 mw87 mw1937) rfl rfl rfl hv_X11_tone ⟨(Nat.le_of_ble_eq_true rfl), (Nat.le_of_ble_eq_true rfl)⟩) ⟨pre_blind, va_recv hst.k (fr_P hP [16] rfl) (ci := 13) (q0 := 0) rfl rfl, pre_at hP hD hS hz hzs hst [16] (by decide) rfl rfl⟩ rfl rfl hl.1 rfl (lv_room (Nat.le_of_ble_eq_true rfl)) dL_law_1907 ⟨by show cv + 2 + 0 ≤ 603072; omega, by show sv + 12 + 0 ≤ 7207018; omega⟩) hP hD hS hA [16] (by decide) rfl rfl rfl rfl (fun H locs hP hD hS => ?_)
  refine lv_istore (lv' := [(7, .int q6.1), (6, .int q3.1), (0, .ref b), (1, .ref (a o)), (2, .ref (ay oy)), (3, .ref (az oz)), (4, .ref (aw ow)), (5, .int i)]) hx hb dL_law_1910 hl (by decide) rfl (fun ls hl => ?_)
  refine lv_aload_n hx hb dL_law_1912 rfl (lv_at hl 4 rfl) ?_
  obtain ⟨q7, hq7, hF⟩ := q_bdi hF
  refine cl_i (Lc := [w_Model E ay oy ((y.1.1, y.1.2.1, y.1.2.2.1, y.1.2.2.2.1, y.1.2.2.2.2), (y.2.1.1, y.2.1.2.1, y.2.1.2.2.1, y.2.1.2.2.2.1, y.2.1.2.2.2.2), (y.2.2.1.1, y.2.2.1.2.1, y.2.2.1.2.2.1, y.2.2.1.2.2.2), (q6.2, y.2.2.2.2.1, y.2.2.2.2.2.1, y.2.2.2.2.2.2))]) (Lc' := [w_Model E ay oy ((y.1.1, y.1.2.1, y.1.2.2.1, y.1.2.2.2.1, y.1.2.2.2.2), (y.2.1.1, y.2.1.2.1, y.2.1.2.2.1, y.2.1.2.2.2.1, y.2.1.2.2.2.2), (y.2.2.1.1, y.2.2.1.2.1, y.2.2.1.2.2.1, y.2.2.1.2.2.2), (q6.2, y.2.2.2.2.1, y.2.2.2.2.2.1, y.2.2.2.2.2.2))]) (L' := [w_VBR a o x.2.2.2.1 x.2.2.2.2.1 x.2.2.2.2.2, w_ValleyR a (o + 1), w_Key E a (o + 2) x.1.1.1, w_Bells E a (o + 3) x.1.1.2.1, w_Mel E a (o + 6) x.1.1.2.2.1, w_Cliffs E a (o + 10) x.1.1.2.2.2, w_ValleyR a (o + 13), w_Key E a (o + 14) x.1.2.1.1, w_Bells E a (o + 15) x.1.2.1.2.1, w_Mel E a (o + 18) x.1.2.1.2.2.1, w_Cliffs E a (o + 22) x.1.2.1.2.2.2, w_Prog E a (o + 25) x.1.2.2.2.1, w_Chord E a (o + 31) x.1.2.2.2.2, w_Key E a (o + 34) x.2.1, w_Line E a (o + 35) x.2.2.1, w_Hist E a (o + 37) x.1.2.2.1, w_Model E ay oy ((y.1.1, y.1.2.1, y.1.2.2.1, y.1.2.2.2.1, y.1.2.2.2.2), (y.2.1.1, y.2.1.2.1, y.2.1.2.2.1, y.2.1.2.2.2.1, y.2.1.2.2.2.2), (y.2.2.1.1, y.2.2.1.2.1, y.2.2.1.2.2.1, y.2.2.1.2.2.2), (q6.2, y.2.2.2.2.1, y.2.2.2.2.2.1, y.2.2.2.2.2.2)), w_LongArr E az oz q3.2, w_DblArr E aw ow w]) (rv := q7) (va_runV (As := []) (rest := []) ⟨hx, hb, hml, hown, ha⟩ (k_X11_thrown l E ay oy ((y.1.1, y.1.2.1, y.1.2.2.1, y.1.2.2.2.1, y.1.2.2.2.2), (y.2.1.1, y.2.1.2.1, y.2.1.2.2.1, y.2.1.2.2.2.1, y.2.1.2.2.2.2), (y.2.2.1.1, y.2.2.1.2.1, y.2.2.1.2.2.1, y.2.2.1.2.2.2), (q6.2, y.2.2.2.2.1, y.2.2.2.2.2.1, y.2.2.2.2.2.2)) q7 hq7 H.size) (cwV 0 ha (gi_V (fun _ h => h) mw1691 mw1692 mw1693 mw87 mw1694) rfl rfl rfl hv_X11_thrown ⟨(Nat.le_of_ble_eq_true rfl), (Nat.le_of_ble_eq_true rfl)⟩) ⟨pre_blind, va_recv hst.k (fr_P hP [16] rfl) (ci := 13) (q0 := 0) rfl rfl, pre_at hP hD hS hz hzs hst [16] (by decide) rfl rfl⟩ rfl rfl hl.1 rfl (lv_room (Nat.le_of_ble_eq_true rfl)) dL_law_1913 ⟨by show cv + 2 + 0 ≤ 603072; omega, by show sv + 12 + 0 ≤ 7207018; omega⟩) hP hD hS hA [16] (by decide) rfl rfl rfl rfl (fun H locs hP hD hS => ?_)
  refine lv_iload hx hb dL_law_1916 (lv_at hl 1 rfl) ?_
  refine lv_icmp_eq (tgt := 1923) hx hb dL_law_1918 (by decide) (fun c1918 => ?_) (fun c1918 => ?_)
  · have hF := q_brp c1918 hF
    refine lv_iload hx hb dL_law_1923 (lv_at hl 1 rfl) ?_
    refine lv_if_ne (tgt := 1940) hx hb dL_law_1925 (by decide) (fun c1925 => ?_) (fun c1925 => ?_)
    · have hF := q_brn c1925 hF
      refine lv_goto (tgt := 2881) hx hb dL_law_1940 (by decide) ?_
      obtain rfl := Option.some.inj hF
      refine W.widen (k := cv + 60) (n := sv + 5100) (by omega) (by omega) ?_
      exact hK H locs ls hP hD hS (lv_sub hl [2, 3, 4, 5, 6, 7] rfl)
    · have hF := q_brp c1925 hF
      refine lv_aload_n hx hb dL_law_1928 rfl (lv_at hl 5 rfl) ?_
      refine lv_iconst (v := 0) hx hb dL_law_1929 (by decide) ?_
      refine vi_lald hx hb hst.k hP 156 3 rfl rfl (f := q3.2) (k := 0) (by decide) (by decide) dL_law_1930 ?_
      refine lv_iload hx hb dL_law_1931 (lv_at hl 0 rfl) ?_
      refine lv_i2l hx hb dL_law_1933 rfl ?_
      refine W.lcmp hx hb dL_law_1934 ?_
      refine lv_if_eq (tgt := 1940) hx hb dL_law_1935 (by decide) (fun c1935 => ?_) (fun c1935 => ?_)
      · have hF := q_brp c1935 hF
        refine lv_goto (tgt := 2881) hx hb dL_law_1940 (by decide) ?_
        obtain rfl := Option.some.inj hF
        refine W.widen (k := cv + 60) (n := sv + 5100) (by omega) (by omega) ?_
        exact hK H locs ls hP hD hS (lv_sub hl [2, 3, 4, 5, 6, 7] rfl)
      · have hF := q_brn c1935 hF
        exact absurd hF (by simp)
  · have hF := q_brn c1918 hF
    exact absurd hF (by simp)
def f_c30 (x : VB_t) (y : Model_t) (z : Nat → Int64) (w : Nat → UInt64) (xs : Nat → Int32) (n : Nat) (i : Int32) : Option (VB_t × Model_t × (Nat → Int64) × (Nat → UInt64)) := q_bd (f_case30 x.1.1.2.2.1.1 x.1.1.2.2.1.2.2 y.1.1 y.2.2.2.1 z xs n i) (fun res => some (x, ((y.1.1, y.1.2.1, y.1.2.2.1, y.1.2.2.2.1, y.1.2.2.2.2), (y.2.1.1, y.2.1.2.1, y.2.1.2.2.1, y.2.1.2.2.2.1, y.2.1.2.2.2.2), (y.2.2.1.1, y.2.2.1.2.1, y.2.2.1.2.2.1, y.2.2.1.2.2.2), (res.1, y.2.2.2.2.1, y.2.2.2.2.2.1, y.2.2.2.2.2.2)), res.2, w))
/-! case 31 -/
theorem dL_law_1943 : decode cL_law 1943 = .ok (.aload_n 1, 1) := by decide +kernel
theorem dL_law_1944 : decode cL_law 1944 = .ok (.aload_n 0, 1) := by decide +kernel
theorem dL_law_1945 : decode cL_law 1945 = .ok (.iload 5, 2) := by decide +kernel
theorem dL_law_1947 : decode cL_law 1947 = .ok (.iconst 1, 1) := by decide +kernel
theorem dL_law_1948 : decode cL_law 1948 = .ok (.iadd, 1) := by decide +kernel
theorem dL_law_1949 : decode cL_law 1949 = .ok (.iaload, 1) := by decide +kernel
theorem dL_law_1950 : decode cL_law 1950 = .ok (.aload_n 3, 1) := by decide +kernel
theorem dL_law_1951 : decode cL_law 1951 = .ok (.invokestatic 264, 3) := by decide +kernel
theorem dL_law_1954 : decode cL_law 1954 = .ok (.istore 6, 2) := by decide +kernel
theorem dL_law_1956 : decode cL_law 1956 = .ok (.aload_n 2, 1) := by decide +kernel
theorem dL_law_1957 : decode cL_law 1957 = .ok (.aload_n 0, 1) := by decide +kernel
theorem dL_law_1958 : decode cL_law 1958 = .ok (.iload 5, 2) := by decide +kernel
theorem dL_law_1960 : decode cL_law 1960 = .ok (.iconst 1, 1) := by decide +kernel
theorem dL_law_1961 : decode cL_law 1961 = .ok (.iadd, 1) := by decide +kernel
theorem dL_law_1962 : decode cL_law 1962 = .ok (.iaload, 1) := by decide +kernel
theorem dL_law_1963 : decode cL_law 1963 = .ok (.invokevirtual 266, 3) := by decide +kernel
theorem dL_law_1966 : decode cL_law 1966 = .ok (.istore 7, 2) := by decide +kernel
theorem dL_law_1968 : decode cL_law 1968 = .ok (.aload_n 2, 1) := by decide +kernel
theorem dL_law_1969 : decode cL_law 1969 = .ok (.invokevirtual 160, 3) := by decide +kernel
theorem dL_law_1972 : decode cL_law 1972 = .ok (.iload 6, 2) := by decide +kernel
theorem dL_law_1974 : decode cL_law 1974 = .ok (.if_icmp .eq 5, 3) := by decide +kernel
theorem dL_law_1979 : decode cL_law 1979 = .ok (.iload 6, 2) := by decide +kernel
theorem dL_law_1981 : decode cL_law 1981 = .ok (.ifCond .ne 15, 3) := by decide +kernel
theorem dL_law_1984 : decode cL_law 1984 = .ok (.aload_n 3, 1) := by decide +kernel
theorem dL_law_1985 : decode cL_law 1985 = .ok (.iconst 0, 1) := by decide +kernel
theorem dL_law_1986 : decode cL_law 1986 = .ok (.laload, 1) := by decide +kernel
theorem dL_law_1987 : decode cL_law 1987 = .ok (.iload 7, 2) := by decide +kernel
theorem dL_law_1989 : decode cL_law 1989 = .ok (.i2l, 1) := by decide +kernel
theorem dL_law_1990 : decode cL_law 1990 = .ok (.lcmp, 1) := by decide +kernel
theorem dL_law_1991 : decode cL_law 1991 = .ok (.ifCond .eq 5, 3) := by decide +kernel
theorem dL_law_1996 : decode cL_law 1996 = .ok (.goto 885, 3) := by decide +kernel
def f_case31 (x_valley_melodies_entries : (Nat → Int32)) (y_g : (Nat → Int32)) (y_thrown : Int32) (z_v : (Nat → Int64)) (xs : (Nat → Int32)) (n : Nat) (i : Int32) : Option (Int32 × (Nat → Int64)) :=
  q_gd (q_in (i + 1) n) (
  q_bd (f_L_entry x_valley_melodies_entries z_v (xs (i + 1).toNatClampNeg)) (fun q2 =>
  q_gd (q_in (i + 1) n) (
  q_bd (f_X11_entry y_g y_thrown (xs (i + 1).toNatClampNeg)) (fun q4 =>
  q_bd (f_X11_thrown q4.2) (fun q5 =>
  q_br (q5 = q2.1) (
  q_br (q2.1 = 0) (
  q_br ((lg_cmp (q2.2 0) (q4.1.toInt64)) = 0) (
  some (q4.2, q2.2)) (
  none)) (
  some (q4.2, q2.2))) (
  none))))))
set_option maxHeartbeats 4000000 in
set_option maxRecDepth 100000 in
theorem kc_31 {p : Program} {e : Env} {s : State} {m : MethodId} {args : Array Value} {below : List Frame} {meth : Method} {c : Code} {Q : State → Prop} {A : Nat → Prop} (l : Launch) (hlt : l.stackTraces = false) (E : ET) (a : Nat → Nat) (o : Nat) (x : VB_t) (ay : Nat → Nat) (oy : Nat) (y : Model_t) (az : Nat → Nat) (oz : Nat) (z : Nat → Int64) (aw : Nat → Nat) (ow : Nat) (w : Nat → UInt64) (b n : Nat) (xs : Nat → Int32) (i : Int32) (hx : p.tables.exec = Jvm.exec) (hb : c.code = cL_law) (hml : c.maxLocals = 9) (hown : s.vm.findClass RL = some m.cls) (ha : ∀ w ∈ lw_all, w.before args s = true) (hA : ∀ q, s.heap.size ≤ q → A q) (hz : ∀ q, A q → E.2 0 ≤ q) (hzs : E.2 0 ≤ s.heap.size) (hst : ST E s) (hX : va_X b n xs s s.heap) (hbl : b < s.heap.size) (hbA : ¬ A b) (res : Int32 × (Nat → Int64)) (hF : f_case31 x.1.1.2.2.1.2.1 y.1.1 y.2.2.2.1 z xs n i = some res) {H : Heap} {locs : List Loc} {ls : Array Slot} {cv sv : Nat} (hcv : cv + 60 ≤ 603072) (hsv : sv + 5100 ≤ 7207018) (hP : va_P E.1 vwCl (List.flatten [w_VBR a o x.2.2.2.1 x.2.2.2.2.1 x.2.2.2.2.2, w_ValleyR a (o + 1), w_Key E a (o + 2) x.1.1.1, w_Bells E a (o + 3) x.1.1.2.1, w_Mel E a (o + 6) x.1.1.2.2.1, w_Cliffs E a (o + 10) x.1.1.2.2.2, w_ValleyR a (o + 13), w_Key E a (o + 14) x.1.2.1.1, w_Bells E a (o + 15) x.1.2.1.2.1, w_Mel E a (o + 18) x.1.2.1.2.2.1, w_Cliffs E a (o + 22) x.1.2.1.2.2.2, w_Prog E a (o + 25) x.1.2.2.2.1, w_Chord E a (o + 31) x.1.2.2.2.2, w_Key E a (o + 34) x.2.1, w_Line E a (o + 35) x.2.2.1, w_Hist E a (o + 37) x.1.2.2.1, w_Model E ay oy y, w_LongArr E az oz z, w_DblArr E aw ow w]) H) (hD : va_D A (List.flatten [w_VBR a o x.2.2.2.1 x.2.2.2.2.1 x.2.2.2.2.2, w_ValleyR a (o + 1), w_Key E a (o + 2) x.1.1.1, w_Bells E a (o + 3) x.1.1.2.1, w_Mel E a (o + 6) x.1.1.2.2.1, w_Cliffs E a (o + 10) x.1.1.2.2.2, w_ValleyR a (o + 13), w_Key E a (o + 14) x.1.2.1.1, w_Bells E a (o + 15) x.1.2.1.2.1, w_Mel E a (o + 18) x.1.2.1.2.2.1, w_Cliffs E a (o + 22) x.1.2.1.2.2.2, w_Prog E a (o + 25) x.1.2.2.2.1, w_Chord E a (o + 31) x.1.2.2.2.2, w_Key E a (o + 34) x.2.1, w_Line E a (o + 35) x.2.2.1, w_Hist E a (o + 37) x.1.2.2.1, w_Model E ay oy y, w_LongArr E az oz z, w_DblArr E aw ow w])) (hS : va_S A s.heap H locs) (hl : lv_has ls 9 [(0, .ref b), (1, .ref (a o)), (2, .ref (ay oy)), (3, .ref (az oz)), (4, .ref (aw ow)), (5, .int i)])
    (hK : ∀ (H : Heap) (locs : List Loc) (ls : Array Slot), va_P E.1 vwCl (List.flatten (bl_VB E a o x ++ (bl_Model E ay oy ((y.1.1, y.1.2.1, y.1.2.2.1, y.1.2.2.2.1, y.1.2.2.2.2), (y.2.1.1, y.2.1.2.1, y.2.1.2.2.1, y.2.1.2.2.2.1, y.2.1.2.2.2.2), (y.2.2.1.1, y.2.2.1.2.1, y.2.2.1.2.2.1, y.2.2.1.2.2.2), (res.1, y.2.2.2.2.1, y.2.2.2.2.2.1, y.2.2.2.2.2.2)) ++ (bl_LongArr E az oz res.2 ++ bl_DblArr E aw ow w)))) H → va_D A (List.flatten (bl_VB E a o x ++ (bl_Model E ay oy ((y.1.1, y.1.2.1, y.1.2.2.1, y.1.2.2.2.1, y.1.2.2.2.2), (y.2.1.1, y.2.1.2.1, y.2.1.2.2.1, y.2.1.2.2.2.1, y.2.1.2.2.2.2), (y.2.2.1.1, y.2.2.1.2.1, y.2.2.1.2.2.1, y.2.2.1.2.2.2), (res.1, y.2.2.2.2.1, y.2.2.2.2.2.1, y.2.2.2.2.2.2)) ++ (bl_LongArr E az oz res.2 ++ bl_DblArr E aw ow w)))) → va_S A s.heap H locs → lv_has ls 9 [(0, .ref b), (1, .ref (a o)), (2, .ref (ay oy)), (3, .ref (az oz)), (4, .ref (aw ow)), (5, .int i)] → W p l e room_1 s m args below meth c H locs (cv + 60) (sv + 5100) Q (F0 m 2881 ls [])) : W p l e room_1 s m args below meth c H locs cv sv Q (F0 m 1943 ls []) := by
  unfold f_case31 at hF
  refine lv_aload_n hx hb dL_law_1943 rfl (lv_at hl 1 rfl) ?_
  refine lv_aload_n hx hb dL_law_1944 rfl (lv_at hl 0 rfl) ?_
  refine lv_iload hx hb dL_law_1945 (lv_at hl 5 rfl) ?_
  refine lv_iconst (v := 1) hx hb dL_law_1947 (by decide) ?_
  refine lv_iadd hx hb dL_law_1948 ?_
  obtain ⟨g1, hF⟩ := q_gdi hF
  refine va_sld hx hb hX hbl hbA hS g1 dL_law_1949 ?_
  refine lv_aload_n hx hb dL_law_1950 rfl (lv_at hl 3 rfl) ?_
  have hP : va_P E.1 vwCl (List.flatten [w_VBR a o x.2.2.2.1 x.2.2.2.2.1 x.2.2.2.2.2, w_ValleyR a (o + 1), w_Key E a (o + 2) x.1.1.1, w_Bells E a (o + 3) x.1.1.2.1, w_Mel E a (o + 6) x.1.1.2.2.1, w_Cliffs E a (o + 10) x.1.1.2.2.2, w_ValleyR a (o + 13), w_Key E a (o + 14) x.1.2.1.1, w_Bells E a (o + 15) x.1.2.1.2.1, w_Mel E a (o + 18) x.1.2.1.2.2.1, w_Cliffs E a (o + 22) x.1.2.1.2.2.2, w_Prog E a (o + 25) x.1.2.2.2.1, w_Chord E a (o + 31) x.1.2.2.2.2, w_Key E a (o + 34) x.2.1, w_Line E a (o + 35) x.2.2.1, w_Hist E a (o + 37) x.1.2.2.1, w_Model E ay oy y, w_LongArr E az oz z, w_DblArr E aw ow w]) H := hP
  have hD : va_D A (List.flatten [w_VBR a o x.2.2.2.1 x.2.2.2.2.1 x.2.2.2.2.2, w_ValleyR a (o + 1), w_Key E a (o + 2) x.1.1.1, w_Bells E a (o + 3) x.1.1.2.1, w_Mel E a (o + 6) x.1.1.2.2.1, w_Cliffs E a (o + 10) x.1.1.2.2.2, w_ValleyR a (o + 13), w_Key E a (o + 14) x.1.2.1.1, w_Bells E a (o + 15) x.1.2.1.2.1, w_Mel E a (o + 18) x.1.2.1.2.2.1, w_Cliffs E a (o + 22) x.1.2.1.2.2.2, w_Prog E a (o + 25) x.1.2.2.2.1, w_Chord E a (o + 31) x.1.2.2.2.2, w_Key E a (o + 34) x.2.1, w_Line E a (o + 35) x.2.2.1, w_Hist E a (o + 37) x.1.2.2.1, w_Model E ay oy y, w_LongArr E az oz z, w_DblArr E aw ow w]) := hD
  obtain ⟨q2, hq2, hF⟩ := q_bdi hF
  refine cl_i (Lc := [w_VBR a o x.2.2.2.1 x.2.2.2.2.1 x.2.2.2.2.2, w_ValleyR a (o + 1), w_Key E a (o + 2) x.1.1.1, w_Bells E a (o + 3) x.1.1.2.1, w_Mel E a (o + 6) x.1.1.2.2.1, w_Cliffs E a (o + 10) x.1.1.2.2.2, w_ValleyR a (o + 13), w_Key E a (o + 14) x.1.2.1.1, w_Bells E a (o + 15) x.1.2.1.2.1, w_Mel E a (o + 18) x.1.2.1.2.2.1, w_Cliffs E a (o + 22) x.1.2.1.2.2.2, w_Prog E a (o + 25) x.1.2.2.2.1, w_Chord E a (o + 31) x.1.2.2.2.2, w_Key E a (o + 34) x.2.1, w_Line E a (o + 35) x.2.2.1, w_Hist E a (o + 37) x.1.2.2.1, w_LongArr E az oz z]) (Lc' := [w_VBR a o x.2.2.2.1 x.2.2.2.2.1 x.2.2.2.2.2, w_ValleyR a (o + 1), w_Key E a (o + 2) x.1.1.1, w_Bells E a (o + 3) x.1.1.2.1, w_Mel E a (o + 6) x.1.1.2.2.1, w_Cliffs E a (o + 10) x.1.1.2.2.2, w_ValleyR a (o + 13), w_Key E a (o + 14) x.1.2.1.1, w_Bells E a (o + 15) x.1.2.1.2.1, w_Mel E a (o + 18) x.1.2.1.2.2.1, w_Cliffs E a (o + 22) x.1.2.1.2.2.2, w_Prog E a (o + 25) x.1.2.2.2.1, w_Chord E a (o + 31) x.1.2.2.2.2, w_Key E a (o + 34) x.2.1, w_Line E a (o + 35) x.2.2.1, w_Hist E a (o + 37) x.1.2.2.1, w_LongArr E az oz q2.2]) (L' := [w_VBR a o x.2.2.2.1 x.2.2.2.2.1 x.2.2.2.2.2, w_ValleyR a (o + 1), w_Key E a (o + 2) x.1.1.1, w_Bells E a (o + 3) x.1.1.2.1, w_Mel E a (o + 6) x.1.1.2.2.1, w_Cliffs E a (o + 10) x.1.1.2.2.2, w_ValleyR a (o + 13), w_Key E a (o + 14) x.1.2.1.1, w_Bells E a (o + 15) x.1.2.1.2.1, w_Mel E a (o + 18) x.1.2.1.2.2.1, w_Cliffs E a (o + 22) x.1.2.1.2.2.2, w_Prog E a (o + 25) x.1.2.2.2.1, w_Chord E a (o + 31) x.1.2.2.2.2, w_Key E a (o + 34) x.2.1, w_Line E a (o + 35) x.2.2.1, w_Hist E a (o + 37) x.1.2.2.1, w_Model E ay oy y, w_LongArr E az oz q2.2, w_DblArr E aw ow w]) (rv := q2.1) (vx_runSW (As := [.ref (a o), .int (xs (i + 1).toNatClampNeg), .ref (az oz)]) (rest := []) ⟨hx, hb, hml, hown, ha⟩ (k_L_entry l E a o x az oz z (xs (i + 1).toNatClampNeg) q2 hq2 H.size hlt) (vx_cwSW 3 ha (gi_TH (fun _ h => h) mw1369 mw1370 mw73 mw1371) rfl rfl rfl hv_L_entry.2 ⟨(Nat.le_of_ble_eq_true rfl), (Nat.le_of_ble_eq_true rfl)⟩) ⟨pre_blind, pre_at hP hD hS hz hzs hst [0, 1, 2, 3, 4, 5, 6, 7, 8, 9, 10, 11, 12, 13, 14, 15, 17] (by decide) rfl rfl⟩ rfl rfl hl.1 rfl (lv_room (Nat.le_of_ble_eq_true rfl)) dL_law_1951 ⟨by show cv + 1 ≤ 603072; omega, by show sv + 6 ≤ 7207018; omega⟩) hP hD hS hA [0, 1, 2, 3, 4, 5, 6, 7, 8, 9, 10, 11, 12, 13, 14, 15, 17] (by decide) rfl rfl rfl rfl (fun H locs hP hD hS => ?_)
  refine lv_istore (lv' := [(6, .int q2.1), (0, .ref b), (1, .ref (a o)), (2, .ref (ay oy)), (3, .ref (az oz)), (4, .ref (aw ow)), (5, .int i)]) hx hb dL_law_1954 hl (by decide) rfl (fun ls hl => ?_)
  refine lv_aload_n hx hb dL_law_1956 rfl (lv_at hl 3 rfl) ?_
  refine lv_aload_n hx hb dL_law_1957 rfl (lv_at hl 1 rfl) ?_
  refine lv_iload hx hb dL_law_1958 (lv_at hl 6 rfl) ?_
  refine lv_iconst (v := 1) hx hb dL_law_1960 (by decide) ?_
  refine lv_iadd hx hb dL_law_1961 ?_
  obtain ⟨g3, hF⟩ := q_gdi hF
  refine va_sld hx hb hX hbl hbA hS g3 dL_law_1962 ?_
  obtain ⟨q4, hq4, hF⟩ := q_bdi hF
  refine cl_i (Lc := [w_Model E ay oy y]) (Lc' := [w_Model E ay oy ((y.1.1, y.1.2.1, y.1.2.2.1, y.1.2.2.2.1, y.1.2.2.2.2), (y.2.1.1, y.2.1.2.1, y.2.1.2.2.1, y.2.1.2.2.2.1, y.2.1.2.2.2.2), (y.2.2.1.1, y.2.2.1.2.1, y.2.2.1.2.2.1, y.2.2.1.2.2.2), (q4.2, y.2.2.2.2.1, y.2.2.2.2.2.1, y.2.2.2.2.2.2))]) (L' := [w_VBR a o x.2.2.2.1 x.2.2.2.2.1 x.2.2.2.2.2, w_ValleyR a (o + 1), w_Key E a (o + 2) x.1.1.1, w_Bells E a (o + 3) x.1.1.2.1, w_Mel E a (o + 6) x.1.1.2.2.1, w_Cliffs E a (o + 10) x.1.1.2.2.2, w_ValleyR a (o + 13), w_Key E a (o + 14) x.1.2.1.1, w_Bells E a (o + 15) x.1.2.1.2.1, w_Mel E a (o + 18) x.1.2.1.2.2.1, w_Cliffs E a (o + 22) x.1.2.1.2.2.2, w_Prog E a (o + 25) x.1.2.2.2.1, w_Chord E a (o + 31) x.1.2.2.2.2, w_Key E a (o + 34) x.2.1, w_Line E a (o + 35) x.2.2.1, w_Hist E a (o + 37) x.1.2.2.1, w_Model E ay oy ((y.1.1, y.1.2.1, y.1.2.2.1, y.1.2.2.2.1, y.1.2.2.2.2), (y.2.1.1, y.2.1.2.1, y.2.1.2.2.1, y.2.1.2.2.2.1, y.2.1.2.2.2.2), (y.2.2.1.1, y.2.2.1.2.1, y.2.2.1.2.2.1, y.2.2.1.2.2.2), (q4.2, y.2.2.2.2.1, y.2.2.2.2.2.1, y.2.2.2.2.2.2)), w_LongArr E az oz q2.2, w_DblArr E aw ow w]) (rv := q4.1) (va_runV (As := [.int (xs (i + 1).toNatClampNeg)]) (rest := []) ⟨hx, hb, hml, hown, ha⟩ (k_X11_entry l E ay oy y (xs (i + 1).toNatClampNeg) q4 hq4 H.size) (cwV 1 ha (gi_V (fun _ h => h) mw1942 mw1943 mw1944 mw87 mw1945) rfl rfl rfl hv_X11_entry ⟨(Nat.le_of_ble_eq_true rfl), (Nat.le_of_ble_eq_true rfl)⟩) ⟨pre_blind, va_recv hst.k (fr_P hP [16] rfl) (ci := 13) (q0 := 0) rfl rfl, pre_at hP hD hS hz hzs hst [16] (by decide) rfl rfl⟩ rfl rfl hl.1 rfl (lv_room (Nat.le_of_ble_eq_true rfl)) dL_law_1963 ⟨by show cv + 1 + 0 ≤ 603072; omega, by show sv + 6 + 0 ≤ 7207018; omega⟩) hP hD hS hA [16] (by decide) rfl rfl rfl rfl (fun H locs hP hD hS => ?_)
  refine lv_istore (lv' := [(7, .int q4.1), (6, .int q2.1), (0, .ref b), (1, .ref (a o)), (2, .ref (ay oy)), (3, .ref (az oz)), (4, .ref (aw ow)), (5, .int i)]) hx hb dL_law_1966 hl (by decide) rfl (fun ls hl => ?_)
  refine lv_aload_n hx hb dL_law_1968 rfl (lv_at hl 4 rfl) ?_
  obtain ⟨q5, hq5, hF⟩ := q_bdi hF
  refine cl_i (Lc := [w_Model E ay oy ((y.1.1, y.1.2.1, y.1.2.2.1, y.1.2.2.2.1, y.1.2.2.2.2), (y.2.1.1, y.2.1.2.1, y.2.1.2.2.1, y.2.1.2.2.2.1, y.2.1.2.2.2.2), (y.2.2.1.1, y.2.2.1.2.1, y.2.2.1.2.2.1, y.2.2.1.2.2.2), (q4.2, y.2.2.2.2.1, y.2.2.2.2.2.1, y.2.2.2.2.2.2))]) (Lc' := [w_Model E ay oy ((y.1.1, y.1.2.1, y.1.2.2.1, y.1.2.2.2.1, y.1.2.2.2.2), (y.2.1.1, y.2.1.2.1, y.2.1.2.2.1, y.2.1.2.2.2.1, y.2.1.2.2.2.2), (y.2.2.1.1, y.2.2.1.2.1, y.2.2.1.2.2.1, y.2.2.1.2.2.2), (q4.2, y.2.2.2.2.1, y.2.2.2.2.2.1, y.2.2.2.2.2.2))]) (L' := [w_VBR a o x.2.2.2.1 x.2.2.2.2.1 x.2.2.2.2.2, w_ValleyR a (o + 1), w_Key E a (o + 2) x.1.1.1, w_Bells E a (o + 3) x.1.1.2.1, w_Mel E a (o + 6) x.1.1.2.2.1, w_Cliffs E a (o + 10) x.1.1.2.2.2, w_ValleyR a (o + 13), w_Key E a (o + 14) x.1.2.1.1, w_Bells E a (o + 15) x.1.2.1.2.1, w_Mel E a (o + 18) x.1.2.1.2.2.1, w_Cliffs E a (o + 22) x.1.2.1.2.2.2, w_Prog E a (o + 25) x.1.2.2.2.1, w_Chord E a (o + 31) x.1.2.2.2.2, w_Key E a (o + 34) x.2.1, w_Line E a (o + 35) x.2.2.1, w_Hist E a (o + 37) x.1.2.2.1, w_Model E ay oy ((y.1.1, y.1.2.1, y.1.2.2.1, y.1.2.2.2.1, y.1.2.2.2.2), (y.2.1.1, y.2.1.2.1, y.2.1.2.2.1, y.2.1.2.2.2.1, y.2.1.2.2.2.2), (y.2.2.1.1, y.2.2.1.2.1, y.2.2.1.2.2.1, y.2.2.1.2.2.2), (q4.2, y.2.2.2.2.1, y.2.2.2.2.2.1, y.2.2.2.2.2.2)), w_LongArr E az oz q2.2, w_DblArr E aw ow w]) (rv := q5) (va_runV (As := []) (rest := []) ⟨hx, hb, hml, hown, ha⟩ (k_X11_thrown l E ay oy ((y.1.1, y.1.2.1, y.1.2.2.1, y.1.2.2.2.1, y.1.2.2.2.2), (y.2.1.1, y.2.1.2.1, y.2.1.2.2.1, y.2.1.2.2.2.1, y.2.1.2.2.2.2), (y.2.2.1.1, y.2.2.1.2.1, y.2.2.1.2.2.1, y.2.2.1.2.2.2), (q4.2, y.2.2.2.2.1, y.2.2.2.2.2.1, y.2.2.2.2.2.2)) q5 hq5 H.size) (cwV 0 ha (gi_V (fun _ h => h) mw1691 mw1692 mw1693 mw87 mw1694) rfl rfl rfl hv_X11_thrown ⟨(Nat.le_of_ble_eq_true rfl), (Nat.le_of_ble_eq_true rfl)⟩) ⟨pre_blind, va_recv hst.k (fr_P hP [16] rfl) (ci := 13) (q0 := 0) rfl rfl, pre_at hP hD hS hz hzs hst [16] (by decide) rfl rfl⟩ rfl rfl hl.1 rfl (lv_room (Nat.le_of_ble_eq_true rfl)) dL_law_1969 ⟨by show cv + 1 + 0 ≤ 603072; omega, by show sv + 6 + 0 ≤ 7207018; omega⟩) hP hD hS hA [16] (by decide) rfl rfl rfl rfl (fun H locs hP hD hS => ?_)
  refine lv_iload hx hb dL_law_1972 (lv_at hl 1 rfl) ?_
  refine lv_icmp_eq (tgt := 1979) hx hb dL_law_1974 (by decide) (fun c1974 => ?_) (fun c1974 => ?_)
  · have hF := q_brp c1974 hF
    refine lv_iload hx hb dL_law_1979 (lv_at hl 1 rfl) ?_
    refine lv_if_ne (tgt := 1996) hx hb dL_law_1981 (by decide) (fun c1981 => ?_) (fun c1981 => ?_)
    · have hF := q_brn c1981 hF
      refine lv_goto (tgt := 2881) hx hb dL_law_1996 (by decide) ?_
      obtain rfl := Option.some.inj hF
      refine W.widen (k := cv + 60) (n := sv + 5100) (by omega) (by omega) ?_
      exact hK H locs ls hP hD hS (lv_sub hl [2, 3, 4, 5, 6, 7] rfl)
    · have hF := q_brp c1981 hF
      refine lv_aload_n hx hb dL_law_1984 rfl (lv_at hl 5 rfl) ?_
      refine lv_iconst (v := 0) hx hb dL_law_1985 (by decide) ?_
      refine vi_lald hx hb hst.k hP 156 3 rfl rfl (f := q2.2) (k := 0) (by decide) (by decide) dL_law_1986 ?_
      refine lv_iload hx hb dL_law_1987 (lv_at hl 0 rfl) ?_
      refine lv_i2l hx hb dL_law_1989 rfl ?_
      refine W.lcmp hx hb dL_law_1990 ?_
      refine lv_if_eq (tgt := 1996) hx hb dL_law_1991 (by decide) (fun c1991 => ?_) (fun c1991 => ?_)
      · have hF := q_brp c1991 hF
        refine lv_goto (tgt := 2881) hx hb dL_law_1996 (by decide) ?_
        obtain rfl := Option.some.inj hF
        refine W.widen (k := cv + 60) (n := sv + 5100) (by omega) (by omega) ?_
        exact hK H locs ls hP hD hS (lv_sub hl [2, 3, 4, 5, 6, 7] rfl)
      · have hF := q_brn c1991 hF
        exact absurd hF (by simp)
  · have hF := q_brn c1974 hF
    exact absurd hF (by simp)
def f_c31 (x : VB_t) (y : Model_t) (z : Nat → Int64) (w : Nat → UInt64) (xs : Nat → Int32) (n : Nat) (i : Int32) : Option (VB_t × Model_t × (Nat → Int64) × (Nat → UInt64)) := q_bd (f_case31 x.1.1.2.2.1.2.1 y.1.1 y.2.2.2.1 z xs n i) (fun res => some (x, ((y.1.1, y.1.2.1, y.1.2.2.1, y.1.2.2.2.1, y.1.2.2.2.2), (y.2.1.1, y.2.1.2.1, y.2.1.2.2.1, y.2.1.2.2.2.1, y.2.1.2.2.2.2), (y.2.2.1.1, y.2.2.1.2.1, y.2.2.1.2.2.1, y.2.2.1.2.2.2), (res.1, y.2.2.2.2.1, y.2.2.2.2.2.1, y.2.2.2.2.2.2)), res.2, w))
/-! case 32 -/
theorem dL_law_1999 : decode cL_law 1999 = .ok (.aload_n 1, 1) := by decide +kernel
theorem dL_law_2000 : decode cL_law 2000 = .ok (.aload_n 0, 1) := by decide +kernel
theorem dL_law_2001 : decode cL_law 2001 = .ok (.iload 5, 2) := by decide +kernel
theorem dL_law_2003 : decode cL_law 2003 = .ok (.iconst 1, 1) := by decide +kernel
theorem dL_law_2004 : decode cL_law 2004 = .ok (.iadd, 1) := by decide +kernel
theorem dL_law_2005 : decode cL_law 2005 = .ok (.iaload, 1) := by decide +kernel
theorem dL_law_2006 : decode cL_law 2006 = .ok (.aload_n 0, 1) := by decide +kernel
theorem dL_law_2007 : decode cL_law 2007 = .ok (.iload 5, 2) := by decide +kernel
theorem dL_law_2009 : decode cL_law 2009 = .ok (.iconst 2, 1) := by decide +kernel
theorem dL_law_2010 : decode cL_law 2010 = .ok (.iadd, 1) := by decide +kernel
theorem dL_law_2011 : decode cL_law 2011 = .ok (.iaload, 1) := by decide +kernel
theorem dL_law_2012 : decode cL_law 2012 = .ok (.aload_n 3, 1) := by decide +kernel
theorem dL_law_2013 : decode cL_law 2013 = .ok (.invokestatic 267, 3) := by decide +kernel
theorem dL_law_2016 : decode cL_law 2016 = .ok (.istore 6, 2) := by decide +kernel
theorem dL_law_2018 : decode cL_law 2018 = .ok (.aload_n 2, 1) := by decide +kernel
theorem dL_law_2019 : decode cL_law 2019 = .ok (.aload_n 0, 1) := by decide +kernel
theorem dL_law_2020 : decode cL_law 2020 = .ok (.iload 5, 2) := by decide +kernel
theorem dL_law_2022 : decode cL_law 2022 = .ok (.iconst 1, 1) := by decide +kernel
theorem dL_law_2023 : decode cL_law 2023 = .ok (.iadd, 1) := by decide +kernel
theorem dL_law_2024 : decode cL_law 2024 = .ok (.iaload, 1) := by decide +kernel
theorem dL_law_2025 : decode cL_law 2025 = .ok (.aload_n 0, 1) := by decide +kernel
theorem dL_law_2026 : decode cL_law 2026 = .ok (.iload 5, 2) := by decide +kernel
theorem dL_law_2028 : decode cL_law 2028 = .ok (.iconst 2, 1) := by decide +kernel
theorem dL_law_2029 : decode cL_law 2029 = .ok (.iadd, 1) := by decide +kernel
theorem dL_law_2030 : decode cL_law 2030 = .ok (.iaload, 1) := by decide +kernel
theorem dL_law_2031 : decode cL_law 2031 = .ok (.invokevirtual 269, 3) := by decide +kernel
theorem dL_law_2034 : decode cL_law 2034 = .ok (.istore 7, 2) := by decide +kernel
theorem dL_law_2036 : decode cL_law 2036 = .ok (.aload_n 2, 1) := by decide +kernel
theorem dL_law_2037 : decode cL_law 2037 = .ok (.invokevirtual 160, 3) := by decide +kernel
theorem dL_law_2040 : decode cL_law 2040 = .ok (.iload 6, 2) := by decide +kernel
theorem dL_law_2042 : decode cL_law 2042 = .ok (.if_icmp .eq 5, 3) := by decide +kernel
theorem dL_law_2047 : decode cL_law 2047 = .ok (.iload 6, 2) := by decide +kernel
theorem dL_law_2049 : decode cL_law 2049 = .ok (.ifCond .ne 15, 3) := by decide +kernel
theorem dL_law_2052 : decode cL_law 2052 = .ok (.aload_n 3, 1) := by decide +kernel
theorem dL_law_2053 : decode cL_law 2053 = .ok (.iconst 0, 1) := by decide +kernel
theorem dL_law_2054 : decode cL_law 2054 = .ok (.laload, 1) := by decide +kernel
theorem dL_law_2055 : decode cL_law 2055 = .ok (.iload 7, 2) := by decide +kernel
theorem dL_law_2057 : decode cL_law 2057 = .ok (.i2l, 1) := by decide +kernel
theorem dL_law_2058 : decode cL_law 2058 = .ok (.lcmp, 1) := by decide +kernel
theorem dL_law_2059 : decode cL_law 2059 = .ok (.ifCond .eq 5, 3) := by decide +kernel
theorem dL_law_2064 : decode cL_law 2064 = .ok (.goto 817, 3) := by decide +kernel
def f_case32 (x_valley_bells_pitches : (Nat → Int32)) (x_valley_melodies_lengths : (Nat → Int32)) (x_valley_melodies_tones : (Nat → Int32)) (y_g : (Nat → Int32)) (y_thrown : Int32) (z_v : (Nat → Int64)) (xs : (Nat → Int32)) (n : Nat) (i : Int32) : Option (Int32 × (Nat → Int64)) :=
  q_gd (q_in (i + 1) n) (
  q_gd (q_in (i + 2) n) (
  q_bd (f_L_canonInterval x_valley_bells_pitches x_valley_melodies_lengths x_valley_melodies_tones z_v (xs (i + 1).toNatClampNeg) (xs (i + 2).toNatClampNeg)) (fun q3 =>
  q_gd (q_in (i + 1) n) (
  q_gd (q_in (i + 2) n) (
  q_bd (f_X11_canonInterval y_g y_thrown (xs (i + 1).toNatClampNeg) (xs (i + 2).toNatClampNeg)) (fun q6 =>
  q_bd (f_X11_thrown q6.2) (fun q7 =>
  q_br (q7 = q3.1) (
  q_br (q3.1 = 0) (
  q_br ((lg_cmp (q3.2 0) (q6.1.toInt64)) = 0) (
  some (q6.2, q3.2)) (
  none)) (
  some (q6.2, q3.2))) (
  none))))))))
set_option maxHeartbeats 4000000 in
set_option maxRecDepth 100000 in
theorem kc_32 {p : Program} {e : Env} {s : State} {m : MethodId} {args : Array Value} {below : List Frame} {meth : Method} {c : Code} {Q : State → Prop} {A : Nat → Prop} (l : Launch) (hlt : l.stackTraces = false) (E : ET) (a : Nat → Nat) (o : Nat) (x : VB_t) (ay : Nat → Nat) (oy : Nat) (y : Model_t) (az : Nat → Nat) (oz : Nat) (z : Nat → Int64) (aw : Nat → Nat) (ow : Nat) (w : Nat → UInt64) (b n : Nat) (xs : Nat → Int32) (i : Int32) (hx : p.tables.exec = Jvm.exec) (hb : c.code = cL_law) (hml : c.maxLocals = 9) (hown : s.vm.findClass RL = some m.cls) (ha : ∀ w ∈ lw_all, w.before args s = true) (hA : ∀ q, s.heap.size ≤ q → A q) (hz : ∀ q, A q → E.2 0 ≤ q) (hzs : E.2 0 ≤ s.heap.size) (hst : ST E s) (hX : va_X b n xs s s.heap) (hbl : b < s.heap.size) (hbA : ¬ A b) (res : Int32 × (Nat → Int64)) (hF : f_case32 x.1.1.2.1.2.1 x.1.1.2.2.1.1 x.1.1.2.2.1.2.2 y.1.1 y.2.2.2.1 z xs n i = some res) {H : Heap} {locs : List Loc} {ls : Array Slot} {cv sv : Nat} (hcv : cv + 60 ≤ 603072) (hsv : sv + 5100 ≤ 7207018) (hP : va_P E.1 vwCl (List.flatten [w_VBR a o x.2.2.2.1 x.2.2.2.2.1 x.2.2.2.2.2, w_ValleyR a (o + 1), w_Key E a (o + 2) x.1.1.1, w_Bells E a (o + 3) x.1.1.2.1, w_Mel E a (o + 6) x.1.1.2.2.1, w_Cliffs E a (o + 10) x.1.1.2.2.2, w_ValleyR a (o + 13), w_Key E a (o + 14) x.1.2.1.1, w_Bells E a (o + 15) x.1.2.1.2.1, w_Mel E a (o + 18) x.1.2.1.2.2.1, w_Cliffs E a (o + 22) x.1.2.1.2.2.2, w_Prog E a (o + 25) x.1.2.2.2.1, w_Chord E a (o + 31) x.1.2.2.2.2, w_Key E a (o + 34) x.2.1, w_Line E a (o + 35) x.2.2.1, w_Hist E a (o + 37) x.1.2.2.1, w_Model E ay oy y, w_LongArr E az oz z, w_DblArr E aw ow w]) H) (hD : va_D A (List.flatten [w_VBR a o x.2.2.2.1 x.2.2.2.2.1 x.2.2.2.2.2, w_ValleyR a (o + 1), w_Key E a (o + 2) x.1.1.1, w_Bells E a (o + 3) x.1.1.2.1, w_Mel E a (o + 6) x.1.1.2.2.1, w_Cliffs E a (o + 10) x.1.1.2.2.2, w_ValleyR a (o + 13), w_Key E a (o + 14) x.1.2.1.1, w_Bells E a (o + 15) x.1.2.1.2.1, w_Mel E a (o + 18) x.1.2.1.2.2.1, w_Cliffs E a (o + 22) x.1.2.1.2.2.2, w_Prog E a (o + 25) x.1.2.2.2.1, w_Chord E a (o + 31) x.1.2.2.2.2, w_Key E a (o + 34) x.2.1, w_Line E a (o + 35) x.2.2.1, w_Hist E a (o + 37) x.1.2.2.1, w_Model E ay oy y, w_LongArr E az oz z, w_DblArr E aw ow w])) (hS : va_S A s.heap H locs) (hl : lv_has ls 9 [(0, .ref b), (1, .ref (a o)), (2, .ref (ay oy)), (3, .ref (az oz)), (4, .ref (aw ow)), (5, .int i)])
    (hK : ∀ (H : Heap) (locs : List Loc) (ls : Array Slot), va_P E.1 vwCl (List.flatten (bl_VB E a o x ++ (bl_Model E ay oy ((y.1.1, y.1.2.1, y.1.2.2.1, y.1.2.2.2.1, y.1.2.2.2.2), (y.2.1.1, y.2.1.2.1, y.2.1.2.2.1, y.2.1.2.2.2.1, y.2.1.2.2.2.2), (y.2.2.1.1, y.2.2.1.2.1, y.2.2.1.2.2.1, y.2.2.1.2.2.2), (res.1, y.2.2.2.2.1, y.2.2.2.2.2.1, y.2.2.2.2.2.2)) ++ (bl_LongArr E az oz res.2 ++ bl_DblArr E aw ow w)))) H → va_D A (List.flatten (bl_VB E a o x ++ (bl_Model E ay oy ((y.1.1, y.1.2.1, y.1.2.2.1, y.1.2.2.2.1, y.1.2.2.2.2), (y.2.1.1, y.2.1.2.1, y.2.1.2.2.1, y.2.1.2.2.2.1, y.2.1.2.2.2.2), (y.2.2.1.1, y.2.2.1.2.1, y.2.2.1.2.2.1, y.2.2.1.2.2.2), (res.1, y.2.2.2.2.1, y.2.2.2.2.2.1, y.2.2.2.2.2.2)) ++ (bl_LongArr E az oz res.2 ++ bl_DblArr E aw ow w)))) → va_S A s.heap H locs → lv_has ls 9 [(0, .ref b), (1, .ref (a o)), (2, .ref (ay oy)), (3, .ref (az oz)), (4, .ref (aw ow)), (5, .int i)] → W p l e room_1 s m args below meth c H locs (cv + 60) (sv + 5100) Q (F0 m 2881 ls [])) : W p l e room_1 s m args below meth c H locs cv sv Q (F0 m 1999 ls []) := by
  unfold f_case32 at hF
  refine lv_aload_n hx hb dL_law_1999 rfl (lv_at hl 1 rfl) ?_
  refine lv_aload_n hx hb dL_law_2000 rfl (lv_at hl 0 rfl) ?_
  refine lv_iload hx hb dL_law_2001 (lv_at hl 5 rfl) ?_
  refine lv_iconst (v := 1) hx hb dL_law_2003 (by decide) ?_
  refine lv_iadd hx hb dL_law_2004 ?_
  obtain ⟨g1, hF⟩ := q_gdi hF
  refine va_sld hx hb hX hbl hbA hS g1 dL_law_2005 ?_
  refine lv_aload_n hx hb dL_law_2006 rfl (lv_at hl 0 rfl) ?_
  refine lv_iload hx hb dL_law_2007 (lv_at hl 5 rfl) ?_
  refine lv_iconst (v := 2) hx hb dL_law_2009 (by decide) ?_
  refine lv_iadd hx hb dL_law_2010 ?_
  obtain ⟨g2, hF⟩ := q_gdi hF
  refine va_sld hx hb hX hbl hbA hS g2 dL_law_2011 ?_
  refine lv_aload_n hx hb dL_law_2012 rfl (lv_at hl 3 rfl) ?_
  have hP : va_P E.1 vwCl (List.flatten [w_VBR a o x.2.2.2.1 x.2.2.2.2.1 x.2.2.2.2.2, w_ValleyR a (o + 1), w_Key E a (o + 2) x.1.1.1, w_Bells E a (o + 3) x.1.1.2.1, w_Mel E a (o + 6) x.1.1.2.2.1, w_Cliffs E a (o + 10) x.1.1.2.2.2, w_ValleyR a (o + 13), w_Key E a (o + 14) x.1.2.1.1, w_Bells E a (o + 15) x.1.2.1.2.1, w_Mel E a (o + 18) x.1.2.1.2.2.1, w_Cliffs E a (o + 22) x.1.2.1.2.2.2, w_Prog E a (o + 25) x.1.2.2.2.1, w_Chord E a (o + 31) x.1.2.2.2.2, w_Key E a (o + 34) x.2.1, w_Line E a (o + 35) x.2.2.1, w_Hist E a (o + 37) x.1.2.2.1, w_Model E ay oy y, w_LongArr E az oz z, w_DblArr E aw ow w]) H := hP
  have hD : va_D A (List.flatten [w_VBR a o x.2.2.2.1 x.2.2.2.2.1 x.2.2.2.2.2, w_ValleyR a (o + 1), w_Key E a (o + 2) x.1.1.1, w_Bells E a (o + 3) x.1.1.2.1, w_Mel E a (o + 6) x.1.1.2.2.1, w_Cliffs E a (o + 10) x.1.1.2.2.2, w_ValleyR a (o + 13), w_Key E a (o + 14) x.1.2.1.1, w_Bells E a (o + 15) x.1.2.1.2.1, w_Mel E a (o + 18) x.1.2.1.2.2.1, w_Cliffs E a (o + 22) x.1.2.1.2.2.2, w_Prog E a (o + 25) x.1.2.2.2.1, w_Chord E a (o + 31) x.1.2.2.2.2, w_Key E a (o + 34) x.2.1, w_Line E a (o + 35) x.2.2.1, w_Hist E a (o + 37) x.1.2.2.1, w_Model E ay oy y, w_LongArr E az oz z, w_DblArr E aw ow w]) := hD
  obtain ⟨q3, hq3, hF⟩ := q_bdi hF
  refine cl_i (Lc := [w_VBR a o x.2.2.2.1 x.2.2.2.2.1 x.2.2.2.2.2, w_ValleyR a (o + 1), w_Key E a (o + 2) x.1.1.1, w_Bells E a (o + 3) x.1.1.2.1, w_Mel E a (o + 6) x.1.1.2.2.1, w_Cliffs E a (o + 10) x.1.1.2.2.2, w_ValleyR a (o + 13), w_Key E a (o + 14) x.1.2.1.1, w_Bells E a (o + 15) x.1.2.1.2.1, w_Mel E a (o + 18) x.1.2.1.2.2.1, w_Cliffs E a (o + 22) x.1.2.1.2.2.2, w_Prog E a (o + 25) x.1.2.2.2.1, w_Chord E a (o + 31) x.1.2.2.2.2, w_Key E a (o + 34) x.2.1, w_Line E a (o + 35) x.2.2.1, w_Hist E a (o + 37) x.1.2.2.1, w_LongArr E az oz z]) (Lc' := [w_VBR a o x.2.2.2.1 x.2.2.2.2.1 x.2.2.2.2.2, w_ValleyR a (o + 1), w_Key E a (o + 2) x.1.1.1, w_Bells E a (o + 3) x.1.1.2.1, w_Mel E a (o + 6) x.1.1.2.2.1, w_Cliffs E a (o + 10) x.1.1.2.2.2, w_ValleyR a (o + 13), w_Key E a (o + 14) x.1.2.1.1, w_Bells E a (o + 15) x.1.2.1.2.1, w_Mel E a (o + 18) x.1.2.1.2.2.1, w_Cliffs E a (o + 22) x.1.2.1.2.2.2, w_Prog E a (o + 25) x.1.2.2.2.1, w_Chord E a (o + 31) x.1.2.2.2.2, w_Key E a (o + 34) x.2.1, w_Line E a (o + 35) x.2.2.1, w_Hist E a (o + 37) x.1.2.2.1, w_LongArr E az oz q3.2]) (L' := [w_VBR a o x.2.2.2.1 x.2.2.2.2.1 x.2.2.2.2.2, w_ValleyR a (o + 1), w_Key E a (o + 2) x.1.1.1, w_Bells E a (o + 3) x.1.1.2.1, w_Mel E a (o + 6) x.1.1.2.2.1, w_Cliffs E a (o + 10) x.1.1.2.2.2, w_ValleyR a (o + 13), w_Key E a (o + 14) x.1.2.1.1, w_Bells E a (o + 15) x.1.2.1.2.1, w_Mel E a (o + 18) x.1.2.1.2.2.1, w_Cliffs E a (o + 22) x.1.2.1.2.2.2, w_Prog E a (o + 25) x.1.2.2.2.1, w_Chord E a (o + 31) x.1.2.2.2.2, w_Key E a (o + 34) x.2.1, w_Line E a (o + 35) x.2.2.1, w_Hist E a (o + 37) x.1.2.2.1, w_Model E ay oy y, w_LongArr E az oz q3.2, w_DblArr E aw ow w]) (rv := q3.1) (vx_runSW (As := [.ref (a o), .int (xs (i + 1).toNatClampNeg), .int (xs (i + 2).toNatClampNeg), .ref (az oz)]) (rest := []) ⟨hx, hb, hml, hown, ha⟩ (k_L_canonInterval l E a o x az oz z (xs (i + 1).toNatClampNeg) (xs (i + 2).toNatClampNeg) q3 hq3 H.size hlt) (vx_cwSW 4 ha (gi_TH (fun _ h => h) mw1376 mw1377 mw73 mw1378) rfl rfl rfl hv_L_canonInterval.2 ⟨(Nat.le_of_ble_eq_true rfl), (Nat.le_of_ble_eq_true rfl)⟩) ⟨pre_blind, pre_at hP hD hS hz hzs hst [0, 1, 2, 3, 4, 5, 6, 7, 8, 9, 10, 11, 12, 13, 14, 15, 17] (by decide) rfl rfl⟩ rfl rfl hl.1 rfl (lv_room (Nat.le_of_ble_eq_true rfl)) dL_law_2013 ⟨by show cv + 3 ≤ 603072; omega, by show sv + 18 ≤ 7207018; omega⟩) hP hD hS hA [0, 1, 2, 3, 4, 5, 6, 7, 8, 9, 10, 11, 12, 13, 14, 15, 17] (by decide) rfl rfl rfl rfl (fun H locs hP hD hS => ?_)
  refine lv_istore (lv' := [(6, .int q3.1), (0, .ref b), (1, .ref (a o)), (2, .ref (ay oy)), (3, .ref (az oz)), (4, .ref (aw ow)), (5, .int i)]) hx hb dL_law_2016 hl (by decide) rfl (fun ls hl => ?_)
  refine lv_aload_n hx hb dL_law_2018 rfl (lv_at hl 3 rfl) ?_
  refine lv_aload_n hx hb dL_law_2019 rfl (lv_at hl 1 rfl) ?_
  refine lv_iload hx hb dL_law_2020 (lv_at hl 6 rfl) ?_
  refine lv_iconst (v := 1) hx hb dL_law_2022 (by decide) ?_
  refine lv_iadd hx hb dL_law_2023 ?_
  obtain ⟨g4, hF⟩ := q_gdi hF
  refine va_sld hx hb hX hbl hbA hS g4 dL_law_2024 ?_
  refine lv_aload_n hx hb dL_law_2025 rfl (lv_at hl 1 rfl) ?_
  refine lv_iload hx hb dL_law_2026 (lv_at hl 6 rfl) ?_
  refine lv_iconst (v := 2) hx hb dL_law_2028 (by decide) ?_
  refine lv_iadd hx hb dL_law_2029 ?_
  obtain ⟨g5, hF⟩ := q_gdi hF
  refine va_sld hx hb hX hbl hbA hS g5 dL_law_2030 ?_
  obtain ⟨q6, hq6, hF⟩ := q_bdi hF
  refine cl_i (Lc := [w_Model E ay oy y]) (Lc' := [w_Model E ay oy ((y.1.1, y.1.2.1, y.1.2.2.1, y.1.2.2.2.1, y.1.2.2.2.2), (y.2.1.1, y.2.1.2.1, y.2.1.2.2.1, y.2.1.2.2.2.1, y.2.1.2.2.2.2), (y.2.2.1.1, y.2.2.1.2.1, y.2.2.1.2.2.1, y.2.2.1.2.2.2), (q6.2, y.2.2.2.2.1, y.2.2.2.2.2.1, y.2.2.2.2.2.2))]) (L' := [w_VBR a o x.2.2.2.1 x.2.2.2.2.1 x.2.2.2.2.2, w_ValleyR a (o + 1), w_Key E a (o + 2) x.1.1.1, w_Bells E a (o + 3) x.1.1.2.1, w_Mel E a (o + 6) x.1.1.2.2.1, w_Cliffs E a (o + 10) x.1.1.2.2.2, w_ValleyR a (o + 13), w_Key E a (o + 14) x.1.2.1.1, w_Bells E a (o + 15) x.1.2.1.2.1, w_Mel E a (o + 18) x.1.2.1.2.2.1, w_Cliffs E a (o + 22) x.1.2.1.2.2.2, w_Prog E a (o + 25) x.1.2.2.2.1, w_Chord E a (o + 31) x.1.2.2.2.2, w_Key E a (o + 34) x.2.1, w_Line E a (o + 35) x.2.2.1, w_Hist E a (o + 37) x.1.2.2.1, w_Model E ay oy ((y.1.1, y.1.2.1, y.1.2.2.1, y.1.2.2.2.1, y.1.2.2.2.2), (y.2.1.1, y.2.1.2.1, y.2.1.2.2.1, y.2.1.2.2.2.1, y.2.1.2.2.2.2), (y.2.2.1.1, y.2.2.1.2.1, y.2.2.1.2.2.1, y.2.2.1.2.2.2), (q6.2, y.2.2.2.2.1, y.2.2.2.2.2.1, y.2.2.2.2.2.2)), w_LongArr E az oz q3.2, w_DblArr E aw ow w]) (rv := q6.1) (va_runV (As := [.int (xs (i + 1).toNatClampNeg), .int (xs (i + 2).toNatClampNeg)]) (rest := []) ⟨hx, hb, hml, hown, ha⟩ (k_X11_canonInterval l E ay oy y (xs (i + 1).toNatClampNeg) (xs (i + 2).toNatClampNeg) q6 hq6 H.size) (cwV 2 ha (gi_V (fun _ h => h) mw1946 mw1947 mw1948 mw87 mw1949) rfl rfl rfl hv_X11_canonInterval ⟨(Nat.le_of_ble_eq_true rfl), (Nat.le_of_ble_eq_true rfl)⟩) ⟨pre_blind, va_recv hst.k (fr_P hP [16] rfl) (ci := 13) (q0 := 0) rfl rfl, pre_at hP hD hS hz hzs hst [16] (by decide) rfl rfl⟩ rfl rfl hl.1 rfl (lv_room (Nat.le_of_ble_eq_true rfl)) dL_law_2031 ⟨by show cv + 3 + 0 ≤ 603072; omega, by show sv + 18 + 0 ≤ 7207018; omega⟩) hP hD hS hA [16] (by decide) rfl rfl rfl rfl (fun H locs hP hD hS => ?_)
  refine lv_istore (lv' := [(7, .int q6.1), (6, .int q3.1), (0, .ref b), (1, .ref (a o)), (2, .ref (ay oy)), (3, .ref (az oz)), (4, .ref (aw ow)), (5, .int i)]) hx hb dL_law_2034 hl (by decide) rfl (fun ls hl => ?_)
  refine lv_aload_n hx hb dL_law_2036 rfl (lv_at hl 4 rfl) ?_
  obtain ⟨q7, hq7, hF⟩ := q_bdi hF
  refine cl_i (Lc := [w_Model E ay oy ((y.1.1, y.1.2.1, y.1.2.2.1, y.1.2.2.2.1, y.1.2.2.2.2), (y.2.1.1, y.2.1.2.1, y.2.1.2.2.1, y.2.1.2.2.2.1, y.2.1.2.2.2.2), (y.2.2.1.1, y.2.2.1.2.1, y.2.2.1.2.2.1, y.2.2.1.2.2.2), (q6.2, y.2.2.2.2.1, y.2.2.2.2.2.1, y.2.2.2.2.2.2))]) (Lc' := [w_Model E ay oy ((y.1.1, y.1.2.1, y.1.2.2.1, y.1.2.2.2.1, y.1.2.2.2.2), (y.2.1.1, y.2.1.2.1, y.2.1.2.2.1, y.2.1.2.2.2.1, y.2.1.2.2.2.2), (y.2.2.1.1, y.2.2.1.2.1, y.2.2.1.2.2.1, y.2.2.1.2.2.2), (q6.2, y.2.2.2.2.1, y.2.2.2.2.2.1, y.2.2.2.2.2.2))]) (L' := [w_VBR a o x.2.2.2.1 x.2.2.2.2.1 x.2.2.2.2.2, w_ValleyR a (o + 1), w_Key E a (o + 2) x.1.1.1, w_Bells E a (o + 3) x.1.1.2.1, w_Mel E a (o + 6) x.1.1.2.2.1, w_Cliffs E a (o + 10) x.1.1.2.2.2, w_ValleyR a (o + 13), w_Key E a (o + 14) x.1.2.1.1, w_Bells E a (o + 15) x.1.2.1.2.1, w_Mel E a (o + 18) x.1.2.1.2.2.1, w_Cliffs E a (o + 22) x.1.2.1.2.2.2, w_Prog E a (o + 25) x.1.2.2.2.1, w_Chord E a (o + 31) x.1.2.2.2.2, w_Key E a (o + 34) x.2.1, w_Line E a (o + 35) x.2.2.1, w_Hist E a (o + 37) x.1.2.2.1, w_Model E ay oy ((y.1.1, y.1.2.1, y.1.2.2.1, y.1.2.2.2.1, y.1.2.2.2.2), (y.2.1.1, y.2.1.2.1, y.2.1.2.2.1, y.2.1.2.2.2.1, y.2.1.2.2.2.2), (y.2.2.1.1, y.2.2.1.2.1, y.2.2.1.2.2.1, y.2.2.1.2.2.2), (q6.2, y.2.2.2.2.1, y.2.2.2.2.2.1, y.2.2.2.2.2.2)), w_LongArr E az oz q3.2, w_DblArr E aw ow w]) (rv := q7) (va_runV (As := []) (rest := []) ⟨hx, hb, hml, hown, ha⟩ (k_X11_thrown l E ay oy ((y.1.1, y.1.2.1, y.1.2.2.1, y.1.2.2.2.1, y.1.2.2.2.2), (y.2.1.1, y.2.1.2.1, y.2.1.2.2.1, y.2.1.2.2.2.1, y.2.1.2.2.2.2), (y.2.2.1.1, y.2.2.1.2.1, y.2.2.1.2.2.1, y.2.2.1.2.2.2), (q6.2, y.2.2.2.2.1, y.2.2.2.2.2.1, y.2.2.2.2.2.2)) q7 hq7 H.size) (cwV 0 ha (gi_V (fun _ h => h) mw1691 mw1692 mw1693 mw87 mw1694) rfl rfl rfl hv_X11_thrown ⟨(Nat.le_of_ble_eq_true rfl), (Nat.le_of_ble_eq_true rfl)⟩) ⟨pre_blind, va_recv hst.k (fr_P hP [16] rfl) (ci := 13) (q0 := 0) rfl rfl, pre_at hP hD hS hz hzs hst [16] (by decide) rfl rfl⟩ rfl rfl hl.1 rfl (lv_room (Nat.le_of_ble_eq_true rfl)) dL_law_2037 ⟨by show cv + 3 + 0 ≤ 603072; omega, by show sv + 18 + 0 ≤ 7207018; omega⟩) hP hD hS hA [16] (by decide) rfl rfl rfl rfl (fun H locs hP hD hS => ?_)
  refine lv_iload hx hb dL_law_2040 (lv_at hl 1 rfl) ?_
  refine lv_icmp_eq (tgt := 2047) hx hb dL_law_2042 (by decide) (fun c2042 => ?_) (fun c2042 => ?_)
  · have hF := q_brp c2042 hF
    refine lv_iload hx hb dL_law_2047 (lv_at hl 1 rfl) ?_
    refine lv_if_ne (tgt := 2064) hx hb dL_law_2049 (by decide) (fun c2049 => ?_) (fun c2049 => ?_)
    · have hF := q_brn c2049 hF
      refine lv_goto (tgt := 2881) hx hb dL_law_2064 (by decide) ?_
      obtain rfl := Option.some.inj hF
      refine W.widen (k := cv + 60) (n := sv + 5100) (by omega) (by omega) ?_
      exact hK H locs ls hP hD hS (lv_sub hl [2, 3, 4, 5, 6, 7] rfl)
    · have hF := q_brp c2049 hF
      refine lv_aload_n hx hb dL_law_2052 rfl (lv_at hl 5 rfl) ?_
      refine lv_iconst (v := 0) hx hb dL_law_2053 (by decide) ?_
      refine vi_lald hx hb hst.k hP 156 3 rfl rfl (f := q3.2) (k := 0) (by decide) (by decide) dL_law_2054 ?_
      refine lv_iload hx hb dL_law_2055 (lv_at hl 0 rfl) ?_
      refine lv_i2l hx hb dL_law_2057 rfl ?_
      refine W.lcmp hx hb dL_law_2058 ?_
      refine lv_if_eq (tgt := 2064) hx hb dL_law_2059 (by decide) (fun c2059 => ?_) (fun c2059 => ?_)
      · have hF := q_brp c2059 hF
        refine lv_goto (tgt := 2881) hx hb dL_law_2064 (by decide) ?_
        obtain rfl := Option.some.inj hF
        refine W.widen (k := cv + 60) (n := sv + 5100) (by omega) (by omega) ?_
        exact hK H locs ls hP hD hS (lv_sub hl [2, 3, 4, 5, 6, 7] rfl)
      · have hF := q_brn c2059 hF
        exact absurd hF (by simp)
  · have hF := q_brn c2042 hF
    exact absurd hF (by simp)
def f_c32 (x : VB_t) (y : Model_t) (z : Nat → Int64) (w : Nat → UInt64) (xs : Nat → Int32) (n : Nat) (i : Int32) : Option (VB_t × Model_t × (Nat → Int64) × (Nat → UInt64)) := q_bd (f_case32 x.1.1.2.1.2.1 x.1.1.2.2.1.1 x.1.1.2.2.1.2.2 y.1.1 y.2.2.2.1 z xs n i) (fun res => some (x, ((y.1.1, y.1.2.1, y.1.2.2.1, y.1.2.2.2.1, y.1.2.2.2.2), (y.2.1.1, y.2.1.2.1, y.2.1.2.2.1, y.2.1.2.2.2.1, y.2.1.2.2.2.2), (y.2.2.1.1, y.2.2.1.2.1, y.2.2.1.2.2.1, y.2.2.1.2.2.2), (res.1, y.2.2.2.2.1, y.2.2.2.2.2.1, y.2.2.2.2.2.2)), res.2, w))
/-! case 33 -/
theorem dL_law_2067 : decode cL_law 2067 = .ok (.aload_n 1, 1) := by decide +kernel
theorem dL_law_2068 : decode cL_law 2068 = .ok (.invokevirtual 270, 3) := by decide +kernel
theorem dL_law_2071 : decode cL_law 2071 = .ok (.aload_n 2, 1) := by decide +kernel
theorem dL_law_2072 : decode cL_law 2072 = .ok (.invokevirtual 273, 3) := by decide +kernel
theorem dL_law_2075 : decode cL_law 2075 = .ok (.if_icmp .eq 806, 3) := by decide +kernel
def f_case33 (x_valley_cliffs_count : Int32) (y_g : (Nat → Int32)) (y_thrown : Int32) (xs : (Nat → Int32)) (n : Nat) (i : Int32) : Option (Int32) :=
  q_bd (f_X10_cliffCount x_valley_cliffs_count) (fun q1 =>
  q_bd (f_X11_cliffCount y_g y_thrown) (fun q2 =>
  q_br (q1 = q2.1) (
  some q2.2) (
  none)))
set_option maxHeartbeats 4000000 in
set_option maxRecDepth 100000 in
theorem kc_33 {p : Program} {e : Env} {s : State} {m : MethodId} {args : Array Value} {below : List Frame} {meth : Method} {c : Code} {Q : State → Prop} {A : Nat → Prop} (l : Launch) (hlt : l.stackTraces = false) (E : ET) (a : Nat → Nat) (o : Nat) (x : VB_t) (ay : Nat → Nat) (oy : Nat) (y : Model_t) (az : Nat → Nat) (oz : Nat) (z : Nat → Int64) (aw : Nat → Nat) (ow : Nat) (w : Nat → UInt64) (b n : Nat) (xs : Nat → Int32) (i : Int32) (hx : p.tables.exec = Jvm.exec) (hb : c.code = cL_law) (hml : c.maxLocals = 9) (hown : s.vm.findClass RL = some m.cls) (ha : ∀ w ∈ lw_all, w.before args s = true) (hA : ∀ q, s.heap.size ≤ q → A q) (hz : ∀ q, A q → E.2 0 ≤ q) (hzs : E.2 0 ≤ s.heap.size) (hst : ST E s) (hX : va_X b n xs s s.heap) (hbl : b < s.heap.size) (hbA : ¬ A b) (res : Int32) (hF : f_case33 x.1.1.2.2.2.2.2 y.1.1 y.2.2.2.1 xs n i = some res) {H : Heap} {locs : List Loc} {ls : Array Slot} {cv sv : Nat} (hcv : cv + 60 ≤ 603072) (hsv : sv + 5100 ≤ 7207018) (hP : va_P E.1 vwCl (List.flatten [w_VBR a o x.2.2.2.1 x.2.2.2.2.1 x.2.2.2.2.2, w_ValleyR a (o + 1), w_Key E a (o + 2) x.1.1.1, w_Bells E a (o + 3) x.1.1.2.1, w_Mel E a (o + 6) x.1.1.2.2.1, w_Cliffs E a (o + 10) x.1.1.2.2.2, w_ValleyR a (o + 13), w_Key E a (o + 14) x.1.2.1.1, w_Bells E a (o + 15) x.1.2.1.2.1, w_Mel E a (o + 18) x.1.2.1.2.2.1, w_Cliffs E a (o + 22) x.1.2.1.2.2.2, w_Prog E a (o + 25) x.1.2.2.2.1, w_Chord E a (o + 31) x.1.2.2.2.2, w_Key E a (o + 34) x.2.1, w_Line E a (o + 35) x.2.2.1, w_Hist E a (o + 37) x.1.2.2.1, w_Model E ay oy y, w_LongArr E az oz z, w_DblArr E aw ow w]) H) (hD : va_D A (List.flatten [w_VBR a o x.2.2.2.1 x.2.2.2.2.1 x.2.2.2.2.2, w_ValleyR a (o + 1), w_Key E a (o + 2) x.1.1.1, w_Bells E a (o + 3) x.1.1.2.1, w_Mel E a (o + 6) x.1.1.2.2.1, w_Cliffs E a (o + 10) x.1.1.2.2.2, w_ValleyR a (o + 13), w_Key E a (o + 14) x.1.2.1.1, w_Bells E a (o + 15) x.1.2.1.2.1, w_Mel E a (o + 18) x.1.2.1.2.2.1, w_Cliffs E a (o + 22) x.1.2.1.2.2.2, w_Prog E a (o + 25) x.1.2.2.2.1, w_Chord E a (o + 31) x.1.2.2.2.2, w_Key E a (o + 34) x.2.1, w_Line E a (o + 35) x.2.2.1, w_Hist E a (o + 37) x.1.2.2.1, w_Model E ay oy y, w_LongArr E az oz z, w_DblArr E aw ow w])) (hS : va_S A s.heap H locs) (hl : lv_has ls 9 [(0, .ref b), (1, .ref (a o)), (2, .ref (ay oy)), (3, .ref (az oz)), (4, .ref (aw ow)), (5, .int i)])
    (hK : ∀ (H : Heap) (locs : List Loc) (ls : Array Slot), va_P E.1 vwCl (List.flatten (bl_VB E a o x ++ (bl_Model E ay oy ((y.1.1, y.1.2.1, y.1.2.2.1, y.1.2.2.2.1, y.1.2.2.2.2), (y.2.1.1, y.2.1.2.1, y.2.1.2.2.1, y.2.1.2.2.2.1, y.2.1.2.2.2.2), (y.2.2.1.1, y.2.2.1.2.1, y.2.2.1.2.2.1, y.2.2.1.2.2.2), (res, y.2.2.2.2.1, y.2.2.2.2.2.1, y.2.2.2.2.2.2)) ++ (bl_LongArr E az oz z ++ bl_DblArr E aw ow w)))) H → va_D A (List.flatten (bl_VB E a o x ++ (bl_Model E ay oy ((y.1.1, y.1.2.1, y.1.2.2.1, y.1.2.2.2.1, y.1.2.2.2.2), (y.2.1.1, y.2.1.2.1, y.2.1.2.2.1, y.2.1.2.2.2.1, y.2.1.2.2.2.2), (y.2.2.1.1, y.2.2.1.2.1, y.2.2.1.2.2.1, y.2.2.1.2.2.2), (res, y.2.2.2.2.1, y.2.2.2.2.2.1, y.2.2.2.2.2.2)) ++ (bl_LongArr E az oz z ++ bl_DblArr E aw ow w)))) → va_S A s.heap H locs → lv_has ls 9 [(0, .ref b), (1, .ref (a o)), (2, .ref (ay oy)), (3, .ref (az oz)), (4, .ref (aw ow)), (5, .int i)] → W p l e room_1 s m args below meth c H locs (cv + 60) (sv + 5100) Q (F0 m 2881 ls [])) : W p l e room_1 s m args below meth c H locs cv sv Q (F0 m 2067 ls []) := by
  unfold f_case33 at hF
  refine lv_aload_n hx hb dL_law_2067 rfl (lv_at hl 1 rfl) ?_
  obtain ⟨q1, hq1, hF⟩ := q_bdi hF
  refine cl_i (Lc := [w_VBR a o x.2.2.2.1 x.2.2.2.2.1 x.2.2.2.2.2, w_ValleyR a (o + 1), w_Key E a (o + 2) x.1.1.1, w_Bells E a (o + 3) x.1.1.2.1, w_Mel E a (o + 6) x.1.1.2.2.1, w_Cliffs E a (o + 10) x.1.1.2.2.2, w_ValleyR a (o + 13), w_Key E a (o + 14) x.1.2.1.1, w_Bells E a (o + 15) x.1.2.1.2.1, w_Mel E a (o + 18) x.1.2.1.2.2.1, w_Cliffs E a (o + 22) x.1.2.1.2.2.2, w_Prog E a (o + 25) x.1.2.2.2.1, w_Chord E a (o + 31) x.1.2.2.2.2, w_Key E a (o + 34) x.2.1, w_Line E a (o + 35) x.2.2.1, w_Hist E a (o + 37) x.1.2.2.1]) (Lc' := [w_VBR a o x.2.2.2.1 x.2.2.2.2.1 x.2.2.2.2.2, w_ValleyR a (o + 1), w_Key E a (o + 2) x.1.1.1, w_Bells E a (o + 3) x.1.1.2.1, w_Mel E a (o + 6) x.1.1.2.2.1, w_Cliffs E a (o + 10) x.1.1.2.2.2, w_ValleyR a (o + 13), w_Key E a (o + 14) x.1.2.1.1, w_Bells E a (o + 15) x.1.2.1.2.1, w_Mel E a (o + 18) x.1.2.1.2.2.1, w_Cliffs E a (o + 22) x.1.2.1.2.2.2, w_Prog E a (o + 25) x.1.2.2.2.1, w_Chord E a (o + 31) x.1.2.2.2.2, w_Key E a (o + 34) x.2.1, w_Line E a (o + 35) x.2.2.1, w_Hist E a (o + 37) x.1.2.2.1]) (L' := [w_VBR a o x.2.2.2.1 x.2.2.2.2.1 x.2.2.2.2.2, w_ValleyR a (o + 1), w_Key E a (o + 2) x.1.1.1, w_Bells E a (o + 3) x.1.1.2.1, w_Mel E a (o + 6) x.1.1.2.2.1, w_Cliffs E a (o + 10) x.1.1.2.2.2, w_ValleyR a (o + 13), w_Key E a (o + 14) x.1.2.1.1, w_Bells E a (o + 15) x.1.2.1.2.1, w_Mel E a (o + 18) x.1.2.1.2.2.1, w_Cliffs E a (o + 22) x.1.2.1.2.2.2, w_Prog E a (o + 25) x.1.2.2.2.1, w_Chord E a (o + 31) x.1.2.2.2.2, w_Key E a (o + 34) x.2.1, w_Line E a (o + 35) x.2.2.1, w_Hist E a (o + 37) x.1.2.2.1, w_Model E ay oy y, w_LongArr E az oz z, w_DblArr E aw ow w]) (rv := q1) (va_runV (As := []) (rest := []) ⟨hx, hb, hml, hown, ha⟩ (k_X10_cliffCount l E a o x q1 hq1 H.size) (cwV 0 ha (gi_V (fun _ h => h) mw435 mw436 mw437 mw74 mw438) rfl rfl rfl hv_X10_cliffCount ⟨(Nat.le_of_ble_eq_true rfl), (Nat.le_of_ble_eq_true rfl)⟩) ⟨pre_blind, va_recv hst.k (fr_P hP [0, 1, 2, 3, 4, 5, 6, 7, 8, 9, 10, 11, 12, 13, 14, 15] rfl) (ci := 12) (q0 := 0) rfl rfl, pre_at hP hD hS hz hzs hst [0, 1, 2, 3, 4, 5, 6, 7, 8, 9, 10, 11, 12, 13, 14, 15] (by decide) rfl rfl⟩ rfl rfl hl.1 rfl (lv_room (Nat.le_of_ble_eq_true rfl)) dL_law_2068 ⟨by show cv + 0 ≤ 603072; omega, by show sv + 0 ≤ 7207018; omega⟩) hP hD hS hA [0, 1, 2, 3, 4, 5, 6, 7, 8, 9, 10, 11, 12, 13, 14, 15] (by decide) rfl rfl rfl rfl (fun H locs hP hD hS => ?_)
  refine lv_aload_n hx hb dL_law_2071 rfl (lv_at hl 2 rfl) ?_
  obtain ⟨q2, hq2, hF⟩ := q_bdi hF
  refine cl_i (Lc := [w_Model E ay oy y]) (Lc' := [w_Model E ay oy ((y.1.1, y.1.2.1, y.1.2.2.1, y.1.2.2.2.1, y.1.2.2.2.2), (y.2.1.1, y.2.1.2.1, y.2.1.2.2.1, y.2.1.2.2.2.1, y.2.1.2.2.2.2), (y.2.2.1.1, y.2.2.1.2.1, y.2.2.1.2.2.1, y.2.2.1.2.2.2), (q2.2, y.2.2.2.2.1, y.2.2.2.2.2.1, y.2.2.2.2.2.2))]) (L' := [w_VBR a o x.2.2.2.1 x.2.2.2.2.1 x.2.2.2.2.2, w_ValleyR a (o + 1), w_Key E a (o + 2) x.1.1.1, w_Bells E a (o + 3) x.1.1.2.1, w_Mel E a (o + 6) x.1.1.2.2.1, w_Cliffs E a (o + 10) x.1.1.2.2.2, w_ValleyR a (o + 13), w_Key E a (o + 14) x.1.2.1.1, w_Bells E a (o + 15) x.1.2.1.2.1, w_Mel E a (o + 18) x.1.2.1.2.2.1, w_Cliffs E a (o + 22) x.1.2.1.2.2.2, w_Prog E a (o + 25) x.1.2.2.2.1, w_Chord E a (o + 31) x.1.2.2.2.2, w_Key E a (o + 34) x.2.1, w_Line E a (o + 35) x.2.2.1, w_Hist E a (o + 37) x.1.2.2.1, w_Model E ay oy ((y.1.1, y.1.2.1, y.1.2.2.1, y.1.2.2.2.1, y.1.2.2.2.2), (y.2.1.1, y.2.1.2.1, y.2.1.2.2.1, y.2.1.2.2.2.1, y.2.1.2.2.2.2), (y.2.2.1.1, y.2.2.1.2.1, y.2.2.1.2.2.1, y.2.2.1.2.2.2), (q2.2, y.2.2.2.2.1, y.2.2.2.2.2.1, y.2.2.2.2.2.2)), w_LongArr E az oz z, w_DblArr E aw ow w]) (rv := q2.1) (va_runV (As := []) (rest := [.int q1]) ⟨hx, hb, hml, hown, ha⟩ (k_X11_cliffCount l E ay oy y q2 hq2 H.size) (cwV 0 ha (gi_V (fun _ h => h) mw1954 mw1955 mw1956 mw87 mw1957) rfl rfl rfl hv_X11_cliffCount ⟨(Nat.le_of_ble_eq_true rfl), (Nat.le_of_ble_eq_true rfl)⟩) ⟨pre_blind, va_recv hst.k (fr_P hP [16] rfl) (ci := 13) (q0 := 0) rfl rfl, pre_at hP hD hS hz hzs hst [16] (by decide) rfl rfl⟩ rfl rfl hl.1 rfl (lv_room (Nat.le_of_ble_eq_true rfl)) dL_law_2072 ⟨by show cv + 0 ≤ 603072; omega, by show sv + 0 ≤ 7207018; omega⟩) hP hD hS hA [16] (by decide) rfl rfl rfl rfl (fun H locs hP hD hS => ?_)
  refine lv_icmp_eq (tgt := 2881) hx hb dL_law_2075 (by decide) (fun c2075 => ?_) (fun c2075 => ?_)
  · have hF := q_brp c2075 hF
    obtain rfl := Option.some.inj hF
    refine W.widen (k := cv + 60) (n := sv + 5100) (by omega) (by omega) ?_
    exact hK H locs ls hP hD hS (lv_sub hl [0, 1, 2, 3, 4, 5] rfl)
  · have hF := q_brn c2075 hF
    exact absurd hF (by simp)
def f_c33 (x : VB_t) (y : Model_t) (z : Nat → Int64) (w : Nat → UInt64) (xs : Nat → Int32) (n : Nat) (i : Int32) : Option (VB_t × Model_t × (Nat → Int64) × (Nat → UInt64)) := q_bd (f_case33 x.1.1.2.2.2.2.2 y.1.1 y.2.2.2.1 xs n i) (fun res => some (x, ((y.1.1, y.1.2.1, y.1.2.2.1, y.1.2.2.2.1, y.1.2.2.2.2), (y.2.1.1, y.2.1.2.1, y.2.1.2.2.1, y.2.1.2.2.2.1, y.2.1.2.2.2.2), (y.2.2.1.1, y.2.2.1.2.1, y.2.2.1.2.2.1, y.2.2.1.2.2.2), (res, y.2.2.2.2.1, y.2.2.2.2.2.1, y.2.2.2.2.2.2)), z, w))
/-! case 34 -/
theorem dL_law_2080 : decode cL_law 2080 = .ok (.aload_n 1, 1) := by decide +kernel
theorem dL_law_2081 : decode cL_law 2081 = .ok (.aload_n 0, 1) := by decide +kernel
theorem dL_law_2082 : decode cL_law 2082 = .ok (.iload 5, 2) := by decide +kernel
theorem dL_law_2084 : decode cL_law 2084 = .ok (.iconst 1, 1) := by decide +kernel
theorem dL_law_2085 : decode cL_law 2085 = .ok (.iadd, 1) := by decide +kernel
theorem dL_law_2086 : decode cL_law 2086 = .ok (.iaload, 1) := by decide +kernel
theorem dL_law_2087 : decode cL_law 2087 = .ok (.aload_n 3, 1) := by decide +kernel
theorem dL_law_2088 : decode cL_law 2088 = .ok (.invokestatic 274, 3) := by decide +kernel
theorem dL_law_2091 : decode cL_law 2091 = .ok (.istore 6, 2) := by decide +kernel
theorem dL_law_2093 : decode cL_law 2093 = .ok (.aload_n 2, 1) := by decide +kernel
theorem dL_law_2094 : decode cL_law 2094 = .ok (.aload_n 0, 1) := by decide +kernel
theorem dL_law_2095 : decode cL_law 2095 = .ok (.iload 5, 2) := by decide +kernel
theorem dL_law_2097 : decode cL_law 2097 = .ok (.iconst 1, 1) := by decide +kernel
theorem dL_law_2098 : decode cL_law 2098 = .ok (.iadd, 1) := by decide +kernel
theorem dL_law_2099 : decode cL_law 2099 = .ok (.iaload, 1) := by decide +kernel
theorem dL_law_2100 : decode cL_law 2100 = .ok (.invokevirtual 276, 3) := by decide +kernel
theorem dL_law_2103 : decode cL_law 2103 = .ok (.istore 7, 2) := by decide +kernel
theorem dL_law_2105 : decode cL_law 2105 = .ok (.aload_n 2, 1) := by decide +kernel
theorem dL_law_2106 : decode cL_law 2106 = .ok (.invokevirtual 160, 3) := by decide +kernel
theorem dL_law_2109 : decode cL_law 2109 = .ok (.iload 6, 2) := by decide +kernel
theorem dL_law_2111 : decode cL_law 2111 = .ok (.if_icmp .eq 5, 3) := by decide +kernel
theorem dL_law_2116 : decode cL_law 2116 = .ok (.iload 6, 2) := by decide +kernel
theorem dL_law_2118 : decode cL_law 2118 = .ok (.ifCond .ne 15, 3) := by decide +kernel
theorem dL_law_2121 : decode cL_law 2121 = .ok (.aload_n 3, 1) := by decide +kernel
theorem dL_law_2122 : decode cL_law 2122 = .ok (.iconst 0, 1) := by decide +kernel
theorem dL_law_2123 : decode cL_law 2123 = .ok (.laload, 1) := by decide +kernel
theorem dL_law_2124 : decode cL_law 2124 = .ok (.iload 7, 2) := by decide +kernel
theorem dL_law_2126 : decode cL_law 2126 = .ok (.i2l, 1) := by decide +kernel
theorem dL_law_2127 : decode cL_law 2127 = .ok (.lcmp, 1) := by decide +kernel
theorem dL_law_2128 : decode cL_law 2128 = .ok (.ifCond .eq 5, 3) := by decide +kernel
theorem dL_law_2133 : decode cL_law 2133 = .ok (.goto 748, 3) := by decide +kernel
def f_case34 (x_valley_cliffs_delays : (Nat → Int32)) (x_valley_cliffs_count : Int32) (y_g : (Nat → Int32)) (y_thrown : Int32) (z_v : (Nat → Int64)) (xs : (Nat → Int32)) (n : Nat) (i : Int32) : Option (Int32 × (Nat → Int64)) :=
  q_gd (q_in (i + 1) n) (
  q_bd (f_L_delay x_valley_cliffs_delays x_valley_cliffs_count z_v (xs (i + 1).toNatClampNeg)) (fun q2 =>
  q_gd (q_in (i + 1) n) (
  q_bd (f_X11_delay y_g y_thrown (xs (i + 1).toNatClampNeg)) (fun q4 =>
  q_bd (f_X11_thrown q4.2) (fun q5 =>
  q_br (q5 = q2.1) (
  q_br (q2.1 = 0) (
  q_br ((lg_cmp (q2.2 0) (q4.1.toInt64)) = 0) (
  some (q4.2, q2.2)) (
  none)) (
  some (q4.2, q2.2))) (
  none))))))
set_option maxHeartbeats 4000000 in
set_option maxRecDepth 100000 in
theorem kc_34 {p : Program} {e : Env} {s : State} {m : MethodId} {args : Array Value} {below : List Frame} {meth : Method} {c : Code} {Q : State → Prop} {A : Nat → Prop} (l : Launch) (hlt : l.stackTraces = false) (E : ET) (a : Nat → Nat) (o : Nat) (x : VB_t) (ay : Nat → Nat) (oy : Nat) (y : Model_t) (az : Nat → Nat) (oz : Nat) (z : Nat → Int64) (aw : Nat → Nat) (ow : Nat) (w : Nat → UInt64) (b n : Nat) (xs : Nat → Int32) (i : Int32) (hx : p.tables.exec = Jvm.exec) (hb : c.code = cL_law) (hml : c.maxLocals = 9) (hown : s.vm.findClass RL = some m.cls) (ha : ∀ w ∈ lw_all, w.before args s = true) (hA : ∀ q, s.heap.size ≤ q → A q) (hz : ∀ q, A q → E.2 0 ≤ q) (hzs : E.2 0 ≤ s.heap.size) (hst : ST E s) (hX : va_X b n xs s s.heap) (hbl : b < s.heap.size) (hbA : ¬ A b) (res : Int32 × (Nat → Int64)) (hF : f_case34 x.1.1.2.2.2.1 x.1.1.2.2.2.2.2 y.1.1 y.2.2.2.1 z xs n i = some res) {H : Heap} {locs : List Loc} {ls : Array Slot} {cv sv : Nat} (hcv : cv + 60 ≤ 603072) (hsv : sv + 5100 ≤ 7207018) (hP : va_P E.1 vwCl (List.flatten [w_VBR a o x.2.2.2.1 x.2.2.2.2.1 x.2.2.2.2.2, w_ValleyR a (o + 1), w_Key E a (o + 2) x.1.1.1, w_Bells E a (o + 3) x.1.1.2.1, w_Mel E a (o + 6) x.1.1.2.2.1, w_Cliffs E a (o + 10) x.1.1.2.2.2, w_ValleyR a (o + 13), w_Key E a (o + 14) x.1.2.1.1, w_Bells E a (o + 15) x.1.2.1.2.1, w_Mel E a (o + 18) x.1.2.1.2.2.1, w_Cliffs E a (o + 22) x.1.2.1.2.2.2, w_Prog E a (o + 25) x.1.2.2.2.1, w_Chord E a (o + 31) x.1.2.2.2.2, w_Key E a (o + 34) x.2.1, w_Line E a (o + 35) x.2.2.1, w_Hist E a (o + 37) x.1.2.2.1, w_Model E ay oy y, w_LongArr E az oz z, w_DblArr E aw ow w]) H) (hD : va_D A (List.flatten [w_VBR a o x.2.2.2.1 x.2.2.2.2.1 x.2.2.2.2.2, w_ValleyR a (o + 1), w_Key E a (o + 2) x.1.1.1, w_Bells E a (o + 3) x.1.1.2.1, w_Mel E a (o + 6) x.1.1.2.2.1, w_Cliffs E a (o + 10) x.1.1.2.2.2, w_ValleyR a (o + 13), w_Key E a (o + 14) x.1.2.1.1, w_Bells E a (o + 15) x.1.2.1.2.1, w_Mel E a (o + 18) x.1.2.1.2.2.1, w_Cliffs E a (o + 22) x.1.2.1.2.2.2, w_Prog E a (o + 25) x.1.2.2.2.1, w_Chord E a (o + 31) x.1.2.2.2.2, w_Key E a (o + 34) x.2.1, w_Line E a (o + 35) x.2.2.1, w_Hist E a (o + 37) x.1.2.2.1, w_Model E ay oy y, w_LongArr E az oz z, w_DblArr E aw ow w])) (hS : va_S A s.heap H locs) (hl : lv_has ls 9 [(0, .ref b), (1, .ref (a o)), (2, .ref (ay oy)), (3, .ref (az oz)), (4, .ref (aw ow)), (5, .int i)])
    (hK : ∀ (H : Heap) (locs : List Loc) (ls : Array Slot), va_P E.1 vwCl (List.flatten (bl_VB E a o x ++ (bl_Model E ay oy ((y.1.1, y.1.2.1, y.1.2.2.1, y.1.2.2.2.1, y.1.2.2.2.2), (y.2.1.1, y.2.1.2.1, y.2.1.2.2.1, y.2.1.2.2.2.1, y.2.1.2.2.2.2), (y.2.2.1.1, y.2.2.1.2.1, y.2.2.1.2.2.1, y.2.2.1.2.2.2), (res.1, y.2.2.2.2.1, y.2.2.2.2.2.1, y.2.2.2.2.2.2)) ++ (bl_LongArr E az oz res.2 ++ bl_DblArr E aw ow w)))) H → va_D A (List.flatten (bl_VB E a o x ++ (bl_Model E ay oy ((y.1.1, y.1.2.1, y.1.2.2.1, y.1.2.2.2.1, y.1.2.2.2.2), (y.2.1.1, y.2.1.2.1, y.2.1.2.2.1, y.2.1.2.2.2.1, y.2.1.2.2.2.2), (y.2.2.1.1, y.2.2.1.2.1, y.2.2.1.2.2.1, y.2.2.1.2.2.2), (res.1, y.2.2.2.2.1, y.2.2.2.2.2.1, y.2.2.2.2.2.2)) ++ (bl_LongArr E az oz res.2 ++ bl_DblArr E aw ow w)))) → va_S A s.heap H locs → lv_has ls 9 [(0, .ref b), (1, .ref (a o)), (2, .ref (ay oy)), (3, .ref (az oz)), (4, .ref (aw ow)), (5, .int i)] → W p l e room_1 s m args below meth c H locs (cv + 60) (sv + 5100) Q (F0 m 2881 ls [])) : W p l e room_1 s m args below meth c H locs cv sv Q (F0 m 2080 ls []) := by
  unfold f_case34 at hF
  refine lv_aload_n hx hb dL_law_2080 rfl (lv_at hl 1 rfl) ?_
  refine lv_aload_n hx hb dL_law_2081 rfl (lv_at hl 0 rfl) ?_
  refine lv_iload hx hb dL_law_2082 (lv_at hl 5 rfl) ?_
  refine lv_iconst (v := 1) hx hb dL_law_2084 (by decide) ?_
  refine lv_iadd hx hb dL_law_2085 ?_
  obtain ⟨g1, hF⟩ := q_gdi hF
  refine va_sld hx hb hX hbl hbA hS g1 dL_law_2086 ?_
  refine lv_aload_n hx hb dL_law_2087 rfl (lv_at hl 3 rfl) ?_
  have hP : va_P E.1 vwCl (List.flatten [w_VBR a o x.2.2.2.1 x.2.2.2.2.1 x.2.2.2.2.2, w_ValleyR a (o + 1), w_Key E a (o + 2) x.1.1.1, w_Bells E a (o + 3) x.1.1.2.1, w_Mel E a (o + 6) x.1.1.2.2.1, w_Cliffs E a (o + 10) x.1.1.2.2.2, w_ValleyR a (o + 13), w_Key E a (o + 14) x.1.2.1.1, w_Bells E a (o + 15) x.1.2.1.2.1, w_Mel E a (o + 18) x.1.2.1.2.2.1, w_Cliffs E a (o + 22) x.1.2.1.2.2.2, w_Prog E a (o + 25) x.1.2.2.2.1, w_Chord E a (o + 31) x.1.2.2.2.2, w_Key E a (o + 34) x.2.1, w_Line E a (o + 35) x.2.2.1, w_Hist E a (o + 37) x.1.2.2.1, w_Model E ay oy y, w_LongArr E az oz z, w_DblArr E aw ow w]) H := hP
  have hD : va_D A (List.flatten [w_VBR a o x.2.2.2.1 x.2.2.2.2.1 x.2.2.2.2.2, w_ValleyR a (o + 1), w_Key E a (o + 2) x.1.1.1, w_Bells E a (o + 3) x.1.1.2.1, w_Mel E a (o + 6) x.1.1.2.2.1, w_Cliffs E a (o + 10) x.1.1.2.2.2, w_ValleyR a (o + 13), w_Key E a (o + 14) x.1.2.1.1, w_Bells E a (o + 15) x.1.2.1.2.1, w_Mel E a (o + 18) x.1.2.1.2.2.1, w_Cliffs E a (o + 22) x.1.2.1.2.2.2, w_Prog E a (o + 25) x.1.2.2.2.1, w_Chord E a (o + 31) x.1.2.2.2.2, w_Key E a (o + 34) x.2.1, w_Line E a (o + 35) x.2.2.1, w_Hist E a (o + 37) x.1.2.2.1, w_Model E ay oy y, w_LongArr E az oz z, w_DblArr E aw ow w]) := hD
  obtain ⟨q2, hq2, hF⟩ := q_bdi hF
  refine cl_i (Lc := [w_VBR a o x.2.2.2.1 x.2.2.2.2.1 x.2.2.2.2.2, w_ValleyR a (o + 1), w_Key E a (o + 2) x.1.1.1, w_Bells E a (o + 3) x.1.1.2.1, w_Mel E a (o + 6) x.1.1.2.2.1, w_Cliffs E a (o + 10) x.1.1.2.2.2, w_ValleyR a (o + 13), w_Key E a (o + 14) x.1.2.1.1, w_Bells E a (o + 15) x.1.2.1.2.1, w_Mel E a (o + 18) x.1.2.1.2.2.1, w_Cliffs E a (o + 22) x.1.2.1.2.2.2, w_Prog E a (o + 25) x.1.2.2.2.1, w_Chord E a (o + 31) x.1.2.2.2.2, w_Key E a (o + 34) x.2.1, w_Line E a (o + 35) x.2.2.1, w_Hist E a (o + 37) x.1.2.2.1, w_LongArr E az oz z]) (Lc' := [w_VBR a o x.2.2.2.1 x.2.2.2.2.1 x.2.2.2.2.2, w_ValleyR a (o + 1), w_Key E a (o + 2) x.1.1.1, w_Bells E a (o + 3) x.1.1.2.1, w_Mel E a (o + 6) x.1.1.2.2.1, w_Cliffs E a (o + 10) x.1.1.2.2.2, w_ValleyR a (o + 13), w_Key E a (o + 14) x.1.2.1.1, w_Bells E a (o + 15) x.1.2.1.2.1, w_Mel E a (o + 18) x.1.2.1.2.2.1, w_Cliffs E a (o + 22) x.1.2.1.2.2.2, w_Prog E a (o + 25) x.1.2.2.2.1, w_Chord E a (o + 31) x.1.2.2.2.2, w_Key E a (o + 34) x.2.1, w_Line E a (o + 35) x.2.2.1, w_Hist E a (o + 37) x.1.2.2.1, w_LongArr E az oz q2.2]) (L' := [w_VBR a o x.2.2.2.1 x.2.2.2.2.1 x.2.2.2.2.2, w_ValleyR a (o + 1), w_Key E a (o + 2) x.1.1.1, w_Bells E a (o + 3) x.1.1.2.1, w_Mel E a (o + 6) x.1.1.2.2.1, w_Cliffs E a (o + 10) x.1.1.2.2.2, w_ValleyR a (o + 13), w_Key E a (o + 14) x.1.2.1.1, w_Bells E a (o + 15) x.1.2.1.2.1, w_Mel E a (o + 18) x.1.2.1.2.2.1, w_Cliffs E a (o + 22) x.1.2.1.2.2.2, w_Prog E a (o + 25) x.1.2.2.2.1, w_Chord E a (o + 31) x.1.2.2.2.2, w_Key E a (o + 34) x.2.1, w_Line E a (o + 35) x.2.2.1, w_Hist E a (o + 37) x.1.2.2.1, w_Model E ay oy y, w_LongArr E az oz q2.2, w_DblArr E aw ow w]) (rv := q2.1) (vx_runSW (As := [.ref (a o), .int (xs (i + 1).toNatClampNeg), .ref (az oz)]) (rest := []) ⟨hx, hb, hml, hown, ha⟩ (k_L_delay l E a o x az oz z (xs (i + 1).toNatClampNeg) q2 hq2 H.size hlt) (vx_cwSW 3 ha (gi_TH (fun _ h => h) mw1399 mw1400 mw73 mw1401) rfl rfl rfl hv_L_delay.2 ⟨(Nat.le_of_ble_eq_true rfl), (Nat.le_of_ble_eq_true rfl)⟩) ⟨pre_blind, pre_at hP hD hS hz hzs hst [0, 1, 2, 3, 4, 5, 6, 7, 8, 9, 10, 11, 12, 13, 14, 15, 17] (by decide) rfl rfl⟩ rfl rfl hl.1 rfl (lv_room (Nat.le_of_ble_eq_true rfl)) dL_law_2088 ⟨by show cv + 1 ≤ 603072; omega, by show sv + 6 ≤ 7207018; omega⟩) hP hD hS hA [0, 1, 2, 3, 4, 5, 6, 7, 8, 9, 10, 11, 12, 13, 14, 15, 17] (by decide) rfl rfl rfl rfl (fun H locs hP hD hS => ?_)
  refine lv_istore (lv' := [(6, .int q2.1), (0, .ref b), (1, .ref (a o)), (2, .ref (ay oy)), (3, .ref (az oz)), (4, .ref (aw ow)), (5, .int i)]) hx hb dL_law_2091 hl (by decide) rfl (fun ls hl => ?_)
  refine lv_aload_n hx hb dL_law_2093 rfl (lv_at hl 3 rfl) ?_
  refine lv_aload_n hx hb dL_law_2094 rfl (lv_at hl 1 rfl) ?_
  refine lv_iload hx hb dL_law_2095 (lv_at hl 6 rfl) ?_
  refine lv_iconst (v := 1) hx hb dL_law_2097 (by decide) ?_
  refine lv_iadd hx hb dL_law_2098 ?_
  obtain ⟨g3, hF⟩ := q_gdi hF
  refine va_sld hx hb hX hbl hbA hS g3 dL_law_2099 ?_
  obtain ⟨q4, hq4, hF⟩ := q_bdi hF
  refine cl_i (Lc := [w_Model E ay oy y]) (Lc' := [w_Model E ay oy ((y.1.1, y.1.2.1, y.1.2.2.1, y.1.2.2.2.1, y.1.2.2.2.2), (y.2.1.1, y.2.1.2.1, y.2.1.2.2.1, y.2.1.2.2.2.1, y.2.1.2.2.2.2), (y.2.2.1.1, y.2.2.1.2.1, y.2.2.1.2.2.1, y.2.2.1.2.2.2), (q4.2, y.2.2.2.2.1, y.2.2.2.2.2.1, y.2.2.2.2.2.2))]) (L' := [w_VBR a o x.2.2.2.1 x.2.2.2.2.1 x.2.2.2.2.2, w_ValleyR a (o + 1), w_Key E a (o + 2) x.1.1.1, w_Bells E a (o + 3) x.1.1.2.1, w_Mel E a (o + 6) x.1.1.2.2.1, w_Cliffs E a (o + 10) x.1.1.2.2.2, w_ValleyR a (o + 13), w_Key E a (o + 14) x.1.2.1.1, w_Bells E a (o + 15) x.1.2.1.2.1, w_Mel E a (o + 18) x.1.2.1.2.2.1, w_Cliffs E a (o + 22) x.1.2.1.2.2.2, w_Prog E a (o + 25) x.1.2.2.2.1, w_Chord E a (o + 31) x.1.2.2.2.2, w_Key E a (o + 34) x.2.1, w_Line E a (o + 35) x.2.2.1, w_Hist E a (o + 37) x.1.2.2.1, w_Model E ay oy ((y.1.1, y.1.2.1, y.1.2.2.1, y.1.2.2.2.1, y.1.2.2.2.2), (y.2.1.1, y.2.1.2.1, y.2.1.2.2.1, y.2.1.2.2.2.1, y.2.1.2.2.2.2), (y.2.2.1.1, y.2.2.1.2.1, y.2.2.1.2.2.1, y.2.2.1.2.2.2), (q4.2, y.2.2.2.2.1, y.2.2.2.2.2.1, y.2.2.2.2.2.2)), w_LongArr E az oz q2.2, w_DblArr E aw ow w]) (rv := q4.1) (va_runV (As := [.int (xs (i + 1).toNatClampNeg)]) (rest := []) ⟨hx, hb, hml, hown, ha⟩ (k_X11_delay l E ay oy y (xs (i + 1).toNatClampNeg) q4 hq4 H.size) (cwV 1 ha (gi_V (fun _ h => h) mw1958 mw1959 mw1960 mw87 mw1961) rfl rfl rfl hv_X11_delay ⟨(Nat.le_of_ble_eq_true rfl), (Nat.le_of_ble_eq_true rfl)⟩) ⟨pre_blind, va_recv hst.k (fr_P hP [16] rfl) (ci := 13) (q0 := 0) rfl rfl, pre_at hP hD hS hz hzs hst [16] (by decide) rfl rfl⟩ rfl rfl hl.1 rfl (lv_room (Nat.le_of_ble_eq_true rfl)) dL_law_2100 ⟨by show cv + 1 + 0 ≤ 603072; omega, by show sv + 6 + 0 ≤ 7207018; omega⟩) hP hD hS hA [16] (by decide) rfl rfl rfl rfl (fun H locs hP hD hS => ?_)
  refine lv_istore (lv' := [(7, .int q4.1), (6, .int q2.1), (0, .ref b), (1, .ref (a o)), (2, .ref (ay oy)), (3, .ref (az oz)), (4, .ref (aw ow)), (5, .int i)]) hx hb dL_law_2103 hl (by decide) rfl (fun ls hl => ?_)
  refine lv_aload_n hx hb dL_law_2105 rfl (lv_at hl 4 rfl) ?_
  obtain ⟨q5, hq5, hF⟩ := q_bdi hF
  refine cl_i (Lc := [w_Model E ay oy ((y.1.1, y.1.2.1, y.1.2.2.1, y.1.2.2.2.1, y.1.2.2.2.2), (y.2.1.1, y.2.1.2.1, y.2.1.2.2.1, y.2.1.2.2.2.1, y.2.1.2.2.2.2), (y.2.2.1.1, y.2.2.1.2.1, y.2.2.1.2.2.1, y.2.2.1.2.2.2), (q4.2, y.2.2.2.2.1, y.2.2.2.2.2.1, y.2.2.2.2.2.2))]) (Lc' := [w_Model E ay oy ((y.1.1, y.1.2.1, y.1.2.2.1, y.1.2.2.2.1, y.1.2.2.2.2), (y.2.1.1, y.2.1.2.1, y.2.1.2.2.1, y.2.1.2.2.2.1, y.2.1.2.2.2.2), (y.2.2.1.1, y.2.2.1.2.1, y.2.2.1.2.2.1, y.2.2.1.2.2.2), (q4.2, y.2.2.2.2.1, y.2.2.2.2.2.1, y.2.2.2.2.2.2))]) (L' := [w_VBR a o x.2.2.2.1 x.2.2.2.2.1 x.2.2.2.2.2, w_ValleyR a (o + 1), w_Key E a (o + 2) x.1.1.1, w_Bells E a (o + 3) x.1.1.2.1, w_Mel E a (o + 6) x.1.1.2.2.1, w_Cliffs E a (o + 10) x.1.1.2.2.2, w_ValleyR a (o + 13), w_Key E a (o + 14) x.1.2.1.1, w_Bells E a (o + 15) x.1.2.1.2.1, w_Mel E a (o + 18) x.1.2.1.2.2.1, w_Cliffs E a (o + 22) x.1.2.1.2.2.2, w_Prog E a (o + 25) x.1.2.2.2.1, w_Chord E a (o + 31) x.1.2.2.2.2, w_Key E a (o + 34) x.2.1, w_Line E a (o + 35) x.2.2.1, w_Hist E a (o + 37) x.1.2.2.1, w_Model E ay oy ((y.1.1, y.1.2.1, y.1.2.2.1, y.1.2.2.2.1, y.1.2.2.2.2), (y.2.1.1, y.2.1.2.1, y.2.1.2.2.1, y.2.1.2.2.2.1, y.2.1.2.2.2.2), (y.2.2.1.1, y.2.2.1.2.1, y.2.2.1.2.2.1, y.2.2.1.2.2.2), (q4.2, y.2.2.2.2.1, y.2.2.2.2.2.1, y.2.2.2.2.2.2)), w_LongArr E az oz q2.2, w_DblArr E aw ow w]) (rv := q5) (va_runV (As := []) (rest := []) ⟨hx, hb, hml, hown, ha⟩ (k_X11_thrown l E ay oy ((y.1.1, y.1.2.1, y.1.2.2.1, y.1.2.2.2.1, y.1.2.2.2.2), (y.2.1.1, y.2.1.2.1, y.2.1.2.2.1, y.2.1.2.2.2.1, y.2.1.2.2.2.2), (y.2.2.1.1, y.2.2.1.2.1, y.2.2.1.2.2.1, y.2.2.1.2.2.2), (q4.2, y.2.2.2.2.1, y.2.2.2.2.2.1, y.2.2.2.2.2.2)) q5 hq5 H.size) (cwV 0 ha (gi_V (fun _ h => h) mw1691 mw1692 mw1693 mw87 mw1694) rfl rfl rfl hv_X11_thrown ⟨(Nat.le_of_ble_eq_true rfl), (Nat.le_of_ble_eq_true rfl)⟩) ⟨pre_blind, va_recv hst.k (fr_P hP [16] rfl) (ci := 13) (q0 := 0) rfl rfl, pre_at hP hD hS hz hzs hst [16] (by decide) rfl rfl⟩ rfl rfl hl.1 rfl (lv_room (Nat.le_of_ble_eq_true rfl)) dL_law_2106 ⟨by show cv + 1 + 0 ≤ 603072; omega, by show sv + 6 + 0 ≤ 7207018; omega⟩) hP hD hS hA [16] (by decide) rfl rfl rfl rfl (fun H locs hP hD hS => ?_)
  refine lv_iload hx hb dL_law_2109 (lv_at hl 1 rfl) ?_
  refine lv_icmp_eq (tgt := 2116) hx hb dL_law_2111 (by decide) (fun c2111 => ?_) (fun c2111 => ?_)
  · have hF := q_brp c2111 hF
    refine lv_iload hx hb dL_law_2116 (lv_at hl 1 rfl) ?_
    refine lv_if_ne (tgt := 2133) hx hb dL_law_2118 (by decide) (fun c2118 => ?_) (fun c2118 => ?_)
    · have hF := q_brn c2118 hF
      refine lv_goto (tgt := 2881) hx hb dL_law_2133 (by decide) ?_
      obtain rfl := Option.some.inj hF
      refine W.widen (k := cv + 60) (n := sv + 5100) (by omega) (by omega) ?_
      exact hK H locs ls hP hD hS (lv_sub hl [2, 3, 4, 5, 6, 7] rfl)
    · have hF := q_brp c2118 hF
      refine lv_aload_n hx hb dL_law_2121 rfl (lv_at hl 5 rfl) ?_
      refine lv_iconst (v := 0) hx hb dL_law_2122 (by decide) ?_
      refine vi_lald hx hb hst.k hP 156 3 rfl rfl (f := q2.2) (k := 0) (by decide) (by decide) dL_law_2123 ?_
      refine lv_iload hx hb dL_law_2124 (lv_at hl 0 rfl) ?_
      refine lv_i2l hx hb dL_law_2126 rfl ?_
      refine W.lcmp hx hb dL_law_2127 ?_
      refine lv_if_eq (tgt := 2133) hx hb dL_law_2128 (by decide) (fun c2128 => ?_) (fun c2128 => ?_)
      · have hF := q_brp c2128 hF
        refine lv_goto (tgt := 2881) hx hb dL_law_2133 (by decide) ?_
        obtain rfl := Option.some.inj hF
        refine W.widen (k := cv + 60) (n := sv + 5100) (by omega) (by omega) ?_
        exact hK H locs ls hP hD hS (lv_sub hl [2, 3, 4, 5, 6, 7] rfl)
      · have hF := q_brn c2128 hF
        exact absurd hF (by simp)
  · have hF := q_brn c2111 hF
    exact absurd hF (by simp)
def f_c34 (x : VB_t) (y : Model_t) (z : Nat → Int64) (w : Nat → UInt64) (xs : Nat → Int32) (n : Nat) (i : Int32) : Option (VB_t × Model_t × (Nat → Int64) × (Nat → UInt64)) := q_bd (f_case34 x.1.1.2.2.2.1 x.1.1.2.2.2.2.2 y.1.1 y.2.2.2.1 z xs n i) (fun res => some (x, ((y.1.1, y.1.2.1, y.1.2.2.1, y.1.2.2.2.1, y.1.2.2.2.2), (y.2.1.1, y.2.1.2.1, y.2.1.2.2.1, y.2.1.2.2.2.1, y.2.1.2.2.2.2), (y.2.2.1.1, y.2.2.1.2.1, y.2.2.1.2.2.1, y.2.2.1.2.2.2), (res.1, y.2.2.2.2.1, y.2.2.2.2.2.1, y.2.2.2.2.2.2)), res.2, w))
/-! case 35 -/
theorem dL_law_2136 : decode cL_law 2136 = .ok (.aload_n 1, 1) := by decide +kernel
theorem dL_law_2137 : decode cL_law 2137 = .ok (.aload_n 0, 1) := by decide +kernel
theorem dL_law_2138 : decode cL_law 2138 = .ok (.iload 5, 2) := by decide +kernel
theorem dL_law_2140 : decode cL_law 2140 = .ok (.iconst 1, 1) := by decide +kernel
theorem dL_law_2141 : decode cL_law 2141 = .ok (.iadd, 1) := by decide +kernel
theorem dL_law_2142 : decode cL_law 2142 = .ok (.iaload, 1) := by decide +kernel
theorem dL_law_2143 : decode cL_law 2143 = .ok (.aload_n 3, 1) := by decide +kernel
theorem dL_law_2144 : decode cL_law 2144 = .ok (.invokestatic 277, 3) := by decide +kernel
theorem dL_law_2147 : decode cL_law 2147 = .ok (.istore 6, 2) := by decide +kernel
theorem dL_law_2149 : decode cL_law 2149 = .ok (.aload_n 2, 1) := by decide +kernel
theorem dL_law_2150 : decode cL_law 2150 = .ok (.aload_n 0, 1) := by decide +kernel
theorem dL_law_2151 : decode cL_law 2151 = .ok (.iload 5, 2) := by decide +kernel
theorem dL_law_2153 : decode cL_law 2153 = .ok (.iconst 1, 1) := by decide +kernel
theorem dL_law_2154 : decode cL_law 2154 = .ok (.iadd, 1) := by decide +kernel
theorem dL_law_2155 : decode cL_law 2155 = .ok (.iaload, 1) := by decide +kernel
theorem dL_law_2156 : decode cL_law 2156 = .ok (.invokevirtual 279, 3) := by decide +kernel
theorem dL_law_2159 : decode cL_law 2159 = .ok (.istore 7, 2) := by decide +kernel
theorem dL_law_2161 : decode cL_law 2161 = .ok (.aload_n 2, 1) := by decide +kernel
theorem dL_law_2162 : decode cL_law 2162 = .ok (.invokevirtual 160, 3) := by decide +kernel
theorem dL_law_2165 : decode cL_law 2165 = .ok (.iload 6, 2) := by decide +kernel
theorem dL_law_2167 : decode cL_law 2167 = .ok (.if_icmp .eq 5, 3) := by decide +kernel
theorem dL_law_2172 : decode cL_law 2172 = .ok (.iload 6, 2) := by decide +kernel
theorem dL_law_2174 : decode cL_law 2174 = .ok (.ifCond .ne 15, 3) := by decide +kernel
theorem dL_law_2177 : decode cL_law 2177 = .ok (.aload_n 3, 1) := by decide +kernel
theorem dL_law_2178 : decode cL_law 2178 = .ok (.iconst 0, 1) := by decide +kernel
theorem dL_law_2179 : decode cL_law 2179 = .ok (.laload, 1) := by decide +kernel
theorem dL_law_2180 : decode cL_law 2180 = .ok (.iload 7, 2) := by decide +kernel
theorem dL_law_2182 : decode cL_law 2182 = .ok (.i2l, 1) := by decide +kernel
theorem dL_law_2183 : decode cL_law 2183 = .ok (.lcmp, 1) := by decide +kernel
theorem dL_law_2184 : decode cL_law 2184 = .ok (.ifCond .eq 5, 3) := by decide +kernel
theorem dL_law_2189 : decode cL_law 2189 = .ok (.goto 692, 3) := by decide +kernel
def f_case35 (x_valley_cliffs_transpositions : (Nat → Int32)) (x_valley_cliffs_count : Int32) (y_g : (Nat → Int32)) (y_thrown : Int32) (z_v : (Nat → Int64)) (xs : (Nat → Int32)) (n : Nat) (i : Int32) : Option (Int32 × (Nat → Int64)) :=
  q_gd (q_in (i + 1) n) (
  q_bd (f_L_transposition x_valley_cliffs_transpositions x_valley_cliffs_count z_v (xs (i + 1).toNatClampNeg)) (fun q2 =>
  q_gd (q_in (i + 1) n) (
  q_bd (f_X11_transposition y_g y_thrown (xs (i + 1).toNatClampNeg)) (fun q4 =>
  q_bd (f_X11_thrown q4.2) (fun q5 =>
  q_br (q5 = q2.1) (
  q_br (q2.1 = 0) (
  q_br ((lg_cmp (q2.2 0) (q4.1.toInt64)) = 0) (
  some (q4.2, q2.2)) (
  none)) (
  some (q4.2, q2.2))) (
  none))))))
set_option maxHeartbeats 4000000 in
set_option maxRecDepth 100000 in
theorem kc_35 {p : Program} {e : Env} {s : State} {m : MethodId} {args : Array Value} {below : List Frame} {meth : Method} {c : Code} {Q : State → Prop} {A : Nat → Prop} (l : Launch) (hlt : l.stackTraces = false) (E : ET) (a : Nat → Nat) (o : Nat) (x : VB_t) (ay : Nat → Nat) (oy : Nat) (y : Model_t) (az : Nat → Nat) (oz : Nat) (z : Nat → Int64) (aw : Nat → Nat) (ow : Nat) (w : Nat → UInt64) (b n : Nat) (xs : Nat → Int32) (i : Int32) (hx : p.tables.exec = Jvm.exec) (hb : c.code = cL_law) (hml : c.maxLocals = 9) (hown : s.vm.findClass RL = some m.cls) (ha : ∀ w ∈ lw_all, w.before args s = true) (hA : ∀ q, s.heap.size ≤ q → A q) (hz : ∀ q, A q → E.2 0 ≤ q) (hzs : E.2 0 ≤ s.heap.size) (hst : ST E s) (hX : va_X b n xs s s.heap) (hbl : b < s.heap.size) (hbA : ¬ A b) (res : Int32 × (Nat → Int64)) (hF : f_case35 x.1.1.2.2.2.2.1 x.1.1.2.2.2.2.2 y.1.1 y.2.2.2.1 z xs n i = some res) {H : Heap} {locs : List Loc} {ls : Array Slot} {cv sv : Nat} (hcv : cv + 60 ≤ 603072) (hsv : sv + 5100 ≤ 7207018) (hP : va_P E.1 vwCl (List.flatten [w_VBR a o x.2.2.2.1 x.2.2.2.2.1 x.2.2.2.2.2, w_ValleyR a (o + 1), w_Key E a (o + 2) x.1.1.1, w_Bells E a (o + 3) x.1.1.2.1, w_Mel E a (o + 6) x.1.1.2.2.1, w_Cliffs E a (o + 10) x.1.1.2.2.2, w_ValleyR a (o + 13), w_Key E a (o + 14) x.1.2.1.1, w_Bells E a (o + 15) x.1.2.1.2.1, w_Mel E a (o + 18) x.1.2.1.2.2.1, w_Cliffs E a (o + 22) x.1.2.1.2.2.2, w_Prog E a (o + 25) x.1.2.2.2.1, w_Chord E a (o + 31) x.1.2.2.2.2, w_Key E a (o + 34) x.2.1, w_Line E a (o + 35) x.2.2.1, w_Hist E a (o + 37) x.1.2.2.1, w_Model E ay oy y, w_LongArr E az oz z, w_DblArr E aw ow w]) H) (hD : va_D A (List.flatten [w_VBR a o x.2.2.2.1 x.2.2.2.2.1 x.2.2.2.2.2, w_ValleyR a (o + 1), w_Key E a (o + 2) x.1.1.1, w_Bells E a (o + 3) x.1.1.2.1, w_Mel E a (o + 6) x.1.1.2.2.1, w_Cliffs E a (o + 10) x.1.1.2.2.2, w_ValleyR a (o + 13), w_Key E a (o + 14) x.1.2.1.1, w_Bells E a (o + 15) x.1.2.1.2.1, w_Mel E a (o + 18) x.1.2.1.2.2.1, w_Cliffs E a (o + 22) x.1.2.1.2.2.2, w_Prog E a (o + 25) x.1.2.2.2.1, w_Chord E a (o + 31) x.1.2.2.2.2, w_Key E a (o + 34) x.2.1, w_Line E a (o + 35) x.2.2.1, w_Hist E a (o + 37) x.1.2.2.1, w_Model E ay oy y, w_LongArr E az oz z, w_DblArr E aw ow w])) (hS : va_S A s.heap H locs) (hl : lv_has ls 9 [(0, .ref b), (1, .ref (a o)), (2, .ref (ay oy)), (3, .ref (az oz)), (4, .ref (aw ow)), (5, .int i)])
    (hK : ∀ (H : Heap) (locs : List Loc) (ls : Array Slot), va_P E.1 vwCl (List.flatten (bl_VB E a o x ++ (bl_Model E ay oy ((y.1.1, y.1.2.1, y.1.2.2.1, y.1.2.2.2.1, y.1.2.2.2.2), (y.2.1.1, y.2.1.2.1, y.2.1.2.2.1, y.2.1.2.2.2.1, y.2.1.2.2.2.2), (y.2.2.1.1, y.2.2.1.2.1, y.2.2.1.2.2.1, y.2.2.1.2.2.2), (res.1, y.2.2.2.2.1, y.2.2.2.2.2.1, y.2.2.2.2.2.2)) ++ (bl_LongArr E az oz res.2 ++ bl_DblArr E aw ow w)))) H → va_D A (List.flatten (bl_VB E a o x ++ (bl_Model E ay oy ((y.1.1, y.1.2.1, y.1.2.2.1, y.1.2.2.2.1, y.1.2.2.2.2), (y.2.1.1, y.2.1.2.1, y.2.1.2.2.1, y.2.1.2.2.2.1, y.2.1.2.2.2.2), (y.2.2.1.1, y.2.2.1.2.1, y.2.2.1.2.2.1, y.2.2.1.2.2.2), (res.1, y.2.2.2.2.1, y.2.2.2.2.2.1, y.2.2.2.2.2.2)) ++ (bl_LongArr E az oz res.2 ++ bl_DblArr E aw ow w)))) → va_S A s.heap H locs → lv_has ls 9 [(0, .ref b), (1, .ref (a o)), (2, .ref (ay oy)), (3, .ref (az oz)), (4, .ref (aw ow)), (5, .int i)] → W p l e room_1 s m args below meth c H locs (cv + 60) (sv + 5100) Q (F0 m 2881 ls [])) : W p l e room_1 s m args below meth c H locs cv sv Q (F0 m 2136 ls []) := by
  unfold f_case35 at hF
  refine lv_aload_n hx hb dL_law_2136 rfl (lv_at hl 1 rfl) ?_
  refine lv_aload_n hx hb dL_law_2137 rfl (lv_at hl 0 rfl) ?_
  refine lv_iload hx hb dL_law_2138 (lv_at hl 5 rfl) ?_
  refine lv_iconst (v := 1) hx hb dL_law_2140 (by decide) ?_
  refine lv_iadd hx hb dL_law_2141 ?_
  obtain ⟨g1, hF⟩ := q_gdi hF
  refine va_sld hx hb hX hbl hbA hS g1 dL_law_2142 ?_
  refine lv_aload_n hx hb dL_law_2143 rfl (lv_at hl 3 rfl) ?_
  have hP : va_P E.1 vwCl (List.flatten [w_VBR a o x.2.2.2.1 x.2.2.2.2.1 x.2.2.2.2.2, w_ValleyR a (o + 1), w_Key E a (o + 2) x.1.1.1, w_Bells E a (o + 3) x.1.1.2.1, w_Mel E a (o + 6) x.1.1.2.2.1, w_Cliffs E a (o + 10) x.1.1.2.2.2, w_ValleyR a (o + 13), w_Key E a (o + 14) x.1.2.1.1, w_Bells E a (o + 15) x.1.2.1.2.1, w_Mel E a (o + 18) x.1.2.1.2.2.1, w_Cliffs E a (o + 22) x.1.2.1.2.2.2, w_Prog E a (o + 25) x.1.2.2.2.1, w_Chord E a (o + 31) x.1.2.2.2.2, w_Key E a (o + 34) x.2.1, w_Line E a (o + 35) x.2.2.1, w_Hist E a (o + 37) x.1.2.2.1, w_Model E ay oy y, w_LongArr E az oz z, w_DblArr E aw ow w]) H := hP
  have hD : va_D A (List.flatten [w_VBR a o x.2.2.2.1 x.2.2.2.2.1 x.2.2.2.2.2, w_ValleyR a (o + 1), w_Key E a (o + 2) x.1.1.1, w_Bells E a (o + 3) x.1.1.2.1, w_Mel E a (o + 6) x.1.1.2.2.1, w_Cliffs E a (o + 10) x.1.1.2.2.2, w_ValleyR a (o + 13), w_Key E a (o + 14) x.1.2.1.1, w_Bells E a (o + 15) x.1.2.1.2.1, w_Mel E a (o + 18) x.1.2.1.2.2.1, w_Cliffs E a (o + 22) x.1.2.1.2.2.2, w_Prog E a (o + 25) x.1.2.2.2.1, w_Chord E a (o + 31) x.1.2.2.2.2, w_Key E a (o + 34) x.2.1, w_Line E a (o + 35) x.2.2.1, w_Hist E a (o + 37) x.1.2.2.1, w_Model E ay oy y, w_LongArr E az oz z, w_DblArr E aw ow w]) := hD
  obtain ⟨q2, hq2, hF⟩ := q_bdi hF
  refine cl_i (Lc := [w_VBR a o x.2.2.2.1 x.2.2.2.2.1 x.2.2.2.2.2, w_ValleyR a (o + 1), w_Key E a (o + 2) x.1.1.1, w_Bells E a (o + 3) x.1.1.2.1, w_Mel E a (o + 6) x.1.1.2.2.1, w_Cliffs E a (o + 10) x.1.1.2.2.2, w_ValleyR a (o + 13), w_Key E a (o + 14) x.1.2.1.1, w_Bells E a (o + 15) x.1.2.1.2.1, w_Mel E a (o + 18) x.1.2.1.2.2.1, w_Cliffs E a (o + 22) x.1.2.1.2.2.2, w_Prog E a (o + 25) x.1.2.2.2.1, w_Chord E a (o + 31) x.1.2.2.2.2, w_Key E a (o + 34) x.2.1, w_Line E a (o + 35) x.2.2.1, w_Hist E a (o + 37) x.1.2.2.1, w_LongArr E az oz z]) (Lc' := [w_VBR a o x.2.2.2.1 x.2.2.2.2.1 x.2.2.2.2.2, w_ValleyR a (o + 1), w_Key E a (o + 2) x.1.1.1, w_Bells E a (o + 3) x.1.1.2.1, w_Mel E a (o + 6) x.1.1.2.2.1, w_Cliffs E a (o + 10) x.1.1.2.2.2, w_ValleyR a (o + 13), w_Key E a (o + 14) x.1.2.1.1, w_Bells E a (o + 15) x.1.2.1.2.1, w_Mel E a (o + 18) x.1.2.1.2.2.1, w_Cliffs E a (o + 22) x.1.2.1.2.2.2, w_Prog E a (o + 25) x.1.2.2.2.1, w_Chord E a (o + 31) x.1.2.2.2.2, w_Key E a (o + 34) x.2.1, w_Line E a (o + 35) x.2.2.1, w_Hist E a (o + 37) x.1.2.2.1, w_LongArr E az oz q2.2]) (L' := [w_VBR a o x.2.2.2.1 x.2.2.2.2.1 x.2.2.2.2.2, w_ValleyR a (o + 1), w_Key E a (o + 2) x.1.1.1, w_Bells E a (o + 3) x.1.1.2.1, w_Mel E a (o + 6) x.1.1.2.2.1, w_Cliffs E a (o + 10) x.1.1.2.2.2, w_ValleyR a (o + 13), w_Key E a (o + 14) x.1.2.1.1, w_Bells E a (o + 15) x.1.2.1.2.1, w_Mel E a (o + 18) x.1.2.1.2.2.1, w_Cliffs E a (o + 22) x.1.2.1.2.2.2, w_Prog E a (o + 25) x.1.2.2.2.1, w_Chord E a (o + 31) x.1.2.2.2.2, w_Key E a (o + 34) x.2.1, w_Line E a (o + 35) x.2.2.1, w_Hist E a (o + 37) x.1.2.2.1, w_Model E ay oy y, w_LongArr E az oz q2.2, w_DblArr E aw ow w]) (rv := q2.1) (vx_runSW (As := [.ref (a o), .int (xs (i + 1).toNatClampNeg), .ref (az oz)]) (rest := []) ⟨hx, hb, hml, hown, ha⟩ (k_L_transposition l E a o x az oz z (xs (i + 1).toNatClampNeg) q2 hq2 H.size hlt) (vx_cwSW 3 ha (gi_TH (fun _ h => h) mw1412 mw1413 mw73 mw1414) rfl rfl rfl hv_L_transposition.2 ⟨(Nat.le_of_ble_eq_true rfl), (Nat.le_of_ble_eq_true rfl)⟩) ⟨pre_blind, pre_at hP hD hS hz hzs hst [0, 1, 2, 3, 4, 5, 6, 7, 8, 9, 10, 11, 12, 13, 14, 15, 17] (by decide) rfl rfl⟩ rfl rfl hl.1 rfl (lv_room (Nat.le_of_ble_eq_true rfl)) dL_law_2144 ⟨by show cv + 1 ≤ 603072; omega, by show sv + 6 ≤ 7207018; omega⟩) hP hD hS hA [0, 1, 2, 3, 4, 5, 6, 7, 8, 9, 10, 11, 12, 13, 14, 15, 17] (by decide) rfl rfl rfl rfl (fun H locs hP hD hS => ?_)
  refine lv_istore (lv' := [(6, .int q2.1), (0, .ref b), (1, .ref (a o)), (2, .ref (ay oy)), (3, .ref (az oz)), (4, .ref (aw ow)), (5, .int i)]) hx hb dL_law_2147 hl (by decide) rfl (fun ls hl => ?_)
  refine lv_aload_n hx hb dL_law_2149 rfl (lv_at hl 3 rfl) ?_
  refine lv_aload_n hx hb dL_law_2150 rfl (lv_at hl 1 rfl) ?_
  refine lv_iload hx hb dL_law_2151 (lv_at hl 6 rfl) ?_
  refine lv_iconst (v := 1) hx hb dL_law_2153 (by decide) ?_
  refine lv_iadd hx hb dL_law_2154 ?_
  obtain ⟨g3, hF⟩ := q_gdi hF
  refine va_sld hx hb hX hbl hbA hS g3 dL_law_2155 ?_
  obtain ⟨q4, hq4, hF⟩ := q_bdi hF
  refine cl_i (Lc := [w_Model E ay oy y]) (Lc' := [w_Model E ay oy ((y.1.1, y.1.2.1, y.1.2.2.1, y.1.2.2.2.1, y.1.2.2.2.2), (y.2.1.1, y.2.1.2.1, y.2.1.2.2.1, y.2.1.2.2.2.1, y.2.1.2.2.2.2), (y.2.2.1.1, y.2.2.1.2.1, y.2.2.1.2.2.1, y.2.2.1.2.2.2), (q4.2, y.2.2.2.2.1, y.2.2.2.2.2.1, y.2.2.2.2.2.2))]) (L' := [w_VBR a o x.2.2.2.1 x.2.2.2.2.1 x.2.2.2.2.2, w_ValleyR a (o + 1), w_Key E a (o + 2) x.1.1.1, w_Bells E a (o + 3) x.1.1.2.1, w_Mel E a (o + 6) x.1.1.2.2.1, w_Cliffs E a (o + 10) x.1.1.2.2.2, w_ValleyR a (o + 13), w_Key E a (o + 14) x.1.2.1.1, w_Bells E a (o + 15) x.1.2.1.2.1, w_Mel E a (o + 18) x.1.2.1.2.2.1, w_Cliffs E a (o + 22) x.1.2.1.2.2.2, w_Prog E a (o + 25) x.1.2.2.2.1, w_Chord E a (o + 31) x.1.2.2.2.2, w_Key E a (o + 34) x.2.1, w_Line E a (o + 35) x.2.2.1, w_Hist E a (o + 37) x.1.2.2.1, w_Model E ay oy ((y.1.1, y.1.2.1, y.1.2.2.1, y.1.2.2.2.1, y.1.2.2.2.2), (y.2.1.1, y.2.1.2.1, y.2.1.2.2.1, y.2.1.2.2.2.1, y.2.1.2.2.2.2), (y.2.2.1.1, y.2.2.1.2.1, y.2.2.1.2.2.1, y.2.2.1.2.2.2), (q4.2, y.2.2.2.2.1, y.2.2.2.2.2.1, y.2.2.2.2.2.2)), w_LongArr E az oz q2.2, w_DblArr E aw ow w]) (rv := q4.1) (va_runV (As := [.int (xs (i + 1).toNatClampNeg)]) (rest := []) ⟨hx, hb, hml, hown, ha⟩ (k_X11_transposition l E ay oy y (xs (i + 1).toNatClampNeg) q4 hq4 H.size) (cwV 1 ha (gi_V (fun _ h => h) mw1962 mw1963 mw1964 mw87 mw1965) rfl rfl rfl hv_X11_transposition ⟨(Nat.le_of_ble_eq_true rfl), (Nat.le_of_ble_eq_true rfl)⟩) ⟨pre_blind, va_recv hst.k (fr_P hP [16] rfl) (ci := 13) (q0 := 0) rfl rfl, pre_at hP hD hS hz hzs hst [16] (by decide) rfl rfl⟩ rfl rfl hl.1 rfl (lv_room (Nat.le_of_ble_eq_true rfl)) dL_law_2156 ⟨by show cv + 1 + 0 ≤ 603072; omega, by show sv + 6 + 0 ≤ 7207018; omega⟩) hP hD hS hA [16] (by decide) rfl rfl rfl rfl (fun H locs hP hD hS => ?_)
  refine lv_istore (lv' := [(7, .int q4.1), (6, .int q2.1), (0, .ref b), (1, .ref (a o)), (2, .ref (ay oy)), (3, .ref (az oz)), (4, .ref (aw ow)), (5, .int i)]) hx hb dL_law_2159 hl (by decide) rfl (fun ls hl => ?_)
  refine lv_aload_n hx hb dL_law_2161 rfl (lv_at hl 4 rfl) ?_
  obtain ⟨q5, hq5, hF⟩ := q_bdi hF
  refine cl_i (Lc := [w_Model E ay oy ((y.1.1, y.1.2.1, y.1.2.2.1, y.1.2.2.2.1, y.1.2.2.2.2), (y.2.1.1, y.2.1.2.1, y.2.1.2.2.1, y.2.1.2.2.2.1, y.2.1.2.2.2.2), (y.2.2.1.1, y.2.2.1.2.1, y.2.2.1.2.2.1, y.2.2.1.2.2.2), (q4.2, y.2.2.2.2.1, y.2.2.2.2.2.1, y.2.2.2.2.2.2))]) (Lc' := [w_Model E ay oy ((y.1.1, y.1.2.1, y.1.2.2.1, y.1.2.2.2.1, y.1.2.2.2.2), (y.2.1.1, y.2.1.2.1, y.2.1.2.2.1, y.2.1.2.2.2.1, y.2.1.2.2.2.2), (y.2.2.1.1, y.2.2.1.2.1, y.2.2.1.2.2.1, y.2.2.1.2.2.2), (q4.2, y.2.2.2.2.1, y.2.2.2.2.2.1, y.2.2.2.2.2.2))]) (L' := [w_VBR a o x.2.2.2.1 x.2.2.2.2.1 x.2.2.2.2.2, w_ValleyR a (o + 1), w_Key E a (o + 2) x.1.1.1, w_Bells E a (o + 3) x.1.1.2.1, w_Mel E a (o + 6) x.1.1.2.2.1, w_Cliffs E a (o + 10) x.1.1.2.2.2, w_ValleyR a (o + 13), w_Key E a (o + 14) x.1.2.1.1, w_Bells E a (o + 15) x.1.2.1.2.1, w_Mel E a (o + 18) x.1.2.1.2.2.1, w_Cliffs E a (o + 22) x.1.2.1.2.2.2, w_Prog E a (o + 25) x.1.2.2.2.1, w_Chord E a (o + 31) x.1.2.2.2.2, w_Key E a (o + 34) x.2.1, w_Line E a (o + 35) x.2.2.1, w_Hist E a (o + 37) x.1.2.2.1, w_Model E ay oy ((y.1.1, y.1.2.1, y.1.2.2.1, y.1.2.2.2.1, y.1.2.2.2.2), (y.2.1.1, y.2.1.2.1, y.2.1.2.2.1, y.2.1.2.2.2.1, y.2.1.2.2.2.2), (y.2.2.1.1, y.2.2.1.2.1, y.2.2.1.2.2.1, y.2.2.1.2.2.2), (q4.2, y.2.2.2.2.1, y.2.2.2.2.2.1, y.2.2.2.2.2.2)), w_LongArr E az oz q2.2, w_DblArr E aw ow w]) (rv := q5) (va_runV (As := []) (rest := []) ⟨hx, hb, hml, hown, ha⟩ (k_X11_thrown l E ay oy ((y.1.1, y.1.2.1, y.1.2.2.1, y.1.2.2.2.1, y.1.2.2.2.2), (y.2.1.1, y.2.1.2.1, y.2.1.2.2.1, y.2.1.2.2.2.1, y.2.1.2.2.2.2), (y.2.2.1.1, y.2.2.1.2.1, y.2.2.1.2.2.1, y.2.2.1.2.2.2), (q4.2, y.2.2.2.2.1, y.2.2.2.2.2.1, y.2.2.2.2.2.2)) q5 hq5 H.size) (cwV 0 ha (gi_V (fun _ h => h) mw1691 mw1692 mw1693 mw87 mw1694) rfl rfl rfl hv_X11_thrown ⟨(Nat.le_of_ble_eq_true rfl), (Nat.le_of_ble_eq_true rfl)⟩) ⟨pre_blind, va_recv hst.k (fr_P hP [16] rfl) (ci := 13) (q0 := 0) rfl rfl, pre_at hP hD hS hz hzs hst [16] (by decide) rfl rfl⟩ rfl rfl hl.1 rfl (lv_room (Nat.le_of_ble_eq_true rfl)) dL_law_2162 ⟨by show cv + 1 + 0 ≤ 603072; omega, by show sv + 6 + 0 ≤ 7207018; omega⟩) hP hD hS hA [16] (by decide) rfl rfl rfl rfl (fun H locs hP hD hS => ?_)
  refine lv_iload hx hb dL_law_2165 (lv_at hl 1 rfl) ?_
  refine lv_icmp_eq (tgt := 2172) hx hb dL_law_2167 (by decide) (fun c2167 => ?_) (fun c2167 => ?_)
  · have hF := q_brp c2167 hF
    refine lv_iload hx hb dL_law_2172 (lv_at hl 1 rfl) ?_
    refine lv_if_ne (tgt := 2189) hx hb dL_law_2174 (by decide) (fun c2174 => ?_) (fun c2174 => ?_)
    · have hF := q_brn c2174 hF
      refine lv_goto (tgt := 2881) hx hb dL_law_2189 (by decide) ?_
      obtain rfl := Option.some.inj hF
      refine W.widen (k := cv + 60) (n := sv + 5100) (by omega) (by omega) ?_
      exact hK H locs ls hP hD hS (lv_sub hl [2, 3, 4, 5, 6, 7] rfl)
    · have hF := q_brp c2174 hF
      refine lv_aload_n hx hb dL_law_2177 rfl (lv_at hl 5 rfl) ?_
      refine lv_iconst (v := 0) hx hb dL_law_2178 (by decide) ?_
      refine vi_lald hx hb hst.k hP 156 3 rfl rfl (f := q2.2) (k := 0) (by decide) (by decide) dL_law_2179 ?_
      refine lv_iload hx hb dL_law_2180 (lv_at hl 0 rfl) ?_
      refine lv_i2l hx hb dL_law_2182 rfl ?_
      refine W.lcmp hx hb dL_law_2183 ?_
      refine lv_if_eq (tgt := 2189) hx hb dL_law_2184 (by decide) (fun c2184 => ?_) (fun c2184 => ?_)
      · have hF := q_brp c2184 hF
        refine lv_goto (tgt := 2881) hx hb dL_law_2189 (by decide) ?_
        obtain rfl := Option.some.inj hF
        refine W.widen (k := cv + 60) (n := sv + 5100) (by omega) (by omega) ?_
        exact hK H locs ls hP hD hS (lv_sub hl [2, 3, 4, 5, 6, 7] rfl)
      · have hF := q_brn c2184 hF
        exact absurd hF (by simp)
  · have hF := q_brn c2167 hF
    exact absurd hF (by simp)
def f_c35 (x : VB_t) (y : Model_t) (z : Nat → Int64) (w : Nat → UInt64) (xs : Nat → Int32) (n : Nat) (i : Int32) : Option (VB_t × Model_t × (Nat → Int64) × (Nat → UInt64)) := q_bd (f_case35 x.1.1.2.2.2.2.1 x.1.1.2.2.2.2.2 y.1.1 y.2.2.2.1 z xs n i) (fun res => some (x, ((y.1.1, y.1.2.1, y.1.2.2.1, y.1.2.2.2.1, y.1.2.2.2.2), (y.2.1.1, y.2.1.2.1, y.2.1.2.2.1, y.2.1.2.2.2.1, y.2.1.2.2.2.2), (y.2.2.1.1, y.2.2.1.2.1, y.2.2.1.2.2.1, y.2.2.1.2.2.2), (res.1, y.2.2.2.2.1, y.2.2.2.2.2.1, y.2.2.2.2.2.2)), res.2, w))
