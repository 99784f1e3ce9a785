def sad (x : VB_t) (ad : Nat) : VB_t := (x.1, (x.2.1, (x.2.2.1.1, x.2.2.1.2.1, ad, x.2.2.1.2.2.2), x.2.2.2))
def vb_init : VB_t := ((v_init, v_init, (fun _ => v_init, 0, 0), ((fun _ => 0, 0, fun _ => none, fun _ => 0), (fun _ => 0, 0, fun _ => 0, 0), (1, 0, 0)), (fun _ => 0, fun _ => 0, 0)), ((0, 0, 10), (fun _ => 0, 16, 0, 0, 0), 0, (-1), (-1)))
def m_init : Model_t := ((upd (fun _ => 0) 4 10, fun _ => 0, fun _ => 0, 0, fun _ => 0), (0, fun _ => 0, 0, (-1), (-1)), (fun _ => 0, 0, fun _ => 0, 0), (0, 0, 0, fun _ => 0))
def f_step (v : Int32) (x : VB_t) (y : Model_t) (z : Nat → Int64) (w : Nat → UInt64) (xs : Nat → Int32) (n : Nat) (i : Int32) : Option (VB_t × Model_t × (Nat → Int64) × (Nat → UInt64)) :=
  q_br (v = 0) (f_c0 x y z w xs n i) (
  q_br (v = 1) (f_c1 x y z w xs n i) (
  q_br (v = 2) (f_c2 x y z w xs n i) (
  q_br (v = 3) (f_c3 x y z w xs n i) (
  q_br (v = 4) (f_c4 x y z w xs n i) (
  q_br (v = 5) (f_c5 x y z w xs n i) (
  q_br (v = 6) (f_c6 x y z w xs n i) (
  q_br (v = 7) (f_c7 x y z w xs n i) (
  q_br (v = 8) (f_c8 x y z w xs n i) (
  q_br (v = 9) (f_c9 x y z w xs n i) (
  q_br (v = 10) (f_c10 x y z w xs n i) (
  q_br (v = 11) (f_c11 x y z w xs n i) (
  q_br (v = 12) (f_c12 x y z w xs n i) (
  q_br (v = 13) (f_c13 x y z w xs n i) (
  q_br (v = 14) (f_c14 x y z w xs n i) (
  q_br (v = 15) (f_c15 x y z w xs n i) (
  q_br (v = 16) (f_c16 x y z w xs n i) (
  q_br (v = 17) (f_c17 x y z w xs n i) (
  q_br (v = 18) (f_c18 x y z w xs n i) (
  q_br (v = 19) (f_c19 x y z w xs n i) (
  q_br (v = 20) (f_c20 x y z w xs n i) (
  q_br (v = 21) (f_c21 x y z w xs n i) (
  q_br (v = 22) (f_c22 x y z w xs n i) (
  q_br (v = 23) (f_c23 x y z w xs n i) (
  q_br (v = 24) (f_c24 x y z w xs n i) (
  q_br (v = 25) (f_c25 x y z w xs n i) (
  q_br (v = 26) (f_c26 x y z w xs n i) (
  q_br (v = 27) (f_c27 x y z w xs n i) (
  q_br (v = 28) (f_c28 x y z w xs n i) (
  q_br (v = 29) (f_c29 x y z w xs n i) (
  q_br (v = 30) (f_c30 x y z w xs n i) (
  q_br (v = 31) (f_c31 x y z w xs n i) (
  q_br (v = 32) (f_c32 x y z w xs n i) (
  q_br (v = 33) (f_c33 x y z w xs n i) (
  q_br (v = 34) (f_c34 x y z w xs n i) (
  q_br (v = 35) (f_c35 x y z w xs n i) (
  q_br (v = 36) (f_c36 x y z w xs n i) (
  q_br (v = 37) (f_c37 x y z w xs n i) (
  q_br (v = 38) (f_c38 x y z w xs n i) (
  q_br (v = 39) (f_c39 x y z w xs n i) (
  q_br (v = 40) (f_c40 x y z w xs n i) (
  q_br (v = 41) (f_c41 x y z w xs n i) (
  q_br (v = 42) (f_c42 x y z w xs n i) (
  q_br (v = 43) (f_c43 x y z w xs n i) (
  q_br (v = 44) (f_c44 x y z w xs n i) (
  q_br (v = 45) (f_c45 x y z w xs n i) (
  q_br (v = 46) (f_c46 x y z w xs n i) (
  q_br (v = 47) (f_c47 x y z w xs n i) (
  q_br (v = 48) (f_c48 x y z w xs n i) (
  q_br (v = 49) (f_c49 x y z w xs n i) (
  q_br (v = 50) (f_c50 x y z w xs n i) (
  q_br (v = 51) (f_c51 x y z w xs n i) (
  q_br (v = 52) (f_c52 x y z w xs n i) (
  q_br (v = 53) (f_c53 x y z w xs n i) (
  q_br (v = 54) (f_c54 x y z w xs n i) (
  some (x, y, z, w))))))))))))))))))))))))))))))))))))))))))))))))))))))))
def f_loop (xs : Nat → Int32) (n : Nat) : Nat → Int32 → VB_t → Model_t → (Nat → Int64) → (Nat → UInt64) → Option Unit
  | 0, _, _, _, _, _ => none
  | k + 1, i, x, y, z, w => q_br (Int32.ofNat n - 3 < i) (some ()) (q_gd (q_in i n) (q_bd (f_step (xs i.toNatClampNeg &&& 63) x y z w xs n i) (fun r => f_loop xs n k (i + 3) r.1 r.2.1 r.2.2.1 r.2.2.2)))
def f_law (xs : Nat → Int32) (n : Nat) : Option Unit := f_loop xs n 600 0 vb_init m_init (fun _ => 0) (fun _ => 0)
theorem dL_law_28 : decode cL_law 28 = .ok (.iload 5, 2) := by decide +kernel
theorem dL_law_30 : decode cL_law 30 = .ok (.aload_n 0, 1) := by decide +kernel
theorem dL_law_31 : decode cL_law 31 = .ok (.arraylength, 1) := by decide +kernel
theorem dL_law_32 : decode cL_law 32 = .ok (.iconst 3, 1) := by decide +kernel
theorem dL_law_33 : decode cL_law 33 = .ok (.isub, 1) := by decide +kernel
theorem dL_law_34 : decode cL_law 34 = .ok (.if_icmp .gt 2853, 3) := by decide +kernel
theorem dL_law_37 : decode cL_law 37 = .ok (.aload_n 0, 1) := by decide +kernel
theorem dL_law_38 : decode cL_law 38 = .ok (.iload 5, 2) := by decide +kernel
theorem dL_law_40 : decode cL_law 40 = .ok (.iaload, 1) := by decide +kernel
theorem dL_law_41 : decode cL_law 41 = .ok (.bipush 63, 2) := by decide +kernel
theorem dL_law_43 : decode cL_law 43 = .ok (.iand, 1) := by decide +kernel
theorem dL_law_44 : decode cL_law 44 = .ok (.tableswitch 2837 0 54 #[236, 304, 360, 428, 496, 564, 648, 704, 772, 828, 896, 964, 1020, 1033, 1089, 1145, 1201, 1257, 1320, 1333, 1389, 1445, 1501, 1566, 1632, 1645, 1658, 1671, 1734, 1775, 1831, 1899, 1955, 2023, 2036, 2092, 2148, 2173, 2241, 2266, 2291, 2316, 2360, 2374, 2418, 2431, 2489, 2533, 2577, 2621, 2677, 2702, 2758, 2802, 2813], 236) := by decide +kernel
theorem dL_law_2881 : decode cL_law 2881 = .ok (.iinc 5 3, 3) := by decide +kernel
theorem dL_law_2884 : decode cL_law 2884 = .ok (.goto (-2856), 3) := by decide +kernel
set_option maxHeartbeats 4000000 in
set_option maxRecDepth 100000 in
theorem k_loop {p : Program} {e : Env} {s : State} {m : MethodId} {args : Array Value} {below : List Frame} {meth : Method} {c : Code} {Q : State → Prop} {A : Nat → Prop} (l : Launch) (hlt : l.stackTraces = false) (E : ET) (a : Nat → Nat) (o : Nat) (ay : Nat → Nat) (oy : Nat) (az : Nat → Nat) (oz : Nat) (aw : Nat → Nat) (ow : Nat) (b n : Nat) (xs : Nat → Int32) (hx : p.tables.exec = Jvm.exec) (hb : c.code = cL_law) (hml : c.maxLocals = 9) (hown : s.vm.findClass RL = some m.cls) (ha : ∀ w ∈ lw_all, w.before args s = true) (hA : ∀ q, s.heap.size ≤ q → A q) (hz : ∀ q, A q → E.2 0 ≤ q) (hzs : E.2 0 ≤ s.heap.size) (hst : ST E s) (hX : va_X b n xs s s.heap) (hbl : b < s.heap.size) (hbA : ¬ A b)
    (hend : ∀ (H : Heap) (locs : List Loc) (ls : Array Slot) (cv sv : Nat), cv ≤ 603072 → sv ≤ 7207018 → va_S A s.heap H locs → W p l e room_1 s m args below meth c H locs cv sv Q (F0 m 2887 ls [])) :
    ∀ (k : Nat) (i : Int32) (x : VB_t) (y : Model_t) (z : Nat → Int64) (w : Nat → UInt64) (ad : Nat) (H : Heap) (locs : List Loc) (ls : Array Slot) (cv sv : Nat), cv + k * 60 ≤ 603072 → sv + k * 5100 ≤ 7207018 → f_loop xs n k i x y z w = some () → va_P E.1 vwCl (List.flatten (bl_VB E a o (sad x ad) ++ (bl_Model E ay oy y ++ (bl_LongArr E az oz z ++ bl_DblArr E aw ow w)))) H → va_D A (List.flatten (bl_VB E a o (sad x ad) ++ (bl_Model E ay oy y ++ (bl_LongArr E az oz z ++ bl_DblArr E aw ow w)))) → va_S A s.heap H locs → lv_has ls 9 [(0, .ref b), (1, .ref (a o)), (2, .ref (ay oy)), (3, .ref (az oz)), (4, .ref (aw ow)), (5, .int i)] → W p l e room_1 s m args below meth c H locs cv sv Q (F0 m 28 ls []) := by
  intro k
  induction k with
  | zero => intro i x y z w ad H locs ls cv sv _ _ hF; exact absurd hF (by simp [f_loop])
  | succ k ih =>
    intro i x y z w ad H locs ls cv sv hcv hsv hF hP hD hS hl
    rw [f_loop] at hF
    have tail : ∀ (r : VB_t × Model_t × (Nat → Int64) × (Nat → UInt64)) (ad : Nat) (H : Heap) (locs : List Loc) (ls : Array Slot), f_loop xs n k (i + 3) r.1 r.2.1 r.2.2.1 r.2.2.2 = some () → va_P E.1 vwCl (List.flatten (bl_VB E a o (sad r.1 ad) ++ (bl_Model E ay oy r.2.1 ++ (bl_LongArr E az oz r.2.2.1 ++ bl_DblArr E aw ow r.2.2.2)))) H → va_D A (List.flatten (bl_VB E a o (sad r.1 ad) ++ (bl_Model E ay oy r.2.1 ++ (bl_LongArr E az oz r.2.2.1 ++ bl_DblArr E aw ow r.2.2.2)))) → va_S A s.heap H locs → lv_has ls 9 [(0, .ref b), (1, .ref (a o)), (2, .ref (ay oy)), (3, .ref (az oz)), (4, .ref (aw ow)), (5, .int i)] → W p l e room_1 s m args below meth c H locs (cv + 60) (sv + 5100) Q (F0 m 2881 ls []) := by
      intro r ad H locs ls hF hP hD hS hl
      refine lv_iinc (v := i + 3) (lv' := [(5, .int (i + 3)), (0, .ref b), (1, .ref (a o)), (2, .ref (ay oy)), (3, .ref (az oz)), (4, .ref (aw ow))]) hx hb dL_law_2881 hl (k := 5) rfl rfl (by decide) rfl (fun ls hl => ?_)
      refine lv_goto (tgt := 28) hx hb dL_law_2884 (by decide) ?_
      exact ih (i + 3) r.1 r.2.1 r.2.2.1 r.2.2.2 ad H locs ls _ _ (by omega) (by omega) hF hP hD hS (lv_sub hl [1, 2, 3, 4, 5, 0] rfl)
    refine lv_iload hx hb dL_law_28 (lv_at hl 5 rfl) ?_
    refine lv_aload_n hx hb dL_law_30 rfl (lv_at hl 0 rfl) ?_
    refine va_slen hx hb hX hbl hbA hS dL_law_31 ?_
    refine lv_iconst (v := 3) hx hb dL_law_32 (by decide) ?_
    refine lv_isub hx hb dL_law_33 ?_
    refine lv_icmp_gt (tgt := 2887) hx hb dL_law_34 (by decide) (fun c34 => ?_) (fun c34 => ?_)
    · exact hend H locs ls cv sv (by omega) (by omega) hS
    have hF := q_brn c34 hF
    obtain ⟨g1, hF⟩ := q_gdi hF
    obtain ⟨r, hr, hF⟩ := q_bdi hF
    refine lv_aload_n hx hb dL_law_37 rfl (lv_at hl 0 rfl) ?_
    refine lv_iload hx hb dL_law_38 (lv_at hl 5 rfl) ?_
    refine va_sld hx hb hX hbl hbA hS g1 dL_law_40 ?_
    refine lv_bipush (v := 63) hx hb dL_law_41 (by decide) ?_
    refine lv_iand hx hb dL_law_43 ?_
    refine lv_topi (fun v ev => ?_)
    rw [← ev] at hr
    unfold f_step at hr
    by_cases w0 : v = 0
    · have hr := q_brp w0 hr
      unfold f_c0 at hr
      obtain ⟨res, hres, hr⟩ := q_bdi hr
      obtain rfl := Option.some.inj hr
      refine lv_tableIn (off := 236) (tgt := 280) hx hb dL_law_44 (by rw [w0]; decide) (by rw [w0]; decide) (by rw [w0]; decide) (by decide) ?_
      exact kc_0 l hlt E a o (sad x ad) ay oy y az oz z aw ow w b n xs i hx hb hml hown ha hA hz hzs hst hX hbl hbA res hres (by omega) (by omega) hP hD hS hl (fun H locs ls hP hD hS hl => tail _ ad H locs ls hF hP hD hS hl)
    have hr := q_brn w0 hr
    by_cases w1 : v = 1
    · have hr := q_brp w1 hr
      unfold f_c1 at hr
      obtain ⟨res, hres, hr⟩ := q_bdi hr
      obtain rfl := Option.some.inj hr
      refine lv_tableIn (off := 304) (tgt := 348) hx hb dL_law_44 (by rw [w1]; decide) (by rw [w1]; decide) (by rw [w1]; decide) (by decide) ?_
      exact kc_1 l hlt E a o (sad x ad) ay oy y az oz z aw ow w b n xs i hx hb hml hown ha hA hz hzs hst hX hbl hbA res hres (by omega) (by omega) hP hD hS hl (fun H locs ls hP hD hS hl => tail _ ad H locs ls hF hP hD hS hl)
    have hr := q_brn w1 hr
    by_cases w2 : v = 2
    · have hr := q_brp w2 hr
      unfold f_c2 at hr
      obtain ⟨res, hres, hr⟩ := q_bdi hr
      obtain rfl := Option.some.inj hr
      refine lv_tableIn (off := 360) (tgt := 404) hx hb dL_law_44 (by rw [w2]; decide) (by rw [w2]; decide) (by rw [w2]; decide) (by decide) ?_
      exact kc_2 l hlt E a o (sad x ad) ay oy y az oz z aw ow w b n xs i hx hb hml hown ha hA hz hzs hst hX hbl hbA res hres (by omega) (by omega) hP hD hS hl (fun H locs ls hP hD hS hl => tail _ ad H locs ls hF hP hD hS hl)
    have hr := q_brn w2 hr
    by_cases w3 : v = 3
    · have hr := q_brp w3 hr
      unfold f_c3 at hr
      obtain ⟨res, hres, hr⟩ := q_bdi hr
      obtain rfl := Option.some.inj hr
      refine lv_tableIn (off := 428) (tgt := 472) hx hb dL_law_44 (by rw [w3]; decide) (by rw [w3]; decide) (by rw [w3]; decide) (by decide) ?_
      exact kc_3 l hlt E a o (sad x ad) ay oy y az oz z aw ow w b n xs i hx hb hml hown ha hA hz hzs hst hX hbl hbA res hres (by omega) (by omega) hP hD hS hl (fun H locs ls hP hD hS hl => tail _ ad H locs ls hF hP hD hS hl)
    have hr := q_brn w3 hr
    by_cases w4 : v = 4
    · have hr := q_brp w4 hr
      unfold f_c4 at hr
      obtain ⟨res, hres, hr⟩ := q_bdi hr
      obtain rfl := Option.some.inj hr
      refine lv_tableIn (off := 496) (tgt := 540) hx hb dL_law_44 (by rw [w4]; decide) (by rw [w4]; decide) (by rw [w4]; decide) (by decide) ?_
      exact kc_4 l hlt E a o (sad x ad) ay oy y az oz z aw ow w b n xs i hx hb hml hown ha hA hz hzs hst hX hbl hbA res hres (by omega) (by omega) hP hD hS hl (fun H locs ls hP hD hS hl => tail _ ad H locs ls hF hP hD hS hl)
    have hr := q_brn w4 hr
    by_cases w5 : v = 5
    · have hr := q_brp w5 hr
      unfold f_c5 at hr
      obtain ⟨res, hres, hr⟩ := q_bdi hr
      obtain rfl := Option.some.inj hr
      refine lv_tableIn (off := 564) (tgt := 608) hx hb dL_law_44 (by rw [w5]; decide) (by rw [w5]; decide) (by rw [w5]; decide) (by decide) ?_
      exact kc_5 l hlt E a o (sad x ad) ay oy y az oz z aw ow w b n xs i hx hb hml hown ha hA hz hzs hst hX hbl hbA res hres (by omega) (by omega) hP hD hS hl (fun H locs ls hP hD hS hl => tail _ ad H locs ls hF hP hD hS hl)
    have hr := q_brn w5 hr
    by_cases w6 : v = 6
    · have hr := q_brp w6 hr
      unfold f_c6 at hr
      obtain ⟨res, hres, hr⟩ := q_bdi hr
      obtain rfl := Option.some.inj hr
      refine lv_tableIn (off := 648) (tgt := 692) hx hb dL_law_44 (by rw [w6]; decide) (by rw [w6]; decide) (by rw [w6]; decide) (by decide) ?_
      exact kc_6 l hlt E a o (sad x ad) ay oy y az oz z aw ow w b n xs i hx hb hml hown ha hA hz hzs hst hX hbl hbA res hres (by omega) (by omega) hP hD hS hl (fun H locs ls hP hD hS hl => tail _ ad H locs ls hF hP hD hS hl)
    have hr := q_brn w6 hr
    by_cases w7 : v = 7
    · have hr := q_brp w7 hr
      unfold f_c7 at hr
      obtain ⟨res, hres, hr⟩ := q_bdi hr
      obtain rfl := Option.some.inj hr
      refine lv_tableIn (off := 704) (tgt := 748) hx hb dL_law_44 (by rw [w7]; decide) (by rw [w7]; decide) (by rw [w7]; decide) (by decide) ?_
      exact kc_7 l hlt E a o (sad x ad) ay oy y az oz z aw ow w b n xs i hx hb hml hown ha hA hz hzs hst hX hbl hbA res hres (by omega) (by omega) hP hD hS hl (fun H locs ls hP hD hS hl => tail _ ad H locs ls hF hP hD hS hl)
    have hr := q_brn w7 hr
    by_cases w8 : v = 8
    · have hr := q_brp w8 hr
      unfold f_c8 at hr
      obtain ⟨res, hres, hr⟩ := q_bdi hr
      obtain rfl := Option.some.inj hr
      refine lv_tableIn (off := 772) (tgt := 816) hx hb dL_law_44 (by rw [w8]; decide) (by rw [w8]; decide) (by rw [w8]; decide) (by decide) ?_
      exact kc_8 l hlt E a o (sad x ad) ay oy y az oz z aw ow w b n xs i hx hb hml hown ha hA hz hzs hst hX hbl hbA res hres (by omega) (by omega) hP hD hS hl (fun H locs ls hP hD hS hl => tail _ ad H locs ls hF hP hD hS hl)
    have hr := q_brn w8 hr
    by_cases w9 : v = 9
    · have hr := q_brp w9 hr
      unfold f_c9 at hr
      obtain ⟨res, hres, hr⟩ := q_bdi hr
      obtain rfl := Option.some.inj hr
      refine lv_tableIn (off := 828) (tgt := 872) hx hb dL_law_44 (by rw [w9]; decide) (by rw [w9]; decide) (by rw [w9]; decide) (by decide) ?_
      exact kc_9 l hlt E a o (sad x ad) ay oy y az oz z aw ow w b n xs i hx hb hml hown ha hA hz hzs hst hX hbl hbA res hres (by omega) (by omega) hP hD hS hl (fun H locs ls hP hD hS hl => tail _ ad H locs ls hF hP hD hS hl)
    have hr := q_brn w9 hr
    by_cases w10 : v = 10
    · have hr := q_brp w10 hr
      unfold f_c10 at hr
      obtain ⟨res, hres, hr⟩ := q_bdi hr
      obtain rfl := Option.some.inj hr
      refine lv_tableIn (off := 896) (tgt := 940) hx hb dL_law_44 (by rw [w10]; decide) (by rw [w10]; decide) (by rw [w10]; decide) (by decide) ?_
      exact kc_10 l hlt E a o (sad x ad) ay oy y az oz z aw ow w b n xs i hx hb hml hown ha hA hz hzs hst hX hbl hbA res hres (by omega) (by omega) hP hD hS hl (fun H locs ls hP hD hS hl => tail _ ad H locs ls hF hP hD hS hl)
    have hr := q_brn w10 hr
    by_cases w11 : v = 11
    · have hr := q_brp w11 hr
      unfold f_c11 at hr
      obtain ⟨res, hres, hr⟩ := q_bdi hr
      obtain rfl := Option.some.inj hr
      refine lv_tableIn (off := 964) (tgt := 1008) hx hb dL_law_44 (by rw [w11]; decide) (by rw [w11]; decide) (by rw [w11]; decide) (by decide) ?_
      exact kc_11 l hlt E a o (sad x ad) ay oy y az oz z aw ow w b n xs i hx hb hml hown ha hA hz hzs hst hX hbl hbA res hres (by omega) (by omega) hP hD hS hl (fun H locs ls hP hD hS hl => tail _ ad H locs ls hF hP hD hS hl)
    have hr := q_brn w11 hr
    by_cases w12 : v = 12
    · have hr := q_brp w12 hr
      unfold f_c12 at hr
      obtain ⟨res, hres, hr⟩ := q_bdi hr
      obtain rfl := Option.some.inj hr
      refine lv_tableIn (off := 1020) (tgt := 1064) hx hb dL_law_44 (by rw [w12]; decide) (by rw [w12]; decide) (by rw [w12]; decide) (by decide) ?_
      exact kc_12 l hlt E a o (sad x ad) ay oy y az oz z aw ow w b n xs i hx hb hml hown ha hA hz hzs hst hX hbl hbA res hres (by omega) (by omega) hP hD hS hl (fun H locs ls hP hD hS hl => tail _ ad H locs ls hF hP hD hS hl)
    have hr := q_brn w12 hr
    by_cases w13 : v = 13
    · have hr := q_brp w13 hr
      unfold f_c13 at hr
      obtain ⟨res, hres, hr⟩ := q_bdi hr
      obtain rfl := Option.some.inj hr
      refine lv_tableIn (off := 1033) (tgt := 1077) hx hb dL_law_44 (by rw [w13]; decide) (by rw [w13]; decide) (by rw [w13]; decide) (by decide) ?_
      exact kc_13 l hlt E a o (sad x ad) ay oy y az oz z aw ow w b n xs i hx hb hml hown ha hA hz hzs hst hX hbl hbA res hres (by omega) (by omega) hP hD hS hl (fun H locs ls hP hD hS hl => tail _ ad H locs ls hF hP hD hS hl)
    have hr := q_brn w13 hr
    by_cases w14 : v = 14
    · have hr := q_brp w14 hr
      unfold f_c14 at hr
      obtain ⟨res, hres, hr⟩ := q_bdi hr
      obtain rfl := Option.some.inj hr
      refine lv_tableIn (off := 1089) (tgt := 1133) hx hb dL_law_44 (by rw [w14]; decide) (by rw [w14]; decide) (by rw [w14]; decide) (by decide) ?_
      exact kc_14 l hlt E a o (sad x ad) ay oy y az oz z aw ow w b n xs i hx hb hml hown ha hA hz hzs hst hX hbl hbA res hres (by omega) (by omega) hP hD hS hl (fun H locs ls hP hD hS hl => tail _ ad H locs ls hF hP hD hS hl)
    have hr := q_brn w14 hr
    by_cases w15 : v = 15
    · have hr := q_brp w15 hr
      unfold f_c15 at hr
      obtain ⟨res, hres, hr⟩ := q_bdi hr
      obtain rfl := Option.some.inj hr
      refine lv_tableIn (off := 1145) (tgt := 1189) hx hb dL_law_44 (by rw [w15]; decide) (by rw [w15]; decide) (by rw [w15]; decide) (by decide) ?_
      exact kc_15 l hlt E a o (sad x ad) ay oy y az oz z aw ow w b n xs i hx hb hml hown ha hA hz hzs hst hX hbl hbA res hres (by omega) (by omega) hP hD hS hl (fun H locs ls hP hD hS hl => tail _ ad H locs ls hF hP hD hS hl)
    have hr := q_brn w15 hr
    by_cases w16 : v = 16
    · have hr := q_brp w16 hr
      unfold f_c16 at hr
      obtain ⟨res, hres, hr⟩ := q_bdi hr
      obtain rfl := Option.some.inj hr
      refine lv_tableIn (off := 1201) (tgt := 1245) hx hb dL_law_44 (by rw [w16]; decide) (by rw [w16]; decide) (by rw [w16]; decide) (by decide) ?_
      exact kc_16 l hlt E a o (sad x ad) ay oy y az oz z aw ow w b n xs i hx hb hml hown ha hA hz hzs hst hX hbl hbA res hres (by omega) (by omega) hP hD hS hl (fun H locs ls hP hD hS hl => tail _ ad H locs ls hF hP hD hS hl)
    have hr := q_brn w16 hr
    by_cases w17 : v = 17
    · have hr := q_brp w17 hr
      unfold f_c17 at hr
      obtain ⟨res, hres, hr⟩ := q_bdi hr
      obtain rfl := Option.some.inj hr
      refine lv_tableIn (off := 1257) (tgt := 1301) hx hb dL_law_44 (by rw [w17]; decide) (by rw [w17]; decide) (by rw [w17]; decide) (by decide) ?_
      exact kc_17 l hlt E a o (sad x ad) ay oy y az oz z aw ow w b n xs i hx hb hml hown ha hA hz hzs hst hX hbl hbA res hres (by omega) (by omega) hP hD hS hl (fun H locs ls hP hD hS hl => tail _ ad H locs ls hF hP hD hS hl)
    have hr := q_brn w17 hr
    by_cases w18 : v = 18
    · have hr := q_brp w18 hr
      unfold f_c18 at hr
      obtain ⟨res, hres, hr⟩ := q_bdi hr
      obtain rfl := Option.some.inj hr
      refine lv_tableIn (off := 1320) (tgt := 1364) hx hb dL_law_44 (by rw [w18]; decide) (by rw [w18]; decide) (by rw [w18]; decide) (by decide) ?_
      exact kc_18 l hlt E a o (sad x ad) ay oy y az oz z aw ow w b n xs i hx hb hml hown ha hA hz hzs hst hX hbl hbA res hres (by omega) (by omega) hP hD hS hl (fun H locs ls hP hD hS hl => tail _ ad H locs ls hF hP hD hS hl)
    have hr := q_brn w18 hr
    by_cases w19 : v = 19
    · have hr := q_brp w19 hr
      unfold f_c19 at hr
      obtain ⟨res, hres, hr⟩ := q_bdi hr
      obtain rfl := Option.some.inj hr
      refine lv_tableIn (off := 1333) (tgt := 1377) hx hb dL_law_44 (by rw [w19]; decide) (by rw [w19]; decide) (by rw [w19]; decide) (by decide) ?_
      exact kc_19 l hlt E a o (sad x ad) ay oy y az oz z aw ow w b n xs i hx hb hml hown ha hA hz hzs hst hX hbl hbA res hres (by omega) (by omega) hP hD hS hl (fun H locs ls hP hD hS hl => tail _ ad H locs ls hF hP hD hS hl)
    have hr := q_brn w19 hr
    by_cases w20 : v = 20
    · have hr := q_brp w20 hr
      unfold f_c20 at hr
      obtain ⟨res, hres, hr⟩ := q_bdi hr
      obtain rfl := Option.some.inj hr
      refine lv_tableIn (off := 1389) (tgt := 1433) hx hb dL_law_44 (by rw [w20]; decide) (by rw [w20]; decide) (by rw [w20]; decide) (by decide) ?_
      exact kc_20 l hlt E a o (sad x ad) ay oy y az oz z aw ow w b n xs i hx hb hml hown ha hA hz hzs hst hX hbl hbA res hres (by omega) (by omega) hP hD hS hl (fun H locs ls hP hD hS hl => tail _ ad H locs ls hF hP hD hS hl)
    have hr := q_brn w20 hr
    by_cases w21 : v = 21
    · have hr := q_brp w21 hr
      unfold f_c21 at hr
      obtain ⟨res, hres, hr⟩ := q_bdi hr
      obtain rfl := Option.some.inj hr
      refine lv_tableIn (off := 1445) (tgt := 1489) hx hb dL_law_44 (by rw [w21]; decide) (by rw [w21]; decide) (by rw [w21]; decide) (by decide) ?_
      exact kc_21 l hlt E a o (sad x ad) ay oy y az oz z aw ow w b n xs i hx hb hml hown ha hA hz hzs hst hX hbl hbA res hres (by omega) (by omega) hP hD hS hl (fun H locs ls hP hD hS hl => tail _ ad H locs ls hF hP hD hS hl)
    have hr := q_brn w21 hr
    by_cases w22 : v = 22
    · have hr := q_brp w22 hr
      unfold f_c22 at hr
      obtain ⟨res, hres, hr⟩ := q_bdi hr
      obtain rfl := Option.some.inj hr
      refine lv_tableIn (off := 1501) (tgt := 1545) hx hb dL_law_44 (by rw [w22]; decide) (by rw [w22]; decide) (by rw [w22]; decide) (by decide) ?_
      exact kc_22 l hlt E a o (sad x ad) ay oy y az oz z aw ow w b n xs i hx hb hml hown ha hA hz hzs hst hX hbl hbA res hres (by omega) (by omega) hP hD hS hl (fun H locs ls hP hD hS hl => tail _ ad H locs ls hF hP hD hS hl)
    have hr := q_brn w22 hr
    by_cases w23 : v = 23
    · have hr := q_brp w23 hr
      unfold f_c23 at hr
      obtain ⟨res, hres, hr⟩ := q_bdi hr
      obtain rfl := Option.some.inj hr
      refine lv_tableIn (off := 1566) (tgt := 1610) hx hb dL_law_44 (by rw [w23]; decide) (by rw [w23]; decide) (by rw [w23]; decide) (by decide) ?_
      exact kc_23 l hlt E a o (sad x ad) ay oy y az oz z aw ow w b n xs i hx hb hml hown ha hA hz hzs hst hX hbl hbA res hres (by omega) (by omega) hP hD hS hl (fun H locs ls hP hD hS hl => tail _ ad H locs ls hF hP hD hS hl)
    have hr := q_brn w23 hr
    by_cases w24 : v = 24
    · have hr := q_brp w24 hr
      unfold f_c24 at hr
      obtain ⟨res, hres, hr⟩ := q_bdi hr
      obtain rfl := Option.some.inj hr
      refine lv_tableIn (off := 1632) (tgt := 1676) hx hb dL_law_44 (by rw [w24]; decide) (by rw [w24]; decide) (by rw [w24]; decide) (by decide) ?_
      exact kc_24 l hlt E a o (sad x ad) ay oy y az oz z aw ow w b n xs i hx hb hml hown ha hA hz hzs hst hX hbl hbA res hres (by omega) (by omega) hP hD hS hl (fun H locs ls hP hD hS hl => tail _ ad H locs ls hF hP hD hS hl)
    have hr := q_brn w24 hr
    by_cases w25 : v = 25
    · have hr := q_brp w25 hr
      unfold f_c25 at hr
      obtain ⟨res, hres, hr⟩ := q_bdi hr
      obtain rfl := Option.some.inj hr
      refine lv_tableIn (off := 1645) (tgt := 1689) hx hb dL_law_44 (by rw [w25]; decide) (by rw [w25]; decide) (by rw [w25]; decide) (by decide) ?_
      exact kc_25 l hlt E a o (sad x ad) ay oy y az oz z aw ow w b n xs i hx hb hml hown ha hA hz hzs hst hX hbl hbA res hres (by omega) (by omega) hP hD hS hl (fun H locs ls hP hD hS hl => tail _ ad H locs ls hF hP hD hS hl)
    have hr := q_brn w25 hr
    by_cases w26 : v = 26
    · have hr := q_brp w26 hr
      unfold f_c26 at hr
      obtain ⟨res, hres, hr⟩ := q_bdi hr
      obtain rfl := Option.some.inj hr
      refine lv_tableIn (off := 1658) (tgt := 1702) hx hb dL_law_44 (by rw [w26]; decide) (by rw [w26]; decide) (by rw [w26]; decide) (by decide) ?_
      exact kc_26 l hlt E a o (sad x ad) ay oy y az oz z aw ow w b n xs i hx hb hml hown ha hA hz hzs hst hX hbl hbA res hres (by omega) (by omega) hP hD hS hl (fun H locs ls hP hD hS hl => tail _ ad H locs ls hF hP hD hS hl)
    have hr := q_brn w26 hr
    by_cases w27 : v = 27
    · have hr := q_brp w27 hr
      unfold f_c27 at hr
      obtain ⟨res, hres, hr⟩ := q_bdi hr
      obtain rfl := Option.some.inj hr
      refine lv_tableIn (off := 1671) (tgt := 1715) hx hb dL_law_44 (by rw [w27]; decide) (by rw [w27]; decide) (by rw [w27]; decide) (by decide) ?_
      exact kc_27 l hlt E a o (sad x ad) ay oy y az oz z aw ow w b n xs i hx hb hml hown ha hA hz hzs hst hX hbl hbA res hres (by omega) (by omega) hP hD hS hl (fun H locs ls hP hD hS hl => tail _ ad H locs ls hF hP hD hS hl)
    have hr := q_brn w27 hr
    by_cases w28 : v = 28
    · have hr := q_brp w28 hr
      unfold f_c28 at hr
      obtain ⟨res, hres, hr⟩ := q_bdi hr
      obtain rfl := Option.some.inj hr
      refine lv_tableIn (off := 1734) (tgt := 1778) hx hb dL_law_44 (by rw [w28]; decide) (by rw [w28]; decide) (by rw [w28]; decide) (by decide) ?_
      exact kc_28 l hlt E a o (sad x ad) ay oy y az oz z aw ow w b n xs i hx hb hml hown ha hA hz hzs hst hX hbl hbA res hres (by omega) (by omega) hP hD hS hl (fun H locs ls hP hD hS hl => tail _ ad H locs ls hF hP hD hS hl)
    have hr := q_brn w28 hr
    by_cases w29 : v = 29
    · have hr := q_brp w29 hr
      unfold f_c29 at hr
      obtain ⟨res, hres, hr⟩ := q_bdi hr
      obtain rfl := Option.some.inj hr
      refine lv_tableIn (off := 1775) (tgt := 1819) hx hb dL_law_44 (by rw [w29]; decide) (by rw [w29]; decide) (by rw [w29]; decide) (by decide) ?_
      exact kc_29 l hlt E a o (sad x ad) ay oy y az oz z aw ow w b n xs i hx hb hml hown ha hA hz hzs hst hX hbl hbA res hres (by omega) (by omega) hP hD hS hl (fun H locs ls hP hD hS hl => tail _ ad H locs ls hF hP hD hS hl)
    have hr := q_brn w29 hr
    by_cases w30 : v = 30
    · have hr := q_brp w30 hr
      unfold f_c30 at hr
      obtain ⟨res, hres, hr⟩ := q_bdi hr
      obtain rfl := Option.some.inj hr
      refine lv_tableIn (off := 1831) (tgt := 1875) hx hb dL_law_44 (by rw [w30]; decide) (by rw [w30]; decide) (by rw [w30]; decide) (by decide) ?_
      exact kc_30 l hlt E a o (sad x ad) ay oy y az oz z aw ow w b n xs i hx hb hml hown ha hA hz hzs hst hX hbl hbA res hres (by omega) (by omega) hP hD hS hl (fun H locs ls hP hD hS hl => tail _ ad H locs ls hF hP hD hS hl)
    have hr := q_brn w30 hr
    by_cases w31 : v = 31
    · have hr := q_brp w31 hr
      unfold f_c31 at hr
      obtain ⟨res, hres, hr⟩ := q_bdi hr
      obtain rfl := Option.some.inj hr
      refine lv_tableIn (off := 1899) (tgt := 1943) hx hb dL_law_44 (by rw [w31]; decide) (by rw [w31]; decide) (by rw [w31]; decide) (by decide) ?_
      exact kc_31 l hlt E a o (sad x ad) ay oy y az oz z aw ow w b n xs i hx hb hml hown ha hA hz hzs hst hX hbl hbA res hres (by omega) (by omega) hP hD hS hl (fun H locs ls hP hD hS hl => tail _ ad H locs ls hF hP hD hS hl)
    have hr := q_brn w31 hr
    by_cases w32 : v = 32
    · have hr := q_brp w32 hr
      unfold f_c32 at hr
      obtain ⟨res, hres, hr⟩ := q_bdi hr
      obtain rfl := Option.some.inj hr
      refine lv_tableIn (off := 1955) (tgt := 1999) hx hb dL_law_44 (by rw [w32]; decide) (by rw [w32]; decide) (by rw [w32]; decide) (by decide) ?_
      exact kc_32 l hlt E a o (sad x ad) ay oy y az oz z aw ow w b n xs i hx hb hml hown ha hA hz hzs hst hX hbl hbA res hres (by omega) (by omega) hP hD hS hl (fun H locs ls hP hD hS hl => tail _ ad H locs ls hF hP hD hS hl)
    have hr := q_brn w32 hr
    by_cases w33 : v = 33
    · have hr := q_brp w33 hr
      unfold f_c33 at hr
      obtain ⟨res, hres, hr⟩ := q_bdi hr
      obtain rfl := Option.some.inj hr
      refine lv_tableIn (off := 2023) (tgt := 2067) hx hb dL_law_44 (by rw [w33]; decide) (by rw [w33]; decide) (by rw [w33]; decide) (by decide) ?_
      exact kc_33 l hlt E a o (sad x ad) ay oy y az oz z aw ow w b n xs i hx hb hml hown ha hA hz hzs hst hX hbl hbA res hres (by omega) (by omega) hP hD hS hl (fun H locs ls hP hD hS hl => tail _ ad H locs ls hF hP hD hS hl)
    have hr := q_brn w33 hr
    by_cases w34 : v = 34
    · have hr := q_brp w34 hr
      unfold f_c34 at hr
      obtain ⟨res, hres, hr⟩ := q_bdi hr
      obtain rfl := Option.some.inj hr
      refine lv_tableIn (off := 2036) (tgt := 2080) hx hb dL_law_44 (by rw [w34]; decide) (by rw [w34]; decide) (by rw [w34]; decide) (by decide) ?_
      exact kc_34 l hlt E a o (sad x ad) ay oy y az oz z aw ow w b n xs i hx hb hml hown ha hA hz hzs hst hX hbl hbA res hres (by omega) (by omega) hP hD hS hl (fun H locs ls hP hD hS hl => tail _ ad H locs ls hF hP hD hS hl)
    have hr := q_brn w34 hr
    by_cases w35 : v = 35
    · have hr := q_brp w35 hr
      unfold f_c35 at hr
      obtain ⟨res, hres, hr⟩ := q_bdi hr
      obtain rfl := Option.some.inj hr
      refine lv_tableIn (off := 2092) (tgt := 2136) hx hb dL_law_44 (by rw [w35]; decide) (by rw [w35]; decide) (by rw [w35]; decide) (by decide) ?_
      exact kc_35 l hlt E a o (sad x ad) ay oy y az oz z aw ow w b n xs i hx hb hml hown ha hA hz hzs hst hX hbl hbA res hres (by omega) (by omega) hP hD hS hl (fun H locs ls hP hD hS hl => tail _ ad H locs ls hF hP hD hS hl)
    have hr := q_brn w35 hr
    by_cases w36 : v = 36
    · have hr := q_brp w36 hr
      unfold f_c36 at hr
      obtain ⟨res, hres, hr⟩ := q_bdi hr
      obtain rfl := Option.some.inj hr
      refine lv_tableIn (off := 2148) (tgt := 2192) hx hb dL_law_44 (by rw [w36]; decide) (by rw [w36]; decide) (by rw [w36]; decide) (by decide) ?_
      exact kc_36 l hlt E a o (sad x ad) ay oy y az oz z aw ow w b n xs i hx hb hml hown ha hA hz hzs hst hX hbl hbA res hres (by omega) (by omega) hP hD hS hl (fun H locs ls hP hD hS hl => tail _ ad H locs ls hF hP hD hS hl)
    have hr := q_brn w36 hr
    by_cases w37 : v = 37
    · have hr := q_brp w37 hr
      unfold f_c37 at hr
      obtain ⟨res, hres, hr⟩ := q_bdi hr
      obtain rfl := Option.some.inj hr
      refine lv_tableIn (off := 2173) (tgt := 2217) hx hb dL_law_44 (by rw [w37]; decide) (by rw [w37]; decide) (by rw [w37]; decide) (by decide) ?_
      exact kc_37 l hlt E a o (sad x ad) ay oy y az oz z aw ow w b n xs i hx hb hml hown ha hA hz hzs hst hX hbl hbA res hres (by omega) (by omega) hP hD hS hl (fun H locs ls hP hD hS hl => tail _ ad H locs ls hF hP hD hS hl)
    have hr := q_brn w37 hr
    by_cases w38 : v = 38
    · have hr := q_brp w38 hr
      unfold f_c38 at hr
      obtain ⟨res, hres, hr⟩ := q_bdi hr
      obtain rfl := Option.some.inj hr
      refine lv_tableIn (off := 2241) (tgt := 2285) hx hb dL_law_44 (by rw [w38]; decide) (by rw [w38]; decide) (by rw [w38]; decide) (by decide) ?_
      exact kc_38 l hlt E a o (sad x ad) ay oy y az oz z aw ow w b n xs i hx hb hml hown ha hA hz hzs hst hX hbl hbA res hres (by omega) (by omega) hP hD hS hl (fun H locs ls hP hD hS hl => tail _ ad H locs ls hF hP hD hS hl)
    have hr := q_brn w38 hr
    by_cases w39 : v = 39
    · have hr := q_brp w39 hr
      unfold f_c39 at hr
      obtain ⟨res, hres, hr⟩ := q_bdi hr
      obtain rfl := Option.some.inj hr
      refine lv_tableIn (off := 2266) (tgt := 2310) hx hb dL_law_44 (by rw [w39]; decide) (by rw [w39]; decide) (by rw [w39]; decide) (by decide) ?_
      exact kc_39 l hlt E a o (sad x ad) ay oy y az oz z aw ow w b n xs i hx hb hml hown ha hA hz hzs hst hX hbl hbA res hres (by omega) (by omega) hP hD hS hl (fun H locs ls hP hD hS hl => tail _ ad H locs ls hF hP hD hS hl)
    have hr := q_brn w39 hr
    by_cases w40 : v = 40
    · have hr := q_brp w40 hr
      unfold f_c40 at hr
      obtain ⟨res, hres, hr⟩ := q_bdi hr
      obtain rfl := Option.some.inj hr
      refine lv_tableIn (off := 2291) (tgt := 2335) hx hb dL_law_44 (by rw [w40]; decide) (by rw [w40]; decide) (by rw [w40]; decide) (by decide) ?_
      exact kc_40 l hlt E a o (sad x ad) ay oy y az oz z aw ow w b n xs i hx hb hml hown ha hA hz hzs hst hX hbl hbA res hres (by omega) (by omega) hP hD hS hl (fun H locs ls hP hD hS hl => tail _ ad H locs ls hF hP hD hS hl)
    have hr := q_brn w40 hr
    by_cases w41 : v = 41
    · have hr := q_brp w41 hr
      unfold f_c41 at hr
      obtain ⟨res, hres, hr⟩ := q_bdi hr
      obtain rfl := Option.some.inj hr
      refine lv_tableIn (off := 2316) (tgt := 2360) hx hb dL_law_44 (by rw [w41]; decide) (by rw [w41]; decide) (by rw [w41]; decide) (by decide) ?_
      exact kc_41 l hlt E a o (sad x ad) ay oy y az oz z aw ow w b n xs i hx hb hml hown ha hA hz hzs hst hX hbl hbA res hres (by omega) (by omega) hP hD hS hl (fun H locs ls hP hD hS hl => tail _ ad H locs ls hF hP hD hS hl)
    have hr := q_brn w41 hr
    by_cases w42 : v = 42
    · have hr := q_brp w42 hr
      unfold f_c42 at hr
      obtain ⟨res, hres, hr⟩ := q_bdi hr
      obtain rfl := Option.some.inj hr
      refine lv_tableIn (off := 2360) (tgt := 2404) hx hb dL_law_44 (by rw [w42]; decide) (by rw [w42]; decide) (by rw [w42]; decide) (by decide) ?_
      exact kc_42 l hlt E a o (sad x ad) ay oy y az oz z aw ow w b n xs i hx hb hml hown ha hA hz hzs hst hX hbl hbA res hres (by omega) (by omega) hP hD hS hl (fun H locs ls hP hD hS hl => tail _ ad H locs ls hF hP hD hS hl)
    have hr := q_brn w42 hr
    by_cases w43 : v = 43
    · have hr := q_brp w43 hr
      unfold f_c43 at hr
      obtain ⟨res, hres, hr⟩ := q_bdi hr
      obtain rfl := Option.some.inj hr
      refine lv_tableIn (off := 2374) (tgt := 2418) hx hb dL_law_44 (by rw [w43]; decide) (by rw [w43]; decide) (by rw [w43]; decide) (by decide) ?_
      exact kc_43 l hlt E a o (sad x ad) ay oy y az oz z aw ow w b n xs i hx hb hml hown ha hA hz hzs hst hX hbl hbA res hres (by omega) (by omega) hP hD hS hl (fun H locs ls hP hD hS hl => tail _ ad H locs ls hF hP hD hS hl)
    have hr := q_brn w43 hr
    by_cases w44 : v = 44
    · have hr := q_brp w44 hr
      unfold f_c44 at hr
      obtain ⟨res, hres, hr⟩ := q_bdi hr
      obtain rfl := Option.some.inj hr
      refine lv_tableIn (off := 2418) (tgt := 2462) hx hb dL_law_44 (by rw [w44]; decide) (by rw [w44]; decide) (by rw [w44]; decide) (by decide) ?_
      exact kc_44 l hlt E a o (sad x ad) ay oy y az oz z aw ow w b n xs i hx hb hml hown ha hA hz hzs hst hX hbl hbA res hres (by omega) (by omega) hP hD hS hl (fun H locs ls hP hD hS hl => tail _ ad H locs ls hF hP hD hS hl)
    have hr := q_brn w44 hr
    by_cases w45 : v = 45
    · have hr := q_brp w45 hr
      unfold f_c45 at hr
      obtain ⟨res, hres, hr⟩ := q_bdi hr
      obtain rfl := Option.some.inj hr
      refine lv_tableIn (off := 2431) (tgt := 2475) hx hb dL_law_44 (by rw [w45]; decide) (by rw [w45]; decide) (by rw [w45]; decide) (by decide) ?_
      exact kc_45 l hlt E a o (sad x ad) ay oy y az oz z aw ow w b n xs i hx hb hml hown ha hA hz hzs hst hX hbl hbA res hres (by omega) (by omega) hP hD hS hl (fun H locs ls hP hD hS hl => tail _ ad H locs ls hF hP hD hS hl)
    have hr := q_brn w45 hr
    by_cases w46 : v = 46
    · have hr := q_brp w46 hr
      unfold f_c46 at hr
      obtain ⟨res, hres, hr⟩ := q_bdi hr
      obtain rfl := Option.some.inj hr
      refine lv_tableIn (off := 2489) (tgt := 2533) hx hb dL_law_44 (by rw [w46]; decide) (by rw [w46]; decide) (by rw [w46]; decide) (by decide) ?_
      exact kc_46 l hlt E a o (sad x ad) ay oy y az oz z aw ow w b n xs i hx hb hml hown ha hA hz hzs hst hX hbl hbA res hres (by omega) (by omega) hP hD hS hl (fun H locs ls hP hD hS hl => tail _ ad H locs ls hF hP hD hS hl)
    have hr := q_brn w46 hr
    by_cases w47 : v = 47
    · have hr := q_brp w47 hr
      unfold f_c47 at hr
      obtain ⟨res, hres, hr⟩ := q_bdi hr
      obtain rfl := Option.some.inj hr
      refine lv_tableIn (off := 2533) (tgt := 2577) hx hb dL_law_44 (by rw [w47]; decide) (by rw [w47]; decide) (by rw [w47]; decide) (by decide) ?_
      exact kc_47 l hlt E a o (sad x ad) ay oy y az oz z aw ow w b n xs i hx hb hml hown ha hA hz hzs hst hX hbl hbA res hres (by omega) (by omega) hP hD hS hl (fun H locs ls hP hD hS hl => tail _ ad H locs ls hF hP hD hS hl)
    have hr := q_brn w47 hr
    by_cases w48 : v = 48
    · have hr := q_brp w48 hr
      unfold f_c48 at hr
      obtain ⟨res, hres, hr⟩ := q_bdi hr
      obtain rfl := Option.some.inj hr
      refine lv_tableIn (off := 2577) (tgt := 2621) hx hb dL_law_44 (by rw [w48]; decide) (by rw [w48]; decide) (by rw [w48]; decide) (by decide) ?_
      exact kc_48 l hlt E a o (sad x ad) ay oy y az oz z aw ow w b n xs i hx hb hml hown ha hA hz hzs hst hX hbl hbA res hres (by omega) (by omega) hP hD hS hl (fun H locs ls hP hD hS hl => tail _ ad H locs ls hF hP hD hS hl)
    have hr := q_brn w48 hr
    by_cases w49 : v = 49
    · have hr := q_brp w49 hr
      unfold f_c49 at hr
      obtain ⟨res, hres, hr⟩ := q_bdi hr
      obtain rfl := Option.some.inj hr
      refine lv_tableIn (off := 2621) (tgt := 2665) hx hb dL_law_44 (by rw [w49]; decide) (by rw [w49]; decide) (by rw [w49]; decide) (by decide) ?_
      exact kc_49 l hlt E a o (sad x ad) ay oy y az oz z aw ow w b n xs i hx hb hml hown ha hA hz hzs hst hX hbl hbA res hres (by omega) (by omega) hP hD hS hl (fun ad H locs ls hP hD hS hl => tail _ ad H locs ls hF hP hD hS hl)
    have hr := q_brn w49 hr
    by_cases w50 : v = 50
    · have hr := q_brp w50 hr
      unfold f_c50 at hr
      obtain ⟨res, hres, hr⟩ := q_bdi hr
      obtain rfl := Option.some.inj hr
      refine lv_tableIn (off := 2677) (tgt := 2721) hx hb dL_law_44 (by rw [w50]; decide) (by rw [w50]; decide) (by rw [w50]; decide) (by decide) ?_
      exact kc_50 l hlt E a o (sad x ad) ay oy y az oz z aw ow w b n xs i hx hb hml hown ha hA hz hzs hst hX hbl hbA res hres (by omega) (by omega) hP hD hS hl (fun ad H locs ls hP hD hS hl => tail _ ad H locs ls hF hP hD hS hl)
    have hr := q_brn w50 hr
    by_cases w51 : v = 51
    · have hr := q_brp w51 hr
      unfold f_c51 at hr
      obtain ⟨res, hres, hr⟩ := q_bdi hr
      obtain rfl := Option.some.inj hr
      refine lv_tableIn (off := 2702) (tgt := 2746) hx hb dL_law_44 (by rw [w51]; decide) (by rw [w51]; decide) (by rw [w51]; decide) (by decide) ?_
      exact kc_51 l hlt E a o (sad x ad) ay oy y az oz z aw ow w b n xs i hx hb hml hown ha hA hz hzs hst hX hbl hbA res hres (by omega) (by omega) hP hD hS hl (fun H locs ls hP hD hS hl => tail _ ad H locs ls hF hP hD hS hl)
    have hr := q_brn w51 hr
    by_cases w52 : v = 52
    · have hr := q_brp w52 hr
      unfold f_c52 at hr
      obtain ⟨res, hres, hr⟩ := q_bdi hr
      obtain rfl := Option.some.inj hr
      refine lv_tableIn (off := 2758) (tgt := 2802) hx hb dL_law_44 (by rw [w52]; decide) (by rw [w52]; decide) (by rw [w52]; decide) (by decide) ?_
      exact kc_52 l hlt E a o (sad x ad) ay oy y az oz z aw ow w b n xs i hx hb hml hown ha hA hz hzs hst hX hbl hbA res hres (by omega) (by omega) hP hD hS hl (fun H locs ls hP hD hS hl => tail _ ad H locs ls hF hP hD hS hl)
    have hr := q_brn w52 hr
    by_cases w53 : v = 53
    · have hr := q_brp w53 hr
      unfold f_c53 at hr
      obtain ⟨res, hres, hr⟩ := q_bdi hr
      obtain rfl := Option.some.inj hr
      refine lv_tableIn (off := 2802) (tgt := 2846) hx hb dL_law_44 (by rw [w53]; decide) (by rw [w53]; decide) (by rw [w53]; decide) (by decide) ?_
      exact kc_53 l hlt E a o (sad x ad) ay oy y az oz z aw ow w b n xs i hx hb hml hown ha hA hz hzs hst hX hbl hbA res hres (by omega) (by omega) hP hD hS hl (fun H locs ls hP hD hS hl => tail _ ad H locs ls hF hP hD hS hl)
    have hr := q_brn w53 hr
    by_cases w54 : v = 54
    · have hr := q_brp w54 hr
      unfold f_c54 at hr
      obtain ⟨res, hres, hr⟩ := q_bdi hr
      obtain rfl := Option.some.inj hr
      refine lv_tableIn (off := 2813) (tgt := 2857) hx hb dL_law_44 (by rw [w54]; decide) (by rw [w54]; decide) (by rw [w54]; decide) (by decide) ?_
      exact kc_54 l hlt E a o (sad x ad) ay oy y az oz z aw ow w b n xs i hx hb hml hown ha hA hz hzs hst hX hbl hbA res hres (by omega) (by omega) hP hD hS hl (fun H locs ls hP hD hS hl => tail _ ad H locs ls hF hP hD hS hl)
    have hr := q_brn w54 hr
    obtain rfl := Option.some.inj hr
    refine lv_tableOut (tgt := 2881) hx hb dL_law_44 (sw_out 0 54 [0, 1, 2, 3, 4, 5, 6, 7, 8, 9, 10, 11, 12, 13, 14, 15, 16, 17, 18, 19, 20, 21, 22, 23, 24, 25, 26, 27, 28, 29, 30, 31, 32, 33, 34, 35, 36, 37, 38, 39, 40, 41, 42, 43, 44, 45, 46, 47, 48, 49, 50, 51, 52, 53, 54] (List.forall_mem_cons.mpr ⟨w0, (List.forall_mem_cons.mpr ⟨w1, (List.forall_mem_cons.mpr ⟨w2, (List.forall_mem_cons.mpr ⟨w3, (List.forall_mem_cons.mpr ⟨w4, (List.forall_mem_cons.mpr ⟨w5, (List.forall_mem_cons.mpr ⟨w6, (List.forall_mem_cons.mpr ⟨w7, (List.forall_mem_cons.mpr ⟨w8, (List.forall_mem_cons.mpr ⟨w9, (List.forall_mem_cons.mpr ⟨w10, (List.forall_mem_cons.mpr ⟨w11, (List.forall_mem_cons.mpr ⟨w12, (List.forall_mem_cons.mpr ⟨w13, (List.forall_mem_cons.mpr ⟨w14, (List.forall_mem_cons.mpr ⟨w15, (List.forall_mem_cons.mpr ⟨w16, (List.forall_mem_cons.mpr ⟨w17, (List.forall_mem_cons.mpr ⟨w18, (List.forall_mem_cons.mpr ⟨w19, (List.forall_mem_cons.mpr ⟨w20, (List.forall_mem_cons.mpr ⟨w21, (List.forall_mem_cons.mpr ⟨w22, (List.forall_mem_cons.mpr ⟨w23, (List.forall_mem_cons.mpr ⟨w24, (List.forall_mem_cons.mpr ⟨w25, (List.forall_mem_cons.mpr ⟨w26, (List.forall_mem_cons.mpr ⟨w27, (List.forall_mem_cons.mpr ⟨w28, (List.forall_mem_cons.mpr ⟨w29, (List.forall_mem_cons.mpr ⟨w30, (List.forall_mem_cons.mpr ⟨w31, (List.forall_mem_cons.mpr ⟨w32, (List.forall_mem_cons.mpr ⟨w33, (List.forall_mem_cons.mpr ⟨w34, (List.forall_mem_cons.mpr ⟨w35, (List.forall_mem_cons.mpr ⟨w36, (List.forall_mem_cons.mpr ⟨w37, (List.forall_mem_cons.mpr ⟨w38, (List.forall_mem_cons.mpr ⟨w39, (List.forall_mem_cons.mpr ⟨w40, (List.forall_mem_cons.mpr ⟨w41, (List.forall_mem_cons.mpr ⟨w42, (List.forall_mem_cons.mpr ⟨w43, (List.forall_mem_cons.mpr ⟨w44, (List.forall_mem_cons.mpr ⟨w45, (List.forall_mem_cons.mpr ⟨w46, (List.forall_mem_cons.mpr ⟨w47, (List.forall_mem_cons.mpr ⟨w48, (List.forall_mem_cons.mpr ⟨w49, (List.forall_mem_cons.mpr ⟨w50, (List.forall_mem_cons.mpr ⟨w51, (List.forall_mem_cons.mpr ⟨w52, (List.forall_mem_cons.mpr ⟨w53, (List.forall_mem_cons.mpr ⟨w54, (fun _ h => nomatch h)⟩)⟩)⟩)⟩)⟩)⟩)⟩)⟩)⟩)⟩)⟩)⟩)⟩)⟩)⟩)⟩)⟩)⟩)⟩)⟩)⟩)⟩)⟩)⟩)⟩)⟩)⟩)⟩)⟩)⟩)⟩)⟩)⟩)⟩)⟩)⟩)⟩)⟩)⟩)⟩)⟩)⟩)⟩)⟩)⟩)⟩)⟩)⟩)⟩)⟩)⟩)⟩)⟩)⟩)⟩) (by decide) (by decide)) (by decide) ?_
    refine W.widen (k := cv + 60) (n := sv + 5100) (by omega) (by omega) ?_
    exact tail (x, y, z, w) ad H locs ls hF hP hD hS hl
