def iI (z : Int) : Int32 := Int32.ofInt z
def aI (f : Int → Int) : Nat → Int32 := fun k => iI (f k)
def zu (f : Int → Int) (i v : Int) : Int → Int := fun t => if t = i then v else f t
def bz (p : Prop) [Decidable p] : Int := if p then 1 else 0
theorem iI_to {z : Int} (h : -2147483648 ≤ z ∧ z < 2147483648) : (iI z).toInt = z := by
  show (Int32.ofInt z).toInt = z
  rw [Int32.toInt_ofInt, show Int32.size = 4294967296 from rfl]
  exact Int.bmod_eq_of_le (by omega) (by omega)
theorem iI_of (x : Int32) : x = iI x.toInt := (Int32.ofInt_toInt x).symm
theorem iI_rng (x : Int32) : -2147483648 ≤ x.toInt ∧ x.toInt < 2147483648 := by
  have h1 := Int32.le_toInt x
  have h2 := Int32.toInt_lt x
  omega
theorem iI_add (a b : Int) : iI a + iI b = iI (a + b) := (Int32.ofInt_add a b).symm
theorem iI_sub (a b : Int) : iI a - iI b = iI (a - b) := (Int32.ofInt_sub a b).symm
theorem iI_mul (a b : Int) : iI a * iI b = iI (a * b) := (Int32.ofInt_mul a b).symm
theorem iI_neg (a : Int) : -(iI a) = iI (-a) := (Int32.ofInt_neg a).symm
theorem iI_nI (n : Nat) : nI n = iI (n : Int) := rfl
theorem iI_lt {a b : Int} (h : (-2147483648 ≤ a ∧ a < 2147483648) ∧ -2147483648 ≤ b ∧ b < 2147483648) : iI a < iI b ↔ a < b := by
  rw [Int32.lt_iff_toInt_lt, iI_to h.1, iI_to h.2]
theorem iI_le {a b : Int} (h : (-2147483648 ≤ a ∧ a < 2147483648) ∧ -2147483648 ≤ b ∧ b < 2147483648) : iI a ≤ iI b ↔ a ≤ b := by
  rw [Int32.le_iff_toInt_le, iI_to h.1, iI_to h.2]
theorem iI_eq {a b : Int} (h : (-2147483648 ≤ a ∧ a < 2147483648) ∧ -2147483648 ≤ b ∧ b < 2147483648) : iI a = iI b ↔ a = b := by
  rw [← Int32.toInt_inj, iI_to h.1, iI_to h.2]
theorem iI_cl {a : Int} (h : 0 ≤ a ∧ a < 2147483648) : (iI a).toNatClampNeg = a.toNat := by
  show (iI a).toInt.toNat = a.toNat
  rw [iI_to (by omega)]
theorem iI_in {a : Int} {n : Nat} (h : 0 ≤ a ∧ a < n ∧ a < 2147483648) : q_in (iI a) n := by
  rintro (h1 | h1)
  · rw [show (0 : Int32) = iI 0 from rfl, iI_lt (by omega)] at h1
    omega
  · rw [iI_cl (by omega)] at h1
    omega
theorem aI_rd {f : Int → Int} {z : Int} (h : 0 ≤ z ∧ z < 2147483648) : aI f (iI z).toNatClampNeg = iI (f z) := by
  rw [iI_cl h]
  show iI (f ((z.toNat : Nat) : Int)) = _
  rw [Int.toNat_of_nonneg h.1]
theorem aI_wr {f : Int → Int} {z v : Int} (h : 0 ≤ z ∧ z < 2147483648) : upd (aI f) (iI z).toNatClampNeg (iI v) = aI (zu f z v) := by
  rw [iI_cl h]
  funext k
  show (if k = z.toNat then iI v else iI (f k)) = iI (if (k : Int) = z then v else f k)
  by_cases e : k = z.toNat
  · rw [if_pos e, if_pos (by omega)]
  · rw [if_neg e, if_neg (by omega)]
theorem aI_w0 {f : Int → Int} {k : Nat} {v : Int} : upd (aI f) k (iI v) = aI (zu f k v) := by
  funext j
  show (if j = k then iI v else iI (f j)) = iI (if (j : Int) = k then v else f j)
  by_cases e : j = k
  · rw [if_pos e, if_pos (by omega)]
  · rw [if_neg e, if_neg (by omega)]
theorem aR0 {f : Int → Int} : aI f 0 = iI (f 0) := Eq.trans rfl rfl
theorem aW0 {f : Int → Int} {v : Int} : upd (aI f) 0 (iI v) = aI (zu f 0 v) := aI_w0
theorem aR1 {f : Int → Int} : aI f 1 = iI (f 1) := Eq.trans rfl rfl
theorem aW1 {f : Int → Int} {v : Int} : upd (aI f) 1 (iI v) = aI (zu f 1 v) := aI_w0
theorem aR2 {f : Int → Int} : aI f 2 = iI (f 2) := Eq.trans rfl rfl
theorem aW2 {f : Int → Int} {v : Int} : upd (aI f) 2 (iI v) = aI (zu f 2 v) := aI_w0
theorem aR3 {f : Int → Int} : aI f 3 = iI (f 3) := Eq.trans rfl rfl
theorem aW3 {f : Int → Int} {v : Int} : upd (aI f) 3 (iI v) = aI (zu f 3 v) := aI_w0
theorem aR4 {f : Int → Int} : aI f 4 = iI (f 4) := Eq.trans rfl rfl
theorem aW4 {f : Int → Int} {v : Int} : upd (aI f) 4 (iI v) = aI (zu f 4 v) := aI_w0
theorem aI_of (f : Nat → Int32) : f = aI (fun t => (f t.toNat).toInt) := by
  funext k
  show f k = iI ((f ((k : Int).toNat)).toInt)
  rw [Int.toNat_natCast, ← iI_of]
theorem aI_cong {f g : Int → Int} (h : ∀ t : Int, 0 ≤ t → f t = g t) : aI f = aI g := by
  funext k
  show iI (f k) = iI (g k)
  rw [h k (by omega)]
theorem zu_s {f : Int → Int} {i v : Int} {t : Int} (h : t = i) : zu f i v t = v := if_pos h
theorem zu_n {f : Int → Int} {i v : Int} {t : Int} (h : ¬ t = i) : zu f i v t = f t := if_neg h
theorem q_bds {α β : Type} {a : α} {k : α → Option β} : q_bd (some a) k = k a := rfl
theorem q_lts {α β : Type} {a : α} {k : α → Option β} : q_lt a k = k a := rfl
theorem q_bra {α : Type} {x : Option α} {c : Prop} {dc : Decidable c} : @q_br α c dc x x = x := by
  unfold q_br; split <;> rfl
theorem q_brd {α : Type} {x y : Option α} {c : Prop} {dc : Decidable c} : @q_br α c dc x y = if c then x else y := rfl
theorem zq_smi {α β : Type} {a : α} {h : String → Option β} {k : α → Option β} : q_sm (Sum.inl a) h k = k a := rfl
theorem zq_smr {α β : Type} {a : String} {h : String → Option β} {k : α → Option β} : q_sm (Sum.inr a) h k = h a := rfl
theorem bz_rng {p : Prop} {dp : Decidable p} : 0 ≤ @bz p dp ∧ @bz p dp ≤ 1 := by
  unfold bz; split <;> omega
theorem bz_t {p : Prop} {dp : Decidable p} (h : p) : @bz p dp = 1 := if_pos h
theorem bz_f {p : Prop} {dp : Decidable p} (h : ¬ p) : @bz p dp = 0 := if_neg h
theorem bzT {dp : Decidable True} : @bz True dp = 1 := if_pos trivial
theorem bzF {dp : Decidable False} : @bz False dp = 0 := if_neg (fun h => h)
theorem n_em {p : Prop} : (¬ p ∨ p) = True := eq_true (Classical.em p).symm
theorem bz_z {p : Prop} {dp : Decidable p} : (iI (@bz p dp) = iI 0) = ¬ p := by
  unfold bz
  by_cases h : p
  · rw [if_pos h]; exact eq_false (by decide) |>.trans (by simp [h])
  · rw [if_neg h]; simp [h]
theorem q_gdd {α : Type} {c : Prop} {dc : Decidable c} {k : Option α} : @q_gd α c dc k = if c then k else none := rfl
theorem iI_inT {a : Int} {n : Nat} (h : 0 ≤ a ∧ a < n ∧ a < 2147483648) : q_in (iI a) n = True := eq_true (iI_in h)
theorem lt_t {a b : Int} (h : a < b) : (a < b) = True := eq_true h
theorem lt_f {a b : Int} (h : ¬ a < b) : (a < b) = False := eq_false h
theorem le_t {a b : Int} (h : a ≤ b) : (a ≤ b) = True := eq_true h
theorem le_f {a b : Int} (h : ¬ a ≤ b) : (a ≤ b) = False := eq_false h
theorem eq_t {a b : Int} (h : a = b) : (a = b) = True := eq_true h
theorem eq_f {a b : Int} (h : ¬ a = b) : (a = b) = False := eq_false h
theorem bz_o {p : Prop} {dp : Decidable p} : (iI (@bz p dp) = iI 1) = p := by
  unfold bz
  by_cases h : p
  · rw [if_pos h]; simp [h]
  · rw [if_neg h]; exact (eq_false (by decide)).trans (by simp [h])
theorem bz_zo {p : Prop} {dp : Decidable p} : (iI (@bz p dp) = iI 0 ∨ iI (@bz p dp) = iI 1) = True := by
  refine eq_true ?_
  rw [bz_z, bz_o]
  exact (Classical.em p).symm
theorem iI_ite {p : Prop} {dp : Decidable p} {a b : Int} : @ite _ p dp (iI a) (iI b) = iI (@ite _ p dp a b) := by
  split <;> rfl
def ab (z : Int) : Int := if 0 ≤ z then z else 0 - z
theorem iI_abs {q : Int} {dc : Decidable (iI 0 ≤ iI q)} (h : -2147483648 < q ∧ q < 2147483648) : @ite _ (iI 0 ≤ iI q) dc (iI q) (iI 0 - iI q) = iI (ab q) := by
  unfold ab
  by_cases e : 0 ≤ q
  · rw [if_pos e, if_pos ((iI_le (by omega)).mpr e)]
  · rw [if_neg e, if_neg (fun e2 => e ((iI_le (by omega)).mp e2)), iI_sub]
theorem iI_abn {q : Int} {dc : Decidable (iI 0 ≤ iI q)} (h : -2147483648 < q ∧ q < 2147483648) : @ite _ (iI 0 ≤ iI q) dc (iI q) (iI (0 - q)) = iI (ab q) := by
  rw [← iI_sub]; exact iI_abs h
theorem iI_ab3 {q : Int} {dc : Decidable (0 ≤ q)} : @ite _ (0 ≤ q) dc (iI q) (iI (0 - q)) = iI (ab q) := by
  unfold ab
  by_cases e : 0 ≤ q
  · rw [if_pos e, if_pos e]
  · rw [if_neg e, if_neg e]
theorem z_emod (a b : Int) : a - a / b * b = a % b := by
  have := Int.emod_add_mul_ediv a b
  have h2 := Int.mul_comm (a / b) b
  omega
theorem iI_div {a b : Int} (h : 0 ≤ a ∧ a < 2147483648 ∧ 0 < b ∧ b < 2147483648) : iI a / iI b = iI (a / b) := by
  have ea : a = (a.toNat : Int) := by omega
  have eb : b = (b.toNat : Int) := by omega
  rw [ea, eb, ← iI_nI, ← iI_nI, pk_div (by omega) (by omega) (by omega), iI_nI, Int.natCast_ediv]
theorem iI_rem {a b : Int} (h : 0 ≤ a ∧ a < 2147483648 ∧ 0 < b ∧ b < 2147483648) : iI a - iI a / iI b * iI b = iI (a % b) := by
  rw [iI_div h, iI_mul, iI_sub]
  refine congrArg iI ?_
  have := Int.emod_add_mul_ediv a b
  have h2 := Int.mul_comm (a / b) b
  omega
theorem zx_xor (a b : Nat) : nI a ^^^ nI b = nI (a ^^^ b) := by
  apply Int32.toBitVec_inj.1
  show BitVec.ofNat 32 a ^^^ BitVec.ofNat 32 b = BitVec.ofNat 32 (a ^^^ b)
  apply BitVec.eq_of_getLsbD_eq
  intro i hi
  simp [hi]
theorem iI_xor {a b : Int} (h : (0 ≤ a ∧ a < 2147483648) ∧ 0 ≤ b ∧ b < 2147483648) : iI 0 ≤ iI a ^^^ iI b := by
  obtain ⟨n, rfl⟩ := Int.eq_ofNat_of_zero_le h.1.1
  obtain ⟨k, rfl⟩ := Int.eq_ofNat_of_zero_le h.2.1
  rw [← iI_nI, ← iI_nI, zx_xor, iI_nI, iI_le]
  · omega
  · have : n ^^^ k < 2 ^ 31 := Nat.xor_lt_two_pow (by omega) (by omega)
    omega
theorem z_fdiv {a b : Int} (h : 0 ≤ a ∧ a < 2147483648 ∧ 0 < b ∧ b < 2147483648) : f_J9_floorDiv_7cf53 (iI a) (iI b) = some (iI (a / b)) := by
  unfold f_J9_floorDiv_7cf53
  have e0 : ¬ iI b = 0 := by
    rw [show (0 : Int32) = iI 0 from rfl, iI_eq (by omega)]; omega
  unfold q_gd q_lt q_br
  rw [if_pos e0]
  show (if _ then _ else _) = _
  rw [if_pos (show (0 : Int32) ≤ iI a ^^^ iI b from iI_xor (by omega)), iI_div h]
theorem z_fmod {a b : Int} (h : 0 ≤ a ∧ a < 2147483648 ∧ 0 < b ∧ b < 2147483648) : f_J9_floorMod_7cf53 (iI a) (iI b) = some (iI (a % b)) := by
  unfold f_J9_floorMod_7cf53
  have e0 : ¬ iI b = 0 := by
    rw [show (0 : Int32) = iI 0 from rfl, iI_eq (by omega)]; omega
  unfold q_gd q_lt q_br
  rw [if_pos e0]
  show (if _ then _ else _) = _
  rw [if_pos (show (0 : Int32) ≤ iI a ^^^ iI b from iI_xor (by omega)), iI_rem h]
theorem z_fmod12 {a : Int} (h : -11 ≤ a ∧ a < 2147483648) : f_J9_floorMod_7cf53 (iI a) (iI 12) = some (iI (a % 12)) := by
  by_cases e : 0 ≤ a
  · exact z_fmod (by omega)
  · have : a = -1 ∨ a = -2 ∨ a = -3 ∨ a = -4 ∨ a = -5 ∨ a = -6 ∨ a = -7 ∨ a = -8 ∨ a = -9 ∨ a = -10 ∨ a = -11 := by omega
    rcases this with e | e | e | e | e | e | e | e | e | e | e <;> subst e <;> decide
theorem n_0 : (0 : Int32) = iI 0 := Eq.trans rfl rfl
theorem n_1 : (1 : Int32) = iI 1 := Eq.trans rfl rfl
theorem n_2 : (2 : Int32) = iI 2 := Eq.trans rfl rfl
theorem n_3 : (3 : Int32) = iI 3 := Eq.trans rfl rfl
theorem n_4 : (4 : Int32) = iI 4 := Eq.trans rfl rfl
theorem n_5 : (5 : Int32) = iI 5 := Eq.trans rfl rfl
theorem n_6 : (6 : Int32) = iI 6 := Eq.trans rfl rfl
theorem n_7 : (7 : Int32) = iI 7 := Eq.trans rfl rfl
theorem n_8 : (8 : Int32) = iI 8 := Eq.trans rfl rfl
theorem n_9 : (9 : Int32) = iI 9 := Eq.trans rfl rfl
theorem n_10 : (10 : Int32) = iI 10 := Eq.trans rfl rfl
theorem n_11 : (11 : Int32) = iI 11 := Eq.trans rfl rfl
theorem n_12 : (12 : Int32) = iI 12 := Eq.trans rfl rfl
theorem n_13 : (13 : Int32) = iI 13 := Eq.trans rfl rfl
theorem n_14 : (14 : Int32) = iI 14 := Eq.trans rfl rfl
theorem n_15 : (15 : Int32) = iI 15 := Eq.trans rfl rfl
theorem n_16 : (16 : Int32) = iI 16 := Eq.trans rfl rfl
theorem n_17 : (17 : Int32) = iI 17 := Eq.trans rfl rfl
theorem n_18 : (18 : Int32) = iI 18 := Eq.trans rfl rfl
theorem n_19 : (19 : Int32) = iI 19 := Eq.trans rfl rfl
theorem n_20 : (20 : Int32) = iI 20 := Eq.trans rfl rfl
theorem n_21 : (21 : Int32) = iI 21 := Eq.trans rfl rfl
theorem n_22 : (22 : Int32) = iI 22 := Eq.trans rfl rfl
theorem n_23 : (23 : Int32) = iI 23 := Eq.trans rfl rfl
theorem n_24 : (24 : Int32) = iI 24 := Eq.trans rfl rfl
theorem n_25 : (25 : Int32) = iI 25 := Eq.trans rfl rfl
theorem n_26 : (26 : Int32) = iI 26 := Eq.trans rfl rfl
theorem n_27 : (27 : Int32) = iI 27 := Eq.trans rfl rfl
theorem n_28 : (28 : Int32) = iI 28 := Eq.trans rfl rfl
theorem n_29 : (29 : Int32) = iI 29 := Eq.trans rfl rfl
theorem n_30 : (30 : Int32) = iI 30 := Eq.trans rfl rfl
theorem n_31 : (31 : Int32) = iI 31 := Eq.trans rfl rfl
theorem n_32 : (32 : Int32) = iI 32 := Eq.trans rfl rfl
theorem n_33 : (33 : Int32) = iI 33 := Eq.trans rfl rfl
theorem n_34 : (34 : Int32) = iI 34 := Eq.trans rfl rfl
theorem n_35 : (35 : Int32) = iI 35 := Eq.trans rfl rfl
theorem n_36 : (36 : Int32) = iI 36 := Eq.trans rfl rfl
theorem n_37 : (37 : Int32) = iI 37 := Eq.trans rfl rfl
theorem n_40 : (40 : Int32) = iI 40 := Eq.trans rfl rfl
theorem n_44 : (44 : Int32) = iI 44 := Eq.trans rfl rfl
theorem n_48 : (48 : Int32) = iI 48 := Eq.trans rfl rfl
theorem n_50 : (50 : Int32) = iI 50 := Eq.trans rfl rfl
theorem n_57 : (57 : Int32) = iI 57 := Eq.trans rfl rfl
theorem n_58 : (58 : Int32) = iI 58 := Eq.trans rfl rfl
theorem n_60 : (60 : Int32) = iI 60 := Eq.trans rfl rfl
theorem n_65 : (65 : Int32) = iI 65 := Eq.trans rfl rfl
theorem n_66 : (66 : Int32) = iI 66 := Eq.trans rfl rfl
theorem n_67 : (67 : Int32) = iI 67 := Eq.trans rfl rfl
theorem n_68 : (68 : Int32) = iI 68 := Eq.trans rfl rfl
theorem n_69 : (69 : Int32) = iI 69 := Eq.trans rfl rfl
theorem n_70 : (70 : Int32) = iI 70 := Eq.trans rfl rfl
theorem n_71 : (71 : Int32) = iI 71 := Eq.trans rfl rfl
theorem n_73 : (73 : Int32) = iI 73 := Eq.trans rfl rfl
theorem n_77 : (77 : Int32) = iI 77 := Eq.trans rfl rfl
theorem n_80 : (80 : Int32) = iI 80 := Eq.trans rfl rfl
theorem n_83 : (83 : Int32) = iI 83 := Eq.trans rfl rfl
theorem n_97 : (97 : Int32) = iI 97 := Eq.trans rfl rfl
theorem n_98 : (98 : Int32) = iI 98 := Eq.trans rfl rfl
theorem n_99 : (99 : Int32) = iI 99 := Eq.trans rfl rfl
theorem n_100 : (100 : Int32) = iI 100 := Eq.trans rfl rfl
theorem n_101 : (101 : Int32) = iI 101 := Eq.trans rfl rfl
theorem n_102 : (102 : Int32) = iI 102 := Eq.trans rfl rfl
theorem n_103 : (103 : Int32) = iI 103 := Eq.trans rfl rfl
theorem n_104 : (104 : Int32) = iI 104 := Eq.trans rfl rfl
theorem n_105 : (105 : Int32) = iI 105 := Eq.trans rfl rfl
theorem n_106 : (106 : Int32) = iI 106 := Eq.trans rfl rfl
theorem n_107 : (107 : Int32) = iI 107 := Eq.trans rfl rfl
theorem n_108 : (108 : Int32) = iI 108 := Eq.trans rfl rfl
theorem n_109 : (109 : Int32) = iI 109 := Eq.trans rfl rfl
theorem n_110 : (110 : Int32) = iI 110 := Eq.trans rfl rfl
theorem n_111 : (111 : Int32) = iI 111 := Eq.trans rfl rfl
theorem n_112 : (112 : Int32) = iI 112 := Eq.trans rfl rfl
theorem n_113 : (113 : Int32) = iI 113 := Eq.trans rfl rfl
theorem n_114 : (114 : Int32) = iI 114 := Eq.trans rfl rfl
theorem n_115 : (115 : Int32) = iI 115 := Eq.trans rfl rfl
theorem n_116 : (116 : Int32) = iI 116 := Eq.trans rfl rfl
theorem n_117 : (117 : Int32) = iI 117 := Eq.trans rfl rfl
theorem n_118 : (118 : Int32) = iI 118 := Eq.trans rfl rfl
theorem n_120 : (120 : Int32) = iI 120 := Eq.trans rfl rfl
theorem n_121 : (121 : Int32) = iI 121 := Eq.trans rfl rfl
theorem n_122 : (122 : Int32) = iI 122 := Eq.trans rfl rfl
theorem n_180 : (180 : Int32) = iI 180 := Eq.trans rfl rfl
theorem n_255 : (255 : Int32) = iI 255 := Eq.trans rfl rfl
theorem n_539 : (539 : Int32) = iI 539 := Eq.trans rfl rfl
theorem n_600 : (600 : Int32) = iI 600 := Eq.trans rfl rfl
theorem n_616 : (616 : Int32) = iI 616 := Eq.trans rfl rfl
theorem n_1200 : (1200 : Int32) = iI 1200 := Eq.trans rfl rfl
theorem n_2000 : (2000 : Int32) = iI 2000 := Eq.trans rfl rfl
theorem n_3600 : (3600 : Int32) = iI 3600 := Eq.trans rfl rfl
theorem n_8400 : (8400 : Int32) = iI 8400 := Eq.trans rfl rfl
theorem n_65536 : (65536 : Int32) = iI 65536 := Eq.trans rfl rfl
