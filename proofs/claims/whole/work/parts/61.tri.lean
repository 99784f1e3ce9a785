def tr (f : Int → Int → Int) (n : Nat) : Int := sz (fun l => sz (fun h => f l h) (l + 1) ((n : Int) - 1 - l).toNat) 0 n
def tm (f : Int → Int → Int) (n : Nat) : Int := sz (fun a => sz (fun b => f b a) 0 a.toNat) 0 n
theorem tm_snoc (f : Int → Int → Int) (n : Nat) : tm f (n + 1) = tm f n + sz (fun b => f b n) 0 n := by
  unfold tm
  rw [sz_snoc]
  rw [Int.zero_add, Int.toNat_natCast]
theorem tr_tm (f : Int → Int → Int) (n : Nat) : tr f n = tm f n := by
  induction n with
  | zero => rfl
  | succ n ih =>
    have e1 : tr f (n + 1) = tr f n + sz (fun l => f l n) 0 n := by
      unfold tr
      rw [sz_snoc]
      have e2 : sz (fun l => sz (fun h => f l h) (l + 1) (((n + 1 : Nat) : Int) - 1 - l).toNat) 0 n = sz (fun l => sz (fun h => f l h) (l + 1) ((n : Int) - 1 - l).toNat + f l n) 0 n := sz_cong n 0 (fun k k0 k1 => by
        show sz (fun h => f k h) (k + 1) (((n + 1 : Nat) : Int) - 1 - k).toNat = sz (fun h => f k h) (k + 1) ((n : Int) - 1 - k).toNat + f k n
        rw [show (((n + 1 : Nat) : Int) - 1 - k).toNat = ((n : Int) - 1 - k).toNat + 1 by omega, sz_snoc, show k + 1 + ((((n : Int) - 1 - k).toNat : Nat) : Int) = n by omega])
      rw [e2, sz_add (f := fun l => sz (fun h => f l h) (l + 1) ((n : Int) - 1 - l).toNat) (g := fun l => f l n)]
      rw [show (((n + 1 : Nat) : Int) - 1 - (0 + (n : Int))).toNat = 0 by omega]
      show _ + _ + 0 = _
      rw [Int.add_zero]
    rw [e1, ih, tm_snoc]
theorem tm_cong {f g : Int → Int → Int} (n : Nat) (h : ∀ b a : Int, 0 ≤ b → b < a → a < n → f b a = g b a) : tm f n = tm g n := by
  unfold tm
  refine sz_cong n 0 (fun a a0 a1 => ?_)
  show sz (fun b => f b a) 0 a.toNat = sz (fun b => g b a) 0 a.toNat
  exact sz_cong _ 0 (fun b b0 b1 => h b a b0 (by omega) (by omega))
theorem tm_add (f g : Int → Int → Int) (n : Nat) : tm (fun b a => f b a + g b a) n = tm f n + tm g n := by
  unfold tm
  rw [← sz_add]
  refine sz_cong n 0 (fun a a0 a1 => ?_)
  show sz (fun b => f b a + g b a) 0 a.toNat = _
  rw [sz_add]
theorem tm_zero (n : Nat) : tm (fun _ _ => 0) n = 0 := by
  unfold tm
  refine Eq.trans (sz_cong (g := fun _ => 0) n 0 (fun a a0 a1 => ?_)) (sz_zero n 0)
  exact sz_zero _ 0
theorem tm_sym (g : Int → Int → Int) (n : Nat) : tm (fun b a => g b a + g a b) n + sz (fun k => g k k) 0 n = sz (fun a => sz (fun b => g a b) 0 n) 0 n := by
  induction n with
  | zero => rfl
  | succ n ih =>
    rw [tm_snoc, sz_snoc, sz_snoc (f := fun a => sz (fun b => g a b) 0 (n + 1))]
    have e1 : sz (fun a => sz (fun b => g a b) 0 (n + 1)) 0 n = sz (fun a => sz (fun b => g a b) 0 n + g a n) 0 n := sz_cong n 0 (fun k k0 k1 => by
      show sz (fun b => g k b) 0 (n + 1) = sz (fun b => g k b) 0 n + g k n
      rw [sz_snoc, Int.zero_add])
    rw [e1, sz_add (f := fun a => sz (fun b => g a b) 0 n) (g := fun a => g a n), sz_add (f := fun b => g b n) (g := fun b => g n b), sz_snoc, Int.zero_add]
    omega
theorem tm_one (n : Nat) : 2 * tm (fun _ _ => 1) n = n * ((n : Int) - 1) ∧ 0 ≤ tm (fun _ _ => 1) n ∧ tm (fun _ _ => 1) n ≤ n * n := by
  have h1 : ∀ d : Nat, ∀ i : Int, sz (fun _ => 1) i d = d := fun d => by
    induction d with
    | zero => intro i; rfl
    | succ d ih => intro i; show 1 + sz (fun _ => 1) (i + 1) d = _; rw [ih]; omega
  induction n with
  | zero => decide
  | succ n ih =>
    rw [tm_snoc, h1]
    have e : ((n + 1 : Nat) : Int) * (((n + 1 : Nat) : Int) - 1) = n * ((n : Int) - 1) + 2 * n := by
      rw [show ((n + 1 : Nat) : Int) - 1 = n by omega, show ((n + 1 : Nat) : Int) = n + 1 from rfl, Int.add_mul, Int.mul_sub]
      omega
    have e2 : ((n + 1 : Nat) : Int) * ((n + 1 : Nat) : Int) = n * n + 2 * n + 1 := by
      rw [show ((n + 1 : Nat) : Int) = n + 1 from rfl, Int.add_mul, Int.mul_add]
      omega
    rw [e, e2]
    omega
theorem sz_del {f : Int → Int} {x : Int} (d : Nat) : ∀ (i : Int), sz (fun h => f h * bz (x = h)) i d = if i ≤ x ∧ x < i + d then f x else 0 := by
  induction d with
  | zero => intro i; show 0 = _; rw [if_neg (by omega)]
  | succ d ih =>
    intro i
    show f i * bz (x = i) + sz (fun h => f h * bz (x = h)) (i + 1) d = _
    rw [ih]
    by_cases c : x = i
    · subst c
      rw [bz_t rfl, if_neg (by omega), if_pos (by omega)]
      omega
    · rw [bz_f c]
      by_cases c2 : i + 1 ≤ x ∧ x < i + 1 + d
      · rw [if_pos c2, if_pos (by omega)]; omega
      · rw [if_neg c2, if_neg (by omega)]; omega
def di (k : Int) : Bool := !cn k
def dd (x y : Int) : Int := bz (di ((y - x) % 12) = true)
theorem dd_sym {a b : Int} (h : (0 ≤ a ∧ a < 12) ∧ 0 ≤ b ∧ b < 12) : dd a b = dd b a := by
  unfold dd
  obtain ⟨r, hr⟩ : ∃ r, r = (b - a) % 12 := ⟨_, rfl⟩
  have hr2 : (a - b) % 12 = (12 - r) % 12 := by omega
  rw [hr2, ← hr]
  rcases k12 (show 0 ≤ r ∧ r < 12 by omega) with e | e | e | e | e | e | e | e | e | e | e | e <;> subst e <;> rfl
theorem dd_self (a : Int) : dd a a = 0 := by
  unfold dd
  rw [Int.sub_self]
  rfl
def wq (C : Int → Int) : Int := tm (fun l h => dd l h * (C l * C h)) 12
theorem wq_step (C : Int → Int) {x : Int} (hx : 0 ≤ x ∧ x < 12) : wq (fun k => C k + bz (x = k)) = wq C + sz (fun y => dd x y * C y) 0 12 := by
  unfold wq
  have e1 : tm (fun l h => dd l h * ((C l + bz (x = l)) * (C h + bz (x = h)))) 12 = tm (fun l h => dd l h * (C l * C h) + (dd l h * C l * bz (x = h) + dd h l * C h * bz (x = l))) 12 := tm_cong 12 (fun b a b0 b1 b2 => by
    rw [dd_sym (a := a) (b := b) (by omega)]
    generalize dd b a = D
    by_cases c1 : x = b
    · rw [bz_t c1, bz_f (show ¬ x = a by omega)]
      simp only [Int.add_mul, Int.mul_add, Int.mul_zero, Int.mul_one, Int.one_mul, Int.add_zero, Int.zero_add]
    · rw [bz_f c1]
      by_cases c2 : x = a
      · rw [bz_t c2]
        simp only [Int.add_mul, Int.mul_add, Int.mul_zero, Int.mul_one, Int.one_mul, Int.add_zero, Int.zero_add]
      · rw [bz_f c2]
        simp only [Int.add_mul, Int.mul_add, Int.mul_zero, Int.mul_one, Int.one_mul, Int.add_zero, Int.zero_add])
  rw [e1, tm_add (fun l h => dd l h * (C l * C h)) (fun l h => dd l h * C l * bz (x = h) + dd h l * C h * bz (x = l))]
  have e2 := tm_sym (fun l h => dd l h * C l * bz (x = h)) 12
  have e3 : sz (fun k => dd k k * C k * bz (x = k)) 0 12 = 0 := Eq.trans (sz_cong (g := fun _ => 0) 12 0 (fun k _ _ => by rw [dd_self, Int.zero_mul, Int.zero_mul])) (sz_zero 12 0)
  have e4 : sz (fun a => sz (fun b => dd a b * C a * bz (x = b)) 0 12) 0 12 = sz (fun y => dd x y * C y) 0 12 := sz_cong 12 0 (fun k k0 k1 => by
    have := sz_del (f := fun b => dd k b * C k) (x := x) 12 0
    rw [if_pos (by omega)] at this
    rw [this, dd_sym (by omega)])
  rw [e3, e4, Int.add_zero] at e2
  rw [e2]
theorem wq_cnt (A : Int → Int) (n : Nat) : wq (fun k => sz (fun i => bz (A i % 12 = k)) 0 n) = tm (fun b a => dd (A b % 12) (A a % 12)) n := by
  induction n with
  | zero =>
    show tm (fun l h => dd l h * (0 * 0)) 12 = 0
    exact Eq.trans (tm_cong (g := fun _ _ => 0) 12 (fun b a _ _ _ => by rw [Int.mul_zero, Int.mul_zero])) (tm_zero 12)
  | succ n ih =>
    have e1 : (fun k => sz (fun i => bz (A i % 12 = k)) 0 (n + 1)) = (fun k => sz (fun i => bz (A i % 12 = k)) 0 n + bz (A n % 12 = k)) := funext (fun k => by rw [sz_snoc, Int.zero_add])
    rw [e1, wq_step (fun k => sz (fun i => bz (A i % 12 = k)) 0 n) (x := A n % 12) (by omega), ih, tm_snoc]
    have e2 : sz (fun y => dd (A n % 12) y * sz (fun i => bz (A i % 12 = y)) 0 n) 0 12 = sz (fun y => sz (fun i => dd (A n % 12) y * bz (A i % 12 = y)) 0 n) 0 12 := sz_cong 12 0 (fun y _ _ => by
      rw [sz_mul (f := fun i => bz (A i % 12 = y))])
    rw [e2, sz_swap (f := fun y i => dd (A n % 12) y * bz (A i % 12 = y))]
    refine congrArg _ (sz_cong n 0 (fun i i0 i1 => ?_))
    have := sz_del (f := fun y => dd (A n % 12) y) (x := A i % 12) 12 0
    rw [if_pos (by omega)] at this
    rw [this, dd_sym (by omega)]
def pf (P : Int → Bool) (A : Int → Int) (l h : Int) : Int := bz (P ((A h - A l) % 12) = true)
theorem pf_dd (A : Int → Int) (n : Nat) : tm (fun b a => dd (A b % 12) (A a % 12)) n = tm (pf di A) n := tm_cong n (fun b a _ _ _ => by
  unfold dd pf
  rw [show (A a % 12 - A b % 12) % 12 = (A a - A b) % 12 by omega])
theorem pf_all (A : Int → Int) (n : Nat) : tm (pf cn A) n + tm (pf di A) n = tm (fun _ _ => 1) n := by
  rw [← tm_add]
  refine tm_cong n (fun b a _ _ _ => ?_)
  unfold pf di
  cases cn ((A a - A b) % 12) <;> rfl
