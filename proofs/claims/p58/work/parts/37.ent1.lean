/-! ===== the entry ===== -/
theorem sel_private {s : State} {args : Array Value} {C : String} {n : Nat} {y : MethodName} (hi : (Cond.instantiable C n).before args s = true) (hp : (Cond.privateMethod y).before args s = true) (hinst : (Cond.instanceMethod y).before args s = true) (hsm : (Cond.sameMethod y.cls y.cls y.name y.desc).before args s = true) (hy : y.cls ≠ "java/lang/invoke/MethodHandle" ∧ y.cls ≠ "java/lang/invoke/VarHandle") : (Cond.selects C y y).before args s = true := by
  obtain ⟨c, k, hc, hk, -, -, -, -⟩ := Cond.instantiable_spec hi
  obtain ⟨mk, methM, hnamed, hmethM, -, -⟩ := Cond.instanceMethod_spec hinst
  have hfound : s.methodFound? y.cls y.name y.desc = some mk := State.methodFound?_of_named hnamed hy
  obtain ⟨-, k2, hk2, hni⟩ := Cond.sameMethod_spec (findClass_of_methodNamed hnamed) hfound hsm
  have hsel : selectMethod {} s.vm c mk = .method mk := selectMethod_private hmethM (Cond.privateMethod_at hp mk methM hnamed hmethM)
  simp only [Cond.before, Cond.holds, Cond.value, hc, hfound, hnamed, hsel, hk2]
  simp; exact hni
theorem sx_of (x : Int32) : Int32.ofNat x.toUInt32.toNat = x := by
  show Int32.ofUInt32 (UInt32.ofNat x.toUInt32.toNat) = x
  rw [UInt32.ofNat_toNat]
def gp : Cond → Nat → Cond
  | .and a b, n => if n ≤ 1 then .and a b else if n % 2 = 1 then gp b (n / 2) else gp a (n / 2)
  | c, _ => c
theorem gp_b {args : Array Value} {s : State} (c : Cond) : ∀ n : Nat, c.before args s = true → (gp c n).before args s = true := by
  induction c with
  | and a b iha ihb =>
    intro n h
    unfold gp
    by_cases h1 : n ≤ 1
    · rw [if_pos h1]; exact h
    · rw [if_neg h1]
      have hab : a.before args s = true ∧ b.before args s = true := by
        rw [Cond.before_and, Bool.and_eq_true] at h
        exact h
      by_cases h2 : n % 2 = 1
      · rw [if_pos h2]; exact ihb _ hab.2
      · rw [if_neg h2]; exact iha _ hab.1
  | _ => intro n h; exact h
abbrev NW : Cond := Jvm.Cond.and given_1 narrow_1
def NWm (w : Cond) : Prop := ∃ n, gp NW n = w
theorem ltb {w : Cond} (h : w ∈ tables_1) : w ∈ lw_tbl := List.mem_append_right _ h
theorem En_cg {E d : String} {nm : List String} {F : List (String × String × String × List Int32)} {ad ad' : Nat → Nat} {A : Nat → Prop} {U : State} {H : Heap} (h : ∀ i, i < nm.length → ad i = ad' i) (hE : va_En E d nm F ad A U H) : va_En E d nm F ad' A U H := ⟨fun i hi => by rw [← h i hi]; exact hE.1 i hi, fun i j hi hj e => hE.2 i j hi hj (by rw [h i hi, h j hj]; exact e)⟩
theorem Ef_cg {N : Nat} {o n d : String} {v v' : Nat → Value} {ad ad' : Nat → Nat} {A : Nat → Prop} {U : State} {H : Heap} (h : ∀ i, i < N → ad i = ad' i) (hv : ∀ i, i < N → v i = v' i) (hE : va_Ef N o n d v ad A U H) : va_Ef N o n d v' ad' A U H := fun i hi => by rw [← h i hi, ← hv i hi]; exact hE i hi
theorem S_cg {N : Nat} {len : List Nat} {byt : List (List Int32)} {k k' v v' : Nat → Nat} {A : Nat → Prop} {U : State} {H : Heap} (h : ∀ i, i < N → k i = k' i) (hv : ∀ i, i < N → v i = v' i) (hE : vk_S N len byt k v A U H) : vk_S N len byt k' v' A U H := ⟨fun i hi => by rw [← h i hi, ← hv i hi]; exact hE.1 i hi, fun i j hi hj e => hE.2 i j hi hj (by rw [h i hi, h j hj]; exact e)⟩
theorem OF_fun {o n d : String} {v w : Value} {t : Nat} {A : Nat → Prop} {U : State} {H : Heap} (h : va_OF o n d v t A U H) (g : va_OF o n d w t A U H) : v = w := by
  obtain ⟨cf, k, i, f, cell, h1, -, h3, -, h5, -⟩ := h
  obtain ⟨cf', k', i', f', cell', g1, -, g3, -, g5, -⟩ := g
  cases Option.some.inj (h1.symm.trans g1)
  cases Option.some.inj (h3.symm.trans g3)
  exact Option.some.inj (h5.symm.trans g5)
theorem T_fun {ty : FieldType} {t N M : Nat} {f g : Nat → Value} {A : Nat → Prop} {U : State} {H : Heap} (hN : N < 2 ^ 31) (hM : M < 2 ^ 31) (h : va_T ty t N f A U H) (k : va_T ty t M g A U H) : N = M ∧ ∀ j, j < N → f j = g j := by
  obtain ⟨cell, h1, -, -, -, h5, h6, -⟩ := h
  obtain ⟨cell', g1, -, -, -, g5, g6, -⟩ := k
  cases Option.some.inj (h1.symm.trans g1)
  have e : N = M := (nI_eq hN hM).mp (h5.symm.trans g5)
  subst e
  exact ⟨rfl, fun j hj => Option.some.inj ((h6 j hj).symm.trans (g6 j hj))⟩
theorem T_cg {ty : FieldType} {t N : Nat} {f g : Nat → Value} {A : Nat → Prop} {U : State} {H : Heap} (h : ∀ j, j < N → f j = g j) (hT : va_T ty t N f A U H) : va_T ty t N g A U H := by
  obtain ⟨cell, h1, h2, h3, h4, h5, h6, h7⟩ := hT
  exact ⟨cell, h1, h2, h3, h4, h5, fun j hj => by rw [← h j hj]; exact h6 j hj, h7⟩
def tm_s : List Term := [.string "ValleyBells$Command" 64, .string "ValleyBells$Command" 70, .string "ValleyBells$Command" 73, .string "ValleyBells$Command" 76, .string "ValleyBells$Command" 79, .string "ValleyBells$Command" 82, .string "ValleyBells$Command" 85, .string "ValleyBells$Command" 88, .string "ValleyBells$Command" 91, .string "ValleyBells$Command" 94, .string "ValleyBells$Command" 97, .string "ValleyBells$Command" 100, .string "ValleyBellsLaw" 157, .string "ValleyBellsLaw" 169, .string "ValleyBellsLaw" 177, .string "ValleyBellsLaw" 179, .string "ValleyBellsLaw" 185, .string "ValleyBellsLaw" 187, .string "ValleyBellsLaw" 189, .string "ValleyBellsLaw" 191, .string "ValleyBellsLaw" 193, .string "ValleyBellsLaw" 195, .string "ValleyBellsLaw" 197, .string "ValleyBellsLaw" 199, .string "ValleyBellsLaw" 201, .string "ValleyBellsLaw" 203, .string "ValleyBellsLaw" 225]
theorem tx_ne : ∀ i, i < 27 → ∀ j, j < 27 → ((st_txt.map List.length).getD i 0 = (st_txt.map List.length).getD j 0 ∧ ∀ k, k < (st_txt.map List.length).getD i 0 → ((st_txt.getD i []).getD k 0) = ((st_txt.getD j []).getD k 0)) → i = j := by decide +kernel
theorem tx_lt : ∀ i, i < 27 → (st_txt.map List.length).getD i 0 < 2 ^ 31 := by decide +kernel
def m_ex_i : List Nat := [2687, 3215, 5711, 5583, 2159, 2287, 2335, 2975, 2911, 2111, 5823, 2863, 5307, 5639, 2119, 2759, 3015, 5671, 7975, 2663, 2279, 8167, 3351, 2199, 2135, 7895, 6103]
theorem m_ex_d : ∀ i, i < 27 → gp NW (m_ex_i.getD i 0) = Cond.exactly (tm_s.getD i (.int 0)) "java/lang/String" := by decide +kernel
theorem m_ex : ∀ i, i < 27 → NWm (Cond.exactly (tm_s.getD i (.int 0)) "java/lang/String") := fun i hi => ⟨_, m_ex_d i hi⟩
def m_co_i : List Nat := [5759, 2703, 7759, 7631, 3183, 3311, 3359, 6047, 5983, 3135, 7871, 5935, 7355, 7687, 3143, 5831, 6087, 7719, 2215, 5735, 3303, 2071, 2839, 3223, 3159, 2519, 8151]
theorem m_co_d : ∀ i, i < 27 → gp NW (m_co_i.getD i 0) = Cond.eq (.field (tm_s.getD i (.int 0)) "java/lang/String" "coder" "B") (.int 0) := by decide +kernel
theorem m_co : ∀ i, i < 27 → NWm (Cond.eq (.field (tm_s.getD i (.int 0)) "java/lang/String" "coder" "B") (.int 0)) := fun i hi => ⟨_, m_co_d i hi⟩
def m_ar_i : List Nat := [7807, 5775, 2383, 3023, 2671, 2799, 2847, 8095, 8031, 2623, 2495, 7983, 2747, 2311, 2631, 7879, 8135, 2343, 3239, 7783, 2791, 3095, 5911, 2711, 2647, 5591, 2103]
theorem m_ar_d : ∀ i, i < 27 → gp NW (m_ar_i.getD i 0) = Cond.arrayOf (.field (tm_s.getD i (.int 0)) "java/lang/String" "value" "[B") .byte := by decide +kernel
theorem m_ar : ∀ i, i < 27 → NWm (Cond.arrayOf (.field (tm_s.getD i (.int 0)) "java/lang/String" "value" "[B") .byte) := fun i hi => ⟨_, m_ar_d i hi⟩
def m_le_i : List Nat := [2431, 7823, 5455, 6095, 5743, 5871, 5919, 2143, 2271, 5695, 5567, 2223, 5819, 3335, 5703, 2503, 2087, 5415, 2727, 2407, 5863, 2583, 7959, 5783, 5719, 7639, 3127]
theorem m_le_d : ∀ i, i < 27 → gp NW (m_le_i.getD i 0) = Cond.eq (.length (.field (tm_s.getD i (.int 0)) "java/lang/String" "value" "[B")) (.int (Int32.ofNat ((st_txt.map List.length).getD i 0))) := by decide +kernel
theorem m_le : ∀ i, i < 27 → NWm (Cond.eq (.length (.field (tm_s.getD i (.int 0)) "java/lang/String" "value" "[B")) (.int (Int32.ofNat ((st_txt.map List.length).getD i 0)))) := fun i hi => ⟨_, m_le_d i hi⟩
def m_el_i : List (List Nat) := [[5503, 7551, 2943, 6015, 8063, 2303, 3327, 2815, 5887, 7935, 2559], [2447, 5519, 7567, 2959, 6031, 8079, 2127, 3151, 2639], [7503, 2895, 5967, 8015, 2255, 3279, 2767, 5839, 7887, 2511], [8143, 2095, 3119, 2607, 5679, 7727, 2351, 5423, 7471], [7791, 2415, 5487, 7535, 2927, 5999, 8047], [7919, 2543, 5615, 7663, 3055, 6127, 8175, 2079, 3103, 2591, 5663, 7711], [7967, 2207, 3231, 2719, 5791, 7839, 2463, 5535, 7583], [3167, 2655, 5727, 7775, 2399, 5471, 7519], [3295, 2783, 5855, 7903, 2527, 5599, 7647, 3039, 6111, 8159], [7743, 2367, 5439, 7487, 2879, 5951, 7999, 2239, 3263, 2751], [7615, 3007, 6079, 8127, 2175, 3199], [3247, 2735, 5807, 7855, 2479, 5551, 7599, 2991, 6063, 8111], [7867, 2491, 5563, 7611, 5051, 7099, 6075, 8123, 2171, 5243, 7291, 2683, 5755, 7803, 2427, 5499, 7547, 2939, 6011, 8059, 2299, 5371, 7419, 2811, 5883, 7931, 2555, 5627, 7675, 5115, 7163, 6139, 8187, 2055, 3079, 2567], [2823, 5895, 7943, 2183, 3207, 2695, 5767, 7815, 2439, 5511, 7559, 2951, 6023, 8071], [7751, 2375, 5447, 7495, 2887, 5959, 8007, 2247, 3271], [5575, 7623], [3111, 2599], [7463, 2855, 5927], [5799, 7847, 2471, 5543, 7591, 2983, 6055, 8103, 2151, 3175], [5479, 7527, 2919, 5991, 8039], [7911, 2535, 5607, 7655, 3047, 6119], [5655, 7703, 2327], [], [7831, 2455, 5527, 7575, 2967, 6039, 8087], [7767, 2391, 5463, 7511, 2903, 5975, 8023, 2263, 3287, 2775, 5847], [3031], [2615, 5687, 7735, 2359, 5431, 7479, 2871, 5943, 7991, 2231, 3255, 2743, 5815, 7863, 2487, 5559, 7607, 2999, 6071, 8119, 2167, 3191, 2679, 5751, 7799, 2423, 5495, 7543, 2935, 6007, 8055, 2295, 3319, 2807, 5879, 7927, 2551, 5623, 7671, 3063, 6135, 8183, 2063, 3087, 2575, 5647, 7695, 2319, 3343, 2831, 5903, 7951, 2191]]
theorem m_el_d : ∀ i, i < 27 → ∀ j, j < (st_txt.map List.length).getD i 0 → gp NW ((m_el_i.getD i []).getD j 0) = Cond.eq (.elem (.field (tm_s.getD i (.int 0)) "java/lang/String" "value" "[B") (.int (Int32.ofNat j))) (.int ((st_txt.getD i []).getD j 0)) := by decide +kernel
theorem m_el : ∀ i, i < 27 → ∀ j, j < (st_txt.map List.length).getD i 0 → NWm (Cond.eq (.elem (.field (tm_s.getD i (.int 0)) "java/lang/String" "value" "[B") (.int (Int32.ofNat j))) (.int ((st_txt.getD i []).getD j 0))) := fun i hi j hj => ⟨_, m_el_d i hi j hj⟩
