/-! ===== the entry ===== -/
theorem sel_private {s : State} {args : Array Value} {C : String} {n : Nat} {y : MethodName} (hi : (Cond.instantiable C n).before args s = true) (hp : (Cond.privateMethod y).before args s = true) (hinst : (Cond.instanceMethod y).before args s = true) (hsm : (Cond.sameMethod y.cls y.cls y.name y.desc).before args s = true) (hy : y.cls ≠ "java/lang/invoke/MethodHandle" ∧ y.cls ≠ "java/lang/invoke/VarHandle") : (Cond.selects C y y).before args s = true := by
  obtain ⟨c, k, hc, hk, -, -, -, -⟩ := Cond.instantiable_spec hi
  obtain ⟨mk, methM, hnamed, hmethM, -, -⟩ := Cond.instanceMethod_spec hinst
  have hfound : s.methodFound? y.cls y.name y.desc = some mk := State.methodFound?_of_named hnamed hy
  obtain ⟨-, k2, hk2, hni⟩ := Cond.sameMethod_spec (findClass_of_methodNamed hnamed) hfound hsm
  have hsel : selectMethod {} s.vm c mk = .method mk := selectMethod_private hmethM (Cond.privateMethod_at hp mk methM hnamed hmethM)
  simp only [Cond.before, Cond.holds, Cond.value, hc, hfound, hnamed, hsel, hk2]
  simp; exact hni
def gp : Cond → Nat → Cond
  | .and a b, n => if n ≤ 1 then .and a b else if n % 2 = 1 then gp b (n / 2) else gp a (n / 2)
  | c, _ => c
theorem gp_b {args : Array Value} {s : State} (c : Cond) : ∀ n : Nat, c.before args s = true → (gp c n).before args s = true := by
  induction c with
  | and a b iha ihb =>
    intro n h
    unfold gp
    by_cases h1 : n ≤ 1
    · rw [if_pos h1]; exact h
    · rw [if_neg h1]
      have hab : a.before args s = true ∧ b.before args s = true := by
        rw [Cond.before_and, Bool.and_eq_true] at h
        exact h
      by_cases h2 : n % 2 = 1
      · rw [if_pos h2]; exact ihb _ hab.2
      · rw [if_neg h2]; exact iha _ hab.1
  | _ => intro n h; exact h
abbrev NW : Cond := Jvm.Cond.and given_1 narrow_1
def NWm (w : Cond) : Prop := ∃ n, gp NW n = w
theorem ltb {w : Cond} (h : w ∈ tables_1) : w ∈ lw_tbl := List.mem_append_right _ h
theorem En_cg {E d : String} {nm : List String} {F : List (String × String × String × List Int32)} {ad ad' : Nat → Nat} {A : Nat → Prop} {U : State} {H : Heap} (h : ∀ i, i < nm.length → ad i = ad' i) (hE : va_En E d nm F ad A U H) : va_En E d nm F ad' A U H := ⟨fun i hi => by rw [← h i hi]; exact hE.1 i hi, fun i j hi hj e => hE.2 i j hi hj (by rw [h i hi, h j hj]; exact e)⟩
theorem Ef_cg {N : Nat} {o n d : String} {v v' : Nat → Value} {ad ad' : Nat → Nat} {A : Nat → Prop} {U : State} {H : Heap} (h : ∀ i, i < N → ad i = ad' i) (hv : ∀ i, i < N → v i = v' i) (hE : va_Ef N o n d v ad A U H) : va_Ef N o n d v' ad' A U H := fun i hi => by rw [← h i hi, ← hv i hi]; exact hE i hi
theorem S_cg {N : Nat} {len : List Nat} {byt : List (List Int32)} {k k' v v' : Nat → Nat} {A : Nat → Prop} {U : State} {H : Heap} (h : ∀ i, i < N → k i = k' i) (hv : ∀ i, i < N → v i = v' i) (hE : vk_S N len byt k v A U H) : vk_S N len byt k' v' A U H := ⟨fun i hi => by rw [← h i hi, ← hv i hi]; exact hE.1 i hi, fun i j hi hj e => hE.2 i j hi hj (by rw [h i hi, h j hj]; exact e)⟩
theorem OF_fun {o n d : String} {v w : Value} {t : Nat} {A : Nat → Prop} {U : State} {H : Heap} (h : va_OF o n d v t A U H) (g : va_OF o n d w t A U H) : v = w := by
  obtain ⟨cf, k, i, f, cell, h1, -, h3, -, h5, -⟩ := h
  obtain ⟨cf', k', i', f', cell', g1, -, g3, -, g5, -⟩ := g
  cases Option.some.inj (h1.symm.trans g1)
  cases Option.some.inj (h3.symm.trans g3)
  exact Option.some.inj (h5.symm.trans g5)
theorem T_fun {ty : FieldType} {t N M : Nat} {f g : Nat → Value} {A : Nat → Prop} {U : State} {H : Heap} (hN : N < 2 ^ 31) (hM : M < 2 ^ 31) (h : va_T ty t N f A U H) (k : va_T ty t M g A U H) : N = M ∧ ∀ j, j < N → f j = g j := by
  obtain ⟨cell, h1, -, -, -, h5, h6, -⟩ := h
  obtain ⟨cell', g1, -, -, -, g5, g6, -⟩ := k
  cases Option.some.inj (h1.symm.trans g1)
  have e : N = M := (nI_eq hN hM).mp (h5.symm.trans g5)
  subst e
  exact ⟨rfl, fun j hj => Option.some.inj ((h6 j hj).symm.trans (g6 j hj))⟩
theorem T_cg {ty : FieldType} {t N : Nat} {f g : Nat → Value} {A : Nat → Prop} {U : State} {H : Heap} (h : ∀ j, j < N → f j = g j) (hT : va_T ty t N f A U H) : va_T ty t N g A U H := by
  obtain ⟨cell, h1, h2, h3, h4, h5, h6, h7⟩ := hT
  exact ⟨cell, h1, h2, h3, h4, h5, fun j hj => by rw [← h j hj]; exact h6 j hj, h7⟩
def tm_s : List Term := [.string "ValleyBells$Command" 64, .string "ValleyBells$Command" 70, .string "ValleyBells$Command" 73, .string "ValleyBells$Command" 76, .string "ValleyBells$Command" 79, .string "ValleyBells$Command" 82, .string "ValleyBells$Command" 85, .string "ValleyBells$Command" 88, .string "ValleyBells$Command" 91, .string "ValleyBells$Command" 94, .string "ValleyBells$Command" 97, .string "ValleyBells$Command" 100, .string "ValleyBells" 403]
theorem tx_ne : ∀ i, i < 13 → ∀ j, j < 13 → ((st_txt.map List.length).getD i 0 = (st_txt.map List.length).getD j 0 ∧ ∀ k, k < (st_txt.map List.length).getD i 0 → ((st_txt.getD i []).getD k 0) = ((st_txt.getD j []).getD k 0)) → i = j := by decide +kernel
theorem tx_lt : ∀ i, i < 13 → (st_txt.map List.length).getD i 0 < 2 ^ 31 := by decide +kernel
def m_ex_i : List Nat := [2875, 8123, 2299, 1543, 2983, 4071, 1239, 2999, 3063, 1359, 1711, 3911, 5291]
theorem m_ex_d : ∀ i, i < 13 → gp NW (m_ex_i.getD i 0) = Cond.exactly (tm_s.getD i (.int 0)) "java/lang/String" := by decide +kernel
theorem m_ex : ∀ i, i < 13 → NWm (Cond.exactly (tm_s.getD i (.int 0)) "java/lang/String") := fun i hi => ⟨_, m_ex_d i hi⟩
def m_co_i : List Nat := [5947, 2171, 5371, 1287, 4007, 1047, 1751, 4023, 4087, 2895, 1455, 1223, 7339]
theorem m_co_d : ∀ i, i < 13 → gp NW (m_co_i.getD i 0) = Cond.eq (.field (tm_s.getD i (.int 0)) "java/lang/String" "coder" "B") (.int 0) := by decide +kernel
theorem m_co : ∀ i, i < 13 → NWm (Cond.eq (.field (tm_s.getD i (.int 0)) "java/lang/String" "coder" "B") (.int 0)) := fun i hi => ⟨_, m_co_d i hi⟩
def m_ar_i : List Nat := [7995, 5243, 7419, 2823, 1127, 1559, 1495, 1143, 1039, 3919, 2991, 1735, 2731]
theorem m_ar_d : ∀ i, i < 13 → gp NW (m_ar_i.getD i 0) = Cond.arrayOf (.field (tm_s.getD i (.int 0)) "java/lang/String" "value" "[B") .byte := by decide +kernel
theorem m_ar : ∀ i, i < 13 → NWm (Cond.arrayOf (.field (tm_s.getD i (.int 0)) "java/lang/String" "value" "[B") .byte) := fun i hi => ⟨_, m_ar_d i hi⟩
def m_le_i : List Nat := [2235, 7291, 2811, 3847, 1639, 1303, 3031, 1655, 1551, 1231, 4015, 1479, 5803]
theorem m_le_d : ∀ i, i < 13 → gp NW (m_le_i.getD i 0) = Cond.eq (.length (.field (tm_s.getD i (.int 0)) "java/lang/String" "value" "[B")) (.int (Int32.ofNat ((st_txt.map List.length).getD i 0))) := by decide +kernel
theorem m_le : ∀ i, i < 13 → NWm (Cond.eq (.length (.field (tm_s.getD i (.int 0)) "java/lang/String" "value" "[B")) (.int (Int32.ofNat ((st_txt.map List.length).getD i 0)))) := fun i hi => ⟨_, m_le_d i hi⟩
def m_el_i : List (List Nat) := [[5307, 7355, 2747, 5819, 7867, 2491, 5563, 7611, 5051, 7099, 6075], [2683, 5755, 7803, 2427, 5499, 7547, 2939, 6011, 8059], [5883, 7931, 2555, 5627, 7675, 5115, 7163, 6139, 8187, 1031], [1159, 1671, 1415, 2951, 3975, 1095, 1607, 1351, 2887], [1383, 2919, 3943, 1255, 1767, 1511, 3047], [2839, 3863, 1175, 1687, 1431, 2967, 3991, 1111, 1623, 1367, 2903, 3927], [4055, 1079, 1591, 1335, 2871, 3895, 1207, 1719, 1463], [1399, 2935, 3959, 1271, 2807, 3831, 1527], [1295, 2831, 3855, 1167, 1679, 1423, 2959, 3983, 1103, 1615], [1743, 1487, 3023, 4047, 1071, 1583, 1327, 2863, 3887, 1199], [1135, 1647, 1391, 2927, 3951, 1263], [3015, 4039, 1063, 1575, 1319, 2855, 3879, 1191, 1703, 1447], [7851, 2475, 5547, 7595, 5035, 7083, 6059, 8107, 2155, 5227, 7275, 2667, 5739, 7787, 2411, 5483, 7531, 2923, 5995, 8043, 2283, 5355, 7403, 2795]]
theorem m_el_d : ∀ i, i < 13 → ∀ j, j < (st_txt.map List.length).getD i 0 → gp NW ((m_el_i.getD i []).getD j 0) = Cond.eq (.elem (.field (tm_s.getD i (.int 0)) "java/lang/String" "value" "[B") (.int (Int32.ofNat j))) (.int ((st_txt.getD i []).getD j 0)) := by decide +kernel
theorem m_el : ∀ i, i < 13 → ∀ j, j < (st_txt.map List.length).getD i 0 → NWm (Cond.eq (.elem (.field (tm_s.getD i (.int 0)) "java/lang/String" "value" "[B") (.int (Int32.ofNat j))) (.int ((st_txt.getD i []).getD j 0))) := fun i hi j hj => ⟨_, m_el_d i hi j hj⟩
