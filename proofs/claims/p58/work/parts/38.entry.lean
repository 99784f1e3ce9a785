set_option maxHeartbeats 4000000 in
set_option maxRecDepth 100000 in
theorem st_entry {s : State} {b L : Nat} {xs : Nat → Int32} (hL : L ≤ 260) (hX : va_X b L xs s s.heap) (hbl : b < s.heap.size) (hts : ∀ w ∈ lw_tbl, w.before #[Value.ref b] s = true) (hgv : (Jvm.Cond.and given_1 narrow_1).before #[Value.ref b] s = true) : (∀ w ∈ lw_all, w.before #[Value.ref b] s = true) ∧ ∃ E : ET, E.2 0 = s.heap.size ∧ E.2 18 = b ∧ E.2 19 = L ∧ ST E s := by
  have hn : ∀ w, NWm w → w.before #[Value.ref b] s = true := fun w h => by obtain ⟨n, rfl⟩ := h; exact gp_b _ n hgv
  have ht : ∀ w ∈ tables_1, w.before #[Value.ref b] s = true := fun w h => hts w (ltb h)
  have ha : ∀ w ∈ lw_all, w.before #[Value.ref b] s = true := by
    intro w hw
    rcases lwt hw with h | h
    · exact nomatch h
    · exact hts w h
  refine ⟨ha, ?_⟩
  have hA0 : ∀ a : Nat, a < s.heap.size → ¬ (fun q : Nat => s.heap.size ≤ q) a := fun a h => Nat.not_le.mpr h
  generalize hAe : (fun q : Nat => s.heap.size ≤ q) = A0 at hA0
  obtain ⟨t10, e10, T10⟩ := va_Tof (tm := (.static RX10 "CONSONANCES" "[I")) (ty := .int) (N := 12) (f := fun j => Value.int (tb_cons.getD j 0)) (A := A0) (by decide) (hn _ ⟨3689, by decide +kernel⟩) (va_eqv (hn (Cond.eq (.length (.static RX10 "CONSONANCES" "[I")) (.int 12)) ⟨1385, by decide +kernel⟩) rfl) (fun j hj => va_eqv (hn _ (m_a10 j hj)) rfl) hA0
  have Z10 := va_Zref (ht _ (List.mem_of_getElem? (i := 854) (by decide +kernel))) (ht _ (List.mem_of_getElem? (i := 1) (by decide +kernel))) e10 hA0
  obtain ⟨t11, e11, T11⟩ := va_Tof (tm := (.static RX10 "THIRDS" "[I")) (ty := .int) (N := 12) (f := fun j => Value.int (tb_thirds.getD j 0)) (A := A0) (by decide) (hn _ ⟨2841, by decide +kernel⟩) (va_eqv (hn (Cond.eq (.length (.static RX10 "THIRDS" "[I")) (.int 12)) ⟨3865, by decide +kernel⟩) rfl) (fun j hj => va_eqv (hn _ (m_a11 j hj)) rfl) hA0
  have Z11 := va_Zref (ht _ (List.mem_of_getElem? (i := 878) (by decide +kernel))) (ht _ (List.mem_of_getElem? (i := 1) (by decide +kernel))) e11 hA0
  obtain ⟨t12, e12, T12⟩ := va_Tof (tm := (.static RX6 "MAJOR" "[I")) (ty := .int) (N := 12) (f := fun j => Value.int (tb_major.getD j 0)) (A := A0) (by decide) (hn _ ⟨1121, by decide +kernel⟩) (va_eqv (hn (Cond.eq (.length (.static RX6 "MAJOR" "[I")) (.int 12)) ⟨2657, by decide +kernel⟩) rfl) (fun j hj => va_eqv (hn _ (m_a12 j hj)) rfl) hA0
  have Z12 := va_Zref (ht _ (List.mem_of_getElem? (i := 407) (by decide +kernel))) (ht _ (List.mem_of_getElem? (i := 3) (by decide +kernel))) e12 hA0
  obtain ⟨t13, e13, T13⟩ := va_Tof (tm := (.static RX6 "MINOR" "[I")) (ty := .int) (N := 12) (f := fun j => Value.int (tb_minor.getD j 0)) (A := A0) (by decide) (hn _ ⟨3521, by decide +kernel⟩) (va_eqv (hn (Cond.eq (.length (.static RX6 "MINOR" "[I")) (.int 12)) ⟨3009, by decide +kernel⟩) rfl) (fun j hj => va_eqv (hn _ (m_a13 j hj)) rfl) hA0
  have Z13 := va_Zref (ht _ (List.mem_of_getElem? (i := 405) (by decide +kernel))) (ht _ (List.mem_of_getElem? (i := 3) (by decide +kernel))) e13 hA0
  obtain ⟨t14, e14, T14⟩ := va_Tof (tm := (.static RX0 "$SwitchMap$ValleyBells$Command" "[I")) (ty := .int) (N := 12) (f := fun j => Value.int (tb_switch.getD j 0)) (A := A0) (by decide) (hn _ ⟨2689, by decide +kernel⟩) (va_eqv (hn (Cond.eq (.length (.static RX0 "$SwitchMap$ValleyBells$Command" "[I")) (.int 12)) ⟨3713, by decide +kernel⟩) rfl) (fun j hj => va_eqv (hn _ (m_a14 j hj)) rfl) hA0
  have Z14 := va_Zref (ht _ (List.mem_of_getElem? (i := 334) (by decide +kernel))) (ht _ (List.mem_of_getElem? (i := 22) (by decide +kernel))) e14 hA0
  obtain ⟨en, hEn, hev⟩ := va_Enof2 (E := RX4) (d := "LValleyBells$Command;") (nm := nm_cmd) (F := [("java/lang/Enum", "ordinal", "I", [0, 1, 2, 3, 4, 5, 6, 7, 8, 9, 10, 11])]) (A := A0) (fun i hi => ht _ (m_el1 i hi)) (ht _ (List.mem_of_getElem? (i := 20) (by decide +kernel))) (fun i hi => hn _ (m_ee i hi)) (fun q hq i hi => by rcases List.mem_cons.mp hq with rfl | hq; exact hn _ (m_eo i hi); exact nomatch hq) (fun i j hi hj hne => (m_ed i hi j hj hne).elim (fun h => Or.inl (hn _ h)) (fun h => Or.inr (hn _ h))) hA0
  obtain ⟨t15, e15, T15⟩ := va_Tof (tm := (.static RX10 "COMMANDS" "[LValleyBells$Command;")) (ty := .object "ValleyBells$Command") (N := 12) (f := fun j => Value.ref (en j)) (A := A0) (by decide) (hn _ ⟨3801, by decide +kernel⟩) (va_eqv (hn (Cond.eq (.length (.static RX10 "COMMANDS" "[LValleyBells$Command;")) (.int 12)) ⟨2521, by decide +kernel⟩) rfl) (fun j hj => va_eqv (hn _ (m_cm j hj)) (hev j hj)) hA0
  have Z15 := va_Zref (ht _ (List.mem_of_getElem? (i := 925) (by decide +kernel))) (ht _ (List.mem_of_getElem? (i := 1) (by decide +kernel))) e15 hA0
  have ZC := va_Zof (v := .int 1) (ht _ (List.mem_of_getElem? (i := 239) (by decide +kernel))) (ht _ (List.mem_of_getElem? (i := 12) (by decide +kernel))) (va_eqv (hn (Cond.eq (.static "java/lang/String" "COMPACT_STRINGS" "Z") (.int 1)) ⟨3585, by decide +kernel⟩) rfl) hA0
  have h0 : ∀ i : Nat, ∃ q : Nat × Nat, i < 27 → (tm_s.getD i (.int 0)).eval #[Value.ref b] s none [] s = some (.ref q.1) ∧ va_O "java/lang/String" q.1 A0 s s.heap ∧ va_OF "java/lang/String" "coder" "B" (.int 0) q.1 A0 s s.heap ∧ va_OF "java/lang/String" "value" "[B" (.ref q.2) q.1 A0 s s.heap ∧ va_T .byte q.2 ((st_txt.map List.length).getD i 0) (fun j => .int ((st_txt.getD i []).getD j 0)) A0 s s.heap := by
    intro i
    by_cases hi : i < 27
    · obtain ⟨k, v, ⟨h1, -⟩, h2⟩ := vk_Sof (N := 1) (tm := fun _ => tm_s.getD i (.int 0)) (len := [(st_txt.map List.length).getD i 0]) (byt := [st_txt.getD i []]) (A := A0) (fun z hz => by obtain rfl : z = 0 := (by omega); exact tx_lt i hi) (fun z hz => hn _ (m_ex i hi)) (fun z hz => hn _ (m_co i hi)) (fun z hz => hn _ (m_ar i hi)) (fun z hz => by obtain rfl : z = 0 := (by omega); exact hn _ (m_le i hi)) (fun z hz j hj => by obtain rfl : z = 0 := (by omega); exact hn _ (m_el i hi j hj)) (fun z w hz hw hne => absurd (by omega : z = w) hne) hA0
      obtain ⟨g1, g2, g3, g4⟩ := h1 0 (by decide)
      exact ⟨(k 0, v 0), fun _ => ⟨h2 0 (by decide), g1, g2, g3, g4⟩⟩
    · exact ⟨(0, 0), fun h => absurd h hi⟩
  have hpick : ∃ k v : Nat → Nat, ∀ i, i < 27 → (tm_s.getD i (.int 0)).eval #[Value.ref b] s none [] s = some (.ref (k i)) ∧ va_O "java/lang/String" (k i) A0 s s.heap ∧ va_OF "java/lang/String" "coder" "B" (.int 0) (k i) A0 s s.heap ∧ va_OF "java/lang/String" "value" "[B" (.ref (v i)) (k i) A0 s s.heap ∧ va_T .byte (v i) ((st_txt.map List.length).getD i 0) (fun j => .int ((st_txt.getD i []).getD j 0)) A0 s s.heap := ⟨fun i => (h0 i).choose.1, fun i => (h0 i).choose.2, fun i hi => (h0 i).choose_spec hi⟩
  obtain ⟨adK, adV, hK⟩ := hpick
  have hS : vk_S 27 (st_txt.map List.length) st_txt adK adV A0 s s.heap := by
    refine ⟨fun i hi => (hK i hi).2, fun i j hi hj e => ?_⟩
    obtain ⟨-, -, -, g3, g4⟩ := hK i hi
    obtain ⟨-, -, -, f3, f4⟩ := hK j hj
    rw [← e] at f3
    have e2 : adV i = adV j := by
      have := OF_fun g3 f3
      injection this
    rw [← e2] at f4
    obtain ⟨n1, n2⟩ := T_fun (tx_lt i hi) (tx_lt j hj) g4 f4
    exact tx_ne i hi j hj ⟨n1, fun k hk => by have := n2 k hk; injection this⟩
  have hEf := va_Efof (N := 12) (E := RX4) (d0 := "LValleyBells$Command;") (o := RX4) (n := "form") (d := "Ljava/lang/String;") (nm := nm_cmd) (v := fun i => .ref (adK i)) (tm := fun i => tm_s.getD i (.int 0)) (ad := en) (A := A0) hev (fun i hi => hn _ (m_ef i hi)) (fun i hi => (hK i (by omega)).1) hA0
  have hx0 : ∀ j : Nat, ∃ a : Nat, ∀ q, sr0[j]? = some q → vk_R q.1 q.2.1 q.2.2 a s := by
    intro j
    cases hq : sr0[j]? with
    | none => exact ⟨0, fun q h => nomatch h⟩
    | some q =>
      obtain ⟨a, -, -, -, h1, -⟩ := Cond.exactly_spec (hn _ (m_s2 q (List.mem_of_getElem? hq)))
      exact ⟨a, fun q9 h9 => by cases Option.some.inj h9; exact vk_R.of (ht _ (m_s1 q (List.mem_of_getElem? hq))) h1⟩
  have hx1 : ∃ tx : Nat → Nat, ∀ j q, sr0[j]? = some q → vk_R q.1 q.2.1 q.2.2 (tx j) s := ⟨fun j => (hx0 j).choose, fun j => (hx0 j).choose_spec⟩
  obtain ⟨tx, htx⟩ := hx1
  have hl0 : vk_R RL 157 "key 7m;tolerance 9;entry 2 3;clear 1" (adK 12) s := vk_R.of (ht _ (List.mem_of_getElem? (i := 1179) (by decide +kernel))) (hK 12 (by decide)).1
  have hl1 : vk_R RL 169 "key 7m;key 12M" (adK 13) s := vk_R.of (ht _ (List.mem_of_getElem? (i := 1180) (by decide +kernel))) (hK 13 (by decide)).1
  have hl2 : vk_R RL 177 "remove 12" (adK 14) s := vk_R.of (ht _ (List.mem_of_getElem? (i := 1181) (by decide +kernel))) (hK 14 (by decide)).1
  have hl3 : vk_R RL 179 "tx" (adK 15) s := vk_R.of (ht _ (List.mem_of_getElem? (i := 1182) (by decide +kernel))) (hK 15 (by decide)).1
  have hl4 : vk_R RL 185 "to" (adK 16) s := vk_R.of (ht _ (List.mem_of_getElem? (i := 1183) (by decide +kernel))) (hK 16 (by decide)).1
  have hl5 : vk_R RL 187 "toe" (adK 17) s := vk_R.of (ht _ (List.mem_of_getElem? (i := 1184) (by decide +kernel))) (hK 17 (by decide)).1
  have hl6 : vk_R RL 189 "bell 0 600" (adK 18) s := vk_R.of (ht _ (List.mem_of_getElem? (i := 1185) (by decide +kernel))) (hK 18 (by decide)).1
  have hl7 : vk_R RL 191 "key 1" (adK 19) s := vk_R.of (ht _ (List.mem_of_getElem? (i := 1186) (by decide +kernel))) (hK 19 (by decide)).1
  have hl8 : vk_R RL 193 "tune 0" (adK 20) s := vk_R.of (ht _ (List.mem_of_getElem? (i := 1187) (by decide +kernel))) (hK 20 (by decide)).1
  have hl9 : vk_R RL 195 "clx" (adK 21) s := vk_R.of (ht _ (List.mem_of_getElem? (i := 1188) (by decide +kernel))) (hK 21 (by decide)).1
  have hl10 : vk_R RL 197 "" (adK 22) s := vk_R.of (ht _ (List.mem_of_getElem? (i := 1189) (by decide +kernel))) (hK 22 (by decide)).1
  have hl11 : vk_R RL 199 "fell 0;" (adK 23) s := vk_R.of (ht _ (List.mem_of_getElem? (i := 1190) (by decide +kernel))) (hK 23 (by decide)).1
  have hl12 : vk_R RL 201 "cliff 1+123" (adK 24) s := vk_R.of (ht _ (List.mem_of_getElem? (i := 1191) (by decide +kernel))) (hK 24 (by decide)).1
  have hl13 : vk_R RL 203 "z" (adK 25) s := vk_R.of (ht _ (List.mem_of_getElem? (i := 1192) (by decide +kernel))) (hK 25 (by decide)).1
  have hl14 : vk_R RL 225 "bell 0 6000;bell 1 6400;bell 1 6650;tone 0 0;tone 0 1" (adK 26) s := vk_R.of (ht _ (List.mem_of_getElem? (i := 1193) (by decide +kernel))) (hK 26 (by decide)).1
  obtain ⟨c1, k1, p1, f1, g1, r1⟩ := Cond.arrayClass_spec (ht (.arrayClass .int) (List.mem_of_getElem? (i := 83) (by decide +kernel)))
  obtain ⟨c2, k2, p2, f2, g2, r2⟩ := Cond.arrayClass_spec (ht (.arrayClass .char) (List.mem_of_getElem? (i := 208) (by decide +kernel)))
  obtain ⟨c3, k3, p3, f3, g3, r3⟩ := Cond.arrayClass_spec (ht (.arrayClass .byte) (List.mem_of_getElem? (i := 258) (by decide +kernel)))
  have o4 : (Cond.arrayOver (.object "ValleyBells$Valley")).before #[Value.ref b] s = true := ht _ (List.mem_of_getElem? (i := 152) (by decide +kernel))
  obtain ⟨p4, c4, k4, u4, -, g4, r4, f4⟩ := Cond.arrayOver_spec o4
  have o5 : (Cond.arrayOver (.object "ValleyBells$Command")).before #[Value.ref b] s = true := ht _ (List.mem_of_getElem? (i := 172) (by decide +kernel))
  obtain ⟨p5, c5, k5, u5, -, g5, r5, f5⟩ := Cond.arrayOver_spec o5
  have TS : va_T .int b L (fun j => .int (xs j)) A0 s s.heap := by
    obtain ⟨scr, w1, w2, w3, w4, w5⟩ := hX
    exact ⟨scr, w1, w2, w3, Nat.le_of_eq w4.symm, by rw [w4], w5, hA0 b hbl⟩
  obtain ⟨cc0, ii0, hh0⟩ := u_known (T := TJ0) (N := 2) ha in_J0 (ht _ ii_J0)
  obtain ⟨cc1, ii1, hh1⟩ := u_known (T := TJ4) (N := 4) ha in_J4 (ht _ ii_J4)
  obtain ⟨cc2, ii2, hh2⟩ := u_known (T := TJx00060) (N := 6) ht iq_Jx00060 (ht _ ii_Jx00060)
  obtain ⟨cc3, ii3, hh3⟩ := u_known (T := TX1) (N := 3) ha in_X1 (ht _ ii_X1)
  obtain ⟨cc4, ii4, hh4⟩ := u_known (T := TX2) (N := 3) ha in_X2 (ht _ ii_X2)
  obtain ⟨cc5, ii5, hh5⟩ := u_known (T := TX3) (N := 3) ha in_X3 (ht _ ii_X3)
  obtain ⟨cc6, ii6, hh6⟩ := u_known (T := TX5) (N := 3) ha in_X5 (ht _ ii_X5)
  obtain ⟨cc7, ii7, hh7⟩ := u_known (T := TX6) (N := 3) ha in_X6 (ht _ ii_X6)
  obtain ⟨cc8, ii8, hh8⟩ := u_known (T := TX7) (N := 3) ha in_X7 (ht _ ii_X7)
  obtain ⟨cc9, ii9, hh9⟩ := u_known (T := TX8) (N := 11) ha in_X8 (ht _ ii_X8)
  obtain ⟨cc10, ii10, hh10⟩ := u_known (T := TX9) (N := 4) ha in_X9 (ht _ ii_X9)
  obtain ⟨cc11, ii11, hh11⟩ := u_known (T := TX10) (N := 10) ha in_X10 (ht _ ii_X10)
  refine ⟨((fun k => [cc0, cc1, cc2, cc3, cc4, cc5, cc6, cc7, cc8, cc9, cc10, cc11].getD k 0, fun k => [ii0, ii1, ii2, ii3, ii4, ii5, ii6, ii7, ii8, ii9, ii10, ii11].getD k (fun _ => 0)), fun j => if j < 100 then [s.heap.size, c1, c2, c3, c4, c5, 0, 0, 0, 0, t10, t11, t12, t13, t14, t15, 0, 0, b, L].getD j 0 else if j < 200 then en (j - 100) else if j < 300 then adK (j - 200) else if j < 400 then adV (j - 300) else if j < 1000 then tx (j - 400) else (xs (j - 1000)).toUInt32.toNat), rfl, rfl, rfl, ?_⟩
  have x1 : ∀ i, i < 12 → en i = (if 100 + i < 100 then [s.heap.size, c1, c2, c3, c4, c5, 0, 0, 0, 0, t10, t11, t12, t13, t14, t15, 0, 0, b, L].getD (100 + i) 0 else if 100 + i < 200 then en (100 + i - 100) else if 100 + i < 300 then adK (100 + i - 200) else if 100 + i < 400 then adV (100 + i - 300) else if 100 + i < 1000 then tx (100 + i - 400) else (xs (100 + i - 1000)).toUInt32.toNat) := fun i hi => by rw [if_neg (by omega), if_pos (by omega), show 100 + i - 100 = i by omega]
  have x2 : ∀ i, i < 27 → adK i = (if 200 + i < 100 then [s.heap.size, c1, c2, c3, c4, c5, 0, 0, 0, 0, t10, t11, t12, t13, t14, t15, 0, 0, b, L].getD (200 + i) 0 else if 200 + i < 200 then en (200 + i - 100) else if 200 + i < 300 then adK (200 + i - 200) else if 200 + i < 400 then adV (200 + i - 300) else if 200 + i < 1000 then tx (200 + i - 400) else (xs (200 + i - 1000)).toUInt32.toNat) := fun i hi => by rw [if_neg (by omega), if_neg (by omega), if_pos (by omega), show 200 + i - 200 = i by omega]
  have x3 : ∀ i, i < 27 → adV i = (if 300 + i < 100 then [s.heap.size, c1, c2, c3, c4, c5, 0, 0, 0, 0, t10, t11, t12, t13, t14, t15, 0, 0, b, L].getD (300 + i) 0 else if 300 + i < 200 then en (300 + i - 100) else if 300 + i < 300 then adK (300 + i - 200) else if 300 + i < 400 then adV (300 + i - 300) else if 300 + i < 1000 then tx (300 + i - 400) else (xs (300 + i - 1000)).toUInt32.toNat) := fun i hi => by rw [if_neg (by omega), if_neg (by omega), if_neg (by omega), if_pos (by omega), show 300 + i - 300 = i by omega]
  subst hAe
  refine ⟨⟨fun k q hq => ?_, fun k q hq => ?_⟩, fun q hq => va_Nw.of rfl (ht _ (m_nm q hq)), fun q hq => va_Nw.of rfl (ht _ (m_nf q hq)), fun q hq => ?_, fun q hq => ?_, En_cg x1 hEn, Ef_cg x1 (fun i hi => congrArg Value.ref (x2 i (by omega))) hEf, S_cg x2 x3 hS, fun q hq => ?_, vx_Zqof (ht _ (List.mem_of_getElem? (i := 487) (by decide +kernel))) (ht _ (List.mem_of_getElem? (i := 14) (by decide +kernel))) (hn _ ⟨2577, by decide +kernel⟩) hA0, vx_Zqof (ht _ (List.mem_of_getElem? (i := 489) (by decide +kernel))) (ht _ (List.mem_of_getElem? (i := 14) (by decide +kernel))) (hn _ ⟨3601, by decide +kernel⟩) hA0, fun q hq => va_Nc.of (hn _ (m_nc q hq)), fun q hq => va_Nw.of rfl (ht _ (m_cs q hq)), va_AO.of o4, va_AO.of o5, va_Zqof (ht _ (List.mem_of_getElem? (i := 954) (by decide +kernel))) (ht _ (List.mem_of_getElem? (i := 28) (by decide +kernel))) (hn _ ⟨3001, by decide +kernel⟩) hA0, fun q hq => va_Nw.of rfl (ht _ (m_dc q hq)), fun q hq => ?_⟩
  · match k, hq with
    | 0, hq => cases hq; exact hh0
    | 1, hq => cases hq; exact hh1
    | 2, hq => cases hq; exact hh2
    | 3, hq => cases hq; exact hh3
    | 4, hq => cases hq; exact hh4
    | 5, hq => cases hq; exact hh5
    | 6, hq => cases hq; exact hh6
    | 7, hq => cases hq; exact hh7
    | 8, hq => cases hq; exact hh8
    | 9, hq => cases hq; exact hh9
    | 10, hq => cases hq; exact hh10
    | 11, hq => cases hq; exact hh11
    | k + 12, hq => exact nomatch hq
  · match k, hq with
    | 0, hq => cases hq; exact ⟨fun N z => ⟨(fun k h => by cases h), k1, g1, p1, r1⟩, f1⟩
    | 1, hq => cases hq; exact ⟨fun N z => ⟨(fun k h => by cases h), k2, g2, p2, r2⟩, f2⟩
    | 2, hq => cases hq; exact ⟨fun N z => ⟨(fun k h => by cases h), k3, g3, p3, r3⟩, f3⟩
    | 3, hq => cases hq; exact ⟨fun N z => ⟨(fun k h => by cases h), k4, g4, p4, r4⟩, k4, p4, g4, r4, u4, f4⟩
    | 4, hq => cases hq; exact ⟨fun N z => ⟨(fun k h => by cases h), k5, g5, p5, r5⟩, k5, p5, g5, r5, u5, f5⟩
    | k + 5, hq => exact nomatch hq
  · obtain ⟨k, hk⟩ := List.getElem?_of_mem hq
    match k, hk with
    | 0, hk => cases hk; exact Z10
    | 1, hk => cases hk; exact Z11
    | 2, hk => cases hk; exact Z12
    | 3, hk => cases hk; exact Z13
    | 4, hk => cases hk; exact Z14
    | 5, hk => cases hk; exact Z15
    | 6, hk => cases hk; exact ZC
    | k + 7, hk => exact nomatch hk
  · obtain ⟨k, hk⟩ := List.getElem?_of_mem hq
    match k, hk with
    | 0, hk => cases hk; exact T10
    | 1, hk => cases hk; exact T11
    | 2, hk => cases hk; exact T12
    | 3, hk => cases hk; exact T13
    | 4, hk => cases hk; exact T14
    | 5, hk => cases hk; exact T_cg (fun j hj => congrArg Value.ref (x1 j hj)) T15
    | 6, hk => cases hk; exact T_cg (fun j _ => congrArg Value.int (by show xs j = Int32.ofNat (if 1000 + j < 100 then _ else if 1000 + j < 200 then _ else if 1000 + j < 300 then _ else if 1000 + j < 400 then _ else if 1000 + j < 1000 then _ else _); rw [if_neg (by omega), if_neg (by omega), if_neg (by omega), if_neg (by omega), if_neg (by omega), show 1000 + j - 1000 = j by omega]; exact (sx_of _).symm)) TS
    | k + 7, hk => exact nomatch hk
  · obtain ⟨k, hk⟩ := List.getElem?_of_mem hq
    match k, hk with
    | 0, hk => cases hk; exact htx 0 (RX10, 378, "an index is out of range") rfl
    | 1, hk => cases hk; exact htx 1 (RX10, 380, "an argument is out of range") rfl
    | 2, hk => cases hk; exact htx 2 (RX10, 382, "the valley does not allow it") rfl
    | 3, hk => cases hk; exact htx 3 (RX10, 386, "no such bell") rfl
    | 4, hk => cases hk; exact htx 4 (RX10, 157, "no such rank") rfl
    | 5, hk => cases hk; exact htx 5 (RX10, 390, "there are no bells") rfl
    | 6, hk => cases hk; exact htx 6 (RX10, 184, "no such pitch class") rfl
    | 7, hk => cases hk; exact htx 7 (RX10, 396, "no such herd") rfl
    | 8, hk => cases hk; exact htx 8 (RX10, 210, "no such position") rfl
    | 9, hk => cases hk; exact htx 9 (RX10, 222, "no canon") rfl
    | 10, hk => cases hk; exact htx 10 (RX10, 401, "nothing sounds") rfl
    | 11, hk => cases hk; exact htx 11 (RX10, 299, "the text is not a program") rfl
    | 12, hk => cases hk; exact htx 12 (RX10, 317, "a command failed") rfl
    | 13, hk => cases hk; exact htx 13 (RX10, 326, "no failed command was stored") rfl
    | 14, hk => cases hk; exact htx 14 (RX10, 365, "no call can be undone") rfl
    | 15, hk => cases hk; exact htx 15 (RX10, 370, "no state was saved") rfl
    | 16, hk => cases hk; exact htx 16 (RX10, 286, "the text buffer is full") rfl
    | 17, hk => cases hk; exact htx 17 (RX10, 399, "no such cliff") rfl
    | 18, hk => cases hk; exact htx 18 (RX10, 324, "no error position was stored") rfl
    | 19, hk => cases hk; exact hl0
    | 20, hk => cases hk; exact hl1
    | 21, hk => cases hk; exact hl2
    | 22, hk => cases hk; exact hl3
    | 23, hk => cases hk; exact hl4
    | 24, hk => cases hk; exact hl5
    | 25, hk => cases hk; exact hl6
    | 26, hk => cases hk; exact hl7
    | 27, hk => cases hk; exact hl8
    | 28, hk => cases hk; exact hl9
    | 29, hk => cases hk; exact hl10
    | 30, hk => cases hk; exact hl11
    | 31, hk => cases hk; exact hl12
    | 32, hk => cases hk; exact hl13
    | 33, hk => cases hk; exact hl14
    | k + 34, hk => exact nomatch hk
  · obtain ⟨k, hk⟩ := List.getElem?_of_mem hq
    match k, hk with
    | 0, hk => cases hk; exact f1
    | 1, hk => cases hk; exact f2
    | 2, hk => cases hk; exact f3
    | 3, hk => cases hk; exact f4
    | 4, hk => cases hk; exact f5
    | k + 5, hk => exact nomatch hk
