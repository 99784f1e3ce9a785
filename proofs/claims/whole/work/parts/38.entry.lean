set_option maxHeartbeats 4000000 in
set_option maxRecDepth 100000 in
theorem st_entry {s : State} {b : Nat} (hts : ∀ w ∈ lw_tbl, w.before #[Value.ref b] s = true) (hgv : (Jvm.Cond.and given_1 narrow_1).before #[Value.ref b] s = true) : (∀ w ∈ lw_all, w.before #[Value.ref b] s = true) ∧ ∃ E : ET, E.2 0 = s.heap.size ∧ ST E s := by
  have hn : ∀ w, NWm w → w.before #[Value.ref b] s = true := fun w h => by obtain ⟨n, rfl⟩ := h; exact gp_b _ n hgv
  have ht : ∀ w ∈ tables_1, w.before #[Value.ref b] s = true := fun w h => hts w (ltb h)
  have ha : ∀ w ∈ lw_all, w.before #[Value.ref b] s = true := by
    intro w hw
    rcases lwt hw with h | h
    · rcases List.mem_cons.mp h with rfl | h
      · exact sel_private (n := 4) (ht _ (List.mem_of_getElem? (i := 236) (by decide +kernel))) (ht _ (List.mem_of_getElem? (i := 516) (by decide +kernel))) (ht _ (List.mem_of_getElem? (i := 517) (by decide +kernel))) (ht _ (List.mem_of_getElem? (i := 2054) (by decide +kernel))) (by decide +kernel)
      · rcases List.mem_cons.mp h with rfl | h
        · exact sel_private (n := 4) (ht _ (List.mem_of_getElem? (i := 236) (by decide +kernel))) (ht _ (List.mem_of_getElem? (i := 520) (by decide +kernel))) (ht _ (List.mem_of_getElem? (i := 521) (by decide +kernel))) (ht _ (List.mem_of_getElem? (i := 2055) (by decide +kernel))) (by decide +kernel)
        · exact nomatch h
    · exact hts w h
  refine ⟨ha, ?_⟩
  have hA0 : ∀ a : Nat, a < s.heap.size → ¬ (fun q : Nat => s.heap.size ≤ q) a := fun a h => Nat.not_le.mpr h
  generalize hAe : (fun q : Nat => s.heap.size ≤ q) = A0 at hA0
  obtain ⟨t10, e10, T10⟩ := va_Tof (tm := (.static RX10 "CONSONANCES" "[I")) (ty := .int) (N := 12) (f := fun j => Value.int (tb_cons.getD j 0)) (A := A0) (by decide) (hn _ ⟨2881, by decide +kernel⟩) (va_eqv (hn (Cond.eq (.length (.static RX10 "CONSONANCES" "[I")) (.int 12)) ⟨5953, by decide +kernel⟩) rfl) (fun j hj => va_eqv (hn _ (m_a10 j hj)) rfl) hA0
  have Z10 := va_Zref (ht _ (List.mem_of_getElem? (i := 417) (by decide +kernel))) (ht _ (List.mem_of_getElem? (i := 1) (by decide +kernel))) e10 hA0
  obtain ⟨t11, e11, T11⟩ := va_Tof (tm := (.static RX10 "THIRDS" "[I")) (ty := .int) (N := 12) (f := fun j => Value.int (tb_thirds.getD j 0)) (A := A0) (by decide) (hn _ ⟨8129, by decide +kernel⟩) (va_eqv (hn (Cond.eq (.length (.static RX10 "THIRDS" "[I")) (.int 12)) ⟨2081, by decide +kernel⟩) rfl) (fun j hj => va_eqv (hn _ (m_a11 j hj)) rfl) hA0
  have Z11 := va_Zref (ht _ (List.mem_of_getElem? (i := 441) (by decide +kernel))) (ht _ (List.mem_of_getElem? (i := 1) (by decide +kernel))) e11 hA0
  obtain ⟨t12, e12, T12⟩ := va_Tof (tm := (.static RX6 "MAJOR" "[I")) (ty := .int) (N := 12) (f := fun j => Value.int (tb_major.getD j 0)) (A := A0) (by decide) (hn _ ⟨5505, by decide +kernel⟩) (va_eqv (hn (Cond.eq (.length (.static RX6 "MAJOR" "[I")) (.int 12)) ⟨7553, by decide +kernel⟩) rfl) (fun j hj => va_eqv (hn _ (m_a12 j hj)) rfl) hA0
  have Z12 := va_Zref (ht _ (List.mem_of_getElem? (i := 328) (by decide +kernel))) (ht _ (List.mem_of_getElem? (i := 3) (by decide +kernel))) e12 hA0
  obtain ⟨t13, e13, T13⟩ := va_Tof (tm := (.static RX6 "MINOR" "[I")) (ty := .int) (N := 12) (f := fun j => Value.int (tb_minor.getD j 0)) (A := A0) (by decide) (hn _ ⟨5633, by decide +kernel⟩) (va_eqv (hn (Cond.eq (.length (.static RX6 "MINOR" "[I")) (.int 12)) ⟨7681, by decide +kernel⟩) rfl) (fun j hj => va_eqv (hn _ (m_a13 j hj)) rfl) hA0
  have Z13 := va_Zref (ht _ (List.mem_of_getElem? (i := 326) (by decide +kernel))) (ht _ (List.mem_of_getElem? (i := 3) (by decide +kernel))) e13 hA0
  obtain ⟨t14, e14, T14⟩ := va_Tof (tm := (.static RX0 "$SwitchMap$ValleyBells$Command" "[I")) (ty := .int) (N := 12) (f := fun j => Value.int (tb_switch.getD j 0)) (A := A0) (by decide) (hn _ ⟨5737, by decide +kernel⟩) (va_eqv (hn (Cond.eq (.length (.static RX0 "$SwitchMap$ValleyBells$Command" "[I")) (.int 12)) ⟨7785, by decide +kernel⟩) rfl) (fun j hj => va_eqv (hn _ (m_a14 j hj)) rfl) hA0
  have Z14 := va_Zref (ht _ (List.mem_of_getElem? (i := 912) (by decide +kernel))) (ht _ (List.mem_of_getElem? (i := 23) (by decide +kernel))) e14 hA0
  obtain ⟨t16, e16, T16⟩ := va_Tof (tm := (.static "java/lang/Integer" "DigitTens" "[B")) (ty := .byte) (N := 100) (f := fun j => Value.int (tb_tens.getD j 0)) (A := A0) (by decide) (hn _ ⟨5041, by decide +kernel⟩) (va_eqv (hn (Cond.eq (.length (.static "java/lang/Integer" "DigitTens" "[B")) (.int 100)) ⟨7089, by decide +kernel⟩) rfl) (fun j hj => va_eqv (hn _ (m_a16 j hj)) rfl) hA0
  have Z16 := va_Zref (ht _ (List.mem_of_getElem? (i := 640) (by decide +kernel))) (ht _ (List.mem_of_getElem? (i := 36) (by decide +kernel))) e16 hA0
  obtain ⟨t17, e17, T17⟩ := va_Tof (tm := (.static "java/lang/Integer" "DigitOnes" "[B")) (ty := .byte) (N := 100) (f := fun j => Value.int (tb_ones.getD j 0)) (A := A0) (by decide) (hn _ ⟨2465, by decide +kernel⟩) (va_eqv (hn (Cond.eq (.length (.static "java/lang/Integer" "DigitOnes" "[B")) (.int 100)) ⟨5537, by decide +kernel⟩) rfl) (fun j hj => va_eqv (hn _ (m_a17 j hj)) rfl) hA0
  have Z17 := va_Zref (ht _ (List.mem_of_getElem? (i := 638) (by decide +kernel))) (ht _ (List.mem_of_getElem? (i := 36) (by decide +kernel))) e17 hA0
  obtain ⟨en, hEn, hev⟩ := va_Enof2 (E := RX4) (d := "LValleyBells$Command;") (nm := nm_cmd) (F := [("java/lang/Enum", "ordinal", "I", [0, 1, 2, 3, 4, 5, 6, 7, 8, 9, 10, 11])]) (A := A0) (fun i hi => ht _ (m_el1 i hi)) (ht _ (List.mem_of_getElem? (i := 21) (by decide +kernel))) (fun i hi => hn _ (m_ee i hi)) (fun q hq i hi => by rcases List.mem_cons.mp hq with rfl | hq; exact hn _ (m_eo i hi); exact nomatch hq) (fun i j hi hj hne => (m_ed i hi j hj hne).elim (fun h => Or.inl (hn _ h)) (fun h => Or.inr (hn _ h))) hA0
  obtain ⟨t15, e15, T15⟩ := va_Tof (tm := (.static RX10 "COMMANDS" "[LValleyBells$Command;")) (ty := .object "ValleyBells$Command") (N := 12) (f := fun j => Value.ref (en j)) (A := A0) (by decide) (hn _ ⟨5625, by decide +kernel⟩) (va_eqv (hn (Cond.eq (.length (.static RX10 "COMMANDS" "[LValleyBells$Command;")) (.int 12)) ⟨7673, by decide +kernel⟩) rfl) (fun j hj => va_eqv (hn _ (m_cm j hj)) (hev j hj)) hA0
  have Z15 := va_Zref (ht _ (List.mem_of_getElem? (i := 1405) (by decide +kernel))) (ht _ (List.mem_of_getElem? (i := 1) (by decide +kernel))) e15 hA0
  have ZC := va_Zof (v := .int 1) (ht _ (List.mem_of_getElem? (i := 245) (by decide +kernel))) (ht _ (List.mem_of_getElem? (i := 12) (by decide +kernel))) (va_eqv (hn (Cond.eq (.static "java/lang/String" "COMPACT_STRINGS" "Z") (.int 1)) ⟨7169, by decide +kernel⟩) rfl) hA0
  have h0 : ∀ i : Nat, ∃ q : Nat × Nat, i < 13 → (tm_s.getD i (.int 0)).eval #[Value.ref b] s none [] s = some (.ref q.1) ∧ va_O "java/lang/String" q.1 A0 s s.heap ∧ va_OF "java/lang/String" "coder" "B" (.int 0) q.1 A0 s s.heap ∧ va_OF "java/lang/String" "value" "[B" (.ref q.2) q.1 A0 s s.heap ∧ va_T .byte q.2 ((st_txt.map List.length).getD i 0) (fun j => .int ((st_txt.getD i []).getD j 0)) A0 s s.heap := by
    intro i
    by_cases hi : i < 13
    · obtain ⟨k, v, ⟨h1, -⟩, h2⟩ := vk_Sof (N := 1) (tm := fun _ => tm_s.getD i (.int 0)) (len := [(st_txt.map List.length).getD i 0]) (byt := [st_txt.getD i []]) (A := A0) (fun z hz => by obtain rfl : z = 0 := (by omega); exact tx_lt i hi) (fun z hz => hn _ (m_ex i hi)) (fun z hz => hn _ (m_co i hi)) (fun z hz => hn _ (m_ar i hi)) (fun z hz => by obtain rfl : z = 0 := (by omega); exact hn _ (m_le i hi)) (fun z hz j hj => by obtain rfl : z = 0 := (by omega); exact hn _ (m_el i hi j hj)) (fun z w hz hw hne => absurd (by omega : z = w) hne) hA0
      obtain ⟨g1, g2, g3, g4⟩ := h1 0 (by decide)
      exact ⟨(k 0, v 0), fun _ => ⟨h2 0 (by decide), g1, g2, g3, g4⟩⟩
    · exact ⟨(0, 0), fun h => absurd h hi⟩
  have hpick : ∃ k v : Nat → Nat, ∀ i, i < 13 → (tm_s.getD i (.int 0)).eval #[Value.ref b] s none [] s = some (.ref (k i)) ∧ va_O "java/lang/String" (k i) A0 s s.heap ∧ va_OF "java/lang/String" "coder" "B" (.int 0) (k i) A0 s s.heap ∧ va_OF "java/lang/String" "value" "[B" (.ref (v i)) (k i) A0 s s.heap ∧ va_T .byte (v i) ((st_txt.map List.length).getD i 0) (fun j => .int ((st_txt.getD i []).getD j 0)) A0 s s.heap := ⟨fun i => (h0 i).choose.1, fun i => (h0 i).choose.2, fun i hi => (h0 i).choose_spec hi⟩
  obtain ⟨adK, adV, hK⟩ := hpick
  have hS : vk_S 13 (st_txt.map List.length) st_txt adK adV A0 s s.heap := by
    refine ⟨fun i hi => (hK i hi).2, fun i j hi hj e => ?_⟩
    obtain ⟨-, -, -, g3, g4⟩ := hK i hi
    obtain ⟨-, -, -, f3, f4⟩ := hK j hj
    rw [← e] at f3
    have e2 : adV i = adV j := by
      have := OF_fun g3 f3
      injection this
    rw [← e2] at f4
    obtain ⟨n1, n2⟩ := T_fun (tx_lt i hi) (tx_lt j hj) g4 f4
    exact tx_ne i hi j hj ⟨n1, fun k hk => by have := n2 k hk; injection this⟩
  have hEf := va_Efof (N := 12) (E := RX4) (d0 := "LValleyBells$Command;") (o := RX4) (n := "form") (d := "Ljava/lang/String;") (nm := nm_cmd) (v := fun i => .ref (adK i)) (tm := fun i => tm_s.getD i (.int 0)) (ad := en) (A := A0) hev (fun i hi => hn _ (m_ef i hi)) (fun i hi => (hK i (by omega)).1) hA0
  have hx0 : ∀ j : Nat, ∃ a : Nat, ∀ q, sr0[j]? = some q → vk_R q.1 q.2.1 q.2.2 a s := by
    intro j
    cases hq : sr0[j]? with
    | none => exact ⟨0, fun q h => nomatch h⟩
    | some q =>
      obtain ⟨a, -, -, -, h1, -⟩ := Cond.exactly_spec (hn _ (m_s2 q (List.mem_of_getElem? hq)))
      exact ⟨a, fun q9 h9 => by cases Option.some.inj h9; exact vk_R.of (ht _ (m_s1 q (List.mem_of_getElem? hq))) h1⟩
  have hx1 : ∃ tx : Nat → Nat, ∀ j q, sr0[j]? = some q → vk_R q.1 q.2.1 q.2.2 (tx j) s := ⟨fun j => (hx0 j).choose, fun j => (hx0 j).choose_spec⟩
  obtain ⟨tx, htx⟩ := hx1
  have hnn : vk_R RX10 403 "C C#D D#E F F#G G#A A#B " (adK 12) s := vk_R.of (ht _ (List.mem_of_getElem? (i := 1509) (by decide +kernel))) (hK 12 (by decide)).1
  obtain ⟨c1, k1, p1, f1, g1, r1⟩ := Cond.arrayClass_spec (ht (.arrayClass .int) (List.mem_of_getElem? (i := 89) (by decide +kernel)))
  obtain ⟨c2, k2, p2, f2, g2, r2⟩ := Cond.arrayClass_spec (ht (.arrayClass .char) (List.mem_of_getElem? (i := 214) (by decide +kernel)))
  obtain ⟨c3, k3, p3, f3, g3, r3⟩ := Cond.arrayClass_spec (ht (.arrayClass .byte) (List.mem_of_getElem? (i := 267) (by decide +kernel)))
  obtain ⟨c4, k4, p4, f4, g4, r4⟩ := Cond.arrayClass_spec (ht (.arrayClass .long) (List.mem_of_getElem? (i := 2049) (by decide +kernel)))
  obtain ⟨c5, k5, p5, f5, g5, r5⟩ := Cond.arrayClass_spec (ht (.arrayClass .double) (List.mem_of_getElem? (i := 2050) (by decide +kernel)))
  have o6 : (Cond.arrayOver (.object "ValleyBells$Valley")).before #[Value.ref b] s = true := ht _ (List.mem_of_getElem? (i := 158) (by decide +kernel))
  obtain ⟨p6, c6, k6, u6, -, g6, r6, f6⟩ := Cond.arrayOver_spec o6
  have o7 : (Cond.arrayOver (.object "ValleyBells$Command")).before #[Value.ref b] s = true := ht _ (List.mem_of_getElem? (i := 178) (by decide +kernel))
  obtain ⟨p7, c7, k7, u7, -, g7, r7, f7⟩ := Cond.arrayOver_spec o7
  obtain ⟨cc0, ii0, hh0⟩ := u_known (T := TJ0) (N := 4) ha in_J0 (ht _ ii_J0)
  obtain ⟨cc1, ii1, hh1⟩ := u_known (T := TJ4) (N := 4) ha in_J4 (ht _ ii_J4)
  obtain ⟨cc2, ii2, hh2⟩ := u_known (T := TJx00060) (N := 6) ht iq_Jx00060 (ht _ ii_Jx00060)
  obtain ⟨cc3, ii3, hh3⟩ := u_known (T := TJx7c733) (N := 6) ht iq_Jx7c733 (ht _ ii_Jx7c733)
  obtain ⟨cc4, ii4, hh4⟩ := u_known (T := TX1) (N := 3) ha in_X1 (ht _ ii_X1)
  obtain ⟨cc5, ii5, hh5⟩ := u_known (T := TX2) (N := 3) ha in_X2 (ht _ ii_X2)
  obtain ⟨cc6, ii6, hh6⟩ := u_known (T := TX3) (N := 3) ha in_X3 (ht _ ii_X3)
  obtain ⟨cc7, ii7, hh7⟩ := u_known (T := TX5) (N := 3) ha in_X5 (ht _ ii_X5)
  obtain ⟨cc8, ii8, hh8⟩ := u_known (T := TX6) (N := 3) ha in_X6 (ht _ ii_X6)
  obtain ⟨cc9, ii9, hh9⟩ := u_known (T := TX7) (N := 3) ha in_X7 (ht _ ii_X7)
  obtain ⟨cc10, ii10, hh10⟩ := u_known (T := TX8) (N := 11) ha in_X8 (ht _ ii_X8)
  obtain ⟨cc11, ii11, hh11⟩ := u_known (T := TX9) (N := 4) ha in_X9 (ht _ ii_X9)
  obtain ⟨cc12, ii12, hh12⟩ := u_known (T := TX10) (N := 10) ha in_X10 (ht _ ii_X10)
  obtain ⟨cc13, ii13, hh13⟩ := u_known (T := TX11) (N := 18) ha in_X11 (ht _ ii_X11)
  refine ⟨((fun k => [cc0, cc1, cc2, cc3, cc4, cc5, cc6, cc7, cc8, cc9, cc10, cc11, cc12, cc13].getD k 0, fun k => [ii0, ii1, ii2, ii3, ii4, ii5, ii6, ii7, ii8, ii9, ii10, ii11, ii12, ii13].getD k (fun _ => 0)), fun j => if j < 100 then [s.heap.size, c1, c2, c3, c4, c5, c6, c7, 0, 0, t10, t11, t12, t13, t14, t15, t16, t17].getD j 0 else if j < 200 then en (j - 100) else if j < 300 then adK (j - 200) else if j < 400 then adV (j - 300) else tx (j - 400)), rfl, ?_⟩
  have x1 : ∀ i, i < 12 → en i = (if 100 + i < 100 then [s.heap.size, c1, c2, c3, c4, c5, c6, c7, 0, 0, t10, t11, t12, t13, t14, t15, t16, t17].getD (100 + i) 0 else if 100 + i < 200 then en (100 + i - 100) else if 100 + i < 300 then adK (100 + i - 200) else if 100 + i < 400 then adV (100 + i - 300) else tx (100 + i - 400)) := fun i hi => by rw [if_neg (by omega), if_pos (by omega), show 100 + i - 100 = i by omega]
  have x2 : ∀ i, i < 13 → adK i = (if 200 + i < 100 then [s.heap.size, c1, c2, c3, c4, c5, c6, c7, 0, 0, t10, t11, t12, t13, t14, t15, t16, t17].getD (200 + i) 0 else if 200 + i < 200 then en (200 + i - 100) else if 200 + i < 300 then adK (200 + i - 200) else if 200 + i < 400 then adV (200 + i - 300) else tx (200 + i - 400)) := fun i hi => by rw [if_neg (by omega), if_neg (by omega), if_pos (by omega), show 200 + i - 200 = i by omega]
  have x3 : ∀ i, i < 13 → adV i = (if 300 + i < 100 then [s.heap.size, c1, c2, c3, c4, c5, c6, c7, 0, 0, t10, t11, t12, t13, t14, t15, t16, t17].getD (300 + i) 0 else if 300 + i < 200 then en (300 + i - 100) else if 300 + i < 300 then adK (300 + i - 200) else if 300 + i < 400 then adV (300 + i - 300) else tx (300 + i - 400)) := fun i hi => by rw [if_neg (by omega), if_neg (by omega), if_neg (by omega), if_pos (by omega), show 300 + i - 300 = i by omega]
  subst hAe
  refine ⟨⟨fun k q hq => ?_, fun k q hq => ?_⟩, fun q hq => va_Nw.of rfl (ht _ (m_nm q hq)), fun q hq => va_Nw.of rfl (ht _ (m_nf q hq)), fun q hq => ?_, fun q hq => ?_, En_cg x1 hEn, Ef_cg x1 (fun i hi => congrArg Value.ref (x2 i (by omega))) hEf, S_cg x2 x3 hS, fun q hq => ?_, vx_Zqof (ht _ (List.mem_of_getElem? (i := 712) (by decide +kernel))) (ht _ (List.mem_of_getElem? (i := 15) (by decide +kernel))) (hn _ ⟨6057, by decide +kernel⟩) hA0, vx_Zqof (ht _ (List.mem_of_getElem? (i := 714) (by decide +kernel))) (ht _ (List.mem_of_getElem? (i := 15) (by decide +kernel))) (hn _ ⟨8105, by decide +kernel⟩) hA0, fun q hq => va_Nc.of (hn _ (m_nc q hq)), fun q hq => va_Nw.of rfl (ht _ (m_cs q hq)), va_AO.of o6, va_AO.of o7, va_Zqof (ht _ (List.mem_of_getElem? (i := 568) (by decide +kernel))) (ht _ (List.mem_of_getElem? (i := 30) (by decide +kernel))) (hn _ ⟨5281, by decide +kernel⟩) hA0, fun q hq => va_Nw.of rfl (ht _ (m_dc q hq)), fun q hq => ?_⟩
  · match k, hq with
    | 0, hq => cases hq; exact hh0
    | 1, hq => cases hq; exact hh1
    | 2, hq => cases hq; exact hh2
    | 3, hq => cases hq; exact hh3
    | 4, hq => cases hq; exact hh4
    | 5, hq => cases hq; exact hh5
    | 6, hq => cases hq; exact hh6
    | 7, hq => cases hq; exact hh7
    | 8, hq => cases hq; exact hh8
    | 9, hq => cases hq; exact hh9
    | 10, hq => cases hq; exact hh10
    | 11, hq => cases hq; exact hh11
    | 12, hq => cases hq; exact hh12
    | 13, hq => cases hq; exact hh13
    | k + 14, hq => exact nomatch hq
  · match k, hq with
    | 0, hq => cases hq; exact ⟨fun N z => ⟨(fun k h => by cases h), k1, g1, p1, r1⟩, f1⟩
    | 1, hq => cases hq; exact ⟨fun N z => ⟨(fun k h => by cases h), k2, g2, p2, r2⟩, f2⟩
    | 2, hq => cases hq; exact ⟨fun N z => ⟨(fun k h => by cases h), k3, g3, p3, r3⟩, f3⟩
    | 3, hq => cases hq; exact ⟨fun N z => ⟨(fun k h => by cases h), k4, g4, p4, r4⟩, f4⟩
    | 4, hq => cases hq; exact ⟨fun N z => ⟨(fun k h => by cases h), k5, g5, p5, r5⟩, f5⟩
    | 5, hq => cases hq; exact ⟨fun N z => ⟨(fun k h => by cases h), k6, g6, p6, r6⟩, k6, p6, g6, r6, u6, f6⟩
    | 6, hq => cases hq; exact ⟨fun N z => ⟨(fun k h => by cases h), k7, g7, p7, r7⟩, k7, p7, g7, r7, u7, f7⟩
    | k + 7, hq => exact nomatch hq
  · obtain ⟨k, hk⟩ := List.getElem?_of_mem hq
    match k, hk with
    | 0, hk => cases hk; exact Z10
    | 1, hk => cases hk; exact Z11
    | 2, hk => cases hk; exact Z12
    | 3, hk => cases hk; exact Z13
    | 4, hk => cases hk; exact Z14
    | 5, hk => cases hk; exact Z15
    | 6, hk => cases hk; exact Z16
    | 7, hk => cases hk; exact Z17
    | 8, hk => cases hk; exact ZC
    | k + 9, hk => exact nomatch hk
  · obtain ⟨k, hk⟩ := List.getElem?_of_mem hq
    match k, hk with
    | 0, hk => cases hk; exact T10
    | 1, hk => cases hk; exact T11
    | 2, hk => cases hk; exact T12
    | 3, hk => cases hk; exact T13
    | 4, hk => cases hk; exact T14
    | 5, hk => cases hk; exact T_cg (fun j hj => congrArg Value.ref (x1 j hj)) T15
    | 6, hk => cases hk; exact T16
    | 7, hk => cases hk; exact T17
    | k + 8, hk => exact nomatch hk
  · obtain ⟨k, hk⟩ := List.getElem?_of_mem hq
    match k, hk with
    | 0, hk => cases hk; exact htx 0 (RX10, 378, "an index is out of range") rfl
    | 1, hk => cases hk; exact htx 1 (RX10, 380, "an argument is out of range") rfl
    | 2, hk => cases hk; exact htx 2 (RX10, 382, "the valley does not allow it") rfl
    | 3, hk => cases hk; exact htx 3 (RX10, 386, "no such bell") rfl
    | 4, hk => cases hk; exact htx 4 (RX10, 157, "no such rank") rfl
    | 5, hk => cases hk; exact htx 5 (RX10, 390, "there are no bells") rfl
    | 6, hk => cases hk; exact htx 6 (RX10, 184, "no such pitch class") rfl
    | 7, hk => cases hk; exact htx 7 (RX10, 396, "no such herd") rfl
    | 8, hk => cases hk; exact htx 8 (RX10, 210, "no such position") rfl
    | 9, hk => cases hk; exact htx 9 (RX10, 222, "no canon") rfl
    | 10, hk => cases hk; exact htx 10 (RX10, 399, "no such cliff") rfl
    | 11, hk => cases hk; exact htx 11 (RX10, 401, "nothing sounds") rfl
    | 12, hk => cases hk; exact htx 12 (RX10, 286, "the text buffer is full") rfl
    | 13, hk => cases hk; exact htx 13 (RX10, 299, "the text is not a program") rfl
    | 14, hk => cases hk; exact htx 14 (RX10, 317, "a command failed") rfl
    | 15, hk => cases hk; exact htx 15 (RX10, 324, "no error position was stored") rfl
    | 16, hk => cases hk; exact htx 16 (RX10, 326, "no failed command was stored") rfl
    | 17, hk => cases hk; exact hnn
    | 18, hk => cases hk; exact htx 17 (RX10, 357, "no such character") rfl
    | 19, hk => cases hk; exact htx 18 (RX10, 365, "no call can be undone") rfl
    | 20, hk => cases hk; exact htx 19 (RX10, 370, "no state was saved") rfl
    | k + 21, hk => exact nomatch hk
  · obtain ⟨k, hk⟩ := List.getElem?_of_mem hq
    match k, hk with
    | 0, hk => cases hk; exact f1
    | 1, hk => cases hk; exact f2
    | 2, hk => cases hk; exact f3
    | 3, hk => cases hk; exact f4
    | 4, hk => cases hk; exact f5
    | 5, hk => cases hk; exact f6
    | 6, hk => cases hk; exact f7
    | k + 7, hk => exact nomatch hk
