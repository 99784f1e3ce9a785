def upH (f : Nat → Valley_t) (k : Nat) (v : Valley_t) : Nat → Valley_t := fun j => if j = k then v else f j
/-- a valley, another copied into it -/
def q_vcp (v y : Valley_t) : Option Valley_t := q_bd (f_X9_copyFrom v.1.1 v.1.2.1 v.1.2.2 v.2.1.1 v.2.1.2.1 v.2.1.2.2 v.2.2.1.1 v.2.2.1.2.1 v.2.2.1.2.2 v.2.2.2.1 v.2.2.2.2.1 v.2.2.2.2.2 y.1.1 y.1.2.1 y.1.2.2 y.2.1.1 y.2.1.2.1 y.2.1.2.2 y.2.2.1.1 y.2.2.1.2.1 y.2.2.1.2.2 y.2.2.2.1 y.2.2.2.2.1 y.2.2.2.2.2) (fun q => some ((q.1, q.2.1, q.2.2.1), (q.2.2.2.1, q.2.2.2.2.1, q.2.2.2.2.2.1), (q.2.2.2.2.2.2.1, q.2.2.2.2.2.2.2.1, q.2.2.2.2.2.2.2.2.1), (q.2.2.2.2.2.2.2.2.2.1, q.2.2.2.2.2.2.2.2.2.2.1, q.2.2.2.2.2.2.2.2.2.2.2)))
theorem q_vcpi {v y v1 : Valley_t} (h : q_vcp v y = some v1) : ∃ q, f_X9_copyFrom v.1.1 v.1.2.1 v.1.2.2 v.2.1.1 v.2.1.2.1 v.2.1.2.2 v.2.2.1.1 v.2.2.1.2.1 v.2.2.1.2.2 v.2.2.2.1 v.2.2.2.2.1 v.2.2.2.2.2 y.1.1 y.1.2.1 y.1.2.2 y.2.1.1 y.2.1.2.1 y.2.1.2.2 y.2.2.1.1 y.2.2.1.2.1 y.2.2.1.2.2 y.2.2.2.1 y.2.2.2.2.1 y.2.2.2.2.2 = some q ∧ v1 = ((q.1, q.2.1, q.2.2.1), (q.2.2.2.1, q.2.2.2.2.1, q.2.2.2.2.2.1), (q.2.2.2.2.2.2.1, q.2.2.2.2.2.2.2.1, q.2.2.2.2.2.2.2.2.1), (q.2.2.2.2.2.2.2.2.2.1, q.2.2.2.2.2.2.2.2.2.2.1, q.2.2.2.2.2.2.2.2.2.2.2)) := by
  obtain ⟨q, h1, h2⟩ := q_bdi h
  exact ⟨q, h1, (Option.some.inj h2).symm⟩
theorem flat_hist {E : ET} {a : Nat → Nat} {o : Nat} {x : Hist_t} {r : List va_W} : List.flatten (w_Hist E a o x :: r) = List.flatten (bl_HistB E a o x ++ r) := by
  rw [List.flatten_append]
  rfl
theorem hc_0 {E : ET} {a : Nat → Nat} {o : Nat} {f : Nat → Valley_t} {c n : Int32} {V : Valley_t} : bl_HistB E a o (upH f 0 V, c, n) = bl_HistC E a o c n V (f 1) (f 2) (f 3) (f 4) (f 5) (f 6) (f 7) (f 8) := rfl
theorem hc_1 {E : ET} {a : Nat → Nat} {o : Nat} {f : Nat → Valley_t} {c n : Int32} {V : Valley_t} : bl_HistB E a o (upH f 1 V, c, n) = bl_HistC E a o c n (f 0) V (f 2) (f 3) (f 4) (f 5) (f 6) (f 7) (f 8) := rfl
theorem hc_2 {E : ET} {a : Nat → Nat} {o : Nat} {f : Nat → Valley_t} {c n : Int32} {V : Valley_t} : bl_HistB E a o (upH f 2 V, c, n) = bl_HistC E a o c n (f 0) (f 1) V (f 3) (f 4) (f 5) (f 6) (f 7) (f 8) := rfl
theorem hc_3 {E : ET} {a : Nat → Nat} {o : Nat} {f : Nat → Valley_t} {c n : Int32} {V : Valley_t} : bl_HistB E a o (upH f 3 V, c, n) = bl_HistC E a o c n (f 0) (f 1) (f 2) V (f 4) (f 5) (f 6) (f 7) (f 8) := rfl
theorem hc_4 {E : ET} {a : Nat → Nat} {o : Nat} {f : Nat → Valley_t} {c n : Int32} {V : Valley_t} : bl_HistB E a o (upH f 4 V, c, n) = bl_HistC E a o c n (f 0) (f 1) (f 2) (f 3) V (f 5) (f 6) (f 7) (f 8) := rfl
theorem hc_5 {E : ET} {a : Nat → Nat} {o : Nat} {f : Nat → Valley_t} {c n : Int32} {V : Valley_t} : bl_HistB E a o (upH f 5 V, c, n) = bl_HistC E a o c n (f 0) (f 1) (f 2) (f 3) (f 4) V (f 6) (f 7) (f 8) := rfl
theorem hc_6 {E : ET} {a : Nat → Nat} {o : Nat} {f : Nat → Valley_t} {c n : Int32} {V : Valley_t} : bl_HistB E a o (upH f 6 V, c, n) = bl_HistC E a o c n (f 0) (f 1) (f 2) (f 3) (f 4) (f 5) V (f 7) (f 8) := rfl
theorem hc_7 {E : ET} {a : Nat → Nat} {o : Nat} {f : Nat → Valley_t} {c n : Int32} {V : Valley_t} : bl_HistB E a o (upH f 7 V, c, n) = bl_HistC E a o c n (f 0) (f 1) (f 2) (f 3) (f 4) (f 5) (f 6) V (f 8) := rfl
theorem hc_8 {E : ET} {a : Nat → Nat} {o : Nat} {f : Nat → Valley_t} {c n : Int32} {V : Valley_t} : bl_HistB E a o (upH f 8 V, c, n) = bl_HistC E a o c n (f 0) (f 1) (f 2) (f 3) (f 4) (f 5) (f 6) (f 7) V := rfl
theorem lt9 {k : Nat} (h : k < 9) : k = 0 ∨ k = 1 ∨ k = 2 ∨ k = 3 ∨ k = 4 ∨ k = 5 ∨ k = 6 ∨ k = 7 ∨ k = 8 := by omega
theorem q_in9 {i : Int32} (h : q_in i 9) : i.toNatClampNeg < 9 := Nat.not_le.mp fun q => h (Or.inr q)

/-! X5_keep -/
theorem dX5_keep_0 : decode cX5_keep 0 = .ok (.aload_n 0, 1) := by decide +kernel
theorem dX5_keep_1 : decode cX5_keep 1 = .ok (.aload_n 0, 1) := by decide +kernel
theorem dX5_keep_2 : decode cX5_keep 2 = .ok (.getfield 15, 3) := by decide +kernel
theorem dX5_keep_5 : decode cX5_keep 5 = .ok (.iconst 1, 1) := by decide +kernel
theorem dX5_keep_6 : decode cX5_keep 6 = .ok (.iadd, 1) := by decide +kernel
theorem dX5_keep_7 : decode cX5_keep 7 = .ok (.bipush 9, 2) := by decide +kernel
theorem dX5_keep_9 : decode cX5_keep 9 = .ok (.irem, 1) := by decide +kernel
theorem dX5_keep_10 : decode cX5_keep 10 = .ok (.putfield 15, 3) := by decide +kernel
theorem dX5_keep_13 : decode cX5_keep 13 = .ok (.aload_n 0, 1) := by decide +kernel
theorem dX5_keep_14 : decode cX5_keep 14 = .ok (.aload_n 0, 1) := by decide +kernel
theorem dX5_keep_15 : decode cX5_keep 15 = .ok (.getfield 19, 3) := by decide +kernel
theorem dX5_keep_18 : decode cX5_keep 18 = .ok (.iconst 1, 1) := by decide +kernel
theorem dX5_keep_19 : decode cX5_keep 19 = .ok (.iadd, 1) := by decide +kernel
theorem dX5_keep_20 : decode cX5_keep 20 = .ok (.bipush 8, 2) := by decide +kernel
theorem dX5_keep_22 : decode cX5_keep 22 = .ok (.invokestatic 27, 3) := by decide +kernel
theorem dX5_keep_25 : decode cX5_keep 25 = .ok (.putfield 19, 3) := by decide +kernel
theorem dX5_keep_28 : decode cX5_keep 28 = .ok (.return_, 1) := by decide +kernel
def f_X5_keep (x_current : Int32) (x_count : Int32) : Option (Int32 × Int32) :=
  some ((x_current + 1) - (x_current + 1) / 9 * 9, if 8 < (x_count + 1) then 8 else (x_count + 1))
theorem hv_X5_keep : yX5_keep.cls = RX5 ∧ yX5_keep.cls ≠ "java/lang/invoke/MethodHandle" ∧ yX5_keep.cls ≠ "java/lang/invoke/VarHandle" ∧ (parseMethodDescriptor yX5_keep.desc).map (fun d => d.parameters.length) = some 0 := by decide +kernel
abbrev rm_X5_keep : Room := { frames := 1, cells := 0, slots := 0, locals := 14 }
set_option maxHeartbeats 4000000 in
set_option maxRecDepth 100000 in
theorem k_X5_keep (l : Launch) (E : ET) (a : Nat → Nat) (o : Nat) (x : Hist_t) (res : Int32 × Int32) (hF : f_X5_keep x.2.1 x.2.2 = some res) (sz : Nat) : CtV l yX5_keep (mws yX5_keep cX5_keep 1 none) rm_X5_keep 0 0 [.ref (a o)] E (bl_Hist E a o x) (bl_Hist E a o (x.1, res.1, res.2)) sz := by
  refine mk_M (by decide +kernel) (Nat.le_of_ble_eq_true rfl) ?_
  intro p e s m below meth c A args Q ls hAe hsz hQ hx hb hr hml hin ha hown hlocks hA hz hzs hst hP hD hS hl
  have hown : s.vm.findClass RX5 = some m.cls := hown
  rw [hAe] at hQ
  subst hsz
  have hP : va_P E.1 vwCl (List.flatten [w_Hist E a o x]) s.heap := hP
  have hD : va_D A (List.flatten [w_Hist E a o x]) := hD
  have hl : lv_has ls 1 [(0, .ref (a o))] := hl
  generalize hHe : s.heap = H at hP
  have hS : va_S A s.heap H [] := by rw [← hHe]; exact hS
  generalize ([] : List Loc) = locs at hS ⊢
  unfold f_X5_keep at hF
  refine lv_aload_n hx hb dX5_keep_0 rfl (lv_at hl 0 rfl) ?_
  refine lv_aload_n hx hb dX5_keep_1 rfl (lv_at hl 0 rfl) ?_
  refine va_get (D := E.1) (ci := 7) (v := .int x.2.1) (C := RX5) (T := TX5) (N := 3) hx hb ha in_X5 hown hst.k hP 0 rfl rfl 1 (by decide) (ha _ mw234) (fun _ h9 => h9) rfl dX5_keep_2 ?_
  refine lv_iconst (v := 1) hx hb dX5_keep_5 (by decide) ?_
  refine lv_iadd hx hb dX5_keep_6 ?_
  refine lv_bipush (v := 9) hx hb dX5_keep_7 (by decide) ?_
  refine lv_irem hx hb dX5_keep_9 (by decide) ?_
  refine va_put (D := E.1) (ci := 7) (v := .int ((x.2.1 + 1) - (x.2.1 + 1) / 9 * 9)) (ty := .int) (C := RX5) (T := TX5) (N := 3) hx hb ha in_X5 tyX5 tyX5_ok nmX5 hown hst.k hP hD hS 0 rfl rfl 1 (by decide) (ha _ mw234) (fun _ h9 => h9) rfl (tyX5_ok 1 (by decide)) rfl rfl (Nat.le_of_ble_eq_true rfl) dX5_keep_10 (fun H locs hP hD hS => ?_)
  have hP : va_P E.1 vwCl (List.flatten [w_Hist E a o (x.1, (x.2.1 + 1) - (x.2.1 + 1) / 9 * 9, x.2.2)]) H := hP
  have hD : va_D A (List.flatten [w_Hist E a o (x.1, (x.2.1 + 1) - (x.2.1 + 1) / 9 * 9, x.2.2)]) := hD
  refine lv_aload_n hx hb dX5_keep_13 rfl (lv_at hl 0 rfl) ?_
  refine lv_aload_n hx hb dX5_keep_14 rfl (lv_at hl 0 rfl) ?_
  refine va_get (D := E.1) (ci := 7) (v := .int x.2.2) (C := RX5) (T := TX5) (N := 3) hx hb ha in_X5 hown hst.k hP 0 rfl rfl 2 (by decide) (ha _ mw235) (fun _ h9 => h9) rfl dX5_keep_15 ?_
  refine lv_iconst (v := 1) hx hb dX5_keep_18 (by decide) ?_
  refine lv_iadd hx hb dX5_keep_19 ?_
  refine lv_bipush (v := 8) hx hb dX5_keep_20 (by decide) ?_
  refine va_mmin hx hb (hml.trans hl.1.symm) hown (ha _ mw1103) (ha _ mw618) (ha _ mw97) (ha _ mw619) (Nat.le_of_ble_eq_true rfl) (Nat.le_of_ble_eq_true rfl) (Nat.le_of_ble_eq_true rfl) (Nat.le_of_ble_eq_true rfl) dX5_keep_22 ?_
  refine va_put (D := E.1) (ci := 7) (v := .int (if 8 < (x.2.2 + 1) then 8 else (x.2.2 + 1))) (ty := .int) (C := RX5) (T := TX5) (N := 3) hx hb ha in_X5 tyX5 tyX5_ok nmX5 hown hst.k hP hD hS 0 rfl rfl 2 (by decide) (ha _ mw235) (fun _ h9 => h9) rfl (tyX5_ok 2 (by decide)) rfl rfl (Nat.le_of_ble_eq_true rfl) dX5_keep_25 (fun H locs hP hD hS => ?_)
  have hP : va_P E.1 vwCl (List.flatten [w_Hist E a o (x.1, (x.2.1 + 1) - (x.2.1 + 1) / 9 * 9, if 8 < (x.2.2 + 1) then 8 else (x.2.2 + 1))]) H := hP
  have hD : va_D A (List.flatten [w_Hist E a o (x.1, (x.2.1 + 1) - (x.2.1 + 1) / 9 * 9, if 8 < (x.2.2 + 1) then 8 else (x.2.2 + 1))]) := hD
  obtain rfl := Option.some.inj hF
  exact en_v hQ (Nat.le_of_ble_eq_true rfl) (Nat.le_of_ble_eq_true rfl) hx hb hr hlocks hP hD hS dX5_keep_28

/-! X5_stepBack -/
theorem dX5_stepBack_0 : decode cX5_stepBack 0 = .ok (.aload_n 0, 1) := by decide +kernel
theorem dX5_stepBack_1 : decode cX5_stepBack 1 = .ok (.aload_n 0, 1) := by decide +kernel
theorem dX5_stepBack_2 : decode cX5_stepBack 2 = .ok (.getfield 15, 3) := by decide +kernel
theorem dX5_stepBack_5 : decode cX5_stepBack 5 = .ok (.bipush 9, 2) := by decide +kernel
theorem dX5_stepBack_7 : decode cX5_stepBack 7 = .ok (.iadd, 1) := by decide +kernel
theorem dX5_stepBack_8 : decode cX5_stepBack 8 = .ok (.iconst 1, 1) := by decide +kernel
theorem dX5_stepBack_9 : decode cX5_stepBack 9 = .ok (.isub, 1) := by decide +kernel
theorem dX5_stepBack_10 : decode cX5_stepBack 10 = .ok (.bipush 9, 2) := by decide +kernel
theorem dX5_stepBack_12 : decode cX5_stepBack 12 = .ok (.irem, 1) := by decide +kernel
theorem dX5_stepBack_13 : decode cX5_stepBack 13 = .ok (.putfield 15, 3) := by decide +kernel
theorem dX5_stepBack_16 : decode cX5_stepBack 16 = .ok (.aload_n 0, 1) := by decide +kernel
theorem dX5_stepBack_17 : decode cX5_stepBack 17 = .ok (.dup, 1) := by decide +kernel
theorem dX5_stepBack_18 : decode cX5_stepBack 18 = .ok (.getfield 19, 3) := by decide +kernel
theorem dX5_stepBack_21 : decode cX5_stepBack 21 = .ok (.iconst 1, 1) := by decide +kernel
theorem dX5_stepBack_22 : decode cX5_stepBack 22 = .ok (.isub, 1) := by decide +kernel
theorem dX5_stepBack_23 : decode cX5_stepBack 23 = .ok (.putfield 19, 3) := by decide +kernel
theorem dX5_stepBack_26 : decode cX5_stepBack 26 = .ok (.return_, 1) := by decide +kernel
def f_X5_stepBack (x_current : Int32) (x_count : Int32) : Option (Int32 × Int32) :=
  some (((x_current + 9) - 1) - ((x_current + 9) - 1) / 9 * 9, x_count - 1)
theorem hv_X5_stepBack : yX5_stepBack.cls = RX5 ∧ yX5_stepBack.cls ≠ "java/lang/invoke/MethodHandle" ∧ yX5_stepBack.cls ≠ "java/lang/invoke/VarHandle" ∧ (parseMethodDescriptor yX5_stepBack.desc).map (fun d => d.parameters.length) = some 0 := by decide +kernel
abbrev rm_X5_stepBack : Room := { frames := 0, cells := 0, slots := 0, locals := 0 }
set_option maxHeartbeats 4000000 in
set_option maxRecDepth 100000 in
theorem k_X5_stepBack (l : Launch) (E : ET) (a : Nat → Nat) (o : Nat) (x : Hist_t) (res : Int32 × Int32) (hF : f_X5_stepBack x.2.1 x.2.2 = some res) (sz : Nat) : CtV l yX5_stepBack (mws yX5_stepBack cX5_stepBack 1 none) rm_X5_stepBack 0 0 [.ref (a o)] E (bl_Hist E a o x) (bl_Hist E a o (x.1, res.1, res.2)) sz := by
  refine mk_M (by decide +kernel) (Nat.le_of_ble_eq_true rfl) ?_
  intro p e s m below meth c A args Q ls hAe hsz hQ hx hb hr hml hin ha hown hlocks hA hz hzs hst hP hD hS hl
  have hown : s.vm.findClass RX5 = some m.cls := hown
  rw [hAe] at hQ
  subst hsz
  have hP : va_P E.1 vwCl (List.flatten [w_Hist E a o x]) s.heap := hP
  have hD : va_D A (List.flatten [w_Hist E a o x]) := hD
  have hl : lv_has ls 1 [(0, .ref (a o))] := hl
  generalize hHe : s.heap = H at hP
  have hS : va_S A s.heap H [] := by rw [← hHe]; exact hS
  generalize ([] : List Loc) = locs at hS ⊢
  unfold f_X5_stepBack at hF
  refine lv_aload_n hx hb dX5_stepBack_0 rfl (lv_at hl 0 rfl) ?_
  refine lv_aload_n hx hb dX5_stepBack_1 rfl (lv_at hl 0 rfl) ?_
  refine va_get (D := E.1) (ci := 7) (v := .int x.2.1) (C := RX5) (T := TX5) (N := 3) hx hb ha in_X5 hown hst.k hP 0 rfl rfl 1 (by decide) (ha _ mw234) (fun _ h9 => h9) rfl dX5_stepBack_2 ?_
  refine lv_bipush (v := 9) hx hb dX5_stepBack_5 (by decide) ?_
  refine lv_iadd hx hb dX5_stepBack_7 ?_
  refine lv_iconst (v := 1) hx hb dX5_stepBack_8 (by decide) ?_
  refine lv_isub hx hb dX5_stepBack_9 ?_
  refine lv_bipush (v := 9) hx hb dX5_stepBack_10 (by decide) ?_
  refine lv_irem hx hb dX5_stepBack_12 (by decide) ?_
  refine va_put (D := E.1) (ci := 7) (v := .int (((x.2.1 + 9) - 1) - ((x.2.1 + 9) - 1) / 9 * 9)) (ty := .int) (C := RX5) (T := TX5) (N := 3) hx hb ha in_X5 tyX5 tyX5_ok nmX5 hown hst.k hP hD hS 0 rfl rfl 1 (by decide) (ha _ mw234) (fun _ h9 => h9) rfl (tyX5_ok 1 (by decide)) rfl rfl (Nat.le_of_ble_eq_true rfl) dX5_stepBack_13 (fun H locs hP hD hS => ?_)
  have hP : va_P E.1 vwCl (List.flatten [w_Hist E a o (x.1, ((x.2.1 + 9) - 1) - ((x.2.1 + 9) - 1) / 9 * 9, x.2.2)]) H := hP
  have hD : va_D A (List.flatten [w_Hist E a o (x.1, ((x.2.1 + 9) - 1) - ((x.2.1 + 9) - 1) / 9 * 9, x.2.2)]) := hD
  refine lv_aload_n hx hb dX5_stepBack_16 rfl (lv_at hl 0 rfl) ?_
  refine lv_dup hx hb dX5_stepBack_17 rfl ?_
  refine va_get (D := E.1) (ci := 7) (v := .int x.2.2) (C := RX5) (T := TX5) (N := 3) hx hb ha in_X5 hown hst.k hP 0 rfl rfl 2 (by decide) (ha _ mw235) (fun _ h9 => h9) rfl dX5_stepBack_18 ?_
  refine lv_iconst (v := 1) hx hb dX5_stepBack_21 (by decide) ?_
  refine lv_isub hx hb dX5_stepBack_22 ?_
  refine va_put (D := E.1) (ci := 7) (v := .int (x.2.2 - 1)) (ty := .int) (C := RX5) (T := TX5) (N := 3) hx hb ha in_X5 tyX5 tyX5_ok nmX5 hown hst.k hP hD hS 0 rfl rfl 2 (by decide) (ha _ mw235) (fun _ h9 => h9) rfl (tyX5_ok 2 (by decide)) rfl rfl (Nat.le_of_ble_eq_true rfl) dX5_stepBack_23 (fun H locs hP hD hS => ?_)
  have hP : va_P E.1 vwCl (List.flatten [w_Hist E a o (x.1, ((x.2.1 + 9) - 1) - ((x.2.1 + 9) - 1) / 9 * 9, x.2.2 - 1)]) H := hP
  have hD : va_D A (List.flatten [w_Hist E a o (x.1, ((x.2.1 + 9) - 1) - ((x.2.1 + 9) - 1) / 9 * 9, x.2.2 - 1)]) := hD
  obtain rfl := Option.some.inj hF
  exact en_v hQ (Nat.le_of_ble_eq_true rfl) (Nat.le_of_ble_eq_true rfl) hx hb hr hlocks hP hD hS dX5_stepBack_26

/-! X5_forget -/
theorem dX5_forget_0 : decode cX5_forget 0 = .ok (.aload_n 0, 1) := by decide +kernel
theorem dX5_forget_1 : decode cX5_forget 1 = .ok (.iconst 0, 1) := by decide +kernel
theorem dX5_forget_2 : decode cX5_forget 2 = .ok (.putfield 19, 3) := by decide +kernel
theorem dX5_forget_5 : decode cX5_forget 5 = .ok (.return_, 1) := by decide +kernel
def f_X5_forget (x_count : Int32) : Option (Int32) :=
  some 0
theorem hv_X5_forget : yX5_forget.cls = RX5 ∧ yX5_forget.cls ≠ "java/lang/invoke/MethodHandle" ∧ yX5_forget.cls ≠ "java/lang/invoke/VarHandle" ∧ (parseMethodDescriptor yX5_forget.desc).map (fun d => d.parameters.length) = some 0 := by decide +kernel
abbrev rm_X5_forget : Room := { frames := 0, cells := 0, slots := 0, locals := 0 }
set_option maxHeartbeats 4000000 in
set_option maxRecDepth 100000 in
theorem k_X5_forget (l : Launch) (E : ET) (a : Nat → Nat) (o : Nat) (x : Hist_t) (res : Int32) (hF : f_X5_forget x.2.2 = some res) (sz : Nat) : CtV l yX5_forget (mws yX5_forget cX5_forget 1 none) rm_X5_forget 0 0 [.ref (a o)] E (bl_Hist E a o x) (bl_Hist E a o (x.1, x.2.1, res)) sz := by
  refine mk_M (by decide +kernel) (Nat.le_of_ble_eq_true rfl) ?_
  intro p e s m below meth c A args Q ls hAe hsz hQ hx hb hr hml hin ha hown hlocks hA hz hzs hst hP hD hS hl
  have hown : s.vm.findClass RX5 = some m.cls := hown
  rw [hAe] at hQ
  subst hsz
  have hP : va_P E.1 vwCl (List.flatten [w_Hist E a o x]) s.heap := hP
  have hD : va_D A (List.flatten [w_Hist E a o x]) := hD
  have hl : lv_has ls 1 [(0, .ref (a o))] := hl
  generalize hHe : s.heap = H at hP
  have hS : va_S A s.heap H [] := by rw [← hHe]; exact hS
  generalize ([] : List Loc) = locs at hS ⊢
  unfold f_X5_forget at hF
  refine lv_aload_n hx hb dX5_forget_0 rfl (lv_at hl 0 rfl) ?_
  refine lv_iconst (v := 0) hx hb dX5_forget_1 (by decide) ?_
  refine va_put (D := E.1) (ci := 7) (v := .int 0) (ty := .int) (C := RX5) (T := TX5) (N := 3) hx hb ha in_X5 tyX5 tyX5_ok nmX5 hown hst.k hP hD hS 0 rfl rfl 2 (by decide) (ha _ mw235) (fun _ h9 => h9) rfl (tyX5_ok 2 (by decide)) rfl rfl (Nat.le_of_ble_eq_true rfl) dX5_forget_2 (fun H locs hP hD hS => ?_)
  have hP : va_P E.1 vwCl (List.flatten [w_Hist E a o (x.1, x.2.1, 0)]) H := hP
  have hD : va_D A (List.flatten [w_Hist E a o (x.1, x.2.1, 0)]) := hD
  obtain rfl := Option.some.inj hF
  exact en_v hQ (Nat.le_of_ble_eq_true rfl) (Nat.le_of_ble_eq_true rfl) hx hb hr hlocks hP hD hS dX5_forget_5

/-! X5_begin -/
theorem dX5_begin_0 : decode cX5_begin 0 = .ok (.aload_n 0, 1) := by decide +kernel
theorem dX5_begin_1 : decode cX5_begin 1 = .ok (.getfield 11, 3) := by decide +kernel
theorem dX5_begin_4 : decode cX5_begin 4 = .ok (.aload_n 0, 1) := by decide +kernel
theorem dX5_begin_5 : decode cX5_begin 5 = .ok (.getfield 15, 3) := by decide +kernel
theorem dX5_begin_8 : decode cX5_begin 8 = .ok (.aaload, 1) := by decide +kernel
theorem dX5_begin_9 : decode cX5_begin 9 = .ok (.aload_n 1, 1) := by decide +kernel
theorem dX5_begin_10 : decode cX5_begin 10 = .ok (.invokevirtual 23, 3) := by decide +kernel
theorem dX5_begin_13 : decode cX5_begin 13 = .ok (.return_, 1) := by decide +kernel
def f_X5_begin (x_slots : (Nat → Valley_t)) (x_current : Int32) (y_key_tonic : Int32) (y_key_isMinor : Int32) (y_key_tolerance : Int32) (y_bells_herds : (Nat → Int32)) (y_bells_pitches : (Nat → Int32)) (y_bells_count : Int32) (y_melodies_lengths : (Nat → Int32)) (y_melodies_entries : (Nat → Int32)) (y_melodies_tones : (Nat → Int32)) (y_cliffs_delays : (Nat → Int32)) (y_cliffs_transpositions : (Nat → Int32)) (y_cliffs_count : Int32) : Option (Nat → Valley_t) :=
  q_gd (q_in x_current 9) (q_bd (q_vcp (x_slots x_current.toNatClampNeg) ((y_key_tonic, y_key_isMinor, y_key_tolerance), (y_bells_herds, y_bells_pitches, y_bells_count), (y_melodies_lengths, y_melodies_entries, y_melodies_tones), (y_cliffs_delays, y_cliffs_transpositions, y_cliffs_count))) (fun v => some (upH x_slots x_current.toNatClampNeg v)))
theorem hv_X5_begin : yX5_begin.cls = RX5 ∧ yX5_begin.cls ≠ "java/lang/invoke/MethodHandle" ∧ yX5_begin.cls ≠ "java/lang/invoke/VarHandle" ∧ (parseMethodDescriptor yX5_begin.desc).map (fun d => d.parameters.length) = some 1 := by decide +kernel
abbrev rm_X5_begin : Room := { frames := 3, cells := 0, slots := 0, locals := 102 }
set_option maxHeartbeats 4000000 in
set_option maxRecDepth 100000 in
theorem k_X5_begin (l : Launch) (E : ET) (a : Nat → Nat) (o : Nat) (x : Hist_t) (ay : Nat → Nat) (oy : Nat) (y : Valley_t) (res : (Nat → Valley_t)) (hF : f_X5_begin x.1 x.2.1 y.1.1 y.1.2.1 y.1.2.2 y.2.1.1 y.2.1.2.1 y.2.1.2.2 y.2.2.1.1 y.2.2.1.2.1 y.2.2.1.2.2 y.2.2.2.1 y.2.2.2.2.1 y.2.2.2.2.2 = some res) (sz : Nat) : CtV l yX5_begin (mws yX5_begin cX5_begin 2 none) rm_X5_begin 0 0 [.ref (a o), .ref (ay oy)] E (bl_Hist E a o x ++ bl_Valley E ay oy y) (bl_Hist E a o (res, x.2.1, x.2.2) ++ bl_Valley E ay oy y) sz := by
  refine mk_M (by decide +kernel) (Nat.le_of_ble_eq_true rfl) ?_
  intro p e s m below meth c A args Q ls hAe hsz hQ hx hb hr hml hin ha hown hlocks hA hz hzs hst hP hD hS hl
  have hown : s.vm.findClass RX5 = some m.cls := hown
  rw [hAe] at hQ
  subst hsz
  have hl : lv_has ls 2 [(0, .ref (a o)), (1, .ref (ay oy))] := hl
  generalize hHe : s.heap = H at hP
  have hS : va_S A s.heap H [] := by rw [← hHe]; exact hS
  generalize ([] : List Loc) = locs at hS ⊢
  have hP : va_P E.1 vwCl (List.flatten (w_Hist E a o x :: bl_Valley E ay oy y)) H := hP
  have hD : va_D A (List.flatten (w_Hist E a o x :: bl_Valley E ay oy y)) := hD
  obtain ⟨hg, hF⟩ := q_gdi hF
  obtain ⟨v1, hv1, hF⟩ := q_bdi hF
  obtain rfl := Option.some.inj hF
  refine lv_aload_n hx hb dX5_begin_0 rfl (lv_at hl 0 rfl) ?_
  refine va_get (D := E.1) (ci := 7) (v := .ref (a (o + 1))) (C := RX5) (T := TX5) (N := 3) hx hb ha in_X5 hown hst.k hP 0 rfl rfl 0 (by decide) (ha _ mw233) (fun _ h9 => h9) rfl dX5_begin_1 ?_
  refine lv_aload_n hx hb dX5_begin_4 rfl (lv_at hl 0 rfl) ?_
  refine va_get (D := E.1) (ci := 7) (v := .int x.2.1) (C := RX5) (T := TX5) (N := 3) hx hb ha in_X5 hown hst.k hP 0 rfl rfl 1 (by decide) (ha _ mw234) (fun _ h9 => h9) rfl dX5_begin_5 ?_
  refine va_aldq hx hb hst.k hP 1 5 (f := fun j => some (a (o + 2 + 12 * j))) rfl rfl (C := "ValleyBells$Valley") hg dX5_begin_8 ?_
  show W p l e _ s m args below meth c H locs 0 0 Q (F0 m 9 ls (.ref (a (o + 2 + 12 * x.2.1.toNatClampNeg)) :: []))
  have hk9 := q_in9 hg
  generalize x.2.1.toNatClampNeg = k at hk9 hv1 hQ ⊢
  refine lv_aload_n hx hb dX5_begin_9 rfl (lv_at hl 1 rfl) ?_
  rw [flat_hist] at hP hD
  have hP : va_P E.1 vwCl (List.flatten (bl_HistC E a o x.2.1 x.2.2 (x.1 0) (x.1 1) (x.1 2) (x.1 3) (x.1 4) (x.1 5) (x.1 6) (x.1 7) (x.1 8) ++ bl_Valley E ay oy y)) H := hP
  have hD : va_D A (List.flatten (bl_HistC E a o x.2.1 x.2.2 (x.1 0) (x.1 1) (x.1 2) (x.1 3) (x.1 4) (x.1 5) (x.1 6) (x.1 7) (x.1 8) ++ bl_Valley E ay oy y)) := hD
  obtain ⟨q, hq, rfl⟩ := q_vcpi hv1
  rcases lt9 hk9 with rfl | rfl | rfl | rfl | rfl | rfl | rfl | rfl | rfl
  · refine cl_v (Lc := (bl_Valley E a (o + 2) (x.1 0) ++ bl_Valley E ay oy y)) (Lc' := (bl_Valley E a (o + 2) ((q.1, q.2.1, q.2.2.1), (q.2.2.2.1, q.2.2.2.2.1, q.2.2.2.2.2.1), (q.2.2.2.2.2.2.1, q.2.2.2.2.2.2.2.1, q.2.2.2.2.2.2.2.2.1), (q.2.2.2.2.2.2.2.2.2.1, q.2.2.2.2.2.2.2.2.2.2.1, q.2.2.2.2.2.2.2.2.2.2.2)) ++ bl_Valley E ay oy y)) (L' := (bl_HistC E a o x.2.1 x.2.2 ((q.1, q.2.1, q.2.2.1), (q.2.2.2.1, q.2.2.2.2.1, q.2.2.2.2.2.1), (q.2.2.2.2.2.2.1, q.2.2.2.2.2.2.2.1, q.2.2.2.2.2.2.2.2.1), (q.2.2.2.2.2.2.2.2.2.1, q.2.2.2.2.2.2.2.2.2.2.1, q.2.2.2.2.2.2.2.2.2.2.2)) (x.1 1) (x.1 2) (x.1 3) (x.1 4) (x.1 5) (x.1 6) (x.1 7) (x.1 8) ++ bl_Valley E ay oy y)) (va_runV (As := [.ref (ay oy)]) (rest := []) ⟨hx, hb, hml, hown, ha⟩ (k_X9_copyFrom l E a (o + 2) (x.1 0) ay oy y q hq H.size) (cwV 1 ha (gi_V (fun _ h => h) mw979 mw938 mw939 mw75 mw940) rfl rfl rfl hv_X9_copyFrom ⟨(Nat.le_of_ble_eq_true rfl), (Nat.le_of_ble_eq_true rfl)⟩) ⟨pre_blind, va_recv hst.k (fr_P hP [1] rfl) (ci := 11) (q0 := 0) rfl rfl, pre_at hP hD hS hz hzs hst [1, 2, 3, 4, 5, 46, 47, 48, 49, 50] (by decide) rfl rfl⟩ rfl rfl hl.1 rfl (lv_room (Nat.le_of_ble_eq_true rfl)) dX5_begin_10 ⟨(Nat.le_of_ble_eq_true rfl), (Nat.le_of_ble_eq_true rfl)⟩) hP hD hS hA [1, 2, 3, 4, 5, 46, 47, 48, 49, 50] (by decide) rfl rfl rfl rfl (fun H locs hP hD hS => ?_)
    rw [← hc_0] at hP hD
    rw [← flat_hist] at hP hD
    exact en_v (L' := w_Hist E a o (upH x.1 0 ((q.1, q.2.1, q.2.2.1), (q.2.2.2.1, q.2.2.2.2.1, q.2.2.2.2.2.1), (q.2.2.2.2.2.2.1, q.2.2.2.2.2.2.2.1, q.2.2.2.2.2.2.2.2.1), (q.2.2.2.2.2.2.2.2.2.1, q.2.2.2.2.2.2.2.2.2.2.1, q.2.2.2.2.2.2.2.2.2.2.2)), x.2.1, x.2.2) :: bl_Valley E ay oy y) hQ (Nat.le_of_ble_eq_true rfl) (Nat.le_of_ble_eq_true rfl) hx hb hr hlocks hP hD hS dX5_begin_13
  · refine cl_v (Lc := (bl_Valley E a (o + 14) (x.1 1) ++ bl_Valley E ay oy y)) (Lc' := (bl_Valley E a (o + 14) ((q.1, q.2.1, q.2.2.1), (q.2.2.2.1, q.2.2.2.2.1, q.2.2.2.2.2.1), (q.2.2.2.2.2.2.1, q.2.2.2.2.2.2.2.1, q.2.2.2.2.2.2.2.2.1), (q.2.2.2.2.2.2.2.2.2.1, q.2.2.2.2.2.2.2.2.2.2.1, q.2.2.2.2.2.2.2.2.2.2.2)) ++ bl_Valley E ay oy y)) (L' := (bl_HistC E a o x.2.1 x.2.2 (x.1 0) ((q.1, q.2.1, q.2.2.1), (q.2.2.2.1, q.2.2.2.2.1, q.2.2.2.2.2.1), (q.2.2.2.2.2.2.1, q.2.2.2.2.2.2.2.1, q.2.2.2.2.2.2.2.2.1), (q.2.2.2.2.2.2.2.2.2.1, q.2.2.2.2.2.2.2.2.2.2.1, q.2.2.2.2.2.2.2.2.2.2.2)) (x.1 2) (x.1 3) (x.1 4) (x.1 5) (x.1 6) (x.1 7) (x.1 8) ++ bl_Valley E ay oy y)) (va_runV (As := [.ref (ay oy)]) (rest := []) ⟨hx, hb, hml, hown, ha⟩ (k_X9_copyFrom l E a (o + 14) (x.1 1) ay oy y q hq H.size) (cwV 1 ha (gi_V (fun _ h => h) mw979 mw938 mw939 mw75 mw940) rfl rfl rfl hv_X9_copyFrom ⟨(Nat.le_of_ble_eq_true rfl), (Nat.le_of_ble_eq_true rfl)⟩) ⟨pre_blind, va_recv hst.k (fr_P hP [6] rfl) (ci := 11) (q0 := 0) rfl rfl, pre_at hP hD hS hz hzs hst [6, 7, 8, 9, 10, 46, 47, 48, 49, 50] (by decide) rfl rfl⟩ rfl rfl hl.1 rfl (lv_room (Nat.le_of_ble_eq_true rfl)) dX5_begin_10 ⟨(Nat.le_of_ble_eq_true rfl), (Nat.le_of_ble_eq_true rfl)⟩) hP hD hS hA [6, 7, 8, 9, 10, 46, 47, 48, 49, 50] (by decide) rfl rfl rfl rfl (fun H locs hP hD hS => ?_)
    rw [← hc_1] at hP hD
    rw [← flat_hist] at hP hD
    exact en_v (L' := w_Hist E a o (upH x.1 1 ((q.1, q.2.1, q.2.2.1), (q.2.2.2.1, q.2.2.2.2.1, q.2.2.2.2.2.1), (q.2.2.2.2.2.2.1, q.2.2.2.2.2.2.2.1, q.2.2.2.2.2.2.2.2.1), (q.2.2.2.2.2.2.2.2.2.1, q.2.2.2.2.2.2.2.2.2.2.1, q.2.2.2.2.2.2.2.2.2.2.2)), x.2.1, x.2.2) :: bl_Valley E ay oy y) hQ (Nat.le_of_ble_eq_true rfl) (Nat.le_of_ble_eq_true rfl) hx hb hr hlocks hP hD hS dX5_begin_13
  · refine cl_v (Lc := (bl_Valley E a (o + 26) (x.1 2) ++ bl_Valley E ay oy y)) (Lc' := (bl_Valley E a (o + 26) ((q.1, q.2.1, q.2.2.1), (q.2.2.2.1, q.2.2.2.2.1, q.2.2.2.2.2.1), (q.2.2.2.2.2.2.1, q.2.2.2.2.2.2.2.1, q.2.2.2.2.2.2.2.2.1), (q.2.2.2.2.2.2.2.2.2.1, q.2.2.2.2.2.2.2.2.2.2.1, q.2.2.2.2.2.2.2.2.2.2.2)) ++ bl_Valley E ay oy y)) (L' := (bl_HistC E a o x.2.1 x.2.2 (x.1 0) (x.1 1) ((q.1, q.2.1, q.2.2.1), (q.2.2.2.1, q.2.2.2.2.1, q.2.2.2.2.2.1), (q.2.2.2.2.2.2.1, q.2.2.2.2.2.2.2.1, q.2.2.2.2.2.2.2.2.1), (q.2.2.2.2.2.2.2.2.2.1, q.2.2.2.2.2.2.2.2.2.2.1, q.2.2.2.2.2.2.2.2.2.2.2)) (x.1 3) (x.1 4) (x.1 5) (x.1 6) (x.1 7) (x.1 8) ++ bl_Valley E ay oy y)) (va_runV (As := [.ref (ay oy)]) (rest := []) ⟨hx, hb, hml, hown, ha⟩ (k_X9_copyFrom l E a (o + 26) (x.1 2) ay oy y q hq H.size) (cwV 1 ha (gi_V (fun _ h => h) mw979 mw938 mw939 mw75 mw940) rfl rfl rfl hv_X9_copyFrom ⟨(Nat.le_of_ble_eq_true rfl), (Nat.le_of_ble_eq_true rfl)⟩) ⟨pre_blind, va_recv hst.k (fr_P hP [11] rfl) (ci := 11) (q0 := 0) rfl rfl, pre_at hP hD hS hz hzs hst [11, 12, 13, 14, 15, 46, 47, 48, 49, 50] (by decide) rfl rfl⟩ rfl rfl hl.1 rfl (lv_room (Nat.le_of_ble_eq_true rfl)) dX5_begin_10 ⟨(Nat.le_of_ble_eq_true rfl), (Nat.le_of_ble_eq_true rfl)⟩) hP hD hS hA [11, 12, 13, 14, 15, 46, 47, 48, 49, 50] (by decide) rfl rfl rfl rfl (fun H locs hP hD hS => ?_)
    rw [← hc_2] at hP hD
    rw [← flat_hist] at hP hD
    exact en_v (L' := w_Hist E a o (upH x.1 2 ((q.1, q.2.1, q.2.2.1), (q.2.2.2.1, q.2.2.2.2.1, q.2.2.2.2.2.1), (q.2.2.2.2.2.2.1, q.2.2.2.2.2.2.2.1, q.2.2.2.2.2.2.2.2.1), (q.2.2.2.2.2.2.2.2.2.1, q.2.2.2.2.2.2.2.2.2.2.1, q.2.2.2.2.2.2.2.2.2.2.2)), x.2.1, x.2.2) :: bl_Valley E ay oy y) hQ (Nat.le_of_ble_eq_true rfl) (Nat.le_of_ble_eq_true rfl) hx hb hr hlocks hP hD hS dX5_begin_13
  · refine cl_v (Lc := (bl_Valley E a (o + 38) (x.1 3) ++ bl_Valley E ay oy y)) (Lc' := (bl_Valley E a (o + 38) ((q.1, q.2.1, q.2.2.1), (q.2.2.2.1, q.2.2.2.2.1, q.2.2.2.2.2.1), (q.2.2.2.2.2.2.1, q.2.2.2.2.2.2.2.1, q.2.2.2.2.2.2.2.2.1), (q.2.2.2.2.2.2.2.2.2.1, q.2.2.2.2.2.2.2.2.2.2.1, q.2.2.2.2.2.2.2.2.2.2.2)) ++ bl_Valley E ay oy y)) (L' := (bl_HistC E a o x.2.1 x.2.2 (x.1 0) (x.1 1) (x.1 2) ((q.1, q.2.1, q.2.2.1), (q.2.2.2.1, q.2.2.2.2.1, q.2.2.2.2.2.1), (q.2.2.2.2.2.2.1, q.2.2.2.2.2.2.2.1, q.2.2.2.2.2.2.2.2.1), (q.2.2.2.2.2.2.2.2.2.1, q.2.2.2.2.2.2.2.2.2.2.1, q.2.2.2.2.2.2.2.2.2.2.2)) (x.1 4) (x.1 5) (x.1 6) (x.1 7) (x.1 8) ++ bl_Valley E ay oy y)) (va_runV (As := [.ref (ay oy)]) (rest := []) ⟨hx, hb, hml, hown, ha⟩ (k_X9_copyFrom l E a (o + 38) (x.1 3) ay oy y q hq H.size) (cwV 1 ha (gi_V (fun _ h => h) mw979 mw938 mw939 mw75 mw940) rfl rfl rfl hv_X9_copyFrom ⟨(Nat.le_of_ble_eq_true rfl), (Nat.le_of_ble_eq_true rfl)⟩) ⟨pre_blind, va_recv hst.k (fr_P hP [16] rfl) (ci := 11) (q0 := 0) rfl rfl, pre_at hP hD hS hz hzs hst [16, 17, 18, 19, 20, 46, 47, 48, 49, 50] (by decide) rfl rfl⟩ rfl rfl hl.1 rfl (lv_room (Nat.le_of_ble_eq_true rfl)) dX5_begin_10 ⟨(Nat.le_of_ble_eq_true rfl), (Nat.le_of_ble_eq_true rfl)⟩) hP hD hS hA [16, 17, 18, 19, 20, 46, 47, 48, 49, 50] (by decide) rfl rfl rfl rfl (fun H locs hP hD hS => ?_)
    rw [← hc_3] at hP hD
    rw [← flat_hist] at hP hD
    exact en_v (L' := w_Hist E a o (upH x.1 3 ((q.1, q.2.1, q.2.2.1), (q.2.2.2.1, q.2.2.2.2.1, q.2.2.2.2.2.1), (q.2.2.2.2.2.2.1, q.2.2.2.2.2.2.2.1, q.2.2.2.2.2.2.2.2.1), (q.2.2.2.2.2.2.2.2.2.1, q.2.2.2.2.2.2.2.2.2.2.1, q.2.2.2.2.2.2.2.2.2.2.2)), x.2.1, x.2.2) :: bl_Valley E ay oy y) hQ (Nat.le_of_ble_eq_true rfl) (Nat.le_of_ble_eq_true rfl) hx hb hr hlocks hP hD hS dX5_begin_13
  · refine cl_v (Lc := (bl_Valley E a (o + 50) (x.1 4) ++ bl_Valley E ay oy y)) (Lc' := (bl_Valley E a (o + 50) ((q.1, q.2.1, q.2.2.1), (q.2.2.2.1, q.2.2.2.2.1, q.2.2.2.2.2.1), (q.2.2.2.2.2.2.1, q.2.2.2.2.2.2.2.1, q.2.2.2.2.2.2.2.2.1), (q.2.2.2.2.2.2.2.2.2.1, q.2.2.2.2.2.2.2.2.2.2.1, q.2.2.2.2.2.2.2.2.2.2.2)) ++ bl_Valley E ay oy y)) (L' := (bl_HistC E a o x.2.1 x.2.2 (x.1 0) (x.1 1) (x.1 2) (x.1 3) ((q.1, q.2.1, q.2.2.1), (q.2.2.2.1, q.2.2.2.2.1, q.2.2.2.2.2.1), (q.2.2.2.2.2.2.1, q.2.2.2.2.2.2.2.1, q.2.2.2.2.2.2.2.2.1), (q.2.2.2.2.2.2.2.2.2.1, q.2.2.2.2.2.2.2.2.2.2.1, q.2.2.2.2.2.2.2.2.2.2.2)) (x.1 5) (x.1 6) (x.1 7) (x.1 8) ++ bl_Valley E ay oy y)) (va_runV (As := [.ref (ay oy)]) (rest := []) ⟨hx, hb, hml, hown, ha⟩ (k_X9_copyFrom l E a (o + 50) (x.1 4) ay oy y q hq H.size) (cwV 1 ha (gi_V (fun _ h => h) mw979 mw938 mw939 mw75 mw940) rfl rfl rfl hv_X9_copyFrom ⟨(Nat.le_of_ble_eq_true rfl), (Nat.le_of_ble_eq_true rfl)⟩) ⟨pre_blind, va_recv hst.k (fr_P hP [21] rfl) (ci := 11) (q0 := 0) rfl rfl, pre_at hP hD hS hz hzs hst [21, 22, 23, 24, 25, 46, 47, 48, 49, 50] (by decide) rfl rfl⟩ rfl rfl hl.1 rfl (lv_room (Nat.le_of_ble_eq_true rfl)) dX5_begin_10 ⟨(Nat.le_of_ble_eq_true rfl), (Nat.le_of_ble_eq_true rfl)⟩) hP hD hS hA [21, 22, 23, 24, 25, 46, 47, 48, 49, 50] (by decide) rfl rfl rfl rfl (fun H locs hP hD hS => ?_)
    rw [← hc_4] at hP hD
    rw [← flat_hist] at hP hD
    exact en_v (L' := w_Hist E a o (upH x.1 4 ((q.1, q.2.1, q.2.2.1), (q.2.2.2.1, q.2.2.2.2.1, q.2.2.2.2.2.1), (q.2.2.2.2.2.2.1, q.2.2.2.2.2.2.2.1, q.2.2.2.2.2.2.2.2.1), (q.2.2.2.2.2.2.2.2.2.1, q.2.2.2.2.2.2.2.2.2.2.1, q.2.2.2.2.2.2.2.2.2.2.2)), x.2.1, x.2.2) :: bl_Valley E ay oy y) hQ (Nat.le_of_ble_eq_true rfl) (Nat.le_of_ble_eq_true rfl) hx hb hr hlocks hP hD hS dX5_begin_13
  · refine cl_v (Lc := (bl_Valley E a (o + 62) (x.1 5) ++ bl_Valley E ay oy y)) (Lc' := (bl_Valley E a (o + 62) ((q.1, q.2.1, q.2.2.1), (q.2.2.2.1, q.2.2.2.2.1, q.2.2.2.2.2.1), (q.2.2.2.2.2.2.1, q.2.2.2.2.2.2.2.1, q.2.2.2.2.2.2.2.2.1), (q.2.2.2.2.2.2.2.2.2.1, q.2.2.2.2.2.2.2.2.2.2.1, q.2.2.2.2.2.2.2.2.2.2.2)) ++ bl_Valley E ay oy y)) (L' := (bl_HistC E a o x.2.1 x.2.2 (x.1 0) (x.1 1) (x.1 2) (x.1 3) (x.1 4) ((q.1, q.2.1, q.2.2.1), (q.2.2.2.1, q.2.2.2.2.1, q.2.2.2.2.2.1), (q.2.2.2.2.2.2.1, q.2.2.2.2.2.2.2.1, q.2.2.2.2.2.2.2.2.1), (q.2.2.2.2.2.2.2.2.2.1, q.2.2.2.2.2.2.2.2.2.2.1, q.2.2.2.2.2.2.2.2.2.2.2)) (x.1 6) (x.1 7) (x.1 8) ++ bl_Valley E ay oy y)) (va_runV (As := [.ref (ay oy)]) (rest := []) ⟨hx, hb, hml, hown, ha⟩ (k_X9_copyFrom l E a (o + 62) (x.1 5) ay oy y q hq H.size) (cwV 1 ha (gi_V (fun _ h => h) mw979 mw938 mw939 mw75 mw940) rfl rfl rfl hv_X9_copyFrom ⟨(Nat.le_of_ble_eq_true rfl), (Nat.le_of_ble_eq_true rfl)⟩) ⟨pre_blind, va_recv hst.k (fr_P hP [26] rfl) (ci := 11) (q0 := 0) rfl rfl, pre_at hP hD hS hz hzs hst [26, 27, 28, 29, 30, 46, 47, 48, 49, 50] (by decide) rfl rfl⟩ rfl rfl hl.1 rfl (lv_room (Nat.le_of_ble_eq_true rfl)) dX5_begin_10 ⟨(Nat.le_of_ble_eq_true rfl), (Nat.le_of_ble_eq_true rfl)⟩) hP hD hS hA [26, 27, 28, 29, 30, 46, 47, 48, 49, 50] (by decide) rfl rfl rfl rfl (fun H locs hP hD hS => ?_)
    rw [← hc_5] at hP hD
    rw [← flat_hist] at hP hD
    exact en_v (L' := w_Hist E a o (upH x.1 5 ((q.1, q.2.1, q.2.2.1), (q.2.2.2.1, q.2.2.2.2.1, q.2.2.2.2.2.1), (q.2.2.2.2.2.2.1, q.2.2.2.2.2.2.2.1, q.2.2.2.2.2.2.2.2.1), (q.2.2.2.2.2.2.2.2.2.1, q.2.2.2.2.2.2.2.2.2.2.1, q.2.2.2.2.2.2.2.2.2.2.2)), x.2.1, x.2.2) :: bl_Valley E ay oy y) hQ (Nat.le_of_ble_eq_true rfl) (Nat.le_of_ble_eq_true rfl) hx hb hr hlocks hP hD hS dX5_begin_13
  · refine cl_v (Lc := (bl_Valley E a (o + 74) (x.1 6) ++ bl_Valley E ay oy y)) (Lc' := (bl_Valley E a (o + 74) ((q.1, q.2.1, q.2.2.1), (q.2.2.2.1, q.2.2.2.2.1, q.2.2.2.2.2.1), (q.2.2.2.2.2.2.1, q.2.2.2.2.2.2.2.1, q.2.2.2.2.2.2.2.2.1), (q.2.2.2.2.2.2.2.2.2.1, q.2.2.2.2.2.2.2.2.2.2.1, q.2.2.2.2.2.2.2.2.2.2.2)) ++ bl_Valley E ay oy y)) (L' := (bl_HistC E a o x.2.1 x.2.2 (x.1 0) (x.1 1) (x.1 2) (x.1 3) (x.1 4) (x.1 5) ((q.1, q.2.1, q.2.2.1), (q.2.2.2.1, q.2.2.2.2.1, q.2.2.2.2.2.1), (q.2.2.2.2.2.2.1, q.2.2.2.2.2.2.2.1, q.2.2.2.2.2.2.2.2.1), (q.2.2.2.2.2.2.2.2.2.1, q.2.2.2.2.2.2.2.2.2.2.1, q.2.2.2.2.2.2.2.2.2.2.2)) (x.1 7) (x.1 8) ++ bl_Valley E ay oy y)) (va_runV (As := [.ref (ay oy)]) (rest := []) ⟨hx, hb, hml, hown, ha⟩ (k_X9_copyFrom l E a (o + 74) (x.1 6) ay oy y q hq H.size) (cwV 1 ha (gi_V (fun _ h => h) mw979 mw938 mw939 mw75 mw940) rfl rfl rfl hv_X9_copyFrom ⟨(Nat.le_of_ble_eq_true rfl), (Nat.le_of_ble_eq_true rfl)⟩) ⟨pre_blind, va_recv hst.k (fr_P hP [31] rfl) (ci := 11) (q0 := 0) rfl rfl, pre_at hP hD hS hz hzs hst [31, 32, 33, 34, 35, 46, 47, 48, 49, 50] (by decide) rfl rfl⟩ rfl rfl hl.1 rfl (lv_room (Nat.le_of_ble_eq_true rfl)) dX5_begin_10 ⟨(Nat.le_of_ble_eq_true rfl), (Nat.le_of_ble_eq_true rfl)⟩) hP hD hS hA [31, 32, 33, 34, 35, 46, 47, 48, 49, 50] (by decide) rfl rfl rfl rfl (fun H locs hP hD hS => ?_)
    rw [← hc_6] at hP hD
    rw [← flat_hist] at hP hD
    exact en_v (L' := w_Hist E a o (upH x.1 6 ((q.1, q.2.1, q.2.2.1), (q.2.2.2.1, q.2.2.2.2.1, q.2.2.2.2.2.1), (q.2.2.2.2.2.2.1, q.2.2.2.2.2.2.2.1, q.2.2.2.2.2.2.2.2.1), (q.2.2.2.2.2.2.2.2.2.1, q.2.2.2.2.2.2.2.2.2.2.1, q.2.2.2.2.2.2.2.2.2.2.2)), x.2.1, x.2.2) :: bl_Valley E ay oy y) hQ (Nat.le_of_ble_eq_true rfl) (Nat.le_of_ble_eq_true rfl) hx hb hr hlocks hP hD hS dX5_begin_13
  · refine cl_v (Lc := (bl_Valley E a (o + 86) (x.1 7) ++ bl_Valley E ay oy y)) (Lc' := (bl_Valley E a (o + 86) ((q.1, q.2.1, q.2.2.1), (q.2.2.2.1, q.2.2.2.2.1, q.2.2.2.2.2.1), (q.2.2.2.2.2.2.1, q.2.2.2.2.2.2.2.1, q.2.2.2.2.2.2.2.2.1), (q.2.2.2.2.2.2.2.2.2.1, q.2.2.2.2.2.2.2.2.2.2.1, q.2.2.2.2.2.2.2.2.2.2.2)) ++ bl_Valley E ay oy y)) (L' := (bl_HistC E a o x.2.1 x.2.2 (x.1 0) (x.1 1) (x.1 2) (x.1 3) (x.1 4) (x.1 5) (x.1 6) ((q.1, q.2.1, q.2.2.1), (q.2.2.2.1, q.2.2.2.2.1, q.2.2.2.2.2.1), (q.2.2.2.2.2.2.1, q.2.2.2.2.2.2.2.1, q.2.2.2.2.2.2.2.2.1), (q.2.2.2.2.2.2.2.2.2.1, q.2.2.2.2.2.2.2.2.2.2.1, q.2.2.2.2.2.2.2.2.2.2.2)) (x.1 8) ++ bl_Valley E ay oy y)) (va_runV (As := [.ref (ay oy)]) (rest := []) ⟨hx, hb, hml, hown, ha⟩ (k_X9_copyFrom l E a (o + 86) (x.1 7) ay oy y q hq H.size) (cwV 1 ha (gi_V (fun _ h => h) mw979 mw938 mw939 mw75 mw940) rfl rfl rfl hv_X9_copyFrom ⟨(Nat.le_of_ble_eq_true rfl), (Nat.le_of_ble_eq_true rfl)⟩) ⟨pre_blind, va_recv hst.k (fr_P hP [36] rfl) (ci := 11) (q0 := 0) rfl rfl, pre_at hP hD hS hz hzs hst [36, 37, 38, 39, 40, 46, 47, 48, 49, 50] (by decide) rfl rfl⟩ rfl rfl hl.1 rfl (lv_room (Nat.le_of_ble_eq_true rfl)) dX5_begin_10 ⟨(Nat.le_of_ble_eq_true rfl), (Nat.le_of_ble_eq_true rfl)⟩) hP hD hS hA [36, 37, 38, 39, 40, 46, 47, 48, 49, 50] (by decide) rfl rfl rfl rfl (fun H locs hP hD hS => ?_)
    rw [← hc_7] at hP hD
    rw [← flat_hist] at hP hD
    exact en_v (L' := w_Hist E a o (upH x.1 7 ((q.1, q.2.1, q.2.2.1), (q.2.2.2.1, q.2.2.2.2.1, q.2.2.2.2.2.1), (q.2.2.2.2.2.2.1, q.2.2.2.2.2.2.2.1, q.2.2.2.2.2.2.2.2.1), (q.2.2.2.2.2.2.2.2.2.1, q.2.2.2.2.2.2.2.2.2.2.1, q.2.2.2.2.2.2.2.2.2.2.2)), x.2.1, x.2.2) :: bl_Valley E ay oy y) hQ (Nat.le_of_ble_eq_true rfl) (Nat.le_of_ble_eq_true rfl) hx hb hr hlocks hP hD hS dX5_begin_13
  · refine cl_v (Lc := (bl_Valley E a (o + 98) (x.1 8) ++ bl_Valley E ay oy y)) (Lc' := (bl_Valley E a (o + 98) ((q.1, q.2.1, q.2.2.1), (q.2.2.2.1, q.2.2.2.2.1, q.2.2.2.2.2.1), (q.2.2.2.2.2.2.1, q.2.2.2.2.2.2.2.1, q.2.2.2.2.2.2.2.2.1), (q.2.2.2.2.2.2.2.2.2.1, q.2.2.2.2.2.2.2.2.2.2.1, q.2.2.2.2.2.2.2.2.2.2.2)) ++ bl_Valley E ay oy y)) (L' := (bl_HistC E a o x.2.1 x.2.2 (x.1 0) (x.1 1) (x.1 2) (x.1 3) (x.1 4) (x.1 5) (x.1 6) (x.1 7) ((q.1, q.2.1, q.2.2.1), (q.2.2.2.1, q.2.2.2.2.1, q.2.2.2.2.2.1), (q.2.2.2.2.2.2.1, q.2.2.2.2.2.2.2.1, q.2.2.2.2.2.2.2.2.1), (q.2.2.2.2.2.2.2.2.2.1, q.2.2.2.2.2.2.2.2.2.2.1, q.2.2.2.2.2.2.2.2.2.2.2)) ++ bl_Valley E ay oy y)) (va_runV (As := [.ref (ay oy)]) (rest := []) ⟨hx, hb, hml, hown, ha⟩ (k_X9_copyFrom l E a (o + 98) (x.1 8) ay oy y q hq H.size) (cwV 1 ha (gi_V (fun _ h => h) mw979 mw938 mw939 mw75 mw940) rfl rfl rfl hv_X9_copyFrom ⟨(Nat.le_of_ble_eq_true rfl), (Nat.le_of_ble_eq_true rfl)⟩) ⟨pre_blind, va_recv hst.k (fr_P hP [41] rfl) (ci := 11) (q0 := 0) rfl rfl, pre_at hP hD hS hz hzs hst [41, 42, 43, 44, 45, 46, 47, 48, 49, 50] (by decide) rfl rfl⟩ rfl rfl hl.1 rfl (lv_room (Nat.le_of_ble_eq_true rfl)) dX5_begin_10 ⟨(Nat.le_of_ble_eq_true rfl), (Nat.le_of_ble_eq_true rfl)⟩) hP hD hS hA [41, 42, 43, 44, 45, 46, 47, 48, 49, 50] (by decide) rfl rfl rfl rfl (fun H locs hP hD hS => ?_)
    rw [← hc_8] at hP hD
    rw [← flat_hist] at hP hD
    exact en_v (L' := w_Hist E a o (upH x.1 8 ((q.1, q.2.1, q.2.2.1), (q.2.2.2.1, q.2.2.2.2.1, q.2.2.2.2.2.1), (q.2.2.2.2.2.2.1, q.2.2.2.2.2.2.2.1, q.2.2.2.2.2.2.2.2.1), (q.2.2.2.2.2.2.2.2.2.1, q.2.2.2.2.2.2.2.2.2.2.1, q.2.2.2.2.2.2.2.2.2.2.2)), x.2.1, x.2.2) :: bl_Valley E ay oy y) hQ (Nat.le_of_ble_eq_true rfl) (Nat.le_of_ble_eq_true rfl) hx hb hr hlocks hP hD hS dX5_begin_13

/-! X5_beginning -/
theorem dX5_beginning_0 : decode cX5_beginning 0 = .ok (.aload_n 0, 1) := by decide +kernel
theorem dX5_beginning_1 : decode cX5_beginning 1 = .ok (.getfield 11, 3) := by decide +kernel
theorem dX5_beginning_4 : decode cX5_beginning 4 = .ok (.aload_n 0, 1) := by decide +kernel
theorem dX5_beginning_5 : decode cX5_beginning 5 = .ok (.getfield 15, 3) := by decide +kernel
theorem dX5_beginning_8 : decode cX5_beginning 8 = .ok (.aaload, 1) := by decide +kernel
theorem dX5_beginning_9 : decode cX5_beginning 9 = .ok (.areturn, 1) := by decide +kernel
def f_X5_beginning (x_current : Int32) : Option Unit := q_gd (q_in x_current 9) (some ())
theorem hv_X5_beginning : yX5_beginning.cls = RX5 ∧ yX5_beginning.cls ≠ "java/lang/invoke/MethodHandle" ∧ yX5_beginning.cls ≠ "java/lang/invoke/VarHandle" ∧ (parseMethodDescriptor yX5_beginning.desc).map (fun d => d.parameters.length) = some 0 := by decide +kernel
abbrev rm_X5_beginning : Room := { frames := 0, cells := 0, slots := 0, locals := 0 }
set_option maxHeartbeats 4000000 in
set_option maxRecDepth 100000 in
theorem k_X5_beginning (l : Launch) (E : ET) (a : Nat → Nat) (o : Nat) (x : Hist_t) (res : Unit) (hF : f_X5_beginning x.2.1 = some res) (sz : Nat) : CtR l yX5_beginning (mws yX5_beginning cX5_beginning 1 (some (.object "ValleyBells$Valley"))) rm_X5_beginning 0 0 [.ref (a o)] E (bl_Hist E a o x) (a (o + 2 + 12 * x.2.1.toNatClampNeg)) (bl_Hist E a o x) sz := by
  refine mk_M (by decide +kernel) (Nat.le_of_ble_eq_true rfl) ?_
  intro p e s m below meth c A args Q ls hAe hsz hQ hx hb hr hml hin ha hown hlocks hA hz hzs hst hP hD hS hl
  have hown : s.vm.findClass RX5 = some m.cls := hown
  rw [hAe] at hQ
  subst hsz
  have hl : lv_has ls 1 [(0, .ref (a o))] := hl
  generalize hHe : s.heap = H at hP
  have hS : va_S A s.heap H [] := by rw [← hHe]; exact hS
  generalize ([] : List Loc) = locs at hS ⊢
  have hP : va_P E.1 vwCl (List.flatten [w_Hist E a o x]) H := hP
  have hD : va_D A (List.flatten [w_Hist E a o x]) := hD
  obtain ⟨hg, hF⟩ := q_gdi hF
  refine lv_aload_n hx hb dX5_beginning_0 rfl (lv_at hl 0 rfl) ?_
  refine va_get (D := E.1) (ci := 7) (v := .ref (a (o + 1))) (C := RX5) (T := TX5) (N := 3) hx hb ha in_X5 hown hst.k hP 0 rfl rfl 0 (by decide) (ha _ mw233) (fun _ h9 => h9) rfl dX5_beginning_1 ?_
  refine lv_aload_n hx hb dX5_beginning_4 rfl (lv_at hl 0 rfl) ?_
  refine va_get (D := E.1) (ci := 7) (v := .int x.2.1) (C := RX5) (T := TX5) (N := 3) hx hb ha in_X5 hown hst.k hP 0 rfl rfl 1 (by decide) (ha _ mw234) (fun _ h9 => h9) rfl dX5_beginning_5 ?_
  refine va_aldq hx hb hst.k hP 1 5 (f := fun j => some (a (o + 2 + 12 * j))) rfl rfl (C := "ValleyBells$Valley") hg dX5_beginning_8 ?_
  show W p l e _ s m args below meth c H locs 0 0 Q (F0 m 9 ls (.ref (a (o + 2 + 12 * x.2.1.toNatClampNeg)) :: []))
  exact en_r hQ (Nat.le_of_ble_eq_true rfl) (Nat.le_of_ble_eq_true rfl) hx hb hr (Or.inl ⟨_, rfl⟩) hlocks hP hD hS rfl dX5_beginning_9
