def upH (f : Nat → Valley_t) (k : Nat) (v : Valley_t) : Nat → Valley_t := fun j => if j = k then v else f j
/-- a valley, another copied into it -/
def q_vcp (v y : Valley_t) : Option Valley_t := q_bd (f_X9_copyFrom v.1.1 v.1.2.1 v.1.2.2 v.2.1.1 v.2.1.2.1 v.2.1.2.2 v.2.2.1.1 v.2.2.1.2.1 v.2.2.1.2.2 v.2.2.2.1 v.2.2.2.2.1 v.2.2.2.2.2 y.1.1 y.1.2.1 y.1.2.2 y.2.1.1 y.2.1.2.1 y.2.1.2.2 y.2.2.1.1 y.2.2.1.2.1 y.2.2.1.2.2 y.2.2.2.1 y.2.2.2.2.1 y.2.2.2.2.2) (fun q => some ((q.1, q.2.1, q.2.2.1), (q.2.2.2.1, q.2.2.2.2.1, q.2.2.2.2.2.1), (q.2.2.2.2.2.2.1, q.2.2.2.2.2.2.2.1, q.2.2.2.2.2.2.2.2.1), (q.2.2.2.2.2.2.2.2.2.1, q.2.2.2.2.2.2.2.2.2.2.1, q.2.2.2.2.2.2.2.2.2.2.2)))
theorem q_vcpi {v y v1 : Valley_t} (h : q_vcp v y = some v1) : ∃ q, f_X9_copyFrom v.1.1 v.1.2.1 v.1.2.2 v.2.1.1 v.2.1.2.1 v.2.1.2.2 v.2.2.1.1 v.2.2.1.2.1 v.2.2.1.2.2 v.2.2.2.1 v.2.2.2.2.1 v.2.2.2.2.2 y.1.1 y.1.2.1 y.1.2.2 y.2.1.1 y.2.1.2.1 y.2.1.2.2 y.2.2.1.1 y.2.2.1.2.1 y.2.2.1.2.2 y.2.2.2.1 y.2.2.2.2.1 y.2.2.2.2.2 = some q ∧ v1 = ((q.1, q.2.1, q.2.2.1), (q.2.2.2.1, q.2.2.2.2.1, q.2.2.2.2.2.1), (q.2.2.2.2.2.2.1, q.2.2.2.2.2.2.2.1, q.2.2.2.2.2.2.2.2.1), (q.2.2.2.2.2.2.2.2.2.1, q.2.2.2.2.2.2.2.2.2.2.1, q.2.2.2.2.2.2.2.2.2.2.2)) := by
  obtain ⟨q, h1, h2⟩ := q_bdi h
  exact ⟨q, h1, (Option.some.inj h2).symm⟩
theorem pm_abc {A B C : va_W} : (A ++ (B ++ C)).Perm (B ++ (A ++ C)) := by
  rw [← List.append_assoc, ← List.append_assoc]
  exact List.perm_append_comm.append_right C
theorem hist_split {E : ET} {a : Nat → Nat} {o : Nat} {x : Hist_t} {k : Nat} (hk : k < 9) : ∃ R : va_W, (w_Hist E a o x).Perm ((bl_Valley E a (o + 2 + 12 * k) (x.1 k)).flatten ++ R) ∧ ∀ V : Valley_t, (w_Hist E a o (upH x.1 k V, x.2.1, x.2.2)).Perm ((bl_Valley E a (o + 2 + 12 * k) V).flatten ++ R) := by
  have p := List.perm_cons_erase (List.mem_range.mpr hk)
  refine ⟨w_HistR E a o x.2.1 x.2.2 ++ (((List.range 9).erase k).map (hv_W E a o x.1)).flatten, ?_, fun V => ?_⟩
  · have q := (p.map (hv_W E a o x.1)).flatten
    rw [List.map_cons, List.flatten_cons] at q
    exact (List.Perm.append_left _ q).trans pm_abc
  · have q := (p.map (hv_W E a o (upH x.1 k V))).flatten
    rw [List.map_cons, List.flatten_cons] at q
    have e : ((List.range 9).erase k).map (hv_W E a o (upH x.1 k V)) = ((List.range 9).erase k).map (hv_W E a o x.1) := List.map_congr_left (fun j hj => by
      have hj9 := (List.nodup_range.mem_erase_iff.mp hj).1
      unfold hv_W upH
      rw [if_neg hj9])
    have e2 : hv_W E a o (upH x.1 k V) k = (bl_Valley E a (o + 2 + 12 * k) V).flatten := by
      unfold hv_W upH
      rw [if_pos rfl]
    rw [e, e2] at q
    exact (List.Perm.append_left _ q).trans pm_abc
theorem hist_b1 {W R : va_W} {A B : List va_W} (h : W.Perm (A.flatten ++ R)) : (List.flatten (W :: B)).Perm (List.flatten (A ++ (B ++ [R]))) := by
  rw [List.flatten_cons, List.flatten_append, List.flatten_append]
  refine (h.append_right _).trans ?_
  rw [List.append_assoc]
  refine List.Perm.append_left _ ?_
  rw [List.flatten_cons, List.flatten_nil, List.append_nil]
  exact List.perm_append_comm
theorem q_in9 {i : Int32} (h : q_in i 9) : i.toNatClampNeg < 9 := Nat.not_le.mp fun q => h (Or.inr q)

/-! X5_keep -/
theorem dX5_keep_0 : decode cX5_keep 0 = .ok (.aload_n 0, 1) := by decide +kernel
theorem dX5_keep_1 : decode cX5_keep 1 = .ok (.aload_n 0, 1) := by decide +kernel
theorem dX5_keep_2 : decode cX5_keep 2 = .ok (.getfield 15, 3) := by decide +kernel
theorem dX5_keep_5 : decode cX5_keep 5 = .ok (.iconst 1, 1) := by decide +kernel
theorem dX5_keep_6 : decode cX5_keep 6 = .ok (.iadd, 1) := by decide +kernel
theorem dX5_keep_7 : decode cX5_keep 7 = .ok (.bipush 9, 2) := by decide +kernel
theorem dX5_keep_9 : decode cX5_keep 9 = .ok (.irem, 1) := by decide +kernel
theorem dX5_keep_10 : decode cX5_keep 10 = .ok (.putfield 15, 3) := by decide +kernel
theorem dX5_keep_13 : decode cX5_keep 13 = .ok (.aload_n 0, 1) := by decide +kernel
theorem dX5_keep_14 : decode cX5_keep 14 = .ok (.aload_n 0, 1) := by decide +kernel
theorem dX5_keep_15 : decode cX5_keep 15 = .ok (.getfield 19, 3) := by decide +kernel
theorem dX5_keep_18 : decode cX5_keep 18 = .ok (.iconst 1, 1) := by decide +kernel
theorem dX5_keep_19 : decode cX5_keep 19 = .ok (.iadd, 1) := by decide +kernel
theorem dX5_keep_20 : decode cX5_keep 20 = .ok (.bipush 8, 2) := by decide +kernel
theorem dX5_keep_22 : decode cX5_keep 22 = .ok (.invokestatic 27, 3) := by decide +kernel
theorem dX5_keep_25 : decode cX5_keep 25 = .ok (.putfield 19, 3) := by decide +kernel
theorem dX5_keep_28 : decode cX5_keep 28 = .ok (.return_, 1) := by decide +kernel
def f_X5_keep (x_current : Int32) (x_count : Int32) : Option (Int32 × Int32) :=
  some ((x_current + 1) - (x_current + 1) / 9 * 9, if 8 < (x_count + 1) then 8 else (x_count + 1))
theorem hv_X5_keep : yX5_keep.cls = RX5 ∧ yX5_keep.cls ≠ "java/lang/invoke/MethodHandle" ∧ yX5_keep.cls ≠ "java/lang/invoke/VarHandle" ∧ (parseMethodDescriptor yX5_keep.desc).map (fun d => d.parameters.length) = some 0 := by decide +kernel
abbrev rm_X5_keep : Room := { frames := 1, cells := 0, slots := 0, locals := 14 }
set_option maxHeartbeats 4000000 in
set_option maxRecDepth 100000 in
theorem k_X5_keep (l : Launch) (E : ET) (a : Nat → Nat) (o : Nat) (x : Hist_t) (res : Int32 × Int32) (hF : f_X5_keep x.2.1 x.2.2 = some res) (sz : Nat) : CtV l yX5_keep (mws yX5_keep cX5_keep 1 none) rm_X5_keep 0 0 [.ref (a o)] E (bl_Hist E a o x) (bl_Hist E a o (x.1, res.1, res.2)) sz := by
  refine mk_M (by decide +kernel) (Nat.le_of_ble_eq_true rfl) ?_
  intro p e s m below meth c A args Q ls hAe hsz hQ hx hb hr hml hin ha hown hlocks hA hz hzs hst hP hD hS hl
  have hown : s.vm.findClass RX5 = some m.cls := hown
  rw [hAe] at hQ
  subst hsz
  have hP : va_P E.1 vwCl (List.flatten [w_Hist E a o x]) s.heap := hP
  have hD : va_D A (List.flatten [w_Hist E a o x]) := hD
  have hl : lv_has ls 1 [(0, .ref (a o))] := hl
  generalize hHe : s.heap = H at hP
  have hS : va_S A s.heap H [] := by rw [← hHe]; exact hS
  generalize ([] : List Loc) = locs at hS ⊢
  unfold f_X5_keep at hF
  refine lv_aload_n hx hb dX5_keep_0 rfl (lv_at hl 0 rfl) ?_
  refine lv_aload_n hx hb dX5_keep_1 rfl (lv_at hl 0 rfl) ?_
  refine va_get (D := E.1) (ci := 6) (v := .int x.2.1) (C := RX5) (T := TX5) (N := 3) hx hb ha in_X5 hown hst.k hP 0 rfl rfl 1 (by decide) (ha _ mw180) (fun _ h9 => h9) rfl dX5_keep_2 ?_
  refine lv_iconst (v := 1) hx hb dX5_keep_5 (by decide) ?_
  refine lv_iadd hx hb dX5_keep_6 ?_
  refine lv_bipush (v := 9) hx hb dX5_keep_7 (by decide) ?_
  refine lv_irem hx hb dX5_keep_9 (by decide) ?_
  refine va_put (D := E.1) (ci := 6) (v := .int ((x.2.1 + 1) - (x.2.1 + 1) / 9 * 9)) (ty := .int) (C := RX5) (T := TX5) (N := 3) hx hb ha in_X5 tyX5 tyX5_ok nmX5 hown hst.k hP hD hS 0 rfl rfl 1 (by decide) (ha _ mw180) (fun _ h9 => h9) rfl (tyX5_ok 1 (by decide)) rfl rfl (Nat.le_of_ble_eq_true rfl) dX5_keep_10 (fun H locs hP hD hS => ?_)
  have hP : va_P E.1 vwCl (List.flatten [w_Hist E a o (x.1, (x.2.1 + 1) - (x.2.1 + 1) / 9 * 9, x.2.2)]) H := hP
  have hD : va_D A (List.flatten [w_Hist E a o (x.1, (x.2.1 + 1) - (x.2.1 + 1) / 9 * 9, x.2.2)]) := hD
  refine lv_aload_n hx hb dX5_keep_13 rfl (lv_at hl 0 rfl) ?_
  refine lv_aload_n hx hb dX5_keep_14 rfl (lv_at hl 0 rfl) ?_
  refine va_get (D := E.1) (ci := 6) (v := .int x.2.2) (C := RX5) (T := TX5) (N := 3) hx hb ha in_X5 hown hst.k hP 0 rfl rfl 2 (by decide) (ha _ mw181) (fun _ h9 => h9) rfl dX5_keep_15 ?_
  refine lv_iconst (v := 1) hx hb dX5_keep_18 (by decide) ?_
  refine lv_iadd hx hb dX5_keep_19 ?_
  refine lv_bipush (v := 8) hx hb dX5_keep_20 (by decide) ?_
  refine va_mmin hx hb (hml.trans hl.1.symm) hown (ha _ mw592) (ha _ mw593) (ha _ mw48) (ha _ mw594) (Nat.le_of_ble_eq_true rfl) (Nat.le_of_ble_eq_true rfl) (Nat.le_of_ble_eq_true rfl) (Nat.le_of_ble_eq_true rfl) dX5_keep_22 ?_
  refine va_put (D := E.1) (ci := 6) (v := .int (if 8 < (x.2.2 + 1) then 8 else (x.2.2 + 1))) (ty := .int) (C := RX5) (T := TX5) (N := 3) hx hb ha in_X5 tyX5 tyX5_ok nmX5 hown hst.k hP hD hS 0 rfl rfl 2 (by decide) (ha _ mw181) (fun _ h9 => h9) rfl (tyX5_ok 2 (by decide)) rfl rfl (Nat.le_of_ble_eq_true rfl) dX5_keep_25 (fun H locs hP hD hS => ?_)
  have hP : va_P E.1 vwCl (List.flatten [w_Hist E a o (x.1, (x.2.1 + 1) - (x.2.1 + 1) / 9 * 9, if 8 < (x.2.2 + 1) then 8 else (x.2.2 + 1))]) H := hP
  have hD : va_D A (List.flatten [w_Hist E a o (x.1, (x.2.1 + 1) - (x.2.1 + 1) / 9 * 9, if 8 < (x.2.2 + 1) then 8 else (x.2.2 + 1))]) := hD
  obtain rfl := Option.some.inj hF
  exact en_v hQ (Nat.le_of_ble_eq_true rfl) (Nat.le_of_ble_eq_true rfl) hx hb hr hlocks hP hD hS dX5_keep_28

/-! X5_stepBack -/
theorem dX5_stepBack_0 : decode cX5_stepBack 0 = .ok (.aload_n 0, 1) := by decide +kernel
theorem dX5_stepBack_1 : decode cX5_stepBack 1 = .ok (.aload_n 0, 1) := by decide +kernel
theorem dX5_stepBack_2 : decode cX5_stepBack 2 = .ok (.getfield 15, 3) := by decide +kernel
theorem dX5_stepBack_5 : decode cX5_stepBack 5 = .ok (.bipush 9, 2) := by decide +kernel
theorem dX5_stepBack_7 : decode cX5_stepBack 7 = .ok (.iadd, 1) := by decide +kernel
theorem dX5_stepBack_8 : decode cX5_stepBack 8 = .ok (.iconst 1, 1) := by decide +kernel
theorem dX5_stepBack_9 : decode cX5_stepBack 9 = .ok (.isub, 1) := by decide +kernel
theorem dX5_stepBack_10 : decode cX5_stepBack 10 = .ok (.bipush 9, 2) := by decide +kernel
theorem dX5_stepBack_12 : decode cX5_stepBack 12 = .ok (.irem, 1) := by decide +kernel
theorem dX5_stepBack_13 : decode cX5_stepBack 13 = .ok (.putfield 15, 3) := by decide +kernel
theorem dX5_stepBack_16 : decode cX5_stepBack 16 = .ok (.aload_n 0, 1) := by decide +kernel
theorem dX5_stepBack_17 : decode cX5_stepBack 17 = .ok (.dup, 1) := by decide +kernel
theorem dX5_stepBack_18 : decode cX5_stepBack 18 = .ok (.getfield 19, 3) := by decide +kernel
theorem dX5_stepBack_21 : decode cX5_stepBack 21 = .ok (.iconst 1, 1) := by decide +kernel
theorem dX5_stepBack_22 : decode cX5_stepBack 22 = .ok (.isub, 1) := by decide +kernel
theorem dX5_stepBack_23 : decode cX5_stepBack 23 = .ok (.putfield 19, 3) := by decide +kernel
theorem dX5_stepBack_26 : decode cX5_stepBack 26 = .ok (.return_, 1) := by decide +kernel
def f_X5_stepBack (x_current : Int32) (x_count : Int32) : Option (Int32 × Int32) :=
  some (((x_current + 9) - 1) - ((x_current + 9) - 1) / 9 * 9, x_count - 1)
theorem hv_X5_stepBack : yX5_stepBack.cls = RX5 ∧ yX5_stepBack.cls ≠ "java/lang/invoke/MethodHandle" ∧ yX5_stepBack.cls ≠ "java/lang/invoke/VarHandle" ∧ (parseMethodDescriptor yX5_stepBack.desc).map (fun d => d.parameters.length) = some 0 := by decide +kernel
abbrev rm_X5_stepBack : Room := { frames := 0, cells := 0, slots := 0, locals := 0 }
set_option maxHeartbeats 4000000 in
set_option maxRecDepth 100000 in
theorem k_X5_stepBack (l : Launch) (E : ET) (a : Nat → Nat) (o : Nat) (x : Hist_t) (res : Int32 × Int32) (hF : f_X5_stepBack x.2.1 x.2.2 = some res) (sz : Nat) : CtV l yX5_stepBack (mws yX5_stepBack cX5_stepBack 1 none) rm_X5_stepBack 0 0 [.ref (a o)] E (bl_Hist E a o x) (bl_Hist E a o (x.1, res.1, res.2)) sz := by
  refine mk_M (by decide +kernel) (Nat.le_of_ble_eq_true rfl) ?_
  intro p e s m below meth c A args Q ls hAe hsz hQ hx hb hr hml hin ha hown hlocks hA hz hzs hst hP hD hS hl
  have hown : s.vm.findClass RX5 = some m.cls := hown
  rw [hAe] at hQ
  subst hsz
  have hP : va_P E.1 vwCl (List.flatten [w_Hist E a o x]) s.heap := hP
  have hD : va_D A (List.flatten [w_Hist E a o x]) := hD
  have hl : lv_has ls 1 [(0, .ref (a o))] := hl
  generalize hHe : s.heap = H at hP
  have hS : va_S A s.heap H [] := by rw [← hHe]; exact hS
  generalize ([] : List Loc) = locs at hS ⊢
  unfold f_X5_stepBack at hF
  refine lv_aload_n hx hb dX5_stepBack_0 rfl (lv_at hl 0 rfl) ?_
  refine lv_aload_n hx hb dX5_stepBack_1 rfl (lv_at hl 0 rfl) ?_
  refine va_get (D := E.1) (ci := 6) (v := .int x.2.1) (C := RX5) (T := TX5) (N := 3) hx hb ha in_X5 hown hst.k hP 0 rfl rfl 1 (by decide) (ha _ mw180) (fun _ h9 => h9) rfl dX5_stepBack_2 ?_
  refine lv_bipush (v := 9) hx hb dX5_stepBack_5 (by decide) ?_
  refine lv_iadd hx hb dX5_stepBack_7 ?_
  refine lv_iconst (v := 1) hx hb dX5_stepBack_8 (by decide) ?_
  refine lv_isub hx hb dX5_stepBack_9 ?_
  refine lv_bipush (v := 9) hx hb dX5_stepBack_10 (by decide) ?_
  refine lv_irem hx hb dX5_stepBack_12 (by decide) ?_
  refine va_put (D := E.1) (ci := 6) (v := .int (((x.2.1 + 9) - 1) - ((x.2.1 + 9) - 1) / 9 * 9)) (ty := .int) (C := RX5) (T := TX5) (N := 3) hx hb ha in_X5 tyX5 tyX5_ok nmX5 hown hst.k hP hD hS 0 rfl rfl 1 (by decide) (ha _ mw180) (fun _ h9 => h9) rfl (tyX5_ok 1 (by decide)) rfl rfl (Nat.le_of_ble_eq_true rfl) dX5_stepBack_13 (fun H locs hP hD hS => ?_)
  have hP : va_P E.1 vwCl (List.flatten [w_Hist E a o (x.1, ((x.2.1 + 9) - 1) - ((x.2.1 + 9) - 1) / 9 * 9, x.2.2)]) H := hP
  have hD : va_D A (List.flatten [w_Hist E a o (x.1, ((x.2.1 + 9) - 1) - ((x.2.1 + 9) - 1) / 9 * 9, x.2.2)]) := hD
  refine lv_aload_n hx hb dX5_stepBack_16 rfl (lv_at hl 0 rfl) ?_
  refine lv_dup hx hb dX5_stepBack_17 rfl ?_
  refine va_get (D := E.1) (ci := 6) (v := .int x.2.2) (C := RX5) (T := TX5) (N := 3) hx hb ha in_X5 hown hst.k hP 0 rfl rfl 2 (by decide) (ha _ mw181) (fun _ h9 => h9) rfl dX5_stepBack_18 ?_
  refine lv_iconst (v := 1) hx hb dX5_stepBack_21 (by decide) ?_
  refine lv_isub hx hb dX5_stepBack_22 ?_
  refine va_put (D := E.1) (ci := 6) (v := .int (x.2.2 - 1)) (ty := .int) (C := RX5) (T := TX5) (N := 3) hx hb ha in_X5 tyX5 tyX5_ok nmX5 hown hst.k hP hD hS 0 rfl rfl 2 (by decide) (ha _ mw181) (fun _ h9 => h9) rfl (tyX5_ok 2 (by decide)) rfl rfl (Nat.le_of_ble_eq_true rfl) dX5_stepBack_23 (fun H locs hP hD hS => ?_)
  have hP : va_P E.1 vwCl (List.flatten [w_Hist E a o (x.1, ((x.2.1 + 9) - 1) - ((x.2.1 + 9) - 1) / 9 * 9, x.2.2 - 1)]) H := hP
  have hD : va_D A (List.flatten [w_Hist E a o (x.1, ((x.2.1 + 9) - 1) - ((x.2.1 + 9) - 1) / 9 * 9, x.2.2 - 1)]) := hD
  obtain rfl := Option.some.inj hF
  exact en_v hQ (Nat.le_of_ble_eq_true rfl) (Nat.le_of_ble_eq_true rfl) hx hb hr hlocks hP hD hS dX5_stepBack_26

/-! X5_forget -/
theorem dX5_forget_0 : decode cX5_forget 0 = .ok (.aload_n 0, 1) := by decide +kernel
theorem dX5_forget_1 : decode cX5_forget 1 = .ok (.iconst 0, 1) := by decide +kernel
theorem dX5_forget_2 : decode cX5_forget 2 = .ok (.putfield 19, 3) := by decide +kernel
theorem dX5_forget_5 : decode cX5_forget 5 = .ok (.return_, 1) := by decide +kernel
def f_X5_forget (x_count : Int32) : Option (Int32) :=
  some 0
theorem hv_X5_forget : yX5_forget.cls = RX5 ∧ yX5_forget.cls ≠ "java/lang/invoke/MethodHandle" ∧ yX5_forget.cls ≠ "java/lang/invoke/VarHandle" ∧ (parseMethodDescriptor yX5_forget.desc).map (fun d => d.parameters.length) = some 0 := by decide +kernel
abbrev rm_X5_forget : Room := { frames := 0, cells := 0, slots := 0, locals := 0 }
set_option maxHeartbeats 4000000 in
set_option maxRecDepth 100000 in
theorem k_X5_forget (l : Launch) (E : ET) (a : Nat → Nat) (o : Nat) (x : Hist_t) (res : Int32) (hF : f_X5_forget x.2.2 = some res) (sz : Nat) : CtV l yX5_forget (mws yX5_forget cX5_forget 1 none) rm_X5_forget 0 0 [.ref (a o)] E (bl_Hist E a o x) (bl_Hist E a o (x.1, x.2.1, res)) sz := by
  refine mk_M (by decide +kernel) (Nat.le_of_ble_eq_true rfl) ?_
  intro p e s m below meth c A args Q ls hAe hsz hQ hx hb hr hml hin ha hown hlocks hA hz hzs hst hP hD hS hl
  have hown : s.vm.findClass RX5 = some m.cls := hown
  rw [hAe] at hQ
  subst hsz
  have hP : va_P E.1 vwCl (List.flatten [w_Hist E a o x]) s.heap := hP
  have hD : va_D A (List.flatten [w_Hist E a o x]) := hD
  have hl : lv_has ls 1 [(0, .ref (a o))] := hl
  generalize hHe : s.heap = H at hP
  have hS : va_S A s.heap H [] := by rw [← hHe]; exact hS
  generalize ([] : List Loc) = locs at hS ⊢
  unfold f_X5_forget at hF
  refine lv_aload_n hx hb dX5_forget_0 rfl (lv_at hl 0 rfl) ?_
  refine lv_iconst (v := 0) hx hb dX5_forget_1 (by decide) ?_
  refine va_put (D := E.1) (ci := 6) (v := .int 0) (ty := .int) (C := RX5) (T := TX5) (N := 3) hx hb ha in_X5 tyX5 tyX5_ok nmX5 hown hst.k hP hD hS 0 rfl rfl 2 (by decide) (ha _ mw181) (fun _ h9 => h9) rfl (tyX5_ok 2 (by decide)) rfl rfl (Nat.le_of_ble_eq_true rfl) dX5_forget_2 (fun H locs hP hD hS => ?_)
  have hP : va_P E.1 vwCl (List.flatten [w_Hist E a o (x.1, x.2.1, 0)]) H := hP
  have hD : va_D A (List.flatten [w_Hist E a o (x.1, x.2.1, 0)]) := hD
  obtain rfl := Option.some.inj hF
  exact en_v hQ (Nat.le_of_ble_eq_true rfl) (Nat.le_of_ble_eq_true rfl) hx hb hr hlocks hP hD hS dX5_forget_5

/-! X5_begin -/
theorem dX5_begin_0 : decode cX5_begin 0 = .ok (.aload_n 0, 1) := by decide +kernel
theorem dX5_begin_1 : decode cX5_begin 1 = .ok (.getfield 11, 3) := by decide +kernel
theorem dX5_begin_4 : decode cX5_begin 4 = .ok (.aload_n 0, 1) := by decide +kernel
theorem dX5_begin_5 : decode cX5_begin 5 = .ok (.getfield 15, 3) := by decide +kernel
theorem dX5_begin_8 : decode cX5_begin 8 = .ok (.aaload, 1) := by decide +kernel
theorem dX5_begin_9 : decode cX5_begin 9 = .ok (.aload_n 1, 1) := by decide +kernel
theorem dX5_begin_10 : decode cX5_begin 10 = .ok (.invokevirtual 23, 3) := by decide +kernel
theorem dX5_begin_13 : decode cX5_begin 13 = .ok (.return_, 1) := by decide +kernel
def f_X5_begin (x_slots : (Nat → Valley_t)) (x_current : Int32) (y_key_tonic : Int32) (y_key_isMinor : Int32) (y_key_tolerance : Int32) (y_bells_herds : (Nat → Int32)) (y_bells_pitches : (Nat → Int32)) (y_bells_count : Int32) (y_melodies_lengths : (Nat → Int32)) (y_melodies_entries : (Nat → Int32)) (y_melodies_tones : (Nat → Int32)) (y_cliffs_delays : (Nat → Int32)) (y_cliffs_transpositions : (Nat → Int32)) (y_cliffs_count : Int32) : Option (Nat → Valley_t) :=
  q_gd (q_in x_current 9) (q_bd (q_vcp (x_slots x_current.toNatClampNeg) ((y_key_tonic, y_key_isMinor, y_key_tolerance), (y_bells_herds, y_bells_pitches, y_bells_count), (y_melodies_lengths, y_melodies_entries, y_melodies_tones), (y_cliffs_delays, y_cliffs_transpositions, y_cliffs_count))) (fun v => some (upH x_slots x_current.toNatClampNeg v)))
theorem hv_X5_begin : yX5_begin.cls = RX5 ∧ yX5_begin.cls ≠ "java/lang/invoke/MethodHandle" ∧ yX5_begin.cls ≠ "java/lang/invoke/VarHandle" ∧ (parseMethodDescriptor yX5_begin.desc).map (fun d => d.parameters.length) = some 1 := by decide +kernel
abbrev rm_X5_begin : Room := { frames := 3, cells := 0, slots := 0, locals := 102 }
set_option maxHeartbeats 4000000 in
set_option maxRecDepth 100000 in
theorem k_X5_begin (l : Launch) (E : ET) (a : Nat → Nat) (o : Nat) (x : Hist_t) (ay : Nat → Nat) (oy : Nat) (y : Valley_t) (res : (Nat → Valley_t)) (hF : f_X5_begin x.1 x.2.1 y.1.1 y.1.2.1 y.1.2.2 y.2.1.1 y.2.1.2.1 y.2.1.2.2 y.2.2.1.1 y.2.2.1.2.1 y.2.2.1.2.2 y.2.2.2.1 y.2.2.2.2.1 y.2.2.2.2.2 = some res) (sz : Nat) : CtV l yX5_begin (mws yX5_begin cX5_begin 2 none) rm_X5_begin 0 0 [.ref (a o), .ref (ay oy)] E (bl_Hist E a o x ++ bl_Valley E ay oy y) (bl_Hist E a o (res, x.2.1, x.2.2) ++ bl_Valley E ay oy y) sz := by
  refine mk_M (by decide +kernel) (Nat.le_of_ble_eq_true rfl) ?_
  intro p e s m below meth c A args Q ls hAe hsz hQ hx hb hr hml hin ha hown hlocks hA hz hzs hst hP hD hS hl
  have hown : s.vm.findClass RX5 = some m.cls := hown
  rw [hAe] at hQ
  subst hsz
  have hl : lv_has ls 2 [(0, .ref (a o)), (1, .ref (ay oy))] := hl
  generalize hHe : s.heap = H at hP
  have hS : va_S A s.heap H [] := by rw [← hHe]; exact hS
  generalize ([] : List Loc) = locs at hS ⊢
  have hP : va_P E.1 vwCl (List.flatten (w_Hist E a o x :: bl_Valley E ay oy y)) H := hP
  have hD : va_D A (List.flatten (w_Hist E a o x :: bl_Valley E ay oy y)) := hD
  obtain ⟨hg, hF⟩ := q_gdi hF
  obtain ⟨v1, hv1, hF⟩ := q_bdi hF
  obtain rfl := Option.some.inj hF
  refine lv_aload_n hx hb dX5_begin_0 rfl (lv_at hl 0 rfl) ?_
  refine va_get (D := E.1) (ci := 6) (v := .ref (a (o + 1))) (C := RX5) (T := TX5) (N := 3) hx hb ha in_X5 hown hst.k hP 0 rfl rfl 0 (by decide) (ha _ mw179) (fun _ h9 => h9) rfl dX5_begin_1 ?_
  refine lv_aload_n hx hb dX5_begin_4 rfl (lv_at hl 0 rfl) ?_
  refine va_get (D := E.1) (ci := 6) (v := .int x.2.1) (C := RX5) (T := TX5) (N := 3) hx hb ha in_X5 hown hst.k hP 0 rfl rfl 1 (by decide) (ha _ mw180) (fun _ h9 => h9) rfl dX5_begin_5 ?_
  refine va_aldq hx hb hst.k hP 1 3 (f := fun j => some (a (o + 2 + 12 * j))) rfl rfl (C := "ValleyBells$Valley") hg dX5_begin_8 ?_
  show W p l e _ s m args below meth c H locs 0 0 Q (F0 m 9 ls (.ref (a (o + 2 + 12 * x.2.1.toNatClampNeg)) :: []))
  have hk9 := q_in9 hg
  generalize x.2.1.toNatClampNeg = k at hk9 hv1 hQ ⊢
  refine lv_aload_n hx hb dX5_begin_9 rfl (lv_at hl 1 rfl) ?_
  obtain ⟨R9, hp1, hp2⟩ := hist_split (E := E) (a := a) (o := o) (x := x) hk9
  have hP := P_perm hP (hist_b1 hp1)
  have hD := D_perm hD (hist_b1 hp1)
  obtain ⟨q, hq, rfl⟩ := q_vcpi hv1
  refine cl_v (Lc := (bl_Valley E a (o + 2 + 12 * k) (x.1 k) ++ bl_Valley E ay oy y)) (Lc' := (bl_Valley E a (o + 2 + 12 * k) ((q.1, q.2.1, q.2.2.1), (q.2.2.2.1, q.2.2.2.2.1, q.2.2.2.2.2.1), (q.2.2.2.2.2.2.1, q.2.2.2.2.2.2.2.1, q.2.2.2.2.2.2.2.2.1), (q.2.2.2.2.2.2.2.2.2.1, q.2.2.2.2.2.2.2.2.2.2.1, q.2.2.2.2.2.2.2.2.2.2.2)) ++ bl_Valley E ay oy y)) (L' := (bl_Valley E a (o + 2 + 12 * k) ((q.1, q.2.1, q.2.2.1), (q.2.2.2.1, q.2.2.2.2.1, q.2.2.2.2.2.1), (q.2.2.2.2.2.2.1, q.2.2.2.2.2.2.2.1, q.2.2.2.2.2.2.2.2.1), (q.2.2.2.2.2.2.2.2.2.1, q.2.2.2.2.2.2.2.2.2.2.1, q.2.2.2.2.2.2.2.2.2.2.2)) ++ (bl_Valley E ay oy y ++ [R9]))) (va_runV (As := [.ref (ay oy)]) (rest := []) ⟨hx, hb, hml, hown, ha⟩ (k_X9_copyFrom l E a (o + 2 + 12 * k) (x.1 k) ay oy y q hq H.size) (cwV 1 ha (gi_V (fun _ h => h) mw329 mw330 mw331 mw27 mw332) rfl rfl rfl hv_X9_copyFrom ⟨(Nat.le_of_ble_eq_true rfl), (Nat.le_of_ble_eq_true rfl)⟩) ⟨pre_blind, va_recv hst.k (fr_P hP [0] rfl) (ci := 10) (q0 := 0) rfl rfl, pre_at hP hD hS hz hzs hst [0, 1, 2, 3, 4, 5, 6, 7, 8, 9] (by decide) rfl rfl⟩ rfl rfl hl.1 rfl (lv_room (Nat.le_of_ble_eq_true rfl)) dX5_begin_10 ⟨(Nat.le_of_ble_eq_true rfl), (Nat.le_of_ble_eq_true rfl)⟩) hP hD hS hA [0, 1, 2, 3, 4, 5, 6, 7, 8, 9] (by decide) rfl rfl rfl rfl (fun H locs hP hD hS => ?_)
  have hP := P_perm hP (hist_b1 (hp2 ((q.1, q.2.1, q.2.2.1), (q.2.2.2.1, q.2.2.2.2.1, q.2.2.2.2.2.1), (q.2.2.2.2.2.2.1, q.2.2.2.2.2.2.2.1, q.2.2.2.2.2.2.2.2.1), (q.2.2.2.2.2.2.2.2.2.1, q.2.2.2.2.2.2.2.2.2.2.1, q.2.2.2.2.2.2.2.2.2.2.2)))).symm
  have hD := D_perm hD (hist_b1 (hp2 ((q.1, q.2.1, q.2.2.1), (q.2.2.2.1, q.2.2.2.2.1, q.2.2.2.2.2.1), (q.2.2.2.2.2.2.1, q.2.2.2.2.2.2.2.1, q.2.2.2.2.2.2.2.2.1), (q.2.2.2.2.2.2.2.2.2.1, q.2.2.2.2.2.2.2.2.2.2.1, q.2.2.2.2.2.2.2.2.2.2.2)))).symm
  exact en_v (L' := w_Hist E a o (upH x.1 k ((q.1, q.2.1, q.2.2.1), (q.2.2.2.1, q.2.2.2.2.1, q.2.2.2.2.2.1), (q.2.2.2.2.2.2.1, q.2.2.2.2.2.2.2.1, q.2.2.2.2.2.2.2.2.1), (q.2.2.2.2.2.2.2.2.2.1, q.2.2.2.2.2.2.2.2.2.2.1, q.2.2.2.2.2.2.2.2.2.2.2)), x.2.1, x.2.2) :: bl_Valley E ay oy y) hQ (Nat.le_of_ble_eq_true rfl) (Nat.le_of_ble_eq_true rfl) hx hb hr hlocks hP hD hS dX5_begin_13

/-! X5_beginning -/
theorem dX5_beginning_0 : decode cX5_beginning 0 = .ok (.aload_n 0, 1) := by decide +kernel
theorem dX5_beginning_1 : decode cX5_beginning 1 = .ok (.getfield 11, 3) := by decide +kernel
theorem dX5_beginning_4 : decode cX5_beginning 4 = .ok (.aload_n 0, 1) := by decide +kernel
theorem dX5_beginning_5 : decode cX5_beginning 5 = .ok (.getfield 15, 3) := by decide +kernel
theorem dX5_beginning_8 : decode cX5_beginning 8 = .ok (.aaload, 1) := by decide +kernel
theorem dX5_beginning_9 : decode cX5_beginning 9 = .ok (.areturn, 1) := by decide +kernel
def f_X5_beginning (x_current : Int32) : Option Unit := q_gd (q_in x_current 9) (some ())
theorem hv_X5_beginning : yX5_beginning.cls = RX5 ∧ yX5_beginning.cls ≠ "java/lang/invoke/MethodHandle" ∧ yX5_beginning.cls ≠ "java/lang/invoke/VarHandle" ∧ (parseMethodDescriptor yX5_beginning.desc).map (fun d => d.parameters.length) = some 0 := by decide +kernel
abbrev rm_X5_beginning : Room := { frames := 0, cells := 0, slots := 0, locals := 0 }
set_option maxHeartbeats 4000000 in
set_option maxRecDepth 100000 in
theorem k_X5_beginning (l : Launch) (E : ET) (a : Nat → Nat) (o : Nat) (x : Hist_t) (res : Unit) (hF : f_X5_beginning x.2.1 = some res) (sz : Nat) : CtR l yX5_beginning (mws yX5_beginning cX5_beginning 1 (some (.object "ValleyBells$Valley"))) rm_X5_beginning 0 0 [.ref (a o)] E (bl_Hist E a o x) (a (o + 2 + 12 * x.2.1.toNatClampNeg)) (bl_Hist E a o x) sz := by
  refine mk_M (by decide +kernel) (Nat.le_of_ble_eq_true rfl) ?_
  intro p e s m below meth c A args Q ls hAe hsz hQ hx hb hr hml hin ha hown hlocks hA hz hzs hst hP hD hS hl
  have hown : s.vm.findClass RX5 = some m.cls := hown
  rw [hAe] at hQ
  subst hsz
  have hl : lv_has ls 1 [(0, .ref (a o))] := hl
  generalize hHe : s.heap = H at hP
  have hS : va_S A s.heap H [] := by rw [← hHe]; exact hS
  generalize ([] : List Loc) = locs at hS ⊢
  have hP : va_P E.1 vwCl (List.flatten [w_Hist E a o x]) H := hP
  have hD : va_D A (List.flatten [w_Hist E a o x]) := hD
  obtain ⟨hg, hF⟩ := q_gdi hF
  refine lv_aload_n hx hb dX5_beginning_0 rfl (lv_at hl 0 rfl) ?_
  refine va_get (D := E.1) (ci := 6) (v := .ref (a (o + 1))) (C := RX5) (T := TX5) (N := 3) hx hb ha in_X5 hown hst.k hP 0 rfl rfl 0 (by decide) (ha _ mw179) (fun _ h9 => h9) rfl dX5_beginning_1 ?_
  refine lv_aload_n hx hb dX5_beginning_4 rfl (lv_at hl 0 rfl) ?_
  refine va_get (D := E.1) (ci := 6) (v := .int x.2.1) (C := RX5) (T := TX5) (N := 3) hx hb ha in_X5 hown hst.k hP 0 rfl rfl 1 (by decide) (ha _ mw180) (fun _ h9 => h9) rfl dX5_beginning_5 ?_
  refine va_aldq hx hb hst.k hP 1 3 (f := fun j => some (a (o + 2 + 12 * j))) rfl rfl (C := "ValleyBells$Valley") hg dX5_beginning_8 ?_
  show W p l e _ s m args below meth c H locs 0 0 Q (F0 m 9 ls (.ref (a (o + 2 + 12 * x.2.1.toNatClampNeg)) :: []))
  exact en_r hQ (Nat.le_of_ble_eq_true rfl) (Nat.le_of_ble_eq_true rfl) hx hb hr (Or.inl ⟨_, rfl⟩) hlocks hP hD hS rfl dX5_beginning_9

section QSL
variable {p : Program} {l : Launch} {e : Env} {R : Room} {s : State} {m : MethodId} {args : Array Value} {below : List Frame} {meth : Method} {c : Code} {H : Heap} {locs : List Loc} {cells slots : Nat} {Q : State → Prop} {pc : Nat} {ls : Array Slot} {rest : List Value} {A : Nat → Prop} {E : ET} {L L' : List va_W} {cc : ByteArray}
theorem slot_perm {L L' : List va_W} {is : List Nat} {a ah : Nat → Nat} {o oh k : Nat} {x : Hist_t} {v v1 : Valley_t} {R9 : va_W} (hn : va_nd is = true) (hl : is.all (fun i => decide (i < L.length)) = true) (hp : pickB L is = bl_Valley E a o v ++ [w_Hist E ah oh x]) (hlen : is.length = 6) (hput : putB L is (bl_Valley E a o v1 ++ [w_Hist E ah oh x]) = L') (hw : (w_Hist E ah oh x).Perm ((bl_Valley E ah (oh + 2 + 12 * k) (x.1 k)).flatten ++ R9)) :
    ∃ R8 : va_W, L.flatten.Perm (bl_Valley E a o v ++ (bl_Valley E ah (oh + 2 + 12 * k) (x.1 k) ++ [R9 ++ R8])).flatten ∧ L'.flatten.Perm (bl_Valley E a o v1 ++ (bl_Valley E ah (oh + 2 + 12 * k) (x.1 k) ++ [R9 ++ R8])).flatten := by
  obtain ⟨R8, h1, h2⟩ := bl_perm is hn L (fun i hi => by simpa using List.all_eq_true.mp hl i hi)
  have h3 := h2 (bl_Valley E a o v1 ++ [w_Hist E ah oh x]) (by rw [hlen]; rfl)
  rw [hput] at h3
  rw [hp] at h1
  have g : ∀ u : Valley_t, ((bl_Valley E a o u ++ [w_Hist E ah oh x]).flatten ++ R8).Perm (bl_Valley E a o u ++ (bl_Valley E ah (oh + 2 + 12 * k) (x.1 k) ++ [R9 ++ R8])).flatten := fun u => by
    rw [List.flatten_append, List.flatten_append, List.flatten_append, List.append_assoc]
    refine List.Perm.append_left _ ?_
    rw [List.flatten_cons, List.flatten_nil, List.append_nil, List.flatten_cons, List.flatten_nil, List.append_nil, ← List.append_assoc]
    exact hw.append_right _
  exact ⟨R8, h1.trans (g v), h3.trans (g v1)⟩
set_option maxHeartbeats 4000000 in
theorem cl_slot {own : String} {idx nL : Nat} {is : List Nat} {a ah : Nat → Nat} {o oh k : Nat} {x : Hist_t} {v v1 : Valley_t} (hk : k < 9) (hq : q_vcp v (x.1 k) = some v1) (CF : CallFix p m c cc nL s args lw_all own) (cw : CallW R s args own RX9 idx yX9_copyFrom cX9_copyFrom 2 none (mws yX9_copyFrom cX9_copyFrom 2 none) rm_X9_copyFrom 0 0 1) (hg : (F0 m pc ls (.ref (ah (oh + 2 + 12 * k)) :: .ref (a o) :: rest)).method = m) (hsz : ls.size = nL) (hW : 2 * (F0 m pc ls (.ref (ah (oh + 2 + 12 * k)) :: .ref (a o) :: rest)).monitorRoom + (rest.map fun v => v.category).sum ≤ 8) (hdg : decode cc pc = .ok (.invokevirtual idx, 3)) (hf : cells + 0 ≤ R.cells ∧ slots + 0 ≤ R.slots)
    (hP : va_P E.1 vwCl L.flatten H) (hD : va_D A L.flatten) (hS : va_S A s.heap H locs) (hA : ∀ q, s.heap.size ≤ q → A q) (hz : ∀ q, A q → E.2 0 ≤ q) (hzs : E.2 0 ≤ s.heap.size) (hst : ST E s) (is' : List Nat) (hn : va_nd is' = true) (hl : is'.all (fun i => decide (i < L.length)) = true) (hp : pickB L is' = bl_Valley E a o v ++ [w_Hist E ah oh x]) (hlen : is'.length = 6) (hput : putB L is' (bl_Valley E a o v1 ++ [w_Hist E ah oh x]) = L')
    (kk : ∀ (H1 : Heap) (locs1 : List Loc), va_P E.1 vwCl L'.flatten H1 → va_D A L'.flatten → va_S A s.heap H1 locs1 → W p l e R s m args below meth c H1 locs1 cells slots Q (F0 m (pc + 3) ls rest)) : W p l e R s m args below meth c H locs cells slots Q (F0 m pc ls (.ref (ah (oh + 2 + 12 * k)) :: .ref (a o) :: rest)) := by
  obtain ⟨R9, hp1, -⟩ := hist_split (E := E) (a := ah) (o := oh) (x := x) hk
  obtain ⟨R8, e1, e2⟩ := slot_perm hn hl hp hlen hput hp1
  have hP := P_perm hP e1
  have hD := D_perm hD e1
  obtain ⟨q, hq1, rfl⟩ := q_vcpi hq
  refine cl_v (Lc := (bl_Valley E a o v ++ bl_Valley E ah (oh + 2 + 12 * k) (x.1 k))) (Lc' := (bl_Valley E a o ((q.1, q.2.1, q.2.2.1), (q.2.2.2.1, q.2.2.2.2.1, q.2.2.2.2.2.1), (q.2.2.2.2.2.2.1, q.2.2.2.2.2.2.2.1, q.2.2.2.2.2.2.2.2.1), (q.2.2.2.2.2.2.2.2.2.1, q.2.2.2.2.2.2.2.2.2.2.1, q.2.2.2.2.2.2.2.2.2.2.2)) ++ bl_Valley E ah (oh + 2 + 12 * k) (x.1 k))) (L' := (bl_Valley E a o ((q.1, q.2.1, q.2.2.1), (q.2.2.2.1, q.2.2.2.2.1, q.2.2.2.2.2.1), (q.2.2.2.2.2.2.1, q.2.2.2.2.2.2.2.1, q.2.2.2.2.2.2.2.2.1), (q.2.2.2.2.2.2.2.2.2.1, q.2.2.2.2.2.2.2.2.2.2.1, q.2.2.2.2.2.2.2.2.2.2.2)) ++ (bl_Valley E ah (oh + 2 + 12 * k) (x.1 k) ++ [R9 ++ R8]))) (va_runV (As := [.ref (ah (oh + 2 + 12 * k))]) (rest := rest) CF (k_X9_copyFrom l E a o v ah (oh + 2 + 12 * k) (x.1 k) q hq1 H.size) cw ⟨pre_blind, va_recv hst.k (fr_P hP [0] rfl) (ci := 10) (q0 := 0) rfl rfl, pre_at hP hD hS hz hzs hst [0, 1, 2, 3, 4, 5, 6, 7, 8, 9] (by decide) rfl rfl⟩ hg rfl hsz rfl hW hdg hf) hP hD hS hA [0, 1, 2, 3, 4, 5, 6, 7, 8, 9] (by decide) rfl rfl rfl rfl (fun H locs hP hD hS => ?_)
  exact kk H locs (P_perm hP e2.symm) (D_perm hD e2.symm) hS
end QSL
