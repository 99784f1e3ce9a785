/-! ===== things made: constructors, arrays; a callee that gives more blocks than it was given ===== -/
theorem flat_push {α : Type} {L : List (List α)} {x : α} : (L ++ [[x]]).flatten = L.flatten ++ [x] := by
  rw [List.flatten_append]
  rfl
theorem fr_core {A : Nat → Prop} {D : va_G} {cl : List vw_C} {W W' V V' R : va_W} {H H1 : Heap} (hP : va_P D cl W H) (hD : va_D A W) (h1 : W.Perm (V ++ R)) (p2 : W'.Perm (V' ++ R))
    (hk : ∀ q : Nat, q < H.size → ¬ va_A V H.size q → H1[q]? = H[q]?) (hF : ∀ q, va_A V H.size q → A q) (hP1 : va_P D cl V' H1) (hD1 : va_D (va_A V H.size) V') : va_P D cl W' H1 ∧ va_D A W' := by
  have hD2 := D_iff.mp (D_perm hD h1)
  have hP2 := P_iff.mp (P_perm hP h1)
  rw [List.map_append] at hD2
  obtain ⟨n1, n2, n3⟩ := List.nodup_append.mp hD2.1
  have apart : ∀ q ∈ R, q.1 < H.size ∧ ¬ va_A V H.size q.1 := by
    intro q hq
    have hlt := (hP2 q (List.mem_append_right _ hq)).lt
    refine ⟨hlt, fun h => ?_⟩
    rcases A_iff.mp h with ⟨e, he⟩ | h
    · exact n3 q.1 (List.mem_map.mpr ⟨(q.1, e), he, rfl⟩) q.1 (List.mem_map.mpr ⟨q, hq, rfl⟩) rfl
    · omega
  have hD1' := D_iff.mp hD1
  refine ⟨P_perm (P_iff.mpr (fun q hq => ?_)) p2.symm, D_perm (D_iff.mpr ⟨?_, fun q hq => ?_⟩) p2.symm⟩
  · rcases List.mem_append.mp hq with h | h
    · exact P_iff.mp hP1 q h
    · exact (hP2 q (List.mem_append_right _ h)).kept (hk q.1 (apart q h).1 (apart q h).2)
  · rw [List.map_append]
    refine List.nodup_append.mpr ⟨hD1'.1, n2, fun x hx y hy e => ?_⟩
    obtain ⟨q, hq, rfl⟩ := List.mem_map.mp hx
    obtain ⟨r, hr, rfl⟩ := List.mem_map.mp hy
    exact (apart r hr).2 (by rw [← e]; exact hD1'.2 q hq)
  · rcases List.mem_append.mp hq with h | h
    · exact hF _ (hD1'.2 q h)
    · exact hD2.2 q (List.mem_append_right _ h)
theorem fr_A2 {A : Nat → Prop} {W V R : va_W} {H0 H : Heap} {locs : List Loc} (hD : va_D A W) (h1 : W.Perm (V ++ R)) (hS : va_S A H0 H locs) (hA : ∀ q, H0.size ≤ q → A q) : ∀ q, va_A V H.size q → A q := by
  intro q h
  rcases A_iff.mp h with ⟨e, he⟩ | h
  · exact (D_iff.mp hD).2 (q, e) (h1.mem_iff.mpr (List.mem_append_left _ he))
  · exact hA q (Nat.le_trans hS.1 h)
/-- a constructor's contract: from the bare cell at a0 to the whole object, its cells at some addresses, the first at a0 -/
def PstC (E : ET) (A : Nat → Prop) (a0 : Nat) (Lf : (Nat → Nat) → List va_W) (t : State) : Prop := ∃ aN : Nat → Nat, aN 0 = a0 ∧ PstW E A (Lf aN) t
def CtC (l : Launch) (y : MethodName) (ws : List Cond) (rm : Room) (mc ms : Nat) (av : List Value) (E : ET) (L : List va_W) (a0 : Nat) (Lf : (Nat → Nat) → List va_W) (sz : Nat) : Prop := Met l y ws rm (va_Pc av (PreW E L sz)) (va_Qv (fun (_ : Unit) => True) (fun _ t => PstC E (va_A L.flatten sz) a0 Lf t) (va_A L.flatten sz)) mc ms (va_A L.flatten sz)
/-- a method that answers a new array -/
def CtN (l : Launch) (y : MethodName) (ws : List Cond) (rm : Room) (mc ms : Nat) (av : List Value) (E : ET) (L : List va_W) (Lf : Nat → List va_W) (sz : Nat) : Prop := Met l y ws rm (va_Pc av (PreW E L sz)) (va_Qr (fun (_ : Unit) => True) (fun _ r t => PstW E (va_A L.flatten sz) (Lf r) t) (va_A L.flatten sz)) mc ms (va_A L.flatten sz)
section QNW
variable {p : Program} {l : Launch} {e : Env} {R : Room} {s : State} {m : MethodId} {args : Array Value} {below : List Frame} {meth : Method} {c : Code} {H : Heap} {locs : List Loc} {mc ms cells slots : Nat} {pc : Nat} {ls : Array Slot} {A : Nat → Prop} {E : ET} {L L0 Lc : List va_W} {cc : ByteArray} {Q : State → Prop} {rest st0 : List Value} {a : Array Value}
theorem en_c {aN : Nat → Nat} {a0 : Nat} {Lf : (Nat → Nat) → List va_W} (hQ : Q = MQ below (va_Qv (fun (_ : Unit) => True) (fun _ t => PstC E A a0 Lf t) A) args s mc ms A) (ha0 : aN 0 = a0) (hc : cells ≤ mc) (hs : slots ≤ ms) (hx : p.tables.exec = Jvm.exec) (hb : c.code = cc) (hr : meth.sig.returnType = none) (hlocks : meth.locks = false) (hP : va_P E.1 vwCl (Lf aN).flatten H) (hD : va_D A (Lf aN).flatten) (hS : va_S A s.heap H locs) (hdg : decode cc pc = .ok (.return_, 1)) :
    W p l e R s m args below meth c H locs cells slots Q (F0 m pc ls []) := by
  refine W.widen hc hs ?_
  rw [hQ]
  exact W.vret hx hb hr (fun t ht hW => ⟨⟨(), rfl, trivial, (show PstC E A a0 Lf t from ⟨aN, ha0, by rw [ht]; exact hP, hD⟩)⟩, hS.F ht⟩) hS.2.2 hdg hlocks
theorem en_n {va : Nat} {ty : FieldType} {Lf : Nat → List va_W} (hQ : Q = MQ below (va_Qr (fun (_ : Unit) => True) (fun _ r t => PstW E A (Lf r) t) A) args s mc ms A) (hc : cells ≤ mc) (hs : slots ≤ ms) (hx : p.tables.exec = Jvm.exec) (hb : c.code = cc) (hr : meth.sig.returnType = some ty) (hn : (∃ n, ty = FieldType.object n) ∨ ∃ t, ty = FieldType.array t) (hlocks : meth.locks = false) (hP : va_P E.1 vwCl (Lf va).flatten H) (hD : va_D A (Lf va).flatten) (hS : va_S A s.heap H locs) (hdg : decode cc pc = .ok (.areturn, 1)) :
    W p l e R s m args below meth c H locs cells slots Q (F0 m pc ls [.ref va]) := by
  refine W.widen hc hs ?_
  rw [hQ]
  exact W.aret (v := .ref va) hx hb hr hn (Or.inr ⟨_, rfl⟩) (fun t ht hW => ⟨⟨(), va, rfl, trivial, (show PstW E A (Lf va) t from ⟨by rw [ht]; exact hP, hD⟩)⟩, hS.F ht⟩) hS.2.2 hdg hlocks
/-- behind a constructor's call -/
theorem cl_c {a0 : Nat} {Lf : (Nat → Nat) → List va_W} (hr : va_Run p l e R s m args below meth c H locs cells slots mc ms (F0 m pc ls st0) rest (va_Qv (fun (_ : Unit) => True) (fun _ t => PstC E (va_A Lc.flatten H.size) a0 Lf t) (va_A Lc.flatten H.size) a) (va_A Lc.flatten H.size)) (hP : va_P E.1 vwCl (L0 ++ Lc).flatten H) (hD : va_D A (L0 ++ Lc).flatten) (hS : va_S A s.heap H locs) (hA : ∀ q, s.heap.size ≤ q → A q)
    (kk : ∀ (aN : Nat → Nat) (H1 : Heap) (locs1 : List Loc), aN 0 = a0 → va_P E.1 vwCl (L0 ++ Lf aN).flatten H1 → va_D A (L0 ++ Lf aN).flatten → va_S A s.heap H1 locs1 → W p l e R s m args below meth c H1 locs1 (cells + mc) (slots + ms) Q (F0 m (pc + 3) ls rest)) : W p l e R s m args below meth c H locs cells slots Q (F0 m pc ls st0) := by
  have g : ∀ V : List va_W, (L0 ++ V).flatten.Perm (V.flatten ++ L0.flatten) := fun V => by
    rw [List.flatten_append]
    exact List.perm_append_comm
  have hF := fr_A2 hD (g Lc) hS hA
  refine va_callv hr hS (fun q _ h => hF q h) hF (fun u t H1 locs1 ht hvm hw hB hz1 hk1 hS1 => ?_)
  obtain ⟨aN, ha0, hP1, hD1⟩ := hB
  rw [ht] at hP1
  obtain ⟨hP2, hD2⟩ := fr_core hP hD (g Lc) (g (Lf aN)) hk1 hF hP1 hD1
  exact kk aN H1 locs1 ha0 hP2 hD2 hS1
/-- behind the call of a method that answers a new array -/
theorem cl_n {Lf : Nat → List va_W} (hr : va_Run p l e R s m args below meth c H locs cells slots mc ms (F0 m pc ls st0) rest (va_Qr (fun (_ : Unit) => True) (fun _ r t => PstW E (va_A Lc.flatten H.size) (Lf r) t) (va_A Lc.flatten H.size) a) (va_A Lc.flatten H.size)) (hP : va_P E.1 vwCl (L0 ++ Lc).flatten H) (hD : va_D A (L0 ++ Lc).flatten) (hS : va_S A s.heap H locs) (hA : ∀ q, s.heap.size ≤ q → A q)
    (kk : ∀ (ra : Nat) (H1 : Heap) (locs1 : List Loc), va_P E.1 vwCl (L0 ++ Lf ra).flatten H1 → va_D A (L0 ++ Lf ra).flatten → va_S A s.heap H1 locs1 → W p l e R s m args below meth c H1 locs1 (cells + mc) (slots + ms) Q (F0 m (pc + 3) ls (.ref ra :: rest))) : W p l e R s m args below meth c H locs cells slots Q (F0 m pc ls st0) := by
  have g : ∀ V : List va_W, (L0 ++ V).flatten.Perm (V.flatten ++ L0.flatten) := fun V => by
    rw [List.flatten_append]
    exact List.perm_append_comm
  have hF := fr_A2 hD (g Lc) hS hA
  refine va_callr hr hS (fun q _ h => hF q h) hF (fun u r t H1 locs1 ht hvm hw hB hz1 hk1 hS1 => ?_)
  obtain ⟨hP1, hD1⟩ := hB
  rw [ht] at hP1
  obtain ⟨hP2, hD2⟩ := fr_core hP hD (g Lc) (g (Lf r)) hk1 hF hP1 hD1
  exact kk r H1 locs1 hP2 hD2 hS1
theorem vi_newa (hx : p.tables.exec = Jvm.exec) (hb : c.code = cc) (hst : ST E s) {atype : ArrayType} (harr : (Cond.arrayClass (newarray.typeOf atype)).before args s = true) {ty : FieldType} (hty : newarray.typeOf atype = ty) (hP : va_P E.1 vwCl L.flatten H) (hD : va_D A L.flatten) (hS : va_S A s.heap H locs) (hA : ∀ q, s.heap.size ≤ q → A q)
    {n : Int32} {N' : Nat} {b0 : vp_A} (ha : ∀ cA : ClassId, vp_cell cA b0 = arrV cA N' (fun _ => defaultValue ty)) (t k : Nat) {nm : String} (ht : (tyL E)[k]? = some (E.2 t, ty)) (hnm : ∀ x, va_RA s x ty → s.vm.findClass nm = some x) (hn : ¬ n < 0) (hN : n.toNatClampNeg = N') (hbytes : N' * componentBytes ty ≤ 536870912) (hcells : cells + 1 ≤ R.cells) (hslots : slots + N' ≤ R.slots) (hdg : decode cc pc = .ok (.newarray atype, 2))
    (kk : ∀ (q : Nat) (H : Heap), va_P E.1 vwCl (L ++ ([[(q, .inl (E.2 t, b0))]] : List va_W)).flatten H → va_D A (L ++ ([[(q, .inl (E.2 t, b0))]] : List va_W)).flatten → va_S A s.heap H locs →
      W p l e R s m args below meth c H locs (cells + 1) (slots + N') Q (F0 m (pc + 2) ls (.ref q :: rest))) : W p l e R s m args below meth c H locs cells slots Q (F0 m pc ls (.int n :: rest)) := by
  refine va_newa (a0 := b0) hx hb harr hty hst.k hP hD hS hA ha hn hN hbytes hcells hslots hdg (fun q cA H1 hK' hP' hD' hS' => ?_)
  have e1 : cA = E.2 t := Option.some.inj ((hnm _ (hK'.2 5 (cA, ty) rfl).2).symm.trans (hnm _ (hst.k.2 k _ ht).2))
  subst e1
  exact kk q H1 (by rw [flat_push]; exact hP') (by rw [flat_push]; exact hD') hS'
theorem vi_newq (hx : p.tables.exec = Jvm.exec) (hb : c.code = cc) (hst : ST E s) {own C : String} {index : Nat} (hown : s.vm.findClass own = some m.cls) (hclink : (Cond.classLink own index C).before args s = true) (hover : va_AO C s) (hP : va_P E.1 vwCl L.flatten H) (hD : va_D A L.flatten) (hS : va_S A s.heap H locs) (hA : ∀ q, s.heap.size ≤ q → A q)
    {n : Int32} {N' : Nat} (t k : Nat) (ht : (tyL E)[k]? = some (E.2 t, .object C)) (hn : ¬ n < 0) (hN : n.toNatClampNeg = N') (hbytes : N' * 4 ≤ 536870912) (hcells : cells + 1 ≤ R.cells) (hslots : slots + N' ≤ R.slots) (hdg : decode cc pc = .ok (.anewarray index, 3))
    (kk : ∀ (q : Nat) (H : Heap), va_P E.1 vwCl (L ++ ([[(q, .inl (E.2 t, N', .inr (.inr (.inr (.inr (fun _ => none))))))]] : List va_W)).flatten H → va_D A (L ++ ([[(q, .inl (E.2 t, N', .inr (.inr (.inr (.inr (fun _ => none))))))]] : List va_W)).flatten → va_S A s.heap H locs →
      W p l e R s m args below meth c H locs (cells + 1) (slots + N') Q (F0 m (pc + 3) ls (.ref q :: rest))) : W p l e R s m args below meth c H locs cells slots Q (F0 m pc ls (.int n :: rest)) := by
  refine va_newq hx hb hown hclink hover hst.k hP hD hS hA hn hN hbytes hcells hslots hdg (fun q cA H1 hK' hP' hD' hS' => ?_)
  have f : ∀ x, va_RA s x (.object C) → s.vm.findClass ("[" ++ (FieldType.object C).toString) = some x := fun x h => by
    obtain ⟨kA, comp, -, -, -, h⟩ := h
    exact h
  have e1 : cA = E.2 t := Option.some.inj ((f _ (hK'.2 5 (cA, .object C) rfl).2).symm.trans (f _ (hst.k.2 k _ ht).2))
  subst e1
  exact kk q H1 (by rw [flat_push]; exact hP') (by rw [flat_push]; exact hD') hS'
theorem vi_new (hx : p.tables.exec = Jvm.exec) (hb : c.code = cc) (hst : ST E s) (ha : ∀ w ∈ lw_all, w.before args s = true) {own C : String} {T : u_T} {N ci index : Nat} (hin : ∀ w ∈ u_ws C T N, w ∈ lw_all) (ty : Nat → FieldType) (hty : ∀ k, k < N → parseFieldDescriptor (T k).2.2.1 = some (ty k)) (hown : s.vm.findClass own = some m.cls) (hcl : Cond.classLink own index C ∈ lw_all) (hinst : Cond.instantiable C N ∈ lw_all) (hini : Cond.initialized C ∈ lw_all)
    (hP : va_P E.1 vwCl L.flatten H) (hD : va_D A L.flatten) (hS : va_S A s.heap H locs) (hA : ∀ q, s.heap.size ≤ q → A q) (hc : vwCl[ci]? = some (C, T, N)) {fs : List Value} (hfs : (List.range N).all (fun j => decide (defaultValue (ty j) = vp_V fs j)) = true) (hcells : cells + 1 ≤ R.cells) (hslots : slots + N ≤ R.slots) (hdg : decode cc pc = .ok (.new index, 3))
    (kk : ∀ (q : Nat) (H : Heap), va_P E.1 vwCl (L ++ ([[(q, .inr (ci, fs))]] : List va_W)).flatten H → va_D A (L ++ ([[(q, .inr (ci, fs))]] : List va_W)).flatten → va_S A s.heap H locs → W p l e R s m args below meth c H locs (cells + 1) (slots + N) Q (F0 m (pc + 3) ls (.ref q :: rest))) : W p l e R s m args below meth c H locs cells slots Q (F0 m pc ls rest) :=
  va_new hx hb ha hin ty hty hown (ha _ hcl) (ha _ hinst) (ha _ hini) hst.k hP hD hS hA hc (fun j hj => of_decide_eq_true (List.all_eq_true.mp hfs j (List.mem_range.mpr hj))) hcells hslots hdg (fun q H1 hP' hD' hS' => kk q H1 (by rw [flat_push]; exact hP') (by rw [flat_push]; exact hD') hS')
end QNW
theorem gi_I {big : List Cond} {y : MethodName} {b : ByteArray} {n : Nat} {r : Option FieldType} (hb : ∀ w ∈ lw_all, w ∈ big) (h5 : Cond.code y b n r ∈ lw_all) : GoodIn big (mws y b n r) := gi_B hb h5
abbrev v_init : Valley_t := ((0, 0, 10), (fun _ => 0, fun _ => 0, 0), (fun _ => 0, fun _ => 0, fun _ => 0), (fun _ => 0, fun _ => 0, 0))
theorem valley_shift {E : ET} {a b : Nat → Nat} {o : Nat} (h : ∀ i, i < 12 → a (o + i) = b i) (x : Valley_t) : bl_Valley E a o x = bl_Valley E b 0 x := by
  have h0 : a o = b 0 := h 0 (by decide)
  have h1 : a (o + 1) = b 1 := h 1 (by decide)
  have h2 : a (o + 2) = b 2 := h 2 (by decide)
  have h3 : a (o + 3) = b 3 := h 3 (by decide)
  have h4 : a (o + 4) = b 4 := h 4 (by decide)
  have h5 : a (o + 5) = b 5 := h 5 (by decide)
  have h6 : a (o + 6) = b 6 := h 6 (by decide)
  have h7 : a (o + 7) = b 7 := h 7 (by decide)
  have h8 : a (o + 8) = b 8 := h 8 (by decide)
  have h9 : a (o + 9) = b 9 := h 9 (by decide)
  have h10 : a (o + 10) = b 10 := h 10 (by decide)
  have h11 : a (o + 11) = b 11 := h 11 (by decide)
  simp only [bl_Valley, w_ValleyR, w_Key, w_Bells, w_Mel, w_Cliffs, Nat.add_assoc, Nat.reduceAdd, Nat.zero_add, h0, h1, h2, h3, h4, h5, h6, h7, h8, h9, h10, h11]
theorem hv_shift {E : ET} {aN ah : Nat → Nat} {oh : Nat} (h : ∀ i, aN (oh + i) = ah (0 + i)) (f : Nat → Valley_t) : hv_W E aN oh f = hv_W E ah 0 f := by
  funext j
  unfold hv_W
  rw [valley_shift (b := fun i => ah (0 + (2 + 12 * j + i))) (fun i _ => (congrArg aN (by omega : oh + 2 + 12 * j + i = oh + (2 + 12 * j + i))).trans (h _)) (f j), valley_shift (a := ah) (b := fun i => ah (0 + (2 + 12 * j + i))) (fun i _ => congrArg ah (by omega : 0 + 2 + 12 * j + i = 0 + (2 + 12 * j + i))) (f j)]
theorem hist_shift {E : ET} {aN ah : Nat → Nat} {oh : Nat} {x : Hist_t} (h : ∀ i, aN (oh + i) = ah (0 + i)) : w_Hist E aN oh x = w_Hist E ah 0 x := by
  unfold w_Hist
  rw [hv_shift h]
  congr 1
  unfold w_HistR
  have h0 : aN oh = ah 0 := h 0
  have h1 : aN (oh + 1) = ah (0 + 1) := h 1
  have h2 : (fun j => some (aN (oh + 2 + 12 * j))) = (fun j => some (ah (0 + 2 + 12 * j))) := by
    funext j
    rw [Nat.add_assoc, Nat.add_assoc, h]
  rw [h0, h1, h2]
theorem at_arr {D : va_G} {cl : List vw_C} {H : Heap} {q n : Nat} {cA : ClassId} {f g : Nat → Option Nat} (h : ∀ j, j < n → f j = g j) (hP : va_at D cl (q, .inl (cA, n, .inr (.inr (.inr (.inr f))))) H) : va_at D cl (q, .inl (cA, n, .inr (.inr (.inr (.inr g))))) H := by
  have e : arrV cA n (fun j => va_rf (f j)) = arrV cA n (fun j => va_rf (g j)) := by
    unfold arrV
    have : (fun j : Fin n => va_rf (f j.val)) = (fun j : Fin n => va_rf (g j.val)) := funext fun j => by rw [h j.val j.isLt]
    rw [this]
  have h1 : H[q]? = some (arrV cA n (fun j => va_rf (f j))) := hP
  rw [e] at h1
  exact h1
theorem P_set1 {D : va_G} {cl : List vw_C} {H : Heap} {x : Nat × va_E} {q : Nat} {e e' : va_E} {B : va_W} (hP : va_P D cl (x :: (q, e) :: B) H) (h : va_at D cl (q, e') H) : va_P D cl (x :: (q, e') :: B) H := by
  refine P_iff.mpr (fun z hz => ?_)
  have hP := P_iff.mp hP
  rcases List.mem_cons.mp hz with rfl | hz
  · exact hP _ List.mem_cons_self
  · rcases List.mem_cons.mp hz with rfl | hz
    · exact h
    · exact hP _ (List.mem_cons_of_mem _ (List.mem_cons_of_mem _ hz))
theorem D_fst {A : Nat → Prop} {ws ws' : va_W} (h : ws.map Prod.fst = ws'.map Prod.fst) (hD : va_D A ws) : va_D A ws' := by
  obtain ⟨h1, h2⟩ := D_iff.mp hD
  refine D_iff.mpr ⟨by rw [← h]; exact h1, fun q hq => ?_⟩
  have : q.1 ∈ ws.map Prod.fst := by rw [h]; exact List.mem_map.mpr ⟨q, hq, rfl⟩
  obtain ⟨z, hz, e⟩ := List.mem_map.mp this
  rw [← e]
  exact h2 z hz
