/-! ===== methods that throw, enum constants, constant strings, references returned ===== -/
def q_sm {α β : Type} (x : α ⊕ String) (h : String → Option β) (k : α → Option β) : Option β := match x with
  | .inl a => k a
  | .inr X => h X
theorem q_sml {α β : Type} {x : α ⊕ String} {k : α → Option β} {h : String → Option β} {r : β} {a : α} (e : x = .inl a) (hF : q_sm x h k = some r) : k a = some r := by
  subst e
  exact hF
theorem q_smr {α β : Type} {x : α ⊕ String} {k : α → Option β} {h : String → Option β} {r : β} {X : String} (e : x = .inr X) (hF : q_sm x h k = some r) : h X = some r := by
  subst e
  exact hF
abbrev XW (E : ET) (A : Nat → Prop) {α : Type} (ro : α ⊕ String) (L' : List va_W) : String → State → State → Prop := vx_X (fun (_ : Unit) => True) (fun X _ t => ro = .inr X ∧ PstW E A L' t) A
def CxI (l : Launch) (y : MethodName) (ws : List Cond) (rm : Room) (mc ms : Nat) (av : List Value) (E : ET) (L : List va_W) (ro : Int32 ⊕ String) (L' : List va_W) (sz : Nat) : Prop := vx_Met l y ws rm (va_Pc av (PreW E L sz)) (va_Qi (fun r (_ : Unit) => ro = .inl r) (fun _ t => PstW E (va_A L.flatten sz) L' t) (va_A L.flatten sz)) (XW E (va_A L.flatten sz) ro L') mc ms (va_A L.flatten sz)
def CxD (l : Launch) (y : MethodName) (ws : List Cond) (rm : Room) (mc ms : Nat) (av : List Value) (E : ET) (L : List va_W) (ro : UInt64 ⊕ String) (L' : List va_W) (sz : Nat) : Prop := vx_Met l y ws rm (va_Pc av (PreW E L sz)) (va_Qd (fun r (_ : Unit) => ro = .inl r) (fun _ t => PstW E (va_A L.flatten sz) L' t) (va_A L.flatten sz)) (XW E (va_A L.flatten sz) ro L') mc ms (va_A L.flatten sz)
def CxF (l : Launch) (y : MethodName) (ws : List Cond) (rm : Room) (mc ms : Nat) (av : List Value) (E : ET) (L : List va_W) (ro : UInt32 ⊕ String) (L' : List va_W) (sz : Nat) : Prop := vx_Met l y ws rm (va_Pc av (PreW E L sz)) (va_Qf (fun r (_ : Unit) => ro = .inl r) (fun _ t => PstW E (va_A L.flatten sz) L' t) (va_A L.flatten sz)) (XW E (va_A L.flatten sz) ro L') mc ms (va_A L.flatten sz)
def CxV (l : Launch) (y : MethodName) (ws : List Cond) (rm : Room) (mc ms : Nat) (av : List Value) (E : ET) (L : List va_W) (ro : Unit ⊕ String) (L' : List va_W) (sz : Nat) : Prop := vx_Met l y ws rm (va_Pc av (PreW E L sz)) (va_Qv (fun (u : Unit) => ro = .inl u) (fun _ t => PstW E (va_A L.flatten sz) L' t) (va_A L.flatten sz)) (XW E (va_A L.flatten sz) ro L') mc ms (va_A L.flatten sz)
def CtR (l : Launch) (y : MethodName) (ws : List Cond) (rm : Room) (mc ms : Nat) (av : List Value) (E : ET) (L : List va_W) (ra : Nat) (L' : List va_W) (sz : Nat) : Prop := Met l y ws rm (va_Pc av (PreW E L sz)) (va_Qr (fun (_ : Unit) => True) (fun _ r t => r = ra ∧ PstW E (va_A L.flatten sz) L' t) (va_A L.flatten sz)) mc ms (va_A L.flatten sz)
theorem mk_X {l : Launch} {y : MethodName} {b : ByteArray} {n : Nat} {r : Option FieldType} {rm : Room} {mc ms : Nat} {av : List Value} {E : ET} {L : List va_W} {sz : Nat} {Qc : Array Value → State → Outcome → State → Prop} {XC : String → State → State → Prop} (hpl : plainName y.cls = true) (hav : (lg_sl av).length ≤ n)
    (body : ∀ (p : Program) (e : Env) (s : State) (m : MethodId) (below : List Frame) (meth : Method) (c : Code) (A : Nat → Prop) (args : Array Value) (Q : State → Prop) (ls : Array Slot), va_A L.flatten sz = A → s.heap.size = sz → Q = vx_MQ below Qc XC args s mc ms A → p.tables.exec = Jvm.exec → c.code = b → meth.sig.returnType = r → c.maxLocals = n → meth.name = y.name → (∀ w ∈ lw_all, w.before args s = true) → s.vm.findClass y.cls = some m.cls → meth.locks = false → (∀ q, s.heap.size ≤ q → A q) → (∀ q, A q → E.2 0 ≤ q) → E.2 0 ≤ s.heap.size → ST E s → (∀ x ∈ c.exceptionTable.toList, False) → va_P E.1 vwCl L.flatten s.heap → va_D A L.flatten → va_S A s.heap s.heap [] → lv_has ls n (lv_args 0 av) → W p l e rm s m args below meth c s.heap [] 0 0 Q (F0 m 0 ls [])) :
    vx_Met l y (mws y b n r) rm (va_Pc av (PreW E L sz)) Qc XC mc ms (va_A L.flatten sz) := by
  refine vx_ofW (cc := b) (maxL := n) (ret := r) hpl rfl ?_
  intro p e s m args below meth c s₁ B hml hex hv
  obtain ⟨rfl, hsz, hP, hD0, hz0, hst⟩ := hv
  have hts := atoms_spec (ws := mws y b n r) B.pre
  rw [lg_entry_eq]
  refine body p e s m below meth c _ _ _ _ rfl hsz rfl B.exec B.bytes B.returns hml (name_of_methodNamed B.named B.method).1 (fun w h => hts w (List.mem_cons_of_mem _ h)) (findClass_of_methodNamed B.named) B.notSynchronized (fun q h => Or.inr (by rw [← hsz]; exact h)) (fun q h => ?_) (by rw [hsz]; exact hz0) hst hex hP hD0.self va_S.rf (lv_entry av hav)
  rcases A_iff.mp h with ⟨e9, he⟩ | h
  · exact (D_iff.mp hD0).2 (q, e9) he
  · exact Nat.le_trans hz0 h
def xtL (cls : String) : List Cond := .castable cls cls :: dcL.map Cond.declares
theorem xt_ot {cls : String} {w : Cond} (h : w ∈ xtL cls) : vx_ot w = true := by
  rcases List.mem_cons.mp h with h | h
  · rw [h]; rfl
  · obtain ⟨x, -, rfl⟩ := List.mem_map.mp h
    rfl
theorem xt_bf {cls : String} {w : Cond} {E : ET} {s : State} {args : Array Value} (hst : ST E s) (hcs : cls ∈ csL) (h : w ∈ xtL cls) : w.before args s = true := by
  rcases List.mem_cons.mp h with h | h
  · rw [h]; exact va_Nw.use rfl (hst.cs hcs)
  · obtain ⟨x, hx, rfl⟩ := List.mem_map.mp h
    exact va_Nw.use rfl (hst.dc hx)
section QEX
variable {p : Program} {l : Launch} {e : Env} {R : Room} {s : State} {m : MethodId} {args : Array Value} {below : List Frame} {meth : Method} {c : Code} {H : Heap} {locs : List Loc} {mc ms cells slots : Nat} {pc : Nat} {ls : Array Slot} {A : Nat → Prop} {E : ET} {L' : List va_W} {cc : ByteArray} {Q : State → Prop} {rest : List Value} {Qc : Array Value → State → Outcome → State → Prop} {XC : String → State → State → Prop}
theorem en_xi {v : Int32} {ro : Int32 ⊕ String} (hQ : Q = vx_MQ below (va_Qi (fun r (_ : Unit) => ro = .inl r) (fun _ t => PstW E A L' t) A) XC args s mc ms A) (hc : cells ≤ mc) (hs : slots ≤ ms) (hx : p.tables.exec = Jvm.exec) (hb : c.code = cc) (hr : meth.sig.returnType = some .int) (hlocks : meth.locks = false) (hP : va_P E.1 vwCl L'.flatten H) (hD : va_D A L'.flatten) (hS : va_S A s.heap H locs) (hrv : ro = .inl v) (hdg : decode cc pc = .ok (.ireturn, 1)) :
    W p l e R s m args below meth c H locs cells slots Q (F0 m pc ls [.int v]) := by
  refine W.widen hc hs ?_
  rw [hQ]
  exact vx_ret (W.iret (v := v) hx hb hr (fun t ht hW => ⟨⟨v, (), rfl, hrv, (show PstW E A L' t from ⟨by rw [ht]; exact hP, hD⟩)⟩, hS.F ht⟩) hS.2.2 hdg hlocks)
theorem en_xz {v : Int32} {ty : FieldType} {ro : Int32 ⊕ String} (hQ : Q = vx_MQ below (va_Qi (fun r (_ : Unit) => ro = .inl r) (fun _ t => PstW E A L' t) A) XC args s mc ms A) (hc : cells ≤ mc) (hs : slots ≤ ms) (hx : p.tables.exec = Jvm.exec) (hb : c.code = cc) (hr : meth.sig.returnType = some ty) (hlocks : meth.locks = false) (hn : narrow ty (.int v) = .int v) (hP : va_P E.1 vwCl L'.flatten H) (hD : va_D A L'.flatten) (hS : va_S A s.heap H locs) (hrv : ro = .inl v) (hdg : decode cc pc = .ok (.ireturn, 1)) :
    W p l e R s m args below meth c H locs cells slots Q (F0 m pc ls [.int v]) := by
  refine W.widen hc hs ?_
  rw [hQ]
  exact vx_ret (W.zret (v := v) hx hb hr hn (fun t ht hW => ⟨⟨v, (), rfl, hrv, (show PstW E A L' t from ⟨by rw [ht]; exact hP, hD⟩)⟩, hS.F ht⟩) hS.2.2 hdg hlocks)
theorem en_xd {v : UInt64} {ro : UInt64 ⊕ String} (hQ : Q = vx_MQ below (va_Qd (fun r (_ : Unit) => ro = .inl r) (fun _ t => PstW E A L' t) A) XC args s mc ms A) (hc : cells ≤ mc) (hs : slots ≤ ms) (hx : p.tables.exec = Jvm.exec) (hb : c.code = cc) (hr : meth.sig.returnType = some .double) (hlocks : meth.locks = false) (hP : va_P E.1 vwCl L'.flatten H) (hD : va_D A L'.flatten) (hS : va_S A s.heap H locs) (hrv : ro = .inl v) (hdg : decode cc pc = .ok (.dreturn, 1)) :
    W p l e R s m args below meth c H locs cells slots Q (F0 m pc ls [.double v]) := by
  refine W.widen hc hs ?_
  rw [hQ]
  exact vx_ret (W.dret (v := v) hx hb hr (fun t ht hW => ⟨⟨v, (), rfl, hrv, (show PstW E A L' t from ⟨by rw [ht]; exact hP, hD⟩)⟩, hS.F ht⟩) hS.2.2 hdg hlocks)
theorem en_xf {v : UInt32} {ro : UInt32 ⊕ String} (hQ : Q = vx_MQ below (va_Qf (fun r (_ : Unit) => ro = .inl r) (fun _ t => PstW E A L' t) A) XC args s mc ms A) (hc : cells ≤ mc) (hs : slots ≤ ms) (hx : p.tables.exec = Jvm.exec) (hb : c.code = cc) (hr : meth.sig.returnType = some .float) (hlocks : meth.locks = false) (hP : va_P E.1 vwCl L'.flatten H) (hD : va_D A L'.flatten) (hS : va_S A s.heap H locs) (hrv : ro = .inl v) (hdg : decode cc pc = .ok (.freturn, 1)) :
    W p l e R s m args below meth c H locs cells slots Q (F0 m pc ls [.float v]) := by
  refine W.widen hc hs ?_
  rw [hQ]
  exact vx_ret (W.fret (v := v) hx hb hr (fun t ht hW => ⟨⟨v, (), rfl, hrv, (show PstW E A L' t from ⟨by rw [ht]; exact hP, hD⟩)⟩, hS.F ht⟩) hS.2.2 hdg hlocks)
theorem en_xv {ro : Unit ⊕ String} (hQ : Q = vx_MQ below (va_Qv (fun (u : Unit) => ro = .inl u) (fun _ t => PstW E A L' t) A) XC args s mc ms A) (hc : cells ≤ mc) (hs : slots ≤ ms) (hx : p.tables.exec = Jvm.exec) (hb : c.code = cc) (hr : meth.sig.returnType = none) (hlocks : meth.locks = false) (hP : va_P E.1 vwCl L'.flatten H) (hD : va_D A L'.flatten) (hS : va_S A s.heap H locs) (hrv : ro = .inl ()) (hdg : decode cc pc = .ok (.return_, 1)) :
    W p l e R s m args below meth c H locs cells slots Q (F0 m pc ls []) := by
  refine W.widen hc hs ?_
  rw [hQ]
  exact vx_ret (W.vret hx hb hr (fun t ht hW => ⟨⟨(), rfl, hrv, (show PstW E A L' t from ⟨by rw [ht]; exact hP, hD⟩)⟩, hS.F ht⟩) hS.2.2 hdg hlocks)
theorem en_r {ra va : Nat} {ty : FieldType} (hQ : Q = MQ below (va_Qr (fun (_ : Unit) => True) (fun _ r t => r = ra ∧ PstW E A L' t) A) args s mc ms A) (hc : cells ≤ mc) (hs : slots ≤ ms) (hx : p.tables.exec = Jvm.exec) (hb : c.code = cc) (hr : meth.sig.returnType = some ty) (hn : (∃ n, ty = FieldType.object n) ∨ ∃ t, ty = FieldType.array t) (hlocks : meth.locks = false) (hP : va_P E.1 vwCl L'.flatten H) (hD : va_D A L'.flatten) (hS : va_S A s.heap H locs) (hrv : va = ra) (hdg : decode cc pc = .ok (.areturn, 1)) :
    W p l e R s m args below meth c H locs cells slots Q (F0 m pc ls [.ref va]) := by
  refine W.widen hc hs ?_
  rw [hQ]
  exact W.aret (v := .ref va) hx hb hr hn (Or.inr ⟨_, rfl⟩) (fun t ht hW => ⟨⟨(), va, rfl, trivial, hrv, (show PstW E A L' t from ⟨by rw [ht]; exact hP, hD⟩)⟩, hS.F ht⟩) hS.2.2 hdg hlocks
theorem en_out {X : String} {ce : Cell} {q9 : Addr} {α : Type} {ro : α ⊕ String} (hQ : Q = vx_MQ below Qc (XW E A ro L') args s mc ms A) (hc : cells ≤ mc) (hs : slots ≤ ms) (hexc : ∀ x ∈ c.exceptionTable.toList, False) (hlocks : meth.locks = false) (hce : H[q9]? = some ce) (hv : ce.vm = .none) (hcl : s.vm.findClass X = some ce.cls) (hP : va_P E.1 vwCl L'.flatten H) (hD : va_D A L'.flatten) (hS : va_S A s.heap H locs) (hro : ro = .inr X) :
    vx_W p l e R s m args below meth c H locs cells slots Q (F0 m pc ls rest) q9 := by
  rw [hQ]
  exact vx_out (fun x hx => (hexc x hx).elim) hlocks hce hv hcl (fun t ht _ => ⟨(), trivial, ⟨hro, by rw [ht]; exact hP, hD⟩, hS.F ht⟩) hS.2.2 hc hs
theorem th_x {α : Type} {ro : α ⊕ String} {X : String} (hP : va_P E.1 vwCl L'.flatten H) (hD : va_D A L'.flatten) (hS : va_S A s.heap H locs) (hro : ro = .inr X) : ∀ t : State, s.vm.Alike t.vm → H.size ≤ t.heap.size → (∀ q : Nat, q < H.size → t.heap[q]? = H[q]?) → XW E A ro L' X s t :=
  fun t _ h1 h2 => ⟨(), trivial, ⟨hro, P_iff.mpr (fun q hq => (P_iff.mp hP q hq).kept (h2 _ (P_iff.mp hP q hq).lt)), hD⟩, ⟨Nat.le_trans hS.1 h1, fun q a b => (h2 q (Nat.lt_of_lt_of_le a hS.1)).trans (hS.2.1 q a b)⟩⟩
theorem en_th {α : Type} {ro : α ⊕ String} {own cls text : String} {names : List String} {ik is ic sa n : Nat} (hQ : Q = vx_MQ below Qc (XW E A ro L') args s mc ms A) (hx : p.tables.exec = Jvm.exec) (hb : c.code = cc) (hl : l.stackTraces = false) (ha : ∀ w ∈ lw_all, w.before args s = true) (hst : ST E s) (hz : ∀ q, A q → E.2 0 ≤ q) (hml : c.maxLocals = n) (hls : ls.size = n)
    (hown : s.vm.findClass own = some m.cls) (hcls : Bundle.fit cls = true) (hnames : ∀ n ∈ names, Bundle.fit n = true) (hk : Cond.classLink own ik cls ∈ lw_all) (hini : Cond.initialized cls ∈ lw_all) (hsr : (own, is, text, sa) ∈ srL E) (hat : ∀ w ∈ vx_atS own ic cls names, w ∈ lw_all ∨ w ∈ xtL cls) (hcs : cls ∈ csL)
    (d0 : decode cc pc = .ok (.new ik, 3)) (d3 : decode cc (pc + 3) = .ok (.dup, 1)) (d4 : decode cc (pc + 4) = .ok (.ldc is, 2)) (d6 : decode cc (pc + 6) = .ok (.invokespecial ic, 3)) (d9 : decode cc (pc + 9) = .ok (.athrow, 1))
    (hexc : ∀ x ∈ c.exceptionTable.toList, False) (hRf : names.length + 3 < R.frames) (hRl : (rest.map fun v => v.category).sum + (13 * (names.length + 1) + 43) ≤ R.locals) (hRc : cells + 1 ≤ R.cells) (hRs : slots + 6 ≤ R.slots) (hlocks : meth.locks = false) (hc : cells + 1 ≤ mc) (hs : slots + 6 ≤ ms)
    (hP : va_P E.1 vwCl L'.flatten H) (hD : va_D A L'.flatten) (hS : va_S A s.heap H locs) (hro : ro = .inr cls) :
    W p l e R s m args below meth c H locs cells slots Q (F0 m pc ls rest) := by
  rw [hQ]
  have hgood : ∀ w ∈ Cond.classLink own ik cls :: Cond.initialized cls :: vx_atS own ic cls names, w ∈ lw_all ∨ w ∈ xtL cls := fun w hw => by
    rcases List.mem_cons.mp hw with h | hw
    · rw [h]; exact Or.inl hk
    · rcases List.mem_cons.mp hw with h | hw
      · rw [h]; exact Or.inl hini
      · exact hat w hw
  have hot : ∀ w : Cond, w ∈ lw_all ∨ w ∈ xtL cls → vx_ot w = true := fun w h => by
    rcases h with h | h
    · unfold vx_ot; rw [lwg h]; exact Bool.or_true _
    · exact xt_ot h
  have hbf : ∀ w : Cond, w ∈ lw_all ∨ w ∈ xtL cls → w.before args s = true := fun w h => by
    rcases h with h | h
    · exact ha _ h
    · exact xt_bf hst hcs h
  exact vx_throwS hx hb hl hown hcls hnames (ha _ hk) (ha _ hini) (hst.sr hsr) (fun w hw => hbf _ (hat w hw)) (fun w hw => hot _ (hgood w hw)) (hst.zu hz) (hst.zn hz) hS (hls.trans hml.symm) d0 d3 d4 d6 d9 (fun x hx => (hexc x hx).elim) hRf hRl hRc hRs hlocks (th_x hP hD hS hro) hS.2.2 hc hs
theorem en_thW {α : Type} {ro : α ⊕ String} {own cls text : String} {names : List String} {ik is ic sa n : Nat} (hQ : Q = vx_MQ below Qc (XW E A ro L') args s mc ms A) (hx : p.tables.exec = Jvm.exec) (hb : c.code = cc) (hl : l.stackTraces = false) (ha : ∀ w ∈ lw_all, w.before args s = true) (hst : ST E s) (hz : ∀ q, A q → E.2 0 ≤ q) (hml : c.maxLocals = n) (hls : ls.size = n)
    (hown : s.vm.findClass own = some m.cls) (hcls : Bundle.fit cls = true) (hnames : ∀ n ∈ names, Bundle.fit n = true) (hk : Cond.classLink own ik cls ∈ lw_all) (hini : Cond.initialized cls ∈ lw_all) (hsr : (own, is, text, sa) ∈ srL E) (hat : ∀ w ∈ vx_atS own ic cls names, w ∈ lw_all ∨ w ∈ xtL cls) (hcs : cls ∈ csL)
    (d0 : decode cc pc = .ok (.new ik, 3)) (d3 : decode cc (pc + 3) = .ok (.dup, 1)) (d4 : decode cc (pc + 4) = .ok (.ldc_w is, 3)) (d6 : decode cc (pc + 7) = .ok (.invokespecial ic, 3)) (d9 : decode cc (pc + 10) = .ok (.athrow, 1))
    (hexc : ∀ x ∈ c.exceptionTable.toList, False) (hRf : names.length + 3 < R.frames) (hRl : (rest.map fun v => v.category).sum + (13 * (names.length + 1) + 43) ≤ R.locals) (hRc : cells + 1 ≤ R.cells) (hRs : slots + 6 ≤ R.slots) (hlocks : meth.locks = false) (hc : cells + 1 ≤ mc) (hs : slots + 6 ≤ ms)
    (hP : va_P E.1 vwCl L'.flatten H) (hD : va_D A L'.flatten) (hS : va_S A s.heap H locs) (hro : ro = .inr cls) :
    W p l e R s m args below meth c H locs cells slots Q (F0 m pc ls rest) := by
  rw [hQ]
  have hgood : ∀ w ∈ Cond.classLink own ik cls :: Cond.initialized cls :: vx_atS own ic cls names, w ∈ lw_all ∨ w ∈ xtL cls := fun w hw => by
    rcases List.mem_cons.mp hw with h | hw
    · rw [h]; exact Or.inl hk
    · rcases List.mem_cons.mp hw with h | hw
      · rw [h]; exact Or.inl hini
      · exact hat w hw
  have hot : ∀ w : Cond, w ∈ lw_all ∨ w ∈ xtL cls → vx_ot w = true := fun w h => by
    rcases h with h | h
    · unfold vx_ot; rw [lwg h]; exact Bool.or_true _
    · exact xt_ot h
  have hbf : ∀ w : Cond, w ∈ lw_all ∨ w ∈ xtL cls → w.before args s = true := fun w h => by
    rcases h with h | h
    · exact ha _ h
    · exact xt_bf hst hcs h
  exact vx_throwSW hx hb hl hown hcls hnames (ha _ hk) (ha _ hini) (hst.sr hsr) (fun w hw => hbf _ (hat w hw)) (fun w hw => hot _ (hgood w hw)) (hst.zu hz) (hst.zn hz) hS (hls.trans hml.symm) d0 d3 d4 d6 d9 (fun x hx => (hexc x hx).elim) hRf hRl hRc hRs hlocks (th_x hP hD hS hro) hS.2.2 hc hs
end QEX
section QCX
variable {p : Program} {l : Launch} {e : Env} {R : Room} {s : State} {m : MethodId} {args : Array Value} {below : List Frame} {meth : Method} {c : Code} {H : Heap} {locs : List Loc} {cells slots : Nat} {Q : State → Prop} {pc : Nat} {ls : Array Slot} {rest st0 : List Value} {a : Array Value} {A : Nat → Prop} {mc ms : Nat} {E : ET} {L Lc Lc' L' : List va_W}
theorem cx_i {ro : Int32 ⊕ String} (hr : vx_Run p l e R s m args below meth c H locs cells slots mc ms (F0 m pc ls st0) rest (va_Qi (fun r (_ : Unit) => ro = .inl r) (fun _ t => PstW E (va_A Lc.flatten H.size) Lc' t) (va_A Lc.flatten H.size) a) (XW E (va_A Lc.flatten H.size) ro Lc') (va_A Lc.flatten H.size)) (hP : va_P E.1 vwCl L.flatten H) (hD : va_D A L.flatten) (hS : va_S A s.heap H locs) (hA : ∀ q, s.heap.size ≤ q → A q) (is : List Nat) (hn : va_nd is = true) (hl : is.all (fun i => decide (i < L.length)) = true) (hp : pickB L is = Lc) (hlen : Lc'.length = is.length) (hput : putB L is Lc' = L')
    (kx : ∀ (X : String) (ce : Cell) (q9 : Addr) (H1 : Heap) (locs1 : List Loc), ro = .inr X → H1[q9]? = some ce → ce.vm = .none → s.vm.findClass X = some ce.cls → va_P E.1 vwCl L'.flatten H1 → va_D A L'.flatten → va_S A s.heap H1 locs1 → vx_W p l e R s m args below meth c H1 locs1 (cells + mc) (slots + ms) Q (F0 m pc ls rest) q9)
    (kk : ∀ (r : Int32) (H1 : Heap) (locs1 : List Loc), ro = .inl r → va_P E.1 vwCl L'.flatten H1 → va_D A L'.flatten → va_S A s.heap H1 locs1 → W p l e R s m args below meth c H1 locs1 (cells + mc) (slots + ms) Q (F0 m (pc + 3) ls (.int r :: rest))) : W p l e R s m args below meth c H locs cells slots Q (F0 m pc ls st0) := by
  have hF := fr_A hD hS hA is hp
  refine vx_calli hr hS (fun q _ h => hF q h) hF (fun q _ h => hF q h) (fun X ce q9 u t H1 locs1 ht hvm _ hB hz1 hk1 hS1 h1 h2 h3 => ?_) (fun r u t H1 locs1 ht hvm hw hB hz1 hk1 hS1 => ?_)
  · obtain ⟨hro, hP1, hD1⟩ := hB
    rw [ht] at hP1
    obtain ⟨hP2, hD2⟩ := fr_join hP hD is hn hl hp hlen hput hk1 hF hP1 hD1
    exact kx X ce q9 H1 locs1 hro h1 h2 h3 hP2 hD2 hS1
  · obtain ⟨hP1, hD1⟩ := hB
    rw [ht] at hP1
    obtain ⟨hP2, hD2⟩ := fr_join hP hD is hn hl hp hlen hput hk1 hF hP1 hD1
    exact kk r H1 locs1 hw hP2 hD2 hS1
theorem cx_v {ro : Unit ⊕ String} (hr : vx_Run p l e R s m args below meth c H locs cells slots mc ms (F0 m pc ls st0) rest (va_Qv (fun (u : Unit) => ro = .inl u) (fun _ t => PstW E (va_A Lc.flatten H.size) Lc' t) (va_A Lc.flatten H.size) a) (XW E (va_A Lc.flatten H.size) ro Lc') (va_A Lc.flatten H.size)) (hP : va_P E.1 vwCl L.flatten H) (hD : va_D A L.flatten) (hS : va_S A s.heap H locs) (hA : ∀ q, s.heap.size ≤ q → A q) (is : List Nat) (hn : va_nd is = true) (hl : is.all (fun i => decide (i < L.length)) = true) (hp : pickB L is = Lc) (hlen : Lc'.length = is.length) (hput : putB L is Lc' = L')
    (kx : ∀ (X : String) (ce : Cell) (q9 : Addr) (H1 : Heap) (locs1 : List Loc), ro = .inr X → H1[q9]? = some ce → ce.vm = .none → s.vm.findClass X = some ce.cls → va_P E.1 vwCl L'.flatten H1 → va_D A L'.flatten → va_S A s.heap H1 locs1 → vx_W p l e R s m args below meth c H1 locs1 (cells + mc) (slots + ms) Q (F0 m pc ls rest) q9)
    (kk : ∀ (u : Unit) (H1 : Heap) (locs1 : List Loc), ro = .inl u → va_P E.1 vwCl L'.flatten H1 → va_D A L'.flatten → va_S A s.heap H1 locs1 → W p l e R s m args below meth c H1 locs1 (cells + mc) (slots + ms) Q (F0 m (pc + 3) ls rest)) : W p l e R s m args below meth c H locs cells slots Q (F0 m pc ls st0) := by
  have hF := fr_A hD hS hA is hp
  refine vx_callv hr hS (fun q _ h => hF q h) hF (fun q _ h => hF q h) (fun X ce q9 u t H1 locs1 ht hvm _ hB hz1 hk1 hS1 h1 h2 h3 => ?_) (fun u t H1 locs1 ht hvm hw hB hz1 hk1 hS1 => ?_)
  · obtain ⟨hro, hP1, hD1⟩ := hB
    rw [ht] at hP1
    obtain ⟨hP2, hD2⟩ := fr_join hP hD is hn hl hp hlen hput hk1 hF hP1 hD1
    exact kx X ce q9 H1 locs1 hro h1 h2 h3 hP2 hD2 hS1
  · obtain ⟨hP1, hD1⟩ := hB
    rw [ht] at hP1
    obtain ⟨hP2, hD2⟩ := fr_join hP hD is hn hl hp hlen hput hk1 hF hP1 hD1
    exact kk u H1 locs1 hw hP2 hD2 hS1
theorem cl_r {ra : Nat} (hr : va_Run p l e R s m args below meth c H locs cells slots mc ms (F0 m pc ls st0) rest (va_Qr (fun (_ : Unit) => True) (fun _ r t => r = ra ∧ PstW E (va_A Lc.flatten H.size) Lc' t) (va_A Lc.flatten H.size) a) (va_A Lc.flatten H.size)) (hP : va_P E.1 vwCl L.flatten H) (hD : va_D A L.flatten) (hS : va_S A s.heap H locs) (hA : ∀ q, s.heap.size ≤ q → A q) (is : List Nat) (hn : va_nd is = true) (hl : is.all (fun i => decide (i < L.length)) = true) (hp : pickB L is = Lc) (hlen : Lc'.length = is.length) (hput : putB L is Lc' = L')
    (kk : ∀ (H1 : Heap) (locs1 : List Loc), va_P E.1 vwCl L'.flatten H1 → va_D A L'.flatten → va_S A s.heap H1 locs1 → W p l e R s m args below meth c H1 locs1 (cells + mc) (slots + ms) Q (F0 m (pc + 3) ls (.ref ra :: rest))) : W p l e R s m args below meth c H locs cells slots Q (F0 m pc ls st0) := by
  have hF := fr_A hD hS hA is hp
  refine va_callr hr hS (fun q _ h => hF q h) hF (fun u r t H1 locs1 ht hvm hw hB hz1 hk1 hS1 => ?_)
  obtain ⟨rfl, hP1, hD1⟩ := hB
  rw [ht] at hP1
  obtain ⟨hP2, hD2⟩ := fr_join hP hD is hn hl hp hlen hput hk1 hF hP1 hD1
  exact kk H1 locs1 hP2 hD2 hS1
end QCX
/-! enum constants and constant strings -/
def updE (f : Nat → Option Nat) (k v : Nat) : Nat → Option Nat := fun j => if j = k then some v else f j
def q_ord (v : Nat) : Int32 := [0, 1, 2, 3, 4, 5, 6, 7, 8, 9, 10, 11].getD v 0
def q_sl (v : Nat) : Int32 := Int32.ofNat ((st_txt.map List.length).getD v 0)
def q_sn (v : Nat) : Nat := (st_txt.map List.length).getD v 0
def q_sc (v k : Nat) : Int32 := (st_txt.getD v []).getD k 0
theorem sz5 {E : ET} {s : State} {A : Nat → Prop} (h : ST E s) (hz : ∀ q, A q → E.2 0 ≤ q) : va_Z RX10 "COMMANDS" "[LValleyBells$Command;" (.ref (E.2 15)) A s s.heap := va_Z.narrow (h.2.2.2.1 (RX10, "COMMANDS", "[LValleyBells$Command;", Value.ref (E.2 15)) (List.mem_of_getElem? (i := 5) rfl)) hz
theorem sz8 {E : ET} {s : State} {A : Nat → Prop} (h : ST E s) (hz : ∀ q, A q → E.2 0 ≤ q) : va_Z "java/lang/String" "COMPACT_STRINGS" "Z" (.int 1) A s s.heap := va_Z.narrow (h.2.2.2.1 ("java/lang/String", "COMPACT_STRINGS", "Z", Value.int 1) (List.mem_of_getElem? (i := 6) rfl)) hz
theorem mt5 (E : ET) : (FieldType.object "ValleyBells$Command", E.2 15, 12, fun j => Value.ref (E.2 (100 + j))) ∈ tsL E := List.mem_of_getElem? (i := 5) rfl
theorem mt6 (E : ET) : (FieldType.int, E.2 18, E.2 19, fun j => Value.int (sx E j)) ∈ tsL E := List.mem_of_getElem? (i := 6) rfl
theorem en_cn {v : Nat} (h : v < 12) : v < nm_cmd.length := h
theorem sz9 {E : ET} {s : State} {A : Nat → Prop} (h : ST E s) (hz : ∀ q, A q → E.2 0 ≤ q) (v : Nat) (hv : v < 12) : va_Z RX4 (nm_cmd.getD v "") "LValleyBells$Command;" (.ref (E.2 (100 + v))) A s s.heap := ((h.en hz).1 v (en_cn hv)).1
section QEN3
variable {p : Program} {l : Launch} {e : Env} {R : Room} {s : State} {m : MethodId} {args : Array Value} {below : List Frame} {meth : Method} {c : Code} {H : Heap} {locs : List Loc} {cells slots : Nat} {Q : State → Prop} {cc : ByteArray} {pc : Nat} {ls : Array Slot} {rest : List Value} {D : va_G} {cl : List vw_C} {A : Nat → Prop} {a : Nat} {tys : List (ClassId × FieldType)} {ws : va_W} {E : ET}
theorem vi_alde (hx : p.tables.exec = Jvm.exec) (hb : c.code = cc) (hK : va_K D cl tys s) (hP : va_P D cl ws H) (q0 t0 : Nat) {cA : ClassId} {n : Nat} {f : Nat → Option Nat} {C : String} (ha : ws[q0]? = some (a, .inl (cA, n, .inr (.inr (.inr (.inr (fun j => (f j).map (fun i => E.2 (100 + i))))))))) (ht : tys[t0]? = some (cA, .object C)) {i : Int32} {k v : Nat} (hk : i.toNatClampNeg = k) (hin : q_in i n) (hv : f k = some v) (hdg : decode cc pc = .ok (.aaload, 1)) (kk : W p l e R s m args below meth c H locs cells slots Q (F0 m (pc + 1) ls (.ref (E.2 (100 + v)) :: rest))) : W p l e R s m args below meth c H locs cells slots Q (F0 m pc ls (.int i :: .ref a :: rest)) := by
  subst hk
  refine va_aldq hx hb hK hP q0 t0 ha ht hin hdg ?_
  have h9 : va_rf ((f i.toNatClampNeg).map (fun i => E.2 (100 + i))) = .ref (E.2 (100 + v)) := by rw [hv]; rfl
  show W p l e R s m args below meth c H locs cells slots Q (F0 m (pc + 1) ls (va_rf ((f i.toNatClampNeg).map (fun i => E.2 (100 + i))) :: rest))
  rw [h9]
  exact kk
theorem vi_aste (hx : p.tables.exec = Jvm.exec) (hb : c.code = cc) (hst : ST E s) (hP : va_P E.1 vwCl ws H) (hD : va_D A ws) (hz : ∀ q, A q → E.2 0 ≤ q) (hS : va_S A s.heap H locs) (q0 t0 : Nat) {cA : ClassId} {n : Nat} {f : Nat → Option Nat} (ha : ws[q0]? = some (a, .inl (cA, n, .inr (.inr (.inr (.inr (fun j => (f j).map (fun i => E.2 (100 + i))))))))) (ht : (tyL E)[t0]? = some (cA, .object "ValleyBells$Command")) {i : Int32} {k v : Nat} (hk : i.toNatClampNeg = k) (hin : q_in i n) (hv : v < 12) (hdg : decode cc pc = .ok (.aastore, 1))
    (kk : ∀ (H1 : Heap) (locs1 : List Loc), va_P E.1 vwCl (ws.set q0 (a, .inl (cA, n, .inr (.inr (.inr (.inr (fun j => (updE f k v j).map (fun i => E.2 (100 + i))))))))) H1 → va_D A (ws.set q0 (a, .inl (cA, n, .inr (.inr (.inr (.inr (fun j => (updE f k v j).map (fun i => E.2 (100 + i))))))))) → va_S A s.heap H1 locs1 → W p l e R s m args below meth c H1 locs1 cells slots Q (F0 m (pc + 1) ls rest)) : W p l e R s m args below meth c H locs cells slots Q (F0 m pc ls (.ref (E.2 (100 + v)) :: .int i :: .ref a :: rest)) := by
  subst hk
  have e9 : (fun j => (updE f i.toNatClampNeg v j).map (fun i => E.2 (100 + i))) = va_up (fun j => (f j).map (fun i => E.2 (100 + i))) i.toNatClampNeg (some (E.2 (100 + v))) := by
    funext j
    unfold updE va_up
    by_cases h : j = i.toNatClampNeg
    · rw [if_pos h, if_pos h]; rfl
    · rw [if_neg h, if_neg h]
  rw [e9] at kk
  exact vb_astq (C := "ValleyBells$Command") hx hb hst.k hP hD hS q0 t0 ha ht (va_recvE (ad := fun i => E.2 (100 + i)) (i := v) (hst.en hz) (en_cn hv) hS) (fun c1 c2 => vb_asgS c1 c2) hin hdg kk
theorem vj_aste (hx : p.tables.exec = Jvm.exec) (hb : c.code = cc) (hst : ST E s) (hP : va_P E.1 vwCl ws H) (hD : va_D A ws) (hz : ∀ q, A q → E.2 0 ≤ q) (hS : va_S A s.heap H locs) (q0 t0 : Nat) {cA : ClassId} {n : Nat} {f : Nat → Option Nat} (ha : ws[q0]? = some (a, .inl (cA, n, .inr (.inr (.inr (.inr (fun j => (f j).map (fun i => E.2 (100 + i))))))))) (ht : (tyL E)[t0]? = some (cA, .object "ValleyBells$Command")) {i : Int32} {k v : Nat} (hk : i.toNatClampNeg = k) (hin : q_in i n) (hv : v < 12) (hdg : decode cc pc = .ok (.aastore, 1))
    (kk : ∀ (u : Nat → Option Nat), u = updE f k v → ∀ (H1 : Heap) (locs1 : List Loc), va_P E.1 vwCl (ws.set q0 (a, .inl (cA, n, .inr (.inr (.inr (.inr (fun j => (u j).map (fun i => E.2 (100 + i))))))))) H1 → va_D A (ws.set q0 (a, .inl (cA, n, .inr (.inr (.inr (.inr (fun j => (u j).map (fun i => E.2 (100 + i))))))))) → va_S A s.heap H1 locs1 → W p l e R s m args below meth c H1 locs1 cells slots Q (F0 m (pc + 1) ls rest)) : W p l e R s m args below meth c H locs cells slots Q (F0 m pc ls (.ref (E.2 (100 + v)) :: .int i :: .ref a :: rest)) :=
  vi_aste hx hb hst hP hD hz hS q0 t0 ha ht hk hin hv hdg (kk _ rfl)
theorem vi_ord (hx : p.tables.exec = Jvm.exec) (hb : c.code = cc) (hst : ST E s) (hz : ∀ q, A q → E.2 0 ≤ q) (hS : va_S A s.heap H locs) {own : String} {index v : Nat} (hown : s.vm.findClass own = some m.cls) (hlink : (Cond.fieldLink own index "java/lang/Enum" "ordinal" "I").before args s = true) (hv : v < 12) (hdg : decode cc pc = .ok (.getfield index, 3))
    (kk : W p l e R s m args below meth c H locs cells slots Q (F0 m (pc + 3) ls (.int (q_ord v) :: rest))) : W p l e R s m args below meth c H locs cells slots Q (F0 m pc ls (.ref (E.2 (100 + v)) :: rest)) :=
  va_getE (ad := fun i => E.2 (100 + i)) (i := v) (q := ("java/lang/Enum", "ordinal", "I", [0, 1, 2, 3, 4, 5, 6, 7, 8, 9, 10, 11])) hx hb (hst.en hz) (en_cn hv) hS hown List.mem_cons_self hlink (fun _ h => h) hdg kk
theorem vi_form (hx : p.tables.exec = Jvm.exec) (hb : c.code = cc) (hst : ST E s) (hz : ∀ q, A q → E.2 0 ≤ q) (hS : va_S A s.heap H locs) {own host : String} {index v : Nat} (hown : s.vm.findClass own = some m.cls) (hlink : (Cond.fieldLinkNest own index "ValleyBells$Command" "form" "Ljava/lang/String;" host).before args s = true) (hv : v < 12) (hdg : decode cc pc = .ok (.getfield index, 3))
    (kk : W p l e R s m args below meth c H locs cells slots Q (F0 m (pc + 3) ls (.ref (E.2 (200 + v)) :: rest))) : W p l e R s m args below meth c H locs cells slots Q (F0 m pc ls (.ref (E.2 (100 + v)) :: rest)) := by
  obtain ⟨cf, k, fi, f, cell, h1, h2, h3, h4, h5, h6⟩ := ((hst.ef hz) v hv).kept hS.2.1
  exact va_Wgetf hx hb hown hlink h1 h2 h3 h4 (v := .ref (E.2 (200 + v))) h5 rfl rfl hdg kk
theorem vi_sval (hx : p.tables.exec = Jvm.exec) (hb : c.code = cc) (hst : ST E s) (hz : ∀ q, A q → E.2 0 ≤ q) (hS : va_S A s.heap H locs) {own : String} {index v : Nat} (hown : s.vm.findClass own = some m.cls) (hlink : (Cond.fieldLink own index "java/lang/String" "value" "[B").before args s = true) (hv : v < 27) (hdg : decode cc pc = .ok (.getfield index, 3))
    (kk : W p l e R s m args below meth c H locs cells slots Q (F0 m (pc + 3) ls (.ref (E.2 (300 + v)) :: rest))) : W p l e R s m args below meth c H locs cells slots Q (F0 m pc ls (.ref (E.2 (200 + v)) :: rest)) :=
  vk_getf hx hb ((hst.vs hz).1 v hv).2.2.1 hS hown hlink (fun _ h => h) hdg kk
theorem vi_scod (hx : p.tables.exec = Jvm.exec) (hb : c.code = cc) (hst : ST E s) (hz : ∀ q, A q → E.2 0 ≤ q) (hS : va_S A s.heap H locs) {own : String} {index v : Nat} (hown : s.vm.findClass own = some m.cls) (hlink : (Cond.fieldLink own index "java/lang/String" "coder" "B").before args s = true) (hv : v < 27) (hdg : decode cc pc = .ok (.getfield index, 3))
    (kk : W p l e R s m args below meth c H locs cells slots Q (F0 m (pc + 3) ls (.int 0 :: rest))) : W p l e R s m args below meth c H locs cells slots Q (F0 m pc ls (.ref (E.2 (200 + v)) :: rest)) :=
  vk_getf hx hb ((hst.vs hz).1 v hv).2.1 hS hown hlink (fun _ h => h) hdg kk
theorem vi_slen (hx : p.tables.exec = Jvm.exec) (hb : c.code = cc) (hst : ST E s) (hz : ∀ q, A q → E.2 0 ≤ q) (hS : va_S A s.heap H locs) {v : Nat} (hv : v < 27) (hdg : decode cc pc = .ok (.arraylength, 1))
    (kk : W p l e R s m args below meth c H locs cells slots Q (F0 m (pc + 1) ls (.int (q_sl v) :: rest))) : W p l e R s m args below meth c H locs cells slots Q (F0 m pc ls (.ref (E.2 (300 + v)) :: rest)) :=
  va_tlen hx hb ((hst.vs hz).1 v hv).2.2.2 hS rfl hdg kk
theorem vi_sbyte (hx : p.tables.exec = Jvm.exec) (hb : c.code = cc) (hst : ST E s) (hz : ∀ q, A q → E.2 0 ≤ q) (hS : va_S A s.heap H locs) {v k : Nat} (hv : v < 27) {i : Int32} (hk : i.toNatClampNeg = k) (hin : q_in i (q_sn v)) (hdg : decode cc pc = .ok (.baload, 1))
    (kk : W p l e R s m args below meth c H locs cells slots Q (F0 m (pc + 1) ls (.int (q_sc v k) :: rest))) : W p l e R s m args below meth c H locs cells slots Q (F0 m pc ls (.int i :: .ref (E.2 (300 + v)) :: rest)) := by
  subst hk
  exact va_tb hx hb ((hst.vs hz).1 v hv).2.2.2 hS hin rfl hdg kk
theorem vi_tbe (hx : p.tables.exec = Jvm.exec) (hb : c.code = cc) (hst : ST E s) (hz : ∀ q, A q → E.2 0 ≤ q) (hS : va_S A s.heap H locs) {k : Nat} {i : Int32} (hk : i.toNatClampNeg = k) (hin : q_in i 12) (hdg : decode cc pc = .ok (.aaload, 1))
    (kk : W p l e R s m args below meth c H locs cells slots Q (F0 m (pc + 1) ls (.ref (E.2 (100 + k)) :: rest))) : W p l e R s m args below meth c H locs cells slots Q (F0 m pc ls (.int i :: .ref (E.2 15) :: rest)) := by
  subst hk
  exact vb_tq hx hb (va_T.narrow (hst.2.2.2.2.1 _ (mt5 E)) hz) hS hin rfl hdg kk
theorem vi_tbn (hx : p.tables.exec = Jvm.exec) (hb : c.code = cc) (hst : ST E s) (hz : ∀ q, A q → E.2 0 ≤ q) (hS : va_S A s.heap H locs) (hdg : decode cc pc = .ok (.arraylength, 1))
    (kk : W p l e R s m args below meth c H locs cells slots Q (F0 m (pc + 1) ls (.int 12 :: rest))) : W p l e R s m args below meth c H locs cells slots Q (F0 m pc ls (.ref (E.2 15) :: rest)) :=
  va_tlen hx hb (va_T.narrow (hst.2.2.2.2.1 _ (mt5 E)) hz) hS rfl hdg kk
theorem vi_tby (hx : p.tables.exec = Jvm.exec) (hb : c.code = cc) {t n : Nat} {L : List Int32} (hst : ST E s) (hT : (FieldType.byte, t, n, fun j => Value.int (L.getD j 0)) ∈ tsL E) (hz : ∀ q, A q → E.2 0 ≤ q) (hS : va_S A s.heap H locs) {i : Int32} {k : Nat} (hk : i.toNatClampNeg = k) (hin : q_in i n) (hdg : decode cc pc = .ok (.baload, 1)) (kk : W p l e R s m args below meth c H locs cells slots Q (F0 m (pc + 1) ls (.int (L.getD k 0) :: rest))) : W p l e R s m args below meth c H locs cells slots Q (F0 m pc ls (.int i :: .ref t :: rest)) := by
  subst hk
  exact va_tb hx hb (va_T.narrow (hst.2.2.2.2.1 _ hT) hz) hS hin rfl hdg kk
theorem re_en {v : Nat} (hst : ST E s) (hz : ∀ q, A q → E.2 0 ≤ q) (hS : va_S A s.heap H locs) (hv : v < 12) : ∃ cell : Cell, H[E.2 (100 + v)]? = some cell ∧ cell.vm.isStatics = false ∧ s.vm.findClass RX4 = some cell.cls := va_recvE (ad := fun i => E.2 (100 + i)) (i := v) (hst.en hz) (en_cn hv) hS
theorem re_st {v : Nat} (hst : ST E s) (hz : ∀ q, A q → E.2 0 ≤ q) (hS : va_S A s.heap H locs) (hv : v < 27) : ∃ cell : Cell, H[E.2 (200 + v)]? = some cell ∧ cell.vm.isStatics = false ∧ s.vm.findClass "java/lang/String" = some cell.cls := vk_recv (adK := fun i => E.2 (200 + i)) (i := v) (hst.vs hz) hv hS
end QEN3
theorem gi_U {big : List Cond} {own C owner : String} {idx : Nat} {x y : MethodName} {b : ByteArray} {n : Nat} {r : Option FieldType} (hb : ∀ w ∈ lw_all, w ∈ big) (h1 : Cond.methodLink own idx x ∈ lw_all) (h2 : Cond.sameMethod x.cls owner x.name x.desc ∈ lw_all) (h3 : Cond.selects C x y ∈ lw_all) (h4 : Cond.instanceMethod y ∈ lw_all) (h6 : Cond.initialized y.cls ∈ lw_all) (h5 : Cond.code y b n r ∈ lw_all) : GoodIn big (va_wsU own idx C owner x y (mws y b n r)) := by
  intro w hw
  rcases List.mem_append.mp hw with h | h
  · have h : w ∈ lw_all := by
      simp only [List.mem_cons, List.not_mem_nil, or_false] at h
      rcases h with rfl | rfl | rfl | rfl | rfl
      · exact h1
      · exact h2
      · exact h3
      · exact h4
      · exact h6
    exact ⟨hb w h, good_of_word (lwg h)⟩
  · exact gi_B hb h5 w h
/-! ===== the line: its bytes lie at an address that no function knows ===== -/
def PstG (E : ET) (A : Nat → Prop) (Lf : Nat → List va_W) (t : State) : Prop := ∃ ad : Nat, PstW E A (Lf ad) t
abbrev XWG (E : ET) (A : Nat → Prop) {α : Type} (ro : α ⊕ String) (Lf : Nat → List va_W) : String → State → State → Prop := vx_X (fun (_ : Unit) => True) (fun X _ t => ro = .inr X ∧ PstG E A Lf t) A
def CtgV (l : Launch) (y : MethodName) (ws : List Cond) (rm : Room) (mc ms : Nat) (av : List Value) (E : ET) (L : List va_W) (Lf : Nat → List va_W) (sz : Nat) : Prop := Met l y ws rm (va_Pc av (PreW E L sz)) (va_Qv (fun (_ : Unit) => True) (fun _ t => PstG E (va_A L.flatten sz) Lf t) (va_A L.flatten sz)) mc ms (va_A L.flatten sz)
def CtgI (l : Launch) (y : MethodName) (ws : List Cond) (rm : Room) (mc ms : Nat) (av : List Value) (E : ET) (L : List va_W) (rv : Int32) (Lf : Nat → List va_W) (sz : Nat) : Prop := Met l y ws rm (va_Pc av (PreW E L sz)) (va_Qi (fun r (_ : Unit) => r = rv) (fun _ t => PstG E (va_A L.flatten sz) Lf t) (va_A L.flatten sz)) mc ms (va_A L.flatten sz)
def CtgR (l : Launch) (y : MethodName) (ws : List Cond) (rm : Room) (mc ms : Nat) (av : List Value) (E : ET) (L : List va_W) (ra : Nat) (Lf : Nat → List va_W) (sz : Nat) : Prop := Met l y ws rm (va_Pc av (PreW E L sz)) (va_Qr (fun (_ : Unit) => True) (fun _ r t => r = ra ∧ PstG E (va_A L.flatten sz) Lf t) (va_A L.flatten sz)) mc ms (va_A L.flatten sz)
def CxgI (l : Launch) (y : MethodName) (ws : List Cond) (rm : Room) (mc ms : Nat) (av : List Value) (E : ET) (L : List va_W) (ro : Int32 ⊕ String) (Lf : Nat → List va_W) (sz : Nat) : Prop := vx_Met l y ws rm (va_Pc av (PreW E L sz)) (va_Qi (fun r (_ : Unit) => ro = .inl r) (fun _ t => PstG E (va_A L.flatten sz) Lf t) (va_A L.flatten sz)) (XWG E (va_A L.flatten sz) ro Lf) mc ms (va_A L.flatten sz)
section QGH
variable {p : Program} {l : Launch} {e : Env} {R : Room} {s : State} {m : MethodId} {args : Array Value} {below : List Frame} {meth : Method} {c : Code} {H : Heap} {locs : List Loc} {mc ms cells slots : Nat} {pc : Nat} {ls : Array Slot} {A : Nat → Prop} {E : ET} {L Lc : List va_W} {Lc' L' : Nat → List va_W} {cc : ByteArray} {Q : State → Prop} {rest st0 : List Value} {a : Array Value} {Qc : Array Value → State → Outcome → State → Prop} {XC : String → State → State → Prop} {ad : Nat}
theorem en_gv (hQ : Q = MQ below (va_Qv (fun (_ : Unit) => True) (fun _ t => PstG E A L' t) A) args s mc ms A) (hc : cells ≤ mc) (hs : slots ≤ ms) (hx : p.tables.exec = Jvm.exec) (hb : c.code = cc) (hr : meth.sig.returnType = none) (hlocks : meth.locks = false) (hP : va_P E.1 vwCl (L' ad).flatten H) (hD : va_D A (L' ad).flatten) (hS : va_S A s.heap H locs) (hdg : decode cc pc = .ok (.return_, 1)) :
    W p l e R s m args below meth c H locs cells slots Q (F0 m pc ls []) := by
  refine W.widen hc hs ?_
  rw [hQ]
  exact W.vret hx hb hr (fun t ht hW => ⟨⟨(), rfl, trivial, (show PstG E A L' t from ⟨ad, by rw [ht]; exact hP, hD⟩)⟩, hS.F ht⟩) hS.2.2 hdg hlocks
theorem en_gi {v rv : Int32} (hQ : Q = MQ below (va_Qi (fun r (_ : Unit) => r = rv) (fun _ t => PstG E A L' t) A) args s mc ms A) (hc : cells ≤ mc) (hs : slots ≤ ms) (hx : p.tables.exec = Jvm.exec) (hb : c.code = cc) (hr : meth.sig.returnType = some .int) (hlocks : meth.locks = false) (hP : va_P E.1 vwCl (L' ad).flatten H) (hD : va_D A (L' ad).flatten) (hS : va_S A s.heap H locs) (hrv : v = rv) (hdg : decode cc pc = .ok (.ireturn, 1)) :
    W p l e R s m args below meth c H locs cells slots Q (F0 m pc ls [.int v]) := by
  refine W.widen hc hs ?_
  rw [hQ]
  exact W.iret (v := v) hx hb hr (fun t ht hW => ⟨⟨v, (), rfl, hrv, (show PstG E A L' t from ⟨ad, by rw [ht]; exact hP, hD⟩)⟩, hS.F ht⟩) hS.2.2 hdg hlocks
theorem en_gr {ra va : Nat} {ty : FieldType} (hQ : Q = MQ below (va_Qr (fun (_ : Unit) => True) (fun _ r t => r = ra ∧ PstG E A L' t) A) args s mc ms A) (hc : cells ≤ mc) (hs : slots ≤ ms) (hx : p.tables.exec = Jvm.exec) (hb : c.code = cc) (hr : meth.sig.returnType = some ty) (hn : (∃ n, ty = FieldType.object n) ∨ ∃ t, ty = FieldType.array t) (hlocks : meth.locks = false) (hP : va_P E.1 vwCl (L' ad).flatten H) (hD : va_D A (L' ad).flatten) (hS : va_S A s.heap H locs) (hrv : va = ra) (hdg : decode cc pc = .ok (.areturn, 1)) :
    W p l e R s m args below meth c H locs cells slots Q (F0 m pc ls [.ref va]) := by
  refine W.widen hc hs ?_
  rw [hQ]
  exact W.aret (v := .ref va) hx hb hr hn (Or.inr ⟨_, rfl⟩) (fun t ht hW => ⟨⟨(), va, rfl, trivial, hrv, (show PstG E A L' t from ⟨ad, by rw [ht]; exact hP, hD⟩)⟩, hS.F ht⟩) hS.2.2 hdg hlocks
theorem en_gxi {v : Int32} {ro : Int32 ⊕ String} (hQ : Q = vx_MQ below (va_Qi (fun r (_ : Unit) => ro = .inl r) (fun _ t => PstG E A L' t) A) XC args s mc ms A) (hc : cells ≤ mc) (hs : slots ≤ ms) (hx : p.tables.exec = Jvm.exec) (hb : c.code = cc) (hr : meth.sig.returnType = some .int) (hlocks : meth.locks = false) (hP : va_P E.1 vwCl (L' ad).flatten H) (hD : va_D A (L' ad).flatten) (hS : va_S A s.heap H locs) (hrv : ro = .inl v) (hdg : decode cc pc = .ok (.ireturn, 1)) :
    W p l e R s m args below meth c H locs cells slots Q (F0 m pc ls [.int v]) := by
  refine W.widen hc hs ?_
  rw [hQ]
  exact vx_ret (W.iret (v := v) hx hb hr (fun t ht hW => ⟨⟨v, (), rfl, hrv, (show PstG E A L' t from ⟨ad, by rw [ht]; exact hP, hD⟩)⟩, hS.F ht⟩) hS.2.2 hdg hlocks)
theorem en_gout {X : String} {ce : Cell} {q9 : Addr} {α : Type} {ro : α ⊕ String} (hQ : Q = vx_MQ below Qc (XWG E A ro L') args s mc ms A) (hc : cells ≤ mc) (hs : slots ≤ ms) (hexc : ∀ x ∈ c.exceptionTable.toList, False) (hlocks : meth.locks = false) (hce : H[q9]? = some ce) (hv : ce.vm = .none) (hcl : s.vm.findClass X = some ce.cls) (hP : va_P E.1 vwCl (L' ad).flatten H) (hD : va_D A (L' ad).flatten) (hS : va_S A s.heap H locs) (hro : ro = .inr X) :
    vx_W p l e R s m args below meth c H locs cells slots Q (F0 m pc ls rest) q9 := by
  rw [hQ]
  exact vx_out (fun x hx => (hexc x hx).elim) hlocks hce hv hcl (fun t ht _ => ⟨(), trivial, ⟨hro, ad, by rw [ht]; exact hP, hD⟩, hS.F ht⟩) hS.2.2 hc hs
theorem cl_gv (hr : va_Run p l e R s m args below meth c H locs cells slots mc ms (F0 m pc ls st0) rest (va_Qv (fun (_ : Unit) => True) (fun _ t => PstG E (va_A Lc.flatten H.size) Lc' t) (va_A Lc.flatten H.size) a) (va_A Lc.flatten H.size)) (hP : va_P E.1 vwCl L.flatten H) (hD : va_D A L.flatten) (hS : va_S A s.heap H locs) (hA : ∀ q, s.heap.size ≤ q → A q) (is : List Nat) (hn : va_nd is = true) (hl : is.all (fun i => decide (i < L.length)) = true) (hp : pickB L is = Lc) (hlen : ∀ ad, (Lc' ad).length = is.length) (hput : ∀ ad, putB L is (Lc' ad) = L' ad)
    (kk : ∀ (ad : Nat) (H1 : Heap) (locs1 : List Loc), va_P E.1 vwCl (L' ad).flatten H1 → va_D A (L' ad).flatten → va_S A s.heap H1 locs1 → W p l e R s m args below meth c H1 locs1 (cells + mc) (slots + ms) Q (F0 m (pc + 3) ls rest)) : W p l e R s m args below meth c H locs cells slots Q (F0 m pc ls st0) := by
  have hF := fr_A hD hS hA is hp
  refine va_callv hr hS (fun q _ h => hF q h) hF (fun u t H1 locs1 ht hvm hw hB hz1 hk1 hS1 => ?_)
  obtain ⟨ad, hP1, hD1⟩ := hB
  rw [ht] at hP1
  obtain ⟨hP2, hD2⟩ := fr_join hP hD is hn hl hp (hlen ad) (hput ad) hk1 hF hP1 hD1
  exact kk ad H1 locs1 hP2 hD2 hS1
theorem cl_gi {rv : Int32} (hr : va_Run p l e R s m args below meth c H locs cells slots mc ms (F0 m pc ls st0) rest (va_Qi (fun r (_ : Unit) => r = rv) (fun _ t => PstG E (va_A Lc.flatten H.size) Lc' t) (va_A Lc.flatten H.size) a) (va_A Lc.flatten H.size)) (hP : va_P E.1 vwCl L.flatten H) (hD : va_D A L.flatten) (hS : va_S A s.heap H locs) (hA : ∀ q, s.heap.size ≤ q → A q) (is : List Nat) (hn : va_nd is = true) (hl : is.all (fun i => decide (i < L.length)) = true) (hp : pickB L is = Lc) (hlen : ∀ ad, (Lc' ad).length = is.length) (hput : ∀ ad, putB L is (Lc' ad) = L' ad)
    (kk : ∀ (ad : Nat) (H1 : Heap) (locs1 : List Loc), va_P E.1 vwCl (L' ad).flatten H1 → va_D A (L' ad).flatten → va_S A s.heap H1 locs1 → W p l e R s m args below meth c H1 locs1 (cells + mc) (slots + ms) Q (F0 m (pc + 3) ls (.int rv :: rest))) : W p l e R s m args below meth c H locs cells slots Q (F0 m pc ls st0) := by
  have hF := fr_A hD hS hA is hp
  refine va_calli hr hS (fun q _ h => hF q h) hF (fun r u t H1 locs1 ht hvm hw hB hz1 hk1 hS1 => ?_)
  obtain ⟨ad, hP1, hD1⟩ := hB
  rw [ht] at hP1
  obtain ⟨hP2, hD2⟩ := fr_join hP hD is hn hl hp (hlen ad) (hput ad) hk1 hF hP1 hD1
  rw [hw]
  exact kk ad H1 locs1 hP2 hD2 hS1
theorem cl_gr {ra : Nat} (hr : va_Run p l e R s m args below meth c H locs cells slots mc ms (F0 m pc ls st0) rest (va_Qr (fun (_ : Unit) => True) (fun _ r t => r = ra ∧ PstG E (va_A Lc.flatten H.size) Lc' t) (va_A Lc.flatten H.size) a) (va_A Lc.flatten H.size)) (hP : va_P E.1 vwCl L.flatten H) (hD : va_D A L.flatten) (hS : va_S A s.heap H locs) (hA : ∀ q, s.heap.size ≤ q → A q) (is : List Nat) (hn : va_nd is = true) (hl : is.all (fun i => decide (i < L.length)) = true) (hp : pickB L is = Lc) (hlen : ∀ ad, (Lc' ad).length = is.length) (hput : ∀ ad, putB L is (Lc' ad) = L' ad)
    (kk : ∀ (ad : Nat) (H1 : Heap) (locs1 : List Loc), va_P E.1 vwCl (L' ad).flatten H1 → va_D A (L' ad).flatten → va_S A s.heap H1 locs1 → W p l e R s m args below meth c H1 locs1 (cells + mc) (slots + ms) Q (F0 m (pc + 3) ls (.ref ra :: rest))) : W p l e R s m args below meth c H locs cells slots Q (F0 m pc ls st0) := by
  have hF := fr_A hD hS hA is hp
  refine va_callr hr hS (fun q _ h => hF q h) hF (fun u r t H1 locs1 ht hvm hw hB hz1 hk1 hS1 => ?_)
  obtain ⟨rfl, ad, hP1, hD1⟩ := hB
  rw [ht] at hP1
  obtain ⟨hP2, hD2⟩ := fr_join hP hD is hn hl hp (hlen ad) (hput ad) hk1 hF hP1 hD1
  exact kk ad H1 locs1 hP2 hD2 hS1
theorem ClassAt_J4 (h : ST E s) : ClassAt s RJ4 (E.1.1 1) := by
  obtain ⟨-, hfc, kC, hkC, hkind⟩ := h.k.1 1 _ rfl
  exact ⟨hfc, kC, hkC, hkind⟩
end QGH
theorem gi_SU {big : List Cond} {own : String} {idx : Nat} {y : MethodName} {b : ByteArray} {n : Nat} {r : Option FieldType} (hb : ∀ w ∈ lw_all, w ∈ big) (h1 : Cond.methodLink own idx y ∈ lw_all) (h2 : Cond.sameMethod y.cls y.cls y.name y.desc ∈ lw_all) (h3 : Cond.superclass own y.cls ∈ lw_all) (h4 : Cond.instanceMethod y ∈ lw_all) (h6 : Cond.initialized y.cls ∈ lw_all) (h5 : Cond.code y b n r ∈ lw_all) : GoodIn big (va_wsSU own idx y (mws y b n r)) := by
  intro w hw
  rcases List.mem_append.mp hw with h | h
  · have h : w ∈ lw_all := by
      simp only [List.mem_cons, List.not_mem_nil, or_false] at h
      rcases h with rfl | rfl | rfl | rfl | rfl
      · exact h1
      · exact h2
      · exact h3
      · exact h4
      · exact h6
    exact ⟨hb w h, good_of_word (lwg h)⟩
  · exact gi_B hb h5 w h
theorem sr_378 (E : ET) : (RX10, 378, "an index is out of range", E.2 400) ∈ srL E := List.mem_of_getElem? (i := 0) rfl
theorem sr_380 (E : ET) : (RX10, 380, "an argument is out of range", E.2 401) ∈ srL E := List.mem_of_getElem? (i := 1) rfl
theorem sr_382 (E : ET) : (RX10, 382, "the valley does not allow it", E.2 402) ∈ srL E := List.mem_of_getElem? (i := 2) rfl
theorem sr_386 (E : ET) : (RX10, 386, "no such bell", E.2 403) ∈ srL E := List.mem_of_getElem? (i := 3) rfl
theorem sr_157 (E : ET) : (RX10, 157, "no such rank", E.2 404) ∈ srL E := List.mem_of_getElem? (i := 4) rfl
theorem sr_390 (E : ET) : (RX10, 390, "there are no bells", E.2 405) ∈ srL E := List.mem_of_getElem? (i := 5) rfl
theorem sr_184 (E : ET) : (RX10, 184, "no such pitch class", E.2 406) ∈ srL E := List.mem_of_getElem? (i := 6) rfl
theorem sr_396 (E : ET) : (RX10, 396, "no such herd", E.2 407) ∈ srL E := List.mem_of_getElem? (i := 7) rfl
theorem sr_210 (E : ET) : (RX10, 210, "no such position", E.2 408) ∈ srL E := List.mem_of_getElem? (i := 8) rfl
theorem sr_222 (E : ET) : (RX10, 222, "no canon", E.2 409) ∈ srL E := List.mem_of_getElem? (i := 9) rfl
theorem sr_401 (E : ET) : (RX10, 401, "nothing sounds", E.2 410) ∈ srL E := List.mem_of_getElem? (i := 10) rfl
theorem sr_299 (E : ET) : (RX10, 299, "the text is not a program", E.2 411) ∈ srL E := List.mem_of_getElem? (i := 11) rfl
theorem sr_317 (E : ET) : (RX10, 317, "a command failed", E.2 412) ∈ srL E := List.mem_of_getElem? (i := 12) rfl
theorem sr_326 (E : ET) : (RX10, 326, "no failed command was stored", E.2 413) ∈ srL E := List.mem_of_getElem? (i := 13) rfl
theorem sr_365 (E : ET) : (RX10, 365, "no call can be undone", E.2 414) ∈ srL E := List.mem_of_getElem? (i := 14) rfl
theorem sr_370 (E : ET) : (RX10, 370, "no state was saved", E.2 415) ∈ srL E := List.mem_of_getElem? (i := 15) rfl
theorem sr_286 (E : ET) : (RX10, 286, "the text buffer is full", E.2 416) ∈ srL E := List.mem_of_getElem? (i := 16) rfl
theorem sr_399 (E : ET) : (RX10, 399, "no such cliff", E.2 417) ∈ srL E := List.mem_of_getElem? (i := 17) rfl
theorem sr_324 (E : ET) : (RX10, 324, "no error position was stored", E.2 418) ∈ srL E := List.mem_of_getElem? (i := 18) rfl
theorem sL_157 (E : ET) : (RL, 157, "key 7m;tolerance 9;entry 2 3;clear 1", E.2 212) ∈ srL E := List.mem_of_getElem? (i := 19) rfl
theorem sL_169 (E : ET) : (RL, 169, "key 7m;key 12M", E.2 213) ∈ srL E := List.mem_of_getElem? (i := 20) rfl
theorem sL_177 (E : ET) : (RL, 177, "remove 12", E.2 214) ∈ srL E := List.mem_of_getElem? (i := 21) rfl
theorem sL_179 (E : ET) : (RL, 179, "tx", E.2 215) ∈ srL E := List.mem_of_getElem? (i := 22) rfl
theorem sL_185 (E : ET) : (RL, 185, "to", E.2 216) ∈ srL E := List.mem_of_getElem? (i := 23) rfl
theorem sL_187 (E : ET) : (RL, 187, "toe", E.2 217) ∈ srL E := List.mem_of_getElem? (i := 24) rfl
theorem sL_189 (E : ET) : (RL, 189, "bell 0 600", E.2 218) ∈ srL E := List.mem_of_getElem? (i := 25) rfl
theorem sL_191 (E : ET) : (RL, 191, "key 1", E.2 219) ∈ srL E := List.mem_of_getElem? (i := 26) rfl
theorem sL_193 (E : ET) : (RL, 193, "tune 0", E.2 220) ∈ srL E := List.mem_of_getElem? (i := 27) rfl
theorem sL_195 (E : ET) : (RL, 195, "clx", E.2 221) ∈ srL E := List.mem_of_getElem? (i := 28) rfl
theorem sL_197 (E : ET) : (RL, 197, "", E.2 222) ∈ srL E := List.mem_of_getElem? (i := 29) rfl
theorem sL_199 (E : ET) : (RL, 199, "fell 0;", E.2 223) ∈ srL E := List.mem_of_getElem? (i := 30) rfl
theorem sL_201 (E : ET) : (RL, 201, "cliff 1+123", E.2 224) ∈ srL E := List.mem_of_getElem? (i := 31) rfl
theorem sL_203 (E : ET) : (RL, 203, "z", E.2 225) ∈ srL E := List.mem_of_getElem? (i := 32) rfl
theorem sL_225 (E : ET) : (RL, 225, "bell 0 6000;bell 1 6400;bell 1 6650;tone 0 0;tone 0 1", E.2 226) ∈ srL E := List.mem_of_getElem? (i := 33) rfl
def xn : List String := ["java/lang/RuntimeException", "java/lang/Exception"]
theorem ft_x : ∀ n ∈ xn, Bundle.fit n = true := by decide +kernel
abbrev Hist_t : Type := (Nat → Valley_t) × Int32 × Int32
def w_HistR (E : ET) (a : Nat → Nat) (o : Nat) (c n : Int32) : va_W := [(a o, .inr (6, [.ref (a (o + 1)), .int c, .int n])), (a (o + 1), .inl (E.2 4, 9, .inr (.inr (.inr (.inr (fun j => some (a (o + 2 + 12 * j))))))))]
def hv_W (E : ET) (a : Nat → Nat) (o : Nat) (f : Nat → Valley_t) (j : Nat) : va_W := (bl_Valley E a (o + 2 + 12 * j) (f j)).flatten
def w_Hist (E : ET) (a : Nat → Nat) (o : Nat) (x : Hist_t) : va_W := w_HistR E a o x.2.1 x.2.2 ++ ((List.range 9).map (hv_W E a o x.1)).flatten
def bl_Hist (E : ET) (a : Nat → Nat) (o : Nat) (x : Hist_t) : List va_W := [w_Hist E a o x]
abbrev Line_t : Type := (Nat → Int32) × Nat × Nat × Int32 × Int32
def w_Line (E : ET) (a : Nat → Nat) (o : Nat) (x : Line_t) : va_W := [(a o, .inr (1, [.ref x.2.2.1, .int 0, .int x.2.2.2.1, .int x.2.2.2.2])), (x.2.2.1, .inl (E.2 3, x.2.1, .inl x.1))]
def bl_Line (E : ET) (a : Nat → Nat) (o : Nat) (x : Line_t) : List va_W := [w_Line E a o x]
abbrev VB_t : Type := ((Valley_t × Valley_t × Hist_t × Prog_t × Chord_t) × (Key_t × Line_t × Int32 × Int32 × Int32))
def w_VBR (a : Nat → Nat) (o : Nat) (p q r : Int32) : va_W := [(a o, .inr (11, [.ref (a (o + 1)), .ref (a (o + 13)), .ref (a (o + 37)), .ref (a (o + 25)), .ref (a (o + 31)), .ref (a (o + 34)), .ref (a (o + 35)), .int p, .int q, .int r]))]
def bl_VB (E : ET) (a : Nat → Nat) (o : Nat) (x : VB_t) : List va_W := [w_VBR a o x.2.2.2.1 x.2.2.2.2.1 x.2.2.2.2.2, w_ValleyR a (o + 1), w_Key E a (o + 2) x.1.1.1, w_Bells E a (o + 3) x.1.1.2.1, w_Mel E a (o + 6) x.1.1.2.2.1, w_Cliffs E a (o + 10) x.1.1.2.2.2, w_ValleyR a (o + 13), w_Key E a (o + 14) x.1.2.1.1, w_Bells E a (o + 15) x.1.2.1.2.1, w_Mel E a (o + 18) x.1.2.1.2.2.1, w_Cliffs E a (o + 22) x.1.2.1.2.2.2, w_Prog E a (o + 25) x.1.2.2.2.1, w_Chord E a (o + 31) x.1.2.2.2.2, w_Key E a (o + 34) x.2.1, w_Line E a (o + 35) x.2.2.1, w_Hist E a (o + 37) x.1.2.2.1]
theorem iw_IndexOutOfBoundsException : Cond.initialized "java/lang/IndexOutOfBoundsException" ∈ lw_all := lw1 17 (by decide +kernel) rfl
theorem iw_IllegalArgumentException : Cond.initialized "java/lang/IllegalArgumentException" ∈ lw_all := lw1 24 (by decide +kernel) rfl
theorem iw_IllegalStateException : Cond.initialized "java/lang/IllegalStateException" ∈ lw_all := lw1 25 (by decide +kernel) rfl
theorem iw_NoSuchElementException : Cond.initialized "java/util/NoSuchElementException" ∈ lw_all := lw1 26 (by decide +kernel) rfl
theorem iw_ArithmeticException : Cond.initialized "java/lang/ArithmeticException" ∈ lw_all := lw1 30 (by decide +kernel) rfl
theorem iw_UnsupportedOperationException : Cond.initialized "java/lang/UnsupportedOperationException" ∈ lw_all := lw1 29 (by decide +kernel) rfl
theorem pw_in : Cond.initialized "jdk/internal/util/Preconditions" ∈ lw_all := lw1 28 (by decide +kernel) rfl
theorem pw_st : Cond.static yJ3_checkIndex_8e157 ∈ lw_all := lw4 236 (by decide +kernel) rfl
theorem pw_co : Cond.code yJ3_checkIndex_8e157 cJ3_checkIndex_8e157 3 (some .int) ∈ lw_all := lw4 237 (by decide +kernel) rfl
theorem atr (cls : String) (ws : List Cond) (ps : List Nat) (hp : ws.filter (fun w => decide (w ∉ xtL cls)) = ps.filterMap (fun i => lw_tbl[i]?)) (h : (ws.filter (fun w => decide (w ∉ xtL cls))).all goodWord = true) : ∀ w ∈ ws, w ∈ lw_all ∨ w ∈ xtL cls := by
  intro w hw
  by_cases e : w ∈ xtL cls
  · exact Or.inr e
  · exact Or.inl (lwr _ ps hp h w (List.mem_filter.mpr ⟨hw, decide_eq_true e⟩))
theorem at_359 : ∀ w ∈ vx_atS RX10 359 "java/lang/IndexOutOfBoundsException" xn, w ∈ lw_all ∨ w ∈ xtL "java/lang/IndexOutOfBoundsException" := atr _ _ [39, 507, 516, 524, 527, 529, 508, 509, 62, 63, 510, 515, 525, 545, 497, 546, 499, 547, 501, 511, 513, 503, 541, 542, 544, 503, 532, 533, 534, 535, 535, 536, 537, 538, 538, 539, 540, 541, 531, 486, 494, 495, 496, 498, 500, 502, 506, 505, 504] (by decide +kernel) (by decide +kernel)
theorem at_186 : ∀ w ∈ vx_atS RX10 186 "java/lang/IllegalArgumentException" xn, w ∈ lw_all ∨ w ∈ xtL "java/lang/IllegalArgumentException" := atr _ _ [39, 507, 516, 524, 527, 529, 508, 509, 62, 63, 510, 515, 525, 545, 497, 546, 499, 547, 501, 511, 513, 503, 541, 542, 544, 503, 567, 568, 569, 535, 535, 536, 537, 538, 538, 539, 540, 541, 566, 557, 559, 520, 560, 561, 562, 563, 506, 505, 564] (by decide +kernel) (by decide +kernel)
theorem at_288 : ∀ w ∈ vx_atS RX10 288 "java/lang/IllegalStateException" xn, w ∈ lw_all ∨ w ∈ xtL "java/lang/IllegalStateException" := atr _ _ [39, 507, 516, 524, 527, 529, 508, 509, 62, 63, 510, 515, 525, 545, 497, 546, 499, 547, 501, 511, 513, 503, 541, 542, 544, 503, 583, 584, 585, 535, 535, 536, 537, 538, 538, 539, 540, 541, 582, 573, 575, 521, 576, 577, 578, 579, 506, 505, 580] (by decide +kernel) (by decide +kernel)
theorem at_392 : ∀ w ∈ vx_atS RX10 392 "java/lang/ArithmeticException" xn, w ∈ lw_all ∨ w ∈ xtL "java/lang/ArithmeticException" := atr _ _ [39, 507, 516, 524, 527, 529, 508, 509, 62, 63, 510, 515, 525, 545, 497, 546, 499, 547, 501, 511, 513, 503, 541, 542, 544, 503, 769, 770, 771, 535, 535, 536, 537, 538, 538, 539, 540, 541, 768, 759, 761, 518, 762, 763, 764, 765, 506, 505, 766] (by decide +kernel) (by decide +kernel)
theorem at_319 : ∀ w ∈ vx_atS RX10 319 "java/lang/UnsupportedOperationException" xn, w ∈ lw_all ∨ w ∈ xtL "java/lang/UnsupportedOperationException" := atr _ _ [39, 507, 516, 524, 527, 529, 508, 509, 62, 63, 510, 515, 525, 545, 497, 546, 499, 547, 501, 511, 513, 503, 541, 542, 544, 503, 1054, 1055, 1056, 535, 535, 536, 537, 538, 538, 539, 540, 541, 1053, 1044, 1046, 522, 1047, 1048, 1049, 1050, 506, 505, 1051] (by decide +kernel) (by decide +kernel)
theorem cs_IndexOutOfBoundsException : "java/lang/IndexOutOfBoundsException" ∈ csL := List.mem_of_getElem? (i := 0) rfl
theorem cs_IllegalArgumentException : "java/lang/IllegalArgumentException" ∈ csL := List.mem_of_getElem? (i := 1) rfl
theorem cs_IllegalStateException : "java/lang/IllegalStateException" ∈ csL := List.mem_of_getElem? (i := 2) rfl
theorem cs_NoSuchElementException : "java/util/NoSuchElementException" ∈ csL := List.mem_of_getElem? (i := 3) rfl
theorem cs_ArithmeticException : "java/lang/ArithmeticException" ∈ csL := List.mem_of_getElem? (i := 4) rfl
theorem cs_UnsupportedOperationException : "java/lang/UnsupportedOperationException" ∈ csL := List.mem_of_getElem? (i := 5) rfl
