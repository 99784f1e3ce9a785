/-! ===== the law: methods with a table, arrays of longs and doubles ===== -/
section QLX
variable {p : Program} {l : Launch} {e : Env} {R : Room} {s : State} {m : MethodId} {args : Array Value} {below : List Frame} {meth : Method} {c : Code} {H : Heap} {locs : List Loc} {cells slots : Nat} {Q : State → Prop} {pc : Nat} {ls : Array Slot} {rest st0 : List Value} {a : Array Value} {A : Nat → Prop} {mc ms : Nat} {E : ET} {L Lc Lc' L' : List va_W}
theorem cx_d {ro : UInt64 ⊕ String} (hr : vx_Run p l e R s m args below meth c H locs cells slots mc ms (F0 m pc ls st0) rest (va_Qd (fun r (_ : Unit) => ro = .inl r) (fun _ t => PstW E (va_A Lc.flatten H.size) Lc' t) (va_A Lc.flatten H.size) a) (XW E (va_A Lc.flatten H.size) ro Lc') (va_A Lc.flatten H.size)) (hP : va_P E.1 vwCl L.flatten H) (hD : va_D A L.flatten) (hS : va_S A s.heap H locs) (hA : ∀ q, s.heap.size ≤ q → A q) (is : List Nat) (hn : va_nd is = true) (hl : is.all (fun i => decide (i < L.length)) = true) (hp : pickB L is = Lc) (hlen : Lc'.length = is.length) (hput : putB L is Lc' = L')
    (kx : ∀ (X : String) (ce : Cell) (q9 : Addr) (H1 : Heap) (locs1 : List Loc), ro = .inr X → H1[q9]? = some ce → ce.vm = .none → s.vm.findClass X = some ce.cls → va_P E.1 vwCl L'.flatten H1 → va_D A L'.flatten → va_S A s.heap H1 locs1 → vx_W p l e R s m args below meth c H1 locs1 (cells + mc) (slots + ms) Q (F0 m pc ls rest) q9)
    (kk : ∀ (r : UInt64) (H1 : Heap) (locs1 : List Loc), ro = .inl r → va_P E.1 vwCl L'.flatten H1 → va_D A L'.flatten → va_S A s.heap H1 locs1 → W p l e R s m args below meth c H1 locs1 (cells + mc) (slots + ms) Q (F0 m (pc + 3) ls (.double r :: rest))) : W p l e R s m args below meth c H locs cells slots Q (F0 m pc ls st0) := by
  have hF := fr_A hD hS hA is hp
  refine vx_calld hr hS (fun q _ h => hF q h) hF (fun q _ h => hF q h) (fun X ce q9 u t H1 locs1 ht hvm _ hB hz1 hk1 hS1 h1 h2 h3 => ?_) (fun r u t H1 locs1 ht hvm hw hB hz1 hk1 hS1 => ?_)
  · obtain ⟨hro, hP1, hD1⟩ := hB
    rw [ht] at hP1
    obtain ⟨hP2, hD2⟩ := fr_join hP hD is hn hl hp hlen hput hk1 hF hP1 hD1
    exact kx X ce q9 H1 locs1 hro h1 h2 h3 hP2 hD2 hS1
  · obtain ⟨hP1, hD1⟩ := hB
    rw [ht] at hP1
    obtain ⟨hP2, hD2⟩ := fr_join hP hD is hn hl hp hlen hput hk1 hF hP1 hD1
    exact kk r H1 locs1 hw hP2 hD2 hS1
theorem cx_f {ro : UInt32 ⊕ String} (hr : vx_Run p l e R s m args below meth c H locs cells slots mc ms (F0 m pc ls st0) rest (va_Qf (fun r (_ : Unit) => ro = .inl r) (fun _ t => PstW E (va_A Lc.flatten H.size) Lc' t) (va_A Lc.flatten H.size) a) (XW E (va_A Lc.flatten H.size) ro Lc') (va_A Lc.flatten H.size)) (hP : va_P E.1 vwCl L.flatten H) (hD : va_D A L.flatten) (hS : va_S A s.heap H locs) (hA : ∀ q, s.heap.size ≤ q → A q) (is : List Nat) (hn : va_nd is = true) (hl : is.all (fun i => decide (i < L.length)) = true) (hp : pickB L is = Lc) (hlen : Lc'.length = is.length) (hput : putB L is Lc' = L')
    (kx : ∀ (X : String) (ce : Cell) (q9 : Addr) (H1 : Heap) (locs1 : List Loc), ro = .inr X → H1[q9]? = some ce → ce.vm = .none → s.vm.findClass X = some ce.cls → va_P E.1 vwCl L'.flatten H1 → va_D A L'.flatten → va_S A s.heap H1 locs1 → vx_W p l e R s m args below meth c H1 locs1 (cells + mc) (slots + ms) Q (F0 m pc ls rest) q9)
    (kk : ∀ (r : UInt32) (H1 : Heap) (locs1 : List Loc), ro = .inl r → va_P E.1 vwCl L'.flatten H1 → va_D A L'.flatten → va_S A s.heap H1 locs1 → W p l e R s m args below meth c H1 locs1 (cells + mc) (slots + ms) Q (F0 m (pc + 3) ls (.float r :: rest))) : W p l e R s m args below meth c H locs cells slots Q (F0 m pc ls st0) := by
  have hF := fr_A hD hS hA is hp
  refine vx_callf hr hS (fun q _ h => hF q h) hF (fun q _ h => hF q h) (fun X ce q9 u t H1 locs1 ht hvm _ hB hz1 hk1 hS1 h1 h2 h3 => ?_) (fun r u t H1 locs1 ht hvm hw hB hz1 hk1 hS1 => ?_)
  · obtain ⟨hro, hP1, hD1⟩ := hB
    rw [ht] at hP1
    obtain ⟨hP2, hD2⟩ := fr_join hP hD is hn hl hp hlen hput hk1 hF hP1 hD1
    exact kx X ce q9 H1 locs1 hro h1 h2 h3 hP2 hD2 hS1
  · obtain ⟨hP1, hD1⟩ := hB
    rw [ht] at hP1
    obtain ⟨hP2, hD2⟩ := fr_join hP hD is hn hl hp hlen hput hk1 hF hP1 hD1
    exact kk r H1 locs1 hw hP2 hD2 hS1
end QLX
section QLG
variable {p : Program} {l : Launch} {e : Env} {R : Room} {s : State} {m : MethodId} {args : Array Value} {below : List Frame} {meth : Method} {c : Code} {H : Heap} {locs : List Loc} {cells slots : Nat} {Q : State → Prop} {pc : Nat} {ls : Array Slot} {rest st0 : List Value} {a : Array Value} {A : Nat → Prop} {mc ms : Nat} {E : ET} {L Lc : List va_W} {Lc' L' : Nat → List va_W}
theorem cx_gi {ro : Int32 ⊕ String} (hr : vx_Run p l e R s m args below meth c H locs cells slots mc ms (F0 m pc ls st0) rest (va_Qi (fun r (_ : Unit) => ro = .inl r) (fun _ t => PstG E (va_A Lc.flatten H.size) Lc' t) (va_A Lc.flatten H.size) a) (XWG E (va_A Lc.flatten H.size) ro Lc') (va_A Lc.flatten H.size)) (hP : va_P E.1 vwCl L.flatten H) (hD : va_D A L.flatten) (hS : va_S A s.heap H locs) (hA : ∀ q, s.heap.size ≤ q → A q) (is : List Nat) (hn : va_nd is = true) (hl : is.all (fun i => decide (i < L.length)) = true) (hp : pickB L is = Lc) (hlen : ∀ ad, (Lc' ad).length = is.length) (hput : ∀ ad, putB L is (Lc' ad) = L' ad)
    (kx : ∀ (X : String) (ce : Cell) (q9 : Addr) (ad : Nat) (H1 : Heap) (locs1 : List Loc), ro = .inr X → H1[q9]? = some ce → ce.vm = .none → s.vm.findClass X = some ce.cls → va_P E.1 vwCl (L' ad).flatten H1 → va_D A (L' ad).flatten → va_S A s.heap H1 locs1 → vx_W p l e R s m args below meth c H1 locs1 (cells + mc) (slots + ms) Q (F0 m pc ls rest) q9)
    (kk : ∀ (r : Int32) (ad : Nat) (H1 : Heap) (locs1 : List Loc), ro = .inl r → va_P E.1 vwCl (L' ad).flatten H1 → va_D A (L' ad).flatten → va_S A s.heap H1 locs1 → W p l e R s m args below meth c H1 locs1 (cells + mc) (slots + ms) Q (F0 m (pc + 3) ls (.int r :: rest))) : W p l e R s m args below meth c H locs cells slots Q (F0 m pc ls st0) := by
  have hF := fr_A hD hS hA is hp
  refine vx_calli hr hS (fun q _ h => hF q h) hF (fun q _ h => hF q h) (fun X ce q9 u t H1 locs1 ht hvm _ hB hz1 hk1 hS1 h1 h2 h3 => ?_) (fun r u t H1 locs1 ht hvm hw hB hz1 hk1 hS1 => ?_)
  · obtain ⟨hro, ad, hP1, hD1⟩ := hB
    rw [ht] at hP1
    obtain ⟨hP2, hD2⟩ := fr_join hP hD is hn hl hp (hlen ad) (hput ad) hk1 hF hP1 hD1
    exact kx X ce q9 ad H1 locs1 hro h1 h2 h3 hP2 hD2 hS1
  · obtain ⟨ad, hP1, hD1⟩ := hB
    rw [ht] at hP1
    obtain ⟨hP2, hD2⟩ := fr_join hP hD is hn hl hp (hlen ad) (hput ad) hk1 hF hP1 hD1
    exact kk r ad H1 locs1 hw hP2 hD2 hS1
end QLG
abbrev mwsH (y : MethodName) (b : ByteArray) (n : Nat) (r : Option FieldType) (hh : List (Nat × Nat × Nat × Nat)) : List Cond := Cond.codeWith y b n r hh :: lw_all
theorem gi_TH {big : List Cond} {own : String} {idx : Nat} {y : MethodName} {b : ByteArray} {n : Nat} {r : Option FieldType} {hh : List (Nat × Nat × Nat × Nat)} (hb : ∀ w ∈ lw_all, w ∈ big) (h1 : Cond.methodLink own idx y ∈ lw_all) (h2 : Cond.static y ∈ lw_all) (h4 : Cond.initialized y.cls ∈ lw_all) (h5 : Cond.codeWith y b n r hh ∈ lw_all) : GoodIn big (va_wsS own idx y (mwsH y b n r hh)) := by
  intro w hw
  have h : w ∈ lw_all := by
    rcases List.mem_append.mp hw with h | h
    · simp only [List.mem_cons, List.not_mem_nil, or_false] at h
      rcases h with rfl | rfl | rfl
      · exact h1
      · exact h2
      · exact h4
    · exact (List.mem_cons.mp h).elim (fun e => by rw [e]; exact h5) id
  exact ⟨hb w h, good_of_word (lwg h)⟩
theorem mk_H {l : Launch} {y : MethodName} {b : ByteArray} {n : Nat} {r : Option FieldType} {hh : List (Nat × Nat × Nat × Nat)} {rm : Room} {mc ms : Nat} {av : List Value} {E : ET} {L : List va_W} {sz : Nat} {Qc : Array Value → State → Outcome → State → Prop} (hpl : plainName y.cls = true) (hav : (lg_sl av).length ≤ n)
    (body : ∀ (p : Program) (e : Env) (s : State) (m : MethodId) (below : List Frame) (meth : Method) (c : Code) (A : Nat → Prop) (args : Array Value) (Q : State → Prop) (ls : Array Slot), va_A L.flatten sz = A → s.heap.size = sz → Q = MQ below Qc args s mc ms A → p.tables.exec = Jvm.exec → c.code = b → meth.sig.returnType = r → c.maxLocals = n → meth.name = y.name → (∀ w ∈ lw_all, w.before args s = true) → s.vm.findClass y.cls = some m.cls → meth.locks = false → (∀ q, s.heap.size ≤ q → A q) → (∀ q, A q → E.2 0 ≤ q) → E.2 0 ≤ s.heap.size → ST E s → c.exceptionTable.toList = tableOf hh → va_P E.1 vwCl L.flatten s.heap → va_D A L.flatten → va_S A s.heap s.heap [] → lv_has ls n (lv_args 0 av) → W p l e rm s m args below meth c s.heap [] 0 0 Q (F0 m 0 ls [])) :
    Met l y (mwsH y b n r hh) rm (va_Pc av (PreW E L sz)) Qc mc ms (va_A L.flatten sz) := by
  refine va_MetW (cc := b) (maxL := n) (ret := r) (hh := hh) hpl rfl ?_
  intro p e s m args below meth c s₁ B hml hv
  obtain ⟨rfl, hsz, hP, hD0, hz0, hst⟩ := hv
  have hts := atoms_spec (ws := mwsH y b n r hh) B.pre
  have htab := vx_table (x := y) B (hts _ List.mem_cons_self)
  rw [lg_entry_eq]
  refine body p e s m below meth c _ _ _ _ rfl hsz rfl B.exec B.bytes B.returns hml (name_of_methodNamed B.named B.method).1 (fun w h => hts w (List.mem_cons_of_mem _ h)) (findClass_of_methodNamed B.named) B.notSynchronized (fun q h => Or.inr (by rw [← hsz]; exact h)) (fun q h => ?_) (by rw [hsz]; exact hz0) hst htab hP hD0.self va_S.rf (lv_entry av hav)
  rcases A_iff.mp h with ⟨e9, he⟩ | h
  · exact (D_iff.mp hD0).2 (q, e9) he
  · exact Nat.le_trans hz0 h
