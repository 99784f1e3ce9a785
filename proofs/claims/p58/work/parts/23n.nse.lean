/-- the words of a constructor's walk from the call of its super on, for an object of the class ocls -/
def vn_at (own : String) (ic : Nat) (cls ocls : String) (names : List String) : List Cond := Bundle.throwableAtoms ++ Bundle.throwableSAtoms ++ Bundle.chainSAtoms cls names ++
  [.methodLink own ic (Bundle.initS cls), .instantiable ocls 6, .selects ocls Bundle.tFill0 Bundle.tFill0, .selects ocls Bundle.tFill Bundle.tFill, .lays ocls Bundle.tN "cause" "Ljava/lang/Throwable;", .lays ocls Bundle.tN "stackTrace" Bundle.steD, .lays ocls Bundle.tN "suppressedExceptions" Bundle.listD, .lays ocls Bundle.tN "detailMessage" "Ljava/lang/String;", .isRef (.static Bundle.tN "UNASSIGNED_STACK" Bundle.steD), .isRef (.static Bundle.tN "SUPPRESSED_SENTINEL" Bundle.listD), .fieldLink Bundle.tN 198 Bundle.tN "backtrace" "Ljava/lang/Object;", .lays Bundle.tN Bundle.tN "backtrace" "Ljava/lang/Object;", .lays ocls Bundle.tN "backtrace" "Ljava/lang/Object;"]
section VNSE
variable {p : Program} {l : Launch} {e : Env} {R : Room} {s : State} {m₀ : MethodId} {args : Array Value} {below : List Frame} {meth : Method} {c : Code} {W : State} {locs : List Loc} {cells slots : Nat}
set_option maxHeartbeats 1000000 in
theorem vn_ctor (X : Stand p l e R s m₀ args below meth c W locs cells slots) (hexec : p.tables.exec = Jvm.exec) (htr : e.platform.stackTraces = false) {own cls ocls : String} {names : List String} {ic : Nat}
    (hown : s.vm.findClass own = some m₀.cls) (hcls : Bundle.fit cls = true) (hnames : ∀ n ∈ names, Bundle.fit n = true)
    (h : ∀ a ∈ vn_at own ic cls ocls names, a.before args s = true)
    (hlocs : ∀ x ∈ locs, ∀ cell, s.heap[x.base]? = some cell → cell.vm.isStatics = false)
    {a : Addr} {cX : ClassId} {kX : Class} (hfoundX : s.vm.findClass ocls = some cX) (hkX : s.vm.classes[cX]? = some kX) (hcell : W.heap[a]? = some (freshCell cX kX))
    {msg : Value} (hmsg : msg.isRef = true)
    {g : JFrame} (hg : g.method = m₀) (hsize : g.locals.size = c.maxLocals) {rest : List Value} (hstack : g.stack = msg :: .ref a :: rest)
    (hd6 : decode c.code g.pc = .ok (.invokespecial ic, 3))
    (hRframes : names.length + 3 < R.frames) (hRlocals : 2 * g.monitorRoom + (rest.map fun v => v.category).sum + (13 * (names.length + 1) + 42) ≤ R.locals) :
    ∃ (V : State) (ce : Cell) (L : List Loc), Stand p l e R s m₀ args below meth c (V.setCell a ce) (locs ++ L) cells slots ∧ (∀ y ∈ L, y.base = a) ∧ a < V.heap.size ∧ ce.cls = cX ∧ ce.vm = .none ∧
      ∀ target, Steps p.tables e below ((V.setCell a ce).setTop { g with stack := rest, pc := g.pc + 3 }) target → Steps p.tables e below (W.setTop g) target := by
  have howns : e.platform.frameOwnsMonitors = true := by rw [X.admits.platform]
  have hfin : e.platform.finalization = false := by rw [X.admits.platform]
  have hpl : e.platform.magicAccessors = ({} : Platform).magicAccessors := by rw [X.admits.platform]
  have a' : ∀ x, x ∈ vn_at own ic cls ocls names → x.holds args s none s [] = true := fun x hx => h x hx
  obtain ⟨T, Z0, L, -, Y⟩ := ThrowableC.of_atoms (args := args) howns hfin hpl (fun x hx => h x (by simp [vn_at, hx]))
  obtain ⟨Z, M, LZ, LM, hnZ⟩ := Init0T.ofS_atoms (args := args) hpl L Y (fun x hx => h x (by simp [vn_at, hx]))
  obtain ⟨P1, Ps, hlen, L1, hL, hP1m, hlink1, hlink⟩ := Bundle.chainS (args := args) hpl hnZ names cls hcls hnames (fun x hx => h x (by simp [vn_at, hx]))
  obtain ⟨c1, kX', hc1, hk, hord, -, -, hn6⟩ := Cond.instantiable_spec (a' (.instantiable ocls 6) (by simp [vn_at]))
  cases Option.some.inj (hc1.symm.trans hfoundX)
  cases Option.some.inj (hkX.symm.trans hk)
  have hsel0 : selectMethod e.platform s.vm cX T.fill0 = .method T.fill0 := by
    obtain ⟨c2, r2, m2, q1, q2, q3, q4, -⟩ := Cond.selects_spec (a' (.selects ocls Bundle.tFill0 Bundle.tFill0) (by simp [vn_at]))
    cases Option.some.inj (q1.symm.trans hfoundX)
    cases Option.some.inj (q2.symm.trans (State.methodFound?_of_named Y.fill0 (by decide)))
    cases Option.some.inj (q3.symm.trans Y.fill0)
    rw [Launch.admits_selectMethod X.admits]; exact q4
  have hselF : selectMethod e.platform s.vm cX T.fill = .method T.fill := by
    obtain ⟨c2, r2, m2, q1, q2, q3, q4, -⟩ := Cond.selects_spec (a' (.selects ocls Bundle.tFill Bundle.tFill) (by simp [vn_at]))
    cases Option.some.inj (q1.symm.trans hfoundX)
    cases Option.some.inj (q2.symm.trans (State.methodFound?_of_named Y.fill (by decide)))
    cases Option.some.inj (q3.symm.trans Y.fill)
    rw [Launch.admits_selectMethod X.admits]; exact q4
  obtain ⟨cellS0, hcS0, hiss⟩ := Y.statics
  obtain ⟨u0, hu0⟩ := Cond.staticRefV Y.unassigned L.unassignedStatic L.statics hcS0 hiss (a' (.isRef (.static Bundle.tN "UNASSIGNED_STACK" Bundle.steD)) (by simp [vn_at]))
  obtain ⟨sen, hsen⟩ := Cond.staticRefV Y.sentinel L.sentinelStatic L.statics hcS0 hiss (a' (.isRef (.static Bundle.tN "SUPPRESSED_SENTINEL" Bundle.listD)) (by simp [vn_at]))
  obtain ⟨ci198, i198, fB, hk198, hg198, ha198, hsB, -, hnB, htB, hffB⟩ := Cond.ownField (t := .object "java/lang/Object") Y.found L.cls (by decide +kernel) (a' (.fieldLink Bundle.tN 198 Bundle.tN "backtrace" "Ljava/lang/Object;") (by simp [vn_at])) (a' (.lays Bundle.tN Bundle.tN "backtrace" "Ljava/lang/Object;") (by simp [vn_at])) e.platform hpl
  obtain ⟨cellS, hcS', heS, -, hkeep⟩ := X.same.2.2.2.2.2 T.aS cellS0 hcS0
  have hcellS : W.heap[T.aS]? = some cellS := hcS'
  have hout' : ∀ i, (⟨T.aS, i⟩ : Loc) ∉ locs := fun i hmem => by
    have := hlocs _ hmem cellS0 hcS0
    rw [hiss] at this; cases this
  have hknownS : cellS.vm ≠ .unknown := by
    rw [heS]; intro hu
    rw [show cellS0.vm = .unknown from hu] at hiss
    cases hiss
  have hneS : T.aS ≠ a := fun z9 => by
    rw [z9, hcell] at hcellS
    have e8 := Option.some.inj hcellS
    rw [← e8] at heS
    have e9 : (freshCell cX kX).vm = cellS0.vm := by
      have e6 := congrArg Cell.vm heS
      exact e6
    rw [← e9] at hiss
    have e7 : (freshCell cX kX).vm.isStatics = false := rfl
    rw [e7] at hiss
    cases hiss
  obtain ⟨iM, hffM⟩ := Y.msg
  obtain ⟨tyC, dC, hdC, hdnC⟩ := Cond.laysAt hfoundX hk Y.cause (a' (.lays ocls Bundle.tN "cause" "Ljava/lang/Throwable;") (by simp [vn_at]))
  obtain ⟨tyS, dS, hdS, hdnS⟩ := Cond.laysAt hfoundX hk Y.stack (a' (.lays ocls Bundle.tN "stackTrace" Bundle.steD) (by simp [vn_at]))
  obtain ⟨tyP, dP, hdP, hdnP⟩ := Cond.laysAt hfoundX hk Y.supp (a' (.lays ocls Bundle.tN "suppressedExceptions" Bundle.listD) (by simp [vn_at]))
  obtain ⟨tyM, dM, hdM, hdnM⟩ := Cond.laysAt hfoundX hk hffM (a' (.lays ocls Bundle.tN "detailMessage" "Ljava/lang/String;") (by simp [vn_at]))
  obtain ⟨tyB, dB, hdB, hdnB⟩ := Cond.laysAt hfoundX hk hffB (a' (.lays ocls Bundle.tN "backtrace" "Ljava/lang/Object;") (by simp [vn_at]))
  have bC := Cond.laysApart hdB hdC hdnB hdnC (by rw [hnB, Y.causeName]; decide)
  have bS := Cond.laysApart hdB hdS hdnB hdnS (by rw [hnB, Y.stackName]; decide)
  have bP := Cond.laysApart hdB hdP hdnB hdnP (by rw [hnB, Y.suppName]; decide)
  have hskip : SkipFacts T e.platform s (fun u => u) u0 ((preparedCellV T.toThrowableT (freshCell cX kX) a u0 sen).withEntry W.cur) :=
    ⟨{ ci198 := ci198, i198 := i198, fBack := fB }, ⟨hk198, hg198, ha198, hsB⟩, by
      have := fresh_default (c := cX) tyB
      rw [htB] at this
      simpa [preparedCellV, Cell.setSlot, Cell.withEntry, Array.getElem?_setIfInBounds, bC, bS, bP, bC.symm, bS.symm, bP.symm, defaultValue] using this, fun _ _ => rfl⟩
  obtain ⟨tm, methC, cdC, kC, vm₁, hnC, -, -, -, -, -, -, -, hW₁, st1⟩ := Steps.initColdS (tb := p.tables) (e := e) (below := below) (s := s) (U := W) X.here hexec X.warmed hpl hown (t := Bundle.initS cls) rfl rfl (Bundle.fit_spec hcls).2
    (a' (.methodLink own ic (Bundle.initS cls)) (by simp [vn_at])) (h (.instanceMethod (Bundle.initS cls)) (by cases names <;> simp [vn_at, Bundle.chainSAtoms, Bundle.passSAtoms])) (bytes := Bundle.six) (maxL := 2) (h (.code (Bundle.initS cls) Bundle.six 2 none) (by cases names <;> simp [vn_at, Bundle.chainSAtoms, Bundle.passSAtoms]))
    (f := g) hg (a := a) (msg := msg) (rest := rest) hstack hd6
  cases Option.some.inj (hnC.symm.trans hP1m)
  have X₁ := X.noted hW₁
  obtain ⟨vm₂, X₂, st2⟩ := X₁.ctorMessageOffV hexec (g := { g with stack := rest }) hg hsize T L Z LZ M LM (P1 :: Ps)
    (fun P hP => by rcases List.mem_cons.mp hP with rfl | hP; exact L1; exact hL P hP) ⟨hlink1, hlink⟩ (u0 := u0) (sen := sen) (self := a) hmsg (cell := freshCell cX kX) (cellS := cellS)
    hcell (fun _ => by simp) (by simp) rfl rfl hsel0 hselF hcellS hneS hknownS (by rw [hkeep _ (hout' _)]; exact hu0) (by rw [hkeep _ (hout' _)]; exact hsen)
    (Takes.of_laid hk hord tyC (by rw [Y.causeType]; rfl)) (Takes.of_laid hk hord tyS (by rw [Y.stackType]; exact fits_refV_array _ u0)) (Takes.of_laid hk hord tyP (by rw [Y.suppType]; exact fits_refV_object _ sen))
    (Takes.of_laid hk hord tyM (by rw [Y.msgType]; exact fits_refV_object _ ⟨msg, hmsg⟩)) Y.objLocals hskip htr [] hd6
    (by simp only [List.length_cons, hlen]; omega) (by simp only [List.length_cons, hlen]; exact hRlocals)
  have hlt : a < ((W.setVm vm₁).setVm vm₂).heap.size := (Array.getElem?_eq_some_iff.mp hcell).1
  refine ⟨(W.setVm vm₁).setVm vm₂, _, _, X₂, fun y hy => ?_, hlt, rfl, rfl, fun target hwalk => st1 _ (fun acts => ?_)⟩
  · simp only [List.mem_cons, List.not_mem_nil, or_false] at hy
    rcases hy with rfl | rfl | rfl | rfl | rfl <;> rfl
  · rw [doInvoke_state]
    exact st2 _ hwalk
end VNSE
abbrev R_NSE : String := "java/util/NoSuchElementException"
abbrev c_NSE : ByteArray := prog_37_method_4_code
def y_NSE : MethodName := ⟨"java/util/NoSuchElementException", "<init>", "(Ljava/lang/String;)V"⟩
theorem d_NSE_0 : decode c_NSE 0 = .ok (.aload_n 0, 1) := by decide +kernel
theorem d_NSE_1 : decode c_NSE 1 = .ok (.aload_n 1, 1) := by decide +kernel
theorem d_NSE_2 : decode c_NSE 2 = .ok (.invokespecial 13, 3) := by decide +kernel
theorem d_NSE_5 : decode c_NSE 5 = .ok (.return_, 1) := by decide +kernel
abbrev rm_NSE : Room := { frames := 5, cells := 0, slots := 0, locals := 68 }
def PcN (E : ET) (a cX : Nat) (kX : Class) (U : State) : Prop := U.heap[a]? = some (freshCell cX kX) ∧ U.vm.findClass R_NSE = some cX ∧ (∃ k : Class, U.vm.classes[cX]? = some k ∧ freshCell cX k = freshCell cX kX) ∧ E.2 0 ≤ a ∧ ST E U
theorem at_NSE : ∀ w ∈ (vn_at R_NSE 13 "java/lang/RuntimeException" R_NSE ["java/lang/Exception"]).filter vx_no, w ∈ lw_all ∨ w ∈ xtL R_NSE := atr _ _ [39, 507, 516, 524, 527, 529, 508, 509, 62, 63, 510, 515, 525, 545, 497, 546, 499, 547, 501, 511, 513, 503, 541, 542, 544, 503, 535, 536, 537, 538, 538, 539, 540, 541, 747, 735, 737, 523, 738, 739, 740, 741, 506, 505, 742] (by decide +kernel) (by decide +kernel)
theorem nw_inst : Cond.instantiable R_NSE 6 ∈ lw_all := lw3 230 (by decide +kernel) rfl
theorem nw_im : Cond.instanceMethod y_NSE ∈ lw_all := lw4 0 (by decide +kernel) rfl
theorem nw_code : Cond.code y_NSE c_NSE 2 none ∈ lw_all := lw4 1 (by decide +kernel) rfl
theorem nw_link : Cond.methodLink RX10 159 y_NSE ∈ lw_all := lw3 239 (by decide +kernel) rfl
theorem vn_bf {E : ET} {s : State} {args : Array Value} {A : Nat → Prop} (ha : ∀ w ∈ lw_all, w.before args s = true) (hst : ST E s) (hz : ∀ q, A q → E.2 0 ≤ q) : ∀ w ∈ vn_at R_NSE 13 "java/lang/RuntimeException" R_NSE ["java/lang/Exception"], w.before args s = true := by
  refine vx_own (fun w hw => ?_) (vx_isRefq (hst.zu (A := A) hz).1) (vx_isRefq (hst.zn (A := A) hz).1) (hst.zu (A := A) hz).2.word (hst.zn (A := A) hz).2.word
  rcases at_NSE w hw with h | h
  · exact ha _ h
  · exact xt_bf hst cs_NoSuchElementException h
theorem k_NSE (l : Launch) (hlt : l.stackTraces = false) (E : ET) (a sa cX : Nat) (kX : Class) : Met l y_NSE (mws y_NSE c_NSE 2 none) rm_NSE (va_Pc [.ref a, .ref sa] (PcN E a cX kX)) (va_Qv (fun (_ : Unit) => True) (fun _ t => ∃ ce : Cell, t.heap[a]? = some ce ∧ ce.vm = .none ∧ ce.cls = cX) (fun q => q = a)) 0 0 (fun q => q = a) := by
  refine mk_W (b := c_NSE) (n := 2) (r := none) (by decide +kernel) rfl ?_
  intro p e s m args below meth c s₁ B hml hv
  obtain ⟨rfl, hcell, hfX, ⟨k9, hkX, hfc⟩, hz0, hst⟩ := hv
  rw [← hfc] at hcell
  have hts := atoms_spec (ws := mws y_NSE c_NSE 2 none) B.pre
  have ha : ∀ w ∈ lw_all, w.before #[Value.ref a, Value.ref sa] s = true := fun w h => hts w (List.mem_cons_of_mem _ h)
  have hx := B.exec
  have hb := B.bytes
  rw [lg_entry_eq]
  have hl := lv_entry (n := 2) [Value.ref a, Value.ref sa] (Nat.le_of_ble_eq_true rfl)
  generalize (lg_sl [Value.ref a, Value.ref sa] ++ List.replicate (2 - (lg_sl [Value.ref a, Value.ref sa]).length) Slot.unset).toArray = ls at hl ⊢
  refine lv_aload_n hx hb d_NSE_0 rfl (lv_at hl 0 rfl) ?_
  refine lv_aload_n hx hb d_NSE_1 rfl (lv_at hl 1 rfl) ?_
  intro T hT X
  have htr : e.platform.stackTraces = false := (show e.platform.stackTraces = l.stackTraces by rw [X.admits.platform]).trans hlt
  obtain ⟨V, ce, L, Z, hL, hlt9, hcl9, hvm9, st⟩ := vn_ctor X hx htr (own := R_NSE) (cls := "java/lang/RuntimeException") (ocls := R_NSE) (names := ["java/lang/Exception"]) (ic := 13) (findClass_of_methodNamed B.named) (by decide) (fun n hn => ft_x n (List.mem_cons_of_mem _ hn)) (vn_bf (A := fun q => q = a) ha hst (fun q h => by rw [h]; exact hz0)) (fun x hx => nomatch hx) hfX hkX (by rw [hT]; exact hcell) (msg := .ref sa) rfl
    (g := F0 m 2 ls [.ref sa, .ref a]) rfl (hl.1.trans hml.symm) (rest := []) rfl (by rw [hb]; exact d_NSE_2) (Nat.le_of_ble_eq_true rfl) (Nat.le_of_ble_eq_true rfl)
  obtain ⟨f1, f2⟩ := vx_frame Z.same
  have hh : (V.setCell a ce).heap[a]? = some ce := heapAt_setCell_self (s := V) ce hlt9
  have kk := W.vret (p := p) (l := l) (e := e) (R := rm_NSE) (s := s) (m := m) (args := #[Value.ref a, Value.ref sa]) (below := below) (meth := meth) (c := c) (H := (V.setCell a ce).heap) (locs := [] ++ L) (cells := 0) (slots := 0) (cc := c_NSE) (ls := ls) (Qc := va_Qv (fun (_ : Unit) => True) (fun _ t => ∃ ce : Cell, t.heap[a]? = some ce ∧ ce.vm = .none ∧ ce.cls = cX) (fun q => q = a)) (free := fun q => q = a) hx hb B.returns (fun t ht hW => ⟨⟨(), rfl, trivial, ce, by rw [ht]; exact hh, hvm9, hcl9⟩, by rw [ht]; exact f1, fun q h1 h2 => by rw [ht]; exact f2 q h1 (fun z hz e9 => h2 (by rw [← e9]; exact hL z (by simpa using hz)))⟩) (fun z hz => hL z (by simpa using hz)) d_NSE_5 B.notSynchronized
  obtain ⟨t, a1, b1⟩ := kk _ rfl Z
  exact ⟨t, st _ a1, b1⟩
theorem vn_blind {av : List Value} {E : ET} {a cX : Nat} {kX : Class} : FrameBlind (va_Pc av (PcN E a cX kX)) := by
  intro a U g mk h
  obtain ⟨h0, h1, h2, h3, h4, h5⟩ := h
  exact ⟨h0, h1, h2, h3, h4, h5.same rfl rfl⟩
section VTHN
variable {p : Program} {l : Launch} {e : Env} {R : Room} {s : State} {m : MethodId} {args : Array Value} {below : List Frame} {meth : Method} {c : Code} {H : Heap} {locs : List Loc} {mc ms cells slots : Nat} {pc : Nat} {ls : Array Slot} {A : Nat → Prop} {E : ET} {L' : List va_W} {cc : ByteArray} {Q : State → Prop} {rest : List Value} {Qc : Array Value → State → Outcome → State → Prop}
theorem vn_athrow (hexec : p.tables.exec = Jvm.exec) (hb : c.code = cc) {q : Addr} (hdg : decode cc pc = .ok (.athrow, 1)) (k : vx_W p l e R s m args below meth c H locs cells slots Q (F0 m pc ls rest) q) : W p l e R s m args below meth c H locs cells slots Q (F0 m pc ls (.ref q :: rest)) := by
  intro T hT X
  obtain ⟨t, st, hq⟩ := k T hT X
  refine ⟨t, ?_, hq⟩
  have hdg' : decode c.code pc = .ok (.athrow, 1) := by rw [hb]; exact hdg
  jvm_step X.here [X.here.top, hexec, hdg', athrow.wp_sem]
  exact st
theorem vn_ldcW (hexec : p.tables.exec = Jvm.exec) (hb : c.code = cc) {own tx : String} {index q : Nat} (hown : s.vm.findClass own = some m.cls) (hZ : vk_R own index tx q s) (hdg : decode cc pc = .ok (.ldc_w index, 3))
    (k : W p l e R s m args below meth c H locs cells slots Q (F0 m (pc + 3) ls (.ref q :: rest))) : W p l e R s m args below meth c H locs cells slots Q (F0 m pc ls rest) := by
  intro T hT X
  obtain ⟨t, a1, b1⟩ := k T hT X
  exact ⟨t, X.ldcStringW hexec hown (text := tx) (a := q) hZ.1 hZ.2 (g := F0 m pc ls rest) rfl (by rw [hb]; exact hdg) t a1, b1⟩
theorem vn_new (hexec : p.tables.exec = Jvm.exec) (hb : c.code = cc) {own cls : String} {ik : Nat} (hown : s.vm.findClass own = some m.cls) (hk : (Cond.classLink own ik cls).before args s = true) (hini : (Cond.initialized cls).before args s = true) (hins : (Cond.instantiable cls 6).before args s = true) (d0 : decode cc pc = .ok (.new ik, 3)) (hRc : cells + 1 ≤ R.cells) (hRs : slots + 6 ≤ R.slots)
    (kk : ∀ (cX : ClassId) (kX : Class) (H1 : Heap), s.vm.findClass cls = some cX → s.vm.classes[cX]? = some kX → H1[H.size]? = some (freshCell cX kX) → H1.size = H.size + 1 → (∀ q : Nat, q < H.size → H1[q]? = H[q]?) → W p l e R s m args below meth c H1 locs (cells + 1) (slots + 6) Q (F0 m (pc + 3) ls (.ref H.size :: rest))) : W p l e R s m args below meth c H locs cells slots Q (F0 m pc ls rest) := by
  intro T hT X
  subst hT
  obtain ⟨vm₁, cX, kX, hfX, hkX, -, -, X₁, st1⟩ := X.newCold hexec (own := own) (C := cls) (index := ik) (n := 6) hown hk hins hini
    (g := F0 m pc ls rest) rfl (by rw [hb]; exact d0) hRc hRs
  have hpu : ((T.setVm vm₁).pushCell { cls := cX, slots := kX.instanceTypes.map defaultValue, vm := .none }).heap = T.heap.push { cls := cX, slots := kX.instanceTypes.map defaultValue, vm := .none } := rfl
  obtain ⟨t, a1, b1⟩ := kk cX kX ((T.setVm vm₁).pushCell { cls := cX, slots := kX.instanceTypes.map defaultValue, vm := .none }).heap hfX hkX (by rw [hpu]; exact Array.getElem?_push_size) (by rw [hpu]; exact Array.size_push _) (fun q hq => by rw [hpu, Array.getElem?_push, if_neg (Nat.ne_of_lt hq)]) _ rfl X₁
  exact ⟨t, st1 _ a1, b1⟩
theorem en_thN {α : Type} {ro : α ⊕ String} {own text : String} {ik is ic sa n : Nat} (hQ : Q = vx_MQ below Qc (XW E A ro L') args s mc ms A) (hx : p.tables.exec = Jvm.exec) (hb : c.code = cc) (hl : l.stackTraces = false) (ha : ∀ w ∈ lw_all, w.before args s = true) (hst : ST E s) (hz : ∀ q, A q → E.2 0 ≤ q) (hA : ∀ q, s.heap.size ≤ q → A q) (hml : c.maxLocals = n) (hls : ls.size = n)
    (hown : s.vm.findClass own = some m.cls) (hk : Cond.classLink own ik R_NSE ∈ lw_all) (hsr : (own, is, text, sa) ∈ srL E) (hlk : Cond.methodLink own ic y_NSE ∈ lw_all)
    (d0 : decode cc pc = .ok (.new ik, 3)) (d3 : decode cc (pc + 3) = .ok (.dup, 1)) (d4 : decode cc (pc + 4) = .ok (.ldc is, 2)) (d6 : decode cc (pc + 6) = .ok (.invokespecial ic, 3)) (d9 : decode cc (pc + 9) = .ok (.athrow, 1))
    (hexc : ∀ x ∈ c.exceptionTable.toList, False) (hRf : 6 ≤ R.frames) (hRl : 89 ≤ R.locals) (hRc : cells + 1 ≤ R.cells) (hRs : slots + 6 ≤ R.slots) (hlocks : meth.locks = false) (hc : cells + 1 ≤ mc) (hs : slots + 6 ≤ ms)
    (hP : va_P E.1 vwCl L'.flatten H) (hD : va_D A L'.flatten) (hS : va_S A s.heap H locs) (hro : ro = .inr R_NSE) :
    W p l e R s m args below meth c H locs cells slots Q (F0 m pc ls []) := by
  rw [hQ]
  refine vn_new hx hb hown (ha _ hk) (ha _ iw_NoSuchElementException) (ha _ nw_inst) d0 hRc hRs (fun cX kX H1 hfX hkX hc1 hsz hkp => ?_)
  have hP1 : va_P E.1 vwCl L'.flatten H1 := P_iff.mpr (fun q hq => (P_iff.mp hP q hq).kept (hkp _ (P_iff.mp hP q hq).lt))
  have hS1 : va_S A s.heap H1 locs := ⟨by rw [hsz]; exact Nat.le_succ_of_le hS.1, fun q a b => (hkp q (Nat.lt_of_lt_of_le a hS.1)).trans (hS.2.1 q a b), hS.2.2⟩
  have hAz : A H.size := hA _ hS.1
  refine lv_dup hx hb d3 rfl ?_
  refine va_ldcS hx hb hown (hst.sr hsr) d4 ?_
  refine va_callv (va_runI (As := [.ref sa]) (rest := [.ref H.size]) ⟨hx, hb, hml, hown, ha⟩ (k_NSE l hl E H.size sa cX kX) (cwI 1 ha (gi_B (fun _ h => h) nw_code) rfl rfl rfl (ha _ iw_NoSuchElementException) (ha _ hlk) (ha _ nw_im) rfl (by decide +kernel) ⟨hRf, hRl⟩) ⟨vn_blind, fun U hU hW => ⟨rfl, by rw [hU]; exact hc1, by rw [hW.alike.findClass]; exact hfX, ?_, hz _ hAz, hst.go hW (fun a h1 h2 => by rw [hU]; exact hS1.2.1 a h1 (fun h => h2 (hz a h)))⟩⟩ rfl rfl hls rfl (Nat.le_of_ble_eq_true rfl) d6 ⟨hRc, hRs⟩) hS1 (fun q _ h => by rw [h]; exact hAz) (fun q h => by rw [h]; exact hAz) (fun u t H2 locs2 ht hvm hw hB hz1 hk1 hS2 => ?_)
  · obtain ⟨k', hk', he⟩ := hW.alike.2.2 _ _ hkX
    exact ⟨k', hk', by rw [he]⟩
  obtain ⟨ce, h1, h2, h3⟩ := hB
  rw [ht] at h1
  have hP2 : va_P E.1 vwCl L'.flatten H2 := P_iff.mpr (fun q hq => (P_iff.mp hP1 q hq).kept (hk1 _ (P_iff.mp hP1 q hq).lt (Nat.ne_of_lt (P_iff.mp hP q hq).lt)))
  refine vn_athrow hx hb d9 ?_
  exact vx_out (fun x hx => (hexc x hx).elim) hlocks h1 h2 (by rw [h3]; exact hfX) (fun t ht _ => ⟨(), trivial, ⟨hro, by rw [ht]; exact hP2, hD⟩, hS2.F ht⟩) hS2.2.2 hc hs
theorem en_thWN {α : Type} {ro : α ⊕ String} {own text : String} {ik is ic sa n : Nat} (hQ : Q = vx_MQ below Qc (XW E A ro L') args s mc ms A) (hx : p.tables.exec = Jvm.exec) (hb : c.code = cc) (hl : l.stackTraces = false) (ha : ∀ w ∈ lw_all, w.before args s = true) (hst : ST E s) (hz : ∀ q, A q → E.2 0 ≤ q) (hA : ∀ q, s.heap.size ≤ q → A q) (hml : c.maxLocals = n) (hls : ls.size = n)
    (hown : s.vm.findClass own = some m.cls) (hk : Cond.classLink own ik R_NSE ∈ lw_all) (hsr : (own, is, text, sa) ∈ srL E) (hlk : Cond.methodLink own ic y_NSE ∈ lw_all)
    (d0 : decode cc pc = .ok (.new ik, 3)) (d3 : decode cc (pc + 3) = .ok (.dup, 1)) (d4 : decode cc (pc + 4) = .ok (.ldc_w is, 3)) (d6 : decode cc (pc + 7) = .ok (.invokespecial ic, 3)) (d9 : decode cc (pc + 10) = .ok (.athrow, 1))
    (hexc : ∀ x ∈ c.exceptionTable.toList, False) (hRf : 6 ≤ R.frames) (hRl : 89 ≤ R.locals) (hRc : cells + 1 ≤ R.cells) (hRs : slots + 6 ≤ R.slots) (hlocks : meth.locks = false) (hc : cells + 1 ≤ mc) (hs : slots + 6 ≤ ms)
    (hP : va_P E.1 vwCl L'.flatten H) (hD : va_D A L'.flatten) (hS : va_S A s.heap H locs) (hro : ro = .inr R_NSE) :
    W p l e R s m args below meth c H locs cells slots Q (F0 m pc ls []) := by
  rw [hQ]
  refine vn_new hx hb hown (ha _ hk) (ha _ iw_NoSuchElementException) (ha _ nw_inst) d0 hRc hRs (fun cX kX H1 hfX hkX hc1 hsz hkp => ?_)
  have hP1 : va_P E.1 vwCl L'.flatten H1 := P_iff.mpr (fun q hq => (P_iff.mp hP q hq).kept (hkp _ (P_iff.mp hP q hq).lt))
  have hS1 : va_S A s.heap H1 locs := ⟨by rw [hsz]; exact Nat.le_succ_of_le hS.1, fun q a b => (hkp q (Nat.lt_of_lt_of_le a hS.1)).trans (hS.2.1 q a b), hS.2.2⟩
  have hAz : A H.size := hA _ hS.1
  refine lv_dup hx hb d3 rfl ?_
  refine vn_ldcW hx hb hown (hst.sr hsr) d4 ?_
  refine va_callv (va_runI (As := [.ref sa]) (rest := [.ref H.size]) ⟨hx, hb, hml, hown, ha⟩ (k_NSE l hl E H.size sa cX kX) (cwI 1 ha (gi_B (fun _ h => h) nw_code) rfl rfl rfl (ha _ iw_NoSuchElementException) (ha _ hlk) (ha _ nw_im) rfl (by decide +kernel) ⟨hRf, hRl⟩) ⟨vn_blind, fun U hU hW => ⟨rfl, by rw [hU]; exact hc1, by rw [hW.alike.findClass]; exact hfX, ?_, hz _ hAz, hst.go hW (fun a h1 h2 => by rw [hU]; exact hS1.2.1 a h1 (fun h => h2 (hz a h)))⟩⟩ rfl rfl hls rfl (Nat.le_of_ble_eq_true rfl) d6 ⟨hRc, hRs⟩) hS1 (fun q _ h => by rw [h]; exact hAz) (fun q h => by rw [h]; exact hAz) (fun u t H2 locs2 ht hvm hw hB hz1 hk1 hS2 => ?_)
  · obtain ⟨k', hk', he⟩ := hW.alike.2.2 _ _ hkX
    exact ⟨k', hk', by rw [he]⟩
  obtain ⟨ce, h1, h2, h3⟩ := hB
  rw [ht] at h1
  have hP2 : va_P E.1 vwCl L'.flatten H2 := P_iff.mpr (fun q hq => (P_iff.mp hP1 q hq).kept (hk1 _ (P_iff.mp hP1 q hq).lt (Nat.ne_of_lt (P_iff.mp hP q hq).lt)))
  refine vn_athrow hx hb d9 ?_
  exact vx_out (fun x hx => (hexc x hx).elim) hlocks h1 h2 (by rw [h3]; exact hfX) (fun t ht _ => ⟨(), trivial, ⟨hro, by rw [ht]; exact hP2, hD⟩, hS2.F ht⟩) hS2.2.2 hc hs
end VTHN
