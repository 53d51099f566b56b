/-! THROWS: the making of an exception and its leaving the method, contracts of methods that throw, a caller that catches -/
def xOff (l : Launch) : Prop := ∀ e : Env, l.admits e → e.platform.stackTraces = false
abbrev xRt : String := "java/lang/RuntimeException"
abbrev xEx : String := "java/lang/Exception"
def xOwn (own : String) (ic : Nat) (X : String) : List Cond :=
  [.methodLink own ic (Bundle.initS X), .instantiable X 6, .selects X Bundle.tFill0 Bundle.tFill0, .selects X Bundle.tFill Bundle.tFill,
   .lays X Bundle.tN "cause" "Ljava/lang/Throwable;", .lays X Bundle.tN "stackTrace" Bundle.steD, .lays X Bundle.tN "suppressedExceptions" Bundle.listD, .lays X Bundle.tN "detailMessage" "Ljava/lang/String;",
   .fieldLink Bundle.tN 198 Bundle.tN "backtrace" "Ljava/lang/Object;", .lays Bundle.tN Bundle.tN "backtrace" "Ljava/lang/Object;", .lays X Bundle.tN "backtrace" "Ljava/lang/Object;"]
/-- the words that a throw of X wants, where own's constant ic is X's constructor, which passes on by its constant i -/
def xWords (own : String) (ic : Nat) (X : String) (i : Nat) (b : ByteArray) : List Cond :=
  Bundle.throwableAtoms ++ (Bundle.throwableSAtoms ++ (Bundle.passSAtoms X xRt i b ++ (Bundle.passSAtoms xRt xEx 7 Bundle.six ++ (Bundle.passSAtoms xEx Bundle.tN 7 Bundle.six ++
  xOwn own ic X))))
section QX
variable {p : Program} {l : Launch} {e : Env} {R : Room} {s : State} {m : MethodId} {args : Array Value} {below : List Frame} {meth : Method} {c : Code} {T : State} {locs : List Loc} {cells slots : Nat} {A : Nat → Prop}
/-- a static of Throwable, where the walk stands now -/
theorem x_static {n d : String} {v : Value} {cT : ClassId} {kT : Class} {fi : Nat} {f : Field} {aS : Nat} {cellS0 : Cell} (hZ : va_Z Bundle.tN n d v A s s.heap) (hf : s.fieldFound? Bundle.tN n d = some (cT, kT, fi, f)) (ha : kT.statics = some aS) (hc0 : s.heap[aS]? = some cellS0) {H : Heap} (hS : va_S A s.heap H locs) : H[aS]? = some cellS0 ∧ cellS0.slots[f.slot]? = some v := by
  obtain ⟨cf, kf, fi', f', a, cell, h1, h2, h3, h4, h5, h6, h7, h8⟩ := hZ
  cases h1.symm.trans hf
  cases h4.symm.trans ha
  cases h5.symm.trans hc0
  exact ⟨by rw [hS.2.1 _ (Array.getElem?_eq_some_iff.mp hc0).1 h8]; exact hc0, h7⟩
set_option maxHeartbeats 2000000 in
theorem x_make (X : Stand p l e R s m args below meth c T locs cells slots) (hexec : p.tables.exec = Jvm.exec) (htr : e.platform.stackTraces = false) {own cls : String} {ic i : Nat} {b : ByteArray} (hown : s.vm.findClass own = some m.cls)
    (hcls : plainName cls = true ∧ cls ≠ "java/lang/invoke/MethodHandle" ∧ cls ≠ "java/lang/invoke/VarHandle")
    (hb0 : decode b 0 = .ok (.aload_n 0, 1)) (hb1 : decode b 1 = .ok (.aload_n 1, 1)) (hb2 : decode b 2 = .ok (.invokespecial i, 3)) (hb5 : decode b 5 = .ok (.return_, 1))
    (hw : ∀ w ∈ xWords own ic cls i b, w.before args s = true) (u0 sen : RefV) (hZu : va_Z Bundle.tN "UNASSIGNED_STACK" Bundle.steD u0.v A s s.heap) (hZs : va_Z Bundle.tN "SUPPRESSED_SENTINEL" Bundle.listD sen.v A s s.heap) (hS : va_S A s.heap T.heap locs)
    {a : Addr} {cX : ClassId} {kX : Class} (hfX : s.vm.findClass cls = some cX) (hkX : s.vm.classes[cX]? = some kX) (hcell : T.heap[a]? = some (freshCell cX kX)) (hnew : s.heap.size ≤ a)
    {msg : Value} (hmsg : msg.isRef = true) {g : JFrame} (hg : g.method = m) (hsize : g.locals.size = c.maxLocals) {rest : List Value} (hstack : g.stack = msg :: .ref a :: rest)
    (hd : decode c.code g.pc = .ok (.invokespecial ic, 3)) (hRf : 5 < R.frames) (hRl : 2 * g.monitorRoom + (rest.map fun v => v.category).sum + 81 ≤ R.locals) :
    ∃ (vm' : Vm) (ce : Cell) (L : List Loc), Stand p l e R s m args below meth c ((T.setVm vm').setCell a ce) (locs ++ L) cells slots ∧ ce.cls = cX ∧ ce.vm = .none ∧ (∀ q ∈ L, q.base = a) ∧
      ∀ target, Steps p.tables e below (((T.setVm vm').setCell a ce).setTop { g with pc := g.pc + 3, stack := rest }) target → Steps p.tables e below (T.setTop g) target := by
  have howns : e.platform.frameOwnsMonitors = true := by rw [X.admits.platform]
  have hfin : e.platform.finalization = false := by rw [X.admits.platform]
  have hpl : e.platform.magicAccessors = ({} : Platform).magicAccessors := by rw [X.admits.platform]
  have w1 : ∀ w ∈ Bundle.throwableAtoms, w.before args s = true := fun w h => hw w (List.mem_append_left _ h)
  have hw2 : ∀ w ∈ Bundle.throwableSAtoms, w.before args s = true := fun w h => hw w (List.mem_append_right _ (List.mem_append_left _ h))
  have hw3 : ∀ w ∈ Bundle.passSAtoms cls xRt i b, w.before args s = true := fun w h => hw w (List.mem_append_right _ (List.mem_append_right _ (List.mem_append_left _ h)))
  have hw4 : ∀ w ∈ Bundle.passSAtoms xRt xEx 7 Bundle.six, w.before args s = true := fun w h => hw w (List.mem_append_right _ (List.mem_append_right _ (List.mem_append_right _ (List.mem_append_left _ h))))
  have hw5 : ∀ w ∈ Bundle.passSAtoms xEx Bundle.tN 7 Bundle.six, w.before args s = true := fun w h => hw w (List.mem_append_right _ (List.mem_append_right _ (List.mem_append_right _ (List.mem_append_right _ (List.mem_append_left _ h)))))
  have hw6 : ∀ w, w ∈ xOwn own ic cls → w.before args s = true := fun w h => hw w (List.mem_append_right _ (List.mem_append_right _ (List.mem_append_right _ (List.mem_append_right _ (List.mem_append_right _ h)))))
  obtain ⟨Th, Z0, L, -, Y⟩ := ThrowableC.of_atoms (args := args) howns hfin hpl w1
  obtain ⟨Z, M, LZ, LM, hnZ⟩ := Init0T.ofS_atoms (args := args) hpl L Y hw2
  obtain ⟨P1, L1, n1, s1⟩ := PassC.ofS_atoms (args := args) hpl hcls.1 (by decide) hb0 hb1 hb2 hb5 hw3
  obtain ⟨P2, L2, n2, s2⟩ := PassC.ofS_atoms (args := args) hpl (X := xRt) (Y := xEx) (by decide) (by decide) (by decide +kernel) (by decide +kernel) (by decide +kernel) (by decide +kernel) hw4
  obtain ⟨P3, L3, n3, s3⟩ := PassC.ofS_atoms (args := args) hpl (X := xEx) (Y := Bundle.tN) (by decide) (by decide) (by decide +kernel) (by decide +kernel) (by decide +kernel) (by decide +kernel) hw5
  have e12 : P1.sup = P2.m := Option.some.inj (s1.symm.trans n2)
  have e23 : P2.sup = P3.m := Option.some.inj (s2.symm.trans n3)
  have e3Z : P3.sup = Z.m Th.toThrowableT := Option.some.inj (s3.symm.trans hnZ)
  have hfound : s.vm.findClass cls = some P1.m.cls := findClass_of_methodNamed n1
  cases Option.some.inj (hfX.symm.trans hfound)
  obtain ⟨c1, kX', hc1, hk, hord, -, -, hn6⟩ := Cond.instantiable_spec (hw6 (.instantiable cls 6) (by simp [xOwn]))
  cases Option.some.inj (hc1.symm.trans hfound)
  cases Option.some.inj (hkX.symm.trans hk)
  have hsel0 : selectMethod e.platform s.vm P1.m.cls Th.fill0 = .method Th.fill0 := by
    obtain ⟨c2, r2, m2, q1, q2, q3, q4, -⟩ := Cond.selects_spec (hw6 (.selects cls Bundle.tFill0 Bundle.tFill0) (by simp [xOwn]))
    cases Option.some.inj (q1.symm.trans hfound)
    cases Option.some.inj (q2.symm.trans (State.methodFound?_of_named Y.fill0 (by decide)))
    cases Option.some.inj (q3.symm.trans Y.fill0)
    rw [Launch.admits_selectMethod X.admits]; exact q4
  have hselF : selectMethod e.platform s.vm P1.m.cls Th.fill = .method Th.fill := by
    obtain ⟨c2, r2, m2, q1, q2, q3, q4, -⟩ := Cond.selects_spec (hw6 (.selects cls Bundle.tFill Bundle.tFill) (by simp [xOwn]))
    cases Option.some.inj (q1.symm.trans hfound)
    cases Option.some.inj (q2.symm.trans (State.methodFound?_of_named Y.fill (by decide)))
    cases Option.some.inj (q3.symm.trans Y.fill)
    rw [Launch.admits_selectMethod X.admits]; exact q4
  obtain ⟨cellS0, hcS0, hiss⟩ := Y.statics
  obtain ⟨hcellS, hvU⟩ := x_static hZu Y.unassigned L.statics hcS0 hS
  obtain ⟨-, hvS⟩ := x_static hZs Y.sentinel L.statics hcS0 hS
  obtain ⟨ci8, i8, fB, hk8, hg8, ha8, hsB, -, hnB, htB, hffB⟩ := Cond.ownField (t := .object "java/lang/Object") Y.found L.cls (by decide +kernel) (hw6 (.fieldLink Bundle.tN 198 Bundle.tN "backtrace" "Ljava/lang/Object;") (by simp [xOwn])) (hw6 (.lays Bundle.tN Bundle.tN "backtrace" "Ljava/lang/Object;") (by simp [xOwn])) e.platform hpl
  have hknownS : cellS0.vm ≠ .unknown := fun z => by rw [z] at hiss; cases hiss
  have hneS : Th.aS ≠ a := Nat.ne_of_lt (Nat.lt_of_lt_of_le (Array.getElem?_eq_some_iff.mp hcS0).1 hnew)
  obtain ⟨iM, hffM⟩ := Y.msg
  obtain ⟨tyC, dC, hdC, hdnC⟩ := Cond.laysAt hfound hk Y.cause (hw6 (.lays cls Bundle.tN "cause" "Ljava/lang/Throwable;") (by simp [xOwn]))
  obtain ⟨tyS, dS, hdS, hdnS⟩ := Cond.laysAt hfound hk Y.stack (hw6 (.lays cls Bundle.tN "stackTrace" Bundle.steD) (by simp [xOwn]))
  obtain ⟨tyP, dP, hdP, hdnP⟩ := Cond.laysAt hfound hk Y.supp (hw6 (.lays cls Bundle.tN "suppressedExceptions" Bundle.listD) (by simp [xOwn]))
  obtain ⟨tyM, dM, hdM, hdnM⟩ := Cond.laysAt hfound hk hffM (hw6 (.lays cls Bundle.tN "detailMessage" "Ljava/lang/String;") (by simp [xOwn]))
  obtain ⟨tyB, dB, hdB, hdnB⟩ := Cond.laysAt hfound hk hffB (hw6 (.lays cls Bundle.tN "backtrace" "Ljava/lang/Object;") (by simp [xOwn]))
  have bC := Cond.laysApart hdB hdC hdnB hdnC (by rw [hnB, Y.causeName]; decide)
  have bS := Cond.laysApart hdB hdS hdnB hdnS (by rw [hnB, Y.stackName]; decide)
  have bP' := Cond.laysApart hdB hdP hdnB hdnP (by rw [hnB, Y.suppName]; decide)
  have hskip : SkipFacts Th e.platform s (fun u => u) u0 ((preparedCellV Th.toThrowableT (freshCell P1.m.cls kX) a u0 sen).withEntry T.cur) :=
    ⟨{ ci198 := ci8, i198 := i8, fBack := fB }, ⟨hk8, hg8, ha8, hsB⟩, by
      have hz := fresh_default (c := P1.m.cls) tyB
      rw [htB] at hz
      simpa [preparedCellV, Cell.setSlot, Cell.withEntry, Array.getElem?_setIfInBounds, bC, bS, bP', bC.symm, bS.symm, bP'.symm, defaultValue] using hz, fun _ _ => rfl⟩
  obtain ⟨tm, methC, cdC, kC, vm₁, hnC, -, -, -, -, -, -, -, hW₁, st1⟩ := Steps.initColdS (tb := p.tables) (e := e) (below := below) (s := s) (U := T) X.here hexec X.warmed hpl hown (t := Bundle.initS cls) rfl rfl hcls.2
    (hw6 (.methodLink own ic (Bundle.initS cls)) (by simp [xOwn])) (hw3 (.instanceMethod (Bundle.initS cls)) (by simp [Bundle.passSAtoms])) (bytes := b) (maxL := 2) (hw3 (.code (Bundle.initS cls) b 2 none) (by simp [Bundle.passSAtoms]))
    (f := g) hg (a := a) (msg := msg) (rest := rest) hstack hd
  cases Option.some.inj (hnC.symm.trans n1)
  have X₁ := X.noted hW₁
  obtain ⟨vm₂, X₂, st2⟩ := X₁.ctorMessageOffV hexec (g := { g with stack := rest }) hg hsize Th L Z LZ M LM [P1, P2, P3]
    (fun P hP => by rcases List.mem_cons.mp hP with rfl | hP; exact L1; rcases List.mem_cons.mp hP with rfl | hP; exact L2; rcases List.mem_cons.mp hP with rfl | hP; exact L3; cases hP)
    ⟨e12, e23, e3Z, trivial⟩ (u0 := u0) (sen := sen) (self := a) hmsg (cell := freshCell P1.m.cls kX) (cellS := cellS0)
    hcell (fun _ => by simp) (by simp) rfl rfl hsel0 hselF hcellS hneS hknownS hvU hvS
    (Takes.of_laid hk hord tyC (by rw [Y.causeType]; rfl)) (Takes.of_laid hk hord tyS (by rw [Y.stackType]; exact fits_refV_array _ u0)) (Takes.of_laid hk hord tyP (by rw [Y.suppType]; exact fits_refV_object _ sen))
    (Takes.of_laid hk hord tyM (by rw [Y.msgType]; exact fits_refV_object _ ⟨msg, hmsg⟩)) Y.objLocals hskip htr [] hd (by simpa using hRf) (by simpa using hRl)
  refine ⟨vm₂, _, _, X₂, rfl, rfl, ?_, fun target hrest => st1 _ (fun acts => ?_)⟩
  · intro q hq
    simp only [List.mem_cons, List.not_mem_nil, or_false] at hq
    rcases hq with rfl | rfl | rfl | rfl | rfl <;> rfl
  · rw [doInvoke_state]
    exact st2 _ hrest
end QX
