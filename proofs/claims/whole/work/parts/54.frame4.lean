/-! contracts of methods that throw; the throw in a walk; entering a callee by any contract; the search for a handler; a call that is caught -/
def xQ {S : Type} (E : String) (D : va_G) (cl : List vw_C) (post : S → Prop) (w' : S → va_W) (A : Nat → Prop) : Array Value → State → Nat → State → Prop :=
  fun _ st x t => (∃ u, post u ∧ va_P D cl (w' u) t.heap ∧ va_D A (w' u)) ∧ (∃ ce : Cell, t.heap[x]? = some ce ∧ ce.vm = .none ∧ st.vm.findClass E = some ce.cls) ∧ va_F A st t
def MX (below : List Frame) (Qx : Array Value → State → Nat → State → Prop) (a : Array Value) (s : State) (mc ms : Nat) (free : Nat → Prop) : State → Prop := fun t =>
  ∃ x, t.status = .running ∧ Ended t below (.threw x) ∧ Qx a s x t ∧ s.WarmedH t.vm ∧ ∃ L : List Loc, s.sameButNew ({ t with vm := s.vm } : State) L mc ms ∧ ∀ q ∈ L, free q.base
def MetX (l : Launch) (y : MethodName) (ws : List Cond) (rm : Room) (Pc : Array Value → State → Prop) (Qx : Array Value → State → Nat → State → Prop) (mc ms : Nat) (free : Nat → Prop) : Prop :=
  MetFree l y (headSpec ws rm) Pc (fun _ _ _ _ _ => True) (fun a st o t => ∃ x, o = .threw x ∧ Qx a st x t ∧ st.WarmedH t.vm ∧ ∃ L : List Loc, st.sameButNew ({ t with vm := st.vm } : State) L mc ms ∧ ∀ q ∈ L, free q.base)
def Ctx {S : Type} (l : Launch) (y : MethodName) (wsc : List Cond) (rm : Room) (D : va_G) (cl : List vw_C) (tys : List (ClassId × FieldType)) (av : List Value) (wc : va_W) (E : String) (post : S → Prop) (w' : S → va_W) (mc ms : Nat) : Prop :=
  ∀ sz, MetX l y wsc rm (cP D cl tys av wc sz) (xQ E D cl post w' (va_A wc sz)) mc ms (va_A wc sz)
theorem Ctx_of {S : Type} {l : Launch} {y : MethodName} {wsc : List Cond} {rm : Room} {D : va_G} {cl : List vw_C} {tys : List (ClassId × FieldType)} {av : List Value} {wc : va_W} {E : String} {post : S → Prop} {w' : S → va_W} {mc ms : Nat} {cc : ByteArray} {maxL : Nat} {ret : Option FieldType} (own : String) (lv : List (Nat × Value)) (hy : plainName y.cls = true) (ho : y.cls = own) (hw : wsc = Cond.code y cc maxL ret :: lG) (hav : (lg_sl av).length ≤ maxL) (hlv : lv_args 0 av = lv)
    (body : ∀ (p : Program) (e : Env) (s : State) (m : MethodId) (args : Array Value) (below : List Frame) (meth : Method) (c : Code) (A : Nat → Prop), Fx p s m args meth c cc maxL own A D cl tys → c.exceptionTable.toList = [] → V p l e rm s m args below meth c A (MX below (xQ E D cl post w' A) args s mc ms A) D cl maxL 0 0 wc 0 lv []) : Ctx l y wsc rm D cl tys av wc E post w' mc ms := by
  intro sz
  refine MetFree.of_bodyS (code := cc) (maxLocals := maxL) (ret := ret) hy ?_ ?_
  · intro args s m h hn
    obtain ⟨meth, c, h1, h2, h3, h4, h5, h6, -, -⟩ := Cond.code_spec hn (atoms_spec (ws := wsc) h _ (by rw [hw]; exact List.mem_cons_self))
    exact ⟨meth, c, h1, h2, h3, h4, h5, h6⟩
  · intro p e s m args below meth c s₁ B hml hv _
    have hh0 : s₁.heap = s.heap := by rw [B.state]; rfl
    have hcode : (Cond.code y cc maxL ret).before args s = true := atoms_spec (ws := wsc) B.pre _ (by rw [hw]; exact List.mem_cons_self)
    have htab : c.exceptionTable.toList = [] := by
      have := B.noHandlers hcode
      rw [Array.isEmpty_iff] at this
      rw [this]
    obtain ⟨rfl, hsz, hP, hK, hD0, hE⟩ := hv
    subst hsz
    have hD := hD0.self (sz := s.heap.size)
    generalize hAe : va_A wc s.heap.size = A at hD hE ⊢
    have hA : ∀ q : Nat, s.heap.size ≤ q → A q := fun q h => by rw [← hAe]; exact Or.inr h
    have hl := lv_entry av (n := maxL) hav
    rw [hlv] at hl
    have hown : s.vm.findClass own = some m.cls := by rw [← ho]; exact findClass_of_methodNamed B.named
    have K : W p l e rm s m av.toArray below meth c s.heap [] 0 0 (MX below (xQ E D cl post w' A) av.toArray s mc ms A) (entryFrame m av.toArray maxL) := by
      rw [lg_entry_eq]
      exact body p e s m _ below meth c A ⟨⟨B.exec, B.bytes, hml, hown, fun w h => atoms_spec (ws := wsc) B.pre w (by rw [hw]; exact List.mem_cons_of_mem _ h)⟩, B.notSynchronized, hK, hA, hE⟩ htab _ _ _ hl hP hD va_S.rf
    obtain ⟨t, a1, x, b1, b2, b3, b4, L, b5, b6⟩ := K s₁ hh0 (Stand.of_body B)
    exact ⟨t, .threw x, a1, b1, b2, x, rfl, b3, b4, L, b5, b6⟩
section QY
variable {p : Program} {l : Launch} {e : Env} {R : Room} {s : State} {m : MethodId} {args : Array Value} {below : List Frame} {meth : Method} {c : Code} {A : Nat → Prop} {Q : State → Prop} {D : va_G} {cl : List vw_C} {tys : List (ClassId × FieldType)} {nL cells slots : Nat} {cc : ByteArray} {own : String} {w : va_W} {lv : List (Nat × Value)} {st : List Value} {pc : Nat}
theorem V_throw {S : Type} {post : S → Prop} {w' : S → va_W} {E tx : String} {mc ms k ki ic i : Nat} {b : ByteArray} (F : Fx p s m args meth c cc nL own A D cl tys) (hoff : xOff l) (hnt : c.exceptionTable.toList = [])
    (hE : plainName E = true ∧ E ≠ "java/lang/invoke/MethodHandle" ∧ E ≠ "java/lang/invoke/VarHandle") (hb : decode b 0 = .ok (.aload_n 0, 1) ∧ decode b 1 = .ok (.aload_n 1, 1) ∧ decode b 2 = .ok (.invokespecial i, 3) ∧ decode b 5 = .ok (.return_, 1))
    (hcl : Cond.classLink own k E ∈ lG) (hini : Cond.initialized E ∈ lG) (hins : Cond.instantiable E 6 ∈ lG) (hw : ∀ w ∈ xWords own ic E i b, w.before args s = true) (hstr : ∃ a, vk_R own ki tx a s)
    (hZ : (∃ u : RefV, va_Z Bundle.tN "UNASSIGNED_STACK" Bundle.steD u.v A s s.heap) ∧ ∃ u : RefV, va_Z Bundle.tN "SUPPRESSED_SENTINEL" Bundle.listD u.v A s s.heap)
    (d0 : decode cc pc = .ok (.new k, 3)) (d1 : decode cc (pc + 3) = .ok (.dup, 1)) (d2 : decode cc (pc + 4) = .ok (.ldc ki, 2)) (d3 : decode cc (pc + 6) = .ok (.invokespecial ic, 3)) (d4 : decode cc (pc + 9) = .ok (.athrow, 1))
    (u : S) (hp : post u) (is : List Nat) (hn : va_nd is = true) (hs : is.map (fun i => w[i]?) = (w' u).map some) (h1 : cells + 1 ≤ mc) (h2 : slots + 6 ≤ ms) (hR : 5 < R.frames ∧ 90 ≤ R.locals ∧ mc ≤ R.cells ∧ ms ≤ R.slots) :
    V p l e R s m args below meth c A (MX below (xQ E D cl post w' A) args s mc ms A) D cl nL cells slots w pc lv [] := by
  intro ls H locs hl hP hD hS
  refine W.newc F.x F.b F.o (F.ts _ hcl) (F.ts _ hins) (F.ts _ hini) rfl d0 (by omega) (by omega) (fun cC kC f1 f2 f3 f4 => ?_)
  refine lv_dup F.x F.b d1 rfl ?_
  intro T hT X
  obtain ⟨sa, hr1, hr2⟩ := hstr
  obtain ⟨⟨u0, hZu⟩, sen, hZs⟩ := hZ
  have stl := X.ldcString (g := F0 m (pc + 4) ls [.ref H.size, .ref H.size]) F.x F.o (text := tx) (index := ki) (a := sa) hr1 hr2 rfl (by rw [F.b]; exact d2)
  have hget : ∀ q : Nat, q < H.size → T.heap[q]? = H[q]? := fun q h => by rw [hT, Array.getElem?_push_lt h, Array.getElem?_eq_getElem h]
  have hself : T.heap[H.size]? = some (freshCell cC kC) := by rw [hT]; simp
  have hsz : T.heap.size = H.size + 1 := by rw [hT, Array.size_push]
  have hS' : va_S A s.heap T.heap locs := ⟨by rw [hsz]; exact Nat.le_trans hS.1 (Nat.le_succ _), fun q h z => by rw [hget q (Nat.lt_of_lt_of_le h hS.1)]; exact hS.2.1 q h z, hS.2.2⟩
  obtain ⟨vm', ce, L, X2, e1, e2, e3, st2⟩ := x_make (A := A) X F.x (hoff e X.admits) F.o hE hb.1 hb.2.1 hb.2.2.1 hb.2.2.2 hw u0 sen hZu hZs hS' f1 f2 hself hS.1 (msg := .ref sa) rfl (g := F0 m (pc + 6) ls [.ref sa, .ref H.size, .ref H.size]) rfl (hl.1.trans F.ml.symm) (rest := [.ref H.size]) rfl (by rw [F.b]; exact d3) hR.1 (by show 2 * 0 + (1 + 0) + 81 ≤ _; omega)
  obtain ⟨hwalk, hrun, hended, hwarm, hsame⟩ := X2.athrowLeaves F.x (g := F0 m (pc + 9) ls [.ref H.size]) rfl rfl rfl (fun x hx => by rw [hnt] at hx; cases hx) (a := H.size) (rest := []) rfl (by rw [F.b]; exact d4) F.lk
  have hk : ∀ q : Nat, q < H.size → (((T.setVm vm').setCell H.size ce).setFrames (.throwing H.size :: below)).heap[q]? = H[q]? := fun q h => by
    rw [endHeap T vm' ce _ (fun z => by omega)]; exact hget q h
  have hk2 : (((T.setVm vm').setCell H.size ce).setFrames (.throwing H.size :: below)).heap[H.size]? = some ce := heapAt_setCell_self (s := T.setVm vm') ce (by show H.size < T.heap.size; omega)
  have hk3 : H.size ≤ (((T.setVm vm').setCell H.size ce).setFrames (.throwing H.size :: below)).heap.size := Nat.le_of_lt (Array.getElem?_eq_some_iff.mp hk2).1
  refine ⟨_, stl _ (st2 _ hwalk), H.size, hrun, hended, ⟨⟨u, hp, ?_, hD.sub is hn hs⟩, ⟨ce, hk2, e2, by rw [e1]; exact f1⟩, ?_, ?_⟩, hwarm, locs ++ L, hsame.mono h1 h2, ?_⟩
  · exact (P_sub hP is hs).kept (fun k q hkq => hk _ ((P_sub hP is hs) k q hkq).lt)
  · exact Nat.le_trans hS.1 hk3
  · intro q hq hA
    rw [hk q (Nat.lt_of_lt_of_le hq hS.1)]
    exact hS.2.1 q hq hA
  · intro q hq
    rcases List.mem_append.mp hq with h | h
    · exact hS.2.2 q h
    · rw [e3 q h]; exact F.al _ hS.1
/-- a callee, by any contract -/
theorem x_enter {T : State} {locs : List Loc} {y : MethodName} {ws : List Cond} {rm : Room} {Pc : Array Value → State → Prop} {Qo : Array Value → State → Outcome → State → Prop} (hM : MetFree l y (headSpec ws rm) Pc (fun _ _ _ _ _ => True) Qo) (X : Stand p l e R s m args below meth c T locs cells slots) {g : JFrame} (hg : g.method = m) (hsize : g.locals.size = c.maxLocals) {ig : Instr} {len : Nat} (hdg : decode c.code g.pc = .ok (ig, len))
    {mk : MethodId} {methY : Method} {cY : Code} {kY : Class} {a : Array Value} (hn : T.methodNamed? y = some mk) (hmY : T.vm.method? mk = some methY) (hcY : methY.code = some cY) (hkY : T.vm.classes[mk.cls]? = some kY) (hini : kY.init = .initialized) (hpre : ∀ w ∈ ws, w.before a T = true) (hP : Pc a (T.calling g mk a))
    (hfr : rm.frames + 1 ≤ R.frames) (hlo : 2 * g.monitorRoom + (g.stack.map fun v => v.category).sum + (cY.maxLocals + 11) + rm.locals ≤ R.locals) (hce : cells + rm.cells ≤ R.cells) (hsl : slots + rm.slots ≤ R.slots) :
    ∃ (o : Outcome) (t : State), Steps p.tables e below (doInvoke e (T.setTop g) [] mk a).1 t ∧ Ended t (.java g :: below) o ∧ Qo a (T.calling g mk a) o t := by
  have h : At T g.method c below := by rw [hg]; exact X.here
  have happ : (headSpec ws rm).appliesLoose y e.platform (T.calling g mk a) = true := Spec.appliesLoose_calling (g := g) h hdg hn hkY hini (X.room_calling (g := g) (R' := rm) hsize hmY hcY hfr hlo hce hsl) (atoms_intro hpre)
  obtain ⟨mid, hmid⟩ := h.above
  have hfr' : (T.setTop g).frames = (.java g :: mid) ++ below := by rw [State.frames_setTop' g h.top, hmid]; rfl
  obtain ⟨o, t, hsteps, -, hend, hq⟩ := Steps.callFree hM p X.admits X.cas X.clock (acts := []) hfr' happ hP trivial
  rw [State.frames_setTop' g h.top, X.tail] at hend
  exact ⟨o, t, hsteps, hend, hq⟩
/-- the search through a table's rows from here on -/
def xGo (e : Env) (s : State) (f : JFrame) (a : Nat) (H : Heap) (tb : List ExceptionTableEntry) (h : Nat) : Prop :=
  ∀ T : State, T.heap = H → s.WarmedH T.vm → ∃ vm' : Vm, s.WarmedH vm' ∧ ∀ (Q : Handler → Pre) (E : CtlPost) (d : Bool) (acts : List Action), wp (findHandler.go f a tb) Q E e d acts T ↔ Q (.found h) d acts (T.setVm vm')
theorem x_cold {T : State} {f : JFrame} {a : Nat} {x : ExceptionTableEntry} {t : List ExceptionTableEntry} {cY : Nat} {vm' : Vm} {Q : Handler → Pre} {E : CtlPost} {d : Bool} {acts : List Action} (hx : covers x f.pc = true) (h0 : x.catchType ≠ 0)
    (hg : (Jvm.resolveClass f.method.cls x.catchType).Gives e.toSetting T.vm (.ok cY) vm') (hr : vm'.classReady f.method.cls x.catchType cY) (hsz : vm'.classes.size ≤ T.vm.classes.size) :
    wp (findHandler.go f a (x :: t)) Q E e d acts T ↔ wp (findHandler.go f a (x :: t)) Q E e d acts (T.setVm vm') := by
  obtain ⟨ha, ht⟩ := hg.op (op := VmOp.resolveClass f.method.cls x.catchType) rfl
  obtain ⟨k, hkd, hres⟩ := hr
  simp only [covers] at hx
  have hm := resolveClass_memo (vm := vm') e hkd hres
  have hl2 := VmOp.lands_eq (s := T.setVm vm') hm.2 (Nat.le_refl _)
  have hl1 := VmOp.lands_eq (s := T) ht hsz
  have hsv : (T.setVm vm').setVm vm' = T.setVm vm' := rfl
  simp [findHandler.go, hx, h0, ha, hl1, hl2, hm.1, hsv, VmOp.dirties, VmOp.acts]
theorem x_at {T : State} {own Y : String} {f : JFrame} {x : ExceptionTableEntry} (hW : s.WarmedH T.vm) (hpl : e.platform.magicAccessors = ({} : Platform).magicAccessors) (hown : s.vm.findClass own = some f.method.cls) (hl : (Cond.classLink own x.catchType Y).before args s = true) :
    ∃ (cY : Nat) (vm' : Vm), s.vm.findClass Y = some cY ∧ s.WarmedH vm' ∧ vm'.classReady f.method.cls x.catchType cY ∧ (Jvm.resolveClass f.method.cls x.catchType).Gives e.toSetting T.vm (.ok cY) vm' ∧ vm'.classes.size ≤ T.vm.classes.size := by
  obtain ⟨cY, hY, hcl⟩ := Cond.classLink_spec hown hl e.platform hpl
  obtain ⟨h1, h2, h3⟩ := State.classEntry (e := e) hW hcl
  exact ⟨cY, _, hY, h2, h3, h1, by no_record⟩
theorem x_hit {own X Y : String} {f : JFrame} {a : Nat} {H : Heap} {ce : Cell} {x : ExceptionTableEntry} {t : List ExceptionTableEntry} (hpl : e.platform.magicAccessors = ({} : Platform).magicAccessors) (hown : s.vm.findClass own = some f.method.cls) (hl : (Cond.classLink own x.catchType Y).before args s = true)
    (hx : covers x f.pc = true) (h0 : x.catchType ≠ 0) (hce : H[a]? = some ce) (hvm : ce.vm = .none) (hX : s.vm.findClass X = some ce.cls) (hC : xC X Y true s) : xGo e s f a H (x :: t) x.handlerPc := by
  intro T hT hW
  obtain ⟨cY, vm', hY, hW', hr, hg, hsz⟩ := x_at (e := e) hW hpl hown hl
  refine ⟨vm', hW', fun Q E d acts => ?_⟩
  obtain ⟨x', y', q1, q2, q3⟩ := hC
  cases q1.symm.trans hX
  cases q2.symm.trans hY
  obtain ⟨k1, hk1, -⟩ := Vm.findClass_spec hX
  obtain ⟨k2, hk2, -⟩ := Vm.findClass_spec hY
  obtain ⟨k1', hk1', -⟩ := hW'.alike.2.2 _ _ hk1
  obtain ⟨k2', hk2', -⟩ := hW'.alike.2.2 _ _ hk2
  rw [x_cold hx h0 hg hr hsz, W.findHandler_go_class (s := T.setVm vm') (cell := ce) hx h0 hr (by show T.heap[a]? = _; rw [hT]; exact hce) (fun k z => by rw [hvm] at z; cases z) ⟨k1', hk1'⟩ ⟨k2', hk2'⟩]
  rw [if_pos (by show vm'.assignable _ _ = true; rw [hW'.alike.assignable]; exact q3)]
theorem x_pass {own X Y : String} {f : JFrame} {a h : Nat} {H : Heap} {ce : Cell} {x : ExceptionTableEntry} {t : List ExceptionTableEntry} (hpl : e.platform.magicAccessors = ({} : Platform).magicAccessors) (hown : s.vm.findClass own = some f.method.cls) (hl : (Cond.classLink own x.catchType Y).before args s = true)
    (hx : covers x f.pc = true) (h0 : x.catchType ≠ 0) (hce : H[a]? = some ce) (hvm : ce.vm = .none) (hX : s.vm.findClass X = some ce.cls) (hC : xC X Y false s) (k : xGo e s f a H t h) : xGo e s f a H (x :: t) h := by
  intro T hT hW
  obtain ⟨cY, vm', hY, hW', hr, hg, hsz⟩ := x_at (e := e) hW hpl hown hl
  obtain ⟨vm2, hW2, hk⟩ := k (T.setVm vm') hT hW'
  refine ⟨vm2, hW2, fun Q E d acts => ?_⟩
  obtain ⟨x', y', q1, q2, q3⟩ := hC
  cases q1.symm.trans hX
  cases q2.symm.trans hY
  obtain ⟨k1, hk1, -⟩ := Vm.findClass_spec hX
  obtain ⟨k2, hk2, -⟩ := Vm.findClass_spec hY
  obtain ⟨k1', hk1', -⟩ := hW'.alike.2.2 _ _ hk1
  obtain ⟨k2', hk2', -⟩ := hW'.alike.2.2 _ _ hk2
  rw [x_cold hx h0 hg hr hsz, W.findHandler_go_class (s := T.setVm vm') (cell := ce) hx h0 hr (by show T.heap[a]? = _; rw [hT]; exact hce) (fun k z => by rw [hvm] at z; cases z) ⟨k1', hk1'⟩ ⟨k2', hk2'⟩]
  rw [if_neg (by show ¬ vm'.assignable _ _ = true; rw [hW'.alike.assignable, q3]; decide)]
  exact hk Q E d acts
theorem x_step {S : State} {a : Nat} {f : JFrame} {r : List Frame} {h : Nat} {vm' : Vm} (hfind : ∀ (Q : Handler → Pre) (E : CtlPost) (d : Bool) (acts : List Action), wp (findHandler f a) Q E e d acts S ↔ Q (.found h) d acts (S.setVm vm')) :
    (stepThrowing e S a (.java f :: r)).Is ((S.setVm vm').setFrames (.java { f with pc := h, stack := [.ref a] } :: r)) [] := by
  simp only [stepThrowing, searchFrame, vmDo]
  generalize hr : Sem.go _ e false [] S = res
  obtain ⟨as, rfl, ha⟩ := Sem.eq_ok_of hr (a := Handler.found h) (s' := S.setVm vm') (acts' := []) (by simp [hfind _ _ _ _])
  exact ⟨rfl, ha⟩
/-- caught in the walked method -/
theorem x_caught {T : State} {locs : List Loc} (X : Stand p l e R s m args below meth c T locs cells slots) {a h : Nat} {g : JFrame} (hg : g.method = m) (hfind : xGo e s g a T.heap c.exceptionTable.toList h) :
    ∃ vm' : Vm, Stand p l e R s m args below meth c (T.setVm vm') locs cells slots ∧ ∀ target, Steps p.tables e below ((T.setVm vm').setTop { g with pc := h, stack := [.ref a] }) target → Steps p.tables e below ((T.setTop g).pushFrame (.throwing a)) target := by
  have hAt : At T g.method c below := by rw [hg]; exact X.here
  obtain ⟨vm', hW', hk⟩ := hfind ((T.setTop g).pushFrame (.throwing a)) (Stand.throwing_heap T g a) (by rw [Stand.throwing_vm]; exact X.warmed)
  refine ⟨vm', X.noted hW', fun target hrest => ?_⟩
  obtain ⟨hgo, hw⟩ := hAt.throwing a
  refine Steps.head hgo hw ?_
  have hfd : ∀ (Q : Handler → Pre) (E : CtlPost) (d : Bool) (acts : List Action), wp (findHandler g a) Q E e d acts ((T.setTop g).pushFrame (.throwing a)) ↔ Q (.found h) d acts (((T.setTop g).pushFrame (.throwing a)).setVm vm') := fun Q E d acts => by
    rw [W.findHandler_eq (meth := meth) (code := c) (by rw [Stand.throwing_vm, hg]; exact X.method') X.code]
    exact hk Q E d acts
  rw [stepThread_throwing (frames_entered hAt.top _), (x_step hfd).1]
  obtain ⟨g₀, hg0⟩ := Option.isSome_iff_exists.mp hAt.top
  obtain ⟨r, hr⟩ := State.topJava?_eq_some.mp hg0
  have hr' : (T.setVm vm').frames = .java g₀ :: r := hr
  rw [State.setTop_of_frames _ hr'] at hrest
  rw [State.pushFrame, State.setTop_of_frames _ hr, State.setFrames_setFrames]
  show Steps p.tables e below (((T.setVm vm').setFrames _).setFrames _) target
  rw [State.setFrames_setFrames]
  rw [hr]
  exact hrest
end QY
