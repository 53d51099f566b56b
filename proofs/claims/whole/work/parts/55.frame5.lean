/-! a call that throws and is caught; methods with a table of handlers: their contracts, their calls -/
def xEn (q : Nat × Nat × Nat × Nat) : ExceptionTableEntry := ⟨q.1, q.2.1, q.2.2.1, q.2.2.2⟩
theorem xEn_of {l : List ExceptionTableEntry} {hs : List (Nat × Nat × Nat × Nat)} (h : l.map (fun h => (h.startPc, h.endPc, h.handlerPc, h.catchType)) = hs) : l = hs.map xEn := by
  subst h
  rw [List.map_map]
  exact (List.map_id'' (fun _ => rfl) l).symm
theorem Ctg_ofW {l : Launch} {y : MethodName} {wsc : List Cond} {rm : Room} {D : va_G} {cl : List vw_C} {tys : List (ClassId × FieldType)} {av : List Value} {wc : va_W} {Qa : (Nat → Prop) → Array Value → State → Outcome → State → Prop} {mc ms : Nat} {cc : ByteArray} {maxL : Nat} {ret : Option FieldType} {hs : List (Nat × Nat × Nat × Nat)} (own : String) (lv : List (Nat × Value)) (hy : plainName y.cls = true) (ho : y.cls = own) (hw : wsc = Cond.codeWith y cc maxL ret hs :: lG) (hav : (lg_sl av).length ≤ maxL) (hlv : lv_args 0 av = lv)
    (body : ∀ (p : Program) (e : Env) (s : State) (m : MethodId) (args : Array Value) (below : List Frame) (meth : Method) (c : Code) (A : Nat → Prop), Fx p s m args meth c cc maxL own A D cl tys → meth.sig.returnType = ret → c.exceptionTable.toList = hs.map xEn → V p l e rm s m args below meth c A (MQ below (Qa A) args s mc ms A) D cl maxL 0 0 wc 0 lv []) : Ctg l y wsc rm D cl tys av wc Qa mc ms := by
  intro sz
  refine MetFree.of_bodyS (code := cc) (maxLocals := maxL) (ret := ret) hy ?_ ?_
  · intro args s m h hn
    obtain ⟨m', meth, c, h0, h1, h2, h3, h4, -, h5, h6, -⟩ := Cond.codeWith_spec (atoms_spec (ws := wsc) h _ (by rw [hw]; exact List.mem_cons_self))
    cases hn.symm.trans h0
    exact ⟨meth, c, h1, h2, h3, h4, h5, h6⟩
  · intro p e s m args below meth c s₁ B hml hv _
    have hh0 : s₁.heap = s.heap := by rw [B.state]; rfl
    have htab : c.exceptionTable.toList = hs.map xEn := by
      obtain ⟨m', meth', c', h0, h1, h2, h3, h4, h7, h5, h6, -⟩ := Cond.codeWith_spec (atoms_spec (ws := wsc) B.pre _ (by rw [hw]; exact List.mem_cons_self))
      cases B.named.symm.trans h0
      cases B.method.symm.trans h1
      cases (Stand.of_body B).code.symm.trans h2
      exact xEn_of h7
    obtain ⟨rfl, hsz, hP, hK, hD0, hE⟩ := hv
    subst hsz
    have hD := hD0.self (sz := s.heap.size)
    generalize hAe : va_A wc s.heap.size = A at hD hE ⊢
    have hA : ∀ q : Nat, s.heap.size ≤ q → A q := fun q h => by rw [← hAe]; exact Or.inr h
    have hl := lv_entry av (n := maxL) hav
    rw [hlv] at hl
    have hown : s.vm.findClass own = some m.cls := by rw [← ho]; exact findClass_of_methodNamed B.named
    have K : W p l e rm s m av.toArray below meth c s.heap [] 0 0 (MQ below (Qa A) av.toArray s mc ms A) (entryFrame m av.toArray maxL) := by
      rw [lg_entry_eq]
      exact body p e s m _ below meth c A ⟨⟨B.exec, B.bytes, hml, hown, fun w h => atoms_spec (ws := wsc) B.pre w (by rw [hw]; exact List.mem_cons_of_mem _ h)⟩, B.notSynchronized, hK, hA, hE⟩ B.returns htab _ _ _ hl hP hD va_S.rf
    obtain ⟨t, a1, o, b1, b2, b3⟩ := K s₁ hh0 (Stand.of_body B)
    exact ⟨t, o, a1, b1, b2, b3⟩
section QZ
variable {p : Program} {l : Launch} {e : Env} {R : Room} {s : State} {m : MethodId} {args : Array Value} {below : List Frame} {meth : Method} {c : Code} {A : Nat → Prop} {Q : State → Prop} {D : va_G} {cl : List vw_C} {tys : List (ClassId × FieldType)} {nL cells slots : Nat} {cc : ByteArray} {own : String} {w : va_W} {lv : List (Nat × Value)} {st : List Value} {pc : Nat}
theorem V_callVx {S : Type} {post : S → Prop} {w' w1 : S → va_W} {E : String} {y : MethodName} {bytes : ByteArray} {maxL mc ms n index : Nat} {wsc : List Cond} {rm : Room} {As rest : List Value} {wc wr : va_W} {isC isR pm : List Nat} {ret : Option FieldType} {C : String} {Tt : u_T} {N b : Nat} {fs : List Value} (F : Fx p s m args meth c cc nL own A D cl tys)
    (hM : Ctx l y wsc rm D cl tys (.ref b :: As) wc E post w' mc ms) (hcw : CallW R s args own C index y bytes maxL ret wsc rm mc ms n) {ci q0 : Nat} (hc : cl[ci]? = some (C, Tt, N)) (he : wc[q0]? = some (b, .inr (ci, fs))) (hn : As.length = n) (hW : (rest.map fun v => v.category).sum ≤ 8) (d : decode cc pc = .ok (.invokevirtual index, 3)) (hf : cells + mc ≤ R.cells ∧ slots + ms ≤ R.slots) (hcut : Cut w wc wr w' w1 isC isR pm) (tgt : Nat)
    (hfind : e.platform.magicAccessors = ({} : Platform).magicAccessors → ∀ (x : Nat) (H1 : Heap) (ce : Cell) (ls : Array Slot), H1[x]? = some ce → ce.vm = .none → s.vm.findClass E = some ce.cls → xGo e s (F0 m pc ls rest) x H1 c.exceptionTable.toList tgt)
    (kk : ∀ (x : Nat) (u : S), post u → V p l e R s m args below meth c A Q D cl nL (cells + mc) (slots + ms) (w1 u) tgt lv [.ref x]) {st0 : List Value} (hst : st0 = As.reverse ++ .ref b :: rest) : V p l e R s m args below meth c A Q D cl nL cells slots w pc lv st0 := by
  intro ls H locs hl hP hD hS T hT X
  obtain ⟨hC, hR, hnC, hnR, hdis, hpm, hpn⟩ := hcut
  have hPc := P_sub hP isC hC
  have hDc := hD.sub isC hnC hC
  have hFc := va_free (wc := wc) hD hS F.al isC hC
  obtain ⟨⟨hrc, hrs, hfr, hlo, hws, -, hcode, hini, hy, hlen, hlk⟩, hin, hse⟩ := hcw
  obtain ⟨cellB, hcB, hoB, hclB⟩ := va_recv F.K hPc hc he
  obtain ⟨mk, methM, hnamed, hmethM, hstM, habM⟩ := Cond.instanceMethod_spec hin
  obtain ⟨methM', cM, hmethM', hcM, -, hlM, -, -, -, hsigM⟩ := Cond.code_spec hnamed hcode
  cases hmethM.symm.trans hmethM'
  obtain ⟨c2, r2, m2, q1, q2, q3, q4, kP, hkP, hkPi⟩ := Cond.selects_spec hse
  cases hclB.symm.trans q1
  cases (State.methodFound?_of_named hnamed hy).symm.trans q2
  cases hnamed.symm.trans q3
  have hselP : selectMethod e.platform s.vm cellB.cls mk = .method mk := by rw [Launch.admits_selectMethod X.admits]; exact q4
  obtain ⟨vm₁, X₁, hstep₁⟩ := X.invokevirtual F.x F.o hlk hnamed hmethM hstM hkP hkPi hy (a := b) (cell := cellB) (by rw [hT]; exact hcB)
    (fun z h => by rw [h] at hoB; cases hoB) hselP hmethM habM hkP hkPi (g := F0 m pc ls st0) rfl (argsL := As) (rest := rest) (hn.trans (hlen _ hsigM)) hst (by rw [F.b]; exact d)
  obtain ⟨kY, hkY, -⟩ := className_of_methodNamed hnamed
  have hiY := Cond.initialized_spec (findClass_of_methodNamed hnamed) hkY hini
  obtain ⟨kY', hkY', heY⟩ := X₁.warmed.alike.2.2 _ _ hkY
  obtain ⟨o, t, hsteps, hend, x, rfl, ⟨⟨u, hpu, hP1, hD1⟩, ⟨ce, hce, hcv, hcE⟩, hF1⟩, hWt, L, hsame, hL⟩ := x_enter (hM H.size) X₁ (g := F0 m pc ls rest) rfl (hl.1.trans F.ml.symm) (by rw [F.b]; exact d) (X₁.named hnamed) (by rw [X₁.warmed.alike.method?]; exact hmethM) hcM hkY' (by rw [heY]; exact hiY)
    (a := (Value.ref b :: As).toArray) (fun w h => hws w h _ _ X₁.warmed) (cP_blind _ _ _ _ (cP_at F hPc hDc hS hFc (T.setVm vm₁) hT X₁.warmed)) hfr (by rw [hlM]; show 2 * 0 + (rest.map fun v => v.category).sum + (maxL + 11) + rm.locals ≤ _; omega) (by rw [hrc]; exact hf.1) (by rw [hrs]; exact hf.2)
  obtain ⟨T', X', -, -, ht⟩ := X₁.outOfThrown (g := F0 m pc ls rest) rfl hend hWt hsame
  have hth : t.heap = T'.heap := by rw [ht]; exact Stand.throwing_heap T' _ x
  rw [hth] at hP1 hce
  have hkF : ∀ q : Nat, q < H.size → ¬ va_A wc H.size q → T'.heap[q]? = H[q]? := fun q h1 h2 => by
    have h3 := hF1.2 q (by show q < T.heap.size; rw [hT]; exact h1) h2
    have h4 : ((T.setVm vm₁).calling (F0 m pc ls rest) mk (Value.ref b :: As).toArray).heap = H := hT
    rw [← hth, h3, h4]
  have hsz : H.size ≤ T'.heap.size := by
    have h3 : T.heap.size ≤ t.heap.size := hF1.1
    rw [hT, hth] at h3; exact h3
  obtain ⟨vm', X'', hst2⟩ := x_caught X' (a := x) (h := tgt) (g := F0 m pc ls rest) rfl (hfind (by rw [X.admits.platform]) x T'.heap ce ls hce hcv (by rw [← X₁.warmed.alike.findClass]; exact hcE))
  obtain ⟨hP2, hD2⟩ := va_join (wr := wr) (w1 := w' u) hP hD isC isR hC hR hnR (fun i hi hc => by have := List.all_eq_true.mp hdis i hi; simp [hc] at this) hkF hFc hP1 hD1
  obtain ⟨t2, a1, b1⟩ := kk x u hpu ls T'.heap (locs ++ L) hl (P_sub hP2 pm (hpm u)) (hD2.sub pm hpn (hpm u)) ⟨Nat.le_trans hS.1 hsz, fun q h1 h2 => by rw [hkF q (Nat.lt_of_lt_of_le h1 hS.1) (fun z => h2 (hFc q z))]; exact hS.2.1 q h1 h2, fun q hq => by
      rcases List.mem_append.mp hq with h | h
      · exact hS.2.2 q h
      · exact hFc _ (hL q h)⟩ (T'.setVm vm') rfl X''
  exact ⟨t2, hstep₁ _ (fun acts => by rw [doInvoke_state]; exact hsteps.trans (by rw [ht]; exact hst2 _ a1)), b1⟩
theorem x_runSW {H : Heap} {locs : List Loc} {y : MethodName} {bytes : ByteArray} {maxL mc ms n index : Nat} {hs : List (Nat × Nat × Nat × Nat)} {ret : Option FieldType} {rm : Room} {Pc : Array Value → State → Prop} {Qc : Array Value → State → Outcome → State → Prop} {free : Nat → Prop} {As rest : List Value} {g : JFrame} (F : Fx p s m args meth c cc nL own A D cl tys)
    (hM : Met l y (wK (Cond.codeWith y bytes maxL ret hs)) rm Pc Qc mc ms free) (hcd : Cond.codeWith y bytes maxL ret hs ∈ lG) (hstt : Cond.static y ∈ lG) (hini : Cond.initialized y.cls ∈ lG) (hlk : Cond.methodLink own index y ∈ lG) (hd : y.cls ≠ "java/lang/invoke/MethodHandle" ∧ y.cls ≠ "java/lang/invoke/VarHandle" ∧ (parseMethodDescriptor y.desc).map (fun d => d.parameters.length) = some n)
    (hr : rm.cells = mc ∧ rm.slots = ms ∧ rm.frames + 1 ≤ R.frames ∧ 8 + (maxL + 11) + rm.locals ≤ R.locals) (hp : PreS s H Pc As) (hg : g.method = m) (hn : As.length = n) (hsize : g.locals.size = nL) (hstack : g.stack = As.reverse ++ rest) (hW : 2 * g.monitorRoom + (rest.map fun v => v.category).sum ≤ 8) (hdg : decode cc g.pc = .ok (.invokestatic index, 3)) (hf : cells + mc ≤ R.cells ∧ slots + ms ≤ R.slots) :
    va_Run p l e R s m args below meth c H locs cells slots mc ms g rest (Qc As.toArray) free := by
  intro T hT X
  obtain ⟨mk, methM, cM, hnamed, hmethM, hcM, -, hlM, -, -, -, hsigM⟩ := Cond.codeWith_spec (F.ts _ hcd)
  have hstatic : methM.isStatic = true := Cond.static_spec hnamed hmethM (F.ts _ hstt)
  obtain ⟨kY, hkY, -⟩ := className_of_methodNamed hnamed
  have hiY := Cond.initialized_spec (findClass_of_methodNamed hnamed) hkY (F.ts _ hini)
  have hlen : As.length = methM.sig.parameters.length := by
    have h1 := hd.2.2
    rw [hsigM] at h1
    exact hn.trans (Option.some.inj h1).symm
  obtain ⟨vm₁, X₁, hstep⟩ := X.invokestatic F.x F.o (F.ts _ hlk) hnamed hmethM hstatic hkY hiY ⟨hd.1, hd.2.1⟩ (g := g) hg (argsL := As) (rest := rest) hlen hstack (by rw [F.b]; exact hdg)
  obtain ⟨kY', hkY', heY⟩ := X₁.warmed.alike.2.2 _ _ hkY
  obtain ⟨o, t, hsteps, hend, hq, L, ⟨⟨v, rfl⟩, hWt, hsame⟩, hL⟩ := x_enter hM X₁ (g := { g with stack := rest }) hg (hsize.trans F.ml.symm) (by rw [F.b]; exact hdg) (X₁.named hnamed) (by rw [X₁.warmed.alike.method?]; exact hmethM) hcM hkY' (by rw [heY]; exact hiY)
    (a := As.toArray) (fun w h => by
      rcases List.mem_cons.mp h with rfl | h
      · exact word_at X₁.warmed (good_of_word (lG_good hcd)) (F.ts _ hcd)
      · exact word_at X₁.warmed (good_of_word (lG_good h)) (F.ts _ h)) (hp.1 _ _ _ _ (hp.2 (T.setVm vm₁) hT X₁.warmed)) hr.2.2.1 (by rw [hlM]; have := hr.2.2.2; show 2 * g.monitorRoom + (rest.map fun v => v.category).sum + (maxL + 11) + rm.locals ≤ _; omega) (by rw [hr.1]; exact hf.1) (by rw [hr.2.1]; exact hf.2)
  obtain ⟨T', X', -, -, ht⟩ := X₁.outOf (g := { g with stack := rest }) hg (by rw [F.b]; exact hdg) hend hWt hsame
  refine ⟨v, (T.setVm vm₁).calling { g with stack := rest } mk As.toArray, t, T', L, hT, X', hL, ?_, ?_, hq, fun target hh => hstep _ (fun acts => by rw [doInvoke_state]; exact hsteps.trans (by rw [ht]; exact hh))⟩
  · rw [ht]; rfl
  · rw [ht]; rfl
theorem V_callSW_i {S : Type} {post : Int32 → S → Prop} {w' w1 : S → va_W} {y : MethodName} {bytes : ByteArray} {maxL mc ms n index : Nat} {hs : List (Nat × Nat × Nat × Nat)} {ret : Option FieldType} {rm : Room} {As rest : List Value} {wc wr : va_W} {isC isR pm : List Nat} (F : Fx p s m args meth c cc nL own A D cl tys)
    (hM : Cti l y (wK (Cond.codeWith y bytes maxL ret hs)) rm D cl tys As wc post w' mc ms) (hcw : Cond.codeWith y bytes maxL ret hs ∈ lG ∧ Cond.static y ∈ lG ∧ Cond.initialized y.cls ∈ lG ∧ Cond.methodLink own index y ∈ lG) (hd : y.cls ≠ "java/lang/invoke/MethodHandle" ∧ y.cls ≠ "java/lang/invoke/VarHandle" ∧ (parseMethodDescriptor y.desc).map (fun d => d.parameters.length) = some n)
    (hr : rm.cells = mc ∧ rm.slots = ms ∧ rm.frames + 1 ≤ R.frames ∧ 8 + (maxL + 11) + rm.locals ≤ R.locals) (hn : As.length = n) (hW : (rest.map fun v => v.category).sum ≤ 8) (d : decode cc pc = .ok (.invokestatic index, 3)) (hf : cells + mc ≤ R.cells ∧ slots + ms ≤ R.slots) (hcut : Cut w wc wr w' w1 isC isR pm)
    (kk : ∀ (r : Int32) (u : S), post r u → V p l e R s m args below meth c A Q D cl nL (cells + mc) (slots + ms) (w1 u) (pc + 3) lv (.int r :: rest)) {st0 : List Value} (hst : st0 = As.reverse ++ rest) : V p l e R s m args below meth c A Q D cl nL cells slots w pc lv st0 :=
  V_runi F hcut (fun ls H locs hls hPc hpre => x_runSW F (hM H.size) hcw.1 hcw.2.1 hcw.2.2.1 hcw.2.2.2 hd hr ⟨cP_blind, fun U hU hW => hpre U hU hW _⟩ rfl hn hls hst (lv_room hW) d hf) kk
end QZ
