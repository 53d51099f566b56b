/-! what every method finds beside its world: words across the nest, the table of inputs -/
/-- does the class X fit the class Y? -/
def xC (X Y : String) (b : Bool) (U : State) : Prop := ∃ x y, U.vm.findClass X = some x ∧ U.vm.findClass Y = some y ∧ U.vm.assignable x y = b
theorem xC.moved {X Y : String} {b : Bool} {u U : State} (hvm : u.vm.Alike U.vm) (h : xC X Y b u) : xC X Y b U := by
  obtain ⟨x, y, h1, h2, h3⟩ := h
  exact ⟨x, y, by rw [hvm.findClass]; exact h1, by rw [hvm.findClass]; exact h2, by rw [hvm.assignable]; exact h3⟩
def xCls : List String := ["java/lang/IllegalArgumentException", "java/lang/UnsupportedOperationException", "java/lang/IllegalStateException", "java/util/NoSuchElementException"]
def xStrs : List (Nat × String) := [(69, "no such kind, net, clock or state"), (80, "the net has a driver that shares with none"), (86, "no more cells can be made"), (96, "no such template, kind, local net, clock or state"), (102, "the template is full"), (104, "no such template or net"), (113, "a net would get drivers that cannot share it"), (118, "too many cells or nets"), (131, "there is a loop or a level that is too great"), (142, "there is no loop"), (148, "no such port"), (150, "no such value"), (152, "the circuit is not built"), (164, "no such clock"), (176, "no such net"), (178, "a net cannot be stuck at that"), (192, "no such register or latch"), (211, "nothing is counted under that number")]
def xDecl : List MethodName := [Bundle.initS "java/lang/RuntimeException", Bundle.initS "java/lang/Exception", Bundle.initS "java/lang/Throwable"]
/-- a static of Throwable that is a reference, and stays -/
def xL (n d : String) (A : Nat → Prop) (U : State) (H : Heap) : Prop := (∃ v : RefV, va_Z Bundle.tN n d v.v A U H) ∧ ∃ (c : ClassId) (k : Class) (i : Nat) (f : Field) (a : Nat) (cell : Cell), U.vm.findClass Bundle.tN = some c ∧ U.fieldFound? Bundle.tN n d = some (c, k, i, f) ∧ f.isStatic = true ∧ k.statics = some a ∧ H[a]? = some cell ∧ cell.vm.isStatics = true ∧ cell.cls = c ∧ f.slot < cell.slots.size ∧ k.staticTypes[f.slot]? = some f.type ∧ ¬ A a
theorem xL.moved {n d : String} {A : Nat → Prop} {u U : State} {H : Heap} (hvm : u.vm.Alike U.vm) (h : xL n d A u H) : xL n d A U H := by
  obtain ⟨⟨v, hv⟩, c, k, i, f, a, cell, h0, h1, h2, h3, h4, h5, h6, h7, h8, h9⟩ := h
  obtain ⟨k', hi', he⟩ := State.fieldFound?_setVm hvm h1
  exact ⟨⟨v, va_Z.moved hvm hv⟩, c, k', i, f, a, cell, by rw [hvm.findClass]; exact h0, hi', h2, by rw [he]; exact h3, h4, h5, h6, h7, by rw [he]; exact h8, h9⟩
theorem xL.kept {n d : String} {A : Nat → Prop} {U : State} {H H1 : Heap} (h : xL n d A U H) (hq : ∀ a : Nat, a < H.size → ¬ A a → H1[a]? = H[a]?) : xL n d A U H1 := by
  obtain ⟨⟨v, hv⟩, c, k, i, f, a, cell, h0, h1, h2, h3, h4, h5⟩ := h
  exact ⟨⟨v, hv.kept hq⟩, c, k, i, f, a, cell, h0, h1, h2, h3, by rw [hq a (Array.getElem?_eq_some_iff.mp h4).1 h5.2.2.2.2]; exact h4, h5⟩
theorem xL.narrow {n d : String} {A B : Nat → Prop} {U : State} {H : Heap} (h : xL n d A U H) (hAB : ∀ q, B q → A q) : xL n d B U H := by
  obtain ⟨⟨v, hv⟩, c, k, i, f, a, cell, h0, h1, h2, h3, h4, h5, h6, h7, h8, h9⟩ := h
  exact ⟨⟨v, hv.narrow hAB⟩, c, k, i, f, a, cell, h0, h1, h2, h3, h4, h5, h6, h7, h8, fun z => h9 (hAB a z)⟩
theorem xL.lays {n d : String} {A : Nat → Prop} {U : State} {args : Array Value} (h : xL n d A U U.heap) : (Cond.laysStatic Bundle.tN n d).before args U = true := by
  obtain ⟨-, c, k, i, f, a, cell, h0, h1, h2, h3, h4, h5, h6, h7, h8, h9⟩ := h
  exact Cond.laysStatic_of h0 h1 h2 h3 h4 h5 h6 h7 h8
/-- what a throw, and one who catches, want beside the good words -/
def EX (A : Nat → Prop) (U : State) (H : Heap) : Prop := (∀ x ∈ xDecl, va_Nw (.declares x) U) ∧ (∀ q ∈ xStrs, ∃ a, vk_R "CircuitSimulator" q.1 q.2 a U) ∧ (∀ X ∈ xCls, ∀ Y ∈ xCls, xC X Y (decide (X = Y)) U) ∧ xL "UNASSIGNED_STACK" Bundle.steD A U H ∧ xL "SUPPRESSED_SENTINEL" Bundle.listD A U H
theorem EX_blind {A : Nat → Prop} {U : State} {g : JFrame} {mk : MethodId} {a : Array Value} (h : EX A U U.heap) : EX A (U.calling g mk a) (U.calling g mk a).heap := by
  obtain ⟨h1, h2, h3, h4, h5⟩ := h
  refine ⟨fun x hx => va_tabs (A := #[]) (u := U) (U := U.calling g mk a) rfl rfl (h1 x hx), fun q hq => ?_, fun X hX Y hY => xC.moved (Vm.Alike.refl U.vm) (h3 X hX Y hY), xL.moved (Vm.Alike.refl U.vm) h4, xL.moved (Vm.Alike.refl U.vm) h5⟩
  obtain ⟨b, hb⟩ := h2 q hq
  exact ⟨b, vk_R.same (u := U) rfl hb⟩
theorem EX_call {A A1 : Nat → Prop} {s U : State} {H : Heap} {locs : List Loc} (h : EX A s s.heap) (hS : va_S A s.heap H locs) (hA : ∀ q, A1 q → A q) (hW : s.WarmedH U.vm) : EX A1 U H := by
  obtain ⟨h1, h2, h3, h4, h5⟩ := h
  refine ⟨fun x hx => (h1 x hx).warmD hW, fun q hq => ?_, fun X hX Y hY => (h3 X hX Y hY).moved hW.alike, ((xL.moved hW.alike h4).kept hS.2.1).narrow hA, ((xL.moved hW.alike h5).kept hS.2.1).narrow hA⟩
  obtain ⟨b, hb⟩ := h2 q hq
  exact ⟨b, hb.warm hW⟩
def EV0 (A : Nat → Prop) (U : State) (H : Heap) : Prop :=
  va_Nw (.methodLinkNest "CircuitSimulator" 33 y_Levels_init "CircuitSimulator") U ∧ va_Nw (.methodLinkNest "CircuitSimulator" 40 y_Dependence_init "CircuitSimulator") U ∧ va_Nw (.methodLinkNest "CircuitSimulator" 47 y_Placement_init "CircuitSimulator") U ∧ va_Nw (.fieldLinkNest "CircuitSimulator$Cells" 38 "CircuitSimulator" "INPUTS" "[I" "CircuitSimulator") U ∧ va_Nw (.methodLinkNest "CircuitSimulator$Cells" 34 y_CS_within "CircuitSimulator") U ∧
  ∃ t, va_Z "CircuitSimulator" "INPUTS" "[I" (.ref t) A U H ∧ va_T .int t 9 (fun j => .int (nI (inpN j))) A U H
def EV (A : Nat → Prop) (U : State) (H : Heap) : Prop := EV0 A U H ∧ EX A U H
theorem EV.n0 {A : Nat → Prop} {U : State} {H : Heap} (h : EV A U H) : va_Nw (.methodLinkNest "CircuitSimulator" 33 y_Levels_init "CircuitSimulator") U := h.1.1
theorem EV.n1 {A : Nat → Prop} {U : State} {H : Heap} (h : EV A U H) : va_Nw (.methodLinkNest "CircuitSimulator" 40 y_Dependence_init "CircuitSimulator") U := h.1.2.1
theorem EV.n2 {A : Nat → Prop} {U : State} {H : Heap} (h : EV A U H) : va_Nw (.methodLinkNest "CircuitSimulator" 47 y_Placement_init "CircuitSimulator") U := h.1.2.2.1
theorem EV.n3 {A : Nat → Prop} {U : State} {H : Heap} (h : EV A U H) : va_Nw (.fieldLinkNest "CircuitSimulator$Cells" 38 "CircuitSimulator" "INPUTS" "[I" "CircuitSimulator") U := h.1.2.2.2.1
theorem EV.n4 {A : Nat → Prop} {U : State} {H : Heap} (h : EV A U H) : va_Nw (.methodLinkNest "CircuitSimulator$Cells" 34 y_CS_within "CircuitSimulator") U := h.1.2.2.2.2.1
theorem EV.tab {A : Nat → Prop} {U : State} {H : Heap} (h : EV A U H) : ∃ t, va_Z "CircuitSimulator" "INPUTS" "[I" (.ref t) A U H ∧ va_T .int t 9 (fun j => .int (nI (inpN j))) A U H := h.1.2.2.2.2.2
theorem EV_blind {A : Nat → Prop} {U : State} {g : JFrame} {mk : MethodId} {a : Array Value} (h : EV A U U.heap) : EV A (U.calling g mk a) (U.calling g mk a).heap := by
  obtain ⟨⟨h0, h1, h2, h3, h4, t, h5, h6⟩, hx⟩ := h
  have key : ∀ {w : Cond}, w.onTables = true → va_Nw w U → va_Nw w (U.calling g mk a) := fun {w} hw hz => va_tabs (A := #[]) (u := U) (U := U.calling g mk a) hw rfl hz
  exact ⟨⟨key rfl h0, key rfl h1, key rfl h2, key rfl h3, key rfl h4, t, va_Z.moved (Vm.Alike.refl U.vm) h5, va_T.moved (Vm.Alike.refl U.vm) h6⟩, EX_blind hx⟩
theorem EV_call {A A1 : Nat → Prop} {s U : State} {H : Heap} {locs : List Loc} (h : EV A s s.heap) (hS : va_S A s.heap H locs) (hA : ∀ q, A1 q → A q) (hW : s.WarmedH U.vm) (hU : U.heap = H) : EV A1 U U.heap := by
  obtain ⟨⟨h0, h1, h2, h3, h4, t, h5, h6⟩, hx⟩ := h
  rw [hU]
  exact ⟨⟨h0.warmM hW, h1.warmM hW, h2.warmM hW, h3.warmF hW, h4.warmM hW, t, ((va_Z.moved hW.alike h5).kept hS.2.1).narrow hA, ((va_T.moved hW.alike h6).kept hS.2.1).narrow hA⟩, EX_call hx hS hA hW⟩
