/-! what every method finds beside its world: words across the nest, the table of inputs -/
def EV (A : Nat → Prop) (U : State) (H : Heap) : Prop :=
  va_Nw (.methodLinkNest "CircuitSimulator" 33 y_Levels_init "CircuitSimulator") U ∧ va_Nw (.methodLinkNest "CircuitSimulator" 40 y_Dependence_init "CircuitSimulator") U ∧ va_Nw (.methodLinkNest "CircuitSimulator" 47 y_Placement_init "CircuitSimulator") U ∧ va_Nw (.fieldLinkNest "CircuitSimulator$Cells" 38 "CircuitSimulator" "INPUTS" "[I" "CircuitSimulator") U ∧ va_Nw (.methodLinkNest "CircuitSimulator$Cells" 34 y_CS_within "CircuitSimulator") U ∧
  ∃ t, va_Z "CircuitSimulator" "INPUTS" "[I" (.ref t) A U H ∧ va_T .int t 9 (fun j => .int (nI (inpN j))) A U H
theorem EV.n0 {A : Nat → Prop} {U : State} {H : Heap} (h : EV A U H) : va_Nw (.methodLinkNest "CircuitSimulator" 33 y_Levels_init "CircuitSimulator") U := h.1
theorem EV.n1 {A : Nat → Prop} {U : State} {H : Heap} (h : EV A U H) : va_Nw (.methodLinkNest "CircuitSimulator" 40 y_Dependence_init "CircuitSimulator") U := h.2.1
theorem EV.n2 {A : Nat → Prop} {U : State} {H : Heap} (h : EV A U H) : va_Nw (.methodLinkNest "CircuitSimulator" 47 y_Placement_init "CircuitSimulator") U := h.2.2.1
theorem EV.n3 {A : Nat → Prop} {U : State} {H : Heap} (h : EV A U H) : va_Nw (.fieldLinkNest "CircuitSimulator$Cells" 38 "CircuitSimulator" "INPUTS" "[I" "CircuitSimulator") U := h.2.2.2.1
theorem EV.n4 {A : Nat → Prop} {U : State} {H : Heap} (h : EV A U H) : va_Nw (.methodLinkNest "CircuitSimulator$Cells" 34 y_CS_within "CircuitSimulator") U := h.2.2.2.2.1
theorem EV.tab {A : Nat → Prop} {U : State} {H : Heap} (h : EV A U H) : ∃ t, va_Z "CircuitSimulator" "INPUTS" "[I" (.ref t) A U H ∧ va_T .int t 9 (fun j => .int (nI (inpN j))) A U H := h.2.2.2.2.2
theorem EV_blind {A : Nat → Prop} {U : State} {g : JFrame} {mk : MethodId} {a : Array Value} (h : EV A U U.heap) : EV A (U.calling g mk a) (U.calling g mk a).heap := by
  obtain ⟨h0, h1, h2, h3, h4, t, h5, h6⟩ := h
  have key : ∀ {w : Cond}, w.onTables = true → va_Nw w U → va_Nw w (U.calling g mk a) := fun {w} hw hz => va_tabs (A := #[]) (u := U) (U := U.calling g mk a) hw rfl hz
  exact ⟨key rfl h0, key rfl h1, key rfl h2, key rfl h3, key rfl h4, t, va_Z.moved (Vm.Alike.refl U.vm) h5, va_T.moved (Vm.Alike.refl U.vm) h6⟩
theorem EV_call {A A1 : Nat → Prop} {s U : State} {H : Heap} {locs : List Loc} (h : EV A s s.heap) (hS : va_S A s.heap H locs) (hA : ∀ q, A1 q → A q) (hW : s.WarmedH U.vm) (hU : U.heap = H) : EV A1 U U.heap := by
  obtain ⟨h0, h1, h2, h3, h4, t, h5, h6⟩ := h
  rw [hU]
  exact ⟨h0.warmM hW, h1.warmM hW, h2.warmM hW, h3.warmF hW, h4.warmM hW, t, ((va_Z.moved hW.alike h5).kept hS.2.1).narrow hA, ((va_T.moved hW.alike h6).kept hS.2.1).narrow hA⟩
