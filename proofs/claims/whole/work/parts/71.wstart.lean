/-! the start: what every method finds, out of the statement's words -/
theorem xOff_of {l : Launch} (h : l.flags = flags0) : xOff l := by
  intro e he
  have e1 : e.platform.stackTraces = l.stackTraces := congrArg (fun z => z.stackTraces) he.2.2.2.2.1
  rw [e1]
  unfold Launch.stackTraces
  rw [h]
  decide +kernel
theorem law_hA {s : State} : ∀ a : Nat, a < s.heap.size → ¬ (fun q : Nat => s.heap.size ≤ q) a := fun a ha h => Nat.not_le.mpr ha h
theorem law_xL {s : State} {b : Nat} {n d : String} (h1 : (Cond.laysStatic Bundle.tN n d).before #[Value.ref b] s = true) (h2 : (Cond.isRef (.static Bundle.tN n d)).before #[Value.ref b] s = true) (h3 : (Cond.initialized Bundle.tN).before #[Value.ref b] s = true) : xL n d (fun q => s.heap.size ≤ q) s s.heap := by
  obtain ⟨v, hv, hr⟩ := Cond.isRef_spec h2
  obtain ⟨c, k, i, f, a, cell, q1, q2, q3, q4, q5, q6, q7, q8, q9⟩ := Cond.laysStatic_spec h1
  exact ⟨⟨⟨v, hr⟩, va_Zof h1 h3 hv law_hA⟩, c, k, i, f, a, cell, q1, q2, q3, q4, q5, q6, q7, q8, q9, law_hA a (Array.getElem?_eq_some_iff.mp q5).1⟩
theorem law_str {s : State} {b k : Nat} {tx : String} (h1 : (Cond.stringRef "CircuitSimulator" k tx).before #[Value.ref b] s = true) (h2 : (Cond.exactly (.string "CircuitSimulator" k) "java/lang/String").before #[Value.ref b] s = true) : ∃ a, vk_R "CircuitSimulator" k tx a s := by
  obtain ⟨a, c, cell, kk, ha, -⟩ := Cond.exactly_spec h2
  exact ⟨a, vk_R.of h1 ha⟩
theorem xC_eq {s : State} {b : Nat} {X : String} (h : (Cond.castable X X).before #[Value.ref b] s = true) : xC X X (decide (X = X)) s := by
  obtain ⟨x, y, h1, h2, h3⟩ := Cond.castable_spec h
  exact ⟨x, y, h1, h2, by rw [h3]; exact (decide_eq_true rfl).symm⟩
theorem xC_ne {s : State} {b : Nat} {X Y : String} (hn : X ≠ Y) (h : (Cond.not (.castable X Y)).before #[Value.ref b] s = true) : xC X Y (decide (X = Y)) s := by
  simp only [Cond.before, Cond.holds, Cond.value] at h
  cases h1 : s.vm.findClass X with
  | none => simp [h1] at h
  | some x =>
    cases h2 : s.vm.findClass Y with
    | none => simp [h1, h2] at h
    | some y =>
      have h3 : s.vm.assignable x y = false := by simpa [h1, h2] using h
      exact ⟨x, y, h1, h2, by rw [h3]; exact (decide_eq_false hn).symm⟩
theorem law_arr_int {s : State} {b : Nat} (h : (Cond.arrayClass .int).before #[Value.ref b] s = true) : ∃ cA : ClassId, ArrOfT s cA .int ∧ va_RA s cA .int := by
  obtain ⟨c, k, comp, h1, h2, h3⟩ := Cond.arrayClass_spec h
  exact ⟨c, fun n z => ⟨fun k h => (by cases h), k, h2, comp, h3⟩, h1⟩
theorem law_arr_long {s : State} {b : Nat} (h : (Cond.arrayClass .long).before #[Value.ref b] s = true) : ∃ cA : ClassId, ArrOfT s cA .long ∧ va_RA s cA .long := by
  obtain ⟨c, k, comp, h1, h2, h3⟩ := Cond.arrayClass_spec h
  exact ⟨c, fun n z => ⟨fun k h => (by cases h), k, h2, comp, h3⟩, h1⟩
theorem law_arr_boolean {s : State} {b : Nat} (h : (Cond.arrayClass .boolean).before #[Value.ref b] s = true) : ∃ cA : ClassId, ArrOfT s cA .boolean ∧ va_RA s cA .boolean := by
  obtain ⟨c, k, comp, h1, h2, h3⟩ := Cond.arrayClass_spec h
  exact ⟨c, fun n z => ⟨fun k h => (by cases h), k, h2, comp, h3⟩, h1⟩
theorem law_tab {s : State} {b : Nat} (hts : ∀ w ∈ lw_tbl, w.before #[Value.ref b] s = true) (hgv : (Jvm.Cond.and given_1 narrow_1).before #[Value.ref b] s = true) : ∃ t, va_Z "CircuitSimulator" "INPUTS" "[I" (.ref t) (fun q => s.heap.size ≤ q) s s.heap ∧ va_T .int t 9 (fun j => .int (nI (inpN j))) (fun q => s.heap.size ≤ q) s s.heap := by
  have hs := flat_of_before _ hgv
  have hel : ∀ j : Nat, j < 9 → (Term.elem (.static "CircuitSimulator" "INPUTS" "[I") (.int (Int32.ofNat j))).eval #[Value.ref b] s none [] s = some (Value.int (nI (inpN j))) := by
    intro j hj
    rcases (show j = 0 ∨ j = 1 ∨ j = 2 ∨ j = 3 ∨ j = 4 ∨ j = 5 ∨ j = 6 ∨ j = 7 ∨ j = 8 by omega) with rfl | rfl | rfl | rfl | rfl | rfl | rfl | rfl | rfl
    · exact va_eqt (t := .elem (.static "CircuitSimulator" "INPUTS" "[I") (.int 0)) (z := 0) (hs _ (by decide +kernel))
    · exact va_eqt (t := .elem (.static "CircuitSimulator" "INPUTS" "[I") (.int 1)) (z := 1) (hs _ (by decide +kernel))
    · exact va_eqt (t := .elem (.static "CircuitSimulator" "INPUTS" "[I") (.int 2)) (z := 2) (hs _ (by decide +kernel))
    · exact va_eqt (t := .elem (.static "CircuitSimulator" "INPUTS" "[I") (.int 3)) (z := 2) (hs _ (by decide +kernel))
    · exact va_eqt (t := .elem (.static "CircuitSimulator" "INPUTS" "[I") (.int 4)) (z := 2) (hs _ (by decide +kernel))
    · exact va_eqt (t := .elem (.static "CircuitSimulator" "INPUTS" "[I") (.int 5)) (z := 3) (hs _ (by decide +kernel))
    · exact va_eqt (t := .elem (.static "CircuitSimulator" "INPUTS" "[I") (.int 6)) (z := 2) (hs _ (by decide +kernel))
    · exact va_eqt (t := .elem (.static "CircuitSimulator" "INPUTS" "[I") (.int 7)) (z := 2) (hs _ (by decide +kernel))
    · exact va_eqt (t := .elem (.static "CircuitSimulator" "INPUTS" "[I") (.int 8)) (z := 1) (hs _ (by decide +kernel))
  have hlen : (Term.length (.static "CircuitSimulator" "INPUTS" "[I")).eval #[Value.ref b] s none [] s = some (.int (Int32.ofNat 9)) := va_eqt (t := .length (.static "CircuitSimulator" "INPUTS" "[I")) (z := 9) (hs _ (by decide +kernel))
  obtain ⟨t, ht, hT⟩ := va_Tof (A := fun q => s.heap.size ≤ q) (by decide) (hs (.arrayOf (.static "CircuitSimulator" "INPUTS" "[I") .int) (by decide +kernel)) hlen hel law_hA
  exact ⟨t, va_Zof (hts (.laysStatic "CircuitSimulator" "INPUTS" "[I") (by decide +kernel)) (hts (.initialized "CircuitSimulator") (by decide +kernel)) ht law_hA, hT⟩
set_option maxHeartbeats 4000000 in
theorem law_EV {s : State} {b : Nat} (hts : ∀ w ∈ lw_tbl, w.before #[Value.ref b] s = true) (hgv : (Jvm.Cond.and given_1 narrow_1).before #[Value.ref b] s = true) : EV (fun q => s.heap.size ≤ q) s s.heap := by
  have hs := flat_of_before _ hgv
  have tw : ∀ {w : Cond}, w.onTables = true → w ∈ lw_tbl → va_Nw w s := fun {w} h1 h2 => va_Nw.of h1 (hts w h2)
  have hstr : ∀ q ∈ xStrs, ∃ a, vk_R "CircuitSimulator" q.1 q.2 a s :=
    List.forall_mem_cons.mpr ⟨law_str (hts (.stringRef "CircuitSimulator" 69 "no such kind, net, clock or state") (by decide +kernel)) (hs (.exactly (.string "CircuitSimulator" 69) "java/lang/String") (by decide +kernel)), List.forall_mem_cons.mpr ⟨law_str (hts (.stringRef "CircuitSimulator" 80 "the net has a driver that shares with none") (by decide +kernel)) (hs (.exactly (.string "CircuitSimulator" 80) "java/lang/String") (by decide +kernel)), List.forall_mem_cons.mpr ⟨law_str (hts (.stringRef "CircuitSimulator" 86 "no more cells can be made") (by decide +kernel)) (hs (.exactly (.string "CircuitSimulator" 86) "java/lang/String") (by decide +kernel)), List.forall_mem_cons.mpr ⟨law_str (hts (.stringRef "CircuitSimulator" 96 "no such template, kind, local net, clock or state") (by decide +kernel)) (hs (.exactly (.string "CircuitSimulator" 96) "java/lang/String") (by decide +kernel)), List.forall_mem_cons.mpr ⟨law_str (hts (.stringRef "CircuitSimulator" 102 "the template is full") (by decide +kernel)) (hs (.exactly (.string "CircuitSimulator" 102) "java/lang/String") (by decide +kernel)), List.forall_mem_cons.mpr ⟨law_str (hts (.stringRef "CircuitSimulator" 104 "no such template or net") (by decide +kernel)) (hs (.exactly (.string "CircuitSimulator" 104) "java/lang/String") (by decide +kernel)), List.forall_mem_cons.mpr ⟨law_str (hts (.stringRef "CircuitSimulator" 113 "a net would get drivers that cannot share it") (by decide +kernel)) (hs (.exactly (.string "CircuitSimulator" 113) "java/lang/String") (by decide +kernel)), List.forall_mem_cons.mpr ⟨law_str (hts (.stringRef "CircuitSimulator" 118 "too many cells or nets") (by decide +kernel)) (hs (.exactly (.string "CircuitSimulator" 118) "java/lang/String") (by decide +kernel)), List.forall_mem_cons.mpr ⟨law_str (hts (.stringRef "CircuitSimulator" 131 "there is a loop or a level that is too great") (by decide +kernel)) (hs (.exactly (.string "CircuitSimulator" 131) "java/lang/String") (by decide +kernel)), List.forall_mem_cons.mpr ⟨law_str (hts (.stringRef "CircuitSimulator" 142 "there is no loop") (by decide +kernel)) (hs (.exactly (.string "CircuitSimulator" 142) "java/lang/String") (by decide +kernel)), List.forall_mem_cons.mpr ⟨law_str (hts (.stringRef "CircuitSimulator" 148 "no such port") (by decide +kernel)) (hs (.exactly (.string "CircuitSimulator" 148) "java/lang/String") (by decide +kernel)), List.forall_mem_cons.mpr ⟨law_str (hts (.stringRef "CircuitSimulator" 150 "no such value") (by decide +kernel)) (hs (.exactly (.string "CircuitSimulator" 150) "java/lang/String") (by decide +kernel)), List.forall_mem_cons.mpr ⟨law_str (hts (.stringRef "CircuitSimulator" 152 "the circuit is not built") (by decide +kernel)) (hs (.exactly (.string "CircuitSimulator" 152) "java/lang/String") (by decide +kernel)), List.forall_mem_cons.mpr ⟨law_str (hts (.stringRef "CircuitSimulator" 164 "no such clock") (by decide +kernel)) (hs (.exactly (.string "CircuitSimulator" 164) "java/lang/String") (by decide +kernel)), List.forall_mem_cons.mpr ⟨law_str (hts (.stringRef "CircuitSimulator" 176 "no such net") (by decide +kernel)) (hs (.exactly (.string "CircuitSimulator" 176) "java/lang/String") (by decide +kernel)), List.forall_mem_cons.mpr ⟨law_str (hts (.stringRef "CircuitSimulator" 178 "a net cannot be stuck at that") (by decide +kernel)) (hs (.exactly (.string "CircuitSimulator" 178) "java/lang/String") (by decide +kernel)), List.forall_mem_cons.mpr ⟨law_str (hts (.stringRef "CircuitSimulator" 192 "no such register or latch") (by decide +kernel)) (hs (.exactly (.string "CircuitSimulator" 192) "java/lang/String") (by decide +kernel)), List.forall_mem_cons.mpr ⟨law_str (hts (.stringRef "CircuitSimulator" 211 "nothing is counted under that number") (by decide +kernel)) (hs (.exactly (.string "CircuitSimulator" 211) "java/lang/String") (by decide +kernel)), fun _ h => absurd h List.not_mem_nil⟩⟩⟩⟩⟩⟩⟩⟩⟩⟩⟩⟩⟩⟩⟩⟩⟩⟩
  have hdec : ∀ x ∈ xDecl, va_Nw (.declares x) s := List.forall_mem_cons.mpr ⟨tw rfl (by decide +kernel), List.forall_mem_cons.mpr ⟨tw rfl (by decide +kernel), List.forall_mem_cons.mpr ⟨tw rfl (by decide +kernel), fun _ h => absurd h List.not_mem_nil⟩⟩⟩
  have hcls : ∀ X ∈ xCls, ∀ Y ∈ xCls, xC X Y (decide (X = Y)) s :=
    List.forall_mem_cons.mpr ⟨List.forall_mem_cons.mpr ⟨xC_eq (hts (.castable "java/lang/IllegalArgumentException" "java/lang/IllegalArgumentException") (by decide +kernel)), List.forall_mem_cons.mpr ⟨xC_ne (by decide) (hs (.not (.castable "java/lang/IllegalArgumentException" "java/lang/UnsupportedOperationException")) (by decide +kernel)), List.forall_mem_cons.mpr ⟨xC_ne (by decide) (hs (.not (.castable "java/lang/IllegalArgumentException" "java/lang/IllegalStateException")) (by decide +kernel)), List.forall_mem_cons.mpr ⟨xC_ne (by decide) (hs (.not (.castable "java/lang/IllegalArgumentException" "java/util/NoSuchElementException")) (by decide +kernel)), fun _ h => absurd h List.not_mem_nil⟩⟩⟩⟩, List.forall_mem_cons.mpr ⟨List.forall_mem_cons.mpr ⟨xC_ne (by decide) (hs (.not (.castable "java/lang/UnsupportedOperationException" "java/lang/IllegalArgumentException")) (by decide +kernel)), List.forall_mem_cons.mpr ⟨xC_eq (hts (.castable "java/lang/UnsupportedOperationException" "java/lang/UnsupportedOperationException") (by decide +kernel)), List.forall_mem_cons.mpr ⟨xC_ne (by decide) (hs (.not (.castable "java/lang/UnsupportedOperationException" "java/lang/IllegalStateException")) (by decide +kernel)), List.forall_mem_cons.mpr ⟨xC_ne (by decide) (hs (.not (.castable "java/lang/UnsupportedOperationException" "java/util/NoSuchElementException")) (by decide +kernel)), fun _ h => absurd h List.not_mem_nil⟩⟩⟩⟩, List.forall_mem_cons.mpr ⟨List.forall_mem_cons.mpr ⟨xC_ne (by decide) (hs (.not (.castable "java/lang/IllegalStateException" "java/lang/IllegalArgumentException")) (by decide +kernel)), List.forall_mem_cons.mpr ⟨xC_ne (by decide) (hs (.not (.castable "java/lang/IllegalStateException" "java/lang/UnsupportedOperationException")) (by decide +kernel)), List.forall_mem_cons.mpr ⟨xC_eq (hts (.castable "java/lang/IllegalStateException" "java/lang/IllegalStateException") (by decide +kernel)), List.forall_mem_cons.mpr ⟨xC_ne (by decide) (hs (.not (.castable "java/lang/IllegalStateException" "java/util/NoSuchElementException")) (by decide +kernel)), fun _ h => absurd h List.not_mem_nil⟩⟩⟩⟩, List.forall_mem_cons.mpr ⟨List.forall_mem_cons.mpr ⟨xC_ne (by decide) (hs (.not (.castable "java/util/NoSuchElementException" "java/lang/IllegalArgumentException")) (by decide +kernel)), List.forall_mem_cons.mpr ⟨xC_ne (by decide) (hs (.not (.castable "java/util/NoSuchElementException" "java/lang/UnsupportedOperationException")) (by decide +kernel)), List.forall_mem_cons.mpr ⟨xC_ne (by decide) (hs (.not (.castable "java/util/NoSuchElementException" "java/lang/IllegalStateException")) (by decide +kernel)), List.forall_mem_cons.mpr ⟨xC_eq (hts (.castable "java/util/NoSuchElementException" "java/util/NoSuchElementException") (by decide +kernel)), fun _ h => absurd h List.not_mem_nil⟩⟩⟩⟩, fun _ h => absurd h List.not_mem_nil⟩⟩⟩⟩
  exact ⟨⟨tw rfl (by decide +kernel), tw rfl (by decide +kernel), tw rfl (by decide +kernel), tw rfl (by decide +kernel), tw rfl (by decide +kernel), law_tab hts hgv⟩, hdec, hstr, hcls, law_xL (hts _ (by decide +kernel)) (hs _ (by decide +kernel)) (hts _ (by decide +kernel)), law_xL (hts _ (by decide +kernel)) (hs _ (by decide +kernel)) (hts _ (by decide +kernel))⟩
set_option maxHeartbeats 4000000 in
theorem whole_start {p : Program} {e : Env} {s : State} {m : MethodId} {below : List Frame} {meth : Method} {c : Code} (l : Launch) (hoff : xOff l) {b L : Nat} {xs : Nat → Int32} (hL : L ≤ 3584) (C0 : lw_At p s m meth c b L xs) : W p l e room_1 s m #[Value.ref b] below meth c s.heap [] 0 0 (lw_Z below #[Value.ref b] s) (entryFrame m ([Value.ref b] : List Value).toArray 7) := by
  obtain ⟨hx, hb, hr, hml, hown, hts, hX, hbl, hlocks, hgv⟩ := id C0
  have htG : ∀ w ∈ lG, w.before #[Value.ref b] s = true := fun w hw => hts w (lG_in hw)
  obtain ⟨k0, iS0, hKn0⟩ := u_known (C := "CircuitSimulator$Cells") (T := T_Cells) (N := 7) (n := 7) htG i_Cells (hts (.instantiable "CircuitSimulator$Cells" 7) (by decide +kernel))
  obtain ⟨k1, iS1, hKn1⟩ := u_known (C := "CircuitSimulator$Dependence") (T := T_Dependence) (N := 2) (n := 2) htG i_Dependence (hts (.instantiable "CircuitSimulator$Dependence" 2) (by decide +kernel))
  obtain ⟨k2, iS2, hKn2⟩ := u_known (C := "CircuitSimulator$Levels") (T := T_Levels) (N := 6) (n := 6) htG i_Levels (hts (.instantiable "CircuitSimulator$Levels" 6) (by decide +kernel))
  obtain ⟨k3, iS3, hKn3⟩ := u_known (C := "CircuitSimulator$Nets") (T := T_Nets) (N := 5) (n := 5) htG i_Nets (hts (.instantiable "CircuitSimulator$Nets" 5) (by decide +kernel))
  obtain ⟨k4, iS4, hKn4⟩ := u_known (C := "CircuitSimulator$Placement") (T := T_Placement) (N := 3) (n := 3) htG i_Placement (hts (.instantiable "CircuitSimulator$Placement" 3) (by decide +kernel))
  obtain ⟨k5, iS5, hKn5⟩ := u_known (C := "CircuitSimulator") (T := T_CS) (N := 9) (n := 9) htG i_CS (hts (.instantiable "CircuitSimulator" 9) (by decide +kernel))
  obtain ⟨k6, iS6, hKn6⟩ := u_known (C := "CircuitSimulatorModel") (T := T_Model) (N := 25) (n := 25) htG i_Model (hts (.instantiable "CircuitSimulatorModel" 25) (by decide +kernel))
  obtain ⟨cI, hcI⟩ := law_arr_int (hts (.arrayClass .int) (by decide +kernel))
  obtain ⟨cL, hcL⟩ := law_arr_long (hts (.arrayClass .long) (by decide +kernel))
  obtain ⟨cB, hcB⟩ := law_arr_boolean (hts (.arrayClass .boolean) (by decide +kernel))
  obtain ⟨dC, dI, hKc⟩ : ∃ (dC : Nat → ClassId) (dI : Nat → Nat → Nat), ∀ (k : Nat) (q : vw_C), classes[k]? = some q → u_Kn s q.1 q.2.1 q.2.2 (dC k) (dI k) := by
    refine ⟨fun k => if k = 0 then k0 else if k = 1 then k1 else if k = 2 then k2 else if k = 3 then k3 else if k = 4 then k4 else if k = 5 then k5 else k6, fun k => if k = 0 then iS0 else if k = 1 then iS1 else if k = 2 then iS2 else if k = 3 then iS3 else if k = 4 then iS4 else if k = 5 then iS5 else iS6, ?_⟩
    intro k q hq
    match k, hq with
    | 0, hq => cases hq; exact hKn0
    | 1, hq => cases hq; exact hKn1
    | 2, hq => cases hq; exact hKn2
    | 3, hq => cases hq; exact hKn3
    | 4, hq => cases hq; exact hKn4
    | 5, hq => cases hq; exact hKn5
    | 6, hq => cases hq; exact hKn6
    | k + 7, hq => simp [classes] at hq
  have hK : va_K (dC, dI) classes (TY cI cL cB) s := ⟨hKc, fun k q hq => by
    match k, hq with
    | 0, hq => cases hq; exact hcI
    | 1, hq => cases hq; exact hcL
    | 2, hq => cases hq; exact hcB
    | k + 3, hq => simp [TY] at hq⟩
  have F : Fx p s m #[Value.ref b] meth c code 7 "CircuitSimulatorLaw" (fun q => s.heap.size ≤ q) (dC, dI) classes (TY cI cL cB) := ⟨⟨hx, hb, hml, hown, htG⟩, hlocks, hK, fun _ h => h, law_EV hts hgv⟩
  have hl := lv_entry ([.ref b]) (n := 7) (Nat.le_of_ble_eq_true rfl)
  rw [lg_entry_eq]
  generalize (lg_sl ([.ref b]) ++ List.replicate (7 - (lg_sl ([.ref b])).length) Slot.unset).toArray = ls at hl ⊢
  have hl : lv_has ls 7 [(0, .ref b)] := hl
  exact law_start (p_ := p) (l := l) (e_ := e) (below_ := below) (Q_ := lw_Z below #[Value.ref b] s) F hX hbl (Nat.not_le.mpr hbl) hoff hL hr (fun _ h => h) rfl ls s.heap [] hl (fun k q h => by simp at h) ⟨fun i j p q h => by simp at h, fun k q h => by simp at h⟩ va_S.rf
