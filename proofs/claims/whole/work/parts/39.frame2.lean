section QV2
variable {p : Program} {l : Launch} {e : Env} {R : Room} {s : State} {m : MethodId} {args : Array Value} {below : List Frame} {meth : Method} {c : Code} {A : Nat → Prop} {Q : State → Prop} {D : va_G} {cl : List vw_C} {tys : List (ClassId × FieldType)} {nL cells slots : Nat} {cc : ByteArray} {own : String} {w : va_W} {lv : List (Nat × Value)} {st : List Value} {pc : Nat}
theorem st_neg {a : Nat} (ha : a < 2 ^ 31) : nI a - 1 < 0 ↔ a = 0 := by
  constructor
  · intro h
    by_cases q : a = 0
    · exact q
    · rw [st_sub (by omega)] at h
      exact absurd h (nI_pos (by omega))
  · intro h; rw [h]; decide
theorem V_ifs_lt (F : Fx p s m args meth c cc nL own A D cl tys) {a : Nat} {off : Int} (tgt : Nat) (ha : a < 2 ^ 31) (d : decode cc pc = .ok (.ifCond .lt off, 3)) (ht : (pc : Int) + off = (tgt : Int)) (kt : a = 0 → V p l e R s m args below meth c A Q D cl nL cells slots w tgt lv st) (kf : a ≠ 0 → V p l e R s m args below meth c A Q D cl nL cells slots w (pc + 3) lv st) : V p l e R s m args below meth c A Q D cl nL cells slots w pc lv (.int (nI a - 1) :: st) :=
  V_if_lt F tgt d ht (fun h => kt ((st_neg ha).mp h)) (fun h => kf (fun q => h ((st_neg ha).mpr q)))
end QV2
theorem dep_t {k : Nat} (h : k ≠ 0 ∧ k ≠ 8) : inpN k = depN k := by unfold depN; rw [if_neg h.2]
theorem dep_f {k : Nat} (h : ¬ (k ≠ 0 ∧ k ≠ 8)) : 0 = depN k := by
  unfold depN
  by_cases q : k = 8
  · rw [if_pos q]
  · have : k = 0 := Classical.byContradiction fun z => h ⟨z, q⟩
    rw [if_neg q, this]; rfl
theorem R0_m {i : Nat} {k o : Nat → Nat} {A B C : Nat → Int32} {m : Nat} (hm : depN (k i) ≤ m) (a b : Nat) : (R0 i k o A B C a b ∨ (o i = a ∧ ∃ t, (t < m ∧ t < depN (k i)) ∧ iN A B C i t = b)) ↔ R0 (i + 1) k o A B C a b := by
  constructor
  · rintro (⟨c, hc, e⟩ | ⟨e1, t, ht, e2⟩)
    · exact ⟨c, by omega, e⟩
    · exact ⟨i, by omega, e1, t, ht.2, e2⟩
  · rintro ⟨c, hc, e1, t, ht, e2⟩
    by_cases q : c = i
    · subst q; exact Or.inr ⟨e1, t, ⟨by omega, ht⟩, e2⟩
    · exact Or.inl ⟨c, by omega, e1, t, ht, e2⟩
theorem R0_m0 {i : Nat} {k o : Nat → Nat} {A B C : Nat → Int32} (a b : Nat) : R0 i k o A B C a b ↔ (R0 i k o A B C a b ∨ (o i = a ∧ ∃ t, (t < 0 ∧ t < depN (k i)) ∧ iN A B C i t = b)) :=
  ⟨Or.inl, fun z => z.elim id (fun ⟨_, t, ht, _⟩ => absurd ht.1 (Nat.not_lt_zero t))⟩
theorem R0_mt {i m : Nat} {k o : Nat → Nat} {A B C : Nat → Int32} (hm : m < depN (k i)) (a b : Nat) : ((R0 i k o A B C a b ∨ (o i = a ∧ ∃ t, (t < m ∧ t < depN (k i)) ∧ iN A B C i t = b)) ∨ (a = o i ∧ b = iN A B C i m)) ↔ (R0 i k o A B C a b ∨ (o i = a ∧ ∃ t, (t < m + 1 ∧ t < depN (k i)) ∧ iN A B C i t = b)) := by
  constructor
  · rintro ((z | ⟨e, t, ht, f⟩) | ⟨e, f⟩)
    · exact Or.inl z
    · exact Or.inr ⟨e, t, ⟨by omega, ht.2⟩, f⟩
    · exact Or.inr ⟨e.symm, m, ⟨by omega, hm⟩, f.symm⟩
  · rintro (z | ⟨e, t, ht, f⟩)
    · exact Or.inl (Or.inl z)
    · by_cases q : t = m
      · subst q; exact Or.inr ⟨e.symm, f.symm⟩
      · exact Or.inl (Or.inr ⟨e, t, ⟨by omega, ht.2⟩, f⟩)
theorem R0_mf {i m : Nat} {k o : Nat → Nat} {A B C : Nat → Int32} (hm : depN (k i) ≤ m) (a b : Nat) : (R0 i k o A B C a b ∨ (o i = a ∧ ∃ t, (t < m ∧ t < depN (k i)) ∧ iN A B C i t = b)) ↔ (R0 i k o A B C a b ∨ (o i = a ∧ ∃ t, (t < m + 1 ∧ t < depN (k i)) ∧ iN A B C i t = b)) := by
  constructor
  · rintro (z | ⟨e, t, ht, f⟩)
    · exact Or.inl z
    · exact Or.inr ⟨e, t, ⟨by omega, ht.2⟩, f⟩
  · rintro (z | ⟨e, t, ht, f⟩)
    · exact Or.inl z
    · exact Or.inr ⟨e, t, ⟨by omega, ht.2⟩, f⟩
theorem evc_1 {k : Nat → Nat} {A B C : Nat → Int32} {q v : Nat → Nat} {i : Nat} (h : k i = 1) : evc k A B C q v i = ev1 (asI (v (iN A B C i 0))) := by unfold evc; rw [h]; rfl
theorem evc_2 {k : Nat → Nat} {A B C : Nat → Int32} {q v : Nat → Nat} {i : Nat} (h : k i = 2) : evc k A B C q v i = ev2 (asI (v (iN A B C i 0))) (asI (v (iN A B C i 1))) := by unfold evc; rw [h]; rfl
theorem evc_3 {k : Nat → Nat} {A B C : Nat → Int32} {q v : Nat → Nat} {i : Nat} (h : k i = 3) : evc k A B C q v i = ev3 (asI (v (iN A B C i 0))) (asI (v (iN A B C i 1))) := by unfold evc; rw [h]; rfl
theorem evc_4 {k : Nat → Nat} {A B C : Nat → Int32} {q v : Nat → Nat} {i : Nat} (h : k i = 4) : evc k A B C q v i = ev4 (asI (v (iN A B C i 0))) (asI (v (iN A B C i 1))) := by unfold evc; rw [h]; rfl
theorem evc_5 {k : Nat → Nat} {A B C : Nat → Int32} {q v : Nat → Nat} {i : Nat} (h : k i = 5) : evc k A B C q v i = ev5 (asI (v (iN A B C i 0))) (asI (v (iN A B C i 1))) (asI (v (iN A B C i 2))) := by unfold evc; rw [h]; rfl
theorem evc_6 {k : Nat → Nat} {A B C : Nat → Int32} {q v : Nat → Nat} {i : Nat} (h : k i = 6) : evc k A B C q v i = ev6 (asI (v (iN A B C i 0))) (asI (v (iN A B C i 1))) := by unfold evc; rw [h]; rfl
theorem evc_7 {k : Nat → Nat} {A B C : Nat → Int32} {q v : Nat → Nat} {i : Nat} (h : k i = 7) : evc k A B C q v i = ev7 (asI (v (iN A B C i 0))) (asI (v (iN A B C i 1))) (q i) := by unfold evc; rw [h]; rfl
theorem jf_skip {o d : Nat → Nat} {j n : Nat} (h : o n ≠ j) : jf o d j (n + 1) = jf o d j n := by
  show (if o n = j then _ else _) = _
  rw [if_neg h]
theorem jf_take {o d : Nat → Nat} {j n : Nat} (h : o n = j) : jf o d j (n + 1) = jn (jf o d j n) (d n) := by
  show (if o n = j then _ else _) = _
  rw [if_pos h]
theorem dep_lt {k p : Nat} (h0 : k ≠ 0) (h8 : k ≠ 8) (hp : p < inpN k) : p < depN k := by unfold depN; rw [if_neg h8]; exact hp
theorem IsMax.up1 {f : Nat → Nat} {n m : Nat} (h : IsMax f n m) (hm : m < f n) : IsMax f (n + 1) (f n) := by
  refine ⟨fun j hj => ?_, Or.inr ⟨n, by omega, rfl⟩⟩
  by_cases q : j = n
  · subst q; exact Nat.le_refl _
  · have := h.1 j (by omega); omega
theorem IsMax.up2 {f : Nat → Nat} {n m : Nat} (h : IsMax f n m) (hm : f n ≤ m) : IsMax f (n + 1) m := by
  refine ⟨fun j hj => ?_, h.2.imp id (fun ⟨j, hj, e⟩ => ⟨j, by omega, e⟩)⟩
  by_cases q : j = n
  · subst q; exact hm
  · exact h.1 j (by omega)
theorem IsMax.le {f : Nat → Nat} {n m M : Nat} (h : IsMax f n m) (hM : ∀ j, f j ≤ M) : m ≤ M := by
  rcases h.2 with e | ⟨j, -, e⟩
  · omega
  · have := hM j; omega
