/-! PURE: templates in the model; the numbers of a cell -/
def sh {α : Type} (tm : Nat) (f : Nat → α) : Nat → α := fun i => f (10 * tm + i)
theorem loc_all {x y nn i v : Nat} {Nm : Nat → Prop} {lo : Nat → Nat} (h : ∀ l, l < i → lo l = locN x y nn Nm l) (hv : v = locN x y nn Nm i) : ∀ l, l < i + 1 → up lo i v l = locN x y nn Nm l := up_all h hv
theorem loc0 {x y nn : Nat} {Nm : Nat → Prop} {i : Nat} (h : i = 0) : x = locN x y nn Nm i := by unfold locN; rw [if_pos h]
theorem loc1 {x y nn : Nat} {Nm : Nat → Prop} {i : Nat} (h : i = 1) : y = locN x y nn Nm i := by unfold locN; rw [if_neg (by omega), if_pos h]
theorem loc2 {x y nn n4 : Nat} {Nm : Nat → Prop} {i : Nat} (h0 : i ≠ 0) (h1 : i ≠ 1) (h : n4 = nn + cnt (fun t => 2 ≤ t ∧ Nm t) i) : n4 = locN x y nn Nm i := by unfold locN; rw [if_neg h0, if_neg h1]; exact h
theorem nm_step {tm l p nv : Nat} {tk to : Nat → Nat} {tA tB tC : Nat → Int32} {P : Prop} (h : nv = 1 ↔ Nmd p (sh tm tk) (sh tm to) (sh tm tA) (sh tm tB) (sh tm tC) l) (hP : P ↔ (to (10 * tm + p) = l ∨ ∃ q, q < inpN (tk (10 * tm + p)) ∧ iN tA tB tC (10 * tm + p) q = l)) : (nv = 1 ∨ P) ↔ Nmd (p + 1) (sh tm tk) (sh tm to) (sh tm tA) (sh tm tB) (sh tm tC) l := by
  rw [h, hP]
  constructor
  · rintro (⟨c, hc, e⟩ | z)
    · exact ⟨c, by omega, e⟩
    · exact ⟨p, by omega, z⟩
  · rintro ⟨c, hc, e⟩
    by_cases q : c = p
    · subst q; exact Or.inr e
    · exact Or.inl ⟨c, by omega, e⟩
theorem Fits_iff {kd ot a b c : Int32} {m : Nat} : Fits kd ot a b c m ↔ (vp_in kd 9 ∧ vp_in ot m ∧ FitsM kd.toNatClampNeg a b c m) := by
  have e8 : vp_in kd 9 → (kd = 8 ↔ kd.toNatClampNeg = 8) := fun h => by
    obtain ⟨j, hj, rfl⟩ := vp_in_of h (by decide)
    rw [nI_clamp (by omega)]
    exact nI_eq (a := j) (b := 8) (by omega) (by decide)
  constructor
  · rintro ⟨h1, h2, h3, h4, h5, h6⟩
    exact ⟨h1, h2, h3, h4, h5, fun z => h6 ((e8 h1).mpr z)⟩
  · rintro ⟨h1, h2, h3, h4, h5, h6⟩
    exact ⟨h1, h2, h3, h4, h5, fun z => h6 ((e8 h1).mp z)⟩
