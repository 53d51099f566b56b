/-! PURE: rows for copyInto and for the model -/
def Copied (n : Nat) (k o : Nat → Nat) (A B C : Nat → Int32) (q : Nat → Nat) (k2 o2 : Nat → Nat) (A2 B2 C2 : Nat → Int32) (no : Nat → Nat) (i : Nat) (k3 o3 : Nat → Nat) (A3 B3 C3 : Nat → Int32) (q3 : Nat → Nat) : Prop :=
  (∀ t, ¬ (n ≤ t ∧ t < n + i) → k3 t = k t ∧ o3 t = o t ∧ A3 t = A t ∧ B3 t = B t ∧ C3 t = C t ∧ q3 t = q t) ∧ ∀ x, x < i → k3 (n + x) = k2 x ∧ o3 (n + x) = no (o2 x) ∧ A3 (n + x) = plc k2 A2 B2 C2 no x 0 ∧ B3 (n + x) = plc k2 A2 B2 C2 no x 1 ∧ C3 (n + x) = plc k2 A2 B2 C2 no x 2 ∧ q3 (n + x) = if k2 x = 8 then (C2 x).toNatClampNeg else 2
theorem Copied.start {n : Nat} {k o : Nat → Nat} {A B C : Nat → Int32} {q k2 o2 : Nat → Nat} {A2 B2 C2 : Nat → Int32} {no : Nat → Nat} : Copied n k o A B C q k2 o2 A2 B2 C2 no 0 k o A B C q := ⟨fun t _ => ⟨rfl, rfl, rfl, rfl, rfl, rfl⟩, fun x hx => absurd hx (Nat.not_lt_zero x)⟩
theorem Copied.step {n i s : Nat} {k o : Nat → Nat} {A B C : Nat → Int32} {q k2 o2 : Nat → Nat} {A2 B2 C2 : Nat → Int32} {no k3 o3 : Nat → Nat} {A3 B3 C3 : Nat → Int32} {q3 q4 : Nat → Nat} (hs : s = n + i) (h : Copied n k o A B C q k2 o2 A2 B2 C2 no i k3 o3 A3 B3 C3 q3) (e : q4 = up q3 s (if k2 i = 8 then (C2 i).toNatClampNeg else 2)) :
    Copied n k o A B C q k2 o2 A2 B2 C2 no (i + 1) (up k3 s (k2 i)) (up o3 s (no (o2 i))) (upd A3 s (plc k2 A2 B2 C2 no i 0)) (upd B3 s (plc k2 A2 B2 C2 no i 1)) (upd C3 s (plc k2 A2 B2 C2 no i 2)) q4 := by
  subst hs; subst e
  refine ⟨fun t ht => ?_, fun x hx => ?_⟩
  · have hne : t ≠ n + i := by omega
    rw [up_n hne, up_n hne, pk_un hne, pk_un hne, pk_un hne, up_n hne]
    exact h.1 t (by omega)
  · by_cases z : x = i
    · subst z
      rw [up_s, up_s, pk_us, pk_us, pk_us, up_s]
      exact ⟨rfl, rfl, rfl, rfl, rfl, rfl⟩
    · have hne : n + x ≠ n + i := by omega
      rw [up_n hne, up_n hne, pk_un hne, pk_un hne, pk_un hne, up_n hne]
      exact h.2 x (by omega)
theorem in_iff {x : Int32} {m : Nat} (h1 : 1 ≤ m) (hm : m < 2 ^ 31) : (¬ x < 0 ∧ ¬ nI (m - 1) < x) ↔ vp_in x m := by
  constructor
  · rintro ⟨a, b⟩
    obtain ⟨j, hj, rfl⟩ := nI_of a
    refine vp_in_nI ?_ hm
    have := Nat.not_lt.mp (fun q => b ((nI_ltI (by omega) hj).mpr q))
    omega
  · intro h
    obtain ⟨j, hj, rfl⟩ := vp_in_of h hm
    exact ⟨nI_pos (by omega), fun q => by have := (nI_ltI (by omega) (by omega)).mp q; omega⟩
def FitsM (kn : Nat) (a b c : Int32) (m : Nat) : Prop := (0 < inpN kn → vp_in a m) ∧ (1 < inpN kn → vp_in b m) ∧ (2 < inpN kn → vp_in c m) ∧ (kn = 8 → vp_in b 2 ∧ vp_in c 3)
/-- the rounds of levels, and their end -/
theorem rel_t {k o : Nat → Nat} {A B C : Nat → Int32} {b : Nat → Nat} {c : Nat} (h : b (o c) < mdc k A B C b c + 1) : rel k o A B C b c = up b (o c) (mdc k A B C b c + 1) := if_pos h
theorem rel_f {k o : Nat → Nat} {A B C : Nat → Int32} {b : Nat → Nat} {c : Nat} (h : ¬ b (o c) < mdc k A B C b c + 1) : rel k o A B C b c = b := if_neg h
/-- the greatest of the first n -/
def IsMax (f : Nat → Nat) (n m : Nat) : Prop := (∀ j, j < n → f j ≤ m) ∧ (m = 0 ∨ ∃ j, j < n ∧ f j = m)
theorem IsMax.uniq {f g : Nat → Nat} {n m m' : Nat} (h : IsMax f n m) (h' : IsMax g n m') (e : ∀ j, j < n → f j = g j) : m = m' := by
  have a : m ≤ m' := by
    rcases h.2 with z | ⟨j, hj, q⟩
    · omega
    · have := h'.1 j hj; have := e j hj; omega
  have b : m' ≤ m := by
    rcases h'.2 with z | ⟨j, hj, q⟩
    · omega
    · have := h.1 j hj; have := e j hj; omega
  omega
