/-! pure rows for cell, part, instance -/
theorem vin_ex {x : Int32} {m : Nat} (h : vp_in x m) (hm : m < 2 ^ 31) : ∃ j, j < m ∧ x = nI j := ⟨x.toNatClampNeg, vp_lt h, vin_nI h hm⟩
theorem Fits_n {kn : Nat} {ot a b c : Int32} {m : Nat} (hk : kn ≤ 8) : Fits (nI kn) ot a b c m ↔ (vp_in ot m ∧ FitsM kn a b c m) := by
  rw [Fits_iff, nI_clamp (by omega)]
  exact ⟨fun h => h.2, fun h => ⟨vp_in_nI (by omega) (by omega), h⟩⟩
theorem in18 {x : Int32} : (¬ x < 1 ∧ ¬ 8 < x) ↔ (vp_in x 9 ∧ x ≠ 0) := by
  constructor
  · rintro ⟨a, b⟩
    have h0 : ¬ x < 0 := fun z => a (Int32.lt_trans z (by decide))
    refine ⟨(in_iff (m := 9) (by decide) (by decide)).mp ⟨h0, b⟩, fun z => ?_⟩
    subst z
    exact a (by decide)
  · rintro ⟨a, b⟩
    refine ⟨fun z => ?_, ((in_iff (m := 9) (by decide) (by decide)).mpr a).2⟩
    obtain ⟨j, hj, rfl⟩ := vin_ex a (by decide)
    have : nI j < nI 1 := z
    have := (nI_ltI (by omega) (by decide)).mp this
    have e : j = 0 := by omega
    subst e
    exact b rfl
/-- a template's parts -/
def WfT (n : Nat) (k o : Nat → Nat) (A B C : Nat → Int32) : Prop := WfC 10 n k o A B C ∧ ∀ i, i < n → 1 ≤ k i
theorem inp1 {a : Nat} (h : 1 ≤ a) : 0 < inpN a := by unfold inpN; (repeat' split) <;> omega
theorem locN_lt {x y nn : Nat} {Nm : Nat → Prop} {l : Nat} (hx : x < nn) (hy : y < nn) (hl : l < 10) : locN x y nn Nm l < nn + 10 := by
  unfold locN
  split
  · omega
  · split
    · omega
    · have := cnt_le (fun t => 2 ≤ t ∧ Nm t) l
      omega
theorem MayD_congr {n : Nat} {k o : Nat → Nat} {j j' d : Nat} (h : j = j') : MayD n k o j d ↔ MayD n k o j' d := by rw [h]
theorem Stands.congr {n n2 : Nat} {k o k2 o2 no no' : Nat → Nat} (e : ∀ i, i < n2 → no (o2 i) = no' (o2 i)) : Stands n k o n2 k2 o2 no ↔ Stands n k o n2 k2 o2 no' := by
  have key : ∀ (no no' : Nat → Nat), (∀ i, i < n2 → no (o2 i) = no' (o2 i)) → Stands n k o n2 k2 o2 no → Stands n k o n2 k2 o2 no' := by
    intro no no' e h i hi
    obtain ⟨h1, h2⟩ := h i hi
    refine ⟨by rw [← e i hi]; exact h1, fun z => h2 ?_⟩
    obtain ⟨t, ht, h3, h4⟩ := z
    exact ⟨t, ht, by rw [e t (by omega), e i hi]; exact h3, h4⟩
  exact ⟨key _ _ e, key _ _ (fun i hi => (e i hi).symm)⟩
theorem plc_congr {k2 : Nat → Nat} {A2 B2 C2 : Nat → Int32} {no no' : Nat → Nat} {x p : Nat} (e : p < inpN (k2 x) → no (iN A2 B2 C2 x p) = no' (iN A2 B2 C2 x p)) : plc k2 A2 B2 C2 no x p = plc k2 A2 B2 C2 no' x p := by
  unfold plc
  split
  next h => rw [e h]
  next => rfl
theorem Copied.congr {n i : Nat} {k o : Nat → Nat} {A B C : Nat → Int32} {q k2 o2 : Nat → Nat} {A2 B2 C2 : Nat → Int32} {no no' : Nat → Nat} {k3 o3 : Nat → Nat} {A3 B3 C3 : Nat → Int32} {q3 : Nat → Nat} (h : Copied n k o A B C q k2 o2 A2 B2 C2 no i k3 o3 A3 B3 C3 q3)
    (e1 : ∀ x, x < i → no (o2 x) = no' (o2 x)) (e2 : ∀ x p, x < i → p < inpN (k2 x) → no (iN A2 B2 C2 x p) = no' (iN A2 B2 C2 x p)) : Copied n k o A B C q k2 o2 A2 B2 C2 no' i k3 o3 A3 B3 C3 q3 := by
  refine ⟨h.1, fun x hx => ?_⟩
  obtain ⟨a, b, c, d, f, g⟩ := h.2 x hx
  exact ⟨a, by rw [b, e1 x hx], by rw [c, plc_congr (e2 x 0 hx)], by rw [d, plc_congr (e2 x 1 hx)], by rw [f, plc_congr (e2 x 2 hx)], g⟩
theorem Stands.loc {nn n n2 x y : Nat} {k o k2 o2 no : Nat → Nat} {A2 B2 C2 : Nat → Int32} (hw : WfC 10 n2 k2 o2 A2 B2 C2) (e : ∀ l, l < 10 → (l < 2 ∨ Nmd n2 k2 o2 A2 B2 C2 l) → no l = locN x y nn (Nmd n2 k2 o2 A2 B2 C2) l) : Stands n k o n2 k2 o2 no ↔ Stands n k o n2 k2 o2 (locN x y nn (Nmd n2 k2 o2 A2 B2 C2)) :=
  Stands.congr (fun i hi => e _ (hw i hi).2.1 (Or.inr ⟨i, hi, Or.inl rfl⟩))
theorem Copied.loc {nn n n2 x y : Nat} {k o k2 o2 no : Nat → Nat} {A B C : Nat → Int32} {q : Nat → Nat} {A2 B2 C2 : Nat → Int32} {k3 o3 : Nat → Nat} {A3 B3 C3 : Nat → Int32} {q3 : Nat → Nat} (hw : WfC 10 n2 k2 o2 A2 B2 C2) (e : ∀ l, l < 10 → (l < 2 ∨ Nmd n2 k2 o2 A2 B2 C2 l) → no l = locN x y nn (Nmd n2 k2 o2 A2 B2 C2) l) (h : Copied n k o A B C q k2 o2 A2 B2 C2 no n2 k3 o3 A3 B3 C3 q3) : Copied n k o A B C q k2 o2 A2 B2 C2 (locN x y nn (Nmd n2 k2 o2 A2 B2 C2)) n2 k3 o3 A3 B3 C3 q3 :=
  h.congr (fun i hi => e _ (hw i hi).2.1 (Or.inr ⟨i, hi, Or.inl rfl⟩)) (fun i p hi hp => e _ (vp_lt ((hw i hi).2.2.1 p hp)) (Or.inr ⟨i, hi, Or.inr ⟨p, hp, rfl⟩⟩))
theorem plc_t {k : Nat → Nat} {A B C : Nat → Int32} {no : Nat → Nat} {i p : Nat} (h : p < inpN (k i)) : nI (no (iN A B C i p)) = plc k A B C no i p := by unfold plc; rw [if_pos h]
theorem plc_f {k : Nat → Nat} {A B C : Nat → Int32} {no : Nat → Nat} {i p : Nat} (h : ¬ p < inpN (k i)) : inP A B C i p = plc k A B C no i p := by unfold plc; rw [if_neg h]
theorem sw_0_7 {x : Int32} (h1 : 0 ≤ x.toInt) (h2 : x.toInt ≤ 7) : x = 0 ∨ x = 1 ∨ x = 2 ∨ x = 3 ∨ x = 4 ∨ x = 5 ∨ x = 6 ∨ x = 7 := by
  have h : x.toInt = 0 ∨ x.toInt = 1 ∨ x.toInt = 2 ∨ x.toInt = 3 ∨ x.toInt = 4 ∨ x.toInt = 5 ∨ x.toInt = 6 ∨ x.toInt = 7 := by omega
  rcases h with e | e | e | e | e | e | e | e
  · exact Or.inl (Int32.toInt_inj.mp (by rw [e]; decide))
  · exact Or.inr (Or.inl (Int32.toInt_inj.mp (by rw [e]; decide)))
  · exact Or.inr (Or.inr (Or.inl (Int32.toInt_inj.mp (by rw [e]; decide))))
  · exact Or.inr (Or.inr (Or.inr (Or.inl (Int32.toInt_inj.mp (by rw [e]; decide)))))
  · exact Or.inr (Or.inr (Or.inr (Or.inr (Or.inl (Int32.toInt_inj.mp (by rw [e]; decide))))))
  · exact Or.inr (Or.inr (Or.inr (Or.inr (Or.inr (Or.inl (Int32.toInt_inj.mp (by rw [e]; decide)))))))
  · exact Or.inr (Or.inr (Or.inr (Or.inr (Or.inr (Or.inr (Or.inl (Int32.toInt_inj.mp (by rw [e]; decide))))))))
  · exact Or.inr (Or.inr (Or.inr (Or.inr (Or.inr (Or.inr (Or.inr ((Int32.toInt_inj.mp (by rw [e]; decide)))))))))
theorem sw_0_13 {x : Int32} (h1 : 0 ≤ x.toInt) (h2 : x.toInt ≤ 13) : x = 0 ∨ x = 1 ∨ x = 2 ∨ x = 3 ∨ x = 4 ∨ x = 5 ∨ x = 6 ∨ x = 7 ∨ x = 8 ∨ x = 9 ∨ x = 10 ∨ x = 11 ∨ x = 12 ∨ x = 13 := by
  have h : x.toInt = 0 ∨ x.toInt = 1 ∨ x.toInt = 2 ∨ x.toInt = 3 ∨ x.toInt = 4 ∨ x.toInt = 5 ∨ x.toInt = 6 ∨ x.toInt = 7 ∨ x.toInt = 8 ∨ x.toInt = 9 ∨ x.toInt = 10 ∨ x.toInt = 11 ∨ x.toInt = 12 ∨ x.toInt = 13 := by omega
  rcases h with e | e | e | e | e | e | e | e | e | e | e | e | e | e
  · exact Or.inl (Int32.toInt_inj.mp (by rw [e]; decide))
  · exact Or.inr (Or.inl (Int32.toInt_inj.mp (by rw [e]; decide)))
  · exact Or.inr (Or.inr (Or.inl (Int32.toInt_inj.mp (by rw [e]; decide))))
  · exact Or.inr (Or.inr (Or.inr (Or.inl (Int32.toInt_inj.mp (by rw [e]; decide)))))
  · exact Or.inr (Or.inr (Or.inr (Or.inr (Or.inl (Int32.toInt_inj.mp (by rw [e]; decide))))))
  · exact Or.inr (Or.inr (Or.inr (Or.inr (Or.inr (Or.inl (Int32.toInt_inj.mp (by rw [e]; decide)))))))
  · exact Or.inr (Or.inr (Or.inr (Or.inr (Or.inr (Or.inr (Or.inl (Int32.toInt_inj.mp (by rw [e]; decide))))))))
  · exact Or.inr (Or.inr (Or.inr (Or.inr (Or.inr (Or.inr (Or.inr (Or.inl (Int32.toInt_inj.mp (by rw [e]; decide)))))))))
  · exact Or.inr (Or.inr (Or.inr (Or.inr (Or.inr (Or.inr (Or.inr (Or.inr (Or.inl (Int32.toInt_inj.mp (by rw [e]; decide))))))))))
  · exact Or.inr (Or.inr (Or.inr (Or.inr (Or.inr (Or.inr (Or.inr (Or.inr (Or.inr (Or.inl (Int32.toInt_inj.mp (by rw [e]; decide)))))))))))
  · exact Or.inr (Or.inr (Or.inr (Or.inr (Or.inr (Or.inr (Or.inr (Or.inr (Or.inr (Or.inr (Or.inl (Int32.toInt_inj.mp (by rw [e]; decide))))))))))))
  · exact Or.inr (Or.inr (Or.inr (Or.inr (Or.inr (Or.inr (Or.inr (Or.inr (Or.inr (Or.inr (Or.inr (Or.inl (Int32.toInt_inj.mp (by rw [e]; decide)))))))))))))
  · exact Or.inr (Or.inr (Or.inr (Or.inr (Or.inr (Or.inr (Or.inr (Or.inr (Or.inr (Or.inr (Or.inr (Or.inr (Or.inl (Int32.toInt_inj.mp (by rw [e]; decide))))))))))))))
  · exact Or.inr (Or.inr (Or.inr (Or.inr (Or.inr (Or.inr (Or.inr (Or.inr (Or.inr (Or.inr (Or.inr (Or.inr (Or.inr ((Int32.toInt_inj.mp (by rw [e]; decide)))))))))))))))
