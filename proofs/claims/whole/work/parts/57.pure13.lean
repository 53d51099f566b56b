/-! pure rows for the class's public methods -/
theorem Ranked.gr30 {nn n : Nat} {k o : Nat → Nat} {A B C : Nat → Int32} {g od : Nat → Nat} {gr : Nat} (h : Ranked nn n k o A B C g od gr) : gr ≤ 30 := by
  rcases h.2.2.2.2.2 with e | ⟨j, hj, e⟩
  · omega
  · rw [← e]; exact h.2.1 j hj
theorem RI_rk {nets n : Nat} {k o : Nat → Nat} {A B C : Nat → Int32} {oc gr : Nat} {g w ord : Nat → Nat} {od : Nat → Prop} (hwf : WfC nets n k o A B C) (h : RI nets n k o A B C 31 0 g w od ord oc gr) (hoc : oc = n) : Ranked nets n k o A B C g ord gr ∧ gr ≤ 30 := ⟨h.good hwf hoc, (h.good hwf hoc).gr30⟩
theorem RI_ex {nets n : Nat} {k o : Nat → Nat} {A B C : Nat → Int32} {oc gr : Nat} {g w ord : Nat → Nat} {od : Nat → Prop} (hwf : WfC nets n k o A B C) (h : RI nets n k o A B C 31 0 g w od ord oc gr) (hoc : oc = n) : ∃ L, Up n k o A B C L ∧ ∀ c, c < n → L (o c) ≤ 30 :=
  ⟨g, (h.good hwf hoc).1, fun c hc => (h.good hwf hoc).2.1 _ (hwf c hc).2.1⟩
theorem RI_no {nets n : Nat} {k o : Nat → Nat} {A B C : Nat → Int32} {oc gr : Nat} {g w ord : Nat → Nat} {od : Nat → Prop} (hwf : WfC nets n k o A B C) (h : RI nets n k o A B C 31 0 g w od ord oc gr) (hoc : ¬ oc = n) (hx : ∃ L, Up n k o A B C L ∧ ∀ c, c < n → L (o c) ≤ 30) : False := h.bad hwf hoc hx
theorem nI_nm1 {j : Nat} (hj : j < 2 ^ 31) (h : nI j = -1) : False := by
  have e : (nI j).toInt = (-1 : Int32).toInt := by rw [h]
  rw [nI_toInt hj] at e
  have : (-1 : Int32).toInt = -1 := by decide
  omega
