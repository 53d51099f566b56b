/-! PURE: the model's settling -/
def MR (nn n : Nat) (k o : Nat → Nat) (A B C : Nat → Int32) (q sk L v : Nat → Nat) (r ch : Nat) (v3 dr3 : Nat → Nat) : Prop := ch ≤ 1 ∧ (ch = 1 → r ≤ 31) ∧ (∀ j, nn ≤ j → v3 j = v j) ∧ (∀ j, j < nn → v3 j ≤ 3) ∧ (∀ j, j < nn → L j < r → nxt n k o A B C q sk v3 j = v3 j) ∧ (ch = 0 → Settled nn n k o A B C q sk v3 ∧ ∀ i, i < n → dr3 i = evc k A B C q v3 i)
def MN (n : Nat) (k o : Nat → Nat) (A B C : Nat → Int32) (q sk v3 : Nat → Nat) (j ch : Nat) (v4 : Nat → Nat) : Prop := ch ≤ 1 ∧ (∀ t, t < j → v4 t = nxt n k o A B C q sk v3 t) ∧ (∀ t, j ≤ t → v4 t = v3 t) ∧ (ch = 0 → ∀ t, t < j → v4 t = v3 t) ∧ (ch = 1 → ∃ t, t < j ∧ nxt n k o A B C q sk v3 t ≠ v3 t)
theorem MR.start {nn n : Nat} {k o : Nat → Nat} {A B C : Nat → Int32} {q sk L v dr : Nat → Nat} (hv : ∀ j, j < nn → v j ≤ 3) : MR nn n k o A B C q sk L v 0 1 v dr := ⟨by decide, fun _ => by omega, fun _ _ => rfl, hv, fun j _ h => absurd h (Nat.not_lt_zero _), fun h => absurd h (by decide)⟩
theorem MN.start {n : Nat} {k o : Nat → Nat} {A B C : Nat → Int32} {q sk v3 : Nat → Nat} : MN n k o A B C q sk v3 0 0 v3 := ⟨by decide, fun t h => absurd h (Nat.not_lt_zero t), fun _ _ => rfl, fun _ t h => absurd h (Nat.not_lt_zero t), fun h => absurd h (by decide)⟩
theorem MN.step {n : Nat} {k o : Nat → Nat} {A B C : Nat → Int32} {q sk v3 v4 : Nat → Nat} {j ch ch2 : Nat} (h : MN n k o A B C q sk v3 j ch v4) (hc : (nxt n k o A B C q sk v3 j ≠ v4 j ∧ ch2 = 1) ∨ (nxt n k o A B C q sk v3 j = v4 j ∧ ch2 = ch)) : MN n k o A B C q sk v3 (j + 1) ch2 (up v4 j (nxt n k o A B C q sk v3 j)) := by
  obtain ⟨h1, h2, h3, h4, h5⟩ := h
  have hj : v4 j = v3 j := h3 j (Nat.le_refl _)
  refine ⟨?_, fun t ht => ?_, fun t ht => ?_, fun hz t ht => ?_, fun ho => ?_⟩
  · rcases hc with ⟨-, e⟩ | ⟨-, e⟩ <;> omega
  · by_cases z : t = j
    · subst z; rw [up_s]
    · rw [up_n z]; exact h2 t (by omega)
  · rw [up_n (by omega)]; exact h3 t (by omega)
  · rcases hc with ⟨-, e⟩ | ⟨e1, e⟩
    · omega
    · by_cases z : t = j
      · subst z; rw [up_s, e1, hj]
      · rw [up_n z]; exact h4 (by omega) t (by omega)
  · rcases hc with ⟨e1, e⟩ | ⟨e1, e⟩
    · exact ⟨j, by omega, by rw [← hj]; exact e1⟩
    · obtain ⟨t, ht, e2⟩ := h5 (by omega)
      exact ⟨t, by omega, e2⟩
theorem nxt_le {nn n : Nat} {k o : Nat → Nat} {A B C : Nat → Int32} {q sk V : Nat → Nat} {j : Nat} (hw : WfC nn n k o A B C) (hV : ∀ j, j < nn → V j ≤ 3) (hq : ∀ i, i < n → q i ≤ 3) (hs : sk j ≤ 3) : nxt n k o A B C q sk V j ≤ 3 := by
  unfold nxt
  split
  · exact jf_le (fun i hi => evc_le hw hi hV (hq i hi))
  · omega
theorem MR.step {nn n : Nat} {k o : Nat → Nat} {A B C : Nat → Int32} {q sk L v v3 dr3 v4 dr4 : Nat → Nat} {r ch : Nat} (hw : WfC nn n k o A B C) (hU : Up n k o A B C L) (hL : ∀ j, j < nn → L j ≤ 30) (hq : ∀ i, i < n → q i ≤ 3) (hs : ∀ j, j < nn → sk j ≤ 3) (h : MR nn n k o A B C q sk L v r 1 v3 dr3) (hN : MN n k o A B C q sk v3 nn ch v4) (hd : ∀ i, i < n → dr4 i = evc k A B C q v3 i) : MR nn n k o A B C q sk L v (r + 1) ch v4 dr4 := by
  obtain ⟨-, a2, a3, a4, a5, -⟩ := h
  obtain ⟨b1, b2, b3, b4, b5⟩ := hN
  have hr := a2 rfl
  refine ⟨b1, fun hc => ?_, fun j hj => by rw [b3 j hj]; exact a3 j hj, fun j hj => by rw [b2 j hj]; exact nxt_le hw a4 hq (hs j hj), nxt_stable hU hw b2 a5, fun hc => ?_⟩
  · obtain ⟨t, ht, e⟩ := b5 hc
    have : ¬ L t < r := fun z => e (a5 t ht z)
    have := hL t ht
    omega
  · have e := b4 hc
    have hS : Settled nn n k o A B C q sk v3 := fun j hj => by rw [← b2 j hj, e j hj]
    exact ⟨hS.congr hw e, fun i hi => by rw [hd i hi]; exact evc_congr (fun p hp => (e _ (hw.inn hi hp)).symm)⟩
theorem MR.done {nn n : Nat} {k o : Nat → Nat} {A B C : Nat → Int32} {q sk L v v3 dr3 : Nat → Nat} {r ch : Nat} (h : MR nn n k o A B C q sk L v r ch v3 dr3) (hx : 90 ≤ r ∨ ch = 0) : MR nn n k o A B C q sk L v r 0 v3 dr3 := by
  have e : ch = 0 := by
    have := h.1; have := h.2.1
    rcases hx with z | z
    · by_cases q : ch = 1
      · have := h.2.1 q; omega
      · omega
    · exact z
  rw [e] at h; exact h
theorem msettle_done {nn n : Nat} {k o : Nat → Nat} {A B C : Nat → Int32} {q sk L v tn v3 dr3 q2 tn2 bf : Nat → Nat} {r : Nat} (h : MR nn n k o A B C q sk L v r 0 v3 dr3) (hq2 : ∀ i, i < n → q2 i = if k i = 7 then dr3 i else q i) (hb : ∀ j, j < nn → bf j = v j) (ht : ∀ j, tn2 j = if j < nn then tn j + tnF (bf j) (v3 j) else tn j) : SetP nn n k o A B C q sk v tn v3 tn2 q2 := by
  obtain ⟨-, -, a3, a4, -, a6⟩ := h
  obtain ⟨hS, hd⟩ := a6 rfl
  refine ⟨fun j hj => ⟨a3 j hj, by rw [ht j, if_neg (by omega)]⟩, hS, a4, fun j hj => by rw [ht j, if_pos hj, hb j hj], fun i hi => ?_⟩
  rw [hq2 i hi]
  split
  · exact hd i hi
  · rfl
theorem tnF_iff {a b : Nat} : (a + b = 1 ∧ a ≠ b) ↔ ((a = 0 ∧ b = 1) ∨ (a = 1 ∧ b = 0)) := by omega
theorem q_step {n i : Nat} {k q q2 d : Nat → Nat} {v : Nat} (h : ∀ t, t < n → q2 t = if t < i then (if k t = 7 then d t else q t) else q t) (hv : v = if k i = 7 then d i else q i) : ∀ t, t < n → up q2 i v t = if t < i + 1 then (if k t = 7 then d t else q t) else q t := by
  intro t ht
  by_cases z : t = i
  · subst z; rw [up_s, if_pos (show t < t + 1 by omega)]; exact hv
  · rw [up_n z, h t ht]
    by_cases y : t < i
    · rw [if_pos y, if_pos (show t < i + 1 by omega)]
    · rw [if_neg y, if_neg (show ¬ t < i + 1 by omega)]
theorem q_same {n i : Nat} {k q q2 d : Nat → Nat} (h : ∀ t, t < n → q2 t = if t < i then (if k t = 7 then d t else q t) else q t) (hk : k i ≠ 7) : ∀ t, t < n → q2 t = if t < i + 1 then (if k t = 7 then d t else q t) else q t := by
  intro t ht
  rw [h t ht]
  by_cases z : t = i
  · subst z; rw [if_neg (Nat.lt_irrefl t), if_pos (show t < t + 1 by omega), if_neg hk]
  · by_cases y : t < i
    · rw [if_pos y, if_pos (show t < i + 1 by omega)]
    · rw [if_neg y, if_neg (show ¬ t < i + 1 by omega)]
