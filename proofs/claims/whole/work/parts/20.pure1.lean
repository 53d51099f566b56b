/-! PURE: numbers as the arrays hold them, what cells drive, what nets are -/
def up {α : Type} (g : Nat → α) (k : Nat) (v : α) : Nat → α := fun j => if j = k then v else g j
theorem up_s {α : Type} {g : Nat → α} {k : Nat} {v : α} : up g k v k = v := by simp [up]
theorem up_n {α : Type} {g : Nat → α} {k j : Nat} {v : α} (h : j ≠ k) : up g k v j = g j := by simp [up, h]
theorem upd_cN (g : Nat → Nat) (k v : Nat) : upd (cN g) k (nI v) = cN (up g k v) := by
  funext j
  by_cases h : j = k
  · subst h; rw [pk_us]; simp [cN, up]
  · rw [pk_un h]; simp [cN, up, h]
theorem upd_cT (g : Nat → Prop) (k : Nat) (v : Prop) : upd (cT g) k (bP v) = cT (up g k v) := by
  funext j
  by_cases h : j = k
  · subst h; rw [pk_us]; simp [cT, up]
  · rw [pk_un h]; simp [cT, up, h]
theorem nI_inc (a : Nat) : nI a + Int32.ofInt 1 = nI (a + 1) := nI_1 a
theorem bP_fit (P : Prop) : fits .boolean (.int (bP P)) = true := by
  by_cases q : P
  · rw [bP_t q]; rfl
  · rw [bP_f q]; rfl
theorem inpN_le (k : Nat) : inpN k ≤ 3 := by unfold inpN; split <;> (try split) <;> (try split) <;> omega
theorem depN_le (k : Nat) : depN k ≤ inpN k := by unfold depN; split <;> omega
def inP (A B C : Nat → Int32) (i p : Nat) : Int32 := if p = 0 then A i else if p = 1 then B i else C i
def iN (A B C : Nat → Int32) (i p : Nat) : Nat := (inP A B C i p).toNatClampNeg
def asI (v : Nat) : Nat := if v = 3 then 2 else v
theorem asI_le {v : Nat} (h : v ≤ 3) : asI v ≤ 2 := by unfold asI; split <;> omega
/-- what a kind of cell drives -/
def ev1 (a : Nat) : Nat := if a = 2 then 2 else 1 - a
def ev2 (a b : Nat) : Nat := if a = 0 ∨ b = 0 then 0 else if a = 1 ∧ b = 1 then 1 else 2
def ev3 (a b : Nat) : Nat := if a = 1 ∨ b = 1 then 1 else if a = 0 ∧ b = 0 then 0 else 2
def ev4 (a b : Nat) : Nat := if a = 2 ∨ b = 2 then 2 else if a = b then 0 else 1
def ev5 (a b c : Nat) : Nat := if c = 2 then (if a = b then a else 2) else if c = 0 then a else b
def ev6 (a b : Nat) : Nat := if b = 2 then 2 else if b = 1 then a else 3
def ev7 (a b h : Nat) : Nat := if b = 2 then (if a = h then a else 2) else if b = 1 then a else h
def ev (k a b c h : Nat) : Nat := if k = 1 then ev1 a else if k = 2 then ev2 a b else if k = 3 then ev3 a b else if k = 4 then ev4 a b else if k = 5 then ev5 a b c else if k = 6 then ev6 a b else if k = 7 then ev7 a b h else h
theorem ev7_le {a b h : Nat} (ha : a ≤ 2) (hh : h ≤ 2) : ev7 a b h ≤ 2 := by
  unfold ev7
  repeat' split
  all_goals omega
theorem ev_le {k a b c h : Nat} (ha : a ≤ 2) (hb : b ≤ 2) (hh : h ≤ 3) : ev k a b c h ≤ 3 := by
  have e1 : ev1 a ≤ 3 := by unfold ev1; split <;> omega
  have e2 : ev2 a b ≤ 3 := by unfold ev2; (repeat' split) <;> omega
  have e3 : ev3 a b ≤ 3 := by unfold ev3; (repeat' split) <;> omega
  have e4 : ev4 a b ≤ 3 := by unfold ev4; (repeat' split) <;> omega
  have e5 : ev5 a b c ≤ 3 := by unfold ev5; (repeat' split) <;> omega
  have e6 : ev6 a b ≤ 3 := by unfold ev6; (repeat' split) <;> omega
  have e7 : ev7 a b h ≤ 3 := by unfold ev7; (repeat' split) <;> omega
  unfold ev
  repeat' split
  all_goals assumption
/-- what cell i drives while the nets have the values V, h being what cells keep -/
def evc (k : Nat → Nat) (A B C : Nat → Int32) (h V : Nat → Nat) (i : Nat) : Nat := ev (k i) (asI (V (iN A B C i 0))) (asI (V (iN A B C i 1))) (asI (V (iN A B C i 2))) (h i)
theorem evc_congr {k : Nat → Nat} {A B C : Nat → Int32} {h V V' : Nat → Nat} {i : Nat} (e : ∀ p, p < depN (k i) → V (iN A B C i p) = V' (iN A B C i p)) : evc k A B C h V i = evc k A B C h V' i := by
  unfold evc
  by_cases h0 : k i = 0 ∨ 8 ≤ k i
  · unfold ev
    rcases h0 with h0 | h0
    · simp [h0]
    · have a1 : ¬ k i = 1 := by omega
      have a2 : ¬ k i = 2 := by omega
      have a3 : ¬ k i = 3 := by omega
      have a4 : ¬ k i = 4 := by omega
      have a5 : ¬ k i = 5 := by omega
      have a6 : ¬ k i = 6 := by omega
      have a7 : ¬ k i = 7 := by omega
      simp [a1, a2, a3, a4, a5, a6, a7]
  · have hk : ¬ k i = 8 := by omega
    have hk0 : ¬ k i = 0 := by omega
    by_cases h1 : k i = 1
    · have e0 := e 0 (by simp [depN, inpN, h1])
      simp only [ev, h1, e0, if_true]
    · have e0 := e 0 (by unfold depN inpN; simp only [hk, hk0, h1, or_self, if_false]; split <;> omega)
      have e1 := e 1 (by unfold depN inpN; simp only [hk, hk0, h1, or_self, if_false]; split <;> omega)
      by_cases h5 : k i = 5
      · have e2 := e 2 (by simp [depN, inpN, h5])
        rw [e0, e1, e2]
      · rw [e0, e1]
        simp only [ev, h5, if_false]
/-- two values on one net -/
def jn (v d : Nat) : Nat := if v = 3 then d else if d = 3 ∨ d = v then v else 2
theorem jn_le {v d : Nat} (hv : v ≤ 3) (hd : d ≤ 3) : jn v d ≤ 3 := by
  unfold jn
  repeat' split
  all_goals omega
/-- v is what the values P make together -/
def IsJ (P : Nat → Prop) (v : Nat) : Prop := ((∀ d, P d → d = 3) → v = 3) ∧ (∀ x, P x → x ≠ 3 → (∀ d, P d → d = 3 ∨ d = x) → v = x) ∧ (∀ x y, P x → P y → x ≠ 3 → y ≠ 3 → x ≠ y → v = 2)
theorem IsJ.uniq {P : Nat → Prop} {v v' : Nat} (h : IsJ P v) (h' : IsJ P v') : v = v' := by
  by_cases a : ∀ d, P d → d = 3
  · rw [h.1 a, h'.1 a]
  · have ⟨x, hx⟩ := Classical.not_forall.mp a
    have ⟨hx1, hx2⟩ := Classical.not_imp.mp hx
    by_cases b : ∀ d, P d → d = 3 ∨ d = x
    · rw [h.2.1 x hx1 hx2 b, h'.2.1 x hx1 hx2 b]
    · have ⟨y, hy⟩ := Classical.not_forall.mp b
      have ⟨hy1, hy2⟩ := Classical.not_imp.mp hy
      have hy3 : y ≠ 3 := fun q => hy2 (Or.inl q)
      have hyx : x ≠ y := fun q => hy2 (Or.inr q.symm)
      rw [h.2.2 x y hx1 hy1 hx2 hy3 hyx, h'.2.2 x y hx1 hy1 hx2 hy3 hyx]
theorem IsJ.congr {P Q : Nat → Prop} {v : Nat} (e : ∀ z, P z ↔ Q z) (h : IsJ P v) : IsJ Q v := by
  have : P = Q := funext fun z => propext (e z)
  rw [← this]; exact h
theorem IsJ.none {P : Nat → Prop} (h : ∀ z, ¬ P z) : IsJ P 3 := ⟨fun _ => rfl, fun x hx => absurd hx (h x), fun x _ hx => absurd hx (h x)⟩
theorem IsJ.step {P : Nat → Prop} {v d : Nat} (h : IsJ P v) : IsJ (fun z => P z ∨ z = d) (jn v d) := by
  refine ⟨fun a => ?_, fun x hx hx3 a => ?_, fun x y hx hy hx3 hy3 hxy => ?_⟩
  · have hd : d = 3 := a d (Or.inr rfl)
    have hv : v = 3 := h.1 (fun z hz => a z (Or.inl hz))
    simp [jn, hv, hd]
  · by_cases b : ∃ z, P z ∧ z ≠ 3
    · obtain ⟨z, hz, hz3⟩ := b
      have hzx : z = x := (a z (Or.inl hz)).resolve_left hz3
      subst hzx
      have hv : v = z := h.2.1 z hz hz3 (fun y hy => a y (Or.inl hy))
      have hd := a d (Or.inr rfl)
      unfold jn
      rw [hv, if_neg hz3, if_pos hd]
    · have hv : v = 3 := h.1 (fun z hz => Classical.byContradiction fun q => b ⟨z, hz, q⟩)
      have hxd : x = d := hx.resolve_left (fun q => b ⟨x, q, hx3⟩)
      simp [jn, hv, hxd]
  · have key : ∀ a, P a → a ≠ 3 → d ≠ 3 → a ≠ d → jn v d = 2 := by
      intro a ha ha3 hd3 had
      by_cases b : ∀ z, P z → z = 3 ∨ z = a
      · have hv := h.2.1 a ha ha3 b
        unfold jn
        rw [hv, if_neg ha3, if_neg (by omega)]
      · have ⟨z, hz⟩ := Classical.not_forall.mp b
        have ⟨hz1, hz2⟩ := Classical.not_imp.mp hz
        have hv := h.2.2 a z ha hz1 ha3 (fun q => hz2 (Or.inl q)) (fun q => hz2 (Or.inr q.symm))
        unfold jn
        rw [hv]
        simp
    rcases hx with hx | hx <;> rcases hy with hy | hy
    · have hv := h.2.2 x y hx hy hx3 hy3 hxy
      unfold jn
      rw [hv]
      simp
    · rw [hy] at hy3 hxy; exact key x hx hx3 hy3 hxy
    · rw [hx] at hx3 hxy; exact key y hy hy3 hx3 (Ne.symm hxy)
    · omega
/-- what the drivers of net j make together, the cells asked in their order -/
def jf (o d : Nat → Nat) (j : Nat) : Nat → Nat
  | 0 => 3
  | n + 1 => if o n = j then jn (jf o d j n) (d n) else jf o d j n
theorem jf_is (o d : Nat → Nat) (j n : Nat) : IsJ (fun z => ∃ i, i < n ∧ o i = j ∧ z = d i) (jf o d j n) := by
  induction n with
  | zero => exact IsJ.none (fun z ⟨i, hi, _⟩ => absurd hi (Nat.not_lt_zero i))
  | succ n ih =>
    unfold jf
    by_cases h : o n = j
    · rw [if_pos h]
      refine ih.step.congr (fun z => ⟨fun q => ?_, fun ⟨i, h1, h2, h3⟩ => ?_⟩)
      · rcases q with ⟨i, h1, h2, h3⟩ | q
        · exact ⟨i, by omega, h2, h3⟩
        · exact ⟨n, by omega, h, q⟩
      · by_cases hi : i = n
        · subst hi; exact Or.inr h3
        · exact Or.inl ⟨i, by omega, h2, h3⟩
    · rw [if_neg h]
      refine ih.congr (fun z => ⟨fun ⟨i, h1, h2, h3⟩ => ⟨i, by omega, h2, h3⟩, fun ⟨i, h1, h2, h3⟩ => ⟨i, ?_, h2, h3⟩⟩)
      have : i ≠ n := fun q => h (by rw [← q]; exact h2)
      omega
theorem jf_le {o d : Nat → Nat} {j n : Nat} (h : ∀ i, i < n → d i ≤ 3) : jf o d j n ≤ 3 := by
  induction n with
  | zero => exact Nat.le_refl 3
  | succ n ih =>
    unfold jf
    split
    · exact jn_le (ih fun i hi => h i (by omega)) (h n (by omega))
    · exact ih fun i hi => h i (by omega)
theorem jf_congr {o d d' : Nat → Nat} {j n : Nat} (h : ∀ i, i < n → o i = j → d i = d' i) : jf o d j n = jf o d' j n := by
  induction n with
  | zero => rfl
  | succ n ih =>
    unfold jf
    rw [ih fun i hi => h i (by omega)]
    split
    next q => rw [h n (by omega) q]
    next => rfl
/-- a net is stuck at sk j - 1, or not stuck where sk j is 0 -/
def nxt (n : Nat) (k o : Nat → Nat) (A B C : Nat → Int32) (h sk V : Nat → Nat) (j : Nat) : Nat := if sk j = 0 then jf o (evc k A B C h V) j n else sk j - 1
def Settled (nets n : Nat) (k o : Nat → Nat) (A B C : Nat → Int32) (h sk V : Nat → Nat) : Prop := ∀ j, j < nets → V j = nxt n k o A B C h sk V j
/-- levels: each cell's output above all that it depends on -/
def Up (n : Nat) (k o : Nat → Nat) (A B C : Nat → Int32) (L : Nat → Nat) : Prop := ∀ i, i < n → 1 ≤ L (o i) ∧ ∀ p, p < depN (k i) → L (iN A B C i p) + 1 ≤ L (o i)
def WfC (m n : Nat) (k o : Nat → Nat) (A B C : Nat → Int32) : Prop := ∀ i, i < n → k i ≤ 8 ∧ o i < m ∧ (∀ p, p < inpN (k i) → vp_in (inP A B C i p) m) ∧ (k i = 8 → vp_in (B i) 2 ∧ vp_in (C i) 3)
theorem vp_lt {x : Int32} {n : Nat} (h : vp_in x n) : x.toNatClampNeg < n := Nat.not_le.mp fun q => h (Or.inr q)
theorem WfC.inn {m n : Nat} {k o : Nat → Nat} {A B C : Nat → Int32} (h : WfC m n k o A B C) {i p : Nat} (hi : i < n) (hp : p < depN (k i)) : iN A B C i p < m := vp_lt ((h i hi).2.2.1 p (Nat.lt_of_lt_of_le hp (depN_le _)))
theorem Settled.uniq {nets n : Nat} {k o : Nat → Nat} {A B C : Nat → Int32} {h sk V V' L : Nat → Nat} (hU : Up n k o A B C L) (hw : WfC nets n k o A B C) (hV : Settled nets n k o A B C h sk V) (hV' : Settled nets n k o A B C h sk V') : ∀ j, j < nets → V j = V' j := by
  have key : ∀ t j, L j < t → j < nets → V j = V' j := by
    intro t
    induction t with
    | zero => intro j hj; omega
    | succ t ih =>
      intro j hj hjn
      rw [hV j hjn, hV' j hjn]
      unfold nxt
      split
      · refine jf_congr (fun i hi hij => evc_congr (fun p hp => ih _ ?_ (hw.inn hi hp)))
        have := (hU i hi).2 p hp
        rw [hij] at this
        omega
      · rfl
  exact fun j hj => key (L j + 1) j (by omega) hj
/-- the rounds of the model: net after net gets its last value, by levels -/
theorem nxt_stable {nets n : Nat} {k o : Nat → Nat} {A B C : Nat → Int32} {h sk V V1 L : Nat → Nat} {r : Nat} (hU : Up n k o A B C L) (hw : WfC nets n k o A B C) (h1 : ∀ j, j < nets → V1 j = nxt n k o A B C h sk V j) (ih : ∀ j, j < nets → L j < r → nxt n k o A B C h sk V j = V j) : ∀ j, j < nets → L j < r + 1 → nxt n k o A B C h sk V1 j = V1 j := by
  intro j hj hL
  rw [h1 j hj]
  unfold nxt
  split
  · refine jf_congr (fun i hi hij => evc_congr (fun p hp => ?_))
    have := (hU i hi).2 p hp
    rw [hij] at this
    have hl := hw.inn hi hp
    rw [h1 _ hl]
    exact ih _ hl (by omega)
  · rfl
