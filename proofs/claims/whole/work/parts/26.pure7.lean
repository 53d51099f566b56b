/-! PURE: rows for driven, settle, placement -/
def inV (k : Nat → Nat) (A B C : Nat → Int32) (cm : Nat → Nat) (i p : Nat) : Nat := if p < depN (k i) then asI (cm (iN A B C i p)) else 2
theorem inV_le {nn n : Nat} {k o : Nat → Nat} {A B C : Nat → Int32} {cm : Nat → Nat} {i p : Nat} (hw : WfC nn n k o A B C) (hi : i < n) (hc : ∀ j, j < nn → cm j ≤ 3) : inV k A B C cm i p ≤ 2 := by
  unfold inV
  split
  next h => exact asI_le (hc _ (hw.inn hi h))
  next => exact Nat.le_refl 2
theorem evc_j {k : Nat → Nat} {A B C : Nat → Int32} {q cm : Nat → Nat} {i : Nat} :
    (k i = 1 → ev1 (inV k A B C cm i 0) = evc k A B C q cm i) ∧ (k i = 2 → ev2 (inV k A B C cm i 0) (inV k A B C cm i 1) = evc k A B C q cm i) ∧ (k i = 3 → ev3 (inV k A B C cm i 0) (inV k A B C cm i 1) = evc k A B C q cm i) ∧ (k i = 4 → ev4 (inV k A B C cm i 0) (inV k A B C cm i 1) = evc k A B C q cm i) ∧ (k i = 5 → ev5 (inV k A B C cm i 0) (inV k A B C cm i 1) (inV k A B C cm i 2) = evc k A B C q cm i) ∧ (k i = 6 → ev6 (inV k A B C cm i 0) (inV k A B C cm i 1) = evc k A B C q cm i) ∧ (k i = 7 → ev7 (inV k A B C cm i 0) (inV k A B C cm i 1) (q i) = evc k A B C q cm i) ∧ ((k i < 1 ∨ 7 < k i) → q i = evc k A B C q cm i) := by
  refine ⟨fun h => ?_, fun h => ?_, fun h => ?_, fun h => ?_, fun h => ?_, fun h => ?_, fun h => ?_, fun h => ?_⟩
  · unfold evc inV; rw [h]; rfl
  · unfold evc inV; rw [h]; rfl
  · unfold evc inV; rw [h]; rfl
  · unfold evc inV; rw [h]; rfl
  · unfold evc inV; rw [h]; rfl
  · unfold evc inV; rw [h]; rfl
  · unfold evc inV; rw [h]; rfl
  · unfold evc ev
    have a1 : ¬ k i = 1 := by omega
    have a2 : ¬ k i = 2 := by omega
    have a3 : ¬ k i = 3 := by omega
    have a4 : ¬ k i = 4 := by omega
    have a5 : ¬ k i = 5 := by omega
    have a6 : ¬ k i = 6 := by omega
    have a7 : ¬ k i = 7 := by omega
    simp only [a1, a2, a3, a4, a5, a6, a7, if_false]
theorem evc_le {nn n : Nat} {k o : Nat → Nat} {A B C : Nat → Int32} {q V : Nat → Nat} {i : Nat} (hw : WfC nn n k o A B C) (hi : i < n) (hV : ∀ j, j < nn → V j ≤ 3) (hq : q i ≤ 3) : evc k A B C q V i ≤ 3 := by
  have e : evc k A B C q V i = evc k A B C q (fun j => if j < nn then V j else 0) i := evc_congr (fun p hp => by simp only [if_pos (hw.inn hi hp)])
  rw [e]
  have hb : ∀ j, (if j < nn then V j else 0) ≤ 3 := fun j => by
    split
    next h => exact hV j h
    next => omega
  exact ev_le (asI_le (hb _)) (asI_le (hb _)) hq
theorem evc7_le {nn n : Nat} {k o : Nat → Nat} {A B C : Nat → Int32} {q V : Nat → Nat} {i : Nat} (hw : WfC nn n k o A B C) (hi : i < n) (hk : k i = 7) (hV : ∀ j, j < nn → V j ≤ 3) (hq : q i ≤ 2) : evc k A B C q V i ≤ 2 := by
  rw [← (evc_j (k := k) (A := A) (B := B) (C := C) (q := q) (cm := V) (i := i)).2.2.2.2.2.2.1 hk]
  exact ev7_le (inV_le hw hi hV) hq
/-- what a settling does -/
def SetP (nn n : Nat) (k o : Nat → Nat) (A B C : Nat → Int32) (q sk v tn v2 tn2 q2 : Nat → Nat) : Prop := (∀ j, nn ≤ j → v2 j = v j ∧ tn2 j = tn j) ∧ Settled nn n k o A B C q sk v2 ∧ (∀ j, j < nn → v2 j ≤ 3) ∧ (∀ j, j < nn → tn2 j = tn j + tnF (v j) (v2 j)) ∧ (∀ i, i < n → q2 i = if k i = 7 then evc k A B C q v2 i else q i)
theorem SIv.le3 {nets n : Nat} {k o : Nat → Nat} {A B C : Nat → Int32} {h sk od V hd : Nat → Nat} {t : Nat} (hI : SIv nets n k o A B C h sk od t V hd) : ∀ j, j < nets → V j ≤ 3 := by
  obtain ⟨d, -, -, -, -, h5⟩ := hI
  exact h5
theorem Settled.congr {nets n : Nat} {k o : Nat → Nat} {A B C : Nat → Int32} {h sk V V' : Nat → Nat} (hw : WfC nets n k o A B C) (hV : Settled nets n k o A B C h sk V) (e : ∀ j, j < nets → V' j = V j) : Settled nets n k o A B C h sk V' := fun j hj => by
  rw [e j hj, hV j hj]
  unfold nxt
  split
  · exact jf_congr (fun i hi _ => evc_congr (fun p hp => (e _ (hw.inn hi hp)).symm))
  · rfl
theorem settle_done {nn n : Nat} {k o : Nat → Nat} {A B C : Nat → Int32} {q sk od v tn cm hd v2 tn2 : Nat → Nat} (hw : WfC nn n k o A B C) (hI : SIv nn n k o A B C q sk od n cm hd) (hT : Topo n k o A B C od) (e1 : ∀ j, v2 j = if j < nn then cm j else v j) (e2 : ∀ j, tn2 j = if j < nn then tn j + tnF (v j) (cm j) else tn j) : SetP nn n k o A B C q sk v tn v2 tn2 hd := by
  obtain ⟨h1, h2, h3⟩ := hI.done hT
  have e3 : ∀ j, j < nn → v2 j = cm j := fun j hj => by rw [e1 j, if_pos hj]
  refine ⟨fun j hj => ⟨by rw [e1 j, if_neg (by omega)], by rw [e2 j, if_neg (by omega)]⟩, h1.congr hw e3, fun j hj => by rw [e3 j hj]; exact h3 j hj, fun j hj => by rw [e2 j, if_pos hj, e3 j hj], fun i hi => ?_⟩
  rw [h2 i hi]
  split
  · exact evc_congr (fun p hp => (e3 _ (hw.inn hi hp)).symm)
  · rfl
/-- whether a cell's numbers fit -/
def Fits (kd ot a b c : Int32) (m : Nat) : Prop := vp_in kd 9 ∧ vp_in ot m ∧ (0 < inpN kd.toNatClampNeg → vp_in a m) ∧ (1 < inpN kd.toNatClampNeg → vp_in b m) ∧ (2 < inpN kd.toNatClampNeg → vp_in c m) ∧ (kd = 8 → vp_in b 2 ∧ vp_in c 3)
/-- the local nets that a template names -/
def Nmd (n : Nat) (k o : Nat → Nat) (A B C : Nat → Int32) (l : Nat) : Prop := ∃ i, i < n ∧ (o i = l ∨ ∃ p, p < inpN (k i) ∧ iN A B C i p = l)
noncomputable def locN (x y nn : Nat) (Nm : Nat → Prop) (l : Nat) : Nat := if l = 0 then x else if l = 1 then y else nn + cnt (fun t => 2 ≤ t ∧ Nm t) l
def MayD (n : Nat) (k o : Nat → Nat) (j d : Nat) : Prop := ∀ i, i < n → o i = j → k i = 6 ∧ d = 6
def Clash (k o no : Nat → Nat) (i net : Nat) : Prop := ∃ t, t < i ∧ no (o t) = net ∧ ¬ (k t = 6 ∧ k i = 6)
/-- a template may stand: n2 k2 o2 its cells, no where its nets lie -/
def Stands (n : Nat) (k o : Nat → Nat) (n2 : Nat) (k2 o2 no : Nat → Nat) : Prop := ∀ i, i < n2 → MayD n k o (no (o2 i)) (k2 i) ∧ ¬ Clash k2 o2 no i (no (o2 i))
def plc (k : Nat → Nat) (A B C : Nat → Int32) (no : Nat → Nat) (i p : Nat) : Int32 := if p < inpN (k i) then nI (no (iN A B C i p)) else inP A B C i p
theorem upP_s {g : Nat → Prop} {k : Nat} {v : Prop} : up g k v k ↔ v := by rw [up_s]
theorem upP_n {g : Nat → Prop} {k j : Nat} {v : Prop} (h : j ≠ k) : up g k v j ↔ g j := by rw [up_n h]
/-- one name more -/
theorem Nm_up {nm P Q : Nat → Prop} {x : Nat} (h : ∀ l, l < 10 → (nm l ↔ P l)) (e : ∀ l, Q l ↔ (P l ∨ l = x)) : ∀ l, l < 10 → (up nm x True l ↔ Q l) := by
  intro l hl
  by_cases q : l = x
  · subst q; rw [upP_s]; exact ⟨fun _ => (e l).mpr (Or.inr rfl), fun _ => trivial⟩
  · rw [upP_n q, h l hl, e l]
    exact ⟨Or.inl, fun z => z.elim id (fun y => absurd y q)⟩
def NmI (i p : Nat) (k o : Nat → Nat) (A B C : Nat → Int32) (l : Nat) : Prop := Nmd i k o A B C l ∨ o i = l ∨ ∃ t, t < p ∧ iN A B C i t = l
theorem NmI_0 {i : Nat} {k o : Nat → Nat} {A B C : Nat → Int32} (l : Nat) : NmI i 0 k o A B C l ↔ (Nmd i k o A B C l ∨ l = o i) :=
  ⟨fun z => z.elim Or.inl (fun y => y.elim (fun w => Or.inr w.symm) (fun ⟨t, ht, _⟩ => absurd ht (Nat.not_lt_zero t))), fun z => z.elim Or.inl (fun y => Or.inr (Or.inl y.symm))⟩
theorem NmI_p {i p : Nat} {k o : Nat → Nat} {A B C : Nat → Int32} (l : Nat) : NmI i (p + 1) k o A B C l ↔ (NmI i p k o A B C l ∨ l = iN A B C i p) := by
  constructor
  · rintro (z | z | ⟨t, ht, e⟩)
    · exact Or.inl (Or.inl z)
    · exact Or.inl (Or.inr (Or.inl z))
    · by_cases q : t = p
      · subst q; exact Or.inr e.symm
      · exact Or.inl (Or.inr (Or.inr ⟨t, by omega, e⟩))
  · rintro ((z | z | ⟨t, ht, e⟩) | z)
    · exact Or.inl z
    · exact Or.inr (Or.inl z)
    · exact Or.inr (Or.inr ⟨t, by omega, e⟩)
    · exact Or.inr (Or.inr ⟨p, by omega, z.symm⟩)
theorem NmI_end {i p : Nat} {k o : Nat → Nat} {A B C : Nat → Int32} (hp : p = inpN (k i)) (l : Nat) : NmI i p k o A B C l ↔ Nmd (i + 1) k o A B C l := by
  subst hp
  constructor
  · rintro (⟨c, hc, e⟩ | z)
    · exact ⟨c, by omega, e⟩
    · exact ⟨i, by omega, z⟩
  · rintro ⟨c, hc, e⟩
    by_cases q : c = i
    · subst q; exact Or.inr e
    · exact Or.inl ⟨c, by omega, e⟩
theorem loc_start {x y nn : Nat} {Nm : Nat → Prop} {no : Nat → Nat} : ∀ l, l < 2 → (l < 2 ∨ Nm l) → up (up no 0 x) 1 y l = locN x y nn Nm l := by
  intro l hl _
  unfold locN
  match l, hl with
  | 0, _ => rw [up_n (by decide), up_s]; rfl
  | 1, _ => rw [up_s]; rfl
  | l + 2, hl => omega
theorem loc_step {x y nn i nt : Nat} {Nm : Nat → Prop} {no : Nat → Nat} (h : ∀ l, l < i → (l < 2 ∨ Nm l) → no l = locN x y nn Nm l) (hi : 2 ≤ i) (hT : nt = nn + cnt (fun t => 2 ≤ t ∧ Nm t) i) : ∀ l, l < i + 1 → (l < 2 ∨ Nm l) → up no i nt l = locN x y nn Nm l := by
  intro l hl hm
  by_cases q : l = i
  · subst q
    rw [up_s]
    unfold locN
    rw [if_neg (by omega), if_neg (by omega)]; exact hT
  · rw [up_n q]; exact h l (by omega) hm
theorem loc_skip {x y nn i : Nat} {Nm : Nat → Prop} {no : Nat → Nat} (h : ∀ l, l < i → (l < 2 ∨ Nm l) → no l = locN x y nn Nm l) (hi : 2 ≤ i) (hm0 : ¬ Nm i) : ∀ l, l < i + 1 → (l < 2 ∨ Nm l) → no l = locN x y nn Nm l := by
  intro l hl hm
  by_cases q : l = i
  · subst q; exact absurd (hm.resolve_left (by omega)) hm0
  · exact h l (by omega) hm
