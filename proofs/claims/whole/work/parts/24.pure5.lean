/-! PURE: small rows for the walks -/
theorem upd_cS (g : Nat → Nat) (k v : Nat) : upd (cS g) k (nI v - 1) = cS (up g k v) := by
  funext j
  by_cases h : j = k
  · subst h; rw [pk_us]; simp [cS, up]
  · rw [pk_un h]; simp [cS, up, h]
theorem vin_mono {x : Int32} {a b : Nat} (h : vp_in x a) (hab : a ≤ b) : vp_in x b := fun q => h (q.elim Or.inl (fun z => Or.inr (Nat.le_trans hab z)))
theorem vin_of {x : Int32} {m : Nat} (h1 : ¬ x < 0) (h2 : ¬ nI m ≤ x) (hm : m < 2 ^ 31) : vp_in x m := by
  rcases pk_ix x hm with q | q | ⟨j, hj, rfl⟩
  · exact absurd q h1
  · exact absurd q h2
  · exact vp_in_nI hj hm
theorem vin_n {x : Int32} {m : Nat} (hm : m < 2 ^ 31) (h : x < 0 ∨ nI m ≤ x) : ¬ vp_in x m := by
  intro q
  obtain ⟨j, hj, rfl⟩ := vp_in_of q hm
  rcases h with h | h
  · exact nI_pos (by omega) h
  · have := (nI_leI hm (by omega)).mp h; omega
theorem vin_nI {x : Int32} {m : Nat} (h : vp_in x m) (hm : m < 2 ^ 31) : x = nI x.toNatClampNeg := by
  obtain ⟨j, hj, rfl⟩ := vp_in_of h hm
  rw [nI_clamp (by omega)]
theorem up_all {g : Nat → Nat} {f : Nat → Nat} {i v : Nat} (h : ∀ j, j < i → g j = f j) (hv : v = f i) : ∀ j, j < i + 1 → up g i v j = f j := by
  intro j hj
  by_cases q : j = i
  · subst q; rw [up_s]; exact hv
  · rw [up_n q]; exact h j (by omega)
theorem up_allP {g : Nat → Prop} {i : Nat} {v : Prop} (h : ∀ j, j < i → ¬ g j) (hv : ¬ v) : ∀ j, j < i + 1 → ¬ up g i v j := by
  intro j hj
  by_cases q : j = i
  · subst q; rw [up_s]; exact hv
  · rw [up_n q]; exact h j (by omega)
theorem up_if {g a b : Nat → Nat} {i : Nat} (h : ∀ j, g j = if j < i then a j else b j) : ∀ j, up g i (a i) j = if j < i + 1 then a j else b j := by
  intro j
  by_cases q : j = i
  · subst q; rw [up_s, if_pos (by omega)]
  · rw [up_n q, h j]
    by_cases z : j < i
    · rw [if_pos z, if_pos (by omega)]
    · rw [if_neg z, if_neg (by omega)]
theorem up_if2 {g a b : Nat → Nat} {i v : Nat} (h : ∀ j, g j = if j < i then a j else b j) (hv : v = a i) : ∀ j, up g i v j = if j < i + 1 then a j else b j := by rw [hv]; exact up_if h
theorem up_if3 {g a b : Nat → Nat} {i : Nat} (h : ∀ j, g j = if j < i then a j else b j) (hv : a i = b i) : ∀ j, g j = if j < i + 1 then a j else b j := by
  intro j
  rw [h j]
  by_cases q : j = i
  · subst q; rw [if_neg (Nat.lt_irrefl _), if_pos (by omega), hv]
  · by_cases z : j < i
    · rw [if_pos z, if_pos (by omega)]
    · rw [if_neg z, if_neg (by omega)]
def tnF (a b : Nat) : Nat := if (a = 0 ∧ b = 1) ∨ (a = 1 ∧ b = 0) then 1 else 0
theorem tnF_t {a b : Nat} (h : (a = 0 ∧ b = 1) ∨ (a = 1 ∧ b = 0)) : tnF a b = 1 := if_pos h
theorem tnF_f {a b : Nat} (h : ¬ ((a = 0 ∧ b = 1) ∨ (a = 1 ∧ b = 0))) : tnF a b = 0 := if_neg h
def sm (f : Nat → Nat) : Nat → Nat
  | 0 => 0
  | n + 1 => sm f n + f n
def LB (nn : Nat) (o : Nat → Nat) (i : Nat) (g w : Nat → Nat) : Prop := ∀ j, j < nn → w j = cnt (fun c => o c = j) i ∧ g j = if w j = 0 then 0 else 31
theorem LB.start {nn : Nat} {o g w : Nat → Nat} (hg : ∀ j, j < nn → g j = 0) (hw : ∀ j, j < nn → w j = 0) : LB nn o 0 g w := fun j hj => ⟨hw j hj, by rw [if_pos (hw j hj)]; exact hg j hj⟩
theorem LB.step {nn i : Nat} {o g w : Nat → Nat} (h : LB nn o i g w) (_ : o i < nn) : LB nn o (i + 1) (up g (o i) 31) (up w (o i) (w (o i) + 1)) := by
  intro j hj
  by_cases q : j = o i
  · subst q
    rw [up_s, up_s, cnt_t (P := fun c => o c = o i) rfl, (h _ hj).1]
    exact ⟨rfl, by rw [if_neg (by omega)]⟩
  · rw [up_n q, up_n q, cnt_f (P := fun c => o c = j) (fun z => q z.symm)]
    exact h j hj
theorem LB.le {nn i j : Nat} {o g w : Nat → Nat} (h : LB nn o i g w) (hj : j < nn) : w j ≤ i := by rw [(h j hj).1]; exact cnt_le _ _
theorem not_ready {d ll : Nat} {g : Nat → Nat} {f : Nat → Nat} (h : ¬ ∀ p, p < d → g (f p) < ll) : ∃ p, p < d ∧ ll ≤ g (f p) := by
  obtain ⟨p, hp⟩ := Classical.not_forall.mp h
  obtain ⟨h1, h2⟩ := Classical.not_imp.mp hp
  exact ⟨p, h1, Nat.not_lt.mp h2⟩
theorem RI.g31 {nets n : Nat} {k o : Nat → Nat} {A B C : Nat → Int32} {ℓ i oc gr : Nat} {g w ord : Nat → Nat} {od : Nat → Prop} (hl : ℓ ≤ 31 := by omega) (h : RI nets n k o A B C ℓ i g w od ord oc gr) : ∀ j, j < nets → g j ≤ 31 := by
  obtain ⟨lv, h1, h2, h3, h4, -⟩ := h
  intro j hj
  by_cases hw : w j = 0
  · rcases ((h4 j hj).2 hw).2 with ⟨-, z⟩ | ⟨c, d1, d2, d3⟩
    · omega
    · have hod : od c := Classical.byContradiction fun z => cnt_eq0 ((h3 j hj).symm.trans hw) c d1 ⟨d2, z⟩
      have := (h1 c d1 hod).2.1; omega
  · rw [(h4 j hj).1 hw]; exact Nat.le_refl _
theorem RI.oc_le {nets n : Nat} {k o : Nat → Nat} {A B C : Nat → Int32} {ℓ i oc gr : Nat} {g w ord : Nat → Nat} {od : Nat → Prop} (h : RI nets n k o A B C ℓ i g w od ord oc gr) : oc ≤ n := by
  obtain ⟨lv, h1, h2, -⟩ := h
  rw [h2.1]; exact cnt_le _ _
theorem hold_step {n i : Nat} {k q q2 : Nat → Nat} {C : Nat → Int32} {v : Nat} (h : ∀ t, t < n → q2 t = if t < i then (if k t = 8 then (C t).toNatClampNeg else if k t = 7 then 2 else q t) else q t) (hi : i < n) (hv : v = if k i = 8 then (C i).toNatClampNeg else if k i = 7 then 2 else q i) : ∀ t, t < n → up q2 i v t = if t < i + 1 then (if k t = 8 then (C t).toNatClampNeg else if k t = 7 then 2 else q t) else q t := by
  intro t ht
  by_cases z : t = i
  · subst z; rw [up_s, if_pos (show t < t + 1 by omega)]; exact hv
  · rw [up_n z, h t ht]
    by_cases y : t < i
    · rw [if_pos y, if_pos (show t < i + 1 by omega)]
    · rw [if_neg y, if_neg (show ¬ t < i + 1 by omega)]
theorem upd_all {f : Nat → Int32} {i : Nat} {x : Int32} (h : ∀ j, j < i → f j = x) : ∀ j, j < i + 1 → upd f i x j = x := by
  intro j hj
  by_cases q : j = i
  · subst q; rw [pk_us]
  · rw [pk_un q]; exact h j (by omega)
theorem updL_all {f : Nat → Int64} {i : Nat} {x : Int64} (h : ∀ j, j < i → f j = x) : ∀ j, j < i + 1 → vp_updL f i x j = x := by
  intro j hj
  by_cases q : j = i
  · subst q; rw [pk_uLs]
  · rw [pk_uLn q]; exact h j (by omega)
theorem hold_same {n i : Nat} {k q q2 : Nat → Nat} {C : Nat → Int32} (h : ∀ t, t < n → q2 t = if t < i then (if k t = 8 then (C t).toNatClampNeg else if k t = 7 then 2 else q t) else q t) (hv : (if k i = 8 then (C i).toNatClampNeg else if k i = 7 then 2 else q i) = q i) : ∀ t, t < n → q2 t = if t < i + 1 then (if k t = 8 then (C t).toNatClampNeg else if k t = 7 then 2 else q t) else q t := by
  intro t ht
  rw [h t ht]
  by_cases z : t = i
  · subst z; rw [if_neg (Nat.lt_irrefl t), if_pos (show t < t + 1 by omega), hv]
  · by_cases y : t < i
    · rw [if_pos y, if_pos (show t < i + 1 by omega)]
    · rw [if_neg y, if_neg (show ¬ t < i + 1 by omega)]
