/-! PURE: counting -/
noncomputable def cnt (P : Nat → Prop) : Nat → Nat
  | 0 => 0
  | n + 1 => cnt P n + @ite Nat (P n) (Classical.propDecidable (P n)) 1 0
theorem cnt_t {P : Nat → Prop} {n : Nat} (h : P n) : cnt P (n + 1) = cnt P n + 1 := by
  show cnt P n + @ite Nat (P n) (Classical.propDecidable (P n)) 1 0 = _
  rw [if_pos h]
theorem cnt_f {P : Nat → Prop} {n : Nat} (h : ¬ P n) : cnt P (n + 1) = cnt P n := by
  show cnt P n + @ite Nat (P n) (Classical.propDecidable (P n)) 1 0 = _
  rw [if_neg h]; rfl
theorem cnt_le (P : Nat → Prop) (n : Nat) : cnt P n ≤ n := by
  induction n with
  | zero => exact Nat.le_refl 0
  | succ n ih =>
    by_cases h : P n
    · rw [cnt_t h]; omega
    · rw [cnt_f h]; omega
theorem cnt_congr {P Q : Nat → Prop} {n : Nat} (h : ∀ i, i < n → (P i ↔ Q i)) : cnt P n = cnt Q n := by
  induction n with
  | zero => rfl
  | succ n ih =>
    have e := ih (fun i hi => h i (by omega))
    by_cases q : P n
    · rw [cnt_t q, cnt_t ((h n (by omega)).mp q), e]
    · rw [cnt_f q, cnt_f (fun z => q ((h n (by omega)).mpr z)), e]
theorem cnt_zero {P : Nat → Prop} {n : Nat} (h : ∀ i, i < n → ¬ P i) : cnt P n = 0 := by
  induction n with
  | zero => rfl
  | succ n ih => rw [cnt_f (h n (by omega))]; exact ih (fun i hi => h i (by omega))
theorem cnt_pos {P : Nat → Prop} {n i : Nat} (hi : i < n) (h : P i) : 0 < cnt P n := by
  induction n with
  | zero => omega
  | succ n ih =>
    by_cases q : P n
    · rw [cnt_t q]; omega
    · rw [cnt_f q]
      have : i ≠ n := fun z => q (by rw [← z]; exact h)
      exact ih (by omega)
theorem cnt_eq0 {P : Nat → Prop} {n : Nat} (h : cnt P n = 0) : ∀ i, i < n → ¬ P i := fun i hi q => by have := cnt_pos hi q; omega
theorem cnt_lt {P : Nat → Prop} {n i : Nat} (hi : i < n) (h : ¬ P i) : cnt P n < n := by
  induction n with
  | zero => omega
  | succ n ih =>
    by_cases q : i = n
    · subst q; rw [cnt_f h]; have := cnt_le P i; omega
    · have := ih (by omega)
      by_cases z : P n
      · rw [cnt_t z]; omega
      · rw [cnt_f z]; omega
theorem cnt_all {P : Nat → Prop} {n : Nat} (h : cnt P n = n) : ∀ i, i < n → P i := fun i hi => Classical.byContradiction fun q => by have := cnt_lt hi q; omega
/-- one more -/
theorem cnt_more {P Q : Nat → Prop} {n c : Nat} (hc : c < n) (hP : ¬ P c) (hQ : Q c) (h : ∀ i, i < n → i ≠ c → (P i ↔ Q i)) : cnt Q n = cnt P n + 1 := by
  induction n with
  | zero => omega
  | succ n ih =>
    by_cases q : c = n
    · subst q
      rw [cnt_t hQ, cnt_f hP, cnt_congr (fun i hi => h i (by omega) (by omega))]
    · have e := ih (by omega) (fun i hi hne => h i (by omega) hne)
      have hn := h n (by omega) (fun z => q z.symm)
      by_cases z : P n
      · rw [cnt_t z, cnt_t (hn.mp z), e]
      · rw [cnt_f z, cnt_f (fun y => z (hn.mpr y)), e]
/-! PURE: the class's ranking -/
def RI (nets n : Nat) (k o : Nat → Nat) (A B C : Nat → Int32) (ℓ i : Nat) (g w : Nat → Nat) (od : Nat → Prop) (ord : Nat → Nat) (oc gr : Nat) : Prop := ∃ lv : Nat → Nat,
  (∀ c, c < n → od c → 1 ≤ lv c ∧ lv c ≤ ℓ ∧ (i ≤ c → lv c < ℓ)) ∧
  (oc = cnt od n ∧ (∀ t, t < oc → ord t < n ∧ od (ord t)) ∧ (∀ t t', t < oc → t' < oc → ord t = ord t' → t = t') ∧ (∀ c, c < n → od c → ∃ t, t < oc ∧ ord t = c)) ∧
  (∀ j, j < nets → w j = cnt (fun c => o c = j ∧ ¬ od c) n) ∧
  (∀ j, j < nets → (w j ≠ 0 → g j = 31) ∧ (w j = 0 → (∀ c, c < n → o c = j → lv c ≤ g j) ∧ (((∀ c, c < n → o c ≠ j) ∧ g j = 0) ∨ ∃ c, c < n ∧ o c = j ∧ lv c = g j))) ∧
  (∀ c, c < n → od c → ∀ p, p < depN (k c) → g (iN A B C c p) < lv c) ∧
  (∀ t, t < oc → ∀ p, p < depN (k (ord t)) → ∀ c, c < n → o c = iN A B C (ord t) p → ∃ t', t' < t ∧ ord t' = c) ∧
  (∀ c, c < n → od c → lv c = 1 ∨ ∃ p, p < depN (k c) ∧ g (iN A B C c p) + 1 = lv c) ∧
  (∀ c, c < n → ¬ od c → (c < i → ∃ p, p < depN (k c) ∧ ℓ ≤ g (iN A B C c p)) ∧ (i ≤ c → ℓ = 1 ∨ ∃ p, p < depN (k c) ∧ ℓ ≤ g (iN A B C c p) + 1)) ∧
  ((∀ c, c < n → od c → lv c ≤ gr) ∧ ((gr = 0 ∧ oc = 0) ∨ ∃ c, c < n ∧ od c ∧ lv c = gr))
theorem RI.start {nets n : Nat} {k o : Nat → Nat} {A B C : Nat → Int32} {g w ord : Nat → Nat} {od : Nat → Prop} (hod : ∀ c, c < n → ¬ od c) (hw : ∀ j, j < nets → w j = cnt (fun c => o c = j) n) (hg : ∀ j, j < nets → g j = if w j = 0 then 0 else 31) : RI nets n k o A B C 1 0 g w od ord 0 0 := by
  refine ⟨fun _ => 0, fun c hc q => absurd q (hod c hc), ⟨(cnt_zero hod).symm, fun t ht => absurd ht (Nat.not_lt_zero _), fun t t' ht => absurd ht (Nat.not_lt_zero _), fun c hc q => absurd q (hod c hc)⟩, fun j hj => ?_, fun j hj => ⟨fun q => ?_, fun q => ⟨fun c _ _ => Nat.zero_le _, ?_⟩⟩, fun c hc q => absurd q (hod c hc), fun t ht => absurd ht (Nat.not_lt_zero _), fun c hc q => absurd q (hod c hc), fun c hc q => ⟨fun z => absurd z (Nat.not_lt_zero _), fun _ => Or.inl rfl⟩, fun c hc q => absurd q (hod c hc), Or.inl ⟨rfl, rfl⟩⟩
  · rw [hw j hj]
    exact cnt_congr (fun c hc => ⟨fun z => ⟨z, hod c hc⟩, fun z => z.1⟩)
  · rw [hg j hj, if_neg q]
  · refine Or.inl ⟨?_, by rw [hg j hj, if_pos q]⟩
    rw [hw j hj] at q
    exact cnt_eq0 q
/-- a pass is through: the next level -/
theorem RI.next {nets n : Nat} {k o : Nat → Nat} {A B C : Nat → Int32} {ℓ oc gr : Nat} {g w ord : Nat → Nat} {od : Nat → Prop} (h : RI nets n k o A B C ℓ n g w od ord oc gr) : RI nets n k o A B C (ℓ + 1) 0 g w od ord oc gr := by
  obtain ⟨lv, h1, h2, h3, h4, h5, h6, h7, h8, h9⟩ := h
  refine ⟨lv, fun c hc q => ⟨(h1 c hc q).1, ?_, fun _ => ?_⟩, h2, h3, h4, h5, h6, h7, fun c hc q => ⟨fun z => absurd z (Nat.not_lt_zero _), fun _ => ?_⟩, h9⟩
  · have := (h1 c hc q).2.1; omega
  · have := (h1 c hc q).2.1; omega
  · obtain ⟨p, a, b⟩ := (h8 c hc q).1 hc
    exact Or.inr ⟨p, a, by omega⟩
/-- a cell that has its place, or isn't ready: passed over -/
theorem RI.skip {nets n : Nat} {k o : Nat → Nat} {A B C : Nat → Int32} {ℓ i oc gr : Nat} {g w ord : Nat → Nat} {od : Nat → Prop} (h : RI nets n k o A B C ℓ i g w od ord oc gr) (hi : i < n) (hs : od i ∨ ∃ p, p < depN (k i) ∧ ℓ ≤ g (iN A B C i p)) : RI nets n k o A B C ℓ (i + 1) g w od ord oc gr := by
  obtain ⟨lv, h1, h2, h3, h4, h5, h6, h7, h8, h9⟩ := h
  refine ⟨lv, fun c hc q => ⟨(h1 c hc q).1, (h1 c hc q).2.1, fun z => (h1 c hc q).2.2 (by omega)⟩, h2, h3, h4, h5, h6, h7, fun c hc q => ⟨fun z => ?_, fun z => (h8 c hc q).2 (by omega)⟩, h9⟩
  by_cases hci : c = i
  · subst hci
    exact hs.resolve_left q
  · exact (h8 c hc q).1 (by omega)
theorem RI.oc_lt {nets n : Nat} {k o : Nat → Nat} {A B C : Nat → Int32} {ℓ i oc gr c : Nat} {g w ord : Nat → Nat} {od : Nat → Prop} (h : RI nets n k o A B C ℓ i g w od ord oc gr) (hc : c < n) (hn : ¬ od c) : oc < n := by
  obtain ⟨lv, h1, h2, -⟩ := h
  rw [h2.1]; exact cnt_lt hc hn
theorem RI.w_pos {nets n : Nat} {k o : Nat → Nat} {A B C : Nat → Int32} {ℓ i oc gr c : Nat} {g w ord : Nat → Nat} {od : Nat → Prop} (h : RI nets n k o A B C ℓ i g w od ord oc gr) (hc : c < n) (ho : o c < nets) (hn : ¬ od c) : 0 < w (o c) ∧ w (o c) ≤ n := by
  obtain ⟨lv, h1, h2, h3, -⟩ := h
  rw [h3 _ ho]; exact ⟨cnt_pos hc ⟨rfl, hn⟩, cnt_le _ _⟩
/-- a cell gets its place -/
theorem RI.place {nets n : Nat} {k o : Nat → Nat} {A B C : Nat → Int32} {ℓ i oc gr : Nat} {g w ord : Nat → Nat} {od : Nat → Prop} (hwf : WfC nets n k o A B C) (h : RI nets n k o A B C ℓ i g w od ord oc gr) (hi : i < n) (hℓ : 1 ≤ ℓ) (hℓ2 : ℓ ≤ 30) (hn : ¬ od i) (hr : ∀ p, p < depN (k i) → g (iN A B C i p) < ℓ) :
    RI nets n k o A B C ℓ (i + 1) (if w (o i) - 1 = 0 then up g (o i) ℓ else g) (up w (o i) (w (o i) - 1)) (up od i True) (up ord oc i) (oc + 1) ℓ := by
  have ho := (hwf i hi).2.1
  have hwp := (h.w_pos hi ho hn).1
  obtain ⟨lv, h1, h2, h3, h4, h5, h6, h7, h8, h9⟩ := h
  obtain ⟨g', hg'⟩ : ∃ g', g' = (if w (o i) - 1 = 0 then up g (o i) ℓ else g) := ⟨_, rfl⟩
  rw [← hg']
  have hg31 : g (o i) = 31 := (h4 _ ho).1 (by omega)
  -- the net of the output changes from 31 at most
  have hgn : ∀ j, g j ≠ 31 → g' j = g j := fun j hj => by
    rw [hg']; split
    · exact up_n (fun q => hj (by rw [q]; exact hg31))
    · rfl
  have hgge : ∀ j x, x ≤ ℓ → x ≤ g j → x ≤ g' j := fun j x hx hj => by
    rw [hg']; split
    · by_cases q : j = o i
      · rw [q, up_s]; exact hx
      · rw [up_n q]; exact hj
    · exact hj
  have hodi : ∀ c, c ≠ i → (up od i True c ↔ od c) := fun c hc => by rw [up_n hc]
  have hods : up od i True i := by rw [up_s]; trivial
  have hlvn : ∀ c, c ≠ i → up lv i ℓ c = lv c := fun c hc => up_n hc
  have hocn : oc < n := by rw [h2.1]; exact cnt_lt hi hn
  have hordn : ∀ t, t < oc → up ord oc i t = ord t := fun t ht => up_n (by omega)
  have hordi : ∀ t, t < oc → ord t ≠ i := fun t ht q => hn (by rw [← q]; exact (h2.2.1 t ht).2)
  have h7' : ∀ c, c < n → od c → c ≠ i := fun c _ q z => hn (by rw [← z]; exact q)
  refine ⟨up lv i ℓ, fun c hc q => ?_, ⟨?_, fun t ht => ?_, fun t t' ht ht' he => ?_, fun c hc q => ?_⟩, fun j hj => ?_, fun j hj => ⟨fun q => ?_, fun q => ?_⟩, fun c hc q p hp => ?_, fun t ht p hp c hc he => ?_, fun c hc q => ?_, fun c hc q => ⟨fun z => ?_, fun z => ?_⟩, fun c hc q => ?_, Or.inr ⟨i, hi, hods, up_s⟩⟩
  · by_cases hci : c = i
    · subst hci; rw [up_s]; exact ⟨hℓ, Nat.le_refl _, fun z => by omega⟩
    · rw [hlvn c hci]
      have := h1 c hc ((hodi c hci).mp q)
      exact ⟨this.1, this.2.1, fun z => this.2.2 (by omega)⟩
  · rw [h2.1]
    exact (cnt_more hi hn hods (fun c _ hc => (hodi c hc).symm)).symm
  · by_cases htt : t = oc
    · subst htt; rw [up_s]; exact ⟨hi, hods⟩
    · have := h2.2.1 t (by omega)
      rw [hordn t (by omega)]
      exact ⟨this.1, (hodi _ (hordi t (by omega))).mpr this.2⟩
  · by_cases a : t = oc <;> by_cases b : t' = oc
    · omega
    · subst a; rw [up_s, hordn t' (by omega)] at he
      exact absurd he.symm (hordi t' (by omega))
    · subst b; rw [up_s, hordn t (by omega)] at he
      exact absurd he (hordi t (by omega))
    · rw [hordn t (by omega), hordn t' (by omega)] at he
      exact h2.2.2.1 t t' (by omega) (by omega) he
  · by_cases hci : c = i
    · subst hci; exact ⟨oc, by omega, up_s⟩
    · obtain ⟨t, a, b⟩ := h2.2.2.2 c hc ((hodi c hci).mp q)
      exact ⟨t, by omega, by rw [hordn t a]; exact b⟩
  · by_cases hjo : j = o i
    · subst hjo
      rw [up_s]
      have e : cnt (fun c => o c = o i ∧ ¬ od c) n = cnt (fun c => o c = o i ∧ ¬ up od i True c) n + 1 := by
        refine cnt_more hi (fun z => z.2 hods) ⟨rfl, hn⟩ (fun c hc hci => ?_)
        rw [hodi c hci]
      have := h3 _ ho
      omega
    · rw [up_n hjo, h3 j hj]
      refine cnt_congr (fun c hc => ⟨fun z => ⟨z.1, fun y => z.2 ?_⟩, fun z => ⟨z.1, fun y => z.2 ?_⟩⟩)
      · have hci : c ≠ i := fun x => hjo (by rw [← z.1, x])
        exact (hodi c hci).mp y
      · have hci : c ≠ i := fun x => hjo (by rw [← z.1, x])
        exact (hodi c hci).mpr y
  · by_cases hjo : j = o i
    · subst hjo
      rw [up_s] at q
      rw [hg', if_neg (by omega)]
      exact hg31
    · rw [up_n hjo] at q
      have := (h4 j hj).1 q
      rw [hg']; split
      · rw [up_n hjo]; exact this
      · exact this
  · by_cases hjo : j = o i
    · subst hjo
      rw [up_s] at q
      have e : g' (o i) = ℓ := by rw [hg', if_pos q, up_s]
      rw [e]
      refine ⟨fun c hc hco => ?_, Or.inr ⟨i, hi, rfl, up_s⟩⟩
      by_cases hci : c = i
      · subst hci; rw [up_s]; omega
      · rw [hlvn c hci]
        have hodc : od c := Classical.byContradiction fun z => by
          -- another driver without a place: two are waiting
          have h2c : cnt (fun c => o c = o i ∧ ¬ od c) n = cnt (fun c => o c = o i ∧ ¬ up od i True c) n + 1 := cnt_more hi (fun z => z.2 hods) ⟨rfl, hn⟩ (fun c hc hci => by rw [hodi c hci])
          have h3c : 0 < cnt (fun c => o c = o i ∧ ¬ up od i True c) n := cnt_pos hc ⟨hco, fun y => z ((hodi c hci).mp y)⟩
          have := h3 _ ho
          omega
        exact (h1 c hc hodc).2.1
    · rw [up_n hjo] at q
      have e : g' j = g j := by
        rw [hg']; split
        · rw [up_n hjo]
        · rfl
      rw [e]
      obtain ⟨a, b⟩ := (h4 j hj).2 q
      refine ⟨fun c hc hco => ?_, ?_⟩
      · have hci : c ≠ i := fun x => hjo (by rw [← hco, x])
        rw [hlvn c hci]; exact a c hc hco
      · rcases b with b | ⟨c, c1, c2, c3⟩
        · exact Or.inl b
        · have hci : c ≠ i := fun x => hjo (by rw [← c2, x])
          exact Or.inr ⟨c, c1, c2, by rw [hlvn c hci]; exact c3⟩
  · by_cases hci : c = i
    · subst hci
      rw [up_s]
      have := hr p hp
      rw [hgn _ (by omega)]; exact this
    · rw [hlvn c hci]
      have hoc := (hodi c hci).mp q
      have := h5 c hc hoc p hp
      have h30 := (h1 c hc hoc).2.1
      rw [hgn _ (by omega)]; exact this
  · by_cases htt : t = oc
    · subst htt
      rw [up_s] at hp he
      have hlt := hr p hp
      have hin := hwf.inn hi hp
      have hw0 : w (iN A B C i p) = 0 := Classical.byContradiction fun z => by have := (h4 _ hin).1 z; omega
      have hodc : od c := Classical.byContradiction fun z => by
        have := h3 _ hin
        have h0 := cnt_eq0 (this.symm.trans hw0) c hc
        exact h0 ⟨he, z⟩
      obtain ⟨t', a, b⟩ := h2.2.2.2 c hc hodc
      exact ⟨t', a, by rw [hordn t' a]; exact b⟩
    · have ht2 : t < oc := by omega
      rw [hordn t ht2] at hp he
      obtain ⟨t', a, b⟩ := h6 t ht2 p hp c hc he
      exact ⟨t', a, by rw [hordn t' (by omega)]; exact b⟩
  · by_cases hci : c = i
    · subst hci
      rw [up_s]
      rcases (h8 c hc hn).2 (Nat.le_refl _) with z | ⟨p, a, b⟩
      · exact Or.inl z
      · have hlt := hr p a
        refine Or.inr ⟨p, a, ?_⟩
        rw [hgn _ (by omega)]; omega
    · have hoc := (hodi c hci).mp q
      rw [hlvn c hci]
      rcases h7 c hc hoc with z | ⟨p, a, b⟩
      · exact Or.inl z
      · have h30 := (h1 c hc hoc).2.1
        exact Or.inr ⟨p, a, by rw [hgn _ (by omega)]; exact b⟩
  · by_cases hci : c = i
    · subst hci; exact absurd hods q
    · obtain ⟨p, a, b⟩ := (h8 c hc (fun y => q ((hodi c hci).mpr y))).1 (by omega)
      exact ⟨p, a, hgge _ _ (Nat.le_refl _) b⟩
  · have hci : c ≠ i := by omega
    rcases (h8 c hc (fun y => q ((hodi c hci).mpr y))).2 (by omega) with y | ⟨p, a, b⟩
    · exact Or.inl y
    · refine Or.inr ⟨p, a, ?_⟩
      have := hgge (iN A B C c p) (ℓ - 1) (by omega) (by omega)
      omega
  · by_cases hci : c = i
    · subst hci; rw [up_s]; omega
    · rw [hlvn c hci]; exact (h1 c hc ((hodi c hci).mp q)).2.1
/-- what a ranking has found -/
def Ranked (nets n : Nat) (k o : Nat → Nat) (A B C : Nat → Int32) (g ord : Nat → Nat) (gr : Nat) : Prop := Up n k o A B C g ∧ (∀ j, j < nets → g j ≤ 30) ∧ Topo n k o A B C ord ∧ (∀ L, Up n k o A B C L → ∀ j, j < nets → g j ≤ L j) ∧ (∀ j, j < nets → g j ≤ gr) ∧ (gr = 0 ∨ ∃ j, j < nets ∧ g j = gr)
theorem RI.least {nets n : Nat} {k o : Nat → Nat} {A B C : Nat → Int32} {ℓ i oc gr : Nat} {g w ord : Nat → Nat} {od : Nat → Prop} (hwf : WfC nets n k o A B C) (hℓ : ℓ ≤ 31) (h : RI nets n k o A B C ℓ i g w od ord oc gr) {L : Nat → Nat} (hL : Up n k o A B C L) : ∀ j, j < nets → w j = 0 → g j ≤ L j := by
  obtain ⟨lv, h1, h2, h3, h4, h5, h6, h7, h8, h9⟩ := h
  have hodw : ∀ j, j < nets → w j = 0 → ∀ c, c < n → o c = j → od c := fun j hj hw c hc hco => Classical.byContradiction fun z => cnt_eq0 ((h3 j hj).symm.trans hw) c hc ⟨hco, z⟩
  have key : ∀ x c, lv c < x → c < n → od c → lv c ≤ L (o c) := by
    intro x
    induction x with
    | zero => intro c hx; omega
    | succ x ih =>
      intro c hx hc hoc
      have hu := hL c hc
      rcases h7 c hc hoc with z | ⟨p, a, b⟩
      · rw [z]; exact hu.1
      · have hin := hwf.inn hc a
        have h30 := (h1 c hc hoc).2.1
        have hw0 : w (iN A B C c p) = 0 := Classical.byContradiction fun z => by have := (h4 _ hin).1 z; omega
        have hup := hu.2 p a
        rcases ((h4 _ hin).2 hw0).2 with ⟨-, z⟩ | ⟨c2, d1, d2, d3⟩
        · omega
        · have := ih c2 (by omega) d1 (hodw _ hin hw0 c2 d1 d2)
          rw [d2] at this
          omega
  intro j hj hw
  rcases ((h4 j hj).2 hw).2 with ⟨-, z⟩ | ⟨c, d1, d2, d3⟩
  · omega
  · have := key (lv c + 1) c (by omega) d1 (hodw j hj hw c d1 d2)
    rw [d2] at this
    omega
theorem RI.good {nets n : Nat} {k o : Nat → Nat} {A B C : Nat → Int32} {oc gr : Nat} {g w ord : Nat → Nat} {od : Nat → Prop} (hwf : WfC nets n k o A B C) (h : RI nets n k o A B C 31 0 g w od ord oc gr) (hoc : oc = n) : Ranked nets n k o A B C g ord gr := by
  have hl := fun {L} => h.least hwf (Nat.le_refl _) (L := L)
  obtain ⟨lv, h1, h2, h3, h4, h5, h6, h7, h8, h9⟩ := h
  have hall : ∀ c, c < n → od c := cnt_all (by rw [← h2.1]; exact hoc)
  have hw0 : ∀ j, j < nets → w j = 0 := fun j hj => by rw [h3 j hj]; exact cnt_zero (fun c hc z => z.2 (hall c hc))
  have hlv : ∀ c, c < n → lv c ≤ 30 := fun c hc => by have := (h1 c hc (hall c hc)).2.2 (Nat.zero_le _); omega
  refine ⟨fun c hc => ?_, fun j hj => ?_, ⟨fun t ht => (h2.2.1 t (by omega)).1, fun t t' ht ht' he => h2.2.2.1 t t' (by omega) (by omega) he, fun i hi => ?_, fun t ht p hp i hi he => h6 t (by omega) p hp i hi he⟩, fun L hL j hj => hl hL j hj (hw0 j hj), fun j hj => ?_, ?_⟩
  · have ho := (hwf c hc).2.1
    have e1 := ((h4 _ ho).2 (hw0 _ ho)).1 c hc rfl
    have e2 := (h1 c hc (hall c hc)).1
    refine ⟨by omega, fun p hp => ?_⟩
    have := h5 c hc (hall c hc) p hp
    omega
  · rcases ((h4 j hj).2 (hw0 j hj)).2 with ⟨-, z⟩ | ⟨c, d1, d2, d3⟩
    · omega
    · have := hlv c d1; omega
  · obtain ⟨t, a, b⟩ := h2.2.2.2 i hi (hall i hi)
    exact ⟨t, by omega, b⟩
  · rcases ((h4 j hj).2 (hw0 j hj)).2 with ⟨-, z⟩ | ⟨c, d1, d2, d3⟩
    · omega
    · have := h9.1 c d1 (hall c d1); omega
  · rcases h9.2 with z | ⟨c, d1, d2, d3⟩
    · exact Or.inl z.1
    · refine Or.inr ⟨o c, (hwf c d1).2.1, ?_⟩
      have ho := (hwf c d1).2.1
      have e1 := ((h4 _ ho).2 (hw0 _ ho)).1 c d1 rfl
      rcases ((h4 _ ho).2 (hw0 _ ho)).2 with ⟨z, -⟩ | ⟨c2, f1, f2, f3⟩
      · exact absurd rfl (z c d1)
      · have := h9.1 c2 f1 (hall c2 f1); omega
theorem RI.bad {nets n : Nat} {k o : Nat → Nat} {A B C : Nat → Int32} {oc gr : Nat} {g w ord : Nat → Nat} {od : Nat → Prop} (hwf : WfC nets n k o A B C) (h : RI nets n k o A B C 31 0 g w od ord oc gr) (hoc : oc ≠ n) : ¬ ∃ L, Up n k o A B C L ∧ ∀ c, c < n → L (o c) ≤ 30 := by
  rintro ⟨L, hL, h30⟩
  have hl := h.least hwf (Nat.le_refl _) hL
  obtain ⟨lv, h1, h2, h3, h4, h5, h6, h7, h8, h9⟩ := h
  have key : ∀ x c, L (o c) < x → c < n → od c := by
    intro x
    induction x with
    | zero => intro c hx; omega
    | succ x ih =>
      intro c hx hc
      refine Classical.byContradiction fun q => ?_
      rcases (h8 c hc q).2 (Nat.zero_le _) with z | ⟨p, a, b⟩
      · omega
      · have hu := (hL c hc).2 p a
        have hin := hwf.inn hc a
        have hc30 := h30 c hc
        by_cases hw : w (iN A B C c p) = 0
        · have := hl _ hin hw; omega
        · have hex : ∃ c2, c2 < n ∧ (o c2 = iN A B C c p ∧ ¬ od c2) := Classical.byContradiction fun z => hw (by
            rw [h3 _ hin]
            exact cnt_zero (fun c2 hc2 y => z ⟨c2, hc2, y⟩))
          obtain ⟨c2, e1, e2, e3⟩ := hex
          exact e3 (ih c2 (by rw [e2]; omega) e1)
  refine hoc ?_
  rw [h2.1]
  have : ∀ m, m ≤ n → cnt od m = m := by
    intro m
    induction m with
    | zero => intro _; rfl
    | succ m ih => intro hm; rw [cnt_t (key (L (o m) + 1) m (by omega) (by omega)), ih (by omega)]
  exact this n (Nat.le_refl _)
