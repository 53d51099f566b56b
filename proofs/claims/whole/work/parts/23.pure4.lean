/-! PURE: the model's levels, by rounds -/
def md (dep x0 x1 x2 : Nat) : Nat := if 2 < dep ∧ (if 1 < dep ∧ (if 0 < dep ∧ 0 < x0 then x0 else 0) < x1 then x1 else (if 0 < dep ∧ 0 < x0 then x0 else 0)) < x2 then x2 else (if 1 < dep ∧ (if 0 < dep ∧ 0 < x0 then x0 else 0) < x1 then x1 else (if 0 < dep ∧ 0 < x0 then x0 else 0))
def mdc (k : Nat → Nat) (A B C : Nat → Int32) (b : Nat → Nat) (c : Nat) : Nat := md (depN (k c)) (b (iN A B C c 0)) (b (iN A B C c 1)) (b (iN A B C c 2))
theorem dep3 (k : Nat) : depN k ≤ 3 := Nat.le_trans (depN_le k) (inpN_le k)
theorem mdc_ge {k : Nat → Nat} {A B C : Nat → Int32} {b : Nat → Nat} {c p : Nat} (hp : p < depN (k c)) : b (iN A B C c p) ≤ mdc k A B C b c := by
  have h3 := dep3 (k c)
  unfold mdc md
  match p, hp with
  | 0, hp => repeat' split
             all_goals omega
  | 1, hp => repeat' split
             all_goals omega
  | 2, hp => repeat' split
             all_goals omega
  | p + 3, hp => omega
theorem md_at (d x0 x1 x2 : Nat) : md d x0 x1 x2 = 0 ∨ (0 < d ∧ md d x0 x1 x2 = x0) ∨ (1 < d ∧ md d x0 x1 x2 = x1) ∨ (2 < d ∧ md d x0 x1 x2 = x2) := by
  unfold md
  repeat' split
  all_goals omega
theorem mdc_at (k : Nat → Nat) (A B C : Nat → Int32) (b : Nat → Nat) (c : Nat) : mdc k A B C b c = 0 ∨ ∃ p, p < depN (k c) ∧ mdc k A B C b c = b (iN A B C c p) := by
  rcases md_at (depN (k c)) (b (iN A B C c 0)) (b (iN A B C c 1)) (b (iN A B C c 2)) with e | ⟨h, e⟩ | ⟨h, e⟩ | ⟨h, e⟩
  · exact Or.inl e
  · exact Or.inr ⟨0, h, e⟩
  · exact Or.inr ⟨1, h, e⟩
  · exact Or.inr ⟨2, h, e⟩
theorem mdc_le {k : Nat → Nat} {A B C : Nat → Int32} {b : Nat → Nat} {c M : Nat} (h : ∀ p, p < depN (k c) → b (iN A B C c p) ≤ M) : mdc k A B C b c ≤ M := by
  rcases mdc_at k A B C b c with e | ⟨p, hp, e⟩
  · omega
  · rw [e]; exact h p hp
def rel (k o : Nat → Nat) (A B C : Nat → Int32) (b : Nat → Nat) (c : Nat) : Nat → Nat := if b (o c) < mdc k A B C b c + 1 then up b (o c) (mdc k A B C b c + 1) else b
def LI (n : Nat) (k o : Nat → Nat) (A B C : Nat → Int32) (r c : Nat) (b : Nat → Nat) : Prop := (∀ L, Up n k o A B C L → ∀ j, b j ≤ L j) ∧ (∀ j, b j ≠ 0 → ∃ c', c' < n ∧ o c' = j) ∧ (∀ c', c' < n → ¬ (mdc k A B C b c' + 1 ≤ b (o c')) → (c' < c → r + 1 ≤ mdc k A B C b c') ∧ (c ≤ c' → r ≤ mdc k A B C b c')) ∧ (∀ j, b j ≤ r * 60 + c)
theorem LI.start {n : Nat} {k o : Nat → Nat} {A B C : Nat → Int32} {b : Nat → Nat} (h : ∀ j, b j = 0) : LI n k o A B C 0 0 b :=
  ⟨fun L _ j => by rw [h j]; exact Nat.zero_le _, fun j q => absurd (h j) q, fun c' _ _ => ⟨fun z => absurd z (Nat.not_lt_zero _), fun _ => Nat.zero_le _⟩, fun j => by rw [h j]; exact Nat.zero_le _⟩
theorem LI.next {n : Nat} {k o : Nat → Nat} {A B C : Nat → Int32} {r : Nat} {b : Nat → Nat} (hn : n ≤ 60) (h : LI n k o A B C r n b) : LI n k o A B C (r + 1) 0 b :=
  ⟨h.1, h.2.1, fun c' hc q => ⟨fun z => absurd z (Nat.not_lt_zero _), fun _ => (h.2.2.1 c' hc q).1 hc⟩, fun j => by have := h.2.2.2 j; omega⟩
theorem LI.step {n : Nat} {k o : Nat → Nat} {A B C : Nat → Int32} {r c : Nat} {b : Nat → Nat} (hc : c < n) (h : LI n k o A B C r c b) : LI n k o A B C r (c + 1) (rel k o A B C b c) := by
  obtain ⟨h1, h2, h3, h4⟩ := h
  unfold rel
  split
  next q =>
    have hmr : r ≤ mdc k A B C b c := (h3 c hc (by omega)).2 (Nat.le_refl _)
    obtain ⟨v, hv⟩ : ∃ v, v = mdc k A B C b c + 1 := ⟨_, rfl⟩
    rw [← hv] at q ⊢
    have hge : ∀ j, b j ≤ up b (o c) v j := fun j => by
      by_cases z : j = o c
      · rw [z, up_s]; omega
      · rw [up_n z]; exact Nat.le_refl _
    have hmono : ∀ c', mdc k A B C b c' ≤ mdc k A B C (up b (o c) v) c' := fun c' => mdc_le (fun p hp => Nat.le_trans (hge _) (mdc_ge hp))
    refine ⟨fun L hL j => ?_, fun j z => ?_, fun c' hc' z => ?_, fun j => ?_⟩
    · by_cases y : j = o c
      · rw [y, up_s, hv]
        have hu := hL c hc
        rcases mdc_at k A B C b c with e | ⟨p, hp, e⟩
        · rw [e]; exact hu.1
        · rw [e]
          have a1 := h1 L hL (iN A B C c p)
          have a2 := hu.2 p hp
          omega
      · rw [up_n y]; exact h1 L hL j
    · by_cases y : j = o c
      · exact ⟨c, hc, y.symm⟩
      · rw [up_n y] at z; exact h2 j z
    · -- c' isn't tight now
      by_cases y : mdc k A B C b c' + 1 ≤ b (o c')
      · -- it was: what it waits for has just grown
        have hgrow : r + 1 ≤ mdc k A B C (up b (o c) v) c' := by
          rcases mdc_at k A B C (up b (o c) v) c' with e | ⟨p, hp, e⟩
          · have := hge (o c'); omega
          · by_cases x : iN A B C c' p = o c
            · rw [x, up_s] at e; omega
            · rw [up_n x] at e
              have := mdc_ge (A := A) (B := B) (C := C) (b := b) hp
              have := hge (o c')
              omega
        exact ⟨fun _ => hgrow, fun _ => by omega⟩
      · have e := h3 c' hc' y
        have hm := hmono c'
        refine ⟨fun x => ?_, fun x => ?_⟩
        · by_cases w : c' = c
          · subst w
            -- a cell that feeds itself
            rcases mdc_at k A B C (up b (o c') v) c' with e2 | ⟨p, hp, e2⟩
            · rw [up_s] at z; omega
            · by_cases x2 : iN A B C c' p = o c'
              · rw [x2, up_s] at e2; omega
              · rw [up_n x2] at e2
                have := mdc_ge (A := A) (B := B) (C := C) (b := b) hp
                rw [up_s] at z
                omega
          · have := e.1 (by omega); omega
        · have := e.2 (by omega); omega
    · by_cases y : j = o c
      · rw [y, up_s, hv]
        have : mdc k A B C b c ≤ r * 60 + c := mdc_le (fun p _ => h4 _)
        omega
      · rw [up_n y]; have := h4 j; omega
  next q =>
    refine ⟨h1, h2, fun c' hc' z => ⟨fun x => ?_, fun x => (h3 c' hc' z).2 (by omega)⟩, fun j => by have := h4 j; omega⟩
    by_cases w : c' = c
    · subst w; omega
    · exact (h3 c' hc' z).1 (by omega)
theorem LI.up {nets n : Nat} {k o : Nat → Nat} {A B C : Nat → Int32} {r : Nat} {b : Nat → Nat} (hwf : WfC nets n k o A B C) (h : LI n k o A B C r 0 b) (hr : 31 ≤ r) (h30 : ∀ j, j < nets → b j ≤ 30) : Up n k o A B C b := by
  have tight : ∀ c, c < n → mdc k A B C b c + 1 ≤ b (o c) := fun c hc => Classical.byContradiction fun q => by
    have e := (h.2.2.1 c hc q).2 (Nat.zero_le _)
    rcases mdc_at k A B C b c with e2 | ⟨p, hp, e2⟩
    · omega
    · have := h30 _ (hwf.inn hc hp); omega
  intro c hc
  have t := tight c hc
  refine ⟨by omega, fun p hp => ?_⟩
  have := mdc_ge (A := A) (B := B) (C := C) (b := b) hp
  omega
theorem LI.small {n : Nat} {k o : Nat → Nat} {A B C : Nat → Int32} {r : Nat} {b L : Nat → Nat} (h : LI n k o A B C r 0 b) (hL : Up n k o A B C L) (h30 : ∀ c, c < n → L (o c) ≤ 30) : ∀ j, b j ≤ 30 := fun j => by
  by_cases q : b j = 0
  · omega
  · obtain ⟨c, hc, e⟩ := h.2.1 j q
    have a := h.1 L hL j
    rw [← e] at a ⊢
    have := h30 c hc
    omega
/-- where there is a ranking, the rounds find it -/
theorem LI.same {nets n : Nat} {k o : Nat → Nat} {A B C : Nat → Int32} {r gr : Nat} {b g ord : Nat → Nat} (hwf : WfC nets n k o A B C) (h : LI n k o A B C r 0 b) (hr : 31 ≤ r) (hg : Ranked nets n k o A B C g ord gr) : ∀ j, j < nets → b j = g j := fun j hj => by
  have hs := h.small hg.1 (fun c hc => hg.2.1 _ (hwf c hc).2.1)
  have hu := h.up hwf hr (fun j _ => hs j)
  have a := h.1 g hg.1 j
  have b2 := hg.2.2.2.1 b hu j hj
  omega
/-! PURE: which net comes to depend on which -/
def R0 (n : Nat) (k o : Nat → Nat) (A B C : Nat → Int32) (a b : Nat) : Prop := ∃ c, c < n ∧ o c = a ∧ ∃ p, p < depN (k c) ∧ iN A B C c p = b
def wS (R : Nat → Nat → Prop) (m x : Nat) : Nat → Nat → Prop := fun a b => R a b ∨ (a = x ∧ R x m ∧ R m b)
def wIn (R : Nat → Nat → Prop) (m : Nat) : Nat → Nat → Nat → Prop
  | 0 => R
  | x + 1 => wS (wIn R m x) m x
def wOut (R : Nat → Nat → Prop) (nets : Nat) : Nat → Nat → Nat → Prop
  | 0 => R
  | m + 1 => wIn (wOut R nets m) m nets
theorem wS_dec {R : Nat → Nat → Prop} {L : Nat → Nat} {m x : Nat} (h : ∀ a b, R a b → L b < L a) : ∀ a b, wS R m x a b → L b < L a := by
  rintro a b (q | ⟨rfl, q1, q2⟩)
  · exact h a b q
  · have := h _ _ q1; have := h _ _ q2; omega
theorem wIn_dec {R : Nat → Nat → Prop} {L : Nat → Nat} {m : Nat} (h : ∀ a b, R a b → L b < L a) : ∀ x a b, wIn R m x a b → L b < L a := by
  intro x
  induction x with
  | zero => exact h
  | succ x ih => exact wS_dec ih
theorem wOut_dec {R : Nat → Nat → Prop} {L : Nat → Nat} {nets : Nat} (h : ∀ a b, R a b → L b < L a) : ∀ m a b, wOut R nets m a b → L b < L a := by
  intro m
  induction m with
  | zero => exact h
  | succ m ih => exact wIn_dec ih nets
theorem wOut_no {nets n m : Nat} {k o : Nat → Nat} {A B C : Nat → Int32} {L : Nat → Nat} (hL : Up n k o A B C L) (a : Nat) : ¬ wOut (R0 n k o A B C) nets m a a := fun q => by
  have := wOut_dec (L := L) (fun a b ⟨c, hc, e1, p, hp, e2⟩ => by have := (hL c hc).2 p hp; rw [e1, e2] at this; omega) m a a q
  omega
/-- r is the least net that is a loop, or -1 -/
def LD (R : Nat → Nat → Prop) (nets : Nat) (r : Int32) : Prop := (r = -1 ∧ ∀ j, j < nets → ¬ R j j) ∨ ∃ j, j < nets ∧ r = nI j ∧ R j j ∧ ∀ i, i < j → ¬ R i i
theorem LD.uniq {R : Nat → Nat → Prop} {nets : Nat} {r r' : Int32} (h : LD R nets r) (h' : LD R nets r') : r = r' := by
  rcases h with ⟨e, a⟩ | ⟨j, hj, e, a, b⟩ <;> rcases h' with ⟨e', a'⟩ | ⟨j', hj', e', a', b'⟩
  · rw [e, e']
  · exact absurd a' (a j' hj')
  · exact absurd a (a' j hj)
  · have : j = j' := by
      rcases Nat.lt_trichotomy j j' with q | q | q
      · exact absurd a (b' j q)
      · exact q
      · exact absurd a' (b j' q)
    rw [e, e', this]
/-- rows of bits: the nets below s in F, the others in G -/
def Bits (s : Nat) (F G : Nat → Int64) (R : Nat → Nat → Prop) : Prop := ∀ a, a < 80 → (∀ b, b < s → (R a b ↔ (F a).toBitVec.getLsbD b = true)) ∧ (∀ b, s ≤ b → b < 80 → (R a b ↔ (G a).toBitVec.getLsbD (b - s) = true))
