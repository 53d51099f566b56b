/-! PURE: bits of longs -/
theorem lg_cmp0 {x y : Int64} : lg_cmp x y = 0 ↔ x = y := by
  unfold lg_cmp
  constructor
  · intro h
    by_cases a : x > y
    · rw [if_pos a] at h; exact absurd h (by decide)
    · rw [if_neg a] at h
      by_cases b : x = y
      · exact b
      · rw [if_neg b] at h; exact absurd h (by decide)
  · intro h
    subst h
    rw [if_neg (by intro q; exact absurd q (by have := Int64.lt_irrefl (a := x); exact this)), if_pos rfl]
set_option maxRecDepth 100000 in
theorem sh_one : ∀ b, b < 60 → ((1 : Int64) <<< ((nI b).toInt64 &&& 63)).toBitVec = BitVec.twoPow 64 b := by decide +kernel
set_option maxRecDepth 100000 in
theorem sh_amt : ∀ b, b < 60 → (((nI b).toInt64 &&& 63).toBitVec.smod 64).toNat = b := by decide +kernel
theorem or_bit {x : Int64} {b c : Nat} (hb : b < 60) : (x ||| (1 : Int64) <<< ((nI b).toInt64 &&& 63)).toBitVec.getLsbD c = true ↔ (x.toBitVec.getLsbD c = true ∨ c = b) := by
  rw [Int64.toBitVec_or, sh_one b hb, BitVec.getLsbD_or, BitVec.getLsbD_twoPow]
  simp only [Bool.or_eq_true, Bool.and_eq_true, decide_eq_true_eq]
  constructor
  · rintro (h | ⟨-, h⟩)
    · exact Or.inl h
    · exact Or.inr h.symm
  · rintro (h | h)
    · exact Or.inl h
    · exact Or.inr ⟨by omega, h.symm⟩
theorem or_bits {x y : Int64} {c : Nat} : (x ||| y).toBitVec.getLsbD c = true ↔ (x.toBitVec.getLsbD c = true ∨ y.toBitVec.getLsbD c = true) := by
  rw [Int64.toBitVec_or, BitVec.getLsbD_or, Bool.or_eq_true]
theorem and_bit {x : Int64} {b : Nat} (hb : b < 60) : (x &&& (1 : Int64) <<< ((nI b).toInt64 &&& 63)) = 0 ↔ ¬ x.toBitVec.getLsbD b = true := by
  have e : (x &&& (1 : Int64) <<< ((nI b).toInt64 &&& 63)).toBitVec = if x.toBitVec.getLsbD b then BitVec.twoPow 64 b else 0#64 := by
    rw [Int64.toBitVec_and, sh_one b hb, BitVec.and_twoPow]
  constructor
  · intro h q
    rw [h, if_pos q] at e
    have e2 := congrArg (fun z => z.getLsbD b) e
    simp only [BitVec.getLsbD_twoPow] at e2
    have e3 : (0 : Int64).toBitVec.getLsbD b = false := by
      show (0#64).getLsbD b = false
      simp
    rw [e3] at e2
    simp at e2
    omega
  · intro q
    rw [if_neg q] at e
    exact Int64.toBitVec_inj.mp e
theorem shr_bit {x : Int64} {b : Nat} (hb : b < 60) : ((x >>> ((nI b).toInt64 &&& 63)) &&& 1) = 0 ↔ ¬ x.toBitVec.getLsbD b = true := by
  have e1 : (x >>> ((nI b).toInt64 &&& 63)).toBitVec.getLsbD 0 = x.toBitVec.getLsbD b := by
    rw [Int64.toBitVec_shiftRight, BitVec.sshiftRight', sh_amt b hb, BitVec.getLsbD_sshiftRight]
    simp
    intro h1
    omega
  have e : ((x >>> ((nI b).toInt64 &&& 63)) &&& 1).toBitVec = if x.toBitVec.getLsbD b then BitVec.twoPow 64 0 else 0#64 := by
    rw [Int64.toBitVec_and, show (1 : Int64).toBitVec = BitVec.twoPow 64 0 from rfl, BitVec.and_twoPow, e1]
  constructor
  · intro h q
    rw [h, if_pos q] at e
    exact absurd e (by decide)
  · intro q
    rw [if_neg q] at e
    exact Int64.toBitVec_inj.mp e
theorem Bits.congr {s : Nat} {F G : Nat → Int64} {R R' : Nat → Nat → Prop} (h : Bits s F G R) (e : ∀ a b, R a b ↔ R' a b) : Bits s F G R' := by
  have : R = R' := funext fun a => funext fun b => propext (e a b)
  rw [← this]; exact h
theorem Bits.zero (s : Nat) {F G : Nat → Int64} {R : Nat → Nat → Prop} (hF : ∀ a, a < 80 → F a = 0) (hG : ∀ a, a < 80 → G a = 0) (hR : ∀ a b, ¬ R a b) : Bits s F G R := fun a ha => by
  refine ⟨fun b _ => ⟨fun q => absurd q (hR a b), fun q => ?_⟩, fun b _ _ => ⟨fun q => absurd q (hR a b), fun q => ?_⟩⟩
  · rw [hF a ha] at q
    have : (0 : Int64).toBitVec.getLsbD b = false := by show (0#64).getLsbD b = false; simp
    rw [this] at q; cases q
  · rw [hG a ha] at q
    have : (0 : Int64).toBitVec.getLsbD (b - s) = false := by show (0#64).getLsbD (b - s) = false; simp
    rw [this] at q; cases q
/-- one pair more -/
theorem Bits.note1 {s : Nat} {F G : Nat → Int64} {R : Nat → Nat → Prop} {a b : Nat} (h : Bits s F G R) (hs : s ≤ 60) (hb : b < s) : Bits s (vp_updL F a (F a ||| (1 : Int64) <<< ((nI b).toInt64 &&& 63))) G (fun x y => R x y ∨ (x = a ∧ y = b)) := fun x hx => by
  refine ⟨fun y hy => ?_, fun y hy1 hy2 => ?_⟩
  · by_cases q : x = a
    · subst q
      rw [pk_uLs, or_bit (by omega), ← (h x hx).1 y hy]
      exact ⟨fun z => z.imp id (fun w => w.2), fun z => z.imp id (fun w => ⟨rfl, w⟩)⟩
    · rw [pk_uLn q, ← (h x hx).1 y hy]
      exact ⟨fun z => z.elim id (fun w => absurd w.1 q), Or.inl⟩
  · rw [← (h x hx).2 y hy1 hy2]
    exact ⟨fun z => z.elim id (fun w => by omega), Or.inl⟩
theorem Bits.note2 {s : Nat} {F G : Nat → Int64} {R : Nat → Nat → Prop} {a b : Nat} (h : Bits s F G R) (hs : 20 ≤ s) (hb : s ≤ b) (hb2 : b < 80) : Bits s F (vp_updL G a (G a ||| (1 : Int64) <<< ((nI (b - s)).toInt64 &&& 63))) (fun x y => R x y ∨ (x = a ∧ y = b)) := fun x hx => by
  refine ⟨fun y hy => ?_, fun y hy1 hy2 => ?_⟩
  · rw [← (h x hx).1 y hy]
    exact ⟨fun z => z.elim id (fun w => by omega), Or.inl⟩
  · by_cases q : x = a
    · subst q
      rw [pk_uLs, or_bit (by omega), ← (h x hx).2 y hy1 hy2]
      exact ⟨fun z => z.imp id (fun w => by omega), fun z => z.imp id (fun w => ⟨rfl, by omega⟩)⟩
    · rw [pk_uLn q, ← (h x hx).2 y hy1 hy2]
      exact ⟨fun z => z.elim id (fun w => absurd w.1 q), Or.inl⟩
/-- a row and another's -/
theorem Bits.row {s : Nat} {F G : Nat → Int64} {R : Nat → Nat → Prop} {x m : Nat} (h : Bits s F G R) (hm : m < 80) (hon : R x m) : Bits s (vp_updL F x (F x ||| F m)) (vp_updL G x (G x ||| G m)) (wS R m x) := fun a ha => by
  refine ⟨fun b hb => ?_, fun b hb1 hb2 => ?_⟩
  · by_cases q : a = x
    · subst q
      rw [pk_uLs, or_bits, ← (h a ha).1 b hb, ← (h m hm).1 b hb]
      exact ⟨fun z => z.imp id (fun w => w.2.2), fun z => z.imp id (fun w => ⟨rfl, hon, w⟩)⟩
    · rw [pk_uLn q, ← (h a ha).1 b hb]
      exact ⟨fun z => z.elim id (fun w => absurd w.1 q), Or.inl⟩
  · by_cases q : a = x
    · subst q
      rw [pk_uLs, or_bits, ← (h a ha).2 b hb1 hb2, ← (h m hm).2 b hb1 hb2]
      exact ⟨fun z => z.imp id (fun w => w.2.2), fun z => z.imp id (fun w => ⟨rfl, hon, w⟩)⟩
    · rw [pk_uLn q, ← (h a ha).2 b hb1 hb2]
      exact ⟨fun z => z.elim id (fun w => absurd w.1 q), Or.inl⟩
theorem Bits.norow {s : Nat} {F G : Nat → Int64} {R : Nat → Nat → Prop} {x m : Nat} (h : Bits s F G R) (hoff : ¬ R x m) : Bits s F G (wS R m x) := h.congr (fun a b => ⟨Or.inl, fun z => z.elim id (fun w => absurd w.2.1 hoff)⟩)
theorem R0_next {i : Nat} {k o : Nat → Nat} {A B C : Nat → Int32} {p : Nat} (hp : p = depN (k i)) (a b : Nat) : (R0 i k o A B C a b ∨ (o i = a ∧ ∃ t, t < p ∧ iN A B C i t = b)) ↔ R0 (i + 1) k o A B C a b := by
  subst hp
  constructor
  · rintro (⟨c, hc, e⟩ | ⟨e1, e2⟩)
    · exact ⟨c, by omega, e⟩
    · exact ⟨i, by omega, e1, e2⟩
  · rintro ⟨c, hc, e⟩
    by_cases q : c = i
    · subst q; exact Or.inr e
    · exact Or.inl ⟨c, by omega, e⟩
theorem R0_0 {i : Nat} {k o : Nat → Nat} {A B C : Nat → Int32} (a b : Nat) : R0 i k o A B C a b ↔ (R0 i k o A B C a b ∨ (o i = a ∧ ∃ t, t < 0 ∧ iN A B C i t = b)) :=
  ⟨Or.inl, fun z => z.elim id (fun ⟨_, t, ht, _⟩ => absurd ht (Nat.not_lt_zero t))⟩
theorem R0_p {i p : Nat} {k o : Nat → Nat} {A B C : Nat → Int32} (a b : Nat) : ((R0 i k o A B C a b ∨ (o i = a ∧ ∃ t, t < p ∧ iN A B C i t = b)) ∨ (a = o i ∧ b = iN A B C i p)) ↔ (R0 i k o A B C a b ∨ (o i = a ∧ ∃ t, t < p + 1 ∧ iN A B C i t = b)) := by
  constructor
  · rintro ((z | ⟨e, t, ht, f⟩) | ⟨e, f⟩)
    · exact Or.inl z
    · exact Or.inr ⟨e, t, by omega, f⟩
    · exact Or.inr ⟨e.symm, p, by omega, f.symm⟩
  · rintro (z | ⟨e, t, ht, f⟩)
    · exact Or.inl (Or.inl z)
    · by_cases q : t = p
      · subst q; exact Or.inr ⟨e.symm, f.symm⟩
      · exact Or.inl (Or.inr ⟨e, t, by omega, f⟩)
