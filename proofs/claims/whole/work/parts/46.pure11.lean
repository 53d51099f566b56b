/-! rows and pure rows for the model's public methods -/
section QV3
variable {p : Program} {l : Launch} {e : Env} {R : Room} {s : State} {m : MethodId} {args : Array Value} {below : List Frame} {meth : Method} {c : Code} {A : Nat → Prop} {Q : State → Prop} {D : va_G} {cl : List vw_C} {tys : List (ClassId × FieldType)} {nL cells slots : Nat} {cc : ByteArray} {own : String} {w : va_W} {lv : List (Nat × Value)} {st : List Value} {pc : Nat}
theorem st_inj {a b : Nat} (ha : a < 2 ^ 31) (hb : b < 2 ^ 31) : nI a - 1 = nI b - 1 ↔ a = b := by
  constructor
  · intro h
    have e : nI a - 1 + 1 = nI b - 1 + 1 := by rw [h]
    rw [Int32.sub_add_cancel, Int32.sub_add_cancel] at e
    exact (nI_eq ha hb).mp e
  · intro h; rw [h]
theorem V_icmpss_eq (F : Fx p s m args meth c cc nL own A D cl tys) {a b : Nat} {off : Int} (tgt : Nat) (ha : a < 2 ^ 31) (hb : b < 2 ^ 31) (d : decode cc pc = .ok (.if_icmp .eq off, 3)) (ht : (pc : Int) + off = (tgt : Int)) (kt : a = b → V p l e R s m args below meth c A Q D cl nL cells slots w tgt lv st) (kf : a ≠ b → V p l e R s m args below meth c A Q D cl nL cells slots w (pc + 3) lv st) : V p l e R s m args below meth c A Q D cl nL cells slots w pc lv (.int (nI b - 1) :: .int (nI a - 1) :: st) :=
  V_icmp_eq F tgt d ht (fun h => kt ((st_inj ha hb).mp h)) (fun h => kf (fun q => h ((st_inj ha hb).mpr q)))
theorem V_icmpss_ne (F : Fx p s m args meth c cc nL own A D cl tys) {a b : Nat} {off : Int} (tgt : Nat) (ha : a < 2 ^ 31) (hb : b < 2 ^ 31) (d : decode cc pc = .ok (.if_icmp .ne off, 3)) (ht : (pc : Int) + off = (tgt : Int)) (kt : a ≠ b → V p l e R s m args below meth c A Q D cl nL cells slots w tgt lv st) (kf : a = b → V p l e R s m args below meth c A Q D cl nL cells slots w (pc + 3) lv st) : V p l e R s m args below meth c A Q D cl nL cells slots w pc lv (.int (nI b - 1) :: .int (nI a - 1) :: st) :=
  V_icmp_ne F tgt d ht (fun h => kt (fun q => h ((st_inj ha hb).mpr q))) (fun h => kf ((st_inj ha hb).mp h))
end QV3
theorem in_iff2 {x : Int32} {m : Nat} (hm : m < 2 ^ 31) : (¬ x < 0 ∧ ¬ nI m - 1 < x) ↔ vp_in x m := by
  by_cases h1 : 1 ≤ m
  · rw [st_sub h1]; exact in_iff h1 hm
  · have e : m = 0 := by omega
    subst e
    constructor
    · rintro ⟨a, b⟩
      obtain ⟨j, hj, rfl⟩ := nI_of a
      refine absurd ?_ b
      show (-1 : Int32) < nI j
      rw [Int32.lt_iff_toInt_lt, nI_toInt hj]
      have : (-1 : Int32).toInt = -1 := by decide
      rw [this]; omega
    · intro h; exact absurd (vp_lt h) (Nat.not_lt_zero _)
/-- what a tick does to the states, and how many of them change -/
noncomputable def tkQ (k : Nat → Nat) (A B : Nat → Int32) (v q : Nat → Nat) (cl : Int32) (i : Nat) : Nat := @ite Nat (k i = 8 ∧ B i = cl) (Classical.propDecidable _) (asI (v (A i).toNatClampNeg)) (q i)
noncomputable def tkC (k : Nat → Nat) (A B : Nat → Int32) (v q : Nat → Nat) (cl : Int32) (n : Nat) : Nat := cnt (fun i => (k i = 8 ∧ B i = cl) ∧ q i ≠ asI (v (A i).toNatClampNeg)) n
theorem tkQ_t {k : Nat → Nat} {A B : Nat → Int32} {v q : Nat → Nat} {cl : Int32} {i : Nat} (h : k i = 8 ∧ B i = cl) : tkQ k A B v q cl i = asI (v (A i).toNatClampNeg) := by unfold tkQ; rw [if_pos h]
theorem tkQ_f {k : Nat → Nat} {A B : Nat → Int32} {v q : Nat → Nat} {cl : Int32} {i : Nat} (h : ¬ (k i = 8 ∧ B i = cl)) : tkQ k A B v q cl i = q i := by unfold tkQ; rw [if_neg h]
theorem tq_t {n i : Nat} {k : Nat → Nat} {A B : Nat → Int32} {v q q2 : Nat → Nat} {cl : Int32} (h : ∀ t, t < n → q2 t = if t < i then tkQ k A B v q cl t else q t) (hi : k i = 8 ∧ B i = cl) : ∀ t, t < n → up q2 i (asI (v (A i).toNatClampNeg)) t = if t < i + 1 then tkQ k A B v q cl t else q t := by
  intro t ht
  by_cases z : t = i
  · subst z; rw [up_s, if_pos (show t < t + 1 by omega), tkQ_t hi]
  · rw [up_n z, h t ht]
    by_cases y : t < i
    · rw [if_pos y, if_pos (show t < i + 1 by omega)]
    · rw [if_neg y, if_neg (show ¬ t < i + 1 by omega)]
theorem tq_f {n i : Nat} {k : Nat → Nat} {A B : Nat → Int32} {v q q2 : Nat → Nat} {cl : Int32} (h : ∀ t, t < n → q2 t = if t < i then tkQ k A B v q cl t else q t) (hi : ¬ (k i = 8 ∧ B i = cl)) : ∀ t, t < n → q2 t = if t < i + 1 then tkQ k A B v q cl t else q t := by
  intro t ht
  rw [h t ht]
  by_cases z : t = i
  · subst z; rw [if_neg (Nat.lt_irrefl t), if_pos (show t < t + 1 by omega), tkQ_f hi]
  · by_cases y : t < i
    · rw [if_pos y, if_pos (show t < i + 1 by omega)]
    · rw [if_neg y, if_neg (show ¬ t < i + 1 by omega)]
theorem up_le {f : Nat → Nat} {n i y M : Nat} (h : ∀ t, t < n → f t ≤ M) (hy : y ≤ M) : ∀ t, t < n → up f i y t ≤ M := by
  intro t ht
  by_cases z : t = i
  · subst z; rw [up_s]; exact hy
  · rw [up_n z]; exact h t ht
theorem tkQ_le {nn n : Nat} {k o : Nat → Nat} {A B C : Nat → Int32} {v q : Nat → Nat} {cl : Int32} {i : Nat} (hw : WfC nn n k o A B C) (hv : ∀ j, j < nn → v j ≤ 3) (hq : ∀ i, i < n → q i ≤ 3) (hi : i < n) : tkQ k A B v q cl i ≤ 3 := by
  by_cases h : k i = 8 ∧ B i = cl
  · rw [tkQ_t h]
    have hvA : vp_in (A i) nn := (hw i hi).2.2.1 0 (by rw [h.1]; decide)
    exact Nat.le_trans (asI_le (hv _ (vp_lt hvA))) (by decide)
  · rw [tkQ_f h]; exact hq i hi
/-- a value at which a net may be stuck, or -1 -/
def stk (y : Int32) : Prop := ∃ s : Nat, s ≤ 3 ∧ y = nI s - 1
theorem stk_s {s : Nat} (h : s ≤ 3) : stk (nI s - 1) := ⟨s, h, rfl⟩
theorem stk_iff {y : Int32} : (¬ y < -1 ∧ ¬ 2 < y) ↔ stk y := by
  constructor
  · rintro ⟨a, b⟩
    have h1 : -1 ≤ y.toInt := by
      have := Int32.not_lt.mp a
      rw [Int32.le_iff_toInt_le] at this
      have e : (-1 : Int32).toInt = -1 := by decide
      omega
    have h2 : y.toInt ≤ 2 := by
      have := Int32.not_lt.mp b
      rw [Int32.le_iff_toInt_le] at this
      have e : (2 : Int32).toInt = 2 := by decide
      omega
    have h3 : y.toInt = -1 ∨ y.toInt = 0 ∨ y.toInt = 1 ∨ y.toInt = 2 := by omega
    rcases h3 with e | e | e | e
    · exact ⟨0, by decide, Int32.toInt_inj.mp (by rw [e]; decide)⟩
    · exact ⟨1, by decide, Int32.toInt_inj.mp (by rw [e]; decide)⟩
    · exact ⟨2, by decide, Int32.toInt_inj.mp (by rw [e]; decide)⟩
    · exact ⟨3, by decide, Int32.toInt_inj.mp (by rw [e]; decide)⟩
  · rintro ⟨s, hs, rfl⟩
    rcases (show s = 0 ∨ s = 1 ∨ s = 2 ∨ s = 3 by omega) with rfl | rfl | rfl | rfl <;> decide
def HoldP (n : Nat) (k : Nat → Nat) (C : Nat → Int32) (q q2 : Nat → Nat) : Prop := ∀ t, t < n → q2 t = if k t = 8 then (C t).toNatClampNeg else if k t = 7 then 2 else q t
theorem HoldP_le {nn n : Nat} {k o : Nat → Nat} {A B C : Nat → Int32} {q q2 : Nat → Nat} (hw : WfC nn n k o A B C) (h : HoldP n k C q q2) (hq : ∀ i, i < n → q i ≤ 3) : ∀ i, i < n → q2 i ≤ 3 := by
  intro i hi
  rw [h i hi]
  split
  next e => have := vp_lt ((hw i hi).2.2.2 e).2; omega
  next =>
    split
    · omega
    · exact hq i hi
