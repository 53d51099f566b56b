/-! what the law's loop keeps -/
def LC (nn n : Nat) (k o : Nat → Nat) (A B C : Nat → Int32) (q qm v sk tn : Nat → Nat) : Prop :=
  40 ≤ nn ∧ nn ≤ 80 ∧ n ≤ 60 ∧ WfC nn n k o A B C ∧ (∀ j, j < 80 → v j ≤ 3) ∧ (∀ j, j < 80 → sk j ≤ 3) ∧ (∀ i, i < n → q i ≤ 3) ∧ (∀ i, i < n → qm i = q i) ∧ (∀ j, nn ≤ j → j < 80 → tn j = 0)
def LTm (pa tk to : Nat → Nat) (tA tB tC : Nat → Int32) : Prop :=
  pa 0 ≤ 10 ∧ pa 1 ≤ 10 ∧ WfT (pa 0) (sh 0 tk) (sh 0 to) (sh 0 tA) (sh 0 tB) (sh 0 tC) ∧ WfT (pa 1) (sh 1 tk) (sh 1 to) (sh 1 tA) (sh 1 tB) (sh 1 tC)
section LCs
variable {nn n : Nat} {k o : Nat → Nat} {A B C : Nat → Int32} {q qm v sk tn : Nat → Nat}
theorem LC.h40 (h : LC nn n k o A B C q qm v sk tn) : 40 ≤ nn := h.1
theorem LC.h1 (h : LC nn n k o A B C q qm v sk tn) : 1 ≤ nn := Nat.le_trans (by decide) h.1
theorem LC.hnn (h : LC nn n k o A B C q qm v sk tn) : nn ≤ 80 := h.2.1
theorem LC.hn (h : LC nn n k o A B C q qm v sk tn) : n ≤ 60 := h.2.2.1
theorem LC.hw (h : LC nn n k o A B C q qm v sk tn) : WfC nn n k o A B C := h.2.2.2.1
theorem LC.hk (h : LC nn n k o A B C q qm v sk tn) : ∀ i, i < n → k i ≤ 8 := fun i hi => (h.hw i hi).1
theorem LC.hv (h : LC nn n k o A B C q qm v sk tn) : ∀ j, j < 80 → v j ≤ 3 := h.2.2.2.2.1
theorem LC.hvn (h : LC nn n k o A B C q qm v sk tn) : ∀ j, j < nn → v j ≤ 3 := fun j hj => h.hv j (Nat.lt_of_lt_of_le hj h.hnn)
theorem LC.hsk (h : LC nn n k o A B C q qm v sk tn) : ∀ j, j < 80 → sk j ≤ 3 := h.2.2.2.2.2.1
theorem LC.hskn (h : LC nn n k o A B C q qm v sk tn) : ∀ j, j < nn → sk j ≤ 3 := fun j hj => h.hsk j (Nat.lt_of_lt_of_le hj h.hnn)
theorem LC.hq (h : LC nn n k o A B C q qm v sk tn) : ∀ i, i < n → q i ≤ 3 := h.2.2.2.2.2.2.1
theorem LC.hm (h : LC nn n k o A B C q qm v sk tn) : ∀ i, i < n → qm i = q i := h.2.2.2.2.2.2.2.1
theorem LC.hqm (h : LC nn n k o A B C q qm v sk tn) : ∀ i, i < n → qm i ≤ 3 := fun i hi => by rw [h.hm i hi]; exact h.hq i hi
theorem LC.ht (h : LC nn n k o A B C q qm v sk tn) : ∀ j, nn ≤ j → j < 80 → tn j = 0 := h.2.2.2.2.2.2.2.2
theorem evc_h {h h' V : Nat → Nat} {i : Nat} (e : h i = h' i) : evc k A B C h V i = evc k A B C h' V i := by unfold evc; rw [e]
theorem Settled.hc {q' sk' V : Nat → Nat} (h : Settled nn n k o A B C q sk V) (e : ∀ i, i < n → q' i = q i) (es : ∀ j, j < nn → sk' j = sk j) : Settled nn n k o A B C q' sk' V := by
  intro j hj
  have e1 : jf o (evc k A B C q V) j n = jf o (evc k A B C q' V) j n := jf_congr (fun i hi _ => evc_h (e i hi).symm)
  refine (h j hj).trans ?_
  unfold nxt
  rw [es j hj, e1]
theorem SetP.pair {L v2 tn2 q2 v3 tn3 q3 : Nat → Nat} (hU : Up n k o A B C L) (hw : WfC nn n k o A B C) (e : ∀ i, i < n → qm i = q i) (h : SetP nn n k o A B C q sk v tn v2 tn2 q2) (h' : SetP nn n k o A B C qm sk v tn v3 tn3 q3) : v3 = v2 ∧ tn3 = tn2 ∧ ∀ i, i < n → q3 i = q2 i := by
  obtain ⟨a1, a2, a3, a4, a5⟩ := h
  obtain ⟨b1, b2, b3, b4, b5⟩ := h'
  have ev : v3 = v2 := by
    funext j
    by_cases hj : j < nn
    · exact Settled.uniq hU hw (b2.hc (fun i hi => (e i hi).symm) (fun _ _ => rfl)) a2 j hj
    · rw [(b1 j (Nat.not_lt.mp hj)).1, (a1 j (Nat.not_lt.mp hj)).1]
  subst ev
  refine ⟨rfl, ?_, fun i hi => ?_⟩
  · funext j
    by_cases hj : j < nn
    · rw [b4 j hj, a4 j hj]
    · rw [(b1 j (Nat.not_lt.mp hj)).2, (a1 j (Nat.not_lt.mp hj)).2]
  · rw [b5 i hi, a5 i hi, e i hi, evc_h (h := qm) (h' := q) (e i hi)]
theorem LC.set {q0 qm0 sk0 v2 tn2 q2 q3 : Nat → Nat} (h : LC nn n k o A B C q0 qm0 v sk0 tn) (hsk : ∀ j, j < 80 → sk j ≤ 3) (hq : ∀ i, i < n → q i ≤ 3) (hS : SetP nn n k o A B C q sk v tn v2 tn2 q2) (hm : ∀ i, i < n → q3 i = q2 i) : LC nn n k o A B C q2 q3 v2 sk tn2 := by
  obtain ⟨a1, a2, a3, a4, a5⟩ := hS
  refine ⟨h.h40, h.hnn, h.hn, h.hw, fun j hj => ?_, hsk, fun i hi => ?_, hm, fun j h1 h2 => ?_⟩
  · by_cases hn : j < nn
    · exact a3 j hn
    · rw [(a1 j (Nat.not_lt.mp hn)).1]; exact h.hv j hj
  · rw [a5 i hi]
    split
    · exact evc_le h.hw hi a3 (hq i hi)
    · exact hq i hi
  · rw [(a1 j h1).2]; exact h.ht j h1 h2
theorem LC.zero (h : LC nn n k o A B C q qm v sk tn) : LC nn n k o A B C q qm (fun _ => 2) (fun _ => 0) (fun _ => 0) :=
  ⟨h.h40, h.hnn, h.hn, h.hw, fun _ _ => Nat.le_of_ble_eq_true rfl, fun _ _ => Nat.le_of_ble_eq_true rfl, h.hq, h.hm, fun _ _ _ => rfl⟩
theorem HoldP.pair {q1 q2 : Nat → Nat} (e : ∀ i, i < n → qm i = q i) (h : HoldP n k C q q1) (h' : HoldP n k C qm q2) : ∀ i, i < n → q2 i = q1 i := fun i hi => by rw [h i hi, h' i hi, e i hi]
theorem LC.hold {q1 q2 : Nat → Nat} (h : LC nn n k o A B C q qm v sk tn) (h1 : HoldP n k C q q1) (h2 : HoldP n k C qm q2) : LC nn n k o A B C q1 q2 (fun _ => 2) (fun _ => 0) (fun _ => 0) :=
  ⟨h.h40, h.hnn, h.hn, h.hw, fun _ _ => Nat.le_of_ble_eq_true rfl, fun _ _ => Nat.le_of_ble_eq_true rfl, HoldP_le h.hw h1 h.hq, HoldP.pair h.hm h1 h2, fun _ _ _ => rfl⟩
theorem LC.stk {sk2 : Nat → Nat} (h : LC nn n k o A B C q qm v sk tn) (hs : ∀ j, j < 80 → sk2 j ≤ 3) : LC nn n k o A B C q qm v sk2 tn := ⟨h.h40, h.hnn, h.hn, h.hw, h.hv, hs, h.hq, h.hm, h.ht⟩
theorem tnF2 (x : Nat) : tnF 2 x = 0 := tnF_f (fun z => by omega)
theorem reset_pair {L q1 q1' v1 sk1 tn3 tn4 v2 tn2 q2 v3 q3 : Nat → Nat} (h : LC nn n k o A B C q qm v sk tn) (hU : Up n k o A B C L) (ho : HoldP n k C q q1) (ho' : HoldP n k C qm q1') (hz : ∀ j, j < 80 → v1 j = 2 ∧ sk1 j = 0 ∧ tn3 j = 0)
    (hS : SetP nn n k o A B C q1 (fun _ => 0) (fun _ => 2) (fun _ => 0) v2 tn2 q2) (hS' : SetP nn n k o A B C q1' sk1 v1 tn v3 tn4 q3) : (∀ j, j < 80 → v3 j = v2 j) ∧ (∀ j, j < 80 → tn3 j = tn2 j) ∧ (∀ i, i < n → q3 i = q2 i) := by
  have hnn := h.hnn
  obtain ⟨a1, a2, a3, a4, a5⟩ := hS
  obtain ⟨b1, b2, b3, b4, b5⟩ := hS'
  have e1 := HoldP.pair h.hm ho ho'
  have ev : ∀ j, j < nn → v3 j = v2 j := fun j hj => Settled.uniq hU h.hw (b2.hc (sk' := fun _ => 0) (fun i hi => (e1 i hi).symm) (fun t ht => ((hz t (by omega)).2.1).symm)) a2 j hj
  refine ⟨fun j hj => ?_, fun j hj => ?_, fun i hi => ?_⟩
  · by_cases hn : j < nn
    · exact ev j hn
    · rw [(b1 j (Nat.not_lt.mp hn)).1, (a1 j (Nat.not_lt.mp hn)).1]; exact (hz j hj).1
  · rw [(hz j hj).2.2]
    by_cases hn : j < nn
    · rw [a4 j hn, tnF2]
    · rw [(a1 j (Nat.not_lt.mp hn)).2]
  · rw [b5 i hi, a5 i hi, e1 i hi, evc_h (h := q1') (h' := q1) (e1 i hi)]
    split
    · rename_i h7
      exact evc_congr (fun p hp => ev _ (h.hw.inn hi hp))
    · rfl
theorem upd_s {f : Nat → Int32} {i : Nat} {x : Int32} : upd f i x i = x := by simp [upd]
theorem upd_n {f : Nat → Int32} {i j : Nat} {x : Int32} (h : j ≠ i) : upd f i x j = f j := by simp [upd, h]
theorem inP_n {a b c : Int32} {i p : Nat} (h : i ≠ n) : inP (upd A n a) (upd B n b) (upd C n c) i p = inP A B C i p := by unfold inP; rw [upd_n h, upd_n h, upd_n h]
theorem FitsM.at {kn m p : Nat} {a b c : Int32} (h : FitsM kn a b c m) (hp : p < inpN kn) : vp_in (if p = 0 then a else if p = 1 then b else c) m := by
  have h3 := inpN_le kn
  rcases (show p = 0 ∨ p = 1 ∨ p = 2 by omega) with rfl | rfl | rfl
  · exact h.1 hp
  · exact h.2.1 hp
  · exact h.2.2.1 hp
theorem WfC.add {m kn ot : Nat} {a b c : Int32} (hw : WfC m n k o A B C) (hkn : kn ≤ 8) (hot : ot < m) (hf : FitsM kn a b c m) : WfC m (n + 1) (up k n kn) (up o n ot) (upd A n a) (upd B n b) (upd C n c) := by
  intro i hi
  by_cases e : i = n
  · subst e
    have e1 : up k i kn i = kn := up_s
    have e2 : up o i ot i = ot := up_s
    rw [e1, e2, upd_s, upd_s]
    refine ⟨hkn, hot, fun p hp => ?_, fun h8 => hf.2.2.2 h8⟩
    unfold inP
    rw [upd_s, upd_s, upd_s]
    exact hf.at hp
  · have e1 : up k n kn i = k i := up_n e
    have e2 : up o n ot i = o i := up_n e
    have h0 := hw i (by omega)
    rw [e1, e2, upd_n e, upd_n e]
    refine ⟨h0.1, h0.2.1, fun p hp => ?_, h0.2.2.2⟩
    rw [inP_n e]; exact h0.2.2.1 p hp
theorem LC.cell {kn ot : Nat} {a b c : Int32} {q2 q3 : Nat → Nat} (h : LC nn n k o A B C q qm v sk tn) (hkn : kn ≤ 8) (hot : ot < nn) (hf : FitsM kn a b c nn) (h60 : n < 60) (e2 : q2 = up q n (if kn = 8 then c.toNatClampNeg else 2)) (e3 : q3 = up qm n (if kn = 8 then c.toNatClampNeg else 2)) : LC nn (n + 1) (up k n kn) (up o n ot) (upd A n a) (upd B n b) (upd C n c) q2 q3 v sk tn := by
  subst e2; subst e3
  refine ⟨h.h40, h.hnn, by omega, h.hw.add hkn hot hf, h.hv, h.hsk, fun i hi => ?_, fun i hi => ?_, h.ht⟩
  · by_cases e : i = n
    · subst e
      rw [up_s]
      split
      · rename_i h8
        have := vp_lt (hf.2.2.2 h8).2
        omega
      · omega
    · rw [up_n e]; exact h.hq i (by omega)
  · by_cases e : i = n
    · subst e; rw [up_s, up_s]
    · rw [up_n e, up_n e]; exact h.hm i (by omega)
theorem cnt_mono {P : Nat → Prop} {a b : Nat} (h : a ≤ b) : cnt P a ≤ cnt P b := by
  induction h with
  | refl => exact Nat.le_refl _
  | step _ ih => exact Nat.le_trans ih (Nat.le_add_right _ _)
theorem locN_lt2 {x y l : Nat} {Nm : Nat → Prop} (hx : x < nn) (hy : y < nn) (hl : l < 10) (hN : Nm l) : locN x y nn Nm l < nn + cnt (fun t => 2 ≤ t ∧ Nm t) 10 := by
  unfold locN
  split
  · omega
  · split
    · omega
    · have e1 : cnt (fun t => 2 ≤ t ∧ Nm t) (l + 1) = cnt (fun t => 2 ≤ t ∧ Nm t) l + 1 := cnt_t ⟨by omega, hN⟩
      have e2 : cnt (fun t => 2 ≤ t ∧ Nm t) (l + 1) ≤ cnt (fun t => 2 ≤ t ∧ Nm t) 10 := cnt_mono (by omega)
      omega
theorem Copied.pair {n2 : Nat} {k2 o2 no : Nat → Nat} {A2 B2 C2 : Nat → Int32} {k3 o3 q3 k4 o4 q4 : Nat → Nat} {A3 B3 C3 A4 B4 C4 : Nat → Int32} (h : Copied n k o A B C q k2 o2 A2 B2 C2 no n2 k3 o3 A3 B3 C3 q3) (h' : Copied n k o A B C qm k2 o2 A2 B2 C2 no n2 k4 o4 A4 B4 C4 q4) (e : ∀ i, i < n → qm i = q i) :
    (k4 = k3 ∧ o4 = o3 ∧ A4 = A3 ∧ B4 = B3 ∧ C4 = C3) ∧ ∀ i, i < n + n2 → q4 i = q3 i := by
  obtain ⟨a1, a2⟩ := h
  obtain ⟨b1, b2⟩ := h'
  have key : ∀ t, k4 t = k3 t ∧ o4 t = o3 t ∧ A4 t = A3 t ∧ B4 t = B3 t ∧ C4 t = C3 t ∧ (t < n + n2 → q4 t = q3 t) := by
    intro t
    by_cases ht : n ≤ t ∧ t < n + n2
    · have hx : t - n < n2 := by omega
      have et : n + (t - n) = t := by omega
      have c1 := a2 _ hx
      have c2 := b2 _ hx
      rw [et] at c1 c2
      exact ⟨by rw [c1.1, c2.1], by rw [c1.2.1, c2.2.1], by rw [c1.2.2.1, c2.2.2.1], by rw [c1.2.2.2.1, c2.2.2.2.1], by rw [c1.2.2.2.2.1, c2.2.2.2.2.1], fun _ => by rw [c1.2.2.2.2.2, c2.2.2.2.2.2]⟩
    · have c1 := a1 t ht
      have c2 := b1 t ht
      exact ⟨by rw [c1.1, c2.1], by rw [c1.2.1, c2.2.1], by rw [c1.2.2.1, c2.2.2.1], by rw [c1.2.2.2.1, c2.2.2.2.1], by rw [c1.2.2.2.2.1, c2.2.2.2.2.1], fun z => by rw [c1.2.2.2.2.2, c2.2.2.2.2.2]; exact e t (by omega)⟩
  exact ⟨⟨funext fun t => (key t).1, funext fun t => (key t).2.1, funext fun t => (key t).2.2.1, funext fun t => (key t).2.2.2.1, funext fun t => (key t).2.2.2.2.1⟩, fun i hi => (key i).2.2.2.2.2 hi⟩
theorem WfC.copied {n2 x y : Nat} {k2 o2 : Nat → Nat} {A2 B2 C2 : Nat → Int32} {k3 o3 q3 : Nat → Nat} {A3 B3 C3 : Nat → Int32} (hw : WfC nn n k o A B C) (hw2 : WfC 10 n2 k2 o2 A2 B2 C2) (hx : x < nn) (hy : y < nn) (h80 : nn + cnt (fun t => 2 ≤ t ∧ Nmd n2 k2 o2 A2 B2 C2 t) 10 ≤ 80)
    (h : Copied n k o A B C q k2 o2 A2 B2 C2 (locN x y nn (Nmd n2 k2 o2 A2 B2 C2)) n2 k3 o3 A3 B3 C3 q3) : WfC (nn + cnt (fun t => 2 ≤ t ∧ Nmd n2 k2 o2 A2 B2 C2 t) 10) (n + n2) k3 o3 A3 B3 C3 := by
  obtain ⟨a1, a2⟩ := h
  intro i hi
  by_cases hin : i < n
  · have c1 := a1 i (by omega)
    have h0 := hw i hin
    rw [c1.1, c1.2.1, c1.2.2.2.1, c1.2.2.2.2.1]
    refine ⟨h0.1, by omega, fun p hp => ?_, h0.2.2.2⟩
    have : inP A3 B3 C3 i p = inP A B C i p := by unfold inP; rw [c1.2.2.1, c1.2.2.2.1, c1.2.2.2.2.1]
    rw [this]; exact vin_mono (h0.2.2.1 p hp) (by omega)
  · have hx2 : i - n < n2 := by omega
    have et : n + (i - n) = i := by omega
    have c1 := a2 _ hx2
    rw [et] at c1
    have h0 := hw2 _ hx2
    have hloc : ∀ l, l < 10 → Nmd n2 k2 o2 A2 B2 C2 l → locN x y nn (Nmd n2 k2 o2 A2 B2 C2) l < nn + cnt (fun t => 2 ≤ t ∧ Nmd n2 k2 o2 A2 B2 C2 t) 10 := fun l hl hN => locN_lt2 hx hy hl hN
    rw [c1.1, c1.2.1, c1.2.2.2.1, c1.2.2.2.2.1]
    refine ⟨h0.1, hloc _ h0.2.1 ⟨_, hx2, Or.inl rfl⟩, fun p hp => ?_, fun h8 => ?_⟩
    · have h3 := inpN_le (k2 (i - n))
      have e1 : inP A3 B3 C3 i p = plc k2 A2 B2 C2 (locN x y nn (Nmd n2 k2 o2 A2 B2 C2)) (i - n) p := by
        unfold inP
        rcases (show p = 0 ∨ p = 1 ∨ p = 2 by omega) with rfl | rfl | rfl
        · exact c1.2.2.1
        · exact c1.2.2.2.1
        · exact c1.2.2.2.2.1
      rw [e1, ← plc_t hp]
      exact vp_in_nI (hloc _ (vp_lt (h0.2.2.1 p hp)) ⟨_, hx2, Or.inr ⟨p, hp, rfl⟩⟩) (by omega)
    · rw [← plc_f (p := 1) (by rw [h8]; decide), ← plc_f (p := 2) (by rw [h8]; decide)]
      exact h0.2.2.2 h8
theorem LC.inst {n2 x y : Nat} {k2 o2 : Nat → Nat} {A2 B2 C2 : Nat → Int32} {k3 o3 q3 q4 : Nat → Nat} {A3 B3 C3 : Nat → Int32} (h : LC nn n k o A B C q qm v sk tn) (hw2 : WfC 10 n2 k2 o2 A2 B2 C2) (hx : x < nn) (hy : y < nn) (h80 : nn + cnt (fun t => 2 ≤ t ∧ Nmd n2 k2 o2 A2 B2 C2 t) 10 ≤ 80) (h60 : n + n2 ≤ 60)
    (hc : Copied n k o A B C q k2 o2 A2 B2 C2 (locN x y nn (Nmd n2 k2 o2 A2 B2 C2)) n2 k3 o3 A3 B3 C3 q3) (hm : ∀ i, i < n + n2 → q4 i = q3 i) : LC (nn + cnt (fun t => 2 ≤ t ∧ Nmd n2 k2 o2 A2 B2 C2 t) 10) (n + n2) k3 o3 A3 B3 C3 q3 q4 v sk tn := by
  have h40 := h.h40
  refine ⟨by omega, h80, h60, h.hw.copied hw2 hx hy h80 hc, h.hv, h.hsk, fun i hi => ?_, hm, fun j h1 h2 => h.ht j (by omega) h2⟩
  obtain ⟨a1, a2⟩ := hc
  by_cases hin : i < n
  · rw [(a1 i (by omega)).2.2.2.2.2]; exact h.hq i hin
  · have hx2 : i - n < n2 := by omega
    have et : n + (i - n) = i := by omega
    have c1 := (a2 _ hx2).2.2.2.2.2
    rw [et] at c1
    rw [c1]
    split
    · rename_i h8
      have := vp_lt ((hw2 _ hx2).2.2.2 h8).2
      omega
    · omega
end LCs
theorem sh_up {α : Type} {tm p : Nat} {f : Nat → α} {x : α} : sh tm (up f (10 * tm + p) x) = up (sh tm f) p x := by
  funext i
  unfold sh up
  by_cases h : i = p
  · rw [if_pos h, if_pos (by omega)]
  · rw [if_neg h, if_neg (by omega)]
theorem sh_upd {tm p : Nat} {f : Nat → Int32} {x : Int32} : sh tm (upd f (10 * tm + p) x) = upd (sh tm f) p x := by
  funext i
  unfold sh
  by_cases h : i = p
  · rw [h, upd_s, upd_s]
  · rw [upd_n h, upd_n (by omega)]
theorem sh_o {α : Type} {t tm p i : Nat} {f : Nat → α} {x : α} (ht : t ≠ tm) (hp : p < 10) (hi : i < 10) : sh t (up f (10 * tm + p) x) i = sh t f i := by
  unfold sh; exact up_n (by omega)
theorem sh_od {t tm p i : Nat} {f : Nat → Int32} {x : Int32} (ht : t ≠ tm) (hp : p < 10) (hi : i < 10) : sh t (upd f (10 * tm + p) x) i = sh t f i := by
  unfold sh; exact upd_n (by omega)
theorem WfC.congr {m n : Nat} {k o k' o' : Nat → Nat} {A B C A' B' C' : Nat → Int32} (h : WfC m n k o A B C) (e : ∀ i, i < n → k' i = k i ∧ o' i = o i ∧ A' i = A i ∧ B' i = B i ∧ C' i = C i) : WfC m n k' o' A' B' C' := by
  intro i hi
  obtain ⟨e1, e2, e3, e4, e5⟩ := e i hi
  have h0 := h i hi
  rw [e1, e2, e4, e5]
  refine ⟨h0.1, h0.2.1, fun p hp => ?_, h0.2.2.2⟩
  have : inP A' B' C' i p = inP A B C i p := by unfold inP; rw [e3, e4, e5]
  rw [this]; exact h0.2.2.1 p hp
theorem WfT.congr {n : Nat} {k o k' o' : Nat → Nat} {A B C A' B' C' : Nat → Int32} (h : WfT n k o A B C) (e : ∀ i, i < n → k' i = k i ∧ o' i = o i ∧ A' i = A i ∧ B' i = B i ∧ C' i = C i) : WfT n k' o' A' B' C' :=
  ⟨h.1.congr e, fun i hi => by rw [(e i hi).1]; exact h.2 i hi⟩
theorem WfT.add {n kn ot : Nat} {k o : Nat → Nat} {A B C : Nat → Int32} {a b c : Int32} (h : WfT n k o A B C) (hk1 : 1 ≤ kn) (hkn : kn ≤ 8) (hot : ot < 10) (hf : FitsM kn a b c 10) : WfT (n + 1) (up k n kn) (up o n ot) (upd A n a) (upd B n b) (upd C n c) := by
  refine ⟨h.1.add hkn hot hf, fun i hi => ?_⟩
  by_cases e : i = n
  · subst e; rw [up_s]; exact hk1
  · rw [up_n e]; exact h.2 i (by omega)
theorem LTm.part0 {pa tk to : Nat → Nat} {tA tB tC : Nat → Int32} {kn ot : Nat} {a b c : Int32} (h : LTm pa tk to tA tB tC) (hx : pa 0 < 10) (hk1 : 1 ≤ kn) (hkn : kn ≤ 8) (hot : ot < 10) (hf : FitsM kn a b c 10) :
    LTm (up pa 0 (pa 0 + 1)) (up tk (10 * 0 + pa 0) kn) (up to (10 * 0 + pa 0) ot) (upd tA (10 * 0 + pa 0) a) (upd tB (10 * 0 + pa 0) b) (upd tC (10 * 0 + pa 0) c) := by
  obtain ⟨h0, h1, h2, h3⟩ := h
  have e0 : up pa 0 (pa 0 + 1) 0 = pa 0 + 1 := up_s
  have e1 : up pa 0 (pa 0 + 1) 1 = pa 1 := up_n (by decide)
  refine ⟨by rw [e0]; omega, by rw [e1]; exact h1, ?_, ?_⟩
  · rw [e0, sh_up, sh_up, sh_upd, sh_upd, sh_upd]; exact h2.add hk1 hkn hot hf
  · rw [e1]; exact h3.congr (fun i hi => ⟨sh_o (by decide) hx (by omega), sh_o (by decide) hx (by omega), sh_od (by decide) hx (by omega), sh_od (by decide) hx (by omega), sh_od (by decide) hx (by omega)⟩)
theorem LTm.part1 {pa tk to : Nat → Nat} {tA tB tC : Nat → Int32} {kn ot : Nat} {a b c : Int32} (h : LTm pa tk to tA tB tC) (hx : pa 1 < 10) (hk1 : 1 ≤ kn) (hkn : kn ≤ 8) (hot : ot < 10) (hf : FitsM kn a b c 10) :
    LTm (up pa 1 (pa 1 + 1)) (up tk (10 * 1 + pa 1) kn) (up to (10 * 1 + pa 1) ot) (upd tA (10 * 1 + pa 1) a) (upd tB (10 * 1 + pa 1) b) (upd tC (10 * 1 + pa 1) c) := by
  obtain ⟨h0, h1, h2, h3⟩ := h
  have e0 : up pa 1 (pa 1 + 1) 0 = pa 0 := up_n (by decide)
  have e1 : up pa 1 (pa 1 + 1) 1 = pa 1 + 1 := up_s
  refine ⟨by rw [e0]; exact h0, by rw [e1]; omega, ?_, ?_⟩
  · rw [e0]; exact h2.congr (fun i hi => ⟨sh_o (by decide) hx (by omega), sh_o (by decide) hx (by omega), sh_od (by decide) hx (by omega), sh_od (by decide) hx (by omega), sh_od (by decide) hx (by omega)⟩)
  · rw [e1, sh_up, sh_up, sh_upd, sh_upd, sh_upd]; exact h3.add hk1 hkn hot hf
theorem tkQ_pair {n : Nat} {k : Nat → Nat} {A B : Nat → Int32} {v q qm q1 q2 : Nat → Nat} {x : Int32} (e : ∀ i, i < n → qm i = q i) (h1 : ∀ i, i < n → q1 i = tkQ k A B v q x i) (h2 : ∀ i, i < n → q2 i = tkQ k A B v qm x i) : ∀ i, i < n → q2 i = q1 i := fun i hi => by
  rw [h1 i hi, h2 i hi]; unfold tkQ; rw [e i hi]
theorem tkC_pair {n : Nat} {k : Nat → Nat} {A B : Nat → Int32} {v q qm : Nat → Nat} {x : Int32} (e : ∀ i, i < n → qm i = q i) : tkC k A B v q x n = tkC k A B v qm x n := cnt_congr (fun i hi => by rw [e i hi])
theorem cnt_lt2 {v : Nat → Nat} (m : Nat) : cnt (fun j => v j = 0) m + cnt (fun j => v j = 1) m = cnt (fun j => v j < 2) m := by
  induction m with
  | zero => rfl
  | succ m ih =>
    rcases (show v m = 0 ∨ v m = 1 ∨ ¬ v m < 2 by omega) with h | h | h
    · rw [cnt_t (P := fun j => v j = 0) h, cnt_f (P := fun j => v j = 1) (by omega), cnt_t (P := fun j => v j < 2) (by omega)]; omega
    · rw [cnt_f (P := fun j => v j = 0) (by omega), cnt_t (P := fun j => v j = 1) h, cnt_t (P := fun j => v j < 2) (by omega)]; omega
    · rw [cnt_f (P := fun j => v j = 0) (by omega), cnt_f (P := fun j => v j = 1) (by omega), cnt_f (P := fun j => v j < 2) h]; exact ih
theorem sm_ext {tn : Nat → Nat} {a b : Nat} (h : a ≤ b) (e : ∀ j, a ≤ j → j < b → tn j = 0) : sm tn a = sm tn b := by
  induction h with
  | refl => rfl
  | @step m hm ih => rw [show sm tn (m + 1) = sm tn m + tn m from rfl, e m hm (by omega), ← ih (fun j h1 h2 => e j h1 (by omega))]; rfl
theorem lcmp_same {w : Nat → Int64} {a b : Int32} (h : a = b) : lg_cmp (vp_updL w 0 a.toInt64 0) b.toInt64 = 0 := by
  subst h; exact lg_cmp0.mpr (by simp [vp_updL])
theorem nI_inc7 (a : Nat) : nI a + Int32.ofInt 7 = nI (a + 7) := nI_add a 7
theorem up_q {f g : Nat → Nat} {n i y : Nat} (e : ∀ t, t < n → g t = f t) : ∀ t, t < n → up g i y t = up f i y t := by
  intro t ht
  by_cases h : t = i
  · subst h; rw [up_s, up_s]
  · rw [up_n h, up_n h]; exact e t ht
theorem least_ex {P : Nat → Prop} {m : Nat} (h : ¬ ∀ j, j < m → ¬ P j) : ∃ j, j < m ∧ P j ∧ ∀ i, i < j → ¬ P i := by
  induction m with
  | zero => exact absurd (fun j hj => absurd hj (Nat.not_lt_zero j)) h
  | succ m ih =>
    by_cases h2 : ∀ j, j < m → ¬ P j
    · by_cases hm : P m
      · exact ⟨m, Nat.lt_succ_self m, hm, h2⟩
      · exact absurd (fun j hj => by
          rcases Nat.lt_or_eq_of_le (Nat.le_of_lt_succ hj) with q | q
          · exact h2 j q
          · rw [q]; exact hm) h
    · obtain ⟨j, h3, h4, h5⟩ := ih h2
      exact ⟨j, Nat.lt_succ_of_lt h3, h4, h5⟩
theorem LC.start {k o q qm v sk tn : Nat → Nat} {A B C : Nat → Int32} (hv : ∀ j, v j = 2) (hs : ∀ j, sk j = 0) (ht : ∀ j, tn j = 0) : LC 40 0 k o A B C q qm v sk tn :=
  ⟨Nat.le_refl _, by decide, by decide, fun i hi => absurd hi (Nat.not_lt_zero i), fun j _ => by rw [hv j]; decide, fun j _ => by rw [hs j]; decide, fun i hi => absurd hi (Nat.not_lt_zero i), fun i hi => absurd hi (Nat.not_lt_zero i), fun j _ _ => ht j⟩
theorem LTm.start {pa tk to : Nat → Nat} {tA tB tC : Nat → Int32} (h : ∀ j, pa j = 0) : LTm pa tk to tA tB tC := by
  refine ⟨by rw [h]; decide, by rw [h]; decide, ?_, ?_⟩
  · rw [h]; exact ⟨fun i hi => absurd hi (Nat.not_lt_zero i), fun i hi => absurd hi (Nat.not_lt_zero i)⟩
  · rw [h]; exact ⟨fun i hi => absurd hi (Nat.not_lt_zero i), fun i hi => absurd hi (Nat.not_lt_zero i)⟩
/-- the loop's test -/
theorem head_le {L i : Nat} (hL : L < 2 ^ 30) (hi : i < 2 ^ 30) (h : ¬ nI L - 7 < nI i) : i + 7 ≤ L := by
  rcases Nat.lt_or_ge L 7 with q | q
  · exfalso
    apply h
    rw [Int32.lt_iff_toInt_lt, nI_toInt (by omega)]
    rcases (show L = 0 ∨ L = 1 ∨ L = 2 ∨ L = 3 ∨ L = 4 ∨ L = 5 ∨ L = 6 by omega) with rfl | rfl | rfl | rfl | rfl | rfl | rfl
    · have : (nI 0 - 7).toInt = -7 := by decide
      omega
    · have : (nI 1 - 7).toInt = -6 := by decide
      omega
    · have : (nI 2 - 7).toInt = -5 := by decide
      omega
    · have : (nI 3 - 7).toInt = -4 := by decide
      omega
    · have : (nI 4 - 7).toInt = -3 := by decide
      omega
    · have : (nI 5 - 7).toInt = -2 := by decide
      omega
    · have : (nI 6 - 7).toInt = -1 := by decide
      omega
  · have e : nI L - 7 = nI (L - 7) := pk_sub (a := L) (b := 7) q
    rw [e] at h
    have := Nat.not_lt.mp (fun z => h ((nI_ltI (a := L - 7) (b := i) (by omega) (by omega)).mpr z))
    omega
