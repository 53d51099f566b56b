/-! PURE: the class's settling, cell after cell in an order in which each comes behind all that it depends on -/
def Topo (n : Nat) (k o : Nat → Nat) (A B C : Nat → Int32) (od : Nat → Nat) : Prop := (∀ t, t < n → od t < n) ∧ (∀ t t', t < n → t' < n → od t = od t' → t = t') ∧ (∀ i, i < n → ∃ t, t < n ∧ od t = i) ∧ (∀ t, t < n → ∀ p, p < depN (k (od t)) → ∀ i, i < n → o i = iN A B C (od t) p → ∃ t', t' < t ∧ od t' = i)
def SIv (nets n : Nat) (k o : Nat → Nat) (A B C : Nat → Int32) (h sk od : Nat → Nat) (t : Nat) (V hd : Nat → Nat) : Prop :=
  ∃ d : Nat → Nat, (∀ j, j < nets → sk j ≠ 0 → V j = sk j - 1) ∧ (∀ j, j < nets → sk j = 0 → IsJ (fun z => ∃ t', t' < t ∧ o (od t') = j ∧ z = d (od t')) (V j)) ∧ (∀ t', t' < t → d (od t') = evc k A B C h V (od t')) ∧ (∀ i, i < n → (k i = 7 ∧ (∃ t', t' < t ∧ od t' = i) → hd i = d i) ∧ (¬ (k i = 7 ∧ (∃ t', t' < t ∧ od t' = i)) → hd i = h i)) ∧ (∀ j, j < nets → V j ≤ 3)
theorem SIv.start {nets n : Nat} {k o : Nat → Nat} {A B C : Nat → Int32} {h sk od V : Nat → Nat} (hsk : ∀ j, j < nets → sk j ≤ 3) (h1 : ∀ j, j < nets → V j = if sk j = 0 then 3 else sk j - 1) : SIv nets n k o A B C h sk od 0 V h := by
  refine ⟨h, fun j hj hs => ?_, fun j hj hs => ?_, fun t' ht => absurd ht (Nat.not_lt_zero _), fun i hi => ⟨fun ⟨_, t', ht, _⟩ => absurd ht (Nat.not_lt_zero _), fun _ => rfl⟩, fun j hj => ?_⟩
  · rw [h1 j hj, if_neg hs]
  · rw [h1 j hj, if_pos hs]
    exact IsJ.none (fun z ⟨t', ht, _⟩ => absurd ht (Nat.not_lt_zero _))
  · rw [h1 j hj]
    have := hsk j hj
    split <;> omega
theorem SIv.hd_same {nets n : Nat} {k o : Nat → Nat} {A B C : Nat → Int32} {h sk od V hd : Nat → Nat} {t : Nat} (hI : SIv nets n k o A B C h sk od t V hd) (hT : Topo n k o A B C od) (ht : t < n) : hd (od t) = h (od t) := by
  obtain ⟨d, -, -, -, h4, -⟩ := hI
  refine (h4 _ (hT.1 t ht)).2 (fun ⟨_, t', ht', he⟩ => ?_)
  have := hT.2.1 t' t (by omega) ht he
  omega
theorem SIv.step {nets n : Nat} {k o : Nat → Nat} {A B C : Nat → Int32} {h sk od V hd : Nat → Nat} {t : Nat} (hI : SIv nets n k o A B C h sk od t V hd) (hT : Topo n k o A B C od) (ht : t < n) (hx3 : evc k A B C hd V (od t) ≤ 3) :
    SIv nets n k o A B C h sk od (t + 1) (if sk (o (od t)) = 0 then up V (o (od t)) (jn (V (o (od t))) (evc k A B C hd V (od t))) else V) (if k (od t) = 7 then up hd (od t) (evc k A B C hd V (od t)) else hd) := by
  have hsame := hI.hd_same hT ht
  have hev : evc k A B C hd V (od t) = evc k A B C h V (od t) := by unfold evc; rw [hsame]
  obtain ⟨d, h1, h2, h3, h4, h5⟩ := hI
  have hne : ∀ t', t' < t → od t' ≠ od t := fun t' ht' he => by have := hT.2.1 t' t (by omega) ht he; omega
  rw [hev] at hx3 ⊢
  obtain ⟨x, hx⟩ : ∃ x, x = evc k A B C h V (od t) := ⟨_, rfl⟩
  rw [← hx] at hx3 ⊢
  obtain ⟨V', hV'⟩ : ∃ V', V' = (if sk (o (od t)) = 0 then up V (o (od t)) (jn (V (o (od t))) x) else V) := ⟨_, rfl⟩
  rw [← hV']
  have hVn : ∀ j, j ≠ o (od t) → V' j = V j := fun j hj => by rw [hV']; split; exact up_n hj; rfl
  have hVs : sk (o (od t)) ≠ 0 → ∀ j, V' j = V j := fun q j => by rw [hV', if_neg q]
  have hVo : sk (o (od t)) = 0 → V' (o (od t)) = jn (V (o (od t))) x := fun q => by rw [hV', if_pos q]; exact up_s
  have hcong : ∀ t', t' ≤ t → evc k A B C h V' (od t') = evc k A B C h V (od t') := fun t' ht' => evc_congr (fun p hp => by
    refine hVn _ (fun q => ?_)
    obtain ⟨t'', a, b⟩ := hT.2.2.2 t' (by omega) p hp (od t) (hT.1 t ht) q.symm
    exact hne t'' (by omega) b)
  refine ⟨up d (od t) x, fun j hj hs => ?_, fun j hj hs => ?_, fun t' ht' => ?_, fun i hi => ⟨fun hk => ?_, fun hk => ?_⟩, fun j hj => ?_⟩
  · have e1 : V' j = V j := by
      by_cases hs2 : sk (o (od t)) = 0
      · exact hVn j (fun q => hs (by rw [q]; exact hs2))
      · exact hVs hs2 j
    rw [e1]
    exact h1 j hj hs
  · by_cases hj2 : j = o (od t)
    · subst hj2
      rw [hVo hs]
      refine (h2 _ hj hs).step.congr (fun z => ⟨fun q => ?_, fun ⟨t', a, b, e⟩ => ?_⟩)
      · rcases q with ⟨t', a, b, e⟩ | q
        · exact ⟨t', by omega, b, by rw [up_n (hne t' a)]; exact e⟩
        · exact ⟨t, by omega, rfl, by rw [up_s]; exact q⟩
      · by_cases htt : t' = t
        · subst htt; rw [up_s] at e; exact Or.inr e
        · have : t' < t := by omega
          rw [up_n (hne t' this)] at e
          exact Or.inl ⟨t', this, b, e⟩
    · rw [hVn j hj2]
      refine (h2 j hj hs).congr (fun z => ⟨fun ⟨t', a, b, e⟩ => ⟨t', by omega, b, by rw [up_n (hne t' a)]; exact e⟩, fun ⟨t', a, b, e⟩ => ?_⟩)
      have : t' ≠ t := fun q => hj2 (by rw [← b, q])
      have : t' < t := by omega
      rw [up_n (hne t' this)] at e
      exact ⟨t', this, b, e⟩
  · rw [hcong t' (by omega)]
    by_cases htt : t' = t
    · subst htt; rw [up_s]; exact hx
    · have : t' < t := by omega
      rw [up_n (hne t' this)]
      exact h3 t' this
  · by_cases hit : i = od t
    · subst hit
      rw [if_pos hk.1, up_s, up_s]
    · obtain ⟨t', a, b⟩ := hk.2
      have : t' ≠ t := fun q => hit (by rw [← b, q])
      rw [up_n hit]
      have e1 := (h4 i hi).1 ⟨hk.1, t', by omega, b⟩
      split
      · rw [up_n hit]; exact e1
      · exact e1
  · have e1 : ¬ (k i = 7 ∧ ∃ t', t' < t ∧ od t' = i) := fun ⟨q, t', a, b⟩ => hk ⟨q, t', by omega, b⟩
    have e2 := (h4 i hi).2 e1
    split
    next q =>
      have hit : i ≠ od t := fun z => hk ⟨by rw [z]; exact q, t, by omega, z.symm⟩
      rw [up_n hit]; exact e2
    next => exact e2
  · by_cases hs : sk (o (od t)) = 0
    · by_cases hj2 : j = o (od t)
      · subst hj2; rw [hVo hs]; exact jn_le (h5 _ hj) hx3
      · rw [hVn j hj2]; exact h5 j hj
    · rw [hVs hs]; exact h5 j hj
theorem SIv.done {nets n : Nat} {k o : Nat → Nat} {A B C : Nat → Int32} {h sk od V hd : Nat → Nat} (hI : SIv nets n k o A B C h sk od n V hd) (hT : Topo n k o A B C od) : Settled nets n k o A B C h sk V ∧ (∀ i, i < n → hd i = if k i = 7 then evc k A B C h V i else h i) ∧ ∀ j, j < nets → V j ≤ 3 := by
  obtain ⟨d, h1, h2, h3, h4, h5⟩ := hI
  refine ⟨fun j hj => ?_, fun i hi => ?_, h5⟩
  · unfold nxt
    split
    next q =>
      refine ((h2 j hj q).congr (fun z => ⟨fun ⟨t', a, b, e⟩ => ⟨od t', hT.1 t' a, b, by rw [e]; exact h3 t' a⟩, fun ⟨i, a, b, e⟩ => ?_⟩)).uniq (jf_is _ _ _ _)
      obtain ⟨t', c1, c2⟩ := hT.2.2.1 i a
      exact ⟨t', c1, by rw [c2]; exact b, by rw [h3 t' c1, c2]; exact e⟩
    next q => exact h1 j hj q
  · obtain ⟨t', c1, c2⟩ := hT.2.2.1 i hi
    split
    next q => rw [(h4 i hi).1 ⟨q, t', c1, c2⟩, ← c2]; exact h3 t' c1
    next q => exact (h4 i hi).2 (fun z => q z.1)
