section LAWC
variable {p_ : Program} {l : Launch} {e_ : Env} {s_ : State} {m_ : MethodId} {b_ : Nat} {below_ : List Frame} {meth_ : Method} {c_ : Code} {A_ : Nat → Prop} {Q_ : State → Prop} {D : va_G} {cI cL cB : ClassId} {L kc ks ii : Nat} {xs : Nat → Int32} {z0 c0 c1 c2 c3 c4 c5 c6 t0 t1 t2 t3 t4 t5 t6 u0 u1 u2 u3 u4 u5 u6 m0 m1 m2 m3 m4 l0 l1 l2 l3 l4 d0 d1 d2 p0 p1 p2 x0 x1 x2 x3 x4 x5 x6 x7 x8 x9 x10 x11 x12 x13 x14 x15 x16 x17 x18 x19 x20 ow : Nat} {sg nn n gr oc nt th : Nat} {bt : Prop} {k o q v cm sk tn g od wt no bf qm dr tk to pa lo q9 q8 : Nat → Nat} {A B C tA tB tC : Nat → Int32} {pl nm : Nat → Prop} {X Y X9 Y9 w0 : Nat → Int64}
set_option maxHeartbeats 4000000 in
theorem law_case_cell (F : Fx p_ s_ m_ #[.ref b_] meth_ c_ code 7 "CircuitSimulatorLaw" A_ D classes (TY cI cL cB)) (hX : va_X b_ L xs s_ s_.heap) (hbl : b_ < s_.heap.size) (hbA : ¬ A_ b_) (hoff : xOff l) (hL : L ≤ 3584) (hiL : ii + 7 ≤ L) (hkc : kc + 1 ≤ 601024) (hks : ks + 6 ≤ 7293034) (hI : LC nn n k o A B C q qm v sk tn) (hR : bt → Ranked nn n k o A B C g od gr) (hT : LTm pa tk to tA tB tC) (K : LK p_ l e_ s_ m_ b_ below_ meth_ c_ A_ Q_ D cI cL cB z0 c0 c1 c2 c3 c4 c5 c6 t0 t1 t2 t3 t4 t5 t6 u0 u1 u2 u3 u4 u5 u6 m0 m1 m2 m3 m4 l0 l1 l2 l3 l4 d0 d1 d2 p0 p1 p2 x0 x1 x2 x3 x4 x5 x6 x7 x8 x9 x10 x11 x12 x13 x14 x15 x16 x17 x18 x19 x20 ow (kc + 1) (ks + 6) (ii + 7)) : V p_ l e_ ({ frames := 10, cells := 601024, slots := 7293034, locals := 364 } : Room) s_ m_ #[.ref b_] below_ meth_ c_ A_ Q_ D classes 7 kc ks (LW cI cL cB z0 c0 c1 c2 c3 c4 c5 c6 t0 t1 t2 t3 t4 t5 t6 u0 u1 u2 u3 u4 u5 u6 m0 m1 m2 m3 m4 l0 l1 l2 l3 l4 d0 d1 d2 p0 p1 p2 x0 x1 x2 x3 x4 x5 x6 x7 x8 x9 x10 x11 x12 x13 x14 x15 x16 x17 x18 x19 x20 ow sg nn n gr oc nt th bt k o q v cm sk tn g od wt no bf qm dr tk to pa lo q9 q8 A B C tA tB tC pl nm X Y X9 Y9 w0) 112 [(0, .ref b_), (1, .ref z0), (2, .ref x0), (3, .ref ow), (4, .int (nI ii))] [] := by
  by_cases h : Fits (xs (ii + 1)) (xs (ii + 2)) (xs (ii + 3)) (xs (ii + 4)) (xs (ii + 5)) nn
  · obtain ⟨kn, hkn, hs1⟩ := vin_ex h.1 (by decide)
    rw [hs1] at h
    obtain ⟨ho, hf⟩ := (Fits_n (by omega)).mp h
    obtain ⟨ot, hot, hs2⟩ := vin_ex ho (by have := hI.hnn; omega)
    by_cases hx : MayD n k o ot kn
    · by_cases h60 : n = 60
      · exact L_cell_3 F hX hbl hbA hoff hL hiL hkc hks hI hR hT K hs1 hs2 (by omega) hot hf hx h60
      · exact L_cell_0 F hX hbl hbA hoff hL hiL hkc hks hI hR hT K hs1 hs2 (by omega) hot hf hx (by have := hI.hn; omega)
    · exact L_cell_2 F hX hbl hbA hoff hL hiL hkc hks hI hR hT K hs1 hs2 (by omega) hot hf hx
  · exact L_cell_1 F hX hbl hbA hoff hL hiL hkc hks hI hR hT K h
set_option maxHeartbeats 4000000 in
theorem law_case_part (F : Fx p_ s_ m_ #[.ref b_] meth_ c_ code 7 "CircuitSimulatorLaw" A_ D classes (TY cI cL cB)) (hX : va_X b_ L xs s_ s_.heap) (hbl : b_ < s_.heap.size) (hbA : ¬ A_ b_) (hoff : xOff l) (hL : L ≤ 3584) (hiL : ii + 7 ≤ L) (hkc : kc + 1 ≤ 601024) (hks : ks + 6 ≤ 7293034) (hI : LC nn n k o A B C q qm v sk tn) (hR : bt → Ranked nn n k o A B C g od gr) (hT : LTm pa tk to tA tB tC) (K : LK p_ l e_ s_ m_ b_ below_ meth_ c_ A_ Q_ D cI cL cB z0 c0 c1 c2 c3 c4 c5 c6 t0 t1 t2 t3 t4 t5 t6 u0 u1 u2 u3 u4 u5 u6 m0 m1 m2 m3 m4 l0 l1 l2 l3 l4 d0 d1 d2 p0 p1 p2 x0 x1 x2 x3 x4 x5 x6 x7 x8 x9 x10 x11 x12 x13 x14 x15 x16 x17 x18 x19 x20 ow (kc + 1) (ks + 6) (ii + 7)) : V p_ l e_ ({ frames := 10, cells := 601024, slots := 7293034, locals := 364 } : Room) s_ m_ #[.ref b_] below_ meth_ c_ A_ Q_ D classes 7 kc ks (LW cI cL cB z0 c0 c1 c2 c3 c4 c5 c6 t0 t1 t2 t3 t4 t5 t6 u0 u1 u2 u3 u4 u5 u6 m0 m1 m2 m3 m4 l0 l1 l2 l3 l4 d0 d1 d2 p0 p1 p2 x0 x1 x2 x3 x4 x5 x6 x7 x8 x9 x10 x11 x12 x13 x14 x15 x16 x17 x18 x19 x20 ow sg nn n gr oc nt th bt k o q v cm sk tn g od wt no bf qm dr tk to pa lo q9 q8 A B C tA tB tC pl nm X Y X9 Y9 w0) 216 [(0, .ref b_), (1, .ref z0), (2, .ref x0), (3, .ref ow), (4, .int (nI ii))] [] := by
  by_cases h : vp_in (xs (ii + 1)) 2 ∧ xs (ii + 2) ≠ 0 ∧ Fits (xs (ii + 2)) (xs (ii + 3)) (xs (ii + 4)) (xs (ii + 5)) (xs (ii + 6)) 10
  · obtain ⟨ht, hz, h⟩ := h
    obtain ⟨tm, htm, hst⟩ := vin_ex ht (by decide)
    obtain ⟨kn, hkn, hs1⟩ := vin_ex h.1 (by decide)
    rw [hs1] at h hz
    obtain ⟨ho, hf⟩ := (Fits_n (by omega)).mp h
    obtain ⟨ot, hot, hs2⟩ := vin_ex ho (by decide)
    have hk1 : 1 ≤ kn := Nat.pos_of_ne_zero (fun z => hz (by rw [z]; rfl))
    rcases (show tm = 0 ∨ tm = 1 by omega) with rfl | rfl
    · by_cases hx : pa 0 = 10
      · exact L_part_f0 F hX hbl hbA hoff hL hiL hkc hks hI hR hT K hst hs1 hs2 hk1 (by omega) hot hf hx
      · exact L_part_0 F hX hbl hbA hoff hL hiL hkc hks hI hR hT K hst hs1 hs2 hk1 (by omega) hot hf (by have := hT.1; omega)
    · by_cases hx : pa 1 = 10
      · exact L_part_f1 F hX hbl hbA hoff hL hiL hkc hks hI hR hT K hst hs1 hs2 hk1 (by omega) hot hf hx
      · exact L_part_1 F hX hbl hbA hoff hL hiL hkc hks hI hR hT K hst hs1 hs2 hk1 (by omega) hot hf (by have := hT.2.1; omega)
  · exact L_part_r F hX hbl hbA hoff hL hiL hkc hks hI hR hT K h
set_option maxHeartbeats 4000000 in
theorem law_case_instance (F : Fx p_ s_ m_ #[.ref b_] meth_ c_ code 7 "CircuitSimulatorLaw" A_ D classes (TY cI cL cB)) (hX : va_X b_ L xs s_ s_.heap) (hbl : b_ < s_.heap.size) (hbA : ¬ A_ b_) (hoff : xOff l) (hL : L ≤ 3584) (hiL : ii + 7 ≤ L) (hkc : kc + 1 ≤ 601024) (hks : ks + 6 ≤ 7293034) (hI : LC nn n k o A B C q qm v sk tn) (hR : bt → Ranked nn n k o A B C g od gr) (hT : LTm pa tk to tA tB tC) (K : LK p_ l e_ s_ m_ b_ below_ meth_ c_ A_ Q_ D cI cL cB z0 c0 c1 c2 c3 c4 c5 c6 t0 t1 t2 t3 t4 t5 t6 u0 u1 u2 u3 u4 u5 u6 m0 m1 m2 m3 m4 l0 l1 l2 l3 l4 d0 d1 d2 p0 p1 p2 x0 x1 x2 x3 x4 x5 x6 x7 x8 x9 x10 x11 x12 x13 x14 x15 x16 x17 x18 x19 x20 ow (kc + 1) (ks + 6) (ii + 7)) : V p_ l e_ ({ frames := 10, cells := 601024, slots := 7293034, locals := 364 } : Room) s_ m_ #[.ref b_] below_ meth_ c_ A_ Q_ D classes 7 kc ks (LW cI cL cB z0 c0 c1 c2 c3 c4 c5 c6 t0 t1 t2 t3 t4 t5 t6 u0 u1 u2 u3 u4 u5 u6 m0 m1 m2 m3 m4 l0 l1 l2 l3 l4 d0 d1 d2 p0 p1 p2 x0 x1 x2 x3 x4 x5 x6 x7 x8 x9 x10 x11 x12 x13 x14 x15 x16 x17 x18 x19 x20 ow sg nn n gr oc nt th bt k o q v cm sk tn g od wt no bf qm dr tk to pa lo q9 q8 A B C tA tB tC pl nm X Y X9 Y9 w0) 334 [(0, .ref b_), (1, .ref z0), (2, .ref x0), (3, .ref ow), (4, .int (nI ii))] [] := by
  by_cases h : vp_in (xs (ii + 1)) 2 ∧ vp_in (xs (ii + 2)) nn ∧ vp_in (xs (ii + 3)) nn
  · obtain ⟨ht, hx, hy⟩ := h
    obtain ⟨tm, htm, hst⟩ := vin_ex ht (by decide)
    obtain ⟨x, hx, hsx⟩ := vin_ex hx (by have := hI.hnn; omega)
    obtain ⟨y, hy, hsy⟩ := vin_ex hy (by have := hI.hnn; omega)
    rcases (show tm = 0 ∨ tm = 1 by omega) with rfl | rfl
    · by_cases hs : Stands n k o (pa 0) (sh 0 tk) (sh 0 to) (locN x y nn (Nmd (pa 0) (sh 0 tk) (sh 0 to) (sh 0 tA) (sh 0 tB) (sh 0 tC)))
      · by_cases hz : 80 < nn + cnt (fun t => 2 ≤ t ∧ Nmd (pa 0) (sh 0 tk) (sh 0 to) (sh 0 tA) (sh 0 tB) (sh 0 tC) t) 10 ∨ 60 < n + pa 0
        · exact L_instance_30 F hX hbl hbA hoff hL hiL hkc hks hI hR hT K hst hsx hsy hx hy hs hz
        · exact L_instance_00 F hX hbl hbA hoff hL hiL hkc hks hI hR hT K hst hsx hsy hx hy hs (by omega) (by omega)
      · exact L_instance_20 F hX hbl hbA hoff hL hiL hkc hks hI hR hT K hst hsx hsy hx hy hs
    · by_cases hs : Stands n k o (pa 1) (sh 1 tk) (sh 1 to) (locN x y nn (Nmd (pa 1) (sh 1 tk) (sh 1 to) (sh 1 tA) (sh 1 tB) (sh 1 tC)))
      · by_cases hz : 80 < nn + cnt (fun t => 2 ≤ t ∧ Nmd (pa 1) (sh 1 tk) (sh 1 to) (sh 1 tA) (sh 1 tB) (sh 1 tC) t) 10 ∨ 60 < n + pa 1
        · exact L_instance_31 F hX hbl hbA hoff hL hiL hkc hks hI hR hT K hst hsx hsy hx hy hs hz
        · exact L_instance_01 F hX hbl hbA hoff hL hiL hkc hks hI hR hT K hst hsx hsy hx hy hs (by omega) (by omega)
      · exact L_instance_21 F hX hbl hbA hoff hL hiL hkc hks hI hR hT K hst hsx hsy hx hy hs
  · exact L_instance_1 F hX hbl hbA hoff hL hiL hkc hks hI hR hT K h
set_option maxHeartbeats 4000000 in
theorem law_case_build (F : Fx p_ s_ m_ #[.ref b_] meth_ c_ code 7 "CircuitSimulatorLaw" A_ D classes (TY cI cL cB)) (hX : va_X b_ L xs s_ s_.heap) (hbl : b_ < s_.heap.size) (hbA : ¬ A_ b_) (hoff : xOff l) (hL : L ≤ 3584) (hiL : ii + 7 ≤ L) (hkc : kc + 1 ≤ 601024) (hks : ks + 6 ≤ 7293034) (hI : LC nn n k o A B C q qm v sk tn) (hR : bt → Ranked nn n k o A B C g od gr) (hT : LTm pa tk to tA tB tC) (K : LK p_ l e_ s_ m_ b_ below_ meth_ c_ A_ Q_ D cI cL cB z0 c0 c1 c2 c3 c4 c5 c6 t0 t1 t2 t3 t4 t5 t6 u0 u1 u2 u3 u4 u5 u6 m0 m1 m2 m3 m4 l0 l1 l2 l3 l4 d0 d1 d2 p0 p1 p2 x0 x1 x2 x3 x4 x5 x6 x7 x8 x9 x10 x11 x12 x13 x14 x15 x16 x17 x18 x19 x20 ow (kc + 1) (ks + 6) (ii + 7)) : V p_ l e_ ({ frames := 10, cells := 601024, slots := 7293034, locals := 364 } : Room) s_ m_ #[.ref b_] below_ meth_ c_ A_ Q_ D classes 7 kc ks (LW cI cL cB z0 c0 c1 c2 c3 c4 c5 c6 t0 t1 t2 t3 t4 t5 t6 u0 u1 u2 u3 u4 u5 u6 m0 m1 m2 m3 m4 l0 l1 l2 l3 l4 d0 d1 d2 p0 p1 p2 x0 x1 x2 x3 x4 x5 x6 x7 x8 x9 x10 x11 x12 x13 x14 x15 x16 x17 x18 x19 x20 ow sg nn n gr oc nt th bt k o q v cm sk tn g od wt no bf qm dr tk to pa lo q9 q8 A B C tA tB tC pl nm X Y X9 Y9 w0) 414 [(0, .ref b_), (1, .ref z0), (2, .ref x0), (3, .ref ow), (4, .int (nI ii))] [] := by
  by_cases hb : bt
  · exact L_build_b F hX hbl hbA hoff hL hiL hkc hks hI hR hT K hb
  · by_cases h : ∃ L, Up n k o A B C L ∧ ∀ c, c < n → L (o c) ≤ 30
    · exact L_build_0 F hX hbl hbA hoff hL hiL hkc hks hI hR hT K hb h
    · exact L_build_1 F hX hbl hbA hoff hL hiL hkc hks hI hR hT K hb h
set_option maxHeartbeats 4000000 in
theorem law_case_loop (F : Fx p_ s_ m_ #[.ref b_] meth_ c_ code 7 "CircuitSimulatorLaw" A_ D classes (TY cI cL cB)) (hX : va_X b_ L xs s_ s_.heap) (hbl : b_ < s_.heap.size) (hbA : ¬ A_ b_) (hoff : xOff l) (hL : L ≤ 3584) (hiL : ii + 7 ≤ L) (hkc : kc + 1 ≤ 601024) (hks : ks + 6 ≤ 7293034) (hI : LC nn n k o A B C q qm v sk tn) (hR : bt → Ranked nn n k o A B C g od gr) (hT : LTm pa tk to tA tB tC) (K : LK p_ l e_ s_ m_ b_ below_ meth_ c_ A_ Q_ D cI cL cB z0 c0 c1 c2 c3 c4 c5 c6 t0 t1 t2 t3 t4 t5 t6 u0 u1 u2 u3 u4 u5 u6 m0 m1 m2 m3 m4 l0 l1 l2 l3 l4 d0 d1 d2 p0 p1 p2 x0 x1 x2 x3 x4 x5 x6 x7 x8 x9 x10 x11 x12 x13 x14 x15 x16 x17 x18 x19 x20 ow (kc + 1) (ks + 6) (ii + 7)) : V p_ l e_ ({ frames := 10, cells := 601024, slots := 7293034, locals := 364 } : Room) s_ m_ #[.ref b_] below_ meth_ c_ A_ Q_ D classes 7 kc ks (LW cI cL cB z0 c0 c1 c2 c3 c4 c5 c6 t0 t1 t2 t3 t4 t5 t6 u0 u1 u2 u3 u4 u5 u6 m0 m1 m2 m3 m4 l0 l1 l2 l3 l4 d0 d1 d2 p0 p1 p2 x0 x1 x2 x3 x4 x5 x6 x7 x8 x9 x10 x11 x12 x13 x14 x15 x16 x17 x18 x19 x20 ow sg nn n gr oc nt th bt k o q v cm sk tn g od wt no bf qm dr tk to pa lo q9 q8 A B C tA tB tC pl nm X Y X9 Y9 w0) 458 [(0, .ref b_), (1, .ref z0), (2, .ref x0), (3, .ref ow), (4, .int (nI ii))] [] := by
  by_cases h : ∀ j, j < nn → ¬ wOut (R0 n k o A B C) nn nn j j
  · exact L_loop_1 F hX hbl hbA hoff hL hiL hkc hks hI hR hT K h
  · obtain ⟨j, hj, hx, hl⟩ := least_ex (P := fun j => wOut (R0 n k o A B C) nn nn j j) h
    exact L_loop_0 F hX hbl hbA hoff hL hiL hkc hks hI hR hT K hj hx hl
set_option maxHeartbeats 4000000 in
theorem law_case_set (F : Fx p_ s_ m_ #[.ref b_] meth_ c_ code 7 "CircuitSimulatorLaw" A_ D classes (TY cI cL cB)) (hX : va_X b_ L xs s_ s_.heap) (hbl : b_ < s_.heap.size) (hbA : ¬ A_ b_) (hoff : xOff l) (hL : L ≤ 3584) (hiL : ii + 7 ≤ L) (hkc : kc + 1 ≤ 601024) (hks : ks + 6 ≤ 7293034) (hI : LC nn n k o A B C q qm v sk tn) (hR : bt → Ranked nn n k o A B C g od gr) (hT : LTm pa tk to tA tB tC) (K : LK p_ l e_ s_ m_ b_ below_ meth_ c_ A_ Q_ D cI cL cB z0 c0 c1 c2 c3 c4 c5 c6 t0 t1 t2 t3 t4 t5 t6 u0 u1 u2 u3 u4 u5 u6 m0 m1 m2 m3 m4 l0 l1 l2 l3 l4 d0 d1 d2 p0 p1 p2 x0 x1 x2 x3 x4 x5 x6 x7 x8 x9 x10 x11 x12 x13 x14 x15 x16 x17 x18 x19 x20 ow (kc + 1) (ks + 6) (ii + 7)) : V p_ l e_ ({ frames := 10, cells := 601024, slots := 7293034, locals := 364 } : Room) s_ m_ #[.ref b_] below_ meth_ c_ A_ Q_ D classes 7 kc ks (LW cI cL cB z0 c0 c1 c2 c3 c4 c5 c6 t0 t1 t2 t3 t4 t5 t6 u0 u1 u2 u3 u4 u5 u6 m0 m1 m2 m3 m4 l0 l1 l2 l3 l4 d0 d1 d2 p0 p1 p2 x0 x1 x2 x3 x4 x5 x6 x7 x8 x9 x10 x11 x12 x13 x14 x15 x16 x17 x18 x19 x20 ow sg nn n gr oc nt th bt k o q v cm sk tn g od wt no bf qm dr tk to pa lo q9 q8 A B C tA tB tC pl nm X Y X9 Y9 w0) 502 [(0, .ref b_), (1, .ref z0), (2, .ref x0), (3, .ref ow), (4, .int (nI ii))] [] := by
  by_cases h : vp_in (xs (ii + 1)) n ∧ k (xs (ii + 1)).toNatClampNeg = 0
  · obtain ⟨i, hi, hs⟩ := vin_ex h.1 (by have := hI.hn; omega)
    have h2 := h.2
    rw [hs, nI_clamp (by have := hI.hn; omega)] at h2
    by_cases hy : vp_in (xs (ii + 2)) 4
    · obtain ⟨y, hy4, hsy⟩ := vin_ex hy (by decide)
      by_cases hb : bt
      · exact L_set_0 F hX hbl hbA hoff hL hiL hkc hks hI hR hT K hs hsy hi h2 hy4 hb
      · exact L_set_3 F hX hbl hbA hoff hL hiL hkc hks hI hR hT K hs hsy hi h2 hy4 hb
    · exact L_set_2 F hX hbl hbA hoff hL hiL hkc hks hI hR hT K hs hi h2 hy
  · exact L_set_1 F hX hbl hbA hoff hL hiL hkc hks hI hR hT K h
set_option maxHeartbeats 4000000 in
theorem law_case_tick (F : Fx p_ s_ m_ #[.ref b_] meth_ c_ code 7 "CircuitSimulatorLaw" A_ D classes (TY cI cL cB)) (hX : va_X b_ L xs s_ s_.heap) (hbl : b_ < s_.heap.size) (hbA : ¬ A_ b_) (hoff : xOff l) (hL : L ≤ 3584) (hiL : ii + 7 ≤ L) (hkc : kc + 1 ≤ 601024) (hks : ks + 6 ≤ 7293034) (hI : LC nn n k o A B C q qm v sk tn) (hR : bt → Ranked nn n k o A B C g od gr) (hT : LTm pa tk to tA tB tC) (K : LK p_ l e_ s_ m_ b_ below_ meth_ c_ A_ Q_ D cI cL cB z0 c0 c1 c2 c3 c4 c5 c6 t0 t1 t2 t3 t4 t5 t6 u0 u1 u2 u3 u4 u5 u6 m0 m1 m2 m3 m4 l0 l1 l2 l3 l4 d0 d1 d2 p0 p1 p2 x0 x1 x2 x3 x4 x5 x6 x7 x8 x9 x10 x11 x12 x13 x14 x15 x16 x17 x18 x19 x20 ow (kc + 1) (ks + 6) (ii + 7)) : V p_ l e_ ({ frames := 10, cells := 601024, slots := 7293034, locals := 364 } : Room) s_ m_ #[.ref b_] below_ meth_ c_ A_ Q_ D classes 7 kc ks (LW cI cL cB z0 c0 c1 c2 c3 c4 c5 c6 t0 t1 t2 t3 t4 t5 t6 u0 u1 u2 u3 u4 u5 u6 m0 m1 m2 m3 m4 l0 l1 l2 l3 l4 d0 d1 d2 p0 p1 p2 x0 x1 x2 x3 x4 x5 x6 x7 x8 x9 x10 x11 x12 x13 x14 x15 x16 x17 x18 x19 x20 ow sg nn n gr oc nt th bt k o q v cm sk tn g od wt no bf qm dr tk to pa lo q9 q8 A B C tA tB tC pl nm X Y X9 Y9 w0) 570 [(0, .ref b_), (1, .ref z0), (2, .ref x0), (3, .ref ow), (4, .int (nI ii))] [] := by
  by_cases h : vp_in (xs (ii + 1)) 2
  · by_cases hb : bt
    · exact L_tick_0 F hX hbl hbA hoff hL hiL hkc hks hI hR hT K h hb
    · exact L_tick_2 F hX hbl hbA hoff hL hiL hkc hks hI hR hT K h hb
  · exact L_tick_1 F hX hbl hbA hoff hL hiL hkc hks hI hR hT K h
set_option maxHeartbeats 4000000 in
theorem law_case_stick (F : Fx p_ s_ m_ #[.ref b_] meth_ c_ code 7 "CircuitSimulatorLaw" A_ D classes (TY cI cL cB)) (hX : va_X b_ L xs s_ s_.heap) (hbl : b_ < s_.heap.size) (hbA : ¬ A_ b_) (hoff : xOff l) (hL : L ≤ 3584) (hiL : ii + 7 ≤ L) (hkc : kc + 1 ≤ 601024) (hks : ks + 6 ≤ 7293034) (hI : LC nn n k o A B C q qm v sk tn) (hR : bt → Ranked nn n k o A B C g od gr) (hT : LTm pa tk to tA tB tC) (K : LK p_ l e_ s_ m_ b_ below_ meth_ c_ A_ Q_ D cI cL cB z0 c0 c1 c2 c3 c4 c5 c6 t0 t1 t2 t3 t4 t5 t6 u0 u1 u2 u3 u4 u5 u6 m0 m1 m2 m3 m4 l0 l1 l2 l3 l4 d0 d1 d2 p0 p1 p2 x0 x1 x2 x3 x4 x5 x6 x7 x8 x9 x10 x11 x12 x13 x14 x15 x16 x17 x18 x19 x20 ow (kc + 1) (ks + 6) (ii + 7)) : V p_ l e_ ({ frames := 10, cells := 601024, slots := 7293034, locals := 364 } : Room) s_ m_ #[.ref b_] below_ meth_ c_ A_ Q_ D classes 7 kc ks (LW cI cL cB z0 c0 c1 c2 c3 c4 c5 c6 t0 t1 t2 t3 t4 t5 t6 u0 u1 u2 u3 u4 u5 u6 m0 m1 m2 m3 m4 l0 l1 l2 l3 l4 d0 d1 d2 p0 p1 p2 x0 x1 x2 x3 x4 x5 x6 x7 x8 x9 x10 x11 x12 x13 x14 x15 x16 x17 x18 x19 x20 ow sg nn n gr oc nt th bt k o q v cm sk tn g od wt no bf qm dr tk to pa lo q9 q8 A B C tA tB tC pl nm X Y X9 Y9 w0) 626 [(0, .ref b_), (1, .ref z0), (2, .ref x0), (3, .ref ow), (4, .int (nI ii))] [] := by
  by_cases h : vp_in (xs (ii + 1)) nn
  · obtain ⟨j, hj, hs⟩ := vin_ex h (by have := hI.hnn; omega)
    by_cases hy : stk (xs (ii + 2))
    · obtain ⟨sv, hsv, he⟩ := hy
      by_cases hb : bt
      · exact L_stick_b F hX hbl hbA hoff hL hiL hkc hks hI hR hT K hs he hj hsv hb
      · exact L_stick_n F hX hbl hbA hoff hL hiL hkc hks hI hR hT K hs he hj hsv hb
    · exact L_stick_2 F hX hbl hbA hoff hL hiL hkc hks hI hR hT K hs hj hy
  · exact L_stick_1 F hX hbl hbA hoff hL hiL hkc hks hI hR hT K h
set_option maxHeartbeats 4000000 in
theorem law_case_value (F : Fx p_ s_ m_ #[.ref b_] meth_ c_ code 7 "CircuitSimulatorLaw" A_ D classes (TY cI cL cB)) (hX : va_X b_ L xs s_ s_.heap) (hbl : b_ < s_.heap.size) (hbA : ¬ A_ b_) (hoff : xOff l) (hL : L ≤ 3584) (hiL : ii + 7 ≤ L) (hkc : kc + 1 ≤ 601024) (hks : ks + 6 ≤ 7293034) (hI : LC nn n k o A B C q qm v sk tn) (hR : bt → Ranked nn n k o A B C g od gr) (hT : LTm pa tk to tA tB tC) (K : LK p_ l e_ s_ m_ b_ below_ meth_ c_ A_ Q_ D cI cL cB z0 c0 c1 c2 c3 c4 c5 c6 t0 t1 t2 t3 t4 t5 t6 u0 u1 u2 u3 u4 u5 u6 m0 m1 m2 m3 m4 l0 l1 l2 l3 l4 d0 d1 d2 p0 p1 p2 x0 x1 x2 x3 x4 x5 x6 x7 x8 x9 x10 x11 x12 x13 x14 x15 x16 x17 x18 x19 x20 ow (kc + 1) (ks + 6) (ii + 7)) : V p_ l e_ ({ frames := 10, cells := 601024, slots := 7293034, locals := 364 } : Room) s_ m_ #[.ref b_] below_ meth_ c_ A_ Q_ D classes 7 kc ks (LW cI cL cB z0 c0 c1 c2 c3 c4 c5 c6 t0 t1 t2 t3 t4 t5 t6 u0 u1 u2 u3 u4 u5 u6 m0 m1 m2 m3 m4 l0 l1 l2 l3 l4 d0 d1 d2 p0 p1 p2 x0 x1 x2 x3 x4 x5 x6 x7 x8 x9 x10 x11 x12 x13 x14 x15 x16 x17 x18 x19 x20 ow sg nn n gr oc nt th bt k o q v cm sk tn g od wt no bf qm dr tk to pa lo q9 q8 A B C tA tB tC pl nm X Y X9 Y9 w0) 694 [(0, .ref b_), (1, .ref z0), (2, .ref x0), (3, .ref ow), (4, .int (nI ii))] [] := by
  by_cases h : vp_in (xs (ii + 1)) nn
  · obtain ⟨j, hj, hs⟩ := vin_ex h (by have := hI.hnn; omega)
    exact L_value_0 F hX hbl hbA hoff hL hiL hkc hks hI hR hT K hs hj
  · exact L_value_1 F hX hbl hbA hoff hL hiL hkc hks hI hR hT K h
set_option maxHeartbeats 4000000 in
theorem law_case_level (F : Fx p_ s_ m_ #[.ref b_] meth_ c_ code 7 "CircuitSimulatorLaw" A_ D classes (TY cI cL cB)) (hX : va_X b_ L xs s_ s_.heap) (hbl : b_ < s_.heap.size) (hbA : ¬ A_ b_) (hoff : xOff l) (hL : L ≤ 3584) (hiL : ii + 7 ≤ L) (hkc : kc + 1 ≤ 601024) (hks : ks + 6 ≤ 7293034) (hI : LC nn n k o A B C q qm v sk tn) (hR : bt → Ranked nn n k o A B C g od gr) (hT : LTm pa tk to tA tB tC) (K : LK p_ l e_ s_ m_ b_ below_ meth_ c_ A_ Q_ D cI cL cB z0 c0 c1 c2 c3 c4 c5 c6 t0 t1 t2 t3 t4 t5 t6 u0 u1 u2 u3 u4 u5 u6 m0 m1 m2 m3 m4 l0 l1 l2 l3 l4 d0 d1 d2 p0 p1 p2 x0 x1 x2 x3 x4 x5 x6 x7 x8 x9 x10 x11 x12 x13 x14 x15 x16 x17 x18 x19 x20 ow (kc + 1) (ks + 6) (ii + 7)) : V p_ l e_ ({ frames := 10, cells := 601024, slots := 7293034, locals := 364 } : Room) s_ m_ #[.ref b_] below_ meth_ c_ A_ Q_ D classes 7 kc ks (LW cI cL cB z0 c0 c1 c2 c3 c4 c5 c6 t0 t1 t2 t3 t4 t5 t6 u0 u1 u2 u3 u4 u5 u6 m0 m1 m2 m3 m4 l0 l1 l2 l3 l4 d0 d1 d2 p0 p1 p2 x0 x1 x2 x3 x4 x5 x6 x7 x8 x9 x10 x11 x12 x13 x14 x15 x16 x17 x18 x19 x20 ow sg nn n gr oc nt th bt k o q v cm sk tn g od wt no bf qm dr tk to pa lo q9 q8 A B C tA tB tC pl nm X Y X9 Y9 w0) 750 [(0, .ref b_), (1, .ref z0), (2, .ref x0), (3, .ref ow), (4, .int (nI ii))] [] := by
  by_cases h : vp_in (xs (ii + 1)) nn
  · obtain ⟨j, hj, hs⟩ := vin_ex h (by have := hI.hnn; omega)
    by_cases hb : bt
    · exact L_level_0 F hX hbl hbA hoff hL hiL hkc hks hI hR hT K hs hj hb
    · exact L_level_2 F hX hbl hbA hoff hL hiL hkc hks hI hR hT K hs hj hb
  · exact L_level_1 F hX hbl hbA hoff hL hiL hkc hks hI hR hT K h
set_option maxHeartbeats 4000000 in
theorem law_case_flips (F : Fx p_ s_ m_ #[.ref b_] meth_ c_ code 7 "CircuitSimulatorLaw" A_ D classes (TY cI cL cB)) (hX : va_X b_ L xs s_ s_.heap) (hbl : b_ < s_.heap.size) (hbA : ¬ A_ b_) (hoff : xOff l) (hL : L ≤ 3584) (hiL : ii + 7 ≤ L) (hkc : kc + 1 ≤ 601024) (hks : ks + 6 ≤ 7293034) (hI : LC nn n k o A B C q qm v sk tn) (hR : bt → Ranked nn n k o A B C g od gr) (hT : LTm pa tk to tA tB tC) (K : LK p_ l e_ s_ m_ b_ below_ meth_ c_ A_ Q_ D cI cL cB z0 c0 c1 c2 c3 c4 c5 c6 t0 t1 t2 t3 t4 t5 t6 u0 u1 u2 u3 u4 u5 u6 m0 m1 m2 m3 m4 l0 l1 l2 l3 l4 d0 d1 d2 p0 p1 p2 x0 x1 x2 x3 x4 x5 x6 x7 x8 x9 x10 x11 x12 x13 x14 x15 x16 x17 x18 x19 x20 ow (kc + 1) (ks + 6) (ii + 7)) : V p_ l e_ ({ frames := 10, cells := 601024, slots := 7293034, locals := 364 } : Room) s_ m_ #[.ref b_] below_ meth_ c_ A_ Q_ D classes 7 kc ks (LW cI cL cB z0 c0 c1 c2 c3 c4 c5 c6 t0 t1 t2 t3 t4 t5 t6 u0 u1 u2 u3 u4 u5 u6 m0 m1 m2 m3 m4 l0 l1 l2 l3 l4 d0 d1 d2 p0 p1 p2 x0 x1 x2 x3 x4 x5 x6 x7 x8 x9 x10 x11 x12 x13 x14 x15 x16 x17 x18 x19 x20 ow sg nn n gr oc nt th bt k o q v cm sk tn g od wt no bf qm dr tk to pa lo q9 q8 A B C tA tB tC pl nm X Y X9 Y9 w0) 806 [(0, .ref b_), (1, .ref z0), (2, .ref x0), (3, .ref ow), (4, .int (nI ii))] [] := by
  by_cases h : vp_in (xs (ii + 1)) nn
  · obtain ⟨j, hj, hs⟩ := vin_ex h (by have := hI.hnn; omega)
    exact L_flips_0 F hX hbl hbA hoff hL hiL hkc hks hI hR hT K hs hj
  · exact L_flips_1 F hX hbl hbA hoff hL hiL hkc hks hI hR hT K h
set_option maxHeartbeats 4000000 in
theorem law_case_state (F : Fx p_ s_ m_ #[.ref b_] meth_ c_ code 7 "CircuitSimulatorLaw" A_ D classes (TY cI cL cB)) (hX : va_X b_ L xs s_ s_.heap) (hbl : b_ < s_.heap.size) (hbA : ¬ A_ b_) (hoff : xOff l) (hL : L ≤ 3584) (hiL : ii + 7 ≤ L) (hkc : kc + 1 ≤ 601024) (hks : ks + 6 ≤ 7293034) (hI : LC nn n k o A B C q qm v sk tn) (hR : bt → Ranked nn n k o A B C g od gr) (hT : LTm pa tk to tA tB tC) (K : LK p_ l e_ s_ m_ b_ below_ meth_ c_ A_ Q_ D cI cL cB z0 c0 c1 c2 c3 c4 c5 c6 t0 t1 t2 t3 t4 t5 t6 u0 u1 u2 u3 u4 u5 u6 m0 m1 m2 m3 m4 l0 l1 l2 l3 l4 d0 d1 d2 p0 p1 p2 x0 x1 x2 x3 x4 x5 x6 x7 x8 x9 x10 x11 x12 x13 x14 x15 x16 x17 x18 x19 x20 ow (kc + 1) (ks + 6) (ii + 7)) : V p_ l e_ ({ frames := 10, cells := 601024, slots := 7293034, locals := 364 } : Room) s_ m_ #[.ref b_] below_ meth_ c_ A_ Q_ D classes 7 kc ks (LW cI cL cB z0 c0 c1 c2 c3 c4 c5 c6 t0 t1 t2 t3 t4 t5 t6 u0 u1 u2 u3 u4 u5 u6 m0 m1 m2 m3 m4 l0 l1 l2 l3 l4 d0 d1 d2 p0 p1 p2 x0 x1 x2 x3 x4 x5 x6 x7 x8 x9 x10 x11 x12 x13 x14 x15 x16 x17 x18 x19 x20 ow sg nn n gr oc nt th bt k o q v cm sk tn g od wt no bf qm dr tk to pa lo q9 q8 A B C tA tB tC pl nm X Y X9 Y9 w0) 862 [(0, .ref b_), (1, .ref z0), (2, .ref x0), (3, .ref ow), (4, .int (nI ii))] [] := by
  by_cases h : vp_in (xs (ii + 1)) n ∧ 6 < k (xs (ii + 1)).toNatClampNeg
  · obtain ⟨i, hi, hs⟩ := vin_ex h.1 (by have := hI.hn; omega)
    have h2 := h.2
    rw [hs, nI_clamp (by have := hI.hn; omega)] at h2
    exact L_state_0 F hX hbl hbA hoff hL hiL hkc hks hI hR hT K hs hi h2
  · exact L_state_1 F hX hbl hbA hoff hL hiL hkc hks hI hR hT K h
set_option maxHeartbeats 4000000 in
theorem law_case_reset (F : Fx p_ s_ m_ #[.ref b_] meth_ c_ code 7 "CircuitSimulatorLaw" A_ D classes (TY cI cL cB)) (hX : va_X b_ L xs s_ s_.heap) (hbl : b_ < s_.heap.size) (hbA : ¬ A_ b_) (hoff : xOff l) (hL : L ≤ 3584) (hiL : ii + 7 ≤ L) (hkc : kc + 1 ≤ 601024) (hks : ks + 6 ≤ 7293034) (hI : LC nn n k o A B C q qm v sk tn) (hR : bt → Ranked nn n k o A B C g od gr) (hT : LTm pa tk to tA tB tC) (K : LK p_ l e_ s_ m_ b_ below_ meth_ c_ A_ Q_ D cI cL cB z0 c0 c1 c2 c3 c4 c5 c6 t0 t1 t2 t3 t4 t5 t6 u0 u1 u2 u3 u4 u5 u6 m0 m1 m2 m3 m4 l0 l1 l2 l3 l4 d0 d1 d2 p0 p1 p2 x0 x1 x2 x3 x4 x5 x6 x7 x8 x9 x10 x11 x12 x13 x14 x15 x16 x17 x18 x19 x20 ow (kc + 1) (ks + 6) (ii + 7)) : V p_ l e_ ({ frames := 10, cells := 601024, slots := 7293034, locals := 364 } : Room) s_ m_ #[.ref b_] below_ meth_ c_ A_ Q_ D classes 7 kc ks (LW cI cL cB z0 c0 c1 c2 c3 c4 c5 c6 t0 t1 t2 t3 t4 t5 t6 u0 u1 u2 u3 u4 u5 u6 m0 m1 m2 m3 m4 l0 l1 l2 l3 l4 d0 d1 d2 p0 p1 p2 x0 x1 x2 x3 x4 x5 x6 x7 x8 x9 x10 x11 x12 x13 x14 x15 x16 x17 x18 x19 x20 ow sg nn n gr oc nt th bt k o q v cm sk tn g od wt no bf qm dr tk to pa lo q9 q8 A B C tA tB tC pl nm X Y X9 Y9 w0) 918 [(0, .ref b_), (1, .ref z0), (2, .ref x0), (3, .ref ow), (4, .int (nI ii))] [] := by
  by_cases hb : bt
  · exact L_reset_b F hX hbl hbA hoff hL hiL hkc hks hI hR hT K hb
  · exact L_reset_n F hX hbl hbA hoff hL hiL hkc hks hI hR hT K hb
set_option maxHeartbeats 4000000 in
theorem law_case_count (F : Fx p_ s_ m_ #[.ref b_] meth_ c_ code 7 "CircuitSimulatorLaw" A_ D classes (TY cI cL cB)) (hX : va_X b_ L xs s_ s_.heap) (hbl : b_ < s_.heap.size) (hbA : ¬ A_ b_) (hoff : xOff l) (hL : L ≤ 3584) (hiL : ii + 7 ≤ L) (hkc : kc + 1 ≤ 601024) (hks : ks + 6 ≤ 7293034) (hI : LC nn n k o A B C q qm v sk tn) (hR : bt → Ranked nn n k o A B C g od gr) (hT : LTm pa tk to tA tB tC) (K : LK p_ l e_ s_ m_ b_ below_ meth_ c_ A_ Q_ D cI cL cB z0 c0 c1 c2 c3 c4 c5 c6 t0 t1 t2 t3 t4 t5 t6 u0 u1 u2 u3 u4 u5 u6 m0 m1 m2 m3 m4 l0 l1 l2 l3 l4 d0 d1 d2 p0 p1 p2 x0 x1 x2 x3 x4 x5 x6 x7 x8 x9 x10 x11 x12 x13 x14 x15 x16 x17 x18 x19 x20 ow (kc + 1) (ks + 6) (ii + 7)) : V p_ l e_ ({ frames := 10, cells := 601024, slots := 7293034, locals := 364 } : Room) s_ m_ #[.ref b_] below_ meth_ c_ A_ Q_ D classes 7 kc ks (LW cI cL cB z0 c0 c1 c2 c3 c4 c5 c6 t0 t1 t2 t3 t4 t5 t6 u0 u1 u2 u3 u4 u5 u6 m0 m1 m2 m3 m4 l0 l1 l2 l3 l4 d0 d1 d2 p0 p1 p2 x0 x1 x2 x3 x4 x5 x6 x7 x8 x9 x10 x11 x12 x13 x14 x15 x16 x17 x18 x19 x20 ow sg nn n gr oc nt th bt k o q v cm sk tn g od wt no bf qm dr tk to pa lo q9 q8 A B C tA tB tC pl nm X Y X9 Y9 w0) 931 [(0, .ref b_), (1, .ref z0), (2, .ref x0), (3, .ref ow), (4, .int (nI ii))] [] := by
  by_cases h : vp_in (xs (ii + 1)) 8
  · obtain ⟨j, hj, hs⟩ := vin_ex h (by decide)
    rcases (show j = 0 ∨ j = 1 ∨ j = 2 ∨ j = 3 ∨ j = 4 ∨ j = 5 ∨ j = 6 ∨ j = 7 by omega) with rfl | rfl | rfl | rfl | rfl | rfl | rfl | rfl
    · exact L_count_0 F hX hbl hbA hoff hL hiL hkc hks hI hR hT K hs
    · exact L_count_1 F hX hbl hbA hoff hL hiL hkc hks hI hR hT K hs
    · exact L_count_2 F hX hbl hbA hoff hL hiL hkc hks hI hR hT K hs
    · exact L_count_3 F hX hbl hbA hoff hL hiL hkc hks hI hR hT K hs
    · exact L_count_4 F hX hbl hbA hoff hL hiL hkc hks hI hR hT K hs
    · exact L_count_5 F hX hbl hbA hoff hL hiL hkc hks hI hR hT K hs
    · exact L_count_6 F hX hbl hbA hoff hL hiL hkc hks hI hR hT K hs
    · exact L_count_7 F hX hbl hbA hoff hL hiL hkc hks hI hR hT K hs
  · exact L_count_x F hX hbl hbA hoff hL hiL hkc hks hI hR hT K h
set_option maxHeartbeats 4000000 in
set_option maxRecDepth 100000 in
theorem law_step (F : Fx p_ s_ m_ #[.ref b_] meth_ c_ code 7 "CircuitSimulatorLaw" A_ D classes (TY cI cL cB)) (hX : va_X b_ L xs s_ s_.heap) (hbl : b_ < s_.heap.size) (hbA : ¬ A_ b_) (hoff : xOff l) (hL : L ≤ 3584) (hiL : ii + 7 ≤ L) (hkc : kc + 1 ≤ 601024) (hks : ks + 6 ≤ 7293034) (hI : LC nn n k o A B C q qm v sk tn) (hR : bt → Ranked nn n k o A B C g od gr) (hT : LTm pa tk to tA tB tC) (K : LK p_ l e_ s_ m_ b_ below_ meth_ c_ A_ Q_ D cI cL cB z0 c0 c1 c2 c3 c4 c5 c6 t0 t1 t2 t3 t4 t5 t6 u0 u1 u2 u3 u4 u5 u6 m0 m1 m2 m3 m4 l0 l1 l2 l3 l4 d0 d1 d2 p0 p1 p2 x0 x1 x2 x3 x4 x5 x6 x7 x8 x9 x10 x11 x12 x13 x14 x15 x16 x17 x18 x19 x20 ow (kc + 1) (ks + 6) (ii + 7)) : V p_ l e_ ({ frames := 10, cells := 601024, slots := 7293034, locals := 364 } : Room) s_ m_ #[.ref b_] below_ meth_ c_ A_ Q_ D classes 7 kc ks (LW cI cL cB z0 c0 c1 c2 c3 c4 c5 c6 t0 t1 t2 t3 t4 t5 t6 u0 u1 u2 u3 u4 u5 u6 m0 m1 m2 m3 m4 l0 l1 l2 l3 l4 d0 d1 d2 p0 p1 p2 x0 x1 x2 x3 x4 x5 x6 x7 x8 x9 x10 x11 x12 x13 x14 x15 x16 x17 x18 x19 x20 ow sg nn n gr oc nt th bt k o q v cm sk tn g od wt no bf qm dr tk to pa lo q9 q8 A B C tA tB tC pl nm X Y X9 Y9 w0) 33 [(0, .ref b_), (1, .ref z0), (2, .ref x0), (3, .ref ow), (4, .int (nI ii))] [] := by
  refine V_aload_n F 0 d_law_33 rfl rfl ?_
  refine V_iload F 4 d_law_34 rfl ?_
  refine V_sld F hX hbl hbA (k := ii) (by omega) (by omega) d_law_36 ?_
  refine V_bipush F (v := 15) d_law_37 rfl ?_
  refine V_iand F d_law_39 ?_
  by_cases sw : (xs ii &&& 15).toInt < 0 ∨ 13 < (xs ii &&& 15).toInt
  · refine V_tableOut F 987 d_law_40 sw (by decide) ?_
    refine V_iinc F 4 (v := nI (ii + 7)) (lv' := [(4, .int (nI (ii + 7))), (0, .ref b_), (1, .ref z0), (2, .ref x0), (3, .ref ow)]) d_law_987 rfl (nI_inc7 _) (by decide) rfl ?_
    refine V_goto F 23 d_law_990 (by decide) ?_
    refine V_lv [1, 2, 3, 4, 0] rfl ?_
    refine V_widen (k := kc + 1) (n := ks + 6) (by omega) (by omega) ?_
    exact K _ _ _ _ _ _ _ _ _ _ _ _ _ _ _ _ _ _ _ _ _ _ _ _ _ _ _ _ _ _ _ _ _ _ _ _ _ _ _ _ _ hI hR hT
  · rcases sw_0_13 (x := xs ii &&& 15) (by omega) (by omega) with h | h | h | h | h | h | h | h | h | h | h | h | h | h
    · refine V_top (y := 0) h ?_
      refine V_tableIn F 112 d_law_40 (by decide) (by decide) rfl (by decide) ?_
      exact law_case_cell F hX hbl hbA hoff hL hiL hkc hks hI hR hT K
    · refine V_top (y := 1) h ?_
      refine V_tableIn F 216 d_law_40 (by decide) (by decide) rfl (by decide) ?_
      exact law_case_part F hX hbl hbA hoff hL hiL hkc hks hI hR hT K
    · refine V_top (y := 2) h ?_
      refine V_tableIn F 334 d_law_40 (by decide) (by decide) rfl (by decide) ?_
      exact law_case_instance F hX hbl hbA hoff hL hiL hkc hks hI hR hT K
    · refine V_top (y := 3) h ?_
      refine V_tableIn F 414 d_law_40 (by decide) (by decide) rfl (by decide) ?_
      exact law_case_build F hX hbl hbA hoff hL hiL hkc hks hI hR hT K
    · refine V_top (y := 4) h ?_
      refine V_tableIn F 458 d_law_40 (by decide) (by decide) rfl (by decide) ?_
      exact law_case_loop F hX hbl hbA hoff hL hiL hkc hks hI hR hT K
    · refine V_top (y := 5) h ?_
      refine V_tableIn F 502 d_law_40 (by decide) (by decide) rfl (by decide) ?_
      exact law_case_set F hX hbl hbA hoff hL hiL hkc hks hI hR hT K
    · refine V_top (y := 6) h ?_
      refine V_tableIn F 570 d_law_40 (by decide) (by decide) rfl (by decide) ?_
      exact law_case_tick F hX hbl hbA hoff hL hiL hkc hks hI hR hT K
    · refine V_top (y := 7) h ?_
      refine V_tableIn F 626 d_law_40 (by decide) (by decide) rfl (by decide) ?_
      exact law_case_stick F hX hbl hbA hoff hL hiL hkc hks hI hR hT K
    · refine V_top (y := 8) h ?_
      refine V_tableIn F 694 d_law_40 (by decide) (by decide) rfl (by decide) ?_
      exact law_case_value F hX hbl hbA hoff hL hiL hkc hks hI hR hT K
    · refine V_top (y := 9) h ?_
      refine V_tableIn F 750 d_law_40 (by decide) (by decide) rfl (by decide) ?_
      exact law_case_level F hX hbl hbA hoff hL hiL hkc hks hI hR hT K
    · refine V_top (y := 10) h ?_
      refine V_tableIn F 806 d_law_40 (by decide) (by decide) rfl (by decide) ?_
      exact law_case_flips F hX hbl hbA hoff hL hiL hkc hks hI hR hT K
    · refine V_top (y := 11) h ?_
      refine V_tableIn F 862 d_law_40 (by decide) (by decide) rfl (by decide) ?_
      exact law_case_state F hX hbl hbA hoff hL hiL hkc hks hI hR hT K
    · refine V_top (y := 12) h ?_
      refine V_tableIn F 918 d_law_40 (by decide) (by decide) rfl (by decide) ?_
      exact law_case_reset F hX hbl hbA hoff hL hiL hkc hks hI hR hT K
    · refine V_top (y := 13) h ?_
      refine V_tableIn F 931 d_law_40 (by decide) (by decide) rfl (by decide) ?_
      exact law_case_count F hX hbl hbA hoff hL hiL hkc hks hI hR hT K

end LAWC
