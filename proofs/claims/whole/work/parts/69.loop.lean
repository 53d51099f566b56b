section LAWL
variable {p_ : Program} {l : Launch} {e_ : Env} {s_ : State} {m_ : MethodId} {b_ : Nat} {below_ : List Frame} {meth_ : Method} {c_ : Code} {A_ : Nat → Prop} {Q_ : State → Prop} {D : va_G} {cI cL cB : ClassId} {L kc ks ii : Nat} {xs : Nat → Int32} {z0 c0 c1 c2 c3 c4 c5 c6 t0 t1 t2 t3 t4 t5 t6 u0 u1 u2 u3 u4 u5 u6 m0 m1 m2 m3 m4 l0 l1 l2 l3 l4 d0 d1 d2 p0 p1 p2 x0 x1 x2 x3 x4 x5 x6 x7 x8 x9 x10 x11 x12 x13 x14 x15 x16 x17 x18 x19 x20 ow : Nat} {sg nn n gr oc nt th : Nat} {bt : Prop} {k o q v cm sk tn g od wt no bf qm dr tk to pa lo q9 q8 : Nat → Nat} {A B C tA tB tC : Nat → Int32} {pl nm : Nat → Prop} {X Y X9 Y9 w0 : Nat → Int64}
set_option maxHeartbeats 4000000 in
theorem law_end1 {w : va_W} {lv : List (Nat × Value)} (F : Fx p_ s_ m_ #[.ref b_] meth_ c_ code 7 "CircuitSimulatorLaw" A_ D classes (TY cI cL cB)) (hL : L ≤ 3584) (hr : meth_.sig.returnType = ret) (hAs : ∀ q, A_ q → s_.heap.size ≤ q) (hQ : Q_ = lw_Z below_ #[Value.ref b_] s_) (hkc : kc ≤ 601024) (hks : ks ≤ 7293034) : V p_ l e_ ({ frames := 10, cells := 601024, slots := 7293034, locals := 364 } : Room) s_ m_ #[.ref b_] below_ meth_ c_ A_ Q_ D classes 7 kc ks w 993 lv [] := by
  refine V_iconst F (v := 1) d_law_993 rfl ?_
  intro ls H locs hl hP hD hS
  rw [hQ]
  refine va_forget (fun q hq => hAs _ (hS.2.2 q hq)) ?_
  refine W.widen (k := 601024) (n := 7293034) hkc hks ?_
  exact lw_ret F.x F.b hr F.lk d_law_994
set_option maxHeartbeats 4000000 in
theorem law_end {w : va_W} (F : Fx p_ s_ m_ #[.ref b_] meth_ c_ code 7 "CircuitSimulatorLaw" A_ D classes (TY cI cL cB)) (hX : va_X b_ L xs s_ s_.heap) (hbl : b_ < s_.heap.size) (hbA : ¬ A_ b_) (hL : L ≤ 3584) (hr : meth_.sig.returnType = ret) (hAs : ∀ q, A_ q → s_.heap.size ≤ q) (hQ : Q_ = lw_Z below_ #[Value.ref b_] s_) (h7 : L < ii + 7) (hi : ii < 2 ^ 30) (hL2 : L < 2 ^ 30) (hkc : kc ≤ 601024) (hks : ks ≤ 7293034) : V p_ l e_ ({ frames := 10, cells := 601024, slots := 7293034, locals := 364 } : Room) s_ m_ #[.ref b_] below_ meth_ c_ A_ Q_ D classes 7 kc ks w 23 [(0, .ref b_), (1, .ref z0), (2, .ref x0), (3, .ref ow), (4, .int (nI ii))] [] := by
  refine V_iload F 4 d_law_23 rfl ?_
  refine V_aload_n F 0 d_law_25 rfl rfl ?_
  refine V_slen F hX hbl hbA d_law_26 ?_
  refine V_bipush F (v := 7) d_law_27 rfl ?_
  refine V_isub F d_law_29 ?_
  refine V_icmp_gt F 993 d_law_30 (by decide) (fun h30 => ?_) (fun h30 => ?_)
  · exact law_end1 F hL hr hAs hQ hkc hks
  · exact absurd (head_le hL2 hi h30) (by omega)
set_option maxHeartbeats 4000000 in
set_option maxRecDepth 100000 in
theorem law_loop (F : Fx p_ s_ m_ #[.ref b_] meth_ c_ code 7 "CircuitSimulatorLaw" A_ D classes (TY cI cL cB)) (hX : va_X b_ L xs s_ s_.heap) (hbl : b_ < s_.heap.size) (hbA : ¬ A_ b_) (hoff : xOff l) (hL : L ≤ 3584) (hr : meth_.sig.returnType = ret) (hAs : ∀ q, A_ q → s_.heap.size ≤ q) (hQ : Q_ = lw_Z below_ #[Value.ref b_] s_) : ∀ (f t : Nat), L < 7 * t + f → 7 * t ≤ L + 7 → LK p_ l e_ s_ m_ b_ below_ meth_ c_ A_ Q_ D cI cL cB z0 c0 c1 c2 c3 c4 c5 c6 t0 t1 t2 t3 t4 t5 t6 u0 u1 u2 u3 u4 u5 u6 m0 m1 m2 m3 m4 l0 l1 l2 l3 l4 d0 d1 d2 p0 p1 p2 x0 x1 x2 x3 x4 x5 x6 x7 x8 x9 x10 x11 x12 x13 x14 x15 x16 x17 x18 x19 x20 ow (60 + t) (2344 + 6 * t) (7 * t) := by
  intro f
  induction f with
  | zero => intro t h1 h2 sg nn n gr oc nt th bt k o q v cm sk tn g od wt no bf qm dr tk to pa lo q9 q8 A B C tA tB tC pl nm X Y X9 Y9 w0 hI hR hT; exact law_end F hX hbl hbA hL hr hAs hQ (by omega) (by omega) (by omega) (by omega) (by omega)
  | succ f ih =>
    intro t h1 h2 sg nn n gr oc nt th bt k o q v cm sk tn g od wt no bf qm dr tk to pa lo q9 q8 A B C tA tB tC pl nm X Y X9 Y9 w0 hI hR hT
    by_cases hlt : L < 7 * t + 7
    · exact law_end F hX hbl hbA hL hr hAs hQ (by omega) (by omega) (by omega) (by omega) (by omega)
    · refine V_iload F 4 d_law_23 rfl ?_
      refine V_aload_n F 0 d_law_25 rfl rfl ?_
      refine V_slen F hX hbl hbA d_law_26 ?_
      refine V_bipush F (v := 7) d_law_27 rfl ?_
      refine V_isub F d_law_29 ?_
      refine V_icmp_gt F 993 d_law_30 (by decide) (fun h30 => ?_) (fun h30 => ?_)
      · exact law_end1 F hL hr hAs hQ (by omega) (by omega)
      · exact law_step F hX hbl hbA hoff hL (by omega) (by omega) (by omega) hI hR hT (by
          have K := ih (t + 1) (by omega) (by omega)
          rw [show 60 + (t + 1) = 60 + t + 1 from rfl, show 2344 + 6 * (t + 1) = 2344 + 6 * t + 6 by omega, show 7 * (t + 1) = 7 * t + 7 by omega] at K
          exact K)
end LAWL
